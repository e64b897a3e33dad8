set_option maxHeartbeats 4000000 in
set_option maxRecDepth 100000 in
theorem c_F_fitsCaster0 (l : Launch) (G : va_G) (cI cB cZ cO : ClassId) (ad : Nat → Nat) (w : Nat → va_E) (z a b c0 d : Int32)    (pf : w 55 = .inr (5, [.ref (ad 56), .ref (ad 57), .int z, .int a, .int b, .int c0, .int d])) (hz1 : z.toInt ≤ 150) (hd0 : 0 ≤ d.toInt) (hd1 : d.toInt ≤ 99) : NI l G (tyq cI cB cZ cO) yX7_fitsCaster cX7_fitsCaster 2 (some .boolean) 0 0 74 ad w [.ref (ad 55), .int 0] (fun r w1 => w = w1 ∧ ((d.toInt < 6 ∧ r = 1) ∨ (¬ d.toInt < 6 ∧ r = 0))) := by
  refine nk_i (own := "NoonShade$Text") rfl (by decide) (Nat.le_of_ble_eq_true rfl) ?_
  intro p e s m below meth c ls X hD hN hr hlk h hl
  have hx := X.1.1
  have hb := X.1.2.1
  have hown := X.1.2.2.2.1
  have hts := X.1.2.2.2.2
  have hl : lv_has ls 2 [(0, .ref (ad 55)), (1, .int 0)] := hl
  refine lv_iload_n hx hb dX7_fitsCaster_0 rfl (lv_at hl 1 rfl) ?_
  refine lv_lookup (tgt := 28) (off := 27) hx hb dX7_fitsCaster_1 (by decide) rfl (by decide) ?_
  refine lv_aload_n hx hb dX7_fitsCaster_28 rfl (lv_at hl 0 rfl) ?_
  refine r_get kc7 X h 55 6 (by decide) rfl pf (by decide) kv_390 rfl dX7_fitsCaster_29 ?_
  refine lv_bipush (v := 6) hx hb dX7_fitsCaster_32 (by decide) ?_
  refine lv_icmp_ge (tgt := 41) hx hb dX7_fitsCaster_34 (by decide) (fun hc1 => ?_) (fun hc1 => ?_)
  · have hc1 : 6 ≤ (d).toInt := i_le hc1 rfl rfl
    refine lv_iconst (v := 0) hx hb dX7_fitsCaster_41 (by decide) ?_
    exact e_n X h hr hlk rfl dX7_fitsCaster_42 ⟨rfl, Or.inr ⟨by omega, rfl⟩⟩
  · have hc1 : ¬ 6 ≤ (d).toInt := i_nle hc1 rfl rfl
    refine lv_iconst (v := 1) hx hb dX7_fitsCaster_37 (by decide) ?_
    refine lv_goto (tgt := 42) hx hb dX7_fitsCaster_38 (by decide) ?_
    exact e_n X h hr hlk rfl dX7_fitsCaster_42 ⟨rfl, Or.inl ⟨by omega, rfl⟩⟩

set_option maxHeartbeats 4000000 in
set_option maxRecDepth 100000 in
theorem c_F_fitsCaster1 (l : Launch) (G : va_G) (cI cB cZ cO : ClassId) (ad : Nat → Nat) (w : Nat → va_E) (z a b c0 d : Int32)    (pf : w 55 = .inr (5, [.ref (ad 56), .ref (ad 57), .int z, .int a, .int b, .int c0, .int d])) (hz1 : z.toInt ≤ 150) (hd0 : 0 ≤ d.toInt) (hd1 : d.toInt ≤ 99) : NI l G (tyq cI cB cZ cO) yX7_fitsCaster cX7_fitsCaster 2 (some .boolean) 1 22 74 ad w [.ref (ad 55), .int 1] (fun r w1 => w = w1 ∧ (((1 ≤ d.toInt ∧ d.toInt ≤ 9) ∧ r = 1) ∨ (¬ (1 ≤ d.toInt ∧ d.toInt ≤ 9) ∧ r = 0))) := by
  refine nk_i (own := "NoonShade$Text") rfl (by decide) (Nat.le_of_ble_eq_true rfl) ?_
  intro p e s m below meth c ls X hD hN hr hlk h hl
  have hx := X.1.1
  have hb := X.1.2.1
  have hown := X.1.2.2.2.1
  have hts := X.1.2.2.2.2
  have hl : lv_has ls 2 [(0, .ref (ad 55)), (1, .int 1)] := hl
  refine lv_iload_n hx hb dX7_fitsCaster_0 rfl (lv_at hl 1 rfl) ?_
  refine lv_lookup (tgt := 43) (off := 42) hx hb dX7_fitsCaster_1 (by decide) rfl (by decide) ?_
  refine lv_aload_n hx hb dX7_fitsCaster_43 rfl (lv_at hl 0 rfl) ?_
  refine r_get kc7 X h 55 6 (by decide) rfl pf (by decide) kv_390 rfl dX7_fitsCaster_44 ?_
  refine lv_iconst (v := 1) hx hb dX7_fitsCaster_47 (by decide) ?_
  refine lv_bipush (v := 9) hx hb dX7_fitsCaster_48 (by decide) ?_
  refine n_SNi (na := 3) (As := [.int d, .int 1, .int 9]) (rest := []) (host := "NoonShade") X hD hN h (c_within l G cI cB cZ cO ad w d (1 : Int32) (9 : Int32) ((d).toInt) 1 9 rfl rfl rfl) (by decide) kv_248 kv_212 kv_249 ⟨by decide, by decide, by decide⟩ ⟨Nat.le_of_ble_eq_true rfl, Nat.le_of_ble_eq_true rfl⟩ ⟨Nat.zero_le _, Nat.zero_le _⟩ rfl hl.1 rfl (Nat.le_of_ble_eq_true rfl) dX7_fitsCaster_50 (fun r1 w2 H locs hp3 h => ?_)
  obtain ⟨rfl, hq4⟩ := hp3
  rcases hq4 with ⟨hq5, hq6, rfl⟩ | ⟨hq4, rfl⟩
  · exact e_n X h hr hlk rfl dX7_fitsCaster_53 ⟨rfl, Or.inl ⟨by omega, rfl⟩⟩
  · exact e_n X h hr hlk rfl dX7_fitsCaster_53 ⟨rfl, Or.inr ⟨by omega, rfl⟩⟩

set_option maxHeartbeats 4000000 in
set_option maxRecDepth 100000 in
theorem c_F_fitsCaster2 (l : Launch) (G : va_G) (cI cB cZ cO : ClassId) (ad : Nat → Nat) (w : Nat → va_E) (z a b c0 d : Int32)    (pf : w 55 = .inr (5, [.ref (ad 56), .ref (ad 57), .int z, .int a, .int b, .int c0, .int d])) (hz1 : z.toInt ≤ 150) (hd0 : 0 ≤ d.toInt) (hd1 : d.toInt ≤ 99) : NI l G (tyq cI cB cZ cO) yX7_fitsCaster cX7_fitsCaster 2 (some .boolean) 0 0 74 ad w [.ref (ad 55), .int 2] (fun r w1 => w = w1 ∧ ((d.toInt < 4 ∧ r = 1) ∨ (¬ d.toInt < 4 ∧ r = 0))) := by
  refine nk_i (own := "NoonShade$Text") rfl (by decide) (Nat.le_of_ble_eq_true rfl) ?_
  intro p e s m below meth c ls X hD hN hr hlk h hl
  have hx := X.1.1
  have hb := X.1.2.1
  have hown := X.1.2.2.2.1
  have hts := X.1.2.2.2.2
  have hl : lv_has ls 2 [(0, .ref (ad 55)), (1, .int 2)] := hl
  refine lv_iload_n hx hb dX7_fitsCaster_0 rfl (lv_at hl 1 rfl) ?_
  refine lv_lookup (tgt := 54) (off := 53) hx hb dX7_fitsCaster_1 (by decide) rfl (by decide) ?_
  refine lv_aload_n hx hb dX7_fitsCaster_54 rfl (lv_at hl 0 rfl) ?_
  refine r_get kc7 X h 55 6 (by decide) rfl pf (by decide) kv_390 rfl dX7_fitsCaster_55 ?_
  refine lv_iconst (v := 4) hx hb dX7_fitsCaster_58 (by decide) ?_
  refine lv_icmp_ge (tgt := 66) hx hb dX7_fitsCaster_59 (by decide) (fun hc1 => ?_) (fun hc1 => ?_)
  · have hc1 : 4 ≤ (d).toInt := i_le hc1 rfl rfl
    refine lv_iconst (v := 0) hx hb dX7_fitsCaster_66 (by decide) ?_
    exact e_n X h hr hlk rfl dX7_fitsCaster_67 ⟨rfl, Or.inr ⟨by omega, rfl⟩⟩
  · have hc1 : ¬ 4 ≤ (d).toInt := i_nle hc1 rfl rfl
    refine lv_iconst (v := 1) hx hb dX7_fitsCaster_62 (by decide) ?_
    refine lv_goto (tgt := 67) hx hb dX7_fitsCaster_63 (by decide) ?_
    exact e_n X h hr hlk rfl dX7_fitsCaster_67 ⟨rfl, Or.inl ⟨by omega, rfl⟩⟩

set_option maxHeartbeats 4000000 in
set_option maxRecDepth 100000 in
theorem c_F_fits00 (l : Launch) (G : va_G) (cI cB cZ cO : ClassId) (ad : Nat → Nat) (w : Nat → va_E) (z a b c0 d : Int32) (ho so mi ca ja : Int32) (co f : Nat → Int32) (ok : OK cI cB cZ cO ad w)   (pf : w 55 = .inr (5, [.ref (ad 56), .ref (ad 57), .int z, .int a, .int b, .int c0, .int d])) (hz1 : z.toInt ≤ 150) (hd0 : 0 ≤ d.toInt) (hd1 : d.toInt ≤ 99) (p14 : w 14 = .inr (1, [.int ho, .int so, .int mi, .int ca, .int ja, .ref (ad 15), .ref (ad 16), .ref (ad 17), .ref (ad 18), .ref (ad 19), .ref (ad 20), .ref (ad 21), .ref (ad 23), .ref (ad 25)])) (p19 : w 19 = .inl (cI, 4, .inl co)) (pc : rgA 0 60 co) (p57 : w 57 = .inl (cI, 3, .inl f)) (pn : rgA 0 99 f) (hja4 : ja.toInt ≤ 4) (hca7 : ca.toInt ≤ 7) : NI l G (tyq cI cB cZ cO) yX7_fits cX7_fits 4 (some .boolean) 0 0 74 ad w [.ref (ad 55), .ref (ad 14), .int 0, .int 0] (fun r w1 => w = w1 ∧ ((True ∧ r = 1) ∨ (¬ True ∧ r = 0))) := by
  refine nk_i (own := "NoonShade$Text") rfl (by decide) (Nat.le_of_ble_eq_true rfl) ?_
  intro p e s m below meth c ls X hD hN hr hlk h hl
  have hx := X.1.1
  have hb := X.1.2.1
  have hown := X.1.2.2.2.1
  have hts := X.1.2.2.2.2
  have hl : lv_has ls 4 [(0, .ref (ad 55)), (1, .ref (ad 14)), (2, .int 0), (3, .int 0)] := hl
  refine lv_iload_n hx hb dX7_fits_0 rfl (lv_at hl 2 rfl) ?_
  refine lv_tableOut (tgt := 163) hx hb dX7_fits_1 (by decide) (by decide) ?_
  refine lv_iconst (v := 1) hx hb dX7_fits_163 (by decide) ?_
  exact e_n X h hr hlk rfl dX7_fits_164 ⟨rfl, Or.inl ⟨trivial, rfl⟩⟩

set_option maxHeartbeats 4000000 in
set_option maxRecDepth 100000 in
theorem c_F_fits10 (l : Launch) (G : va_G) (cI cB cZ cO : ClassId) (ad : Nat → Nat) (w : Nat → va_E) (z a b c0 d : Int32) (ho so mi ca ja : Int32) (co f : Nat → Int32) (ok : OK cI cB cZ cO ad w)   (pf : w 55 = .inr (5, [.ref (ad 56), .ref (ad 57), .int z, .int a, .int b, .int c0, .int d])) (hz1 : z.toInt ≤ 150) (hd0 : 0 ≤ d.toInt) (hd1 : d.toInt ≤ 99) (p14 : w 14 = .inr (1, [.int ho, .int so, .int mi, .int ca, .int ja, .ref (ad 15), .ref (ad 16), .ref (ad 17), .ref (ad 18), .ref (ad 19), .ref (ad 20), .ref (ad 21), .ref (ad 23), .ref (ad 25)])) (p19 : w 19 = .inl (cI, 4, .inl co)) (pc : rgA 0 60 co) (p57 : w 57 = .inl (cI, 3, .inl f)) (pn : rgA 0 99 f) (hja4 : ja.toInt ≤ 4) (hca7 : ca.toInt ≤ 7) : NI l G (tyq cI cB cZ cO) yX7_fits cX7_fits 4 (some .boolean) 2 43 74 ad w [.ref (ad 55), .ref (ad 14), .int 1, .int 0] (fun r w1 => w = w1 ∧ ((d.toInt < 6 ∧ r = 1) ∨ (¬ d.toInt < 6 ∧ r = 0))) := by
  refine nk_i (own := "NoonShade$Text") rfl (by decide) (Nat.le_of_ble_eq_true rfl) ?_
  intro p e s m below meth c ls X hD hN hr hlk h hl
  have hx := X.1.1
  have hb := X.1.2.1
  have hown := X.1.2.2.2.1
  have hts := X.1.2.2.2.2
  have hl : lv_has ls 4 [(0, .ref (ad 55)), (1, .ref (ad 14)), (2, .int 1), (3, .int 0)] := hl
  refine lv_iload_n hx hb dX7_fits_0 rfl (lv_at hl 2 rfl) ?_
  refine lv_tableIn (tgt := 36) (off := 35) hx hb dX7_fits_1 (by decide) (by decide) (by decide) (by decide) ?_
  refine lv_aload_n hx hb dX7_fits_36 rfl (lv_at hl 0 rfl) ?_
  refine lv_iload_n hx hb dX7_fits_37 rfl (lv_at hl 3 rfl) ?_
  refine n_Vi (na := 1) (As := [.int 0]) (rest := []) X hD hN h rfl (c_F_fitsCaster0 l G cI cB cZ cO ad w z a b c0 d pf (by omega) (by omega) (by omega)) ⟨kv_405, kv_406, kv_407, kv_388, kv_408⟩ rfl ⟨by decide, by decide, by decide⟩ ⟨Nat.le_of_ble_eq_true rfl, Nat.le_of_ble_eq_true rfl⟩ ⟨Nat.zero_le _, Nat.zero_le _⟩ (by decide) pf rfl rfl hl.1 rfl (Nat.le_of_ble_eq_true rfl) dX7_fits_38 (fun r1 w2 H locs hp3 h => ?_)
  obtain ⟨rfl, hr4⟩ := hp3
  rcases hr4 with ⟨hq5, rfl⟩ | ⟨hq5, rfl⟩
  · exact e_n X h hr hlk rfl dX7_fits_41 ⟨rfl, Or.inl ⟨by omega, rfl⟩⟩
  · exact e_n X h hr hlk rfl dX7_fits_41 ⟨rfl, Or.inr ⟨by omega, rfl⟩⟩

set_option maxHeartbeats 4000000 in
set_option maxRecDepth 100000 in
theorem c_F_fits11 (l : Launch) (G : va_G) (cI cB cZ cO : ClassId) (ad : Nat → Nat) (w : Nat → va_E) (z a b c0 d : Int32) (ho so mi ca ja : Int32) (co f : Nat → Int32) (ok : OK cI cB cZ cO ad w)   (pf : w 55 = .inr (5, [.ref (ad 56), .ref (ad 57), .int z, .int a, .int b, .int c0, .int d])) (hz1 : z.toInt ≤ 150) (hd0 : 0 ≤ d.toInt) (hd1 : d.toInt ≤ 99) (p14 : w 14 = .inr (1, [.int ho, .int so, .int mi, .int ca, .int ja, .ref (ad 15), .ref (ad 16), .ref (ad 17), .ref (ad 18), .ref (ad 19), .ref (ad 20), .ref (ad 21), .ref (ad 23), .ref (ad 25)])) (p19 : w 19 = .inl (cI, 4, .inl co)) (pc : rgA 0 60 co) (p57 : w 57 = .inl (cI, 3, .inl f)) (pn : rgA 0 99 f) (hja4 : ja.toInt ≤ 4) (hca7 : ca.toInt ≤ 7) : NI l G (tyq cI cB cZ cO) yX7_fits cX7_fits 4 (some .boolean) 2 43 74 ad w [.ref (ad 55), .ref (ad 14), .int 1, .int 1] (fun r w1 => w = w1 ∧ (((1 ≤ d.toInt ∧ d.toInt ≤ 9) ∧ r = 1) ∨ (¬ (1 ≤ d.toInt ∧ d.toInt ≤ 9) ∧ r = 0))) := by
  refine nk_i (own := "NoonShade$Text") rfl (by decide) (Nat.le_of_ble_eq_true rfl) ?_
  intro p e s m below meth c ls X hD hN hr hlk h hl
  have hx := X.1.1
  have hb := X.1.2.1
  have hown := X.1.2.2.2.1
  have hts := X.1.2.2.2.2
  have hl : lv_has ls 4 [(0, .ref (ad 55)), (1, .ref (ad 14)), (2, .int 1), (3, .int 1)] := hl
  refine lv_iload_n hx hb dX7_fits_0 rfl (lv_at hl 2 rfl) ?_
  refine lv_tableIn (tgt := 36) (off := 35) hx hb dX7_fits_1 (by decide) (by decide) (by decide) (by decide) ?_
  refine lv_aload_n hx hb dX7_fits_36 rfl (lv_at hl 0 rfl) ?_
  refine lv_iload_n hx hb dX7_fits_37 rfl (lv_at hl 3 rfl) ?_
  refine n_Vi (na := 1) (As := [.int 1]) (rest := []) X hD hN h rfl (c_F_fitsCaster1 l G cI cB cZ cO ad w z a b c0 d pf (by omega) (by omega) (by omega)) ⟨kv_405, kv_406, kv_407, kv_388, kv_408⟩ rfl ⟨by decide, by decide, by decide⟩ ⟨Nat.le_of_ble_eq_true rfl, Nat.le_of_ble_eq_true rfl⟩ ⟨Nat.zero_le _, Nat.zero_le _⟩ (by decide) pf rfl rfl hl.1 rfl (Nat.le_of_ble_eq_true rfl) dX7_fits_38 (fun r1 w2 H locs hp3 h => ?_)
  obtain ⟨rfl, hr4⟩ := hp3
  rcases hr4 with ⟨hq5, rfl⟩ | ⟨hq5, rfl⟩
  · exact e_n X h hr hlk rfl dX7_fits_41 ⟨rfl, Or.inl ⟨by omega, rfl⟩⟩
  · exact e_n X h hr hlk rfl dX7_fits_41 ⟨rfl, Or.inr ⟨by omega, rfl⟩⟩

set_option maxHeartbeats 4000000 in
set_option maxRecDepth 100000 in
theorem c_F_fits12 (l : Launch) (G : va_G) (cI cB cZ cO : ClassId) (ad : Nat → Nat) (w : Nat → va_E) (z a b c0 d : Int32) (ho so mi ca ja : Int32) (co f : Nat → Int32) (ok : OK cI cB cZ cO ad w)   (pf : w 55 = .inr (5, [.ref (ad 56), .ref (ad 57), .int z, .int a, .int b, .int c0, .int d])) (hz1 : z.toInt ≤ 150) (hd0 : 0 ≤ d.toInt) (hd1 : d.toInt ≤ 99) (p14 : w 14 = .inr (1, [.int ho, .int so, .int mi, .int ca, .int ja, .ref (ad 15), .ref (ad 16), .ref (ad 17), .ref (ad 18), .ref (ad 19), .ref (ad 20), .ref (ad 21), .ref (ad 23), .ref (ad 25)])) (p19 : w 19 = .inl (cI, 4, .inl co)) (pc : rgA 0 60 co) (p57 : w 57 = .inl (cI, 3, .inl f)) (pn : rgA 0 99 f) (hja4 : ja.toInt ≤ 4) (hca7 : ca.toInt ≤ 7) : NI l G (tyq cI cB cZ cO) yX7_fits cX7_fits 4 (some .boolean) 2 43 74 ad w [.ref (ad 55), .ref (ad 14), .int 1, .int 2] (fun r w1 => w = w1 ∧ ((d.toInt < 4 ∧ r = 1) ∨ (¬ d.toInt < 4 ∧ r = 0))) := by
  refine nk_i (own := "NoonShade$Text") rfl (by decide) (Nat.le_of_ble_eq_true rfl) ?_
  intro p e s m below meth c ls X hD hN hr hlk h hl
  have hx := X.1.1
  have hb := X.1.2.1
  have hown := X.1.2.2.2.1
  have hts := X.1.2.2.2.2
  have hl : lv_has ls 4 [(0, .ref (ad 55)), (1, .ref (ad 14)), (2, .int 1), (3, .int 2)] := hl
  refine lv_iload_n hx hb dX7_fits_0 rfl (lv_at hl 2 rfl) ?_
  refine lv_tableIn (tgt := 36) (off := 35) hx hb dX7_fits_1 (by decide) (by decide) (by decide) (by decide) ?_
  refine lv_aload_n hx hb dX7_fits_36 rfl (lv_at hl 0 rfl) ?_
  refine lv_iload_n hx hb dX7_fits_37 rfl (lv_at hl 3 rfl) ?_
  refine n_Vi (na := 1) (As := [.int 2]) (rest := []) X hD hN h rfl (c_F_fitsCaster2 l G cI cB cZ cO ad w z a b c0 d pf (by omega) (by omega) (by omega)) ⟨kv_405, kv_406, kv_407, kv_388, kv_408⟩ rfl ⟨by decide, by decide, by decide⟩ ⟨Nat.le_of_ble_eq_true rfl, Nat.le_of_ble_eq_true rfl⟩ ⟨Nat.zero_le _, Nat.zero_le _⟩ (by decide) pf rfl rfl hl.1 rfl (Nat.le_of_ble_eq_true rfl) dX7_fits_38 (fun r1 w2 H locs hp3 h => ?_)
  obtain ⟨rfl, hr4⟩ := hp3
  rcases hr4 with ⟨hq5, rfl⟩ | ⟨hq5, rfl⟩
  · exact e_n X h hr hlk rfl dX7_fits_41 ⟨rfl, Or.inl ⟨by omega, rfl⟩⟩
  · exact e_n X h hr hlk rfl dX7_fits_41 ⟨rfl, Or.inr ⟨by omega, rfl⟩⟩

set_option maxHeartbeats 4000000 in
set_option maxRecDepth 100000 in
theorem c_F_fits20 (l : Launch) (G : va_G) (cI cB cZ cO : ClassId) (ad : Nat → Nat) (w : Nat → va_E) (z a b c0 d : Int32) (ho so mi ca ja : Int32) (co f : Nat → Int32) (ok : OK cI cB cZ cO ad w)   (pf : w 55 = .inr (5, [.ref (ad 56), .ref (ad 57), .int z, .int a, .int b, .int c0, .int d])) (hz1 : z.toInt ≤ 150) (hd0 : 0 ≤ d.toInt) (hd1 : d.toInt ≤ 99) (p14 : w 14 = .inr (1, [.int ho, .int so, .int mi, .int ca, .int ja, .ref (ad 15), .ref (ad 16), .ref (ad 17), .ref (ad 18), .ref (ad 19), .ref (ad 20), .ref (ad 21), .ref (ad 23), .ref (ad 25)])) (p19 : w 19 = .inl (cI, 4, .inl co)) (pc : rgA 0 60 co) (p57 : w 57 = .inl (cI, 3, .inl f)) (pn : rgA 0 99 f) (hja4 : ja.toInt ≤ 4) (hca7 : ca.toInt ≤ 7) : NI l G (tyq cI cB cZ cO) yX7_fits cX7_fits 4 (some .boolean) 0 0 74 ad w [.ref (ad 55), .ref (ad 14), .int 2, .int 0] (fun r w1 => w = w1 ∧ ((d.toInt < 6 ∧ r = 1) ∨ (¬ d.toInt < 6 ∧ r = 0))) := by
  refine nk_i (own := "NoonShade$Text") rfl (by decide) (Nat.le_of_ble_eq_true rfl) ?_
  intro p e s m below meth c ls X hD hN hr hlk h hl
  have hx := X.1.1
  have hb := X.1.2.1
  have hown := X.1.2.2.2.1
  have hts := X.1.2.2.2.2
  have hl : lv_has ls 4 [(0, .ref (ad 55)), (1, .ref (ad 14)), (2, .int 2), (3, .int 0)] := hl
  refine lv_iload_n hx hb dX7_fits_0 rfl (lv_at hl 2 rfl) ?_
  refine lv_tableIn (tgt := 42) (off := 41) hx hb dX7_fits_1 (by decide) (by decide) (by decide) (by decide) ?_
  refine lv_aload_n hx hb dX7_fits_42 rfl (lv_at hl 0 rfl) ?_
  refine r_get kc7 X h 55 6 (by decide) rfl pf (by decide) kv_390 rfl dX7_fits_43 ?_
  refine lv_bipush (v := 6) hx hb dX7_fits_46 (by decide) ?_
  refine lv_icmp_ge (tgt := 55) hx hb dX7_fits_48 (by decide) (fun hc1 => ?_) (fun hc1 => ?_)
  · have hc1 : 6 ≤ (d).toInt := i_le hc1 rfl rfl
    refine lv_iconst (v := 0) hx hb dX7_fits_55 (by decide) ?_
    exact e_n X h hr hlk rfl dX7_fits_56 ⟨rfl, Or.inr ⟨by omega, rfl⟩⟩
  · have hc1 : ¬ 6 ≤ (d).toInt := i_nle hc1 rfl rfl
    refine lv_iconst (v := 1) hx hb dX7_fits_51 (by decide) ?_
    refine lv_goto (tgt := 56) hx hb dX7_fits_52 (by decide) ?_
    exact e_n X h hr hlk rfl dX7_fits_56 ⟨rfl, Or.inl ⟨by omega, rfl⟩⟩

set_option maxHeartbeats 4000000 in
set_option maxRecDepth 100000 in
theorem c_F_fits30 (l : Launch) (G : va_G) (cI cB cZ cO : ClassId) (ad : Nat → Nat) (w : Nat → va_E) (z a b c0 d : Int32) (ho so mi ca ja : Int32) (co f : Nat → Int32) (ok : OK cI cB cZ cO ad w)   (pf : w 55 = .inr (5, [.ref (ad 56), .ref (ad 57), .int z, .int a, .int b, .int c0, .int d])) (hz1 : z.toInt ≤ 150) (hd0 : 0 ≤ d.toInt) (hd1 : d.toInt ≤ 99) (p14 : w 14 = .inr (1, [.int ho, .int so, .int mi, .int ca, .int ja, .ref (ad 15), .ref (ad 16), .ref (ad 17), .ref (ad 18), .ref (ad 19), .ref (ad 20), .ref (ad 21), .ref (ad 23), .ref (ad 25)])) (p19 : w 19 = .inl (cI, 4, .inl co)) (pc : rgA 0 60 co) (p57 : w 57 = .inl (cI, 3, .inl f)) (pn : rgA 0 99 f) (hja4 : ja.toInt ≤ 4) (hca7 : ca.toInt ≤ 7) : NI l G (tyq cI cB cZ cO) yX7_fits cX7_fits 4 (some .boolean) 1 21 74 ad w [.ref (ad 55), .ref (ad 14), .int 3, .int 0] (fun r w1 => w = w1 ∧ (((d.toInt < ca.toInt ∧ bitF mi d = 0) ∧ r = 1) ∨ (¬ (d.toInt < ca.toInt ∧ bitF mi d = 0) ∧ r = 0))) := by
  refine nk_i (own := "NoonShade$Text") rfl (by decide) (Nat.le_of_ble_eq_true rfl) ?_
  intro p e s m below meth c ls X hD hN hr hlk h hl
  have hx := X.1.1
  have hb := X.1.2.1
  have hown := X.1.2.2.2.1
  have hts := X.1.2.2.2.2
  have hl : lv_has ls 4 [(0, .ref (ad 55)), (1, .ref (ad 14)), (2, .int 3), (3, .int 0)] := hl
  refine lv_iload_n hx hb dX7_fits_0 rfl (lv_at hl 2 rfl) ?_
  refine lv_tableIn (tgt := 57) (off := 56) hx hb dX7_fits_1 (by decide) (by decide) (by decide) (by decide) ?_
  refine lv_iload_n hx hb dX7_fits_57 rfl (lv_at hl 3 rfl) ?_
  refine lv_if_ne (tgt := 91) hx hb dX7_fits_58 (by decide) (fun hc => absurd (by decide) hc) (fun _ => ?_)
  refine lv_aload_n hx hb dX7_fits_61 rfl (lv_at hl 1 rfl) ?_
  refine lv_aload_n hx hb dX7_fits_62 rfl (lv_at hl 0 rfl) ?_
  refine r_get kc7 X h 55 6 (by decide) rfl pf (by decide) kv_390 rfl dX7_fits_63 ?_
  refine n_Vi (na := 1) (As := [.int d]) (rest := []) X hD hN h rfl (c_F_hasCaster l G cI cB cZ cO ad w ho so mi ca ja  d  p14) ⟨kv_409, kv_220, kv_221, kv_37, kv_222⟩ rfl ⟨by decide, by decide, by decide⟩ ⟨Nat.le_of_ble_eq_true rfl, Nat.le_of_ble_eq_true rfl⟩ ⟨Nat.zero_le _, Nat.zero_le _⟩ (by decide) p14 rfl rfl hl.1 rfl (Nat.le_of_ble_eq_true rfl) dX7_fits_66 (fun r1 w2 H locs hp3 h => ?_)
  obtain ⟨rfl, hr4⟩ := hp3
  rcases hr4 with ⟨hq5, hq6, rfl⟩ | ⟨hq7, rfl⟩
  · refine lv_if_eq (tgt := 87) hx hb dX7_fits_69 (by decide) (fun hc => absurd hc (by decide)) (fun _ => ?_)
    refine lv_aload_n hx hb dX7_fits_72 rfl (lv_at hl 1 rfl) ?_
    refine lv_aload_n hx hb dX7_fits_73 rfl (lv_at hl 0 rfl) ?_
    refine r_get kc7 X h 55 6 (by decide) rfl pf (by decide) kv_390 rfl dX7_fits_74 ?_
    refine n_Vi (na := 1) (As := [.int d]) (rest := []) X hD hN h rfl (c_F_isMilked l G cI cB cZ cO ad w ho so mi ca ja  d  p14) ⟨kv_410, kv_35, kv_36, kv_37, kv_38⟩ rfl ⟨by decide, by decide, by decide⟩ ⟨Nat.le_of_ble_eq_true rfl, Nat.le_of_ble_eq_true rfl⟩ ⟨Nat.zero_le _, Nat.zero_le _⟩ (by decide) p14 rfl rfl hl.1 rfl (Nat.le_of_ble_eq_true rfl) dX7_fits_77 (fun r8 w9 H locs hp10 h => ?_)
    obtain ⟨rfl, hr11⟩ := hp10
    rcases hr11 with ⟨hq12, rfl⟩ | ⟨hq13, rfl⟩
    · refine lv_if_ne (tgt := 87) hx hb dX7_fits_80 (by decide) (fun _ => ?_) (fun hc => absurd hc (by decide))
      refine lv_iconst (v := 0) hx hb dX7_fits_87 (by decide) ?_
      refine lv_goto (tgt := 99) hx hb dX7_fits_88 (by decide) ?_
      exact e_n X h hr hlk rfl dX7_fits_99 ⟨rfl, Or.inr ⟨fun q9 => by have q1 := q9.1; have q2 := q9.2; omega, rfl⟩⟩
    · refine lv_if_ne (tgt := 87) hx hb dX7_fits_80 (by decide) (fun hc => absurd (by decide) hc) (fun _ => ?_)
      refine lv_iconst (v := 1) hx hb dX7_fits_83 (by decide) ?_
      refine lv_goto (tgt := 99) hx hb dX7_fits_84 (by decide) ?_
      exact e_n X h hr hlk rfl dX7_fits_99 ⟨rfl, Or.inl ⟨⟨by omega, by omega⟩, rfl⟩⟩
  · refine lv_if_eq (tgt := 87) hx hb dX7_fits_69 (by decide) (fun _ => ?_) (fun hc => absurd (by decide) hc)
    refine lv_iconst (v := 0) hx hb dX7_fits_87 (by decide) ?_
    refine lv_goto (tgt := 99) hx hb dX7_fits_88 (by decide) ?_
    exact e_n X h hr hlk rfl dX7_fits_99 ⟨rfl, Or.inr ⟨fun q9 => by have q1 := q9.1; have q2 := q9.2; omega, rfl⟩⟩

set_option maxHeartbeats 4000000 in
set_option maxRecDepth 100000 in
theorem c_F_fits31 (l : Launch) (G : va_G) (cI cB cZ cO : ClassId) (ad : Nat → Nat) (w : Nat → va_E) (z a b c0 d : Int32) (ho so mi ca ja : Int32) (co f : Nat → Int32) (ok : OK cI cB cZ cO ad w)   (pf : w 55 = .inr (5, [.ref (ad 56), .ref (ad 57), .int z, .int a, .int b, .int c0, .int d])) (hz1 : z.toInt ≤ 150) (hd0 : 0 ≤ d.toInt) (hd1 : d.toInt ≤ 99) (p14 : w 14 = .inr (1, [.int ho, .int so, .int mi, .int ca, .int ja, .ref (ad 15), .ref (ad 16), .ref (ad 17), .ref (ad 18), .ref (ad 19), .ref (ad 20), .ref (ad 21), .ref (ad 23), .ref (ad 25)])) (p19 : w 19 = .inl (cI, 4, .inl co)) (pc : rgA 0 60 co) (p57 : w 57 = .inl (cI, 3, .inl f)) (pn : rgA 0 99 f) (hja4 : ja.toInt ≤ 4) (hca7 : ca.toInt ≤ 7) : NI l G (tyq cI cB cZ cO) yX7_fits cX7_fits 4 (some .boolean) 1 21 74 ad w [.ref (ad 55), .ref (ad 14), .int 3, .int 1] (fun r w1 => w = w1 ∧ ((d.toInt < ja.toInt ∧ r = 1) ∨ (¬ d.toInt < ja.toInt ∧ r = 0))) := by
  refine nk_i (own := "NoonShade$Text") rfl (by decide) (Nat.le_of_ble_eq_true rfl) ?_
  intro p e s m below meth c ls X hD hN hr hlk h hl
  have hx := X.1.1
  have hb := X.1.2.1
  have hown := X.1.2.2.2.1
  have hts := X.1.2.2.2.2
  have hl : lv_has ls 4 [(0, .ref (ad 55)), (1, .ref (ad 14)), (2, .int 3), (3, .int 1)] := hl
  refine lv_iload_n hx hb dX7_fits_0 rfl (lv_at hl 2 rfl) ?_
  refine lv_tableIn (tgt := 57) (off := 56) hx hb dX7_fits_1 (by decide) (by decide) (by decide) (by decide) ?_
  refine lv_iload_n hx hb dX7_fits_57 rfl (lv_at hl 3 rfl) ?_
  refine lv_if_ne (tgt := 91) hx hb dX7_fits_58 (by decide) (fun _ => ?_) (fun hc => absurd hc (by decide))
  refine lv_aload_n hx hb dX7_fits_91 rfl (lv_at hl 1 rfl) ?_
  refine lv_aload_n hx hb dX7_fits_92 rfl (lv_at hl 0 rfl) ?_
  refine r_get kc7 X h 55 6 (by decide) rfl pf (by decide) kv_390 rfl dX7_fits_93 ?_
  refine n_Vi (na := 1) (As := [.int d]) (rest := []) X hD hN h rfl (c_F_hasJar l G cI cB cZ cO ad w ho so mi ca ja  d  p14) ⟨kv_411, kv_224, kv_225, kv_37, kv_226⟩ rfl ⟨by decide, by decide, by decide⟩ ⟨Nat.le_of_ble_eq_true rfl, Nat.le_of_ble_eq_true rfl⟩ ⟨Nat.zero_le _, Nat.zero_le _⟩ (by decide) p14 rfl rfl hl.1 rfl (Nat.le_of_ble_eq_true rfl) dX7_fits_96 (fun r1 w2 H locs hp3 h => ?_)
  obtain ⟨rfl, hr4⟩ := hp3
  rcases hr4 with ⟨hq5, hq6, rfl⟩ | ⟨hq7, rfl⟩
  · exact e_n X h hr hlk rfl dX7_fits_99 ⟨rfl, Or.inl ⟨by omega, rfl⟩⟩
  · exact e_n X h hr hlk rfl dX7_fits_99 ⟨rfl, Or.inr ⟨by omega, rfl⟩⟩

set_option maxHeartbeats 4000000 in
set_option maxRecDepth 100000 in
theorem c_F_fits40 (l : Launch) (G : va_G) (cI cB cZ cO : ClassId) (ad : Nat → Nat) (w : Nat → va_E) (z a b c0 d : Int32) (ho so mi ca ja : Int32) (co f : Nat → Int32) (ok : OK cI cB cZ cO ad w)   (pf : w 55 = .inr (5, [.ref (ad 56), .ref (ad 57), .int z, .int a, .int b, .int c0, .int d])) (hz1 : z.toInt ≤ 150) (hd0 : 0 ≤ d.toInt) (hd1 : d.toInt ≤ 99) (p14 : w 14 = .inr (1, [.int ho, .int so, .int mi, .int ca, .int ja, .ref (ad 15), .ref (ad 16), .ref (ad 17), .ref (ad 18), .ref (ad 19), .ref (ad 20), .ref (ad 21), .ref (ad 23), .ref (ad 25)])) (p19 : w 19 = .inl (cI, 4, .inl co)) (pc : rgA 0 60 co) (p57 : w 57 = .inl (cI, 3, .inl f)) (pn : rgA 0 99 f) (hja4 : ja.toInt ≤ 4) (hca7 : ca.toInt ≤ 7) : NI l G (tyq cI cB cZ cO) yX7_fits cX7_fits 4 (some .boolean) 1 21 74 ad w [.ref (ad 55), .ref (ad 14), .int 4, .int 0] (fun r w1 => w = w1 ∧ (((d.toInt < ja.toInt ∧ 0 < (co d.toNatClampNeg).toInt) ∧ r = 1) ∨ (¬ (d.toInt < ja.toInt ∧ 0 < (co d.toNatClampNeg).toInt) ∧ r = 0))) := by
  refine nk_i (own := "NoonShade$Text") rfl (by decide) (Nat.le_of_ble_eq_true rfl) ?_
  intro p e s m below meth c ls X hD hN hr hlk h hl
  have hx := X.1.1
  have hb := X.1.2.1
  have hown := X.1.2.2.2.1
  have hts := X.1.2.2.2.2
  have hl : lv_has ls 4 [(0, .ref (ad 55)), (1, .ref (ad 14)), (2, .int 4), (3, .int 0)] := hl
  refine lv_iload_n hx hb dX7_fits_0 rfl (lv_at hl 2 rfl) ?_
  refine lv_tableIn (tgt := 100) (off := 99) hx hb dX7_fits_1 (by decide) (by decide) (by decide) (by decide) ?_
  refine lv_aload_n hx hb dX7_fits_100 rfl (lv_at hl 1 rfl) ?_
  refine lv_aload_n hx hb dX7_fits_101 rfl (lv_at hl 0 rfl) ?_
  refine r_get kc7 X h 55 6 (by decide) rfl pf (by decide) kv_390 rfl dX7_fits_102 ?_
  refine n_Vi (na := 1) (As := [.int d]) (rest := []) X hD hN h rfl (c_F_hasJar l G cI cB cZ cO ad w ho so mi ca ja  d  p14) ⟨kv_411, kv_224, kv_225, kv_37, kv_226⟩ rfl ⟨by decide, by decide, by decide⟩ ⟨Nat.le_of_ble_eq_true rfl, Nat.le_of_ble_eq_true rfl⟩ ⟨Nat.zero_le _, Nat.zero_le _⟩ (by decide) p14 rfl rfl hl.1 rfl (Nat.le_of_ble_eq_true rfl) dX7_fits_105 (fun r1 w2 H locs hp3 h => ?_)
  obtain ⟨rfl, hr4⟩ := hp3
  rcases hr4 with ⟨hq5, hq6, rfl⟩ | ⟨hq7, rfl⟩
  · refine lv_if_eq (tgt := 147) hx hb dX7_fits_108 (by decide) (fun hc => absurd hc (by decide)) (fun _ => ?_)
    refine lv_iload_n hx hb dX7_fits_111 rfl (lv_at hl 3 rfl) ?_
    refine lv_if_ne (tgt := 130) hx hb dX7_fits_112 (by decide) (fun hc => absurd (by decide) hc) (fun _ => ?_)
    refine lv_aload_n hx hb dX7_fits_115 rfl (lv_at hl 1 rfl) ?_
    refine r_get kc2 X h 14 9 (by decide) rfl p14 (by decide) kv_412 rfl dX7_fits_116 ?_
    refine lv_aload_n hx hb dX7_fits_119 rfl (lv_at hl 0 rfl) ?_
    refine r_get kc7 X h 55 6 (by decide) rfl pf (by decide) kv_390 rfl dX7_fits_120 ?_
    obtain ⟨v8, e9⟩ : ∃ z : Int32, co d.toNatClampNeg = z := ⟨_, rfl⟩
    have h10 := rgA_rd pc e9
    refine o_iald (v := v8) X h 19 0 (by decide) rfl p19 rfl (in_of (by omega) (by omega)) e9 dX7_fits_123 ?_
    refine lv_if_le (tgt := 147) hx hb dX7_fits_124 (by decide) (fun hc11 => ?_) (fun hc11 => ?_)
    · have hc11 : (v8).toInt ≤ 0 := i_le hc11 rfl rfl
      refine lv_iconst (v := 0) hx hb dX7_fits_147 (by decide) ?_
      exact e_n X h hr hlk rfl dX7_fits_148 ⟨rfl, Or.inr ⟨fun q9 => by have q1 := q9.1; have q2 := q9.2; rw [e9] at q2; omega, rfl⟩⟩
    · have hc11 : ¬ (v8).toInt ≤ 0 := i_nle hc11 rfl rfl
      refine lv_goto (tgt := 143) hx hb dX7_fits_127 (by decide) ?_
      refine lv_iconst (v := 1) hx hb dX7_fits_143 (by decide) ?_
      refine lv_goto (tgt := 148) hx hb dX7_fits_144 (by decide) ?_
      exact e_n X h hr hlk rfl dX7_fits_148 ⟨rfl, Or.inl ⟨⟨by omega, by rw [e9]; omega⟩, rfl⟩⟩
  · refine lv_if_eq (tgt := 147) hx hb dX7_fits_108 (by decide) (fun _ => ?_) (fun hc => absurd (by decide) hc)
    refine lv_iconst (v := 0) hx hb dX7_fits_147 (by decide) ?_
    exact e_n X h hr hlk rfl dX7_fits_148 ⟨rfl, Or.inr ⟨fun q9 => by have q1 := q9.1; have q2 := q9.2; omega, rfl⟩⟩

set_option maxHeartbeats 4000000 in
set_option maxRecDepth 100000 in
theorem c_F_fits41 (l : Launch) (G : va_G) (cI cB cZ cO : ClassId) (ad : Nat → Nat) (w : Nat → va_E) (z a b c0 d : Int32) (ho so mi ca ja : Int32) (co f : Nat → Int32) (ok : OK cI cB cZ cO ad w)   (pf : w 55 = .inr (5, [.ref (ad 56), .ref (ad 57), .int z, .int a, .int b, .int c0, .int d])) (hz1 : z.toInt ≤ 150) (hd0 : 0 ≤ d.toInt) (hd1 : d.toInt ≤ 99) (p14 : w 14 = .inr (1, [.int ho, .int so, .int mi, .int ca, .int ja, .ref (ad 15), .ref (ad 16), .ref (ad 17), .ref (ad 18), .ref (ad 19), .ref (ad 20), .ref (ad 21), .ref (ad 23), .ref (ad 25)])) (p19 : w 19 = .inl (cI, 4, .inl co)) (pc : rgA 0 60 co) (p57 : w 57 = .inl (cI, 3, .inl f)) (pn : rgA 0 99 f) (hja4 : ja.toInt ≤ 4) (hca7 : ca.toInt ≤ 7) : NI l G (tyq cI cB cZ cO) yX7_fits cX7_fits 4 (some .boolean) 1 21 74 ad w [.ref (ad 55), .ref (ad 14), .int 4, .int 1] (fun r w1 => w = w1 ∧ (((d.toInt < ja.toInt ∧ ¬ d.toInt = (f 0).toInt) ∧ r = 1) ∨ (¬ (d.toInt < ja.toInt ∧ ¬ d.toInt = (f 0).toInt) ∧ r = 0))) := by
  refine nk_i (own := "NoonShade$Text") rfl (by decide) (Nat.le_of_ble_eq_true rfl) ?_
  intro p e s m below meth c ls X hD hN hr hlk h hl
  have hx := X.1.1
  have hb := X.1.2.1
  have hown := X.1.2.2.2.1
  have hts := X.1.2.2.2.2
  have hl : lv_has ls 4 [(0, .ref (ad 55)), (1, .ref (ad 14)), (2, .int 4), (3, .int 1)] := hl
  refine lv_iload_n hx hb dX7_fits_0 rfl (lv_at hl 2 rfl) ?_
  refine lv_tableIn (tgt := 100) (off := 99) hx hb dX7_fits_1 (by decide) (by decide) (by decide) (by decide) ?_
  refine lv_aload_n hx hb dX7_fits_100 rfl (lv_at hl 1 rfl) ?_
  refine lv_aload_n hx hb dX7_fits_101 rfl (lv_at hl 0 rfl) ?_
  refine r_get kc7 X h 55 6 (by decide) rfl pf (by decide) kv_390 rfl dX7_fits_102 ?_
  refine n_Vi (na := 1) (As := [.int d]) (rest := []) X hD hN h rfl (c_F_hasJar l G cI cB cZ cO ad w ho so mi ca ja  d  p14) ⟨kv_411, kv_224, kv_225, kv_37, kv_226⟩ rfl ⟨by decide, by decide, by decide⟩ ⟨Nat.le_of_ble_eq_true rfl, Nat.le_of_ble_eq_true rfl⟩ ⟨Nat.zero_le _, Nat.zero_le _⟩ (by decide) p14 rfl rfl hl.1 rfl (Nat.le_of_ble_eq_true rfl) dX7_fits_105 (fun r1 w2 H locs hp3 h => ?_)
  obtain ⟨rfl, hr4⟩ := hp3
  rcases hr4 with ⟨hq5, hq6, rfl⟩ | ⟨hq7, rfl⟩
  · refine lv_if_eq (tgt := 147) hx hb dX7_fits_108 (by decide) (fun hc => absurd hc (by decide)) (fun _ => ?_)
    refine lv_iload_n hx hb dX7_fits_111 rfl (lv_at hl 3 rfl) ?_
    refine lv_if_ne (tgt := 130) hx hb dX7_fits_112 (by decide) (fun _ => ?_) (fun hc => absurd hc (by decide))
    refine lv_aload_n hx hb dX7_fits_130 rfl (lv_at hl 0 rfl) ?_
    refine r_get kc7 X h 55 6 (by decide) rfl pf (by decide) kv_390 rfl dX7_fits_131 ?_
    refine lv_aload_n hx hb dX7_fits_134 rfl (lv_at hl 0 rfl) ?_
    refine r_get kc7 X h 55 1 (by decide) rfl pf (by decide) kv_413 rfl dX7_fits_135 ?_
    refine lv_iconst (v := 0) hx hb dX7_fits_138 (by decide) ?_
    obtain ⟨v8, e9⟩ : ∃ z : Int32, f 0 = z := ⟨_, rfl⟩
    have h10 := rgA_rd pn e9
    refine o_iald (v := v8) X h 57 0 (by decide) rfl p57 rfl (by unfold vp_in; decide) e9 dX7_fits_139 ?_
    refine lv_icmp_eq (tgt := 147) hx hb dX7_fits_140 (by decide) (fun hc11 => ?_) (fun hc11 => ?_)
    · have hc11 : (d).toInt = (v8).toInt := i_eq hc11 rfl rfl
      refine lv_iconst (v := 0) hx hb dX7_fits_147 (by decide) ?_
      exact e_n X h hr hlk rfl dX7_fits_148 ⟨rfl, Or.inr ⟨fun q9 => by have q1 := q9.1; have q2 := q9.2; rw [e9] at q2; omega, rfl⟩⟩
    · have hc11 : ¬ (d).toInt = (v8).toInt := i_ne hc11 rfl rfl
      refine lv_iconst (v := 1) hx hb dX7_fits_143 (by decide) ?_
      refine lv_goto (tgt := 148) hx hb dX7_fits_144 (by decide) ?_
      exact e_n X h hr hlk rfl dX7_fits_148 ⟨rfl, Or.inl ⟨⟨by omega, by rw [e9]; omega⟩, rfl⟩⟩
  · refine lv_if_eq (tgt := 147) hx hb dX7_fits_108 (by decide) (fun _ => ?_) (fun hc => absurd (by decide) hc)
    refine lv_iconst (v := 0) hx hb dX7_fits_147 (by decide) ?_
    exact e_n X h hr hlk rfl dX7_fits_148 ⟨rfl, Or.inr ⟨fun q9 => by have q1 := q9.1; have q2 := q9.2; omega, rfl⟩⟩

set_option maxHeartbeats 4000000 in
set_option maxRecDepth 100000 in
theorem c_F_fits50 (l : Launch) (G : va_G) (cI cB cZ cO : ClassId) (ad : Nat → Nat) (w : Nat → va_E) (z a b c0 d : Int32) (ho so mi ca ja : Int32) (co f : Nat → Int32) (ok : OK cI cB cZ cO ad w)   (pf : w 55 = .inr (5, [.ref (ad 56), .ref (ad 57), .int z, .int a, .int b, .int c0, .int d])) (hz1 : z.toInt ≤ 150) (hd0 : 0 ≤ d.toInt) (hd1 : d.toInt ≤ 99) (p14 : w 14 = .inr (1, [.int ho, .int so, .int mi, .int ca, .int ja, .ref (ad 15), .ref (ad 16), .ref (ad 17), .ref (ad 18), .ref (ad 19), .ref (ad 20), .ref (ad 21), .ref (ad 23), .ref (ad 25)])) (p19 : w 19 = .inl (cI, 4, .inl co)) (pc : rgA 0 60 co) (p57 : w 57 = .inl (cI, 3, .inl f)) (pn : rgA 0 99 f) (hja4 : ja.toInt ≤ 4) (hca7 : ca.toInt ≤ 7) : NI l G (tyq cI cB cZ cO) yX7_fits cX7_fits 4 (some .boolean) 0 0 74 ad w [.ref (ad 55), .ref (ad 14), .int 5, .int 0] (fun r w1 => w = w1 ∧ ((1 ≤ d.toInt ∧ r = 1) ∨ (¬ 1 ≤ d.toInt ∧ r = 0))) := by
  refine nk_i (own := "NoonShade$Text") rfl (by decide) (Nat.le_of_ble_eq_true rfl) ?_
  intro p e s m below meth c ls X hD hN hr hlk h hl
  have hx := X.1.1
  have hb := X.1.2.1
  have hown := X.1.2.2.2.1
  have hts := X.1.2.2.2.2
  have hl : lv_has ls 4 [(0, .ref (ad 55)), (1, .ref (ad 14)), (2, .int 5), (3, .int 0)] := hl
  refine lv_iload_n hx hb dX7_fits_0 rfl (lv_at hl 2 rfl) ?_
  refine lv_tableIn (tgt := 149) (off := 148) hx hb dX7_fits_1 (by decide) (by decide) (by decide) (by decide) ?_
  refine lv_aload_n hx hb dX7_fits_149 rfl (lv_at hl 0 rfl) ?_
  refine r_get kc7 X h 55 6 (by decide) rfl pf (by decide) kv_390 rfl dX7_fits_150 ?_
  refine lv_iconst (v := 1) hx hb dX7_fits_153 (by decide) ?_
  refine lv_icmp_lt (tgt := 161) hx hb dX7_fits_154 (by decide) (fun hc1 => ?_) (fun hc1 => ?_)
  · have hc1 : (d).toInt < 1 := i_lt hc1 rfl rfl
    refine lv_iconst (v := 0) hx hb dX7_fits_161 (by decide) ?_
    exact e_n X h hr hlk rfl dX7_fits_162 ⟨rfl, Or.inr ⟨by omega, rfl⟩⟩
  · have hc1 : ¬ (d).toInt < 1 := i_nlt hc1 rfl rfl
    refine lv_iconst (v := 1) hx hb dX7_fits_157 (by decide) ?_
    refine lv_goto (tgt := 162) hx hb dX7_fits_158 (by decide) ?_
    exact e_n X h hr hlk rfl dX7_fits_162 ⟨rfl, Or.inl ⟨by omega, rfl⟩⟩

set_option maxHeartbeats 4000000 in
set_option maxRecDepth 100000 in
theorem c_F_takeNumbers0 (l : Launch) (G : va_G) (cI cB cZ cO : ClassId) (ad : Nat → Nat) (w : Nat → va_E) (z a b c0 d : Int32) (bs f : Nat → Int32) (Gh : Nat → Int32) (ok : OK cI cB cZ cO ad w)   (pf : w 55 = .inr (5, [.ref (ad 56), .ref (ad 57), .int z, .int a, .int b, .int c0, .int d])) (hz1 : z.toInt ≤ 150) (p56 : w 56 = .inl (cB, 150, .inl bs)) (hb0 : 0 ≤ b.toInt) (hbz : b.toInt ≤ z.toInt) (hd0 : 0 ≤ d.toInt) (hd1 : d.toInt ≤ 99) (p57 : w 57 = .inl (cI, 3, .inl f)) (pn : rgA 0 99 f) (hR : RG cI ad w Gh) : NI l G (tyq cI cB cZ cO) yX7_takeNumbers cX7_takeNumbers 5 (some .boolean) 3 66 74 ad w [.ref (ad 55), .ref (ad 14), .int 0] (fun r w1 => OK cI cB cZ cO ad w1 ∧ F57 w w1 ∧ (∃ a1 b1 c1 d1 : Int32, w1 55 = .inr (5, [.ref (ad 56), .ref (ad 57), .int z, .int a1, .int b1, .int c1, .int d1]) ∧ 0 ≤ a1.toInt ∧ a1.toInt ≤ b1.toInt ∧ b1.toInt ≤ z.toInt ∧ ((∃ f1 : Nat → Int32, w1 57 = .inl (cI, 3, .inl f1) ∧ (True) ∧ it0 bs z.toNatClampNeg b.toNatClampNeg Gh = .inr (b1.toNatClampNeg, begF (f1 0))) ∧ r = 1 ∨ it0 bs z.toNatClampNeg b.toNatClampNeg Gh = .inl a1.toNatClampNeg ∧ r = 0)) ∧ RG cI ad w1 Gh) := by
  refine nk_i (own := "NoonShade$Text") rfl (by decide) (Nat.le_of_ble_eq_true rfl) ?_
  intro p e s m below meth c ls X hD hN hr hlk h hl
  have hx := X.1.1
  have hb := X.1.2.1
  have hown := X.1.2.2.2.1
  have hts := X.1.2.2.2.2
  have hl : lv_has ls 5 [(0, .ref (ad 55)), (1, .ref (ad 14)), (2, .int 0)] := hl
  obtain ⟨so1, ho2, mi3, ca4, ja5, ck6, hh7, jk8, co9, p10, p11, p12, p13, p14, hG15⟩ := id hR
  have p10 : w 14 = .inr (1, [.int ho2, .int so1, .int mi3, .int ca4, .int ja5, .ref (ad 15), .ref (ad 16), .ref (ad 17), .ref (ad 18), .ref (ad 19), .ref (ad 20), .ref (ad 21), .ref (ad 23), .ref (ad 25)]) := p10
  obtain ⟨hG16, hG17, hG18, hG19, hG20, hG21, hG22, hG23, hG24, hG25, hG26⟩ := id hG15
  have p27 : rgA 0 9 hh7 := sA_pred (show sA cI 7 (rgA 0 9) (w 16) from ok 16 (by decide)) p12
  have p28 : rgA 0 60 co9 := sA_pred (show sA cI 4 (rgA 0 60) (w 19) from ok 19 (by decide)) p14
  have n0_ := congrArg Int32.toInt hG18
  have n1_ := congrArg Int32.toInt hG19
  have n7_ := congrArg Int32.toInt hG17
  refine lv_iload_n hx hb dX7_takeNumbers_0 rfl (lv_at hl 2 rfl) ?_
  refine n_Si (na := 1) (As := [.int 0]) (rest := []) X hD hN h (c_numbersOf0 l G cI cB cZ cO ad w) ⟨kv_414, kv_415, kv_388, kv_416⟩ ⟨by decide, by decide, by decide⟩ ⟨Nat.le_of_ble_eq_true rfl, Nat.le_of_ble_eq_true rfl⟩ ⟨Nat.zero_le _, Nat.zero_le _⟩ rfl hl.1 rfl (Nat.le_of_ble_eq_true rfl) dX7_takeNumbers_1 (fun r29 w30 H locs hp31 h => ?_)
  obtain ⟨rfl, h32⟩ := hp31
  subst h32
  refine lv_istore_n (lv' := [(3, .int 1), (0, .ref (ad 55)), (1, .ref (ad 14)), (2, .int 0)]) hx hb dX7_takeNumbers_4 rfl hl (by decide) rfl (fun ls hl => ?_)
  refine lv_iconst (v := 0) hx hb dX7_takeNumbers_5 (by decide) ?_
  refine lv_istore (lv' := [(4, .int 0), (3, .int 1), (0, .ref (ad 55)), (1, .ref (ad 14)), (2, .int 0)]) hx hb dX7_takeNumbers_6 hl (by decide) rfl (fun ls hl => ?_)
  refine lv_iload hx hb dX7_takeNumbers_8 (lv_at hl 0 rfl) ?_
  refine lv_iload_n hx hb dX7_takeNumbers_10 rfl (lv_at hl 1 rfl) ?_
  refine lv_icmp_ge (tgt := 66) hx hb dX7_takeNumbers_11 (by decide) (fun hc => absurd hc (by decide)) (fun _ => ?_)
  refine lv_iload hx hb dX7_takeNumbers_14 (lv_at hl 0 rfl) ?_
  refine lv_aload_n hx hb dX7_takeNumbers_16 rfl (lv_at hl 2 rfl) ?_
  refine r_get kc7 X h 55 1 (by decide) rfl pf (by decide) kv_413 rfl dX7_takeNumbers_17 ?_
  refine r_alen X h (v := 3) 57 0 (by decide) rfl p57 rfl rfl dX7_takeNumbers_20 ?_
  refine lv_icmp_ge (tgt := 66) hx hb dX7_takeNumbers_21 (by decide) (fun hc => absurd hc (by decide)) (fun _ => ?_)
  refine lv_aload_n hx hb dX7_takeNumbers_24 rfl (lv_at hl 2 rfl) ?_
  refine n_Vv (na := 0) (As := []) (rest := []) X hD hN h rfl (c_F_step l G cI cB cZ cO ad w z a b c0 d bs ok pf (by omega) p56 (by first | omega | decide | (simp only [k00]; omega)) (by first | omega | decide | (simp only [k00]; omega)) (by first | omega | decide | (simp only [k00]; omega)) (by first | omega | decide | (simp only [k00]; omega))) ⟨kv_417, kv_418, kv_419, kv_388, kv_420⟩ rfl ⟨by decide, by decide, by decide⟩ ⟨Nat.le_of_ble_eq_true rfl, Nat.le_of_ble_eq_true rfl⟩ ⟨Nat.zero_le _, Nat.zero_le _⟩ (by decide) pf rfl rfl hl.1 rfl (Nat.le_of_ble_eq_true rfl) dX7_takeNumbers_25 (fun w34 H locs hp35 h => ?_)
  obtain ⟨ok36, kk37, hr38⟩ := hp35
  obtain ⟨y39, y40, y41, y42, h43, h44, h45, h46, h47⟩ := hr38
  have q48 := txd ok36 h43
  have kx49 : F57 w w34 := F57.tr F57.rf kk37.f57
  refine lv_aload_n hx hb dX7_takeNumbers_28 rfl (lv_at hl 2 rfl) ?_
  refine r_get kc7 X h 55 5 (by decide) rfl h43 (by decide) kv_392 rfl dX7_takeNumbers_29 ?_
  refine lv_iconst (v := 2) hx hb dX7_takeNumbers_32 (by decide) ?_
  refine lv_icmp_ne (tgt := 47) hx hb dX7_takeNumbers_33 (by decide) (fun hc50 => ?_) (fun hc50 => ?_)
  · have hc50 : ¬ (y41).toInt = 2 := i_ne hc50 rfl rfl
    refine lv_iconst (v := 0) hx hb dX7_takeNumbers_47 (by decide) ?_
    have hit51 : it0 bs z.toNatClampNeg b.toNatClampNeg Gh = .inl y39.toNatClampNeg := by
      unfold it0
      rw [pick_n (h47.nonum (by omega)), h47.s]
    exact e_n X h hr hlk rfl dX7_takeNumbers_48 ⟨ok36, kx49, ⟨⟨_, _, _, _, h43, by omega, by omega, by omega, Or.inr ⟨hit51, rfl⟩⟩, (RG.f57 hR kx49)⟩⟩
  · have hc50 : (y41).toInt = 2 := i_eq hc50 rfl rfl
    refine lv_aload_n hx hb dX7_takeNumbers_36 rfl (lv_at hl 2 rfl) ?_
    refine lv_aload_n hx hb dX7_takeNumbers_37 rfl (lv_at hl 3 rfl) ?_
    refine lv_iload_n hx hb dX7_takeNumbers_38 rfl (lv_at hl 4 rfl) ?_
    refine lv_iload hx hb dX7_takeNumbers_39 (lv_at hl 0 rfl) ?_
    have f52 : w34 14 = .inr (1, [.int ho2, .int so1, .int mi3, .int ca4, .int ja5, .ref (ad 15), .ref (ad 16), .ref (ad 17), .ref (ad 18), .ref (ad 19), .ref (ad 20), .ref (ad 21), .ref (ad 23), .ref (ad 25)]) := (kk37 14 (by decide)).trans p10
    have f53 : w34 19 = .inl (cI, 4, .inl co9) := (kk37 19 (by decide)).trans p14
    have f54 : w34 57 = .inl (cI, 3, .inl f) := (kk37 57 (by decide)).trans p57
    refine n_Vi (na := 3) (As := [.ref (ad 14), .int 0, .int 0]) (rest := []) X hD hN h rfl (c_F_fits00 l G cI cB cZ cO ad w34 z y39 y40 y41 y42 ho2 so1 mi3 ca4 ja5 co9 f ok36 h43 (by omega) (by omega) (by omega) f52 f53 p28 f54 pn (by omega) (by omega)) ⟨kv_421, kv_422, kv_423, kv_388, kv_424⟩ rfl ⟨by decide, by decide, by decide⟩ ⟨Nat.le_of_ble_eq_true rfl, Nat.le_of_ble_eq_true rfl⟩ ⟨Nat.zero_le _, Nat.zero_le _⟩ (by decide) h43 rfl rfl hl.1 rfl (Nat.le_of_ble_eq_true rfl) dX7_takeNumbers_41 (fun r55 w56 H locs hp57 h => ?_)
    obtain ⟨rfl, hr58⟩ := hp57
    rcases hr58 with ⟨hq59, rfl⟩ | ⟨hq59, rfl⟩
    · refine lv_if_ne (tgt := 49) hx hb dX7_takeNumbers_44 (by decide) (fun _ => ?_) (fun hc => absurd hc (by decide))
      refine lv_aload_n hx hb dX7_takeNumbers_49 rfl (lv_at hl 2 rfl) ?_
      refine r_get kc7 X h 55 1 (by decide) rfl h43 (by decide) kv_413 rfl dX7_takeNumbers_50 ?_
      refine lv_iload hx hb dX7_takeNumbers_53 (lv_at hl 0 rfl) ?_
      refine lv_aload_n hx hb dX7_takeNumbers_55 rfl (lv_at hl 2 rfl) ?_
      refine r_get kc7 X h 55 6 (by decide) rfl h43 (by decide) kv_390 rfl dX7_takeNumbers_56 ?_
      obtain ⟨g60, e61⟩ : ∃ z : Nat → Int32, upd f 0 y42 = z := ⟨_, rfl⟩
      have p63 : rgA 0 99 g60 := rgA_upd pn e61 (by omega) (by omega)
      refine o_iast (f1 := g60) X hD h 57 0 (by decide) rfl f54 rfl (by unfold vp_in; decide) e61 dX7_takeNumbers_59 (fun H locs w64 e65 h => ?_)
      have f66 : w64 57 = .inl (cI, 3, .inl g60) := (congrFun e65 _).trans (va_up_self _ _ _)
      have ok67 : OK cI cB cZ cO ad w64 := OK.up ok36 e65 (sA_mk p63)
      have kx68 : F57 w w64 := F57.up kx49 e65 (by decide)
      refine lv_iinc (v := 1) (lv' := [(4, .int 1), (3, .int 1), (0, .ref (ad 55)), (1, .ref (ad 14)), (2, .int 0)]) hx hb dX7_takeNumbers_60 hl (k := 0) rfl rfl (by decide) rfl (fun ls hl => ?_)
      refine lv_goto (tgt := 8) hx hb dX7_takeNumbers_63 (by decide) ?_
      refine lv_iload hx hb dX7_takeNumbers_8 (lv_at hl 0 rfl) ?_
      refine lv_iload_n hx hb dX7_takeNumbers_10 rfl (lv_at hl 1 rfl) ?_
      refine lv_icmp_ge (tgt := 66) hx hb dX7_takeNumbers_11 (by decide) (fun _ => ?_) (fun hc => absurd (by decide) hc)
      refine lv_aload_n hx hb dX7_takeNumbers_66 rfl (lv_at hl 2 rfl) ?_
      have f69 : w64 55 = .inr (5, [.ref (ad 56), .ref (ad 57), .int z, .int y39, .int y40, .int y41, .int y42]) := by rw [e65, va_up_ne _ _ (by decide)]; exact h43
      have f70 : w34 56 = .inl (cB, 150, .inl bs) := (kk37 56 (by decide)).trans p56
      have f71 : w64 56 = .inl (cB, 150, .inl bs) := by rw [e65, va_up_ne _ _ (by decide)]; exact f70
      refine n_Vv (na := 0) (As := []) (rest := []) X hD hN h rfl (c_F_step l G cI cB cZ cO ad w64 z y39 y40 y41 y42 bs ok67 f69 (by omega) f71 (by first | omega | decide | (simp only [k00]; omega)) (by first | omega | decide | (simp only [k00]; omega)) (by first | omega | decide | (simp only [k00]; omega)) (by first | omega | decide | (simp only [k00]; omega))) ⟨kv_417, kv_418, kv_419, kv_388, kv_420⟩ rfl ⟨by decide, by decide, by decide⟩ ⟨Nat.le_of_ble_eq_true rfl, Nat.le_of_ble_eq_true rfl⟩ ⟨Nat.zero_le _, Nat.zero_le _⟩ (by decide) f69 rfl rfl hl.1 rfl (Nat.le_of_ble_eq_true rfl) dX7_takeNumbers_67 (fun w73 H locs hp74 h => ?_)
      obtain ⟨ok75, kk76, hr77⟩ := hp74
      obtain ⟨y78, y79, y80, y81, h82, h83, h84, h85, h86⟩ := hr77
      have q87 := txd ok75 h82
      have kx88 : F57 w w73 := F57.tr kx68 kk76.f57
      refine lv_aload_n hx hb dX7_takeNumbers_70 rfl (lv_at hl 2 rfl) ?_
      refine r_get kc7 X h 55 5 (by decide) rfl h82 (by decide) kv_392 rfl dX7_takeNumbers_71 ?_
      refine lv_iconst (v := 3) hx hb dX7_takeNumbers_74 (by decide) ?_
      refine lv_icmp_ne (tgt := 82) hx hb dX7_takeNumbers_75 (by decide) (fun hc89 => ?_) (fun hc89 => ?_)
      · have hc89 : ¬ (y80).toInt = 3 := i_ne hc89 rfl rfl
        refine lv_iconst (v := 0) hx hb dX7_takeNumbers_82 (by decide) ?_
        have hit90 : it0 bs z.toNatClampNeg b.toNatClampNeg Gh = .inl y78.toNatClampNeg := by
          unfold it0
          rw [pick_y (h47.num (by omega) (by omega) (by omega))]
          rw [h47.e]
          rw [h86.nostop _ (by omega)]
        exact e_n X h hr hlk rfl dX7_takeNumbers_83 ⟨ok75, kx88, ⟨⟨_, _, _, _, h82, by omega, by omega, by omega, Or.inr ⟨hit90, rfl⟩⟩, (RG.f57 hR kx88)⟩⟩
      · have hc89 : (y80).toInt = 3 := i_eq hc89 rfl rfl
        refine lv_iconst (v := 1) hx hb dX7_takeNumbers_78 (by decide) ?_
        refine lv_goto (tgt := 83) hx hb dX7_takeNumbers_79 (by decide) ?_
        have f92 : w73 57 = .inl (cI, 3, .inl g60) := (kk76 57 (by decide)).trans f66
        have e93 : g60 0 = y42 := by rw [← e61, pk_us]
        have hit91 : it0 bs z.toNatClampNeg b.toNatClampNeg Gh = .inr (y79.toNatClampNeg, begF (g60 0)) := by
          unfold it0
          rw [pick_y (h47.num (by omega) (by omega) (by omega))]
          rw [h47.e]
          rw [h86.stop _ (by omega)]
          rw [h47.iv (by omega), e93]
        exact e_n X h hr hlk rfl dX7_takeNumbers_83 ⟨ok75, kx88, ⟨⟨_, _, _, _, h82, by omega, by omega, by omega, Or.inl ⟨⟨g60, f92, trivial, hit91⟩, rfl⟩⟩, (RG.f57 hR kx88)⟩⟩
    · exact absurd trivial hq59

set_option maxHeartbeats 4000000 in
set_option maxRecDepth 100000 in
theorem c_F_takeNumbers1 (l : Launch) (G : va_G) (cI cB cZ cO : ClassId) (ad : Nat → Nat) (w : Nat → va_E) (z a b c0 d : Int32) (bs f : Nat → Int32) (Gh : Nat → Int32) (ok : OK cI cB cZ cO ad w)   (pf : w 55 = .inr (5, [.ref (ad 56), .ref (ad 57), .int z, .int a, .int b, .int c0, .int d])) (hz1 : z.toInt ≤ 150) (p56 : w 56 = .inl (cB, 150, .inl bs)) (hb0 : 0 ≤ b.toInt) (hbz : b.toInt ≤ z.toInt) (hd0 : 0 ≤ d.toInt) (hd1 : d.toInt ≤ 99) (p57 : w 57 = .inl (cI, 3, .inl f)) (pn : rgA 0 99 f) (hR : RG cI ad w Gh) : NI l G (tyq cI cB cZ cO) yX7_takeNumbers cX7_takeNumbers 5 (some .boolean) 3 66 74 ad w [.ref (ad 55), .ref (ad 14), .int 1] (fun r w1 => OK cI cB cZ cO ad w1 ∧ F57 w w1 ∧ (∃ a1 b1 c1 d1 : Int32, w1 55 = .inr (5, [.ref (ad 56), .ref (ad 57), .int z, .int a1, .int b1, .int c1, .int d1]) ∧ 0 ≤ a1.toInt ∧ a1.toInt ≤ b1.toInt ∧ b1.toInt ≤ z.toInt ∧ ((∃ f1 : Nat → Int32, w1 57 = .inl (cI, 3, .inl f1) ∧ ((f1 1).toInt ≤ 9) ∧ it1 bs z.toNatClampNeg b.toNatClampNeg Gh = .inr (b1.toNatClampNeg, layCF Gh (f1 0) (f1 1) (f1 2))) ∧ r = 1 ∨ it1 bs z.toNatClampNeg b.toNatClampNeg Gh = .inl a1.toNatClampNeg ∧ r = 0)) ∧ RG cI ad w1 Gh) := by
  refine nk_i (own := "NoonShade$Text") rfl (by decide) (Nat.le_of_ble_eq_true rfl) ?_
  intro p e s m below meth c ls X hD hN hr hlk h hl
  have hx := X.1.1
  have hb := X.1.2.1
  have hown := X.1.2.2.2.1
  have hts := X.1.2.2.2.2
  have hl : lv_has ls 5 [(0, .ref (ad 55)), (1, .ref (ad 14)), (2, .int 1)] := hl
  obtain ⟨so1, ho2, mi3, ca4, ja5, ck6, hh7, jk8, co9, p10, p11, p12, p13, p14, hG15⟩ := id hR
  have p10 : w 14 = .inr (1, [.int ho2, .int so1, .int mi3, .int ca4, .int ja5, .ref (ad 15), .ref (ad 16), .ref (ad 17), .ref (ad 18), .ref (ad 19), .ref (ad 20), .ref (ad 21), .ref (ad 23), .ref (ad 25)]) := p10
  obtain ⟨hG16, hG17, hG18, hG19, hG20, hG21, hG22, hG23, hG24, hG25, hG26⟩ := id hG15
  have p27 : rgA 0 9 hh7 := sA_pred (show sA cI 7 (rgA 0 9) (w 16) from ok 16 (by decide)) p12
  have p28 : rgA 0 60 co9 := sA_pred (show sA cI 4 (rgA 0 60) (w 19) from ok 19 (by decide)) p14
  have n0_ := congrArg Int32.toInt hG18
  have n1_ := congrArg Int32.toInt hG19
  have n7_ := congrArg Int32.toInt hG17
  refine lv_iload_n hx hb dX7_takeNumbers_0 rfl (lv_at hl 2 rfl) ?_
  refine n_Si (na := 1) (As := [.int 1]) (rest := []) X hD hN h (c_numbersOf1 l G cI cB cZ cO ad w) ⟨kv_414, kv_415, kv_388, kv_416⟩ ⟨by decide, by decide, by decide⟩ ⟨Nat.le_of_ble_eq_true rfl, Nat.le_of_ble_eq_true rfl⟩ ⟨Nat.zero_le _, Nat.zero_le _⟩ rfl hl.1 rfl (Nat.le_of_ble_eq_true rfl) dX7_takeNumbers_1 (fun r29 w30 H locs hp31 h => ?_)
  obtain ⟨rfl, h32⟩ := hp31
  subst h32
  refine lv_istore_n (lv' := [(3, .int 3), (0, .ref (ad 55)), (1, .ref (ad 14)), (2, .int 1)]) hx hb dX7_takeNumbers_4 rfl hl (by decide) rfl (fun ls hl => ?_)
  refine lv_iconst (v := 0) hx hb dX7_takeNumbers_5 (by decide) ?_
  refine lv_istore (lv' := [(4, .int 0), (3, .int 3), (0, .ref (ad 55)), (1, .ref (ad 14)), (2, .int 1)]) hx hb dX7_takeNumbers_6 hl (by decide) rfl (fun ls hl => ?_)
  refine lv_iload hx hb dX7_takeNumbers_8 (lv_at hl 0 rfl) ?_
  refine lv_iload_n hx hb dX7_takeNumbers_10 rfl (lv_at hl 1 rfl) ?_
  refine lv_icmp_ge (tgt := 66) hx hb dX7_takeNumbers_11 (by decide) (fun hc => absurd hc (by decide)) (fun _ => ?_)
  refine lv_iload hx hb dX7_takeNumbers_14 (lv_at hl 0 rfl) ?_
  refine lv_aload_n hx hb dX7_takeNumbers_16 rfl (lv_at hl 2 rfl) ?_
  refine r_get kc7 X h 55 1 (by decide) rfl pf (by decide) kv_413 rfl dX7_takeNumbers_17 ?_
  refine r_alen X h (v := 3) 57 0 (by decide) rfl p57 rfl rfl dX7_takeNumbers_20 ?_
  refine lv_icmp_ge (tgt := 66) hx hb dX7_takeNumbers_21 (by decide) (fun hc => absurd hc (by decide)) (fun _ => ?_)
  refine lv_aload_n hx hb dX7_takeNumbers_24 rfl (lv_at hl 2 rfl) ?_
  refine n_Vv (na := 0) (As := []) (rest := []) X hD hN h rfl (c_F_step l G cI cB cZ cO ad w z a b c0 d bs ok pf (by omega) p56 (by first | omega | decide | (simp only [k00]; omega)) (by first | omega | decide | (simp only [k00]; omega)) (by first | omega | decide | (simp only [k00]; omega)) (by first | omega | decide | (simp only [k00]; omega))) ⟨kv_417, kv_418, kv_419, kv_388, kv_420⟩ rfl ⟨by decide, by decide, by decide⟩ ⟨Nat.le_of_ble_eq_true rfl, Nat.le_of_ble_eq_true rfl⟩ ⟨Nat.zero_le _, Nat.zero_le _⟩ (by decide) pf rfl rfl hl.1 rfl (Nat.le_of_ble_eq_true rfl) dX7_takeNumbers_25 (fun w34 H locs hp35 h => ?_)
  obtain ⟨ok36, kk37, hr38⟩ := hp35
  obtain ⟨y39, y40, y41, y42, h43, h44, h45, h46, h47⟩ := hr38
  have q48 := txd ok36 h43
  have kx49 : F57 w w34 := F57.tr F57.rf kk37.f57
  refine lv_aload_n hx hb dX7_takeNumbers_28 rfl (lv_at hl 2 rfl) ?_
  refine r_get kc7 X h 55 5 (by decide) rfl h43 (by decide) kv_392 rfl dX7_takeNumbers_29 ?_
  refine lv_iconst (v := 2) hx hb dX7_takeNumbers_32 (by decide) ?_
  refine lv_icmp_ne (tgt := 47) hx hb dX7_takeNumbers_33 (by decide) (fun hc50 => ?_) (fun hc50 => ?_)
  · have hc50 : ¬ (y41).toInt = 2 := i_ne hc50 rfl rfl
    refine lv_iconst (v := 0) hx hb dX7_takeNumbers_47 (by decide) ?_
    have hit51 : it1 bs z.toNatClampNeg b.toNatClampNeg Gh = .inl y39.toNatClampNeg := by
      unfold it1
      rw [pick_n (h47.nonum (by omega)), h47.s]
    exact e_n X h hr hlk rfl dX7_takeNumbers_48 ⟨ok36, kx49, ⟨⟨_, _, _, _, h43, by omega, by omega, by omega, Or.inr ⟨hit51, rfl⟩⟩, (RG.f57 hR kx49)⟩⟩
  · have hc50 : (y41).toInt = 2 := i_eq hc50 rfl rfl
    refine lv_aload_n hx hb dX7_takeNumbers_36 rfl (lv_at hl 2 rfl) ?_
    refine lv_aload_n hx hb dX7_takeNumbers_37 rfl (lv_at hl 3 rfl) ?_
    refine lv_iload_n hx hb dX7_takeNumbers_38 rfl (lv_at hl 4 rfl) ?_
    refine lv_iload hx hb dX7_takeNumbers_39 (lv_at hl 0 rfl) ?_
    have f52 : w34 14 = .inr (1, [.int ho2, .int so1, .int mi3, .int ca4, .int ja5, .ref (ad 15), .ref (ad 16), .ref (ad 17), .ref (ad 18), .ref (ad 19), .ref (ad 20), .ref (ad 21), .ref (ad 23), .ref (ad 25)]) := (kk37 14 (by decide)).trans p10
    have f53 : w34 19 = .inl (cI, 4, .inl co9) := (kk37 19 (by decide)).trans p14
    have f54 : w34 57 = .inl (cI, 3, .inl f) := (kk37 57 (by decide)).trans p57
    refine n_Vi (na := 3) (As := [.ref (ad 14), .int 1, .int 0]) (rest := []) X hD hN h rfl (c_F_fits10 l G cI cB cZ cO ad w34 z y39 y40 y41 y42 ho2 so1 mi3 ca4 ja5 co9 f ok36 h43 (by omega) (by omega) (by omega) f52 f53 p28 f54 pn (by omega) (by omega)) ⟨kv_421, kv_422, kv_423, kv_388, kv_424⟩ rfl ⟨by decide, by decide, by decide⟩ ⟨Nat.le_of_ble_eq_true rfl, Nat.le_of_ble_eq_true rfl⟩ ⟨Nat.zero_le _, Nat.zero_le _⟩ (by decide) h43 rfl rfl hl.1 rfl (Nat.le_of_ble_eq_true rfl) dX7_takeNumbers_41 (fun r55 w56 H locs hp57 h => ?_)
    obtain ⟨rfl, hr58⟩ := hp57
    rcases hr58 with ⟨hq59, rfl⟩ | ⟨hq59, rfl⟩
    · refine lv_if_ne (tgt := 49) hx hb dX7_takeNumbers_44 (by decide) (fun _ => ?_) (fun hc => absurd hc (by decide))
      refine lv_aload_n hx hb dX7_takeNumbers_49 rfl (lv_at hl 2 rfl) ?_
      refine r_get kc7 X h 55 1 (by decide) rfl h43 (by decide) kv_413 rfl dX7_takeNumbers_50 ?_
      refine lv_iload hx hb dX7_takeNumbers_53 (lv_at hl 0 rfl) ?_
      refine lv_aload_n hx hb dX7_takeNumbers_55 rfl (lv_at hl 2 rfl) ?_
      refine r_get kc7 X h 55 6 (by decide) rfl h43 (by decide) kv_390 rfl dX7_takeNumbers_56 ?_
      obtain ⟨g60, e61⟩ : ∃ z : Nat → Int32, upd f 0 y42 = z := ⟨_, rfl⟩
      have p63 : rgA 0 99 g60 := rgA_upd pn e61 (by omega) (by omega)
      refine o_iast (f1 := g60) X hD h 57 0 (by decide) rfl f54 rfl (by unfold vp_in; decide) e61 dX7_takeNumbers_59 (fun H locs w64 e65 h => ?_)
      have f66 : w64 57 = .inl (cI, 3, .inl g60) := (congrFun e65 _).trans (va_up_self _ _ _)
      have ok67 : OK cI cB cZ cO ad w64 := OK.up ok36 e65 (sA_mk p63)
      have kx68 : F57 w w64 := F57.up kx49 e65 (by decide)
      refine lv_iinc (v := 1) (lv' := [(4, .int 1), (3, .int 3), (0, .ref (ad 55)), (1, .ref (ad 14)), (2, .int 1)]) hx hb dX7_takeNumbers_60 hl (k := 0) rfl rfl (by decide) rfl (fun ls hl => ?_)
      refine lv_goto (tgt := 8) hx hb dX7_takeNumbers_63 (by decide) ?_
      refine lv_iload hx hb dX7_takeNumbers_8 (lv_at hl 0 rfl) ?_
      refine lv_iload_n hx hb dX7_takeNumbers_10 rfl (lv_at hl 1 rfl) ?_
      refine lv_icmp_ge (tgt := 66) hx hb dX7_takeNumbers_11 (by decide) (fun hc => absurd hc (by decide)) (fun _ => ?_)
      refine lv_iload hx hb dX7_takeNumbers_14 (lv_at hl 0 rfl) ?_
      refine lv_aload_n hx hb dX7_takeNumbers_16 rfl (lv_at hl 2 rfl) ?_
      have f69 : w64 55 = .inr (5, [.ref (ad 56), .ref (ad 57), .int z, .int y39, .int y40, .int y41, .int y42]) := by rw [e65, va_up_ne _ _ (by decide)]; exact h43
      refine r_get kc7 X h 55 1 (by decide) rfl f69 (by decide) kv_413 rfl dX7_takeNumbers_17 ?_
      refine r_alen X h (v := 3) 57 0 (by decide) rfl f66 rfl rfl dX7_takeNumbers_20 ?_
      refine lv_icmp_ge (tgt := 66) hx hb dX7_takeNumbers_21 (by decide) (fun hc => absurd hc (by decide)) (fun _ => ?_)
      refine lv_aload_n hx hb dX7_takeNumbers_24 rfl (lv_at hl 2 rfl) ?_
      have f70 : w34 56 = .inl (cB, 150, .inl bs) := (kk37 56 (by decide)).trans p56
      have f71 : w64 56 = .inl (cB, 150, .inl bs) := by rw [e65, va_up_ne _ _ (by decide)]; exact f70
      refine n_Vv (na := 0) (As := []) (rest := []) X hD hN h rfl (c_F_step l G cI cB cZ cO ad w64 z y39 y40 y41 y42 bs ok67 f69 (by omega) f71 (by first | omega | decide | (simp only [k00]; omega)) (by first | omega | decide | (simp only [k00]; omega)) (by first | omega | decide | (simp only [k00]; omega)) (by first | omega | decide | (simp only [k00]; omega))) ⟨kv_417, kv_418, kv_419, kv_388, kv_420⟩ rfl ⟨by decide, by decide, by decide⟩ ⟨Nat.le_of_ble_eq_true rfl, Nat.le_of_ble_eq_true rfl⟩ ⟨Nat.zero_le _, Nat.zero_le _⟩ (by decide) f69 rfl rfl hl.1 rfl (Nat.le_of_ble_eq_true rfl) dX7_takeNumbers_25 (fun w73 H locs hp74 h => ?_)
      obtain ⟨ok75, kk76, hr77⟩ := hp74
      obtain ⟨y78, y79, y80, y81, h82, h83, h84, h85, h86⟩ := hr77
      have q87 := txd ok75 h82
      have kx88 : F57 w w73 := F57.tr kx68 kk76.f57
      refine lv_aload_n hx hb dX7_takeNumbers_28 rfl (lv_at hl 2 rfl) ?_
      refine r_get kc7 X h 55 5 (by decide) rfl h82 (by decide) kv_392 rfl dX7_takeNumbers_29 ?_
      refine lv_iconst (v := 2) hx hb dX7_takeNumbers_32 (by decide) ?_
      refine lv_icmp_ne (tgt := 47) hx hb dX7_takeNumbers_33 (by decide) (fun hc89 => ?_) (fun hc89 => ?_)
      · have hc89 : ¬ (y80).toInt = 2 := i_ne hc89 rfl rfl
        refine lv_iconst (v := 0) hx hb dX7_takeNumbers_47 (by decide) ?_
        have hit90 : it1 bs z.toNatClampNeg b.toNatClampNeg Gh = .inl y78.toNatClampNeg := by
          unfold it1
          rw [pick_y (h47.num (by omega) (by omega) (by omega))]
          rw [h47.e]
          rw [pick_n (h86.nonum (by omega)), h86.s]
        exact e_n X h hr hlk rfl dX7_takeNumbers_48 ⟨ok75, kx88, ⟨⟨_, _, _, _, h82, by omega, by omega, by omega, Or.inr ⟨hit90, rfl⟩⟩, (RG.f57 hR kx88)⟩⟩
      · have hc89 : (y80).toInt = 2 := i_eq hc89 rfl rfl
        refine lv_aload_n hx hb dX7_takeNumbers_36 rfl (lv_at hl 2 rfl) ?_
        refine lv_aload_n hx hb dX7_takeNumbers_37 rfl (lv_at hl 3 rfl) ?_
        refine lv_iload_n hx hb dX7_takeNumbers_38 rfl (lv_at hl 4 rfl) ?_
        refine lv_iload hx hb dX7_takeNumbers_39 (lv_at hl 0 rfl) ?_
        have f91 : w64 14 = .inr (1, [.int ho2, .int so1, .int mi3, .int ca4, .int ja5, .ref (ad 15), .ref (ad 16), .ref (ad 17), .ref (ad 18), .ref (ad 19), .ref (ad 20), .ref (ad 21), .ref (ad 23), .ref (ad 25)]) := by rw [e65, va_up_ne _ _ (by decide)]; exact f52
        have f92 : w73 14 = .inr (1, [.int ho2, .int so1, .int mi3, .int ca4, .int ja5, .ref (ad 15), .ref (ad 16), .ref (ad 17), .ref (ad 18), .ref (ad 19), .ref (ad 20), .ref (ad 21), .ref (ad 23), .ref (ad 25)]) := (kk76 14 (by decide)).trans f91
        have f93 : w64 19 = .inl (cI, 4, .inl co9) := by rw [e65, va_up_ne _ _ (by decide)]; exact f53
        have f94 : w73 19 = .inl (cI, 4, .inl co9) := (kk76 19 (by decide)).trans f93
        have f95 : w73 57 = .inl (cI, 3, .inl g60) := (kk76 57 (by decide)).trans f66
        refine n_Vi (na := 3) (As := [.ref (ad 14), .int 1, .int 1]) (rest := []) X hD hN h rfl (c_F_fits11 l G cI cB cZ cO ad w73 z y78 y79 y80 y81 ho2 so1 mi3 ca4 ja5 co9 g60 ok75 h82 (by omega) (by omega) (by omega) f92 f94 p28 f95 p63 (by omega) (by omega)) ⟨kv_421, kv_422, kv_423, kv_388, kv_424⟩ rfl ⟨by decide, by decide, by decide⟩ ⟨Nat.le_of_ble_eq_true rfl, Nat.le_of_ble_eq_true rfl⟩ ⟨Nat.zero_le _, Nat.zero_le _⟩ (by decide) h82 rfl rfl hl.1 rfl (Nat.le_of_ble_eq_true rfl) dX7_takeNumbers_41 (fun r96 w97 H locs hp98 h => ?_)
        obtain ⟨rfl, hr99⟩ := hp98
        rcases hr99 with ⟨hq100, rfl⟩ | ⟨hq100, rfl⟩
        · refine lv_if_ne (tgt := 49) hx hb dX7_takeNumbers_44 (by decide) (fun _ => ?_) (fun hc => absurd hc (by decide))
          refine lv_aload_n hx hb dX7_takeNumbers_49 rfl (lv_at hl 2 rfl) ?_
          refine r_get kc7 X h 55 1 (by decide) rfl h82 (by decide) kv_413 rfl dX7_takeNumbers_50 ?_
          refine lv_iload hx hb dX7_takeNumbers_53 (lv_at hl 0 rfl) ?_
          refine lv_aload_n hx hb dX7_takeNumbers_55 rfl (lv_at hl 2 rfl) ?_
          refine r_get kc7 X h 55 6 (by decide) rfl h82 (by decide) kv_390 rfl dX7_takeNumbers_56 ?_
          obtain ⟨g101, e102⟩ : ∃ z : Nat → Int32, upd g60 1 y81 = z := ⟨_, rfl⟩
          have p104 : rgA 0 99 g101 := rgA_upd p63 e102 (by omega) (by omega)
          refine o_iast (f1 := g101) X hD h 57 0 (by decide) rfl f95 rfl (by unfold vp_in; decide) e102 dX7_takeNumbers_59 (fun H locs w105 e106 h => ?_)
          have f107 : w105 57 = .inl (cI, 3, .inl g101) := (congrFun e106 _).trans (va_up_self _ _ _)
          have ok108 : OK cI cB cZ cO ad w105 := OK.up ok75 e106 (sA_mk p104)
          have kx109 : F57 w w105 := F57.up kx88 e106 (by decide)
          refine lv_iinc (v := 2) (lv' := [(4, .int 2), (3, .int 3), (0, .ref (ad 55)), (1, .ref (ad 14)), (2, .int 1)]) hx hb dX7_takeNumbers_60 hl (k := 0) rfl rfl (by decide) rfl (fun ls hl => ?_)
          refine lv_goto (tgt := 8) hx hb dX7_takeNumbers_63 (by decide) ?_
          refine lv_iload hx hb dX7_takeNumbers_8 (lv_at hl 0 rfl) ?_
          refine lv_iload_n hx hb dX7_takeNumbers_10 rfl (lv_at hl 1 rfl) ?_
          refine lv_icmp_ge (tgt := 66) hx hb dX7_takeNumbers_11 (by decide) (fun hc => absurd hc (by decide)) (fun _ => ?_)
          refine lv_iload hx hb dX7_takeNumbers_14 (lv_at hl 0 rfl) ?_
          refine lv_aload_n hx hb dX7_takeNumbers_16 rfl (lv_at hl 2 rfl) ?_
          have f110 : w105 55 = .inr (5, [.ref (ad 56), .ref (ad 57), .int z, .int y78, .int y79, .int y80, .int y81]) := by rw [e106, va_up_ne _ _ (by decide)]; exact h82
          refine r_get kc7 X h 55 1 (by decide) rfl f110 (by decide) kv_413 rfl dX7_takeNumbers_17 ?_
          refine r_alen X h (v := 3) 57 0 (by decide) rfl f107 rfl rfl dX7_takeNumbers_20 ?_
          refine lv_icmp_ge (tgt := 66) hx hb dX7_takeNumbers_21 (by decide) (fun hc => absurd hc (by decide)) (fun _ => ?_)
          refine lv_aload_n hx hb dX7_takeNumbers_24 rfl (lv_at hl 2 rfl) ?_
          have f111 : w73 56 = .inl (cB, 150, .inl bs) := (kk76 56 (by decide)).trans f71
          have f112 : w105 56 = .inl (cB, 150, .inl bs) := by rw [e106, va_up_ne _ _ (by decide)]; exact f111
          refine n_Vv (na := 0) (As := []) (rest := []) X hD hN h rfl (c_F_step l G cI cB cZ cO ad w105 z y78 y79 y80 y81 bs ok108 f110 (by omega) f112 (by first | omega | decide | (simp only [k00]; omega)) (by first | omega | decide | (simp only [k00]; omega)) (by first | omega | decide | (simp only [k00]; omega)) (by first | omega | decide | (simp only [k00]; omega))) ⟨kv_417, kv_418, kv_419, kv_388, kv_420⟩ rfl ⟨by decide, by decide, by decide⟩ ⟨Nat.le_of_ble_eq_true rfl, Nat.le_of_ble_eq_true rfl⟩ ⟨Nat.zero_le _, Nat.zero_le _⟩ (by decide) f110 rfl rfl hl.1 rfl (Nat.le_of_ble_eq_true rfl) dX7_takeNumbers_25 (fun w114 H locs hp115 h => ?_)
          obtain ⟨ok116, kk117, hr118⟩ := hp115
          obtain ⟨y119, y120, y121, y122, h123, h124, h125, h126, h127⟩ := hr118
          have q128 := txd ok116 h123
          have kx129 : F57 w w114 := F57.tr kx109 kk117.f57
          refine lv_aload_n hx hb dX7_takeNumbers_28 rfl (lv_at hl 2 rfl) ?_
          refine r_get kc7 X h 55 5 (by decide) rfl h123 (by decide) kv_392 rfl dX7_takeNumbers_29 ?_
          refine lv_iconst (v := 2) hx hb dX7_takeNumbers_32 (by decide) ?_
          refine lv_icmp_ne (tgt := 47) hx hb dX7_takeNumbers_33 (by decide) (fun hc130 => ?_) (fun hc130 => ?_)
          · have hc130 : ¬ (y121).toInt = 2 := i_ne hc130 rfl rfl
            refine lv_iconst (v := 0) hx hb dX7_takeNumbers_47 (by decide) ?_
            have hit131 : it1 bs z.toNatClampNeg b.toNatClampNeg Gh = .inl y119.toNatClampNeg := by
              unfold it1
              rw [pick_y (h47.num (by omega) (by omega) (by omega))]
              rw [h47.e]
              rw [pick_y (h86.num (by omega) (by omega) (by omega))]
              rw [h86.e]
              rw [pick_n (h127.nonum (by omega)), h127.s]
            exact e_n X h hr hlk rfl dX7_takeNumbers_48 ⟨ok116, kx129, ⟨⟨_, _, _, _, h123, by omega, by omega, by omega, Or.inr ⟨hit131, rfl⟩⟩, (RG.f57 hR kx129)⟩⟩
          · have hc130 : (y121).toInt = 2 := i_eq hc130 rfl rfl
            refine lv_aload_n hx hb dX7_takeNumbers_36 rfl (lv_at hl 2 rfl) ?_
            refine lv_aload_n hx hb dX7_takeNumbers_37 rfl (lv_at hl 3 rfl) ?_
            refine lv_iload_n hx hb dX7_takeNumbers_38 rfl (lv_at hl 4 rfl) ?_
            refine lv_iload hx hb dX7_takeNumbers_39 (lv_at hl 0 rfl) ?_
            have f132 : w105 14 = .inr (1, [.int ho2, .int so1, .int mi3, .int ca4, .int ja5, .ref (ad 15), .ref (ad 16), .ref (ad 17), .ref (ad 18), .ref (ad 19), .ref (ad 20), .ref (ad 21), .ref (ad 23), .ref (ad 25)]) := by rw [e106, va_up_ne _ _ (by decide)]; exact f92
            have f133 : w114 14 = .inr (1, [.int ho2, .int so1, .int mi3, .int ca4, .int ja5, .ref (ad 15), .ref (ad 16), .ref (ad 17), .ref (ad 18), .ref (ad 19), .ref (ad 20), .ref (ad 21), .ref (ad 23), .ref (ad 25)]) := (kk117 14 (by decide)).trans f132
            have f134 : w105 19 = .inl (cI, 4, .inl co9) := by rw [e106, va_up_ne _ _ (by decide)]; exact f94
            have f135 : w114 19 = .inl (cI, 4, .inl co9) := (kk117 19 (by decide)).trans f134
            have f136 : w114 57 = .inl (cI, 3, .inl g101) := (kk117 57 (by decide)).trans f107
            refine n_Vi (na := 3) (As := [.ref (ad 14), .int 1, .int 2]) (rest := []) X hD hN h rfl (c_F_fits12 l G cI cB cZ cO ad w114 z y119 y120 y121 y122 ho2 so1 mi3 ca4 ja5 co9 g101 ok116 h123 (by omega) (by omega) (by omega) f133 f135 p28 f136 p104 (by omega) (by omega)) ⟨kv_421, kv_422, kv_423, kv_388, kv_424⟩ rfl ⟨by decide, by decide, by decide⟩ ⟨Nat.le_of_ble_eq_true rfl, Nat.le_of_ble_eq_true rfl⟩ ⟨Nat.zero_le _, Nat.zero_le _⟩ (by decide) h123 rfl rfl hl.1 rfl (Nat.le_of_ble_eq_true rfl) dX7_takeNumbers_41 (fun r137 w138 H locs hp139 h => ?_)
            obtain ⟨rfl, hr140⟩ := hp139
            rcases hr140 with ⟨hq141, rfl⟩ | ⟨hq141, rfl⟩
            · refine lv_if_ne (tgt := 49) hx hb dX7_takeNumbers_44 (by decide) (fun _ => ?_) (fun hc => absurd hc (by decide))
              refine lv_aload_n hx hb dX7_takeNumbers_49 rfl (lv_at hl 2 rfl) ?_
              refine r_get kc7 X h 55 1 (by decide) rfl h123 (by decide) kv_413 rfl dX7_takeNumbers_50 ?_
              refine lv_iload hx hb dX7_takeNumbers_53 (lv_at hl 0 rfl) ?_
              refine lv_aload_n hx hb dX7_takeNumbers_55 rfl (lv_at hl 2 rfl) ?_
              refine r_get kc7 X h 55 6 (by decide) rfl h123 (by decide) kv_390 rfl dX7_takeNumbers_56 ?_
              obtain ⟨g142, e143⟩ : ∃ z : Nat → Int32, upd g101 2 y122 = z := ⟨_, rfl⟩
              have p145 : rgA 0 99 g142 := rgA_upd p104 e143 (by omega) (by omega)
              refine o_iast (f1 := g142) X hD h 57 0 (by decide) rfl f136 rfl (by unfold vp_in; decide) e143 dX7_takeNumbers_59 (fun H locs w146 e147 h => ?_)
              have f148 : w146 57 = .inl (cI, 3, .inl g142) := (congrFun e147 _).trans (va_up_self _ _ _)
              have ok149 : OK cI cB cZ cO ad w146 := OK.up ok116 e147 (sA_mk p145)
              have kx150 : F57 w w146 := F57.up kx129 e147 (by decide)
              refine lv_iinc (v := 3) (lv' := [(4, .int 3), (3, .int 3), (0, .ref (ad 55)), (1, .ref (ad 14)), (2, .int 1)]) hx hb dX7_takeNumbers_60 hl (k := 0) rfl rfl (by decide) rfl (fun ls hl => ?_)
              refine lv_goto (tgt := 8) hx hb dX7_takeNumbers_63 (by decide) ?_
              refine lv_iload hx hb dX7_takeNumbers_8 (lv_at hl 0 rfl) ?_
              refine lv_iload_n hx hb dX7_takeNumbers_10 rfl (lv_at hl 1 rfl) ?_
              refine lv_icmp_ge (tgt := 66) hx hb dX7_takeNumbers_11 (by decide) (fun _ => ?_) (fun hc => absurd (by decide) hc)
              refine lv_aload_n hx hb dX7_takeNumbers_66 rfl (lv_at hl 2 rfl) ?_
              have f151 : w146 55 = .inr (5, [.ref (ad 56), .ref (ad 57), .int z, .int y119, .int y120, .int y121, .int y122]) := by rw [e147, va_up_ne _ _ (by decide)]; exact h123
              have f152 : w114 56 = .inl (cB, 150, .inl bs) := (kk117 56 (by decide)).trans f112
              have f153 : w146 56 = .inl (cB, 150, .inl bs) := by rw [e147, va_up_ne _ _ (by decide)]; exact f152
              refine n_Vv (na := 0) (As := []) (rest := []) X hD hN h rfl (c_F_step l G cI cB cZ cO ad w146 z y119 y120 y121 y122 bs ok149 f151 (by omega) f153 (by first | omega | decide | (simp only [k00]; omega)) (by first | omega | decide | (simp only [k00]; omega)) (by first | omega | decide | (simp only [k00]; omega)) (by first | omega | decide | (simp only [k00]; omega))) ⟨kv_417, kv_418, kv_419, kv_388, kv_420⟩ rfl ⟨by decide, by decide, by decide⟩ ⟨Nat.le_of_ble_eq_true rfl, Nat.le_of_ble_eq_true rfl⟩ ⟨Nat.zero_le _, Nat.zero_le _⟩ (by decide) f151 rfl rfl hl.1 rfl (Nat.le_of_ble_eq_true rfl) dX7_takeNumbers_67 (fun w155 H locs hp156 h => ?_)
              obtain ⟨ok157, kk158, hr159⟩ := hp156
              obtain ⟨y160, y161, y162, y163, h164, h165, h166, h167, h168⟩ := hr159
              have q169 := txd ok157 h164
              have kx170 : F57 w w155 := F57.tr kx150 kk158.f57
              refine lv_aload_n hx hb dX7_takeNumbers_70 rfl (lv_at hl 2 rfl) ?_
              refine r_get kc7 X h 55 5 (by decide) rfl h164 (by decide) kv_392 rfl dX7_takeNumbers_71 ?_
              refine lv_iconst (v := 3) hx hb dX7_takeNumbers_74 (by decide) ?_
              refine lv_icmp_ne (tgt := 82) hx hb dX7_takeNumbers_75 (by decide) (fun hc171 => ?_) (fun hc171 => ?_)
              · have hc171 : ¬ (y162).toInt = 3 := i_ne hc171 rfl rfl
                refine lv_iconst (v := 0) hx hb dX7_takeNumbers_82 (by decide) ?_
                have hit172 : it1 bs z.toNatClampNeg b.toNatClampNeg Gh = .inl y160.toNatClampNeg := by
                  unfold it1
                  rw [pick_y (h47.num (by omega) (by omega) (by omega))]
                  rw [h47.e]
                  rw [pick_y (h86.num (by omega) (by omega) (by omega))]
                  rw [h86.e]
                  rw [pick_y (h127.num (by omega) (by omega) (by omega))]
                  rw [h127.e]
                  rw [h168.nostop _ (by omega)]
                exact e_n X h hr hlk rfl dX7_takeNumbers_83 ⟨ok157, kx170, ⟨⟨_, _, _, _, h164, by omega, by omega, by omega, Or.inr ⟨hit172, rfl⟩⟩, (RG.f57 hR kx170)⟩⟩
              · have hc171 : (y162).toInt = 3 := i_eq hc171 rfl rfl
                refine lv_iconst (v := 1) hx hb dX7_takeNumbers_78 (by decide) ?_
                refine lv_goto (tgt := 83) hx hb dX7_takeNumbers_79 (by decide) ?_
                have f174 : w155 57 = .inl (cI, 3, .inl g142) := (kk158 57 (by decide)).trans f148
                have e175 : g142 0 = y42 := by rw [← e143, pk_un (by decide), ← e102, pk_un (by decide), ← e61, pk_us]
                have e176 : g142 1 = y81 := by rw [← e143, pk_un (by decide), ← e102, pk_us]
                have e177 : g142 2 = y122 := by rw [← e143, pk_us]
                have hit173 : it1 bs z.toNatClampNeg b.toNatClampNeg Gh = .inr (y161.toNatClampNeg, layCF Gh (g142 0) (g142 1) (g142 2)) := by
                  unfold it1
                  rw [pick_y (h47.num (by omega) (by omega) (by omega))]
                  rw [h47.e]
                  rw [pick_y (h86.num (by omega) (by omega) (by omega))]
                  rw [h86.e]
                  rw [pick_y (h127.num (by omega) (by omega) (by omega))]
                  rw [h127.e]
                  rw [h168.stop _ (by omega)]
                  rw [h47.iv (by omega), h86.iv (by omega), h127.iv (by omega), e175, e176, e177]
                exact e_n X h hr hlk rfl dX7_takeNumbers_83 ⟨ok157, kx170, ⟨⟨_, _, _, _, h164, by omega, by omega, by omega, Or.inl ⟨⟨g142, f174, by rw [e176]; omega, hit173⟩, rfl⟩⟩, (RG.f57 hR kx170)⟩⟩
            · refine lv_if_ne (tgt := 49) hx hb dX7_takeNumbers_44 (by decide) (fun hc => absurd (by decide) hc) (fun _ => ?_)
              refine lv_iconst (v := 0) hx hb dX7_takeNumbers_47 (by decide) ?_
              have hit178 : it1 bs z.toNatClampNeg b.toNatClampNeg Gh = .inl y119.toNatClampNeg := by
                unfold it1
                rw [pick_y (h47.num (by omega) (by omega) (by omega))]
                rw [h47.e]
                rw [pick_y (h86.num (by omega) (by omega) (by omega))]
                rw [h86.e]
                rw [pick_n (h127.nonum (by omega)), h127.s]
              exact e_n X h hr hlk rfl dX7_takeNumbers_48 ⟨ok116, kx129, ⟨⟨_, _, _, _, h123, by omega, by omega, by omega, Or.inr ⟨hit178, rfl⟩⟩, (RG.f57 hR kx129)⟩⟩
        · refine lv_if_ne (tgt := 49) hx hb dX7_takeNumbers_44 (by decide) (fun hc => absurd (by decide) hc) (fun _ => ?_)
          refine lv_iconst (v := 0) hx hb dX7_takeNumbers_47 (by decide) ?_
          have hit179 : it1 bs z.toNatClampNeg b.toNatClampNeg Gh = .inl y78.toNatClampNeg := by
            unfold it1
            rw [pick_y (h47.num (by omega) (by omega) (by omega))]
            rw [h47.e]
            rw [pick_n (h86.nonum (by omega)), h86.s]
          exact e_n X h hr hlk rfl dX7_takeNumbers_48 ⟨ok75, kx88, ⟨⟨_, _, _, _, h82, by omega, by omega, by omega, Or.inr ⟨hit179, rfl⟩⟩, (RG.f57 hR kx88)⟩⟩
    · refine lv_if_ne (tgt := 49) hx hb dX7_takeNumbers_44 (by decide) (fun hc => absurd (by decide) hc) (fun _ => ?_)
      refine lv_iconst (v := 0) hx hb dX7_takeNumbers_47 (by decide) ?_
      have hit180 : it1 bs z.toNatClampNeg b.toNatClampNeg Gh = .inl y39.toNatClampNeg := by
        unfold it1
        rw [pick_n (h47.nonum (by omega)), h47.s]
      exact e_n X h hr hlk rfl dX7_takeNumbers_48 ⟨ok36, kx49, ⟨⟨_, _, _, _, h43, by omega, by omega, by omega, Or.inr ⟨hit180, rfl⟩⟩, (RG.f57 hR kx49)⟩⟩

set_option maxHeartbeats 4000000 in
set_option maxRecDepth 100000 in
theorem c_F_takeNumbers2 (l : Launch) (G : va_G) (cI cB cZ cO : ClassId) (ad : Nat → Nat) (w : Nat → va_E) (z a b c0 d : Int32) (bs f : Nat → Int32) (Gh : Nat → Int32) (ok : OK cI cB cZ cO ad w)   (pf : w 55 = .inr (5, [.ref (ad 56), .ref (ad 57), .int z, .int a, .int b, .int c0, .int d])) (hz1 : z.toInt ≤ 150) (p56 : w 56 = .inl (cB, 150, .inl bs)) (hb0 : 0 ≤ b.toInt) (hbz : b.toInt ≤ z.toInt) (hd0 : 0 ≤ d.toInt) (hd1 : d.toInt ≤ 99) (p57 : w 57 = .inl (cI, 3, .inl f)) (pn : rgA 0 99 f) (hR : RG cI ad w Gh) : NI l G (tyq cI cB cZ cO) yX7_takeNumbers cX7_takeNumbers 5 (some .boolean) 3 66 74 ad w [.ref (ad 55), .ref (ad 14), .int 2] (fun r w1 => OK cI cB cZ cO ad w1 ∧ F57 w w1 ∧ (∃ a1 b1 c1 d1 : Int32, w1 55 = .inr (5, [.ref (ad 56), .ref (ad 57), .int z, .int a1, .int b1, .int c1, .int d1]) ∧ 0 ≤ a1.toInt ∧ a1.toInt ≤ b1.toInt ∧ b1.toInt ≤ z.toInt ∧ ((∃ f1 : Nat → Int32, w1 57 = .inl (cI, 3, .inl f1) ∧ (True) ∧ it2 bs z.toNatClampNeg b.toNatClampNeg Gh = .inr (b1.toNatClampNeg, layJF Gh (f1 0))) ∧ r = 1 ∨ it2 bs z.toNatClampNeg b.toNatClampNeg Gh = .inl a1.toNatClampNeg ∧ r = 0)) ∧ RG cI ad w1 Gh) := by
  refine nk_i (own := "NoonShade$Text") rfl (by decide) (Nat.le_of_ble_eq_true rfl) ?_
  intro p e s m below meth c ls X hD hN hr hlk h hl
  have hx := X.1.1
  have hb := X.1.2.1
  have hown := X.1.2.2.2.1
  have hts := X.1.2.2.2.2
  have hl : lv_has ls 5 [(0, .ref (ad 55)), (1, .ref (ad 14)), (2, .int 2)] := hl
  obtain ⟨so1, ho2, mi3, ca4, ja5, ck6, hh7, jk8, co9, p10, p11, p12, p13, p14, hG15⟩ := id hR
  have p10 : w 14 = .inr (1, [.int ho2, .int so1, .int mi3, .int ca4, .int ja5, .ref (ad 15), .ref (ad 16), .ref (ad 17), .ref (ad 18), .ref (ad 19), .ref (ad 20), .ref (ad 21), .ref (ad 23), .ref (ad 25)]) := p10
  obtain ⟨hG16, hG17, hG18, hG19, hG20, hG21, hG22, hG23, hG24, hG25, hG26⟩ := id hG15
  have p27 : rgA 0 9 hh7 := sA_pred (show sA cI 7 (rgA 0 9) (w 16) from ok 16 (by decide)) p12
  have p28 : rgA 0 60 co9 := sA_pred (show sA cI 4 (rgA 0 60) (w 19) from ok 19 (by decide)) p14
  have n0_ := congrArg Int32.toInt hG18
  have n1_ := congrArg Int32.toInt hG19
  have n7_ := congrArg Int32.toInt hG17
  refine lv_iload_n hx hb dX7_takeNumbers_0 rfl (lv_at hl 2 rfl) ?_
  refine n_Si (na := 1) (As := [.int 2]) (rest := []) X hD hN h (c_numbersOf2 l G cI cB cZ cO ad w) ⟨kv_414, kv_415, kv_388, kv_416⟩ ⟨by decide, by decide, by decide⟩ ⟨Nat.le_of_ble_eq_true rfl, Nat.le_of_ble_eq_true rfl⟩ ⟨Nat.zero_le _, Nat.zero_le _⟩ rfl hl.1 rfl (Nat.le_of_ble_eq_true rfl) dX7_takeNumbers_1 (fun r29 w30 H locs hp31 h => ?_)
  obtain ⟨rfl, h32⟩ := hp31
  subst h32
  refine lv_istore_n (lv' := [(3, .int 1), (0, .ref (ad 55)), (1, .ref (ad 14)), (2, .int 2)]) hx hb dX7_takeNumbers_4 rfl hl (by decide) rfl (fun ls hl => ?_)
  refine lv_iconst (v := 0) hx hb dX7_takeNumbers_5 (by decide) ?_
  refine lv_istore (lv' := [(4, .int 0), (3, .int 1), (0, .ref (ad 55)), (1, .ref (ad 14)), (2, .int 2)]) hx hb dX7_takeNumbers_6 hl (by decide) rfl (fun ls hl => ?_)
  refine lv_iload hx hb dX7_takeNumbers_8 (lv_at hl 0 rfl) ?_
  refine lv_iload_n hx hb dX7_takeNumbers_10 rfl (lv_at hl 1 rfl) ?_
  refine lv_icmp_ge (tgt := 66) hx hb dX7_takeNumbers_11 (by decide) (fun hc => absurd hc (by decide)) (fun _ => ?_)
  refine lv_iload hx hb dX7_takeNumbers_14 (lv_at hl 0 rfl) ?_
  refine lv_aload_n hx hb dX7_takeNumbers_16 rfl (lv_at hl 2 rfl) ?_
  refine r_get kc7 X h 55 1 (by decide) rfl pf (by decide) kv_413 rfl dX7_takeNumbers_17 ?_
  refine r_alen X h (v := 3) 57 0 (by decide) rfl p57 rfl rfl dX7_takeNumbers_20 ?_
  refine lv_icmp_ge (tgt := 66) hx hb dX7_takeNumbers_21 (by decide) (fun hc => absurd hc (by decide)) (fun _ => ?_)
  refine lv_aload_n hx hb dX7_takeNumbers_24 rfl (lv_at hl 2 rfl) ?_
  refine n_Vv (na := 0) (As := []) (rest := []) X hD hN h rfl (c_F_step l G cI cB cZ cO ad w z a b c0 d bs ok pf (by omega) p56 (by first | omega | decide | (simp only [k00]; omega)) (by first | omega | decide | (simp only [k00]; omega)) (by first | omega | decide | (simp only [k00]; omega)) (by first | omega | decide | (simp only [k00]; omega))) ⟨kv_417, kv_418, kv_419, kv_388, kv_420⟩ rfl ⟨by decide, by decide, by decide⟩ ⟨Nat.le_of_ble_eq_true rfl, Nat.le_of_ble_eq_true rfl⟩ ⟨Nat.zero_le _, Nat.zero_le _⟩ (by decide) pf rfl rfl hl.1 rfl (Nat.le_of_ble_eq_true rfl) dX7_takeNumbers_25 (fun w34 H locs hp35 h => ?_)
  obtain ⟨ok36, kk37, hr38⟩ := hp35
  obtain ⟨y39, y40, y41, y42, h43, h44, h45, h46, h47⟩ := hr38
  have q48 := txd ok36 h43
  have kx49 : F57 w w34 := F57.tr F57.rf kk37.f57
  refine lv_aload_n hx hb dX7_takeNumbers_28 rfl (lv_at hl 2 rfl) ?_
  refine r_get kc7 X h 55 5 (by decide) rfl h43 (by decide) kv_392 rfl dX7_takeNumbers_29 ?_
  refine lv_iconst (v := 2) hx hb dX7_takeNumbers_32 (by decide) ?_
  refine lv_icmp_ne (tgt := 47) hx hb dX7_takeNumbers_33 (by decide) (fun hc50 => ?_) (fun hc50 => ?_)
  · have hc50 : ¬ (y41).toInt = 2 := i_ne hc50 rfl rfl
    refine lv_iconst (v := 0) hx hb dX7_takeNumbers_47 (by decide) ?_
    have hit51 : it2 bs z.toNatClampNeg b.toNatClampNeg Gh = .inl y39.toNatClampNeg := by
      unfold it2
      rw [pick_n (h47.nonum (by omega)), h47.s]
    exact e_n X h hr hlk rfl dX7_takeNumbers_48 ⟨ok36, kx49, ⟨⟨_, _, _, _, h43, by omega, by omega, by omega, Or.inr ⟨hit51, rfl⟩⟩, (RG.f57 hR kx49)⟩⟩
  · have hc50 : (y41).toInt = 2 := i_eq hc50 rfl rfl
    refine lv_aload_n hx hb dX7_takeNumbers_36 rfl (lv_at hl 2 rfl) ?_
    refine lv_aload_n hx hb dX7_takeNumbers_37 rfl (lv_at hl 3 rfl) ?_
    refine lv_iload_n hx hb dX7_takeNumbers_38 rfl (lv_at hl 4 rfl) ?_
    refine lv_iload hx hb dX7_takeNumbers_39 (lv_at hl 0 rfl) ?_
    have f52 : w34 14 = .inr (1, [.int ho2, .int so1, .int mi3, .int ca4, .int ja5, .ref (ad 15), .ref (ad 16), .ref (ad 17), .ref (ad 18), .ref (ad 19), .ref (ad 20), .ref (ad 21), .ref (ad 23), .ref (ad 25)]) := (kk37 14 (by decide)).trans p10
    have f53 : w34 19 = .inl (cI, 4, .inl co9) := (kk37 19 (by decide)).trans p14
    have f54 : w34 57 = .inl (cI, 3, .inl f) := (kk37 57 (by decide)).trans p57
    refine n_Vi (na := 3) (As := [.ref (ad 14), .int 2, .int 0]) (rest := []) X hD hN h rfl (c_F_fits20 l G cI cB cZ cO ad w34 z y39 y40 y41 y42 ho2 so1 mi3 ca4 ja5 co9 f ok36 h43 (by omega) (by omega) (by omega) f52 f53 p28 f54 pn (by omega) (by omega)) ⟨kv_421, kv_422, kv_423, kv_388, kv_424⟩ rfl ⟨by decide, by decide, by decide⟩ ⟨Nat.le_of_ble_eq_true rfl, Nat.le_of_ble_eq_true rfl⟩ ⟨Nat.zero_le _, Nat.zero_le _⟩ (by decide) h43 rfl rfl hl.1 rfl (Nat.le_of_ble_eq_true rfl) dX7_takeNumbers_41 (fun r55 w56 H locs hp57 h => ?_)
    obtain ⟨rfl, hr58⟩ := hp57
    rcases hr58 with ⟨hq59, rfl⟩ | ⟨hq59, rfl⟩
    · refine lv_if_ne (tgt := 49) hx hb dX7_takeNumbers_44 (by decide) (fun _ => ?_) (fun hc => absurd hc (by decide))
      refine lv_aload_n hx hb dX7_takeNumbers_49 rfl (lv_at hl 2 rfl) ?_
      refine r_get kc7 X h 55 1 (by decide) rfl h43 (by decide) kv_413 rfl dX7_takeNumbers_50 ?_
      refine lv_iload hx hb dX7_takeNumbers_53 (lv_at hl 0 rfl) ?_
      refine lv_aload_n hx hb dX7_takeNumbers_55 rfl (lv_at hl 2 rfl) ?_
      refine r_get kc7 X h 55 6 (by decide) rfl h43 (by decide) kv_390 rfl dX7_takeNumbers_56 ?_
      obtain ⟨g60, e61⟩ : ∃ z : Nat → Int32, upd f 0 y42 = z := ⟨_, rfl⟩
      have p63 : rgA 0 99 g60 := rgA_upd pn e61 (by omega) (by omega)
      refine o_iast (f1 := g60) X hD h 57 0 (by decide) rfl f54 rfl (by unfold vp_in; decide) e61 dX7_takeNumbers_59 (fun H locs w64 e65 h => ?_)
      have f66 : w64 57 = .inl (cI, 3, .inl g60) := (congrFun e65 _).trans (va_up_self _ _ _)
      have ok67 : OK cI cB cZ cO ad w64 := OK.up ok36 e65 (sA_mk p63)
      have kx68 : F57 w w64 := F57.up kx49 e65 (by decide)
      refine lv_iinc (v := 1) (lv' := [(4, .int 1), (3, .int 1), (0, .ref (ad 55)), (1, .ref (ad 14)), (2, .int 2)]) hx hb dX7_takeNumbers_60 hl (k := 0) rfl rfl (by decide) rfl (fun ls hl => ?_)
      refine lv_goto (tgt := 8) hx hb dX7_takeNumbers_63 (by decide) ?_
      refine lv_iload hx hb dX7_takeNumbers_8 (lv_at hl 0 rfl) ?_
      refine lv_iload_n hx hb dX7_takeNumbers_10 rfl (lv_at hl 1 rfl) ?_
      refine lv_icmp_ge (tgt := 66) hx hb dX7_takeNumbers_11 (by decide) (fun _ => ?_) (fun hc => absurd (by decide) hc)
      refine lv_aload_n hx hb dX7_takeNumbers_66 rfl (lv_at hl 2 rfl) ?_
      have f69 : w64 55 = .inr (5, [.ref (ad 56), .ref (ad 57), .int z, .int y39, .int y40, .int y41, .int y42]) := by rw [e65, va_up_ne _ _ (by decide)]; exact h43
      have f70 : w34 56 = .inl (cB, 150, .inl bs) := (kk37 56 (by decide)).trans p56
      have f71 : w64 56 = .inl (cB, 150, .inl bs) := by rw [e65, va_up_ne _ _ (by decide)]; exact f70
      refine n_Vv (na := 0) (As := []) (rest := []) X hD hN h rfl (c_F_step l G cI cB cZ cO ad w64 z y39 y40 y41 y42 bs ok67 f69 (by omega) f71 (by first | omega | decide | (simp only [k00]; omega)) (by first | omega | decide | (simp only [k00]; omega)) (by first | omega | decide | (simp only [k00]; omega)) (by first | omega | decide | (simp only [k00]; omega))) ⟨kv_417, kv_418, kv_419, kv_388, kv_420⟩ rfl ⟨by decide, by decide, by decide⟩ ⟨Nat.le_of_ble_eq_true rfl, Nat.le_of_ble_eq_true rfl⟩ ⟨Nat.zero_le _, Nat.zero_le _⟩ (by decide) f69 rfl rfl hl.1 rfl (Nat.le_of_ble_eq_true rfl) dX7_takeNumbers_67 (fun w73 H locs hp74 h => ?_)
      obtain ⟨ok75, kk76, hr77⟩ := hp74
      obtain ⟨y78, y79, y80, y81, h82, h83, h84, h85, h86⟩ := hr77
      have q87 := txd ok75 h82
      have kx88 : F57 w w73 := F57.tr kx68 kk76.f57
      refine lv_aload_n hx hb dX7_takeNumbers_70 rfl (lv_at hl 2 rfl) ?_
      refine r_get kc7 X h 55 5 (by decide) rfl h82 (by decide) kv_392 rfl dX7_takeNumbers_71 ?_
      refine lv_iconst (v := 3) hx hb dX7_takeNumbers_74 (by decide) ?_
      refine lv_icmp_ne (tgt := 82) hx hb dX7_takeNumbers_75 (by decide) (fun hc89 => ?_) (fun hc89 => ?_)
      · have hc89 : ¬ (y80).toInt = 3 := i_ne hc89 rfl rfl
        refine lv_iconst (v := 0) hx hb dX7_takeNumbers_82 (by decide) ?_
        have hit90 : it2 bs z.toNatClampNeg b.toNatClampNeg Gh = .inl y78.toNatClampNeg := by
          unfold it2
          rw [pick_y (h47.num (by omega) (by omega) (by omega))]
          rw [h47.e]
          rw [h86.nostop _ (by omega)]
        exact e_n X h hr hlk rfl dX7_takeNumbers_83 ⟨ok75, kx88, ⟨⟨_, _, _, _, h82, by omega, by omega, by omega, Or.inr ⟨hit90, rfl⟩⟩, (RG.f57 hR kx88)⟩⟩
      · have hc89 : (y80).toInt = 3 := i_eq hc89 rfl rfl
        refine lv_iconst (v := 1) hx hb dX7_takeNumbers_78 (by decide) ?_
        refine lv_goto (tgt := 83) hx hb dX7_takeNumbers_79 (by decide) ?_
        have f92 : w73 57 = .inl (cI, 3, .inl g60) := (kk76 57 (by decide)).trans f66
        have e93 : g60 0 = y42 := by rw [← e61, pk_us]
        have hit91 : it2 bs z.toNatClampNeg b.toNatClampNeg Gh = .inr (y79.toNatClampNeg, layJF Gh (g60 0)) := by
          unfold it2
          rw [pick_y (h47.num (by omega) (by omega) (by omega))]
          rw [h47.e]
          rw [h86.stop _ (by omega)]
          rw [h47.iv (by omega), e93]
        exact e_n X h hr hlk rfl dX7_takeNumbers_83 ⟨ok75, kx88, ⟨⟨_, _, _, _, h82, by omega, by omega, by omega, Or.inl ⟨⟨g60, f92, trivial, hit91⟩, rfl⟩⟩, (RG.f57 hR kx88)⟩⟩
    · refine lv_if_ne (tgt := 49) hx hb dX7_takeNumbers_44 (by decide) (fun hc => absurd (by decide) hc) (fun _ => ?_)
      refine lv_iconst (v := 0) hx hb dX7_takeNumbers_47 (by decide) ?_
      have hit94 : it2 bs z.toNatClampNeg b.toNatClampNeg Gh = .inl y39.toNatClampNeg := by
        unfold it2
        rw [pick_n (h47.nonum (by omega)), h47.s]
      exact e_n X h hr hlk rfl dX7_takeNumbers_48 ⟨ok36, kx49, ⟨⟨_, _, _, _, h43, by omega, by omega, by omega, Or.inr ⟨hit94, rfl⟩⟩, (RG.f57 hR kx49)⟩⟩

set_option maxHeartbeats 4000000 in
set_option maxRecDepth 100000 in
theorem c_F_takeNumbers3 (l : Launch) (G : va_G) (cI cB cZ cO : ClassId) (ad : Nat → Nat) (w : Nat → va_E) (z a b c0 d : Int32) (bs f : Nat → Int32) (Gh : Nat → Int32) (ok : OK cI cB cZ cO ad w)   (pf : w 55 = .inr (5, [.ref (ad 56), .ref (ad 57), .int z, .int a, .int b, .int c0, .int d])) (hz1 : z.toInt ≤ 150) (p56 : w 56 = .inl (cB, 150, .inl bs)) (hb0 : 0 ≤ b.toInt) (hbz : b.toInt ≤ z.toInt) (hd0 : 0 ≤ d.toInt) (hd1 : d.toInt ≤ 99) (p57 : w 57 = .inl (cI, 3, .inl f)) (pn : rgA 0 99 f) (hR : RG cI ad w Gh) : NI l G (tyq cI cB cZ cO) yX7_takeNumbers cX7_takeNumbers 5 (some .boolean) 3 66 74 ad w [.ref (ad 55), .ref (ad 14), .int 3] (fun r w1 => OK cI cB cZ cO ad w1 ∧ F57 w w1 ∧ (∃ a1 b1 c1 d1 : Int32, w1 55 = .inr (5, [.ref (ad 56), .ref (ad 57), .int z, .int a1, .int b1, .int c1, .int d1]) ∧ 0 ≤ a1.toInt ∧ a1.toInt ≤ b1.toInt ∧ b1.toInt ≤ z.toInt ∧ ((∃ f1 : Nat → Int32, w1 57 = .inl (cI, 3, .inl f1) ∧ ((f1 0).toInt < (Gh 0).toInt ∧ (f1 1).toInt < (Gh 1).toInt ∧ (f1 0).toInt ≤ 6 ∧ (f1 1).toInt ≤ 3) ∧ it3 bs z.toNatClampNeg b.toNatClampNeg Gh = .inr (b1.toNatClampNeg, goLaF Gh (f1 0) (f1 1).toNatClampNeg)) ∧ r = 1 ∨ it3 bs z.toNatClampNeg b.toNatClampNeg Gh = .inl a1.toNatClampNeg ∧ r = 0)) ∧ RG cI ad w1 Gh) := by
  refine nk_i (own := "NoonShade$Text") rfl (by decide) (Nat.le_of_ble_eq_true rfl) ?_
  intro p e s m below meth c ls X hD hN hr hlk h hl
  have hx := X.1.1
  have hb := X.1.2.1
  have hown := X.1.2.2.2.1
  have hts := X.1.2.2.2.2
  have hl : lv_has ls 5 [(0, .ref (ad 55)), (1, .ref (ad 14)), (2, .int 3)] := hl
  obtain ⟨so1, ho2, mi3, ca4, ja5, ck6, hh7, jk8, co9, p10, p11, p12, p13, p14, hG15⟩ := id hR
  have p10 : w 14 = .inr (1, [.int ho2, .int so1, .int mi3, .int ca4, .int ja5, .ref (ad 15), .ref (ad 16), .ref (ad 17), .ref (ad 18), .ref (ad 19), .ref (ad 20), .ref (ad 21), .ref (ad 23), .ref (ad 25)]) := p10
  obtain ⟨hG16, hG17, hG18, hG19, hG20, hG21, hG22, hG23, hG24, hG25, hG26⟩ := id hG15
  have p27 : rgA 0 9 hh7 := sA_pred (show sA cI 7 (rgA 0 9) (w 16) from ok 16 (by decide)) p12
  have p28 : rgA 0 60 co9 := sA_pred (show sA cI 4 (rgA 0 60) (w 19) from ok 19 (by decide)) p14
  have n0_ := congrArg Int32.toInt hG18
  have n1_ := congrArg Int32.toInt hG19
  have n7_ := congrArg Int32.toInt hG17
  refine lv_iload_n hx hb dX7_takeNumbers_0 rfl (lv_at hl 2 rfl) ?_
  refine n_Si (na := 1) (As := [.int 3]) (rest := []) X hD hN h (c_numbersOf3 l G cI cB cZ cO ad w) ⟨kv_414, kv_415, kv_388, kv_416⟩ ⟨by decide, by decide, by decide⟩ ⟨Nat.le_of_ble_eq_true rfl, Nat.le_of_ble_eq_true rfl⟩ ⟨Nat.zero_le _, Nat.zero_le _⟩ rfl hl.1 rfl (Nat.le_of_ble_eq_true rfl) dX7_takeNumbers_1 (fun r29 w30 H locs hp31 h => ?_)
  obtain ⟨rfl, h32⟩ := hp31
  subst h32
  refine lv_istore_n (lv' := [(3, .int 2), (0, .ref (ad 55)), (1, .ref (ad 14)), (2, .int 3)]) hx hb dX7_takeNumbers_4 rfl hl (by decide) rfl (fun ls hl => ?_)
  refine lv_iconst (v := 0) hx hb dX7_takeNumbers_5 (by decide) ?_
  refine lv_istore (lv' := [(4, .int 0), (3, .int 2), (0, .ref (ad 55)), (1, .ref (ad 14)), (2, .int 3)]) hx hb dX7_takeNumbers_6 hl (by decide) rfl (fun ls hl => ?_)
  refine lv_iload hx hb dX7_takeNumbers_8 (lv_at hl 0 rfl) ?_
  refine lv_iload_n hx hb dX7_takeNumbers_10 rfl (lv_at hl 1 rfl) ?_
  refine lv_icmp_ge (tgt := 66) hx hb dX7_takeNumbers_11 (by decide) (fun hc => absurd hc (by decide)) (fun _ => ?_)
  refine lv_iload hx hb dX7_takeNumbers_14 (lv_at hl 0 rfl) ?_
  refine lv_aload_n hx hb dX7_takeNumbers_16 rfl (lv_at hl 2 rfl) ?_
  refine r_get kc7 X h 55 1 (by decide) rfl pf (by decide) kv_413 rfl dX7_takeNumbers_17 ?_
  refine r_alen X h (v := 3) 57 0 (by decide) rfl p57 rfl rfl dX7_takeNumbers_20 ?_
  refine lv_icmp_ge (tgt := 66) hx hb dX7_takeNumbers_21 (by decide) (fun hc => absurd hc (by decide)) (fun _ => ?_)
  refine lv_aload_n hx hb dX7_takeNumbers_24 rfl (lv_at hl 2 rfl) ?_
  refine n_Vv (na := 0) (As := []) (rest := []) X hD hN h rfl (c_F_step l G cI cB cZ cO ad w z a b c0 d bs ok pf (by omega) p56 (by first | omega | decide | (simp only [k00]; omega)) (by first | omega | decide | (simp only [k00]; omega)) (by first | omega | decide | (simp only [k00]; omega)) (by first | omega | decide | (simp only [k00]; omega))) ⟨kv_417, kv_418, kv_419, kv_388, kv_420⟩ rfl ⟨by decide, by decide, by decide⟩ ⟨Nat.le_of_ble_eq_true rfl, Nat.le_of_ble_eq_true rfl⟩ ⟨Nat.zero_le _, Nat.zero_le _⟩ (by decide) pf rfl rfl hl.1 rfl (Nat.le_of_ble_eq_true rfl) dX7_takeNumbers_25 (fun w34 H locs hp35 h => ?_)
  obtain ⟨ok36, kk37, hr38⟩ := hp35
  obtain ⟨y39, y40, y41, y42, h43, h44, h45, h46, h47⟩ := hr38
  have q48 := txd ok36 h43
  have kx49 : F57 w w34 := F57.tr F57.rf kk37.f57
  refine lv_aload_n hx hb dX7_takeNumbers_28 rfl (lv_at hl 2 rfl) ?_
  refine r_get kc7 X h 55 5 (by decide) rfl h43 (by decide) kv_392 rfl dX7_takeNumbers_29 ?_
  refine lv_iconst (v := 2) hx hb dX7_takeNumbers_32 (by decide) ?_
  refine lv_icmp_ne (tgt := 47) hx hb dX7_takeNumbers_33 (by decide) (fun hc50 => ?_) (fun hc50 => ?_)
  · have hc50 : ¬ (y41).toInt = 2 := i_ne hc50 rfl rfl
    refine lv_iconst (v := 0) hx hb dX7_takeNumbers_47 (by decide) ?_
    have hit51 : it3 bs z.toNatClampNeg b.toNatClampNeg Gh = .inl y39.toNatClampNeg := by
      unfold it3
      rw [pick_n (fun q9 => by first | exact h47.nonum (by omega) q9.1 | (have q1 := h47.un q9.1; have q2 := q9.2; rw [h47.iv q1.1, hG17] at q2; omega)), h47.s]
    exact e_n X h hr hlk rfl dX7_takeNumbers_48 ⟨ok36, kx49, ⟨⟨_, _, _, _, h43, by omega, by omega, by omega, Or.inr ⟨hit51, rfl⟩⟩, (RG.f57 hR kx49)⟩⟩
  · have hc50 : (y41).toInt = 2 := i_eq hc50 rfl rfl
    refine lv_aload_n hx hb dX7_takeNumbers_36 rfl (lv_at hl 2 rfl) ?_
    refine lv_aload_n hx hb dX7_takeNumbers_37 rfl (lv_at hl 3 rfl) ?_
    refine lv_iload_n hx hb dX7_takeNumbers_38 rfl (lv_at hl 4 rfl) ?_
    refine lv_iload hx hb dX7_takeNumbers_39 (lv_at hl 0 rfl) ?_
    have f52 : w34 14 = .inr (1, [.int ho2, .int so1, .int mi3, .int ca4, .int ja5, .ref (ad 15), .ref (ad 16), .ref (ad 17), .ref (ad 18), .ref (ad 19), .ref (ad 20), .ref (ad 21), .ref (ad 23), .ref (ad 25)]) := (kk37 14 (by decide)).trans p10
    have f53 : w34 19 = .inl (cI, 4, .inl co9) := (kk37 19 (by decide)).trans p14
    have f54 : w34 57 = .inl (cI, 3, .inl f) := (kk37 57 (by decide)).trans p57
    refine n_Vi (na := 3) (As := [.ref (ad 14), .int 3, .int 0]) (rest := []) X hD hN h rfl (c_F_fits30 l G cI cB cZ cO ad w34 z y39 y40 y41 y42 ho2 so1 mi3 ca4 ja5 co9 f ok36 h43 (by omega) (by omega) (by omega) f52 f53 p28 f54 pn (by omega) (by omega)) ⟨kv_421, kv_422, kv_423, kv_388, kv_424⟩ rfl ⟨by decide, by decide, by decide⟩ ⟨Nat.le_of_ble_eq_true rfl, Nat.le_of_ble_eq_true rfl⟩ ⟨Nat.zero_le _, Nat.zero_le _⟩ (by decide) h43 rfl rfl hl.1 rfl (Nat.le_of_ble_eq_true rfl) dX7_takeNumbers_41 (fun r55 w56 H locs hp57 h => ?_)
    obtain ⟨rfl, hr58⟩ := hp57
    rcases hr58 with ⟨hq59, rfl⟩ | ⟨hq59, rfl⟩
    · refine lv_if_ne (tgt := 49) hx hb dX7_takeNumbers_44 (by decide) (fun _ => ?_) (fun hc => absurd hc (by decide))
      refine lv_aload_n hx hb dX7_takeNumbers_49 rfl (lv_at hl 2 rfl) ?_
      refine r_get kc7 X h 55 1 (by decide) rfl h43 (by decide) kv_413 rfl dX7_takeNumbers_50 ?_
      refine lv_iload hx hb dX7_takeNumbers_53 (lv_at hl 0 rfl) ?_
      refine lv_aload_n hx hb dX7_takeNumbers_55 rfl (lv_at hl 2 rfl) ?_
      refine r_get kc7 X h 55 6 (by decide) rfl h43 (by decide) kv_390 rfl dX7_takeNumbers_56 ?_
      obtain ⟨g60, e61⟩ : ∃ z : Nat → Int32, upd f 0 y42 = z := ⟨_, rfl⟩
      have p63 : rgA 0 99 g60 := rgA_upd pn e61 (by omega) (by omega)
      refine o_iast (f1 := g60) X hD h 57 0 (by decide) rfl f54 rfl (by unfold vp_in; decide) e61 dX7_takeNumbers_59 (fun H locs w64 e65 h => ?_)
      have f66 : w64 57 = .inl (cI, 3, .inl g60) := (congrFun e65 _).trans (va_up_self _ _ _)
      have ok67 : OK cI cB cZ cO ad w64 := OK.up ok36 e65 (sA_mk p63)
      have kx68 : F57 w w64 := F57.up kx49 e65 (by decide)
      refine lv_iinc (v := 1) (lv' := [(4, .int 1), (3, .int 2), (0, .ref (ad 55)), (1, .ref (ad 14)), (2, .int 3)]) hx hb dX7_takeNumbers_60 hl (k := 0) rfl rfl (by decide) rfl (fun ls hl => ?_)
      refine lv_goto (tgt := 8) hx hb dX7_takeNumbers_63 (by decide) ?_
      refine lv_iload hx hb dX7_takeNumbers_8 (lv_at hl 0 rfl) ?_
      refine lv_iload_n hx hb dX7_takeNumbers_10 rfl (lv_at hl 1 rfl) ?_
      refine lv_icmp_ge (tgt := 66) hx hb dX7_takeNumbers_11 (by decide) (fun hc => absurd hc (by decide)) (fun _ => ?_)
      refine lv_iload hx hb dX7_takeNumbers_14 (lv_at hl 0 rfl) ?_
      refine lv_aload_n hx hb dX7_takeNumbers_16 rfl (lv_at hl 2 rfl) ?_
      have f69 : w64 55 = .inr (5, [.ref (ad 56), .ref (ad 57), .int z, .int y39, .int y40, .int y41, .int y42]) := by rw [e65, va_up_ne _ _ (by decide)]; exact h43
      refine r_get kc7 X h 55 1 (by decide) rfl f69 (by decide) kv_413 rfl dX7_takeNumbers_17 ?_
      refine r_alen X h (v := 3) 57 0 (by decide) rfl f66 rfl rfl dX7_takeNumbers_20 ?_
      refine lv_icmp_ge (tgt := 66) hx hb dX7_takeNumbers_21 (by decide) (fun hc => absurd hc (by decide)) (fun _ => ?_)
      refine lv_aload_n hx hb dX7_takeNumbers_24 rfl (lv_at hl 2 rfl) ?_
      have f70 : w34 56 = .inl (cB, 150, .inl bs) := (kk37 56 (by decide)).trans p56
      have f71 : w64 56 = .inl (cB, 150, .inl bs) := by rw [e65, va_up_ne _ _ (by decide)]; exact f70
      refine n_Vv (na := 0) (As := []) (rest := []) X hD hN h rfl (c_F_step l G cI cB cZ cO ad w64 z y39 y40 y41 y42 bs ok67 f69 (by omega) f71 (by first | omega | decide | (simp only [k00]; omega)) (by first | omega | decide | (simp only [k00]; omega)) (by first | omega | decide | (simp only [k00]; omega)) (by first | omega | decide | (simp only [k00]; omega))) ⟨kv_417, kv_418, kv_419, kv_388, kv_420⟩ rfl ⟨by decide, by decide, by decide⟩ ⟨Nat.le_of_ble_eq_true rfl, Nat.le_of_ble_eq_true rfl⟩ ⟨Nat.zero_le _, Nat.zero_le _⟩ (by decide) f69 rfl rfl hl.1 rfl (Nat.le_of_ble_eq_true rfl) dX7_takeNumbers_25 (fun w73 H locs hp74 h => ?_)
      obtain ⟨ok75, kk76, hr77⟩ := hp74
      obtain ⟨y78, y79, y80, y81, h82, h83, h84, h85, h86⟩ := hr77
      have q87 := txd ok75 h82
      have kx88 : F57 w w73 := F57.tr kx68 kk76.f57
      refine lv_aload_n hx hb dX7_takeNumbers_28 rfl (lv_at hl 2 rfl) ?_
      refine r_get kc7 X h 55 5 (by decide) rfl h82 (by decide) kv_392 rfl dX7_takeNumbers_29 ?_
      refine lv_iconst (v := 2) hx hb dX7_takeNumbers_32 (by decide) ?_
      refine lv_icmp_ne (tgt := 47) hx hb dX7_takeNumbers_33 (by decide) (fun hc89 => ?_) (fun hc89 => ?_)
      · have hc89 : ¬ (y80).toInt = 2 := i_ne hc89 rfl rfl
        refine lv_iconst (v := 0) hx hb dX7_takeNumbers_47 (by decide) ?_
        have hit90 : it3 bs z.toNatClampNeg b.toNatClampNeg Gh = .inl y78.toNatClampNeg := by
          unfold it3
          rw [pick_y ⟨h47.num (by omega) (by omega) (by omega), by rw [h47.iv (by omega), hG17]; omega⟩]
          rw [h47.e]
          rw [pick_n (h86.nonum (by omega)), h86.s]
        exact e_n X h hr hlk rfl dX7_takeNumbers_48 ⟨ok75, kx88, ⟨⟨_, _, _, _, h82, by omega, by omega, by omega, Or.inr ⟨hit90, rfl⟩⟩, (RG.f57 hR kx88)⟩⟩
      · have hc89 : (y80).toInt = 2 := i_eq hc89 rfl rfl
        refine lv_aload_n hx hb dX7_takeNumbers_36 rfl (lv_at hl 2 rfl) ?_
        refine lv_aload_n hx hb dX7_takeNumbers_37 rfl (lv_at hl 3 rfl) ?_
        refine lv_iload_n hx hb dX7_takeNumbers_38 rfl (lv_at hl 4 rfl) ?_
        refine lv_iload hx hb dX7_takeNumbers_39 (lv_at hl 0 rfl) ?_
        have f91 : w64 14 = .inr (1, [.int ho2, .int so1, .int mi3, .int ca4, .int ja5, .ref (ad 15), .ref (ad 16), .ref (ad 17), .ref (ad 18), .ref (ad 19), .ref (ad 20), .ref (ad 21), .ref (ad 23), .ref (ad 25)]) := by rw [e65, va_up_ne _ _ (by decide)]; exact f52
        have f92 : w73 14 = .inr (1, [.int ho2, .int so1, .int mi3, .int ca4, .int ja5, .ref (ad 15), .ref (ad 16), .ref (ad 17), .ref (ad 18), .ref (ad 19), .ref (ad 20), .ref (ad 21), .ref (ad 23), .ref (ad 25)]) := (kk76 14 (by decide)).trans f91
        have f93 : w64 19 = .inl (cI, 4, .inl co9) := by rw [e65, va_up_ne _ _ (by decide)]; exact f53
        have f94 : w73 19 = .inl (cI, 4, .inl co9) := (kk76 19 (by decide)).trans f93
        have f95 : w73 57 = .inl (cI, 3, .inl g60) := (kk76 57 (by decide)).trans f66
        refine n_Vi (na := 3) (As := [.ref (ad 14), .int 3, .int 1]) (rest := []) X hD hN h rfl (c_F_fits31 l G cI cB cZ cO ad w73 z y78 y79 y80 y81 ho2 so1 mi3 ca4 ja5 co9 g60 ok75 h82 (by omega) (by omega) (by omega) f92 f94 p28 f95 p63 (by omega) (by omega)) ⟨kv_421, kv_422, kv_423, kv_388, kv_424⟩ rfl ⟨by decide, by decide, by decide⟩ ⟨Nat.le_of_ble_eq_true rfl, Nat.le_of_ble_eq_true rfl⟩ ⟨Nat.zero_le _, Nat.zero_le _⟩ (by decide) h82 rfl rfl hl.1 rfl (Nat.le_of_ble_eq_true rfl) dX7_takeNumbers_41 (fun r96 w97 H locs hp98 h => ?_)
        obtain ⟨rfl, hr99⟩ := hp98
        rcases hr99 with ⟨hq100, rfl⟩ | ⟨hq100, rfl⟩
        · refine lv_if_ne (tgt := 49) hx hb dX7_takeNumbers_44 (by decide) (fun _ => ?_) (fun hc => absurd hc (by decide))
          refine lv_aload_n hx hb dX7_takeNumbers_49 rfl (lv_at hl 2 rfl) ?_
          refine r_get kc7 X h 55 1 (by decide) rfl h82 (by decide) kv_413 rfl dX7_takeNumbers_50 ?_
          refine lv_iload hx hb dX7_takeNumbers_53 (lv_at hl 0 rfl) ?_
          refine lv_aload_n hx hb dX7_takeNumbers_55 rfl (lv_at hl 2 rfl) ?_
          refine r_get kc7 X h 55 6 (by decide) rfl h82 (by decide) kv_390 rfl dX7_takeNumbers_56 ?_
          obtain ⟨g101, e102⟩ : ∃ z : Nat → Int32, upd g60 1 y81 = z := ⟨_, rfl⟩
          have p104 : rgA 0 99 g101 := rgA_upd p63 e102 (by omega) (by omega)
          refine o_iast (f1 := g101) X hD h 57 0 (by decide) rfl f95 rfl (by unfold vp_in; decide) e102 dX7_takeNumbers_59 (fun H locs w105 e106 h => ?_)
          have f107 : w105 57 = .inl (cI, 3, .inl g101) := (congrFun e106 _).trans (va_up_self _ _ _)
          have ok108 : OK cI cB cZ cO ad w105 := OK.up ok75 e106 (sA_mk p104)
          have kx109 : F57 w w105 := F57.up kx88 e106 (by decide)
          refine lv_iinc (v := 2) (lv' := [(4, .int 2), (3, .int 2), (0, .ref (ad 55)), (1, .ref (ad 14)), (2, .int 3)]) hx hb dX7_takeNumbers_60 hl (k := 0) rfl rfl (by decide) rfl (fun ls hl => ?_)
          refine lv_goto (tgt := 8) hx hb dX7_takeNumbers_63 (by decide) ?_
          refine lv_iload hx hb dX7_takeNumbers_8 (lv_at hl 0 rfl) ?_
          refine lv_iload_n hx hb dX7_takeNumbers_10 rfl (lv_at hl 1 rfl) ?_
          refine lv_icmp_ge (tgt := 66) hx hb dX7_takeNumbers_11 (by decide) (fun _ => ?_) (fun hc => absurd (by decide) hc)
          refine lv_aload_n hx hb dX7_takeNumbers_66 rfl (lv_at hl 2 rfl) ?_
          have f110 : w105 55 = .inr (5, [.ref (ad 56), .ref (ad 57), .int z, .int y78, .int y79, .int y80, .int y81]) := by rw [e106, va_up_ne _ _ (by decide)]; exact h82
          have f111 : w73 56 = .inl (cB, 150, .inl bs) := (kk76 56 (by decide)).trans f71
          have f112 : w105 56 = .inl (cB, 150, .inl bs) := by rw [e106, va_up_ne _ _ (by decide)]; exact f111
          refine n_Vv (na := 0) (As := []) (rest := []) X hD hN h rfl (c_F_step l G cI cB cZ cO ad w105 z y78 y79 y80 y81 bs ok108 f110 (by omega) f112 (by first | omega | decide | (simp only [k00]; omega)) (by first | omega | decide | (simp only [k00]; omega)) (by first | omega | decide | (simp only [k00]; omega)) (by first | omega | decide | (simp only [k00]; omega))) ⟨kv_417, kv_418, kv_419, kv_388, kv_420⟩ rfl ⟨by decide, by decide, by decide⟩ ⟨Nat.le_of_ble_eq_true rfl, Nat.le_of_ble_eq_true rfl⟩ ⟨Nat.zero_le _, Nat.zero_le _⟩ (by decide) f110 rfl rfl hl.1 rfl (Nat.le_of_ble_eq_true rfl) dX7_takeNumbers_67 (fun w114 H locs hp115 h => ?_)
          obtain ⟨ok116, kk117, hr118⟩ := hp115
          obtain ⟨y119, y120, y121, y122, h123, h124, h125, h126, h127⟩ := hr118
          have q128 := txd ok116 h123
          have kx129 : F57 w w114 := F57.tr kx109 kk117.f57
          refine lv_aload_n hx hb dX7_takeNumbers_70 rfl (lv_at hl 2 rfl) ?_
          refine r_get kc7 X h 55 5 (by decide) rfl h123 (by decide) kv_392 rfl dX7_takeNumbers_71 ?_
          refine lv_iconst (v := 3) hx hb dX7_takeNumbers_74 (by decide) ?_
          refine lv_icmp_ne (tgt := 82) hx hb dX7_takeNumbers_75 (by decide) (fun hc130 => ?_) (fun hc130 => ?_)
          · have hc130 : ¬ (y121).toInt = 3 := i_ne hc130 rfl rfl
            refine lv_iconst (v := 0) hx hb dX7_takeNumbers_82 (by decide) ?_
            have hit131 : it3 bs z.toNatClampNeg b.toNatClampNeg Gh = .inl y119.toNatClampNeg := by
              unfold it3
              rw [pick_y ⟨h47.num (by omega) (by omega) (by omega), by rw [h47.iv (by omega), hG17]; omega⟩]
              rw [h47.e]
              rw [pick_y (h86.num (by omega) (by omega) (by omega))]
              rw [h86.e]
              rw [h127.nostop _ (by omega)]
            exact e_n X h hr hlk rfl dX7_takeNumbers_83 ⟨ok116, kx129, ⟨⟨_, _, _, _, h123, by omega, by omega, by omega, Or.inr ⟨hit131, rfl⟩⟩, (RG.f57 hR kx129)⟩⟩
          · have hc130 : (y121).toInt = 3 := i_eq hc130 rfl rfl
            refine lv_iconst (v := 1) hx hb dX7_takeNumbers_78 (by decide) ?_
            refine lv_goto (tgt := 83) hx hb dX7_takeNumbers_79 (by decide) ?_
            have f133 : w114 57 = .inl (cI, 3, .inl g101) := (kk117 57 (by decide)).trans f107
            have e134 : g101 0 = y42 := by rw [← e102, pk_un (by decide), ← e61, pk_us]
            have e135 : g101 1 = y81 := by rw [← e102, pk_us]
            have hit132 : it3 bs z.toNatClampNeg b.toNatClampNeg Gh = .inr (y120.toNatClampNeg, goLaF Gh (g101 0) (g101 1).toNatClampNeg) := by
              unfold it3
              rw [pick_y ⟨h47.num (by omega) (by omega) (by omega), by rw [h47.iv (by omega), hG17]; omega⟩]
              rw [h47.e]
              rw [pick_y (h86.num (by omega) (by omega) (by omega))]
              rw [h86.e]
              rw [h127.stop _ (by omega)]
              rw [h47.iv (by omega), h86.iv (by omega), e134, e135]
            exact e_n X h hr hlk rfl dX7_takeNumbers_83 ⟨ok116, kx129, ⟨⟨_, _, _, _, h123, by omega, by omega, by omega, Or.inl ⟨⟨g101, f133, ⟨by rw [e134]; omega, by rw [e135]; omega, by rw [e134]; omega, by rw [e135]; omega⟩, hit132⟩, rfl⟩⟩, (RG.f57 hR kx129)⟩⟩
        · refine lv_if_ne (tgt := 49) hx hb dX7_takeNumbers_44 (by decide) (fun hc => absurd (by decide) hc) (fun _ => ?_)
          refine lv_iconst (v := 0) hx hb dX7_takeNumbers_47 (by decide) ?_
          have hit136 : it3 bs z.toNatClampNeg b.toNatClampNeg Gh = .inl y78.toNatClampNeg := by
            unfold it3
            rw [pick_y ⟨h47.num (by omega) (by omega) (by omega), by rw [h47.iv (by omega), hG17]; omega⟩]
            rw [h47.e]
            rw [pick_n (h86.nonum (by omega)), h86.s]
          exact e_n X h hr hlk rfl dX7_takeNumbers_48 ⟨ok75, kx88, ⟨⟨_, _, _, _, h82, by omega, by omega, by omega, Or.inr ⟨hit136, rfl⟩⟩, (RG.f57 hR kx88)⟩⟩
    · refine lv_if_ne (tgt := 49) hx hb dX7_takeNumbers_44 (by decide) (fun hc => absurd (by decide) hc) (fun _ => ?_)
      refine lv_iconst (v := 0) hx hb dX7_takeNumbers_47 (by decide) ?_
      have hit137 : it3 bs z.toNatClampNeg b.toNatClampNeg Gh = .inl y39.toNatClampNeg := by
        unfold it3
        rw [pick_n (fun q9 => by first | exact h47.nonum (by omega) q9.1 | (have q1 := h47.un q9.1; have q2 := q9.2; rw [h47.iv q1.1, hG17] at q2; omega)), h47.s]
      exact e_n X h hr hlk rfl dX7_takeNumbers_48 ⟨ok36, kx49, ⟨⟨_, _, _, _, h43, by omega, by omega, by omega, Or.inr ⟨hit137, rfl⟩⟩, (RG.f57 hR kx49)⟩⟩

set_option maxHeartbeats 4000000 in
set_option maxRecDepth 100000 in
theorem c_F_takeNumbers4 (l : Launch) (G : va_G) (cI cB cZ cO : ClassId) (ad : Nat → Nat) (w : Nat → va_E) (z a b c0 d : Int32) (bs f : Nat → Int32) (Gh : Nat → Int32) (ok : OK cI cB cZ cO ad w)   (pf : w 55 = .inr (5, [.ref (ad 56), .ref (ad 57), .int z, .int a, .int b, .int c0, .int d])) (hz1 : z.toInt ≤ 150) (p56 : w 56 = .inl (cB, 150, .inl bs)) (hb0 : 0 ≤ b.toInt) (hbz : b.toInt ≤ z.toInt) (hd0 : 0 ≤ d.toInt) (hd1 : d.toInt ≤ 99) (p57 : w 57 = .inl (cI, 3, .inl f)) (pn : rgA 0 99 f) (hR : RG cI ad w Gh) : NI l G (tyq cI cB cZ cO) yX7_takeNumbers cX7_takeNumbers 5 (some .boolean) 3 66 74 ad w [.ref (ad 55), .ref (ad 14), .int 4] (fun r w1 => OK cI cB cZ cO ad w1 ∧ F57 w w1 ∧ (∃ a1 b1 c1 d1 : Int32, w1 55 = .inr (5, [.ref (ad 56), .ref (ad 57), .int z, .int a1, .int b1, .int c1, .int d1]) ∧ 0 ≤ a1.toInt ∧ a1.toInt ≤ b1.toInt ∧ b1.toInt ≤ z.toInt ∧ ((∃ f1 : Nat → Int32, w1 57 = .inl (cI, 3, .inl f1) ∧ ((f1 0).toInt < (Gh 1).toInt ∧ (f1 1).toInt < (Gh 1).toInt ∧ (f1 0).toInt ≤ 3 ∧ (f1 1).toInt ≤ 3) ∧ it4 bs z.toNatClampNeg b.toNatClampNeg Gh = .inr (b1.toNatClampNeg, goPoF Gh (f1 0).toNatClampNeg (f1 1).toNatClampNeg)) ∧ r = 1 ∨ it4 bs z.toNatClampNeg b.toNatClampNeg Gh = .inl a1.toNatClampNeg ∧ r = 0)) ∧ RG cI ad w1 Gh) := by
  refine nk_i (own := "NoonShade$Text") rfl (by decide) (Nat.le_of_ble_eq_true rfl) ?_
  intro p e s m below meth c ls X hD hN hr hlk h hl
  have hx := X.1.1
  have hb := X.1.2.1
  have hown := X.1.2.2.2.1
  have hts := X.1.2.2.2.2
  have hl : lv_has ls 5 [(0, .ref (ad 55)), (1, .ref (ad 14)), (2, .int 4)] := hl
  obtain ⟨so1, ho2, mi3, ca4, ja5, ck6, hh7, jk8, co9, p10, p11, p12, p13, p14, hG15⟩ := id hR
  have p10 : w 14 = .inr (1, [.int ho2, .int so1, .int mi3, .int ca4, .int ja5, .ref (ad 15), .ref (ad 16), .ref (ad 17), .ref (ad 18), .ref (ad 19), .ref (ad 20), .ref (ad 21), .ref (ad 23), .ref (ad 25)]) := p10
  obtain ⟨hG16, hG17, hG18, hG19, hG20, hG21, hG22, hG23, hG24, hG25, hG26⟩ := id hG15
  have p27 : rgA 0 9 hh7 := sA_pred (show sA cI 7 (rgA 0 9) (w 16) from ok 16 (by decide)) p12
  have p28 : rgA 0 60 co9 := sA_pred (show sA cI 4 (rgA 0 60) (w 19) from ok 19 (by decide)) p14
  have n0_ := congrArg Int32.toInt hG18
  have n1_ := congrArg Int32.toInt hG19
  have n7_ := congrArg Int32.toInt hG17
  refine lv_iload_n hx hb dX7_takeNumbers_0 rfl (lv_at hl 2 rfl) ?_
  refine n_Si (na := 1) (As := [.int 4]) (rest := []) X hD hN h (c_numbersOf4 l G cI cB cZ cO ad w) ⟨kv_414, kv_415, kv_388, kv_416⟩ ⟨by decide, by decide, by decide⟩ ⟨Nat.le_of_ble_eq_true rfl, Nat.le_of_ble_eq_true rfl⟩ ⟨Nat.zero_le _, Nat.zero_le _⟩ rfl hl.1 rfl (Nat.le_of_ble_eq_true rfl) dX7_takeNumbers_1 (fun r29 w30 H locs hp31 h => ?_)
  obtain ⟨rfl, h32⟩ := hp31
  subst h32
  refine lv_istore_n (lv' := [(3, .int 2), (0, .ref (ad 55)), (1, .ref (ad 14)), (2, .int 4)]) hx hb dX7_takeNumbers_4 rfl hl (by decide) rfl (fun ls hl => ?_)
  refine lv_iconst (v := 0) hx hb dX7_takeNumbers_5 (by decide) ?_
  refine lv_istore (lv' := [(4, .int 0), (3, .int 2), (0, .ref (ad 55)), (1, .ref (ad 14)), (2, .int 4)]) hx hb dX7_takeNumbers_6 hl (by decide) rfl (fun ls hl => ?_)
  refine lv_iload hx hb dX7_takeNumbers_8 (lv_at hl 0 rfl) ?_
  refine lv_iload_n hx hb dX7_takeNumbers_10 rfl (lv_at hl 1 rfl) ?_
  refine lv_icmp_ge (tgt := 66) hx hb dX7_takeNumbers_11 (by decide) (fun hc => absurd hc (by decide)) (fun _ => ?_)
  refine lv_iload hx hb dX7_takeNumbers_14 (lv_at hl 0 rfl) ?_
  refine lv_aload_n hx hb dX7_takeNumbers_16 rfl (lv_at hl 2 rfl) ?_
  refine r_get kc7 X h 55 1 (by decide) rfl pf (by decide) kv_413 rfl dX7_takeNumbers_17 ?_
  refine r_alen X h (v := 3) 57 0 (by decide) rfl p57 rfl rfl dX7_takeNumbers_20 ?_
  refine lv_icmp_ge (tgt := 66) hx hb dX7_takeNumbers_21 (by decide) (fun hc => absurd hc (by decide)) (fun _ => ?_)
  refine lv_aload_n hx hb dX7_takeNumbers_24 rfl (lv_at hl 2 rfl) ?_
  refine n_Vv (na := 0) (As := []) (rest := []) X hD hN h rfl (c_F_step l G cI cB cZ cO ad w z a b c0 d bs ok pf (by omega) p56 (by first | omega | decide | (simp only [k00]; omega)) (by first | omega | decide | (simp only [k00]; omega)) (by first | omega | decide | (simp only [k00]; omega)) (by first | omega | decide | (simp only [k00]; omega))) ⟨kv_417, kv_418, kv_419, kv_388, kv_420⟩ rfl ⟨by decide, by decide, by decide⟩ ⟨Nat.le_of_ble_eq_true rfl, Nat.le_of_ble_eq_true rfl⟩ ⟨Nat.zero_le _, Nat.zero_le _⟩ (by decide) pf rfl rfl hl.1 rfl (Nat.le_of_ble_eq_true rfl) dX7_takeNumbers_25 (fun w34 H locs hp35 h => ?_)
  obtain ⟨ok36, kk37, hr38⟩ := hp35
  obtain ⟨y39, y40, y41, y42, h43, h44, h45, h46, h47⟩ := hr38
  have q48 := txd ok36 h43
  have kx49 : F57 w w34 := F57.tr F57.rf kk37.f57
  refine lv_aload_n hx hb dX7_takeNumbers_28 rfl (lv_at hl 2 rfl) ?_
  refine r_get kc7 X h 55 5 (by decide) rfl h43 (by decide) kv_392 rfl dX7_takeNumbers_29 ?_
  refine lv_iconst (v := 2) hx hb dX7_takeNumbers_32 (by decide) ?_
  refine lv_icmp_ne (tgt := 47) hx hb dX7_takeNumbers_33 (by decide) (fun hc50 => ?_) (fun hc50 => ?_)
  · have hc50 : ¬ (y41).toInt = 2 := i_ne hc50 rfl rfl
    refine lv_iconst (v := 0) hx hb dX7_takeNumbers_47 (by decide) ?_
    have f52 : w34 19 = .inl (cI, 4, .inl co9) := (kk37 19 (by decide)).trans p14
    have hit51 : it4 bs z.toNatClampNeg b.toNatClampNeg Gh = .inl y39.toNatClampNeg := by
      unfold it4
      rw [pick_n (fun q9 => by first | exact h47.nonum (by omega) q9.1 | (have q1 := h47.un q9.1; have q2 := q9.2; rw [h47.iv q1.1, ← (hG21 _ (by have := cl_of (x := y42) (by omega); omega)).2] at q2; have := p28 (y42).toNatClampNeg; omega)), h47.s]
    exact e_n X h hr hlk rfl dX7_takeNumbers_48 ⟨ok36, kx49, ⟨⟨_, _, _, _, h43, by omega, by omega, by omega, Or.inr ⟨hit51, rfl⟩⟩, (RG.f57 hR kx49)⟩⟩
  · have hc50 : (y41).toInt = 2 := i_eq hc50 rfl rfl
    refine lv_aload_n hx hb dX7_takeNumbers_36 rfl (lv_at hl 2 rfl) ?_
    refine lv_aload_n hx hb dX7_takeNumbers_37 rfl (lv_at hl 3 rfl) ?_
    refine lv_iload_n hx hb dX7_takeNumbers_38 rfl (lv_at hl 4 rfl) ?_
    refine lv_iload hx hb dX7_takeNumbers_39 (lv_at hl 0 rfl) ?_
    have f53 : w34 14 = .inr (1, [.int ho2, .int so1, .int mi3, .int ca4, .int ja5, .ref (ad 15), .ref (ad 16), .ref (ad 17), .ref (ad 18), .ref (ad 19), .ref (ad 20), .ref (ad 21), .ref (ad 23), .ref (ad 25)]) := (kk37 14 (by decide)).trans p10
    have f54 : w34 19 = .inl (cI, 4, .inl co9) := (kk37 19 (by decide)).trans p14
    have f55 : w34 57 = .inl (cI, 3, .inl f) := (kk37 57 (by decide)).trans p57
    refine n_Vi (na := 3) (As := [.ref (ad 14), .int 4, .int 0]) (rest := []) X hD hN h rfl (c_F_fits40 l G cI cB cZ cO ad w34 z y39 y40 y41 y42 ho2 so1 mi3 ca4 ja5 co9 f ok36 h43 (by omega) (by omega) (by omega) f53 f54 p28 f55 pn (by omega) (by omega)) ⟨kv_421, kv_422, kv_423, kv_388, kv_424⟩ rfl ⟨by decide, by decide, by decide⟩ ⟨Nat.le_of_ble_eq_true rfl, Nat.le_of_ble_eq_true rfl⟩ ⟨Nat.zero_le _, Nat.zero_le _⟩ (by decide) h43 rfl rfl hl.1 rfl (Nat.le_of_ble_eq_true rfl) dX7_takeNumbers_41 (fun r56 w57 H locs hp58 h => ?_)
    obtain ⟨rfl, hr59⟩ := hp58
    rcases hr59 with ⟨hq60, rfl⟩ | ⟨hq60, rfl⟩
    · refine lv_if_ne (tgt := 49) hx hb dX7_takeNumbers_44 (by decide) (fun _ => ?_) (fun hc => absurd hc (by decide))
      refine lv_aload_n hx hb dX7_takeNumbers_49 rfl (lv_at hl 2 rfl) ?_
      refine r_get kc7 X h 55 1 (by decide) rfl h43 (by decide) kv_413 rfl dX7_takeNumbers_50 ?_
      refine lv_iload hx hb dX7_takeNumbers_53 (lv_at hl 0 rfl) ?_
      refine lv_aload_n hx hb dX7_takeNumbers_55 rfl (lv_at hl 2 rfl) ?_
      refine r_get kc7 X h 55 6 (by decide) rfl h43 (by decide) kv_390 rfl dX7_takeNumbers_56 ?_
      obtain ⟨g61, e62⟩ : ∃ z : Nat → Int32, upd f 0 y42 = z := ⟨_, rfl⟩
      have p64 : rgA 0 99 g61 := rgA_upd pn e62 (by omega) (by omega)
      refine o_iast (f1 := g61) X hD h 57 0 (by decide) rfl f55 rfl (by unfold vp_in; decide) e62 dX7_takeNumbers_59 (fun H locs w65 e66 h => ?_)
      have f67 : w65 57 = .inl (cI, 3, .inl g61) := (congrFun e66 _).trans (va_up_self _ _ _)
      have ok68 : OK cI cB cZ cO ad w65 := OK.up ok36 e66 (sA_mk p64)
      have kx69 : F57 w w65 := F57.up kx49 e66 (by decide)
      refine lv_iinc (v := 1) (lv' := [(4, .int 1), (3, .int 2), (0, .ref (ad 55)), (1, .ref (ad 14)), (2, .int 4)]) hx hb dX7_takeNumbers_60 hl (k := 0) rfl rfl (by decide) rfl (fun ls hl => ?_)
      refine lv_goto (tgt := 8) hx hb dX7_takeNumbers_63 (by decide) ?_
      refine lv_iload hx hb dX7_takeNumbers_8 (lv_at hl 0 rfl) ?_
      refine lv_iload_n hx hb dX7_takeNumbers_10 rfl (lv_at hl 1 rfl) ?_
      refine lv_icmp_ge (tgt := 66) hx hb dX7_takeNumbers_11 (by decide) (fun hc => absurd hc (by decide)) (fun _ => ?_)
      refine lv_iload hx hb dX7_takeNumbers_14 (lv_at hl 0 rfl) ?_
      refine lv_aload_n hx hb dX7_takeNumbers_16 rfl (lv_at hl 2 rfl) ?_
      have f70 : w65 55 = .inr (5, [.ref (ad 56), .ref (ad 57), .int z, .int y39, .int y40, .int y41, .int y42]) := by rw [e66, va_up_ne _ _ (by decide)]; exact h43
      refine r_get kc7 X h 55 1 (by decide) rfl f70 (by decide) kv_413 rfl dX7_takeNumbers_17 ?_
      refine r_alen X h (v := 3) 57 0 (by decide) rfl f67 rfl rfl dX7_takeNumbers_20 ?_
      refine lv_icmp_ge (tgt := 66) hx hb dX7_takeNumbers_21 (by decide) (fun hc => absurd hc (by decide)) (fun _ => ?_)
      refine lv_aload_n hx hb dX7_takeNumbers_24 rfl (lv_at hl 2 rfl) ?_
      have f71 : w34 56 = .inl (cB, 150, .inl bs) := (kk37 56 (by decide)).trans p56
      have f72 : w65 56 = .inl (cB, 150, .inl bs) := by rw [e66, va_up_ne _ _ (by decide)]; exact f71
      refine n_Vv (na := 0) (As := []) (rest := []) X hD hN h rfl (c_F_step l G cI cB cZ cO ad w65 z y39 y40 y41 y42 bs ok68 f70 (by omega) f72 (by first | omega | decide | (simp only [k00]; omega)) (by first | omega | decide | (simp only [k00]; omega)) (by first | omega | decide | (simp only [k00]; omega)) (by first | omega | decide | (simp only [k00]; omega))) ⟨kv_417, kv_418, kv_419, kv_388, kv_420⟩ rfl ⟨by decide, by decide, by decide⟩ ⟨Nat.le_of_ble_eq_true rfl, Nat.le_of_ble_eq_true rfl⟩ ⟨Nat.zero_le _, Nat.zero_le _⟩ (by decide) f70 rfl rfl hl.1 rfl (Nat.le_of_ble_eq_true rfl) dX7_takeNumbers_25 (fun w74 H locs hp75 h => ?_)
      obtain ⟨ok76, kk77, hr78⟩ := hp75
      obtain ⟨y79, y80, y81, y82, h83, h84, h85, h86, h87⟩ := hr78
      have q88 := txd ok76 h83
      have kx89 : F57 w w74 := F57.tr kx69 kk77.f57
      refine lv_aload_n hx hb dX7_takeNumbers_28 rfl (lv_at hl 2 rfl) ?_
      refine r_get kc7 X h 55 5 (by decide) rfl h83 (by decide) kv_392 rfl dX7_takeNumbers_29 ?_
      refine lv_iconst (v := 2) hx hb dX7_takeNumbers_32 (by decide) ?_
      refine lv_icmp_ne (tgt := 47) hx hb dX7_takeNumbers_33 (by decide) (fun hc90 => ?_) (fun hc90 => ?_)
      · have hc90 : ¬ (y81).toInt = 2 := i_ne hc90 rfl rfl
        refine lv_iconst (v := 0) hx hb dX7_takeNumbers_47 (by decide) ?_
        have f92 : w65 19 = .inl (cI, 4, .inl co9) := by rw [e66, va_up_ne _ _ (by decide)]; exact f54
        have f93 : w74 19 = .inl (cI, 4, .inl co9) := (kk77 19 (by decide)).trans f92
        have f94 : w74 57 = .inl (cI, 3, .inl g61) := (kk77 57 (by decide)).trans f67
        have e95 : (g61 0).toInt = (y42).toInt := by rw [← e62, pk_us]
        have hit91 : it4 bs z.toNatClampNeg b.toNatClampNeg Gh = .inl y79.toNatClampNeg := by
          unfold it4
          rw [pick_y ⟨h47.num (by omega) (by omega) (by omega), by rw [h47.iv (by omega), ← (hG21 _ (by have := cl_of (x := y42) (by omega); omega)).2]; omega⟩]
          rw [h47.e]
          rw [pick_n (fun q9 => by first | exact h87.nonum (by omega) q9.1 | (have q1 := h87.un q9.1; have q2 := q9.2; rw [h87.v q1.1, h47.v (by omega)] at q2; omega)), h87.s]
        exact e_n X h hr hlk rfl dX7_takeNumbers_48 ⟨ok76, kx89, ⟨⟨_, _, _, _, h83, by omega, by omega, by omega, Or.inr ⟨hit91, rfl⟩⟩, (RG.f57 hR kx89)⟩⟩
      · have hc90 : (y81).toInt = 2 := i_eq hc90 rfl rfl
        refine lv_aload_n hx hb dX7_takeNumbers_36 rfl (lv_at hl 2 rfl) ?_
        refine lv_aload_n hx hb dX7_takeNumbers_37 rfl (lv_at hl 3 rfl) ?_
        refine lv_iload_n hx hb dX7_takeNumbers_38 rfl (lv_at hl 4 rfl) ?_
        refine lv_iload hx hb dX7_takeNumbers_39 (lv_at hl 0 rfl) ?_
        have f96 : w65 14 = .inr (1, [.int ho2, .int so1, .int mi3, .int ca4, .int ja5, .ref (ad 15), .ref (ad 16), .ref (ad 17), .ref (ad 18), .ref (ad 19), .ref (ad 20), .ref (ad 21), .ref (ad 23), .ref (ad 25)]) := by rw [e66, va_up_ne _ _ (by decide)]; exact f53
        have f97 : w74 14 = .inr (1, [.int ho2, .int so1, .int mi3, .int ca4, .int ja5, .ref (ad 15), .ref (ad 16), .ref (ad 17), .ref (ad 18), .ref (ad 19), .ref (ad 20), .ref (ad 21), .ref (ad 23), .ref (ad 25)]) := (kk77 14 (by decide)).trans f96
        have f98 : w65 19 = .inl (cI, 4, .inl co9) := by rw [e66, va_up_ne _ _ (by decide)]; exact f54
        have f99 : w74 19 = .inl (cI, 4, .inl co9) := (kk77 19 (by decide)).trans f98
        have f100 : w74 57 = .inl (cI, 3, .inl g61) := (kk77 57 (by decide)).trans f67
        refine n_Vi (na := 3) (As := [.ref (ad 14), .int 4, .int 1]) (rest := []) X hD hN h rfl (c_F_fits41 l G cI cB cZ cO ad w74 z y79 y80 y81 y82 ho2 so1 mi3 ca4 ja5 co9 g61 ok76 h83 (by omega) (by omega) (by omega) f97 f99 p28 f100 p64 (by omega) (by omega)) ⟨kv_421, kv_422, kv_423, kv_388, kv_424⟩ rfl ⟨by decide, by decide, by decide⟩ ⟨Nat.le_of_ble_eq_true rfl, Nat.le_of_ble_eq_true rfl⟩ ⟨Nat.zero_le _, Nat.zero_le _⟩ (by decide) h83 rfl rfl hl.1 rfl (Nat.le_of_ble_eq_true rfl) dX7_takeNumbers_41 (fun r101 w102 H locs hp103 h => ?_)
        obtain ⟨rfl, hr104⟩ := hp103
        rcases hr104 with ⟨hq105, rfl⟩ | ⟨hq105, rfl⟩
        · refine lv_if_ne (tgt := 49) hx hb dX7_takeNumbers_44 (by decide) (fun _ => ?_) (fun hc => absurd hc (by decide))
          refine lv_aload_n hx hb dX7_takeNumbers_49 rfl (lv_at hl 2 rfl) ?_
          refine r_get kc7 X h 55 1 (by decide) rfl h83 (by decide) kv_413 rfl dX7_takeNumbers_50 ?_
          refine lv_iload hx hb dX7_takeNumbers_53 (lv_at hl 0 rfl) ?_
          refine lv_aload_n hx hb dX7_takeNumbers_55 rfl (lv_at hl 2 rfl) ?_
          refine r_get kc7 X h 55 6 (by decide) rfl h83 (by decide) kv_390 rfl dX7_takeNumbers_56 ?_
          obtain ⟨g106, e107⟩ : ∃ z : Nat → Int32, upd g61 1 y82 = z := ⟨_, rfl⟩
          have p109 : rgA 0 99 g106 := rgA_upd p64 e107 (by omega) (by omega)
          refine o_iast (f1 := g106) X hD h 57 0 (by decide) rfl f100 rfl (by unfold vp_in; decide) e107 dX7_takeNumbers_59 (fun H locs w110 e111 h => ?_)
          have f112 : w110 57 = .inl (cI, 3, .inl g106) := (congrFun e111 _).trans (va_up_self _ _ _)
          have ok113 : OK cI cB cZ cO ad w110 := OK.up ok76 e111 (sA_mk p109)
          have kx114 : F57 w w110 := F57.up kx89 e111 (by decide)
          refine lv_iinc (v := 2) (lv' := [(4, .int 2), (3, .int 2), (0, .ref (ad 55)), (1, .ref (ad 14)), (2, .int 4)]) hx hb dX7_takeNumbers_60 hl (k := 0) rfl rfl (by decide) rfl (fun ls hl => ?_)
          refine lv_goto (tgt := 8) hx hb dX7_takeNumbers_63 (by decide) ?_
          refine lv_iload hx hb dX7_takeNumbers_8 (lv_at hl 0 rfl) ?_
          refine lv_iload_n hx hb dX7_takeNumbers_10 rfl (lv_at hl 1 rfl) ?_
          refine lv_icmp_ge (tgt := 66) hx hb dX7_takeNumbers_11 (by decide) (fun _ => ?_) (fun hc => absurd (by decide) hc)
          refine lv_aload_n hx hb dX7_takeNumbers_66 rfl (lv_at hl 2 rfl) ?_
          have f115 : w110 55 = .inr (5, [.ref (ad 56), .ref (ad 57), .int z, .int y79, .int y80, .int y81, .int y82]) := by rw [e111, va_up_ne _ _ (by decide)]; exact h83
          have f116 : w74 56 = .inl (cB, 150, .inl bs) := (kk77 56 (by decide)).trans f72
          have f117 : w110 56 = .inl (cB, 150, .inl bs) := by rw [e111, va_up_ne _ _ (by decide)]; exact f116
          refine n_Vv (na := 0) (As := []) (rest := []) X hD hN h rfl (c_F_step l G cI cB cZ cO ad w110 z y79 y80 y81 y82 bs ok113 f115 (by omega) f117 (by first | omega | decide | (simp only [k00]; omega)) (by first | omega | decide | (simp only [k00]; omega)) (by first | omega | decide | (simp only [k00]; omega)) (by first | omega | decide | (simp only [k00]; omega))) ⟨kv_417, kv_418, kv_419, kv_388, kv_420⟩ rfl ⟨by decide, by decide, by decide⟩ ⟨Nat.le_of_ble_eq_true rfl, Nat.le_of_ble_eq_true rfl⟩ ⟨Nat.zero_le _, Nat.zero_le _⟩ (by decide) f115 rfl rfl hl.1 rfl (Nat.le_of_ble_eq_true rfl) dX7_takeNumbers_67 (fun w119 H locs hp120 h => ?_)
          obtain ⟨ok121, kk122, hr123⟩ := hp120
          obtain ⟨y124, y125, y126, y127, h128, h129, h130, h131, h132⟩ := hr123
          have q133 := txd ok121 h128
          have kx134 : F57 w w119 := F57.tr kx114 kk122.f57
          refine lv_aload_n hx hb dX7_takeNumbers_70 rfl (lv_at hl 2 rfl) ?_
          refine r_get kc7 X h 55 5 (by decide) rfl h128 (by decide) kv_392 rfl dX7_takeNumbers_71 ?_
          refine lv_iconst (v := 3) hx hb dX7_takeNumbers_74 (by decide) ?_
          refine lv_icmp_ne (tgt := 82) hx hb dX7_takeNumbers_75 (by decide) (fun hc135 => ?_) (fun hc135 => ?_)
          · have hc135 : ¬ (y126).toInt = 3 := i_ne hc135 rfl rfl
            refine lv_iconst (v := 0) hx hb dX7_takeNumbers_82 (by decide) ?_
            have f137 : w110 19 = .inl (cI, 4, .inl co9) := by rw [e111, va_up_ne _ _ (by decide)]; exact f99
            have f138 : w119 19 = .inl (cI, 4, .inl co9) := (kk122 19 (by decide)).trans f137
            have f139 : w119 57 = .inl (cI, 3, .inl g106) := (kk122 57 (by decide)).trans f112
            have e140 : (g61 0).toInt = (y42).toInt := by rw [← e62, pk_us]
            have hit136 : it4 bs z.toNatClampNeg b.toNatClampNeg Gh = .inl y124.toNatClampNeg := by
              unfold it4
              rw [pick_y ⟨h47.num (by omega) (by omega) (by omega), by rw [h47.iv (by omega), ← (hG21 _ (by have := cl_of (x := y42) (by omega); omega)).2]; omega⟩]
              rw [h47.e]
              rw [pick_y ⟨h87.num (by omega) (by omega) (by omega), by rw [h87.v (by omega), h47.v (by omega)]; omega⟩]
              rw [h87.e]
              rw [h132.nostop _ (by omega)]
            exact e_n X h hr hlk rfl dX7_takeNumbers_83 ⟨ok121, kx134, ⟨⟨_, _, _, _, h128, by omega, by omega, by omega, Or.inr ⟨hit136, rfl⟩⟩, (RG.f57 hR kx134)⟩⟩
          · have hc135 : (y126).toInt = 3 := i_eq hc135 rfl rfl
            refine lv_iconst (v := 1) hx hb dX7_takeNumbers_78 (by decide) ?_
            refine lv_goto (tgt := 83) hx hb dX7_takeNumbers_79 (by decide) ?_
            have f142 : w110 19 = .inl (cI, 4, .inl co9) := by rw [e111, va_up_ne _ _ (by decide)]; exact f99
            have f143 : w119 19 = .inl (cI, 4, .inl co9) := (kk122 19 (by decide)).trans f142
            have f144 : w119 57 = .inl (cI, 3, .inl g106) := (kk122 57 (by decide)).trans f112
            have e145 : (g61 0).toInt = (y42).toInt := by rw [← e62, pk_us]
            have e146 : g106 0 = y42 := by rw [← e107, pk_un (by decide), ← e62, pk_us]
            have e147 : g106 1 = y82 := by rw [← e107, pk_us]
            have hit141 : it4 bs z.toNatClampNeg b.toNatClampNeg Gh = .inr (y125.toNatClampNeg, goPoF Gh (g106 0).toNatClampNeg (g106 1).toNatClampNeg) := by
              unfold it4
              rw [pick_y ⟨h47.num (by omega) (by omega) (by omega), by rw [h47.iv (by omega), ← (hG21 _ (by have := cl_of (x := y42) (by omega); omega)).2]; omega⟩]
              rw [h47.e]
              rw [pick_y ⟨h87.num (by omega) (by omega) (by omega), by rw [h87.v (by omega), h47.v (by omega)]; omega⟩]
              rw [h87.e]
              rw [h132.stop _ (by omega)]
              rw [h47.iv (by omega), h87.iv (by omega), e146, e147]
            exact e_n X h hr hlk rfl dX7_takeNumbers_83 ⟨ok121, kx134, ⟨⟨_, _, _, _, h128, by omega, by omega, by omega, Or.inl ⟨⟨g106, f144, ⟨by rw [e146]; omega, by rw [e147]; omega, by rw [e146]; omega, by rw [e147]; omega⟩, hit141⟩, rfl⟩⟩, (RG.f57 hR kx134)⟩⟩
        · refine lv_if_ne (tgt := 49) hx hb dX7_takeNumbers_44 (by decide) (fun hc => absurd (by decide) hc) (fun _ => ?_)
          refine lv_iconst (v := 0) hx hb dX7_takeNumbers_47 (by decide) ?_
          have e149 : (g61 0).toInt = (y42).toInt := by rw [← e62, pk_us]
          have hit148 : it4 bs z.toNatClampNeg b.toNatClampNeg Gh = .inl y79.toNatClampNeg := by
            unfold it4
            rw [pick_y ⟨h47.num (by omega) (by omega) (by omega), by rw [h47.iv (by omega), ← (hG21 _ (by have := cl_of (x := y42) (by omega); omega)).2]; omega⟩]
            rw [h47.e]
            rw [pick_n (fun q9 => by first | exact h87.nonum (by omega) q9.1 | (have q1 := h87.un q9.1; have q2 := q9.2; rw [h87.v q1.1, h47.v (by omega)] at q2; omega)), h87.s]
          exact e_n X h hr hlk rfl dX7_takeNumbers_48 ⟨ok76, kx89, ⟨⟨_, _, _, _, h83, by omega, by omega, by omega, Or.inr ⟨hit148, rfl⟩⟩, (RG.f57 hR kx89)⟩⟩
    · refine lv_if_ne (tgt := 49) hx hb dX7_takeNumbers_44 (by decide) (fun hc => absurd (by decide) hc) (fun _ => ?_)
      refine lv_iconst (v := 0) hx hb dX7_takeNumbers_47 (by decide) ?_
      have hit150 : it4 bs z.toNatClampNeg b.toNatClampNeg Gh = .inl y39.toNatClampNeg := by
        unfold it4
        rw [pick_n (fun q9 => by first | exact h47.nonum (by omega) q9.1 | (have q1 := h47.un q9.1; have q2 := q9.2; rw [h47.iv q1.1, ← (hG21 _ (by have := cl_of (x := y42) (by omega); omega)).2] at q2; have := p28 (y42).toNatClampNeg; omega)), h47.s]
      exact e_n X h hr hlk rfl dX7_takeNumbers_48 ⟨ok36, kx49, ⟨⟨_, _, _, _, h43, by omega, by omega, by omega, Or.inr ⟨hit150, rfl⟩⟩, (RG.f57 hR kx49)⟩⟩

set_option maxHeartbeats 4000000 in
set_option maxRecDepth 100000 in
theorem c_F_takeNumbers5 (l : Launch) (G : va_G) (cI cB cZ cO : ClassId) (ad : Nat → Nat) (w : Nat → va_E) (z a b c0 d : Int32) (bs f : Nat → Int32) (Gh : Nat → Int32) (ok : OK cI cB cZ cO ad w)   (pf : w 55 = .inr (5, [.ref (ad 56), .ref (ad 57), .int z, .int a, .int b, .int c0, .int d])) (hz1 : z.toInt ≤ 150) (p56 : w 56 = .inl (cB, 150, .inl bs)) (hb0 : 0 ≤ b.toInt) (hbz : b.toInt ≤ z.toInt) (hd0 : 0 ≤ d.toInt) (hd1 : d.toInt ≤ 99) (p57 : w 57 = .inl (cI, 3, .inl f)) (pn : rgA 0 99 f) (hR : RG cI ad w Gh) : NI l G (tyq cI cB cZ cO) yX7_takeNumbers cX7_takeNumbers 5 (some .boolean) 3 66 74 ad w [.ref (ad 55), .ref (ad 14), .int 5] (fun r w1 => OK cI cB cZ cO ad w1 ∧ F57 w w1 ∧ (∃ a1 b1 c1 d1 : Int32, w1 55 = .inr (5, [.ref (ad 56), .ref (ad 57), .int z, .int a1, .int b1, .int c1, .int d1]) ∧ 0 ≤ a1.toInt ∧ a1.toInt ≤ b1.toInt ∧ b1.toInt ≤ z.toInt ∧ ((∃ f1 : Nat → Int32, w1 57 = .inl (cI, 3, .inl f1) ∧ (True) ∧ it5 bs z.toNatClampNeg b.toNatClampNeg Gh = .inr (b1.toNatClampNeg, goHsF (f1 0).toNatClampNeg Gh)) ∧ r = 1 ∨ it5 bs z.toNatClampNeg b.toNatClampNeg Gh = .inl a1.toNatClampNeg ∧ r = 0)) ∧ RG cI ad w1 Gh) := by
  refine nk_i (own := "NoonShade$Text") rfl (by decide) (Nat.le_of_ble_eq_true rfl) ?_
  intro p e s m below meth c ls X hD hN hr hlk h hl
  have hx := X.1.1
  have hb := X.1.2.1
  have hown := X.1.2.2.2.1
  have hts := X.1.2.2.2.2
  have hl : lv_has ls 5 [(0, .ref (ad 55)), (1, .ref (ad 14)), (2, .int 5)] := hl
  obtain ⟨so1, ho2, mi3, ca4, ja5, ck6, hh7, jk8, co9, p10, p11, p12, p13, p14, hG15⟩ := id hR
  have p10 : w 14 = .inr (1, [.int ho2, .int so1, .int mi3, .int ca4, .int ja5, .ref (ad 15), .ref (ad 16), .ref (ad 17), .ref (ad 18), .ref (ad 19), .ref (ad 20), .ref (ad 21), .ref (ad 23), .ref (ad 25)]) := p10
  obtain ⟨hG16, hG17, hG18, hG19, hG20, hG21, hG22, hG23, hG24, hG25, hG26⟩ := id hG15
  have p27 : rgA 0 9 hh7 := sA_pred (show sA cI 7 (rgA 0 9) (w 16) from ok 16 (by decide)) p12
  have p28 : rgA 0 60 co9 := sA_pred (show sA cI 4 (rgA 0 60) (w 19) from ok 19 (by decide)) p14
  have n0_ := congrArg Int32.toInt hG18
  have n1_ := congrArg Int32.toInt hG19
  have n7_ := congrArg Int32.toInt hG17
  refine lv_iload_n hx hb dX7_takeNumbers_0 rfl (lv_at hl 2 rfl) ?_
  refine n_Si (na := 1) (As := [.int 5]) (rest := []) X hD hN h (c_numbersOf5 l G cI cB cZ cO ad w) ⟨kv_414, kv_415, kv_388, kv_416⟩ ⟨by decide, by decide, by decide⟩ ⟨Nat.le_of_ble_eq_true rfl, Nat.le_of_ble_eq_true rfl⟩ ⟨Nat.zero_le _, Nat.zero_le _⟩ rfl hl.1 rfl (Nat.le_of_ble_eq_true rfl) dX7_takeNumbers_1 (fun r29 w30 H locs hp31 h => ?_)
  obtain ⟨rfl, h32⟩ := hp31
  subst h32
  refine lv_istore_n (lv' := [(3, .int 1), (0, .ref (ad 55)), (1, .ref (ad 14)), (2, .int 5)]) hx hb dX7_takeNumbers_4 rfl hl (by decide) rfl (fun ls hl => ?_)
  refine lv_iconst (v := 0) hx hb dX7_takeNumbers_5 (by decide) ?_
  refine lv_istore (lv' := [(4, .int 0), (3, .int 1), (0, .ref (ad 55)), (1, .ref (ad 14)), (2, .int 5)]) hx hb dX7_takeNumbers_6 hl (by decide) rfl (fun ls hl => ?_)
  refine lv_iload hx hb dX7_takeNumbers_8 (lv_at hl 0 rfl) ?_
  refine lv_iload_n hx hb dX7_takeNumbers_10 rfl (lv_at hl 1 rfl) ?_
  refine lv_icmp_ge (tgt := 66) hx hb dX7_takeNumbers_11 (by decide) (fun hc => absurd hc (by decide)) (fun _ => ?_)
  refine lv_iload hx hb dX7_takeNumbers_14 (lv_at hl 0 rfl) ?_
  refine lv_aload_n hx hb dX7_takeNumbers_16 rfl (lv_at hl 2 rfl) ?_
  refine r_get kc7 X h 55 1 (by decide) rfl pf (by decide) kv_413 rfl dX7_takeNumbers_17 ?_
  refine r_alen X h (v := 3) 57 0 (by decide) rfl p57 rfl rfl dX7_takeNumbers_20 ?_
  refine lv_icmp_ge (tgt := 66) hx hb dX7_takeNumbers_21 (by decide) (fun hc => absurd hc (by decide)) (fun _ => ?_)
  refine lv_aload_n hx hb dX7_takeNumbers_24 rfl (lv_at hl 2 rfl) ?_
  refine n_Vv (na := 0) (As := []) (rest := []) X hD hN h rfl (c_F_step l G cI cB cZ cO ad w z a b c0 d bs ok pf (by omega) p56 (by first | omega | decide | (simp only [k00]; omega)) (by first | omega | decide | (simp only [k00]; omega)) (by first | omega | decide | (simp only [k00]; omega)) (by first | omega | decide | (simp only [k00]; omega))) ⟨kv_417, kv_418, kv_419, kv_388, kv_420⟩ rfl ⟨by decide, by decide, by decide⟩ ⟨Nat.le_of_ble_eq_true rfl, Nat.le_of_ble_eq_true rfl⟩ ⟨Nat.zero_le _, Nat.zero_le _⟩ (by decide) pf rfl rfl hl.1 rfl (Nat.le_of_ble_eq_true rfl) dX7_takeNumbers_25 (fun w34 H locs hp35 h => ?_)
  obtain ⟨ok36, kk37, hr38⟩ := hp35
  obtain ⟨y39, y40, y41, y42, h43, h44, h45, h46, h47⟩ := hr38
  have q48 := txd ok36 h43
  have kx49 : F57 w w34 := F57.tr F57.rf kk37.f57
  refine lv_aload_n hx hb dX7_takeNumbers_28 rfl (lv_at hl 2 rfl) ?_
  refine r_get kc7 X h 55 5 (by decide) rfl h43 (by decide) kv_392 rfl dX7_takeNumbers_29 ?_
  refine lv_iconst (v := 2) hx hb dX7_takeNumbers_32 (by decide) ?_
  refine lv_icmp_ne (tgt := 47) hx hb dX7_takeNumbers_33 (by decide) (fun hc50 => ?_) (fun hc50 => ?_)
  · have hc50 : ¬ (y41).toInt = 2 := i_ne hc50 rfl rfl
    refine lv_iconst (v := 0) hx hb dX7_takeNumbers_47 (by decide) ?_
    have hit51 : it5 bs z.toNatClampNeg b.toNatClampNeg Gh = .inl y39.toNatClampNeg := by
      unfold it5
      rw [pick_n (h47.nonum (by omega)), h47.s]
    exact e_n X h hr hlk rfl dX7_takeNumbers_48 ⟨ok36, kx49, ⟨⟨_, _, _, _, h43, by omega, by omega, by omega, Or.inr ⟨hit51, rfl⟩⟩, (RG.f57 hR kx49)⟩⟩
  · have hc50 : (y41).toInt = 2 := i_eq hc50 rfl rfl
    refine lv_aload_n hx hb dX7_takeNumbers_36 rfl (lv_at hl 2 rfl) ?_
    refine lv_aload_n hx hb dX7_takeNumbers_37 rfl (lv_at hl 3 rfl) ?_
    refine lv_iload_n hx hb dX7_takeNumbers_38 rfl (lv_at hl 4 rfl) ?_
    refine lv_iload hx hb dX7_takeNumbers_39 (lv_at hl 0 rfl) ?_
    have f52 : w34 14 = .inr (1, [.int ho2, .int so1, .int mi3, .int ca4, .int ja5, .ref (ad 15), .ref (ad 16), .ref (ad 17), .ref (ad 18), .ref (ad 19), .ref (ad 20), .ref (ad 21), .ref (ad 23), .ref (ad 25)]) := (kk37 14 (by decide)).trans p10
    have f53 : w34 19 = .inl (cI, 4, .inl co9) := (kk37 19 (by decide)).trans p14
    have f54 : w34 57 = .inl (cI, 3, .inl f) := (kk37 57 (by decide)).trans p57
    refine n_Vi (na := 3) (As := [.ref (ad 14), .int 5, .int 0]) (rest := []) X hD hN h rfl (c_F_fits50 l G cI cB cZ cO ad w34 z y39 y40 y41 y42 ho2 so1 mi3 ca4 ja5 co9 f ok36 h43 (by omega) (by omega) (by omega) f52 f53 p28 f54 pn (by omega) (by omega)) ⟨kv_421, kv_422, kv_423, kv_388, kv_424⟩ rfl ⟨by decide, by decide, by decide⟩ ⟨Nat.le_of_ble_eq_true rfl, Nat.le_of_ble_eq_true rfl⟩ ⟨Nat.zero_le _, Nat.zero_le _⟩ (by decide) h43 rfl rfl hl.1 rfl (Nat.le_of_ble_eq_true rfl) dX7_takeNumbers_41 (fun r55 w56 H locs hp57 h => ?_)
    obtain ⟨rfl, hr58⟩ := hp57
    rcases hr58 with ⟨hq59, rfl⟩ | ⟨hq59, rfl⟩
    · refine lv_if_ne (tgt := 49) hx hb dX7_takeNumbers_44 (by decide) (fun _ => ?_) (fun hc => absurd hc (by decide))
      refine lv_aload_n hx hb dX7_takeNumbers_49 rfl (lv_at hl 2 rfl) ?_
      refine r_get kc7 X h 55 1 (by decide) rfl h43 (by decide) kv_413 rfl dX7_takeNumbers_50 ?_
      refine lv_iload hx hb dX7_takeNumbers_53 (lv_at hl 0 rfl) ?_
      refine lv_aload_n hx hb dX7_takeNumbers_55 rfl (lv_at hl 2 rfl) ?_
      refine r_get kc7 X h 55 6 (by decide) rfl h43 (by decide) kv_390 rfl dX7_takeNumbers_56 ?_
      obtain ⟨g60, e61⟩ : ∃ z : Nat → Int32, upd f 0 y42 = z := ⟨_, rfl⟩
      have p63 : rgA 0 99 g60 := rgA_upd pn e61 (by omega) (by omega)
      refine o_iast (f1 := g60) X hD h 57 0 (by decide) rfl f54 rfl (by unfold vp_in; decide) e61 dX7_takeNumbers_59 (fun H locs w64 e65 h => ?_)
      have f66 : w64 57 = .inl (cI, 3, .inl g60) := (congrFun e65 _).trans (va_up_self _ _ _)
      have ok67 : OK cI cB cZ cO ad w64 := OK.up ok36 e65 (sA_mk p63)
      have kx68 : F57 w w64 := F57.up kx49 e65 (by decide)
      refine lv_iinc (v := 1) (lv' := [(4, .int 1), (3, .int 1), (0, .ref (ad 55)), (1, .ref (ad 14)), (2, .int 5)]) hx hb dX7_takeNumbers_60 hl (k := 0) rfl rfl (by decide) rfl (fun ls hl => ?_)
      refine lv_goto (tgt := 8) hx hb dX7_takeNumbers_63 (by decide) ?_
      refine lv_iload hx hb dX7_takeNumbers_8 (lv_at hl 0 rfl) ?_
      refine lv_iload_n hx hb dX7_takeNumbers_10 rfl (lv_at hl 1 rfl) ?_
      refine lv_icmp_ge (tgt := 66) hx hb dX7_takeNumbers_11 (by decide) (fun _ => ?_) (fun hc => absurd (by decide) hc)
      refine lv_aload_n hx hb dX7_takeNumbers_66 rfl (lv_at hl 2 rfl) ?_
      have f69 : w64 55 = .inr (5, [.ref (ad 56), .ref (ad 57), .int z, .int y39, .int y40, .int y41, .int y42]) := by rw [e65, va_up_ne _ _ (by decide)]; exact h43
      have f70 : w34 56 = .inl (cB, 150, .inl bs) := (kk37 56 (by decide)).trans p56
      have f71 : w64 56 = .inl (cB, 150, .inl bs) := by rw [e65, va_up_ne _ _ (by decide)]; exact f70
      refine n_Vv (na := 0) (As := []) (rest := []) X hD hN h rfl (c_F_step l G cI cB cZ cO ad w64 z y39 y40 y41 y42 bs ok67 f69 (by omega) f71 (by first | omega | decide | (simp only [k00]; omega)) (by first | omega | decide | (simp only [k00]; omega)) (by first | omega | decide | (simp only [k00]; omega)) (by first | omega | decide | (simp only [k00]; omega))) ⟨kv_417, kv_418, kv_419, kv_388, kv_420⟩ rfl ⟨by decide, by decide, by decide⟩ ⟨Nat.le_of_ble_eq_true rfl, Nat.le_of_ble_eq_true rfl⟩ ⟨Nat.zero_le _, Nat.zero_le _⟩ (by decide) f69 rfl rfl hl.1 rfl (Nat.le_of_ble_eq_true rfl) dX7_takeNumbers_67 (fun w73 H locs hp74 h => ?_)
      obtain ⟨ok75, kk76, hr77⟩ := hp74
      obtain ⟨y78, y79, y80, y81, h82, h83, h84, h85, h86⟩ := hr77
      have q87 := txd ok75 h82
      have kx88 : F57 w w73 := F57.tr kx68 kk76.f57
      refine lv_aload_n hx hb dX7_takeNumbers_70 rfl (lv_at hl 2 rfl) ?_
      refine r_get kc7 X h 55 5 (by decide) rfl h82 (by decide) kv_392 rfl dX7_takeNumbers_71 ?_
      refine lv_iconst (v := 3) hx hb dX7_takeNumbers_74 (by decide) ?_
      refine lv_icmp_ne (tgt := 82) hx hb dX7_takeNumbers_75 (by decide) (fun hc89 => ?_) (fun hc89 => ?_)
      · have hc89 : ¬ (y80).toInt = 3 := i_ne hc89 rfl rfl
        refine lv_iconst (v := 0) hx hb dX7_takeNumbers_82 (by decide) ?_
        have hit90 : it5 bs z.toNatClampNeg b.toNatClampNeg Gh = .inl y78.toNatClampNeg := by
          unfold it5
          rw [pick_y (h47.num (by omega) (by omega) (by omega))]
          rw [h47.e]
          rw [h86.nostop _ (by omega)]
        exact e_n X h hr hlk rfl dX7_takeNumbers_83 ⟨ok75, kx88, ⟨⟨_, _, _, _, h82, by omega, by omega, by omega, Or.inr ⟨hit90, rfl⟩⟩, (RG.f57 hR kx88)⟩⟩
      · have hc89 : (y80).toInt = 3 := i_eq hc89 rfl rfl
        refine lv_iconst (v := 1) hx hb dX7_takeNumbers_78 (by decide) ?_
        refine lv_goto (tgt := 83) hx hb dX7_takeNumbers_79 (by decide) ?_
        have f92 : w73 57 = .inl (cI, 3, .inl g60) := (kk76 57 (by decide)).trans f66
        have e93 : g60 0 = y42 := by rw [← e61, pk_us]
        have hit91 : it5 bs z.toNatClampNeg b.toNatClampNeg Gh = .inr (y79.toNatClampNeg, goHsF (g60 0).toNatClampNeg Gh) := by
          unfold it5
          rw [pick_y (h47.num (by omega) (by omega) (by omega))]
          rw [h47.e]
          rw [h86.stop _ (by omega)]
          rw [h47.iv (by omega), e93]
        exact e_n X h hr hlk rfl dX7_takeNumbers_83 ⟨ok75, kx88, ⟨⟨_, _, _, _, h82, by omega, by omega, by omega, Or.inl ⟨⟨g60, f92, trivial, hit91⟩, rfl⟩⟩, (RG.f57 hR kx88)⟩⟩
    · refine lv_if_ne (tgt := 49) hx hb dX7_takeNumbers_44 (by decide) (fun hc => absurd (by decide) hc) (fun _ => ?_)
      refine lv_iconst (v := 0) hx hb dX7_takeNumbers_47 (by decide) ?_
      have hit94 : it5 bs z.toNatClampNeg b.toNatClampNeg Gh = .inl y39.toNatClampNeg := by
        unfold it5
        rw [pick_n (h47.nonum (by omega)), h47.s]
      exact e_n X h hr hlk rfl dX7_takeNumbers_48 ⟨ok36, kx49, ⟨⟨_, _, _, _, h43, by omega, by omega, by omega, Or.inr ⟨hit94, rfl⟩⟩, (RG.f57 hR kx49)⟩⟩
