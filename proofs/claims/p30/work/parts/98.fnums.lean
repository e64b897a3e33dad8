set_option maxHeartbeats 4000000 in
set_option maxRecDepth 100000 in
theorem c_F_fitsCaster0 (l : Launch) (G : va_G) (cI cB cZ cO : ClassId) (ad : Nat → Nat) (w : Nat → va_E) (z a b c0 d : Int32)    (pf : w 55 = .inr (5, [.ref (ad 56), .ref (ad 57), .int z, .int a, .int b, .int c0, .int d])) (hz1 : z.toInt ≤ 150) (hd0 : 0 ≤ d.toInt) (hd1 : d.toInt ≤ 99) : NI l G (tyq cI cB cZ cO) yX7_fitsCaster cX7_fitsCaster 2 (some .boolean) 0 0 74 ad w [.ref (ad 55), .int 0] (fun r w1 => w = w1 ∧ ((d.toInt < 6 ∧ r = 1) ∨ (¬ d.toInt < 6 ∧ r = 0))) := by
  refine nk_i (own := "NoonShade$Text") rfl (by decide) (Nat.le_of_ble_eq_true rfl) ?_
  intro p e s m below meth c ls X hD hN hr hlk h hl
  have hx := X.1.1
  have hb := X.1.2.1
  have hown := X.1.2.2.2.1
  have hts := X.1.2.2.2.2
  have hl : lv_has ls 2 [(0, .ref (ad 55)), (1, .int 0)] := hl
  refine lv_iload_n hx hb dX7_fitsCaster_0 rfl (lv_at hl 1 rfl) ?_
  refine lv_lookup (tgt := 28) (off := 27) hx hb dX7_fitsCaster_1 (by decide) rfl (by decide) ?_
  refine lv_aload_n hx hb dX7_fitsCaster_28 rfl (lv_at hl 0 rfl) ?_
  refine r_get kc7 X h 55 6 (by decide) rfl pf (by decide) kv_390 rfl dX7_fitsCaster_29 ?_
  refine lv_bipush (v := 6) hx hb dX7_fitsCaster_32 (by decide) ?_
  refine lv_icmp_ge (tgt := 41) hx hb dX7_fitsCaster_34 (by decide) (fun hc1 => ?_) (fun hc1 => ?_)
  · have hc1 : 6 ≤ (d).toInt := i_le hc1 rfl rfl
    refine lv_iconst (v := 0) hx hb dX7_fitsCaster_41 (by decide) ?_
    exact e_n X h hr hlk rfl dX7_fitsCaster_42 ⟨rfl, Or.inr ⟨by omega, rfl⟩⟩
  · have hc1 : ¬ 6 ≤ (d).toInt := i_nle hc1 rfl rfl
    refine lv_iconst (v := 1) hx hb dX7_fitsCaster_37 (by decide) ?_
    refine lv_goto (tgt := 42) hx hb dX7_fitsCaster_38 (by decide) ?_
    exact e_n X h hr hlk rfl dX7_fitsCaster_42 ⟨rfl, Or.inl ⟨by omega, rfl⟩⟩

set_option maxHeartbeats 4000000 in
set_option maxRecDepth 100000 in
theorem c_F_fitsCaster1 (l : Launch) (G : va_G) (cI cB cZ cO : ClassId) (ad : Nat → Nat) (w : Nat → va_E) (z a b c0 d : Int32)    (pf : w 55 = .inr (5, [.ref (ad 56), .ref (ad 57), .int z, .int a, .int b, .int c0, .int d])) (hz1 : z.toInt ≤ 150) (hd0 : 0 ≤ d.toInt) (hd1 : d.toInt ≤ 99) : NI l G (tyq cI cB cZ cO) yX7_fitsCaster cX7_fitsCaster 2 (some .boolean) 1 22 74 ad w [.ref (ad 55), .int 1] (fun r w1 => w = w1 ∧ (((1 ≤ d.toInt ∧ d.toInt ≤ 9) ∧ r = 1) ∨ (¬ (1 ≤ d.toInt ∧ d.toInt ≤ 9) ∧ r = 0))) := by
  refine nk_i (own := "NoonShade$Text") rfl (by decide) (Nat.le_of_ble_eq_true rfl) ?_
  intro p e s m below meth c ls X hD hN hr hlk h hl
  have hx := X.1.1
  have hb := X.1.2.1
  have hown := X.1.2.2.2.1
  have hts := X.1.2.2.2.2
  have hl : lv_has ls 2 [(0, .ref (ad 55)), (1, .int 1)] := hl
  refine lv_iload_n hx hb dX7_fitsCaster_0 rfl (lv_at hl 1 rfl) ?_
  refine lv_lookup (tgt := 43) (off := 42) hx hb dX7_fitsCaster_1 (by decide) rfl (by decide) ?_
  refine lv_aload_n hx hb dX7_fitsCaster_43 rfl (lv_at hl 0 rfl) ?_
  refine r_get kc7 X h 55 6 (by decide) rfl pf (by decide) kv_390 rfl dX7_fitsCaster_44 ?_
  refine lv_iconst (v := 1) hx hb dX7_fitsCaster_47 (by decide) ?_
  refine lv_bipush (v := 9) hx hb dX7_fitsCaster_48 (by decide) ?_
  refine n_SNi (na := 3) (As := [.int d, .int 1, .int 9]) (rest := []) (host := "NoonShade") X hD hN h (c_within l G cI cB cZ cO ad w d (1 : Int32) (9 : Int32) ((d).toInt) 1 9 rfl rfl rfl) (by decide) kv_248 kv_212 kv_249 ⟨by decide, by decide, by decide⟩ ⟨Nat.le_of_ble_eq_true rfl, Nat.le_of_ble_eq_true rfl⟩ ⟨Nat.zero_le _, Nat.zero_le _⟩ rfl hl.1 rfl (Nat.le_of_ble_eq_true rfl) dX7_fitsCaster_50 (fun r1 w2 H locs hp3 h => ?_)
  obtain ⟨rfl, hq4⟩ := hp3
  rcases hq4 with ⟨hq5, hq6, rfl⟩ | ⟨hq4, rfl⟩
  · exact e_n X h hr hlk rfl dX7_fitsCaster_53 ⟨rfl, Or.inl ⟨by omega, rfl⟩⟩
  · exact e_n X h hr hlk rfl dX7_fitsCaster_53 ⟨rfl, Or.inr ⟨by omega, rfl⟩⟩

set_option maxHeartbeats 4000000 in
set_option maxRecDepth 100000 in
theorem c_F_fitsCaster2 (l : Launch) (G : va_G) (cI cB cZ cO : ClassId) (ad : Nat → Nat) (w : Nat → va_E) (z a b c0 d : Int32)    (pf : w 55 = .inr (5, [.ref (ad 56), .ref (ad 57), .int z, .int a, .int b, .int c0, .int d])) (hz1 : z.toInt ≤ 150) (hd0 : 0 ≤ d.toInt) (hd1 : d.toInt ≤ 99) : NI l G (tyq cI cB cZ cO) yX7_fitsCaster cX7_fitsCaster 2 (some .boolean) 0 0 74 ad w [.ref (ad 55), .int 2] (fun r w1 => w = w1 ∧ ((d.toInt < 4 ∧ r = 1) ∨ (¬ d.toInt < 4 ∧ r = 0))) := by
  refine nk_i (own := "NoonShade$Text") rfl (by decide) (Nat.le_of_ble_eq_true rfl) ?_
  intro p e s m below meth c ls X hD hN hr hlk h hl
  have hx := X.1.1
  have hb := X.1.2.1
  have hown := X.1.2.2.2.1
  have hts := X.1.2.2.2.2
  have hl : lv_has ls 2 [(0, .ref (ad 55)), (1, .int 2)] := hl
  refine lv_iload_n hx hb dX7_fitsCaster_0 rfl (lv_at hl 1 rfl) ?_
  refine lv_lookup (tgt := 54) (off := 53) hx hb dX7_fitsCaster_1 (by decide) rfl (by decide) ?_
  refine lv_aload_n hx hb dX7_fitsCaster_54 rfl (lv_at hl 0 rfl) ?_
  refine r_get kc7 X h 55 6 (by decide) rfl pf (by decide) kv_390 rfl dX7_fitsCaster_55 ?_
  refine lv_iconst (v := 4) hx hb dX7_fitsCaster_58 (by decide) ?_
  refine lv_icmp_ge (tgt := 66) hx hb dX7_fitsCaster_59 (by decide) (fun hc1 => ?_) (fun hc1 => ?_)
  · have hc1 : 4 ≤ (d).toInt := i_le hc1 rfl rfl
    refine lv_iconst (v := 0) hx hb dX7_fitsCaster_66 (by decide) ?_
    exact e_n X h hr hlk rfl dX7_fitsCaster_67 ⟨rfl, Or.inr ⟨by omega, rfl⟩⟩
  · have hc1 : ¬ 4 ≤ (d).toInt := i_nle hc1 rfl rfl
    refine lv_iconst (v := 1) hx hb dX7_fitsCaster_62 (by decide) ?_
    refine lv_goto (tgt := 67) hx hb dX7_fitsCaster_63 (by decide) ?_
    exact e_n X h hr hlk rfl dX7_fitsCaster_67 ⟨rfl, Or.inl ⟨by omega, rfl⟩⟩

set_option maxHeartbeats 4000000 in
set_option maxRecDepth 100000 in
theorem c_F_fits00 (l : Launch) (G : va_G) (cI cB cZ cO : ClassId) (ad : Nat → Nat) (w : Nat → va_E) (z a b c0 d : Int32) (ho so mi ca ja : Int32) (co f : Nat → Int32) (ok : OK cI cB cZ cO ad w)   (pf : w 55 = .inr (5, [.ref (ad 56), .ref (ad 57), .int z, .int a, .int b, .int c0, .int d])) (hz1 : z.toInt ≤ 150) (hd0 : 0 ≤ d.toInt) (hd1 : d.toInt ≤ 99) (p14 : w 14 = .inr (1, [.int ho, .int so, .int mi, .int ca, .int ja, .ref (ad 15), .ref (ad 16), .ref (ad 17), .ref (ad 18), .ref (ad 19), .ref (ad 20), .ref (ad 21), .ref (ad 23), .ref (ad 25)])) (p19 : w 19 = .inl (cI, 4, .inl co)) (pc : rgA 0 60 co) (p57 : w 57 = .inl (cI, 3, .inl f)) (pn : rgA 0 99 f) (hja4 : ja.toInt ≤ 4) (hca7 : ca.toInt ≤ 7) : NI l G (tyq cI cB cZ cO) yX7_fits cX7_fits 4 (some .boolean) 0 0 74 ad w [.ref (ad 55), .ref (ad 14), .int 0, .int 0] (fun r w1 => w = w1 ∧ ((True ∧ r = 1) ∨ (¬ True ∧ r = 0))) := by
  refine nk_i (own := "NoonShade$Text") rfl (by decide) (Nat.le_of_ble_eq_true rfl) ?_
  intro p e s m below meth c ls X hD hN hr hlk h hl
  have hx := X.1.1
  have hb := X.1.2.1
  have hown := X.1.2.2.2.1
  have hts := X.1.2.2.2.2
  have hl : lv_has ls 4 [(0, .ref (ad 55)), (1, .ref (ad 14)), (2, .int 0), (3, .int 0)] := hl
  refine lv_iload_n hx hb dX7_fits_0 rfl (lv_at hl 2 rfl) ?_
  refine lv_tableOut (tgt := 163) hx hb dX7_fits_1 (by decide) (by decide) ?_
  refine lv_iconst (v := 1) hx hb dX7_fits_163 (by decide) ?_
  exact e_n X h hr hlk rfl dX7_fits_164 ⟨rfl, Or.inl ⟨trivial, rfl⟩⟩

set_option maxHeartbeats 4000000 in
set_option maxRecDepth 100000 in
theorem c_F_fits10 (l : Launch) (G : va_G) (cI cB cZ cO : ClassId) (ad : Nat → Nat) (w : Nat → va_E) (z a b c0 d : Int32) (ho so mi ca ja : Int32) (co f : Nat → Int32) (ok : OK cI cB cZ cO ad w)   (pf : w 55 = .inr (5, [.ref (ad 56), .ref (ad 57), .int z, .int a, .int b, .int c0, .int d])) (hz1 : z.toInt ≤ 150) (hd0 : 0 ≤ d.toInt) (hd1 : d.toInt ≤ 99) (p14 : w 14 = .inr (1, [.int ho, .int so, .int mi, .int ca, .int ja, .ref (ad 15), .ref (ad 16), .ref (ad 17), .ref (ad 18), .ref (ad 19), .ref (ad 20), .ref (ad 21), .ref (ad 23), .ref (ad 25)])) (p19 : w 19 = .inl (cI, 4, .inl co)) (pc : rgA 0 60 co) (p57 : w 57 = .inl (cI, 3, .inl f)) (pn : rgA 0 99 f) (hja4 : ja.toInt ≤ 4) (hca7 : ca.toInt ≤ 7) : NI l G (tyq cI cB cZ cO) yX7_fits cX7_fits 4 (some .boolean) 2 43 74 ad w [.ref (ad 55), .ref (ad 14), .int 1, .int 0] (fun r w1 => w = w1 ∧ ((d.toInt < 6 ∧ r = 1) ∨ (¬ d.toInt < 6 ∧ r = 0))) := by
  refine nk_i (own := "NoonShade$Text") rfl (by decide) (Nat.le_of_ble_eq_true rfl) ?_
  intro p e s m below meth c ls X hD hN hr hlk h hl
  have hx := X.1.1
  have hb := X.1.2.1
  have hown := X.1.2.2.2.1
  have hts := X.1.2.2.2.2
  have hl : lv_has ls 4 [(0, .ref (ad 55)), (1, .ref (ad 14)), (2, .int 1), (3, .int 0)] := hl
  refine lv_iload_n hx hb dX7_fits_0 rfl (lv_at hl 2 rfl) ?_
  refine lv_tableIn (tgt := 36) (off := 35) hx hb dX7_fits_1 (by decide) (by decide) (by decide) (by decide) ?_
  refine lv_aload_n hx hb dX7_fits_36 rfl (lv_at hl 0 rfl) ?_
  refine lv_iload_n hx hb dX7_fits_37 rfl (lv_at hl 3 rfl) ?_
  refine n_Vi (na := 1) (As := [.int 0]) (rest := []) X hD hN h rfl (c_F_fitsCaster0 l G cI cB cZ cO ad w z a b c0 d pf (by omega) (by omega) (by omega)) ⟨kv_405, kv_406, kv_407, kv_388, kv_408⟩ rfl ⟨by decide, by decide, by decide⟩ ⟨Nat.le_of_ble_eq_true rfl, Nat.le_of_ble_eq_true rfl⟩ ⟨Nat.zero_le _, Nat.zero_le _⟩ (by decide) pf rfl rfl hl.1 rfl (Nat.le_of_ble_eq_true rfl) dX7_fits_38 (fun r1 w2 H locs hp3 h => ?_)
  obtain ⟨rfl, hr4⟩ := hp3
  rcases hr4 with ⟨hq5, rfl⟩ | ⟨hq5, rfl⟩
  · exact e_n X h hr hlk rfl dX7_fits_41 ⟨rfl, Or.inl ⟨by omega, rfl⟩⟩
  · exact e_n X h hr hlk rfl dX7_fits_41 ⟨rfl, Or.inr ⟨by omega, rfl⟩⟩

set_option maxHeartbeats 4000000 in
set_option maxRecDepth 100000 in
theorem c_F_fits11 (l : Launch) (G : va_G) (cI cB cZ cO : ClassId) (ad : Nat → Nat) (w : Nat → va_E) (z a b c0 d : Int32) (ho so mi ca ja : Int32) (co f : Nat → Int32) (ok : OK cI cB cZ cO ad w)   (pf : w 55 = .inr (5, [.ref (ad 56), .ref (ad 57), .int z, .int a, .int b, .int c0, .int d])) (hz1 : z.toInt ≤ 150) (hd0 : 0 ≤ d.toInt) (hd1 : d.toInt ≤ 99) (p14 : w 14 = .inr (1, [.int ho, .int so, .int mi, .int ca, .int ja, .ref (ad 15), .ref (ad 16), .ref (ad 17), .ref (ad 18), .ref (ad 19), .ref (ad 20), .ref (ad 21), .ref (ad 23), .ref (ad 25)])) (p19 : w 19 = .inl (cI, 4, .inl co)) (pc : rgA 0 60 co) (p57 : w 57 = .inl (cI, 3, .inl f)) (pn : rgA 0 99 f) (hja4 : ja.toInt ≤ 4) (hca7 : ca.toInt ≤ 7) : NI l G (tyq cI cB cZ cO) yX7_fits cX7_fits 4 (some .boolean) 2 43 74 ad w [.ref (ad 55), .ref (ad 14), .int 1, .int 1] (fun r w1 => w = w1 ∧ (((1 ≤ d.toInt ∧ d.toInt ≤ 9) ∧ r = 1) ∨ (¬ (1 ≤ d.toInt ∧ d.toInt ≤ 9) ∧ r = 0))) := by
  refine nk_i (own := "NoonShade$Text") rfl (by decide) (Nat.le_of_ble_eq_true rfl) ?_
  intro p e s m below meth c ls X hD hN hr hlk h hl
  have hx := X.1.1
  have hb := X.1.2.1
  have hown := X.1.2.2.2.1
  have hts := X.1.2.2.2.2
  have hl : lv_has ls 4 [(0, .ref (ad 55)), (1, .ref (ad 14)), (2, .int 1), (3, .int 1)] := hl
  refine lv_iload_n hx hb dX7_fits_0 rfl (lv_at hl 2 rfl) ?_
  refine lv_tableIn (tgt := 36) (off := 35) hx hb dX7_fits_1 (by decide) (by decide) (by decide) (by decide) ?_
  refine lv_aload_n hx hb dX7_fits_36 rfl (lv_at hl 0 rfl) ?_
  refine lv_iload_n hx hb dX7_fits_37 rfl (lv_at hl 3 rfl) ?_
  refine n_Vi (na := 1) (As := [.int 1]) (rest := []) X hD hN h rfl (c_F_fitsCaster1 l G cI cB cZ cO ad w z a b c0 d pf (by omega) (by omega) (by omega)) ⟨kv_405, kv_406, kv_407, kv_388, kv_408⟩ rfl ⟨by decide, by decide, by decide⟩ ⟨Nat.le_of_ble_eq_true rfl, Nat.le_of_ble_eq_true rfl⟩ ⟨Nat.zero_le _, Nat.zero_le _⟩ (by decide) pf rfl rfl hl.1 rfl (Nat.le_of_ble_eq_true rfl) dX7_fits_38 (fun r1 w2 H locs hp3 h => ?_)
  obtain ⟨rfl, hr4⟩ := hp3
  rcases hr4 with ⟨hq5, rfl⟩ | ⟨hq5, rfl⟩
  · exact e_n X h hr hlk rfl dX7_fits_41 ⟨rfl, Or.inl ⟨by omega, rfl⟩⟩
  · exact e_n X h hr hlk rfl dX7_fits_41 ⟨rfl, Or.inr ⟨by omega, rfl⟩⟩

set_option maxHeartbeats 4000000 in
set_option maxRecDepth 100000 in
theorem c_F_fits12 (l : Launch) (G : va_G) (cI cB cZ cO : ClassId) (ad : Nat → Nat) (w : Nat → va_E) (z a b c0 d : Int32) (ho so mi ca ja : Int32) (co f : Nat → Int32) (ok : OK cI cB cZ cO ad w)   (pf : w 55 = .inr (5, [.ref (ad 56), .ref (ad 57), .int z, .int a, .int b, .int c0, .int d])) (hz1 : z.toInt ≤ 150) (hd0 : 0 ≤ d.toInt) (hd1 : d.toInt ≤ 99) (p14 : w 14 = .inr (1, [.int ho, .int so, .int mi, .int ca, .int ja, .ref (ad 15), .ref (ad 16), .ref (ad 17), .ref (ad 18), .ref (ad 19), .ref (ad 20), .ref (ad 21), .ref (ad 23), .ref (ad 25)])) (p19 : w 19 = .inl (cI, 4, .inl co)) (pc : rgA 0 60 co) (p57 : w 57 = .inl (cI, 3, .inl f)) (pn : rgA 0 99 f) (hja4 : ja.toInt ≤ 4) (hca7 : ca.toInt ≤ 7) : NI l G (tyq cI cB cZ cO) yX7_fits cX7_fits 4 (some .boolean) 2 43 74 ad w [.ref (ad 55), .ref (ad 14), .int 1, .int 2] (fun r w1 => w = w1 ∧ ((d.toInt < 4 ∧ r = 1) ∨ (¬ d.toInt < 4 ∧ r = 0))) := by
  refine nk_i (own := "NoonShade$Text") rfl (by decide) (Nat.le_of_ble_eq_true rfl) ?_
  intro p e s m below meth c ls X hD hN hr hlk h hl
  have hx := X.1.1
  have hb := X.1.2.1
  have hown := X.1.2.2.2.1
  have hts := X.1.2.2.2.2
  have hl : lv_has ls 4 [(0, .ref (ad 55)), (1, .ref (ad 14)), (2, .int 1), (3, .int 2)] := hl
  refine lv_iload_n hx hb dX7_fits_0 rfl (lv_at hl 2 rfl) ?_
  refine lv_tableIn (tgt := 36) (off := 35) hx hb dX7_fits_1 (by decide) (by decide) (by decide) (by decide) ?_
  refine lv_aload_n hx hb dX7_fits_36 rfl (lv_at hl 0 rfl) ?_
  refine lv_iload_n hx hb dX7_fits_37 rfl (lv_at hl 3 rfl) ?_
  refine n_Vi (na := 1) (As := [.int 2]) (rest := []) X hD hN h rfl (c_F_fitsCaster2 l G cI cB cZ cO ad w z a b c0 d pf (by omega) (by omega) (by omega)) ⟨kv_405, kv_406, kv_407, kv_388, kv_408⟩ rfl ⟨by decide, by decide, by decide⟩ ⟨Nat.le_of_ble_eq_true rfl, Nat.le_of_ble_eq_true rfl⟩ ⟨Nat.zero_le _, Nat.zero_le _⟩ (by decide) pf rfl rfl hl.1 rfl (Nat.le_of_ble_eq_true rfl) dX7_fits_38 (fun r1 w2 H locs hp3 h => ?_)
  obtain ⟨rfl, hr4⟩ := hp3
  rcases hr4 with ⟨hq5, rfl⟩ | ⟨hq5, rfl⟩
  · exact e_n X h hr hlk rfl dX7_fits_41 ⟨rfl, Or.inl ⟨by omega, rfl⟩⟩
  · exact e_n X h hr hlk rfl dX7_fits_41 ⟨rfl, Or.inr ⟨by omega, rfl⟩⟩

set_option maxHeartbeats 4000000 in
set_option maxRecDepth 100000 in
theorem c_F_fits20 (l : Launch) (G : va_G) (cI cB cZ cO : ClassId) (ad : Nat → Nat) (w : Nat → va_E) (z a b c0 d : Int32) (ho so mi ca ja : Int32) (co f : Nat → Int32) (ok : OK cI cB cZ cO ad w)   (pf : w 55 = .inr (5, [.ref (ad 56), .ref (ad 57), .int z, .int a, .int b, .int c0, .int d])) (hz1 : z.toInt ≤ 150) (hd0 : 0 ≤ d.toInt) (hd1 : d.toInt ≤ 99) (p14 : w 14 = .inr (1, [.int ho, .int so, .int mi, .int ca, .int ja, .ref (ad 15), .ref (ad 16), .ref (ad 17), .ref (ad 18), .ref (ad 19), .ref (ad 20), .ref (ad 21), .ref (ad 23), .ref (ad 25)])) (p19 : w 19 = .inl (cI, 4, .inl co)) (pc : rgA 0 60 co) (p57 : w 57 = .inl (cI, 3, .inl f)) (pn : rgA 0 99 f) (hja4 : ja.toInt ≤ 4) (hca7 : ca.toInt ≤ 7) : NI l G (tyq cI cB cZ cO) yX7_fits cX7_fits 4 (some .boolean) 0 0 74 ad w [.ref (ad 55), .ref (ad 14), .int 2, .int 0] (fun r w1 => w = w1 ∧ ((d.toInt < 6 ∧ r = 1) ∨ (¬ d.toInt < 6 ∧ r = 0))) := by
  refine nk_i (own := "NoonShade$Text") rfl (by decide) (Nat.le_of_ble_eq_true rfl) ?_
  intro p e s m below meth c ls X hD hN hr hlk h hl
  have hx := X.1.1
  have hb := X.1.2.1
  have hown := X.1.2.2.2.1
  have hts := X.1.2.2.2.2
  have hl : lv_has ls 4 [(0, .ref (ad 55)), (1, .ref (ad 14)), (2, .int 2), (3, .int 0)] := hl
  refine lv_iload_n hx hb dX7_fits_0 rfl (lv_at hl 2 rfl) ?_
  refine lv_tableIn (tgt := 42) (off := 41) hx hb dX7_fits_1 (by decide) (by decide) (by decide) (by decide) ?_
  refine lv_aload_n hx hb dX7_fits_42 rfl (lv_at hl 0 rfl) ?_
  refine r_get kc7 X h 55 6 (by decide) rfl pf (by decide) kv_390 rfl dX7_fits_43 ?_
  refine lv_bipush (v := 6) hx hb dX7_fits_46 (by decide) ?_
  refine lv_icmp_ge (tgt := 55) hx hb dX7_fits_48 (by decide) (fun hc1 => ?_) (fun hc1 => ?_)
  · have hc1 : 6 ≤ (d).toInt := i_le hc1 rfl rfl
    refine lv_iconst (v := 0) hx hb dX7_fits_55 (by decide) ?_
    exact e_n X h hr hlk rfl dX7_fits_56 ⟨rfl, Or.inr ⟨by omega, rfl⟩⟩
  · have hc1 : ¬ 6 ≤ (d).toInt := i_nle hc1 rfl rfl
    refine lv_iconst (v := 1) hx hb dX7_fits_51 (by decide) ?_
    refine lv_goto (tgt := 56) hx hb dX7_fits_52 (by decide) ?_
    exact e_n X h hr hlk rfl dX7_fits_56 ⟨rfl, Or.inl ⟨by omega, rfl⟩⟩

set_option maxHeartbeats 4000000 in
set_option maxRecDepth 100000 in
theorem c_F_fits30 (l : Launch) (G : va_G) (cI cB cZ cO : ClassId) (ad : Nat → Nat) (w : Nat → va_E) (z a b c0 d : Int32) (ho so mi ca ja : Int32) (co f : Nat → Int32) (ok : OK cI cB cZ cO ad w)   (pf : w 55 = .inr (5, [.ref (ad 56), .ref (ad 57), .int z, .int a, .int b, .int c0, .int d])) (hz1 : z.toInt ≤ 150) (hd0 : 0 ≤ d.toInt) (hd1 : d.toInt ≤ 99) (p14 : w 14 = .inr (1, [.int ho, .int so, .int mi, .int ca, .int ja, .ref (ad 15), .ref (ad 16), .ref (ad 17), .ref (ad 18), .ref (ad 19), .ref (ad 20), .ref (ad 21), .ref (ad 23), .ref (ad 25)])) (p19 : w 19 = .inl (cI, 4, .inl co)) (pc : rgA 0 60 co) (p57 : w 57 = .inl (cI, 3, .inl f)) (pn : rgA 0 99 f) (hja4 : ja.toInt ≤ 4) (hca7 : ca.toInt ≤ 7) : NI l G (tyq cI cB cZ cO) yX7_fits cX7_fits 4 (some .boolean) 1 21 74 ad w [.ref (ad 55), .ref (ad 14), .int 3, .int 0] (fun r w1 => w = w1 ∧ (((d.toInt < ca.toInt ∧ bitF mi d = 0) ∧ r = 1) ∨ (¬ (d.toInt < ca.toInt ∧ bitF mi d = 0) ∧ r = 0))) := by
  refine nk_i (own := "NoonShade$Text") rfl (by decide) (Nat.le_of_ble_eq_true rfl) ?_
  intro p e s m below meth c ls X hD hN hr hlk h hl
  have hx := X.1.1
  have hb := X.1.2.1
  have hown := X.1.2.2.2.1
  have hts := X.1.2.2.2.2
  have hl : lv_has ls 4 [(0, .ref (ad 55)), (1, .ref (ad 14)), (2, .int 3), (3, .int 0)] := hl
  refine lv_iload_n hx hb dX7_fits_0 rfl (lv_at hl 2 rfl) ?_
  refine lv_tableIn (tgt := 57) (off := 56) hx hb dX7_fits_1 (by decide) (by decide) (by decide) (by decide) ?_
  refine lv_iload_n hx hb dX7_fits_57 rfl (lv_at hl 3 rfl) ?_
  refine lv_if_ne (tgt := 91) hx hb dX7_fits_58 (by decide) (fun hc => absurd (by decide) hc) (fun _ => ?_)
  refine lv_aload_n hx hb dX7_fits_61 rfl (lv_at hl 1 rfl) ?_
  refine lv_aload_n hx hb dX7_fits_62 rfl (lv_at hl 0 rfl) ?_
  refine r_get kc7 X h 55 6 (by decide) rfl pf (by decide) kv_390 rfl dX7_fits_63 ?_
  refine n_Vi (na := 1) (As := [.int d]) (rest := []) X hD hN h rfl (c_F_hasCaster l G cI cB cZ cO ad w ho so mi ca ja  d  p14) ⟨kv_409, kv_220, kv_221, kv_37, kv_222⟩ rfl ⟨by decide, by decide, by decide⟩ ⟨Nat.le_of_ble_eq_true rfl, Nat.le_of_ble_eq_true rfl⟩ ⟨Nat.zero_le _, Nat.zero_le _⟩ (by decide) p14 rfl rfl hl.1 rfl (Nat.le_of_ble_eq_true rfl) dX7_fits_66 (fun r1 w2 H locs hp3 h => ?_)
  obtain ⟨rfl, hr4⟩ := hp3
  rcases hr4 with ⟨hq5, hq6, rfl⟩ | ⟨hq7, rfl⟩
  · refine lv_if_eq (tgt := 87) hx hb dX7_fits_69 (by decide) (fun hc => absurd hc (by decide)) (fun _ => ?_)
    refine lv_aload_n hx hb dX7_fits_72 rfl (lv_at hl 1 rfl) ?_
    refine lv_aload_n hx hb dX7_fits_73 rfl (lv_at hl 0 rfl) ?_
    refine r_get kc7 X h 55 6 (by decide) rfl pf (by decide) kv_390 rfl dX7_fits_74 ?_
    refine n_Vi (na := 1) (As := [.int d]) (rest := []) X hD hN h rfl (c_F_isMilked l G cI cB cZ cO ad w ho so mi ca ja  d  p14) ⟨kv_410, kv_35, kv_36, kv_37, kv_38⟩ rfl ⟨by decide, by decide, by decide⟩ ⟨Nat.le_of_ble_eq_true rfl, Nat.le_of_ble_eq_true rfl⟩ ⟨Nat.zero_le _, Nat.zero_le _⟩ (by decide) p14 rfl rfl hl.1 rfl (Nat.le_of_ble_eq_true rfl) dX7_fits_77 (fun r8 w9 H locs hp10 h => ?_)
    obtain ⟨rfl, hr11⟩ := hp10
    rcases hr11 with ⟨hq12, rfl⟩ | ⟨hq13, rfl⟩
    · refine lv_if_ne (tgt := 87) hx hb dX7_fits_80 (by decide) (fun _ => ?_) (fun hc => absurd hc (by decide))
      refine lv_iconst (v := 0) hx hb dX7_fits_87 (by decide) ?_
      refine lv_goto (tgt := 99) hx hb dX7_fits_88 (by decide) ?_
      exact e_n X h hr hlk rfl dX7_fits_99 ⟨rfl, Or.inr ⟨fun q9 => by have q1 := q9.1; have q2 := q9.2; omega, rfl⟩⟩
    · refine lv_if_ne (tgt := 87) hx hb dX7_fits_80 (by decide) (fun hc => absurd (by decide) hc) (fun _ => ?_)
      refine lv_iconst (v := 1) hx hb dX7_fits_83 (by decide) ?_
      refine lv_goto (tgt := 99) hx hb dX7_fits_84 (by decide) ?_
      exact e_n X h hr hlk rfl dX7_fits_99 ⟨rfl, Or.inl ⟨⟨by omega, by omega⟩, rfl⟩⟩
  · refine lv_if_eq (tgt := 87) hx hb dX7_fits_69 (by decide) (fun _ => ?_) (fun hc => absurd (by decide) hc)
    refine lv_iconst (v := 0) hx hb dX7_fits_87 (by decide) ?_
    refine lv_goto (tgt := 99) hx hb dX7_fits_88 (by decide) ?_
    exact e_n X h hr hlk rfl dX7_fits_99 ⟨rfl, Or.inr ⟨fun q9 => by have q1 := q9.1; have q2 := q9.2; omega, rfl⟩⟩

set_option maxHeartbeats 4000000 in
set_option maxRecDepth 100000 in
theorem c_F_fits31 (l : Launch) (G : va_G) (cI cB cZ cO : ClassId) (ad : Nat → Nat) (w : Nat → va_E) (z a b c0 d : Int32) (ho so mi ca ja : Int32) (co f : Nat → Int32) (ok : OK cI cB cZ cO ad w)   (pf : w 55 = .inr (5, [.ref (ad 56), .ref (ad 57), .int z, .int a, .int b, .int c0, .int d])) (hz1 : z.toInt ≤ 150) (hd0 : 0 ≤ d.toInt) (hd1 : d.toInt ≤ 99) (p14 : w 14 = .inr (1, [.int ho, .int so, .int mi, .int ca, .int ja, .ref (ad 15), .ref (ad 16), .ref (ad 17), .ref (ad 18), .ref (ad 19), .ref (ad 20), .ref (ad 21), .ref (ad 23), .ref (ad 25)])) (p19 : w 19 = .inl (cI, 4, .inl co)) (pc : rgA 0 60 co) (p57 : w 57 = .inl (cI, 3, .inl f)) (pn : rgA 0 99 f) (hja4 : ja.toInt ≤ 4) (hca7 : ca.toInt ≤ 7) : NI l G (tyq cI cB cZ cO) yX7_fits cX7_fits 4 (some .boolean) 1 21 74 ad w [.ref (ad 55), .ref (ad 14), .int 3, .int 1] (fun r w1 => w = w1 ∧ ((d.toInt < ja.toInt ∧ r = 1) ∨ (¬ d.toInt < ja.toInt ∧ r = 0))) := by
  refine nk_i (own := "NoonShade$Text") rfl (by decide) (Nat.le_of_ble_eq_true rfl) ?_
  intro p e s m below meth c ls X hD hN hr hlk h hl
  have hx := X.1.1
  have hb := X.1.2.1
  have hown := X.1.2.2.2.1
  have hts := X.1.2.2.2.2
  have hl : lv_has ls 4 [(0, .ref (ad 55)), (1, .ref (ad 14)), (2, .int 3), (3, .int 1)] := hl
  refine lv_iload_n hx hb dX7_fits_0 rfl (lv_at hl 2 rfl) ?_
  refine lv_tableIn (tgt := 57) (off := 56) hx hb dX7_fits_1 (by decide) (by decide) (by decide) (by decide) ?_
  refine lv_iload_n hx hb dX7_fits_57 rfl (lv_at hl 3 rfl) ?_
  refine lv_if_ne (tgt := 91) hx hb dX7_fits_58 (by decide) (fun _ => ?_) (fun hc => absurd hc (by decide))
  refine lv_aload_n hx hb dX7_fits_91 rfl (lv_at hl 1 rfl) ?_
  refine lv_aload_n hx hb dX7_fits_92 rfl (lv_at hl 0 rfl) ?_
  refine r_get kc7 X h 55 6 (by decide) rfl pf (by decide) kv_390 rfl dX7_fits_93 ?_
  refine n_Vi (na := 1) (As := [.int d]) (rest := []) X hD hN h rfl (c_F_hasJar l G cI cB cZ cO ad w ho so mi ca ja  d  p14) ⟨kv_411, kv_224, kv_225, kv_37, kv_226⟩ rfl ⟨by decide, by decide, by decide⟩ ⟨Nat.le_of_ble_eq_true rfl, Nat.le_of_ble_eq_true rfl⟩ ⟨Nat.zero_le _, Nat.zero_le _⟩ (by decide) p14 rfl rfl hl.1 rfl (Nat.le_of_ble_eq_true rfl) dX7_fits_96 (fun r1 w2 H locs hp3 h => ?_)
  obtain ⟨rfl, hr4⟩ := hp3
  rcases hr4 with ⟨hq5, hq6, rfl⟩ | ⟨hq7, rfl⟩
  · exact e_n X h hr hlk rfl dX7_fits_99 ⟨rfl, Or.inl ⟨by omega, rfl⟩⟩
  · exact e_n X h hr hlk rfl dX7_fits_99 ⟨rfl, Or.inr ⟨by omega, rfl⟩⟩

set_option maxHeartbeats 4000000 in
set_option maxRecDepth 100000 in
theorem c_F_fits40 (l : Launch) (G : va_G) (cI cB cZ cO : ClassId) (ad : Nat → Nat) (w : Nat → va_E) (z a b c0 d : Int32) (ho so mi ca ja : Int32) (co f : Nat → Int32) (ok : OK cI cB cZ cO ad w)   (pf : w 55 = .inr (5, [.ref (ad 56), .ref (ad 57), .int z, .int a, .int b, .int c0, .int d])) (hz1 : z.toInt ≤ 150) (hd0 : 0 ≤ d.toInt) (hd1 : d.toInt ≤ 99) (p14 : w 14 = .inr (1, [.int ho, .int so, .int mi, .int ca, .int ja, .ref (ad 15), .ref (ad 16), .ref (ad 17), .ref (ad 18), .ref (ad 19), .ref (ad 20), .ref (ad 21), .ref (ad 23), .ref (ad 25)])) (p19 : w 19 = .inl (cI, 4, .inl co)) (pc : rgA 0 60 co) (p57 : w 57 = .inl (cI, 3, .inl f)) (pn : rgA 0 99 f) (hja4 : ja.toInt ≤ 4) (hca7 : ca.toInt ≤ 7) : NI l G (tyq cI cB cZ cO) yX7_fits cX7_fits 4 (some .boolean) 1 21 74 ad w [.ref (ad 55), .ref (ad 14), .int 4, .int 0] (fun r w1 => w = w1 ∧ (((d.toInt < ja.toInt ∧ 0 < (co d.toNatClampNeg).toInt) ∧ r = 1) ∨ (¬ (d.toInt < ja.toInt ∧ 0 < (co d.toNatClampNeg).toInt) ∧ r = 0))) := by
  refine nk_i (own := "NoonShade$Text") rfl (by decide) (Nat.le_of_ble_eq_true rfl) ?_
  intro p e s m below meth c ls X hD hN hr hlk h hl
  have hx := X.1.1
  have hb := X.1.2.1
  have hown := X.1.2.2.2.1
  have hts := X.1.2.2.2.2
  have hl : lv_has ls 4 [(0, .ref (ad 55)), (1, .ref (ad 14)), (2, .int 4), (3, .int 0)] := hl
  refine lv_iload_n hx hb dX7_fits_0 rfl (lv_at hl 2 rfl) ?_
  refine lv_tableIn (tgt := 100) (off := 99) hx hb dX7_fits_1 (by decide) (by decide) (by decide) (by decide) ?_
  refine lv_aload_n hx hb dX7_fits_100 rfl (lv_at hl 1 rfl) ?_
  refine lv_aload_n hx hb dX7_fits_101 rfl (lv_at hl 0 rfl) ?_
  refine r_get kc7 X h 55 6 (by decide) rfl pf (by decide) kv_390 rfl dX7_fits_102 ?_
  refine n_Vi (na := 1) (As := [.int d]) (rest := []) X hD hN h rfl (c_F_hasJar l G cI cB cZ cO ad w ho so mi ca ja  d  p14) ⟨kv_411, kv_224, kv_225, kv_37, kv_226⟩ rfl ⟨by decide, by decide, by decide⟩ ⟨Nat.le_of_ble_eq_true rfl, Nat.le_of_ble_eq_true rfl⟩ ⟨Nat.zero_le _, Nat.zero_le _⟩ (by decide) p14 rfl rfl hl.1 rfl (Nat.le_of_ble_eq_true rfl) dX7_fits_105 (fun r1 w2 H locs hp3 h => ?_)
  obtain ⟨rfl, hr4⟩ := hp3
  rcases hr4 with ⟨hq5, hq6, rfl⟩ | ⟨hq7, rfl⟩
  · refine lv_if_eq (tgt := 147) hx hb dX7_fits_108 (by decide) (fun hc => absurd hc (by decide)) (fun _ => ?_)
    refine lv_iload_n hx hb dX7_fits_111 rfl (lv_at hl 3 rfl) ?_
    refine lv_if_ne (tgt := 130) hx hb dX7_fits_112 (by decide) (fun hc => absurd (by decide) hc) (fun _ => ?_)
    refine lv_aload_n hx hb dX7_fits_115 rfl (lv_at hl 1 rfl) ?_
    refine r_get kc2 X h 14 9 (by decide) rfl p14 (by decide) kv_412 rfl dX7_fits_116 ?_
    refine lv_aload_n hx hb dX7_fits_119 rfl (lv_at hl 0 rfl) ?_
    refine r_get kc7 X h 55 6 (by decide) rfl pf (by decide) kv_390 rfl dX7_fits_120 ?_
    obtain ⟨v8, e9⟩ : ∃ z : Int32, co d.toNatClampNeg = z := ⟨_, rfl⟩
    have h10 := rgA_rd pc e9
    refine o_iald (v := v8) X h 19 0 (by decide) rfl p19 rfl (in_of (by omega) (by omega)) e9 dX7_fits_123 ?_
    refine lv_if_le (tgt := 147) hx hb dX7_fits_124 (by decide) (fun hc11 => ?_) (fun hc11 => ?_)
    · have hc11 : (v8).toInt ≤ 0 := i_le hc11 rfl rfl
      refine lv_iconst (v := 0) hx hb dX7_fits_147 (by decide) ?_
      exact e_n X h hr hlk rfl dX7_fits_148 ⟨rfl, Or.inr ⟨fun q9 => by have q1 := q9.1; have q2 := q9.2; rw [e9] at q2; omega, rfl⟩⟩
    · have hc11 : ¬ (v8).toInt ≤ 0 := i_nle hc11 rfl rfl
      refine lv_goto (tgt := 143) hx hb dX7_fits_127 (by decide) ?_
      refine lv_iconst (v := 1) hx hb dX7_fits_143 (by decide) ?_
      refine lv_goto (tgt := 148) hx hb dX7_fits_144 (by decide) ?_
      exact e_n X h hr hlk rfl dX7_fits_148 ⟨rfl, Or.inl ⟨⟨by omega, by rw [e9]; omega⟩, rfl⟩⟩
  · refine lv_if_eq (tgt := 147) hx hb dX7_fits_108 (by decide) (fun _ => ?_) (fun hc => absurd (by decide) hc)
    refine lv_iconst (v := 0) hx hb dX7_fits_147 (by decide) ?_
    exact e_n X h hr hlk rfl dX7_fits_148 ⟨rfl, Or.inr ⟨fun q9 => by have q1 := q9.1; have q2 := q9.2; omega, rfl⟩⟩

set_option maxHeartbeats 4000000 in
set_option maxRecDepth 100000 in
theorem c_F_fits41 (l : Launch) (G : va_G) (cI cB cZ cO : ClassId) (ad : Nat → Nat) (w : Nat → va_E) (z a b c0 d : Int32) (ho so mi ca ja : Int32) (co f : Nat → Int32) (ok : OK cI cB cZ cO ad w)   (pf : w 55 = .inr (5, [.ref (ad 56), .ref (ad 57), .int z, .int a, .int b, .int c0, .int d])) (hz1 : z.toInt ≤ 150) (hd0 : 0 ≤ d.toInt) (hd1 : d.toInt ≤ 99) (p14 : w 14 = .inr (1, [.int ho, .int so, .int mi, .int ca, .int ja, .ref (ad 15), .ref (ad 16), .ref (ad 17), .ref (ad 18), .ref (ad 19), .ref (ad 20), .ref (ad 21), .ref (ad 23), .ref (ad 25)])) (p19 : w 19 = .inl (cI, 4, .inl co)) (pc : rgA 0 60 co) (p57 : w 57 = .inl (cI, 3, .inl f)) (pn : rgA 0 99 f) (hja4 : ja.toInt ≤ 4) (hca7 : ca.toInt ≤ 7) : NI l G (tyq cI cB cZ cO) yX7_fits cX7_fits 4 (some .boolean) 1 21 74 ad w [.ref (ad 55), .ref (ad 14), .int 4, .int 1] (fun r w1 => w = w1 ∧ (((d.toInt < ja.toInt ∧ ¬ d.toInt = (f 0).toInt) ∧ r = 1) ∨ (¬ (d.toInt < ja.toInt ∧ ¬ d.toInt = (f 0).toInt) ∧ r = 0))) := by
  refine nk_i (own := "NoonShade$Text") rfl (by decide) (Nat.le_of_ble_eq_true rfl) ?_
  intro p e s m below meth c ls X hD hN hr hlk h hl
  have hx := X.1.1
  have hb := X.1.2.1
  have hown := X.1.2.2.2.1
  have hts := X.1.2.2.2.2
  have hl : lv_has ls 4 [(0, .ref (ad 55)), (1, .ref (ad 14)), (2, .int 4), (3, .int 1)] := hl
  refine lv_iload_n hx hb dX7_fits_0 rfl (lv_at hl 2 rfl) ?_
  refine lv_tableIn (tgt := 100) (off := 99) hx hb dX7_fits_1 (by decide) (by decide) (by decide) (by decide) ?_
  refine lv_aload_n hx hb dX7_fits_100 rfl (lv_at hl 1 rfl) ?_
  refine lv_aload_n hx hb dX7_fits_101 rfl (lv_at hl 0 rfl) ?_
  refine r_get kc7 X h 55 6 (by decide) rfl pf (by decide) kv_390 rfl dX7_fits_102 ?_
  refine n_Vi (na := 1) (As := [.int d]) (rest := []) X hD hN h rfl (c_F_hasJar l G cI cB cZ cO ad w ho so mi ca ja  d  p14) ⟨kv_411, kv_224, kv_225, kv_37, kv_226⟩ rfl ⟨by decide, by decide, by decide⟩ ⟨Nat.le_of_ble_eq_true rfl, Nat.le_of_ble_eq_true rfl⟩ ⟨Nat.zero_le _, Nat.zero_le _⟩ (by decide) p14 rfl rfl hl.1 rfl (Nat.le_of_ble_eq_true rfl) dX7_fits_105 (fun r1 w2 H locs hp3 h => ?_)
  obtain ⟨rfl, hr4⟩ := hp3
  rcases hr4 with ⟨hq5, hq6, rfl⟩ | ⟨hq7, rfl⟩
  · refine lv_if_eq (tgt := 147) hx hb dX7_fits_108 (by decide) (fun hc => absurd hc (by decide)) (fun _ => ?_)
    refine lv_iload_n hx hb dX7_fits_111 rfl (lv_at hl 3 rfl) ?_
    refine lv_if_ne (tgt := 130) hx hb dX7_fits_112 (by decide) (fun _ => ?_) (fun hc => absurd hc (by decide))
    refine lv_aload_n hx hb dX7_fits_130 rfl (lv_at hl 0 rfl) ?_
    refine r_get kc7 X h 55 6 (by decide) rfl pf (by decide) kv_390 rfl dX7_fits_131 ?_
    refine lv_aload_n hx hb dX7_fits_134 rfl (lv_at hl 0 rfl) ?_
    refine r_get kc7 X h 55 1 (by decide) rfl pf (by decide) kv_413 rfl dX7_fits_135 ?_
    refine lv_iconst (v := 0) hx hb dX7_fits_138 (by decide) ?_
    obtain ⟨v8, e9⟩ : ∃ z : Int32, f 0 = z := ⟨_, rfl⟩
    have h10 := rgA_rd pn e9
    refine o_iald (v := v8) X h 57 0 (by decide) rfl p57 rfl (by unfold vp_in; decide) e9 dX7_fits_139 ?_
    refine lv_icmp_eq (tgt := 147) hx hb dX7_fits_140 (by decide) (fun hc11 => ?_) (fun hc11 => ?_)
    · have hc11 : (d).toInt = (v8).toInt := i_eq hc11 rfl rfl
      refine lv_iconst (v := 0) hx hb dX7_fits_147 (by decide) ?_
      exact e_n X h hr hlk rfl dX7_fits_148 ⟨rfl, Or.inr ⟨fun q9 => by have q1 := q9.1; have q2 := q9.2; rw [e9] at q2; omega, rfl⟩⟩
    · have hc11 : ¬ (d).toInt = (v8).toInt := i_ne hc11 rfl rfl
      refine lv_iconst (v := 1) hx hb dX7_fits_143 (by decide) ?_
      refine lv_goto (tgt := 148) hx hb dX7_fits_144 (by decide) ?_
      exact e_n X h hr hlk rfl dX7_fits_148 ⟨rfl, Or.inl ⟨⟨by omega, by rw [e9]; omega⟩, rfl⟩⟩
  · refine lv_if_eq (tgt := 147) hx hb dX7_fits_108 (by decide) (fun _ => ?_) (fun hc => absurd (by decide) hc)
    refine lv_iconst (v := 0) hx hb dX7_fits_147 (by decide) ?_
    exact e_n X h hr hlk rfl dX7_fits_148 ⟨rfl, Or.inr ⟨fun q9 => by have q1 := q9.1; have q2 := q9.2; omega, rfl⟩⟩

set_option maxHeartbeats 4000000 in
set_option maxRecDepth 100000 in
theorem c_F_fits50 (l : Launch) (G : va_G) (cI cB cZ cO : ClassId) (ad : Nat → Nat) (w : Nat → va_E) (z a b c0 d : Int32) (ho so mi ca ja : Int32) (co f : Nat → Int32) (ok : OK cI cB cZ cO ad w)   (pf : w 55 = .inr (5, [.ref (ad 56), .ref (ad 57), .int z, .int a, .int b, .int c0, .int d])) (hz1 : z.toInt ≤ 150) (hd0 : 0 ≤ d.toInt) (hd1 : d.toInt ≤ 99) (p14 : w 14 = .inr (1, [.int ho, .int so, .int mi, .int ca, .int ja, .ref (ad 15), .ref (ad 16), .ref (ad 17), .ref (ad 18), .ref (ad 19), .ref (ad 20), .ref (ad 21), .ref (ad 23), .ref (ad 25)])) (p19 : w 19 = .inl (cI, 4, .inl co)) (pc : rgA 0 60 co) (p57 : w 57 = .inl (cI, 3, .inl f)) (pn : rgA 0 99 f) (hja4 : ja.toInt ≤ 4) (hca7 : ca.toInt ≤ 7) : NI l G (tyq cI cB cZ cO) yX7_fits cX7_fits 4 (some .boolean) 0 0 74 ad w [.ref (ad 55), .ref (ad 14), .int 5, .int 0] (fun r w1 => w = w1 ∧ ((1 ≤ d.toInt ∧ r = 1) ∨ (¬ 1 ≤ d.toInt ∧ r = 0))) := by
  refine nk_i (own := "NoonShade$Text") rfl (by decide) (Nat.le_of_ble_eq_true rfl) ?_
  intro p e s m below meth c ls X hD hN hr hlk h hl
  have hx := X.1.1
  have hb := X.1.2.1
  have hown := X.1.2.2.2.1
  have hts := X.1.2.2.2.2
  have hl : lv_has ls 4 [(0, .ref (ad 55)), (1, .ref (ad 14)), (2, .int 5), (3, .int 0)] := hl
  refine lv_iload_n hx hb dX7_fits_0 rfl (lv_at hl 2 rfl) ?_
  refine lv_tableIn (tgt := 149) (off := 148) hx hb dX7_fits_1 (by decide) (by decide) (by decide) (by decide) ?_
  refine lv_aload_n hx hb dX7_fits_149 rfl (lv_at hl 0 rfl) ?_
  refine r_get kc7 X h 55 6 (by decide) rfl pf (by decide) kv_390 rfl dX7_fits_150 ?_
  refine lv_iconst (v := 1) hx hb dX7_fits_153 (by decide) ?_
  refine lv_icmp_lt (tgt := 161) hx hb dX7_fits_154 (by decide) (fun hc1 => ?_) (fun hc1 => ?_)
  · have hc1 : (d).toInt < 1 := i_lt hc1 rfl rfl
    refine lv_iconst (v := 0) hx hb dX7_fits_161 (by decide) ?_
    exact e_n X h hr hlk rfl dX7_fits_162 ⟨rfl, Or.inr ⟨by omega, rfl⟩⟩
  · have hc1 : ¬ (d).toInt < 1 := i_nlt hc1 rfl rfl
    refine lv_iconst (v := 1) hx hb dX7_fits_157 (by decide) ?_
    refine lv_goto (tgt := 162) hx hb dX7_fits_158 (by decide) ?_
    exact e_n X h hr hlk rfl dX7_fits_162 ⟨rfl, Or.inl ⟨by omega, rfl⟩⟩

set_option maxHeartbeats 4000000 in
set_option maxRecDepth 100000 in
theorem c_F_takeNumbers0 (l : Launch) (G : va_G) (cI cB cZ cO : ClassId) (ad : Nat → Nat) (w : Nat → va_E) (z a b c0 d : Int32) (bs f : Nat → Int32) (Gh : Nat → Int32) (ok : OK cI cB cZ cO ad w)   (pf : w 55 = .inr (5, [.ref (ad 56), .ref (ad 57), .int z, .int a, .int b, .int c0, .int d])) (hz1 : z.toInt ≤ 150) (p56 : w 56 = .inl (cB, 150, .inl bs)) (hb0 : 0 ≤ b.toInt) (hbz : b.toInt ≤ z.toInt) (hd0 : 0 ≤ d.toInt) (hd1 : d.toInt ≤ 99) (p57 : w 57 = .inl (cI, 3, .inl f)) (pn : rgA 0 99 f) (hR : RG cI ad w Gh) : NI l G (tyq cI cB cZ cO) yX7_takeNumbers cX7_takeNumbers 5 (some .boolean) 3 66 74 ad w [.ref (ad 55), .ref (ad 14), .int 0] (fun r w1 => OK cI cB cZ cO ad w1 ∧ F57 w w1 ∧ (∃ a1 b1 c1 d1 : Int32, w1 55 = .inr (5, [.ref (ad 56), .ref (ad 57), .int z, .int a1, .int b1, .int c1, .int d1]) ∧ 0 ≤ a1.toInt ∧ a1.toInt ≤ b1.toInt ∧ b1.toInt ≤ z.toInt ∧ ((∃ f1 : Nat → Int32, w1 57 = .inl (cI, 3, .inl f1) ∧ (True) ∧ it0 bs z.toNatClampNeg b.toNatClampNeg Gh = .inr (b1.toNatClampNeg, begF (f1 0))) ∧ r = 1 ∨ it0 bs z.toNatClampNeg b.toNatClampNeg Gh = .inl a1.toNatClampNeg ∧ r = 0)) ∧ RG cI ad w1 Gh) := by
  refine nk_i (own := "NoonShade$Text") rfl (by decide) (Nat.le_of_ble_eq_true rfl) ?_
  intro p e s m below meth c ls X hD hN hr hlk h hl
  have hx := X.1.1
  have hb := X.1.2.1
  have hown := X.1.2.2.2.1
  have hts := X.1.2.2.2.2
  have hl : lv_has ls 5 [(0, .ref (ad 55)), (1, .ref (ad 14)), (2, .int 0)] := hl
  obtain ⟨so1, ho2, mi3, ca4, ja5, ck6, hh7, jk8, co9, p10, p11, p12, p13, p14, p15, p16, hG17⟩ := id hR
  have p10 : w 14 = .inr (1, [.int ho2, .int so1, .int mi3, .int ca4, .int ja5, .ref (ad 15), .ref (ad 16), .ref (ad 17), .ref (ad 18), .ref (ad 19), .ref (ad 20), .ref (ad 21), .ref (ad 23), .ref (ad 25)]) := p10
  obtain ⟨hG18, hG19, hG20, hG21, hG22, hG23, hG24, hG25, hG26, hG27, hG28⟩ := id hG17
  have p29 : rgA 0 9 hh7 := sA_pred (show sA cI 7 (rgA 0 9) (w 16) from ok 16 (by decide)) p12
  have p30 : rgA 0 60 co9 := sA_pred (show sA cI 4 (rgA 0 60) (w 19) from ok 19 (by decide)) p14
  have n0_ := congrArg Int32.toInt hG20
  have n1_ := congrArg Int32.toInt hG21
  have n7_ := congrArg Int32.toInt hG19
  refine lv_iload_n hx hb dX7_takeNumbers_0 rfl (lv_at hl 2 rfl) ?_
  refine n_Si (na := 1) (As := [.int 0]) (rest := []) X hD hN h (c_numbersOf0 l G cI cB cZ cO ad w) ⟨kv_414, kv_415, kv_388, kv_416⟩ ⟨by decide, by decide, by decide⟩ ⟨Nat.le_of_ble_eq_true rfl, Nat.le_of_ble_eq_true rfl⟩ ⟨Nat.zero_le _, Nat.zero_le _⟩ rfl hl.1 rfl (Nat.le_of_ble_eq_true rfl) dX7_takeNumbers_1 (fun r31 w32 H locs hp33 h => ?_)
  obtain ⟨rfl, h34⟩ := hp33
  subst h34
  refine lv_istore_n (lv' := [(3, .int 1), (0, .ref (ad 55)), (1, .ref (ad 14)), (2, .int 0)]) hx hb dX7_takeNumbers_4 rfl hl (by decide) rfl (fun ls hl => ?_)
  refine lv_iconst (v := 0) hx hb dX7_takeNumbers_5 (by decide) ?_
  refine lv_istore (lv' := [(4, .int 0), (3, .int 1), (0, .ref (ad 55)), (1, .ref (ad 14)), (2, .int 0)]) hx hb dX7_takeNumbers_6 hl (by decide) rfl (fun ls hl => ?_)
  refine lv_iload hx hb dX7_takeNumbers_8 (lv_at hl 0 rfl) ?_
  refine lv_iload_n hx hb dX7_takeNumbers_10 rfl (lv_at hl 1 rfl) ?_
  refine lv_icmp_ge (tgt := 66) hx hb dX7_takeNumbers_11 (by decide) (fun hc => absurd hc (by decide)) (fun _ => ?_)
  refine lv_iload hx hb dX7_takeNumbers_14 (lv_at hl 0 rfl) ?_
  refine lv_aload_n hx hb dX7_takeNumbers_16 rfl (lv_at hl 2 rfl) ?_
  refine r_get kc7 X h 55 1 (by decide) rfl pf (by decide) kv_413 rfl dX7_takeNumbers_17 ?_
  refine r_alen X h (v := 3) 57 0 (by decide) rfl p57 rfl rfl dX7_takeNumbers_20 ?_
  refine lv_icmp_ge (tgt := 66) hx hb dX7_takeNumbers_21 (by decide) (fun hc => absurd hc (by decide)) (fun _ => ?_)
  refine lv_aload_n hx hb dX7_takeNumbers_24 rfl (lv_at hl 2 rfl) ?_
  refine n_Vv (na := 0) (As := []) (rest := []) X hD hN h rfl (c_F_step l G cI cB cZ cO ad w z a b c0 d bs ok pf (by omega) p56 (by first | omega | decide | (simp only [k00]; omega)) (by first | omega | decide | (simp only [k00]; omega)) (by first | omega | decide | (simp only [k00]; omega)) (by first | omega | decide | (simp only [k00]; omega))) ⟨kv_417, kv_418, kv_419, kv_388, kv_420⟩ rfl ⟨by decide, by decide, by decide⟩ ⟨Nat.le_of_ble_eq_true rfl, Nat.le_of_ble_eq_true rfl⟩ ⟨Nat.zero_le _, Nat.zero_le _⟩ (by decide) pf rfl rfl hl.1 rfl (Nat.le_of_ble_eq_true rfl) dX7_takeNumbers_25 (fun w36 H locs hp37 h => ?_)
  obtain ⟨ok38, kk39, hr40⟩ := hp37
  obtain ⟨y41, y42, y43, y44, h45, h46, h47, h48, h49⟩ := hr40
  have q50 := txd ok38 h45
  have kx51 : F57 w w36 := F57.tr F57.rf kk39.f57
  refine lv_aload_n hx hb dX7_takeNumbers_28 rfl (lv_at hl 2 rfl) ?_
  refine r_get kc7 X h 55 5 (by decide) rfl h45 (by decide) kv_392 rfl dX7_takeNumbers_29 ?_
  refine lv_iconst (v := 2) hx hb dX7_takeNumbers_32 (by decide) ?_
  refine lv_icmp_ne (tgt := 47) hx hb dX7_takeNumbers_33 (by decide) (fun hc52 => ?_) (fun hc52 => ?_)
  · have hc52 : ¬ (y43).toInt = 2 := i_ne hc52 rfl rfl
    refine lv_iconst (v := 0) hx hb dX7_takeNumbers_47 (by decide) ?_
    have hit53 : it0 bs z.toNatClampNeg b.toNatClampNeg Gh = .inl y41.toNatClampNeg := by
      unfold it0
      rw [pick_n (h49.nonum (by omega)), h49.s]
    exact e_n X h hr hlk rfl dX7_takeNumbers_48 ⟨ok38, kx51, ⟨⟨_, _, _, _, h45, by omega, by omega, by omega, Or.inr ⟨hit53, rfl⟩⟩, (RG.f57 hR kx51)⟩⟩
  · have hc52 : (y43).toInt = 2 := i_eq hc52 rfl rfl
    refine lv_aload_n hx hb dX7_takeNumbers_36 rfl (lv_at hl 2 rfl) ?_
    refine lv_aload_n hx hb dX7_takeNumbers_37 rfl (lv_at hl 3 rfl) ?_
    refine lv_iload_n hx hb dX7_takeNumbers_38 rfl (lv_at hl 4 rfl) ?_
    refine lv_iload hx hb dX7_takeNumbers_39 (lv_at hl 0 rfl) ?_
    have f54 : w36 14 = .inr (1, [.int ho2, .int so1, .int mi3, .int ca4, .int ja5, .ref (ad 15), .ref (ad 16), .ref (ad 17), .ref (ad 18), .ref (ad 19), .ref (ad 20), .ref (ad 21), .ref (ad 23), .ref (ad 25)]) := (kk39 14 (by decide)).trans p10
    have f55 : w36 19 = .inl (cI, 4, .inl co9) := (kk39 19 (by decide)).trans p14
    have f56 : w36 57 = .inl (cI, 3, .inl f) := (kk39 57 (by decide)).trans p57
    refine n_Vi (na := 3) (As := [.ref (ad 14), .int 0, .int 0]) (rest := []) X hD hN h rfl (c_F_fits00 l G cI cB cZ cO ad w36 z y41 y42 y43 y44 ho2 so1 mi3 ca4 ja5 co9 f ok38 h45 (by omega) (by omega) (by omega) f54 f55 p30 f56 pn (by omega) (by omega)) ⟨kv_421, kv_422, kv_423, kv_388, kv_424⟩ rfl ⟨by decide, by decide, by decide⟩ ⟨Nat.le_of_ble_eq_true rfl, Nat.le_of_ble_eq_true rfl⟩ ⟨Nat.zero_le _, Nat.zero_le _⟩ (by decide) h45 rfl rfl hl.1 rfl (Nat.le_of_ble_eq_true rfl) dX7_takeNumbers_41 (fun r57 w58 H locs hp59 h => ?_)
    obtain ⟨rfl, hr60⟩ := hp59
    rcases hr60 with ⟨hq61, rfl⟩ | ⟨hq61, rfl⟩
    · refine lv_if_ne (tgt := 49) hx hb dX7_takeNumbers_44 (by decide) (fun _ => ?_) (fun hc => absurd hc (by decide))
      refine lv_aload_n hx hb dX7_takeNumbers_49 rfl (lv_at hl 2 rfl) ?_
      refine r_get kc7 X h 55 1 (by decide) rfl h45 (by decide) kv_413 rfl dX7_takeNumbers_50 ?_
      refine lv_iload hx hb dX7_takeNumbers_53 (lv_at hl 0 rfl) ?_
      refine lv_aload_n hx hb dX7_takeNumbers_55 rfl (lv_at hl 2 rfl) ?_
      refine r_get kc7 X h 55 6 (by decide) rfl h45 (by decide) kv_390 rfl dX7_takeNumbers_56 ?_
      obtain ⟨g62, e63⟩ : ∃ z : Nat → Int32, upd f 0 y44 = z := ⟨_, rfl⟩
      have p65 : rgA 0 99 g62 := rgA_upd pn e63 (by omega) (by omega)
      refine o_iast (f1 := g62) X hD h 57 0 (by decide) rfl f56 rfl (by unfold vp_in; decide) e63 dX7_takeNumbers_59 (fun H locs w66 e67 h => ?_)
      have f68 : w66 57 = .inl (cI, 3, .inl g62) := (congrFun e67 _).trans (va_up_self _ _ _)
      have ok69 : OK cI cB cZ cO ad w66 := OK.up ok38 e67 (sA_mk p65)
      have kx70 : F57 w w66 := F57.up kx51 e67 (by decide)
      refine lv_iinc (v := 1) (lv' := [(4, .int 1), (3, .int 1), (0, .ref (ad 55)), (1, .ref (ad 14)), (2, .int 0)]) hx hb dX7_takeNumbers_60 hl (k := 0) rfl rfl (by decide) rfl (fun ls hl => ?_)
      refine lv_goto (tgt := 8) hx hb dX7_takeNumbers_63 (by decide) ?_
      refine lv_iload hx hb dX7_takeNumbers_8 (lv_at hl 0 rfl) ?_
      refine lv_iload_n hx hb dX7_takeNumbers_10 rfl (lv_at hl 1 rfl) ?_
      refine lv_icmp_ge (tgt := 66) hx hb dX7_takeNumbers_11 (by decide) (fun _ => ?_) (fun hc => absurd (by decide) hc)
      refine lv_aload_n hx hb dX7_takeNumbers_66 rfl (lv_at hl 2 rfl) ?_
      have f71 : w66 55 = .inr (5, [.ref (ad 56), .ref (ad 57), .int z, .int y41, .int y42, .int y43, .int y44]) := by rw [e67, va_up_ne _ _ (by decide)]; exact h45
      have f72 : w36 56 = .inl (cB, 150, .inl bs) := (kk39 56 (by decide)).trans p56
      have f73 : w66 56 = .inl (cB, 150, .inl bs) := by rw [e67, va_up_ne _ _ (by decide)]; exact f72
      refine n_Vv (na := 0) (As := []) (rest := []) X hD hN h rfl (c_F_step l G cI cB cZ cO ad w66 z y41 y42 y43 y44 bs ok69 f71 (by omega) f73 (by first | omega | decide | (simp only [k00]; omega)) (by first | omega | decide | (simp only [k00]; omega)) (by first | omega | decide | (simp only [k00]; omega)) (by first | omega | decide | (simp only [k00]; omega))) ⟨kv_417, kv_418, kv_419, kv_388, kv_420⟩ rfl ⟨by decide, by decide, by decide⟩ ⟨Nat.le_of_ble_eq_true rfl, Nat.le_of_ble_eq_true rfl⟩ ⟨Nat.zero_le _, Nat.zero_le _⟩ (by decide) f71 rfl rfl hl.1 rfl (Nat.le_of_ble_eq_true rfl) dX7_takeNumbers_67 (fun w75 H locs hp76 h => ?_)
      obtain ⟨ok77, kk78, hr79⟩ := hp76
      obtain ⟨y80, y81, y82, y83, h84, h85, h86, h87, h88⟩ := hr79
      have q89 := txd ok77 h84
      have kx90 : F57 w w75 := F57.tr kx70 kk78.f57
      refine lv_aload_n hx hb dX7_takeNumbers_70 rfl (lv_at hl 2 rfl) ?_
      refine r_get kc7 X h 55 5 (by decide) rfl h84 (by decide) kv_392 rfl dX7_takeNumbers_71 ?_
      refine lv_iconst (v := 3) hx hb dX7_takeNumbers_74 (by decide) ?_
      refine lv_icmp_ne (tgt := 82) hx hb dX7_takeNumbers_75 (by decide) (fun hc91 => ?_) (fun hc91 => ?_)
      · have hc91 : ¬ (y82).toInt = 3 := i_ne hc91 rfl rfl
        refine lv_iconst (v := 0) hx hb dX7_takeNumbers_82 (by decide) ?_
        have hit92 : it0 bs z.toNatClampNeg b.toNatClampNeg Gh = .inl y80.toNatClampNeg := by
          unfold it0
          rw [pick_y (h49.num (by omega) (by omega) (by omega))]
          rw [h49.e]
          rw [h88.nostop _ (by omega)]
        exact e_n X h hr hlk rfl dX7_takeNumbers_83 ⟨ok77, kx90, ⟨⟨_, _, _, _, h84, by omega, by omega, by omega, Or.inr ⟨hit92, rfl⟩⟩, (RG.f57 hR kx90)⟩⟩
      · have hc91 : (y82).toInt = 3 := i_eq hc91 rfl rfl
        refine lv_iconst (v := 1) hx hb dX7_takeNumbers_78 (by decide) ?_
        refine lv_goto (tgt := 83) hx hb dX7_takeNumbers_79 (by decide) ?_
        have f94 : w75 57 = .inl (cI, 3, .inl g62) := (kk78 57 (by decide)).trans f68
        have e95 : g62 0 = y44 := by rw [← e63, pk_us]
        have hit93 : it0 bs z.toNatClampNeg b.toNatClampNeg Gh = .inr (y81.toNatClampNeg, begF (g62 0)) := by
          unfold it0
          rw [pick_y (h49.num (by omega) (by omega) (by omega))]
          rw [h49.e]
          rw [h88.stop _ (by omega)]
          rw [h49.iv (by omega), e95]
        exact e_n X h hr hlk rfl dX7_takeNumbers_83 ⟨ok77, kx90, ⟨⟨_, _, _, _, h84, by omega, by omega, by omega, Or.inl ⟨⟨g62, f94, trivial, hit93⟩, rfl⟩⟩, (RG.f57 hR kx90)⟩⟩
    · exact absurd trivial hq61

set_option maxHeartbeats 4000000 in
set_option maxRecDepth 100000 in
theorem c_F_takeNumbers1 (l : Launch) (G : va_G) (cI cB cZ cO : ClassId) (ad : Nat → Nat) (w : Nat → va_E) (z a b c0 d : Int32) (bs f : Nat → Int32) (Gh : Nat → Int32) (ok : OK cI cB cZ cO ad w)   (pf : w 55 = .inr (5, [.ref (ad 56), .ref (ad 57), .int z, .int a, .int b, .int c0, .int d])) (hz1 : z.toInt ≤ 150) (p56 : w 56 = .inl (cB, 150, .inl bs)) (hb0 : 0 ≤ b.toInt) (hbz : b.toInt ≤ z.toInt) (hd0 : 0 ≤ d.toInt) (hd1 : d.toInt ≤ 99) (p57 : w 57 = .inl (cI, 3, .inl f)) (pn : rgA 0 99 f) (hR : RG cI ad w Gh) : NI l G (tyq cI cB cZ cO) yX7_takeNumbers cX7_takeNumbers 5 (some .boolean) 3 66 74 ad w [.ref (ad 55), .ref (ad 14), .int 1] (fun r w1 => OK cI cB cZ cO ad w1 ∧ F57 w w1 ∧ (∃ a1 b1 c1 d1 : Int32, w1 55 = .inr (5, [.ref (ad 56), .ref (ad 57), .int z, .int a1, .int b1, .int c1, .int d1]) ∧ 0 ≤ a1.toInt ∧ a1.toInt ≤ b1.toInt ∧ b1.toInt ≤ z.toInt ∧ ((∃ f1 : Nat → Int32, w1 57 = .inl (cI, 3, .inl f1) ∧ ((f1 1).toInt ≤ 9) ∧ it1 bs z.toNatClampNeg b.toNatClampNeg Gh = .inr (b1.toNatClampNeg, layCF Gh (f1 0) (f1 1) (f1 2))) ∧ r = 1 ∨ it1 bs z.toNatClampNeg b.toNatClampNeg Gh = .inl a1.toNatClampNeg ∧ r = 0)) ∧ RG cI ad w1 Gh) := by
  refine nk_i (own := "NoonShade$Text") rfl (by decide) (Nat.le_of_ble_eq_true rfl) ?_
  intro p e s m below meth c ls X hD hN hr hlk h hl
  have hx := X.1.1
  have hb := X.1.2.1
  have hown := X.1.2.2.2.1
  have hts := X.1.2.2.2.2
  have hl : lv_has ls 5 [(0, .ref (ad 55)), (1, .ref (ad 14)), (2, .int 1)] := hl
  obtain ⟨so1, ho2, mi3, ca4, ja5, ck6, hh7, jk8, co9, p10, p11, p12, p13, p14, p15, p16, hG17⟩ := id hR
  have p10 : w 14 = .inr (1, [.int ho2, .int so1, .int mi3, .int ca4, .int ja5, .ref (ad 15), .ref (ad 16), .ref (ad 17), .ref (ad 18), .ref (ad 19), .ref (ad 20), .ref (ad 21), .ref (ad 23), .ref (ad 25)]) := p10
  obtain ⟨hG18, hG19, hG20, hG21, hG22, hG23, hG24, hG25, hG26, hG27, hG28⟩ := id hG17
  have p29 : rgA 0 9 hh7 := sA_pred (show sA cI 7 (rgA 0 9) (w 16) from ok 16 (by decide)) p12
  have p30 : rgA 0 60 co9 := sA_pred (show sA cI 4 (rgA 0 60) (w 19) from ok 19 (by decide)) p14
  have n0_ := congrArg Int32.toInt hG20
  have n1_ := congrArg Int32.toInt hG21
  have n7_ := congrArg Int32.toInt hG19
  refine lv_iload_n hx hb dX7_takeNumbers_0 rfl (lv_at hl 2 rfl) ?_
  refine n_Si (na := 1) (As := [.int 1]) (rest := []) X hD hN h (c_numbersOf1 l G cI cB cZ cO ad w) ⟨kv_414, kv_415, kv_388, kv_416⟩ ⟨by decide, by decide, by decide⟩ ⟨Nat.le_of_ble_eq_true rfl, Nat.le_of_ble_eq_true rfl⟩ ⟨Nat.zero_le _, Nat.zero_le _⟩ rfl hl.1 rfl (Nat.le_of_ble_eq_true rfl) dX7_takeNumbers_1 (fun r31 w32 H locs hp33 h => ?_)
  obtain ⟨rfl, h34⟩ := hp33
  subst h34
  refine lv_istore_n (lv' := [(3, .int 3), (0, .ref (ad 55)), (1, .ref (ad 14)), (2, .int 1)]) hx hb dX7_takeNumbers_4 rfl hl (by decide) rfl (fun ls hl => ?_)
  refine lv_iconst (v := 0) hx hb dX7_takeNumbers_5 (by decide) ?_
  refine lv_istore (lv' := [(4, .int 0), (3, .int 3), (0, .ref (ad 55)), (1, .ref (ad 14)), (2, .int 1)]) hx hb dX7_takeNumbers_6 hl (by decide) rfl (fun ls hl => ?_)
  refine lv_iload hx hb dX7_takeNumbers_8 (lv_at hl 0 rfl) ?_
  refine lv_iload_n hx hb dX7_takeNumbers_10 rfl (lv_at hl 1 rfl) ?_
  refine lv_icmp_ge (tgt := 66) hx hb dX7_takeNumbers_11 (by decide) (fun hc => absurd hc (by decide)) (fun _ => ?_)
  refine lv_iload hx hb dX7_takeNumbers_14 (lv_at hl 0 rfl) ?_
  refine lv_aload_n hx hb dX7_takeNumbers_16 rfl (lv_at hl 2 rfl) ?_
  refine r_get kc7 X h 55 1 (by decide) rfl pf (by decide) kv_413 rfl dX7_takeNumbers_17 ?_
  refine r_alen X h (v := 3) 57 0 (by decide) rfl p57 rfl rfl dX7_takeNumbers_20 ?_
  refine lv_icmp_ge (tgt := 66) hx hb dX7_takeNumbers_21 (by decide) (fun hc => absurd hc (by decide)) (fun _ => ?_)
  refine lv_aload_n hx hb dX7_takeNumbers_24 rfl (lv_at hl 2 rfl) ?_
  refine n_Vv (na := 0) (As := []) (rest := []) X hD hN h rfl (c_F_step l G cI cB cZ cO ad w z a b c0 d bs ok pf (by omega) p56 (by first | omega | decide | (simp only [k00]; omega)) (by first | omega | decide | (simp only [k00]; omega)) (by first | omega | decide | (simp only [k00]; omega)) (by first | omega | decide | (simp only [k00]; omega))) ⟨kv_417, kv_418, kv_419, kv_388, kv_420⟩ rfl ⟨by decide, by decide, by decide⟩ ⟨Nat.le_of_ble_eq_true rfl, Nat.le_of_ble_eq_true rfl⟩ ⟨Nat.zero_le _, Nat.zero_le _⟩ (by decide) pf rfl rfl hl.1 rfl (Nat.le_of_ble_eq_true rfl) dX7_takeNumbers_25 (fun w36 H locs hp37 h => ?_)
  obtain ⟨ok38, kk39, hr40⟩ := hp37
  obtain ⟨y41, y42, y43, y44, h45, h46, h47, h48, h49⟩ := hr40
  have q50 := txd ok38 h45
  have kx51 : F57 w w36 := F57.tr F57.rf kk39.f57
  refine lv_aload_n hx hb dX7_takeNumbers_28 rfl (lv_at hl 2 rfl) ?_
  refine r_get kc7 X h 55 5 (by decide) rfl h45 (by decide) kv_392 rfl dX7_takeNumbers_29 ?_
  refine lv_iconst (v := 2) hx hb dX7_takeNumbers_32 (by decide) ?_
  refine lv_icmp_ne (tgt := 47) hx hb dX7_takeNumbers_33 (by decide) (fun hc52 => ?_) (fun hc52 => ?_)
  · have hc52 : ¬ (y43).toInt = 2 := i_ne hc52 rfl rfl
    refine lv_iconst (v := 0) hx hb dX7_takeNumbers_47 (by decide) ?_
    have hit53 : it1 bs z.toNatClampNeg b.toNatClampNeg Gh = .inl y41.toNatClampNeg := by
      unfold it1
      rw [pick_n (h49.nonum (by omega)), h49.s]
    exact e_n X h hr hlk rfl dX7_takeNumbers_48 ⟨ok38, kx51, ⟨⟨_, _, _, _, h45, by omega, by omega, by omega, Or.inr ⟨hit53, rfl⟩⟩, (RG.f57 hR kx51)⟩⟩
  · have hc52 : (y43).toInt = 2 := i_eq hc52 rfl rfl
    refine lv_aload_n hx hb dX7_takeNumbers_36 rfl (lv_at hl 2 rfl) ?_
    refine lv_aload_n hx hb dX7_takeNumbers_37 rfl (lv_at hl 3 rfl) ?_
    refine lv_iload_n hx hb dX7_takeNumbers_38 rfl (lv_at hl 4 rfl) ?_
    refine lv_iload hx hb dX7_takeNumbers_39 (lv_at hl 0 rfl) ?_
    have f54 : w36 14 = .inr (1, [.int ho2, .int so1, .int mi3, .int ca4, .int ja5, .ref (ad 15), .ref (ad 16), .ref (ad 17), .ref (ad 18), .ref (ad 19), .ref (ad 20), .ref (ad 21), .ref (ad 23), .ref (ad 25)]) := (kk39 14 (by decide)).trans p10
    have f55 : w36 19 = .inl (cI, 4, .inl co9) := (kk39 19 (by decide)).trans p14
    have f56 : w36 57 = .inl (cI, 3, .inl f) := (kk39 57 (by decide)).trans p57
    refine n_Vi (na := 3) (As := [.ref (ad 14), .int 1, .int 0]) (rest := []) X hD hN h rfl (c_F_fits10 l G cI cB cZ cO ad w36 z y41 y42 y43 y44 ho2 so1 mi3 ca4 ja5 co9 f ok38 h45 (by omega) (by omega) (by omega) f54 f55 p30 f56 pn (by omega) (by omega)) ⟨kv_421, kv_422, kv_423, kv_388, kv_424⟩ rfl ⟨by decide, by decide, by decide⟩ ⟨Nat.le_of_ble_eq_true rfl, Nat.le_of_ble_eq_true rfl⟩ ⟨Nat.zero_le _, Nat.zero_le _⟩ (by decide) h45 rfl rfl hl.1 rfl (Nat.le_of_ble_eq_true rfl) dX7_takeNumbers_41 (fun r57 w58 H locs hp59 h => ?_)
    obtain ⟨rfl, hr60⟩ := hp59
    rcases hr60 with ⟨hq61, rfl⟩ | ⟨hq61, rfl⟩
    · refine lv_if_ne (tgt := 49) hx hb dX7_takeNumbers_44 (by decide) (fun _ => ?_) (fun hc => absurd hc (by decide))
      refine lv_aload_n hx hb dX7_takeNumbers_49 rfl (lv_at hl 2 rfl) ?_
      refine r_get kc7 X h 55 1 (by decide) rfl h45 (by decide) kv_413 rfl dX7_takeNumbers_50 ?_
      refine lv_iload hx hb dX7_takeNumbers_53 (lv_at hl 0 rfl) ?_
      refine lv_aload_n hx hb dX7_takeNumbers_55 rfl (lv_at hl 2 rfl) ?_
      refine r_get kc7 X h 55 6 (by decide) rfl h45 (by decide) kv_390 rfl dX7_takeNumbers_56 ?_
      obtain ⟨g62, e63⟩ : ∃ z : Nat → Int32, upd f 0 y44 = z := ⟨_, rfl⟩
      have p65 : rgA 0 99 g62 := rgA_upd pn e63 (by omega) (by omega)
      refine o_iast (f1 := g62) X hD h 57 0 (by decide) rfl f56 rfl (by unfold vp_in; decide) e63 dX7_takeNumbers_59 (fun H locs w66 e67 h => ?_)
      have f68 : w66 57 = .inl (cI, 3, .inl g62) := (congrFun e67 _).trans (va_up_self _ _ _)
      have ok69 : OK cI cB cZ cO ad w66 := OK.up ok38 e67 (sA_mk p65)
      have kx70 : F57 w w66 := F57.up kx51 e67 (by decide)
      refine lv_iinc (v := 1) (lv' := [(4, .int 1), (3, .int 3), (0, .ref (ad 55)), (1, .ref (ad 14)), (2, .int 1)]) hx hb dX7_takeNumbers_60 hl (k := 0) rfl rfl (by decide) rfl (fun ls hl => ?_)
      refine lv_goto (tgt := 8) hx hb dX7_takeNumbers_63 (by decide) ?_
      refine lv_iload hx hb dX7_takeNumbers_8 (lv_at hl 0 rfl) ?_
      refine lv_iload_n hx hb dX7_takeNumbers_10 rfl (lv_at hl 1 rfl) ?_
      refine lv_icmp_ge (tgt := 66) hx hb dX7_takeNumbers_11 (by decide) (fun hc => absurd hc (by decide)) (fun _ => ?_)
      refine lv_iload hx hb dX7_takeNumbers_14 (lv_at hl 0 rfl) ?_
      refine lv_aload_n hx hb dX7_takeNumbers_16 rfl (lv_at hl 2 rfl) ?_
      have f71 : w66 55 = .inr (5, [.ref (ad 56), .ref (ad 57), .int z, .int y41, .int y42, .int y43, .int y44]) := by rw [e67, va_up_ne _ _ (by decide)]; exact h45
      refine r_get kc7 X h 55 1 (by decide) rfl f71 (by decide) kv_413 rfl dX7_takeNumbers_17 ?_
      refine r_alen X h (v := 3) 57 0 (by decide) rfl f68 rfl rfl dX7_takeNumbers_20 ?_
      refine lv_icmp_ge (tgt := 66) hx hb dX7_takeNumbers_21 (by decide) (fun hc => absurd hc (by decide)) (fun _ => ?_)
      refine lv_aload_n hx hb dX7_takeNumbers_24 rfl (lv_at hl 2 rfl) ?_
      have f72 : w36 56 = .inl (cB, 150, .inl bs) := (kk39 56 (by decide)).trans p56
      have f73 : w66 56 = .inl (cB, 150, .inl bs) := by rw [e67, va_up_ne _ _ (by decide)]; exact f72
      refine n_Vv (na := 0) (As := []) (rest := []) X hD hN h rfl (c_F_step l G cI cB cZ cO ad w66 z y41 y42 y43 y44 bs ok69 f71 (by omega) f73 (by first | omega | decide | (simp only [k00]; omega)) (by first | omega | decide | (simp only [k00]; omega)) (by first | omega | decide | (simp only [k00]; omega)) (by first | omega | decide | (simp only [k00]; omega))) ⟨kv_417, kv_418, kv_419, kv_388, kv_420⟩ rfl ⟨by decide, by decide, by decide⟩ ⟨Nat.le_of_ble_eq_true rfl, Nat.le_of_ble_eq_true rfl⟩ ⟨Nat.zero_le _, Nat.zero_le _⟩ (by decide) f71 rfl rfl hl.1 rfl (Nat.le_of_ble_eq_true rfl) dX7_takeNumbers_25 (fun w75 H locs hp76 h => ?_)
      obtain ⟨ok77, kk78, hr79⟩ := hp76
      obtain ⟨y80, y81, y82, y83, h84, h85, h86, h87, h88⟩ := hr79
      have q89 := txd ok77 h84
      have kx90 : F57 w w75 := F57.tr kx70 kk78.f57
      refine lv_aload_n hx hb dX7_takeNumbers_28 rfl (lv_at hl 2 rfl) ?_
      refine r_get kc7 X h 55 5 (by decide) rfl h84 (by decide) kv_392 rfl dX7_takeNumbers_29 ?_
      refine lv_iconst (v := 2) hx hb dX7_takeNumbers_32 (by decide) ?_
      refine lv_icmp_ne (tgt := 47) hx hb dX7_takeNumbers_33 (by decide) (fun hc91 => ?_) (fun hc91 => ?_)
      · have hc91 : ¬ (y82).toInt = 2 := i_ne hc91 rfl rfl
        refine lv_iconst (v := 0) hx hb dX7_takeNumbers_47 (by decide) ?_
        have hit92 : it1 bs z.toNatClampNeg b.toNatClampNeg Gh = .inl y80.toNatClampNeg := by
          unfold it1
          rw [pick_y (h49.num (by omega) (by omega) (by omega))]
          rw [h49.e]
          rw [pick_n (h88.nonum (by omega)), h88.s]
        exact e_n X h hr hlk rfl dX7_takeNumbers_48 ⟨ok77, kx90, ⟨⟨_, _, _, _, h84, by omega, by omega, by omega, Or.inr ⟨hit92, rfl⟩⟩, (RG.f57 hR kx90)⟩⟩
      · have hc91 : (y82).toInt = 2 := i_eq hc91 rfl rfl
        refine lv_aload_n hx hb dX7_takeNumbers_36 rfl (lv_at hl 2 rfl) ?_
        refine lv_aload_n hx hb dX7_takeNumbers_37 rfl (lv_at hl 3 rfl) ?_
        refine lv_iload_n hx hb dX7_takeNumbers_38 rfl (lv_at hl 4 rfl) ?_
        refine lv_iload hx hb dX7_takeNumbers_39 (lv_at hl 0 rfl) ?_
        have f93 : w66 14 = .inr (1, [.int ho2, .int so1, .int mi3, .int ca4, .int ja5, .ref (ad 15), .ref (ad 16), .ref (ad 17), .ref (ad 18), .ref (ad 19), .ref (ad 20), .ref (ad 21), .ref (ad 23), .ref (ad 25)]) := by rw [e67, va_up_ne _ _ (by decide)]; exact f54
        have f94 : w75 14 = .inr (1, [.int ho2, .int so1, .int mi3, .int ca4, .int ja5, .ref (ad 15), .ref (ad 16), .ref (ad 17), .ref (ad 18), .ref (ad 19), .ref (ad 20), .ref (ad 21), .ref (ad 23), .ref (ad 25)]) := (kk78 14 (by decide)).trans f93
        have f95 : w66 19 = .inl (cI, 4, .inl co9) := by rw [e67, va_up_ne _ _ (by decide)]; exact f55
        have f96 : w75 19 = .inl (cI, 4, .inl co9) := (kk78 19 (by decide)).trans f95
        have f97 : w75 57 = .inl (cI, 3, .inl g62) := (kk78 57 (by decide)).trans f68
        refine n_Vi (na := 3) (As := [.ref (ad 14), .int 1, .int 1]) (rest := []) X hD hN h rfl (c_F_fits11 l G cI cB cZ cO ad w75 z y80 y81 y82 y83 ho2 so1 mi3 ca4 ja5 co9 g62 ok77 h84 (by omega) (by omega) (by omega) f94 f96 p30 f97 p65 (by omega) (by omega)) ⟨kv_421, kv_422, kv_423, kv_388, kv_424⟩ rfl ⟨by decide, by decide, by decide⟩ ⟨Nat.le_of_ble_eq_true rfl, Nat.le_of_ble_eq_true rfl⟩ ⟨Nat.zero_le _, Nat.zero_le _⟩ (by decide) h84 rfl rfl hl.1 rfl (Nat.le_of_ble_eq_true rfl) dX7_takeNumbers_41 (fun r98 w99 H locs hp100 h => ?_)
        obtain ⟨rfl, hr101⟩ := hp100
        rcases hr101 with ⟨hq102, rfl⟩ | ⟨hq102, rfl⟩
        · refine lv_if_ne (tgt := 49) hx hb dX7_takeNumbers_44 (by decide) (fun _ => ?_) (fun hc => absurd hc (by decide))
          refine lv_aload_n hx hb dX7_takeNumbers_49 rfl (lv_at hl 2 rfl) ?_
          refine r_get kc7 X h 55 1 (by decide) rfl h84 (by decide) kv_413 rfl dX7_takeNumbers_50 ?_
          refine lv_iload hx hb dX7_takeNumbers_53 (lv_at hl 0 rfl) ?_
          refine lv_aload_n hx hb dX7_takeNumbers_55 rfl (lv_at hl 2 rfl) ?_
          refine r_get kc7 X h 55 6 (by decide) rfl h84 (by decide) kv_390 rfl dX7_takeNumbers_56 ?_
          obtain ⟨g103, e104⟩ : ∃ z : Nat → Int32, upd g62 1 y83 = z := ⟨_, rfl⟩
          have p106 : rgA 0 99 g103 := rgA_upd p65 e104 (by omega) (by omega)
          refine o_iast (f1 := g103) X hD h 57 0 (by decide) rfl f97 rfl (by unfold vp_in; decide) e104 dX7_takeNumbers_59 (fun H locs w107 e108 h => ?_)
          have f109 : w107 57 = .inl (cI, 3, .inl g103) := (congrFun e108 _).trans (va_up_self _ _ _)
          have ok110 : OK cI cB cZ cO ad w107 := OK.up ok77 e108 (sA_mk p106)
          have kx111 : F57 w w107 := F57.up kx90 e108 (by decide)
          refine lv_iinc (v := 2) (lv' := [(4, .int 2), (3, .int 3), (0, .ref (ad 55)), (1, .ref (ad 14)), (2, .int 1)]) hx hb dX7_takeNumbers_60 hl (k := 0) rfl rfl (by decide) rfl (fun ls hl => ?_)
          refine lv_goto (tgt := 8) hx hb dX7_takeNumbers_63 (by decide) ?_
          refine lv_iload hx hb dX7_takeNumbers_8 (lv_at hl 0 rfl) ?_
          refine lv_iload_n hx hb dX7_takeNumbers_10 rfl (lv_at hl 1 rfl) ?_
          refine lv_icmp_ge (tgt := 66) hx hb dX7_takeNumbers_11 (by decide) (fun hc => absurd hc (by decide)) (fun _ => ?_)
          refine lv_iload hx hb dX7_takeNumbers_14 (lv_at hl 0 rfl) ?_
          refine lv_aload_n hx hb dX7_takeNumbers_16 rfl (lv_at hl 2 rfl) ?_
          have f112 : w107 55 = .inr (5, [.ref (ad 56), .ref (ad 57), .int z, .int y80, .int y81, .int y82, .int y83]) := by rw [e108, va_up_ne _ _ (by decide)]; exact h84
          refine r_get kc7 X h 55 1 (by decide) rfl f112 (by decide) kv_413 rfl dX7_takeNumbers_17 ?_
          refine r_alen X h (v := 3) 57 0 (by decide) rfl f109 rfl rfl dX7_takeNumbers_20 ?_
          refine lv_icmp_ge (tgt := 66) hx hb dX7_takeNumbers_21 (by decide) (fun hc => absurd hc (by decide)) (fun _ => ?_)
          refine lv_aload_n hx hb dX7_takeNumbers_24 rfl (lv_at hl 2 rfl) ?_
          have f113 : w75 56 = .inl (cB, 150, .inl bs) := (kk78 56 (by decide)).trans f73
          have f114 : w107 56 = .inl (cB, 150, .inl bs) := by rw [e108, va_up_ne _ _ (by decide)]; exact f113
          refine n_Vv (na := 0) (As := []) (rest := []) X hD hN h rfl (c_F_step l G cI cB cZ cO ad w107 z y80 y81 y82 y83 bs ok110 f112 (by omega) f114 (by first | omega | decide | (simp only [k00]; omega)) (by first | omega | decide | (simp only [k00]; omega)) (by first | omega | decide | (simp only [k00]; omega)) (by first | omega | decide | (simp only [k00]; omega))) ⟨kv_417, kv_418, kv_419, kv_388, kv_420⟩ rfl ⟨by decide, by decide, by decide⟩ ⟨Nat.le_of_ble_eq_true rfl, Nat.le_of_ble_eq_true rfl⟩ ⟨Nat.zero_le _, Nat.zero_le _⟩ (by decide) f112 rfl rfl hl.1 rfl (Nat.le_of_ble_eq_true rfl) dX7_takeNumbers_25 (fun w116 H locs hp117 h => ?_)
          obtain ⟨ok118, kk119, hr120⟩ := hp117
          obtain ⟨y121, y122, y123, y124, h125, h126, h127, h128, h129⟩ := hr120
          have q130 := txd ok118 h125
          have kx131 : F57 w w116 := F57.tr kx111 kk119.f57
          refine lv_aload_n hx hb dX7_takeNumbers_28 rfl (lv_at hl 2 rfl) ?_
          refine r_get kc7 X h 55 5 (by decide) rfl h125 (by decide) kv_392 rfl dX7_takeNumbers_29 ?_
          refine lv_iconst (v := 2) hx hb dX7_takeNumbers_32 (by decide) ?_
          refine lv_icmp_ne (tgt := 47) hx hb dX7_takeNumbers_33 (by decide) (fun hc132 => ?_) (fun hc132 => ?_)
          · have hc132 : ¬ (y123).toInt = 2 := i_ne hc132 rfl rfl
            refine lv_iconst (v := 0) hx hb dX7_takeNumbers_47 (by decide) ?_
            have hit133 : it1 bs z.toNatClampNeg b.toNatClampNeg Gh = .inl y121.toNatClampNeg := by
              unfold it1
              rw [pick_y (h49.num (by omega) (by omega) (by omega))]
              rw [h49.e]
              rw [pick_y (h88.num (by omega) (by omega) (by omega))]
              rw [h88.e]
              rw [pick_n (h129.nonum (by omega)), h129.s]
            exact e_n X h hr hlk rfl dX7_takeNumbers_48 ⟨ok118, kx131, ⟨⟨_, _, _, _, h125, by omega, by omega, by omega, Or.inr ⟨hit133, rfl⟩⟩, (RG.f57 hR kx131)⟩⟩
          · have hc132 : (y123).toInt = 2 := i_eq hc132 rfl rfl
            refine lv_aload_n hx hb dX7_takeNumbers_36 rfl (lv_at hl 2 rfl) ?_
            refine lv_aload_n hx hb dX7_takeNumbers_37 rfl (lv_at hl 3 rfl) ?_
            refine lv_iload_n hx hb dX7_takeNumbers_38 rfl (lv_at hl 4 rfl) ?_
            refine lv_iload hx hb dX7_takeNumbers_39 (lv_at hl 0 rfl) ?_
            have f134 : w107 14 = .inr (1, [.int ho2, .int so1, .int mi3, .int ca4, .int ja5, .ref (ad 15), .ref (ad 16), .ref (ad 17), .ref (ad 18), .ref (ad 19), .ref (ad 20), .ref (ad 21), .ref (ad 23), .ref (ad 25)]) := by rw [e108, va_up_ne _ _ (by decide)]; exact f94
            have f135 : w116 14 = .inr (1, [.int ho2, .int so1, .int mi3, .int ca4, .int ja5, .ref (ad 15), .ref (ad 16), .ref (ad 17), .ref (ad 18), .ref (ad 19), .ref (ad 20), .ref (ad 21), .ref (ad 23), .ref (ad 25)]) := (kk119 14 (by decide)).trans f134
            have f136 : w107 19 = .inl (cI, 4, .inl co9) := by rw [e108, va_up_ne _ _ (by decide)]; exact f96
            have f137 : w116 19 = .inl (cI, 4, .inl co9) := (kk119 19 (by decide)).trans f136
            have f138 : w116 57 = .inl (cI, 3, .inl g103) := (kk119 57 (by decide)).trans f109
            refine n_Vi (na := 3) (As := [.ref (ad 14), .int 1, .int 2]) (rest := []) X hD hN h rfl (c_F_fits12 l G cI cB cZ cO ad w116 z y121 y122 y123 y124 ho2 so1 mi3 ca4 ja5 co9 g103 ok118 h125 (by omega) (by omega) (by omega) f135 f137 p30 f138 p106 (by omega) (by omega)) ⟨kv_421, kv_422, kv_423, kv_388, kv_424⟩ rfl ⟨by decide, by decide, by decide⟩ ⟨Nat.le_of_ble_eq_true rfl, Nat.le_of_ble_eq_true rfl⟩ ⟨Nat.zero_le _, Nat.zero_le _⟩ (by decide) h125 rfl rfl hl.1 rfl (Nat.le_of_ble_eq_true rfl) dX7_takeNumbers_41 (fun r139 w140 H locs hp141 h => ?_)
            obtain ⟨rfl, hr142⟩ := hp141
            rcases hr142 with ⟨hq143, rfl⟩ | ⟨hq143, rfl⟩
            · refine lv_if_ne (tgt := 49) hx hb dX7_takeNumbers_44 (by decide) (fun _ => ?_) (fun hc => absurd hc (by decide))
              refine lv_aload_n hx hb dX7_takeNumbers_49 rfl (lv_at hl 2 rfl) ?_
              refine r_get kc7 X h 55 1 (by decide) rfl h125 (by decide) kv_413 rfl dX7_takeNumbers_50 ?_
              refine lv_iload hx hb dX7_takeNumbers_53 (lv_at hl 0 rfl) ?_
              refine lv_aload_n hx hb dX7_takeNumbers_55 rfl (lv_at hl 2 rfl) ?_
              refine r_get kc7 X h 55 6 (by decide) rfl h125 (by decide) kv_390 rfl dX7_takeNumbers_56 ?_
              obtain ⟨g144, e145⟩ : ∃ z : Nat → Int32, upd g103 2 y124 = z := ⟨_, rfl⟩
              have p147 : rgA 0 99 g144 := rgA_upd p106 e145 (by omega) (by omega)
              refine o_iast (f1 := g144) X hD h 57 0 (by decide) rfl f138 rfl (by unfold vp_in; decide) e145 dX7_takeNumbers_59 (fun H locs w148 e149 h => ?_)
              have f150 : w148 57 = .inl (cI, 3, .inl g144) := (congrFun e149 _).trans (va_up_self _ _ _)
              have ok151 : OK cI cB cZ cO ad w148 := OK.up ok118 e149 (sA_mk p147)
              have kx152 : F57 w w148 := F57.up kx131 e149 (by decide)
              refine lv_iinc (v := 3) (lv' := [(4, .int 3), (3, .int 3), (0, .ref (ad 55)), (1, .ref (ad 14)), (2, .int 1)]) hx hb dX7_takeNumbers_60 hl (k := 0) rfl rfl (by decide) rfl (fun ls hl => ?_)
              refine lv_goto (tgt := 8) hx hb dX7_takeNumbers_63 (by decide) ?_
              refine lv_iload hx hb dX7_takeNumbers_8 (lv_at hl 0 rfl) ?_
              refine lv_iload_n hx hb dX7_takeNumbers_10 rfl (lv_at hl 1 rfl) ?_
              refine lv_icmp_ge (tgt := 66) hx hb dX7_takeNumbers_11 (by decide) (fun _ => ?_) (fun hc => absurd (by decide) hc)
              refine lv_aload_n hx hb dX7_takeNumbers_66 rfl (lv_at hl 2 rfl) ?_
              have f153 : w148 55 = .inr (5, [.ref (ad 56), .ref (ad 57), .int z, .int y121, .int y122, .int y123, .int y124]) := by rw [e149, va_up_ne _ _ (by decide)]; exact h125
              have f154 : w116 56 = .inl (cB, 150, .inl bs) := (kk119 56 (by decide)).trans f114
              have f155 : w148 56 = .inl (cB, 150, .inl bs) := by rw [e149, va_up_ne _ _ (by decide)]; exact f154
              refine n_Vv (na := 0) (As := []) (rest := []) X hD hN h rfl (c_F_step l G cI cB cZ cO ad w148 z y121 y122 y123 y124 bs ok151 f153 (by omega) f155 (by first | omega | decide | (simp only [k00]; omega)) (by first | omega | decide | (simp only [k00]; omega)) (by first | omega | decide | (simp only [k00]; omega)) (by first | omega | decide | (simp only [k00]; omega))) ⟨kv_417, kv_418, kv_419, kv_388, kv_420⟩ rfl ⟨by decide, by decide, by decide⟩ ⟨Nat.le_of_ble_eq_true rfl, Nat.le_of_ble_eq_true rfl⟩ ⟨Nat.zero_le _, Nat.zero_le _⟩ (by decide) f153 rfl rfl hl.1 rfl (Nat.le_of_ble_eq_true rfl) dX7_takeNumbers_67 (fun w157 H locs hp158 h => ?_)
              obtain ⟨ok159, kk160, hr161⟩ := hp158
              obtain ⟨y162, y163, y164, y165, h166, h167, h168, h169, h170⟩ := hr161
              have q171 := txd ok159 h166
              have kx172 : F57 w w157 := F57.tr kx152 kk160.f57
              refine lv_aload_n hx hb dX7_takeNumbers_70 rfl (lv_at hl 2 rfl) ?_
              refine r_get kc7 X h 55 5 (by decide) rfl h166 (by decide) kv_392 rfl dX7_takeNumbers_71 ?_
              refine lv_iconst (v := 3) hx hb dX7_takeNumbers_74 (by decide) ?_
              refine lv_icmp_ne (tgt := 82) hx hb dX7_takeNumbers_75 (by decide) (fun hc173 => ?_) (fun hc173 => ?_)
              · have hc173 : ¬ (y164).toInt = 3 := i_ne hc173 rfl rfl
                refine lv_iconst (v := 0) hx hb dX7_takeNumbers_82 (by decide) ?_
                have hit174 : it1 bs z.toNatClampNeg b.toNatClampNeg Gh = .inl y162.toNatClampNeg := by
                  unfold it1
                  rw [pick_y (h49.num (by omega) (by omega) (by omega))]
                  rw [h49.e]
                  rw [pick_y (h88.num (by omega) (by omega) (by omega))]
                  rw [h88.e]
                  rw [pick_y (h129.num (by omega) (by omega) (by omega))]
                  rw [h129.e]
                  rw [h170.nostop _ (by omega)]
                exact e_n X h hr hlk rfl dX7_takeNumbers_83 ⟨ok159, kx172, ⟨⟨_, _, _, _, h166, by omega, by omega, by omega, Or.inr ⟨hit174, rfl⟩⟩, (RG.f57 hR kx172)⟩⟩
              · have hc173 : (y164).toInt = 3 := i_eq hc173 rfl rfl
                refine lv_iconst (v := 1) hx hb dX7_takeNumbers_78 (by decide) ?_
                refine lv_goto (tgt := 83) hx hb dX7_takeNumbers_79 (by decide) ?_
                have f176 : w157 57 = .inl (cI, 3, .inl g144) := (kk160 57 (by decide)).trans f150
                have e177 : g144 0 = y44 := by rw [← e145, pk_un (by decide), ← e104, pk_un (by decide), ← e63, pk_us]
                have e178 : g144 1 = y83 := by rw [← e145, pk_un (by decide), ← e104, pk_us]
                have e179 : g144 2 = y124 := by rw [← e145, pk_us]
                have hit175 : it1 bs z.toNatClampNeg b.toNatClampNeg Gh = .inr (y163.toNatClampNeg, layCF Gh (g144 0) (g144 1) (g144 2)) := by
                  unfold it1
                  rw [pick_y (h49.num (by omega) (by omega) (by omega))]
                  rw [h49.e]
                  rw [pick_y (h88.num (by omega) (by omega) (by omega))]
                  rw [h88.e]
                  rw [pick_y (h129.num (by omega) (by omega) (by omega))]
                  rw [h129.e]
                  rw [h170.stop _ (by omega)]
                  rw [h49.iv (by omega), h88.iv (by omega), h129.iv (by omega), e177, e178, e179]
                exact e_n X h hr hlk rfl dX7_takeNumbers_83 ⟨ok159, kx172, ⟨⟨_, _, _, _, h166, by omega, by omega, by omega, Or.inl ⟨⟨g144, f176, by rw [e178]; omega, hit175⟩, rfl⟩⟩, (RG.f57 hR kx172)⟩⟩
            · refine lv_if_ne (tgt := 49) hx hb dX7_takeNumbers_44 (by decide) (fun hc => absurd (by decide) hc) (fun _ => ?_)
              refine lv_iconst (v := 0) hx hb dX7_takeNumbers_47 (by decide) ?_
              have hit180 : it1 bs z.toNatClampNeg b.toNatClampNeg Gh = .inl y121.toNatClampNeg := by
                unfold it1
                rw [pick_y (h49.num (by omega) (by omega) (by omega))]
                rw [h49.e]
                rw [pick_y (h88.num (by omega) (by omega) (by omega))]
                rw [h88.e]
                rw [pick_n (h129.nonum (by omega)), h129.s]
              exact e_n X h hr hlk rfl dX7_takeNumbers_48 ⟨ok118, kx131, ⟨⟨_, _, _, _, h125, by omega, by omega, by omega, Or.inr ⟨hit180, rfl⟩⟩, (RG.f57 hR kx131)⟩⟩
        · refine lv_if_ne (tgt := 49) hx hb dX7_takeNumbers_44 (by decide) (fun hc => absurd (by decide) hc) (fun _ => ?_)
          refine lv_iconst (v := 0) hx hb dX7_takeNumbers_47 (by decide) ?_
          have hit181 : it1 bs z.toNatClampNeg b.toNatClampNeg Gh = .inl y80.toNatClampNeg := by
            unfold it1
            rw [pick_y (h49.num (by omega) (by omega) (by omega))]
            rw [h49.e]
            rw [pick_n (h88.nonum (by omega)), h88.s]
          exact e_n X h hr hlk rfl dX7_takeNumbers_48 ⟨ok77, kx90, ⟨⟨_, _, _, _, h84, by omega, by omega, by omega, Or.inr ⟨hit181, rfl⟩⟩, (RG.f57 hR kx90)⟩⟩
    · refine lv_if_ne (tgt := 49) hx hb dX7_takeNumbers_44 (by decide) (fun hc => absurd (by decide) hc) (fun _ => ?_)
      refine lv_iconst (v := 0) hx hb dX7_takeNumbers_47 (by decide) ?_
      have hit182 : it1 bs z.toNatClampNeg b.toNatClampNeg Gh = .inl y41.toNatClampNeg := by
        unfold it1
        rw [pick_n (h49.nonum (by omega)), h49.s]
      exact e_n X h hr hlk rfl dX7_takeNumbers_48 ⟨ok38, kx51, ⟨⟨_, _, _, _, h45, by omega, by omega, by omega, Or.inr ⟨hit182, rfl⟩⟩, (RG.f57 hR kx51)⟩⟩

set_option maxHeartbeats 4000000 in
set_option maxRecDepth 100000 in
theorem c_F_takeNumbers2 (l : Launch) (G : va_G) (cI cB cZ cO : ClassId) (ad : Nat → Nat) (w : Nat → va_E) (z a b c0 d : Int32) (bs f : Nat → Int32) (Gh : Nat → Int32) (ok : OK cI cB cZ cO ad w)   (pf : w 55 = .inr (5, [.ref (ad 56), .ref (ad 57), .int z, .int a, .int b, .int c0, .int d])) (hz1 : z.toInt ≤ 150) (p56 : w 56 = .inl (cB, 150, .inl bs)) (hb0 : 0 ≤ b.toInt) (hbz : b.toInt ≤ z.toInt) (hd0 : 0 ≤ d.toInt) (hd1 : d.toInt ≤ 99) (p57 : w 57 = .inl (cI, 3, .inl f)) (pn : rgA 0 99 f) (hR : RG cI ad w Gh) : NI l G (tyq cI cB cZ cO) yX7_takeNumbers cX7_takeNumbers 5 (some .boolean) 3 66 74 ad w [.ref (ad 55), .ref (ad 14), .int 2] (fun r w1 => OK cI cB cZ cO ad w1 ∧ F57 w w1 ∧ (∃ a1 b1 c1 d1 : Int32, w1 55 = .inr (5, [.ref (ad 56), .ref (ad 57), .int z, .int a1, .int b1, .int c1, .int d1]) ∧ 0 ≤ a1.toInt ∧ a1.toInt ≤ b1.toInt ∧ b1.toInt ≤ z.toInt ∧ ((∃ f1 : Nat → Int32, w1 57 = .inl (cI, 3, .inl f1) ∧ (True) ∧ it2 bs z.toNatClampNeg b.toNatClampNeg Gh = .inr (b1.toNatClampNeg, layJF Gh (f1 0))) ∧ r = 1 ∨ it2 bs z.toNatClampNeg b.toNatClampNeg Gh = .inl a1.toNatClampNeg ∧ r = 0)) ∧ RG cI ad w1 Gh) := by
  refine nk_i (own := "NoonShade$Text") rfl (by decide) (Nat.le_of_ble_eq_true rfl) ?_
  intro p e s m below meth c ls X hD hN hr hlk h hl
  have hx := X.1.1
  have hb := X.1.2.1
  have hown := X.1.2.2.2.1
  have hts := X.1.2.2.2.2
  have hl : lv_has ls 5 [(0, .ref (ad 55)), (1, .ref (ad 14)), (2, .int 2)] := hl
  obtain ⟨so1, ho2, mi3, ca4, ja5, ck6, hh7, jk8, co9, p10, p11, p12, p13, p14, p15, p16, hG17⟩ := id hR
  have p10 : w 14 = .inr (1, [.int ho2, .int so1, .int mi3, .int ca4, .int ja5, .ref (ad 15), .ref (ad 16), .ref (ad 17), .ref (ad 18), .ref (ad 19), .ref (ad 20), .ref (ad 21), .ref (ad 23), .ref (ad 25)]) := p10
  obtain ⟨hG18, hG19, hG20, hG21, hG22, hG23, hG24, hG25, hG26, hG27, hG28⟩ := id hG17
  have p29 : rgA 0 9 hh7 := sA_pred (show sA cI 7 (rgA 0 9) (w 16) from ok 16 (by decide)) p12
  have p30 : rgA 0 60 co9 := sA_pred (show sA cI 4 (rgA 0 60) (w 19) from ok 19 (by decide)) p14
  have n0_ := congrArg Int32.toInt hG20
  have n1_ := congrArg Int32.toInt hG21
  have n7_ := congrArg Int32.toInt hG19
  refine lv_iload_n hx hb dX7_takeNumbers_0 rfl (lv_at hl 2 rfl) ?_
  refine n_Si (na := 1) (As := [.int 2]) (rest := []) X hD hN h (c_numbersOf2 l G cI cB cZ cO ad w) ⟨kv_414, kv_415, kv_388, kv_416⟩ ⟨by decide, by decide, by decide⟩ ⟨Nat.le_of_ble_eq_true rfl, Nat.le_of_ble_eq_true rfl⟩ ⟨Nat.zero_le _, Nat.zero_le _⟩ rfl hl.1 rfl (Nat.le_of_ble_eq_true rfl) dX7_takeNumbers_1 (fun r31 w32 H locs hp33 h => ?_)
  obtain ⟨rfl, h34⟩ := hp33
  subst h34
  refine lv_istore_n (lv' := [(3, .int 1), (0, .ref (ad 55)), (1, .ref (ad 14)), (2, .int 2)]) hx hb dX7_takeNumbers_4 rfl hl (by decide) rfl (fun ls hl => ?_)
  refine lv_iconst (v := 0) hx hb dX7_takeNumbers_5 (by decide) ?_
  refine lv_istore (lv' := [(4, .int 0), (3, .int 1), (0, .ref (ad 55)), (1, .ref (ad 14)), (2, .int 2)]) hx hb dX7_takeNumbers_6 hl (by decide) rfl (fun ls hl => ?_)
  refine lv_iload hx hb dX7_takeNumbers_8 (lv_at hl 0 rfl) ?_
  refine lv_iload_n hx hb dX7_takeNumbers_10 rfl (lv_at hl 1 rfl) ?_
  refine lv_icmp_ge (tgt := 66) hx hb dX7_takeNumbers_11 (by decide) (fun hc => absurd hc (by decide)) (fun _ => ?_)
  refine lv_iload hx hb dX7_takeNumbers_14 (lv_at hl 0 rfl) ?_
  refine lv_aload_n hx hb dX7_takeNumbers_16 rfl (lv_at hl 2 rfl) ?_
  refine r_get kc7 X h 55 1 (by decide) rfl pf (by decide) kv_413 rfl dX7_takeNumbers_17 ?_
  refine r_alen X h (v := 3) 57 0 (by decide) rfl p57 rfl rfl dX7_takeNumbers_20 ?_
  refine lv_icmp_ge (tgt := 66) hx hb dX7_takeNumbers_21 (by decide) (fun hc => absurd hc (by decide)) (fun _ => ?_)
  refine lv_aload_n hx hb dX7_takeNumbers_24 rfl (lv_at hl 2 rfl) ?_
  refine n_Vv (na := 0) (As := []) (rest := []) X hD hN h rfl (c_F_step l G cI cB cZ cO ad w z a b c0 d bs ok pf (by omega) p56 (by first | omega | decide | (simp only [k00]; omega)) (by first | omega | decide | (simp only [k00]; omega)) (by first | omega | decide | (simp only [k00]; omega)) (by first | omega | decide | (simp only [k00]; omega))) ⟨kv_417, kv_418, kv_419, kv_388, kv_420⟩ rfl ⟨by decide, by decide, by decide⟩ ⟨Nat.le_of_ble_eq_true rfl, Nat.le_of_ble_eq_true rfl⟩ ⟨Nat.zero_le _, Nat.zero_le _⟩ (by decide) pf rfl rfl hl.1 rfl (Nat.le_of_ble_eq_true rfl) dX7_takeNumbers_25 (fun w36 H locs hp37 h => ?_)
  obtain ⟨ok38, kk39, hr40⟩ := hp37
  obtain ⟨y41, y42, y43, y44, h45, h46, h47, h48, h49⟩ := hr40
  have q50 := txd ok38 h45
  have kx51 : F57 w w36 := F57.tr F57.rf kk39.f57
  refine lv_aload_n hx hb dX7_takeNumbers_28 rfl (lv_at hl 2 rfl) ?_
  refine r_get kc7 X h 55 5 (by decide) rfl h45 (by decide) kv_392 rfl dX7_takeNumbers_29 ?_
  refine lv_iconst (v := 2) hx hb dX7_takeNumbers_32 (by decide) ?_
  refine lv_icmp_ne (tgt := 47) hx hb dX7_takeNumbers_33 (by decide) (fun hc52 => ?_) (fun hc52 => ?_)
  · have hc52 : ¬ (y43).toInt = 2 := i_ne hc52 rfl rfl
    refine lv_iconst (v := 0) hx hb dX7_takeNumbers_47 (by decide) ?_
    have hit53 : it2 bs z.toNatClampNeg b.toNatClampNeg Gh = .inl y41.toNatClampNeg := by
      unfold it2
      rw [pick_n (h49.nonum (by omega)), h49.s]
    exact e_n X h hr hlk rfl dX7_takeNumbers_48 ⟨ok38, kx51, ⟨⟨_, _, _, _, h45, by omega, by omega, by omega, Or.inr ⟨hit53, rfl⟩⟩, (RG.f57 hR kx51)⟩⟩
  · have hc52 : (y43).toInt = 2 := i_eq hc52 rfl rfl
    refine lv_aload_n hx hb dX7_takeNumbers_36 rfl (lv_at hl 2 rfl) ?_
    refine lv_aload_n hx hb dX7_takeNumbers_37 rfl (lv_at hl 3 rfl) ?_
    refine lv_iload_n hx hb dX7_takeNumbers_38 rfl (lv_at hl 4 rfl) ?_
    refine lv_iload hx hb dX7_takeNumbers_39 (lv_at hl 0 rfl) ?_
    have f54 : w36 14 = .inr (1, [.int ho2, .int so1, .int mi3, .int ca4, .int ja5, .ref (ad 15), .ref (ad 16), .ref (ad 17), .ref (ad 18), .ref (ad 19), .ref (ad 20), .ref (ad 21), .ref (ad 23), .ref (ad 25)]) := (kk39 14 (by decide)).trans p10
    have f55 : w36 19 = .inl (cI, 4, .inl co9) := (kk39 19 (by decide)).trans p14
    have f56 : w36 57 = .inl (cI, 3, .inl f) := (kk39 57 (by decide)).trans p57
    refine n_Vi (na := 3) (As := [.ref (ad 14), .int 2, .int 0]) (rest := []) X hD hN h rfl (c_F_fits20 l G cI cB cZ cO ad w36 z y41 y42 y43 y44 ho2 so1 mi3 ca4 ja5 co9 f ok38 h45 (by omega) (by omega) (by omega) f54 f55 p30 f56 pn (by omega) (by omega)) ⟨kv_421, kv_422, kv_423, kv_388, kv_424⟩ rfl ⟨by decide, by decide, by decide⟩ ⟨Nat.le_of_ble_eq_true rfl, Nat.le_of_ble_eq_true rfl⟩ ⟨Nat.zero_le _, Nat.zero_le _⟩ (by decide) h45 rfl rfl hl.1 rfl (Nat.le_of_ble_eq_true rfl) dX7_takeNumbers_41 (fun r57 w58 H locs hp59 h => ?_)
    obtain ⟨rfl, hr60⟩ := hp59
    rcases hr60 with ⟨hq61, rfl⟩ | ⟨hq61, rfl⟩
    · refine lv_if_ne (tgt := 49) hx hb dX7_takeNumbers_44 (by decide) (fun _ => ?_) (fun hc => absurd hc (by decide))
      refine lv_aload_n hx hb dX7_takeNumbers_49 rfl (lv_at hl 2 rfl) ?_
      refine r_get kc7 X h 55 1 (by decide) rfl h45 (by decide) kv_413 rfl dX7_takeNumbers_50 ?_
      refine lv_iload hx hb dX7_takeNumbers_53 (lv_at hl 0 rfl) ?_
      refine lv_aload_n hx hb dX7_takeNumbers_55 rfl (lv_at hl 2 rfl) ?_
      refine r_get kc7 X h 55 6 (by decide) rfl h45 (by decide) kv_390 rfl dX7_takeNumbers_56 ?_
      obtain ⟨g62, e63⟩ : ∃ z : Nat → Int32, upd f 0 y44 = z := ⟨_, rfl⟩
      have p65 : rgA 0 99 g62 := rgA_upd pn e63 (by omega) (by omega)
      refine o_iast (f1 := g62) X hD h 57 0 (by decide) rfl f56 rfl (by unfold vp_in; decide) e63 dX7_takeNumbers_59 (fun H locs w66 e67 h => ?_)
      have f68 : w66 57 = .inl (cI, 3, .inl g62) := (congrFun e67 _).trans (va_up_self _ _ _)
      have ok69 : OK cI cB cZ cO ad w66 := OK.up ok38 e67 (sA_mk p65)
      have kx70 : F57 w w66 := F57.up kx51 e67 (by decide)
      refine lv_iinc (v := 1) (lv' := [(4, .int 1), (3, .int 1), (0, .ref (ad 55)), (1, .ref (ad 14)), (2, .int 2)]) hx hb dX7_takeNumbers_60 hl (k := 0) rfl rfl (by decide) rfl (fun ls hl => ?_)
      refine lv_goto (tgt := 8) hx hb dX7_takeNumbers_63 (by decide) ?_
      refine lv_iload hx hb dX7_takeNumbers_8 (lv_at hl 0 rfl) ?_
      refine lv_iload_n hx hb dX7_takeNumbers_10 rfl (lv_at hl 1 rfl) ?_
      refine lv_icmp_ge (tgt := 66) hx hb dX7_takeNumbers_11 (by decide) (fun _ => ?_) (fun hc => absurd (by decide) hc)
      refine lv_aload_n hx hb dX7_takeNumbers_66 rfl (lv_at hl 2 rfl) ?_
      have f71 : w66 55 = .inr (5, [.ref (ad 56), .ref (ad 57), .int z, .int y41, .int y42, .int y43, .int y44]) := by rw [e67, va_up_ne _ _ (by decide)]; exact h45
      have f72 : w36 56 = .inl (cB, 150, .inl bs) := (kk39 56 (by decide)).trans p56
      have f73 : w66 56 = .inl (cB, 150, .inl bs) := by rw [e67, va_up_ne _ _ (by decide)]; exact f72
      refine n_Vv (na := 0) (As := []) (rest := []) X hD hN h rfl (c_F_step l G cI cB cZ cO ad w66 z y41 y42 y43 y44 bs ok69 f71 (by omega) f73 (by first | omega | decide | (simp only [k00]; omega)) (by first | omega | decide | (simp only [k00]; omega)) (by first | omega | decide | (simp only [k00]; omega)) (by first | omega | decide | (simp only [k00]; omega))) ⟨kv_417, kv_418, kv_419, kv_388, kv_420⟩ rfl ⟨by decide, by decide, by decide⟩ ⟨Nat.le_of_ble_eq_true rfl, Nat.le_of_ble_eq_true rfl⟩ ⟨Nat.zero_le _, Nat.zero_le _⟩ (by decide) f71 rfl rfl hl.1 rfl (Nat.le_of_ble_eq_true rfl) dX7_takeNumbers_67 (fun w75 H locs hp76 h => ?_)
      obtain ⟨ok77, kk78, hr79⟩ := hp76
      obtain ⟨y80, y81, y82, y83, h84, h85, h86, h87, h88⟩ := hr79
      have q89 := txd ok77 h84
      have kx90 : F57 w w75 := F57.tr kx70 kk78.f57
      refine lv_aload_n hx hb dX7_takeNumbers_70 rfl (lv_at hl 2 rfl) ?_
      refine r_get kc7 X h 55 5 (by decide) rfl h84 (by decide) kv_392 rfl dX7_takeNumbers_71 ?_
      refine lv_iconst (v := 3) hx hb dX7_takeNumbers_74 (by decide) ?_
      refine lv_icmp_ne (tgt := 82) hx hb dX7_takeNumbers_75 (by decide) (fun hc91 => ?_) (fun hc91 => ?_)
      · have hc91 : ¬ (y82).toInt = 3 := i_ne hc91 rfl rfl
        refine lv_iconst (v := 0) hx hb dX7_takeNumbers_82 (by decide) ?_
        have hit92 : it2 bs z.toNatClampNeg b.toNatClampNeg Gh = .inl y80.toNatClampNeg := by
          unfold it2
          rw [pick_y (h49.num (by omega) (by omega) (by omega))]
          rw [h49.e]
          rw [h88.nostop _ (by omega)]
        exact e_n X h hr hlk rfl dX7_takeNumbers_83 ⟨ok77, kx90, ⟨⟨_, _, _, _, h84, by omega, by omega, by omega, Or.inr ⟨hit92, rfl⟩⟩, (RG.f57 hR kx90)⟩⟩
      · have hc91 : (y82).toInt = 3 := i_eq hc91 rfl rfl
        refine lv_iconst (v := 1) hx hb dX7_takeNumbers_78 (by decide) ?_
        refine lv_goto (tgt := 83) hx hb dX7_takeNumbers_79 (by decide) ?_
        have f94 : w75 57 = .inl (cI, 3, .inl g62) := (kk78 57 (by decide)).trans f68
        have e95 : g62 0 = y44 := by rw [← e63, pk_us]
        have hit93 : it2 bs z.toNatClampNeg b.toNatClampNeg Gh = .inr (y81.toNatClampNeg, layJF Gh (g62 0)) := by
          unfold it2
          rw [pick_y (h49.num (by omega) (by omega) (by omega))]
          rw [h49.e]
          rw [h88.stop _ (by omega)]
          rw [h49.iv (by omega), e95]
        exact e_n X h hr hlk rfl dX7_takeNumbers_83 ⟨ok77, kx90, ⟨⟨_, _, _, _, h84, by omega, by omega, by omega, Or.inl ⟨⟨g62, f94, trivial, hit93⟩, rfl⟩⟩, (RG.f57 hR kx90)⟩⟩
    · refine lv_if_ne (tgt := 49) hx hb dX7_takeNumbers_44 (by decide) (fun hc => absurd (by decide) hc) (fun _ => ?_)
      refine lv_iconst (v := 0) hx hb dX7_takeNumbers_47 (by decide) ?_
      have hit96 : it2 bs z.toNatClampNeg b.toNatClampNeg Gh = .inl y41.toNatClampNeg := by
        unfold it2
        rw [pick_n (h49.nonum (by omega)), h49.s]
      exact e_n X h hr hlk rfl dX7_takeNumbers_48 ⟨ok38, kx51, ⟨⟨_, _, _, _, h45, by omega, by omega, by omega, Or.inr ⟨hit96, rfl⟩⟩, (RG.f57 hR kx51)⟩⟩

set_option maxHeartbeats 4000000 in
set_option maxRecDepth 100000 in
theorem c_F_takeNumbers3 (l : Launch) (G : va_G) (cI cB cZ cO : ClassId) (ad : Nat → Nat) (w : Nat → va_E) (z a b c0 d : Int32) (bs f : Nat → Int32) (Gh : Nat → Int32) (ok : OK cI cB cZ cO ad w)   (pf : w 55 = .inr (5, [.ref (ad 56), .ref (ad 57), .int z, .int a, .int b, .int c0, .int d])) (hz1 : z.toInt ≤ 150) (p56 : w 56 = .inl (cB, 150, .inl bs)) (hb0 : 0 ≤ b.toInt) (hbz : b.toInt ≤ z.toInt) (hd0 : 0 ≤ d.toInt) (hd1 : d.toInt ≤ 99) (p57 : w 57 = .inl (cI, 3, .inl f)) (pn : rgA 0 99 f) (hR : RG cI ad w Gh) : NI l G (tyq cI cB cZ cO) yX7_takeNumbers cX7_takeNumbers 5 (some .boolean) 3 66 74 ad w [.ref (ad 55), .ref (ad 14), .int 3] (fun r w1 => OK cI cB cZ cO ad w1 ∧ F57 w w1 ∧ (∃ a1 b1 c1 d1 : Int32, w1 55 = .inr (5, [.ref (ad 56), .ref (ad 57), .int z, .int a1, .int b1, .int c1, .int d1]) ∧ 0 ≤ a1.toInt ∧ a1.toInt ≤ b1.toInt ∧ b1.toInt ≤ z.toInt ∧ ((∃ f1 : Nat → Int32, w1 57 = .inl (cI, 3, .inl f1) ∧ ((f1 0).toInt < (Gh 0).toInt ∧ (f1 1).toInt < (Gh 1).toInt ∧ (f1 0).toInt ≤ 6 ∧ (f1 1).toInt ≤ 3) ∧ it3 bs z.toNatClampNeg b.toNatClampNeg Gh = .inr (b1.toNatClampNeg, goLaF Gh (f1 0) (f1 1).toNatClampNeg)) ∧ r = 1 ∨ it3 bs z.toNatClampNeg b.toNatClampNeg Gh = .inl a1.toNatClampNeg ∧ r = 0)) ∧ RG cI ad w1 Gh) := by
  refine nk_i (own := "NoonShade$Text") rfl (by decide) (Nat.le_of_ble_eq_true rfl) ?_
  intro p e s m below meth c ls X hD hN hr hlk h hl
  have hx := X.1.1
  have hb := X.1.2.1
  have hown := X.1.2.2.2.1
  have hts := X.1.2.2.2.2
  have hl : lv_has ls 5 [(0, .ref (ad 55)), (1, .ref (ad 14)), (2, .int 3)] := hl
  obtain ⟨so1, ho2, mi3, ca4, ja5, ck6, hh7, jk8, co9, p10, p11, p12, p13, p14, p15, p16, hG17⟩ := id hR
  have p10 : w 14 = .inr (1, [.int ho2, .int so1, .int mi3, .int ca4, .int ja5, .ref (ad 15), .ref (ad 16), .ref (ad 17), .ref (ad 18), .ref (ad 19), .ref (ad 20), .ref (ad 21), .ref (ad 23), .ref (ad 25)]) := p10
  obtain ⟨hG18, hG19, hG20, hG21, hG22, hG23, hG24, hG25, hG26, hG27, hG28⟩ := id hG17
  have p29 : rgA 0 9 hh7 := sA_pred (show sA cI 7 (rgA 0 9) (w 16) from ok 16 (by decide)) p12
  have p30 : rgA 0 60 co9 := sA_pred (show sA cI 4 (rgA 0 60) (w 19) from ok 19 (by decide)) p14
  have n0_ := congrArg Int32.toInt hG20
  have n1_ := congrArg Int32.toInt hG21
  have n7_ := congrArg Int32.toInt hG19
  refine lv_iload_n hx hb dX7_takeNumbers_0 rfl (lv_at hl 2 rfl) ?_
  refine n_Si (na := 1) (As := [.int 3]) (rest := []) X hD hN h (c_numbersOf3 l G cI cB cZ cO ad w) ⟨kv_414, kv_415, kv_388, kv_416⟩ ⟨by decide, by decide, by decide⟩ ⟨Nat.le_of_ble_eq_true rfl, Nat.le_of_ble_eq_true rfl⟩ ⟨Nat.zero_le _, Nat.zero_le _⟩ rfl hl.1 rfl (Nat.le_of_ble_eq_true rfl) dX7_takeNumbers_1 (fun r31 w32 H locs hp33 h => ?_)
  obtain ⟨rfl, h34⟩ := hp33
  subst h34
  refine lv_istore_n (lv' := [(3, .int 2), (0, .ref (ad 55)), (1, .ref (ad 14)), (2, .int 3)]) hx hb dX7_takeNumbers_4 rfl hl (by decide) rfl (fun ls hl => ?_)
  refine lv_iconst (v := 0) hx hb dX7_takeNumbers_5 (by decide) ?_
  refine lv_istore (lv' := [(4, .int 0), (3, .int 2), (0, .ref (ad 55)), (1, .ref (ad 14)), (2, .int 3)]) hx hb dX7_takeNumbers_6 hl (by decide) rfl (fun ls hl => ?_)
  refine lv_iload hx hb dX7_takeNumbers_8 (lv_at hl 0 rfl) ?_
  refine lv_iload_n hx hb dX7_takeNumbers_10 rfl (lv_at hl 1 rfl) ?_
  refine lv_icmp_ge (tgt := 66) hx hb dX7_takeNumbers_11 (by decide) (fun hc => absurd hc (by decide)) (fun _ => ?_)
  refine lv_iload hx hb dX7_takeNumbers_14 (lv_at hl 0 rfl) ?_
  refine lv_aload_n hx hb dX7_takeNumbers_16 rfl (lv_at hl 2 rfl) ?_
  refine r_get kc7 X h 55 1 (by decide) rfl pf (by decide) kv_413 rfl dX7_takeNumbers_17 ?_
  refine r_alen X h (v := 3) 57 0 (by decide) rfl p57 rfl rfl dX7_takeNumbers_20 ?_
  refine lv_icmp_ge (tgt := 66) hx hb dX7_takeNumbers_21 (by decide) (fun hc => absurd hc (by decide)) (fun _ => ?_)
  refine lv_aload_n hx hb dX7_takeNumbers_24 rfl (lv_at hl 2 rfl) ?_
  refine n_Vv (na := 0) (As := []) (rest := []) X hD hN h rfl (c_F_step l G cI cB cZ cO ad w z a b c0 d bs ok pf (by omega) p56 (by first | omega | decide | (simp only [k00]; omega)) (by first | omega | decide | (simp only [k00]; omega)) (by first | omega | decide | (simp only [k00]; omega)) (by first | omega | decide | (simp only [k00]; omega))) ⟨kv_417, kv_418, kv_419, kv_388, kv_420⟩ rfl ⟨by decide, by decide, by decide⟩ ⟨Nat.le_of_ble_eq_true rfl, Nat.le_of_ble_eq_true rfl⟩ ⟨Nat.zero_le _, Nat.zero_le _⟩ (by decide) pf rfl rfl hl.1 rfl (Nat.le_of_ble_eq_true rfl) dX7_takeNumbers_25 (fun w36 H locs hp37 h => ?_)
  obtain ⟨ok38, kk39, hr40⟩ := hp37
  obtain ⟨y41, y42, y43, y44, h45, h46, h47, h48, h49⟩ := hr40
  have q50 := txd ok38 h45
  have kx51 : F57 w w36 := F57.tr F57.rf kk39.f57
  refine lv_aload_n hx hb dX7_takeNumbers_28 rfl (lv_at hl 2 rfl) ?_
  refine r_get kc7 X h 55 5 (by decide) rfl h45 (by decide) kv_392 rfl dX7_takeNumbers_29 ?_
  refine lv_iconst (v := 2) hx hb dX7_takeNumbers_32 (by decide) ?_
  refine lv_icmp_ne (tgt := 47) hx hb dX7_takeNumbers_33 (by decide) (fun hc52 => ?_) (fun hc52 => ?_)
  · have hc52 : ¬ (y43).toInt = 2 := i_ne hc52 rfl rfl
    refine lv_iconst (v := 0) hx hb dX7_takeNumbers_47 (by decide) ?_
    have hit53 : it3 bs z.toNatClampNeg b.toNatClampNeg Gh = .inl y41.toNatClampNeg := by
      unfold it3
      rw [pick_n (fun q9 => by first | exact h49.nonum (by omega) q9.1 | (have q1 := h49.un q9.1; have q2 := q9.2; rw [h49.iv q1.1, hG19] at q2; omega)), h49.s]
    exact e_n X h hr hlk rfl dX7_takeNumbers_48 ⟨ok38, kx51, ⟨⟨_, _, _, _, h45, by omega, by omega, by omega, Or.inr ⟨hit53, rfl⟩⟩, (RG.f57 hR kx51)⟩⟩
  · have hc52 : (y43).toInt = 2 := i_eq hc52 rfl rfl
    refine lv_aload_n hx hb dX7_takeNumbers_36 rfl (lv_at hl 2 rfl) ?_
    refine lv_aload_n hx hb dX7_takeNumbers_37 rfl (lv_at hl 3 rfl) ?_
    refine lv_iload_n hx hb dX7_takeNumbers_38 rfl (lv_at hl 4 rfl) ?_
    refine lv_iload hx hb dX7_takeNumbers_39 (lv_at hl 0 rfl) ?_
    have f54 : w36 14 = .inr (1, [.int ho2, .int so1, .int mi3, .int ca4, .int ja5, .ref (ad 15), .ref (ad 16), .ref (ad 17), .ref (ad 18), .ref (ad 19), .ref (ad 20), .ref (ad 21), .ref (ad 23), .ref (ad 25)]) := (kk39 14 (by decide)).trans p10
    have f55 : w36 19 = .inl (cI, 4, .inl co9) := (kk39 19 (by decide)).trans p14
    have f56 : w36 57 = .inl (cI, 3, .inl f) := (kk39 57 (by decide)).trans p57
    refine n_Vi (na := 3) (As := [.ref (ad 14), .int 3, .int 0]) (rest := []) X hD hN h rfl (c_F_fits30 l G cI cB cZ cO ad w36 z y41 y42 y43 y44 ho2 so1 mi3 ca4 ja5 co9 f ok38 h45 (by omega) (by omega) (by omega) f54 f55 p30 f56 pn (by omega) (by omega)) ⟨kv_421, kv_422, kv_423, kv_388, kv_424⟩ rfl ⟨by decide, by decide, by decide⟩ ⟨Nat.le_of_ble_eq_true rfl, Nat.le_of_ble_eq_true rfl⟩ ⟨Nat.zero_le _, Nat.zero_le _⟩ (by decide) h45 rfl rfl hl.1 rfl (Nat.le_of_ble_eq_true rfl) dX7_takeNumbers_41 (fun r57 w58 H locs hp59 h => ?_)
    obtain ⟨rfl, hr60⟩ := hp59
    rcases hr60 with ⟨hq61, rfl⟩ | ⟨hq61, rfl⟩
    · refine lv_if_ne (tgt := 49) hx hb dX7_takeNumbers_44 (by decide) (fun _ => ?_) (fun hc => absurd hc (by decide))
      refine lv_aload_n hx hb dX7_takeNumbers_49 rfl (lv_at hl 2 rfl) ?_
      refine r_get kc7 X h 55 1 (by decide) rfl h45 (by decide) kv_413 rfl dX7_takeNumbers_50 ?_
      refine lv_iload hx hb dX7_takeNumbers_53 (lv_at hl 0 rfl) ?_
      refine lv_aload_n hx hb dX7_takeNumbers_55 rfl (lv_at hl 2 rfl) ?_
      refine r_get kc7 X h 55 6 (by decide) rfl h45 (by decide) kv_390 rfl dX7_takeNumbers_56 ?_
      obtain ⟨g62, e63⟩ : ∃ z : Nat → Int32, upd f 0 y44 = z := ⟨_, rfl⟩
      have p65 : rgA 0 99 g62 := rgA_upd pn e63 (by omega) (by omega)
      refine o_iast (f1 := g62) X hD h 57 0 (by decide) rfl f56 rfl (by unfold vp_in; decide) e63 dX7_takeNumbers_59 (fun H locs w66 e67 h => ?_)
      have f68 : w66 57 = .inl (cI, 3, .inl g62) := (congrFun e67 _).trans (va_up_self _ _ _)
      have ok69 : OK cI cB cZ cO ad w66 := OK.up ok38 e67 (sA_mk p65)
      have kx70 : F57 w w66 := F57.up kx51 e67 (by decide)
      refine lv_iinc (v := 1) (lv' := [(4, .int 1), (3, .int 2), (0, .ref (ad 55)), (1, .ref (ad 14)), (2, .int 3)]) hx hb dX7_takeNumbers_60 hl (k := 0) rfl rfl (by decide) rfl (fun ls hl => ?_)
      refine lv_goto (tgt := 8) hx hb dX7_takeNumbers_63 (by decide) ?_
      refine lv_iload hx hb dX7_takeNumbers_8 (lv_at hl 0 rfl) ?_
      refine lv_iload_n hx hb dX7_takeNumbers_10 rfl (lv_at hl 1 rfl) ?_
      refine lv_icmp_ge (tgt := 66) hx hb dX7_takeNumbers_11 (by decide) (fun hc => absurd hc (by decide)) (fun _ => ?_)
      refine lv_iload hx hb dX7_takeNumbers_14 (lv_at hl 0 rfl) ?_
      refine lv_aload_n hx hb dX7_takeNumbers_16 rfl (lv_at hl 2 rfl) ?_
      have f71 : w66 55 = .inr (5, [.ref (ad 56), .ref (ad 57), .int z, .int y41, .int y42, .int y43, .int y44]) := by rw [e67, va_up_ne _ _ (by decide)]; exact h45
      refine r_get kc7 X h 55 1 (by decide) rfl f71 (by decide) kv_413 rfl dX7_takeNumbers_17 ?_
      refine r_alen X h (v := 3) 57 0 (by decide) rfl f68 rfl rfl dX7_takeNumbers_20 ?_
      refine lv_icmp_ge (tgt := 66) hx hb dX7_takeNumbers_21 (by decide) (fun hc => absurd hc (by decide)) (fun _ => ?_)
      refine lv_aload_n hx hb dX7_takeNumbers_24 rfl (lv_at hl 2 rfl) ?_
      have f72 : w36 56 = .inl (cB, 150, .inl bs) := (kk39 56 (by decide)).trans p56
      have f73 : w66 56 = .inl (cB, 150, .inl bs) := by rw [e67, va_up_ne _ _ (by decide)]; exact f72
      refine n_Vv (na := 0) (As := []) (rest := []) X hD hN h rfl (c_F_step l G cI cB cZ cO ad w66 z y41 y42 y43 y44 bs ok69 f71 (by omega) f73 (by first | omega | decide | (simp only [k00]; omega)) (by first | omega | decide | (simp only [k00]; omega)) (by first | omega | decide | (simp only [k00]; omega)) (by first | omega | decide | (simp only [k00]; omega))) ⟨kv_417, kv_418, kv_419, kv_388, kv_420⟩ rfl ⟨by decide, by decide, by decide⟩ ⟨Nat.le_of_ble_eq_true rfl, Nat.le_of_ble_eq_true rfl⟩ ⟨Nat.zero_le _, Nat.zero_le _⟩ (by decide) f71 rfl rfl hl.1 rfl (Nat.le_of_ble_eq_true rfl) dX7_takeNumbers_25 (fun w75 H locs hp76 h => ?_)
      obtain ⟨ok77, kk78, hr79⟩ := hp76
      obtain ⟨y80, y81, y82, y83, h84, h85, h86, h87, h88⟩ := hr79
      have q89 := txd ok77 h84
      have kx90 : F57 w w75 := F57.tr kx70 kk78.f57
      refine lv_aload_n hx hb dX7_takeNumbers_28 rfl (lv_at hl 2 rfl) ?_
      refine r_get kc7 X h 55 5 (by decide) rfl h84 (by decide) kv_392 rfl dX7_takeNumbers_29 ?_
      refine lv_iconst (v := 2) hx hb dX7_takeNumbers_32 (by decide) ?_
      refine lv_icmp_ne (tgt := 47) hx hb dX7_takeNumbers_33 (by decide) (fun hc91 => ?_) (fun hc91 => ?_)
      · have hc91 : ¬ (y82).toInt = 2 := i_ne hc91 rfl rfl
        refine lv_iconst (v := 0) hx hb dX7_takeNumbers_47 (by decide) ?_
        have hit92 : it3 bs z.toNatClampNeg b.toNatClampNeg Gh = .inl y80.toNatClampNeg := by
          unfold it3
          rw [pick_y ⟨h49.num (by omega) (by omega) (by omega), by rw [h49.iv (by omega), hG19]; omega⟩]
          rw [h49.e]
          rw [pick_n (h88.nonum (by omega)), h88.s]
        exact e_n X h hr hlk rfl dX7_takeNumbers_48 ⟨ok77, kx90, ⟨⟨_, _, _, _, h84, by omega, by omega, by omega, Or.inr ⟨hit92, rfl⟩⟩, (RG.f57 hR kx90)⟩⟩
      · have hc91 : (y82).toInt = 2 := i_eq hc91 rfl rfl
        refine lv_aload_n hx hb dX7_takeNumbers_36 rfl (lv_at hl 2 rfl) ?_
        refine lv_aload_n hx hb dX7_takeNumbers_37 rfl (lv_at hl 3 rfl) ?_
        refine lv_iload_n hx hb dX7_takeNumbers_38 rfl (lv_at hl 4 rfl) ?_
        refine lv_iload hx hb dX7_takeNumbers_39 (lv_at hl 0 rfl) ?_
        have f93 : w66 14 = .inr (1, [.int ho2, .int so1, .int mi3, .int ca4, .int ja5, .ref (ad 15), .ref (ad 16), .ref (ad 17), .ref (ad 18), .ref (ad 19), .ref (ad 20), .ref (ad 21), .ref (ad 23), .ref (ad 25)]) := by rw [e67, va_up_ne _ _ (by decide)]; exact f54
        have f94 : w75 14 = .inr (1, [.int ho2, .int so1, .int mi3, .int ca4, .int ja5, .ref (ad 15), .ref (ad 16), .ref (ad 17), .ref (ad 18), .ref (ad 19), .ref (ad 20), .ref (ad 21), .ref (ad 23), .ref (ad 25)]) := (kk78 14 (by decide)).trans f93
        have f95 : w66 19 = .inl (cI, 4, .inl co9) := by rw [e67, va_up_ne _ _ (by decide)]; exact f55
        have f96 : w75 19 = .inl (cI, 4, .inl co9) := (kk78 19 (by decide)).trans f95
        have f97 : w75 57 = .inl (cI, 3, .inl g62) := (kk78 57 (by decide)).trans f68
        refine n_Vi (na := 3) (As := [.ref (ad 14), .int 3, .int 1]) (rest := []) X hD hN h rfl (c_F_fits31 l G cI cB cZ cO ad w75 z y80 y81 y82 y83 ho2 so1 mi3 ca4 ja5 co9 g62 ok77 h84 (by omega) (by omega) (by omega) f94 f96 p30 f97 p65 (by omega) (by omega)) ⟨kv_421, kv_422, kv_423, kv_388, kv_424⟩ rfl ⟨by decide, by decide, by decide⟩ ⟨Nat.le_of_ble_eq_true rfl, Nat.le_of_ble_eq_true rfl⟩ ⟨Nat.zero_le _, Nat.zero_le _⟩ (by decide) h84 rfl rfl hl.1 rfl (Nat.le_of_ble_eq_true rfl) dX7_takeNumbers_41 (fun r98 w99 H locs hp100 h => ?_)
        obtain ⟨rfl, hr101⟩ := hp100
        rcases hr101 with ⟨hq102, rfl⟩ | ⟨hq102, rfl⟩
        · refine lv_if_ne (tgt := 49) hx hb dX7_takeNumbers_44 (by decide) (fun _ => ?_) (fun hc => absurd hc (by decide))
          refine lv_aload_n hx hb dX7_takeNumbers_49 rfl (lv_at hl 2 rfl) ?_
          refine r_get kc7 X h 55 1 (by decide) rfl h84 (by decide) kv_413 rfl dX7_takeNumbers_50 ?_
          refine lv_iload hx hb dX7_takeNumbers_53 (lv_at hl 0 rfl) ?_
          refine lv_aload_n hx hb dX7_takeNumbers_55 rfl (lv_at hl 2 rfl) ?_
          refine r_get kc7 X h 55 6 (by decide) rfl h84 (by decide) kv_390 rfl dX7_takeNumbers_56 ?_
          obtain ⟨g103, e104⟩ : ∃ z : Nat → Int32, upd g62 1 y83 = z := ⟨_, rfl⟩
          have p106 : rgA 0 99 g103 := rgA_upd p65 e104 (by omega) (by omega)
          refine o_iast (f1 := g103) X hD h 57 0 (by decide) rfl f97 rfl (by unfold vp_in; decide) e104 dX7_takeNumbers_59 (fun H locs w107 e108 h => ?_)
          have f109 : w107 57 = .inl (cI, 3, .inl g103) := (congrFun e108 _).trans (va_up_self _ _ _)
          have ok110 : OK cI cB cZ cO ad w107 := OK.up ok77 e108 (sA_mk p106)
          have kx111 : F57 w w107 := F57.up kx90 e108 (by decide)
          refine lv_iinc (v := 2) (lv' := [(4, .int 2), (3, .int 2), (0, .ref (ad 55)), (1, .ref (ad 14)), (2, .int 3)]) hx hb dX7_takeNumbers_60 hl (k := 0) rfl rfl (by decide) rfl (fun ls hl => ?_)
          refine lv_goto (tgt := 8) hx hb dX7_takeNumbers_63 (by decide) ?_
          refine lv_iload hx hb dX7_takeNumbers_8 (lv_at hl 0 rfl) ?_
          refine lv_iload_n hx hb dX7_takeNumbers_10 rfl (lv_at hl 1 rfl) ?_
          refine lv_icmp_ge (tgt := 66) hx hb dX7_takeNumbers_11 (by decide) (fun _ => ?_) (fun hc => absurd (by decide) hc)
          refine lv_aload_n hx hb dX7_takeNumbers_66 rfl (lv_at hl 2 rfl) ?_
          have f112 : w107 55 = .inr (5, [.ref (ad 56), .ref (ad 57), .int z, .int y80, .int y81, .int y82, .int y83]) := by rw [e108, va_up_ne _ _ (by decide)]; exact h84
          have f113 : w75 56 = .inl (cB, 150, .inl bs) := (kk78 56 (by decide)).trans f73
          have f114 : w107 56 = .inl (cB, 150, .inl bs) := by rw [e108, va_up_ne _ _ (by decide)]; exact f113
          refine n_Vv (na := 0) (As := []) (rest := []) X hD hN h rfl (c_F_step l G cI cB cZ cO ad w107 z y80 y81 y82 y83 bs ok110 f112 (by omega) f114 (by first | omega | decide | (simp only [k00]; omega)) (by first | omega | decide | (simp only [k00]; omega)) (by first | omega | decide | (simp only [k00]; omega)) (by first | omega | decide | (simp only [k00]; omega))) ⟨kv_417, kv_418, kv_419, kv_388, kv_420⟩ rfl ⟨by decide, by decide, by decide⟩ ⟨Nat.le_of_ble_eq_true rfl, Nat.le_of_ble_eq_true rfl⟩ ⟨Nat.zero_le _, Nat.zero_le _⟩ (by decide) f112 rfl rfl hl.1 rfl (Nat.le_of_ble_eq_true rfl) dX7_takeNumbers_67 (fun w116 H locs hp117 h => ?_)
          obtain ⟨ok118, kk119, hr120⟩ := hp117
          obtain ⟨y121, y122, y123, y124, h125, h126, h127, h128, h129⟩ := hr120
          have q130 := txd ok118 h125
          have kx131 : F57 w w116 := F57.tr kx111 kk119.f57
          refine lv_aload_n hx hb dX7_takeNumbers_70 rfl (lv_at hl 2 rfl) ?_
          refine r_get kc7 X h 55 5 (by decide) rfl h125 (by decide) kv_392 rfl dX7_takeNumbers_71 ?_
          refine lv_iconst (v := 3) hx hb dX7_takeNumbers_74 (by decide) ?_
          refine lv_icmp_ne (tgt := 82) hx hb dX7_takeNumbers_75 (by decide) (fun hc132 => ?_) (fun hc132 => ?_)
          · have hc132 : ¬ (y123).toInt = 3 := i_ne hc132 rfl rfl
            refine lv_iconst (v := 0) hx hb dX7_takeNumbers_82 (by decide) ?_
            have hit133 : it3 bs z.toNatClampNeg b.toNatClampNeg Gh = .inl y121.toNatClampNeg := by
              unfold it3
              rw [pick_y ⟨h49.num (by omega) (by omega) (by omega), by rw [h49.iv (by omega), hG19]; omega⟩]
              rw [h49.e]
              rw [pick_y (h88.num (by omega) (by omega) (by omega))]
              rw [h88.e]
              rw [h129.nostop _ (by omega)]
            exact e_n X h hr hlk rfl dX7_takeNumbers_83 ⟨ok118, kx131, ⟨⟨_, _, _, _, h125, by omega, by omega, by omega, Or.inr ⟨hit133, rfl⟩⟩, (RG.f57 hR kx131)⟩⟩
          · have hc132 : (y123).toInt = 3 := i_eq hc132 rfl rfl
            refine lv_iconst (v := 1) hx hb dX7_takeNumbers_78 (by decide) ?_
            refine lv_goto (tgt := 83) hx hb dX7_takeNumbers_79 (by decide) ?_
            have f135 : w116 57 = .inl (cI, 3, .inl g103) := (kk119 57 (by decide)).trans f109
            have e136 : g103 0 = y44 := by rw [← e104, pk_un (by decide), ← e63, pk_us]
            have e137 : g103 1 = y83 := by rw [← e104, pk_us]
            have hit134 : it3 bs z.toNatClampNeg b.toNatClampNeg Gh = .inr (y122.toNatClampNeg, goLaF Gh (g103 0) (g103 1).toNatClampNeg) := by
              unfold it3
              rw [pick_y ⟨h49.num (by omega) (by omega) (by omega), by rw [h49.iv (by omega), hG19]; omega⟩]
              rw [h49.e]
              rw [pick_y (h88.num (by omega) (by omega) (by omega))]
              rw [h88.e]
              rw [h129.stop _ (by omega)]
              rw [h49.iv (by omega), h88.iv (by omega), e136, e137]
            exact e_n X h hr hlk rfl dX7_takeNumbers_83 ⟨ok118, kx131, ⟨⟨_, _, _, _, h125, by omega, by omega, by omega, Or.inl ⟨⟨g103, f135, ⟨by rw [e136]; omega, by rw [e137]; omega, by rw [e136]; omega, by rw [e137]; omega⟩, hit134⟩, rfl⟩⟩, (RG.f57 hR kx131)⟩⟩
        · refine lv_if_ne (tgt := 49) hx hb dX7_takeNumbers_44 (by decide) (fun hc => absurd (by decide) hc) (fun _ => ?_)
          refine lv_iconst (v := 0) hx hb dX7_takeNumbers_47 (by decide) ?_
          have hit138 : it3 bs z.toNatClampNeg b.toNatClampNeg Gh = .inl y80.toNatClampNeg := by
            unfold it3
            rw [pick_y ⟨h49.num (by omega) (by omega) (by omega), by rw [h49.iv (by omega), hG19]; omega⟩]
            rw [h49.e]
            rw [pick_n (h88.nonum (by omega)), h88.s]
          exact e_n X h hr hlk rfl dX7_takeNumbers_48 ⟨ok77, kx90, ⟨⟨_, _, _, _, h84, by omega, by omega, by omega, Or.inr ⟨hit138, rfl⟩⟩, (RG.f57 hR kx90)⟩⟩
    · refine lv_if_ne (tgt := 49) hx hb dX7_takeNumbers_44 (by decide) (fun hc => absurd (by decide) hc) (fun _ => ?_)
      refine lv_iconst (v := 0) hx hb dX7_takeNumbers_47 (by decide) ?_
      have hit139 : it3 bs z.toNatClampNeg b.toNatClampNeg Gh = .inl y41.toNatClampNeg := by
        unfold it3
        rw [pick_n (fun q9 => by first | exact h49.nonum (by omega) q9.1 | (have q1 := h49.un q9.1; have q2 := q9.2; rw [h49.iv q1.1, hG19] at q2; omega)), h49.s]
      exact e_n X h hr hlk rfl dX7_takeNumbers_48 ⟨ok38, kx51, ⟨⟨_, _, _, _, h45, by omega, by omega, by omega, Or.inr ⟨hit139, rfl⟩⟩, (RG.f57 hR kx51)⟩⟩

set_option maxHeartbeats 4000000 in
set_option maxRecDepth 100000 in
theorem c_F_takeNumbers4 (l : Launch) (G : va_G) (cI cB cZ cO : ClassId) (ad : Nat → Nat) (w : Nat → va_E) (z a b c0 d : Int32) (bs f : Nat → Int32) (Gh : Nat → Int32) (ok : OK cI cB cZ cO ad w)   (pf : w 55 = .inr (5, [.ref (ad 56), .ref (ad 57), .int z, .int a, .int b, .int c0, .int d])) (hz1 : z.toInt ≤ 150) (p56 : w 56 = .inl (cB, 150, .inl bs)) (hb0 : 0 ≤ b.toInt) (hbz : b.toInt ≤ z.toInt) (hd0 : 0 ≤ d.toInt) (hd1 : d.toInt ≤ 99) (p57 : w 57 = .inl (cI, 3, .inl f)) (pn : rgA 0 99 f) (hR : RG cI ad w Gh) : NI l G (tyq cI cB cZ cO) yX7_takeNumbers cX7_takeNumbers 5 (some .boolean) 3 66 74 ad w [.ref (ad 55), .ref (ad 14), .int 4] (fun r w1 => OK cI cB cZ cO ad w1 ∧ F57 w w1 ∧ (∃ a1 b1 c1 d1 : Int32, w1 55 = .inr (5, [.ref (ad 56), .ref (ad 57), .int z, .int a1, .int b1, .int c1, .int d1]) ∧ 0 ≤ a1.toInt ∧ a1.toInt ≤ b1.toInt ∧ b1.toInt ≤ z.toInt ∧ ((∃ f1 : Nat → Int32, w1 57 = .inl (cI, 3, .inl f1) ∧ ((f1 0).toInt < (Gh 1).toInt ∧ (f1 1).toInt < (Gh 1).toInt ∧ (f1 0).toInt ≤ 3 ∧ (f1 1).toInt ≤ 3) ∧ it4 bs z.toNatClampNeg b.toNatClampNeg Gh = .inr (b1.toNatClampNeg, goPoF Gh (f1 0).toNatClampNeg (f1 1).toNatClampNeg)) ∧ r = 1 ∨ it4 bs z.toNatClampNeg b.toNatClampNeg Gh = .inl a1.toNatClampNeg ∧ r = 0)) ∧ RG cI ad w1 Gh) := by
  refine nk_i (own := "NoonShade$Text") rfl (by decide) (Nat.le_of_ble_eq_true rfl) ?_
  intro p e s m below meth c ls X hD hN hr hlk h hl
  have hx := X.1.1
  have hb := X.1.2.1
  have hown := X.1.2.2.2.1
  have hts := X.1.2.2.2.2
  have hl : lv_has ls 5 [(0, .ref (ad 55)), (1, .ref (ad 14)), (2, .int 4)] := hl
  obtain ⟨so1, ho2, mi3, ca4, ja5, ck6, hh7, jk8, co9, p10, p11, p12, p13, p14, p15, p16, hG17⟩ := id hR
  have p10 : w 14 = .inr (1, [.int ho2, .int so1, .int mi3, .int ca4, .int ja5, .ref (ad 15), .ref (ad 16), .ref (ad 17), .ref (ad 18), .ref (ad 19), .ref (ad 20), .ref (ad 21), .ref (ad 23), .ref (ad 25)]) := p10
  obtain ⟨hG18, hG19, hG20, hG21, hG22, hG23, hG24, hG25, hG26, hG27, hG28⟩ := id hG17
  have p29 : rgA 0 9 hh7 := sA_pred (show sA cI 7 (rgA 0 9) (w 16) from ok 16 (by decide)) p12
  have p30 : rgA 0 60 co9 := sA_pred (show sA cI 4 (rgA 0 60) (w 19) from ok 19 (by decide)) p14
  have n0_ := congrArg Int32.toInt hG20
  have n1_ := congrArg Int32.toInt hG21
  have n7_ := congrArg Int32.toInt hG19
  refine lv_iload_n hx hb dX7_takeNumbers_0 rfl (lv_at hl 2 rfl) ?_
  refine n_Si (na := 1) (As := [.int 4]) (rest := []) X hD hN h (c_numbersOf4 l G cI cB cZ cO ad w) ⟨kv_414, kv_415, kv_388, kv_416⟩ ⟨by decide, by decide, by decide⟩ ⟨Nat.le_of_ble_eq_true rfl, Nat.le_of_ble_eq_true rfl⟩ ⟨Nat.zero_le _, Nat.zero_le _⟩ rfl hl.1 rfl (Nat.le_of_ble_eq_true rfl) dX7_takeNumbers_1 (fun r31 w32 H locs hp33 h => ?_)
  obtain ⟨rfl, h34⟩ := hp33
  subst h34
  refine lv_istore_n (lv' := [(3, .int 2), (0, .ref (ad 55)), (1, .ref (ad 14)), (2, .int 4)]) hx hb dX7_takeNumbers_4 rfl hl (by decide) rfl (fun ls hl => ?_)
  refine lv_iconst (v := 0) hx hb dX7_takeNumbers_5 (by decide) ?_
  refine lv_istore (lv' := [(4, .int 0), (3, .int 2), (0, .ref (ad 55)), (1, .ref (ad 14)), (2, .int 4)]) hx hb dX7_takeNumbers_6 hl (by decide) rfl (fun ls hl => ?_)
  refine lv_iload hx hb dX7_takeNumbers_8 (lv_at hl 0 rfl) ?_
  refine lv_iload_n hx hb dX7_takeNumbers_10 rfl (lv_at hl 1 rfl) ?_
  refine lv_icmp_ge (tgt := 66) hx hb dX7_takeNumbers_11 (by decide) (fun hc => absurd hc (by decide)) (fun _ => ?_)
  refine lv_iload hx hb dX7_takeNumbers_14 (lv_at hl 0 rfl) ?_
  refine lv_aload_n hx hb dX7_takeNumbers_16 rfl (lv_at hl 2 rfl) ?_
  refine r_get kc7 X h 55 1 (by decide) rfl pf (by decide) kv_413 rfl dX7_takeNumbers_17 ?_
  refine r_alen X h (v := 3) 57 0 (by decide) rfl p57 rfl rfl dX7_takeNumbers_20 ?_
  refine lv_icmp_ge (tgt := 66) hx hb dX7_takeNumbers_21 (by decide) (fun hc => absurd hc (by decide)) (fun _ => ?_)
  refine lv_aload_n hx hb dX7_takeNumbers_24 rfl (lv_at hl 2 rfl) ?_
  refine n_Vv (na := 0) (As := []) (rest := []) X hD hN h rfl (c_F_step l G cI cB cZ cO ad w z a b c0 d bs ok pf (by omega) p56 (by first | omega | decide | (simp only [k00]; omega)) (by first | omega | decide | (simp only [k00]; omega)) (by first | omega | decide | (simp only [k00]; omega)) (by first | omega | decide | (simp only [k00]; omega))) ⟨kv_417, kv_418, kv_419, kv_388, kv_420⟩ rfl ⟨by decide, by decide, by decide⟩ ⟨Nat.le_of_ble_eq_true rfl, Nat.le_of_ble_eq_true rfl⟩ ⟨Nat.zero_le _, Nat.zero_le _⟩ (by decide) pf rfl rfl hl.1 rfl (Nat.le_of_ble_eq_true rfl) dX7_takeNumbers_25 (fun w36 H locs hp37 h => ?_)
  obtain ⟨ok38, kk39, hr40⟩ := hp37
  obtain ⟨y41, y42, y43, y44, h45, h46, h47, h48, h49⟩ := hr40
  have q50 := txd ok38 h45
  have kx51 : F57 w w36 := F57.tr F57.rf kk39.f57
  refine lv_aload_n hx hb dX7_takeNumbers_28 rfl (lv_at hl 2 rfl) ?_
  refine r_get kc7 X h 55 5 (by decide) rfl h45 (by decide) kv_392 rfl dX7_takeNumbers_29 ?_
  refine lv_iconst (v := 2) hx hb dX7_takeNumbers_32 (by decide) ?_
  refine lv_icmp_ne (tgt := 47) hx hb dX7_takeNumbers_33 (by decide) (fun hc52 => ?_) (fun hc52 => ?_)
  · have hc52 : ¬ (y43).toInt = 2 := i_ne hc52 rfl rfl
    refine lv_iconst (v := 0) hx hb dX7_takeNumbers_47 (by decide) ?_
    have f54 : w36 19 = .inl (cI, 4, .inl co9) := (kk39 19 (by decide)).trans p14
    have hit53 : it4 bs z.toNatClampNeg b.toNatClampNeg Gh = .inl y41.toNatClampNeg := by
      unfold it4
      rw [pick_n (fun q9 => by first | exact h49.nonum (by omega) q9.1 | (have q1 := h49.un q9.1; have q2 := q9.2; rw [h49.iv q1.1, ← (hG23 _ (by have := cl_of (x := y44) (by omega); omega)).2] at q2; have := p30 (y44).toNatClampNeg; omega)), h49.s]
    exact e_n X h hr hlk rfl dX7_takeNumbers_48 ⟨ok38, kx51, ⟨⟨_, _, _, _, h45, by omega, by omega, by omega, Or.inr ⟨hit53, rfl⟩⟩, (RG.f57 hR kx51)⟩⟩
  · have hc52 : (y43).toInt = 2 := i_eq hc52 rfl rfl
    refine lv_aload_n hx hb dX7_takeNumbers_36 rfl (lv_at hl 2 rfl) ?_
    refine lv_aload_n hx hb dX7_takeNumbers_37 rfl (lv_at hl 3 rfl) ?_
    refine lv_iload_n hx hb dX7_takeNumbers_38 rfl (lv_at hl 4 rfl) ?_
    refine lv_iload hx hb dX7_takeNumbers_39 (lv_at hl 0 rfl) ?_
    have f55 : w36 14 = .inr (1, [.int ho2, .int so1, .int mi3, .int ca4, .int ja5, .ref (ad 15), .ref (ad 16), .ref (ad 17), .ref (ad 18), .ref (ad 19), .ref (ad 20), .ref (ad 21), .ref (ad 23), .ref (ad 25)]) := (kk39 14 (by decide)).trans p10
    have f56 : w36 19 = .inl (cI, 4, .inl co9) := (kk39 19 (by decide)).trans p14
    have f57 : w36 57 = .inl (cI, 3, .inl f) := (kk39 57 (by decide)).trans p57
    refine n_Vi (na := 3) (As := [.ref (ad 14), .int 4, .int 0]) (rest := []) X hD hN h rfl (c_F_fits40 l G cI cB cZ cO ad w36 z y41 y42 y43 y44 ho2 so1 mi3 ca4 ja5 co9 f ok38 h45 (by omega) (by omega) (by omega) f55 f56 p30 f57 pn (by omega) (by omega)) ⟨kv_421, kv_422, kv_423, kv_388, kv_424⟩ rfl ⟨by decide, by decide, by decide⟩ ⟨Nat.le_of_ble_eq_true rfl, Nat.le_of_ble_eq_true rfl⟩ ⟨Nat.zero_le _, Nat.zero_le _⟩ (by decide) h45 rfl rfl hl.1 rfl (Nat.le_of_ble_eq_true rfl) dX7_takeNumbers_41 (fun r58 w59 H locs hp60 h => ?_)
    obtain ⟨rfl, hr61⟩ := hp60
    rcases hr61 with ⟨hq62, rfl⟩ | ⟨hq62, rfl⟩
    · refine lv_if_ne (tgt := 49) hx hb dX7_takeNumbers_44 (by decide) (fun _ => ?_) (fun hc => absurd hc (by decide))
      refine lv_aload_n hx hb dX7_takeNumbers_49 rfl (lv_at hl 2 rfl) ?_
      refine r_get kc7 X h 55 1 (by decide) rfl h45 (by decide) kv_413 rfl dX7_takeNumbers_50 ?_
      refine lv_iload hx hb dX7_takeNumbers_53 (lv_at hl 0 rfl) ?_
      refine lv_aload_n hx hb dX7_takeNumbers_55 rfl (lv_at hl 2 rfl) ?_
      refine r_get kc7 X h 55 6 (by decide) rfl h45 (by decide) kv_390 rfl dX7_takeNumbers_56 ?_
      obtain ⟨g63, e64⟩ : ∃ z : Nat → Int32, upd f 0 y44 = z := ⟨_, rfl⟩
      have p66 : rgA 0 99 g63 := rgA_upd pn e64 (by omega) (by omega)
      refine o_iast (f1 := g63) X hD h 57 0 (by decide) rfl f57 rfl (by unfold vp_in; decide) e64 dX7_takeNumbers_59 (fun H locs w67 e68 h => ?_)
      have f69 : w67 57 = .inl (cI, 3, .inl g63) := (congrFun e68 _).trans (va_up_self _ _ _)
      have ok70 : OK cI cB cZ cO ad w67 := OK.up ok38 e68 (sA_mk p66)
      have kx71 : F57 w w67 := F57.up kx51 e68 (by decide)
      refine lv_iinc (v := 1) (lv' := [(4, .int 1), (3, .int 2), (0, .ref (ad 55)), (1, .ref (ad 14)), (2, .int 4)]) hx hb dX7_takeNumbers_60 hl (k := 0) rfl rfl (by decide) rfl (fun ls hl => ?_)
      refine lv_goto (tgt := 8) hx hb dX7_takeNumbers_63 (by decide) ?_
      refine lv_iload hx hb dX7_takeNumbers_8 (lv_at hl 0 rfl) ?_
      refine lv_iload_n hx hb dX7_takeNumbers_10 rfl (lv_at hl 1 rfl) ?_
      refine lv_icmp_ge (tgt := 66) hx hb dX7_takeNumbers_11 (by decide) (fun hc => absurd hc (by decide)) (fun _ => ?_)
      refine lv_iload hx hb dX7_takeNumbers_14 (lv_at hl 0 rfl) ?_
      refine lv_aload_n hx hb dX7_takeNumbers_16 rfl (lv_at hl 2 rfl) ?_
      have f72 : w67 55 = .inr (5, [.ref (ad 56), .ref (ad 57), .int z, .int y41, .int y42, .int y43, .int y44]) := by rw [e68, va_up_ne _ _ (by decide)]; exact h45
      refine r_get kc7 X h 55 1 (by decide) rfl f72 (by decide) kv_413 rfl dX7_takeNumbers_17 ?_
      refine r_alen X h (v := 3) 57 0 (by decide) rfl f69 rfl rfl dX7_takeNumbers_20 ?_
      refine lv_icmp_ge (tgt := 66) hx hb dX7_takeNumbers_21 (by decide) (fun hc => absurd hc (by decide)) (fun _ => ?_)
      refine lv_aload_n hx hb dX7_takeNumbers_24 rfl (lv_at hl 2 rfl) ?_
      have f73 : w36 56 = .inl (cB, 150, .inl bs) := (kk39 56 (by decide)).trans p56
      have f74 : w67 56 = .inl (cB, 150, .inl bs) := by rw [e68, va_up_ne _ _ (by decide)]; exact f73
      refine n_Vv (na := 0) (As := []) (rest := []) X hD hN h rfl (c_F_step l G cI cB cZ cO ad w67 z y41 y42 y43 y44 bs ok70 f72 (by omega) f74 (by first | omega | decide | (simp only [k00]; omega)) (by first | omega | decide | (simp only [k00]; omega)) (by first | omega | decide | (simp only [k00]; omega)) (by first | omega | decide | (simp only [k00]; omega))) ⟨kv_417, kv_418, kv_419, kv_388, kv_420⟩ rfl ⟨by decide, by decide, by decide⟩ ⟨Nat.le_of_ble_eq_true rfl, Nat.le_of_ble_eq_true rfl⟩ ⟨Nat.zero_le _, Nat.zero_le _⟩ (by decide) f72 rfl rfl hl.1 rfl (Nat.le_of_ble_eq_true rfl) dX7_takeNumbers_25 (fun w76 H locs hp77 h => ?_)
      obtain ⟨ok78, kk79, hr80⟩ := hp77
      obtain ⟨y81, y82, y83, y84, h85, h86, h87, h88, h89⟩ := hr80
      have q90 := txd ok78 h85
      have kx91 : F57 w w76 := F57.tr kx71 kk79.f57
      refine lv_aload_n hx hb dX7_takeNumbers_28 rfl (lv_at hl 2 rfl) ?_
      refine r_get kc7 X h 55 5 (by decide) rfl h85 (by decide) kv_392 rfl dX7_takeNumbers_29 ?_
      refine lv_iconst (v := 2) hx hb dX7_takeNumbers_32 (by decide) ?_
      refine lv_icmp_ne (tgt := 47) hx hb dX7_takeNumbers_33 (by decide) (fun hc92 => ?_) (fun hc92 => ?_)
      · have hc92 : ¬ (y83).toInt = 2 := i_ne hc92 rfl rfl
        refine lv_iconst (v := 0) hx hb dX7_takeNumbers_47 (by decide) ?_
        have f94 : w67 19 = .inl (cI, 4, .inl co9) := by rw [e68, va_up_ne _ _ (by decide)]; exact f56
        have f95 : w76 19 = .inl (cI, 4, .inl co9) := (kk79 19 (by decide)).trans f94
        have f96 : w76 57 = .inl (cI, 3, .inl g63) := (kk79 57 (by decide)).trans f69
        have e97 : (g63 0).toInt = (y44).toInt := by rw [← e64, pk_us]
        have hit93 : it4 bs z.toNatClampNeg b.toNatClampNeg Gh = .inl y81.toNatClampNeg := by
          unfold it4
          rw [pick_y ⟨h49.num (by omega) (by omega) (by omega), by rw [h49.iv (by omega), ← (hG23 _ (by have := cl_of (x := y44) (by omega); omega)).2]; omega⟩]
          rw [h49.e]
          rw [pick_n (fun q9 => by first | exact h89.nonum (by omega) q9.1 | (have q1 := h89.un q9.1; have q2 := q9.2; rw [h89.v q1.1, h49.v (by omega)] at q2; omega)), h89.s]
        exact e_n X h hr hlk rfl dX7_takeNumbers_48 ⟨ok78, kx91, ⟨⟨_, _, _, _, h85, by omega, by omega, by omega, Or.inr ⟨hit93, rfl⟩⟩, (RG.f57 hR kx91)⟩⟩
      · have hc92 : (y83).toInt = 2 := i_eq hc92 rfl rfl
        refine lv_aload_n hx hb dX7_takeNumbers_36 rfl (lv_at hl 2 rfl) ?_
        refine lv_aload_n hx hb dX7_takeNumbers_37 rfl (lv_at hl 3 rfl) ?_
        refine lv_iload_n hx hb dX7_takeNumbers_38 rfl (lv_at hl 4 rfl) ?_
        refine lv_iload hx hb dX7_takeNumbers_39 (lv_at hl 0 rfl) ?_
        have f98 : w67 14 = .inr (1, [.int ho2, .int so1, .int mi3, .int ca4, .int ja5, .ref (ad 15), .ref (ad 16), .ref (ad 17), .ref (ad 18), .ref (ad 19), .ref (ad 20), .ref (ad 21), .ref (ad 23), .ref (ad 25)]) := by rw [e68, va_up_ne _ _ (by decide)]; exact f55
        have f99 : w76 14 = .inr (1, [.int ho2, .int so1, .int mi3, .int ca4, .int ja5, .ref (ad 15), .ref (ad 16), .ref (ad 17), .ref (ad 18), .ref (ad 19), .ref (ad 20), .ref (ad 21), .ref (ad 23), .ref (ad 25)]) := (kk79 14 (by decide)).trans f98
        have f100 : w67 19 = .inl (cI, 4, .inl co9) := by rw [e68, va_up_ne _ _ (by decide)]; exact f56
        have f101 : w76 19 = .inl (cI, 4, .inl co9) := (kk79 19 (by decide)).trans f100
        have f102 : w76 57 = .inl (cI, 3, .inl g63) := (kk79 57 (by decide)).trans f69
        refine n_Vi (na := 3) (As := [.ref (ad 14), .int 4, .int 1]) (rest := []) X hD hN h rfl (c_F_fits41 l G cI cB cZ cO ad w76 z y81 y82 y83 y84 ho2 so1 mi3 ca4 ja5 co9 g63 ok78 h85 (by omega) (by omega) (by omega) f99 f101 p30 f102 p66 (by omega) (by omega)) ⟨kv_421, kv_422, kv_423, kv_388, kv_424⟩ rfl ⟨by decide, by decide, by decide⟩ ⟨Nat.le_of_ble_eq_true rfl, Nat.le_of_ble_eq_true rfl⟩ ⟨Nat.zero_le _, Nat.zero_le _⟩ (by decide) h85 rfl rfl hl.1 rfl (Nat.le_of_ble_eq_true rfl) dX7_takeNumbers_41 (fun r103 w104 H locs hp105 h => ?_)
        obtain ⟨rfl, hr106⟩ := hp105
        rcases hr106 with ⟨hq107, rfl⟩ | ⟨hq107, rfl⟩
        · refine lv_if_ne (tgt := 49) hx hb dX7_takeNumbers_44 (by decide) (fun _ => ?_) (fun hc => absurd hc (by decide))
          refine lv_aload_n hx hb dX7_takeNumbers_49 rfl (lv_at hl 2 rfl) ?_
          refine r_get kc7 X h 55 1 (by decide) rfl h85 (by decide) kv_413 rfl dX7_takeNumbers_50 ?_
          refine lv_iload hx hb dX7_takeNumbers_53 (lv_at hl 0 rfl) ?_
          refine lv_aload_n hx hb dX7_takeNumbers_55 rfl (lv_at hl 2 rfl) ?_
          refine r_get kc7 X h 55 6 (by decide) rfl h85 (by decide) kv_390 rfl dX7_takeNumbers_56 ?_
          obtain ⟨g108, e109⟩ : ∃ z : Nat → Int32, upd g63 1 y84 = z := ⟨_, rfl⟩
          have p111 : rgA 0 99 g108 := rgA_upd p66 e109 (by omega) (by omega)
          refine o_iast (f1 := g108) X hD h 57 0 (by decide) rfl f102 rfl (by unfold vp_in; decide) e109 dX7_takeNumbers_59 (fun H locs w112 e113 h => ?_)
          have f114 : w112 57 = .inl (cI, 3, .inl g108) := (congrFun e113 _).trans (va_up_self _ _ _)
          have ok115 : OK cI cB cZ cO ad w112 := OK.up ok78 e113 (sA_mk p111)
          have kx116 : F57 w w112 := F57.up kx91 e113 (by decide)
          refine lv_iinc (v := 2) (lv' := [(4, .int 2), (3, .int 2), (0, .ref (ad 55)), (1, .ref (ad 14)), (2, .int 4)]) hx hb dX7_takeNumbers_60 hl (k := 0) rfl rfl (by decide) rfl (fun ls hl => ?_)
          refine lv_goto (tgt := 8) hx hb dX7_takeNumbers_63 (by decide) ?_
          refine lv_iload hx hb dX7_takeNumbers_8 (lv_at hl 0 rfl) ?_
          refine lv_iload_n hx hb dX7_takeNumbers_10 rfl (lv_at hl 1 rfl) ?_
          refine lv_icmp_ge (tgt := 66) hx hb dX7_takeNumbers_11 (by decide) (fun _ => ?_) (fun hc => absurd (by decide) hc)
          refine lv_aload_n hx hb dX7_takeNumbers_66 rfl (lv_at hl 2 rfl) ?_
          have f117 : w112 55 = .inr (5, [.ref (ad 56), .ref (ad 57), .int z, .int y81, .int y82, .int y83, .int y84]) := by rw [e113, va_up_ne _ _ (by decide)]; exact h85
          have f118 : w76 56 = .inl (cB, 150, .inl bs) := (kk79 56 (by decide)).trans f74
          have f119 : w112 56 = .inl (cB, 150, .inl bs) := by rw [e113, va_up_ne _ _ (by decide)]; exact f118
          refine n_Vv (na := 0) (As := []) (rest := []) X hD hN h rfl (c_F_step l G cI cB cZ cO ad w112 z y81 y82 y83 y84 bs ok115 f117 (by omega) f119 (by first | omega | decide | (simp only [k00]; omega)) (by first | omega | decide | (simp only [k00]; omega)) (by first | omega | decide | (simp only [k00]; omega)) (by first | omega | decide | (simp only [k00]; omega))) ⟨kv_417, kv_418, kv_419, kv_388, kv_420⟩ rfl ⟨by decide, by decide, by decide⟩ ⟨Nat.le_of_ble_eq_true rfl, Nat.le_of_ble_eq_true rfl⟩ ⟨Nat.zero_le _, Nat.zero_le _⟩ (by decide) f117 rfl rfl hl.1 rfl (Nat.le_of_ble_eq_true rfl) dX7_takeNumbers_67 (fun w121 H locs hp122 h => ?_)
          obtain ⟨ok123, kk124, hr125⟩ := hp122
          obtain ⟨y126, y127, y128, y129, h130, h131, h132, h133, h134⟩ := hr125
          have q135 := txd ok123 h130
          have kx136 : F57 w w121 := F57.tr kx116 kk124.f57
          refine lv_aload_n hx hb dX7_takeNumbers_70 rfl (lv_at hl 2 rfl) ?_
          refine r_get kc7 X h 55 5 (by decide) rfl h130 (by decide) kv_392 rfl dX7_takeNumbers_71 ?_
          refine lv_iconst (v := 3) hx hb dX7_takeNumbers_74 (by decide) ?_
          refine lv_icmp_ne (tgt := 82) hx hb dX7_takeNumbers_75 (by decide) (fun hc137 => ?_) (fun hc137 => ?_)
          · have hc137 : ¬ (y128).toInt = 3 := i_ne hc137 rfl rfl
            refine lv_iconst (v := 0) hx hb dX7_takeNumbers_82 (by decide) ?_
            have f139 : w112 19 = .inl (cI, 4, .inl co9) := by rw [e113, va_up_ne _ _ (by decide)]; exact f101
            have f140 : w121 19 = .inl (cI, 4, .inl co9) := (kk124 19 (by decide)).trans f139
            have f141 : w121 57 = .inl (cI, 3, .inl g108) := (kk124 57 (by decide)).trans f114
            have e142 : (g63 0).toInt = (y44).toInt := by rw [← e64, pk_us]
            have hit138 : it4 bs z.toNatClampNeg b.toNatClampNeg Gh = .inl y126.toNatClampNeg := by
              unfold it4
              rw [pick_y ⟨h49.num (by omega) (by omega) (by omega), by rw [h49.iv (by omega), ← (hG23 _ (by have := cl_of (x := y44) (by omega); omega)).2]; omega⟩]
              rw [h49.e]
              rw [pick_y ⟨h89.num (by omega) (by omega) (by omega), by rw [h89.v (by omega), h49.v (by omega)]; omega⟩]
              rw [h89.e]
              rw [h134.nostop _ (by omega)]
            exact e_n X h hr hlk rfl dX7_takeNumbers_83 ⟨ok123, kx136, ⟨⟨_, _, _, _, h130, by omega, by omega, by omega, Or.inr ⟨hit138, rfl⟩⟩, (RG.f57 hR kx136)⟩⟩
          · have hc137 : (y128).toInt = 3 := i_eq hc137 rfl rfl
            refine lv_iconst (v := 1) hx hb dX7_takeNumbers_78 (by decide) ?_
            refine lv_goto (tgt := 83) hx hb dX7_takeNumbers_79 (by decide) ?_
            have f144 : w112 19 = .inl (cI, 4, .inl co9) := by rw [e113, va_up_ne _ _ (by decide)]; exact f101
            have f145 : w121 19 = .inl (cI, 4, .inl co9) := (kk124 19 (by decide)).trans f144
            have f146 : w121 57 = .inl (cI, 3, .inl g108) := (kk124 57 (by decide)).trans f114
            have e147 : (g63 0).toInt = (y44).toInt := by rw [← e64, pk_us]
            have e148 : g108 0 = y44 := by rw [← e109, pk_un (by decide), ← e64, pk_us]
            have e149 : g108 1 = y84 := by rw [← e109, pk_us]
            have hit143 : it4 bs z.toNatClampNeg b.toNatClampNeg Gh = .inr (y127.toNatClampNeg, goPoF Gh (g108 0).toNatClampNeg (g108 1).toNatClampNeg) := by
              unfold it4
              rw [pick_y ⟨h49.num (by omega) (by omega) (by omega), by rw [h49.iv (by omega), ← (hG23 _ (by have := cl_of (x := y44) (by omega); omega)).2]; omega⟩]
              rw [h49.e]
              rw [pick_y ⟨h89.num (by omega) (by omega) (by omega), by rw [h89.v (by omega), h49.v (by omega)]; omega⟩]
              rw [h89.e]
              rw [h134.stop _ (by omega)]
              rw [h49.iv (by omega), h89.iv (by omega), e148, e149]
            exact e_n X h hr hlk rfl dX7_takeNumbers_83 ⟨ok123, kx136, ⟨⟨_, _, _, _, h130, by omega, by omega, by omega, Or.inl ⟨⟨g108, f146, ⟨by rw [e148]; omega, by rw [e149]; omega, by rw [e148]; omega, by rw [e149]; omega⟩, hit143⟩, rfl⟩⟩, (RG.f57 hR kx136)⟩⟩
        · refine lv_if_ne (tgt := 49) hx hb dX7_takeNumbers_44 (by decide) (fun hc => absurd (by decide) hc) (fun _ => ?_)
          refine lv_iconst (v := 0) hx hb dX7_takeNumbers_47 (by decide) ?_
          have e151 : (g63 0).toInt = (y44).toInt := by rw [← e64, pk_us]
          have hit150 : it4 bs z.toNatClampNeg b.toNatClampNeg Gh = .inl y81.toNatClampNeg := by
            unfold it4
            rw [pick_y ⟨h49.num (by omega) (by omega) (by omega), by rw [h49.iv (by omega), ← (hG23 _ (by have := cl_of (x := y44) (by omega); omega)).2]; omega⟩]
            rw [h49.e]
            rw [pick_n (fun q9 => by first | exact h89.nonum (by omega) q9.1 | (have q1 := h89.un q9.1; have q2 := q9.2; rw [h89.v q1.1, h49.v (by omega)] at q2; omega)), h89.s]
          exact e_n X h hr hlk rfl dX7_takeNumbers_48 ⟨ok78, kx91, ⟨⟨_, _, _, _, h85, by omega, by omega, by omega, Or.inr ⟨hit150, rfl⟩⟩, (RG.f57 hR kx91)⟩⟩
    · refine lv_if_ne (tgt := 49) hx hb dX7_takeNumbers_44 (by decide) (fun hc => absurd (by decide) hc) (fun _ => ?_)
      refine lv_iconst (v := 0) hx hb dX7_takeNumbers_47 (by decide) ?_
      have hit152 : it4 bs z.toNatClampNeg b.toNatClampNeg Gh = .inl y41.toNatClampNeg := by
        unfold it4
        rw [pick_n (fun q9 => by first | exact h49.nonum (by omega) q9.1 | (have q1 := h49.un q9.1; have q2 := q9.2; rw [h49.iv q1.1, ← (hG23 _ (by have := cl_of (x := y44) (by omega); omega)).2] at q2; have := p30 (y44).toNatClampNeg; omega)), h49.s]
      exact e_n X h hr hlk rfl dX7_takeNumbers_48 ⟨ok38, kx51, ⟨⟨_, _, _, _, h45, by omega, by omega, by omega, Or.inr ⟨hit152, rfl⟩⟩, (RG.f57 hR kx51)⟩⟩

set_option maxHeartbeats 4000000 in
set_option maxRecDepth 100000 in
theorem c_F_takeNumbers5 (l : Launch) (G : va_G) (cI cB cZ cO : ClassId) (ad : Nat → Nat) (w : Nat → va_E) (z a b c0 d : Int32) (bs f : Nat → Int32) (Gh : Nat → Int32) (ok : OK cI cB cZ cO ad w)   (pf : w 55 = .inr (5, [.ref (ad 56), .ref (ad 57), .int z, .int a, .int b, .int c0, .int d])) (hz1 : z.toInt ≤ 150) (p56 : w 56 = .inl (cB, 150, .inl bs)) (hb0 : 0 ≤ b.toInt) (hbz : b.toInt ≤ z.toInt) (hd0 : 0 ≤ d.toInt) (hd1 : d.toInt ≤ 99) (p57 : w 57 = .inl (cI, 3, .inl f)) (pn : rgA 0 99 f) (hR : RG cI ad w Gh) : NI l G (tyq cI cB cZ cO) yX7_takeNumbers cX7_takeNumbers 5 (some .boolean) 3 66 74 ad w [.ref (ad 55), .ref (ad 14), .int 5] (fun r w1 => OK cI cB cZ cO ad w1 ∧ F57 w w1 ∧ (∃ a1 b1 c1 d1 : Int32, w1 55 = .inr (5, [.ref (ad 56), .ref (ad 57), .int z, .int a1, .int b1, .int c1, .int d1]) ∧ 0 ≤ a1.toInt ∧ a1.toInt ≤ b1.toInt ∧ b1.toInt ≤ z.toInt ∧ ((∃ f1 : Nat → Int32, w1 57 = .inl (cI, 3, .inl f1) ∧ (True) ∧ it5 bs z.toNatClampNeg b.toNatClampNeg Gh = .inr (b1.toNatClampNeg, goHsF (f1 0).toNatClampNeg Gh)) ∧ r = 1 ∨ it5 bs z.toNatClampNeg b.toNatClampNeg Gh = .inl a1.toNatClampNeg ∧ r = 0)) ∧ RG cI ad w1 Gh) := by
  refine nk_i (own := "NoonShade$Text") rfl (by decide) (Nat.le_of_ble_eq_true rfl) ?_
  intro p e s m below meth c ls X hD hN hr hlk h hl
  have hx := X.1.1
  have hb := X.1.2.1
  have hown := X.1.2.2.2.1
  have hts := X.1.2.2.2.2
  have hl : lv_has ls 5 [(0, .ref (ad 55)), (1, .ref (ad 14)), (2, .int 5)] := hl
  obtain ⟨so1, ho2, mi3, ca4, ja5, ck6, hh7, jk8, co9, p10, p11, p12, p13, p14, p15, p16, hG17⟩ := id hR
  have p10 : w 14 = .inr (1, [.int ho2, .int so1, .int mi3, .int ca4, .int ja5, .ref (ad 15), .ref (ad 16), .ref (ad 17), .ref (ad 18), .ref (ad 19), .ref (ad 20), .ref (ad 21), .ref (ad 23), .ref (ad 25)]) := p10
  obtain ⟨hG18, hG19, hG20, hG21, hG22, hG23, hG24, hG25, hG26, hG27, hG28⟩ := id hG17
  have p29 : rgA 0 9 hh7 := sA_pred (show sA cI 7 (rgA 0 9) (w 16) from ok 16 (by decide)) p12
  have p30 : rgA 0 60 co9 := sA_pred (show sA cI 4 (rgA 0 60) (w 19) from ok 19 (by decide)) p14
  have n0_ := congrArg Int32.toInt hG20
  have n1_ := congrArg Int32.toInt hG21
  have n7_ := congrArg Int32.toInt hG19
  refine lv_iload_n hx hb dX7_takeNumbers_0 rfl (lv_at hl 2 rfl) ?_
  refine n_Si (na := 1) (As := [.int 5]) (rest := []) X hD hN h (c_numbersOf5 l G cI cB cZ cO ad w) ⟨kv_414, kv_415, kv_388, kv_416⟩ ⟨by decide, by decide, by decide⟩ ⟨Nat.le_of_ble_eq_true rfl, Nat.le_of_ble_eq_true rfl⟩ ⟨Nat.zero_le _, Nat.zero_le _⟩ rfl hl.1 rfl (Nat.le_of_ble_eq_true rfl) dX7_takeNumbers_1 (fun r31 w32 H locs hp33 h => ?_)
  obtain ⟨rfl, h34⟩ := hp33
  subst h34
  refine lv_istore_n (lv' := [(3, .int 1), (0, .ref (ad 55)), (1, .ref (ad 14)), (2, .int 5)]) hx hb dX7_takeNumbers_4 rfl hl (by decide) rfl (fun ls hl => ?_)
  refine lv_iconst (v := 0) hx hb dX7_takeNumbers_5 (by decide) ?_
  refine lv_istore (lv' := [(4, .int 0), (3, .int 1), (0, .ref (ad 55)), (1, .ref (ad 14)), (2, .int 5)]) hx hb dX7_takeNumbers_6 hl (by decide) rfl (fun ls hl => ?_)
  refine lv_iload hx hb dX7_takeNumbers_8 (lv_at hl 0 rfl) ?_
  refine lv_iload_n hx hb dX7_takeNumbers_10 rfl (lv_at hl 1 rfl) ?_
  refine lv_icmp_ge (tgt := 66) hx hb dX7_takeNumbers_11 (by decide) (fun hc => absurd hc (by decide)) (fun _ => ?_)
  refine lv_iload hx hb dX7_takeNumbers_14 (lv_at hl 0 rfl) ?_
  refine lv_aload_n hx hb dX7_takeNumbers_16 rfl (lv_at hl 2 rfl) ?_
  refine r_get kc7 X h 55 1 (by decide) rfl pf (by decide) kv_413 rfl dX7_takeNumbers_17 ?_
  refine r_alen X h (v := 3) 57 0 (by decide) rfl p57 rfl rfl dX7_takeNumbers_20 ?_
  refine lv_icmp_ge (tgt := 66) hx hb dX7_takeNumbers_21 (by decide) (fun hc => absurd hc (by decide)) (fun _ => ?_)
  refine lv_aload_n hx hb dX7_takeNumbers_24 rfl (lv_at hl 2 rfl) ?_
  refine n_Vv (na := 0) (As := []) (rest := []) X hD hN h rfl (c_F_step l G cI cB cZ cO ad w z a b c0 d bs ok pf (by omega) p56 (by first | omega | decide | (simp only [k00]; omega)) (by first | omega | decide | (simp only [k00]; omega)) (by first | omega | decide | (simp only [k00]; omega)) (by first | omega | decide | (simp only [k00]; omega))) ⟨kv_417, kv_418, kv_419, kv_388, kv_420⟩ rfl ⟨by decide, by decide, by decide⟩ ⟨Nat.le_of_ble_eq_true rfl, Nat.le_of_ble_eq_true rfl⟩ ⟨Nat.zero_le _, Nat.zero_le _⟩ (by decide) pf rfl rfl hl.1 rfl (Nat.le_of_ble_eq_true rfl) dX7_takeNumbers_25 (fun w36 H locs hp37 h => ?_)
  obtain ⟨ok38, kk39, hr40⟩ := hp37
  obtain ⟨y41, y42, y43, y44, h45, h46, h47, h48, h49⟩ := hr40
  have q50 := txd ok38 h45
  have kx51 : F57 w w36 := F57.tr F57.rf kk39.f57
  refine lv_aload_n hx hb dX7_takeNumbers_28 rfl (lv_at hl 2 rfl) ?_
  refine r_get kc7 X h 55 5 (by decide) rfl h45 (by decide) kv_392 rfl dX7_takeNumbers_29 ?_
  refine lv_iconst (v := 2) hx hb dX7_takeNumbers_32 (by decide) ?_
  refine lv_icmp_ne (tgt := 47) hx hb dX7_takeNumbers_33 (by decide) (fun hc52 => ?_) (fun hc52 => ?_)
  · have hc52 : ¬ (y43).toInt = 2 := i_ne hc52 rfl rfl
    refine lv_iconst (v := 0) hx hb dX7_takeNumbers_47 (by decide) ?_
    have hit53 : it5 bs z.toNatClampNeg b.toNatClampNeg Gh = .inl y41.toNatClampNeg := by
      unfold it5
      rw [pick_n (h49.nonum (by omega)), h49.s]
    exact e_n X h hr hlk rfl dX7_takeNumbers_48 ⟨ok38, kx51, ⟨⟨_, _, _, _, h45, by omega, by omega, by omega, Or.inr ⟨hit53, rfl⟩⟩, (RG.f57 hR kx51)⟩⟩
  · have hc52 : (y43).toInt = 2 := i_eq hc52 rfl rfl
    refine lv_aload_n hx hb dX7_takeNumbers_36 rfl (lv_at hl 2 rfl) ?_
    refine lv_aload_n hx hb dX7_takeNumbers_37 rfl (lv_at hl 3 rfl) ?_
    refine lv_iload_n hx hb dX7_takeNumbers_38 rfl (lv_at hl 4 rfl) ?_
    refine lv_iload hx hb dX7_takeNumbers_39 (lv_at hl 0 rfl) ?_
    have f54 : w36 14 = .inr (1, [.int ho2, .int so1, .int mi3, .int ca4, .int ja5, .ref (ad 15), .ref (ad 16), .ref (ad 17), .ref (ad 18), .ref (ad 19), .ref (ad 20), .ref (ad 21), .ref (ad 23), .ref (ad 25)]) := (kk39 14 (by decide)).trans p10
    have f55 : w36 19 = .inl (cI, 4, .inl co9) := (kk39 19 (by decide)).trans p14
    have f56 : w36 57 = .inl (cI, 3, .inl f) := (kk39 57 (by decide)).trans p57
    refine n_Vi (na := 3) (As := [.ref (ad 14), .int 5, .int 0]) (rest := []) X hD hN h rfl (c_F_fits50 l G cI cB cZ cO ad w36 z y41 y42 y43 y44 ho2 so1 mi3 ca4 ja5 co9 f ok38 h45 (by omega) (by omega) (by omega) f54 f55 p30 f56 pn (by omega) (by omega)) ⟨kv_421, kv_422, kv_423, kv_388, kv_424⟩ rfl ⟨by decide, by decide, by decide⟩ ⟨Nat.le_of_ble_eq_true rfl, Nat.le_of_ble_eq_true rfl⟩ ⟨Nat.zero_le _, Nat.zero_le _⟩ (by decide) h45 rfl rfl hl.1 rfl (Nat.le_of_ble_eq_true rfl) dX7_takeNumbers_41 (fun r57 w58 H locs hp59 h => ?_)
    obtain ⟨rfl, hr60⟩ := hp59
    rcases hr60 with ⟨hq61, rfl⟩ | ⟨hq61, rfl⟩
    · refine lv_if_ne (tgt := 49) hx hb dX7_takeNumbers_44 (by decide) (fun _ => ?_) (fun hc => absurd hc (by decide))
      refine lv_aload_n hx hb dX7_takeNumbers_49 rfl (lv_at hl 2 rfl) ?_
      refine r_get kc7 X h 55 1 (by decide) rfl h45 (by decide) kv_413 rfl dX7_takeNumbers_50 ?_
      refine lv_iload hx hb dX7_takeNumbers_53 (lv_at hl 0 rfl) ?_
      refine lv_aload_n hx hb dX7_takeNumbers_55 rfl (lv_at hl 2 rfl) ?_
      refine r_get kc7 X h 55 6 (by decide) rfl h45 (by decide) kv_390 rfl dX7_takeNumbers_56 ?_
      obtain ⟨g62, e63⟩ : ∃ z : Nat → Int32, upd f 0 y44 = z := ⟨_, rfl⟩
      have p65 : rgA 0 99 g62 := rgA_upd pn e63 (by omega) (by omega)
      refine o_iast (f1 := g62) X hD h 57 0 (by decide) rfl f56 rfl (by unfold vp_in; decide) e63 dX7_takeNumbers_59 (fun H locs w66 e67 h => ?_)
      have f68 : w66 57 = .inl (cI, 3, .inl g62) := (congrFun e67 _).trans (va_up_self _ _ _)
      have ok69 : OK cI cB cZ cO ad w66 := OK.up ok38 e67 (sA_mk p65)
      have kx70 : F57 w w66 := F57.up kx51 e67 (by decide)
      refine lv_iinc (v := 1) (lv' := [(4, .int 1), (3, .int 1), (0, .ref (ad 55)), (1, .ref (ad 14)), (2, .int 5)]) hx hb dX7_takeNumbers_60 hl (k := 0) rfl rfl (by decide) rfl (fun ls hl => ?_)
      refine lv_goto (tgt := 8) hx hb dX7_takeNumbers_63 (by decide) ?_
      refine lv_iload hx hb dX7_takeNumbers_8 (lv_at hl 0 rfl) ?_
      refine lv_iload_n hx hb dX7_takeNumbers_10 rfl (lv_at hl 1 rfl) ?_
      refine lv_icmp_ge (tgt := 66) hx hb dX7_takeNumbers_11 (by decide) (fun _ => ?_) (fun hc => absurd (by decide) hc)
      refine lv_aload_n hx hb dX7_takeNumbers_66 rfl (lv_at hl 2 rfl) ?_
      have f71 : w66 55 = .inr (5, [.ref (ad 56), .ref (ad 57), .int z, .int y41, .int y42, .int y43, .int y44]) := by rw [e67, va_up_ne _ _ (by decide)]; exact h45
      have f72 : w36 56 = .inl (cB, 150, .inl bs) := (kk39 56 (by decide)).trans p56
      have f73 : w66 56 = .inl (cB, 150, .inl bs) := by rw [e67, va_up_ne _ _ (by decide)]; exact f72
      refine n_Vv (na := 0) (As := []) (rest := []) X hD hN h rfl (c_F_step l G cI cB cZ cO ad w66 z y41 y42 y43 y44 bs ok69 f71 (by omega) f73 (by first | omega | decide | (simp only [k00]; omega)) (by first | omega | decide | (simp only [k00]; omega)) (by first | omega | decide | (simp only [k00]; omega)) (by first | omega | decide | (simp only [k00]; omega))) ⟨kv_417, kv_418, kv_419, kv_388, kv_420⟩ rfl ⟨by decide, by decide, by decide⟩ ⟨Nat.le_of_ble_eq_true rfl, Nat.le_of_ble_eq_true rfl⟩ ⟨Nat.zero_le _, Nat.zero_le _⟩ (by decide) f71 rfl rfl hl.1 rfl (Nat.le_of_ble_eq_true rfl) dX7_takeNumbers_67 (fun w75 H locs hp76 h => ?_)
      obtain ⟨ok77, kk78, hr79⟩ := hp76
      obtain ⟨y80, y81, y82, y83, h84, h85, h86, h87, h88⟩ := hr79
      have q89 := txd ok77 h84
      have kx90 : F57 w w75 := F57.tr kx70 kk78.f57
      refine lv_aload_n hx hb dX7_takeNumbers_70 rfl (lv_at hl 2 rfl) ?_
      refine r_get kc7 X h 55 5 (by decide) rfl h84 (by decide) kv_392 rfl dX7_takeNumbers_71 ?_
      refine lv_iconst (v := 3) hx hb dX7_takeNumbers_74 (by decide) ?_
      refine lv_icmp_ne (tgt := 82) hx hb dX7_takeNumbers_75 (by decide) (fun hc91 => ?_) (fun hc91 => ?_)
      · have hc91 : ¬ (y82).toInt = 3 := i_ne hc91 rfl rfl
        refine lv_iconst (v := 0) hx hb dX7_takeNumbers_82 (by decide) ?_
        have hit92 : it5 bs z.toNatClampNeg b.toNatClampNeg Gh = .inl y80.toNatClampNeg := by
          unfold it5
          rw [pick_y (h49.num (by omega) (by omega) (by omega))]
          rw [h49.e]
          rw [h88.nostop _ (by omega)]
        exact e_n X h hr hlk rfl dX7_takeNumbers_83 ⟨ok77, kx90, ⟨⟨_, _, _, _, h84, by omega, by omega, by omega, Or.inr ⟨hit92, rfl⟩⟩, (RG.f57 hR kx90)⟩⟩
      · have hc91 : (y82).toInt = 3 := i_eq hc91 rfl rfl
        refine lv_iconst (v := 1) hx hb dX7_takeNumbers_78 (by decide) ?_
        refine lv_goto (tgt := 83) hx hb dX7_takeNumbers_79 (by decide) ?_
        have f94 : w75 57 = .inl (cI, 3, .inl g62) := (kk78 57 (by decide)).trans f68
        have e95 : g62 0 = y44 := by rw [← e63, pk_us]
        have hit93 : it5 bs z.toNatClampNeg b.toNatClampNeg Gh = .inr (y81.toNatClampNeg, goHsF (g62 0).toNatClampNeg Gh) := by
          unfold it5
          rw [pick_y (h49.num (by omega) (by omega) (by omega))]
          rw [h49.e]
          rw [h88.stop _ (by omega)]
          rw [h49.iv (by omega), e95]
        exact e_n X h hr hlk rfl dX7_takeNumbers_83 ⟨ok77, kx90, ⟨⟨_, _, _, _, h84, by omega, by omega, by omega, Or.inl ⟨⟨g62, f94, trivial, hit93⟩, rfl⟩⟩, (RG.f57 hR kx90)⟩⟩
    · refine lv_if_ne (tgt := 49) hx hb dX7_takeNumbers_44 (by decide) (fun hc => absurd (by decide) hc) (fun _ => ?_)
      refine lv_iconst (v := 0) hx hb dX7_takeNumbers_47 (by decide) ?_
      have hit96 : it5 bs z.toNatClampNeg b.toNatClampNeg Gh = .inl y41.toNatClampNeg := by
        unfold it5
        rw [pick_n (h49.nonum (by omega)), h49.s]
      exact e_n X h hr hlk rfl dX7_takeNumbers_48 ⟨ok38, kx51, ⟨⟨_, _, _, _, h45, by omega, by omega, by omega, Or.inr ⟨hit96, rfl⟩⟩, (RG.f57 hR kx51)⟩⟩
