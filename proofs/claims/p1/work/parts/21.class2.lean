set_option maxHeartbeats 4000000 in
set_option maxRecDepth 100000 in
theorem c_X_hours (l : Launch) (G : va_G) (cI cB cZ cO : ClassId) (ad : Nat → Nat) (w : Nat → va_E) (F : ∀ k, k < 74 → w k = fr0 cI cB cZ cO ad k) (i : Int32) : MI l G (tyq cI cB cZ cO) yX8_hours cX8_hours 2 (some .int) 2 62 74 ad w [.ref (ad 0), .int i] (fun r w1 => (1 ≤ i.toInt ∧ i.toInt ≤ 60 → r = i) ∧ (¬ (1 ≤ i.toInt ∧ i.toInt ≤ 60) → r = -2) ∧ ∀ k, 64 ≤ k → w1 k = w k) := by
  refine mk_i (own := "NoonShade") rfl (by decide) (Nat.le_of_ble_eq_true rfl) ?_
  intro p e s m below meth c ls X hD hN hr hlk h hl
  have hx := X.1.1
  have hb := X.1.2.1
  have hown := X.1.2.2.2.1
  have hts := X.1.2.2.2.2
  have hl : lv_has ls 2 [(0, .ref (ad 0)), (1, .int i)] := hl
  refine lv_iload_n hx hb dX8_hours_0 rfl (lv_at hl 1 rfl) ?_
  refine lv_iconst (v := 1) hx hb dX8_hours_1 (by decide) ?_
  refine lv_bipush (v := 60) hx hb dX8_hours_2 (by decide) ?_
  refine q_Si (na := 3) (As := [.int i, .int 1, .int 60]) (rest := []) X hD hN h (c_within l G cI cB cZ cO ad w i 1 60 ((i).toInt) 1 60 rfl rfl rfl) ⟨kw_38, kw_39, kw_14, kw_40⟩ ⟨by decide, by decide, by decide⟩ ⟨Nat.le_of_ble_eq_true rfl, Nat.le_of_ble_eq_true rfl⟩ ⟨Nat.zero_le _, Nat.zero_le _⟩ rfl hl.1 rfl (Nat.le_of_ble_eq_true rfl) dX8_hours_4 (fun r1 w2 H locs hp3 h => ?_)
  obtain ⟨e4, hp3⟩ := hp3
  rcases hp3 with ⟨hq5a, hq5b, rfl⟩ | ⟨hq5, rfl⟩
  · refine lv_if_ne (tgt := 17) hx hb dX8_hours_7 (by decide) (fun _ => ?_) (fun hc => absurd hc (by decide))
    refine lv_aload_n hx hb dX8_hours_17 rfl (lv_at hl 0 rfl) ?_
    have f6 : w 0 = .inr (6, [.ref (ad 1), .ref (ad 14), .ref (ad 27), .ref (ad 54), .ref (ad 55), .ref (ad 58), .ref (ad 62), .long 0, .long 1, .int 0, .int 0, .int 0]) := F 0 (by decide)
    have f7 : w2 0 = .inr (6, [.ref (ad 1), .ref (ad 14), .ref (ad 27), .ref (ad 54), .ref (ad 55), .ref (ad 58), .ref (ad 62), .long 0, .long 1, .int 0, .int 0, .int 0]) := by rw [e4]; exact f6
    refine r_get kc8 X h 0 0 (by decide) rfl f7 (by decide) kw_5 rfl dX8_hours_18 ?_
    have f8 : w 1 = .inr (1, [.int 0, .int 0, .int 0, .int 0, .int 0, .ref (ad 2), .ref (ad 3), .ref (ad 4), .ref (ad 5), .ref (ad 6), .ref (ad 7), .ref (ad 8), .ref (ad 10), .ref (ad 12)]) := F 1 (by decide)
    have f9 : w2 1 = .inr (1, [.int 0, .int 0, .int 0, .int 0, .int 0, .ref (ad 2), .ref (ad 3), .ref (ad 4), .ref (ad 5), .ref (ad 6), .ref (ad 7), .ref (ad 8), .ref (ad 10), .ref (ad 12)]) := by rw [e4]; exact f8
    refine r_get kc2 X h 1 0 (by decide) rfl f9 (by decide) kw_113 rfl dX8_hours_21 ?_
    refine lv_sipush (v := 9999) hx hb dX8_hours_24 (by decide) ?_
    refine lv_icmp_ge (tgt := 52) hx hb dX8_hours_27 (by decide) (fun hc => absurd hc (by decide)) (fun _ => ?_)
    refine lv_aload_n hx hb dX8_hours_30 rfl (lv_at hl 0 rfl) ?_
    refine r_get kc8 X h 0 0 (by decide) rfl f7 (by decide) kw_5 rfl dX8_hours_31 ?_
    refine r_get kc2 X h 1 13 (by decide) rfl f9 (by decide) kw_52 rfl dX8_hours_34 ?_
    refine lv_aload_n hx hb dX8_hours_37 rfl (lv_at hl 0 rfl) ?_
    refine r_get kc8 X h 0 0 (by decide) rfl f7 (by decide) kw_5 rfl dX8_hours_38 ?_
    have f10 : w 12 = .inr (2, [.ref (ad 13), .int 0]) := F 12 (by decide)
    have f11 : w2 12 = .inr (2, [.ref (ad 13), .int 0]) := by rw [e4]; exact f10
    have f12 : w 13 = .inl (cI, 88, .inl (fun _ => 0)) := F 13 (by decide)
    have f13 : w2 13 = .inl (cI, 88, .inl (fun _ => 0)) := by rw [e4]; exact f12
    have f14 : w 6 = .inl (cI, 4, .inl (fun _ => 0)) := F 6 (by decide)
    have f15 : w2 6 = .inl (cI, 4, .inl (fun _ => 0)) := by rw [e4]; exact f14
    have f16 : w 7 = .inl (cI, 4, .inl (fun _ => 0)) := F 7 (by decide)
    have f17 : w2 7 = .inl (cI, 4, .inl (fun _ => 0)) := by rw [e4]; exact f16
    refine q_Vv (na := 1) (As := [.ref (ad 1)]) (rest := []) X hD hN h rfl (c_remember l G cI cB cZ cO ad w2 f11 f13 f9 f15 f17) ⟨kw_151, kw_152, kw_153, kw_36, kw_154⟩ rfl ⟨by decide, by decide, by decide⟩ ⟨Nat.le_of_ble_eq_true rfl, Nat.le_of_ble_eq_true rfl⟩ ⟨Nat.zero_le _, Nat.zero_le _⟩ (by decide) f11 rfl rfl hl.1 rfl (Nat.le_of_ble_eq_true rfl) dX8_hours_41 (fun w19 H locs hp20 h => ?_)
    refine lv_aload_n hx hb dX8_hours_44 rfl (lv_at hl 0 rfl) ?_
    have f21 : w19 0 = .inr (6, [.ref (ad 1), .ref (ad 14), .ref (ad 27), .ref (ad 54), .ref (ad 55), .ref (ad 58), .ref (ad 62), .long 0, .long 1, .int 0, .int 0, .int 0]) := (hp20 0 (by decide) (by decide)).trans f7
    refine r_get kc8 X h 0 0 (by decide) rfl f21 (by decide) kw_5 rfl dX8_hours_45 ?_
    refine lv_iload_n hx hb dX8_hours_48 rfl (lv_at hl 1 rfl) ?_
    have f22 : w19 1 = .inr (1, [.int 0, .int 0, .int 0, .int 0, .int 0, .ref (ad 2), .ref (ad 3), .ref (ad 4), .ref (ad 5), .ref (ad 6), .ref (ad 7), .ref (ad 8), .ref (ad 10), .ref (ad 12)]) := (hp20 1 (by decide) (by decide)).trans f9
    refine q_Vv (na := 1) (As := [.int i]) (rest := []) X hD hN h rfl (c_passHours l G cI cB cZ cO ad w19 i (by omega) (by omega) f22) ⟨kw_155, kw_156, kw_157, kw_9, kw_158⟩ rfl ⟨by decide, by decide, by decide⟩ ⟨Nat.le_of_ble_eq_true rfl, Nat.le_of_ble_eq_true rfl⟩ ⟨Nat.zero_le _, Nat.zero_le _⟩ (by decide) f22 rfl rfl hl.1 rfl (Nat.le_of_ble_eq_true rfl) dX8_hours_49 (fun w24 H locs hp25 h => ?_)
    obtain ⟨f26, hf27⟩ := hp25
    refine lv_aload_n hx hb dX8_hours_52 rfl (lv_at hl 0 rfl) ?_
    have f28 : w24 0 = .inr (6, [.ref (ad 1), .ref (ad 14), .ref (ad 27), .ref (ad 54), .ref (ad 55), .ref (ad 58), .ref (ad 62), .long 0, .long 1, .int 0, .int 0, .int 0]) := (hf27 0 (by decide)).trans f21
    refine r_get kc8 X h 0 0 (by decide) rfl f28 (by decide) kw_5 rfl dX8_hours_53 ?_
    refine r_get kc2 X h 1 0 (by decide) rfl f26 (by decide) kw_113 rfl dX8_hours_56 ?_
    exact e_i X h hr hlk dX8_hours_59 ⟨fun _ => by first | rfl | omega, fun _ => by first | rfl | omega, fun k hk => (hf27 k (by omega)).trans ((hp20 k (by omega) (by omega)).trans (congrFun e4 k))⟩
  · refine lv_if_ne (tgt := 17) hx hb dX8_hours_7 (by decide) (fun hc => absurd (by decide) hc) (fun _ => ?_)
    refine lv_aload_n hx hb dX8_hours_10 rfl (lv_at hl 0 rfl) ?_
    refine lv_bipush (v := (-2)) hx hb dX8_hours_11 (by decide) ?_
    have f29 : w 0 = .inr (6, [.ref (ad 1), .ref (ad 14), .ref (ad 27), .ref (ad 54), .ref (ad 55), .ref (ad 58), .ref (ad 62), .long 0, .long 1, .int 0, .int 0, .int 0]) := F 0 (by decide)
    have f30 : w2 0 = .inr (6, [.ref (ad 1), .ref (ad 14), .ref (ad 27), .ref (ad 54), .ref (ad 55), .ref (ad 58), .ref (ad 62), .long 0, .long 1, .int 0, .int 0, .int 0]) := by rw [e4]; exact f29
    refine q_Vi (na := 1) (As := [.int (-2)]) (rest := []) X hD hN h rfl (c_refused l G cI cB cZ cO ad w2 _ _ _ _ _ _ _ _ _ _ _ _ (-2) f30) ⟨kw_11, kw_12, kw_13, kw_14, kw_15⟩ rfl ⟨by decide, by decide, by decide⟩ ⟨Nat.le_of_ble_eq_true rfl, Nat.le_of_ble_eq_true rfl⟩ ⟨Nat.zero_le _, Nat.zero_le _⟩ (by decide) f30 rfl rfl hl.1 rfl (Nat.le_of_ble_eq_true rfl) dX8_hours_13 (fun r31 w32 H locs hp33 h => ?_)
    obtain ⟨rfl, x34, y35, z36, e37⟩ := hp33
    have f38 : w32 0 = .inr (6, [.ref (ad 1), .ref (ad 14), .ref (ad 27), .ref (ad 54), .ref (ad 55), .ref (ad 58), .ref (ad 62), .long 0, .long 1, .int x34, .int y35, .int z36]) := (congrFun e37 _).trans (va_up_self _ _ _)
    exact e_i X h hr hlk dX8_hours_16 ⟨fun _ => by first | rfl | omega, fun _ => by first | rfl | omega, fun k hk => ((congrFun e37 k).trans (va_up_ne _ _ (by omega))).trans (congrFun e4 k)⟩

set_option maxHeartbeats 4000000 in
set_option maxRecDepth 100000 in
theorem c_X_image0 (l : Launch) (G : va_G) (cI cB cZ cO : ClassId) (ad : Nat → Nat) (w : Nat → va_E) (F : ∀ k, k < 74 → w k = fr0 cI cB cZ cO ad k)  : MI l G (tyq cI cB cZ cO) yX8_image cX8_image 2 (some .int) 3 82 74 ad w [.ref (ad 0), .int 0] (fun r w1 => r = 1 ∧ ∀ k, 64 ≤ k → w1 k = w k) := by
  refine mk_i (own := "NoonShade") rfl (by decide) (Nat.le_of_ble_eq_true rfl) ?_
  intro p e s m below meth c ls X hD hN hr hlk h hl
  have hx := X.1.1
  have hb := X.1.2.1
  have hown := X.1.2.2.2.1
  have hts := X.1.2.2.2.2
  have hl : lv_has ls 2 [(0, .ref (ad 0)), (1, .int 0)] := hl
  refine lv_iload_n hx hb dX8_image_0 rfl (lv_at hl 1 rfl) ?_
  refine lv_iconst (v := 0) hx hb dX8_image_1 (by decide) ?_
  refine lv_iconst (v := 1) hx hb dX8_image_2 (by decide) ?_
  refine q_Si (na := 3) (As := [.int 0, .int 0, .int 1]) (rest := []) X hD hN h (c_within l G cI cB cZ cO ad w 0 0 1 0 0 1 rfl rfl rfl) ⟨kw_38, kw_39, kw_14, kw_40⟩ ⟨by decide, by decide, by decide⟩ ⟨Nat.le_of_ble_eq_true rfl, Nat.le_of_ble_eq_true rfl⟩ ⟨Nat.zero_le _, Nat.zero_le _⟩ rfl hl.1 rfl (Nat.le_of_ble_eq_true rfl) dX8_image_3 (fun r1 w2 H locs hp3 h => ?_)
  obtain ⟨e4, hp3⟩ := hp3
  rcases hp3 with ⟨hq5a, hq5b, rfl⟩ | ⟨hq5, rfl⟩
  · refine lv_if_ne (tgt := 16) hx hb dX8_image_6 (by decide) (fun _ => ?_) (fun hc => absurd hc (by decide))
    refine lv_aload_n hx hb dX8_image_16 rfl (lv_at hl 0 rfl) ?_
    have f6 : w 0 = .inr (6, [.ref (ad 1), .ref (ad 14), .ref (ad 27), .ref (ad 54), .ref (ad 55), .ref (ad 58), .ref (ad 62), .long 0, .long 1, .int 0, .int 0, .int 0]) := F 0 (by decide)
    have f7 : w2 0 = .inr (6, [.ref (ad 1), .ref (ad 14), .ref (ad 27), .ref (ad 54), .ref (ad 55), .ref (ad 58), .ref (ad 62), .long 0, .long 1, .int 0, .int 0, .int 0]) := by rw [e4]; exact f6
    refine r_get kc8 X h 0 2 (by decide) rfl f7 (by decide) kw_170 rfl dX8_image_17 ?_
    refine lv_iload_n hx hb dX8_image_20 rfl (lv_at hl 1 rfl) ?_
    have f8 : w 27 = .inl (cO, 2, .inr (.inr (.inr (.inr (fun k => if k = 0 then some (ad 28) else if k = 1 then some (ad 41) else none))))) := F 27 (by decide)
    have f9 : w2 27 = .inl (cO, 2, .inr (.inr (.inr (.inr (fun k => if k = 0 then some (ad 28) else if k = 1 then some (ad 41) else none))))) := by rw [e4]; exact f8
    refine r_aald X h 27 3 (by decide) rfl f9 rfl (by unfold vp_in; decide) rfl dX8_image_21 ?_
    refine lv_aload_n hx hb dX8_image_22 rfl (lv_at hl 0 rfl) ?_
    refine r_get kc8 X h 0 0 (by decide) rfl f7 (by decide) kw_5 rfl dX8_image_23 ?_
    have f10 : w 1 = .inr (1, [.int 0, .int 0, .int 0, .int 0, .int 0, .ref (ad 2), .ref (ad 3), .ref (ad 4), .ref (ad 5), .ref (ad 6), .ref (ad 7), .ref (ad 8), .ref (ad 10), .ref (ad 12)]) := F 1 (by decide)
    have f11 : w2 1 = .inr (1, [.int 0, .int 0, .int 0, .int 0, .int 0, .ref (ad 2), .ref (ad 3), .ref (ad 4), .ref (ad 5), .ref (ad 6), .ref (ad 7), .ref (ad 8), .ref (ad 10), .ref (ad 12)]) := by rw [e4]; exact f10
    have f12 : w 2 = .inl (cI, 7, .inl (fun _ => 0)) := F 2 (by decide)
    have f13 : w2 2 = .inl (cI, 7, .inl (fun _ => 0)) := by rw [e4]; exact f12
    have f14 : w 3 = .inl (cI, 7, .inl (fun _ => 0)) := F 3 (by decide)
    have f15 : w2 3 = .inl (cI, 7, .inl (fun _ => 0)) := by rw [e4]; exact f14
    have f16 : w 4 = .inl (cI, 7, .inl (fun _ => 0)) := F 4 (by decide)
    have f17 : w2 4 = .inl (cI, 7, .inl (fun _ => 0)) := by rw [e4]; exact f16
    have f18 : w 5 = .inl (cI, 4, .inl (fun _ => 0)) := F 5 (by decide)
    have f19 : w2 5 = .inl (cI, 4, .inl (fun _ => 0)) := by rw [e4]; exact f18
    have f20 : w 6 = .inl (cI, 4, .inl (fun _ => 0)) := F 6 (by decide)
    have f21 : w2 6 = .inl (cI, 4, .inl (fun _ => 0)) := by rw [e4]; exact f20
    have f22 : w 7 = .inl (cI, 4, .inl (fun _ => 0)) := F 7 (by decide)
    have f23 : w2 7 = .inl (cI, 4, .inl (fun _ => 0)) := by rw [e4]; exact f22
    have f24 : w 8 = .inr (4, [.ref (ad 9), .int 0]) := F 8 (by decide)
    have f25 : w2 8 = .inr (4, [.ref (ad 9), .int 0]) := by rw [e4]; exact f24
    have f26 : w 9 = .inl (cI, 24, .inl (fun _ => 0)) := F 9 (by decide)
    have f27 : w2 9 = .inl (cI, 24, .inl (fun _ => 0)) := by rw [e4]; exact f26
    have f28 : w 10 = .inr (4, [.ref (ad 11), .int 0]) := F 10 (by decide)
    have f29 : w2 10 = .inr (4, [.ref (ad 11), .int 0]) := by rw [e4]; exact f28
    have f30 : w 11 = .inl (cI, 24, .inl (fun _ => 0)) := F 11 (by decide)
    have f31 : w2 11 = .inl (cI, 24, .inl (fun _ => 0)) := by rw [e4]; exact f30
    have f32 : w 12 = .inr (2, [.ref (ad 13), .int 0]) := F 12 (by decide)
    have f33 : w2 12 = .inr (2, [.ref (ad 13), .int 0]) := by rw [e4]; exact f32
    have f34 : w 13 = .inl (cI, 88, .inl (fun _ => 0)) := F 13 (by decide)
    have f35 : w2 13 = .inl (cI, 88, .inl (fun _ => 0)) := by rw [e4]; exact f34
    have f36 : w 28 = .inr (1, [.int 0, .int 0, .int 0, .int 0, .int 0, .ref (ad 29), .ref (ad 30), .ref (ad 31), .ref (ad 32), .ref (ad 33), .ref (ad 34), .ref (ad 35), .ref (ad 37), .ref (ad 39)]) := F 28 (by decide)
    have f37 : w2 28 = .inr (1, [.int 0, .int 0, .int 0, .int 0, .int 0, .ref (ad 29), .ref (ad 30), .ref (ad 31), .ref (ad 32), .ref (ad 33), .ref (ad 34), .ref (ad 35), .ref (ad 37), .ref (ad 39)]) := by rw [e4]; exact f36
    have f38 : w 29 = .inl (cI, 7, .inl (fun _ => 0)) := F 29 (by decide)
    have f39 : w2 29 = .inl (cI, 7, .inl (fun _ => 0)) := by rw [e4]; exact f38
    have f40 : w 30 = .inl (cI, 7, .inl (fun _ => 0)) := F 30 (by decide)
    have f41 : w2 30 = .inl (cI, 7, .inl (fun _ => 0)) := by rw [e4]; exact f40
    have f42 : w 31 = .inl (cI, 7, .inl (fun _ => 0)) := F 31 (by decide)
    have f43 : w2 31 = .inl (cI, 7, .inl (fun _ => 0)) := by rw [e4]; exact f42
    have f44 : w 32 = .inl (cI, 4, .inl (fun _ => 0)) := F 32 (by decide)
    have f45 : w2 32 = .inl (cI, 4, .inl (fun _ => 0)) := by rw [e4]; exact f44
    have f46 : w 33 = .inl (cI, 4, .inl (fun _ => 0)) := F 33 (by decide)
    have f47 : w2 33 = .inl (cI, 4, .inl (fun _ => 0)) := by rw [e4]; exact f46
    have f48 : w 34 = .inl (cI, 4, .inl (fun _ => 0)) := F 34 (by decide)
    have f49 : w2 34 = .inl (cI, 4, .inl (fun _ => 0)) := by rw [e4]; exact f48
    have f50 : w 35 = .inr (4, [.ref (ad 36), .int 0]) := F 35 (by decide)
    have f51 : w2 35 = .inr (4, [.ref (ad 36), .int 0]) := by rw [e4]; exact f50
    have f52 : w 36 = .inl (cI, 24, .inl (fun _ => 0)) := F 36 (by decide)
    have f53 : w2 36 = .inl (cI, 24, .inl (fun _ => 0)) := by rw [e4]; exact f52
    have f54 : w 37 = .inr (4, [.ref (ad 38), .int 0]) := F 37 (by decide)
    have f55 : w2 37 = .inr (4, [.ref (ad 38), .int 0]) := by rw [e4]; exact f54
    have f56 : w 38 = .inl (cI, 24, .inl (fun _ => 0)) := F 38 (by decide)
    have f57 : w2 38 = .inl (cI, 24, .inl (fun _ => 0)) := by rw [e4]; exact f56
    have f58 : w 39 = .inr (2, [.ref (ad 40), .int 0]) := F 39 (by decide)
    have f59 : w2 39 = .inr (2, [.ref (ad 40), .int 0]) := by rw [e4]; exact f58
    have f60 : w 40 = .inl (cI, 88, .inl (fun _ => 0)) := F 40 (by decide)
    have f61 : w2 40 = .inl (cI, 88, .inl (fun _ => 0)) := by rw [e4]; exact f60
    refine q_Vv (na := 1) (As := [.ref (ad 1)]) (rest := []) X hD hN h rfl (c_become28 l G cI cB cZ cO ad w2 f11 f13 f15 f17 f19 f21 f23 f25 f27 f29 f31 f33 f35 f37 f39 f41 f43 f45 f47 f49 f51 f53 f55 f57 f59 f61) ⟨kw_171, kw_172, kw_173, kw_9, kw_174⟩ rfl ⟨by decide, by decide, by decide⟩ ⟨Nat.le_of_ble_eq_true rfl, Nat.le_of_ble_eq_true rfl⟩ ⟨Nat.zero_le _, Nat.zero_le _⟩ (by decide) f37 rfl rfl hl.1 rfl (Nat.le_of_ble_eq_true rfl) dX8_image_26 (fun w63 H locs hp64 h => ?_)
    obtain ⟨f65, hf66⟩ := hp64
    refine lv_aload_n hx hb dX8_image_29 rfl (lv_at hl 0 rfl) ?_
    have f67 : w63 0 = .inr (6, [.ref (ad 1), .ref (ad 14), .ref (ad 27), .ref (ad 54), .ref (ad 55), .ref (ad 58), .ref (ad 62), .long 0, .long 1, .int 0, .int 0, .int 0]) := (hf66 0 (by omega)).trans f7
    refine r_get kc8 X h 0 3 (by decide) rfl f67 (by decide) kw_105 rfl dX8_image_30 ?_
    refine lv_iload_n hx hb dX8_image_33 rfl (lv_at hl 1 rfl) ?_
    refine lv_iconst (v := 1) hx hb dX8_image_34 (by decide) ?_
    have f68 : w 54 = .inl (cZ, 2, .inl (fun _ => 0)) := F 54 (by decide)
    have f69 : w2 54 = .inl (cZ, 2, .inl (fun _ => 0)) := by rw [e4]; exact f68
    have f70 : w63 54 = .inl (cZ, 2, .inl (fun _ => 0)) := (hf66 54 (by omega)).trans f69
    refine o_zast (f1 := upd (fun _ => 0) 0 (vp_nar .boolean 1)) X hD h 54 2 (by decide) rfl f70 rfl (by unfold vp_in; decide) rfl dX8_image_35 (fun H locs w71 e72 h => ?_)
    have f73 : w71 54 = .inl (cZ, 2, .inl (upd (fun _ => 0) 0 (vp_nar .boolean 1))) := (congrFun e72 _).trans (va_up_self _ _ _)
    refine lv_iconst (v := 1) hx hb dX8_image_36 (by decide) ?_
    exact e_i X h hr hlk dX8_image_37 ⟨rfl, fun k hk => ((congrFun e72 k).trans (va_up_ne _ _ (by omega))).trans ((hf66 k (by omega)).trans (congrFun e4 k))⟩
  · exfalso; omega

set_option maxHeartbeats 4000000 in
set_option maxRecDepth 100000 in
theorem c_X_image1 (l : Launch) (G : va_G) (cI cB cZ cO : ClassId) (ad : Nat → Nat) (w : Nat → va_E) (F : ∀ k, k < 74 → w k = fr0 cI cB cZ cO ad k)  : MI l G (tyq cI cB cZ cO) yX8_image cX8_image 2 (some .int) 3 82 74 ad w [.ref (ad 0), .int 1] (fun r w1 => r = 1 ∧ ∀ k, 64 ≤ k → w1 k = w k) := by
  refine mk_i (own := "NoonShade") rfl (by decide) (Nat.le_of_ble_eq_true rfl) ?_
  intro p e s m below meth c ls X hD hN hr hlk h hl
  have hx := X.1.1
  have hb := X.1.2.1
  have hown := X.1.2.2.2.1
  have hts := X.1.2.2.2.2
  have hl : lv_has ls 2 [(0, .ref (ad 0)), (1, .int 1)] := hl
  refine lv_iload_n hx hb dX8_image_0 rfl (lv_at hl 1 rfl) ?_
  refine lv_iconst (v := 0) hx hb dX8_image_1 (by decide) ?_
  refine lv_iconst (v := 1) hx hb dX8_image_2 (by decide) ?_
  refine q_Si (na := 3) (As := [.int 1, .int 0, .int 1]) (rest := []) X hD hN h (c_within l G cI cB cZ cO ad w 1 0 1 1 0 1 rfl rfl rfl) ⟨kw_38, kw_39, kw_14, kw_40⟩ ⟨by decide, by decide, by decide⟩ ⟨Nat.le_of_ble_eq_true rfl, Nat.le_of_ble_eq_true rfl⟩ ⟨Nat.zero_le _, Nat.zero_le _⟩ rfl hl.1 rfl (Nat.le_of_ble_eq_true rfl) dX8_image_3 (fun r1 w2 H locs hp3 h => ?_)
  obtain ⟨e4, hp3⟩ := hp3
  rcases hp3 with ⟨hq5a, hq5b, rfl⟩ | ⟨hq5, rfl⟩
  · refine lv_if_ne (tgt := 16) hx hb dX8_image_6 (by decide) (fun _ => ?_) (fun hc => absurd hc (by decide))
    refine lv_aload_n hx hb dX8_image_16 rfl (lv_at hl 0 rfl) ?_
    have f6 : w 0 = .inr (6, [.ref (ad 1), .ref (ad 14), .ref (ad 27), .ref (ad 54), .ref (ad 55), .ref (ad 58), .ref (ad 62), .long 0, .long 1, .int 0, .int 0, .int 0]) := F 0 (by decide)
    have f7 : w2 0 = .inr (6, [.ref (ad 1), .ref (ad 14), .ref (ad 27), .ref (ad 54), .ref (ad 55), .ref (ad 58), .ref (ad 62), .long 0, .long 1, .int 0, .int 0, .int 0]) := by rw [e4]; exact f6
    refine r_get kc8 X h 0 2 (by decide) rfl f7 (by decide) kw_170 rfl dX8_image_17 ?_
    refine lv_iload_n hx hb dX8_image_20 rfl (lv_at hl 1 rfl) ?_
    have f8 : w 27 = .inl (cO, 2, .inr (.inr (.inr (.inr (fun k => if k = 0 then some (ad 28) else if k = 1 then some (ad 41) else none))))) := F 27 (by decide)
    have f9 : w2 27 = .inl (cO, 2, .inr (.inr (.inr (.inr (fun k => if k = 0 then some (ad 28) else if k = 1 then some (ad 41) else none))))) := by rw [e4]; exact f8
    refine r_aald X h 27 3 (by decide) rfl f9 rfl (by unfold vp_in; decide) rfl dX8_image_21 ?_
    refine lv_aload_n hx hb dX8_image_22 rfl (lv_at hl 0 rfl) ?_
    refine r_get kc8 X h 0 0 (by decide) rfl f7 (by decide) kw_5 rfl dX8_image_23 ?_
    have f10 : w 1 = .inr (1, [.int 0, .int 0, .int 0, .int 0, .int 0, .ref (ad 2), .ref (ad 3), .ref (ad 4), .ref (ad 5), .ref (ad 6), .ref (ad 7), .ref (ad 8), .ref (ad 10), .ref (ad 12)]) := F 1 (by decide)
    have f11 : w2 1 = .inr (1, [.int 0, .int 0, .int 0, .int 0, .int 0, .ref (ad 2), .ref (ad 3), .ref (ad 4), .ref (ad 5), .ref (ad 6), .ref (ad 7), .ref (ad 8), .ref (ad 10), .ref (ad 12)]) := by rw [e4]; exact f10
    have f12 : w 2 = .inl (cI, 7, .inl (fun _ => 0)) := F 2 (by decide)
    have f13 : w2 2 = .inl (cI, 7, .inl (fun _ => 0)) := by rw [e4]; exact f12
    have f14 : w 3 = .inl (cI, 7, .inl (fun _ => 0)) := F 3 (by decide)
    have f15 : w2 3 = .inl (cI, 7, .inl (fun _ => 0)) := by rw [e4]; exact f14
    have f16 : w 4 = .inl (cI, 7, .inl (fun _ => 0)) := F 4 (by decide)
    have f17 : w2 4 = .inl (cI, 7, .inl (fun _ => 0)) := by rw [e4]; exact f16
    have f18 : w 5 = .inl (cI, 4, .inl (fun _ => 0)) := F 5 (by decide)
    have f19 : w2 5 = .inl (cI, 4, .inl (fun _ => 0)) := by rw [e4]; exact f18
    have f20 : w 6 = .inl (cI, 4, .inl (fun _ => 0)) := F 6 (by decide)
    have f21 : w2 6 = .inl (cI, 4, .inl (fun _ => 0)) := by rw [e4]; exact f20
    have f22 : w 7 = .inl (cI, 4, .inl (fun _ => 0)) := F 7 (by decide)
    have f23 : w2 7 = .inl (cI, 4, .inl (fun _ => 0)) := by rw [e4]; exact f22
    have f24 : w 8 = .inr (4, [.ref (ad 9), .int 0]) := F 8 (by decide)
    have f25 : w2 8 = .inr (4, [.ref (ad 9), .int 0]) := by rw [e4]; exact f24
    have f26 : w 9 = .inl (cI, 24, .inl (fun _ => 0)) := F 9 (by decide)
    have f27 : w2 9 = .inl (cI, 24, .inl (fun _ => 0)) := by rw [e4]; exact f26
    have f28 : w 10 = .inr (4, [.ref (ad 11), .int 0]) := F 10 (by decide)
    have f29 : w2 10 = .inr (4, [.ref (ad 11), .int 0]) := by rw [e4]; exact f28
    have f30 : w 11 = .inl (cI, 24, .inl (fun _ => 0)) := F 11 (by decide)
    have f31 : w2 11 = .inl (cI, 24, .inl (fun _ => 0)) := by rw [e4]; exact f30
    have f32 : w 12 = .inr (2, [.ref (ad 13), .int 0]) := F 12 (by decide)
    have f33 : w2 12 = .inr (2, [.ref (ad 13), .int 0]) := by rw [e4]; exact f32
    have f34 : w 13 = .inl (cI, 88, .inl (fun _ => 0)) := F 13 (by decide)
    have f35 : w2 13 = .inl (cI, 88, .inl (fun _ => 0)) := by rw [e4]; exact f34
    have f36 : w 41 = .inr (1, [.int 0, .int 0, .int 0, .int 0, .int 0, .ref (ad 42), .ref (ad 43), .ref (ad 44), .ref (ad 45), .ref (ad 46), .ref (ad 47), .ref (ad 48), .ref (ad 50), .ref (ad 52)]) := F 41 (by decide)
    have f37 : w2 41 = .inr (1, [.int 0, .int 0, .int 0, .int 0, .int 0, .ref (ad 42), .ref (ad 43), .ref (ad 44), .ref (ad 45), .ref (ad 46), .ref (ad 47), .ref (ad 48), .ref (ad 50), .ref (ad 52)]) := by rw [e4]; exact f36
    have f38 : w 42 = .inl (cI, 7, .inl (fun _ => 0)) := F 42 (by decide)
    have f39 : w2 42 = .inl (cI, 7, .inl (fun _ => 0)) := by rw [e4]; exact f38
    have f40 : w 43 = .inl (cI, 7, .inl (fun _ => 0)) := F 43 (by decide)
    have f41 : w2 43 = .inl (cI, 7, .inl (fun _ => 0)) := by rw [e4]; exact f40
    have f42 : w 44 = .inl (cI, 7, .inl (fun _ => 0)) := F 44 (by decide)
    have f43 : w2 44 = .inl (cI, 7, .inl (fun _ => 0)) := by rw [e4]; exact f42
    have f44 : w 45 = .inl (cI, 4, .inl (fun _ => 0)) := F 45 (by decide)
    have f45 : w2 45 = .inl (cI, 4, .inl (fun _ => 0)) := by rw [e4]; exact f44
    have f46 : w 46 = .inl (cI, 4, .inl (fun _ => 0)) := F 46 (by decide)
    have f47 : w2 46 = .inl (cI, 4, .inl (fun _ => 0)) := by rw [e4]; exact f46
    have f48 : w 47 = .inl (cI, 4, .inl (fun _ => 0)) := F 47 (by decide)
    have f49 : w2 47 = .inl (cI, 4, .inl (fun _ => 0)) := by rw [e4]; exact f48
    have f50 : w 48 = .inr (4, [.ref (ad 49), .int 0]) := F 48 (by decide)
    have f51 : w2 48 = .inr (4, [.ref (ad 49), .int 0]) := by rw [e4]; exact f50
    have f52 : w 49 = .inl (cI, 24, .inl (fun _ => 0)) := F 49 (by decide)
    have f53 : w2 49 = .inl (cI, 24, .inl (fun _ => 0)) := by rw [e4]; exact f52
    have f54 : w 50 = .inr (4, [.ref (ad 51), .int 0]) := F 50 (by decide)
    have f55 : w2 50 = .inr (4, [.ref (ad 51), .int 0]) := by rw [e4]; exact f54
    have f56 : w 51 = .inl (cI, 24, .inl (fun _ => 0)) := F 51 (by decide)
    have f57 : w2 51 = .inl (cI, 24, .inl (fun _ => 0)) := by rw [e4]; exact f56
    have f58 : w 52 = .inr (2, [.ref (ad 53), .int 0]) := F 52 (by decide)
    have f59 : w2 52 = .inr (2, [.ref (ad 53), .int 0]) := by rw [e4]; exact f58
    have f60 : w 53 = .inl (cI, 88, .inl (fun _ => 0)) := F 53 (by decide)
    have f61 : w2 53 = .inl (cI, 88, .inl (fun _ => 0)) := by rw [e4]; exact f60
    refine q_Vv (na := 1) (As := [.ref (ad 1)]) (rest := []) X hD hN h rfl (c_become41 l G cI cB cZ cO ad w2 f11 f13 f15 f17 f19 f21 f23 f25 f27 f29 f31 f33 f35 f37 f39 f41 f43 f45 f47 f49 f51 f53 f55 f57 f59 f61) ⟨kw_171, kw_172, kw_173, kw_9, kw_174⟩ rfl ⟨by decide, by decide, by decide⟩ ⟨Nat.le_of_ble_eq_true rfl, Nat.le_of_ble_eq_true rfl⟩ ⟨Nat.zero_le _, Nat.zero_le _⟩ (by decide) f37 rfl rfl hl.1 rfl (Nat.le_of_ble_eq_true rfl) dX8_image_26 (fun w63 H locs hp64 h => ?_)
    obtain ⟨f65, hf66⟩ := hp64
    refine lv_aload_n hx hb dX8_image_29 rfl (lv_at hl 0 rfl) ?_
    have f67 : w63 0 = .inr (6, [.ref (ad 1), .ref (ad 14), .ref (ad 27), .ref (ad 54), .ref (ad 55), .ref (ad 58), .ref (ad 62), .long 0, .long 1, .int 0, .int 0, .int 0]) := (hf66 0 (by omega)).trans f7
    refine r_get kc8 X h 0 3 (by decide) rfl f67 (by decide) kw_105 rfl dX8_image_30 ?_
    refine lv_iload_n hx hb dX8_image_33 rfl (lv_at hl 1 rfl) ?_
    refine lv_iconst (v := 1) hx hb dX8_image_34 (by decide) ?_
    have f68 : w 54 = .inl (cZ, 2, .inl (fun _ => 0)) := F 54 (by decide)
    have f69 : w2 54 = .inl (cZ, 2, .inl (fun _ => 0)) := by rw [e4]; exact f68
    have f70 : w63 54 = .inl (cZ, 2, .inl (fun _ => 0)) := (hf66 54 (by omega)).trans f69
    refine o_zast (f1 := upd (fun _ => 0) 1 (vp_nar .boolean 1)) X hD h 54 2 (by decide) rfl f70 rfl (by unfold vp_in; decide) rfl dX8_image_35 (fun H locs w71 e72 h => ?_)
    have f73 : w71 54 = .inl (cZ, 2, .inl (upd (fun _ => 0) 1 (vp_nar .boolean 1))) := (congrFun e72 _).trans (va_up_self _ _ _)
    refine lv_iconst (v := 1) hx hb dX8_image_36 (by decide) ?_
    exact e_i X h hr hlk dX8_image_37 ⟨rfl, fun k hk => ((congrFun e72 k).trans (va_up_ne _ _ (by omega))).trans ((hf66 k (by omega)).trans (congrFun e4 k))⟩
  · exfalso; omega

set_option maxHeartbeats 4000000 in
set_option maxRecDepth 100000 in
theorem c_X_imageN (l : Launch) (G : va_G) (cI cB cZ cO : ClassId) (ad : Nat → Nat) (w : Nat → va_E) (F : ∀ k, k < 74 → w k = fr0 cI cB cZ cO ad k) (i : Int32) (hi : ¬ (0 ≤ i.toInt ∧ i.toInt ≤ 1)) : MI l G (tyq cI cB cZ cO) yX8_image cX8_image 2 (some .int) 3 82 74 ad w [.ref (ad 0), .int i] (fun r w1 => r = -2 ∧ ∀ k, 64 ≤ k → w1 k = w k) := by
  refine mk_i (own := "NoonShade") rfl (by decide) (Nat.le_of_ble_eq_true rfl) ?_
  intro p e s m below meth c ls X hD hN hr hlk h hl
  have hx := X.1.1
  have hb := X.1.2.1
  have hown := X.1.2.2.2.1
  have hts := X.1.2.2.2.2
  have hl : lv_has ls 2 [(0, .ref (ad 0)), (1, .int i)] := hl
  refine lv_iload_n hx hb dX8_image_0 rfl (lv_at hl 1 rfl) ?_
  refine lv_iconst (v := 0) hx hb dX8_image_1 (by decide) ?_
  refine lv_iconst (v := 1) hx hb dX8_image_2 (by decide) ?_
  refine q_Si (na := 3) (As := [.int i, .int 0, .int 1]) (rest := []) X hD hN h (c_within l G cI cB cZ cO ad w i 0 1 ((i).toInt) 0 1 rfl rfl rfl) ⟨kw_38, kw_39, kw_14, kw_40⟩ ⟨by decide, by decide, by decide⟩ ⟨Nat.le_of_ble_eq_true rfl, Nat.le_of_ble_eq_true rfl⟩ ⟨Nat.zero_le _, Nat.zero_le _⟩ rfl hl.1 rfl (Nat.le_of_ble_eq_true rfl) dX8_image_3 (fun r1 w2 H locs hp3 h => ?_)
  obtain ⟨e4, hp3⟩ := hp3
  rcases hp3 with ⟨hq5a, hq5b, rfl⟩ | ⟨hq5, rfl⟩
  · exfalso; omega
  · refine lv_if_ne (tgt := 16) hx hb dX8_image_6 (by decide) (fun hc => absurd (by decide) hc) (fun _ => ?_)
    refine lv_aload_n hx hb dX8_image_9 rfl (lv_at hl 0 rfl) ?_
    refine lv_bipush (v := (-2)) hx hb dX8_image_10 (by decide) ?_
    have f6 : w 0 = .inr (6, [.ref (ad 1), .ref (ad 14), .ref (ad 27), .ref (ad 54), .ref (ad 55), .ref (ad 58), .ref (ad 62), .long 0, .long 1, .int 0, .int 0, .int 0]) := F 0 (by decide)
    have f7 : w2 0 = .inr (6, [.ref (ad 1), .ref (ad 14), .ref (ad 27), .ref (ad 54), .ref (ad 55), .ref (ad 58), .ref (ad 62), .long 0, .long 1, .int 0, .int 0, .int 0]) := by rw [e4]; exact f6
    refine q_Vi (na := 1) (As := [.int (-2)]) (rest := []) X hD hN h rfl (c_refused l G cI cB cZ cO ad w2 _ _ _ _ _ _ _ _ _ _ _ _ (-2) f7) ⟨kw_11, kw_12, kw_13, kw_14, kw_15⟩ rfl ⟨by decide, by decide, by decide⟩ ⟨Nat.le_of_ble_eq_true rfl, Nat.le_of_ble_eq_true rfl⟩ ⟨Nat.zero_le _, Nat.zero_le _⟩ (by decide) f7 rfl rfl hl.1 rfl (Nat.le_of_ble_eq_true rfl) dX8_image_12 (fun r8 w9 H locs hp10 h => ?_)
    obtain ⟨rfl, x11, y12, z13, e14⟩ := hp10
    have f15 : w9 0 = .inr (6, [.ref (ad 1), .ref (ad 14), .ref (ad 27), .ref (ad 54), .ref (ad 55), .ref (ad 58), .ref (ad 62), .long 0, .long 1, .int x11, .int y12, .int z13]) := (congrFun e14 _).trans (va_up_self _ _ _)
    exact e_i X h hr hlk dX8_image_15 ⟨rfl, fun k hk => ((congrFun e14 k).trans (va_up_ne _ _ (by omega))).trans (congrFun e4 k)⟩

set_option maxHeartbeats 4000000 in
set_option maxRecDepth 100000 in
theorem c_X_noons (l : Launch) (G : va_G) (cI cB cZ cO : ClassId) (ad : Nat → Nat) (w : Nat → va_E) (F : ∀ k, k < 74 → w k = fr0 cI cB cZ cO ad k) (x n : Int32) : MI l G (tyq cI cB cZ cO) yX8_noons cX8_noons 8 (some .int) 3 82 74 ad w [.ref (ad 0), .int x, .int n] (fun r w1 => (0 ≤ x.toInt ∧ x.toInt ≤ 999999 ∧ 0 ≤ n.toInt ∧ n.toInt ≤ 60 → r = 0) ∧ (¬ (0 ≤ x.toInt ∧ x.toInt ≤ 999999 ∧ 0 ≤ n.toInt ∧ n.toInt ≤ 60) → r = -2) ∧ ∀ k, 64 ≤ k → w1 k = w k) := by
  refine mk_i (own := "NoonShade") rfl (by decide) (Nat.le_of_ble_eq_true rfl) ?_
  intro p e s m below meth c ls X hD hN hr hlk h hl
  have hx := X.1.1
  have hb := X.1.2.1
  have hown := X.1.2.2.2.1
  have hts := X.1.2.2.2.2
  have hl : lv_has ls 8 [(0, .ref (ad 0)), (1, .int x), (2, .int n)] := hl
  refine lv_iload_n hx hb dX8_noons_0 rfl (lv_at hl 1 rfl) ?_
  refine lv_iconst (v := 0) hx hb dX8_noons_1 (by decide) ?_
  refine lv_ldc (v := 999999) hx hb hown (hts _ kw_175) dX8_noons_2 ?_
  refine q_Si (na := 3) (As := [.int x, .int 0, .int 999999]) (rest := []) X hD hN h (c_within l G cI cB cZ cO ad w x 0 999999 ((x).toInt) 0 999999 rfl rfl rfl) ⟨kw_38, kw_39, kw_14, kw_40⟩ ⟨by decide, by decide, by decide⟩ ⟨Nat.le_of_ble_eq_true rfl, Nat.le_of_ble_eq_true rfl⟩ ⟨Nat.zero_le _, Nat.zero_le _⟩ rfl hl.1 rfl (Nat.le_of_ble_eq_true rfl) dX8_noons_4 (fun r1 w2 H locs hp3 h => ?_)
  obtain ⟨e4, hp3⟩ := hp3
  rcases hp3 with ⟨hq5a, hq5b, rfl⟩ | ⟨hq5, rfl⟩
  · refine lv_if_eq (tgt := 20) hx hb dX8_noons_7 (by decide) (fun hc => absurd hc (by decide)) (fun _ => ?_)
    refine lv_iload_n hx hb dX8_noons_10 rfl (lv_at hl 2 rfl) ?_
    refine lv_iconst (v := 0) hx hb dX8_noons_11 (by decide) ?_
    refine lv_bipush (v := 60) hx hb dX8_noons_12 (by decide) ?_
    refine q_Si (na := 3) (As := [.int n, .int 0, .int 60]) (rest := []) X hD hN h (c_within l G cI cB cZ cO ad w2 n 0 60 ((n).toInt) 0 60 rfl rfl rfl) ⟨kw_38, kw_39, kw_14, kw_40⟩ ⟨by decide, by decide, by decide⟩ ⟨Nat.le_of_ble_eq_true rfl, Nat.le_of_ble_eq_true rfl⟩ ⟨Nat.zero_le _, Nat.zero_le _⟩ rfl hl.1 rfl (Nat.le_of_ble_eq_true rfl) dX8_noons_14 (fun r6 w7 H locs hp8 h => ?_)
    obtain ⟨e9, hp8⟩ := hp8
    rcases hp8 with ⟨hq10a, hq10b, rfl⟩ | ⟨hq10, rfl⟩
    · refine lv_if_ne (tgt := 27) hx hb dX8_noons_17 (by decide) (fun _ => ?_) (fun hc => absurd hc (by decide))
      refine lv_aload_n hx hb dX8_noons_27 rfl (lv_at hl 0 rfl) ?_
      have f11 : w 0 = .inr (6, [.ref (ad 1), .ref (ad 14), .ref (ad 27), .ref (ad 54), .ref (ad 55), .ref (ad 58), .ref (ad 62), .long 0, .long 1, .int 0, .int 0, .int 0]) := F 0 (by decide)
      have f12 : w2 0 = .inr (6, [.ref (ad 1), .ref (ad 14), .ref (ad 27), .ref (ad 54), .ref (ad 55), .ref (ad 58), .ref (ad 62), .long 0, .long 1, .int 0, .int 0, .int 0]) := by rw [e4]; exact f11
      have f13 : w7 0 = .inr (6, [.ref (ad 1), .ref (ad 14), .ref (ad 27), .ref (ad 54), .ref (ad 55), .ref (ad 58), .ref (ad 62), .long 0, .long 1, .int 0, .int 0, .int 0]) := by rw [e9]; exact f12
      refine r_get kc8 X h 0 1 (by decide) rfl f13 (by decide) kw_91 rfl dX8_noons_28 ?_
      refine lv_aload_n hx hb dX8_noons_31 rfl (lv_at hl 0 rfl) ?_
      refine r_get kc8 X h 0 0 (by decide) rfl f13 (by decide) kw_5 rfl dX8_noons_32 ?_
      have f14 : w 1 = .inr (1, [.int 0, .int 0, .int 0, .int 0, .int 0, .ref (ad 2), .ref (ad 3), .ref (ad 4), .ref (ad 5), .ref (ad 6), .ref (ad 7), .ref (ad 8), .ref (ad 10), .ref (ad 12)]) := F 1 (by decide)
      have f15 : w2 1 = .inr (1, [.int 0, .int 0, .int 0, .int 0, .int 0, .ref (ad 2), .ref (ad 3), .ref (ad 4), .ref (ad 5), .ref (ad 6), .ref (ad 7), .ref (ad 8), .ref (ad 10), .ref (ad 12)]) := by rw [e4]; exact f14
      have f16 : w7 1 = .inr (1, [.int 0, .int 0, .int 0, .int 0, .int 0, .ref (ad 2), .ref (ad 3), .ref (ad 4), .ref (ad 5), .ref (ad 6), .ref (ad 7), .ref (ad 8), .ref (ad 10), .ref (ad 12)]) := by rw [e9]; exact f15
      have f17 : w 2 = .inl (cI, 7, .inl (fun _ => 0)) := F 2 (by decide)
      have f18 : w2 2 = .inl (cI, 7, .inl (fun _ => 0)) := by rw [e4]; exact f17
      have f19 : w7 2 = .inl (cI, 7, .inl (fun _ => 0)) := by rw [e9]; exact f18
      have f20 : w 3 = .inl (cI, 7, .inl (fun _ => 0)) := F 3 (by decide)
      have f21 : w2 3 = .inl (cI, 7, .inl (fun _ => 0)) := by rw [e4]; exact f20
      have f22 : w7 3 = .inl (cI, 7, .inl (fun _ => 0)) := by rw [e9]; exact f21
      have f23 : w 4 = .inl (cI, 7, .inl (fun _ => 0)) := F 4 (by decide)
      have f24 : w2 4 = .inl (cI, 7, .inl (fun _ => 0)) := by rw [e4]; exact f23
      have f25 : w7 4 = .inl (cI, 7, .inl (fun _ => 0)) := by rw [e9]; exact f24
      have f26 : w 5 = .inl (cI, 4, .inl (fun _ => 0)) := F 5 (by decide)
      have f27 : w2 5 = .inl (cI, 4, .inl (fun _ => 0)) := by rw [e4]; exact f26
      have f28 : w7 5 = .inl (cI, 4, .inl (fun _ => 0)) := by rw [e9]; exact f27
      have f29 : w 6 = .inl (cI, 4, .inl (fun _ => 0)) := F 6 (by decide)
      have f30 : w2 6 = .inl (cI, 4, .inl (fun _ => 0)) := by rw [e4]; exact f29
      have f31 : w7 6 = .inl (cI, 4, .inl (fun _ => 0)) := by rw [e9]; exact f30
      have f32 : w 7 = .inl (cI, 4, .inl (fun _ => 0)) := F 7 (by decide)
      have f33 : w2 7 = .inl (cI, 4, .inl (fun _ => 0)) := by rw [e4]; exact f32
      have f34 : w7 7 = .inl (cI, 4, .inl (fun _ => 0)) := by rw [e9]; exact f33
      have f35 : w 8 = .inr (4, [.ref (ad 9), .int 0]) := F 8 (by decide)
      have f36 : w2 8 = .inr (4, [.ref (ad 9), .int 0]) := by rw [e4]; exact f35
      have f37 : w7 8 = .inr (4, [.ref (ad 9), .int 0]) := by rw [e9]; exact f36
      have f38 : w 9 = .inl (cI, 24, .inl (fun _ => 0)) := F 9 (by decide)
      have f39 : w2 9 = .inl (cI, 24, .inl (fun _ => 0)) := by rw [e4]; exact f38
      have f40 : w7 9 = .inl (cI, 24, .inl (fun _ => 0)) := by rw [e9]; exact f39
      have f41 : w 10 = .inr (4, [.ref (ad 11), .int 0]) := F 10 (by decide)
      have f42 : w2 10 = .inr (4, [.ref (ad 11), .int 0]) := by rw [e4]; exact f41
      have f43 : w7 10 = .inr (4, [.ref (ad 11), .int 0]) := by rw [e9]; exact f42
      have f44 : w 11 = .inl (cI, 24, .inl (fun _ => 0)) := F 11 (by decide)
      have f45 : w2 11 = .inl (cI, 24, .inl (fun _ => 0)) := by rw [e4]; exact f44
      have f46 : w7 11 = .inl (cI, 24, .inl (fun _ => 0)) := by rw [e9]; exact f45
      have f47 : w 12 = .inr (2, [.ref (ad 13), .int 0]) := F 12 (by decide)
      have f48 : w2 12 = .inr (2, [.ref (ad 13), .int 0]) := by rw [e4]; exact f47
      have f49 : w7 12 = .inr (2, [.ref (ad 13), .int 0]) := by rw [e9]; exact f48
      have f50 : w 13 = .inl (cI, 88, .inl (fun _ => 0)) := F 13 (by decide)
      have f51 : w2 13 = .inl (cI, 88, .inl (fun _ => 0)) := by rw [e4]; exact f50
      have f52 : w7 13 = .inl (cI, 88, .inl (fun _ => 0)) := by rw [e9]; exact f51
      have f53 : w 14 = .inr (1, [.int 0, .int 0, .int 0, .int 0, .int 0, .ref (ad 15), .ref (ad 16), .ref (ad 17), .ref (ad 18), .ref (ad 19), .ref (ad 20), .ref (ad 21), .ref (ad 23), .ref (ad 25)]) := F 14 (by decide)
      have f54 : w2 14 = .inr (1, [.int 0, .int 0, .int 0, .int 0, .int 0, .ref (ad 15), .ref (ad 16), .ref (ad 17), .ref (ad 18), .ref (ad 19), .ref (ad 20), .ref (ad 21), .ref (ad 23), .ref (ad 25)]) := by rw [e4]; exact f53
      have f55 : w7 14 = .inr (1, [.int 0, .int 0, .int 0, .int 0, .int 0, .ref (ad 15), .ref (ad 16), .ref (ad 17), .ref (ad 18), .ref (ad 19), .ref (ad 20), .ref (ad 21), .ref (ad 23), .ref (ad 25)]) := by rw [e9]; exact f54
      have f56 : w 15 = .inl (cI, 7, .inl (fun _ => 0)) := F 15 (by decide)
      have f57 : w2 15 = .inl (cI, 7, .inl (fun _ => 0)) := by rw [e4]; exact f56
      have f58 : w7 15 = .inl (cI, 7, .inl (fun _ => 0)) := by rw [e9]; exact f57
      have f59 : w 16 = .inl (cI, 7, .inl (fun _ => 0)) := F 16 (by decide)
      have f60 : w2 16 = .inl (cI, 7, .inl (fun _ => 0)) := by rw [e4]; exact f59
      have f61 : w7 16 = .inl (cI, 7, .inl (fun _ => 0)) := by rw [e9]; exact f60
      have f62 : w 17 = .inl (cI, 7, .inl (fun _ => 0)) := F 17 (by decide)
      have f63 : w2 17 = .inl (cI, 7, .inl (fun _ => 0)) := by rw [e4]; exact f62
      have f64 : w7 17 = .inl (cI, 7, .inl (fun _ => 0)) := by rw [e9]; exact f63
      have f65 : w 18 = .inl (cI, 4, .inl (fun _ => 0)) := F 18 (by decide)
      have f66 : w2 18 = .inl (cI, 4, .inl (fun _ => 0)) := by rw [e4]; exact f65
      have f67 : w7 18 = .inl (cI, 4, .inl (fun _ => 0)) := by rw [e9]; exact f66
      have f68 : w 19 = .inl (cI, 4, .inl (fun _ => 0)) := F 19 (by decide)
      have f69 : w2 19 = .inl (cI, 4, .inl (fun _ => 0)) := by rw [e4]; exact f68
      have f70 : w7 19 = .inl (cI, 4, .inl (fun _ => 0)) := by rw [e9]; exact f69
      have f71 : w 20 = .inl (cI, 4, .inl (fun _ => 0)) := F 20 (by decide)
      have f72 : w2 20 = .inl (cI, 4, .inl (fun _ => 0)) := by rw [e4]; exact f71
      have f73 : w7 20 = .inl (cI, 4, .inl (fun _ => 0)) := by rw [e9]; exact f72
      have f74 : w 21 = .inr (4, [.ref (ad 22), .int 0]) := F 21 (by decide)
      have f75 : w2 21 = .inr (4, [.ref (ad 22), .int 0]) := by rw [e4]; exact f74
      have f76 : w7 21 = .inr (4, [.ref (ad 22), .int 0]) := by rw [e9]; exact f75
      have f77 : w 22 = .inl (cI, 24, .inl (fun _ => 0)) := F 22 (by decide)
      have f78 : w2 22 = .inl (cI, 24, .inl (fun _ => 0)) := by rw [e4]; exact f77
      have f79 : w7 22 = .inl (cI, 24, .inl (fun _ => 0)) := by rw [e9]; exact f78
      have f80 : w 23 = .inr (4, [.ref (ad 24), .int 0]) := F 23 (by decide)
      have f81 : w2 23 = .inr (4, [.ref (ad 24), .int 0]) := by rw [e4]; exact f80
      have f82 : w7 23 = .inr (4, [.ref (ad 24), .int 0]) := by rw [e9]; exact f81
      have f83 : w 24 = .inl (cI, 24, .inl (fun _ => 0)) := F 24 (by decide)
      have f84 : w2 24 = .inl (cI, 24, .inl (fun _ => 0)) := by rw [e4]; exact f83
      have f85 : w7 24 = .inl (cI, 24, .inl (fun _ => 0)) := by rw [e9]; exact f84
      have f86 : w 25 = .inr (2, [.ref (ad 26), .int 0]) := F 25 (by decide)
      have f87 : w2 25 = .inr (2, [.ref (ad 26), .int 0]) := by rw [e4]; exact f86
      have f88 : w7 25 = .inr (2, [.ref (ad 26), .int 0]) := by rw [e9]; exact f87
      have f89 : w 26 = .inl (cI, 88, .inl (fun _ => 0)) := F 26 (by decide)
      have f90 : w2 26 = .inl (cI, 88, .inl (fun _ => 0)) := by rw [e4]; exact f89
      have f91 : w7 26 = .inl (cI, 88, .inl (fun _ => 0)) := by rw [e9]; exact f90
      refine q_Vv (na := 1) (As := [.ref (ad 1)]) (rest := []) X hD hN h rfl (c_become14 l G cI cB cZ cO ad w7 f16 f19 f22 f25 f28 f31 f34 f37 f40 f43 f46 f49 f52 f55 f58 f61 f64 f67 f70 f73 f76 f79 f82 f85 f88 f91) ⟨kw_171, kw_172, kw_173, kw_9, kw_174⟩ rfl ⟨by decide, by decide, by decide⟩ ⟨Nat.le_of_ble_eq_true rfl, Nat.le_of_ble_eq_true rfl⟩ ⟨Nat.zero_le _, Nat.zero_le _⟩ (by decide) f55 rfl rfl hl.1 rfl (Nat.le_of_ble_eq_true rfl) dX8_noons_35 (fun w93 H locs hp94 h => ?_)
      obtain ⟨f95, hf96⟩ := hp94
      refine lv_iload_n hx hb dX8_noons_38 rfl (lv_at hl 1 rfl) ?_
      refine lv_i2l (v := x.toInt64) hx hb dX8_noons_39 rfl ?_
      refine lv_lstore_n (lv' := [(3, .long x.toInt64), (0, .ref (ad 0)), (1, .int x), (2, .int n)]) hx hb dX8_noons_40 rfl hl (by decide) rfl (fun ls hl => ?_)
      refine lv_iconst (v := 0) hx hb dX8_noons_41 (by decide) ?_
      refine lv_istore (lv' := [(5, .int 0), (3, .long x.toInt64), (0, .ref (ad 0)), (1, .int x), (2, .int n)]) hx hb dX8_noons_42 hl (by decide) rfl (fun ls hl => ?_)
      have hloop97 : ∀ (d : Nat) (k : Int32) (y : Int64) (q : Int32) (wL : Nat → va_E) (H : Heap) (locs : List Loc) (ls : Array Slot), 0 ≤ k.toInt → k.toInt ≤ n.toInt → wL 14 = .inr (1, [.int q, .int 0, .int 0, .int 0, .int 0, .ref (ad 15), .ref (ad 16), .ref (ad 17), .ref (ad 18), .ref (ad 19), .ref (ad 20), .ref (ad 21), .ref (ad 23), .ref (ad 25)]) → (∀ k, k ≠ 14 → k ≠ 15 → k ≠ 16 → k ≠ 17 → k ≠ 18 → k ≠ 19 → k ≠ 20 → k ≠ 21 → k ≠ 22 → k ≠ 23 → k ≠ 24 → k ≠ 25 → k ≠ 26 → wL k = w93 k) → n.toInt - k.toInt < (d : Int) → St G 74 ad (wA 74 ad s.heap.size) s.heap wL H locs → lv_has ls 8 [(0, .ref (ad 0)), (1, .int x), (2, .int n), (3, .long y), (5, .int k)] → W p l e { frames := 3, cells := 0, slots := 0, locals := 82 } s m [.ref (ad 0), .int x, .int n].toArray below meth c H locs 0 0 (MQ below (va_Qi (fun r w1 => (0 ≤ x.toInt ∧ x.toInt ≤ 999999 ∧ 0 ≤ n.toInt ∧ n.toInt ≤ 60 → r = 0) ∧ (¬ (0 ≤ x.toInt ∧ x.toInt ≤ 999999 ∧ 0 ≤ n.toInt ∧ n.toInt ≤ 60) → r = -2) ∧ ∀ k, 64 ≤ k → w1 k = w k) (Aft G 74 ad) (wA 74 ad s.heap.size)) [.ref (ad 0), .int x, .int n].toArray s 0 0 (wA 74 ad s.heap.size)) (F0 m 44 ls []) := by
        intro d
        induction d with
        | zero => intro k y q wL H locs ls hk0 hk1 g14 hfr hm h hl; exfalso; omega
        | succ d ih =>
          intro k y q wL H locs ls hk0 hk1 g14 hfr hm h hl
          refine lv_iload hx hb dX8_noons_44 (lv_at hl 4 rfl) ?_
          refine lv_iload_n hx hb dX8_noons_46 rfl (lv_at hl 2 rfl) ?_
          refine lv_icmp_ge (tgt := 163) hx hb dX8_noons_47 (by decide) (fun hc98 => ?_) (fun hc98 => ?_)
          · have hc98 : (n).toInt ≤ (k).toInt := i_le hc98 rfl rfl
            refine lv_aload_n hx hb dX8_noons_163 rfl (lv_at hl 0 rfl) ?_
            have f99 : w93 0 = .inr (6, [.ref (ad 1), .ref (ad 14), .ref (ad 27), .ref (ad 54), .ref (ad 55), .ref (ad 58), .ref (ad 62), .long 0, .long 1, .int 0, .int 0, .int 0]) := (hf96 0 (by omega)).trans f13
            have f100 : wL 0 = .inr (6, [.ref (ad 1), .ref (ad 14), .ref (ad 27), .ref (ad 54), .ref (ad 55), .ref (ad 58), .ref (ad 62), .long 0, .long 1, .int 0, .int 0, .int 0]) := (hfr 0 (by decide) (by decide) (by decide) (by decide) (by decide) (by decide) (by decide) (by decide) (by decide) (by decide) (by decide) (by decide) (by decide)).trans f99
            refine r_get kc8 X h 0 1 (by decide) rfl f100 (by decide) kw_91 rfl dX8_noons_164 ?_
            refine q_Vi (na := 0) (As := []) (rest := []) X hD hN h rfl (c_coolInAll14 l G cI cB cZ cO ad wL _ g14) ⟨kw_109, kw_110, kw_111, kw_9, kw_112⟩ rfl ⟨by decide, by decide, by decide⟩ ⟨Nat.le_of_ble_eq_true rfl, Nat.le_of_ble_eq_true rfl⟩ ⟨Nat.zero_le _, Nat.zero_le _⟩ (by decide) g14 rfl rfl hl.1 rfl (Nat.le_of_ble_eq_true rfl) dX8_noons_167 (fun r101 w102 H locs hp103 h => ?_)
            obtain ⟨e104, rfl⟩ := hp103
            exact e_i X h hr hlk dX8_noons_170 ⟨fun _ => by first | rfl | omega, fun _ => by first | rfl | omega, fun k hk => (congrFun e104 k).trans ((hfr k (by omega) (by omega) (by omega) (by omega) (by omega) (by omega) (by omega) (by omega) (by omega) (by omega) (by omega) (by omega) (by omega)).trans ((hf96 k (by omega)).trans ((congrFun e9 k).trans (congrFun e4 k))))⟩
          · have hc98 : ¬ (n).toInt ≤ (k).toInt := i_nle hc98 rfl rfl
            refine lv_lload_n hx hb dX8_noons_50 rfl (lv_at hl 3 rfl) ?_
            refine lv_ldc2 (v := 1103515245) hx hb hown (hts _ kw_176) dX8_noons_51 ?_
            refine o_lmul (z := y * 1103515245) hx hb dX8_noons_54 rfl ?_
            refine lv_ldc2 (v := 12345) hx hb hown (hts _ kw_177) dX8_noons_55 ?_
            refine o_ladd (z := (y * 1103515245) + 12345) hx hb dX8_noons_58 rfl ?_
            refine lv_ldc2 (v := 2147483648) hx hb hown (hts _ kw_178) dX8_noons_59 ?_
            refine o_lrem (z := ((y * 1103515245) + 12345) - ((y * 1103515245) + 12345) / 2147483648 * 2147483648) hx hb dX8_noons_62 (by decide) rfl ?_
            refine lv_lstore_n (lv' := [(3, .long (((y * 1103515245) + 12345) - ((y * 1103515245) + 12345) / 2147483648 * 2147483648)), (0, .ref (ad 0)), (1, .int x), (2, .int n), (5, .int k)]) hx hb dX8_noons_63 rfl hl (by decide) rfl (fun ls hl => ?_)
            refine lv_lload_n hx hb dX8_noons_64 rfl (lv_at hl 0 rfl) ?_
            refine lv_ldc2 (v := 65536) hx hb hown (hts _ kw_179) dX8_noons_65 ?_
            refine o_ldiv (z := (((y * 1103515245) + 12345) - ((y * 1103515245) + 12345) / 2147483648 * 2147483648) / 65536) hx hb dX8_noons_68 (by decide) rfl ?_
            refine lv_ldc2 (v := 7) hx hb hown (hts _ kw_180) dX8_noons_69 ?_
            refine o_lrem (z := ((((y * 1103515245) + 12345) - ((y * 1103515245) + 12345) / 2147483648 * 2147483648) / 65536) - ((((y * 1103515245) + 12345) - ((y * 1103515245) + 12345) / 2147483648 * 2147483648) / 65536) / 7 * 7) hx hb dX8_noons_72 (by decide) rfl ?_
            refine lv_l2i (v := (((((y * 1103515245) + 12345) - ((y * 1103515245) + 12345) / 2147483648 * 2147483648) / 65536) - ((((y * 1103515245) + 12345) - ((y * 1103515245) + 12345) / 2147483648 * 2147483648) / 65536) / 7 * 7).toInt32) hx hb dX8_noons_73 rfl ?_
            refine lv_istore (lv' := [(6, .int ((((((y * 1103515245) + 12345) - ((y * 1103515245) + 12345) / 2147483648 * 2147483648) / 65536) - ((((y * 1103515245) + 12345) - ((y * 1103515245) + 12345) / 2147483648 * 2147483648) / 65536) / 7 * 7).toInt32)), (3, .long (((y * 1103515245) + 12345) - ((y * 1103515245) + 12345) / 2147483648 * 2147483648)), (0, .ref (ad 0)), (1, .int x), (2, .int n), (5, .int k)]) hx hb dX8_noons_74 hl (by decide) rfl (fun ls hl => ?_)
            refine lv_lload_n hx hb dX8_noons_76 rfl (lv_at hl 1 rfl) ?_
            refine lv_ldc2 (v := 1048576) hx hb hown (hts _ kw_181) dX8_noons_77 ?_
            refine o_ldiv (z := (((y * 1103515245) + 12345) - ((y * 1103515245) + 12345) / 2147483648 * 2147483648) / 1048576) hx hb dX8_noons_80 (by decide) rfl ?_
            refine lv_ldc2 (v := 4) hx hb hown (hts _ kw_182) dX8_noons_81 ?_
            refine o_lrem (z := ((((y * 1103515245) + 12345) - ((y * 1103515245) + 12345) / 2147483648 * 2147483648) / 1048576) - ((((y * 1103515245) + 12345) - ((y * 1103515245) + 12345) / 2147483648 * 2147483648) / 1048576) / 4 * 4) hx hb dX8_noons_84 (by decide) rfl ?_
            refine lv_l2i (v := (((((y * 1103515245) + 12345) - ((y * 1103515245) + 12345) / 2147483648 * 2147483648) / 1048576) - ((((y * 1103515245) + 12345) - ((y * 1103515245) + 12345) / 2147483648 * 2147483648) / 1048576) / 4 * 4).toInt32) hx hb dX8_noons_85 rfl ?_
            refine lv_istore (lv' := [(7, .int ((((((y * 1103515245) + 12345) - ((y * 1103515245) + 12345) / 2147483648 * 2147483648) / 1048576) - ((((y * 1103515245) + 12345) - ((y * 1103515245) + 12345) / 2147483648 * 2147483648) / 1048576) / 4 * 4).toInt32)), (6, .int ((((((y * 1103515245) + 12345) - ((y * 1103515245) + 12345) / 2147483648 * 2147483648) / 65536) - ((((y * 1103515245) + 12345) - ((y * 1103515245) + 12345) / 2147483648 * 2147483648) / 65536) / 7 * 7).toInt32)), (3, .long (((y * 1103515245) + 12345) - ((y * 1103515245) + 12345) / 2147483648 * 2147483648)), (0, .ref (ad 0)), (1, .int x), (2, .int n), (5, .int k)]) hx hb dX8_noons_86 hl (by decide) rfl (fun ls hl => ?_)
            refine lv_aload_n hx hb dX8_noons_88 rfl (lv_at hl 3 rfl) ?_
            have f105 : w93 0 = .inr (6, [.ref (ad 1), .ref (ad 14), .ref (ad 27), .ref (ad 54), .ref (ad 55), .ref (ad 58), .ref (ad 62), .long 0, .long 1, .int 0, .int 0, .int 0]) := (hf96 0 (by omega)).trans f13
            have f106 : wL 0 = .inr (6, [.ref (ad 1), .ref (ad 14), .ref (ad 27), .ref (ad 54), .ref (ad 55), .ref (ad 58), .ref (ad 62), .long 0, .long 1, .int 0, .int 0, .int 0]) := (hfr 0 (by decide) (by decide) (by decide) (by decide) (by decide) (by decide) (by decide) (by decide) (by decide) (by decide) (by decide) (by decide) (by decide)).trans f105
            refine r_get kc8 X h 0 1 (by decide) rfl f106 (by decide) kw_91 rfl dX8_noons_89 ?_
            refine lv_iload hx hb dX8_noons_92 (lv_at hl 1 rfl) ?_
            refine q_Vi (na := 1) (As := [.int ((((((y * 1103515245) + 12345) - ((y * 1103515245) + 12345) / 2147483648 * 2147483648) / 65536) - ((((y * 1103515245) + 12345) - ((y * 1103515245) + 12345) / 2147483648 * 2147483648) / 65536) / 7 * 7).toInt32)]) (rest := []) X hD hN h rfl (c_hasCaster l G cI cB cZ cO ad wL 14 _ _ _ _ _ _ ((((((y * 1103515245) + 12345) - ((y * 1103515245) + 12345) / 2147483648 * 2147483648) / 65536) - ((((y * 1103515245) + 12345) - ((y * 1103515245) + 12345) / 2147483648 * 2147483648) / 65536) / 7 * 7).toInt32) 0 rfl (by decide) g14) ⟨kw_6, kw_7, kw_8, kw_9, kw_10⟩ rfl ⟨by decide, by decide, by decide⟩ ⟨Nat.le_of_ble_eq_true rfl, Nat.le_of_ble_eq_true rfl⟩ ⟨Nat.zero_le _, Nat.zero_le _⟩ (by decide) g14 rfl rfl hl.1 rfl (Nat.le_of_ble_eq_true rfl) dX8_noons_94 (fun r107 w108 H locs hp109 h => ?_)
            obtain ⟨e110, hp109⟩ := hp109
            rcases hp109 with ⟨hq111a, hq111b, rfl⟩ | ⟨hq111, rfl⟩
            · exfalso; omega
            · refine lv_if_eq (tgt := 136) hx hb dX8_noons_97 (by decide) (fun _ => ?_) (fun hc => absurd (by decide) hc)
              refine lv_lload_n hx hb dX8_noons_136 rfl (lv_at hl 2 rfl) ?_
              refine lv_ldc2 (v := 16384) hx hb hown (hts _ kw_183) dX8_noons_137 ?_
              refine o_ldiv (z := (((y * 1103515245) + 12345) - ((y * 1103515245) + 12345) / 2147483648 * 2147483648) / 16384) hx hb dX8_noons_140 (by decide) rfl ?_
              refine lv_ldc2 (v := 2) hx hb hown (hts _ kw_184) dX8_noons_141 ?_
              refine o_lrem (z := ((((y * 1103515245) + 12345) - ((y * 1103515245) + 12345) / 2147483648 * 2147483648) / 16384) - ((((y * 1103515245) + 12345) - ((y * 1103515245) + 12345) / 2147483648 * 2147483648) / 16384) / 2 * 2) hx hb dX8_noons_144 (by decide) rfl ?_
              refine lv_lconst (v := 0) hx hb dX8_noons_145 (by decide) ?_
              refine W.lcmp hx hb dX8_noons_146 ?_
              refine lv_if_ne (tgt := 157) hx hb dX8_noons_147 (by decide) (fun hc112 => ?_) (fun hc112 => ?_)
              · have hc112 : ¬ (((((y * 1103515245) + 12345) - ((y * 1103515245) + 12345) / 2147483648 * 2147483648) / 16384) - ((((y * 1103515245) + 12345) - ((y * 1103515245) + 12345) / 2147483648 * 2147483648) / 16384) / 2 * 2).toInt = 0 := lcm_ne hc112 rfl rfl
                refine lv_iinc (v := k + 1) (lv' := [(5, .int (k + 1)), (7, .int ((((((y * 1103515245) + 12345) - ((y * 1103515245) + 12345) / 2147483648 * 2147483648) / 1048576) - ((((y * 1103515245) + 12345) - ((y * 1103515245) + 12345) / 2147483648 * 2147483648) / 1048576) / 4 * 4).toInt32)), (6, .int ((((((y * 1103515245) + 12345) - ((y * 1103515245) + 12345) / 2147483648 * 2147483648) / 65536) - ((((y * 1103515245) + 12345) - ((y * 1103515245) + 12345) / 2147483648 * 2147483648) / 65536) / 7 * 7).toInt32)), (3, .long (((y * 1103515245) + 12345) - ((y * 1103515245) + 12345) / 2147483648 * 2147483648)), (0, .ref (ad 0)), (1, .int x), (2, .int n)]) hx hb dX8_noons_157 hl (k := 6) rfl rfl (by decide) rfl (fun ls hl => ?_)
                refine lv_goto (tgt := 44) hx hb dX8_noons_160 (by decide) ?_
                have hi : (k + 1).toInt = k.toInt + 1 := inc1 (by omega) (by omega)
                have f113 : w108 14 = .inr (1, [.int q, .int 0, .int 0, .int 0, .int 0, .ref (ad 15), .ref (ad 16), .ref (ad 17), .ref (ad 18), .ref (ad 19), .ref (ad 20), .ref (ad 21), .ref (ad 23), .ref (ad 25)]) := by rw [e110]; exact g14
                exact ih (k + 1) (((y * 1103515245) + 12345) - ((y * 1103515245) + 12345) / 2147483648 * 2147483648) q w108 _ _ _ (by omega) (by omega) f113 (fun k h0 h1 h2 h3 h4 h5 h6 h7 h8 h9 h10 h11 h12 => (congrFun e110 k).trans (hfr k (by omega) (by omega) (by omega) (by omega) (by omega) (by omega) (by omega) (by omega) (by omega) (by omega) (by omega) (by omega) (by omega))) (by omega) h (lv_sub hl [4, 5, 6, 3, 0] rfl)
              · have hc112 : (((((y * 1103515245) + 12345) - ((y * 1103515245) + 12345) / 2147483648 * 2147483648) / 16384) - ((((y * 1103515245) + 12345) - ((y * 1103515245) + 12345) / 2147483648 * 2147483648) / 16384) / 2 * 2).toInt = 0 := lcm_eq hc112 rfl rfl
                refine lv_aload_n hx hb dX8_noons_150 rfl (lv_at hl 3 rfl) ?_
                have f114 : w108 0 = .inr (6, [.ref (ad 1), .ref (ad 14), .ref (ad 27), .ref (ad 54), .ref (ad 55), .ref (ad 58), .ref (ad 62), .long 0, .long 1, .int 0, .int 0, .int 0]) := by rw [e110]; exact f106
                refine r_get kc8 X h 0 1 (by decide) rfl f114 (by decide) kw_91 rfl dX8_noons_151 ?_
                have f115 : w108 14 = .inr (1, [.int q, .int 0, .int 0, .int 0, .int 0, .ref (ad 15), .ref (ad 16), .ref (ad 17), .ref (ad 18), .ref (ad 19), .ref (ad 20), .ref (ad 21), .ref (ad 23), .ref (ad 25)]) := by rw [e110]; exact g14
                refine q_Vv (na := 0) (As := []) (rest := []) X hD hN h rfl (c_passHour l G cI cB cZ cO ad w108 14 _ _ _ _ (by decide) f115) ⟨kw_185, kw_138, kw_139, kw_9, kw_140⟩ rfl ⟨by decide, by decide, by decide⟩ ⟨Nat.le_of_ble_eq_true rfl, Nat.le_of_ble_eq_true rfl⟩ ⟨Nat.zero_le _, Nat.zero_le _⟩ (by decide) f115 rfl rfl hl.1 rfl (Nat.le_of_ble_eq_true rfl) dX8_noons_154 (fun w117 H locs hp118 h => ?_)
                obtain ⟨f119, hf120⟩ := hp118
                refine lv_iinc (v := k + 1) (lv' := [(5, .int (k + 1)), (7, .int ((((((y * 1103515245) + 12345) - ((y * 1103515245) + 12345) / 2147483648 * 2147483648) / 1048576) - ((((y * 1103515245) + 12345) - ((y * 1103515245) + 12345) / 2147483648 * 2147483648) / 1048576) / 4 * 4).toInt32)), (6, .int ((((((y * 1103515245) + 12345) - ((y * 1103515245) + 12345) / 2147483648 * 2147483648) / 65536) - ((((y * 1103515245) + 12345) - ((y * 1103515245) + 12345) / 2147483648 * 2147483648) / 65536) / 7 * 7).toInt32)), (3, .long (((y * 1103515245) + 12345) - ((y * 1103515245) + 12345) / 2147483648 * 2147483648)), (0, .ref (ad 0)), (1, .int x), (2, .int n)]) hx hb dX8_noons_157 hl (k := 6) rfl rfl (by decide) rfl (fun ls hl => ?_)
                refine lv_goto (tgt := 44) hx hb dX8_noons_160 (by decide) ?_
                have hi : (k + 1).toInt = k.toInt + 1 := inc1 (by omega) (by omega)
                exact ih (k + 1) (((y * 1103515245) + 12345) - ((y * 1103515245) + 12345) / 2147483648 * 2147483648) (q + 1) w117 _ _ _ (by omega) (by omega) f119 (fun k h0 h1 h2 h3 h4 h5 h6 h7 h8 h9 h10 h11 h12 => (hf120 k (by omega)).trans ((congrFun e110 k).trans (hfr k (by omega) (by omega) (by omega) (by omega) (by omega) (by omega) (by omega) (by omega) (by omega) (by omega) (by omega) (by omega) (by omega)))) (by omega) h (lv_sub hl [4, 5, 6, 3, 0] rfl)
      exact hloop97 61 0 x.toInt64 0 w93 _ _ _ (by decide) (by have : (0 : Int32).toInt = 0 := rfl; omega) f95 (fun k _ _ _ _ _ _ _ _ _ _ _ _ _ => rfl) (by have : (0 : Int32).toInt = 0 := rfl; omega) h (lv_sub hl [2, 3, 4, 1, 0] rfl)
    · refine lv_if_ne (tgt := 27) hx hb dX8_noons_17 (by decide) (fun hc => absurd (by decide) hc) (fun _ => ?_)
      refine lv_aload_n hx hb dX8_noons_20 rfl (lv_at hl 0 rfl) ?_
      refine lv_bipush (v := (-2)) hx hb dX8_noons_21 (by decide) ?_
      have f121 : w 0 = .inr (6, [.ref (ad 1), .ref (ad 14), .ref (ad 27), .ref (ad 54), .ref (ad 55), .ref (ad 58), .ref (ad 62), .long 0, .long 1, .int 0, .int 0, .int 0]) := F 0 (by decide)
      have f122 : w2 0 = .inr (6, [.ref (ad 1), .ref (ad 14), .ref (ad 27), .ref (ad 54), .ref (ad 55), .ref (ad 58), .ref (ad 62), .long 0, .long 1, .int 0, .int 0, .int 0]) := by rw [e4]; exact f121
      have f123 : w7 0 = .inr (6, [.ref (ad 1), .ref (ad 14), .ref (ad 27), .ref (ad 54), .ref (ad 55), .ref (ad 58), .ref (ad 62), .long 0, .long 1, .int 0, .int 0, .int 0]) := by rw [e9]; exact f122
      refine q_Vi (na := 1) (As := [.int (-2)]) (rest := []) X hD hN h rfl (c_refused l G cI cB cZ cO ad w7 _ _ _ _ _ _ _ _ _ _ _ _ (-2) f123) ⟨kw_11, kw_12, kw_13, kw_14, kw_15⟩ rfl ⟨by decide, by decide, by decide⟩ ⟨Nat.le_of_ble_eq_true rfl, Nat.le_of_ble_eq_true rfl⟩ ⟨Nat.zero_le _, Nat.zero_le _⟩ (by decide) f123 rfl rfl hl.1 rfl (Nat.le_of_ble_eq_true rfl) dX8_noons_23 (fun r124 w125 H locs hp126 h => ?_)
      obtain ⟨rfl, x127, y128, z129, e130⟩ := hp126
      have f131 : w125 0 = .inr (6, [.ref (ad 1), .ref (ad 14), .ref (ad 27), .ref (ad 54), .ref (ad 55), .ref (ad 58), .ref (ad 62), .long 0, .long 1, .int x127, .int y128, .int z129]) := (congrFun e130 _).trans (va_up_self _ _ _)
      exact e_i X h hr hlk dX8_noons_26 ⟨fun _ => by first | rfl | omega, fun _ => by first | rfl | omega, fun k hk => ((congrFun e130 k).trans (va_up_ne _ _ (by omega))).trans ((congrFun e9 k).trans (congrFun e4 k))⟩
  · refine lv_if_eq (tgt := 20) hx hb dX8_noons_7 (by decide) (fun _ => ?_) (fun hc => absurd (by decide) hc)
    refine lv_aload_n hx hb dX8_noons_20 rfl (lv_at hl 0 rfl) ?_
    refine lv_bipush (v := (-2)) hx hb dX8_noons_21 (by decide) ?_
    have f132 : w 0 = .inr (6, [.ref (ad 1), .ref (ad 14), .ref (ad 27), .ref (ad 54), .ref (ad 55), .ref (ad 58), .ref (ad 62), .long 0, .long 1, .int 0, .int 0, .int 0]) := F 0 (by decide)
    have f133 : w2 0 = .inr (6, [.ref (ad 1), .ref (ad 14), .ref (ad 27), .ref (ad 54), .ref (ad 55), .ref (ad 58), .ref (ad 62), .long 0, .long 1, .int 0, .int 0, .int 0]) := by rw [e4]; exact f132
    refine q_Vi (na := 1) (As := [.int (-2)]) (rest := []) X hD hN h rfl (c_refused l G cI cB cZ cO ad w2 _ _ _ _ _ _ _ _ _ _ _ _ (-2) f133) ⟨kw_11, kw_12, kw_13, kw_14, kw_15⟩ rfl ⟨by decide, by decide, by decide⟩ ⟨Nat.le_of_ble_eq_true rfl, Nat.le_of_ble_eq_true rfl⟩ ⟨Nat.zero_le _, Nat.zero_le _⟩ (by decide) f133 rfl rfl hl.1 rfl (Nat.le_of_ble_eq_true rfl) dX8_noons_23 (fun r134 w135 H locs hp136 h => ?_)
    obtain ⟨rfl, x137, y138, z139, e140⟩ := hp136
    have f141 : w135 0 = .inr (6, [.ref (ad 1), .ref (ad 14), .ref (ad 27), .ref (ad 54), .ref (ad 55), .ref (ad 58), .ref (ad 62), .long 0, .long 1, .int x137, .int y138, .int z139]) := (congrFun e140 _).trans (va_up_self _ _ _)
    exact e_i X h hr hlk dX8_noons_26 ⟨fun _ => by first | rfl | omega, fun _ => by first | rfl | omega, fun k hk => ((congrFun e140 k).trans (va_up_ne _ _ (by omega))).trans (congrFun e4 k)⟩
