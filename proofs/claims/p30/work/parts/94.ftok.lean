set_option maxHeartbeats 4000000 in
set_option maxRecDepth 100000 in
theorem c_F_takeNumber (l : Launch) (G : va_G) (cI cB cZ cO : ClassId) (ad : Nat → Nat) (w : Nat → va_E) (z a b c0 d : Int32) (bs : Nat → Int32) (ok : OK cI cB cZ cO ad w)   (pf : w 55 = .inr (5, [.ref (ad 56), .ref (ad 57), .int z, .int a, .int b, .int c0, .int d])) (hz1 : z.toInt ≤ 150) (p56 : w 56 = .inl (cB, 150, .inl bs)) (ha0 : 0 ≤ a.toInt) (hab : a.toInt = b.toInt) (hbz : b.toInt ≤ z.toInt) (hd0 : 0 ≤ d.toInt) (hd1 : d.toInt ≤ 99) : NV l G (tyq cI cB cZ cO) yX7_takeNumber cX7_takeNumber 1 1 20 74 ad w [.ref (ad 55)] (fun w1 => OK cI cB cZ cO ad w1 ∧ F5 w w1 ∧ ∃ b1 c1 d1 : Int32, w1 55 = .inr (5, [.ref (ad 56), .ref (ad 57), .int z, .int a, .int b1, .int c1, .int d1]) ∧ b.toInt ≤ b1.toInt ∧ b1.toInt ≤ z.toInt ∧ runB dgB bs b b1 ∧ (b1.toInt = z.toInt ∨ ∃ u : Int32, bs b1.toNatClampNeg = u ∧ ¬ (48 ≤ u.toInt ∧ u.toInt ≤ 57)) ∧ ((b1.toInt ≤ a.toInt + 2 ∧ c1.toInt = 2) ∨ (a.toInt + 2 < b1.toInt ∧ c1.toInt = 4)) ∧ (b1.toInt = b.toInt → d1.toInt = 0) ∧ (b1.toInt = b.toInt + 1 → d1.toInt = (bs b.toNatClampNeg).toInt - 48) ∧ (b1.toInt = b.toInt + 2 → d1.toInt = 10 * ((bs b.toNatClampNeg).toInt - 48) + (bs (b.toNatClampNeg + 1)).toInt - 48)) := by
  refine nk_v (own := "NoonShade$Text") rfl (by decide) (Nat.le_of_ble_eq_true rfl) ?_
  intro p e s m below meth c ls X hD hN hr hlk h hl
  have hx := X.1.1
  have hb := X.1.2.1
  have hown := X.1.2.2.2.1
  have hts := X.1.2.2.2.2
  have hl : lv_has ls 1 [(0, .ref (ad 55))] := hl
  refine lv_aload_n hx hb dX7_takeNumber_0 rfl (lv_at hl 0 rfl) ?_
  refine lv_iconst (v := 0) hx hb dX7_takeNumber_1 (by decide) ?_
  refine r_put kc7 X hD h 55 6 (by decide) rfl pf (by decide) kv_390 rfl rfl rfl (Nat.le_of_ble_eq_true rfl) dX7_takeNumber_2 (fun H locs w1 e2 h => ?_)
  have f3 : w1 55 = .inr (5, [.ref (ad 56), .ref (ad 57), .int z, .int a, .int b, .int c0, .int 0]) := (congrFun e2 _).trans (va_up_self _ _ _)
  have ok4 : OK cI cB cZ cO ad w1 := OK.up ok e2 (sT_mk (by omega) (by omega) (by decide) (by decide))
  have kx5 : F5 w w1 := F5.up F5.rf e2
  have hloop9 : ∀ (d10 : Nat) (C6 : Int32) (C7 : Int32) (wL8 : Nat → va_E) (H : Heap) (locs : List Loc) (ls : Array Slot), 0 ≤ C6.toInt → C6.toInt ≤ 150 → 0 ≤ C7.toInt → C7.toInt ≤ 99 → b.toInt ≤ C6.toInt → C6.toInt ≤ z.toInt → (runB dgB bs b C6) → ((C6.toInt = b.toInt → C7.toInt = 0) ∧ (C6.toInt = b.toInt + 1 → C7.toInt = (bs b.toNatClampNeg).toInt - 48) ∧ (C6.toInt = b.toInt + 2 → C7.toInt = 10 * ((bs b.toNatClampNeg).toInt - 48) + (bs (b.toNatClampNeg + 1)).toInt - 48)) → OK cI cB cZ cO ad wL8 → F5 w wL8 → wL8 55 = .inr (5, [.ref (ad 56), .ref (ad 57), .int z, .int a, .int C6, .int c0, .int C7]) → wL8 56 = .inl (cB, 150, .inl bs) → z.toInt - C6.toInt < (d10 : Int) → St G 74 ad (wA 74 ad s.heap.size) s.heap wL8 H locs → lv_has ls 1 [(0, .ref (ad 55))] → W p l e { frames := 1, cells := 0, slots := 0, locals := 20 } s m [.ref (ad 55)].toArray below meth c H locs 0 0 (MQ below (va_Qv (fun w1 => OK cI cB cZ cO ad w1 ∧ F5 w w1 ∧ ∃ b1 c1 d1 : Int32, w1 55 = .inr (5, [.ref (ad 56), .ref (ad 57), .int z, .int a, .int b1, .int c1, .int d1]) ∧ b.toInt ≤ b1.toInt ∧ b1.toInt ≤ z.toInt ∧ runB dgB bs b b1 ∧ (b1.toInt = z.toInt ∨ ∃ u : Int32, bs b1.toNatClampNeg = u ∧ ¬ (48 ≤ u.toInt ∧ u.toInt ≤ 57)) ∧ ((b1.toInt ≤ a.toInt + 2 ∧ c1.toInt = 2) ∨ (a.toInt + 2 < b1.toInt ∧ c1.toInt = 4)) ∧ (b1.toInt = b.toInt → d1.toInt = 0) ∧ (b1.toInt = b.toInt + 1 → d1.toInt = (bs b.toNatClampNeg).toInt - 48) ∧ (b1.toInt = b.toInt + 2 → d1.toInt = 10 * ((bs b.toNatClampNeg).toInt - 48) + (bs (b.toNatClampNeg + 1)).toInt - 48)) (Aft G 74 ad) (wA 74 ad s.heap.size)) [.ref (ad 55)].toArray s 0 0 (wA 74 ad s.heap.size)) (F0 m 5 ls []) := by
    intro d10
    induction d10 with
    | zero => intro C6 C7 wL8 H locs ls hi13 hi14 hi15 hi16 hi17 hi18 hi19 hi20 ok21 kx22 cf23 cf24 hm12 h hl; exfalso; omega
    | succ d10 ih11 =>
      intro C6 C7 wL8 H locs ls hi13 hi14 hi15 hi16 hi17 hi18 hi19 hi20 ok21 kx22 cf23 cf24 hm12 h hl
      refine lv_aload_n hx hb dX7_takeNumber_5 rfl (lv_at hl 0 rfl) ?_
      refine r_get kc7 X h 55 4 (by decide) rfl cf23 (by decide) kv_378 rfl dX7_takeNumber_6 ?_
      refine lv_aload_n hx hb dX7_takeNumber_9 rfl (lv_at hl 0 rfl) ?_
      refine r_get kc7 X h 55 2 (by decide) rfl cf23 (by decide) kv_391 rfl dX7_takeNumber_10 ?_
      refine lv_icmp_ge (tgt := 71) hx hb dX7_takeNumber_13 (by decide) (fun hc25 => ?_) (fun hc25 => ?_)
      · have hc25 : (z).toInt ≤ (C6).toInt := i_le hc25 rfl rfl
        refine lv_aload_n hx hb dX7_takeNumber_71 rfl (lv_at hl 0 rfl) ?_
        refine lv_aload_n hx hb dX7_takeNumber_72 rfl (lv_at hl 0 rfl) ?_
        refine r_get kc7 X h 55 4 (by decide) rfl cf23 (by decide) kv_378 rfl dX7_takeNumber_73 ?_
        refine lv_aload_n hx hb dX7_takeNumber_76 rfl (lv_at hl 0 rfl) ?_
        refine r_get kc7 X h 55 3 (by decide) rfl cf23 (by decide) kv_379 rfl dX7_takeNumber_77 ?_
        obtain ⟨z28, e26, t27⟩ := x_sub (x := C6) (y := a) (a := (C6).toInt) (b := (a).toInt) rfl rfl (by omega) (by omega)
        refine o_isub (z := z28) hx hb dX7_takeNumber_80 e26 ?_
        refine lv_iconst (v := 2) hx hb dX7_takeNumber_81 (by decide) ?_
        refine lv_icmp_gt (tgt := 89) hx hb dX7_takeNumber_82 (by decide) (fun hc29 => ?_) (fun hc29 => ?_)
        · have hc29 : 2 < (z28).toInt := i_lt hc29 rfl rfl
          refine lv_iconst (v := 4) hx hb dX7_takeNumber_89 (by decide) ?_
          refine r_put kc7 X hD h 55 5 (by decide) rfl cf23 (by decide) kv_392 rfl rfl rfl (Nat.le_of_ble_eq_true rfl) dX7_takeNumber_90 (fun H locs w30 e31 h => ?_)
          have f32 : w30 55 = .inr (5, [.ref (ad 56), .ref (ad 57), .int z, .int a, .int C6, .int 4, .int C7]) := (congrFun e31 _).trans (va_up_self _ _ _)
          have ok33 : OK cI cB cZ cO ad w30 := OK.up ok21 e31 (sT_mk (by omega) (by omega) (by omega) (by omega))
          have kx34 : F5 w w30 := F5.up kx22 e31
          exact e_v X h hr hlk dX7_takeNumber_93 ⟨ok33, kx34, ⟨_, _, _, f32, by omega, by omega, hi19, Or.inl (by omega), Or.inr ⟨by omega, by decide⟩, hi20⟩⟩
        · have hc29 : ¬ 2 < (z28).toInt := i_nlt hc29 rfl rfl
          refine lv_iconst (v := 2) hx hb dX7_takeNumber_85 (by decide) ?_
          refine lv_goto (tgt := 90) hx hb dX7_takeNumber_86 (by decide) ?_
          refine r_put kc7 X hD h 55 5 (by decide) rfl cf23 (by decide) kv_392 rfl rfl rfl (Nat.le_of_ble_eq_true rfl) dX7_takeNumber_90 (fun H locs w35 e36 h => ?_)
          have f37 : w35 55 = .inr (5, [.ref (ad 56), .ref (ad 57), .int z, .int a, .int C6, .int 2, .int C7]) := (congrFun e36 _).trans (va_up_self _ _ _)
          have ok38 : OK cI cB cZ cO ad w35 := OK.up ok21 e36 (sT_mk (by omega) (by omega) (by omega) (by omega))
          have kx39 : F5 w w35 := F5.up kx22 e36
          exact e_v X h hr hlk dX7_takeNumber_93 ⟨ok38, kx39, ⟨_, _, _, f37, by omega, by omega, hi19, Or.inl (by omega), Or.inl ⟨by omega, by decide⟩, hi20⟩⟩
      · have hc25 : ¬ (z).toInt ≤ (C6).toInt := i_nle hc25 rfl rfl
        refine lv_aload_n hx hb dX7_takeNumber_16 rfl (lv_at hl 0 rfl) ?_
        refine r_get kc7 X h 55 0 (by decide) rfl cf23 (by decide) kv_380 rfl dX7_takeNumber_17 ?_
        refine lv_aload_n hx hb dX7_takeNumber_20 rfl (lv_at hl 0 rfl) ?_
        refine r_get kc7 X h 55 4 (by decide) rfl cf23 (by decide) kv_378 rfl dX7_takeNumber_21 ?_
        obtain ⟨v40, e41⟩ : ∃ z : Int32, bs C6.toNatClampNeg = z := ⟨_, rfl⟩
        refine o_bald (v := v40) X h 56 1 (by decide) rfl cf24 rfl (in_of (by omega) (by omega)) e41 dX7_takeNumber_24 ?_
        refine n_Si (na := 1) (As := [.int v40]) (rest := []) X hD hN h (c_isFigure l G cI cB cZ cO ad wL8   v40  ) ⟨kv_393, kv_394, kv_388, kv_395⟩ ⟨by decide, by decide, by decide⟩ ⟨Nat.le_of_ble_eq_true rfl, Nat.le_of_ble_eq_true rfl⟩ ⟨Nat.zero_le _, Nat.zero_le _⟩ rfl hl.1 rfl (Nat.le_of_ble_eq_true rfl) dX7_takeNumber_25 (fun r43 w44 H locs hp45 h => ?_)
        obtain ⟨rfl, hr46⟩ := hp45
        rcases hr46 with ⟨hq47, hq48, rfl⟩ | ⟨hq49, rfl⟩
        · refine lv_if_eq (tgt := 71) hx hb dX7_takeNumber_28 (by decide) (fun hc => absurd hc (by decide)) (fun _ => ?_)
          refine lv_aload_n hx hb dX7_takeNumber_31 rfl (lv_at hl 0 rfl) ?_
          refine lv_bipush (v := 10) hx hb dX7_takeNumber_32 (by decide) ?_
          refine lv_aload_n hx hb dX7_takeNumber_34 rfl (lv_at hl 0 rfl) ?_
          refine r_get kc7 X h 55 6 (by decide) rfl cf23 (by decide) kv_390 rfl dX7_takeNumber_35 ?_
          obtain ⟨z52, e50, t51⟩ := x_mul (x := (10 : Int32)) (y := C7) (a := 10) (b := (C7).toInt) rfl rfl (by omega) (by omega)
          refine o_imul (z := z52) hx hb dX7_takeNumber_38 e50 ?_
          refine lv_aload_n hx hb dX7_takeNumber_39 rfl (lv_at hl 0 rfl) ?_
          refine r_get kc7 X h 55 0 (by decide) rfl cf23 (by decide) kv_380 rfl dX7_takeNumber_40 ?_
          refine lv_aload_n hx hb dX7_takeNumber_43 rfl (lv_at hl 0 rfl) ?_
          refine r_get kc7 X h 55 4 (by decide) rfl cf23 (by decide) kv_378 rfl dX7_takeNumber_44 ?_
          refine o_bald (v := v40) X h 56 1 (by decide) rfl cf24 rfl (in_of (by omega) (by omega)) e41 dX7_takeNumber_47 ?_
          obtain ⟨z55, e53, t54⟩ := x_add (x := z52) (y := v40) (a := (z52).toInt) (b := (v40).toInt) rfl rfl (by omega) (by omega)
          have n56 : z55.toNatClampNeg = z52.toNatClampNeg + v40.toNatClampNeg := cl_addn (x := z52) (y := v40) rfl rfl t54 (by omega) (by omega)
          refine o_iadd (z := z55) hx hb dX7_takeNumber_48 e53 ?_
          refine lv_bipush (v := 48) hx hb dX7_takeNumber_49 (by decide) ?_
          obtain ⟨z59, e57, t58⟩ := x_sub (x := z55) (y := (48 : Int32)) (a := (z55).toInt) (b := 48) rfl rfl (by omega) (by omega)
          refine o_isub (z := z59) hx hb dX7_takeNumber_51 e57 ?_
          refine lv_bipush (v := 100) hx hb dX7_takeNumber_52 (by decide) ?_
          obtain ⟨z62, e60, t61⟩ := x_rem (x := z59) (y := (100 : Int32)) (a := (z59).toInt) (b := 100) rfl rfl (by omega) (by omega)
          refine o_irem (z := z62) hx hb dX7_takeNumber_54 (by decide) e60 ?_
          refine r_put kc7 X hD h 55 6 (by decide) rfl cf23 (by decide) kv_390 rfl rfl rfl (Nat.le_of_ble_eq_true rfl) dX7_takeNumber_55 (fun H locs w63 e64 h => ?_)
          have f65 : w63 55 = .inr (5, [.ref (ad 56), .ref (ad 57), .int z, .int a, .int C6, .int c0, .int z62]) := (congrFun e64 _).trans (va_up_self _ _ _)
          have ok66 : OK cI cB cZ cO ad w63 := OK.up ok21 e64 (sT_mk (by omega) (by omega) (by omega) (by omega))
          have kx67 : F5 w w63 := F5.up kx22 e64
          refine lv_aload_n hx hb dX7_takeNumber_58 rfl (lv_at hl 0 rfl) ?_
          refine lv_dup hx hb dX7_takeNumber_59 rfl ?_
          refine r_get kc7 X h 55 4 (by decide) rfl f65 (by decide) kv_378 rfl dX7_takeNumber_60 ?_
          refine lv_iconst (v := 1) hx hb dX7_takeNumber_63 (by decide) ?_
          obtain ⟨z70, e68, t69⟩ := x_add (x := C6) (y := (1 : Int32)) (a := (C6).toInt) (b := 1) rfl rfl (by omega) (by omega)
          have n71 : z70.toNatClampNeg = C6.toNatClampNeg + 1 := cl_addn (x := C6) (y := (1 : Int32)) rfl rfl t69 (by omega) (by decide)
          refine o_iadd (z := z70) hx hb dX7_takeNumber_64 e68 ?_
          refine r_put kc7 X hD h 55 4 (by decide) rfl f65 (by decide) kv_378 rfl rfl rfl (Nat.le_of_ble_eq_true rfl) dX7_takeNumber_65 (fun H locs w72 e73 h => ?_)
          have f74 : w72 55 = .inr (5, [.ref (ad 56), .ref (ad 57), .int z, .int a, .int z70, .int c0, .int z62]) := (congrFun e73 _).trans (va_up_self _ _ _)
          have ok75 : OK cI cB cZ cO ad w72 := OK.up ok66 e73 (sT_mk (by omega) (by omega) (by omega) (by omega))
          have kx76 : F5 w w72 := F5.up kx67 e73
          refine lv_goto (tgt := 5) hx hb dX7_takeNumber_68 (by decide) ?_
          have q78 : C6.toInt = b.toInt → v40.toInt = (bs b.toNatClampNeg).toInt := fun h9 => by rw [← e41, clq h9]
          have q79 : C6.toInt = b.toInt + 1 → v40.toInt = (bs (b.toNatClampNeg + 1)).toInt := fun h9 => by rw [← e41, clq1 (by omega) h9]
          have q80 : C6.toInt = b.toInt + 1 → 48 ≤ (bs b.toNatClampNeg).toInt ∧ (bs b.toNatClampNeg).toInt ≤ 57 := fun h9 => of_decide_eq_true (hi19 b.toNatClampNeg (by have := cl_of (x := b) (by omega); omega) (by have := cl_of (x := b) (by omega); omega))
          obtain ⟨hv77a, hv77b, hv77c⟩ := hi20
          have f81 : w63 56 = .inl (cB, 150, .inl bs) := by rw [e64, va_up_ne _ _ (by decide)]; exact cf24
          have f82 : w72 56 = .inl (cB, 150, .inl bs) := by rw [e73, va_up_ne _ _ (by decide)]; exact f81
          exact ih11  z70 z62 w72 _ _ _ (by omega) (by omega) (by omega) (by omega) (by omega) (by omega) (runB.succ hi19 (by omega) (by omega) e41 (dg_t (by omega) (by omega))) ⟨fun h9 => by omega, fun h9 => by have := q78 (by omega); have := hv77a (by omega); omega, fun h9 => by have := q79 (by omega); have := q80 (by omega); have := hv77b (by omega); omega⟩ ok75 kx76 f74 f82 (by omega) h (lv_sub hl [0] rfl)
        · refine lv_if_eq (tgt := 71) hx hb dX7_takeNumber_28 (by decide) (fun _ => ?_) (fun hc => absurd (by decide) hc)
          refine lv_aload_n hx hb dX7_takeNumber_71 rfl (lv_at hl 0 rfl) ?_
          refine lv_aload_n hx hb dX7_takeNumber_72 rfl (lv_at hl 0 rfl) ?_
          refine r_get kc7 X h 55 4 (by decide) rfl cf23 (by decide) kv_378 rfl dX7_takeNumber_73 ?_
          refine lv_aload_n hx hb dX7_takeNumber_76 rfl (lv_at hl 0 rfl) ?_
          refine r_get kc7 X h 55 3 (by decide) rfl cf23 (by decide) kv_379 rfl dX7_takeNumber_77 ?_
          obtain ⟨z85, e83, t84⟩ := x_sub (x := C6) (y := a) (a := (C6).toInt) (b := (a).toInt) rfl rfl (by omega) (by omega)
          refine o_isub (z := z85) hx hb dX7_takeNumber_80 e83 ?_
          refine lv_iconst (v := 2) hx hb dX7_takeNumber_81 (by decide) ?_
          refine lv_icmp_gt (tgt := 89) hx hb dX7_takeNumber_82 (by decide) (fun hc86 => ?_) (fun hc86 => ?_)
          · have hc86 : 2 < (z85).toInt := i_lt hc86 rfl rfl
            refine lv_iconst (v := 4) hx hb dX7_takeNumber_89 (by decide) ?_
            refine r_put kc7 X hD h 55 5 (by decide) rfl cf23 (by decide) kv_392 rfl rfl rfl (Nat.le_of_ble_eq_true rfl) dX7_takeNumber_90 (fun H locs w87 e88 h => ?_)
            have f89 : w87 55 = .inr (5, [.ref (ad 56), .ref (ad 57), .int z, .int a, .int C6, .int 4, .int C7]) := (congrFun e88 _).trans (va_up_self _ _ _)
            have ok90 : OK cI cB cZ cO ad w87 := OK.up ok21 e88 (sT_mk (by omega) (by omega) (by omega) (by omega))
            have kx91 : F5 w w87 := F5.up kx22 e88
            exact e_v X h hr hlk dX7_takeNumber_93 ⟨ok90, kx91, ⟨_, _, _, f89, by omega, by omega, hi19, Or.inr ⟨_, e41, by omega⟩, Or.inr ⟨by omega, by decide⟩, hi20⟩⟩
          · have hc86 : ¬ 2 < (z85).toInt := i_nlt hc86 rfl rfl
            refine lv_iconst (v := 2) hx hb dX7_takeNumber_85 (by decide) ?_
            refine lv_goto (tgt := 90) hx hb dX7_takeNumber_86 (by decide) ?_
            refine r_put kc7 X hD h 55 5 (by decide) rfl cf23 (by decide) kv_392 rfl rfl rfl (Nat.le_of_ble_eq_true rfl) dX7_takeNumber_90 (fun H locs w92 e93 h => ?_)
            have f94 : w92 55 = .inr (5, [.ref (ad 56), .ref (ad 57), .int z, .int a, .int C6, .int 2, .int C7]) := (congrFun e93 _).trans (va_up_self _ _ _)
            have ok95 : OK cI cB cZ cO ad w92 := OK.up ok21 e93 (sT_mk (by omega) (by omega) (by omega) (by omega))
            have kx96 : F5 w w92 := F5.up kx22 e93
            exact e_v X h hr hlk dX7_takeNumber_93 ⟨ok95, kx96, ⟨_, _, _, f94, by omega, by omega, hi19, Or.inr ⟨_, e41, by omega⟩, Or.inl ⟨by omega, by decide⟩, hi20⟩⟩
  have f97 : w1 56 = .inl (cB, 150, .inl bs) := by rw [e2, va_up_ne _ _ (by decide)]; exact p56
  exact hloop9 151 b (0 : Int32) w1 _ _ _ (by have q0 : (0 : Int32).toInt = 0 := rfl; omega) (by have q0 : (0 : Int32).toInt = 0 := rfl; omega) (by have q0 : (0 : Int32).toInt = 0 := rfl; omega) (by have q0 : (0 : Int32).toInt = 0 := rfl; omega) (by have q0 : (0 : Int32).toInt = 0 := rfl; omega) (by have q0 : (0 : Int32).toInt = 0 := rfl; omega) runB.nil ⟨fun _ => by first | rfl | decide | omega, fun h9 => by omega, fun h9 => by omega⟩ ok4 kx5 f3 f97 (by have q0 : (0 : Int32).toInt = 0 := rfl; omega) h (lv_sub hl [0] rfl)

set_option maxHeartbeats 4000000 in
set_option maxRecDepth 100000 in
theorem c_F_step (l : Launch) (G : va_G) (cI cB cZ cO : ClassId) (ad : Nat → Nat) (w : Nat → va_E) (z a b c0 d : Int32) (bs : Nat → Int32) (ok : OK cI cB cZ cO ad w)   (pf : w 55 = .inr (5, [.ref (ad 56), .ref (ad 57), .int z, .int a, .int b, .int c0, .int d])) (hz1 : z.toInt ≤ 150) (p56 : w 56 = .inl (cB, 150, .inl bs)) (hb0 : 0 ≤ b.toInt) (hbz : b.toInt ≤ z.toInt) (hd0 : 0 ≤ d.toInt) (hd1 : d.toInt ≤ 99) : NV l G (tyq cI cB cZ cO) yX7_step cX7_step 1 2 40 74 ad w [.ref (ad 55)] (fun w1 => OK cI cB cZ cO ad w1 ∧ F5 w w1 ∧ ∃ a1 b1 c1 d1 : Int32, w1 55 = .inr (5, [.ref (ad 56), .ref (ad 57), .int z, .int a1, .int b1, .int c1, .int d1]) ∧ 0 ≤ a1.toInt ∧ a1.toInt ≤ b1.toInt ∧ b1.toInt ≤ z.toInt ∧ STEPP bs z b a1 b1 c1 d1) := by
  refine nk_v (own := "NoonShade$Text") rfl (by decide) (Nat.le_of_ble_eq_true rfl) ?_
  intro p e s m below meth c ls X hD hN hr hlk h hl
  have hx := X.1.1
  have hb := X.1.2.1
  have hown := X.1.2.2.2.1
  have hts := X.1.2.2.2.2
  have hl : lv_has ls 1 [(0, .ref (ad 55))] := hl
  have hloop3 : ∀ (d4 : Nat) (C1 : Int32) (wL2 : Nat → va_E) (H : Heap) (locs : List Loc) (ls : Array Slot), 0 ≤ C1.toInt → C1.toInt ≤ 150 → b.toInt ≤ C1.toInt → C1.toInt ≤ z.toInt → (runB spB bs b C1) → OK cI cB cZ cO ad wL2 → F5 w wL2 → wL2 55 = .inr (5, [.ref (ad 56), .ref (ad 57), .int z, .int a, .int C1, .int c0, .int d]) → wL2 56 = .inl (cB, 150, .inl bs) → z.toInt - C1.toInt < (d4 : Int) → St G 74 ad (wA 74 ad s.heap.size) s.heap wL2 H locs → lv_has ls 1 [(0, .ref (ad 55))] → W p l e { frames := 2, cells := 0, slots := 0, locals := 40 } s m [.ref (ad 55)].toArray below meth c H locs 0 0 (MQ below (va_Qv (fun w1 => OK cI cB cZ cO ad w1 ∧ F5 w w1 ∧ ∃ a1 b1 c1 d1 : Int32, w1 55 = .inr (5, [.ref (ad 56), .ref (ad 57), .int z, .int a1, .int b1, .int c1, .int d1]) ∧ 0 ≤ a1.toInt ∧ a1.toInt ≤ b1.toInt ∧ b1.toInt ≤ z.toInt ∧ STEPP bs z b a1 b1 c1 d1) (Aft G 74 ad) (wA 74 ad s.heap.size)) [.ref (ad 55)].toArray s 0 0 (wA 74 ad s.heap.size)) (F0 m 0 ls []) := by
    intro d4
    induction d4 with
    | zero => intro C1 wL2 H locs ls hi7 hi8 hi9 hi10 hi11 ok12 kx13 cf14 cf15 hm6 h hl; exfalso; omega
    | succ d4 ih5 =>
      intro C1 wL2 H locs ls hi7 hi8 hi9 hi10 hi11 ok12 kx13 cf14 cf15 hm6 h hl
      refine lv_aload_n hx hb dX7_step_0 rfl (lv_at hl 0 rfl) ?_
      refine r_get kc7 X h 55 4 (by decide) rfl cf14 (by decide) kv_378 rfl dX7_step_1 ?_
      refine lv_aload_n hx hb dX7_step_4 rfl (lv_at hl 0 rfl) ?_
      refine r_get kc7 X h 55 2 (by decide) rfl cf14 (by decide) kv_391 rfl dX7_step_5 ?_
      refine lv_icmp_ge (tgt := 38) hx hb dX7_step_8 (by decide) (fun hc16 => ?_) (fun hc16 => ?_)
      · have hc16 : (z).toInt ≤ (C1).toInt := i_le hc16 rfl rfl
        refine lv_aload_n hx hb dX7_step_38 rfl (lv_at hl 0 rfl) ?_
        refine lv_aload_n hx hb dX7_step_39 rfl (lv_at hl 0 rfl) ?_
        refine r_get kc7 X h 55 4 (by decide) rfl cf14 (by decide) kv_378 rfl dX7_step_40 ?_
        refine r_put kc7 X hD h 55 3 (by decide) rfl cf14 (by decide) kv_379 rfl rfl rfl (Nat.le_of_ble_eq_true rfl) dX7_step_43 (fun H locs w17 e18 h => ?_)
        have f19 : w17 55 = .inr (5, [.ref (ad 56), .ref (ad 57), .int z, .int C1, .int C1, .int c0, .int d]) := (congrFun e18 _).trans (va_up_self _ _ _)
        have ok20 : OK cI cB cZ cO ad w17 := OK.up ok12 e18 (sT_mk (by omega) (by omega) (by omega) (by omega))
        have kx21 : F5 w w17 := F5.up kx13 e18
        refine lv_aload_n hx hb dX7_step_46 rfl (lv_at hl 0 rfl) ?_
        refine r_get kc7 X h 55 4 (by decide) rfl f19 (by decide) kv_378 rfl dX7_step_47 ?_
        refine lv_aload_n hx hb dX7_step_50 rfl (lv_at hl 0 rfl) ?_
        refine r_get kc7 X h 55 2 (by decide) rfl f19 (by decide) kv_391 rfl dX7_step_51 ?_
        refine lv_icmp_lt (tgt := 65) hx hb dX7_step_54 (by decide) (fun hc22 => ?_) (fun hc22 => ?_)
        · have hc22 : (C1).toInt < (z).toInt := i_lt hc22 rfl rfl
          refine lv_aload_n hx hb dX7_step_65 rfl (lv_at hl 0 rfl) ?_
          refine r_get kc7 X h 55 0 (by decide) rfl f19 (by decide) kv_380 rfl dX7_step_66 ?_
          refine lv_aload_n hx hb dX7_step_69 rfl (lv_at hl 0 rfl) ?_
          refine r_get kc7 X h 55 4 (by decide) rfl f19 (by decide) kv_378 rfl dX7_step_70 ?_
          have f23 : w17 56 = .inl (cB, 150, .inl bs) := by rw [e18, va_up_ne _ _ (by decide)]; exact cf15
          obtain ⟨v24, e25⟩ : ∃ z : Int32, bs C1.toNatClampNeg = z := ⟨_, rfl⟩
          refine o_bald (v := v24) X h 56 1 (by decide) rfl f23 rfl (in_of (by omega) (by omega)) e25 dX7_step_73 ?_
          refine n_Si (na := 1) (As := [.int v24]) (rest := []) X hD hN h (c_isLetter l G cI cB cZ cO ad w17   v24  ) ⟨kv_396, kv_397, kv_388, kv_398⟩ ⟨by decide, by decide, by decide⟩ ⟨Nat.le_of_ble_eq_true rfl, Nat.le_of_ble_eq_true rfl⟩ ⟨Nat.zero_le _, Nat.zero_le _⟩ rfl hl.1 rfl (Nat.le_of_ble_eq_true rfl) dX7_step_74 (fun r27 w28 H locs hp29 h => ?_)
          obtain ⟨rfl, hr30⟩ := hp29
          rcases hr30 with ⟨hq31, hq32, rfl⟩ | ⟨hq33, rfl⟩
          · refine lv_if_eq (tgt := 124) hx hb dX7_step_77 (by decide) (fun hc => absurd hc (by decide)) (fun _ => ?_)
            refine lv_aload_n hx hb dX7_step_80 rfl (lv_at hl 0 rfl) ?_
            refine lv_iconst (v := 1) hx hb dX7_step_81 (by decide) ?_
            refine r_put kc7 X hD h 55 5 (by decide) rfl f19 (by decide) kv_392 rfl rfl rfl (Nat.le_of_ble_eq_true rfl) dX7_step_82 (fun H locs w34 e35 h => ?_)
            have f36 : w34 55 = .inr (5, [.ref (ad 56), .ref (ad 57), .int z, .int C1, .int C1, .int 1, .int d]) := (congrFun e35 _).trans (va_up_self _ _ _)
            have ok37 : OK cI cB cZ cO ad w34 := OK.up ok20 e35 (sT_mk (by omega) (by omega) (by omega) (by omega))
            have kx38 : F5 w w34 := F5.up kx21 e35
            have hloop41 : ∀ (d42 : Nat) (C39 : Int32) (wL40 : Nat → va_E) (H : Heap) (locs : List Loc) (ls : Array Slot), 0 ≤ C39.toInt → C39.toInt ≤ 150 → C1.toInt ≤ C39.toInt → C39.toInt ≤ z.toInt → (runB ltB bs C1 C39) → OK cI cB cZ cO ad wL40 → F5 w wL40 → wL40 55 = .inr (5, [.ref (ad 56), .ref (ad 57), .int z, .int C1, .int C39, .int 1, .int d]) → wL40 56 = .inl (cB, 150, .inl bs) → z.toInt - C39.toInt < (d42 : Int) → St G 74 ad (wA 74 ad s.heap.size) s.heap wL40 H locs → lv_has ls 1 [(0, .ref (ad 55))] → W p l e { frames := 2, cells := 0, slots := 0, locals := 40 } s m [.ref (ad 55)].toArray below meth c H locs 0 0 (MQ below (va_Qv (fun w1 => OK cI cB cZ cO ad w1 ∧ F5 w w1 ∧ ∃ a1 b1 c1 d1 : Int32, w1 55 = .inr (5, [.ref (ad 56), .ref (ad 57), .int z, .int a1, .int b1, .int c1, .int d1]) ∧ 0 ≤ a1.toInt ∧ a1.toInt ≤ b1.toInt ∧ b1.toInt ≤ z.toInt ∧ STEPP bs z b a1 b1 c1 d1) (Aft G 74 ad) (wA 74 ad s.heap.size)) [.ref (ad 55)].toArray s 0 0 (wA 74 ad s.heap.size)) (F0 m 85 ls []) := by
              intro d42
              induction d42 with
              | zero => intro C39 wL40 H locs ls hi45 hi46 hi47 hi48 hi49 ok50 kx51 cf52 cf53 hm44 h hl; exfalso; omega
              | succ d42 ih43 =>
                intro C39 wL40 H locs ls hi45 hi46 hi47 hi48 hi49 ok50 kx51 cf52 cf53 hm44 h hl
                refine lv_aload_n hx hb dX7_step_85 rfl (lv_at hl 0 rfl) ?_
                refine r_get kc7 X h 55 4 (by decide) rfl cf52 (by decide) kv_378 rfl dX7_step_86 ?_
                refine lv_aload_n hx hb dX7_step_89 rfl (lv_at hl 0 rfl) ?_
                refine r_get kc7 X h 55 2 (by decide) rfl cf52 (by decide) kv_391 rfl dX7_step_90 ?_
                refine lv_icmp_ge (tgt := 179) hx hb dX7_step_93 (by decide) (fun hc54 => ?_) (fun hc54 => ?_)
                · have hc54 : (z).toInt ≤ (C39).toInt := i_le hc54 rfl rfl
                  exact e_v X h hr hlk dX7_step_179 ⟨ok50, kx51, ⟨_, _, _, _, cf52, by omega, by omega, by omega, tok1 (u := 0) (by omega) (by omega) (by omega) (by omega) hi11 e25 ⟨by omega, by omega⟩ (by omega) (by omega) hi49 (by first | exact Or.inl (by omega) | exact Or.inr ⟨rfl, by omega⟩) (by decide)⟩⟩
                · have hc54 : ¬ (z).toInt ≤ (C39).toInt := i_nle hc54 rfl rfl
                  refine lv_aload_n hx hb dX7_step_96 rfl (lv_at hl 0 rfl) ?_
                  refine r_get kc7 X h 55 0 (by decide) rfl cf52 (by decide) kv_380 rfl dX7_step_97 ?_
                  refine lv_aload_n hx hb dX7_step_100 rfl (lv_at hl 0 rfl) ?_
                  refine r_get kc7 X h 55 4 (by decide) rfl cf52 (by decide) kv_378 rfl dX7_step_101 ?_
                  obtain ⟨v55, e56⟩ : ∃ z : Int32, bs C39.toNatClampNeg = z := ⟨_, rfl⟩
                  refine o_bald (v := v55) X h 56 1 (by decide) rfl cf53 rfl (in_of (by omega) (by omega)) e56 dX7_step_104 ?_
                  refine n_Si (na := 1) (As := [.int v55]) (rest := []) X hD hN h (c_isLetter l G cI cB cZ cO ad wL40   v55  ) ⟨kv_396, kv_397, kv_388, kv_398⟩ ⟨by decide, by decide, by decide⟩ ⟨Nat.le_of_ble_eq_true rfl, Nat.le_of_ble_eq_true rfl⟩ ⟨Nat.zero_le _, Nat.zero_le _⟩ rfl hl.1 rfl (Nat.le_of_ble_eq_true rfl) dX7_step_105 (fun r58 w59 H locs hp60 h => ?_)
                  obtain ⟨rfl, hr61⟩ := hp60
                  rcases hr61 with ⟨hq62, hq63, rfl⟩ | ⟨hq64, rfl⟩
                  · refine lv_if_eq (tgt := 179) hx hb dX7_step_108 (by decide) (fun hc => absurd hc (by decide)) (fun _ => ?_)
                    refine lv_aload_n hx hb dX7_step_111 rfl (lv_at hl 0 rfl) ?_
                    refine lv_dup hx hb dX7_step_112 rfl ?_
                    refine r_get kc7 X h 55 4 (by decide) rfl cf52 (by decide) kv_378 rfl dX7_step_113 ?_
                    refine lv_iconst (v := 1) hx hb dX7_step_116 (by decide) ?_
                    obtain ⟨z67, e65, t66⟩ := x_add (x := C39) (y := (1 : Int32)) (a := (C39).toInt) (b := 1) rfl rfl (by omega) (by omega)
                    have n68 : z67.toNatClampNeg = C39.toNatClampNeg + 1 := cl_addn (x := C39) (y := (1 : Int32)) rfl rfl t66 (by omega) (by decide)
                    refine o_iadd (z := z67) hx hb dX7_step_117 e65 ?_
                    refine r_put kc7 X hD h 55 4 (by decide) rfl cf52 (by decide) kv_378 rfl rfl rfl (Nat.le_of_ble_eq_true rfl) dX7_step_118 (fun H locs w69 e70 h => ?_)
                    have f71 : w69 55 = .inr (5, [.ref (ad 56), .ref (ad 57), .int z, .int C1, .int z67, .int 1, .int d]) := (congrFun e70 _).trans (va_up_self _ _ _)
                    have ok72 : OK cI cB cZ cO ad w69 := OK.up ok50 e70 (sT_mk (by omega) (by omega) (by omega) (by omega))
                    have kx73 : F5 w w69 := F5.up kx51 e70
                    refine lv_goto (tgt := 85) hx hb dX7_step_121 (by decide) ?_
                    have f74 : w69 56 = .inl (cB, 150, .inl bs) := by rw [e70, va_up_ne _ _ (by decide)]; exact cf53
                    exact ih43  z67 w69 _ _ _ (by omega) (by omega) (by omega) (by omega) (runB.succ hi49 (by omega) (by omega) e56 (lt_t (by omega) (by omega))) ok72 kx73 f71 f74 (by omega) h (lv_sub hl [0] rfl)
                  · refine lv_if_eq (tgt := 179) hx hb dX7_step_108 (by decide) (fun _ => ?_) (fun hc => absurd (by decide) hc)
                    exact e_v X h hr hlk dX7_step_179 ⟨ok50, kx51, ⟨_, _, _, _, cf52, by omega, by omega, by omega, tok1 (u := v55) (by omega) (by omega) (by omega) (by omega) hi11 e25 ⟨by omega, by omega⟩ (by omega) (by omega) hi49 (by first | exact Or.inl (by omega) | exact Or.inr ⟨e56, by omega⟩) (by decide)⟩⟩
            have f75 : w34 56 = .inl (cB, 150, .inl bs) := by rw [e35, va_up_ne _ _ (by decide)]; exact f23
            exact hloop41 151 C1 w34 _ _ _ (by omega) (by omega) (by omega) (by omega) runB.nil ok37 kx38 f36 f75 (by omega) h (lv_sub hl [0] rfl)
          · refine lv_if_eq (tgt := 124) hx hb dX7_step_77 (by decide) (fun _ => ?_) (fun hc => absurd (by decide) hc)
            refine lv_aload_n hx hb dX7_step_124 rfl (lv_at hl 0 rfl) ?_
            refine r_get kc7 X h 55 0 (by decide) rfl f19 (by decide) kv_380 rfl dX7_step_125 ?_
            refine lv_aload_n hx hb dX7_step_128 rfl (lv_at hl 0 rfl) ?_
            refine r_get kc7 X h 55 4 (by decide) rfl f19 (by decide) kv_378 rfl dX7_step_129 ?_
            refine o_bald (v := v24) X h 56 1 (by decide) rfl f23 rfl (in_of (by omega) (by omega)) e25 dX7_step_132 ?_
            refine n_Si (na := 1) (As := [.int v24]) (rest := []) X hD hN h (c_isFigure l G cI cB cZ cO ad w17   v24  ) ⟨kv_393, kv_394, kv_388, kv_395⟩ ⟨by decide, by decide, by decide⟩ ⟨Nat.le_of_ble_eq_true rfl, Nat.le_of_ble_eq_true rfl⟩ ⟨Nat.zero_le _, Nat.zero_le _⟩ rfl hl.1 rfl (Nat.le_of_ble_eq_true rfl) dX7_step_133 (fun r76 w77 H locs hp78 h => ?_)
            obtain ⟨rfl, hr79⟩ := hp78
            rcases hr79 with ⟨hq80, hq81, rfl⟩ | ⟨hq82, rfl⟩
            · refine lv_if_eq (tgt := 146) hx hb dX7_step_136 (by decide) (fun hc => absurd hc (by decide)) (fun _ => ?_)
              refine lv_aload_n hx hb dX7_step_139 rfl (lv_at hl 0 rfl) ?_
              refine n_Vv (na := 0) (As := []) (rest := []) X hD hN h rfl (c_F_takeNumber l G cI cB cZ cO ad w17 z C1 C1 c0 d bs ok20 f19 (by omega) f23 (by first | omega | decide | (simp only [k00]; omega)) (by first | omega | decide | (simp only [k00]; omega)) (by first | omega | decide | (simp only [k00]; omega)) (by first | omega | decide | (simp only [k00]; omega)) (by first | omega | decide | (simp only [k00]; omega))) ⟨kv_399, kv_400, kv_401, kv_388, kv_402⟩ rfl ⟨by decide, by decide, by decide⟩ ⟨Nat.le_of_ble_eq_true rfl, Nat.le_of_ble_eq_true rfl⟩ ⟨Nat.zero_le _, Nat.zero_le _⟩ (by decide) f19 rfl rfl hl.1 rfl (Nat.le_of_ble_eq_true rfl) dX7_step_140 (fun w84 H locs hp85 h => ?_)
              obtain ⟨ok86, kk87, hr88⟩ := hp85
              obtain ⟨y89, y90, y91, h92, h93, h94, h95, h96, h97, h98⟩ := hr88
              have q99 := txd ok86 h92
              have kx100 : F5 w w84 := F5.tr kx21 kk87
              refine lv_goto (tgt := 179) hx hb dX7_step_143 (by decide) ?_
              have hlt9 : C1.toInt < y89.toInt := by
                rcases h96 with g9 | ⟨u9, g9, g8⟩
                · omega
                · by_cases q9 : y89.toInt = C1.toInt
                  · rw [clq q9, e25] at g9; subst g9; omega
                  · omega
              obtain ⟨va9, vb9, vc9⟩ := h98
              exact e_v X h hr hlk dX7_step_179 ⟨ok86, kx100, ⟨_, _, _, _, h92, by omega, by omega, by omega, (by rcases h96 with g9 | ⟨u9, g9, g8⟩; exact tok2 (u := 0) (by omega) (by omega) (by omega) (by omega) hi11 e25 ⟨by omega, by omega⟩ (by omega) (by omega) h95 (Or.inl g9) h97 (fun q9 => by by_cases q8 : y89.toInt = C1.toInt + 1; (rw [if_pos q8]; exact vb9 q8); (rw [if_neg q8]; exact vc9 (by omega))); exact tok2 (u := u9) (by omega) (by omega) (by omega) (by omega) hi11 e25 ⟨by omega, by omega⟩ (by omega) (by omega) h95 (Or.inr ⟨g9, g8⟩) h97 (fun q9 => by by_cases q8 : y89.toInt = C1.toInt + 1; (rw [if_pos q8]; exact vb9 q8); (rw [if_neg q8]; exact vc9 (by omega))))⟩⟩
            · refine lv_if_eq (tgt := 146) hx hb dX7_step_136 (by decide) (fun _ => ?_) (fun hc => absurd (by decide) hc)
              refine lv_aload_n hx hb dX7_step_146 rfl (lv_at hl 0 rfl) ?_
              refine lv_aload_n hx hb dX7_step_147 rfl (lv_at hl 0 rfl) ?_
              refine r_get kc7 X h 55 0 (by decide) rfl f19 (by decide) kv_380 rfl dX7_step_148 ?_
              refine lv_aload_n hx hb dX7_step_151 rfl (lv_at hl 0 rfl) ?_
              refine r_get kc7 X h 55 4 (by decide) rfl f19 (by decide) kv_378 rfl dX7_step_152 ?_
              refine o_bald (v := v24) X h 56 1 (by decide) rfl f23 rfl (in_of (by omega) (by omega)) e25 dX7_step_155 ?_
              refine lv_bipush (v := 59) hx hb dX7_step_156 (by decide) ?_
              refine lv_icmp_ne (tgt := 165) hx hb dX7_step_158 (by decide) (fun hc102 => ?_) (fun hc102 => ?_)
              · have hc102 : ¬ (v24).toInt = 59 := i_ne hc102 rfl rfl
                refine lv_iconst (v := 4) hx hb dX7_step_165 (by decide) ?_
                refine r_put kc7 X hD h 55 5 (by decide) rfl f19 (by decide) kv_392 rfl rfl rfl (Nat.le_of_ble_eq_true rfl) dX7_step_166 (fun H locs w103 e104 h => ?_)
                have f105 : w103 55 = .inr (5, [.ref (ad 56), .ref (ad 57), .int z, .int C1, .int C1, .int 4, .int d]) := (congrFun e104 _).trans (va_up_self _ _ _)
                have ok106 : OK cI cB cZ cO ad w103 := OK.up ok20 e104 (sT_mk (by omega) (by omega) (by omega) (by omega))
                have kx107 : F5 w w103 := F5.up kx21 e104
                refine lv_aload_n hx hb dX7_step_169 rfl (lv_at hl 0 rfl) ?_
                refine lv_dup hx hb dX7_step_170 rfl ?_
                refine r_get kc7 X h 55 4 (by decide) rfl f105 (by decide) kv_378 rfl dX7_step_171 ?_
                refine lv_iconst (v := 1) hx hb dX7_step_174 (by decide) ?_
                obtain ⟨z110, e108, t109⟩ := x_add (x := C1) (y := (1 : Int32)) (a := (C1).toInt) (b := 1) rfl rfl (by omega) (by omega)
                have n111 : z110.toNatClampNeg = C1.toNatClampNeg + 1 := cl_addn (x := C1) (y := (1 : Int32)) rfl rfl t109 (by omega) (by decide)
                refine o_iadd (z := z110) hx hb dX7_step_175 e108 ?_
                refine r_put kc7 X hD h 55 4 (by decide) rfl f105 (by decide) kv_378 rfl rfl rfl (Nat.le_of_ble_eq_true rfl) dX7_step_176 (fun H locs w112 e113 h => ?_)
                have f114 : w112 55 = .inr (5, [.ref (ad 56), .ref (ad 57), .int z, .int C1, .int z110, .int 4, .int d]) := (congrFun e113 _).trans (va_up_self _ _ _)
                have ok115 : OK cI cB cZ cO ad w112 := OK.up ok106 e113 (sT_mk (by omega) (by omega) (by omega) (by omega))
                have kx116 : F5 w w112 := F5.up kx107 e113
                exact e_v X h hr hlk dX7_step_179 ⟨ok115, kx116, ⟨_, _, _, _, f114, by omega, by omega, by omega, tok3 (by omega) (by omega) (by omega) (by omega) hi11 e25 (by omega) (by omega) (by omega) (by omega) (Or.inr ⟨by omega, by decide⟩)⟩⟩
              · have hc102 : (v24).toInt = 59 := i_eq hc102 rfl rfl
                refine lv_iconst (v := 3) hx hb dX7_step_161 (by decide) ?_
                refine lv_goto (tgt := 166) hx hb dX7_step_162 (by decide) ?_
                refine r_put kc7 X hD h 55 5 (by decide) rfl f19 (by decide) kv_392 rfl rfl rfl (Nat.le_of_ble_eq_true rfl) dX7_step_166 (fun H locs w117 e118 h => ?_)
                have f119 : w117 55 = .inr (5, [.ref (ad 56), .ref (ad 57), .int z, .int C1, .int C1, .int 3, .int d]) := (congrFun e118 _).trans (va_up_self _ _ _)
                have ok120 : OK cI cB cZ cO ad w117 := OK.up ok20 e118 (sT_mk (by omega) (by omega) (by omega) (by omega))
                have kx121 : F5 w w117 := F5.up kx21 e118
                refine lv_aload_n hx hb dX7_step_169 rfl (lv_at hl 0 rfl) ?_
                refine lv_dup hx hb dX7_step_170 rfl ?_
                refine r_get kc7 X h 55 4 (by decide) rfl f119 (by decide) kv_378 rfl dX7_step_171 ?_
                refine lv_iconst (v := 1) hx hb dX7_step_174 (by decide) ?_
                obtain ⟨z124, e122, t123⟩ := x_add (x := C1) (y := (1 : Int32)) (a := (C1).toInt) (b := 1) rfl rfl (by omega) (by omega)
                have n125 : z124.toNatClampNeg = C1.toNatClampNeg + 1 := cl_addn (x := C1) (y := (1 : Int32)) rfl rfl t123 (by omega) (by decide)
                refine o_iadd (z := z124) hx hb dX7_step_175 e122 ?_
                refine r_put kc7 X hD h 55 4 (by decide) rfl f119 (by decide) kv_378 rfl rfl rfl (Nat.le_of_ble_eq_true rfl) dX7_step_176 (fun H locs w126 e127 h => ?_)
                have f128 : w126 55 = .inr (5, [.ref (ad 56), .ref (ad 57), .int z, .int C1, .int z124, .int 3, .int d]) := (congrFun e127 _).trans (va_up_self _ _ _)
                have ok129 : OK cI cB cZ cO ad w126 := OK.up ok120 e127 (sT_mk (by omega) (by omega) (by omega) (by omega))
                have kx130 : F5 w w126 := F5.up kx121 e127
                exact e_v X h hr hlk dX7_step_179 ⟨ok129, kx130, ⟨_, _, _, _, f128, by omega, by omega, by omega, tok3 (by omega) (by omega) (by omega) (by omega) hi11 e25 (by omega) (by omega) (by omega) (by omega) (Or.inl ⟨by omega, by decide⟩)⟩⟩
        · have hc22 : ¬ (C1).toInt < (z).toInt := i_nlt hc22 rfl rfl
          refine lv_aload_n hx hb dX7_step_57 rfl (lv_at hl 0 rfl) ?_
          refine lv_iconst (v := 0) hx hb dX7_step_58 (by decide) ?_
          refine r_put kc7 X hD h 55 5 (by decide) rfl f19 (by decide) kv_392 rfl rfl rfl (Nat.le_of_ble_eq_true rfl) dX7_step_59 (fun H locs w131 e132 h => ?_)
          have f133 : w131 55 = .inr (5, [.ref (ad 56), .ref (ad 57), .int z, .int C1, .int C1, .int 0, .int d]) := (congrFun e132 _).trans (va_up_self _ _ _)
          have ok134 : OK cI cB cZ cO ad w131 := OK.up ok20 e132 (sT_mk (by omega) (by omega) (by omega) (by omega))
          have kx135 : F5 w w131 := F5.up kx21 e132
          refine lv_goto (tgt := 179) hx hb dX7_step_62 (by decide) ?_
          exact e_v X h hr hlk dX7_step_179 ⟨ok134, kx135, ⟨_, _, _, _, f133, by omega, by omega, by omega, tok0 (by omega) (by omega) (by omega) (by omega) hi11 rfl (by decide)⟩⟩
      · have hc16 : ¬ (z).toInt ≤ (C1).toInt := i_nle hc16 rfl rfl
        refine lv_aload_n hx hb dX7_step_11 rfl (lv_at hl 0 rfl) ?_
        refine r_get kc7 X h 55 0 (by decide) rfl cf14 (by decide) kv_380 rfl dX7_step_12 ?_
        refine lv_aload_n hx hb dX7_step_15 rfl (lv_at hl 0 rfl) ?_
        refine r_get kc7 X h 55 4 (by decide) rfl cf14 (by decide) kv_378 rfl dX7_step_16 ?_
        obtain ⟨v136, e137⟩ : ∃ z : Int32, bs C1.toNatClampNeg = z := ⟨_, rfl⟩
        refine o_bald (v := v136) X h 56 1 (by decide) rfl cf15 rfl (in_of (by omega) (by omega)) e137 dX7_step_19 ?_
        refine lv_bipush (v := 32) hx hb dX7_step_20 (by decide) ?_
        refine lv_icmp_ne (tgt := 38) hx hb dX7_step_22 (by decide) (fun hc139 => ?_) (fun hc139 => ?_)
        · have hc139 : ¬ (v136).toInt = 32 := i_ne hc139 rfl rfl
          refine lv_aload_n hx hb dX7_step_38 rfl (lv_at hl 0 rfl) ?_
          refine lv_aload_n hx hb dX7_step_39 rfl (lv_at hl 0 rfl) ?_
          refine r_get kc7 X h 55 4 (by decide) rfl cf14 (by decide) kv_378 rfl dX7_step_40 ?_
          refine r_put kc7 X hD h 55 3 (by decide) rfl cf14 (by decide) kv_379 rfl rfl rfl (Nat.le_of_ble_eq_true rfl) dX7_step_43 (fun H locs w140 e141 h => ?_)
          have f142 : w140 55 = .inr (5, [.ref (ad 56), .ref (ad 57), .int z, .int C1, .int C1, .int c0, .int d]) := (congrFun e141 _).trans (va_up_self _ _ _)
          have ok143 : OK cI cB cZ cO ad w140 := OK.up ok12 e141 (sT_mk (by omega) (by omega) (by omega) (by omega))
          have kx144 : F5 w w140 := F5.up kx13 e141
          refine lv_aload_n hx hb dX7_step_46 rfl (lv_at hl 0 rfl) ?_
          refine r_get kc7 X h 55 4 (by decide) rfl f142 (by decide) kv_378 rfl dX7_step_47 ?_
          refine lv_aload_n hx hb dX7_step_50 rfl (lv_at hl 0 rfl) ?_
          refine r_get kc7 X h 55 2 (by decide) rfl f142 (by decide) kv_391 rfl dX7_step_51 ?_
          refine lv_icmp_lt (tgt := 65) hx hb dX7_step_54 (by decide) (fun hc145 => ?_) (fun hc145 => ?_)
          · have hc145 : (C1).toInt < (z).toInt := i_lt hc145 rfl rfl
            refine lv_aload_n hx hb dX7_step_65 rfl (lv_at hl 0 rfl) ?_
            refine r_get kc7 X h 55 0 (by decide) rfl f142 (by decide) kv_380 rfl dX7_step_66 ?_
            refine lv_aload_n hx hb dX7_step_69 rfl (lv_at hl 0 rfl) ?_
            refine r_get kc7 X h 55 4 (by decide) rfl f142 (by decide) kv_378 rfl dX7_step_70 ?_
            have f146 : w140 56 = .inl (cB, 150, .inl bs) := by rw [e141, va_up_ne _ _ (by decide)]; exact cf15
            refine o_bald (v := v136) X h 56 1 (by decide) rfl f146 rfl (in_of (by omega) (by omega)) e137 dX7_step_73 ?_
            refine n_Si (na := 1) (As := [.int v136]) (rest := []) X hD hN h (c_isLetter l G cI cB cZ cO ad w140   v136  ) ⟨kv_396, kv_397, kv_388, kv_398⟩ ⟨by decide, by decide, by decide⟩ ⟨Nat.le_of_ble_eq_true rfl, Nat.le_of_ble_eq_true rfl⟩ ⟨Nat.zero_le _, Nat.zero_le _⟩ rfl hl.1 rfl (Nat.le_of_ble_eq_true rfl) dX7_step_74 (fun r147 w148 H locs hp149 h => ?_)
            obtain ⟨rfl, hr150⟩ := hp149
            rcases hr150 with ⟨hq151, hq152, rfl⟩ | ⟨hq153, rfl⟩
            · refine lv_if_eq (tgt := 124) hx hb dX7_step_77 (by decide) (fun hc => absurd hc (by decide)) (fun _ => ?_)
              refine lv_aload_n hx hb dX7_step_80 rfl (lv_at hl 0 rfl) ?_
              refine lv_iconst (v := 1) hx hb dX7_step_81 (by decide) ?_
              refine r_put kc7 X hD h 55 5 (by decide) rfl f142 (by decide) kv_392 rfl rfl rfl (Nat.le_of_ble_eq_true rfl) dX7_step_82 (fun H locs w154 e155 h => ?_)
              have f156 : w154 55 = .inr (5, [.ref (ad 56), .ref (ad 57), .int z, .int C1, .int C1, .int 1, .int d]) := (congrFun e155 _).trans (va_up_self _ _ _)
              have ok157 : OK cI cB cZ cO ad w154 := OK.up ok143 e155 (sT_mk (by omega) (by omega) (by omega) (by omega))
              have kx158 : F5 w w154 := F5.up kx144 e155
              have hloop161 : ∀ (d162 : Nat) (C159 : Int32) (wL160 : Nat → va_E) (H : Heap) (locs : List Loc) (ls : Array Slot), 0 ≤ C159.toInt → C159.toInt ≤ 150 → C1.toInt ≤ C159.toInt → C159.toInt ≤ z.toInt → (runB ltB bs C1 C159) → OK cI cB cZ cO ad wL160 → F5 w wL160 → wL160 55 = .inr (5, [.ref (ad 56), .ref (ad 57), .int z, .int C1, .int C159, .int 1, .int d]) → wL160 56 = .inl (cB, 150, .inl bs) → z.toInt - C159.toInt < (d162 : Int) → St G 74 ad (wA 74 ad s.heap.size) s.heap wL160 H locs → lv_has ls 1 [(0, .ref (ad 55))] → W p l e { frames := 2, cells := 0, slots := 0, locals := 40 } s m [.ref (ad 55)].toArray below meth c H locs 0 0 (MQ below (va_Qv (fun w1 => OK cI cB cZ cO ad w1 ∧ F5 w w1 ∧ ∃ a1 b1 c1 d1 : Int32, w1 55 = .inr (5, [.ref (ad 56), .ref (ad 57), .int z, .int a1, .int b1, .int c1, .int d1]) ∧ 0 ≤ a1.toInt ∧ a1.toInt ≤ b1.toInt ∧ b1.toInt ≤ z.toInt ∧ STEPP bs z b a1 b1 c1 d1) (Aft G 74 ad) (wA 74 ad s.heap.size)) [.ref (ad 55)].toArray s 0 0 (wA 74 ad s.heap.size)) (F0 m 85 ls []) := by
                intro d162
                induction d162 with
                | zero => intro C159 wL160 H locs ls hi165 hi166 hi167 hi168 hi169 ok170 kx171 cf172 cf173 hm164 h hl; exfalso; omega
                | succ d162 ih163 =>
                  intro C159 wL160 H locs ls hi165 hi166 hi167 hi168 hi169 ok170 kx171 cf172 cf173 hm164 h hl
                  refine lv_aload_n hx hb dX7_step_85 rfl (lv_at hl 0 rfl) ?_
                  refine r_get kc7 X h 55 4 (by decide) rfl cf172 (by decide) kv_378 rfl dX7_step_86 ?_
                  refine lv_aload_n hx hb dX7_step_89 rfl (lv_at hl 0 rfl) ?_
                  refine r_get kc7 X h 55 2 (by decide) rfl cf172 (by decide) kv_391 rfl dX7_step_90 ?_
                  refine lv_icmp_ge (tgt := 179) hx hb dX7_step_93 (by decide) (fun hc174 => ?_) (fun hc174 => ?_)
                  · have hc174 : (z).toInt ≤ (C159).toInt := i_le hc174 rfl rfl
                    exact e_v X h hr hlk dX7_step_179 ⟨ok170, kx171, ⟨_, _, _, _, cf172, by omega, by omega, by omega, tok1 (u := 0) (by omega) (by omega) (by omega) (by omega) hi11 e137 ⟨by omega, by omega⟩ (by omega) (by omega) hi169 (by first | exact Or.inl (by omega) | exact Or.inr ⟨rfl, by omega⟩) (by decide)⟩⟩
                  · have hc174 : ¬ (z).toInt ≤ (C159).toInt := i_nle hc174 rfl rfl
                    refine lv_aload_n hx hb dX7_step_96 rfl (lv_at hl 0 rfl) ?_
                    refine r_get kc7 X h 55 0 (by decide) rfl cf172 (by decide) kv_380 rfl dX7_step_97 ?_
                    refine lv_aload_n hx hb dX7_step_100 rfl (lv_at hl 0 rfl) ?_
                    refine r_get kc7 X h 55 4 (by decide) rfl cf172 (by decide) kv_378 rfl dX7_step_101 ?_
                    obtain ⟨v175, e176⟩ : ∃ z : Int32, bs C159.toNatClampNeg = z := ⟨_, rfl⟩
                    refine o_bald (v := v175) X h 56 1 (by decide) rfl cf173 rfl (in_of (by omega) (by omega)) e176 dX7_step_104 ?_
                    refine n_Si (na := 1) (As := [.int v175]) (rest := []) X hD hN h (c_isLetter l G cI cB cZ cO ad wL160   v175  ) ⟨kv_396, kv_397, kv_388, kv_398⟩ ⟨by decide, by decide, by decide⟩ ⟨Nat.le_of_ble_eq_true rfl, Nat.le_of_ble_eq_true rfl⟩ ⟨Nat.zero_le _, Nat.zero_le _⟩ rfl hl.1 rfl (Nat.le_of_ble_eq_true rfl) dX7_step_105 (fun r178 w179 H locs hp180 h => ?_)
                    obtain ⟨rfl, hr181⟩ := hp180
                    rcases hr181 with ⟨hq182, hq183, rfl⟩ | ⟨hq184, rfl⟩
                    · refine lv_if_eq (tgt := 179) hx hb dX7_step_108 (by decide) (fun hc => absurd hc (by decide)) (fun _ => ?_)
                      refine lv_aload_n hx hb dX7_step_111 rfl (lv_at hl 0 rfl) ?_
                      refine lv_dup hx hb dX7_step_112 rfl ?_
                      refine r_get kc7 X h 55 4 (by decide) rfl cf172 (by decide) kv_378 rfl dX7_step_113 ?_
                      refine lv_iconst (v := 1) hx hb dX7_step_116 (by decide) ?_
                      obtain ⟨z187, e185, t186⟩ := x_add (x := C159) (y := (1 : Int32)) (a := (C159).toInt) (b := 1) rfl rfl (by omega) (by omega)
                      have n188 : z187.toNatClampNeg = C159.toNatClampNeg + 1 := cl_addn (x := C159) (y := (1 : Int32)) rfl rfl t186 (by omega) (by decide)
                      refine o_iadd (z := z187) hx hb dX7_step_117 e185 ?_
                      refine r_put kc7 X hD h 55 4 (by decide) rfl cf172 (by decide) kv_378 rfl rfl rfl (Nat.le_of_ble_eq_true rfl) dX7_step_118 (fun H locs w189 e190 h => ?_)
                      have f191 : w189 55 = .inr (5, [.ref (ad 56), .ref (ad 57), .int z, .int C1, .int z187, .int 1, .int d]) := (congrFun e190 _).trans (va_up_self _ _ _)
                      have ok192 : OK cI cB cZ cO ad w189 := OK.up ok170 e190 (sT_mk (by omega) (by omega) (by omega) (by omega))
                      have kx193 : F5 w w189 := F5.up kx171 e190
                      refine lv_goto (tgt := 85) hx hb dX7_step_121 (by decide) ?_
                      have f194 : w189 56 = .inl (cB, 150, .inl bs) := by rw [e190, va_up_ne _ _ (by decide)]; exact cf173
                      exact ih163  z187 w189 _ _ _ (by omega) (by omega) (by omega) (by omega) (runB.succ hi169 (by omega) (by omega) e176 (lt_t (by omega) (by omega))) ok192 kx193 f191 f194 (by omega) h (lv_sub hl [0] rfl)
                    · refine lv_if_eq (tgt := 179) hx hb dX7_step_108 (by decide) (fun _ => ?_) (fun hc => absurd (by decide) hc)
                      exact e_v X h hr hlk dX7_step_179 ⟨ok170, kx171, ⟨_, _, _, _, cf172, by omega, by omega, by omega, tok1 (u := v175) (by omega) (by omega) (by omega) (by omega) hi11 e137 ⟨by omega, by omega⟩ (by omega) (by omega) hi169 (by first | exact Or.inl (by omega) | exact Or.inr ⟨e176, by omega⟩) (by decide)⟩⟩
              have f195 : w154 56 = .inl (cB, 150, .inl bs) := by rw [e155, va_up_ne _ _ (by decide)]; exact f146
              exact hloop161 151 C1 w154 _ _ _ (by omega) (by omega) (by omega) (by omega) runB.nil ok157 kx158 f156 f195 (by omega) h (lv_sub hl [0] rfl)
            · refine lv_if_eq (tgt := 124) hx hb dX7_step_77 (by decide) (fun _ => ?_) (fun hc => absurd (by decide) hc)
              refine lv_aload_n hx hb dX7_step_124 rfl (lv_at hl 0 rfl) ?_
              refine r_get kc7 X h 55 0 (by decide) rfl f142 (by decide) kv_380 rfl dX7_step_125 ?_
              refine lv_aload_n hx hb dX7_step_128 rfl (lv_at hl 0 rfl) ?_
              refine r_get kc7 X h 55 4 (by decide) rfl f142 (by decide) kv_378 rfl dX7_step_129 ?_
              refine o_bald (v := v136) X h 56 1 (by decide) rfl f146 rfl (in_of (by omega) (by omega)) e137 dX7_step_132 ?_
              refine n_Si (na := 1) (As := [.int v136]) (rest := []) X hD hN h (c_isFigure l G cI cB cZ cO ad w140   v136  ) ⟨kv_393, kv_394, kv_388, kv_395⟩ ⟨by decide, by decide, by decide⟩ ⟨Nat.le_of_ble_eq_true rfl, Nat.le_of_ble_eq_true rfl⟩ ⟨Nat.zero_le _, Nat.zero_le _⟩ rfl hl.1 rfl (Nat.le_of_ble_eq_true rfl) dX7_step_133 (fun r196 w197 H locs hp198 h => ?_)
              obtain ⟨rfl, hr199⟩ := hp198
              rcases hr199 with ⟨hq200, hq201, rfl⟩ | ⟨hq202, rfl⟩
              · refine lv_if_eq (tgt := 146) hx hb dX7_step_136 (by decide) (fun hc => absurd hc (by decide)) (fun _ => ?_)
                refine lv_aload_n hx hb dX7_step_139 rfl (lv_at hl 0 rfl) ?_
                refine n_Vv (na := 0) (As := []) (rest := []) X hD hN h rfl (c_F_takeNumber l G cI cB cZ cO ad w140 z C1 C1 c0 d bs ok143 f142 (by omega) f146 (by first | omega | decide | (simp only [k00]; omega)) (by first | omega | decide | (simp only [k00]; omega)) (by first | omega | decide | (simp only [k00]; omega)) (by first | omega | decide | (simp only [k00]; omega)) (by first | omega | decide | (simp only [k00]; omega))) ⟨kv_399, kv_400, kv_401, kv_388, kv_402⟩ rfl ⟨by decide, by decide, by decide⟩ ⟨Nat.le_of_ble_eq_true rfl, Nat.le_of_ble_eq_true rfl⟩ ⟨Nat.zero_le _, Nat.zero_le _⟩ (by decide) f142 rfl rfl hl.1 rfl (Nat.le_of_ble_eq_true rfl) dX7_step_140 (fun w204 H locs hp205 h => ?_)
                obtain ⟨ok206, kk207, hr208⟩ := hp205
                obtain ⟨y209, y210, y211, h212, h213, h214, h215, h216, h217, h218⟩ := hr208
                have q219 := txd ok206 h212
                have kx220 : F5 w w204 := F5.tr kx144 kk207
                refine lv_goto (tgt := 179) hx hb dX7_step_143 (by decide) ?_
                have hlt9 : C1.toInt < y209.toInt := by
                  rcases h216 with g9 | ⟨u9, g9, g8⟩
                  · omega
                  · by_cases q9 : y209.toInt = C1.toInt
                    · rw [clq q9, e137] at g9; subst g9; omega
                    · omega
                obtain ⟨va9, vb9, vc9⟩ := h218
                exact e_v X h hr hlk dX7_step_179 ⟨ok206, kx220, ⟨_, _, _, _, h212, by omega, by omega, by omega, (by rcases h216 with g9 | ⟨u9, g9, g8⟩; exact tok2 (u := 0) (by omega) (by omega) (by omega) (by omega) hi11 e137 ⟨by omega, by omega⟩ (by omega) (by omega) h215 (Or.inl g9) h217 (fun q9 => by by_cases q8 : y209.toInt = C1.toInt + 1; (rw [if_pos q8]; exact vb9 q8); (rw [if_neg q8]; exact vc9 (by omega))); exact tok2 (u := u9) (by omega) (by omega) (by omega) (by omega) hi11 e137 ⟨by omega, by omega⟩ (by omega) (by omega) h215 (Or.inr ⟨g9, g8⟩) h217 (fun q9 => by by_cases q8 : y209.toInt = C1.toInt + 1; (rw [if_pos q8]; exact vb9 q8); (rw [if_neg q8]; exact vc9 (by omega))))⟩⟩
              · refine lv_if_eq (tgt := 146) hx hb dX7_step_136 (by decide) (fun _ => ?_) (fun hc => absurd (by decide) hc)
                refine lv_aload_n hx hb dX7_step_146 rfl (lv_at hl 0 rfl) ?_
                refine lv_aload_n hx hb dX7_step_147 rfl (lv_at hl 0 rfl) ?_
                refine r_get kc7 X h 55 0 (by decide) rfl f142 (by decide) kv_380 rfl dX7_step_148 ?_
                refine lv_aload_n hx hb dX7_step_151 rfl (lv_at hl 0 rfl) ?_
                refine r_get kc7 X h 55 4 (by decide) rfl f142 (by decide) kv_378 rfl dX7_step_152 ?_
                refine o_bald (v := v136) X h 56 1 (by decide) rfl f146 rfl (in_of (by omega) (by omega)) e137 dX7_step_155 ?_
                refine lv_bipush (v := 59) hx hb dX7_step_156 (by decide) ?_
                refine lv_icmp_ne (tgt := 165) hx hb dX7_step_158 (by decide) (fun hc222 => ?_) (fun hc222 => ?_)
                · have hc222 : ¬ (v136).toInt = 59 := i_ne hc222 rfl rfl
                  refine lv_iconst (v := 4) hx hb dX7_step_165 (by decide) ?_
                  refine r_put kc7 X hD h 55 5 (by decide) rfl f142 (by decide) kv_392 rfl rfl rfl (Nat.le_of_ble_eq_true rfl) dX7_step_166 (fun H locs w223 e224 h => ?_)
                  have f225 : w223 55 = .inr (5, [.ref (ad 56), .ref (ad 57), .int z, .int C1, .int C1, .int 4, .int d]) := (congrFun e224 _).trans (va_up_self _ _ _)
                  have ok226 : OK cI cB cZ cO ad w223 := OK.up ok143 e224 (sT_mk (by omega) (by omega) (by omega) (by omega))
                  have kx227 : F5 w w223 := F5.up kx144 e224
                  refine lv_aload_n hx hb dX7_step_169 rfl (lv_at hl 0 rfl) ?_
                  refine lv_dup hx hb dX7_step_170 rfl ?_
                  refine r_get kc7 X h 55 4 (by decide) rfl f225 (by decide) kv_378 rfl dX7_step_171 ?_
                  refine lv_iconst (v := 1) hx hb dX7_step_174 (by decide) ?_
                  obtain ⟨z230, e228, t229⟩ := x_add (x := C1) (y := (1 : Int32)) (a := (C1).toInt) (b := 1) rfl rfl (by omega) (by omega)
                  have n231 : z230.toNatClampNeg = C1.toNatClampNeg + 1 := cl_addn (x := C1) (y := (1 : Int32)) rfl rfl t229 (by omega) (by decide)
                  refine o_iadd (z := z230) hx hb dX7_step_175 e228 ?_
                  refine r_put kc7 X hD h 55 4 (by decide) rfl f225 (by decide) kv_378 rfl rfl rfl (Nat.le_of_ble_eq_true rfl) dX7_step_176 (fun H locs w232 e233 h => ?_)
                  have f234 : w232 55 = .inr (5, [.ref (ad 56), .ref (ad 57), .int z, .int C1, .int z230, .int 4, .int d]) := (congrFun e233 _).trans (va_up_self _ _ _)
                  have ok235 : OK cI cB cZ cO ad w232 := OK.up ok226 e233 (sT_mk (by omega) (by omega) (by omega) (by omega))
                  have kx236 : F5 w w232 := F5.up kx227 e233
                  exact e_v X h hr hlk dX7_step_179 ⟨ok235, kx236, ⟨_, _, _, _, f234, by omega, by omega, by omega, tok3 (by omega) (by omega) (by omega) (by omega) hi11 e137 (by omega) (by omega) (by omega) (by omega) (Or.inr ⟨by omega, by decide⟩)⟩⟩
                · have hc222 : (v136).toInt = 59 := i_eq hc222 rfl rfl
                  refine lv_iconst (v := 3) hx hb dX7_step_161 (by decide) ?_
                  refine lv_goto (tgt := 166) hx hb dX7_step_162 (by decide) ?_
                  refine r_put kc7 X hD h 55 5 (by decide) rfl f142 (by decide) kv_392 rfl rfl rfl (Nat.le_of_ble_eq_true rfl) dX7_step_166 (fun H locs w237 e238 h => ?_)
                  have f239 : w237 55 = .inr (5, [.ref (ad 56), .ref (ad 57), .int z, .int C1, .int C1, .int 3, .int d]) := (congrFun e238 _).trans (va_up_self _ _ _)
                  have ok240 : OK cI cB cZ cO ad w237 := OK.up ok143 e238 (sT_mk (by omega) (by omega) (by omega) (by omega))
                  have kx241 : F5 w w237 := F5.up kx144 e238
                  refine lv_aload_n hx hb dX7_step_169 rfl (lv_at hl 0 rfl) ?_
                  refine lv_dup hx hb dX7_step_170 rfl ?_
                  refine r_get kc7 X h 55 4 (by decide) rfl f239 (by decide) kv_378 rfl dX7_step_171 ?_
                  refine lv_iconst (v := 1) hx hb dX7_step_174 (by decide) ?_
                  obtain ⟨z244, e242, t243⟩ := x_add (x := C1) (y := (1 : Int32)) (a := (C1).toInt) (b := 1) rfl rfl (by omega) (by omega)
                  have n245 : z244.toNatClampNeg = C1.toNatClampNeg + 1 := cl_addn (x := C1) (y := (1 : Int32)) rfl rfl t243 (by omega) (by decide)
                  refine o_iadd (z := z244) hx hb dX7_step_175 e242 ?_
                  refine r_put kc7 X hD h 55 4 (by decide) rfl f239 (by decide) kv_378 rfl rfl rfl (Nat.le_of_ble_eq_true rfl) dX7_step_176 (fun H locs w246 e247 h => ?_)
                  have f248 : w246 55 = .inr (5, [.ref (ad 56), .ref (ad 57), .int z, .int C1, .int z244, .int 3, .int d]) := (congrFun e247 _).trans (va_up_self _ _ _)
                  have ok249 : OK cI cB cZ cO ad w246 := OK.up ok240 e247 (sT_mk (by omega) (by omega) (by omega) (by omega))
                  have kx250 : F5 w w246 := F5.up kx241 e247
                  exact e_v X h hr hlk dX7_step_179 ⟨ok249, kx250, ⟨_, _, _, _, f248, by omega, by omega, by omega, tok3 (by omega) (by omega) (by omega) (by omega) hi11 e137 (by omega) (by omega) (by omega) (by omega) (Or.inl ⟨by omega, by decide⟩)⟩⟩
          · have hc145 : ¬ (C1).toInt < (z).toInt := i_nlt hc145 rfl rfl
            refine lv_aload_n hx hb dX7_step_57 rfl (lv_at hl 0 rfl) ?_
            refine lv_iconst (v := 0) hx hb dX7_step_58 (by decide) ?_
            refine r_put kc7 X hD h 55 5 (by decide) rfl f142 (by decide) kv_392 rfl rfl rfl (Nat.le_of_ble_eq_true rfl) dX7_step_59 (fun H locs w251 e252 h => ?_)
            have f253 : w251 55 = .inr (5, [.ref (ad 56), .ref (ad 57), .int z, .int C1, .int C1, .int 0, .int d]) := (congrFun e252 _).trans (va_up_self _ _ _)
            have ok254 : OK cI cB cZ cO ad w251 := OK.up ok143 e252 (sT_mk (by omega) (by omega) (by omega) (by omega))
            have kx255 : F5 w w251 := F5.up kx144 e252
            refine lv_goto (tgt := 179) hx hb dX7_step_62 (by decide) ?_
            exact e_v X h hr hlk dX7_step_179 ⟨ok254, kx255, ⟨_, _, _, _, f253, by omega, by omega, by omega, tok0 (by omega) (by omega) (by omega) (by omega) hi11 rfl (by decide)⟩⟩
        · have hc139 : (v136).toInt = 32 := i_eq hc139 rfl rfl
          refine lv_aload_n hx hb dX7_step_25 rfl (lv_at hl 0 rfl) ?_
          refine lv_dup hx hb dX7_step_26 rfl ?_
          refine r_get kc7 X h 55 4 (by decide) rfl cf14 (by decide) kv_378 rfl dX7_step_27 ?_
          refine lv_iconst (v := 1) hx hb dX7_step_30 (by decide) ?_
          obtain ⟨z258, e256, t257⟩ := x_add (x := C1) (y := (1 : Int32)) (a := (C1).toInt) (b := 1) rfl rfl (by omega) (by omega)
          have n259 : z258.toNatClampNeg = C1.toNatClampNeg + 1 := cl_addn (x := C1) (y := (1 : Int32)) rfl rfl t257 (by omega) (by decide)
          refine o_iadd (z := z258) hx hb dX7_step_31 e256 ?_
          refine r_put kc7 X hD h 55 4 (by decide) rfl cf14 (by decide) kv_378 rfl rfl rfl (Nat.le_of_ble_eq_true rfl) dX7_step_32 (fun H locs w260 e261 h => ?_)
          have f262 : w260 55 = .inr (5, [.ref (ad 56), .ref (ad 57), .int z, .int a, .int z258, .int c0, .int d]) := (congrFun e261 _).trans (va_up_self _ _ _)
          have ok263 : OK cI cB cZ cO ad w260 := OK.up ok12 e261 (sT_mk (by omega) (by omega) (by omega) (by omega))
          have kx264 : F5 w w260 := F5.up kx13 e261
          refine lv_goto (tgt := 0) hx hb dX7_step_35 (by decide) ?_
          have f265 : w260 56 = .inl (cB, 150, .inl bs) := by rw [e261, va_up_ne _ _ (by decide)]; exact cf15
          exact ih5  z258 w260 _ _ _ (by omega) (by omega) (by omega) (by omega) (runB.succ hi11 (by omega) (by omega) e137 (sp_t (by omega))) ok263 kx264 f262 f265 (by omega) h (lv_sub hl [0] rfl)
  exact hloop3 151 b w _ _ _ (by omega) (by omega) (by omega) (by omega) runB.nil ok F5.rf pf p56 (by omega) h (lv_sub hl [0] rfl)
