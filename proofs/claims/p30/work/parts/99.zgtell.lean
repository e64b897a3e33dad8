set_option maxHeartbeats 4000000 in
set_option maxRecDepth 100000 in
theorem c_F_tell (l : Launch) (G : va_G) (cI cB cZ cO : ClassId) (ad : Nat → Nat) (w : Nat → va_E) (z a b c0 d : Int32) (bs : Nat → Int32) (ok : OK cI cB cZ cO ad w)   (pf : w 55 = .inr (5, [.ref (ad 56), .ref (ad 57), .int z, .int a, .int b, .int c0, .int d])) (hz1 : z.toInt ≤ 150) (p56 : w 56 = .inl (cB, 150, .inl bs)) (hd0 : 0 ≤ d.toInt) (hd1 : d.toInt ≤ 99) (hz0 : 0 ≤ z.toInt) : NI l G (tyq cI cB cZ cO) yX7_tell cX7_tell 4 (some .int) 6 127 74 ad w [.ref (ad 55), .ref (ad 14)] (fun r w1 => OK cI cB cZ cO ad w1 ∧ KX w w1 ∧ r.toInt = (runF bs z.toNatClampNeg 151 0 (begF 0) 0).1 ∧ (0 < r.toInt → RG cI ad w1 (runF bs z.toNatClampNeg 151 0 (begF 0) 0).2)) := by
  refine nk_i (own := "NoonShade$Text") rfl (by decide) (Nat.le_of_ble_eq_true rfl) ?_
  intro p e s m below meth c ls X hD hN hr hlk h hl
  have hx := X.1.1
  have hb := X.1.2.1
  have hown := X.1.2.2.2.1
  have hts := X.1.2.2.2.2
  have hl : lv_has ls 4 [(0, .ref (ad 55)), (1, .ref (ad 14))] := hl
  refine lv_aload_n hx hb dX7_tell_0 rfl (lv_at hl 1 rfl) ?_
  refine lv_iconst (v := 0) hx hb dX7_tell_1 (by decide) ?_
  obtain ⟨q5, q6, q7, q8, q9, f4, h10, h11, h12, h13⟩ := (show sI ad 14 (w 14) from ok 14 (by decide))
  have f14 : w 14 = .inr (1, [.int q5, .int q6, .int q7, .int q8, .int q9, .ref (ad 15), .ref (ad 16), .ref (ad 17), .ref (ad 18), .ref (ad 19), .ref (ad 20), .ref (ad 21), .ref (ad 23), .ref (ad 25)]) := f4
  refine n_Vv (na := 1) (As := [.int 0]) (rest := []) X hD hN h rfl (c_F_begin l G cI cB cZ cO ad w  ok (0 : Int32)  ) ⟨kv_431, kv_332, kv_333, kv_37, kv_334⟩ rfl ⟨by decide, by decide, by decide⟩ ⟨Nat.le_of_ble_eq_true rfl, Nat.le_of_ble_eq_true rfl⟩ ⟨Nat.zero_le _, Nat.zero_le _⟩ (by decide) f14 rfl rfl hl.1 rfl (Nat.le_of_ble_eq_true rfl) dX7_tell_2 (fun w2 H locs hp3 h => ?_)
  obtain ⟨ok15, kk16, hr17⟩ := hp3
  have kx18 : KX w w2 := kk16.1
  refine lv_aload_n hx hb dX7_tell_5 rfl (lv_at hl 0 rfl) ?_
  refine lv_iconst (v := 0) hx hb dX7_tell_6 (by decide) ?_
  have f19 : w2 55 = .inr (5, [.ref (ad 56), .ref (ad 57), .int z, .int a, .int b, .int c0, .int d]) := (kk16.2 55 (by decide)).trans pf
  refine r_put kc7 X hD h 55 4 (by decide) rfl f19 (by decide) kv_378 rfl rfl rfl (Nat.le_of_ble_eq_true rfl) dX7_tell_7 (fun H locs w20 e21 h => ?_)
  have f22 : w20 55 = .inr (5, [.ref (ad 56), .ref (ad 57), .int z, .int a, .int 0, .int c0, .int d]) := (congrFun e21 _).trans (va_up_self _ _ _)
  have ok23 : OK cI cB cZ cO ad w20 := OK.up ok15 e21 (sT_mk (by omega) (by omega) (by omega) (by omega))
  have kx24 : KX w w20 := KX.up kx18 e21 f19 rfl
  refine lv_iconst (v := 0) hx hb dX7_tell_10 (by decide) ?_
  refine lv_istore_n (lv' := [(2, .int 0), (0, .ref (ad 55)), (1, .ref (ad 14))]) hx hb dX7_tell_11 rfl hl (by decide) rfl (fun ls hl => ?_)
  have hloop32 : ∀ (d33 : Nat) (L25 : Int32) (C26 : Int32) (C27 : Int32) (C28 : Int32) (C29 : Int32) (C30 : Nat → Int32) (wL31 : Nat → va_E) (H : Heap) (locs : List Loc) (ls : Array Slot), 0 ≤ L25.toInt → L25.toInt ≤ 151 → 0 ≤ C27.toInt → C27.toInt ≤ 150 → 0 ≤ C29.toInt → C29.toInt ≤ 99 → C27.toInt ≤ z.toInt → (RG cI ad wL31 C30) → (runF bs z.toNatClampNeg (151 - L25.toNatClampNeg) C27.toNatClampNeg C30 L25.toNatClampNeg = runF bs z.toNatClampNeg 151 0 (begF 0) 0) → (L25.toInt = 0 → C30 = begF 0) → (L25.toInt ≤ C27.toInt) → OK cI cB cZ cO ad wL31 → KX w wL31 → wL31 55 = .inr (5, [.ref (ad 56), .ref (ad 57), .int z, .int C26, .int C27, .int C28, .int C29]) → wL31 56 = .inl (cB, 150, .inl bs) → 151 - L25.toInt < (d33 : Int) → St G 74 ad (wA 74 ad s.heap.size) s.heap wL31 H locs → lv_has ls 4 [(2, .int L25), (0, .ref (ad 55)), (1, .ref (ad 14))] → W p l e { frames := 6, cells := 0, slots := 0, locals := 127 } s m [.ref (ad 55), .ref (ad 14)].toArray below meth c H locs 0 0 (MQ below (va_Qi (fun r w1 => OK cI cB cZ cO ad w1 ∧ KX w w1 ∧ r.toInt = (runF bs z.toNatClampNeg 151 0 (begF 0) 0).1 ∧ (0 < r.toInt → RG cI ad w1 (runF bs z.toNatClampNeg 151 0 (begF 0) 0).2)) (Aft G 74 ad) (wA 74 ad s.heap.size)) [.ref (ad 55), .ref (ad 14)].toArray s 0 0 (wA 74 ad s.heap.size)) (F0 m 12 ls []) := by
    intro d33
    induction d33 with
    | zero => intro L25 C26 C27 C28 C29 C30 wL31 H locs ls hi36 hi37 hi38 hi39 hi40 hi41 hi42 hi43 hi44 hi45 hi46 ok47 kx48 cf49 cf50 hm35 h hl; exfalso; omega
    | succ d33 ih34 =>
      intro L25 C26 C27 C28 C29 C30 wL31 H locs ls hi36 hi37 hi38 hi39 hi40 hi41 hi42 hi43 hi44 hi45 hi46 ok47 kx48 cf49 cf50 hm35 h hl
      obtain ⟨so51, ho52, mi53, ca54, ja55, ck56, hh57, jk58, co59, p60, p61, p62, p63, p64, p65, p66, hG67⟩ := id hi43
      have p60 : wL31 14 = .inr (1, [.int ho52, .int so51, .int mi53, .int ca54, .int ja55, .ref (ad 15), .ref (ad 16), .ref (ad 17), .ref (ad 18), .ref (ad 19), .ref (ad 20), .ref (ad 21), .ref (ad 23), .ref (ad 25)]) := p60
      obtain ⟨hG68, hG69, hG70, hG71, hG72, hG73, hG74, hG75, hG76, hG77, hG78⟩ := id hG67
      have p79 : rgA 0 9 hh57 := sA_pred (show sA cI 7 (rgA 0 9) (wL31 16) from ok47 16 (by decide)) p62
      have p80 : rgA 0 60 co59 := sA_pred (show sA cI 4 (rgA 0 60) (wL31 19) from ok47 19 (by decide)) p64
      have n0_ := congrArg Int32.toInt hG70
      have n1_ := congrArg Int32.toInt hG71
      have ci_ := cl_of (x := L25) (by omega)
      refine lv_iload_n hx hb dX7_tell_12 rfl (lv_at hl 0 rfl) ?_
      refine lv_sipush (v := 150) hx hb dX7_tell_13 (by decide) ?_
      refine lv_icmp_gt (tgt := 94) hx hb dX7_tell_16 (by decide) (fun hc81 => ?_) (fun hc81 => ?_)
      · have hc81 : 150 < (L25).toInt := i_lt hc81 rfl rfl
        exfalso; omega
      · have hc81 : ¬ 150 < (L25).toInt := i_nlt hc81 rfl rfl
        refine lv_aload_n hx hb dX7_tell_19 rfl (lv_at hl 1 rfl) ?_
        refine n_Vv (na := 0) (As := []) (rest := []) X hD hN h rfl (c_F_step l G cI cB cZ cO ad wL31 z C26 C27 C28 C29 bs ok47 cf49 (by omega) cf50 (by first | omega | decide | (simp only [k00]; omega)) (by first | omega | decide | (simp only [k00]; omega)) (by first | omega | decide | (simp only [k00]; omega)) (by first | omega | decide | (simp only [k00]; omega))) ⟨kv_417, kv_418, kv_419, kv_388, kv_420⟩ rfl ⟨by decide, by decide, by decide⟩ ⟨Nat.le_of_ble_eq_true rfl, Nat.le_of_ble_eq_true rfl⟩ ⟨Nat.zero_le _, Nat.zero_le _⟩ (by decide) cf49 rfl rfl hl.1 rfl (Nat.le_of_ble_eq_true rfl) dX7_tell_20 (fun w83 H locs hp84 h => ?_)
        obtain ⟨ok85, kk86, hr87⟩ := hp84
        obtain ⟨y88, y89, y90, y91, h92, h93, h94, h95, h96⟩ := hr87
        have q97 := txd ok85 h92
        have kx98 : KX w w83 := KX.tr kx48 (F5.x kk86 cf49 h92)
        have hRG99 : RG cI ad w83 C30 := RG.f57 hi43 kk86.f57
        refine lv_aload_n hx hb dX7_tell_23 rfl (lv_at hl 1 rfl) ?_
        refine r_get kc7 X h 55 5 (by decide) rfl h92 (by decide) kv_392 rfl dX7_tell_24 ?_
        refine lv_if_ne (tgt := 36) hx hb dX7_tell_27 (by decide) (fun hc100 => ?_) (fun hc100 => ?_)
        · have hc100 : ¬ (y90).toInt = 0 := i_ne hc100 rfl rfl
          refine lv_aload_n hx hb dX7_tell_36 rfl (lv_at hl 1 rfl) ?_
          refine r_get kc7 X h 55 5 (by decide) rfl h92 (by decide) kv_392 rfl dX7_tell_37 ?_
          refine lv_iconst (v := 1) hx hb dX7_tell_40 (by decide) ?_
          refine lv_icmp_ne (tgt := 51) hx hb dX7_tell_41 (by decide) (fun hc101 => ?_) (fun hc101 => ?_)
          · have hc101 : ¬ (y90).toInt = 1 := i_ne hc101 rfl rfl
            refine lv_iconst (v := (-1)) hx hb dX7_tell_51 (by decide) ?_
            refine lv_istore_n (lv' := [(3, .int (-1)), (2, .int L25), (0, .ref (ad 55)), (1, .ref (ad 14))]) hx hb dX7_tell_52 rfl hl (by decide) rfl (fun ls hl => ?_)
            refine lv_aload_n hx hb dX7_tell_53 rfl (lv_at hl 3 rfl) ?_
            refine lv_iload_n hx hb dX7_tell_54 rfl (lv_at hl 0 rfl) ?_
            refine lv_iload_n hx hb dX7_tell_55 rfl (lv_at hl 1 rfl) ?_
            refine lv_if_ne (tgt := 63) hx hb dX7_tell_56 (by decide) (fun hc102 => ?_) (fun hc102 => ?_)
            · have hc102 : ¬ (L25).toInt = 0 := i_ne hc102 rfl rfl
              refine lv_iconst (v := 0) hx hb dX7_tell_63 (by decide) ?_
              have f103 : w83 14 = .inr (1, [.int ho52, .int so51, .int mi53, .int ca54, .int ja55, .ref (ad 15), .ref (ad 16), .ref (ad 17), .ref (ad 18), .ref (ad 19), .ref (ad 20), .ref (ad 21), .ref (ad 23), .ref (ad 25)]) := (kk86 14 (by decide)).trans p60
              refine n_Si (na := 3) (As := [.ref (ad 14), .int (-1), .int 0]) (rest := []) X hD hN h (c_F_mayBegin0 l G cI cB cZ cO ad w83 ho52 so51 mi53 ca54 ja55 ((-1) : Int32) (by decide) (by decide) f103) ⟨kv_432, kv_433, kv_388, kv_434⟩ ⟨by decide, by decide, by decide⟩ ⟨Nat.le_of_ble_eq_true rfl, Nat.le_of_ble_eq_true rfl⟩ ⟨Nat.zero_le _, Nat.zero_le _⟩ rfl hl.1 rfl (Nat.le_of_ble_eq_true rfl) dX7_tell_64 (fun r104 w105 H locs hp106 h => ?_)
              obtain ⟨rfl, hr107⟩ := hp106
              rcases hr107 with ⟨hm108, rfl⟩ | ⟨hm108, rfl⟩
              · exfalso; have q8 : (-1 : Int32).toInt = -1 := rfl; omega
              · refine lv_if_eq (tgt := 94) hx hb dX7_tell_67 (by decide) (fun _ => ?_) (fun hc => absurd (by decide) hc)
                refine lv_bipush (v := (-10)) hx hb dX7_tell_94 (by decide) ?_
                refine lv_aload_n hx hb dX7_tell_96 rfl (lv_at hl 2 rfl) ?_
                refine r_get kc7 X h 55 3 (by decide) rfl h92 (by decide) kv_379 rfl dX7_tell_97 ?_
                obtain ⟨z111, e109, t110⟩ := x_sub (x := ((-10) : Int32)) (y := y88) (a := (-10)) (b := (y88).toInt) rfl rfl (by omega) (by omega)
                refine o_isub (z := z111) hx hb dX7_tell_100 e109 ?_
                have hrun112 : runF bs z.toNatClampNeg 151 0 (begF 0) 0 = (-10 - (y88.toNatClampNeg : Int), C30) := by
                  have cs_ := cl_of (x := y88) (by omega)
                  have c3 : 151 - L25.toNatClampNeg = (150 - L25.toNatClampNeg) + 1 := by omega
                  have hi9 : itemF bs z.toNatClampNeg C27.toNatClampNeg C30 (L25.toNatClampNeg = 0) = .inl y88.toNatClampNeg := by rw [item_none (h96.wd0 (by omega)) _ (by omega) (by omega) (by omega) (by omega), h96.s]
                  rw [← hi44, c3, runF_fault (fun q9 => by have q1 := q9.1; rw [h96.k] at q1; have q2 := q9.2; omega) hi9]
                have cs9 := cl_of (x := y88) (by omega)
                exact e_i X h hr hlk dX7_tell_101 ⟨ok85, kx98, ⟨by rw [hrun112]; omega, fun h9 => by exfalso; omega⟩⟩
            · have hc102 : (L25).toInt = 0 := i_eq hc102 rfl rfl
              refine lv_iconst (v := 1) hx hb dX7_tell_59 (by decide) ?_
              refine lv_goto (tgt := 64) hx hb dX7_tell_60 (by decide) ?_
              have f113 : w83 14 = .inr (1, [.int ho52, .int so51, .int mi53, .int ca54, .int ja55, .ref (ad 15), .ref (ad 16), .ref (ad 17), .ref (ad 18), .ref (ad 19), .ref (ad 20), .ref (ad 21), .ref (ad 23), .ref (ad 25)]) := (kk86 14 (by decide)).trans p60
              refine n_Si (na := 3) (As := [.ref (ad 14), .int (-1), .int 1]) (rest := []) X hD hN h (c_F_mayBegin1 l G cI cB cZ cO ad w83 ho52 so51 mi53 ca54 ja55 ((-1) : Int32) (by decide) (by decide) f113) ⟨kv_432, kv_433, kv_388, kv_434⟩ ⟨by decide, by decide, by decide⟩ ⟨Nat.le_of_ble_eq_true rfl, Nat.le_of_ble_eq_true rfl⟩ ⟨Nat.zero_le _, Nat.zero_le _⟩ rfl hl.1 rfl (Nat.le_of_ble_eq_true rfl) dX7_tell_64 (fun r114 w115 H locs hp116 h => ?_)
              obtain ⟨rfl, hr117⟩ := hp116
              rcases hr117 with ⟨hm118, rfl⟩ | ⟨hm118, rfl⟩
              · exfalso; have q8 : (-1 : Int32).toInt = -1 := rfl; omega
              · refine lv_if_eq (tgt := 94) hx hb dX7_tell_67 (by decide) (fun _ => ?_) (fun hc => absurd (by decide) hc)
                refine lv_bipush (v := (-10)) hx hb dX7_tell_94 (by decide) ?_
                refine lv_aload_n hx hb dX7_tell_96 rfl (lv_at hl 2 rfl) ?_
                refine r_get kc7 X h 55 3 (by decide) rfl h92 (by decide) kv_379 rfl dX7_tell_97 ?_
                obtain ⟨z121, e119, t120⟩ := x_sub (x := ((-10) : Int32)) (y := y88) (a := (-10)) (b := (y88).toInt) rfl rfl (by omega) (by omega)
                refine o_isub (z := z121) hx hb dX7_tell_100 e119 ?_
                have hrun122 : runF bs z.toNatClampNeg 151 0 (begF 0) 0 = (-10 - (y88.toNatClampNeg : Int), C30) := by
                  have cs_ := cl_of (x := y88) (by omega)
                  have c3 : 151 - L25.toNatClampNeg = (150 - L25.toNatClampNeg) + 1 := by omega
                  have hi9 : itemF bs z.toNatClampNeg C27.toNatClampNeg C30 (L25.toNatClampNeg = 0) = .inl y88.toNatClampNeg := by rw [item_none (h96.wd0 (by omega)) _ (by omega) (by omega) (by omega) (by omega), h96.s]
                  rw [← hi44, c3, runF_fault (fun q9 => by have q1 := q9.1; rw [h96.k] at q1; have q2 := q9.2; omega) hi9]
                have cs9 := cl_of (x := y88) (by omega)
                exact e_i X h hr hlk dX7_tell_101 ⟨ok85, kx98, ⟨by rw [hrun122]; omega, fun h9 => by exfalso; omega⟩⟩
          · have hc101 : (y90).toInt = 1 := i_eq hc101 rfl rfl
            refine lv_aload_n hx hb dX7_tell_44 rfl (lv_at hl 1 rfl) ?_
            have f123 : w83 56 = .inl (cB, 150, .inl bs) := (kk86 56 (by decide)).trans cf50
            refine n_Vi (na := 0) (As := []) (rest := []) X hD hN h rfl (c_F_wordNumber l G cI cB cZ cO ad w83 z y88 y89 y90 y91 bs ok85 h92 (by omega) f123 (by first | omega | decide | (simp only [k00]; omega)) (by first | omega | decide | (simp only [k00]; omega)) (by first | omega | decide | (simp only [k00]; omega))) ⟨kv_435, kv_436, kv_437, kv_388, kv_438⟩ rfl ⟨by decide, by decide, by decide⟩ ⟨Nat.le_of_ble_eq_true rfl, Nat.le_of_ble_eq_true rfl⟩ ⟨Nat.zero_le _, Nat.zero_le _⟩ (by decide) h92 rfl rfl hl.1 rfl (Nat.le_of_ble_eq_true rfl) dX7_tell_45 (fun r124 w125 H locs hp126 h => ?_)
            obtain ⟨rfl, h127, h128, hwn129⟩ := hp126
            refine lv_goto (tgt := 52) hx hb dX7_tell_48 (by decide) ?_
            refine lv_istore_n (lv' := [(3, .int r124), (2, .int L25), (0, .ref (ad 55)), (1, .ref (ad 14))]) hx hb dX7_tell_52 rfl hl (by decide) rfl (fun ls hl => ?_)
            refine lv_aload_n hx hb dX7_tell_53 rfl (lv_at hl 3 rfl) ?_
            refine lv_iload_n hx hb dX7_tell_54 rfl (lv_at hl 0 rfl) ?_
            refine lv_iload_n hx hb dX7_tell_55 rfl (lv_at hl 1 rfl) ?_
            refine lv_if_ne (tgt := 63) hx hb dX7_tell_56 (by decide) (fun hc130 => ?_) (fun hc130 => ?_)
            · have hc130 : ¬ (L25).toInt = 0 := i_ne hc130 rfl rfl
              refine lv_iconst (v := 0) hx hb dX7_tell_63 (by decide) ?_
              have f131 : w83 14 = .inr (1, [.int ho52, .int so51, .int mi53, .int ca54, .int ja55, .ref (ad 15), .ref (ad 16), .ref (ad 17), .ref (ad 18), .ref (ad 19), .ref (ad 20), .ref (ad 21), .ref (ad 23), .ref (ad 25)]) := (kk86 14 (by decide)).trans p60
              refine n_Si (na := 3) (As := [.ref (ad 14), .int r124, .int 0]) (rest := []) X hD hN h (c_F_mayBegin0 l G cI cB cZ cO ad w83 ho52 so51 mi53 ca54 ja55 r124 (by omega) (by omega) f131) ⟨kv_432, kv_433, kv_388, kv_434⟩ ⟨by decide, by decide, by decide⟩ ⟨Nat.le_of_ble_eq_true rfl, Nat.le_of_ble_eq_true rfl⟩ ⟨Nat.zero_le _, Nat.zero_le _⟩ rfl hl.1 rfl (Nat.le_of_ble_eq_true rfl) dX7_tell_64 (fun r132 w133 H locs hp134 h => ?_)
              obtain ⟨rfl, hr135⟩ := hp134
              rcases hr135 with ⟨hm136, rfl⟩ | ⟨hm136, rfl⟩
              · refine lv_if_eq (tgt := 94) hx hb dX7_tell_67 (by decide) (fun hc => absurd hc (by decide)) (fun _ => ?_)
                refine lv_aload_n hx hb dX7_tell_70 rfl (lv_at hl 2 rfl) ?_
                refine lv_aload_n hx hb dX7_tell_71 rfl (lv_at hl 3 rfl) ?_
                refine lv_iload_n hx hb dX7_tell_72 rfl (lv_at hl 0 rfl) ?_
                have hq137 : r124 = 0 ∨ r124 = 1 ∨ r124 = 2 ∨ r124 = 3 ∨ r124 = 4 ∨ r124 = 5 := by simp only [fa_eq]; simp only [show ((0 : Int32).toInt = 0) from rfl, show ((1 : Int32).toInt = 1) from rfl, show ((2 : Int32).toInt = 2) from rfl, show ((3 : Int32).toInt = 3) from rfl, show ((4 : Int32).toInt = 4) from rfl, show ((5 : Int32).toInt = 5) from rfl]; omega
                rcases hq137 with rfl | rfl | rfl | rfl | rfl | rfl
                · have kw0 : (0 : Int32).toInt = 0 := rfl
                  exfalso; omega
                · have kw1 : (1 : Int32).toInt = 1 := rfl
                  obtain ⟨g139, f138, p140⟩ := (show sA cI 3 (rgA 0 99) (w83 57) from ok85 57 (by decide))
                  have f141 : w83 57 = .inl (cI, 3, .inl g139) := f138
                  refine n_Vi (na := 2) (As := [.ref (ad 14), .int 1]) (rest := []) X hD hN h rfl (c_F_takeNumbers1 l G cI cB cZ cO ad w83 z y88 y89 y90 y91 bs g139 C30 ok85 h92 (by omega) f123 (by omega) (by omega) (by omega) (by omega) f141 p140 hRG99) ⟨kv_439, kv_440, kv_441, kv_388, kv_442⟩ rfl ⟨by decide, by decide, by decide⟩ ⟨Nat.le_of_ble_eq_true rfl, Nat.le_of_ble_eq_true rfl⟩ ⟨Nat.zero_le _, Nat.zero_le _⟩ (by decide) h92 rfl rfl hl.1 rfl (Nat.le_of_ble_eq_true rfl) dX7_tell_73 (fun r142 w143 H locs hp144 h => ?_)
                  obtain ⟨ok145, kk146, hr147, hRG148⟩ := hp144
                  obtain ⟨y149, y150, y151, y152, h153, h154, h155, h156, hit157⟩ := hr147
                  have q158 := txd ok145 h153
                  have kx159 : KX w w143 := KX.tr kx98 (F57.x kk146 h92 h153)
                  rcases hit157 with ⟨⟨g160, f161, hn162, hit163⟩, rfl⟩ | ⟨hit163, rfl⟩
                  · have p164 : rgA 0 99 g160 := nm99 ok145 f161
                    refine lv_if_ne (tgt := 82) hx hb dX7_tell_76 (by decide) (fun _ => ?_) (fun hc => absurd hc (by decide))
                    refine lv_aload_n hx hb dX7_tell_82 rfl (lv_at hl 2 rfl) ?_
                    refine lv_aload_n hx hb dX7_tell_83 rfl (lv_at hl 3 rfl) ?_
                    refine lv_iload_n hx hb dX7_tell_84 rfl (lv_at hl 0 rfl) ?_
                    refine n_Vv (na := 2) (As := [.ref (ad 14), .int 1]) (rest := []) X hD hN h rfl (c_F_carryOut1 l G cI cB cZ cO ad w143 g160 _ _ _ _ _ C30 ok145 f161 p164 h153 hRG148 (by omega) hn162) ⟨kv_443, kv_444, kv_445, kv_388, kv_446⟩ rfl ⟨by decide, by decide, by decide⟩ ⟨Nat.le_of_ble_eq_true rfl, Nat.le_of_ble_eq_true rfl⟩ ⟨Nat.zero_le _, Nat.zero_le _⟩ (by decide) h153 rfl rfl hl.1 rfl (Nat.le_of_ble_eq_true rfl) dX7_tell_85 (fun w166 H locs hp167 h => ?_)
                    obtain ⟨ok168, kk169, hRG170⟩ := hp167
                    have kx171 : KX w w166 := KX.tr kx159 kk169.1
                    obtain ⟨z172, e173, t174⟩ := x_add (x := L25) (y := 1) (a := L25.toInt) (b := 1) rfl rfl (by omega) (by omega)
                    have n175 : z172.toNatClampNeg = L25.toNatClampNeg + 1 := cl_addn (x := L25) (y := 1) rfl rfl t174 (by omega) (by decide)
                    refine lv_iinc (v := z172) (lv' := [(2, .int z172), (3, .int 1), (0, .ref (ad 55)), (1, .ref (ad 14))]) hx hb dX7_tell_88 hl (k := 1) rfl e173 (by decide) rfl (fun ls hl => ?_)
                    refine lv_goto (tgt := 12) hx hb dX7_tell_91 (by decide) ?_
                    have f176 : w166 55 = .inr (5, [.ref (ad 56), .ref (ad 57), .int z, .int y149, .int y150, .int y151, .int y152]) := (kk169.2 55 (by decide)).trans h153
                    have hb177 : runF bs z.toNatClampNeg (151 - z172.toNatClampNeg) y150.toNatClampNeg (layCF C30 (g160 0) (g160 1) (g160 2)) z172.toNatClampNeg = runF bs z.toNatClampNeg 151 0 (begF 0) 0 := by
                      rw [← hi44, n175]
                      have c3 : 151 - L25.toNatClampNeg = (150 - L25.toNatClampNeg) + 1 := by omega
                      have c4 : 151 - (L25.toNatClampNeg + 1) = 150 - L25.toNatClampNeg := by omega
                      have hi9 : itemF bs z.toNatClampNeg C27.toNatClampNeg C30 (L25.toNatClampNeg = 0) = .inr (y150.toNatClampNeg, layCF C30 (g160 0) (g160 1) (g160 2)) := by rw [item_1 (h96.wd1 (by omega) hwn129) (by omega) (by omega), h96.e]; exact hit163
                      rw [c3, c4, runF_next (fun q9 => by have q1 := q9.1; rw [h96.k] at q1; have q2 := q9.2; omega) hi9]
                    have hp178 : z172.toInt ≤ y150.toInt := by
                      have ca_ := cl_of (x := C27) (by omega)
                      have cz_ := cl_of (x := z) (by omega)
                      have cb_ := cl_of (x := y89) (by omega)
                      have cn_ := cl_of (x := y150) (by omega)
                      have t1 := tS_ge (bs := bs) (len := z.toNatClampNeg) (p := C27.toNatClampNeg) (by omega)
                      have t2 := tE_ge (bs := bs) (len := z.toNatClampNeg) (p := C27.toNatClampNeg) (by omega)
                      have t3 := t2.2.2 (by rw [h96.k]; omega)
                      have t4 := it1_ge (by rw [← h96.e]; omega) hit163
                      rw [h96.e] at t2 t3
                      omega
                    have f179 : w143 56 = .inl (cB, 150, .inl bs) := (kk146 56 (by decide) (by decide)).trans f123
                    have f180 : w166 56 = .inl (cB, 150, .inl bs) := (kk169.2 56 (by decide)).trans f179
                    exact ih34  z172 y149 y150 y151 y152 (layCF C30 (g160 0) (g160 1) (g160 2)) w166 _ _ _ (by omega) (by omega) (by omega) (by omega) (by omega) (by omega) (by omega) hRG170 hb177 (fun h9 => by omega) hp178 ok168 kx171 f176 f180 (by omega) h (lv_sub hl [0, 2, 3] rfl)
                  · refine lv_if_ne (tgt := 82) hx hb dX7_tell_76 (by decide) (fun hc => absurd (by decide) hc) (fun _ => ?_)
                    refine lv_goto (tgt := 94) hx hb dX7_tell_79 (by decide) ?_
                    refine lv_bipush (v := (-10)) hx hb dX7_tell_94 (by decide) ?_
                    refine lv_aload_n hx hb dX7_tell_96 rfl (lv_at hl 2 rfl) ?_
                    refine r_get kc7 X h 55 3 (by decide) rfl h153 (by decide) kv_379 rfl dX7_tell_97 ?_
                    obtain ⟨z183, e181, t182⟩ := x_sub (x := ((-10) : Int32)) (y := y149) (a := (-10)) (b := (y149).toInt) rfl rfl (by omega) (by omega)
                    refine o_isub (z := z183) hx hb dX7_tell_100 e181 ?_
                    have hrun184 : runF bs z.toNatClampNeg 151 0 (begF 0) 0 = (-10 - (y149.toNatClampNeg : Int), C30) := by
                      have cs_ := cl_of (x := y149) (by omega)
                      have c3 : 151 - L25.toNatClampNeg = (150 - L25.toNatClampNeg) + 1 := by omega
                      have hi9 : itemF bs z.toNatClampNeg C27.toNatClampNeg C30 (L25.toNatClampNeg = 0) = .inl y149.toNatClampNeg := by rw [item_1 (h96.wd1 (by omega) hwn129) (by omega) (by omega), h96.e]; exact hit163
                      rw [← hi44, c3, runF_fault (fun q9 => by have q1 := q9.1; rw [h96.k] at q1; have q2 := q9.2; omega) hi9]
                    have cs9 := cl_of (x := y149) (by omega)
                    exact e_i X h hr hlk dX7_tell_101 ⟨ok145, kx159, ⟨by rw [hrun184]; omega, fun h9 => by exfalso; omega⟩⟩
                · have kw2 : (2 : Int32).toInt = 2 := rfl
                  obtain ⟨g186, f185, p187⟩ := (show sA cI 3 (rgA 0 99) (w83 57) from ok85 57 (by decide))
                  have f188 : w83 57 = .inl (cI, 3, .inl g186) := f185
                  refine n_Vi (na := 2) (As := [.ref (ad 14), .int 2]) (rest := []) X hD hN h rfl (c_F_takeNumbers2 l G cI cB cZ cO ad w83 z y88 y89 y90 y91 bs g186 C30 ok85 h92 (by omega) f123 (by omega) (by omega) (by omega) (by omega) f188 p187 hRG99) ⟨kv_439, kv_440, kv_441, kv_388, kv_442⟩ rfl ⟨by decide, by decide, by decide⟩ ⟨Nat.le_of_ble_eq_true rfl, Nat.le_of_ble_eq_true rfl⟩ ⟨Nat.zero_le _, Nat.zero_le _⟩ (by decide) h92 rfl rfl hl.1 rfl (Nat.le_of_ble_eq_true rfl) dX7_tell_73 (fun r189 w190 H locs hp191 h => ?_)
                  obtain ⟨ok192, kk193, hr194, hRG195⟩ := hp191
                  obtain ⟨y196, y197, y198, y199, h200, h201, h202, h203, hit204⟩ := hr194
                  have q205 := txd ok192 h200
                  have kx206 : KX w w190 := KX.tr kx98 (F57.x kk193 h92 h200)
                  rcases hit204 with ⟨⟨g207, f208, hn209, hit210⟩, rfl⟩ | ⟨hit210, rfl⟩
                  · have p211 : rgA 0 99 g207 := nm99 ok192 f208
                    refine lv_if_ne (tgt := 82) hx hb dX7_tell_76 (by decide) (fun _ => ?_) (fun hc => absurd hc (by decide))
                    refine lv_aload_n hx hb dX7_tell_82 rfl (lv_at hl 2 rfl) ?_
                    refine lv_aload_n hx hb dX7_tell_83 rfl (lv_at hl 3 rfl) ?_
                    refine lv_iload_n hx hb dX7_tell_84 rfl (lv_at hl 0 rfl) ?_
                    refine n_Vv (na := 2) (As := [.ref (ad 14), .int 2]) (rest := []) X hD hN h rfl (c_F_carryOut2 l G cI cB cZ cO ad w190 g207 _ _ _ _ _ C30 ok192 f208 p211 h200 hRG195 (by omega)) ⟨kv_443, kv_444, kv_445, kv_388, kv_446⟩ rfl ⟨by decide, by decide, by decide⟩ ⟨Nat.le_of_ble_eq_true rfl, Nat.le_of_ble_eq_true rfl⟩ ⟨Nat.zero_le _, Nat.zero_le _⟩ (by decide) h200 rfl rfl hl.1 rfl (Nat.le_of_ble_eq_true rfl) dX7_tell_85 (fun w213 H locs hp214 h => ?_)
                    obtain ⟨ok215, kk216, hRG217⟩ := hp214
                    have kx218 : KX w w213 := KX.tr kx206 kk216.1
                    obtain ⟨z219, e220, t221⟩ := x_add (x := L25) (y := 1) (a := L25.toInt) (b := 1) rfl rfl (by omega) (by omega)
                    have n222 : z219.toNatClampNeg = L25.toNatClampNeg + 1 := cl_addn (x := L25) (y := 1) rfl rfl t221 (by omega) (by decide)
                    refine lv_iinc (v := z219) (lv' := [(2, .int z219), (3, .int 2), (0, .ref (ad 55)), (1, .ref (ad 14))]) hx hb dX7_tell_88 hl (k := 1) rfl e220 (by decide) rfl (fun ls hl => ?_)
                    refine lv_goto (tgt := 12) hx hb dX7_tell_91 (by decide) ?_
                    have f223 : w213 55 = .inr (5, [.ref (ad 56), .ref (ad 57), .int z, .int y196, .int y197, .int y198, .int y199]) := (kk216.2 55 (by decide)).trans h200
                    have hb224 : runF bs z.toNatClampNeg (151 - z219.toNatClampNeg) y197.toNatClampNeg (layJF C30 (g207 0)) z219.toNatClampNeg = runF bs z.toNatClampNeg 151 0 (begF 0) 0 := by
                      rw [← hi44, n222]
                      have c3 : 151 - L25.toNatClampNeg = (150 - L25.toNatClampNeg) + 1 := by omega
                      have c4 : 151 - (L25.toNatClampNeg + 1) = 150 - L25.toNatClampNeg := by omega
                      have hi9 : itemF bs z.toNatClampNeg C27.toNatClampNeg C30 (L25.toNatClampNeg = 0) = .inr (y197.toNatClampNeg, layJF C30 (g207 0)) := by rw [item_2 (h96.wd1 (by omega) hwn129) (by omega) (by omega), h96.e]; exact hit210
                      rw [c3, c4, runF_next (fun q9 => by have q1 := q9.1; rw [h96.k] at q1; have q2 := q9.2; omega) hi9]
                    have hp225 : z219.toInt ≤ y197.toInt := by
                      have ca_ := cl_of (x := C27) (by omega)
                      have cz_ := cl_of (x := z) (by omega)
                      have cb_ := cl_of (x := y89) (by omega)
                      have cn_ := cl_of (x := y197) (by omega)
                      have t1 := tS_ge (bs := bs) (len := z.toNatClampNeg) (p := C27.toNatClampNeg) (by omega)
                      have t2 := tE_ge (bs := bs) (len := z.toNatClampNeg) (p := C27.toNatClampNeg) (by omega)
                      have t3 := t2.2.2 (by rw [h96.k]; omega)
                      have t4 := it2_ge (by rw [← h96.e]; omega) hit210
                      rw [h96.e] at t2 t3
                      omega
                    have f226 : w190 56 = .inl (cB, 150, .inl bs) := (kk193 56 (by decide) (by decide)).trans f123
                    have f227 : w213 56 = .inl (cB, 150, .inl bs) := (kk216.2 56 (by decide)).trans f226
                    exact ih34  z219 y196 y197 y198 y199 (layJF C30 (g207 0)) w213 _ _ _ (by omega) (by omega) (by omega) (by omega) (by omega) (by omega) (by omega) hRG217 hb224 (fun h9 => by omega) hp225 ok215 kx218 f223 f227 (by omega) h (lv_sub hl [0, 2, 3] rfl)
                  · refine lv_if_ne (tgt := 82) hx hb dX7_tell_76 (by decide) (fun hc => absurd (by decide) hc) (fun _ => ?_)
                    refine lv_goto (tgt := 94) hx hb dX7_tell_79 (by decide) ?_
                    refine lv_bipush (v := (-10)) hx hb dX7_tell_94 (by decide) ?_
                    refine lv_aload_n hx hb dX7_tell_96 rfl (lv_at hl 2 rfl) ?_
                    refine r_get kc7 X h 55 3 (by decide) rfl h200 (by decide) kv_379 rfl dX7_tell_97 ?_
                    obtain ⟨z230, e228, t229⟩ := x_sub (x := ((-10) : Int32)) (y := y196) (a := (-10)) (b := (y196).toInt) rfl rfl (by omega) (by omega)
                    refine o_isub (z := z230) hx hb dX7_tell_100 e228 ?_
                    have hrun231 : runF bs z.toNatClampNeg 151 0 (begF 0) 0 = (-10 - (y196.toNatClampNeg : Int), C30) := by
                      have cs_ := cl_of (x := y196) (by omega)
                      have c3 : 151 - L25.toNatClampNeg = (150 - L25.toNatClampNeg) + 1 := by omega
                      have hi9 : itemF bs z.toNatClampNeg C27.toNatClampNeg C30 (L25.toNatClampNeg = 0) = .inl y196.toNatClampNeg := by rw [item_2 (h96.wd1 (by omega) hwn129) (by omega) (by omega), h96.e]; exact hit210
                      rw [← hi44, c3, runF_fault (fun q9 => by have q1 := q9.1; rw [h96.k] at q1; have q2 := q9.2; omega) hi9]
                    have cs9 := cl_of (x := y196) (by omega)
                    exact e_i X h hr hlk dX7_tell_101 ⟨ok192, kx206, ⟨by rw [hrun231]; omega, fun h9 => by exfalso; omega⟩⟩
                · have kw3 : (3 : Int32).toInt = 3 := rfl
                  obtain ⟨g233, f232, p234⟩ := (show sA cI 3 (rgA 0 99) (w83 57) from ok85 57 (by decide))
                  have f235 : w83 57 = .inl (cI, 3, .inl g233) := f232
                  refine n_Vi (na := 2) (As := [.ref (ad 14), .int 3]) (rest := []) X hD hN h rfl (c_F_takeNumbers3 l G cI cB cZ cO ad w83 z y88 y89 y90 y91 bs g233 C30 ok85 h92 (by omega) f123 (by omega) (by omega) (by omega) (by omega) f235 p234 hRG99) ⟨kv_439, kv_440, kv_441, kv_388, kv_442⟩ rfl ⟨by decide, by decide, by decide⟩ ⟨Nat.le_of_ble_eq_true rfl, Nat.le_of_ble_eq_true rfl⟩ ⟨Nat.zero_le _, Nat.zero_le _⟩ (by decide) h92 rfl rfl hl.1 rfl (Nat.le_of_ble_eq_true rfl) dX7_tell_73 (fun r236 w237 H locs hp238 h => ?_)
                  obtain ⟨ok239, kk240, hr241, hRG242⟩ := hp238
                  obtain ⟨y243, y244, y245, y246, h247, h248, h249, h250, hit251⟩ := hr241
                  have q252 := txd ok239 h247
                  have kx253 : KX w w237 := KX.tr kx98 (F57.x kk240 h92 h247)
                  rcases hit251 with ⟨⟨g254, f255, hn256, hit257⟩, rfl⟩ | ⟨hit257, rfl⟩
                  · have p258 : rgA 0 99 g254 := nm99 ok239 f255
                    refine lv_if_ne (tgt := 82) hx hb dX7_tell_76 (by decide) (fun _ => ?_) (fun hc => absurd hc (by decide))
                    refine lv_aload_n hx hb dX7_tell_82 rfl (lv_at hl 2 rfl) ?_
                    refine lv_aload_n hx hb dX7_tell_83 rfl (lv_at hl 3 rfl) ?_
                    refine lv_iload_n hx hb dX7_tell_84 rfl (lv_at hl 0 rfl) ?_
                    refine n_Vv (na := 2) (As := [.ref (ad 14), .int 3]) (rest := []) X hD hN h rfl (c_F_carryOut3 l G cI cB cZ cO ad w237 g254 _ _ _ _ _ C30 ok239 f255 p258 h247 hRG242 hn256) ⟨kv_443, kv_444, kv_445, kv_388, kv_446⟩ rfl ⟨by decide, by decide, by decide⟩ ⟨Nat.le_of_ble_eq_true rfl, Nat.le_of_ble_eq_true rfl⟩ ⟨Nat.zero_le _, Nat.zero_le _⟩ (by decide) h247 rfl rfl hl.1 rfl (Nat.le_of_ble_eq_true rfl) dX7_tell_85 (fun w260 H locs hp261 h => ?_)
                    obtain ⟨ok262, kk263, hRG264⟩ := hp261
                    have kx265 : KX w w260 := KX.tr kx253 kk263.1
                    obtain ⟨z266, e267, t268⟩ := x_add (x := L25) (y := 1) (a := L25.toInt) (b := 1) rfl rfl (by omega) (by omega)
                    have n269 : z266.toNatClampNeg = L25.toNatClampNeg + 1 := cl_addn (x := L25) (y := 1) rfl rfl t268 (by omega) (by decide)
                    refine lv_iinc (v := z266) (lv' := [(2, .int z266), (3, .int 3), (0, .ref (ad 55)), (1, .ref (ad 14))]) hx hb dX7_tell_88 hl (k := 1) rfl e267 (by decide) rfl (fun ls hl => ?_)
                    refine lv_goto (tgt := 12) hx hb dX7_tell_91 (by decide) ?_
                    have f270 : w260 55 = .inr (5, [.ref (ad 56), .ref (ad 57), .int z, .int y243, .int y244, .int y245, .int y246]) := (kk263.2 55 (by decide)).trans h247
                    have hb271 : runF bs z.toNatClampNeg (151 - z266.toNatClampNeg) y244.toNatClampNeg (goLaF C30 (g254 0) (g254 1).toNatClampNeg) z266.toNatClampNeg = runF bs z.toNatClampNeg 151 0 (begF 0) 0 := by
                      rw [← hi44, n269]
                      have c3 : 151 - L25.toNatClampNeg = (150 - L25.toNatClampNeg) + 1 := by omega
                      have c4 : 151 - (L25.toNatClampNeg + 1) = 150 - L25.toNatClampNeg := by omega
                      have hi9 : itemF bs z.toNatClampNeg C27.toNatClampNeg C30 (L25.toNatClampNeg = 0) = .inr (y244.toNatClampNeg, goLaF C30 (g254 0) (g254 1).toNatClampNeg) := by rw [item_3 (h96.wd1 (by omega) hwn129) (by omega), h96.e]; exact hit257
                      rw [c3, c4, runF_next (fun q9 => by have q1 := q9.1; rw [h96.k] at q1; have q2 := q9.2; omega) hi9]
                    have hp272 : z266.toInt ≤ y244.toInt := by
                      have ca_ := cl_of (x := C27) (by omega)
                      have cz_ := cl_of (x := z) (by omega)
                      have cb_ := cl_of (x := y89) (by omega)
                      have cn_ := cl_of (x := y244) (by omega)
                      have t1 := tS_ge (bs := bs) (len := z.toNatClampNeg) (p := C27.toNatClampNeg) (by omega)
                      have t2 := tE_ge (bs := bs) (len := z.toNatClampNeg) (p := C27.toNatClampNeg) (by omega)
                      have t3 := t2.2.2 (by rw [h96.k]; omega)
                      have t4 := it3_ge (by rw [← h96.e]; omega) hit257
                      rw [h96.e] at t2 t3
                      omega
                    have f273 : w237 56 = .inl (cB, 150, .inl bs) := (kk240 56 (by decide) (by decide)).trans f123
                    have f274 : w260 56 = .inl (cB, 150, .inl bs) := (kk263.2 56 (by decide)).trans f273
                    exact ih34  z266 y243 y244 y245 y246 (goLaF C30 (g254 0) (g254 1).toNatClampNeg) w260 _ _ _ (by omega) (by omega) (by omega) (by omega) (by omega) (by omega) (by omega) hRG264 hb271 (fun h9 => by omega) hp272 ok262 kx265 f270 f274 (by omega) h (lv_sub hl [0, 2, 3] rfl)
                  · refine lv_if_ne (tgt := 82) hx hb dX7_tell_76 (by decide) (fun hc => absurd (by decide) hc) (fun _ => ?_)
                    refine lv_goto (tgt := 94) hx hb dX7_tell_79 (by decide) ?_
                    refine lv_bipush (v := (-10)) hx hb dX7_tell_94 (by decide) ?_
                    refine lv_aload_n hx hb dX7_tell_96 rfl (lv_at hl 2 rfl) ?_
                    refine r_get kc7 X h 55 3 (by decide) rfl h247 (by decide) kv_379 rfl dX7_tell_97 ?_
                    obtain ⟨z277, e275, t276⟩ := x_sub (x := ((-10) : Int32)) (y := y243) (a := (-10)) (b := (y243).toInt) rfl rfl (by omega) (by omega)
                    refine o_isub (z := z277) hx hb dX7_tell_100 e275 ?_
                    have hrun278 : runF bs z.toNatClampNeg 151 0 (begF 0) 0 = (-10 - (y243.toNatClampNeg : Int), C30) := by
                      have cs_ := cl_of (x := y243) (by omega)
                      have c3 : 151 - L25.toNatClampNeg = (150 - L25.toNatClampNeg) + 1 := by omega
                      have hi9 : itemF bs z.toNatClampNeg C27.toNatClampNeg C30 (L25.toNatClampNeg = 0) = .inl y243.toNatClampNeg := by rw [item_3 (h96.wd1 (by omega) hwn129) (by omega), h96.e]; exact hit257
                      rw [← hi44, c3, runF_fault (fun q9 => by have q1 := q9.1; rw [h96.k] at q1; have q2 := q9.2; omega) hi9]
                    have cs9 := cl_of (x := y243) (by omega)
                    exact e_i X h hr hlk dX7_tell_101 ⟨ok239, kx253, ⟨by rw [hrun278]; omega, fun h9 => by exfalso; omega⟩⟩
                · have kw4 : (4 : Int32).toInt = 4 := rfl
                  obtain ⟨g280, f279, p281⟩ := (show sA cI 3 (rgA 0 99) (w83 57) from ok85 57 (by decide))
                  have f282 : w83 57 = .inl (cI, 3, .inl g280) := f279
                  refine n_Vi (na := 2) (As := [.ref (ad 14), .int 4]) (rest := []) X hD hN h rfl (c_F_takeNumbers4 l G cI cB cZ cO ad w83 z y88 y89 y90 y91 bs g280 C30 ok85 h92 (by omega) f123 (by omega) (by omega) (by omega) (by omega) f282 p281 hRG99) ⟨kv_439, kv_440, kv_441, kv_388, kv_442⟩ rfl ⟨by decide, by decide, by decide⟩ ⟨Nat.le_of_ble_eq_true rfl, Nat.le_of_ble_eq_true rfl⟩ ⟨Nat.zero_le _, Nat.zero_le _⟩ (by decide) h92 rfl rfl hl.1 rfl (Nat.le_of_ble_eq_true rfl) dX7_tell_73 (fun r283 w284 H locs hp285 h => ?_)
                  obtain ⟨ok286, kk287, hr288, hRG289⟩ := hp285
                  obtain ⟨y290, y291, y292, y293, h294, h295, h296, h297, hit298⟩ := hr288
                  have q299 := txd ok286 h294
                  have kx300 : KX w w284 := KX.tr kx98 (F57.x kk287 h92 h294)
                  rcases hit298 with ⟨⟨g301, f302, hn303, hit304⟩, rfl⟩ | ⟨hit304, rfl⟩
                  · have p305 : rgA 0 99 g301 := nm99 ok286 f302
                    refine lv_if_ne (tgt := 82) hx hb dX7_tell_76 (by decide) (fun _ => ?_) (fun hc => absurd hc (by decide))
                    refine lv_aload_n hx hb dX7_tell_82 rfl (lv_at hl 2 rfl) ?_
                    refine lv_aload_n hx hb dX7_tell_83 rfl (lv_at hl 3 rfl) ?_
                    refine lv_iload_n hx hb dX7_tell_84 rfl (lv_at hl 0 rfl) ?_
                    refine n_Vv (na := 2) (As := [.ref (ad 14), .int 4]) (rest := []) X hD hN h rfl (c_F_carryOut4 l G cI cB cZ cO ad w284 g301 _ _ _ _ _ C30 ok286 f302 p305 h294 hRG289 hn303) ⟨kv_443, kv_444, kv_445, kv_388, kv_446⟩ rfl ⟨by decide, by decide, by decide⟩ ⟨Nat.le_of_ble_eq_true rfl, Nat.le_of_ble_eq_true rfl⟩ ⟨Nat.zero_le _, Nat.zero_le _⟩ (by decide) h294 rfl rfl hl.1 rfl (Nat.le_of_ble_eq_true rfl) dX7_tell_85 (fun w307 H locs hp308 h => ?_)
                    obtain ⟨ok309, kk310, hRG311⟩ := hp308
                    have kx312 : KX w w307 := KX.tr kx300 kk310.1
                    obtain ⟨z313, e314, t315⟩ := x_add (x := L25) (y := 1) (a := L25.toInt) (b := 1) rfl rfl (by omega) (by omega)
                    have n316 : z313.toNatClampNeg = L25.toNatClampNeg + 1 := cl_addn (x := L25) (y := 1) rfl rfl t315 (by omega) (by decide)
                    refine lv_iinc (v := z313) (lv' := [(2, .int z313), (3, .int 4), (0, .ref (ad 55)), (1, .ref (ad 14))]) hx hb dX7_tell_88 hl (k := 1) rfl e314 (by decide) rfl (fun ls hl => ?_)
                    refine lv_goto (tgt := 12) hx hb dX7_tell_91 (by decide) ?_
                    have f317 : w307 55 = .inr (5, [.ref (ad 56), .ref (ad 57), .int z, .int y290, .int y291, .int y292, .int y293]) := (kk310.2 55 (by decide)).trans h294
                    have hb318 : runF bs z.toNatClampNeg (151 - z313.toNatClampNeg) y291.toNatClampNeg (goPoF C30 (g301 0).toNatClampNeg (g301 1).toNatClampNeg) z313.toNatClampNeg = runF bs z.toNatClampNeg 151 0 (begF 0) 0 := by
                      rw [← hi44, n316]
                      have c3 : 151 - L25.toNatClampNeg = (150 - L25.toNatClampNeg) + 1 := by omega
                      have c4 : 151 - (L25.toNatClampNeg + 1) = 150 - L25.toNatClampNeg := by omega
                      have hi9 : itemF bs z.toNatClampNeg C27.toNatClampNeg C30 (L25.toNatClampNeg = 0) = .inr (y291.toNatClampNeg, goPoF C30 (g301 0).toNatClampNeg (g301 1).toNatClampNeg) := by rw [item_4 (h96.wd1 (by omega) hwn129) (by omega), h96.e]; exact hit304
                      rw [c3, c4, runF_next (fun q9 => by have q1 := q9.1; rw [h96.k] at q1; have q2 := q9.2; omega) hi9]
                    have hp319 : z313.toInt ≤ y291.toInt := by
                      have ca_ := cl_of (x := C27) (by omega)
                      have cz_ := cl_of (x := z) (by omega)
                      have cb_ := cl_of (x := y89) (by omega)
                      have cn_ := cl_of (x := y291) (by omega)
                      have t1 := tS_ge (bs := bs) (len := z.toNatClampNeg) (p := C27.toNatClampNeg) (by omega)
                      have t2 := tE_ge (bs := bs) (len := z.toNatClampNeg) (p := C27.toNatClampNeg) (by omega)
                      have t3 := t2.2.2 (by rw [h96.k]; omega)
                      have t4 := it4_ge (by rw [← h96.e]; omega) hit304
                      rw [h96.e] at t2 t3
                      omega
                    have f320 : w284 56 = .inl (cB, 150, .inl bs) := (kk287 56 (by decide) (by decide)).trans f123
                    have f321 : w307 56 = .inl (cB, 150, .inl bs) := (kk310.2 56 (by decide)).trans f320
                    exact ih34  z313 y290 y291 y292 y293 (goPoF C30 (g301 0).toNatClampNeg (g301 1).toNatClampNeg) w307 _ _ _ (by omega) (by omega) (by omega) (by omega) (by omega) (by omega) (by omega) hRG311 hb318 (fun h9 => by omega) hp319 ok309 kx312 f317 f321 (by omega) h (lv_sub hl [0, 2, 3] rfl)
                  · refine lv_if_ne (tgt := 82) hx hb dX7_tell_76 (by decide) (fun hc => absurd (by decide) hc) (fun _ => ?_)
                    refine lv_goto (tgt := 94) hx hb dX7_tell_79 (by decide) ?_
                    refine lv_bipush (v := (-10)) hx hb dX7_tell_94 (by decide) ?_
                    refine lv_aload_n hx hb dX7_tell_96 rfl (lv_at hl 2 rfl) ?_
                    refine r_get kc7 X h 55 3 (by decide) rfl h294 (by decide) kv_379 rfl dX7_tell_97 ?_
                    obtain ⟨z324, e322, t323⟩ := x_sub (x := ((-10) : Int32)) (y := y290) (a := (-10)) (b := (y290).toInt) rfl rfl (by omega) (by omega)
                    refine o_isub (z := z324) hx hb dX7_tell_100 e322 ?_
                    have hrun325 : runF bs z.toNatClampNeg 151 0 (begF 0) 0 = (-10 - (y290.toNatClampNeg : Int), C30) := by
                      have cs_ := cl_of (x := y290) (by omega)
                      have c3 : 151 - L25.toNatClampNeg = (150 - L25.toNatClampNeg) + 1 := by omega
                      have hi9 : itemF bs z.toNatClampNeg C27.toNatClampNeg C30 (L25.toNatClampNeg = 0) = .inl y290.toNatClampNeg := by rw [item_4 (h96.wd1 (by omega) hwn129) (by omega), h96.e]; exact hit304
                      rw [← hi44, c3, runF_fault (fun q9 => by have q1 := q9.1; rw [h96.k] at q1; have q2 := q9.2; omega) hi9]
                    have cs9 := cl_of (x := y290) (by omega)
                    exact e_i X h hr hlk dX7_tell_101 ⟨ok286, kx300, ⟨by rw [hrun325]; omega, fun h9 => by exfalso; omega⟩⟩
                · have kw5 : (5 : Int32).toInt = 5 := rfl
                  obtain ⟨g327, f326, p328⟩ := (show sA cI 3 (rgA 0 99) (w83 57) from ok85 57 (by decide))
                  have f329 : w83 57 = .inl (cI, 3, .inl g327) := f326
                  refine n_Vi (na := 2) (As := [.ref (ad 14), .int 5]) (rest := []) X hD hN h rfl (c_F_takeNumbers5 l G cI cB cZ cO ad w83 z y88 y89 y90 y91 bs g327 C30 ok85 h92 (by omega) f123 (by omega) (by omega) (by omega) (by omega) f329 p328 hRG99) ⟨kv_439, kv_440, kv_441, kv_388, kv_442⟩ rfl ⟨by decide, by decide, by decide⟩ ⟨Nat.le_of_ble_eq_true rfl, Nat.le_of_ble_eq_true rfl⟩ ⟨Nat.zero_le _, Nat.zero_le _⟩ (by decide) h92 rfl rfl hl.1 rfl (Nat.le_of_ble_eq_true rfl) dX7_tell_73 (fun r330 w331 H locs hp332 h => ?_)
                  obtain ⟨ok333, kk334, hr335, hRG336⟩ := hp332
                  obtain ⟨y337, y338, y339, y340, h341, h342, h343, h344, hit345⟩ := hr335
                  have q346 := txd ok333 h341
                  have kx347 : KX w w331 := KX.tr kx98 (F57.x kk334 h92 h341)
                  rcases hit345 with ⟨⟨g348, f349, hn350, hit351⟩, rfl⟩ | ⟨hit351, rfl⟩
                  · have p352 : rgA 0 99 g348 := nm99 ok333 f349
                    refine lv_if_ne (tgt := 82) hx hb dX7_tell_76 (by decide) (fun _ => ?_) (fun hc => absurd hc (by decide))
                    refine lv_aload_n hx hb dX7_tell_82 rfl (lv_at hl 2 rfl) ?_
                    refine lv_aload_n hx hb dX7_tell_83 rfl (lv_at hl 3 rfl) ?_
                    refine lv_iload_n hx hb dX7_tell_84 rfl (lv_at hl 0 rfl) ?_
                    refine n_Vv (na := 2) (As := [.ref (ad 14), .int 5]) (rest := []) X hD hN h rfl (c_F_carryOut5 l G cI cB cZ cO ad w331 g348 _ _ _ _ _ C30 ok333 f349 p352 h341 hRG336 ) ⟨kv_443, kv_444, kv_445, kv_388, kv_446⟩ rfl ⟨by decide, by decide, by decide⟩ ⟨Nat.le_of_ble_eq_true rfl, Nat.le_of_ble_eq_true rfl⟩ ⟨Nat.zero_le _, Nat.zero_le _⟩ (by decide) h341 rfl rfl hl.1 rfl (Nat.le_of_ble_eq_true rfl) dX7_tell_85 (fun w354 H locs hp355 h => ?_)
                    obtain ⟨ok356, kk357, hRG358⟩ := hp355
                    have kx359 : KX w w354 := KX.tr kx347 kk357.1
                    obtain ⟨z360, e361, t362⟩ := x_add (x := L25) (y := 1) (a := L25.toInt) (b := 1) rfl rfl (by omega) (by omega)
                    have n363 : z360.toNatClampNeg = L25.toNatClampNeg + 1 := cl_addn (x := L25) (y := 1) rfl rfl t362 (by omega) (by decide)
                    refine lv_iinc (v := z360) (lv' := [(2, .int z360), (3, .int 5), (0, .ref (ad 55)), (1, .ref (ad 14))]) hx hb dX7_tell_88 hl (k := 1) rfl e361 (by decide) rfl (fun ls hl => ?_)
                    refine lv_goto (tgt := 12) hx hb dX7_tell_91 (by decide) ?_
                    have f364 : w354 55 = .inr (5, [.ref (ad 56), .ref (ad 57), .int z, .int y337, .int y338, .int y339, .int y340]) := (kk357.2 55 (by decide)).trans h341
                    have hb365 : runF bs z.toNatClampNeg (151 - z360.toNatClampNeg) y338.toNatClampNeg (goHsF (g348 0).toNatClampNeg C30) z360.toNatClampNeg = runF bs z.toNatClampNeg 151 0 (begF 0) 0 := by
                      rw [← hi44, n363]
                      have c3 : 151 - L25.toNatClampNeg = (150 - L25.toNatClampNeg) + 1 := by omega
                      have c4 : 151 - (L25.toNatClampNeg + 1) = 150 - L25.toNatClampNeg := by omega
                      have hi9 : itemF bs z.toNatClampNeg C27.toNatClampNeg C30 (L25.toNatClampNeg = 0) = .inr (y338.toNatClampNeg, goHsF (g348 0).toNatClampNeg C30) := by rw [item_5 (h96.wd1 (by omega) hwn129) (by omega), h96.e]; exact hit351
                      rw [c3, c4, runF_next (fun q9 => by have q1 := q9.1; rw [h96.k] at q1; have q2 := q9.2; omega) hi9]
                    have hp366 : z360.toInt ≤ y338.toInt := by
                      have ca_ := cl_of (x := C27) (by omega)
                      have cz_ := cl_of (x := z) (by omega)
                      have cb_ := cl_of (x := y89) (by omega)
                      have cn_ := cl_of (x := y338) (by omega)
                      have t1 := tS_ge (bs := bs) (len := z.toNatClampNeg) (p := C27.toNatClampNeg) (by omega)
                      have t2 := tE_ge (bs := bs) (len := z.toNatClampNeg) (p := C27.toNatClampNeg) (by omega)
                      have t3 := t2.2.2 (by rw [h96.k]; omega)
                      have t4 := it5_ge (by rw [← h96.e]; omega) hit351
                      rw [h96.e] at t2 t3
                      omega
                    have f367 : w331 56 = .inl (cB, 150, .inl bs) := (kk334 56 (by decide) (by decide)).trans f123
                    have f368 : w354 56 = .inl (cB, 150, .inl bs) := (kk357.2 56 (by decide)).trans f367
                    exact ih34  z360 y337 y338 y339 y340 (goHsF (g348 0).toNatClampNeg C30) w354 _ _ _ (by omega) (by omega) (by omega) (by omega) (by omega) (by omega) (by omega) hRG358 hb365 (fun h9 => by omega) hp366 ok356 kx359 f364 f368 (by omega) h (lv_sub hl [0, 2, 3] rfl)
                  · refine lv_if_ne (tgt := 82) hx hb dX7_tell_76 (by decide) (fun hc => absurd (by decide) hc) (fun _ => ?_)
                    refine lv_goto (tgt := 94) hx hb dX7_tell_79 (by decide) ?_
                    refine lv_bipush (v := (-10)) hx hb dX7_tell_94 (by decide) ?_
                    refine lv_aload_n hx hb dX7_tell_96 rfl (lv_at hl 2 rfl) ?_
                    refine r_get kc7 X h 55 3 (by decide) rfl h341 (by decide) kv_379 rfl dX7_tell_97 ?_
                    obtain ⟨z371, e369, t370⟩ := x_sub (x := ((-10) : Int32)) (y := y337) (a := (-10)) (b := (y337).toInt) rfl rfl (by omega) (by omega)
                    refine o_isub (z := z371) hx hb dX7_tell_100 e369 ?_
                    have hrun372 : runF bs z.toNatClampNeg 151 0 (begF 0) 0 = (-10 - (y337.toNatClampNeg : Int), C30) := by
                      have cs_ := cl_of (x := y337) (by omega)
                      have c3 : 151 - L25.toNatClampNeg = (150 - L25.toNatClampNeg) + 1 := by omega
                      have hi9 : itemF bs z.toNatClampNeg C27.toNatClampNeg C30 (L25.toNatClampNeg = 0) = .inl y337.toNatClampNeg := by rw [item_5 (h96.wd1 (by omega) hwn129) (by omega), h96.e]; exact hit351
                      rw [← hi44, c3, runF_fault (fun q9 => by have q1 := q9.1; rw [h96.k] at q1; have q2 := q9.2; omega) hi9]
                    have cs9 := cl_of (x := y337) (by omega)
                    exact e_i X h hr hlk dX7_tell_101 ⟨ok333, kx347, ⟨by rw [hrun372]; omega, fun h9 => by exfalso; omega⟩⟩
              · refine lv_if_eq (tgt := 94) hx hb dX7_tell_67 (by decide) (fun _ => ?_) (fun hc => absurd (by decide) hc)
                refine lv_bipush (v := (-10)) hx hb dX7_tell_94 (by decide) ?_
                refine lv_aload_n hx hb dX7_tell_96 rfl (lv_at hl 2 rfl) ?_
                refine r_get kc7 X h 55 3 (by decide) rfl h92 (by decide) kv_379 rfl dX7_tell_97 ?_
                obtain ⟨z375, e373, t374⟩ := x_sub (x := ((-10) : Int32)) (y := y88) (a := (-10)) (b := (y88).toInt) rfl rfl (by omega) (by omega)
                refine o_isub (z := z375) hx hb dX7_tell_100 e373 ?_
                have hrun376 : runF bs z.toNatClampNeg 151 0 (begF 0) 0 = (-10 - (y88.toNatClampNeg : Int), C30) := by
                  have cs_ := cl_of (x := y88) (by omega)
                  have c3 : 151 - L25.toNatClampNeg = (150 - L25.toNatClampNeg) + 1 := by omega
                  have hi9 : itemF bs z.toNatClampNeg C27.toNatClampNeg C30 (L25.toNatClampNeg = 0) = .inl y88.toNatClampNeg := by rw [item_none (h96.wd1 (by omega) hwn129) _ (by omega) (by omega) (by omega) (by omega), h96.s]
                  rw [← hi44, c3, runF_fault (fun q9 => by have q1 := q9.1; rw [h96.k] at q1; have q2 := q9.2; omega) hi9]
                have cs9 := cl_of (x := y88) (by omega)
                exact e_i X h hr hlk dX7_tell_101 ⟨ok85, kx98, ⟨by rw [hrun376]; omega, fun h9 => by exfalso; omega⟩⟩
            · have hc130 : (L25).toInt = 0 := i_eq hc130 rfl rfl
              refine lv_iconst (v := 1) hx hb dX7_tell_59 (by decide) ?_
              refine lv_goto (tgt := 64) hx hb dX7_tell_60 (by decide) ?_
              have f377 : w83 14 = .inr (1, [.int ho52, .int so51, .int mi53, .int ca54, .int ja55, .ref (ad 15), .ref (ad 16), .ref (ad 17), .ref (ad 18), .ref (ad 19), .ref (ad 20), .ref (ad 21), .ref (ad 23), .ref (ad 25)]) := (kk86 14 (by decide)).trans p60
              refine n_Si (na := 3) (As := [.ref (ad 14), .int r124, .int 1]) (rest := []) X hD hN h (c_F_mayBegin1 l G cI cB cZ cO ad w83 ho52 so51 mi53 ca54 ja55 r124 (by omega) (by omega) f377) ⟨kv_432, kv_433, kv_388, kv_434⟩ ⟨by decide, by decide, by decide⟩ ⟨Nat.le_of_ble_eq_true rfl, Nat.le_of_ble_eq_true rfl⟩ ⟨Nat.zero_le _, Nat.zero_le _⟩ rfl hl.1 rfl (Nat.le_of_ble_eq_true rfl) dX7_tell_64 (fun r378 w379 H locs hp380 h => ?_)
              obtain ⟨rfl, hr381⟩ := hp380
              rcases hr381 with ⟨hm382, rfl⟩ | ⟨hm382, rfl⟩
              · refine lv_if_eq (tgt := 94) hx hb dX7_tell_67 (by decide) (fun hc => absurd hc (by decide)) (fun _ => ?_)
                refine lv_aload_n hx hb dX7_tell_70 rfl (lv_at hl 2 rfl) ?_
                refine lv_aload_n hx hb dX7_tell_71 rfl (lv_at hl 3 rfl) ?_
                refine lv_iload_n hx hb dX7_tell_72 rfl (lv_at hl 0 rfl) ?_
                have hq383 : r124 = 0 ∨ r124 = 1 ∨ r124 = 2 ∨ r124 = 3 ∨ r124 = 4 ∨ r124 = 5 := by simp only [fa_eq]; simp only [show ((0 : Int32).toInt = 0) from rfl, show ((1 : Int32).toInt = 1) from rfl, show ((2 : Int32).toInt = 2) from rfl, show ((3 : Int32).toInt = 3) from rfl, show ((4 : Int32).toInt = 4) from rfl, show ((5 : Int32).toInt = 5) from rfl]; omega
                rcases hq383 with rfl | rfl | rfl | rfl | rfl | rfl
                · have kw0 : (0 : Int32).toInt = 0 := rfl
                  obtain ⟨g385, f384, p386⟩ := (show sA cI 3 (rgA 0 99) (w83 57) from ok85 57 (by decide))
                  have f387 : w83 57 = .inl (cI, 3, .inl g385) := f384
                  refine n_Vi (na := 2) (As := [.ref (ad 14), .int 0]) (rest := []) X hD hN h rfl (c_F_takeNumbers0 l G cI cB cZ cO ad w83 z y88 y89 y90 y91 bs g385 C30 ok85 h92 (by omega) f123 (by omega) (by omega) (by omega) (by omega) f387 p386 hRG99) ⟨kv_439, kv_440, kv_441, kv_388, kv_442⟩ rfl ⟨by decide, by decide, by decide⟩ ⟨Nat.le_of_ble_eq_true rfl, Nat.le_of_ble_eq_true rfl⟩ ⟨Nat.zero_le _, Nat.zero_le _⟩ (by decide) h92 rfl rfl hl.1 rfl (Nat.le_of_ble_eq_true rfl) dX7_tell_73 (fun r388 w389 H locs hp390 h => ?_)
                  obtain ⟨ok391, kk392, hr393, hRG394⟩ := hp390
                  obtain ⟨y395, y396, y397, y398, h399, h400, h401, h402, hit403⟩ := hr393
                  have q404 := txd ok391 h399
                  have kx405 : KX w w389 := KX.tr kx98 (F57.x kk392 h92 h399)
                  rcases hit403 with ⟨⟨g406, f407, hn408, hit409⟩, rfl⟩ | ⟨hit409, rfl⟩
                  · have p410 : rgA 0 99 g406 := nm99 ok391 f407
                    refine lv_if_ne (tgt := 82) hx hb dX7_tell_76 (by decide) (fun _ => ?_) (fun hc => absurd hc (by decide))
                    refine lv_aload_n hx hb dX7_tell_82 rfl (lv_at hl 2 rfl) ?_
                    refine lv_aload_n hx hb dX7_tell_83 rfl (lv_at hl 3 rfl) ?_
                    refine lv_iload_n hx hb dX7_tell_84 rfl (lv_at hl 0 rfl) ?_
                    refine n_Vv (na := 2) (As := [.ref (ad 14), .int 0]) (rest := []) X hD hN h rfl (c_F_carryOut0 l G cI cB cZ cO ad w389 g406 _ _ _ _ _ C30 ok391 f407 p410 h399 hRG394 (hi45 (by omega))) ⟨kv_443, kv_444, kv_445, kv_388, kv_446⟩ rfl ⟨by decide, by decide, by decide⟩ ⟨Nat.le_of_ble_eq_true rfl, Nat.le_of_ble_eq_true rfl⟩ ⟨Nat.zero_le _, Nat.zero_le _⟩ (by decide) h399 rfl rfl hl.1 rfl (Nat.le_of_ble_eq_true rfl) dX7_tell_85 (fun w412 H locs hp413 h => ?_)
                    obtain ⟨ok414, kk415, hRG416⟩ := hp413
                    have kx417 : KX w w412 := KX.tr kx405 kk415.1
                    obtain ⟨z418, e419, t420⟩ := x_add (x := L25) (y := 1) (a := L25.toInt) (b := 1) rfl rfl (by omega) (by omega)
                    have n421 : z418.toNatClampNeg = L25.toNatClampNeg + 1 := cl_addn (x := L25) (y := 1) rfl rfl t420 (by omega) (by decide)
                    refine lv_iinc (v := z418) (lv' := [(2, .int z418), (3, .int 0), (0, .ref (ad 55)), (1, .ref (ad 14))]) hx hb dX7_tell_88 hl (k := 1) rfl e419 (by decide) rfl (fun ls hl => ?_)
                    refine lv_goto (tgt := 12) hx hb dX7_tell_91 (by decide) ?_
                    have f422 : w412 55 = .inr (5, [.ref (ad 56), .ref (ad 57), .int z, .int y395, .int y396, .int y397, .int y398]) := (kk415.2 55 (by decide)).trans h399
                    have hb423 : runF bs z.toNatClampNeg (151 - z418.toNatClampNeg) y396.toNatClampNeg (begF (g406 0)) z418.toNatClampNeg = runF bs z.toNatClampNeg 151 0 (begF 0) 0 := by
                      rw [← hi44, n421]
                      have c3 : 151 - L25.toNatClampNeg = (150 - L25.toNatClampNeg) + 1 := by omega
                      have c4 : 151 - (L25.toNatClampNeg + 1) = 150 - L25.toNatClampNeg := by omega
                      have hi9 : itemF bs z.toNatClampNeg C27.toNatClampNeg C30 (L25.toNatClampNeg = 0) = .inr (y396.toNatClampNeg, begF (g406 0)) := by rw [item_0 (h96.wd1 (by omega) hwn129) (by omega), h96.e]; exact hit409
                      rw [c3, c4, runF_next (fun q9 => by have q1 := q9.1; rw [h96.k] at q1; have q2 := q9.2; omega) hi9]
                    have hp424 : z418.toInt ≤ y396.toInt := by
                      have ca_ := cl_of (x := C27) (by omega)
                      have cz_ := cl_of (x := z) (by omega)
                      have cb_ := cl_of (x := y89) (by omega)
                      have cn_ := cl_of (x := y396) (by omega)
                      have t1 := tS_ge (bs := bs) (len := z.toNatClampNeg) (p := C27.toNatClampNeg) (by omega)
                      have t2 := tE_ge (bs := bs) (len := z.toNatClampNeg) (p := C27.toNatClampNeg) (by omega)
                      have t3 := t2.2.2 (by rw [h96.k]; omega)
                      have t4 := it0_ge (by rw [← h96.e]; omega) hit409
                      rw [h96.e] at t2 t3
                      omega
                    have f425 : w389 56 = .inl (cB, 150, .inl bs) := (kk392 56 (by decide) (by decide)).trans f123
                    have f426 : w412 56 = .inl (cB, 150, .inl bs) := (kk415.2 56 (by decide)).trans f425
                    exact ih34  z418 y395 y396 y397 y398 (begF (g406 0)) w412 _ _ _ (by omega) (by omega) (by omega) (by omega) (by omega) (by omega) (by omega) hRG416 hb423 (fun h9 => by omega) hp424 ok414 kx417 f422 f426 (by omega) h (lv_sub hl [0, 2, 3] rfl)
                  · refine lv_if_ne (tgt := 82) hx hb dX7_tell_76 (by decide) (fun hc => absurd (by decide) hc) (fun _ => ?_)
                    refine lv_goto (tgt := 94) hx hb dX7_tell_79 (by decide) ?_
                    refine lv_bipush (v := (-10)) hx hb dX7_tell_94 (by decide) ?_
                    refine lv_aload_n hx hb dX7_tell_96 rfl (lv_at hl 2 rfl) ?_
                    refine r_get kc7 X h 55 3 (by decide) rfl h399 (by decide) kv_379 rfl dX7_tell_97 ?_
                    obtain ⟨z429, e427, t428⟩ := x_sub (x := ((-10) : Int32)) (y := y395) (a := (-10)) (b := (y395).toInt) rfl rfl (by omega) (by omega)
                    refine o_isub (z := z429) hx hb dX7_tell_100 e427 ?_
                    have hrun430 : runF bs z.toNatClampNeg 151 0 (begF 0) 0 = (-10 - (y395.toNatClampNeg : Int), C30) := by
                      have cs_ := cl_of (x := y395) (by omega)
                      have c3 : 151 - L25.toNatClampNeg = (150 - L25.toNatClampNeg) + 1 := by omega
                      have hi9 : itemF bs z.toNatClampNeg C27.toNatClampNeg C30 (L25.toNatClampNeg = 0) = .inl y395.toNatClampNeg := by rw [item_0 (h96.wd1 (by omega) hwn129) (by omega), h96.e]; exact hit409
                      rw [← hi44, c3, runF_fault (fun q9 => by have q1 := q9.1; rw [h96.k] at q1; have q2 := q9.2; omega) hi9]
                    have cs9 := cl_of (x := y395) (by omega)
                    exact e_i X h hr hlk dX7_tell_101 ⟨ok391, kx405, ⟨by rw [hrun430]; omega, fun h9 => by exfalso; omega⟩⟩
                · have kw1 : (1 : Int32).toInt = 1 := rfl
                  exfalso; omega
                · have kw2 : (2 : Int32).toInt = 2 := rfl
                  exfalso; omega
                · have kw3 : (3 : Int32).toInt = 3 := rfl
                  exfalso; omega
                · have kw4 : (4 : Int32).toInt = 4 := rfl
                  exfalso; omega
                · have kw5 : (5 : Int32).toInt = 5 := rfl
                  exfalso; omega
              · refine lv_if_eq (tgt := 94) hx hb dX7_tell_67 (by decide) (fun _ => ?_) (fun hc => absurd (by decide) hc)
                refine lv_bipush (v := (-10)) hx hb dX7_tell_94 (by decide) ?_
                refine lv_aload_n hx hb dX7_tell_96 rfl (lv_at hl 2 rfl) ?_
                refine r_get kc7 X h 55 3 (by decide) rfl h92 (by decide) kv_379 rfl dX7_tell_97 ?_
                obtain ⟨z433, e431, t432⟩ := x_sub (x := ((-10) : Int32)) (y := y88) (a := (-10)) (b := (y88).toInt) rfl rfl (by omega) (by omega)
                refine o_isub (z := z433) hx hb dX7_tell_100 e431 ?_
                have hrun434 : runF bs z.toNatClampNeg 151 0 (begF 0) 0 = (-10 - (y88.toNatClampNeg : Int), C30) := by
                  have cs_ := cl_of (x := y88) (by omega)
                  have c3 : 151 - L25.toNatClampNeg = (150 - L25.toNatClampNeg) + 1 := by omega
                  have hi9 : itemF bs z.toNatClampNeg C27.toNatClampNeg C30 (L25.toNatClampNeg = 0) = .inl y88.toNatClampNeg := by rw [item_none (h96.wd1 (by omega) hwn129) _ (by omega) (by omega) (by omega) (by omega), h96.s]
                  rw [← hi44, c3, runF_fault (fun q9 => by have q1 := q9.1; rw [h96.k] at q1; have q2 := q9.2; omega) hi9]
                have cs9 := cl_of (x := y88) (by omega)
                exact e_i X h hr hlk dX7_tell_101 ⟨ok85, kx98, ⟨by rw [hrun434]; omega, fun h9 => by exfalso; omega⟩⟩
        · have hc100 : (y90).toInt = 0 := i_eq hc100 rfl rfl
          refine lv_iload_n hx hb dX7_tell_30 rfl (lv_at hl 0 rfl) ?_
          refine lv_if_le (tgt := 36) hx hb dX7_tell_31 (by decide) (fun hc435 => ?_) (fun hc435 => ?_)
          · have hc435 : (L25).toInt ≤ 0 := i_le hc435 rfl rfl
            refine lv_aload_n hx hb dX7_tell_36 rfl (lv_at hl 1 rfl) ?_
            refine r_get kc7 X h 55 5 (by decide) rfl h92 (by decide) kv_392 rfl dX7_tell_37 ?_
            refine lv_iconst (v := 1) hx hb dX7_tell_40 (by decide) ?_
            refine lv_icmp_ne (tgt := 51) hx hb dX7_tell_41 (by decide) (fun hc436 => ?_) (fun hc436 => ?_)
            · have hc436 : ¬ (y90).toInt = 1 := i_ne hc436 rfl rfl
              refine lv_iconst (v := (-1)) hx hb dX7_tell_51 (by decide) ?_
              refine lv_istore_n (lv' := [(3, .int (-1)), (2, .int L25), (0, .ref (ad 55)), (1, .ref (ad 14))]) hx hb dX7_tell_52 rfl hl (by decide) rfl (fun ls hl => ?_)
              refine lv_aload_n hx hb dX7_tell_53 rfl (lv_at hl 3 rfl) ?_
              refine lv_iload_n hx hb dX7_tell_54 rfl (lv_at hl 0 rfl) ?_
              refine lv_iload_n hx hb dX7_tell_55 rfl (lv_at hl 1 rfl) ?_
              refine lv_if_ne (tgt := 63) hx hb dX7_tell_56 (by decide) (fun hc437 => ?_) (fun hc437 => ?_)
              · have hc437 : ¬ (L25).toInt = 0 := i_ne hc437 rfl rfl
                exfalso; omega
              · have hc437 : (L25).toInt = 0 := i_eq hc437 rfl rfl
                refine lv_iconst (v := 1) hx hb dX7_tell_59 (by decide) ?_
                refine lv_goto (tgt := 64) hx hb dX7_tell_60 (by decide) ?_
                have f438 : w83 14 = .inr (1, [.int ho52, .int so51, .int mi53, .int ca54, .int ja55, .ref (ad 15), .ref (ad 16), .ref (ad 17), .ref (ad 18), .ref (ad 19), .ref (ad 20), .ref (ad 21), .ref (ad 23), .ref (ad 25)]) := (kk86 14 (by decide)).trans p60
                refine n_Si (na := 3) (As := [.ref (ad 14), .int (-1), .int 1]) (rest := []) X hD hN h (c_F_mayBegin1 l G cI cB cZ cO ad w83 ho52 so51 mi53 ca54 ja55 ((-1) : Int32) (by decide) (by decide) f438) ⟨kv_432, kv_433, kv_388, kv_434⟩ ⟨by decide, by decide, by decide⟩ ⟨Nat.le_of_ble_eq_true rfl, Nat.le_of_ble_eq_true rfl⟩ ⟨Nat.zero_le _, Nat.zero_le _⟩ rfl hl.1 rfl (Nat.le_of_ble_eq_true rfl) dX7_tell_64 (fun r439 w440 H locs hp441 h => ?_)
                obtain ⟨rfl, hr442⟩ := hp441
                rcases hr442 with ⟨hm443, rfl⟩ | ⟨hm443, rfl⟩
                · exfalso; have q8 : (-1 : Int32).toInt = -1 := rfl; omega
                · refine lv_if_eq (tgt := 94) hx hb dX7_tell_67 (by decide) (fun _ => ?_) (fun hc => absurd (by decide) hc)
                  refine lv_bipush (v := (-10)) hx hb dX7_tell_94 (by decide) ?_
                  refine lv_aload_n hx hb dX7_tell_96 rfl (lv_at hl 2 rfl) ?_
                  refine r_get kc7 X h 55 3 (by decide) rfl h92 (by decide) kv_379 rfl dX7_tell_97 ?_
                  obtain ⟨z446, e444, t445⟩ := x_sub (x := ((-10) : Int32)) (y := y88) (a := (-10)) (b := (y88).toInt) rfl rfl (by omega) (by omega)
                  refine o_isub (z := z446) hx hb dX7_tell_100 e444 ?_
                  have hrun447 : runF bs z.toNatClampNeg 151 0 (begF 0) 0 = (-10 - (y88.toNatClampNeg : Int), C30) := by
                    have cs_ := cl_of (x := y88) (by omega)
                    have c3 : 151 - L25.toNatClampNeg = (150 - L25.toNatClampNeg) + 1 := by omega
                    have hi9 : itemF bs z.toNatClampNeg C27.toNatClampNeg C30 (L25.toNatClampNeg = 0) = .inl y88.toNatClampNeg := by rw [item_none (h96.wd0 (by omega)) _ (by omega) (by omega) (by omega) (by omega), h96.s]
                    rw [← hi44, c3, runF_fault (fun q9 => by have q1 := q9.1; rw [h96.k] at q1; have q2 := q9.2; omega) hi9]
                  have cs9 := cl_of (x := y88) (by omega)
                  exact e_i X h hr hlk dX7_tell_101 ⟨ok85, kx98, ⟨by rw [hrun447]; omega, fun h9 => by exfalso; omega⟩⟩
            · have hc436 : (y90).toInt = 1 := i_eq hc436 rfl rfl
              exfalso; omega
          · have hc435 : ¬ (L25).toInt ≤ 0 := i_nle hc435 rfl rfl
            refine lv_iload_n hx hb dX7_tell_34 rfl (lv_at hl 0 rfl) ?_
            have hrun448 : runF bs z.toNatClampNeg 151 0 (begF 0) 0 = ((L25.toNatClampNeg : Int), C30) := by
              have c3 : 151 - L25.toNatClampNeg = (150 - L25.toNatClampNeg) + 1 := by omega
              rw [← hi44, c3, runF_end (by rw [h96.k]; omega) (by omega)]
            exact e_i X h hr hlk dX7_tell_35 ⟨ok85, kx98, ⟨by rw [hrun448]; omega, fun _ => by rw [hrun448]; exact hRG99⟩⟩
  have f449 : w2 56 = .inl (cB, 150, .inl bs) := (kk16.2 56 (by decide)).trans p56
  have f450 : w20 56 = .inl (cB, 150, .inl bs) := by rw [e21, va_up_ne _ _ (by decide)]; exact f449
  exact hloop32 152 (0 : Int32) a (0 : Int32) c0 d (begF 0) w20 _ _ _ (by have q0 : (0 : Int32).toInt = 0 := rfl; omega) (by have q0 : (0 : Int32).toInt = 0 := rfl; omega) (by have q0 : (0 : Int32).toInt = 0 := rfl; omega) (by have q0 : (0 : Int32).toInt = 0 := rfl; omega) (by have q0 : (0 : Int32).toInt = 0 := rfl; omega) (by have q0 : (0 : Int32).toInt = 0 := rfl; omega) (by have q0 : (0 : Int32).toInt = 0 := rfl; omega) (RG.f57 hr17 (F57.up F57.rf e21 (Or.inl rfl))) rfl (fun _ => rfl) (by decide) ok23 kx24 f22 f450 (by have q0 : (0 : Int32).toInt = 0 := rfl; omega) h (lv_sub hl [0, 1, 2] rfl)
