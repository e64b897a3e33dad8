set_option maxHeartbeats 4000000 in
set_option maxRecDepth 100000 in
theorem c_F_tell (l : Launch) (G : va_G) (cI cB cZ cO : ClassId) (ad : Nat → Nat) (w : Nat → va_E) (z a b c0 d : Int32) (bs : Nat → Int32) (ok : OK cI cB cZ cO ad w)   (pf : w 55 = .inr (5, [.ref (ad 56), .ref (ad 57), .int z, .int a, .int b, .int c0, .int d])) (hz1 : z.toInt ≤ 150) (p56 : w 56 = .inl (cB, 150, .inl bs)) (hd0 : 0 ≤ d.toInt) (hd1 : d.toInt ≤ 99) (hz0 : 0 ≤ z.toInt) : NI l G (tyq cI cB cZ cO) yX7_tell cX7_tell 4 (some .int) 6 127 74 ad w [.ref (ad 55), .ref (ad 14)] (fun r w1 => OK cI cB cZ cO ad w1 ∧ KX w w1 ∧ r.toInt = (runF bs z.toNatClampNeg 151 0 (begF 0) 0).1 ∧ (0 < r.toInt → RG cI ad w1 (runF bs z.toNatClampNeg 151 0 (begF 0) 0).2)) := by
  refine nk_i (own := "NoonShade$Text") rfl (by decide) (Nat.le_of_ble_eq_true rfl) ?_
  intro p e s m below meth c ls X hD hN hr hlk h hl
  have hx := X.1.1
  have hb := X.1.2.1
  have hown := X.1.2.2.2.1
  have hts := X.1.2.2.2.2
  have hl : lv_has ls 4 [(0, .ref (ad 55)), (1, .ref (ad 14))] := hl
  refine lv_aload_n hx hb dX7_tell_0 rfl (lv_at hl 1 rfl) ?_
  refine lv_iconst (v := 0) hx hb dX7_tell_1 (by decide) ?_
  obtain ⟨q5, q6, q7, q8, q9, f4, h10, h11, h12, h13⟩ := (show sI ad 14 (w 14) from ok 14 (by decide))
  have f14 : w 14 = .inr (1, [.int q5, .int q6, .int q7, .int q8, .int q9, .ref (ad 15), .ref (ad 16), .ref (ad 17), .ref (ad 18), .ref (ad 19), .ref (ad 20), .ref (ad 21), .ref (ad 23), .ref (ad 25)]) := f4
  refine n_Vv (na := 1) (As := [.int 0]) (rest := []) X hD hN h rfl (c_F_begin l G cI cB cZ cO ad w  ok (0 : Int32)  ) ⟨kv_431, kv_332, kv_333, kv_37, kv_334⟩ rfl ⟨by decide, by decide, by decide⟩ ⟨Nat.le_of_ble_eq_true rfl, Nat.le_of_ble_eq_true rfl⟩ ⟨Nat.zero_le _, Nat.zero_le _⟩ (by decide) f14 rfl rfl hl.1 rfl (Nat.le_of_ble_eq_true rfl) dX7_tell_2 (fun w2 H locs hp3 h => ?_)
  obtain ⟨ok15, kk16, hr17⟩ := hp3
  have kx18 : KX w w2 := kk16.1
  refine lv_aload_n hx hb dX7_tell_5 rfl (lv_at hl 0 rfl) ?_
  refine lv_iconst (v := 0) hx hb dX7_tell_6 (by decide) ?_
  have f19 : w2 55 = .inr (5, [.ref (ad 56), .ref (ad 57), .int z, .int a, .int b, .int c0, .int d]) := (kk16.2 55 (by decide)).trans pf
  refine r_put kc7 X hD h 55 4 (by decide) rfl f19 (by decide) kv_378 rfl rfl rfl (Nat.le_of_ble_eq_true rfl) dX7_tell_7 (fun H locs w20 e21 h => ?_)
  have f22 : w20 55 = .inr (5, [.ref (ad 56), .ref (ad 57), .int z, .int a, .int 0, .int c0, .int d]) := (congrFun e21 _).trans (va_up_self _ _ _)
  have ok23 : OK cI cB cZ cO ad w20 := OK.up ok15 e21 (sT_mk (by omega) (by omega) (by omega) (by omega))
  have kx24 : KX w w20 := KX.up kx18 e21 f19 rfl
  refine lv_iconst (v := 0) hx hb dX7_tell_10 (by decide) ?_
  refine lv_istore_n (lv' := [(2, .int 0), (0, .ref (ad 55)), (1, .ref (ad 14))]) hx hb dX7_tell_11 rfl hl (by decide) rfl (fun ls hl => ?_)
  have hloop32 : ∀ (d33 : Nat) (L25 : Int32) (C26 : Int32) (C27 : Int32) (C28 : Int32) (C29 : Int32) (C30 : Nat → Int32) (wL31 : Nat → va_E) (H : Heap) (locs : List Loc) (ls : Array Slot), 0 ≤ L25.toInt → L25.toInt ≤ 151 → 0 ≤ C27.toInt → C27.toInt ≤ 150 → 0 ≤ C29.toInt → C29.toInt ≤ 99 → C27.toInt ≤ z.toInt → (RG cI ad wL31 C30) → (runF bs z.toNatClampNeg (151 - L25.toNatClampNeg) C27.toNatClampNeg C30 L25.toNatClampNeg = runF bs z.toNatClampNeg 151 0 (begF 0) 0) → (L25.toInt = 0 → C30 = begF 0) → (L25.toInt ≤ C27.toInt) → OK cI cB cZ cO ad wL31 → KX w wL31 → wL31 55 = .inr (5, [.ref (ad 56), .ref (ad 57), .int z, .int C26, .int C27, .int C28, .int C29]) → wL31 56 = .inl (cB, 150, .inl bs) → 151 - L25.toInt < (d33 : Int) → St G 74 ad (wA 74 ad s.heap.size) s.heap wL31 H locs → lv_has ls 4 [(2, .int L25), (0, .ref (ad 55)), (1, .ref (ad 14))] → W p l e { frames := 6, cells := 0, slots := 0, locals := 127 } s m [.ref (ad 55), .ref (ad 14)].toArray below meth c H locs 0 0 (MQ below (va_Qi (fun r w1 => OK cI cB cZ cO ad w1 ∧ KX w w1 ∧ r.toInt = (runF bs z.toNatClampNeg 151 0 (begF 0) 0).1 ∧ (0 < r.toInt → RG cI ad w1 (runF bs z.toNatClampNeg 151 0 (begF 0) 0).2)) (Aft G 74 ad) (wA 74 ad s.heap.size)) [.ref (ad 55), .ref (ad 14)].toArray s 0 0 (wA 74 ad s.heap.size)) (F0 m 12 ls []) := by
    intro d33
    induction d33 with
    | zero => intro L25 C26 C27 C28 C29 C30 wL31 H locs ls hi36 hi37 hi38 hi39 hi40 hi41 hi42 hi43 hi44 hi45 hi46 ok47 kx48 cf49 cf50 hm35 h hl; exfalso; omega
    | succ d33 ih34 =>
      intro L25 C26 C27 C28 C29 C30 wL31 H locs ls hi36 hi37 hi38 hi39 hi40 hi41 hi42 hi43 hi44 hi45 hi46 ok47 kx48 cf49 cf50 hm35 h hl
      obtain ⟨so51, ho52, mi53, ca54, ja55, ck56, hh57, jk58, co59, p60, p61, p62, p63, p64, hG65⟩ := id hi43
      have p60 : wL31 14 = .inr (1, [.int ho52, .int so51, .int mi53, .int ca54, .int ja55, .ref (ad 15), .ref (ad 16), .ref (ad 17), .ref (ad 18), .ref (ad 19), .ref (ad 20), .ref (ad 21), .ref (ad 23), .ref (ad 25)]) := p60
      obtain ⟨hG66, hG67, hG68, hG69, hG70, hG71, hG72, hG73, hG74, hG75, hG76⟩ := id hG65
      have p77 : rgA 0 9 hh57 := sA_pred (show sA cI 7 (rgA 0 9) (wL31 16) from ok47 16 (by decide)) p62
      have p78 : rgA 0 60 co59 := sA_pred (show sA cI 4 (rgA 0 60) (wL31 19) from ok47 19 (by decide)) p64
      have n0_ := congrArg Int32.toInt hG68
      have n1_ := congrArg Int32.toInt hG69
      have ci_ := cl_of (x := L25) (by omega)
      refine lv_iload_n hx hb dX7_tell_12 rfl (lv_at hl 0 rfl) ?_
      refine lv_sipush (v := 150) hx hb dX7_tell_13 (by decide) ?_
      refine lv_icmp_gt (tgt := 94) hx hb dX7_tell_16 (by decide) (fun hc79 => ?_) (fun hc79 => ?_)
      · have hc79 : 150 < (L25).toInt := i_lt hc79 rfl rfl
        exfalso; omega
      · have hc79 : ¬ 150 < (L25).toInt := i_nlt hc79 rfl rfl
        refine lv_aload_n hx hb dX7_tell_19 rfl (lv_at hl 1 rfl) ?_
        refine n_Vv (na := 0) (As := []) (rest := []) X hD hN h rfl (c_F_step l G cI cB cZ cO ad wL31 z C26 C27 C28 C29 bs ok47 cf49 (by omega) cf50 (by first | omega | decide | (simp only [k00]; omega)) (by first | omega | decide | (simp only [k00]; omega)) (by first | omega | decide | (simp only [k00]; omega)) (by first | omega | decide | (simp only [k00]; omega))) ⟨kv_417, kv_418, kv_419, kv_388, kv_420⟩ rfl ⟨by decide, by decide, by decide⟩ ⟨Nat.le_of_ble_eq_true rfl, Nat.le_of_ble_eq_true rfl⟩ ⟨Nat.zero_le _, Nat.zero_le _⟩ (by decide) cf49 rfl rfl hl.1 rfl (Nat.le_of_ble_eq_true rfl) dX7_tell_20 (fun w81 H locs hp82 h => ?_)
        obtain ⟨ok83, kk84, hr85⟩ := hp82
        obtain ⟨y86, y87, y88, y89, h90, h91, h92, h93, h94⟩ := hr85
        have q95 := txd ok83 h90
        have kx96 : KX w w81 := KX.tr kx48 (F5.x kk84 cf49 h90)
        have hRG97 : RG cI ad w81 C30 := RG.f57 hi43 kk84.f57
        refine lv_aload_n hx hb dX7_tell_23 rfl (lv_at hl 1 rfl) ?_
        refine r_get kc7 X h 55 5 (by decide) rfl h90 (by decide) kv_392 rfl dX7_tell_24 ?_
        refine lv_if_ne (tgt := 36) hx hb dX7_tell_27 (by decide) (fun hc98 => ?_) (fun hc98 => ?_)
        · have hc98 : ¬ (y88).toInt = 0 := i_ne hc98 rfl rfl
          refine lv_aload_n hx hb dX7_tell_36 rfl (lv_at hl 1 rfl) ?_
          refine r_get kc7 X h 55 5 (by decide) rfl h90 (by decide) kv_392 rfl dX7_tell_37 ?_
          refine lv_iconst (v := 1) hx hb dX7_tell_40 (by decide) ?_
          refine lv_icmp_ne (tgt := 51) hx hb dX7_tell_41 (by decide) (fun hc99 => ?_) (fun hc99 => ?_)
          · have hc99 : ¬ (y88).toInt = 1 := i_ne hc99 rfl rfl
            refine lv_iconst (v := (-1)) hx hb dX7_tell_51 (by decide) ?_
            refine lv_istore_n (lv' := [(3, .int (-1)), (2, .int L25), (0, .ref (ad 55)), (1, .ref (ad 14))]) hx hb dX7_tell_52 rfl hl (by decide) rfl (fun ls hl => ?_)
            refine lv_aload_n hx hb dX7_tell_53 rfl (lv_at hl 3 rfl) ?_
            refine lv_iload_n hx hb dX7_tell_54 rfl (lv_at hl 0 rfl) ?_
            refine lv_iload_n hx hb dX7_tell_55 rfl (lv_at hl 1 rfl) ?_
            refine lv_if_ne (tgt := 63) hx hb dX7_tell_56 (by decide) (fun hc100 => ?_) (fun hc100 => ?_)
            · have hc100 : ¬ (L25).toInt = 0 := i_ne hc100 rfl rfl
              refine lv_iconst (v := 0) hx hb dX7_tell_63 (by decide) ?_
              have f101 : w81 14 = .inr (1, [.int ho52, .int so51, .int mi53, .int ca54, .int ja55, .ref (ad 15), .ref (ad 16), .ref (ad 17), .ref (ad 18), .ref (ad 19), .ref (ad 20), .ref (ad 21), .ref (ad 23), .ref (ad 25)]) := (kk84 14 (by decide)).trans p60
              refine n_Si (na := 3) (As := [.ref (ad 14), .int (-1), .int 0]) (rest := []) X hD hN h (c_F_mayBegin0 l G cI cB cZ cO ad w81 ho52 so51 mi53 ca54 ja55 ((-1) : Int32) (by decide) (by decide) f101) ⟨kv_432, kv_433, kv_388, kv_434⟩ ⟨by decide, by decide, by decide⟩ ⟨Nat.le_of_ble_eq_true rfl, Nat.le_of_ble_eq_true rfl⟩ ⟨Nat.zero_le _, Nat.zero_le _⟩ rfl hl.1 rfl (Nat.le_of_ble_eq_true rfl) dX7_tell_64 (fun r102 w103 H locs hp104 h => ?_)
              obtain ⟨rfl, hr105⟩ := hp104
              rcases hr105 with ⟨hm106, rfl⟩ | ⟨hm106, rfl⟩
              · exfalso; have q8 : (-1 : Int32).toInt = -1 := rfl; omega
              · refine lv_if_eq (tgt := 94) hx hb dX7_tell_67 (by decide) (fun _ => ?_) (fun hc => absurd (by decide) hc)
                refine lv_bipush (v := (-10)) hx hb dX7_tell_94 (by decide) ?_
                refine lv_aload_n hx hb dX7_tell_96 rfl (lv_at hl 2 rfl) ?_
                refine r_get kc7 X h 55 3 (by decide) rfl h90 (by decide) kv_379 rfl dX7_tell_97 ?_
                obtain ⟨z109, e107, t108⟩ := x_sub (x := ((-10) : Int32)) (y := y86) (a := (-10)) (b := (y86).toInt) rfl rfl (by omega) (by omega)
                refine o_isub (z := z109) hx hb dX7_tell_100 e107 ?_
                have hrun110 : runF bs z.toNatClampNeg 151 0 (begF 0) 0 = (-10 - (y86.toNatClampNeg : Int), C30) := by
                  have cs_ := cl_of (x := y86) (by omega)
                  have c3 : 151 - L25.toNatClampNeg = (150 - L25.toNatClampNeg) + 1 := by omega
                  have hi9 : itemF bs z.toNatClampNeg C27.toNatClampNeg C30 (L25.toNatClampNeg = 0) = .inl y86.toNatClampNeg := by rw [item_none (h94.wd0 (by omega)) _ (by omega) (by omega) (by omega) (by omega), h94.s]
                  rw [← hi44, c3, runF_fault (fun q9 => by have q1 := q9.1; rw [h94.k] at q1; have q2 := q9.2; omega) hi9]
                have cs9 := cl_of (x := y86) (by omega)
                exact e_i X h hr hlk dX7_tell_101 ⟨ok83, kx96, ⟨by rw [hrun110]; omega, fun h9 => by exfalso; omega⟩⟩
            · have hc100 : (L25).toInt = 0 := i_eq hc100 rfl rfl
              refine lv_iconst (v := 1) hx hb dX7_tell_59 (by decide) ?_
              refine lv_goto (tgt := 64) hx hb dX7_tell_60 (by decide) ?_
              have f111 : w81 14 = .inr (1, [.int ho52, .int so51, .int mi53, .int ca54, .int ja55, .ref (ad 15), .ref (ad 16), .ref (ad 17), .ref (ad 18), .ref (ad 19), .ref (ad 20), .ref (ad 21), .ref (ad 23), .ref (ad 25)]) := (kk84 14 (by decide)).trans p60
              refine n_Si (na := 3) (As := [.ref (ad 14), .int (-1), .int 1]) (rest := []) X hD hN h (c_F_mayBegin1 l G cI cB cZ cO ad w81 ho52 so51 mi53 ca54 ja55 ((-1) : Int32) (by decide) (by decide) f111) ⟨kv_432, kv_433, kv_388, kv_434⟩ ⟨by decide, by decide, by decide⟩ ⟨Nat.le_of_ble_eq_true rfl, Nat.le_of_ble_eq_true rfl⟩ ⟨Nat.zero_le _, Nat.zero_le _⟩ rfl hl.1 rfl (Nat.le_of_ble_eq_true rfl) dX7_tell_64 (fun r112 w113 H locs hp114 h => ?_)
              obtain ⟨rfl, hr115⟩ := hp114
              rcases hr115 with ⟨hm116, rfl⟩ | ⟨hm116, rfl⟩
              · exfalso; have q8 : (-1 : Int32).toInt = -1 := rfl; omega
              · refine lv_if_eq (tgt := 94) hx hb dX7_tell_67 (by decide) (fun _ => ?_) (fun hc => absurd (by decide) hc)
                refine lv_bipush (v := (-10)) hx hb dX7_tell_94 (by decide) ?_
                refine lv_aload_n hx hb dX7_tell_96 rfl (lv_at hl 2 rfl) ?_
                refine r_get kc7 X h 55 3 (by decide) rfl h90 (by decide) kv_379 rfl dX7_tell_97 ?_
                obtain ⟨z119, e117, t118⟩ := x_sub (x := ((-10) : Int32)) (y := y86) (a := (-10)) (b := (y86).toInt) rfl rfl (by omega) (by omega)
                refine o_isub (z := z119) hx hb dX7_tell_100 e117 ?_
                have hrun120 : runF bs z.toNatClampNeg 151 0 (begF 0) 0 = (-10 - (y86.toNatClampNeg : Int), C30) := by
                  have cs_ := cl_of (x := y86) (by omega)
                  have c3 : 151 - L25.toNatClampNeg = (150 - L25.toNatClampNeg) + 1 := by omega
                  have hi9 : itemF bs z.toNatClampNeg C27.toNatClampNeg C30 (L25.toNatClampNeg = 0) = .inl y86.toNatClampNeg := by rw [item_none (h94.wd0 (by omega)) _ (by omega) (by omega) (by omega) (by omega), h94.s]
                  rw [← hi44, c3, runF_fault (fun q9 => by have q1 := q9.1; rw [h94.k] at q1; have q2 := q9.2; omega) hi9]
                have cs9 := cl_of (x := y86) (by omega)
                exact e_i X h hr hlk dX7_tell_101 ⟨ok83, kx96, ⟨by rw [hrun120]; omega, fun h9 => by exfalso; omega⟩⟩
          · have hc99 : (y88).toInt = 1 := i_eq hc99 rfl rfl
            refine lv_aload_n hx hb dX7_tell_44 rfl (lv_at hl 1 rfl) ?_
            have f121 : w81 56 = .inl (cB, 150, .inl bs) := (kk84 56 (by decide)).trans cf50
            refine n_Vi (na := 0) (As := []) (rest := []) X hD hN h rfl (c_F_wordNumber l G cI cB cZ cO ad w81 z y86 y87 y88 y89 bs ok83 h90 (by omega) f121 (by first | omega | decide | (simp only [k00]; omega)) (by first | omega | decide | (simp only [k00]; omega)) (by first | omega | decide | (simp only [k00]; omega))) ⟨kv_435, kv_436, kv_437, kv_388, kv_438⟩ rfl ⟨by decide, by decide, by decide⟩ ⟨Nat.le_of_ble_eq_true rfl, Nat.le_of_ble_eq_true rfl⟩ ⟨Nat.zero_le _, Nat.zero_le _⟩ (by decide) h90 rfl rfl hl.1 rfl (Nat.le_of_ble_eq_true rfl) dX7_tell_45 (fun r122 w123 H locs hp124 h => ?_)
            obtain ⟨rfl, h125, h126, hwn127⟩ := hp124
            refine lv_goto (tgt := 52) hx hb dX7_tell_48 (by decide) ?_
            refine lv_istore_n (lv' := [(3, .int r122), (2, .int L25), (0, .ref (ad 55)), (1, .ref (ad 14))]) hx hb dX7_tell_52 rfl hl (by decide) rfl (fun ls hl => ?_)
            refine lv_aload_n hx hb dX7_tell_53 rfl (lv_at hl 3 rfl) ?_
            refine lv_iload_n hx hb dX7_tell_54 rfl (lv_at hl 0 rfl) ?_
            refine lv_iload_n hx hb dX7_tell_55 rfl (lv_at hl 1 rfl) ?_
            refine lv_if_ne (tgt := 63) hx hb dX7_tell_56 (by decide) (fun hc128 => ?_) (fun hc128 => ?_)
            · have hc128 : ¬ (L25).toInt = 0 := i_ne hc128 rfl rfl
              refine lv_iconst (v := 0) hx hb dX7_tell_63 (by decide) ?_
              have f129 : w81 14 = .inr (1, [.int ho52, .int so51, .int mi53, .int ca54, .int ja55, .ref (ad 15), .ref (ad 16), .ref (ad 17), .ref (ad 18), .ref (ad 19), .ref (ad 20), .ref (ad 21), .ref (ad 23), .ref (ad 25)]) := (kk84 14 (by decide)).trans p60
              refine n_Si (na := 3) (As := [.ref (ad 14), .int r122, .int 0]) (rest := []) X hD hN h (c_F_mayBegin0 l G cI cB cZ cO ad w81 ho52 so51 mi53 ca54 ja55 r122 (by omega) (by omega) f129) ⟨kv_432, kv_433, kv_388, kv_434⟩ ⟨by decide, by decide, by decide⟩ ⟨Nat.le_of_ble_eq_true rfl, Nat.le_of_ble_eq_true rfl⟩ ⟨Nat.zero_le _, Nat.zero_le _⟩ rfl hl.1 rfl (Nat.le_of_ble_eq_true rfl) dX7_tell_64 (fun r130 w131 H locs hp132 h => ?_)
              obtain ⟨rfl, hr133⟩ := hp132
              rcases hr133 with ⟨hm134, rfl⟩ | ⟨hm134, rfl⟩
              · refine lv_if_eq (tgt := 94) hx hb dX7_tell_67 (by decide) (fun hc => absurd hc (by decide)) (fun _ => ?_)
                refine lv_aload_n hx hb dX7_tell_70 rfl (lv_at hl 2 rfl) ?_
                refine lv_aload_n hx hb dX7_tell_71 rfl (lv_at hl 3 rfl) ?_
                refine lv_iload_n hx hb dX7_tell_72 rfl (lv_at hl 0 rfl) ?_
                have hq135 : r122 = 0 ∨ r122 = 1 ∨ r122 = 2 ∨ r122 = 3 ∨ r122 = 4 ∨ r122 = 5 := by simp only [fa_eq]; simp only [show ((0 : Int32).toInt = 0) from rfl, show ((1 : Int32).toInt = 1) from rfl, show ((2 : Int32).toInt = 2) from rfl, show ((3 : Int32).toInt = 3) from rfl, show ((4 : Int32).toInt = 4) from rfl, show ((5 : Int32).toInt = 5) from rfl]; omega
                rcases hq135 with rfl | rfl | rfl | rfl | rfl | rfl
                · have kw0 : (0 : Int32).toInt = 0 := rfl
                  exfalso; omega
                · have kw1 : (1 : Int32).toInt = 1 := rfl
                  obtain ⟨g137, f136, p138⟩ := (show sA cI 3 (rgA 0 99) (w81 57) from ok83 57 (by decide))
                  have f139 : w81 57 = .inl (cI, 3, .inl g137) := f136
                  refine n_Vi (na := 2) (As := [.ref (ad 14), .int 1]) (rest := []) X hD hN h rfl (c_F_takeNumbers1 l G cI cB cZ cO ad w81 z y86 y87 y88 y89 bs g137 C30 ok83 h90 (by omega) f121 (by omega) (by omega) (by omega) (by omega) f139 p138 hRG97) ⟨kv_439, kv_440, kv_441, kv_388, kv_442⟩ rfl ⟨by decide, by decide, by decide⟩ ⟨Nat.le_of_ble_eq_true rfl, Nat.le_of_ble_eq_true rfl⟩ ⟨Nat.zero_le _, Nat.zero_le _⟩ (by decide) h90 rfl rfl hl.1 rfl (Nat.le_of_ble_eq_true rfl) dX7_tell_73 (fun r140 w141 H locs hp142 h => ?_)
                  obtain ⟨ok143, kk144, hr145, hRG146⟩ := hp142
                  obtain ⟨y147, y148, y149, y150, h151, h152, h153, h154, hit155⟩ := hr145
                  have q156 := txd ok143 h151
                  have kx157 : KX w w141 := KX.tr kx96 (F57.x kk144 h90 h151)
                  rcases hit155 with ⟨⟨g158, f159, hn160, hit161⟩, rfl⟩ | ⟨hit161, rfl⟩
                  · have p162 : rgA 0 99 g158 := nm99 ok143 f159
                    refine lv_if_ne (tgt := 82) hx hb dX7_tell_76 (by decide) (fun _ => ?_) (fun hc => absurd hc (by decide))
                    refine lv_aload_n hx hb dX7_tell_82 rfl (lv_at hl 2 rfl) ?_
                    refine lv_aload_n hx hb dX7_tell_83 rfl (lv_at hl 3 rfl) ?_
                    refine lv_iload_n hx hb dX7_tell_84 rfl (lv_at hl 0 rfl) ?_
                    refine n_Vv (na := 2) (As := [.ref (ad 14), .int 1]) (rest := []) X hD hN h rfl (c_F_carryOut1 l G cI cB cZ cO ad w141 g158 _ _ _ _ _ C30 ok143 f159 p162 h151 hRG146 (by omega) hn160) ⟨kv_443, kv_444, kv_445, kv_388, kv_446⟩ rfl ⟨by decide, by decide, by decide⟩ ⟨Nat.le_of_ble_eq_true rfl, Nat.le_of_ble_eq_true rfl⟩ ⟨Nat.zero_le _, Nat.zero_le _⟩ (by decide) h151 rfl rfl hl.1 rfl (Nat.le_of_ble_eq_true rfl) dX7_tell_85 (fun w164 H locs hp165 h => ?_)
                    obtain ⟨ok166, kk167, hRG168⟩ := hp165
                    have kx169 : KX w w164 := KX.tr kx157 kk167.1
                    obtain ⟨z170, e171, t172⟩ := x_add (x := L25) (y := 1) (a := L25.toInt) (b := 1) rfl rfl (by omega) (by omega)
                    have n173 : z170.toNatClampNeg = L25.toNatClampNeg + 1 := cl_addn (x := L25) (y := 1) rfl rfl t172 (by omega) (by decide)
                    refine lv_iinc (v := z170) (lv' := [(2, .int z170), (3, .int 1), (0, .ref (ad 55)), (1, .ref (ad 14))]) hx hb dX7_tell_88 hl (k := 1) rfl e171 (by decide) rfl (fun ls hl => ?_)
                    refine lv_goto (tgt := 12) hx hb dX7_tell_91 (by decide) ?_
                    have f174 : w164 55 = .inr (5, [.ref (ad 56), .ref (ad 57), .int z, .int y147, .int y148, .int y149, .int y150]) := (kk167.2 55 (by decide)).trans h151
                    have hb175 : runF bs z.toNatClampNeg (151 - z170.toNatClampNeg) y148.toNatClampNeg (layCF C30 (g158 0) (g158 1) (g158 2)) z170.toNatClampNeg = runF bs z.toNatClampNeg 151 0 (begF 0) 0 := by
                      rw [← hi44, n173]
                      have c3 : 151 - L25.toNatClampNeg = (150 - L25.toNatClampNeg) + 1 := by omega
                      have c4 : 151 - (L25.toNatClampNeg + 1) = 150 - L25.toNatClampNeg := by omega
                      have hi9 : itemF bs z.toNatClampNeg C27.toNatClampNeg C30 (L25.toNatClampNeg = 0) = .inr (y148.toNatClampNeg, layCF C30 (g158 0) (g158 1) (g158 2)) := by rw [item_1 (h94.wd1 (by omega) hwn127) (by omega) (by omega), h94.e]; exact hit161
                      rw [c3, c4, runF_next (fun q9 => by have q1 := q9.1; rw [h94.k] at q1; have q2 := q9.2; omega) hi9]
                    have hp176 : z170.toInt ≤ y148.toInt := by
                      have ca_ := cl_of (x := C27) (by omega)
                      have cz_ := cl_of (x := z) (by omega)
                      have cb_ := cl_of (x := y87) (by omega)
                      have cn_ := cl_of (x := y148) (by omega)
                      have t1 := tS_ge (bs := bs) (len := z.toNatClampNeg) (p := C27.toNatClampNeg) (by omega)
                      have t2 := tE_ge (bs := bs) (len := z.toNatClampNeg) (p := C27.toNatClampNeg) (by omega)
                      have t3 := t2.2.2 (by rw [h94.k]; omega)
                      have t4 := it1_ge (by rw [← h94.e]; omega) hit161
                      rw [h94.e] at t2 t3
                      omega
                    have f177 : w141 56 = .inl (cB, 150, .inl bs) := (kk144 56 (by decide) (by decide)).trans f121
                    have f178 : w164 56 = .inl (cB, 150, .inl bs) := (kk167.2 56 (by decide)).trans f177
                    exact ih34  z170 y147 y148 y149 y150 (layCF C30 (g158 0) (g158 1) (g158 2)) w164 _ _ _ (by omega) (by omega) (by omega) (by omega) (by omega) (by omega) (by omega) hRG168 hb175 (fun h9 => by omega) hp176 ok166 kx169 f174 f178 (by omega) h (lv_sub hl [0, 2, 3] rfl)
                  · refine lv_if_ne (tgt := 82) hx hb dX7_tell_76 (by decide) (fun hc => absurd (by decide) hc) (fun _ => ?_)
                    refine lv_goto (tgt := 94) hx hb dX7_tell_79 (by decide) ?_
                    refine lv_bipush (v := (-10)) hx hb dX7_tell_94 (by decide) ?_
                    refine lv_aload_n hx hb dX7_tell_96 rfl (lv_at hl 2 rfl) ?_
                    refine r_get kc7 X h 55 3 (by decide) rfl h151 (by decide) kv_379 rfl dX7_tell_97 ?_
                    obtain ⟨z181, e179, t180⟩ := x_sub (x := ((-10) : Int32)) (y := y147) (a := (-10)) (b := (y147).toInt) rfl rfl (by omega) (by omega)
                    refine o_isub (z := z181) hx hb dX7_tell_100 e179 ?_
                    have hrun182 : runF bs z.toNatClampNeg 151 0 (begF 0) 0 = (-10 - (y147.toNatClampNeg : Int), C30) := by
                      have cs_ := cl_of (x := y147) (by omega)
                      have c3 : 151 - L25.toNatClampNeg = (150 - L25.toNatClampNeg) + 1 := by omega
                      have hi9 : itemF bs z.toNatClampNeg C27.toNatClampNeg C30 (L25.toNatClampNeg = 0) = .inl y147.toNatClampNeg := by rw [item_1 (h94.wd1 (by omega) hwn127) (by omega) (by omega), h94.e]; exact hit161
                      rw [← hi44, c3, runF_fault (fun q9 => by have q1 := q9.1; rw [h94.k] at q1; have q2 := q9.2; omega) hi9]
                    have cs9 := cl_of (x := y147) (by omega)
                    exact e_i X h hr hlk dX7_tell_101 ⟨ok143, kx157, ⟨by rw [hrun182]; omega, fun h9 => by exfalso; omega⟩⟩
                · have kw2 : (2 : Int32).toInt = 2 := rfl
                  obtain ⟨g184, f183, p185⟩ := (show sA cI 3 (rgA 0 99) (w81 57) from ok83 57 (by decide))
                  have f186 : w81 57 = .inl (cI, 3, .inl g184) := f183
                  refine n_Vi (na := 2) (As := [.ref (ad 14), .int 2]) (rest := []) X hD hN h rfl (c_F_takeNumbers2 l G cI cB cZ cO ad w81 z y86 y87 y88 y89 bs g184 C30 ok83 h90 (by omega) f121 (by omega) (by omega) (by omega) (by omega) f186 p185 hRG97) ⟨kv_439, kv_440, kv_441, kv_388, kv_442⟩ rfl ⟨by decide, by decide, by decide⟩ ⟨Nat.le_of_ble_eq_true rfl, Nat.le_of_ble_eq_true rfl⟩ ⟨Nat.zero_le _, Nat.zero_le _⟩ (by decide) h90 rfl rfl hl.1 rfl (Nat.le_of_ble_eq_true rfl) dX7_tell_73 (fun r187 w188 H locs hp189 h => ?_)
                  obtain ⟨ok190, kk191, hr192, hRG193⟩ := hp189
                  obtain ⟨y194, y195, y196, y197, h198, h199, h200, h201, hit202⟩ := hr192
                  have q203 := txd ok190 h198
                  have kx204 : KX w w188 := KX.tr kx96 (F57.x kk191 h90 h198)
                  rcases hit202 with ⟨⟨g205, f206, hn207, hit208⟩, rfl⟩ | ⟨hit208, rfl⟩
                  · have p209 : rgA 0 99 g205 := nm99 ok190 f206
                    refine lv_if_ne (tgt := 82) hx hb dX7_tell_76 (by decide) (fun _ => ?_) (fun hc => absurd hc (by decide))
                    refine lv_aload_n hx hb dX7_tell_82 rfl (lv_at hl 2 rfl) ?_
                    refine lv_aload_n hx hb dX7_tell_83 rfl (lv_at hl 3 rfl) ?_
                    refine lv_iload_n hx hb dX7_tell_84 rfl (lv_at hl 0 rfl) ?_
                    refine n_Vv (na := 2) (As := [.ref (ad 14), .int 2]) (rest := []) X hD hN h rfl (c_F_carryOut2 l G cI cB cZ cO ad w188 g205 _ _ _ _ _ C30 ok190 f206 p209 h198 hRG193 (by omega)) ⟨kv_443, kv_444, kv_445, kv_388, kv_446⟩ rfl ⟨by decide, by decide, by decide⟩ ⟨Nat.le_of_ble_eq_true rfl, Nat.le_of_ble_eq_true rfl⟩ ⟨Nat.zero_le _, Nat.zero_le _⟩ (by decide) h198 rfl rfl hl.1 rfl (Nat.le_of_ble_eq_true rfl) dX7_tell_85 (fun w211 H locs hp212 h => ?_)
                    obtain ⟨ok213, kk214, hRG215⟩ := hp212
                    have kx216 : KX w w211 := KX.tr kx204 kk214.1
                    obtain ⟨z217, e218, t219⟩ := x_add (x := L25) (y := 1) (a := L25.toInt) (b := 1) rfl rfl (by omega) (by omega)
                    have n220 : z217.toNatClampNeg = L25.toNatClampNeg + 1 := cl_addn (x := L25) (y := 1) rfl rfl t219 (by omega) (by decide)
                    refine lv_iinc (v := z217) (lv' := [(2, .int z217), (3, .int 2), (0, .ref (ad 55)), (1, .ref (ad 14))]) hx hb dX7_tell_88 hl (k := 1) rfl e218 (by decide) rfl (fun ls hl => ?_)
                    refine lv_goto (tgt := 12) hx hb dX7_tell_91 (by decide) ?_
                    have f221 : w211 55 = .inr (5, [.ref (ad 56), .ref (ad 57), .int z, .int y194, .int y195, .int y196, .int y197]) := (kk214.2 55 (by decide)).trans h198
                    have hb222 : runF bs z.toNatClampNeg (151 - z217.toNatClampNeg) y195.toNatClampNeg (layJF C30 (g205 0)) z217.toNatClampNeg = runF bs z.toNatClampNeg 151 0 (begF 0) 0 := by
                      rw [← hi44, n220]
                      have c3 : 151 - L25.toNatClampNeg = (150 - L25.toNatClampNeg) + 1 := by omega
                      have c4 : 151 - (L25.toNatClampNeg + 1) = 150 - L25.toNatClampNeg := by omega
                      have hi9 : itemF bs z.toNatClampNeg C27.toNatClampNeg C30 (L25.toNatClampNeg = 0) = .inr (y195.toNatClampNeg, layJF C30 (g205 0)) := by rw [item_2 (h94.wd1 (by omega) hwn127) (by omega) (by omega), h94.e]; exact hit208
                      rw [c3, c4, runF_next (fun q9 => by have q1 := q9.1; rw [h94.k] at q1; have q2 := q9.2; omega) hi9]
                    have hp223 : z217.toInt ≤ y195.toInt := by
                      have ca_ := cl_of (x := C27) (by omega)
                      have cz_ := cl_of (x := z) (by omega)
                      have cb_ := cl_of (x := y87) (by omega)
                      have cn_ := cl_of (x := y195) (by omega)
                      have t1 := tS_ge (bs := bs) (len := z.toNatClampNeg) (p := C27.toNatClampNeg) (by omega)
                      have t2 := tE_ge (bs := bs) (len := z.toNatClampNeg) (p := C27.toNatClampNeg) (by omega)
                      have t3 := t2.2.2 (by rw [h94.k]; omega)
                      have t4 := it2_ge (by rw [← h94.e]; omega) hit208
                      rw [h94.e] at t2 t3
                      omega
                    have f224 : w188 56 = .inl (cB, 150, .inl bs) := (kk191 56 (by decide) (by decide)).trans f121
                    have f225 : w211 56 = .inl (cB, 150, .inl bs) := (kk214.2 56 (by decide)).trans f224
                    exact ih34  z217 y194 y195 y196 y197 (layJF C30 (g205 0)) w211 _ _ _ (by omega) (by omega) (by omega) (by omega) (by omega) (by omega) (by omega) hRG215 hb222 (fun h9 => by omega) hp223 ok213 kx216 f221 f225 (by omega) h (lv_sub hl [0, 2, 3] rfl)
                  · refine lv_if_ne (tgt := 82) hx hb dX7_tell_76 (by decide) (fun hc => absurd (by decide) hc) (fun _ => ?_)
                    refine lv_goto (tgt := 94) hx hb dX7_tell_79 (by decide) ?_
                    refine lv_bipush (v := (-10)) hx hb dX7_tell_94 (by decide) ?_
                    refine lv_aload_n hx hb dX7_tell_96 rfl (lv_at hl 2 rfl) ?_
                    refine r_get kc7 X h 55 3 (by decide) rfl h198 (by decide) kv_379 rfl dX7_tell_97 ?_
                    obtain ⟨z228, e226, t227⟩ := x_sub (x := ((-10) : Int32)) (y := y194) (a := (-10)) (b := (y194).toInt) rfl rfl (by omega) (by omega)
                    refine o_isub (z := z228) hx hb dX7_tell_100 e226 ?_
                    have hrun229 : runF bs z.toNatClampNeg 151 0 (begF 0) 0 = (-10 - (y194.toNatClampNeg : Int), C30) := by
                      have cs_ := cl_of (x := y194) (by omega)
                      have c3 : 151 - L25.toNatClampNeg = (150 - L25.toNatClampNeg) + 1 := by omega
                      have hi9 : itemF bs z.toNatClampNeg C27.toNatClampNeg C30 (L25.toNatClampNeg = 0) = .inl y194.toNatClampNeg := by rw [item_2 (h94.wd1 (by omega) hwn127) (by omega) (by omega), h94.e]; exact hit208
                      rw [← hi44, c3, runF_fault (fun q9 => by have q1 := q9.1; rw [h94.k] at q1; have q2 := q9.2; omega) hi9]
                    have cs9 := cl_of (x := y194) (by omega)
                    exact e_i X h hr hlk dX7_tell_101 ⟨ok190, kx204, ⟨by rw [hrun229]; omega, fun h9 => by exfalso; omega⟩⟩
                · have kw3 : (3 : Int32).toInt = 3 := rfl
                  obtain ⟨g231, f230, p232⟩ := (show sA cI 3 (rgA 0 99) (w81 57) from ok83 57 (by decide))
                  have f233 : w81 57 = .inl (cI, 3, .inl g231) := f230
                  refine n_Vi (na := 2) (As := [.ref (ad 14), .int 3]) (rest := []) X hD hN h rfl (c_F_takeNumbers3 l G cI cB cZ cO ad w81 z y86 y87 y88 y89 bs g231 C30 ok83 h90 (by omega) f121 (by omega) (by omega) (by omega) (by omega) f233 p232 hRG97) ⟨kv_439, kv_440, kv_441, kv_388, kv_442⟩ rfl ⟨by decide, by decide, by decide⟩ ⟨Nat.le_of_ble_eq_true rfl, Nat.le_of_ble_eq_true rfl⟩ ⟨Nat.zero_le _, Nat.zero_le _⟩ (by decide) h90 rfl rfl hl.1 rfl (Nat.le_of_ble_eq_true rfl) dX7_tell_73 (fun r234 w235 H locs hp236 h => ?_)
                  obtain ⟨ok237, kk238, hr239, hRG240⟩ := hp236
                  obtain ⟨y241, y242, y243, y244, h245, h246, h247, h248, hit249⟩ := hr239
                  have q250 := txd ok237 h245
                  have kx251 : KX w w235 := KX.tr kx96 (F57.x kk238 h90 h245)
                  rcases hit249 with ⟨⟨g252, f253, hn254, hit255⟩, rfl⟩ | ⟨hit255, rfl⟩
                  · have p256 : rgA 0 99 g252 := nm99 ok237 f253
                    refine lv_if_ne (tgt := 82) hx hb dX7_tell_76 (by decide) (fun _ => ?_) (fun hc => absurd hc (by decide))
                    refine lv_aload_n hx hb dX7_tell_82 rfl (lv_at hl 2 rfl) ?_
                    refine lv_aload_n hx hb dX7_tell_83 rfl (lv_at hl 3 rfl) ?_
                    refine lv_iload_n hx hb dX7_tell_84 rfl (lv_at hl 0 rfl) ?_
                    refine n_Vv (na := 2) (As := [.ref (ad 14), .int 3]) (rest := []) X hD hN h rfl (c_F_carryOut3 l G cI cB cZ cO ad w235 g252 _ _ _ _ _ C30 ok237 f253 p256 h245 hRG240 hn254) ⟨kv_443, kv_444, kv_445, kv_388, kv_446⟩ rfl ⟨by decide, by decide, by decide⟩ ⟨Nat.le_of_ble_eq_true rfl, Nat.le_of_ble_eq_true rfl⟩ ⟨Nat.zero_le _, Nat.zero_le _⟩ (by decide) h245 rfl rfl hl.1 rfl (Nat.le_of_ble_eq_true rfl) dX7_tell_85 (fun w258 H locs hp259 h => ?_)
                    obtain ⟨ok260, kk261, hRG262⟩ := hp259
                    have kx263 : KX w w258 := KX.tr kx251 kk261.1
                    obtain ⟨z264, e265, t266⟩ := x_add (x := L25) (y := 1) (a := L25.toInt) (b := 1) rfl rfl (by omega) (by omega)
                    have n267 : z264.toNatClampNeg = L25.toNatClampNeg + 1 := cl_addn (x := L25) (y := 1) rfl rfl t266 (by omega) (by decide)
                    refine lv_iinc (v := z264) (lv' := [(2, .int z264), (3, .int 3), (0, .ref (ad 55)), (1, .ref (ad 14))]) hx hb dX7_tell_88 hl (k := 1) rfl e265 (by decide) rfl (fun ls hl => ?_)
                    refine lv_goto (tgt := 12) hx hb dX7_tell_91 (by decide) ?_
                    have f268 : w258 55 = .inr (5, [.ref (ad 56), .ref (ad 57), .int z, .int y241, .int y242, .int y243, .int y244]) := (kk261.2 55 (by decide)).trans h245
                    have hb269 : runF bs z.toNatClampNeg (151 - z264.toNatClampNeg) y242.toNatClampNeg (goLaF C30 (g252 0) (g252 1).toNatClampNeg) z264.toNatClampNeg = runF bs z.toNatClampNeg 151 0 (begF 0) 0 := by
                      rw [← hi44, n267]
                      have c3 : 151 - L25.toNatClampNeg = (150 - L25.toNatClampNeg) + 1 := by omega
                      have c4 : 151 - (L25.toNatClampNeg + 1) = 150 - L25.toNatClampNeg := by omega
                      have hi9 : itemF bs z.toNatClampNeg C27.toNatClampNeg C30 (L25.toNatClampNeg = 0) = .inr (y242.toNatClampNeg, goLaF C30 (g252 0) (g252 1).toNatClampNeg) := by rw [item_3 (h94.wd1 (by omega) hwn127) (by omega), h94.e]; exact hit255
                      rw [c3, c4, runF_next (fun q9 => by have q1 := q9.1; rw [h94.k] at q1; have q2 := q9.2; omega) hi9]
                    have hp270 : z264.toInt ≤ y242.toInt := by
                      have ca_ := cl_of (x := C27) (by omega)
                      have cz_ := cl_of (x := z) (by omega)
                      have cb_ := cl_of (x := y87) (by omega)
                      have cn_ := cl_of (x := y242) (by omega)
                      have t1 := tS_ge (bs := bs) (len := z.toNatClampNeg) (p := C27.toNatClampNeg) (by omega)
                      have t2 := tE_ge (bs := bs) (len := z.toNatClampNeg) (p := C27.toNatClampNeg) (by omega)
                      have t3 := t2.2.2 (by rw [h94.k]; omega)
                      have t4 := it3_ge (by rw [← h94.e]; omega) hit255
                      rw [h94.e] at t2 t3
                      omega
                    have f271 : w235 56 = .inl (cB, 150, .inl bs) := (kk238 56 (by decide) (by decide)).trans f121
                    have f272 : w258 56 = .inl (cB, 150, .inl bs) := (kk261.2 56 (by decide)).trans f271
                    exact ih34  z264 y241 y242 y243 y244 (goLaF C30 (g252 0) (g252 1).toNatClampNeg) w258 _ _ _ (by omega) (by omega) (by omega) (by omega) (by omega) (by omega) (by omega) hRG262 hb269 (fun h9 => by omega) hp270 ok260 kx263 f268 f272 (by omega) h (lv_sub hl [0, 2, 3] rfl)
                  · refine lv_if_ne (tgt := 82) hx hb dX7_tell_76 (by decide) (fun hc => absurd (by decide) hc) (fun _ => ?_)
                    refine lv_goto (tgt := 94) hx hb dX7_tell_79 (by decide) ?_
                    refine lv_bipush (v := (-10)) hx hb dX7_tell_94 (by decide) ?_
                    refine lv_aload_n hx hb dX7_tell_96 rfl (lv_at hl 2 rfl) ?_
                    refine r_get kc7 X h 55 3 (by decide) rfl h245 (by decide) kv_379 rfl dX7_tell_97 ?_
                    obtain ⟨z275, e273, t274⟩ := x_sub (x := ((-10) : Int32)) (y := y241) (a := (-10)) (b := (y241).toInt) rfl rfl (by omega) (by omega)
                    refine o_isub (z := z275) hx hb dX7_tell_100 e273 ?_
                    have hrun276 : runF bs z.toNatClampNeg 151 0 (begF 0) 0 = (-10 - (y241.toNatClampNeg : Int), C30) := by
                      have cs_ := cl_of (x := y241) (by omega)
                      have c3 : 151 - L25.toNatClampNeg = (150 - L25.toNatClampNeg) + 1 := by omega
                      have hi9 : itemF bs z.toNatClampNeg C27.toNatClampNeg C30 (L25.toNatClampNeg = 0) = .inl y241.toNatClampNeg := by rw [item_3 (h94.wd1 (by omega) hwn127) (by omega), h94.e]; exact hit255
                      rw [← hi44, c3, runF_fault (fun q9 => by have q1 := q9.1; rw [h94.k] at q1; have q2 := q9.2; omega) hi9]
                    have cs9 := cl_of (x := y241) (by omega)
                    exact e_i X h hr hlk dX7_tell_101 ⟨ok237, kx251, ⟨by rw [hrun276]; omega, fun h9 => by exfalso; omega⟩⟩
                · have kw4 : (4 : Int32).toInt = 4 := rfl
                  obtain ⟨g278, f277, p279⟩ := (show sA cI 3 (rgA 0 99) (w81 57) from ok83 57 (by decide))
                  have f280 : w81 57 = .inl (cI, 3, .inl g278) := f277
                  refine n_Vi (na := 2) (As := [.ref (ad 14), .int 4]) (rest := []) X hD hN h rfl (c_F_takeNumbers4 l G cI cB cZ cO ad w81 z y86 y87 y88 y89 bs g278 C30 ok83 h90 (by omega) f121 (by omega) (by omega) (by omega) (by omega) f280 p279 hRG97) ⟨kv_439, kv_440, kv_441, kv_388, kv_442⟩ rfl ⟨by decide, by decide, by decide⟩ ⟨Nat.le_of_ble_eq_true rfl, Nat.le_of_ble_eq_true rfl⟩ ⟨Nat.zero_le _, Nat.zero_le _⟩ (by decide) h90 rfl rfl hl.1 rfl (Nat.le_of_ble_eq_true rfl) dX7_tell_73 (fun r281 w282 H locs hp283 h => ?_)
                  obtain ⟨ok284, kk285, hr286, hRG287⟩ := hp283
                  obtain ⟨y288, y289, y290, y291, h292, h293, h294, h295, hit296⟩ := hr286
                  have q297 := txd ok284 h292
                  have kx298 : KX w w282 := KX.tr kx96 (F57.x kk285 h90 h292)
                  rcases hit296 with ⟨⟨g299, f300, hn301, hit302⟩, rfl⟩ | ⟨hit302, rfl⟩
                  · have p303 : rgA 0 99 g299 := nm99 ok284 f300
                    refine lv_if_ne (tgt := 82) hx hb dX7_tell_76 (by decide) (fun _ => ?_) (fun hc => absurd hc (by decide))
                    refine lv_aload_n hx hb dX7_tell_82 rfl (lv_at hl 2 rfl) ?_
                    refine lv_aload_n hx hb dX7_tell_83 rfl (lv_at hl 3 rfl) ?_
                    refine lv_iload_n hx hb dX7_tell_84 rfl (lv_at hl 0 rfl) ?_
                    refine n_Vv (na := 2) (As := [.ref (ad 14), .int 4]) (rest := []) X hD hN h rfl (c_F_carryOut4 l G cI cB cZ cO ad w282 g299 _ _ _ _ _ C30 ok284 f300 p303 h292 hRG287 hn301) ⟨kv_443, kv_444, kv_445, kv_388, kv_446⟩ rfl ⟨by decide, by decide, by decide⟩ ⟨Nat.le_of_ble_eq_true rfl, Nat.le_of_ble_eq_true rfl⟩ ⟨Nat.zero_le _, Nat.zero_le _⟩ (by decide) h292 rfl rfl hl.1 rfl (Nat.le_of_ble_eq_true rfl) dX7_tell_85 (fun w305 H locs hp306 h => ?_)
                    obtain ⟨ok307, kk308, hRG309⟩ := hp306
                    have kx310 : KX w w305 := KX.tr kx298 kk308.1
                    obtain ⟨z311, e312, t313⟩ := x_add (x := L25) (y := 1) (a := L25.toInt) (b := 1) rfl rfl (by omega) (by omega)
                    have n314 : z311.toNatClampNeg = L25.toNatClampNeg + 1 := cl_addn (x := L25) (y := 1) rfl rfl t313 (by omega) (by decide)
                    refine lv_iinc (v := z311) (lv' := [(2, .int z311), (3, .int 4), (0, .ref (ad 55)), (1, .ref (ad 14))]) hx hb dX7_tell_88 hl (k := 1) rfl e312 (by decide) rfl (fun ls hl => ?_)
                    refine lv_goto (tgt := 12) hx hb dX7_tell_91 (by decide) ?_
                    have f315 : w305 55 = .inr (5, [.ref (ad 56), .ref (ad 57), .int z, .int y288, .int y289, .int y290, .int y291]) := (kk308.2 55 (by decide)).trans h292
                    have hb316 : runF bs z.toNatClampNeg (151 - z311.toNatClampNeg) y289.toNatClampNeg (goPoF C30 (g299 0).toNatClampNeg (g299 1).toNatClampNeg) z311.toNatClampNeg = runF bs z.toNatClampNeg 151 0 (begF 0) 0 := by
                      rw [← hi44, n314]
                      have c3 : 151 - L25.toNatClampNeg = (150 - L25.toNatClampNeg) + 1 := by omega
                      have c4 : 151 - (L25.toNatClampNeg + 1) = 150 - L25.toNatClampNeg := by omega
                      have hi9 : itemF bs z.toNatClampNeg C27.toNatClampNeg C30 (L25.toNatClampNeg = 0) = .inr (y289.toNatClampNeg, goPoF C30 (g299 0).toNatClampNeg (g299 1).toNatClampNeg) := by rw [item_4 (h94.wd1 (by omega) hwn127) (by omega), h94.e]; exact hit302
                      rw [c3, c4, runF_next (fun q9 => by have q1 := q9.1; rw [h94.k] at q1; have q2 := q9.2; omega) hi9]
                    have hp317 : z311.toInt ≤ y289.toInt := by
                      have ca_ := cl_of (x := C27) (by omega)
                      have cz_ := cl_of (x := z) (by omega)
                      have cb_ := cl_of (x := y87) (by omega)
                      have cn_ := cl_of (x := y289) (by omega)
                      have t1 := tS_ge (bs := bs) (len := z.toNatClampNeg) (p := C27.toNatClampNeg) (by omega)
                      have t2 := tE_ge (bs := bs) (len := z.toNatClampNeg) (p := C27.toNatClampNeg) (by omega)
                      have t3 := t2.2.2 (by rw [h94.k]; omega)
                      have t4 := it4_ge (by rw [← h94.e]; omega) hit302
                      rw [h94.e] at t2 t3
                      omega
                    have f318 : w282 56 = .inl (cB, 150, .inl bs) := (kk285 56 (by decide) (by decide)).trans f121
                    have f319 : w305 56 = .inl (cB, 150, .inl bs) := (kk308.2 56 (by decide)).trans f318
                    exact ih34  z311 y288 y289 y290 y291 (goPoF C30 (g299 0).toNatClampNeg (g299 1).toNatClampNeg) w305 _ _ _ (by omega) (by omega) (by omega) (by omega) (by omega) (by omega) (by omega) hRG309 hb316 (fun h9 => by omega) hp317 ok307 kx310 f315 f319 (by omega) h (lv_sub hl [0, 2, 3] rfl)
                  · refine lv_if_ne (tgt := 82) hx hb dX7_tell_76 (by decide) (fun hc => absurd (by decide) hc) (fun _ => ?_)
                    refine lv_goto (tgt := 94) hx hb dX7_tell_79 (by decide) ?_
                    refine lv_bipush (v := (-10)) hx hb dX7_tell_94 (by decide) ?_
                    refine lv_aload_n hx hb dX7_tell_96 rfl (lv_at hl 2 rfl) ?_
                    refine r_get kc7 X h 55 3 (by decide) rfl h292 (by decide) kv_379 rfl dX7_tell_97 ?_
                    obtain ⟨z322, e320, t321⟩ := x_sub (x := ((-10) : Int32)) (y := y288) (a := (-10)) (b := (y288).toInt) rfl rfl (by omega) (by omega)
                    refine o_isub (z := z322) hx hb dX7_tell_100 e320 ?_
                    have hrun323 : runF bs z.toNatClampNeg 151 0 (begF 0) 0 = (-10 - (y288.toNatClampNeg : Int), C30) := by
                      have cs_ := cl_of (x := y288) (by omega)
                      have c3 : 151 - L25.toNatClampNeg = (150 - L25.toNatClampNeg) + 1 := by omega
                      have hi9 : itemF bs z.toNatClampNeg C27.toNatClampNeg C30 (L25.toNatClampNeg = 0) = .inl y288.toNatClampNeg := by rw [item_4 (h94.wd1 (by omega) hwn127) (by omega), h94.e]; exact hit302
                      rw [← hi44, c3, runF_fault (fun q9 => by have q1 := q9.1; rw [h94.k] at q1; have q2 := q9.2; omega) hi9]
                    have cs9 := cl_of (x := y288) (by omega)
                    exact e_i X h hr hlk dX7_tell_101 ⟨ok284, kx298, ⟨by rw [hrun323]; omega, fun h9 => by exfalso; omega⟩⟩
                · have kw5 : (5 : Int32).toInt = 5 := rfl
                  obtain ⟨g325, f324, p326⟩ := (show sA cI 3 (rgA 0 99) (w81 57) from ok83 57 (by decide))
                  have f327 : w81 57 = .inl (cI, 3, .inl g325) := f324
                  refine n_Vi (na := 2) (As := [.ref (ad 14), .int 5]) (rest := []) X hD hN h rfl (c_F_takeNumbers5 l G cI cB cZ cO ad w81 z y86 y87 y88 y89 bs g325 C30 ok83 h90 (by omega) f121 (by omega) (by omega) (by omega) (by omega) f327 p326 hRG97) ⟨kv_439, kv_440, kv_441, kv_388, kv_442⟩ rfl ⟨by decide, by decide, by decide⟩ ⟨Nat.le_of_ble_eq_true rfl, Nat.le_of_ble_eq_true rfl⟩ ⟨Nat.zero_le _, Nat.zero_le _⟩ (by decide) h90 rfl rfl hl.1 rfl (Nat.le_of_ble_eq_true rfl) dX7_tell_73 (fun r328 w329 H locs hp330 h => ?_)
                  obtain ⟨ok331, kk332, hr333, hRG334⟩ := hp330
                  obtain ⟨y335, y336, y337, y338, h339, h340, h341, h342, hit343⟩ := hr333
                  have q344 := txd ok331 h339
                  have kx345 : KX w w329 := KX.tr kx96 (F57.x kk332 h90 h339)
                  rcases hit343 with ⟨⟨g346, f347, hn348, hit349⟩, rfl⟩ | ⟨hit349, rfl⟩
                  · have p350 : rgA 0 99 g346 := nm99 ok331 f347
                    refine lv_if_ne (tgt := 82) hx hb dX7_tell_76 (by decide) (fun _ => ?_) (fun hc => absurd hc (by decide))
                    refine lv_aload_n hx hb dX7_tell_82 rfl (lv_at hl 2 rfl) ?_
                    refine lv_aload_n hx hb dX7_tell_83 rfl (lv_at hl 3 rfl) ?_
                    refine lv_iload_n hx hb dX7_tell_84 rfl (lv_at hl 0 rfl) ?_
                    refine n_Vv (na := 2) (As := [.ref (ad 14), .int 5]) (rest := []) X hD hN h rfl (c_F_carryOut5 l G cI cB cZ cO ad w329 g346 _ _ _ _ _ C30 ok331 f347 p350 h339 hRG334 ) ⟨kv_443, kv_444, kv_445, kv_388, kv_446⟩ rfl ⟨by decide, by decide, by decide⟩ ⟨Nat.le_of_ble_eq_true rfl, Nat.le_of_ble_eq_true rfl⟩ ⟨Nat.zero_le _, Nat.zero_le _⟩ (by decide) h339 rfl rfl hl.1 rfl (Nat.le_of_ble_eq_true rfl) dX7_tell_85 (fun w352 H locs hp353 h => ?_)
                    obtain ⟨ok354, kk355, hRG356⟩ := hp353
                    have kx357 : KX w w352 := KX.tr kx345 kk355.1
                    obtain ⟨z358, e359, t360⟩ := x_add (x := L25) (y := 1) (a := L25.toInt) (b := 1) rfl rfl (by omega) (by omega)
                    have n361 : z358.toNatClampNeg = L25.toNatClampNeg + 1 := cl_addn (x := L25) (y := 1) rfl rfl t360 (by omega) (by decide)
                    refine lv_iinc (v := z358) (lv' := [(2, .int z358), (3, .int 5), (0, .ref (ad 55)), (1, .ref (ad 14))]) hx hb dX7_tell_88 hl (k := 1) rfl e359 (by decide) rfl (fun ls hl => ?_)
                    refine lv_goto (tgt := 12) hx hb dX7_tell_91 (by decide) ?_
                    have f362 : w352 55 = .inr (5, [.ref (ad 56), .ref (ad 57), .int z, .int y335, .int y336, .int y337, .int y338]) := (kk355.2 55 (by decide)).trans h339
                    have hb363 : runF bs z.toNatClampNeg (151 - z358.toNatClampNeg) y336.toNatClampNeg (goHsF (g346 0).toNatClampNeg C30) z358.toNatClampNeg = runF bs z.toNatClampNeg 151 0 (begF 0) 0 := by
                      rw [← hi44, n361]
                      have c3 : 151 - L25.toNatClampNeg = (150 - L25.toNatClampNeg) + 1 := by omega
                      have c4 : 151 - (L25.toNatClampNeg + 1) = 150 - L25.toNatClampNeg := by omega
                      have hi9 : itemF bs z.toNatClampNeg C27.toNatClampNeg C30 (L25.toNatClampNeg = 0) = .inr (y336.toNatClampNeg, goHsF (g346 0).toNatClampNeg C30) := by rw [item_5 (h94.wd1 (by omega) hwn127) (by omega), h94.e]; exact hit349
                      rw [c3, c4, runF_next (fun q9 => by have q1 := q9.1; rw [h94.k] at q1; have q2 := q9.2; omega) hi9]
                    have hp364 : z358.toInt ≤ y336.toInt := by
                      have ca_ := cl_of (x := C27) (by omega)
                      have cz_ := cl_of (x := z) (by omega)
                      have cb_ := cl_of (x := y87) (by omega)
                      have cn_ := cl_of (x := y336) (by omega)
                      have t1 := tS_ge (bs := bs) (len := z.toNatClampNeg) (p := C27.toNatClampNeg) (by omega)
                      have t2 := tE_ge (bs := bs) (len := z.toNatClampNeg) (p := C27.toNatClampNeg) (by omega)
                      have t3 := t2.2.2 (by rw [h94.k]; omega)
                      have t4 := it5_ge (by rw [← h94.e]; omega) hit349
                      rw [h94.e] at t2 t3
                      omega
                    have f365 : w329 56 = .inl (cB, 150, .inl bs) := (kk332 56 (by decide) (by decide)).trans f121
                    have f366 : w352 56 = .inl (cB, 150, .inl bs) := (kk355.2 56 (by decide)).trans f365
                    exact ih34  z358 y335 y336 y337 y338 (goHsF (g346 0).toNatClampNeg C30) w352 _ _ _ (by omega) (by omega) (by omega) (by omega) (by omega) (by omega) (by omega) hRG356 hb363 (fun h9 => by omega) hp364 ok354 kx357 f362 f366 (by omega) h (lv_sub hl [0, 2, 3] rfl)
                  · refine lv_if_ne (tgt := 82) hx hb dX7_tell_76 (by decide) (fun hc => absurd (by decide) hc) (fun _ => ?_)
                    refine lv_goto (tgt := 94) hx hb dX7_tell_79 (by decide) ?_
                    refine lv_bipush (v := (-10)) hx hb dX7_tell_94 (by decide) ?_
                    refine lv_aload_n hx hb dX7_tell_96 rfl (lv_at hl 2 rfl) ?_
                    refine r_get kc7 X h 55 3 (by decide) rfl h339 (by decide) kv_379 rfl dX7_tell_97 ?_
                    obtain ⟨z369, e367, t368⟩ := x_sub (x := ((-10) : Int32)) (y := y335) (a := (-10)) (b := (y335).toInt) rfl rfl (by omega) (by omega)
                    refine o_isub (z := z369) hx hb dX7_tell_100 e367 ?_
                    have hrun370 : runF bs z.toNatClampNeg 151 0 (begF 0) 0 = (-10 - (y335.toNatClampNeg : Int), C30) := by
                      have cs_ := cl_of (x := y335) (by omega)
                      have c3 : 151 - L25.toNatClampNeg = (150 - L25.toNatClampNeg) + 1 := by omega
                      have hi9 : itemF bs z.toNatClampNeg C27.toNatClampNeg C30 (L25.toNatClampNeg = 0) = .inl y335.toNatClampNeg := by rw [item_5 (h94.wd1 (by omega) hwn127) (by omega), h94.e]; exact hit349
                      rw [← hi44, c3, runF_fault (fun q9 => by have q1 := q9.1; rw [h94.k] at q1; have q2 := q9.2; omega) hi9]
                    have cs9 := cl_of (x := y335) (by omega)
                    exact e_i X h hr hlk dX7_tell_101 ⟨ok331, kx345, ⟨by rw [hrun370]; omega, fun h9 => by exfalso; omega⟩⟩
              · refine lv_if_eq (tgt := 94) hx hb dX7_tell_67 (by decide) (fun _ => ?_) (fun hc => absurd (by decide) hc)
                refine lv_bipush (v := (-10)) hx hb dX7_tell_94 (by decide) ?_
                refine lv_aload_n hx hb dX7_tell_96 rfl (lv_at hl 2 rfl) ?_
                refine r_get kc7 X h 55 3 (by decide) rfl h90 (by decide) kv_379 rfl dX7_tell_97 ?_
                obtain ⟨z373, e371, t372⟩ := x_sub (x := ((-10) : Int32)) (y := y86) (a := (-10)) (b := (y86).toInt) rfl rfl (by omega) (by omega)
                refine o_isub (z := z373) hx hb dX7_tell_100 e371 ?_
                have hrun374 : runF bs z.toNatClampNeg 151 0 (begF 0) 0 = (-10 - (y86.toNatClampNeg : Int), C30) := by
                  have cs_ := cl_of (x := y86) (by omega)
                  have c3 : 151 - L25.toNatClampNeg = (150 - L25.toNatClampNeg) + 1 := by omega
                  have hi9 : itemF bs z.toNatClampNeg C27.toNatClampNeg C30 (L25.toNatClampNeg = 0) = .inl y86.toNatClampNeg := by rw [item_none (h94.wd1 (by omega) hwn127) _ (by omega) (by omega) (by omega) (by omega), h94.s]
                  rw [← hi44, c3, runF_fault (fun q9 => by have q1 := q9.1; rw [h94.k] at q1; have q2 := q9.2; omega) hi9]
                have cs9 := cl_of (x := y86) (by omega)
                exact e_i X h hr hlk dX7_tell_101 ⟨ok83, kx96, ⟨by rw [hrun374]; omega, fun h9 => by exfalso; omega⟩⟩
            · have hc128 : (L25).toInt = 0 := i_eq hc128 rfl rfl
              refine lv_iconst (v := 1) hx hb dX7_tell_59 (by decide) ?_
              refine lv_goto (tgt := 64) hx hb dX7_tell_60 (by decide) ?_
              have f375 : w81 14 = .inr (1, [.int ho52, .int so51, .int mi53, .int ca54, .int ja55, .ref (ad 15), .ref (ad 16), .ref (ad 17), .ref (ad 18), .ref (ad 19), .ref (ad 20), .ref (ad 21), .ref (ad 23), .ref (ad 25)]) := (kk84 14 (by decide)).trans p60
              refine n_Si (na := 3) (As := [.ref (ad 14), .int r122, .int 1]) (rest := []) X hD hN h (c_F_mayBegin1 l G cI cB cZ cO ad w81 ho52 so51 mi53 ca54 ja55 r122 (by omega) (by omega) f375) ⟨kv_432, kv_433, kv_388, kv_434⟩ ⟨by decide, by decide, by decide⟩ ⟨Nat.le_of_ble_eq_true rfl, Nat.le_of_ble_eq_true rfl⟩ ⟨Nat.zero_le _, Nat.zero_le _⟩ rfl hl.1 rfl (Nat.le_of_ble_eq_true rfl) dX7_tell_64 (fun r376 w377 H locs hp378 h => ?_)
              obtain ⟨rfl, hr379⟩ := hp378
              rcases hr379 with ⟨hm380, rfl⟩ | ⟨hm380, rfl⟩
              · refine lv_if_eq (tgt := 94) hx hb dX7_tell_67 (by decide) (fun hc => absurd hc (by decide)) (fun _ => ?_)
                refine lv_aload_n hx hb dX7_tell_70 rfl (lv_at hl 2 rfl) ?_
                refine lv_aload_n hx hb dX7_tell_71 rfl (lv_at hl 3 rfl) ?_
                refine lv_iload_n hx hb dX7_tell_72 rfl (lv_at hl 0 rfl) ?_
                have hq381 : r122 = 0 ∨ r122 = 1 ∨ r122 = 2 ∨ r122 = 3 ∨ r122 = 4 ∨ r122 = 5 := by simp only [fa_eq]; simp only [show ((0 : Int32).toInt = 0) from rfl, show ((1 : Int32).toInt = 1) from rfl, show ((2 : Int32).toInt = 2) from rfl, show ((3 : Int32).toInt = 3) from rfl, show ((4 : Int32).toInt = 4) from rfl, show ((5 : Int32).toInt = 5) from rfl]; omega
                rcases hq381 with rfl | rfl | rfl | rfl | rfl | rfl
                · have kw0 : (0 : Int32).toInt = 0 := rfl
                  obtain ⟨g383, f382, p384⟩ := (show sA cI 3 (rgA 0 99) (w81 57) from ok83 57 (by decide))
                  have f385 : w81 57 = .inl (cI, 3, .inl g383) := f382
                  refine n_Vi (na := 2) (As := [.ref (ad 14), .int 0]) (rest := []) X hD hN h rfl (c_F_takeNumbers0 l G cI cB cZ cO ad w81 z y86 y87 y88 y89 bs g383 C30 ok83 h90 (by omega) f121 (by omega) (by omega) (by omega) (by omega) f385 p384 hRG97) ⟨kv_439, kv_440, kv_441, kv_388, kv_442⟩ rfl ⟨by decide, by decide, by decide⟩ ⟨Nat.le_of_ble_eq_true rfl, Nat.le_of_ble_eq_true rfl⟩ ⟨Nat.zero_le _, Nat.zero_le _⟩ (by decide) h90 rfl rfl hl.1 rfl (Nat.le_of_ble_eq_true rfl) dX7_tell_73 (fun r386 w387 H locs hp388 h => ?_)
                  obtain ⟨ok389, kk390, hr391, hRG392⟩ := hp388
                  obtain ⟨y393, y394, y395, y396, h397, h398, h399, h400, hit401⟩ := hr391
                  have q402 := txd ok389 h397
                  have kx403 : KX w w387 := KX.tr kx96 (F57.x kk390 h90 h397)
                  rcases hit401 with ⟨⟨g404, f405, hn406, hit407⟩, rfl⟩ | ⟨hit407, rfl⟩
                  · have p408 : rgA 0 99 g404 := nm99 ok389 f405
                    refine lv_if_ne (tgt := 82) hx hb dX7_tell_76 (by decide) (fun _ => ?_) (fun hc => absurd hc (by decide))
                    refine lv_aload_n hx hb dX7_tell_82 rfl (lv_at hl 2 rfl) ?_
                    refine lv_aload_n hx hb dX7_tell_83 rfl (lv_at hl 3 rfl) ?_
                    refine lv_iload_n hx hb dX7_tell_84 rfl (lv_at hl 0 rfl) ?_
                    refine n_Vv (na := 2) (As := [.ref (ad 14), .int 0]) (rest := []) X hD hN h rfl (c_F_carryOut0 l G cI cB cZ cO ad w387 g404 _ _ _ _ _ C30 ok389 f405 p408 h397 hRG392 (hi45 (by omega))) ⟨kv_443, kv_444, kv_445, kv_388, kv_446⟩ rfl ⟨by decide, by decide, by decide⟩ ⟨Nat.le_of_ble_eq_true rfl, Nat.le_of_ble_eq_true rfl⟩ ⟨Nat.zero_le _, Nat.zero_le _⟩ (by decide) h397 rfl rfl hl.1 rfl (Nat.le_of_ble_eq_true rfl) dX7_tell_85 (fun w410 H locs hp411 h => ?_)
                    obtain ⟨ok412, kk413, hRG414⟩ := hp411
                    have kx415 : KX w w410 := KX.tr kx403 kk413.1
                    obtain ⟨z416, e417, t418⟩ := x_add (x := L25) (y := 1) (a := L25.toInt) (b := 1) rfl rfl (by omega) (by omega)
                    have n419 : z416.toNatClampNeg = L25.toNatClampNeg + 1 := cl_addn (x := L25) (y := 1) rfl rfl t418 (by omega) (by decide)
                    refine lv_iinc (v := z416) (lv' := [(2, .int z416), (3, .int 0), (0, .ref (ad 55)), (1, .ref (ad 14))]) hx hb dX7_tell_88 hl (k := 1) rfl e417 (by decide) rfl (fun ls hl => ?_)
                    refine lv_goto (tgt := 12) hx hb dX7_tell_91 (by decide) ?_
                    have f420 : w410 55 = .inr (5, [.ref (ad 56), .ref (ad 57), .int z, .int y393, .int y394, .int y395, .int y396]) := (kk413.2 55 (by decide)).trans h397
                    have hb421 : runF bs z.toNatClampNeg (151 - z416.toNatClampNeg) y394.toNatClampNeg (begF (g404 0)) z416.toNatClampNeg = runF bs z.toNatClampNeg 151 0 (begF 0) 0 := by
                      rw [← hi44, n419]
                      have c3 : 151 - L25.toNatClampNeg = (150 - L25.toNatClampNeg) + 1 := by omega
                      have c4 : 151 - (L25.toNatClampNeg + 1) = 150 - L25.toNatClampNeg := by omega
                      have hi9 : itemF bs z.toNatClampNeg C27.toNatClampNeg C30 (L25.toNatClampNeg = 0) = .inr (y394.toNatClampNeg, begF (g404 0)) := by rw [item_0 (h94.wd1 (by omega) hwn127) (by omega), h94.e]; exact hit407
                      rw [c3, c4, runF_next (fun q9 => by have q1 := q9.1; rw [h94.k] at q1; have q2 := q9.2; omega) hi9]
                    have hp422 : z416.toInt ≤ y394.toInt := by
                      have ca_ := cl_of (x := C27) (by omega)
                      have cz_ := cl_of (x := z) (by omega)
                      have cb_ := cl_of (x := y87) (by omega)
                      have cn_ := cl_of (x := y394) (by omega)
                      have t1 := tS_ge (bs := bs) (len := z.toNatClampNeg) (p := C27.toNatClampNeg) (by omega)
                      have t2 := tE_ge (bs := bs) (len := z.toNatClampNeg) (p := C27.toNatClampNeg) (by omega)
                      have t3 := t2.2.2 (by rw [h94.k]; omega)
                      have t4 := it0_ge (by rw [← h94.e]; omega) hit407
                      rw [h94.e] at t2 t3
                      omega
                    have f423 : w387 56 = .inl (cB, 150, .inl bs) := (kk390 56 (by decide) (by decide)).trans f121
                    have f424 : w410 56 = .inl (cB, 150, .inl bs) := (kk413.2 56 (by decide)).trans f423
                    exact ih34  z416 y393 y394 y395 y396 (begF (g404 0)) w410 _ _ _ (by omega) (by omega) (by omega) (by omega) (by omega) (by omega) (by omega) hRG414 hb421 (fun h9 => by omega) hp422 ok412 kx415 f420 f424 (by omega) h (lv_sub hl [0, 2, 3] rfl)
                  · refine lv_if_ne (tgt := 82) hx hb dX7_tell_76 (by decide) (fun hc => absurd (by decide) hc) (fun _ => ?_)
                    refine lv_goto (tgt := 94) hx hb dX7_tell_79 (by decide) ?_
                    refine lv_bipush (v := (-10)) hx hb dX7_tell_94 (by decide) ?_
                    refine lv_aload_n hx hb dX7_tell_96 rfl (lv_at hl 2 rfl) ?_
                    refine r_get kc7 X h 55 3 (by decide) rfl h397 (by decide) kv_379 rfl dX7_tell_97 ?_
                    obtain ⟨z427, e425, t426⟩ := x_sub (x := ((-10) : Int32)) (y := y393) (a := (-10)) (b := (y393).toInt) rfl rfl (by omega) (by omega)
                    refine o_isub (z := z427) hx hb dX7_tell_100 e425 ?_
                    have hrun428 : runF bs z.toNatClampNeg 151 0 (begF 0) 0 = (-10 - (y393.toNatClampNeg : Int), C30) := by
                      have cs_ := cl_of (x := y393) (by omega)
                      have c3 : 151 - L25.toNatClampNeg = (150 - L25.toNatClampNeg) + 1 := by omega
                      have hi9 : itemF bs z.toNatClampNeg C27.toNatClampNeg C30 (L25.toNatClampNeg = 0) = .inl y393.toNatClampNeg := by rw [item_0 (h94.wd1 (by omega) hwn127) (by omega), h94.e]; exact hit407
                      rw [← hi44, c3, runF_fault (fun q9 => by have q1 := q9.1; rw [h94.k] at q1; have q2 := q9.2; omega) hi9]
                    have cs9 := cl_of (x := y393) (by omega)
                    exact e_i X h hr hlk dX7_tell_101 ⟨ok389, kx403, ⟨by rw [hrun428]; omega, fun h9 => by exfalso; omega⟩⟩
                · have kw1 : (1 : Int32).toInt = 1 := rfl
                  exfalso; omega
                · have kw2 : (2 : Int32).toInt = 2 := rfl
                  exfalso; omega
                · have kw3 : (3 : Int32).toInt = 3 := rfl
                  exfalso; omega
                · have kw4 : (4 : Int32).toInt = 4 := rfl
                  exfalso; omega
                · have kw5 : (5 : Int32).toInt = 5 := rfl
                  exfalso; omega
              · refine lv_if_eq (tgt := 94) hx hb dX7_tell_67 (by decide) (fun _ => ?_) (fun hc => absurd (by decide) hc)
                refine lv_bipush (v := (-10)) hx hb dX7_tell_94 (by decide) ?_
                refine lv_aload_n hx hb dX7_tell_96 rfl (lv_at hl 2 rfl) ?_
                refine r_get kc7 X h 55 3 (by decide) rfl h90 (by decide) kv_379 rfl dX7_tell_97 ?_
                obtain ⟨z431, e429, t430⟩ := x_sub (x := ((-10) : Int32)) (y := y86) (a := (-10)) (b := (y86).toInt) rfl rfl (by omega) (by omega)
                refine o_isub (z := z431) hx hb dX7_tell_100 e429 ?_
                have hrun432 : runF bs z.toNatClampNeg 151 0 (begF 0) 0 = (-10 - (y86.toNatClampNeg : Int), C30) := by
                  have cs_ := cl_of (x := y86) (by omega)
                  have c3 : 151 - L25.toNatClampNeg = (150 - L25.toNatClampNeg) + 1 := by omega
                  have hi9 : itemF bs z.toNatClampNeg C27.toNatClampNeg C30 (L25.toNatClampNeg = 0) = .inl y86.toNatClampNeg := by rw [item_none (h94.wd1 (by omega) hwn127) _ (by omega) (by omega) (by omega) (by omega), h94.s]
                  rw [← hi44, c3, runF_fault (fun q9 => by have q1 := q9.1; rw [h94.k] at q1; have q2 := q9.2; omega) hi9]
                have cs9 := cl_of (x := y86) (by omega)
                exact e_i X h hr hlk dX7_tell_101 ⟨ok83, kx96, ⟨by rw [hrun432]; omega, fun h9 => by exfalso; omega⟩⟩
        · have hc98 : (y88).toInt = 0 := i_eq hc98 rfl rfl
          refine lv_iload_n hx hb dX7_tell_30 rfl (lv_at hl 0 rfl) ?_
          refine lv_if_le (tgt := 36) hx hb dX7_tell_31 (by decide) (fun hc433 => ?_) (fun hc433 => ?_)
          · have hc433 : (L25).toInt ≤ 0 := i_le hc433 rfl rfl
            refine lv_aload_n hx hb dX7_tell_36 rfl (lv_at hl 1 rfl) ?_
            refine r_get kc7 X h 55 5 (by decide) rfl h90 (by decide) kv_392 rfl dX7_tell_37 ?_
            refine lv_iconst (v := 1) hx hb dX7_tell_40 (by decide) ?_
            refine lv_icmp_ne (tgt := 51) hx hb dX7_tell_41 (by decide) (fun hc434 => ?_) (fun hc434 => ?_)
            · have hc434 : ¬ (y88).toInt = 1 := i_ne hc434 rfl rfl
              refine lv_iconst (v := (-1)) hx hb dX7_tell_51 (by decide) ?_
              refine lv_istore_n (lv' := [(3, .int (-1)), (2, .int L25), (0, .ref (ad 55)), (1, .ref (ad 14))]) hx hb dX7_tell_52 rfl hl (by decide) rfl (fun ls hl => ?_)
              refine lv_aload_n hx hb dX7_tell_53 rfl (lv_at hl 3 rfl) ?_
              refine lv_iload_n hx hb dX7_tell_54 rfl (lv_at hl 0 rfl) ?_
              refine lv_iload_n hx hb dX7_tell_55 rfl (lv_at hl 1 rfl) ?_
              refine lv_if_ne (tgt := 63) hx hb dX7_tell_56 (by decide) (fun hc435 => ?_) (fun hc435 => ?_)
              · have hc435 : ¬ (L25).toInt = 0 := i_ne hc435 rfl rfl
                exfalso; omega
              · have hc435 : (L25).toInt = 0 := i_eq hc435 rfl rfl
                refine lv_iconst (v := 1) hx hb dX7_tell_59 (by decide) ?_
                refine lv_goto (tgt := 64) hx hb dX7_tell_60 (by decide) ?_
                have f436 : w81 14 = .inr (1, [.int ho52, .int so51, .int mi53, .int ca54, .int ja55, .ref (ad 15), .ref (ad 16), .ref (ad 17), .ref (ad 18), .ref (ad 19), .ref (ad 20), .ref (ad 21), .ref (ad 23), .ref (ad 25)]) := (kk84 14 (by decide)).trans p60
                refine n_Si (na := 3) (As := [.ref (ad 14), .int (-1), .int 1]) (rest := []) X hD hN h (c_F_mayBegin1 l G cI cB cZ cO ad w81 ho52 so51 mi53 ca54 ja55 ((-1) : Int32) (by decide) (by decide) f436) ⟨kv_432, kv_433, kv_388, kv_434⟩ ⟨by decide, by decide, by decide⟩ ⟨Nat.le_of_ble_eq_true rfl, Nat.le_of_ble_eq_true rfl⟩ ⟨Nat.zero_le _, Nat.zero_le _⟩ rfl hl.1 rfl (Nat.le_of_ble_eq_true rfl) dX7_tell_64 (fun r437 w438 H locs hp439 h => ?_)
                obtain ⟨rfl, hr440⟩ := hp439
                rcases hr440 with ⟨hm441, rfl⟩ | ⟨hm441, rfl⟩
                · exfalso; have q8 : (-1 : Int32).toInt = -1 := rfl; omega
                · refine lv_if_eq (tgt := 94) hx hb dX7_tell_67 (by decide) (fun _ => ?_) (fun hc => absurd (by decide) hc)
                  refine lv_bipush (v := (-10)) hx hb dX7_tell_94 (by decide) ?_
                  refine lv_aload_n hx hb dX7_tell_96 rfl (lv_at hl 2 rfl) ?_
                  refine r_get kc7 X h 55 3 (by decide) rfl h90 (by decide) kv_379 rfl dX7_tell_97 ?_
                  obtain ⟨z444, e442, t443⟩ := x_sub (x := ((-10) : Int32)) (y := y86) (a := (-10)) (b := (y86).toInt) rfl rfl (by omega) (by omega)
                  refine o_isub (z := z444) hx hb dX7_tell_100 e442 ?_
                  have hrun445 : runF bs z.toNatClampNeg 151 0 (begF 0) 0 = (-10 - (y86.toNatClampNeg : Int), C30) := by
                    have cs_ := cl_of (x := y86) (by omega)
                    have c3 : 151 - L25.toNatClampNeg = (150 - L25.toNatClampNeg) + 1 := by omega
                    have hi9 : itemF bs z.toNatClampNeg C27.toNatClampNeg C30 (L25.toNatClampNeg = 0) = .inl y86.toNatClampNeg := by rw [item_none (h94.wd0 (by omega)) _ (by omega) (by omega) (by omega) (by omega), h94.s]
                    rw [← hi44, c3, runF_fault (fun q9 => by have q1 := q9.1; rw [h94.k] at q1; have q2 := q9.2; omega) hi9]
                  have cs9 := cl_of (x := y86) (by omega)
                  exact e_i X h hr hlk dX7_tell_101 ⟨ok83, kx96, ⟨by rw [hrun445]; omega, fun h9 => by exfalso; omega⟩⟩
            · have hc434 : (y88).toInt = 1 := i_eq hc434 rfl rfl
              exfalso; omega
          · have hc433 : ¬ (L25).toInt ≤ 0 := i_nle hc433 rfl rfl
            refine lv_iload_n hx hb dX7_tell_34 rfl (lv_at hl 0 rfl) ?_
            have hrun446 : runF bs z.toNatClampNeg 151 0 (begF 0) 0 = ((L25.toNatClampNeg : Int), C30) := by
              have c3 : 151 - L25.toNatClampNeg = (150 - L25.toNatClampNeg) + 1 := by omega
              rw [← hi44, c3, runF_end (by rw [h94.k]; omega) (by omega)]
            exact e_i X h hr hlk dX7_tell_35 ⟨ok83, kx96, ⟨by rw [hrun446]; omega, fun _ => by rw [hrun446]; exact hRG97⟩⟩
  have f447 : w2 56 = .inl (cB, 150, .inl bs) := (kk16.2 56 (by decide)).trans p56
  have f448 : w20 56 = .inl (cB, 150, .inl bs) := by rw [e21, va_up_ne _ _ (by decide)]; exact f447
  exact hloop32 152 (0 : Int32) a (0 : Int32) c0 d (begF 0) w20 _ _ _ (by have q0 : (0 : Int32).toInt = 0 := rfl; omega) (by have q0 : (0 : Int32).toInt = 0 := rfl; omega) (by have q0 : (0 : Int32).toInt = 0 := rfl; omega) (by have q0 : (0 : Int32).toInt = 0 := rfl; omega) (by have q0 : (0 : Int32).toInt = 0 := rfl; omega) (by have q0 : (0 : Int32).toInt = 0 := rfl; omega) (by have q0 : (0 : Int32).toInt = 0 := rfl; omega) (RG.f57 hr17 (F57.up F57.rf e21 (Or.inl rfl))) rfl (fun _ => rfl) (by decide) ok23 kx24 f22 f448 (by have q0 : (0 : Int32).toInt = 0 := rfl; omega) h (lv_sub hl [0, 1, 2] rfl)
