set_option maxHeartbeats 4000000 in
set_option maxRecDepth 100000 in
theorem c_MF_read (l : Launch) (G : va_G) (cI cB cZ cO : ClassId) (ad : Nat → Nat) (w : Nat → va_E) (x y : Int64) (mb bl ta tl tk va : Int32) (bs : Nat → Int32) (f5 : Nat → Int32) (ok : OK cI cB cZ cO ad w)   (pf : w 64 = .inr (7, [.ref (ad 65), .ref (ad 66), .ref (ad 67), .ref (ad 68), .long x, .long y, .ref (ad 69), .int mb, .ref (ad 70), .ref (ad 71), .int bl, .int ta, .int tl, .int tk, .int va, .ref (ad 72), .ref (ad 73)])) (hbl0 : 0 ≤ bl.toInt) (hbl1 : bl.toInt ≤ 150) (p71 : w 71 = .inl (cI, 150, .inl bs)) (p65 : w 65 = .inl (cI, 177, .inl f5)) (pal5 : alA f5) : NI l G (tyq cI cB cZ cO) yX9_read cX9_read 3 (some .int) 7 153 74 ad w [.ref (ad 64)] (fun r w1 => OK cI cB cZ cO ad w1 ∧ KN w w1 ∧ w1 66 = w 66 ∧ r.toInt = (runF bs bl.toNatClampNeg 151 0 (begF 0) 0).1 ∧ (0 < r.toInt → ∃ g9 : Nat → Int32, w1 65 = .inl (cI, 177, .inl g9) ∧ ∀ k, k < 89 → g9 k = (runF bs bl.toNatClampNeg 151 0 (begF 0) 0).2 k) ∧ (¬ 0 < r.toInt → w1 65 = w 65)) := by
  refine nk_i (own := "NoonShadeModel") rfl (by decide) (Nat.le_of_ble_eq_true rfl) ?_
  intro p e s m below meth c ls X hD hN hr hlk h hl
  have hx := X.1.1
  have hb := X.1.2.1
  have hown := X.1.2.2.2.1
  have hts := X.1.2.2.2.2
  have hl : lv_has ls 3 [(0, .ref (ad 64))] := hl
  have kq0 : (0 : Int32).toInt = 0 := rfl
  have kq1 : (1 : Int32).toInt = 1 := rfl
  have kq2 : (2 : Int32).toInt = 2 := rfl
  have kq3 : (3 : Int32).toInt = 3 := rfl
  have kq4 : (4 : Int32).toInt = 4 := rfl
  refine lv_aload_n hx hb dX9_read_0 rfl (lv_at hl 0 rfl) ?_
  refine lv_iconst (v := 0) hx hb dX9_read_1 (by decide) ?_
  refine n_Vv (na := 1) (As := [.int 0]) (rest := []) X hD hN h rfl (c_MF_lookAt l G cI cB cZ cO ad w x y mb bl ta tl tk va bs ok (0 : Int32) (by decide) (by decide) pf (by omega) (by omega) p71 (by first | omega | decide | (simp only [k00]; omega))) ⟨kv_674, kv_675, kv_676, kv_470, kv_677⟩ rfl ⟨by decide, by decide, by decide⟩ ⟨Nat.le_of_ble_eq_true rfl, Nat.le_of_ble_eq_true rfl⟩ ⟨Nat.zero_le _, Nat.zero_le _⟩ (by decide) pf rfl rfl hl.1 rfl (Nat.le_of_ble_eq_true rfl) dX9_read_2 (fun w2 H locs hp3 h => ?_)
  obtain ⟨ok4, kk5, hr6⟩ := hp3
  obtain ⟨y7, y8, y9, y10, h11, h12, h13, h14, h15, h16⟩ := hr6
  have kx17 : KN w w2 := KN.tr KN.rf (F7.m kk5.f7 pf h11).n
  have hat18 : AT bs bl.toNatClampNeg 0 y7 y8 y9 y10 := LOOKP.at_ h16
  refine lv_aload_n hx hb dX9_read_5 rfl (lv_at hl 0 rfl) ?_
  refine lv_bipush (v := 6) hx hb dX9_read_6 (by decide) ?_
  refine lv_bipush (v := 105) hx hb dX9_read_8 (by decide) ?_
  refine lv_bipush (v := 115) hx hb dX9_read_10 (by decide) ?_
  refine lv_bipush (v := 108) hx hb dX9_read_12 (by decide) ?_
  refine lv_bipush (v := 97) hx hb dX9_read_14 (by decide) ?_
  refine lv_bipush (v := 110) hx hb dX9_read_16 (by decide) ?_
  refine lv_bipush (v := 100) hx hb dX9_read_18 (by decide) ?_
  have f19 : w2 71 = .inl (cI, 150, .inl bs) := (kk5 71 (by decide)).trans p71
  refine n_Vi (na := 7) (As := [.int 6, .int 105, .int 115, .int 108, .int 97, .int 110, .int 100]) (rest := []) X hD hN h rfl (c_MF_spells l G cI cB cZ cO ad w2 x y mb bl y7 y8 y9 y10 bs ok4 (6 : Int32) (105 : Int32) (115 : Int32) (108 : Int32) (97 : Int32) (110 : Int32) (100 : Int32) (by decide) (by decide) h11 (by omega) (by omega) f19 (by omega) (by omega) (by omega)) ⟨kv_688, kv_689, kv_690, kv_470, kv_691⟩ rfl ⟨by decide, by decide, by decide⟩ ⟨Nat.le_of_ble_eq_true rfl, Nat.le_of_ble_eq_true rfl⟩ ⟨Nat.zero_le _, Nat.zero_le _⟩ (by decide) h11 rfl rfl hl.1 rfl (Nat.le_of_ble_eq_true rfl) dX9_read_20 (fun r20 w21 H locs hp22 h => ?_)
  obtain ⟨rfl, hr23⟩ := hp22
  have hi25 : SPTP bs y7 y8 y9 (6 : Int32) (105 : Int32) (115 : Int32) (108 : Int32) (97 : Int32) (110 : Int32) (100 : Int32) ↔ wdAt bs bl.toNatClampNeg 0 = 0 := (sp_w (i := 0) (by decide) (by decide)).trans (AT.wd hat18 (i := 0) (by decide))
  rcases hr23 with ⟨hw24, rfl⟩ | ⟨hw24, rfl⟩
  · have hw24 : wdAt bs bl.toNatClampNeg 0 = 0 := hi25.mp hw24
    have q26 : y9.toInt = 1 ∧ y8.toInt = 6 := by have a9 := (hi25.mpr hw24); exact ⟨a9.1, a9.2.1⟩
    refine lv_if_ne (tgt := 34) hx hb dX9_read_23 (by decide) (fun _ => ?_) (fun hc => absurd hc (by decide))
    refine lv_aload_n hx hb dX9_read_34 rfl (lv_at hl 0 rfl) ?_
    refine n_Vv (na := 0) (As := []) (rest := []) X hD hN h rfl (c_MF_goBehind l G cI cB cZ cO ad w2 x y mb bl y7 y8 y9 y10 bs 0 ok4 h11 (by omega) (by omega) f19 (by omega) (by omega) (by omega) hat18) ⟨kv_679, kv_680, kv_681, kv_470, kv_682⟩ rfl ⟨by decide, by decide, by decide⟩ ⟨Nat.le_of_ble_eq_true rfl, Nat.le_of_ble_eq_true rfl⟩ ⟨Nat.zero_le _, Nat.zero_le _⟩ (by decide) h11 rfl rfl hl.1 rfl (Nat.le_of_ble_eq_true rfl) dX9_read_35 (fun w28 H locs hp29 h => ?_)
    obtain ⟨ok30, kk31, hr32⟩ := hp29
    obtain ⟨y33, y34, y35, y36, h37, h38, h39, h40, h41, h42⟩ := hr32
    have kx43 : KN w w28 := KN.tr kx17 (F7.m kk31.f7 h11 h37).n
    refine lv_aload_n hx hb dX9_read_38 rfl (lv_at hl 0 rfl) ?_
    refine lv_iconst (v := 0) hx hb dX9_read_39 (by decide) ?_
    refine lv_iconst (v := 0) hx hb dX9_read_40 (by decide) ?_
    refine lv_bipush (v := 99) hx hb dX9_read_41 (by decide) ?_
    have f44 : w28 71 = .inl (cI, 150, .inl bs) := (kk31 71 (by decide)).trans f19
    obtain ⟨g46, f45, p47⟩ := (show sA cI 3 (anyA) (w28 73) from ok30 73 (by decide))
    have f48 : w28 73 = .inl (cI, 3, .inl g46) := f45
    refine n_Vi (na := 3) (As := [.int 0, .int 0, .int 99]) (rest := []) X hD hN h rfl (c_MF_takes0 l G cI cB cZ cO ad w28 x y mb bl y33 y34 y35 y36 bs (tE bs bl.toNatClampNeg 0) g46 ok30 (0 : Int32) (99 : Int32) h37 (by omega) (by omega) f44 (by omega) (by omega) (by omega) h42 f48) ⟨kv_684, kv_685, kv_686, kv_470, kv_687⟩ rfl ⟨by decide, by decide, by decide⟩ ⟨Nat.le_of_ble_eq_true rfl, Nat.le_of_ble_eq_true rfl⟩ ⟨Nat.zero_le _, Nat.zero_le _⟩ (by decide) h37 rfl rfl hl.1 rfl (Nat.le_of_ble_eq_true rfl) dX9_read_43 (fun r49 w50 H locs hp51 h => ?_)
    obtain ⟨ok52, kk53, hr54⟩ := hp51
    rcases hr54 with ⟨⟨y55, y56, y57, y58, h59, h60, h61, h62, h63, h64, h65, h66⟩, rfl⟩ | ⟨⟨h67, h68, h69⟩, rfl⟩
    · obtain ⟨g70, e71⟩ : ∃ z : Nat → Int32, upd g46 0 y36 = z := ⟨_, rfl⟩
      rw [e71] at h65
      have p72 : anyA g70 := trivial
      have k73 : (0 : Int32).toInt = 0 := rfl
      have k74 : (99 : Int32).toInt = 99 := rfl
      have q75 : y35.toInt = 2 ∧ (0 : Int32).toInt ≤ y36.toInt ∧ y36.toInt ≤ (99 : Int32).toInt := by have a9 := h66.1; have b9 := h66.2.1; have c9 := h66.2.2; rw [← h42.2.2.1] at a9; rw [← h42.2.2.2 a9] at b9 c9; exact ⟨a9, b9, c9⟩
      have h66 : numK bs bl.toNatClampNeg (tE bs bl.toNatClampNeg 0) 0 99 := h66
      have kx76 : KN w w50 := KN.tr kx43 (F7.m kk53 h37 h59).n
      refine lv_if_eq (tgt := 57) hx hb dX9_read_46 (by decide) (fun hc => absurd hc (by decide)) (fun _ => ?_)
      refine lv_aload_n hx hb dX9_read_49 rfl (lv_at hl 0 rfl) ?_
      refine r_get kc9 X h 64 13 (by decide) rfl h59 (by decide) kv_665 rfl dX9_read_50 ?_
      refine lv_iconst (v := 3) hx hb dX9_read_53 (by decide) ?_
      refine lv_icmp_eq (tgt := 65) hx hb dX9_read_54 (by decide) (fun hc77 => ?_) (fun hc77 => ?_)
      · have hc77 : (y57).toInt = 3 := i_eq hc77 rfl rfl
        refine lv_aload_n hx hb dX9_read_65 rfl (lv_at hl 0 rfl) ?_
        have f78 : w50 71 = .inl (cI, 150, .inl bs) := (kk53 71 (by decide) (by decide)).trans f44
        refine n_Vv (na := 0) (As := []) (rest := []) X hD hN h rfl (c_MF_goBehind l G cI cB cZ cO ad w50 x y mb bl y55 y56 y57 y58 bs (tE bs bl.toNatClampNeg (tE bs bl.toNatClampNeg 0)) ok52 h59 (by omega) (by omega) f78 (by omega) (by omega) (by omega) h64) ⟨kv_679, kv_680, kv_681, kv_470, kv_682⟩ rfl ⟨by decide, by decide, by decide⟩ ⟨Nat.le_of_ble_eq_true rfl, Nat.le_of_ble_eq_true rfl⟩ ⟨Nat.zero_le _, Nat.zero_le _⟩ (by decide) h59 rfl rfl hl.1 rfl (Nat.le_of_ble_eq_true rfl) dX9_read_66 (fun w80 H locs hp81 h => ?_)
        obtain ⟨ok82, kk83, hr84⟩ := hp81
        obtain ⟨y85, y86, y87, y88, h89, h90, h91, h92, h93, h94⟩ := hr84
        have kx95 : KN w w80 := KN.tr kx76 (F7.m kk83.f7 h59 h89).n
        refine lv_aload_n hx hb dX9_read_69 rfl (lv_at hl 0 rfl) ?_
        refine r_get kc9 X h 64 15 (by decide) rfl h89 (by decide) kv_683 rfl dX9_read_70 ?_
        refine lv_aload_n hx hb dX9_read_73 rfl (lv_at hl 0 rfl) ?_
        refine r_get kc9 X h 64 16 (by decide) rfl h89 (by decide) kv_678 rfl dX9_read_74 ?_
        refine lv_iconst (v := 0) hx hb dX9_read_77 (by decide) ?_
        have f96 : w80 73 = .inl (cI, 3, .inl g70) := (kk83 73 (by decide)).trans h65
        have e97 : g70 0 = y36 := by rw [← e71, pk_us]
        refine o_iald (v := y36) X h 73 0 (by decide) rfl f96 rfl (by unfold vp_in; decide) e97 dX9_read_78 ?_
        obtain ⟨g99, f98, p100⟩ := (show sA cI 89 (alA) (w80 72) from ok82 72 (by decide))
        have f101 : w80 72 = .inl (cI, 89, .inl g99) := f98
        refine n_Sv (na := 2) (As := [.ref (ad 72), .int y36]) (rest := []) X hD hN h (c_MG_begin72 l G cI cB cZ cO ad w80 g99 ok82 y36 f101 p100) ⟨kv_632, kv_633, kv_470, kv_634⟩ ⟨by decide, by decide, by decide⟩ ⟨Nat.le_of_ble_eq_true rfl, Nat.le_of_ble_eq_true rfl⟩ ⟨Nat.zero_le _, Nat.zero_le _⟩ rfl hl.1 rfl (Nat.le_of_ble_eq_true rfl) dX9_read_79 (fun w103 H locs hp104 h => ?_)
        obtain ⟨ok105, kk106, hr107⟩ := hp104
        have kx108 : KN w w103 := KN.tr kx95 kk106.1.n
        refine lv_iconst (v := 1) hx hb dX9_read_82 (by decide) ?_
        refine lv_istore_n (lv' := [(1, .int 1), (0, .ref (ad 64))]) hx hb dX9_read_83 rfl hl (by decide) rfl (fun ls hl => ?_)
        have hloop117 : ∀ (d118 : Nat) (L109 : Int32) (C110 : Int32) (C111 : Int32) (C112 : Int32) (C113 : Int32) (C114 : Nat) (C115 : Nat → Int32) (wL116 : Nat → va_E) (H : Heap) (locs : List Loc) (ls : Array Slot), 1 ≤ L109.toInt → L109.toInt ≤ 150 → 0 ≤ C110.toInt → C110.toInt ≤ 150 → 0 ≤ C111.toInt → C111.toInt ≤ 150 → C110.toInt + C111.toInt ≤ bl.toInt → (C112.toInt = 0 ∨ 1 ≤ C111.toInt) → L109.toInt ≤ C110.toInt → (AT bs bl.toNatClampNeg C114 C110 C111 C112 C113) → (runF bs bl.toNatClampNeg (151 - L109.toNatClampNeg) C114 C115 L109.toNatClampNeg = runF bs bl.toNatClampNeg 151 0 (begF 0) 0) → (wL116 65 = w 65 ∧ wL116 66 = w 66) → OK cI cB cZ cO ad wL116 → KN w wL116 → wL116 64 = .inr (7, [.ref (ad 65), .ref (ad 66), .ref (ad 67), .ref (ad 68), .long x, .long y, .ref (ad 69), .int mb, .ref (ad 70), .ref (ad 71), .int bl, .int C110, .int C111, .int C112, .int C113, .ref (ad 72), .ref (ad 73)]) → wL116 71 = .inl (cI, 150, .inl bs) → wL116 72 = .inl (cI, 89, .inl C115) → bl.toInt - C110.toInt < (d118 : Int) → St G 74 ad (wA 74 ad s.heap.size) s.heap wL116 H locs → lv_has ls 3 [(1, .int L109), (0, .ref (ad 64))] → W p l e { frames := 7, cells := 0, slots := 0, locals := 153 } s m [.ref (ad 64)].toArray below meth c H locs 0 0 (MQ below (va_Qi (fun r w1 => OK cI cB cZ cO ad w1 ∧ KN w w1 ∧ w1 66 = w 66 ∧ r.toInt = (runF bs bl.toNatClampNeg 151 0 (begF 0) 0).1 ∧ (0 < r.toInt → ∃ g9 : Nat → Int32, w1 65 = .inl (cI, 177, .inl g9) ∧ ∀ k, k < 89 → g9 k = (runF bs bl.toNatClampNeg 151 0 (begF 0) 0).2 k) ∧ (¬ 0 < r.toInt → w1 65 = w 65)) (Aft G 74 ad) (wA 74 ad s.heap.size)) [.ref (ad 64)].toArray s 0 0 (wA 74 ad s.heap.size)) (F0 m 84 ls []) := by
          intro d118
          induction d118 with
          | zero => intro L109 C110 C111 C112 C113 C114 C115 wL116 H locs ls hi121 hi122 hi123 hi124 hi125 hi126 hi127 hi128 hi129 hi130 hi131 hi132 ok133 kx134 cf135 cf136 cf137 hm120 h hl; exfalso; omega
          | succ d118 ih119 =>
            intro L109 C110 C111 C112 C113 C114 C115 wL116 H locs ls hi121 hi122 hi123 hi124 hi125 hi126 hi127 hi128 hi129 hi130 hi131 hi132 ok133 kx134 cf135 cf136 cf137 hm120 h hl
            have p138 : alA C115 := (alA_of65 ok133 (Or.inr (Or.inr rfl)) cf137).1
            have f139 : wL116 65 = .inl (cI, 177, .inl f5) := hi132.1.trans p65
            refine lv_aload_n hx hb dX9_read_84 rfl (lv_at hl 1 rfl) ?_
            refine r_get kc9 X h 64 13 (by decide) rfl cf135 (by decide) kv_665 rfl dX9_read_85 ?_
            refine lv_if_eq (tgt := 124) hx hb dX9_read_88 (by decide) (fun hc140 => ?_) (fun hc140 => ?_)
            · have hc140 : (C112).toInt = 0 := i_eq hc140 rfl rfl
              refine lv_iconst (v := 0) hx hb dX9_read_124 (by decide) ?_
              refine lv_istore_n (lv' := [(2, .int 0), (1, .int L109), (0, .ref (ad 64))]) hx hb dX9_read_125 rfl hl (by decide) rfl (fun ls hl => ?_)
              have hloop144 : ∀ (d145 : Nat) (L141 : Int32) (C142 : Nat → Int32) (wL143 : Nat → va_E) (H : Heap) (locs : List Loc) (ls : Array Slot), 0 ≤ L141.toInt → L141.toInt ≤ 89 → (∀ j : Nat, j < L141.toNatClampNeg → C142 j = C115 j) → (wL143 66 = w 66) → OK cI cB cZ cO ad wL143 → KN w wL143 → wL143 65 = .inl (cI, 177, .inl C142) → wL143 72 = .inl (cI, 89, .inl C115) → wL143 64 = .inr (7, [.ref (ad 65), .ref (ad 66), .ref (ad 67), .ref (ad 68), .long x, .long y, .ref (ad 69), .int mb, .ref (ad 70), .ref (ad 71), .int bl, .int C110, .int C111, .int C112, .int C113, .ref (ad 72), .ref (ad 73)]) → 89 - L141.toInt < (d145 : Int) → St G 74 ad (wA 74 ad s.heap.size) s.heap wL143 H locs → lv_has ls 3 [(2, .int L141), (1, .int L109), (0, .ref (ad 64))] → W p l e { frames := 7, cells := 0, slots := 0, locals := 153 } s m [.ref (ad 64)].toArray below meth c H locs 0 0 (MQ below (va_Qi (fun r w1 => OK cI cB cZ cO ad w1 ∧ KN w w1 ∧ w1 66 = w 66 ∧ r.toInt = (runF bs bl.toNatClampNeg 151 0 (begF 0) 0).1 ∧ (0 < r.toInt → ∃ g9 : Nat → Int32, w1 65 = .inl (cI, 177, .inl g9) ∧ ∀ k, k < 89 → g9 k = (runF bs bl.toNatClampNeg 151 0 (begF 0) 0).2 k) ∧ (¬ 0 < r.toInt → w1 65 = w 65)) (Aft G 74 ad) (wA 74 ad s.heap.size)) [.ref (ad 64)].toArray s 0 0 (wA 74 ad s.heap.size)) (F0 m 126 ls []) := by
                intro d145
                induction d145 with
                | zero => intro L141 C142 wL143 H locs ls hi148 hi149 hi150 hi151 ok152 kx153 cf154 cf155 cf156 hm147 h hl; exfalso; omega
                | succ d145 ih146 =>
                  intro L141 C142 wL143 H locs ls hi148 hi149 hi150 hi151 ok152 kx153 cf154 cf155 cf156 hm147 h hl
                  have p157 : alA C142 := (alA_of65 ok152 (Or.inl rfl) cf154).1
                  refine lv_iload_n hx hb dX9_read_126 rfl (lv_at hl 0 rfl) ?_
                  refine lv_bipush (v := 89) hx hb dX9_read_127 (by decide) ?_
                  refine lv_icmp_ge (tgt := 150) hx hb dX9_read_129 (by decide) (fun hc158 => ?_) (fun hc158 => ?_)
                  · have hc158 : 89 ≤ (L141).toInt := i_le hc158 rfl rfl
                    refine lv_iload_n hx hb dX9_read_150 rfl (lv_at hl 1 rfl) ?_
                    have ci_ := cl_of (x := L109) (by omega)
                    have hrun159 : runF bs bl.toNatClampNeg 151 0 (begF 0) 0 = ((L109.toNatClampNeg : Int), C115) := by
                      have c3 : 151 - L109.toNatClampNeg = (150 - L109.toNatClampNeg) + 1 := by omega
                      rw [← hi131, c3, runF_end (by rw [← hi130.2.2.1]; omega) (by omega)]
                    have ck_ := cl_of (x := L141) (by omega)
                    exact e_i X h hr hlk dX9_read_151 ⟨ok152, kx153, ⟨hi151, by rw [hrun159]; omega, fun _ => ⟨_, cf154, fun k9 h9 => by rw [hrun159]; exact hi150 k9 (by omega)⟩, fun h9 => by exfalso; omega⟩⟩
                  · have hc158 : ¬ 89 ≤ (L141).toInt := i_nle hc158 rfl rfl
                    refine lv_aload_n hx hb dX9_read_132 rfl (lv_at hl 2 rfl) ?_
                    refine r_get kc9 X h 64 0 (by decide) rfl cf156 (by decide) kv_467 rfl dX9_read_133 ?_
                    refine lv_iload_n hx hb dX9_read_136 rfl (lv_at hl 0 rfl) ?_
                    refine lv_aload_n hx hb dX9_read_137 rfl (lv_at hl 2 rfl) ?_
                    refine r_get kc9 X h 64 15 (by decide) rfl cf156 (by decide) kv_683 rfl dX9_read_138 ?_
                    refine lv_iload_n hx hb dX9_read_141 rfl (lv_at hl 0 rfl) ?_
                    obtain ⟨v160, e161⟩ : ∃ z : Int32, C115 L141.toNatClampNeg = z := ⟨_, rfl⟩
                    refine o_iald (v := v160) X h 72 0 (by decide) rfl cf155 rfl (in_of (by omega) (by omega)) e161 dX9_read_142 ?_
                    obtain ⟨g163, e164⟩ : ∃ z : Nat → Int32, upd C142 L141.toNatClampNeg v160 = z := ⟨_, rfl⟩
                    have p165 : alA g163 := alA_updc p138 p157 e161 e164
                    refine o_iast (f1 := g163) X hD h 65 0 (by decide) rfl cf154 rfl (in_of (by omega) (by omega)) e164 dX9_read_143 (fun H locs w166 e167 h => ?_)
                    have f168 : w166 65 = .inl (cI, 177, .inl g163) := (congrFun e167 _).trans (va_up_self _ _ _)
                    have ok169 : OK cI cB cZ cO ad w166 := OK.up ok152 e167 (sA_mk p165)
                    have kx170 : KN w w166 := KN.up kx153 e167 cf154 rfl
                    obtain ⟨z171, e172, t173⟩ := x_add (x := L141) (y := 1) (a := L141.toInt) (b := 1) rfl rfl (by omega) (by omega)
                    have n174 : z171.toNatClampNeg = L141.toNatClampNeg + 1 := cl_addn (x := L141) (y := 1) rfl rfl t173 (by omega) (by decide)
                    refine lv_iinc (v := z171) (lv' := [(2, .int z171), (1, .int L109), (0, .ref (ad 64))]) hx hb dX9_read_144 hl (k := 0) rfl e172 (by decide) rfl (fun ls hl => ?_)
                    refine lv_goto (tgt := 126) hx hb dX9_read_147 (by decide) ?_
                    have f175 : w166 72 = .inl (cI, 89, .inl C115) := by rw [e167, va_up_ne _ _ (by decide)]; exact cf155
                    have f176 : w166 64 = .inr (7, [.ref (ad 65), .ref (ad 66), .ref (ad 67), .ref (ad 68), .long x, .long y, .ref (ad 69), .int mb, .ref (ad 70), .ref (ad 71), .int bl, .int C110, .int C111, .int C112, .int C113, .ref (ad 72), .ref (ad 73)]) := by rw [e167, va_up_ne _ _ (by decide)]; exact cf156
                    exact ih146  z171 g163 w166 _ _ _ (by omega) (by omega) (fun j hj => by rw [n174] at hj; rw [← e164]; by_cases q9 : j = L141.toNatClampNeg; (subst q9; rw [pk_us]; exact e161.symm); (rw [pk_un q9]; exact hi150 j (by omega))) (((congrFun e167 66).trans (va_up_ne _ _ (by decide))).trans hi151) ok169 kx170 f168 f175 f176 (by omega) h (lv_sub hl [0, 1, 2] rfl)
              exact hloop144 90 (0 : Int32) f5 wL116 _ _ _ (by have q0 : (0 : Int32).toInt = 0 := rfl; omega) (by have q0 : (0 : Int32).toInt = 0 := rfl; omega) (fun j hj => absurd hj (Nat.not_lt_zero _)) hi132.2 ok133 kx134 f139 cf137 cf135 (by have q0 : (0 : Int32).toInt = 0 := rfl; omega) h (lv_sub hl [0, 1, 2] rfl)
            · have hc140 : ¬ (C112).toInt = 0 := i_ne hc140 rfl rfl
              refine lv_aload_n hx hb dX9_read_91 rfl (lv_at hl 1 rfl) ?_
              refine n_Vi (na := 0) (As := []) (rest := []) X hD hN h rfl (c_MF_takesItem l G cI cB cZ cO ad wL116 x y mb bl C110 C111 C112 C113 bs C114 C115 ok133 cf135 (by omega) (by omega) cf136 (by omega) (by omega) (by omega) hi130 cf137 p138 (by omega)) ⟨kv_712, kv_713, kv_714, kv_470, kv_715⟩ rfl ⟨by decide, by decide, by decide⟩ ⟨Nat.le_of_ble_eq_true rfl, Nat.le_of_ble_eq_true rfl⟩ ⟨Nat.zero_le _, Nat.zero_le _⟩ (by decide) cf135 rfl rfl hl.1 rfl (Nat.le_of_ble_eq_true rfl) dX9_read_92 (fun r177 w178 H locs hp179 h => ?_)
              obtain ⟨ok180, kk181, h65182, hr183⟩ := hp179
              have kx184 : KN w w178 := KN.tr kx134 kk181
              have f185 : w178 71 = .inl (cI, 150, .inl bs) := (kk181 71).trans cf136
              have f186 : w178 65 = .inl (cI, 177, .inl f5) := h65182.1.trans f139
              have w65187 : w178 65 = w 65 ∧ w178 66 = w 66 := ⟨h65182.1.trans hi132.1, h65182.2.trans hi132.2⟩
              obtain ⟨y188, y189, y190, y191, h192, h193, h194, h195, h196, hq197⟩ := hr183
              rcases hq197 with ⟨⟨Q198, g199, hat200, f201, hj202, h203⟩, rfl⟩ | ⟨hj204, rfl⟩
              · have p205 : alA g199 := (alA_of65 ok180 (Or.inr (Or.inr rfl)) f201).1
                refine lv_if_eq (tgt := 106) hx hb dX9_read_95 (by decide) (fun hc => absurd hc (by decide)) (fun _ => ?_)
                refine lv_aload_n hx hb dX9_read_98 rfl (lv_at hl 1 rfl) ?_
                refine r_get kc9 X h 64 13 (by decide) rfl h192 (by decide) kv_665 rfl dX9_read_99 ?_
                refine lv_iconst (v := 3) hx hb dX9_read_102 (by decide) ?_
                refine lv_icmp_eq (tgt := 114) hx hb dX9_read_103 (by decide) (fun hc206 => ?_) (fun hc206 => ?_)
                · have hc206 : (y190).toInt = 3 := i_eq hc206 rfl rfl
                  refine lv_aload_n hx hb dX9_read_114 rfl (lv_at hl 1 rfl) ?_
                  refine n_Vv (na := 0) (As := []) (rest := []) X hD hN h rfl (c_MF_goBehind l G cI cB cZ cO ad w178 x y mb bl y188 y189 y190 y191 bs Q198 ok180 h192 (by omega) (by omega) f185 (by omega) (by omega) (by omega) hat200) ⟨kv_679, kv_680, kv_681, kv_470, kv_682⟩ rfl ⟨by decide, by decide, by decide⟩ ⟨Nat.le_of_ble_eq_true rfl, Nat.le_of_ble_eq_true rfl⟩ ⟨Nat.zero_le _, Nat.zero_le _⟩ (by decide) h192 rfl rfl hl.1 rfl (Nat.le_of_ble_eq_true rfl) dX9_read_115 (fun w208 H locs hp209 h => ?_)
                  obtain ⟨ok210, kk211, hr212⟩ := hp209
                  obtain ⟨y213, y214, y215, y216, h217, h218, h219, h220, h221, h222⟩ := hr212
                  have kx223 : KN w w208 := KN.tr kx184 (F7.m kk211.f7 h192 h217).n
                  obtain ⟨z224, e225, t226⟩ := x_add (x := L109) (y := 1) (a := L109.toInt) (b := 1) rfl rfl (by omega) (by omega)
                  have n227 : z224.toNatClampNeg = L109.toNatClampNeg + 1 := cl_addn (x := L109) (y := 1) rfl rfl t226 (by omega) (by decide)
                  refine lv_iinc (v := z224) (lv' := [(1, .int z224), (0, .ref (ad 64))]) hx hb dX9_read_118 hl (k := 0) rfl e225 (by decide) rfl (fun ls hl => ?_)
                  refine lv_goto (tgt := 84) hx hb dX9_read_121 (by decide) ?_
                  have f228 : w208 72 = .inl (cI, 89, .inl g199) := (kk211 72 (by decide)).trans f201
                  have hb229 : runF bs bl.toNatClampNeg (151 - z224.toNatClampNeg) (tE bs bl.toNatClampNeg Q198) g199 z224.toNatClampNeg = runF bs bl.toNatClampNeg 151 0 (begF 0) 0 := by
                    have ci_ := cl_of (x := L109) (by omega)
                    have hi9 : itemF bs bl.toNatClampNeg C114 C115 (L109.toNatClampNeg = 0) = .inr ((tE bs bl.toNatClampNeg Q198), g199) := by
                      rw [item_jtem (by omega), hj202]
                      show stopF bs bl.toNatClampNeg Q198 g199 = _
                      unfold stopF
                      rw [pick_y (by rw [← hat200.2.2.1]; omega)]
                    rw [← hi131, n227]
                    have c3 : 151 - L109.toNatClampNeg = (150 - L109.toNatClampNeg) + 1 := by omega
                    have c4 : 151 - (L109.toNatClampNeg + 1) = 150 - L109.toNatClampNeg := by omega
                    rw [c3, c4, runF_next (fun q9 => by have q1 := q9.1; rw [← hi130.2.2.1] at q1; omega) hi9]
                  have f230 : w208 71 = .inl (cI, 150, .inl bs) := (kk211 71 (by decide)).trans f185
                  exact ih119  z224 y213 y214 y215 y216 (tE bs bl.toNatClampNeg Q198) g199 w208 _ _ _ (by omega) (by omega) (by omega) (by omega) (by omega) (by omega) (by omega) (by omega) (by omega) h222 hb229 ⟨(kk211 65 (by decide)).trans w65187.1, (kk211 66 (by decide)).trans w65187.2⟩ ok210 kx223 h217 f230 f228 (by omega) h (lv_sub hl [0, 1] rfl)
                · have hc206 : ¬ (y190).toInt = 3 := i_ne hc206 rfl rfl
                  refine lv_bipush (v := (-10)) hx hb dX9_read_106 (by decide) ?_
                  refine lv_aload_n hx hb dX9_read_108 rfl (lv_at hl 1 rfl) ?_
                  refine r_get kc9 X h 64 11 (by decide) rfl h192 (by decide) kv_663 rfl dX9_read_109 ?_
                  obtain ⟨z233, e231, t232⟩ := x_sub (x := ((-10) : Int32)) (y := y188) (a := (-10)) (b := (y188).toInt) rfl rfl (by omega) (by omega)
                  refine o_isub (z := z233) hx hb dX9_read_112 e231 ?_
                  have ci_ := cl_of (x := L109) (by omega)
                  have cs_ := cl_of (x := y188) (by omega)
                  have hrun234 : runF bs bl.toNatClampNeg 151 0 (begF 0) 0 = (-10 - (y188.toNatClampNeg : Int), C115) := by
                    have c3 : 151 - L109.toNatClampNeg = (150 - L109.toNatClampNeg) + 1 := by omega
                    have hi9 : itemF bs bl.toNatClampNeg C114 C115 (L109.toNatClampNeg = 0) = .inl y188.toNatClampNeg := by
                      rw [item_jtem (by omega), hj202]
                      show stopF bs bl.toNatClampNeg Q198 g199 = _
                      unfold stopF
                      rw [pick_n (by rw [← hat200.2.2.1]; omega)]
                      have t9 := hat200.1
                      congr 1; omega
                    rw [← hi131, c3, runF_fault (fun q9 => by have q1 := q9.1; rw [← hi130.2.2.1] at q1; omega) hi9]
                  exact e_i X h hr hlk dX9_read_113 ⟨ok180, kx184, ⟨w65187.2, by rw [hrun234]; omega, fun h9 => by exfalso; omega, fun _ => w65187.1⟩⟩
              · refine lv_if_eq (tgt := 106) hx hb dX9_read_95 (by decide) (fun _ => ?_) (fun hc => absurd (by decide) hc)
                refine lv_bipush (v := (-10)) hx hb dX9_read_106 (by decide) ?_
                refine lv_aload_n hx hb dX9_read_108 rfl (lv_at hl 1 rfl) ?_
                refine r_get kc9 X h 64 11 (by decide) rfl h192 (by decide) kv_663 rfl dX9_read_109 ?_
                obtain ⟨z237, e235, t236⟩ := x_sub (x := ((-10) : Int32)) (y := y188) (a := (-10)) (b := (y188).toInt) rfl rfl (by omega) (by omega)
                refine o_isub (z := z237) hx hb dX9_read_112 e235 ?_
                have ci_ := cl_of (x := L109) (by omega)
                have cs_ := cl_of (x := y188) (by omega)
                have hrun238 : runF bs bl.toNatClampNeg 151 0 (begF 0) 0 = (-10 - (y188.toNatClampNeg : Int), C115) := by
                  have c3 : 151 - L109.toNatClampNeg = (150 - L109.toNatClampNeg) + 1 := by omega
                  have hi9 : itemF bs bl.toNatClampNeg C114 C115 (L109.toNatClampNeg = 0) = .inl y188.toNatClampNeg := by
                    rw [item_jtem (by omega), hj204]
                    rfl
                  rw [← hi131, c3, runF_fault (fun q9 => by have q1 := q9.1; rw [← hi130.2.2.1] at q1; omega) hi9]
                exact e_i X h hr hlk dX9_read_113 ⟨ok180, kx184, ⟨w65187.2, by rw [hrun238]; omega, fun h9 => by exfalso; omega, fun _ => w65187.1⟩⟩
        have f239 : w103 64 = .inr (7, [.ref (ad 65), .ref (ad 66), .ref (ad 67), .ref (ad 68), .long x, .long y, .ref (ad 69), .int mb, .ref (ad 70), .ref (ad 71), .int bl, .int y85, .int y86, .int y87, .int y88, .ref (ad 72), .ref (ad 73)]) := (kk106.2 64 (by decide)).trans h89
        have hb240 : runF bs bl.toNatClampNeg (151 - (1 : Int32).toNatClampNeg) (tE bs bl.toNatClampNeg (tE bs bl.toNatClampNeg (tE bs bl.toNatClampNeg 0))) (begF y36) (1 : Int32).toNatClampNeg = runF bs bl.toNatClampNeg 151 0 (begF 0) 0 := by
          have hi9 : itemF bs bl.toNatClampNeg 0 (begF 0) (0 = 0) = .inr ((tE bs bl.toNatClampNeg (tE bs bl.toNatClampNeg (tE bs bl.toNatClampNeg 0))), (begF y36)) := by
            rw [item_0 hw24 rfl]
            unfold it0 stopF
            rw [pick_y h66, pick_y (by rw [← h64.2.2.1]; omega), iv_of (h42.2.2.2 (by omega)).symm]
          have c1 : (1 : Int32).toNatClampNeg = 1 := rfl
          rw [c1]
          exact (runF_next (n := 150) (by omega) hi9).symm
        have f241 : w80 71 = .inl (cI, 150, .inl bs) := (kk83 71 (by decide)).trans f78
        have f242 : w103 71 = .inl (cI, 150, .inl bs) := (kk106.2 71 (by decide)).trans f241
        exact hloop117 151 (1 : Int32) y85 y86 y87 y88 (tE bs bl.toNatClampNeg (tE bs bl.toNatClampNeg (tE bs bl.toNatClampNeg 0))) (begF y36) w103 _ _ _ (by have q0 : (1 : Int32).toInt = 1 := rfl; omega) (by have q0 : (1 : Int32).toInt = 1 := rfl; omega) (by have q0 : (1 : Int32).toInt = 1 := rfl; omega) (by have q0 : (1 : Int32).toInt = 1 := rfl; omega) (by have q0 : (1 : Int32).toInt = 1 := rfl; omega) (by have q0 : (1 : Int32).toInt = 1 := rfl; omega) (by have q0 : (1 : Int32).toInt = 1 := rfl; omega) (by have q0 : (1 : Int32).toInt = 1 := rfl; omega) (by have q0 : (1 : Int32).toInt = 1 := rfl; omega) h94 hb240 ⟨(kk106.2 65 (by decide)).trans ((kk83 65 (by decide)).trans ((kk53 65 (by decide) (by decide)).trans ((kk31 65 (by decide)).trans (kk5 65 (by decide))))), (kk106.2 66 (by decide)).trans ((kk83 66 (by decide)).trans ((kk53 66 (by decide) (by decide)).trans ((kk31 66 (by decide)).trans (kk5 66 (by decide)))))⟩ ok105 kx108 f239 f242 hr107 (by have q0 : (1 : Int32).toInt = 1 := rfl; omega) h (lv_sub hl [0, 1] rfl)
      · have hc77 : ¬ (y57).toInt = 3 := i_ne hc77 rfl rfl
        refine lv_bipush (v := (-10)) hx hb dX9_read_57 (by decide) ?_
        refine lv_aload_n hx hb dX9_read_59 rfl (lv_at hl 0 rfl) ?_
        refine r_get kc9 X h 64 11 (by decide) rfl h59 (by decide) kv_663 rfl dX9_read_60 ?_
        obtain ⟨z245, e243, t244⟩ := x_sub (x := ((-10) : Int32)) (y := y55) (a := (-10)) (b := (y55).toInt) rfl rfl (by omega) (by omega)
        refine o_isub (z := z245) hx hb dX9_read_63 e243 ?_
        have cs_ := cl_of (x := y55) (by omega)
        have hrun246 : runF bs bl.toNatClampNeg 151 0 (begF 0) 0 = (-10 - (y55.toNatClampNeg : Int), begF 0) := by
          have t9 := h64.1
          have hi9 : itemF bs bl.toNatClampNeg 0 (begF 0) (0 = 0) = .inl y55.toNatClampNeg := by
            rw [item_0 hw24 rfl]
            unfold it0 stopF
            rw [pick_y h66, pick_n (by rw [← h64.2.2.1]; omega)]
            congr 1; omega
          exact runF_fault (n := 150) (by omega) hi9
        exact e_i X h hr hlk dX9_read_64 ⟨ok52, kx76, ⟨(kk53 66 (by decide) (by decide)).trans ((kk31 66 (by decide)).trans (kk5 66 (by decide))), by rw [hrun246]; omega, fun h9 => by exfalso; omega, fun _ => (kk53 65 (by decide) (by decide)).trans ((kk31 65 (by decide)).trans (kk5 65 (by decide)))⟩⟩
    · have f247 : w50 64 = .inr (7, [.ref (ad 65), .ref (ad 66), .ref (ad 67), .ref (ad 68), .long x, .long y, .ref (ad 69), .int mb, .ref (ad 70), .ref (ad 71), .int bl, .int y33, .int y34, .int y35, .int y36, .ref (ad 72), .ref (ad 73)]) := h67.trans h37
      have h69 : ¬ numK bs bl.toNatClampNeg (tE bs bl.toNatClampNeg 0) 0 99 := h69
      have kx248 : KN w w50 := KN.tr kx43 (F7.m kk53 h37 f247).n
      refine lv_if_eq (tgt := 57) hx hb dX9_read_46 (by decide) (fun _ => ?_) (fun hc => absurd (by decide) hc)
      refine lv_bipush (v := (-10)) hx hb dX9_read_57 (by decide) ?_
      refine lv_aload_n hx hb dX9_read_59 rfl (lv_at hl 0 rfl) ?_
      refine r_get kc9 X h 64 11 (by decide) rfl f247 (by decide) kv_663 rfl dX9_read_60 ?_
      obtain ⟨z251, e249, t250⟩ := x_sub (x := ((-10) : Int32)) (y := y33) (a := (-10)) (b := (y33).toInt) rfl rfl (by omega) (by omega)
      refine o_isub (z := z251) hx hb dX9_read_63 e249 ?_
      have cs_ := cl_of (x := y33) (by omega)
      have hrun252 : runF bs bl.toNatClampNeg 151 0 (begF 0) 0 = (-10 - (y33.toNatClampNeg : Int), begF 0) := by
        have t9 := h42.1
        have hi9 : itemF bs bl.toNatClampNeg 0 (begF 0) (0 = 0) = .inl y33.toNatClampNeg := by
          rw [item_0 hw24 rfl]
          unfold it0
          rw [pick_n h69]
          congr 1; omega
        exact runF_fault (n := 150) (by omega) hi9
      exact e_i X h hr hlk dX9_read_64 ⟨ok52, kx248, ⟨(kk53 66 (by decide) (by decide)).trans ((kk31 66 (by decide)).trans (kk5 66 (by decide))), by rw [hrun252]; omega, fun h9 => by exfalso; omega, fun _ => (kk53 65 (by decide) (by decide)).trans ((kk31 65 (by decide)).trans (kk5 65 (by decide)))⟩⟩
  · have hw24 : ¬ wdAt bs bl.toNatClampNeg 0 = 0 := fun q9 => hw24 (hi25.mpr q9)
    refine lv_if_ne (tgt := 34) hx hb dX9_read_23 (by decide) (fun hc => absurd (by decide) hc) (fun _ => ?_)
    refine lv_bipush (v := (-10)) hx hb dX9_read_26 (by decide) ?_
    refine lv_aload_n hx hb dX9_read_28 rfl (lv_at hl 0 rfl) ?_
    refine r_get kc9 X h 64 11 (by decide) rfl h11 (by decide) kv_663 rfl dX9_read_29 ?_
    obtain ⟨z255, e253, t254⟩ := x_sub (x := ((-10) : Int32)) (y := y7) (a := (-10)) (b := (y7).toInt) rfl rfl (by omega) (by omega)
    refine o_isub (z := z255) hx hb dX9_read_32 e253 ?_
    have cs_ := cl_of (x := y7) (by omega)
    have hrun256 : runF bs bl.toNatClampNeg 151 0 (begF 0) 0 = (-10 - (y7.toNatClampNeg : Int), begF 0) := by
      have t9 := hat18.1
      have hi9 : itemF bs bl.toNatClampNeg 0 (begF 0) (0 = 0) = .inl y7.toNatClampNeg := by
        rw [item_none rfl _ (by omega) (by omega) (by omega) (by omega)]
        congr 1; omega
      exact runF_fault (n := 150) (by omega) hi9
    exact e_i X h hr hlk dX9_read_33 ⟨ok4, kx17, ⟨kk5 66 (by decide), by rw [hrun256]; omega, fun h9 => by exfalso; omega, fun _ => kk5 65 (by decide)⟩⟩
