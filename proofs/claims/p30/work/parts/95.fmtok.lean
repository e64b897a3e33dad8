set_option maxHeartbeats 4000000 in
set_option maxRecDepth 100000 in
theorem c_MF_lookAt (l : Launch) (G : va_G) (cI cB cZ cO : ClassId) (ad : Nat → Nat) (w : Nat → va_E) (x y : Int64) (mb bl ta tl tk va : Int32) (bs : Nat → Int32) (ok : OK cI cB cZ cO ad w) (n : Int32) (hl_n : 0 ≤ n.toInt) (hh_n : n.toInt ≤ 150) (pf : w 64 = .inr (7, [.ref (ad 65), .ref (ad 66), .ref (ad 67), .ref (ad 68), .long x, .long y, .ref (ad 69), .int mb, .ref (ad 70), .ref (ad 71), .int bl, .int ta, .int tl, .int tk, .int va, .ref (ad 72), .ref (ad 73)])) (hbl0 : 0 ≤ bl.toInt) (hbl1 : bl.toInt ≤ 150) (p71 : w 71 = .inl (cI, 150, .inl bs)) (hnb : n.toInt ≤ bl.toInt) : NV l G (tyq cI cB cZ cO) yX9_lookAt cX9_lookAt 5 2 45 74 ad w [.ref (ad 64), .int n] (fun w1 => OK cI cB cZ cO ad w1 ∧ F6 w w1 ∧ ∃ ta1 tl1 tk1 va1 : Int32, w1 64 = .inr (7, [.ref (ad 65), .ref (ad 66), .ref (ad 67), .ref (ad 68), .long x, .long y, .ref (ad 69), .int mb, .ref (ad 70), .ref (ad 71), .int bl, .int ta1, .int tl1, .int tk1, .int va1, .ref (ad 72), .ref (ad 73)]) ∧ n.toInt ≤ ta1.toInt ∧ 0 ≤ tl1.toInt ∧ ta1.toInt + tl1.toInt ≤ bl.toInt ∧ (tk1.toInt = 0 ∨ 1 ≤ tl1.toInt) ∧ LOOKP bs bl n ta1 tl1 tk1 va1) := by
  refine nk_v (own := "NoonShadeModel") rfl (by decide) (Nat.le_of_ble_eq_true rfl) ?_
  intro p e s m below meth c ls X hD hN hr hlk h hl
  have hx := X.1.1
  have hb := X.1.2.1
  have hown := X.1.2.2.2.1
  have hts := X.1.2.2.2.2
  have hl : lv_has ls 5 [(0, .ref (ad 64)), (1, .int n)] := hl
  have kq0 : (0 : Int32).toInt = 0 := rfl
  have kq1 : (1 : Int32).toInt = 1 := rfl
  have kq2 : (2 : Int32).toInt = 2 := rfl
  have kq3 : (3 : Int32).toInt = 3 := rfl
  have kq4 : (4 : Int32).toInt = 4 := rfl
  refine lv_aload_n hx hb dX9_lookAt_0 rfl (lv_at hl 0 rfl) ?_
  refine lv_iload_n hx hb dX9_lookAt_1 rfl (lv_at hl 1 rfl) ?_
  refine r_put kc9 X hD h 64 11 (by decide) rfl pf (by decide) kv_663 rfl rfl rfl (Nat.le_of_ble_eq_true rfl) dX9_lookAt_2 (fun H locs w1 e2 h => ?_)
  have f3 : w1 64 = .inr (7, [.ref (ad 65), .ref (ad 66), .ref (ad 67), .ref (ad 68), .long x, .long y, .ref (ad 69), .int mb, .ref (ad 70), .ref (ad 71), .int bl, .int n, .int tl, .int tk, .int va, .ref (ad 72), .ref (ad 73)]) := (congrFun e2 _).trans (va_up_self _ _ _)
  have ok4 : OK cI cB cZ cO ad w1 := OK.up ok e2 (sM_mk (by omega) (by omega))
  have kx5 : F6 w w1 := F6.up F6.rf e2
  have hloop8 : ∀ (d9 : Nat) (C6 : Int32) (wL7 : Nat → va_E) (H : Heap) (locs : List Loc) (ls : Array Slot), 0 ≤ C6.toInt → C6.toInt ≤ 150 → n.toInt ≤ C6.toInt → C6.toInt ≤ bl.toInt → (runB spB bs n C6) → OK cI cB cZ cO ad wL7 → F6 w wL7 → wL7 64 = .inr (7, [.ref (ad 65), .ref (ad 66), .ref (ad 67), .ref (ad 68), .long x, .long y, .ref (ad 69), .int mb, .ref (ad 70), .ref (ad 71), .int bl, .int C6, .int tl, .int tk, .int va, .ref (ad 72), .ref (ad 73)]) → wL7 71 = .inl (cI, 150, .inl bs) → bl.toInt - C6.toInt < (d9 : Int) → St G 74 ad (wA 74 ad s.heap.size) s.heap wL7 H locs → lv_has ls 5 [(0, .ref (ad 64)), (1, .int n)] → W p l e { frames := 2, cells := 0, slots := 0, locals := 45 } s m [.ref (ad 64), .int n].toArray below meth c H locs 0 0 (MQ below (va_Qv (fun w1 => OK cI cB cZ cO ad w1 ∧ F6 w w1 ∧ ∃ ta1 tl1 tk1 va1 : Int32, w1 64 = .inr (7, [.ref (ad 65), .ref (ad 66), .ref (ad 67), .ref (ad 68), .long x, .long y, .ref (ad 69), .int mb, .ref (ad 70), .ref (ad 71), .int bl, .int ta1, .int tl1, .int tk1, .int va1, .ref (ad 72), .ref (ad 73)]) ∧ n.toInt ≤ ta1.toInt ∧ 0 ≤ tl1.toInt ∧ ta1.toInt + tl1.toInt ≤ bl.toInt ∧ (tk1.toInt = 0 ∨ 1 ≤ tl1.toInt) ∧ LOOKP bs bl n ta1 tl1 tk1 va1) (Aft G 74 ad) (wA 74 ad s.heap.size)) [.ref (ad 64), .int n].toArray s 0 0 (wA 74 ad s.heap.size)) (F0 m 5 ls []) := by
    intro d9
    induction d9 with
    | zero => intro C6 wL7 H locs ls hi12 hi13 hi14 hi15 hi16 ok17 kx18 cf19 cf20 hm11 h hl; exfalso; omega
    | succ d9 ih10 =>
      intro C6 wL7 H locs ls hi12 hi13 hi14 hi15 hi16 ok17 kx18 cf19 cf20 hm11 h hl
      refine lv_aload_n hx hb dX9_lookAt_5 rfl (lv_at hl 0 rfl) ?_
      refine r_get kc9 X h 64 11 (by decide) rfl cf19 (by decide) kv_663 rfl dX9_lookAt_6 ?_
      refine lv_aload_n hx hb dX9_lookAt_9 rfl (lv_at hl 0 rfl) ?_
      refine r_get kc9 X h 64 10 (by decide) rfl cf19 (by decide) kv_539 rfl dX9_lookAt_10 ?_
      refine lv_icmp_ge (tgt := 43) hx hb dX9_lookAt_13 (by decide) (fun hc21 => ?_) (fun hc21 => ?_)
      · have hc21 : (bl).toInt ≤ (C6).toInt := i_le hc21 rfl rfl
        refine lv_aload_n hx hb dX9_lookAt_43 rfl (lv_at hl 0 rfl) ?_
        refine lv_iconst (v := 0) hx hb dX9_lookAt_44 (by decide) ?_
        refine r_put kc9 X hD h 64 12 (by decide) rfl cf19 (by decide) kv_664 rfl rfl rfl (Nat.le_of_ble_eq_true rfl) dX9_lookAt_45 (fun H locs w22 e23 h => ?_)
        have f24 : w22 64 = .inr (7, [.ref (ad 65), .ref (ad 66), .ref (ad 67), .ref (ad 68), .long x, .long y, .ref (ad 69), .int mb, .ref (ad 70), .ref (ad 71), .int bl, .int C6, .int 0, .int tk, .int va, .ref (ad 72), .ref (ad 73)]) := (congrFun e23 _).trans (va_up_self _ _ _)
        have ok25 : OK cI cB cZ cO ad w22 := OK.up ok17 e23 (sM_mk (by omega) (by omega))
        have kx26 : F6 w w22 := F6.up kx18 e23
        refine lv_aload_n hx hb dX9_lookAt_48 rfl (lv_at hl 0 rfl) ?_
        refine lv_iconst (v := 0) hx hb dX9_lookAt_49 (by decide) ?_
        refine r_put kc9 X hD h 64 13 (by decide) rfl f24 (by decide) kv_665 rfl rfl rfl (Nat.le_of_ble_eq_true rfl) dX9_lookAt_50 (fun H locs w27 e28 h => ?_)
        have f29 : w27 64 = .inr (7, [.ref (ad 65), .ref (ad 66), .ref (ad 67), .ref (ad 68), .long x, .long y, .ref (ad 69), .int mb, .ref (ad 70), .ref (ad 71), .int bl, .int C6, .int 0, .int 0, .int va, .ref (ad 72), .ref (ad 73)]) := (congrFun e28 _).trans (va_up_self _ _ _)
        have ok30 : OK cI cB cZ cO ad w27 := OK.up ok25 e28 (sM_mk (by omega) (by omega))
        have kx31 : F6 w w27 := F6.up kx26 e28
        refine lv_aload_n hx hb dX9_lookAt_53 rfl (lv_at hl 0 rfl) ?_
        refine lv_iconst (v := 0) hx hb dX9_lookAt_54 (by decide) ?_
        refine r_put kc9 X hD h 64 14 (by decide) rfl f29 (by decide) kv_666 rfl rfl rfl (Nat.le_of_ble_eq_true rfl) dX9_lookAt_55 (fun H locs w32 e33 h => ?_)
        have f34 : w32 64 = .inr (7, [.ref (ad 65), .ref (ad 66), .ref (ad 67), .ref (ad 68), .long x, .long y, .ref (ad 69), .int mb, .ref (ad 70), .ref (ad 71), .int bl, .int C6, .int 0, .int 0, .int 0, .ref (ad 72), .ref (ad 73)]) := (congrFun e33 _).trans (va_up_self _ _ _)
        have ok35 : OK cI cB cZ cO ad w32 := OK.up ok30 e33 (sM_mk (by omega) (by omega))
        have kx36 : F6 w w32 := F6.up kx31 e33
        refine lv_aload_n hx hb dX9_lookAt_58 rfl (lv_at hl 0 rfl) ?_
        refine r_get kc9 X h 64 11 (by decide) rfl f34 (by decide) kv_663 rfl dX9_lookAt_59 ?_
        refine lv_aload_n hx hb dX9_lookAt_62 rfl (lv_at hl 0 rfl) ?_
        refine r_get kc9 X h 64 10 (by decide) rfl f34 (by decide) kv_539 rfl dX9_lookAt_63 ?_
        refine lv_icmp_ne (tgt := 70) hx hb dX9_lookAt_66 (by decide) (fun hc37 => ?_) (fun hc37 => ?_)
        · have hc37 : ¬ (C6).toInt = (bl).toInt := i_ne hc37 rfl rfl
          refine lv_aload_n hx hb dX9_lookAt_70 rfl (lv_at hl 0 rfl) ?_
          refine r_get kc9 X h 64 9 (by decide) rfl f34 (by decide) kv_667 rfl dX9_lookAt_71 ?_
          refine lv_aload_n hx hb dX9_lookAt_74 rfl (lv_at hl 0 rfl) ?_
          refine r_get kc9 X h 64 11 (by decide) rfl f34 (by decide) kv_663 rfl dX9_lookAt_75 ?_
          have f38 : w22 71 = .inl (cI, 150, .inl bs) := by rw [e23, va_up_ne _ _ (by decide)]; exact cf20
          have f39 : w27 71 = .inl (cI, 150, .inl bs) := by rw [e28, va_up_ne _ _ (by decide)]; exact f38
          have f40 : w32 71 = .inl (cI, 150, .inl bs) := by rw [e33, va_up_ne _ _ (by decide)]; exact f39
          obtain ⟨v41, e42⟩ : ∃ z : Int32, bs C6.toNatClampNeg = z := ⟨_, rfl⟩
          refine o_iald (v := v41) X h 71 0 (by decide) rfl f40 rfl (in_of (by omega) (by omega)) e42 dX9_lookAt_78 ?_
          refine lv_istore_n (lv' := [(2, .int v41), (0, .ref (ad 64)), (1, .int n)]) hx hb dX9_lookAt_79 rfl hl (by decide) rfl (fun ls hl => ?_)
          refine lv_aload_n hx hb dX9_lookAt_80 rfl (lv_at hl 1 rfl) ?_
          refine lv_iload_n hx hb dX9_lookAt_81 rfl (lv_at hl 0 rfl) ?_
          refine n_Si (na := 1) (As := [.int v41]) (rest := [.ref (ad 64)]) X hD hN h (c_M_isSmall l G cI cB cZ cO ad w32   v41  ) ⟨kv_668, kv_669, kv_470, kv_670⟩ ⟨by decide, by decide, by decide⟩ ⟨Nat.le_of_ble_eq_true rfl, Nat.le_of_ble_eq_true rfl⟩ ⟨Nat.zero_le _, Nat.zero_le _⟩ rfl hl.1 rfl (Nat.le_of_ble_eq_true rfl) dX9_lookAt_82 (fun r44 w45 H locs hp46 h => ?_)
          obtain ⟨rfl, hr47⟩ := hp46
          rcases hr47 with ⟨hq48, hq49, rfl⟩ | ⟨hq50, rfl⟩
          · refine lv_if_eq (tgt := 92) hx hb dX9_lookAt_85 (by decide) (fun hc => absurd hc (by decide)) (fun _ => ?_)
            refine lv_iconst (v := 1) hx hb dX9_lookAt_88 (by decide) ?_
            refine lv_goto (tgt := 114) hx hb dX9_lookAt_89 (by decide) ?_
            refine r_put kc9 X hD h 64 13 (by decide) rfl f34 (by decide) kv_665 rfl rfl rfl (Nat.le_of_ble_eq_true rfl) dX9_lookAt_114 (fun H locs w51 e52 h => ?_)
            have f53 : w51 64 = .inr (7, [.ref (ad 65), .ref (ad 66), .ref (ad 67), .ref (ad 68), .long x, .long y, .ref (ad 69), .int mb, .ref (ad 70), .ref (ad 71), .int bl, .int C6, .int 0, .int 1, .int 0, .ref (ad 72), .ref (ad 73)]) := (congrFun e52 _).trans (va_up_self _ _ _)
            have ok54 : OK cI cB cZ cO ad w51 := OK.up ok35 e52 (sM_mk (by omega) (by omega))
            have kx55 : F6 w w51 := F6.up kx36 e52
            refine lv_aload_n hx hb dX9_lookAt_117 rfl (lv_at hl 1 rfl) ?_
            refine lv_iconst (v := 1) hx hb dX9_lookAt_118 (by decide) ?_
            refine r_put kc9 X hD h 64 12 (by decide) rfl f53 (by decide) kv_664 rfl rfl rfl (Nat.le_of_ble_eq_true rfl) dX9_lookAt_119 (fun H locs w56 e57 h => ?_)
            have f58 : w56 64 = .inr (7, [.ref (ad 65), .ref (ad 66), .ref (ad 67), .ref (ad 68), .long x, .long y, .ref (ad 69), .int mb, .ref (ad 70), .ref (ad 71), .int bl, .int C6, .int 1, .int 1, .int 0, .ref (ad 72), .ref (ad 73)]) := (congrFun e57 _).trans (va_up_self _ _ _)
            have ok59 : OK cI cB cZ cO ad w56 := OK.up ok54 e57 (sM_mk (by omega) (by omega))
            have kx60 : F6 w w56 := F6.up kx55 e57
            refine lv_aload_n hx hb dX9_lookAt_122 rfl (lv_at hl 1 rfl) ?_
            refine r_get kc9 X h 64 13 (by decide) rfl f58 (by decide) kv_665 rfl dX9_lookAt_123 ?_
            refine lv_iconst (v := 3) hx hb dX9_lookAt_126 (by decide) ?_
            refine lv_icmp_ge (tgt := 134) hx hb dX9_lookAt_127 (by decide) (fun hc => absurd hc (by decide)) (fun _ => ?_)
            refine lv_iconst (v := 1) hx hb dX9_lookAt_130 (by decide) ?_
            refine lv_goto (tgt := 135) hx hb dX9_lookAt_131 (by decide) ?_
            refine lv_istore_n (lv' := [(3, .int 1), (2, .int v41), (0, .ref (ad 64)), (1, .int n)]) hx hb dX9_lookAt_135 rfl hl (by decide) rfl (fun ls hl => ?_)
            have hloop64 : ∀ (d65 : Nat) (L61 : Int32) (C62 : Int32) (wL63 : Nat → va_E) (H : Heap) (locs : List Loc) (ls : Array Slot), 0 ≤ L61.toInt → L61.toInt ≤ 1 → 1 ≤ C62.toInt → C62.toInt ≤ 150 → C6.toInt + C62.toInt ≤ bl.toInt → (runI ltB bs C6.toInt (C6.toInt + C62.toInt)) → (L61.toInt = 0 → C6.toInt + C62.toInt < bl.toInt ∧ ¬ (97 ≤ (bs (C6.toNatClampNeg + C62.toNatClampNeg)).toInt ∧ (bs (C6.toNatClampNeg + C62.toNatClampNeg)).toInt ≤ 122)) → OK cI cB cZ cO ad wL63 → F6 w wL63 → wL63 64 = .inr (7, [.ref (ad 65), .ref (ad 66), .ref (ad 67), .ref (ad 68), .long x, .long y, .ref (ad 69), .int mb, .ref (ad 70), .ref (ad 71), .int bl, .int C6, .int C62, .int 1, .int 0, .ref (ad 72), .ref (ad 73)]) → wL63 71 = .inl (cI, 150, .inl bs) → bl.toInt - C6.toInt - C62.toInt + L61.toInt < (d65 : Int) → St G 74 ad (wA 74 ad s.heap.size) s.heap wL63 H locs → lv_has ls 5 [(3, .int L61), (2, .int v41), (0, .ref (ad 64)), (1, .int n)] → W p l e { frames := 2, cells := 0, slots := 0, locals := 45 } s m [.ref (ad 64), .int n].toArray below meth c H locs 0 0 (MQ below (va_Qv (fun w1 => OK cI cB cZ cO ad w1 ∧ F6 w w1 ∧ ∃ ta1 tl1 tk1 va1 : Int32, w1 64 = .inr (7, [.ref (ad 65), .ref (ad 66), .ref (ad 67), .ref (ad 68), .long x, .long y, .ref (ad 69), .int mb, .ref (ad 70), .ref (ad 71), .int bl, .int ta1, .int tl1, .int tk1, .int va1, .ref (ad 72), .ref (ad 73)]) ∧ n.toInt ≤ ta1.toInt ∧ 0 ≤ tl1.toInt ∧ ta1.toInt + tl1.toInt ≤ bl.toInt ∧ (tk1.toInt = 0 ∨ 1 ≤ tl1.toInt) ∧ LOOKP bs bl n ta1 tl1 tk1 va1) (Aft G 74 ad) (wA 74 ad s.heap.size)) [.ref (ad 64), .int n].toArray s 0 0 (wA 74 ad s.heap.size)) (F0 m 136 ls []) := by
              intro d65
              induction d65 with
              | zero => intro L61 C62 wL63 H locs ls hi68 hi69 hi70 hi71 hi72 hi73 hi74 ok75 kx76 cf77 cf78 hm67 h hl; exfalso; omega
              | succ d65 ih66 =>
                intro L61 C62 wL63 H locs ls hi68 hi69 hi70 hi71 hi72 hi73 hi74 ok75 kx76 cf77 cf78 hm67 h hl
                refine lv_iload_n hx hb dX9_lookAt_136 rfl (lv_at hl 0 rfl) ?_
                refine lv_if_eq (tgt := 215) hx hb dX9_lookAt_137 (by decide) (fun hc79 => ?_) (fun hc79 => ?_)
                · have hc79 : (L61).toInt = 0 := i_eq hc79 rfl rfl
                  refine lv_iconst (v := 0) hx hb dX9_lookAt_215 (by decide) ?_
                  refine lv_istore (lv' := [(4, .int 0), (3, .int L61), (2, .int v41), (0, .ref (ad 64)), (1, .int n)]) hx hb dX9_lookAt_216 hl (by decide) rfl (fun ls hl => ?_)
                  refine lv_iload hx hb dX9_lookAt_218 (lv_at hl 0 rfl) ?_
                  refine lv_aload_n hx hb dX9_lookAt_220 rfl (lv_at hl 3 rfl) ?_
                  refine r_get kc9 X h 64 12 (by decide) rfl cf77 (by decide) kv_664 rfl dX9_lookAt_221 ?_
                  refine lv_icmp_ge (tgt := 274) hx hb dX9_lookAt_224 (by decide) (fun hc80 => ?_) (fun hc80 => ?_)
                  · have hc80 : (C62).toInt ≤ 0 := i_le hc80 rfl rfl
                    exfalso; omega
                  · have hc80 : ¬ (C62).toInt ≤ 0 := i_nle hc80 rfl rfl
                    refine lv_iload hx hb dX9_lookAt_227 (lv_at hl 0 rfl) ?_
                    refine lv_iconst (v := 2) hx hb dX9_lookAt_229 (by decide) ?_
                    refine lv_icmp_ge (tgt := 274) hx hb dX9_lookAt_230 (by decide) (fun hc => absurd hc (by decide)) (fun _ => ?_)
                    refine lv_aload_n hx hb dX9_lookAt_233 rfl (lv_at hl 3 rfl) ?_
                    refine r_get kc9 X h 64 13 (by decide) rfl cf77 (by decide) kv_665 rfl dX9_lookAt_234 ?_
                    refine lv_iconst (v := 2) hx hb dX9_lookAt_237 (by decide) ?_
                    refine lv_icmp_ne (tgt := 274) hx hb dX9_lookAt_238 (by decide) (fun _ => ?_) (fun hc => absurd hc (by decide))
                    refine lv_aload_n hx hb dX9_lookAt_274 rfl (lv_at hl 3 rfl) ?_
                    refine lv_aload_n hx hb dX9_lookAt_275 rfl (lv_at hl 3 rfl) ?_
                    refine r_get kc9 X h 64 13 (by decide) rfl cf77 (by decide) kv_665 rfl dX9_lookAt_276 ?_
                    refine lv_iconst (v := 2) hx hb dX9_lookAt_279 (by decide) ?_
                    refine lv_icmp_ne (tgt := 295) hx hb dX9_lookAt_280 (by decide) (fun _ => ?_) (fun hc => absurd hc (by decide))
                    refine lv_aload_n hx hb dX9_lookAt_295 rfl (lv_at hl 3 rfl) ?_
                    refine r_get kc9 X h 64 13 (by decide) rfl cf77 (by decide) kv_665 rfl dX9_lookAt_296 ?_
                    refine r_put kc9 X hD h 64 13 (by decide) rfl cf77 (by decide) kv_665 rfl rfl rfl (Nat.le_of_ble_eq_true rfl) dX9_lookAt_299 (fun H locs w81 e82 h => ?_)
                    have f83 : w81 64 = .inr (7, [.ref (ad 65), .ref (ad 66), .ref (ad 67), .ref (ad 68), .long x, .long y, .ref (ad 69), .int mb, .ref (ad 70), .ref (ad 71), .int bl, .int C6, .int C62, .int 1, .int 0, .ref (ad 72), .ref (ad 73)]) := (congrFun e82 _).trans (va_up_self _ _ _)
                    have ok84 : OK cI cB cZ cO ad w81 := OK.up ok75 e82 (sM_mk (by omega) (by omega))
                    have kx85 : F6 w w81 := F6.up kx76 e82
                    have hlk86 : LOOKP bs bl n C6 C62 (1 : Int32) (0 : Int32) := by
                      have kc1 : (1 : Int32).toInt = 1 := rfl
                      have kc0 : (0 : Int32).toInt = 0 := rfl
                      obtain ⟨e9, e9e, e9t⟩ := x_add (x := C6) (y := C62) (a := C6.toInt) (b := C62.toInt) rfl rfl (by omega) (by omega)
                      have e9n : e9.toNatClampNeg = C6.toNatClampNeg + C62.toNatClampNeg := cl_addn rfl rfl e9t (by omega) (by omega)
                      have hE : e9.toInt = bl.toInt ∨ ∃ u : Int32, bs e9.toNatClampNeg = u ∧ ¬ (97 ≤ u.toInt ∧ u.toInt ≤ 122) := by
                        by_cases q9 : L61.toInt = 0
                        · right; exact ⟨_, rfl, by rw [e9n]; exact (hi74 q9).2⟩
                        · left; omega
                      rcases hE with hE | ⟨u9, hE, hE2⟩
                      · exact LOOKP.of e9t (tok1 (u := 0) (by omega) (by omega) (by omega) (by omega) hi16 e42 ⟨by omega, by omega⟩ (by omega) (by omega) (hi73.b (by omega)) (Or.inl hE) (by omega))
                      · exact LOOKP.of e9t (tok1 (u := u9) (by omega) (by omega) (by omega) (by omega) hi16 e42 ⟨by omega, by omega⟩ (by omega) (by omega) (hi73.b (by omega)) (Or.inr ⟨hE, hE2⟩) (by omega))
                    exact e_v X h hr hlk dX9_lookAt_302 ⟨ok84, kx85, ⟨_, _, _, _, f83, by omega, by omega, by omega, by omega, hlk86⟩⟩
                · have hc79 : ¬ (L61).toInt = 0 := i_ne hc79 rfl rfl
                  refine lv_aload_n hx hb dX9_lookAt_140 rfl (lv_at hl 2 rfl) ?_
                  refine r_get kc9 X h 64 11 (by decide) rfl cf77 (by decide) kv_663 rfl dX9_lookAt_141 ?_
                  refine lv_aload_n hx hb dX9_lookAt_144 rfl (lv_at hl 2 rfl) ?_
                  refine r_get kc9 X h 64 12 (by decide) rfl cf77 (by decide) kv_664 rfl dX9_lookAt_145 ?_
                  obtain ⟨z89, e87, t88⟩ := x_add (x := C6) (y := C62) (a := (C6).toInt) (b := (C62).toInt) rfl rfl (by omega) (by omega)
                  have n90 : z89.toNatClampNeg = C6.toNatClampNeg + C62.toNatClampNeg := cl_addn (x := C6) (y := C62) rfl rfl t88 (by omega) (by omega)
                  refine o_iadd (z := z89) hx hb dX9_lookAt_148 e87 ?_
                  refine lv_aload_n hx hb dX9_lookAt_149 rfl (lv_at hl 2 rfl) ?_
                  refine r_get kc9 X h 64 10 (by decide) rfl cf77 (by decide) kv_539 rfl dX9_lookAt_150 ?_
                  refine lv_icmp_ge (tgt := 215) hx hb dX9_lookAt_153 (by decide) (fun hc91 => ?_) (fun hc91 => ?_)
                  · have hc91 : (bl).toInt ≤ (z89).toInt := i_le hc91 rfl rfl
                    refine lv_iconst (v := 0) hx hb dX9_lookAt_215 (by decide) ?_
                    refine lv_istore (lv' := [(4, .int 0), (3, .int L61), (2, .int v41), (0, .ref (ad 64)), (1, .int n)]) hx hb dX9_lookAt_216 hl (by decide) rfl (fun ls hl => ?_)
                    refine lv_iload hx hb dX9_lookAt_218 (lv_at hl 0 rfl) ?_
                    refine lv_aload_n hx hb dX9_lookAt_220 rfl (lv_at hl 3 rfl) ?_
                    refine r_get kc9 X h 64 12 (by decide) rfl cf77 (by decide) kv_664 rfl dX9_lookAt_221 ?_
                    refine lv_icmp_ge (tgt := 274) hx hb dX9_lookAt_224 (by decide) (fun hc92 => ?_) (fun hc92 => ?_)
                    · have hc92 : (C62).toInt ≤ 0 := i_le hc92 rfl rfl
                      exfalso; omega
                    · have hc92 : ¬ (C62).toInt ≤ 0 := i_nle hc92 rfl rfl
                      refine lv_iload hx hb dX9_lookAt_227 (lv_at hl 0 rfl) ?_
                      refine lv_iconst (v := 2) hx hb dX9_lookAt_229 (by decide) ?_
                      refine lv_icmp_ge (tgt := 274) hx hb dX9_lookAt_230 (by decide) (fun hc => absurd hc (by decide)) (fun _ => ?_)
                      refine lv_aload_n hx hb dX9_lookAt_233 rfl (lv_at hl 3 rfl) ?_
                      refine r_get kc9 X h 64 13 (by decide) rfl cf77 (by decide) kv_665 rfl dX9_lookAt_234 ?_
                      refine lv_iconst (v := 2) hx hb dX9_lookAt_237 (by decide) ?_
                      refine lv_icmp_ne (tgt := 274) hx hb dX9_lookAt_238 (by decide) (fun _ => ?_) (fun hc => absurd hc (by decide))
                      refine lv_aload_n hx hb dX9_lookAt_274 rfl (lv_at hl 3 rfl) ?_
                      refine lv_aload_n hx hb dX9_lookAt_275 rfl (lv_at hl 3 rfl) ?_
                      refine r_get kc9 X h 64 13 (by decide) rfl cf77 (by decide) kv_665 rfl dX9_lookAt_276 ?_
                      refine lv_iconst (v := 2) hx hb dX9_lookAt_279 (by decide) ?_
                      refine lv_icmp_ne (tgt := 295) hx hb dX9_lookAt_280 (by decide) (fun _ => ?_) (fun hc => absurd hc (by decide))
                      refine lv_aload_n hx hb dX9_lookAt_295 rfl (lv_at hl 3 rfl) ?_
                      refine r_get kc9 X h 64 13 (by decide) rfl cf77 (by decide) kv_665 rfl dX9_lookAt_296 ?_
                      refine r_put kc9 X hD h 64 13 (by decide) rfl cf77 (by decide) kv_665 rfl rfl rfl (Nat.le_of_ble_eq_true rfl) dX9_lookAt_299 (fun H locs w93 e94 h => ?_)
                      have f95 : w93 64 = .inr (7, [.ref (ad 65), .ref (ad 66), .ref (ad 67), .ref (ad 68), .long x, .long y, .ref (ad 69), .int mb, .ref (ad 70), .ref (ad 71), .int bl, .int C6, .int C62, .int 1, .int 0, .ref (ad 72), .ref (ad 73)]) := (congrFun e94 _).trans (va_up_self _ _ _)
                      have ok96 : OK cI cB cZ cO ad w93 := OK.up ok75 e94 (sM_mk (by omega) (by omega))
                      have kx97 : F6 w w93 := F6.up kx76 e94
                      have hlk98 : LOOKP bs bl n C6 C62 (1 : Int32) (0 : Int32) := by
                        have kc1 : (1 : Int32).toInt = 1 := rfl
                        have kc0 : (0 : Int32).toInt = 0 := rfl
                        obtain ⟨e9, e9e, e9t⟩ := x_add (x := C6) (y := C62) (a := C6.toInt) (b := C62.toInt) rfl rfl (by omega) (by omega)
                        have e9n : e9.toNatClampNeg = C6.toNatClampNeg + C62.toNatClampNeg := cl_addn rfl rfl e9t (by omega) (by omega)
                        have hE : e9.toInt = bl.toInt ∨ ∃ u : Int32, bs e9.toNatClampNeg = u ∧ ¬ (97 ≤ u.toInt ∧ u.toInt ≤ 122) := by
                          by_cases q9 : L61.toInt = 0
                          · right; exact ⟨_, rfl, by rw [e9n]; exact (hi74 q9).2⟩
                          · left; omega
                        rcases hE with hE | ⟨u9, hE, hE2⟩
                        · exact LOOKP.of e9t (tok1 (u := 0) (by omega) (by omega) (by omega) (by omega) hi16 e42 ⟨by omega, by omega⟩ (by omega) (by omega) (hi73.b (by omega)) (Or.inl hE) (by omega))
                        · exact LOOKP.of e9t (tok1 (u := u9) (by omega) (by omega) (by omega) (by omega) hi16 e42 ⟨by omega, by omega⟩ (by omega) (by omega) (hi73.b (by omega)) (Or.inr ⟨hE, hE2⟩) (by omega))
                      exact e_v X h hr hlk dX9_lookAt_302 ⟨ok96, kx97, ⟨_, _, _, _, f95, by omega, by omega, by omega, by omega, hlk98⟩⟩
                  · have hc91 : ¬ (bl).toInt ≤ (z89).toInt := i_nle hc91 rfl rfl
                    refine lv_aload_n hx hb dX9_lookAt_156 rfl (lv_at hl 2 rfl) ?_
                    refine r_get kc9 X h 64 9 (by decide) rfl cf77 (by decide) kv_667 rfl dX9_lookAt_157 ?_
                    refine lv_aload_n hx hb dX9_lookAt_160 rfl (lv_at hl 2 rfl) ?_
                    refine r_get kc9 X h 64 11 (by decide) rfl cf77 (by decide) kv_663 rfl dX9_lookAt_161 ?_
                    refine lv_aload_n hx hb dX9_lookAt_164 rfl (lv_at hl 2 rfl) ?_
                    refine r_get kc9 X h 64 12 (by decide) rfl cf77 (by decide) kv_664 rfl dX9_lookAt_165 ?_
                    obtain ⟨z101, e99, t100⟩ := x_add (x := C6) (y := C62) (a := (C6).toInt) (b := (C62).toInt) rfl rfl (by omega) (by omega)
                    have n102 : z101.toNatClampNeg = C6.toNatClampNeg + C62.toNatClampNeg := cl_addn (x := C6) (y := C62) rfl rfl t100 (by omega) (by omega)
                    refine o_iadd (z := z101) hx hb dX9_lookAt_168 e99 ?_
                    obtain ⟨v103, e104⟩ : ∃ z : Int32, bs (C6.toNatClampNeg + C62.toNatClampNeg) = z := ⟨_, rfl⟩
                    refine o_iald (v := v103) X h 71 0 (by decide) rfl cf78 rfl (in_of (by omega) (by omega)) (by rw [n102]; exact e104) dX9_lookAt_169 ?_
                    refine lv_istore (lv' := [(4, .int v103), (3, .int L61), (2, .int v41), (0, .ref (ad 64)), (1, .int n)]) hx hb dX9_lookAt_170 hl (by decide) rfl (fun ls hl => ?_)
                    refine lv_aload_n hx hb dX9_lookAt_172 rfl (lv_at hl 3 rfl) ?_
                    refine r_get kc9 X h 64 13 (by decide) rfl cf77 (by decide) kv_665 rfl dX9_lookAt_173 ?_
                    refine lv_iconst (v := 1) hx hb dX9_lookAt_176 (by decide) ?_
                    refine lv_icmp_ne (tgt := 188) hx hb dX9_lookAt_177 (by decide) (fun hc => absurd (by decide) hc) (fun _ => ?_)
                    refine lv_iload hx hb dX9_lookAt_180 (lv_at hl 0 rfl) ?_
                    refine n_Si (na := 1) (As := [.int v103]) (rest := []) X hD hN h (c_M_isSmall l G cI cB cZ cO ad wL63   v103  ) ⟨kv_668, kv_669, kv_470, kv_670⟩ ⟨by decide, by decide, by decide⟩ ⟨Nat.le_of_ble_eq_true rfl, Nat.le_of_ble_eq_true rfl⟩ ⟨Nat.zero_le _, Nat.zero_le _⟩ rfl hl.1 rfl (Nat.le_of_ble_eq_true rfl) dX9_lookAt_182 (fun r106 w107 H locs hp108 h => ?_)
                    obtain ⟨rfl, hr109⟩ := hp108
                    rcases hr109 with ⟨hq110, hq111, rfl⟩ | ⟨hq112, rfl⟩
                    · refine lv_goto (tgt := 193) hx hb dX9_lookAt_185 (by decide) ?_
                      refine lv_istore_n (lv' := [(3, .int 1), (4, .int v103), (2, .int v41), (0, .ref (ad 64)), (1, .int n)]) hx hb dX9_lookAt_193 rfl hl (by decide) rfl (fun ls hl => ?_)
                      refine lv_aload_n hx hb dX9_lookAt_194 rfl (lv_at hl 3 rfl) ?_
                      refine lv_dup hx hb dX9_lookAt_195 rfl ?_
                      refine r_get kc9 X h 64 12 (by decide) rfl cf77 (by decide) kv_664 rfl dX9_lookAt_196 ?_
                      refine lv_iload_n hx hb dX9_lookAt_199 rfl (lv_at hl 0 rfl) ?_
                      refine lv_if_eq (tgt := 207) hx hb dX9_lookAt_200 (by decide) (fun hc => absurd hc (by decide)) (fun _ => ?_)
                      refine lv_iconst (v := 1) hx hb dX9_lookAt_203 (by decide) ?_
                      refine lv_goto (tgt := 208) hx hb dX9_lookAt_204 (by decide) ?_
                      obtain ⟨z115, e113, t114⟩ := x_add (x := C62) (y := (1 : Int32)) (a := (C62).toInt) (b := 1) rfl rfl (by omega) (by omega)
                      have n116 : z115.toNatClampNeg = C62.toNatClampNeg + 1 := cl_addn (x := C62) (y := (1 : Int32)) rfl rfl t114 (by omega) (by decide)
                      refine o_iadd (z := z115) hx hb dX9_lookAt_208 e113 ?_
                      refine r_put kc9 X hD h 64 12 (by decide) rfl cf77 (by decide) kv_664 rfl rfl rfl (Nat.le_of_ble_eq_true rfl) dX9_lookAt_209 (fun H locs w117 e118 h => ?_)
                      have f119 : w117 64 = .inr (7, [.ref (ad 65), .ref (ad 66), .ref (ad 67), .ref (ad 68), .long x, .long y, .ref (ad 69), .int mb, .ref (ad 70), .ref (ad 71), .int bl, .int C6, .int z115, .int 1, .int 0, .ref (ad 72), .ref (ad 73)]) := (congrFun e118 _).trans (va_up_self _ _ _)
                      have ok120 : OK cI cB cZ cO ad w117 := OK.up ok75 e118 (sM_mk (by omega) (by omega))
                      have kx121 : F6 w w117 := F6.up kx76 e118
                      refine lv_goto (tgt := 136) hx hb dX9_lookAt_212 (by decide) ?_
                      have f122 : w117 71 = .inl (cI, 150, .inl bs) := by rw [e118, va_up_ne _ _ (by decide)]; exact cf78
                      exact ih66  (1 : Int32) z115 w117 _ _ _ (by have q0 : (1 : Int32).toInt = 1 := rfl; omega) (by have q0 : (1 : Int32).toInt = 1 := rfl; omega) (by have q0 : (1 : Int32).toInt = 1 := rfl; omega) (by have q0 : (1 : Int32).toInt = 1 := rfl; omega) (by have q0 : (1 : Int32).toInt = 1 := rfl; omega) (runI.succ (n := C6.toNatClampNeg + C62.toNatClampNeg) hi73 (by omega) (by have := cl_of (x := C6) (by omega); have := cl_of (x := C62) (by omega); omega) e104 (lt_t (by omega) (by omega))) (fun h9 => by have q0 : (1 : Int32).toInt = 1 := rfl; omega) ok120 kx121 f119 f122 (by have q0 : (1 : Int32).toInt = 1 := rfl; omega) h (lv_sub hl [0, 2, 3, 4] rfl)
                    · refine lv_goto (tgt := 193) hx hb dX9_lookAt_185 (by decide) ?_
                      refine lv_istore_n (lv' := [(3, .int 0), (4, .int v103), (2, .int v41), (0, .ref (ad 64)), (1, .int n)]) hx hb dX9_lookAt_193 rfl hl (by decide) rfl (fun ls hl => ?_)
                      refine lv_aload_n hx hb dX9_lookAt_194 rfl (lv_at hl 3 rfl) ?_
                      refine lv_dup hx hb dX9_lookAt_195 rfl ?_
                      refine r_get kc9 X h 64 12 (by decide) rfl cf77 (by decide) kv_664 rfl dX9_lookAt_196 ?_
                      refine lv_iload_n hx hb dX9_lookAt_199 rfl (lv_at hl 0 rfl) ?_
                      refine lv_if_eq (tgt := 207) hx hb dX9_lookAt_200 (by decide) (fun _ => ?_) (fun hc => absurd (by decide) hc)
                      refine lv_iconst (v := 0) hx hb dX9_lookAt_207 (by decide) ?_
                      obtain ⟨z125, e123, t124⟩ := x_add (x := C62) (y := (0 : Int32)) (a := (C62).toInt) (b := 0) rfl rfl (by omega) (by omega)
                      have n126 : z125.toNatClampNeg = C62.toNatClampNeg + 0 := cl_addn (x := C62) (y := (0 : Int32)) rfl rfl t124 (by omega) (by decide)
                      have n126 : z125.toNatClampNeg = C62.toNatClampNeg := n126
                      refine o_iadd (z := z125) hx hb dX9_lookAt_208 e123 ?_
                      refine r_put kc9 X hD h 64 12 (by decide) rfl cf77 (by decide) kv_664 rfl rfl rfl (Nat.le_of_ble_eq_true rfl) dX9_lookAt_209 (fun H locs w127 e128 h => ?_)
                      have f129 : w127 64 = .inr (7, [.ref (ad 65), .ref (ad 66), .ref (ad 67), .ref (ad 68), .long x, .long y, .ref (ad 69), .int mb, .ref (ad 70), .ref (ad 71), .int bl, .int C6, .int z125, .int 1, .int 0, .ref (ad 72), .ref (ad 73)]) := (congrFun e128 _).trans (va_up_self _ _ _)
                      have ok130 : OK cI cB cZ cO ad w127 := OK.up ok75 e128 (sM_mk (by omega) (by omega))
                      have kx131 : F6 w w127 := F6.up kx76 e128
                      refine lv_goto (tgt := 136) hx hb dX9_lookAt_212 (by decide) ?_
                      have hs132 : z125.toNatClampNeg = C62.toNatClampNeg := clq (by have q0 : (0 : Int32).toInt = 0 := rfl; omega)
                      have f133 : w127 71 = .inl (cI, 150, .inl bs) := by rw [e128, va_up_ne _ _ (by decide)]; exact cf78
                      exact ih66  (0 : Int32) z125 w127 _ _ _ (by have q0 : (0 : Int32).toInt = 0 := rfl; omega) (by have q0 : (0 : Int32).toInt = 0 := rfl; omega) (by have q0 : (0 : Int32).toInt = 0 := rfl; omega) (by have q0 : (0 : Int32).toInt = 0 := rfl; omega) (by have q0 : (0 : Int32).toInt = 0 := rfl; omega) (fun j p9 q9 => hi73 j p9 (by have q0 : (0 : Int32).toInt = 0 := rfl; omega)) (fun h9 => ⟨by have q0 : (0 : Int32).toInt = 0 := rfl; omega, by rw [hs132, e104]; omega⟩) ok130 kx131 f129 f133 (by have q0 : (0 : Int32).toInt = 0 := rfl; omega) h (lv_sub hl [0, 2, 3, 4] rfl)
            have f134 : w51 71 = .inl (cI, 150, .inl bs) := by rw [e52, va_up_ne _ _ (by decide)]; exact f40
            have f135 : w56 71 = .inl (cI, 150, .inl bs) := by rw [e57, va_up_ne _ _ (by decide)]; exact f134
            exact hloop64 152 (1 : Int32) (1 : Int32) w56 _ _ _ (by have q0 : (1 : Int32).toInt = 1 := rfl; omega) (by have q0 : (1 : Int32).toInt = 1 := rfl; omega) (by have q0 : (1 : Int32).toInt = 1 := rfl; omega) (by have q0 : (1 : Int32).toInt = 1 := rfl; omega) (by have q0 : (1 : Int32).toInt = 1 := rfl; omega) (runI.one (by omega) (by have q0 : (1 : Int32).toInt = 1 := rfl; omega) e42 (lt_t (by omega) (by omega))) (fun h9 => by have q0 : (1 : Int32).toInt = 1 := rfl; omega) ok59 kx60 f58 f135 (by have q0 : (1 : Int32).toInt = 1 := rfl; omega) h (lv_sub hl [0, 1, 2, 3] rfl)
          · refine lv_if_eq (tgt := 92) hx hb dX9_lookAt_85 (by decide) (fun _ => ?_) (fun hc => absurd (by decide) hc)
            refine lv_iload_n hx hb dX9_lookAt_92 rfl (lv_at hl 0 rfl) ?_
            refine n_Si (na := 1) (As := [.int v41]) (rest := [.ref (ad 64)]) X hD hN h (c_M_isFigure l G cI cB cZ cO ad w32   v41  ) ⟨kv_671, kv_672, kv_470, kv_673⟩ ⟨by decide, by decide, by decide⟩ ⟨Nat.le_of_ble_eq_true rfl, Nat.le_of_ble_eq_true rfl⟩ ⟨Nat.zero_le _, Nat.zero_le _⟩ rfl hl.1 rfl (Nat.le_of_ble_eq_true rfl) dX9_lookAt_93 (fun r136 w137 H locs hp138 h => ?_)
            obtain ⟨rfl, hr139⟩ := hp138
            rcases hr139 with ⟨hq140, hq141, rfl⟩ | ⟨hq142, rfl⟩
            · refine lv_if_eq (tgt := 103) hx hb dX9_lookAt_96 (by decide) (fun hc => absurd hc (by decide)) (fun _ => ?_)
              refine lv_iconst (v := 2) hx hb dX9_lookAt_99 (by decide) ?_
              refine lv_goto (tgt := 114) hx hb dX9_lookAt_100 (by decide) ?_
              refine r_put kc9 X hD h 64 13 (by decide) rfl f34 (by decide) kv_665 rfl rfl rfl (Nat.le_of_ble_eq_true rfl) dX9_lookAt_114 (fun H locs w143 e144 h => ?_)
              have f145 : w143 64 = .inr (7, [.ref (ad 65), .ref (ad 66), .ref (ad 67), .ref (ad 68), .long x, .long y, .ref (ad 69), .int mb, .ref (ad 70), .ref (ad 71), .int bl, .int C6, .int 0, .int 2, .int 0, .ref (ad 72), .ref (ad 73)]) := (congrFun e144 _).trans (va_up_self _ _ _)
              have ok146 : OK cI cB cZ cO ad w143 := OK.up ok35 e144 (sM_mk (by omega) (by omega))
              have kx147 : F6 w w143 := F6.up kx36 e144
              refine lv_aload_n hx hb dX9_lookAt_117 rfl (lv_at hl 1 rfl) ?_
              refine lv_iconst (v := 1) hx hb dX9_lookAt_118 (by decide) ?_
              refine r_put kc9 X hD h 64 12 (by decide) rfl f145 (by decide) kv_664 rfl rfl rfl (Nat.le_of_ble_eq_true rfl) dX9_lookAt_119 (fun H locs w148 e149 h => ?_)
              have f150 : w148 64 = .inr (7, [.ref (ad 65), .ref (ad 66), .ref (ad 67), .ref (ad 68), .long x, .long y, .ref (ad 69), .int mb, .ref (ad 70), .ref (ad 71), .int bl, .int C6, .int 1, .int 2, .int 0, .ref (ad 72), .ref (ad 73)]) := (congrFun e149 _).trans (va_up_self _ _ _)
              have ok151 : OK cI cB cZ cO ad w148 := OK.up ok146 e149 (sM_mk (by omega) (by omega))
              have kx152 : F6 w w148 := F6.up kx147 e149
              refine lv_aload_n hx hb dX9_lookAt_122 rfl (lv_at hl 1 rfl) ?_
              refine r_get kc9 X h 64 13 (by decide) rfl f150 (by decide) kv_665 rfl dX9_lookAt_123 ?_
              refine lv_iconst (v := 3) hx hb dX9_lookAt_126 (by decide) ?_
              refine lv_icmp_ge (tgt := 134) hx hb dX9_lookAt_127 (by decide) (fun hc => absurd hc (by decide)) (fun _ => ?_)
              refine lv_iconst (v := 1) hx hb dX9_lookAt_130 (by decide) ?_
              refine lv_goto (tgt := 135) hx hb dX9_lookAt_131 (by decide) ?_
              refine lv_istore_n (lv' := [(3, .int 1), (2, .int v41), (0, .ref (ad 64)), (1, .int n)]) hx hb dX9_lookAt_135 rfl hl (by decide) rfl (fun ls hl => ?_)
              have hloop156 : ∀ (d157 : Nat) (L153 : Int32) (C154 : Int32) (wL155 : Nat → va_E) (H : Heap) (locs : List Loc) (ls : Array Slot), 0 ≤ L153.toInt → L153.toInt ≤ 1 → 1 ≤ C154.toInt → C154.toInt ≤ 150 → C6.toInt + C154.toInt ≤ bl.toInt → (runI dgB bs C6.toInt (C6.toInt + C154.toInt)) → (L153.toInt = 0 → C6.toInt + C154.toInt < bl.toInt ∧ ¬ (48 ≤ (bs (C6.toNatClampNeg + C154.toNatClampNeg)).toInt ∧ (bs (C6.toNatClampNeg + C154.toNatClampNeg)).toInt ≤ 57)) → OK cI cB cZ cO ad wL155 → F6 w wL155 → wL155 64 = .inr (7, [.ref (ad 65), .ref (ad 66), .ref (ad 67), .ref (ad 68), .long x, .long y, .ref (ad 69), .int mb, .ref (ad 70), .ref (ad 71), .int bl, .int C6, .int C154, .int 2, .int 0, .ref (ad 72), .ref (ad 73)]) → wL155 71 = .inl (cI, 150, .inl bs) → bl.toInt - C6.toInt - C154.toInt + L153.toInt < (d157 : Int) → St G 74 ad (wA 74 ad s.heap.size) s.heap wL155 H locs → lv_has ls 5 [(3, .int L153), (2, .int v41), (0, .ref (ad 64)), (1, .int n)] → W p l e { frames := 2, cells := 0, slots := 0, locals := 45 } s m [.ref (ad 64), .int n].toArray below meth c H locs 0 0 (MQ below (va_Qv (fun w1 => OK cI cB cZ cO ad w1 ∧ F6 w w1 ∧ ∃ ta1 tl1 tk1 va1 : Int32, w1 64 = .inr (7, [.ref (ad 65), .ref (ad 66), .ref (ad 67), .ref (ad 68), .long x, .long y, .ref (ad 69), .int mb, .ref (ad 70), .ref (ad 71), .int bl, .int ta1, .int tl1, .int tk1, .int va1, .ref (ad 72), .ref (ad 73)]) ∧ n.toInt ≤ ta1.toInt ∧ 0 ≤ tl1.toInt ∧ ta1.toInt + tl1.toInt ≤ bl.toInt ∧ (tk1.toInt = 0 ∨ 1 ≤ tl1.toInt) ∧ LOOKP bs bl n ta1 tl1 tk1 va1) (Aft G 74 ad) (wA 74 ad s.heap.size)) [.ref (ad 64), .int n].toArray s 0 0 (wA 74 ad s.heap.size)) (F0 m 136 ls []) := by
                intro d157
                induction d157 with
                | zero => intro L153 C154 wL155 H locs ls hi160 hi161 hi162 hi163 hi164 hi165 hi166 ok167 kx168 cf169 cf170 hm159 h hl; exfalso; omega
                | succ d157 ih158 =>
                  intro L153 C154 wL155 H locs ls hi160 hi161 hi162 hi163 hi164 hi165 hi166 ok167 kx168 cf169 cf170 hm159 h hl
                  refine lv_iload_n hx hb dX9_lookAt_136 rfl (lv_at hl 0 rfl) ?_
                  refine lv_if_eq (tgt := 215) hx hb dX9_lookAt_137 (by decide) (fun hc171 => ?_) (fun hc171 => ?_)
                  · have hc171 : (L153).toInt = 0 := i_eq hc171 rfl rfl
                    refine lv_iconst (v := 0) hx hb dX9_lookAt_215 (by decide) ?_
                    refine lv_istore (lv' := [(4, .int 0), (3, .int L153), (2, .int v41), (0, .ref (ad 64)), (1, .int n)]) hx hb dX9_lookAt_216 hl (by decide) rfl (fun ls hl => ?_)
                    refine lv_iload hx hb dX9_lookAt_218 (lv_at hl 0 rfl) ?_
                    refine lv_aload_n hx hb dX9_lookAt_220 rfl (lv_at hl 3 rfl) ?_
                    refine r_get kc9 X h 64 12 (by decide) rfl cf169 (by decide) kv_664 rfl dX9_lookAt_221 ?_
                    refine lv_icmp_ge (tgt := 274) hx hb dX9_lookAt_224 (by decide) (fun hc172 => ?_) (fun hc172 => ?_)
                    · have hc172 : (C154).toInt ≤ 0 := i_le hc172 rfl rfl
                      exfalso; omega
                    · have hc172 : ¬ (C154).toInt ≤ 0 := i_nle hc172 rfl rfl
                      refine lv_iload hx hb dX9_lookAt_227 (lv_at hl 0 rfl) ?_
                      refine lv_iconst (v := 2) hx hb dX9_lookAt_229 (by decide) ?_
                      refine lv_icmp_ge (tgt := 274) hx hb dX9_lookAt_230 (by decide) (fun hc => absurd hc (by decide)) (fun _ => ?_)
                      refine lv_aload_n hx hb dX9_lookAt_233 rfl (lv_at hl 3 rfl) ?_
                      refine r_get kc9 X h 64 13 (by decide) rfl cf169 (by decide) kv_665 rfl dX9_lookAt_234 ?_
                      refine lv_iconst (v := 2) hx hb dX9_lookAt_237 (by decide) ?_
                      refine lv_icmp_ne (tgt := 274) hx hb dX9_lookAt_238 (by decide) (fun hc => absurd (by decide) hc) (fun _ => ?_)
                      refine lv_aload_n hx hb dX9_lookAt_241 rfl (lv_at hl 3 rfl) ?_
                      refine lv_bipush (v := 10) hx hb dX9_lookAt_242 (by decide) ?_
                      refine lv_aload_n hx hb dX9_lookAt_244 rfl (lv_at hl 3 rfl) ?_
                      refine r_get kc9 X h 64 14 (by decide) rfl cf169 (by decide) kv_666 rfl dX9_lookAt_245 ?_
                      refine o_imul (z := 0) hx hb dX9_lookAt_248 rfl ?_
                      refine lv_aload_n hx hb dX9_lookAt_249 rfl (lv_at hl 3 rfl) ?_
                      refine r_get kc9 X h 64 9 (by decide) rfl cf169 (by decide) kv_667 rfl dX9_lookAt_250 ?_
                      refine lv_aload_n hx hb dX9_lookAt_253 rfl (lv_at hl 3 rfl) ?_
                      refine r_get kc9 X h 64 11 (by decide) rfl cf169 (by decide) kv_663 rfl dX9_lookAt_254 ?_
                      refine lv_iload hx hb dX9_lookAt_257 (lv_at hl 0 rfl) ?_
                      obtain ⟨z175, e173, t174⟩ := x_add (x := C6) (y := (0 : Int32)) (a := (C6).toInt) (b := 0) rfl rfl (by omega) (by omega)
                      have n176 : z175.toNatClampNeg = C6.toNatClampNeg + 0 := cl_addn (x := C6) (y := (0 : Int32)) rfl rfl t174 (by omega) (by decide)
                      have n176 : z175.toNatClampNeg = C6.toNatClampNeg := n176
                      refine o_iadd (z := z175) hx hb dX9_lookAt_259 e173 ?_
                      refine o_iald (v := v41) X h 71 0 (by decide) rfl cf170 rfl (in_of (by omega) (by omega)) (by rw [n176]; exact e42) dX9_lookAt_260 ?_
                      obtain ⟨z179, e177, t178⟩ := x_add (x := (0 : Int32)) (y := v41) (a := 0) (b := (v41).toInt) rfl rfl (by omega) (by omega)
                      have n180 : z179.toNatClampNeg = 0 + v41.toNatClampNeg := cl_addn (x := (0 : Int32)) (y := v41) rfl rfl t178 (by decide) (by omega)
                      refine o_iadd (z := z179) hx hb dX9_lookAt_261 e177 ?_
                      refine lv_bipush (v := 48) hx hb dX9_lookAt_262 (by decide) ?_
                      obtain ⟨z183, e181, t182⟩ := x_sub (x := z179) (y := (48 : Int32)) (a := (z179).toInt) (b := 48) rfl rfl (by omega) (by omega)
                      refine o_isub (z := z183) hx hb dX9_lookAt_264 e181 ?_
                      refine r_put kc9 X hD h 64 14 (by decide) rfl cf169 (by decide) kv_666 rfl rfl rfl (Nat.le_of_ble_eq_true rfl) dX9_lookAt_265 (fun H locs w184 e185 h => ?_)
                      have f186 : w184 64 = .inr (7, [.ref (ad 65), .ref (ad 66), .ref (ad 67), .ref (ad 68), .long x, .long y, .ref (ad 69), .int mb, .ref (ad 70), .ref (ad 71), .int bl, .int C6, .int C154, .int 2, .int z183, .ref (ad 72), .ref (ad 73)]) := (congrFun e185 _).trans (va_up_self _ _ _)
                      have ok187 : OK cI cB cZ cO ad w184 := OK.up ok167 e185 (sM_mk (by omega) (by omega))
                      have kx188 : F6 w w184 := F6.up kx168 e185
                      refine lv_iinc (v := 1) (lv' := [(4, .int 1), (3, .int L153), (2, .int v41), (0, .ref (ad 64)), (1, .int n)]) hx hb dX9_lookAt_268 hl (k := 0) rfl rfl (by decide) rfl (fun ls hl => ?_)
                      refine lv_goto (tgt := 218) hx hb dX9_lookAt_271 (by decide) ?_
                      refine lv_iload hx hb dX9_lookAt_218 (lv_at hl 0 rfl) ?_
                      refine lv_aload_n hx hb dX9_lookAt_220 rfl (lv_at hl 3 rfl) ?_
                      refine r_get kc9 X h 64 12 (by decide) rfl f186 (by decide) kv_664 rfl dX9_lookAt_221 ?_
                      refine lv_icmp_ge (tgt := 274) hx hb dX9_lookAt_224 (by decide) (fun hc189 => ?_) (fun hc189 => ?_)
                      · have hc189 : (C154).toInt ≤ 1 := i_le hc189 rfl rfl
                        refine lv_aload_n hx hb dX9_lookAt_274 rfl (lv_at hl 3 rfl) ?_
                        refine lv_aload_n hx hb dX9_lookAt_275 rfl (lv_at hl 3 rfl) ?_
                        refine r_get kc9 X h 64 13 (by decide) rfl f186 (by decide) kv_665 rfl dX9_lookAt_276 ?_
                        refine lv_iconst (v := 2) hx hb dX9_lookAt_279 (by decide) ?_
                        refine lv_icmp_ne (tgt := 295) hx hb dX9_lookAt_280 (by decide) (fun hc => absurd (by decide) hc) (fun _ => ?_)
                        refine lv_aload_n hx hb dX9_lookAt_283 rfl (lv_at hl 3 rfl) ?_
                        refine r_get kc9 X h 64 12 (by decide) rfl f186 (by decide) kv_664 rfl dX9_lookAt_284 ?_
                        refine lv_iconst (v := 2) hx hb dX9_lookAt_287 (by decide) ?_
                        refine lv_icmp_le (tgt := 295) hx hb dX9_lookAt_288 (by decide) (fun hc190 => ?_) (fun hc190 => ?_)
                        · have hc190 : (C154).toInt ≤ 2 := i_le hc190 rfl rfl
                          refine lv_aload_n hx hb dX9_lookAt_295 rfl (lv_at hl 3 rfl) ?_
                          refine r_get kc9 X h 64 13 (by decide) rfl f186 (by decide) kv_665 rfl dX9_lookAt_296 ?_
                          refine r_put kc9 X hD h 64 13 (by decide) rfl f186 (by decide) kv_665 rfl rfl rfl (Nat.le_of_ble_eq_true rfl) dX9_lookAt_299 (fun H locs w191 e192 h => ?_)
                          have f193 : w191 64 = .inr (7, [.ref (ad 65), .ref (ad 66), .ref (ad 67), .ref (ad 68), .long x, .long y, .ref (ad 69), .int mb, .ref (ad 70), .ref (ad 71), .int bl, .int C6, .int C154, .int 2, .int z183, .ref (ad 72), .ref (ad 73)]) := (congrFun e192 _).trans (va_up_self _ _ _)
                          have ok194 : OK cI cB cZ cO ad w191 := OK.up ok187 e192 (sM_mk (by omega) (by omega))
                          have kx195 : F6 w w191 := F6.up kx188 e192
                          have hlk196 : LOOKP bs bl n C6 C154 (2 : Int32) z183 := by
                            have kc2 : (2 : Int32).toInt = 2 := rfl
                            obtain ⟨e9, e9e, e9t⟩ := x_add (x := C6) (y := C154) (a := C6.toInt) (b := C154.toInt) rfl rfl (by omega) (by omega)
                            have e9n : e9.toNatClampNeg = C6.toNatClampNeg + C154.toNatClampNeg := cl_addn rfl rfl e9t (by omega) (by omega)
                            have hE : e9.toInt = bl.toInt ∨ ∃ u : Int32, bs e9.toNatClampNeg = u ∧ ¬ (48 ≤ u.toInt ∧ u.toInt ≤ 57) := by
                              by_cases q9 : L153.toInt = 0
                              · right; exact ⟨_, rfl, by rw [e9n]; exact (hi166 q9).2⟩
                              · left; omega
                            rcases hE with hE | ⟨u9, hE, hE2⟩
                            · exact LOOKP.of e9t (tok2 (u := 0) (by omega) (by omega) (by omega) (by omega) hi16 e42 ⟨by omega, by omega⟩ (by omega) (by omega) (hi165.b (by omega)) (Or.inl hE) (Or.inl ⟨by omega, by omega⟩) (fun q9 => by rw [if_pos (by omega), e42]; omega))
                            · exact LOOKP.of e9t (tok2 (u := u9) (by omega) (by omega) (by omega) (by omega) hi16 e42 ⟨by omega, by omega⟩ (by omega) (by omega) (hi165.b (by omega)) (Or.inr ⟨hE, hE2⟩) (Or.inl ⟨by omega, by omega⟩) (fun q9 => by rw [if_pos (by omega), e42]; omega))
                          exact e_v X h hr hlk dX9_lookAt_302 ⟨ok194, kx195, ⟨_, _, _, _, f193, by omega, by omega, by omega, by omega, hlk196⟩⟩
                        · have hc190 : ¬ (C154).toInt ≤ 2 := i_nle hc190 rfl rfl
                          exfalso; omega
                      · have hc189 : ¬ (C154).toInt ≤ 1 := i_nle hc189 rfl rfl
                        refine lv_iload hx hb dX9_lookAt_227 (lv_at hl 0 rfl) ?_
                        refine lv_iconst (v := 2) hx hb dX9_lookAt_229 (by decide) ?_
                        refine lv_icmp_ge (tgt := 274) hx hb dX9_lookAt_230 (by decide) (fun hc => absurd hc (by decide)) (fun _ => ?_)
                        refine lv_aload_n hx hb dX9_lookAt_233 rfl (lv_at hl 3 rfl) ?_
                        refine r_get kc9 X h 64 13 (by decide) rfl f186 (by decide) kv_665 rfl dX9_lookAt_234 ?_
                        refine lv_iconst (v := 2) hx hb dX9_lookAt_237 (by decide) ?_
                        refine lv_icmp_ne (tgt := 274) hx hb dX9_lookAt_238 (by decide) (fun hc => absurd (by decide) hc) (fun _ => ?_)
                        refine lv_aload_n hx hb dX9_lookAt_241 rfl (lv_at hl 3 rfl) ?_
                        refine lv_bipush (v := 10) hx hb dX9_lookAt_242 (by decide) ?_
                        refine lv_aload_n hx hb dX9_lookAt_244 rfl (lv_at hl 3 rfl) ?_
                        refine r_get kc9 X h 64 14 (by decide) rfl f186 (by decide) kv_666 rfl dX9_lookAt_245 ?_
                        obtain ⟨z199, e197, t198⟩ := x_mul (x := (10 : Int32)) (y := z183) (a := 10) (b := (z183).toInt) rfl rfl (by omega) (by omega)
                        refine o_imul (z := z199) hx hb dX9_lookAt_248 e197 ?_
                        refine lv_aload_n hx hb dX9_lookAt_249 rfl (lv_at hl 3 rfl) ?_
                        refine r_get kc9 X h 64 9 (by decide) rfl f186 (by decide) kv_667 rfl dX9_lookAt_250 ?_
                        refine lv_aload_n hx hb dX9_lookAt_253 rfl (lv_at hl 3 rfl) ?_
                        refine r_get kc9 X h 64 11 (by decide) rfl f186 (by decide) kv_663 rfl dX9_lookAt_254 ?_
                        refine lv_iload hx hb dX9_lookAt_257 (lv_at hl 0 rfl) ?_
                        obtain ⟨z202, e200, t201⟩ := x_add (x := C6) (y := (1 : Int32)) (a := (C6).toInt) (b := 1) rfl rfl (by omega) (by omega)
                        have n203 : z202.toNatClampNeg = C6.toNatClampNeg + 1 := cl_addn (x := C6) (y := (1 : Int32)) rfl rfl t201 (by omega) (by decide)
                        refine o_iadd (z := z202) hx hb dX9_lookAt_259 e200 ?_
                        have f204 : w184 71 = .inl (cI, 150, .inl bs) := by rw [e185, va_up_ne _ _ (by decide)]; exact cf170
                        obtain ⟨v205, e206⟩ : ∃ z : Int32, bs (C6.toNatClampNeg + 1) = z := ⟨_, rfl⟩
                        have q208 : 48 ≤ v205.toInt ∧ v205.toInt ≤ 57 := by rw [← e206]; exact of_decide_eq_true (hi165 (C6.toNatClampNeg + 1) (by have := cl_of (x := C6) (by omega); omega) (by have := cl_of (x := C6) (by omega); omega))
                        refine o_iald (v := v205) X h 71 0 (by decide) rfl f204 rfl (in_of (by omega) (by omega)) (by rw [n203]; exact e206) dX9_lookAt_260 ?_
                        obtain ⟨z211, e209, t210⟩ := x_add (x := z199) (y := v205) (a := (z199).toInt) (b := (v205).toInt) rfl rfl (by omega) (by omega)
                        have n212 : z211.toNatClampNeg = z199.toNatClampNeg + v205.toNatClampNeg := cl_addn (x := z199) (y := v205) rfl rfl t210 (by omega) (by omega)
                        refine o_iadd (z := z211) hx hb dX9_lookAt_261 e209 ?_
                        refine lv_bipush (v := 48) hx hb dX9_lookAt_262 (by decide) ?_
                        obtain ⟨z215, e213, t214⟩ := x_sub (x := z211) (y := (48 : Int32)) (a := (z211).toInt) (b := 48) rfl rfl (by omega) (by omega)
                        refine o_isub (z := z215) hx hb dX9_lookAt_264 e213 ?_
                        refine r_put kc9 X hD h 64 14 (by decide) rfl f186 (by decide) kv_666 rfl rfl rfl (Nat.le_of_ble_eq_true rfl) dX9_lookAt_265 (fun H locs w216 e217 h => ?_)
                        have f218 : w216 64 = .inr (7, [.ref (ad 65), .ref (ad 66), .ref (ad 67), .ref (ad 68), .long x, .long y, .ref (ad 69), .int mb, .ref (ad 70), .ref (ad 71), .int bl, .int C6, .int C154, .int 2, .int z215, .ref (ad 72), .ref (ad 73)]) := (congrFun e217 _).trans (va_up_self _ _ _)
                        have ok219 : OK cI cB cZ cO ad w216 := OK.up ok187 e217 (sM_mk (by omega) (by omega))
                        have kx220 : F6 w w216 := F6.up kx188 e217
                        refine lv_iinc (v := 2) (lv' := [(4, .int 2), (3, .int L153), (2, .int v41), (0, .ref (ad 64)), (1, .int n)]) hx hb dX9_lookAt_268 hl (k := 0) rfl rfl (by decide) rfl (fun ls hl => ?_)
                        refine lv_goto (tgt := 218) hx hb dX9_lookAt_271 (by decide) ?_
                        refine lv_iload hx hb dX9_lookAt_218 (lv_at hl 0 rfl) ?_
                        refine lv_aload_n hx hb dX9_lookAt_220 rfl (lv_at hl 3 rfl) ?_
                        refine r_get kc9 X h 64 12 (by decide) rfl f218 (by decide) kv_664 rfl dX9_lookAt_221 ?_
                        refine lv_icmp_ge (tgt := 274) hx hb dX9_lookAt_224 (by decide) (fun hc221 => ?_) (fun hc221 => ?_)
                        · have hc221 : (C154).toInt ≤ 2 := i_le hc221 rfl rfl
                          refine lv_aload_n hx hb dX9_lookAt_274 rfl (lv_at hl 3 rfl) ?_
                          refine lv_aload_n hx hb dX9_lookAt_275 rfl (lv_at hl 3 rfl) ?_
                          refine r_get kc9 X h 64 13 (by decide) rfl f218 (by decide) kv_665 rfl dX9_lookAt_276 ?_
                          refine lv_iconst (v := 2) hx hb dX9_lookAt_279 (by decide) ?_
                          refine lv_icmp_ne (tgt := 295) hx hb dX9_lookAt_280 (by decide) (fun hc => absurd (by decide) hc) (fun _ => ?_)
                          refine lv_aload_n hx hb dX9_lookAt_283 rfl (lv_at hl 3 rfl) ?_
                          refine r_get kc9 X h 64 12 (by decide) rfl f218 (by decide) kv_664 rfl dX9_lookAt_284 ?_
                          refine lv_iconst (v := 2) hx hb dX9_lookAt_287 (by decide) ?_
                          refine lv_icmp_le (tgt := 295) hx hb dX9_lookAt_288 (by decide) (fun hc222 => ?_) (fun hc222 => ?_)
                          · have hc222 : (C154).toInt ≤ 2 := i_le hc222 rfl rfl
                            refine lv_aload_n hx hb dX9_lookAt_295 rfl (lv_at hl 3 rfl) ?_
                            refine r_get kc9 X h 64 13 (by decide) rfl f218 (by decide) kv_665 rfl dX9_lookAt_296 ?_
                            refine r_put kc9 X hD h 64 13 (by decide) rfl f218 (by decide) kv_665 rfl rfl rfl (Nat.le_of_ble_eq_true rfl) dX9_lookAt_299 (fun H locs w223 e224 h => ?_)
                            have f225 : w223 64 = .inr (7, [.ref (ad 65), .ref (ad 66), .ref (ad 67), .ref (ad 68), .long x, .long y, .ref (ad 69), .int mb, .ref (ad 70), .ref (ad 71), .int bl, .int C6, .int C154, .int 2, .int z215, .ref (ad 72), .ref (ad 73)]) := (congrFun e224 _).trans (va_up_self _ _ _)
                            have ok226 : OK cI cB cZ cO ad w223 := OK.up ok219 e224 (sM_mk (by omega) (by omega))
                            have kx227 : F6 w w223 := F6.up kx220 e224
                            have hlk228 : LOOKP bs bl n C6 C154 (2 : Int32) z215 := by
                              have kc2 : (2 : Int32).toInt = 2 := rfl
                              obtain ⟨e9, e9e, e9t⟩ := x_add (x := C6) (y := C154) (a := C6.toInt) (b := C154.toInt) rfl rfl (by omega) (by omega)
                              have e9n : e9.toNatClampNeg = C6.toNatClampNeg + C154.toNatClampNeg := cl_addn rfl rfl e9t (by omega) (by omega)
                              have hE : e9.toInt = bl.toInt ∨ ∃ u : Int32, bs e9.toNatClampNeg = u ∧ ¬ (48 ≤ u.toInt ∧ u.toInt ≤ 57) := by
                                by_cases q9 : L153.toInt = 0
                                · right; exact ⟨_, rfl, by rw [e9n]; exact (hi166 q9).2⟩
                                · left; omega
                              rcases hE with hE | ⟨u9, hE, hE2⟩
                              · exact LOOKP.of e9t (tok2 (u := 0) (by omega) (by omega) (by omega) (by omega) hi16 e42 ⟨by omega, by omega⟩ (by omega) (by omega) (hi165.b (by omega)) (Or.inl hE) (Or.inl ⟨by omega, by omega⟩) (fun q9 => by rw [if_neg (by omega), e42, e206]; omega))
                              · exact LOOKP.of e9t (tok2 (u := u9) (by omega) (by omega) (by omega) (by omega) hi16 e42 ⟨by omega, by omega⟩ (by omega) (by omega) (hi165.b (by omega)) (Or.inr ⟨hE, hE2⟩) (Or.inl ⟨by omega, by omega⟩) (fun q9 => by rw [if_neg (by omega), e42, e206]; omega))
                            exact e_v X h hr hlk dX9_lookAt_302 ⟨ok226, kx227, ⟨_, _, _, _, f225, by omega, by omega, by omega, by omega, hlk228⟩⟩
                          · have hc222 : ¬ (C154).toInt ≤ 2 := i_nle hc222 rfl rfl
                            exfalso; omega
                        · have hc221 : ¬ (C154).toInt ≤ 2 := i_nle hc221 rfl rfl
                          refine lv_iload hx hb dX9_lookAt_227 (lv_at hl 0 rfl) ?_
                          refine lv_iconst (v := 2) hx hb dX9_lookAt_229 (by decide) ?_
                          refine lv_icmp_ge (tgt := 274) hx hb dX9_lookAt_230 (by decide) (fun _ => ?_) (fun hc => absurd (by decide) hc)
                          refine lv_aload_n hx hb dX9_lookAt_274 rfl (lv_at hl 3 rfl) ?_
                          refine lv_aload_n hx hb dX9_lookAt_275 rfl (lv_at hl 3 rfl) ?_
                          refine r_get kc9 X h 64 13 (by decide) rfl f218 (by decide) kv_665 rfl dX9_lookAt_276 ?_
                          refine lv_iconst (v := 2) hx hb dX9_lookAt_279 (by decide) ?_
                          refine lv_icmp_ne (tgt := 295) hx hb dX9_lookAt_280 (by decide) (fun hc => absurd (by decide) hc) (fun _ => ?_)
                          refine lv_aload_n hx hb dX9_lookAt_283 rfl (lv_at hl 3 rfl) ?_
                          refine r_get kc9 X h 64 12 (by decide) rfl f218 (by decide) kv_664 rfl dX9_lookAt_284 ?_
                          refine lv_iconst (v := 2) hx hb dX9_lookAt_287 (by decide) ?_
                          refine lv_icmp_le (tgt := 295) hx hb dX9_lookAt_288 (by decide) (fun hc229 => ?_) (fun hc229 => ?_)
                          · have hc229 : (C154).toInt ≤ 2 := i_le hc229 rfl rfl
                            exfalso; omega
                          · have hc229 : ¬ (C154).toInt ≤ 2 := i_nle hc229 rfl rfl
                            refine lv_iconst (v := 4) hx hb dX9_lookAt_291 (by decide) ?_
                            refine lv_goto (tgt := 299) hx hb dX9_lookAt_292 (by decide) ?_
                            refine r_put kc9 X hD h 64 13 (by decide) rfl f218 (by decide) kv_665 rfl rfl rfl (Nat.le_of_ble_eq_true rfl) dX9_lookAt_299 (fun H locs w230 e231 h => ?_)
                            have f232 : w230 64 = .inr (7, [.ref (ad 65), .ref (ad 66), .ref (ad 67), .ref (ad 68), .long x, .long y, .ref (ad 69), .int mb, .ref (ad 70), .ref (ad 71), .int bl, .int C6, .int C154, .int 4, .int z215, .ref (ad 72), .ref (ad 73)]) := (congrFun e231 _).trans (va_up_self _ _ _)
                            have ok233 : OK cI cB cZ cO ad w230 := OK.up ok219 e231 (sM_mk (by omega) (by omega))
                            have kx234 : F6 w w230 := F6.up kx220 e231
                            have hlk235 : LOOKP bs bl n C6 C154 (4 : Int32) z215 := by
                              have kc4 : (4 : Int32).toInt = 4 := rfl
                              obtain ⟨e9, e9e, e9t⟩ := x_add (x := C6) (y := C154) (a := C6.toInt) (b := C154.toInt) rfl rfl (by omega) (by omega)
                              have e9n : e9.toNatClampNeg = C6.toNatClampNeg + C154.toNatClampNeg := cl_addn rfl rfl e9t (by omega) (by omega)
                              have hE : e9.toInt = bl.toInt ∨ ∃ u : Int32, bs e9.toNatClampNeg = u ∧ ¬ (48 ≤ u.toInt ∧ u.toInt ≤ 57) := by
                                by_cases q9 : L153.toInt = 0
                                · right; exact ⟨_, rfl, by rw [e9n]; exact (hi166 q9).2⟩
                                · left; omega
                              rcases hE with hE | ⟨u9, hE, hE2⟩
                              · exact LOOKP.of e9t (tok2 (u := 0) (by omega) (by omega) (by omega) (by omega) hi16 e42 ⟨by omega, by omega⟩ (by omega) (by omega) (hi165.b (by omega)) (Or.inl hE) (Or.inr ⟨by omega, by omega⟩) (fun q9 => by omega))
                              · exact LOOKP.of e9t (tok2 (u := u9) (by omega) (by omega) (by omega) (by omega) hi16 e42 ⟨by omega, by omega⟩ (by omega) (by omega) (hi165.b (by omega)) (Or.inr ⟨hE, hE2⟩) (Or.inr ⟨by omega, by omega⟩) (fun q9 => by omega))
                            exact e_v X h hr hlk dX9_lookAt_302 ⟨ok233, kx234, ⟨_, _, _, _, f232, by omega, by omega, by omega, by omega, hlk235⟩⟩
                  · have hc171 : ¬ (L153).toInt = 0 := i_ne hc171 rfl rfl
                    refine lv_aload_n hx hb dX9_lookAt_140 rfl (lv_at hl 2 rfl) ?_
                    refine r_get kc9 X h 64 11 (by decide) rfl cf169 (by decide) kv_663 rfl dX9_lookAt_141 ?_
                    refine lv_aload_n hx hb dX9_lookAt_144 rfl (lv_at hl 2 rfl) ?_
                    refine r_get kc9 X h 64 12 (by decide) rfl cf169 (by decide) kv_664 rfl dX9_lookAt_145 ?_
                    obtain ⟨z238, e236, t237⟩ := x_add (x := C6) (y := C154) (a := (C6).toInt) (b := (C154).toInt) rfl rfl (by omega) (by omega)
                    have n239 : z238.toNatClampNeg = C6.toNatClampNeg + C154.toNatClampNeg := cl_addn (x := C6) (y := C154) rfl rfl t237 (by omega) (by omega)
                    refine o_iadd (z := z238) hx hb dX9_lookAt_148 e236 ?_
                    refine lv_aload_n hx hb dX9_lookAt_149 rfl (lv_at hl 2 rfl) ?_
                    refine r_get kc9 X h 64 10 (by decide) rfl cf169 (by decide) kv_539 rfl dX9_lookAt_150 ?_
                    refine lv_icmp_ge (tgt := 215) hx hb dX9_lookAt_153 (by decide) (fun hc240 => ?_) (fun hc240 => ?_)
                    · have hc240 : (bl).toInt ≤ (z238).toInt := i_le hc240 rfl rfl
                      refine lv_iconst (v := 0) hx hb dX9_lookAt_215 (by decide) ?_
                      refine lv_istore (lv' := [(4, .int 0), (3, .int L153), (2, .int v41), (0, .ref (ad 64)), (1, .int n)]) hx hb dX9_lookAt_216 hl (by decide) rfl (fun ls hl => ?_)
                      refine lv_iload hx hb dX9_lookAt_218 (lv_at hl 0 rfl) ?_
                      refine lv_aload_n hx hb dX9_lookAt_220 rfl (lv_at hl 3 rfl) ?_
                      refine r_get kc9 X h 64 12 (by decide) rfl cf169 (by decide) kv_664 rfl dX9_lookAt_221 ?_
                      refine lv_icmp_ge (tgt := 274) hx hb dX9_lookAt_224 (by decide) (fun hc241 => ?_) (fun hc241 => ?_)
                      · have hc241 : (C154).toInt ≤ 0 := i_le hc241 rfl rfl
                        exfalso; omega
                      · have hc241 : ¬ (C154).toInt ≤ 0 := i_nle hc241 rfl rfl
                        refine lv_iload hx hb dX9_lookAt_227 (lv_at hl 0 rfl) ?_
                        refine lv_iconst (v := 2) hx hb dX9_lookAt_229 (by decide) ?_
                        refine lv_icmp_ge (tgt := 274) hx hb dX9_lookAt_230 (by decide) (fun hc => absurd hc (by decide)) (fun _ => ?_)
                        refine lv_aload_n hx hb dX9_lookAt_233 rfl (lv_at hl 3 rfl) ?_
                        refine r_get kc9 X h 64 13 (by decide) rfl cf169 (by decide) kv_665 rfl dX9_lookAt_234 ?_
                        refine lv_iconst (v := 2) hx hb dX9_lookAt_237 (by decide) ?_
                        refine lv_icmp_ne (tgt := 274) hx hb dX9_lookAt_238 (by decide) (fun hc => absurd (by decide) hc) (fun _ => ?_)
                        refine lv_aload_n hx hb dX9_lookAt_241 rfl (lv_at hl 3 rfl) ?_
                        refine lv_bipush (v := 10) hx hb dX9_lookAt_242 (by decide) ?_
                        refine lv_aload_n hx hb dX9_lookAt_244 rfl (lv_at hl 3 rfl) ?_
                        refine r_get kc9 X h 64 14 (by decide) rfl cf169 (by decide) kv_666 rfl dX9_lookAt_245 ?_
                        refine o_imul (z := 0) hx hb dX9_lookAt_248 rfl ?_
                        refine lv_aload_n hx hb dX9_lookAt_249 rfl (lv_at hl 3 rfl) ?_
                        refine r_get kc9 X h 64 9 (by decide) rfl cf169 (by decide) kv_667 rfl dX9_lookAt_250 ?_
                        refine lv_aload_n hx hb dX9_lookAt_253 rfl (lv_at hl 3 rfl) ?_
                        refine r_get kc9 X h 64 11 (by decide) rfl cf169 (by decide) kv_663 rfl dX9_lookAt_254 ?_
                        refine lv_iload hx hb dX9_lookAt_257 (lv_at hl 0 rfl) ?_
                        obtain ⟨z244, e242, t243⟩ := x_add (x := C6) (y := (0 : Int32)) (a := (C6).toInt) (b := 0) rfl rfl (by omega) (by omega)
                        have n245 : z244.toNatClampNeg = C6.toNatClampNeg + 0 := cl_addn (x := C6) (y := (0 : Int32)) rfl rfl t243 (by omega) (by decide)
                        have n245 : z244.toNatClampNeg = C6.toNatClampNeg := n245
                        refine o_iadd (z := z244) hx hb dX9_lookAt_259 e242 ?_
                        refine o_iald (v := v41) X h 71 0 (by decide) rfl cf170 rfl (in_of (by omega) (by omega)) (by rw [n245]; exact e42) dX9_lookAt_260 ?_
                        obtain ⟨z248, e246, t247⟩ := x_add (x := (0 : Int32)) (y := v41) (a := 0) (b := (v41).toInt) rfl rfl (by omega) (by omega)
                        have n249 : z248.toNatClampNeg = 0 + v41.toNatClampNeg := cl_addn (x := (0 : Int32)) (y := v41) rfl rfl t247 (by decide) (by omega)
                        refine o_iadd (z := z248) hx hb dX9_lookAt_261 e246 ?_
                        refine lv_bipush (v := 48) hx hb dX9_lookAt_262 (by decide) ?_
                        obtain ⟨z252, e250, t251⟩ := x_sub (x := z248) (y := (48 : Int32)) (a := (z248).toInt) (b := 48) rfl rfl (by omega) (by omega)
                        refine o_isub (z := z252) hx hb dX9_lookAt_264 e250 ?_
                        refine r_put kc9 X hD h 64 14 (by decide) rfl cf169 (by decide) kv_666 rfl rfl rfl (Nat.le_of_ble_eq_true rfl) dX9_lookAt_265 (fun H locs w253 e254 h => ?_)
                        have f255 : w253 64 = .inr (7, [.ref (ad 65), .ref (ad 66), .ref (ad 67), .ref (ad 68), .long x, .long y, .ref (ad 69), .int mb, .ref (ad 70), .ref (ad 71), .int bl, .int C6, .int C154, .int 2, .int z252, .ref (ad 72), .ref (ad 73)]) := (congrFun e254 _).trans (va_up_self _ _ _)
                        have ok256 : OK cI cB cZ cO ad w253 := OK.up ok167 e254 (sM_mk (by omega) (by omega))
                        have kx257 : F6 w w253 := F6.up kx168 e254
                        refine lv_iinc (v := 1) (lv' := [(4, .int 1), (3, .int L153), (2, .int v41), (0, .ref (ad 64)), (1, .int n)]) hx hb dX9_lookAt_268 hl (k := 0) rfl rfl (by decide) rfl (fun ls hl => ?_)
                        refine lv_goto (tgt := 218) hx hb dX9_lookAt_271 (by decide) ?_
                        refine lv_iload hx hb dX9_lookAt_218 (lv_at hl 0 rfl) ?_
                        refine lv_aload_n hx hb dX9_lookAt_220 rfl (lv_at hl 3 rfl) ?_
                        refine r_get kc9 X h 64 12 (by decide) rfl f255 (by decide) kv_664 rfl dX9_lookAt_221 ?_
                        refine lv_icmp_ge (tgt := 274) hx hb dX9_lookAt_224 (by decide) (fun hc258 => ?_) (fun hc258 => ?_)
                        · have hc258 : (C154).toInt ≤ 1 := i_le hc258 rfl rfl
                          refine lv_aload_n hx hb dX9_lookAt_274 rfl (lv_at hl 3 rfl) ?_
                          refine lv_aload_n hx hb dX9_lookAt_275 rfl (lv_at hl 3 rfl) ?_
                          refine r_get kc9 X h 64 13 (by decide) rfl f255 (by decide) kv_665 rfl dX9_lookAt_276 ?_
                          refine lv_iconst (v := 2) hx hb dX9_lookAt_279 (by decide) ?_
                          refine lv_icmp_ne (tgt := 295) hx hb dX9_lookAt_280 (by decide) (fun hc => absurd (by decide) hc) (fun _ => ?_)
                          refine lv_aload_n hx hb dX9_lookAt_283 rfl (lv_at hl 3 rfl) ?_
                          refine r_get kc9 X h 64 12 (by decide) rfl f255 (by decide) kv_664 rfl dX9_lookAt_284 ?_
                          refine lv_iconst (v := 2) hx hb dX9_lookAt_287 (by decide) ?_
                          refine lv_icmp_le (tgt := 295) hx hb dX9_lookAt_288 (by decide) (fun hc259 => ?_) (fun hc259 => ?_)
                          · have hc259 : (C154).toInt ≤ 2 := i_le hc259 rfl rfl
                            refine lv_aload_n hx hb dX9_lookAt_295 rfl (lv_at hl 3 rfl) ?_
                            refine r_get kc9 X h 64 13 (by decide) rfl f255 (by decide) kv_665 rfl dX9_lookAt_296 ?_
                            refine r_put kc9 X hD h 64 13 (by decide) rfl f255 (by decide) kv_665 rfl rfl rfl (Nat.le_of_ble_eq_true rfl) dX9_lookAt_299 (fun H locs w260 e261 h => ?_)
                            have f262 : w260 64 = .inr (7, [.ref (ad 65), .ref (ad 66), .ref (ad 67), .ref (ad 68), .long x, .long y, .ref (ad 69), .int mb, .ref (ad 70), .ref (ad 71), .int bl, .int C6, .int C154, .int 2, .int z252, .ref (ad 72), .ref (ad 73)]) := (congrFun e261 _).trans (va_up_self _ _ _)
                            have ok263 : OK cI cB cZ cO ad w260 := OK.up ok256 e261 (sM_mk (by omega) (by omega))
                            have kx264 : F6 w w260 := F6.up kx257 e261
                            have hlk265 : LOOKP bs bl n C6 C154 (2 : Int32) z252 := by
                              have kc2 : (2 : Int32).toInt = 2 := rfl
                              obtain ⟨e9, e9e, e9t⟩ := x_add (x := C6) (y := C154) (a := C6.toInt) (b := C154.toInt) rfl rfl (by omega) (by omega)
                              have e9n : e9.toNatClampNeg = C6.toNatClampNeg + C154.toNatClampNeg := cl_addn rfl rfl e9t (by omega) (by omega)
                              have hE : e9.toInt = bl.toInt ∨ ∃ u : Int32, bs e9.toNatClampNeg = u ∧ ¬ (48 ≤ u.toInt ∧ u.toInt ≤ 57) := by
                                by_cases q9 : L153.toInt = 0
                                · right; exact ⟨_, rfl, by rw [e9n]; exact (hi166 q9).2⟩
                                · left; omega
                              rcases hE with hE | ⟨u9, hE, hE2⟩
                              · exact LOOKP.of e9t (tok2 (u := 0) (by omega) (by omega) (by omega) (by omega) hi16 e42 ⟨by omega, by omega⟩ (by omega) (by omega) (hi165.b (by omega)) (Or.inl hE) (Or.inl ⟨by omega, by omega⟩) (fun q9 => by rw [if_pos (by omega), e42]; omega))
                              · exact LOOKP.of e9t (tok2 (u := u9) (by omega) (by omega) (by omega) (by omega) hi16 e42 ⟨by omega, by omega⟩ (by omega) (by omega) (hi165.b (by omega)) (Or.inr ⟨hE, hE2⟩) (Or.inl ⟨by omega, by omega⟩) (fun q9 => by rw [if_pos (by omega), e42]; omega))
                            exact e_v X h hr hlk dX9_lookAt_302 ⟨ok263, kx264, ⟨_, _, _, _, f262, by omega, by omega, by omega, by omega, hlk265⟩⟩
                          · have hc259 : ¬ (C154).toInt ≤ 2 := i_nle hc259 rfl rfl
                            exfalso; omega
                        · have hc258 : ¬ (C154).toInt ≤ 1 := i_nle hc258 rfl rfl
                          refine lv_iload hx hb dX9_lookAt_227 (lv_at hl 0 rfl) ?_
                          refine lv_iconst (v := 2) hx hb dX9_lookAt_229 (by decide) ?_
                          refine lv_icmp_ge (tgt := 274) hx hb dX9_lookAt_230 (by decide) (fun hc => absurd hc (by decide)) (fun _ => ?_)
                          refine lv_aload_n hx hb dX9_lookAt_233 rfl (lv_at hl 3 rfl) ?_
                          refine r_get kc9 X h 64 13 (by decide) rfl f255 (by decide) kv_665 rfl dX9_lookAt_234 ?_
                          refine lv_iconst (v := 2) hx hb dX9_lookAt_237 (by decide) ?_
                          refine lv_icmp_ne (tgt := 274) hx hb dX9_lookAt_238 (by decide) (fun hc => absurd (by decide) hc) (fun _ => ?_)
                          refine lv_aload_n hx hb dX9_lookAt_241 rfl (lv_at hl 3 rfl) ?_
                          refine lv_bipush (v := 10) hx hb dX9_lookAt_242 (by decide) ?_
                          refine lv_aload_n hx hb dX9_lookAt_244 rfl (lv_at hl 3 rfl) ?_
                          refine r_get kc9 X h 64 14 (by decide) rfl f255 (by decide) kv_666 rfl dX9_lookAt_245 ?_
                          obtain ⟨z268, e266, t267⟩ := x_mul (x := (10 : Int32)) (y := z252) (a := 10) (b := (z252).toInt) rfl rfl (by omega) (by omega)
                          refine o_imul (z := z268) hx hb dX9_lookAt_248 e266 ?_
                          refine lv_aload_n hx hb dX9_lookAt_249 rfl (lv_at hl 3 rfl) ?_
                          refine r_get kc9 X h 64 9 (by decide) rfl f255 (by decide) kv_667 rfl dX9_lookAt_250 ?_
                          refine lv_aload_n hx hb dX9_lookAt_253 rfl (lv_at hl 3 rfl) ?_
                          refine r_get kc9 X h 64 11 (by decide) rfl f255 (by decide) kv_663 rfl dX9_lookAt_254 ?_
                          refine lv_iload hx hb dX9_lookAt_257 (lv_at hl 0 rfl) ?_
                          obtain ⟨z271, e269, t270⟩ := x_add (x := C6) (y := (1 : Int32)) (a := (C6).toInt) (b := 1) rfl rfl (by omega) (by omega)
                          have n272 : z271.toNatClampNeg = C6.toNatClampNeg + 1 := cl_addn (x := C6) (y := (1 : Int32)) rfl rfl t270 (by omega) (by decide)
                          refine o_iadd (z := z271) hx hb dX9_lookAt_259 e269 ?_
                          have f273 : w253 71 = .inl (cI, 150, .inl bs) := by rw [e254, va_up_ne _ _ (by decide)]; exact cf170
                          obtain ⟨v274, e275⟩ : ∃ z : Int32, bs (C6.toNatClampNeg + 1) = z := ⟨_, rfl⟩
                          have q277 : 48 ≤ v274.toInt ∧ v274.toInt ≤ 57 := by rw [← e275]; exact of_decide_eq_true (hi165 (C6.toNatClampNeg + 1) (by have := cl_of (x := C6) (by omega); omega) (by have := cl_of (x := C6) (by omega); omega))
                          refine o_iald (v := v274) X h 71 0 (by decide) rfl f273 rfl (in_of (by omega) (by omega)) (by rw [n272]; exact e275) dX9_lookAt_260 ?_
                          obtain ⟨z280, e278, t279⟩ := x_add (x := z268) (y := v274) (a := (z268).toInt) (b := (v274).toInt) rfl rfl (by omega) (by omega)
                          have n281 : z280.toNatClampNeg = z268.toNatClampNeg + v274.toNatClampNeg := cl_addn (x := z268) (y := v274) rfl rfl t279 (by omega) (by omega)
                          refine o_iadd (z := z280) hx hb dX9_lookAt_261 e278 ?_
                          refine lv_bipush (v := 48) hx hb dX9_lookAt_262 (by decide) ?_
                          obtain ⟨z284, e282, t283⟩ := x_sub (x := z280) (y := (48 : Int32)) (a := (z280).toInt) (b := 48) rfl rfl (by omega) (by omega)
                          refine o_isub (z := z284) hx hb dX9_lookAt_264 e282 ?_
                          refine r_put kc9 X hD h 64 14 (by decide) rfl f255 (by decide) kv_666 rfl rfl rfl (Nat.le_of_ble_eq_true rfl) dX9_lookAt_265 (fun H locs w285 e286 h => ?_)
                          have f287 : w285 64 = .inr (7, [.ref (ad 65), .ref (ad 66), .ref (ad 67), .ref (ad 68), .long x, .long y, .ref (ad 69), .int mb, .ref (ad 70), .ref (ad 71), .int bl, .int C6, .int C154, .int 2, .int z284, .ref (ad 72), .ref (ad 73)]) := (congrFun e286 _).trans (va_up_self _ _ _)
                          have ok288 : OK cI cB cZ cO ad w285 := OK.up ok256 e286 (sM_mk (by omega) (by omega))
                          have kx289 : F6 w w285 := F6.up kx257 e286
                          refine lv_iinc (v := 2) (lv' := [(4, .int 2), (3, .int L153), (2, .int v41), (0, .ref (ad 64)), (1, .int n)]) hx hb dX9_lookAt_268 hl (k := 0) rfl rfl (by decide) rfl (fun ls hl => ?_)
                          refine lv_goto (tgt := 218) hx hb dX9_lookAt_271 (by decide) ?_
                          refine lv_iload hx hb dX9_lookAt_218 (lv_at hl 0 rfl) ?_
                          refine lv_aload_n hx hb dX9_lookAt_220 rfl (lv_at hl 3 rfl) ?_
                          refine r_get kc9 X h 64 12 (by decide) rfl f287 (by decide) kv_664 rfl dX9_lookAt_221 ?_
                          refine lv_icmp_ge (tgt := 274) hx hb dX9_lookAt_224 (by decide) (fun hc290 => ?_) (fun hc290 => ?_)
                          · have hc290 : (C154).toInt ≤ 2 := i_le hc290 rfl rfl
                            refine lv_aload_n hx hb dX9_lookAt_274 rfl (lv_at hl 3 rfl) ?_
                            refine lv_aload_n hx hb dX9_lookAt_275 rfl (lv_at hl 3 rfl) ?_
                            refine r_get kc9 X h 64 13 (by decide) rfl f287 (by decide) kv_665 rfl dX9_lookAt_276 ?_
                            refine lv_iconst (v := 2) hx hb dX9_lookAt_279 (by decide) ?_
                            refine lv_icmp_ne (tgt := 295) hx hb dX9_lookAt_280 (by decide) (fun hc => absurd (by decide) hc) (fun _ => ?_)
                            refine lv_aload_n hx hb dX9_lookAt_283 rfl (lv_at hl 3 rfl) ?_
                            refine r_get kc9 X h 64 12 (by decide) rfl f287 (by decide) kv_664 rfl dX9_lookAt_284 ?_
                            refine lv_iconst (v := 2) hx hb dX9_lookAt_287 (by decide) ?_
                            refine lv_icmp_le (tgt := 295) hx hb dX9_lookAt_288 (by decide) (fun hc291 => ?_) (fun hc291 => ?_)
                            · have hc291 : (C154).toInt ≤ 2 := i_le hc291 rfl rfl
                              refine lv_aload_n hx hb dX9_lookAt_295 rfl (lv_at hl 3 rfl) ?_
                              refine r_get kc9 X h 64 13 (by decide) rfl f287 (by decide) kv_665 rfl dX9_lookAt_296 ?_
                              refine r_put kc9 X hD h 64 13 (by decide) rfl f287 (by decide) kv_665 rfl rfl rfl (Nat.le_of_ble_eq_true rfl) dX9_lookAt_299 (fun H locs w292 e293 h => ?_)
                              have f294 : w292 64 = .inr (7, [.ref (ad 65), .ref (ad 66), .ref (ad 67), .ref (ad 68), .long x, .long y, .ref (ad 69), .int mb, .ref (ad 70), .ref (ad 71), .int bl, .int C6, .int C154, .int 2, .int z284, .ref (ad 72), .ref (ad 73)]) := (congrFun e293 _).trans (va_up_self _ _ _)
                              have ok295 : OK cI cB cZ cO ad w292 := OK.up ok288 e293 (sM_mk (by omega) (by omega))
                              have kx296 : F6 w w292 := F6.up kx289 e293
                              have hlk297 : LOOKP bs bl n C6 C154 (2 : Int32) z284 := by
                                have kc2 : (2 : Int32).toInt = 2 := rfl
                                obtain ⟨e9, e9e, e9t⟩ := x_add (x := C6) (y := C154) (a := C6.toInt) (b := C154.toInt) rfl rfl (by omega) (by omega)
                                have e9n : e9.toNatClampNeg = C6.toNatClampNeg + C154.toNatClampNeg := cl_addn rfl rfl e9t (by omega) (by omega)
                                have hE : e9.toInt = bl.toInt ∨ ∃ u : Int32, bs e9.toNatClampNeg = u ∧ ¬ (48 ≤ u.toInt ∧ u.toInt ≤ 57) := by
                                  by_cases q9 : L153.toInt = 0
                                  · right; exact ⟨_, rfl, by rw [e9n]; exact (hi166 q9).2⟩
                                  · left; omega
                                rcases hE with hE | ⟨u9, hE, hE2⟩
                                · exact LOOKP.of e9t (tok2 (u := 0) (by omega) (by omega) (by omega) (by omega) hi16 e42 ⟨by omega, by omega⟩ (by omega) (by omega) (hi165.b (by omega)) (Or.inl hE) (Or.inl ⟨by omega, by omega⟩) (fun q9 => by rw [if_neg (by omega), e42, e275]; omega))
                                · exact LOOKP.of e9t (tok2 (u := u9) (by omega) (by omega) (by omega) (by omega) hi16 e42 ⟨by omega, by omega⟩ (by omega) (by omega) (hi165.b (by omega)) (Or.inr ⟨hE, hE2⟩) (Or.inl ⟨by omega, by omega⟩) (fun q9 => by rw [if_neg (by omega), e42, e275]; omega))
                              exact e_v X h hr hlk dX9_lookAt_302 ⟨ok295, kx296, ⟨_, _, _, _, f294, by omega, by omega, by omega, by omega, hlk297⟩⟩
                            · have hc291 : ¬ (C154).toInt ≤ 2 := i_nle hc291 rfl rfl
                              exfalso; omega
                          · have hc290 : ¬ (C154).toInt ≤ 2 := i_nle hc290 rfl rfl
                            refine lv_iload hx hb dX9_lookAt_227 (lv_at hl 0 rfl) ?_
                            refine lv_iconst (v := 2) hx hb dX9_lookAt_229 (by decide) ?_
                            refine lv_icmp_ge (tgt := 274) hx hb dX9_lookAt_230 (by decide) (fun _ => ?_) (fun hc => absurd (by decide) hc)
                            refine lv_aload_n hx hb dX9_lookAt_274 rfl (lv_at hl 3 rfl) ?_
                            refine lv_aload_n hx hb dX9_lookAt_275 rfl (lv_at hl 3 rfl) ?_
                            refine r_get kc9 X h 64 13 (by decide) rfl f287 (by decide) kv_665 rfl dX9_lookAt_276 ?_
                            refine lv_iconst (v := 2) hx hb dX9_lookAt_279 (by decide) ?_
                            refine lv_icmp_ne (tgt := 295) hx hb dX9_lookAt_280 (by decide) (fun hc => absurd (by decide) hc) (fun _ => ?_)
                            refine lv_aload_n hx hb dX9_lookAt_283 rfl (lv_at hl 3 rfl) ?_
                            refine r_get kc9 X h 64 12 (by decide) rfl f287 (by decide) kv_664 rfl dX9_lookAt_284 ?_
                            refine lv_iconst (v := 2) hx hb dX9_lookAt_287 (by decide) ?_
                            refine lv_icmp_le (tgt := 295) hx hb dX9_lookAt_288 (by decide) (fun hc298 => ?_) (fun hc298 => ?_)
                            · have hc298 : (C154).toInt ≤ 2 := i_le hc298 rfl rfl
                              exfalso; omega
                            · have hc298 : ¬ (C154).toInt ≤ 2 := i_nle hc298 rfl rfl
                              refine lv_iconst (v := 4) hx hb dX9_lookAt_291 (by decide) ?_
                              refine lv_goto (tgt := 299) hx hb dX9_lookAt_292 (by decide) ?_
                              refine r_put kc9 X hD h 64 13 (by decide) rfl f287 (by decide) kv_665 rfl rfl rfl (Nat.le_of_ble_eq_true rfl) dX9_lookAt_299 (fun H locs w299 e300 h => ?_)
                              have f301 : w299 64 = .inr (7, [.ref (ad 65), .ref (ad 66), .ref (ad 67), .ref (ad 68), .long x, .long y, .ref (ad 69), .int mb, .ref (ad 70), .ref (ad 71), .int bl, .int C6, .int C154, .int 4, .int z284, .ref (ad 72), .ref (ad 73)]) := (congrFun e300 _).trans (va_up_self _ _ _)
                              have ok302 : OK cI cB cZ cO ad w299 := OK.up ok288 e300 (sM_mk (by omega) (by omega))
                              have kx303 : F6 w w299 := F6.up kx289 e300
                              have hlk304 : LOOKP bs bl n C6 C154 (4 : Int32) z284 := by
                                have kc4 : (4 : Int32).toInt = 4 := rfl
                                obtain ⟨e9, e9e, e9t⟩ := x_add (x := C6) (y := C154) (a := C6.toInt) (b := C154.toInt) rfl rfl (by omega) (by omega)
                                have e9n : e9.toNatClampNeg = C6.toNatClampNeg + C154.toNatClampNeg := cl_addn rfl rfl e9t (by omega) (by omega)
                                have hE : e9.toInt = bl.toInt ∨ ∃ u : Int32, bs e9.toNatClampNeg = u ∧ ¬ (48 ≤ u.toInt ∧ u.toInt ≤ 57) := by
                                  by_cases q9 : L153.toInt = 0
                                  · right; exact ⟨_, rfl, by rw [e9n]; exact (hi166 q9).2⟩
                                  · left; omega
                                rcases hE with hE | ⟨u9, hE, hE2⟩
                                · exact LOOKP.of e9t (tok2 (u := 0) (by omega) (by omega) (by omega) (by omega) hi16 e42 ⟨by omega, by omega⟩ (by omega) (by omega) (hi165.b (by omega)) (Or.inl hE) (Or.inr ⟨by omega, by omega⟩) (fun q9 => by omega))
                                · exact LOOKP.of e9t (tok2 (u := u9) (by omega) (by omega) (by omega) (by omega) hi16 e42 ⟨by omega, by omega⟩ (by omega) (by omega) (hi165.b (by omega)) (Or.inr ⟨hE, hE2⟩) (Or.inr ⟨by omega, by omega⟩) (fun q9 => by omega))
                              exact e_v X h hr hlk dX9_lookAt_302 ⟨ok302, kx303, ⟨_, _, _, _, f301, by omega, by omega, by omega, by omega, hlk304⟩⟩
                    · have hc240 : ¬ (bl).toInt ≤ (z238).toInt := i_nle hc240 rfl rfl
                      refine lv_aload_n hx hb dX9_lookAt_156 rfl (lv_at hl 2 rfl) ?_
                      refine r_get kc9 X h 64 9 (by decide) rfl cf169 (by decide) kv_667 rfl dX9_lookAt_157 ?_
                      refine lv_aload_n hx hb dX9_lookAt_160 rfl (lv_at hl 2 rfl) ?_
                      refine r_get kc9 X h 64 11 (by decide) rfl cf169 (by decide) kv_663 rfl dX9_lookAt_161 ?_
                      refine lv_aload_n hx hb dX9_lookAt_164 rfl (lv_at hl 2 rfl) ?_
                      refine r_get kc9 X h 64 12 (by decide) rfl cf169 (by decide) kv_664 rfl dX9_lookAt_165 ?_
                      obtain ⟨z307, e305, t306⟩ := x_add (x := C6) (y := C154) (a := (C6).toInt) (b := (C154).toInt) rfl rfl (by omega) (by omega)
                      have n308 : z307.toNatClampNeg = C6.toNatClampNeg + C154.toNatClampNeg := cl_addn (x := C6) (y := C154) rfl rfl t306 (by omega) (by omega)
                      refine o_iadd (z := z307) hx hb dX9_lookAt_168 e305 ?_
                      obtain ⟨v309, e310⟩ : ∃ z : Int32, bs (C6.toNatClampNeg + C154.toNatClampNeg) = z := ⟨_, rfl⟩
                      refine o_iald (v := v309) X h 71 0 (by decide) rfl cf170 rfl (in_of (by omega) (by omega)) (by rw [n308]; exact e310) dX9_lookAt_169 ?_
                      refine lv_istore (lv' := [(4, .int v309), (3, .int L153), (2, .int v41), (0, .ref (ad 64)), (1, .int n)]) hx hb dX9_lookAt_170 hl (by decide) rfl (fun ls hl => ?_)
                      refine lv_aload_n hx hb dX9_lookAt_172 rfl (lv_at hl 3 rfl) ?_
                      refine r_get kc9 X h 64 13 (by decide) rfl cf169 (by decide) kv_665 rfl dX9_lookAt_173 ?_
                      refine lv_iconst (v := 1) hx hb dX9_lookAt_176 (by decide) ?_
                      refine lv_icmp_ne (tgt := 188) hx hb dX9_lookAt_177 (by decide) (fun _ => ?_) (fun hc => absurd hc (by decide))
                      refine lv_iload hx hb dX9_lookAt_188 (lv_at hl 0 rfl) ?_
                      refine n_Si (na := 1) (As := [.int v309]) (rest := []) X hD hN h (c_M_isFigure l G cI cB cZ cO ad wL155   v309  ) ⟨kv_671, kv_672, kv_470, kv_673⟩ ⟨by decide, by decide, by decide⟩ ⟨Nat.le_of_ble_eq_true rfl, Nat.le_of_ble_eq_true rfl⟩ ⟨Nat.zero_le _, Nat.zero_le _⟩ rfl hl.1 rfl (Nat.le_of_ble_eq_true rfl) dX9_lookAt_190 (fun r312 w313 H locs hp314 h => ?_)
                      obtain ⟨rfl, hr315⟩ := hp314
                      rcases hr315 with ⟨hq316, hq317, rfl⟩ | ⟨hq318, rfl⟩
                      · refine lv_istore_n (lv' := [(3, .int 1), (4, .int v309), (2, .int v41), (0, .ref (ad 64)), (1, .int n)]) hx hb dX9_lookAt_193 rfl hl (by decide) rfl (fun ls hl => ?_)
                        refine lv_aload_n hx hb dX9_lookAt_194 rfl (lv_at hl 3 rfl) ?_
                        refine lv_dup hx hb dX9_lookAt_195 rfl ?_
                        refine r_get kc9 X h 64 12 (by decide) rfl cf169 (by decide) kv_664 rfl dX9_lookAt_196 ?_
                        refine lv_iload_n hx hb dX9_lookAt_199 rfl (lv_at hl 0 rfl) ?_
                        refine lv_if_eq (tgt := 207) hx hb dX9_lookAt_200 (by decide) (fun hc => absurd hc (by decide)) (fun _ => ?_)
                        refine lv_iconst (v := 1) hx hb dX9_lookAt_203 (by decide) ?_
                        refine lv_goto (tgt := 208) hx hb dX9_lookAt_204 (by decide) ?_
                        obtain ⟨z321, e319, t320⟩ := x_add (x := C154) (y := (1 : Int32)) (a := (C154).toInt) (b := 1) rfl rfl (by omega) (by omega)
                        have n322 : z321.toNatClampNeg = C154.toNatClampNeg + 1 := cl_addn (x := C154) (y := (1 : Int32)) rfl rfl t320 (by omega) (by decide)
                        refine o_iadd (z := z321) hx hb dX9_lookAt_208 e319 ?_
                        refine r_put kc9 X hD h 64 12 (by decide) rfl cf169 (by decide) kv_664 rfl rfl rfl (Nat.le_of_ble_eq_true rfl) dX9_lookAt_209 (fun H locs w323 e324 h => ?_)
                        have f325 : w323 64 = .inr (7, [.ref (ad 65), .ref (ad 66), .ref (ad 67), .ref (ad 68), .long x, .long y, .ref (ad 69), .int mb, .ref (ad 70), .ref (ad 71), .int bl, .int C6, .int z321, .int 2, .int 0, .ref (ad 72), .ref (ad 73)]) := (congrFun e324 _).trans (va_up_self _ _ _)
                        have ok326 : OK cI cB cZ cO ad w323 := OK.up ok167 e324 (sM_mk (by omega) (by omega))
                        have kx327 : F6 w w323 := F6.up kx168 e324
                        refine lv_goto (tgt := 136) hx hb dX9_lookAt_212 (by decide) ?_
                        have f328 : w323 71 = .inl (cI, 150, .inl bs) := by rw [e324, va_up_ne _ _ (by decide)]; exact cf170
                        exact ih158  (1 : Int32) z321 w323 _ _ _ (by have q0 : (1 : Int32).toInt = 1 := rfl; omega) (by have q0 : (1 : Int32).toInt = 1 := rfl; omega) (by have q0 : (1 : Int32).toInt = 1 := rfl; omega) (by have q0 : (1 : Int32).toInt = 1 := rfl; omega) (by have q0 : (1 : Int32).toInt = 1 := rfl; omega) (runI.succ (n := C6.toNatClampNeg + C154.toNatClampNeg) hi165 (by omega) (by have := cl_of (x := C6) (by omega); have := cl_of (x := C154) (by omega); omega) e310 (dg_t (by omega) (by omega))) (fun h9 => by have q0 : (1 : Int32).toInt = 1 := rfl; omega) ok326 kx327 f325 f328 (by have q0 : (1 : Int32).toInt = 1 := rfl; omega) h (lv_sub hl [0, 2, 3, 4] rfl)
                      · refine lv_istore_n (lv' := [(3, .int 0), (4, .int v309), (2, .int v41), (0, .ref (ad 64)), (1, .int n)]) hx hb dX9_lookAt_193 rfl hl (by decide) rfl (fun ls hl => ?_)
                        refine lv_aload_n hx hb dX9_lookAt_194 rfl (lv_at hl 3 rfl) ?_
                        refine lv_dup hx hb dX9_lookAt_195 rfl ?_
                        refine r_get kc9 X h 64 12 (by decide) rfl cf169 (by decide) kv_664 rfl dX9_lookAt_196 ?_
                        refine lv_iload_n hx hb dX9_lookAt_199 rfl (lv_at hl 0 rfl) ?_
                        refine lv_if_eq (tgt := 207) hx hb dX9_lookAt_200 (by decide) (fun _ => ?_) (fun hc => absurd (by decide) hc)
                        refine lv_iconst (v := 0) hx hb dX9_lookAt_207 (by decide) ?_
                        obtain ⟨z331, e329, t330⟩ := x_add (x := C154) (y := (0 : Int32)) (a := (C154).toInt) (b := 0) rfl rfl (by omega) (by omega)
                        have n332 : z331.toNatClampNeg = C154.toNatClampNeg + 0 := cl_addn (x := C154) (y := (0 : Int32)) rfl rfl t330 (by omega) (by decide)
                        have n332 : z331.toNatClampNeg = C154.toNatClampNeg := n332
                        refine o_iadd (z := z331) hx hb dX9_lookAt_208 e329 ?_
                        refine r_put kc9 X hD h 64 12 (by decide) rfl cf169 (by decide) kv_664 rfl rfl rfl (Nat.le_of_ble_eq_true rfl) dX9_lookAt_209 (fun H locs w333 e334 h => ?_)
                        have f335 : w333 64 = .inr (7, [.ref (ad 65), .ref (ad 66), .ref (ad 67), .ref (ad 68), .long x, .long y, .ref (ad 69), .int mb, .ref (ad 70), .ref (ad 71), .int bl, .int C6, .int z331, .int 2, .int 0, .ref (ad 72), .ref (ad 73)]) := (congrFun e334 _).trans (va_up_self _ _ _)
                        have ok336 : OK cI cB cZ cO ad w333 := OK.up ok167 e334 (sM_mk (by omega) (by omega))
                        have kx337 : F6 w w333 := F6.up kx168 e334
                        refine lv_goto (tgt := 136) hx hb dX9_lookAt_212 (by decide) ?_
                        have hs338 : z331.toNatClampNeg = C154.toNatClampNeg := clq (by have q0 : (0 : Int32).toInt = 0 := rfl; omega)
                        have f339 : w333 71 = .inl (cI, 150, .inl bs) := by rw [e334, va_up_ne _ _ (by decide)]; exact cf170
                        exact ih158  (0 : Int32) z331 w333 _ _ _ (by have q0 : (0 : Int32).toInt = 0 := rfl; omega) (by have q0 : (0 : Int32).toInt = 0 := rfl; omega) (by have q0 : (0 : Int32).toInt = 0 := rfl; omega) (by have q0 : (0 : Int32).toInt = 0 := rfl; omega) (by have q0 : (0 : Int32).toInt = 0 := rfl; omega) (fun j p9 q9 => hi165 j p9 (by have q0 : (0 : Int32).toInt = 0 := rfl; omega)) (fun h9 => ⟨by have q0 : (0 : Int32).toInt = 0 := rfl; omega, by rw [hs338, e310]; omega⟩) ok336 kx337 f335 f339 (by have q0 : (0 : Int32).toInt = 0 := rfl; omega) h (lv_sub hl [0, 2, 3, 4] rfl)
              have f340 : w143 71 = .inl (cI, 150, .inl bs) := by rw [e144, va_up_ne _ _ (by decide)]; exact f40
              have f341 : w148 71 = .inl (cI, 150, .inl bs) := by rw [e149, va_up_ne _ _ (by decide)]; exact f340
              exact hloop156 152 (1 : Int32) (1 : Int32) w148 _ _ _ (by have q0 : (1 : Int32).toInt = 1 := rfl; omega) (by have q0 : (1 : Int32).toInt = 1 := rfl; omega) (by have q0 : (1 : Int32).toInt = 1 := rfl; omega) (by have q0 : (1 : Int32).toInt = 1 := rfl; omega) (by have q0 : (1 : Int32).toInt = 1 := rfl; omega) (runI.one (by omega) (by have q0 : (1 : Int32).toInt = 1 := rfl; omega) e42 (dg_t (by omega) (by omega))) (fun h9 => by have q0 : (1 : Int32).toInt = 1 := rfl; omega) ok151 kx152 f150 f341 (by have q0 : (1 : Int32).toInt = 1 := rfl; omega) h (lv_sub hl [0, 1, 2, 3] rfl)
            · refine lv_if_eq (tgt := 103) hx hb dX9_lookAt_96 (by decide) (fun _ => ?_) (fun hc => absurd (by decide) hc)
              refine lv_iload_n hx hb dX9_lookAt_103 rfl (lv_at hl 0 rfl) ?_
              refine lv_bipush (v := 59) hx hb dX9_lookAt_104 (by decide) ?_
              refine lv_icmp_ne (tgt := 113) hx hb dX9_lookAt_106 (by decide) (fun hc342 => ?_) (fun hc342 => ?_)
              · have hc342 : ¬ (v41).toInt = 59 := i_ne hc342 rfl rfl
                refine lv_iconst (v := 4) hx hb dX9_lookAt_113 (by decide) ?_
                refine r_put kc9 X hD h 64 13 (by decide) rfl f34 (by decide) kv_665 rfl rfl rfl (Nat.le_of_ble_eq_true rfl) dX9_lookAt_114 (fun H locs w343 e344 h => ?_)
                have f345 : w343 64 = .inr (7, [.ref (ad 65), .ref (ad 66), .ref (ad 67), .ref (ad 68), .long x, .long y, .ref (ad 69), .int mb, .ref (ad 70), .ref (ad 71), .int bl, .int C6, .int 0, .int 4, .int 0, .ref (ad 72), .ref (ad 73)]) := (congrFun e344 _).trans (va_up_self _ _ _)
                have ok346 : OK cI cB cZ cO ad w343 := OK.up ok35 e344 (sM_mk (by omega) (by omega))
                have kx347 : F6 w w343 := F6.up kx36 e344
                refine lv_aload_n hx hb dX9_lookAt_117 rfl (lv_at hl 1 rfl) ?_
                refine lv_iconst (v := 1) hx hb dX9_lookAt_118 (by decide) ?_
                refine r_put kc9 X hD h 64 12 (by decide) rfl f345 (by decide) kv_664 rfl rfl rfl (Nat.le_of_ble_eq_true rfl) dX9_lookAt_119 (fun H locs w348 e349 h => ?_)
                have f350 : w348 64 = .inr (7, [.ref (ad 65), .ref (ad 66), .ref (ad 67), .ref (ad 68), .long x, .long y, .ref (ad 69), .int mb, .ref (ad 70), .ref (ad 71), .int bl, .int C6, .int 1, .int 4, .int 0, .ref (ad 72), .ref (ad 73)]) := (congrFun e349 _).trans (va_up_self _ _ _)
                have ok351 : OK cI cB cZ cO ad w348 := OK.up ok346 e349 (sM_mk (by omega) (by omega))
                have kx352 : F6 w w348 := F6.up kx347 e349
                refine lv_aload_n hx hb dX9_lookAt_122 rfl (lv_at hl 1 rfl) ?_
                refine r_get kc9 X h 64 13 (by decide) rfl f350 (by decide) kv_665 rfl dX9_lookAt_123 ?_
                refine lv_iconst (v := 3) hx hb dX9_lookAt_126 (by decide) ?_
                refine lv_icmp_ge (tgt := 134) hx hb dX9_lookAt_127 (by decide) (fun _ => ?_) (fun hc => absurd (by decide) hc)
                refine lv_iconst (v := 0) hx hb dX9_lookAt_134 (by decide) ?_
                refine lv_istore_n (lv' := [(3, .int 0), (2, .int v41), (0, .ref (ad 64)), (1, .int n)]) hx hb dX9_lookAt_135 rfl hl (by decide) rfl (fun ls hl => ?_)
                refine lv_iload_n hx hb dX9_lookAt_136 rfl (lv_at hl 0 rfl) ?_
                refine lv_if_eq (tgt := 215) hx hb dX9_lookAt_137 (by decide) (fun _ => ?_) (fun hc => absurd (by decide) hc)
                refine lv_iconst (v := 0) hx hb dX9_lookAt_215 (by decide) ?_
                refine lv_istore (lv' := [(4, .int 0), (3, .int 0), (2, .int v41), (0, .ref (ad 64)), (1, .int n)]) hx hb dX9_lookAt_216 hl (by decide) rfl (fun ls hl => ?_)
                refine lv_iload hx hb dX9_lookAt_218 (lv_at hl 0 rfl) ?_
                refine lv_aload_n hx hb dX9_lookAt_220 rfl (lv_at hl 3 rfl) ?_
                refine r_get kc9 X h 64 12 (by decide) rfl f350 (by decide) kv_664 rfl dX9_lookAt_221 ?_
                refine lv_icmp_ge (tgt := 274) hx hb dX9_lookAt_224 (by decide) (fun hc => absurd hc (by decide)) (fun _ => ?_)
                refine lv_iload hx hb dX9_lookAt_227 (lv_at hl 0 rfl) ?_
                refine lv_iconst (v := 2) hx hb dX9_lookAt_229 (by decide) ?_
                refine lv_icmp_ge (tgt := 274) hx hb dX9_lookAt_230 (by decide) (fun hc => absurd hc (by decide)) (fun _ => ?_)
                refine lv_aload_n hx hb dX9_lookAt_233 rfl (lv_at hl 3 rfl) ?_
                refine r_get kc9 X h 64 13 (by decide) rfl f350 (by decide) kv_665 rfl dX9_lookAt_234 ?_
                refine lv_iconst (v := 2) hx hb dX9_lookAt_237 (by decide) ?_
                refine lv_icmp_ne (tgt := 274) hx hb dX9_lookAt_238 (by decide) (fun _ => ?_) (fun hc => absurd hc (by decide))
                refine lv_aload_n hx hb dX9_lookAt_274 rfl (lv_at hl 3 rfl) ?_
                refine lv_aload_n hx hb dX9_lookAt_275 rfl (lv_at hl 3 rfl) ?_
                refine r_get kc9 X h 64 13 (by decide) rfl f350 (by decide) kv_665 rfl dX9_lookAt_276 ?_
                refine lv_iconst (v := 2) hx hb dX9_lookAt_279 (by decide) ?_
                refine lv_icmp_ne (tgt := 295) hx hb dX9_lookAt_280 (by decide) (fun _ => ?_) (fun hc => absurd hc (by decide))
                refine lv_aload_n hx hb dX9_lookAt_295 rfl (lv_at hl 3 rfl) ?_
                refine r_get kc9 X h 64 13 (by decide) rfl f350 (by decide) kv_665 rfl dX9_lookAt_296 ?_
                refine r_put kc9 X hD h 64 13 (by decide) rfl f350 (by decide) kv_665 rfl rfl rfl (Nat.le_of_ble_eq_true rfl) dX9_lookAt_299 (fun H locs w353 e354 h => ?_)
                have f355 : w353 64 = .inr (7, [.ref (ad 65), .ref (ad 66), .ref (ad 67), .ref (ad 68), .long x, .long y, .ref (ad 69), .int mb, .ref (ad 70), .ref (ad 71), .int bl, .int C6, .int 1, .int 4, .int 0, .ref (ad 72), .ref (ad 73)]) := (congrFun e354 _).trans (va_up_self _ _ _)
                have ok356 : OK cI cB cZ cO ad w353 := OK.up ok351 e354 (sM_mk (by omega) (by omega))
                have kx357 : F6 w w353 := F6.up kx352 e354
                have hlk358 : LOOKP bs bl n C6 (1 : Int32) (4 : Int32) (0 : Int32) := by
                  have kc1 : (1 : Int32).toInt = 1 := rfl
                  have kc4 : (4 : Int32).toInt = 4 := rfl
                  have kc0 : (0 : Int32).toInt = 0 := rfl
                  obtain ⟨e9, e9e, e9t⟩ := x_add (x := C6) (y := (1 : Int32)) (a := C6.toInt) (b := (1 : Int32).toInt) rfl rfl (by omega) (by omega)
                  exact LOOKP.of e9t (tok3 (by omega) (by omega) (by omega) (by omega) hi16 e42 (by omega) (by omega) (by omega) (by omega) (Or.inr ⟨by omega, by omega⟩))
                exact e_v X h hr hlk dX9_lookAt_302 ⟨ok356, kx357, ⟨_, _, _, _, f355, by omega, by omega, by omega, by omega, hlk358⟩⟩
              · have hc342 : (v41).toInt = 59 := i_eq hc342 rfl rfl
                refine lv_iconst (v := 3) hx hb dX9_lookAt_109 (by decide) ?_
                refine lv_goto (tgt := 114) hx hb dX9_lookAt_110 (by decide) ?_
                refine r_put kc9 X hD h 64 13 (by decide) rfl f34 (by decide) kv_665 rfl rfl rfl (Nat.le_of_ble_eq_true rfl) dX9_lookAt_114 (fun H locs w359 e360 h => ?_)
                have f361 : w359 64 = .inr (7, [.ref (ad 65), .ref (ad 66), .ref (ad 67), .ref (ad 68), .long x, .long y, .ref (ad 69), .int mb, .ref (ad 70), .ref (ad 71), .int bl, .int C6, .int 0, .int 3, .int 0, .ref (ad 72), .ref (ad 73)]) := (congrFun e360 _).trans (va_up_self _ _ _)
                have ok362 : OK cI cB cZ cO ad w359 := OK.up ok35 e360 (sM_mk (by omega) (by omega))
                have kx363 : F6 w w359 := F6.up kx36 e360
                refine lv_aload_n hx hb dX9_lookAt_117 rfl (lv_at hl 1 rfl) ?_
                refine lv_iconst (v := 1) hx hb dX9_lookAt_118 (by decide) ?_
                refine r_put kc9 X hD h 64 12 (by decide) rfl f361 (by decide) kv_664 rfl rfl rfl (Nat.le_of_ble_eq_true rfl) dX9_lookAt_119 (fun H locs w364 e365 h => ?_)
                have f366 : w364 64 = .inr (7, [.ref (ad 65), .ref (ad 66), .ref (ad 67), .ref (ad 68), .long x, .long y, .ref (ad 69), .int mb, .ref (ad 70), .ref (ad 71), .int bl, .int C6, .int 1, .int 3, .int 0, .ref (ad 72), .ref (ad 73)]) := (congrFun e365 _).trans (va_up_self _ _ _)
                have ok367 : OK cI cB cZ cO ad w364 := OK.up ok362 e365 (sM_mk (by omega) (by omega))
                have kx368 : F6 w w364 := F6.up kx363 e365
                refine lv_aload_n hx hb dX9_lookAt_122 rfl (lv_at hl 1 rfl) ?_
                refine r_get kc9 X h 64 13 (by decide) rfl f366 (by decide) kv_665 rfl dX9_lookAt_123 ?_
                refine lv_iconst (v := 3) hx hb dX9_lookAt_126 (by decide) ?_
                refine lv_icmp_ge (tgt := 134) hx hb dX9_lookAt_127 (by decide) (fun _ => ?_) (fun hc => absurd (by decide) hc)
                refine lv_iconst (v := 0) hx hb dX9_lookAt_134 (by decide) ?_
                refine lv_istore_n (lv' := [(3, .int 0), (2, .int v41), (0, .ref (ad 64)), (1, .int n)]) hx hb dX9_lookAt_135 rfl hl (by decide) rfl (fun ls hl => ?_)
                refine lv_iload_n hx hb dX9_lookAt_136 rfl (lv_at hl 0 rfl) ?_
                refine lv_if_eq (tgt := 215) hx hb dX9_lookAt_137 (by decide) (fun _ => ?_) (fun hc => absurd (by decide) hc)
                refine lv_iconst (v := 0) hx hb dX9_lookAt_215 (by decide) ?_
                refine lv_istore (lv' := [(4, .int 0), (3, .int 0), (2, .int v41), (0, .ref (ad 64)), (1, .int n)]) hx hb dX9_lookAt_216 hl (by decide) rfl (fun ls hl => ?_)
                refine lv_iload hx hb dX9_lookAt_218 (lv_at hl 0 rfl) ?_
                refine lv_aload_n hx hb dX9_lookAt_220 rfl (lv_at hl 3 rfl) ?_
                refine r_get kc9 X h 64 12 (by decide) rfl f366 (by decide) kv_664 rfl dX9_lookAt_221 ?_
                refine lv_icmp_ge (tgt := 274) hx hb dX9_lookAt_224 (by decide) (fun hc => absurd hc (by decide)) (fun _ => ?_)
                refine lv_iload hx hb dX9_lookAt_227 (lv_at hl 0 rfl) ?_
                refine lv_iconst (v := 2) hx hb dX9_lookAt_229 (by decide) ?_
                refine lv_icmp_ge (tgt := 274) hx hb dX9_lookAt_230 (by decide) (fun hc => absurd hc (by decide)) (fun _ => ?_)
                refine lv_aload_n hx hb dX9_lookAt_233 rfl (lv_at hl 3 rfl) ?_
                refine r_get kc9 X h 64 13 (by decide) rfl f366 (by decide) kv_665 rfl dX9_lookAt_234 ?_
                refine lv_iconst (v := 2) hx hb dX9_lookAt_237 (by decide) ?_
                refine lv_icmp_ne (tgt := 274) hx hb dX9_lookAt_238 (by decide) (fun _ => ?_) (fun hc => absurd hc (by decide))
                refine lv_aload_n hx hb dX9_lookAt_274 rfl (lv_at hl 3 rfl) ?_
                refine lv_aload_n hx hb dX9_lookAt_275 rfl (lv_at hl 3 rfl) ?_
                refine r_get kc9 X h 64 13 (by decide) rfl f366 (by decide) kv_665 rfl dX9_lookAt_276 ?_
                refine lv_iconst (v := 2) hx hb dX9_lookAt_279 (by decide) ?_
                refine lv_icmp_ne (tgt := 295) hx hb dX9_lookAt_280 (by decide) (fun _ => ?_) (fun hc => absurd hc (by decide))
                refine lv_aload_n hx hb dX9_lookAt_295 rfl (lv_at hl 3 rfl) ?_
                refine r_get kc9 X h 64 13 (by decide) rfl f366 (by decide) kv_665 rfl dX9_lookAt_296 ?_
                refine r_put kc9 X hD h 64 13 (by decide) rfl f366 (by decide) kv_665 rfl rfl rfl (Nat.le_of_ble_eq_true rfl) dX9_lookAt_299 (fun H locs w369 e370 h => ?_)
                have f371 : w369 64 = .inr (7, [.ref (ad 65), .ref (ad 66), .ref (ad 67), .ref (ad 68), .long x, .long y, .ref (ad 69), .int mb, .ref (ad 70), .ref (ad 71), .int bl, .int C6, .int 1, .int 3, .int 0, .ref (ad 72), .ref (ad 73)]) := (congrFun e370 _).trans (va_up_self _ _ _)
                have ok372 : OK cI cB cZ cO ad w369 := OK.up ok367 e370 (sM_mk (by omega) (by omega))
                have kx373 : F6 w w369 := F6.up kx368 e370
                have hlk374 : LOOKP bs bl n C6 (1 : Int32) (3 : Int32) (0 : Int32) := by
                  have kc1 : (1 : Int32).toInt = 1 := rfl
                  have kc3 : (3 : Int32).toInt = 3 := rfl
                  have kc0 : (0 : Int32).toInt = 0 := rfl
                  obtain ⟨e9, e9e, e9t⟩ := x_add (x := C6) (y := (1 : Int32)) (a := C6.toInt) (b := (1 : Int32).toInt) rfl rfl (by omega) (by omega)
                  exact LOOKP.of e9t (tok3 (by omega) (by omega) (by omega) (by omega) hi16 e42 (by omega) (by omega) (by omega) (by omega) (Or.inl ⟨by omega, by omega⟩))
                exact e_v X h hr hlk dX9_lookAt_302 ⟨ok372, kx373, ⟨_, _, _, _, f371, by omega, by omega, by omega, by omega, hlk374⟩⟩
        · have hc37 : (C6).toInt = (bl).toInt := i_eq hc37 rfl rfl
          have hlk375 : LOOKP bs bl n C6 (0 : Int32) (0 : Int32) (0 : Int32) := by
            have kc0 : (0 : Int32).toInt = 0 := rfl
            obtain ⟨e9, e9e, e9t⟩ := x_add (x := C6) (y := (0 : Int32)) (a := C6.toInt) (b := (0 : Int32).toInt) rfl rfl (by omega) (by omega)
            exact LOOKP.of e9t (tok0 (by omega) (by omega) (by omega) (by omega) hi16 (by omega) (by omega))
          exact e_v X h hr hlk dX9_lookAt_69 ⟨ok35, kx36, ⟨_, _, _, _, f34, by omega, by omega, by omega, by omega, hlk375⟩⟩
      · have hc21 : ¬ (bl).toInt ≤ (C6).toInt := i_nle hc21 rfl rfl
        refine lv_aload_n hx hb dX9_lookAt_16 rfl (lv_at hl 0 rfl) ?_
        refine r_get kc9 X h 64 9 (by decide) rfl cf19 (by decide) kv_667 rfl dX9_lookAt_17 ?_
        refine lv_aload_n hx hb dX9_lookAt_20 rfl (lv_at hl 0 rfl) ?_
        refine r_get kc9 X h 64 11 (by decide) rfl cf19 (by decide) kv_663 rfl dX9_lookAt_21 ?_
        obtain ⟨v376, e377⟩ : ∃ z : Int32, bs C6.toNatClampNeg = z := ⟨_, rfl⟩
        refine o_iald (v := v376) X h 71 0 (by decide) rfl cf20 rfl (in_of (by omega) (by omega)) e377 dX9_lookAt_24 ?_
        refine lv_bipush (v := 32) hx hb dX9_lookAt_25 (by decide) ?_
        refine lv_icmp_ne (tgt := 43) hx hb dX9_lookAt_27 (by decide) (fun hc379 => ?_) (fun hc379 => ?_)
        · have hc379 : ¬ (v376).toInt = 32 := i_ne hc379 rfl rfl
          refine lv_aload_n hx hb dX9_lookAt_43 rfl (lv_at hl 0 rfl) ?_
          refine lv_iconst (v := 0) hx hb dX9_lookAt_44 (by decide) ?_
          refine r_put kc9 X hD h 64 12 (by decide) rfl cf19 (by decide) kv_664 rfl rfl rfl (Nat.le_of_ble_eq_true rfl) dX9_lookAt_45 (fun H locs w380 e381 h => ?_)
          have f382 : w380 64 = .inr (7, [.ref (ad 65), .ref (ad 66), .ref (ad 67), .ref (ad 68), .long x, .long y, .ref (ad 69), .int mb, .ref (ad 70), .ref (ad 71), .int bl, .int C6, .int 0, .int tk, .int va, .ref (ad 72), .ref (ad 73)]) := (congrFun e381 _).trans (va_up_self _ _ _)
          have ok383 : OK cI cB cZ cO ad w380 := OK.up ok17 e381 (sM_mk (by omega) (by omega))
          have kx384 : F6 w w380 := F6.up kx18 e381
          refine lv_aload_n hx hb dX9_lookAt_48 rfl (lv_at hl 0 rfl) ?_
          refine lv_iconst (v := 0) hx hb dX9_lookAt_49 (by decide) ?_
          refine r_put kc9 X hD h 64 13 (by decide) rfl f382 (by decide) kv_665 rfl rfl rfl (Nat.le_of_ble_eq_true rfl) dX9_lookAt_50 (fun H locs w385 e386 h => ?_)
          have f387 : w385 64 = .inr (7, [.ref (ad 65), .ref (ad 66), .ref (ad 67), .ref (ad 68), .long x, .long y, .ref (ad 69), .int mb, .ref (ad 70), .ref (ad 71), .int bl, .int C6, .int 0, .int 0, .int va, .ref (ad 72), .ref (ad 73)]) := (congrFun e386 _).trans (va_up_self _ _ _)
          have ok388 : OK cI cB cZ cO ad w385 := OK.up ok383 e386 (sM_mk (by omega) (by omega))
          have kx389 : F6 w w385 := F6.up kx384 e386
          refine lv_aload_n hx hb dX9_lookAt_53 rfl (lv_at hl 0 rfl) ?_
          refine lv_iconst (v := 0) hx hb dX9_lookAt_54 (by decide) ?_
          refine r_put kc9 X hD h 64 14 (by decide) rfl f387 (by decide) kv_666 rfl rfl rfl (Nat.le_of_ble_eq_true rfl) dX9_lookAt_55 (fun H locs w390 e391 h => ?_)
          have f392 : w390 64 = .inr (7, [.ref (ad 65), .ref (ad 66), .ref (ad 67), .ref (ad 68), .long x, .long y, .ref (ad 69), .int mb, .ref (ad 70), .ref (ad 71), .int bl, .int C6, .int 0, .int 0, .int 0, .ref (ad 72), .ref (ad 73)]) := (congrFun e391 _).trans (va_up_self _ _ _)
          have ok393 : OK cI cB cZ cO ad w390 := OK.up ok388 e391 (sM_mk (by omega) (by omega))
          have kx394 : F6 w w390 := F6.up kx389 e391
          refine lv_aload_n hx hb dX9_lookAt_58 rfl (lv_at hl 0 rfl) ?_
          refine r_get kc9 X h 64 11 (by decide) rfl f392 (by decide) kv_663 rfl dX9_lookAt_59 ?_
          refine lv_aload_n hx hb dX9_lookAt_62 rfl (lv_at hl 0 rfl) ?_
          refine r_get kc9 X h 64 10 (by decide) rfl f392 (by decide) kv_539 rfl dX9_lookAt_63 ?_
          refine lv_icmp_ne (tgt := 70) hx hb dX9_lookAt_66 (by decide) (fun hc395 => ?_) (fun hc395 => ?_)
          · have hc395 : ¬ (C6).toInt = (bl).toInt := i_ne hc395 rfl rfl
            refine lv_aload_n hx hb dX9_lookAt_70 rfl (lv_at hl 0 rfl) ?_
            refine r_get kc9 X h 64 9 (by decide) rfl f392 (by decide) kv_667 rfl dX9_lookAt_71 ?_
            refine lv_aload_n hx hb dX9_lookAt_74 rfl (lv_at hl 0 rfl) ?_
            refine r_get kc9 X h 64 11 (by decide) rfl f392 (by decide) kv_663 rfl dX9_lookAt_75 ?_
            have f396 : w380 71 = .inl (cI, 150, .inl bs) := by rw [e381, va_up_ne _ _ (by decide)]; exact cf20
            have f397 : w385 71 = .inl (cI, 150, .inl bs) := by rw [e386, va_up_ne _ _ (by decide)]; exact f396
            have f398 : w390 71 = .inl (cI, 150, .inl bs) := by rw [e391, va_up_ne _ _ (by decide)]; exact f397
            refine o_iald (v := v376) X h 71 0 (by decide) rfl f398 rfl (in_of (by omega) (by omega)) e377 dX9_lookAt_78 ?_
            refine lv_istore_n (lv' := [(2, .int v376), (0, .ref (ad 64)), (1, .int n)]) hx hb dX9_lookAt_79 rfl hl (by decide) rfl (fun ls hl => ?_)
            refine lv_aload_n hx hb dX9_lookAt_80 rfl (lv_at hl 1 rfl) ?_
            refine lv_iload_n hx hb dX9_lookAt_81 rfl (lv_at hl 0 rfl) ?_
            refine n_Si (na := 1) (As := [.int v376]) (rest := [.ref (ad 64)]) X hD hN h (c_M_isSmall l G cI cB cZ cO ad w390   v376  ) ⟨kv_668, kv_669, kv_470, kv_670⟩ ⟨by decide, by decide, by decide⟩ ⟨Nat.le_of_ble_eq_true rfl, Nat.le_of_ble_eq_true rfl⟩ ⟨Nat.zero_le _, Nat.zero_le _⟩ rfl hl.1 rfl (Nat.le_of_ble_eq_true rfl) dX9_lookAt_82 (fun r399 w400 H locs hp401 h => ?_)
            obtain ⟨rfl, hr402⟩ := hp401
            rcases hr402 with ⟨hq403, hq404, rfl⟩ | ⟨hq405, rfl⟩
            · refine lv_if_eq (tgt := 92) hx hb dX9_lookAt_85 (by decide) (fun hc => absurd hc (by decide)) (fun _ => ?_)
              refine lv_iconst (v := 1) hx hb dX9_lookAt_88 (by decide) ?_
              refine lv_goto (tgt := 114) hx hb dX9_lookAt_89 (by decide) ?_
              refine r_put kc9 X hD h 64 13 (by decide) rfl f392 (by decide) kv_665 rfl rfl rfl (Nat.le_of_ble_eq_true rfl) dX9_lookAt_114 (fun H locs w406 e407 h => ?_)
              have f408 : w406 64 = .inr (7, [.ref (ad 65), .ref (ad 66), .ref (ad 67), .ref (ad 68), .long x, .long y, .ref (ad 69), .int mb, .ref (ad 70), .ref (ad 71), .int bl, .int C6, .int 0, .int 1, .int 0, .ref (ad 72), .ref (ad 73)]) := (congrFun e407 _).trans (va_up_self _ _ _)
              have ok409 : OK cI cB cZ cO ad w406 := OK.up ok393 e407 (sM_mk (by omega) (by omega))
              have kx410 : F6 w w406 := F6.up kx394 e407
              refine lv_aload_n hx hb dX9_lookAt_117 rfl (lv_at hl 1 rfl) ?_
              refine lv_iconst (v := 1) hx hb dX9_lookAt_118 (by decide) ?_
              refine r_put kc9 X hD h 64 12 (by decide) rfl f408 (by decide) kv_664 rfl rfl rfl (Nat.le_of_ble_eq_true rfl) dX9_lookAt_119 (fun H locs w411 e412 h => ?_)
              have f413 : w411 64 = .inr (7, [.ref (ad 65), .ref (ad 66), .ref (ad 67), .ref (ad 68), .long x, .long y, .ref (ad 69), .int mb, .ref (ad 70), .ref (ad 71), .int bl, .int C6, .int 1, .int 1, .int 0, .ref (ad 72), .ref (ad 73)]) := (congrFun e412 _).trans (va_up_self _ _ _)
              have ok414 : OK cI cB cZ cO ad w411 := OK.up ok409 e412 (sM_mk (by omega) (by omega))
              have kx415 : F6 w w411 := F6.up kx410 e412
              refine lv_aload_n hx hb dX9_lookAt_122 rfl (lv_at hl 1 rfl) ?_
              refine r_get kc9 X h 64 13 (by decide) rfl f413 (by decide) kv_665 rfl dX9_lookAt_123 ?_
              refine lv_iconst (v := 3) hx hb dX9_lookAt_126 (by decide) ?_
              refine lv_icmp_ge (tgt := 134) hx hb dX9_lookAt_127 (by decide) (fun hc => absurd hc (by decide)) (fun _ => ?_)
              refine lv_iconst (v := 1) hx hb dX9_lookAt_130 (by decide) ?_
              refine lv_goto (tgt := 135) hx hb dX9_lookAt_131 (by decide) ?_
              refine lv_istore_n (lv' := [(3, .int 1), (2, .int v376), (0, .ref (ad 64)), (1, .int n)]) hx hb dX9_lookAt_135 rfl hl (by decide) rfl (fun ls hl => ?_)
              have hloop419 : ∀ (d420 : Nat) (L416 : Int32) (C417 : Int32) (wL418 : Nat → va_E) (H : Heap) (locs : List Loc) (ls : Array Slot), 0 ≤ L416.toInt → L416.toInt ≤ 1 → 1 ≤ C417.toInt → C417.toInt ≤ 150 → C6.toInt + C417.toInt ≤ bl.toInt → (runI ltB bs C6.toInt (C6.toInt + C417.toInt)) → (L416.toInt = 0 → C6.toInt + C417.toInt < bl.toInt ∧ ¬ (97 ≤ (bs (C6.toNatClampNeg + C417.toNatClampNeg)).toInt ∧ (bs (C6.toNatClampNeg + C417.toNatClampNeg)).toInt ≤ 122)) → OK cI cB cZ cO ad wL418 → F6 w wL418 → wL418 64 = .inr (7, [.ref (ad 65), .ref (ad 66), .ref (ad 67), .ref (ad 68), .long x, .long y, .ref (ad 69), .int mb, .ref (ad 70), .ref (ad 71), .int bl, .int C6, .int C417, .int 1, .int 0, .ref (ad 72), .ref (ad 73)]) → wL418 71 = .inl (cI, 150, .inl bs) → bl.toInt - C6.toInt - C417.toInt + L416.toInt < (d420 : Int) → St G 74 ad (wA 74 ad s.heap.size) s.heap wL418 H locs → lv_has ls 5 [(3, .int L416), (2, .int v376), (0, .ref (ad 64)), (1, .int n)] → W p l e { frames := 2, cells := 0, slots := 0, locals := 45 } s m [.ref (ad 64), .int n].toArray below meth c H locs 0 0 (MQ below (va_Qv (fun w1 => OK cI cB cZ cO ad w1 ∧ F6 w w1 ∧ ∃ ta1 tl1 tk1 va1 : Int32, w1 64 = .inr (7, [.ref (ad 65), .ref (ad 66), .ref (ad 67), .ref (ad 68), .long x, .long y, .ref (ad 69), .int mb, .ref (ad 70), .ref (ad 71), .int bl, .int ta1, .int tl1, .int tk1, .int va1, .ref (ad 72), .ref (ad 73)]) ∧ n.toInt ≤ ta1.toInt ∧ 0 ≤ tl1.toInt ∧ ta1.toInt + tl1.toInt ≤ bl.toInt ∧ (tk1.toInt = 0 ∨ 1 ≤ tl1.toInt) ∧ LOOKP bs bl n ta1 tl1 tk1 va1) (Aft G 74 ad) (wA 74 ad s.heap.size)) [.ref (ad 64), .int n].toArray s 0 0 (wA 74 ad s.heap.size)) (F0 m 136 ls []) := by
                intro d420
                induction d420 with
                | zero => intro L416 C417 wL418 H locs ls hi423 hi424 hi425 hi426 hi427 hi428 hi429 ok430 kx431 cf432 cf433 hm422 h hl; exfalso; omega
                | succ d420 ih421 =>
                  intro L416 C417 wL418 H locs ls hi423 hi424 hi425 hi426 hi427 hi428 hi429 ok430 kx431 cf432 cf433 hm422 h hl
                  refine lv_iload_n hx hb dX9_lookAt_136 rfl (lv_at hl 0 rfl) ?_
                  refine lv_if_eq (tgt := 215) hx hb dX9_lookAt_137 (by decide) (fun hc434 => ?_) (fun hc434 => ?_)
                  · have hc434 : (L416).toInt = 0 := i_eq hc434 rfl rfl
                    refine lv_iconst (v := 0) hx hb dX9_lookAt_215 (by decide) ?_
                    refine lv_istore (lv' := [(4, .int 0), (3, .int L416), (2, .int v376), (0, .ref (ad 64)), (1, .int n)]) hx hb dX9_lookAt_216 hl (by decide) rfl (fun ls hl => ?_)
                    refine lv_iload hx hb dX9_lookAt_218 (lv_at hl 0 rfl) ?_
                    refine lv_aload_n hx hb dX9_lookAt_220 rfl (lv_at hl 3 rfl) ?_
                    refine r_get kc9 X h 64 12 (by decide) rfl cf432 (by decide) kv_664 rfl dX9_lookAt_221 ?_
                    refine lv_icmp_ge (tgt := 274) hx hb dX9_lookAt_224 (by decide) (fun hc435 => ?_) (fun hc435 => ?_)
                    · have hc435 : (C417).toInt ≤ 0 := i_le hc435 rfl rfl
                      exfalso; omega
                    · have hc435 : ¬ (C417).toInt ≤ 0 := i_nle hc435 rfl rfl
                      refine lv_iload hx hb dX9_lookAt_227 (lv_at hl 0 rfl) ?_
                      refine lv_iconst (v := 2) hx hb dX9_lookAt_229 (by decide) ?_
                      refine lv_icmp_ge (tgt := 274) hx hb dX9_lookAt_230 (by decide) (fun hc => absurd hc (by decide)) (fun _ => ?_)
                      refine lv_aload_n hx hb dX9_lookAt_233 rfl (lv_at hl 3 rfl) ?_
                      refine r_get kc9 X h 64 13 (by decide) rfl cf432 (by decide) kv_665 rfl dX9_lookAt_234 ?_
                      refine lv_iconst (v := 2) hx hb dX9_lookAt_237 (by decide) ?_
                      refine lv_icmp_ne (tgt := 274) hx hb dX9_lookAt_238 (by decide) (fun _ => ?_) (fun hc => absurd hc (by decide))
                      refine lv_aload_n hx hb dX9_lookAt_274 rfl (lv_at hl 3 rfl) ?_
                      refine lv_aload_n hx hb dX9_lookAt_275 rfl (lv_at hl 3 rfl) ?_
                      refine r_get kc9 X h 64 13 (by decide) rfl cf432 (by decide) kv_665 rfl dX9_lookAt_276 ?_
                      refine lv_iconst (v := 2) hx hb dX9_lookAt_279 (by decide) ?_
                      refine lv_icmp_ne (tgt := 295) hx hb dX9_lookAt_280 (by decide) (fun _ => ?_) (fun hc => absurd hc (by decide))
                      refine lv_aload_n hx hb dX9_lookAt_295 rfl (lv_at hl 3 rfl) ?_
                      refine r_get kc9 X h 64 13 (by decide) rfl cf432 (by decide) kv_665 rfl dX9_lookAt_296 ?_
                      refine r_put kc9 X hD h 64 13 (by decide) rfl cf432 (by decide) kv_665 rfl rfl rfl (Nat.le_of_ble_eq_true rfl) dX9_lookAt_299 (fun H locs w436 e437 h => ?_)
                      have f438 : w436 64 = .inr (7, [.ref (ad 65), .ref (ad 66), .ref (ad 67), .ref (ad 68), .long x, .long y, .ref (ad 69), .int mb, .ref (ad 70), .ref (ad 71), .int bl, .int C6, .int C417, .int 1, .int 0, .ref (ad 72), .ref (ad 73)]) := (congrFun e437 _).trans (va_up_self _ _ _)
                      have ok439 : OK cI cB cZ cO ad w436 := OK.up ok430 e437 (sM_mk (by omega) (by omega))
                      have kx440 : F6 w w436 := F6.up kx431 e437
                      have hlk441 : LOOKP bs bl n C6 C417 (1 : Int32) (0 : Int32) := by
                        have kc1 : (1 : Int32).toInt = 1 := rfl
                        have kc0 : (0 : Int32).toInt = 0 := rfl
                        obtain ⟨e9, e9e, e9t⟩ := x_add (x := C6) (y := C417) (a := C6.toInt) (b := C417.toInt) rfl rfl (by omega) (by omega)
                        have e9n : e9.toNatClampNeg = C6.toNatClampNeg + C417.toNatClampNeg := cl_addn rfl rfl e9t (by omega) (by omega)
                        have hE : e9.toInt = bl.toInt ∨ ∃ u : Int32, bs e9.toNatClampNeg = u ∧ ¬ (97 ≤ u.toInt ∧ u.toInt ≤ 122) := by
                          by_cases q9 : L416.toInt = 0
                          · right; exact ⟨_, rfl, by rw [e9n]; exact (hi429 q9).2⟩
                          · left; omega
                        rcases hE with hE | ⟨u9, hE, hE2⟩
                        · exact LOOKP.of e9t (tok1 (u := 0) (by omega) (by omega) (by omega) (by omega) hi16 e377 ⟨by omega, by omega⟩ (by omega) (by omega) (hi428.b (by omega)) (Or.inl hE) (by omega))
                        · exact LOOKP.of e9t (tok1 (u := u9) (by omega) (by omega) (by omega) (by omega) hi16 e377 ⟨by omega, by omega⟩ (by omega) (by omega) (hi428.b (by omega)) (Or.inr ⟨hE, hE2⟩) (by omega))
                      exact e_v X h hr hlk dX9_lookAt_302 ⟨ok439, kx440, ⟨_, _, _, _, f438, by omega, by omega, by omega, by omega, hlk441⟩⟩
                  · have hc434 : ¬ (L416).toInt = 0 := i_ne hc434 rfl rfl
                    refine lv_aload_n hx hb dX9_lookAt_140 rfl (lv_at hl 2 rfl) ?_
                    refine r_get kc9 X h 64 11 (by decide) rfl cf432 (by decide) kv_663 rfl dX9_lookAt_141 ?_
                    refine lv_aload_n hx hb dX9_lookAt_144 rfl (lv_at hl 2 rfl) ?_
                    refine r_get kc9 X h 64 12 (by decide) rfl cf432 (by decide) kv_664 rfl dX9_lookAt_145 ?_
                    obtain ⟨z444, e442, t443⟩ := x_add (x := C6) (y := C417) (a := (C6).toInt) (b := (C417).toInt) rfl rfl (by omega) (by omega)
                    have n445 : z444.toNatClampNeg = C6.toNatClampNeg + C417.toNatClampNeg := cl_addn (x := C6) (y := C417) rfl rfl t443 (by omega) (by omega)
                    refine o_iadd (z := z444) hx hb dX9_lookAt_148 e442 ?_
                    refine lv_aload_n hx hb dX9_lookAt_149 rfl (lv_at hl 2 rfl) ?_
                    refine r_get kc9 X h 64 10 (by decide) rfl cf432 (by decide) kv_539 rfl dX9_lookAt_150 ?_
                    refine lv_icmp_ge (tgt := 215) hx hb dX9_lookAt_153 (by decide) (fun hc446 => ?_) (fun hc446 => ?_)
                    · have hc446 : (bl).toInt ≤ (z444).toInt := i_le hc446 rfl rfl
                      refine lv_iconst (v := 0) hx hb dX9_lookAt_215 (by decide) ?_
                      refine lv_istore (lv' := [(4, .int 0), (3, .int L416), (2, .int v376), (0, .ref (ad 64)), (1, .int n)]) hx hb dX9_lookAt_216 hl (by decide) rfl (fun ls hl => ?_)
                      refine lv_iload hx hb dX9_lookAt_218 (lv_at hl 0 rfl) ?_
                      refine lv_aload_n hx hb dX9_lookAt_220 rfl (lv_at hl 3 rfl) ?_
                      refine r_get kc9 X h 64 12 (by decide) rfl cf432 (by decide) kv_664 rfl dX9_lookAt_221 ?_
                      refine lv_icmp_ge (tgt := 274) hx hb dX9_lookAt_224 (by decide) (fun hc447 => ?_) (fun hc447 => ?_)
                      · have hc447 : (C417).toInt ≤ 0 := i_le hc447 rfl rfl
                        exfalso; omega
                      · have hc447 : ¬ (C417).toInt ≤ 0 := i_nle hc447 rfl rfl
                        refine lv_iload hx hb dX9_lookAt_227 (lv_at hl 0 rfl) ?_
                        refine lv_iconst (v := 2) hx hb dX9_lookAt_229 (by decide) ?_
                        refine lv_icmp_ge (tgt := 274) hx hb dX9_lookAt_230 (by decide) (fun hc => absurd hc (by decide)) (fun _ => ?_)
                        refine lv_aload_n hx hb dX9_lookAt_233 rfl (lv_at hl 3 rfl) ?_
                        refine r_get kc9 X h 64 13 (by decide) rfl cf432 (by decide) kv_665 rfl dX9_lookAt_234 ?_
                        refine lv_iconst (v := 2) hx hb dX9_lookAt_237 (by decide) ?_
                        refine lv_icmp_ne (tgt := 274) hx hb dX9_lookAt_238 (by decide) (fun _ => ?_) (fun hc => absurd hc (by decide))
                        refine lv_aload_n hx hb dX9_lookAt_274 rfl (lv_at hl 3 rfl) ?_
                        refine lv_aload_n hx hb dX9_lookAt_275 rfl (lv_at hl 3 rfl) ?_
                        refine r_get kc9 X h 64 13 (by decide) rfl cf432 (by decide) kv_665 rfl dX9_lookAt_276 ?_
                        refine lv_iconst (v := 2) hx hb dX9_lookAt_279 (by decide) ?_
                        refine lv_icmp_ne (tgt := 295) hx hb dX9_lookAt_280 (by decide) (fun _ => ?_) (fun hc => absurd hc (by decide))
                        refine lv_aload_n hx hb dX9_lookAt_295 rfl (lv_at hl 3 rfl) ?_
                        refine r_get kc9 X h 64 13 (by decide) rfl cf432 (by decide) kv_665 rfl dX9_lookAt_296 ?_
                        refine r_put kc9 X hD h 64 13 (by decide) rfl cf432 (by decide) kv_665 rfl rfl rfl (Nat.le_of_ble_eq_true rfl) dX9_lookAt_299 (fun H locs w448 e449 h => ?_)
                        have f450 : w448 64 = .inr (7, [.ref (ad 65), .ref (ad 66), .ref (ad 67), .ref (ad 68), .long x, .long y, .ref (ad 69), .int mb, .ref (ad 70), .ref (ad 71), .int bl, .int C6, .int C417, .int 1, .int 0, .ref (ad 72), .ref (ad 73)]) := (congrFun e449 _).trans (va_up_self _ _ _)
                        have ok451 : OK cI cB cZ cO ad w448 := OK.up ok430 e449 (sM_mk (by omega) (by omega))
                        have kx452 : F6 w w448 := F6.up kx431 e449
                        have hlk453 : LOOKP bs bl n C6 C417 (1 : Int32) (0 : Int32) := by
                          have kc1 : (1 : Int32).toInt = 1 := rfl
                          have kc0 : (0 : Int32).toInt = 0 := rfl
                          obtain ⟨e9, e9e, e9t⟩ := x_add (x := C6) (y := C417) (a := C6.toInt) (b := C417.toInt) rfl rfl (by omega) (by omega)
                          have e9n : e9.toNatClampNeg = C6.toNatClampNeg + C417.toNatClampNeg := cl_addn rfl rfl e9t (by omega) (by omega)
                          have hE : e9.toInt = bl.toInt ∨ ∃ u : Int32, bs e9.toNatClampNeg = u ∧ ¬ (97 ≤ u.toInt ∧ u.toInt ≤ 122) := by
                            by_cases q9 : L416.toInt = 0
                            · right; exact ⟨_, rfl, by rw [e9n]; exact (hi429 q9).2⟩
                            · left; omega
                          rcases hE with hE | ⟨u9, hE, hE2⟩
                          · exact LOOKP.of e9t (tok1 (u := 0) (by omega) (by omega) (by omega) (by omega) hi16 e377 ⟨by omega, by omega⟩ (by omega) (by omega) (hi428.b (by omega)) (Or.inl hE) (by omega))
                          · exact LOOKP.of e9t (tok1 (u := u9) (by omega) (by omega) (by omega) (by omega) hi16 e377 ⟨by omega, by omega⟩ (by omega) (by omega) (hi428.b (by omega)) (Or.inr ⟨hE, hE2⟩) (by omega))
                        exact e_v X h hr hlk dX9_lookAt_302 ⟨ok451, kx452, ⟨_, _, _, _, f450, by omega, by omega, by omega, by omega, hlk453⟩⟩
                    · have hc446 : ¬ (bl).toInt ≤ (z444).toInt := i_nle hc446 rfl rfl
                      refine lv_aload_n hx hb dX9_lookAt_156 rfl (lv_at hl 2 rfl) ?_
                      refine r_get kc9 X h 64 9 (by decide) rfl cf432 (by decide) kv_667 rfl dX9_lookAt_157 ?_
                      refine lv_aload_n hx hb dX9_lookAt_160 rfl (lv_at hl 2 rfl) ?_
                      refine r_get kc9 X h 64 11 (by decide) rfl cf432 (by decide) kv_663 rfl dX9_lookAt_161 ?_
                      refine lv_aload_n hx hb dX9_lookAt_164 rfl (lv_at hl 2 rfl) ?_
                      refine r_get kc9 X h 64 12 (by decide) rfl cf432 (by decide) kv_664 rfl dX9_lookAt_165 ?_
                      obtain ⟨z456, e454, t455⟩ := x_add (x := C6) (y := C417) (a := (C6).toInt) (b := (C417).toInt) rfl rfl (by omega) (by omega)
                      have n457 : z456.toNatClampNeg = C6.toNatClampNeg + C417.toNatClampNeg := cl_addn (x := C6) (y := C417) rfl rfl t455 (by omega) (by omega)
                      refine o_iadd (z := z456) hx hb dX9_lookAt_168 e454 ?_
                      obtain ⟨v458, e459⟩ : ∃ z : Int32, bs (C6.toNatClampNeg + C417.toNatClampNeg) = z := ⟨_, rfl⟩
                      refine o_iald (v := v458) X h 71 0 (by decide) rfl cf433 rfl (in_of (by omega) (by omega)) (by rw [n457]; exact e459) dX9_lookAt_169 ?_
                      refine lv_istore (lv' := [(4, .int v458), (3, .int L416), (2, .int v376), (0, .ref (ad 64)), (1, .int n)]) hx hb dX9_lookAt_170 hl (by decide) rfl (fun ls hl => ?_)
                      refine lv_aload_n hx hb dX9_lookAt_172 rfl (lv_at hl 3 rfl) ?_
                      refine r_get kc9 X h 64 13 (by decide) rfl cf432 (by decide) kv_665 rfl dX9_lookAt_173 ?_
                      refine lv_iconst (v := 1) hx hb dX9_lookAt_176 (by decide) ?_
                      refine lv_icmp_ne (tgt := 188) hx hb dX9_lookAt_177 (by decide) (fun hc => absurd (by decide) hc) (fun _ => ?_)
                      refine lv_iload hx hb dX9_lookAt_180 (lv_at hl 0 rfl) ?_
                      refine n_Si (na := 1) (As := [.int v458]) (rest := []) X hD hN h (c_M_isSmall l G cI cB cZ cO ad wL418   v458  ) ⟨kv_668, kv_669, kv_470, kv_670⟩ ⟨by decide, by decide, by decide⟩ ⟨Nat.le_of_ble_eq_true rfl, Nat.le_of_ble_eq_true rfl⟩ ⟨Nat.zero_le _, Nat.zero_le _⟩ rfl hl.1 rfl (Nat.le_of_ble_eq_true rfl) dX9_lookAt_182 (fun r461 w462 H locs hp463 h => ?_)
                      obtain ⟨rfl, hr464⟩ := hp463
                      rcases hr464 with ⟨hq465, hq466, rfl⟩ | ⟨hq467, rfl⟩
                      · refine lv_goto (tgt := 193) hx hb dX9_lookAt_185 (by decide) ?_
                        refine lv_istore_n (lv' := [(3, .int 1), (4, .int v458), (2, .int v376), (0, .ref (ad 64)), (1, .int n)]) hx hb dX9_lookAt_193 rfl hl (by decide) rfl (fun ls hl => ?_)
                        refine lv_aload_n hx hb dX9_lookAt_194 rfl (lv_at hl 3 rfl) ?_
                        refine lv_dup hx hb dX9_lookAt_195 rfl ?_
                        refine r_get kc9 X h 64 12 (by decide) rfl cf432 (by decide) kv_664 rfl dX9_lookAt_196 ?_
                        refine lv_iload_n hx hb dX9_lookAt_199 rfl (lv_at hl 0 rfl) ?_
                        refine lv_if_eq (tgt := 207) hx hb dX9_lookAt_200 (by decide) (fun hc => absurd hc (by decide)) (fun _ => ?_)
                        refine lv_iconst (v := 1) hx hb dX9_lookAt_203 (by decide) ?_
                        refine lv_goto (tgt := 208) hx hb dX9_lookAt_204 (by decide) ?_
                        obtain ⟨z470, e468, t469⟩ := x_add (x := C417) (y := (1 : Int32)) (a := (C417).toInt) (b := 1) rfl rfl (by omega) (by omega)
                        have n471 : z470.toNatClampNeg = C417.toNatClampNeg + 1 := cl_addn (x := C417) (y := (1 : Int32)) rfl rfl t469 (by omega) (by decide)
                        refine o_iadd (z := z470) hx hb dX9_lookAt_208 e468 ?_
                        refine r_put kc9 X hD h 64 12 (by decide) rfl cf432 (by decide) kv_664 rfl rfl rfl (Nat.le_of_ble_eq_true rfl) dX9_lookAt_209 (fun H locs w472 e473 h => ?_)
                        have f474 : w472 64 = .inr (7, [.ref (ad 65), .ref (ad 66), .ref (ad 67), .ref (ad 68), .long x, .long y, .ref (ad 69), .int mb, .ref (ad 70), .ref (ad 71), .int bl, .int C6, .int z470, .int 1, .int 0, .ref (ad 72), .ref (ad 73)]) := (congrFun e473 _).trans (va_up_self _ _ _)
                        have ok475 : OK cI cB cZ cO ad w472 := OK.up ok430 e473 (sM_mk (by omega) (by omega))
                        have kx476 : F6 w w472 := F6.up kx431 e473
                        refine lv_goto (tgt := 136) hx hb dX9_lookAt_212 (by decide) ?_
                        have f477 : w472 71 = .inl (cI, 150, .inl bs) := by rw [e473, va_up_ne _ _ (by decide)]; exact cf433
                        exact ih421  (1 : Int32) z470 w472 _ _ _ (by have q0 : (1 : Int32).toInt = 1 := rfl; omega) (by have q0 : (1 : Int32).toInt = 1 := rfl; omega) (by have q0 : (1 : Int32).toInt = 1 := rfl; omega) (by have q0 : (1 : Int32).toInt = 1 := rfl; omega) (by have q0 : (1 : Int32).toInt = 1 := rfl; omega) (runI.succ (n := C6.toNatClampNeg + C417.toNatClampNeg) hi428 (by omega) (by have := cl_of (x := C6) (by omega); have := cl_of (x := C417) (by omega); omega) e459 (lt_t (by omega) (by omega))) (fun h9 => by have q0 : (1 : Int32).toInt = 1 := rfl; omega) ok475 kx476 f474 f477 (by have q0 : (1 : Int32).toInt = 1 := rfl; omega) h (lv_sub hl [0, 2, 3, 4] rfl)
                      · refine lv_goto (tgt := 193) hx hb dX9_lookAt_185 (by decide) ?_
                        refine lv_istore_n (lv' := [(3, .int 0), (4, .int v458), (2, .int v376), (0, .ref (ad 64)), (1, .int n)]) hx hb dX9_lookAt_193 rfl hl (by decide) rfl (fun ls hl => ?_)
                        refine lv_aload_n hx hb dX9_lookAt_194 rfl (lv_at hl 3 rfl) ?_
                        refine lv_dup hx hb dX9_lookAt_195 rfl ?_
                        refine r_get kc9 X h 64 12 (by decide) rfl cf432 (by decide) kv_664 rfl dX9_lookAt_196 ?_
                        refine lv_iload_n hx hb dX9_lookAt_199 rfl (lv_at hl 0 rfl) ?_
                        refine lv_if_eq (tgt := 207) hx hb dX9_lookAt_200 (by decide) (fun _ => ?_) (fun hc => absurd (by decide) hc)
                        refine lv_iconst (v := 0) hx hb dX9_lookAt_207 (by decide) ?_
                        obtain ⟨z480, e478, t479⟩ := x_add (x := C417) (y := (0 : Int32)) (a := (C417).toInt) (b := 0) rfl rfl (by omega) (by omega)
                        have n481 : z480.toNatClampNeg = C417.toNatClampNeg + 0 := cl_addn (x := C417) (y := (0 : Int32)) rfl rfl t479 (by omega) (by decide)
                        have n481 : z480.toNatClampNeg = C417.toNatClampNeg := n481
                        refine o_iadd (z := z480) hx hb dX9_lookAt_208 e478 ?_
                        refine r_put kc9 X hD h 64 12 (by decide) rfl cf432 (by decide) kv_664 rfl rfl rfl (Nat.le_of_ble_eq_true rfl) dX9_lookAt_209 (fun H locs w482 e483 h => ?_)
                        have f484 : w482 64 = .inr (7, [.ref (ad 65), .ref (ad 66), .ref (ad 67), .ref (ad 68), .long x, .long y, .ref (ad 69), .int mb, .ref (ad 70), .ref (ad 71), .int bl, .int C6, .int z480, .int 1, .int 0, .ref (ad 72), .ref (ad 73)]) := (congrFun e483 _).trans (va_up_self _ _ _)
                        have ok485 : OK cI cB cZ cO ad w482 := OK.up ok430 e483 (sM_mk (by omega) (by omega))
                        have kx486 : F6 w w482 := F6.up kx431 e483
                        refine lv_goto (tgt := 136) hx hb dX9_lookAt_212 (by decide) ?_
                        have hs487 : z480.toNatClampNeg = C417.toNatClampNeg := clq (by have q0 : (0 : Int32).toInt = 0 := rfl; omega)
                        have f488 : w482 71 = .inl (cI, 150, .inl bs) := by rw [e483, va_up_ne _ _ (by decide)]; exact cf433
                        exact ih421  (0 : Int32) z480 w482 _ _ _ (by have q0 : (0 : Int32).toInt = 0 := rfl; omega) (by have q0 : (0 : Int32).toInt = 0 := rfl; omega) (by have q0 : (0 : Int32).toInt = 0 := rfl; omega) (by have q0 : (0 : Int32).toInt = 0 := rfl; omega) (by have q0 : (0 : Int32).toInt = 0 := rfl; omega) (fun j p9 q9 => hi428 j p9 (by have q0 : (0 : Int32).toInt = 0 := rfl; omega)) (fun h9 => ⟨by have q0 : (0 : Int32).toInt = 0 := rfl; omega, by rw [hs487, e459]; omega⟩) ok485 kx486 f484 f488 (by have q0 : (0 : Int32).toInt = 0 := rfl; omega) h (lv_sub hl [0, 2, 3, 4] rfl)
              have f489 : w406 71 = .inl (cI, 150, .inl bs) := by rw [e407, va_up_ne _ _ (by decide)]; exact f398
              have f490 : w411 71 = .inl (cI, 150, .inl bs) := by rw [e412, va_up_ne _ _ (by decide)]; exact f489
              exact hloop419 152 (1 : Int32) (1 : Int32) w411 _ _ _ (by have q0 : (1 : Int32).toInt = 1 := rfl; omega) (by have q0 : (1 : Int32).toInt = 1 := rfl; omega) (by have q0 : (1 : Int32).toInt = 1 := rfl; omega) (by have q0 : (1 : Int32).toInt = 1 := rfl; omega) (by have q0 : (1 : Int32).toInt = 1 := rfl; omega) (runI.one (by omega) (by have q0 : (1 : Int32).toInt = 1 := rfl; omega) e377 (lt_t (by omega) (by omega))) (fun h9 => by have q0 : (1 : Int32).toInt = 1 := rfl; omega) ok414 kx415 f413 f490 (by have q0 : (1 : Int32).toInt = 1 := rfl; omega) h (lv_sub hl [0, 1, 2, 3] rfl)
            · refine lv_if_eq (tgt := 92) hx hb dX9_lookAt_85 (by decide) (fun _ => ?_) (fun hc => absurd (by decide) hc)
              refine lv_iload_n hx hb dX9_lookAt_92 rfl (lv_at hl 0 rfl) ?_
              refine n_Si (na := 1) (As := [.int v376]) (rest := [.ref (ad 64)]) X hD hN h (c_M_isFigure l G cI cB cZ cO ad w390   v376  ) ⟨kv_671, kv_672, kv_470, kv_673⟩ ⟨by decide, by decide, by decide⟩ ⟨Nat.le_of_ble_eq_true rfl, Nat.le_of_ble_eq_true rfl⟩ ⟨Nat.zero_le _, Nat.zero_le _⟩ rfl hl.1 rfl (Nat.le_of_ble_eq_true rfl) dX9_lookAt_93 (fun r491 w492 H locs hp493 h => ?_)
              obtain ⟨rfl, hr494⟩ := hp493
              rcases hr494 with ⟨hq495, hq496, rfl⟩ | ⟨hq497, rfl⟩
              · refine lv_if_eq (tgt := 103) hx hb dX9_lookAt_96 (by decide) (fun hc => absurd hc (by decide)) (fun _ => ?_)
                refine lv_iconst (v := 2) hx hb dX9_lookAt_99 (by decide) ?_
                refine lv_goto (tgt := 114) hx hb dX9_lookAt_100 (by decide) ?_
                refine r_put kc9 X hD h 64 13 (by decide) rfl f392 (by decide) kv_665 rfl rfl rfl (Nat.le_of_ble_eq_true rfl) dX9_lookAt_114 (fun H locs w498 e499 h => ?_)
                have f500 : w498 64 = .inr (7, [.ref (ad 65), .ref (ad 66), .ref (ad 67), .ref (ad 68), .long x, .long y, .ref (ad 69), .int mb, .ref (ad 70), .ref (ad 71), .int bl, .int C6, .int 0, .int 2, .int 0, .ref (ad 72), .ref (ad 73)]) := (congrFun e499 _).trans (va_up_self _ _ _)
                have ok501 : OK cI cB cZ cO ad w498 := OK.up ok393 e499 (sM_mk (by omega) (by omega))
                have kx502 : F6 w w498 := F6.up kx394 e499
                refine lv_aload_n hx hb dX9_lookAt_117 rfl (lv_at hl 1 rfl) ?_
                refine lv_iconst (v := 1) hx hb dX9_lookAt_118 (by decide) ?_
                refine r_put kc9 X hD h 64 12 (by decide) rfl f500 (by decide) kv_664 rfl rfl rfl (Nat.le_of_ble_eq_true rfl) dX9_lookAt_119 (fun H locs w503 e504 h => ?_)
                have f505 : w503 64 = .inr (7, [.ref (ad 65), .ref (ad 66), .ref (ad 67), .ref (ad 68), .long x, .long y, .ref (ad 69), .int mb, .ref (ad 70), .ref (ad 71), .int bl, .int C6, .int 1, .int 2, .int 0, .ref (ad 72), .ref (ad 73)]) := (congrFun e504 _).trans (va_up_self _ _ _)
                have ok506 : OK cI cB cZ cO ad w503 := OK.up ok501 e504 (sM_mk (by omega) (by omega))
                have kx507 : F6 w w503 := F6.up kx502 e504
                refine lv_aload_n hx hb dX9_lookAt_122 rfl (lv_at hl 1 rfl) ?_
                refine r_get kc9 X h 64 13 (by decide) rfl f505 (by decide) kv_665 rfl dX9_lookAt_123 ?_
                refine lv_iconst (v := 3) hx hb dX9_lookAt_126 (by decide) ?_
                refine lv_icmp_ge (tgt := 134) hx hb dX9_lookAt_127 (by decide) (fun hc => absurd hc (by decide)) (fun _ => ?_)
                refine lv_iconst (v := 1) hx hb dX9_lookAt_130 (by decide) ?_
                refine lv_goto (tgt := 135) hx hb dX9_lookAt_131 (by decide) ?_
                refine lv_istore_n (lv' := [(3, .int 1), (2, .int v376), (0, .ref (ad 64)), (1, .int n)]) hx hb dX9_lookAt_135 rfl hl (by decide) rfl (fun ls hl => ?_)
                have hloop511 : ∀ (d512 : Nat) (L508 : Int32) (C509 : Int32) (wL510 : Nat → va_E) (H : Heap) (locs : List Loc) (ls : Array Slot), 0 ≤ L508.toInt → L508.toInt ≤ 1 → 1 ≤ C509.toInt → C509.toInt ≤ 150 → C6.toInt + C509.toInt ≤ bl.toInt → (runI dgB bs C6.toInt (C6.toInt + C509.toInt)) → (L508.toInt = 0 → C6.toInt + C509.toInt < bl.toInt ∧ ¬ (48 ≤ (bs (C6.toNatClampNeg + C509.toNatClampNeg)).toInt ∧ (bs (C6.toNatClampNeg + C509.toNatClampNeg)).toInt ≤ 57)) → OK cI cB cZ cO ad wL510 → F6 w wL510 → wL510 64 = .inr (7, [.ref (ad 65), .ref (ad 66), .ref (ad 67), .ref (ad 68), .long x, .long y, .ref (ad 69), .int mb, .ref (ad 70), .ref (ad 71), .int bl, .int C6, .int C509, .int 2, .int 0, .ref (ad 72), .ref (ad 73)]) → wL510 71 = .inl (cI, 150, .inl bs) → bl.toInt - C6.toInt - C509.toInt + L508.toInt < (d512 : Int) → St G 74 ad (wA 74 ad s.heap.size) s.heap wL510 H locs → lv_has ls 5 [(3, .int L508), (2, .int v376), (0, .ref (ad 64)), (1, .int n)] → W p l e { frames := 2, cells := 0, slots := 0, locals := 45 } s m [.ref (ad 64), .int n].toArray below meth c H locs 0 0 (MQ below (va_Qv (fun w1 => OK cI cB cZ cO ad w1 ∧ F6 w w1 ∧ ∃ ta1 tl1 tk1 va1 : Int32, w1 64 = .inr (7, [.ref (ad 65), .ref (ad 66), .ref (ad 67), .ref (ad 68), .long x, .long y, .ref (ad 69), .int mb, .ref (ad 70), .ref (ad 71), .int bl, .int ta1, .int tl1, .int tk1, .int va1, .ref (ad 72), .ref (ad 73)]) ∧ n.toInt ≤ ta1.toInt ∧ 0 ≤ tl1.toInt ∧ ta1.toInt + tl1.toInt ≤ bl.toInt ∧ (tk1.toInt = 0 ∨ 1 ≤ tl1.toInt) ∧ LOOKP bs bl n ta1 tl1 tk1 va1) (Aft G 74 ad) (wA 74 ad s.heap.size)) [.ref (ad 64), .int n].toArray s 0 0 (wA 74 ad s.heap.size)) (F0 m 136 ls []) := by
                  intro d512
                  induction d512 with
                  | zero => intro L508 C509 wL510 H locs ls hi515 hi516 hi517 hi518 hi519 hi520 hi521 ok522 kx523 cf524 cf525 hm514 h hl; exfalso; omega
                  | succ d512 ih513 =>
                    intro L508 C509 wL510 H locs ls hi515 hi516 hi517 hi518 hi519 hi520 hi521 ok522 kx523 cf524 cf525 hm514 h hl
                    refine lv_iload_n hx hb dX9_lookAt_136 rfl (lv_at hl 0 rfl) ?_
                    refine lv_if_eq (tgt := 215) hx hb dX9_lookAt_137 (by decide) (fun hc526 => ?_) (fun hc526 => ?_)
                    · have hc526 : (L508).toInt = 0 := i_eq hc526 rfl rfl
                      refine lv_iconst (v := 0) hx hb dX9_lookAt_215 (by decide) ?_
                      refine lv_istore (lv' := [(4, .int 0), (3, .int L508), (2, .int v376), (0, .ref (ad 64)), (1, .int n)]) hx hb dX9_lookAt_216 hl (by decide) rfl (fun ls hl => ?_)
                      refine lv_iload hx hb dX9_lookAt_218 (lv_at hl 0 rfl) ?_
                      refine lv_aload_n hx hb dX9_lookAt_220 rfl (lv_at hl 3 rfl) ?_
                      refine r_get kc9 X h 64 12 (by decide) rfl cf524 (by decide) kv_664 rfl dX9_lookAt_221 ?_
                      refine lv_icmp_ge (tgt := 274) hx hb dX9_lookAt_224 (by decide) (fun hc527 => ?_) (fun hc527 => ?_)
                      · have hc527 : (C509).toInt ≤ 0 := i_le hc527 rfl rfl
                        exfalso; omega
                      · have hc527 : ¬ (C509).toInt ≤ 0 := i_nle hc527 rfl rfl
                        refine lv_iload hx hb dX9_lookAt_227 (lv_at hl 0 rfl) ?_
                        refine lv_iconst (v := 2) hx hb dX9_lookAt_229 (by decide) ?_
                        refine lv_icmp_ge (tgt := 274) hx hb dX9_lookAt_230 (by decide) (fun hc => absurd hc (by decide)) (fun _ => ?_)
                        refine lv_aload_n hx hb dX9_lookAt_233 rfl (lv_at hl 3 rfl) ?_
                        refine r_get kc9 X h 64 13 (by decide) rfl cf524 (by decide) kv_665 rfl dX9_lookAt_234 ?_
                        refine lv_iconst (v := 2) hx hb dX9_lookAt_237 (by decide) ?_
                        refine lv_icmp_ne (tgt := 274) hx hb dX9_lookAt_238 (by decide) (fun hc => absurd (by decide) hc) (fun _ => ?_)
                        refine lv_aload_n hx hb dX9_lookAt_241 rfl (lv_at hl 3 rfl) ?_
                        refine lv_bipush (v := 10) hx hb dX9_lookAt_242 (by decide) ?_
                        refine lv_aload_n hx hb dX9_lookAt_244 rfl (lv_at hl 3 rfl) ?_
                        refine r_get kc9 X h 64 14 (by decide) rfl cf524 (by decide) kv_666 rfl dX9_lookAt_245 ?_
                        refine o_imul (z := 0) hx hb dX9_lookAt_248 rfl ?_
                        refine lv_aload_n hx hb dX9_lookAt_249 rfl (lv_at hl 3 rfl) ?_
                        refine r_get kc9 X h 64 9 (by decide) rfl cf524 (by decide) kv_667 rfl dX9_lookAt_250 ?_
                        refine lv_aload_n hx hb dX9_lookAt_253 rfl (lv_at hl 3 rfl) ?_
                        refine r_get kc9 X h 64 11 (by decide) rfl cf524 (by decide) kv_663 rfl dX9_lookAt_254 ?_
                        refine lv_iload hx hb dX9_lookAt_257 (lv_at hl 0 rfl) ?_
                        obtain ⟨z530, e528, t529⟩ := x_add (x := C6) (y := (0 : Int32)) (a := (C6).toInt) (b := 0) rfl rfl (by omega) (by omega)
                        have n531 : z530.toNatClampNeg = C6.toNatClampNeg + 0 := cl_addn (x := C6) (y := (0 : Int32)) rfl rfl t529 (by omega) (by decide)
                        have n531 : z530.toNatClampNeg = C6.toNatClampNeg := n531
                        refine o_iadd (z := z530) hx hb dX9_lookAt_259 e528 ?_
                        refine o_iald (v := v376) X h 71 0 (by decide) rfl cf525 rfl (in_of (by omega) (by omega)) (by rw [n531]; exact e377) dX9_lookAt_260 ?_
                        obtain ⟨z534, e532, t533⟩ := x_add (x := (0 : Int32)) (y := v376) (a := 0) (b := (v376).toInt) rfl rfl (by omega) (by omega)
                        have n535 : z534.toNatClampNeg = 0 + v376.toNatClampNeg := cl_addn (x := (0 : Int32)) (y := v376) rfl rfl t533 (by decide) (by omega)
                        refine o_iadd (z := z534) hx hb dX9_lookAt_261 e532 ?_
                        refine lv_bipush (v := 48) hx hb dX9_lookAt_262 (by decide) ?_
                        obtain ⟨z538, e536, t537⟩ := x_sub (x := z534) (y := (48 : Int32)) (a := (z534).toInt) (b := 48) rfl rfl (by omega) (by omega)
                        refine o_isub (z := z538) hx hb dX9_lookAt_264 e536 ?_
                        refine r_put kc9 X hD h 64 14 (by decide) rfl cf524 (by decide) kv_666 rfl rfl rfl (Nat.le_of_ble_eq_true rfl) dX9_lookAt_265 (fun H locs w539 e540 h => ?_)
                        have f541 : w539 64 = .inr (7, [.ref (ad 65), .ref (ad 66), .ref (ad 67), .ref (ad 68), .long x, .long y, .ref (ad 69), .int mb, .ref (ad 70), .ref (ad 71), .int bl, .int C6, .int C509, .int 2, .int z538, .ref (ad 72), .ref (ad 73)]) := (congrFun e540 _).trans (va_up_self _ _ _)
                        have ok542 : OK cI cB cZ cO ad w539 := OK.up ok522 e540 (sM_mk (by omega) (by omega))
                        have kx543 : F6 w w539 := F6.up kx523 e540
                        refine lv_iinc (v := 1) (lv' := [(4, .int 1), (3, .int L508), (2, .int v376), (0, .ref (ad 64)), (1, .int n)]) hx hb dX9_lookAt_268 hl (k := 0) rfl rfl (by decide) rfl (fun ls hl => ?_)
                        refine lv_goto (tgt := 218) hx hb dX9_lookAt_271 (by decide) ?_
                        refine lv_iload hx hb dX9_lookAt_218 (lv_at hl 0 rfl) ?_
                        refine lv_aload_n hx hb dX9_lookAt_220 rfl (lv_at hl 3 rfl) ?_
                        refine r_get kc9 X h 64 12 (by decide) rfl f541 (by decide) kv_664 rfl dX9_lookAt_221 ?_
                        refine lv_icmp_ge (tgt := 274) hx hb dX9_lookAt_224 (by decide) (fun hc544 => ?_) (fun hc544 => ?_)
                        · have hc544 : (C509).toInt ≤ 1 := i_le hc544 rfl rfl
                          refine lv_aload_n hx hb dX9_lookAt_274 rfl (lv_at hl 3 rfl) ?_
                          refine lv_aload_n hx hb dX9_lookAt_275 rfl (lv_at hl 3 rfl) ?_
                          refine r_get kc9 X h 64 13 (by decide) rfl f541 (by decide) kv_665 rfl dX9_lookAt_276 ?_
                          refine lv_iconst (v := 2) hx hb dX9_lookAt_279 (by decide) ?_
                          refine lv_icmp_ne (tgt := 295) hx hb dX9_lookAt_280 (by decide) (fun hc => absurd (by decide) hc) (fun _ => ?_)
                          refine lv_aload_n hx hb dX9_lookAt_283 rfl (lv_at hl 3 rfl) ?_
                          refine r_get kc9 X h 64 12 (by decide) rfl f541 (by decide) kv_664 rfl dX9_lookAt_284 ?_
                          refine lv_iconst (v := 2) hx hb dX9_lookAt_287 (by decide) ?_
                          refine lv_icmp_le (tgt := 295) hx hb dX9_lookAt_288 (by decide) (fun hc545 => ?_) (fun hc545 => ?_)
                          · have hc545 : (C509).toInt ≤ 2 := i_le hc545 rfl rfl
                            refine lv_aload_n hx hb dX9_lookAt_295 rfl (lv_at hl 3 rfl) ?_
                            refine r_get kc9 X h 64 13 (by decide) rfl f541 (by decide) kv_665 rfl dX9_lookAt_296 ?_
                            refine r_put kc9 X hD h 64 13 (by decide) rfl f541 (by decide) kv_665 rfl rfl rfl (Nat.le_of_ble_eq_true rfl) dX9_lookAt_299 (fun H locs w546 e547 h => ?_)
                            have f548 : w546 64 = .inr (7, [.ref (ad 65), .ref (ad 66), .ref (ad 67), .ref (ad 68), .long x, .long y, .ref (ad 69), .int mb, .ref (ad 70), .ref (ad 71), .int bl, .int C6, .int C509, .int 2, .int z538, .ref (ad 72), .ref (ad 73)]) := (congrFun e547 _).trans (va_up_self _ _ _)
                            have ok549 : OK cI cB cZ cO ad w546 := OK.up ok542 e547 (sM_mk (by omega) (by omega))
                            have kx550 : F6 w w546 := F6.up kx543 e547
                            have hlk551 : LOOKP bs bl n C6 C509 (2 : Int32) z538 := by
                              have kc2 : (2 : Int32).toInt = 2 := rfl
                              obtain ⟨e9, e9e, e9t⟩ := x_add (x := C6) (y := C509) (a := C6.toInt) (b := C509.toInt) rfl rfl (by omega) (by omega)
                              have e9n : e9.toNatClampNeg = C6.toNatClampNeg + C509.toNatClampNeg := cl_addn rfl rfl e9t (by omega) (by omega)
                              have hE : e9.toInt = bl.toInt ∨ ∃ u : Int32, bs e9.toNatClampNeg = u ∧ ¬ (48 ≤ u.toInt ∧ u.toInt ≤ 57) := by
                                by_cases q9 : L508.toInt = 0
                                · right; exact ⟨_, rfl, by rw [e9n]; exact (hi521 q9).2⟩
                                · left; omega
                              rcases hE with hE | ⟨u9, hE, hE2⟩
                              · exact LOOKP.of e9t (tok2 (u := 0) (by omega) (by omega) (by omega) (by omega) hi16 e377 ⟨by omega, by omega⟩ (by omega) (by omega) (hi520.b (by omega)) (Or.inl hE) (Or.inl ⟨by omega, by omega⟩) (fun q9 => by rw [if_pos (by omega), e377]; omega))
                              · exact LOOKP.of e9t (tok2 (u := u9) (by omega) (by omega) (by omega) (by omega) hi16 e377 ⟨by omega, by omega⟩ (by omega) (by omega) (hi520.b (by omega)) (Or.inr ⟨hE, hE2⟩) (Or.inl ⟨by omega, by omega⟩) (fun q9 => by rw [if_pos (by omega), e377]; omega))
                            exact e_v X h hr hlk dX9_lookAt_302 ⟨ok549, kx550, ⟨_, _, _, _, f548, by omega, by omega, by omega, by omega, hlk551⟩⟩
                          · have hc545 : ¬ (C509).toInt ≤ 2 := i_nle hc545 rfl rfl
                            exfalso; omega
                        · have hc544 : ¬ (C509).toInt ≤ 1 := i_nle hc544 rfl rfl
                          refine lv_iload hx hb dX9_lookAt_227 (lv_at hl 0 rfl) ?_
                          refine lv_iconst (v := 2) hx hb dX9_lookAt_229 (by decide) ?_
                          refine lv_icmp_ge (tgt := 274) hx hb dX9_lookAt_230 (by decide) (fun hc => absurd hc (by decide)) (fun _ => ?_)
                          refine lv_aload_n hx hb dX9_lookAt_233 rfl (lv_at hl 3 rfl) ?_
                          refine r_get kc9 X h 64 13 (by decide) rfl f541 (by decide) kv_665 rfl dX9_lookAt_234 ?_
                          refine lv_iconst (v := 2) hx hb dX9_lookAt_237 (by decide) ?_
                          refine lv_icmp_ne (tgt := 274) hx hb dX9_lookAt_238 (by decide) (fun hc => absurd (by decide) hc) (fun _ => ?_)
                          refine lv_aload_n hx hb dX9_lookAt_241 rfl (lv_at hl 3 rfl) ?_
                          refine lv_bipush (v := 10) hx hb dX9_lookAt_242 (by decide) ?_
                          refine lv_aload_n hx hb dX9_lookAt_244 rfl (lv_at hl 3 rfl) ?_
                          refine r_get kc9 X h 64 14 (by decide) rfl f541 (by decide) kv_666 rfl dX9_lookAt_245 ?_
                          obtain ⟨z554, e552, t553⟩ := x_mul (x := (10 : Int32)) (y := z538) (a := 10) (b := (z538).toInt) rfl rfl (by omega) (by omega)
                          refine o_imul (z := z554) hx hb dX9_lookAt_248 e552 ?_
                          refine lv_aload_n hx hb dX9_lookAt_249 rfl (lv_at hl 3 rfl) ?_
                          refine r_get kc9 X h 64 9 (by decide) rfl f541 (by decide) kv_667 rfl dX9_lookAt_250 ?_
                          refine lv_aload_n hx hb dX9_lookAt_253 rfl (lv_at hl 3 rfl) ?_
                          refine r_get kc9 X h 64 11 (by decide) rfl f541 (by decide) kv_663 rfl dX9_lookAt_254 ?_
                          refine lv_iload hx hb dX9_lookAt_257 (lv_at hl 0 rfl) ?_
                          obtain ⟨z557, e555, t556⟩ := x_add (x := C6) (y := (1 : Int32)) (a := (C6).toInt) (b := 1) rfl rfl (by omega) (by omega)
                          have n558 : z557.toNatClampNeg = C6.toNatClampNeg + 1 := cl_addn (x := C6) (y := (1 : Int32)) rfl rfl t556 (by omega) (by decide)
                          refine o_iadd (z := z557) hx hb dX9_lookAt_259 e555 ?_
                          have f559 : w539 71 = .inl (cI, 150, .inl bs) := by rw [e540, va_up_ne _ _ (by decide)]; exact cf525
                          obtain ⟨v560, e561⟩ : ∃ z : Int32, bs (C6.toNatClampNeg + 1) = z := ⟨_, rfl⟩
                          have q563 : 48 ≤ v560.toInt ∧ v560.toInt ≤ 57 := by rw [← e561]; exact of_decide_eq_true (hi520 (C6.toNatClampNeg + 1) (by have := cl_of (x := C6) (by omega); omega) (by have := cl_of (x := C6) (by omega); omega))
                          refine o_iald (v := v560) X h 71 0 (by decide) rfl f559 rfl (in_of (by omega) (by omega)) (by rw [n558]; exact e561) dX9_lookAt_260 ?_
                          obtain ⟨z566, e564, t565⟩ := x_add (x := z554) (y := v560) (a := (z554).toInt) (b := (v560).toInt) rfl rfl (by omega) (by omega)
                          have n567 : z566.toNatClampNeg = z554.toNatClampNeg + v560.toNatClampNeg := cl_addn (x := z554) (y := v560) rfl rfl t565 (by omega) (by omega)
                          refine o_iadd (z := z566) hx hb dX9_lookAt_261 e564 ?_
                          refine lv_bipush (v := 48) hx hb dX9_lookAt_262 (by decide) ?_
                          obtain ⟨z570, e568, t569⟩ := x_sub (x := z566) (y := (48 : Int32)) (a := (z566).toInt) (b := 48) rfl rfl (by omega) (by omega)
                          refine o_isub (z := z570) hx hb dX9_lookAt_264 e568 ?_
                          refine r_put kc9 X hD h 64 14 (by decide) rfl f541 (by decide) kv_666 rfl rfl rfl (Nat.le_of_ble_eq_true rfl) dX9_lookAt_265 (fun H locs w571 e572 h => ?_)
                          have f573 : w571 64 = .inr (7, [.ref (ad 65), .ref (ad 66), .ref (ad 67), .ref (ad 68), .long x, .long y, .ref (ad 69), .int mb, .ref (ad 70), .ref (ad 71), .int bl, .int C6, .int C509, .int 2, .int z570, .ref (ad 72), .ref (ad 73)]) := (congrFun e572 _).trans (va_up_self _ _ _)
                          have ok574 : OK cI cB cZ cO ad w571 := OK.up ok542 e572 (sM_mk (by omega) (by omega))
                          have kx575 : F6 w w571 := F6.up kx543 e572
                          refine lv_iinc (v := 2) (lv' := [(4, .int 2), (3, .int L508), (2, .int v376), (0, .ref (ad 64)), (1, .int n)]) hx hb dX9_lookAt_268 hl (k := 0) rfl rfl (by decide) rfl (fun ls hl => ?_)
                          refine lv_goto (tgt := 218) hx hb dX9_lookAt_271 (by decide) ?_
                          refine lv_iload hx hb dX9_lookAt_218 (lv_at hl 0 rfl) ?_
                          refine lv_aload_n hx hb dX9_lookAt_220 rfl (lv_at hl 3 rfl) ?_
                          refine r_get kc9 X h 64 12 (by decide) rfl f573 (by decide) kv_664 rfl dX9_lookAt_221 ?_
                          refine lv_icmp_ge (tgt := 274) hx hb dX9_lookAt_224 (by decide) (fun hc576 => ?_) (fun hc576 => ?_)
                          · have hc576 : (C509).toInt ≤ 2 := i_le hc576 rfl rfl
                            refine lv_aload_n hx hb dX9_lookAt_274 rfl (lv_at hl 3 rfl) ?_
                            refine lv_aload_n hx hb dX9_lookAt_275 rfl (lv_at hl 3 rfl) ?_
                            refine r_get kc9 X h 64 13 (by decide) rfl f573 (by decide) kv_665 rfl dX9_lookAt_276 ?_
                            refine lv_iconst (v := 2) hx hb dX9_lookAt_279 (by decide) ?_
                            refine lv_icmp_ne (tgt := 295) hx hb dX9_lookAt_280 (by decide) (fun hc => absurd (by decide) hc) (fun _ => ?_)
                            refine lv_aload_n hx hb dX9_lookAt_283 rfl (lv_at hl 3 rfl) ?_
                            refine r_get kc9 X h 64 12 (by decide) rfl f573 (by decide) kv_664 rfl dX9_lookAt_284 ?_
                            refine lv_iconst (v := 2) hx hb dX9_lookAt_287 (by decide) ?_
                            refine lv_icmp_le (tgt := 295) hx hb dX9_lookAt_288 (by decide) (fun hc577 => ?_) (fun hc577 => ?_)
                            · have hc577 : (C509).toInt ≤ 2 := i_le hc577 rfl rfl
                              refine lv_aload_n hx hb dX9_lookAt_295 rfl (lv_at hl 3 rfl) ?_
                              refine r_get kc9 X h 64 13 (by decide) rfl f573 (by decide) kv_665 rfl dX9_lookAt_296 ?_
                              refine r_put kc9 X hD h 64 13 (by decide) rfl f573 (by decide) kv_665 rfl rfl rfl (Nat.le_of_ble_eq_true rfl) dX9_lookAt_299 (fun H locs w578 e579 h => ?_)
                              have f580 : w578 64 = .inr (7, [.ref (ad 65), .ref (ad 66), .ref (ad 67), .ref (ad 68), .long x, .long y, .ref (ad 69), .int mb, .ref (ad 70), .ref (ad 71), .int bl, .int C6, .int C509, .int 2, .int z570, .ref (ad 72), .ref (ad 73)]) := (congrFun e579 _).trans (va_up_self _ _ _)
                              have ok581 : OK cI cB cZ cO ad w578 := OK.up ok574 e579 (sM_mk (by omega) (by omega))
                              have kx582 : F6 w w578 := F6.up kx575 e579
                              have hlk583 : LOOKP bs bl n C6 C509 (2 : Int32) z570 := by
                                have kc2 : (2 : Int32).toInt = 2 := rfl
                                obtain ⟨e9, e9e, e9t⟩ := x_add (x := C6) (y := C509) (a := C6.toInt) (b := C509.toInt) rfl rfl (by omega) (by omega)
                                have e9n : e9.toNatClampNeg = C6.toNatClampNeg + C509.toNatClampNeg := cl_addn rfl rfl e9t (by omega) (by omega)
                                have hE : e9.toInt = bl.toInt ∨ ∃ u : Int32, bs e9.toNatClampNeg = u ∧ ¬ (48 ≤ u.toInt ∧ u.toInt ≤ 57) := by
                                  by_cases q9 : L508.toInt = 0
                                  · right; exact ⟨_, rfl, by rw [e9n]; exact (hi521 q9).2⟩
                                  · left; omega
                                rcases hE with hE | ⟨u9, hE, hE2⟩
                                · exact LOOKP.of e9t (tok2 (u := 0) (by omega) (by omega) (by omega) (by omega) hi16 e377 ⟨by omega, by omega⟩ (by omega) (by omega) (hi520.b (by omega)) (Or.inl hE) (Or.inl ⟨by omega, by omega⟩) (fun q9 => by rw [if_neg (by omega), e377, e561]; omega))
                                · exact LOOKP.of e9t (tok2 (u := u9) (by omega) (by omega) (by omega) (by omega) hi16 e377 ⟨by omega, by omega⟩ (by omega) (by omega) (hi520.b (by omega)) (Or.inr ⟨hE, hE2⟩) (Or.inl ⟨by omega, by omega⟩) (fun q9 => by rw [if_neg (by omega), e377, e561]; omega))
                              exact e_v X h hr hlk dX9_lookAt_302 ⟨ok581, kx582, ⟨_, _, _, _, f580, by omega, by omega, by omega, by omega, hlk583⟩⟩
                            · have hc577 : ¬ (C509).toInt ≤ 2 := i_nle hc577 rfl rfl
                              exfalso; omega
                          · have hc576 : ¬ (C509).toInt ≤ 2 := i_nle hc576 rfl rfl
                            refine lv_iload hx hb dX9_lookAt_227 (lv_at hl 0 rfl) ?_
                            refine lv_iconst (v := 2) hx hb dX9_lookAt_229 (by decide) ?_
                            refine lv_icmp_ge (tgt := 274) hx hb dX9_lookAt_230 (by decide) (fun _ => ?_) (fun hc => absurd (by decide) hc)
                            refine lv_aload_n hx hb dX9_lookAt_274 rfl (lv_at hl 3 rfl) ?_
                            refine lv_aload_n hx hb dX9_lookAt_275 rfl (lv_at hl 3 rfl) ?_
                            refine r_get kc9 X h 64 13 (by decide) rfl f573 (by decide) kv_665 rfl dX9_lookAt_276 ?_
                            refine lv_iconst (v := 2) hx hb dX9_lookAt_279 (by decide) ?_
                            refine lv_icmp_ne (tgt := 295) hx hb dX9_lookAt_280 (by decide) (fun hc => absurd (by decide) hc) (fun _ => ?_)
                            refine lv_aload_n hx hb dX9_lookAt_283 rfl (lv_at hl 3 rfl) ?_
                            refine r_get kc9 X h 64 12 (by decide) rfl f573 (by decide) kv_664 rfl dX9_lookAt_284 ?_
                            refine lv_iconst (v := 2) hx hb dX9_lookAt_287 (by decide) ?_
                            refine lv_icmp_le (tgt := 295) hx hb dX9_lookAt_288 (by decide) (fun hc584 => ?_) (fun hc584 => ?_)
                            · have hc584 : (C509).toInt ≤ 2 := i_le hc584 rfl rfl
                              exfalso; omega
                            · have hc584 : ¬ (C509).toInt ≤ 2 := i_nle hc584 rfl rfl
                              refine lv_iconst (v := 4) hx hb dX9_lookAt_291 (by decide) ?_
                              refine lv_goto (tgt := 299) hx hb dX9_lookAt_292 (by decide) ?_
                              refine r_put kc9 X hD h 64 13 (by decide) rfl f573 (by decide) kv_665 rfl rfl rfl (Nat.le_of_ble_eq_true rfl) dX9_lookAt_299 (fun H locs w585 e586 h => ?_)
                              have f587 : w585 64 = .inr (7, [.ref (ad 65), .ref (ad 66), .ref (ad 67), .ref (ad 68), .long x, .long y, .ref (ad 69), .int mb, .ref (ad 70), .ref (ad 71), .int bl, .int C6, .int C509, .int 4, .int z570, .ref (ad 72), .ref (ad 73)]) := (congrFun e586 _).trans (va_up_self _ _ _)
                              have ok588 : OK cI cB cZ cO ad w585 := OK.up ok574 e586 (sM_mk (by omega) (by omega))
                              have kx589 : F6 w w585 := F6.up kx575 e586
                              have hlk590 : LOOKP bs bl n C6 C509 (4 : Int32) z570 := by
                                have kc4 : (4 : Int32).toInt = 4 := rfl
                                obtain ⟨e9, e9e, e9t⟩ := x_add (x := C6) (y := C509) (a := C6.toInt) (b := C509.toInt) rfl rfl (by omega) (by omega)
                                have e9n : e9.toNatClampNeg = C6.toNatClampNeg + C509.toNatClampNeg := cl_addn rfl rfl e9t (by omega) (by omega)
                                have hE : e9.toInt = bl.toInt ∨ ∃ u : Int32, bs e9.toNatClampNeg = u ∧ ¬ (48 ≤ u.toInt ∧ u.toInt ≤ 57) := by
                                  by_cases q9 : L508.toInt = 0
                                  · right; exact ⟨_, rfl, by rw [e9n]; exact (hi521 q9).2⟩
                                  · left; omega
                                rcases hE with hE | ⟨u9, hE, hE2⟩
                                · exact LOOKP.of e9t (tok2 (u := 0) (by omega) (by omega) (by omega) (by omega) hi16 e377 ⟨by omega, by omega⟩ (by omega) (by omega) (hi520.b (by omega)) (Or.inl hE) (Or.inr ⟨by omega, by omega⟩) (fun q9 => by omega))
                                · exact LOOKP.of e9t (tok2 (u := u9) (by omega) (by omega) (by omega) (by omega) hi16 e377 ⟨by omega, by omega⟩ (by omega) (by omega) (hi520.b (by omega)) (Or.inr ⟨hE, hE2⟩) (Or.inr ⟨by omega, by omega⟩) (fun q9 => by omega))
                              exact e_v X h hr hlk dX9_lookAt_302 ⟨ok588, kx589, ⟨_, _, _, _, f587, by omega, by omega, by omega, by omega, hlk590⟩⟩
                    · have hc526 : ¬ (L508).toInt = 0 := i_ne hc526 rfl rfl
                      refine lv_aload_n hx hb dX9_lookAt_140 rfl (lv_at hl 2 rfl) ?_
                      refine r_get kc9 X h 64 11 (by decide) rfl cf524 (by decide) kv_663 rfl dX9_lookAt_141 ?_
                      refine lv_aload_n hx hb dX9_lookAt_144 rfl (lv_at hl 2 rfl) ?_
                      refine r_get kc9 X h 64 12 (by decide) rfl cf524 (by decide) kv_664 rfl dX9_lookAt_145 ?_
                      obtain ⟨z593, e591, t592⟩ := x_add (x := C6) (y := C509) (a := (C6).toInt) (b := (C509).toInt) rfl rfl (by omega) (by omega)
                      have n594 : z593.toNatClampNeg = C6.toNatClampNeg + C509.toNatClampNeg := cl_addn (x := C6) (y := C509) rfl rfl t592 (by omega) (by omega)
                      refine o_iadd (z := z593) hx hb dX9_lookAt_148 e591 ?_
                      refine lv_aload_n hx hb dX9_lookAt_149 rfl (lv_at hl 2 rfl) ?_
                      refine r_get kc9 X h 64 10 (by decide) rfl cf524 (by decide) kv_539 rfl dX9_lookAt_150 ?_
                      refine lv_icmp_ge (tgt := 215) hx hb dX9_lookAt_153 (by decide) (fun hc595 => ?_) (fun hc595 => ?_)
                      · have hc595 : (bl).toInt ≤ (z593).toInt := i_le hc595 rfl rfl
                        refine lv_iconst (v := 0) hx hb dX9_lookAt_215 (by decide) ?_
                        refine lv_istore (lv' := [(4, .int 0), (3, .int L508), (2, .int v376), (0, .ref (ad 64)), (1, .int n)]) hx hb dX9_lookAt_216 hl (by decide) rfl (fun ls hl => ?_)
                        refine lv_iload hx hb dX9_lookAt_218 (lv_at hl 0 rfl) ?_
                        refine lv_aload_n hx hb dX9_lookAt_220 rfl (lv_at hl 3 rfl) ?_
                        refine r_get kc9 X h 64 12 (by decide) rfl cf524 (by decide) kv_664 rfl dX9_lookAt_221 ?_
                        refine lv_icmp_ge (tgt := 274) hx hb dX9_lookAt_224 (by decide) (fun hc596 => ?_) (fun hc596 => ?_)
                        · have hc596 : (C509).toInt ≤ 0 := i_le hc596 rfl rfl
                          exfalso; omega
                        · have hc596 : ¬ (C509).toInt ≤ 0 := i_nle hc596 rfl rfl
                          refine lv_iload hx hb dX9_lookAt_227 (lv_at hl 0 rfl) ?_
                          refine lv_iconst (v := 2) hx hb dX9_lookAt_229 (by decide) ?_
                          refine lv_icmp_ge (tgt := 274) hx hb dX9_lookAt_230 (by decide) (fun hc => absurd hc (by decide)) (fun _ => ?_)
                          refine lv_aload_n hx hb dX9_lookAt_233 rfl (lv_at hl 3 rfl) ?_
                          refine r_get kc9 X h 64 13 (by decide) rfl cf524 (by decide) kv_665 rfl dX9_lookAt_234 ?_
                          refine lv_iconst (v := 2) hx hb dX9_lookAt_237 (by decide) ?_
                          refine lv_icmp_ne (tgt := 274) hx hb dX9_lookAt_238 (by decide) (fun hc => absurd (by decide) hc) (fun _ => ?_)
                          refine lv_aload_n hx hb dX9_lookAt_241 rfl (lv_at hl 3 rfl) ?_
                          refine lv_bipush (v := 10) hx hb dX9_lookAt_242 (by decide) ?_
                          refine lv_aload_n hx hb dX9_lookAt_244 rfl (lv_at hl 3 rfl) ?_
                          refine r_get kc9 X h 64 14 (by decide) rfl cf524 (by decide) kv_666 rfl dX9_lookAt_245 ?_
                          refine o_imul (z := 0) hx hb dX9_lookAt_248 rfl ?_
                          refine lv_aload_n hx hb dX9_lookAt_249 rfl (lv_at hl 3 rfl) ?_
                          refine r_get kc9 X h 64 9 (by decide) rfl cf524 (by decide) kv_667 rfl dX9_lookAt_250 ?_
                          refine lv_aload_n hx hb dX9_lookAt_253 rfl (lv_at hl 3 rfl) ?_
                          refine r_get kc9 X h 64 11 (by decide) rfl cf524 (by decide) kv_663 rfl dX9_lookAt_254 ?_
                          refine lv_iload hx hb dX9_lookAt_257 (lv_at hl 0 rfl) ?_
                          obtain ⟨z599, e597, t598⟩ := x_add (x := C6) (y := (0 : Int32)) (a := (C6).toInt) (b := 0) rfl rfl (by omega) (by omega)
                          have n600 : z599.toNatClampNeg = C6.toNatClampNeg + 0 := cl_addn (x := C6) (y := (0 : Int32)) rfl rfl t598 (by omega) (by decide)
                          have n600 : z599.toNatClampNeg = C6.toNatClampNeg := n600
                          refine o_iadd (z := z599) hx hb dX9_lookAt_259 e597 ?_
                          refine o_iald (v := v376) X h 71 0 (by decide) rfl cf525 rfl (in_of (by omega) (by omega)) (by rw [n600]; exact e377) dX9_lookAt_260 ?_
                          obtain ⟨z603, e601, t602⟩ := x_add (x := (0 : Int32)) (y := v376) (a := 0) (b := (v376).toInt) rfl rfl (by omega) (by omega)
                          have n604 : z603.toNatClampNeg = 0 + v376.toNatClampNeg := cl_addn (x := (0 : Int32)) (y := v376) rfl rfl t602 (by decide) (by omega)
                          refine o_iadd (z := z603) hx hb dX9_lookAt_261 e601 ?_
                          refine lv_bipush (v := 48) hx hb dX9_lookAt_262 (by decide) ?_
                          obtain ⟨z607, e605, t606⟩ := x_sub (x := z603) (y := (48 : Int32)) (a := (z603).toInt) (b := 48) rfl rfl (by omega) (by omega)
                          refine o_isub (z := z607) hx hb dX9_lookAt_264 e605 ?_
                          refine r_put kc9 X hD h 64 14 (by decide) rfl cf524 (by decide) kv_666 rfl rfl rfl (Nat.le_of_ble_eq_true rfl) dX9_lookAt_265 (fun H locs w608 e609 h => ?_)
                          have f610 : w608 64 = .inr (7, [.ref (ad 65), .ref (ad 66), .ref (ad 67), .ref (ad 68), .long x, .long y, .ref (ad 69), .int mb, .ref (ad 70), .ref (ad 71), .int bl, .int C6, .int C509, .int 2, .int z607, .ref (ad 72), .ref (ad 73)]) := (congrFun e609 _).trans (va_up_self _ _ _)
                          have ok611 : OK cI cB cZ cO ad w608 := OK.up ok522 e609 (sM_mk (by omega) (by omega))
                          have kx612 : F6 w w608 := F6.up kx523 e609
                          refine lv_iinc (v := 1) (lv' := [(4, .int 1), (3, .int L508), (2, .int v376), (0, .ref (ad 64)), (1, .int n)]) hx hb dX9_lookAt_268 hl (k := 0) rfl rfl (by decide) rfl (fun ls hl => ?_)
                          refine lv_goto (tgt := 218) hx hb dX9_lookAt_271 (by decide) ?_
                          refine lv_iload hx hb dX9_lookAt_218 (lv_at hl 0 rfl) ?_
                          refine lv_aload_n hx hb dX9_lookAt_220 rfl (lv_at hl 3 rfl) ?_
                          refine r_get kc9 X h 64 12 (by decide) rfl f610 (by decide) kv_664 rfl dX9_lookAt_221 ?_
                          refine lv_icmp_ge (tgt := 274) hx hb dX9_lookAt_224 (by decide) (fun hc613 => ?_) (fun hc613 => ?_)
                          · have hc613 : (C509).toInt ≤ 1 := i_le hc613 rfl rfl
                            refine lv_aload_n hx hb dX9_lookAt_274 rfl (lv_at hl 3 rfl) ?_
                            refine lv_aload_n hx hb dX9_lookAt_275 rfl (lv_at hl 3 rfl) ?_
                            refine r_get kc9 X h 64 13 (by decide) rfl f610 (by decide) kv_665 rfl dX9_lookAt_276 ?_
                            refine lv_iconst (v := 2) hx hb dX9_lookAt_279 (by decide) ?_
                            refine lv_icmp_ne (tgt := 295) hx hb dX9_lookAt_280 (by decide) (fun hc => absurd (by decide) hc) (fun _ => ?_)
                            refine lv_aload_n hx hb dX9_lookAt_283 rfl (lv_at hl 3 rfl) ?_
                            refine r_get kc9 X h 64 12 (by decide) rfl f610 (by decide) kv_664 rfl dX9_lookAt_284 ?_
                            refine lv_iconst (v := 2) hx hb dX9_lookAt_287 (by decide) ?_
                            refine lv_icmp_le (tgt := 295) hx hb dX9_lookAt_288 (by decide) (fun hc614 => ?_) (fun hc614 => ?_)
                            · have hc614 : (C509).toInt ≤ 2 := i_le hc614 rfl rfl
                              refine lv_aload_n hx hb dX9_lookAt_295 rfl (lv_at hl 3 rfl) ?_
                              refine r_get kc9 X h 64 13 (by decide) rfl f610 (by decide) kv_665 rfl dX9_lookAt_296 ?_
                              refine r_put kc9 X hD h 64 13 (by decide) rfl f610 (by decide) kv_665 rfl rfl rfl (Nat.le_of_ble_eq_true rfl) dX9_lookAt_299 (fun H locs w615 e616 h => ?_)
                              have f617 : w615 64 = .inr (7, [.ref (ad 65), .ref (ad 66), .ref (ad 67), .ref (ad 68), .long x, .long y, .ref (ad 69), .int mb, .ref (ad 70), .ref (ad 71), .int bl, .int C6, .int C509, .int 2, .int z607, .ref (ad 72), .ref (ad 73)]) := (congrFun e616 _).trans (va_up_self _ _ _)
                              have ok618 : OK cI cB cZ cO ad w615 := OK.up ok611 e616 (sM_mk (by omega) (by omega))
                              have kx619 : F6 w w615 := F6.up kx612 e616
                              have hlk620 : LOOKP bs bl n C6 C509 (2 : Int32) z607 := by
                                have kc2 : (2 : Int32).toInt = 2 := rfl
                                obtain ⟨e9, e9e, e9t⟩ := x_add (x := C6) (y := C509) (a := C6.toInt) (b := C509.toInt) rfl rfl (by omega) (by omega)
                                have e9n : e9.toNatClampNeg = C6.toNatClampNeg + C509.toNatClampNeg := cl_addn rfl rfl e9t (by omega) (by omega)
                                have hE : e9.toInt = bl.toInt ∨ ∃ u : Int32, bs e9.toNatClampNeg = u ∧ ¬ (48 ≤ u.toInt ∧ u.toInt ≤ 57) := by
                                  by_cases q9 : L508.toInt = 0
                                  · right; exact ⟨_, rfl, by rw [e9n]; exact (hi521 q9).2⟩
                                  · left; omega
                                rcases hE with hE | ⟨u9, hE, hE2⟩
                                · exact LOOKP.of e9t (tok2 (u := 0) (by omega) (by omega) (by omega) (by omega) hi16 e377 ⟨by omega, by omega⟩ (by omega) (by omega) (hi520.b (by omega)) (Or.inl hE) (Or.inl ⟨by omega, by omega⟩) (fun q9 => by rw [if_pos (by omega), e377]; omega))
                                · exact LOOKP.of e9t (tok2 (u := u9) (by omega) (by omega) (by omega) (by omega) hi16 e377 ⟨by omega, by omega⟩ (by omega) (by omega) (hi520.b (by omega)) (Or.inr ⟨hE, hE2⟩) (Or.inl ⟨by omega, by omega⟩) (fun q9 => by rw [if_pos (by omega), e377]; omega))
                              exact e_v X h hr hlk dX9_lookAt_302 ⟨ok618, kx619, ⟨_, _, _, _, f617, by omega, by omega, by omega, by omega, hlk620⟩⟩
                            · have hc614 : ¬ (C509).toInt ≤ 2 := i_nle hc614 rfl rfl
                              exfalso; omega
                          · have hc613 : ¬ (C509).toInt ≤ 1 := i_nle hc613 rfl rfl
                            refine lv_iload hx hb dX9_lookAt_227 (lv_at hl 0 rfl) ?_
                            refine lv_iconst (v := 2) hx hb dX9_lookAt_229 (by decide) ?_
                            refine lv_icmp_ge (tgt := 274) hx hb dX9_lookAt_230 (by decide) (fun hc => absurd hc (by decide)) (fun _ => ?_)
                            refine lv_aload_n hx hb dX9_lookAt_233 rfl (lv_at hl 3 rfl) ?_
                            refine r_get kc9 X h 64 13 (by decide) rfl f610 (by decide) kv_665 rfl dX9_lookAt_234 ?_
                            refine lv_iconst (v := 2) hx hb dX9_lookAt_237 (by decide) ?_
                            refine lv_icmp_ne (tgt := 274) hx hb dX9_lookAt_238 (by decide) (fun hc => absurd (by decide) hc) (fun _ => ?_)
                            refine lv_aload_n hx hb dX9_lookAt_241 rfl (lv_at hl 3 rfl) ?_
                            refine lv_bipush (v := 10) hx hb dX9_lookAt_242 (by decide) ?_
                            refine lv_aload_n hx hb dX9_lookAt_244 rfl (lv_at hl 3 rfl) ?_
                            refine r_get kc9 X h 64 14 (by decide) rfl f610 (by decide) kv_666 rfl dX9_lookAt_245 ?_
                            obtain ⟨z623, e621, t622⟩ := x_mul (x := (10 : Int32)) (y := z607) (a := 10) (b := (z607).toInt) rfl rfl (by omega) (by omega)
                            refine o_imul (z := z623) hx hb dX9_lookAt_248 e621 ?_
                            refine lv_aload_n hx hb dX9_lookAt_249 rfl (lv_at hl 3 rfl) ?_
                            refine r_get kc9 X h 64 9 (by decide) rfl f610 (by decide) kv_667 rfl dX9_lookAt_250 ?_
                            refine lv_aload_n hx hb dX9_lookAt_253 rfl (lv_at hl 3 rfl) ?_
                            refine r_get kc9 X h 64 11 (by decide) rfl f610 (by decide) kv_663 rfl dX9_lookAt_254 ?_
                            refine lv_iload hx hb dX9_lookAt_257 (lv_at hl 0 rfl) ?_
                            obtain ⟨z626, e624, t625⟩ := x_add (x := C6) (y := (1 : Int32)) (a := (C6).toInt) (b := 1) rfl rfl (by omega) (by omega)
                            have n627 : z626.toNatClampNeg = C6.toNatClampNeg + 1 := cl_addn (x := C6) (y := (1 : Int32)) rfl rfl t625 (by omega) (by decide)
                            refine o_iadd (z := z626) hx hb dX9_lookAt_259 e624 ?_
                            have f628 : w608 71 = .inl (cI, 150, .inl bs) := by rw [e609, va_up_ne _ _ (by decide)]; exact cf525
                            obtain ⟨v629, e630⟩ : ∃ z : Int32, bs (C6.toNatClampNeg + 1) = z := ⟨_, rfl⟩
                            have q632 : 48 ≤ v629.toInt ∧ v629.toInt ≤ 57 := by rw [← e630]; exact of_decide_eq_true (hi520 (C6.toNatClampNeg + 1) (by have := cl_of (x := C6) (by omega); omega) (by have := cl_of (x := C6) (by omega); omega))
                            refine o_iald (v := v629) X h 71 0 (by decide) rfl f628 rfl (in_of (by omega) (by omega)) (by rw [n627]; exact e630) dX9_lookAt_260 ?_
                            obtain ⟨z635, e633, t634⟩ := x_add (x := z623) (y := v629) (a := (z623).toInt) (b := (v629).toInt) rfl rfl (by omega) (by omega)
                            have n636 : z635.toNatClampNeg = z623.toNatClampNeg + v629.toNatClampNeg := cl_addn (x := z623) (y := v629) rfl rfl t634 (by omega) (by omega)
                            refine o_iadd (z := z635) hx hb dX9_lookAt_261 e633 ?_
                            refine lv_bipush (v := 48) hx hb dX9_lookAt_262 (by decide) ?_
                            obtain ⟨z639, e637, t638⟩ := x_sub (x := z635) (y := (48 : Int32)) (a := (z635).toInt) (b := 48) rfl rfl (by omega) (by omega)
                            refine o_isub (z := z639) hx hb dX9_lookAt_264 e637 ?_
                            refine r_put kc9 X hD h 64 14 (by decide) rfl f610 (by decide) kv_666 rfl rfl rfl (Nat.le_of_ble_eq_true rfl) dX9_lookAt_265 (fun H locs w640 e641 h => ?_)
                            have f642 : w640 64 = .inr (7, [.ref (ad 65), .ref (ad 66), .ref (ad 67), .ref (ad 68), .long x, .long y, .ref (ad 69), .int mb, .ref (ad 70), .ref (ad 71), .int bl, .int C6, .int C509, .int 2, .int z639, .ref (ad 72), .ref (ad 73)]) := (congrFun e641 _).trans (va_up_self _ _ _)
                            have ok643 : OK cI cB cZ cO ad w640 := OK.up ok611 e641 (sM_mk (by omega) (by omega))
                            have kx644 : F6 w w640 := F6.up kx612 e641
                            refine lv_iinc (v := 2) (lv' := [(4, .int 2), (3, .int L508), (2, .int v376), (0, .ref (ad 64)), (1, .int n)]) hx hb dX9_lookAt_268 hl (k := 0) rfl rfl (by decide) rfl (fun ls hl => ?_)
                            refine lv_goto (tgt := 218) hx hb dX9_lookAt_271 (by decide) ?_
                            refine lv_iload hx hb dX9_lookAt_218 (lv_at hl 0 rfl) ?_
                            refine lv_aload_n hx hb dX9_lookAt_220 rfl (lv_at hl 3 rfl) ?_
                            refine r_get kc9 X h 64 12 (by decide) rfl f642 (by decide) kv_664 rfl dX9_lookAt_221 ?_
                            refine lv_icmp_ge (tgt := 274) hx hb dX9_lookAt_224 (by decide) (fun hc645 => ?_) (fun hc645 => ?_)
                            · have hc645 : (C509).toInt ≤ 2 := i_le hc645 rfl rfl
                              refine lv_aload_n hx hb dX9_lookAt_274 rfl (lv_at hl 3 rfl) ?_
                              refine lv_aload_n hx hb dX9_lookAt_275 rfl (lv_at hl 3 rfl) ?_
                              refine r_get kc9 X h 64 13 (by decide) rfl f642 (by decide) kv_665 rfl dX9_lookAt_276 ?_
                              refine lv_iconst (v := 2) hx hb dX9_lookAt_279 (by decide) ?_
                              refine lv_icmp_ne (tgt := 295) hx hb dX9_lookAt_280 (by decide) (fun hc => absurd (by decide) hc) (fun _ => ?_)
                              refine lv_aload_n hx hb dX9_lookAt_283 rfl (lv_at hl 3 rfl) ?_
                              refine r_get kc9 X h 64 12 (by decide) rfl f642 (by decide) kv_664 rfl dX9_lookAt_284 ?_
                              refine lv_iconst (v := 2) hx hb dX9_lookAt_287 (by decide) ?_
                              refine lv_icmp_le (tgt := 295) hx hb dX9_lookAt_288 (by decide) (fun hc646 => ?_) (fun hc646 => ?_)
                              · have hc646 : (C509).toInt ≤ 2 := i_le hc646 rfl rfl
                                refine lv_aload_n hx hb dX9_lookAt_295 rfl (lv_at hl 3 rfl) ?_
                                refine r_get kc9 X h 64 13 (by decide) rfl f642 (by decide) kv_665 rfl dX9_lookAt_296 ?_
                                refine r_put kc9 X hD h 64 13 (by decide) rfl f642 (by decide) kv_665 rfl rfl rfl (Nat.le_of_ble_eq_true rfl) dX9_lookAt_299 (fun H locs w647 e648 h => ?_)
                                have f649 : w647 64 = .inr (7, [.ref (ad 65), .ref (ad 66), .ref (ad 67), .ref (ad 68), .long x, .long y, .ref (ad 69), .int mb, .ref (ad 70), .ref (ad 71), .int bl, .int C6, .int C509, .int 2, .int z639, .ref (ad 72), .ref (ad 73)]) := (congrFun e648 _).trans (va_up_self _ _ _)
                                have ok650 : OK cI cB cZ cO ad w647 := OK.up ok643 e648 (sM_mk (by omega) (by omega))
                                have kx651 : F6 w w647 := F6.up kx644 e648
                                have hlk652 : LOOKP bs bl n C6 C509 (2 : Int32) z639 := by
                                  have kc2 : (2 : Int32).toInt = 2 := rfl
                                  obtain ⟨e9, e9e, e9t⟩ := x_add (x := C6) (y := C509) (a := C6.toInt) (b := C509.toInt) rfl rfl (by omega) (by omega)
                                  have e9n : e9.toNatClampNeg = C6.toNatClampNeg + C509.toNatClampNeg := cl_addn rfl rfl e9t (by omega) (by omega)
                                  have hE : e9.toInt = bl.toInt ∨ ∃ u : Int32, bs e9.toNatClampNeg = u ∧ ¬ (48 ≤ u.toInt ∧ u.toInt ≤ 57) := by
                                    by_cases q9 : L508.toInt = 0
                                    · right; exact ⟨_, rfl, by rw [e9n]; exact (hi521 q9).2⟩
                                    · left; omega
                                  rcases hE with hE | ⟨u9, hE, hE2⟩
                                  · exact LOOKP.of e9t (tok2 (u := 0) (by omega) (by omega) (by omega) (by omega) hi16 e377 ⟨by omega, by omega⟩ (by omega) (by omega) (hi520.b (by omega)) (Or.inl hE) (Or.inl ⟨by omega, by omega⟩) (fun q9 => by rw [if_neg (by omega), e377, e630]; omega))
                                  · exact LOOKP.of e9t (tok2 (u := u9) (by omega) (by omega) (by omega) (by omega) hi16 e377 ⟨by omega, by omega⟩ (by omega) (by omega) (hi520.b (by omega)) (Or.inr ⟨hE, hE2⟩) (Or.inl ⟨by omega, by omega⟩) (fun q9 => by rw [if_neg (by omega), e377, e630]; omega))
                                exact e_v X h hr hlk dX9_lookAt_302 ⟨ok650, kx651, ⟨_, _, _, _, f649, by omega, by omega, by omega, by omega, hlk652⟩⟩
                              · have hc646 : ¬ (C509).toInt ≤ 2 := i_nle hc646 rfl rfl
                                exfalso; omega
                            · have hc645 : ¬ (C509).toInt ≤ 2 := i_nle hc645 rfl rfl
                              refine lv_iload hx hb dX9_lookAt_227 (lv_at hl 0 rfl) ?_
                              refine lv_iconst (v := 2) hx hb dX9_lookAt_229 (by decide) ?_
                              refine lv_icmp_ge (tgt := 274) hx hb dX9_lookAt_230 (by decide) (fun _ => ?_) (fun hc => absurd (by decide) hc)
                              refine lv_aload_n hx hb dX9_lookAt_274 rfl (lv_at hl 3 rfl) ?_
                              refine lv_aload_n hx hb dX9_lookAt_275 rfl (lv_at hl 3 rfl) ?_
                              refine r_get kc9 X h 64 13 (by decide) rfl f642 (by decide) kv_665 rfl dX9_lookAt_276 ?_
                              refine lv_iconst (v := 2) hx hb dX9_lookAt_279 (by decide) ?_
                              refine lv_icmp_ne (tgt := 295) hx hb dX9_lookAt_280 (by decide) (fun hc => absurd (by decide) hc) (fun _ => ?_)
                              refine lv_aload_n hx hb dX9_lookAt_283 rfl (lv_at hl 3 rfl) ?_
                              refine r_get kc9 X h 64 12 (by decide) rfl f642 (by decide) kv_664 rfl dX9_lookAt_284 ?_
                              refine lv_iconst (v := 2) hx hb dX9_lookAt_287 (by decide) ?_
                              refine lv_icmp_le (tgt := 295) hx hb dX9_lookAt_288 (by decide) (fun hc653 => ?_) (fun hc653 => ?_)
                              · have hc653 : (C509).toInt ≤ 2 := i_le hc653 rfl rfl
                                exfalso; omega
                              · have hc653 : ¬ (C509).toInt ≤ 2 := i_nle hc653 rfl rfl
                                refine lv_iconst (v := 4) hx hb dX9_lookAt_291 (by decide) ?_
                                refine lv_goto (tgt := 299) hx hb dX9_lookAt_292 (by decide) ?_
                                refine r_put kc9 X hD h 64 13 (by decide) rfl f642 (by decide) kv_665 rfl rfl rfl (Nat.le_of_ble_eq_true rfl) dX9_lookAt_299 (fun H locs w654 e655 h => ?_)
                                have f656 : w654 64 = .inr (7, [.ref (ad 65), .ref (ad 66), .ref (ad 67), .ref (ad 68), .long x, .long y, .ref (ad 69), .int mb, .ref (ad 70), .ref (ad 71), .int bl, .int C6, .int C509, .int 4, .int z639, .ref (ad 72), .ref (ad 73)]) := (congrFun e655 _).trans (va_up_self _ _ _)
                                have ok657 : OK cI cB cZ cO ad w654 := OK.up ok643 e655 (sM_mk (by omega) (by omega))
                                have kx658 : F6 w w654 := F6.up kx644 e655
                                have hlk659 : LOOKP bs bl n C6 C509 (4 : Int32) z639 := by
                                  have kc4 : (4 : Int32).toInt = 4 := rfl
                                  obtain ⟨e9, e9e, e9t⟩ := x_add (x := C6) (y := C509) (a := C6.toInt) (b := C509.toInt) rfl rfl (by omega) (by omega)
                                  have e9n : e9.toNatClampNeg = C6.toNatClampNeg + C509.toNatClampNeg := cl_addn rfl rfl e9t (by omega) (by omega)
                                  have hE : e9.toInt = bl.toInt ∨ ∃ u : Int32, bs e9.toNatClampNeg = u ∧ ¬ (48 ≤ u.toInt ∧ u.toInt ≤ 57) := by
                                    by_cases q9 : L508.toInt = 0
                                    · right; exact ⟨_, rfl, by rw [e9n]; exact (hi521 q9).2⟩
                                    · left; omega
                                  rcases hE with hE | ⟨u9, hE, hE2⟩
                                  · exact LOOKP.of e9t (tok2 (u := 0) (by omega) (by omega) (by omega) (by omega) hi16 e377 ⟨by omega, by omega⟩ (by omega) (by omega) (hi520.b (by omega)) (Or.inl hE) (Or.inr ⟨by omega, by omega⟩) (fun q9 => by omega))
                                  · exact LOOKP.of e9t (tok2 (u := u9) (by omega) (by omega) (by omega) (by omega) hi16 e377 ⟨by omega, by omega⟩ (by omega) (by omega) (hi520.b (by omega)) (Or.inr ⟨hE, hE2⟩) (Or.inr ⟨by omega, by omega⟩) (fun q9 => by omega))
                                exact e_v X h hr hlk dX9_lookAt_302 ⟨ok657, kx658, ⟨_, _, _, _, f656, by omega, by omega, by omega, by omega, hlk659⟩⟩
                      · have hc595 : ¬ (bl).toInt ≤ (z593).toInt := i_nle hc595 rfl rfl
                        refine lv_aload_n hx hb dX9_lookAt_156 rfl (lv_at hl 2 rfl) ?_
                        refine r_get kc9 X h 64 9 (by decide) rfl cf524 (by decide) kv_667 rfl dX9_lookAt_157 ?_
                        refine lv_aload_n hx hb dX9_lookAt_160 rfl (lv_at hl 2 rfl) ?_
                        refine r_get kc9 X h 64 11 (by decide) rfl cf524 (by decide) kv_663 rfl dX9_lookAt_161 ?_
                        refine lv_aload_n hx hb dX9_lookAt_164 rfl (lv_at hl 2 rfl) ?_
                        refine r_get kc9 X h 64 12 (by decide) rfl cf524 (by decide) kv_664 rfl dX9_lookAt_165 ?_
                        obtain ⟨z662, e660, t661⟩ := x_add (x := C6) (y := C509) (a := (C6).toInt) (b := (C509).toInt) rfl rfl (by omega) (by omega)
                        have n663 : z662.toNatClampNeg = C6.toNatClampNeg + C509.toNatClampNeg := cl_addn (x := C6) (y := C509) rfl rfl t661 (by omega) (by omega)
                        refine o_iadd (z := z662) hx hb dX9_lookAt_168 e660 ?_
                        obtain ⟨v664, e665⟩ : ∃ z : Int32, bs (C6.toNatClampNeg + C509.toNatClampNeg) = z := ⟨_, rfl⟩
                        refine o_iald (v := v664) X h 71 0 (by decide) rfl cf525 rfl (in_of (by omega) (by omega)) (by rw [n663]; exact e665) dX9_lookAt_169 ?_
                        refine lv_istore (lv' := [(4, .int v664), (3, .int L508), (2, .int v376), (0, .ref (ad 64)), (1, .int n)]) hx hb dX9_lookAt_170 hl (by decide) rfl (fun ls hl => ?_)
                        refine lv_aload_n hx hb dX9_lookAt_172 rfl (lv_at hl 3 rfl) ?_
                        refine r_get kc9 X h 64 13 (by decide) rfl cf524 (by decide) kv_665 rfl dX9_lookAt_173 ?_
                        refine lv_iconst (v := 1) hx hb dX9_lookAt_176 (by decide) ?_
                        refine lv_icmp_ne (tgt := 188) hx hb dX9_lookAt_177 (by decide) (fun _ => ?_) (fun hc => absurd hc (by decide))
                        refine lv_iload hx hb dX9_lookAt_188 (lv_at hl 0 rfl) ?_
                        refine n_Si (na := 1) (As := [.int v664]) (rest := []) X hD hN h (c_M_isFigure l G cI cB cZ cO ad wL510   v664  ) ⟨kv_671, kv_672, kv_470, kv_673⟩ ⟨by decide, by decide, by decide⟩ ⟨Nat.le_of_ble_eq_true rfl, Nat.le_of_ble_eq_true rfl⟩ ⟨Nat.zero_le _, Nat.zero_le _⟩ rfl hl.1 rfl (Nat.le_of_ble_eq_true rfl) dX9_lookAt_190 (fun r667 w668 H locs hp669 h => ?_)
                        obtain ⟨rfl, hr670⟩ := hp669
                        rcases hr670 with ⟨hq671, hq672, rfl⟩ | ⟨hq673, rfl⟩
                        · refine lv_istore_n (lv' := [(3, .int 1), (4, .int v664), (2, .int v376), (0, .ref (ad 64)), (1, .int n)]) hx hb dX9_lookAt_193 rfl hl (by decide) rfl (fun ls hl => ?_)
                          refine lv_aload_n hx hb dX9_lookAt_194 rfl (lv_at hl 3 rfl) ?_
                          refine lv_dup hx hb dX9_lookAt_195 rfl ?_
                          refine r_get kc9 X h 64 12 (by decide) rfl cf524 (by decide) kv_664 rfl dX9_lookAt_196 ?_
                          refine lv_iload_n hx hb dX9_lookAt_199 rfl (lv_at hl 0 rfl) ?_
                          refine lv_if_eq (tgt := 207) hx hb dX9_lookAt_200 (by decide) (fun hc => absurd hc (by decide)) (fun _ => ?_)
                          refine lv_iconst (v := 1) hx hb dX9_lookAt_203 (by decide) ?_
                          refine lv_goto (tgt := 208) hx hb dX9_lookAt_204 (by decide) ?_
                          obtain ⟨z676, e674, t675⟩ := x_add (x := C509) (y := (1 : Int32)) (a := (C509).toInt) (b := 1) rfl rfl (by omega) (by omega)
                          have n677 : z676.toNatClampNeg = C509.toNatClampNeg + 1 := cl_addn (x := C509) (y := (1 : Int32)) rfl rfl t675 (by omega) (by decide)
                          refine o_iadd (z := z676) hx hb dX9_lookAt_208 e674 ?_
                          refine r_put kc9 X hD h 64 12 (by decide) rfl cf524 (by decide) kv_664 rfl rfl rfl (Nat.le_of_ble_eq_true rfl) dX9_lookAt_209 (fun H locs w678 e679 h => ?_)
                          have f680 : w678 64 = .inr (7, [.ref (ad 65), .ref (ad 66), .ref (ad 67), .ref (ad 68), .long x, .long y, .ref (ad 69), .int mb, .ref (ad 70), .ref (ad 71), .int bl, .int C6, .int z676, .int 2, .int 0, .ref (ad 72), .ref (ad 73)]) := (congrFun e679 _).trans (va_up_self _ _ _)
                          have ok681 : OK cI cB cZ cO ad w678 := OK.up ok522 e679 (sM_mk (by omega) (by omega))
                          have kx682 : F6 w w678 := F6.up kx523 e679
                          refine lv_goto (tgt := 136) hx hb dX9_lookAt_212 (by decide) ?_
                          have f683 : w678 71 = .inl (cI, 150, .inl bs) := by rw [e679, va_up_ne _ _ (by decide)]; exact cf525
                          exact ih513  (1 : Int32) z676 w678 _ _ _ (by have q0 : (1 : Int32).toInt = 1 := rfl; omega) (by have q0 : (1 : Int32).toInt = 1 := rfl; omega) (by have q0 : (1 : Int32).toInt = 1 := rfl; omega) (by have q0 : (1 : Int32).toInt = 1 := rfl; omega) (by have q0 : (1 : Int32).toInt = 1 := rfl; omega) (runI.succ (n := C6.toNatClampNeg + C509.toNatClampNeg) hi520 (by omega) (by have := cl_of (x := C6) (by omega); have := cl_of (x := C509) (by omega); omega) e665 (dg_t (by omega) (by omega))) (fun h9 => by have q0 : (1 : Int32).toInt = 1 := rfl; omega) ok681 kx682 f680 f683 (by have q0 : (1 : Int32).toInt = 1 := rfl; omega) h (lv_sub hl [0, 2, 3, 4] rfl)
                        · refine lv_istore_n (lv' := [(3, .int 0), (4, .int v664), (2, .int v376), (0, .ref (ad 64)), (1, .int n)]) hx hb dX9_lookAt_193 rfl hl (by decide) rfl (fun ls hl => ?_)
                          refine lv_aload_n hx hb dX9_lookAt_194 rfl (lv_at hl 3 rfl) ?_
                          refine lv_dup hx hb dX9_lookAt_195 rfl ?_
                          refine r_get kc9 X h 64 12 (by decide) rfl cf524 (by decide) kv_664 rfl dX9_lookAt_196 ?_
                          refine lv_iload_n hx hb dX9_lookAt_199 rfl (lv_at hl 0 rfl) ?_
                          refine lv_if_eq (tgt := 207) hx hb dX9_lookAt_200 (by decide) (fun _ => ?_) (fun hc => absurd (by decide) hc)
                          refine lv_iconst (v := 0) hx hb dX9_lookAt_207 (by decide) ?_
                          obtain ⟨z686, e684, t685⟩ := x_add (x := C509) (y := (0 : Int32)) (a := (C509).toInt) (b := 0) rfl rfl (by omega) (by omega)
                          have n687 : z686.toNatClampNeg = C509.toNatClampNeg + 0 := cl_addn (x := C509) (y := (0 : Int32)) rfl rfl t685 (by omega) (by decide)
                          have n687 : z686.toNatClampNeg = C509.toNatClampNeg := n687
                          refine o_iadd (z := z686) hx hb dX9_lookAt_208 e684 ?_
                          refine r_put kc9 X hD h 64 12 (by decide) rfl cf524 (by decide) kv_664 rfl rfl rfl (Nat.le_of_ble_eq_true rfl) dX9_lookAt_209 (fun H locs w688 e689 h => ?_)
                          have f690 : w688 64 = .inr (7, [.ref (ad 65), .ref (ad 66), .ref (ad 67), .ref (ad 68), .long x, .long y, .ref (ad 69), .int mb, .ref (ad 70), .ref (ad 71), .int bl, .int C6, .int z686, .int 2, .int 0, .ref (ad 72), .ref (ad 73)]) := (congrFun e689 _).trans (va_up_self _ _ _)
                          have ok691 : OK cI cB cZ cO ad w688 := OK.up ok522 e689 (sM_mk (by omega) (by omega))
                          have kx692 : F6 w w688 := F6.up kx523 e689
                          refine lv_goto (tgt := 136) hx hb dX9_lookAt_212 (by decide) ?_
                          have hs693 : z686.toNatClampNeg = C509.toNatClampNeg := clq (by have q0 : (0 : Int32).toInt = 0 := rfl; omega)
                          have f694 : w688 71 = .inl (cI, 150, .inl bs) := by rw [e689, va_up_ne _ _ (by decide)]; exact cf525
                          exact ih513  (0 : Int32) z686 w688 _ _ _ (by have q0 : (0 : Int32).toInt = 0 := rfl; omega) (by have q0 : (0 : Int32).toInt = 0 := rfl; omega) (by have q0 : (0 : Int32).toInt = 0 := rfl; omega) (by have q0 : (0 : Int32).toInt = 0 := rfl; omega) (by have q0 : (0 : Int32).toInt = 0 := rfl; omega) (fun j p9 q9 => hi520 j p9 (by have q0 : (0 : Int32).toInt = 0 := rfl; omega)) (fun h9 => ⟨by have q0 : (0 : Int32).toInt = 0 := rfl; omega, by rw [hs693, e665]; omega⟩) ok691 kx692 f690 f694 (by have q0 : (0 : Int32).toInt = 0 := rfl; omega) h (lv_sub hl [0, 2, 3, 4] rfl)
                have f695 : w498 71 = .inl (cI, 150, .inl bs) := by rw [e499, va_up_ne _ _ (by decide)]; exact f398
                have f696 : w503 71 = .inl (cI, 150, .inl bs) := by rw [e504, va_up_ne _ _ (by decide)]; exact f695
                exact hloop511 152 (1 : Int32) (1 : Int32) w503 _ _ _ (by have q0 : (1 : Int32).toInt = 1 := rfl; omega) (by have q0 : (1 : Int32).toInt = 1 := rfl; omega) (by have q0 : (1 : Int32).toInt = 1 := rfl; omega) (by have q0 : (1 : Int32).toInt = 1 := rfl; omega) (by have q0 : (1 : Int32).toInt = 1 := rfl; omega) (runI.one (by omega) (by have q0 : (1 : Int32).toInt = 1 := rfl; omega) e377 (dg_t (by omega) (by omega))) (fun h9 => by have q0 : (1 : Int32).toInt = 1 := rfl; omega) ok506 kx507 f505 f696 (by have q0 : (1 : Int32).toInt = 1 := rfl; omega) h (lv_sub hl [0, 1, 2, 3] rfl)
              · refine lv_if_eq (tgt := 103) hx hb dX9_lookAt_96 (by decide) (fun _ => ?_) (fun hc => absurd (by decide) hc)
                refine lv_iload_n hx hb dX9_lookAt_103 rfl (lv_at hl 0 rfl) ?_
                refine lv_bipush (v := 59) hx hb dX9_lookAt_104 (by decide) ?_
                refine lv_icmp_ne (tgt := 113) hx hb dX9_lookAt_106 (by decide) (fun hc697 => ?_) (fun hc697 => ?_)
                · have hc697 : ¬ (v376).toInt = 59 := i_ne hc697 rfl rfl
                  refine lv_iconst (v := 4) hx hb dX9_lookAt_113 (by decide) ?_
                  refine r_put kc9 X hD h 64 13 (by decide) rfl f392 (by decide) kv_665 rfl rfl rfl (Nat.le_of_ble_eq_true rfl) dX9_lookAt_114 (fun H locs w698 e699 h => ?_)
                  have f700 : w698 64 = .inr (7, [.ref (ad 65), .ref (ad 66), .ref (ad 67), .ref (ad 68), .long x, .long y, .ref (ad 69), .int mb, .ref (ad 70), .ref (ad 71), .int bl, .int C6, .int 0, .int 4, .int 0, .ref (ad 72), .ref (ad 73)]) := (congrFun e699 _).trans (va_up_self _ _ _)
                  have ok701 : OK cI cB cZ cO ad w698 := OK.up ok393 e699 (sM_mk (by omega) (by omega))
                  have kx702 : F6 w w698 := F6.up kx394 e699
                  refine lv_aload_n hx hb dX9_lookAt_117 rfl (lv_at hl 1 rfl) ?_
                  refine lv_iconst (v := 1) hx hb dX9_lookAt_118 (by decide) ?_
                  refine r_put kc9 X hD h 64 12 (by decide) rfl f700 (by decide) kv_664 rfl rfl rfl (Nat.le_of_ble_eq_true rfl) dX9_lookAt_119 (fun H locs w703 e704 h => ?_)
                  have f705 : w703 64 = .inr (7, [.ref (ad 65), .ref (ad 66), .ref (ad 67), .ref (ad 68), .long x, .long y, .ref (ad 69), .int mb, .ref (ad 70), .ref (ad 71), .int bl, .int C6, .int 1, .int 4, .int 0, .ref (ad 72), .ref (ad 73)]) := (congrFun e704 _).trans (va_up_self _ _ _)
                  have ok706 : OK cI cB cZ cO ad w703 := OK.up ok701 e704 (sM_mk (by omega) (by omega))
                  have kx707 : F6 w w703 := F6.up kx702 e704
                  refine lv_aload_n hx hb dX9_lookAt_122 rfl (lv_at hl 1 rfl) ?_
                  refine r_get kc9 X h 64 13 (by decide) rfl f705 (by decide) kv_665 rfl dX9_lookAt_123 ?_
                  refine lv_iconst (v := 3) hx hb dX9_lookAt_126 (by decide) ?_
                  refine lv_icmp_ge (tgt := 134) hx hb dX9_lookAt_127 (by decide) (fun _ => ?_) (fun hc => absurd (by decide) hc)
                  refine lv_iconst (v := 0) hx hb dX9_lookAt_134 (by decide) ?_
                  refine lv_istore_n (lv' := [(3, .int 0), (2, .int v376), (0, .ref (ad 64)), (1, .int n)]) hx hb dX9_lookAt_135 rfl hl (by decide) rfl (fun ls hl => ?_)
                  refine lv_iload_n hx hb dX9_lookAt_136 rfl (lv_at hl 0 rfl) ?_
                  refine lv_if_eq (tgt := 215) hx hb dX9_lookAt_137 (by decide) (fun _ => ?_) (fun hc => absurd (by decide) hc)
                  refine lv_iconst (v := 0) hx hb dX9_lookAt_215 (by decide) ?_
                  refine lv_istore (lv' := [(4, .int 0), (3, .int 0), (2, .int v376), (0, .ref (ad 64)), (1, .int n)]) hx hb dX9_lookAt_216 hl (by decide) rfl (fun ls hl => ?_)
                  refine lv_iload hx hb dX9_lookAt_218 (lv_at hl 0 rfl) ?_
                  refine lv_aload_n hx hb dX9_lookAt_220 rfl (lv_at hl 3 rfl) ?_
                  refine r_get kc9 X h 64 12 (by decide) rfl f705 (by decide) kv_664 rfl dX9_lookAt_221 ?_
                  refine lv_icmp_ge (tgt := 274) hx hb dX9_lookAt_224 (by decide) (fun hc => absurd hc (by decide)) (fun _ => ?_)
                  refine lv_iload hx hb dX9_lookAt_227 (lv_at hl 0 rfl) ?_
                  refine lv_iconst (v := 2) hx hb dX9_lookAt_229 (by decide) ?_
                  refine lv_icmp_ge (tgt := 274) hx hb dX9_lookAt_230 (by decide) (fun hc => absurd hc (by decide)) (fun _ => ?_)
                  refine lv_aload_n hx hb dX9_lookAt_233 rfl (lv_at hl 3 rfl) ?_
                  refine r_get kc9 X h 64 13 (by decide) rfl f705 (by decide) kv_665 rfl dX9_lookAt_234 ?_
                  refine lv_iconst (v := 2) hx hb dX9_lookAt_237 (by decide) ?_
                  refine lv_icmp_ne (tgt := 274) hx hb dX9_lookAt_238 (by decide) (fun _ => ?_) (fun hc => absurd hc (by decide))
                  refine lv_aload_n hx hb dX9_lookAt_274 rfl (lv_at hl 3 rfl) ?_
                  refine lv_aload_n hx hb dX9_lookAt_275 rfl (lv_at hl 3 rfl) ?_
                  refine r_get kc9 X h 64 13 (by decide) rfl f705 (by decide) kv_665 rfl dX9_lookAt_276 ?_
                  refine lv_iconst (v := 2) hx hb dX9_lookAt_279 (by decide) ?_
                  refine lv_icmp_ne (tgt := 295) hx hb dX9_lookAt_280 (by decide) (fun _ => ?_) (fun hc => absurd hc (by decide))
                  refine lv_aload_n hx hb dX9_lookAt_295 rfl (lv_at hl 3 rfl) ?_
                  refine r_get kc9 X h 64 13 (by decide) rfl f705 (by decide) kv_665 rfl dX9_lookAt_296 ?_
                  refine r_put kc9 X hD h 64 13 (by decide) rfl f705 (by decide) kv_665 rfl rfl rfl (Nat.le_of_ble_eq_true rfl) dX9_lookAt_299 (fun H locs w708 e709 h => ?_)
                  have f710 : w708 64 = .inr (7, [.ref (ad 65), .ref (ad 66), .ref (ad 67), .ref (ad 68), .long x, .long y, .ref (ad 69), .int mb, .ref (ad 70), .ref (ad 71), .int bl, .int C6, .int 1, .int 4, .int 0, .ref (ad 72), .ref (ad 73)]) := (congrFun e709 _).trans (va_up_self _ _ _)
                  have ok711 : OK cI cB cZ cO ad w708 := OK.up ok706 e709 (sM_mk (by omega) (by omega))
                  have kx712 : F6 w w708 := F6.up kx707 e709
                  have hlk713 : LOOKP bs bl n C6 (1 : Int32) (4 : Int32) (0 : Int32) := by
                    have kc1 : (1 : Int32).toInt = 1 := rfl
                    have kc4 : (4 : Int32).toInt = 4 := rfl
                    have kc0 : (0 : Int32).toInt = 0 := rfl
                    obtain ⟨e9, e9e, e9t⟩ := x_add (x := C6) (y := (1 : Int32)) (a := C6.toInt) (b := (1 : Int32).toInt) rfl rfl (by omega) (by omega)
                    exact LOOKP.of e9t (tok3 (by omega) (by omega) (by omega) (by omega) hi16 e377 (by omega) (by omega) (by omega) (by omega) (Or.inr ⟨by omega, by omega⟩))
                  exact e_v X h hr hlk dX9_lookAt_302 ⟨ok711, kx712, ⟨_, _, _, _, f710, by omega, by omega, by omega, by omega, hlk713⟩⟩
                · have hc697 : (v376).toInt = 59 := i_eq hc697 rfl rfl
                  refine lv_iconst (v := 3) hx hb dX9_lookAt_109 (by decide) ?_
                  refine lv_goto (tgt := 114) hx hb dX9_lookAt_110 (by decide) ?_
                  refine r_put kc9 X hD h 64 13 (by decide) rfl f392 (by decide) kv_665 rfl rfl rfl (Nat.le_of_ble_eq_true rfl) dX9_lookAt_114 (fun H locs w714 e715 h => ?_)
                  have f716 : w714 64 = .inr (7, [.ref (ad 65), .ref (ad 66), .ref (ad 67), .ref (ad 68), .long x, .long y, .ref (ad 69), .int mb, .ref (ad 70), .ref (ad 71), .int bl, .int C6, .int 0, .int 3, .int 0, .ref (ad 72), .ref (ad 73)]) := (congrFun e715 _).trans (va_up_self _ _ _)
                  have ok717 : OK cI cB cZ cO ad w714 := OK.up ok393 e715 (sM_mk (by omega) (by omega))
                  have kx718 : F6 w w714 := F6.up kx394 e715
                  refine lv_aload_n hx hb dX9_lookAt_117 rfl (lv_at hl 1 rfl) ?_
                  refine lv_iconst (v := 1) hx hb dX9_lookAt_118 (by decide) ?_
                  refine r_put kc9 X hD h 64 12 (by decide) rfl f716 (by decide) kv_664 rfl rfl rfl (Nat.le_of_ble_eq_true rfl) dX9_lookAt_119 (fun H locs w719 e720 h => ?_)
                  have f721 : w719 64 = .inr (7, [.ref (ad 65), .ref (ad 66), .ref (ad 67), .ref (ad 68), .long x, .long y, .ref (ad 69), .int mb, .ref (ad 70), .ref (ad 71), .int bl, .int C6, .int 1, .int 3, .int 0, .ref (ad 72), .ref (ad 73)]) := (congrFun e720 _).trans (va_up_self _ _ _)
                  have ok722 : OK cI cB cZ cO ad w719 := OK.up ok717 e720 (sM_mk (by omega) (by omega))
                  have kx723 : F6 w w719 := F6.up kx718 e720
                  refine lv_aload_n hx hb dX9_lookAt_122 rfl (lv_at hl 1 rfl) ?_
                  refine r_get kc9 X h 64 13 (by decide) rfl f721 (by decide) kv_665 rfl dX9_lookAt_123 ?_
                  refine lv_iconst (v := 3) hx hb dX9_lookAt_126 (by decide) ?_
                  refine lv_icmp_ge (tgt := 134) hx hb dX9_lookAt_127 (by decide) (fun _ => ?_) (fun hc => absurd (by decide) hc)
                  refine lv_iconst (v := 0) hx hb dX9_lookAt_134 (by decide) ?_
                  refine lv_istore_n (lv' := [(3, .int 0), (2, .int v376), (0, .ref (ad 64)), (1, .int n)]) hx hb dX9_lookAt_135 rfl hl (by decide) rfl (fun ls hl => ?_)
                  refine lv_iload_n hx hb dX9_lookAt_136 rfl (lv_at hl 0 rfl) ?_
                  refine lv_if_eq (tgt := 215) hx hb dX9_lookAt_137 (by decide) (fun _ => ?_) (fun hc => absurd (by decide) hc)
                  refine lv_iconst (v := 0) hx hb dX9_lookAt_215 (by decide) ?_
                  refine lv_istore (lv' := [(4, .int 0), (3, .int 0), (2, .int v376), (0, .ref (ad 64)), (1, .int n)]) hx hb dX9_lookAt_216 hl (by decide) rfl (fun ls hl => ?_)
                  refine lv_iload hx hb dX9_lookAt_218 (lv_at hl 0 rfl) ?_
                  refine lv_aload_n hx hb dX9_lookAt_220 rfl (lv_at hl 3 rfl) ?_
                  refine r_get kc9 X h 64 12 (by decide) rfl f721 (by decide) kv_664 rfl dX9_lookAt_221 ?_
                  refine lv_icmp_ge (tgt := 274) hx hb dX9_lookAt_224 (by decide) (fun hc => absurd hc (by decide)) (fun _ => ?_)
                  refine lv_iload hx hb dX9_lookAt_227 (lv_at hl 0 rfl) ?_
                  refine lv_iconst (v := 2) hx hb dX9_lookAt_229 (by decide) ?_
                  refine lv_icmp_ge (tgt := 274) hx hb dX9_lookAt_230 (by decide) (fun hc => absurd hc (by decide)) (fun _ => ?_)
                  refine lv_aload_n hx hb dX9_lookAt_233 rfl (lv_at hl 3 rfl) ?_
                  refine r_get kc9 X h 64 13 (by decide) rfl f721 (by decide) kv_665 rfl dX9_lookAt_234 ?_
                  refine lv_iconst (v := 2) hx hb dX9_lookAt_237 (by decide) ?_
                  refine lv_icmp_ne (tgt := 274) hx hb dX9_lookAt_238 (by decide) (fun _ => ?_) (fun hc => absurd hc (by decide))
                  refine lv_aload_n hx hb dX9_lookAt_274 rfl (lv_at hl 3 rfl) ?_
                  refine lv_aload_n hx hb dX9_lookAt_275 rfl (lv_at hl 3 rfl) ?_
                  refine r_get kc9 X h 64 13 (by decide) rfl f721 (by decide) kv_665 rfl dX9_lookAt_276 ?_
                  refine lv_iconst (v := 2) hx hb dX9_lookAt_279 (by decide) ?_
                  refine lv_icmp_ne (tgt := 295) hx hb dX9_lookAt_280 (by decide) (fun _ => ?_) (fun hc => absurd hc (by decide))
                  refine lv_aload_n hx hb dX9_lookAt_295 rfl (lv_at hl 3 rfl) ?_
                  refine r_get kc9 X h 64 13 (by decide) rfl f721 (by decide) kv_665 rfl dX9_lookAt_296 ?_
                  refine r_put kc9 X hD h 64 13 (by decide) rfl f721 (by decide) kv_665 rfl rfl rfl (Nat.le_of_ble_eq_true rfl) dX9_lookAt_299 (fun H locs w724 e725 h => ?_)
                  have f726 : w724 64 = .inr (7, [.ref (ad 65), .ref (ad 66), .ref (ad 67), .ref (ad 68), .long x, .long y, .ref (ad 69), .int mb, .ref (ad 70), .ref (ad 71), .int bl, .int C6, .int 1, .int 3, .int 0, .ref (ad 72), .ref (ad 73)]) := (congrFun e725 _).trans (va_up_self _ _ _)
                  have ok727 : OK cI cB cZ cO ad w724 := OK.up ok722 e725 (sM_mk (by omega) (by omega))
                  have kx728 : F6 w w724 := F6.up kx723 e725
                  have hlk729 : LOOKP bs bl n C6 (1 : Int32) (3 : Int32) (0 : Int32) := by
                    have kc1 : (1 : Int32).toInt = 1 := rfl
                    have kc3 : (3 : Int32).toInt = 3 := rfl
                    have kc0 : (0 : Int32).toInt = 0 := rfl
                    obtain ⟨e9, e9e, e9t⟩ := x_add (x := C6) (y := (1 : Int32)) (a := C6.toInt) (b := (1 : Int32).toInt) rfl rfl (by omega) (by omega)
                    exact LOOKP.of e9t (tok3 (by omega) (by omega) (by omega) (by omega) hi16 e377 (by omega) (by omega) (by omega) (by omega) (Or.inl ⟨by omega, by omega⟩))
                  exact e_v X h hr hlk dX9_lookAt_302 ⟨ok727, kx728, ⟨_, _, _, _, f726, by omega, by omega, by omega, by omega, hlk729⟩⟩
          · have hc395 : (C6).toInt = (bl).toInt := i_eq hc395 rfl rfl
            have hlk730 : LOOKP bs bl n C6 (0 : Int32) (0 : Int32) (0 : Int32) := by
              have kc0 : (0 : Int32).toInt = 0 := rfl
              obtain ⟨e9, e9e, e9t⟩ := x_add (x := C6) (y := (0 : Int32)) (a := C6.toInt) (b := (0 : Int32).toInt) rfl rfl (by omega) (by omega)
              exact LOOKP.of e9t (tok0 (by omega) (by omega) (by omega) (by omega) hi16 (by omega) (by omega))
            exact e_v X h hr hlk dX9_lookAt_69 ⟨ok393, kx394, ⟨_, _, _, _, f392, by omega, by omega, by omega, by omega, hlk730⟩⟩
        · have hc379 : (v376).toInt = 32 := i_eq hc379 rfl rfl
          refine lv_aload_n hx hb dX9_lookAt_30 rfl (lv_at hl 0 rfl) ?_
          refine lv_dup hx hb dX9_lookAt_31 rfl ?_
          refine r_get kc9 X h 64 11 (by decide) rfl cf19 (by decide) kv_663 rfl dX9_lookAt_32 ?_
          refine lv_iconst (v := 1) hx hb dX9_lookAt_35 (by decide) ?_
          obtain ⟨z733, e731, t732⟩ := x_add (x := C6) (y := (1 : Int32)) (a := (C6).toInt) (b := 1) rfl rfl (by omega) (by omega)
          have n734 : z733.toNatClampNeg = C6.toNatClampNeg + 1 := cl_addn (x := C6) (y := (1 : Int32)) rfl rfl t732 (by omega) (by decide)
          refine o_iadd (z := z733) hx hb dX9_lookAt_36 e731 ?_
          refine r_put kc9 X hD h 64 11 (by decide) rfl cf19 (by decide) kv_663 rfl rfl rfl (Nat.le_of_ble_eq_true rfl) dX9_lookAt_37 (fun H locs w735 e736 h => ?_)
          have f737 : w735 64 = .inr (7, [.ref (ad 65), .ref (ad 66), .ref (ad 67), .ref (ad 68), .long x, .long y, .ref (ad 69), .int mb, .ref (ad 70), .ref (ad 71), .int bl, .int z733, .int tl, .int tk, .int va, .ref (ad 72), .ref (ad 73)]) := (congrFun e736 _).trans (va_up_self _ _ _)
          have ok738 : OK cI cB cZ cO ad w735 := OK.up ok17 e736 (sM_mk (by omega) (by omega))
          have kx739 : F6 w w735 := F6.up kx18 e736
          refine lv_goto (tgt := 5) hx hb dX9_lookAt_40 (by decide) ?_
          have f740 : w735 71 = .inl (cI, 150, .inl bs) := by rw [e736, va_up_ne _ _ (by decide)]; exact cf20
          exact ih10  z733 w735 _ _ _ (by omega) (by omega) (by omega) (by omega) (runB.succ hi16 (by omega) (by omega) e377 (sp_t (by omega))) ok738 kx739 f737 f740 (by omega) h (lv_sub hl [0, 1] rfl)
  have f741 : w1 71 = .inl (cI, 150, .inl bs) := by rw [e2, va_up_ne _ _ (by decide)]; exact p71
  exact hloop8 151 n w1 _ _ _ (by omega) (by omega) (by omega) (by omega) runB.nil ok4 kx5 f3 f741 (by omega) h (lv_sub hl [0, 1] rfl)
