set_option maxHeartbeats 4000000 in
set_option maxRecDepth 100000 in
theorem law_few {p : Program} {l : Launch} {e : Env} {s : State} {m : MethodId} {below : List Frame} {meth : Method} {c : Code} {Q : State → Prop} {G : va_G} {cI cB cZ cO : ClassId} {ad : Nat → Nat} {w : Nat → va_E} {b : Nat} {xs : Nat → Int32} (X : Fx p m c code 4 s #[Value.ref b] "NoonShadeLaw" G (tyq cI cB cZ cO) (fun q => s.heap.size ≤ q)) (hD : WD (fun q => s.heap.size ≤ q) 74 ad) (hN : NW s) (F : ∀ k, k < 74 → w k = fr0 cI cB cZ cO ad k) (hX : va_X b 5 xs s s.heap) (hbl : b < s.heap.size) {H : Heap} {locs : List Loc} {ls : Array Slot} (h : St G 74 ad (fun q => s.heap.size ≤ q) s.heap w H locs) (hl : lv_has ls 4 [(0, .ref b), (1, .ref (ad 0)), (2, .ref (ad 64)), (3, .int 0)]) (hend : ∀ (H : Heap) (locs : List Loc), va_S (fun q => s.heap.size ≤ q) s.heap H locs → W p l e room_1 s m #[Value.ref b] below meth c H locs 74 2063 Q (F0 m 1232 ls [])) : W p l e room_1 s m #[Value.ref b] below meth c H locs 74 2063 Q (F0 m 676 ls []) := by
  have hx := X.1.1
  have hb := X.1.2.1
  have hbA : ¬ (fun q => s.heap.size ≤ q) b := Nat.not_le.mpr hbl
  have f0 : w 0 = .inr (6, [.ref (ad 1), .ref (ad 14), .ref (ad 27), .ref (ad 54), .ref (ad 55), .ref (ad 58), .ref (ad 62), .long 0, .long 1, .int 0, .int 0, .int 0]) := F 0 (by decide)
  refine lv_aload_n hx hb dL_law_676 rfl (lv_at hl 1 rfl) ?_
  refine lv_aload_n hx hb dL_law_677 rfl (lv_at hl 0 rfl) ?_
  refine lv_iload_n hx hb dL_law_678 rfl (lv_at hl 3 rfl) ?_
  refine lv_iconst (v := 1) hx hb dL_law_679 (by decide) ?_
  refine o_iadd (z := 1) hx hb dL_law_680 rfl ?_
  refine o_sld (v := xs 1) hx hb hX hbl hbA h.2 (by unfold vp_in; decide) rfl dL_law_681 ?_
  refine lv_aload_n hx hb dL_law_682 rfl (lv_at hl 0 rfl) ?_
  refine lv_iload_n hx hb dL_law_683 rfl (lv_at hl 3 rfl) ?_
  refine lv_iconst (v := 2) hx hb dL_law_684 (by decide) ?_
  refine o_iadd (z := 2) hx hb dL_law_685 rfl ?_
  refine o_sld (v := xs 2) hx hb hX hbl hbA h.2 (by unfold vp_in; decide) rfl dL_law_686 ?_
  refine lv_aload_n hx hb dL_law_687 rfl (lv_at hl 0 rfl) ?_
  refine lv_iload_n hx hb dL_law_688 rfl (lv_at hl 3 rfl) ?_
  refine lv_iconst (v := 3) hx hb dL_law_689 (by decide) ?_
  refine o_iadd (z := 3) hx hb dL_law_690 rfl ?_
  refine o_sld (v := xs 3) hx hb hX hbl hbA h.2 (by unfold vp_in; decide) rfl dL_law_691 ?_
  refine lv_aload_n hx hb dL_law_692 rfl (lv_at hl 0 rfl) ?_
  refine lv_iload_n hx hb dL_law_693 rfl (lv_at hl 3 rfl) ?_
  refine lv_iconst (v := 4) hx hb dL_law_694 (by decide) ?_
  refine o_iadd (z := 4) hx hb dL_law_695 rfl ?_
  refine o_sld (v := xs 4) hx hb hX hbl hbA h.2 (by unfold vp_in; decide) rfl dL_law_696 ?_
  refine q_Vi (na := 4) (As := [.int (xs 1), .int (xs 2), .int (xs 3), .int (xs 4)]) (rest := []) X hD hN h rfl (c_X_few l G cI cB cZ cO ad w F (xs 1) (xs 2) (xs 3) (xs 4)) ⟨kw_488, kw_489, kw_490, kw_14, kw_491⟩ rfl ⟨by decide, by decide, by decide⟩ ⟨Nat.le_of_ble_eq_true rfl, Nat.le_of_ble_eq_true rfl⟩ ⟨Nat.le_of_ble_eq_true rfl, Nat.le_of_ble_eq_true rfl⟩ (by decide) f0 rfl rfl hl.1 rfl (Nat.le_of_ble_eq_true rfl) dL_law_697 (fun r1 w1 H locs hp1 h => ?_)
  obtain ⟨rfl, hfr⟩ := hp1
  have F1 : ∀ k, k < 74 → 64 ≤ k → w1 k = fr0 cI cB cZ cO ad k := fun k h1 h2 => (hfr k h2).trans (F k h1)
  have f64 : w1 64 = .inr (7, [.ref (ad 65), .ref (ad 66), .ref (ad 67), .ref (ad 68), .long 0, .long 1, .ref (ad 69), .int 0, .ref (ad 70), .ref (ad 71), .int 0, .int 0, .int 0, .int 0, .int 0, .ref (ad 72), .ref (ad 73)]) := F1 64 (by decide) (by decide)
  refine lv_aload_n hx hb dL_law_700 rfl (lv_at hl 2 rfl) ?_
  refine lv_aload_n hx hb dL_law_701 rfl (lv_at hl 0 rfl) ?_
  refine lv_iload_n hx hb dL_law_702 rfl (lv_at hl 3 rfl) ?_
  refine lv_iconst (v := 1) hx hb dL_law_703 (by decide) ?_
  refine o_iadd (z := 1) hx hb dL_law_704 rfl ?_
  refine o_sld (v := xs 1) hx hb hX hbl hbA h.2 (by unfold vp_in; decide) rfl dL_law_705 ?_
  refine lv_aload_n hx hb dL_law_706 rfl (lv_at hl 0 rfl) ?_
  refine lv_iload_n hx hb dL_law_707 rfl (lv_at hl 3 rfl) ?_
  refine lv_iconst (v := 2) hx hb dL_law_708 (by decide) ?_
  refine o_iadd (z := 2) hx hb dL_law_709 rfl ?_
  refine o_sld (v := xs 2) hx hb hX hbl hbA h.2 (by unfold vp_in; decide) rfl dL_law_710 ?_
  refine lv_aload_n hx hb dL_law_711 rfl (lv_at hl 0 rfl) ?_
  refine lv_iload_n hx hb dL_law_712 rfl (lv_at hl 3 rfl) ?_
  refine lv_iconst (v := 3) hx hb dL_law_713 (by decide) ?_
  refine o_iadd (z := 3) hx hb dL_law_714 rfl ?_
  refine o_sld (v := xs 3) hx hb hX hbl hbA h.2 (by unfold vp_in; decide) rfl dL_law_715 ?_
  refine lv_aload_n hx hb dL_law_716 rfl (lv_at hl 0 rfl) ?_
  refine lv_iload_n hx hb dL_law_717 rfl (lv_at hl 3 rfl) ?_
  refine lv_iconst (v := 4) hx hb dL_law_718 (by decide) ?_
  refine o_iadd (z := 4) hx hb dL_law_719 rfl ?_
  refine o_sld (v := xs 4) hx hb hX hbl hbA h.2 (by unfold vp_in; decide) rfl dL_law_720 ?_
  refine q_Vi (na := 4) (As := [.int (xs 1), .int (xs 2), .int (xs 3), .int (xs 4)]) (rest := [.int (-2)]) X hD hN h rfl (c_M_few l G cI cB cZ cO ad w1 F1 (xs 1) (xs 2) (xs 3) (xs 4)) ⟨kw_492, kw_493, kw_494, kw_190, kw_495⟩ rfl ⟨by decide, by decide, by decide⟩ ⟨Nat.le_of_ble_eq_true rfl, Nat.le_of_ble_eq_true rfl⟩ ⟨Nat.le_of_ble_eq_true rfl, Nat.le_of_ble_eq_true rfl⟩ (by decide) f64 rfl rfl hl.1 rfl (Nat.le_of_ble_eq_true rfl) dL_law_721 (fun r2 w2 H locs hp2 h => ?_)
  subst hp2
  refine lv_icmp_eq (tgt := 1232) hx hb dL_law_724 (by decide) (fun _ => hend H locs h.2) (fun hc => absurd rfl hc)

set_option maxHeartbeats 4000000 in
set_option maxRecDepth 100000 in
theorem law_into {p : Program} {l : Launch} {e : Env} {s : State} {m : MethodId} {below : List Frame} {meth : Method} {c : Code} {Q : State → Prop} {G : va_G} {cI cB cZ cO : ClassId} {ad : Nat → Nat} {w : Nat → va_E} {b : Nat} {xs : Nat → Int32} (X : Fx p m c code 4 s #[Value.ref b] "NoonShadeLaw" G (tyq cI cB cZ cO) (fun q => s.heap.size ≤ q)) (hD : WD (fun q => s.heap.size ≤ q) 74 ad) (hN : NW s) (F : ∀ k, k < 74 → w k = fr0 cI cB cZ cO ad k) (hX : va_X b 5 xs s s.heap) (hbl : b < s.heap.size) {H : Heap} {locs : List Loc} {ls : Array Slot} (h : St G 74 ad (fun q => s.heap.size ≤ q) s.heap w H locs) (hl : lv_has ls 4 [(0, .ref b), (1, .ref (ad 0)), (2, .ref (ad 64)), (3, .int 0)]) (hend : ∀ (H : Heap) (locs : List Loc), va_S (fun q => s.heap.size ≤ q) s.heap H locs → W p l e room_1 s m #[Value.ref b] below meth c H locs 74 2063 Q (F0 m 1232 ls [])) : W p l e room_1 s m #[Value.ref b] below meth c H locs 74 2063 Q (F0 m 729 ls []) := by
  have hx := X.1.1
  have hb := X.1.2.1
  have hbA : ¬ (fun q => s.heap.size ≤ q) b := Nat.not_le.mpr hbl
  have f0 : w 0 = .inr (6, [.ref (ad 1), .ref (ad 14), .ref (ad 27), .ref (ad 54), .ref (ad 55), .ref (ad 58), .ref (ad 62), .long 0, .long 1, .int 0, .int 0, .int 0]) := F 0 (by decide)
  refine lv_aload_n hx hb dL_law_729 rfl (lv_at hl 1 rfl) ?_
  refine lv_aload_n hx hb dL_law_730 rfl (lv_at hl 0 rfl) ?_
  refine lv_iload_n hx hb dL_law_731 rfl (lv_at hl 3 rfl) ?_
  refine lv_iconst (v := 1) hx hb dL_law_732 (by decide) ?_
  refine o_iadd (z := 1) hx hb dL_law_733 rfl ?_
  refine o_sld (v := xs 1) hx hb hX hbl hbA h.2 (by unfold vp_in; decide) rfl dL_law_734 ?_
  refine lv_aload_n hx hb dL_law_735 rfl (lv_at hl 0 rfl) ?_
  refine lv_iload_n hx hb dL_law_736 rfl (lv_at hl 3 rfl) ?_
  refine lv_iconst (v := 2) hx hb dL_law_737 (by decide) ?_
  refine o_iadd (z := 2) hx hb dL_law_738 rfl ?_
  refine o_sld (v := xs 2) hx hb hX hbl hbA h.2 (by unfold vp_in; decide) rfl dL_law_739 ?_
  refine lv_aload_n hx hb dL_law_740 rfl (lv_at hl 0 rfl) ?_
  refine lv_iload_n hx hb dL_law_741 rfl (lv_at hl 3 rfl) ?_
  refine lv_iconst (v := 3) hx hb dL_law_742 (by decide) ?_
  refine o_iadd (z := 3) hx hb dL_law_743 rfl ?_
  refine o_sld (v := xs 3) hx hb hX hbl hbA h.2 (by unfold vp_in; decide) rfl dL_law_744 ?_
  refine q_Vi (na := 3) (As := [.int (xs 1), .int (xs 2), .int (xs 3)]) (rest := []) X hD hN h rfl (c_X_into l G cI cB cZ cO ad w F (xs 1) (xs 2) (xs 3)) ⟨kw_496, kw_497, kw_498, kw_14, kw_499⟩ rfl ⟨by decide, by decide, by decide⟩ ⟨Nat.le_of_ble_eq_true rfl, Nat.le_of_ble_eq_true rfl⟩ ⟨Nat.le_of_ble_eq_true rfl, Nat.le_of_ble_eq_true rfl⟩ (by decide) f0 rfl rfl hl.1 rfl (Nat.le_of_ble_eq_true rfl) dL_law_745 (fun r1 w1 H locs hp1 h => ?_)
  obtain ⟨rfl, hfr⟩ := hp1
  have F1 : ∀ k, k < 74 → 64 ≤ k → w1 k = fr0 cI cB cZ cO ad k := fun k h1 h2 => (hfr k h2).trans (F k h1)
  have f64 : w1 64 = .inr (7, [.ref (ad 65), .ref (ad 66), .ref (ad 67), .ref (ad 68), .long 0, .long 1, .ref (ad 69), .int 0, .ref (ad 70), .ref (ad 71), .int 0, .int 0, .int 0, .int 0, .int 0, .ref (ad 72), .ref (ad 73)]) := F1 64 (by decide) (by decide)
  refine lv_aload_n hx hb dL_law_748 rfl (lv_at hl 2 rfl) ?_
  refine lv_aload_n hx hb dL_law_749 rfl (lv_at hl 0 rfl) ?_
  refine lv_iload_n hx hb dL_law_750 rfl (lv_at hl 3 rfl) ?_
  refine lv_iconst (v := 1) hx hb dL_law_751 (by decide) ?_
  refine o_iadd (z := 1) hx hb dL_law_752 rfl ?_
  refine o_sld (v := xs 1) hx hb hX hbl hbA h.2 (by unfold vp_in; decide) rfl dL_law_753 ?_
  refine lv_aload_n hx hb dL_law_754 rfl (lv_at hl 0 rfl) ?_
  refine lv_iload_n hx hb dL_law_755 rfl (lv_at hl 3 rfl) ?_
  refine lv_iconst (v := 2) hx hb dL_law_756 (by decide) ?_
  refine o_iadd (z := 2) hx hb dL_law_757 rfl ?_
  refine o_sld (v := xs 2) hx hb hX hbl hbA h.2 (by unfold vp_in; decide) rfl dL_law_758 ?_
  refine lv_aload_n hx hb dL_law_759 rfl (lv_at hl 0 rfl) ?_
  refine lv_iload_n hx hb dL_law_760 rfl (lv_at hl 3 rfl) ?_
  refine lv_iconst (v := 3) hx hb dL_law_761 (by decide) ?_
  refine o_iadd (z := 3) hx hb dL_law_762 rfl ?_
  refine o_sld (v := xs 3) hx hb hX hbl hbA h.2 (by unfold vp_in; decide) rfl dL_law_763 ?_
  refine q_Vi (na := 3) (As := [.int (xs 1), .int (xs 2), .int (xs 3)]) (rest := [.int (-2)]) X hD hN h rfl (c_M_into l G cI cB cZ cO ad w1 F1 (xs 1) (xs 2) (xs 3)) ⟨kw_500, kw_501, kw_502, kw_190, kw_503⟩ rfl ⟨by decide, by decide, by decide⟩ ⟨Nat.le_of_ble_eq_true rfl, Nat.le_of_ble_eq_true rfl⟩ ⟨Nat.le_of_ble_eq_true rfl, Nat.le_of_ble_eq_true rfl⟩ (by decide) f64 rfl rfl hl.1 rfl (Nat.le_of_ble_eq_true rfl) dL_law_764 (fun r2 w2 H locs hp2 h => ?_)
  subst hp2
  refine lv_icmp_eq (tgt := 1232) hx hb dL_law_767 (by decide) (fun _ => hend H locs h.2) (fun hc => absurd rfl hc)

set_option maxHeartbeats 4000000 in
set_option maxRecDepth 100000 in
theorem law_note {p : Program} {l : Launch} {e : Env} {s : State} {m : MethodId} {below : List Frame} {meth : Method} {c : Code} {Q : State → Prop} {G : va_G} {cI cB cZ cO : ClassId} {ad : Nat → Nat} {w : Nat → va_E} {b : Nat} {xs : Nat → Int32} (X : Fx p m c code 4 s #[Value.ref b] "NoonShadeLaw" G (tyq cI cB cZ cO) (fun q => s.heap.size ≤ q)) (hD : WD (fun q => s.heap.size ≤ q) 74 ad) (hN : NW s) (F : ∀ k, k < 74 → w k = fr0 cI cB cZ cO ad k) (hX : va_X b 5 xs s s.heap) (hbl : b < s.heap.size) {H : Heap} {locs : List Loc} {ls : Array Slot} (h : St G 74 ad (fun q => s.heap.size ≤ q) s.heap w H locs) (hl : lv_has ls 4 [(0, .ref b), (1, .ref (ad 0)), (2, .ref (ad 64)), (3, .int 0)]) (hend : ∀ (H : Heap) (locs : List Loc), va_S (fun q => s.heap.size ≤ q) s.heap H locs → W p l e room_1 s m #[Value.ref b] below meth c H locs 74 2063 Q (F0 m 1232 ls [])) : W p l e room_1 s m #[Value.ref b] below meth c H locs 74 2063 Q (F0 m 772 ls []) := by
  have hx := X.1.1
  have hb := X.1.2.1
  have hbA : ¬ (fun q => s.heap.size ≤ q) b := Nat.not_le.mpr hbl
  have f0 : w 0 = .inr (6, [.ref (ad 1), .ref (ad 14), .ref (ad 27), .ref (ad 54), .ref (ad 55), .ref (ad 58), .ref (ad 62), .long 0, .long 1, .int 0, .int 0, .int 0]) := F 0 (by decide)
  refine lv_aload_n hx hb dL_law_772 rfl (lv_at hl 1 rfl) ?_
  refine lv_aload_n hx hb dL_law_773 rfl (lv_at hl 0 rfl) ?_
  refine lv_iload_n hx hb dL_law_774 rfl (lv_at hl 3 rfl) ?_
  refine lv_iconst (v := 1) hx hb dL_law_775 (by decide) ?_
  refine o_iadd (z := 1) hx hb dL_law_776 rfl ?_
  refine o_sld (v := xs 1) hx hb hX hbl hbA h.2 (by unfold vp_in; decide) rfl dL_law_777 ?_
  refine lv_aload_n hx hb dL_law_778 rfl (lv_at hl 0 rfl) ?_
  refine lv_iload_n hx hb dL_law_779 rfl (lv_at hl 3 rfl) ?_
  refine lv_iconst (v := 2) hx hb dL_law_780 (by decide) ?_
  refine o_iadd (z := 2) hx hb dL_law_781 rfl ?_
  refine o_sld (v := xs 2) hx hb hX hbl hbA h.2 (by unfold vp_in; decide) rfl dL_law_782 ?_
  refine lv_aload_n hx hb dL_law_783 rfl (lv_at hl 0 rfl) ?_
  refine lv_iload_n hx hb dL_law_784 rfl (lv_at hl 3 rfl) ?_
  refine lv_iconst (v := 3) hx hb dL_law_785 (by decide) ?_
  refine o_iadd (z := 3) hx hb dL_law_786 rfl ?_
  refine o_sld (v := xs 3) hx hb hX hbl hbA h.2 (by unfold vp_in; decide) rfl dL_law_787 ?_
  refine lv_aload_n hx hb dL_law_788 rfl (lv_at hl 0 rfl) ?_
  refine lv_iload_n hx hb dL_law_789 rfl (lv_at hl 3 rfl) ?_
  refine lv_iconst (v := 4) hx hb dL_law_790 (by decide) ?_
  refine o_iadd (z := 4) hx hb dL_law_791 rfl ?_
  refine o_sld (v := xs 4) hx hb hX hbl hbA h.2 (by unfold vp_in; decide) rfl dL_law_792 ?_
  refine q_Vi (na := 4) (As := [.int (xs 1), .int (xs 2), .int (xs 3), .int (xs 4)]) (rest := []) X hD hN h rfl (c_X_note l G cI cB cZ cO ad w F (xs 1) (xs 2) (xs 3) (xs 4)) ⟨kw_504, kw_505, kw_506, kw_14, kw_507⟩ rfl ⟨by decide, by decide, by decide⟩ ⟨Nat.le_of_ble_eq_true rfl, Nat.le_of_ble_eq_true rfl⟩ ⟨Nat.le_of_ble_eq_true rfl, Nat.le_of_ble_eq_true rfl⟩ (by decide) f0 rfl rfl hl.1 rfl (Nat.le_of_ble_eq_true rfl) dL_law_793 (fun r1 w1 H locs hp1 h => ?_)
  obtain ⟨rfl, hfr⟩ := hp1
  have F1 : ∀ k, k < 74 → 64 ≤ k → w1 k = fr0 cI cB cZ cO ad k := fun k h1 h2 => (hfr k h2).trans (F k h1)
  have f64 : w1 64 = .inr (7, [.ref (ad 65), .ref (ad 66), .ref (ad 67), .ref (ad 68), .long 0, .long 1, .ref (ad 69), .int 0, .ref (ad 70), .ref (ad 71), .int 0, .int 0, .int 0, .int 0, .int 0, .ref (ad 72), .ref (ad 73)]) := F1 64 (by decide) (by decide)
  refine lv_aload_n hx hb dL_law_796 rfl (lv_at hl 2 rfl) ?_
  refine lv_aload_n hx hb dL_law_797 rfl (lv_at hl 0 rfl) ?_
  refine lv_iload_n hx hb dL_law_798 rfl (lv_at hl 3 rfl) ?_
  refine lv_iconst (v := 1) hx hb dL_law_799 (by decide) ?_
  refine o_iadd (z := 1) hx hb dL_law_800 rfl ?_
  refine o_sld (v := xs 1) hx hb hX hbl hbA h.2 (by unfold vp_in; decide) rfl dL_law_801 ?_
  refine lv_aload_n hx hb dL_law_802 rfl (lv_at hl 0 rfl) ?_
  refine lv_iload_n hx hb dL_law_803 rfl (lv_at hl 3 rfl) ?_
  refine lv_iconst (v := 2) hx hb dL_law_804 (by decide) ?_
  refine o_iadd (z := 2) hx hb dL_law_805 rfl ?_
  refine o_sld (v := xs 2) hx hb hX hbl hbA h.2 (by unfold vp_in; decide) rfl dL_law_806 ?_
  refine lv_aload_n hx hb dL_law_807 rfl (lv_at hl 0 rfl) ?_
  refine lv_iload_n hx hb dL_law_808 rfl (lv_at hl 3 rfl) ?_
  refine lv_iconst (v := 3) hx hb dL_law_809 (by decide) ?_
  refine o_iadd (z := 3) hx hb dL_law_810 rfl ?_
  refine o_sld (v := xs 3) hx hb hX hbl hbA h.2 (by unfold vp_in; decide) rfl dL_law_811 ?_
  refine lv_aload_n hx hb dL_law_812 rfl (lv_at hl 0 rfl) ?_
  refine lv_iload_n hx hb dL_law_813 rfl (lv_at hl 3 rfl) ?_
  refine lv_iconst (v := 4) hx hb dL_law_814 (by decide) ?_
  refine o_iadd (z := 4) hx hb dL_law_815 rfl ?_
  refine o_sld (v := xs 4) hx hb hX hbl hbA h.2 (by unfold vp_in; decide) rfl dL_law_816 ?_
  refine q_Vi (na := 4) (As := [.int (xs 1), .int (xs 2), .int (xs 3), .int (xs 4)]) (rest := [.int (-2)]) X hD hN h rfl (c_M_note l G cI cB cZ cO ad w1 F1 (xs 1) (xs 2) (xs 3) (xs 4)) ⟨kw_508, kw_509, kw_510, kw_190, kw_511⟩ rfl ⟨by decide, by decide, by decide⟩ ⟨Nat.le_of_ble_eq_true rfl, Nat.le_of_ble_eq_true rfl⟩ ⟨Nat.le_of_ble_eq_true rfl, Nat.le_of_ble_eq_true rfl⟩ (by decide) f64 rfl rfl hl.1 rfl (Nat.le_of_ble_eq_true rfl) dL_law_817 (fun r2 w2 H locs hp2 h => ?_)
  subst hp2
  refine lv_icmp_eq (tgt := 1232) hx hb dL_law_820 (by decide) (fun _ => hend H locs h.2) (fun hc => absurd rfl hc)

set_option maxHeartbeats 4000000 in
set_option maxRecDepth 100000 in
theorem law_mark {p : Program} {l : Launch} {e : Env} {s : State} {m : MethodId} {below : List Frame} {meth : Method} {c : Code} {Q : State → Prop} {G : va_G} {cI cB cZ cO : ClassId} {ad : Nat → Nat} {w : Nat → va_E} {b : Nat} {xs : Nat → Int32} (X : Fx p m c code 4 s #[Value.ref b] "NoonShadeLaw" G (tyq cI cB cZ cO) (fun q => s.heap.size ≤ q)) (hD : WD (fun q => s.heap.size ≤ q) 74 ad) (hN : NW s) (F : ∀ k, k < 74 → w k = fr0 cI cB cZ cO ad k) (hX : va_X b 5 xs s s.heap) (hbl : b < s.heap.size) {H : Heap} {locs : List Loc} {ls : Array Slot} (h : St G 74 ad (fun q => s.heap.size ≤ q) s.heap w H locs) (hl : lv_has ls 4 [(0, .ref b), (1, .ref (ad 0)), (2, .ref (ad 64)), (3, .int 0)]) (hend : ∀ (H : Heap) (locs : List Loc), va_S (fun q => s.heap.size ≤ q) s.heap H locs → W p l e room_1 s m #[Value.ref b] below meth c H locs 74 2063 Q (F0 m 1232 ls [])) : W p l e room_1 s m #[Value.ref b] below meth c H locs 74 2063 Q (F0 m 825 ls []) := by
  have hx := X.1.1
  have hb := X.1.2.1
  have hbA : ¬ (fun q => s.heap.size ≤ q) b := Nat.not_le.mpr hbl
  have f0 : w 0 = .inr (6, [.ref (ad 1), .ref (ad 14), .ref (ad 27), .ref (ad 54), .ref (ad 55), .ref (ad 58), .ref (ad 62), .long 0, .long 1, .int 0, .int 0, .int 0]) := F 0 (by decide)
  refine lv_aload_n hx hb dL_law_825 rfl (lv_at hl 1 rfl) ?_
  refine lv_aload_n hx hb dL_law_826 rfl (lv_at hl 0 rfl) ?_
  refine lv_iload_n hx hb dL_law_827 rfl (lv_at hl 3 rfl) ?_
  refine lv_iconst (v := 1) hx hb dL_law_828 (by decide) ?_
  refine o_iadd (z := 1) hx hb dL_law_829 rfl ?_
  refine o_sld (v := xs 1) hx hb hX hbl hbA h.2 (by unfold vp_in; decide) rfl dL_law_830 ?_
  refine lv_aload_n hx hb dL_law_831 rfl (lv_at hl 0 rfl) ?_
  refine lv_iload_n hx hb dL_law_832 rfl (lv_at hl 3 rfl) ?_
  refine lv_iconst (v := 2) hx hb dL_law_833 (by decide) ?_
  refine o_iadd (z := 2) hx hb dL_law_834 rfl ?_
  refine o_sld (v := xs 2) hx hb hX hbl hbA h.2 (by unfold vp_in; decide) rfl dL_law_835 ?_
  refine lv_aload_n hx hb dL_law_836 rfl (lv_at hl 0 rfl) ?_
  refine lv_iload_n hx hb dL_law_837 rfl (lv_at hl 3 rfl) ?_
  refine lv_iconst (v := 3) hx hb dL_law_838 (by decide) ?_
  refine o_iadd (z := 3) hx hb dL_law_839 rfl ?_
  refine o_sld (v := xs 3) hx hb hX hbl hbA h.2 (by unfold vp_in; decide) rfl dL_law_840 ?_
  refine lv_aload_n hx hb dL_law_841 rfl (lv_at hl 0 rfl) ?_
  refine lv_iload_n hx hb dL_law_842 rfl (lv_at hl 3 rfl) ?_
  refine lv_iconst (v := 4) hx hb dL_law_843 (by decide) ?_
  refine o_iadd (z := 4) hx hb dL_law_844 rfl ?_
  refine o_sld (v := xs 4) hx hb hX hbl hbA h.2 (by unfold vp_in; decide) rfl dL_law_845 ?_
  refine q_Vi (na := 4) (As := [.int (xs 1), .int (xs 2), .int (xs 3), .int (xs 4)]) (rest := []) X hD hN h rfl (c_X_mark l G cI cB cZ cO ad w F (xs 1) (xs 2) (xs 3) (xs 4)) ⟨kw_512, kw_513, kw_514, kw_14, kw_515⟩ rfl ⟨by decide, by decide, by decide⟩ ⟨Nat.le_of_ble_eq_true rfl, Nat.le_of_ble_eq_true rfl⟩ ⟨Nat.le_of_ble_eq_true rfl, Nat.le_of_ble_eq_true rfl⟩ (by decide) f0 rfl rfl hl.1 rfl (Nat.le_of_ble_eq_true rfl) dL_law_846 (fun r1 w1 H locs hp1 h => ?_)
  obtain ⟨rfl, hfr⟩ := hp1
  have F1 : ∀ k, k < 74 → 64 ≤ k → w1 k = fr0 cI cB cZ cO ad k := fun k h1 h2 => (hfr k h2).trans (F k h1)
  have f64 : w1 64 = .inr (7, [.ref (ad 65), .ref (ad 66), .ref (ad 67), .ref (ad 68), .long 0, .long 1, .ref (ad 69), .int 0, .ref (ad 70), .ref (ad 71), .int 0, .int 0, .int 0, .int 0, .int 0, .ref (ad 72), .ref (ad 73)]) := F1 64 (by decide) (by decide)
  refine lv_aload_n hx hb dL_law_849 rfl (lv_at hl 2 rfl) ?_
  refine lv_aload_n hx hb dL_law_850 rfl (lv_at hl 0 rfl) ?_
  refine lv_iload_n hx hb dL_law_851 rfl (lv_at hl 3 rfl) ?_
  refine lv_iconst (v := 1) hx hb dL_law_852 (by decide) ?_
  refine o_iadd (z := 1) hx hb dL_law_853 rfl ?_
  refine o_sld (v := xs 1) hx hb hX hbl hbA h.2 (by unfold vp_in; decide) rfl dL_law_854 ?_
  refine lv_aload_n hx hb dL_law_855 rfl (lv_at hl 0 rfl) ?_
  refine lv_iload_n hx hb dL_law_856 rfl (lv_at hl 3 rfl) ?_
  refine lv_iconst (v := 2) hx hb dL_law_857 (by decide) ?_
  refine o_iadd (z := 2) hx hb dL_law_858 rfl ?_
  refine o_sld (v := xs 2) hx hb hX hbl hbA h.2 (by unfold vp_in; decide) rfl dL_law_859 ?_
  refine lv_aload_n hx hb dL_law_860 rfl (lv_at hl 0 rfl) ?_
  refine lv_iload_n hx hb dL_law_861 rfl (lv_at hl 3 rfl) ?_
  refine lv_iconst (v := 3) hx hb dL_law_862 (by decide) ?_
  refine o_iadd (z := 3) hx hb dL_law_863 rfl ?_
  refine o_sld (v := xs 3) hx hb hX hbl hbA h.2 (by unfold vp_in; decide) rfl dL_law_864 ?_
  refine lv_aload_n hx hb dL_law_865 rfl (lv_at hl 0 rfl) ?_
  refine lv_iload_n hx hb dL_law_866 rfl (lv_at hl 3 rfl) ?_
  refine lv_iconst (v := 4) hx hb dL_law_867 (by decide) ?_
  refine o_iadd (z := 4) hx hb dL_law_868 rfl ?_
  refine o_sld (v := xs 4) hx hb hX hbl hbA h.2 (by unfold vp_in; decide) rfl dL_law_869 ?_
  refine q_Vi (na := 4) (As := [.int (xs 1), .int (xs 2), .int (xs 3), .int (xs 4)]) (rest := [.int (-2)]) X hD hN h rfl (c_M_mark l G cI cB cZ cO ad w1 F1 (xs 1) (xs 2) (xs 3) (xs 4)) ⟨kw_516, kw_517, kw_518, kw_190, kw_519⟩ rfl ⟨by decide, by decide, by decide⟩ ⟨Nat.le_of_ble_eq_true rfl, Nat.le_of_ble_eq_true rfl⟩ ⟨Nat.le_of_ble_eq_true rfl, Nat.le_of_ble_eq_true rfl⟩ (by decide) f64 rfl rfl hl.1 rfl (Nat.le_of_ble_eq_true rfl) dL_law_870 (fun r2 w2 H locs hp2 h => ?_)
  subst hp2
  refine lv_icmp_eq (tgt := 1232) hx hb dL_law_873 (by decide) (fun _ => hend H locs h.2) (fun hc => absurd rfl hc)

set_option maxHeartbeats 4000000 in
set_option maxRecDepth 100000 in
theorem law_forget {p : Program} {l : Launch} {e : Env} {s : State} {m : MethodId} {below : List Frame} {meth : Method} {c : Code} {Q : State → Prop} {G : va_G} {cI cB cZ cO : ClassId} {ad : Nat → Nat} {w : Nat → va_E} {b : Nat} {xs : Nat → Int32} (X : Fx p m c code 4 s #[Value.ref b] "NoonShadeLaw" G (tyq cI cB cZ cO) (fun q => s.heap.size ≤ q)) (hD : WD (fun q => s.heap.size ≤ q) 74 ad) (hN : NW s) (F : ∀ k, k < 74 → w k = fr0 cI cB cZ cO ad k) (hX : va_X b 5 xs s s.heap) (hbl : b < s.heap.size) {H : Heap} {locs : List Loc} {ls : Array Slot} (h : St G 74 ad (fun q => s.heap.size ≤ q) s.heap w H locs) (hl : lv_has ls 4 [(0, .ref b), (1, .ref (ad 0)), (2, .ref (ad 64)), (3, .int 0)]) (hend : ∀ (H : Heap) (locs : List Loc), va_S (fun q => s.heap.size ≤ q) s.heap H locs → W p l e room_1 s m #[Value.ref b] below meth c H locs 74 2063 Q (F0 m 1232 ls [])) : W p l e room_1 s m #[Value.ref b] below meth c H locs 74 2063 Q (F0 m 878 ls []) := by
  have hx := X.1.1
  have hb := X.1.2.1
  have hbA : ¬ (fun q => s.heap.size ≤ q) b := Nat.not_le.mpr hbl
  have f0 : w 0 = .inr (6, [.ref (ad 1), .ref (ad 14), .ref (ad 27), .ref (ad 54), .ref (ad 55), .ref (ad 58), .ref (ad 62), .long 0, .long 1, .int 0, .int 0, .int 0]) := F 0 (by decide)
  refine lv_aload_n hx hb dL_law_878 rfl (lv_at hl 1 rfl) ?_
  refine lv_aload_n hx hb dL_law_879 rfl (lv_at hl 0 rfl) ?_
  refine lv_iload_n hx hb dL_law_880 rfl (lv_at hl 3 rfl) ?_
  refine lv_iconst (v := 1) hx hb dL_law_881 (by decide) ?_
  refine o_iadd (z := 1) hx hb dL_law_882 rfl ?_
  refine o_sld (v := xs 1) hx hb hX hbl hbA h.2 (by unfold vp_in; decide) rfl dL_law_883 ?_
  refine q_Vi (na := 1) (As := [.int (xs 1)]) (rest := []) X hD hN h rfl (c_X_forget l G cI cB cZ cO ad w F (xs 1)) ⟨kw_520, kw_521, kw_522, kw_14, kw_523⟩ rfl ⟨by decide, by decide, by decide⟩ ⟨Nat.le_of_ble_eq_true rfl, Nat.le_of_ble_eq_true rfl⟩ ⟨Nat.le_of_ble_eq_true rfl, Nat.le_of_ble_eq_true rfl⟩ (by decide) f0 rfl rfl hl.1 rfl (Nat.le_of_ble_eq_true rfl) dL_law_884 (fun r1 w1 H locs hp1 h => ?_)
  obtain ⟨a0, a1, hfr⟩ := hp1
  have F1 : ∀ k, k < 74 → 64 ≤ k → w1 k = fr0 cI cB cZ cO ad k := fun k h1 h2 => (hfr k h2).trans (F k h1)
  have f64 : w1 64 = .inr (7, [.ref (ad 65), .ref (ad 66), .ref (ad 67), .ref (ad 68), .long 0, .long 1, .ref (ad 69), .int 0, .ref (ad 70), .ref (ad 71), .int 0, .int 0, .int 0, .int 0, .int 0, .ref (ad 72), .ref (ad 73)]) := F1 64 (by decide) (by decide)
  refine lv_aload_n hx hb dL_law_887 rfl (lv_at hl 2 rfl) ?_
  refine lv_aload_n hx hb dL_law_888 rfl (lv_at hl 0 rfl) ?_
  refine lv_iload_n hx hb dL_law_889 rfl (lv_at hl 3 rfl) ?_
  refine lv_iconst (v := 1) hx hb dL_law_890 (by decide) ?_
  refine o_iadd (z := 1) hx hb dL_law_891 rfl ?_
  refine o_sld (v := xs 1) hx hb hX hbl hbA h.2 (by unfold vp_in; decide) rfl dL_law_892 ?_
  refine q_Vi (na := 1) (As := [.int (xs 1)]) (rest := [.int r1]) X hD hN h rfl (c_M_forget l G cI cB cZ cO ad w1 F1 (xs 1)) ⟨kw_524, kw_525, kw_526, kw_190, kw_527⟩ rfl ⟨by decide, by decide, by decide⟩ ⟨Nat.le_of_ble_eq_true rfl, Nat.le_of_ble_eq_true rfl⟩ ⟨Nat.le_of_ble_eq_true rfl, Nat.le_of_ble_eq_true rfl⟩ (by decide) f64 rfl rfl hl.1 rfl (Nat.le_of_ble_eq_true rfl) dL_law_893 (fun r2 w2 H locs hp2 h => ?_)
  obtain ⟨b0, b1⟩ := hp2
  have he : r1 = r2 := by
    by_cases g0 : (xs 1).toInt = 0 ∨ (xs 1).toInt = 1
    · exact (a0 g0).trans (b0 g0).symm
    exact (a1 (by omega)).trans (b1 (by omega)).symm
  refine lv_icmp_eq (tgt := 1232) hx hb dL_law_896 (by decide) (fun _ => hend H locs h.2) (fun hc => absurd he hc)

set_option maxHeartbeats 4000000 in
set_option maxRecDepth 100000 in
theorem law_is {p : Program} {l : Launch} {e : Env} {s : State} {m : MethodId} {below : List Frame} {meth : Method} {c : Code} {Q : State → Prop} {G : va_G} {cI cB cZ cO : ClassId} {ad : Nat → Nat} {w : Nat → va_E} {b : Nat} {xs : Nat → Int32} (X : Fx p m c code 4 s #[Value.ref b] "NoonShadeLaw" G (tyq cI cB cZ cO) (fun q => s.heap.size ≤ q)) (hD : WD (fun q => s.heap.size ≤ q) 74 ad) (hN : NW s) (F : ∀ k, k < 74 → w k = fr0 cI cB cZ cO ad k) (hX : va_X b 5 xs s s.heap) (hbl : b < s.heap.size) {H : Heap} {locs : List Loc} {ls : Array Slot} (h : St G 74 ad (fun q => s.heap.size ≤ q) s.heap w H locs) (hl : lv_has ls 4 [(0, .ref b), (1, .ref (ad 0)), (2, .ref (ad 64)), (3, .int 0)]) (hend : ∀ (H : Heap) (locs : List Loc), va_S (fun q => s.heap.size ≤ q) s.heap H locs → W p l e room_1 s m #[Value.ref b] below meth c H locs 74 2063 Q (F0 m 1232 ls [])) : W p l e room_1 s m #[Value.ref b] below meth c H locs 74 2063 Q (F0 m 901 ls []) := by
  have hx := X.1.1
  have hb := X.1.2.1
  have hbA : ¬ (fun q => s.heap.size ≤ q) b := Nat.not_le.mpr hbl
  have f0 : w 0 = .inr (6, [.ref (ad 1), .ref (ad 14), .ref (ad 27), .ref (ad 54), .ref (ad 55), .ref (ad 58), .ref (ad 62), .long 0, .long 1, .int 0, .int 0, .int 0]) := F 0 (by decide)
  refine lv_aload_n hx hb dL_law_901 rfl (lv_at hl 1 rfl) ?_
  refine lv_aload_n hx hb dL_law_902 rfl (lv_at hl 0 rfl) ?_
  refine lv_iload_n hx hb dL_law_903 rfl (lv_at hl 3 rfl) ?_
  refine lv_iconst (v := 1) hx hb dL_law_904 (by decide) ?_
  refine o_iadd (z := 1) hx hb dL_law_905 rfl ?_
  refine o_sld (v := xs 1) hx hb hX hbl hbA h.2 (by unfold vp_in; decide) rfl dL_law_906 ?_
  refine q_Vi (na := 1) (As := [.int (xs 1)]) (rest := []) X hD hN h rfl (c_X_is l G cI cB cZ cO ad w F (xs 1)) ⟨kw_528, kw_529, kw_530, kw_14, kw_531⟩ rfl ⟨by decide, by decide, by decide⟩ ⟨Nat.le_of_ble_eq_true rfl, Nat.le_of_ble_eq_true rfl⟩ ⟨Nat.le_of_ble_eq_true rfl, Nat.le_of_ble_eq_true rfl⟩ (by decide) f0 rfl rfl hl.1 rfl (Nat.le_of_ble_eq_true rfl) dL_law_907 (fun r1 w1 H locs hp1 h => ?_)
  obtain ⟨rfl, hfr⟩ := hp1
  have F1 : ∀ k, k < 74 → 64 ≤ k → w1 k = fr0 cI cB cZ cO ad k := fun k h1 h2 => (hfr k h2).trans (F k h1)
  have f64 : w1 64 = .inr (7, [.ref (ad 65), .ref (ad 66), .ref (ad 67), .ref (ad 68), .long 0, .long 1, .ref (ad 69), .int 0, .ref (ad 70), .ref (ad 71), .int 0, .int 0, .int 0, .int 0, .int 0, .ref (ad 72), .ref (ad 73)]) := F1 64 (by decide) (by decide)
  refine lv_aload_n hx hb dL_law_910 rfl (lv_at hl 2 rfl) ?_
  refine lv_aload_n hx hb dL_law_911 rfl (lv_at hl 0 rfl) ?_
  refine lv_iload_n hx hb dL_law_912 rfl (lv_at hl 3 rfl) ?_
  refine lv_iconst (v := 1) hx hb dL_law_913 (by decide) ?_
  refine o_iadd (z := 1) hx hb dL_law_914 rfl ?_
  refine o_sld (v := xs 1) hx hb hX hbl hbA h.2 (by unfold vp_in; decide) rfl dL_law_915 ?_
  refine q_Vi (na := 1) (As := [.int (xs 1)]) (rest := [.int (-2)]) X hD hN h rfl (c_M_is l G cI cB cZ cO ad w1 F1 (xs 1)) ⟨kw_532, kw_533, kw_534, kw_190, kw_535⟩ rfl ⟨by decide, by decide, by decide⟩ ⟨Nat.le_of_ble_eq_true rfl, Nat.le_of_ble_eq_true rfl⟩ ⟨Nat.le_of_ble_eq_true rfl, Nat.le_of_ble_eq_true rfl⟩ (by decide) f64 rfl rfl hl.1 rfl (Nat.le_of_ble_eq_true rfl) dL_law_916 (fun r2 w2 H locs hp2 h => ?_)
  subst hp2
  refine lv_icmp_eq (tgt := 1232) hx hb dL_law_919 (by decide) (fun _ => hend H locs h.2) (fun hc => absurd rfl hc)

set_option maxHeartbeats 4000000 in
set_option maxRecDepth 100000 in
theorem law_look {p : Program} {l : Launch} {e : Env} {s : State} {m : MethodId} {below : List Frame} {meth : Method} {c : Code} {Q : State → Prop} {G : va_G} {cI cB cZ cO : ClassId} {ad : Nat → Nat} {w : Nat → va_E} {b : Nat} {xs : Nat → Int32} (X : Fx p m c code 4 s #[Value.ref b] "NoonShadeLaw" G (tyq cI cB cZ cO) (fun q => s.heap.size ≤ q)) (hD : WD (fun q => s.heap.size ≤ q) 74 ad) (hN : NW s) (F : ∀ k, k < 74 → w k = fr0 cI cB cZ cO ad k) (hX : va_X b 5 xs s s.heap) (hbl : b < s.heap.size) {H : Heap} {locs : List Loc} {ls : Array Slot} (h : St G 74 ad (fun q => s.heap.size ≤ q) s.heap w H locs) (hl : lv_has ls 4 [(0, .ref b), (1, .ref (ad 0)), (2, .ref (ad 64)), (3, .int 0)]) (hend : ∀ (H : Heap) (locs : List Loc), va_S (fun q => s.heap.size ≤ q) s.heap H locs → W p l e room_1 s m #[Value.ref b] below meth c H locs 74 2063 Q (F0 m 1232 ls [])) : W p l e room_1 s m #[Value.ref b] below meth c H locs 74 2063 Q (F0 m 924 ls []) := by
  have hx := X.1.1
  have hb := X.1.2.1
  have hbA : ¬ (fun q => s.heap.size ≤ q) b := Nat.not_le.mpr hbl
  have f0 : w 0 = .inr (6, [.ref (ad 1), .ref (ad 14), .ref (ad 27), .ref (ad 54), .ref (ad 55), .ref (ad 58), .ref (ad 62), .long 0, .long 1, .int 0, .int 0, .int 0]) := F 0 (by decide)
  refine lv_aload_n hx hb dL_law_924 rfl (lv_at hl 1 rfl) ?_
  refine lv_aload_n hx hb dL_law_925 rfl (lv_at hl 0 rfl) ?_
  refine lv_iload_n hx hb dL_law_926 rfl (lv_at hl 3 rfl) ?_
  refine lv_iconst (v := 1) hx hb dL_law_927 (by decide) ?_
  refine o_iadd (z := 1) hx hb dL_law_928 rfl ?_
  refine o_sld (v := xs 1) hx hb hX hbl hbA h.2 (by unfold vp_in; decide) rfl dL_law_929 ?_
  refine q_Vi (na := 1) (As := [.int (xs 1)]) (rest := []) X hD hN h rfl (c_X_look l G cI cB cZ cO ad w F (xs 1)) ⟨kw_536, kw_537, kw_538, kw_14, kw_539⟩ rfl ⟨by decide, by decide, by decide⟩ ⟨Nat.le_of_ble_eq_true rfl, Nat.le_of_ble_eq_true rfl⟩ ⟨Nat.le_of_ble_eq_true rfl, Nat.le_of_ble_eq_true rfl⟩ (by decide) f0 rfl rfl hl.1 rfl (Nat.le_of_ble_eq_true rfl) dL_law_930 (fun r1 w1 H locs hp1 h => ?_)
  obtain ⟨rfl, hfr⟩ := hp1
  have F1 : ∀ k, k < 74 → 64 ≤ k → w1 k = fr0 cI cB cZ cO ad k := fun k h1 h2 => (hfr k h2).trans (F k h1)
  have f64 : w1 64 = .inr (7, [.ref (ad 65), .ref (ad 66), .ref (ad 67), .ref (ad 68), .long 0, .long 1, .ref (ad 69), .int 0, .ref (ad 70), .ref (ad 71), .int 0, .int 0, .int 0, .int 0, .int 0, .ref (ad 72), .ref (ad 73)]) := F1 64 (by decide) (by decide)
  refine lv_aload_n hx hb dL_law_933 rfl (lv_at hl 2 rfl) ?_
  refine lv_aload_n hx hb dL_law_934 rfl (lv_at hl 0 rfl) ?_
  refine lv_iload_n hx hb dL_law_935 rfl (lv_at hl 3 rfl) ?_
  refine lv_iconst (v := 1) hx hb dL_law_936 (by decide) ?_
  refine o_iadd (z := 1) hx hb dL_law_937 rfl ?_
  refine o_sld (v := xs 1) hx hb hX hbl hbA h.2 (by unfold vp_in; decide) rfl dL_law_938 ?_
  refine q_Vi (na := 1) (As := [.int (xs 1)]) (rest := [.int (-2)]) X hD hN h rfl (c_M_look l G cI cB cZ cO ad w1 F1 (xs 1)) ⟨kw_540, kw_541, kw_542, kw_190, kw_543⟩ rfl ⟨by decide, by decide, by decide⟩ ⟨Nat.le_of_ble_eq_true rfl, Nat.le_of_ble_eq_true rfl⟩ ⟨Nat.le_of_ble_eq_true rfl, Nat.le_of_ble_eq_true rfl⟩ (by decide) f64 rfl rfl hl.1 rfl (Nat.le_of_ble_eq_true rfl) dL_law_939 (fun r2 w2 H locs hp2 h => ?_)
  subst hp2
  refine lv_icmp_eq (tgt := 1232) hx hb dL_law_942 (by decide) (fun _ => hend H locs h.2) (fun hc => absurd rfl hc)

set_option maxHeartbeats 4000000 in
set_option maxRecDepth 100000 in
theorem law_kinds {p : Program} {l : Launch} {e : Env} {s : State} {m : MethodId} {below : List Frame} {meth : Method} {c : Code} {Q : State → Prop} {G : va_G} {cI cB cZ cO : ClassId} {ad : Nat → Nat} {w : Nat → va_E} {b : Nat} {xs : Nat → Int32} (X : Fx p m c code 4 s #[Value.ref b] "NoonShadeLaw" G (tyq cI cB cZ cO) (fun q => s.heap.size ≤ q)) (hD : WD (fun q => s.heap.size ≤ q) 74 ad) (hN : NW s) (F : ∀ k, k < 74 → w k = fr0 cI cB cZ cO ad k) (hX : va_X b 5 xs s s.heap) (hbl : b < s.heap.size) {H : Heap} {locs : List Loc} {ls : Array Slot} (h : St G 74 ad (fun q => s.heap.size ≤ q) s.heap w H locs) (hl : lv_has ls 4 [(0, .ref b), (1, .ref (ad 0)), (2, .ref (ad 64)), (3, .int 0)]) (hend : ∀ (H : Heap) (locs : List Loc), va_S (fun q => s.heap.size ≤ q) s.heap H locs → W p l e room_1 s m #[Value.ref b] below meth c H locs 74 2063 Q (F0 m 1232 ls [])) : W p l e room_1 s m #[Value.ref b] below meth c H locs 74 2063 Q (F0 m 947 ls []) := by
  have hx := X.1.1
  have hb := X.1.2.1
  have hbA : ¬ (fun q => s.heap.size ≤ q) b := Nat.not_le.mpr hbl
  have f0 : w 0 = .inr (6, [.ref (ad 1), .ref (ad 14), .ref (ad 27), .ref (ad 54), .ref (ad 55), .ref (ad 58), .ref (ad 62), .long 0, .long 1, .int 0, .int 0, .int 0]) := F 0 (by decide)
  refine lv_aload_n hx hb dL_law_947 rfl (lv_at hl 1 rfl) ?_
  refine lv_aload_n hx hb dL_law_948 rfl (lv_at hl 0 rfl) ?_
  refine lv_iload_n hx hb dL_law_949 rfl (lv_at hl 3 rfl) ?_
  refine lv_iconst (v := 1) hx hb dL_law_950 (by decide) ?_
  refine o_iadd (z := 1) hx hb dL_law_951 rfl ?_
  refine o_sld (v := xs 1) hx hb hX hbl hbA h.2 (by unfold vp_in; decide) rfl dL_law_952 ?_
  refine q_Vi (na := 1) (As := [.int (xs 1)]) (rest := []) X hD hN h rfl (c_X_kinds l G cI cB cZ cO ad w F (xs 1)) ⟨kw_544, kw_545, kw_546, kw_14, kw_547⟩ rfl ⟨by decide, by decide, by decide⟩ ⟨Nat.le_of_ble_eq_true rfl, Nat.le_of_ble_eq_true rfl⟩ ⟨Nat.le_of_ble_eq_true rfl, Nat.le_of_ble_eq_true rfl⟩ (by decide) f0 rfl rfl hl.1 rfl (Nat.le_of_ble_eq_true rfl) dL_law_953 (fun r1 w1 H locs hp1 h => ?_)
  obtain ⟨rfl, hfr⟩ := hp1
  have F1 : ∀ k, k < 74 → 64 ≤ k → w1 k = fr0 cI cB cZ cO ad k := fun k h1 h2 => (hfr k h2).trans (F k h1)
  have f64 : w1 64 = .inr (7, [.ref (ad 65), .ref (ad 66), .ref (ad 67), .ref (ad 68), .long 0, .long 1, .ref (ad 69), .int 0, .ref (ad 70), .ref (ad 71), .int 0, .int 0, .int 0, .int 0, .int 0, .ref (ad 72), .ref (ad 73)]) := F1 64 (by decide) (by decide)
  refine lv_aload_n hx hb dL_law_956 rfl (lv_at hl 2 rfl) ?_
  refine lv_aload_n hx hb dL_law_957 rfl (lv_at hl 0 rfl) ?_
  refine lv_iload_n hx hb dL_law_958 rfl (lv_at hl 3 rfl) ?_
  refine lv_iconst (v := 1) hx hb dL_law_959 (by decide) ?_
  refine o_iadd (z := 1) hx hb dL_law_960 rfl ?_
  refine o_sld (v := xs 1) hx hb hX hbl hbA h.2 (by unfold vp_in; decide) rfl dL_law_961 ?_
  refine q_Vi (na := 1) (As := [.int (xs 1)]) (rest := [.int (-2)]) X hD hN h rfl (c_M_kinds l G cI cB cZ cO ad w1 F1 (xs 1)) ⟨kw_548, kw_549, kw_550, kw_190, kw_551⟩ rfl ⟨by decide, by decide, by decide⟩ ⟨Nat.le_of_ble_eq_true rfl, Nat.le_of_ble_eq_true rfl⟩ ⟨Nat.le_of_ble_eq_true rfl, Nat.le_of_ble_eq_true rfl⟩ (by decide) f64 rfl rfl hl.1 rfl (Nat.le_of_ble_eq_true rfl) dL_law_962 (fun r2 w2 H locs hp2 h => ?_)
  subst hp2
  refine lv_icmp_eq (tgt := 1232) hx hb dL_law_965 (by decide) (fun _ => hend H locs h.2) (fun hc => absurd rfl hc)

set_option maxHeartbeats 4000000 in
set_option maxRecDepth 100000 in
theorem law_ask {p : Program} {l : Launch} {e : Env} {s : State} {m : MethodId} {below : List Frame} {meth : Method} {c : Code} {Q : State → Prop} {G : va_G} {cI cB cZ cO : ClassId} {ad : Nat → Nat} {w : Nat → va_E} {b : Nat} {xs : Nat → Int32} (X : Fx p m c code 4 s #[Value.ref b] "NoonShadeLaw" G (tyq cI cB cZ cO) (fun q => s.heap.size ≤ q)) (hD : WD (fun q => s.heap.size ≤ q) 74 ad) (hN : NW s) (F : ∀ k, k < 74 → w k = fr0 cI cB cZ cO ad k) (hX : va_X b 5 xs s s.heap) (hbl : b < s.heap.size) {H : Heap} {locs : List Loc} {ls : Array Slot} (h : St G 74 ad (fun q => s.heap.size ≤ q) s.heap w H locs) (hl : lv_has ls 4 [(0, .ref b), (1, .ref (ad 0)), (2, .ref (ad 64)), (3, .int 0)]) (hend : ∀ (H : Heap) (locs : List Loc), va_S (fun q => s.heap.size ≤ q) s.heap H locs → W p l e room_1 s m #[Value.ref b] below meth c H locs 74 2063 Q (F0 m 1232 ls [])) : W p l e room_1 s m #[Value.ref b] below meth c H locs 74 2063 Q (F0 m 970 ls []) := by
  have hx := X.1.1
  have hb := X.1.2.1
  have hbA : ¬ (fun q => s.heap.size ≤ q) b := Nat.not_le.mpr hbl
  have f0 : w 0 = .inr (6, [.ref (ad 1), .ref (ad 14), .ref (ad 27), .ref (ad 54), .ref (ad 55), .ref (ad 58), .ref (ad 62), .long 0, .long 1, .int 0, .int 0, .int 0]) := F 0 (by decide)
  refine lv_aload_n hx hb dL_law_970 rfl (lv_at hl 1 rfl) ?_
  refine lv_aload_n hx hb dL_law_971 rfl (lv_at hl 0 rfl) ?_
  refine lv_iload_n hx hb dL_law_972 rfl (lv_at hl 3 rfl) ?_
  refine lv_iconst (v := 1) hx hb dL_law_973 (by decide) ?_
  refine o_iadd (z := 1) hx hb dL_law_974 rfl ?_
  refine o_sld (v := xs 1) hx hb hX hbl hbA h.2 (by unfold vp_in; decide) rfl dL_law_975 ?_
  refine q_Vi (na := 1) (As := [.int (xs 1)]) (rest := []) X hD hN h rfl (c_X_ask l G cI cB cZ cO ad w F (xs 1)) ⟨kw_552, kw_553, kw_554, kw_14, kw_555⟩ rfl ⟨by decide, by decide, by decide⟩ ⟨Nat.le_of_ble_eq_true rfl, Nat.le_of_ble_eq_true rfl⟩ ⟨Nat.le_of_ble_eq_true rfl, Nat.le_of_ble_eq_true rfl⟩ (by decide) f0 rfl rfl hl.1 rfl (Nat.le_of_ble_eq_true rfl) dL_law_976 (fun r1 w1 H locs hp1 h => ?_)
  obtain ⟨rfl, hfr⟩ := hp1
  have F1 : ∀ k, k < 74 → 64 ≤ k → w1 k = fr0 cI cB cZ cO ad k := fun k h1 h2 => (hfr k h2).trans (F k h1)
  have f64 : w1 64 = .inr (7, [.ref (ad 65), .ref (ad 66), .ref (ad 67), .ref (ad 68), .long 0, .long 1, .ref (ad 69), .int 0, .ref (ad 70), .ref (ad 71), .int 0, .int 0, .int 0, .int 0, .int 0, .ref (ad 72), .ref (ad 73)]) := F1 64 (by decide) (by decide)
  refine lv_aload_n hx hb dL_law_979 rfl (lv_at hl 2 rfl) ?_
  refine lv_aload_n hx hb dL_law_980 rfl (lv_at hl 0 rfl) ?_
  refine lv_iload_n hx hb dL_law_981 rfl (lv_at hl 3 rfl) ?_
  refine lv_iconst (v := 1) hx hb dL_law_982 (by decide) ?_
  refine o_iadd (z := 1) hx hb dL_law_983 rfl ?_
  refine o_sld (v := xs 1) hx hb hX hbl hbA h.2 (by unfold vp_in; decide) rfl dL_law_984 ?_
  refine q_Vi (na := 1) (As := [.int (xs 1)]) (rest := [.int (-2)]) X hD hN h rfl (c_M_ask l G cI cB cZ cO ad w1 F1 (xs 1)) ⟨kw_556, kw_557, kw_558, kw_190, kw_559⟩ rfl ⟨by decide, by decide, by decide⟩ ⟨Nat.le_of_ble_eq_true rfl, Nat.le_of_ble_eq_true rfl⟩ ⟨Nat.le_of_ble_eq_true rfl, Nat.le_of_ble_eq_true rfl⟩ (by decide) f64 rfl rfl hl.1 rfl (Nat.le_of_ble_eq_true rfl) dL_law_985 (fun r2 w2 H locs hp2 h => ?_)
  subst hp2
  refine lv_icmp_eq (tgt := 1232) hx hb dL_law_988 (by decide) (fun _ => hend H locs h.2) (fun hc => absurd rfl hc)

set_option maxHeartbeats 4000000 in
set_option maxRecDepth 100000 in
theorem law_two {p : Program} {l : Launch} {e : Env} {s : State} {m : MethodId} {below : List Frame} {meth : Method} {c : Code} {Q : State → Prop} {G : va_G} {cI cB cZ cO : ClassId} {ad : Nat → Nat} {w : Nat → va_E} {b : Nat} {xs : Nat → Int32} (X : Fx p m c code 4 s #[Value.ref b] "NoonShadeLaw" G (tyq cI cB cZ cO) (fun q => s.heap.size ≤ q)) (hD : WD (fun q => s.heap.size ≤ q) 74 ad) (hN : NW s) (F : ∀ k, k < 74 → w k = fr0 cI cB cZ cO ad k) (hX : va_X b 5 xs s s.heap) (hbl : b < s.heap.size) {H : Heap} {locs : List Loc} {ls : Array Slot} (h : St G 74 ad (fun q => s.heap.size ≤ q) s.heap w H locs) (hl : lv_has ls 4 [(0, .ref b), (1, .ref (ad 0)), (2, .ref (ad 64)), (3, .int 0)]) (hend : ∀ (H : Heap) (locs : List Loc), va_S (fun q => s.heap.size ≤ q) s.heap H locs → W p l e room_1 s m #[Value.ref b] below meth c H locs 74 2063 Q (F0 m 1232 ls [])) : W p l e room_1 s m #[Value.ref b] below meth c H locs 74 2063 Q (F0 m 993 ls []) := by
  have hx := X.1.1
  have hb := X.1.2.1
  have hbA : ¬ (fun q => s.heap.size ≤ q) b := Nat.not_le.mpr hbl
  have f0 : w 0 = .inr (6, [.ref (ad 1), .ref (ad 14), .ref (ad 27), .ref (ad 54), .ref (ad 55), .ref (ad 58), .ref (ad 62), .long 0, .long 1, .int 0, .int 0, .int 0]) := F 0 (by decide)
  refine lv_aload_n hx hb dL_law_993 rfl (lv_at hl 1 rfl) ?_
  refine lv_aload_n hx hb dL_law_994 rfl (lv_at hl 0 rfl) ?_
  refine lv_iload_n hx hb dL_law_995 rfl (lv_at hl 3 rfl) ?_
  refine lv_iconst (v := 1) hx hb dL_law_996 (by decide) ?_
  refine o_iadd (z := 1) hx hb dL_law_997 rfl ?_
  refine o_sld (v := xs 1) hx hb hX hbl hbA h.2 (by unfold vp_in; decide) rfl dL_law_998 ?_
  refine q_Vi (na := 1) (As := [.int (xs 1)]) (rest := []) X hD hN h rfl (c_X_two l G cI cB cZ cO ad w F (xs 1)) ⟨kw_560, kw_561, kw_562, kw_14, kw_563⟩ rfl ⟨by decide, by decide, by decide⟩ ⟨Nat.le_of_ble_eq_true rfl, Nat.le_of_ble_eq_true rfl⟩ ⟨Nat.le_of_ble_eq_true rfl, Nat.le_of_ble_eq_true rfl⟩ (by decide) f0 rfl rfl hl.1 rfl (Nat.le_of_ble_eq_true rfl) dL_law_999 (fun r1 w1 H locs hp1 h => ?_)
  obtain ⟨a0, a1, a2, hfr⟩ := hp1
  have F1 : ∀ k, k < 74 → 64 ≤ k → w1 k = fr0 cI cB cZ cO ad k := fun k h1 h2 => (hfr k h2).trans (F k h1)
  have f64 : w1 64 = .inr (7, [.ref (ad 65), .ref (ad 66), .ref (ad 67), .ref (ad 68), .long 0, .long 1, .ref (ad 69), .int 0, .ref (ad 70), .ref (ad 71), .int 0, .int 0, .int 0, .int 0, .int 0, .ref (ad 72), .ref (ad 73)]) := F1 64 (by decide) (by decide)
  refine lv_aload_n hx hb dL_law_1002 rfl (lv_at hl 2 rfl) ?_
  refine lv_aload_n hx hb dL_law_1003 rfl (lv_at hl 0 rfl) ?_
  refine lv_iload_n hx hb dL_law_1004 rfl (lv_at hl 3 rfl) ?_
  refine lv_iconst (v := 1) hx hb dL_law_1005 (by decide) ?_
  refine o_iadd (z := 1) hx hb dL_law_1006 rfl ?_
  refine o_sld (v := xs 1) hx hb hX hbl hbA h.2 (by unfold vp_in; decide) rfl dL_law_1007 ?_
  refine q_Vi (na := 1) (As := [.int (xs 1)]) (rest := [.int r1]) X hD hN h rfl (c_M_two l G cI cB cZ cO ad w1 F1 (xs 1)) ⟨kw_564, kw_565, kw_566, kw_190, kw_567⟩ rfl ⟨by decide, by decide, by decide⟩ ⟨Nat.le_of_ble_eq_true rfl, Nat.le_of_ble_eq_true rfl⟩ ⟨Nat.le_of_ble_eq_true rfl, Nat.le_of_ble_eq_true rfl⟩ (by decide) f64 rfl rfl hl.1 rfl (Nat.le_of_ble_eq_true rfl) dL_law_1008 (fun r2 w2 H locs hp2 h => ?_)
  obtain ⟨b0, b1, b2⟩ := hp2
  have he : r1 = r2 := by
    by_cases g0 : (xs 1).toInt < -1
    · exact (a0 g0).trans (b0 g0).symm
    by_cases g1 : (xs 1).toInt = -1
    · exact (a1 g1).trans (b1 g1).symm
    exact (a2 (by omega)).trans (b2 (by omega)).symm
  refine lv_icmp_eq (tgt := 1232) hx hb dL_law_1011 (by decide) (fun _ => hend H locs h.2) (fun hc => absurd he hc)

set_option maxHeartbeats 4000000 in
set_option maxRecDepth 100000 in
theorem law_spilt {p : Program} {l : Launch} {e : Env} {s : State} {m : MethodId} {below : List Frame} {meth : Method} {c : Code} {Q : State → Prop} {G : va_G} {cI cB cZ cO : ClassId} {ad : Nat → Nat} {w : Nat → va_E} {b : Nat} {xs : Nat → Int32} (X : Fx p m c code 4 s #[Value.ref b] "NoonShadeLaw" G (tyq cI cB cZ cO) (fun q => s.heap.size ≤ q)) (hD : WD (fun q => s.heap.size ≤ q) 74 ad) (hN : NW s) (F : ∀ k, k < 74 → w k = fr0 cI cB cZ cO ad k) (hX : va_X b 5 xs s s.heap) (hbl : b < s.heap.size) {H : Heap} {locs : List Loc} {ls : Array Slot} (h : St G 74 ad (fun q => s.heap.size ≤ q) s.heap w H locs) (hl : lv_has ls 4 [(0, .ref b), (1, .ref (ad 0)), (2, .ref (ad 64)), (3, .int 0)]) (hend : ∀ (H : Heap) (locs : List Loc), va_S (fun q => s.heap.size ≤ q) s.heap H locs → W p l e room_1 s m #[Value.ref b] below meth c H locs 74 2063 Q (F0 m 1232 ls [])) : W p l e room_1 s m #[Value.ref b] below meth c H locs 74 2063 Q (F0 m 1016 ls []) := by
  have hx := X.1.1
  have hb := X.1.2.1
  have hbA : ¬ (fun q => s.heap.size ≤ q) b := Nat.not_le.mpr hbl
  have f0 : w 0 = .inr (6, [.ref (ad 1), .ref (ad 14), .ref (ad 27), .ref (ad 54), .ref (ad 55), .ref (ad 58), .ref (ad 62), .long 0, .long 1, .int 0, .int 0, .int 0]) := F 0 (by decide)
  refine lv_aload_n hx hb dL_law_1016 rfl (lv_at hl 1 rfl) ?_
  refine lv_aload_n hx hb dL_law_1017 rfl (lv_at hl 0 rfl) ?_
  refine lv_iload_n hx hb dL_law_1018 rfl (lv_at hl 3 rfl) ?_
  refine lv_iconst (v := 1) hx hb dL_law_1019 (by decide) ?_
  refine o_iadd (z := 1) hx hb dL_law_1020 rfl ?_
  refine o_sld (v := xs 1) hx hb hX hbl hbA h.2 (by unfold vp_in; decide) rfl dL_law_1021 ?_
  refine lv_aload_n hx hb dL_law_1022 rfl (lv_at hl 0 rfl) ?_
  refine lv_iload_n hx hb dL_law_1023 rfl (lv_at hl 3 rfl) ?_
  refine lv_iconst (v := 2) hx hb dL_law_1024 (by decide) ?_
  refine o_iadd (z := 2) hx hb dL_law_1025 rfl ?_
  refine o_sld (v := xs 2) hx hb hX hbl hbA h.2 (by unfold vp_in; decide) rfl dL_law_1026 ?_
  refine lv_aload_n hx hb dL_law_1027 rfl (lv_at hl 0 rfl) ?_
  refine lv_iload_n hx hb dL_law_1028 rfl (lv_at hl 3 rfl) ?_
  refine lv_iconst (v := 3) hx hb dL_law_1029 (by decide) ?_
  refine o_iadd (z := 3) hx hb dL_law_1030 rfl ?_
  refine o_sld (v := xs 3) hx hb hX hbl hbA h.2 (by unfold vp_in; decide) rfl dL_law_1031 ?_
  refine lv_aload_n hx hb dL_law_1032 rfl (lv_at hl 0 rfl) ?_
  refine lv_iload_n hx hb dL_law_1033 rfl (lv_at hl 3 rfl) ?_
  refine lv_iconst (v := 4) hx hb dL_law_1034 (by decide) ?_
  refine o_iadd (z := 4) hx hb dL_law_1035 rfl ?_
  refine o_sld (v := xs 4) hx hb hX hbl hbA h.2 (by unfold vp_in; decide) rfl dL_law_1036 ?_
  refine q_Vi (na := 4) (As := [.int (xs 1), .int (xs 2), .int (xs 3), .int (xs 4)]) (rest := []) X hD hN h rfl (c_X_spilt l G cI cB cZ cO ad w F (xs 1) (xs 2) (xs 3) (xs 4)) ⟨kw_568, kw_569, kw_570, kw_14, kw_571⟩ rfl ⟨by decide, by decide, by decide⟩ ⟨Nat.le_of_ble_eq_true rfl, Nat.le_of_ble_eq_true rfl⟩ ⟨Nat.le_of_ble_eq_true rfl, Nat.le_of_ble_eq_true rfl⟩ (by decide) f0 rfl rfl hl.1 rfl (Nat.le_of_ble_eq_true rfl) dL_law_1037 (fun r1 w1 H locs hp1 h => ?_)
  obtain ⟨rfl, hfr⟩ := hp1
  have F1 : ∀ k, k < 74 → 64 ≤ k → w1 k = fr0 cI cB cZ cO ad k := fun k h1 h2 => (hfr k h2).trans (F k h1)
  have f64 : w1 64 = .inr (7, [.ref (ad 65), .ref (ad 66), .ref (ad 67), .ref (ad 68), .long 0, .long 1, .ref (ad 69), .int 0, .ref (ad 70), .ref (ad 71), .int 0, .int 0, .int 0, .int 0, .int 0, .ref (ad 72), .ref (ad 73)]) := F1 64 (by decide) (by decide)
  refine lv_aload_n hx hb dL_law_1040 rfl (lv_at hl 2 rfl) ?_
  refine lv_aload_n hx hb dL_law_1041 rfl (lv_at hl 0 rfl) ?_
  refine lv_iload_n hx hb dL_law_1042 rfl (lv_at hl 3 rfl) ?_
  refine lv_iconst (v := 1) hx hb dL_law_1043 (by decide) ?_
  refine o_iadd (z := 1) hx hb dL_law_1044 rfl ?_
  refine o_sld (v := xs 1) hx hb hX hbl hbA h.2 (by unfold vp_in; decide) rfl dL_law_1045 ?_
  refine lv_aload_n hx hb dL_law_1046 rfl (lv_at hl 0 rfl) ?_
  refine lv_iload_n hx hb dL_law_1047 rfl (lv_at hl 3 rfl) ?_
  refine lv_iconst (v := 2) hx hb dL_law_1048 (by decide) ?_
  refine o_iadd (z := 2) hx hb dL_law_1049 rfl ?_
  refine o_sld (v := xs 2) hx hb hX hbl hbA h.2 (by unfold vp_in; decide) rfl dL_law_1050 ?_
  refine lv_aload_n hx hb dL_law_1051 rfl (lv_at hl 0 rfl) ?_
  refine lv_iload_n hx hb dL_law_1052 rfl (lv_at hl 3 rfl) ?_
  refine lv_iconst (v := 3) hx hb dL_law_1053 (by decide) ?_
  refine o_iadd (z := 3) hx hb dL_law_1054 rfl ?_
  refine o_sld (v := xs 3) hx hb hX hbl hbA h.2 (by unfold vp_in; decide) rfl dL_law_1055 ?_
  refine lv_aload_n hx hb dL_law_1056 rfl (lv_at hl 0 rfl) ?_
  refine lv_iload_n hx hb dL_law_1057 rfl (lv_at hl 3 rfl) ?_
  refine lv_iconst (v := 4) hx hb dL_law_1058 (by decide) ?_
  refine o_iadd (z := 4) hx hb dL_law_1059 rfl ?_
  refine o_sld (v := xs 4) hx hb hX hbl hbA h.2 (by unfold vp_in; decide) rfl dL_law_1060 ?_
  refine q_Vi (na := 4) (As := [.int (xs 1), .int (xs 2), .int (xs 3), .int (xs 4)]) (rest := [.int (-2)]) X hD hN h rfl (c_M_spilt l G cI cB cZ cO ad w1 F1 (xs 1) (xs 2) (xs 3) (xs 4)) ⟨kw_572, kw_573, kw_574, kw_190, kw_575⟩ rfl ⟨by decide, by decide, by decide⟩ ⟨Nat.le_of_ble_eq_true rfl, Nat.le_of_ble_eq_true rfl⟩ ⟨Nat.le_of_ble_eq_true rfl, Nat.le_of_ble_eq_true rfl⟩ (by decide) f64 rfl rfl hl.1 rfl (Nat.le_of_ble_eq_true rfl) dL_law_1061 (fun r2 w2 H locs hp2 h => ?_)
  subst hp2
  refine lv_icmp_eq (tgt := 1232) hx hb dL_law_1064 (by decide) (fun _ => hend H locs h.2) (fun hc => absurd rfl hc)

set_option maxHeartbeats 4000000 in
set_option maxRecDepth 100000 in
theorem law_noons {p : Program} {l : Launch} {e : Env} {s : State} {m : MethodId} {below : List Frame} {meth : Method} {c : Code} {Q : State → Prop} {G : va_G} {cI cB cZ cO : ClassId} {ad : Nat → Nat} {w : Nat → va_E} {b : Nat} {xs : Nat → Int32} (X : Fx p m c code 4 s #[Value.ref b] "NoonShadeLaw" G (tyq cI cB cZ cO) (fun q => s.heap.size ≤ q)) (hD : WD (fun q => s.heap.size ≤ q) 74 ad) (hN : NW s) (F : ∀ k, k < 74 → w k = fr0 cI cB cZ cO ad k) (hX : va_X b 5 xs s s.heap) (hbl : b < s.heap.size) {H : Heap} {locs : List Loc} {ls : Array Slot} (h : St G 74 ad (fun q => s.heap.size ≤ q) s.heap w H locs) (hl : lv_has ls 4 [(0, .ref b), (1, .ref (ad 0)), (2, .ref (ad 64)), (3, .int 0)]) (hend : ∀ (H : Heap) (locs : List Loc), va_S (fun q => s.heap.size ≤ q) s.heap H locs → W p l e room_1 s m #[Value.ref b] below meth c H locs 74 2063 Q (F0 m 1232 ls [])) : W p l e room_1 s m #[Value.ref b] below meth c H locs 74 2063 Q (F0 m 1069 ls []) := by
  have hx := X.1.1
  have hb := X.1.2.1
  have hbA : ¬ (fun q => s.heap.size ≤ q) b := Nat.not_le.mpr hbl
  have f0 : w 0 = .inr (6, [.ref (ad 1), .ref (ad 14), .ref (ad 27), .ref (ad 54), .ref (ad 55), .ref (ad 58), .ref (ad 62), .long 0, .long 1, .int 0, .int 0, .int 0]) := F 0 (by decide)
  refine lv_aload_n hx hb dL_law_1069 rfl (lv_at hl 1 rfl) ?_
  refine lv_aload_n hx hb dL_law_1070 rfl (lv_at hl 0 rfl) ?_
  refine lv_iload_n hx hb dL_law_1071 rfl (lv_at hl 3 rfl) ?_
  refine lv_iconst (v := 1) hx hb dL_law_1072 (by decide) ?_
  refine o_iadd (z := 1) hx hb dL_law_1073 rfl ?_
  refine o_sld (v := xs 1) hx hb hX hbl hbA h.2 (by unfold vp_in; decide) rfl dL_law_1074 ?_
  refine lv_aload_n hx hb dL_law_1075 rfl (lv_at hl 0 rfl) ?_
  refine lv_iload_n hx hb dL_law_1076 rfl (lv_at hl 3 rfl) ?_
  refine lv_iconst (v := 2) hx hb dL_law_1077 (by decide) ?_
  refine o_iadd (z := 2) hx hb dL_law_1078 rfl ?_
  refine o_sld (v := xs 2) hx hb hX hbl hbA h.2 (by unfold vp_in; decide) rfl dL_law_1079 ?_
  refine q_Vi (na := 2) (As := [.int (xs 1), .int (xs 2)]) (rest := []) X hD hN h rfl (c_X_noons l G cI cB cZ cO ad w F (xs 1) (xs 2)) ⟨kw_576, kw_577, kw_578, kw_14, kw_579⟩ rfl ⟨by decide, by decide, by decide⟩ ⟨Nat.le_of_ble_eq_true rfl, Nat.le_of_ble_eq_true rfl⟩ ⟨Nat.le_of_ble_eq_true rfl, Nat.le_of_ble_eq_true rfl⟩ (by decide) f0 rfl rfl hl.1 rfl (Nat.le_of_ble_eq_true rfl) dL_law_1080 (fun r1 w1 H locs hp1 h => ?_)
  obtain ⟨a0, a1, hfr⟩ := hp1
  have F1 : ∀ k, k < 74 → 64 ≤ k → w1 k = fr0 cI cB cZ cO ad k := fun k h1 h2 => (hfr k h2).trans (F k h1)
  have f64 : w1 64 = .inr (7, [.ref (ad 65), .ref (ad 66), .ref (ad 67), .ref (ad 68), .long 0, .long 1, .ref (ad 69), .int 0, .ref (ad 70), .ref (ad 71), .int 0, .int 0, .int 0, .int 0, .int 0, .ref (ad 72), .ref (ad 73)]) := F1 64 (by decide) (by decide)
  refine lv_aload_n hx hb dL_law_1083 rfl (lv_at hl 2 rfl) ?_
  refine lv_aload_n hx hb dL_law_1084 rfl (lv_at hl 0 rfl) ?_
  refine lv_iload_n hx hb dL_law_1085 rfl (lv_at hl 3 rfl) ?_
  refine lv_iconst (v := 1) hx hb dL_law_1086 (by decide) ?_
  refine o_iadd (z := 1) hx hb dL_law_1087 rfl ?_
  refine o_sld (v := xs 1) hx hb hX hbl hbA h.2 (by unfold vp_in; decide) rfl dL_law_1088 ?_
  refine lv_aload_n hx hb dL_law_1089 rfl (lv_at hl 0 rfl) ?_
  refine lv_iload_n hx hb dL_law_1090 rfl (lv_at hl 3 rfl) ?_
  refine lv_iconst (v := 2) hx hb dL_law_1091 (by decide) ?_
  refine o_iadd (z := 2) hx hb dL_law_1092 rfl ?_
  refine o_sld (v := xs 2) hx hb hX hbl hbA h.2 (by unfold vp_in; decide) rfl dL_law_1093 ?_
  refine q_Vi (na := 2) (As := [.int (xs 1), .int (xs 2)]) (rest := [.int r1]) X hD hN h rfl (c_M_noons l G cI cB cZ cO ad w1 F1 (xs 1) (xs 2)) ⟨kw_580, kw_581, kw_582, kw_190, kw_583⟩ rfl ⟨by decide, by decide, by decide⟩ ⟨Nat.le_of_ble_eq_true rfl, Nat.le_of_ble_eq_true rfl⟩ ⟨Nat.le_of_ble_eq_true rfl, Nat.le_of_ble_eq_true rfl⟩ (by decide) f64 rfl rfl hl.1 rfl (Nat.le_of_ble_eq_true rfl) dL_law_1094 (fun r2 w2 H locs hp2 h => ?_)
  obtain ⟨b0, b1⟩ := hp2
  have he : r1 = r2 := by
    by_cases g0 : 0 ≤ (xs 1).toInt ∧ (xs 1).toInt ≤ 999999 ∧ 0 ≤ (xs 2).toInt ∧ (xs 2).toInt ≤ 60
    · exact (a0 g0).trans (b0 g0).symm
    exact (a1 (by omega)).trans (b1 (by omega)).symm
  refine lv_icmp_eq (tgt := 1232) hx hb dL_law_1097 (by decide) (fun _ => hend H locs h.2) (fun hc => absurd he hc)

set_option maxHeartbeats 4000000 in
set_option maxRecDepth 100000 in
theorem law_part {p : Program} {l : Launch} {e : Env} {s : State} {m : MethodId} {below : List Frame} {meth : Method} {c : Code} {Q : State → Prop} {G : va_G} {cI cB cZ cO : ClassId} {ad : Nat → Nat} {w : Nat → va_E} {b : Nat} {xs : Nat → Int32} (X : Fx p m c code 4 s #[Value.ref b] "NoonShadeLaw" G (tyq cI cB cZ cO) (fun q => s.heap.size ≤ q)) (hD : WD (fun q => s.heap.size ≤ q) 74 ad) (hN : NW s) (F : ∀ k, k < 74 → w k = fr0 cI cB cZ cO ad k) (hX : va_X b 5 xs s s.heap) (hbl : b < s.heap.size) {H : Heap} {locs : List Loc} {ls : Array Slot} (h : St G 74 ad (fun q => s.heap.size ≤ q) s.heap w H locs) (hl : lv_has ls 4 [(0, .ref b), (1, .ref (ad 0)), (2, .ref (ad 64)), (3, .int 0)]) (hend : ∀ (H : Heap) (locs : List Loc), va_S (fun q => s.heap.size ≤ q) s.heap H locs → W p l e room_1 s m #[Value.ref b] below meth c H locs 74 2063 Q (F0 m 1232 ls [])) : W p l e room_1 s m #[Value.ref b] below meth c H locs 74 2063 Q (F0 m 1102 ls []) := by
  have hx := X.1.1
  have hb := X.1.2.1
  have hbA : ¬ (fun q => s.heap.size ≤ q) b := Nat.not_le.mpr hbl
  have f0 : w 0 = .inr (6, [.ref (ad 1), .ref (ad 14), .ref (ad 27), .ref (ad 54), .ref (ad 55), .ref (ad 58), .ref (ad 62), .long 0, .long 1, .int 0, .int 0, .int 0]) := F 0 (by decide)
  refine lv_aload_n hx hb dL_law_1102 rfl (lv_at hl 1 rfl) ?_
  refine lv_aload_n hx hb dL_law_1103 rfl (lv_at hl 0 rfl) ?_
  refine lv_iload_n hx hb dL_law_1104 rfl (lv_at hl 3 rfl) ?_
  refine lv_iconst (v := 1) hx hb dL_law_1105 (by decide) ?_
  refine o_iadd (z := 1) hx hb dL_law_1106 rfl ?_
  refine o_sld (v := xs 1) hx hb hX hbl hbA h.2 (by unfold vp_in; decide) rfl dL_law_1107 ?_
  refine q_Vl (na := 1) (As := [.int (xs 1)]) (rest := []) X hD hN h rfl (c_X_part l G cI cB cZ cO ad w F (xs 1)) ⟨kw_584, kw_585, kw_586, kw_14, kw_587⟩ rfl ⟨by decide, by decide, by decide⟩ ⟨Nat.le_of_ble_eq_true rfl, Nat.le_of_ble_eq_true rfl⟩ ⟨Nat.le_of_ble_eq_true rfl, Nat.le_of_ble_eq_true rfl⟩ (by decide) f0 rfl rfl hl.1 rfl (Nat.le_of_ble_eq_true rfl) dL_law_1108 (fun r1 w1 H locs hp1 h => ?_)
  obtain ⟨a0, a1, a2, hfr⟩ := hp1
  have F1 : ∀ k, k < 74 → 64 ≤ k → w1 k = fr0 cI cB cZ cO ad k := fun k h1 h2 => (hfr k h2).trans (F k h1)
  have f64 : w1 64 = .inr (7, [.ref (ad 65), .ref (ad 66), .ref (ad 67), .ref (ad 68), .long 0, .long 1, .ref (ad 69), .int 0, .ref (ad 70), .ref (ad 71), .int 0, .int 0, .int 0, .int 0, .int 0, .ref (ad 72), .ref (ad 73)]) := F1 64 (by decide) (by decide)
  refine lv_aload_n hx hb dL_law_1111 rfl (lv_at hl 2 rfl) ?_
  refine lv_aload_n hx hb dL_law_1112 rfl (lv_at hl 0 rfl) ?_
  refine lv_iload_n hx hb dL_law_1113 rfl (lv_at hl 3 rfl) ?_
  refine lv_iconst (v := 1) hx hb dL_law_1114 (by decide) ?_
  refine o_iadd (z := 1) hx hb dL_law_1115 rfl ?_
  refine o_sld (v := xs 1) hx hb hX hbl hbA h.2 (by unfold vp_in; decide) rfl dL_law_1116 ?_
  refine q_Vl (na := 1) (As := [.int (xs 1)]) (rest := [.long r1]) X hD hN h rfl (c_M_part l G cI cB cZ cO ad w1 F1 (xs 1)) ⟨kw_588, kw_589, kw_590, kw_190, kw_591⟩ rfl ⟨by decide, by decide, by decide⟩ ⟨Nat.le_of_ble_eq_true rfl, Nat.le_of_ble_eq_true rfl⟩ ⟨Nat.le_of_ble_eq_true rfl, Nat.le_of_ble_eq_true rfl⟩ (by decide) f64 rfl rfl hl.1 rfl (Nat.le_of_ble_eq_true rfl) dL_law_1117 (fun r2 w2 H locs hp2 h => ?_)
  obtain ⟨b0, b1, b2⟩ := hp2
  have he : r1 = r2 := by
    by_cases g0 : (xs 1).toInt = 0
    · exact (a0 g0).trans (b0 g0).symm
    by_cases g1 : (xs 1).toInt = 1
    · exact (a1 g1).trans (b1 g1).symm
    exact (a2 (by omega)).trans (b2 (by omega)).symm
  refine W.lcmp hx hb dL_law_1120 ?_
  refine lv_if_eq (tgt := 1232) hx hb dL_law_1121 (by decide) (fun _ => hend H locs h.2) (fun hc => absurd ((lg_cmp_eq _ _).mpr he) hc)

set_option maxHeartbeats 4000000 in
set_option maxRecDepth 100000 in
theorem law_image0 {p : Program} {l : Launch} {e : Env} {s : State} {m : MethodId} {below : List Frame} {meth : Method} {c : Code} {Q : State → Prop} {G : va_G} {cI cB cZ cO : ClassId} {ad : Nat → Nat} {w : Nat → va_E} {b : Nat} {xs : Nat → Int32} (X : Fx p m c code 4 s #[Value.ref b] "NoonShadeLaw" G (tyq cI cB cZ cO) (fun q => s.heap.size ≤ q)) (hD : WD (fun q => s.heap.size ≤ q) 74 ad) (hN : NW s) (F : ∀ k, k < 74 → w k = fr0 cI cB cZ cO ad k) (hX : va_X b 5 xs s s.heap) (hbl : b < s.heap.size) {H : Heap} {locs : List Loc} {ls : Array Slot} (h : St G 74 ad (fun q => s.heap.size ≤ q) s.heap w H locs) (hl : lv_has ls 4 [(0, .ref b), (1, .ref (ad 0)), (2, .ref (ad 64)), (3, .int 0)]) (hend : ∀ (H : Heap) (locs : List Loc), va_S (fun q => s.heap.size ≤ q) s.heap H locs → W p l e room_1 s m #[Value.ref b] below meth c H locs 74 2063 Q (F0 m 1232 ls [])) (hq : xs 1 = 0) : W p l e room_1 s m #[Value.ref b] below meth c H locs 74 2063 Q (F0 m 1126 ls []) := by
  have hx := X.1.1
  have hb := X.1.2.1
  have hbA : ¬ (fun q => s.heap.size ≤ q) b := Nat.not_le.mpr hbl
  have f0 : w 0 = .inr (6, [.ref (ad 1), .ref (ad 14), .ref (ad 27), .ref (ad 54), .ref (ad 55), .ref (ad 58), .ref (ad 62), .long 0, .long 1, .int 0, .int 0, .int 0]) := F 0 (by decide)
  refine lv_aload_n hx hb dL_law_1126 rfl (lv_at hl 1 rfl) ?_
  refine lv_aload_n hx hb dL_law_1127 rfl (lv_at hl 0 rfl) ?_
  refine lv_iload_n hx hb dL_law_1128 rfl (lv_at hl 3 rfl) ?_
  refine lv_iconst (v := 1) hx hb dL_law_1129 (by decide) ?_
  refine o_iadd (z := 1) hx hb dL_law_1130 rfl ?_
  refine o_sld (v := 0) hx hb hX hbl hbA h.2 (by unfold vp_in; decide) hq dL_law_1131 ?_
  refine q_Vi (na := 1) (As := [.int 0]) (rest := []) X hD hN h rfl (c_X_image0 l G cI cB cZ cO ad w F) ⟨kw_592, kw_593, kw_594, kw_14, kw_595⟩ rfl ⟨by decide, by decide, by decide⟩ ⟨Nat.le_of_ble_eq_true rfl, Nat.le_of_ble_eq_true rfl⟩ ⟨Nat.le_of_ble_eq_true rfl, Nat.le_of_ble_eq_true rfl⟩ (by decide) f0 rfl rfl hl.1 rfl (Nat.le_of_ble_eq_true rfl) dL_law_1132 (fun r1 w1 H locs hp1 h => ?_)
  obtain ⟨rfl, hfr⟩ := hp1
  have F1 : ∀ k, k < 74 → 64 ≤ k → w1 k = fr0 cI cB cZ cO ad k := fun k h1 h2 => (hfr k h2).trans (F k h1)
  have f64 : w1 64 = .inr (7, [.ref (ad 65), .ref (ad 66), .ref (ad 67), .ref (ad 68), .long 0, .long 1, .ref (ad 69), .int 0, .ref (ad 70), .ref (ad 71), .int 0, .int 0, .int 0, .int 0, .int 0, .ref (ad 72), .ref (ad 73)]) := F1 64 (by decide) (by decide)
  refine lv_aload_n hx hb dL_law_1135 rfl (lv_at hl 2 rfl) ?_
  refine lv_aload_n hx hb dL_law_1136 rfl (lv_at hl 0 rfl) ?_
  refine lv_iload_n hx hb dL_law_1137 rfl (lv_at hl 3 rfl) ?_
  refine lv_iconst (v := 1) hx hb dL_law_1138 (by decide) ?_
  refine o_iadd (z := 1) hx hb dL_law_1139 rfl ?_
  refine o_sld (v := 0) hx hb hX hbl hbA h.2 (by unfold vp_in; decide) hq dL_law_1140 ?_
  refine q_Vi (na := 1) (As := [.int 0]) (rest := [.int 1]) X hD hN h rfl (c_M_image0 l G cI cB cZ cO ad w1 F1) ⟨kw_596, kw_597, kw_598, kw_190, kw_599⟩ rfl ⟨by decide, by decide, by decide⟩ ⟨Nat.le_of_ble_eq_true rfl, Nat.le_of_ble_eq_true rfl⟩ ⟨Nat.le_of_ble_eq_true rfl, Nat.le_of_ble_eq_true rfl⟩ (by decide) f64 rfl rfl hl.1 rfl (Nat.le_of_ble_eq_true rfl) dL_law_1141 (fun r2 w2 H locs hp2 h => ?_)
  subst hp2
  refine lv_icmp_eq (tgt := 1232) hx hb dL_law_1144 (by decide) (fun _ => hend H locs h.2) (fun hc => absurd rfl hc)

set_option maxHeartbeats 4000000 in
set_option maxRecDepth 100000 in
theorem law_image1 {p : Program} {l : Launch} {e : Env} {s : State} {m : MethodId} {below : List Frame} {meth : Method} {c : Code} {Q : State → Prop} {G : va_G} {cI cB cZ cO : ClassId} {ad : Nat → Nat} {w : Nat → va_E} {b : Nat} {xs : Nat → Int32} (X : Fx p m c code 4 s #[Value.ref b] "NoonShadeLaw" G (tyq cI cB cZ cO) (fun q => s.heap.size ≤ q)) (hD : WD (fun q => s.heap.size ≤ q) 74 ad) (hN : NW s) (F : ∀ k, k < 74 → w k = fr0 cI cB cZ cO ad k) (hX : va_X b 5 xs s s.heap) (hbl : b < s.heap.size) {H : Heap} {locs : List Loc} {ls : Array Slot} (h : St G 74 ad (fun q => s.heap.size ≤ q) s.heap w H locs) (hl : lv_has ls 4 [(0, .ref b), (1, .ref (ad 0)), (2, .ref (ad 64)), (3, .int 0)]) (hend : ∀ (H : Heap) (locs : List Loc), va_S (fun q => s.heap.size ≤ q) s.heap H locs → W p l e room_1 s m #[Value.ref b] below meth c H locs 74 2063 Q (F0 m 1232 ls [])) (hq : xs 1 = 1) : W p l e room_1 s m #[Value.ref b] below meth c H locs 74 2063 Q (F0 m 1126 ls []) := by
  have hx := X.1.1
  have hb := X.1.2.1
  have hbA : ¬ (fun q => s.heap.size ≤ q) b := Nat.not_le.mpr hbl
  have f0 : w 0 = .inr (6, [.ref (ad 1), .ref (ad 14), .ref (ad 27), .ref (ad 54), .ref (ad 55), .ref (ad 58), .ref (ad 62), .long 0, .long 1, .int 0, .int 0, .int 0]) := F 0 (by decide)
  refine lv_aload_n hx hb dL_law_1126 rfl (lv_at hl 1 rfl) ?_
  refine lv_aload_n hx hb dL_law_1127 rfl (lv_at hl 0 rfl) ?_
  refine lv_iload_n hx hb dL_law_1128 rfl (lv_at hl 3 rfl) ?_
  refine lv_iconst (v := 1) hx hb dL_law_1129 (by decide) ?_
  refine o_iadd (z := 1) hx hb dL_law_1130 rfl ?_
  refine o_sld (v := 1) hx hb hX hbl hbA h.2 (by unfold vp_in; decide) hq dL_law_1131 ?_
  refine q_Vi (na := 1) (As := [.int 1]) (rest := []) X hD hN h rfl (c_X_image1 l G cI cB cZ cO ad w F) ⟨kw_592, kw_593, kw_594, kw_14, kw_595⟩ rfl ⟨by decide, by decide, by decide⟩ ⟨Nat.le_of_ble_eq_true rfl, Nat.le_of_ble_eq_true rfl⟩ ⟨Nat.le_of_ble_eq_true rfl, Nat.le_of_ble_eq_true rfl⟩ (by decide) f0 rfl rfl hl.1 rfl (Nat.le_of_ble_eq_true rfl) dL_law_1132 (fun r1 w1 H locs hp1 h => ?_)
  obtain ⟨rfl, hfr⟩ := hp1
  have F1 : ∀ k, k < 74 → 64 ≤ k → w1 k = fr0 cI cB cZ cO ad k := fun k h1 h2 => (hfr k h2).trans (F k h1)
  have f64 : w1 64 = .inr (7, [.ref (ad 65), .ref (ad 66), .ref (ad 67), .ref (ad 68), .long 0, .long 1, .ref (ad 69), .int 0, .ref (ad 70), .ref (ad 71), .int 0, .int 0, .int 0, .int 0, .int 0, .ref (ad 72), .ref (ad 73)]) := F1 64 (by decide) (by decide)
  refine lv_aload_n hx hb dL_law_1135 rfl (lv_at hl 2 rfl) ?_
  refine lv_aload_n hx hb dL_law_1136 rfl (lv_at hl 0 rfl) ?_
  refine lv_iload_n hx hb dL_law_1137 rfl (lv_at hl 3 rfl) ?_
  refine lv_iconst (v := 1) hx hb dL_law_1138 (by decide) ?_
  refine o_iadd (z := 1) hx hb dL_law_1139 rfl ?_
  refine o_sld (v := 1) hx hb hX hbl hbA h.2 (by unfold vp_in; decide) hq dL_law_1140 ?_
  refine q_Vi (na := 1) (As := [.int 1]) (rest := [.int 1]) X hD hN h rfl (c_M_image1 l G cI cB cZ cO ad w1 F1) ⟨kw_596, kw_597, kw_598, kw_190, kw_599⟩ rfl ⟨by decide, by decide, by decide⟩ ⟨Nat.le_of_ble_eq_true rfl, Nat.le_of_ble_eq_true rfl⟩ ⟨Nat.le_of_ble_eq_true rfl, Nat.le_of_ble_eq_true rfl⟩ (by decide) f64 rfl rfl hl.1 rfl (Nat.le_of_ble_eq_true rfl) dL_law_1141 (fun r2 w2 H locs hp2 h => ?_)
  subst hp2
  refine lv_icmp_eq (tgt := 1232) hx hb dL_law_1144 (by decide) (fun _ => hend H locs h.2) (fun hc => absurd rfl hc)

set_option maxHeartbeats 4000000 in
set_option maxRecDepth 100000 in
theorem law_imageN {p : Program} {l : Launch} {e : Env} {s : State} {m : MethodId} {below : List Frame} {meth : Method} {c : Code} {Q : State → Prop} {G : va_G} {cI cB cZ cO : ClassId} {ad : Nat → Nat} {w : Nat → va_E} {b : Nat} {xs : Nat → Int32} (X : Fx p m c code 4 s #[Value.ref b] "NoonShadeLaw" G (tyq cI cB cZ cO) (fun q => s.heap.size ≤ q)) (hD : WD (fun q => s.heap.size ≤ q) 74 ad) (hN : NW s) (F : ∀ k, k < 74 → w k = fr0 cI cB cZ cO ad k) (hX : va_X b 5 xs s s.heap) (hbl : b < s.heap.size) {H : Heap} {locs : List Loc} {ls : Array Slot} (h : St G 74 ad (fun q => s.heap.size ≤ q) s.heap w H locs) (hl : lv_has ls 4 [(0, .ref b), (1, .ref (ad 0)), (2, .ref (ad 64)), (3, .int 0)]) (hend : ∀ (H : Heap) (locs : List Loc), va_S (fun q => s.heap.size ≤ q) s.heap H locs → W p l e room_1 s m #[Value.ref b] below meth c H locs 74 2063 Q (F0 m 1232 ls [])) (hi : ¬ (0 ≤ (xs 1).toInt ∧ (xs 1).toInt ≤ 1)) : W p l e room_1 s m #[Value.ref b] below meth c H locs 74 2063 Q (F0 m 1126 ls []) := by
  have hx := X.1.1
  have hb := X.1.2.1
  have hbA : ¬ (fun q => s.heap.size ≤ q) b := Nat.not_le.mpr hbl
  have f0 : w 0 = .inr (6, [.ref (ad 1), .ref (ad 14), .ref (ad 27), .ref (ad 54), .ref (ad 55), .ref (ad 58), .ref (ad 62), .long 0, .long 1, .int 0, .int 0, .int 0]) := F 0 (by decide)
  refine lv_aload_n hx hb dL_law_1126 rfl (lv_at hl 1 rfl) ?_
  refine lv_aload_n hx hb dL_law_1127 rfl (lv_at hl 0 rfl) ?_
  refine lv_iload_n hx hb dL_law_1128 rfl (lv_at hl 3 rfl) ?_
  refine lv_iconst (v := 1) hx hb dL_law_1129 (by decide) ?_
  refine o_iadd (z := 1) hx hb dL_law_1130 rfl ?_
  refine o_sld (v := xs 1) hx hb hX hbl hbA h.2 (by unfold vp_in; decide) rfl dL_law_1131 ?_
  refine q_Vi (na := 1) (As := [.int (xs 1)]) (rest := []) X hD hN h rfl (c_X_imageN l G cI cB cZ cO ad w F (xs 1) hi) ⟨kw_592, kw_593, kw_594, kw_14, kw_595⟩ rfl ⟨by decide, by decide, by decide⟩ ⟨Nat.le_of_ble_eq_true rfl, Nat.le_of_ble_eq_true rfl⟩ ⟨Nat.le_of_ble_eq_true rfl, Nat.le_of_ble_eq_true rfl⟩ (by decide) f0 rfl rfl hl.1 rfl (Nat.le_of_ble_eq_true rfl) dL_law_1132 (fun r1 w1 H locs hp1 h => ?_)
  obtain ⟨rfl, hfr⟩ := hp1
  have F1 : ∀ k, k < 74 → 64 ≤ k → w1 k = fr0 cI cB cZ cO ad k := fun k h1 h2 => (hfr k h2).trans (F k h1)
  have f64 : w1 64 = .inr (7, [.ref (ad 65), .ref (ad 66), .ref (ad 67), .ref (ad 68), .long 0, .long 1, .ref (ad 69), .int 0, .ref (ad 70), .ref (ad 71), .int 0, .int 0, .int 0, .int 0, .int 0, .ref (ad 72), .ref (ad 73)]) := F1 64 (by decide) (by decide)
  refine lv_aload_n hx hb dL_law_1135 rfl (lv_at hl 2 rfl) ?_
  refine lv_aload_n hx hb dL_law_1136 rfl (lv_at hl 0 rfl) ?_
  refine lv_iload_n hx hb dL_law_1137 rfl (lv_at hl 3 rfl) ?_
  refine lv_iconst (v := 1) hx hb dL_law_1138 (by decide) ?_
  refine o_iadd (z := 1) hx hb dL_law_1139 rfl ?_
  refine o_sld (v := xs 1) hx hb hX hbl hbA h.2 (by unfold vp_in; decide) rfl dL_law_1140 ?_
  refine q_Vi (na := 1) (As := [.int (xs 1)]) (rest := [.int (-2)]) X hD hN h rfl (c_M_imageN l G cI cB cZ cO ad w1 F1 (xs 1) hi) ⟨kw_596, kw_597, kw_598, kw_190, kw_599⟩ rfl ⟨by decide, by decide, by decide⟩ ⟨Nat.le_of_ble_eq_true rfl, Nat.le_of_ble_eq_true rfl⟩ ⟨Nat.le_of_ble_eq_true rfl, Nat.le_of_ble_eq_true rfl⟩ (by decide) f64 rfl rfl hl.1 rfl (Nat.le_of_ble_eq_true rfl) dL_law_1141 (fun r2 w2 H locs hp2 h => ?_)
  subst hp2
  refine lv_icmp_eq (tgt := 1232) hx hb dL_law_1144 (by decide) (fun _ => hend H locs h.2) (fun hc => absurd rfl hc)

set_option maxHeartbeats 4000000 in
set_option maxRecDepth 100000 in
theorem law_from {p : Program} {l : Launch} {e : Env} {s : State} {m : MethodId} {below : List Frame} {meth : Method} {c : Code} {Q : State → Prop} {G : va_G} {cI cB cZ cO : ClassId} {ad : Nat → Nat} {w : Nat → va_E} {b : Nat} {xs : Nat → Int32} (X : Fx p m c code 4 s #[Value.ref b] "NoonShadeLaw" G (tyq cI cB cZ cO) (fun q => s.heap.size ≤ q)) (hD : WD (fun q => s.heap.size ≤ q) 74 ad) (hN : NW s) (F : ∀ k, k < 74 → w k = fr0 cI cB cZ cO ad k) (hX : va_X b 5 xs s s.heap) (hbl : b < s.heap.size) {H : Heap} {locs : List Loc} {ls : Array Slot} (h : St G 74 ad (fun q => s.heap.size ≤ q) s.heap w H locs) (hl : lv_has ls 4 [(0, .ref b), (1, .ref (ad 0)), (2, .ref (ad 64)), (3, .int 0)]) (hend : ∀ (H : Heap) (locs : List Loc), va_S (fun q => s.heap.size ≤ q) s.heap H locs → W p l e room_1 s m #[Value.ref b] below meth c H locs 74 2063 Q (F0 m 1232 ls [])) : W p l e room_1 s m #[Value.ref b] below meth c H locs 74 2063 Q (F0 m 1149 ls []) := by
  have hx := X.1.1
  have hb := X.1.2.1
  have hbA : ¬ (fun q => s.heap.size ≤ q) b := Nat.not_le.mpr hbl
  have f0 : w 0 = .inr (6, [.ref (ad 1), .ref (ad 14), .ref (ad 27), .ref (ad 54), .ref (ad 55), .ref (ad 58), .ref (ad 62), .long 0, .long 1, .int 0, .int 0, .int 0]) := F 0 (by decide)
  refine lv_aload_n hx hb dL_law_1149 rfl (lv_at hl 1 rfl) ?_
  refine lv_aload_n hx hb dL_law_1150 rfl (lv_at hl 0 rfl) ?_
  refine lv_iload_n hx hb dL_law_1151 rfl (lv_at hl 3 rfl) ?_
  refine lv_iconst (v := 1) hx hb dL_law_1152 (by decide) ?_
  refine o_iadd (z := 1) hx hb dL_law_1153 rfl ?_
  refine o_sld (v := xs 1) hx hb hX hbl hbA h.2 (by unfold vp_in; decide) rfl dL_law_1154 ?_
  refine q_Vi (na := 1) (As := [.int (xs 1)]) (rest := []) X hD hN h rfl (c_X_from l G cI cB cZ cO ad w F (xs 1)) ⟨kw_600, kw_601, kw_602, kw_14, kw_603⟩ rfl ⟨by decide, by decide, by decide⟩ ⟨Nat.le_of_ble_eq_true rfl, Nat.le_of_ble_eq_true rfl⟩ ⟨Nat.le_of_ble_eq_true rfl, Nat.le_of_ble_eq_true rfl⟩ (by decide) f0 rfl rfl hl.1 rfl (Nat.le_of_ble_eq_true rfl) dL_law_1155 (fun r1 w1 H locs hp1 h => ?_)
  obtain ⟨a0, a1, hfr⟩ := hp1
  have F1 : ∀ k, k < 74 → 64 ≤ k → w1 k = fr0 cI cB cZ cO ad k := fun k h1 h2 => (hfr k h2).trans (F k h1)
  have f64 : w1 64 = .inr (7, [.ref (ad 65), .ref (ad 66), .ref (ad 67), .ref (ad 68), .long 0, .long 1, .ref (ad 69), .int 0, .ref (ad 70), .ref (ad 71), .int 0, .int 0, .int 0, .int 0, .int 0, .ref (ad 72), .ref (ad 73)]) := F1 64 (by decide) (by decide)
  refine lv_aload_n hx hb dL_law_1158 rfl (lv_at hl 2 rfl) ?_
  refine lv_aload_n hx hb dL_law_1159 rfl (lv_at hl 0 rfl) ?_
  refine lv_iload_n hx hb dL_law_1160 rfl (lv_at hl 3 rfl) ?_
  refine lv_iconst (v := 1) hx hb dL_law_1161 (by decide) ?_
  refine o_iadd (z := 1) hx hb dL_law_1162 rfl ?_
  refine o_sld (v := xs 1) hx hb hX hbl hbA h.2 (by unfold vp_in; decide) rfl dL_law_1163 ?_
  refine q_Vi (na := 1) (As := [.int (xs 1)]) (rest := [.int r1]) X hD hN h rfl (c_M_from l G cI cB cZ cO ad w1 F1 (xs 1)) ⟨kw_604, kw_605, kw_606, kw_190, kw_607⟩ rfl ⟨by decide, by decide, by decide⟩ ⟨Nat.le_of_ble_eq_true rfl, Nat.le_of_ble_eq_true rfl⟩ ⟨Nat.le_of_ble_eq_true rfl, Nat.le_of_ble_eq_true rfl⟩ (by decide) f64 rfl rfl hl.1 rfl (Nat.le_of_ble_eq_true rfl) dL_law_1164 (fun r2 w2 H locs hp2 h => ?_)
  obtain ⟨b0, b1⟩ := hp2
  have he : r1 = r2 := by
    by_cases g0 : 0 ≤ (xs 1).toInt ∧ (xs 1).toInt ≤ 1
    · exact (a0 g0).trans (b0 g0).symm
    exact (a1 (by omega)).trans (b1 (by omega)).symm
  refine lv_icmp_eq (tgt := 1232) hx hb dL_law_1167 (by decide) (fun _ => hend H locs h.2) (fun hc => absurd he hc)

set_option maxHeartbeats 4000000 in
set_option maxRecDepth 100000 in
theorem law_status {p : Program} {l : Launch} {e : Env} {s : State} {m : MethodId} {below : List Frame} {meth : Method} {c : Code} {Q : State → Prop} {G : va_G} {cI cB cZ cO : ClassId} {ad : Nat → Nat} {w : Nat → va_E} {b : Nat} {xs : Nat → Int32} (X : Fx p m c code 4 s #[Value.ref b] "NoonShadeLaw" G (tyq cI cB cZ cO) (fun q => s.heap.size ≤ q)) (hD : WD (fun q => s.heap.size ≤ q) 74 ad) (hN : NW s) (F : ∀ k, k < 74 → w k = fr0 cI cB cZ cO ad k) (hX : va_X b 5 xs s s.heap) (hbl : b < s.heap.size) {H : Heap} {locs : List Loc} {ls : Array Slot} (h : St G 74 ad (fun q => s.heap.size ≤ q) s.heap w H locs) (hl : lv_has ls 4 [(0, .ref b), (1, .ref (ad 0)), (2, .ref (ad 64)), (3, .int 0)]) (hend : ∀ (H : Heap) (locs : List Loc), va_S (fun q => s.heap.size ≤ q) s.heap H locs → W p l e room_1 s m #[Value.ref b] below meth c H locs 74 2063 Q (F0 m 1232 ls [])) : W p l e room_1 s m #[Value.ref b] below meth c H locs 74 2063 Q (F0 m 1172 ls []) := by
  have hx := X.1.1
  have hb := X.1.2.1
  have hbA : ¬ (fun q => s.heap.size ≤ q) b := Nat.not_le.mpr hbl
  have f0 : w 0 = .inr (6, [.ref (ad 1), .ref (ad 14), .ref (ad 27), .ref (ad 54), .ref (ad 55), .ref (ad 58), .ref (ad 62), .long 0, .long 1, .int 0, .int 0, .int 0]) := F 0 (by decide)
  refine lv_aload_n hx hb dL_law_1172 rfl (lv_at hl 1 rfl) ?_
  refine lv_aload_n hx hb dL_law_1173 rfl (lv_at hl 0 rfl) ?_
  refine lv_iload_n hx hb dL_law_1174 rfl (lv_at hl 3 rfl) ?_
  refine lv_iconst (v := 1) hx hb dL_law_1175 (by decide) ?_
  refine o_iadd (z := 1) hx hb dL_law_1176 rfl ?_
  refine o_sld (v := xs 1) hx hb hX hbl hbA h.2 (by unfold vp_in; decide) rfl dL_law_1177 ?_
  refine q_Vi (na := 1) (As := [.int (xs 1)]) (rest := []) X hD hN h rfl (c_X_status l G cI cB cZ cO ad w F (xs 1)) ⟨kw_608, kw_609, kw_610, kw_14, kw_611⟩ rfl ⟨by decide, by decide, by decide⟩ ⟨Nat.le_of_ble_eq_true rfl, Nat.le_of_ble_eq_true rfl⟩ ⟨Nat.le_of_ble_eq_true rfl, Nat.le_of_ble_eq_true rfl⟩ (by decide) f0 rfl rfl hl.1 rfl (Nat.le_of_ble_eq_true rfl) dL_law_1178 (fun r1 w1 H locs hp1 h => ?_)
  obtain ⟨a0, a1, hfr⟩ := hp1
  have F1 : ∀ k, k < 74 → 64 ≤ k → w1 k = fr0 cI cB cZ cO ad k := fun k h1 h2 => (hfr k h2).trans (F k h1)
  have f64 : w1 64 = .inr (7, [.ref (ad 65), .ref (ad 66), .ref (ad 67), .ref (ad 68), .long 0, .long 1, .ref (ad 69), .int 0, .ref (ad 70), .ref (ad 71), .int 0, .int 0, .int 0, .int 0, .int 0, .ref (ad 72), .ref (ad 73)]) := F1 64 (by decide) (by decide)
  refine lv_aload_n hx hb dL_law_1181 rfl (lv_at hl 2 rfl) ?_
  refine lv_aload_n hx hb dL_law_1182 rfl (lv_at hl 0 rfl) ?_
  refine lv_iload_n hx hb dL_law_1183 rfl (lv_at hl 3 rfl) ?_
  refine lv_iconst (v := 1) hx hb dL_law_1184 (by decide) ?_
  refine o_iadd (z := 1) hx hb dL_law_1185 rfl ?_
  refine o_sld (v := xs 1) hx hb hX hbl hbA h.2 (by unfold vp_in; decide) rfl dL_law_1186 ?_
  refine q_Vi (na := 1) (As := [.int (xs 1)]) (rest := [.int r1]) X hD hN h rfl (c_M_status l G cI cB cZ cO ad w1 F1 (xs 1)) ⟨kw_612, kw_613, kw_614, kw_190, kw_615⟩ rfl ⟨by decide, by decide, by decide⟩ ⟨Nat.le_of_ble_eq_true rfl, Nat.le_of_ble_eq_true rfl⟩ ⟨Nat.le_of_ble_eq_true rfl, Nat.le_of_ble_eq_true rfl⟩ (by decide) f64 rfl rfl hl.1 rfl (Nat.le_of_ble_eq_true rfl) dL_law_1187 (fun r2 w2 H locs hp2 h => ?_)
  obtain ⟨b0, b1⟩ := hp2
  have he : r1 = r2 := by
    by_cases g0 : 0 ≤ (xs 1).toInt ∧ (xs 1).toInt ≤ 2
    · exact (a0 g0).trans (b0 g0).symm
    exact (a1 (by omega)).trans (b1 (by omega)).symm
  refine lv_icmp_eq (tgt := 1232) hx hb dL_law_1190 (by decide) (fun _ => hend H locs h.2) (fun hc => absurd he hc)

set_option maxHeartbeats 4000000 in
set_option maxRecDepth 100000 in
theorem law_count {p : Program} {l : Launch} {e : Env} {s : State} {m : MethodId} {below : List Frame} {meth : Method} {c : Code} {Q : State → Prop} {G : va_G} {cI cB cZ cO : ClassId} {ad : Nat → Nat} {w : Nat → va_E} {b : Nat} {xs : Nat → Int32} (X : Fx p m c code 4 s #[Value.ref b] "NoonShadeLaw" G (tyq cI cB cZ cO) (fun q => s.heap.size ≤ q)) (hD : WD (fun q => s.heap.size ≤ q) 74 ad) (hN : NW s) (F : ∀ k, k < 74 → w k = fr0 cI cB cZ cO ad k) (hX : va_X b 5 xs s s.heap) (hbl : b < s.heap.size) {H : Heap} {locs : List Loc} {ls : Array Slot} (h : St G 74 ad (fun q => s.heap.size ≤ q) s.heap w H locs) (hl : lv_has ls 4 [(0, .ref b), (1, .ref (ad 0)), (2, .ref (ad 64)), (3, .int 0)]) (hend : ∀ (H : Heap) (locs : List Loc), va_S (fun q => s.heap.size ≤ q) s.heap H locs → W p l e room_1 s m #[Value.ref b] below meth c H locs 74 2063 Q (F0 m 1232 ls [])) : W p l e room_1 s m #[Value.ref b] below meth c H locs 74 2063 Q (F0 m 1195 ls []) := by
  have hx := X.1.1
  have hb := X.1.2.1
  have hbA : ¬ (fun q => s.heap.size ≤ q) b := Nat.not_le.mpr hbl
  have f0 : w 0 = .inr (6, [.ref (ad 1), .ref (ad 14), .ref (ad 27), .ref (ad 54), .ref (ad 55), .ref (ad 58), .ref (ad 62), .long 0, .long 1, .int 0, .int 0, .int 0]) := F 0 (by decide)
  refine lv_aload_n hx hb dL_law_1195 rfl (lv_at hl 1 rfl) ?_
  refine lv_aload_n hx hb dL_law_1196 rfl (lv_at hl 0 rfl) ?_
  refine lv_iload_n hx hb dL_law_1197 rfl (lv_at hl 3 rfl) ?_
  refine lv_iconst (v := 1) hx hb dL_law_1198 (by decide) ?_
  refine o_iadd (z := 1) hx hb dL_law_1199 rfl ?_
  refine o_sld (v := xs 1) hx hb hX hbl hbA h.2 (by unfold vp_in; decide) rfl dL_law_1200 ?_
  refine q_Vi (na := 1) (As := [.int (xs 1)]) (rest := []) X hD hN h rfl (c_X_count l G cI cB cZ cO ad w F (xs 1)) ⟨kw_616, kw_617, kw_618, kw_14, kw_619⟩ rfl ⟨by decide, by decide, by decide⟩ ⟨Nat.le_of_ble_eq_true rfl, Nat.le_of_ble_eq_true rfl⟩ ⟨Nat.le_of_ble_eq_true rfl, Nat.le_of_ble_eq_true rfl⟩ (by decide) f0 rfl rfl hl.1 rfl (Nat.le_of_ble_eq_true rfl) dL_law_1201 (fun r1 w1 H locs hp1 h => ?_)
  obtain ⟨a0, a1, hfr⟩ := hp1
  have F1 : ∀ k, k < 74 → 64 ≤ k → w1 k = fr0 cI cB cZ cO ad k := fun k h1 h2 => (hfr k h2).trans (F k h1)
  have f64 : w1 64 = .inr (7, [.ref (ad 65), .ref (ad 66), .ref (ad 67), .ref (ad 68), .long 0, .long 1, .ref (ad 69), .int 0, .ref (ad 70), .ref (ad 71), .int 0, .int 0, .int 0, .int 0, .int 0, .ref (ad 72), .ref (ad 73)]) := F1 64 (by decide) (by decide)
  refine lv_aload_n hx hb dL_law_1204 rfl (lv_at hl 2 rfl) ?_
  refine lv_aload_n hx hb dL_law_1205 rfl (lv_at hl 0 rfl) ?_
  refine lv_iload_n hx hb dL_law_1206 rfl (lv_at hl 3 rfl) ?_
  refine lv_iconst (v := 1) hx hb dL_law_1207 (by decide) ?_
  refine o_iadd (z := 1) hx hb dL_law_1208 rfl ?_
  refine o_sld (v := xs 1) hx hb hX hbl hbA h.2 (by unfold vp_in; decide) rfl dL_law_1209 ?_
  refine q_Vi (na := 1) (As := [.int (xs 1)]) (rest := [.int r1]) X hD hN h rfl (c_M_count l G cI cB cZ cO ad w1 F1 (xs 1)) ⟨kw_620, kw_621, kw_622, kw_190, kw_623⟩ rfl ⟨by decide, by decide, by decide⟩ ⟨Nat.le_of_ble_eq_true rfl, Nat.le_of_ble_eq_true rfl⟩ ⟨Nat.le_of_ble_eq_true rfl, Nat.le_of_ble_eq_true rfl⟩ (by decide) f64 rfl rfl hl.1 rfl (Nat.le_of_ble_eq_true rfl) dL_law_1210 (fun r2 w2 H locs hp2 h => ?_)
  obtain ⟨b0, b1⟩ := hp2
  have he : r1 = r2 := by
    by_cases g0 : 0 ≤ (xs 1).toInt ∧ (xs 1).toInt ≤ 9
    · exact (a0 g0).trans (b0 g0).symm
    exact (a1 (by omega)).trans (b1 (by omega)).symm
  refine lv_icmp_eq (tgt := 1232) hx hb dL_law_1213 (by decide) (fun _ => hend H locs h.2) (fun hc => absurd he hc)

set_option maxHeartbeats 4000000 in
set_option maxRecDepth 100000 in
theorem law_digest {p : Program} {l : Launch} {e : Env} {s : State} {m : MethodId} {below : List Frame} {meth : Method} {c : Code} {Q : State → Prop} {G : va_G} {cI cB cZ cO : ClassId} {ad : Nat → Nat} {w : Nat → va_E} {b : Nat} {xs : Nat → Int32} (X : Fx p m c code 4 s #[Value.ref b] "NoonShadeLaw" G (tyq cI cB cZ cO) (fun q => s.heap.size ≤ q)) (hD : WD (fun q => s.heap.size ≤ q) 74 ad) (hN : NW s) (F : ∀ k, k < 74 → w k = fr0 cI cB cZ cO ad k) (hX : va_X b 5 xs s s.heap) (hbl : b < s.heap.size) {H : Heap} {locs : List Loc} {ls : Array Slot} (h : St G 74 ad (fun q => s.heap.size ≤ q) s.heap w H locs) (hl : lv_has ls 4 [(0, .ref b), (1, .ref (ad 0)), (2, .ref (ad 64)), (3, .int 0)]) (hend : ∀ (H : Heap) (locs : List Loc), va_S (fun q => s.heap.size ≤ q) s.heap H locs → W p l e room_1 s m #[Value.ref b] below meth c H locs 74 2063 Q (F0 m 1232 ls [])) : W p l e room_1 s m #[Value.ref b] below meth c H locs 74 2063 Q (F0 m 1218 ls []) := by
  have hx := X.1.1
  have hb := X.1.2.1
  have hbA : ¬ (fun q => s.heap.size ≤ q) b := Nat.not_le.mpr hbl
  have f0 : w 0 = .inr (6, [.ref (ad 1), .ref (ad 14), .ref (ad 27), .ref (ad 54), .ref (ad 55), .ref (ad 58), .ref (ad 62), .long 0, .long 1, .int 0, .int 0, .int 0]) := F 0 (by decide)
  refine lv_aload_n hx hb dL_law_1218 rfl (lv_at hl 1 rfl) ?_
  refine q_Vl (na := 0) (As := []) (rest := []) X hD hN h rfl (c_X_digest l G cI cB cZ cO ad w F) ⟨kw_624, kw_625, kw_626, kw_14, kw_627⟩ rfl ⟨by decide, by decide, by decide⟩ ⟨Nat.le_of_ble_eq_true rfl, Nat.le_of_ble_eq_true rfl⟩ ⟨Nat.le_of_ble_eq_true rfl, Nat.le_of_ble_eq_true rfl⟩ (by decide) f0 rfl rfl hl.1 rfl (Nat.le_of_ble_eq_true rfl) dL_law_1219 (fun r1 w1 H locs hp1 h => ?_)
  obtain ⟨rfl, hfr⟩ := hp1
  have F1 : ∀ k, k < 74 → 64 ≤ k → w1 k = fr0 cI cB cZ cO ad k := fun k h1 h2 => (hfr k h2).trans (F k h1)
  have f64 : w1 64 = .inr (7, [.ref (ad 65), .ref (ad 66), .ref (ad 67), .ref (ad 68), .long 0, .long 1, .ref (ad 69), .int 0, .ref (ad 70), .ref (ad 71), .int 0, .int 0, .int 0, .int 0, .int 0, .ref (ad 72), .ref (ad 73)]) := F1 64 (by decide) (by decide)
  refine lv_aload_n hx hb dL_law_1222 rfl (lv_at hl 2 rfl) ?_
  refine q_Vl (na := 0) (As := []) (rest := [.long 4278844841920871640]) X hD hN h rfl (c_M_digest l G cI cB cZ cO ad w1 F1) ⟨kw_628, kw_629, kw_630, kw_190, kw_631⟩ rfl ⟨by decide, by decide, by decide⟩ ⟨Nat.le_of_ble_eq_true rfl, Nat.le_of_ble_eq_true rfl⟩ ⟨Nat.le_of_ble_eq_true rfl, Nat.le_of_ble_eq_true rfl⟩ (by decide) f64 rfl rfl hl.1 rfl (Nat.le_of_ble_eq_true rfl) dL_law_1223 (fun r2 w2 H locs hp2 h => ?_)
  subst hp2
  refine W.lcmp hx hb dL_law_1226 ?_
  refine lv_if_eq (tgt := 1232) hx hb dL_law_1227 (by decide) (fun _ => hend H locs h.2) (fun hc => absurd ((lg_cmp_eq _ _).mpr rfl) hc)
