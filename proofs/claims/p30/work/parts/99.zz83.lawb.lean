set_option maxHeartbeats 4000000 in
set_option maxRecDepth 100000 in
theorem law_few {p : Program} {l : Launch} {e : Env} {s : State} {m : MethodId} {below : List Frame} {meth : Method} {c : Code} {Q : State → Prop} {G : va_G} {cI cB cZ cO : ClassId} {ad : Nat → Nat} {w : Nat → va_E} {b L : Nat} {xs : Nat → Int32} {i : Int32} (X : Fx p m c code 4 s #[Value.ref b] "NoonShadeLaw" G (tyq cI cB cZ cO) (fun q => s.heap.size ≤ q)) (hD : WD (fun q => s.heap.size ≤ q) 74 ad) (hN : NS ad (fun q => s.heap.size ≤ q) s s.heap) (ok : OK cI cB cZ cO ad w) (rel : REL2 cI cB cZ ad w) (hX : va_X b L xs s s.heap) (hbl : b < s.heap.size) (hi0 : 0 ≤ i.toInt) (hi1 : i.toInt + 5 ≤ L) (hL : L ≤ 2560) {H : Heap} {locs : List Loc} {ls : Array Slot} (h : St G 74 ad (fun q => s.heap.size ≤ q) s.heap w H locs) (hl : lv_has ls 4 [(0, .ref b), (1, .ref (ad 0)), (2, .ref (ad 64)), (3, .int i)]) (hend : ∀ (w : Nat → va_E) (H : Heap) (locs : List Loc), OK cI cB cZ cO ad w → REL2 cI cB cZ ad w → St G 74 ad (fun q => s.heap.size ≤ q) s.heap w H locs → W p l e room_1 s m #[Value.ref b] below meth c H locs 74 2063 Q (F0 m 1230 ls [])) : W p l e room_1 s m #[Value.ref b] below meth c H locs 74 2063 Q (F0 m 676 ls []) := by
  have hx := X.1.1
  have hb := X.1.2.1
  have hbA : ¬ (fun q => s.heap.size ≤ q) b := Nat.not_le.mpr hbl
  obtain ⟨z1, ez1, tz1⟩ := x_add (x := i) (y := 1) (a := i.toInt) (b := 1) rfl rfl (by omega) (by omega)
  obtain ⟨a1, ea1⟩ : ∃ v : Int32, xs (z1).toNatClampNeg = v := ⟨_, rfl⟩
  obtain ⟨z2, ez2, tz2⟩ := x_add (x := i) (y := 2) (a := i.toInt) (b := 2) rfl rfl (by omega) (by omega)
  obtain ⟨a2, ea2⟩ : ∃ v : Int32, xs (z2).toNatClampNeg = v := ⟨_, rfl⟩
  obtain ⟨z3, ez3, tz3⟩ := x_add (x := i) (y := 3) (a := i.toInt) (b := 3) rfl rfl (by omega) (by omega)
  obtain ⟨a3, ea3⟩ : ∃ v : Int32, xs (z3).toNatClampNeg = v := ⟨_, rfl⟩
  obtain ⟨z4, ez4, tz4⟩ := x_add (x := i) (y := 4) (a := i.toInt) (b := 4) rfl rfl (by omega) (by omega)
  obtain ⟨a4, ea4⟩ : ∃ v : Int32, xs (z4).toNatClampNeg = v := ⟨_, rfl⟩
  obtain ⟨x0, y0, q0, q1, q2, f0⟩ := (show sN ad (w 0) from ok 0 (by decide))
  refine lv_aload_n hx hb dL_law_676 rfl (lv_at hl 1 rfl) ?_
  refine lv_aload_n hx hb dL_law_677 rfl (lv_at hl 0 rfl) ?_
  refine lv_iload_n hx hb dL_law_678 rfl (lv_at hl 3 rfl) ?_
  refine lv_iconst (v := 1) hx hb dL_law_679 (by decide) ?_
  refine o_iadd (z := z1) hx hb dL_law_680 ez1 ?_
  refine o_sld (v := a1) hx hb hX hbl hbA h.2 (in_of (by omega) (by omega)) ea1 dL_law_681 ?_
  refine lv_aload_n hx hb dL_law_682 rfl (lv_at hl 0 rfl) ?_
  refine lv_iload_n hx hb dL_law_683 rfl (lv_at hl 3 rfl) ?_
  refine lv_iconst (v := 2) hx hb dL_law_684 (by decide) ?_
  refine o_iadd (z := z2) hx hb dL_law_685 ez2 ?_
  refine o_sld (v := a2) hx hb hX hbl hbA h.2 (in_of (by omega) (by omega)) ea2 dL_law_686 ?_
  refine lv_aload_n hx hb dL_law_687 rfl (lv_at hl 0 rfl) ?_
  refine lv_iload_n hx hb dL_law_688 rfl (lv_at hl 3 rfl) ?_
  refine lv_iconst (v := 3) hx hb dL_law_689 (by decide) ?_
  refine o_iadd (z := z3) hx hb dL_law_690 ez3 ?_
  refine o_sld (v := a3) hx hb hX hbl hbA h.2 (in_of (by omega) (by omega)) ea3 dL_law_691 ?_
  refine lv_aload_n hx hb dL_law_692 rfl (lv_at hl 0 rfl) ?_
  refine lv_iload_n hx hb dL_law_693 rfl (lv_at hl 3 rfl) ?_
  refine lv_iconst (v := 4) hx hb dL_law_694 (by decide) ?_
  refine o_iadd (z := z4) hx hb dL_law_695 ez4 ?_
  refine o_sld (v := a4) hx hb hX hbl hbA h.2 (in_of (by omega) (by omega)) ea4 dL_law_696 ?_
  refine n_Vi (na := 4) (As := [.int a1, .int a2, .int a3, .int a4]) (rest := []) X hD hN h rfl (c_X_few l G cI cB cZ cO ad w ok a1 a2 a3 a4) ⟨kv_863, kv_864, kv_865, kv_212, kv_866⟩ rfl ⟨by decide, by decide, by decide⟩ ⟨Nat.le_of_ble_eq_true rfl, Nat.le_of_ble_eq_true rfl⟩ ⟨Nat.le_of_ble_eq_true rfl, Nat.le_of_ble_eq_true rfl⟩ (by decide) f0 rfl rfl hl.1 rfl (Nat.le_of_ble_eq_true rfl) dL_law_697 (fun r1 w1 H locs hp1 h => ?_)
  obtain ⟨ok1, kx1, hr1⟩ := hp1
  refine lv_pop hx hb dL_law_700 rfl ?_
  have rel1 : REL2 cI cB cZ ad w1 := rel.kx kx1
  obtain ⟨x1, y1, m0, m1, m2, m3, m4, m5, f64, h64a, h64b⟩ := (show sM ad (w1 64) from ok1 64 (by decide))
  refine lv_aload_n hx hb dL_law_701 rfl (lv_at hl 2 rfl) ?_
  refine lv_aload_n hx hb dL_law_702 rfl (lv_at hl 0 rfl) ?_
  refine lv_iload_n hx hb dL_law_703 rfl (lv_at hl 3 rfl) ?_
  refine lv_iconst (v := 1) hx hb dL_law_704 (by decide) ?_
  refine o_iadd (z := z1) hx hb dL_law_705 ez1 ?_
  refine o_sld (v := a1) hx hb hX hbl hbA h.2 (in_of (by omega) (by omega)) ea1 dL_law_706 ?_
  refine lv_aload_n hx hb dL_law_707 rfl (lv_at hl 0 rfl) ?_
  refine lv_iload_n hx hb dL_law_708 rfl (lv_at hl 3 rfl) ?_
  refine lv_iconst (v := 2) hx hb dL_law_709 (by decide) ?_
  refine o_iadd (z := z2) hx hb dL_law_710 ez2 ?_
  refine o_sld (v := a2) hx hb hX hbl hbA h.2 (in_of (by omega) (by omega)) ea2 dL_law_711 ?_
  refine lv_aload_n hx hb dL_law_712 rfl (lv_at hl 0 rfl) ?_
  refine lv_iload_n hx hb dL_law_713 rfl (lv_at hl 3 rfl) ?_
  refine lv_iconst (v := 3) hx hb dL_law_714 (by decide) ?_
  refine o_iadd (z := z3) hx hb dL_law_715 ez3 ?_
  refine o_sld (v := a3) hx hb hX hbl hbA h.2 (in_of (by omega) (by omega)) ea3 dL_law_716 ?_
  refine lv_aload_n hx hb dL_law_717 rfl (lv_at hl 0 rfl) ?_
  refine lv_iload_n hx hb dL_law_718 rfl (lv_at hl 3 rfl) ?_
  refine lv_iconst (v := 4) hx hb dL_law_719 (by decide) ?_
  refine o_iadd (z := z4) hx hb dL_law_720 ez4 ?_
  refine o_sld (v := a4) hx hb hX hbl hbA h.2 (in_of (by omega) (by omega)) ea4 dL_law_721 ?_
  refine n_Vi (na := 4) (As := [.int a1, .int a2, .int a3, .int a4]) (rest := []) X hD hN h rfl (c_M_few_ l G cI cB cZ cO ad w1 ok1 a1 a2 a3 a4) ⟨kv_867, kv_868, kv_869, kv_470, kv_870⟩ rfl ⟨by decide, by decide, by decide⟩ ⟨Nat.le_of_ble_eq_true rfl, Nat.le_of_ble_eq_true rfl⟩ ⟨Nat.le_of_ble_eq_true rfl, Nat.le_of_ble_eq_true rfl⟩ (by decide) f64 rfl rfl hl.1 rfl (Nat.le_of_ble_eq_true rfl) dL_law_722 (fun r2 w2 H locs hp2 h => ?_)
  obtain ⟨ok2, kx2, hr2⟩ := hp2
  have rel2 : REL2 cI cB cZ ad w2 := rel1.km ok1 ok2 kx2
  refine lv_pop hx hb dL_law_725 rfl ?_
  refine lv_goto (tgt := 1230) hx hb dL_law_726 (by decide) ?_
  exact hend w2 H locs ok2 rel2 h

set_option maxHeartbeats 4000000 in
set_option maxRecDepth 100000 in
theorem law_into {p : Program} {l : Launch} {e : Env} {s : State} {m : MethodId} {below : List Frame} {meth : Method} {c : Code} {Q : State → Prop} {G : va_G} {cI cB cZ cO : ClassId} {ad : Nat → Nat} {w : Nat → va_E} {b L : Nat} {xs : Nat → Int32} {i : Int32} (X : Fx p m c code 4 s #[Value.ref b] "NoonShadeLaw" G (tyq cI cB cZ cO) (fun q => s.heap.size ≤ q)) (hD : WD (fun q => s.heap.size ≤ q) 74 ad) (hN : NS ad (fun q => s.heap.size ≤ q) s s.heap) (ok : OK cI cB cZ cO ad w) (rel : REL2 cI cB cZ ad w) (hX : va_X b L xs s s.heap) (hbl : b < s.heap.size) (hi0 : 0 ≤ i.toInt) (hi1 : i.toInt + 5 ≤ L) (hL : L ≤ 2560) {H : Heap} {locs : List Loc} {ls : Array Slot} (h : St G 74 ad (fun q => s.heap.size ≤ q) s.heap w H locs) (hl : lv_has ls 4 [(0, .ref b), (1, .ref (ad 0)), (2, .ref (ad 64)), (3, .int i)]) (hend : ∀ (w : Nat → va_E) (H : Heap) (locs : List Loc), OK cI cB cZ cO ad w → REL2 cI cB cZ ad w → St G 74 ad (fun q => s.heap.size ≤ q) s.heap w H locs → W p l e room_1 s m #[Value.ref b] below meth c H locs 74 2063 Q (F0 m 1230 ls [])) : W p l e room_1 s m #[Value.ref b] below meth c H locs 74 2063 Q (F0 m 729 ls []) := by
  have hx := X.1.1
  have hb := X.1.2.1
  have hbA : ¬ (fun q => s.heap.size ≤ q) b := Nat.not_le.mpr hbl
  obtain ⟨z1, ez1, tz1⟩ := x_add (x := i) (y := 1) (a := i.toInt) (b := 1) rfl rfl (by omega) (by omega)
  obtain ⟨a1, ea1⟩ : ∃ v : Int32, xs (z1).toNatClampNeg = v := ⟨_, rfl⟩
  obtain ⟨z2, ez2, tz2⟩ := x_add (x := i) (y := 2) (a := i.toInt) (b := 2) rfl rfl (by omega) (by omega)
  obtain ⟨a2, ea2⟩ : ∃ v : Int32, xs (z2).toNatClampNeg = v := ⟨_, rfl⟩
  obtain ⟨z3, ez3, tz3⟩ := x_add (x := i) (y := 3) (a := i.toInt) (b := 3) rfl rfl (by omega) (by omega)
  obtain ⟨a3, ea3⟩ : ∃ v : Int32, xs (z3).toNatClampNeg = v := ⟨_, rfl⟩
  obtain ⟨x0, y0, q0, q1, q2, f0⟩ := (show sN ad (w 0) from ok 0 (by decide))
  refine lv_aload_n hx hb dL_law_729 rfl (lv_at hl 1 rfl) ?_
  refine lv_aload_n hx hb dL_law_730 rfl (lv_at hl 0 rfl) ?_
  refine lv_iload_n hx hb dL_law_731 rfl (lv_at hl 3 rfl) ?_
  refine lv_iconst (v := 1) hx hb dL_law_732 (by decide) ?_
  refine o_iadd (z := z1) hx hb dL_law_733 ez1 ?_
  refine o_sld (v := a1) hx hb hX hbl hbA h.2 (in_of (by omega) (by omega)) ea1 dL_law_734 ?_
  refine lv_aload_n hx hb dL_law_735 rfl (lv_at hl 0 rfl) ?_
  refine lv_iload_n hx hb dL_law_736 rfl (lv_at hl 3 rfl) ?_
  refine lv_iconst (v := 2) hx hb dL_law_737 (by decide) ?_
  refine o_iadd (z := z2) hx hb dL_law_738 ez2 ?_
  refine o_sld (v := a2) hx hb hX hbl hbA h.2 (in_of (by omega) (by omega)) ea2 dL_law_739 ?_
  refine lv_aload_n hx hb dL_law_740 rfl (lv_at hl 0 rfl) ?_
  refine lv_iload_n hx hb dL_law_741 rfl (lv_at hl 3 rfl) ?_
  refine lv_iconst (v := 3) hx hb dL_law_742 (by decide) ?_
  refine o_iadd (z := z3) hx hb dL_law_743 ez3 ?_
  refine o_sld (v := a3) hx hb hX hbl hbA h.2 (in_of (by omega) (by omega)) ea3 dL_law_744 ?_
  refine n_Vi (na := 3) (As := [.int a1, .int a2, .int a3]) (rest := []) X hD hN h rfl (c_X_into l G cI cB cZ cO ad w ok a1 a2 a3) ⟨kv_871, kv_872, kv_873, kv_212, kv_874⟩ rfl ⟨by decide, by decide, by decide⟩ ⟨Nat.le_of_ble_eq_true rfl, Nat.le_of_ble_eq_true rfl⟩ ⟨Nat.le_of_ble_eq_true rfl, Nat.le_of_ble_eq_true rfl⟩ (by decide) f0 rfl rfl hl.1 rfl (Nat.le_of_ble_eq_true rfl) dL_law_745 (fun r1 w1 H locs hp1 h => ?_)
  obtain ⟨ok1, kx1, hr1⟩ := hp1
  refine lv_pop hx hb dL_law_748 rfl ?_
  have rel1 : REL2 cI cB cZ ad w1 := rel.kx kx1
  obtain ⟨x1, y1, m0, m1, m2, m3, m4, m5, f64, h64a, h64b⟩ := (show sM ad (w1 64) from ok1 64 (by decide))
  refine lv_aload_n hx hb dL_law_749 rfl (lv_at hl 2 rfl) ?_
  refine lv_aload_n hx hb dL_law_750 rfl (lv_at hl 0 rfl) ?_
  refine lv_iload_n hx hb dL_law_751 rfl (lv_at hl 3 rfl) ?_
  refine lv_iconst (v := 1) hx hb dL_law_752 (by decide) ?_
  refine o_iadd (z := z1) hx hb dL_law_753 ez1 ?_
  refine o_sld (v := a1) hx hb hX hbl hbA h.2 (in_of (by omega) (by omega)) ea1 dL_law_754 ?_
  refine lv_aload_n hx hb dL_law_755 rfl (lv_at hl 0 rfl) ?_
  refine lv_iload_n hx hb dL_law_756 rfl (lv_at hl 3 rfl) ?_
  refine lv_iconst (v := 2) hx hb dL_law_757 (by decide) ?_
  refine o_iadd (z := z2) hx hb dL_law_758 ez2 ?_
  refine o_sld (v := a2) hx hb hX hbl hbA h.2 (in_of (by omega) (by omega)) ea2 dL_law_759 ?_
  refine lv_aload_n hx hb dL_law_760 rfl (lv_at hl 0 rfl) ?_
  refine lv_iload_n hx hb dL_law_761 rfl (lv_at hl 3 rfl) ?_
  refine lv_iconst (v := 3) hx hb dL_law_762 (by decide) ?_
  refine o_iadd (z := z3) hx hb dL_law_763 ez3 ?_
  refine o_sld (v := a3) hx hb hX hbl hbA h.2 (in_of (by omega) (by omega)) ea3 dL_law_764 ?_
  refine n_Vi (na := 3) (As := [.int a1, .int a2, .int a3]) (rest := []) X hD hN h rfl (c_M_into_ l G cI cB cZ cO ad w1 ok1 a1 a2 a3) ⟨kv_875, kv_876, kv_877, kv_470, kv_878⟩ rfl ⟨by decide, by decide, by decide⟩ ⟨Nat.le_of_ble_eq_true rfl, Nat.le_of_ble_eq_true rfl⟩ ⟨Nat.le_of_ble_eq_true rfl, Nat.le_of_ble_eq_true rfl⟩ (by decide) f64 rfl rfl hl.1 rfl (Nat.le_of_ble_eq_true rfl) dL_law_765 (fun r2 w2 H locs hp2 h => ?_)
  obtain ⟨ok2, kx2, hr2⟩ := hp2
  have rel2 : REL2 cI cB cZ ad w2 := rel1.km ok1 ok2 kx2
  refine lv_pop hx hb dL_law_768 rfl ?_
  refine lv_goto (tgt := 1230) hx hb dL_law_769 (by decide) ?_
  exact hend w2 H locs ok2 rel2 h

set_option maxHeartbeats 4000000 in
set_option maxRecDepth 100000 in
theorem law_note {p : Program} {l : Launch} {e : Env} {s : State} {m : MethodId} {below : List Frame} {meth : Method} {c : Code} {Q : State → Prop} {G : va_G} {cI cB cZ cO : ClassId} {ad : Nat → Nat} {w : Nat → va_E} {b L : Nat} {xs : Nat → Int32} {i : Int32} (X : Fx p m c code 4 s #[Value.ref b] "NoonShadeLaw" G (tyq cI cB cZ cO) (fun q => s.heap.size ≤ q)) (hD : WD (fun q => s.heap.size ≤ q) 74 ad) (hN : NS ad (fun q => s.heap.size ≤ q) s s.heap) (ok : OK cI cB cZ cO ad w) (rel : REL2 cI cB cZ ad w) (hX : va_X b L xs s s.heap) (hbl : b < s.heap.size) (hi0 : 0 ≤ i.toInt) (hi1 : i.toInt + 5 ≤ L) (hL : L ≤ 2560) {H : Heap} {locs : List Loc} {ls : Array Slot} (h : St G 74 ad (fun q => s.heap.size ≤ q) s.heap w H locs) (hl : lv_has ls 4 [(0, .ref b), (1, .ref (ad 0)), (2, .ref (ad 64)), (3, .int i)]) (hend : ∀ (w : Nat → va_E) (H : Heap) (locs : List Loc), OK cI cB cZ cO ad w → REL2 cI cB cZ ad w → St G 74 ad (fun q => s.heap.size ≤ q) s.heap w H locs → W p l e room_1 s m #[Value.ref b] below meth c H locs 74 2063 Q (F0 m 1230 ls [])) : W p l e room_1 s m #[Value.ref b] below meth c H locs 74 2063 Q (F0 m 772 ls []) := by
  have hx := X.1.1
  have hb := X.1.2.1
  have hbA : ¬ (fun q => s.heap.size ≤ q) b := Nat.not_le.mpr hbl
  obtain ⟨z1, ez1, tz1⟩ := x_add (x := i) (y := 1) (a := i.toInt) (b := 1) rfl rfl (by omega) (by omega)
  obtain ⟨a1, ea1⟩ : ∃ v : Int32, xs (z1).toNatClampNeg = v := ⟨_, rfl⟩
  obtain ⟨z2, ez2, tz2⟩ := x_add (x := i) (y := 2) (a := i.toInt) (b := 2) rfl rfl (by omega) (by omega)
  obtain ⟨a2, ea2⟩ : ∃ v : Int32, xs (z2).toNatClampNeg = v := ⟨_, rfl⟩
  obtain ⟨z3, ez3, tz3⟩ := x_add (x := i) (y := 3) (a := i.toInt) (b := 3) rfl rfl (by omega) (by omega)
  obtain ⟨a3, ea3⟩ : ∃ v : Int32, xs (z3).toNatClampNeg = v := ⟨_, rfl⟩
  obtain ⟨z4, ez4, tz4⟩ := x_add (x := i) (y := 4) (a := i.toInt) (b := 4) rfl rfl (by omega) (by omega)
  obtain ⟨a4, ea4⟩ : ∃ v : Int32, xs (z4).toNatClampNeg = v := ⟨_, rfl⟩
  obtain ⟨x0, y0, q0, q1, q2, f0⟩ := (show sN ad (w 0) from ok 0 (by decide))
  obtain ⟨ca, ja, nz, mz, hh, nc, mc, f, iv, f65, ird⟩ := id rel.2.1
  obtain ⟨ho, so, mi, e1, hrn, hca, hja, hnz, hmz⟩ := iv.cells (Or.inl rfl) ok
  have pal : alA f := (alA_of65 ok (Or.inl rfl) f65).1
  refine lv_aload_n hx hb dL_law_772 rfl (lv_at hl 1 rfl) ?_
  refine lv_aload_n hx hb dL_law_773 rfl (lv_at hl 0 rfl) ?_
  refine lv_iload_n hx hb dL_law_774 rfl (lv_at hl 3 rfl) ?_
  refine lv_iconst (v := 1) hx hb dL_law_775 (by decide) ?_
  refine o_iadd (z := z1) hx hb dL_law_776 ez1 ?_
  refine o_sld (v := a1) hx hb hX hbl hbA h.2 (in_of (by omega) (by omega)) ea1 dL_law_777 ?_
  refine lv_aload_n hx hb dL_law_778 rfl (lv_at hl 0 rfl) ?_
  refine lv_iload_n hx hb dL_law_779 rfl (lv_at hl 3 rfl) ?_
  refine lv_iconst (v := 2) hx hb dL_law_780 (by decide) ?_
  refine o_iadd (z := z2) hx hb dL_law_781 ez2 ?_
  refine o_sld (v := a2) hx hb hX hbl hbA h.2 (in_of (by omega) (by omega)) ea2 dL_law_782 ?_
  refine lv_aload_n hx hb dL_law_783 rfl (lv_at hl 0 rfl) ?_
  refine lv_iload_n hx hb dL_law_784 rfl (lv_at hl 3 rfl) ?_
  refine lv_iconst (v := 3) hx hb dL_law_785 (by decide) ?_
  refine o_iadd (z := z3) hx hb dL_law_786 ez3 ?_
  refine o_sld (v := a3) hx hb hX hbl hbA h.2 (in_of (by omega) (by omega)) ea3 dL_law_787 ?_
  refine lv_aload_n hx hb dL_law_788 rfl (lv_at hl 0 rfl) ?_
  refine lv_iload_n hx hb dL_law_789 rfl (lv_at hl 3 rfl) ?_
  refine lv_iconst (v := 4) hx hb dL_law_790 (by decide) ?_
  refine o_iadd (z := z4) hx hb dL_law_791 ez4 ?_
  refine o_sld (v := a4) hx hb hX hbl hbA h.2 (in_of (by omega) (by omega)) ea4 dL_law_792 ?_
  refine n_Vi (na := 4) (As := [.int a1, .int a2, .int a3, .int a4]) (rest := []) X hD hN h rfl (c_F_note l G cI cB cZ cO ad w ho so mi ca ja nz mz hh nc mc ok a1 a2 a3 a4 e1 iv.2.1 iv.2.2.1 iv.2.2.2.1 iv.2.2.2.2.1 iv.2.2.2.2.2 hrn hca hja hnz hmz) ⟨kv_879, kv_880, kv_881, kv_212, kv_882⟩ rfl ⟨by decide, by decide, by decide⟩ ⟨Nat.le_of_ble_eq_true rfl, Nat.le_of_ble_eq_true rfl⟩ ⟨Nat.le_of_ble_eq_true rfl, Nat.le_of_ble_eq_true rfl⟩ (by decide) f0 rfl rfl hl.1 rfl (Nat.le_of_ble_eq_true rfl) dL_law_793 (fun r1 w1 H locs hp1 h => ?_)
  obtain ⟨ok1, kx1, hr1⟩ := hp1
  refine lv_pop hx hb dL_law_796 rfl ?_
  obtain ⟨x1, y1, m0, m1, m2, m3, m4, m5, f64, h64a, h64b⟩ := (show sM ad (w1 64) from ok1 64 (by decide))
  have f65b : w1 65 = .inl (cI, 177, .inl f) := by have c9 : w1 65 = w 65 := kx1 65; exact c9.trans f65
  refine lv_aload_n hx hb dL_law_797 rfl (lv_at hl 2 rfl) ?_
  refine lv_aload_n hx hb dL_law_798 rfl (lv_at hl 0 rfl) ?_
  refine lv_iload_n hx hb dL_law_799 rfl (lv_at hl 3 rfl) ?_
  refine lv_iconst (v := 1) hx hb dL_law_800 (by decide) ?_
  refine o_iadd (z := z1) hx hb dL_law_801 ez1 ?_
  refine o_sld (v := a1) hx hb hX hbl hbA h.2 (in_of (by omega) (by omega)) ea1 dL_law_802 ?_
  refine lv_aload_n hx hb dL_law_803 rfl (lv_at hl 0 rfl) ?_
  refine lv_iload_n hx hb dL_law_804 rfl (lv_at hl 3 rfl) ?_
  refine lv_iconst (v := 2) hx hb dL_law_805 (by decide) ?_
  refine o_iadd (z := z2) hx hb dL_law_806 ez2 ?_
  refine o_sld (v := a2) hx hb hX hbl hbA h.2 (in_of (by omega) (by omega)) ea2 dL_law_807 ?_
  refine lv_aload_n hx hb dL_law_808 rfl (lv_at hl 0 rfl) ?_
  refine lv_iload_n hx hb dL_law_809 rfl (lv_at hl 3 rfl) ?_
  refine lv_iconst (v := 3) hx hb dL_law_810 (by decide) ?_
  refine o_iadd (z := z3) hx hb dL_law_811 ez3 ?_
  refine o_sld (v := a3) hx hb hX hbl hbA h.2 (in_of (by omega) (by omega)) ea3 dL_law_812 ?_
  refine lv_aload_n hx hb dL_law_813 rfl (lv_at hl 0 rfl) ?_
  refine lv_iload_n hx hb dL_law_814 rfl (lv_at hl 3 rfl) ?_
  refine lv_iconst (v := 4) hx hb dL_law_815 (by decide) ?_
  refine o_iadd (z := z4) hx hb dL_law_816 ez4 ?_
  refine o_sld (v := a4) hx hb hX hbl hbA h.2 (in_of (by omega) (by omega)) ea4 dL_law_817 ?_
  refine n_Vi (na := 4) (As := [.int a1, .int a2, .int a3, .int a4]) (rest := []) X hD hN h rfl (c_MF_note l G cI cB cZ cO ad w1 f ok1 a1 a2 a3 a4 f65b pal) ⟨kv_883, kv_884, kv_885, kv_470, kv_886⟩ rfl ⟨by decide, by decide, by decide⟩ ⟨Nat.le_of_ble_eq_true rfl, Nat.le_of_ble_eq_true rfl⟩ ⟨Nat.le_of_ble_eq_true rfl, Nat.le_of_ble_eq_true rfl⟩ (by decide) f64 rfl rfl hl.1 rfl (Nat.le_of_ble_eq_true rfl) dL_law_818 (fun r2 w2 H locs hp2 h => ?_)
  obtain ⟨ok2, kx2, hr2⟩ := hp2
  rw [ird.1] at hr2
  obtain ⟨rel2, he⟩ : REL2 cI cB cZ ad w2 ∧ r1 = r2 := three hr1 ⟨fun q => by rw [ird.2.2.1]; omega, fun q => by rw [ird.2.2.1] at q; omega⟩ hr2 (fun a b => ⟨rel_refused rel ok1 ok2 a.1 b.1, a.2.trans b.2.symm⟩) (fun _ _ a b => ⟨rel_refused rel ok1 ok2 a.1 b.1, a.2.trans b.2.symm⟩) (fun hg l a b => by obtain ⟨c1, c2, n, hn, c3⟩ := a; obtain ⟨b1, b2, m9, hm, b3⟩ := b; exact ⟨rel_end rel c1 c3 b1 b3 (ird.note hnz.1 (by omega) hca.2 hmz.2 hn hm _ _ _ _ ⟨by omega, by omega⟩ ⟨by omega, by omega⟩), by rw [← c2, ← b2, ird.2.2.1]⟩)
  refine lv_pop hx hb dL_law_821 rfl ?_
  refine lv_goto (tgt := 1230) hx hb dL_law_822 (by decide) ?_
  exact hend w2 H locs ok2 rel2 h

set_option maxHeartbeats 4000000 in
set_option maxRecDepth 100000 in
theorem law_mark {p : Program} {l : Launch} {e : Env} {s : State} {m : MethodId} {below : List Frame} {meth : Method} {c : Code} {Q : State → Prop} {G : va_G} {cI cB cZ cO : ClassId} {ad : Nat → Nat} {w : Nat → va_E} {b L : Nat} {xs : Nat → Int32} {i : Int32} (X : Fx p m c code 4 s #[Value.ref b] "NoonShadeLaw" G (tyq cI cB cZ cO) (fun q => s.heap.size ≤ q)) (hD : WD (fun q => s.heap.size ≤ q) 74 ad) (hN : NS ad (fun q => s.heap.size ≤ q) s s.heap) (ok : OK cI cB cZ cO ad w) (rel : REL2 cI cB cZ ad w) (hX : va_X b L xs s s.heap) (hbl : b < s.heap.size) (hi0 : 0 ≤ i.toInt) (hi1 : i.toInt + 5 ≤ L) (hL : L ≤ 2560) {H : Heap} {locs : List Loc} {ls : Array Slot} (h : St G 74 ad (fun q => s.heap.size ≤ q) s.heap w H locs) (hl : lv_has ls 4 [(0, .ref b), (1, .ref (ad 0)), (2, .ref (ad 64)), (3, .int i)]) (hend : ∀ (w : Nat → va_E) (H : Heap) (locs : List Loc), OK cI cB cZ cO ad w → REL2 cI cB cZ ad w → St G 74 ad (fun q => s.heap.size ≤ q) s.heap w H locs → W p l e room_1 s m #[Value.ref b] below meth c H locs 74 2063 Q (F0 m 1230 ls [])) : W p l e room_1 s m #[Value.ref b] below meth c H locs 74 2063 Q (F0 m 825 ls []) := by
  have hx := X.1.1
  have hb := X.1.2.1
  have hbA : ¬ (fun q => s.heap.size ≤ q) b := Nat.not_le.mpr hbl
  obtain ⟨z1, ez1, tz1⟩ := x_add (x := i) (y := 1) (a := i.toInt) (b := 1) rfl rfl (by omega) (by omega)
  obtain ⟨a1, ea1⟩ : ∃ v : Int32, xs (z1).toNatClampNeg = v := ⟨_, rfl⟩
  obtain ⟨z2, ez2, tz2⟩ := x_add (x := i) (y := 2) (a := i.toInt) (b := 2) rfl rfl (by omega) (by omega)
  obtain ⟨a2, ea2⟩ : ∃ v : Int32, xs (z2).toNatClampNeg = v := ⟨_, rfl⟩
  obtain ⟨z3, ez3, tz3⟩ := x_add (x := i) (y := 3) (a := i.toInt) (b := 3) rfl rfl (by omega) (by omega)
  obtain ⟨a3, ea3⟩ : ∃ v : Int32, xs (z3).toNatClampNeg = v := ⟨_, rfl⟩
  obtain ⟨z4, ez4, tz4⟩ := x_add (x := i) (y := 4) (a := i.toInt) (b := 4) rfl rfl (by omega) (by omega)
  obtain ⟨a4, ea4⟩ : ∃ v : Int32, xs (z4).toNatClampNeg = v := ⟨_, rfl⟩
  obtain ⟨x0, y0, q0, q1, q2, f0⟩ := (show sN ad (w 0) from ok 0 (by decide))
  obtain ⟨ca, ja, nz, mz, hh, nc, mc, f, iv, f65, ird⟩ := id rel.2.1
  obtain ⟨ho, so, mi, e1, hrn, hca, hja, hnz, hmz⟩ := iv.cells (Or.inl rfl) ok
  have pal : alA f := (alA_of65 ok (Or.inl rfl) f65).1
  refine lv_aload_n hx hb dL_law_825 rfl (lv_at hl 1 rfl) ?_
  refine lv_aload_n hx hb dL_law_826 rfl (lv_at hl 0 rfl) ?_
  refine lv_iload_n hx hb dL_law_827 rfl (lv_at hl 3 rfl) ?_
  refine lv_iconst (v := 1) hx hb dL_law_828 (by decide) ?_
  refine o_iadd (z := z1) hx hb dL_law_829 ez1 ?_
  refine o_sld (v := a1) hx hb hX hbl hbA h.2 (in_of (by omega) (by omega)) ea1 dL_law_830 ?_
  refine lv_aload_n hx hb dL_law_831 rfl (lv_at hl 0 rfl) ?_
  refine lv_iload_n hx hb dL_law_832 rfl (lv_at hl 3 rfl) ?_
  refine lv_iconst (v := 2) hx hb dL_law_833 (by decide) ?_
  refine o_iadd (z := z2) hx hb dL_law_834 ez2 ?_
  refine o_sld (v := a2) hx hb hX hbl hbA h.2 (in_of (by omega) (by omega)) ea2 dL_law_835 ?_
  refine lv_aload_n hx hb dL_law_836 rfl (lv_at hl 0 rfl) ?_
  refine lv_iload_n hx hb dL_law_837 rfl (lv_at hl 3 rfl) ?_
  refine lv_iconst (v := 3) hx hb dL_law_838 (by decide) ?_
  refine o_iadd (z := z3) hx hb dL_law_839 ez3 ?_
  refine o_sld (v := a3) hx hb hX hbl hbA h.2 (in_of (by omega) (by omega)) ea3 dL_law_840 ?_
  refine lv_aload_n hx hb dL_law_841 rfl (lv_at hl 0 rfl) ?_
  refine lv_iload_n hx hb dL_law_842 rfl (lv_at hl 3 rfl) ?_
  refine lv_iconst (v := 4) hx hb dL_law_843 (by decide) ?_
  refine o_iadd (z := z4) hx hb dL_law_844 ez4 ?_
  refine o_sld (v := a4) hx hb hX hbl hbA h.2 (in_of (by omega) (by omega)) ea4 dL_law_845 ?_
  refine n_Vi (na := 4) (As := [.int a1, .int a2, .int a3, .int a4]) (rest := []) X hD hN h rfl (c_F_mark l G cI cB cZ cO ad w ho so mi ca ja nz mz hh nc mc ok a1 a2 a3 a4 e1 iv.2.1 iv.2.2.1 iv.2.2.2.1 iv.2.2.2.2.1 iv.2.2.2.2.2 hrn hca hja hnz hmz) ⟨kv_887, kv_888, kv_889, kv_212, kv_890⟩ rfl ⟨by decide, by decide, by decide⟩ ⟨Nat.le_of_ble_eq_true rfl, Nat.le_of_ble_eq_true rfl⟩ ⟨Nat.le_of_ble_eq_true rfl, Nat.le_of_ble_eq_true rfl⟩ (by decide) f0 rfl rfl hl.1 rfl (Nat.le_of_ble_eq_true rfl) dL_law_846 (fun r1 w1 H locs hp1 h => ?_)
  obtain ⟨ok1, kx1, hr1⟩ := hp1
  refine lv_pop hx hb dL_law_849 rfl ?_
  obtain ⟨x1, y1, m0, m1, m2, m3, m4, m5, f64, h64a, h64b⟩ := (show sM ad (w1 64) from ok1 64 (by decide))
  have f65b : w1 65 = .inl (cI, 177, .inl f) := by have c9 : w1 65 = w 65 := kx1 65; exact c9.trans f65
  refine lv_aload_n hx hb dL_law_850 rfl (lv_at hl 2 rfl) ?_
  refine lv_aload_n hx hb dL_law_851 rfl (lv_at hl 0 rfl) ?_
  refine lv_iload_n hx hb dL_law_852 rfl (lv_at hl 3 rfl) ?_
  refine lv_iconst (v := 1) hx hb dL_law_853 (by decide) ?_
  refine o_iadd (z := z1) hx hb dL_law_854 ez1 ?_
  refine o_sld (v := a1) hx hb hX hbl hbA h.2 (in_of (by omega) (by omega)) ea1 dL_law_855 ?_
  refine lv_aload_n hx hb dL_law_856 rfl (lv_at hl 0 rfl) ?_
  refine lv_iload_n hx hb dL_law_857 rfl (lv_at hl 3 rfl) ?_
  refine lv_iconst (v := 2) hx hb dL_law_858 (by decide) ?_
  refine o_iadd (z := z2) hx hb dL_law_859 ez2 ?_
  refine o_sld (v := a2) hx hb hX hbl hbA h.2 (in_of (by omega) (by omega)) ea2 dL_law_860 ?_
  refine lv_aload_n hx hb dL_law_861 rfl (lv_at hl 0 rfl) ?_
  refine lv_iload_n hx hb dL_law_862 rfl (lv_at hl 3 rfl) ?_
  refine lv_iconst (v := 3) hx hb dL_law_863 (by decide) ?_
  refine o_iadd (z := z3) hx hb dL_law_864 ez3 ?_
  refine o_sld (v := a3) hx hb hX hbl hbA h.2 (in_of (by omega) (by omega)) ea3 dL_law_865 ?_
  refine lv_aload_n hx hb dL_law_866 rfl (lv_at hl 0 rfl) ?_
  refine lv_iload_n hx hb dL_law_867 rfl (lv_at hl 3 rfl) ?_
  refine lv_iconst (v := 4) hx hb dL_law_868 (by decide) ?_
  refine o_iadd (z := z4) hx hb dL_law_869 ez4 ?_
  refine o_sld (v := a4) hx hb hX hbl hbA h.2 (in_of (by omega) (by omega)) ea4 dL_law_870 ?_
  refine n_Vi (na := 4) (As := [.int a1, .int a2, .int a3, .int a4]) (rest := []) X hD hN h rfl (c_MF_mark l G cI cB cZ cO ad w1 f ok1 a1 a2 a3 a4 f65b pal) ⟨kv_891, kv_892, kv_893, kv_470, kv_894⟩ rfl ⟨by decide, by decide, by decide⟩ ⟨Nat.le_of_ble_eq_true rfl, Nat.le_of_ble_eq_true rfl⟩ ⟨Nat.le_of_ble_eq_true rfl, Nat.le_of_ble_eq_true rfl⟩ (by decide) f64 rfl rfl hl.1 rfl (Nat.le_of_ble_eq_true rfl) dL_law_871 (fun r2 w2 H locs hp2 h => ?_)
  obtain ⟨ok2, kx2, hr2⟩ := hp2
  rw [ird.2.1] at hr2
  obtain ⟨rel2, he⟩ : REL2 cI cB cZ ad w2 ∧ r1 = r2 := three hr1 ⟨fun q => by rw [ird.2.2.2.1]; omega, fun q => by rw [ird.2.2.2.1] at q; omega⟩ hr2 (fun a b => ⟨rel_refused rel ok1 ok2 a.1 b.1, a.2.trans b.2.symm⟩) (fun _ _ a b => ⟨rel_refused rel ok1 ok2 a.1 b.1, a.2.trans b.2.symm⟩) (fun hg l a b => by obtain ⟨c1, c2, n, hn, c3⟩ := a; obtain ⟨b1, b2, m9, hm, b3⟩ := b; exact ⟨rel_end rel c1 c3 b1 b3 (ird.mark hmz.1 (by omega) hca.2 hnz.2 hn hm _ _ _ _ ⟨by omega, by omega⟩ ⟨by omega, by omega⟩), by rw [← c2, ← b2, ird.2.2.2.1]⟩)
  refine lv_pop hx hb dL_law_874 rfl ?_
  refine lv_goto (tgt := 1230) hx hb dL_law_875 (by decide) ?_
  exact hend w2 H locs ok2 rel2 h

set_option maxHeartbeats 4000000 in
set_option maxRecDepth 100000 in
theorem law_forget {p : Program} {l : Launch} {e : Env} {s : State} {m : MethodId} {below : List Frame} {meth : Method} {c : Code} {Q : State → Prop} {G : va_G} {cI cB cZ cO : ClassId} {ad : Nat → Nat} {w : Nat → va_E} {b L : Nat} {xs : Nat → Int32} {i : Int32} (X : Fx p m c code 4 s #[Value.ref b] "NoonShadeLaw" G (tyq cI cB cZ cO) (fun q => s.heap.size ≤ q)) (hD : WD (fun q => s.heap.size ≤ q) 74 ad) (hN : NS ad (fun q => s.heap.size ≤ q) s s.heap) (ok : OK cI cB cZ cO ad w) (rel : REL2 cI cB cZ ad w) (hX : va_X b L xs s s.heap) (hbl : b < s.heap.size) (hi0 : 0 ≤ i.toInt) (hi1 : i.toInt + 5 ≤ L) (hL : L ≤ 2560) {H : Heap} {locs : List Loc} {ls : Array Slot} (h : St G 74 ad (fun q => s.heap.size ≤ q) s.heap w H locs) (hl : lv_has ls 4 [(0, .ref b), (1, .ref (ad 0)), (2, .ref (ad 64)), (3, .int i)]) (hend : ∀ (w : Nat → va_E) (H : Heap) (locs : List Loc), OK cI cB cZ cO ad w → REL2 cI cB cZ ad w → St G 74 ad (fun q => s.heap.size ≤ q) s.heap w H locs → W p l e room_1 s m #[Value.ref b] below meth c H locs 74 2063 Q (F0 m 1230 ls [])) : W p l e room_1 s m #[Value.ref b] below meth c H locs 74 2063 Q (F0 m 878 ls []) := by
  have hx := X.1.1
  have hb := X.1.2.1
  have hbA : ¬ (fun q => s.heap.size ≤ q) b := Nat.not_le.mpr hbl
  obtain ⟨z1, ez1, tz1⟩ := x_add (x := i) (y := 1) (a := i.toInt) (b := 1) rfl rfl (by omega) (by omega)
  obtain ⟨a1, ea1⟩ : ∃ v : Int32, xs (z1).toNatClampNeg = v := ⟨_, rfl⟩
  obtain ⟨x0, y0, q0, q1, q2, f0⟩ := (show sN ad (w 0) from ok 0 (by decide))
  obtain ⟨ca, ja, nz, mz, hh, nc, mc, f, iv, f65, ird⟩ := id rel.2.1
  obtain ⟨ho, so, mi, e1, hrn, hca, hja, hnz, hmz⟩ := iv.cells (Or.inl rfl) ok
  have pal : alA f := (alA_of65 ok (Or.inl rfl) f65).1
  refine lv_aload_n hx hb dL_law_878 rfl (lv_at hl 1 rfl) ?_
  refine lv_aload_n hx hb dL_law_879 rfl (lv_at hl 0 rfl) ?_
  refine lv_iload_n hx hb dL_law_880 rfl (lv_at hl 3 rfl) ?_
  refine lv_iconst (v := 1) hx hb dL_law_881 (by decide) ?_
  refine o_iadd (z := z1) hx hb dL_law_882 ez1 ?_
  refine o_sld (v := a1) hx hb hX hbl hbA h.2 (in_of (by omega) (by omega)) ea1 dL_law_883 ?_
  refine n_Vi (na := 1) (As := [.int a1]) (rest := []) X hD hN h rfl (c_F_forget l G cI cB cZ cO ad w ho so mi ca ja nz mz hh nc mc ok a1 e1 iv.2.1 iv.2.2.1 iv.2.2.2.1 iv.2.2.2.2.1 iv.2.2.2.2.2 hrn hca hja hnz hmz) ⟨kv_895, kv_896, kv_897, kv_212, kv_898⟩ rfl ⟨by decide, by decide, by decide⟩ ⟨Nat.le_of_ble_eq_true rfl, Nat.le_of_ble_eq_true rfl⟩ ⟨Nat.le_of_ble_eq_true rfl, Nat.le_of_ble_eq_true rfl⟩ (by decide) f0 rfl rfl hl.1 rfl (Nat.le_of_ble_eq_true rfl) dL_law_884 (fun r1 w1 H locs hp1 h => ?_)
  obtain ⟨ok1, kx1, hr1⟩ := hp1
  refine lv_pop hx hb dL_law_887 rfl ?_
  obtain ⟨x1, y1, m0, m1, m2, m3, m4, m5, f64, h64a, h64b⟩ := (show sM ad (w1 64) from ok1 64 (by decide))
  have f65b : w1 65 = .inl (cI, 177, .inl f) := by have c9 : w1 65 = w 65 := kx1 65; exact c9.trans f65
  refine lv_aload_n hx hb dL_law_888 rfl (lv_at hl 2 rfl) ?_
  refine lv_aload_n hx hb dL_law_889 rfl (lv_at hl 0 rfl) ?_
  refine lv_iload_n hx hb dL_law_890 rfl (lv_at hl 3 rfl) ?_
  refine lv_iconst (v := 1) hx hb dL_law_891 (by decide) ?_
  refine o_iadd (z := z1) hx hb dL_law_892 ez1 ?_
  refine o_sld (v := a1) hx hb hX hbl hbA h.2 (in_of (by omega) (by omega)) ea1 dL_law_893 ?_
  refine n_Vi (na := 1) (As := [.int a1]) (rest := []) X hD hN h rfl (c_MF_forget l G cI cB cZ cO ad w1 f ok1 a1 f65b pal) ⟨kv_899, kv_900, kv_901, kv_470, kv_902⟩ rfl ⟨by decide, by decide, by decide⟩ ⟨Nat.le_of_ble_eq_true rfl, Nat.le_of_ble_eq_true rfl⟩ ⟨Nat.le_of_ble_eq_true rfl, Nat.le_of_ble_eq_true rfl⟩ (by decide) f64 rfl rfl hl.1 rfl (Nat.le_of_ble_eq_true rfl) dL_law_894 (fun r2 w2 H locs hp2 h => ?_)
  obtain ⟨ok2, kx2, hr2⟩ := hp2
  obtain ⟨rel2, he⟩ : REL2 cI cB cZ ad w2 ∧ r1 = r2 := by
    rcases hr2 with ⟨g2, b⟩ | ⟨g2, b1, b2, b3⟩
    · rcases hr1 with ⟨g1, _⟩ | ⟨g1, _⟩ | ⟨g1, a⟩
      · exfalso; omega
      · exfalso; omega
      · exact ⟨rel_refused rel ok1 ok2 a.1 b.1, a.2.trans b.2.symm⟩
    · have cu := cl_of (x := a1) (by omega)
      rcases hr1 with ⟨g1, c1, c2, c3⟩ | ⟨g1, c1, c2, c3⟩ | ⟨g1, a⟩
      · have cz : a1.toNatClampNeg = 0 := by omega
        rw [cz] at b2 b3
        exact ⟨rel_end rel c1 c3 b1 b3 ird.no2, c2.symm.trans (ird.2.2.1.symm.trans b2)⟩
      · have cz : a1.toNatClampNeg = 1 := by omega
        rw [cz] at b2 b3
        exact ⟨rel_end rel c1 c3 b1 b3 ird.no3, c2.symm.trans (ird.2.2.2.1.symm.trans b2)⟩
      · exfalso; omega
  refine lv_pop hx hb dL_law_897 rfl ?_
  refine lv_goto (tgt := 1230) hx hb dL_law_898 (by decide) ?_
  exact hend w2 H locs ok2 rel2 h

set_option maxHeartbeats 4000000 in
set_option maxRecDepth 100000 in
theorem law_is {p : Program} {l : Launch} {e : Env} {s : State} {m : MethodId} {below : List Frame} {meth : Method} {c : Code} {Q : State → Prop} {G : va_G} {cI cB cZ cO : ClassId} {ad : Nat → Nat} {w : Nat → va_E} {b L : Nat} {xs : Nat → Int32} {i : Int32} (X : Fx p m c code 4 s #[Value.ref b] "NoonShadeLaw" G (tyq cI cB cZ cO) (fun q => s.heap.size ≤ q)) (hD : WD (fun q => s.heap.size ≤ q) 74 ad) (hN : NS ad (fun q => s.heap.size ≤ q) s s.heap) (ok : OK cI cB cZ cO ad w) (rel : REL2 cI cB cZ ad w) (hX : va_X b L xs s s.heap) (hbl : b < s.heap.size) (hi0 : 0 ≤ i.toInt) (hi1 : i.toInt + 5 ≤ L) (hL : L ≤ 2560) {H : Heap} {locs : List Loc} {ls : Array Slot} (h : St G 74 ad (fun q => s.heap.size ≤ q) s.heap w H locs) (hl : lv_has ls 4 [(0, .ref b), (1, .ref (ad 0)), (2, .ref (ad 64)), (3, .int i)]) (hend : ∀ (w : Nat → va_E) (H : Heap) (locs : List Loc), OK cI cB cZ cO ad w → REL2 cI cB cZ ad w → St G 74 ad (fun q => s.heap.size ≤ q) s.heap w H locs → W p l e room_1 s m #[Value.ref b] below meth c H locs 74 2063 Q (F0 m 1230 ls [])) : W p l e room_1 s m #[Value.ref b] below meth c H locs 74 2063 Q (F0 m 901 ls []) := by
  have hx := X.1.1
  have hb := X.1.2.1
  have hbA : ¬ (fun q => s.heap.size ≤ q) b := Nat.not_le.mpr hbl
  obtain ⟨z1, ez1, tz1⟩ := x_add (x := i) (y := 1) (a := i.toInt) (b := 1) rfl rfl (by omega) (by omega)
  obtain ⟨a1, ea1⟩ : ∃ v : Int32, xs (z1).toNatClampNeg = v := ⟨_, rfl⟩
  obtain ⟨x0, y0, q0, q1, q2, f0⟩ := (show sN ad (w 0) from ok 0 (by decide))
  refine lv_aload_n hx hb dL_law_901 rfl (lv_at hl 1 rfl) ?_
  refine lv_aload_n hx hb dL_law_902 rfl (lv_at hl 0 rfl) ?_
  refine lv_iload_n hx hb dL_law_903 rfl (lv_at hl 3 rfl) ?_
  refine lv_iconst (v := 1) hx hb dL_law_904 (by decide) ?_
  refine o_iadd (z := z1) hx hb dL_law_905 ez1 ?_
  refine o_sld (v := a1) hx hb hX hbl hbA h.2 (in_of (by omega) (by omega)) ea1 dL_law_906 ?_
  refine n_Vi (na := 1) (As := [.int a1]) (rest := []) X hD hN h rfl (c_X_is l G cI cB cZ cO ad w ok a1) ⟨kv_903, kv_904, kv_905, kv_212, kv_906⟩ rfl ⟨by decide, by decide, by decide⟩ ⟨Nat.le_of_ble_eq_true rfl, Nat.le_of_ble_eq_true rfl⟩ ⟨Nat.le_of_ble_eq_true rfl, Nat.le_of_ble_eq_true rfl⟩ (by decide) f0 rfl rfl hl.1 rfl (Nat.le_of_ble_eq_true rfl) dL_law_907 (fun r1 w1 H locs hp1 h => ?_)
  obtain ⟨ok1, kx1, hr1⟩ := hp1
  refine lv_pop hx hb dL_law_910 rfl ?_
  have rel1 : REL2 cI cB cZ ad w1 := rel.kx kx1
  obtain ⟨x1, y1, m0, m1, m2, m3, m4, m5, f64, h64a, h64b⟩ := (show sM ad (w1 64) from ok1 64 (by decide))
  refine lv_aload_n hx hb dL_law_911 rfl (lv_at hl 2 rfl) ?_
  refine lv_aload_n hx hb dL_law_912 rfl (lv_at hl 0 rfl) ?_
  refine lv_iload_n hx hb dL_law_913 rfl (lv_at hl 3 rfl) ?_
  refine lv_iconst (v := 1) hx hb dL_law_914 (by decide) ?_
  refine o_iadd (z := z1) hx hb dL_law_915 ez1 ?_
  refine o_sld (v := a1) hx hb hX hbl hbA h.2 (in_of (by omega) (by omega)) ea1 dL_law_916 ?_
  refine n_Vi (na := 1) (As := [.int a1]) (rest := []) X hD hN h rfl (c_M_is_ l G cI cB cZ cO ad w1 ok1 a1) ⟨kv_907, kv_908, kv_909, kv_470, kv_910⟩ rfl ⟨by decide, by decide, by decide⟩ ⟨Nat.le_of_ble_eq_true rfl, Nat.le_of_ble_eq_true rfl⟩ ⟨Nat.le_of_ble_eq_true rfl, Nat.le_of_ble_eq_true rfl⟩ (by decide) f64 rfl rfl hl.1 rfl (Nat.le_of_ble_eq_true rfl) dL_law_917 (fun r2 w2 H locs hp2 h => ?_)
  obtain ⟨ok2, kx2, hr2⟩ := hp2
  have rel2 : REL2 cI cB cZ ad w2 := rel1.km ok1 ok2 kx2
  refine lv_pop hx hb dL_law_920 rfl ?_
  refine lv_goto (tgt := 1230) hx hb dL_law_921 (by decide) ?_
  exact hend w2 H locs ok2 rel2 h

set_option maxHeartbeats 4000000 in
set_option maxRecDepth 100000 in
theorem law_look {p : Program} {l : Launch} {e : Env} {s : State} {m : MethodId} {below : List Frame} {meth : Method} {c : Code} {Q : State → Prop} {G : va_G} {cI cB cZ cO : ClassId} {ad : Nat → Nat} {w : Nat → va_E} {b L : Nat} {xs : Nat → Int32} {i : Int32} (X : Fx p m c code 4 s #[Value.ref b] "NoonShadeLaw" G (tyq cI cB cZ cO) (fun q => s.heap.size ≤ q)) (hD : WD (fun q => s.heap.size ≤ q) 74 ad) (hN : NS ad (fun q => s.heap.size ≤ q) s s.heap) (ok : OK cI cB cZ cO ad w) (rel : REL2 cI cB cZ ad w) (hX : va_X b L xs s s.heap) (hbl : b < s.heap.size) (hi0 : 0 ≤ i.toInt) (hi1 : i.toInt + 5 ≤ L) (hL : L ≤ 2560) {H : Heap} {locs : List Loc} {ls : Array Slot} (h : St G 74 ad (fun q => s.heap.size ≤ q) s.heap w H locs) (hl : lv_has ls 4 [(0, .ref b), (1, .ref (ad 0)), (2, .ref (ad 64)), (3, .int i)]) (hend : ∀ (w : Nat → va_E) (H : Heap) (locs : List Loc), OK cI cB cZ cO ad w → REL2 cI cB cZ ad w → St G 74 ad (fun q => s.heap.size ≤ q) s.heap w H locs → W p l e room_1 s m #[Value.ref b] below meth c H locs 74 2063 Q (F0 m 1230 ls [])) : W p l e room_1 s m #[Value.ref b] below meth c H locs 74 2063 Q (F0 m 924 ls []) := by
  have hx := X.1.1
  have hb := X.1.2.1
  have hbA : ¬ (fun q => s.heap.size ≤ q) b := Nat.not_le.mpr hbl
  obtain ⟨z1, ez1, tz1⟩ := x_add (x := i) (y := 1) (a := i.toInt) (b := 1) rfl rfl (by omega) (by omega)
  obtain ⟨a1, ea1⟩ : ∃ v : Int32, xs (z1).toNatClampNeg = v := ⟨_, rfl⟩
  obtain ⟨x0, y0, q0, q1, q2, f0⟩ := (show sN ad (w 0) from ok 0 (by decide))
  refine lv_aload_n hx hb dL_law_924 rfl (lv_at hl 1 rfl) ?_
  refine lv_aload_n hx hb dL_law_925 rfl (lv_at hl 0 rfl) ?_
  refine lv_iload_n hx hb dL_law_926 rfl (lv_at hl 3 rfl) ?_
  refine lv_iconst (v := 1) hx hb dL_law_927 (by decide) ?_
  refine o_iadd (z := z1) hx hb dL_law_928 ez1 ?_
  refine o_sld (v := a1) hx hb hX hbl hbA h.2 (in_of (by omega) (by omega)) ea1 dL_law_929 ?_
  refine n_Vi (na := 1) (As := [.int a1]) (rest := []) X hD hN h rfl (c_X_look l G cI cB cZ cO ad w ok a1) ⟨kv_911, kv_912, kv_913, kv_212, kv_914⟩ rfl ⟨by decide, by decide, by decide⟩ ⟨Nat.le_of_ble_eq_true rfl, Nat.le_of_ble_eq_true rfl⟩ ⟨Nat.le_of_ble_eq_true rfl, Nat.le_of_ble_eq_true rfl⟩ (by decide) f0 rfl rfl hl.1 rfl (Nat.le_of_ble_eq_true rfl) dL_law_930 (fun r1 w1 H locs hp1 h => ?_)
  obtain ⟨ok1, kx1, hr1⟩ := hp1
  refine lv_pop hx hb dL_law_933 rfl ?_
  have rel1 : REL2 cI cB cZ ad w1 := rel.kx kx1
  obtain ⟨x1, y1, m0, m1, m2, m3, m4, m5, f64, h64a, h64b⟩ := (show sM ad (w1 64) from ok1 64 (by decide))
  refine lv_aload_n hx hb dL_law_934 rfl (lv_at hl 2 rfl) ?_
  refine lv_aload_n hx hb dL_law_935 rfl (lv_at hl 0 rfl) ?_
  refine lv_iload_n hx hb dL_law_936 rfl (lv_at hl 3 rfl) ?_
  refine lv_iconst (v := 1) hx hb dL_law_937 (by decide) ?_
  refine o_iadd (z := z1) hx hb dL_law_938 ez1 ?_
  refine o_sld (v := a1) hx hb hX hbl hbA h.2 (in_of (by omega) (by omega)) ea1 dL_law_939 ?_
  refine n_Vi (na := 1) (As := [.int a1]) (rest := []) X hD hN h rfl (c_M_look_ l G cI cB cZ cO ad w1 ok1 a1) ⟨kv_915, kv_916, kv_917, kv_470, kv_918⟩ rfl ⟨by decide, by decide, by decide⟩ ⟨Nat.le_of_ble_eq_true rfl, Nat.le_of_ble_eq_true rfl⟩ ⟨Nat.le_of_ble_eq_true rfl, Nat.le_of_ble_eq_true rfl⟩ (by decide) f64 rfl rfl hl.1 rfl (Nat.le_of_ble_eq_true rfl) dL_law_940 (fun r2 w2 H locs hp2 h => ?_)
  obtain ⟨ok2, kx2, hr2⟩ := hp2
  have rel2 : REL2 cI cB cZ ad w2 := rel1.km ok1 ok2 kx2
  refine lv_pop hx hb dL_law_943 rfl ?_
  refine lv_goto (tgt := 1230) hx hb dL_law_944 (by decide) ?_
  exact hend w2 H locs ok2 rel2 h

set_option maxHeartbeats 4000000 in
set_option maxRecDepth 100000 in
theorem law_kinds {p : Program} {l : Launch} {e : Env} {s : State} {m : MethodId} {below : List Frame} {meth : Method} {c : Code} {Q : State → Prop} {G : va_G} {cI cB cZ cO : ClassId} {ad : Nat → Nat} {w : Nat → va_E} {b L : Nat} {xs : Nat → Int32} {i : Int32} (X : Fx p m c code 4 s #[Value.ref b] "NoonShadeLaw" G (tyq cI cB cZ cO) (fun q => s.heap.size ≤ q)) (hD : WD (fun q => s.heap.size ≤ q) 74 ad) (hN : NS ad (fun q => s.heap.size ≤ q) s s.heap) (ok : OK cI cB cZ cO ad w) (rel : REL2 cI cB cZ ad w) (hX : va_X b L xs s s.heap) (hbl : b < s.heap.size) (hi0 : 0 ≤ i.toInt) (hi1 : i.toInt + 5 ≤ L) (hL : L ≤ 2560) {H : Heap} {locs : List Loc} {ls : Array Slot} (h : St G 74 ad (fun q => s.heap.size ≤ q) s.heap w H locs) (hl : lv_has ls 4 [(0, .ref b), (1, .ref (ad 0)), (2, .ref (ad 64)), (3, .int i)]) (hend : ∀ (w : Nat → va_E) (H : Heap) (locs : List Loc), OK cI cB cZ cO ad w → REL2 cI cB cZ ad w → St G 74 ad (fun q => s.heap.size ≤ q) s.heap w H locs → W p l e room_1 s m #[Value.ref b] below meth c H locs 74 2063 Q (F0 m 1230 ls [])) : W p l e room_1 s m #[Value.ref b] below meth c H locs 74 2063 Q (F0 m 947 ls []) := by
  have hx := X.1.1
  have hb := X.1.2.1
  have hbA : ¬ (fun q => s.heap.size ≤ q) b := Nat.not_le.mpr hbl
  obtain ⟨z1, ez1, tz1⟩ := x_add (x := i) (y := 1) (a := i.toInt) (b := 1) rfl rfl (by omega) (by omega)
  obtain ⟨a1, ea1⟩ : ∃ v : Int32, xs (z1).toNatClampNeg = v := ⟨_, rfl⟩
  obtain ⟨x0, y0, q0, q1, q2, f0⟩ := (show sN ad (w 0) from ok 0 (by decide))
  refine lv_aload_n hx hb dL_law_947 rfl (lv_at hl 1 rfl) ?_
  refine lv_aload_n hx hb dL_law_948 rfl (lv_at hl 0 rfl) ?_
  refine lv_iload_n hx hb dL_law_949 rfl (lv_at hl 3 rfl) ?_
  refine lv_iconst (v := 1) hx hb dL_law_950 (by decide) ?_
  refine o_iadd (z := z1) hx hb dL_law_951 ez1 ?_
  refine o_sld (v := a1) hx hb hX hbl hbA h.2 (in_of (by omega) (by omega)) ea1 dL_law_952 ?_
  refine n_Vi (na := 1) (As := [.int a1]) (rest := []) X hD hN h rfl (c_X_kinds l G cI cB cZ cO ad w ok a1) ⟨kv_919, kv_920, kv_921, kv_212, kv_922⟩ rfl ⟨by decide, by decide, by decide⟩ ⟨Nat.le_of_ble_eq_true rfl, Nat.le_of_ble_eq_true rfl⟩ ⟨Nat.le_of_ble_eq_true rfl, Nat.le_of_ble_eq_true rfl⟩ (by decide) f0 rfl rfl hl.1 rfl (Nat.le_of_ble_eq_true rfl) dL_law_953 (fun r1 w1 H locs hp1 h => ?_)
  obtain ⟨ok1, kx1, hr1⟩ := hp1
  refine lv_pop hx hb dL_law_956 rfl ?_
  have rel1 : REL2 cI cB cZ ad w1 := rel.kx kx1
  obtain ⟨x1, y1, m0, m1, m2, m3, m4, m5, f64, h64a, h64b⟩ := (show sM ad (w1 64) from ok1 64 (by decide))
  refine lv_aload_n hx hb dL_law_957 rfl (lv_at hl 2 rfl) ?_
  refine lv_aload_n hx hb dL_law_958 rfl (lv_at hl 0 rfl) ?_
  refine lv_iload_n hx hb dL_law_959 rfl (lv_at hl 3 rfl) ?_
  refine lv_iconst (v := 1) hx hb dL_law_960 (by decide) ?_
  refine o_iadd (z := z1) hx hb dL_law_961 ez1 ?_
  refine o_sld (v := a1) hx hb hX hbl hbA h.2 (in_of (by omega) (by omega)) ea1 dL_law_962 ?_
  refine n_Vi (na := 1) (As := [.int a1]) (rest := []) X hD hN h rfl (c_M_kinds_ l G cI cB cZ cO ad w1 ok1 a1) ⟨kv_923, kv_924, kv_925, kv_470, kv_926⟩ rfl ⟨by decide, by decide, by decide⟩ ⟨Nat.le_of_ble_eq_true rfl, Nat.le_of_ble_eq_true rfl⟩ ⟨Nat.le_of_ble_eq_true rfl, Nat.le_of_ble_eq_true rfl⟩ (by decide) f64 rfl rfl hl.1 rfl (Nat.le_of_ble_eq_true rfl) dL_law_963 (fun r2 w2 H locs hp2 h => ?_)
  obtain ⟨ok2, kx2, hr2⟩ := hp2
  have rel2 : REL2 cI cB cZ ad w2 := rel1.km ok1 ok2 kx2
  refine lv_pop hx hb dL_law_966 rfl ?_
  refine lv_goto (tgt := 1230) hx hb dL_law_967 (by decide) ?_
  exact hend w2 H locs ok2 rel2 h

set_option maxHeartbeats 4000000 in
set_option maxRecDepth 100000 in
theorem law_ask {p : Program} {l : Launch} {e : Env} {s : State} {m : MethodId} {below : List Frame} {meth : Method} {c : Code} {Q : State → Prop} {G : va_G} {cI cB cZ cO : ClassId} {ad : Nat → Nat} {w : Nat → va_E} {b L : Nat} {xs : Nat → Int32} {i : Int32} (X : Fx p m c code 4 s #[Value.ref b] "NoonShadeLaw" G (tyq cI cB cZ cO) (fun q => s.heap.size ≤ q)) (hD : WD (fun q => s.heap.size ≤ q) 74 ad) (hN : NS ad (fun q => s.heap.size ≤ q) s s.heap) (ok : OK cI cB cZ cO ad w) (rel : REL2 cI cB cZ ad w) (hX : va_X b L xs s s.heap) (hbl : b < s.heap.size) (hi0 : 0 ≤ i.toInt) (hi1 : i.toInt + 5 ≤ L) (hL : L ≤ 2560) {H : Heap} {locs : List Loc} {ls : Array Slot} (h : St G 74 ad (fun q => s.heap.size ≤ q) s.heap w H locs) (hl : lv_has ls 4 [(0, .ref b), (1, .ref (ad 0)), (2, .ref (ad 64)), (3, .int i)]) (hend : ∀ (w : Nat → va_E) (H : Heap) (locs : List Loc), OK cI cB cZ cO ad w → REL2 cI cB cZ ad w → St G 74 ad (fun q => s.heap.size ≤ q) s.heap w H locs → W p l e room_1 s m #[Value.ref b] below meth c H locs 74 2063 Q (F0 m 1230 ls [])) : W p l e room_1 s m #[Value.ref b] below meth c H locs 74 2063 Q (F0 m 970 ls []) := by
  have hx := X.1.1
  have hb := X.1.2.1
  have hbA : ¬ (fun q => s.heap.size ≤ q) b := Nat.not_le.mpr hbl
  obtain ⟨z1, ez1, tz1⟩ := x_add (x := i) (y := 1) (a := i.toInt) (b := 1) rfl rfl (by omega) (by omega)
  obtain ⟨a1, ea1⟩ : ∃ v : Int32, xs (z1).toNatClampNeg = v := ⟨_, rfl⟩
  obtain ⟨x0, y0, q0, q1, q2, f0⟩ := (show sN ad (w 0) from ok 0 (by decide))
  refine lv_aload_n hx hb dL_law_970 rfl (lv_at hl 1 rfl) ?_
  refine lv_aload_n hx hb dL_law_971 rfl (lv_at hl 0 rfl) ?_
  refine lv_iload_n hx hb dL_law_972 rfl (lv_at hl 3 rfl) ?_
  refine lv_iconst (v := 1) hx hb dL_law_973 (by decide) ?_
  refine o_iadd (z := z1) hx hb dL_law_974 ez1 ?_
  refine o_sld (v := a1) hx hb hX hbl hbA h.2 (in_of (by omega) (by omega)) ea1 dL_law_975 ?_
  refine n_Vi (na := 1) (As := [.int a1]) (rest := []) X hD hN h rfl (c_X_ask l G cI cB cZ cO ad w ok a1) ⟨kv_927, kv_928, kv_929, kv_212, kv_930⟩ rfl ⟨by decide, by decide, by decide⟩ ⟨Nat.le_of_ble_eq_true rfl, Nat.le_of_ble_eq_true rfl⟩ ⟨Nat.le_of_ble_eq_true rfl, Nat.le_of_ble_eq_true rfl⟩ (by decide) f0 rfl rfl hl.1 rfl (Nat.le_of_ble_eq_true rfl) dL_law_976 (fun r1 w1 H locs hp1 h => ?_)
  obtain ⟨ok1, kx1, hr1⟩ := hp1
  refine lv_pop hx hb dL_law_979 rfl ?_
  have rel1 : REL2 cI cB cZ ad w1 := rel.kx kx1
  obtain ⟨x1, y1, m0, m1, m2, m3, m4, m5, f64, h64a, h64b⟩ := (show sM ad (w1 64) from ok1 64 (by decide))
  refine lv_aload_n hx hb dL_law_980 rfl (lv_at hl 2 rfl) ?_
  refine lv_aload_n hx hb dL_law_981 rfl (lv_at hl 0 rfl) ?_
  refine lv_iload_n hx hb dL_law_982 rfl (lv_at hl 3 rfl) ?_
  refine lv_iconst (v := 1) hx hb dL_law_983 (by decide) ?_
  refine o_iadd (z := z1) hx hb dL_law_984 ez1 ?_
  refine o_sld (v := a1) hx hb hX hbl hbA h.2 (in_of (by omega) (by omega)) ea1 dL_law_985 ?_
  refine n_Vi (na := 1) (As := [.int a1]) (rest := []) X hD hN h rfl (c_M_ask_ l G cI cB cZ cO ad w1 ok1 a1) ⟨kv_931, kv_932, kv_933, kv_470, kv_934⟩ rfl ⟨by decide, by decide, by decide⟩ ⟨Nat.le_of_ble_eq_true rfl, Nat.le_of_ble_eq_true rfl⟩ ⟨Nat.le_of_ble_eq_true rfl, Nat.le_of_ble_eq_true rfl⟩ (by decide) f64 rfl rfl hl.1 rfl (Nat.le_of_ble_eq_true rfl) dL_law_986 (fun r2 w2 H locs hp2 h => ?_)
  obtain ⟨ok2, kx2, hr2⟩ := hp2
  have rel2 : REL2 cI cB cZ ad w2 := rel1.km ok1 ok2 kx2
  refine lv_pop hx hb dL_law_989 rfl ?_
  refine lv_goto (tgt := 1230) hx hb dL_law_990 (by decide) ?_
  exact hend w2 H locs ok2 rel2 h

set_option maxHeartbeats 4000000 in
set_option maxRecDepth 100000 in
theorem law_two {p : Program} {l : Launch} {e : Env} {s : State} {m : MethodId} {below : List Frame} {meth : Method} {c : Code} {Q : State → Prop} {G : va_G} {cI cB cZ cO : ClassId} {ad : Nat → Nat} {w : Nat → va_E} {b L : Nat} {xs : Nat → Int32} {i : Int32} (X : Fx p m c code 4 s #[Value.ref b] "NoonShadeLaw" G (tyq cI cB cZ cO) (fun q => s.heap.size ≤ q)) (hD : WD (fun q => s.heap.size ≤ q) 74 ad) (hN : NS ad (fun q => s.heap.size ≤ q) s s.heap) (ok : OK cI cB cZ cO ad w) (rel : REL2 cI cB cZ ad w) (hX : va_X b L xs s s.heap) (hbl : b < s.heap.size) (hi0 : 0 ≤ i.toInt) (hi1 : i.toInt + 5 ≤ L) (hL : L ≤ 2560) {H : Heap} {locs : List Loc} {ls : Array Slot} (h : St G 74 ad (fun q => s.heap.size ≤ q) s.heap w H locs) (hl : lv_has ls 4 [(0, .ref b), (1, .ref (ad 0)), (2, .ref (ad 64)), (3, .int i)]) (hend : ∀ (w : Nat → va_E) (H : Heap) (locs : List Loc), OK cI cB cZ cO ad w → REL2 cI cB cZ ad w → St G 74 ad (fun q => s.heap.size ≤ q) s.heap w H locs → W p l e room_1 s m #[Value.ref b] below meth c H locs 74 2063 Q (F0 m 1230 ls [])) : W p l e room_1 s m #[Value.ref b] below meth c H locs 74 2063 Q (F0 m 993 ls []) := by
  have hx := X.1.1
  have hb := X.1.2.1
  have hbA : ¬ (fun q => s.heap.size ≤ q) b := Nat.not_le.mpr hbl
  obtain ⟨z1, ez1, tz1⟩ := x_add (x := i) (y := 1) (a := i.toInt) (b := 1) rfl rfl (by omega) (by omega)
  obtain ⟨a1, ea1⟩ : ∃ v : Int32, xs (z1).toNatClampNeg = v := ⟨_, rfl⟩
  obtain ⟨x0, y0, q0, q1, q2, f0⟩ := (show sN ad (w 0) from ok 0 (by decide))
  refine lv_aload_n hx hb dL_law_993 rfl (lv_at hl 1 rfl) ?_
  refine lv_aload_n hx hb dL_law_994 rfl (lv_at hl 0 rfl) ?_
  refine lv_iload_n hx hb dL_law_995 rfl (lv_at hl 3 rfl) ?_
  refine lv_iconst (v := 1) hx hb dL_law_996 (by decide) ?_
  refine o_iadd (z := z1) hx hb dL_law_997 ez1 ?_
  refine o_sld (v := a1) hx hb hX hbl hbA h.2 (in_of (by omega) (by omega)) ea1 dL_law_998 ?_
  refine n_Vi (na := 1) (As := [.int a1]) (rest := []) X hD hN h rfl (c_X_two l G cI cB cZ cO ad w ok a1) ⟨kv_935, kv_936, kv_937, kv_212, kv_938⟩ rfl ⟨by decide, by decide, by decide⟩ ⟨Nat.le_of_ble_eq_true rfl, Nat.le_of_ble_eq_true rfl⟩ ⟨Nat.le_of_ble_eq_true rfl, Nat.le_of_ble_eq_true rfl⟩ (by decide) f0 rfl rfl hl.1 rfl (Nat.le_of_ble_eq_true rfl) dL_law_999 (fun r1 w1 H locs hp1 h => ?_)
  obtain ⟨ok1, kx1, hr1⟩ := hp1
  refine lv_pop hx hb dL_law_1002 rfl ?_
  have rel1 : REL2 cI cB cZ ad w1 := rel.kx kx1
  obtain ⟨x1, y1, m0, m1, m2, m3, m4, m5, f64, h64a, h64b⟩ := (show sM ad (w1 64) from ok1 64 (by decide))
  refine lv_aload_n hx hb dL_law_1003 rfl (lv_at hl 2 rfl) ?_
  refine lv_aload_n hx hb dL_law_1004 rfl (lv_at hl 0 rfl) ?_
  refine lv_iload_n hx hb dL_law_1005 rfl (lv_at hl 3 rfl) ?_
  refine lv_iconst (v := 1) hx hb dL_law_1006 (by decide) ?_
  refine o_iadd (z := z1) hx hb dL_law_1007 ez1 ?_
  refine o_sld (v := a1) hx hb hX hbl hbA h.2 (in_of (by omega) (by omega)) ea1 dL_law_1008 ?_
  refine n_Vi (na := 1) (As := [.int a1]) (rest := []) X hD hN h rfl (c_M_two_ l G cI cB cZ cO ad w1 ok1 a1) ⟨kv_939, kv_940, kv_941, kv_470, kv_942⟩ rfl ⟨by decide, by decide, by decide⟩ ⟨Nat.le_of_ble_eq_true rfl, Nat.le_of_ble_eq_true rfl⟩ ⟨Nat.le_of_ble_eq_true rfl, Nat.le_of_ble_eq_true rfl⟩ (by decide) f64 rfl rfl hl.1 rfl (Nat.le_of_ble_eq_true rfl) dL_law_1009 (fun r2 w2 H locs hp2 h => ?_)
  obtain ⟨ok2, kx2, hr2⟩ := hp2
  have rel2 : REL2 cI cB cZ ad w2 := rel1.km ok1 ok2 kx2
  refine lv_pop hx hb dL_law_1012 rfl ?_
  refine lv_goto (tgt := 1230) hx hb dL_law_1013 (by decide) ?_
  exact hend w2 H locs ok2 rel2 h

set_option maxHeartbeats 4000000 in
set_option maxRecDepth 100000 in
theorem law_spilt {p : Program} {l : Launch} {e : Env} {s : State} {m : MethodId} {below : List Frame} {meth : Method} {c : Code} {Q : State → Prop} {G : va_G} {cI cB cZ cO : ClassId} {ad : Nat → Nat} {w : Nat → va_E} {b L : Nat} {xs : Nat → Int32} {i : Int32} (X : Fx p m c code 4 s #[Value.ref b] "NoonShadeLaw" G (tyq cI cB cZ cO) (fun q => s.heap.size ≤ q)) (hD : WD (fun q => s.heap.size ≤ q) 74 ad) (hN : NS ad (fun q => s.heap.size ≤ q) s s.heap) (ok : OK cI cB cZ cO ad w) (rel : REL2 cI cB cZ ad w) (hX : va_X b L xs s s.heap) (hbl : b < s.heap.size) (hi0 : 0 ≤ i.toInt) (hi1 : i.toInt + 5 ≤ L) (hL : L ≤ 2560) {H : Heap} {locs : List Loc} {ls : Array Slot} (h : St G 74 ad (fun q => s.heap.size ≤ q) s.heap w H locs) (hl : lv_has ls 4 [(0, .ref b), (1, .ref (ad 0)), (2, .ref (ad 64)), (3, .int i)]) (hend : ∀ (w : Nat → va_E) (H : Heap) (locs : List Loc), OK cI cB cZ cO ad w → REL2 cI cB cZ ad w → St G 74 ad (fun q => s.heap.size ≤ q) s.heap w H locs → W p l e room_1 s m #[Value.ref b] below meth c H locs 74 2063 Q (F0 m 1230 ls [])) : W p l e room_1 s m #[Value.ref b] below meth c H locs 74 2063 Q (F0 m 1016 ls []) := by
  have hx := X.1.1
  have hb := X.1.2.1
  have hbA : ¬ (fun q => s.heap.size ≤ q) b := Nat.not_le.mpr hbl
  obtain ⟨z1, ez1, tz1⟩ := x_add (x := i) (y := 1) (a := i.toInt) (b := 1) rfl rfl (by omega) (by omega)
  obtain ⟨a1, ea1⟩ : ∃ v : Int32, xs (z1).toNatClampNeg = v := ⟨_, rfl⟩
  obtain ⟨z2, ez2, tz2⟩ := x_add (x := i) (y := 2) (a := i.toInt) (b := 2) rfl rfl (by omega) (by omega)
  obtain ⟨a2, ea2⟩ : ∃ v : Int32, xs (z2).toNatClampNeg = v := ⟨_, rfl⟩
  obtain ⟨z3, ez3, tz3⟩ := x_add (x := i) (y := 3) (a := i.toInt) (b := 3) rfl rfl (by omega) (by omega)
  obtain ⟨a3, ea3⟩ : ∃ v : Int32, xs (z3).toNatClampNeg = v := ⟨_, rfl⟩
  obtain ⟨z4, ez4, tz4⟩ := x_add (x := i) (y := 4) (a := i.toInt) (b := 4) rfl rfl (by omega) (by omega)
  obtain ⟨a4, ea4⟩ : ∃ v : Int32, xs (z4).toNatClampNeg = v := ⟨_, rfl⟩
  obtain ⟨x0, y0, q0, q1, q2, f0⟩ := (show sN ad (w 0) from ok 0 (by decide))
  obtain ⟨ca, ja, nz, mz, hh, nc, mc, f, iv, f65, ird⟩ := id rel.2.1
  obtain ⟨ho, so, mi, e1, hrn, hca, hja, hnz, hmz⟩ := iv.cells (Or.inl rfl) ok
  have pal : alA f := (alA_of65 ok (Or.inl rfl) f65).1
  refine lv_aload_n hx hb dL_law_1016 rfl (lv_at hl 1 rfl) ?_
  refine lv_aload_n hx hb dL_law_1017 rfl (lv_at hl 0 rfl) ?_
  refine lv_iload_n hx hb dL_law_1018 rfl (lv_at hl 3 rfl) ?_
  refine lv_iconst (v := 1) hx hb dL_law_1019 (by decide) ?_
  refine o_iadd (z := z1) hx hb dL_law_1020 ez1 ?_
  refine o_sld (v := a1) hx hb hX hbl hbA h.2 (in_of (by omega) (by omega)) ea1 dL_law_1021 ?_
  refine lv_aload_n hx hb dL_law_1022 rfl (lv_at hl 0 rfl) ?_
  refine lv_iload_n hx hb dL_law_1023 rfl (lv_at hl 3 rfl) ?_
  refine lv_iconst (v := 2) hx hb dL_law_1024 (by decide) ?_
  refine o_iadd (z := z2) hx hb dL_law_1025 ez2 ?_
  refine o_sld (v := a2) hx hb hX hbl hbA h.2 (in_of (by omega) (by omega)) ea2 dL_law_1026 ?_
  refine lv_aload_n hx hb dL_law_1027 rfl (lv_at hl 0 rfl) ?_
  refine lv_iload_n hx hb dL_law_1028 rfl (lv_at hl 3 rfl) ?_
  refine lv_iconst (v := 3) hx hb dL_law_1029 (by decide) ?_
  refine o_iadd (z := z3) hx hb dL_law_1030 ez3 ?_
  refine o_sld (v := a3) hx hb hX hbl hbA h.2 (in_of (by omega) (by omega)) ea3 dL_law_1031 ?_
  refine lv_aload_n hx hb dL_law_1032 rfl (lv_at hl 0 rfl) ?_
  refine lv_iload_n hx hb dL_law_1033 rfl (lv_at hl 3 rfl) ?_
  refine lv_iconst (v := 4) hx hb dL_law_1034 (by decide) ?_
  refine o_iadd (z := z4) hx hb dL_law_1035 ez4 ?_
  refine o_sld (v := a4) hx hb hX hbl hbA h.2 (in_of (by omega) (by omega)) ea4 dL_law_1036 ?_
  refine n_Vi (na := 4) (As := [.int a1, .int a2, .int a3, .int a4]) (rest := []) X hD hN h rfl (c_F_spilt l G cI cB cZ cO ad w ho so mi ca ja ok a1 a2 a3 a4 e1 hja hca) ⟨kv_943, kv_944, kv_945, kv_212, kv_946⟩ rfl ⟨by decide, by decide, by decide⟩ ⟨Nat.le_of_ble_eq_true rfl, Nat.le_of_ble_eq_true rfl⟩ ⟨Nat.le_of_ble_eq_true rfl, Nat.le_of_ble_eq_true rfl⟩ (by decide) f0 rfl rfl hl.1 rfl (Nat.le_of_ble_eq_true rfl) dL_law_1037 (fun r1 w1 H locs hp1 h => ?_)
  obtain ⟨ok1, kx1, hr1⟩ := hp1
  have rel1 : REL2 cI cB cZ ad w1 := rel.kx kx1
  obtain ⟨x1, y1, m0, m1, m2, m3, m4, m5, f64, h64a, h64b⟩ := (show sM ad (w1 64) from ok1 64 (by decide))
  have f65b : w1 65 = .inl (cI, 177, .inl f) := by have c9 : w1 65 = w 65 := kx1.r.2.2.2.2 65 (by decide); exact c9.trans f65
  refine lv_aload_n hx hb dL_law_1040 rfl (lv_at hl 2 rfl) ?_
  refine lv_aload_n hx hb dL_law_1041 rfl (lv_at hl 0 rfl) ?_
  refine lv_iload_n hx hb dL_law_1042 rfl (lv_at hl 3 rfl) ?_
  refine lv_iconst (v := 1) hx hb dL_law_1043 (by decide) ?_
  refine o_iadd (z := z1) hx hb dL_law_1044 ez1 ?_
  refine o_sld (v := a1) hx hb hX hbl hbA h.2 (in_of (by omega) (by omega)) ea1 dL_law_1045 ?_
  refine lv_aload_n hx hb dL_law_1046 rfl (lv_at hl 0 rfl) ?_
  refine lv_iload_n hx hb dL_law_1047 rfl (lv_at hl 3 rfl) ?_
  refine lv_iconst (v := 2) hx hb dL_law_1048 (by decide) ?_
  refine o_iadd (z := z2) hx hb dL_law_1049 ez2 ?_
  refine o_sld (v := a2) hx hb hX hbl hbA h.2 (in_of (by omega) (by omega)) ea2 dL_law_1050 ?_
  refine lv_aload_n hx hb dL_law_1051 rfl (lv_at hl 0 rfl) ?_
  refine lv_iload_n hx hb dL_law_1052 rfl (lv_at hl 3 rfl) ?_
  refine lv_iconst (v := 3) hx hb dL_law_1053 (by decide) ?_
  refine o_iadd (z := z3) hx hb dL_law_1054 ez3 ?_
  refine o_sld (v := a3) hx hb hX hbl hbA h.2 (in_of (by omega) (by omega)) ea3 dL_law_1055 ?_
  refine lv_aload_n hx hb dL_law_1056 rfl (lv_at hl 0 rfl) ?_
  refine lv_iload_n hx hb dL_law_1057 rfl (lv_at hl 3 rfl) ?_
  refine lv_iconst (v := 4) hx hb dL_law_1058 (by decide) ?_
  refine o_iadd (z := z4) hx hb dL_law_1059 ez4 ?_
  refine o_sld (v := a4) hx hb hX hbl hbA h.2 (in_of (by omega) (by omega)) ea4 dL_law_1060 ?_
  refine n_Vi (na := 4) (As := [.int a1, .int a2, .int a3, .int a4]) (rest := [.int r1]) X hD hN h rfl (c_MF_spilt l G cI cB cZ cO ad w1 f ok1 a1 a2 a3 a4 f65b pal) ⟨kv_947, kv_948, kv_949, kv_470, kv_950⟩ rfl ⟨by decide, by decide, by decide⟩ ⟨Nat.le_of_ble_eq_true rfl, Nat.le_of_ble_eq_true rfl⟩ ⟨Nat.le_of_ble_eq_true rfl, Nat.le_of_ble_eq_true rfl⟩ (by decide) f64 rfl rfl hl.1 rfl (Nat.le_of_ble_eq_true rfl) dL_law_1061 (fun r2 w2 H locs hp2 h => ?_)
  obtain ⟨ok2, kx2, hr2⟩ := hp2
  have rel2 : REL2 cI cB cZ ad w2 := rel1.km ok1 ok2 kx2
  rw [ird.2.1] at hr2
  have he : r1 = r2 := by
    rcases hr1 with ⟨g1, e9⟩ | ⟨g1, e9⟩ <;> rcases hr2 with ⟨g2, t9⟩ | ⟨g2, t9⟩
    · exact e9.trans t9.symm
    · exact absurd g1 g2
    · exact absurd g2 g1
    · exact e9.trans t9.symm
  exact lv_icmp_eq (tgt := 1230) hx hb dL_law_1064 (by decide) (fun _ => hend w2 H locs ok2 rel2 h) (fun hc => absurd he hc)

set_option maxHeartbeats 4000000 in
set_option maxRecDepth 100000 in
theorem law_noons {p : Program} {l : Launch} {e : Env} {s : State} {m : MethodId} {below : List Frame} {meth : Method} {c : Code} {Q : State → Prop} {G : va_G} {cI cB cZ cO : ClassId} {ad : Nat → Nat} {w : Nat → va_E} {b L : Nat} {xs : Nat → Int32} {i : Int32} (X : Fx p m c code 4 s #[Value.ref b] "NoonShadeLaw" G (tyq cI cB cZ cO) (fun q => s.heap.size ≤ q)) (hD : WD (fun q => s.heap.size ≤ q) 74 ad) (hN : NS ad (fun q => s.heap.size ≤ q) s s.heap) (ok : OK cI cB cZ cO ad w) (rel : REL2 cI cB cZ ad w) (hX : va_X b L xs s s.heap) (hbl : b < s.heap.size) (hi0 : 0 ≤ i.toInt) (hi1 : i.toInt + 5 ≤ L) (hL : L ≤ 2560) {H : Heap} {locs : List Loc} {ls : Array Slot} (h : St G 74 ad (fun q => s.heap.size ≤ q) s.heap w H locs) (hl : lv_has ls 4 [(0, .ref b), (1, .ref (ad 0)), (2, .ref (ad 64)), (3, .int i)]) (hend : ∀ (w : Nat → va_E) (H : Heap) (locs : List Loc), OK cI cB cZ cO ad w → REL2 cI cB cZ ad w → St G 74 ad (fun q => s.heap.size ≤ q) s.heap w H locs → W p l e room_1 s m #[Value.ref b] below meth c H locs 74 2063 Q (F0 m 1230 ls [])) : W p l e room_1 s m #[Value.ref b] below meth c H locs 74 2063 Q (F0 m 1069 ls []) := by
  have hx := X.1.1
  have hb := X.1.2.1
  have hbA : ¬ (fun q => s.heap.size ≤ q) b := Nat.not_le.mpr hbl
  obtain ⟨z1, ez1, tz1⟩ := x_add (x := i) (y := 1) (a := i.toInt) (b := 1) rfl rfl (by omega) (by omega)
  obtain ⟨a1, ea1⟩ : ∃ v : Int32, xs (z1).toNatClampNeg = v := ⟨_, rfl⟩
  obtain ⟨z2, ez2, tz2⟩ := x_add (x := i) (y := 2) (a := i.toInt) (b := 2) rfl rfl (by omega) (by omega)
  obtain ⟨a2, ea2⟩ : ∃ v : Int32, xs (z2).toNatClampNeg = v := ⟨_, rfl⟩
  obtain ⟨x0, y0, q0, q1, q2, f0⟩ := (show sN ad (w 0) from ok 0 (by decide))
  refine lv_aload_n hx hb dL_law_1069 rfl (lv_at hl 1 rfl) ?_
  refine lv_aload_n hx hb dL_law_1070 rfl (lv_at hl 0 rfl) ?_
  refine lv_iload_n hx hb dL_law_1071 rfl (lv_at hl 3 rfl) ?_
  refine lv_iconst (v := 1) hx hb dL_law_1072 (by decide) ?_
  refine o_iadd (z := z1) hx hb dL_law_1073 ez1 ?_
  refine o_sld (v := a1) hx hb hX hbl hbA h.2 (in_of (by omega) (by omega)) ea1 dL_law_1074 ?_
  refine lv_aload_n hx hb dL_law_1075 rfl (lv_at hl 0 rfl) ?_
  refine lv_iload_n hx hb dL_law_1076 rfl (lv_at hl 3 rfl) ?_
  refine lv_iconst (v := 2) hx hb dL_law_1077 (by decide) ?_
  refine o_iadd (z := z2) hx hb dL_law_1078 ez2 ?_
  refine o_sld (v := a2) hx hb hX hbl hbA h.2 (in_of (by omega) (by omega)) ea2 dL_law_1079 ?_
  refine n_Vi (na := 2) (As := [.int a1, .int a2]) (rest := []) X hD hN h rfl (c_X_noons l G cI cB cZ cO ad w ok a1 a2) ⟨kv_951, kv_952, kv_953, kv_212, kv_954⟩ rfl ⟨by decide, by decide, by decide⟩ ⟨Nat.le_of_ble_eq_true rfl, Nat.le_of_ble_eq_true rfl⟩ ⟨Nat.le_of_ble_eq_true rfl, Nat.le_of_ble_eq_true rfl⟩ (by decide) f0 rfl rfl hl.1 rfl (Nat.le_of_ble_eq_true rfl) dL_law_1080 (fun r1 w1 H locs hp1 h => ?_)
  obtain ⟨ok1, kx1, hr1⟩ := hp1
  refine lv_pop hx hb dL_law_1083 rfl ?_
  have rel1 : REL2 cI cB cZ ad w1 := rel.kx kx1
  obtain ⟨x1, y1, m0, m1, m2, m3, m4, m5, f64, h64a, h64b⟩ := (show sM ad (w1 64) from ok1 64 (by decide))
  refine lv_aload_n hx hb dL_law_1084 rfl (lv_at hl 2 rfl) ?_
  refine lv_aload_n hx hb dL_law_1085 rfl (lv_at hl 0 rfl) ?_
  refine lv_iload_n hx hb dL_law_1086 rfl (lv_at hl 3 rfl) ?_
  refine lv_iconst (v := 1) hx hb dL_law_1087 (by decide) ?_
  refine o_iadd (z := z1) hx hb dL_law_1088 ez1 ?_
  refine o_sld (v := a1) hx hb hX hbl hbA h.2 (in_of (by omega) (by omega)) ea1 dL_law_1089 ?_
  refine lv_aload_n hx hb dL_law_1090 rfl (lv_at hl 0 rfl) ?_
  refine lv_iload_n hx hb dL_law_1091 rfl (lv_at hl 3 rfl) ?_
  refine lv_iconst (v := 2) hx hb dL_law_1092 (by decide) ?_
  refine o_iadd (z := z2) hx hb dL_law_1093 ez2 ?_
  refine o_sld (v := a2) hx hb hX hbl hbA h.2 (in_of (by omega) (by omega)) ea2 dL_law_1094 ?_
  refine n_Vi (na := 2) (As := [.int a1, .int a2]) (rest := []) X hD hN h rfl (c_M_noons_ l G cI cB cZ cO ad w1 ok1 a1 a2) ⟨kv_955, kv_956, kv_957, kv_470, kv_958⟩ rfl ⟨by decide, by decide, by decide⟩ ⟨Nat.le_of_ble_eq_true rfl, Nat.le_of_ble_eq_true rfl⟩ ⟨Nat.le_of_ble_eq_true rfl, Nat.le_of_ble_eq_true rfl⟩ (by decide) f64 rfl rfl hl.1 rfl (Nat.le_of_ble_eq_true rfl) dL_law_1095 (fun r2 w2 H locs hp2 h => ?_)
  obtain ⟨ok2, kx2, hr2⟩ := hp2
  have rel2 : REL2 cI cB cZ ad w2 := rel1.km ok1 ok2 kx2
  refine lv_pop hx hb dL_law_1098 rfl ?_
  refine lv_goto (tgt := 1230) hx hb dL_law_1099 (by decide) ?_
  exact hend w2 H locs ok2 rel2 h

set_option maxHeartbeats 4000000 in
set_option maxRecDepth 100000 in
theorem law_part {p : Program} {l : Launch} {e : Env} {s : State} {m : MethodId} {below : List Frame} {meth : Method} {c : Code} {Q : State → Prop} {G : va_G} {cI cB cZ cO : ClassId} {ad : Nat → Nat} {w : Nat → va_E} {b L : Nat} {xs : Nat → Int32} {i : Int32} (X : Fx p m c code 4 s #[Value.ref b] "NoonShadeLaw" G (tyq cI cB cZ cO) (fun q => s.heap.size ≤ q)) (hD : WD (fun q => s.heap.size ≤ q) 74 ad) (hN : NS ad (fun q => s.heap.size ≤ q) s s.heap) (ok : OK cI cB cZ cO ad w) (rel : REL2 cI cB cZ ad w) (hX : va_X b L xs s s.heap) (hbl : b < s.heap.size) (hi0 : 0 ≤ i.toInt) (hi1 : i.toInt + 5 ≤ L) (hL : L ≤ 2560) {H : Heap} {locs : List Loc} {ls : Array Slot} (h : St G 74 ad (fun q => s.heap.size ≤ q) s.heap w H locs) (hl : lv_has ls 4 [(0, .ref b), (1, .ref (ad 0)), (2, .ref (ad 64)), (3, .int i)]) (hend : ∀ (w : Nat → va_E) (H : Heap) (locs : List Loc), OK cI cB cZ cO ad w → REL2 cI cB cZ ad w → St G 74 ad (fun q => s.heap.size ≤ q) s.heap w H locs → W p l e room_1 s m #[Value.ref b] below meth c H locs 74 2063 Q (F0 m 1230 ls [])) : W p l e room_1 s m #[Value.ref b] below meth c H locs 74 2063 Q (F0 m 1102 ls []) := by
  have hx := X.1.1
  have hb := X.1.2.1
  have hbA : ¬ (fun q => s.heap.size ≤ q) b := Nat.not_le.mpr hbl
  obtain ⟨z1, ez1, tz1⟩ := x_add (x := i) (y := 1) (a := i.toInt) (b := 1) rfl rfl (by omega) (by omega)
  obtain ⟨a1, ea1⟩ : ∃ v : Int32, xs (z1).toNatClampNeg = v := ⟨_, rfl⟩
  obtain ⟨x0, y0, q0, q1, q2, f0⟩ := (show sN ad (w 0) from ok 0 (by decide))
  refine lv_aload_n hx hb dL_law_1102 rfl (lv_at hl 1 rfl) ?_
  refine lv_aload_n hx hb dL_law_1103 rfl (lv_at hl 0 rfl) ?_
  refine lv_iload_n hx hb dL_law_1104 rfl (lv_at hl 3 rfl) ?_
  refine lv_iconst (v := 1) hx hb dL_law_1105 (by decide) ?_
  refine o_iadd (z := z1) hx hb dL_law_1106 ez1 ?_
  refine o_sld (v := a1) hx hb hX hbl hbA h.2 (in_of (by omega) (by omega)) ea1 dL_law_1107 ?_
  refine n_Vl (na := 1) (As := [.int a1]) (rest := []) X hD hN h rfl (c_X_part l G cI cB cZ cO ad w ok a1) ⟨kv_959, kv_960, kv_961, kv_212, kv_962⟩ rfl ⟨by decide, by decide, by decide⟩ ⟨Nat.le_of_ble_eq_true rfl, Nat.le_of_ble_eq_true rfl⟩ ⟨Nat.le_of_ble_eq_true rfl, Nat.le_of_ble_eq_true rfl⟩ (by decide) f0 rfl rfl hl.1 rfl (Nat.le_of_ble_eq_true rfl) dL_law_1108 (fun r1 w1 H locs hp1 h => ?_)
  obtain ⟨ok1, kx1, hr1⟩ := hp1
  refine lv_pop2_2 hx hb dL_law_1111 rfl ?_
  have rel1 : REL2 cI cB cZ ad w1 := rel.kx kx1
  obtain ⟨x1, y1, m0, m1, m2, m3, m4, m5, f64, h64a, h64b⟩ := (show sM ad (w1 64) from ok1 64 (by decide))
  refine lv_aload_n hx hb dL_law_1112 rfl (lv_at hl 2 rfl) ?_
  refine lv_aload_n hx hb dL_law_1113 rfl (lv_at hl 0 rfl) ?_
  refine lv_iload_n hx hb dL_law_1114 rfl (lv_at hl 3 rfl) ?_
  refine lv_iconst (v := 1) hx hb dL_law_1115 (by decide) ?_
  refine o_iadd (z := z1) hx hb dL_law_1116 ez1 ?_
  refine o_sld (v := a1) hx hb hX hbl hbA h.2 (in_of (by omega) (by omega)) ea1 dL_law_1117 ?_
  refine n_Vl (na := 1) (As := [.int a1]) (rest := []) X hD hN h rfl (c_M_part_ l G cI cB cZ cO ad w1 ok1 a1) ⟨kv_963, kv_964, kv_965, kv_470, kv_966⟩ rfl ⟨by decide, by decide, by decide⟩ ⟨Nat.le_of_ble_eq_true rfl, Nat.le_of_ble_eq_true rfl⟩ ⟨Nat.le_of_ble_eq_true rfl, Nat.le_of_ble_eq_true rfl⟩ (by decide) f64 rfl rfl hl.1 rfl (Nat.le_of_ble_eq_true rfl) dL_law_1118 (fun r2 w2 H locs hp2 h => ?_)
  obtain ⟨ok2, kx2, hr2⟩ := hp2
  have rel2 : REL2 cI cB cZ ad w2 := rel1.km ok1 ok2 kx2
  refine lv_pop2_2 hx hb dL_law_1121 rfl ?_
  refine lv_goto (tgt := 1230) hx hb dL_law_1122 (by decide) ?_
  exact hend w2 H locs ok2 rel2 h

set_option maxHeartbeats 4000000 in
set_option maxRecDepth 100000 in
theorem law_image0 {p : Program} {l : Launch} {e : Env} {s : State} {m : MethodId} {below : List Frame} {meth : Method} {c : Code} {Q : State → Prop} {G : va_G} {cI cB cZ cO : ClassId} {ad : Nat → Nat} {w : Nat → va_E} {b L : Nat} {xs : Nat → Int32} {i : Int32} (X : Fx p m c code 4 s #[Value.ref b] "NoonShadeLaw" G (tyq cI cB cZ cO) (fun q => s.heap.size ≤ q)) (hD : WD (fun q => s.heap.size ≤ q) 74 ad) (hN : NS ad (fun q => s.heap.size ≤ q) s s.heap) (ok : OK cI cB cZ cO ad w) (rel : REL2 cI cB cZ ad w) (hX : va_X b L xs s s.heap) (hbl : b < s.heap.size) (hi0 : 0 ≤ i.toInt) (hi1 : i.toInt + 5 ≤ L) (hL : L ≤ 2560) {H : Heap} {locs : List Loc} {ls : Array Slot} (h : St G 74 ad (fun q => s.heap.size ≤ q) s.heap w H locs) (hl : lv_has ls 4 [(0, .ref b), (1, .ref (ad 0)), (2, .ref (ad 64)), (3, .int i)]) (hend : ∀ (w : Nat → va_E) (H : Heap) (locs : List Loc), OK cI cB cZ cO ad w → REL2 cI cB cZ ad w → St G 74 ad (fun q => s.heap.size ≤ q) s.heap w H locs → W p l e room_1 s m #[Value.ref b] below meth c H locs 74 2063 Q (F0 m 1230 ls [])) (hq : ∀ z : Int32, i + 1 = z → xs z.toNatClampNeg = 0) : W p l e room_1 s m #[Value.ref b] below meth c H locs 74 2063 Q (F0 m 1125 ls []) := by
  have hx := X.1.1
  have hb := X.1.2.1
  have hbA : ¬ (fun q => s.heap.size ≤ q) b := Nat.not_le.mpr hbl
  obtain ⟨z1, ez1, tz1⟩ := x_add (x := i) (y := 1) (a := i.toInt) (b := 1) rfl rfl (by omega) (by omega)
  have hq0 := hq z1 ez1
  obtain ⟨x0, y0, q0, q1, q2, f0⟩ := (show sN ad (w 0) from ok 0 (by decide))
  obtain ⟨ca, ja, nz, mz, hh, nc, mc, f, iv, f65, ird⟩ := id rel.2.1
  obtain ⟨ho, so, mi, e1, hrn, hca, hja, hnz, hmz⟩ := iv.cells (Or.inl rfl) ok
  have pal : alA f := (alA_of65 ok (Or.inl rfl) f65).1
  obtain ⟨ff, f54, p54⟩ := (show sA cZ 2 (rgA 0 1) (w 54) from ok 54 (by decide))
  refine lv_aload_n hx hb dL_law_1125 rfl (lv_at hl 1 rfl) ?_
  refine lv_aload_n hx hb dL_law_1126 rfl (lv_at hl 0 rfl) ?_
  refine lv_iload_n hx hb dL_law_1127 rfl (lv_at hl 3 rfl) ?_
  refine lv_iconst (v := 1) hx hb dL_law_1128 (by decide) ?_
  refine o_iadd (z := z1) hx hb dL_law_1129 ez1 ?_
  refine o_sld (v := 0) hx hb hX hbl hbA h.2 (in_of (by omega) (by omega)) hq0 dL_law_1130 ?_
  refine n_Vi (na := 1) (As := [.int 0]) (rest := []) X hD hN h rfl (c_F_image0 l G cI cB cZ cO ad w ho so mi ca ja nz mz hh nc mc ff ok e1 iv.2.1 iv.2.2.1 iv.2.2.2.1 iv.2.2.2.2.1 iv.2.2.2.2.2 hrn hca hja hnz hmz f54 p54) ⟨kv_967, kv_968, kv_969, kv_212, kv_970⟩ rfl ⟨by decide, by decide, by decide⟩ ⟨Nat.le_of_ble_eq_true rfl, Nat.le_of_ble_eq_true rfl⟩ ⟨Nat.le_of_ble_eq_true rfl, Nat.le_of_ble_eq_true rfl⟩ (by decide) f0 rfl rfl hl.1 rfl (Nat.le_of_ble_eq_true rfl) dL_law_1131 (fun r1 w1 H locs hp1 h => ?_)
  obtain ⟨ok1, kx1, hr1⟩ := hp1
  refine lv_pop hx hb dL_law_1134 rfl ?_
  obtain ⟨x1, y1, m0, m1, m2, m3, m4, m5, f64, h64a, h64b⟩ := (show sM ad (w1 64) from ok1 64 (by decide))
  have f65b : w1 65 = .inl (cI, 177, .inl f) := by have c9 : w1 65 = w 65 := kx1 65 (by decide); exact c9.trans f65
  obtain ⟨gg, f67, p67⟩ := (show sA cZ 2 (rgA 0 1) (w1 67) from ok1 67 (by decide))
  obtain ⟨kp, f66, p66⟩ := (show sA cI 354 keA (w1 66) from ok1 66 (by decide))
  refine lv_aload_n hx hb dL_law_1135 rfl (lv_at hl 2 rfl) ?_
  refine lv_aload_n hx hb dL_law_1136 rfl (lv_at hl 0 rfl) ?_
  refine lv_iload_n hx hb dL_law_1137 rfl (lv_at hl 3 rfl) ?_
  refine lv_iconst (v := 1) hx hb dL_law_1138 (by decide) ?_
  refine o_iadd (z := z1) hx hb dL_law_1139 ez1 ?_
  refine o_sld (v := 0) hx hb hX hbl hbA h.2 (in_of (by omega) (by omega)) hq0 dL_law_1140 ?_
  refine n_Vi (na := 1) (As := [.int 0]) (rest := []) X hD hN h rfl (c_MF_image0 l G cI cB cZ cO ad w1 f kp gg ok1 f65b pal f66 p66 f67 p67) ⟨kv_971, kv_972, kv_973, kv_470, kv_974⟩ rfl ⟨by decide, by decide, by decide⟩ ⟨Nat.le_of_ble_eq_true rfl, Nat.le_of_ble_eq_true rfl⟩ ⟨Nat.le_of_ble_eq_true rfl, Nat.le_of_ble_eq_true rfl⟩ (by decide) f64 rfl rfl hl.1 rfl (Nat.le_of_ble_eq_true rfl) dL_law_1141 (fun r2 w2 H locs hp2 h => ?_)
  obtain ⟨ok2, kx2, hr2⟩ := hp2
  have rel2 : REL2 cI cB cZ ad w2 := rel_image2_0 rel ok iv f65 ird ⟨hca.2, hnz.2, hmz.2⟩ f54 f66 f67 kx1 hr1.2.1 hr1.2.2.1 hr1.2.2.2 kx2 hr2.2.1 hr2.2.2.1 hr2.2.2.2
  have he : r1 = r2 := hr1.1.trans hr2.1.symm
  refine lv_pop hx hb dL_law_1144 rfl ?_
  refine lv_goto (tgt := 1230) hx hb dL_law_1145 (by decide) ?_
  exact hend w2 H locs ok2 rel2 h

set_option maxHeartbeats 4000000 in
set_option maxRecDepth 100000 in
theorem law_image1 {p : Program} {l : Launch} {e : Env} {s : State} {m : MethodId} {below : List Frame} {meth : Method} {c : Code} {Q : State → Prop} {G : va_G} {cI cB cZ cO : ClassId} {ad : Nat → Nat} {w : Nat → va_E} {b L : Nat} {xs : Nat → Int32} {i : Int32} (X : Fx p m c code 4 s #[Value.ref b] "NoonShadeLaw" G (tyq cI cB cZ cO) (fun q => s.heap.size ≤ q)) (hD : WD (fun q => s.heap.size ≤ q) 74 ad) (hN : NS ad (fun q => s.heap.size ≤ q) s s.heap) (ok : OK cI cB cZ cO ad w) (rel : REL2 cI cB cZ ad w) (hX : va_X b L xs s s.heap) (hbl : b < s.heap.size) (hi0 : 0 ≤ i.toInt) (hi1 : i.toInt + 5 ≤ L) (hL : L ≤ 2560) {H : Heap} {locs : List Loc} {ls : Array Slot} (h : St G 74 ad (fun q => s.heap.size ≤ q) s.heap w H locs) (hl : lv_has ls 4 [(0, .ref b), (1, .ref (ad 0)), (2, .ref (ad 64)), (3, .int i)]) (hend : ∀ (w : Nat → va_E) (H : Heap) (locs : List Loc), OK cI cB cZ cO ad w → REL2 cI cB cZ ad w → St G 74 ad (fun q => s.heap.size ≤ q) s.heap w H locs → W p l e room_1 s m #[Value.ref b] below meth c H locs 74 2063 Q (F0 m 1230 ls [])) (hq : ∀ z : Int32, i + 1 = z → xs z.toNatClampNeg = 1) : W p l e room_1 s m #[Value.ref b] below meth c H locs 74 2063 Q (F0 m 1125 ls []) := by
  have hx := X.1.1
  have hb := X.1.2.1
  have hbA : ¬ (fun q => s.heap.size ≤ q) b := Nat.not_le.mpr hbl
  obtain ⟨z1, ez1, tz1⟩ := x_add (x := i) (y := 1) (a := i.toInt) (b := 1) rfl rfl (by omega) (by omega)
  have hq0 := hq z1 ez1
  obtain ⟨x0, y0, q0, q1, q2, f0⟩ := (show sN ad (w 0) from ok 0 (by decide))
  obtain ⟨ca, ja, nz, mz, hh, nc, mc, f, iv, f65, ird⟩ := id rel.2.1
  obtain ⟨ho, so, mi, e1, hrn, hca, hja, hnz, hmz⟩ := iv.cells (Or.inl rfl) ok
  have pal : alA f := (alA_of65 ok (Or.inl rfl) f65).1
  obtain ⟨ff, f54, p54⟩ := (show sA cZ 2 (rgA 0 1) (w 54) from ok 54 (by decide))
  refine lv_aload_n hx hb dL_law_1125 rfl (lv_at hl 1 rfl) ?_
  refine lv_aload_n hx hb dL_law_1126 rfl (lv_at hl 0 rfl) ?_
  refine lv_iload_n hx hb dL_law_1127 rfl (lv_at hl 3 rfl) ?_
  refine lv_iconst (v := 1) hx hb dL_law_1128 (by decide) ?_
  refine o_iadd (z := z1) hx hb dL_law_1129 ez1 ?_
  refine o_sld (v := 1) hx hb hX hbl hbA h.2 (in_of (by omega) (by omega)) hq0 dL_law_1130 ?_
  refine n_Vi (na := 1) (As := [.int 1]) (rest := []) X hD hN h rfl (c_F_image1 l G cI cB cZ cO ad w ho so mi ca ja nz mz hh nc mc ff ok e1 iv.2.1 iv.2.2.1 iv.2.2.2.1 iv.2.2.2.2.1 iv.2.2.2.2.2 hrn hca hja hnz hmz f54 p54) ⟨kv_967, kv_968, kv_969, kv_212, kv_970⟩ rfl ⟨by decide, by decide, by decide⟩ ⟨Nat.le_of_ble_eq_true rfl, Nat.le_of_ble_eq_true rfl⟩ ⟨Nat.le_of_ble_eq_true rfl, Nat.le_of_ble_eq_true rfl⟩ (by decide) f0 rfl rfl hl.1 rfl (Nat.le_of_ble_eq_true rfl) dL_law_1131 (fun r1 w1 H locs hp1 h => ?_)
  obtain ⟨ok1, kx1, hr1⟩ := hp1
  refine lv_pop hx hb dL_law_1134 rfl ?_
  obtain ⟨x1, y1, m0, m1, m2, m3, m4, m5, f64, h64a, h64b⟩ := (show sM ad (w1 64) from ok1 64 (by decide))
  have f65b : w1 65 = .inl (cI, 177, .inl f) := by have c9 : w1 65 = w 65 := kx1 65 (by decide); exact c9.trans f65
  obtain ⟨gg, f67, p67⟩ := (show sA cZ 2 (rgA 0 1) (w1 67) from ok1 67 (by decide))
  obtain ⟨kp, f66, p66⟩ := (show sA cI 354 keA (w1 66) from ok1 66 (by decide))
  refine lv_aload_n hx hb dL_law_1135 rfl (lv_at hl 2 rfl) ?_
  refine lv_aload_n hx hb dL_law_1136 rfl (lv_at hl 0 rfl) ?_
  refine lv_iload_n hx hb dL_law_1137 rfl (lv_at hl 3 rfl) ?_
  refine lv_iconst (v := 1) hx hb dL_law_1138 (by decide) ?_
  refine o_iadd (z := z1) hx hb dL_law_1139 ez1 ?_
  refine o_sld (v := 1) hx hb hX hbl hbA h.2 (in_of (by omega) (by omega)) hq0 dL_law_1140 ?_
  refine n_Vi (na := 1) (As := [.int 1]) (rest := []) X hD hN h rfl (c_MF_image1 l G cI cB cZ cO ad w1 f kp gg ok1 f65b pal f66 p66 f67 p67) ⟨kv_971, kv_972, kv_973, kv_470, kv_974⟩ rfl ⟨by decide, by decide, by decide⟩ ⟨Nat.le_of_ble_eq_true rfl, Nat.le_of_ble_eq_true rfl⟩ ⟨Nat.le_of_ble_eq_true rfl, Nat.le_of_ble_eq_true rfl⟩ (by decide) f64 rfl rfl hl.1 rfl (Nat.le_of_ble_eq_true rfl) dL_law_1141 (fun r2 w2 H locs hp2 h => ?_)
  obtain ⟨ok2, kx2, hr2⟩ := hp2
  have rel2 : REL2 cI cB cZ ad w2 := rel_image2_1 rel ok iv f65 ird ⟨hca.2, hnz.2, hmz.2⟩ f54 f66 f67 kx1 hr1.2.1 hr1.2.2.1 hr1.2.2.2 kx2 hr2.2.1 hr2.2.2.1 hr2.2.2.2
  have he : r1 = r2 := hr1.1.trans hr2.1.symm
  refine lv_pop hx hb dL_law_1144 rfl ?_
  refine lv_goto (tgt := 1230) hx hb dL_law_1145 (by decide) ?_
  exact hend w2 H locs ok2 rel2 h

set_option maxHeartbeats 4000000 in
set_option maxRecDepth 100000 in
theorem law_imageN {p : Program} {l : Launch} {e : Env} {s : State} {m : MethodId} {below : List Frame} {meth : Method} {c : Code} {Q : State → Prop} {G : va_G} {cI cB cZ cO : ClassId} {ad : Nat → Nat} {w : Nat → va_E} {b L : Nat} {xs : Nat → Int32} {i : Int32} (X : Fx p m c code 4 s #[Value.ref b] "NoonShadeLaw" G (tyq cI cB cZ cO) (fun q => s.heap.size ≤ q)) (hD : WD (fun q => s.heap.size ≤ q) 74 ad) (hN : NS ad (fun q => s.heap.size ≤ q) s s.heap) (ok : OK cI cB cZ cO ad w) (rel : REL2 cI cB cZ ad w) (hX : va_X b L xs s s.heap) (hbl : b < s.heap.size) (hi0 : 0 ≤ i.toInt) (hi1 : i.toInt + 5 ≤ L) (hL : L ≤ 2560) {H : Heap} {locs : List Loc} {ls : Array Slot} (h : St G 74 ad (fun q => s.heap.size ≤ q) s.heap w H locs) (hl : lv_has ls 4 [(0, .ref b), (1, .ref (ad 0)), (2, .ref (ad 64)), (3, .int i)]) (hend : ∀ (w : Nat → va_E) (H : Heap) (locs : List Loc), OK cI cB cZ cO ad w → REL2 cI cB cZ ad w → St G 74 ad (fun q => s.heap.size ≤ q) s.heap w H locs → W p l e room_1 s m #[Value.ref b] below meth c H locs 74 2063 Q (F0 m 1230 ls [])) (hq : ∀ z : Int32, i + 1 = z → ¬ (0 ≤ (xs z.toNatClampNeg).toInt ∧ (xs z.toNatClampNeg).toInt ≤ 1)) : W p l e room_1 s m #[Value.ref b] below meth c H locs 74 2063 Q (F0 m 1125 ls []) := by
  have hx := X.1.1
  have hb := X.1.2.1
  have hbA : ¬ (fun q => s.heap.size ≤ q) b := Nat.not_le.mpr hbl
  obtain ⟨z1, ez1, tz1⟩ := x_add (x := i) (y := 1) (a := i.toInt) (b := 1) rfl rfl (by omega) (by omega)
  obtain ⟨a1, ea1⟩ : ∃ v : Int32, xs (z1).toNatClampNeg = v := ⟨_, rfl⟩
  have hq0 := hq z1 ez1
  rw [ea1] at hq0
  obtain ⟨x0, y0, q0, q1, q2, f0⟩ := (show sN ad (w 0) from ok 0 (by decide))
  obtain ⟨ca, ja, nz, mz, hh, nc, mc, f, iv, f65, ird⟩ := id rel.2.1
  obtain ⟨ho, so, mi, e1, hrn, hca, hja, hnz, hmz⟩ := iv.cells (Or.inl rfl) ok
  have pal : alA f := (alA_of65 ok (Or.inl rfl) f65).1
  refine lv_aload_n hx hb dL_law_1125 rfl (lv_at hl 1 rfl) ?_
  refine lv_aload_n hx hb dL_law_1126 rfl (lv_at hl 0 rfl) ?_
  refine lv_iload_n hx hb dL_law_1127 rfl (lv_at hl 3 rfl) ?_
  refine lv_iconst (v := 1) hx hb dL_law_1128 (by decide) ?_
  refine o_iadd (z := z1) hx hb dL_law_1129 ez1 ?_
  refine o_sld (v := a1) hx hb hX hbl hbA h.2 (in_of (by omega) (by omega)) ea1 dL_law_1130 ?_
  refine n_Vi (na := 1) (As := [.int a1]) (rest := []) X hD hN h rfl (c_F_imageN l G cI cB cZ cO ad w ok a1 hq0) ⟨kv_967, kv_968, kv_969, kv_212, kv_970⟩ rfl ⟨by decide, by decide, by decide⟩ ⟨Nat.le_of_ble_eq_true rfl, Nat.le_of_ble_eq_true rfl⟩ ⟨Nat.le_of_ble_eq_true rfl, Nat.le_of_ble_eq_true rfl⟩ (by decide) f0 rfl rfl hl.1 rfl (Nat.le_of_ble_eq_true rfl) dL_law_1131 (fun r1 w1 H locs hp1 h => ?_)
  obtain ⟨ok1, kx1, hr1⟩ := hp1
  refine lv_pop hx hb dL_law_1134 rfl ?_
  obtain ⟨x1, y1, m0, m1, m2, m3, m4, m5, f64, h64a, h64b⟩ := (show sM ad (w1 64) from ok1 64 (by decide))
  have f65b : w1 65 = .inl (cI, 177, .inl f) := by have c9 : w1 65 = w 65 := kx1 65 (by decide); exact c9.trans f65
  refine lv_aload_n hx hb dL_law_1135 rfl (lv_at hl 2 rfl) ?_
  refine lv_aload_n hx hb dL_law_1136 rfl (lv_at hl 0 rfl) ?_
  refine lv_iload_n hx hb dL_law_1137 rfl (lv_at hl 3 rfl) ?_
  refine lv_iconst (v := 1) hx hb dL_law_1138 (by decide) ?_
  refine o_iadd (z := z1) hx hb dL_law_1139 ez1 ?_
  refine o_sld (v := a1) hx hb hX hbl hbA h.2 (in_of (by omega) (by omega)) ea1 dL_law_1140 ?_
  refine n_Vi (na := 1) (As := [.int a1]) (rest := []) X hD hN h rfl (c_MF_imageN l G cI cB cZ cO ad w1 ok1 a1 hq0) ⟨kv_971, kv_972, kv_973, kv_470, kv_974⟩ rfl ⟨by decide, by decide, by decide⟩ ⟨Nat.le_of_ble_eq_true rfl, Nat.le_of_ble_eq_true rfl⟩ ⟨Nat.le_of_ble_eq_true rfl, Nat.le_of_ble_eq_true rfl⟩ (by decide) f64 rfl rfl hl.1 rfl (Nat.le_of_ble_eq_true rfl) dL_law_1141 (fun r2 w2 H locs hp2 h => ?_)
  obtain ⟨ok2, kx2, hr2⟩ := hp2
  have rel2 : REL2 cI cB cZ ad w2 := rel_refused rel ok1 ok2 hr1.1 hr2.1
  have he : r1 = r2 := hr1.2.trans hr2.2.symm
  refine lv_pop hx hb dL_law_1144 rfl ?_
  refine lv_goto (tgt := 1230) hx hb dL_law_1145 (by decide) ?_
  exact hend w2 H locs ok2 rel2 h

set_option maxHeartbeats 4000000 in
set_option maxRecDepth 100000 in
theorem law_from0 {p : Program} {l : Launch} {e : Env} {s : State} {m : MethodId} {below : List Frame} {meth : Method} {c : Code} {Q : State → Prop} {G : va_G} {cI cB cZ cO : ClassId} {ad : Nat → Nat} {w : Nat → va_E} {b L : Nat} {xs : Nat → Int32} {i : Int32} (X : Fx p m c code 4 s #[Value.ref b] "NoonShadeLaw" G (tyq cI cB cZ cO) (fun q => s.heap.size ≤ q)) (hD : WD (fun q => s.heap.size ≤ q) 74 ad) (hN : NS ad (fun q => s.heap.size ≤ q) s s.heap) (ok : OK cI cB cZ cO ad w) (rel : REL2 cI cB cZ ad w) (hX : va_X b L xs s s.heap) (hbl : b < s.heap.size) (hi0 : 0 ≤ i.toInt) (hi1 : i.toInt + 5 ≤ L) (hL : L ≤ 2560) {H : Heap} {locs : List Loc} {ls : Array Slot} (h : St G 74 ad (fun q => s.heap.size ≤ q) s.heap w H locs) (hl : lv_has ls 4 [(0, .ref b), (1, .ref (ad 0)), (2, .ref (ad 64)), (3, .int i)]) (hend : ∀ (w : Nat → va_E) (H : Heap) (locs : List Loc), OK cI cB cZ cO ad w → REL2 cI cB cZ ad w → St G 74 ad (fun q => s.heap.size ≤ q) s.heap w H locs → W p l e room_1 s m #[Value.ref b] below meth c H locs 74 2063 Q (F0 m 1230 ls [])) (hq : ∀ z : Int32, i + 1 = z → xs z.toNatClampNeg = 0) : W p l e room_1 s m #[Value.ref b] below meth c H locs 74 2063 Q (F0 m 1148 ls []) := by
  have hx := X.1.1
  have hb := X.1.2.1
  have hbA : ¬ (fun q => s.heap.size ≤ q) b := Nat.not_le.mpr hbl
  obtain ⟨z1, ez1, tz1⟩ := x_add (x := i) (y := 1) (a := i.toInt) (b := 1) rfl rfl (by omega) (by omega)
  have hq0 := hq z1 ez1
  obtain ⟨x0, y0, q0, q1, q2, f0⟩ := (show sN ad (w 0) from ok 0 (by decide))
  obtain ⟨ca, ja, nz, mz, hh, nc, mc, f, iv, f65, ird⟩ := id rel.2.1
  obtain ⟨ho, so, mi, e1, hrn, hca, hja, hnz, hmz⟩ := iv.cells (Or.inl rfl) ok
  have pal : alA f := (alA_of65 ok (Or.inl rfl) f65).1
  obtain ⟨ff, f54, p54⟩ := (show sA cZ 2 (rgA 0 1) (w 54) from ok 54 (by decide))
  obtain ⟨ca9, ja9, nz9, mz9, hh9, nc9, mc9, iv9⟩ := ok_iv ok isB28
  obtain ⟨ho9, so9, mi9, e19, hrn9, hca9, hja9, hnz9, hmz9⟩ := iv9.cells isB28 ok
  refine lv_aload_n hx hb dL_law_1148 rfl (lv_at hl 1 rfl) ?_
  refine lv_aload_n hx hb dL_law_1149 rfl (lv_at hl 0 rfl) ?_
  refine lv_iload_n hx hb dL_law_1150 rfl (lv_at hl 3 rfl) ?_
  refine lv_iconst (v := 1) hx hb dL_law_1151 (by decide) ?_
  refine o_iadd (z := z1) hx hb dL_law_1152 ez1 ?_
  refine o_sld (v := 0) hx hb hX hbl hbA h.2 (in_of (by omega) (by omega)) hq0 dL_law_1153 ?_
  refine n_Vi (na := 1) (As := [.int 0]) (rest := []) X hD hN h rfl (c_F_from0 l G cI cB cZ cO ad w ho9 so9 mi9 ca9 ja9 nz9 mz9 hh9 nc9 mc9 ff ok e19 iv9.2.1 iv9.2.2.1 iv9.2.2.2.1 iv9.2.2.2.2.1 iv9.2.2.2.2.2 hrn9 hca9 hja9 hnz9 hmz9 f54 p54) ⟨kv_975, kv_976, kv_977, kv_212, kv_978⟩ rfl ⟨by decide, by decide, by decide⟩ ⟨Nat.le_of_ble_eq_true rfl, Nat.le_of_ble_eq_true rfl⟩ ⟨Nat.le_of_ble_eq_true rfl, Nat.le_of_ble_eq_true rfl⟩ (by decide) f0 rfl rfl hl.1 rfl (Nat.le_of_ble_eq_true rfl) dL_law_1154 (fun r1 w1 H locs hp1 h => ?_)
  obtain ⟨ok1, kx1, hr1⟩ := hp1
  refine lv_pop hx hb dL_law_1157 rfl ?_
  obtain ⟨x1, y1, m0, m1, m2, m3, m4, m5, f64, h64a, h64b⟩ := (show sM ad (w1 64) from ok1 64 (by decide))
  have f65b : w1 65 = .inl (cI, 177, .inl f) := by have c9 : w1 65 = w 65 := kx1 65; exact c9.trans f65
  obtain ⟨gg, f67, p67⟩ := (show sA cZ 2 (rgA 0 1) (w1 67) from ok1 67 (by decide))
  obtain ⟨kp, f66, p66⟩ := (show sA cI 354 keA (w1 66) from ok1 66 (by decide))
  refine lv_aload_n hx hb dL_law_1158 rfl (lv_at hl 2 rfl) ?_
  refine lv_aload_n hx hb dL_law_1159 rfl (lv_at hl 0 rfl) ?_
  refine lv_iload_n hx hb dL_law_1160 rfl (lv_at hl 3 rfl) ?_
  refine lv_iconst (v := 1) hx hb dL_law_1161 (by decide) ?_
  refine o_iadd (z := z1) hx hb dL_law_1162 ez1 ?_
  refine o_sld (v := 0) hx hb hX hbl hbA h.2 (in_of (by omega) (by omega)) hq0 dL_law_1163 ?_
  refine n_Vi (na := 1) (As := [.int 0]) (rest := []) X hD hN h rfl (c_MF_from0 l G cI cB cZ cO ad w1 f kp gg ok1 f65b pal f66 p66 f67 p67) ⟨kv_979, kv_980, kv_981, kv_470, kv_982⟩ rfl ⟨by decide, by decide, by decide⟩ ⟨Nat.le_of_ble_eq_true rfl, Nat.le_of_ble_eq_true rfl⟩ ⟨Nat.le_of_ble_eq_true rfl, Nat.le_of_ble_eq_true rfl⟩ (by decide) f64 rfl rfl hl.1 rfl (Nat.le_of_ble_eq_true rfl) dL_law_1164 (fun r2 w2 H locs hp2 h => ?_)
  obtain ⟨ok2, kx2, hr2⟩ := hp2
  obtain ⟨fl9, kp9, c9, d9, m8, m9⟩ := id rel.2.2
  have hf9 : fl9 = ff := arrq (c9.symm.trans f54)
  have hk9 : kp9 = kp := arrq (d9.symm.trans (by have c8 : w1 66 = w 66 := kx1 66; rw [← c8]; exact f66))
  subst hf9; subst hk9
  obtain ⟨⟨-, f8, g8, c7, d7, e80, e81⟩, -⟩ := id rel.1
  have hf8 : f8 = fl9 := arrq (c7.symm.trans f54)
  have hg8 : g8 = gg := arrq (d7.symm.trans (by have c8 : w1 67 = w 67 := kx1 67; rw [← c8]; exact f67))
  subst hf8; subst hg8
  obtain ⟨rel2, he⟩ : REL2 cI cB cZ ad w2 ∧ r1 = r2 := rel_from2 (b := 28) (F := fun j => kp9 (0 + j)) rel ok1 ok2 e80 iv9 ⟨hca9.2, hnz9.2, hmz9.2⟩ (fun q => (m8 q).cong isB28 ok (fun k _ => by show kp9 (0 + k) = kp9 k; rw [Nat.zero_add])) hr1 hr2
  refine lv_pop hx hb dL_law_1167 rfl ?_
  refine lv_goto (tgt := 1230) hx hb dL_law_1168 (by decide) ?_
  exact hend w2 H locs ok2 rel2 h

set_option maxHeartbeats 4000000 in
set_option maxRecDepth 100000 in
theorem law_from1 {p : Program} {l : Launch} {e : Env} {s : State} {m : MethodId} {below : List Frame} {meth : Method} {c : Code} {Q : State → Prop} {G : va_G} {cI cB cZ cO : ClassId} {ad : Nat → Nat} {w : Nat → va_E} {b L : Nat} {xs : Nat → Int32} {i : Int32} (X : Fx p m c code 4 s #[Value.ref b] "NoonShadeLaw" G (tyq cI cB cZ cO) (fun q => s.heap.size ≤ q)) (hD : WD (fun q => s.heap.size ≤ q) 74 ad) (hN : NS ad (fun q => s.heap.size ≤ q) s s.heap) (ok : OK cI cB cZ cO ad w) (rel : REL2 cI cB cZ ad w) (hX : va_X b L xs s s.heap) (hbl : b < s.heap.size) (hi0 : 0 ≤ i.toInt) (hi1 : i.toInt + 5 ≤ L) (hL : L ≤ 2560) {H : Heap} {locs : List Loc} {ls : Array Slot} (h : St G 74 ad (fun q => s.heap.size ≤ q) s.heap w H locs) (hl : lv_has ls 4 [(0, .ref b), (1, .ref (ad 0)), (2, .ref (ad 64)), (3, .int i)]) (hend : ∀ (w : Nat → va_E) (H : Heap) (locs : List Loc), OK cI cB cZ cO ad w → REL2 cI cB cZ ad w → St G 74 ad (fun q => s.heap.size ≤ q) s.heap w H locs → W p l e room_1 s m #[Value.ref b] below meth c H locs 74 2063 Q (F0 m 1230 ls [])) (hq : ∀ z : Int32, i + 1 = z → xs z.toNatClampNeg = 1) : W p l e room_1 s m #[Value.ref b] below meth c H locs 74 2063 Q (F0 m 1148 ls []) := by
  have hx := X.1.1
  have hb := X.1.2.1
  have hbA : ¬ (fun q => s.heap.size ≤ q) b := Nat.not_le.mpr hbl
  obtain ⟨z1, ez1, tz1⟩ := x_add (x := i) (y := 1) (a := i.toInt) (b := 1) rfl rfl (by omega) (by omega)
  have hq0 := hq z1 ez1
  obtain ⟨x0, y0, q0, q1, q2, f0⟩ := (show sN ad (w 0) from ok 0 (by decide))
  obtain ⟨ca, ja, nz, mz, hh, nc, mc, f, iv, f65, ird⟩ := id rel.2.1
  obtain ⟨ho, so, mi, e1, hrn, hca, hja, hnz, hmz⟩ := iv.cells (Or.inl rfl) ok
  have pal : alA f := (alA_of65 ok (Or.inl rfl) f65).1
  obtain ⟨ff, f54, p54⟩ := (show sA cZ 2 (rgA 0 1) (w 54) from ok 54 (by decide))
  obtain ⟨ca9, ja9, nz9, mz9, hh9, nc9, mc9, iv9⟩ := ok_iv ok isB41
  obtain ⟨ho9, so9, mi9, e19, hrn9, hca9, hja9, hnz9, hmz9⟩ := iv9.cells isB41 ok
  refine lv_aload_n hx hb dL_law_1148 rfl (lv_at hl 1 rfl) ?_
  refine lv_aload_n hx hb dL_law_1149 rfl (lv_at hl 0 rfl) ?_
  refine lv_iload_n hx hb dL_law_1150 rfl (lv_at hl 3 rfl) ?_
  refine lv_iconst (v := 1) hx hb dL_law_1151 (by decide) ?_
  refine o_iadd (z := z1) hx hb dL_law_1152 ez1 ?_
  refine o_sld (v := 1) hx hb hX hbl hbA h.2 (in_of (by omega) (by omega)) hq0 dL_law_1153 ?_
  refine n_Vi (na := 1) (As := [.int 1]) (rest := []) X hD hN h rfl (c_F_from1 l G cI cB cZ cO ad w ho9 so9 mi9 ca9 ja9 nz9 mz9 hh9 nc9 mc9 ff ok e19 iv9.2.1 iv9.2.2.1 iv9.2.2.2.1 iv9.2.2.2.2.1 iv9.2.2.2.2.2 hrn9 hca9 hja9 hnz9 hmz9 f54 p54) ⟨kv_975, kv_976, kv_977, kv_212, kv_978⟩ rfl ⟨by decide, by decide, by decide⟩ ⟨Nat.le_of_ble_eq_true rfl, Nat.le_of_ble_eq_true rfl⟩ ⟨Nat.le_of_ble_eq_true rfl, Nat.le_of_ble_eq_true rfl⟩ (by decide) f0 rfl rfl hl.1 rfl (Nat.le_of_ble_eq_true rfl) dL_law_1154 (fun r1 w1 H locs hp1 h => ?_)
  obtain ⟨ok1, kx1, hr1⟩ := hp1
  refine lv_pop hx hb dL_law_1157 rfl ?_
  obtain ⟨x1, y1, m0, m1, m2, m3, m4, m5, f64, h64a, h64b⟩ := (show sM ad (w1 64) from ok1 64 (by decide))
  have f65b : w1 65 = .inl (cI, 177, .inl f) := by have c9 : w1 65 = w 65 := kx1 65; exact c9.trans f65
  obtain ⟨gg, f67, p67⟩ := (show sA cZ 2 (rgA 0 1) (w1 67) from ok1 67 (by decide))
  obtain ⟨kp, f66, p66⟩ := (show sA cI 354 keA (w1 66) from ok1 66 (by decide))
  refine lv_aload_n hx hb dL_law_1158 rfl (lv_at hl 2 rfl) ?_
  refine lv_aload_n hx hb dL_law_1159 rfl (lv_at hl 0 rfl) ?_
  refine lv_iload_n hx hb dL_law_1160 rfl (lv_at hl 3 rfl) ?_
  refine lv_iconst (v := 1) hx hb dL_law_1161 (by decide) ?_
  refine o_iadd (z := z1) hx hb dL_law_1162 ez1 ?_
  refine o_sld (v := 1) hx hb hX hbl hbA h.2 (in_of (by omega) (by omega)) hq0 dL_law_1163 ?_
  refine n_Vi (na := 1) (As := [.int 1]) (rest := []) X hD hN h rfl (c_MF_from1 l G cI cB cZ cO ad w1 f kp gg ok1 f65b pal f66 p66 f67 p67) ⟨kv_979, kv_980, kv_981, kv_470, kv_982⟩ rfl ⟨by decide, by decide, by decide⟩ ⟨Nat.le_of_ble_eq_true rfl, Nat.le_of_ble_eq_true rfl⟩ ⟨Nat.le_of_ble_eq_true rfl, Nat.le_of_ble_eq_true rfl⟩ (by decide) f64 rfl rfl hl.1 rfl (Nat.le_of_ble_eq_true rfl) dL_law_1164 (fun r2 w2 H locs hp2 h => ?_)
  obtain ⟨ok2, kx2, hr2⟩ := hp2
  obtain ⟨fl9, kp9, c9, d9, m8, m9⟩ := id rel.2.2
  have hf9 : fl9 = ff := arrq (c9.symm.trans f54)
  have hk9 : kp9 = kp := arrq (d9.symm.trans (by have c8 : w1 66 = w 66 := kx1 66; rw [← c8]; exact f66))
  subst hf9; subst hk9
  obtain ⟨⟨-, f8, g8, c7, d7, e80, e81⟩, -⟩ := id rel.1
  have hf8 : f8 = fl9 := arrq (c7.symm.trans f54)
  have hg8 : g8 = gg := arrq (d7.symm.trans (by have c8 : w1 67 = w 67 := kx1 67; rw [← c8]; exact f67))
  subst hf8; subst hg8
  obtain ⟨rel2, he⟩ : REL2 cI cB cZ ad w2 ∧ r1 = r2 := rel_from2 (b := 41) (F := fun j => kp9 (177 + j)) rel ok1 ok2 e81 iv9 ⟨hca9.2, hnz9.2, hmz9.2⟩ m9 hr1 hr2
  refine lv_pop hx hb dL_law_1167 rfl ?_
  refine lv_goto (tgt := 1230) hx hb dL_law_1168 (by decide) ?_
  exact hend w2 H locs ok2 rel2 h

set_option maxHeartbeats 4000000 in
set_option maxRecDepth 100000 in
theorem law_fromN {p : Program} {l : Launch} {e : Env} {s : State} {m : MethodId} {below : List Frame} {meth : Method} {c : Code} {Q : State → Prop} {G : va_G} {cI cB cZ cO : ClassId} {ad : Nat → Nat} {w : Nat → va_E} {b L : Nat} {xs : Nat → Int32} {i : Int32} (X : Fx p m c code 4 s #[Value.ref b] "NoonShadeLaw" G (tyq cI cB cZ cO) (fun q => s.heap.size ≤ q)) (hD : WD (fun q => s.heap.size ≤ q) 74 ad) (hN : NS ad (fun q => s.heap.size ≤ q) s s.heap) (ok : OK cI cB cZ cO ad w) (rel : REL2 cI cB cZ ad w) (hX : va_X b L xs s s.heap) (hbl : b < s.heap.size) (hi0 : 0 ≤ i.toInt) (hi1 : i.toInt + 5 ≤ L) (hL : L ≤ 2560) {H : Heap} {locs : List Loc} {ls : Array Slot} (h : St G 74 ad (fun q => s.heap.size ≤ q) s.heap w H locs) (hl : lv_has ls 4 [(0, .ref b), (1, .ref (ad 0)), (2, .ref (ad 64)), (3, .int i)]) (hend : ∀ (w : Nat → va_E) (H : Heap) (locs : List Loc), OK cI cB cZ cO ad w → REL2 cI cB cZ ad w → St G 74 ad (fun q => s.heap.size ≤ q) s.heap w H locs → W p l e room_1 s m #[Value.ref b] below meth c H locs 74 2063 Q (F0 m 1230 ls [])) (hq : ∀ z : Int32, i + 1 = z → ¬ (0 ≤ (xs z.toNatClampNeg).toInt ∧ (xs z.toNatClampNeg).toInt ≤ 1)) : W p l e room_1 s m #[Value.ref b] below meth c H locs 74 2063 Q (F0 m 1148 ls []) := by
  have hx := X.1.1
  have hb := X.1.2.1
  have hbA : ¬ (fun q => s.heap.size ≤ q) b := Nat.not_le.mpr hbl
  obtain ⟨z1, ez1, tz1⟩ := x_add (x := i) (y := 1) (a := i.toInt) (b := 1) rfl rfl (by omega) (by omega)
  obtain ⟨a1, ea1⟩ : ∃ v : Int32, xs (z1).toNatClampNeg = v := ⟨_, rfl⟩
  have hq0 := hq z1 ez1
  rw [ea1] at hq0
  obtain ⟨x0, y0, q0, q1, q2, f0⟩ := (show sN ad (w 0) from ok 0 (by decide))
  obtain ⟨ca, ja, nz, mz, hh, nc, mc, f, iv, f65, ird⟩ := id rel.2.1
  obtain ⟨ho, so, mi, e1, hrn, hca, hja, hnz, hmz⟩ := iv.cells (Or.inl rfl) ok
  have pal : alA f := (alA_of65 ok (Or.inl rfl) f65).1
  refine lv_aload_n hx hb dL_law_1148 rfl (lv_at hl 1 rfl) ?_
  refine lv_aload_n hx hb dL_law_1149 rfl (lv_at hl 0 rfl) ?_
  refine lv_iload_n hx hb dL_law_1150 rfl (lv_at hl 3 rfl) ?_
  refine lv_iconst (v := 1) hx hb dL_law_1151 (by decide) ?_
  refine o_iadd (z := z1) hx hb dL_law_1152 ez1 ?_
  refine o_sld (v := a1) hx hb hX hbl hbA h.2 (in_of (by omega) (by omega)) ea1 dL_law_1153 ?_
  refine n_Vi (na := 1) (As := [.int a1]) (rest := []) X hD hN h rfl (c_F_fromN l G cI cB cZ cO ad w ok a1 hq0) ⟨kv_975, kv_976, kv_977, kv_212, kv_978⟩ rfl ⟨by decide, by decide, by decide⟩ ⟨Nat.le_of_ble_eq_true rfl, Nat.le_of_ble_eq_true rfl⟩ ⟨Nat.le_of_ble_eq_true rfl, Nat.le_of_ble_eq_true rfl⟩ (by decide) f0 rfl rfl hl.1 rfl (Nat.le_of_ble_eq_true rfl) dL_law_1154 (fun r1 w1 H locs hp1 h => ?_)
  obtain ⟨ok1, kx1, hr1⟩ := hp1
  refine lv_pop hx hb dL_law_1157 rfl ?_
  obtain ⟨x1, y1, m0, m1, m2, m3, m4, m5, f64, h64a, h64b⟩ := (show sM ad (w1 64) from ok1 64 (by decide))
  have f65b : w1 65 = .inl (cI, 177, .inl f) := by have c9 : w1 65 = w 65 := kx1 65; exact c9.trans f65
  refine lv_aload_n hx hb dL_law_1158 rfl (lv_at hl 2 rfl) ?_
  refine lv_aload_n hx hb dL_law_1159 rfl (lv_at hl 0 rfl) ?_
  refine lv_iload_n hx hb dL_law_1160 rfl (lv_at hl 3 rfl) ?_
  refine lv_iconst (v := 1) hx hb dL_law_1161 (by decide) ?_
  refine o_iadd (z := z1) hx hb dL_law_1162 ez1 ?_
  refine o_sld (v := a1) hx hb hX hbl hbA h.2 (in_of (by omega) (by omega)) ea1 dL_law_1163 ?_
  refine n_Vi (na := 1) (As := [.int a1]) (rest := []) X hD hN h rfl (c_MF_fromN l G cI cB cZ cO ad w1 ok1 a1 hq0) ⟨kv_979, kv_980, kv_981, kv_470, kv_982⟩ rfl ⟨by decide, by decide, by decide⟩ ⟨Nat.le_of_ble_eq_true rfl, Nat.le_of_ble_eq_true rfl⟩ ⟨Nat.le_of_ble_eq_true rfl, Nat.le_of_ble_eq_true rfl⟩ (by decide) f64 rfl rfl hl.1 rfl (Nat.le_of_ble_eq_true rfl) dL_law_1164 (fun r2 w2 H locs hp2 h => ?_)
  obtain ⟨ok2, kx2, hr2⟩ := hp2
  have rel2 : REL2 cI cB cZ ad w2 := rel_refused rel ok1 ok2 hr1.1 hr2.1
  have he : r1 = r2 := hr1.2.trans hr2.2.symm
  refine lv_pop hx hb dL_law_1167 rfl ?_
  refine lv_goto (tgt := 1230) hx hb dL_law_1168 (by decide) ?_
  exact hend w2 H locs ok2 rel2 h

set_option maxHeartbeats 4000000 in
set_option maxRecDepth 100000 in
theorem law_status {p : Program} {l : Launch} {e : Env} {s : State} {m : MethodId} {below : List Frame} {meth : Method} {c : Code} {Q : State → Prop} {G : va_G} {cI cB cZ cO : ClassId} {ad : Nat → Nat} {w : Nat → va_E} {b L : Nat} {xs : Nat → Int32} {i : Int32} (X : Fx p m c code 4 s #[Value.ref b] "NoonShadeLaw" G (tyq cI cB cZ cO) (fun q => s.heap.size ≤ q)) (hD : WD (fun q => s.heap.size ≤ q) 74 ad) (hN : NS ad (fun q => s.heap.size ≤ q) s s.heap) (ok : OK cI cB cZ cO ad w) (rel : REL2 cI cB cZ ad w) (hX : va_X b L xs s s.heap) (hbl : b < s.heap.size) (hi0 : 0 ≤ i.toInt) (hi1 : i.toInt + 5 ≤ L) (hL : L ≤ 2560) {H : Heap} {locs : List Loc} {ls : Array Slot} (h : St G 74 ad (fun q => s.heap.size ≤ q) s.heap w H locs) (hl : lv_has ls 4 [(0, .ref b), (1, .ref (ad 0)), (2, .ref (ad 64)), (3, .int i)]) (hend : ∀ (w : Nat → va_E) (H : Heap) (locs : List Loc), OK cI cB cZ cO ad w → REL2 cI cB cZ ad w → St G 74 ad (fun q => s.heap.size ≤ q) s.heap w H locs → W p l e room_1 s m #[Value.ref b] below meth c H locs 74 2063 Q (F0 m 1230 ls [])) : W p l e room_1 s m #[Value.ref b] below meth c H locs 74 2063 Q (F0 m 1171 ls []) := by
  have hx := X.1.1
  have hb := X.1.2.1
  have hbA : ¬ (fun q => s.heap.size ≤ q) b := Nat.not_le.mpr hbl
  obtain ⟨z1, ez1, tz1⟩ := x_add (x := i) (y := 1) (a := i.toInt) (b := 1) rfl rfl (by omega) (by omega)
  obtain ⟨a1, ea1⟩ : ∃ v : Int32, xs (z1).toNatClampNeg = v := ⟨_, rfl⟩
  obtain ⟨x0, y0, q0, q1, q2, f0⟩ := (show sN ad (w 0) from ok 0 (by decide))
  refine lv_aload_n hx hb dL_law_1171 rfl (lv_at hl 1 rfl) ?_
  refine lv_aload_n hx hb dL_law_1172 rfl (lv_at hl 0 rfl) ?_
  refine lv_iload_n hx hb dL_law_1173 rfl (lv_at hl 3 rfl) ?_
  refine lv_iconst (v := 1) hx hb dL_law_1174 (by decide) ?_
  refine o_iadd (z := z1) hx hb dL_law_1175 ez1 ?_
  refine o_sld (v := a1) hx hb hX hbl hbA h.2 (in_of (by omega) (by omega)) ea1 dL_law_1176 ?_
  refine n_Vi (na := 1) (As := [.int a1]) (rest := []) X hD hN h rfl (c_X_status l G cI cB cZ cO ad w ok a1) ⟨kv_983, kv_984, kv_985, kv_212, kv_986⟩ rfl ⟨by decide, by decide, by decide⟩ ⟨Nat.le_of_ble_eq_true rfl, Nat.le_of_ble_eq_true rfl⟩ ⟨Nat.le_of_ble_eq_true rfl, Nat.le_of_ble_eq_true rfl⟩ (by decide) f0 rfl rfl hl.1 rfl (Nat.le_of_ble_eq_true rfl) dL_law_1177 (fun r1 w1 H locs hp1 h => ?_)
  obtain ⟨ok1, kx1, hr1⟩ := hp1
  refine lv_pop hx hb dL_law_1180 rfl ?_
  have rel1 : REL2 cI cB cZ ad w1 := rel.kx kx1
  obtain ⟨x1, y1, m0, m1, m2, m3, m4, m5, f64, h64a, h64b⟩ := (show sM ad (w1 64) from ok1 64 (by decide))
  refine lv_aload_n hx hb dL_law_1181 rfl (lv_at hl 2 rfl) ?_
  refine lv_aload_n hx hb dL_law_1182 rfl (lv_at hl 0 rfl) ?_
  refine lv_iload_n hx hb dL_law_1183 rfl (lv_at hl 3 rfl) ?_
  refine lv_iconst (v := 1) hx hb dL_law_1184 (by decide) ?_
  refine o_iadd (z := z1) hx hb dL_law_1185 ez1 ?_
  refine o_sld (v := a1) hx hb hX hbl hbA h.2 (in_of (by omega) (by omega)) ea1 dL_law_1186 ?_
  refine n_Vi (na := 1) (As := [.int a1]) (rest := []) X hD hN h rfl (c_M_status_ l G cI cB cZ cO ad w1 ok1 a1) ⟨kv_987, kv_988, kv_989, kv_470, kv_990⟩ rfl ⟨by decide, by decide, by decide⟩ ⟨Nat.le_of_ble_eq_true rfl, Nat.le_of_ble_eq_true rfl⟩ ⟨Nat.le_of_ble_eq_true rfl, Nat.le_of_ble_eq_true rfl⟩ (by decide) f64 rfl rfl hl.1 rfl (Nat.le_of_ble_eq_true rfl) dL_law_1187 (fun r2 w2 H locs hp2 h => ?_)
  obtain ⟨ok2, kx2, hr2⟩ := hp2
  have rel2 : REL2 cI cB cZ ad w2 := rel1.km ok1 ok2 kx2
  refine lv_pop hx hb dL_law_1190 rfl ?_
  refine lv_goto (tgt := 1230) hx hb dL_law_1191 (by decide) ?_
  exact hend w2 H locs ok2 rel2 h

set_option maxHeartbeats 4000000 in
set_option maxRecDepth 100000 in
theorem law_count {p : Program} {l : Launch} {e : Env} {s : State} {m : MethodId} {below : List Frame} {meth : Method} {c : Code} {Q : State → Prop} {G : va_G} {cI cB cZ cO : ClassId} {ad : Nat → Nat} {w : Nat → va_E} {b L : Nat} {xs : Nat → Int32} {i : Int32} (X : Fx p m c code 4 s #[Value.ref b] "NoonShadeLaw" G (tyq cI cB cZ cO) (fun q => s.heap.size ≤ q)) (hD : WD (fun q => s.heap.size ≤ q) 74 ad) (hN : NS ad (fun q => s.heap.size ≤ q) s s.heap) (ok : OK cI cB cZ cO ad w) (rel : REL2 cI cB cZ ad w) (hX : va_X b L xs s s.heap) (hbl : b < s.heap.size) (hi0 : 0 ≤ i.toInt) (hi1 : i.toInt + 5 ≤ L) (hL : L ≤ 2560) {H : Heap} {locs : List Loc} {ls : Array Slot} (h : St G 74 ad (fun q => s.heap.size ≤ q) s.heap w H locs) (hl : lv_has ls 4 [(0, .ref b), (1, .ref (ad 0)), (2, .ref (ad 64)), (3, .int i)]) (hend : ∀ (w : Nat → va_E) (H : Heap) (locs : List Loc), OK cI cB cZ cO ad w → REL2 cI cB cZ ad w → St G 74 ad (fun q => s.heap.size ≤ q) s.heap w H locs → W p l e room_1 s m #[Value.ref b] below meth c H locs 74 2063 Q (F0 m 1230 ls [])) : W p l e room_1 s m #[Value.ref b] below meth c H locs 74 2063 Q (F0 m 1194 ls []) := by
  have hx := X.1.1
  have hb := X.1.2.1
  have hbA : ¬ (fun q => s.heap.size ≤ q) b := Nat.not_le.mpr hbl
  obtain ⟨z1, ez1, tz1⟩ := x_add (x := i) (y := 1) (a := i.toInt) (b := 1) rfl rfl (by omega) (by omega)
  obtain ⟨a1, ea1⟩ : ∃ v : Int32, xs (z1).toNatClampNeg = v := ⟨_, rfl⟩
  obtain ⟨x0, y0, q0, q1, q2, f0⟩ := (show sN ad (w 0) from ok 0 (by decide))
  refine lv_aload_n hx hb dL_law_1194 rfl (lv_at hl 1 rfl) ?_
  refine lv_aload_n hx hb dL_law_1195 rfl (lv_at hl 0 rfl) ?_
  refine lv_iload_n hx hb dL_law_1196 rfl (lv_at hl 3 rfl) ?_
  refine lv_iconst (v := 1) hx hb dL_law_1197 (by decide) ?_
  refine o_iadd (z := z1) hx hb dL_law_1198 ez1 ?_
  refine o_sld (v := a1) hx hb hX hbl hbA h.2 (in_of (by omega) (by omega)) ea1 dL_law_1199 ?_
  refine n_Vi (na := 1) (As := [.int a1]) (rest := []) X hD hN h rfl (c_X_count l G cI cB cZ cO ad w ok a1) ⟨kv_991, kv_992, kv_993, kv_212, kv_994⟩ rfl ⟨by decide, by decide, by decide⟩ ⟨Nat.le_of_ble_eq_true rfl, Nat.le_of_ble_eq_true rfl⟩ ⟨Nat.le_of_ble_eq_true rfl, Nat.le_of_ble_eq_true rfl⟩ (by decide) f0 rfl rfl hl.1 rfl (Nat.le_of_ble_eq_true rfl) dL_law_1200 (fun r1 w1 H locs hp1 h => ?_)
  obtain ⟨ok1, kx1, hr1⟩ := hp1
  refine lv_pop hx hb dL_law_1203 rfl ?_
  have rel1 : REL2 cI cB cZ ad w1 := rel.kx kx1
  obtain ⟨x1, y1, m0, m1, m2, m3, m4, m5, f64, h64a, h64b⟩ := (show sM ad (w1 64) from ok1 64 (by decide))
  refine lv_aload_n hx hb dL_law_1204 rfl (lv_at hl 2 rfl) ?_
  refine lv_aload_n hx hb dL_law_1205 rfl (lv_at hl 0 rfl) ?_
  refine lv_iload_n hx hb dL_law_1206 rfl (lv_at hl 3 rfl) ?_
  refine lv_iconst (v := 1) hx hb dL_law_1207 (by decide) ?_
  refine o_iadd (z := z1) hx hb dL_law_1208 ez1 ?_
  refine o_sld (v := a1) hx hb hX hbl hbA h.2 (in_of (by omega) (by omega)) ea1 dL_law_1209 ?_
  refine n_Vi (na := 1) (As := [.int a1]) (rest := []) X hD hN h rfl (c_M_count_ l G cI cB cZ cO ad w1 ok1 a1) ⟨kv_995, kv_996, kv_997, kv_470, kv_998⟩ rfl ⟨by decide, by decide, by decide⟩ ⟨Nat.le_of_ble_eq_true rfl, Nat.le_of_ble_eq_true rfl⟩ ⟨Nat.le_of_ble_eq_true rfl, Nat.le_of_ble_eq_true rfl⟩ (by decide) f64 rfl rfl hl.1 rfl (Nat.le_of_ble_eq_true rfl) dL_law_1210 (fun r2 w2 H locs hp2 h => ?_)
  obtain ⟨ok2, kx2, hr2⟩ := hp2
  have rel2 : REL2 cI cB cZ ad w2 := rel1.km ok1 ok2 kx2
  refine lv_pop hx hb dL_law_1213 rfl ?_
  refine lv_goto (tgt := 1230) hx hb dL_law_1214 (by decide) ?_
  exact hend w2 H locs ok2 rel2 h

set_option maxHeartbeats 4000000 in
set_option maxRecDepth 100000 in
theorem law_digest {p : Program} {l : Launch} {e : Env} {s : State} {m : MethodId} {below : List Frame} {meth : Method} {c : Code} {Q : State → Prop} {G : va_G} {cI cB cZ cO : ClassId} {ad : Nat → Nat} {w : Nat → va_E} {b L : Nat} {xs : Nat → Int32} {i : Int32} (X : Fx p m c code 4 s #[Value.ref b] "NoonShadeLaw" G (tyq cI cB cZ cO) (fun q => s.heap.size ≤ q)) (hD : WD (fun q => s.heap.size ≤ q) 74 ad) (hN : NS ad (fun q => s.heap.size ≤ q) s s.heap) (ok : OK cI cB cZ cO ad w) (rel : REL2 cI cB cZ ad w) (hX : va_X b L xs s s.heap) (hbl : b < s.heap.size) (hi0 : 0 ≤ i.toInt) (hi1 : i.toInt + 5 ≤ L) (hL : L ≤ 2560) {H : Heap} {locs : List Loc} {ls : Array Slot} (h : St G 74 ad (fun q => s.heap.size ≤ q) s.heap w H locs) (hl : lv_has ls 4 [(0, .ref b), (1, .ref (ad 0)), (2, .ref (ad 64)), (3, .int i)]) (hend : ∀ (w : Nat → va_E) (H : Heap) (locs : List Loc), OK cI cB cZ cO ad w → REL2 cI cB cZ ad w → St G 74 ad (fun q => s.heap.size ≤ q) s.heap w H locs → W p l e room_1 s m #[Value.ref b] below meth c H locs 74 2063 Q (F0 m 1230 ls [])) : W p l e room_1 s m #[Value.ref b] below meth c H locs 74 2063 Q (F0 m 1217 ls []) := by
  have hx := X.1.1
  have hb := X.1.2.1
  have hbA : ¬ (fun q => s.heap.size ≤ q) b := Nat.not_le.mpr hbl
  obtain ⟨x0, y0, q0, q1, q2, f0⟩ := (show sN ad (w 0) from ok 0 (by decide))
  refine lv_aload_n hx hb dL_law_1217 rfl (lv_at hl 1 rfl) ?_
  refine n_Vl (na := 0) (As := []) (rest := []) X hD hN h rfl (c_X_digest l G cI cB cZ cO ad w ok ) ⟨kv_999, kv_1000, kv_1001, kv_212, kv_1002⟩ rfl ⟨by decide, by decide, by decide⟩ ⟨Nat.le_of_ble_eq_true rfl, Nat.le_of_ble_eq_true rfl⟩ ⟨Nat.le_of_ble_eq_true rfl, Nat.le_of_ble_eq_true rfl⟩ (by decide) f0 rfl rfl hl.1 rfl (Nat.le_of_ble_eq_true rfl) dL_law_1218 (fun r1 w1 H locs hp1 h => ?_)
  obtain ⟨ok1, kx1, hr1⟩ := hp1
  refine lv_pop2_2 hx hb dL_law_1221 rfl ?_
  have rel1 : REL2 cI cB cZ ad w1 := rel.kx kx1
  obtain ⟨x1, y1, m0, m1, m2, m3, m4, m5, f64, h64a, h64b⟩ := (show sM ad (w1 64) from ok1 64 (by decide))
  refine lv_aload_n hx hb dL_law_1222 rfl (lv_at hl 2 rfl) ?_
  refine n_Vl (na := 0) (As := []) (rest := []) X hD hN h rfl (c_M_digest_ l G cI cB cZ cO ad w1 ok1 ) ⟨kv_1003, kv_1004, kv_1005, kv_470, kv_1006⟩ rfl ⟨by decide, by decide, by decide⟩ ⟨Nat.le_of_ble_eq_true rfl, Nat.le_of_ble_eq_true rfl⟩ ⟨Nat.le_of_ble_eq_true rfl, Nat.le_of_ble_eq_true rfl⟩ (by decide) f64 rfl rfl hl.1 rfl (Nat.le_of_ble_eq_true rfl) dL_law_1223 (fun r2 w2 H locs hp2 h => ?_)
  obtain ⟨ok2, kx2, hr2⟩ := hp2
  have rel2 : REL2 cI cB cZ ad w2 := rel1.km ok1 ok2 kx2
  refine lv_pop2_2 hx hb dL_law_1226 rfl ?_
  refine lv_goto (tgt := 1230) hx hb dL_law_1227 (by decide) ?_
  exact hend w2 H locs ok2 rel2 h
