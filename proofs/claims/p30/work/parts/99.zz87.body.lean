set_option maxHeartbeats 4000000 in
set_option maxRecDepth 100000 in
theorem law_loop {p : Program} {l : Launch} {e : Env} {s : State} {m : MethodId} {below : List Frame} {meth : Method} {c : Code} {G : va_G} {cI cB cZ cO : ClassId} {ad : Nat → Nat} {b L : Nat} {xs : Nat → Int32} (hL : L ≤ 2560) (C0 : lw_At p s m meth c b L xs) (X : Fx p m c code 4 s #[Value.ref b] "NoonShadeLaw" G (tyq cI cB cZ cO) (fun q => s.heap.size ≤ q)) (hD : WD (fun q => s.heap.size ≤ q) 74 ad) (hN : NS ad (fun q => s.heap.size ≤ q) s s.heap) : ∀ (D : Nat) (i : Int32) (w : Nat → va_E) (H : Heap) (locs : List Loc) (ls : Array Slot), 0 ≤ i.toInt → i.toInt ≤ 2560 → 2560 - i.toInt < (D : Int) → OK cI cB cZ cO ad w → REL2 cI cB cZ ad w → St G 74 ad (fun q => s.heap.size ≤ q) s.heap w H locs → lv_has ls 4 [(0, .ref b), (1, .ref (ad 0)), (2, .ref (ad 64)), (3, .int i)] → W p l e room_1 s m #[Value.ref b] below meth c H locs 74 2063 (lw_Z below #[Value.ref b] s) (F0 m 18 ls []) := by
  obtain ⟨hx, hb, hr, hml, hown, hts, hX, hbl, hlocks, hgv⟩ := id C0
  have hbA : ¬ (fun q : Nat => s.heap.size ≤ q) b := Nat.not_le.mpr hbl
  intro D
  induction D with
  | zero => intro i w H locs ls h0 h1 h2; exfalso; omega
  | succ D ih =>
    intro i w H locs ls hi0 hi2 hm ok rel h hl
    refine lv_iload_n hx hb dL_law_18 rfl (lv_at hl 3 rfl) ?_
    refine lv_aload_n hx hb dL_law_19 rfl (lv_at hl 0 rfl) ?_
    refine va_slen hx hb hX hbl hbA h.2 dL_law_20 ?_
    refine lv_iconst (v := 5) hx hb dL_law_21 (by decide) ?_
    have tL : (nI L).toInt = (L : Int) := nI_toInt (by omega)
    obtain ⟨zL, ezL, tzL⟩ := x_sub (x := nI L) (y := 5) (a := (L : Int)) (b := 5) tL rfl (by omega) (by omega)
    refine o_isub (z := zL) hx hb dL_law_22 ezL ?_
    refine lv_icmp_gt (tgt := 1236) hx hb dL_law_23 (by decide) (fun _ => ?_) (fun hc => ?_)
    · refine lv_iconst (v := 1) hx hb dL_law_1236 (by decide) ?_
      refine va_forget (fun q hq => h.2.2.2 q hq) ?_
      exact lw_ret hx hb hr hlocks dL_law_1237
    have hc : ¬ zL.toInt < i.toInt := i_nlt hc rfl rfl
    have hi1 : i.toInt + 5 ≤ L := by omega
    have hend : ∀ (w : Nat → va_E) (H : Heap) (locs : List Loc), OK cI cB cZ cO ad w → REL2 cI cB cZ ad w → St G 74 ad (fun q => s.heap.size ≤ q) s.heap w H locs → W p l e room_1 s m #[Value.ref b] below meth c H locs 74 2063 (lw_Z below #[Value.ref b] s) (F0 m 1230 ls []) := by
      intro w H locs ok rel h
      obtain ⟨z5, ez5, tz5⟩ := x_add (x := i) (y := 5) (a := i.toInt) (b := 5) rfl rfl (by omega) (by omega)
      refine lv_iinc (v := z5) (lv' := [(3, .int z5), (0, .ref b), (1, .ref (ad 0)), (2, .ref (ad 64))]) hx hb dL_law_1230 hl (k := 3) rfl ez5 (by decide) rfl (fun ls hl => ?_)
      refine lv_goto (tgt := 18) hx hb dL_law_1233 (by decide) ?_
      exact ih z5 w H locs ls (by omega) (by omega) (by omega) ok rel h (lv_sub hl [1, 2, 3, 0] rfl)
    refine lv_aload_n hx hb dL_law_26 rfl (lv_at hl 0 rfl) ?_
    refine lv_iload_n hx hb dL_law_27 rfl (lv_at hl 3 rfl) ?_
    obtain ⟨x0, ex0⟩ : ∃ v : Int32, xs (i).toNatClampNeg = v := ⟨_, rfl⟩
    refine o_sld (v := x0) hx hb hX hbl hbA h.2 (in_of (by omega) (by omega)) ex0 dL_law_28 ?_
    refine lv_bipush (v := 63) hx hb dL_law_29 (by decide) ?_
    obtain ⟨j, hj, ej⟩ := pk_andE x0 (m := 63) 6 (by decide)
    refine o_iand (z := nI j) hx hb dL_law_31 ej ?_
    clear ej
    match j, hj with
    | 0, _ =>
      refine lv_tableIn (tgt := 192) (off := 160) hx hb dL_law_32 (by decide) (by decide) (by decide) (by decide) ?_
      exact law_island X hD hN ok rel hX hbl hi0 hi1 hL h hl hend
    | 1, _ =>
      refine lv_tableIn (tgt := 215) (off := 183) hx hb dL_law_32 (by decide) (by decide) (by decide) (by decide) ?_
      exact law_caster X hD hN ok rel hX hbl hi0 hi1 hL h hl hend
    | 2, _ =>
      refine lv_tableIn (tgt := 258) (off := 226) hx hb dL_law_32 (by decide) (by decide) (by decide) (by decide) ?_
      exact law_jar X hD hN ok rel hX hbl hi0 hi1 hL h hl hend
    | 3, _ =>
      refine lv_tableIn (tgt := 281) (off := 249) hx hb dL_law_32 (by decide) (by decide) (by decide) (by decide) ?_
      exact law_type X hD hN ok rel hX hbl hi0 hi1 hL h hl hend
    | 4, _ =>
      refine lv_tableIn (tgt := 304) (off := 272) hx hb dL_law_32 (by decide) (by decide) (by decide) (by decide) ?_
      exact law_clear X hD hN ok rel hX hbl hi0 hi1 hL h hl hend
    | 5, _ =>
      refine lv_tableIn (tgt := 317) (off := 285) hx hb dL_law_32 (by decide) (by decide) (by decide) (by decide) ?_
      exact law_read X hD hN ok rel hX hbl hi0 hi1 hL h hl hend
    | 6, _ =>
      refine lv_tableIn (tgt := 330) (off := 298) hx hb dL_law_32 (by decide) (by decide) (by decide) (by decide) ?_
      exact law_ladle X hD hN ok rel hX hbl hi0 hi1 hL h hl hend
    | 7, _ =>
      refine lv_tableIn (tgt := 363) (off := 331) hx hb dL_law_32 (by decide) (by decide) (by decide) (by decide) ?_
      exact law_pours X hD hN ok rel hX hbl hi0 hi1 hL h hl hend
    | 8, _ =>
      refine lv_tableIn (tgt := 396) (off := 364) hx hb dL_law_32 (by decide) (by decide) (by decide) (by decide) ?_
      exact law_sells X hD hN ok rel hX hbl hi0 hi1 hL h hl hend
    | 9, _ =>
      refine lv_tableIn (tgt := 419) (off := 387) hx hb dL_law_32 (by decide) (by decide) (by decide) (by decide) ?_
      exact law_hours X hD hN ok rel hX hbl hi0 hi1 hL h hl hend
    | 10, _ =>
      refine lv_tableIn (tgt := 442) (off := 410) hx hb dL_law_32 (by decide) (by decide) (by decide) (by decide) ?_
      exact law_undo X hD hN ok rel hX hbl hi0 hi1 hL h hl hend
    | 11, _ =>
      refine lv_tableIn (tgt := 455) (off := 423) hx hb dL_law_32 (by decide) (by decide) (by decide) (by decide) ?_
      exact law_of X hD hN ok rel hX hbl hi0 hi1 hL h hl hend
    | 12, _ =>
      refine lv_tableIn (tgt := 488) (off := 456) hx hb dL_law_32 (by decide) (by decide) (by decide) (by decide) ?_
      exact law_about X hD hN ok rel hX hbl hi0 hi1 hL h hl hend
    | 13, _ =>
      refine lv_tableIn (tgt := 521) (off := 489) hx hb dL_law_32 (by decide) (by decide) (by decide) (by decide) ?_
      exact law_gives X hD hN ok rel hX hbl hi0 hi1 hL h hl hend
    | 14, _ =>
      refine lv_tableIn (tgt := 554) (off := 522) hx hb dL_law_32 (by decide) (by decide) (by decide) (by decide) ?_
      exact law_keeps X hD hN ok rel hX hbl hi0 hi1 hL h hl hend
    | 15, _ =>
      refine lv_tableIn (tgt := 587) (off := 555) hx hb dL_law_32 (by decide) (by decide) (by decide) (by decide) ?_
      exact law_when X hD hN ok rel hX hbl hi0 hi1 hL h hl hend
    | 16, _ =>
      refine lv_tableIn (tgt := 610) (off := 578) hx hb dL_law_32 (by decide) (by decide) (by decide) (by decide) ?_
      exact law_gone X hD hN ok rel hX hbl hi0 hi1 hL h hl hend
    | 17, _ =>
      refine lv_tableIn (tgt := 633) (off := 601) hx hb dL_law_32 (by decide) (by decide) (by decide) (by decide) ?_
      exact law_round X hD hN ok rel hX hbl hi0 hi1 hL h hl hend
    | 18, _ =>
      refine lv_tableIn (tgt := 676) (off := 644) hx hb dL_law_32 (by decide) (by decide) (by decide) (by decide) ?_
      exact law_few X hD hN ok rel hX hbl hi0 hi1 hL h hl hend
    | 19, _ =>
      refine lv_tableIn (tgt := 729) (off := 697) hx hb dL_law_32 (by decide) (by decide) (by decide) (by decide) ?_
      exact law_into X hD hN ok rel hX hbl hi0 hi1 hL h hl hend
    | 20, _ =>
      refine lv_tableIn (tgt := 772) (off := 740) hx hb dL_law_32 (by decide) (by decide) (by decide) (by decide) ?_
      exact law_note X hD hN ok rel hX hbl hi0 hi1 hL h hl hend
    | 21, _ =>
      refine lv_tableIn (tgt := 825) (off := 793) hx hb dL_law_32 (by decide) (by decide) (by decide) (by decide) ?_
      exact law_mark X hD hN ok rel hX hbl hi0 hi1 hL h hl hend
    | 22, _ =>
      refine lv_tableIn (tgt := 878) (off := 846) hx hb dL_law_32 (by decide) (by decide) (by decide) (by decide) ?_
      exact law_forget X hD hN ok rel hX hbl hi0 hi1 hL h hl hend
    | 23, _ =>
      refine lv_tableIn (tgt := 901) (off := 869) hx hb dL_law_32 (by decide) (by decide) (by decide) (by decide) ?_
      exact law_is X hD hN ok rel hX hbl hi0 hi1 hL h hl hend
    | 24, _ =>
      refine lv_tableIn (tgt := 924) (off := 892) hx hb dL_law_32 (by decide) (by decide) (by decide) (by decide) ?_
      exact law_look X hD hN ok rel hX hbl hi0 hi1 hL h hl hend
    | 25, _ =>
      refine lv_tableIn (tgt := 947) (off := 915) hx hb dL_law_32 (by decide) (by decide) (by decide) (by decide) ?_
      exact law_kinds X hD hN ok rel hX hbl hi0 hi1 hL h hl hend
    | 26, _ =>
      refine lv_tableIn (tgt := 970) (off := 938) hx hb dL_law_32 (by decide) (by decide) (by decide) (by decide) ?_
      exact law_ask X hD hN ok rel hX hbl hi0 hi1 hL h hl hend
    | 27, _ =>
      refine lv_tableIn (tgt := 993) (off := 961) hx hb dL_law_32 (by decide) (by decide) (by decide) (by decide) ?_
      exact law_two X hD hN ok rel hX hbl hi0 hi1 hL h hl hend
    | 28, _ =>
      refine lv_tableIn (tgt := 1016) (off := 984) hx hb dL_law_32 (by decide) (by decide) (by decide) (by decide) ?_
      exact law_spilt X hD hN ok rel hX hbl hi0 hi1 hL h hl hend
    | 29, _ =>
      refine lv_tableIn (tgt := 1069) (off := 1037) hx hb dL_law_32 (by decide) (by decide) (by decide) (by decide) ?_
      exact law_noons X hD hN ok rel hX hbl hi0 hi1 hL h hl hend
    | 30, _ =>
      refine lv_tableIn (tgt := 1102) (off := 1070) hx hb dL_law_32 (by decide) (by decide) (by decide) (by decide) ?_
      exact law_part X hD hN ok rel hX hbl hi0 hi1 hL h hl hend
    | 31, _ =>
      refine lv_tableIn (tgt := 1125) (off := 1093) hx hb dL_law_32 (by decide) (by decide) (by decide) (by decide) ?_
      obtain ⟨z1, ez1⟩ : ∃ z : Int32, i + 1 = z := ⟨_, rfl⟩
      by_cases h0 : xs z1.toNatClampNeg = 0
      · exact law_image0 X hD hN ok rel hX hbl hi0 hi1 hL h hl hend (fun z hz => by rw [← hz, ez1]; exact h0)
      · by_cases h1 : xs z1.toNatClampNeg = 1
        · exact law_image1 X hD hN ok rel hX hbl hi0 hi1 hL h hl hend (fun z hz => by rw [← hz, ez1]; exact h1)
        · have g0 : ¬ (xs z1.toNatClampNeg).toInt = 0 := fun e => h0 ((fa_eq _ _).mpr e)
          have g1 : ¬ (xs z1.toNatClampNeg).toInt = 1 := fun e => h1 ((fa_eq _ _).mpr e)
          exact law_imageN X hD hN ok rel hX hbl hi0 hi1 hL h hl hend (fun z hz => by rw [← hz, ez1]; omega)
    | 32, _ =>
      refine lv_tableIn (tgt := 1148) (off := 1116) hx hb dL_law_32 (by decide) (by decide) (by decide) (by decide) ?_
      obtain ⟨z1, ez1⟩ : ∃ z : Int32, i + 1 = z := ⟨_, rfl⟩
      by_cases h0 : xs z1.toNatClampNeg = 0
      · exact law_from0 X hD hN ok rel hX hbl hi0 hi1 hL h hl hend (fun z hz => by rw [← hz, ez1]; exact h0)
      · by_cases h1 : xs z1.toNatClampNeg = 1
        · exact law_from1 X hD hN ok rel hX hbl hi0 hi1 hL h hl hend (fun z hz => by rw [← hz, ez1]; exact h1)
        · have g0 : ¬ (xs z1.toNatClampNeg).toInt = 0 := fun e => h0 ((fa_eq _ _).mpr e)
          have g1 : ¬ (xs z1.toNatClampNeg).toInt = 1 := fun e => h1 ((fa_eq _ _).mpr e)
          exact law_fromN X hD hN ok rel hX hbl hi0 hi1 hL h hl hend (fun z hz => by rw [← hz, ez1]; omega)
    | 33, _ =>
      refine lv_tableIn (tgt := 1171) (off := 1139) hx hb dL_law_32 (by decide) (by decide) (by decide) (by decide) ?_
      exact law_status X hD hN ok rel hX hbl hi0 hi1 hL h hl hend
    | 34, _ =>
      refine lv_tableIn (tgt := 1194) (off := 1162) hx hb dL_law_32 (by decide) (by decide) (by decide) (by decide) ?_
      exact law_count X hD hN ok rel hX hbl hi0 hi1 hL h hl hend
    | 35, _ =>
      refine lv_tableIn (tgt := 1217) (off := 1185) hx hb dL_law_32 (by decide) (by decide) (by decide) (by decide) ?_
      exact law_digest X hD hN ok rel hX hbl hi0 hi1 hL h hl hend
    | j + 36, hj =>
      refine lv_tableOut (tgt := 1230) hx hb dL_law_32 (Or.inr (by rw [nI_toInt (by omega)]; omega)) (by decide) ?_
      exact hend w H locs ok rel h
