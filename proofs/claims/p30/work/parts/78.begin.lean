set_option maxHeartbeats 4000000 in
set_option maxRecDepth 100000 in
theorem c_M_begin (l : Launch) (G : va_G) (cI cB cZ cO : ClassId) (ad : Nat → Nat) (w : Nat → va_E) (t : Int32) (pf65 : w 65 = .inl (cI, 177, .inl (fun _ => 0))) : MV l G (tyq cI cB cZ cO) yX9_begin cX9_begin 3 0 0 74 ad w [.ref (ad 65), .int t] (fun w1 => w1 65 = .inl (cI, 177, .inl (upd (fun _ => 0) 5 t)) ∧ ∀ k, k ≠ 65 → w1 k = w k) := by
  refine mk_v (own := "NoonShadeModel") rfl (by decide) (Nat.le_of_ble_eq_true rfl) ?_
  intro p e s m below meth c ls X hD hN hr hlk h hl
  have hx := X.1.1
  have hb := X.1.2.1
  have hown := X.1.2.2.2.1
  have hts := X.1.2.2.2.2
  have hl : lv_has ls 3 [(0, .ref (ad 65)), (1, .int t)] := hl
  refine lv_iconst (v := 0) hx hb dX9_begin_0 (by decide) ?_
  refine lv_istore_n (lv' := [(2, .int 0), (0, .ref (ad 65)), (1, .int t)]) hx hb dX9_begin_1 rfl hl (by decide) rfl (fun ls hl => ?_)
  have hloop1 : ∀ (d : Nat) (k : Int32) (wL : Nat → va_E) (H : Heap) (locs : List Loc) (ls : Array Slot), 0 ≤ k.toInt → k.toInt ≤ 89 → wL 65 = .inl (cI, 177, .inl (fun _ => 0)) → (∀ k, k ≠ 65 → wL k = w k) → 89 - k.toInt < (d : Int) → St G 74 ad (wA 74 ad s.heap.size) s.heap wL H locs → lv_has ls 3 [(0, .ref (ad 65)), (1, .int t), (2, .int k)] → W p l e { frames := 0, cells := 0, slots := 0, locals := 0 } s m [.ref (ad 65), .int t].toArray below meth c H locs 0 0 (MQ below (va_Qv (fun w1 => w1 65 = .inl (cI, 177, .inl (upd (fun _ => 0) 5 t)) ∧ ∀ k, k ≠ 65 → w1 k = w k) (Aft G 74 ad) (wA 74 ad s.heap.size)) [.ref (ad 65), .int t].toArray s 0 0 (wA 74 ad s.heap.size)) (F0 m 2 ls []) := by
    intro d
    induction d with
    | zero => intro k wL H locs ls hk0 hk1 g65 hfr hm h hl; exfalso; omega
    | succ d ih =>
      intro k wL H locs ls hk0 hk1 g65 hfr hm h hl
      refine lv_iload_n hx hb dX9_begin_2 rfl (lv_at hl 2 rfl) ?_
      refine lv_bipush (v := 89) hx hb dX9_begin_3 (by decide) ?_
      refine lv_icmp_ge (tgt := 18) hx hb dX9_begin_5 (by decide) (fun hc2 => ?_) (fun hc2 => ?_)
      · have hc2 : 89 ≤ (k).toInt := i_le hc2 rfl rfl
        refine lv_aload_n hx hb dX9_begin_18 rfl (lv_at hl 0 rfl) ?_
        refine lv_iconst (v := 5) hx hb dX9_begin_19 (by decide) ?_
        refine lv_iload_n hx hb dX9_begin_20 rfl (lv_at hl 1 rfl) ?_
        refine o_iast (f1 := upd (fun _ => 0) 5 t) X hD h 65 0 (by decide) rfl g65 rfl (by unfold vp_in; decide) rfl dX9_begin_21 (fun H locs w3 e4 h => ?_)
        have f5 : w3 65 = .inl (cI, 177, .inl (upd (fun _ => 0) 5 t)) := (congrFun e4 _).trans (va_up_self _ _ _)
        exact e_v X h hr hlk dX9_begin_22 ⟨f5, fun k h1 => ((congrFun e4 k).trans (va_up_ne _ _ (by omega))).trans (hfr k (by omega))⟩
      · have hc2 : ¬ 89 ≤ (k).toInt := i_nle hc2 rfl rfl
        refine lv_aload_n hx hb dX9_begin_8 rfl (lv_at hl 0 rfl) ?_
        refine lv_iload_n hx hb dX9_begin_9 rfl (lv_at hl 2 rfl) ?_
        refine lv_iconst (v := 0) hx hb dX9_begin_10 (by decide) ?_
        refine o_iast (f1 := fun _ => 0) X hD h 65 0 (by decide) rfl g65 rfl (in_of (by omega) (by omega)) (upd0 _) dX9_begin_11 (fun H locs w6 e7 h => ?_)
        have f8 : w6 65 = .inl (cI, 177, .inl (fun _ => 0)) := (congrFun e7 _).trans (va_up_self _ _ _)
        refine lv_iinc (v := k + 1) (lv' := [(2, .int (k + 1)), (0, .ref (ad 65)), (1, .int t)]) hx hb dX9_begin_12 hl (k := 2) rfl rfl (by decide) rfl (fun ls hl => ?_)
        refine lv_goto (tgt := 2) hx hb dX9_begin_15 (by decide) ?_
        have hi : (k + 1).toInt = k.toInt + 1 := inc1 (by omega) (by omega)
        exact ih (k + 1) w6 _ _ _ (by omega) (by omega) f8 (fun k h0 => ((congrFun e7 k).trans (va_up_ne _ _ (by omega))).trans (hfr k (by omega))) (by omega) h (lv_sub hl [1, 2, 0] rfl)
  exact hloop1 90 0 w _ _ _ (by decide) (by decide) pf65 (fun k _ => rfl) (by have : (0 : Int32).toInt = 0 := rfl; omega) h (lv_sub hl [1, 2, 0] rfl)

