theorem fr0_cong {cI cB cZ cO : ClassId} {ad ad1 : Nat → Nat} (h : ∀ k, k < 64 → ad1 k = ad k) : ∀ k, k < 64 → fr0 cI cB cZ cO ad1 k = fr0 cI cB cZ cO ad k := by
  intro k hk
  match k, hk with
  | 0, _ => show (.inr (6, [.ref (ad1 1), .ref (ad1 14), .ref (ad1 27), .ref (ad1 54), .ref (ad1 55), .ref (ad1 58), .ref (ad1 62), .long 0, .long 1, .int 0, .int 0, .int 0]) : va_E) = .inr (6, [.ref (ad 1), .ref (ad 14), .ref (ad 27), .ref (ad 54), .ref (ad 55), .ref (ad 58), .ref (ad 62), .long 0, .long 1, .int 0, .int 0, .int 0]); rw [h 1 (by decide), h 14 (by decide), h 27 (by decide), h 54 (by decide), h 55 (by decide), h 58 (by decide), h 62 (by decide)]
  | 1, _ => show (.inr (1, [.int 0, .int 0, .int 0, .int 0, .int 0, .ref (ad1 2), .ref (ad1 3), .ref (ad1 4), .ref (ad1 5), .ref (ad1 6), .ref (ad1 7), .ref (ad1 8), .ref (ad1 10), .ref (ad1 12)]) : va_E) = .inr (1, [.int 0, .int 0, .int 0, .int 0, .int 0, .ref (ad 2), .ref (ad 3), .ref (ad 4), .ref (ad 5), .ref (ad 6), .ref (ad 7), .ref (ad 8), .ref (ad 10), .ref (ad 12)]); rw [h 2 (by decide), h 3 (by decide), h 4 (by decide), h 5 (by decide), h 6 (by decide), h 7 (by decide), h 8 (by decide), h 10 (by decide), h 12 (by decide)]
  | 2, _ => rfl
  | 3, _ => rfl
  | 4, _ => rfl
  | 5, _ => rfl
  | 6, _ => rfl
  | 7, _ => rfl
  | 8, _ => show (.inr (4, [.ref (ad1 9), .int 0]) : va_E) = .inr (4, [.ref (ad 9), .int 0]); rw [h 9 (by decide)]
  | 9, _ => rfl
  | 10, _ => show (.inr (4, [.ref (ad1 11), .int 0]) : va_E) = .inr (4, [.ref (ad 11), .int 0]); rw [h 11 (by decide)]
  | 11, _ => rfl
  | 12, _ => show (.inr (2, [.ref (ad1 13), .int 0]) : va_E) = .inr (2, [.ref (ad 13), .int 0]); rw [h 13 (by decide)]
  | 13, _ => rfl
  | 14, _ => show (.inr (1, [.int 0, .int 0, .int 0, .int 0, .int 0, .ref (ad1 15), .ref (ad1 16), .ref (ad1 17), .ref (ad1 18), .ref (ad1 19), .ref (ad1 20), .ref (ad1 21), .ref (ad1 23), .ref (ad1 25)]) : va_E) = .inr (1, [.int 0, .int 0, .int 0, .int 0, .int 0, .ref (ad 15), .ref (ad 16), .ref (ad 17), .ref (ad 18), .ref (ad 19), .ref (ad 20), .ref (ad 21), .ref (ad 23), .ref (ad 25)]); rw [h 15 (by decide), h 16 (by decide), h 17 (by decide), h 18 (by decide), h 19 (by decide), h 20 (by decide), h 21 (by decide), h 23 (by decide), h 25 (by decide)]
  | 15, _ => rfl
  | 16, _ => rfl
  | 17, _ => rfl
  | 18, _ => rfl
  | 19, _ => rfl
  | 20, _ => rfl
  | 21, _ => show (.inr (4, [.ref (ad1 22), .int 0]) : va_E) = .inr (4, [.ref (ad 22), .int 0]); rw [h 22 (by decide)]
  | 22, _ => rfl
  | 23, _ => show (.inr (4, [.ref (ad1 24), .int 0]) : va_E) = .inr (4, [.ref (ad 24), .int 0]); rw [h 24 (by decide)]
  | 24, _ => rfl
  | 25, _ => show (.inr (2, [.ref (ad1 26), .int 0]) : va_E) = .inr (2, [.ref (ad 26), .int 0]); rw [h 26 (by decide)]
  | 26, _ => rfl
  | 27, _ => show (.inl (cO, 2, .inr (.inr (.inr (.inr (fun k => if k = 0 then some (ad1 28) else if k = 1 then some (ad1 41) else none))))) : va_E) = .inl (cO, 2, .inr (.inr (.inr (.inr (fun k => if k = 0 then some (ad 28) else if k = 1 then some (ad 41) else none))))); rw [h 28 (by decide), h 41 (by decide)]
  | 28, _ => show (.inr (1, [.int 0, .int 0, .int 0, .int 0, .int 0, .ref (ad1 29), .ref (ad1 30), .ref (ad1 31), .ref (ad1 32), .ref (ad1 33), .ref (ad1 34), .ref (ad1 35), .ref (ad1 37), .ref (ad1 39)]) : va_E) = .inr (1, [.int 0, .int 0, .int 0, .int 0, .int 0, .ref (ad 29), .ref (ad 30), .ref (ad 31), .ref (ad 32), .ref (ad 33), .ref (ad 34), .ref (ad 35), .ref (ad 37), .ref (ad 39)]); rw [h 29 (by decide), h 30 (by decide), h 31 (by decide), h 32 (by decide), h 33 (by decide), h 34 (by decide), h 35 (by decide), h 37 (by decide), h 39 (by decide)]
  | 29, _ => rfl
  | 30, _ => rfl
  | 31, _ => rfl
  | 32, _ => rfl
  | 33, _ => rfl
  | 34, _ => rfl
  | 35, _ => show (.inr (4, [.ref (ad1 36), .int 0]) : va_E) = .inr (4, [.ref (ad 36), .int 0]); rw [h 36 (by decide)]
  | 36, _ => rfl
  | 37, _ => show (.inr (4, [.ref (ad1 38), .int 0]) : va_E) = .inr (4, [.ref (ad 38), .int 0]); rw [h 38 (by decide)]
  | 38, _ => rfl
  | 39, _ => show (.inr (2, [.ref (ad1 40), .int 0]) : va_E) = .inr (2, [.ref (ad 40), .int 0]); rw [h 40 (by decide)]
  | 40, _ => rfl
  | 41, _ => show (.inr (1, [.int 0, .int 0, .int 0, .int 0, .int 0, .ref (ad1 42), .ref (ad1 43), .ref (ad1 44), .ref (ad1 45), .ref (ad1 46), .ref (ad1 47), .ref (ad1 48), .ref (ad1 50), .ref (ad1 52)]) : va_E) = .inr (1, [.int 0, .int 0, .int 0, .int 0, .int 0, .ref (ad 42), .ref (ad 43), .ref (ad 44), .ref (ad 45), .ref (ad 46), .ref (ad 47), .ref (ad 48), .ref (ad 50), .ref (ad 52)]); rw [h 42 (by decide), h 43 (by decide), h 44 (by decide), h 45 (by decide), h 46 (by decide), h 47 (by decide), h 48 (by decide), h 50 (by decide), h 52 (by decide)]
  | 42, _ => rfl
  | 43, _ => rfl
  | 44, _ => rfl
  | 45, _ => rfl
  | 46, _ => rfl
  | 47, _ => rfl
  | 48, _ => show (.inr (4, [.ref (ad1 49), .int 0]) : va_E) = .inr (4, [.ref (ad 49), .int 0]); rw [h 49 (by decide)]
  | 49, _ => rfl
  | 50, _ => show (.inr (4, [.ref (ad1 51), .int 0]) : va_E) = .inr (4, [.ref (ad 51), .int 0]); rw [h 51 (by decide)]
  | 51, _ => rfl
  | 52, _ => show (.inr (2, [.ref (ad1 53), .int 0]) : va_E) = .inr (2, [.ref (ad 53), .int 0]); rw [h 53 (by decide)]
  | 53, _ => rfl
  | 54, _ => rfl
  | 55, _ => show (.inr (5, [.ref (ad1 56), .ref (ad1 57), .int 0, .int 0, .int 0, .int 0, .int 0]) : va_E) = .inr (5, [.ref (ad 56), .ref (ad 57), .int 0, .int 0, .int 0, .int 0, .int 0]); rw [h 56 (by decide), h 57 (by decide)]
  | 56, _ => rfl
  | 57, _ => rfl
  | 58, _ => show (.inr (3, [.ref (ad1 59), .ref (ad1 60), .ref (ad1 61), .int 0, .int 0, .int 0]) : va_E) = .inr (3, [.ref (ad 59), .ref (ad 60), .ref (ad 61), .int 0, .int 0, .int 0]); rw [h 59 (by decide), h 60 (by decide), h 61 (by decide)]
  | 59, _ => rfl
  | 60, _ => rfl
  | 61, _ => rfl
  | 62, _ => show (.inr (0, [.ref (ad1 63)]) : va_E) = .inr (0, [.ref (ad 63)]); rw [h 63 (by decide)]
  | 63, _ => rfl
  | k + 64, hk => exact absurd hk (Nat.not_lt.mpr (Nat.le_add_left _ _))
set_option maxHeartbeats 4000000 in
set_option maxRecDepth 100000 in
/-- THE LAW, from its entry -/
theorem whole_start {p : Program} {e : Env} {s : State} {m : MethodId} {below : List Frame} {meth : Method} {c : Code} (l : Launch) (hflags : l.flags = flags0) {b L : Nat} {xs : Nat → Int32} (hL : L ≤ 2560) (C0 : lw_At p s m meth c b L xs) : W p l e room_1 s m #[Value.ref b] below meth c s.heap [] 0 0 (lw_Z below #[Value.ref b] s) (entryFrame m ([Value.ref b] : List Value).toArray 4) := by
  obtain ⟨hx, hb, hr, hml, hown, hts, hXs, hbl, hlocks, hgv⟩ := id C0
  obtain ⟨c0, iS0, hKn0⟩ := u_known (C := "NoonShade$Guess") (T := TX1) (N := 1) (n := 1) hts kt1 (hts _ (gtb_sub _ kv_1007))
  obtain ⟨c1, iS1, hKn1⟩ := u_known (C := "NoonShade$Isle") (T := TX2) (N := 14) (n := 14) hts kt2 (hts _ (gtb_sub _ kv_1008))
  obtain ⟨c2, iS2, hKn2⟩ := u_known (C := "NoonShade$Past") (T := TX4) (N := 2) (n := 2) hts kt4 (hts _ (gtb_sub _ kv_1009))
  obtain ⟨c3, iS3, hKn3⟩ := u_known (C := "NoonShade$Plan") (T := TX5) (N := 6) (n := 6) hts kt5 (hts _ (gtb_sub _ kv_1010))
  obtain ⟨c4, iS4, hKn4⟩ := u_known (C := "NoonShade$Rows") (T := TX6) (N := 2) (n := 2) hts kt6 (hts _ (gtb_sub _ kv_1011))
  obtain ⟨c5, iS5, hKn5⟩ := u_known (C := "NoonShade$Text") (T := TX7) (N := 7) (n := 7) hts kt7 (hts _ (gtb_sub _ kv_1012))
  obtain ⟨c6, iS6, hKn6⟩ := u_known (C := "NoonShade") (T := TX8) (N := 12) (n := 12) hts kt8 (hts _ (gtb_sub _ kv_1013))
  obtain ⟨c7, iS7, hKn7⟩ := u_known (C := "NoonShadeModel") (T := TX9) (N := 17) (n := 17) hts kt9 (hts _ (gtb_sub _ kv_1014))
  obtain ⟨dC, dI, hKc⟩ : ∃ (dC : Nat → ClassId) (dI : Nat → Nat → Nat), ∀ (k : Nat) (q : vw_C), vwCl[k]? = some q → u_Kn s q.1 q.2.1 q.2.2 (dC k) (dI k) := by
    refine ⟨fun k => match k with | 0 => c0 | 1 => c1 | 2 => c2 | 3 => c3 | 4 => c4 | 5 => c5 | 6 => c6 | _ => c7, fun k => match k with | 0 => iS0 | 1 => iS1 | 2 => iS2 | 3 => iS3 | 4 => iS4 | 5 => iS5 | 6 => iS6 | _ => iS7, ?_⟩
    intro k q hq
    match k, hq with
    | 0, hq => cases hq; exact hKn0
    | 1, hq => cases hq; exact hKn1
    | 2, hq => cases hq; exact hKn2
    | 3, hq => cases hq; exact hKn3
    | 4, hq => cases hq; exact hKn4
    | 5, hq => cases hq; exact hKn5
    | 6, hq => cases hq; exact hKn6
    | 7, hq => cases hq; exact hKn7
    | k + 8, hq => simp [vwCl] at hq
  obtain ⟨cI, kI, pI, aI1, aI2, aI3⟩ := Cond.arrayClass_spec (hts _ (gtb_sub _ kv_1015))
  obtain ⟨cB, kB, pB, aB1, aB2, aB3⟩ := Cond.arrayClass_spec (hts _ (gtb_sub _ kv_1016))
  obtain ⟨cZ, kZ, pZ, aZ1, aZ2, aZ3⟩ := Cond.arrayClass_spec (hts _ (gtb_sub _ kv_1017))
  have hAO : (Cond.arrayOver (.object "NoonShade$Isle")).before #[Value.ref b] s = true := hts _ (in_t1 (List.mem_of_getElem? (i := 131) (by decide +kernel)))
  obtain ⟨pO, cO, kO, aO1, aO2, aO3, aO4, aO5⟩ := Cond.arrayOver_spec hAO
  have hK : va_K (dC, dI) vwCl (tyq cI cB cZ cO) s := by
    refine ⟨hKc, fun k q hq => ?_⟩
    match k, hq with
    | 0, hq => cases hq; exact ⟨fun n z => ⟨fun k h => (by cases h), kI, aI2, pI, aI3⟩, aI1⟩
    | 1, hq => cases hq; exact ⟨fun n z => ⟨fun k h => (by cases h), kB, aB2, pB, aB3⟩, aB1⟩
    | 2, hq => cases hq; exact ⟨fun n z => ⟨fun k h => (by cases h), kZ, aZ2, pZ, aZ3⟩, aZ1⟩
    | 3, hq => cases hq; exact ⟨fun n z => ⟨fun k h => (by cases h), kO, aO3, pO, aO4⟩, kO, pO, aO3, aO4, aO1, aO5⟩
    | k + 4, hq => simp [tyq] at hq
  have X : Fx p m c code 4 s #[Value.ref b] "NoonShadeLaw" (dC, dI) (tyq cI cB cZ cO) (fun q => s.heap.size ≤ q) := ⟨⟨hx, hb, hml, hown, fun w h => hts w (gtb_sub w h)⟩, hK, fun _ h => h⟩
  have hN : NW s := ⟨fun q hq => va_Nw.of rfl (hts _ (nw_in q hq)), va_AO.of hAO⟩
  have hD : WD (fun q => s.heap.size ≤ q) 0 (fun _ => 0) := ⟨fun i j h => absurd h (Nat.not_lt_zero _), fun k h => absurd h (Nat.not_lt_zero _)⟩
  have h : St (dC, dI) 0 (fun _ => 0) (fun q => s.heap.size ≤ q) s.heap (fun _ => .inr (0, [])) s.heap [] := ⟨fun k q h => by simp [wl] at h, va_S.rf⟩
  have hl := lv_entry ([.ref b]) (n := 4) (Nat.le_of_ble_eq_true rfl)
  rw [lg_entry_eq]
  generalize (lg_sl ([.ref b]) ++ List.replicate (4 - (lg_sl ([.ref b])).length) Slot.unset).toArray = ls at hl ⊢
  have hl : lv_has ls 4 [(0, .ref b)] := hl
  refine r_new kc8 (fs := [.null, .null, .null, .null, .null, .null, .null, .long 0, .long 0, .int 0, .int 0, .int 0]) (n1 := 1) (c1 := 1) (s1 := 12) X hD h kv_1018 kv_1013 kv_212 (by decide +kernel) rfl rfl rfl (Nat.le_of_ble_eq_true rfl) (Nat.le_of_ble_eq_true rfl) dL_law_0 (fun q0 ad1 w1 H ea1 ew1 hD h => ?_)
  have a1 : ad1 0 = q0 := (congrFun ea1 _).trans (va_up_self _ _ _)
  have f1 : w1 0 = .inr (6, [.null, .null, .null, .null, .null, .null, .null, .long 0, .long 0, .int 0, .int 0, .int 0]) := (congrFun ew1 _).trans (va_up_self _ _ _)
  refine lv_dup hx hb dL_law_3 rfl ?_
  refine q_A (na := 0) (As := []) (rest := [.ref q0]) X hD hN h (c_X_init l _ cI cB cZ cO ad1 w1 q0 a1 f1) kv_1019 kv_1020 kv_212 kv_1021 rfl ⟨by decide, by decide, by decide⟩ ⟨Nat.le_of_ble_eq_true rfl, Nat.le_of_ble_eq_true rfl⟩ ⟨Nat.le_of_ble_eq_true rfl, Nat.le_of_ble_eq_true rfl⟩ rfl hl.1 rfl (Nat.le_of_ble_eq_true rfl) dL_law_4 (fun ad2 w2 H locs ho2 hp2 hD h => ?_)
  refine W.widen (k := 64) (n := 1221) (Nat.le_refl _) (Nat.le_refl _) ?_
  have a2 : ad2 0 = q0 := (ho2 0 (by decide)).trans a1
  refine lv_astore_n (lv' := [(1, .ref q0), (0, .ref b)]) hx hb dL_law_7 rfl hl (by decide) rfl (fun ls hl => ?_)
  refine r_new kc9 (fs := [.null, .null, .null, .null, .long 0, .long 0, .null, .int 0, .null, .null, .int 0, .int 0, .int 0, .int 0, .int 0, .null, .null]) (n1 := 65) (c1 := 65) (s1 := 1238) X hD h kv_1022 kv_1014 kv_470 (by decide +kernel) rfl rfl rfl (Nat.le_of_ble_eq_true rfl) (Nat.le_of_ble_eq_true rfl) dL_law_8 (fun q1 ad3 w3 H ea3 ew3 hD h => ?_)
  have a3 : ad3 64 = q1 := (congrFun ea3 _).trans (va_up_self _ _ _)
  have f3 : w3 64 = .inr (7, [.null, .null, .null, .null, .long 0, .long 0, .null, .int 0, .null, .null, .int 0, .int 0, .int 0, .int 0, .int 0, .null, .null]) := (congrFun ew3 _).trans (va_up_self _ _ _)
  refine lv_dup hx hb dL_law_11 rfl ?_
  refine q_A (na := 0) (As := []) (rest := [.ref q1]) X hD hN h (c_M_init l _ cI cB cZ cO ad3 w3 q1 a3 f3) kv_1023 kv_1024 kv_470 kv_1025 rfl ⟨by decide, by decide, by decide⟩ ⟨Nat.le_of_ble_eq_true rfl, Nat.le_of_ble_eq_true rfl⟩ ⟨Nat.le_of_ble_eq_true rfl, Nat.le_of_ble_eq_true rfl⟩ rfl hl.1 rfl (Nat.le_of_ble_eq_true rfl) dL_law_12 (fun ad4 w4 H locs ho4 hp4 hD h => ?_)
  refine W.widen (k := 74) (n := 2063) (Nat.le_of_ble_eq_true rfl) (Nat.le_of_ble_eq_true rfl) ?_
  have hk43 : ∀ k, k < 64 → ad4 k = ad2 k := fun k hk => (ho4 k (by omega)).trans ((congrFun ea3 k).trans (va_up_ne _ _ (by omega)))
  have F : ∀ k, k < 74 → w4 k = fr0 cI cB cZ cO ad4 k := by
    intro k hk
    rcases Nat.lt_or_ge k 64 with g | g
    · rw [hp4.2 k g, fr0_cong hk43 k g, ← hp2.1 k g (Nat.zero_le _), ew3, va_up_ne _ _ (by omega)]
    · exact hp4.1 k hk g
  refine lv_astore_n (lv' := [(2, .ref q1), (1, .ref q0), (0, .ref b)]) hx hb dL_law_15 rfl hl (by decide) rfl (fun ls hl => ?_)
  refine lv_iconst (v := 0) hx hb dL_law_16 (by decide) ?_
  refine lv_istore_n (lv' := [(3, .int 0), (2, .ref q1), (1, .ref q0), (0, .ref b)]) hx hb dL_law_17 rfl hl (by decide) rfl (fun ls hl => ?_)
  obtain ⟨ad, had, hNS⟩ := ns_start (ad4 := ad4) hN hts hgv (gtb_sub _ kv_356) (gtb_sub _ kv_361)
  have h : St (dC, dI) 74 ad (fun q => s.heap.size ≤ q) s.heap w4 H locs := ⟨by rw [wl_cong had]; exact h.1, h.2⟩
  have hD : WD (fun q => s.heap.size ≤ q) 74 ad := ⟨fun i j hi hj e => hD.1 i j hi hj (by rw [← had i hi, ← had j hj]; exact e), fun k hk => by rw [had k hk]; exact hD.2 k hk⟩
  have F2 : ∀ k, k < 74 → w4 k = fr0 cI cB cZ cO ad k := fun k hk => (F k hk).trans (fr0_cong74 had k hk).symm
  have a4 : ad 0 = q0 := (had 0 (by decide)).trans ((hk43 0 (by decide)).trans a2)
  have a5 : ad 64 = q1 := (had 64 (by decide)).trans ((ho4 64 (by decide)).trans a3)
  have hl : lv_has ls 4 [(0, .ref b), (1, .ref (ad 0)), (2, .ref (ad 64)), (3, .int 0)] := by rw [a4, a5]; exact lv_sub hl [3, 2, 1, 0] rfl
  exact law_loop hL C0 X hD hNS 2561 0 w4 H locs ls (by decide) (by decide) (by decide) (ok_eq ok_fresh F2) (rel_eq rel_fresh F2) h hl
