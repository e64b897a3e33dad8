/-! ===== what the two sides have in common between calls ===== -/
def REL (cZ : ClassId) (w : Nat → va_E) : Prop := (∃ z : Int32, pT (w 55) = .inr (5, [.int z]) ∧ pM (w 64) = .inr (7, [.int z])) ∧ ∃ f g : Nat → Int32, w 54 = .inl (cZ, 2, .inl f) ∧ w 67 = .inl (cZ, 2, .inl g) ∧ f 0 = g 0 ∧ f 1 = g 1
section RELS
variable {cZ : ClassId} {w w1 w2 : Nat → va_E}
theorem KT.c55 (k : KT w w1) : pT (w1 55) = pT (w 55) := k 55
theorem KT.c54 (k : KT w w1) : w1 54 = w 54 := k 54
theorem KT.c64 (k : KT w w1) : w1 64 = w 64 := k 64
theorem KT.c67 (k : KT w w1) : w1 67 = w 67 := k 67
theorem KN.c55 (k : KN w w1) : w1 55 = w 55 := k 55
theorem KN.c54 (k : KN w w1) : w1 54 = w 54 := k 54
theorem KN.c64 (k : KN w w1) : pM (w1 64) = pM (w 64) := k 64
theorem KN.c67 (k : KN w w1) : w1 67 = w 67 := k 67
theorem REL.kt (h : REL cZ w) (k : KT w w1) : REL cZ w1 := by
  obtain ⟨⟨z, a, b⟩, f, g, c, d, e1, e2⟩ := h
  exact ⟨⟨z, by rw [k.c55]; exact a, by rw [k.c64]; exact b⟩, f, g, by rw [k.c54]; exact c, by rw [k.c67]; exact d, e1, e2⟩
theorem REL.kn (h : REL cZ w) (k : KN w w1) : REL cZ w1 := by
  obtain ⟨⟨z, a, b⟩, f, g, c, d, e1, e2⟩ := h
  exact ⟨⟨z, by rw [k.c55]; exact a, by rw [k.c64]; exact b⟩, f, g, by rw [k.c54]; exact c, by rw [k.c67]; exact d, e1, e2⟩
theorem int1 {c : Nat} {x y : Int32} (h : (Sum.inr (c, [Value.int x]) : va_E) = .inr (c, [.int y])) : x = y := by
  injection h with h; injection h with _ h; injection h with h; injection h
theorem rel_type {z bl i r1 r2 : Int32} (h : REL cZ w) (e55 : pT (w 55) = .inr (5, [.int z])) (e64 : pM (w1 64) = .inr (7, [.int bl])) (k1 : KL w w1)
    (p1 : (¬ (0 ≤ i.toInt ∧ i.toInt ≤ 127) ∧ KT w w1 ∧ r1 = -2) ∨ ((0 ≤ i.toInt ∧ i.toInt ≤ 127) ∧ 150 ≤ z.toInt ∧ KT w w1 ∧ r1 = -4) ∨ ((0 ≤ i.toInt ∧ i.toInt ≤ 127) ∧ z.toInt < 150 ∧ r1 = z + 1 ∧ pT (w1 55) = .inr (5, [.int (z + 1)])))
    (k2 : KV w1 w2)
    (p2 : (¬ (0 ≤ i.toInt ∧ i.toInt ≤ 127) ∧ KN w1 w2 ∧ r2 = -2) ∨ ((0 ≤ i.toInt ∧ i.toInt ≤ 127) ∧ 150 ≤ bl.toInt ∧ KN w1 w2 ∧ r2 = -4) ∨ ((0 ≤ i.toInt ∧ i.toInt ≤ 127) ∧ bl.toInt < 150 ∧ r2 = bl + 1 ∧ pM (w2 64) = .inr (7, [.int (bl + 1)]))) : REL cZ w2 ∧ r1 = r2 := by
  have hh := h
  obtain ⟨⟨z0, a, b⟩, f, g, c, d, e1, e2⟩ := h
  have c64 : w1 64 = w 64 := k1 64 (by decide) (by decide)
  have hz : z0 = z := int1 (a.symm.trans e55)
  have hb : z0 = bl := int1 (by rw [← b, ← c64]; exact e64)
  subst hz; subst hb
  rcases p1 with ⟨q1, q2, q3⟩ | ⟨q1, q2, q3, q4⟩ | ⟨q1, q2, q3, q4⟩
  · rcases p2 with ⟨t1, t2, t3⟩ | ⟨t1, t2, t3, t4⟩ | ⟨t1, t2, t3, t4⟩
    · exact ⟨(hh.kt q2).kn t2, by rw [q3, t3]⟩
    · exact absurd t1 q1
    · exact absurd t1 q1
  · rcases p2 with ⟨t1, t2, t3⟩ | ⟨t1, t2, t3, t4⟩ | ⟨t1, t2, t3, t4⟩
    · exact absurd q1 t1
    · exact ⟨(hh.kt q3).kn t3, by rw [q4, t4]⟩
    · omega
  · rcases p2 with ⟨t1, t2, t3⟩ | ⟨t1, t2, t3, t4⟩ | ⟨t1, t2, t3, t4⟩
    · exact absurd q1 t1
    · omega
    · have d55 : w2 55 = w1 55 := k2 55 (by decide) (by decide)
      have d54 : w2 54 = w1 54 := k2 54 (by decide) (by decide)
      have d67 : w2 67 = w1 67 := k2 67 (by decide) (by decide)
      have c54 : w1 54 = w 54 := k1 54 (by decide) (by decide)
      have c67 : w1 67 = w 67 := k1 67 (by decide) (by decide)
      exact ⟨⟨⟨_, by rw [d55]; exact q4, t4⟩, f, g, by rw [d54, c54]; exact c, by rw [d67, c67]; exact d, e1, e2⟩, by rw [q3, t3]⟩
theorem rel_clear {z bl r1 r2 : Int32} (h : REL cZ w) (e55 : pT (w 55) = .inr (5, [.int z])) (e64 : pM (w1 64) = .inr (7, [.int bl])) (k1 : KL w w1) (p1 : z = r1 ∧ pT (w1 55) = .inr (5, [.int 0])) (k2 : KV w1 w2) (p2 : bl = r2 ∧ pM (w2 64) = .inr (7, [.int 0])) : REL cZ w2 ∧ r1 = r2 := by
  obtain ⟨⟨z0, a, b⟩, f, g, c, d, e1, e2⟩ := h
  have c64 : w1 64 = w 64 := k1 64 (by decide) (by decide)
  have hz : z0 = z := int1 (a.symm.trans e55)
  have hb : z0 = bl := int1 (by rw [← b, ← c64]; exact e64)
  have d55 : w2 55 = w1 55 := k2 55 (by decide) (by decide)
  have d54 : w2 54 = w1 54 := k2 54 (by decide) (by decide)
  have d67 : w2 67 = w1 67 := k2 67 (by decide) (by decide)
  have c54 : w1 54 = w 54 := k1 54 (by decide) (by decide)
  have c67 : w1 67 = w 67 := k1 67 (by decide) (by decide)
  exact ⟨⟨⟨0, by rw [d55]; exact p1.2, p2.2⟩, f, g, by rw [d54, c54]; exact c, by rw [d67, c67]; exact d, e1, e2⟩, by rw [← p1.1, ← p2.1, ← hz, ← hb]⟩
theorem arr1 {c : ClassId} {f g : Nat → Int32} (h : (Sum.inl (c, 2, Sum.inl f) : va_E) = .inl (c, 2, .inl g)) : f = g := by
  cases h; rfl
theorem rel_image {f g : Nat → Int32} {k : Nat} (hk : k = 0 ∨ k = 1) (h : REL cZ w) (e54 : w 54 = .inl (cZ, 2, .inl f)) (e67 : w1 67 = .inl (cZ, 2, .inl g)) (k1 : KI w w1) (p1 : w1 54 = .inl (cZ, 2, .inl (upd f k 1))) (k2 : KP w1 w2) (p2 : w2 67 = .inl (cZ, 2, .inl (upd g k 1))) : REL cZ w2 := by
  obtain ⟨⟨z0, a, b⟩, f0, g0, c, d, e1, e2⟩ := h
  have c67 : w1 67 = w 67 := k1 67 (by decide)
  have hf : f0 = f := arr1 (c.symm.trans e54)
  have hg : g0 = g := arr1 (by rw [← d, ← c67]; exact e67)
  subst hf; subst hg
  have c55 : pT (w1 55) = pT (w 55) := k1 55 (by decide)
  have c64 : w1 64 = w 64 := k1 64 (by decide)
  have d55 : w2 55 = w1 55 := k2 55 (by decide)
  have d54 : w2 54 = w1 54 := k2 54 (by decide)
  have d64 : pM (w2 64) = pM (w1 64) := k2 64 (by decide)
  refine ⟨⟨z0, by rw [d55, c55]; exact a, by rw [d64, c64]; exact b⟩, _, _, by rw [d54]; exact p1, p2, ?_, ?_⟩
  · rcases hk with rfl | rfl
    · rw [pk_us, pk_us]
    · rw [pk_un (by decide), pk_un (by decide)]; exact e1
  · rcases hk with rfl | rfl
    · rw [pk_un (by decide), pk_un (by decide)]; exact e2
    · rw [pk_us, pk_us]
end RELS
theorem wl_cong {n : Nat} {ad ad1 : Nat → Nat} {w : Nat → va_E} (h : ∀ k, k < n → ad k = ad1 k) : wl n ad w = wl n ad1 w := by
  unfold wl
  apply List.map_congr_left
  intro k hk
  rw [h k (List.mem_range.mp hk)]
theorem vk_S.cong {N : Nat} {len : List Nat} {byt : List (List Int32)} {aK aV bK bV : Nat → Nat} {A : Nat → Prop} {U : State} {H : Heap} (h1 : ∀ i, i < N → bK i = aK i) (h2 : ∀ i, i < N → bV i = aV i) (h : vk_S N len byt aK aV A U H) : vk_S N len byt bK bV A U H := by
  refine ⟨fun i hi => ?_, fun i j hi hj e => h.2 i j hi hj (by rw [← h1 i hi, ← h1 j hj]; exact e)⟩
  rw [h1 i hi, h2 i hi]
  exact h.1 i hi
def stm (i : Nat) : Term := .string "NoonShade$Text" (([128, 134, 136, 138, 140, 141] : List Nat).getD i 0)
theorem st_len : ∀ i : Nat, i < 6 → slen.getD i 0 < 2 ^ 31 := by decide +kernel
theorem st_ex : ∀ i : Nat, i < 6 → Cond.exactly (stm i) "java/lang/String" ∈ flatC (Jvm.Cond.and given_1 narrow_1) := by decide +kernel
theorem st_co : ∀ i : Nat, i < 6 → Cond.eq (.field (stm i) "java/lang/String" "coder" "B") (.int 0) ∈ flatC (Jvm.Cond.and given_1 narrow_1) := by decide +kernel
theorem st_ar : ∀ i : Nat, i < 6 → Cond.arrayOf (.field (stm i) "java/lang/String" "value" "[B") .byte ∈ flatC (Jvm.Cond.and given_1 narrow_1) := by decide +kernel
theorem st_le : ∀ i : Nat, i < 6 → Cond.eq (.length (.field (stm i) "java/lang/String" "value" "[B")) (.int (Int32.ofNat (slen.getD i 0))) ∈ flatC (Jvm.Cond.and given_1 narrow_1) := by decide +kernel
theorem st_el : ∀ i : Nat, i < 6 → ∀ j : Nat, j < slen.getD i 0 → Cond.eq (.elem (.field (stm i) "java/lang/String" "value" "[B") (.int (Int32.ofNat j))) (.int ((sbyt.getD i []).getD j 0)) ∈ flatC (Jvm.Cond.and given_1 narrow_1) := by decide +kernel
theorem st_ne : ∀ i : Nat, i < 6 → ∀ j : Nat, j < 6 → i ≠ j → Cond.not (Cond.eq (stm i) (stm j)) ∈ flatC (Jvm.Cond.and given_1 narrow_1) ∨ Cond.not (Cond.eq (stm j) (stm i)) ∈ flatC (Jvm.Cond.and given_1 narrow_1) := by decide +kernel
theorem st_cs : Cond.eq (.static "java/lang/String" "COMPACT_STRINGS" "Z") (.int 1) ∈ flatC (Jvm.Cond.and given_1 narrow_1) := by decide +kernel
theorem st_fm : Cond.isRef (.static "jdk/internal/util/Preconditions" "SIOOBE_FORMATTER" "Ljava/util/function/BiFunction;") ∈ flatC (Jvm.Cond.and given_1 narrow_1) := by decide +kernel
theorem st_sr : ∀ q ∈ sref, Cond.stringRef "NoonShade$Text" q.1 q.2.1 ∈ lw_tbl := by decide +kernel
theorem st_tm : ∀ q ∈ sref, q.2.2 < 6 ∧ stm q.2.2 = .string "NoonShade$Text" q.1 := by decide +kernel
theorem st_l1 : Cond.laysStatic "java/lang/String" "COMPACT_STRINGS" "Z" ∈ lw_tbl := in_t2 (List.mem_of_getElem? (i := 99) (by decide +kernel))
theorem st_l2 : Cond.laysStatic "jdk/internal/util/Preconditions" "SIOOBE_FORMATTER" "Ljava/util/function/BiFunction;" ∈ lw_tbl := in_t2 (List.mem_of_getElem? (i := 115) (by decide +kernel))
/-- the String constants at the law's entry -/
theorem ns_start {ad4 : Nat → Nat} {s : State} {b : Nat} (hN : NW s) (hts : ∀ w ∈ lw_tbl, w.before #[Value.ref b] s = true) (hgv : (Jvm.Cond.and given_1 narrow_1).before #[Value.ref b] s = true) (hi1 : Cond.initialized "java/lang/String" ∈ lw_tbl) (hi2 : Cond.initialized "jdk/internal/util/Preconditions" ∈ lw_tbl) :
    ∃ ad : Nat → Nat, (∀ k, k < 74 → ad k = ad4 k) ∧ NS ad (fun q => s.heap.size ≤ q) s s.heap := by
  have hs := flat_of_before _ hgv
  have hA : ∀ a : Nat, a < s.heap.size → ¬ (fun q => s.heap.size ≤ q) a := fun a h => Nat.not_le.mpr h
  obtain ⟨aK, aV, hS, hR⟩ := vk_Sof (N := 6) (tm := stm) (len := slen) (byt := sbyt) st_len (fun i h => hs _ (st_ex i h)) (fun i h => hs _ (st_co i h)) (fun i h => hs _ (st_ar i h)) (fun i h => hs _ (st_le i h)) (fun i h j hj => hs _ (st_el i h j hj)) (fun i j h1 h2 h3 => (st_ne i h1 j h2 h3).elim (fun q => Or.inl (hs _ q)) (fun q => Or.inr (hs _ q))) hA
  refine ⟨fun k => if k < 74 then ad4 k else if k < 110 then aK (k - 100) else aV (k - 110), fun k hk => if_pos hk, hN, vk_S.cong (fun i hi => ?_) (fun i hi => ?_) hS, fun q hq => ?_, va_Zof (hts _ st_l1) (hts _ hi1) (va_eqi (hs _ st_cs)) hA, va_Zqof (hts _ st_l2) (hts _ hi2) (hs _ st_fm) hA⟩
  · show (if 100 + i < 74 then _ else if 100 + i < 110 then aK (100 + i - 100) else _) = aK i
    rw [if_neg (by omega), if_pos (by omega), Nat.add_sub_cancel_left]
  · show (if 110 + i < 74 then _ else if 110 + i < 110 then _ else aV (110 + i - 110)) = aV i
    rw [if_neg (by omega), if_neg (by omega), Nat.add_sub_cancel_left]
  · obtain ⟨h6, ht⟩ := st_tm q hq
    have e : (fun k => if k < 74 then ad4 k else if k < 110 then aK (k - 100) else aV (k - 110)) (100 + q.2.2) = aK q.2.2 := by
      show (if 100 + q.2.2 < 74 then _ else if 100 + q.2.2 < 110 then aK (100 + q.2.2 - 100) else _) = aK q.2.2
      rw [if_neg (by omega), if_pos (by omega), Nat.add_sub_cancel_left]
    rw [e]
    exact vk_R.of (hts _ (st_sr q hq)) (by rw [← ht]; exact hR _ h6)
