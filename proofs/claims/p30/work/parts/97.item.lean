/-! ===== an item of a text, as a function of its place and of the row ===== -/
def iv (x : Int) : Int32 := Int32.ofInt x
theorem iv_of {d : Int32} {x : Int} (h : x = d.toInt) : iv x = d := by rw [h]; exact Int32.ofInt_toInt d
def numK (bs : Nat → Int32) (len p : Nat) (lo hi : Int) : Prop := tK bs len p = 2 ∧ lo ≤ tV bs len p ∧ tV bs len p ≤ hi
noncomputable def pick {α : Type} (c : Prop) (a b : α) : α := @ite α c (Classical.propDecidable c) a b
theorem pick_y {α : Type} {c : Prop} {a b : α} (h : c) : pick c a b = a := if_pos h
theorem pick_n {α : Type} {c : Prop} {a b : α} (h : ¬ c) : pick c a b = b := if_neg h
noncomputable def stopF (bs : Nat → Int32) (len p : Nat) (G : Nat → Int32) : Nat ⊕ (Nat × (Nat → Int32)) := pick (tK bs len p = 3) (.inr (tE bs len p, G)) (.inl (tS bs len p))
/-- the items, from behind their word -/
noncomputable def it0 (bs : Nat → Int32) (len p : Nat) (_ : Nat → Int32) : Nat ⊕ (Nat × (Nat → Int32)) := pick (numK bs len p 0 99) (stopF bs len (tE bs len p) (begF (iv (tV bs len p)))) (.inl (tS bs len p))
noncomputable def it1 (bs : Nat → Int32) (len p : Nat) (G : Nat → Int32) : Nat ⊕ (Nat × (Nat → Int32)) := pick (numK bs len p 0 5) (pick (numK bs len (tE bs len p) 1 9) (pick (numK bs len (tE bs len (tE bs len p)) 0 3) (stopF bs len (tE bs len (tE bs len (tE bs len p))) (layCF G (iv (tV bs len p)) (iv (tV bs len (tE bs len p))) (iv (tV bs len (tE bs len (tE bs len p)))))) (.inl (tS bs len (tE bs len (tE bs len p))))) (.inl (tS bs len (tE bs len p)))) (.inl (tS bs len p))
noncomputable def it2 (bs : Nat → Int32) (len p : Nat) (G : Nat → Int32) : Nat ⊕ (Nat × (Nat → Int32)) := pick (numK bs len p 0 5) (stopF bs len (tE bs len p) (layJF G (iv (tV bs len p)))) (.inl (tS bs len p))
noncomputable def it3 (bs : Nat → Int32) (len p : Nat) (G : Nat → Int32) : Nat ⊕ (Nat × (Nat → Int32)) := pick (numK bs len p 0 ((G 0).toInt - 1) ∧ bitF (G 7) (iv (tV bs len p)) = 0) (pick (numK bs len (tE bs len p) 0 ((G 1).toInt - 1)) (stopF bs len (tE bs len (tE bs len p)) (goLaF G (iv (tV bs len p)) (iv (tV bs len (tE bs len p))).toNatClampNeg)) (.inl (tS bs len (tE bs len p)))) (.inl (tS bs len p))
noncomputable def it4 (bs : Nat → Int32) (len p : Nat) (G : Nat → Int32) : Nat ⊕ (Nat × (Nat → Int32)) := pick (numK bs len p 0 ((G 1).toInt - 1) ∧ ¬ (G (8 + (iv (tV bs len p)).toNatClampNeg)).toInt = 0) (pick (numK bs len (tE bs len p) 0 ((G 1).toInt - 1) ∧ ¬ tV bs len (tE bs len p) = tV bs len p) (stopF bs len (tE bs len (tE bs len p)) (goPoF G (iv (tV bs len p)).toNatClampNeg (iv (tV bs len (tE bs len p))).toNatClampNeg)) (.inl (tS bs len (tE bs len p)))) (.inl (tS bs len p))
noncomputable def it5 (bs : Nat → Int32) (len p : Nat) (G : Nat → Int32) : Nat ⊕ (Nat × (Nat → Int32)) := pick (numK bs len p 1 99) (stopF bs len (tE bs len p) (goHsF (iv (tV bs len p)).toNatClampNeg G)) (.inl (tS bs len p))
/-- the word at p: its number, or -1 -/
noncomputable def wdF (bs : Nat → Int32) (s e : Int) : Int := pick (wB bs s e 0) 0 (pick (wB bs s e 1) 1 (pick (wB bs s e 2) 2 (pick (wB bs s e 3) 3 (pick (wB bs s e 4) 4 (pick (wB bs s e 5) 5 (-1))))))
noncomputable def wdAt (bs : Nat → Int32) (len p : Nat) : Int := pick (tK bs len p = 1) (wdF bs (tS bs len p) (tE bs len p)) (-1)
noncomputable def itemF (bs : Nat → Int32) (len p : Nat) (G : Nat → Int32) (first : Prop) : Nat ⊕ (Nat × (Nat → Int32)) :=
  pick (wdAt bs len p = 0 ∧ first) (it0 bs len (tE bs len p) G)
  (pick (wdAt bs len p = 1 ∧ ¬ first ∧ (G 0).toInt < 7) (it1 bs len (tE bs len p) G)
  (pick (wdAt bs len p = 2 ∧ ¬ first ∧ (G 1).toInt < 4) (it2 bs len (tE bs len p) G)
  (pick (wdAt bs len p = 3 ∧ ¬ first) (it3 bs len (tE bs len p) G)
  (pick (wdAt bs len p = 4 ∧ ¬ first) (it4 bs len (tE bs len p) G)
  (pick (wdAt bs len p = 5 ∧ ¬ first) (it5 bs len (tE bs len p) G)
  (.inl (tS bs len p)))))))
noncomputable def runF (bs : Nat → Int32) (len : Nat) : Nat → Nat → (Nat → Int32) → Nat → Int × (Nat → Int32)
  | 0, _, G, _ => (0, G)
  | n + 1, p, G, items => pick (tK bs len p = 0 ∧ 0 < items) ((items : Int), G) (match itemF bs len p G (items = 0) with | .inl s => (-10 - (s : Int), G) | .inr q => runF bs len n q.1 q.2 (items + 1))
theorem w_one : ∀ i, i < 6 → ∀ j, j < 6 → slen.getD i 0 = slen.getD j 0 → (sbyt.getD i []).getD 0 0 = (sbyt.getD j []).getD 0 0 → i = j := by decide +kernel
theorem w_pos : ∀ i, i < 6 → 0 < slen.getD i 0 := by decide +kernel
theorem wB_one {bs : Nat → Int32} {s e : Int} {i j : Nat} (hi : i < 6) (hj : j < 6) (h1 : wB bs s e i) (h2 : wB bs s e j) : i = j := by
  have e1 := h1.1
  have e2 := h2.1
  refine w_one i hi j hj (by omega) ?_
  rw [← h1.2 0 (w_pos i hi), ← h2.2 0 (w_pos j hj)]
theorem wdF_at {bs : Nat → Int32} {s e : Int} {i : Nat} (hi : i < 6) (h : wB bs s e i) : wdF bs s e = (i : Int) := by
  have n : ∀ j, j < 6 → j ≠ i → ¬ wB bs s e j := fun j hj hne q => hne (wB_one hj hi q h)
  unfold wdF
  have c : i = 0 ∨ i = 1 ∨ i = 2 ∨ i = 3 ∨ i = 4 ∨ i = 5 := by omega
  rcases c with rfl | rfl | rfl | rfl | rfl | rfl
  · rw [pick_y h] <;> rfl
  · rw [pick_n (n 0 (by decide) (by decide)), pick_y h] <;> rfl
  · rw [pick_n (n 0 (by decide) (by decide)), pick_n (n 1 (by decide) (by decide)), pick_y h] <;> rfl
  · rw [pick_n (n 0 (by decide) (by decide)), pick_n (n 1 (by decide) (by decide)), pick_n (n 2 (by decide) (by decide)), pick_y h] <;> rfl
  · rw [pick_n (n 0 (by decide) (by decide)), pick_n (n 1 (by decide) (by decide)), pick_n (n 2 (by decide) (by decide)), pick_n (n 3 (by decide) (by decide)), pick_y h] <;> rfl
  · rw [pick_n (n 0 (by decide) (by decide)), pick_n (n 1 (by decide) (by decide)), pick_n (n 2 (by decide) (by decide)), pick_n (n 3 (by decide) (by decide)), pick_n (n 4 (by decide) (by decide)), pick_y h] <;> rfl
theorem wdF_no {bs : Nat → Int32} {s e : Int} (h : ∀ i : Nat, i < 6 → ¬ wB bs s e i) : wdF bs s e = -1 := by
  unfold wdF
  rw [pick_n (h 0 (by decide)), pick_n (h 1 (by decide)), pick_n (h 2 (by decide)), pick_n (h 3 (by decide)), pick_n (h 4 (by decide)), pick_n (h 5 (by decide))]
theorem wdF_is {bs : Nat → Int32} {s e : Int} {r : Int32} (h : wnP bs s e r) : wdF bs s e = r.toInt := by
  rcases h with ⟨h1, h2⟩ | ⟨h1, h2, h3⟩
  · rw [wdF_no h2, h1]
  · have c := cl_of h1
    rw [wdF_at (by omega) h3, c]
section STP
variable {bs : Nat → Int32} {z b a1 b1 c1 d1 : Int32}
theorem STEPP.s (h : STEPP bs z b a1 b1 c1 d1) : tS bs z.toNatClampNeg b.toNatClampNeg = a1.toNatClampNeg := by
  have := h.1
  have := cl_of (x := a1) (by omega)
  omega
theorem STEPP.e (h : STEPP bs z b a1 b1 c1 d1) : tE bs z.toNatClampNeg b.toNatClampNeg = b1.toNatClampNeg := by
  have := h.2.1
  have := cl_of (x := b1) (by omega)
  omega
theorem STEPP.k (h : STEPP bs z b a1 b1 c1 d1) : tK bs z.toNatClampNeg b.toNatClampNeg = c1.toInt := h.2.2.1.symm
theorem STEPP.v (h : STEPP bs z b a1 b1 c1 d1) (hc : c1.toInt = 2) : tV bs z.toNatClampNeg b.toNatClampNeg = d1.toInt := (h.2.2.2 hc).symm
theorem STEPP.iv (h : STEPP bs z b a1 b1 c1 d1) (hc : c1.toInt = 2) : iv (tV bs z.toNatClampNeg b.toNatClampNeg) = d1 := iv_of (h.v hc)
theorem STEPP.num (h : STEPP bs z b a1 b1 c1 d1) {lo hi : Int} (hc : c1.toInt = 2) (h1 : lo ≤ d1.toInt) (h2 : d1.toInt ≤ hi) : numK bs z.toNatClampNeg b.toNatClampNeg lo hi := ⟨by rw [h.k]; exact hc, by rw [h.v hc]; exact h1, by rw [h.v hc]; exact h2⟩
theorem STEPP.nonum (h : STEPP bs z b a1 b1 c1 d1) {lo hi : Int} (hc : ¬ (c1.toInt = 2 ∧ lo ≤ d1.toInt ∧ d1.toInt ≤ hi)) : ¬ numK bs z.toNatClampNeg b.toNatClampNeg lo hi := fun q => by
  have q1 : c1.toInt = 2 := by rw [← h.k]; exact q.1
  have q2 := q.2.1
  have q3 := q.2.2
  rw [h.v q1] at q2 q3
  exact hc ⟨q1, q2, q3⟩
theorem STEPP.un (h : STEPP bs z b a1 b1 c1 d1) {lo hi : Int} (q : numK bs z.toNatClampNeg b.toNatClampNeg lo hi) : c1.toInt = 2 ∧ lo ≤ d1.toInt ∧ d1.toInt ≤ hi := by
  have q1 : c1.toInt = 2 := by rw [← h.k]; exact q.1
  have q2 := q.2.1
  have q3 := q.2.2
  rw [h.v q1] at q2 q3
  exact ⟨q1, q2, q3⟩
theorem STEPP.stop (h : STEPP bs z b a1 b1 c1 d1) (G : Nat → Int32) (hc : c1.toInt = 3) : stopF bs z.toNatClampNeg b.toNatClampNeg G = .inr (b1.toNatClampNeg, G) := by
  unfold stopF; rw [pick_y (by rw [h.k]; exact hc), h.e]
theorem STEPP.nostop (h : STEPP bs z b a1 b1 c1 d1) (G : Nat → Int32) (hc : ¬ c1.toInt = 3) : stopF bs z.toNatClampNeg b.toNatClampNeg G = .inl a1.toNatClampNeg := by
  unfold stopF; rw [pick_n (by rw [h.k]; exact hc), h.s]
end STP
theorem bitF_01 (m i : Int32) : bitF m i = 0 ∨ bitF m i = 1 := by
  unfold bitF
  obtain ⟨j, hj, ej⟩ := pk_andE (m >>> (i &&& 31)) (m := 1) 1 (by decide)
  rw [ej, nI_toInt (by omega)]
  omega
section F57S
variable {w w1 : Nat → va_E}
def F57 (w w1 : Nat → va_E) : Prop := ∀ k, k ≠ 55 → k ≠ 57 → w1 k = w k
theorem F57.rf : F57 w w := fun _ _ _ => rfl
theorem F57.tr {u v x : Nat → va_E} (h : F57 u v) (g : F57 v x) : F57 u x := fun k q r => (g k q r).trans (h k q r)
theorem F57.up {a : Nat → va_E} {key : Nat} {c : va_E} (h : F57 a w) (e : w1 = va_up w key c) (hk : key = 55 ∨ key = 57) : F57 a w1 := fun k q r => by rw [e, va_up_ne _ _ (by omega)]; exact h k q r
theorem F5.f57 (h : F5 w w1) : F57 w w1 := fun k q _ => h k q
theorem RG.f57 {cI : ClassId} {ad : Nat → Nat} {G : Nat → Int32} (h : RG cI ad w G) (g : F57 w w1) : RG cI ad w1 G := h.keep (g 14 (by decide) (by decide)) (g 15 (by decide) (by decide)) (g 16 (by decide) (by decide)) (g 18 (by decide) (by decide)) (g 19 (by decide) (by decide)) (g 21 (by decide) (by decide)) (g 23 (by decide) (by decide))
end F57S
section RUNS
variable {bs : Nat → Int32} {len p items n : Nat} {G : Nat → Int32}
theorem runF_end (h : tK bs len p = 0) (hi : 0 < items) : runF bs len (n + 1) p G items = ((items : Int), G) := pick_y ⟨h, hi⟩
theorem runF_fault {s : Nat} (h : ¬ (tK bs len p = 0 ∧ 0 < items)) (hi : itemF bs len p G (items = 0) = .inl s) : runF bs len (n + 1) p G items = (-10 - (s : Int), G) := by
  show pick _ _ (match itemF bs len p G (items = 0) with | .inl s => (-10 - (s : Int), G) | .inr q => runF bs len n q.1 q.2 (items + 1)) = _
  rw [pick_n h, hi]
theorem runF_next {q : Nat} {G1 : Nat → Int32} (h : ¬ (tK bs len p = 0 ∧ 0 < items)) (hi : itemF bs len p G (items = 0) = .inr (q, G1)) : runF bs len (n + 1) p G items = runF bs len n q G1 (items + 1) := by
  show pick _ _ (match itemF bs len p G (items = 0) with | .inl s => (-10 - (s : Int), G) | .inr q => runF bs len n q.1 q.2 (items + 1)) = _
  rw [pick_n h, hi]
theorem item_none {x : Int} (hw : wdAt bs len p = x) (first : Prop) (h : ¬ (x = 0 ∧ first)) (h1 : ¬ (x = 1 ∧ ¬ first ∧ (G 0).toInt < 7)) (h2 : ¬ (x = 2 ∧ ¬ first ∧ (G 1).toInt < 4)) (h3 : ¬ (3 ≤ x ∧ x ≤ 5 ∧ ¬ first)) : itemF bs len p G first = .inl (tS bs len p) := by
  unfold itemF
  rw [hw, pick_n h, pick_n h1, pick_n h2, pick_n (fun q => h3 ⟨by omega, by omega, q.2⟩), pick_n (fun q => h3 ⟨by omega, by omega, q.2⟩), pick_n (fun q => h3 ⟨by omega, by omega, q.2⟩)]
theorem item_0 (hw : wdAt bs len p = 0) {first : Prop} (hf : first) : itemF bs len p G first = it0 bs len (tE bs len p) G := by unfold itemF; rw [hw, pick_y ⟨rfl, hf⟩]
theorem item_1 (hw : wdAt bs len p = 1) {first : Prop} (hf : ¬ first) (hc : (G 0).toInt < 7) : itemF bs len p G first = it1 bs len (tE bs len p) G := by unfold itemF; rw [hw, pick_n (by omega), pick_y ⟨rfl, hf, hc⟩]
theorem item_2 (hw : wdAt bs len p = 2) {first : Prop} (hf : ¬ first) (hc : (G 1).toInt < 4) : itemF bs len p G first = it2 bs len (tE bs len p) G := by unfold itemF; rw [hw, pick_n (by omega), pick_n (by omega), pick_y ⟨rfl, hf, hc⟩]
theorem item_3 (hw : wdAt bs len p = 3) {first : Prop} (hf : ¬ first) : itemF bs len p G first = it3 bs len (tE bs len p) G := by unfold itemF; rw [hw, pick_n (by omega), pick_n (by omega), pick_n (by omega), pick_y ⟨rfl, hf⟩]
theorem item_4 (hw : wdAt bs len p = 4) {first : Prop} (hf : ¬ first) : itemF bs len p G first = it4 bs len (tE bs len p) G := by unfold itemF; rw [hw, pick_n (by omega), pick_n (by omega), pick_n (by omega), pick_n (by omega), pick_y ⟨rfl, hf⟩]
theorem item_5 (hw : wdAt bs len p = 5) {first : Prop} (hf : ¬ first) : itemF bs len p G first = it5 bs len (tE bs len p) G := by unfold itemF; rw [hw, pick_n (by omega), pick_n (by omega), pick_n (by omega), pick_n (by omega), pick_n (by omega), pick_y ⟨rfl, hf⟩]
end RUNS
theorem STEPP.wd1 {bs : Nat → Int32} {z b a1 b1 c1 d1 r : Int32} (h : STEPP bs z b a1 b1 c1 d1) (hc : c1.toInt = 1) (hw : wnP bs a1.toInt b1.toInt r) : wdAt bs z.toNatClampNeg b.toNatClampNeg = r.toInt := by
  unfold wdAt
  rw [pick_y (by rw [h.k]; exact hc), ← wdF_is hw, ← h.1, ← h.2.1]
theorem STEPP.wd0 {bs : Nat → Int32} {z b a1 b1 c1 d1 : Int32} (h : STEPP bs z b a1 b1 c1 d1) (hc : ¬ c1.toInt = 1) : wdAt bs z.toNatClampNeg b.toNatClampNeg = -1 := by
  unfold wdAt
  rw [pick_n (by rw [h.k]; exact hc)]
section PROG
variable {bs : Nat → Int32} {len p : Nat}
theorem tS_ge (h : p ≤ len) : p ≤ tS bs len p ∧ tS bs len p ≤ len := endF_le _ _ h
theorem endF_gt {P : Int32 → Bool} {s : Nat} (h : s < len) (hp : P (bs s) = true) : s < endF P bs len len s := by
  cases len with
  | zero => exact absurd h (Nat.not_lt_zero _)
  | succ n =>
    show s < (bif decide (s < n + 1) && P (bs s) then endF P bs (n + 1) n (s + 1) else s)
    rw [decide_eq_true h, hp]
    have := (endF_le (P := P) (f := bs) (len := n + 1) n (s + 1) h).1
    exact this
theorem tKE_ge {s : Nat} (h : s ≤ len) : s ≤ (tKE bs len s).2 ∧ (tKE bs len s).2 ≤ len ∧ ((tKE bs len s).1 ≠ 0 → s < (tKE bs len s).2) := by
  unfold tKE
  split
  · rename_i q
    exact ⟨Nat.le_refl _, h, fun q => absurd rfl q⟩
  · rename_i q
    have hs : s < len := by omega
    split
    · rename_i q2
      have := endF_gt (P := ltB) (bs := bs) hs (decide_eq_true q2)
      have t := (endF_le (P := ltB) (f := bs) (len := len) len s h).2
      exact ⟨by show s ≤ endF ltB bs len len s; omega, t, fun _ => this⟩
    · split
      · rename_i q2
        have := endF_gt (P := dgB) (bs := bs) hs (decide_eq_true q2)
        have t := (endF_le (P := dgB) (f := bs) (len := len) len s h).2
        exact ⟨by show s ≤ endF dgB bs len len s; omega, t, fun _ => this⟩
      · split
        · exact ⟨by show s ≤ s + 1; omega, by show s + 1 ≤ len; omega, fun _ => by show s < s + 1; omega⟩
        · exact ⟨by show s ≤ s + 1; omega, by show s + 1 ≤ len; omega, fun _ => by show s < s + 1; omega⟩
theorem tE_ge (h : p ≤ len) : tS bs len p ≤ tE bs len p ∧ tE bs len p ≤ len ∧ (tK bs len p ≠ 0 → tS bs len p < tE bs len p) := tKE_ge (tS_ge h).2
theorem tE_le (h : p ≤ len) : p ≤ tE bs len p ∧ tE bs len p ≤ len := by
  have a := tS_ge (bs := bs) h
  have b := tE_ge (bs := bs) h
  omega
theorem stop_ge {G : Nat → Int32} {q : Nat} {G1 : Nat → Int32} (h : p ≤ len) (e : stopF bs len p G = .inr (q, G1)) : p ≤ q ∧ q ≤ len := by
  unfold stopF pick at e
  split at e
  · injection e with e; injection e with e _
    have := tE_le (bs := bs) h
    omega
  · cases e
end PROG
theorem F57.x {w w1 : Nat → va_E} {z a b c d a1 b1 c1 d1 : Int32} {ad : Nat → Nat} (h : F57 w w1) (e : w 55 = .inr (5, [.ref (ad 56), .ref (ad 57), .int z, .int a, .int b, .int c, .int d])) (e1 : w1 55 = .inr (5, [.ref (ad 56), .ref (ad 57), .int z, .int a1, .int b1, .int c1, .int d1])) : KX w w1 := by
  intro k
  by_cases q : k = 55
  · subst q; rw [e, e1]; rfl
  · by_cases q2 : k = 57
    · subst q2; rfl
    · rw [h k q q2]
theorem it0_ge {bs : Nat → Int32} {len p q : Nat} {G G1 : Nat → Int32} (h : p ≤ len) (e : it0 bs len p G = .inr (q, G1)) : p ≤ q ∧ q ≤ len := by
  have h1 := tE_le (bs := bs) h
  have h2 := tE_le (bs := bs) h1.2
  have h3 := tE_le (bs := bs) h2.2
  unfold it0 pick at e
  (repeat' split at e) <;> first | (cases e; done) | (have := stop_ge h1.2 e; omega) | (have := stop_ge h2.2 e; omega) | (have := stop_ge h3.2 e; omega)
theorem it1_ge {bs : Nat → Int32} {len p q : Nat} {G G1 : Nat → Int32} (h : p ≤ len) (e : it1 bs len p G = .inr (q, G1)) : p ≤ q ∧ q ≤ len := by
  have h1 := tE_le (bs := bs) h
  have h2 := tE_le (bs := bs) h1.2
  have h3 := tE_le (bs := bs) h2.2
  unfold it1 pick at e
  (repeat' split at e) <;> first | (cases e; done) | (have := stop_ge h1.2 e; omega) | (have := stop_ge h2.2 e; omega) | (have := stop_ge h3.2 e; omega)
theorem it2_ge {bs : Nat → Int32} {len p q : Nat} {G G1 : Nat → Int32} (h : p ≤ len) (e : it2 bs len p G = .inr (q, G1)) : p ≤ q ∧ q ≤ len := by
  have h1 := tE_le (bs := bs) h
  have h2 := tE_le (bs := bs) h1.2
  have h3 := tE_le (bs := bs) h2.2
  unfold it2 pick at e
  (repeat' split at e) <;> first | (cases e; done) | (have := stop_ge h1.2 e; omega) | (have := stop_ge h2.2 e; omega) | (have := stop_ge h3.2 e; omega)
theorem it3_ge {bs : Nat → Int32} {len p q : Nat} {G G1 : Nat → Int32} (h : p ≤ len) (e : it3 bs len p G = .inr (q, G1)) : p ≤ q ∧ q ≤ len := by
  have h1 := tE_le (bs := bs) h
  have h2 := tE_le (bs := bs) h1.2
  have h3 := tE_le (bs := bs) h2.2
  unfold it3 pick at e
  (repeat' split at e) <;> first | (cases e; done) | (have := stop_ge h1.2 e; omega) | (have := stop_ge h2.2 e; omega) | (have := stop_ge h3.2 e; omega)
theorem it4_ge {bs : Nat → Int32} {len p q : Nat} {G G1 : Nat → Int32} (h : p ≤ len) (e : it4 bs len p G = .inr (q, G1)) : p ≤ q ∧ q ≤ len := by
  have h1 := tE_le (bs := bs) h
  have h2 := tE_le (bs := bs) h1.2
  have h3 := tE_le (bs := bs) h2.2
  unfold it4 pick at e
  (repeat' split at e) <;> first | (cases e; done) | (have := stop_ge h1.2 e; omega) | (have := stop_ge h2.2 e; omega) | (have := stop_ge h3.2 e; omega)
theorem it5_ge {bs : Nat → Int32} {len p q : Nat} {G G1 : Nat → Int32} (h : p ≤ len) (e : it5 bs len p G = .inr (q, G1)) : p ≤ q ∧ q ≤ len := by
  have h1 := tE_le (bs := bs) h
  have h2 := tE_le (bs := bs) h1.2
  have h3 := tE_le (bs := bs) h2.2
  unfold it5 pick at e
  (repeat' split at e) <;> first | (cases e; done) | (have := stop_ge h1.2 e; omega) | (have := stop_ge h2.2 e; omega) | (have := stop_ge h3.2 e; omega)
