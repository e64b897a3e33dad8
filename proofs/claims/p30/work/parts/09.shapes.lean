/-! ===== making shapes ===== -/
section MKS
variable {cI cB cZ cO : ClassId} {ad : Nat → Nat} {w w1 : Nat → va_E}
theorem sA_mk {c : ClassId} {N : Nat} {P : (Nat → Int32) → Prop} {f : Nat → Int32} (h : P f) : sA c N P (.inl (c, N, .inl f)) := ⟨f, rfl, h⟩
theorem sI_mk {b : Nat} {q0 q1 q2 q3 q4 : Int32} (h1 : 0 ≤ q3.toInt) (h2 : q3.toInt ≤ 7) (h3 : 0 ≤ q4.toInt) (h4 : q4.toInt ≤ 4) : sI ad b (.inr (1, [.int q0, .int q1, .int q2, .int q3, .int q4, .ref (ad (b + 1)), .ref (ad (b + 2)), .ref (ad (b + 3)), .ref (ad (b + 4)), .ref (ad (b + 5)), .ref (ad (b + 6)), .ref (ad (b + 7)), .ref (ad (b + 9)), .ref (ad (b + 11))])) := ⟨q0, q1, q2, q3, q4, rfl, h1, h2, h3, h4⟩
theorem sR_mk {c a : Nat} {hi : Int} {z : Int32} (h1 : 0 ≤ z.toInt) (h2 : z.toInt ≤ hi) : sR ad c a hi (.inr (c, [.ref (ad a), .int z])) := ⟨z, rfl, h1, h2⟩
theorem sN_mk {x y : Int64} {a b c : Int32} : sN ad (.inr (6, [.ref (ad 1), .ref (ad 14), .ref (ad 27), .ref (ad 54), .ref (ad 55), .ref (ad 58), .ref (ad 62), .long x, .long y, .int a, .int b, .int c])) := ⟨x, y, a, b, c, rfl⟩
theorem sT_mk {z a b c d : Int32} (h1 : 0 ≤ z.toInt) (h2 : z.toInt ≤ 150) (h3 : 0 ≤ d.toInt) (h4 : d.toInt ≤ 99) : sT ad (.inr (5, [.ref (ad 56), .ref (ad 57), .int z, .int a, .int b, .int c, .int d])) := ⟨z, a, b, c, d, rfl, h1, h2, h3, h4⟩
theorem sL_mk {a b c : Int32} (h1 : 0 ≤ a.toInt) (h2 : a.toInt ≤ 7) (h3 : 0 ≤ b.toInt) (h4 : b.toInt ≤ 4) : sL ad (.inr (3, [.ref (ad 59), .ref (ad 60), .ref (ad 61), .int a, .int b, .int c])) := ⟨a, b, c, rfl, h1, h2, h3, h4⟩
theorem sM_mk {x y : Int64} {a z b c d g : Int32} (h1 : 0 ≤ z.toInt) (h2 : z.toInt ≤ 150) : sM ad (.inr (7, [.ref (ad 65), .ref (ad 66), .ref (ad 67), .ref (ad 68), .long x, .long y, .ref (ad 69), .int a, .ref (ad 70), .ref (ad 71), .int z, .int b, .int c, .int d, .int g, .ref (ad 72), .ref (ad 73)])) := ⟨x, y, a, z, b, c, d, g, rfl, h1, h2⟩
def isD (b : Nat) : Prop := b = 1 ∨ b = 14
theorem isD.b {b : Nat} (h : isD b) : isB b := by unfold isD at h; unfold isB; omega
def isO (o : Nat) : Prop := o = 65 ∨ o = 69 ∨ o = 72
theorem isO.lt {o : Nat} (h : isO o) : o < 74 := by unfold isO at h; omega
theorem OK.o {o : Nat} (h : OK cI cB cZ cO ad w) (ho : isO o) : ∃ (N : Nat) (f : Nat → Int32), w o = .inl (cI, N, .inl f) ∧ 41 ≤ N ∧ alA f := by
  rcases ho with rfl | rfl | rfl
  · obtain ⟨f, e, p⟩ := (show sA cI 177 alA (w 65) from h 65 (by decide)); exact ⟨177, f, e, by decide, p⟩
  · obtain ⟨f, e, p⟩ := (show sA cI 41 alA (w 69) from h 69 (by decide)); exact ⟨41, f, e, by decide, p⟩
  · obtain ⟨f, e, p⟩ := (show sA cI 89 alA (w 72) from h 72 (by decide)); exact ⟨89, f, e, by decide, p⟩
theorem OK.upO {o N : Nat} {f g : Nat → Int32} (h : OK cI cB cZ cO ad w) (ho : isO o) (f0 : w o = .inl (cI, N, .inl f)) (e : w1 = va_up w o (.inl (cI, N, .inl g))) (p : alA g) : OK cI cB cZ cO ad w1 := by
  refine OK.up h e ?_
  rcases ho with rfl | rfl | rfl
  · obtain ⟨f', e', p'⟩ := (show sA cI 177 alA (w 65) from h 65 (by decide)); rw [f0] at e'; cases e'; exact sA_mk p
  · obtain ⟨f', e', p'⟩ := (show sA cI 41 alA (w 69) from h 69 (by decide)); rw [f0] at e'; cases e'; exact sA_mk p
  · obtain ⟨f', e', p'⟩ := (show sA cI 89 alA (w 72) from h 72 (by decide)); rw [f0] at e'; cases e'; exact sA_mk p
theorem kmA {f g : Nat → Int32} {k N : Nat} {x : Int32} {c : ClassId} (e : upd f k x = g) (hk : 4 ≤ k ∧ k ≤ 15 ∨ 89 ≤ k) : pm 65 (.inl (c, N, .inl g)) = pm 65 (.inl (c, N, .inl f)) := by
  show (.inl (c, N, .inl (mk65 g)) : va_E) = .inl (c, N, .inl (mk65 f))
  rw [mk65_upd e hk]
theorem kmO {o : Nat} {f g : Nat → Int32} {k N : Nat} {x : Int32} {c : ClassId} (ho : isO o) (e : upd f k x = g) (hk : 4 ≤ k ∧ k ≤ 15 ∨ 89 ≤ k) : pm o (.inl (c, N, .inl g)) = pm o (.inl (c, N, .inl f)) := by
  rcases ho with rfl | rfl | rfl
  · exact kmA e hk
  · rfl
  · rfl
theorem knO {o : Nat} {c d : va_E} (ho : isO o) : pn o c = pn o d := by
  rcases ho with rfl | rfl | rfl <;> rfl
def FR (b : Nat) (w w1 : Nat → va_E) : Prop := ∀ k, k < b ∨ b + 13 ≤ k → w1 k = w k
theorem FR.rf {b : Nat} : FR b w w := fun _ _ => rfl
theorem FR.tr {b : Nat} {u v x : Nat → va_E} (h : FR b u v) (g : FR b v x) : FR b u x := fun k hk => (g k hk).trans (h k hk)
theorem FR.up {b key : Nat} {a : Nat → va_E} {c : va_E} (h : FR b a w) (e : w1 = va_up w key c) (hk : b ≤ key ∧ key < b + 13) : FR b a w1 := fun k q => by rw [e, va_up_ne _ _ (by omega)]; exact h k q
theorem FR.x (h : FR 14 w w1) : KX w w1 := by
  intro k
  by_cases q : k < 14 ∨ 14 + 13 ≤ k
  · rw [h k q]
  · have e1 : ¬ k = 1 := by omega
    have e2 : ¬ k = 55 := by omega
    have e3 : frX k = true := decide_eq_true (by omega)
    unfold pj
    rw [decide_eq_false e1, decide_eq_false e2, e3]; rfl
theorem FR.t {b : Nat} (hb : isB b) (h : FR b w w1) : KT w w1 := by
  intro k
  by_cases q : k < b ∨ b + 13 ≤ k
  · rw [h k q]
  · have hq : ¬ k = 55 ∧ ¬ (k = 54 ∨ k = 56 ∨ 64 ≤ k) := by unfold isB at hb; omega
    have e3 : frT k = true := decide_eq_true hq.2
    unfold pt
    rw [decide_eq_false hq.1, e3]; rfl
def isRw (r : Nat) : Prop := r = 8 ∨ r = 10
theorem isRw.lt {r : Nat} (h : isRw r) : r + 1 < 64 ∧ 8 ≤ r := by unfold isRw at h; omega
theorem okc_r0 {r : Nat} {e : va_E} (hb : isRw r) : okc cI cB cZ cO ad r e = sR ad 4 (r + 1) 6 e := by rcases hb with rfl | rfl <;> rfl
theorem okc_r1 {r : Nat} {e : va_E} (hb : isRw r) : okc cI cB cZ cO ad (r + 1) e = sA cI 24 anyA e := by rcases hb with rfl | rfl <;> rfl
theorem OK.r0 {r : Nat} (h : OK cI cB cZ cO ad w) (hb : isRw r) : sR ad 4 (r + 1) 6 (w r) := (Iff.of_eq (okc_r0 (cI := cI) (cB := cB) (cZ := cZ) (cO := cO) (ad := ad) hb)).mp (h _ (by have := hb.lt; omega))
theorem OK.r1 {r : Nat} (h : OK cI cB cZ cO ad w) (hb : isRw r) : sA cI 24 anyA (w (r + 1)) := (Iff.of_eq (okc_r1 (cI := cI) (cB := cB) (cZ := cZ) (cO := cO) (ad := ad) hb)).mp (h _ (by have := hb.lt; omega))
theorem OK.two {r : Nat} (h : OK cI cB cZ cO ad w) (hf : ∀ k, k ≠ r → k ≠ r + 1 → w1 k = w k) (h0 : okc cI cB cZ cO ad r (w1 r)) (h1 : okc cI cB cZ cO ad (r + 1) (w1 (r + 1))) : OK cI cB cZ cO ad w1 := by
  intro k hk
  by_cases e0 : k = r
  · subst e0; exact h0
  · by_cases e1 : k = r + 1
    · subst e1; exact h1
    · rw [hf k e0 e1]; exact h k hk
theorem FR.two {b r : Nat} (hf : ∀ k, k ≠ r → k ≠ r + 1 → w1 k = w k) (hr : b ≤ r ∧ r + 1 < b + 13) : FR b w w1 := fun k q => hf k (by omega) (by omega)
end MKS
theorem b01 {r : Int32} (h0 : 0 ≤ r.toInt) (h1 : r.toInt ≤ 1) : r = 1 ∨ r = 0 := by
  simp only [fa_eq]
  have e0 : (0 : Int32).toInt = 0 := rfl
  have e1 : (1 : Int32).toInt = 1 := rfl
  rw [e0, e1]; omega
theorem up_ge {f g : Nat → Int32} {k : Nat} {x v : Int32} (e : upd f k x = g) (ev : f k = v) (h : v.toInt ≤ x.toInt) : ∀ n, (f n).toInt ≤ (g n).toInt := by
  subst e
  intro n
  by_cases q : n = k
  · subst q; rw [pk_us, ev]; exact h
  · rw [pk_un q]; exact Int.le_refl _
section KBS
variable {w w1 : Nat → va_E} {b : Nat}
def KB (b : Nat) (w w1 : Nat → va_E) : Prop := KX w w1 ∧ FR b w w1
theorem KB.rf : KB b w w := ⟨KX.rf, FR.rf⟩
theorem KB.tr {u v x : Nat → va_E} (h : KB b u v) (g : KB b v x) : KB b u x := ⟨h.1.tr g.1, h.2.tr g.2⟩
theorem KB.up {a : Nat → va_E} {key : Nat} {c c0 : va_E} (h : KB b a w) (e : w1 = va_up w key c) (f : w key = c0) (g : pj key c = pj key c0) (hk : b ≤ key ∧ key < b + 13) : KB b a w1 := ⟨h.1.up e f g, h.2.up e hk⟩
theorem FR.kb (h : FR 14 w w1) : KB 14 w w1 := ⟨h.x, h⟩
def KI (w w1 : Nat → va_E) : Prop := ∀ k, k ≠ 54 → pt k (w1 k) = pt k (w k)
theorem KI.rf : KI w w := fun _ _ => rfl
theorem KT.i (h : KT w w1) : KI w w1 := fun k _ => h k
theorem KI.tr {u v x : Nat → va_E} (h : KI u v) (g : KI v x) : KI u x := fun k q => (g k q).trans (h k q)
theorem KI.up {a : Nat → va_E} {key : Nat} {c c0 : va_E} (h : KI a w) (e : w1 = va_up w key c) (f : w key = c0) (g : key = 54 ∨ pt key c = pt key c0) : KI a w1 := by
  intro k hk
  rw [e]
  by_cases q : k = key
  · subst q
    rcases g with g | g
    · exact absurd g hk
    · rw [va_up_self, g, ← f]; exact h k hk
  · rw [va_up_ne _ _ q]; exact h k hk
def KL (w w1 : Nat → va_E) : Prop := ∀ k, k ≠ 55 → k ≠ 56 → pt k (w1 k) = pt k (w k)
theorem KL.rf : KL w w := fun _ _ _ => rfl
theorem KT.l (h : KT w w1) : KL w w1 := fun k _ _ => h k
theorem KL.tr {u v x : Nat → va_E} (h : KL u v) (g : KL v x) : KL u x := fun k q r => (g k q r).trans (h k q r)
theorem KL.up {a : Nat → va_E} {key : Nat} {c c0 : va_E} (h : KL a w) (e : w1 = va_up w key c) (f : w key = c0) (g : key = 55 ∨ key = 56 ∨ pt key c = pt key c0) : KL a w1 := by
  intro k hk hk2
  rw [e]
  by_cases q : k = key
  · subst q
    rcases g with g | g | g
    · exact absurd g hk
    · exact absurd g hk2
    · rw [va_up_self, g, ← f]; exact h k hk hk2
  · rw [va_up_ne _ _ q]; exact h k hk hk2
end KBS
section F5S
variable {w w1 : Nat → va_E}
def F5 (w w1 : Nat → va_E) : Prop := ∀ k, k ≠ 55 → w1 k = w k
theorem F5.rf : F5 w w := fun _ _ => rfl
theorem F5.tr {u v x : Nat → va_E} (h : F5 u v) (g : F5 v x) : F5 u x := fun k q => (g k q).trans (h k q)
theorem F5.up {a : Nat → va_E} {c : va_E} (h : F5 a w) (e : w1 = va_up w 55 c) : F5 a w1 := fun k q => by rw [e, va_up_ne _ _ q]; exact h k q
theorem F5.x {z a b c d a1 b1 c1 d1 : Int32} {ad : Nat → Nat} (h : F5 w w1) (e : w 55 = .inr (5, [.ref (ad 56), .ref (ad 57), .int z, .int a, .int b, .int c, .int d])) (e1 : w1 55 = .inr (5, [.ref (ad 56), .ref (ad 57), .int z, .int a1, .int b1, .int c1, .int d1])) : KX w w1 := by
  intro k
  by_cases q : k = 55
  · subst q; rw [e, e1]; rfl
  · rw [h k q]
end F5S
theorem sl_ex (i : Nat) (h : i < 6) : ∃ z : Int32, nI (slen.getD i 0) = z ∧ 0 ≤ z.toInt ∧ z.toInt ≤ 6 ∧ z.toInt = (slen.getD i 0 : Nat) ∧ z >>> ((0 : Int32) &&& 31) = z := by
  match i, h with
  | 0, _ => exact ⟨_, rfl, by decide, by decide, by decide, by decide⟩
  | 1, _ => exact ⟨_, rfl, by decide, by decide, by decide, by decide⟩
  | 2, _ => exact ⟨_, rfl, by decide, by decide, by decide, by decide⟩
  | 3, _ => exact ⟨_, rfl, by decide, by decide, by decide, by decide⟩
  | 4, _ => exact ⟨_, rfl, by decide, by decide, by decide, by decide⟩
  | 5, _ => exact ⟨_, rfl, by decide, by decide, by decide, by decide⟩
  | j + 6, h => exact absurd h (by omega)
theorem sch : ∀ i, i < 6 → ∀ j, j < slen.getD i 0 → ((((sbyt.getD i []).getD j 0) &&& 255).toUInt32 % 65536).toInt32 = (sbyt.getD i []).getD j 0 := by decide +kernel
theorem txd {cI cB cZ cO : ClassId} {ad : Nat → Nat} {w : Nat → va_E} {z a b c d : Int32} (ok : OK cI cB cZ cO ad w) (f : w 55 = .inr (5, [.ref (ad 56), .ref (ad 57), .int z, .int a, .int b, .int c, .int d])) : 0 ≤ d.toInt ∧ d.toInt ≤ 99 := by
  obtain ⟨z1, a1, b1, c1, d1, e, -, -, h1, h2⟩ := (show sT ad (w 55) from ok 55 (by decide))
  rw [f] at e
  cases e
  exact ⟨h1, h2⟩
theorem k00 : (0 : Int32).toInt = 0 := rfl
