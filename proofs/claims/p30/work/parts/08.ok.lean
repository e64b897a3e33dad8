/-! ===== what every reachable world is like ===== -/
def rgA (lo hi : Int) (f : Nat → Int32) : Prop := ∀ k, lo ≤ (f k).toInt ∧ (f k).toInt ≤ hi
def anyA (_ : Nat → Int32) : Prop := True
def pastA (f : Nat → Int32) : Prop := ∀ k, k % 11 < 4 → 0 ≤ (f k).toInt ∧ (f k).toInt ≤ 60
def alA (f : Nat → Int32) : Prop := 0 ≤ (f 0).toInt ∧ (f 0).toInt ≤ 7 ∧ 0 ≤ (f 1).toInt ∧ (f 1).toInt ≤ 4 ∧ 0 ≤ (f 2).toInt ∧ (f 2).toInt ≤ 6 ∧ 0 ≤ (f 3).toInt ∧ (f 3).toInt ≤ 6 ∧ 0 ≤ (f 4).toInt ∧ (f 4).toInt ≤ 8
def keA (f : Nat → Int32) : Prop := alA f ∧ alA (fun k => f (177 + k))
def sI (ad : Nat → Nat) (b : Nat) (e : va_E) : Prop := ∃ q0 q1 q2 q3 q4 : Int32, e = .inr (1, [.int q0, .int q1, .int q2, .int q3, .int q4, .ref (ad (b + 1)), .ref (ad (b + 2)), .ref (ad (b + 3)), .ref (ad (b + 4)), .ref (ad (b + 5)), .ref (ad (b + 6)), .ref (ad (b + 7)), .ref (ad (b + 9)), .ref (ad (b + 11))]) ∧ 0 ≤ q3.toInt ∧ q3.toInt ≤ 7 ∧ 0 ≤ q4.toInt ∧ q4.toInt ≤ 4
def sA (c : ClassId) (N : Nat) (P : (Nat → Int32) → Prop) (e : va_E) : Prop := ∃ f : Nat → Int32, e = .inl (c, N, .inl f) ∧ P f
def sR (ad : Nat → Nat) (c a : Nat) (hi : Int) (e : va_E) : Prop := ∃ z : Int32, e = .inr (c, [.ref (ad a), .int z]) ∧ 0 ≤ z.toInt ∧ z.toInt ≤ hi
def sN (ad : Nat → Nat) (e : va_E) : Prop := ∃ (x y : Int64) (a b c : Int32), e = .inr (6, [.ref (ad 1), .ref (ad 14), .ref (ad 27), .ref (ad 54), .ref (ad 55), .ref (ad 58), .ref (ad 62), .long x, .long y, .int a, .int b, .int c])
def sT (ad : Nat → Nat) (e : va_E) : Prop := ∃ (z a b c d : Int32), e = .inr (5, [.ref (ad 56), .ref (ad 57), .int z, .int a, .int b, .int c, .int d]) ∧ 0 ≤ z.toInt ∧ z.toInt ≤ 150 ∧ 0 ≤ d.toInt ∧ d.toInt ≤ 99
def sL (ad : Nat → Nat) (e : va_E) : Prop := ∃ (a b c : Int32), e = .inr (3, [.ref (ad 59), .ref (ad 60), .ref (ad 61), .int a, .int b, .int c]) ∧ 0 ≤ a.toInt ∧ a.toInt ≤ 7 ∧ 0 ≤ b.toInt ∧ b.toInt ≤ 4
def sM (ad : Nat → Nat) (e : va_E) : Prop := ∃ (x y : Int64) (a z b c d g : Int32), e = .inr (7, [.ref (ad 65), .ref (ad 66), .ref (ad 67), .ref (ad 68), .long x, .long y, .ref (ad 69), .int a, .ref (ad 70), .ref (ad 71), .int z, .int b, .int c, .int d, .int g, .ref (ad 72), .ref (ad 73)]) ∧ 0 ≤ z.toInt ∧ z.toInt ≤ 150
def okc (cI cB cZ cO : ClassId) (ad : Nat → Nat) (k : Nat) (e : va_E) : Prop := match k with
  | 0 => sN ad e
  | 1 => sI ad 1 e
  | 2 => sA cI 7 anyA e
  | 3 => sA cI 7 (rgA 0 9) e
  | 4 => sA cI 7 anyA e
  | 5 => sA cI 4 anyA e
  | 6 => sA cI 4 (rgA 0 60) e
  | 7 => sA cI 4 anyA e
  | 8 => sR ad 4 9 6 e
  | 9 => sA cI 24 anyA e
  | 10 => sR ad 4 11 6 e
  | 11 => sA cI 24 anyA e
  | 12 => sR ad 2 13 8 e
  | 13 => sA cI 88 pastA e
  | 14 => sI ad 14 e
  | 15 => sA cI 7 anyA e
  | 16 => sA cI 7 (rgA 0 9) e
  | 17 => sA cI 7 anyA e
  | 18 => sA cI 4 anyA e
  | 19 => sA cI 4 (rgA 0 60) e
  | 20 => sA cI 4 anyA e
  | 21 => sR ad 4 22 6 e
  | 22 => sA cI 24 anyA e
  | 23 => sR ad 4 24 6 e
  | 24 => sA cI 24 anyA e
  | 25 => sR ad 2 26 8 e
  | 26 => sA cI 88 pastA e
  | 28 => sI ad 28 e
  | 29 => sA cI 7 anyA e
  | 30 => sA cI 7 (rgA 0 9) e
  | 31 => sA cI 7 anyA e
  | 32 => sA cI 4 anyA e
  | 33 => sA cI 4 (rgA 0 60) e
  | 34 => sA cI 4 anyA e
  | 35 => sR ad 4 36 6 e
  | 36 => sA cI 24 anyA e
  | 37 => sR ad 4 38 6 e
  | 38 => sA cI 24 anyA e
  | 39 => sR ad 2 40 8 e
  | 40 => sA cI 88 pastA e
  | 41 => sI ad 41 e
  | 42 => sA cI 7 anyA e
  | 43 => sA cI 7 (rgA 0 9) e
  | 44 => sA cI 7 anyA e
  | 45 => sA cI 4 anyA e
  | 46 => sA cI 4 (rgA 0 60) e
  | 47 => sA cI 4 anyA e
  | 48 => sR ad 4 49 6 e
  | 49 => sA cI 24 anyA e
  | 50 => sR ad 4 51 6 e
  | 51 => sA cI 24 anyA e
  | 52 => sR ad 2 53 8 e
  | 53 => sA cI 88 pastA e
  | 27 => e = .inl (cO, 2, .inr (.inr (.inr (.inr (fun k => if k = 0 then some (ad 28) else if k = 1 then some (ad 41) else none)))))
  | 54 => sA cZ 2 (rgA 0 1) e
  | 55 => sT ad e
  | 56 => sA cB 150 anyA e
  | 57 => sA cI 3 (rgA 0 99) e
  | 58 => sL ad e
  | 59 => sA cI 28 (rgA (-1) 100) e
  | 60 => sA cI 244 anyA e
  | 61 => sA cI 4 (rgA (-1) 6) e
  | 62 => e = .inr (0, [.ref (ad 63)])
  | 63 => sA cI 6 anyA e
  | 64 => sM ad e
  | 65 => sA cI 177 alA e
  | 66 => sA cI 354 keA e
  | 67 => sA cZ 2 (rgA 0 1) e
  | 68 => sA cI 3 anyA e
  | 69 => sA cI 41 alA e
  | 70 => sA cI 6 anyA e
  | 71 => sA cI 150 anyA e
  | 72 => sA cI 89 alA e
  | 73 => sA cI 3 anyA e
  | _ => True
def OK (cI cB cZ cO : ClassId) (ad : Nat → Nat) (w : Nat → va_E) : Prop := ∀ k, k < 74 → okc cI cB cZ cO ad k (w k)
section OKS
variable {cI cB cZ cO : ClassId} {ad : Nat → Nat} {w w1 : Nat → va_E}
theorem OK.up {b : Nat} {c : va_E} (h : OK cI cB cZ cO ad w) (e : w1 = va_up w b c) (g : okc cI cB cZ cO ad b c) : OK cI cB cZ cO ad w1 := by
  intro k hk
  rw [e]
  by_cases hb : k = b
  · subst hb; rw [va_up_self]; exact g
  · rw [va_up_ne _ _ hb]; exact h k hk
def isB (b : Nat) : Prop := b = 1 ∨ b = 14 ∨ b = 28 ∨ b = 41
theorem isB.lt {b : Nat} (h : isB b) : 1 ≤ b ∧ b + 12 < 74 ∧ b ≤ 41 := by unfold isB at h; omega
theorem okc_b0 {b : Nat} {e : va_E} (hb : isB b) : okc cI cB cZ cO ad (b) e = sI ad b e := by rcases hb with rfl | rfl | rfl | rfl <;> rfl
theorem OK.b0 {b : Nat} (h : OK cI cB cZ cO ad w) (hb : isB b) : sI ad b (w (b)) := (Iff.of_eq (okc_b0 (cI := cI) (cB := cB) (cZ := cZ) (cO := cO) (ad := ad) hb)).mp (h _ (by have := hb.lt; omega))
theorem okc_b1 {b : Nat} {e : va_E} (hb : isB b) : okc cI cB cZ cO ad (b + 1) e = sA cI 7 anyA e := by rcases hb with rfl | rfl | rfl | rfl <;> rfl
theorem OK.b1 {b : Nat} (h : OK cI cB cZ cO ad w) (hb : isB b) : sA cI 7 anyA (w (b + 1)) := (Iff.of_eq (okc_b1 (cI := cI) (cB := cB) (cZ := cZ) (cO := cO) (ad := ad) hb)).mp (h _ (by have := hb.lt; omega))
theorem okc_b2 {b : Nat} {e : va_E} (hb : isB b) : okc cI cB cZ cO ad (b + 2) e = sA cI 7 (rgA 0 9) e := by rcases hb with rfl | rfl | rfl | rfl <;> rfl
theorem OK.b2 {b : Nat} (h : OK cI cB cZ cO ad w) (hb : isB b) : sA cI 7 (rgA 0 9) (w (b + 2)) := (Iff.of_eq (okc_b2 (cI := cI) (cB := cB) (cZ := cZ) (cO := cO) (ad := ad) hb)).mp (h _ (by have := hb.lt; omega))
theorem okc_b3 {b : Nat} {e : va_E} (hb : isB b) : okc cI cB cZ cO ad (b + 3) e = sA cI 7 anyA e := by rcases hb with rfl | rfl | rfl | rfl <;> rfl
theorem OK.b3 {b : Nat} (h : OK cI cB cZ cO ad w) (hb : isB b) : sA cI 7 anyA (w (b + 3)) := (Iff.of_eq (okc_b3 (cI := cI) (cB := cB) (cZ := cZ) (cO := cO) (ad := ad) hb)).mp (h _ (by have := hb.lt; omega))
theorem okc_b4 {b : Nat} {e : va_E} (hb : isB b) : okc cI cB cZ cO ad (b + 4) e = sA cI 4 anyA e := by rcases hb with rfl | rfl | rfl | rfl <;> rfl
theorem OK.b4 {b : Nat} (h : OK cI cB cZ cO ad w) (hb : isB b) : sA cI 4 anyA (w (b + 4)) := (Iff.of_eq (okc_b4 (cI := cI) (cB := cB) (cZ := cZ) (cO := cO) (ad := ad) hb)).mp (h _ (by have := hb.lt; omega))
theorem okc_b5 {b : Nat} {e : va_E} (hb : isB b) : okc cI cB cZ cO ad (b + 5) e = sA cI 4 (rgA 0 60) e := by rcases hb with rfl | rfl | rfl | rfl <;> rfl
theorem OK.b5 {b : Nat} (h : OK cI cB cZ cO ad w) (hb : isB b) : sA cI 4 (rgA 0 60) (w (b + 5)) := (Iff.of_eq (okc_b5 (cI := cI) (cB := cB) (cZ := cZ) (cO := cO) (ad := ad) hb)).mp (h _ (by have := hb.lt; omega))
theorem okc_b6 {b : Nat} {e : va_E} (hb : isB b) : okc cI cB cZ cO ad (b + 6) e = sA cI 4 anyA e := by rcases hb with rfl | rfl | rfl | rfl <;> rfl
theorem OK.b6 {b : Nat} (h : OK cI cB cZ cO ad w) (hb : isB b) : sA cI 4 anyA (w (b + 6)) := (Iff.of_eq (okc_b6 (cI := cI) (cB := cB) (cZ := cZ) (cO := cO) (ad := ad) hb)).mp (h _ (by have := hb.lt; omega))
theorem okc_b7 {b : Nat} {e : va_E} (hb : isB b) : okc cI cB cZ cO ad (b + 7) e = sR ad 4 (b + 8) 6 e := by rcases hb with rfl | rfl | rfl | rfl <;> rfl
theorem OK.b7 {b : Nat} (h : OK cI cB cZ cO ad w) (hb : isB b) : sR ad 4 (b + 8) 6 (w (b + 7)) := (Iff.of_eq (okc_b7 (cI := cI) (cB := cB) (cZ := cZ) (cO := cO) (ad := ad) hb)).mp (h _ (by have := hb.lt; omega))
theorem okc_b8 {b : Nat} {e : va_E} (hb : isB b) : okc cI cB cZ cO ad (b + 8) e = sA cI 24 anyA e := by rcases hb with rfl | rfl | rfl | rfl <;> rfl
theorem OK.b8 {b : Nat} (h : OK cI cB cZ cO ad w) (hb : isB b) : sA cI 24 anyA (w (b + 8)) := (Iff.of_eq (okc_b8 (cI := cI) (cB := cB) (cZ := cZ) (cO := cO) (ad := ad) hb)).mp (h _ (by have := hb.lt; omega))
theorem okc_b9 {b : Nat} {e : va_E} (hb : isB b) : okc cI cB cZ cO ad (b + 9) e = sR ad 4 (b + 10) 6 e := by rcases hb with rfl | rfl | rfl | rfl <;> rfl
theorem OK.b9 {b : Nat} (h : OK cI cB cZ cO ad w) (hb : isB b) : sR ad 4 (b + 10) 6 (w (b + 9)) := (Iff.of_eq (okc_b9 (cI := cI) (cB := cB) (cZ := cZ) (cO := cO) (ad := ad) hb)).mp (h _ (by have := hb.lt; omega))
theorem okc_b10 {b : Nat} {e : va_E} (hb : isB b) : okc cI cB cZ cO ad (b + 10) e = sA cI 24 anyA e := by rcases hb with rfl | rfl | rfl | rfl <;> rfl
theorem OK.b10 {b : Nat} (h : OK cI cB cZ cO ad w) (hb : isB b) : sA cI 24 anyA (w (b + 10)) := (Iff.of_eq (okc_b10 (cI := cI) (cB := cB) (cZ := cZ) (cO := cO) (ad := ad) hb)).mp (h _ (by have := hb.lt; omega))
theorem okc_b11 {b : Nat} {e : va_E} (hb : isB b) : okc cI cB cZ cO ad (b + 11) e = sR ad 2 (b + 12) 8 e := by rcases hb with rfl | rfl | rfl | rfl <;> rfl
theorem OK.b11 {b : Nat} (h : OK cI cB cZ cO ad w) (hb : isB b) : sR ad 2 (b + 12) 8 (w (b + 11)) := (Iff.of_eq (okc_b11 (cI := cI) (cB := cB) (cZ := cZ) (cO := cO) (ad := ad) hb)).mp (h _ (by have := hb.lt; omega))
theorem okc_b12 {b : Nat} {e : va_E} (hb : isB b) : okc cI cB cZ cO ad (b + 12) e = sA cI 88 pastA e := by rcases hb with rfl | rfl | rfl | rfl <;> rfl
theorem OK.b12 {b : Nat} (h : OK cI cB cZ cO ad w) (hb : isB b) : sA cI 88 pastA (w (b + 12)) := (Iff.of_eq (okc_b12 (cI := cI) (cB := cB) (cZ := cZ) (cO := cO) (ad := ad) hb)).mp (h _ (by have := hb.lt; omega))
theorem rgA_upd {lo hi : Int} {f g : Nat → Int32} {k : Nat} {x : Int32} (h : rgA lo hi f) (e : upd f k x = g) (h1 : lo ≤ x.toInt) (h2 : x.toInt ≤ hi) : rgA lo hi g := by
  subst e
  intro j
  by_cases q : j = k
  · subst q; rw [pk_us]; exact ⟨h1, h2⟩
  · rw [pk_un q]; exact h j
theorem rgA_cpy {lo hi : Int} {f g q : Nat → Int32} {a b c : Nat} (h : rgA lo hi f) (h2 : rgA lo hi g) (e : va_cpy f g a b c = q) : rgA lo hi q := by
  subst e
  intro j
  by_cases t : b ≤ j ∧ j < b + c
  · rw [pk_cpy_in t.1 t.2]; exact h _
  · rw [pk_cpy_out (by omega)]; exact h2 _
theorem rgA_rd {lo hi : Int} {f : Nat → Int32} {k : Nat} {v : Int32} (h : rgA lo hi f) (e : f k = v) : lo ≤ v.toInt ∧ v.toInt ≤ hi := by
  subst e; exact h k
theorem pastA_upd {f g : Nat → Int32} {k : Nat} {x : Int32} (h : pastA f) (e : upd f k x = g) (hk : 4 ≤ k % 11) : pastA g := by
  subst e
  intro j hj
  by_cases q : j = k
  · subst q; omega
  · rw [pk_un q]; exact h j hj
theorem pastA_cpyIn {f g q : Nat → Int32} {b : Nat} (h : rgA 0 60 f) (h2 : pastA g) (e : va_cpy f g 0 b 4 = q) : pastA q := by
  subst e
  intro j hj
  by_cases t : b ≤ j ∧ j < b + 4
  · rw [pk_cpy_in t.1 t.2]; exact h _
  · rw [pk_cpy_out (by omega)]; exact h2 _ hj
theorem pastA_cpyT {f g q : Nat → Int32} {a b : Nat} (h2 : pastA g) (e : va_cpy f g a b 4 = q) (hb : b % 11 = 4) : pastA q := by
  subst e
  intro j hj
  by_cases t : b ≤ j ∧ j < b + 4
  · omega
  · rw [pk_cpy_out (by omega)]; exact h2 _ hj
theorem pastA_shift {f q : Nat → Int32} (h : pastA f) (e : va_cpy f f 11 0 77 = q) : pastA q := by
  subst e
  intro j hj
  by_cases t : 0 ≤ j ∧ j < 0 + 77
  · rw [pk_cpy_in t.1 t.2]; exact h _ (by omega)
  · rw [pk_cpy_out (by omega)]; exact h _ hj
theorem pastA_cpy {f g q : Nat → Int32} (h : pastA f) (h2 : pastA g) (e : va_cpy f g 0 0 88 = q) : pastA q := by
  subst e
  intro j hj
  by_cases t : 0 ≤ j ∧ j < 0 + 88
  · rw [pk_cpy_in t.1 t.2]; exact h _ (by omega)
  · rw [pk_cpy_out (by omega)]; exact h2 _ hj
theorem pastA_out {f g q : Nat → Int32} {a : Nat} (h : pastA f) (h2 : rgA 0 60 g) (e : va_cpy f g a 0 4 = q) (ha : a % 11 = 0) : rgA 0 60 q := by
  subst e
  intro j
  by_cases t : 0 ≤ j ∧ j < 0 + 4
  · rw [pk_cpy_in t.1 t.2]; exact h _ (by omega)
  · rw [pk_cpy_out (by omega)]; exact h2 _
theorem alA_upd {f g : Nat → Int32} {k : Nat} {x : Int32} (h : alA f) (e : upd f k x = g) (hk : 5 ≤ k) : alA g := by
  subst e
  unfold alA
  rw [pk_un (by omega), pk_un (by omega), pk_un (by omega), pk_un (by omega), pk_un (by omega)]
  exact h
theorem alA_upd5 {f g : Nat → Int32} {k : Nat} {x : Int32} (h : alA f) (e : upd f k x = g) (h0 : 0 ≤ x.toInt) (hk : k = 0 ∧ x.toInt ≤ 7 ∨ k = 1 ∧ x.toInt ≤ 4 ∨ k = 2 ∧ x.toInt ≤ 6 ∨ k = 3 ∧ x.toInt ≤ 6 ∨ k = 4 ∧ x.toInt ≤ 8) : alA g := by
  subst e
  unfold alA at h ⊢
  rcases hk with ⟨rfl, h1⟩ | ⟨rfl, h1⟩ | ⟨rfl, h1⟩ | ⟨rfl, h1⟩ | ⟨rfl, h1⟩ <;> simp only [pk_us, pk_un (f := f) (k := 0) (j := 1) (x := x) (by decide), pk_un (f := f) (k := 0) (j := 2) (x := x) (by decide), pk_un (f := f) (k := 0) (j := 3) (x := x) (by decide), pk_un (f := f) (k := 0) (j := 4) (x := x) (by decide), pk_un (f := f) (k := 1) (j := 0) (x := x) (by decide), pk_un (f := f) (k := 1) (j := 2) (x := x) (by decide), pk_un (f := f) (k := 1) (j := 3) (x := x) (by decide), pk_un (f := f) (k := 1) (j := 4) (x := x) (by decide), pk_un (f := f) (k := 2) (j := 0) (x := x) (by decide), pk_un (f := f) (k := 2) (j := 1) (x := x) (by decide), pk_un (f := f) (k := 2) (j := 3) (x := x) (by decide), pk_un (f := f) (k := 2) (j := 4) (x := x) (by decide), pk_un (f := f) (k := 3) (j := 0) (x := x) (by decide), pk_un (f := f) (k := 3) (j := 1) (x := x) (by decide), pk_un (f := f) (k := 3) (j := 2) (x := x) (by decide), pk_un (f := f) (k := 3) (j := 4) (x := x) (by decide), pk_un (f := f) (k := 4) (j := 0) (x := x) (by decide), pk_un (f := f) (k := 4) (j := 1) (x := x) (by decide), pk_un (f := f) (k := 4) (j := 2) (x := x) (by decide), pk_un (f := f) (k := 4) (j := 3) (x := x) (by decide)] <;> omega
theorem alA_rd {f : Nat → Int32} {k : Nat} {v : Int32} (h : alA f) (e : f k = v) : (k = 0 → 0 ≤ v.toInt ∧ v.toInt ≤ 7) ∧ (k = 1 → 0 ≤ v.toInt ∧ v.toInt ≤ 4) ∧ (k = 2 → 0 ≤ v.toInt ∧ v.toInt ≤ 6) ∧ (k = 3 → 0 ≤ v.toInt ∧ v.toInt ≤ 6) ∧ (k = 4 → 0 ≤ v.toInt ∧ v.toInt ≤ 8) := by
  subst e
  unfold alA at h
  refine ⟨fun q => ?_, fun q => ?_, fun q => ?_, fun q => ?_, fun q => ?_⟩ <;> subst q <;> omega
/-! ===== what a call that reads alone leaves as it was ===== -/
def z0 : va_E := .inr (0, [])
def pI (e : va_E) : va_E := match e with | .inr (_, fs) => .inr (1, [fs.getD 3 .null, fs.getD 4 .null]) | .inl q => .inl q
def pT (e : va_E) : va_E := match e with | .inr (_, fs) => .inr (5, [fs.getD 2 .null]) | .inl q => .inl q
def frX (k : Nat) : Bool := decide (k = 0 ∨ k = 6 ∨ k = 7 ∨ k = 12 ∨ k = 13 ∨ (14 ≤ k ∧ k ≤ 26) ∨ (57 ≤ k ∧ k ≤ 63))
def pj (k : Nat) (e : va_E) : va_E := bif decide (k = 1) then pI e else bif decide (k = 55) then pT e else bif frX k then z0 else e
def KX (w w1 : Nat → va_E) : Prop := ∀ k, pj k (w1 k) = pj k (w k)
def frT (k : Nat) : Bool := decide (¬ (k = 54 ∨ k = 56 ∨ 64 ≤ k))
def pt (k : Nat) (e : va_E) : va_E := bif decide (k = 55) then pT e else bif frT k then z0 else e
def KT (w w1 : Nat → va_E) : Prop := ∀ k, pt k (w1 k) = pt k (w k)
def mk65 (f : Nat → Int32) : Nat → Int32 := fun k => bif decide ((4 ≤ k ∧ k ≤ 15) ∨ 89 ≤ k) then 0 else f k
def pA (e : va_E) : va_E := match e with | .inl (c, N, .inl f) => .inl (c, N, .inl (mk65 f)) | q => q
def pM (e : va_E) : va_E := match e with | .inr (_, fs) => .inr (7, [fs.getD 10 .null]) | .inl q => .inl q
def frM (k : Nat) : Bool := decide (k = 68 ∨ k = 69 ∨ k = 70 ∨ k = 72 ∨ k = 73)
def pm (k : Nat) (e : va_E) : va_E := bif decide (k = 64) then pM e else bif decide (k = 65) then pA e else bif frM k then z0 else e
def KM (w w1 : Nat → va_E) : Prop := ∀ k, pm k (w1 k) = pm k (w k)
def frN (k : Nat) : Bool := decide (k = 65 ∨ k = 66 ∨ k = 68 ∨ k = 69 ∨ k = 70 ∨ k = 72 ∨ k = 73)
def pn (k : Nat) (e : va_E) : va_E := bif decide (k = 64) then pM e else bif frN k then z0 else e
def KN (w w1 : Nat → va_E) : Prop := ∀ k, pn k (w1 k) = pn k (w k)
theorem KX.rf : KX w w := fun _ => rfl
theorem KT.rf : KT w w := fun _ => rfl
theorem KM.rf : KM w w := fun _ => rfl
theorem KN.rf : KN w w := fun _ => rfl
theorem KX.tr {a b c : Nat → va_E} (h : KX a b) (g : KX b c) : KX a c := fun k => (g k).trans (h k)
theorem KT.tr {a b c : Nat → va_E} (h : KT a b) (g : KT b c) : KT a c := fun k => (g k).trans (h k)
theorem KM.tr {a b c : Nat → va_E} (h : KM a b) (g : KM b c) : KM a c := fun k => (g k).trans (h k)
theorem KN.tr {a b c : Nat → va_E} (h : KN a b) (g : KN b c) : KN a c := fun k => (g k).trans (h k)
theorem K_up {α : Type} (p : Nat → va_E → α) {a w w1 : Nat → va_E} {b : Nat} {c c0 : va_E} (h : ∀ k, p k (w k) = p k (a k)) (e : w1 = va_up w b c) (f : w b = c0) (g : p b c = p b c0) : ∀ k, p k (w1 k) = p k (a k) := by
  intro k
  rw [e]
  by_cases hb : k = b
  · subst hb; rw [va_up_self, g, ← f]; exact h k
  · rw [va_up_ne _ _ hb]; exact h k
theorem KX.up {a w w1 : Nat → va_E} {b : Nat} {c c0 : va_E} (h : KX a w) (e : w1 = va_up w b c) (f : w b = c0) (g : pj b c = pj b c0) : KX a w1 := K_up pj h e f g
theorem KT.up {a w w1 : Nat → va_E} {b : Nat} {c c0 : va_E} (h : KT a w) (e : w1 = va_up w b c) (f : w b = c0) (g : pt b c = pt b c0) : KT a w1 := K_up pt h e f g
theorem KM.up {a w w1 : Nat → va_E} {b : Nat} {c c0 : va_E} (h : KM a w) (e : w1 = va_up w b c) (f : w b = c0) (g : pm b c = pm b c0) : KM a w1 := K_up pm h e f g
theorem KN.up {a w w1 : Nat → va_E} {b : Nat} {c c0 : va_E} (h : KN a w) (e : w1 = va_up w b c) (f : w b = c0) (g : pn b c = pn b c0) : KN a w1 := K_up pn h e f g
theorem KX.t (h : KX w w1) : KT w w1 := by
  intro k
  have hk := h k
  unfold pj at hk
  unfold pt
  by_cases h1 : k = 55
  · subst h1; exact hk
  · rw [decide_eq_false h1] at hk ⊢
    by_cases h2 : k = 54 ∨ k = 56 ∨ 64 ≤ k
    · have e2 : ¬ k = 1 := by omega
      have e3 : frX k = false := decide_eq_false (by omega)
      have e4 : frT k = false := decide_eq_false (by omega)
      rw [decide_eq_false e2, e3] at hk
      rw [e4]; exact hk
    · have e4 : frT k = true := decide_eq_true h2
      rw [e4]; rfl
theorem KM.n (h : KM w w1) : KN w w1 := by
  intro k
  have hk := h k
  unfold pm at hk
  unfold pn
  by_cases h1 : k = 64
  · subst h1; exact hk
  · rw [decide_eq_false h1] at hk ⊢
    by_cases h2 : k = 65 ∨ k = 66 ∨ k = 68 ∨ k = 69 ∨ k = 70 ∨ k = 72 ∨ k = 73
    · have e2 : frN k = true := decide_eq_true h2
      rw [e2]; rfl
    · have e2 : frN k = false := decide_eq_false h2
      have e3 : ¬ k = 65 := by omega
      have e4 : frM k = false := decide_eq_false (by omega)
      rw [decide_eq_false e3, e4] at hk
      rw [e2]; exact hk
theorem mk65_upd {f g : Nat → Int32} {k : Nat} {x : Int32} (e : upd f k x = g) (hk : 4 ≤ k ∧ k ≤ 15 ∨ 89 ≤ k) : mk65 g = mk65 f := by
  subst e
  funext j
  unfold mk65
  by_cases q : j = k
  · subst q
    have : decide ((4 ≤ j ∧ j ≤ 15) ∨ 89 ≤ j) = true := decide_eq_true hk
    rw [this]; rfl
  · rw [pk_un q]
end OKS
