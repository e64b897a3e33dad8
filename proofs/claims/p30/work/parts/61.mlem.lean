/-! ===== the model's rows ===== -/
theorem alA_upd0 {f g : Nat → Int32} {k : Nat} (h : alA f) (e : upd f k 0 = g) : alA g := by
  subst e
  have q : ∀ j, 0 ≤ (upd f k 0 j).toInt ∧ ((upd f k 0 j).toInt = 0 ∨ upd f k 0 j = f j) ∨ upd f k 0 j = f j := by
    intro j
    by_cases hj : j = k
    · subst hj; rw [pk_us]; exact Or.inl ⟨by decide, Or.inl rfl⟩
    · rw [pk_un hj]; exact Or.inr rfl
  unfold alA at h ⊢
  have q0 := q 0
  have q1 := q 1
  have q2 := q 2
  have q3 := q 3
  have q4 := q 4
  refine ⟨?_, ?_, ?_, ?_, ?_, ?_, ?_, ?_, ?_, ?_⟩
  · rcases q0 with ⟨a, b | b⟩ | b <;> (try rw [b]) <;> omega
  · rcases q0 with ⟨a, b | b⟩ | b <;> (try rw [b]) <;> omega
  · rcases q1 with ⟨a, b | b⟩ | b <;> (try rw [b]) <;> omega
  · rcases q1 with ⟨a, b | b⟩ | b <;> (try rw [b]) <;> omega
  · rcases q2 with ⟨a, b | b⟩ | b <;> (try rw [b]) <;> omega
  · rcases q2 with ⟨a, b | b⟩ | b <;> (try rw [b]) <;> omega
  · rcases q3 with ⟨a, b | b⟩ | b <;> (try rw [b]) <;> omega
  · rcases q3 with ⟨a, b | b⟩ | b <;> (try rw [b]) <;> omega
  · rcases q4 with ⟨a, b | b⟩ | b <;> (try rw [b]) <;> omega
  · rcases q4 with ⟨a, b | b⟩ | b <;> (try rw [b]) <;> omega
theorem alA_updc {f g u : Nat → Int32} {k : Nat} {x : Int32} (hf : alA f) (hg : alA g) (ev : f k = x) (e : upd g k x = u) : alA u := by
  subst e; subst ev
  have q : ∀ j, upd g k (f k) j = f j ∨ upd g k (f k) j = g j := by
    intro j
    by_cases hj : j = k
    · subst hj; exact Or.inl pk_us
    · exact Or.inr (pk_un hj)
  unfold alA at hf hg ⊢
  have q0 := q 0
  have q1 := q 1
  have q2 := q 2
  have q3 := q 3
  have q4 := q 4
  refine ⟨?_, ?_, ?_, ?_, ?_, ?_, ?_, ?_, ?_, ?_⟩
  · rcases q0 with b | b <;> rw [b] <;> omega
  · rcases q0 with b | b <;> rw [b] <;> omega
  · rcases q1 with b | b <;> rw [b] <;> omega
  · rcases q1 with b | b <;> rw [b] <;> omega
  · rcases q2 with b | b <;> rw [b] <;> omega
  · rcases q2 with b | b <;> rw [b] <;> omega
  · rcases q3 with b | b <;> rw [b] <;> omega
  · rcases q3 with b | b <;> rw [b] <;> omega
  · rcases q4 with b | b <;> rw [b] <;> omega
  · rcases q4 with b | b <;> rw [b] <;> omega
/-- an array that takes single places over from another -/
theorem keA_upd0 {f g u : Nat → Int32} {k n : Nat} {x : Int32} (hf : alA f) (hg : keA g) (ev : f k = x) (e : upd g n x = u) (hn : n = k) (hk : k < 177) : keA u := by
  subst hn
  refine ⟨alA_updc hf hg.1 ev e, ?_⟩
  have : (fun j => u (177 + j)) = fun j => g (177 + j) := by
    funext j
    show u (177 + j) = g (177 + j)
    rw [← e, pk_un (by omega)]
  rw [this]; exact hg.2
theorem keA_upd1 {f g u : Nat → Int32} {k n : Nat} {x : Int32} (hf : alA f) (hg : keA g) (ev : f k = x) (e : upd g n x = u) (hn : n = 177 + k) (hk : k < 177) : keA u := by
  subst hn
  have e1 : upd (fun j => g (177 + j)) k x = fun j => u (177 + j) := by
    funext j
    show upd (fun j => g (177 + j)) k x j = u (177 + j)
    rw [← e]
    by_cases hj : j = k
    · subst hj; rw [pk_us, pk_us]
    · rw [pk_un hj, pk_un (by omega)]
  refine ⟨?_, alA_updc hf hg.2 ev e1⟩
  have h1 := hg.1
  unfold alA at h1 ⊢
  rw [← e, pk_un (by omega), pk_un (by omega), pk_un (by omega), pk_un (by omega), pk_un (by omega)]
  exact h1
theorem alA_from0 {f g u : Nat → Int32} {k n : Nat} {x : Int32} (hf : keA f) (hg : alA g) (ev : f n = x) (e : upd g k x = u) (hn : n = k) : alA u := by
  subst hn; exact alA_updc hf.1 hg ev e
theorem alA_from1 {f g u : Nat → Int32} {k n : Nat} {x : Int32} (hf : keA f) (hg : alA g) (ev : f n = x) (e : upd g k x = u) (hn : n = 177 + k) : alA u := by
  subst hn; exact alA_updc (f := fun j => f (177 + j)) hf.2 hg ev e
def U7 (cI : ClassId) (w : Nat → va_E) : Prop := ∃ f : Nat → Int32, w 65 = .inl (cI, 177, .inl f) ∧ alA f ∧ (f 4).toInt ≤ 7
theorem x_lrem {x y : Int64} (h : ¬ y.toInt = 0) : ∃ z : Int64, x - x / y * y = z ∧ (0 < y.toInt → -y.toInt < z.toInt ∧ z.toInt < y.toInt) ∧ (y.toInt < 0 → y.toInt < z.toInt ∧ z.toInt < -y.toInt) := by
  refine ⟨_, rfl, ?_⟩
  have l1 := Int64.toInt_lt x
  have l2 := Int64.le_toInt x
  have l3 := Int64.toInt_lt y
  have l4 := Int64.le_toInt y
  have hm : x.toInt - x.toInt.tdiv y.toInt * y.toInt = x.toInt.tmod y.toInt := by
    have := Int.mul_tdiv_add_tmod x.toInt y.toInt
    have h2 : x.toInt.tdiv y.toInt * y.toInt = y.toInt * x.toInt.tdiv y.toInt := Int.mul_comm _ _
    omega
  have hb1 : 0 < y.toInt → -y.toInt < x.toInt.tmod y.toInt ∧ x.toInt.tmod y.toInt < y.toInt := by
    intro hy
    refine ⟨?_, Int.tmod_lt_of_pos _ hy⟩
    have := Int.tmod_lt_of_pos (-x.toInt) hy
    rw [Int.neg_tmod] at this
    omega
  have hb2 : y.toInt < 0 → y.toInt < x.toInt.tmod y.toInt ∧ x.toInt.tmod y.toInt < -y.toInt := by
    intro hy
    have e : x.toInt.tmod y.toInt = x.toInt.tmod (-y.toInt) := by rw [Int.tmod_neg]
    rw [e]
    have h0 : 0 < -y.toInt := by omega
    have := Int.tmod_lt_of_pos (-x.toInt) h0
    rw [Int.neg_tmod] at this
    have h1 := Int.tmod_lt_of_pos x.toInt h0
    omega
  have hz : (x - x / y * y).toInt = x.toInt.tmod y.toInt := by
    rw [Int64.toInt_sub, Int64.toInt_mul, Int64.toInt_div, Int.bmod_mul_bmod, Int.sub_bmod_bmod, hm]
    rw [Int.bmod_eq_of_le]
    · omega
    · omega
  rw [hz]
  exact ⟨hb1, hb2⟩
section KVS
variable {w w1 : Nat → va_E}
def KV (w w1 : Nat → va_E) : Prop := ∀ k, k ≠ 64 → k ≠ 71 → pn k (w1 k) = pn k (w k)
theorem KV.rf : KV w w := fun _ _ _ => rfl
theorem KN.v (h : KN w w1) : KV w w1 := fun k _ _ => h k
theorem KV.tr {u v x : Nat → va_E} (h : KV u v) (g : KV v x) : KV u x := fun k q r => (g k q r).trans (h k q r)
theorem KV.up {a : Nat → va_E} {key : Nat} {c c0 : va_E} (h : KV a w) (e : w1 = va_up w key c) (f : w key = c0) (g : key = 64 ∨ key = 71 ∨ pn key c = pn key c0) : KV a w1 := by
  intro k hk hk2
  rw [e]
  by_cases q : k = key
  · subst q
    rcases g with g | g | g
    · exact absurd g hk
    · exact absurd g hk2
    · rw [va_up_self, g, ← f]; exact h k hk hk2
  · rw [va_up_ne _ _ q]; exact h k hk hk2
def KP (w w1 : Nat → va_E) : Prop := ∀ k, k ≠ 67 → pn k (w1 k) = pn k (w k)
theorem KP.rf : KP w w := fun _ _ => rfl
theorem KN.p (h : KN w w1) : KP w w1 := fun k _ => h k
theorem KP.tr {u v x : Nat → va_E} (h : KP u v) (g : KP v x) : KP u x := fun k q => (g k q).trans (h k q)
theorem KP.up {a : Nat → va_E} {key : Nat} {c c0 : va_E} (h : KP a w) (e : w1 = va_up w key c) (f : w key = c0) (g : key = 67 ∨ pn key c = pn key c0) : KP a w1 := by
  intro k hk
  rw [e]
  by_cases q : k = key
  · subst q
    rcases g with g | g
    · exact absurd g hk
    · rw [va_up_self, g, ← f]; exact h k hk
  · rw [va_up_ne _ _ q]; exact h k hk
def F6 (w w1 : Nat → va_E) : Prop := ∀ k, k ≠ 64 → w1 k = w k
theorem F6.rf : F6 w w := fun _ _ => rfl
theorem F6.tr {u v x : Nat → va_E} (h : F6 u v) (g : F6 v x) : F6 u x := fun k q => (g k q).trans (h k q)
theorem F6.up {a : Nat → va_E} {c : va_E} (h : F6 a w) (e : w1 = va_up w 64 c) : F6 a w1 := fun k q => by rw [e, va_up_ne _ _ q]; exact h k q
end KVS
section F7S
variable {w w1 : Nat → va_E}
def F7 (w w1 : Nat → va_E) : Prop := ∀ k, k ≠ 64 → k ≠ 73 → w1 k = w k
theorem F7.rf : F7 w w := fun _ _ _ => rfl
theorem F7.tr {u v x : Nat → va_E} (h : F7 u v) (g : F7 v x) : F7 u x := fun k q r => (g k q r).trans (h k q r)
theorem F7.up {a : Nat → va_E} {key : Nat} {c : va_E} (h : F7 a w) (e : w1 = va_up w key c) (hk : key = 64 ∨ key = 73) : F7 a w1 := fun k q r => by rw [e, va_up_ne _ _ (by omega)]; exact h k q r
theorem F6.f7 (h : F6 w w1) : F7 w w1 := fun k q _ => h k q
theorem F7.m {x y x1 y1 : Int64} {ad : Nat → Nat} {a z b c d g a1 b1 c1 d1 g1 : Int32} (h : F7 w w1) (e : w 64 = .inr (7, [.ref (ad 65), .ref (ad 66), .ref (ad 67), .ref (ad 68), .long x, .long y, .ref (ad 69), .int a, .ref (ad 70), .ref (ad 71), .int z, .int b, .int c, .int d, .int g, .ref (ad 72), .ref (ad 73)])) (e1 : w1 64 = .inr (7, [.ref (ad 65), .ref (ad 66), .ref (ad 67), .ref (ad 68), .long x1, .long y1, .ref (ad 69), .int a1, .ref (ad 70), .ref (ad 71), .int z, .int b1, .int c1, .int d1, .int g1, .ref (ad 72), .ref (ad 73)])) : KM w w1 := by
  intro k
  by_cases q : k = 64
  · subst q; rw [e, e1]; rfl
  · by_cases q2 : k = 73
    · subst q2; rfl
    · rw [h k q q2]
theorem ilo (x : Int32) : -2147483648 ≤ x.toInt := Int32.le_toInt x
theorem ihi (x : Int32) : x.toInt ≤ 2147483647 := by have := Int32.toInt_lt x; omega
theorem llo (x : Int64) : -9223372036854775808 ≤ x.toInt := Int64.le_toInt x
theorem lhi (x : Int64) : x.toInt ≤ 9223372036854775807 := by have := Int64.toInt_lt x; omega
end F7S
theorem spell1 {r : Int32} {P Q : Prop} (h0 : 0 ≤ r.toInt) (h1 : r.toInt ≤ 1) (hp : r.toInt = 0 ∨ P) (hq : r.toInt = 0 ∨ Q) : (P ∧ Q ∧ r = 1) ∨ r = 0 := by
  rcases b01 h0 h1 with rfl | rfl
  · exact Or.inl ⟨hp.resolve_left (by decide), hq.resolve_left (by decide), rfl⟩
  · exact Or.inr rfl
