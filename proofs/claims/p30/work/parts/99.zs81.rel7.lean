/-! ===== the bytes of the text are the same on both sides ===== -/
def BYT (cI cB : ClassId) (w : Nat → va_E) : Prop := ∃ bs : Nat → Int32, w 56 = .inl (cB, 150, .inl bs) ∧ w 71 = .inl (cI, 150, .inl bs)
def REL7 (cI cB cZ : ClassId) (w : Nat → va_E) : Prop := REL cZ w ∧ BYT cI cB w
section REL7S
variable {cI cB cZ : ClassId} {w w1 w2 : Nat → va_E}
theorem BYT.kt (h : BYT cI cB w) (k : KT w w1) : BYT cI cB w1 := by
  obtain ⟨bs, a, b⟩ := h
  have c56 : w1 56 = w 56 := k 56
  have c71 : w1 71 = w 71 := k 71
  exact ⟨bs, c56.trans a, c71.trans b⟩
theorem BYT.kn (h : BYT cI cB w) (k : KN w w1) : BYT cI cB w1 := by
  obtain ⟨bs, a, b⟩ := h
  have c56 : w1 56 = w 56 := k 56
  have c71 : w1 71 = w 71 := k 71
  exact ⟨bs, c56.trans a, c71.trans b⟩
theorem REL7.kt (h : REL7 cI cB cZ w) (k : KT w w1) : REL7 cI cB cZ w1 := ⟨h.1.kt k, h.2.kt k⟩
theorem REL7.kn (h : REL7 cI cB cZ w) (k : KN w w1) : REL7 cI cB cZ w1 := ⟨h.1.kn k, h.2.kn k⟩
theorem arrq {c : ClassId} {N : Nat} {f g : Nat → Int32} (h : (Sum.inl (c, N, Sum.inl f) : va_E) = .inl (c, N, .inl g)) : f = g := by
  cases h; rfl
theorem BYT.eq {bs ms : Nat → Int32} (h : BYT cI cB w) (e1 : w 56 = .inl (cB, 150, .inl bs)) (e2 : w 71 = .inl (cI, 150, .inl ms)) : bs = ms := by
  obtain ⟨q, a, b⟩ := h
  exact (arrq (e1.symm.trans a)).trans (arrq (b.symm.trans e2))
theorem REL.z {z bl : Int32} (h : REL cZ w) (e55 : pT (w 55) = .inr (5, [.int z])) (e64 : pM (w 64) = .inr (7, [.int bl])) : z = bl := by
  obtain ⟨⟨z0, a, b⟩, -⟩ := h
  have hz : z0 = z := int1 (a.symm.trans e55)
  have hb : z0 = bl := int1 (b.symm.trans e64)
  exact hz.symm.trans hb
theorem rel_type7 {z bl i r1 r2 : Int32} {bs ms : Nat → Int32} (h : REL7 cI cB cZ w) (e55 : pT (w 55) = .inr (5, [.int z])) (f56 : w 56 = .inl (cB, 150, .inl bs)) (e64 : pM (w1 64) = .inr (7, [.int bl])) (f71 : w1 71 = .inl (cI, 150, .inl ms)) (k1 : KL w w1)
    (p1 : (¬ (0 ≤ i.toInt ∧ i.toInt ≤ 127) ∧ KT w w1 ∧ r1 = -2) ∨ ((0 ≤ i.toInt ∧ i.toInt ≤ 127) ∧ 150 ≤ z.toInt ∧ KT w w1 ∧ r1 = -4) ∨ ((0 ≤ i.toInt ∧ i.toInt ≤ 127) ∧ z.toInt < 150 ∧ r1 = z + 1 ∧ pT (w1 55) = .inr (5, [.int (z + 1)]) ∧ w1 56 = .inl (cB, 150, .inl (upd bs z.toNatClampNeg i))))
    (k2 : KV w1 w2)
    (p2 : (¬ (0 ≤ i.toInt ∧ i.toInt ≤ 127) ∧ KN w1 w2 ∧ r2 = -2) ∨ ((0 ≤ i.toInt ∧ i.toInt ≤ 127) ∧ 150 ≤ bl.toInt ∧ KN w1 w2 ∧ r2 = -4) ∨ ((0 ≤ i.toInt ∧ i.toInt ≤ 127) ∧ bl.toInt < 150 ∧ r2 = bl + 1 ∧ pM (w2 64) = .inr (7, [.int (bl + 1)]) ∧ w2 71 = .inl (cI, 150, .inl (upd ms bl.toNatClampNeg i)))) : REL7 cI cB cZ w2 ∧ r1 = r2 := by
  have c64 : w1 64 = w 64 := k1 64 (by decide) (by decide)
  have c71 : w1 71 = w 71 := k1 71 (by decide) (by decide)
  have hb : z = bl := h.1.z e55 (by rw [← c64]; exact e64)
  have hm : bs = ms := h.2.eq f56 (by rw [← c71]; exact f71)
  subst hb; subst hm
  obtain ⟨R, E⟩ := rel_type (i := i) (r1 := r1) (r2 := r2) h.1 e55 e64 k1 (p1.imp id (Or.imp id (fun q => ⟨q.1, q.2.1, q.2.2.1, q.2.2.2.1⟩))) k2 (p2.imp id (Or.imp id (fun q => ⟨q.1, q.2.1, q.2.2.1, q.2.2.2.1⟩)))
  refine ⟨⟨R, ?_⟩, E⟩
  rcases p1 with ⟨q1, q2, q3⟩ | ⟨q1, q2, q3, q4⟩ | ⟨q1, q2, q3, q4, q5⟩
  · rcases p2 with ⟨t1, t2, t3⟩ | ⟨t1, t2, t3, t4⟩ | ⟨t1, t2, t3, t4, t5⟩
    · exact (h.2.kt q2).kn t2
    · exact absurd t1 q1
    · exact absurd t1 q1
  · rcases p2 with ⟨t1, t2, t3⟩ | ⟨t1, t2, t3, t4⟩ | ⟨t1, t2, t3, t4, t5⟩
    · exact absurd q1 t1
    · exact (h.2.kt q3).kn t3
    · omega
  · rcases p2 with ⟨t1, t2, t3⟩ | ⟨t1, t2, t3, t4⟩ | ⟨t1, t2, t3, t4, t5⟩
    · exact absurd q1 t1
    · omega
    · have d56 : w2 56 = w1 56 := k2 56 (by decide) (by decide)
      exact ⟨_, d56.trans q5, t5⟩
theorem rel_clear7 {z bl r1 r2 : Int32} (h : REL7 cI cB cZ w) (e55 : pT (w 55) = .inr (5, [.int z])) (e64 : pM (w1 64) = .inr (7, [.int bl])) (k1 : KL w w1) (p1 : z = r1 ∧ pT (w1 55) = .inr (5, [.int 0]) ∧ w1 56 = w 56) (k2 : KV w1 w2) (p2 : bl = r2 ∧ pM (w2 64) = .inr (7, [.int 0]) ∧ w2 71 = w1 71) : REL7 cI cB cZ w2 ∧ r1 = r2 := by
  obtain ⟨R, E⟩ := rel_clear h.1 e55 e64 k1 ⟨p1.1, p1.2.1⟩ k2 ⟨p2.1, p2.2.1⟩
  obtain ⟨bs, a, b⟩ := h.2
  have c71 : w1 71 = w 71 := k1 71 (by decide) (by decide)
  have d56 : w2 56 = w1 56 := k2 56 (by decide) (by decide)
  exact ⟨⟨R, bs, by rw [d56, p1.2.2]; exact a, by rw [p2.2.2, c71]; exact b⟩, E⟩
theorem rel_image7 {f g : Nat → Int32} {k : Nat} (hk : k = 0 ∨ k = 1) (h : REL7 cI cB cZ w) (e54 : w 54 = .inl (cZ, 2, .inl f)) (e67 : w1 67 = .inl (cZ, 2, .inl g)) (k1 : KI w w1) (p1 : w1 54 = .inl (cZ, 2, .inl (upd f k 1))) (k2 : KP w1 w2) (p2 : w2 67 = .inl (cZ, 2, .inl (upd g k 1))) : REL7 cI cB cZ w2 := by
  obtain ⟨bs, a, b⟩ := h.2
  have c56 : w1 56 = w 56 := k1 56 (by decide)
  have c71 : w1 71 = w 71 := k1 71 (by decide)
  have d56 : w2 56 = w1 56 := k2 56 (by decide)
  have d71 : w2 71 = w1 71 := k2 71 (by decide)
  exact ⟨rel_image hk h.1 e54 e67 k1 p1 k2 p2, bs, by rw [d56, c56]; exact a, by rw [d71, c71]; exact b⟩
end REL7S
