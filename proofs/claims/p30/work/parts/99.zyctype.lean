/-! ===== type and clear, over the whole relation ===== -/
section REL2U
variable {cI cB cZ cO : ClassId} {ad : Nat → Nat} {w w1 w2 : Nat → va_E}
theorem rel_type2 {z bl i r1 r2 : Int32} {bs ms : Nat → Int32} (h : REL2 cI cB cZ ad w) (ok1 : OK cI cB cZ cO ad w1) (ok2 : OK cI cB cZ cO ad w2) (e55 : pT (w 55) = .inr (5, [.int z])) (f56 : w 56 = .inl (cB, 150, .inl bs)) (e64 : pM (w1 64) = .inr (7, [.int bl])) (f71 : w1 71 = .inl (cI, 150, .inl ms)) (k1 : KL w w1)
    (p1 : (¬ (0 ≤ i.toInt ∧ i.toInt ≤ 127) ∧ KX w w1 ∧ r1 = -2) ∨ ((0 ≤ i.toInt ∧ i.toInt ≤ 127) ∧ 150 ≤ z.toInt ∧ KX w w1 ∧ r1 = -4) ∨ ((0 ≤ i.toInt ∧ i.toInt ≤ 127) ∧ z.toInt < 150 ∧ r1 = z + 1 ∧ pT (w1 55) = .inr (5, [.int (z + 1)]) ∧ w1 56 = .inl (cB, 150, .inl (upd bs z.toNatClampNeg i)) ∧ ∀ k, k ≠ 55 → k ≠ 56 → w1 k = w k))
    (k2 : KV w1 w2)
    (p2 : (¬ (0 ≤ i.toInt ∧ i.toInt ≤ 127) ∧ KM w1 w2 ∧ r2 = -2) ∨ ((0 ≤ i.toInt ∧ i.toInt ≤ 127) ∧ 150 ≤ bl.toInt ∧ KM w1 w2 ∧ r2 = -4) ∨ ((0 ≤ i.toInt ∧ i.toInt ≤ 127) ∧ bl.toInt < 150 ∧ r2 = bl + 1 ∧ pM (w2 64) = .inr (7, [.int (bl + 1)]) ∧ w2 71 = .inl (cI, 150, .inl (upd ms bl.toNatClampNeg i)) ∧ ∀ k, k ≠ 64 → k ≠ 71 → w2 k = w1 k)) : REL2 cI cB cZ ad w2 ∧ r1 = r2 := by
  have c64 : w1 64 = w 64 := k1 64 (by decide) (by decide)
  have hb : z = bl := h.1.1.z e55 (by rw [← c64]; exact e64)
  obtain ⟨R, E⟩ := rel_type7 (i := i) (r1 := r1) (r2 := r2) h.1 e55 f56 e64 f71 k1 (p1.imp (fun q => ⟨q.1, q.2.1.t, q.2.2⟩) (Or.imp (fun q => ⟨q.1, q.2.1, q.2.2.1.t, q.2.2.2⟩) (fun q => ⟨q.1, q.2.1, q.2.2.1, q.2.2.2.1, q.2.2.2.2.1⟩))) k2 (p2.imp (fun q => ⟨q.1, q.2.1.n, q.2.2⟩) (Or.imp (fun q => ⟨q.1, q.2.1, q.2.2.1.n, q.2.2.2⟩) (fun q => ⟨q.1, q.2.1, q.2.2.1, q.2.2.2.1, q.2.2.2.2.1⟩)))
  refine ⟨?_, E⟩
  subst hb
  rcases p1 with ⟨q1, q2, q3⟩ | ⟨q1, q2, q3, q4⟩ | ⟨q1, q2, q3, q4, q5, q6⟩
  · rcases p2 with ⟨t1, t2, t3⟩ | ⟨t1, t2, t3, t4⟩ | ⟨t1, t2, t3, t4, t5⟩
    · exact rel_refused h ok1 ok2 q2 t2
    · exact absurd t1 q1
    · exact absurd t1 q1
  · rcases p2 with ⟨t1, t2, t3⟩ | ⟨t1, t2, t3, t4⟩ | ⟨t1, t2, t3, t4, t5⟩
    · exact absurd q1 t1
    · exact rel_refused h ok1 ok2 q3 t3
    · omega
  · rcases p2 with ⟨t1, t2, t3⟩ | ⟨t1, t2, t3, t4⟩ | ⟨t1, t2, t3, t4, t5, t6⟩
    · exact absurd q1 t1
    · omega
    · obtain ⟨ca, ja, nz, mz, hh, nc, mc, f, v, e, d⟩ := h.2.1
      have lo : ∀ k, k ≤ 54 ∨ k = 65 ∨ k = 66 → w2 k = w k := fun k hk => (t6 k (by omega) (by omega)).trans (q6 k (by omega) (by omega))
      exact ⟨R, ⟨ca, ja, nz, mz, hh, nc, mc, f, v.same (fun k x y => lo k (by omega)), (lo 65 (by omega)).trans e, d⟩, h.2.2.same (lo 54 (by omega)) (lo 66 (by omega)) (fun k x y => lo k (by omega))⟩
theorem rel_clear2 {z bl r1 r2 : Int32} (h : REL2 cI cB cZ ad w) (e55 : pT (w 55) = .inr (5, [.int z])) (e64 : pM (w1 64) = .inr (7, [.int bl])) (k1 : KL w w1) (p1 : z = r1 ∧ pT (w1 55) = .inr (5, [.int 0]) ∧ ∀ k, k ≠ 55 → w1 k = w k) (k2 : KV w1 w2) (p2 : bl = r2 ∧ pM (w2 64) = .inr (7, [.int 0]) ∧ ∀ k, k ≠ 64 → w2 k = w1 k) : REL2 cI cB cZ ad w2 ∧ r1 = r2 := by
  obtain ⟨R, E⟩ := rel_clear7 h.1 e55 e64 k1 ⟨p1.1, p1.2.1, p1.2.2 56 (by decide)⟩ k2 ⟨p2.1, p2.2.1, p2.2.2 71 (by decide)⟩
  obtain ⟨ca, ja, nz, mz, hh, nc, mc, f, v, e, d⟩ := h.2.1
  have lo : ∀ k, k ≤ 54 ∨ k = 65 ∨ k = 66 → w2 k = w k := fun k hk => (p2.2.2 k (by omega)).trans (p1.2.2 k (by omega))
  exact ⟨⟨R, ⟨ca, ja, nz, mz, hh, nc, mc, f, v.same (fun k x y => lo k (by omega)), (lo 65 (by omega)).trans e, d⟩, h.2.2.same (lo 54 (by omega)) (lo 66 (by omega)) (fun k x y => lo k (by omega))⟩, E⟩
end REL2U
