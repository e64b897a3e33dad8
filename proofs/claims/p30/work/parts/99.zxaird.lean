/-! ===== each call that changes an isle, on both sides ===== -/
section IRDS
variable {f : Nat → Int32} {ca ja nz mz : Int32} {hh nc mc : Nat → Int32}
theorem NRG.no {hi : Int} {c : Nat → Int32} : NRG hi 0 c := fun r hr => by
  have e0 : (0 : Int32).toInt = 0 := rfl
  rw [e0] at hr; omega
theorem IRD.beg {g : Nat → Int32} {t : Int32} (h : ∀ k, k < 89 → g k = begF t k) : IRD g 0 0 0 0 hh nc mc := by
  have e0 : (0 : Int32).toInt = 0 := rfl
  refine ⟨(h 0 (by decide)).trans rfl, (h 1 (by decide)).trans rfl, (h 2 (by decide)).trans rfl, (h 3 (by decide)).trans rfl, fun i hi => ?_, fun k hk => ?_, fun k hk => ?_, NRG.no, NRG.no⟩
  · rw [e0] at hi; omega
  · rw [e0] at hk; omega
  · rw [e0] at hk; omega
theorem IRD.cast (h : IRD f ca ja nz mz hh nc mc) (h0 : 0 ≤ ca.toInt) (hc : ca.toInt < 7) (h2 : nz.toInt ≤ 6) (h3 : mz.toInt ≤ 6) (k q t : Int32) : IRD (upd (layCF f k q t) 4 0) (ca + 1) ja nz mz (upd hh ca.toNatClampNeg q) nc mc := by
  obtain ⟨a, b, c, d, p, q1, r, n1, n2⟩ := h
  have cn := cl_of h0
  have ci := inc32 h0 (by omega)
  unfold layCF
  rw [a]
  refine ⟨?_, ?_, ?_, ?_, fun i hi => ?_, fun j hj => ?_, fun j hj => ?_, n1, n2⟩
  · rw [pk_un (by omega), pk_us]
  · rw [pk_un (by omega), pk_un (by omega), pk_un (by omega), pk_un (by omega), pk_un (by omega)]; exact b
  · rw [pk_un (by omega), pk_un (by omega), pk_un (by omega), pk_un (by omega), pk_un (by omega)]; exact c
  · rw [pk_un (by omega), pk_un (by omega), pk_un (by omega), pk_un (by omega), pk_un (by omega)]; exact d
  · rw [ci] at hi
    by_cases e : i = ca.toNatClampNeg
    · subst e
      rw [pk_us, pk_un (by omega), pk_un (by omega), pk_un (by omega), pk_us]
    · rw [pk_un e, pk_un (by omega), pk_un (by omega), pk_un (by omega), pk_un (by omega), pk_un (by omega)]; exact p i (by omega)
  · rw [pk_un (by omega), pk_un (by omega), pk_un (by omega), pk_un (by omega), pk_un (by omega)]; exact q1 j hj
  · rw [pk_un (by omega), pk_un (by omega), pk_un (by omega), pk_un (by omega), pk_un (by omega)]; exact r j hj
theorem IRD.jar (h : IRD f ca ja nz mz hh nc mc) (h0 : 0 ≤ ja.toInt) (hc : ja.toInt < 4) (h1 : ca.toInt ≤ 7) (h2 : nz.toInt ≤ 6) (h3 : mz.toInt ≤ 6) (k : Int32) : IRD (upd (layJF f k) 4 0) ca (ja + 1) nz mz hh nc mc := by
  obtain ⟨a, b, c, d, p, q1, r, n1, n2⟩ := h
  have cn := cl_of h0
  unfold layJF
  rw [b]
  refine ⟨?_, ?_, ?_, ?_, fun i hi => ?_, fun j hj => ?_, fun j hj => ?_, n1, n2⟩
  · rw [pk_un (by omega), pk_un (by omega), pk_un (by omega)]; exact a
  · rw [pk_un (by omega), pk_us]
  · rw [pk_un (by omega), pk_un (by omega), pk_un (by omega)]; exact c
  · rw [pk_un (by omega), pk_un (by omega), pk_un (by omega)]; exact d
  · rw [pk_un (by omega), pk_un (by omega), pk_un (by omega)]; exact p i hi
  · rw [pk_un (by omega), pk_un (by omega), pk_un (by omega)]; exact q1 j hj
  · rw [pk_un (by omega), pk_un (by omega), pk_un (by omega)]; exact r j hj
theorem u4_val {g : Nat → Int32} {n k : Nat} {a b c d : Int32} : upd (upd (upd (upd g n a) (n + 1) b) (n + 2) c) (n + 3) d k = if k = n + 3 then d else if k = n + 2 then c else if k = n + 1 then b else if k = n then a else g k := by
  by_cases e3 : k = n + 3
  · subst e3; rw [pk_us, if_pos rfl]
  · rw [pk_un e3, if_neg e3]
    by_cases e2 : k = n + 2
    · subst e2; rw [pk_us, if_pos rfl]
    · rw [pk_un e2, if_neg e2]
      by_cases e1 : k = n + 1
      · subst e1; rw [pk_us, if_pos rfl]
      · rw [pk_un e1, if_neg e1]
        by_cases e0 : k = n
        · subst e0; rw [pk_us, if_pos rfl]
        · rw [pk_un e0, if_neg e0]
theorem u4_at {f g : Nat → Int32} {n m o : Nat} {a b c d : Int32} (hm : m = o + n) (h : ∀ k, k < n → g k = f (o + k)) : ∀ k, k < n + 4 → upd (upd (upd (upd g n a) (n + 1) b) (n + 2) c) (n + 3) d k = upd (upd (upd (upd f m a) (m + 1) b) (m + 2) c) (m + 3) d (o + k) := by
  subst hm
  intro k hk
  rw [u4_val, u4_val]
  by_cases e3 : k = n + 3
  · rw [if_pos e3, if_pos (show o + k = o + n + 3 by omega)]
  · rw [if_neg e3, if_neg (show ¬ o + k = o + n + 3 by omega)]
    by_cases e2 : k = n + 2
    · rw [if_pos e2, if_pos (show o + k = o + n + 2 by omega)]
    · rw [if_neg e2, if_neg (show ¬ o + k = o + n + 2 by omega)]
      by_cases e1 : k = n + 1
      · rw [if_pos e1, if_pos (show o + k = o + n + 1 by omega)]
      · rw [if_neg e1, if_neg (show ¬ o + k = o + n + 1 by omega)]
        by_cases e0 : k = n
        · rw [if_pos e0, if_pos (show o + k = o + n by omega)]
        · rw [if_neg e0, if_neg (show ¬ o + k = o + n by omega)]; exact h k (by omega)
theorem u4_out {f : Nat → Int32} {m k : Nat} {a b c d : Int32} (h : k < m ∨ m + 4 ≤ k) : upd (upd (upd (upd f m a) (m + 1) b) (m + 2) c) (m + 3) d k = f k := by
  rw [pk_un (by omega), pk_un (by omega), pk_un (by omega), pk_un (by omega)]
theorem NRG.add {hi : Int} {z : Int32} {c : Nat → Int32} {n : Nat} {i q t x : Int32} (h : NRG hi z c) (h0 : 0 ≤ z.toInt) (h1 : z.toInt < 1000) (hn : (n : Int) = 4 * z.toInt) (hq : 0 ≤ q.toInt ∧ q.toInt ≤ hi) (ht : 0 ≤ t.toInt ∧ t.toInt ≤ 23) : NRG hi (z + 1) (upd (upd (upd (upd c n i) (n + 1) q) (n + 2) t) (n + 3) x) := by
  intro r hr
  rw [inc32 h0 h1] at hr
  by_cases e : (r : Int) < z.toInt
  · rw [u4_out (by omega), u4_out (by omega)]; exact h r e
  · have e1 : 4 * r + 1 = n + 1 := by omega
    have e2 : 4 * r + 2 = n + 2 := by omega
    rw [e1, e2, pk_un (by omega), pk_un (by omega), pk_us, pk_un (by omega), pk_us]
    exact ⟨hq.1, hq.2, ht.1, ht.2⟩
theorem IRD.note (h : IRD f ca ja nz mz hh nc mc) (h0 : 0 ≤ nz.toInt) (hc : nz.toInt < 6) (h1 : ca.toInt ≤ 7) (h3 : mz.toInt ≤ 6) {n m : Nat} (hn : (n : Int) = 4 * nz.toInt) (hm : (m : Int) = 41 + 4 * (f 2).toInt) (i q t x : Int32) (hq : 0 ≤ q.toInt ∧ q.toInt ≤ 9) (ht : 0 ≤ t.toInt ∧ t.toInt ≤ 23) : IRD (upd (upd (upd (upd (upd f m i) (m + 1) q) (m + 2) t) (m + 3) x) 2 (f 2 + 1)) ca ja (nz + 1) mz hh (upd (upd (upd (upd nc n i) (n + 1) q) (n + 2) t) (n + 3) x) mc := by
  obtain ⟨a, b, c, d, p, q1, r, n1, n2⟩ := h
  have ci := inc32 h0 (by omega)
  rw [c] at hm
  rw [c]
  refine ⟨?_, ?_, pk_us, ?_, fun i hi => ?_, fun j hj => ?_, fun j hj => ?_, n1.add h0 (by omega) hn hq ht, n2⟩
  · rw [pk_un (by omega), u4_out (by omega)]; exact a
  · rw [pk_un (by omega), u4_out (by omega)]; exact b
  · rw [pk_un (by omega), u4_out (by omega)]; exact d
  · rw [pk_un (by omega), u4_out (by omega)]; exact p i hi
  · rw [ci] at hj
    rw [pk_un (k := 2) (j := 41 + j) (by omega)]
    exact u4_at (o := 41) (by omega) (fun k hk => q1 k (by omega)) j (by omega)
  · rw [pk_un (by omega), u4_out (by omega)]; exact r j hj
theorem IRD.mark (h : IRD f ca ja nz mz hh nc mc) (h0 : 0 ≤ mz.toInt) (hc : mz.toInt < 6) (h1 : ca.toInt ≤ 7) (h2 : nz.toInt ≤ 6) {n m : Nat} (hn : (n : Int) = 4 * mz.toInt) (hm : (m : Int) = 65 + 4 * (f 3).toInt) (i q t x : Int32) (hq : 0 ≤ q.toInt ∧ q.toInt ≤ 60) (ht : 0 ≤ t.toInt ∧ t.toInt ≤ 23) : IRD (upd (upd (upd (upd (upd f m i) (m + 1) q) (m + 2) t) (m + 3) x) 3 (f 3 + 1)) ca ja nz (mz + 1) hh nc (upd (upd (upd (upd mc n i) (n + 1) q) (n + 2) t) (n + 3) x) := by
  obtain ⟨a, b, c, d, p, q1, r, n1, n2⟩ := h
  have ci := inc32 h0 (by omega)
  rw [d] at hm
  rw [d]
  refine ⟨?_, ?_, ?_, pk_us, fun i hi => ?_, fun j hj => ?_, fun j hj => ?_, n1, n2.add h0 (by omega) hn hq ht⟩
  · rw [pk_un (by omega), u4_out (by omega)]; exact a
  · rw [pk_un (by omega), u4_out (by omega)]; exact b
  · rw [pk_un (by omega), u4_out (by omega)]; exact c
  · rw [pk_un (by omega), u4_out (by omega)]; exact p i hi
  · rw [pk_un (by omega), u4_out (by omega)]; exact q1 j hj
  · rw [ci] at hj
    rw [pk_un (k := 3) (j := 65 + j) (by omega)]
    exact u4_at (o := 65) (by omega) (fun k hk => r k (by omega)) j (by omega)
theorem IRD.no2 (h : IRD f ca ja nz mz hh nc mc) : IRD (upd f 2 0) ca ja 0 mz hh nc mc := by
  obtain ⟨a, b, c, d, p, q1, r, n1, n2⟩ := h
  have e0 : (0 : Int32).toInt = 0 := rfl
  refine ⟨by rw [pk_un (by decide)]; exact a, by rw [pk_un (by decide)]; exact b, pk_us, by rw [pk_un (by decide)]; exact d, fun i hi => by rw [pk_un (by omega)]; exact p i hi, fun k hk => ?_, fun k hk => by rw [pk_un (by omega)]; exact r k hk, NRG.no, n2⟩
  rw [e0] at hk; omega
theorem IRD.no3 (h : IRD f ca ja nz mz hh nc mc) : IRD (upd f 3 0) ca ja nz 0 hh nc mc := by
  obtain ⟨a, b, c, d, p, q1, r, n1, n2⟩ := h
  have e0 : (0 : Int32).toInt = 0 := rfl
  refine ⟨by rw [pk_un (by decide)]; exact a, by rw [pk_un (by decide)]; exact b, by rw [pk_un (by decide)]; exact c, pk_us, fun i hi => by rw [pk_un (by omega)]; exact p i hi, fun k hk => by rw [pk_un (by omega)]; exact q1 k hk, fun k hk => ?_, n1, NRG.no⟩
  rw [e0] at hk; omega
end IRDS
section REL2S
variable {cI cB cZ cO : ClassId} {ad : Nat → Nat} {w w1 w2 : Nat → va_E} {f : Nat → Int32} {ca ja nz mz : Int32} {hh nc mc : Nat → Int32}
theorem rel_refused (h : REL2 cI cB cZ ad w) (ok1 : OK cI cB cZ cO ad w1) (ok2 : OK cI cB cZ cO ad w2) (k1 : KX w w1) (k2 : KM w1 w2) : REL2 cI cB cZ ad w2 := (h.kx k1).km ok1 ok2 k2
theorem rel_end (h : REL2 cI cB cZ ad w) (k1 : FR 1 w w1) {ca ja nz mz : Int32} {hh nc mc g : Nat → Int32} (v : IV cI ad 1 w1 ca ja nz mz hh nc mc) (k2 : F65 w1 w2) (e : w2 65 = .inl (cI, 177, .inl g)) (d : IRD g ca ja nz mz hh nc mc) : REL2 cI cB cZ ad w2 :=
  REL2.end65 ⟨h.1.kr k1.r, h.2.2.kr k1.r⟩ k2 v e d
/-- three ways on both sides -/
theorem three {G L M : Prop} {A B C A2 B2 C2 R : Prop} (p1 : (¬ G ∧ A) ∨ (G ∧ L ∧ B) ∨ (G ∧ ¬ L ∧ C)) (hLM : L ↔ M) (p2 : (¬ G ∧ A2) ∨ (G ∧ M ∧ B2) ∨ (G ∧ ¬ M ∧ C2)) (h1 : A → A2 → R) (h2 : G → L → B → B2 → R) (h3 : G → ¬ L → C → C2 → R) : R := by
  rcases p1 with ⟨g, a⟩ | ⟨g, l, b⟩ | ⟨g, l, c⟩
  · rcases p2 with ⟨_, a2⟩ | ⟨g2, _⟩ | ⟨g2, _⟩
    · exact h1 a a2
    · exact absurd g2 g
    · exact absurd g2 g
  · rcases p2 with ⟨g2, _⟩ | ⟨_, _, b2⟩ | ⟨_, m, _⟩
    · exact absurd g g2
    · exact h2 g l b b2
    · exact absurd (hLM.mp l) m
  · rcases p2 with ⟨g2, _⟩ | ⟨_, m, _⟩ | ⟨_, _, c2⟩
    · exact absurd g g2
    · exact absurd (hLM.mpr m) l
    · exact h3 g l c c2
theorem two {G : Prop} {A C A2 C2 R : Prop} (p1 : (¬ G ∧ A) ∨ (G ∧ C)) (p2 : (¬ G ∧ A2) ∨ (G ∧ C2)) (h1 : A → A2 → R) (h3 : G → C → C2 → R) : R := by
  rcases p1 with ⟨g, a⟩ | ⟨g, c⟩
  · rcases p2 with ⟨_, a2⟩ | ⟨g2, _⟩
    · exact h1 a a2
    · exact absurd g2 g
  · rcases p2 with ⟨g2, _⟩ | ⟨_, c2⟩
    · exact absurd g g2
    · exact h3 g c c2
end REL2S
