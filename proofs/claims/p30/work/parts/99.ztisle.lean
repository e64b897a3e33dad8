/-! ===== an isle as the compared calls see it ===== -/
def F65 (w w1 : Nat → va_E) : Prop := ∀ k, k ≠ 65 → w1 k = w k
def F66 (w w1 : Nat → va_E) : Prop := ∀ k, k ≠ 66 → k ≠ 67 → w1 k = w k
def IV (cI : ClassId) (ad : Nat → Nat) (b : Nat) (w : Nat → va_E) (ca ja nz mz : Int32) (hh nc mc : Nat → Int32) : Prop := pI (w b) = .inr (1, [.int ca, .int ja]) ∧ w (b + 2) = .inl (cI, 7, .inl hh) ∧ w (b + 7) = .inr (4, [.ref (ad (b + 8)), .int nz]) ∧ w (b + 8) = .inl (cI, 24, .inl nc) ∧ w (b + 9) = .inr (4, [.ref (ad (b + 10)), .int mz]) ∧ w (b + 10) = .inl (cI, 24, .inl mc)
/-- rows of notes or marks within what a call takes -/
def NRG (hi : Int) (z : Int32) (c : Nat → Int32) : Prop := ∀ r : Nat, (r : Int) < z.toInt → 0 ≤ (c (4 * r + 1)).toInt ∧ (c (4 * r + 1)).toInt ≤ hi ∧ 0 ≤ (c (4 * r + 2)).toInt ∧ (c (4 * r + 2)).toInt ≤ 23
def IRD (F : Nat → Int32) (ca ja nz mz : Int32) (hh nc mc : Nat → Int32) : Prop := F 0 = ca ∧ F 1 = ja ∧ F 2 = nz ∧ F 3 = mz ∧ (∀ i : Nat, (i : Int) < ca.toInt → hh i = F (23 + i)) ∧ (∀ k : Nat, (k : Int) < 4 * nz.toInt → nc k = F (41 + k)) ∧ (∀ k : Nat, (k : Int) < 4 * mz.toInt → mc k = F (65 + k)) ∧ NRG 9 nz nc ∧ NRG 60 mz mc
def KR (w w1 : Nat → va_E) : Prop := pT (w1 55) = pT (w 55) ∧ w1 54 = w 54 ∧ w1 56 = w 56 ∧ (∀ k, 28 ≤ k → k ≤ 53 → w1 k = w k) ∧ ∀ k, 64 ≤ k → w1 k = w k
section ISLS
variable {cI cB cZ cO : ClassId} {ad : Nat → Nat} {w w1 w2 : Nat → va_E}
theorem F65.rf : F65 w w := fun _ _ => rfl
theorem F65.tr {u v x : Nat → va_E} (h : F65 u v) (g : F65 v x) : F65 u x := fun k q => (g k q).trans (h k q)
theorem F65.up {a : Nat → va_E} {c : va_E} (h : F65 a w) (e : w1 = va_up w 65 c) : F65 a w1 := fun k q => by rw [e, va_up_ne _ _ q]; exact h k q
theorem F65.n (h : F65 w w1) : KN w w1 := by
  intro k
  by_cases q : k = 65
  · subst q; rfl
  · rw [h k q]
theorem F66.rf : F66 w w := fun _ _ _ => rfl
theorem F66.tr {u v x : Nat → va_E} (h : F66 u v) (g : F66 v x) : F66 u x := fun k q r => (g k q r).trans (h k q r)
theorem F66.up {a : Nat → va_E} {key : Nat} {c : va_E} (h : F66 a w) (e : w1 = va_up w key c) (hk : key = 66 ∨ key = 67) : F66 a w1 := fun k q r => by rw [e, va_up_ne _ _ (by omega)]; exact h k q r
theorem KR.tr {u v x : Nat → va_E} (h : KR u v) (g : KR v x) : KR u x := ⟨g.1.trans h.1, g.2.1.trans h.2.1, g.2.2.1.trans h.2.2.1, fun k a b => (g.2.2.2.1 k a b).trans (h.2.2.2.1 k a b), fun k a => (g.2.2.2.2 k a).trans (h.2.2.2.2 k a)⟩
theorem KX.cell (h : KX w w1) (k : Nat) (h1 : ¬ k = 1) (h2 : ¬ k = 55) (h3 : frX k = false) : w1 k = w k := by
  have e := h k
  unfold pj at e
  rw [decide_eq_false h1, decide_eq_false h2, h3] at e
  exact e
theorem KX.r (h : KX w w1) : KR w w1 := by
  refine ⟨h 55, h.cell 54 (by decide) (by decide) (by decide), h.cell 56 (by decide) (by decide) (by decide), fun k a b => ?_, fun k a => ?_⟩
  · exact h.cell k (by omega) (by omega) (decide_eq_false (by omega))
  · exact h.cell k (by omega) (by omega) (decide_eq_false (by omega))
theorem FR.r (h : FR 1 w w1) : KR w w1 := ⟨by rw [h 55 (by decide)], h 54 (by decide), h 56 (by decide), fun k a _ => h k (by omega), fun k a => h k (by omega)⟩
theorem KX.iv {ca ja nz mz : Int32} {hh nc mc : Nat → Int32} (h : KX w w1) (v : IV cI ad 1 w ca ja nz mz hh nc mc) : IV cI ad 1 w1 ca ja nz mz hh nc mc := by
  obtain ⟨a, b, c, d, e, f⟩ := v
  have h1 : pI (w1 1) = pI (w 1) := h 1
  exact ⟨h1.trans a, (h.cell 3 (by decide) (by decide) (by decide)).trans b, (h.cell 8 (by decide) (by decide) (by decide)).trans c, (h.cell 9 (by decide) (by decide) (by decide)).trans d, (h.cell 10 (by decide) (by decide) (by decide)).trans e, (h.cell 11 (by decide) (by decide) (by decide)).trans f⟩
theorem IV.same {b : Nat} {ca ja nz mz : Int32} {hh nc mc : Nat → Int32} (v : IV cI ad b w ca ja nz mz hh nc mc) (h : ∀ k, b ≤ k → k ≤ b + 10 → w1 k = w k) : IV cI ad b w1 ca ja nz mz hh nc mc := by
  obtain ⟨a, b1, c, d, e, f⟩ := v
  exact ⟨by rw [h b (by omega) (by omega)]; exact a, (h _ (by omega) (by omega)).trans b1, (h _ (by omega) (by omega)).trans c, (h _ (by omega) (by omega)).trans d, (h _ (by omega) (by omega)).trans e, (h _ (by omega) (by omega)).trans f⟩
theorem IV.ca {b : Nat} {ca ja nz mz : Int32} {hh nc mc : Nat → Int32} {q0 q1 q2 q3 q4 : Int32} {L : List Value} (v : IV cI ad b w ca ja nz mz hh nc mc) (e : w b = .inr (1, .int q0 :: .int q1 :: .int q2 :: .int q3 :: .int q4 :: L)) : q3 = ca ∧ q4 = ja := by
  have a := v.1
  rw [e] at a
  have a2 : (Sum.inr (1, [Value.int q3, Value.int q4]) : va_E) = .inr (1, [.int ca, .int ja]) := a
  injection a2 with a2; injection a2 with _ a2; injection a2 with a3 a4; injection a3 with a3; injection a4 with a4 _; injection a4 with a4
  exact ⟨a3, a4⟩
/-- the cells behind a view -/
theorem IV.cells {b : Nat} {ca ja nz mz : Int32} {hh nc mc : Nat → Int32} (hb : isB b) (ok : OK cI cB cZ cO ad w) (v : IV cI ad b w ca ja nz mz hh nc mc) : ∃ ho so mi : Int32, w b = .inr (1, [.int ho, .int so, .int mi, .int ca, .int ja, .ref (ad (b + 1)), .ref (ad (b + 2)), .ref (ad (b + 3)), .ref (ad (b + 4)), .ref (ad (b + 5)), .ref (ad (b + 6)), .ref (ad (b + 7)), .ref (ad (b + 9)), .ref (ad (b + 11))]) ∧ rgA 0 9 hh ∧ (0 ≤ ca.toInt ∧ ca.toInt ≤ 7) ∧ (0 ≤ ja.toInt ∧ ja.toInt ≤ 4) ∧ (0 ≤ nz.toInt ∧ nz.toInt ≤ 6) ∧ (0 ≤ mz.toInt ∧ mz.toInt ≤ 6) := by
  obtain ⟨q0, q1, q2, q3, q4, e, h1, h2, h3, h4⟩ := ok.b0 hb
  obtain ⟨e3, e4⟩ := v.ca e
  subst e3; subst e4
  have hr := sA_pred (ok.b2 hb) v.2.1
  obtain ⟨z, ez, hz1, hz2⟩ := ok.b7 hb
  obtain ⟨y, ey, hy1, hy2⟩ := ok.b9 hb
  have e7 : z = nz := by
    have t := ez.symm.trans v.2.2.1
    injection t with t; injection t with _ t; injection t with _ t; injection t with t _; injection t
  have e9 : y = mz := by
    have t := ey.symm.trans v.2.2.2.2.1
    injection t with t; injection t with _ t; injection t with _ t; injection t with t _; injection t
  subst e7; subst e9
  exact ⟨q0, q1, q2, e, hr, ⟨h1, h2⟩, ⟨h3, h4⟩, ⟨hz1, hz2⟩, ⟨hy1, hy2⟩⟩
theorem IRD.cong {F F1 : Nat → Int32} {ca ja nz mz : Int32} {hh nc mc hh1 nc1 mc1 : Nat → Int32} (h : IRD F ca ja nz mz hh nc mc) (hb : ca.toInt ≤ 7 ∧ nz.toInt ≤ 6 ∧ mz.toInt ≤ 6) (e : ∀ k, k < 4 ∨ (16 ≤ k ∧ k < 89) → F1 k = F k) (e1 : ∀ j, j < 7 → hh1 j = hh j) (e2 : ∀ j, j < 24 → nc1 j = nc j) (e3 : ∀ j, j < 24 → mc1 j = mc j) : IRD F1 ca ja nz mz hh1 nc1 mc1 := by
  obtain ⟨a, b, c, d, p, q, r, n1, n2⟩ := h
  exact ⟨(e 0 (by omega)).trans a, (e 1 (by omega)).trans b, (e 2 (by omega)).trans c, (e 3 (by omega)).trans d, fun i hi => by rw [e1 i (by omega), e _ (by omega)]; exact p i hi, fun k hk => by rw [e2 k (by omega), e _ (by omega)]; exact q k hk, fun k hk => by rw [e3 k (by omega), e _ (by omega)]; exact r k hk, fun i hi => by rw [e2 _ (by omega), e2 _ (by omega)]; exact n1 i hi, fun i hi => by rw [e3 _ (by omega), e3 _ (by omega)]; exact n2 i hi⟩
def ISL (cI : ClassId) (ad : Nat → Nat) (w : Nat → va_E) : Prop := ∃ (ca ja nz mz : Int32) (hh nc mc f : Nat → Int32), IV cI ad 1 w ca ja nz mz hh nc mc ∧ w 65 = .inl (cI, 177, .inl f) ∧ IRD f ca ja nz mz hh nc mc
def IM (cI : ClassId) (ad : Nat → Nat) (b : Nat) (w : Nat → va_E) (F : Nat → Int32) : Prop := ∃ (ca ja nz mz : Int32) (hh nc mc : Nat → Int32), IV cI ad b w ca ja nz mz hh nc mc ∧ IRD F ca ja nz mz hh nc mc
def IMG (cI cZ : ClassId) (ad : Nat → Nat) (w : Nat → va_E) : Prop := ∃ fl kp : Nat → Int32, w 54 = .inl (cZ, 2, .inl fl) ∧ w 66 = .inl (cI, 354, .inl kp) ∧ (¬ (fl 0).toInt = 0 → IM cI ad 28 w kp) ∧ (¬ (fl 1).toInt = 0 → IM cI ad 41 w (fun k => kp (177 + k)))
theorem IM.same {b : Nat} {F : Nat → Int32} (h : IM cI ad b w F) (e : ∀ k, b ≤ k → k ≤ b + 10 → w1 k = w k) : IM cI ad b w1 F := by
  obtain ⟨ca, ja, nz, mz, hh, nc, mc, v, d⟩ := h
  exact ⟨ca, ja, nz, mz, hh, nc, mc, v.same e, d⟩
theorem IMG.same (h : IMG cI cZ ad w) (h54 : w1 54 = w 54) (h66 : w1 66 = w 66) (e : ∀ k, 28 ≤ k → k ≤ 53 → w1 k = w k) : IMG cI cZ ad w1 := by
  obtain ⟨fl, kp, a, b, c, d⟩ := h
  exact ⟨fl, kp, h54.trans a, h66.trans b, fun q => (c q).same (fun k x y => e k x (by omega)), fun q => (d q).same (fun k x y => e k (by omega) (by omega))⟩
theorem KM.cell (h : KM w w1) (k : Nat) (h1 : ¬ k = 64) (h2 : ¬ k = 65) (h3 : frM k = false) : w1 k = w k := by
  have e := h k
  unfold pm at e
  rw [decide_eq_false h1, decide_eq_false h2, h3] at e
  exact e
theorem KM.row {f : Nat → Int32} (h : KM w w1) (ok : OK cI cB cZ cO ad w1) (e : w 65 = .inl (cI, 177, .inl f)) : ∃ g : Nat → Int32, w1 65 = .inl (cI, 177, .inl g) ∧ ∀ k, k < 4 ∨ (16 ≤ k ∧ k < 89) → g k = f k := by
  obtain ⟨g, eg, _⟩ := (show sA cI 177 alA (w1 65) from ok 65 (by decide))
  refine ⟨g, eg, fun k hk => ?_⟩
  have t : pA (w1 65) = pA (w 65) := h 65
  rw [eg, e] at t
  have t2 : (Sum.inl (cI, 177, Sum.inl (mk65 g)) : va_E) = .inl (cI, 177, .inl (mk65 f)) := t
  have t3 := congrFun (arrq t2) k
  have e9 : decide ((4 ≤ k ∧ k ≤ 15) ∨ 89 ≤ k) = false := decide_eq_false (by omega)
  unfold mk65 at t3
  rw [e9] at t3
  exact t3
def REL2 (cI cB cZ : ClassId) (ad : Nat → Nat) (w : Nat → va_E) : Prop := REL7 cI cB cZ w ∧ ISL cI ad w ∧ IMG cI cZ ad w
theorem REL7.kr (h : REL7 cI cB cZ w) (k : KR w w1) : REL7 cI cB cZ w1 := by
  obtain ⟨⟨⟨z, a, b⟩, f, g, c, d, e1, e2⟩, bs, p, q⟩ := h
  exact ⟨⟨⟨z, k.1.trans a, by rw [k.2.2.2.2 64 (by decide)]; exact b⟩, f, g, k.2.1.trans c, (k.2.2.2.2 67 (by decide)).trans d, e1, e2⟩, bs, k.2.2.1.trans p, (k.2.2.2.2 71 (by decide)).trans q⟩
theorem IMG.kr (h : IMG cI cZ ad w) (k : KR w w1) : IMG cI cZ ad w1 := h.same k.2.1 (k.2.2.2.2 66 (by decide)) k.2.2.2.1
theorem REL2.kx (h : REL2 cI cB cZ ad w) (k : KX w w1) : REL2 cI cB cZ ad w1 := by
  obtain ⟨ca, ja, nz, mz, hh, nc, mc, f, v, e, d⟩ := h.2.1
  exact ⟨h.1.kr k.r, ⟨ca, ja, nz, mz, hh, nc, mc, f, k.iv v, (k.r.2.2.2.2 65 (by decide)).trans e, d⟩, h.2.2.kr k.r⟩
theorem REL2.km (h : REL2 cI cB cZ ad w) (ok : OK cI cB cZ cO ad w) (ok1 : OK cI cB cZ cO ad w1) (k : KM w w1) : REL2 cI cB cZ ad w1 := by
  obtain ⟨ca, ja, nz, mz, hh, nc, mc, f, v, e, d⟩ := h.2.1
  obtain ⟨g, eg, hg⟩ := k.row ok1 e
  obtain ⟨ho, so, mi, e1, hr, hca, hja, hnz, hmz⟩ := v.cells (Or.inl rfl) ok
  refine ⟨h.1.kn k.n, ⟨ca, ja, nz, mz, hh, nc, mc, g, v.same (fun q a b => k.cell q (by omega) (by omega) (decide_eq_false (by omega))), eg, d.cong ⟨hca.2, hnz.2, hmz.2⟩ hg (fun _ _ => rfl) (fun _ _ => rfl) (fun _ _ => rfl)⟩, h.2.2.same (k.cell 54 (by decide) (by decide) (by decide)) (k.cell 66 (by decide) (by decide) (by decide)) (fun q a b => k.cell q (by omega) (by omega) (decide_eq_false (by omega)))⟩
/-- what behind the class's call is left: the rest as it was, the row not yet touched -/
theorem REL2.mid {f : Nat → Int32} (h : REL2 cI cB cZ ad w) (k : KR w w1) : REL7 cI cB cZ w1 ∧ IMG cI cZ ad w1 := ⟨h.1.kr k, h.2.2.kr k⟩
theorem REL2.end65 {ca ja nz mz : Int32} {hh nc mc g : Nat → Int32} (h : REL7 cI cB cZ w ∧ IMG cI cZ ad w) (k : F65 w w1) (v : IV cI ad 1 w ca ja nz mz hh nc mc) (e : w1 65 = .inl (cI, 177, .inl g)) (d : IRD g ca ja nz mz hh nc mc) : REL2 cI cB cZ ad w1 :=
  ⟨h.1.kn k.n, ⟨ca, ja, nz, mz, hh, nc, mc, g, v.same (fun q a b => k q (by omega)), e, d⟩, h.2.same (k 54 (by decide)) (k 66 (by decide)) (fun q a b => k q (by omega))⟩
end ISLS
