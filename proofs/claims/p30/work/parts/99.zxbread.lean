/-! ===== what is read has neither notes nor marks ===== -/
def Z23 (G : Nat → Int32) : Prop := G 2 = 0 ∧ G 3 = 0
section Z23S
variable {G G1 : Nat → Int32} {bs : Nat → Int32} {len p q : Nat}
theorem Z23.upd (h : Z23 G) {k : Nat} (hk : k ≠ 2 ∧ k ≠ 3) (x : Int32) : Z23 (upd G k x) := ⟨by rw [pk_un (by omega)]; exact h.1, by rw [pk_un (by omega)]; exact h.2⟩
theorem Z23.goIn (h : Z23 G) (j : Nat) (x t : Int32) : Z23 (goInF G j x t) := by
  unfold goInF
  split
  · exact (h.upd (by omega) _).upd (by omega) _
  · exact h
theorem Z23.goLa (h : Z23 G) (i : Int32) (j : Nat) : Z23 (goLaF G i j) := Z23.goIn (h.upd (by decide) _) _ _ _
theorem Z23.goPo (h : Z23 G) (j k : Nat) : Z23 (goPoF G j k) := (h.goIn _ _ _).upd (by omega) _
theorem Z23.goHo (h : Z23 G) : Z23 (goHoF G) := by
  have h1 : Z23 (losN (G 1).toNatClampNeg G) := ⟨(losN_out (by decide) _).trans h.1, (losN_out (by decide) _).trans h.2⟩
  exact (h1.upd (by decide) _).upd (by decide) _
theorem Z23.goHs : ∀ (n : Nat) (G : Nat → Int32), Z23 G → Z23 (goHsF n G) := by
  intro n
  induction n with
  | zero => intro G h; exact h
  | succ n ih =>
    intro G h
    show Z23 (if (G 5).toInt < 9999 then goHsF n (goHoF G) else G)
    split
    · exact ih _ h.goHo
    · exact h
theorem Z23.layC (h : Z23 G) (k x t : Int32) : Z23 (layCF G k x t) := (((h.upd (by omega) _).upd (by omega) _).upd (by omega) _).upd (by omega) _
theorem Z23.layJ (h : Z23 G) (k : Int32) : Z23 (layJF G k) := (h.upd (by omega) _).upd (by omega) _
theorem Z23.beg (t : Int32) : Z23 (begF t) := ⟨rfl, rfl⟩
theorem stop_row (h : stopF bs len p G = .inr (q, G1)) : G1 = G := by
  rcases pick_c h with ⟨_, h⟩ | ⟨_, h⟩
  · injection h with h; injection h with _ h; exact h.symm
  · cases h
theorem it0_23 (h : it0 bs len p G = .inr (q, G1)) : Z23 G1 := by
  rcases pick_c h with ⟨_, h⟩ | ⟨_, h⟩
  · rw [stop_row h]; exact Z23.beg _
  · cases h
theorem it1_23 (hz : Z23 G) (h : it1 bs len p G = .inr (q, G1)) : Z23 G1 := by
  rcases pick_c h with ⟨_, h⟩ | ⟨_, h⟩
  · rcases pick_c h with ⟨_, h⟩ | ⟨_, h⟩
    · rcases pick_c h with ⟨_, h⟩ | ⟨_, h⟩
      · rw [stop_row h]; exact hz.layC _ _ _
      · cases h
    · cases h
  · cases h
theorem it2_23 (hz : Z23 G) (h : it2 bs len p G = .inr (q, G1)) : Z23 G1 := by
  rcases pick_c h with ⟨_, h⟩ | ⟨_, h⟩
  · rw [stop_row h]; exact hz.layJ _
  · cases h
theorem it3_23 (hz : Z23 G) (h : it3 bs len p G = .inr (q, G1)) : Z23 G1 := by
  rcases pick_c h with ⟨_, h⟩ | ⟨_, h⟩
  · rcases pick_c h with ⟨_, h⟩ | ⟨_, h⟩
    · rw [stop_row h]; exact hz.goLa _ _
    · cases h
  · cases h
theorem it4_23 (hz : Z23 G) (h : it4 bs len p G = .inr (q, G1)) : Z23 G1 := by
  rcases pick_c h with ⟨_, h⟩ | ⟨_, h⟩
  · rcases pick_c h with ⟨_, h⟩ | ⟨_, h⟩
    · rw [stop_row h]; exact hz.goPo _ _
    · cases h
  · cases h
theorem it5_23 (hz : Z23 G) (h : it5 bs len p G = .inr (q, G1)) : Z23 G1 := by
  rcases pick_c h with ⟨_, h⟩ | ⟨_, h⟩
  · rw [stop_row h]; exact Z23.goHs _ _ hz
  · cases h
theorem item_23 {first : Prop} (hz : Z23 G) (h : itemF bs len p G first = .inr (q, G1)) : Z23 G1 := by
  rcases pick_c h with ⟨_, h⟩ | ⟨_, h⟩
  · exact it0_23 h
  rcases pick_c h with ⟨_, h⟩ | ⟨_, h⟩
  · exact it1_23 hz h
  rcases pick_c h with ⟨_, h⟩ | ⟨_, h⟩
  · exact it2_23 hz h
  rcases pick_c h with ⟨_, h⟩ | ⟨_, h⟩
  · exact it3_23 hz h
  rcases pick_c h with ⟨_, h⟩ | ⟨_, h⟩
  · exact it4_23 hz h
  rcases pick_c h with ⟨_, h⟩ | ⟨_, h⟩
  · exact it5_23 hz h
  · cases h
theorem run_23 : ∀ (n p : Nat) (G : Nat → Int32) (items : Nat), Z23 G → Z23 (runF bs len n p G items).2 := by
  intro n
  induction n with
  | zero => intro p G items h; exact h
  | succ n ih =>
    intro p G items h
    by_cases c : tK bs len p = 0 ∧ 0 < items
    · rw [runF_end c.1 c.2]; exact h
    · cases hI : itemF bs len p G (items = 0) with
      | inl s => rw [runF_fault c hI]; exact h
      | inr q => rw [runF_next (q := q.1) (G1 := q.2) c hI]; exact ih _ _ _ (item_23 (q := q.1) (G1 := q.2) h hI)
end Z23S
/-! ===== images, and what is read ===== -/
section REL2T
variable {cI cB cZ cO : ClassId} {ad : Nat → Nat} {w w1 w2 : Nat → va_E} {f : Nat → Int32} {ca ja nz mz : Int32} {hh nc mc : Nat → Int32}
theorem val1 {x y : Int32} (h : Value.int x = Value.int y) : x = y := by injection h
theorem IV.uniq {b : Nat} {ca2 ja2 nz2 mz2 : Int32} {hh2 nc2 mc2 : Nat → Int32} (v : IV cI ad b w ca ja nz mz hh nc mc) (v2 : IV cI ad b w ca2 ja2 nz2 mz2 hh2 nc2 mc2) : ca = ca2 ∧ ja = ja2 ∧ nz = nz2 ∧ mz = mz2 ∧ hh = hh2 ∧ nc = nc2 ∧ mc = mc2 := by
  have a := v.1.symm.trans v2.1
  have e7 := v.2.2.1.symm.trans v2.2.2.1
  have e9 := v.2.2.2.2.1.symm.trans v2.2.2.2.2.1
  refine ⟨?_, ?_, ?_, ?_, arrq (v.2.1.symm.trans v2.2.1), arrq (v.2.2.2.1.symm.trans v2.2.2.2.1), arrq (v.2.2.2.2.2.symm.trans v2.2.2.2.2.2)⟩
  · injection a with a; injection a with _ a; injection a with a _; exact val1 a
  · injection a with a; injection a with _ a; injection a with _ a; injection a with a _; exact val1 a
  · injection e7 with t; injection t with _ t; injection t with _ t; injection t with t _; exact val1 t
  · injection e9 with t; injection t with _ t; injection t with _ t; injection t with t _; exact val1 t
theorem ok_iv {b : Nat} (ok : OK cI cB cZ cO ad w) (hb : isB b) : ∃ (ca ja nz mz : Int32) (hh nc mc : Nat → Int32), IV cI ad b w ca ja nz mz hh nc mc := by
  obtain ⟨q0, q1, q2, q3, q4, e, -⟩ := ok.b0 hb
  obtain ⟨hh, e2, -⟩ := ok.b2 hb
  obtain ⟨z, e7, -⟩ := ok.b7 hb
  obtain ⟨nc, e8, -⟩ := ok.b8 hb
  obtain ⟨y, e9, -⟩ := ok.b9 hb
  obtain ⟨mc, e10, -⟩ := ok.b10 hb
  exact ⟨q3, q4, z, y, hh, nc, mc, by rw [e]; rfl, e2, e7, e8, e9, e10⟩
theorem IM.cong {b : Nat} {F F1 : Nat → Int32} (h : IM cI ad b w F) (hb : isB b) (ok : OK cI cB cZ cO ad w) (e : ∀ k, k < 89 → F1 k = F k) : IM cI ad b w F1 := by
  obtain ⟨ca, ja, nz, mz, hh, nc, mc, v, d⟩ := h
  obtain ⟨ho, so, mi, e1, hr, hca, hja, hnz, hmz⟩ := v.cells hb ok
  exact ⟨ca, ja, nz, mz, hh, nc, mc, v, d.cong ⟨hca.2, hnz.2, hmz.2⟩ (fun k hk => e k (by omega)) (fun _ _ => rfl) (fun _ _ => rfl) (fun _ _ => rfl)⟩
theorem isB28 : isB 28 := Or.inr (Or.inr (Or.inl rfl))
theorem isB41 : isB 41 := Or.inr (Or.inr (Or.inr rfl))
theorem rel_image2_0 {fl gl kp : Nat → Int32} (h : REL2 cI cB cZ ad w) (ok : OK cI cB cZ cO ad w) (iv : IV cI ad 1 w ca ja nz mz hh nc mc) (f65 : w 65 = .inl (cI, 177, .inl f)) (ird : IRD f ca ja nz mz hh nc mc) (hb : ca.toInt ≤ 7 ∧ nz.toInt ≤ 6 ∧ mz.toInt ≤ 6) (e54 : w 54 = .inl (cZ, 2, .inl fl)) (e66 : w1 66 = .inl (cI, 354, .inl kp)) (e67 : w1 67 = .inl (cZ, 2, .inl gl)) (k1 : KI w w1) (p54 : w1 54 = .inl (cZ, 2, .inl (upd fl 0 1))) (fr1 : ∀ q, (q < 28 ∨ 28 + 13 ≤ q) → q ≠ 54 → w1 q = w q) (im : ∃ hh1 nc1 mc1 : Nat → Int32, IV cI ad 28 w1 ca ja nz mz hh1 nc1 mc1 ∧ (∀ j, j < 7 → hh1 j = hh j) ∧ (∀ j, j < 24 → nc1 j = nc j) ∧ (∀ j, j < 24 → mc1 j = mc j)) (k2 : KP w1 w2) (p67 : w2 67 = .inl (cZ, 2, .inl (upd gl 0 1))) (fr2 : F66 w1 w2) (g66 : ∃ g : Nat → Int32, w2 66 = .inl (cI, 354, .inl g) ∧ (∀ j : Nat, j < 177 → g (0 + j) = f j) ∧ (∀ j : Nat, (j < 0 ∨ 177 ≤ j) → g j = kp j)) : REL2 cI cB cZ ad w2 := by
  obtain ⟨g, eg, g1, g2⟩ := g66
  obtain ⟨hh1, nc1, mc1, iv1, e1, e2, e3⟩ := im
  obtain ⟨fl0, kp0, a, b, c, d⟩ := h.2.2
  have hf : fl0 = fl := arrq (a.symm.trans e54)
  have hk : kp0 = kp := arrq (b.symm.trans ((fr1 66 (by decide) (by decide)).symm.trans e66))
  subst hf; subst hk
  refine ⟨rel_image7 (Or.inl rfl) h.1 e54 e67 k1 p54 k2 p67, ⟨ca, ja, nz, mz, hh, nc, mc, f, iv.same (fun k x y => (fr2 k (by omega) (by omega)).trans (fr1 k (by omega) (by omega))), ((fr2 65 (by decide) (by decide)).trans (fr1 65 (by decide) (by decide))).trans f65, ird⟩, upd fl0 0 1, g, (fr2 54 (by decide) (by decide)).trans p54, eg, fun _ => ?_, fun q => ?_⟩
  · exact ⟨ca, ja, nz, mz, hh1, nc1, mc1, iv1.same (fun k x y => fr2 k (by omega) (by omega)), ird.cong hb (fun k hk => by have t := g1 k (by omega); rw [Nat.zero_add] at t; exact t) e1 e2 e3⟩
  · rw [pk_un (by decide)] at q
    exact ((d q).cong isB41 ok (F1 := fun k => g (177 + k)) (fun k hk => g2 _ (by omega))).same (fun k x y => (fr2 k (by omega) (by omega)).trans (fr1 k (by omega) (by omega)))
theorem rel_image2_1 {fl gl kp : Nat → Int32} (h : REL2 cI cB cZ ad w) (ok : OK cI cB cZ cO ad w) (iv : IV cI ad 1 w ca ja nz mz hh nc mc) (f65 : w 65 = .inl (cI, 177, .inl f)) (ird : IRD f ca ja nz mz hh nc mc) (hb : ca.toInt ≤ 7 ∧ nz.toInt ≤ 6 ∧ mz.toInt ≤ 6) (e54 : w 54 = .inl (cZ, 2, .inl fl)) (e66 : w1 66 = .inl (cI, 354, .inl kp)) (e67 : w1 67 = .inl (cZ, 2, .inl gl)) (k1 : KI w w1) (p54 : w1 54 = .inl (cZ, 2, .inl (upd fl 1 1))) (fr1 : ∀ q, (q < 41 ∨ 41 + 13 ≤ q) → q ≠ 54 → w1 q = w q) (im : ∃ hh1 nc1 mc1 : Nat → Int32, IV cI ad 41 w1 ca ja nz mz hh1 nc1 mc1 ∧ (∀ j, j < 7 → hh1 j = hh j) ∧ (∀ j, j < 24 → nc1 j = nc j) ∧ (∀ j, j < 24 → mc1 j = mc j)) (k2 : KP w1 w2) (p67 : w2 67 = .inl (cZ, 2, .inl (upd gl 1 1))) (fr2 : F66 w1 w2) (g66 : ∃ g : Nat → Int32, w2 66 = .inl (cI, 354, .inl g) ∧ (∀ j : Nat, j < 177 → g (177 + j) = f j) ∧ (∀ j : Nat, (j < 177 ∨ 354 ≤ j) → g j = kp j)) : REL2 cI cB cZ ad w2 := by
  obtain ⟨g, eg, g1, g2⟩ := g66
  obtain ⟨hh1, nc1, mc1, iv1, e1, e2, e3⟩ := im
  obtain ⟨fl0, kp0, a, b, c, d⟩ := h.2.2
  have hf : fl0 = fl := arrq (a.symm.trans e54)
  have hk : kp0 = kp := arrq (b.symm.trans ((fr1 66 (by decide) (by decide)).symm.trans e66))
  subst hf; subst hk
  refine ⟨rel_image7 (Or.inr rfl) h.1 e54 e67 k1 p54 k2 p67, ⟨ca, ja, nz, mz, hh, nc, mc, f, iv.same (fun k x y => (fr2 k (by omega) (by omega)).trans (fr1 k (by omega) (by omega))), ((fr2 65 (by decide) (by decide)).trans (fr1 65 (by decide) (by decide))).trans f65, ird⟩, upd fl0 1 1, g, (fr2 54 (by decide) (by decide)).trans p54, eg, fun q => ?_, fun _ => ?_⟩
  · rw [pk_un (by decide)] at q
    exact ((c q).cong isB28 ok (F1 := g) (fun k hk => g2 _ (by omega))).same (fun k x y => (fr2 k (by omega) (by omega)).trans (fr1 k (by omega) (by omega)))
  · exact ⟨ca, ja, nz, mz, hh1, nc1, mc1, iv1.same (fun k x y => fr2 k (by omega) (by omega)), ird.cong hb (fun k hk => g1 k (by omega)) e1 e2 e3⟩
theorem rel_from2 {b : Nat} {x y r1 r2 : Int32} {F : Nat → Int32} (h : REL2 cI cB cZ ad w) (ok1 : OK cI cB cZ cO ad w1) (ok2 : OK cI cB cZ cO ad w2) (hxy : x = y) (iv : IV cI ad b w ca ja nz mz hh nc mc) (hb : ca.toInt ≤ 7 ∧ nz.toInt ≤ 6 ∧ mz.toInt ≤ 6) (him : ¬ x.toInt = 0 → IM cI ad b w F)
    (p1 : (x.toInt = 0 ∧ KX w w1 ∧ r1 = -3) ∨ (¬ x.toInt = 0 ∧ FR 1 w w1 ∧ r1 = 1 ∧ ∃ hh1 nc1 mc1 : Nat → Int32, IV cI ad 1 w1 ca ja nz mz hh1 nc1 mc1 ∧ (∀ j, j < 7 → hh1 j = hh j) ∧ (∀ j, j < 24 → nc1 j = nc j) ∧ (∀ j, j < 24 → mc1 j = mc j)))
    (p2 : (y.toInt = 0 ∧ KM w1 w2 ∧ r2 = -3) ∨ (¬ y.toInt = 0 ∧ F65 w1 w2 ∧ r2 = 1 ∧ ∃ g : Nat → Int32, w2 65 = .inl (cI, 177, .inl g) ∧ ∀ j : Nat, j < 177 → g j = F j)) : REL2 cI cB cZ ad w2 ∧ r1 = r2 := by
  subst hxy
  rcases p1 with ⟨g, a, e⟩ | ⟨g, a, e, hh1, nc1, mc1, iv1, e1, e2, e3⟩
  · rcases p2 with ⟨_, a2, t⟩ | ⟨g2, _⟩
    · exact ⟨rel_refused h ok1 ok2 a a2, e.trans t.symm⟩
    · exact absurd g g2
  · rcases p2 with ⟨g2, _⟩ | ⟨_, a2, t, gg, eg, hg⟩
    · exact absurd g2 g
    · obtain ⟨ca2, ja2, nz2, mz2, hh2, nc2, mc2, v2, d⟩ := him g
      obtain ⟨u1, u2, u3, u4, u5, u6, u7⟩ := v2.uniq iv
      subst u1; subst u2; subst u3; subst u4; subst u5; subst u6; subst u7
      exact ⟨rel_end h a iv1 a2 eg (d.cong hb (fun k hk => hg k (by omega)) e1 e2 e3), e.trans t.symm⟩
theorem KN.cell (h : KN w w1) (k : Nat) (h1 : ¬ k = 64) (h3 : frN k = false) : w1 k = w k := by
  have e := h k
  unfold pn at e
  rw [decide_eq_false h1, h3] at e
  exact e
theorem rel_read2 {r1 r2 : Int32} {R : Int × (Nat → Int32)} (h : REL2 cI cB cZ ad w) (hR : Z23 R.2)
    (p1 : r1.toInt = R.1 ∧ ((¬ 0 < r1.toInt ∧ KX w w1) ∨ (0 < r1.toInt ∧ (∃ wm : Nat → va_E, KX w wm ∧ FR 1 wm w1) ∧ ∃ (ca9 ja9 : Int32) (hh9 nc9 mc9 : Nat → Int32), IV cI ad 1 w1 ca9 ja9 0 0 hh9 nc9 mc9 ∧ R.2 0 = ca9 ∧ R.2 1 = ja9 ∧ ∀ i : Nat, (i : Int) < ca9.toInt → hh9 i = R.2 (23 + i))))
    (ok1 : OK cI cB cZ cO ad w1) (k2 : KN w1 w2) (k66 : w2 66 = w1 66)
    (p2 : r2.toInt = R.1 ∧ (0 < r2.toInt → ∃ g : Nat → Int32, w2 65 = .inl (cI, 177, .inl g) ∧ ∀ k, k < 89 → g k = R.2 k) ∧ (¬ 0 < r2.toInt → w2 65 = w1 65)) : REL2 cI cB cZ ad w2 ∧ r1 = r2 := by
  obtain ⟨t1, p1⟩ := p1
  obtain ⟨t2, a2, b2⟩ := p2
  have er : r1 = r2 := (fa_eq _ _).mpr (t1.trans t2.symm)
  refine ⟨?_, er⟩
  subst er
  have low : ∀ k, k ≤ 63 → w2 k = w1 k := fun k hk => k2.cell k (by omega) (decide_eq_false (by omega))
  rcases p1 with ⟨g, kx⟩ | ⟨g, ⟨wm, kx, fr⟩, ca9, ja9, hh9, nc9, mc9, iv, e0, e1, eh⟩
  · have h1 := h.kx kx
    obtain ⟨ca, ja, nz, mz, hh, nc, mc, f, v, e, d⟩ := h1.2.1
    exact ⟨h1.1.kn k2, ⟨ca, ja, nz, mz, hh, nc, mc, f, v.same (fun k x y => low k (by omega)), (b2 g).trans e, d⟩, h1.2.2.same (low 54 (by decide)) k66 (fun k x y => low k (by omega))⟩
  · have kr := kx.r.tr fr.r
    have h7 := h.1.kr kr
    have hi := h.2.2.kr kr
    obtain ⟨gg, eg, hg⟩ := a2 g
    obtain ⟨ho, so, mi, q1, hr, hca, hja, hnz, hmz⟩ := iv.cells (Or.inl rfl) ok1
    have z0 : (0 : Int32).toInt = 0 := rfl
    refine ⟨h7.kn k2, ⟨ca9, ja9, 0, 0, hh9, nc9, mc9, gg, iv.same (fun k x y => low k (by omega)), eg, (hg 0 (by decide)).trans e0, (hg 1 (by decide)).trans e1, (hg 2 (by decide)).trans hR.1, (hg 3 (by decide)).trans hR.2, fun i hi => by rw [hg _ (by omega)]; exact eh i hi, fun k hk => ?_, fun k hk => ?_, NRG.no, NRG.no⟩, hi.same (low 54 (by decide)) k66 (fun k x y => low k (by omega))⟩
    · rw [z0] at hk; omega
    · rw [z0] at hk; omega
end REL2T
