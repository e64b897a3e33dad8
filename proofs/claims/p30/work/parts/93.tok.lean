/-! ===== tokens, against the two scanners ===== -/
def STEPP (bs : Nat → Int32) (z b a1 b1 c1 d1 : Int32) : Prop := a1.toInt = (tS bs z.toNatClampNeg b.toNatClampNeg : Nat) ∧ b1.toInt = (tE bs z.toNatClampNeg b.toNatClampNeg : Nat) ∧ c1.toInt = tK bs z.toNatClampNeg b.toNatClampNeg ∧ (c1.toInt = 2 → d1.toInt = tV bs z.toNatClampNeg b.toNatClampNeg)
def runB (P : Int32 → Bool) (bs : Nat → Int32) (p q : Int32) : Prop := ∀ j : Nat, p.toInt ≤ (j : Int) → (j : Int) < q.toInt → P (bs j) = true
theorem runB.nil {P : Int32 → Bool} {bs : Nat → Int32} {p : Int32} : runB P bs p p := fun j a b => by omega
theorem runB.eq {P : Int32 → Bool} {bs : Nat → Int32} {p q q1 : Int32} (h : runB P bs p q) (e : q1.toInt = q.toInt) : runB P bs p q1 := fun j a b => h j a (by omega)
theorem runB.succ {P : Int32 → Bool} {bs : Nat → Int32} {p q q1 v : Int32} (h : runB P bs p q) (h0 : 0 ≤ q.toInt) (e : q1.toInt = q.toInt + 1) (ev : bs q.toNatClampNeg = v) (hv : P v = true) : runB P bs p q1 := by
  intro j a b
  by_cases t : (j : Int) < q.toInt
  · exact h j a t
  · have := cl_of h0
    have e2 : j = q.toNatClampNeg := by omega
    rw [e2, ev]; exact hv
theorem end_is {P : Int32 → Bool} {bs : Nat → Int32} {z p q v : Int32} (hz : z.toInt ≤ 150) (h0 : 0 ≤ p.toInt) (h1 : p.toInt ≤ q.toInt) (h2 : q.toInt ≤ z.toInt) (hr : runB P bs p q) (he : q.toInt = z.toInt ∨ (bs q.toNatClampNeg = v ∧ P v = false)) : endF P bs z.toNatClampNeg z.toNatClampNeg p.toNatClampNeg = q.toNatClampNeg := by
  have cp := cl_of h0
  have cq := cl_of (x := q) (by omega)
  have cz := cl_of (x := z) (by omega)
  refine endF_is _ _ _ (by omega) (by omega) (by omega) (fun j a b => hr j (by omega) (by omega)) ?_
  rcases he with he | ⟨he, hp⟩
  · exact Or.inl (by omega)
  · exact Or.inr (by rw [he]; exact hp)
theorem sp_t {v : Int32} (h : v.toInt = 32) : spB v = true := decide_eq_true h
theorem sp_f {v : Int32} (h : ¬ v.toInt = 32) : spB v = false := decide_eq_false h
theorem lt_t {v : Int32} (h : 97 ≤ v.toInt) (h2 : v.toInt ≤ 122) : ltB v = true := decide_eq_true ⟨h, h2⟩
theorem lt_f {v : Int32} (h : ¬ (97 ≤ v.toInt ∧ v.toInt ≤ 122)) : ltB v = false := decide_eq_false h
theorem dg_t {v : Int32} (h : 48 ≤ v.toInt) (h2 : v.toInt ≤ 57) : dgB v = true := decide_eq_true ⟨h, h2⟩
theorem dg_f {v : Int32} (h : ¬ (48 ≤ v.toInt ∧ v.toInt ≤ 57)) : dgB v = false := decide_eq_false h
section TOKS
variable {bs : Nat → Int32} {z b a1 b1 c1 d1 v : Int32}
theorem ts_is (hz : z.toInt ≤ 150) (h0 : 0 ≤ b.toInt) (h1 : b.toInt ≤ a1.toInt) (h2 : a1.toInt ≤ z.toInt) (hr : runB spB bs b a1) (he : a1.toInt = z.toInt ∨ (bs a1.toNatClampNeg = v ∧ ¬ v.toInt = 32)) : tS bs z.toNatClampNeg b.toNatClampNeg = a1.toNatClampNeg :=
  end_is hz h0 h1 h2 hr (he.imp id (fun q => ⟨q.1, sp_f q.2⟩))
theorem tok_mk {e k : _} (hs : tS bs z.toNatClampNeg b.toNatClampNeg = a1.toNatClampNeg) (hk : tKE bs z.toNatClampNeg a1.toNatClampNeg = (k, e)) (h0 : 0 ≤ a1.toInt) (hb : b1.toInt = (e : Nat)) (hc : c1.toInt = k) (hv : c1.toInt = 2 → d1.toInt = if b1.toInt = a1.toInt + 1 then (bs a1.toNatClampNeg).toInt - 48 else 10 * ((bs a1.toNatClampNeg).toInt - 48) + (bs (a1.toNatClampNeg + 1)).toInt - 48) : STEPP bs z b a1 b1 c1 d1 := by
  have ca := cl_of h0
  have e1 : tE bs z.toNatClampNeg b.toNatClampNeg = e := by unfold tE; rw [hs, hk]
  have e2 : tK bs z.toNatClampNeg b.toNatClampNeg = k := by unfold tK; rw [hs, hk]
  refine ⟨by rw [hs]; exact ca.symm, by rw [e1]; exact hb, by rw [e2]; exact hc, fun q => ?_⟩
  rw [hv q]
  unfold tV
  rw [e1, hs]
  by_cases g : b1.toInt = a1.toInt + 1
  · rw [if_pos g, if_pos (by omega)]
  · rw [if_neg g, if_neg (by omega)]
theorem tok0 (hz : z.toInt ≤ 150) (h0 : 0 ≤ b.toInt) (h1 : b.toInt ≤ a1.toInt) (h2 : a1.toInt = z.toInt) (hr : runB spB bs b a1) (hb : b1.toInt = a1.toInt) (hc : c1.toInt = 0) : STEPP bs z b a1 b1 c1 d1 := by
  have cz := cl_of (x := z) (by omega)
  have ca := cl_of (x := a1) (by omega)
  refine tok_mk (k := 0) (e := a1.toNatClampNeg) (ts_is (v := 0) hz h0 h1 (by omega) hr (Or.inl h2)) ?_ (by omega) (by omega) hc (fun q => by omega)
  unfold tKE
  rw [if_pos (by omega)]
theorem tok1 {u : Int32} (hz : z.toInt ≤ 150) (h0 : 0 ≤ b.toInt) (h1 : b.toInt ≤ a1.toInt) (h2 : a1.toInt < z.toInt) (hr : runB spB bs b a1) (ev : bs a1.toNatClampNeg = v) (hl : 97 ≤ v.toInt ∧ v.toInt ≤ 122) (h3 : a1.toInt ≤ b1.toInt) (h4 : b1.toInt ≤ z.toInt) (hr2 : runB ltB bs a1 b1) (he : b1.toInt = z.toInt ∨ (bs b1.toNatClampNeg = u ∧ ¬ (97 ≤ u.toInt ∧ u.toInt ≤ 122))) (hc : c1.toInt = 1) : STEPP bs z b a1 b1 c1 d1 := by
  have cz := cl_of (x := z) (by omega)
  have ca := cl_of (x := a1) (by omega)
  have cb := cl_of (x := b1) (by omega)
  refine tok_mk (k := 1) (e := b1.toNatClampNeg) (ts_is (v := v) hz h0 h1 (by omega) hr (Or.inr ⟨ev, by omega⟩)) ?_ (by omega) (by omega) hc (fun q => by omega)
  unfold tKE
  rw [if_neg (by omega), ev, if_pos hl, end_is (v := u) hz (by omega) h3 h4 hr2 (he.imp id (fun q => ⟨q.1, lt_f q.2⟩))]
theorem tok2 {u : Int32} (hz : z.toInt ≤ 150) (h0 : 0 ≤ b.toInt) (h1 : b.toInt ≤ a1.toInt) (h2 : a1.toInt < z.toInt) (hr : runB spB bs b a1) (ev : bs a1.toNatClampNeg = v) (hl : 48 ≤ v.toInt ∧ v.toInt ≤ 57) (h3 : a1.toInt ≤ b1.toInt) (h4 : b1.toInt ≤ z.toInt) (hr2 : runB dgB bs a1 b1) (he : b1.toInt = z.toInt ∨ (bs b1.toNatClampNeg = u ∧ ¬ (48 ≤ u.toInt ∧ u.toInt ≤ 57))) (hc : (b1.toInt ≤ a1.toInt + 2 ∧ c1.toInt = 2) ∨ (a1.toInt + 2 < b1.toInt ∧ c1.toInt = 4)) (hv : c1.toInt = 2 → d1.toInt = if b1.toInt = a1.toInt + 1 then (bs a1.toNatClampNeg).toInt - 48 else 10 * ((bs a1.toNatClampNeg).toInt - 48) + (bs (a1.toNatClampNeg + 1)).toInt - 48) : STEPP bs z b a1 b1 c1 d1 := by
  have cz := cl_of (x := z) (by omega)
  have ca := cl_of (x := a1) (by omega)
  have cb := cl_of (x := b1) (by omega)
  have hs := ts_is (v := v) hz h0 h1 (by omega) hr (Or.inr ⟨ev, by omega⟩)
  have hE := end_is (v := u) hz (by omega) h3 h4 hr2 (he.imp id (fun q => ⟨q.1, dg_f q.2⟩))
  rcases hc with ⟨g1, g2⟩ | ⟨g1, g2⟩
  · refine tok_mk (k := 2) (e := b1.toNatClampNeg) hs ?_ (by omega) (by omega) g2 hv
    unfold tKE
    rw [if_neg (by omega), ev, if_neg (by omega), if_pos hl, hE, if_pos (by omega)]
  · refine tok_mk (k := 4) (e := b1.toNatClampNeg) hs ?_ (by omega) (by omega) g2 hv
    unfold tKE
    rw [if_neg (by omega), ev, if_neg (by omega), if_pos hl, hE, if_neg (by omega)]
theorem tok3 (hz : z.toInt ≤ 150) (h0 : 0 ≤ b.toInt) (h1 : b.toInt ≤ a1.toInt) (h2 : a1.toInt < z.toInt) (hr : runB spB bs b a1) (ev : bs a1.toNatClampNeg = v) (hs : ¬ v.toInt = 32) (hl : ¬ (97 ≤ v.toInt ∧ v.toInt ≤ 122)) (hd : ¬ (48 ≤ v.toInt ∧ v.toInt ≤ 57)) (hb : b1.toInt = a1.toInt + 1) (hc : (v.toInt = 59 ∧ c1.toInt = 3) ∨ (¬ v.toInt = 59 ∧ c1.toInt = 4)) : STEPP bs z b a1 b1 c1 d1 := by
  have cz := cl_of (x := z) (by omega)
  have ca := cl_of (x := a1) (by omega)
  have hs2 := ts_is (v := v) hz h0 h1 (by omega) hr (Or.inr ⟨ev, by omega⟩)
  rcases hc with ⟨g1, g2⟩ | ⟨g1, g2⟩
  · refine tok_mk (k := 3) (e := a1.toNatClampNeg + 1) hs2 ?_ (by omega) (by omega) g2 (fun q => by omega)
    unfold tKE
    rw [if_neg (by omega), ev, if_neg hl, if_neg hd, if_pos g1]
  · refine tok_mk (k := 4) (e := a1.toNatClampNeg + 1) hs2 ?_ (by omega) (by omega) g2 (fun q => by omega)
    unfold tKE
    rw [if_neg (by omega), ev, if_neg hl, if_neg hd, if_neg g1]
end TOKS
theorem clq {x y : Int32} (h : x.toInt = y.toInt) : x.toNatClampNeg = y.toNatClampNeg := by rw [(fa_eq _ _).mpr h]
theorem clq1 {x y : Int32} (h0 : 0 ≤ y.toInt) (h : x.toInt = y.toInt + 1) : x.toNatClampNeg = y.toNatClampNeg + 1 := by
  have := cl_of h0
  have := cl_of (x := x) (by omega)
  omega
def runI (P : Int32 → Bool) (bs : Nat → Int32) (p q : Int) : Prop := ∀ j : Nat, p ≤ (j : Int) → (j : Int) < q → P (bs j) = true
theorem runI.one {P : Int32 → Bool} {bs : Nat → Int32} {p v : Int32} {q : Int} (h0 : 0 ≤ p.toInt) (e : q = p.toInt + 1) (ev : bs p.toNatClampNeg = v) (hv : P v = true) : runI P bs p.toInt q := by
  intro j a b
  have := cl_of h0
  have e2 : j = p.toNatClampNeg := by omega
  rw [e2, ev]; exact hv
theorem runI.succ {P : Int32 → Bool} {bs : Nat → Int32} {p q q1 : Int} {n : Nat} {v : Int32} (h : runI P bs p q) (e : q1 = q + 1) (hn : (n : Int) = q) (ev : bs n = v) (hv : P v = true) : runI P bs p q1 := by
  intro j a b
  by_cases t : (j : Int) < q
  · exact h j a t
  · have e2 : j = n := by omega
    rw [e2, ev]; exact hv
theorem runI.b {P : Int32 → Bool} {bs : Nat → Int32} {p q : Int32} {x : Int} (h : runI P bs p.toInt x) (e : q.toInt = x) : runB P bs p q := fun j a b => h j a (by omega)
def LOOKP (bs : Nat → Int32) (z b a1 l1 c1 d1 : Int32) : Prop := ∃ e : Int32, e.toInt = a1.toInt + l1.toInt ∧ STEPP bs z b a1 e c1 d1
theorem LOOKP.of {bs : Nat → Int32} {z b a1 l1 c1 d1 e : Int32} (he : e.toInt = a1.toInt + l1.toInt) (h : STEPP bs z b a1 e c1 d1) : LOOKP bs z b a1 l1 c1 d1 := ⟨e, he, h⟩
/-- the letters from s to e are the i-th word -/
def wB (bs : Nat → Int32) (s e : Int) (i : Nat) : Prop := e = s + (slen.getD i 0 : Nat) ∧ ∀ j : Nat, j < slen.getD i 0 → bs (s.toNat + j) = (sbyt.getD i []).getD j 0
def wnP (bs : Nat → Int32) (s e : Int) (r : Int32) : Prop := (r.toInt = -1 ∧ ∀ i : Nat, i < 6 → ¬ wB bs s e i) ∨ (0 ≤ r.toInt ∧ r.toInt ≤ 5 ∧ wB bs s e r.toNatClampNeg)
theorem toN {x : Int32} : x.toInt.toNat = x.toNatClampNeg := rfl
