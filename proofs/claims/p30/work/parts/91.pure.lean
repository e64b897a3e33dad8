/-! ===== the class's draft against the model's row ===== -/
def filF (co : Nat → Int32) (j : Nat) (x : Int32) : Nat → Int32 := if 0 < (camF (co j) x).toInt then upd co j (co j + camF (co j) x) else co
def bitF (m i : Int32) : Int := ((m >>> (i &&& 31)) &&& 1).toInt
theorem min_cam {c x z : Int32} (h : (if 60 - c < x then 60 - c else x) = z) : camF c x = z := by
  subst h
  unfold camF
  by_cases q : 60 - c < x
  · have := (fa_lt _ _).mp q
    rw [if_pos q, if_neg (by omega)]
  · have q2 : ¬ (60 - c).toInt < x.toInt := fun z => q ((fa_lt _ _).mpr z)
    rw [if_neg q]
    by_cases q3 : x.toInt < (60 - c).toInt
    · rw [if_pos q3]
    · rw [if_neg q3]
      exact (fa_eq _ _).mpr (by omega)
theorem sub_sub32 (a b : Int32) : a - (a - b) = b := by
  rw [Int32.sub_eq_add_neg, Int32.neg_sub, Int32.add_comm, Int32.sub_add_cancel]
def RGd (G : Nat → Int32) (ho mi ca ja : Int32) (ck hh jk co : Nat → Int32) : Prop :=
  G 5 = ho ∧ G 7 = mi ∧ G 0 = ca ∧ G 1 = ja ∧ (∀ i : Nat, (i : Int) < ca.toInt → ck i = G (16 + i) ∧ hh i = G (23 + i)) ∧ (∀ j : Nat, (j : Int) < ja.toInt → jk j = G (37 + j) ∧ co j = G (8 + j)) ∧ (∀ j : Nat, ja.toInt ≤ (j : Int) → j < 4 → G (8 + j) = 0) ∧ 0 ≤ ca.toInt ∧ ca.toInt ≤ 7 ∧ 0 ≤ ja.toInt ∧ ja.toInt ≤ 4
section RGDS
variable {G : Nat → Int32} {ho mi ca ja : Int32} {ck hh jk co : Nat → Int32}
theorem d_mil (h : RGd G ho mi ca ja ck hh jk co) (i : Int32) : RGd (milF G i) ho (mi ||| (1 : Int32) <<< (i &&& 31)) ca ja ck hh jk co := by
  obtain ⟨h5, h7, h0, h1, hC, hJ, hZ, b1, b2, b3, b4⟩ := h
  unfold milF
  refine ⟨by rw [pk_un (by decide)]; exact h5, by rw [pk_us, h7], by rw [pk_un (by decide)]; exact h0, by rw [pk_un (by decide)]; exact h1, fun i hi => ?_, fun j hj => ?_, fun j hj h4 => ?_, b1, b2, b3, b4⟩
  · rw [pk_un (by omega), pk_un (by omega)]; exact hC i hi
  · rw [pk_un (by omega), pk_un (by omega)]; exact hJ j hj
  · rw [pk_un (by omega)]; exact hZ j hj h4
theorem d_cool (h : RGd G ho mi ca ja ck hh jk co) {n : Nat} (hn : (n : Int) < ja.toInt) (v : Int32) : RGd (upd G (8 + n) v) ho mi ca ja ck hh jk (upd co n v) := by
  obtain ⟨h5, h7, h0, h1, hC, hJ, hZ, b1, b2, b3, b4⟩ := h
  refine ⟨by rw [pk_un (by omega)]; exact h5, by rw [pk_un (by omega)]; exact h7, by rw [pk_un (by omega)]; exact h0, by rw [pk_un (by omega)]; exact h1, fun i hi => ?_, fun j hj => ?_, fun j hj h4 => ?_, b1, b2, b3, b4⟩
  · rw [pk_un (by omega), pk_un (by omega)]; exact hC i hi
  · rw [pk_un (by omega)]
    refine ⟨(hJ j hj).1, ?_⟩
    by_cases e : j = n
    · subst e; rw [pk_us, pk_us]
    · rw [pk_un e, pk_un (by omega)]; exact (hJ j hj).2
  · rw [pk_un (by omega)]; exact hZ j hj h4
theorem d_other (h : RGd G ho mi ca ja ck hh jk co) {n : Nat} (hn : 12 ≤ n ∧ n < 16) (v : Int32) : RGd (upd G n v) ho mi ca ja ck hh jk co := by
  obtain ⟨h5, h7, h0, h1, hC, hJ, hZ, b1, b2, b3, b4⟩ := h
  refine ⟨by rw [pk_un (by omega)]; exact h5, by rw [pk_un (by omega)]; exact h7, by rw [pk_un (by omega)]; exact h0, by rw [pk_un (by omega)]; exact h1, fun i hi => ?_, fun j hj => ?_, fun j hj h4 => ?_, b1, b2, b3, b4⟩
  · rw [pk_un (by omega), pk_un (by omega)]; exact hC i hi
  · rw [pk_un (by omega), pk_un (by omega)]; exact hJ j hj
  · rw [pk_un (by omega)]; exact hZ j hj h4
theorem d_fill (h : RGd G ho mi ca ja ck hh jk co) {n : Nat} (hn : (n : Int) < ja.toInt) (x t : Int32) : RGd (goInF G n x t) ho mi ca ja ck hh jk (filF co n x) := by
  have e : co n = G (8 + n) := (h.2.2.2.2.2.1 n hn).2
  have b4 : ja.toInt ≤ 4 := h.2.2.2.2.2.2.2.2.2.2
  unfold goInF filF
  rw [e]
  by_cases q : 0 < (camF (G (8 + n)) x).toInt
  · rw [if_pos q, if_pos q]
    have h2 := d_cool (d_other h (n := 12 + n) (by omega) (if (G (8 + n)).toInt = 0 ∨ (G (12 + n)).toInt = t.toInt then t else 4)) hn (G (8 + n) + camF (G (8 + n)) x)
    exact h2
  · rw [if_neg q, if_neg q]; exact h
theorem d_hour (h : RGd G ho mi ca ja ck hh jk co) : RGd (upd (upd G 5 (G 5 + 1)) 7 0) (ho + 1) 0 ca ja ck hh jk co := by
  obtain ⟨h5, h7, h0, h1, hC, hJ, hZ, b1, b2, b3, b4⟩ := h
  refine ⟨by rw [pk_un (by decide), pk_us, h5], by rw [pk_us], by rw [pk_un (by decide), pk_un (by decide)]; exact h0, by rw [pk_un (by decide), pk_un (by decide)]; exact h1, fun i hi => ?_, fun j hj => ?_, fun j hj h4 => ?_, b1, b2, b3, b4⟩
  · rw [pk_un (by omega), pk_un (by omega), pk_un (by omega), pk_un (by omega)]; exact hC i hi
  · rw [pk_un (by omega), pk_un (by omega), pk_un (by omega), pk_un (by omega)]; exact hJ j hj
  · rw [pk_un (by omega), pk_un (by omega)]; exact hZ j hj h4
theorem inc32 {x : Int32} (h0 : 0 ≤ x.toInt) (h1 : x.toInt < 1000) : (x + 1).toInt = x.toInt + 1 := inc1 h0 (by omega)
theorem d_cast (h : RGd G ho mi ca ja ck hh jk co) (hc : ca.toInt < 7) (k x t : Int32) : RGd (layCF G k x t) ho mi (ca + 1) ja (upd ck ca.toNatClampNeg k) (upd hh ca.toNatClampNeg x) jk co := by
  obtain ⟨h5, h7, h0, h1, hC, hJ, hZ, b1, b2, b3, b4⟩ := h
  have cn := cl_of b1
  have ci := inc32 b1 (by omega)
  unfold layCF
  rw [h0]
  refine ⟨?_, ?_, ?_, ?_, fun i hi => ?_, fun j hj => ?_, fun j hj h4 => ?_, by omega, by omega, b3, b4⟩
  · rw [pk_un (by omega), pk_un (by omega), pk_un (by omega), pk_un (by omega)]; exact h5
  · rw [pk_un (by omega), pk_un (by omega), pk_un (by omega), pk_un (by omega)]; exact h7
  · rw [pk_us]
  · rw [pk_un (by omega), pk_un (by omega), pk_un (by omega), pk_un (by omega)]; exact h1
  · rw [ci] at hi
    by_cases e : i = ca.toNatClampNeg
    · subst e
      refine ⟨?_, ?_⟩
      · rw [pk_us, pk_un (by omega), pk_un (by omega), pk_un (by omega), pk_us]
      · rw [pk_us, pk_un (by omega), pk_un (by omega), pk_us]
    · have := hC i (by omega)
      refine ⟨?_, ?_⟩
      · rw [pk_un e, pk_un (by omega), pk_un (by omega), pk_un (by omega), pk_un (by omega)]; exact this.1
      · rw [pk_un e, pk_un (by omega), pk_un (by omega), pk_un (by omega), pk_un (by omega)]; exact this.2
  · rw [pk_un (by omega), pk_un (by omega), pk_un (by omega), pk_un (by omega), pk_un (by omega), pk_un (by omega), pk_un (by omega), pk_un (by omega)]; exact hJ j hj
  · rw [pk_un (by omega), pk_un (by omega), pk_un (by omega), pk_un (by omega)]; exact hZ j hj h4
theorem d_jar (h : RGd G ho mi ca ja ck hh jk co) (hc : ja.toInt < 4) (k : Int32) : RGd (layJF G k) ho mi ca (ja + 1) ck hh (upd jk ja.toNatClampNeg k) (upd co ja.toNatClampNeg 0) := by
  obtain ⟨h5, h7, h0, h1, hC, hJ, hZ, b1, b2, b3, b4⟩ := h
  have cn := cl_of b3
  have ci := inc32 b3 (by omega)
  unfold layJF
  rw [h1]
  refine ⟨?_, ?_, ?_, ?_, fun i hi => ?_, fun j hj => ?_, fun j hj h4 => ?_, b1, b2, by omega, by omega⟩
  · rw [pk_un (by omega), pk_un (by omega)]; exact h5
  · rw [pk_un (by omega), pk_un (by omega)]; exact h7
  · rw [pk_un (by omega), pk_un (by omega)]; exact h0
  · rw [pk_us]
  · rw [pk_un (by omega), pk_un (by omega), pk_un (by omega), pk_un (by omega)]; exact hC i hi
  · rw [ci] at hj
    by_cases e : j = ja.toNatClampNeg
    · subst e
      refine ⟨?_, ?_⟩
      · rw [pk_us, pk_un (by omega), pk_us]
      · rw [pk_us, pk_un (by omega), pk_un (by omega)]; exact (hZ _ (by omega) (by omega)).symm
    · have := hJ j (by omega)
      refine ⟨?_, ?_⟩
      · rw [pk_un e, pk_un (by omega), pk_un (by omega)]; exact this.1
      · rw [pk_un e, pk_un (by omega), pk_un (by omega)]; exact this.2
  · rw [pk_un (by omega), pk_un (by omega)]; exact hZ j (by omega) h4
theorem d_beg (t : Int32) : RGd (begF t) t 0 0 0 ck hh jk co := by
  have e0 : (0 : Int32).toInt = 0 := rfl
  refine ⟨rfl, rfl, rfl, rfl, fun i hi => ?_, fun j hj => ?_, fun j hj h4 => ?_, by decide, by decide, by decide, by decide⟩
  · omega
  · omega
  · show (if 8 + j = 5 then t else 0) = 0
    rw [if_neg (by omega)]
end RGDS
/-- the draft, in the world -/
def isl14 (ad : Nat → Nat) (ho so mi ca ja : Int32) : va_E := .inr (1, [.int ho, .int so, .int mi, .int ca, .int ja, .ref (ad 15), .ref (ad 16), .ref (ad 17), .ref (ad 18), .ref (ad 19), .ref (ad 20), .ref (ad 21), .ref (ad 23), .ref (ad 25)])
def RG (cI : ClassId) (ad : Nat → Nat) (w : Nat → va_E) (G : Nat → Int32) : Prop := ∃ (so ho mi ca ja : Int32) (ck hh jk co : Nat → Int32), w 14 = isl14 ad ho so mi ca ja ∧ w 15 = .inl (cI, 7, .inl ck) ∧ w 16 = .inl (cI, 7, .inl hh) ∧ w 18 = .inl (cI, 4, .inl jk) ∧ w 19 = .inl (cI, 4, .inl co) ∧ w 21 = .inr (4, [.ref (ad 22), .int 0]) ∧ w 23 = .inr (4, [.ref (ad 24), .int 0]) ∧ RGd G ho mi ca ja ck hh jk co
theorem sA_pred {c : ClassId} {N : Nat} {P : (Nat → Int32) → Prop} {e : va_E} {f : Nat → Int32} (h : sA c N P e) (e1 : e = .inl (c, N, .inl f)) : P f := by
  obtain ⟨g, eg, p⟩ := h
  rw [e1] at eg
  cases eg
  exact p
theorem camF_rg {c x : Int32} (h0 : 0 ≤ c.toInt) (h1 : c.toInt ≤ 60) (h2 : 0 ≤ x.toInt) : 0 ≤ (camF c x).toInt ∧ (camF c x).toInt ≤ x.toInt ∧ (camF c x).toInt ≤ 60 - c.toInt := by
  have e60 : (60 : Int32).toInt = 60 := rfl
  have d : (60 - c).toInt = 60 - c.toInt := by rw [fb_subI (by rw [e60]; omega) (by rw [e60]; omega), e60]
  unfold camF
  split
  · omega
  · rw [d]; omega
theorem filF_rg {co : Nat → Int32} {n : Nat} {x : Int32} (h : rgA 0 60 co) (hx : 0 ≤ x.toInt) : rgA 0 60 (filF co n x) ∧ ∀ m, (co m).toInt ≤ (filF co n x m).toInt := by
  have hc := h n
  have hr := camF_rg hc.1 hc.2 hx
  have ha : (co n + camF (co n) x).toInt = (co n).toInt + (camF (co n) x).toInt := fb_addI (by omega) (by omega)
  unfold filF
  split
  · refine ⟨rgA_upd h rfl (by rw [ha]; omega) (by rw [ha]; omega), up_ge rfl rfl (by rw [ha]; omega)⟩
  · exact ⟨h, fun m => Int.le_refl _⟩
section RGW
variable {cI cB cZ cO : ClassId} {ad : Nat → Nat} {w w1 : Nat → va_E} {G : Nat → Int32}
theorem RG.keep (h : RG cI ad w G) (h14 : w1 14 = w 14) (h15 : w1 15 = w 15) (h16 : w1 16 = w 16) (h18 : w1 18 = w 18) (h19 : w1 19 = w 19) (h21 : w1 21 = w 21) (h23 : w1 23 = w 23) : RG cI ad w1 G := by
  obtain ⟨so, ho, mi, ca, ja, ck, hh, jk, co, a, b, c, d, e, f, g, k⟩ := h
  exact ⟨so, ho, mi, ca, ja, ck, hh, jk, co, h14.trans a, h15.trans b, h16.trans c, h18.trans d, h19.trans e, h21.trans f, h23.trans g, k⟩
theorem ladle_eq {i : Int32} {j : Nat} {ho mi ca ja : Int32} {ck hh jk co : Nat → Int32} (h : RGd G ho mi ca ja ck hh jk co) (hi : (i.toNatClampNeg : Int) < ca.toInt) (hj : (j : Int) < ja.toInt) : RGd (goLaF G i j) ho (mi ||| (1 : Int32) <<< (i &&& 31)) ca ja ck hh jk (filF co j (givF (ck i.toNatClampNeg) (hh i.toNatClampNeg) (rem24 (ho + 0)))) := by
  have hm := d_mil h i
  have e1 := (hm.2.2.2.2.1 _ hi).1
  have e2 := (hm.2.2.2.2.1 _ hi).2
  have e5 := hm.1
  unfold goLaF
  rw [← e1, ← e2, e5]
  exact d_fill hm hj _ _
theorem pour_eq {j k : Nat} {ho mi ca ja : Int32} {ck hh jk co : Nat → Int32} (h : RGd G ho mi ca ja ck hh jk co) (hj : (j : Int) < ja.toInt) (hk : (k : Int) < ja.toInt) : RGd (goPoF G j k) ho mi ca ja ck hh jk (upd (filF co k (co j)) j ((filF co k (co j)) j - camF (co k) (co j))) := by
  have ej := (h.2.2.2.2.2.1 j hj).2
  have ek := (h.2.2.2.2.2.1 k hk).2
  have h1 := d_fill h hk (G (8 + j)) (G (12 + j))
  have e1 := (h1.2.2.2.2.2.1 j hj).2
  unfold goPoF
  rw [ej, ek, e1]
  exact d_cool h1 hj _
end RGW
