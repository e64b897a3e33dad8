/-! ===== what the model does to its row, as functions ===== -/
def rem24 (x : Int32) : Int32 := x - x / 24 * 24
def walF (h : Int32) : Int32 := (h + 1) / 2
def treF (h t : Int32) : Int32 := if 11 ≤ t.toInt ∧ t.toInt ≤ 13 then walF h + h else walF h
def frmF (t : Int32) : Int32 := if 12 < t.toInt then t - 12 else 12 - t
def givF (k h t : Int32) : Int32 := if k.toInt = 1 then treF h t else if k.toInt = 2 then treF h t / 2 else if k.toInt = 3 then (if (t - t / 3 * 3).toInt = 0 then 0 else 2 * walF h) else if k.toInt = 4 then walF h + (if 9 < (frmF t).toInt then 9 else frmF t) else if k.toInt = 5 then treF h t + 3 else walF h
def stoF (t : Int32) : Int32 := if t.toInt < 6 then 0 else 1
def losF (k c t : Int32) : Int32 := if k.toInt = 1 then 3 else if k.toInt = 2 then stoF t else if k.toInt = 3 then 3 + c / 10 else if k.toInt = 4 then (c + 1) / 2 else if k.toInt = 5 then (if 20 ≤ c.toInt then 0 else stoF t) else 1
/-- how much comes into a jar that has c, of x -/
def camF (c x : Int32) : Int32 := if x.toInt < (60 - c).toInt then x else 60 - c
def golF (f : Nat → Int32) (j : Nat) : Int32 := if (losF (f (37 + j)) (f (8 + j)) (rem24 (f 5))).toInt < (f (8 + j)).toInt then losF (f (37 + j)) (f (8 + j)) (rem24 (f 5)) else f (8 + j)
def goInF (f : Nat → Int32) (j : Nat) (x t : Int32) : Nat → Int32 :=
  if 0 < (camF (f (8 + j)) x).toInt then upd (upd f (12 + j) (if (f (8 + j)).toInt = 0 ∨ (f (12 + j)).toInt = t.toInt then t else 4)) (8 + j) (f (8 + j) + camF (f (8 + j)) x) else f
def milF (f : Nat → Int32) (i : Int32) : Nat → Int32 := upd f 7 (f 7 ||| (1 : Int32) <<< (i &&& 31))
def goLaF (f : Nat → Int32) (i : Int32) (j : Nat) : Nat → Int32 :=
  goInF (milF f i) j (givF (milF f i (16 + i.toNatClampNeg)) (milF f i (23 + i.toNatClampNeg)) (rem24 (milF f i 5 + 0))) (milF f i (30 + i.toNatClampNeg))
def goPoF (f : Nat → Int32) (j k : Nat) : Nat → Int32 :=
  upd (goInF f k (f (8 + j)) (f (12 + j))) (8 + j) (goInF f k (f (8 + j)) (f (12 + j)) (8 + j) - camF (f (8 + k)) (f (8 + j)))
def losN : Nat → (Nat → Int32) → Nat → Int32
  | 0, f => f
  | n + 1, f => upd (losN n f) (8 + n) (losN n f (8 + n) - golF (losN n f) n)
def goHoF (f : Nat → Int32) : Nat → Int32 := upd (upd (losN (f 1).toNatClampNeg f) 5 (losN (f 1).toNatClampNeg f 5 + 1)) 7 0
def goHsF : Nat → (Nat → Int32) → Nat → Int32
  | 0, f => f
  | n + 1, f => if (f 5).toInt < 9999 then goHsF n (goHoF f) else f
def layCF (f : Nat → Int32) (k h t : Int32) : Nat → Int32 := upd (upd (upd (upd f (16 + (f 0).toNatClampNeg) k) (23 + (f 0).toNatClampNeg) h) (30 + (f 0).toNatClampNeg) t) 0 (f 0 + 1)
def layJF (f : Nat → Int32) (k : Int32) : Nat → Int32 := upd (upd f (37 + (f 1).toNatClampNeg) k) 1 (f 1 + 1)
def begF (t : Int32) : Nat → Int32 := fun k => if k = 5 then t else 0
theorem cl_addn {x y z : Int32} {a b : Nat} (hx : x.toNatClampNeg = a) (hy : y.toNatClampNeg = b) (tz : z.toInt = x.toInt + y.toInt) (h0 : 0 ≤ x.toInt) (h1 : 0 ≤ y.toInt) : z.toNatClampNeg = a + b := by
  have e1 := cl_of h0
  have e2 := cl_of h1
  have e3 := cl_of (x := z) (by omega)
  omega
theorem alA_of65 {cI cB cZ cO : ClassId} {ad : Nat → Nat} {w : Nat → va_E} {f : Nat → Int32} {N o : Nat} (ok : OK cI cB cZ cO ad w) (ho : isO o) (e : w o = .inl (cI, N, .inl f)) : alA f ∧ 41 ≤ N := by
  obtain ⟨N1, f1, e1, h1, p⟩ := OK.o ok ho
  rw [e] at e1
  cases e1
  exact ⟨p, h1⟩
theorem man_eq {t a m : Int32} (h0 : -24 < t.toInt) (h1 : t.toInt < 24) (ea : (if 0 ≤ t - 12 then t - 12 else 0 - (t - 12)) = a) (em : (if a < 9 then a else 9) = m) : (if 9 < (frmF t).toInt then 9 else frmF t) = m := by
  have e0 : (0 : Int32).toInt = 0 := rfl
  have e9 : (9 : Int32).toInt = 9 := rfl
  have e12 : (12 : Int32).toInt = 12 := rfl
  have d1 : (t - 12).toInt = t.toInt - 12 := by rw [fb_subI (by rw [e12]; omega) (by rw [e12]; omega), e12]
  have d2 : (12 - t).toInt = 12 - t.toInt := by rw [fb_subI (by rw [e12]; omega) (by rw [e12]; omega), e12]
  have d3 : (0 - (t - 12)).toInt = 12 - t.toInt := by rw [fb_subI (by rw [e0, d1]; omega) (by rw [e0, d1]; omega), e0, d1]; omega
  have ha : a.toInt = if 12 ≤ t.toInt then t.toInt - 12 else 12 - t.toInt := by
    rw [← ea]
    by_cases q : 0 ≤ t - 12
    · have := (fa_le _ _).mp q
      rw [if_pos q, d1, if_pos (by omega)]
    · have : ¬ 0 ≤ (t - 12).toInt := fun z => q ((fa_le _ _).mpr (by rw [e0]; exact z))
      rw [if_neg q, d3, if_neg (by omega)]
  have hm : m.toInt = if a.toInt < 9 then a.toInt else 9 := by
    rw [← em]
    by_cases q : a < 9
    · have := (fa_lt _ _).mp q
      rw [if_pos q, if_pos (by omega)]
    · have : ¬ a.toInt < 9 := fun z => q ((fa_lt _ _).mpr (by rw [e9]; exact z))
      rw [if_neg q, if_neg (by omega), e9]
  have hf : (frmF t).toInt = if 12 < t.toInt then t.toInt - 12 else 12 - t.toInt := by
    unfold frmF
    by_cases q : 12 < t.toInt
    · rw [if_pos q, if_pos q, d1]
    · rw [if_neg q, if_neg q, d2]
  apply (fa_eq _ _).mpr
  rw [hm, ha]
  by_cases q : 9 < (frmF t).toInt
  · rw [if_pos q, e9]
    rw [hf] at q
    split <;> split at q <;> (try split) <;> omega
  · rw [if_neg q, hf]
    rw [hf] at q
    split <;> split at q <;> (try split) <;> (try split) <;> omega
theorem losN_out {f : Nat → Int32} {k : Nat} (hk : k < 8) : ∀ n, losN n f k = f k := by
  intro n
  induction n with
  | zero => rfl
  | succ n ih =>
    show upd (losN n f) (8 + n) _ k = f k
    rw [pk_un (by omega)]; exact ih
theorem losN_1 (n : Nat) (f : Nat → Int32) : losN n f 1 = f 1 := losN_out (by decide) n
theorem goHsF_stop {f : Nat → Int32} (h : ¬ (f 5).toInt < 9999) : ∀ n, goHsF n f = f := by
  intro n
  cases n with
  | zero => rfl
  | succ n =>
    show (if (f 5).toInt < 9999 then _ else _) = f
    rw [if_neg h]
theorem cl_le (x : Int32) : ((x.toNatClampNeg : Nat) : Int) ≤ x.toInt ∨ x.toNatClampNeg = 0 := by
  show ((x.toInt.toNat : Nat) : Int) ≤ x.toInt ∨ x.toInt.toNat = 0
  omega
