/-! ===== of which kinds, by notes or marks ===== -/
def sayF (bk : Nat) (k m t : Int32) : Int32 := if bk = 0 then givF k m t else losF k m t
def agP (bk : Nat) (c : Nat → Int32) (n : Nat) (who kd : Int32) : Prop := ∀ r : Nat, r < n → c (4 * r) = who → sayF bk kd (c (4 * r + 1)) (c (4 * r + 2)) = c (4 * r + 3)
noncomputable def fitN (P : Nat → Prop) : Nat → Int32
  | 0 => 0
  | k + 1 => pick (P k) (fitN P k ||| (1 : Int32) <<< (nI k &&& 31)) (fitN P k)
theorem fitN_y {P : Nat → Prop} {k : Nat} (h : P k) : fitN P (k + 1) = fitN P k ||| (1 : Int32) <<< (nI k &&& 31) := pick_y h
theorem fitN_n {P : Nat → Prop} {k : Nat} (h : ¬ P k) : fitN P (k + 1) = fitN P k := pick_n h
theorem fitN_cong {P Q : Nat → Prop} (h : ∀ k, P k ↔ Q k) : ∀ n, fitN P n = fitN Q n := by
  intro n
  induction n with
  | zero => rfl
  | succ n ih =>
    by_cases p : P n
    · rw [fitN_y p, fitN_y ((h n).mp p), ih]
    · rw [fitN_n p, fitN_n (fun q => p ((h n).mpr q)), ih]
theorem nI_cl {x : Int32} (h : 0 ≤ x.toInt) : nI x.toNatClampNeg = x := by
  have c := cl_of h
  have b := ihi x
  exact (fa_eq _ _).mpr (by rw [nI_toInt (by omega)]; exact c)
theorem or0 (x : Int32) : x ||| 0 = x := Int32.or_zero
theorem agP_cong {bk n : Nat} {c d : Nat → Int32} {who kd : Int32} (h : ∀ k, k < 4 * n → c k = d k) : agP bk c n who kd ↔ agP bk d n who kd := by
  have go : ∀ (c d : Nat → Int32), (∀ k, k < 4 * n → c k = d k) → agP bk c n who kd → agP bk d n who kd := by
    intro c d h q r hr hw
    have := q r hr (by rw [h _ (by omega)]; exact hw)
    rw [h _ (by omega), h _ (by omega), h _ (by omega)] at this
    exact this
  exact ⟨go c d h, go d c (fun k hk => (h k hk).symm)⟩
/-- up to a row -/
def agU (bk : Nat) (c : Nat → Int32) (n : Nat) (who kd : Int32) : Prop := ∀ r : Nat, r < n → c (4 * r) = who → sayF bk kd (c (4 * r + 1)) (c (4 * r + 2)) = c (4 * r + 3)
theorem agU.nil {bk : Nat} {c : Nat → Int32} {who kd : Int32} : agU bk c 0 who kd := fun r hr => absurd hr (Nat.not_lt_zero _)
theorem agU.skip {bk n : Nat} {c : Nat → Int32} {who kd v : Int32} (h : agU bk c n who kd) (e : c (4 * n) = v) (hv : ¬ v.toInt = who.toInt) : agU bk c (n + 1) who kd := by
  intro r hr hw
  by_cases q : r = n
  · subst q; rw [e] at hw; subst hw; exact absurd rfl hv
  · exact h r (by omega) hw
theorem agU.go {bk n : Nat} {c : Nat → Int32} {who kd a b x y : Int32} (h : agU bk c n who kd) (ea : c (4 * n + 1) = a) (eb : c (4 * n + 2) = b) (ex : c (4 * n + 3) = x) (ey : sayF bk kd a b = y) (hxy : y.toInt = x.toInt) : agU bk c (n + 1) who kd := by
  intro r hr hw
  by_cases q : r = n
  · subst q; rw [ea, eb, ex, ey]; exact (fa_eq _ _).mpr hxy
  · exact h r (by omega) hw
theorem agP_not {bk n m : Nat} {c : Nat → Int32} {who kd v a b x y : Int32} (hm : m < n) (e : c (4 * m) = v) (hv : v.toInt = who.toInt) (ea : c (4 * m + 1) = a) (eb : c (4 * m + 2) = b) (ex : c (4 * m + 3) = x) (ey : sayF bk kd a b = y) (hxy : ¬ y.toInt = x.toInt) : ¬ agP bk c n who kd := by
  intro h
  have t := h m hm (by rw [e]; exact (fa_eq _ _).mpr hv)
  rw [ea, eb, ex, ey] at t
  exact hxy (congrArg Int32.toInt t)
