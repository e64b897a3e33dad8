/-! ===== tokens of a text, as a function ===== -/
abbrev isLt (x : Int32) : Prop := 97 ≤ x.toInt ∧ x.toInt ≤ 122
abbrev isDg (x : Int32) : Prop := 48 ≤ x.toInt ∧ x.toInt ≤ 57
abbrev isSp (x : Int32) : Prop := x.toInt = 32
def endF (P : Int32 → Bool) (bs : Nat → Int32) (len : Nat) : Nat → Nat → Nat
  | 0, p => p
  | n + 1, p => bif decide (p < len) && P (bs p) then endF P bs len n (p + 1) else p
theorem endF_is {P : Int32 → Bool} {bs : Nat → Int32} {len : Nat} : ∀ (n p q : Nat), len - p ≤ n → p ≤ q → q ≤ len → (∀ j, p ≤ j → j < q → P (bs j) = true) → (q = len ∨ P (bs q) = false) → endF P bs len n p = q := by
  intro n
  induction n with
  | zero =>
    intro p q h1 h2 h3 _ _
    show p = q
    omega
  | succ n ih =>
    intro p q h1 h2 h3 h4 h5
    show (bif decide (p < len) && P (bs p) then endF P bs len n (p + 1) else p) = q
    by_cases e : p = q
    · subst e
      rcases h5 with h5 | h5
      · rw [decide_eq_false (by omega)]; rfl
      · rw [h5, Bool.and_false]; rfl
    · rw [decide_eq_true (by omega), h4 p (Nat.le_refl _) (by omega)]
      exact ih (p + 1) q (by omega) (by omega) h3 (fun j a b => h4 j (by omega) b) h5
def spB (x : Int32) : Bool := decide (isSp x)
def ltB (x : Int32) : Bool := decide (isLt x)
def dgB (x : Int32) : Bool := decide (isDg x)
/-- where the token at p begins -/
def tS (bs : Nat → Int32) (len p : Nat) : Nat := endF spB bs len len p
def tKE (bs : Nat → Int32) (len s : Nat) : Int × Nat :=
  if len ≤ s then (0, s)
  else if isLt (bs s) then (1, endF ltB bs len len s)
  else if isDg (bs s) then (if endF dgB bs len len s ≤ s + 2 then 2 else 4, endF dgB bs len len s)
  else if (bs s).toInt = 59 then (3, s + 1) else (4, s + 1)
/-- its kind and its end -/
def tK (bs : Nat → Int32) (len p : Nat) : Int := (tKE bs len (tS bs len p)).1
def tE (bs : Nat → Int32) (len p : Nat) : Nat := (tKE bs len (tS bs len p)).2
/-- its number, where it is one -/
def tV (bs : Nat → Int32) (len p : Nat) : Int := if tE bs len p = tS bs len p + 1 then (bs (tS bs len p)).toInt - 48 else 10 * ((bs (tS bs len p)).toInt - 48) + (bs (tS bs len p + 1)).toInt - 48
theorem endF_cong {P : Int32 → Bool} {f g : Nat → Int32} {len : Nat} (h : ∀ j, j < len → f j = g j) : ∀ (n p : Nat), endF P f len n p = endF P g len n p := by
  intro n
  induction n with
  | zero => intro p; rfl
  | succ n ih =>
    intro p
    show (bif decide (p < len) && P (f p) then endF P f len n (p + 1) else p) = (bif decide (p < len) && P (g p) then endF P g len n (p + 1) else p)
    by_cases e : p < len
    · rw [h p e, ih (p + 1)]
    · rw [decide_eq_false e]; rfl
theorem endF_le {P : Int32 → Bool} {f : Nat → Int32} {len : Nat} : ∀ (n p : Nat), p ≤ len → p ≤ endF P f len n p ∧ endF P f len n p ≤ len := by
  intro n
  induction n with
  | zero => intro p h; exact ⟨Nat.le_refl _, h⟩
  | succ n ih =>
    intro p h
    show p ≤ (bif decide (p < len) && P (f p) then endF P f len n (p + 1) else p) ∧ (bif decide (p < len) && P (f p) then endF P f len n (p + 1) else p) ≤ len
    cases hq : (decide (p < len) && P (f p)) with
    | false => exact ⟨Nat.le_refl _, h⟩
    | true =>
      have hp : p < len := by
        have := (Bool.and_eq_true_iff.mp hq).1
        exact of_decide_eq_true this
      have := ih (p + 1) hp
      exact ⟨by show p ≤ endF P f len n (p + 1); omega, this.2⟩
theorem tS_cong {f g : Nat → Int32} {len : Nat} (h : ∀ j, j < len → f j = g j) (p : Nat) : tS f len p = tS g len p := endF_cong h len p
theorem tKE_cong {f g : Nat → Int32} {len : Nat} (h : ∀ j, j < len → f j = g j) (s : Nat) : tKE f len s = tKE g len s := by
  unfold tKE
  by_cases e : len ≤ s
  · rw [if_pos e, if_pos e]
  · rw [if_neg e, if_neg e, h s (by omega), endF_cong h, endF_cong h]
theorem tK_cong {f g : Nat → Int32} {len : Nat} (h : ∀ j, j < len → f j = g j) (p : Nat) : tK f len p = tK g len p := by unfold tK; rw [tS_cong h, tKE_cong h]
theorem tE_cong {f g : Nat → Int32} {len : Nat} (h : ∀ j, j < len → f j = g j) (p : Nat) : tE f len p = tE g len p := by unfold tE; rw [tS_cong h, tKE_cong h]
