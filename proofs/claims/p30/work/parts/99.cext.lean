/-! ===== an array is what its places hold ===== -/
theorem arr_ext {c : ClassId} {N : Nat} {f g : Nat → Int32} (h : ∀ j, j < N → f j = g j) : vp_cell c (N, .inl f) = vp_cell c (N, .inl g) := by
  show arrV c N (fun j => .int (f j)) = arrV c N (fun j => .int (g j))
  unfold arrV
  congr 1
  congr 1
  funext j
  exact congrArg Value.int (h j.val j.isLt)
theorem St_ext {G : va_G} {n : Nat} {ad : Nat → Nat} {A : Nat → Prop} {H0 H : Heap} {w : Nat → va_E} {locs : List Loc} {b N : Nat} {c : ClassId} {f g : Nat → Int32} (h : St G n ad A H0 w H locs) (hb : b < n) (hw : w b = .inl (c, N, .inl f)) (e : ∀ j, j < N → f j = g j) : St G n ad A H0 (va_up w b (.inl (c, N, .inl g))) H locs := by
  refine ⟨fun k q hq => ?_, h.2⟩
  obtain ⟨hk, rfl⟩ := wl_inv hq
  by_cases t : k = b
  · subst t
    rw [va_up_self]
    have h1 := h.1 k _ (wl_get hk)
    rw [hw] at h1
    show H[ad k]? = some (vp_cell c (N, .inl g))
    rw [← arr_ext e]
    exact h1
  · rw [va_up_ne _ _ t]
    exact h.1 k _ (wl_get hk)
/-- the token that is looked at is that at p -/
def AT (bs : Nat → Int32) (len p : Nat) (ta tl tk va : Int32) : Prop := ta.toInt = (tS bs len p : Nat) ∧ ta.toInt + tl.toInt = (tE bs len p : Nat) ∧ tk.toInt = tK bs len p ∧ (tk.toInt = 2 → va.toInt = tV bs len p)
theorem LOOKP.at_ {bs : Nat → Int32} {z b a1 l1 c1 d1 : Int32} (h : LOOKP bs z b a1 l1 c1 d1) : AT bs z.toNatClampNeg b.toNatClampNeg a1 l1 c1 d1 := by
  obtain ⟨e, he, h1, h2, h3, h4⟩ := h
  exact ⟨h1, by omega, h3, h4⟩
/-- the numbers of an item, up to where its stop must stand -/
noncomputable def jt1 (bs : Nat → Int32) (len p : Nat) (G : Nat → Int32) : Nat ⊕ (Nat × (Nat → Int32)) := pick (numK bs len p 0 5) (pick (numK bs len (tE bs len p) 1 9) (pick (numK bs len (tE bs len (tE bs len p)) 0 3) (.inr (tE bs len (tE bs len (tE bs len p)), layCF G (iv (tV bs len p)) (iv (tV bs len (tE bs len p))) (iv (tV bs len (tE bs len (tE bs len p)))))) (.inl (tS bs len (tE bs len (tE bs len p))))) (.inl (tS bs len (tE bs len p)))) (.inl (tS bs len p))
noncomputable def jt2 (bs : Nat → Int32) (len p : Nat) (G : Nat → Int32) : Nat ⊕ (Nat × (Nat → Int32)) := pick (numK bs len p 0 5) (.inr (tE bs len p, layJF G (iv (tV bs len p)))) (.inl (tS bs len p))
noncomputable def jt3 (bs : Nat → Int32) (len p : Nat) (G : Nat → Int32) : Nat ⊕ (Nat × (Nat → Int32)) := pick (numK bs len p 0 ((G 0).toInt - 1) ∧ bitF (G 7) (iv (tV bs len p)) = 0) (pick (numK bs len (tE bs len p) 0 ((G 1).toInt - 1)) (.inr (tE bs len (tE bs len p), goLaF G (iv (tV bs len p)) (iv (tV bs len (tE bs len p))).toNatClampNeg)) (.inl (tS bs len (tE bs len p)))) (.inl (tS bs len p))
noncomputable def jt4 (bs : Nat → Int32) (len p : Nat) (G : Nat → Int32) : Nat ⊕ (Nat × (Nat → Int32)) := pick (numK bs len p 0 ((G 1).toInt - 1) ∧ ¬ (G (8 + (iv (tV bs len p)).toNatClampNeg)).toInt = 0) (pick (numK bs len (tE bs len p) 0 ((G 1).toInt - 1) ∧ ¬ tV bs len (tE bs len p) = tV bs len p) (.inr (tE bs len (tE bs len p), goPoF G (iv (tV bs len p)).toNatClampNeg (iv (tV bs len (tE bs len p))).toNatClampNeg)) (.inl (tS bs len (tE bs len p)))) (.inl (tS bs len p))
noncomputable def jt5 (bs : Nat → Int32) (len p : Nat) (G : Nat → Int32) : Nat ⊕ (Nat × (Nat → Int32)) := pick (numK bs len p 1 99) (.inr (tE bs len p, goHsF (iv (tV bs len p)).toNatClampNeg G)) (.inl (tS bs len p))
noncomputable def thenStop (bs : Nat → Int32) (len : Nat) (x : Nat ⊕ (Nat × (Nat → Int32))) : Nat ⊕ (Nat × (Nat → Int32)) := match x with | .inl s => .inl s | .inr q => stopF bs len q.1 q.2
theorem it1_jt {bs : Nat → Int32} {len p : Nat} {G : Nat → Int32} : it1 bs len p G = thenStop bs len (jt1 bs len p G) := by
  unfold it1 jt1 pick
  (repeat' split) <;> rfl
theorem it2_jt {bs : Nat → Int32} {len p : Nat} {G : Nat → Int32} : it2 bs len p G = thenStop bs len (jt2 bs len p G) := by
  unfold it2 jt2 pick
  (repeat' split) <;> rfl
theorem it3_jt {bs : Nat → Int32} {len p : Nat} {G : Nat → Int32} : it3 bs len p G = thenStop bs len (jt3 bs len p G) := by
  unfold it3 jt3 pick
  (repeat' split) <;> rfl
theorem it4_jt {bs : Nat → Int32} {len p : Nat} {G : Nat → Int32} : it4 bs len p G = thenStop bs len (jt4 bs len p G) := by
  unfold it4 jt4 pick
  (repeat' split) <;> rfl
theorem it5_jt {bs : Nat → Int32} {len p : Nat} {G : Nat → Int32} : it5 bs len p G = thenStop bs len (jt5 bs len p G) := by
  unfold it5 jt5 pick
  (repeat' split) <;> rfl
theorem begF_al (t : Int32) : alA (begF t) := by
  have e : ∀ k : Nat, k < 5 → begF t k = 0 := fun k hk => if_neg (by omega)
  unfold alA
  rw [e 0 (by decide), e 1 (by decide), e 2 (by decide), e 3 (by decide), e 4 (by decide)]
  decide
