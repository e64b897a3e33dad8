theorem nm99 {cI cB cZ cO : ClassId} {ad : Nat → Nat} {w : Nat → va_E} {f : Nat → Int32} (ok : OK cI cB cZ cO ad w) (e : w 57 = .inl (cI, 3, .inl f)) : rgA 0 99 f := by
  obtain ⟨f1, e1, p⟩ := (show sA cI 3 (rgA 0 99) (w 57) from ok 57 (by decide))
  rw [e] at e1
  cases e1
  exact p
