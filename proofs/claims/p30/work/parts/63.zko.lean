section KOS
variable {w w1 : Nat → va_E} {o : Nat}
def KO (o : Nat) (w w1 : Nat → va_E) : Prop := KM w w1 ∧ ∀ k, k ≠ o → w1 k = w k
theorem KO.rf : KO o w w := ⟨KM.rf, fun _ _ => rfl⟩
theorem KO.tr {u v x : Nat → va_E} (h : KO o u v) (g : KO o v x) : KO o u x := ⟨h.1.tr g.1, fun k q => (g.2 k q).trans (h.2 k q)⟩
theorem KO.up {a : Nat → va_E} {c c0 : va_E} (h : KO o a w) (e : w1 = va_up w o c) (f : w o = c0) (g : pm o c = pm o c0) : KO o a w1 := ⟨h.1.up e f g, fun k q => by rw [e, va_up_ne _ _ q]; exact h.2 k q⟩
end KOS
