/-! ===== numbers with names ===== -/
theorem x_add {x y : Int32} {a b : Int} (hx : x.toInt = a) (hy : y.toInt = b) (h1 : -2147483648 ≤ a + b) (h2 : a + b < 2147483648) : ∃ z : Int32, x + y = z ∧ z.toInt = a + b :=
  ⟨_, rfl, by rw [fb_addI (by rw [hx, hy]; exact h1) (by rw [hx, hy]; exact h2), hx, hy]⟩
theorem x_sub {x y : Int32} {a b : Int} (hx : x.toInt = a) (hy : y.toInt = b) (h1 : -2147483648 ≤ a - b) (h2 : a - b < 2147483648) : ∃ z : Int32, x - y = z ∧ z.toInt = a - b :=
  ⟨_, rfl, by rw [fb_subI (by rw [hx, hy]; exact h1) (by rw [hx, hy]; exact h2), hx, hy]⟩
theorem x_mul {x y : Int32} {a b : Int} (hx : x.toInt = a) (hy : y.toInt = b) (h1 : -2147483648 ≤ a * b) (h2 : a * b < 2147483648) : ∃ z : Int32, x * y = z ∧ z.toInt = a * b :=
  ⟨_, rfl, by rw [fb_mulI (by rw [hx, hy]; exact h1) (by rw [hx, hy]; exact h2), hx, hy]⟩
theorem x_mulp {x y : Int32} {p q : Int} (h1 : 1 ≤ x.toInt) (h2 : x.toInt ≤ p) (h3 : 1 ≤ y.toInt) (h4 : y.toInt ≤ q) (h5 : p * q < 2147483648) : ∃ z : Int32, x * y = z ∧ 1 ≤ z.toInt ∧ z.toInt ≤ p * q := by
  have e1 : x.toInt * y.toInt ≤ p * q := Int.mul_le_mul h2 h4 (by omega) (by omega)
  have e2 : 1 * 1 ≤ x.toInt * y.toInt := Int.mul_le_mul h1 h3 (by omega) (by omega)
  exact ⟨_, rfl, by rw [fb_mulI (by omega) (by omega)]; omega, by rw [fb_mulI (by omega) (by omega)]; exact e1⟩
theorem q_div {x y : Int32} (h0 : 0 ≤ x.toInt) (h1 : 1 ≤ y.toInt) : (x / y).toInt = x.toInt / y.toInt := by
  have hx : x = nI x.toNatClampNeg := by
    apply Int32.toInt_inj.mp
    have := Int32.toInt_lt x
    rw [nI_toInt (by have := cl_of h0; omega), cl_of h0]
  have hy : y = nI y.toNatClampNeg := by
    apply Int32.toInt_inj.mp
    have := Int32.toInt_lt y
    rw [nI_toInt (by have := cl_of (x := y) (by omega); omega), cl_of (by omega)]
  have a1 := cl_of h0
  have a2 := cl_of (x := y) (by omega)
  have b1 := Int32.toInt_lt x
  have b2 := Int32.toInt_lt y
  have c1 : x.toNatClampNeg / y.toNatClampNeg ≤ x.toNatClampNeg := Nat.div_le_self _ _
  have k : (x / y).toInt = ((x.toNatClampNeg / y.toNatClampNeg : Nat) : Int) := by
    rw [hx, hy, pk_div (by omega) (by omega) (by omega)]
    rw [nI_clamp (by omega), nI_clamp (by omega)]
    exact nI_toInt (by omega)
  rw [k, ← a1, ← a2]; simp
theorem q_rem {x y : Int32} (h0 : 0 ≤ x.toInt) (h1 : 1 ≤ y.toInt) : (x - x / y * y).toInt = x.toInt % y.toInt := by
  have hx : x = nI x.toNatClampNeg := by
    apply Int32.toInt_inj.mp
    have := Int32.toInt_lt x
    rw [nI_toInt (by have := cl_of h0; omega), cl_of h0]
  have hy : y = nI y.toNatClampNeg := by
    apply Int32.toInt_inj.mp
    have := Int32.toInt_lt y
    rw [nI_toInt (by have := cl_of (x := y) (by omega); omega), cl_of (by omega)]
  have a1 := cl_of h0
  have a2 := cl_of (x := y) (by omega)
  have b1 := Int32.toInt_lt x
  have b2 := Int32.toInt_lt y
  have c1 : x.toNatClampNeg % y.toNatClampNeg ≤ x.toNatClampNeg := Nat.mod_le _ _
  have k : (x - x / y * y).toInt = ((x.toNatClampNeg % y.toNatClampNeg : Nat) : Int) := by
    rw [hx, hy, pk_rem (by omega) (by omega) (by omega)]
    rw [nI_clamp (by omega), nI_clamp (by omega)]
    exact nI_toInt (by omega)
  rw [k, ← a1, ← a2]; simp
theorem x_div {x y : Int32} {a b : Int} (hx : x.toInt = a) (hy : y.toInt = b) (h0 : 0 ≤ a) (h1 : 1 ≤ b) : ∃ z : Int32, x / y = z ∧ z.toInt = a / b :=
  ⟨_, rfl, by rw [q_div (by rw [hx]; exact h0) (by rw [hy]; exact h1), hx, hy]⟩
theorem x_rem {x y : Int32} {a b : Int} (hx : x.toInt = a) (hy : y.toInt = b) (h0 : 0 ≤ a) (h1 : 1 ≤ b) : ∃ z : Int32, x - x / y * y = z ∧ z.toInt = a % b :=
  ⟨_, rfl, by rw [q_rem (by rw [hx]; exact h0) (by rw [hy]; exact h1), hx, hy]⟩
theorem x_divv {x y : Int32} (h0 : 0 ≤ x.toInt) (h1 : 1 ≤ y.toInt) : ∃ z : Int32, x / y = z ∧ 0 ≤ z.toInt ∧ z.toInt ≤ x.toInt :=
  ⟨_, rfl, by rw [q_div h0 h1]; exact Int.ediv_nonneg h0 (by omega), by rw [q_div h0 h1]; exact Int.ediv_le_self _ h0⟩
theorem x_remv {x y : Int32} (h0 : 0 ≤ x.toInt) (h1 : 1 ≤ y.toInt) : ∃ z : Int32, x - x / y * y = z ∧ 0 ≤ z.toInt ∧ z.toInt < y.toInt :=
  ⟨_, rfl, by rw [q_rem h0 h1]; exact Int.emod_nonneg _ (by omega), by rw [q_rem h0 h1]; exact Int.emod_lt_of_pos _ (by omega)⟩
theorem x_rem24 (x : Int32) : ∃ z : Int32, x - x / 24 * 24 = z ∧ -24 < z.toInt ∧ z.toInt < 24 := by
  have e0 : (24 : Int32).toInt = 24 := rfl
  have l1 := Int32.toInt_lt x
  have l2 := Int32.le_toInt x
  have hd : (x / 24).toInt = Int.tdiv x.toInt 24 := by
    rw [Int32.toInt_div, e0]
    have h1 : Int.tdiv x.toInt 24 = if 0 ≤ x.toInt then x.toInt / 24 else -((-x.toInt) / 24) := by
      split
      · rename_i h; exact Int.tdiv_eq_ediv_of_nonneg h
      · rename_i h
        have : x.toInt = -(-x.toInt) := by omega
        rw [this, Int.neg_tdiv, Int.tdiv_eq_ediv_of_nonneg (by omega)]; simp
    rw [h1]
    split <;> exact fb_bmod (by omega) (by omega)
  have h1 : Int.tdiv x.toInt 24 = if 0 ≤ x.toInt then x.toInt / 24 else -((-x.toInt) / 24) := by
    split
    · rename_i h; exact Int.tdiv_eq_ediv_of_nonneg h
    · rename_i h
      have : x.toInt = -(-x.toInt) := by omega
      rw [this, Int.neg_tdiv, Int.tdiv_eq_ediv_of_nonneg (by omega)]; simp
  rw [h1] at hd
  have hm : (x / 24 * 24).toInt = (x / 24).toInt * 24 := by
    rw [fb_mulI (by rw [hd, e0]; split <;> omega) (by rw [hd, e0]; split <;> omega), e0]
  refine ⟨_, rfl, ?_, ?_⟩ <;> rw [fb_subI (by rw [hm, hd]; split <;> omega) (by rw [hm, hd]; split <;> omega), hm, hd] <;> split <;> omega
theorem x_shl7 {i : Int32} (h0 : 0 ≤ i.toInt) (h1 : i.toInt ≤ 7) : ∃ z : Int32, (1 : Int32) <<< (i &&& 31) = z ∧ 1 ≤ z.toInt ∧ z.toInt ≤ 128 := by
  have ha : i = 0 ∨ i = 1 ∨ i = 2 ∨ i = 3 ∨ i = 4 ∨ i = 5 ∨ i = 6 ∨ i = 7 := by
    simp only [fa_eq]
    have e : ∀ k : Nat, k < 8 → (nI k).toInt = k := fun k hk => nI_toInt (by omega)
    have e0 : (0 : Int32).toInt = 0 := rfl
    have e1 : (1 : Int32).toInt = 1 := rfl
    have e2 : (2 : Int32).toInt = 2 := rfl
    have e3 : (3 : Int32).toInt = 3 := rfl
    have e4 : (4 : Int32).toInt = 4 := rfl
    have e5 : (5 : Int32).toInt = 5 := rfl
    have e6 : (6 : Int32).toInt = 6 := rfl
    have e7 : (7 : Int32).toInt = 7 := rfl
    rw [e0, e1, e2, e3, e4, e5, e6, e7]; omega
  rcases ha with rfl | rfl | rfl | rfl | rfl | rfl | rfl | rfl <;> exact ⟨_, rfl, by decide, by decide⟩
theorem x_shr1 {x : Int32} (h0 : 0 ≤ x.toInt) : ∃ z : Int32, x >>> ((1 : Int32) &&& 31) = z ∧ z.toInt = x.toInt / 2 := by
  refine ⟨_, rfl, ?_⟩
  rw [pk_shr _ _ 1 (by decide), Int.shiftRight_eq_div_pow]
  rfl
theorem x_min (x y : Int32) : ∃ z : Int32, (if y < x then y else x) = z ∧ z.toInt ≤ x.toInt ∧ z.toInt ≤ y.toInt ∧ (z.toInt = x.toInt ∨ z.toInt = y.toInt) := by
  by_cases h : y < x
  · refine ⟨y, by rw [if_pos h], ?_⟩
    have := (fa_lt _ _).mp h
    omega
  · refine ⟨x, by rw [if_neg h], ?_⟩
    have : ¬ y.toInt < x.toInt := fun q => h ((fa_lt _ _).mpr q)
    omega
theorem x_max (x y : Int32) : ∃ z : Int32, (if x < y then y else x) = z ∧ x.toInt ≤ z.toInt ∧ y.toInt ≤ z.toInt ∧ (z.toInt = x.toInt ∨ z.toInt = y.toInt) := by
  by_cases h : x < y
  · refine ⟨y, by rw [if_pos h], ?_⟩
    have := (fa_lt _ _).mp h
    omega
  · refine ⟨x, by rw [if_neg h], ?_⟩
    have : ¬ x.toInt < y.toInt := fun q => h ((fa_lt _ _).mpr q)
    omega
theorem x_abs {x : Int32} (h0 : -2147483648 < x.toInt) : ∃ z : Int32, (if 0 ≤ x then x else 0 - x) = z ∧ 0 ≤ z.toInt ∧ (z.toInt = x.toInt ∨ z.toInt = -x.toInt) := by
  have e0 : (0 : Int32).toInt = 0 := rfl
  by_cases h : 0 ≤ x
  · refine ⟨x, by rw [if_pos h], ?_⟩
    have := (fa_le _ _).mp h
    omega
  · refine ⟨0 - x, by rw [if_neg h], ?_⟩
    have h9 : ¬ 0 ≤ x.toInt := fun q => h ((fa_le _ _).mpr (by rw [e0]; exact q))
    have l1 := Int32.toInt_lt x
    rw [fb_subI (by rw [e0]; omega) (by rw [e0]; omega), e0]
    omega
theorem x_any (x : Int32) : ∃ z : Int32, x = z := ⟨_, rfl⟩
theorem x_anyL (x : Int64) : ∃ z : Int64, x = z := ⟨_, rfl⟩
theorem ne0 {x : Int32} (h : ¬ x.toInt = 0) : ¬ x = 0 := fun e => h (by rw [e]; rfl)
theorem ne0L {x : Int64} (h : ¬ x.toInt = 0) : ¬ x = 0 := fun e => h (by rw [e]; rfl)
theorem nbool {x : Int32} (h0 : 0 ≤ x.toInt) (h1 : x.toInt ≤ 1) : narrow .boolean (.int x) = .int x := by
  have ha : x = 0 ∨ x = 1 := by
    simp only [fa_eq]
    have e0 : (0 : Int32).toInt = 0 := rfl
    have e1 : (1 : Int32).toInt = 1 := rfl
    rw [e0, e1]; omega
  rcases ha with rfl | rfl <;> rfl
theorem vnbool {x : Int32} (h0 : 0 ≤ x.toInt) (h1 : x.toInt ≤ 1) : vp_nar .boolean x = x := by
  have ha : x = 0 ∨ x = 1 := by
    simp only [fa_eq]
    have e0 : (0 : Int32).toInt = 0 := rfl
    have e1 : (1 : Int32).toInt = 1 := rfl
    rw [e0, e1]; omega
  rcases ha with rfl | rfl <;> rfl
theorem ilit {x : Int32} {a : Int} {b : Int32} (h : x.toInt = a) (hb : b.toInt = a) : x = b := (fa_eq _ _).mpr (by rw [h, hb])
section OPS2
variable {p : Program} {l : Launch} {e : Env} {R : Room} {s : State} {m : MethodId} {args : Array Value} {below : List Frame} {meth : Method} {c : Code} {H : Heap} {locs : List Loc} {cells slots : Nat} {Q : State → Prop}
variable {cc : ByteArray} {pc nL n : Nat} {ls : Array Slot} {rest stk : List Value} {own : String} {G : va_G} {tys : List (ClassId × FieldType)} {A : Nat → Prop} {ad : Nat → Nat} {w : Nat → va_E}
theorem o_mmin (X : Fx p m c cc nL s args own G tys A) (hl : ls.size = nL) {idx : Nat} (k1 : Cond.methodLink own idx Lib.Math.min.name ∈ gtb) (k2 : Cond.static Lib.Math.min.name ∈ gtb) (k3 : Cond.initialized "java/lang/Math" ∈ gtb) (k4 : Cond.code Lib.Math.min.name Lib.Math.min.code 2 (some .int) ∈ gtb) (hR : 1 ≤ R.frames ∧ 8 + 13 ≤ R.locals) (hW : (rest.map fun v => v.category).sum ≤ 8) (hc : cells ≤ R.cells ∧ slots ≤ R.slots) {x y z : Int32} (hz : (if y < x then y else x) = z) (hdg : decode cc pc = .ok (.invokestatic idx, 3))
    (kk : W p l e R s m args below meth c H locs cells slots Q (F0 m (pc + 3) ls (.int z :: rest))) : W p l e R s m args below meth c H locs cells slots Q (F0 m pc ls (.int y :: .int x :: rest)) := by
  subst hz
  exact va_mmin X.1.1 X.1.2.1 (by rw [X.1.2.2.1, hl]) X.1.2.2.2.1 (X.1.2.2.2.2 _ k1) (X.1.2.2.2.2 _ k2) (X.1.2.2.2.2 _ k3) (X.1.2.2.2.2 _ k4) hR.1 (by omega) hc.1 hc.2 hdg kk
theorem o_mmax (X : Fx p m c cc nL s args own G tys A) (hl : ls.size = nL) {idx : Nat} (k1 : Cond.methodLink own idx Lib.Math.max.name ∈ gtb) (k2 : Cond.static Lib.Math.max.name ∈ gtb) (k3 : Cond.initialized "java/lang/Math" ∈ gtb) (k4 : Cond.code Lib.Math.max.name Lib.Math.max.code 2 (some .int) ∈ gtb) (hR : 1 ≤ R.frames ∧ 8 + 13 ≤ R.locals) (hW : (rest.map fun v => v.category).sum ≤ 8) (hc : cells ≤ R.cells ∧ slots ≤ R.slots) {x y z : Int32} (hz : (if x < y then y else x) = z) (hdg : decode cc pc = .ok (.invokestatic idx, 3))
    (kk : W p l e R s m args below meth c H locs cells slots Q (F0 m (pc + 3) ls (.int z :: rest))) : W p l e R s m args below meth c H locs cells slots Q (F0 m pc ls (.int y :: .int x :: rest)) := by
  subst hz
  exact va_mmax X.1.1 X.1.2.1 (by rw [X.1.2.2.1, hl]) X.1.2.2.2.1 (X.1.2.2.2.2 _ k1) (X.1.2.2.2.2 _ k2) (X.1.2.2.2.2 _ k3) (X.1.2.2.2.2 _ k4) hR.1 (by omega) hc.1 hc.2 hdg kk
theorem o_mabs (X : Fx p m c cc nL s args own G tys A) (hl : ls.size = nL) {idx : Nat} (k1 : Cond.methodLink own idx Lib.Math.abs.name ∈ gtb) (k2 : Cond.static Lib.Math.abs.name ∈ gtb) (k3 : Cond.initialized "java/lang/Math" ∈ gtb) (k4 : Cond.code Lib.Math.abs.name Lib.Math.abs.code 1 (some .int) ∈ gtb) (hR : 1 ≤ R.frames ∧ 8 + 13 ≤ R.locals) (hW : (rest.map fun v => v.category).sum ≤ 8) (hc : cells ≤ R.cells ∧ slots ≤ R.slots) {x z : Int32} (hz : (if 0 ≤ x then x else 0 - x) = z) (hdg : decode cc pc = .ok (.invokestatic idx, 3))
    (kk : W p l e R s m args below meth c H locs cells slots Q (F0 m (pc + 3) ls (.int z :: rest))) : W p l e R s m args below meth c H locs cells slots Q (F0 m pc ls (.int x :: rest)) := by
  subst hz
  exact va_mabs X.1.1 X.1.2.1 (by rw [X.1.2.2.1, hl]) X.1.2.2.2.1 (X.1.2.2.2.2 _ k1) (X.1.2.2.2.2 _ k2) (X.1.2.2.2.2 _ k3) (X.1.2.2.2.2 _ k4) hR.1 (by omega) hc.1 hc.2 hdg kk
theorem e_n {ty : FieldType} (X : Fx p m c cc nL s args own G tys A) (h : St G n ad A s.heap w H locs) (hr : meth.sig.returnType = some ty) (hlk : meth.locks = false) {v : Int32} {post : Int32 → (Nat → va_E) → Prop} (hn : narrow ty (.int v) = .int v) (hdg : decode cc pc = .ok (.ireturn, 1)) (hp : post v w) : W p l e R s m args below meth c H locs 0 0 (MQ below (va_Qi post (Aft G n ad) A) args s 0 0 A) (F0 m pc ls [.int v]) :=
  W.zret X.1.1 X.1.2.1 hr hn (fun t ht _ => ⟨⟨v, w, rfl, hp, by show va_P G vwCl (wl n ad w) t.heap; rw [ht]; exact h.1⟩, h.2.F ht⟩) h.2.2.2 hdg hlk
end OPS2
