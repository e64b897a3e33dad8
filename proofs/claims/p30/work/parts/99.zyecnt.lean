/-! ===== how many answer alike; the first least of a row of numbers ===== -/
noncomputable def cntS (S : Nat → Int32) (B : Nat → Prop) : Nat → Int32 → Nat
  | 0, _ => 0
  | n + 1, x => cntS S B n x + pick (B n ∧ S n = x) 1 0
noncomputable def mcS (S : Nat → Int32) (B : Nat → Prop) : Nat → Nat
  | 0 => 0
  | n + 1 => pick (B n) (max (mcS S B n) (1 + cntS S B n (S n))) (mcS S B n)
noncomputable def mxS (S : Nat → Int32) (B : Nat → Prop) (N : Nat) : Nat → Nat
  | 0 => 0
  | n + 1 => max (mxS S B N n) (pick (B n) (cntS S B N (S n)) 0)
noncomputable def cntA (g : Nat → Int32) : Nat → Int32 → Nat
  | 0, _ => 0
  | n + 1, x => cntA g n x + pick (g n = x) 1 0
section CNTS
variable {S : Nat → Int32} {B : Nat → Prop} {g : Nat → Int32}
theorem cntS_y {n : Nat} {x v : Int32} (h : B n) (hs : S n = v) : cntS S B (n + 1) x = cntS S B n x + pick (v = x) 1 0 := by
  subst hs
  show cntS S B n x + pick (B n ∧ S n = x) 1 0 = _
  by_cases q : S n = x
  · rw [pick_y ⟨h, q⟩, pick_y q]
  · rw [pick_n (fun t => q t.2), pick_n q]
theorem cntS_n {n : Nat} {x : Int32} (h : ¬ B n) : cntS S B (n + 1) x = cntS S B n x := by
  show cntS S B n x + pick (B n ∧ S n = x) 1 0 = _
  rw [pick_n (fun t => h t.1)]; rfl
theorem cntS_le (x : Int32) : ∀ n, cntS S B n x ≤ n := by
  intro n
  induction n with
  | zero => exact Nat.le_refl _
  | succ n ih =>
    by_cases q : B n ∧ S n = x
    · show cntS S B n x + pick (B n ∧ S n = x) 1 0 ≤ n + 1
      rw [pick_y q]; omega
    · show cntS S B n x + pick (B n ∧ S n = x) 1 0 ≤ n + 1
      rw [pick_n q]; omega
theorem mcS_y {n : Nat} (h : B n) : mcS S B (n + 1) = max (mcS S B n) (1 + cntS S B n (S n)) := pick_y h
theorem mcS_n {n : Nat} (h : ¬ B n) : mcS S B (n + 1) = mcS S B n := pick_n h
theorem mcS_le : ∀ n, mcS S B n ≤ n := by
  intro n
  induction n with
  | zero => exact Nat.le_refl _
  | succ n ih =>
    by_cases q : B n
    · have := cntS_le (S := S) (B := B) (S n) n
      rw [mcS_y q]; omega
    · rw [mcS_n q]; omega
theorem mcS_pos {k : Nat} (h : B k) : ∀ n, k < n → 1 ≤ mcS S B n := by
  intro n
  induction n with
  | zero => intro q; omega
  | succ n ih =>
    intro q
    by_cases b : B n
    · rw [mcS_y b]; omega
    · rw [mcS_n b]
      by_cases e : k = n
      · subst e; exact absurd h b
      · exact ih (by omega)
theorem mx_step {N : Nat} (hB : B N) : ∀ n, mxS S B N n ≤ mxS S B (N + 1) n ∧ mxS S B (N + 1) n ≤ max (mxS S B N n) (1 + cntS S B N (S N)) := by
  intro n
  induction n with
  | zero => exact ⟨Nat.le_refl _, Nat.zero_le _⟩
  | succ n ih =>
    show max (mxS S B N n) (pick (B n) (cntS S B N (S n)) 0) ≤ max (mxS S B (N + 1) n) (pick (B n) (cntS S B (N + 1) (S n)) 0) ∧ max (mxS S B (N + 1) n) (pick (B n) (cntS S B (N + 1) (S n)) 0) ≤ max (max (mxS S B N n) (pick (B n) (cntS S B N (S n)) 0)) (1 + cntS S B N (S N))
    by_cases b : B n
    · rw [pick_y b, pick_y b, cntS_y (n := N) (x := S n) hB rfl]
      by_cases e : S N = S n
      · rw [pick_y e, ← e]; omega
      · rw [pick_n e]; omega
    · rw [pick_n b, pick_n b]; omega
theorem mx_same {N : Nat} (hB : ¬ B N) : ∀ n, mxS S B (N + 1) n = mxS S B N n := by
  intro n
  induction n with
  | zero => rfl
  | succ n ih =>
    show max (mxS S B (N + 1) n) (pick (B n) (cntS S B (N + 1) (S n)) 0) = max (mxS S B N n) (pick (B n) (cntS S B N (S n)) 0)
    rw [ih, cntS_n hB]
theorem mc_mx : ∀ N, mcS S B N = mxS S B N N := by
  intro N
  induction N with
  | zero => rfl
  | succ N ih =>
    show mcS S B (N + 1) = max (mxS S B (N + 1) N) (pick (B N) (cntS S B (N + 1) (S N)) 0)
    by_cases b : B N
    · have h := mx_step (S := S) b N
      rw [mcS_y b, pick_y b, cntS_y (n := N) (x := S N) b rfl, pick_y rfl, ih]
      omega
    · rw [mcS_n b, pick_n b, mx_same b, ih]; omega
theorem cntA_le (x : Int32) : ∀ n, cntA g n x ≤ n := by
  intro n
  induction n with
  | zero => exact Nat.le_refl _
  | succ n ih =>
    by_cases q : g n = x
    · show cntA g n x + pick (g n = x) 1 0 ≤ n + 1
      rw [pick_y q]; omega
    · show cntA g n x + pick (g n = x) 1 0 ≤ n + 1
      rw [pick_n q]; omega
theorem cntA_y {n : Nat} {x : Int32} (h : g n = x) : cntA g (n + 1) x = cntA g n x + 1 := by
  show cntA g n x + pick (g n = x) 1 0 = _
  rw [pick_y h]
theorem cntA_n {n : Nat} {x : Int32} (h : ¬ g n = x) : cntA g (n + 1) x = cntA g n x := by
  show cntA g n x + pick (g n = x) 1 0 = _
  rw [pick_n h]; rfl
theorem cntA_upd {m : Nat} {v x : Int32} : ∀ n, n ≤ m → cntA (upd g m v) n x = cntA g n x := by
  intro n
  induction n with
  | zero => intro _; rfl
  | succ n ih =>
    intro h
    show cntA (upd g m v) n x + pick (upd g m v n = x) 1 0 = cntA g n x + pick (g n = x) 1 0
    rw [ih (by omega), pk_un (by omega)]
theorem cntA_push {m : Nat} {v x : Int32} : cntA (upd g m v) (m + 1) x = cntA g m x + pick (v = x) 1 0 := by
  show cntA (upd g m v) m x + pick (upd g m v m = x) 1 0 = _
  rw [cntA_upd m (Nat.le_refl _), pk_us]
theorem cntS_cong {S1 : Nat → Int32} {x : Int32} : ∀ n, (∀ k, k < n → S1 k = S k) → cntS S1 B n x = cntS S B n x := by
  intro n
  induction n with
  | zero => intro _; rfl
  | succ n ih =>
    intro h
    show cntS S1 B n x + pick (B n ∧ S1 n = x) 1 0 = cntS S B n x + pick (B n ∧ S n = x) 1 0
    rw [ih (fun k hk => h k (by omega)), h n (by omega)]
theorem mxS_cong {S1 : Nat → Int32} {N : Nat} (h : ∀ k, k < N → S1 k = S k) : ∀ n, n ≤ N → mxS S1 B N n = mxS S B N n := by
  intro n
  induction n with
  | zero => intro _; rfl
  | succ n ih =>
    intro hn
    show max (mxS S1 B N n) (pick (B n) (cntS S1 B N (S1 n)) 0) = max (mxS S B N n) (pick (B n) (cntS S B N (S n)) 0)
    rw [ih (by omega), h n (by omega), cntS_cong N h]
end CNTS
def scB (T : Nat → Nat) : Nat → Nat
  | 0 => 0
  | n + 1 => if T n < T (scB T n) then n else scB T n
section SCBS
variable {T : Nat → Nat}
theorem scB_y {n : Nat} (h : T n < T (scB T n)) : scB T (n + 1) = n := if_pos h
theorem scB_n {n : Nat} (h : ¬ T n < T (scB T n)) : scB T (n + 1) = scB T n := if_neg h
theorem scB_1 : scB T 1 = 0 := scB_n (Nat.lt_irrefl _)
theorem scB_lt : ∀ n, 0 < n → scB T n < n := by
  intro n
  induction n with
  | zero => intro h; omega
  | succ n ih =>
    intro _
    by_cases q : T n < T (scB T n)
    · rw [scB_y q]; omega
    · rw [scB_n q]
      cases n with
      | zero => exact Nat.zero_lt_one
      | succ m => have := ih (by omega); omega
theorem scB_stop (h1 : ∀ k, 1 ≤ T k) {n : Nat} (h : T (scB T n) = 1) : ∀ m, scB T (n + m) = scB T n := by
  intro m
  induction m with
  | zero => rfl
  | succ m ih =>
    have e : n + (m + 1) = n + m + 1 := by omega
    rw [e, scB_n (by rw [ih, h]; have := h1 (n + m); omega), ih]
/-- the best so far, and how few it tells alike -/
def SC (T : Nat → Nat) (far : Int) (code : Nat → Int) (n : Nat) (best few : Int32) : Prop := (n = 0 ∧ few.toInt = far ∧ best.toInt = -1) ∨ (0 < n ∧ few.toInt = (T (scB T n) : Nat) ∧ best.toInt = code (scB T n))
theorem SC.lt {far : Int} {code : Nat → Int} {n : Nat} {best few al b2 : Int32} (h : SC T far code n best few) (ha : al.toInt = (T n : Nat)) (hl : al.toInt < few.toInt) (hb : b2.toInt = code n) : SC T far code (n + 1) b2 al := by
  refine Or.inr ⟨by omega, ?_, ?_⟩
  · rcases h with ⟨a, b, c⟩ | ⟨a, b, c⟩
    · subst a; rw [scB_1]; exact ha
    · rw [scB_y (by omega)]; exact ha
  · rcases h with ⟨a, b, c⟩ | ⟨a, b, c⟩
    · subst a; rw [scB_1]; exact hb
    · rw [scB_y (by omega)]; exact hb
theorem SC.ge {far : Int} {code : Nat → Int} {n : Nat} {best few al : Int32} (h : SC T far code n best few) (ha : al.toInt = (T n : Nat)) (hl : ¬ al.toInt < few.toInt) (hf : (T n : Int) < far) : SC T far code (n + 1) best few := by
  rcases h with ⟨a, b, c⟩ | ⟨a, b, c⟩
  · omega
  · refine Or.inr ⟨by omega, ?_, ?_⟩
    · rw [scB_n (by omega)]; exact b
    · rw [scB_n (by omega)]; exact c
end SCBS
noncomputable def tT (bk : Nat) (bits : Int32) (lo : Nat) : Nat → Nat := fun n9 => mcS (fun k9 => sayF bk (nI k9) (nI (lo + n9 / 24)) (nI (n9 % 24))) (fun k9 => ¬ bitF bits (nI k9) = 0) 6
theorem tT_le {bk : Nat} {bits : Int32} {lo : Nat} (n : Nat) : tT bk bits lo n ≤ 6 := mcS_le 6
theorem bit_some : ∀ m : Nat, m < 64 → 0 < m → ∃ k : Nat, k < 6 ∧ ¬ bitF (nI m) (nI k) = 0 := by
  unfold bitF
  decide +kernel
theorem tT_pos {bk : Nat} {bits : Int32} {lo : Nat} (h0 : 0 < bits.toInt) (h1 : bits.toInt ≤ 63) (n : Nat) : 1 ≤ tT bk bits lo n := by
  have c := cl_of (x := bits) (by omega)
  have e := nI_cl (x := bits) (by omega)
  obtain ⟨k, hk, hb⟩ := bit_some bits.toNatClampNeg (by omega) (by omega)
  rw [e] at hb
  exact mcS_pos (B := fun k9 => ¬ bitF bits (nI k9) = 0) hb 6 hk
theorem or_lt : ∀ m : Nat, m < 64 → ∀ k : Nat, k < 6 → 0 ≤ (nI m ||| (1 : Int32) <<< (nI k &&& 31)).toInt ∧ (nI m ||| (1 : Int32) <<< (nI k &&& 31)).toInt ≤ 63 := by decide +kernel
theorem fitN_rg {P : Nat → Prop} : ∀ n, n ≤ 6 → 0 ≤ (fitN P n).toInt ∧ (fitN P n).toInt ≤ 63 := by
  intro n
  induction n with
  | zero => intro _; exact (show 0 ≤ (0 : Int32).toInt ∧ (0 : Int32).toInt ≤ 63 from ⟨by decide, by decide⟩)
  | succ n ih =>
    intro h
    have hi := ih (by omega)
    by_cases p : P n
    · rw [fitN_y p]
      have c := cl_of hi.1
      have e := nI_cl hi.1
      have := or_lt (fitN P n).toNatClampNeg (by omega) n (by omega)
      rw [e] at this
      exact this
    · rw [fitN_n p]; exact hi
def LKP (b : Int32) (lo : Nat) (r : Int32) : Prop := (b.toInt = 0 ∧ r.toInt = -1) ∨ (¬ b.toInt = 0 ∧ r.toInt = (scB (tT 0 b lo) 24 : Nat))
def AKP (b : Int32) (r : Int32) : Prop := (b.toInt = 0 ∧ r.toInt = -1) ∨ (¬ b.toInt = 0 ∧ r.toInt = 100 * ((scB (tT 1 b 0) 1464 / 24 : Nat) : Int) + ((scB (tT 1 b 0) 1464 % 24 : Nat) : Int))
theorem LKP.uniq {b : Int32} {lo : Nat} {r1 r2 : Int32} (h : LKP b lo r1) (g : LKP b lo r2) : r1 = r2 := by
  apply (fa_eq _ _).mpr
  rcases h with ⟨a, c⟩ | ⟨a, c⟩ <;> rcases g with ⟨a2, c2⟩ | ⟨a2, c2⟩
  · rw [c, c2]
  · exact absurd a a2
  · exact absurd a2 a
  · rw [c, c2]
theorem AKP.uniq {b : Int32} {r1 r2 : Int32} (h : AKP b r1) (g : AKP b r2) : r1 = r2 := by
  apply (fa_eq _ _).mpr
  rcases h with ⟨a, c⟩ | ⟨a, c⟩ <;> rcases g with ⟨a2, c2⟩ | ⟨a2, c2⟩
  · rw [c, c2]
  · exact absurd a a2
  · exact absurd a2 a
  · rw [c, c2]
