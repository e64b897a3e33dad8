/-! ===== the words of all methods: the tables' good words ===== -/
def gtb : List Cond := lw_tbl.filter goodWord
theorem gtb_sub : ∀ w ∈ gtb, w ∈ lw_tbl := fun w h => (List.mem_filter.mp h).1
theorem gtb_mem {w : Cond} (h : w ∈ lw_tbl) (g : goodWord w = true) : w ∈ gtb := List.mem_filter.mpr ⟨h, g⟩
theorem gtb_good : GoodIn gtb gtb := fun w h => ⟨h, good_of_word (List.mem_filter.mp h).2⟩
theorem gtb_cons {w : Cond} (h : w ∈ gtb) : GoodIn gtb (w :: gtb) := fun v hv => (List.mem_cons.mp hv).elim (fun e => by rw [e]; exact gtb_good w h) (fun h => gtb_good v h)
theorem gtb_app {ws vs : List Cond} (h : ∀ w ∈ ws, w ∈ gtb) (g : GoodIn gtb vs) : GoodIn gtb (ws ++ vs) := fun v hv => (List.mem_append.mp hv).elim (fun q => gtb_good v (h v q)) (fun q => g v q)
/-! ===== a world of n cells, by their numbers ===== -/
def wl (n : Nat) (ad : Nat → Nat) (w : Nat → va_E) : va_W := (List.range n).map (fun k => (ad k, w k))
theorem wl_get {n k : Nat} {ad : Nat → Nat} {w : Nat → va_E} (h : k < n) : (wl n ad w)[k]? = some (ad k, w k) := by
  simp [wl, h]
theorem wl_inv {n k : Nat} {ad : Nat → Nat} {w : Nat → va_E} {q : Nat × va_E} (h : (wl n ad w)[k]? = some q) : k < n ∧ q = (ad k, w k) := by
  have hl : k < (wl n ad w).length := (List.getElem?_eq_some_iff.mp h).1
  have hn : k < n := by simpa [wl] using hl
  rw [wl_get hn] at h
  exact ⟨hn, (Option.some.inj h).symm⟩
theorem wl_len {n : Nat} {ad : Nat → Nat} {w : Nat → va_E} : (wl n ad w).length = n := by simp [wl]
theorem wl_set {n k : Nat} {ad : Nat → Nat} {w : Nat → va_E} (h : k < n) (e : va_E) : (wl n ad w).set k (ad k, e) = wl n ad (va_up w k e) := by
  apply List.ext_getElem?
  intro j
  rw [List.getElem?_set]
  by_cases hj : j < n
  · by_cases hk : k = j
    · subst hk
      rw [if_pos rfl, if_pos (by rw [wl_len]; exact h), wl_get h, va_up_self]
    · rw [if_neg hk, wl_get hj, wl_get hj, va_up_ne _ _ (Ne.symm hk)]
  · have e1 : (wl n ad (va_up w k e))[j]? = none := List.getElem?_eq_none (by rw [wl_len]; omega)
    have e2 : (wl n ad w)[j]? = none := List.getElem?_eq_none (by rw [wl_len]; omega)
    rw [if_neg (by omega), e1, e2]
theorem wl_push {n : Nat} {ad : Nat → Nat} {w : Nat → va_E} (q : Nat) (e : va_E) : wl n ad w ++ [(q, e)] = wl (n + 1) (va_up ad n q) (va_up w n e) := by
  apply List.ext_getElem?
  intro j
  by_cases hj : j < n
  · rw [List.getElem?_append_left (by rw [wl_len]; exact hj), wl_get hj, wl_get (by omega), va_up_ne _ _ (by omega), va_up_ne _ _ (by omega)]
  · rw [List.getElem?_append_right (by rw [wl_len]; omega), wl_len]
    by_cases h2 : j = n
    · subst h2
      rw [wl_get (by omega), va_up_self, va_up_self]; simp
    · have e1 : (wl (n + 1) (va_up ad n q) (va_up w n e))[j]? = none := List.getElem?_eq_none (by rw [wl_len]; omega)
      rw [e1]
      exact List.getElem?_eq_none (by simp; omega)
/-- the cells' addresses are apart, and of a kind -/
def WD (A : Nat → Prop) (n : Nat) (ad : Nat → Nat) : Prop := (∀ i j, i < n → j < n → ad i = ad j → i = j) ∧ ∀ k, k < n → A (ad k)
theorem WD.D {A : Nat → Prop} {n : Nat} {ad : Nat → Nat} (h : WD A n ad) (w : Nat → va_E) : va_D A (wl n ad w) := by
  refine ⟨fun i j p q hi hj e => ?_, fun k q hk => ?_⟩
  · obtain ⟨h1, rfl⟩ := wl_inv hi
    obtain ⟨h2, rfl⟩ := wl_inv hj
    exact h.1 i j h1 h2 e
  · obtain ⟨h1, rfl⟩ := wl_inv hk
    exact h.2 k h1
theorem WD.of {A : Nat → Prop} {n : Nat} {ad : Nat → Nat} {w : Nat → va_E} (h : va_D A (wl n ad w)) : WD A n ad :=
  ⟨fun i j hi hj e => h.1 i j _ _ (wl_get hi) (wl_get hj) e, fun k hk => h.2 k _ (wl_get hk)⟩
theorem WD.weaken {A B : Nat → Prop} {n : Nat} {ad : Nat → Nat} (h : WD A n ad) (g : ∀ q, A q → B q) : WD B n ad := ⟨h.1, fun k hk => g _ (h.2 k hk)⟩
theorem WD.sub {A : Nat → Prop} {n n' : Nat} {ad : Nat → Nat} (h : WD A n ad) (g : n' ≤ n) : WD A n' ad := ⟨fun i j hi hj e => h.1 i j (by omega) (by omega) e, fun k hk => h.2 k (by omega)⟩
def wA (n : Nat) (ad : Nat → Nat) (sz : Nat) : Nat → Prop := fun q => (∃ k, k < n ∧ q = ad k) ∨ sz ≤ q
theorem WD.self {A : Nat → Prop} {n sz : Nat} {ad : Nat → Nat} (h : WD A n ad) : WD (wA n ad sz) n ad := ⟨h.1, fun k hk => Or.inl ⟨k, hk, rfl⟩⟩
theorem WD.free {A : Nat → Prop} {n sz : Nat} {ad : Nat → Nat} (h : WD A n ad) (hA : ∀ q, sz ≤ q → A q) {z : Nat} (hz : sz ≤ z) : ∀ q, wA n ad z q → A q := fun q hq => hq.elim (fun ⟨k, hk, e⟩ => by rw [e]; exact h.2 k hk) (fun g => hA q (Nat.le_trans hz g))
/-! ===== where a method stands ===== -/
def Fx (p : Program) (m : MethodId) (c : Code) (cc : ByteArray) (nL : Nat) (s : State) (args : Array Value) (own : String) (G : va_G) (tys : List (ClassId × FieldType)) (A : Nat → Prop) : Prop := CallFix p m c cc nL s args gtb own ∧ va_K G vwCl tys s ∧ ∀ q, s.heap.size ≤ q → A q
def St (G : va_G) (n : Nat) (ad : Nat → Nat) (A : Nat → Prop) (H0 : Heap) (w : Nat → va_E) (H : Heap) (locs : List Loc) : Prop := va_P G vwCl (wl n ad w) H ∧ va_S A H0 H locs
def KC (ci : Nat) (C : String) (T : u_T) (ty : Nat → FieldType) (N : Nat) : Prop := vwCl[ci]? = some (C, T, N) ∧ (∀ w ∈ u_ws C T N, w ∈ gtb) ∧ (∀ k, k < N → parseFieldDescriptor (T k).2.2.1 = some (ty k)) ∧ (∀ a, a < N → ∀ b, b < N → a ≠ b → (T a).2.1 ≠ (T b).2.1)
section ROWS
variable {p : Program} {l : Launch} {e : Env} {R : Room} {s : State} {m : MethodId} {args : Array Value} {below : List Frame} {meth : Method} {c : Code} {H : Heap} {locs : List Loc} {cells slots : Nat} {Q : State → Prop}
variable {cc : ByteArray} {pc nL n : Nat} {ls : Array Slot} {rest : List Value} {own : String} {G : va_G} {tys : List (ClassId × FieldType)} {A : Nat → Prop} {ad : Nat → Nat} {w : Nat → va_E}
theorem r_get {ci N : Nat} {C : String} {T : u_T} {ty : Nat → FieldType} (kc : KC ci C T ty N) (X : Fx p m c cc nL s args own G tys A) (h : St G n ad A s.heap w H locs) (b k : Nat) {a index : Nat} {fs : List Value} {v : Value} (hb : b < n) (ha : ad b = a) (hw : w b = .inr (ci, fs)) (hk : k < N) (hlink : Cond.fieldLink own index (T k).1 (T k).2.1 (T k).2.2.1 ∈ gtb) (hv : fs[k]? = some v) (hdg : decode cc pc = .ok (.getfield index, 3))
    (kk : W p l e R s m args below meth c H locs cells slots Q (F0 m (pc + 3) ls (v :: rest))) : W p l e R s m args below meth c H locs cells slots Q (F0 m pc ls (.ref a :: rest)) :=
  va_get X.1.1 X.1.2.1 X.1.2.2.2.2 kc.2.1 X.1.2.2.2.1 X.2.1 h.1 b (by rw [wl_get hb, hw, ha]) kc.1 k hk (X.1.2.2.2.2 _ hlink) (fun _ h9 => h9) hv hdg kk
theorem r_put {ci N : Nat} {C : String} {T : u_T} {ty : Nat → FieldType} (kc : KC ci C T ty N) (X : Fx p m c cc nL s args own G tys A) (hD : WD A n ad) (h : St G n ad A s.heap w H locs) (b k : Nat) {a index : Nat} {fs : List Value} {v : Value} (hb : b < n) (ha : ad b = a) (hw : w b = .inr (ci, fs)) (hk : k < N) (hlink : Cond.fieldLink own index (T k).1 (T k).2.1 (T k).2.2.1 ∈ gtb) (hfin : (T k).2.2.2 = false) (hn : narrow (ty k) v = v) (hfit : fits (ty k) v = true) (hl : k < fs.length) (hdg : decode cc pc = .ok (.putfield index, 3))
    (kk : ∀ (H1 : Heap) (locs1 : List Loc) (w1 : Nat → va_E), w1 = va_up w b (.inr (ci, fs.set k v)) → St G n ad A s.heap w1 H1 locs1 → W p l e R s m args below meth c H1 locs1 cells slots Q (F0 m (pc + 3) ls rest)) : W p l e R s m args below meth c H locs cells slots Q (F0 m pc ls (v :: .ref a :: rest)) := by
  subst ha
  refine va_put X.1.1 X.1.2.1 X.1.2.2.2.2 kc.2.1 ty kc.2.2.1 kc.2.2.2 X.1.2.2.2.1 X.2.1 h.1 (hD.D w) h.2 b (by rw [wl_get hb, hw]) kc.1 k hk (X.1.2.2.2.2 _ hlink) (fun _ h9 => h9) hfin (kc.2.2.1 k hk) hn hfit hl hdg (fun H1 locs1 hP _ hS => ?_)
  rw [wl_set hb] at hP
  exact kk H1 locs1 _ rfl ⟨hP, hS⟩
theorem r_putF {ci N : Nat} {C : String} {T : u_T} {ty : Nat → FieldType} (kc : KC ci C T ty N) (X : Fx p m c cc nL s args own G tys A) (hD : WD A n ad) (h : St G n ad A s.heap w H locs) (hin : meth.name = "<init>") (b k : Nat) {a index : Nat} {fs : List Value} {v : Value} (hb : b < n) (ha : ad b = a) (hw : w b = .inr (ci, fs)) (hk : k < N) (hlink : Cond.fieldLink own index (T k).1 (T k).2.1 (T k).2.2.1 ∈ gtb) (hfin : (T k).2.2.2 = true) (hdecl : (T k).1 = own) (hn : narrow (ty k) v = v) (hfit : fits (ty k) v = true) (hl : k < fs.length) (hdg : decode cc pc = .ok (.putfield index, 3))
    (kk : ∀ (H1 : Heap) (locs1 : List Loc) (w1 : Nat → va_E), w1 = va_up w b (.inr (ci, fs.set k v)) → St G n ad A s.heap w1 H1 locs1 → W p l e R s m args below meth c H1 locs1 cells slots Q (F0 m (pc + 3) ls rest)) : W p l e R s m args below meth c H locs cells slots Q (F0 m pc ls (v :: .ref a :: rest)) := by
  subst ha
  refine va_putF X.1.1 X.1.2.1 X.1.2.2.2.2 kc.2.1 ty kc.2.2.1 kc.2.2.2 X.1.2.2.2.1 X.2.1 h.1 (hD.D w) h.2 b (by rw [wl_get hb, hw]) kc.1 k hk (X.1.2.2.2.2 _ hlink) (fun _ h9 => h9) hfin hin hdecl (kc.2.2.1 k hk) hn hfit hl hdg (fun H1 locs1 hP _ hS => ?_)
  rw [wl_set hb] at hP
  exact kk H1 locs1 _ rfl ⟨hP, hS⟩
theorem r_iald (X : Fx p m c cc nL s args own G tys A) (h : St G n ad A s.heap w H locs) (b t0 : Nat) {a N : Nat} {cA : ClassId} {f : Nat → Int32} {i : Int32} (hb : b < n) (ha : ad b = a) (hw : w b = .inl (cA, N, .inl f)) (ht : tys[t0]? = some (cA, .int)) (hin : vp_in i N) (hdg : decode cc pc = .ok (.iaload, 1))
    (kk : W p l e R s m args below meth c H locs cells slots Q (F0 m (pc + 1) ls (.int (f i.toNatClampNeg) :: rest))) : W p l e R s m args below meth c H locs cells slots Q (F0 m pc ls (.int i :: .ref a :: rest)) :=
  va_iald X.1.1 X.1.2.1 X.2.1 h.1 b t0 (by rw [wl_get hb, hw, ha]) ht hin hdg kk
theorem r_bald (X : Fx p m c cc nL s args own G tys A) (h : St G n ad A s.heap w H locs) (b t0 : Nat) {a N : Nat} {cA : ClassId} {f : Nat → Int32} {i : Int32} (hb : b < n) (ha : ad b = a) (hw : w b = .inl (cA, N, .inl f)) (ht : tys[t0]? = some (cA, .byte)) (hin : vp_in i N) (hdg : decode cc pc = .ok (.baload, 1))
    (kk : W p l e R s m args below meth c H locs cells slots Q (F0 m (pc + 1) ls (.int (f i.toNatClampNeg) :: rest))) : W p l e R s m args below meth c H locs cells slots Q (F0 m pc ls (.int i :: .ref a :: rest)) :=
  va_bald X.1.1 X.1.2.1 X.2.1 h.1 b t0 (by rw [wl_get hb, hw, ha]) ht hin hdg kk
theorem r_zald (X : Fx p m c cc nL s args own G tys A) (h : St G n ad A s.heap w H locs) (b t0 : Nat) {a N : Nat} {cA : ClassId} {f : Nat → Int32} {i : Int32} (hb : b < n) (ha : ad b = a) (hw : w b = .inl (cA, N, .inl f)) (ht : tys[t0]? = some (cA, .boolean)) (hin : vp_in i N) (hdg : decode cc pc = .ok (.baload, 1))
    (kk : W p l e R s m args below meth c H locs cells slots Q (F0 m (pc + 1) ls (.int (f i.toNatClampNeg) :: rest))) : W p l e R s m args below meth c H locs cells slots Q (F0 m pc ls (.int i :: .ref a :: rest)) :=
  va_zald X.1.1 X.1.2.1 X.2.1 h.1 b t0 (by rw [wl_get hb, hw, ha]) ht hin hdg kk
theorem r_aald (X : Fx p m c cc nL s args own G tys A) (h : St G n ad A s.heap w H locs) (b t0 : Nat) {a N : Nat} {cA : ClassId} {C : String} {f : Nat → Option Nat} {i : Int32} {v : Value} (hb : b < n) (ha : ad b = a) (hw : w b = .inl (cA, N, .inr (.inr (.inr (.inr f))))) (ht : tys[t0]? = some (cA, .object C)) (hin : vp_in i N) (hv : va_rf (f i.toNatClampNeg) = v) (hdg : decode cc pc = .ok (.aaload, 1))
    (kk : W p l e R s m args below meth c H locs cells slots Q (F0 m (pc + 1) ls (v :: rest))) : W p l e R s m args below meth c H locs cells slots Q (F0 m pc ls (.int i :: .ref a :: rest)) := by
  subst hv
  exact va_aldq X.1.1 X.1.2.1 X.2.1 h.1 b t0 (by rw [wl_get hb, hw, ha]) ht hin hdg kk
theorem r_iast (X : Fx p m c cc nL s args own G tys A) (hD : WD A n ad) (h : St G n ad A s.heap w H locs) (b t0 : Nat) {a N : Nat} {cA : ClassId} {f : Nat → Int32} {i x : Int32} (hb : b < n) (ha : ad b = a) (hw : w b = .inl (cA, N, .inl f)) (ht : tys[t0]? = some (cA, .int)) (hin : vp_in i N) (hdg : decode cc pc = .ok (.iastore, 1))
    (kk : ∀ (H1 : Heap) (locs1 : List Loc) (w1 : Nat → va_E), w1 = va_up w b (.inl (cA, N, .inl (upd f i.toNatClampNeg x))) → St G n ad A s.heap w1 H1 locs1 → W p l e R s m args below meth c H1 locs1 cells slots Q (F0 m (pc + 1) ls rest)) : W p l e R s m args below meth c H locs cells slots Q (F0 m pc ls (.int x :: .int i :: .ref a :: rest)) := by
  subst ha
  refine va_iast X.1.1 X.1.2.1 X.2.1 h.1 (hD.D w) h.2 b t0 (by rw [wl_get hb, hw]) ht hin hdg (fun H1 locs1 hP _ hS => ?_)
  rw [wl_set hb] at hP
  exact kk H1 locs1 _ rfl ⟨hP, hS⟩
theorem r_bast (X : Fx p m c cc nL s args own G tys A) (hD : WD A n ad) (h : St G n ad A s.heap w H locs) (b t0 : Nat) {a N : Nat} {cA : ClassId} {f : Nat → Int32} {i x : Int32} (hb : b < n) (ha : ad b = a) (hw : w b = .inl (cA, N, .inl f)) (ht : tys[t0]? = some (cA, .byte)) (hin : vp_in i N) (hdg : decode cc pc = .ok (.bastore, 1))
    (kk : ∀ (H1 : Heap) (locs1 : List Loc) (w1 : Nat → va_E), w1 = va_up w b (.inl (cA, N, .inl (upd f i.toNatClampNeg (vp_nar .byte x)))) → St G n ad A s.heap w1 H1 locs1 → W p l e R s m args below meth c H1 locs1 cells slots Q (F0 m (pc + 1) ls rest)) : W p l e R s m args below meth c H locs cells slots Q (F0 m pc ls (.int x :: .int i :: .ref a :: rest)) := by
  subst ha
  refine va_bast X.1.1 X.1.2.1 X.2.1 h.1 (hD.D w) h.2 b t0 (by rw [wl_get hb, hw]) ht hin hdg (fun H1 locs1 hP _ hS => ?_)
  rw [wl_set hb] at hP
  exact kk H1 locs1 _ rfl ⟨hP, hS⟩
theorem r_zast (X : Fx p m c cc nL s args own G tys A) (hD : WD A n ad) (h : St G n ad A s.heap w H locs) (b t0 : Nat) {a N : Nat} {cA : ClassId} {f : Nat → Int32} {i x : Int32} (hb : b < n) (ha : ad b = a) (hw : w b = .inl (cA, N, .inl f)) (ht : tys[t0]? = some (cA, .boolean)) (hin : vp_in i N) (hdg : decode cc pc = .ok (.bastore, 1))
    (kk : ∀ (H1 : Heap) (locs1 : List Loc) (w1 : Nat → va_E), w1 = va_up w b (.inl (cA, N, .inl (upd f i.toNatClampNeg (vp_nar .boolean x)))) → St G n ad A s.heap w1 H1 locs1 → W p l e R s m args below meth c H1 locs1 cells slots Q (F0 m (pc + 1) ls rest)) : W p l e R s m args below meth c H locs cells slots Q (F0 m pc ls (.int x :: .int i :: .ref a :: rest)) := by
  subst ha
  refine va_zast X.1.1 X.1.2.1 X.2.1 h.1 (hD.D w) h.2 b t0 (by rw [wl_get hb, hw]) ht hin hdg (fun H1 locs1 hP _ hS => ?_)
  rw [wl_set hb] at hP
  exact kk H1 locs1 _ rfl ⟨hP, hS⟩
theorem r_alen (X : Fx p m c cc nL s args own G tys A) (h : St G n ad A s.heap w H locs) (b t0 : Nat) {a : Nat} {cA : ClassId} {x : vp_A} {ty : FieldType} {v : Int32} (hb : b < n) (ha : ad b = a) (hw : w b = .inl (cA, x)) (ht : tys[t0]? = some (cA, ty)) (hv : Int32.ofNat x.1 = v) (hdg : decode cc pc = .ok (.arraylength, 1))
    (kk : W p l e R s m args below meth c H locs cells slots Q (F0 m (pc + 1) ls (.int v :: rest))) : W p l e R s m args below meth c H locs cells slots Q (F0 m pc ls (.ref a :: rest)) :=
  va_alen X.1.1 X.1.2.1 X.2.1 h.1 b t0 (by rw [wl_get hb, hw, ha]) ht hv hdg kk
end ROWS
/-! ===== contracts ===== -/
def nwq : List (String × Nat × MethodName × String) := [("NoonShade", 9, ⟨"NoonShade$Isle", "<init>", "()V"⟩, "NoonShade"), ("NoonShade$Isle", 32, ⟨"NoonShade$Rows", "<init>", "()V"⟩, "NoonShade"), ("NoonShade$Isle", 42, ⟨"NoonShade$Past", "<init>", "()V"⟩, "NoonShade"), ("NoonShade", 29, ⟨"NoonShade$Text", "<init>", "()V"⟩, "NoonShade"), ("NoonShade", 36, ⟨"NoonShade$Plan", "<init>", "()V"⟩, "NoonShade"), ("NoonShade", 43, ⟨"NoonShade$Guess", "<init>", "()V"⟩, "NoonShade"), ("NoonShade$Text", 94, ⟨"NoonShade", "within", "(III)Z"⟩, "NoonShade")]
def NW (U : State) : Prop := (∀ q ∈ nwq, va_Nw (.methodLinkNest q.1 q.2.1 q.2.2.1 q.2.2.2) U) ∧ va_AO "NoonShade$Isle" U
theorem NW.warm {s U : State} (hW : s.WarmedH U.vm) (h : NW s) : NW U := ⟨fun q hq => va_Nw.warmM hW (h.1 q hq), h.2.moved hW.alike⟩
theorem NW.same {s U : State} (e : s.vm = U.vm) (h : NW s) : NW U := ⟨fun q hq => va_Nw.same rfl e (h.1 q hq), h.2.moved (by rw [e]; exact Vm.Alike.refl U.vm)⟩
def Pre (G : va_G) (tys : List (ClassId × FieldType)) (n : Nat) (ad : Nat → Nat) (w : Nat → va_E) (sz : Nat) (U : State) : Prop := U.heap.size = sz ∧ va_P G vwCl (wl n ad w) U.heap ∧ va_K G vwCl tys U ∧ WD (fun _ => True) n ad ∧ NW U
def Aft (G : va_G) (n : Nat) (ad : Nat → Nat) (w1 : Nat → va_E) (t : State) : Prop := va_P G vwCl (wl n ad w1) t.heap
def MI (l : Launch) (G : va_G) (tys : List (ClassId × FieldType)) (y : MethodName) (cc : ByteArray) (mL : Nat) (rt : Option FieldType) (fr lo n : Nat) (ad : Nat → Nat) (w : Nat → va_E) (av : List Value) (post : Int32 → (Nat → va_E) → Prop) : Prop := ∀ sz : Nat, Met l y (.code y cc mL rt :: gtb) { frames := fr, cells := 0, slots := 0, locals := lo } (va_Pc av (Pre G tys n ad w sz)) (va_Qi post (Aft G n ad) (wA n ad sz)) 0 0 (wA n ad sz)
def ML (l : Launch) (G : va_G) (tys : List (ClassId × FieldType)) (y : MethodName) (cc : ByteArray) (mL : Nat) (rt : Option FieldType) (fr lo n : Nat) (ad : Nat → Nat) (w : Nat → va_E) (av : List Value) (post : Int64 → (Nat → va_E) → Prop) : Prop := ∀ sz : Nat, Met l y (.code y cc mL rt :: gtb) { frames := fr, cells := 0, slots := 0, locals := lo } (va_Pc av (Pre G tys n ad w sz)) (va_Ql post (Aft G n ad) (wA n ad sz)) 0 0 (wA n ad sz)
def MV (l : Launch) (G : va_G) (tys : List (ClassId × FieldType)) (y : MethodName) (cc : ByteArray) (mL : Nat) (fr lo n : Nat) (ad : Nat → Nat) (w : Nat → va_E) (av : List Value) (post : (Nat → va_E) → Prop) : Prop := ∀ sz : Nat, Met l y (.code y cc mL none :: gtb) { frames := fr, cells := 0, slots := 0, locals := lo } (va_Pc av (Pre G tys n ad w sz)) (va_Qv post (Aft G n ad) (wA n ad sz)) 0 0 (wA n ad sz)
/-- a maker: n cells become n1 -/
def MA (l : Launch) (G : va_G) (tys : List (ClassId × FieldType)) (y : MethodName) (cc : ByteArray) (mL : Nat) (fr lo mc ms n n1 : Nat) (ad : Nat → Nat) (w : Nat → va_E) (av : List Value) (post : (Nat → Nat) → (Nat → va_E) → Prop) : Prop := ∀ sz : Nat, Met l y (.code y cc mL none :: gtb) { frames := fr, cells := mc, slots := ms, locals := lo } (va_Pc av (Pre G tys n ad w sz)) (va_Qv (fun u : (Nat → Nat) × (Nat → va_E) => (∀ k, k < n → u.1 k = ad k) ∧ post u.1 u.2) (fun u t => va_P G vwCl (wl n1 u.1 u.2) t.heap ∧ WD (wA n ad sz) n1 u.1) (wA n ad sz)) mc ms (wA n ad sz)
theorem pre_blind {G : va_G} {tys : List (ClassId × FieldType)} {n sz : Nat} {ad : Nat → Nat} {w : Nat → va_E} {av : List Value} : FrameBlind (va_Pc av (Pre G tys n ad w sz)) := by
  intro a U g mk q
  obtain ⟨q0, q1, qP, qK, qD, qN⟩ := q
  exact ⟨q0, q1, qP, va_K.moved (u := U) (U := U.calling g mk a) (Vm.Alike.refl U.vm) qK, qD, NW.same (s := U) (U := U.calling g mk a) rfl qN⟩
section STARTS
variable {l : Launch} {G : va_G} {tys : List (ClassId × FieldType)} {y : MethodName} {cc : ByteArray} {mL fr lo n mc ms n1 : Nat} {rt : Option FieldType} {ad : Nat → Nat} {w : Nat → va_E} {av : List Value}
theorem mk_any {Qc : Nat → Array Value → State → Outcome → State → Prop} {free : Nat → Nat → Prop} (hy : plainName y.cls = true) (hlen : (lg_sl av).length ≤ mL)
    (body : ∀ (p : Program) (e : Env) (s : State) (m : MethodId) (below : List Frame) (meth : Method) (c : Code) (ls : Array Slot), Fx p m c cc mL s av.toArray y.cls G tys (wA n ad s.heap.size) → WD (wA n ad s.heap.size) n ad → NW s → meth.sig.returnType = rt → meth.locks = false → meth.name = y.name → St G n ad (wA n ad s.heap.size) s.heap w s.heap [] → lv_has ls mL (lv_args 0 av) →
      W p l e { frames := fr, cells := mc, slots := ms, locals := lo } s m av.toArray below meth c s.heap [] 0 0 (MQ below (Qc s.heap.size) av.toArray s mc ms (free s.heap.size)) (F0 m 0 ls [])) (sz : Nat) : Met l y (.code y cc mL rt :: gtb) { frames := fr, cells := mc, slots := ms, locals := lo } (va_Pc av (Pre G tys n ad w sz)) (Qc sz) mc ms (free sz) := by
  refine Met.ofW (cc := cc) (maxL := mL) (ret := rt) hy rfl ?_
  intro p e s m args below meth c s₁ B hml hv
  obtain ⟨rfl, hsz, hP, hK, hD0, hN⟩ := hv
  have hts := atoms_spec (ws := .code y cc mL rt :: gtb) B.pre
  have hl := lv_entry av (n := mL) hlen
  rw [lg_entry_eq]
  subst hsz
  exact body p e s m below meth c _ ⟨⟨B.exec, B.bytes, hml, findClass_of_methodNamed B.named, fun q hq => hts q (List.mem_cons_of_mem _ hq)⟩, hK, fun q hq => Or.inr hq⟩ hD0.self hN B.returns B.notSynchronized (name_of_methodNamed B.named B.method).1 ⟨hP, va_S.rf⟩ hl
theorem mk_i {own : String} {post : Int32 → (Nat → va_E) → Prop} (ho : y.cls = own) (hy : plainName y.cls = true) (hlen : (lg_sl av).length ≤ mL)
    (body : ∀ (p : Program) (e : Env) (s : State) (m : MethodId) (below : List Frame) (meth : Method) (c : Code) (ls : Array Slot), Fx p m c cc mL s av.toArray own G tys (wA n ad s.heap.size) → WD (wA n ad s.heap.size) n ad → NW s → meth.sig.returnType = rt → meth.locks = false → St G n ad (wA n ad s.heap.size) s.heap w s.heap [] → lv_has ls mL (lv_args 0 av) →
      W p l e { frames := fr, cells := 0, slots := 0, locals := lo } s m av.toArray below meth c s.heap [] 0 0 (MQ below (va_Qi post (Aft G n ad) (wA n ad s.heap.size)) av.toArray s 0 0 (wA n ad s.heap.size)) (F0 m 0 ls [])) : MI l G tys y cc mL rt fr lo n ad w av post := by
  subst ho
  exact fun sz => mk_any (Qc := fun sz => va_Qi post (Aft G n ad) (wA n ad sz)) (free := fun sz => wA n ad sz) hy hlen (fun p e s m below meth c ls X hD hN hr hlk _ h hl => body p e s m below meth c ls X hD hN hr hlk h hl) sz
theorem mk_l {own : String} {post : Int64 → (Nat → va_E) → Prop} (ho : y.cls = own) (hy : plainName y.cls = true) (hlen : (lg_sl av).length ≤ mL)
    (body : ∀ (p : Program) (e : Env) (s : State) (m : MethodId) (below : List Frame) (meth : Method) (c : Code) (ls : Array Slot), Fx p m c cc mL s av.toArray own G tys (wA n ad s.heap.size) → WD (wA n ad s.heap.size) n ad → NW s → meth.sig.returnType = rt → meth.locks = false → St G n ad (wA n ad s.heap.size) s.heap w s.heap [] → lv_has ls mL (lv_args 0 av) →
      W p l e { frames := fr, cells := 0, slots := 0, locals := lo } s m av.toArray below meth c s.heap [] 0 0 (MQ below (va_Ql post (Aft G n ad) (wA n ad s.heap.size)) av.toArray s 0 0 (wA n ad s.heap.size)) (F0 m 0 ls [])) : ML l G tys y cc mL rt fr lo n ad w av post := by
  subst ho
  exact fun sz => mk_any (Qc := fun sz => va_Ql post (Aft G n ad) (wA n ad sz)) (free := fun sz => wA n ad sz) hy hlen (fun p e s m below meth c ls X hD hN hr hlk _ h hl => body p e s m below meth c ls X hD hN hr hlk h hl) sz
theorem mk_v {own : String} {post : (Nat → va_E) → Prop} (ho : y.cls = own) (hy : plainName y.cls = true) (hlen : (lg_sl av).length ≤ mL)
    (body : ∀ (p : Program) (e : Env) (s : State) (m : MethodId) (below : List Frame) (meth : Method) (c : Code) (ls : Array Slot), Fx p m c cc mL s av.toArray own G tys (wA n ad s.heap.size) → WD (wA n ad s.heap.size) n ad → NW s → meth.sig.returnType = none → meth.locks = false → St G n ad (wA n ad s.heap.size) s.heap w s.heap [] → lv_has ls mL (lv_args 0 av) →
      W p l e { frames := fr, cells := 0, slots := 0, locals := lo } s m av.toArray below meth c s.heap [] 0 0 (MQ below (va_Qv post (Aft G n ad) (wA n ad s.heap.size)) av.toArray s 0 0 (wA n ad s.heap.size)) (F0 m 0 ls [])) : MV l G tys y cc mL fr lo n ad w av post := by
  subst ho
  exact fun sz => mk_any (Qc := fun sz => va_Qv post (Aft G n ad) (wA n ad sz)) (free := fun sz => wA n ad sz) hy hlen (fun p e s m below meth c ls X hD hN hr hlk _ h hl => body p e s m below meth c ls X hD hN hr hlk h hl) sz
theorem mk_a {own : String} {post : (Nat → Nat) → (Nat → va_E) → Prop} (ho : y.cls = own) (hy : plainName y.cls = true) (hlen : (lg_sl av).length ≤ mL)
    (body : ∀ (p : Program) (e : Env) (s : State) (m : MethodId) (below : List Frame) (meth : Method) (c : Code) (ls : Array Slot), Fx p m c cc mL s av.toArray own G tys (wA n ad s.heap.size) → WD (wA n ad s.heap.size) n ad → NW s → meth.sig.returnType = none → meth.locks = false → meth.name = y.name → St G n ad (wA n ad s.heap.size) s.heap w s.heap [] → lv_has ls mL (lv_args 0 av) →
      W p l e { frames := fr, cells := mc, slots := ms, locals := lo } s m av.toArray below meth c s.heap [] 0 0 (MQ below (va_Qv (fun u : (Nat → Nat) × (Nat → va_E) => (∀ k, k < n → u.1 k = ad k) ∧ post u.1 u.2) (fun u t => va_P G vwCl (wl n1 u.1 u.2) t.heap ∧ WD (wA n ad s.heap.size) n1 u.1) (wA n ad s.heap.size)) av.toArray s mc ms (wA n ad s.heap.size)) (F0 m 0 ls [])) : MA l G tys y cc mL fr lo mc ms n n1 ad w av post := by
  subst ho
  exact fun sz => mk_any (Qc := fun sz => va_Qv (fun u : (Nat → Nat) × (Nat → va_E) => (∀ k, k < n → u.1 k = ad k) ∧ post u.1 u.2) (fun u t => va_P G vwCl (wl n1 u.1 u.2) t.heap ∧ WD (wA n ad sz) n1 u.1) (wA n ad sz)) (free := fun sz => wA n ad sz) hy hlen body sz
end STARTS
/-- the array classes: int, byte, boolean, Isle -/
abbrev tyq (cI cB cZ cO : ClassId) : List (ClassId × FieldType) := [(cI, .int), (cB, .byte), (cZ, .boolean), (cO, .object "NoonShade$Isle")]
section CALLS
variable {p : Program} {l : Launch} {e : Env} {R : Room} {s : State} {m : MethodId} {args : Array Value} {below : List Frame} {meth : Method} {c : Code} {H : Heap} {locs : List Loc} {cells slots : Nat} {Q : State → Prop}
variable {cc : ByteArray} {pc nL n : Nat} {ls : Array Slot} {rest stk : List Value} {own : String} {G : va_G} {tys : List (ClassId × FieldType)} {A : Nat → Prop} {ad : Nat → Nat} {w : Nat → va_E}
/-- the end of a method -/
theorem e_i (X : Fx p m c cc nL s args own G tys A) (h : St G n ad A s.heap w H locs) (hr : meth.sig.returnType = some .int) (hlk : meth.locks = false) {v : Int32} {post : Int32 → (Nat → va_E) → Prop} (hdg : decode cc pc = .ok (.ireturn, 1)) (hp : post v w) : W p l e R s m args below meth c H locs 0 0 (MQ below (va_Qi post (Aft G n ad) A) args s 0 0 A) (F0 m pc ls [.int v]) :=
  W.iret X.1.1 X.1.2.1 hr (fun t ht _ => ⟨⟨v, w, rfl, hp, by show va_P G vwCl (wl n ad w) t.heap; rw [ht]; exact h.1⟩, h.2.F ht⟩) h.2.2.2 hdg hlk
theorem e_z (X : Fx p m c cc nL s args own G tys A) (h : St G n ad A s.heap w H locs) (hr : meth.sig.returnType = some .boolean) (hlk : meth.locks = false) {v : Int32} {post : Int32 → (Nat → va_E) → Prop} (hn : narrow .boolean (.int v) = .int v) (hdg : decode cc pc = .ok (.ireturn, 1)) (hp : post v w) : W p l e R s m args below meth c H locs 0 0 (MQ below (va_Qi post (Aft G n ad) A) args s 0 0 A) (F0 m pc ls [.int v]) :=
  W.zret X.1.1 X.1.2.1 hr hn (fun t ht _ => ⟨⟨v, w, rfl, hp, by show va_P G vwCl (wl n ad w) t.heap; rw [ht]; exact h.1⟩, h.2.F ht⟩) h.2.2.2 hdg hlk
theorem e_l (X : Fx p m c cc nL s args own G tys A) (h : St G n ad A s.heap w H locs) (hr : meth.sig.returnType = some .long) (hlk : meth.locks = false) {v : Int64} {post : Int64 → (Nat → va_E) → Prop} (hdg : decode cc pc = .ok (.lreturn, 1)) (hp : post v w) : W p l e R s m args below meth c H locs 0 0 (MQ below (va_Ql post (Aft G n ad) A) args s 0 0 A) (F0 m pc ls [.long v]) :=
  W.lret X.1.1 X.1.2.1 hr (fun t ht _ => ⟨⟨v, w, rfl, hp, by show va_P G vwCl (wl n ad w) t.heap; rw [ht]; exact h.1⟩, h.2.F ht⟩) h.2.2.2 hdg hlk
theorem e_v (X : Fx p m c cc nL s args own G tys A) (h : St G n ad A s.heap w H locs) (hr : meth.sig.returnType = none) (hlk : meth.locks = false) {post : (Nat → va_E) → Prop} (hdg : decode cc pc = .ok (.return_, 1)) (hp : post w) : W p l e R s m args below meth c H locs 0 0 (MQ below (va_Qv post (Aft G n ad) A) args s 0 0 A) (F0 m pc ls []) :=
  W.vret X.1.1 X.1.2.1 hr (fun t ht _ => ⟨⟨w, rfl, hp, by show va_P G vwCl (wl n ad w) t.heap; rw [ht]; exact h.1⟩, h.2.F ht⟩) h.2.2.2 hdg hlk
theorem e_a {n1 : Nat} {ad1 : Nat → Nat} (X : Fx p m c cc nL s args own G tys A) (hD : WD A n1 ad1) (h : St G n1 ad1 A s.heap w H locs) (hr : meth.sig.returnType = none) (hlk : meth.locks = false) {post : (Nat → Nat) → (Nat → va_E) → Prop} (hdg : decode cc pc = .ok (.return_, 1)) (ho : ∀ k, k < n → ad1 k = ad k) (hp : post ad1 w) : W p l e R s m args below meth c H locs cells slots (MQ below (va_Qv (fun u : (Nat → Nat) × (Nat → va_E) => (∀ k, k < n → u.1 k = ad k) ∧ post u.1 u.2) (fun u t => va_P G vwCl (wl n1 u.1 u.2) t.heap ∧ WD A n1 u.1) A) args s cells slots A) (F0 m pc ls []) :=
  W.vret X.1.1 X.1.2.1 hr (fun t ht _ => ⟨⟨(ad1, w), rfl, ⟨ho, hp⟩, by rw [ht]; exact h.1, hD⟩, h.2.F ht⟩) h.2.2.2 hdg hlk
/-- the callee's words -/
def cwd (own C : String) (idx : Nat) (y : MethodName) (bytes : ByteArray) (mL : Nat) (rt : Option FieldType) : Prop := Cond.methodLink own idx y ∈ gtb ∧ Cond.instanceMethod y ∈ gtb ∧ Cond.selects C y y ∈ gtb ∧ Cond.initialized C ∈ gtb ∧ Cond.code y bytes mL rt ∈ gtb
theorem cwd.good {own C : String} {idx : Nat} {y : MethodName} {bytes : ByteArray} {mL : Nat} {rt : Option FieldType} (h : cwd own C idx y bytes mL rt) : GoodIn gtb (wsV own idx C y (.code y bytes mL rt :: gtb)) := by
  refine gtb_app (fun v hv => ?_) (gtb_cons h.2.2.2.2)
  simp only [List.mem_cons, List.not_mem_nil, or_false] at hv
  rcases hv with rfl | rfl | rfl | rfl
  · exact h.1
  · exact h.2.1
  · exact h.2.2.1
  · exact h.2.2.2.1
def cws (own : String) (idx : Nat) (y : MethodName) (bytes : ByteArray) (mL : Nat) (rt : Option FieldType) : Prop := Cond.methodLink own idx y ∈ gtb ∧ Cond.static y ∈ gtb ∧ Cond.initialized y.cls ∈ gtb ∧ Cond.code y bytes mL rt ∈ gtb
theorem cws.good {own : String} {idx : Nat} {y : MethodName} {bytes : ByteArray} {mL : Nat} {rt : Option FieldType} (h : cws own idx y bytes mL rt) : GoodIn gtb (va_wsS own idx y (.code y bytes mL rt :: gtb)) := by
  refine gtb_app (fun v hv => ?_) (gtb_cons h.2.2.2)
  simp only [List.mem_cons, List.not_mem_nil, or_false] at hv
  rcases hv with rfl | rfl | rfl
  · exact h.1
  · exact h.2.1
  · exact h.2.2.1
def desc (y : MethodName) (na : Nat) : Prop := y.cls ≠ "java/lang/invoke/MethodHandle" ∧ y.cls ≠ "java/lang/invoke/VarHandle" ∧ (parseMethodDescriptor y.desc).map (fun d => d.parameters.length) = some na
variable {y : MethodName} {bytes : ByteArray} {mL fr lo na idx : Nat} {rt : Option FieldType} {As : List Value} {C : String}
theorem pre_go (X : Fx p m c cc nL s args own G tys A) (hD : WD A n ad) (hN : NW s) (h : St G n ad A s.heap w H locs) (av : List Value) : ∀ U : State, U.heap = H → s.WarmedH U.vm → va_Pc av (Pre G tys n ad w H.size) av.toArray U := fun U hU hW =>
  ⟨rfl, by rw [hU], by rw [hU]; exact h.1, va_K.moved hW.alike X.2.1, hD.weaken (fun _ _ => trivial), NW.warm hW hN⟩
theorem q_Vi {post : Int32 → (Nat → va_E) → Prop} {b ci a N : Nat} {T : u_T} {fs : List Value} (X : Fx p m c cc nL s args own G tys A) (hD : WD A n ad) (hN : NW s) (h : St G n ad A s.heap w H locs) (ha : ad b = a) (hM : MI l G tys y bytes mL rt fr lo n ad w (.ref a :: As) post) (hwd : cwd own C idx y bytes mL rt) (hy : y.cls = C) (hd : desc y na) (hR : fr + 1 ≤ R.frames ∧ 8 + (mL + 11) + lo ≤ R.locals) (hc : cells ≤ R.cells ∧ slots ≤ R.slots)
    (hb : b < n) (hw : w b = .inr (ci, fs)) (hcl : vwCl[ci]? = some (C, T, N)) (hn : As.length = na) (hl : ls.size = nL) (hst : stk = As.reverse ++ .ref a :: rest) (hW : (rest.map fun v => v.category).sum ≤ 8) (hdg : decode cc pc = .ok (.invokevirtual idx, 3))
    (kk : ∀ (r : Int32) (w1 : Nat → va_E) (H1 : Heap) (locs1 : List Loc), post r w1 → St G n ad A s.heap w1 H1 locs1 → W p l e R s m args below meth c H1 locs1 cells slots Q (F0 m (pc + 3) ls (.int r :: rest))) : W p l e R s m args below meth c H locs cells slots Q (F0 m pc ls stk) := by
  have hF := hD.free X.2.2 h.2.1
  refine va_calli (va_runV (As := As) (rest := rest) X.1 (hM H.size) (cwV na X.1.2.2.2.2 hwd.good rfl rfl rfl ⟨hy, hd⟩ hR) ⟨pre_blind, va_recv X.2.1 h.1 hcl (by rw [wl_get hb, hw, ha]), pre_go X hD hN h _⟩ rfl hn hl hst (lv_room hW) hdg ⟨hc.1, hc.2⟩) h.2 (fun q _ hq => hF q hq) hF (fun r u t H1 locs1 ht _ hpo hB _ _ hS => kk r u H1 locs1 hpo ⟨by rw [← ht]; exact hB, hS⟩)
theorem q_Vl {post : Int64 → (Nat → va_E) → Prop} {b ci a N : Nat} {T : u_T} {fs : List Value} (X : Fx p m c cc nL s args own G tys A) (hD : WD A n ad) (hN : NW s) (h : St G n ad A s.heap w H locs) (ha : ad b = a) (hM : ML l G tys y bytes mL rt fr lo n ad w (.ref a :: As) post) (hwd : cwd own C idx y bytes mL rt) (hy : y.cls = C) (hd : desc y na) (hR : fr + 1 ≤ R.frames ∧ 8 + (mL + 11) + lo ≤ R.locals) (hc : cells ≤ R.cells ∧ slots ≤ R.slots)
    (hb : b < n) (hw : w b = .inr (ci, fs)) (hcl : vwCl[ci]? = some (C, T, N)) (hn : As.length = na) (hl : ls.size = nL) (hst : stk = As.reverse ++ .ref a :: rest) (hW : (rest.map fun v => v.category).sum ≤ 8) (hdg : decode cc pc = .ok (.invokevirtual idx, 3))
    (kk : ∀ (r : Int64) (w1 : Nat → va_E) (H1 : Heap) (locs1 : List Loc), post r w1 → St G n ad A s.heap w1 H1 locs1 → W p l e R s m args below meth c H1 locs1 cells slots Q (F0 m (pc + 3) ls (.long r :: rest))) : W p l e R s m args below meth c H locs cells slots Q (F0 m pc ls stk) := by
  have hF := hD.free X.2.2 h.2.1
  refine va_calll (va_runV (As := As) (rest := rest) X.1 (hM H.size) (cwV na X.1.2.2.2.2 hwd.good rfl rfl rfl ⟨hy, hd⟩ hR) ⟨pre_blind, va_recv X.2.1 h.1 hcl (by rw [wl_get hb, hw, ha]), pre_go X hD hN h _⟩ rfl hn hl hst (lv_room hW) hdg ⟨hc.1, hc.2⟩) h.2 (fun q _ hq => hF q hq) hF (fun r u t H1 locs1 ht _ hpo hB _ _ hS => kk r u H1 locs1 hpo ⟨by rw [← ht]; exact hB, hS⟩)
theorem q_Vv {post : (Nat → va_E) → Prop} {b ci a N : Nat} {T : u_T} {fs : List Value} (X : Fx p m c cc nL s args own G tys A) (hD : WD A n ad) (hN : NW s) (h : St G n ad A s.heap w H locs) (ha : ad b = a) (hM : MV l G tys y bytes mL fr lo n ad w (.ref a :: As) post) (hwd : cwd own C idx y bytes mL none) (hy : y.cls = C) (hd : desc y na) (hR : fr + 1 ≤ R.frames ∧ 8 + (mL + 11) + lo ≤ R.locals) (hc : cells ≤ R.cells ∧ slots ≤ R.slots)
    (hb : b < n) (hw : w b = .inr (ci, fs)) (hcl : vwCl[ci]? = some (C, T, N)) (hn : As.length = na) (hl : ls.size = nL) (hst : stk = As.reverse ++ .ref a :: rest) (hW : (rest.map fun v => v.category).sum ≤ 8) (hdg : decode cc pc = .ok (.invokevirtual idx, 3))
    (kk : ∀ (w1 : Nat → va_E) (H1 : Heap) (locs1 : List Loc), post w1 → St G n ad A s.heap w1 H1 locs1 → W p l e R s m args below meth c H1 locs1 cells slots Q (F0 m (pc + 3) ls rest)) : W p l e R s m args below meth c H locs cells slots Q (F0 m pc ls stk) := by
  have hF := hD.free X.2.2 h.2.1
  refine va_callv (va_runV (As := As) (rest := rest) X.1 (hM H.size) (cwV na X.1.2.2.2.2 hwd.good rfl rfl rfl ⟨hy, hd⟩ hR) ⟨pre_blind, va_recv X.2.1 h.1 hcl (by rw [wl_get hb, hw, ha]), pre_go X hD hN h _⟩ rfl hn hl hst (lv_room hW) hdg ⟨hc.1, hc.2⟩) h.2 (fun q _ hq => hF q hq) hF (fun u t H1 locs1 ht _ hpo hB _ _ hS => kk u H1 locs1 hpo ⟨by rw [← ht]; exact hB, hS⟩)
theorem q_Si {post : Int32 → (Nat → va_E) → Prop} (X : Fx p m c cc nL s args own G tys A) (hD : WD A n ad) (hN : NW s) (h : St G n ad A s.heap w H locs) (hM : MI l G tys y bytes mL rt fr lo n ad w As post) (hwd : cws own idx y bytes mL rt) (hd : desc y na) (hR : fr + 1 ≤ R.frames ∧ 8 + (mL + 11) + lo ≤ R.locals) (hc : cells ≤ R.cells ∧ slots ≤ R.slots)
    (hn : As.length = na) (hl : ls.size = nL) (hst : stk = As.reverse ++ rest) (hW : (rest.map fun v => v.category).sum ≤ 8) (hdg : decode cc pc = .ok (.invokestatic idx, 3))
    (kk : ∀ (r : Int32) (w1 : Nat → va_E) (H1 : Heap) (locs1 : List Loc), post r w1 → St G n ad A s.heap w1 H1 locs1 → W p l e R s m args below meth c H1 locs1 cells slots Q (F0 m (pc + 3) ls (.int r :: rest))) : W p l e R s m args below meth c H locs cells slots Q (F0 m pc ls stk) := by
  have hF := hD.free X.2.2 h.2.1
  refine va_calli (va_runS (As := As) (rest := rest) X.1 (hM H.size) (va_cwS na X.1.2.2.2.2 hwd.good rfl rfl rfl hd hR) ⟨pre_blind, pre_go X hD hN h _⟩ rfl hn hl hst (lv_room hW) hdg ⟨hc.1, hc.2⟩) h.2 (fun q _ hq => hF q hq) hF (fun r u t H1 locs1 ht _ hpo hB _ _ hS => kk r u H1 locs1 hpo ⟨by rw [← ht]; exact hB, hS⟩)
theorem q_Sv {post : (Nat → va_E) → Prop} (X : Fx p m c cc nL s args own G tys A) (hD : WD A n ad) (hN : NW s) (h : St G n ad A s.heap w H locs) (hM : MV l G tys y bytes mL fr lo n ad w As post) (hwd : cws own idx y bytes mL none) (hd : desc y na) (hR : fr + 1 ≤ R.frames ∧ 8 + (mL + 11) + lo ≤ R.locals) (hc : cells ≤ R.cells ∧ slots ≤ R.slots)
    (hn : As.length = na) (hl : ls.size = nL) (hst : stk = As.reverse ++ rest) (hW : (rest.map fun v => v.category).sum ≤ 8) (hdg : decode cc pc = .ok (.invokestatic idx, 3))
    (kk : ∀ (w1 : Nat → va_E) (H1 : Heap) (locs1 : List Loc), post w1 → St G n ad A s.heap w1 H1 locs1 → W p l e R s m args below meth c H1 locs1 cells slots Q (F0 m (pc + 3) ls rest)) : W p l e R s m args below meth c H locs cells slots Q (F0 m pc ls stk) := by
  have hF := hD.free X.2.2 h.2.1
  refine va_callv (va_runS (As := As) (rest := rest) X.1 (hM H.size) (va_cwS na X.1.2.2.2.2 hwd.good rfl rfl rfl hd hR) ⟨pre_blind, pre_go X hD hN h _⟩ rfl hn hl hst (lv_room hW) hdg ⟨hc.1, hc.2⟩) h.2 (fun q _ hq => hF q hq) hF (fun u t H1 locs1 ht _ hpo hB _ _ hS => kk u H1 locs1 hpo ⟨by rw [← ht]; exact hB, hS⟩)
/-- makers -/
theorem q_A {post : (Nat → Nat) → (Nat → va_E) → Prop} {a mc ms n1 : Nat} (X : Fx p m c cc nL s args own G tys A) (hD : WD A n ad) (hN : NW s) (h : St G n ad A s.heap w H locs) (hM : MA l G tys y bytes mL fr lo mc ms n n1 ad w (.ref a :: As) post) (hl1 : Cond.methodLink own idx y ∈ gtb) (hl2 : Cond.instanceMethod y ∈ gtb) (hl3 : Cond.initialized y.cls ∈ gtb) (hl4 : Cond.code y bytes mL none ∈ gtb) (hy : y.name = "<init>") (hd : desc y na) (hR : fr + 1 ≤ R.frames ∧ 8 + (mL + 11) + lo ≤ R.locals) (hc : cells + mc ≤ R.cells ∧ slots + ms ≤ R.slots)
    (hn : As.length = na) (hl : ls.size = nL) (hst : stk = As.reverse ++ .ref a :: rest) (hW : (rest.map fun v => v.category).sum ≤ 8) (hdg : decode cc pc = .ok (.invokespecial idx, 3))
    (kk : ∀ (ad1 : Nat → Nat) (w1 : Nat → va_E) (H1 : Heap) (locs1 : List Loc), (∀ k, k < n → ad1 k = ad k) → post ad1 w1 → WD A n1 ad1 → St G n1 ad1 A s.heap w1 H1 locs1 → W p l e R s m args below meth c H1 locs1 (cells + mc) (slots + ms) Q (F0 m (pc + 3) ls rest)) : W p l e R s m args below meth c H locs cells slots Q (F0 m pc ls stk) := by
  have hF := hD.free X.2.2 h.2.1
  refine va_callv (va_runI (As := As) (rest := rest) X.1 (hM H.size) (cwI na X.1.2.2.2.2 (gtb_cons hl4) rfl rfl rfl (X.1.2.2.2.2 _ hl3) (X.1.2.2.2.2 _ hl1) (X.1.2.2.2.2 _ hl2) hy hd hR) ⟨pre_blind, pre_go X hD hN h _⟩ rfl hn hl hst (lv_room hW) hdg hc) h.2 (fun q _ hq => hF q hq) hF (fun u t H1 locs1 ht _ hpo hB _ _ hS => kk u.1 u.2 H1 locs1 hpo.1 hpo.2 (hB.2.weaken hF) ⟨by rw [← ht]; exact hB.1, hS⟩)
theorem q_AN {post : (Nat → Nat) → (Nat → va_E) → Prop} {a mc ms n1 : Nat} {host : String} (X : Fx p m c cc nL s args own G tys A) (hD : WD A n ad) (hN : NW s) (h : St G n ad A s.heap w H locs) (hM : MA l G tys y bytes mL fr lo mc ms n n1 ad w (.ref a :: As) post) (hl1 : (own, idx, y, host) ∈ nwq) (hl2 : Cond.instanceMethod y ∈ gtb) (hl3 : Cond.initialized y.cls ∈ gtb) (hl4 : Cond.code y bytes mL none ∈ gtb) (hy : y.name = "<init>") (hd : desc y na) (hR : fr + 1 ≤ R.frames ∧ 8 + (mL + 11) + lo ≤ R.locals) (hc : cells + mc ≤ R.cells ∧ slots + ms ≤ R.slots)
    (hn : As.length = na) (hl : ls.size = nL) (hst : stk = As.reverse ++ .ref a :: rest) (hW : (rest.map fun v => v.category).sum ≤ 8) (hdg : decode cc pc = .ok (.invokespecial idx, 3))
    (kk : ∀ (ad1 : Nat → Nat) (w1 : Nat → va_E) (H1 : Heap) (locs1 : List Loc), (∀ k, k < n → ad1 k = ad k) → post ad1 w1 → WD A n1 ad1 → St G n1 ad1 A s.heap w1 H1 locs1 → W p l e R s m args below meth c H1 locs1 (cells + mc) (slots + ms) Q (F0 m (pc + 3) ls rest)) : W p l e R s m args below meth c H locs cells slots Q (F0 m pc ls stk) := by
  have hF := hD.free X.2.2 h.2.1
  refine va_callv (va_runIN (As := As) (rest := rest) X.1 (hM H.size) ⟨va_cnB na X.1.2.2.2.2 (gtb_cons hl4) rfl rfl rfl (hN.1 _ hl1) (X.1.2.2.2.2 _ hl3) hd hR, hy, X.1.2.2.2.2 _ hl2⟩ ⟨pre_blind, pre_go X hD hN h _⟩ rfl hn hl hst (lv_room hW) hdg hc) h.2 (fun q _ hq => hF q hq) hF (fun u t H1 locs1 ht _ hpo hB _ _ hS => kk u.1 u.2 H1 locs1 hpo.1 hpo.2 (hB.2.weaken hF) ⟨by rw [← ht]; exact hB.1, hS⟩)
end CALLS
