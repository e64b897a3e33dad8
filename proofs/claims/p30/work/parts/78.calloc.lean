theorem arr2 (x y : Nat) : va_up (va_up (fun _ => none) 0 (some x)) 1 (some y) = fun k => if k = 0 then some x else if k = 1 then some y else none := by
  funext k
  by_cases h : k = 0
  · simp [va_up, h]
  · by_cases g : k = 1 <;> simp [va_up, h, g]
section ALLOC
variable {p : Program} {l : Launch} {e : Env} {R : Room} {s : State} {m : MethodId} {args : Array Value} {below : List Frame} {meth : Method} {c : Code} {H : Heap} {locs : List Loc} {cells slots : Nat} {Q : State → Prop}
variable {cc : ByteArray} {pc nL n : Nat} {ls : Array Slot} {rest stk : List Value} {own : String} {G : va_G} {tys : List (ClassId × FieldType)} {A : Nat → Prop} {ad : Nat → Nat} {w : Nat → va_E}
theorem r_newa {atype : ArrayType} {ty : FieldType} (X : Fx p m c cc nL s args own G tys A) (hD : WD A n ad) (h : St G n ad A s.heap w H locs) (t0 : Nat) {cA : ClassId} (harr : Cond.arrayClass ty ∈ gtb) (hty : newarray.typeOf atype = ty) (ht : tys[t0]? = some (cA, ty)) (hra : ∀ c : ClassId, va_RA s c ty → s.vm.findClass ("[" ++ ty.toString) = some c) {k : Int32} {N n1 c1 s1 : Nat} (ha : ∀ c : ClassId, vp_cell c (N, .inl (fun _ => 0)) = arrV c N (fun _ => defaultValue ty)) (hn : ¬ k < 0) (hN : k.toNatClampNeg = N) (hby : N * componentBytes ty ≤ 536870912) (e1 : n + 1 = n1) (e2 : cells + 1 = c1) (e3 : slots + N = s1) (hc : c1 ≤ R.cells) (hs : s1 ≤ R.slots) (hdg : decode cc pc = .ok (.newarray atype, 2))
    (kk : ∀ (q : Nat) (ad1 : Nat → Nat) (w1 : Nat → va_E) (H1 : Heap), ad1 = va_up ad n q → w1 = va_up w n (.inl (cA, N, .inl (fun _ => 0))) → WD A n1 ad1 → St G n1 ad1 A s.heap w1 H1 locs → W p l e R s m args below meth c H1 locs c1 s1 Q (F0 m (pc + 2) ls (.ref q :: rest))) : W p l e R s m args below meth c H locs cells slots Q (F0 m pc ls (.int k :: rest)) := by
  subst e1; subst e2; subst e3
  refine va_newa X.1.1 X.1.2.1 (atype := atype) (by rw [hty]; exact X.1.2.2.2.2 _ harr) hty X.2.1 h.1 (hD.D w) h.2 X.2.2 ha hn hN hby hc hs hdg (fun q cA' H1 hK hP hD1 hS => ?_)
  have hc' : cA' = cA := by
    have h1 := (hK.2 tys.length (cA', ty) (by simp)).2
    have h2 := (X.2.1.2 t0 _ ht).2
    exact Option.some.inj ((hra _ h1).symm.trans (hra _ h2))
  subst hc'
  rw [wl_push] at hP hD1
  exact kk q _ _ H1 rfl rfl (WD.of hD1) ⟨hP, hS⟩
theorem r_newq {C : String} (X : Fx p m c cc nL s args own G tys A) (hN : NW s) (hD : WD A n ad) (h : St G n ad A s.heap w H locs) (t0 : Nat) {cA : ClassId} {idx : Nat} (hcl : Cond.classLink own idx "NoonShade$Isle" ∈ gtb) (ht : tys[t0]? = some (cA, .object "NoonShade$Isle")) {k : Int32} {N n1 c1 s1 : Nat} (hn : ¬ k < 0) (hN1 : k.toNatClampNeg = N) (hby : N * 4 ≤ 536870912) (e1 : n + 1 = n1) (e2 : cells + 1 = c1) (e3 : slots + N = s1) (hc : c1 ≤ R.cells) (hs : s1 ≤ R.slots) (hdg : decode cc pc = .ok (.anewarray idx, 3))
    (kk : ∀ (q : Nat) (ad1 : Nat → Nat) (w1 : Nat → va_E) (H1 : Heap), ad1 = va_up ad n q → w1 = va_up w n (.inl (cA, N, .inr (.inr (.inr (.inr (fun _ => none)))))) → WD A n1 ad1 → St G n1 ad1 A s.heap w1 H1 locs → W p l e R s m args below meth c H1 locs c1 s1 Q (F0 m (pc + 3) ls (.ref q :: rest))) : W p l e R s m args below meth c H locs cells slots Q (F0 m pc ls (.int k :: rest)) := by
  subst e1; subst e2; subst e3
  refine va_newq X.1.1 X.1.2.1 X.1.2.2.2.1 (X.1.2.2.2.2 _ hcl) hN.2 X.2.1 h.1 (hD.D w) h.2 X.2.2 hn hN1 hby hc hs hdg (fun q cA' H1 hK hP hD1 hS => ?_)
  have hc' : cA' = cA := by
    obtain ⟨_, _, -, -, -, h1⟩ := (hK.2 tys.length (cA', .object "NoonShade$Isle") (by simp)).2
    obtain ⟨_, _, -, -, -, h2⟩ := (X.2.1.2 t0 _ ht).2
    exact Option.some.inj (h1.symm.trans h2)
  subst hc'
  rw [wl_push] at hP hD1
  exact kk q _ _ H1 rfl rfl (WD.of hD1) ⟨hP, hS⟩
theorem r_new {ci N : Nat} {C : String} {T : u_T} {ty : Nat → FieldType} (kc : KC ci C T ty N) (X : Fx p m c cc nL s args own G tys A) (hD : WD A n ad) (h : St G n ad A s.heap w H locs) {idx : Nat} {fs : List Value} {n1 c1 s1 : Nat} (hcl : Cond.classLink own idx C ∈ gtb) (hinst : Cond.instantiable C N ∈ gtb) (hini : Cond.initialized C ∈ gtb) (hfs : ∀ j, j < N → defaultValue (ty j) = vp_V fs j) (e1 : n + 1 = n1) (e2 : cells + 1 = c1) (e3 : slots + N = s1) (hc : c1 ≤ R.cells) (hs : s1 ≤ R.slots) (hdg : decode cc pc = .ok (.new idx, 3))
    (kk : ∀ (q : Nat) (ad1 : Nat → Nat) (w1 : Nat → va_E) (H1 : Heap), ad1 = va_up ad n q → w1 = va_up w n (.inr (ci, fs)) → WD A n1 ad1 → St G n1 ad1 A s.heap w1 H1 locs → W p l e R s m args below meth c H1 locs c1 s1 Q (F0 m (pc + 3) ls (.ref q :: rest))) : W p l e R s m args below meth c H locs cells slots Q (F0 m pc ls rest) := by
  subst e1; subst e2; subst e3
  refine va_new X.1.1 X.1.2.1 X.1.2.2.2.2 kc.2.1 ty kc.2.2.1 X.1.2.2.2.1 (X.1.2.2.2.2 _ hcl) (X.1.2.2.2.2 _ hinst) (X.1.2.2.2.2 _ hini) X.2.1 h.1 (hD.D w) h.2 X.2.2 kc.1 hfs hc hs hdg (fun q H1 hP hD1 hS => ?_)
  rw [wl_push] at hP hD1
  exact kk q _ _ H1 rfl rfl (WD.of hD1) ⟨hP, hS⟩
theorem r_aast {r : vw_C} (X : Fx p m c cc nL s args own G tys A) (hD : WD A n ad) (h : St G n ad A s.heap w H locs) (b qk t0 ci : Nat) {a v N : Nat} {cA : ClassId} {f f1 : Nat → Option Nat} {i : Int32} {vs : List Value} (hb : b < n) (ha : ad b = a) (hw : w b = .inl (cA, N, .inr (.inr (.inr (.inr f))))) (hq : qk < n) (hv : ad qk = v) (hwq : w qk = .inr (ci, vs)) (hcl : vwCl[ci]? = some r) (ht : tys[t0]? = some (cA, .object r.1)) (hin : vp_in i N) (hf : va_up f i.toNatClampNeg (some v) = f1) (hdg : decode cc pc = .ok (.aastore, 1))
    (kk : ∀ (H1 : Heap) (locs1 : List Loc) (w1 : Nat → va_E), w1 = va_up w b (.inl (cA, N, .inr (.inr (.inr (.inr f1))))) → St G n ad A s.heap w1 H1 locs1 → W p l e R s m args below meth c H1 locs1 cells slots Q (F0 m (pc + 1) ls rest)) : W p l e R s m args below meth c H locs cells slots Q (F0 m pc ls (.ref v :: .int i :: .ref a :: rest)) := by
  subst ha; subst hv; subst hf
  refine va_astq X.1.1 X.1.2.1 X.2.1 h.1 (hD.D w) h.2 b t0 qk ci (by rw [wl_get hb, hw]) ht (by rw [wl_get hq, hwq]) hcl hin hdg (fun H1 locs1 hP _ hS => ?_)
  rw [wl_set hb] at hP
  exact kk H1 locs1 _ rfl ⟨hP, hS⟩
end ALLOC
theorem ai {c : ClassId} {N : Nat} : vp_cell c (N, .inl (fun _ => 0)) = arrV c N (fun _ => defaultValue .int) := rfl
theorem ab {c : ClassId} {N : Nat} : vp_cell c (N, .inl (fun _ => 0)) = arrV c N (fun _ => defaultValue .byte) := rfl
theorem az {c : ClassId} {N : Nat} : vp_cell c (N, .inl (fun _ => 0)) = arrV c N (fun _ => defaultValue .boolean) := rfl
