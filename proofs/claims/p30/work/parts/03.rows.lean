/-! ===== plain facts on ints (kit/laws/NUMBERS) ===== -/
theorem fa_lt (a b : Int32) : a < b ↔ a.toInt < b.toInt := Int32.lt_iff_toInt_lt
theorem fa_le (a b : Int32) : a ≤ b ↔ a.toInt ≤ b.toInt := Int32.le_iff_toInt_le
theorem fa_eq (a b : Int32) : a = b ↔ a.toInt = b.toInt := Int32.toInt_inj.symm
theorem fa_lt64 (a b : Int64) : a < b ↔ a.toInt < b.toInt := Int64.lt_iff_toInt_lt
theorem fa_le64 (a b : Int64) : a ≤ b ↔ a.toInt ≤ b.toInt := Int64.le_iff_toInt_le
theorem fa_eq64 (a b : Int64) : a = b ↔ a.toInt = b.toInt := Int64.toInt_inj.symm
theorem i_le {a b : Int32} {x y : Int} (h : a ≤ b) (hx : a.toInt = x) (hy : b.toInt = y) : x ≤ y := by rw [← hx, ← hy]; exact (fa_le _ _).mp h
theorem i_lt {a b : Int32} {x y : Int} (h : a < b) (hx : a.toInt = x) (hy : b.toInt = y) : x < y := by rw [← hx, ← hy]; exact (fa_lt _ _).mp h
theorem i_eq {a b : Int32} {x y : Int} (h : a = b) (hx : a.toInt = x) (hy : b.toInt = y) : x = y := by rw [← hx, ← hy, h]
theorem i_nle {a b : Int32} {x y : Int} (h : ¬ a ≤ b) (hx : a.toInt = x) (hy : b.toInt = y) : ¬ x ≤ y := by rw [← hx, ← hy]; exact fun q => h ((fa_le _ _).mpr q)
theorem i_nlt {a b : Int32} {x y : Int} (h : ¬ a < b) (hx : a.toInt = x) (hy : b.toInt = y) : ¬ x < y := by rw [← hx, ← hy]; exact fun q => h ((fa_lt _ _).mpr q)
theorem i_ne {a b : Int32} {x y : Int} (h : ¬ a = b) (hx : a.toInt = x) (hy : b.toInt = y) : ¬ x = y := by rw [← hx, ← hy]; exact fun q => h ((fa_eq _ _).mpr q)
theorem in_of {x : Int32} {n : Nat} (h0 : 0 ≤ x.toInt) (h1 : x.toInt < n) : vp_in x n := vp_in_iff.mpr ⟨h0, h1⟩
theorem cl_of {x : Int32} (h0 : 0 ≤ x.toInt) : ((x.toNatClampNeg : Nat) : Int) = x.toInt := by
  show ((x.toInt.toNat : Nat) : Int) = x.toInt
  omega
theorem lcm_lt {x y : Int64} {u v : Int} (h : lg_cmp x y < 0) (hx : x.toInt = u) (hy : y.toInt = v) : u < v := by
  rw [lg_cmp_lt, fa_lt64, hx, hy] at h; exact h
theorem lcm_nlt {x y : Int64} {u v : Int} (h : ¬ lg_cmp x y < 0) (hx : x.toInt = u) (hy : y.toInt = v) : ¬ u < v := by
  rw [lg_cmp_lt, fa_lt64, hx, hy] at h; exact h
theorem lcm_gt {x y : Int64} {u v : Int} (h : 0 < lg_cmp x y) (hx : x.toInt = u) (hy : y.toInt = v) : v < u := by
  rw [lg_cmp_gt, fa_lt64, hx, hy] at h; exact h
theorem lcm_ngt {x y : Int64} {u v : Int} (h : ¬ 0 < lg_cmp x y) (hx : x.toInt = u) (hy : y.toInt = v) : ¬ v < u := by
  rw [lg_cmp_gt, fa_lt64, hx, hy] at h; exact h
theorem lcm_eq {x y : Int64} {u v : Int} (h : lg_cmp x y = 0) (hx : x.toInt = u) (hy : y.toInt = v) : u = v := by
  rw [lg_cmp_eq, fa_eq64, hx, hy] at h; exact h
theorem lcm_ne {x y : Int64} {u v : Int} (h : ¬ lg_cmp x y = 0) (hx : x.toInt = u) (hy : y.toInt = v) : ¬ u = v := by
  rw [lg_cmp_eq, fa_eq64, hx, hy] at h; exact h
theorem fb_bmod {z : Int} (h1 : -2147483648 ≤ z) (h2 : z < 2147483648) : z.bmod (2 ^ 32) = z := by
  rw [Int.bmod_eq_of_le (by omega) (by omega)]
theorem fb_addI {x y : Int32} (h1 : -2147483648 ≤ x.toInt + y.toInt) (h2 : x.toInt + y.toInt < 2147483648) : (x + y).toInt = x.toInt + y.toInt := by
  rw [Int32.toInt_add, fb_bmod h1 h2]
theorem fb_subI {x y : Int32} (h1 : -2147483648 ≤ x.toInt - y.toInt) (h2 : x.toInt - y.toInt < 2147483648) : (x - y).toInt = x.toInt - y.toInt := by
  rw [Int32.toInt_sub, fb_bmod h1 h2]
theorem fb_mulI {x y : Int32} (h1 : -2147483648 ≤ x.toInt * y.toInt) (h2 : x.toInt * y.toInt < 2147483648) : (x * y).toInt = x.toInt * y.toInt := by
  rw [Int32.toInt_mul, fb_bmod h1 h2]
theorem inc1 {k : Int32} (h0 : 0 ≤ k.toInt) (h : k.toInt < 2147483647) : (k + 1).toInt = k.toInt + 1 := by
  rw [fb_addI (by show -2147483648 ≤ k.toInt + 1; omega) (by show k.toInt + 1 < 2147483648; omega)]; rfl
theorem addc {k c : Int32} {a : Int} (hc : c.toInt = a) (h0 : 0 ≤ k.toInt) (h1 : 0 ≤ a) (h : k.toInt + a < 2147483648) : (c + k).toInt = a + k.toInt := by
  rw [fb_addI (by rw [hc]; omega) (by rw [hc]; omega), hc]
theorem upd0 (k : Nat) : upd (fun _ => (0 : Int32)) k 0 = fun _ => 0 := by
  funext j
  by_cases h : j = k <;> simp [upd, h]
theorem cpy0 (a b c : Nat) : va_cpy (fun _ => (0 : Int32)) (fun _ => 0) a b c = fun _ => 0 := by
  funext j
  by_cases h : b ≤ j ∧ j < b + c <;> simp [va_cpy, h]
/-- a row of zeros but for place 4 and the hour at place 5 -/
def hz (a q : Int32) : Nat → Int32 := fun j => if j = 5 then q else if j = 4 then a else 0
theorem hz5 (a q x : Int32) : upd (hz a q) 5 x = hz a x := by
  funext j
  by_cases h : j = 5 <;> simp [upd, hz, h]
theorem hz7 (a q : Int32) : upd (hz a q) 7 0 = hz a q := by
  funext j
  by_cases h : j = 7 <;> simp [upd, hz, h]
theorem hz0 : upd (fun _ => (0 : Int32)) 4 1 = hz 1 0 := by
  funext j
  by_cases h : j = 4 <;> simp [upd, hz, h]
theorem hz00 : (fun _ => (0 : Int32)) = hz 0 0 := by
  funext j
  simp [hz]
section OPS
variable {p : Program} {l : Launch} {e : Env} {R : Room} {s : State} {m : MethodId} {args : Array Value} {below : List Frame} {meth : Method} {c : Code} {H : Heap} {locs : List Loc} {cells slots : Nat} {Q : State → Prop}
variable {cc : ByteArray} {pc nL n : Nat} {ls : Array Slot} {rest stk : List Value} {own : String} {G : va_G} {tys : List (ClassId × FieldType)} {A : Nat → Prop} {ad : Nat → Nat} {w : Nat → va_E}
theorem o_iadd (hx : p.tables.exec = Jvm.exec) (hb : c.code = cc) {x y z : Int32} (hdg : decode cc pc = .ok (.iadd, 1)) (hz : x + y = z) (k : W p l e R s m args below meth c H locs cells slots Q (F0 m (pc + 1) ls (.int z :: rest))) : W p l e R s m args below meth c H locs cells slots Q (F0 m pc ls (.int y :: .int x :: rest)) := by
  subst hz
  exact lv_iadd hx hb hdg k
theorem o_isub (hx : p.tables.exec = Jvm.exec) (hb : c.code = cc) {x y z : Int32} (hdg : decode cc pc = .ok (.isub, 1)) (hz : x - y = z) (k : W p l e R s m args below meth c H locs cells slots Q (F0 m (pc + 1) ls (.int z :: rest))) : W p l e R s m args below meth c H locs cells slots Q (F0 m pc ls (.int y :: .int x :: rest)) := by
  subst hz
  exact lv_isub hx hb hdg k
theorem o_imul (hx : p.tables.exec = Jvm.exec) (hb : c.code = cc) {x y z : Int32} (hdg : decode cc pc = .ok (.imul, 1)) (hz : x * y = z) (k : W p l e R s m args below meth c H locs cells slots Q (F0 m (pc + 1) ls (.int z :: rest))) : W p l e R s m args below meth c H locs cells slots Q (F0 m pc ls (.int y :: .int x :: rest)) := by
  subst hz
  exact lv_imul hx hb hdg k
theorem o_iand (hx : p.tables.exec = Jvm.exec) (hb : c.code = cc) {x y z : Int32} (hdg : decode cc pc = .ok (.iand, 1)) (hz : x &&& y = z) (k : W p l e R s m args below meth c H locs cells slots Q (F0 m (pc + 1) ls (.int z :: rest))) : W p l e R s m args below meth c H locs cells slots Q (F0 m pc ls (.int y :: .int x :: rest)) := by
  subst hz
  exact lv_iand hx hb hdg k
theorem o_ior (hx : p.tables.exec = Jvm.exec) (hb : c.code = cc) {x y z : Int32} (hdg : decode cc pc = .ok (.ior, 1)) (hz : x ||| y = z) (k : W p l e R s m args below meth c H locs cells slots Q (F0 m (pc + 1) ls (.int z :: rest))) : W p l e R s m args below meth c H locs cells slots Q (F0 m pc ls (.int y :: .int x :: rest)) := by
  subst hz
  exact lv_ior hx hb hdg k
theorem o_ishl (hx : p.tables.exec = Jvm.exec) (hb : c.code = cc) {x y z : Int32} (hdg : decode cc pc = .ok (.ishl, 1)) (hz : x <<< (y &&& 31) = z) (k : W p l e R s m args below meth c H locs cells slots Q (F0 m (pc + 1) ls (.int z :: rest))) : W p l e R s m args below meth c H locs cells slots Q (F0 m pc ls (.int y :: .int x :: rest)) := by
  subst hz
  exact lv_ishl hx hb hdg k
theorem o_ishr (hx : p.tables.exec = Jvm.exec) (hb : c.code = cc) {x y z : Int32} (hdg : decode cc pc = .ok (.ishr, 1)) (hz : x >>> (y &&& 31) = z) (k : W p l e R s m args below meth c H locs cells slots Q (F0 m (pc + 1) ls (.int z :: rest))) : W p l e R s m args below meth c H locs cells slots Q (F0 m pc ls (.int y :: .int x :: rest)) := by
  subst hz
  exact lv_ishr hx hb hdg k
theorem o_ladd (hx : p.tables.exec = Jvm.exec) (hb : c.code = cc) {x y z : Int64} (hdg : decode cc pc = .ok (.ladd, 1)) (hz : x + y = z) (k : W p l e R s m args below meth c H locs cells slots Q (F0 m (pc + 1) ls (.long z :: rest))) : W p l e R s m args below meth c H locs cells slots Q (F0 m pc ls (.long y :: .long x :: rest)) := by
  subst hz
  exact lv_ladd hx hb hdg k
theorem o_lsub (hx : p.tables.exec = Jvm.exec) (hb : c.code = cc) {x y z : Int64} (hdg : decode cc pc = .ok (.lsub, 1)) (hz : x - y = z) (k : W p l e R s m args below meth c H locs cells slots Q (F0 m (pc + 1) ls (.long z :: rest))) : W p l e R s m args below meth c H locs cells slots Q (F0 m pc ls (.long y :: .long x :: rest)) := by
  subst hz
  exact lv_lsub hx hb hdg k
theorem o_lmul (hx : p.tables.exec = Jvm.exec) (hb : c.code = cc) {x y z : Int64} (hdg : decode cc pc = .ok (.lmul, 1)) (hz : x * y = z) (k : W p l e R s m args below meth c H locs cells slots Q (F0 m (pc + 1) ls (.long z :: rest))) : W p l e R s m args below meth c H locs cells slots Q (F0 m pc ls (.long y :: .long x :: rest)) := by
  subst hz
  exact lv_lmul hx hb hdg k
theorem o_idiv (hx : p.tables.exec = Jvm.exec) (hb : c.code = cc) {x y z : Int32} (hdg : decode cc pc = .ok (.idiv, 1)) (hne : ¬ y = 0) (hz : x / y = z) (k : W p l e R s m args below meth c H locs cells slots Q (F0 m (pc + 1) ls (.int z :: rest))) : W p l e R s m args below meth c H locs cells slots Q (F0 m pc ls (.int y :: .int x :: rest)) := by
  subst hz
  exact lv_idiv hx hb hdg hne k
theorem o_irem (hx : p.tables.exec = Jvm.exec) (hb : c.code = cc) {x y z : Int32} (hdg : decode cc pc = .ok (.irem, 1)) (hne : ¬ y = 0) (hz : x - x / y * y = z) (k : W p l e R s m args below meth c H locs cells slots Q (F0 m (pc + 1) ls (.int z :: rest))) : W p l e R s m args below meth c H locs cells slots Q (F0 m pc ls (.int y :: .int x :: rest)) := by
  subst hz
  exact lv_irem hx hb hdg hne k
theorem o_ldiv (hx : p.tables.exec = Jvm.exec) (hb : c.code = cc) {x y z : Int64} (hdg : decode cc pc = .ok (.ldiv, 1)) (hne : ¬ y = 0) (hz : x / y = z) (k : W p l e R s m args below meth c H locs cells slots Q (F0 m (pc + 1) ls (.long z :: rest))) : W p l e R s m args below meth c H locs cells slots Q (F0 m pc ls (.long y :: .long x :: rest)) := by
  subst hz
  exact lv_ldiv hx hb hdg hne k
theorem o_lrem (hx : p.tables.exec = Jvm.exec) (hb : c.code = cc) {x y z : Int64} (hdg : decode cc pc = .ok (.lrem, 1)) (hne : ¬ y = 0) (hz : x - x / y * y = z) (k : W p l e R s m args below meth c H locs cells slots Q (F0 m (pc + 1) ls (.long z :: rest))) : W p l e R s m args below meth c H locs cells slots Q (F0 m pc ls (.long y :: .long x :: rest)) := by
  subst hz
  exact lv_lrem hx hb hdg hne k
theorem o_iald (X : Fx p m c cc nL s args own G tys A) (h : St G n ad A s.heap w H locs) (b t0 : Nat) {a N : Nat} {cA : ClassId} {f : Nat → Int32} {i v : Int32} (hb : b < n) (ha : ad b = a) (hw : w b = .inl (cA, N, .inl f)) (ht : tys[t0]? = some (cA, .int)) (hin : vp_in i N) (hv : f i.toNatClampNeg = v) (hdg : decode cc pc = .ok (.iaload, 1))
    (kk : W p l e R s m args below meth c H locs cells slots Q (F0 m (pc + 1) ls (.int v :: rest))) : W p l e R s m args below meth c H locs cells slots Q (F0 m pc ls (.int i :: .ref a :: rest)) := by
  subst hv
  exact r_iald X h b t0 hb ha hw ht hin hdg kk
theorem o_zald (X : Fx p m c cc nL s args own G tys A) (h : St G n ad A s.heap w H locs) (b t0 : Nat) {a N : Nat} {cA : ClassId} {f : Nat → Int32} {i v : Int32} (hb : b < n) (ha : ad b = a) (hw : w b = .inl (cA, N, .inl f)) (ht : tys[t0]? = some (cA, .boolean)) (hin : vp_in i N) (hv : f i.toNatClampNeg = v) (hdg : decode cc pc = .ok (.baload, 1))
    (kk : W p l e R s m args below meth c H locs cells slots Q (F0 m (pc + 1) ls (.int v :: rest))) : W p l e R s m args below meth c H locs cells slots Q (F0 m pc ls (.int i :: .ref a :: rest)) := by
  subst hv
  exact r_zald X h b t0 hb ha hw ht hin hdg kk
theorem o_bald (X : Fx p m c cc nL s args own G tys A) (h : St G n ad A s.heap w H locs) (b t0 : Nat) {a N : Nat} {cA : ClassId} {f : Nat → Int32} {i v : Int32} (hb : b < n) (ha : ad b = a) (hw : w b = .inl (cA, N, .inl f)) (ht : tys[t0]? = some (cA, .byte)) (hin : vp_in i N) (hv : f i.toNatClampNeg = v) (hdg : decode cc pc = .ok (.baload, 1))
    (kk : W p l e R s m args below meth c H locs cells slots Q (F0 m (pc + 1) ls (.int v :: rest))) : W p l e R s m args below meth c H locs cells slots Q (F0 m pc ls (.int i :: .ref a :: rest)) := by
  subst hv
  exact r_bald X h b t0 hb ha hw ht hin hdg kk
theorem o_iast (X : Fx p m c cc nL s args own G tys A) (hD : WD A n ad) (h : St G n ad A s.heap w H locs) (b t0 : Nat) {a N : Nat} {cA : ClassId} {f f1 : Nat → Int32} {i x : Int32} (hb : b < n) (ha : ad b = a) (hw : w b = .inl (cA, N, .inl f)) (ht : tys[t0]? = some (cA, .int)) (hin : vp_in i N) (hf : upd f i.toNatClampNeg x = f1) (hdg : decode cc pc = .ok (.iastore, 1))
    (kk : ∀ (H1 : Heap) (locs1 : List Loc) (w1 : Nat → va_E), w1 = va_up w b (.inl (cA, N, .inl f1)) → St G n ad A s.heap w1 H1 locs1 → W p l e R s m args below meth c H1 locs1 cells slots Q (F0 m (pc + 1) ls rest)) : W p l e R s m args below meth c H locs cells slots Q (F0 m pc ls (.int x :: .int i :: .ref a :: rest)) := by
  subst hf
  exact r_iast X hD h b t0 hb ha hw ht hin hdg kk
theorem o_bast (X : Fx p m c cc nL s args own G tys A) (hD : WD A n ad) (h : St G n ad A s.heap w H locs) (b t0 : Nat) {a N : Nat} {cA : ClassId} {f f1 : Nat → Int32} {i x : Int32} (hb : b < n) (ha : ad b = a) (hw : w b = .inl (cA, N, .inl f)) (ht : tys[t0]? = some (cA, .byte)) (hin : vp_in i N) (hf : upd f i.toNatClampNeg (vp_nar .byte x) = f1) (hdg : decode cc pc = .ok (.bastore, 1))
    (kk : ∀ (H1 : Heap) (locs1 : List Loc) (w1 : Nat → va_E), w1 = va_up w b (.inl (cA, N, .inl f1)) → St G n ad A s.heap w1 H1 locs1 → W p l e R s m args below meth c H1 locs1 cells slots Q (F0 m (pc + 1) ls rest)) : W p l e R s m args below meth c H locs cells slots Q (F0 m pc ls (.int x :: .int i :: .ref a :: rest)) := by
  subst hf
  exact r_bast X hD h b t0 hb ha hw ht hin hdg kk
theorem o_zast (X : Fx p m c cc nL s args own G tys A) (hD : WD A n ad) (h : St G n ad A s.heap w H locs) (b t0 : Nat) {a N : Nat} {cA : ClassId} {f f1 : Nat → Int32} {i x : Int32} (hb : b < n) (ha : ad b = a) (hw : w b = .inl (cA, N, .inl f)) (ht : tys[t0]? = some (cA, .boolean)) (hin : vp_in i N) (hf : upd f i.toNatClampNeg (vp_nar .boolean x) = f1) (hdg : decode cc pc = .ok (.bastore, 1))
    (kk : ∀ (H1 : Heap) (locs1 : List Loc) (w1 : Nat → va_E), w1 = va_up w b (.inl (cA, N, .inl f1)) → St G n ad A s.heap w1 H1 locs1 → W p l e R s m args below meth c H1 locs1 cells slots Q (F0 m (pc + 1) ls rest)) : W p l e R s m args below meth c H locs cells slots Q (F0 m pc ls (.int x :: .int i :: .ref a :: rest)) := by
  subst hf
  exact r_zast X hD h b t0 hb ha hw ht hin hdg kk
/-- System.arraycopy of ints -/
theorem r_copy (X : Fx p m c cc nL s args own G tys A) (hD : WD A n ad) (h : St G n ad A s.heap w H locs) (hl : ls.size = nL) {idx : Nat} (hlk : Cond.methodLink own idx arraycopyName ∈ gtb) (hk2 : Cond.native arraycopyName ∈ gtb) (hk3 : Cond.static arraycopyName ∈ gtb) (hk4 : Cond.initialized "java/lang/System" ∈ gtb) (b0 b1 t0 : Nat) {a0 a1 n0 n1 : Nat} {cA : ClassId} {f g f1 : Nat → Int32} {sp dp k : Int32} (h0 : b0 < n) (h1 : b1 < n) (e0 : ad b0 = a0) (e1 : ad b1 = a1) (hw0 : w b0 = .inl (cA, n0, .inl f)) (hw1 : w b1 = .inl (cA, n1, .inl g)) (ht : tys[t0]? = some (cA, .int)) (g1 : ¬ sp < 0) (g2 : ¬ dp < 0) (g3 : ¬ k < 0) (g4 : sp.toNatClampNeg + k.toNatClampNeg ≤ n0) (g5 : dp.toNatClampNeg + k.toNatClampNeg ≤ n1) (hf : va_cpy f g sp.toNatClampNeg dp.toNatClampNeg k.toNatClampNeg = f1) (hR : 1 ≤ R.frames ∧ (rest.map fun v => v.category).sum + (nativeFrameWords "java/lang/System" "arraycopy" 5 + 11) ≤ R.locals) (hdg : decode cc pc = .ok (.invokestatic idx, 3))
    (kk : ∀ (H1 : Heap) (locs1 : List Loc) (w1 : Nat → va_E), w1 = va_up w b1 (.inl (cA, n1, .inl f1)) → St G n ad A s.heap w1 H1 locs1 → W p l e R s m args below meth c H1 locs1 cells slots Q (F0 m (pc + 3) ls rest)) : W p l e R s m args below meth c H locs cells slots Q (F0 m pc ls (.int k :: .int dp :: .ref a1 :: .int sp :: .ref a0 :: rest)) := by
  subst e0; subst e1; subst hf
  refine va_copyi X.1.1 X.1.2.1 (by rw [X.1.2.2.1, hl]) X.1.2.2.2.1 (X.1.2.2.2.2 _ hlk) (X.1.2.2.2.2 _ hk2) (X.1.2.2.2.2 _ hk3) (X.1.2.2.2.2 _ hk4) X.2.1 h.1 (hD.D w) h.2 b0 b1 t0 t0 (by rw [wl_get h0, hw0]) (by rw [wl_get h1, hw1]) ht ht rfl g1 g2 g3 g4 g5 (fun _ _ => rfl) hR.1 hR.2 hdg (fun H1 locs1 hP _ hS => ?_)
  rw [wl_set h1] at hP
  exact kk H1 locs1 _ rfl ⟨hP, hS⟩
end OPS
theorem kt1 : ∀ w ∈ u_ws "NoonShade$Guess" TX1 1, w ∈ lw_tbl := by decide +kernel
theorem kg1 : ∀ w ∈ u_ws "NoonShade$Guess" TX1 1, goodWord w = true := by decide +kernel
theorem kc1 : KC 0 "NoonShade$Guess" TX1 tyX1 1 := ⟨rfl, fun w h => gtb_mem (kt1 w h) (kg1 w h), tyX1_ok, nmX1⟩
theorem kt2 : ∀ w ∈ u_ws "NoonShade$Isle" TX2 14, w ∈ lw_tbl := by decide +kernel
theorem kg2 : ∀ w ∈ u_ws "NoonShade$Isle" TX2 14, goodWord w = true := by decide +kernel
theorem kc2 : KC 1 "NoonShade$Isle" TX2 tyX2 14 := ⟨rfl, fun w h => gtb_mem (kt2 w h) (kg2 w h), tyX2_ok, nmX2⟩
theorem kt4 : ∀ w ∈ u_ws "NoonShade$Past" TX4 2, w ∈ lw_tbl := by decide +kernel
theorem kg4 : ∀ w ∈ u_ws "NoonShade$Past" TX4 2, goodWord w = true := by decide +kernel
theorem kc4 : KC 2 "NoonShade$Past" TX4 tyX4 2 := ⟨rfl, fun w h => gtb_mem (kt4 w h) (kg4 w h), tyX4_ok, nmX4⟩
theorem kt5 : ∀ w ∈ u_ws "NoonShade$Plan" TX5 6, w ∈ lw_tbl := by decide +kernel
theorem kg5 : ∀ w ∈ u_ws "NoonShade$Plan" TX5 6, goodWord w = true := by decide +kernel
theorem kc5 : KC 3 "NoonShade$Plan" TX5 tyX5 6 := ⟨rfl, fun w h => gtb_mem (kt5 w h) (kg5 w h), tyX5_ok, nmX5⟩
theorem kt6 : ∀ w ∈ u_ws "NoonShade$Rows" TX6 2, w ∈ lw_tbl := by decide +kernel
theorem kg6 : ∀ w ∈ u_ws "NoonShade$Rows" TX6 2, goodWord w = true := by decide +kernel
theorem kc6 : KC 4 "NoonShade$Rows" TX6 tyX6 2 := ⟨rfl, fun w h => gtb_mem (kt6 w h) (kg6 w h), tyX6_ok, nmX6⟩
theorem kt7 : ∀ w ∈ u_ws "NoonShade$Text" TX7 7, w ∈ lw_tbl := by decide +kernel
theorem kg7 : ∀ w ∈ u_ws "NoonShade$Text" TX7 7, goodWord w = true := by decide +kernel
theorem kc7 : KC 5 "NoonShade$Text" TX7 tyX7 7 := ⟨rfl, fun w h => gtb_mem (kt7 w h) (kg7 w h), tyX7_ok, nmX7⟩
theorem kt8 : ∀ w ∈ u_ws "NoonShade" TX8 12, w ∈ lw_tbl := by decide +kernel
theorem kg8 : ∀ w ∈ u_ws "NoonShade" TX8 12, goodWord w = true := by decide +kernel
theorem kc8 : KC 6 "NoonShade" TX8 tyX8 12 := ⟨rfl, fun w h => gtb_mem (kt8 w h) (kg8 w h), tyX8_ok, nmX8⟩
theorem kt9 : ∀ w ∈ u_ws "NoonShadeModel" TX9 17, w ∈ lw_tbl := by decide +kernel
theorem kg9 : ∀ w ∈ u_ws "NoonShadeModel" TX9 17, goodWord w = true := by decide +kernel
theorem kc9 : KC 7 "NoonShadeModel" TX9 tyX9 17 := ⟨rfl, fun w h => gtb_mem (kt9 w h) (kg9 w h), tyX9_ok, nmX9⟩
