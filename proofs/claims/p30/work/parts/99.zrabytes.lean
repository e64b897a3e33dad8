/-! ===== the text's bytes on both sides ===== -/
theorem byte7 : ∀ n, n < 128 → (nI n).toInt8.toInt32 = nI n := by decide +kernel
theorem byteS {x : Int32} (h0 : 0 ≤ x.toInt) (h1 : x.toInt ≤ 127) : x.toInt8.toInt32 = x := by
  have c := cl_of h0
  have e : x = nI x.toNatClampNeg := (fa_eq _ _).mpr (by rw [nI_toInt (by omega)]; omega)
  rw [e]
  exact byte7 _ (by omega)
theorem byteV {x : Int32} (h0 : 0 ≤ x.toInt) (h1 : x.toInt ≤ 127) : vp_nar .byte x = x := (vp_nar_byte x).trans (byteS h0 h1)
