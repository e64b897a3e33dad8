theorem layCF_0 {f : Nat → Int32} {k h t : Int32} : layCF f k h t 0 = f 0 + 1 := pk_us
theorem layJF_1 {f : Nat → Int32} {k : Int32} : layJF f k 1 = f 1 + 1 := pk_us
