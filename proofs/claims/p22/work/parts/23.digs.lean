/-! ===== digest: folds ===== -/
def dgF (F : Nat → Int32) (h0 : Int64) : Nat → Int64 | 0 => h0 | k + 1 => dgF F h0 k * 31 + (F k).toInt64
def dg2 (F : Nat → Nat → Int32) (n : Nat) (h0 : Int64) : Nat → Int64 | 0 => h0 | k + 1 => dgF (F k) (dg2 F n h0 k) n
def dgC (nf nr : Nat) (lim sup off plo hrs : Int32) (sn rd ri : Nat → Int32) (k : Nat) : Int32 := countS (nI nf) (nI nr) lim sup off plo hrs sn rd ri nr (nI k)
def dgR (sn rd ri : Nat → Int32) (lim : Int32) (q u : Nat) : Int32 := toldS sn rd ri lim q (nI u)
