/-! ===== the law's own small words ===== -/
/-- a number below n, chosen by v -/
def bln (v : Int32) (n : Nat) : Nat := v.toBitVec.toNat % 2 ^ 31 % n
theorem bln_lt {v : Int32} {n : Nat} (h : 0 < n) : bln v n < n := Nat.mod_lt _ h
/-- a cell of the script, or a number where it has none -/
def celS (L : Nat) (xs : Nat → Int32) (k : Nat) : Int32 := if k < L then xs k else 790386105 * (nI k + 3)
