/-! ===== the words of the state: rows of ints read and written by a guarded index, strips, screens ===== -/
def mx (x y : Int32) : Int32 := if x < y then y else x
def mn (x y : Int32) : Int32 := if y < x then y else x
/-- read behind a guard; write behind a guard -/
def gd (f : Nat → Int32) (i : Int32) : Int32 := if ¬ i < 0 ∧ ¬ 400 ≤ i then f i.toNatClampNeg else 0
def gp (f : Nat → Int32) (i v : Int32) : Nat → Int32 := if ¬ i < 0 ∧ ¬ 400 ≤ i then upd f i.toNatClampNeg v else f
def stp (d : Int32) : Int32 := if d = 0 then 1 else 20
def cellAt (fi d : Int32) (i : Nat) : Int32 := fi + nI i * stp d
def sumG (f : Nat → Int32) (fi d : Int32) : Nat → Int32 | 0 => 0 | n + 1 => sumG f fi d n + gd f (cellAt fi d n)
def mostG (f : Nat → Int32) (fi d : Int32) : Nat → Int32 | 0 => 0 | n + 1 => mx (mostG f fi d n) (gd f (cellAt fi d n))
def blkG (f : Nat → Int32) (fi d lim : Int32) : Nat → Int32 | 0 => 0 | n + 1 => if gd f (cellAt fi d n) < lim then blkG f fi d lim n else blkG f fi d lim n + 1
def clrG (f : Nat → Int32) (fi d : Int32) : Nat → Nat → Int32 | 0 => f | n + 1 => gp (clrG f fi d n) (cellAt fi d n) 0
theorem gd_in {f : Nat → Int32} {i : Int32} (h0 : ¬ i < 0) (h : ¬ 400 ≤ i) : gd f i = f i.toNatClampNeg := if_pos ⟨h0, h⟩
theorem gd_lo {f : Nat → Int32} {i : Int32} (h0 : i < 0) : gd f i = 0 := if_neg (fun h => h.1 h0)
theorem gd_hi {f : Nat → Int32} {i : Int32} (h0 : 400 ≤ i) : gd f i = 0 := if_neg (fun h => h.2 h0)
theorem gp_in {f : Nat → Int32} {i v : Int32} (h0 : ¬ i < 0) (h : ¬ 400 ≤ i) : gp f i v = upd f i.toNatClampNeg v := if_pos ⟨h0, h⟩
theorem gp_lo {f : Nat → Int32} {i v : Int32} (h0 : i < 0) : gp f i v = f := if_neg (fun h => h.1 h0)
theorem gp_hi {f : Nat → Int32} {i v : Int32} (h0 : 400 ≤ i) : gp f i v = f := if_neg (fun h => h.2 h0)
theorem vp400 {i : Int32} (h0 : ¬ i < 0) (h : ¬ 400 ≤ i) : vp_in i 400 := by
  obtain ⟨j, hj, rfl⟩ := nI_of h0
  refine vp_in_nI ?_ (by decide)
  rcases Nat.lt_or_ge j 400 with q | q
  · exact q
  · exact absurd (show (400 : Int32) ≤ nI j from (nI_leI (a := 400) (b := j) (by decide) hj).mpr q) h
theorem stp_0 {d : Int32} (h : d = 0) : stp d = 1 := if_pos h
theorem stp_1 {d : Int32} (h : ¬ d = 0) : stp d = 20 := if_neg h
