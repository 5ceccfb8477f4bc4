/-! ===== the words of the state: rows of ints read and written by a guarded index, strips, screens ===== -/
def mx (x y : Int32) : Int32 := if x < y then y else x
def mn (x y : Int32) : Int32 := if y < x then y else x
/-- read behind a guard; write behind a guard -/
def gd (f : Nat → Int32) (i : Int32) : Int32 := if ¬ i < 0 ∧ ¬ 400 ≤ i then f i.toNatClampNeg else 0
def gp (f : Nat → Int32) (i v : Int32) : Nat → Int32 := if ¬ i < 0 ∧ ¬ 400 ≤ i then upd f i.toNatClampNeg v else f
def stp (d : Int32) : Int32 := if d = 0 then 1 else 20
def cellAt (fi d : Int32) (i : Nat) : Int32 := fi + nI i * stp d
def sumG (f : Nat → Int32) (fi d : Int32) : Nat → Int32 | 0 => 0 | n + 1 => sumG f fi d n + gd f (cellAt fi d n)
def mostG (f : Nat → Int32) (fi d : Int32) : Nat → Int32 | 0 => 0 | n + 1 => mx (mostG f fi d n) (gd f (cellAt fi d n))
def blkG (f : Nat → Int32) (fi d lim : Int32) : Nat → Int32 | 0 => 0 | n + 1 => if gd f (cellAt fi d n) < lim then blkG f fi d lim n else blkG f fi d lim n + 1
def clrG (f : Nat → Int32) (fi d : Int32) : Nat → Nat → Int32 | 0 => f | n + 1 => gp (clrG f fi d n) (cellAt fi d n) 0
theorem gd_in {f : Nat → Int32} {i : Int32} (h0 : ¬ i < 0) (h : ¬ 400 ≤ i) : gd f i = f i.toNatClampNeg := if_pos ⟨h0, h⟩
theorem gd_lo {f : Nat → Int32} {i : Int32} (h0 : i < 0) : gd f i = 0 := if_neg (fun h => h.1 h0)
theorem gd_hi {f : Nat → Int32} {i : Int32} (h0 : 400 ≤ i) : gd f i = 0 := if_neg (fun h => h.2 h0)
theorem gp_in {f : Nat → Int32} {i v : Int32} (h0 : ¬ i < 0) (h : ¬ 400 ≤ i) : gp f i v = upd f i.toNatClampNeg v := if_pos ⟨h0, h⟩
theorem gp_lo {f : Nat → Int32} {i v : Int32} (h0 : i < 0) : gp f i v = f := if_neg (fun h => h.1 h0)
theorem gp_hi {f : Nat → Int32} {i v : Int32} (h0 : 400 ≤ i) : gp f i v = f := if_neg (fun h => h.2 h0)
theorem vp400 {i : Int32} (h0 : ¬ i < 0) (h : ¬ 400 ≤ i) : vp_in i 400 := by
  obtain ⟨j, hj, rfl⟩ := nI_of h0
  refine vp_in_nI ?_ (by decide)
  rcases Nat.lt_or_ge j 400 with q | q
  · exact q
  · exact absurd (show (400 : Int32) ≤ nI j from (nI_leI (a := 400) (b := j) (by decide) hj).mpr q) h
theorem stp_0 {d : Int32} (h : d = 0) : stp d = 1 := if_pos h
theorem stp_1 {d : Int32} (h : ¬ d = 0) : stp d = 20 := if_neg h
theorem gd_nI {f : Nat → Int32} {i : Nat} (h : i < 400) : gd f (nI i) = f i := by
  rw [gd_in (nI_pos (by omega)) (nI_ge (b := 400) h (by decide)), nI_clamp (by omega)]
theorem gp_nI {f : Nat → Int32} {i : Nat} {v : Int32} (h : i < 400) : gp f (nI i) v = upd f i v := by
  rw [gp_in (nI_pos (by omega)) (nI_ge (b := 400) h (by decide)), nI_clamp (by omega)]
/-- the first i places from g, the others from f -/
def cpG (f g : Nat → Int32) (i : Nat) : Nat → Int32 := fun j => if j < i then g j else f j
theorem cpG_0 {f g : Nat → Int32} : cpG f g 0 = f := by funext j; simp [cpG]
theorem cpG_upd {f g : Nat → Int32} {i : Nat} : upd (cpG f g i) i (g i) = cpG f g (i + 1) := by
  funext j
  simp only [upd, cpG]
  by_cases h : j = i
  · subst h; rw [if_pos rfl, if_pos (by omega)]
  · rw [if_neg h]
    by_cases h2 : j < i
    · rw [if_pos h2, if_pos (by omega)]
    · rw [if_neg h2, if_neg (by omega)]
theorem cpG_step {f g : Nat → Int32} {i : Nat} (h : i < 400) : gp (cpG f g i) (nI i) (gd g (nI i)) = cpG f g (i + 1) := by
  rw [gp_nI h, gd_nI h, cpG_upd]
theorem cpG_stepC {f : Nat → Int32} {c : Int32} {i : Nat} (h : i < 400) : gp (cpG f (fun _ => c) i) (nI i) c = cpG f (fun _ => c) (i + 1) := by
  rw [gp_nI h]; exact cpG_upd (g := fun _ => c)
theorem cpG_end {f g : Nat → Int32} {n j : Nat} (h : j < n) : cpG f g n j = g j := if_pos h
/-- a fence's strip put into the rows of heights and gaps -/
def scH (hf : Nat → Int32) (fi d h : Int32) : Nat → Nat → Int32 | 0 => hf | n + 1 => if h ≤ gd (scH hf fi d h n) (cellAt fi d n) then scH hf fi d h n else gp (scH hf fi d h n) (cellAt fi d n) h
def scV (hf gf : Nat → Int32) (fi d h g : Int32) : Nat → Nat → Int32 | 0 => gf | n + 1 => if h ≤ gd (scH hf fi d h n) (cellAt fi d n) then scV hf gf fi d h g n else gp (scV hf gf fi d h g n) (cellAt fi d n) g
/-- the wind by its side -/
def wdn (s : Int32) : Int32 := if s = 1 ∨ s = 3 then 1 else 0
def wfc (s : Int32) : Int32 := if s = 2 then 19 else if s = 3 then 380 else 0
def wnc (s : Int32) : Int32 := if s = 0 then 1 else if s = 1 then 20 else if s = 2 then -1 else -20
def wnl (s : Int32) : Int32 := if s = 1 ∨ s = 3 then 1 else 20
/-- a wind on its way: the snow, what it carries, the shelter, the sweep, what the shelter holds -/
abbrev PC : Type := (Nat → Int32) × Int32 × Int32 × Int32 × Int32
def dropS (there ca ho : Int32) : Int32 := mx (mn (mn ca 4) (ho - there)) 0
def pickS (stg there ca : Int32) : Int32 := mx (mn (mn there stg) (10 * stg - ca)) 0
def pcS (stg : Int32) (hf gf : Nat → Int32) (c : Int32) (x : PC) : PC :=
  if ¬ gd hf c ≤ 0 ∧ ¬ 2 * gd hf c < x.2.2.1 then (x.1, x.2.1, 2 * gd hf c, gd gf c, 10 * gd hf c)
  else if ¬ x.2.2.1 ≤ 0 ∧ x.2.2.2.1 = 0 then (gp x.1 c (gd x.1 c - -(dropS (gd x.1 c) x.2.1 x.2.2.2.2)), x.2.1 + -(dropS (gd x.1 c) x.2.1 x.2.2.2.2), mx (x.2.2.1 - 1) 0, mx (x.2.2.2.1 - 1) 0, x.2.2.2.2)
  else (gp x.1 c (gd x.1 c - pickS stg (gd x.1 c) x.2.1), x.2.1 + pickS stg (gd x.1 c) x.2.1, mx (x.2.2.1 - 1) 0, mx (x.2.2.2.1 - 1) 0, x.2.2.2.2)
theorem pcS_fence {stg : Int32} {hf gf : Nat → Int32} {c : Int32} {x : PC} (h1 : ¬ gd hf c ≤ 0) (h2 : ¬ 2 * gd hf c < x.2.2.1) : pcS stg hf gf c x = (x.1, x.2.1, 2 * gd hf c, gd gf c, 10 * gd hf c) := if_pos ⟨h1, h2⟩
theorem pcS_drop {stg : Int32} {hf gf : Nat → Int32} {c : Int32} {x : PC} (h : gd hf c ≤ 0 ∨ 2 * gd hf c < x.2.2.1) (h3 : ¬ x.2.2.1 ≤ 0) (h4 : x.2.2.2.1 = 0) : pcS stg hf gf c x = (gp x.1 c (gd x.1 c - -(dropS (gd x.1 c) x.2.1 x.2.2.2.2)), x.2.1 + -(dropS (gd x.1 c) x.2.1 x.2.2.2.2), mx (x.2.2.1 - 1) 0, mx (x.2.2.2.1 - 1) 0, x.2.2.2.2) := by
  rw [pcS, if_neg (fun q => h.elim q.1 q.2), if_pos ⟨h3, h4⟩]
theorem pcS_pick {stg : Int32} {hf gf : Nat → Int32} {c : Int32} {x : PC} (h : gd hf c ≤ 0 ∨ 2 * gd hf c < x.2.2.1) (h3 : x.2.2.1 ≤ 0 ∨ ¬ x.2.2.2.1 = 0) : pcS stg hf gf c x = (gp x.1 c (gd x.1 c - pickS stg (gd x.1 c) x.2.1), x.2.1 + pickS stg (gd x.1 c) x.2.1, mx (x.2.2.1 - 1) 0, mx (x.2.2.2.1 - 1) 0, x.2.2.2.2) := by
  rw [pcS, if_neg (fun q => h.elim q.1 q.2), if_neg (fun q => h3.elim q.1 (fun z => z q.2))]
/-- a line, from its first cell on by steps; an hour, line by line (what is carried off, then the wind on its way) -/
def plS (stg : Int32) (hf gf : Nat → Int32) (st nc : Int32) (x : PC) : Nat → PC | 0 => x | n + 1 => pcS stg hf gf (st + nI n * nc) (plS stg hf gf st nc x n)
def lnS (stg sup : Int32) (hf gf : Nat → Int32) (st nc : Int32) (x : PC) : PC := plS stg hf gf st nc (x.1, sup, 0, 0, x.2.2.2.2) 20
def cfS (stg sup : Int32) (hf gf : Nat → Int32) (fc nc nl : Int32) (x : PC) : Nat → Int32 × PC | 0 => (0, x) | n + 1 => ((cfS stg sup hf gf fc nc nl x n).1 + (lnS stg sup hf gf (fc + nI n * nl) nc (cfS stg sup hf gf fc nc nl x n).2).2.1, lnS stg sup hf gf (fc + nI n * nl) nc (cfS stg sup hf gf fc nc nl x n).2)
def boS (stg sup : Int32) (hf gf : Nat → Int32) (fc nc nl : Int32) (x : PC) : Nat → Int32 × PC | 0 => (0, x) | n + 1 => ((boS stg sup hf gf fc nc nl x n).1 + (cfS stg sup hf gf fc nc nl (boS stg sup hf gf fc nc nl x n).2 20).1, (cfS stg sup hf gf fc nc nl (boS stg sup hf gf fc nc nl x n).2 20).2)
