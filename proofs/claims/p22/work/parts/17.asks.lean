/-! ===== until, harmful: folds ===== -/
theorem nI_ngt {a b : Nat} (h : a ≤ b) (hb : b < 2 ^ 31) : ¬ nI a > nI b := Int32.not_lt.mpr (nI_le h hb)
def untF (F : Nat → Int32) : Nat → Nat → Int32 | 0, _ => -1 | k + 1, i => if F i = 0 then untF F k (i + 1) else nI i
theorem untF_0 {F : Nat → Int32} {i : Nat} : untF F 0 i = -1 := rfl
theorem untF_s {F : Nat → Int32} {k i : Nat} (h : F i = 0) : untF F (k + 1) i = untF F k (i + 1) := if_pos h
theorem untF_e {F : Nat → Int32} {k i : Nat} (h : ¬ F i = 0) : untF F (k + 1) i = nI i := if_neg h
/-- blocked cells of the road q after i hours over the given grids -/
def untB (stg sup : Int32) (hf gf : Nat → Int32) (wd : Int32) (sn rd ri : Nat → Int32) (lim : Int32) (q i : Nat) : Int32 := blkG (hsS stg sup hf gf wd sn i).2.1 (rfi (rd q) (ri q)) (rd q) lim 20
def harG (F : Nat → Int32) (a0 : Int32) : Nat → Int32 × Int32 | 0 => (-1, a0) | k + 1 => if F k < (harG F a0 k).2 then (nI k, F k) else harG F a0 k
theorem harG_t {F : Nat → Int32} {a0 : Int32} {k : Nat} (h : F k < (harG F a0 k).2) : harG F a0 (k + 1) = (nI k, F k) := if_pos h
theorem harG_f {F : Nat → Int32} {a0 : Int32} {k : Nat} (h : ¬ F k < (harG F a0 k).2) : harG F a0 (k + 1) = harG F a0 k := if_neg h
/-- blocked cells of all roads after 4 hours, the fence wo left out -/
def harA (fa : Nat → Int32) (nf : Nat) (stg sup wd : Int32) (sn rd ri : Nat → Int32) (lim : Int32) (nr : Nat) (wo : Int32) : Int32 := allB (hsS stg sup (hgS fa wo nf).1 (hgS fa wo nf).2 wd sn 4).2.1 rd ri lim nr
def harF (fa : Nat → Int32) (nf : Nat) (stg sup wd : Int32) (sn rd ri : Nat → Int32) (lim : Int32) (nr k : Nat) : Int32 := harA fa nf stg sup wd sn rd ri lim nr (nI k)
/-- the answer of harmful and the fewest -/
def harS (fa : Nat → Int32) (nf : Nat) (stg sup wd : Int32) (sn rd ri : Nat → Int32) (lim : Int32) (nr i : Nat) : Int32 × Int32 := harG (harF fa nf stg sup wd sn rd ri lim nr) (harA fa nf stg sup wd sn rd ri lim nr (-1)) i
