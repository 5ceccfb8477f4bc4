/-! ===== the operations, in the words of the document: which exception (0: none), what is answered ===== -/
abbrev inR (v lo hi : Int32) : Prop := ¬ v < lo ∧ ¬ hi < v
def sel {α : Type} (k : Int32) (a b : α) : α := if k = 0 then a else b
theorem sel0 {α : Type} {a b : α} : sel 0 a b = a := if_pos rfl
theorem sel1 {α : Type} {a b : α} : sel 1 a b = b := if_neg (by decide)
theorem sel2 {α : Type} {a b : α} : sel 2 a b = b := if_neg (by decide)
theorem sel3 {α : Type} {a b : α} : sel 3 a b = b := if_neg (by decide)
theorem isInS_n {v lo hi : Int32} (h : isInS v lo hi = 0) : ¬ inR v lo hi := fun q => (isInS_e0 h).elim q.1 q.2
theorem isInS_y {v lo hi : Int32} (h : ¬ isInS v lo hi = 0) : inR v lo hi := isInS_e1 h
def kLim (x : Int32) : Int32 := if inR x 1 60 then 0 else 1
def kSup (x : Int32) : Int32 := if inR x 0 40 then 0 else 1
def kFall (x : Int32) : Int32 := if inR x 1 30 then 0 else 1
def kIdx (i n : Int32) : Int32 := if inR i 0 (n - 1) then 0 else 1
def kChange (i n he ga : Int32) : Int32 := if ¬ inR i 0 (n - 1) then 1 else if ¬ inR he 1 9 ∨ ¬ inR ga 0 3 then 2 else 0
def kRoad (ix n : Int32) : Int32 := if ¬ inR ix 0 19 then 1 else if n = 4 then 2 else 0
def kSnow (co ro : Int32) : Int32 := if inR co 0 19 ∧ inR ro 0 19 then 0 else 1
def kAsk (i n w hi : Int32) : Int32 := if inR i 0 (n - 1) ∧ inR w 0 hi then 0 else 1
def kCount (w : Int32) : Int32 := if inR w 0 9 then 0 else 1
def kBlow (wd stg h : Int32) : Int32 := if ¬ inR wd 0 3 then 1 else if ¬ inR stg 1 9 ∨ ¬ inR h 1 24 then 2 else 0
def kWould (wd stg h i n : Int32) : Int32 := if ¬ inR wd 0 3 ∨ ¬ inR i 0 (n - 1) then 1 else if ¬ inR stg 1 9 ∨ ¬ inR h 1 24 then 2 else 0
def kUntil (wd stg i n : Int32) : Int32 := if ¬ inR wd 0 3 ∨ ¬ inR i 0 (n - 1) then 1 else if ¬ inR stg 1 9 then 2 else 0
def kAdvise (wd stg he : Int32) : Int32 := if ¬ inR wd 0 3 then 1 else if ¬ inR stg 1 9 ∨ ¬ inR he 1 9 then 2 else 0
def kHarm (wd stg : Int32) : Int32 := if ¬ inR wd 0 3 then 1 else if ¬ inR stg 1 9 then 2 else 0
def kFence (co ro le dn he ga n : Int32) : Int32 := if ¬ inR le 1 20 ∨ ¬ inR he 1 9 ∨ ¬ inR ga 0 3 then 1 else if ¬ inR co 0 (20 - (if dn = 0 then le else 1)) ∨ ¬ inR ro 0 (20 - (if dn = 0 then 1 else le)) then 2 else if n = 10 then 3 else 0
/-- a fence's six numbers put at its place -/
def fput (fa : Nat → Int32) (i : Nat) (co ro le dn he ga : Int32) : Nat → Int32 := fun j => if j < 6 * i ∨ 6 * i + 6 ≤ j then fa j else if j = 6 * i then co else if j = 6 * i + 1 then ro else if j = 6 * i + 2 then le else if j = 6 * i + 3 then dn else if j = 6 * i + 4 then he else ga
/-- the numbers from a fence on move up -/
def ftake (fa : Nat → Int32) (w n : Nat) : Nat → Int32 := fun j => if 6 * w ≤ j ∧ j < 6 * n then fa (j + 6) else fa j
theorem inR_nI {i : Int32} {n : Nat} (hn : n < 2 ^ 30) (h : inR i 0 (nI n - 1)) : ∃ k : Nat, k < n ∧ i = nI k := by
  obtain ⟨h1, h2⟩ := h
  obtain ⟨k, hk, rfl⟩ := nI_of h1
  refine ⟨k, ?_, rfl⟩
  rcases Nat.eq_zero_or_pos n with rfl | hp
  · exact absurd (show nI 0 - 1 < nI k from by
      rw [Int32.lt_iff_toInt_lt, nI_toInt hk]
      have : (nI 0 - 1 : Int32).toInt = -1 := by decide
      omega) h2
  · obtain ⟨m, rfl⟩ : ∃ m, n = m + 1 := ⟨n - 1, by omega⟩
    rw [nI_pred] at h2
    rcases Nat.lt_or_ge k (m + 1) with q | q
    · exact q
    · exact absurd (nI_lt (show m < k by omega) hk) h2
def aboutS (fa sn : Nat → Int32) (i w : Nat) : Int32 := if w < 6 then fa (6 * i + w) else sumG sn (ffi fa i) (fa (6 * i + 3)) (fle fa i)
def toldS (sn rd ri : Nat → Int32) (lim : Int32) (i : Nat) (w : Int32) : Int32 := if w = 0 then rd i else if w = 1 then ri i else if w = 2 then blkG sn (rfi (rd i) (ri i)) (rd i) lim 20 else if w = 3 then sumG sn (rfi (rd i) (ri i)) (rd i) 20 else mostG sn (rfi (rd i) (ri i)) (rd i) 20
def sumA (sn : Nat → Int32) : Int32 := sumG sn (0 * 20 + 0) 0 400
def mostA (sn : Nat → Int32) : Int32 := mostG sn (0 * 20 + 0) 0 400
def countS (nf nr lim sup off plo hrs : Int32) (sn rd ri : Nat → Int32) (n : Nat) (w : Int32) : Int32 := if w = 0 then nf else if w = 1 then nr else if w = 2 then sumA sn else if w = 3 then mostA sn else if w = 4 then allB sn rd ri lim n else if w = 5 then off else if w = 6 then plo else if w = 7 then hrs else if w = 8 then lim else sup
def b01 (d : Int32) : Int32 := if d = 0 then 0 else 1
theorem b01_0 {d : Int32} (h : d = 0) : b01 d = 0 := if_pos h
theorem b01_1 {d : Int32} (h : ¬ d = 0) : b01 d = 1 := if_neg h
def allS (b : Int32) (sn : Nat → Int32) : Int32 := if b = 0 then sumA sn else mostA sn
theorem six_clamp {i : Nat} (h : i ≤ 10) : ((6 : Int32) * nI i).toNatClampNeg = 6 * i := by
  have e := of_ix i 0
  rw [show nI 0 = (0 : Int32) from nI_0, Int32.add_zero] at e
  rw [e, nI_clamp (by omega)]
  omega
theorem setUp_cpy {fa : Nat → Int32} {i : Nat} {co ro le dn he ga : Int32} (j : Nat) : va_cpy (upd (upd (upd (upd (upd (upd (fun _ => 0) 0 co) 1 ro) 2 le) 3 dn) 4 he) 5 ga) fa 0 (6 * i) 6 j = fput fa i co ro le dn he ga j := by
  by_cases h : j < 6 * i ∨ 6 * i + 6 ≤ j
  · rw [pk_cpy_out h, fput, if_pos h]
  · have h1 : 6 * i ≤ j := by omega
    have h2 : j < 6 * i + 6 := by omega
    rw [pk_cpy_in h1 h2, fput, if_neg h]
    obtain ⟨z, hz, rfl⟩ : ∃ z, z < 6 ∧ j = 6 * i + z := ⟨j - 6 * i, by omega, by omega⟩
    rw [show 0 + (6 * i + z - 6 * i) = z from by omega]
    rcases (show z = 0 ∨ z = 1 ∨ z = 2 ∨ z = 3 ∨ z = 4 ∨ z = 5 by omega) with rfl | rfl | rfl | rfl | rfl | rfl <;> simp [upd]
def tkS (fa : Nat → Int32) (w i : Nat) : Nat → Int32 := fun j => if 6 * w ≤ j ∧ j < 6 * w + i then fa (j + 6) else fa j
theorem tkS_0 {fa : Nat → Int32} {w : Nat} : tkS fa w 0 = fa := by
  funext j
  exact if_neg (by omega)
theorem tkS_step {fa : Nat → Int32} {w i : Nat} : upd (tkS fa w i) (6 * w + i) (tkS fa w i (6 * w + i + 6)) = tkS fa w (i + 1) := by
  funext j
  simp only [upd, tkS]
  by_cases h : j = 6 * w + i
  · subst h
    rw [if_pos rfl, if_neg (by omega), if_pos (by omega)]
  · rw [if_neg h]
    by_cases h2 : 6 * w ≤ j ∧ j < 6 * w + i
    · rw [if_pos h2, if_pos (by omega)]
    · rw [if_neg h2, if_neg (by omega)]
theorem tkS_end {fa : Nat → Int32} {w n : Nat} (h : w ≤ n) : tkS fa w (6 * n - 6 * w) = ftake fa w n := by
  funext j
  simp only [tkS, ftake]
  by_cases h2 : 6 * w ≤ j ∧ j < 6 * n
  · rw [if_pos h2, if_pos (by omega)]
  · rw [if_neg h2, if_neg (by omega)]
def fallS (sn : Nat → Int32) (many : Int32) (n : Nat) : Nat → Int32 := fun j => if j < n then sn j + mn many (200 - sn j) else sn j
def moreS (sn : Nat → Int32) (many : Int32) : Nat → Int32 | 0 => 0 | n + 1 => moreS sn many n + mn many (200 - sn n)
theorem fallS_0 {sn : Nat → Int32} {many : Int32} : fallS sn many 0 = sn := by
  funext j
  exact if_neg (by omega)
theorem fallS_at {sn : Nat → Int32} {many : Int32} {n : Nat} : fallS sn many n n = sn n := if_neg (by omega)
theorem fallS_step {sn : Nat → Int32} {many : Int32} {n : Nat} : upd (fallS sn many n) n (sn n + mn many (200 - sn n)) = fallS sn many (n + 1) := by
  funext j
  simp only [upd, fallS]
  by_cases h : j = n
  · subst h
    rw [if_pos rfl, if_pos (by omega)]
  · rw [if_neg h]
    by_cases h2 : j < n
    · rw [if_pos h2, if_pos (by omega)]
    · rw [if_neg h2, if_neg (by omega)]
theorem nI_sub1 {n : Nat} (h : 0 < n) : nI n - 1 = nI (n - 1) := pk_sub (a := n) (b := 1) h
theorem nI_6 (n : Nat) : (6 : Int32) * nI n = nI (6 * n) := by
  rw [show (6 : Int32) = nI 6 from rfl, pk_mul]
theorem nI_20 (a b : Nat) : (20 : Int32) * nI a + nI b = nI (20 * a + b) := by
  rw [show (20 : Int32) = nI 20 from rfl, pk_mul, nI_add]
