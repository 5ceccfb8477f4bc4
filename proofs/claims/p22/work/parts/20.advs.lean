/-! ===== advise: the fold ===== -/
theorem fput_2 {fa : Nat → Int32} {i : Nat} {a1 a2 a3 a4 a5 a6 co ro le dn he ga : Int32} : fput (fput fa i a1 a2 a3 a4 a5 a6) i co ro le dn he ga = fput fa i co ro le dn he ga := by
  funext j
  by_cases h : j < 6 * i ∨ 6 * i + 6 ≤ j
  · simp only [fput, if_pos h]
  · simp only [fput, if_neg h]
theorem okF_put {fa : Nat → Int32} {nf co ro le he ga : Nat} {c1 r1 l1 dn h1 g1 : Int32} (hok : ∀ j, j < nf → okF fa j) (ec : c1 = nI co) (er : r1 = nI ro) (el : l1 = nI le) (eh : h1 = nI he) (eg : g1 = nI ga)
    (q1 : 1 ≤ le) (q2 : 1 ≤ he) (q3 : he ≤ 9) (q4 : ga ≤ 3) (q5 : (dn = 0 ∧ co + le ≤ 20 ∧ ro < 20) ∨ (dn = 1 ∧ ro + le ≤ 20 ∧ co < 20)) : ∀ j, j < nf + 1 → okF (fput fa nf c1 r1 l1 dn h1 g1) j := by
  intro j hj
  rcases Nat.lt_or_ge j nf with q | q
  · have e9 : ∀ k, k < 6 → fput fa nf c1 r1 l1 dn h1 g1 (6 * j + k) = fa (6 * j + k) := fun k hk => if_pos (Or.inl (by omega))
    have w9 := hok j q
    unfold okF at w9 ⊢
    rw [e9 0 (by decide), e9 1 (by decide), e9 2 (by decide), e9 3 (by decide), e9 4 (by decide), e9 5 (by decide)]
    exact w9
  · obtain rfl : j = nf := by omega
    have e0 : fput fa j c1 r1 l1 dn h1 g1 (6 * j + 0) = c1 := by simp only [fput]; rw [if_neg (by omega), if_pos (by first | trivial | omega)]
    have e1 : fput fa j c1 r1 l1 dn h1 g1 (6 * j + 1) = r1 := by simp only [fput]; rw [if_neg (by omega), if_neg (by omega), if_pos (by first | trivial | omega)]
    have e2 : fput fa j c1 r1 l1 dn h1 g1 (6 * j + 2) = l1 := by simp only [fput]; rw [if_neg (by omega), if_neg (by omega), if_neg (by omega), if_pos (by first | trivial | omega)]
    have e3 : fput fa j c1 r1 l1 dn h1 g1 (6 * j + 3) = dn := by simp only [fput]; rw [if_neg (by omega), if_neg (by omega), if_neg (by omega), if_neg (by omega), if_pos (by first | trivial | omega)]
    have e4 : fput fa j c1 r1 l1 dn h1 g1 (6 * j + 4) = h1 := by simp only [fput]; rw [if_neg (by omega), if_neg (by omega), if_neg (by omega), if_neg (by omega), if_neg (by omega), if_pos (by first | trivial | omega)]
    have e5 : fput fa j c1 r1 l1 dn h1 g1 (6 * j + 5) = g1 := by simp only [fput]; rw [if_neg (by omega), if_neg (by omega), if_neg (by omega), if_neg (by omega), if_neg (by omega), if_neg (by omega)]
    exact ⟨co, ro, le, he, ga, e0.trans ec, e1.trans er, e2.trans el, e4.trans eh, e5.trans eg, q1, q2, q3, q4, by rw [e3]; exact q5⟩
def advG (F : Nat → Int32) : Nat → Int32 × Int32 | 0 => (-1, 0) | k + 1 => if (advG F k).1 = -1 ∨ F k < (advG F k).2 then (nI k, F k) else advG F k
theorem advG_t {F : Nat → Int32} {k : Nat} (h : (advG F k).1 = -1 ∨ F k < (advG F k).2) : advG F (k + 1) = (nI k, F k) := if_pos h
theorem advG_f {F : Nat → Int32} {k : Nat} (h : ¬ (advG F k).1 = -1) (h2 : ¬ F k < (advG F k).2) : advG F (k + 1) = advG F k := if_neg (fun q => q.elim h h2)
/-- blocked cells with one fence more, 20 long, down the column k or along the row k -/
def advF1 (fa : Nat → Int32) (nf : Nat) (he stg sup wd : Int32) (sn rd ri : Nat → Int32) (lim : Int32) (nr k : Nat) : Int32 := harA (fput fa nf (nI k) 0 20 (b01 1) he 0) (nf + 1) stg sup wd sn rd ri lim nr (-1)
def advF0 (fa : Nat → Int32) (nf : Nat) (he stg sup wd : Int32) (sn rd ri : Nat → Int32) (lim : Int32) (nr k : Nat) : Int32 := harA (fput fa nf 0 (nI k) 20 (b01 0) he 0) (nf + 1) stg sup wd sn rd ri lim nr (-1)
def advS (fa : Nat → Int32) (nf : Nat) (he stg sup wd : Int32) (sn rd ri : Nat → Int32) (lim : Int32) (nr : Nat) : Int32 := if wd - wd / 2 * 2 = 0 then (advG (advF1 fa nf he stg sup wd sn rd ri lim nr) 20).1 else (advG (advF0 fa nf he stg sup wd sn rd ri lim nr) 20).1
