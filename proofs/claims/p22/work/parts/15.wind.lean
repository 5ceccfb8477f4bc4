/-! ===== the operations with a wind ===== -/
theorem inR03 {w : Int32} (h : inR w 0 3) : w = 0 ∨ w = 1 ∨ w = 2 ∨ w = 3 := by
  obtain ⟨k, hk, rfl⟩ := inR_nI (n := 4) (by decide) (i := w) h
  rcases (show k = 0 ∨ k = 1 ∨ k = 2 ∨ k = 3 by omega) with rfl | rfl | rfl | rfl
  · exact Or.inl rfl
  · exact Or.inr (Or.inl rfl)
  · exact Or.inr (Or.inr (Or.inl rfl))
  · exact Or.inr (Or.inr (Or.inr rfl))
theorem inR_1n {v : Int32} {b : Nat} (hb : b < 2 ^ 30) (h : inR v 1 (nI b)) : ∃ k : Nat, 1 ≤ k ∧ k ≤ b ∧ v = nI k := by
  obtain ⟨h1, h2⟩ := h
  have h0 : ¬ v < 0 := fun q => h1 (Int32.lt_trans q (by decide))
  obtain ⟨k, hk, rfl⟩ := nI_of h0
  refine ⟨k, ?_, ?_, rfl⟩
  · rcases Nat.eq_zero_or_pos k with rfl | q
    · exact absurd (by decide) h1
    · exact q
  · rcases Nat.lt_or_ge b k with q | q
    · exact absurd (nI_lt q hk) h2
    · exact q
/-- hours of a wind over the fences that stand, all but one -/
def wdS (fa : Nat → Int32) (nf : Nat) (wo stg sup wd : Int32) (sn : Nat → Int32) (n : Nat) : Int32 × PC := hsS stg sup (hgS fa wo nf).1 (hgS fa wo nf).2 wd sn n
/-- blocked cells of a road, of all -/
def blR (sn rd ri : Nat → Int32) (lim : Int32) (q : Nat) : Int32 := blkG sn (rfi (rd q) (ri q)) (rd q) lim 20
theorem not_or_e {a b : Prop} (h1 : a) (h2 : b) : ¬ (¬ a ∨ ¬ b) := fun q => q.elim (fun z => z h1) (fun z => z h2)
theorem not_or_e3 {a b c : Prop} (h1 : a) (h2 : b) (h3 : c) : ¬ (¬ a ∨ ¬ b ∨ ¬ c) := fun q => q.elim (fun z => z h1) (not_or_e h2 h3)
