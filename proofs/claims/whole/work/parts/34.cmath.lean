/-! ===== the class's own words: fall, advise; counts are small numbers ===== -/
def fallC (sn : Nat → Int32) (many : Int32) (n : Nat) : Nat → Int32 := fun j => if j < n then mn (sn j + many) 200 else sn j
theorem fallC_0 {sn : Nat → Int32} {many : Int32} : fallC sn many 0 = sn := by
  funext j
  exact if_neg (by omega)
theorem fallC_step {sn : Nat → Int32} {many : Int32} {n : Nat} (h : n < 400) : gp (fallC sn many n) (nI n) (mn (gd (fallC sn many n) (nI n) + many) 200) = fallC sn many (n + 1) := by
  rw [gp_nI h, gd_nI h]
  funext j
  simp only [upd, fallC]
  by_cases q : j = n
  · subst q
    rw [if_pos rfl, if_neg (by omega), if_pos (by omega)]
  · rw [if_neg q]
    by_cases q2 : j < n
    · rw [if_pos q2, if_pos (by omega)]
    · rw [if_neg q2, if_neg (by omega)]
theorem blk_nn {f : Nat → Int32} {fi d lim : Int32} : ∀ n : Nat, ∃ k : Nat, k ≤ n ∧ blkG f fi d lim n = nI k
  | 0 => ⟨0, Nat.le_refl _, rfl⟩
  | n + 1 => by
    obtain ⟨k, h1, h2⟩ := blk_nn (f := f) (fi := fi) (d := d) (lim := lim) n
    by_cases q : gd f (cellAt fi d n) < lim
    · exact ⟨k, by omega, (if_pos q).trans h2⟩
    · exact ⟨k + 1, by omega, (if_neg q).trans (by rw [h2]; exact nI_1 k)⟩
theorem allB_nn {sn rd ri : Nat → Int32} {lim : Int32} : ∀ n : Nat, ∃ k : Nat, k ≤ 20 * n ∧ allB sn rd ri lim n = nI k
  | 0 => ⟨0, Nat.le_refl _, rfl⟩
  | n + 1 => by
    obtain ⟨k, h1, h2⟩ := allB_nn (sn := sn) (rd := rd) (ri := ri) (lim := lim) n
    obtain ⟨j, h3, h4⟩ := blk_nn (f := sn) (fi := rfi (rd n) (ri n)) (d := rd n) (lim := lim) 20
    exact ⟨k + j, by omega, by show allB sn rd ri lim n + blkG sn (rfi (rd n) (ri n)) (rd n) lim 20 = _; rw [h2, h4, nI_add]⟩
theorem blk_le0 {f : Nat → Int32} {fi d lim : Int32} (h : blkG f fi d lim 20 ≤ 0) : blkG f fi d lim 20 = 0 := by
  obtain ⟨k, h1, h2⟩ := blk_nn (f := f) (fi := fi) (d := d) (lim := lim) 20
  rw [h2] at h ⊢
  rcases Nat.eq_zero_or_pos k with rfl | q
  · rfl
  · exact absurd h (nI_nle (by omega) (by omega))
theorem blk_ne0 {f : Nat → Int32} {fi d lim : Int32} (h : ¬ blkG f fi d lim 20 ≤ 0) : ¬ blkG f fi d lim 20 = 0 := fun q => h (by rw [q]; decide)
theorem inR_mk {i n : Nat} (h : i < n) (hn : n < 2 ^ 30) : inR (nI i) 0 (nI n - 1) := ⟨nI_pos (by omega), by rw [nI_sub1 (by omega)]; exact Int32.not_lt.mpr (nI_le (by omega) (by omega))⟩
def advC (F : Nat → Int32) : Nat → Int32 × Int32 | 0 => (0, 81) | k + 1 => if F k < (advC F k).2 then (nI k, F k) else advC F k
theorem advC_t {F : Nat → Int32} {k : Nat} (h : F k < (advC F k).2) : advC F (k + 1) = (nI k, F k) := if_pos h
theorem advC_f {F : Nat → Int32} {k : Nat} (h : ¬ F k < (advC F k).2) : advC F (k + 1) = advC F k := if_neg h
/-- blocked cells of all roads after 4 hours, with one strip more, of no gap -/
def advK (d : Int32) (fa : Nat → Int32) (nf : Nat) (he stg sup wd : Int32) (sn rd ri : Nat → Int32) (lim : Int32) (nr k : Nat) : Int32 := allB (hsS stg sup (scH (hgS fa (-1) nf).1 (rfi d (nI k)) d he 20) (scV (hgS fa (-1) nf).1 (hgS fa (-1) nf).2 (rfi d (nI k)) d he 0 20) wd sn 4).2.1 rd ri lim nr
theorem w6_of {w : Int32} (h : inR w 0 (nI 7 - 1)) (h0 : ¬ w = 0) (h1 : ¬ w = 1) (h2 : ¬ w = 2) (h3 : ¬ w = 3) (h4 : ¬ w = 4) (h5 : ¬ w = 5) : w = 6 := by
  obtain ⟨k, hk, rfl⟩ := inR_nI (n := 7) (by decide) h
  rcases (show k = 0 ∨ k = 1 ∨ k = 2 ∨ k = 3 ∨ k = 4 ∨ k = 5 ∨ k = 6 by omega) with rfl | rfl | rfl | rfl | rfl | rfl | rfl
  · exact absurd rfl h0
  · exact absurd rfl h1
  · exact absurd rfl h2
  · exact absurd rfl h3
  · exact absurd rfl h4
  · exact absurd rfl h5
  · rfl
theorem is01_0 {x : Int32} (h : is01 x) (h0 : x = 0) : (0 : Int32) = x := h0.symm
theorem is01_1 {x : Int32} (h : is01 x) (h0 : ¬ x = 0) : (1 : Int32) = x := (h.elim (fun q => absurd q h0) (fun q => q)).symm
