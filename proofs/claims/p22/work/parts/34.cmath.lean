/-! ===== the class's own words: fall, advise; counts are small numbers ===== -/
def fallC (sn : Nat → Int32) (many : Int32) (n : Nat) : Nat → Int32 := fun j => if j < n then mn (sn j + many) 200 else sn j
theorem fallC_0 {sn : Nat → Int32} {many : Int32} : fallC sn many 0 = sn := by
  funext j
  exact if_neg (by omega)
theorem fallC_step {sn : Nat → Int32} {many : Int32} {n : Nat} (h : n < 400) : gp (fallC sn many n) (nI n) (mn (gd (fallC sn many n) (nI n) + many) 200) = fallC sn many (n + 1) := by
  rw [gp_nI h, gd_nI h]
  funext j
  simp only [upd, fallC]
  by_cases q : j = n
  · subst q
    rw [if_pos rfl, if_neg (by omega), if_pos (by omega)]
  · rw [if_neg q]
    by_cases q2 : j < n
    · rw [if_pos q2, if_pos (by omega)]
    · rw [if_neg q2, if_neg (by omega)]
theorem blk_nn {f : Nat → Int32} {fi d lim : Int32} : ∀ n : Nat, ∃ k : Nat, k ≤ n ∧ blkG f fi d lim n = nI k
  | 0 => ⟨0, Nat.le_refl _, rfl⟩
  | n + 1 => by
    obtain ⟨k, h1, h2⟩ := blk_nn (f := f) (fi := fi) (d := d) (lim := lim) n
    by_cases q : gd f (cellAt fi d n) < lim
    · exact ⟨k, by omega, (if_pos q).trans h2⟩
    · exact ⟨k + 1, by omega, (if_neg q).trans (by rw [h2]; exact nI_1 k)⟩
theorem allB_nn {sn rd ri : Nat → Int32} {lim : Int32} : ∀ n : Nat, ∃ k : Nat, k ≤ 20 * n ∧ allB sn rd ri lim n = nI k
  | 0 => ⟨0, Nat.le_refl _, rfl⟩
  | n + 1 => by
    obtain ⟨k, h1, h2⟩ := allB_nn (sn := sn) (rd := rd) (ri := ri) (lim := lim) n
    obtain ⟨j, h3, h4⟩ := blk_nn (f := sn) (fi := rfi (rd n) (ri n)) (d := rd n) (lim := lim) 20
    exact ⟨k + j, by omega, by show allB sn rd ri lim n + blkG sn (rfi (rd n) (ri n)) (rd n) lim 20 = _; rw [h2, h4, nI_add]⟩
theorem blk_le0 {f : Nat → Int32} {fi d lim : Int32} (h : blkG f fi d lim 20 ≤ 0) : blkG f fi d lim 20 = 0 := by
  obtain ⟨k, h1, h2⟩ := blk_nn (f := f) (fi := fi) (d := d) (lim := lim) 20
  rw [h2] at h ⊢
  rcases Nat.eq_zero_or_pos k with rfl | q
  · rfl
  · exact absurd h (nI_nle (by omega) (by omega))
theorem blk_ne0 {f : Nat → Int32} {fi d lim : Int32} (h : ¬ blkG f fi d lim 20 ≤ 0) : ¬ blkG f fi d lim 20 = 0 := fun q => h (by rw [q]; decide)
theorem inR_mk {i n : Nat} (h : i < n) (hn : n < 2 ^ 30) : inR (nI i) 0 (nI n - 1) := ⟨nI_pos (by omega), by rw [nI_sub1 (by omega)]; exact Int32.not_lt.mpr (nI_le (by omega) (by omega))⟩
def advC (F : Nat → Int32) : Nat → Int32 × Int32 | 0 => (0, 81) | k + 1 => if F k < (advC F k).2 then (nI k, F k) else advC F k
theorem advC_t {F : Nat → Int32} {k : Nat} (h : F k < (advC F k).2) : advC F (k + 1) = (nI k, F k) := if_pos h
theorem advC_f {F : Nat → Int32} {k : Nat} (h : ¬ F k < (advC F k).2) : advC F (k + 1) = advC F k := if_neg h
/-- blocked cells of all roads after 4 hours, with one strip more, of no gap -/
def advK (d : Int32) (fa : Nat → Int32) (nf : Nat) (he stg sup wd : Int32) (sn rd ri : Nat → Int32) (lim : Int32) (nr k : Nat) : Int32 := allB (hsS stg sup (scH (hgS fa (-1) nf).1 (rfi d (nI k)) d he 20) (scV (hgS fa (-1) nf).1 (hgS fa (-1) nf).2 (rfi d (nI k)) d he 0 20) wd sn 4).2.1 rd ri lim nr
theorem w6_of {w : Int32} (h : inR w 0 (nI 7 - 1)) (h0 : ¬ w = 0) (h1 : ¬ w = 1) (h2 : ¬ w = 2) (h3 : ¬ w = 3) (h4 : ¬ w = 4) (h5 : ¬ w = 5) : w = 6 := by
  obtain ⟨k, hk, rfl⟩ := inR_nI (n := 7) (by decide) h
  rcases (show k = 0 ∨ k = 1 ∨ k = 2 ∨ k = 3 ∨ k = 4 ∨ k = 5 ∨ k = 6 by omega) with rfl | rfl | rfl | rfl | rfl | rfl | rfl
  · exact absurd rfl h0
  · exact absurd rfl h1
  · exact absurd rfl h2
  · exact absurd rfl h3
  · exact absurd rfl h4
  · exact absurd rfl h5
  · rfl
theorem is01_0 {x : Int32} (h : is01 x) (h0 : x = 0) : (0 : Int32) = x := h0.symm
theorem is01_1 {x : Int32} (h : is01 x) (h0 : ¬ x = 0) : (1 : Int32) = x := (h.elim (fun q => absurd q h0) (fun q => q)).symm
/-! the wind once more; an index's code; a fence's code -/
theorem boS_1 {stg sup : Int32} {hf gf : Nat → Int32} {a b d : Int32} {x : PC} : (boS stg sup hf gf a b d x 1).2 = (cfS stg sup hf gf a b d x 20).2 := by
  rw [show (1 : Nat) = 0 + 1 from rfl, boS, boS]
theorem hsS_s {stg sup : Int32} {hf gf sn : Nat → Int32} {wd : Int32} {i : Nat} : (hsS stg sup hf gf wd sn (i + 1)).2 = (boS stg sup hf gf (wfc wd) (wnc wd) (wnl wd) (hsS stg sup hf gf wd sn i).2 1).2 := by
  rw [boS_1]
  unfold hsS
  rw [boS]
theorem harA_of {fa : Nat → Int32} {nf : Nat} {stg sup wd : Int32} {sn rd ri : Nat → Int32} {lim : Int32} {nr : Nat} {wo ca sh sw ho : Int32} : allB (boS stg sup (hgS fa wo nf).1 (hgS fa wo nf).2 (wfc wd) (wnc wd) (wnl wd) (sn, ca, sh, sw, ho) 4).2.1 rd ri lim nr = harA fa nf stg sup wd sn rd ri lim nr wo := by
  unfold harA hsS
  rw [(boS_same (x := (sn, ca, sh, sw, ho)) (y := hrX sn) rfl 4).2]
theorem advK_of {d : Int32} {fa : Nat → Int32} {nf : Nat} {he stg sup wd : Int32} {sn rd ri : Nat → Int32} {lim : Int32} {nr k : Nat} {ca sh sw ho : Int32} : allB (boS stg sup (scH (hgS fa (-1) nf).1 (rfi d (nI k)) d he 20) (scV (hgS fa (-1) nf).1 (hgS fa (-1) nf).2 (rfi d (nI k)) d he 0 20) (wfc wd) (wnc wd) (wnl wd) (sn, ca, sh, sw, ho) 4).2.1 rd ri lim nr = advK d fa nf he stg sup wd sn rd ri lim nr k := by
  unfold advK hsS
  rw [(boS_same (x := (sn, ca, sh, sw, ho)) (y := hrX sn) rfl 4).2]
def advD (wd : Int32) : Int32 := if wdn wd = 0 then 1 else 0
theorem inR_0n {v : Int32} {b : Nat} (hb : b < 2 ^ 30) (h : inR v 0 (nI b)) : ∃ k : Nat, k ≤ b ∧ v = nI k := by
  obtain ⟨k, hk, rfl⟩ := nI_of h.1
  refine ⟨k, ?_, rfl⟩
  rcases Nat.lt_or_ge b k with q | q
  · exact absurd (nI_lt q hk) h.2
  · exact q
theorem inR_0m {k b : Nat} (hk : k ≤ b) (hb : b < 2 ^ 30) : inR (nI k) 0 (nI b) := ⟨nI_pos (by omega), Int32.not_lt.mpr (nI_le hk (by omega))⟩
theorem fcore {a : Int32} {l : Nat} (h1 : 1 ≤ l) (h2 : l ≤ 20) : inR a 0 (20 - nI l) ↔ (inR a 0 19 ∧ inR (a + nI l - 1) 0 19) := by
  rw [show (20 : Int32) - nI l = nI (20 - l) from pk_sub (a := 20) (b := l) h2]
  constructor
  · intro h
    obtain ⟨k, hk, rfl⟩ := inR_0n (by omega) h
    refine ⟨inR_0m (b := 19) (by omega) (by decide), ?_⟩
    rw [nI_add, nI_sub1 (by omega)]
    exact inR_0m (b := 19) (by omega) (by decide)
  · intro ⟨h, h3⟩
    obtain ⟨k, hk, rfl⟩ := inR_0n (b := 19) (by decide) h
    rw [nI_add, nI_sub1 (by omega)] at h3
    refine inR_0m ?_ (by omega)
    rcases Nat.lt_or_ge 19 (k + l - 1) with q | q
    · exact absurd (nI_lt (a := 19) q (by omega)) h3.2
    · omega
theorem f19 {a : Int32} : inR a 0 (20 - 1) ↔ inR a 0 19 := Iff.rfl
theorem kF1 {co ro le dn he ga n : Int32} (h : ¬ inR le 1 20 ∨ ¬ inR he 1 9 ∨ ¬ inR ga 0 3) : kFence co ro le dn he ga n = 1 := if_pos h
theorem kF2 {co ro le dn he ga n : Int32} (h1 : inR le 1 20) (h2 : inR he 1 9) (h3 : inR ga 0 3) (h : ¬ inR co 0 19 ∨ ¬ inR ro 0 19 ∨ (dn = 0 ∧ ¬ inR (co + le - 1) 0 19) ∨ (¬ dn = 0 ∧ ¬ inR (ro + le - 1) 0 19)) : kFence co ro le dn he ga n = 2 := by
  obtain ⟨l, hl1, hl2, rfl⟩ := inR_1n (b := 20) (by decide) h1
  refine (if_neg (not_or_e3 h1 h2 h3)).trans (if_pos ?_)
  by_cases hd : dn = 0
  · rw [if_pos hd, if_pos hd, fcore hl1 hl2, f19]
    rcases h with h | h | h | h
    · exact Or.inl (fun q => h q.1)
    · exact Or.inr h
    · exact Or.inl (fun q => h.2 q.2)
    · exact absurd hd h.1
  · rw [if_neg hd, if_neg hd, fcore hl1 hl2, f19]
    rcases h with h | h | h | h
    · exact Or.inl h
    · exact Or.inr (fun q => h q.1)
    · exact absurd h.1 hd
    · exact Or.inr (fun q => h.2 q.2)
theorem kF0 {co ro le dn he ga n : Int32} (h1 : inR le 1 20) (h2 : inR he 1 9) (h3 : inR ga 0 3) (h4 : inR co 0 19) (h5 : inR ro 0 19) (h : (dn = 0 ∧ inR (co + le - 1) 0 19) ∨ (¬ dn = 0 ∧ inR (ro + le - 1) 0 19)) : kFence co ro le dn he ga n = if n = 10 then 3 else 0 := by
  obtain ⟨l, hl1, hl2, rfl⟩ := inR_1n (b := 20) (by decide) h1
  refine (if_neg (not_or_e3 h1 h2 h3)).trans (if_neg ?_)
  by_cases hd : dn = 0
  · rw [if_pos hd, if_pos hd, fcore hl1 hl2, f19]
    exact not_or_e ⟨h4, h.elim (fun q => q.2) (fun q => absurd hd q.1)⟩ h5
  · rw [if_neg hd, if_neg hd, fcore hl1 hl2, f19]
    exact not_or_e h4 ⟨h5, h.elim (fun q => absurd q.1 hd) (fun q => q.2)⟩
theorem n10_of {n : Nat} (h : n ≤ 10) (h2 : ¬ nI n < 10) : nI n = (10 : Int32) := by
  rcases Nat.lt_or_ge n 10 with q | q
  · exact absurd (nI_lt (b := 10) q (by decide)) h2
  · rw [show n = 10 by omega]; rfl
theorem n10_lt {n : Nat} (h : n ≤ 10) (h2 : nI n < 10) : n < 10 := Nat.lt_of_not_le (fun q => absurd h2 (Int32.not_lt.mpr (nI_le (a := 10) q (by omega))))
theorem n10_ne {n : Nat} (h2 : nI n < 10) : ¬ nI n = (10 : Int32) := fun q => absurd h2 (by rw [q]; decide)
theorem n4_of {n : Nat} (h : n ≤ 4) (h2 : ¬ nI n < 4) : nI n = (4 : Int32) := by
  rcases Nat.lt_or_ge n 4 with q | q
  · exact absurd (nI_lt (b := 4) q (by decide)) h2
  · rw [show n = 4 by omega]; rfl
theorem n4_lt {n : Nat} (h : n ≤ 4) (h2 : nI n < 4) : n < 4 := Nat.lt_of_not_le (fun q => absurd h2 (Int32.not_lt.mpr (nI_le (a := 4) q (by omega))))
theorem n4_ne {n : Nat} (h2 : nI n < 4) : ¬ nI n = (4 : Int32) := fun q => absurd h2 (by rw [q]; decide)
