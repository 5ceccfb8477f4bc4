/-! columns first: the same sum, the same most -/
def colC (n : Nat) : Nat := 20 * (n % 20) + n / 20
theorem colC_lt {n : Nat} (h : n < 400) : colC n < 400 := by unfold colC; omega
theorem colC_2 {n : Nat} (h : n < 400) : colC (colC n) = n := by unfold colC; omega
theorem colC_at {c r : Nat} (hr : r < 20) : colC (20 * c + r) = 20 * r + c := by unfold colC; omega
theorem sumN_add {f g : Nat → Int32} : ∀ n : Nat, sumN (fun i => f i + g i) n = sumN f n + sumN g n
  | 0 => (show (0 : Int32) = 0 + 0 by decide)
  | n + 1 => by
    show sumN (fun i => f i + g i) n + (f n + g n) = sumN f n + f n + (sumN g n + g n)
    rw [sumN_add n]
    grind
theorem sumN_0 : ∀ n : Nat, sumN (fun _ => 0) n = 0
  | 0 => rfl
  | n + 1 => by
    show sumN (fun _ => 0) n + 0 = 0
    rw [sumN_0 n]
    decide
theorem sumN_swap {h : Nat → Nat → Int32} {n : Nat} : ∀ m : Nat, sumN (fun i => sumN (h i) n) m = sumN (fun j => sumN (fun i => h i j) m) n
  | 0 => (sumN_0 n).symm
  | m + 1 => by
    show sumN (fun i => sumN (h i) n) m + sumN (h m) n = sumN (fun j => sumN (fun i => h i j) m + h m j) n
    rw [sumN_add, sumN_swap m]
theorem sumN_cat {f : Nat → Int32} {a : Nat} : ∀ b : Nat, sumN f (a + b) = sumN f a + sumN (fun j => f (a + j)) b
  | 0 => (Int32.add_zero _).symm
  | b + 1 => by
    show sumN f (a + b) + f (a + b) = sumN f a + (sumN (fun j => f (a + j)) b + f (a + b))
    rw [sumN_cat b]
    grind
theorem sumN_rows {f : Nat → Int32} : ∀ m : Nat, sumN f (20 * m) = sumN (fun i => sumN (fun j => f (20 * i + j)) 20) m
  | 0 => rfl
  | m + 1 => by
    rw [show 20 * (m + 1) = 20 * m + 20 by omega, sumN_cat, sumN_rows m]
    rfl
theorem sumN_congr {f g : Nat → Int32} : ∀ n : Nat, (∀ j, j < n → f j = g j) → sumN f n = sumN g n
  | 0, _ => rfl
  | n + 1, h => by
    show sumN f n + f n = sumN g n + g n
    rw [sumN_congr n (fun j hj => h j (by omega)), h n (Nat.lt_succ_self _)]
theorem sum_col {sn : Nat → Int32} : sumN (fun n => sn (colC n)) 400 = sumA sn := by
  have e1 := sumN_rows (f := fun n => sn (colC n)) 20
  have e2 := sumN_rows (f := sn) 20
  have e3 := sumN_swap (h := fun i j => sn (20 * i + j)) (n := 20) 20
  rw [sumA_N, show (400 : Nat) = 20 * 20 from rfl, e1, e2, e3]
  exact sumN_congr 20 (fun i hi => sumN_congr 20 (fun j hj => congrArg sn (colC_at hj)))
/-- the greatest of the first n numbers, or 0 -/
def mostN (f : Nat → Int32) : Nat → Int32 | 0 => 0 | n + 1 => mx (mostN f n) (f n)
theorem mostG_N {f : Nat → Int32} : ∀ n : Nat, n ≤ 400 → mostG f (0 * 20 + 0) 0 n = mostN f n
  | 0, _ => rfl
  | n + 1, h => by
    show mx (mostG f (0 * 20 + 0) 0 n) (gd f (cellAt (0 * 20 + 0) 0 n)) = mx (mostN f n) (f n)
    rw [mostG_N n (by omega), cellAt_whole, gd_nI (by omega)]
theorem mostA_N {f : Nat → Int32} : mostA f = mostN f 400 := mostG_N 400 (Nat.le_refl _)
theorem mostN_ub {f : Nat → Int32} : ∀ n : Nat, 0 ≤ (mostN f n).toInt ∧ ∀ j, j < n → (f j).toInt ≤ (mostN f n).toInt
  | 0 => ⟨by show 0 ≤ (0 : Int32).toInt; decide, fun j hj => absurd hj (Nat.not_lt_zero _)⟩
  | n + 1 => by
    obtain ⟨h1, h2⟩ := mostN_ub (f := f) n
    have e : (mostN f (n + 1)).toInt = if (mostN f n).toInt < (f n).toInt then (f n).toInt else (mostN f n).toInt := mx_I _ _
    rw [e]
    refine ⟨by split <;> omega, fun j hj => ?_⟩
    rcases Nat.lt_or_ge j n with q | q
    · have := h2 j q
      split <;> omega
    · obtain rfl : j = n := by omega
      split <;> omega
theorem mostN_lub {f : Nat → Int32} {t : Int} (h0 : 0 ≤ t) : ∀ n : Nat, (∀ j, j < n → (f j).toInt ≤ t) → (mostN f n).toInt ≤ t
  | 0, _ => by show (0 : Int32).toInt ≤ t; exact h0
  | n + 1, h => by
    have h1 := mostN_lub h0 n (fun j hj => h j (by omega))
    have h2 := h n (Nat.lt_succ_self _)
    have e : (mostN f (n + 1)).toInt = if (mostN f n).toInt < (f n).toInt then (f n).toInt else (mostN f n).toInt := mx_I _ _
    rw [e]
    split <;> omega
theorem most_col {sn : Nat → Int32} : mostN (fun n => sn (colC n)) 400 = mostA sn := by
  rw [mostA_N]
  obtain ⟨a0, a1⟩ := mostN_ub (f := sn) 400
  obtain ⟨b0, b1⟩ := mostN_ub (f := fun n => sn (colC n)) 400
  refine Int32.toInt_inj.mp (Int.le_antisymm (mostN_lub a0 400 (fun j hj => a1 _ (colC_lt hj))) (mostN_lub b0 400 (fun j hj => ?_)))
  have h := b1 (colC j) (colC_lt hj)
  rw [colC_2 hj] at h
  exact h
/-! roads -/
theorem gd_most {f : Nat → Int32} (c : Int32) : (gd f c).toInt ≤ (mostA f).toInt := by
  obtain ⟨h0, h1⟩ := mostN_ub (f := f) 400
  rw [← mostA_N] at h0 h1
  by_cases q1 : c < 0
  · rw [gd_lo q1]; exact h0
  · by_cases q2 : 400 ≤ c
    · rw [gd_hi q2]; exact h0
    · obtain ⟨j, hj, rfl⟩ := vp_in_of (vp400 q1 q2) (by decide)
      rw [gd_nI hj]; exact h1 j hj
theorem mostG_le {f : Nat → Int32} {fi d : Int32} : ∀ n : Nat, (mostG f fi d n).toInt ≤ (mostA f).toInt
  | 0 => by
    have h := (mostN_ub (f := f) 400).1
    rw [← mostA_N] at h
    exact h
  | n + 1 => by
    have h1 := mostG_le (f := f) (fi := fi) (d := d) n
    have h2 := gd_most (f := f) (cellAt fi d n)
    have e : (mostG f fi d (n + 1)).toInt = if (mostG f fi d n).toInt < (gd f (cellAt fi d n)).toInt then (gd f (cellAt fi d n)).toInt else (mostG f fi d n).toInt := mx_I _ _
    rw [e]
    split <;> omega
theorem mostG_ngt {f : Nat → Int32} {fi d : Int32} {n : Nat} : ¬ mostG f fi d n > mostA f := by
  have h := mostG_le (f := f) (fi := fi) (d := d) n
  rw [gt_iff_lt, Int32.lt_iff_toInt_lt]
  omega
theorem blk_most {f : Nat → Int32} {fi d lim : Int32} (hl : BI 1 60 lim) : ∀ n : Nat, n ≤ 20 → (blkG f fi d lim n = 0 ↔ mostG f fi d n < lim)
  | 0, _ => ⟨fun _ => by
      show (0 : Int32) < lim
      unfold BI at hl
      rw [Int32.lt_iff_toInt_lt, show (0 : Int32).toInt = 0 from by decide]
      omega, fun _ => rfl⟩
  | n + 1, h => by
    have ih := blk_most (f := f) (fi := fi) (d := d) hl n (by omega)
    have e : (mostG f fi d (n + 1)).toInt = if (mostG f fi d n).toInt < (gd f (cellAt fi d n)).toInt then (gd f (cellAt fi d n)).toInt else (mostG f fi d n).toInt := mx_I _ _
    by_cases q : gd f (cellAt fi d n) < lim
    · rw [show blkG f fi d lim (n + 1) = _ from if_pos q, ih, Int32.lt_iff_toInt_lt, Int32.lt_iff_toInt_lt, e]
      rw [Int32.lt_iff_toInt_lt] at q
      split <;> omega
    · rw [show blkG f fi d lim (n + 1) = _ from if_neg q]
      obtain ⟨k, hk, ek⟩ := blk_nn (f := f) (fi := fi) (d := d) (lim := lim) n
      rw [ek, nI_1, Int32.lt_iff_toInt_lt, e]
      rw [Int32.lt_iff_toInt_lt] at q
      constructor
      · intro z
        have := (nI_eq (a := k + 1) (b := 0) (by omega) (by decide)).mp z
        omega
      · intro z
        split at z <;> omega
theorem blk_pos {f : Nat → Int32} {fi d lim : Int32} : blkG f fi d lim 20 ≤ 0 ↔ blkG f fi d lim 20 = 0 := ⟨blk_le0, fun h => by rw [h]; decide⟩
/-! until -/
theorem untF_sp {F : Nat → Int32} : ∀ k i : Nat, (untF F k i = -1 ∧ ∀ j, i ≤ j → j < i + k → F j = 0) ∨ ∃ u : Nat, i ≤ u ∧ u < i + k ∧ untF F k i = nI u ∧ ¬ F u = 0 ∧ ∀ j, i ≤ j → j < u → F j = 0
  | 0, i => Or.inl ⟨rfl, fun j h1 h2 => by omega⟩
  | k + 1, i => by
    by_cases q : F i = 0
    · rw [untF_s q]
      rcases untF_sp k (i + 1) with ⟨h1, h2⟩ | ⟨u, h1, h2, h3, h4, h5⟩
      · refine Or.inl ⟨h1, fun j h3 h4 => ?_⟩
        rcases Nat.lt_or_ge i j with w | w
        · exact h2 j w (by omega)
        · obtain rfl : j = i := by omega
          exact q
      · refine Or.inr ⟨u, by omega, by omega, h3, h4, fun j h6 h7 => ?_⟩
        rcases Nat.lt_or_ge i j with w | w
        · exact h5 j w h7
        · obtain rfl : j = i := by omega
          exact q
    · rw [untF_e q]
      exact Or.inr ⟨i, Nat.le_refl _, by omega, rfl, q, fun j h1 h2 => by omega⟩
/-! a greater limit -/
theorem blk_mono {f : Nat → Int32} {fi d lim lim2 : Int32} (h : lim.toInt ≤ lim2.toInt) : ∀ n : Nat, ∃ a b : Nat, blkG f fi d lim2 n = nI a ∧ blkG f fi d lim n = nI b ∧ a ≤ b ∧ b ≤ n
  | 0 => ⟨0, 0, rfl, rfl, Nat.le_refl _, Nat.le_refl _⟩
  | n + 1 => by
    obtain ⟨a, b, h1, h2, h3, h4⟩ := blk_mono (f := f) (fi := fi) (d := d) h n
    by_cases q : gd f (cellAt fi d n) < lim
    · have q2 : gd f (cellAt fi d n) < lim2 := by
        rw [Int32.lt_iff_toInt_lt] at q ⊢
        omega
      exact ⟨a, b, (if_pos q2).trans h1, (if_pos q).trans h2, h3, by omega⟩
    · by_cases q2 : gd f (cellAt fi d n) < lim2
      · exact ⟨a, b + 1, (if_pos q2).trans h1, (if_neg q).trans (by rw [h2, nI_1]), by omega, by omega⟩
      · exact ⟨a + 1, b + 1, (if_neg q2).trans (by rw [h1, nI_1]), (if_neg q).trans (by rw [h2, nI_1]), by omega, by omega⟩
theorem allB_mono {sn rd ri : Nat → Int32} {lim lim2 : Int32} (h : lim.toInt ≤ lim2.toInt) : ∀ n : Nat, ∃ a b : Nat, allB sn rd ri lim2 n = nI a ∧ allB sn rd ri lim n = nI b ∧ a ≤ b ∧ b ≤ 20 * n
  | 0 => ⟨0, 0, rfl, rfl, Nat.le_refl _, Nat.le_refl _⟩
  | n + 1 => by
    obtain ⟨a, b, h1, h2, h3, h4⟩ := allB_mono (sn := sn) (rd := rd) (ri := ri) h n
    obtain ⟨c, d, k1, k2, k3, k4⟩ := blk_mono (f := sn) (fi := rfi (rd n) (ri n)) (d := rd n) h 20
    refine ⟨a + c, b + d, ?_, ?_, by omega, by omega⟩
    · show allB sn rd ri lim2 n + blkG sn (rfi (rd n) (ri n)) (rd n) lim2 20 = _
      rw [h1, k1, nI_add]
    · show allB sn rd ri lim n + blkG sn (rfi (rd n) (ri n)) (rd n) lim 20 = _
      rw [h2, k2, nI_add]
theorem lim_up {lim : Int32} (h : BI 1 60 lim) : BI 1 60 (mn 60 (lim + 1)) ∧ lim.toInt ≤ (mn 60 (lim + 1)).toInt := by
  unfold BI at *
  have e1 : (1 : Int32).toInt = 1 := by decide
  have e60 : (60 : Int32).toInt = 60 := by decide
  rw [mn_I, i32a (by rw [e1]; omega) (by rw [e1]; omega), e1, e60]
  split <;> omega
theorem kLim_BI {lim : Int32} (h : BI 1 60 lim) : kLim lim = 0 := by
  unfold BI at h
  have e1 : (1 : Int32).toInt = 1 := by decide
  have e60 : (60 : Int32).toInt = 60 := by decide
  exact if_pos ⟨by rw [Int32.lt_iff_toInt_lt, e1]; omega, by rw [Int32.lt_iff_toInt_lt, e60]; omega⟩
theorem allB_up {sn rd ri : Nat → Int32} {lim : Int32} {nr : Nat} (hl : BI 1 60 lim) (hr : nr ≤ 4) : ¬ allB sn rd ri (mn 60 (lim + 1)) nr > allB sn rd ri lim nr := by
  obtain ⟨a, b, h1, h2, h3, h4⟩ := allB_mono (sn := sn) (rd := rd) (ri := ri) (lim_up hl).2 nr
  rw [h1, h2]
  exact nI_ngt h3 (by omega)
/-! the least, the first of them -/
theorem advC_sp {F : Nat → Int32} (h : F 0 < 81) : ∀ n : Nat, ∃ k : Nat, k < n + 1 ∧ advC F (n + 1) = (nI k, F k) ∧ (∀ j, j < n + 1 → ¬ F j < F k) ∧ ∀ j, j < k → F k < F j
  | 0 => ⟨0, Nat.lt_succ_self _, advC_t h, fun j hj => by rw [show j = 0 by omega]; exact Int32.lt_irrefl, fun j hj => absurd hj (Nat.not_lt_zero _)⟩
  | n + 1 => by
    obtain ⟨k, h1, h2, h3, h4⟩ := advC_sp h n
    by_cases q : F (n + 1) < F k
    · refine ⟨n + 1, Nat.lt_succ_self _, advC_t (by rw [h2]; exact q), fun j hj => ?_, fun j hj => ?_⟩
      · rcases Nat.lt_or_ge j (n + 1) with w | w
        · exact fun z => h3 j w (Int32.lt_trans z q)
        · rw [show j = n + 1 by omega]; exact Int32.lt_irrefl
      · have := h3 j hj
        rw [Int32.lt_iff_toInt_lt] at this q ⊢
        omega
    · refine ⟨k, by omega, (advC_f (by rw [h2]; exact q)).trans h2, fun j hj => ?_, h4⟩
      rcases Nat.lt_or_ge j (n + 1) with w | w
      · exact h3 j w
      · rw [show j = n + 1 by omega]; exact q
theorem harG_sp {F : Nat → Int32} {a0 : Int32} : ∀ n : Nat, (harG F a0 n = (-1, a0) ∧ ∀ j, j < n → ¬ F j < a0) ∨ ∃ k : Nat, k < n ∧ harG F a0 n = (nI k, F k) ∧ F k < a0 ∧ (∀ j, j < n → ¬ F j < F k) ∧ ∀ j, j < k → F k < F j
  | 0 => Or.inl ⟨rfl, fun j hj => absurd hj (Nat.not_lt_zero _)⟩
  | n + 1 => by
    rcases harG_sp (F := F) (a0 := a0) n with ⟨h1, h2⟩ | ⟨k, h1, h2, h3, h4, h5⟩
    · by_cases q : F n < a0
      · refine Or.inr ⟨n, Nat.lt_succ_self _, harG_t (by rw [h1]; exact q), q, fun j hj => ?_, fun j hj => ?_⟩
        · rcases Nat.lt_or_ge j n with w | w
          · exact fun z => h2 j w (Int32.lt_trans z q)
          · rw [show j = n by omega]; exact Int32.lt_irrefl
        · have := h2 j hj
          rw [Int32.lt_iff_toInt_lt] at this q ⊢
          omega
      · refine Or.inl ⟨(harG_f (by rw [h1]; exact q)).trans h1, fun j hj => ?_⟩
        rcases Nat.lt_or_ge j n with w | w
        · exact h2 j w
        · rw [show j = n by omega]; exact q
    · by_cases q : F n < F k
      · refine Or.inr ⟨n, Nat.lt_succ_self _, harG_t (by rw [h2]; exact q), Int32.lt_trans q h3, fun j hj => ?_, fun j hj => ?_⟩
        · rcases Nat.lt_or_ge j n with w | w
          · exact fun z => h4 j w (Int32.lt_trans z q)
          · rw [show j = n by omega]; exact Int32.lt_irrefl
        · have := h4 j hj
          rw [Int32.lt_iff_toInt_lt] at this q ⊢
          omega
      · refine Or.inr ⟨k, by omega, (harG_f (by rw [h2]; exact q)).trans h2, h3, fun j hj => ?_, h5⟩
        rcases Nat.lt_or_ge j n with w | w
        · exact h4 j w
        · rw [show j = n by omega]; exact q
/-! one fence left out: by its number, or out of the rows -/
theorem hgS_s {fa : Nat → Int32} {wo : Int32} {n : Nat} (h : ¬ nI n = wo) : hgS fa wo (n + 1) = (scH (hgS fa wo n).1 (ffi fa n) (fa (6 * n + 3)) (fa (6 * n + 4)) (fle fa n), scV (hgS fa wo n).1 (hgS fa wo n).2 (ffi fa n) (fa (6 * n + 3)) (fa (6 * n + 4)) (fa (6 * n + 5)) (fle fa n)) := if_neg h
theorem hgS_tk1 {fa : Nat → Int32} {w N : Nat} (hw : w < 2 ^ 30) : ∀ n : Nat, n ≤ w → hgS fa (nI w) n = hgS (ftake fa w N) (-1) n
  | 0, _ => rfl
  | n + 1, h => by
    have ih := hgS_tk1 (fa := fa) (N := N) hw n (by omega)
    have e1 : ffi (ftake fa w N) n = ffi fa n := by unfold ffi; rw [tk_lo (by omega) 1 (by decide), tk_lo (by omega) 0 (by decide)]
    have e2 : fle (ftake fa w N) n = fle fa n := by unfold fle; rw [tk_lo (by omega) 2 (by decide)]
    have q1 : ¬ nI n = nI w := fun q => by have := (nI_eq (by omega) (by omega)).mp q; omega
    have q2 : ¬ nI n = -1 := nI_m1 (by omega)
    rw [show hgS fa (nI w) (n + 1) = _ from if_neg q1, show hgS (ftake fa w N) (-1) (n + 1) = _ from if_neg q2, ih, e1, e2, tk_lo (by omega) 3 (by decide), tk_lo (by omega) 4 (by decide), tk_lo (by omega) 5 (by decide)]
theorem hgS_tk2 {fa : Nat → Int32} {w N : Nat} (hw : w < 2 ^ 30) (hN : N < 2 ^ 30) : ∀ k : Nat, w + k ≤ N → hgS fa (nI w) (w + k + 1) = hgS (ftake fa w N) (-1) (w + k)
  | 0, _ => (if_pos rfl).trans (hgS_tk1 hw w (Nat.le_refl _))
  | k + 1, h => by
    have ih := hgS_tk2 (fa := fa) hw hN k (by omega)
    have hi : ∀ t, t < 6 → ftake fa w N (6 * (w + k) + t) = fa (6 * (w + k + 1) + t) := fun t ht => tk_hi (by omega) (by omega) t ht
    have e1 : ffi (ftake fa w N) (w + k) = ffi fa (w + k + 1) := by unfold ffi; rw [hi 1 (by decide), hi 0 (by decide)]
    have e2 : fle (ftake fa w N) (w + k) = fle fa (w + k + 1) := by unfold fle; rw [hi 2 (by decide)]
    have q1 : ¬ nI (w + k + 1) = nI w := fun q => by have := (nI_eq (by omega) (by omega)).mp q; omega
    have q2 : ¬ nI (w + k) = -1 := nI_m1 (by omega)
    show hgS fa (nI w) ((w + k + 1) + 1) = hgS (ftake fa w N) (-1) ((w + k) + 1)
    rw [hgS_s q1, hgS_s q2, ih, e1, e2, hi 3 (by decide), hi 4 (by decide), hi 5 (by decide)]
theorem har_take {fa : Nat → Int32} {nf w : Nat} {stg sup wd : Int32} {sn rd ri : Nat → Int32} {lim : Int32} {nr : Nat} (hw : w < nf) (hn : nf ≤ 10) : harA (ftake fa w (nf - 1)) (nf - 1) stg sup wd sn rd ri lim nr (-1) = harF fa nf stg sup wd sn rd ri lim nr w := by
  have e := hgS_tk2 (fa := fa) (w := w) (N := nf - 1) (by omega) (by omega) (nf - 1 - w) (by omega)
  rw [show w + (nf - 1 - w) + 1 = nf by omega, show w + (nf - 1 - w) = nf - 1 by omega] at e
  unfold harF harA
  rw [e]
