set_option maxHeartbeats 100000 in
theorem inR_BI {v : Int32} {a b : Nat} (ha : a < 2 ^ 31) (hb : b < 2 ^ 31) (h : inR v (nI a) (nI b)) : BI a b v := by
  obtain ⟨h1, h2⟩ := h
  rw [Int32.lt_iff_toInt_lt, nI_toInt ha] at h1
  rw [Int32.lt_iff_toInt_lt, nI_toInt hb] at h2
  exact ⟨by omega, by omega⟩
set_option maxHeartbeats 100000 in
theorem fall_at {s m : Int32} (h1 : BI 0 200 s) (h2 : BI 1 30 m) : mn (s + m) 200 = s + mn m (200 - s) ∧ BI 0 200 (mn (s + m) 200) := by
  unfold BI at h1 h2 ⊢
  have e2 : (200 : Int32).toInt = 200 := by decide
  have ea : (s + m).toInt = s.toInt + m.toInt := i32a (by omega) (by omega)
  have es : (200 - s : Int32).toInt = 200 - s.toInt := by rw [i32s (by rw [e2]; omega) (by rw [e2]; omega), e2]
  have q1 := mn_I (s + m) 200
  have q2 := mn_I m (200 - s)
  rw [ea, e2] at q1
  rw [es] at q2
  refine ⟨?_, ?_⟩
  · apply Int32.toInt_inj.mp
    rw [i32a (by split at q2 <;> omega) (by split at q2 <;> omega)]
    split at q1 <;> split at q2 <;> omega
  · split at q1 <;> omega
set_option maxHeartbeats 100000 in
theorem fall_eq {sn : Nat → Int32} {m : Int32} (h1 : RB 200 sn) (h2 : BI 1 30 m) : fallC sn m 400 = fallS sn m 400 := by
  funext j
  unfold fallC fallS
  by_cases q : j < 400
  · rw [if_pos q, if_pos q]; exact (fall_at (h1 j q) h2).1
  · rw [if_neg q, if_neg q]
set_option maxHeartbeats 100000 in
theorem fall_RB {sn : Nat → Int32} {m : Int32} (h1 : RB 200 sn) (h2 : BI 1 30 m) : RB 200 (fallC sn m 400) := fun j hj => by
  rw [show fallC sn m 400 j = mn (sn j + m) 200 from if_pos hj]
  exact (fall_at (h1 j hj) h2).2
set_option maxHeartbeats 100000 in
theorem fall_sum {sn : Nat → Int32} {m : Int32} : ∀ n : Nat, n ≤ 400 → sumG (fallS sn m 400) (0 * 20 + 0) 0 n = sumG sn (0 * 20 + 0) 0 n + moreS sn m n
  | 0, _ => (show (0 : Int32) = 0 + 0 by decide)
  | n + 1, h => by
    have e := fall_sum (sn := sn) (m := m) n (by omega)
    show sumG (fallS sn m 400) (0 * 20 + 0) 0 n + gd (fallS sn m 400) (cellAt (0 * 20 + 0) 0 n) = sumG sn (0 * 20 + 0) 0 n + gd sn (cellAt (0 * 20 + 0) 0 n) + (moreS sn m n + mn m (200 - sn n))
    rw [e, cellAt_whole, gd_nI (by omega), gd_nI (by omega), show fallS sn m 400 n = sn n + mn m (200 - sn n) from if_pos (by omega)]
    grind
set_option maxHeartbeats 100000 in
theorem fall_ans {sn : Nat → Int32} {m : Int32} (h1 : RB 200 sn) (h2 : BI 1 30 m) : sumA (fallC sn m 400) - sumA sn = moreS sn m 400 := by
  rw [fall_eq h1 h2]
  unfold sumA
  rw [fall_sum 400 (Nat.le_refl _)]
  grind
