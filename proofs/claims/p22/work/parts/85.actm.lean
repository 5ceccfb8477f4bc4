/-! ===== fall and plough, cell by cell ===== -/
theorem fallC_at {sn : Nat → Int32} {m : Int32} {n : Nat} : fallC sn m n n = sn n := if_neg (Nat.lt_irrefl _)
theorem fallU {sn : Nat → Int32} {m : Int32} {n : Nat} : upd (fallC sn m n) n (mn (sn n + m) 200) = fallC sn m (n + 1) := by
  funext j
  unfold upd fallC
  by_cases e : j = n
  · subst e
    rw [if_pos rfl, if_pos (Nat.lt_succ_self _)]
  · rw [if_neg e]
    by_cases q : j < n
    · rw [if_pos q, if_pos (by omega)]
    · rw [if_neg q, if_neg (by omega)]
theorem mn_cm (x : Int32) : mn 200 x = mn x 200 := by
  unfold mn
  by_cases h : x < 200
  · rw [if_pos h, if_neg (fun q => Int32.lt_irrefl (Int32.lt_trans h q))]
  · rw [if_neg h]
    by_cases h2 : 200 < x
    · rw [if_pos h2]
    · rw [if_neg h2]
      exact Int32.le_antisymm (Int32.not_lt.mp h) (Int32.not_lt.mp h2)
def fmS (sn : Nat → Int32) (m : Int32) : Nat → Int32 | 0 => 0 | n + 1 => fmS sn m n + (mn (sn n + m) 200 - sn n)
theorem fm_sum {sn : Nat → Int32} {m : Int32} : ∀ n : Nat, n ≤ 400 → sumG (fallC sn m 400) (0 * 20 + 0) 0 n - sumG sn (0 * 20 + 0) 0 n = fmS sn m n
  | 0, _ => (show (0 : Int32) - 0 = 0 by decide)
  | n + 1, h => by
    have e := fm_sum (sn := sn) (m := m) n (by omega)
    show sumG (fallC sn m 400) (0 * 20 + 0) 0 n + gd (fallC sn m 400) (cellAt (0 * 20 + 0) 0 n) - (sumG sn (0 * 20 + 0) 0 n + gd sn (cellAt (0 * 20 + 0) 0 n)) = fmS sn m n + (mn (sn n + m) 200 - sn n)
    rw [← e, cellAt_whole, gd_nI (by omega), gd_nI (by omega), show fallC sn m 400 n = mn (sn n + m) 200 from if_pos (by omega)]
    grind
theorem fm_eq {sn : Nat → Int32} {m : Int32} : sumA (fallC sn m 400) - sumA sn = fmS sn m 400 := fm_sum 400 (Nat.le_refl _)
theorem roadC {d ix : Int32} {x k : Nat} (h01 : is01 d) (hi : ix = nI x) (hx : x < 20) (hk : k < 20) : ∃ z : Nat, z < 400 ∧ cellAt (rfi d ix) d k = nI z ∧ (d = 1 → z = 20 * k + x) ∧ (¬ d = 1 → z = 20 * x + k) := by
  subst hi
  rcases h01 with rfl | rfl
  · exact ⟨20 * x + k, by omega, cellA hx hk, fun h => absurd h (by decide), fun _ => rfl⟩
  · exact ⟨20 * k + x, by omega, cellD hx hk, fun _ => rfl, fun h => absurd rfl h⟩
theorem clr_at {sn : Nat → Int32} {d ix : Int32} {x k : Nat} (h01 : is01 d) (hi : ix = nI x) (hx : x < 20) (hk : k < 20) : ∀ n : Nat, n ≤ k → gd (clrG sn (rfi d ix) d n) (cellAt (rfi d ix) d k) = gd sn (cellAt (rfi d ix) d k)
  | 0, _ => rfl
  | n + 1, h => by
    have e := clr_at (sn := sn) h01 hi hx hk n (by omega)
    obtain ⟨z, hz, hc, hz1, hz0⟩ := roadC h01 hi hx hk
    obtain ⟨y, hy, hd, hy1, hy0⟩ := roadC h01 hi hx (show n < 20 by omega)
    rw [← e, clrG, hc, hd, gp_nI hy, gd_nI hz, gd_nI hz]
    unfold upd
    rw [if_neg ?_]
    by_cases q : d = 1
    · have := hz1 q; have := hy1 q; omega
    · have := hz0 q; have := hy0 q; omega
theorem clrU_d {sn : Nat → Int32} {d ix : Int32} {x k : Nat} (hd : d = 1) (hi : ix = nI x) (hx : x < 20) (hk : k < 20) : upd (clrG sn (rfi d ix) d k) (20 * k + x) 0 = clrG sn (rfi d ix) d (k + 1) := by
  subst hd hi
  rw [clrG, cellD hx hk, gp_nI (by omega)]
theorem clrU_a {sn : Nat → Int32} {d ix : Int32} {x k : Nat} (h01 : is01 d) (hd : ¬ d = 1) (hi : ix = nI x) (hx : x < 20) (hk : k < 20) : upd (clrG sn (rfi d ix) d k) (20 * x + k) 0 = clrG sn (rfi d ix) d (k + 1) := by
  rcases h01 with rfl | rfl
  · subst hi
    rw [clrG, cellA hx hk, gp_nI (by omega)]
  · exact absurd rfl hd
theorem nI_w4 {w : Nat} (h : w < 4) : nI w = 0 ∨ nI w = 1 ∨ nI w = 2 ∨ nI w = 3 := by
  rcases (show w = 0 ∨ w = 1 ∨ w = 2 ∨ w = 3 by omega) with rfl | rfl | rfl | rfl
  · exact Or.inl rfl
  · exact Or.inr (Or.inl rfl)
  · exact Or.inr (Or.inr (Or.inl rfl))
  · exact Or.inr (Or.inr (Or.inr rfl))
