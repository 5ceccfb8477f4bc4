theorem kF_lt {co ro le dn he ga : Int32} {n : Nat} (hn : n ≤ 10) (h : kFence co ro le dn he ga (nI n) = 0) : n + 1 ≤ 10 := by
  rcases Nat.lt_or_ge n 10 with q | q
  · exact q
  · obtain rfl : n = 10 := by omega
    have h2 := kF_in h
    unfold kFence at h
    rw [if_neg (not_or_e3 h2.1 h2.2.1 h2.2.2.1), if_neg (not_or_e h2.2.2.2.1 h2.2.2.2.2), if_pos (show nI 10 = (10 : Int32) from rfl)] at h
    exact absurd h (by decide)
theorem kR_lt {ix : Int32} {n : Nat} (hn : n ≤ 4) (h : kRoad ix (nI n) = 0) : n + 1 ≤ 4 := by
  rcases Nat.lt_or_ge n 4 with q | q
  · exact q
  · obtain rfl : n = 4 := by omega
    have h2 := kRoad0 h
    unfold kRoad at h
    rw [if_neg (fun q => q h2), if_pos (show nI 4 = (4 : Int32) from rfl)] at h
    exact absurd h (by decide)
theorem rs_ne {E : zG} {ws : va_W} {rd ri : Nat → Int32} {eb n qz az : Nat} {vs : List Value} (hR : RS E ws rd ri eb n) (hz : ws[qz]? = some (az, .inr (1, vs))) (hD : va_D (zA E) ws) (hE1 : ¬ zA E E.2.2.1) : az ≠ eb := by
  rcases hR with ⟨-, e⟩ | ⟨qe, g, fo, qf, sp, qs, k1, k2, -⟩
  · intro q; rw [q, e] at hz; exact hE1 (hD.2 _ _ hz)
  · intro q
    have := hD.1 _ _ _ _ hz k2 q
    subst this
    rw [hz] at k2
    have h := congrArg Prod.snd (Option.some.inj k2)
    cases h
