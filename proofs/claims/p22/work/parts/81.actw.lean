/-! ===== numbers that an act chooses are such as the class takes ===== -/
theorem inRk {k a b : Nat} (h1 : a ≤ k) (h2 : k ≤ b) (hb : b < 2 ^ 30) : inR (nI k) (nI a) (nI b) := ⟨Int32.not_lt.mpr (nI_le h1 (by omega)), Int32.not_lt.mpr (nI_le h2 (by omega))⟩
theorem kLim_ok {k : Nat} (h1 : 1 ≤ k) (h2 : k ≤ 60) : kLim (nI k) = 0 := if_pos (inRk (a := 1) (b := 60) h1 h2 (by decide))
theorem kSup_ok {k : Nat} (h2 : k ≤ 40) : kSup (nI k) = 0 := if_pos (inRk (a := 0) (b := 40) (Nat.zero_le _) h2 (by decide))
theorem kFall_ok {k : Nat} (h1 : 1 ≤ k) (h2 : k ≤ 30) : kFall (nI k) = 0 := if_pos (inRk (a := 1) (b := 30) h1 h2 (by decide))
theorem kIdx_ok {k n : Nat} (h : k < n) (hn : n < 2 ^ 30) : kIdx (nI k) (nI n) = 0 := if_pos (inR_mk h hn)
theorem kChange_ok {k n a b : Nat} (h : k < n) (hn : n < 2 ^ 30) (h1 : 1 ≤ a) (h2 : a ≤ 9) (h3 : b ≤ 3) : kChange (nI k) (nI n) (nI a) (nI b) = 0 := (if_neg (fun q => q (inR_mk h hn))).trans (if_neg (not_or_e (inRk (a := 1) (b := 9) h1 h2 (by decide)) (inRk (a := 0) (b := 3) (Nat.zero_le _) h3 (by decide))))
theorem kRoad_ok {k n : Nat} (h : k < 20) (hn : n < 4) : kRoad (nI k) (nI n) = 0 := (if_neg (fun q => q (inRk (a := 0) (b := 19) (Nat.zero_le _) (by omega) (by decide)))).trans (if_neg (fun q => by
  have e := (nI_eq (a := n) (b := 4) (by omega) (by decide)).mp q
  omega))
theorem kBlow_ok {w s h : Nat} (h1 : w < 4) (h2 : 1 ≤ s) (h3 : s ≤ 9) (h4 : 1 ≤ h) (h5 : h ≤ 24) : kBlow (nI w) (nI s) (nI h) = 0 := (if_neg (fun q => q (inRk (a := 0) (b := 3) (Nat.zero_le _) (by omega) (by decide)))).trans (if_neg (not_or_e (inRk (a := 1) (b := 9) h2 h3 (by decide)) (inRk (a := 1) (b := 24) h4 h5 (by decide))))
theorem kFence_ok {co ro le he ga n : Nat} {dn : Int32} (h1 : 1 ≤ le) (h2 : le ≤ 20) (h3 : 1 ≤ he) (h4 : he ≤ 9) (h5 : ga ≤ 3) (h6 : n < 10) (hd : (dn = 0 ∧ co + le ≤ 20 ∧ ro < 20) ∨ (dn = 1 ∧ ro + le ≤ 20 ∧ co < 20)) : kFence (nI co) (nI ro) (nI le) dn (nI he) (nI ga) (nI n) = 0 := by
  have a1 : inR (nI le) 1 20 := inRk (a := 1) (b := 20) h1 h2 (by decide)
  have a2 : inR (nI he) 1 9 := inRk (a := 1) (b := 9) h3 h4 (by decide)
  have a3 : inR (nI ga) 0 3 := inRk (a := 0) (b := 3) (Nat.zero_le _) h5 (by decide)
  have hn : ¬ nI n = 10 := fun q => by
    have e := (nI_eq (a := n) (b := 10) (by omega) (by decide)).mp q
    omega
  have hs : ∀ a : Nat, a + le ≤ 20 → inR (nI a + nI le - 1) 0 19 := fun a ha => by
    rw [nI_add, nI_sub1 (by omega)]
    exact inRk (a := 0) (b := 19) (Nat.zero_le _) (by omega) (by decide)
  have hc : ∀ a : Nat, a < 20 → inR (nI a) 0 19 := fun a ha => inRk (a := 0) (b := 19) (Nat.zero_le _) (by omega) (by decide)
  refine (kF0 a1 a2 a3 (hc co (by omega)) (hc ro (by omega)) ?_).trans (if_neg hn)
  rcases hd with ⟨rfl, p1, p2⟩ | ⟨rfl, p1, p2⟩
  · exact Or.inl ⟨rfl, hs co p1⟩
  · exact Or.inr ⟨by decide, hs ro p1⟩
theorem nI_BI2 {k : Nat} {lo hi : Int} (h1 : lo ≤ k) (h2 : (k : Int) ≤ hi) (hk : k < 2 ^ 31) : BI lo hi (nI k) := by
  unfold BI
  rw [nI_toInt hk]
  omega
