/-! ===== a line of cells blown over, in the law's way ===== -/
def ovP (stg : Int32) (hl gl lv : Nat → Int32) (sup : Int32) (k : Nat) : PC := plS stg hl gl 0 1 (lv, sup, 0, 0, 0) k
theorem ov_c (k : Nat) : (0 : Int32) + nI k * 1 = nI k := by grind
theorem ovP_s {stg : Int32} {hl gl lv : Nat → Int32} {sup : Int32} {k : Nat} : ovP stg hl gl lv sup (k + 1) = pcS stg hl gl (nI k) (ovP stg hl gl lv sup k) := by
  unfold ovP
  rw [plS, ov_c]
/-- what the last fence tells of shelter, sweep and what is held; a0: where it stands -/
def ovR (x : PC) (k a0 nb : Nat) (fb : Nat → Int32) : Prop := (nb = 0 ∧ a0 ≤ k ∧ x.2.2.1 = 0) ∨ (nb = 6 ∧ ∃ h g : Nat, fb 4 = nI h ∧ fb 5 = nI g ∧ 1 ≤ h ∧ h ≤ 9 ∧ g ≤ 3 ∧ a0 < k ∧ x.2.2.1 = nI (2 * h + 1 + a0 - k) ∧ x.2.2.2.1 = nI (g + 1 + a0 - k) ∧ x.2.2.2.2 = nI (10 * h))
theorem ovR_at {x : PC} {k a0 nb : Nat} {fb : Nat → Int32} (h : ovR x k a0 nb fb) : a0 ≤ k := by
  rcases h with h | ⟨-, h1, g, -, -, -, -, -, h2, -⟩ <;> omega
theorem ovR_6 {x : PC} {k a0 nb : Nat} {fb : Nat → Int32} (h : ovR x k a0 nb fb) (h0 : ¬ nI nb = 0) : nb = 6 := by
  rcases h with h | h
  · rw [h.1] at h0; exact absurd rfl h0
  · exact h.1
theorem ovR_n0 {x : PC} {k a0 nb : Nat} {fb : Nat → Int32} (h : ovR x k a0 nb fb) (h0 : nI nb = 0) : (0 : Int32) = x.2.2.1 := by
  rcases h with h | h
  · exact h.2.2.symm
  · rw [h.1] at h0; exact absurd h0 (by decide)
theorem ovR_p {x : PC} {k a0 nb : Nat} {fb : Nat → Int32} (h : ovR x k a0 nb fb) (h0 : ¬ x.2.2.1 ≤ 0) : nb = 6 := by
  rcases h with h | h
  · rw [h.2.2] at h0; exact absurd (by decide) h0
  · exact h.1
theorem mxp {a : Nat} (ha : a < 2 ^ 30) : mx (nI a - 1) 0 = nI (a - 1) := by
  unfold mx
  rcases Nat.eq_zero_or_pos a with rfl | q
  · decide
  · rw [nI_sub1 q, if_neg (nI_pos (by omega))]
theorem mx0s {a b : Nat} (ha : a < 2 ^ 30) (hb : b < 2 ^ 30) : mx 0 (nI a - nI b) = nI (a - b) := by
  unfold mx
  rcases Nat.lt_or_ge a b with q | q
  · rw [show a - b = 0 by omega, if_neg (fun z => ?_)]
    · rfl
    · rw [Int32.lt_iff_toInt_lt, i32s (by rw [nI_toInt (by omega), nI_toInt (by omega)]; omega) (by rw [nI_toInt (by omega), nI_toInt (by omega)]; omega), nI_toInt (by omega), nI_toInt (by omega)] at z
      have e0 : (0 : Int32).toInt = 0 := by decide
      omega
  · rw [pk_sub q]
    rcases Nat.eq_zero_or_pos (a - b) with e | e
    · rw [e]; decide
    · rw [if_pos (show (0 : Int32) < nI (a - b) from nI_lt (a := 0) e (by omega))]
theorem ovR_sh {x : PC} {k a0 nb : Nat} {fb : Nat → Int32} (h : ovR x k a0 nb fb) (hk : k < 20) (h0 : nb = 6) : mx 0 (2 * fb 4 - nI (k - a0) + 1) = x.2.2.1 := by
  rcases h with h | ⟨-, he, ga, e1, e2, h1, h2, h3, h4, h5, h6, h7⟩
  · omega
  · rw [e1, h5, show (2 : Int32) * nI he - nI (k - a0) + 1 = nI (2 * he + 1) - nI (k - a0) from ?_, mx0s (by omega) (by omega)]
    · congr 1
      omega
    · rw [← nI_1, show (2 : Int32) * nI he = nI (2 * he) from by rw [show (2 : Int32) = nI 2 from rfl, pk_mul]]
      grind
theorem ovR_pass {x y : PC} {k a0 nb : Nat} {fb : Nat → Int32} (h : ovR x k a0 nb fb) (hk : k < 20) (h1 : y.2.2.1 = mx (x.2.2.1 - 1) 0) (h2 : y.2.2.2.1 = mx (x.2.2.2.1 - 1) 0) (h3 : y.2.2.2.2 = x.2.2.2.2) : ovR y (k + 1) a0 nb fb := by
  rcases h with ⟨e0, e1, e2⟩ | ⟨e0, he, ga, e1, e2, q1, q2, q3, q4, q5, q6, q7⟩
  · refine Or.inl ⟨e0, by omega, ?_⟩
    rw [h1, e2]; decide
  · refine Or.inr ⟨e0, he, ga, e1, e2, q1, q2, q3, by omega, ?_, ?_, by rw [h3]; exact q7⟩
    · rw [h1, q5, mxp (by omega)]; congr 1
    · rw [h2, q6, mxp (by omega)]; congr 1
theorem ovR_fence {x : PC} {k he ga : Nat} {fb : Nat → Int32} (e1 : fb 4 = nI he) (e2 : fb 5 = nI ga) (q1 : 1 ≤ he) (q2 : he ≤ 9) (q3 : ga ≤ 3) : ovR (x.1, x.2.1, 2 * fb 4, fb 5, 10 * fb 4) (k + 1) k 6 fb := by
  refine Or.inr ⟨rfl, he, ga, e1, e2, q1, q2, q3, by omega, ?_, ?_, ?_⟩
  · show 2 * fb 4 = _
    rw [e1, show (2 : Int32) = nI 2 from rfl, pk_mul]; congr 1; omega
  · show fb 5 = _
    rw [e2]; congr 1; omega
  · show 10 * fb 4 = _
    rw [e1, show (10 : Int32) = nI 10 from rfl, pk_mul]
theorem ovR_sw {x : PC} {k a0 nb : Nat} {fb : Nat → Int32} (h : ovR x k a0 nb fb) (h6 : nb = 6) (hk : k < 20) : (fb 5 < nI (k - a0) → x.2.2.2.1 = 0) ∧ (¬ fb 5 < nI (k - a0) → ¬ x.2.2.2.1 = 0) := by
  rcases h with h | ⟨-, he, ga, e1, e2, q1, q2, q3, q4, q5, q6, q7⟩
  · omega
  · rw [q6, e2]
    refine ⟨fun z => ?_, fun z w => ?_⟩
    · rcases Nat.lt_or_ge ga (k - a0) with p | p
      · rw [show ga + 1 + a0 - k = 0 by omega]; rfl
      · exact absurd z (Int32.not_lt.mpr (nI_le p (by omega)))
    · rcases Nat.lt_or_ge ga (k - a0) with p | p
      · exact z (nI_lt p (by omega))
      · have e := congrArg Int32.toInt w
        rw [nI_toInt (by omega), show (0 : Int32).toInt = 0 from by decide] at e
        omega
theorem ovR_ho {x : PC} {k a0 nb : Nat} {fb : Nat → Int32} (h : ovR x k a0 nb fb) (h6 : nb = 6) : 10 * fb 4 = x.2.2.2.2 := by
  rcases h with h | ⟨-, he, ga, e1, e2, q1, q2, q3, q4, q5, q6, q7⟩
  · omega
  · rw [q7, e1, show (10 : Int32) = nI 10 from rfl, pk_mul]
/-- the lesser of two, as the law's text chooses it -/
theorem ov_drop {th ca ho : Int32} (h1 : BI 0 200 th) (h2 : BI 0 90 ca) (h3 : BI 0 90 ho) : (let f := if ca < 4 then ca else 4; if f < mx 0 (ho - th) then f else mx 0 (ho - th)) = dropS th ca ho := by
  unfold BI at h1 h2 h3
  have e4 : (4 : Int32).toInt = 4 := by decide
  have e0 : (0 : Int32).toInt = 0 := by decide
  have es : (ho - th).toInt = ho.toInt - th.toInt := i32s (by omega) (by omega)
  have q1 := mx_I 0 (ho - th)
  rw [es, e0] at q1
  apply Int32.toInt_inj.mp
  unfold dropS
  rw [mx_I, mn_I, mn_I, es, e4, e0]
  dsimp only
  by_cases c1 : ca < 4
  · rw [if_pos c1]
    rw [Int32.lt_iff_toInt_lt, e4] at c1
    by_cases c2 : ca < mx 0 (ho - th)
    · rw [if_pos c2]
      rw [Int32.lt_iff_toInt_lt] at c2
      repeat' split at q1
      all_goals repeat' split
      all_goals omega
    · rw [if_neg c2]
      rw [Int32.lt_iff_toInt_lt] at c2
      repeat' split at q1
      all_goals repeat' split
      all_goals omega
  · rw [if_neg c1]
    rw [Int32.lt_iff_toInt_lt, e4] at c1
    by_cases c2 : 4 < mx 0 (ho - th)
    · rw [if_pos c2, e4]
      rw [Int32.lt_iff_toInt_lt, e4] at c2
      repeat' split at q1
      all_goals repeat' split
      all_goals omega
    · rw [if_neg c2]
      rw [Int32.lt_iff_toInt_lt, e4] at c2
      repeat' split at q1
      all_goals repeat' split
      all_goals omega
theorem ov_pick {th ca stg : Int32} (h1 : BI 0 200 th) (h2 : BI 0 90 ca) (h3 : BI 1 9 stg) : (let f := if th < stg then th else stg; if f < mx 0 (10 * stg - ca) then f else mx 0 (10 * stg - ca)) = pickS stg th ca := by
  unfold BI at h1 h2 h3
  have e10 : (10 : Int32).toInt = 10 := by decide
  have e0 : (0 : Int32).toInt = 0 := by decide
  have em : (10 * stg).toInt = 10 * stg.toInt := by rw [i32m (by rw [e10]; omega) (by rw [e10]; omega), e10]
  have es : (10 * stg - ca).toInt = 10 * stg.toInt - ca.toInt := by rw [i32s (by omega) (by omega), em]
  have q1 := mx_I 0 (10 * stg - ca)
  rw [es, e0] at q1
  apply Int32.toInt_inj.mp
  unfold pickS
  rw [mx_I, mn_I, mn_I, es, e0]
  dsimp only
  by_cases c1 : th < stg
  · rw [if_pos c1]
    rw [Int32.lt_iff_toInt_lt] at c1
    by_cases c2 : th < mx 0 (10 * stg - ca)
    · rw [if_pos c2]
      rw [Int32.lt_iff_toInt_lt] at c2
      repeat' split at q1
      all_goals repeat' split
      all_goals omega
    · rw [if_neg c2]
      rw [Int32.lt_iff_toInt_lt] at c2
      repeat' split at q1
      all_goals repeat' split
      all_goals omega
  · rw [if_neg c1]
    rw [Int32.lt_iff_toInt_lt] at c1
    by_cases c2 : stg < mx 0 (10 * stg - ca)
    · rw [if_pos c2]
      rw [Int32.lt_iff_toInt_lt] at c2
      repeat' split at q1
      all_goals repeat' split
      all_goals omega
    · rw [if_neg c2]
      rw [Int32.lt_iff_toInt_lt] at c2
      repeat' split at q1
      all_goals repeat' split
      all_goals omega
theorem ovP_I {stg sup : Int32} {hl gl lv : Nat → Int32} (hs : BI 1 9 stg) (hu : BI 0 40 sup) (hh : RB 9 hl) (h : RB 200 lv) (k : Nat) : PI9 (ovP stg hl gl lv sup k) := by
  have h0 : BI 0 90 sup := ⟨hu.1, by have := hu.2; omega⟩
  have h1 : BI 0 90 (0 : Int32) := ⟨by decide, by decide⟩
  have h9 : PI9 (lv, sup, 0, 0, 0) := ⟨h, h0, h1⟩
  unfold ovP
  exact plS_I hs hh h9 k
