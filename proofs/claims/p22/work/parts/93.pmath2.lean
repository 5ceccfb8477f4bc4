/-! a line, an hour, hours -/
theorem cN_inj2 {wd : Int32} {i j i2 j2 : Nat} (hw : wd = 0 ∨ wd = 1 ∨ wd = 2 ∨ wd = 3) (hi : i < 20) (hj : j < 20) (hi2 : i2 < 20) (hj2 : j2 < 20) (h : cN wd i j = cN wd i2 j2) : i = i2 ∧ j = j2 := by
  unfold cN at h
  rcases hw with rfl | rfl | rfl | rfl
  · rw [rowN_0, rowN_0, colN_0, colN_0] at h; omega
  · rw [rowN_1, rowN_1, colN_1, colN_1] at h; omega
  · rw [rowN_2, rowN_2, colN_2, colN_2] at h; omega
  · rw [rowN_3, rowN_3, colN_3, colN_3] at h; omega
theorem plS_NR {stg wd : Int32} {hf gf : Nat → Int32} {i : Nat} {x : PC} {t : Int} (hw : wd = 0 ∨ wd = 1 ∨ wd = 2 ∨ wd = 3) (hi : i < 20) (hs : BI 1 9 stg) (hh : RB 9 hf) (h : PI9 x) (ht : ∀ z, z < 400 → 10 * (hf z).toInt ≤ t) (ho : x.2.2.2.2.toInt ≤ t) : ∀ n : Nat, n ≤ 20 →
    (plS stg hf gf (wfc wd + nI i * wnl wd) (wnc wd) x n).2.2.2.2.toInt ≤ t ∧
    (∀ y, (∀ j, j < n → y ≠ cN wd i j) → (plS stg hf gf (wfc wd + nI i * wnl wd) (wnc wd) x n).1 y = x.1 y) ∧
    (∀ j, j < n → NR stg.toInt 4 t (x.1 (cN wd i j)) ((plS stg hf gf (wfc wd + nI i * wnl wd) (wnc wd) x n).1 (cN wd i j)))
  | 0, _ => ⟨ho, fun _ _ => rfl, fun j hj => absurd hj (Nat.not_lt_zero _)⟩
  | n + 1, hn => by
    obtain ⟨k1, k2, k3⟩ := plS_NR hw hi hs hh h ht ho (gf := gf) n (by omega)
    have hp := plS_I (gf := gf) (a := wfc wd + nI i * wnl wd) (b := wnc wd) hs hh h n
    have hz := cN_lt (wd := wd) hi (show n < 20 by omega)
    rw [plS, cN_eq hw (show n < 20 by omega)]
    generalize plS stg hf gf (wfc wd + nI i * wnl wd) (wnc wd) x n = Y at k1 k2 k3 hp ⊢
    have hq := fun y => pcS_NR (gf := gf) (y := y) hs hh hp hz ht k1
    refine ⟨(hq 0).1, fun y hy => ?_, fun j hj => ?_⟩
    · rw [(hq y).2.1 (hy n (Nat.lt_succ_self _))]
      exact k2 y (fun j hj => hy j (by omega))
    · rcases Nat.lt_or_ge j n with q | q
      · have hne : cN wd i j ≠ cN wd i n := fun e => by have := cN_inj hw hi (by omega) (by omega) e; omega
        rw [(hq (cN wd i j)).2.1 hne]
        exact k3 j q
      · obtain rfl : j = n := by omega
        have e : Y.1 (cN wd i j) = x.1 (cN wd i j) := k2 _ (fun j2 hj2 e => by have := cN_inj hw hi (by omega) (by omega) e; omega)
        rw [← e]
        exact (hq 0).2.2
theorem hrS_NR {stg sup wd : Int32} {hf gf sn : Nat → Int32} {t : Int} (hw : wd = 0 ∨ wd = 1 ∨ wd = 2 ∨ wd = 3) (hs : BI 1 9 stg) (hu : BI 0 40 sup) (hh : RB 9 hf) (h : RB 200 sn) (ht : ∀ z, z < 400 → 10 * (hf z).toInt ≤ t) (ht0 : 0 ≤ t) : ∀ i : Nat, i ≤ 20 →
    (∀ y, (∀ i2 j, i2 < i → j < 20 → y ≠ cN wd i2 j) → (hrS stg sup hf gf wd sn i).2.1 y = sn y) ∧ (∀ y, y < 400 → NR stg.toInt 4 t (sn y) ((hrS stg sup hf gf wd sn i).2.1 y))
  | 0, _ => ⟨fun _ _ => rfl, fun y hy => NR.rf (by unfold BI at hs; omega) (by decide)⟩
  | i + 1, hi => by
    obtain ⟨k1, k2⟩ := hrS_NR (gf := gf) hw hs hu hh h ht ht0 i (by omega)
    have h1 := hrS_I (gf := gf) (wd := wd) hs hu hh h i
    have hp : PI9 ((hrS stg sup hf gf wd sn i).2.1, sup, 0, 0, 0) := ⟨h1, ⟨hu.1, Int.le_trans hu.2 (by decide)⟩, (⟨by decide, by decide⟩ : BI 0 90 (0 : Int32))⟩
    obtain ⟨-, q2, q3⟩ := plS_NR (gf := gf) (i := i) (wd := wd) hw (by omega) hs hh hp ht ht0 20 (Nat.le_refl _)
    rw [← hrS_2]
    refine ⟨fun y hy => ?_, fun y hy => ?_⟩
    · rw [q2 y (fun j hj => hy i j (Nat.lt_succ_self _) hj)]
      exact k1 y (fun i2 j hi2 hj => hy i2 j (by omega) hj)
    · by_cases q : ∃ j, j < 20 ∧ y = cN wd i j
      · obtain ⟨j, hj, rfl⟩ := q
        have e := k1 (cN wd i j) (fun i2 j2 hi2 hj2 e => by have := (cN_inj2 hw (by omega) hj (by omega) hj2 e).1; omega)
        have h3 := q3 j hj
        dsimp only at h3
        rw [e] at h3
        exact h3
      · rw [q2 y (fun j hj e => q ⟨j, hj, e⟩)]
        exact k2 y hy
theorem hsS_NR {stg sup wd : Int32} {hf gf sn : Nat → Int32} {t : Int} (hw : wd = 0 ∨ wd = 1 ∨ wd = 2 ∨ wd = 3) (hs : BI 1 9 stg) (hu : BI 0 40 sup) (hh : RB 9 hf) (h : RB 200 sn) (ht : ∀ z, z < 400 → 10 * (hf z).toInt ≤ t) (ht0 : 0 ≤ t) : ∀ n y : Nat, y < 400 → NR (stg.toInt * n) (4 * n) t (sn y) ((hsS stg sup hf gf wd sn n).2.1 y)
  | 0, y, hy => ⟨by show (sn y).toInt - stg.toInt * (0 : Nat) ≤ (sn y).toInt; omega, by show (sn y).toInt ≤ (sn y).toInt + 4 * (0 : Nat); omega, Or.inl (Int.le_refl _)⟩
  | n + 1, y, hy => by
    have ih := hsS_NR (gf := gf) hw hs hu hh h ht ht0 n y hy
    have h1 := hsS_I (gf := gf) (wd := wd) hs hu hh h n
    have h2 := (hrS_NR (gf := gf) hw hs hu hh h1 ht ht0 20 (Nat.le_refl _)).2 y hy
    rw [← hsS_2]
    have h3 := ih.tr h2
    rw [show stg.toInt * ((n + 1 : Nat) : Int) = stg.toInt * n + stg.toInt by rw [Int.natCast_add, Int.mul_add]; omega, show 4 * ((n + 1 : Nat) : Int) = 4 * n + 4 by omega]
    exact h3
/-- the highest fence -/
def hmS (fa : Nat → Int32) : Nat → Int32 | 0 => 0 | f + 1 => mx (hmS fa f) (fa (6 * f + 4))
theorem hmS_le {fa : Nat → Int32} : ∀ n : Nat, (∀ j, j < n → okF fa j) → BI 0 9 (hmS fa n) ∧ ∀ j, j < n → (fa (6 * j + 4)).toInt ≤ (hmS fa n).toInt
  | 0, _ => ⟨(⟨by decide, by decide⟩ : BI 0 9 (0 : Int32)), fun j hj => absurd hj (Nat.not_lt_zero _)⟩
  | n + 1, hok => by
    obtain ⟨h1, h2⟩ := hmS_le n (fun j hj => hok j (by omega))
    obtain ⟨he, e, q1, q2⟩ := (hok n (Nat.lt_succ_self _)).he
    have e2 : (fa (6 * n + 4)).toInt = he := by rw [e, nI_toInt (by omega)]
    have e3 : (hmS fa (n + 1)).toInt = if (hmS fa n).toInt < he then (he : Int) else (hmS fa n).toInt := by show (mx (hmS fa n) (fa (6 * n + 4))).toInt = _; rw [mx_I, e2]
    unfold BI at *
    rw [e3]
    refine ⟨by split <;> omega, fun j hj => ?_⟩
    rcases Nat.lt_or_ge j n with q | q
    · have := h2 j q
      split <;> omega
    · obtain rfl : j = n := by omega
      rw [e2]
      split <;> omega
theorem hg_hm {fa : Nat → Int32} {n z : Nat} (hok : ∀ j, j < n → okF fa j) (hz : z < 400) : ((hgS fa (-1) n).1 z).toInt ≤ (hmS fa n).toInt := by
  obtain ⟨h1, h2⟩ := hmS_le n hok
  have h := hg_tp (wo := -1) (c := z % 20) (r := z / 20) (by omega) (by omega) n hok
  rw [show 20 * (z / 20) + z % 20 = z by omega] at h
  rcases h with ⟨h, -⟩ | ⟨b, hb, -, -, h, -⟩
  · rw [h, show (0 : Int32).toInt = 0 from by decide]
    exact h1.1
  · rw [h]
    exact h2 b hb
/-- behind a wind: what the law asks of a cell -/
theorem cell_ok {fa sn : Nat → Int32} {nf sg hh y : Nat} {sup wd : Int32} (hw : wd = 0 ∨ wd = 1 ∨ wd = 2 ∨ wd = 3) (hs1 : 1 ≤ sg) (hs9 : sg ≤ 9) (hu : BI 0 40 sup) (hok : ∀ j, j < nf → okF fa j) (h : RB 200 sn) (hh6 : hh ≤ 6) (hy : y < 400) (v : Int32) (hv : v = (hsS (nI sg) sup (hgS fa (-1) nf).1 (hgS fa (-1) nf).2 wd sn hh).2.1 y) :
    ¬ v < 0 ∧ ¬ v > 200 ∧ ¬ v > mx (sn y) (10 * hmS fa nf) ∧ ¬ v < sn y - nI sg * nI hh ∧ ¬ v > sn y + 4 * nI hh := by
  have hs : BI 1 9 (nI sg) := nI_BI2 (lo := 1) (hi := 9) (by omega) (by omega) (by omega)
  have hR := hgS_RB (wo := -1) nf hok
  obtain ⟨h1, h2⟩ := hmS_le nf hok
  have k1 := hsS_I (gf := (hgS fa (-1) nf).2) (wd := wd) hs hu hR h hh y hy
  have k2 := hsS_NR (gf := (hgS fa (-1) nf).2) (t := 10 * (hmS fa nf).toInt) hw hs hu hR h (fun z hz => by have := hg_hm hok hz; omega) (by unfold BI at h1; omega) hh y hy
  rw [← hv] at k1 k2
  have e10 : (10 : Int32).toInt = 10 := by decide
  have e4 : (4 : Int32).toInt = 4 := by decide
  have e0 : (0 : Int32).toInt = 0 := by decide
  have e200 : (200 : Int32).toInt = 200 := by decide
  have eh : (nI hh).toInt = hh := nI_toInt (by omega)
  have es : (nI sg).toInt = sg := nI_toInt (by omega)
  have hsn := h y hy
  have hsg : (sg * hh : Int) ≤ 54 := by
    have : sg * hh ≤ 9 * 6 := Nat.mul_le_mul hs9 hh6
    exact_mod_cast this
  have hsg0 : (0 : Int) ≤ sg * hh := Int.mul_nonneg (by omega) (by omega)
  rw [es] at k2
  unfold BI NR at *
  have em : (10 * hmS fa nf).toInt = 10 * (hmS fa nf).toInt := by rw [i32m (by rw [e10]; omega) (by rw [e10]; omega), e10]
  have ep : (nI sg * nI hh).toInt = sg * hh := by rw [i32m (by rw [es, eh]; omega) (by rw [es, eh]; omega), es, eh]
  have e4h : (4 * nI hh).toInt = 4 * hh := by rw [i32m (by rw [e4, eh]; omega) (by rw [e4, eh]; omega), e4, eh]
  rw [gt_iff_lt, gt_iff_lt, gt_iff_lt, Int32.lt_iff_toInt_lt, Int32.lt_iff_toInt_lt, Int32.lt_iff_toInt_lt, Int32.lt_iff_toInt_lt, Int32.lt_iff_toInt_lt, e0, e200, mx_I, em, i32s (by rw [ep]; omega) (by rw [ep]; omega), ep, i32a (by rw [e4h]; omega) (by rw [e4h]; omega), e4h]
  refine ⟨by omega, by omega, ?_, by omega, by omega⟩
  split <;> omega
