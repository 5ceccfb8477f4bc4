/-! ===== the property's mathematics: snow is kept; how much a cell gets or loses ===== -/
/-- the first n numbers, added -/
def sumN (f : Nat → Int32) : Nat → Int32 | 0 => 0 | n + 1 => sumN f n + f n
theorem sumG_N {f : Nat → Int32} : ∀ n : Nat, n ≤ 400 → sumG f (0 * 20 + 0) 0 n = sumN f n
  | 0, _ => rfl
  | n + 1, h => by
    show sumG f (0 * 20 + 0) 0 n + gd f (cellAt (0 * 20 + 0) 0 n) = sumN f n + f n
    rw [sumG_N n (by omega), cellAt_whole, gd_nI (by omega)]
theorem sumA_N {f : Nat → Int32} : sumA f = sumN f 400 := sumG_N 400 (Nat.le_refl _)
theorem sumN_upd {f : Nat → Int32} {z : Nat} {v : Int32} : ∀ n : Nat, sumN (upd f z v) n = if z < n then sumN f n - f z + v else sumN f n
  | 0 => (if_neg (Nat.not_lt_zero _)).symm
  | n + 1 => by
    show sumN (upd f z v) n + upd f z v n = _
    rw [sumN_upd n]
    unfold upd
    by_cases h : z < n
    · rw [if_pos h, if_neg (by omega), if_pos (by omega)]
      show _ = sumN f n + f n - f z + v
      grind
    · rw [if_neg h]
      by_cases e : n = z
      · subst e
        rw [if_pos rfl, if_pos (Nat.lt_succ_self _)]
        show _ = sumN f n + f n - f n + v
        grind
      · rw [if_neg e, if_neg (by omega)]
        rfl
theorem sumN_gp {f : Nat → Int32} {z : Nat} {v : Int32} (hz : z < 400) : sumN (gp f (nI z) v) 400 = sumN f 400 - gd f (nI z) + v := by
  rw [gp_nI hz, gd_nI hz, sumN_upd, if_pos hz]
theorem pcS_sum {stg : Int32} {hf gf : Nat → Int32} {z : Nat} {x : PC} (hz : z < 400) : sumN (pcS stg hf gf (nI z) x).1 400 + (pcS stg hf gf (nI z) x).2.1 = sumN x.1 400 + x.2.1 := by
  unfold pcS
  split
  · rfl
  · split
    · show sumN (gp _ _ _) 400 + (_ + _) = _
      rw [sumN_gp hz]
      grind
    · show sumN (gp _ _ _) 400 + (_ + _) = _
      rw [sumN_gp hz]
      grind
theorem plS_sum {stg wd : Int32} {hf gf : Nat → Int32} {i : Nat} {x : PC} (hw : wd = 0 ∨ wd = 1 ∨ wd = 2 ∨ wd = 3) (hi : i < 20) : ∀ n : Nat, n ≤ 20 → sumN (plS stg hf gf (wfc wd + nI i * wnl wd) (wnc wd) x n).1 400 + (plS stg hf gf (wfc wd + nI i * wnl wd) (wnc wd) x n).2.1 = sumN x.1 400 + x.2.1
  | 0, _ => rfl
  | n + 1, h => by
    rw [← plS_sum (stg := stg) (hf := hf) (gf := gf) (x := x) hw hi n (by omega), plS, cN_eq hw (show n < 20 by omega)]
    exact pcS_sum (cN_lt hi (by omega))
theorem hrS_sum {stg sup wd : Int32} {hf gf sn : Nat → Int32} (hw : wd = 0 ∨ wd = 1 ∨ wd = 2 ∨ wd = 3) : ∀ i : Nat, i ≤ 20 → sumN (hrS stg sup hf gf wd sn i).2.1 400 + (hrS stg sup hf gf wd sn i).1 = sumN sn 400 + nI i * sup
  | 0, _ => by
    show sumN sn 400 + 0 = sumN sn 400 + 0 * sup
    grind
  | i + 1, h => by
    have ih := hrS_sum (stg := stg) (sup := sup) (hf := hf) (gf := gf) (sn := sn) hw i (by omega)
    rw [← hrS_1, ← hrS_2]
    have e := plS_sum (stg := stg) (hf := hf) (gf := gf) (x := ((hrS stg sup hf gf wd sn i).2.1, sup, 0, 0, 0)) hw (show i < 20 by omega) 20 (Nat.le_refl _)
    have e2 : nI (i + 1) = nI i + 1 := (nI_1 i).symm
    have e3 : sumN ((hrS stg sup hf gf wd sn i).2.1, sup, (0 : Int32), (0 : Int32), (0 : Int32)).1 400 = sumN (hrS stg sup hf gf wd sn i).2.1 400 := rfl
    have e4 : ((hrS stg sup hf gf wd sn i).2.1, sup, (0 : Int32), (0 : Int32), (0 : Int32)).2.1 = sup := rfl
    rw [e3, e4] at e
    generalize (plS stg hf gf (wfc wd + nI i * wnl wd) (wnc wd) ((hrS stg sup hf gf wd sn i).2.1, sup, 0, 0, 0) 20) = Y at e ⊢
    generalize sumN Y.1 400 = a at e ⊢
    generalize Y.2.1 = b at e ⊢
    generalize sumN (hrS stg sup hf gf wd sn i).2.1 400 = p at e ih
    generalize (hrS stg sup hf gf wd sn i).1 = q at ih ⊢
    rw [e2]
    grind
theorem hsS_sum {stg sup wd : Int32} {hf gf sn : Nat → Int32} (hw : wd = 0 ∨ wd = 1 ∨ wd = 2 ∨ wd = 3) : ∀ n : Nat, sumN (hsS stg sup hf gf wd sn n).2.1 400 + (hsS stg sup hf gf wd sn n).1 = sumN sn 400 + nI n * (20 * sup)
  | 0 => by
    show sumN sn 400 + 0 = sumN sn 400 + 0 * (20 * sup)
    grind
  | n + 1 => by
    have ih := hsS_sum (stg := stg) (sup := sup) (hf := hf) (gf := gf) (sn := sn) hw n
    have e := hrS_sum (stg := stg) (sup := sup) (hf := hf) (gf := gf) (sn := (hsS stg sup hf gf wd sn n).2.1) hw 20 (Nat.le_refl _)
    rw [← hsS_1, ← hsS_2]
    have e2 : nI (n + 1) = nI n + 1 := (nI_1 n).symm
    have e3 : nI 20 = (20 : Int32) := rfl
    rw [e3] at e
    generalize sumN (hrS stg sup hf gf wd (hsS stg sup hf gf wd sn n).2.1 20).2.1 400 = a at e ⊢
    generalize (hrS stg sup hf gf wd (hsS stg sup hf gf wd sn n).2.1 20).1 = b at e ⊢
    generalize sumN (hsS stg sup hf gf wd sn n).2.1 400 = p at e ih
    generalize (hsS stg sup hf gf wd sn n).1 = q at ih ⊢
    rw [e2]
    grind
/-- what lay, and what was supplied, lies there or was carried off -/
theorem kept {stg sup wd : Int32} {hf gf sn : Nat → Int32} {n : Nat} (hw : wd = 0 ∨ wd = 1 ∨ wd = 2 ∨ wd = 3) : sumA sn + 20 * sup * nI n = sumA (hsS stg sup hf gf wd sn n).2.1 + (hsS stg sup hf gf wd sn n).1 := by
  have h := hsS_sum (stg := stg) (sup := sup) (hf := hf) (gf := gf) (sn := sn) hw n
  rw [sumA_N, sumA_N]
  generalize sumN (hsS stg sup hf gf wd sn n).2.1 400 = a at h ⊢
  generalize (hsS stg sup hf gf wd sn n).1 = b at h ⊢
  grind
/-- what is carried off is no less than nothing -/
theorem hrS_nn {stg sup wd : Int32} {hf gf sn : Nat → Int32} (hs : BI 1 9 stg) (hu : BI 0 40 sup) (hh : RB 9 hf) (h : RB 200 sn) : ∀ i : Nat, i ≤ 20 → BI 0 (90 * i) (hrS stg sup hf gf wd sn i).1
  | 0, _ => (⟨by decide, by decide⟩ : BI 0 (90 * (0 : Nat)) (0 : Int32))
  | i + 1, hi => by
    have ih := hrS_nn (gf := gf) (wd := wd) hs hu hh h i (by omega)
    have h1 := hrS_I (gf := gf) (wd := wd) hs hu hh h i
    have hp : PI9 ((hrS stg sup hf gf wd sn i).2.1, sup, 0, 0, 0) := ⟨h1, ⟨hu.1, Int.le_trans hu.2 (by decide)⟩, (⟨by decide, by decide⟩ : BI 0 90 (0 : Int32))⟩
    have h2 := (plS_I (gf := gf) (a := wfc wd + nI i * wnl wd) (b := wnc wd) hs hh hp 20).2.1
    rw [← hrS_1]
    unfold BI at ih h2 ⊢
    rw [i32a (by omega) (by omega)]
    omega
theorem hsS_nn {stg sup wd : Int32} {hf gf sn : Nat → Int32} (hs : BI 1 9 stg) (hu : BI 0 40 sup) (hh : RB 9 hf) (h : RB 200 sn) : ∀ n : Nat, n ≤ 24 → BI 0 (1800 * n) (hsS stg sup hf gf wd sn n).1
  | 0, _ => (⟨by decide, by decide⟩ : BI 0 (1800 * (0 : Nat)) (0 : Int32))
  | n + 1, hn => by
    have ih := hsS_nn (gf := gf) (wd := wd) hs hu hh h n (by omega)
    have h2 := hrS_nn (gf := gf) (wd := wd) hs hu hh (hsS_I (gf := gf) (wd := wd) hs hu hh h n) 20 (Nat.le_refl _)
    rw [← hsS_1]
    unfold BI at ih h2 ⊢
    rw [i32a (by omega) (by omega)]
    omega
theorem gone_nn {stg sup wd : Int32} {hf gf sn : Nat → Int32} {n : Nat} (hs : BI 1 9 stg) (hu : BI 0 40 sup) (hh : RB 9 hf) (h : RB 200 sn) (hn : n ≤ 24) : ¬ (hsS stg sup hf gf wd sn n).1 < 0 := by
  have h1 := (hsS_nn (gf := gf) (wd := wd) hs hu hh h n hn).1
  rw [Int32.lt_iff_toInt_lt, show (0 : Int32).toInt = 0 from by decide]
  omega
/-! how much a cell gets or loses -/
/-- from a to b: no more than d less, no more than u more, and more only below t -/
def NR (d u t : Int) (a b : Int32) : Prop := a.toInt - d ≤ b.toInt ∧ b.toInt ≤ a.toInt + u ∧ (b.toInt ≤ a.toInt ∨ b.toInt ≤ t)
theorem NR.rf {d u t : Int} {a : Int32} (hd : 0 ≤ d) (hu : 0 ≤ u) : NR d u t a a := ⟨by omega, by omega, Or.inl (Int.le_refl _)⟩
theorem NR.tr {d1 u1 d2 u2 t : Int} {a b c : Int32} (h : NR d1 u1 t a b) (k : NR d2 u2 t b c) : NR (d1 + d2) (u1 + u2) t a c := by
  unfold NR at *
  omega
theorem drop_4 {th ca ho : Int32} (h1 : BI 0 200 th) (h2 : BI 0 90 ca) (h3 : BI 0 90 ho) : (dropS th ca ho).toInt ≤ 4 ∧ ((dropS th ca ho).toInt = 0 ∨ th.toInt + (dropS th ca ho).toInt ≤ ho.toInt) := by
  unfold BI at *
  unfold dropS
  have e1 : (ho - th).toInt = ho.toInt - th.toInt := i32s (by omega) (by omega)
  have e4 : (4 : Int32).toInt = 4 := by decide
  have e0 : (0 : Int32).toInt = 0 := by decide
  rw [mx_I, mn_I, mn_I, e1, e4, e0]
  repeat' split
  all_goals omega
theorem pick_s {th ca stg : Int32} (h1 : BI 0 200 th) (h2 : BI 0 90 ca) (h3 : BI 1 9 stg) : (pickS stg th ca).toInt ≤ stg.toInt := by
  unfold BI at *
  unfold pickS
  have e10 : (10 : Int32).toInt = 10 := by decide
  have e0 : (0 : Int32).toInt = 0 := by decide
  have em : (10 * stg).toInt = 10 * stg.toInt := by rw [i32m (by rw [e10]; omega) (by rw [e10]; omega), e10]
  have e1 : (10 * stg - ca).toInt = 10 * stg.toInt - ca.toInt := by rw [i32s (by rw [em]; omega) (by rw [em]; omega), em]
  rw [mx_I, mn_I, mn_I, e1, e0]
  repeat' split
  all_goals omega
theorem pcS_NR {stg : Int32} {hf gf : Nat → Int32} {z y : Nat} {x : PC} {t : Int} (hs : BI 1 9 stg) (hh : RB 9 hf) (h : PI9 x) (hz : z < 400) (ht : ∀ z, z < 400 → 10 * (hf z).toInt ≤ t) (ho : x.2.2.2.2.toInt ≤ t) :
    (pcS stg hf gf (nI z) x).2.2.2.2.toInt ≤ t ∧ (y ≠ z → (pcS stg hf gf (nI z) x).1 y = x.1 y) ∧ NR stg.toInt 4 t (x.1 z) ((pcS stg hf gf (nI z) x).1 z) := by
  obtain ⟨h1, h2, h3⟩ := h
  have hg := hh z hz
  have hl := h1 z hz
  have hup : ∀ v : Int32, y ≠ z → upd x.1 z v y = x.1 y := fun v q => if_neg q
  have hat : ∀ v : Int32, upd x.1 z v z = v := fun v => if_pos rfl
  have hs0 : 0 ≤ stg.toInt := by unfold BI at hs; omega
  unfold pcS
  split
  · refine ⟨?_, fun _ => rfl, NR.rf hs0 (by decide)⟩
    have e10 : (10 : Int32).toInt = 10 := by decide
    show (10 * gd hf (nI z)).toInt ≤ t
    rw [gd_nI hz]
    unfold BI at hg
    rw [i32m (by rw [e10]; omega) (by rw [e10]; omega), e10]
    exact ht z hz
  · split
    · obtain ⟨k1, k2, k3⟩ := drop_I hl h2 h3
      obtain ⟨k4, k5⟩ := drop_4 hl h2 h3
      dsimp only
      rw [gp_nI hz, gd_nI hz]
      refine ⟨ho, fun q => hup _ q, ?_⟩
      rw [hat]
      unfold NR
      unfold BI at hl h2 h3
      rw [i32s (by rw [i32n (by omega)]; omega) (by rw [i32n (by omega)]; omega), i32n (by omega)]
      omega
    · obtain ⟨k1, k2, k3⟩ := pick_I hl h2 hs
      have k4 := pick_s hl h2 hs
      dsimp only
      rw [gp_nI hz, gd_nI hz]
      refine ⟨ho, fun q => hup _ q, ?_⟩
      rw [hat]
      unfold NR
      unfold BI at hl h2 h3
      rw [i32s (by omega) (by omega)]
      omega
