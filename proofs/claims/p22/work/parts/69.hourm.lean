/-! ===== an hour in the law's way: a line's cells by their numbers; which fence counts on a cell ===== -/
theorem nIe {a b : Nat} (ha : a < 2 ^ 31) (hb : b < 2 ^ 31) (h : nI a = nI b) : a = b := by
  have e := congrArg Int32.toInt h
  rw [nI_toInt ha, nI_toInt hb] at e
  omega
theorem nIs {a b : Nat} (ha : a < 2 ^ 30) (hb : b < 2 ^ 30) : (nI a - nI b).toInt = (a : Int) - b := by
  rw [i32s (by rw [nI_toInt (by omega), nI_toInt (by omega)]; omega) (by rw [nI_toInt (by omega), nI_toInt (by omega)]; omega), nI_toInt (by omega), nI_toInt (by omega)]
def cN (wd : Int32) (i j : Nat) : Nat := 20 * rowN wd i j + colN wd i j
theorem cN_lt {wd : Int32} {i j : Nat} (hi : i < 20) (hj : j < 20) : cN wd i j < 400 := by
  have h1 := rowN_lt (wd := wd) hi hj
  have h2 := colN_lt (wd := wd) hi hj
  unfold cN
  omega
theorem cN_inj {wd : Int32} {i j k : Nat} (hw : wd = 0 ∨ wd = 1 ∨ wd = 2 ∨ wd = 3) (hi : i < 20) (hj : j < 20) (hk : k < 20) (h : cN wd i j = cN wd i k) : j = k := by
  unfold cN at h
  rcases hw with rfl | rfl | rfl | rfl
  · rw [rowN_0, rowN_0, colN_0, colN_0] at h; omega
  · rw [rowN_1, rowN_1, colN_1, colN_1] at h; omega
  · rw [rowN_2, rowN_2, colN_2, colN_2] at h; omega
  · rw [rowN_3, rowN_3, colN_3, colN_3] at h; omega
theorem cN_eq {wd : Int32} {i j : Nat} (hw : wd = 0 ∨ wd = 1 ∨ wd = 2 ∨ wd = 3) (hj : j < 20) : wfc wd + nI i * wnl wd + nI j * wnc wd = nI (cN wd i j) := by
  have e19 : nI (19 - j) = 19 - nI j := (pk_sub (a := 19) (b := j) (by omega)).symm
  unfold cN
  rw [← nI_add, ← pk_mul, show nI 20 = (20 : Int32) from rfl]
  rcases hw with rfl | rfl | rfl | rfl
  · rw [rowN_0, colN_0, show wfc 0 = 0 from by decide, show wnl 0 = 20 from by decide, show wnc 0 = 1 from by decide]; grind
  · rw [rowN_1, colN_1, show wfc 1 = 0 from by decide, show wnl 1 = 1 from by decide, show wnc 1 = 20 from by decide]; grind
  · rw [rowN_2, colN_2, e19, show wfc 2 = 19 from by decide, show wnl 2 = 20 from by decide, show wnc 2 = -1 from by decide]; grind
  · rw [rowN_3, colN_3, e19, show wfc 3 = 380 from by decide, show wnl 3 = 1 from by decide, show wnc 3 = -20 from by decide]; grind
/-- a line's cells, the first k of them; its heights and gaps; written back -/
def lnV (f : Nat → Int32) (wd : Int32) (i k : Nat) : Nat → Int32 := fun j => if j < k then f (cN wd i j) else 0
def wbF (f ov : Nat → Int32) (wd : Int32) (i : Nat) : Nat → Nat → Int32 | 0 => f | k + 1 => upd (wbF f ov wd i k) (cN wd i k) (ov k)
theorem lnV_0 {f : Nat → Int32} {wd : Int32} {i : Nat} : (fun _ => 0) = lnV f wd i 0 := by
  funext j
  exact (if_neg (Nat.not_lt_zero _)).symm
theorem lnV_s {f : Nat → Int32} {wd : Int32} {i k : Nat} : upd (lnV f wd i k) k (f (cN wd i k)) = lnV f wd i (k + 1) := by
  funext j
  unfold upd lnV
  by_cases e : j = k
  · subst e
    rw [if_pos rfl, if_pos (Nat.lt_succ_self _)]
  · rw [if_neg e]
    by_cases q : j < k
    · rw [if_pos q, if_pos (by omega)]
    · rw [if_neg q, if_neg (by omega)]
theorem lnV_RB {f : Nat → Int32} {wd : Int32} {i : Nat} {hi : Int} (h : RB hi f) (h0 : 0 ≤ hi) (hl : i < 20) : RB hi (lnV f wd i 20) := fun j hj => by
  unfold lnV
  by_cases q : j < 20
  · rw [if_pos q]; exact h _ (cN_lt hl q)
  · rw [if_neg q]; exact ⟨by decide, h0⟩
theorem wbF_out {f ov : Nat → Int32} {wd : Int32} {i z : Nat} : ∀ k : Nat, (∀ j, j < k → z ≠ cN wd i j) → wbF f ov wd i k z = f z
  | 0, _ => rfl
  | k + 1, h => by
    show upd _ _ _ z = _
    unfold upd
    rw [if_neg (h k (Nat.lt_succ_self _))]
    exact wbF_out k (fun j hj => h j (by omega))
theorem wbF_in {f ov : Nat → Int32} {wd : Int32} {i j : Nat} (hw : wd = 0 ∨ wd = 1 ∨ wd = 2 ∨ wd = 3) (hi : i < 20) : ∀ k : Nat, k ≤ 20 → j < k → wbF f ov wd i k (cN wd i j) = ov j
  | 0, _, h => absurd h (Nat.not_lt_zero _)
  | k + 1, h1, h2 => by
    show upd _ _ _ _ = _
    unfold upd
    by_cases e : j = k
    · subst e; rw [if_pos rfl]
    · rw [if_neg (fun q => e (cN_inj hw hi (by omega) (by omega) q))]
      exact wbF_in hw hi k (by omega) (by omega)
/-- the line blown over by itself, and on the ground -/
theorem ov_line {stg sup wd : Int32} {hf gf sn : Nat → Int32} {i : Nat} (hw : wd = 0 ∨ wd = 1 ∨ wd = 2 ∨ wd = 3) (hi : i < 20) : ∀ n : Nat, n ≤ 20 →
    (plS stg hf gf (wfc wd + nI i * wnl wd) (wnc wd) (sn, sup, 0, 0, 0) n).2 = (ovP stg (lnV hf wd i 20) (lnV gf wd i 20) (lnV sn wd i 20) sup n).2 ∧
    (∀ j, j < 20 → (plS stg hf gf (wfc wd + nI i * wnl wd) (wnc wd) (sn, sup, 0, 0, 0) n).1 (cN wd i j) = (ovP stg (lnV hf wd i 20) (lnV gf wd i 20) (lnV sn wd i 20) sup n).1 j) ∧
    (∀ z, (∀ j, j < 20 → z ≠ cN wd i j) → (plS stg hf gf (wfc wd + nI i * wnl wd) (wnc wd) (sn, sup, 0, 0, 0) n).1 z = sn z)
  | 0, _ => ⟨rfl, fun j hj => (if_pos hj).symm, fun _ _ => rfl⟩
  | n + 1, h => by
    obtain ⟨h1, h2, h3⟩ := ov_line (stg := stg) (sup := sup) (hf := hf) (gf := gf) (sn := sn) hw hi n (by omega)
    rw [ovP_s, plS, cN_eq hw (by omega)]
    generalize plS stg hf gf (wfc wd + nI i * wnl wd) (wnc wd) (sn, sup, 0, 0, 0) n = X at h1 h2 h3
    generalize ovP stg (lnV hf wd i 20) (lnV gf wd i 20) (lnV sn wd i 20) sup n = V at h1 h2
    obtain ⟨xf, xr⟩ := X
    obtain ⟨vf, vr⟩ := V
    dsimp only at h1 h2 h3
    subst h1
    have hc := cN_lt (wd := wd) hi (show n < 20 by omega)
    have e1 : gd (lnV hf wd i 20) (nI n) = gd hf (nI (cN wd i n)) := by rw [gd_nI (by omega), gd_nI hc]; exact if_pos (by omega)
    have e2 : gd (lnV gf wd i 20) (nI n) = gd gf (nI (cN wd i n)) := by rw [gd_nI (by omega), gd_nI hc]; exact if_pos (by omega)
    have e3 : gd vf (nI n) = gd xf (nI (cN wd i n)) := by rw [gd_nI (by omega), gd_nI hc]; exact (h2 n (by omega)).symm
    have hput : ∀ v : Int32, (∀ j, j < 20 → gp xf (nI (cN wd i n)) v (cN wd i j) = gp vf (nI n) v j) ∧ (∀ z, (∀ j, j < 20 → z ≠ cN wd i j) → gp xf (nI (cN wd i n)) v z = sn z) := fun v => by
      rw [gp_nI hc, gp_nI (by omega)]
      refine ⟨fun j hj => ?_, fun z hz => ?_⟩
      · unfold upd
        by_cases e : j = n
        · subst e; rw [if_pos rfl, if_pos rfl]
        · rw [if_neg e, if_neg (fun q => e (cN_inj hw hi hj (by omega) q))]
          exact h2 j hj
      · unfold upd
        rw [if_neg (hz n (by omega))]
        exact h3 z hz
    unfold pcS
    dsimp only
    rw [e1, e2, e3]
    split
    · exact ⟨rfl, h2, h3⟩
    · split
      · exact ⟨rfl, (hput _).1, (hput _).2⟩
      · exact ⟨rfl, (hput _).1, (hput _).2⟩
theorem hour_1 {stg sup wd : Int32} {hf gf sn : Nat → Int32} {i : Nat} (hw : wd = 0 ∨ wd = 1 ∨ wd = 2 ∨ wd = 3) (hi : i < 20) : (hrS stg sup hf gf wd sn i).1 + (ovP stg (lnV hf wd i 20) (lnV gf wd i 20) (lnV (hrS stg sup hf gf wd sn i).2.1 wd i 20) sup 20).2.1 = (hrS stg sup hf gf wd sn (i + 1)).1 := by
  rw [← hrS_1, ← (ov_line (stg := stg) (sup := sup) (hf := hf) (gf := gf) (sn := (hrS stg sup hf gf wd sn i).2.1) hw hi 20 (Nat.le_refl _)).1]
theorem hour_2 {stg sup wd : Int32} {hf gf sn : Nat → Int32} {i z : Nat} (hw : wd = 0 ∨ wd = 1 ∨ wd = 2 ∨ wd = 3) (hi : i < 20) : wbF (hrS stg sup hf gf wd sn i).2.1 (ovP stg (lnV hf wd i 20) (lnV gf wd i 20) (lnV (hrS stg sup hf gf wd sn i).2.1 wd i 20) sup 20).1 wd i 20 z = (hrS stg sup hf gf wd sn (i + 1)).2.1 z := by
  obtain ⟨-, h2, h3⟩ := ov_line (stg := stg) (sup := sup) (hf := hf) (gf := gf) (sn := (hrS stg sup hf gf wd sn i).2.1) hw hi 20 (Nat.le_refl _)
  rw [← hrS_2]
  by_cases q : ∃ j, j < 20 ∧ z = cN wd i j
  · obtain ⟨j, hj, rfl⟩ := q
    rw [wbF_in hw hi 20 (Nat.le_refl _) hj, h2 j hj]
  · have q' : ∀ j, j < 20 → z ≠ cN wd i j := fun j hj e => q ⟨j, hj, e⟩
    rw [wbF_out 20 q', h3 z q']
/-- a strip put into the rows: what a cell holds then -/
theorem sc_at {hf gf : Nat → Int32} {fi d h g : Int32} {cc : Nat → Nat} {z : Nat} : ∀ n : Nat, (∀ k, k < n → cellAt fi d k = nI (cc k) ∧ cc k < 400) → (∀ j k, j < n → k < n → cc j = cc k → j = k) → z < 400 →
    ((¬ ∃ k, k < n ∧ cc k = z) → scH hf fi d h n z = hf z ∧ scV hf gf fi d h g n z = gf z) ∧
    ((∃ k, k < n ∧ cc k = z) → (h ≤ hf z → scH hf fi d h n z = hf z ∧ scV hf gf fi d h g n z = gf z) ∧ (¬ h ≤ hf z → scH hf fi d h n z = h ∧ scV hf gf fi d h g n z = g))
  | 0, _, _, _ => ⟨fun _ => ⟨rfl, rfl⟩, fun ⟨k, hk, _⟩ => absurd hk (Nat.not_lt_zero _)⟩
  | n + 1, hc, hj, hz => by
    obtain ⟨i1, i2⟩ := sc_at (hf := hf) (gf := gf) (h := h) (g := g) n (fun k hk => hc k (by omega)) (fun j k h1 h2 => hj j k (by omega) (by omega)) hz
    obtain ⟨c1, c2⟩ := hc n (Nat.lt_succ_self _)
    have hn : ∀ w, (scH hf fi d h n w = scH hf fi d h (n + 1) w ∧ scV hf gf fi d h g n w = scV hf gf fi d h g (n + 1) w) ∨ w = cc n := fun w => by
      by_cases e : w = cc n
      · exact Or.inr e
      · refine Or.inl ?_
        rw [scH, scV]
        split
        · exact ⟨rfl, rfl⟩
        · rw [c1, gp_nI c2, gp_nI c2]
          unfold upd
          rw [if_neg e, if_neg e]
          exact ⟨rfl, rfl⟩
    have hne : ∀ k, k < n → cc k ≠ cc n := fun k hk e => absurd (hj k n (by omega) (Nat.lt_succ_self _) e) (by omega)
    by_cases e : z = cc n
    · have h0 : ¬ ∃ k, k < n ∧ cc k = z := fun ⟨k, hk, q⟩ => hne k hk (q.trans e)
      obtain ⟨s1, s2⟩ := i1 h0
      refine ⟨fun q => absurd ⟨n, Nat.lt_succ_self _, e.symm⟩ q, fun _ => ⟨fun q => ?_, fun q => ?_⟩⟩
      · rw [scH, scV, c1, gd_nI c2, ← e, s1, if_pos q, if_pos q]
        exact ⟨s1, s2⟩
      · rw [scH, scV, c1, gd_nI c2, ← e, s1, if_neg q, if_neg q, gp_nI hz, gp_nI hz]
        unfold upd
        rw [if_pos rfl, if_pos rfl]
        exact ⟨rfl, rfl⟩
    · have q1 := (hn z).resolve_right e
      rw [← q1.1, ← q1.2]
      refine ⟨fun q => i1 (fun ⟨k, hk, w⟩ => q ⟨k, by omega, w⟩), fun ⟨k, hk, w⟩ => i2 ⟨k, ?_, w⟩⟩
      rcases Nat.lt_or_ge k n with p | p
      · exact p
      · obtain rfl : k = n := by omega
        exact absurd w.symm e
