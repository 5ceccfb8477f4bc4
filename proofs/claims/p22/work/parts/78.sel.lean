/-! ===== the law's rows of fences and of roads: one more, one less, one other ===== -/
theorem SE.add {E : zG} {ws : va_W} {g : Nat → Option Nat} {n po la : Nat} {fa fb f : Nat → Int32} (h : SE E ws g n fa) (ho : ws[po]? = some (la, zI4 E 6 f)) (hp : 35 ≤ po) (hf : ∀ t : Nat, t < 6 → f t = fb (6 * n + t)) (hlo : ∀ j, j < 6 * n → fb j = fa j) : SE E ws (wO g n la) (n + 1) fb := fun j hj => by
  rcases Nat.lt_or_ge j n with q | q
  · obtain ⟨a, p, f1, h1, h2, h3, h4⟩ := h j q
    exact ⟨a, p, f1, (wO_lt q).trans h1, h2, h3, fun t ht => (h4 t ht).trans (hlo _ (by omega)).symm⟩
  · obtain rfl : j = n := by omega
    exact ⟨la, po, f, wO_at, hp, ho, hf⟩
theorem SE.tak {E : zG} {ws : va_W} {g : Nat → Option Nat} {n k : Nat} {fa : Nat → Int32} (h : SE E ws g n fa) (hk : k < n) : SE E ws (oO g k (n - 1)) (n - 1) (ftake fa k (n - 1)) := fun j hj => by
  rcases Nat.lt_or_ge j k with q | q
  · obtain ⟨a, p, f1, h1, h2, h3, h4⟩ := h j (by omega)
    exact ⟨a, p, f1, (oO_lt hj).trans ((if_pos q).trans h1), h2, h3, fun t ht => (h4 t ht).trans (tk_lo q t ht).symm⟩
  · obtain ⟨a, p, f1, h1, h2, h3, h4⟩ := h (j + 1) (by omega)
    exact ⟨a, p, f1, (oO_lt hj).trans ((if_neg (by omega)).trans h1), h2, h3, fun t ht => (h4 t ht).trans (tk_hi q hj t ht).symm⟩
theorem SE.chg {E : zG} {ws : va_W} {g : Nat → Option Nat} {n k po la : Nat} {fa f : Nat → Int32} {he ga : Int32} (h : SE E ws g n fa) (ho : ws[po]? = some (la, zI4 E 6 f)) (hp : 35 ≤ po) (hf : ∀ t : Nat, t < 6 → f t = upd (upd fa (6 * k + 4) he) (6 * k + 5) ga (6 * k + t)) : SE E ws (va_up g k (some la)) n (upd (upd fa (6 * k + 4) he) (6 * k + 5) ga) := fun j hj => by
  by_cases e : j = k
  · subst e
    exact ⟨la, po, f, va_up_self _ _ _, hp, ho, hf⟩
  · obtain ⟨a, p, f1, h1, h2, h3, h4⟩ := h j hj
    exact ⟨a, p, f1, (va_up_ne _ _ e).trans h1, h2, h3, fun t ht => (h4 t ht).trans (chg_ne e t ht).symm⟩
theorem SR.add {E : zG} {ws : va_W} {g : Nat → Option Nat} {n po la : Nat} {rd ri f : Nat → Int32} {dn ix : Int32} (h : SR E ws g n rd ri) (ho : ws[po]? = some (la, zI4 E 2 f)) (hp : 35 ≤ po) (h0 : f 0 = dn) (h1 : f 1 = ix) : SR E ws (wO g n la) (n + 1) (upd rd n dn) (upd ri n ix) := fun j hj => by
  rcases Nat.lt_or_ge j n with q | q
  · obtain ⟨a, p, f1, k1, k2, k3, k4, k5⟩ := h j q
    exact ⟨a, p, f1, (wO_lt q).trans k1, k2, k3, k4.trans (if_neg (by omega)).symm, k5.trans (if_neg (by omega)).symm⟩
  · obtain rfl : j = n := by omega
    exact ⟨la, po, f, wO_at, hp, ho, h0.trans (if_pos rfl).symm, h1.trans (if_pos rfl).symm⟩
/-- the six numbers of a new fence, as they are written -/
def f6 (co ro le dn he ga : Int32) : Nat → Int32 := upd (upd (upd (upd (upd (upd (fun _ => 0) 0 co) 1 ro) 2 le) 3 dn) 4 he) 5 ga
theorem f6_put {fa : Nat → Int32} {n : Nat} {co ro le dn he ga : Int32} (t : Nat) (ht : t < 6) : f6 co ro le dn he ga t = fput fa n co ro le dn he ga (6 * n + t) := by
  obtain ⟨e0, e1, e2, e3, e4, e5⟩ := fput_at (fa := fa) (i := n) (co := co) (ro := ro) (le := le) (dn := dn) (he := he) (ga := ga)
  rcases (show t = 0 ∨ t = 1 ∨ t = 2 ∨ t = 3 ∨ t = 4 ∨ t = 5 by omega) with rfl | rfl | rfl | rfl | rfl | rfl
  · rw [e0]; rfl
  · rw [e1]; rfl
  · rw [e2]; rfl
  · rw [e3]; rfl
  · rw [e4]; rfl
  · rw [e5]; rfl
/-- an old fence's numbers with another height and gap -/
theorem chg_put {fa f : Nat → Int32} {k : Nat} {he ga : Int32} (h : ∀ t : Nat, t < 6 → f t = fa (6 * k + t)) (t : Nat) (ht : t < 6) : upd (upd f 4 he) 5 ga t = upd (upd fa (6 * k + 4) he) (6 * k + 5) ga (6 * k + t) := by
  have e := h t ht
  rcases (show t = 5 ∨ t = 4 ∨ t < 4 by omega) with rfl | rfl | q
  · rw [chg_4.2]; rfl
  · rw [chg_4.1]; rfl
  · rw [chg_lo t q, ← e]
    unfold upd
    rw [if_neg (by omega), if_neg (by omega)]
