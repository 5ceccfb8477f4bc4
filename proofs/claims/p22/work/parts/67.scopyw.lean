/-! ===== the rows of a copy, one after another ===== -/
def SNk (E : zG) (ws : va_W) (b : Nat) (gs : Nat → Option Nat) (sn : Nat → Int32) (k : Nat) : Prop := ∀ r : Nat, r < k → ∃ (a : Nat) (f : Nat → Int32), gs r = some a ∧ ws[b + r]? = some (a, zI4 E 20 f) ∧ ∀ c : Nat, c < 20 → f c = sn (20 * r + c)
theorem SNk.keep {E : zG} {ws ws' : va_W} {S : List Nat} {b k : Nat} {gs : Nat → Option Nat} {sn : Nat → Int32} (h : SNk E ws b gs sn k) (hk : zK S ws ws') (hS : ∀ r, r < k → b + r ∉ S) : SNk E ws' b gs sn k := fun r hr => by
  obtain ⟨a, f, h1, h2, h3⟩ := h r hr
  exact ⟨a, f, h1, hk.2 _ _ (hS r hr) h2, h3⟩
theorem SNk.push {E : zG} {ws : va_W} {b i q : Nat} {gs : Nat → Option Nat} {sn rf : Nat → Int32} (h : SNk E ws b gs sn i) (hq : ws[b + i]? = some (q, zI4 E 20 rf)) (hrf : ∀ c : Nat, c < 20 → rf c = sn (20 * i + c)) : SNk E ws b (va_up gs i (some q)) sn (i + 1) := fun r hr => by
  by_cases e : r = i
  · subst e
    exact ⟨q, rf, va_up_self _ _ _, hq, hrf⟩
  · obtain ⟨a, f, h1, h2, h3⟩ := h r (by omega)
    exact ⟨a, f, (va_up_ne _ _ e).trans h1, h2, h3⟩
