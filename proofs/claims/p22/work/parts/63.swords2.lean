/-! ===== words for the roads and for rows of rows ===== -/
theorem cellD {x k : Nat} (hx : x < 20) (hk : k < 20) : cellAt (rfi 1 (nI x)) 1 k = nI (20 * k + x) := by
  unfold cellAt rfi
  rw [if_pos rfl, stp_1 (by decide), show (20 : Int32) = nI 20 from rfl, show (0 : Int32) = nI 0 from rfl, pk_mul, pk_mul, nI_add, nI_add]
  congr 1
  omega
theorem cellA {x k : Nat} (hx : x < 20) (hk : k < 20) : cellAt (rfi 0 (nI x)) 0 k = nI (20 * x + k) := by
  unfold cellAt rfi
  rw [if_neg (by decide), stp_0 rfl, show (20 : Int32) = nI 20 from rfl, show (1 : Int32) = nI 1 from rfl, show (0 : Int32) = nI 0 from rfl, pk_mul, pk_mul, nI_add, nI_add]
  congr 1
  omega
theorem on_d {sn : Nat → Int32} {d ix : Int32} {x k : Nat} (hd : d = 1) (hi : ix = nI x) (hx : x < 20) (hk : k < 20) : gd sn (cellAt (rfi d ix) d k) = sn (20 * k + x) := by
  subst hd hi
  rw [cellD hx hk, gd_nI (by omega)]
theorem on_a {sn : Nat → Int32} {d ix : Int32} {x k : Nat} (h01 : is01 d) (hd : ¬ d = 1) (hi : ix = nI x) (hx : x < 20) (hk : k < 20) : gd sn (cellAt (rfi d ix) d k) = sn (20 * x + k) := by
  rcases h01 with rfl | rfl
  · subst hi
    rw [cellA hx hk, gd_nI (by omega)]
  · exact absurd rfl hd
def cpO (g : Nat → Option Nat) (i : Nat) : Nat → Option Nat := fun j => if j < i then g j else none
theorem cpO_0 {g : Nat → Option Nat} : (fun _ => none) = cpO g 0 := by
  funext j
  exact (if_neg (Nat.not_lt_zero _)).symm
theorem cpO_s {g : Nat → Option Nat} {i a : Nat} (h : g i = some a) : va_up (cpO g i) i (some a) = cpO g (i + 1) := by
  funext j
  unfold cpO
  by_cases e : j = i
  · subst e
    rw [va_up_self, if_pos (Nat.lt_succ_self _), h]
  · rw [va_up_ne _ _ e]
    by_cases q : j < i
    · rw [if_pos q, if_pos (by omega)]
    · rw [if_neg q, if_neg (by omega)]
/-- one row more, behind n of them -/
def wO (g : Nat → Option Nat) (n a : Nat) : Nat → Option Nat := va_up (cpO g n) n (some a)
theorem wO_lt {g : Nat → Option Nat} {n a j : Nat} (h : j < n) : wO g n a j = g j := (va_up_ne _ _ (by omega)).trans (if_pos h)
theorem wO_at {g : Nat → Option Nat} {n a : Nat} : wO g n a n = some a := va_up_self _ _ _
/-- all but one -/
def oG (g : Nat → Option Nat) (w : Nat) : Nat → Option Nat := fun j => if j < w then g j else g (j + 1)
def oO (g : Nat → Option Nat) (w n : Nat) : Nat → Option Nat := cpO (oG g w) n
theorem oO_lt {g : Nat → Option Nat} {w n j : Nat} (h : j < n) : oO g w n j = oG g w j := if_pos h
theorem SN.of {E : zG} {ws : va_W} {b : Nat} {ra : Nat → Nat} (h : ∀ r, r < 20 → ws[b + r]? = some (ra r, zI4 E 20 (fun _ => 0))) : SN E ws b (fun j => if j < 20 then some (ra j) else none) (fun _ => 0) := fun r hr => ⟨ra r, _, if_pos hr, h r hr, fun _ _ => rfl⟩
