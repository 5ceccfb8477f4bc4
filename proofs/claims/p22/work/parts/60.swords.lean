/-! ===== the law's own field: words of its state ===== -/
/-- 20 places from b on -/
def rg (b : Nat) : List Nat := List.range' b 20
theorem rg_mem {b q : Nat} : q ∈ rg b ↔ b ≤ q ∧ q < b + 20 := by
  unfold rg
  exact List.mem_range'_1
/-- the rows of the snow, at the places from b on; gs tells their addresses -/
def SN (E : zG) (ws : va_W) (b : Nat) (gs : Nat → Option Nat) (sn : Nat → Int32) : Prop := ∀ r : Nat, r < 20 → ∃ (a : Nat) (f : Nat → Int32), gs r = some a ∧ ws[b + r]? = some (a, zI4 E 20 f) ∧ ∀ c : Nat, c < 20 → f c = sn (20 * r + c)
/-- the six numbers of a fence -/
def fw (fa : Nat → Int32) (k : Nat) : Nat → Int32 := fun t => fa (6 * k + t)
/-- rows of six numbers, one for each fence -/
def SE (E : zG) (ws : va_W) (g : Nat → Option Nat) (n : Nat) (fa : Nat → Int32) : Prop := ∀ j : Nat, j < n → ∃ (a q : Nat) (f : Nat → Int32), g j = some a ∧ 35 ≤ q ∧ ws[q]? = some (a, zI4 E 6 f) ∧ ∀ t : Nat, t < 6 → f t = fa (6 * j + t)
/-- rows of two numbers, one for each road -/
def rdF (x y : Int32) : Nat → Int32 := fun t => if t = 0 then x else y
def SR (E : zG) (ws : va_W) (g : Nat → Option Nat) (n : Nat) (rd ri : Nat → Int32) : Prop := ∀ j : Nat, j < n → ∃ (a q : Nat) (f : Nat → Int32), g j = some a ∧ 35 ≤ q ∧ ws[q]? = some (a, zI4 E 2 f) ∧ f 0 = rd j ∧ f 1 = ri j
theorem SN.keep {E : zG} {ws ws' : va_W} {S : List Nat} {b : Nat} {gs : Nat → Option Nat} {sn : Nat → Int32} (h : SN E ws b gs sn) (hk : zK S ws ws') (hS : ∀ r, r < 20 → b + r ∉ S) : SN E ws' b gs sn := fun r hr => by
  obtain ⟨a, f, h1, h2, h3⟩ := h r hr
  exact ⟨a, f, h1, hk.2 _ _ (hS r hr) h2, h3⟩
theorem SE.keep {E : zG} {ws ws' : va_W} {S : List Nat} {g : Nat → Option Nat} {n : Nat} {fa : Nat → Int32} (h : SE E ws g n fa) (hk : zK S ws ws') (hS : ∀ (q a : Nat) (f : Nat → Int32), 35 ≤ q → ws[q]? = some (a, zI4 E 6 f) → q ∉ S) : SE E ws' g n fa := fun j hj => by
  obtain ⟨a, q, f, h1, h2, h3, h4⟩ := h j hj
  exact ⟨a, q, f, h1, h2, hk.2 _ _ (hS q a _ h2 h3) h3, h4⟩
theorem SR.keep {E : zG} {ws ws' : va_W} {S : List Nat} {g : Nat → Option Nat} {n : Nat} {rd ri : Nat → Int32} (h : SR E ws g n rd ri) (hk : zK S ws ws') (hS : ∀ (q a : Nat) (f : Nat → Int32), 35 ≤ q → ws[q]? = some (a, zI4 E 2 f) → q ∉ S) : SR E ws' g n rd ri := fun j hj => by
  obtain ⟨a, q, f, h1, h2, h3, h4⟩ := h j hj
  exact ⟨a, q, f, h1, h2, hk.2 _ _ (hS q a _ h2 h3) h3, h4⟩
/-- a place of another kind, or of a row of another length, is no row of the snow -/
theorem SN.no {E : zG} {ws : va_W} {b : Nat} {gs : Nat → Option Nat} {sn : Nat → Int32} (h : SN E ws b gs sn) {q : Nat} {x : Nat × va_E} (hq : ws[q]? = some x) (hx : Nat.beq (zkd x.2) 100 = false) : ¬ (b ≤ q ∧ q < b + 20) := fun w => by
  obtain ⟨a, f0, -, h2, -⟩ := h (q - b) (by omega)
  rw [show b + (q - b) = q by omega, hq] at h2
  cases h2
  have hx2 : Nat.beq 100 100 = false := hx
  exact absurd hx2 (by decide)
theorem SN.noL {E : zG} {ws : va_W} {b : Nat} {gs : Nat → Option Nat} {sn : Nat → Int32} (h : SN E ws b gs sn) {q a m : Nat} {f : Nat → Int32} (hq : ws[q]? = some (a, zI4 E m f)) (hm : m ≠ 20) : ¬ (b ≤ q ∧ q < b + 20) := fun w => by
  obtain ⟨a2, f0, -, h2, -⟩ := h (q - b) (by omega)
  rw [show b + (q - b) = q by omega] at h2
  exact zneL hm hq h2 rfl
theorem SN.len {E : zG} {ws : va_W} {b : Nat} {gs : Nat → Option Nat} {sn : Nat → Int32} (h : SN E ws b gs sn) : b + 20 ≤ ws.length := by
  obtain ⟨a, f0, -, h2, -⟩ := h 19 (by decide)
  have := zlt h2
  omega
/-- one place of a row is written -/
theorem SN.set {E : zG} {ws : va_W} {b : Nat} {gs : Nat → Option Nat} {sn : Nat → Int32} (h : SN E ws b gs sn) {r c a : Nat} {f : Nat → Int32} {v : Int32} (hr : r < 20) (hc : c < 20) (ha : gs r = some a) (hf : ∀ c : Nat, c < 20 → f c = sn (20 * r + c)) : SN E (ws.set (b + r) (a, zI4 E 20 (upd f c v))) b gs (upd sn (20 * r + c) v) := fun r2 hr2 => by
  obtain ⟨a2, f2, h1, h2, h3⟩ := h r2 hr2
  by_cases e : r2 = r
  · subst e
    cases ha.symm.trans h1
    refine ⟨a, upd f c v, ha, zset_eq h2, fun c2 hc2 => ?_⟩
    unfold upd
    by_cases e2 : c2 = c
    · rw [if_pos e2, if_pos (by omega)]
    · rw [if_neg e2, if_neg (by omega)]
      exact hf c2 hc2
  · refine ⟨a2, f2, h1, by rw [zset_ne (by omega) h2], fun c2 hc2 => ?_⟩
    unfold upd
    rw [if_neg (by omega)]
    exact h3 c2 hc2
theorem SN.congr {E : zG} {ws : va_W} {b : Nat} {gs : Nat → Option Nat} {sn s2 : Nat → Int32} (h : SN E ws b gs sn) (he : ∀ j, j < 400 → sn j = s2 j) : SN E ws b gs s2 := fun r hr => by
  obtain ⟨a, f, h1, h2, h3⟩ := h r hr
  exact ⟨a, f, h1, h2, fun c hc => (h3 c hc).trans (he _ (by omega))⟩
/-- is a cell on a fence of these six numbers -/
def onI (f : Nat → Int32) (c r : Int32) : Int32 := if f 3 = 1 then (if ¬ r - f 1 < 0 ∧ r - f 1 < f 2 ∧ c = f 0 then 1 else 0) else (if ¬ c - f 0 < 0 ∧ c - f 0 < f 2 ∧ r = f 1 then 1 else 0)
theorem onI_v {f : Nat → Int32} {c r : Int32} (h : f 3 = 1) : onI f c r = if ¬ r - f 1 < 0 ∧ r - f 1 < f 2 ∧ c = f 0 then 1 else 0 := if_pos h
theorem onI_h {f : Nat → Int32} {c r : Int32} (h : ¬ f 3 = 1) : onI f c r = if ¬ c - f 0 < 0 ∧ c - f 0 < f 2 ∧ r = f 1 then 1 else 0 := if_neg h
theorem onI_c {f g : Nat → Int32} {c r : Int32} (h : ∀ t : Nat, t < 6 → f t = g t) : onI f c r = onI g c r := by
  unfold onI
  rw [h 0 (by decide), h 1 (by decide), h 2 (by decide), h 3 (by decide)]
theorem onI_01 {f : Nat → Int32} {c r : Int32} : onI f c r = 0 ∨ onI f c r = 1 := by
  unfold onI
  repeat' split
  all_goals first | exact Or.inl rfl | exact Or.inr rfl
/-- the cells of a wind's lines: column and row of the k-th on the line i -/
def colN (wd : Int32) (i k : Nat) : Nat := if wd = 0 then k else if wd = 1 then i else if wd = 2 then 19 - k else i
def rowN (wd : Int32) (i k : Nat) : Nat := if wd = 0 then i else if wd = 1 then k else if wd = 2 then i else 19 - k
theorem colN_0 {i k : Nat} : colN 0 i k = k := if_pos rfl
theorem colN_1 {i k : Nat} : colN 1 i k = i := (if_neg (by decide)).trans (if_pos rfl)
theorem colN_2 {i k : Nat} : colN 2 i k = 19 - k := (if_neg (by decide)).trans ((if_neg (by decide)).trans (if_pos rfl))
theorem colN_3 {i k : Nat} : colN 3 i k = i := (if_neg (by decide)).trans ((if_neg (by decide)).trans (if_neg (by decide)))
theorem rowN_0 {i k : Nat} : rowN 0 i k = i := if_pos rfl
theorem rowN_1 {i k : Nat} : rowN 1 i k = k := (if_neg (by decide)).trans (if_pos rfl)
theorem rowN_2 {i k : Nat} : rowN 2 i k = i := (if_neg (by decide)).trans ((if_neg (by decide)).trans (if_pos rfl))
theorem rowN_3 {i k : Nat} : rowN 3 i k = 19 - k := (if_neg (by decide)).trans ((if_neg (by decide)).trans (if_neg (by decide)))
theorem colN_lt {wd : Int32} {i k : Nat} (hi : i < 20) (hk : k < 20) : colN wd i k < 20 := by
  unfold colN
  repeat' split
  all_goals omega
theorem rowN_lt {wd : Int32} {i k : Nat} (hi : i < 20) (hk : k < 20) : rowN wd i k < 20 := by
  unfold rowN
  repeat' split
  all_goals omega
def spF (x y : Nat) : Nat → Int32 := upd (upd (fun _ => 0) 0 (nI x)) 1 (nI y)
theorem spF_0 {x y : Nat} : spF x y 0 = nI x := rfl
theorem spF_1 {x y : Nat} : spF x y 1 = nI y := rfl
theorem i32lelt {a b c : Int32} (h1 : a ≤ b) (h2 : b < c) : a < c := by
  rw [Int32.le_iff_toInt_le] at h1
  rw [Int32.lt_iff_toInt_lt] at h2 ⊢
  omega
/-- the best fence on a cell among those from lo on: none, or one; nb, fb: its row's length and numbers -/
def bsI (fa : Nat → Int32) (n : Nat) (c r : Int32) (lo nb : Nat) (fb : Nat → Int32) : Prop :=
  (nb = 0 ∧ ∀ j, lo ≤ j → j < n → onI (fw fa j) c r = 0) ∨
  (nb = 6 ∧ ∃ b, lo ≤ b ∧ b < n ∧ (∀ t : Nat, t < 6 → fb t = fa (6 * b + t)) ∧ ¬ onI (fw fa b) c r = 0 ∧ ∀ j, lo ≤ j → j < n → ¬ onI (fw fa j) c r = 0 → ¬ fa (6 * b + 4) < fa (6 * j + 4) ∧ (j < b → fa (6 * j + 4) < fa (6 * b + 4)))
theorem bsI_0 {fa : Nat → Int32} {n : Nat} {c r : Int32} {fb : Nat → Int32} : bsI fa n c r n 0 fb := Or.inl ⟨rfl, fun j h1 h2 => absurd h2 (by omega)⟩
theorem bsI_6 {fa : Nat → Int32} {n : Nat} {c r : Int32} {lo nb : Nat} {fb : Nat → Int32} (h : bsI fa n c r lo nb fb) (h0 : ¬ nI nb = 0) : nb = 6 := by
  rcases h with h | h
  · rw [h.1] at h0; exact absurd rfl h0
  · exact h.1
theorem bsI_skip {fa : Nat → Int32} {n : Nat} {c r : Int32} {lo nb : Nat} {fb : Nat → Int32} (h : bsI fa n c r (lo + 1) nb fb) (h0 : onI (fw fa lo) c r = 0) : bsI fa n c r lo nb fb := by
  have e : ∀ j, lo ≤ j → ¬ onI (fw fa j) c r = 0 → lo + 1 ≤ j := fun j h1 h2 => by
    rcases Nat.lt_or_ge lo j with q | q
    · exact q
    · obtain rfl : j = lo := by omega
      exact absurd h0 h2
  rcases h with ⟨h1, h2⟩ | ⟨h1, b, h2, h3, h4, h5, h6⟩
  · refine Or.inl ⟨h1, fun j q1 q2 => ?_⟩
    rcases Nat.lt_or_ge lo j with q | q
    · exact h2 j q q2
    · obtain rfl : j = lo := by omega
      exact h0
  · exact Or.inr ⟨h1, b, by omega, h3, h4, h5, fun j q1 q2 q3 => h6 j (e j q1 q3) q2 q3⟩
theorem bsI_lose {fa : Nat → Int32} {n : Nat} {c r : Int32} {lo nb : Nat} {fb : Nat → Int32} (h : bsI fa n c r (lo + 1) nb fb) (h0 : ¬ nI nb = 0) (hl : fa (6 * lo + 4) < fb 4) : bsI fa n c r lo nb fb := by
  rcases h with ⟨h1, h2⟩ | ⟨h1, b, h2, h3, h4, h5, h6⟩
  · rw [h1] at h0; exact absurd rfl h0
  · refine Or.inr ⟨h1, b, by omega, h3, h4, h5, fun j q1 q2 q3 => ?_⟩
    rcases Nat.lt_or_ge lo j with q | q
    · exact h6 j q q2 q3
    · obtain rfl : j = lo := by omega
      rw [h4 4 (by decide)] at hl
      exact ⟨fun z => Int32.lt_irrefl (Int32.lt_trans hl z), fun _ => hl⟩
theorem bsI_win {fa : Nat → Int32} {n : Nat} {c r : Int32} {lo nb : Nat} {fb f2 : Nat → Int32} (h : bsI fa n c r (lo + 1) nb fb) (h2 : ∀ t : Nat, t < 6 → f2 t = fa (6 * lo + t)) (hn : lo < n) (h0 : ¬ onI (fw fa lo) c r = 0) (hl : nI nb = 0 ∨ ¬ fa (6 * lo + 4) < fb 4) : bsI fa n c r lo 6 f2 := by
  refine Or.inr ⟨rfl, lo, Nat.le_refl _, hn, h2, h0, fun j q1 q2 q3 => ⟨fun z => ?_, fun z => by omega⟩⟩
  rcases Nat.lt_or_ge lo j with q | q
  · rcases h with ⟨h1, h2⟩ | ⟨h1, b, h2, h3, h4, h5, h6⟩
    · exact q3 (h2 j q q2)
    · have w := (h6 j q q2 q3).1
      rcases hl with hl | hl
      · rw [h1] at hl; exact absurd hl (by decide)
      · rw [h4 4 (by decide)] at hl
        exact w (i32lelt (Int32.not_lt.mp hl) z)
  · obtain rfl : j = lo := by omega
    exact Int32.lt_irrefl z
