/-! ===== the two lists: fences and roads, each object and its strip ===== -/
def FS (E : zG) (ws : va_W) (fa : Nat → Int32) (ea n : Nat) : Prop := (n = 0 ∧ ea = E.2.2.1) ∨ ∃ (qe : Nat) (g : Nat → Option Nat) (fo qf sp qs : Nat → Nat), 35 ≤ qe ∧ ws[qe]? = some (ea, zO4 E 10 g) ∧
  (∀ i, i < n → 35 ≤ qf i ∧ 35 ≤ qs i ∧ g i = some (fo i) ∧ ws[qf i]? = some (fo i, .inr (1, [.int (fa (6 * i + 0)), .int (fa (6 * i + 1)), .ref (sp i), .int (fa (6 * i + 4)), .int (fa (6 * i + 5))])) ∧ ws[qs i]? = some (sp i, .inr (5, [.int (ffi fa i), .int (nI (fle fa i)), .int (fa (6 * i + 3))]))) ∧
  ∀ i j, i < n → j < n → qf i = qf j → i = j
def RS (E : zG) (ws : va_W) (rd ri : Nat → Int32) (eb n : Nat) : Prop := (n = 0 ∧ eb = E.2.2.1) ∨ ∃ (qe : Nat) (g : Nat → Option Nat) (fo qf sp qs : Nat → Nat), 35 ≤ qe ∧ ws[qe]? = some (eb, zO4 E 10 g) ∧
  (∀ i, i < n → 35 ≤ qf i ∧ 35 ≤ qs i ∧ g i = some (fo i) ∧ ws[qf i]? = some (fo i, .inr (3, [.int (ri i), .ref (sp i)])) ∧ ws[qs i]? = some (sp i, .inr (5, [.int (rfi (rd i) (ri i)), .int (nI 20), .int (rd i)])))
theorem FS.keep {E : zG} {ws ws' : va_W} {S : List Nat} {fa : Nat → Int32} {ea n : Nat} (h : FS E ws fa ea n) (hk : zK S ws ws') (hS : ∀ q ∈ S, q < 35) : FS E ws' fa ea n := by
  have hS' : ∀ q, 35 ≤ q → q ∉ S := fun q hq hm => absurd (hS q hm) (by omega)
  rcases h with h | ⟨qe, g, fo, qf, sp, qs, h1, h2, h3, h4⟩
  · exact Or.inl h
  · refine Or.inr ⟨qe, g, fo, qf, sp, qs, h1, hk.2 _ _ (hS' _ h1) h2, fun i hi => ?_, h4⟩
    obtain ⟨k1, k2, k3, k4, k5⟩ := h3 i hi
    exact ⟨k1, k2, k3, hk.2 _ _ (hS' _ k1) k4, hk.2 _ _ (hS' _ k2) k5⟩
theorem RS.keep {E : zG} {ws ws' : va_W} {S : List Nat} {rd ri : Nat → Int32} {eb n : Nat} (h : RS E ws rd ri eb n) (hk : zK S ws ws') (hS : ∀ q ∈ S, q < 35) : RS E ws' rd ri eb n := by
  have hS' : ∀ q, 35 ≤ q → q ∉ S := fun q hq hm => absurd (hS q hm) (by omega)
  rcases h with h | ⟨qe, g, fo, qf, sp, qs, h1, h2, h3⟩
  · exact Or.inl h
  · refine Or.inr ⟨qe, g, fo, qf, sp, qs, h1, hk.2 _ _ (hS' _ h1) h2, fun i hi => ?_⟩
    obtain ⟨k1, k2, k3, k4, k5⟩ := h3 i hi
    exact ⟨k1, k2, k3, hk.2 _ _ (hS' _ k1) k4, hk.2 _ _ (hS' _ k2) k5⟩
theorem FS.at {E : zG} {ws : va_W} {fa : Nat → Int32} {ea n i : Nat} (h : FS E ws fa ea n) (hi : i < n) : ∃ (qe : Nat) (g : Nat → Option Nat) (fo qf sp qs : Nat), 35 ≤ qe ∧ 35 ≤ qf ∧ 35 ≤ qs ∧ ws[qe]? = some (ea, zO4 E 10 g) ∧ g i = some fo ∧
    ws[qf]? = some (fo, .inr (1, [.int (fa (6 * i + 0)), .int (fa (6 * i + 1)), .ref sp, .int (fa (6 * i + 4)), .int (fa (6 * i + 5))])) ∧ ws[qs]? = some (sp, .inr (5, [.int (ffi fa i), .int (nI (fle fa i)), .int (fa (6 * i + 3))])) := by
  rcases h with h | ⟨qe, g, fo, qf, sp, qs, h1, h2, h3, h4⟩
  · omega
  · obtain ⟨k1, k2, k3, k4, k5⟩ := h3 i hi
    exact ⟨qe, g, fo i, qf i, sp i, qs i, h1, k1, k2, h2, k3, k4, k5⟩
theorem RS.at {E : zG} {ws : va_W} {rd ri : Nat → Int32} {eb n i : Nat} (h : RS E ws rd ri eb n) (hi : i < n) : ∃ (qe : Nat) (g : Nat → Option Nat) (fo qf sp qs : Nat), 35 ≤ qe ∧ 35 ≤ qf ∧ 35 ≤ qs ∧ ws[qe]? = some (eb, zO4 E 10 g) ∧ g i = some fo ∧
    ws[qf]? = some (fo, .inr (3, [.int (ri i), .ref sp])) ∧ ws[qs]? = some (sp, .inr (5, [.int (rfi (rd i) (ri i)), .int (nI 20), .int (rd i)])) := by
  rcases h with h | ⟨qe, g, fo, qf, sp, qs, h1, h2, h3⟩
  · omega
  · obtain ⟨k1, k2, k3, k4, k5⟩ := h3 i hi
    exact ⟨qe, g, fo i, qf i, sp i, qs i, h1, k1, k2, h2, k3, k4, k5⟩
/-- an index by the class's own test, and by the document's words -/
theorem ixR {x : Int32} {k : Nat} (hk : k < 2 ^ 30) (h1 : ¬ x < 0) (h2 : ¬ nI k ≤ x) : inR x 0 (nI k - 1) := by
  refine ⟨h1, fun q => h2 ?_⟩
  obtain ⟨j, hj, rfl⟩ := nI_of h1
  rcases Nat.eq_zero_or_pos k with rfl | hp
  · exact nI_le (Nat.zero_le _) hj
  · rw [nI_sub1 hp] at q
    rcases Nat.lt_or_ge j k with z | z
    · exact absurd q (Int32.not_lt.mpr (nI_le (by omega) (by omega)))
    · exact nI_le z hj
theorem ixN0 {x b : Int32} (h : x < 0) : ¬ inR x 0 b := fun q => q.1 h
theorem ixN1 {x : Int32} {k : Nat} (hk : k < 2 ^ 30) (h : nI k ≤ x) : ¬ inR x 0 (nI k - 1) := fun q => by
  obtain ⟨j, hj, rfl⟩ := inR_nI hk q
  exact absurd h (Int32.not_le.mpr (nI_lt hj (by omega)))
theorem zK.transN {S S2 : List Nat} {w0 w1 w2 : va_W} (h1 : zK S w0 w1) (h2 : zK S2 w1 w2) (hs : ∀ q, q ∈ S2 → q ∈ S ∨ w0.length ≤ q) : zK S w0 w2 := ⟨Nat.le_trans h1.1 h2.1, fun q e hq he => h2.2 q e (fun hm => (hs q hm).elim hq (fun hl => absurd (zlt he) (by omega))) (h1.2 q e hq he)⟩
/-- the lists stay, where a wind is written, and places below 19 -/
theorem RS.keepW {E : zG} {ws ws' : va_W} {S : List Nat} {rd ri : Nat → Int32} {eb n qw a : Nat} {fs : List Value} (h : RS E ws rd ri eb n) (hk : zK S ws ws') (hw : ws[qw]? = some (a, .inr (6, fs))) (hS : ∀ q ∈ S, q < 35 ∨ q = qw) : RS E ws' rd ri eb n := by
  rcases h with h | ⟨qe, g, fo, qf, sp, qs, h1, h2, h3⟩
  · exact Or.inl h
  · refine Or.inr ⟨qe, g, fo, qf, sp, qs, h1, hk.2 _ _ (fun hm => (hS _ hm).elim (fun z => by omega) (zneK h2 hw rfl)) h2, fun i hi => ?_⟩
    obtain ⟨k1, k2, k3, k4, k5⟩ := h3 i hi
    exact ⟨k1, k2, k3, hk.2 _ _ (fun hm => (hS _ hm).elim (fun z => by omega) (zneK k4 hw rfl)) k4, hk.2 _ _ (fun hm => (hS _ hm).elim (fun z => by omega) (zneK k5 hw rfl)) k5⟩
theorem rm_last {g : Nat → Option Nat} {n i : Nat} (h : n - 1 ≤ i) : ∀ k : Nat, k < n - 1 → va_up g (n - 1) none k = if k < i then g k else g (k + 1) := fun k hk => by
  rw [va_up_ne _ _ (by omega), if_pos (by omega)]
theorem rm_copy {g : Nat → Option Nat} {n i : Nat} (h : i < n - 1) : ∀ k : Nat, k < n - 1 → va_up (va_cpy g g (i + 1) i (n - 1 - i)) (n - 1) none k = if k < i then g k else g (k + 1) := fun k hk => by
  rw [va_up_ne _ _ (by omega)]
  rcases Nat.lt_or_ge k i with q | q
  · rw [pk_cpy_out (Or.inl q), if_pos q]
  · rw [pk_cpy_in q (by omega), if_neg (by omega), show i + 1 + (k - i) = k + 1 from by omega]
