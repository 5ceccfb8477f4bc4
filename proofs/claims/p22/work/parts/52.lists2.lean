/-! ===== the lists, when something is added, changed, taken away ===== -/
set_option maxHeartbeats 200000 in
/-- the fences stay, where a cell is written that is none of theirs -/
theorem FS.keepE {E : zG} {ws ws' : va_W} {S : List Nat} {fa : Nat → Int32} {ea n qz az : Nat} {c : va_E} (h : FS E ws fa ea n) (hk : zK S ws ws') (hz : ws[qz]? = some (az, c)) (h1 : Nat.beq (zkd c) 1 = false) (h5 : Nat.beq (zkd c) 5 = false) (ha : az ≠ ea) (hS : ∀ q ∈ S, q < 35 ∨ q = qz) : FS E ws' fa ea n := by
  rcases h with h | ⟨qe, g, fo, qf, sp, qs, k1, k2, k3, k4⟩
  · exact Or.inl h
  · have hq : ∀ q a c', 35 ≤ q → ws[q]? = some (a, c') → q ≠ qz → q ∉ S := fun q a c' hl _ hn hm => (hS _ hm).elim (fun z => by omega) hn
    refine Or.inr ⟨qe, g, fo, qf, sp, qs, k1, hk.2 _ _ (hq _ _ _ k1 k2 (fun e => ?_)) k2, fun i hi => ?_, k4⟩
    · rw [e, hz] at k2
      exact ha (congrArg Prod.fst (Option.some.inj k2))
    · obtain ⟨w1, w2, w3, w4, w5⟩ := k3 i hi
      refine ⟨w1, w2, w3, hk.2 _ _ (hq _ _ _ w1 w4 (zneK w4 hz ?_)) w4, hk.2 _ _ (hq _ _ _ w2 w5 (zneK w5 hz ?_)) w5⟩
      · show Nat.beq 1 (zkd c) = false
        cases q : Nat.beq 1 (zkd c)
        · rfl
        · rw [← Nat.eq_of_beq_eq_true q] at h1; exact absurd h1 (by decide)
      · show Nat.beq 5 (zkd c) = false
        cases q : Nat.beq 5 (zkd c)
        · rfl
        · rw [← Nat.eq_of_beq_eq_true q] at h5; exact absurd h5 (by decide)
set_option maxHeartbeats 200000 in
theorem RS.keepE {E : zG} {ws ws' : va_W} {S : List Nat} {rd ri : Nat → Int32} {eb n qz az : Nat} {c : va_E} (h : RS E ws rd ri eb n) (hk : zK S ws ws') (hz : ws[qz]? = some (az, c)) (h3 : Nat.beq (zkd c) 3 = false) (h5 : Nat.beq (zkd c) 5 = false) (ha : az ≠ eb) (hS : ∀ q ∈ S, q < 35 ∨ q = qz) : RS E ws' rd ri eb n := by
  rcases h with h | ⟨qe, g, fo, qf, sp, qs, k1, k2, k3⟩
  · exact Or.inl h
  · have hq : ∀ q a c', 35 ≤ q → ws[q]? = some (a, c') → q ≠ qz → q ∉ S := fun q a c' hl _ hn hm => (hS _ hm).elim (fun z => by omega) hn
    refine Or.inr ⟨qe, g, fo, qf, sp, qs, k1, hk.2 _ _ (hq _ _ _ k1 k2 (fun e => ?_)) k2, fun i hi => ?_⟩
    · rw [e, hz] at k2
      exact ha (congrArg Prod.fst (Option.some.inj k2))
    · obtain ⟨w1, w2, w3, w4, w5⟩ := k3 i hi
      refine ⟨w1, w2, w3, hk.2 _ _ (hq _ _ _ w1 w4 (zneK w4 hz ?_)) w4, hk.2 _ _ (hq _ _ _ w2 w5 (zneK w5 hz ?_)) w5⟩
      · show Nat.beq 3 (zkd c) = false
        cases q : Nat.beq 3 (zkd c)
        · rfl
        · rw [← Nat.eq_of_beq_eq_true q] at h3; exact absurd h3 (by decide)
      · show Nat.beq 5 (zkd c) = false
        cases q : Nat.beq 5 (zkd c)
        · rfl
        · rw [← Nat.eq_of_beq_eq_true q] at h5; exact absurd h5 (by decide)
/-- the list's array, its entries, in one piece -/
def FSa (E : zG) (ws : va_W) (fa : Nat → Int32) (ea n qe : Nat) (g : Nat → Option Nat) (fo qf sp qs : Nat → Nat) : Prop := 35 ≤ qe ∧ ws[qe]? = some (ea, zO4 E 10 g) ∧
  (∀ i, i < n → 35 ≤ qf i ∧ 35 ≤ qs i ∧ g i = some (fo i) ∧ ws[qf i]? = some (fo i, .inr (1, [.int (fa (6 * i + 0)), .int (fa (6 * i + 1)), .ref (sp i), .int (fa (6 * i + 4)), .int (fa (6 * i + 5))])) ∧ ws[qs i]? = some (sp i, .inr (5, [.int (ffi fa i), .int (nI (fle fa i)), .int (fa (6 * i + 3))]))) ∧
  ∀ i j, i < n → j < n → qf i = qf j → i = j
set_option maxHeartbeats 200000 in
theorem ffi_put {fa : Nat → Int32} {n i : Nat} {co ro le dn he ga : Int32} (h : i < n) : ffi (fput fa n co ro le dn he ga) i = ffi fa i ∧ fle (fput fa n co ro le dn he ga) i = fle fa i := by
  unfold ffi fle
  rw [fput_lo (by omega), fput_lo (by omega), fput_lo (by omega)]
  exact ⟨rfl, rfl⟩
set_option maxHeartbeats 200000 in
theorem FS.new {E : zG} {ws : va_W} {fa : Nat → Int32} {nq pq fo pf sp ps : Nat} {co ro dn he ga : Int32} {l : Nat} (hl : l ≤ 20) (h1 : 35 ≤ pq) (h2 : ws[pq]? = some (nq, zO4 E 10 (va_up (fun _ => none) 0 (some fo)))) (h3 : 35 ≤ pf) (h4 : ws[pf]? = some (fo, .inr (1, [.int co, .int ro, .ref sp, .int he, .int ga]))) (h5 : 35 ≤ ps) (h6 : ws[ps]? = some (sp, .inr (5, [.int (ro * 20 + co), .int (nI l), .int dn]))) : FS E ws (fput fa 0 co ro (nI l) dn he ga) nq 1 := by
  obtain ⟨e0, e1, e2, e3, e4, e5⟩ := fput_at (fa := fa) (i := 0) (co := co) (ro := ro) (le := nI l) (dn := dn) (he := he) (ga := ga)
  refine Or.inr ⟨pq, _, fun _ => fo, fun _ => pf, fun _ => sp, fun _ => ps, h1, h2, fun i hi => ?_, fun i j hi hj _ => by omega⟩
  obtain rfl : i = 0 := by omega
  have ef : ffi (fput fa 0 co ro (nI l) dn he ga) 0 = ro * 20 + co := by unfold ffi; rw [e0, e1]
  have el : fle (fput fa 0 co ro (nI l) dn he ga) 0 = l := by unfold fle; rw [e2]; exact nI_clamp (by omega)
  refine ⟨h3, h5, va_up_self _ _ _, ?_, ?_⟩
  · rw [e0, e1, e4, e5]; exact h4
  · rw [ef, el, e3]; exact h6
set_option maxHeartbeats 200000 in
theorem FS.add {E : zG} {ws ws' : va_W} {S : List Nat} {fa : Nat → Int32} {ea n qe fo' pf sp' ps : Nat} {g : Nat → Option Nat} {fo qf sp qs : Nat → Nat} {co ro dn he ga : Int32} {l : Nat} (hF : FSa E ws fa ea n qe g fo qf sp qs) (hl : l ≤ 20) (hk : zK S ws ws') (hS : ∀ q ∈ S, q < 35 ∨ q = qe) (h2 : ws'[qe]? = some (ea, zO4 E 10 (va_up g n (some fo')))) (h3 : ws.length ≤ pf) (h4 : ws'[pf]? = some (fo', .inr (1, [.int co, .int ro, .ref sp', .int he, .int ga]))) (h5 : ws.length ≤ ps) (h6 : ws'[ps]? = some (sp', .inr (5, [.int (ro * 20 + co), .int (nI l), .int dn]))) : FS E ws' (fput fa n co ro (nI l) dn he ga) ea (n + 1) := by
  obtain ⟨k1, k2, k3, k4⟩ := hF
  obtain ⟨e0, e1, e2, e3, e4, e5⟩ := fput_at (fa := fa) (i := n) (co := co) (ro := ro) (le := nI l) (dn := dn) (he := he) (ga := ga)
  have hlen := zlt k2
  refine Or.inr ⟨qe, _, va_up fo n fo', va_up qf n pf, va_up sp n sp', va_up qs n ps, k1, h2, fun i hi => ?_, fun i j hi hj e => ?_⟩
  · rcases Nat.lt_or_ge i n with q | q
    · obtain ⟨w1, w2, w3, w4, w5⟩ := k3 i q
      obtain ⟨f1, f2⟩ := ffi_put (fa := fa) (co := co) (ro := ro) (le := nI l) (dn := dn) (he := he) (ga := ga) q
      rw [va_up_ne _ _ (by omega), va_up_ne _ _ (by omega), va_up_ne _ _ (by omega), va_up_ne _ _ (by omega), va_up_ne _ _ (by omega), f1, f2, fput_lo (by omega), fput_lo (by omega), fput_lo (by omega), fput_lo (by omega), fput_lo (by omega)]
      exact ⟨w1, w2, w3, hk.2 _ _ (fun hm => (hS _ hm).elim (fun z => by omega) (zneK w4 k2 rfl)) w4, hk.2 _ _ (fun hm => (hS _ hm).elim (fun z => by omega) (zneK w5 k2 rfl)) w5⟩
    · obtain rfl : i = n := by omega
      have ef : ffi (fput fa i co ro (nI l) dn he ga) i = ro * 20 + co := by unfold ffi; rw [e0, e1]
      have el : fle (fput fa i co ro (nI l) dn he ga) i = l := by unfold fle; rw [e2]; exact nI_clamp (by omega)
      rw [va_up_self, va_up_self, va_up_self, va_up_self, va_up_self, e0, e1, e3, e4, e5, ef, el]
      exact ⟨by omega, by omega, rfl, h4, h6⟩
  · rcases Nat.lt_or_ge i n with q | q
    · rcases Nat.lt_or_ge j n with q2 | q2
      · rw [va_up_ne _ _ (by omega), va_up_ne _ _ (by omega)] at e
        exact k4 i j q q2 e
      · obtain rfl : j = n := by omega
        rw [va_up_ne _ _ (by omega), va_up_self] at e
        have := zlt (k3 i q).2.2.2.1
        omega
    · rcases Nat.lt_or_ge j n with q2 | q2
      · obtain rfl : i = n := by omega
        rw [va_up_self, va_up_ne _ _ (by omega)] at e
        have := zlt (k3 j q2).2.2.2.1
        omega
      · omega
set_option maxHeartbeats 200000 in
theorem RS.new {E : zG} {ws : va_W} {rd ri : Nat → Int32} {nq pq fo pf sp ps : Nat} {dn ix : Int32} (h1 : 35 ≤ pq) (h2 : ws[pq]? = some (nq, zO4 E 10 (va_up (fun _ => none) 0 (some fo)))) (h3 : 35 ≤ pf) (h4 : ws[pf]? = some (fo, .inr (3, [.int ix, .ref sp]))) (h5 : 35 ≤ ps) (h6 : ws[ps]? = some (sp, .inr (5, [.int (rfi dn ix), .int (nI 20), .int dn]))) : RS E ws (upd rd 0 dn) (upd ri 0 ix) nq 1 := by
  refine Or.inr ⟨pq, _, fun _ => fo, fun _ => pf, fun _ => sp, fun _ => ps, h1, h2, fun i hi => ?_⟩
  obtain rfl : i = 0 := by omega
  exact ⟨h3, h5, va_up_self _ _ _, h4, h6⟩
set_option maxHeartbeats 200000 in
theorem RS.add {E : zG} {ws ws' : va_W} {S : List Nat} {rd ri : Nat → Int32} {eb n qe fo' pf sp' ps : Nat} {g : Nat → Option Nat} {fo qf sp qs : Nat → Nat} {dn ix : Int32} (k1 : 35 ≤ qe) (k2 : ws[qe]? = some (eb, zO4 E 10 g)) (k3 : ∀ i, i < n → 35 ≤ qf i ∧ 35 ≤ qs i ∧ g i = some (fo i) ∧ ws[qf i]? = some (fo i, .inr (3, [.int (ri i), .ref (sp i)])) ∧ ws[qs i]? = some (sp i, .inr (5, [.int (rfi (rd i) (ri i)), .int (nI 20), .int (rd i)]))) (hk : zK S ws ws') (hS : ∀ q ∈ S, q < 35 ∨ q = qe) (h2 : ws'[qe]? = some (eb, zO4 E 10 (va_up g n (some fo')))) (h3 : ws.length ≤ pf) (h4 : ws'[pf]? = some (fo', .inr (3, [.int ix, .ref sp']))) (h5 : ws.length ≤ ps) (h6 : ws'[ps]? = some (sp', .inr (5, [.int (rfi dn ix), .int (nI 20), .int dn]))) : RS E ws' (upd rd n dn) (upd ri n ix) eb (n + 1) := by
  have hlen := zlt k2
  refine Or.inr ⟨qe, _, va_up fo n fo', va_up qf n pf, va_up sp n sp', va_up qs n ps, k1, h2, fun i hi => ?_⟩
  rcases Nat.lt_or_ge i n with q | q
  · obtain ⟨w1, w2, w3, w4, w5⟩ := k3 i q
    rw [va_up_ne _ _ (by omega), va_up_ne _ _ (by omega), va_up_ne _ _ (by omega), va_up_ne _ _ (by omega), va_up_ne _ _ (by omega), show upd rd n dn i = rd i from if_neg (by omega), show upd ri n ix i = ri i from if_neg (by omega)]
    exact ⟨w1, w2, w3, hk.2 _ _ (fun hm => (hS _ hm).elim (fun z => by omega) (zneK w4 k2 rfl)) w4, hk.2 _ _ (fun hm => (hS _ hm).elim (fun z => by omega) (zneK w5 k2 rfl)) w5⟩
  · obtain rfl : i = n := by omega
    rw [va_up_self, va_up_self, va_up_self, va_up_self, va_up_self, show upd rd i dn i = dn from if_pos rfl, show upd ri i ix i = ix from if_pos rfl]
    exact ⟨by omega, by omega, rfl, h4, h6⟩
set_option maxHeartbeats 200000 in
/-- a fence's height and gap, changed -/
theorem chg_ne {fa : Nat → Int32} {k i : Nat} {he ga : Int32} (h : i ≠ k) (j : Nat) (hj : j < 6) : upd (upd fa (6 * k + 4) he) (6 * k + 5) ga (6 * i + j) = fa (6 * i + j) := by
  unfold upd
  rw [if_neg (by omega), if_neg (by omega)]
set_option maxHeartbeats 200000 in
theorem chg_lo {fa : Nat → Int32} {k : Nat} {he ga : Int32} (j : Nat) (hj : j < 4) : upd (upd fa (6 * k + 4) he) (6 * k + 5) ga (6 * k + j) = fa (6 * k + j) := by
  unfold upd
  rw [if_neg (by omega), if_neg (by omega)]
set_option maxHeartbeats 200000 in
theorem chg_4 {fa : Nat → Int32} {k : Nat} {he ga : Int32} : upd (upd fa (6 * k + 4) he) (6 * k + 5) ga (6 * k + 4) = he ∧ upd (upd fa (6 * k + 4) he) (6 * k + 5) ga (6 * k + 5) = ga := by
  unfold upd
  rw [if_neg (by omega), if_pos rfl, if_pos rfl]
  exact ⟨rfl, rfl⟩
set_option maxHeartbeats 200000 in
theorem FS.chg {E : zG} {ws ws' : va_W} {S : List Nat} {fa : Nat → Int32} {ea n qe k : Nat} {g : Nat → Option Nat} {fo qf sp qs : Nat → Nat} {he ga : Int32} (hF : FSa E ws fa ea n qe g fo qf sp qs) (hk9 : k < n) (hk : zK S ws ws') (hS : ∀ q ∈ S, q < 35 ∨ q = qf k) (h2 : ws'[qf k]? = some (fo k, .inr (1, [.int (fa (6 * k + 0)), .int (fa (6 * k + 1)), .ref (sp k), .int he, .int ga]))) : FS E ws' (upd (upd fa (6 * k + 4) he) (6 * k + 5) ga) ea n := by
  obtain ⟨k1, k2, k3, k4⟩ := hF
  obtain ⟨z1, z2, z3, z4, z5⟩ := k3 k hk9
  refine Or.inr ⟨qe, g, fo, qf, sp, qs, k1, hk.2 _ _ (fun hm => (hS _ hm).elim (fun z => by omega) (zneK k2 z4 rfl)) k2, fun i hi => ?_, k4⟩
  obtain ⟨w1, w2, w3, w4, w5⟩ := k3 i hi
  have hst := hk.2 _ _ (fun hm => (hS _ hm).elim (fun z => by omega) (zneK w5 z4 rfl)) w5
  by_cases q : i = k
  · subst q
    have ef : ffi (upd (upd fa (6 * i + 4) he) (6 * i + 5) ga) i = ffi fa i := by unfold ffi; rw [chg_lo 1 (by decide), chg_lo 0 (by decide)]
    have el : fle (upd (upd fa (6 * i + 4) he) (6 * i + 5) ga) i = fle fa i := by unfold fle; rw [chg_lo 2 (by decide)]
    rw [chg_lo 0 (by decide), chg_lo 1 (by decide), chg_lo 3 (by decide), chg_4.1, chg_4.2, ef, el]
    exact ⟨w1, w2, w3, h2, hst⟩
  · have ef : ffi (upd (upd fa (6 * k + 4) he) (6 * k + 5) ga) i = ffi fa i := by unfold ffi; rw [chg_ne q 1 (by decide), chg_ne q 0 (by decide)]
    have el : fle (upd (upd fa (6 * k + 4) he) (6 * k + 5) ga) i = fle fa i := by unfold fle; rw [chg_ne q 2 (by decide)]
    rw [chg_ne q 0 (by decide), chg_ne q 1 (by decide), chg_ne q 3 (by decide), chg_ne q 4 (by decide), chg_ne q 5 (by decide), ef, el]
    exact ⟨w1, w2, w3, hk.2 _ _ (fun hm => (hS _ hm).elim (fun z => by omega) (fun e => q (k4 i k hi hk9 e))) w4, hst⟩
set_option maxHeartbeats 200000 in
theorem okF_chg {fa : Nat → Int32} {n k : Nat} {he ga : Int32} (hok : ∀ j, j < n → okF fa j) (h1 : inR he 1 9) (h2 : inR ga 0 3) : ∀ j, j < n → okF (upd (upd fa (6 * k + 4) he) (6 * k + 5) ga) j := by
  intro j hj
  by_cases q : j = k
  · subst q
    obtain ⟨hn, e1, e2, rfl⟩ := inR_1n (b := 9) (by decide) h1
    obtain ⟨gn, e3, rfl⟩ := inR_0n (b := 3) (by decide) h2
    obtain ⟨co, ro, le, he', ga', w1, w2, w3, w4, w5, w6, w7, w8, w9, w10⟩ := hok j hj
    refine ⟨co, ro, le, hn, gn, (chg_lo 0 (by decide)).trans w1, (chg_lo 1 (by decide)).trans w2, (chg_lo 2 (by decide)).trans w3, chg_4.1, chg_4.2, w6, e1, e2, e3, ?_⟩
    rw [chg_lo 3 (by decide)]
    exact w10
  · have w := hok j hj
    unfold okF at w ⊢
    rw [chg_ne q 0 (by decide), chg_ne q 1 (by decide), chg_ne q 2 (by decide), chg_ne q 3 (by decide), chg_ne q 4 (by decide), chg_ne q 5 (by decide)]
    exact w
set_option maxHeartbeats 200000 in
theorem tk_lo {fa : Nat → Int32} {k n i : Nat} (h : i < k) (j : Nat) (hj : j < 6) : ftake fa k n (6 * i + j) = fa (6 * i + j) := if_neg (by omega)
set_option maxHeartbeats 200000 in
theorem tk_hi {fa : Nat → Int32} {k n i : Nat} (h : k ≤ i) (h2 : i < n) (j : Nat) (hj : j < 6) : ftake fa k n (6 * i + j) = fa (6 * (i + 1) + j) := by
  rw [show ftake fa k n (6 * i + j) = fa (6 * i + j + 6) from if_pos (by omega)]
  congr 1
  omega
set_option maxHeartbeats 200000 in
theorem FS.tak {E : zG} {ws ws' : va_W} {S : List Nat} {fa : Nat → Int32} {ea n qe k : Nat} {g g2 : Nat → Option Nat} {fo qf sp qs : Nat → Nat} (hF : FSa E ws fa ea n qe g fo qf sp qs) (hk9 : k < n) (hk : zK S ws ws') (hS : ∀ q ∈ S, q < 35 ∨ q = qe) (h2 : ws'[qe]? = some (ea, zO4 E 10 g2)) (hg : ∀ j : Nat, j < n - 1 → g2 j = if j < k then g j else g (j + 1)) : FS E ws' (ftake fa k (n - 1)) ea (n - 1) := by
  obtain ⟨k1, k2, k3, k4⟩ := hF
  have hst : ∀ i, i < n → ws'[qf i]? = some (fo i, .inr (1, [.int (fa (6 * i + 0)), .int (fa (6 * i + 1)), .ref (sp i), .int (fa (6 * i + 4)), .int (fa (6 * i + 5))])) ∧ ws'[qs i]? = some (sp i, .inr (5, [.int (ffi fa i), .int (nI (fle fa i)), .int (fa (6 * i + 3))])) := fun i hi => by
    obtain ⟨w1, w2, w3, w4, w5⟩ := k3 i hi
    exact ⟨hk.2 _ _ (fun hm => (hS _ hm).elim (fun z => by omega) (zneK w4 k2 rfl)) w4, hk.2 _ _ (fun hm => (hS _ hm).elim (fun z => by omega) (zneK w5 k2 rfl)) w5⟩
  refine Or.inr ⟨qe, g2, fun i => if i < k then fo i else fo (i + 1), fun i => if i < k then qf i else qf (i + 1), fun i => if i < k then sp i else sp (i + 1), fun i => if i < k then qs i else qs (i + 1), k1, h2, fun i hi => ?_, fun i j hi hj e => ?_⟩
  · dsimp only
    rcases Nat.lt_or_ge i k with q | q
    · obtain ⟨w1, w2, w3, -, -⟩ := k3 i (by omega)
      obtain ⟨w4, w5⟩ := hst i (by omega)
      have ef : ffi (ftake fa k (n - 1)) i = ffi fa i := by unfold ffi; rw [tk_lo q 1 (by decide), tk_lo q 0 (by decide)]
      have el : fle (ftake fa k (n - 1)) i = fle fa i := by unfold fle; rw [tk_lo q 2 (by decide)]
      rw [if_pos q, if_pos q, if_pos q, if_pos q, hg i hi, if_pos q, tk_lo q 0 (by decide), tk_lo q 1 (by decide), tk_lo q 3 (by decide), tk_lo q 4 (by decide), tk_lo q 5 (by decide), ef, el]
      exact ⟨w1, w2, w3, w4, w5⟩
    · obtain ⟨w1, w2, w3, -, -⟩ := k3 (i + 1) (by omega)
      obtain ⟨w4, w5⟩ := hst (i + 1) (by omega)
      have ef : ffi (ftake fa k (n - 1)) i = ffi fa (i + 1) := by unfold ffi; rw [tk_hi q hi 1 (by decide), tk_hi q hi 0 (by decide)]
      have el : fle (ftake fa k (n - 1)) i = fle fa (i + 1) := by unfold fle; rw [tk_hi q hi 2 (by decide)]
      rw [if_neg (by omega), if_neg (by omega), if_neg (by omega), if_neg (by omega), hg i hi, if_neg (by omega), tk_hi q hi 0 (by decide), tk_hi q hi 1 (by decide), tk_hi q hi 3 (by decide), tk_hi q hi 4 (by decide), tk_hi q hi 5 (by decide), ef, el]
      exact ⟨w1, w2, w3, w4, w5⟩
  · dsimp only at e
    split at e <;> split at e
    · exact k4 i j (by omega) (by omega) e
    · have := k4 i (j + 1) (by omega) (by omega) e; omega
    · have := k4 (i + 1) j (by omega) (by omega) e; omega
    · have := k4 (i + 1) (j + 1) (by omega) (by omega) e; omega
set_option maxHeartbeats 200000 in
theorem okF_tak {fa : Nat → Int32} {n k : Nat} (hok : ∀ j, j < n → okF fa j) (hk : k < n) : ∀ j, j < n - 1 → okF (ftake fa k (n - 1)) j := by
  intro j hj
  rcases Nat.lt_or_ge j k with q | q
  · have w := hok j (by omega)
    unfold okF at w ⊢
    rw [tk_lo q 0 (by decide), tk_lo q 1 (by decide), tk_lo q 2 (by decide), tk_lo q 3 (by decide), tk_lo q 4 (by decide), tk_lo q 5 (by decide)]
    exact w
  · have w := hok (j + 1) (by omega)
    unfold okF at w ⊢
    rw [tk_hi q hj 0 (by decide), tk_hi q hj 1 (by decide), tk_hi q hj 2 (by decide), tk_hi q hj 3 (by decide), tk_hi q hj 4 (by decide), tk_hi q hj 5 (by decide)]
    exact w
set_option maxHeartbeats 200000 in
theorem okR_add {rd ri : Nat → Int32} {n : Nat} {dn ix : Int32} (h : ∀ q, q < n → okR rd ri q) (h1 : is01 dn) (h2 : inR ix 0 19) : ∀ q, q < n + 1 → okR (upd rd n dn) (upd ri n ix) q := by
  intro q hq
  rcases Nat.lt_or_ge q n with z | z
  · have w := h q z
    unfold okR at w ⊢
    rw [show upd rd n dn q = rd q from if_neg (by omega), show upd ri n ix q = ri q from if_neg (by omega)]
    exact w
  · obtain rfl : q = n := by omega
    obtain ⟨k, hk, rfl⟩ := inR_0n (b := 19) (by decide) h2
    unfold okR
    rw [show upd rd q dn q = dn from if_pos rfl, show upd ri q (nI k) q = nI k from if_pos rfl]
    exact ⟨h1, k, by omega, rfl⟩
set_option maxHeartbeats 200000 in
/-- what a fence's code 0 says -/
theorem kF_in {co ro le dn he ga n : Int32} (h : kFence co ro le dn he ga n = 0) : inR le 1 20 ∧ inR he 1 9 ∧ inR ga 0 3 ∧ inR co 0 (20 - (if dn = 0 then le else 1)) ∧ inR ro 0 (20 - (if dn = 0 then 1 else le)) := by
  unfold kFence at h
  by_cases q1 : ¬ inR le 1 20 ∨ ¬ inR he 1 9 ∨ ¬ inR ga 0 3
  · rw [if_pos q1] at h; exact absurd h (by decide)
  · rw [if_neg q1] at h
    by_cases q2 : ¬ inR co 0 (20 - (if dn = 0 then le else 1)) ∨ ¬ inR ro 0 (20 - (if dn = 0 then 1 else le))
    · rw [if_pos q2] at h; exact absurd h (by decide)
    · refine ⟨Classical.byContradiction fun z => q1 (Or.inl z), Classical.byContradiction fun z => q1 (Or.inr (Or.inl z)), Classical.byContradiction fun z => q1 (Or.inr (Or.inr z)), Classical.byContradiction fun z => q2 (Or.inl z), Classical.byContradiction fun z => q2 (Or.inr z)⟩
set_option maxHeartbeats 200000 in
theorem okF_add {fa : Nat → Int32} {n : Nat} {co ro le dn he ga nn : Int32} (hok : ∀ j, j < n → okF fa j) (hd : dn = 0 ∨ dn = 1) (h : kFence co ro le dn he ga nn = 0) : (∃ l : Nat, l ≤ 20 ∧ le = nI l) ∧ ∀ j, j < n + 1 → okF (fput fa n co ro le dn he ga) j := by
  obtain ⟨h1, h2, h3, h4, h5⟩ := kF_in h
  obtain ⟨l, a1, a2, rfl⟩ := inR_1n (b := 20) (by decide) h1
  obtain ⟨hn, b1, b2, rfl⟩ := inR_1n (b := 9) (by decide) h2
  obtain ⟨gn, c1, rfl⟩ := inR_0n (b := 3) (by decide) h3
  refine ⟨⟨l, a2, rfl⟩, ?_⟩
  rcases hd with rfl | rfl
  · rw [if_pos rfl, show (20 : Int32) - nI l = nI (20 - l) from pk_sub (a := 20) (b := l) a2] at h4
    rw [if_pos rfl] at h5
    obtain ⟨c, d1, rfl⟩ := inR_0n (by omega) h4
    obtain ⟨r, e1, rfl⟩ := inR_0n (b := 19) (by decide) h5
    exact okF_put hok rfl rfl rfl rfl rfl a1 b1 b2 c1 (Or.inl ⟨rfl, by omega, by omega⟩)
  · rw [if_neg (by decide)] at h4
    rw [if_neg (by decide), show (20 : Int32) - nI l = nI (20 - l) from pk_sub (a := 20) (b := l) a2] at h5
    obtain ⟨c, d1, rfl⟩ := inR_0n (b := 19) (by decide) h4
    obtain ⟨r, e1, rfl⟩ := inR_0n (by omega) h5
    exact okF_put hok rfl rfl rfl rfl rfl a1 b1 b2 c1 (Or.inr ⟨rfl, by omega, by omega⟩)
set_option maxHeartbeats 200000 in
theorem FS.congr {E : zG} {ws : va_W} {fa fb : Nat → Int32} {ea n : Nat} (h : FS E ws fa ea n) (e : ∀ j, j < 6 * n → fb j = fa j) : FS E ws fb ea n := by
  rcases h with h | ⟨qe, g, fo, qf, sp, qs, k1, k2, k3, k4⟩
  · exact Or.inl h
  · refine Or.inr ⟨qe, g, fo, qf, sp, qs, k1, k2, fun i hi => ?_, k4⟩
    have ef : ffi fb i = ffi fa i := by unfold ffi; rw [e _ (by omega), e _ (by omega)]
    have el : fle fb i = fle fa i := by unfold fle; rw [e _ (by omega)]
    rw [e (6 * i + 0) (by omega), e (6 * i + 1) (by omega), e (6 * i + 3) (by omega), e (6 * i + 4) (by omega), e (6 * i + 5) (by omega), ef, el]
    exact k3 i hi
set_option maxHeartbeats 200000 in
theorem okF_congr {fa fb : Nat → Int32} {n : Nat} (h : ∀ j, j < n → okF fa j) (e : ∀ j, j < 6 * n → fb j = fa j) : ∀ j, j < n → okF fb j := by
  intro j hj
  have w := h j hj
  unfold okF at w ⊢
  rw [e (6 * j + 0) (by omega), e (6 * j + 1) (by omega), e (6 * j + 2) (by omega), e (6 * j + 3) (by omega), e (6 * j + 4) (by omega), e (6 * j + 5) (by omega)]
  exact w
/-- the two lists have no array in common -/
def SEP (E : zG) (ea eb : Nat) : Prop := ea ≠ eb ∨ (ea = E.2.2.1 ∧ eb = E.2.2.1)
set_option maxHeartbeats 200000 in
theorem SEP.ne {E : zG} {ea eb qe : Nat} {ws : va_W} {c : va_E} (h : SEP E ea eb) (hD : va_D (zA E) ws) (hE1 : ¬ zA E E.2.2.1) (he : ws[qe]? = some (ea, c)) : ea ≠ eb := by
  rcases h with h | ⟨h1, -⟩
  · exact h
  · subst h1; exact absurd (hD.2 _ _ he) hE1
set_option maxHeartbeats 200000 in
theorem SEP.ne2 {E : zG} {ea eb qe : Nat} {ws : va_W} {c : va_E} (h : SEP E ea eb) (hD : va_D (zA E) ws) (hE1 : ¬ zA E E.2.2.1) (he : ws[qe]? = some (eb, c)) : eb ≠ ea := by
  rcases h with h | ⟨-, h1⟩
  · exact h.symm
  · subst h1; exact absurd (hD.2 _ _ he) hE1
set_option maxHeartbeats 200000 in
theorem sep_R {E : zG} {ws ws' : va_W} {S : List Nat} {rd ri : Nat → Int32} {eb n pq nq : Nat} {c : va_E} (hR : RS E ws rd ri eb n) (hk : zK S ws ws') (hS : ∀ q ∈ S, q < 35) (hD : va_D (zA E) ws') (hE1 : ¬ zA E E.2.2.1) (h1 : ws'[pq]? = some (nq, c)) (hl : ws.length ≤ pq) : nq ≠ eb := by
  rcases hR with ⟨-, e⟩ | ⟨qe, g, fo, qf, sp, qs, k1, k2, -⟩
  · intro q; rw [q, e] at h1; exact hE1 (hD.2 _ _ h1)
  · intro q
    have k3 := hk.2 _ _ (fun hm => absurd (hS _ hm) (by omega)) k2
    have := hD.1 _ _ _ _ h1 k3 q
    have := zlt k2
    omega
set_option maxHeartbeats 200000 in
theorem sep_F {E : zG} {ws ws' : va_W} {S : List Nat} {fa : Nat → Int32} {ea n pq nq : Nat} {c : va_E} (hF : FS E ws fa ea n) (hk : zK S ws ws') (hS : ∀ q ∈ S, q < 35) (hD : va_D (zA E) ws') (hE1 : ¬ zA E E.2.2.1) (h1 : ws'[pq]? = some (nq, c)) (hl : ws.length ≤ pq) : ea ≠ nq := by
  rcases hF with ⟨-, e⟩ | ⟨qe, g, fo, qf, sp, qs, k1, k2, -⟩
  · intro q; rw [← q, e] at h1; exact hE1 (hD.2 _ _ h1)
  · intro q
    have k3 := hk.2 _ _ (fun hm => absurd (hS _ hm) (by omega)) k2
    have := hD.1 _ _ _ _ h1 k3 q.symm
    have := zlt k2
    omega
set_option maxHeartbeats 200000 in
theorem kSup0 {v : Int32} (h : kSup v = 0) : BI 0 40 v := by
  unfold kSup at h
  by_cases q : inR v 0 40
  · exact inR_BI (a := 0) (b := 40) (by decide) (by decide) q
  · rw [if_neg q] at h; exact absurd h (by decide)
set_option maxHeartbeats 200000 in
theorem kFall0 {v : Int32} (h : kFall v = 0) : BI 1 30 v := by
  unfold kFall at h
  by_cases q : inR v 1 30
  · exact inR_BI (a := 1) (b := 30) (by decide) (by decide) q
  · rw [if_neg q] at h; exact absurd h (by decide)
set_option maxHeartbeats 200000 in
theorem kBlow0 {wd stg du : Int32} (h : kBlow wd stg du = 0) : BI 1 9 stg := by
  unfold kBlow at h
  by_cases q : ¬ inR wd 0 3
  · rw [if_pos q] at h; exact absurd h (by decide)
  · rw [if_neg q] at h
    by_cases q2 : ¬ inR stg 1 9 ∨ ¬ inR du 1 24
    · rw [if_pos q2] at h; exact absurd h (by decide)
    · exact inR_BI (a := 1) (b := 9) (by decide) (by decide) (Classical.byContradiction fun z => q2 (Or.inl z))
set_option maxHeartbeats 200000 in
theorem kAdv0 {wd stg he : Int32} (h : kAdvise wd stg he = 0) : wd = 0 ∨ wd = 1 ∨ wd = 2 ∨ wd = 3 := by
  unfold kAdvise at h
  by_cases q : ¬ inR wd 0 3
  · rw [if_pos q] at h; exact absurd h (by decide)
  · exact inR03 (Classical.byContradiction q)
set_option maxHeartbeats 200000 in
theorem kChg0 {v n he ga : Int32} (h : kChange v n he ga = 0) : inR he 1 9 ∧ inR ga 0 3 := by
  unfold kChange at h
  by_cases q : ¬ inR v 0 (n - 1)
  · rw [if_pos q] at h; exact absurd h (by decide)
  · rw [if_neg q] at h
    by_cases q2 : ¬ inR he 1 9 ∨ ¬ inR ga 0 3
    · rw [if_pos q2] at h; exact absurd h (by decide)
    · exact ⟨Classical.byContradiction fun z => q2 (Or.inl z), Classical.byContradiction fun z => q2 (Or.inr z)⟩
set_option maxHeartbeats 200000 in
theorem kRoad0 {ix n : Int32} (h : kRoad ix n = 0) : inR ix 0 19 := by
  unfold kRoad at h
  by_cases q : ¬ inR ix 0 19
  · rw [if_pos q] at h; exact absurd h (by decide)
  · exact Classical.byContradiction q
set_option maxHeartbeats 200000 in
theorem b01z : b01 0 = 0 := rfl
set_option maxHeartbeats 200000 in
theorem b01o : b01 1 = 1 := rfl
