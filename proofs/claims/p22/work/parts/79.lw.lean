/-! ===== the law's world: the class's cells 0 to 10, the law's own field 11, its snow 14 to 34 ===== -/
/-- no cell of the two lists -/
def noL (E : zG) (c : va_E) : Prop := zkd c ≠ 1 ∧ zkd c ≠ 3 ∧ zkd c ≠ 5 ∧ ∀ n g, c ≠ zO4 E n g
theorem noL_I {E : zG} {n : Nat} {f : Nat → Int32} : noL E (zI4 E n f) := ⟨by show 100 ≠ 1; decide, by show 100 ≠ 3; decide, by show 100 ≠ 5; decide, fun m g h => absurd (show (100 : Nat) = 102 from congrArg zkd h) (by decide)⟩
theorem noL_A {E : zG} (hne : E.2.1.2.1 ≠ E.2.1.2.2) {n : Nat} {f : Nat → Option Nat} : noL E (zA4 E n f) := ⟨by show 102 ≠ 1; decide, by show 102 ≠ 3; decide, by show 102 ≠ 5; decide, fun m g h => hne (congrArg (fun z : va_E => match z with | .inl q => q.1 | .inr _ => E.2.1.2.1) h).symm⟩
theorem noL_Z {E : zG} {vs : List Value} {k : Nat} (h1 : k ≠ 1) (h3 : k ≠ 3) (h5 : k ≠ 5) : noL E (.inr (k, vs)) := ⟨h1, h3, h5, fun m g h => by cases h⟩
theorem FS.keepS {E : zG} {ws ws' : va_W} {S : List Nat} {fa : Nat → Int32} {ea n : Nat} (h : FS E ws fa ea n) (hk : zK S ws ws') (hS : ∀ q ∈ S, q < 35 ∨ ∃ a c, ws[q]? = some (a, c) ∧ noL E c) : FS E ws' fa ea n := by
  rcases h with h | ⟨qe, g, fo, qf, sp, qs, k1, k2, k3, k4⟩
  · exact Or.inl h
  · have hq : ∀ q a c', 35 ≤ q → ws[q]? = some (a, c') → ¬ noL E c' → q ∉ S := fun q a c' hl he hn hm => by
      rcases hS q hm with z | ⟨a2, c2, z1, z2⟩
      · omega
      · rw [he] at z1
        cases z1
        exact hn z2
    refine Or.inr ⟨qe, g, fo, qf, sp, qs, k1, hk.2 _ _ (hq _ _ _ k1 k2 (fun z => z.2.2.2 _ _ rfl)) k2, fun i hi => ?_, k4⟩
    obtain ⟨w1, w2, w3, w4, w5⟩ := k3 i hi
    exact ⟨w1, w2, w3, hk.2 _ _ (hq _ _ _ w1 w4 (fun z => z.1 rfl)) w4, hk.2 _ _ (hq _ _ _ w2 w5 (fun z => z.2.2.1 rfl)) w5⟩
theorem RS.keepS {E : zG} {ws ws' : va_W} {S : List Nat} {rd ri : Nat → Int32} {eb n : Nat} (h : RS E ws rd ri eb n) (hk : zK S ws ws') (hS : ∀ q ∈ S, q < 35 ∨ ∃ a c, ws[q]? = some (a, c) ∧ noL E c) : RS E ws' rd ri eb n := by
  rcases h with h | ⟨qe, g, fo, qf, sp, qs, k1, k2, k3⟩
  · exact Or.inl h
  · have hq : ∀ q a c', 35 ≤ q → ws[q]? = some (a, c') → ¬ noL E c' → q ∉ S := fun q a c' hl he hn hm => by
      rcases hS q hm with z | ⟨a2, c2, z1, z2⟩
      · omega
      · rw [he] at z1
        cases z1
        exact hn z2
    refine Or.inr ⟨qe, g, fo, qf, sp, qs, k1, hk.2 _ _ (hq _ _ _ k1 k2 (fun z => z.2.2.2 _ _ rfl)) k2, fun i hi => ?_⟩
    obtain ⟨w1, w2, w3, w4, w5⟩ := k3 i hi
    exact ⟨w1, w2, w3, hk.2 _ _ (hq _ _ _ w1 w4 (fun z => z.2.1 rfl)) w4, hk.2 _ _ (hq _ _ _ w2 w5 (fun z => z.2.2.1 rfl)) w5⟩
/-- nothing goes, and rows of ints from the place 35 on stay -/
def zKi (E : zG) (ws ws' : va_W) : Prop := ws.length ≤ ws'.length ∧ ∀ (p a n : Nat) (f : Nat → Int32), 35 ≤ p → ws[p]? = some (a, zI4 E n f) → ws'[p]? = some (a, zI4 E n f)
theorem zKi.rf {E : zG} {ws : va_W} : zKi E ws ws := ⟨Nat.le_refl _, fun _ _ _ _ _ h => h⟩
theorem zKi.step {E : zG} {S : List Nat} {w0 w1 w2 : va_W} (h : zKi E w0 w1) (hk : zK S w1 w2) (hS : ∀ (q a n : Nat) (f : Nat → Int32), 35 ≤ q → q < w0.length → w1[q]? = some (a, zI4 E n f) → q ∉ S) : zKi E w0 w2 := ⟨Nat.le_trans h.1 hk.1, fun p a n f hp h1 => by
  have h2 := h.2 p a n f hp h1
  exact hk.2 p _ (hS p a n f hp (zlt h1) h2) h2⟩
theorem SE.keepI {E : zG} {ws ws' : va_W} {g : Nat → Option Nat} {n : Nat} {fa : Nat → Int32} (h : SE E ws g n fa) (hk : zKi E ws ws') : SE E ws' g n fa := fun j hj => by
  obtain ⟨a, q, f, h1, h2, h3, h4⟩ := h j hj
  exact ⟨a, q, f, h1, h2, hk.2 _ _ _ _ h2 h3, h4⟩
theorem SR.keepI {E : zG} {ws ws' : va_W} {g : Nat → Option Nat} {n : Nat} {rd ri : Nat → Int32} (h : SR E ws g n rd ri) (hk : zKi E ws ws') : SR E ws' g n rd ri := fun j hj => by
  obtain ⟨a, q, f, h1, h2, h3, h4⟩ := h j hj
  exact ⟨a, q, f, h1, h2, hk.2 _ _ _ _ h2 h3, h4⟩
/-- what holds between two acts -/
def LW (E : zG) (x fl rl wh gr gra tr tra sc ha va z sa : Nat) (gs : Nat → Option Nat) (ws : va_W) : Prop := ∃ (mc1 mc2 lim sup off plo hrs : Int32) (ea eb nf nr fe qf ro qr : Nat) (fa rd ri sn t9 hf gf : Nat → Int32) (g gq : Nat → Option Nat),
  (ws[0]? = some (x, .inr (7, [.ref fl, .ref rl, .ref wh, .ref gr, .ref tr, .ref sc, .int lim, .int sup, .int off, .int plo, .int hrs]))) ∧
  (ws[1]? = some (fl, .inr (0, [.int mc1, .ref ea, .int (nI nf)]))) ∧
  (ws[2]? = some (rl, .inr (0, [.int mc2, .ref eb, .int (nI nr)]))) ∧
  (ws[3]? = some (wh, .inr (5, [.int (0 * 20 + 0), .int (nI 400), .int 0]))) ∧
  (ws[4]? = some (gr, .inr (2, [.ref gra]))) ∧
  (ws[5]? = some (gra, zI4 E 400 sn)) ∧
  (ws[6]? = some (tr, .inr (2, [.ref tra]))) ∧
  (ws[7]? = some (tra, zI4 E 400 t9)) ∧
  (ws[8]? = some (sc, .inr (4, [.ref ha, .ref va]))) ∧
  (ws[9]? = some (ha, zI4 E 400 hf)) ∧
  (ws[10]? = some (va, zI4 E 400 gf)) ∧
  (ws[11]? = some (z, .inr (8, [.ref fe, .ref ro, .ref sa, .int lim, .int sup, .int off, .int plo, .int hrs]))) ∧
  (ws[14]? = some (sa, zA4 E 20 gs)) ∧
  (ws[qf]? = some (fe, zA4 E nf g)) ∧
  (ws[qr]? = some (ro, zA4 E nr gq)) ∧
  (11 < qf ∧ 11 < qr) ∧ (FS E ws fa ea nf) ∧ (RS E ws rd ri eb nr) ∧ (SEP E ea eb) ∧ (SE E ws g nf fa) ∧ (SR E ws gq nr rd ri) ∧ (SN E ws 15 gs sn) ∧ (nf ≤ 10) ∧ (nr ≤ 4) ∧ (∀ j, j < nf → okF fa j) ∧ (∀ q, q < nr → okR rd ri q) ∧ (RB 200 sn) ∧ (BI 0 40 sup) ∧ (BI 1 60 lim) ∧ (35 ≤ ws.length)
