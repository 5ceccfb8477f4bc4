/-! ===== what the shelter holds does not count before there is a shelter: an hour depends on the snow alone ===== -/
def sameZ (x y : PC) : Prop := x.1 = y.1 ∧ x.2.1 = y.2.1 ∧ x.2.2.1 = y.2.2.1 ∧ x.2.2.2.1 = y.2.2.2.1 ∧ (x.2.2.1 = 0 ∨ x.2.2.2.2 = y.2.2.2.2)
theorem pcS_sameZ {stg : Int32} {hf gf : Nat → Int32} {c : Int32} {x y : PC} (h : sameZ x y) : sameZ (pcS stg hf gf c x) (pcS stg hf gf c y) := by
  obtain ⟨f, ca, sh, sw, ho⟩ := x
  obtain ⟨f2, ca2, sh2, sw2, ho2⟩ := y
  obtain ⟨h1, h2, h3, h4, h5⟩ := h
  dsimp only at h1 h2 h3 h4 h5
  subst h1 h2 h3 h4
  rcases h5 with h5 | h5
  · subst h5
    unfold pcS
    dsimp only
    by_cases q : ¬ gd hf c ≤ 0 ∧ ¬ 2 * gd hf c < 0
    · rw [if_pos q, if_pos q]
      exact ⟨rfl, rfl, rfl, rfl, Or.inr rfl⟩
    · rw [if_neg q, if_neg q, if_neg (fun z => z.1 (by decide)), if_neg (fun z => z.1 (by decide))]
      exact ⟨rfl, rfl, rfl, rfl, Or.inl (by show mx (0 - 1) 0 = 0; decide)⟩
  · subst h5
    exact ⟨rfl, rfl, rfl, rfl, Or.inr rfl⟩
theorem plS_sameZ {stg : Int32} {hf gf : Nat → Int32} {a b : Int32} {x y : PC} (h : sameZ x y) : ∀ n : Nat, sameZ (plS stg hf gf a b x n) (plS stg hf gf a b y n)
  | 0 => h
  | n + 1 => pcS_sameZ (plS_sameZ h n)
theorem lnS_same {stg sup : Int32} {hf gf : Nat → Int32} {a b : Int32} {x y : PC} (h : x.1 = y.1) : (lnS stg sup hf gf a b x).1 = (lnS stg sup hf gf a b y).1 ∧ (lnS stg sup hf gf a b x).2.1 = (lnS stg sup hf gf a b y).2.1 := by
  have k := plS_sameZ (stg := stg) (hf := hf) (gf := gf) (a := a) (b := b) (x := (x.1, sup, 0, 0, x.2.2.2.2)) (y := (y.1, sup, 0, 0, y.2.2.2.2)) ⟨h, rfl, rfl, rfl, Or.inl rfl⟩ 20
  exact ⟨k.1, k.2.1⟩
theorem cfS_same {stg sup : Int32} {hf gf : Nat → Int32} {a b d : Int32} {x y : PC} (h : x.1 = y.1) : ∀ n : Nat, (cfS stg sup hf gf a b d x n).1 = (cfS stg sup hf gf a b d y n).1 ∧ (cfS stg sup hf gf a b d x n).2.1 = (cfS stg sup hf gf a b d y n).2.1
  | 0 => ⟨rfl, h⟩
  | n + 1 => by
    have k := cfS_same (stg := stg) (sup := sup) (hf := hf) (gf := gf) (a := a) (b := b) (d := d) h n
    have z := lnS_same (stg := stg) (sup := sup) (hf := hf) (gf := gf) (a := a + nI n * d) (b := b) k.2
    refine ⟨?_, z.1⟩
    show _ + _ = _ + _
    rw [k.1, z.2]
theorem boS_same {stg sup : Int32} {hf gf : Nat → Int32} {a b d : Int32} {x y : PC} (h : x.1 = y.1) : ∀ n : Nat, (boS stg sup hf gf a b d x n).1 = (boS stg sup hf gf a b d y n).1 ∧ (boS stg sup hf gf a b d x n).2.1 = (boS stg sup hf gf a b d y n).2.1
  | 0 => ⟨rfl, h⟩
  | n + 1 => by
    have k := boS_same (stg := stg) (sup := sup) (hf := hf) (gf := gf) (a := a) (b := b) (d := d) h n
    have z := cfS_same (stg := stg) (sup := sup) (hf := hf) (gf := gf) (a := a) (b := b) (d := d) k.2 20
    refine ⟨?_, z.2⟩
    show _ + _ = _ + _
    rw [k.1, z.1]
/-- the cells of a wind's lines lie on the field -/
theorem win_ok {w : Int32} (hw : w = 0 ∨ w = 1 ∨ w = 2 ∨ w = 3) : ∀ i : Nat, i < 20 → ∀ k : Nat, k < 20 → vp_in (wfc w + nI i * wnl w + nI k * wnc w) 400 := by
  unfold vp_in
  rcases hw with rfl | rfl | rfl | rfl <;> decide +kernel
/-- by the snow alone: what an hour, or some hours, carry off, and what lies then -/
def hrX (sn : Nat → Int32) : PC := (sn, 0, 0, 0, 0)
def hrS (stg sup : Int32) (hf gf : Nat → Int32) (wd : Int32) (sn : Nat → Int32) (n : Nat) : Int32 × PC := cfS stg sup hf gf (wfc wd) (wnc wd) (wnl wd) (hrX sn) n
def hsS (stg sup : Int32) (hf gf : Nat → Int32) (wd : Int32) (sn : Nat → Int32) (n : Nat) : Int32 × PC := boS stg sup hf gf (wfc wd) (wnc wd) (wnl wd) (hrX sn) n
theorem lv_repl {ls : Array Slot} {n : Nat} {l l2 : List (Nat × Value)} (h : lv_has ls n l) (e : l = l2) : lv_has ls n l2 := e ▸ h
theorem hrS_1 {stg sup : Int32} {hf gf sn : Nat → Int32} {wd : Int32} {i : Nat} : (hrS stg sup hf gf wd sn i).1 + (plS stg hf gf (wfc wd + nI i * wnl wd) (wnc wd) ((hrS stg sup hf gf wd sn i).2.1, sup, 0, 0, 0) 20).2.1 = (hrS stg sup hf gf wd sn (i + 1)).1 :=
  congrArg (fun z : Int32 => (hrS stg sup hf gf wd sn i).1 + z) (lnS_same (stg := stg) (sup := sup) (hf := hf) (gf := gf) (a := wfc wd + nI i * wnl wd) (b := wnc wd) (x := (hrS stg sup hf gf wd sn i).2) (y := ((hrS stg sup hf gf wd sn i).2.1, 0, 0, 0, 0)) rfl).2.symm
theorem hrS_2 {stg sup : Int32} {hf gf sn : Nat → Int32} {wd : Int32} {i : Nat} : (plS stg hf gf (wfc wd + nI i * wnl wd) (wnc wd) ((hrS stg sup hf gf wd sn i).2.1, sup, 0, 0, 0) 20).1 = (hrS stg sup hf gf wd sn (i + 1)).2.1 :=
  (lnS_same (stg := stg) (sup := sup) (hf := hf) (gf := gf) (a := wfc wd + nI i * wnl wd) (b := wnc wd) (x := (hrS stg sup hf gf wd sn i).2) (y := ((hrS stg sup hf gf wd sn i).2.1, 0, 0, 0, 0)) rfl).1.symm
theorem hsS_1 {stg sup : Int32} {hf gf sn : Nat → Int32} {wd : Int32} {i : Nat} : (hsS stg sup hf gf wd sn i).1 + (hrS stg sup hf gf wd (hsS stg sup hf gf wd sn i).2.1 20).1 = (hsS stg sup hf gf wd sn (i + 1)).1 :=
  congrArg (fun z : Int32 => (hsS stg sup hf gf wd sn i).1 + z) (cfS_same (stg := stg) (sup := sup) (hf := hf) (gf := gf) (a := wfc wd) (b := wnc wd) (d := wnl wd) (x := (hsS stg sup hf gf wd sn i).2) (y := hrX (hsS stg sup hf gf wd sn i).2.1) rfl 20).1.symm
theorem hsS_2 {stg sup : Int32} {hf gf sn : Nat → Int32} {wd : Int32} {i : Nat} : (hrS stg sup hf gf wd (hsS stg sup hf gf wd sn i).2.1 20).2.1 = (hsS stg sup hf gf wd sn (i + 1)).2.1 :=
  (cfS_same (stg := stg) (sup := sup) (hf := hf) (gf := gf) (a := wfc wd) (b := wnc wd) (d := wnl wd) (x := (hsS stg sup hf gf wd sn i).2) (y := hrX (hsS stg sup hf gf wd sn i).2.1) rfl 20).2.symm
