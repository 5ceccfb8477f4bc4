set_option maxHeartbeats 100000 in
theorem plS_I {stg : Int32} {hf gf : Nat → Int32} {a b : Int32} {x : PC} (hs : BI 1 9 stg) (hh : RB 9 hf) (h : PI9 x) (n : Nat) : PI9 (plS stg hf gf a b x n) := by
  induction n with
  | zero => exact h
  | succ n ih => rw [plS]; exact pcS_I hs hh ih
set_option maxHeartbeats 100000 in
theorem lnS_I {stg sup : Int32} {hf gf : Nat → Int32} {a b : Int32} {x : PC} (hs : BI 1 9 stg) (hu : BI 0 40 sup) (hh : RB 9 hf) (h : PI9 x) : PI9 (lnS stg sup hf gf a b x) := by
  have h9 : PI9 (x.1, sup, 0, 0, x.2.2.2.2) := ⟨h.1, ⟨hu.1, by have := hu.2; show sup.toInt ≤ 90; omega⟩, h.2.2⟩
  unfold lnS
  exact plS_I hs hh h9 20
set_option maxHeartbeats 100000 in
theorem cfS_I {stg sup : Int32} {hf gf : Nat → Int32} {a b d : Int32} {x : PC} (hs : BI 1 9 stg) (hu : BI 0 40 sup) (hh : RB 9 hf) (h : PI9 x) (n : Nat) : PI9 (cfS stg sup hf gf a b d x n).2 := by
  induction n with
  | zero => rw [cfS]; exact h
  | succ n ih => rw [cfS]; exact lnS_I hs hu hh ih
set_option maxHeartbeats 100000 in
theorem boS_I {stg sup : Int32} {hf gf : Nat → Int32} {a b d : Int32} {x : PC} (hs : BI 1 9 stg) (hu : BI 0 40 sup) (hh : RB 9 hf) (h : PI9 x) (n : Nat) : PI9 (boS stg sup hf gf a b d x n).2 := by
  induction n with
  | zero => rw [boS]; exact h
  | succ n ih =>
    have h9 := cfS_I (gf := gf) (a := a) (b := b) (d := d) hs hu hh ih 20
    rw [boS]
    dsimp only
    exact h9
set_option maxHeartbeats 100000 in
theorem hsS_I {stg sup wd : Int32} {hf gf sn : Nat → Int32} (hs : BI 1 9 stg) (hu : BI 0 40 sup) (hh : RB 9 hf) (h : RB 200 sn) (n : Nat) : RB 200 (hsS stg sup hf gf wd sn n).2.1 := by
  have h9 : PI9 (hrX sn) := ⟨h, (⟨by decide, by decide⟩ : BI 0 90 (0 : Int32)), (⟨by decide, by decide⟩ : BI 0 90 (0 : Int32))⟩
  unfold hsS
  exact (boS_I hs hu hh h9 n).1
set_option maxHeartbeats 100000 in
theorem clrG_I {sn : Nat → Int32} {fi d : Int32} (h : RB 200 sn) : ∀ n : Nat, RB 200 (clrG sn fi d n)
  | 0 => h
  | n + 1 => RBgp (clrG_I h n) (⟨by decide, by decide⟩ : BI 0 200 (0 : Int32))
