theorem pcS_I {stg : Int32} {hf gf : Nat → Int32} {c : Int32} {x : PC} (hs : BI 1 9 stg) (hh : RB 9 hf) (h : PI9 x) : PI9 (pcS stg hf gf c x) := by
  obtain ⟨h1, h2, h3⟩ := h
  have ht := RBgd h1 (by decide) c
  have hg := RBgd hh (by decide) c
  unfold pcS
  split
  · refine ⟨h1, h2, ?_⟩
    unfold BI at hg ⊢
    have e10 : (10 : Int32).toInt = 10 := by decide
    rw [i32m (by rw [e10]; omega) (by rw [e10]; omega), e10]
    omega
  · split
    · obtain ⟨k1, k2, k3⟩ := drop_I ht h2 h3
      unfold BI at ht h2 h3
      refine ⟨RBgp h1 ?_, ?_, h3⟩
      · unfold BI
        rw [i32s (by rw [i32n (by omega)]; omega) (by rw [i32n (by omega)]; omega), i32n (by omega)]
        omega
      · unfold BI
        rw [i32a (by rw [i32n (by omega)]; omega) (by rw [i32n (by omega)]; omega), i32n (by omega)]
        omega
    · obtain ⟨k1, k2, k3⟩ := pick_I ht h2 hs
      unfold BI at ht h2 h3
      refine ⟨RBgp h1 ?_, ?_, h3⟩
      · unfold BI
        rw [i32s (by omega) (by omega)]
        omega
      · unfold BI
        rw [i32a (by omega) (by omega)]
        omega
