/-! ===== what the law's start gives ===== -/
theorem str_R {own tx : String} {k : Nat} {args : Array Value} {s : State} (h : (Cond.stringRef own k tx).before args s = true) : ∃ a : Nat, vk_R own k tx a s := by
  obtain ⟨cur, hcur⟩ : ∃ cur, s.vm.findClass own = some cur := by
    have h1 := h
    simp only [Cond.before, Cond.holds, Cond.value] at h1
    cases hc : s.vm.findClass own with
    | none => simp [hc] at h1
    | some cur => exact ⟨cur, rfl⟩
  obtain ⟨k1, cf, i, a, -, -, -, -, -, hev⟩ := Cond.stringRef_spec (args := args) (first := s) (o := none) (idx := []) hcur h
  exact ⟨a, vk_R.of h hev⟩
theorem va_XT {b L : Nat} {xs : Nat → Int32} {A : Nat → Prop} {U : State} {H : Heap} (h : va_X b L xs U H) (hb : ¬ A b) : va_T .int b L (fun j => .int (xs j)) A U H := by
  obtain ⟨cell, h1, h2, h3, h4, h5⟩ := h
  exact ⟨cell, h1, h2, h3, Nat.le_of_eq h4.symm, by rw [h4], h5, hb⟩
set_option maxHeartbeats 4000000 in
set_option maxRecDepth 100000 in
theorem law_env {p : Program} {s : State} {m : MethodId} {meth : Method} {c : Code} {b L : Nat} {xs : Nat → Int32} (C0 : lw_At p s m meth c b L xs) : ∃ E : zG, E.2.2.2.1 = s.heap.size ∧ E.2.2.2.2.1 = b ∧ E.2.2.2.2.2.1 = L ∧ zC E p m c cL_law 30 s #[.ref b] wsL_law2 RL ∧ zR s ∧ ¬ zA E E.2.2.1 ∧ zJ E [] s s.heap [] := by
  obtain ⟨hx, hb, hr, hml, hown, hts, hX, hbl, hlocks, hgv⟩ := C0
  have hs := flat_of_before _ hgv
  have ht2 : ∀ w ∈ wsL_law2, w.before #[Value.ref b] s = true := fun w h => hts w (wsL_law2_in w h)
  have ht1 : ∀ w ∈ wsL_law, w.before #[Value.ref b] s = true := fun w h => hts w (wsL_law_in w h)
  have hA : ∀ a : Nat, a < s.heap.size → ¬ (fun q : Nat => s.heap.size ≤ q) a := fun a h => Nat.not_le.mpr h
  obtain ⟨c0, iS0, hKn0⟩ := u_known (C := RJx4a65c) (T := TJx4a65c) (N := 3) (n := 3) ht1 inlJx4a65c (hts (.instantiable RJx4a65c 3) (by decide +kernel))
  obtain ⟨c1, iS1, hKn1⟩ := u_known (C := RX0) (T := TX0) (N := 5) (n := 5) ht1 inlX0 (hts (.instantiable RX0 5) (by decide +kernel))
  obtain ⟨c2, iS2, hKn2⟩ := u_known (C := RX1) (T := TX1) (N := 1) (n := 1) ht1 inlX1 (hts (.instantiable RX1 1) (by decide +kernel))
  obtain ⟨c3, iS3, hKn3⟩ := u_known (C := RX2) (T := TX2) (N := 2) (n := 2) ht1 inlX2 (hts (.instantiable RX2 2) (by decide +kernel))
  obtain ⟨c4, iS4, hKn4⟩ := u_known (C := RX3) (T := TX3) (N := 2) (n := 2) ht1 inlX3 (hts (.instantiable RX3 2) (by decide +kernel))
  obtain ⟨c5, iS5, hKn5⟩ := u_known (C := RX4) (T := TX4) (N := 3) (n := 3) ht1 inlX4 (hts (.instantiable RX4 3) (by decide +kernel))
  obtain ⟨c6, iS6, hKn6⟩ := u_known (C := RX5) (T := TX5) (N := 10) (n := 10) ht1 inlX5 (hts (.instantiable RX5 10) (by decide +kernel))
  obtain ⟨c7, iS7, hKn7⟩ := u_known (C := RX6) (T := TX6) (N := 11) (n := 11) ht1 inlX6 (hts (.instantiable RX6 11) (by decide +kernel))
  obtain ⟨c8, iS8, hKn8⟩ := u_known (C := RX7) (T := TX7) (N := 8) (n := 8) ht1 inlX7 (hts (.instantiable RX7 8) (by decide +kernel))
  obtain ⟨dC, dI, hKc⟩ : ∃ (dC : Nat → ClassId) (dI : Nat → Nat → Nat), ∀ (k : Nat) (q : vw_C), vwCl[k]? = some q → u_Kn s q.1 q.2.1 q.2.2 (dC k) (dI k) := by
    refine ⟨fun k => if k = 0 then c0 else if k = 1 then c1 else if k = 2 then c2 else if k = 3 then c3 else if k = 4 then c4 else if k = 5 then c5 else if k = 6 then c6 else if k = 7 then c7 else c8, fun k => if k = 0 then iS0 else if k = 1 then iS1 else if k = 2 then iS2 else if k = 3 then iS3 else if k = 4 then iS4 else if k = 5 then iS5 else if k = 6 then iS6 else if k = 7 then iS7 else iS8, ?_⟩
    intro k q hq
    match k, hq with
    | 0, hq => cases hq; exact hKn0
    | 1, hq => cases hq; exact hKn1
    | 2, hq => cases hq; exact hKn2
    | 3, hq => cases hq; exact hKn3
    | 4, hq => cases hq; exact hKn4
    | 5, hq => cases hq; exact hKn5
    | 6, hq => cases hq; exact hKn6
    | 7, hq => cases hq; exact hKn7
    | 8, hq => cases hq; exact hKn8
    | k + 9, hq => simp [vwCl] at hq
  obtain ⟨cI, kI, pI, fI1, fI2, fI3⟩ := Cond.arrayClass_spec (args := #[Value.ref b]) (first := s) (o := none) (s := s) (idx := []) (hts (.arrayClass .int) (by decide +kernel))
  have hAO : (Cond.arrayOver (.object "java/lang/Object")).before #[Value.ref b] s = true := hts _ (by decide +kernel)
  obtain ⟨pO, cO, kO, fO1, fO2, fO3, fO4, fO5⟩ := Cond.arrayOver_spec (args := #[Value.ref b]) (first := s) (o := none) (s := s) (idx := []) hAO
  have hAA0 : (Cond.arrayOver (.array .int)).before #[Value.ref b] s = true := hts _ (by decide +kernel)
  have hAA : zAO2 s := zAOx hAA0
  obtain ⟨pA, cA, kA, fA1, fA2, fA3, fA4, fA5⟩ := arrayOverA_spec hAA
  obtain ⟨t9, ht9, hT9⟩ := va_Tof (args := #[Value.ref b]) (s := s) (tm := .static "java/util/ArrayList" "DEFAULTCAPACITY_EMPTY_ELEMENTDATA" "[Ljava/lang/Object;") (ty := .object "java/lang/Object") (N := 0) (f := fun _ => .null) (A := fun q : Nat => s.heap.size ≤ q) (by decide) (hs _ (by decide +kernel)) (va_eqt (z := 0) (hs _ (by decide +kernel))) (fun j hj => absurd hj (Nat.not_lt_zero _)) hA
  have hZ9 := va_Zof (A := fun q : Nat => s.heap.size ≤ q) (hts (.laysStatic "java/util/ArrayList" "DEFAULTCAPACITY_EMPTY_ELEMENTDATA" "[Ljava/lang/Object;") (by decide +kernel)) (hts (.initialized "java/util/ArrayList") (by decide +kernel)) ht9 hA
  have hU9 := vx_Zqof (A := fun q : Nat => s.heap.size ≤ q) (C := Bundle.tN) (n := "UNASSIGNED_STACK") (d := Bundle.steD) (hts _ (by decide +kernel)) (hts _ (by decide +kernel)) (hs _ (by decide +kernel)) hA
  have hN9 := vx_Zqof (A := fun q : Nat => s.heap.size ≤ q) (C := Bundle.tN) (n := "SUPPRESSED_SENTINEL") (d := Bundle.listD) (hts _ (by decide +kernel)) (hts _ (by decide +kernel)) (hs _ (by decide +kernel)) hA
  have hlt : t9 < s.heap.size := by
    obtain ⟨cell, h1, -⟩ := hT9
    exact (Array.getElem?_eq_some_iff.mp h1).1
  have hXT : va_T .int b L (fun j => .int (xs j)) (fun q : Nat => s.heap.size ≤ q) s s.heap := va_XT hX (Nat.not_le.mpr hbl)
  refine ⟨((dC, dI), (cI, cO, cA), t9, s.heap.size, (b, L, xs)), rfl, rfl, rfl, ⟨⟨hx, hb, hml, hown, ht2⟩, ⟨hKc, ?_⟩, ⟨hZ9, hT9, hU9, hN9, va_AO.of hAO, va_Nw.of rfl (hts (.castable RX0 "java/lang/Object") (by decide +kernel)), va_Nw.of rfl (hts (.castable RX2 "java/lang/Object") (by decide +kernel)), hAA, va_Nw.of rfl (hts (.castable "[I" "java/lang/Cloneable") (by decide +kernel)), va_Nw.of rfl (hts (.castable "[[I" "java/lang/Cloneable") (by decide +kernel)), hXT⟩, Nat.le_refl _⟩, ⟨?_, va_Nw.of rfl (hts (.castable "java/lang/IllegalArgumentException" "java/lang/IllegalArgumentException") (by decide +kernel)), va_Nw.of rfl (hts (.castable "java/lang/IndexOutOfBoundsException" "java/lang/IndexOutOfBoundsException") (by decide +kernel)), va_Nw.of rfl (hts (.castable "java/lang/IllegalStateException" "java/lang/IllegalStateException") (by decide +kernel)), va_Nw.of rfl (hts (.declares (Bundle.initS "java/lang/RuntimeException")) (by decide +kernel)), va_Nw.of rfl (hts (.declares (Bundle.initS "java/lang/Exception")) (by decide +kernel)), va_Nw.of rfl (hts (.declares (Bundle.initS "java/lang/Throwable")) (by decide +kernel)), va_Nw.of rfl (hts (.methodLinkNest RX6 30 yX1_init RX6) (by decide +kernel)), va_Nw.of rfl (hts (.methodLinkNest RX6 40 yX3_init RX6) (by decide +kernel)), va_Nw.of rfl (hts (.methodLinkNest "SnowFencesLaw" 96 yX7_init "SnowFencesLaw") (by decide +kernel))⟩, Nat.not_le.mpr hlt, ⟨fun k q h => by simp at h, ⟨fun i j p q h => by simp at h, fun k q h => by simp at h⟩, va_S.rf⟩⟩
  · intro k q hk
    match k, hk with
    | 0, hk => cases hk; exact ⟨fun n z => ⟨fun k h => (by cases h), kI, fI2, pI, fI3⟩, fI1⟩
    | 1, hk => cases hk; exact ⟨fun n z => ⟨fun k h => (by cases h), kO, fO3, pO, fO4⟩, kO, pO, fO3, fO4, fO1, fO5⟩
    | 2, hk => cases hk; exact ⟨fun n z => ⟨fun k h => (by cases h), kA, fA3, pA, fA4⟩, fA5⟩
    | k + 3, hk => simp at hk
  · exact List.forall_mem_cons.mpr ⟨str_R (hts (.stringRef RX6 51 "length is not 1 to 20") (by decide +kernel)), List.forall_mem_cons.mpr ⟨str_R (hts (.stringRef RX6 73 "there are 10 fences") (by decide +kernel)), List.forall_mem_cons.mpr ⟨str_R (hts (.stringRef RX6 98 "there are 4 roads") (by decide +kernel)), List.forall_mem_cons.mpr ⟨str_R (hts (.stringRef RX6 109 "limit is not 1 to 60") (by decide +kernel)), List.forall_mem_cons.mpr ⟨str_R (hts (.stringRef RX6 111 "supply is not 0 to 40") (by decide +kernel)), List.forall_mem_cons.mpr ⟨str_R (hts (.stringRef RX6 116 "many is not 1 to 30") (by decide +kernel)), List.forall_mem_cons.mpr ⟨str_R (hts (.stringRef RX6 229 "there is none of this number") (by decide +kernel)), List.forall_mem_cons.mpr ⟨str_R (hts (.stringRef RX6 232 "height is not 1 to 9") (by decide +kernel)), List.forall_mem_cons.mpr ⟨str_R (hts (.stringRef RX6 234 "gap is not 0 to 3") (by decide +kernel)), List.forall_mem_cons.mpr ⟨str_R (hts (.stringRef RX6 236 "strength is not 1 to 9") (by decide +kernel)), List.forall_mem_cons.mpr ⟨str_R (hts (.stringRef RX6 238 "hours is not 1 to 24") (by decide +kernel)), fun _ h => absurd h List.not_mem_nil⟩⟩⟩⟩⟩⟩⟩⟩⟩⟩⟩
