/-! ===== the two sides agree: snow stays within 0 to 200; fall; advise ===== -/
theorem i32a {a b : Int32} (h1 : -2147483648 ≤ a.toInt + b.toInt) (h2 : a.toInt + b.toInt ≤ 2147483647) : (a + b).toInt = a.toInt + b.toInt := by
  rw [Int32.toInt_add]; exact Int.bmod_eq_of_le (by omega) (by omega)
theorem i32s {a b : Int32} (h1 : -2147483648 ≤ a.toInt - b.toInt) (h2 : a.toInt - b.toInt ≤ 2147483647) : (a - b).toInt = a.toInt - b.toInt := by
  rw [Int32.toInt_sub]; exact Int.bmod_eq_of_le (by omega) (by omega)
theorem i32m {a b : Int32} (h1 : -2147483648 ≤ a.toInt * b.toInt) (h2 : a.toInt * b.toInt ≤ 2147483647) : (a * b).toInt = a.toInt * b.toInt := by
  rw [Int32.toInt_mul]; exact Int.bmod_eq_of_le (by omega) (by omega)
theorem i32n {a : Int32} (h1 : -2147483647 ≤ a.toInt) : (-a).toInt = -a.toInt := by
  have h2 := Int32.toInt_lt a
  rw [Int32.toInt_neg]; exact Int.bmod_eq_of_le (by omega) (by omega)
theorem mx_I (a b : Int32) : (mx a b).toInt = if a.toInt < b.toInt then b.toInt else a.toInt := by
  unfold mx
  by_cases h : a < b
  · rw [if_pos h, if_pos (Int32.lt_iff_toInt_lt.mp h)]
  · rw [if_neg h, if_neg (fun q => h (Int32.lt_iff_toInt_lt.mpr q))]
theorem mn_I (a b : Int32) : (mn a b).toInt = if b.toInt < a.toInt then b.toInt else a.toInt := by
  unfold mn
  by_cases h : b < a
  · rw [if_pos h, if_pos (Int32.lt_iff_toInt_lt.mp h)]
  · rw [if_neg h, if_neg (fun q => h (Int32.lt_iff_toInt_lt.mpr q))]
def BI (lo hi : Int) (x : Int32) : Prop := lo ≤ x.toInt ∧ x.toInt ≤ hi
def RB (hi : Int) (f : Nat → Int32) : Prop := ∀ j : Nat, j < 400 → BI 0 hi (f j)
theorem RBgd {hi : Int} {f : Nat → Int32} (h : RB hi f) (h0 : 0 ≤ hi) (c : Int32) : BI 0 hi (gd f c) := by
  by_cases h1 : c < 0
  · rw [gd_lo h1]; exact ⟨by decide, h0⟩
  · by_cases h2 : 400 ≤ c
    · rw [gd_hi h2]; exact ⟨by decide, h0⟩
    · obtain ⟨j, hj, rfl⟩ := vp_in_of (vp400 h1 h2) (by decide)
      rw [gd_nI hj]; exact h j hj
theorem RBgp {hi : Int} {f : Nat → Int32} (h : RB hi f) {c v : Int32} (hv : BI 0 hi v) : RB hi (gp f c v) := by
  by_cases h1 : c < 0
  · rw [gp_lo h1]; exact h
  · by_cases h2 : 400 ≤ c
    · rw [gp_hi h2]; exact h
    · rw [gp_in h1 h2]
      intro j hj
      unfold upd
      by_cases q : j = c.toNatClampNeg
      · rw [if_pos q]; exact hv
      · rw [if_neg q]; exact h j hj
theorem RBsc {hf : Nat → Int32} {fi d he : Int32} (h : RB 9 hf) (hv : BI 0 9 he) : ∀ n : Nat, RB 9 (scH hf fi d he n)
  | 0 => h
  | n + 1 => by
    by_cases q : he ≤ gd (scH hf fi d he n) (cellAt fi d n)
    · rw [show scH hf fi d he (n + 1) = _ from if_pos q]; exact RBsc h hv n
    · rw [show scH hf fi d he (n + 1) = _ from if_neg q]; exact RBgp (RBsc h hv n) hv
theorem nI_BI {k : Nat} {hi : Int} (h : (k : Int) ≤ hi) (hk : k < 2 ^ 31) : BI 0 hi (nI k) := by
  unfold BI
  rw [nI_toInt hk]
  omega
theorem hgS_RB {fa : Nat → Int32} {wo : Int32} : ∀ n : Nat, (∀ j, j < n → okF fa j) → RB 9 (hgS fa wo n).1
  | 0, _ => fun _ _ => ⟨by decide, by decide⟩
  | n + 1, hok => by
    have h := hgS_RB (wo := wo) n (fun j hj => hok j (by omega))
    by_cases q : nI n = wo
    · rw [show hgS fa wo (n + 1) = _ from if_pos q]; exact h
    · rw [show hgS fa wo (n + 1) = _ from if_neg q]
      obtain ⟨he, e, h1, h2⟩ := (hok n (by omega)).he
      exact RBsc h (by rw [e]; exact nI_BI (by omega) (by omega)) _
def PI9 (x : PC) : Prop := RB 200 x.1 ∧ BI 0 90 x.2.1 ∧ BI 0 90 x.2.2.2.2
theorem drop_I {th ca ho : Int32} (h1 : BI 0 200 th) (h2 : BI 0 90 ca) (h3 : BI 0 90 ho) : 0 ≤ (dropS th ca ho).toInt ∧ (dropS th ca ho).toInt ≤ ca.toInt ∧ th.toInt + (dropS th ca ho).toInt ≤ 200 := by
  unfold BI at h1 h2 h3
  unfold dropS
  rw [mx_I, mn_I, mn_I, i32s (by omega) (by omega), show (4 : Int32).toInt = 4 from by decide, show (0 : Int32).toInt = 0 from by decide]
  repeat' split
  all_goals omega
theorem pick_I {th ca stg : Int32} (h1 : BI 0 200 th) (h2 : BI 0 90 ca) (h3 : BI 1 9 stg) : 0 ≤ (pickS stg th ca).toInt ∧ (pickS stg th ca).toInt ≤ th.toInt ∧ ca.toInt + (pickS stg th ca).toInt ≤ 90 := by
  unfold BI at h1 h2 h3
  have e10 : (10 : Int32).toInt = 10 := by decide
  have e : (10 * stg).toInt = 10 * stg.toInt := by
    rw [i32m (by rw [e10]; omega) (by rw [e10]; omega), e10]
  unfold pickS
  rw [mx_I, mn_I, mn_I, i32s (by omega) (by omega), e, show (0 : Int32).toInt = 0 from by decide]
  repeat' split
  all_goals omega
theorem pcS_I {stg : Int32} {hf gf : Nat → Int32} {c : Int32} {x : PC} (hs : BI 1 9 stg) (hh : RB 9 hf) (h : PI9 x) : PI9 (pcS stg hf gf c x) := by
  obtain ⟨h1, h2, h3⟩ := h
  have ht := RBgd h1 (by decide) c
  have hg := RBgd hh (by decide) c
  unfold pcS
  split
  · refine ⟨h1, h2, ?_⟩
    unfold BI at hg ⊢
    have e10 : (10 : Int32).toInt = 10 := by decide
    rw [i32m (by rw [e10]; omega) (by rw [e10]; omega), e10]
    omega
  · split
    · obtain ⟨k1, k2, k3⟩ := drop_I ht h2 h3
      unfold BI at ht h2 h3
      refine ⟨RBgp h1 ?_, ?_, h3⟩
      · unfold BI
        rw [i32s (by rw [i32n (by omega)]; omega) (by rw [i32n (by omega)]; omega), i32n (by omega)]
        omega
      · unfold BI
        rw [i32a (by rw [i32n (by omega)]; omega) (by rw [i32n (by omega)]; omega), i32n (by omega)]
        omega
    · obtain ⟨k1, k2, k3⟩ := pick_I ht h2 hs
      unfold BI at ht h2 h3
      refine ⟨RBgp h1 ?_, ?_, h3⟩
      · unfold BI
        rw [i32s (by omega) (by omega)]
        omega
      · unfold BI
        rw [i32a (by omega) (by omega)]
        omega
theorem plS_I {stg : Int32} {hf gf : Nat → Int32} {a b : Int32} {x : PC} (hs : BI 1 9 stg) (hh : RB 9 hf) (h : PI9 x) : ∀ n : Nat, PI9 (plS stg hf gf a b x n)
  | 0 => h
  | n + 1 => pcS_I hs hh (plS_I hs hh h n)
theorem lnS_I {stg sup : Int32} {hf gf : Nat → Int32} {a b : Int32} {x : PC} (hs : BI 1 9 stg) (hu : BI 0 40 sup) (hh : RB 9 hf) (h : PI9 x) : PI9 (lnS stg sup hf gf a b x) :=
  plS_I hs hh ⟨h.1, ⟨hu.1, by have := hu.2; show sup.toInt ≤ 90; omega⟩, h.2.2⟩ 20
theorem cfS_I {stg sup : Int32} {hf gf : Nat → Int32} {a b d : Int32} {x : PC} (hs : BI 1 9 stg) (hu : BI 0 40 sup) (hh : RB 9 hf) (h : PI9 x) : ∀ n : Nat, PI9 (cfS stg sup hf gf a b d x n).2
  | 0 => h
  | n + 1 => lnS_I hs hu hh (cfS_I hs hu hh h n)
theorem boS_I {stg sup : Int32} {hf gf : Nat → Int32} {a b d : Int32} {x : PC} (hs : BI 1 9 stg) (hu : BI 0 40 sup) (hh : RB 9 hf) (h : PI9 x) : ∀ n : Nat, PI9 (boS stg sup hf gf a b d x n).2
  | 0 => h
  | n + 1 => cfS_I hs hu hh (boS_I hs hu hh h n) 20
theorem hsS_I {stg sup wd : Int32} {hf gf sn : Nat → Int32} (hs : BI 1 9 stg) (hu : BI 0 40 sup) (hh : RB 9 hf) (h : RB 200 sn) (n : Nat) : RB 200 (hsS stg sup hf gf wd sn n).2.1 :=
  (boS_I (x := hrX sn) hs hu hh ⟨h, ⟨by decide, by decide⟩, ⟨by decide, by decide⟩⟩ n).1
theorem clrG_I {sn : Nat → Int32} {fi d : Int32} (h : RB 200 sn) : ∀ n : Nat, RB 200 (clrG sn fi d n)
  | 0 => h
  | n + 1 => RBgp (clrG_I h n) ⟨by decide, by decide⟩
theorem inR_BI {v : Int32} {a b : Nat} (ha : a < 2 ^ 31) (hb : b < 2 ^ 31) (h : inR v (nI a) (nI b)) : BI a b v := by
  obtain ⟨h1, h2⟩ := h
  rw [Int32.lt_iff_toInt_lt, nI_toInt ha] at h1
  rw [Int32.lt_iff_toInt_lt, nI_toInt hb] at h2
  exact ⟨by omega, by omega⟩
theorem fall_at {s m : Int32} (h1 : BI 0 200 s) (h2 : BI 1 30 m) : mn (s + m) 200 = s + mn m (200 - s) ∧ BI 0 200 (mn (s + m) 200) := by
  unfold BI at h1 h2 ⊢
  have e2 : (200 : Int32).toInt = 200 := by decide
  have ea : (s + m).toInt = s.toInt + m.toInt := i32a (by omega) (by omega)
  have es : (200 - s : Int32).toInt = 200 - s.toInt := by rw [i32s (by rw [e2]; omega) (by rw [e2]; omega), e2]
  have q1 := mn_I (s + m) 200
  have q2 := mn_I m (200 - s)
  rw [ea, e2] at q1
  rw [es] at q2
  refine ⟨?_, ?_⟩
  · apply Int32.toInt_inj.mp
    rw [i32a (by split at q2 <;> omega) (by split at q2 <;> omega)]
    split at q1 <;> split at q2 <;> omega
  · split at q1 <;> omega
theorem fall_eq {sn : Nat → Int32} {m : Int32} (h1 : RB 200 sn) (h2 : BI 1 30 m) : fallC sn m 400 = fallS sn m 400 := by
  funext j
  unfold fallC fallS
  by_cases q : j < 400
  · rw [if_pos q, if_pos q]; exact (fall_at (h1 j q) h2).1
  · rw [if_neg q, if_neg q]
theorem fall_RB {sn : Nat → Int32} {m : Int32} (h1 : RB 200 sn) (h2 : BI 1 30 m) : RB 200 (fallC sn m 400) := fun j hj => by
  rw [show fallC sn m 400 j = mn (sn j + m) 200 from if_pos hj]
  exact (fall_at (h1 j hj) h2).2
theorem fall_sum {sn : Nat → Int32} {m : Int32} : ∀ n : Nat, n ≤ 400 → sumG (fallS sn m 400) (0 * 20 + 0) 0 n = sumG sn (0 * 20 + 0) 0 n + moreS sn m n
  | 0, _ => by decide
  | n + 1, h => by
    have e := fall_sum (sn := sn) (m := m) n (by omega)
    show sumG (fallS sn m 400) (0 * 20 + 0) 0 n + gd (fallS sn m 400) (cellAt (0 * 20 + 0) 0 n) = sumG sn (0 * 20 + 0) 0 n + gd sn (cellAt (0 * 20 + 0) 0 n) + (moreS sn m n + mn m (200 - sn n))
    rw [e, cellAt_whole, gd_nI (by omega), gd_nI (by omega), show fallS sn m 400 n = sn n + mn m (200 - sn n) from if_pos (by omega)]
    grind
theorem fall_ans {sn : Nat → Int32} {m : Int32} (h1 : RB 200 sn) (h2 : BI 1 30 m) : sumA (fallC sn m 400) - sumA sn = moreS sn m 400 := by
  rw [fall_eq h1 h2]
  unfold sumA
  rw [fall_sum 400 (Nat.le_refl _)]
  grind
theorem hgS_congr {fa fb : Nat → Int32} {wo : Int32} : ∀ n : Nat, (∀ j, j < 6 * n → fb j = fa j) → hgS fb wo n = hgS fa wo n
  | 0, _ => rfl
  | n + 1, h => by
    have e := hgS_congr (wo := wo) n (fun j hj => h j (by omega))
    have e1 : ffi fb n = ffi fa n := by unfold ffi; rw [h _ (by omega), h _ (by omega)]
    have e2 : fle fb n = fle fa n := by unfold fle; rw [h _ (by omega)]
    by_cases q : nI n = wo
    · rw [show hgS fb wo (n + 1) = _ from if_pos q, show hgS fa wo (n + 1) = _ from if_pos q]; exact e
    · rw [show hgS fb wo (n + 1) = _ from if_neg q, show hgS fa wo (n + 1) = _ from if_neg q, e, e1, e2, h (6 * n + 3) (by omega), h (6 * n + 4) (by omega), h (6 * n + 5) (by omega)]
theorem fput_lo {fa : Nat → Int32} {i j : Nat} {co ro le dn he ga : Int32} (h : j < 6 * i) : fput fa i co ro le dn he ga j = fa j := if_pos (Or.inl h)
theorem fput_at {fa : Nat → Int32} {i : Nat} {co ro le dn he ga : Int32} : fput fa i co ro le dn he ga (6 * i + 0) = co ∧ fput fa i co ro le dn he ga (6 * i + 1) = ro ∧ fput fa i co ro le dn he ga (6 * i + 2) = le ∧ fput fa i co ro le dn he ga (6 * i + 3) = dn ∧ fput fa i co ro le dn he ga (6 * i + 4) = he ∧ fput fa i co ro le dn he ga (6 * i + 5) = ga := by
  unfold fput
  refine ⟨?_, ?_, ?_, ?_, ?_, ?_⟩
  · rw [if_neg (by omega), if_pos (by omega)]
  · rw [if_neg (by omega), if_neg (by omega), if_pos (by omega)]
  · rw [if_neg (by omega), if_neg (by omega), if_neg (by omega), if_pos (by omega)]
  · rw [if_neg (by omega), if_neg (by omega), if_neg (by omega), if_neg (by omega), if_pos (by omega)]
  · rw [if_neg (by omega), if_neg (by omega), if_neg (by omega), if_neg (by omega), if_neg (by omega), if_pos (by omega)]
  · rw [if_neg (by omega), if_neg (by omega), if_neg (by omega), if_neg (by omega), if_neg (by omega), if_neg (by omega)]
theorem hgS_put {fa : Nat → Int32} {nf : Nat} {co ro dn he fi : Int32} (hfi : ro * 20 + co = fi) (hn : nf ≤ 10) : hgS (fput fa nf co ro 20 dn he 0) (-1) (nf + 1) = (scH (hgS fa (-1) nf).1 fi dn he 20, scV (hgS fa (-1) nf).1 (hgS fa (-1) nf).2 fi dn he 0 20) := by
  obtain ⟨e0, e1, e2, e3, e4, e5⟩ := fput_at (fa := fa) (i := nf) (co := co) (ro := ro) (le := 20) (dn := dn) (he := he) (ga := 0)
  have ef : ffi (fput fa nf co ro 20 dn he 0) nf = fi := by unfold ffi; rw [e0, e1]; exact hfi
  have el : fle (fput fa nf co ro 20 dn he 0) nf = 20 := by unfold fle; rw [e2]; decide
  rw [show hgS (fput fa nf co ro 20 dn he 0) (-1) (nf + 1) = _ from if_neg (nI_m1 (by omega)), hgS_congr nf (fun j hj => fput_lo hj), ef, el, e3, e4, e5]
theorem advK_1 {fa : Nat → Int32} {nf : Nat} {he stg sup wd : Int32} {sn rd ri : Nat → Int32} {lim : Int32} {nr k : Nat} (hn : nf ≤ 10) : advF1 fa nf he stg sup wd sn rd ri lim nr k = advK 1 fa nf he stg sup wd sn rd ri lim nr k := by
  unfold advF1 advK harA
  rw [show b01 1 = 1 from by decide, hgS_put (show (0 : Int32) * 20 + nI k = rfi 1 (nI k) from (if_pos rfl).symm) hn]
theorem advK_0 {fa : Nat → Int32} {nf : Nat} {he stg sup wd : Int32} {sn rd ri : Nat → Int32} {lim : Int32} {nr k : Nat} (hn : nf ≤ 10) : advF0 fa nf he stg sup wd sn rd ri lim nr k = advK 0 fa nf he stg sup wd sn rd ri lim nr k := by
  unfold advF0 advK harA
  rw [show b01 0 = 0 from by decide, hgS_put (show nI k * 20 + (0 : Int32) = rfi 0 (nI k) from (if_neg (by decide)).symm) hn]
theorem advG_1 {F : Nat → Int32} : ∀ k : Nat, 1 ≤ k → ∃ j : Nat, j < k ∧ (advG F k).1 = nI j
  | 0, h => absurd h (by decide)
  | 1, _ => ⟨0, by decide, by rw [advG_t (Or.inl rfl)]⟩
  | k + 2, _ => by
    obtain ⟨j, h1, h2⟩ := advG_1 (F := F) (k + 1) (by omega)
    by_cases q : (advG F (k + 1)).1 = -1 ∨ F (k + 1) < (advG F (k + 1)).2
    · exact ⟨k + 1, by omega, by rw [advG_t q]⟩
    · exact ⟨j, by omega, by rw [show advG F (k + 2) = advG F (k + 1) from if_neg q]; exact h2⟩
theorem adv_eq {F : Nat → Int32} (h0 : F 0 < 81) : ∀ k : Nat, k < 2 ^ 31 → 1 ≤ k → advC F k = advG F k
  | 0, _, h => absurd h (by decide)
  | 1, _, _ => by rw [advG_t (Or.inl rfl), advC_t h0]
  | k + 2, hk, _ => by
    have e := adv_eq h0 (k + 1) (by omega) (by omega)
    obtain ⟨j, h1, h2⟩ := advG_1 (F := F) (k + 1) (by omega)
    have hne : ¬ (advG F (k + 1)).1 = -1 := by rw [h2]; exact nI_m1 (by omega)
    by_cases q : F (k + 1) < (advG F (k + 1)).2
    · rw [advG_t (Or.inr q), advC_t (by rw [e]; exact q)]
    · rw [advG_f hne q, advC_f (by rw [e]; exact q), e]
theorem adv_ans {fa : Nat → Int32} {nf : Nat} {he stg sup wd : Int32} {sn rd ri : Nat → Int32} {lim : Int32} {nr : Nat} (hn : nf ≤ 10) (hr : nr ≤ 4) (hw : wd = 0 ∨ wd = 1 ∨ wd = 2 ∨ wd = 3) : (advC (advK (advD wd) fa nf he stg sup wd sn rd ri lim nr) 20).1 = advS fa nf he stg sup wd sn rd ri lim nr := by
  have h81 : ∀ d k, advK d fa nf he stg sup wd sn rd ri lim nr k < 81 := fun d k => by
    unfold advK
    obtain ⟨z, h1, h2⟩ := allB_nn (sn := (hsS stg sup (scH (hgS fa (-1) nf).1 (rfi d (nI k)) d he 20) (scV (hgS fa (-1) nf).1 (hgS fa (-1) nf).2 (rfi d (nI k)) d he 0 20) wd sn 4).2.1) (rd := rd) (ri := ri) (lim := lim) nr
    rw [h2]
    exact nI_lt (b := 81) (by omega) (by decide)
  rw [adv_eq (h81 _ 0) 20 (by decide) (by decide)]
  unfold advS
  have hD : (advD wd = 1 ∧ wd - wd / 2 * 2 = 0) ∨ (advD wd = 0 ∧ ¬ wd - wd / 2 * 2 = 0) := by
    rcases hw with rfl | rfl | rfl | rfl <;> decide
  rcases hD with ⟨h1, h2⟩ | ⟨h1, h2⟩
  · rw [if_pos h2, h1, show advF1 fa nf he stg sup wd sn rd ri lim nr = advK 1 fa nf he stg sup wd sn rd ri lim nr from funext fun k => advK_1 hn]
  · rw [if_neg h2, h1, show advF0 fa nf he stg sup wd sn rd ri lim nr = advK 0 fa nf he stg sup wd sn rd ri lim nr from funext fun k => advK_0 hn]
theorem lg_cmp_self (x : Int64) : lg_cmp x x = 0 := by
  unfold lg_cmp
  rw [if_neg (Int64.lt_irrefl (a := x)), if_pos rfl]
theorem selN {α : Type} {k : Int32} {a b : α} (h : ¬ k = 0) : sel k a b = b := if_neg h
