set_option maxHeartbeats 100000 in
theorem hgS_congr {fa fb : Nat → Int32} {wo : Int32} : ∀ n : Nat, (∀ j, j < 6 * n → fb j = fa j) → hgS fb wo n = hgS fa wo n
  | 0, _ => rfl
  | n + 1, h => by
    have e := hgS_congr (wo := wo) n (fun j hj => h j (by omega))
    have e1 : ffi fb n = ffi fa n := by unfold ffi; rw [h _ (by omega), h _ (by omega)]
    have e2 : fle fb n = fle fa n := by unfold fle; rw [h _ (by omega)]
    by_cases q : nI n = wo
    · rw [show hgS fb wo (n + 1) = _ from if_pos q, show hgS fa wo (n + 1) = _ from if_pos q]; exact e
    · rw [show hgS fb wo (n + 1) = _ from if_neg q, show hgS fa wo (n + 1) = _ from if_neg q, e, e1, e2, h (6 * n + 3) (by omega), h (6 * n + 4) (by omega), h (6 * n + 5) (by omega)]
set_option maxHeartbeats 100000 in
theorem fput_lo {fa : Nat → Int32} {i j : Nat} {co ro le dn he ga : Int32} (h : j < 6 * i) : fput fa i co ro le dn he ga j = fa j := if_pos (Or.inl h)
set_option maxHeartbeats 100000 in
theorem fput_at {fa : Nat → Int32} {i : Nat} {co ro le dn he ga : Int32} : fput fa i co ro le dn he ga (6 * i + 0) = co ∧ fput fa i co ro le dn he ga (6 * i + 1) = ro ∧ fput fa i co ro le dn he ga (6 * i + 2) = le ∧ fput fa i co ro le dn he ga (6 * i + 3) = dn ∧ fput fa i co ro le dn he ga (6 * i + 4) = he ∧ fput fa i co ro le dn he ga (6 * i + 5) = ga := by
  unfold fput
  refine ⟨?_, ?_, ?_, ?_, ?_, ?_⟩
  · rw [if_neg (by omega), if_pos (by omega)]
  · rw [if_neg (by omega), if_neg (by omega), if_pos (by omega)]
  · rw [if_neg (by omega), if_neg (by omega), if_neg (by omega), if_pos (by omega)]
  · rw [if_neg (by omega), if_neg (by omega), if_neg (by omega), if_neg (by omega), if_pos (by omega)]
  · rw [if_neg (by omega), if_neg (by omega), if_neg (by omega), if_neg (by omega), if_neg (by omega), if_pos (by omega)]
  · rw [if_neg (by omega), if_neg (by omega), if_neg (by omega), if_neg (by omega), if_neg (by omega), if_neg (by omega)]
set_option maxHeartbeats 100000 in
theorem hgS_put {fa : Nat → Int32} {nf : Nat} {co ro dn he fi : Int32} (hfi : ro * 20 + co = fi) (hn : nf ≤ 10) : hgS (fput fa nf co ro 20 dn he 0) (-1) (nf + 1) = (scH (hgS fa (-1) nf).1 fi dn he 20, scV (hgS fa (-1) nf).1 (hgS fa (-1) nf).2 fi dn he 0 20) := by
  obtain ⟨e0, e1, e2, e3, e4, e5⟩ := fput_at (fa := fa) (i := nf) (co := co) (ro := ro) (le := 20) (dn := dn) (he := he) (ga := 0)
  have ef : ffi (fput fa nf co ro 20 dn he 0) nf = fi := by unfold ffi; rw [e0, e1]; exact hfi
  have el : fle (fput fa nf co ro 20 dn he 0) nf = 20 := by unfold fle; rw [e2]; decide
  rw [show hgS (fput fa nf co ro 20 dn he 0) (-1) (nf + 1) = _ from if_neg (nI_m1 (by omega)), hgS_congr nf (fun j hj => fput_lo hj), ef, el, e3, e4, e5]
set_option maxHeartbeats 100000 in
theorem advK_1 {fa : Nat → Int32} {nf : Nat} {he stg sup wd : Int32} {sn rd ri : Nat → Int32} {lim : Int32} {nr k : Nat} (hn : nf ≤ 10) : advF1 fa nf he stg sup wd sn rd ri lim nr k = advK 1 fa nf he stg sup wd sn rd ri lim nr k := by
  unfold advF1 advK harA
  rw [show b01 1 = 1 from by decide, hgS_put (show (0 : Int32) * 20 + nI k = rfi 1 (nI k) from (if_pos rfl).symm) hn]
set_option maxHeartbeats 100000 in
theorem advK_0 {fa : Nat → Int32} {nf : Nat} {he stg sup wd : Int32} {sn rd ri : Nat → Int32} {lim : Int32} {nr k : Nat} (hn : nf ≤ 10) : advF0 fa nf he stg sup wd sn rd ri lim nr k = advK 0 fa nf he stg sup wd sn rd ri lim nr k := by
  unfold advF0 advK harA
  rw [show b01 0 = 0 from by decide, hgS_put (show nI k * 20 + (0 : Int32) = rfi 0 (nI k) from (if_neg (by decide)).symm) hn]
set_option maxHeartbeats 100000 in
theorem advG_1 {F : Nat → Int32} : ∀ k : Nat, 1 ≤ k → ∃ j : Nat, j < k ∧ (advG F k).1 = nI j
  | 0, h => absurd h (by decide)
  | 1, _ => ⟨0, by decide, by rw [advG_t (Or.inl rfl)]⟩
  | k + 2, _ => by
    obtain ⟨j, h1, h2⟩ := advG_1 (F := F) (k + 1) (by omega)
    by_cases q : (advG F (k + 1)).1 = -1 ∨ F (k + 1) < (advG F (k + 1)).2
    · exact ⟨k + 1, by omega, by rw [advG_t q]⟩
    · exact ⟨j, by omega, by rw [show advG F (k + 2) = advG F (k + 1) from if_neg q]; exact h2⟩
set_option maxHeartbeats 100000 in
theorem adv_eq {F : Nat → Int32} (h0 : F 0 < 81) : ∀ k : Nat, k < 2 ^ 31 → 1 ≤ k → advC F k = advG F k
  | 0, _, h => absurd h (by decide)
  | 1, _, _ => by rw [advG_t (Or.inl rfl), advC_t h0]
  | k + 2, hk, _ => by
    have e := adv_eq h0 (k + 1) (by omega) (by omega)
    obtain ⟨j, h1, h2⟩ := advG_1 (F := F) (k + 1) (by omega)
    have hne : ¬ (advG F (k + 1)).1 = -1 := by rw [h2]; exact nI_m1 (by omega)
    by_cases q : F (k + 1) < (advG F (k + 1)).2
    · rw [advG_t (Or.inr q), advC_t (by rw [e]; exact q)]
    · rw [advG_f hne q, advC_f (by rw [e]; exact q), e]
set_option maxHeartbeats 100000 in
theorem adv_ans {fa : Nat → Int32} {nf : Nat} {he stg sup wd : Int32} {sn rd ri : Nat → Int32} {lim : Int32} {nr : Nat} (hn : nf ≤ 10) (hr : nr ≤ 4) (hw : wd = 0 ∨ wd = 1 ∨ wd = 2 ∨ wd = 3) : (advC (advK (advD wd) fa nf he stg sup wd sn rd ri lim nr) 20).1 = advS fa nf he stg sup wd sn rd ri lim nr := by
  have h81 : ∀ d k, advK d fa nf he stg sup wd sn rd ri lim nr k < 81 := fun d k => by
    unfold advK
    obtain ⟨z, h1, h2⟩ := allB_nn (sn := (hsS stg sup (scH (hgS fa (-1) nf).1 (rfi d (nI k)) d he 20) (scV (hgS fa (-1) nf).1 (hgS fa (-1) nf).2 (rfi d (nI k)) d he 0 20) wd sn 4).2.1) (rd := rd) (ri := ri) (lim := lim) nr
    rw [h2]
    exact nI_lt (b := 81) (by omega) (by decide)
  rw [adv_eq (h81 _ 0) 20 (by decide) (by decide)]
  unfold advS
  have hD : (advD wd = 1 ∧ wd - wd / 2 * 2 = 0) ∨ (advD wd = 0 ∧ ¬ wd - wd / 2 * 2 = 0) := by
    rcases hw with rfl | rfl | rfl | rfl <;> decide
  rcases hD with ⟨h1, h2⟩ | ⟨h1, h2⟩
  · rw [if_pos h2, h1, show advF1 fa nf he stg sup wd sn rd ri lim nr = advK 1 fa nf he stg sup wd sn rd ri lim nr from funext fun k => advK_1 hn]
  · rw [if_neg h2, h1, show advF0 fa nf he stg sup wd sn rd ri lim nr = advK 0 fa nf he stg sup wd sn rd ri lim nr from funext fun k => advK_0 hn]
set_option maxHeartbeats 100000 in
theorem lg_cmp_self (x : Int64) : lg_cmp x x = 0 := (lg_cmp_eq x x).mpr rfl
set_option maxHeartbeats 100000 in
theorem selN {α : Type} {k : Int32} {a b : α} (h : ¬ k = 0) : sel k a b = b := if_neg h
