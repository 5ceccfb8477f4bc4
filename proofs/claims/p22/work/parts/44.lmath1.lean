/-! ===== the two sides agree: snow stays within 0 to 200; fall; advise ===== -/
theorem i32a {a b : Int32} (h1 : -2147483648 ≤ a.toInt + b.toInt) (h2 : a.toInt + b.toInt ≤ 2147483647) : (a + b).toInt = a.toInt + b.toInt := by
  rw [Int32.toInt_add]; exact Int.bmod_eq_of_le (by omega) (by omega)
theorem i32s {a b : Int32} (h1 : -2147483648 ≤ a.toInt - b.toInt) (h2 : a.toInt - b.toInt ≤ 2147483647) : (a - b).toInt = a.toInt - b.toInt := by
  rw [Int32.toInt_sub]; exact Int.bmod_eq_of_le (by omega) (by omega)
theorem i32m {a b : Int32} (h1 : -2147483648 ≤ a.toInt * b.toInt) (h2 : a.toInt * b.toInt ≤ 2147483647) : (a * b).toInt = a.toInt * b.toInt := by
  rw [Int32.toInt_mul]; exact Int.bmod_eq_of_le (by omega) (by omega)
theorem i32n {a : Int32} (h1 : -2147483647 ≤ a.toInt) : (-a).toInt = -a.toInt := by
  have h2 := Int32.toInt_lt a
  rw [Int32.toInt_neg]; exact Int.bmod_eq_of_le (by omega) (by omega)
theorem mx_I (a b : Int32) : (mx a b).toInt = if a.toInt < b.toInt then b.toInt else a.toInt := by
  unfold mx
  by_cases h : a < b
  · rw [if_pos h, if_pos (Int32.lt_iff_toInt_lt.mp h)]
  · rw [if_neg h, if_neg (fun q => h (Int32.lt_iff_toInt_lt.mpr q))]
theorem mn_I (a b : Int32) : (mn a b).toInt = if b.toInt < a.toInt then b.toInt else a.toInt := by
  unfold mn
  by_cases h : b < a
  · rw [if_pos h, if_pos (Int32.lt_iff_toInt_lt.mp h)]
  · rw [if_neg h, if_neg (fun q => h (Int32.lt_iff_toInt_lt.mpr q))]
def BI (lo hi : Int) (x : Int32) : Prop := lo ≤ x.toInt ∧ x.toInt ≤ hi
def RB (hi : Int) (f : Nat → Int32) : Prop := ∀ j : Nat, j < 400 → BI 0 hi (f j)
theorem RBgd {hi : Int} {f : Nat → Int32} (h : RB hi f) (h0 : 0 ≤ hi) (c : Int32) : BI 0 hi (gd f c) := by
  by_cases h1 : c < 0
  · rw [gd_lo h1]; exact ⟨by decide, h0⟩
  · by_cases h2 : 400 ≤ c
    · rw [gd_hi h2]; exact ⟨by decide, h0⟩
    · obtain ⟨j, hj, rfl⟩ := vp_in_of (vp400 h1 h2) (by decide)
      rw [gd_nI hj]; exact h j hj
theorem RBgp {hi : Int} {f : Nat → Int32} (h : RB hi f) {c v : Int32} (hv : BI 0 hi v) : RB hi (gp f c v) := by
  by_cases h1 : c < 0
  · rw [gp_lo h1]; exact h
  · by_cases h2 : 400 ≤ c
    · rw [gp_hi h2]; exact h
    · rw [gp_in h1 h2]
      intro j hj
      unfold upd
      by_cases q : j = c.toNatClampNeg
      · rw [if_pos q]; exact hv
      · rw [if_neg q]; exact h j hj
theorem RBsc {hf : Nat → Int32} {fi d he : Int32} (h : RB 9 hf) (hv : BI 0 9 he) : ∀ n : Nat, RB 9 (scH hf fi d he n)
  | 0 => h
  | n + 1 => by
    by_cases q : he ≤ gd (scH hf fi d he n) (cellAt fi d n)
    · rw [show scH hf fi d he (n + 1) = _ from if_pos q]; exact RBsc h hv n
    · rw [show scH hf fi d he (n + 1) = _ from if_neg q]; exact RBgp (RBsc h hv n) hv
theorem nI_BI {k : Nat} {hi : Int} (h : (k : Int) ≤ hi) (hk : k < 2 ^ 31) : BI 0 hi (nI k) := by
  unfold BI
  rw [nI_toInt hk]
  omega
theorem hgS_RB {fa : Nat → Int32} {wo : Int32} : ∀ n : Nat, (∀ j, j < n → okF fa j) → RB 9 (hgS fa wo n).1
  | 0, _ => fun _ _ => (⟨by decide, by decide⟩ : BI 0 9 (0 : Int32))
  | n + 1, hok => by
    have h := hgS_RB (wo := wo) n (fun j hj => hok j (by omega))
    by_cases q : nI n = wo
    · rw [show hgS fa wo (n + 1) = _ from if_pos q]; exact h
    · rw [show hgS fa wo (n + 1) = _ from if_neg q]
      obtain ⟨he, e, h1, h2⟩ := (hok n (by omega)).he
      exact RBsc h (by rw [e]; exact nI_BI (by omega) (by omega)) _
def PI9 (x : PC) : Prop := RB 200 x.1 ∧ BI 0 90 x.2.1 ∧ BI 0 90 x.2.2.2.2
