/-! ===== the mean is no NaN ===== -/
def fgd : FP.Core.Datum → Prop | .nan => False | .inf _ => True | .fin _ c q => c < 9007199254740992 ∧ q ≤ 971
theorem fet : FP.Core.b64.tails = 4503599627370496 := by decide
theorem fee : FP.Core.b64.exps = 2048 := by decide
theorem fqx : FP.Core.b64.qmax = 971 := by decide
theorem fqn : FP.Core.b64.qmin = -1074 := by decide
theorem fgd_bound {s : Bool} {c : Nat} {q : Int} (h : c < 9007199254740992) : fgd (FP.Core.bound FP.Core.b64 s c q) := by
  unfold FP.Core.bound
  split
  · rename_i h2
    rw [fqx] at h2
    exact ⟨h, h2⟩
  · trivial
theorem fgd_settle {s : Bool} {c : Nat} {q : Int} : fgd (FP.Core.settle FP.Core.b64 s c q) := by
  unfold FP.Core.settle
  split
  · rename_i h2
    exact fgd_bound (by rw [show 2 ^ FP.Core.b64.p = 9007199254740992 from by decide] at h2; exact h2)
  · exact fgd_bound (by decide)
theorem fgd_rr {s : Bool} {n d : Nat} {e : Int} : fgd (FP.Core.roundRatio FP.Core.b64 s n d e) := by
  unfold FP.Core.roundRatio
  split
  · exact ⟨by decide, by decide⟩
  · exact fgd_settle
theorem fenc {d : FP.Core.Datum} (h : fgd d) : ∃ (s : Bool) (e t : Nat), FP.Core.encode FP.Core.b64 d = (s.toNat * 2048 + e) * 4503599627370496 + t ∧ t < 4503599627370496 ∧ (e < 2047 ∨ (e = 2047 ∧ t = 0)) := by
  cases d with
  | nan => exact h.elim
  | inf s => exact ⟨s, 2047, 0, by simp only [FP.Core.encode, FP.Core.assemble, fet, fee], by decide, Or.inr ⟨rfl, rfl⟩⟩
  | fin s c q =>
    obtain ⟨h1, h2⟩ := h
    simp only [FP.Core.encode, FP.Core.assemble, fet, fee, fqn]
    split
    · rename_i h3
      exact ⟨s, 0, c, rfl, h3, Or.inl (by decide)⟩
    · rename_i h3
      exact ⟨s, (q - -1074).toNat + 1, c - 4503599627370496, rfl, by omega, Or.inl (by omega)⟩
theorem fdec {n : Nat} {s : Bool} {e t : Nat} (hn : n = (s.toNat * 2048 + e) * 4503599627370496 + t) (ht : t < 4503599627370496) (he : e < 2047 ∨ (e = 2047 ∧ t = 0)) : FP.Core.decode FP.Core.b64 n ≠ .nan := by
  have e1 : FP.Core.fieldE FP.Core.b64 n = e := by
    show n / FP.Core.b64.tails % FP.Core.b64.exps = e
    rw [fet, fee, hn]
    omega
  have e2 : FP.Core.fieldT FP.Core.b64 n = t := by
    show n % FP.Core.b64.tails = t
    rw [fet, hn]
    omega
  unfold FP.Core.decode
  rw [e1, e2, fee]
  split
  · rw [if_pos (by omega)]
    intro q
    cases q
  · split <;> (intro q; cases q)
theorem flt {s : Bool} {e t : Nat} (ht : t < 4503599627370496) (he : e < 2047 ∨ (e = 2047 ∧ t = 0)) : (s.toNat * 2048 + e) * 4503599627370496 + t < 18446744073709551616 := by
  have : s.toNat ≤ 1 := by cases s <;> decide
  omega
theorem fto {k : Nat} (h : k < 18446744073709551616) : (UInt64.ofNat k).toNat = k := by
  rw [UInt64.toNat_ofNat']
  exact Nat.mod_eq_of_lt h
theorem fn64 {d : FP.Core.Datum} (h : fgd d) : vf_n64 (UInt64.ofNat (FP.Core.encode FP.Core.b64 d)) := by
  obtain ⟨s, e, t, hn, ht, he⟩ := fenc h
  have hs := flt (s := s) ht he
  unfold vf_n64
  rw [UInt64.le_iff_toNat_le, UInt64.toNat_and, hn, fto hs, show (0x7fffffffffffffff : UInt64).toNat = 2 ^ 63 - 1 from by decide, Nat.and_two_pow_sub_one_eq_mod, show (0x7ff0000000000000 : UInt64).toNat = 9218868437227405312 from by decide]
  omega
theorem fquo {x : FP.Core.Datum} (hx : x ≠ .nan) {t : Bool} {d : Nat} {r : Int} (hd : d ≠ 0) : fgd (FP.Core.quotient FP.Core.b64 x (.fin t d r)) := by
  cases x with
  | nan => exact (hx rfl).elim
  | inf s => trivial
  | fin s c q =>
    show fgd (if d = 0 then _ else _)
    rw [if_neg hd]
    exact fgd_rr
theorem fi2d (a : Int32) : FP.Core.decode FP.Core.b64 (FP.i2d a).toNat ≠ .nan := by
  obtain ⟨s, e, t, hn, ht, he⟩ := fenc (d := FP.Core.round FP.Core.b64 (FP.Core.ofInt a.toInt)) fgd_rr
  show FP.Core.decode FP.Core.b64 (UInt64.ofNat (FP.Core.encode FP.Core.b64 (FP.Core.round FP.Core.b64 (FP.Core.ofInt a.toInt)))).toNat ≠ .nan
  rw [hn, fto (flt ht he)]
  exact fdec rfl ht he
/-- a whole number by 400.0 -/
theorem mean_n64 (a : Int32) : vf_n64 (FP.ddiv (FP.i2d a) 4645744490609377280) := by
  show vf_n64 (UInt64.ofNat (FP.Core.encode FP.Core.b64 (FP.Core.quotient FP.Core.b64 (FP.Core.decode FP.Core.b64 (FP.i2d a).toNat) (FP.Core.decode FP.Core.b64 (4645744490609377280 : UInt64).toNat))))
  refine fn64 ?_
  rw [show FP.Core.decode FP.Core.b64 (4645744490609377280 : UInt64).toNat = .fin false 7036874417766400 (-44) from by decide]
  exact fquo (fi2d a) (by decide)
