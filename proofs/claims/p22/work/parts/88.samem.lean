/-! ===== all the same: sums over the field, of a fence's cells, what is told ===== -/
theorem sumW {sn : Nat → Int32} {n : Nat} (h : n < 400) : sumG sn (0 * 20 + 0) 0 n + sn n = sumG sn (0 * 20 + 0) 0 (n + 1) := by
  show _ = sumG sn (0 * 20 + 0) 0 n + gd sn (cellAt (0 * 20 + 0) 0 n)
  rw [cellAt_whole, gd_nI h]
theorem mostW {sn : Nat → Int32} {n : Nat} (h : n < 400) : mx (mostG sn (0 * 20 + 0) 0 n) (sn n) = mostG sn (0 * 20 + 0) 0 (n + 1) := by
  show _ = mx (mostG sn (0 * 20 + 0) 0 n) (gd sn (cellAt (0 * 20 + 0) 0 n))
  rw [cellAt_whole, gd_nI h]
/-- the snow on a fence's cells, cell by cell of the field -/
def onS (f sn : Nat → Int32) : Nat → Int32 | 0 => 0 | n + 1 => onS f sn n + (if onI f (nI (n % 20)) (nI (n / 20)) = 0 then 0 else sn n)
theorem onS_0 {f sn : Nat → Int32} {r c : Nat} (hc : c < 20) (h : onI f (nI c) (nI r) = 0) : onS f sn (20 * r + c) + 0 = onS f sn (20 * r + (c + 1)) := by
  show _ = onS f sn (20 * r + c) + (if onI f (nI ((20 * r + c) % 20)) (nI ((20 * r + c) / 20)) = 0 then 0 else sn (20 * r + c))
  rw [show (20 * r + c) % 20 = c by omega, show (20 * r + c) / 20 = r by omega, if_pos h]
theorem onS_1 {f sn : Nat → Int32} {r c : Nat} (hc : c < 20) (h : ¬ onI f (nI c) (nI r) = 0) : onS f sn (20 * r + c) + sn (20 * r + c) = onS f sn (20 * r + (c + 1)) := by
  show _ = onS f sn (20 * r + c) + (if onI f (nI ((20 * r + c) % 20)) (nI ((20 * r + c) / 20)) = 0 then 0 else sn (20 * r + c))
  rw [show (20 * r + c) % 20 = c by omega, show (20 * r + c) / 20 = r by omega, if_neg h]
theorem fcN_mono {fa : Nat → Int32} {k s t : Nat} (h : s < t) : fcN fa k s < fcN fa k t := by
  unfold fcN
  split <;> omega
theorem onS_inv {fa sn : Nat → Int32} {k : Nat} (h : okF fa k) : ∀ n : Nat, n ≤ 400 → ∃ t : Nat, t ≤ fle fa k ∧ onS (fw fa k) sn n = sumG sn (ffi fa k) (fa (6 * k + 3)) t ∧ (∀ s, s < t → fcN fa k s < n) ∧ (∀ s, t ≤ s → s < fle fa k → n ≤ fcN fa k s)
  | 0, _ => ⟨0, Nat.zero_le _, rfl, fun s hs => absurd hs (Nat.not_lt_zero _), fun s _ _ => Nat.zero_le _⟩
  | n + 1, hn => by
    obtain ⟨t, h1, h2, h3, h4⟩ := onS_inv (sn := sn) h n (by omega)
    obtain ⟨c1, c2, c3⟩ := fcN_ok h
    have h5 := c3 (n % 20) (n / 20) (by omega) (by omega)
    rw [show 20 * (n / 20) + n % 20 = n by omega] at h5
    by_cases q : onI (fw fa k) (nI (n % 20)) (nI (n / 20)) = 0
    · refine ⟨t, h1, ?_, fun s hs => Nat.lt_succ_of_lt (h3 s hs), fun s hs hl => ?_⟩
      · show onS (fw fa k) sn n + _ = _
        rw [if_pos q, h2, Int32.add_zero]
      · have := h4 s hs hl
        have e : fcN fa k s ≠ n := fun e => h5.mp ⟨s, hl, e⟩ q
        omega
    · obtain ⟨s, hs, es⟩ := h5.mpr q
      have hst : s = t := by
        rcases Nat.lt_trichotomy s t with w | w | w
        · have := h3 s w; omega
        · exact w
        · have := h4 t (Nat.le_refl _) (by omega)
          have := fcN_mono (fa := fa) (k := k) w
          omega
      subst hst
      refine ⟨s + 1, hs, ?_, fun u hu => ?_, fun u hu hl => ?_⟩
      · show onS (fw fa k) sn n + _ = sumG sn (ffi fa k) (fa (6 * k + 3)) s + gd sn (cellAt (ffi fa k) (fa (6 * k + 3)) s)
        rw [if_neg q, h2, (c1 s hs).1, gd_nI (c1 s hs).2, es]
      · rcases Nat.lt_or_ge u s with w | w
        · have := fcN_mono (fa := fa) (k := k) w; omega
        · rw [show u = s by omega]; omega
      · have := fcN_mono (fa := fa) (k := k) (show s < u by omega); omega
theorem onS_eq {fa sn : Nat → Int32} {k : Nat} (h : okF fa k) : aboutS fa sn k 6 = onS (fw fa k) sn 400 := by
  obtain ⟨t, h1, h2, h3, h4⟩ := onS_inv (sn := sn) h 400 (Nat.le_refl _)
  have e : t = fle fa k := by
    rcases Nat.lt_or_ge t (fle fa k) with q | q
    · have := h4 t (Nat.le_refl _) q
      have := ((fcN_ok h).1 t q).2
      omega
    · omega
  rw [h2, e]
  exact if_neg (by decide)
theorem about_6 {fa sn : Nat → Int32} {k w : Nat} (h : w < 6) : aboutS fa sn k w = fa (6 * k + w) := if_pos h
/-- what five numbers of a road are told -/
theorem told_5 {sn rd ri : Nat → Int32} {lim a b c d e : Int32} {q w : Nat} (h : w < 5) (ha : a = rd q) (hb : b = ri q) (hc : c = blkG sn (rfi (rd q) (ri q)) (rd q) lim 20) (hd : d = sumG sn (rfi (rd q) (ri q)) (rd q) 20) (he : e = mostG sn (rfi (rd q) (ri q)) (rd q) 20) : toldS sn rd ri lim q (nI w) = upd (upd (upd (upd (upd (fun _ => 0) 0 a) 1 b) 2 c) 3 d) 4 e w := by
  unfold toldS
  rw [← hc, ← hd, ← he, ← ha, ← hb]
  clear hc hd he ha hb
  rcases (show w = 0 ∨ w = 1 ∨ w = 2 ∨ w = 3 ∨ w = 4 by omega) with rfl | rfl | rfl | rfl | rfl <;> rfl
/-- ten numbers by their places -/
def c10 (nf nr A B C off plo hrs lim sup x : Int32) : Int32 := if x = 0 then nf else if x = 1 then nr else if x = 2 then A else if x = 3 then B else if x = 4 then C else if x = 5 then off else if x = 6 then plo else if x = 7 then hrs else if x = 8 then lim else sup
theorem c10_0 {nf nr A B C off plo hrs lim sup : Int32} : c10 nf nr A B C off plo hrs lim sup (nI 0) = nf := by
  unfold c10
  rw [if_pos (show nI 0 = (0 : Int32) from by decide)]
theorem c10_1 {nf nr A B C off plo hrs lim sup : Int32} : c10 nf nr A B C off plo hrs lim sup (nI 1) = nr := by
  unfold c10
  rw [if_neg (by decide), if_pos (show nI 1 = (1 : Int32) from by decide)]
theorem c10_2 {nf nr A B C off plo hrs lim sup : Int32} : c10 nf nr A B C off plo hrs lim sup (nI 2) = A := by
  unfold c10
  rw [if_neg (by decide), if_neg (by decide), if_pos (show nI 2 = (2 : Int32) from by decide)]
theorem c10_3 {nf nr A B C off plo hrs lim sup : Int32} : c10 nf nr A B C off plo hrs lim sup (nI 3) = B := by
  unfold c10
  rw [if_neg (by decide), if_neg (by decide), if_neg (by decide), if_pos (show nI 3 = (3 : Int32) from by decide)]
theorem c10_4 {nf nr A B C off plo hrs lim sup : Int32} : c10 nf nr A B C off plo hrs lim sup (nI 4) = C := by
  unfold c10
  rw [if_neg (by decide), if_neg (by decide), if_neg (by decide), if_neg (by decide), if_pos (show nI 4 = (4 : Int32) from by decide)]
theorem c10_5 {nf nr A B C off plo hrs lim sup : Int32} : c10 nf nr A B C off plo hrs lim sup (nI 5) = off := by
  unfold c10
  rw [if_neg (by decide), if_neg (by decide), if_neg (by decide), if_neg (by decide), if_neg (by decide), if_pos (show nI 5 = (5 : Int32) from by decide)]
theorem c10_6 {nf nr A B C off plo hrs lim sup : Int32} : c10 nf nr A B C off plo hrs lim sup (nI 6) = plo := by
  unfold c10
  rw [if_neg (by decide), if_neg (by decide), if_neg (by decide), if_neg (by decide), if_neg (by decide), if_neg (by decide), if_pos (show nI 6 = (6 : Int32) from by decide)]
theorem c10_7 {nf nr A B C off plo hrs lim sup : Int32} : c10 nf nr A B C off plo hrs lim sup (nI 7) = hrs := by
  unfold c10
  rw [if_neg (by decide), if_neg (by decide), if_neg (by decide), if_neg (by decide), if_neg (by decide), if_neg (by decide), if_neg (by decide), if_pos (show nI 7 = (7 : Int32) from by decide)]
theorem c10_8 {nf nr A B C off plo hrs lim sup : Int32} : c10 nf nr A B C off plo hrs lim sup (nI 8) = lim := by
  unfold c10
  rw [if_neg (by decide), if_neg (by decide), if_neg (by decide), if_neg (by decide), if_neg (by decide), if_neg (by decide), if_neg (by decide), if_neg (by decide), if_pos (show nI 8 = (8 : Int32) from by decide)]
theorem c10_9 {nf nr A B C off plo hrs lim sup : Int32} : c10 nf nr A B C off plo hrs lim sup (nI 9) = sup := by
  unfold c10
  rw [if_neg (by decide), if_neg (by decide), if_neg (by decide), if_neg (by decide), if_neg (by decide), if_neg (by decide), if_neg (by decide), if_neg (by decide), if_neg (by decide)]
theorem c10_upd {nf nr A B C off plo hrs lim sup : Int32} {w : Nat} (h : w < 10) : c10 nf nr A B C off plo hrs lim sup (nI w) = upd (upd (upd (upd (upd (upd (upd (upd (upd (upd (fun _ => 0) 0 nf) 1 nr) 2 A) 3 B) 4 C) 5 off) 6 plo) 7 hrs) 8 lim) 9 sup w := by
  rcases (show w = 0 ∨ w = 1 ∨ w = 2 ∨ w = 3 ∨ w = 4 ∨ w = 5 ∨ w = 6 ∨ w = 7 ∨ w = 8 ∨ w = 9 by omega) with rfl | rfl | rfl | rfl | rfl | rfl | rfl | rfl | rfl | rfl
  · exact c10_0
  · exact c10_1
  · exact c10_2
  · exact c10_3
  · exact c10_4
  · exact c10_5
  · exact c10_6
  · exact c10_7
  · exact c10_8
  · exact c10_9
theorem count_10 {nf nr lim sup off plo hrs : Int32} {sn rd ri : Nat → Int32} {n w : Nat} (h : w < 10) : countS nf nr lim sup off plo hrs sn rd ri n (nI w) = upd (upd (upd (upd (upd (upd (upd (upd (upd (upd (fun _ => 0) 0 nf) 1 nr) 2 (sumA sn)) 3 (mostA sn)) 4 (allB sn rd ri lim n)) 5 off) 6 plo) 7 hrs) 8 lim) 9 sup w := c10_upd (A := sumA sn) (B := mostA sn) (C := allB sn rd ri lim n) h
theorem kSnow_ok {c r : Nat} (hc : c < 20) (hr : r < 20) : kSnow (nI c) (nI r) = 0 := if_pos ⟨inRk (a := 0) (b := 19) (Nat.zero_le _) (by omega) (by decide), inRk (a := 0) (b := 19) (Nat.zero_le _) (by omega) (by decide)⟩
theorem kAsk_ok {i n w h : Nat} (hi : i < n) (hn : n < 2 ^ 30) (hw : w ≤ h) (hh : h < 2 ^ 30) : kAsk (nI i) (nI n) (nI w) (nI h) = 0 := if_pos ⟨inR_mk hi hn, inRk (a := 0) (b := h) (Nat.zero_le _) hw hh⟩
theorem kCount_ok {w : Nat} (hw : w < 10) : kCount (nI w) = 0 := if_pos (inRk (a := 0) (b := 9) (Nat.zero_le _) (by omega) (by decide))
theorem snow_at {sn : Nat → Int32} {c r : Nat} (hc : c < 20) (hr : r < 20) : gd sn (nI r * 20 + nI c) = sn (20 * r + c) := by
  rw [show (20 : Int32) = nI 20 from rfl, pk_mul, nI_add, show r * 20 + c = 20 * r + c by omega, gd_nI (by omega)]
/-- a double that is a number is itself -/
theorem cmp_self {x : UInt64} (h : vf_n64 x) : Op.cmpValue (FP.dcmp x x) .l = 0 := by
  have e : FP.dcmp x x = some .eq := FP.Core.dcmp_self ((FP.Core.ne_nan x).mpr (by
    unfold vf_n64 at h
    rw [UInt64.le_iff_toNat_le, UInt64.toNat_and, show (0x7fffffffffffffff : UInt64).toNat = 2 ^ 63 - 1 from by decide, Nat.and_two_pow_sub_one_eq_mod, show (0x7ff0000000000000 : UInt64).toNat = 9218868437227405312 from by decide] at h
    exact h))
  rw [e]
  rfl
