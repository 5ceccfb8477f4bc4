/-! ===== which fence counts on a cell: the law's search and the class's rows ===== -/
/-- a fence's cells by their numbers -/
def fcN (fa : Nat → Int32) (k t : Nat) : Nat := if fa (6 * k + 3) = 1 then 20 * ((fa (6 * k + 1)).toNatClampNeg + t) + (fa (6 * k + 0)).toNatClampNeg else 20 * (fa (6 * k + 1)).toNatClampNeg + (fa (6 * k + 0)).toNatClampNeg + t
theorem fcN_ok {fa : Nat → Int32} {k : Nat} (h : okF fa k) : (∀ t, t < fle fa k → cellAt (ffi fa k) (fa (6 * k + 3)) t = nI (fcN fa k t) ∧ fcN fa k t < 400) ∧ (∀ s t, s < fle fa k → t < fle fa k → fcN fa k s = fcN fa k t → s = t) ∧
    (∀ c r, c < 20 → r < 20 → ((∃ t, t < fle fa k ∧ fcN fa k t = 20 * r + c) ↔ ¬ onI (fw fa k) (nI c) (nI r) = 0)) := by
  obtain ⟨co, ro, le, he, ga, h1, h2, h3, h4, h5, h6, h7, h8, h9, h10⟩ := h
  have hl : le ≤ 20 := by omega
  have e : fle fa k = le := by unfold fle; rw [h3]; exact nI_clamp (by omega)
  have w1 : (nI co).toNatClampNeg = co := nI_clamp (by omega)
  have w2 : (nI ro).toNatClampNeg = ro := nI_clamp (by omega)
  have f0 : fw fa k 0 = nI co := h1
  have f1 : fw fa k 1 = nI ro := h2
  have f2 : fw fa k 2 = nI le := h3
  have f3 : fw fa k 3 = fa (6 * k + 3) := rfl
  rw [e]
  rcases h10 with ⟨hd, q1, q2⟩ | ⟨hd, q1, q2⟩
  · have ed : ¬ fa (6 * k + 3) = 1 := by rw [hd]; decide
    have ec : ∀ t, fcN fa k t = 20 * ro + co + t := fun t => by unfold fcN; rw [if_neg ed, h1, h2, w1, w2]
    refine ⟨fun t ht => ?_, fun s t hs ht q => ?_, fun c r hc hr => ?_⟩
    · rw [ec]
      unfold cellAt ffi
      rw [h1, h2, stp_0 hd, show (20 : Int32) = nI 20 from rfl, show (1 : Int32) = nI 1 from rfl, pk_mul, pk_mul, nI_add, nI_add]
      exact ⟨by congr 1; omega, by omega⟩
    · rw [ec, ec] at q; omega
    · have eo : onI (fw fa k) (nI c) (nI r) = if ¬ nI c - nI co < 0 ∧ nI c - nI co < nI le ∧ nI r = nI ro then 1 else 0 := by
        rw [onI_h (by rw [f3]; exact ed), f0, f1, f2]
      have es := nIs (a := c) (b := co) (by omega) (by omega)
      have hiff : (¬ nI c - nI co < 0 ∧ nI c - nI co < nI le ∧ nI r = nI ro) ↔ (co ≤ c ∧ c < co + le ∧ r = ro) := by
        rw [Int32.lt_iff_toInt_lt, Int32.lt_iff_toInt_lt, es, nI_toInt (by omega), nI_eq (by omega) (by omega), show (0 : Int32).toInt = 0 from by decide]
        omega
      rw [eo]
      constructor
      · rintro ⟨t, ht, q⟩
        rw [ec] at q
        rw [if_pos (hiff.mpr (by omega))]
        decide
      · intro q
        by_cases w : ¬ nI c - nI co < 0 ∧ nI c - nI co < nI le ∧ nI r = nI ro
        · obtain ⟨g1, g2, g3⟩ := hiff.mp w
          exact ⟨c - co, by omega, by rw [ec]; omega⟩
        · rw [if_neg w] at q
          exact absurd rfl q
  · have ec : ∀ t, fcN fa k t = 20 * (ro + t) + co := fun t => by unfold fcN; rw [if_pos hd, h1, h2, w1, w2]
    refine ⟨fun t ht => ?_, fun s t hs ht q => ?_, fun c r hc hr => ?_⟩
    · rw [ec]
      unfold cellAt ffi
      rw [h1, h2, stp_1 (by rw [hd]; decide), show (20 : Int32) = nI 20 from rfl, pk_mul, pk_mul, nI_add, nI_add]
      exact ⟨by congr 1; omega, by omega⟩
    · rw [ec, ec] at q; omega
    · have eo : onI (fw fa k) (nI c) (nI r) = if ¬ nI r - nI ro < 0 ∧ nI r - nI ro < nI le ∧ nI c = nI co then 1 else 0 := by
        rw [onI_v (by rw [f3]; exact hd), f0, f1, f2]
      have es := nIs (a := r) (b := ro) (by omega) (by omega)
      have hiff : (¬ nI r - nI ro < 0 ∧ nI r - nI ro < nI le ∧ nI c = nI co) ↔ (ro ≤ r ∧ r < ro + le ∧ c = co) := by
        rw [Int32.lt_iff_toInt_lt, Int32.lt_iff_toInt_lt, es, nI_toInt (by omega), nI_eq (by omega) (by omega), show (0 : Int32).toInt = 0 from by decide]
        omega
      rw [eo]
      constructor
      · rintro ⟨t, ht, q⟩
        rw [ec] at q
        rw [if_pos (hiff.mpr (by omega))]
        decide
      · intro q
        by_cases w : ¬ nI r - nI ro < 0 ∧ nI r - nI ro < nI le ∧ nI c = nI co
        · obtain ⟨g1, g2, g3⟩ := hiff.mp w
          exact ⟨r - ro, by omega, by rw [ec]; omega⟩
        · rw [if_neg w] at q
          exact absurd rfl q
/-- the class's rows of heights and gaps at a cell: none stands there, or the highest, of several the first; one may be left out -/
def tpI (fa : Nat → Int32) (wo : Int32) (n : Nat) (c r : Nat) (H G : Int32) : Prop :=
  (H = 0 ∧ ∀ j, j < n → ¬ nI j = wo → onI (fw fa j) (nI c) (nI r) = 0) ∨
  ∃ b, b < n ∧ ¬ nI b = wo ∧ ¬ onI (fw fa b) (nI c) (nI r) = 0 ∧ H = fa (6 * b + 4) ∧ G = fa (6 * b + 5) ∧ ∀ j, j < n → ¬ nI j = wo → ¬ onI (fw fa j) (nI c) (nI r) = 0 → ¬ fa (6 * b + 4) < fa (6 * j + 4) ∧ (j < b → fa (6 * j + 4) < fa (6 * b + 4))
theorem hg_tp {fa : Nat → Int32} {wo : Int32} {c r : Nat} (hc : c < 20) (hr : r < 20) : ∀ n : Nat, (∀ j, j < n → okF fa j) → tpI fa wo n c r ((hgS fa wo n).1 (20 * r + c)) ((hgS fa wo n).2 (20 * r + c))
  | 0, _ => Or.inl ⟨rfl, fun j hj => absurd hj (Nat.not_lt_zero _)⟩
  | n + 1, hok => by
    have ih := hg_tp (wo := wo) hc hr n (fun j hj => hok j (by omega))
    have hle : ∀ j, j < n + 1 → ¬ nI j = wo → (j < n ∨ (j = n ∧ ¬ nI n = wo)) := fun j hj hw => by
      rcases Nat.lt_or_ge j n with q | q
      · exact Or.inl q
      · obtain rfl : j = n := by omega
        exact Or.inr ⟨rfl, hw⟩
    by_cases hw : nI n = wo
    · rw [show hgS fa wo (n + 1) = hgS fa wo n from if_pos hw]
      rcases ih with ⟨h1, h2⟩ | ⟨b, h1, h2, h3, h4, h5, h6⟩
      · exact Or.inl ⟨h1, fun j hj hjw => (hle j hj hjw).elim (fun q => h2 j q hjw) (fun q => absurd hw q.2)⟩
      · exact Or.inr ⟨b, by omega, h2, h3, h4, h5, fun j hj hjw ho => (hle j hj hjw).elim (fun q => h6 j q hjw ho) (fun q => absurd hw q.2)⟩
    · rw [show hgS fa wo (n + 1) = _ from if_neg hw]
      obtain ⟨s1, s2, s3⟩ := fcN_ok (hok n (by omega))
      obtain ⟨p1, p2⟩ := sc_at (hf := (hgS fa wo n).1) (gf := (hgS fa wo n).2) (fi := ffi fa n) (d := fa (6 * n + 3)) (h := fa (6 * n + 4)) (g := fa (6 * n + 5)) (cc := fcN fa n) (z := 20 * r + c) (fle fa n) s1 s2 (by omega)
      dsimp only
      by_cases ho : onI (fw fa n) (nI c) (nI r) = 0
      · obtain ⟨e1, e2⟩ := p1 (fun q => (s3 c r hc hr).mp q ho)
        rw [e1, e2]
        rcases ih with ⟨h1, h2⟩ | ⟨b, h1, h2, h3, h4, h5, h6⟩
        · exact Or.inl ⟨h1, fun j hj hjw => (hle j hj hjw).elim (fun q => h2 j q hjw) (fun q => by rw [q.1]; exact ho)⟩
        · exact Or.inr ⟨b, by omega, h2, h3, h4, h5, fun j hj hjw hjo => (hle j hj hjw).elim (fun q => h6 j q hjw hjo) (fun q => absurd ho (by rw [← q.1]; exact hjo))⟩
      · obtain ⟨p3, p4⟩ := p2 ((s3 c r hc hr).mpr ho)
        obtain ⟨he, eh, g1, g2⟩ := (hok n (by omega)).he
        by_cases hh : fa (6 * n + 4) ≤ (hgS fa wo n).1 (20 * r + c)
        · obtain ⟨e1, e2⟩ := p3 hh
          rw [e1, e2]
          rcases ih with ⟨h1, h2⟩ | ⟨b, h1, h2, h3, h4, h5, h6⟩
          · rw [h1, eh] at hh
            exact absurd hh (nI_nle (by omega) (by omega))
          · rw [h4] at hh
            exact Or.inr ⟨b, by omega, h2, h3, h4, h5, fun j hj hjw hjo => (hle j hj hjw).elim (fun q => h6 j q hjw hjo) (fun q => by rw [q.1]; exact ⟨Int32.not_lt.mpr hh, fun z => by omega⟩)⟩
        · obtain ⟨e1, e2⟩ := p4 hh
          rw [e1, e2]
          refine Or.inr ⟨n, by omega, hw, ho, rfl, rfl, fun j hj hjw hjo => (hle j hj hjw).elim (fun q => ?_) (fun q => by rw [q.1]; exact ⟨fun z => Int32.lt_irrefl z, fun z => by omega⟩)⟩
          rcases ih with ⟨h1, h2⟩ | ⟨b, h1, h2, h3, h4, h5, h6⟩
          · exact absurd (h2 j q hjw) hjo
          · rw [h4] at hh
            have w := (h6 j q hjw hjo).1
            have lt : fa (6 * j + 4) < fa (6 * n + 4) := i32lelt (Int32.not_lt.mp w) (Int32.not_le.mp hh)
            exact ⟨fun z => Int32.lt_irrefl (Int32.lt_trans lt z), fun _ => lt⟩
/-- two such cells tell the same -/
theorem bs_hg {fa : Nat → Int32} {n nb c r : Nat} {fb : Nat → Int32} (hn : n < 2 ^ 30) (hok : ∀ j, j < n → okF fa j) (hc : c < 20) (hr : r < 20) (h : bsI fa n (nI c) (nI r) 0 nb fb) : (nb = 0 ∧ (hgS fa (-1) n).1 (20 * r + c) = 0) ∨ (nb = 6 ∧ (hgS fa (-1) n).1 (20 * r + c) = fb 4 ∧ (hgS fa (-1) n).2 (20 * r + c) = fb 5 ∧ ∃ he ga : Nat, fb 4 = nI he ∧ fb 5 = nI ga ∧ 1 ≤ he ∧ he ≤ 9 ∧ ga ≤ 3) := by
  have hm : ∀ j, j < n → ¬ nI j = -1 := fun j hj => nI_m1 (by omega)
  rcases hg_tp (wo := -1) hc hr n hok with ⟨t1, t2⟩ | ⟨b, t1, t2, t3, t4, t5, t6⟩
  · rcases h with ⟨h1, h2⟩ | ⟨h1, b, h2, h3, h4, h5, h6⟩
    · exact Or.inl ⟨h1, t1⟩
    · exact absurd (t2 b h3 (hm b h3)) h5
  · rcases h with ⟨h1, h2⟩ | ⟨h1, b2, h2, h3, h4, h5, h6⟩
    · exact absurd (h2 b (Nat.zero_le _) t1) t3
    · have w1 := t6 b2 h3 (hm b2 h3) h5
      have w2 := h6 b (Nat.zero_le _) t1 t3
      have e : b2 = b := by
        rcases Nat.lt_or_ge b2 b with q | q
        · exact absurd (w1.2 q) w2.1
        · rcases Nat.lt_or_ge b b2 with p | p
          · exact absurd (w2.2 p) w1.1
          · omega
      subst e
      obtain ⟨co, ro, le, he, ga, k1, k2, k3, k4, k5, k6, k7, k8, k9, k10⟩ := hok b2 t1
      exact Or.inr ⟨h1, by rw [h4 4 (by decide)]; exact t4, by rw [h4 5 (by decide)]; exact t5, he, ga, (h4 4 (by decide)).trans k4, (h4 5 (by decide)).trans k5, k7, k8, k9⟩
/-- the row of a line's fences, the first k of them -/
def TK (E : zG) (ws : va_W) (ql : Nat) (gt : Nat → Option Nat) (hl gl : Nat → Int32) (k : Nat) : Prop := ∀ j : Nat, j < k → ∃ (a q m : Nat) (f : Nat → Int32), gt j = some a ∧ ws[q]? = some (a, zI4 E m f) ∧ q ≠ ql ∧ ((m = 0 ∧ hl j = 0) ∨ (m = 6 ∧ hl j = f 4 ∧ gl j = f 5 ∧ ∃ he ga : Nat, f 4 = nI he ∧ f 5 = nI ga ∧ 1 ≤ he ∧ he ≤ 9 ∧ ga ≤ 3))
theorem TK.keep {E : zG} {ws ws' : va_W} {S : List Nat} {ql k : Nat} {gt : Nat → Option Nat} {hl gl : Nat → Int32} (h : TK E ws ql gt hl gl k) (hk : zK S ws ws') (hS : ∀ (q a m : Nat) (f : Nat → Int32), q ≠ ql → ws[q]? = some (a, zI4 E m f) → q ∉ S) : TK E ws' ql gt hl gl k := fun j hj => by
  obtain ⟨a, q, m, f, h1, h2, h3, h4⟩ := h j hj
  exact ⟨a, q, m, f, h1, hk.2 _ _ (hS q a m f h3 h2) h2, h3, h4⟩
theorem TK.push {E : zG} {ws : va_W} {ql k ba pb nb lla : Nat} {gt : Nat → Option Nat} {hl gl fb lv : Nat → Int32} (h : TK E ws ql gt hl gl k) (hb : ws[pb]? = some (ba, zI4 E nb fb)) (hl0 : ws[ql]? = some (lla, zI4 E 20 lv)) (hc : (nb = 0 ∧ hl k = 0) ∨ (nb = 6 ∧ hl k = fb 4 ∧ gl k = fb 5 ∧ ∃ he ga : Nat, fb 4 = nI he ∧ fb 5 = nI ga ∧ 1 ≤ he ∧ he ≤ 9 ∧ ga ≤ 3)) : TK E ws ql (va_up gt k (some ba)) hl gl (k + 1) := fun j hj => by
  by_cases e : j = k
  · subst e
    exact ⟨ba, pb, nb, fb, va_up_self _ _ _, hb, zneL (by omega) hb hl0, hc⟩
  · obtain ⟨a, q, m, f, h1, h2, h3, h4⟩ := h j (by omega)
    exact ⟨a, q, m, f, (va_up_ne _ _ e).trans h1, h2, h3, h4⟩
theorem hrS_I {stg sup wd : Int32} {hf gf sn : Nat → Int32} (hs : BI 1 9 stg) (hu : BI 0 40 sup) (hh : RB 9 hf) (h : RB 200 sn) (n : Nat) : RB 200 (hrS stg sup hf gf wd sn n).2.1 := by
  have h1 : BI 0 90 (0 : Int32) := ⟨by decide, by decide⟩
  have h9 : PI9 (hrX sn) := ⟨h, h1, h1⟩
  unfold hrS
  exact (cfS_I hs hu hh h9 n).1
