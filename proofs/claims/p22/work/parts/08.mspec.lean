/-! ===== the reference's words; rows for System.arraycopy of ints ===== -/
section ZCP
variable {p : Program} {l : Launch} {e : Env} {R : Room} {s : State} {m : MethodId} {args : Array Value} {below : List Frame} {meth : Method} {c : Code} {H : Heap} {locs : List Loc} {cells slots : Nat} {Q : State → Prop}
variable {cc : ByteArray} {pc nL : Nat} {ls : Array Slot} {rest : List Value} {ws : va_W} {own : String} {Ts : List Cond} {E : zG}
theorem z_copyI (X : zC E p m c cc nL s args Ts own) (J : zJ E ws s H locs) (hls : ls.size = nL) {index : Nat} (hlink : Cond.methodLink own index arraycopyName ∈ Ts) (hnat : Cond.native arraycopyName ∈ Ts) (hstat : Cond.static arraycopyName ∈ Ts) (hini : Cond.initialized "java/lang/System" ∈ Ts)
    (q0 q1 : Nat) {a0 a n0 n1 : Nat} {f g : Nat → Int32} (h0 : ws[q0]? = some (a0, zI4 E n0 f)) (h1 : ws[q1]? = some (a, zI4 E n1 g)) {sp dp n : Int32} (e1 : ¬ sp < 0) (e2 : ¬ dp < 0) (e3 : ¬ n < 0) (e4 : sp.toNatClampNeg + n.toNatClampNeg ≤ n0) (e5 : dp.toNatClampNeg + n.toNatClampNeg ≤ n1)
    (hframes : 1 ≤ R.frames) (hlocals : (rest.map fun v => v.category).sum + (nativeFrameWords "java/lang/System" "arraycopy" 5 + 11) ≤ R.locals) (hdg : decode cc pc = .ok (.invokestatic index, 3))
    (kk : ∀ (H1 : Heap) (locs1 : List Loc), zJ E (ws.set q1 (a, zI4 E n1 (va_cpy f g sp.toNatClampNeg dp.toNatClampNeg n.toNatClampNeg))) s H1 locs1 → W p l e R s m args below meth c H1 locs1 cells slots Q (F0 m (pc + 3) ls rest)) : W p l e R s m args below meth c H locs cells slots Q (F0 m pc ls (.int n :: .int dp :: .ref a :: .int sp :: .ref a0 :: rest)) :=
  va_copyi (ty := .int) X.1.1 X.1.2.1 (X.1.2.2.1.trans hls.symm) X.1.2.2.2.1 (X.1.2.2.2.2 _ hlink) (X.1.2.2.2.2 _ hnat) (X.1.2.2.2.2 _ hstat) (X.1.2.2.2.2 _ hini) X.2.1 J.1 J.2.1 J.2.2 q0 q1 0 0 h0 h1 rfl rfl rfl e1 e2 e3 e4 e5 (fun _ _ => rfl) hframes hlocals hdg (fun H1 locs1 hP hD hS => kk H1 locs1 ⟨hP, hD, hS⟩)
end ZCP
def isInS (v lo hi : Int32) : Int32 := if ¬ v < lo ∧ ¬ hi < v then 1 else 0
theorem isInS_1 {v lo hi : Int32} (h1 : ¬ v < lo) (h2 : ¬ hi < v) : isInS v lo hi = 1 := if_pos ⟨h1, h2⟩
theorem isInS_0 {v lo hi : Int32} (h : v < lo ∨ hi < v) : isInS v lo hi = 0 := if_neg (fun q => h.elim q.1 q.2)
theorem isInS_nar {v lo hi : Int32} : narrow .boolean (.int (isInS v lo hi)) = .int (isInS v lo hi) := by unfold isInS; split <;> rfl
theorem isInS_e0 {v lo hi : Int32} (h : isInS v lo hi = 0) : v < lo ∨ hi < v := by
  unfold isInS at h
  by_cases h1 : v < lo
  · exact Or.inl h1
  · by_cases h2 : hi < v
    · exact Or.inr h2
    · rw [if_pos ⟨h1, h2⟩] at h
      exact absurd h (by decide)
theorem isInS_e1 {v lo hi : Int32} (h : ¬ isInS v lo hi = 0) : ¬ v < lo ∧ ¬ hi < v := by
  unfold isInS at h
  by_cases h1 : ¬ v < lo ∧ ¬ hi < v
  · exact h1
  · rw [if_neg h1] at h
    exact absurd rfl h
theorem of_ix (k j : Nat) : (6 : Int32) * nI k + nI j = nI (6 * k + j) := by
  rw [show (6 : Int32) = nI 6 from rfl, pk_mul, nI_add]
theorem gd_vp {f : Nat → Int32} {i : Int32} (h : vp_in i 400) : f i.toNatClampNeg = gd f i := by
  obtain ⟨j, hj, rfl⟩ := vp_in_of h (by decide)
  rw [gd_nI hj, nI_clamp (by omega)]
theorem gp_vp {f : Nat → Int32} {i v : Int32} (h : vp_in i 400) : upd f i.toNatClampNeg v = gp f i v := by
  obtain ⟨j, hj, rfl⟩ := vp_in_of h (by decide)
  rw [gp_nI hj, nI_clamp (by omega)]
/-- a fence by its six numbers; a road by its two -/
def ffi (fa : Nat → Int32) (i : Nat) : Int32 := fa (6 * i + 1) * 20 + fa (6 * i + 0)
def rfi (dn ix : Int32) : Int32 := if dn = 1 then 0 * 20 + ix else ix * 20 + 0
def is01 (x : Int32) : Prop := x = 0 ∨ x = 1
theorem cell_ref {ro co dn : Int32} {k : Nat} (h : is01 dn) : 20 * (ro + (if dn = 1 then nI k else 0)) + co + (if dn = 1 then 0 else nI k) = cellAt (ro * 20 + co) dn k := by
  unfold cellAt
  rcases h with rfl | rfl
  · rw [if_neg (by decide), if_neg (by decide), stp_0 rfl]; grind
  · rw [if_pos rfl, if_pos rfl, stp_1 (by decide)]; grind
theorem cellOf_d {ix : Int32} {k : Nat} {dn : Int32} (h : dn = 1) : 20 * nI k + ix = cellAt (rfi dn ix) dn k := by
  subst h
  unfold cellAt rfi
  rw [if_pos rfl, stp_1 (by decide)]; grind
theorem cellOf_a {ix : Int32} {k : Nat} {dn : Int32} (h01 : is01 dn) (h : ¬ dn = 1) : 20 * ix + nI k = cellAt (rfi dn ix) dn k := by
  rcases h01 with rfl | rfl
  · unfold cellAt rfi
    rw [if_neg (by decide), stp_0 rfl]; grind
  · exact absurd rfl h
/-- a fence's numbers stand as they must -/
def okF (fa : Nat → Int32) (i : Nat) : Prop := ∃ co ro le he ga : Nat, fa (6 * i + 0) = nI co ∧ fa (6 * i + 1) = nI ro ∧ fa (6 * i + 2) = nI le ∧ fa (6 * i + 4) = nI he ∧ fa (6 * i + 5) = nI ga ∧ 1 ≤ le ∧ 1 ≤ he ∧ he ≤ 9 ∧ ga ≤ 3 ∧ ((fa (6 * i + 3) = 0 ∧ co + le ≤ 20 ∧ ro < 20) ∨ (fa (6 * i + 3) = 1 ∧ ro + le ≤ 20 ∧ co < 20))
def okR (rd ri : Nat → Int32) (r : Nat) : Prop := is01 (rd r) ∧ ∃ x : Nat, x < 20 ∧ ri r = nI x
def fle (fa : Nat → Int32) (i : Nat) : Nat := (fa (6 * i + 2)).toNatClampNeg
theorem okF.le {fa : Nat → Int32} {i : Nat} (h : okF fa i) : fa (6 * i + 2) = nI (fle fa i) ∧ fle fa i ≤ 20 := by
  obtain ⟨co, ro, le, he, ga, h1, h2, h3, h4, h5, h6, h7, h8, h9, h10⟩ := h
  have hl : le ≤ 20 := by omega
  have e : fle fa i = le := by unfold fle; rw [h3]; exact nI_clamp (by omega)
  rw [e]
  exact ⟨h3, hl⟩
theorem okF.dn {fa : Nat → Int32} {i : Nat} (h : okF fa i) : is01 (fa (6 * i + 3)) := by
  obtain ⟨co, ro, le, he, ga, h1, h2, h3, h4, h5, h6, h7, h8, h9, h10⟩ := h
  rcases h10 with h | h
  · exact Or.inl h.1
  · exact Or.inr h.1
theorem okF.he {fa : Nat → Int32} {i : Nat} (h : okF fa i) : ∃ he : Nat, fa (6 * i + 4) = nI he ∧ 1 ≤ he ∧ he ≤ 9 := by
  obtain ⟨co, ro, le, he, ga, h1, h2, h3, h4, h5, h6, h7, h8, h9, h10⟩ := h
  exact ⟨he, h4, h7, h8⟩
theorem okF.cell {fa : Nat → Int32} {i k : Nat} (h : okF fa i) (hk : k < fle fa i) : ∃ z : Nat, z < 400 ∧ cellAt (ffi fa i) (fa (6 * i + 3)) k = nI z := by
  have e1 := h.le
  obtain ⟨co, ro, le, he, ga, h1, h2, h3, h4, h5, h6, h7, h8, h9, h10⟩ := h
  have e : fle fa i = le := by unfold fle; rw [h3]; exact nI_clamp (by omega)
  rw [e] at hk
  unfold cellAt ffi
  rw [h1, h2, show (20 : Int32) = nI 20 from rfl, pk_mul, nI_add]
  rcases h10 with ⟨hd, q1, q2⟩ | ⟨hd, q1, q2⟩
  · rw [stp_0 hd, show (1 : Int32) = nI 1 from rfl, pk_mul, nI_add]
    exact ⟨_, by omega, rfl⟩
  · rw [stp_1 (by rw [hd]; decide), show (20 : Int32) = nI 20 from rfl, pk_mul, nI_add]
    exact ⟨_, by omega, rfl⟩
theorem okF.vp {fa : Nat → Int32} {i k : Nat} (h : okF fa i) (hk : k < fle fa i) : vp_in (cellAt (ffi fa i) (fa (6 * i + 3)) k) 400 := by
  obtain ⟨z, hz, e⟩ := h.cell hk
  rw [e]
  exact vp_in_nI hz (by decide)
theorem okR.vp {rd ri : Nat → Int32} {r k : Nat} (h : okR rd ri r) (hk : k < 20) : vp_in (cellAt (rfi (rd r) (ri r)) (rd r) k) 400 := by
  obtain ⟨h1, x, hx, h2⟩ := h
  unfold cellAt rfi
  rw [h2]
  rcases h1 with h1 | h1
  · rw [h1, if_neg (by decide), stp_0 rfl, show (20 : Int32) = nI 20 from rfl, show (1 : Int32) = nI 1 from rfl, show (0 : Int32) = nI 0 from rfl, pk_mul, pk_mul, nI_add, nI_add]
    exact vp_in_nI (by omega) (by decide)
  · rw [h1, if_pos rfl, stp_1 (by decide), show (20 : Int32) = nI 20 from rfl, show (0 : Int32) = nI 0 from rfl, pk_mul, pk_mul, nI_add, nI_add]
    exact vp_in_nI (by omega) (by decide)
/-- what the rows of heights and gaps are, when the fences stand, all but one -/
def hgS (fa : Nat → Int32) (wo : Int32) : Nat → (Nat → Int32) × (Nat → Int32) | 0 => (fun _ => 0, fun _ => 0) | f + 1 => if nI f = wo then hgS fa wo f else (scH (hgS fa wo f).1 (ffi fa f) (fa (6 * f + 3)) (fa (6 * f + 4)) (fle fa f), scV (hgS fa wo f).1 (hgS fa wo f).2 (ffi fa f) (fa (6 * f + 3)) (fa (6 * f + 4)) (fa (6 * f + 5)) (fle fa f))
/-- the row of the counting fences tells those rows -/
def topR (fa : Nat → Int32) (many : Nat) (tp hf gf : Nat → Int32) : Prop := ∀ z : Nat, z < 400 → (tp z = -1 ∧ hf z = 0) ∨ ∃ j : Nat, j < many ∧ tp z = nI j ∧ hf z = fa (6 * j + 4) ∧ gf z = fa (6 * j + 5)
theorem topR.mono {fa tp hf gf : Nat → Int32} {m n : Nat} (h : topR fa m tp hf gf) (hmn : m ≤ n) : topR fa n tp hf gf := fun z hz => by
  rcases h z hz with h | ⟨j, h1, h2⟩
  · exact Or.inl h
  · exact Or.inr ⟨j, by omega, h2⟩
/-- one more fence on one more cell: where it counts, and where not -/
theorem topR.put {fa tp hf gf : Nat → Int32} {many f : Nat} {c : Int32} (h : topR fa many tp hf gf) (hf1 : f < many) (hc : vp_in c 400) : topR fa many (upd tp c.toNatClampNeg (nI f)) (gp hf c (fa (6 * f + 4))) (gp gf c (fa (6 * f + 5))) := by
  obtain ⟨z0, hz0, rfl⟩ := vp_in_of hc (by decide)
  rw [gp_nI hz0, gp_nI hz0, nI_clamp (by omega)]
  intro z hz
  unfold upd
  by_cases e : z = z0
  · rw [if_pos e, if_pos e, if_pos e]
    exact Or.inr ⟨f, hf1, rfl, rfl, rfl⟩
  · rw [if_neg e, if_neg e, if_neg e]
    exact h z hz
theorem topR.at {fa tp hf gf : Nat → Int32} {many : Nat} {c : Int32} (h : topR fa many tp hf gf) (hc : vp_in c 400) : (tp c.toNatClampNeg = -1 ∧ gd hf c = 0) ∨ ∃ j : Nat, j < many ∧ tp c.toNatClampNeg = nI j ∧ gd hf c = fa (6 * j + 4) ∧ gd gf c = fa (6 * j + 5) := by
  obtain ⟨z0, hz0, rfl⟩ := vp_in_of hc (by decide)
  rw [gd_nI hz0, gd_nI hz0, nI_clamp (by omega)]
  exact h z0 hz0
theorem topR.none {fa : Nat → Int32} {many : Nat} : topR fa many (fun _ => -1) (fun _ => 0) (fun _ => 0) := fun _ _ => Or.inl ⟨rfl, rfl⟩
def allB (sn rd ri : Nat → Int32) (lim : Int32) : Nat → Int32 | 0 => 0 | r + 1 => allB sn rd ri lim r + blkG sn (rfi (rd r) (ri r)) (rd r) lim 20
theorem cellAt_whole (i : Nat) : cellAt (0 * 20 + 0) 0 i = nI i := by
  unfold cellAt
  rw [stp_0 rfl]; grind
theorem nI_m1 {j : Nat} (h : j < 2 ^ 31) : ¬ nI j = -1 := fun e => by
  have h1 := congrArg Int32.toInt e
  rw [nI_toInt h] at h1
  have h2 : (-1 : Int32).toInt = -1 := by decide
  omega
theorem mx_comm0 (x : Int32) : mx 0 x = mx x 0 := by
  unfold mx
  by_cases h : 0 < x
  · rw [if_pos h, if_neg (fun q => Int32.lt_irrefl (Int32.lt_trans h q))]
  · rw [if_neg h]
    by_cases h2 : x < 0
    · rw [if_pos h2]
    · rw [if_neg h2]
      exact (Int32.le_antisymm (Int32.not_lt.mp h) (Int32.not_lt.mp h2)).symm
/-- the top of a cell, step by step of a fence's strip: skipped, or put -/
theorem top_skip {fa tp hf0 gf0 : Nat → Int32} {many f k : Nat} (h : topR fa many tp (scH hf0 (ffi fa f) (fa (6 * f + 3)) (fa (6 * f + 4)) k) (scV hf0 gf0 (ffi fa f) (fa (6 * f + 3)) (fa (6 * f + 4)) (fa (6 * f + 5)) k)) (hs : fa (6 * f + 4) ≤ gd (scH hf0 (ffi fa f) (fa (6 * f + 3)) (fa (6 * f + 4)) k) (cellAt (ffi fa f) (fa (6 * f + 3)) k)) :
    topR fa many tp (scH hf0 (ffi fa f) (fa (6 * f + 3)) (fa (6 * f + 4)) (k + 1)) (scV hf0 gf0 (ffi fa f) (fa (6 * f + 3)) (fa (6 * f + 4)) (fa (6 * f + 5)) (k + 1)) := by
  rw [show scH hf0 (ffi fa f) (fa (6 * f + 3)) (fa (6 * f + 4)) (k + 1) = _ from if_pos hs, show scV hf0 gf0 (ffi fa f) (fa (6 * f + 3)) (fa (6 * f + 4)) (fa (6 * f + 5)) (k + 1) = _ from if_pos hs]
  exact h
theorem top_put {fa tp hf0 gf0 : Nat → Int32} {many f k : Nat} (h : topR fa many tp (scH hf0 (ffi fa f) (fa (6 * f + 3)) (fa (6 * f + 4)) k) (scV hf0 gf0 (ffi fa f) (fa (6 * f + 3)) (fa (6 * f + 4)) (fa (6 * f + 5)) k)) (hm : f < many) (hc : vp_in (cellAt (ffi fa f) (fa (6 * f + 3)) k) 400) (hs : ¬ fa (6 * f + 4) ≤ gd (scH hf0 (ffi fa f) (fa (6 * f + 3)) (fa (6 * f + 4)) k) (cellAt (ffi fa f) (fa (6 * f + 3)) k)) :
    topR fa many (upd tp (cellAt (ffi fa f) (fa (6 * f + 3)) k).toNatClampNeg (nI f)) (scH hf0 (ffi fa f) (fa (6 * f + 3)) (fa (6 * f + 4)) (k + 1)) (scV hf0 gf0 (ffi fa f) (fa (6 * f + 3)) (fa (6 * f + 4)) (fa (6 * f + 5)) (k + 1)) := by
  rw [show scH hf0 (ffi fa f) (fa (6 * f + 3)) (fa (6 * f + 4)) (k + 1) = _ from if_neg hs, show scV hf0 gf0 (ffi fa f) (fa (6 * f + 3)) (fa (6 * f + 4)) (fa (6 * f + 5)) (k + 1) = _ from if_neg hs]
  exact h.put hm hc
theorem okF.hne {fa : Nat → Int32} {i : Nat} (h : okF fa i) : ¬ fa (6 * i + 4) ≤ 0 := by
  obtain ⟨he, e, h1, h2⟩ := h.he
  rw [e]
  exact nI_nle (by omega) (by omega)
/-- what the shelter holds does not count before there is one -/
def sameW (x y : PC) : Prop := x.1 = y.1 ∧ x.2.1 = y.2.1 ∧ x.2.2.1 = y.2.2.1 ∧ x.2.2.2.1 = y.2.2.2.1 ∧ (x.2.2.1 ≤ 0 ∨ x.2.2.2.2 = y.2.2.2.2)
