/-! ===== the law: its world with its parts named ===== -/
def LX (E : zG) (x fl rl wh gr gra tr tra sc ha va z sa : Nat) (gs : Nat → Option Nat) (mc1 mc2 lim sup off plo hrs : Int32) (ea eb nf nr fe qf ro qr : Nat) (fa rd ri sn t9 hf gf : Nat → Int32) (g gq : Nat → Option Nat) (ws : va_W) : Prop :=
  (ws[0]? = some (x, .inr (7, [.ref fl, .ref rl, .ref wh, .ref gr, .ref tr, .ref sc, .int lim, .int sup, .int off, .int plo, .int hrs]))) ∧ (ws[1]? = some (fl, .inr (0, [.int mc1, .ref ea, .int (nI nf)]))) ∧ (ws[2]? = some (rl, .inr (0, [.int mc2, .ref eb, .int (nI nr)]))) ∧ (ws[3]? = some (wh, .inr (5, [.int (0 * 20 + 0), .int (nI 400), .int 0]))) ∧ (ws[4]? = some (gr, .inr (2, [.ref gra]))) ∧ (ws[5]? = some (gra, zI4 E 400 sn)) ∧ (ws[6]? = some (tr, .inr (2, [.ref tra]))) ∧ (ws[7]? = some (tra, zI4 E 400 t9)) ∧ (ws[8]? = some (sc, .inr (4, [.ref ha, .ref va]))) ∧ (ws[9]? = some (ha, zI4 E 400 hf)) ∧ (ws[10]? = some (va, zI4 E 400 gf)) ∧ (ws[11]? = some (z, .inr (8, [.ref fe, .ref ro, .ref sa, .int lim, .int sup, .int off, .int plo, .int hrs]))) ∧ (ws[14]? = some (sa, zA4 E 20 gs)) ∧ (ws[qf]? = some (fe, zA4 E nf g)) ∧ (ws[qr]? = some (ro, zA4 E nr gq)) ∧ (11 < qf ∧ 11 < qr) ∧ (FS E ws fa ea nf) ∧ (RS E ws rd ri eb nr) ∧ (SEP E ea eb) ∧ (SE E ws g nf fa) ∧ (SR E ws gq nr rd ri) ∧ (SN E ws 15 gs sn) ∧ (nf ≤ 10) ∧ (nr ≤ 4) ∧ (∀ j, j < nf → okF fa j) ∧ (∀ q, q < nr → okR rd ri q) ∧ (RB 200 sn) ∧ (BI 0 40 sup) ∧ (BI 1 60 lim) ∧ (35 ≤ ws.length)
/-- the law's words, and those of an int[][]'s clone -/
def wsL_law2 : List Cond := wsL_law ++ zclA
theorem goodIn_ext3 {big ws d : List Cond} (h : GoodIn big ws) : GoodIn (big ++ d) ws := fun w hw => ⟨List.mem_append_left _ (h w hw).1, (h w hw).2⟩
theorem goodIn_rt3 {big d : List Cond} (h : d.all goodWord = true) : GoodIn (big ++ d) d := fun w hw => ⟨List.mem_append_right _ hw, good_of_word (List.all_eq_true.mp h w hw)⟩
theorem ggL_law2_act2 : GoodIn wsL_law2 wsL_act2 := goodIn_ca (c := .code yL_act cL_act 12 (some .boolean)) (fun w hw => (List.mem_cons.mp hw).elim (fun e => goodIn_ext3 ggL_law_L_act w (by rw [e]; exact List.mem_cons_self)) (fun h => goodIn_ext3 ggL_law_L_act w h)) (goodIn_rt3 (by decide +kernel))
theorem ggL_law2_build2 : GoodIn wsL_law2 wsL_build2 := goodIn_ca (c := .code yL_build cL_build 5 (some (.object "SnowFencesLaw$Sim"))) (fun w hw => (List.mem_cons.mp hw).elim (fun e => goodIn_ext3 ggL_law_L_build w (by rw [e]; exact List.mem_cons_self)) (fun h => goodIn_ext3 ggL_law_L_build w h)) (goodIn_rt3 (by decide +kernel))
theorem gL_law2_act2 : GoodIn wsL_law2 (va_wsS RL 101 yL_act wsL_act2) := goodIn_app (goodIn_ext3 (goodIn_of _ (by decide +kernel))) ggL_law2_act2
theorem gL_law2_build2 : GoodIn wsL_law2 (va_wsS RL 106 yL_build wsL_build2) := goodIn_app (goodIn_ext3 (goodIn_of _ (by decide +kernel))) ggL_law2_build2
theorem cnt_0 {nf nr lim sup off plo hrs : Int32} {sn rd ri : Nat → Int32} {n : Nat} : countS nf nr lim sup off plo hrs sn rd ri n (nI 0) = nf := c10_0 (A := sumA sn) (B := mostA sn) (C := allB sn rd ri lim n)
theorem cnt_1 {nf nr lim sup off plo hrs : Int32} {sn rd ri : Nat → Int32} {n : Nat} : countS nf nr lim sup off plo hrs sn rd ri n (nI 1) = nr := c10_1 (A := sumA sn) (B := mostA sn) (C := allB sn rd ri lim n)
theorem cnt_2 {nf nr lim sup off plo hrs : Int32} {sn rd ri : Nat → Int32} {n : Nat} : countS nf nr lim sup off plo hrs sn rd ri n (nI 2) = sumA sn := c10_2 (A := sumA sn) (B := mostA sn) (C := allB sn rd ri lim n)
theorem cnt_3 {nf nr lim sup off plo hrs : Int32} {sn rd ri : Nat → Int32} {n : Nat} : countS nf nr lim sup off plo hrs sn rd ri n (nI 3) = mostA sn := c10_3 (A := sumA sn) (B := mostA sn) (C := allB sn rd ri lim n)
theorem cnt_4 {nf nr lim sup off plo hrs : Int32} {sn rd ri : Nat → Int32} {n : Nat} : countS nf nr lim sup off plo hrs sn rd ri n (nI 4) = allB sn rd ri lim n := c10_4 (A := sumA sn) (B := mostA sn) (C := allB sn rd ri lim n)
theorem cnt_5 {nf nr lim sup off plo hrs : Int32} {sn rd ri : Nat → Int32} {n : Nat} : countS nf nr lim sup off plo hrs sn rd ri n (nI 5) = off := c10_5 (A := sumA sn) (B := mostA sn) (C := allB sn rd ri lim n)
theorem cnt_8 {nf nr lim sup off plo hrs : Int32} {sn rd ri : Nat → Int32} {n : Nat} : countS nf nr lim sup off plo hrs sn rd ri n (nI 8) = lim := c10_8 (A := sumA sn) (B := mostA sn) (C := allB sn rd ri lim n)
theorem cnt_9 {nf nr lim sup off plo hrs : Int32} {sn rd ri : Nat → Int32} {n : Nat} : countS nf nr lim sup off plo hrs sn rd ri n (nI 9) = sup := c10_9 (A := sumA sn) (B := mostA sn) (C := allB sn rd ri lim n)
/-- the first n cells, by columns -/
def bfC (sn : Nat → Int32) (n : Nat) : Nat → Int32 := fun j => if j < n then sn (colC j) else 0
theorem bfC_0 {sn : Nat → Int32} {j : Nat} : (0 : Int32) = bfC sn (20 * 0) j := (if_neg (by omega)).symm
theorem bfC_s {sn : Nat → Int32} {n : Nat} : upd (bfC sn n) n (sn (colC n)) = bfC sn (n + 1) := by
  funext j
  unfold upd bfC
  by_cases e : j = n
  · subst e
    rw [if_pos rfl, if_pos (Nat.lt_succ_self _)]
  · rw [if_neg e]
    by_cases q : j < n
    · rw [if_pos q, if_pos (by omega)]
    · rw [if_neg q, if_neg (by omega)]
theorem bfC_e {sn : Nat → Int32} {j : Nat} (h : j < 400) : bfC sn (20 * 20) j = sn (colC j) := if_pos h
