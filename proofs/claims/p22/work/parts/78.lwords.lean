/-! ===== the law's own small words ===== -/
/-- a number below n, chosen by v -/
def bln (v : Int32) (n : Nat) : Nat := v.toBitVec.toNat % 2 ^ 31 % n
theorem bln_lt {v : Int32} {n : Nat} (h : 0 < n) : bln v n < n := Nat.mod_lt _ h
/-- a cell of the script, or a number where it has none -/
def celS (L : Nat) (xs : Nat → Int32) (k : Nat) : Int32 := if k < L then xs k else 790386105 * (nI k + 3)
/-! ===== the words of an int[][]'s clone, which the printed list of act's words leaves out ===== -/
abbrev zclA : List Cond := zcl RL 37 "[[I"
def wsL_act2 : List Cond := .code yL_act cL_act 12 (some .boolean) :: (wsL_act ++ zclA)
def wsL_build2 : List Cond := .code yL_build cL_build 5 (some (.object "SnowFencesLaw$Sim")) :: (wsL_build ++ zclA)
theorem goodIn_ext2 {big ws d : List Cond} {c : Cond} (h : GoodIn big ws) : GoodIn (c :: (big ++ d)) ws := fun w hw => ⟨List.mem_cons_of_mem _ (List.mem_append_left _ (h w hw).1), (h w hw).2⟩
theorem goodIn_rt {big d : List Cond} {c : Cond} (h : d.all goodWord = true) : GoodIn (c :: (big ++ d)) d := fun w hw => ⟨List.mem_cons_of_mem _ (List.mem_append_right _ hw), good_of_word (List.all_eq_true.mp h w hw)⟩
theorem ggL_build2_act2 : GoodIn wsL_build2 wsL_act2 := goodIn_ca (c := .code yL_act cL_act 12 (some .boolean)) (fun w hw => (List.mem_cons.mp hw).elim (fun e => goodIn_ext2 ggL_build_L_act w (by rw [e]; exact List.mem_cons_self)) (fun h => goodIn_ext2 ggL_build_L_act w h)) (goodIn_rt (by decide +kernel))
