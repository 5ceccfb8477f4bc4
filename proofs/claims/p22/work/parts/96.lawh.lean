theorem adv_sp {fa : Nat → Int32} {nf : Nat} {he stg sup wd : Int32} {sn rd ri : Nat → Int32} {lim : Int32} {nr : Nat} (hr : nr ≤ 4) : ∃ k : Nat, k < 20 ∧ (advC (advK (advD wd) fa nf he stg sup wd sn rd ri lim nr) 20).1 = nI k ∧ (∀ j, j < 20 → ¬ advK (advD wd) fa nf he stg sup wd sn rd ri lim nr j < advK (advD wd) fa nf he stg sup wd sn rd ri lim nr k) ∧ ∀ j, j < k → advK (advD wd) fa nf he stg sup wd sn rd ri lim nr k < advK (advD wd) fa nf he stg sup wd sn rd ri lim nr j := by
  have h0 : advK (advD wd) fa nf he stg sup wd sn rd ri lim nr 0 < 81 := by
    unfold advK
    obtain ⟨k, h1, h2⟩ := allB_nn (sn := (hsS stg sup (scH (hgS fa (-1) nf).1 (rfi (advD wd) (nI 0)) (advD wd) he 20) (scV (hgS fa (-1) nf).1 (hgS fa (-1) nf).2 (rfi (advD wd) (nI 0)) (advD wd) he 0 20) wd sn 4).2.1) (rd := rd) (ri := ri) (lim := lim) nr
    rw [h2]
    exact nI_lt (b := 81) (by omega) (by decide)
  generalize advK (advD wd) fa nf he stg sup wd sn rd ri lim nr = F at h0 ⊢
  obtain ⟨k, h1, h2, h3, h4⟩ := advC_sp h0 19
  exact ⟨k, h1, by rw [h2], h3, h4⟩
theorem har_sp {fa : Nat → Int32} {nf : Nat} {stg sup wd hv : Int32} {sn rd ri : Nat → Int32} {lim : Int32} {nr : Nat} (h : hv = (harS fa nf stg sup wd sn rd ri lim nr nf).1) : (hv = -1 ∧ ∀ j, j < nf → ¬ harF fa nf stg sup wd sn rd ri lim nr j < harA fa nf stg sup wd sn rd ri lim nr (-1)) ∨ ∃ k : Nat, k < nf ∧ hv = nI k ∧ harF fa nf stg sup wd sn rd ri lim nr k < harA fa nf stg sup wd sn rd ri lim nr (-1) ∧ (∀ j, j < nf → ¬ harF fa nf stg sup wd sn rd ri lim nr j < harF fa nf stg sup wd sn rd ri lim nr k) ∧ ∀ j, j < k → harF fa nf stg sup wd sn rd ri lim nr k < harF fa nf stg sup wd sn rd ri lim nr j := by
  unfold harS at h
  generalize harF fa nf stg sup wd sn rd ri lim nr = F at h ⊢
  generalize harA fa nf stg sup wd sn rd ri lim nr (-1) = a0 at h ⊢
  subst h
  rcases harG_sp (F := F) (a0 := a0) nf with ⟨h1, h2⟩ | ⟨k, h1, h2, h3, h4, h5⟩
  · exact Or.inl ⟨by rw [h1], h2⟩
  · exact Or.inr ⟨k, h1, by rw [h2], h3, h4, h5⟩
theorem har_lt {P : Prop} {Q : Nat → Prop} {hv : Int32} {nf : Nat} (h : (hv = -1 ∧ P) ∨ ∃ k : Nat, k < nf ∧ hv = nI k ∧ Q k) (hn : nf ≤ 10) : hv < nI nf := by
  rcases h with ⟨h, -⟩ | ⟨k, h1, h, -⟩
  · rw [h, Int32.lt_iff_toInt_lt, nI_toInt (by omega), show (-1 : Int32).toInt = -1 from by decide]
    omega
  · rw [h]
    exact nI_lt h1 (by omega)
theorem advD_0 {wd : Nat} (h : wd < 4) (h2 : ¬ nI (wd % 2) = 0) : advD (nI wd) = 0 := by
  rcases (show wd = 0 ∨ wd = 1 ∨ wd = 2 ∨ wd = 3 by omega) with rfl | rfl | rfl | rfl
  · exact absurd rfl h2
  · decide
  · exact absurd rfl h2
  · decide
theorem advD_1 {wd : Nat} (h : wd < 4) (h2 : nI (wd % 2) = 0) : advD (nI wd) = 1 := by
  rcases (show wd = 0 ∨ wd = 1 ∨ wd = 2 ∨ wd = 3 by omega) with rfl | rfl | rfl | rfl
  · decide
  · exact absurd h2 (by decide)
  · decide
  · exact absurd h2 (by decide)
set_option maxHeartbeats 4000000 in
set_option maxRecDepth 100000 in
theorem law_h {p : Program} {l : Launch} (hflags : l.flags = flags0) {e : Env} {s : State} {m : MethodId} {below : List Frame} {meth : Method} {c : Code} (E : zG) (X : zC E p m c cL_law 30 s #[.ref E.2.2.2.2.1] wsL_law2 RL) (hRz : zR s) (hE1 : ¬ zA E E.2.2.1) (hL : E.2.2.2.2.2.1 ≤ 260) {QQ : State → Prop} {ws : va_W} {x fl rl wh gr gra tr tra sc ha va z sa : Nat} {gs : Nat → Option Nat} {mc1 mc2 lim sup off plo hrs : Int32} {ea eb nf nr fe qf ro qr : Nat} {fa rd ri sn t9 hf gf : Nat → Int32} {g gq : Nat → Option Nat} {t : Nat} {xv : Int32} {wd sg hh : Nat} {cells slots : Nat} {H : Heap} {locs : List Loc} {ls : Array Slot} (hwd4 : wd < 4) (hsg1 : 1 ≤ sg) (hsg9 : sg ≤ 9) (hhh1 : 1 ≤ hh) (hhh6 : hh ≤ 6) (hX : LX E x fl rl wh gr gra tr tra sc ha va z sa gs mc1 mc2 lim sup off plo hrs ea eb nf nr fe qf ro qr fa rd ri sn t9 hf gf g gq ws) (J : zJ E ws s H locs) (hl : lv_has ls 30 [(0, .ref E.2.2.2.2.1), (1, .ref x), (2, .ref z), (3, .int (nI t)), (4, .int xv), (5, .int (nI wd)), (6, .int (nI sg)), (7, .int (nI hh)), (16, .long (dgF sn (dg2 (dgR sn rd ri lim) 5 (dg2 (aboutS fa sn) 7 (dgF (dgC nf nr lim sup off plo hrs sn rd ri) 1777 10) nf) nr) 400))]) (hc9 : cells + 650 ≤ 1106048) (hs9 : slots + 4250 ≤ 5783625)
    (kk : ∀ (he : Nat) (ad : Nat) (hv : Int32) (dn : Int32) (t2 : Nat → Int32) (h2 : Nat → Int32) (g2 : Nat → Int32) (ws' : va_W) (H' : Heap) (locs' : List Loc) (ls' : Array Slot), LX E x fl rl wh gr gra tr tra sc ha va z sa gs mc1 mc2 lim sup off plo hrs ea eb nf nr fe qf ro qr fa rd ri sn t2 h2 g2 g gq ws' → (1 ≤ he) → (he ≤ 9) → (ad < 20) → ((∀ j, j < 20 → ¬ (advK (advD (nI wd)) fa nf (nI he) (nI sg) sup (nI wd) sn rd ri lim nr) j < (advK (advD (nI wd)) fa nf (nI he) (nI sg) sup (nI wd) sn rd ri lim nr) ad) ∧ ∀ j, j < ad → (advK (advD (nI wd)) fa nf (nI he) (nI sg) sup (nI wd) sn rd ri lim nr) ad < (advK (advD (nI wd)) fa nf (nI he) (nI sg) sup (nI wd) sn rd ri lim nr) j) → ((hv = -1 ∧ ∀ j, j < nf → ¬ harF fa nf (nI sg) sup (nI wd) sn rd ri lim nr j < harA fa nf (nI sg) sup (nI wd) sn rd ri lim nr (-1)) ∨ ∃ k : Nat, k < nf ∧ hv = nI k ∧ harF fa nf (nI sg) sup (nI wd) sn rd ri lim nr k < harA fa nf (nI sg) sup (nI wd) sn rd ri lim nr (-1) ∧ (∀ j, j < nf → ¬ harF fa nf (nI sg) sup (nI wd) sn rd ri lim nr j < harF fa nf (nI sg) sup (nI wd) sn rd ri lim nr k) ∧ ∀ j, j < k → harF fa nf (nI sg) sup (nI wd) sn rd ri lim nr k < harF fa nf (nI sg) sup (nI wd) sn rd ri lim nr j) → ((dn = 1 ∧ advD (nI wd) = 1) ∨ (dn = 0 ∧ advD (nI wd) = 0)) → zJ E ws' s H' locs' → lv_has ls' 30 [(0, .ref E.2.2.2.2.1), (1, .ref x), (2, .ref z), (3, .int (nI t)), (4, .int xv), (5, .int (nI wd)), (6, .int (nI sg)), (7, .int (nI hh)), (20, .int (nI he)), (21, .int (nI ad)), (22, .int hv), (23, .int dn)] → W p l e room_1 s m #[.ref E.2.2.2.2.1] below meth c H' locs' (cells + 650) (slots + 4250) QQ (F0 m 904 ls' [])) :
    W p l e room_1 s m #[.ref E.2.2.2.2.1] below meth c H locs cells slots QQ (F0 m 821 ls []) := by
  obtain ⟨Fa0, Fa1, Fa2, Fa3, Fa4, Fa5, Fa6, Fa7, Fa8, Fa9, Fa10, Fa11, Fa12, Fa13, Fa14, hql, hF, hR, hSep, hSE, hSR, hSN, hnf, hnr, hok, hor, hRB, hu9, hlm, hln⟩ := hX
  obtain ⟨hqf, hqr⟩ := hql
  have hbl := hSN.len
  have bq13 := zlt Fa13
  have bq14 := zlt Fa14
  have nr13 := hSN.no Fa13 rfl
  have nr14 := hSN.no Fa14 rfl
  have hhR := hgS_RB (wo := -1) nf hok
  have hx := X.1.1
  have hb := X.1.2.1
  have hown := X.1.2.2.2.1
  have hts := X.1.2.2.2.2
  have hk : zKi E ws ws := zKi.rf
  refine lv_iconst (v := nI 1) hx hb dL_law_821 rfl ?_
  refine lv_iload hx hb dL_law_822 (lv_at hl 4 rfl) ?_
  refine lv_iconst (v := 4) hx hb dL_law_824 (by decide) ?_
  refine lv_ishr hx hb dL_law_825 ?_
  refine lv_bipush (v := nI 9) hx hb dL_law_826 (by decide) ?_
  refine z_cr (z_rS (As := [.int (xv >>> (4 &&& 31)), .int (nI 9)]) (rest := [.int (nI 1)]) X J (cL_below_ok l E (by first | assumption | omega | decide) (by first | assumption | omega | decide)) (va_cwS 2 hts (goodIn_ext3 gL_law_L_below) rfl rfl rfl (by decide +kernel) ⟨Nat.le_of_ble_eq_true rfl, Nat.le_of_ble_eq_true rfl⟩) rfl hl.1 rfl (Nat.le_of_ble_eq_true rfl) dL_law_828 ⟨by show _ ≤ 1106048; omega, by show _ ≤ 5783625; omega⟩) (fun r828 e_r828 => ?_)
  subst e_r828
  obtain ⟨he, hhe⟩ : ∃ q9 : Nat, q9 = 1 + bln (xv >>> (4 &&& 31)) 9 := ⟨_, rfl⟩
  have bhe := bln_lt (v := xv >>> (4 &&& 31)) (n := 9) (by decide)
  refine lv_iadd hx hb dL_law_831 ?_
  refine W.eq (g2 := F0 m 832 ls [.int (nI he)]) (congrArg (fun z9 : Int32 => F0 m 832 ls [.int z9]) (show ((nI 1) + (nI (bln (xv >>> (4 &&& 31)) 9)) : Int32) = nI he from (by rw [nI_add, hhe]))) ?_
  refine lv_istore (lv' := [(20, .int (nI he)), (0, .ref E.2.2.2.2.1), (1, .ref x), (2, .ref z), (3, .int (nI t)), (4, .int xv), (5, .int (nI wd)), (6, .int (nI sg)), (7, .int (nI hh)), (16, .long (dgF sn (dg2 (dgR sn rd ri lim) 5 (dg2 (aboutS fa sn) 7 (dgF (dgC nf nr lim sup off plo hrs sn rd ri) 1777 10) nf) nr) 400))]) hx hb dL_law_832 hl (by decide) rfl (fun ls hl => ?_)
  refine lv_aload_n hx hb dL_law_834 rfl (lv_at hl 2 rfl) ?_
  refine lv_iload hx hb dL_law_835 (lv_at hl 6 rfl) ?_
  refine lv_iload hx hb dL_law_837 (lv_at hl 7 rfl) ?_
  refine lv_iload hx hb dL_law_839 (lv_at hl 0 rfl) ?_
  obtain ⟨k9, hk91, hk92, hk93, hk94⟩ := adv_sp (fa := fa) (nf := nf) (he := nI he) (stg := nI sg) (sup := sup) (wd := nI wd) (sn := sn) (rd := rd) (ri := ri) (lim := lim) hnr
  refine z_xi J (z_yV (As := [.int (nI wd), .int (nI sg), .int (nI he)]) (rest := []) (ci := 7) (q0 := 0) X hRz J (cX6_advise_ok l hflags E Fa0 Fa1 Fa2 Fa4 Fa5 Fa6 Fa7 Fa8 Fa9 Fa10 hF hnf hok hR hnr) (cwV 3 hts (goodIn_ext3 gL_law_X6_advise) rfl rfl rfl (by decide +kernel) ⟨Nat.le_of_ble_eq_true rfl, Nat.le_of_ble_eq_true rfl⟩) Fa0 rfl rfl rfl hl.1 rfl (Nat.le_of_ble_eq_true rfl) dL_law_841 ⟨by show _ ≤ 1106048; omega, by show _ ≤ 5783625; omega⟩) (fun nm ce q9 H locs hp9 J h1 h2 h3 => ?_) (fun r841 ws_1 H locs hp9 J => ?_)
  · exact False.elim (by rcases hp9 with h9 | h9 <;> exact absurd (h9.1.symm.trans (kAdvise_ok hwd4 hsg1 hsg9 (by omega) (by omega))) (by decide))
  obtain ⟨k1, ⟨t2_1, h2_1, g2_1, G1_a0, G1_a1, G1_a2, e_r841⟩⟩ := hp9
  have hF := hF.keepS k1 (fun q9 hq9 => Or.inl (by simp only [List.mem_cons, rg_mem, List.not_mem_nil, or_false, not_or] at hq9; omega))
  have hR := hR.keepS k1 (fun q9 hq9 => Or.inl (by simp only [List.mem_cons, rg_mem, List.not_mem_nil, or_false, not_or] at hq9; omega))
  have hSN := hSN.keep k1 (fun r9 hr9 => by simp only [List.mem_cons, rg_mem, List.not_mem_nil, or_false, not_or]; omega)
  have hk := hk.step k1 (fun q9 a9 n9 f9 h8 h7 h9 => by simp only [List.mem_cons, rg_mem, List.not_mem_nil, or_false, not_or]; omega)
  have G1_0 := k1.2 0 _ (by decide) Fa0
  have G1_1 := k1.2 1 _ (by decide) Fa1
  have G1_2 := k1.2 2 _ (by decide) Fa2
  have G1_3 := k1.2 3 _ (by decide) Fa3
  have G1_4 := k1.2 4 _ (by decide) Fa4
  have G1_5 := k1.2 5 _ (by decide) Fa5
  have G1_6 := k1.2 6 _ (by decide) Fa6
  have G1_8 := k1.2 8 _ (by decide) Fa8
  have G1_11 := k1.2 11 _ (by decide) Fa11
  have G1_12 := k1.2 14 _ (by decide) Fa12
  have G1_13 := k1.2 qf _ (by simp only [List.mem_cons, List.not_mem_nil, or_false]; omega) Fa13
  have G1_14 := k1.2 qr _ (by simp only [List.mem_cons, List.not_mem_nil, or_false]; omega) Fa14
  refine W.eq (g2 := F0 m 844 ls [.int (nI k9)]) (congrArg (fun z9 : Int32 => F0 m 844 ls [.int z9]) (show (r841 : Int32) = nI k9 from (by rw [e_r841.2]; exact hk92))) ?_
  refine lv_istore (lv' := [(21, .int (nI k9)), (20, .int (nI he)), (0, .ref E.2.2.2.2.1), (1, .ref x), (2, .ref z), (3, .int (nI t)), (4, .int xv), (5, .int (nI wd)), (6, .int (nI sg)), (7, .int (nI hh)), (16, .long (dgF sn (dg2 (dgR sn rd ri lim) 5 (dg2 (aboutS fa sn) 7 (dgF (dgC nf nr lim sup off plo hrs sn rd ri) 1777 10) nf) nr) 400))]) hx hb dL_law_844 hl (by decide) rfl (fun ls hl => ?_)
  refine lv_aload_n hx hb dL_law_846 rfl (lv_at hl 3 rfl) ?_
  refine lv_iload hx hb dL_law_847 (lv_at hl 7 rfl) ?_
  refine lv_iload hx hb dL_law_849 (lv_at hl 8 rfl) ?_
  obtain ⟨hv, hhv⟩ : ∃ q9 : Int32, q9 = (harS fa nf (nI sg) sup (nI wd) sn rd ri lim nr nf).1 := ⟨_, rfl⟩
  have hhs : (hv = -1 ∧ ∀ j, j < nf → ¬ harF fa nf (nI sg) sup (nI wd) sn rd ri lim nr j < harA fa nf (nI sg) sup (nI wd) sn rd ri lim nr (-1)) ∨ ∃ k : Nat, k < nf ∧ hv = nI k ∧ harF fa nf (nI sg) sup (nI wd) sn rd ri lim nr k < harA fa nf (nI sg) sup (nI wd) sn rd ri lim nr (-1) ∧ (∀ j, j < nf → ¬ harF fa nf (nI sg) sup (nI wd) sn rd ri lim nr j < harF fa nf (nI sg) sup (nI wd) sn rd ri lim nr k) ∧ ∀ j, j < k → harF fa nf (nI sg) sup (nI wd) sn rd ri lim nr k < harF fa nf (nI sg) sup (nI wd) sn rd ri lim nr j := har_sp hhv
  refine z_xi J (z_yV (As := [.int (nI wd), .int (nI sg)]) (rest := []) (ci := 7) (q0 := 0) X hRz J (cX6_harmful_ok l hflags E G1_0 G1_1 G1_2 G1_4 G1_5 G1_6 G1_a0 G1_8 G1_a1 G1_a2 hF hnf hok hR hnr) (cwV 2 hts (goodIn_ext3 gL_law_X6_harmful) rfl rfl rfl (by decide +kernel) ⟨Nat.le_of_ble_eq_true rfl, Nat.le_of_ble_eq_true rfl⟩) G1_0 rfl rfl rfl hl.1 rfl (Nat.le_of_ble_eq_true rfl) dL_law_851 ⟨by show _ ≤ 1106048; omega, by show _ ≤ 5783625; omega⟩) (fun nm ce q9 H locs hp9 J h1 h2 h3 => ?_) (fun r851 ws_2 H locs hp9 J => ?_)
  · exact False.elim (by rcases hp9 with h9 | h9 <;> exact absurd (h9.1.symm.trans (kHarm_ok hwd4 hsg1 hsg9)) (by decide))
  obtain ⟨k2, ⟨t2_2, h2_2, g2_2, G2_a0, G2_a1, G2_a2, e_r851⟩⟩ := hp9
  have hF := hF.keepS k2 (fun q9 hq9 => Or.inl (by simp only [List.mem_cons, rg_mem, List.not_mem_nil, or_false, not_or] at hq9; omega))
  have hR := hR.keepS k2 (fun q9 hq9 => Or.inl (by simp only [List.mem_cons, rg_mem, List.not_mem_nil, or_false, not_or] at hq9; omega))
  have hSN := hSN.keep k2 (fun r9 hr9 => by simp only [List.mem_cons, rg_mem, List.not_mem_nil, or_false, not_or]; omega)
  have hk := hk.step k2 (fun q9 a9 n9 f9 h8 h7 h9 => by simp only [List.mem_cons, rg_mem, List.not_mem_nil, or_false, not_or]; omega)
  have G2_0 := k2.2 0 _ (by decide) G1_0
  have G2_1 := k2.2 1 _ (by decide) G1_1
  have G2_2 := k2.2 2 _ (by decide) G1_2
  have G2_3 := k2.2 3 _ (by decide) G1_3
  have G2_4 := k2.2 4 _ (by decide) G1_4
  have G2_5 := k2.2 5 _ (by decide) G1_5
  have G2_6 := k2.2 6 _ (by decide) G1_6
  have G2_8 := k2.2 8 _ (by decide) G1_8
  have G2_11 := k2.2 11 _ (by decide) G1_11
  have G2_12 := k2.2 14 _ (by decide) G1_12
  have G2_13 := k2.2 qf _ (by simp only [List.mem_cons, List.not_mem_nil, or_false]; omega) G1_13
  have G2_14 := k2.2 qr _ (by simp only [List.mem_cons, List.not_mem_nil, or_false]; omega) G1_14
  refine W.eq (g2 := F0 m 854 ls [.int hv]) (congrArg (fun z9 : Int32 => F0 m 854 ls [.int z9]) (show (r851 : Int32) = hv from (by rw [e_r851.2]; exact hhv.symm))) ?_
  refine lv_istore (lv' := [(22, .int hv), (21, .int (nI k9)), (20, .int (nI he)), (0, .ref E.2.2.2.2.1), (1, .ref x), (2, .ref z), (3, .int (nI t)), (4, .int xv), (5, .int (nI wd)), (6, .int (nI sg)), (7, .int (nI hh)), (16, .long (dgF sn (dg2 (dgR sn rd ri lim) 5 (dg2 (aboutS fa sn) 7 (dgF (dgC nf nr lim sup off plo hrs sn rd ri) 1777 10) nf) nr) 400))]) hx hb dL_law_854 hl (by decide) rfl (fun ls hl => ?_)
  refine lv_aload_n hx hb dL_law_856 rfl (lv_at hl 4 rfl) ?_
  refine z_cl J (z_rVY (As := []) (rest := []) (ci := 7) (q0 := 0) X hRz J (cX6_digest_ok l hflags E G2_0 G2_1 G2_2 G2_3 G2_4 G2_5 hF hnf hok hR hnr hor) (cwV 0 hts (goodIn_ext3 gL_law_X6_digest) rfl rfl rfl (by decide +kernel) ⟨Nat.le_of_ble_eq_true rfl, Nat.le_of_ble_eq_true rfl⟩) G2_0 rfl rfl rfl hl.1 rfl (Nat.le_of_ble_eq_true rfl) dL_law_857 ⟨by show _ ≤ 1106048; omega, by show _ ≤ 5783625; omega⟩) (fun r857 ws_3 H locs hp9 J => ?_)
  obtain ⟨k3, e_r857⟩ := hp9
  have hF := hF.keepS k3 (fun q9 hq9 => absurd hq9 List.not_mem_nil)
  have hR := hR.keepS k3 (fun q9 hq9 => absurd hq9 List.not_mem_nil)
  have hSN := hSN.keep k3 (fun _ _ => List.not_mem_nil)
  have hk := hk.step k3 (fun _ _ _ _ _ _ _ => List.not_mem_nil)
  have G3_0 := k3.2 0 _ List.not_mem_nil G2_0
  have G3_1 := k3.2 1 _ List.not_mem_nil G2_1
  have G3_2 := k3.2 2 _ List.not_mem_nil G2_2
  have G3_3 := k3.2 3 _ List.not_mem_nil G2_3
  have G3_4 := k3.2 4 _ List.not_mem_nil G2_4
  have G3_5 := k3.2 5 _ List.not_mem_nil G2_5
  have G3_6 := k3.2 6 _ List.not_mem_nil G2_6
  have G3_7 := k3.2 7 _ List.not_mem_nil G2_a0
  have G3_8 := k3.2 8 _ List.not_mem_nil G2_8
  have G3_9 := k3.2 9 _ List.not_mem_nil G2_a1
  have G3_10 := k3.2 10 _ List.not_mem_nil G2_a2
  have G3_11 := k3.2 11 _ List.not_mem_nil G2_11
  have G3_12 := k3.2 14 _ List.not_mem_nil G2_12
  have G3_13 := k3.2 qf _ List.not_mem_nil G2_13
  have G3_14 := k3.2 qr _ List.not_mem_nil G2_14
  refine W.eq (g2 := F0 m 860 ls [.long (dgF sn (dg2 (dgR sn rd ri lim) 5 (dg2 (aboutS fa sn) 7 (dgF (dgC nf nr lim sup off plo hrs sn rd ri) 1777 10) nf) nr) 400)]) (congrArg (fun z9 : Int64 => F0 m 860 ls [.long z9]) (show (r857 : Int64) = dgF sn (dg2 (dgR sn rd ri lim) 5 (dg2 (aboutS fa sn) 7 (dgF (dgC nf nr lim sup off plo hrs sn rd ri) 1777 10) nf) nr) 400 from e_r857)) ?_
  refine lv_lload hx hb dL_law_860 (lv_at hl 11 rfl) ?_
  refine W.lcmp hx hb dL_law_862 ?_
  refine W.eq (g2 := F0 m 863 ls [.int 0]) (congrArg (fun z9 : Int32 => F0 m 863 ls [.int z9]) (show (lg_cmp (dgF sn (dg2 (dgR sn rd ri lim) 5 (dg2 (aboutS fa sn) 7 (dgF (dgC nf nr lim sup off plo hrs sn rd ri) 1777 10) nf) nr) 400) (dgF sn (dg2 (dgR sn rd ri lim) 5 (dg2 (aboutS fa sn) 7 (dgF (dgC nf nr lim sup off plo hrs sn rd ri) 1777 10) nf) nr) 400) : Int32) = 0 from (lg_cmp_self _))) ?_
  refine lv_if_ne (tgt := 888) hx hb dL_law_863 (by decide) (fun cz863 => by exact absurd cz863 (by decide)) (fun cz863 => ?_)
  refine lv_iload hx hb dL_law_866 (lv_at hl 1 rfl) ?_
  refine lv_if_lt (tgt := 888) hx hb dL_law_868 (by decide) (fun cz868 => by exact (nI_pos (by omega) cz868).elim) (fun cz868 => ?_)
  refine lv_iload hx hb dL_law_871 (lv_at hl 1 rfl) ?_
  refine lv_bipush (v := nI 19) hx hb dL_law_873 (by decide) ?_
  refine lv_icmp_gt (tgt := 888) hx hb dL_law_875 (by decide) (fun cz875 => by exact (nI_ngt (by omega) (by decide) cz875).elim) (fun cz875 => ?_)
  refine lv_iload hx hb dL_law_878 (lv_at hl 0 rfl) ?_
  refine lv_aload_n hx hb dL_law_880 rfl (lv_at hl 4 rfl) ?_
  refine lv_iconst (v := nI 0) hx hb dL_law_881 rfl ?_
  refine z_xi J (z_yV (As := [.int (nI 0)]) (rest := [.int hv]) (ci := 7) (q0 := 0) X hRz J (cX6_count_ok l hflags E G3_0 G3_1 G3_2 G3_3 G3_4 G3_5 hR (by first | assumption | omega | decide)) (cwV 1 hts (goodIn_ext3 gL_law_X6_count) rfl rfl rfl (by decide +kernel) ⟨Nat.le_of_ble_eq_true rfl, Nat.le_of_ble_eq_true rfl⟩) G3_0 rfl rfl rfl hl.1 rfl (Nat.le_of_ble_eq_true rfl) dL_law_882 ⟨by show _ ≤ 1106048; omega, by show _ ≤ 5783625; omega⟩) (fun nm ce q9 H locs hp9 J h1 h2 h3 => ?_) (fun r882 ws_4 H locs hp9 J => ?_)
  · exact False.elim (by exact absurd hp9.1 (by rw [show kCount (nI 0) = 0 from kCount_ok (by decide)]; decide))
  obtain ⟨rfl, e_r882⟩ := hp9
  refine W.eq (g2 := F0 m 885 ls [.int (nI nf), .int hv]) (congrArg (fun z9 : Int32 => F0 m 885 ls [.int z9, .int hv]) (show (r882 : Int32) = nI nf from (e_r882.2.trans cnt_0))) ?_
  refine lv_icmp_lt (tgt := 890) hx hb dL_law_885 (by decide) (fun cz885 => ?_) (fun cz885 => by exact (cz885 (har_lt hhs hnf)).elim)
  refine lv_iload hx hb dL_law_890 (lv_at hl 8 rfl) ?_
  refine lv_iconst (v := nI 2) hx hb dL_law_892 rfl ?_
  refine lv_irem hx hb dL_law_893 (by decide) ?_
  refine W.eq (g2 := F0 m 894 ls [.int (nI (wd % 2))]) (congrArg (fun z9 : Int32 => F0 m 894 ls [.int z9]) (show ((nI wd) - (nI wd) / (nI 2) * (nI 2) : Int32) = nI (wd % 2) from (pk_rem (by omega) (by decide) (by decide)))) ?_
  refine lv_if_ne (tgt := 901) hx hb dL_law_894 (by decide) (fun cz894 => ?_) (fun cz894 => ?_)
  · refine lv_iconst (v := 0) hx hb dL_law_901 (by decide) ?_
    refine lv_istore (lv' := [(23, .int 0), (22, .int hv), (21, .int (nI k9)), (20, .int (nI he)), (0, .ref E.2.2.2.2.1), (1, .ref x), (2, .ref z), (3, .int (nI t)), (4, .int xv), (5, .int (nI wd)), (6, .int (nI sg)), (7, .int (nI hh)), (16, .long (dgF sn (dg2 (dgR sn rd ri lim) 5 (dg2 (aboutS fa sn) 7 (dgF (dgC nf nr lim sup off plo hrs sn rd ri) 1777 10) nf) nr) 400))]) hx hb dL_law_902 hl (by decide) rfl (fun ls hl => ?_)
    refine W.widen (k := cells + 650) (n := slots + 4250) (by omega) (by omega) ?_
    exact kk he k9 hv 0 t2_2 h2_2 g2_2 _ H locs _ ⟨G3_0, G3_1, G3_2, G3_3, G3_4, G3_5, G3_6, G3_7, G3_8, G3_9, G3_10, G3_11, G3_12, G3_13, G3_14, ⟨by omega, by omega⟩, hF, hR, hSep, (hSE.keepI hk), (hSR.keepI hk), hSN, hnf, hnr, hok, hor, hRB, hu9, hlm, (Nat.le_trans hln hk.1)⟩ (by omega) (by omega) hk91 (⟨hk93, hk94⟩) hhs (Or.inr ⟨rfl, advD_0 hwd4 cz894⟩) J (lv_sub hl [4, 5, 6, 7, 8, 9, 10, 11, 3, 2, 1, 0] rfl)
  · refine lv_iconst (v := 1) hx hb dL_law_897 (by decide) ?_
    refine lv_goto (tgt := 902) hx hb dL_law_898 (by decide) ?_
    refine lv_istore (lv' := [(23, .int 1), (22, .int hv), (21, .int (nI k9)), (20, .int (nI he)), (0, .ref E.2.2.2.2.1), (1, .ref x), (2, .ref z), (3, .int (nI t)), (4, .int xv), (5, .int (nI wd)), (6, .int (nI sg)), (7, .int (nI hh)), (16, .long (dgF sn (dg2 (dgR sn rd ri lim) 5 (dg2 (aboutS fa sn) 7 (dgF (dgC nf nr lim sup off plo hrs sn rd ri) 1777 10) nf) nr) 400))]) hx hb dL_law_902 hl (by decide) rfl (fun ls hl => ?_)
    refine W.widen (k := cells + 650) (n := slots + 4250) (by omega) (by omega) ?_
    exact kk he k9 hv 1 t2_2 h2_2 g2_2 _ H locs _ ⟨G3_0, G3_1, G3_2, G3_3, G3_4, G3_5, G3_6, G3_7, G3_8, G3_9, G3_10, G3_11, G3_12, G3_13, G3_14, ⟨by omega, by omega⟩, hF, hR, hSep, (hSE.keepI hk), (hSR.keepI hk), hSN, hnf, hnr, hok, hor, hRB, hu9, hlm, (Nat.le_trans hln hk.1)⟩ (by omega) (by omega) hk91 (⟨hk93, hk94⟩) hhs (Or.inl ⟨rfl, advD_1 hwd4 cz894⟩) J (lv_sub hl [4, 5, 6, 7, 8, 9, 10, 11, 3, 2, 1, 0] rfl)
