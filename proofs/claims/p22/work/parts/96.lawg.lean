set_option maxHeartbeats 4000000 in
set_option maxRecDepth 100000 in
theorem law_g {p : Program} {l : Launch} (hflags : l.flags = flags0) {e : Env} {s : State} {m : MethodId} {below : List Frame} {meth : Method} {c : Code} (E : zG) (X : zC E p m c cL_law 30 s #[.ref E.2.2.2.2.1] wsL_law2 RL) (hRz : zR s) (hE1 : ¬ zA E E.2.2.1) (hL : E.2.2.2.2.2.1 ≤ 260) {QQ : State → Prop} {ws : va_W} {x fl rl wh gr gra tr tra sc ha va z sa : Nat} {gs : Nat → Option Nat} {mc1 mc2 lim sup off plo hrs : Int32} {ea eb nf nr fe qf ro qr : Nat} {fa rd ri sn t9 hf gf : Nat → Int32} {g gq : Nat → Option Nat} {t : Nat} {xv : Int32} {wd sg hh : Nat} {cells slots : Nat} {H : Heap} {locs : List Loc} {ls : Array Slot} (hX : LX E x fl rl wh gr gra tr tra sc ha va z sa gs mc1 mc2 lim sup off plo hrs ea eb nf nr fe qf ro qr fa rd ri sn t9 hf gf g gq ws) (J : zJ E ws s H locs) (hl : lv_has ls 30 [(0, .ref E.2.2.2.2.1), (1, .ref x), (2, .ref z), (3, .int (nI t)), (4, .int xv), (5, .int (nI wd)), (6, .int (nI sg)), (7, .int (nI hh)), (16, .long (dgF sn (dg2 (dgR sn rd ri lim) 5 (dg2 (aboutS fa sn) 7 (dgF (dgC nf nr lim sup off plo hrs sn rd ri) 1777 10) nf) nr) 400)), (18, .int (allB sn rd ri lim nr)), (19, .int lim)]) (hc9 : cells + 650 ≤ 1106048) (hs9 : slots + 4300 ≤ 5783625)
    (kk : ∀ (ws' : va_W) (H' : Heap) (locs' : List Loc) (ls' : Array Slot), LX E x fl rl wh gr gra tr tra sc ha va z sa gs mc1 mc2 lim sup off plo hrs ea eb nf nr fe qf ro qr fa rd ri sn t9 hf gf g gq ws' → zJ E ws' s H' locs' → lv_has ls' 30 [(0, .ref E.2.2.2.2.1), (1, .ref x), (2, .ref z), (3, .int (nI t)), (4, .int xv), (5, .int (nI wd)), (6, .int (nI sg)), (7, .int (nI hh)), (16, .long (dgF sn (dg2 (dgR sn rd ri lim) 5 (dg2 (aboutS fa sn) 7 (dgF (dgC nf nr lim sup off plo hrs sn rd ri) 1777 10) nf) nr) 400))] → W p l e room_1 s m #[.ref E.2.2.2.2.1] below meth c H' locs' (cells + 650) (slots + 4300) QQ (F0 m 821 ls' [])) :
    W p l e room_1 s m #[.ref E.2.2.2.2.1] below meth c H locs cells slots QQ (F0 m 755 ls []) := by
  obtain ⟨Fa0, Fa1, Fa2, Fa3, Fa4, Fa5, Fa6, Fa7, Fa8, Fa9, Fa10, Fa11, Fa12, Fa13, Fa14, hql, hF, hR, hSep, hSE, hSR, hSN, hnf, hnr, hok, hor, hRB, hu9, hlm, hln⟩ := hX
  obtain ⟨hqf, hqr⟩ := hql
  have hbl := hSN.len
  have bq13 := zlt Fa13
  have bq14 := zlt Fa14
  have nr13 := hSN.no Fa13 rfl
  have nr14 := hSN.no Fa14 rfl
  have hhR := hgS_RB (wo := -1) nf hok
  have hx := X.1.1
  have hb := X.1.2.1
  have hown := X.1.2.2.2.1
  have hts := X.1.2.2.2.2
  have hk : zKi E ws ws := zKi.rf
  refine lv_iload hx hb dL_law_755 (lv_at hl 9 rfl) ?_
  refine lv_aload_n hx hb dL_law_757 rfl (lv_at hl 1 rfl) ?_
  refine lv_iconst (v := nI 4) hx hb dL_law_758 rfl ?_
  refine z_xi J (z_yV (As := [.int (nI 4)]) (rest := [.int (allB sn rd ri lim nr)]) (ci := 7) (q0 := 0) X hRz J (cX6_count_ok l hflags E Fa0 Fa1 Fa2 Fa3 Fa4 Fa5 hR (by first | assumption | omega | decide)) (cwV 1 hts (goodIn_ext3 gL_law_X6_count) rfl rfl rfl (by decide +kernel) ⟨Nat.le_of_ble_eq_true rfl, Nat.le_of_ble_eq_true rfl⟩) Fa0 rfl rfl rfl hl.1 rfl (Nat.le_of_ble_eq_true rfl) dL_law_759 ⟨by show _ ≤ 1106048; omega, by show _ ≤ 5783625; omega⟩) (fun nm ce q9 H locs hp9 J h1 h2 h3 => ?_) (fun r759 ws_1 H locs hp9 J => ?_)
  · exact False.elim (by exact absurd hp9.1 (by rw [show kCount (nI 4) = 0 from kCount_ok (by decide)]; decide))
  obtain ⟨rfl, e_r759⟩ := hp9
  refine W.eq (g2 := F0 m 762 ls [.int (allB sn rd ri lim nr), .int (allB sn rd ri lim nr)]) (congrArg (fun z9 : Int32 => F0 m 762 ls [.int z9, .int (allB sn rd ri lim nr)]) (show (r759 : Int32) = allB sn rd ri lim nr from (e_r759.2.trans cnt_4))) ?_
  refine lv_icmp_ne (tgt := 775) hx hb dL_law_762 (by decide) (fun cz762 => by exact (cz762 rfl).elim) (fun cz762 => ?_)
  refine lv_aload_n hx hb dL_law_765 rfl (lv_at hl 1 rfl) ?_
  refine z_cl J (z_rVY (As := []) (rest := []) (ci := 7) (q0 := 0) X hRz J (cX6_digest_ok l hflags E Fa0 Fa1 Fa2 Fa3 Fa4 Fa5 hF hnf hok hR hnr hor) (cwV 0 hts (goodIn_ext3 gL_law_X6_digest) rfl rfl rfl (by decide +kernel) ⟨Nat.le_of_ble_eq_true rfl, Nat.le_of_ble_eq_true rfl⟩) Fa0 rfl rfl rfl hl.1 rfl (Nat.le_of_ble_eq_true rfl) dL_law_766 ⟨by show _ ≤ 1106048; omega, by show _ ≤ 5783625; omega⟩) (fun r766 ws_2 H locs hp9 J => ?_)
  obtain ⟨k2, e_r766⟩ := hp9
  have hF := hF.keepS k2 (fun q9 hq9 => absurd hq9 List.not_mem_nil)
  have hR := hR.keepS k2 (fun q9 hq9 => absurd hq9 List.not_mem_nil)
  have hSN := hSN.keep k2 (fun _ _ => List.not_mem_nil)
  have hk := hk.step k2 (fun _ _ _ _ _ _ _ => List.not_mem_nil)
  have G2_0 := k2.2 0 _ List.not_mem_nil Fa0
  have G2_1 := k2.2 1 _ List.not_mem_nil Fa1
  have G2_2 := k2.2 2 _ List.not_mem_nil Fa2
  have G2_3 := k2.2 3 _ List.not_mem_nil Fa3
  have G2_4 := k2.2 4 _ List.not_mem_nil Fa4
  have G2_5 := k2.2 5 _ List.not_mem_nil Fa5
  have G2_6 := k2.2 6 _ List.not_mem_nil Fa6
  have G2_7 := k2.2 7 _ List.not_mem_nil Fa7
  have G2_8 := k2.2 8 _ List.not_mem_nil Fa8
  have G2_9 := k2.2 9 _ List.not_mem_nil Fa9
  have G2_10 := k2.2 10 _ List.not_mem_nil Fa10
  have G2_11 := k2.2 11 _ List.not_mem_nil Fa11
  have G2_12 := k2.2 14 _ List.not_mem_nil Fa12
  have G2_13 := k2.2 qf _ List.not_mem_nil Fa13
  have G2_14 := k2.2 qr _ List.not_mem_nil Fa14
  refine W.eq (g2 := F0 m 769 ls [.long (dgF sn (dg2 (dgR sn rd ri lim) 5 (dg2 (aboutS fa sn) 7 (dgF (dgC nf nr lim sup off plo hrs sn rd ri) 1777 10) nf) nr) 400)]) (congrArg (fun z9 : Int64 => F0 m 769 ls [.long z9]) (show (r766 : Int64) = dgF sn (dg2 (dgR sn rd ri lim) 5 (dg2 (aboutS fa sn) 7 (dgF (dgC nf nr lim sup off plo hrs sn rd ri) 1777 10) nf) nr) 400 from e_r766)) ?_
  refine lv_lload hx hb dL_law_769 (lv_at hl 8 rfl) ?_
  refine W.lcmp hx hb dL_law_771 ?_
  refine W.eq (g2 := F0 m 772 ls [.int 0]) (congrArg (fun z9 : Int32 => F0 m 772 ls [.int z9]) (show (lg_cmp (dgF sn (dg2 (dgR sn rd ri lim) 5 (dg2 (aboutS fa sn) 7 (dgF (dgC nf nr lim sup off plo hrs sn rd ri) 1777 10) nf) nr) 400) (dgF sn (dg2 (dgR sn rd ri lim) 5 (dg2 (aboutS fa sn) 7 (dgF (dgC nf nr lim sup off plo hrs sn rd ri) 1777 10) nf) nr) 400) : Int32) = 0 from (lg_cmp_self _))) ?_
  refine lv_if_eq (tgt := 777) hx hb dL_law_772 (by decide) (fun cz772 => ?_) (fun cz772 => by exact absurd cz772 (by decide))
  refine lv_aload_n hx hb dL_law_777 rfl (lv_at hl 1 rfl) ?_
  refine lv_bipush (v := 60) hx hb dL_law_778 (by decide) ?_
  refine lv_iload hx hb dL_law_780 (lv_at hl 10 rfl) ?_
  refine lv_iconst (v := 1) hx hb dL_law_782 (by decide) ?_
  refine lv_iadd hx hb dL_law_783 ?_
  refine va_mmin hx hb (X.1.2.2.1.trans hl.1.symm) hown (hts (.methodLink RL 74 Lib.Math.min.name) (by decide +kernel)) (hts (.static Lib.Math.min.name) (by decide +kernel)) (hts (.initialized "java/lang/Math") (by decide +kernel)) (hts (.code Lib.Math.min.name Lib.Math.min.code 2 (some .int)) (by decide +kernel)) (Nat.le_of_ble_eq_true rfl) (Nat.le_of_ble_eq_true rfl) (by show _ ≤ 1106048; omega) (by show _ ≤ 5783625; omega) dL_law_784 ?_
  refine W.eq (g2 := F0 m 787 ls [.int (mn 60 (lim + 1)), .ref x]) rfl ?_
  refine z_xi J (z_yV (As := [.int (mn 60 (lim + 1))]) (rest := []) (ci := 7) (q0 := 0) X hRz J (cX6_setLimit_ok l hflags E G2_0) (cwV 1 hts (goodIn_ext3 gL_law_X6_setLimit) rfl rfl rfl (by decide +kernel) ⟨Nat.le_of_ble_eq_true rfl, Nat.le_of_ble_eq_true rfl⟩) G2_0 rfl rfl rfl hl.1 rfl (Nat.le_of_ble_eq_true rfl) dL_law_787 ⟨by show _ ≤ 1106048; omega, by show _ ≤ 5783625; omega⟩) (fun nm ce q9 H locs hp9 J h1 h2 h3 => ?_) (fun r787 ws_3 H locs hp9 J => ?_)
  · exact False.elim (by exact absurd hp9.1 (by rw [show kLim (mn 60 (lim + 1)) = 0 from kLim_BI (lim_up hlm).1]; decide))
  obtain ⟨k3, G3_a0, e_r787⟩ := hp9
  have hF := hF.keepS k3 (fun q9 hq9 => Or.inl (by simp only [List.mem_cons, rg_mem, List.not_mem_nil, or_false, not_or] at hq9; omega))
  have hR := hR.keepS k3 (fun q9 hq9 => Or.inl (by simp only [List.mem_cons, rg_mem, List.not_mem_nil, or_false, not_or] at hq9; omega))
  have hSN := hSN.keep k3 (fun r9 hr9 => by simp only [List.mem_cons, rg_mem, List.not_mem_nil, or_false, not_or]; omega)
  have hk := hk.step k3 (fun q9 a9 n9 f9 h8 h7 h9 => by simp only [List.mem_cons, rg_mem, List.not_mem_nil, or_false, not_or]; omega)
  have G3_1 := k3.2 1 _ (by decide) G2_1
  have G3_2 := k3.2 2 _ (by decide) G2_2
  have G3_3 := k3.2 3 _ (by decide) G2_3
  have G3_4 := k3.2 4 _ (by decide) G2_4
  have G3_5 := k3.2 5 _ (by decide) G2_5
  have G3_6 := k3.2 6 _ (by decide) G2_6
  have G3_7 := k3.2 7 _ (by decide) G2_7
  have G3_8 := k3.2 8 _ (by decide) G2_8
  have G3_9 := k3.2 9 _ (by decide) G2_9
  have G3_10 := k3.2 10 _ (by decide) G2_10
  have G3_11 := k3.2 11 _ (by decide) G2_11
  have G3_12 := k3.2 14 _ (by decide) G2_12
  have G3_13 := k3.2 qf _ (by simp only [List.mem_cons, List.not_mem_nil, or_false]; omega) G2_13
  have G3_14 := k3.2 qr _ (by simp only [List.mem_cons, List.not_mem_nil, or_false]; omega) G2_14
  refine W.eq (g2 := F0 m 790 ls [.int lim]) (congrArg (fun z9 : Int32 => F0 m 790 ls [.int z9]) (show (r787 : Int32) = lim from e_r787.2)) ?_
  refine lv_pop hx hb dL_law_790 rfl ?_
  refine lv_aload_n hx hb dL_law_791 rfl (lv_at hl 1 rfl) ?_
  refine lv_iconst (v := nI 4) hx hb dL_law_792 rfl ?_
  refine z_xi J (z_yV (As := [.int (nI 4)]) (rest := []) (ci := 7) (q0 := 0) X hRz J (cX6_count_ok l hflags E G3_a0 G3_1 G3_2 G3_3 G3_4 G3_5 hR (by first | assumption | omega | decide)) (cwV 1 hts (goodIn_ext3 gL_law_X6_count) rfl rfl rfl (by decide +kernel) ⟨Nat.le_of_ble_eq_true rfl, Nat.le_of_ble_eq_true rfl⟩) G3_a0 rfl rfl rfl hl.1 rfl (Nat.le_of_ble_eq_true rfl) dL_law_793 ⟨by show _ ≤ 1106048; omega, by show _ ≤ 5783625; omega⟩) (fun nm ce q9 H locs hp9 J h1 h2 h3 => ?_) (fun r793 ws_4 H locs hp9 J => ?_)
  · exact False.elim (by exact absurd hp9.1 (by rw [show kCount (nI 4) = 0 from kCount_ok (by decide)]; decide))
  obtain ⟨rfl, e_r793⟩ := hp9
  refine W.eq (g2 := F0 m 796 ls [.int (allB sn rd ri (mn 60 (lim + 1)) nr)]) (congrArg (fun z9 : Int32 => F0 m 796 ls [.int z9]) (show (r793 : Int32) = allB sn rd ri (mn 60 (lim + 1)) nr from (e_r793.2.trans cnt_4))) ?_
  refine lv_iload hx hb dL_law_796 (lv_at hl 9 rfl) ?_
  refine lv_icmp_gt (tgt := 819) hx hb dL_law_798 (by decide) (fun cz798 => by exact (allB_up hlm hnr cz798).elim) (fun cz798 => ?_)
  refine lv_aload_n hx hb dL_law_801 rfl (lv_at hl 1 rfl) ?_
  refine lv_iload hx hb dL_law_802 (lv_at hl 10 rfl) ?_
  refine z_xi J (z_yV (As := [.int lim]) (rest := []) (ci := 7) (q0 := 0) X hRz J (cX6_setLimit_ok l hflags E G3_a0) (cwV 1 hts (goodIn_ext3 gL_law_X6_setLimit) rfl rfl rfl (by decide +kernel) ⟨Nat.le_of_ble_eq_true rfl, Nat.le_of_ble_eq_true rfl⟩) G3_a0 rfl rfl rfl hl.1 rfl (Nat.le_of_ble_eq_true rfl) dL_law_804 ⟨by show _ ≤ 1106048; omega, by show _ ≤ 5783625; omega⟩) (fun nm ce q9 H locs hp9 J h1 h2 h3 => ?_) (fun r804 ws_5 H locs hp9 J => ?_)
  · exact False.elim (by exact absurd hp9.1 (by rw [show kLim lim = 0 from kLim_BI hlm]; decide))
  obtain ⟨k5, G5_a0, e_r804⟩ := hp9
  have hF := hF.keepS k5 (fun q9 hq9 => Or.inl (by simp only [List.mem_cons, rg_mem, List.not_mem_nil, or_false, not_or] at hq9; omega))
  have hR := hR.keepS k5 (fun q9 hq9 => Or.inl (by simp only [List.mem_cons, rg_mem, List.not_mem_nil, or_false, not_or] at hq9; omega))
  have hSN := hSN.keep k5 (fun r9 hr9 => by simp only [List.mem_cons, rg_mem, List.not_mem_nil, or_false, not_or]; omega)
  have hk := hk.step k5 (fun q9 a9 n9 f9 h8 h7 h9 => by simp only [List.mem_cons, rg_mem, List.not_mem_nil, or_false, not_or]; omega)
  have G5_1 := k5.2 1 _ (by decide) G3_1
  have G5_2 := k5.2 2 _ (by decide) G3_2
  have G5_3 := k5.2 3 _ (by decide) G3_3
  have G5_4 := k5.2 4 _ (by decide) G3_4
  have G5_5 := k5.2 5 _ (by decide) G3_5
  have G5_6 := k5.2 6 _ (by decide) G3_6
  have G5_7 := k5.2 7 _ (by decide) G3_7
  have G5_8 := k5.2 8 _ (by decide) G3_8
  have G5_9 := k5.2 9 _ (by decide) G3_9
  have G5_10 := k5.2 10 _ (by decide) G3_10
  have G5_11 := k5.2 11 _ (by decide) G3_11
  have G5_12 := k5.2 14 _ (by decide) G3_12
  have G5_13 := k5.2 qf _ (by simp only [List.mem_cons, List.not_mem_nil, or_false]; omega) G3_13
  have G5_14 := k5.2 qr _ (by simp only [List.mem_cons, List.not_mem_nil, or_false]; omega) G3_14
  refine W.eq (g2 := F0 m 807 ls [.int (mn 60 (lim + 1))]) (congrArg (fun z9 : Int32 => F0 m 807 ls [.int z9]) (show (r804 : Int32) = mn 60 (lim + 1) from e_r804.2)) ?_
  refine lv_bipush (v := 60) hx hb dL_law_807 (by decide) ?_
  refine lv_iload hx hb dL_law_809 (lv_at hl 10 rfl) ?_
  refine lv_iconst (v := 1) hx hb dL_law_811 (by decide) ?_
  refine lv_iadd hx hb dL_law_812 ?_
  refine va_mmin hx hb (X.1.2.2.1.trans hl.1.symm) hown (hts (.methodLink RL 74 Lib.Math.min.name) (by decide +kernel)) (hts (.static Lib.Math.min.name) (by decide +kernel)) (hts (.initialized "java/lang/Math") (by decide +kernel)) (hts (.code Lib.Math.min.name Lib.Math.min.code 2 (some .int)) (by decide +kernel)) (Nat.le_of_ble_eq_true rfl) (Nat.le_of_ble_eq_true rfl) (by show _ ≤ 1106048; omega) (by show _ ≤ 5783625; omega) dL_law_813 ?_
  refine W.eq (g2 := F0 m 816 ls [.int (mn 60 (lim + 1)), .int (mn 60 (lim + 1))]) rfl ?_
  refine lv_icmp_eq (tgt := 821) hx hb dL_law_816 (by decide) (fun cz816 => ?_) (fun cz816 => by exact (cz816 rfl).elim)
  refine W.widen (k := cells + 650) (n := slots + 4300) (by omega) (by omega) ?_
  exact kk _ H locs _ ⟨G5_a0, G5_1, G5_2, G5_3, G5_4, G5_5, G5_6, G5_7, G5_8, G5_9, G5_10, G5_11, G5_12, G5_13, G5_14, ⟨by omega, by omega⟩, hF, hR, hSep, (hSE.keepI hk), (hSR.keepI hk), hSN, hnf, hnr, hok, hor, hRB, hu9, hlm, (Nat.le_trans hln hk.1)⟩ J (lv_sub hl [0, 1, 2, 3, 4, 5, 6, 7, 8] rfl)
