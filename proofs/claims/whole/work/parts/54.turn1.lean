set_option maxHeartbeats 2000000 in
set_option maxRecDepth 100000 in
theorem turn_setLimit {p : Program} {l : Launch} (hflags : l.flags = flags0) {e : Env} {s : State} {m : MethodId} {below : List Frame} {meth : Method} {c : Code} {b L : Nat} {xs : Nat → Int32} (E : zG) (X : zC E p m c cL_law 9 s #[.ref b] wsL_law RL) (hRz : zR s) (hNz : zNc s) (hXs : va_X b L xs s s.heap) (hbl : b < s.heap.size) (hbA : ¬ zA E b) (hE1 : ¬ zA E E.2.2.1) (hL9 : L ≤ 3584) {QQ : State → Prop} {ws : va_W} {x mo ou i cells slots : Nat} {H : Heap} {locs : List Loc} {ls : Array Slot} (hi : i + 7 ≤ L) (hW : LW E ws x mo ou) (J : zJ E ws s H locs) (hl : lv_has ls 9 [(4, .int (nI i)), (3, .ref ou), (2, .ref mo), (1, .ref x), (0, .ref b)]) (hc9 : cells + 700 ≤ 601024) (hs9 : slots + 4500 ≤ 7293034)
    (kk : ∀ (ws' : va_W) (H' : Heap) (locs' : List Loc) (ls' : Array Slot), LW E ws' x mo ou → zJ E ws' s H' locs' → lv_has ls' 9 [(4, .int (nI i)), (3, .ref ou), (2, .ref mo), (1, .ref x), (0, .ref b)] → W p l e room_1 s m #[.ref b] below meth c H' locs' (cells + 700) (slots + 4500) QQ (F0 m 1425 ls' [])) :
    W p l e room_1 s m #[.ref b] below meth c H locs cells slots QQ (F0 m 486 ls []) := by
  obtain ⟨fl, rl, wh, gr, gra, tr, tra, sc, ha, va, mf, md, mi, ms9, mk, mt, ea, eb, nf, nr, mc1, mc2, lim, sup, off, plo, hrs, th, fa, rd, ri, sn, t9, hf, gf, kp, tp, o9, Fa0, Fa1, Fa2, Fa3, Fa4, Fa5, Fa6, Fa7, Fa8, Fa9, Fa10, Fa11, Fa12, Fa13, Fa14, Fa15, Fa16, Fa17, Fa18, hF, hR, hSep, hnf, hnr, hok, hor, hRB, hBI⟩ := hW
  have hx := X.1.1
  have hb := X.1.2.1
  have hown := X.1.2.2.2.1
  have hts := X.1.2.2.2.2
  have hk : zK [0, 1, 2, 3, 4, 5, 6, 7, 8, 9, 10, 11, 12, 13, 14, 15, 16, 17, 18] ws ws := zK.rf
  have hlen19 := zlt Fa18
  refine lv_aload_n hx hb dL_law_486 rfl (lv_at hl 3 rfl) ?_
  refine lv_aload_n hx hb dL_law_487 rfl (lv_at hl 4 rfl) ?_
  refine lv_iload hx hb dL_law_488 (lv_at hl 0 rfl) ?_
  refine lv_iconst (v := 1) hx hb dL_law_490 (by decide) ?_
  refine lv_iadd hx hb dL_law_491 ?_
  refine W.eq (g2 := F0 m 492 ls [.int (nI (i + 1)), .ref b, .ref x]) (congrArg (fun z9 : Int32 => F0 m 492 ls [.int z9, .ref b, .ref x]) (show ((nI i) + 1 : Int32) = nI (i + 1) from (nI_add i 1))) ?_
  refine va_sld hx hb hXs hbl hbA J.2.2 (vp_in_nI (by omega) (by omega)) dL_law_492 ?_
  refine W.eq (g2 := F0 m 493 ls [.int (xs (i + 1)), .ref x]) (congrArg (fun z9 : Int32 => F0 m 493 ls [.int z9, .ref x]) (show (xs (nI (i + 1)).toNatClampNeg : Int32) = xs (i + 1) from (congrArg xs (nI_clamp (by omega))))) ?_
  refine lv_aload_n hx hb dL_law_493 rfl (lv_at hl 1 rfl) ?_
  refine z_xi J (z_wS (As := [.ref x, .int (xs (i + 1)), .ref ou]) (rest := []) X hRz hNz J (cL_setLimit_ok l hflags E Fa0 Fa18) (vx_cwSW (hh := [(0, 9, 12, 13)]) 3 hts gL_law_L_setLimit rfl rfl rfl (by decide +kernel) ⟨Nat.le_of_ble_eq_true rfl, Nat.le_of_ble_eq_true rfl⟩) rfl hl.1 rfl (Nat.le_of_ble_eq_true rfl) dL_law_494 ⟨by show _ ≤ 601024; omega, by show _ ≤ 7293034; omega⟩) (fun nm ce q9 H locs hp9 J h1 h2 h3 => ?_) (fun r494 ws_1 H locs hp9 J => ?_)
  · exact False.elim (by exact hp9)
  rcases hp9 with ⟨e_v, e_k, rfl⟩ | ⟨e_v, e_k, k1, G1_a0, G1_a1⟩
  · subst e_v
    refine lv_istore (lv' := [(5, .int (kLim (xs (i + 1)))), (4, .int (nI i)), (3, .ref ou), (2, .ref mo), (1, .ref x), (0, .ref b)]) hx hb dL_law_497 hl (by decide) rfl (fun ls hl => ?_)
    refine lv_aload_n hx hb dL_law_499 rfl (lv_at hl 3 rfl) ?_
    refine lv_aload_n hx hb dL_law_500 rfl (lv_at hl 5 rfl) ?_
    refine lv_iload hx hb dL_law_501 (lv_at hl 1 rfl) ?_
    refine lv_iconst (v := 1) hx hb dL_law_503 (by decide) ?_
    refine lv_iadd hx hb dL_law_504 ?_
    refine W.eq (g2 := F0 m 505 ls [.int (nI (i + 1)), .ref b, .ref mo]) (congrArg (fun z9 : Int32 => F0 m 505 ls [.int z9, .ref b, .ref mo]) (show ((nI i) + 1 : Int32) = nI (i + 1) from (nI_add i 1))) ?_
    refine va_sld hx hb hXs hbl hbA J.2.2 (vp_in_nI (by omega) (by omega)) dL_law_505 ?_
    refine W.eq (g2 := F0 m 506 ls [.int (xs (i + 1)), .ref mo]) (congrArg (fun z9 : Int32 => F0 m 506 ls [.int z9, .ref mo]) (show (xs (nI (i + 1)).toNatClampNeg : Int32) = xs (i + 1) from (congrArg xs (nI_clamp (by omega))))) ?_
    refine z_ci J (z_rV (As := [.int (xs (i + 1))]) (rest := []) (ci := 8) (q0 := 11) X J (cX7_setLimit_ok l E Fa11) (cwV 1 hts gL_law_X7_setLimit rfl rfl rfl (by decide +kernel) ⟨Nat.le_of_ble_eq_true rfl, Nat.le_of_ble_eq_true rfl⟩) Fa11 rfl rfl rfl hl.1 rfl (Nat.le_of_ble_eq_true rfl) dL_law_506 ⟨by show _ ≤ 601024; omega, by show _ ≤ 7293034; omega⟩) (fun r506 ws_2 H locs hp9 J => ?_)
    obtain ⟨k2, G2_a0, e_r506⟩ := hp9
    have hk := hk.trans (k2.mono (by decide))
    have G2_0 := k2.2 0 _ (by decide) Fa0
    have G2_1 := k2.2 1 _ (by decide) Fa1
    have G2_2 := k2.2 2 _ (by decide) Fa2
    have G2_3 := k2.2 3 _ (by decide) Fa3
    have G2_4 := k2.2 4 _ (by decide) Fa4
    have G2_5 := k2.2 5 _ (by decide) Fa5
    have G2_6 := k2.2 6 _ (by decide) Fa6
    have G2_7 := k2.2 7 _ (by decide) Fa7
    have G2_8 := k2.2 8 _ (by decide) Fa8
    have G2_9 := k2.2 9 _ (by decide) Fa9
    have G2_10 := k2.2 10 _ (by decide) Fa10
    have G2_12 := k2.2 12 _ (by decide) Fa12
    have G2_13 := k2.2 13 _ (by decide) Fa13
    have G2_14 := k2.2 14 _ (by decide) Fa14
    have G2_15 := k2.2 15 _ (by decide) Fa15
    have G2_16 := k2.2 16 _ (by decide) Fa16
    have G2_17 := k2.2 17 _ (by decide) Fa17
    have G2_18 := k2.2 18 _ (by decide) Fa18
    refine lv_istore (lv' := [(6, .int r506), (5, .int (kLim (xs (i + 1)))), (4, .int (nI i)), (3, .ref ou), (2, .ref mo), (1, .ref x), (0, .ref b)]) hx hb dL_law_509 hl (by decide) rfl (fun ls hl => ?_)
    refine lv_aload_n hx hb dL_law_511 rfl (lv_at hl 4 rfl) ?_
    refine z_cr (z_rV (As := []) (rest := []) (ci := 8) (q0 := 11) X J (cX7_thrown_ok l E G2_a0) (cwV 0 hts gL_law_X7_thrown rfl rfl rfl (by decide +kernel) ⟨Nat.le_of_ble_eq_true rfl, Nat.le_of_ble_eq_true rfl⟩) G2_a0 rfl rfl rfl hl.1 rfl (Nat.le_of_ble_eq_true rfl) dL_law_512 ⟨by show _ ≤ 601024; omega, by show _ ≤ 7293034; omega⟩) (fun r512 e_r512 => ?_)
    subst e_r512
    refine lv_iload hx hb dL_law_515 (lv_at hl 1 rfl) ?_
    refine lv_icmp_eq (tgt := 522) hx hb dL_law_517 (by decide) (fun cz517 => ?_) (fun cz517 => by exact (cz517 rfl).elim)
    refine lv_iload hx hb dL_law_522 (lv_at hl 1 rfl) ?_
    refine lv_if_ne (tgt := 539) hx hb dL_law_524 (by decide) (fun cz524 => ?_) (fun cz524 => by exact (e_k cz524).elim)
    refine lv_goto (tgt := 1425) hx hb dL_law_539 (by decide) ?_
    refine W.widen (k := cells + 700) (n := slots + 4500) (by omega) (by omega) ?_
    exact kk _ H locs _ ⟨fl, rl, wh, gr, gra, tr, tra, sc, ha, va, mf, md, mi, ms9, mk, mt, ea, eb, nf, nr, mc1, mc2, lim, sup, off, plo, hrs, (kLim (xs (i + 1))), fa, rd, ri, sn, t9, hf, gf, kp, tp, o9, G2_0, G2_1, G2_2, G2_3, G2_4, G2_5, G2_6, G2_7, G2_8, G2_9, G2_10, (by simpa only [selN e_k] using G2_a0), G2_12, G2_13, G2_14, G2_15, G2_16, G2_17, G2_18, (hF.keep hk (by decide)), (hR.keep hk (by decide)), hSep, hnf, hnr, hok, hor, hRB, hBI⟩ J (lv_sub hl [2, 3, 4, 5, 6] rfl)
  · subst e_v
    have hk := hk.trans (k1.mono (by decide))
    have G1_1 := k1.2 1 _ (by decide) Fa1
    have G1_2 := k1.2 2 _ (by decide) Fa2
    have G1_3 := k1.2 3 _ (by decide) Fa3
    have G1_4 := k1.2 4 _ (by decide) Fa4
    have G1_5 := k1.2 5 _ (by decide) Fa5
    have G1_6 := k1.2 6 _ (by decide) Fa6
    have G1_7 := k1.2 7 _ (by decide) Fa7
    have G1_8 := k1.2 8 _ (by decide) Fa8
    have G1_9 := k1.2 9 _ (by decide) Fa9
    have G1_10 := k1.2 10 _ (by decide) Fa10
    have G1_11 := k1.2 11 _ (by decide) Fa11
    have G1_12 := k1.2 12 _ (by decide) Fa12
    have G1_13 := k1.2 13 _ (by decide) Fa13
    have G1_14 := k1.2 14 _ (by decide) Fa14
    have G1_15 := k1.2 15 _ (by decide) Fa15
    have G1_16 := k1.2 16 _ (by decide) Fa16
    have G1_17 := k1.2 17 _ (by decide) Fa17
    refine lv_istore (lv' := [(5, .int 0), (4, .int (nI i)), (3, .ref ou), (2, .ref mo), (1, .ref x), (0, .ref b)]) hx hb dL_law_497 hl (by decide) rfl (fun ls hl => ?_)
    refine lv_aload_n hx hb dL_law_499 rfl (lv_at hl 3 rfl) ?_
    refine lv_aload_n hx hb dL_law_500 rfl (lv_at hl 5 rfl) ?_
    refine lv_iload hx hb dL_law_501 (lv_at hl 1 rfl) ?_
    refine lv_iconst (v := 1) hx hb dL_law_503 (by decide) ?_
    refine lv_iadd hx hb dL_law_504 ?_
    refine W.eq (g2 := F0 m 505 ls [.int (nI (i + 1)), .ref b, .ref mo]) (congrArg (fun z9 : Int32 => F0 m 505 ls [.int z9, .ref b, .ref mo]) (show ((nI i) + 1 : Int32) = nI (i + 1) from (nI_add i 1))) ?_
    refine va_sld hx hb hXs hbl hbA J.2.2 (vp_in_nI (by omega) (by omega)) dL_law_505 ?_
    refine W.eq (g2 := F0 m 506 ls [.int (xs (i + 1)), .ref mo]) (congrArg (fun z9 : Int32 => F0 m 506 ls [.int z9, .ref mo]) (show (xs (nI (i + 1)).toNatClampNeg : Int32) = xs (i + 1) from (congrArg xs (nI_clamp (by omega))))) ?_
    refine z_ci J (z_rV (As := [.int (xs (i + 1))]) (rest := []) (ci := 8) (q0 := 11) X J (cX7_setLimit_ok l E G1_11) (cwV 1 hts gL_law_X7_setLimit rfl rfl rfl (by decide +kernel) ⟨Nat.le_of_ble_eq_true rfl, Nat.le_of_ble_eq_true rfl⟩) G1_11 rfl rfl rfl hl.1 rfl (Nat.le_of_ble_eq_true rfl) dL_law_506 ⟨by show _ ≤ 601024; omega, by show _ ≤ 7293034; omega⟩) (fun r506 ws_2 H locs hp9 J => ?_)
    obtain ⟨k2, G2_a0, e_r506⟩ := hp9
    have hk := hk.trans (k2.mono (by decide))
    have G2_0 := k2.2 0 _ (by decide) G1_a0
    have G2_1 := k2.2 1 _ (by decide) G1_1
    have G2_2 := k2.2 2 _ (by decide) G1_2
    have G2_3 := k2.2 3 _ (by decide) G1_3
    have G2_4 := k2.2 4 _ (by decide) G1_4
    have G2_5 := k2.2 5 _ (by decide) G1_5
    have G2_6 := k2.2 6 _ (by decide) G1_6
    have G2_7 := k2.2 7 _ (by decide) G1_7
    have G2_8 := k2.2 8 _ (by decide) G1_8
    have G2_9 := k2.2 9 _ (by decide) G1_9
    have G2_10 := k2.2 10 _ (by decide) G1_10
    have G2_12 := k2.2 12 _ (by decide) G1_12
    have G2_13 := k2.2 13 _ (by decide) G1_13
    have G2_14 := k2.2 14 _ (by decide) G1_14
    have G2_15 := k2.2 15 _ (by decide) G1_15
    have G2_16 := k2.2 16 _ (by decide) G1_16
    have G2_17 := k2.2 17 _ (by decide) G1_17
    have G2_18 := k2.2 18 _ (by decide) G1_a1
    refine W.eq (g2 := F0 m 509 ls [.int lim]) (congrArg (fun z9 : Int32 => F0 m 509 ls [.int z9]) (show (r506 : Int32) = lim from (by rw [e_r506, e_k, sel0]))) ?_
    refine lv_istore (lv' := [(6, .int lim), (5, .int 0), (4, .int (nI i)), (3, .ref ou), (2, .ref mo), (1, .ref x), (0, .ref b)]) hx hb dL_law_509 hl (by decide) rfl (fun ls hl => ?_)
    refine lv_aload_n hx hb dL_law_511 rfl (lv_at hl 4 rfl) ?_
    refine z_cr (z_rV (As := []) (rest := []) (ci := 8) (q0 := 11) X J (cX7_thrown_ok l E G2_a0) (cwV 0 hts gL_law_X7_thrown rfl rfl rfl (by decide +kernel) ⟨Nat.le_of_ble_eq_true rfl, Nat.le_of_ble_eq_true rfl⟩) G2_a0 rfl rfl rfl hl.1 rfl (Nat.le_of_ble_eq_true rfl) dL_law_512 ⟨by show _ ≤ 601024; omega, by show _ ≤ 7293034; omega⟩) (fun r512 e_r512 => ?_)
    subst e_r512
    refine lv_iload hx hb dL_law_515 (lv_at hl 1 rfl) ?_
    refine lv_icmp_eq (tgt := 522) hx hb dL_law_517 (by decide) (fun cz517 => ?_) (fun cz517 => by exact (cz517 e_k).elim)
    refine lv_iload hx hb dL_law_522 (lv_at hl 1 rfl) ?_
    refine lv_if_ne (tgt := 539) hx hb dL_law_524 (by decide) (fun cz524 => by exact absurd cz524 (by decide)) (fun cz524 => ?_)
    refine lv_aload_n hx hb dL_law_527 rfl (lv_at hl 3 rfl) ?_
    refine lv_iconst (v := 0) hx hb dL_law_528 (by decide) ?_
    refine z_lald X J 18 G2_18 (vp_in_nI (n := 0) (by decide) (by decide)) dL_law_529 ?_
    refine W.eq (g2 := F0 m 530 ls [.long lim.toInt64]) (congrArg (fun z9 : Int64 => F0 m 530 ls [.long z9]) (show ((vp_updL o9 0 lim.toInt64) (0 : Int32).toNatClampNeg : Int64) = lim.toInt64 from rfl)) ?_
    refine lv_iload hx hb dL_law_530 (lv_at hl 0 rfl) ?_
    refine lv_i2l (v := lim.toInt64) hx hb dL_law_532 rfl ?_
    refine W.lcmp hx hb dL_law_533 ?_
    refine W.eq (g2 := F0 m 534 ls [.int 0]) (congrArg (fun z9 : Int32 => F0 m 534 ls [.int z9]) (show (lg_cmp lim.toInt64 lim.toInt64 : Int32) = 0 from (lg_cmp_self _))) ?_
    refine lv_if_eq (tgt := 539) hx hb dL_law_534 (by decide) (fun cz534 => ?_) (fun cz534 => by exact absurd cz534 (by decide))
    refine lv_goto (tgt := 1425) hx hb dL_law_539 (by decide) ?_
    refine W.widen (k := cells + 700) (n := slots + 4500) (by omega) (by omega) ?_
    exact kk _ H locs _ ⟨fl, rl, wh, gr, gra, tr, tra, sc, ha, va, mf, md, mi, ms9, mk, mt, ea, eb, nf, nr, mc1, mc2, (xs (i + 1)), sup, off, plo, hrs, (kLim (xs (i + 1))), fa, rd, ri, sn, t9, hf, gf, kp, tp, (vp_updL o9 0 lim.toInt64), G2_0, G2_1, G2_2, G2_3, G2_4, G2_5, G2_6, G2_7, G2_8, G2_9, G2_10, (by simpa only [e_k, sel0] using G2_a0), G2_12, G2_13, G2_14, G2_15, G2_16, G2_17, G2_18, (hF.keep hk (by decide)), (hR.keep hk (by decide)), hSep, hnf, hnr, hok, hor, hRB, hBI⟩ J (lv_sub hl [2, 3, 4, 5, 6] rfl)
set_option maxHeartbeats 2000000 in
set_option maxRecDepth 100000 in
theorem turn_setSupply {p : Program} {l : Launch} (hflags : l.flags = flags0) {e : Env} {s : State} {m : MethodId} {below : List Frame} {meth : Method} {c : Code} {b L : Nat} {xs : Nat → Int32} (E : zG) (X : zC E p m c cL_law 9 s #[.ref b] wsL_law RL) (hRz : zR s) (hNz : zNc s) (hXs : va_X b L xs s s.heap) (hbl : b < s.heap.size) (hbA : ¬ zA E b) (hE1 : ¬ zA E E.2.2.1) (hL9 : L ≤ 3584) {QQ : State → Prop} {ws : va_W} {x mo ou i cells slots : Nat} {H : Heap} {locs : List Loc} {ls : Array Slot} (hi : i + 7 ≤ L) (hW : LW E ws x mo ou) (J : zJ E ws s H locs) (hl : lv_has ls 9 [(4, .int (nI i)), (3, .ref ou), (2, .ref mo), (1, .ref x), (0, .ref b)]) (hc9 : cells + 700 ≤ 601024) (hs9 : slots + 4500 ≤ 7293034)
    (kk : ∀ (ws' : va_W) (H' : Heap) (locs' : List Loc) (ls' : Array Slot), LW E ws' x mo ou → zJ E ws' s H' locs' → lv_has ls' 9 [(4, .int (nI i)), (3, .ref ou), (2, .ref mo), (1, .ref x), (0, .ref b)] → W p l e room_1 s m #[.ref b] below meth c H' locs' (cells + 700) (slots + 4500) QQ (F0 m 1425 ls' [])) :
    W p l e room_1 s m #[.ref b] below meth c H locs cells slots QQ (F0 m 542 ls []) := by
  obtain ⟨fl, rl, wh, gr, gra, tr, tra, sc, ha, va, mf, md, mi, ms9, mk, mt, ea, eb, nf, nr, mc1, mc2, lim, sup, off, plo, hrs, th, fa, rd, ri, sn, t9, hf, gf, kp, tp, o9, Fa0, Fa1, Fa2, Fa3, Fa4, Fa5, Fa6, Fa7, Fa8, Fa9, Fa10, Fa11, Fa12, Fa13, Fa14, Fa15, Fa16, Fa17, Fa18, hF, hR, hSep, hnf, hnr, hok, hor, hRB, hBI⟩ := hW
  have hx := X.1.1
  have hb := X.1.2.1
  have hown := X.1.2.2.2.1
  have hts := X.1.2.2.2.2
  have hk : zK [0, 1, 2, 3, 4, 5, 6, 7, 8, 9, 10, 11, 12, 13, 14, 15, 16, 17, 18] ws ws := zK.rf
  have hlen19 := zlt Fa18
  refine lv_aload_n hx hb dL_law_542 rfl (lv_at hl 3 rfl) ?_
  refine lv_aload_n hx hb dL_law_543 rfl (lv_at hl 4 rfl) ?_
  refine lv_iload hx hb dL_law_544 (lv_at hl 0 rfl) ?_
  refine lv_iconst (v := 1) hx hb dL_law_546 (by decide) ?_
  refine lv_iadd hx hb dL_law_547 ?_
  refine W.eq (g2 := F0 m 548 ls [.int (nI (i + 1)), .ref b, .ref x]) (congrArg (fun z9 : Int32 => F0 m 548 ls [.int z9, .ref b, .ref x]) (show ((nI i) + 1 : Int32) = nI (i + 1) from (nI_add i 1))) ?_
  refine va_sld hx hb hXs hbl hbA J.2.2 (vp_in_nI (by omega) (by omega)) dL_law_548 ?_
  refine W.eq (g2 := F0 m 549 ls [.int (xs (i + 1)), .ref x]) (congrArg (fun z9 : Int32 => F0 m 549 ls [.int z9, .ref x]) (show (xs (nI (i + 1)).toNatClampNeg : Int32) = xs (i + 1) from (congrArg xs (nI_clamp (by omega))))) ?_
  refine lv_aload_n hx hb dL_law_549 rfl (lv_at hl 1 rfl) ?_
  refine z_xi J (z_wS (As := [.ref x, .int (xs (i + 1)), .ref ou]) (rest := []) X hRz hNz J (cL_setSupply_ok l hflags E Fa0 Fa18) (vx_cwSW (hh := [(0, 9, 12, 13)]) 3 hts gL_law_L_setSupply rfl rfl rfl (by decide +kernel) ⟨Nat.le_of_ble_eq_true rfl, Nat.le_of_ble_eq_true rfl⟩) rfl hl.1 rfl (Nat.le_of_ble_eq_true rfl) dL_law_550 ⟨by show _ ≤ 601024; omega, by show _ ≤ 7293034; omega⟩) (fun nm ce q9 H locs hp9 J h1 h2 h3 => ?_) (fun r550 ws_1 H locs hp9 J => ?_)
  · exact False.elim (by exact hp9)
  rcases hp9 with ⟨e_v, e_k, rfl⟩ | ⟨e_v, e_k, k1, G1_a0, G1_a1⟩
  · subst e_v
    refine lv_istore (lv' := [(5, .int (kSup (xs (i + 1)))), (4, .int (nI i)), (3, .ref ou), (2, .ref mo), (1, .ref x), (0, .ref b)]) hx hb dL_law_553 hl (by decide) rfl (fun ls hl => ?_)
    refine lv_aload_n hx hb dL_law_555 rfl (lv_at hl 3 rfl) ?_
    refine lv_aload_n hx hb dL_law_556 rfl (lv_at hl 5 rfl) ?_
    refine lv_iload hx hb dL_law_557 (lv_at hl 1 rfl) ?_
    refine lv_iconst (v := 1) hx hb dL_law_559 (by decide) ?_
    refine lv_iadd hx hb dL_law_560 ?_
    refine W.eq (g2 := F0 m 561 ls [.int (nI (i + 1)), .ref b, .ref mo]) (congrArg (fun z9 : Int32 => F0 m 561 ls [.int z9, .ref b, .ref mo]) (show ((nI i) + 1 : Int32) = nI (i + 1) from (nI_add i 1))) ?_
    refine va_sld hx hb hXs hbl hbA J.2.2 (vp_in_nI (by omega) (by omega)) dL_law_561 ?_
    refine W.eq (g2 := F0 m 562 ls [.int (xs (i + 1)), .ref mo]) (congrArg (fun z9 : Int32 => F0 m 562 ls [.int z9, .ref mo]) (show (xs (nI (i + 1)).toNatClampNeg : Int32) = xs (i + 1) from (congrArg xs (nI_clamp (by omega))))) ?_
    refine z_ci J (z_rV (As := [.int (xs (i + 1))]) (rest := []) (ci := 8) (q0 := 11) X J (cX7_setSupply_ok l E Fa11) (cwV 1 hts gL_law_X7_setSupply rfl rfl rfl (by decide +kernel) ⟨Nat.le_of_ble_eq_true rfl, Nat.le_of_ble_eq_true rfl⟩) Fa11 rfl rfl rfl hl.1 rfl (Nat.le_of_ble_eq_true rfl) dL_law_562 ⟨by show _ ≤ 601024; omega, by show _ ≤ 7293034; omega⟩) (fun r562 ws_2 H locs hp9 J => ?_)
    obtain ⟨k2, G2_a0, e_r562⟩ := hp9
    have hk := hk.trans (k2.mono (by decide))
    have G2_0 := k2.2 0 _ (by decide) Fa0
    have G2_1 := k2.2 1 _ (by decide) Fa1
    have G2_2 := k2.2 2 _ (by decide) Fa2
    have G2_3 := k2.2 3 _ (by decide) Fa3
    have G2_4 := k2.2 4 _ (by decide) Fa4
    have G2_5 := k2.2 5 _ (by decide) Fa5
    have G2_6 := k2.2 6 _ (by decide) Fa6
    have G2_7 := k2.2 7 _ (by decide) Fa7
    have G2_8 := k2.2 8 _ (by decide) Fa8
    have G2_9 := k2.2 9 _ (by decide) Fa9
    have G2_10 := k2.2 10 _ (by decide) Fa10
    have G2_12 := k2.2 12 _ (by decide) Fa12
    have G2_13 := k2.2 13 _ (by decide) Fa13
    have G2_14 := k2.2 14 _ (by decide) Fa14
    have G2_15 := k2.2 15 _ (by decide) Fa15
    have G2_16 := k2.2 16 _ (by decide) Fa16
    have G2_17 := k2.2 17 _ (by decide) Fa17
    have G2_18 := k2.2 18 _ (by decide) Fa18
    refine lv_istore (lv' := [(6, .int r562), (5, .int (kSup (xs (i + 1)))), (4, .int (nI i)), (3, .ref ou), (2, .ref mo), (1, .ref x), (0, .ref b)]) hx hb dL_law_565 hl (by decide) rfl (fun ls hl => ?_)
    refine lv_aload_n hx hb dL_law_567 rfl (lv_at hl 4 rfl) ?_
    refine z_cr (z_rV (As := []) (rest := []) (ci := 8) (q0 := 11) X J (cX7_thrown_ok l E G2_a0) (cwV 0 hts gL_law_X7_thrown rfl rfl rfl (by decide +kernel) ⟨Nat.le_of_ble_eq_true rfl, Nat.le_of_ble_eq_true rfl⟩) G2_a0 rfl rfl rfl hl.1 rfl (Nat.le_of_ble_eq_true rfl) dL_law_568 ⟨by show _ ≤ 601024; omega, by show _ ≤ 7293034; omega⟩) (fun r568 e_r568 => ?_)
    subst e_r568
    refine lv_iload hx hb dL_law_571 (lv_at hl 1 rfl) ?_
    refine lv_icmp_eq (tgt := 578) hx hb dL_law_573 (by decide) (fun cz573 => ?_) (fun cz573 => by exact (cz573 rfl).elim)
    refine lv_iload hx hb dL_law_578 (lv_at hl 1 rfl) ?_
    refine lv_if_ne (tgt := 595) hx hb dL_law_580 (by decide) (fun cz580 => ?_) (fun cz580 => by exact (e_k cz580).elim)
    refine lv_goto (tgt := 1425) hx hb dL_law_595 (by decide) ?_
    refine W.widen (k := cells + 700) (n := slots + 4500) (by omega) (by omega) ?_
    exact kk _ H locs _ ⟨fl, rl, wh, gr, gra, tr, tra, sc, ha, va, mf, md, mi, ms9, mk, mt, ea, eb, nf, nr, mc1, mc2, lim, sup, off, plo, hrs, (kSup (xs (i + 1))), fa, rd, ri, sn, t9, hf, gf, kp, tp, o9, G2_0, G2_1, G2_2, G2_3, G2_4, G2_5, G2_6, G2_7, G2_8, G2_9, G2_10, (by simpa only [selN e_k] using G2_a0), G2_12, G2_13, G2_14, G2_15, G2_16, G2_17, G2_18, (hF.keep hk (by decide)), (hR.keep hk (by decide)), hSep, hnf, hnr, hok, hor, hRB, hBI⟩ J (lv_sub hl [2, 3, 4, 5, 6] rfl)
  · subst e_v
    have hk := hk.trans (k1.mono (by decide))
    have G1_1 := k1.2 1 _ (by decide) Fa1
    have G1_2 := k1.2 2 _ (by decide) Fa2
    have G1_3 := k1.2 3 _ (by decide) Fa3
    have G1_4 := k1.2 4 _ (by decide) Fa4
    have G1_5 := k1.2 5 _ (by decide) Fa5
    have G1_6 := k1.2 6 _ (by decide) Fa6
    have G1_7 := k1.2 7 _ (by decide) Fa7
    have G1_8 := k1.2 8 _ (by decide) Fa8
    have G1_9 := k1.2 9 _ (by decide) Fa9
    have G1_10 := k1.2 10 _ (by decide) Fa10
    have G1_11 := k1.2 11 _ (by decide) Fa11
    have G1_12 := k1.2 12 _ (by decide) Fa12
    have G1_13 := k1.2 13 _ (by decide) Fa13
    have G1_14 := k1.2 14 _ (by decide) Fa14
    have G1_15 := k1.2 15 _ (by decide) Fa15
    have G1_16 := k1.2 16 _ (by decide) Fa16
    have G1_17 := k1.2 17 _ (by decide) Fa17
    refine lv_istore (lv' := [(5, .int 0), (4, .int (nI i)), (3, .ref ou), (2, .ref mo), (1, .ref x), (0, .ref b)]) hx hb dL_law_553 hl (by decide) rfl (fun ls hl => ?_)
    refine lv_aload_n hx hb dL_law_555 rfl (lv_at hl 3 rfl) ?_
    refine lv_aload_n hx hb dL_law_556 rfl (lv_at hl 5 rfl) ?_
    refine lv_iload hx hb dL_law_557 (lv_at hl 1 rfl) ?_
    refine lv_iconst (v := 1) hx hb dL_law_559 (by decide) ?_
    refine lv_iadd hx hb dL_law_560 ?_
    refine W.eq (g2 := F0 m 561 ls [.int (nI (i + 1)), .ref b, .ref mo]) (congrArg (fun z9 : Int32 => F0 m 561 ls [.int z9, .ref b, .ref mo]) (show ((nI i) + 1 : Int32) = nI (i + 1) from (nI_add i 1))) ?_
    refine va_sld hx hb hXs hbl hbA J.2.2 (vp_in_nI (by omega) (by omega)) dL_law_561 ?_
    refine W.eq (g2 := F0 m 562 ls [.int (xs (i + 1)), .ref mo]) (congrArg (fun z9 : Int32 => F0 m 562 ls [.int z9, .ref mo]) (show (xs (nI (i + 1)).toNatClampNeg : Int32) = xs (i + 1) from (congrArg xs (nI_clamp (by omega))))) ?_
    refine z_ci J (z_rV (As := [.int (xs (i + 1))]) (rest := []) (ci := 8) (q0 := 11) X J (cX7_setSupply_ok l E G1_11) (cwV 1 hts gL_law_X7_setSupply rfl rfl rfl (by decide +kernel) ⟨Nat.le_of_ble_eq_true rfl, Nat.le_of_ble_eq_true rfl⟩) G1_11 rfl rfl rfl hl.1 rfl (Nat.le_of_ble_eq_true rfl) dL_law_562 ⟨by show _ ≤ 601024; omega, by show _ ≤ 7293034; omega⟩) (fun r562 ws_2 H locs hp9 J => ?_)
    obtain ⟨k2, G2_a0, e_r562⟩ := hp9
    have hk := hk.trans (k2.mono (by decide))
    have G2_0 := k2.2 0 _ (by decide) G1_a0
    have G2_1 := k2.2 1 _ (by decide) G1_1
    have G2_2 := k2.2 2 _ (by decide) G1_2
    have G2_3 := k2.2 3 _ (by decide) G1_3
    have G2_4 := k2.2 4 _ (by decide) G1_4
    have G2_5 := k2.2 5 _ (by decide) G1_5
    have G2_6 := k2.2 6 _ (by decide) G1_6
    have G2_7 := k2.2 7 _ (by decide) G1_7
    have G2_8 := k2.2 8 _ (by decide) G1_8
    have G2_9 := k2.2 9 _ (by decide) G1_9
    have G2_10 := k2.2 10 _ (by decide) G1_10
    have G2_12 := k2.2 12 _ (by decide) G1_12
    have G2_13 := k2.2 13 _ (by decide) G1_13
    have G2_14 := k2.2 14 _ (by decide) G1_14
    have G2_15 := k2.2 15 _ (by decide) G1_15
    have G2_16 := k2.2 16 _ (by decide) G1_16
    have G2_17 := k2.2 17 _ (by decide) G1_17
    have G2_18 := k2.2 18 _ (by decide) G1_a1
    refine W.eq (g2 := F0 m 565 ls [.int sup]) (congrArg (fun z9 : Int32 => F0 m 565 ls [.int z9]) (show (r562 : Int32) = sup from (by rw [e_r562, e_k, sel0]))) ?_
    refine lv_istore (lv' := [(6, .int sup), (5, .int 0), (4, .int (nI i)), (3, .ref ou), (2, .ref mo), (1, .ref x), (0, .ref b)]) hx hb dL_law_565 hl (by decide) rfl (fun ls hl => ?_)
    refine lv_aload_n hx hb dL_law_567 rfl (lv_at hl 4 rfl) ?_
    refine z_cr (z_rV (As := []) (rest := []) (ci := 8) (q0 := 11) X J (cX7_thrown_ok l E G2_a0) (cwV 0 hts gL_law_X7_thrown rfl rfl rfl (by decide +kernel) ⟨Nat.le_of_ble_eq_true rfl, Nat.le_of_ble_eq_true rfl⟩) G2_a0 rfl rfl rfl hl.1 rfl (Nat.le_of_ble_eq_true rfl) dL_law_568 ⟨by show _ ≤ 601024; omega, by show _ ≤ 7293034; omega⟩) (fun r568 e_r568 => ?_)
    subst e_r568
    refine lv_iload hx hb dL_law_571 (lv_at hl 1 rfl) ?_
    refine lv_icmp_eq (tgt := 578) hx hb dL_law_573 (by decide) (fun cz573 => ?_) (fun cz573 => by exact (cz573 e_k).elim)
    refine lv_iload hx hb dL_law_578 (lv_at hl 1 rfl) ?_
    refine lv_if_ne (tgt := 595) hx hb dL_law_580 (by decide) (fun cz580 => by exact absurd cz580 (by decide)) (fun cz580 => ?_)
    refine lv_aload_n hx hb dL_law_583 rfl (lv_at hl 3 rfl) ?_
    refine lv_iconst (v := 0) hx hb dL_law_584 (by decide) ?_
    refine z_lald X J 18 G2_18 (vp_in_nI (n := 0) (by decide) (by decide)) dL_law_585 ?_
    refine W.eq (g2 := F0 m 586 ls [.long sup.toInt64]) (congrArg (fun z9 : Int64 => F0 m 586 ls [.long z9]) (show ((vp_updL o9 0 sup.toInt64) (0 : Int32).toNatClampNeg : Int64) = sup.toInt64 from rfl)) ?_
    refine lv_iload hx hb dL_law_586 (lv_at hl 0 rfl) ?_
    refine lv_i2l (v := sup.toInt64) hx hb dL_law_588 rfl ?_
    refine W.lcmp hx hb dL_law_589 ?_
    refine W.eq (g2 := F0 m 590 ls [.int 0]) (congrArg (fun z9 : Int32 => F0 m 590 ls [.int z9]) (show (lg_cmp sup.toInt64 sup.toInt64 : Int32) = 0 from (lg_cmp_self _))) ?_
    refine lv_if_eq (tgt := 595) hx hb dL_law_590 (by decide) (fun cz590 => ?_) (fun cz590 => by exact absurd cz590 (by decide))
    refine lv_goto (tgt := 1425) hx hb dL_law_595 (by decide) ?_
    refine W.widen (k := cells + 700) (n := slots + 4500) (by omega) (by omega) ?_
    exact kk _ H locs _ ⟨fl, rl, wh, gr, gra, tr, tra, sc, ha, va, mf, md, mi, ms9, mk, mt, ea, eb, nf, nr, mc1, mc2, lim, (xs (i + 1)), off, plo, hrs, (kSup (xs (i + 1))), fa, rd, ri, sn, t9, hf, gf, kp, tp, (vp_updL o9 0 sup.toInt64), G2_0, G2_1, G2_2, G2_3, G2_4, G2_5, G2_6, G2_7, G2_8, G2_9, G2_10, (by simpa only [e_k, sel0] using G2_a0), G2_12, G2_13, G2_14, G2_15, G2_16, G2_17, G2_18, (hF.keep hk (by decide)), (hR.keep hk (by decide)), hSep, hnf, hnr, hok, hor, hRB, (kSup0 e_k)⟩ J (lv_sub hl [2, 3, 4, 5, 6] rfl)
set_option maxHeartbeats 2000000 in
set_option maxRecDepth 100000 in
theorem turn_fall {p : Program} {l : Launch} (hflags : l.flags = flags0) {e : Env} {s : State} {m : MethodId} {below : List Frame} {meth : Method} {c : Code} {b L : Nat} {xs : Nat → Int32} (E : zG) (X : zC E p m c cL_law 9 s #[.ref b] wsL_law RL) (hRz : zR s) (hNz : zNc s) (hXs : va_X b L xs s s.heap) (hbl : b < s.heap.size) (hbA : ¬ zA E b) (hE1 : ¬ zA E E.2.2.1) (hL9 : L ≤ 3584) {QQ : State → Prop} {ws : va_W} {x mo ou i cells slots : Nat} {H : Heap} {locs : List Loc} {ls : Array Slot} (hi : i + 7 ≤ L) (hW : LW E ws x mo ou) (J : zJ E ws s H locs) (hl : lv_has ls 9 [(4, .int (nI i)), (3, .ref ou), (2, .ref mo), (1, .ref x), (0, .ref b)]) (hc9 : cells + 700 ≤ 601024) (hs9 : slots + 4500 ≤ 7293034)
    (kk : ∀ (ws' : va_W) (H' : Heap) (locs' : List Loc) (ls' : Array Slot), LW E ws' x mo ou → zJ E ws' s H' locs' → lv_has ls' 9 [(4, .int (nI i)), (3, .ref ou), (2, .ref mo), (1, .ref x), (0, .ref b)] → W p l e room_1 s m #[.ref b] below meth c H' locs' (cells + 700) (slots + 4500) QQ (F0 m 1425 ls' [])) :
    W p l e room_1 s m #[.ref b] below meth c H locs cells slots QQ (F0 m 598 ls []) := by
  obtain ⟨fl, rl, wh, gr, gra, tr, tra, sc, ha, va, mf, md, mi, ms9, mk, mt, ea, eb, nf, nr, mc1, mc2, lim, sup, off, plo, hrs, th, fa, rd, ri, sn, t9, hf, gf, kp, tp, o9, Fa0, Fa1, Fa2, Fa3, Fa4, Fa5, Fa6, Fa7, Fa8, Fa9, Fa10, Fa11, Fa12, Fa13, Fa14, Fa15, Fa16, Fa17, Fa18, hF, hR, hSep, hnf, hnr, hok, hor, hRB, hBI⟩ := hW
  have hx := X.1.1
  have hb := X.1.2.1
  have hown := X.1.2.2.2.1
  have hts := X.1.2.2.2.2
  have hk : zK [0, 1, 2, 3, 4, 5, 6, 7, 8, 9, 10, 11, 12, 13, 14, 15, 16, 17, 18] ws ws := zK.rf
  have hlen19 := zlt Fa18
  refine lv_aload_n hx hb dL_law_598 rfl (lv_at hl 3 rfl) ?_
  refine lv_aload_n hx hb dL_law_599 rfl (lv_at hl 4 rfl) ?_
  refine lv_iload hx hb dL_law_600 (lv_at hl 0 rfl) ?_
  refine lv_iconst (v := 1) hx hb dL_law_602 (by decide) ?_
  refine lv_iadd hx hb dL_law_603 ?_
  refine W.eq (g2 := F0 m 604 ls [.int (nI (i + 1)), .ref b, .ref x]) (congrArg (fun z9 : Int32 => F0 m 604 ls [.int z9, .ref b, .ref x]) (show ((nI i) + 1 : Int32) = nI (i + 1) from (nI_add i 1))) ?_
  refine va_sld hx hb hXs hbl hbA J.2.2 (vp_in_nI (by omega) (by omega)) dL_law_604 ?_
  refine W.eq (g2 := F0 m 605 ls [.int (xs (i + 1)), .ref x]) (congrArg (fun z9 : Int32 => F0 m 605 ls [.int z9, .ref x]) (show (xs (nI (i + 1)).toNatClampNeg : Int32) = xs (i + 1) from (congrArg xs (nI_clamp (by omega))))) ?_
  refine lv_aload_n hx hb dL_law_605 rfl (lv_at hl 1 rfl) ?_
  refine z_xi J (z_wS (As := [.ref x, .int (xs (i + 1)), .ref ou]) (rest := []) X hRz hNz J (cL_fall_ok l hflags E Fa0 Fa3 Fa4 Fa5 Fa18) (vx_cwSW (hh := [(0, 9, 12, 13)]) 3 hts gL_law_L_fall rfl rfl rfl (by decide +kernel) ⟨Nat.le_of_ble_eq_true rfl, Nat.le_of_ble_eq_true rfl⟩) rfl hl.1 rfl (Nat.le_of_ble_eq_true rfl) dL_law_606 ⟨by show _ ≤ 601024; omega, by show _ ≤ 7293034; omega⟩) (fun nm ce q9 H locs hp9 J h1 h2 h3 => ?_) (fun r606 ws_1 H locs hp9 J => ?_)
  · exact False.elim (by exact hp9)
  rcases hp9 with ⟨e_v, e_k, rfl⟩ | ⟨e_v, e_k, k1, G1_a0, G1_a1⟩
  · subst e_v
    refine lv_istore (lv' := [(5, .int (kFall (xs (i + 1)))), (4, .int (nI i)), (3, .ref ou), (2, .ref mo), (1, .ref x), (0, .ref b)]) hx hb dL_law_609 hl (by decide) rfl (fun ls hl => ?_)
    refine lv_aload_n hx hb dL_law_611 rfl (lv_at hl 3 rfl) ?_
    refine lv_aload_n hx hb dL_law_612 rfl (lv_at hl 5 rfl) ?_
    refine lv_iload hx hb dL_law_613 (lv_at hl 1 rfl) ?_
    refine lv_iconst (v := 1) hx hb dL_law_615 (by decide) ?_
    refine lv_iadd hx hb dL_law_616 ?_
    refine W.eq (g2 := F0 m 617 ls [.int (nI (i + 1)), .ref b, .ref mo]) (congrArg (fun z9 : Int32 => F0 m 617 ls [.int z9, .ref b, .ref mo]) (show ((nI i) + 1 : Int32) = nI (i + 1) from (nI_add i 1))) ?_
    refine va_sld hx hb hXs hbl hbA J.2.2 (vp_in_nI (by omega) (by omega)) dL_law_617 ?_
    refine W.eq (g2 := F0 m 618 ls [.int (xs (i + 1)), .ref mo]) (congrArg (fun z9 : Int32 => F0 m 618 ls [.int z9, .ref mo]) (show (xs (nI (i + 1)).toNatClampNeg : Int32) = xs (i + 1) from (congrArg xs (nI_clamp (by omega))))) ?_
    refine z_ci J (z_rV (As := [.int (xs (i + 1))]) (rest := []) (ci := 8) (q0 := 11) X J (cX7_fall_ok l E Fa11 Fa15) (cwV 1 hts gL_law_X7_fall rfl rfl rfl (by decide +kernel) ⟨Nat.le_of_ble_eq_true rfl, Nat.le_of_ble_eq_true rfl⟩) Fa11 rfl rfl rfl hl.1 rfl (Nat.le_of_ble_eq_true rfl) dL_law_618 ⟨by show _ ≤ 601024; omega, by show _ ≤ 7293034; omega⟩) (fun r618 ws_2 H locs hp9 J => ?_)
    obtain ⟨k2, G2_a0, G2_a1, e_r618⟩ := hp9
    have hk := hk.trans (k2.mono (by decide))
    have G2_0 := k2.2 0 _ (by decide) Fa0
    have G2_1 := k2.2 1 _ (by decide) Fa1
    have G2_2 := k2.2 2 _ (by decide) Fa2
    have G2_3 := k2.2 3 _ (by decide) Fa3
    have G2_4 := k2.2 4 _ (by decide) Fa4
    have G2_5 := k2.2 5 _ (by decide) Fa5
    have G2_6 := k2.2 6 _ (by decide) Fa6
    have G2_7 := k2.2 7 _ (by decide) Fa7
    have G2_8 := k2.2 8 _ (by decide) Fa8
    have G2_9 := k2.2 9 _ (by decide) Fa9
    have G2_10 := k2.2 10 _ (by decide) Fa10
    have G2_12 := k2.2 12 _ (by decide) Fa12
    have G2_13 := k2.2 13 _ (by decide) Fa13
    have G2_14 := k2.2 14 _ (by decide) Fa14
    have G2_16 := k2.2 16 _ (by decide) Fa16
    have G2_17 := k2.2 17 _ (by decide) Fa17
    have G2_18 := k2.2 18 _ (by decide) Fa18
    refine lv_istore (lv' := [(6, .int r618), (5, .int (kFall (xs (i + 1)))), (4, .int (nI i)), (3, .ref ou), (2, .ref mo), (1, .ref x), (0, .ref b)]) hx hb dL_law_621 hl (by decide) rfl (fun ls hl => ?_)
    refine lv_aload_n hx hb dL_law_623 rfl (lv_at hl 4 rfl) ?_
    refine z_cr (z_rV (As := []) (rest := []) (ci := 8) (q0 := 11) X J (cX7_thrown_ok l E G2_a0) (cwV 0 hts gL_law_X7_thrown rfl rfl rfl (by decide +kernel) ⟨Nat.le_of_ble_eq_true rfl, Nat.le_of_ble_eq_true rfl⟩) G2_a0 rfl rfl rfl hl.1 rfl (Nat.le_of_ble_eq_true rfl) dL_law_624 ⟨by show _ ≤ 601024; omega, by show _ ≤ 7293034; omega⟩) (fun r624 e_r624 => ?_)
    subst e_r624
    refine lv_iload hx hb dL_law_627 (lv_at hl 1 rfl) ?_
    refine lv_icmp_eq (tgt := 634) hx hb dL_law_629 (by decide) (fun cz629 => ?_) (fun cz629 => by exact (cz629 rfl).elim)
    refine lv_iload hx hb dL_law_634 (lv_at hl 1 rfl) ?_
    refine lv_if_ne (tgt := 651) hx hb dL_law_636 (by decide) (fun cz636 => ?_) (fun cz636 => by exact (e_k cz636).elim)
    refine lv_goto (tgt := 1425) hx hb dL_law_651 (by decide) ?_
    refine W.widen (k := cells + 700) (n := slots + 4500) (by omega) (by omega) ?_
    exact kk _ H locs _ ⟨fl, rl, wh, gr, gra, tr, tra, sc, ha, va, mf, md, mi, ms9, mk, mt, ea, eb, nf, nr, mc1, mc2, lim, sup, off, plo, hrs, (kFall (xs (i + 1))), fa, rd, ri, sn, t9, hf, gf, kp, tp, o9, G2_0, G2_1, G2_2, G2_3, G2_4, G2_5, G2_6, G2_7, G2_8, G2_9, G2_10, G2_a0, G2_12, G2_13, G2_14, (by simpa only [selN e_k] using G2_a1), G2_16, G2_17, G2_18, (hF.keep hk (by decide)), (hR.keep hk (by decide)), hSep, hnf, hnr, hok, hor, hRB, hBI⟩ J (lv_sub hl [2, 3, 4, 5, 6] rfl)
  · subst e_v
    have hk := hk.trans (k1.mono (by decide))
    have G1_0 := k1.2 0 _ (by decide) Fa0
    have G1_1 := k1.2 1 _ (by decide) Fa1
    have G1_2 := k1.2 2 _ (by decide) Fa2
    have G1_3 := k1.2 3 _ (by decide) Fa3
    have G1_4 := k1.2 4 _ (by decide) Fa4
    have G1_6 := k1.2 6 _ (by decide) Fa6
    have G1_7 := k1.2 7 _ (by decide) Fa7
    have G1_8 := k1.2 8 _ (by decide) Fa8
    have G1_9 := k1.2 9 _ (by decide) Fa9
    have G1_10 := k1.2 10 _ (by decide) Fa10
    have G1_11 := k1.2 11 _ (by decide) Fa11
    have G1_12 := k1.2 12 _ (by decide) Fa12
    have G1_13 := k1.2 13 _ (by decide) Fa13
    have G1_14 := k1.2 14 _ (by decide) Fa14
    have G1_15 := k1.2 15 _ (by decide) Fa15
    have G1_16 := k1.2 16 _ (by decide) Fa16
    have G1_17 := k1.2 17 _ (by decide) Fa17
    refine lv_istore (lv' := [(5, .int 0), (4, .int (nI i)), (3, .ref ou), (2, .ref mo), (1, .ref x), (0, .ref b)]) hx hb dL_law_609 hl (by decide) rfl (fun ls hl => ?_)
    refine lv_aload_n hx hb dL_law_611 rfl (lv_at hl 3 rfl) ?_
    refine lv_aload_n hx hb dL_law_612 rfl (lv_at hl 5 rfl) ?_
    refine lv_iload hx hb dL_law_613 (lv_at hl 1 rfl) ?_
    refine lv_iconst (v := 1) hx hb dL_law_615 (by decide) ?_
    refine lv_iadd hx hb dL_law_616 ?_
    refine W.eq (g2 := F0 m 617 ls [.int (nI (i + 1)), .ref b, .ref mo]) (congrArg (fun z9 : Int32 => F0 m 617 ls [.int z9, .ref b, .ref mo]) (show ((nI i) + 1 : Int32) = nI (i + 1) from (nI_add i 1))) ?_
    refine va_sld hx hb hXs hbl hbA J.2.2 (vp_in_nI (by omega) (by omega)) dL_law_617 ?_
    refine W.eq (g2 := F0 m 618 ls [.int (xs (i + 1)), .ref mo]) (congrArg (fun z9 : Int32 => F0 m 618 ls [.int z9, .ref mo]) (show (xs (nI (i + 1)).toNatClampNeg : Int32) = xs (i + 1) from (congrArg xs (nI_clamp (by omega))))) ?_
    refine z_ci J (z_rV (As := [.int (xs (i + 1))]) (rest := []) (ci := 8) (q0 := 11) X J (cX7_fall_ok l E G1_11 G1_15) (cwV 1 hts gL_law_X7_fall rfl rfl rfl (by decide +kernel) ⟨Nat.le_of_ble_eq_true rfl, Nat.le_of_ble_eq_true rfl⟩) G1_11 rfl rfl rfl hl.1 rfl (Nat.le_of_ble_eq_true rfl) dL_law_618 ⟨by show _ ≤ 601024; omega, by show _ ≤ 7293034; omega⟩) (fun r618 ws_2 H locs hp9 J => ?_)
    obtain ⟨k2, G2_a0, G2_a1, e_r618⟩ := hp9
    have hk := hk.trans (k2.mono (by decide))
    have G2_0 := k2.2 0 _ (by decide) G1_0
    have G2_1 := k2.2 1 _ (by decide) G1_1
    have G2_2 := k2.2 2 _ (by decide) G1_2
    have G2_3 := k2.2 3 _ (by decide) G1_3
    have G2_4 := k2.2 4 _ (by decide) G1_4
    have G2_5 := k2.2 5 _ (by decide) G1_a0
    have G2_6 := k2.2 6 _ (by decide) G1_6
    have G2_7 := k2.2 7 _ (by decide) G1_7
    have G2_8 := k2.2 8 _ (by decide) G1_8
    have G2_9 := k2.2 9 _ (by decide) G1_9
    have G2_10 := k2.2 10 _ (by decide) G1_10
    have G2_12 := k2.2 12 _ (by decide) G1_12
    have G2_13 := k2.2 13 _ (by decide) G1_13
    have G2_14 := k2.2 14 _ (by decide) G1_14
    have G2_16 := k2.2 16 _ (by decide) G1_16
    have G2_17 := k2.2 17 _ (by decide) G1_17
    have G2_18 := k2.2 18 _ (by decide) G1_a1
    refine W.eq (g2 := F0 m 621 ls [.int (sumA (fallC sn (xs (i + 1)) 400) - sumA sn)]) (congrArg (fun z9 : Int32 => F0 m 621 ls [.int z9]) (show (r618 : Int32) = sumA (fallC sn (xs (i + 1)) 400) - sumA sn from (by rw [e_r618, e_k, sel0]; exact (fall_ans hRB (kFall0 e_k)).symm))) ?_
    refine lv_istore (lv' := [(6, .int (sumA (fallC sn (xs (i + 1)) 400) - sumA sn)), (5, .int 0), (4, .int (nI i)), (3, .ref ou), (2, .ref mo), (1, .ref x), (0, .ref b)]) hx hb dL_law_621 hl (by decide) rfl (fun ls hl => ?_)
    refine lv_aload_n hx hb dL_law_623 rfl (lv_at hl 4 rfl) ?_
    refine z_cr (z_rV (As := []) (rest := []) (ci := 8) (q0 := 11) X J (cX7_thrown_ok l E G2_a0) (cwV 0 hts gL_law_X7_thrown rfl rfl rfl (by decide +kernel) ⟨Nat.le_of_ble_eq_true rfl, Nat.le_of_ble_eq_true rfl⟩) G2_a0 rfl rfl rfl hl.1 rfl (Nat.le_of_ble_eq_true rfl) dL_law_624 ⟨by show _ ≤ 601024; omega, by show _ ≤ 7293034; omega⟩) (fun r624 e_r624 => ?_)
    subst e_r624
    refine lv_iload hx hb dL_law_627 (lv_at hl 1 rfl) ?_
    refine lv_icmp_eq (tgt := 634) hx hb dL_law_629 (by decide) (fun cz629 => ?_) (fun cz629 => by exact (cz629 e_k).elim)
    refine lv_iload hx hb dL_law_634 (lv_at hl 1 rfl) ?_
    refine lv_if_ne (tgt := 651) hx hb dL_law_636 (by decide) (fun cz636 => by exact absurd cz636 (by decide)) (fun cz636 => ?_)
    refine lv_aload_n hx hb dL_law_639 rfl (lv_at hl 3 rfl) ?_
    refine lv_iconst (v := 0) hx hb dL_law_640 (by decide) ?_
    refine z_lald X J 18 G2_18 (vp_in_nI (n := 0) (by decide) (by decide)) dL_law_641 ?_
    refine W.eq (g2 := F0 m 642 ls [.long ((sumA (fallC sn (xs (i + 1)) 400) - sumA sn).toInt64)]) (congrArg (fun z9 : Int64 => F0 m 642 ls [.long z9]) (show ((vp_updL o9 0 (sumA (fallC sn (xs (i + 1)) 400) - sumA sn).toInt64) (0 : Int32).toNatClampNeg : Int64) = (sumA (fallC sn (xs (i + 1)) 400) - sumA sn).toInt64 from rfl)) ?_
    refine lv_iload hx hb dL_law_642 (lv_at hl 0 rfl) ?_
    refine lv_i2l (v := (sumA (fallC sn (xs (i + 1)) 400) - sumA sn).toInt64) hx hb dL_law_644 rfl ?_
    refine W.lcmp hx hb dL_law_645 ?_
    refine W.eq (g2 := F0 m 646 ls [.int 0]) (congrArg (fun z9 : Int32 => F0 m 646 ls [.int z9]) (show (lg_cmp ((sumA (fallC sn (xs (i + 1)) 400) - sumA sn).toInt64) ((sumA (fallC sn (xs (i + 1)) 400) - sumA sn).toInt64) : Int32) = 0 from (lg_cmp_self _))) ?_
    refine lv_if_eq (tgt := 651) hx hb dL_law_646 (by decide) (fun cz646 => ?_) (fun cz646 => by exact absurd cz646 (by decide))
    refine lv_goto (tgt := 1425) hx hb dL_law_651 (by decide) ?_
    refine W.widen (k := cells + 700) (n := slots + 4500) (by omega) (by omega) ?_
    exact kk _ H locs _ ⟨fl, rl, wh, gr, gra, tr, tra, sc, ha, va, mf, md, mi, ms9, mk, mt, ea, eb, nf, nr, mc1, mc2, lim, sup, off, plo, hrs, (kFall (xs (i + 1))), fa, rd, ri, (fallC sn (xs (i + 1)) 400), t9, hf, gf, kp, tp, (vp_updL o9 0 (sumA (fallC sn (xs (i + 1)) 400) - sumA sn).toInt64), G2_0, G2_1, G2_2, G2_3, G2_4, G2_5, G2_6, G2_7, G2_8, G2_9, G2_10, G2_a0, G2_12, G2_13, G2_14, (by have h9 := G2_a1; simp only [e_k, sel0] at h9; rw [fall_eq hRB (kFall0 e_k)]; exact h9), G2_16, G2_17, G2_18, (hF.keep hk (by decide)), (hR.keep hk (by decide)), hSep, hnf, hnr, hok, hor, (fall_RB hRB (kFall0 e_k)), hBI⟩ J (lv_sub hl [2, 3, 4, 5, 6] rfl)
set_option maxHeartbeats 2000000 in
set_option maxRecDepth 100000 in
theorem turn_plough {p : Program} {l : Launch} (hflags : l.flags = flags0) {e : Env} {s : State} {m : MethodId} {below : List Frame} {meth : Method} {c : Code} {b L : Nat} {xs : Nat → Int32} (E : zG) (X : zC E p m c cL_law 9 s #[.ref b] wsL_law RL) (hRz : zR s) (hNz : zNc s) (hXs : va_X b L xs s s.heap) (hbl : b < s.heap.size) (hbA : ¬ zA E b) (hE1 : ¬ zA E E.2.2.1) (hL9 : L ≤ 3584) {QQ : State → Prop} {ws : va_W} {x mo ou i cells slots : Nat} {H : Heap} {locs : List Loc} {ls : Array Slot} (hi : i + 7 ≤ L) (hW : LW E ws x mo ou) (J : zJ E ws s H locs) (hl : lv_has ls 9 [(4, .int (nI i)), (3, .ref ou), (2, .ref mo), (1, .ref x), (0, .ref b)]) (hc9 : cells + 700 ≤ 601024) (hs9 : slots + 4500 ≤ 7293034)
    (kk : ∀ (ws' : va_W) (H' : Heap) (locs' : List Loc) (ls' : Array Slot), LW E ws' x mo ou → zJ E ws' s H' locs' → lv_has ls' 9 [(4, .int (nI i)), (3, .ref ou), (2, .ref mo), (1, .ref x), (0, .ref b)] → W p l e room_1 s m #[.ref b] below meth c H' locs' (cells + 700) (slots + 4500) QQ (F0 m 1425 ls' [])) :
    W p l e room_1 s m #[.ref b] below meth c H locs cells slots QQ (F0 m 734 ls []) := by
  obtain ⟨fl, rl, wh, gr, gra, tr, tra, sc, ha, va, mf, md, mi, ms9, mk, mt, ea, eb, nf, nr, mc1, mc2, lim, sup, off, plo, hrs, th, fa, rd, ri, sn, t9, hf, gf, kp, tp, o9, Fa0, Fa1, Fa2, Fa3, Fa4, Fa5, Fa6, Fa7, Fa8, Fa9, Fa10, Fa11, Fa12, Fa13, Fa14, Fa15, Fa16, Fa17, Fa18, hF, hR, hSep, hnf, hnr, hok, hor, hRB, hBI⟩ := hW
  have hx := X.1.1
  have hb := X.1.2.1
  have hown := X.1.2.2.2.1
  have hts := X.1.2.2.2.2
  have hk : zK [0, 1, 2, 3, 4, 5, 6, 7, 8, 9, 10, 11, 12, 13, 14, 15, 16, 17, 18] ws ws := zK.rf
  have hlen19 := zlt Fa18
  refine lv_aload_n hx hb dL_law_734 rfl (lv_at hl 3 rfl) ?_
  refine lv_aload_n hx hb dL_law_735 rfl (lv_at hl 4 rfl) ?_
  refine lv_iload hx hb dL_law_736 (lv_at hl 0 rfl) ?_
  refine lv_iconst (v := 1) hx hb dL_law_738 (by decide) ?_
  refine lv_iadd hx hb dL_law_739 ?_
  refine W.eq (g2 := F0 m 740 ls [.int (nI (i + 1)), .ref b, .ref x]) (congrArg (fun z9 : Int32 => F0 m 740 ls [.int z9, .ref b, .ref x]) (show ((nI i) + 1 : Int32) = nI (i + 1) from (nI_add i 1))) ?_
  refine va_sld hx hb hXs hbl hbA J.2.2 (vp_in_nI (by omega) (by omega)) dL_law_740 ?_
  refine W.eq (g2 := F0 m 741 ls [.int (xs (i + 1)), .ref x]) (congrArg (fun z9 : Int32 => F0 m 741 ls [.int z9, .ref x]) (show (xs (nI (i + 1)).toNatClampNeg : Int32) = xs (i + 1) from (congrArg xs (nI_clamp (by omega))))) ?_
  refine lv_aload_n hx hb dL_law_741 rfl (lv_at hl 1 rfl) ?_
  refine z_xi J (z_wS (As := [.ref x, .int (xs (i + 1)), .ref ou]) (rest := []) X hRz hNz J (cL_plough_ok l hflags E Fa0 Fa2 Fa4 Fa5 Fa18 (by first | assumption | omega | decide) (by first | assumption | omega | decide)) (vx_cwSW (hh := [(0, 9, 12, 15)]) 3 hts gL_law_L_plough rfl rfl rfl (by decide +kernel) ⟨Nat.le_of_ble_eq_true rfl, Nat.le_of_ble_eq_true rfl⟩) rfl hl.1 rfl (Nat.le_of_ble_eq_true rfl) dL_law_742 ⟨by show _ ≤ 601024; omega, by show _ ≤ 7293034; omega⟩) (fun nm ce q9 H locs hp9 J h1 h2 h3 => ?_) (fun r742 ws_1 H locs hp9 J => ?_)
  · exact False.elim (by exact hp9)
  rcases hp9 with ⟨e_v, e_k, rfl⟩ | ⟨e_v, e_k, k1, G1_a0, G1_a1, G1_a2⟩
  · subst e_v
    refine lv_istore (lv' := [(5, .int (kIdx (xs (i + 1)) (nI nr))), (4, .int (nI i)), (3, .ref ou), (2, .ref mo), (1, .ref x), (0, .ref b)]) hx hb dL_law_745 hl (by decide) rfl (fun ls hl => ?_)
    refine lv_aload_n hx hb dL_law_747 rfl (lv_at hl 3 rfl) ?_
    refine lv_aload_n hx hb dL_law_748 rfl (lv_at hl 5 rfl) ?_
    refine lv_iload hx hb dL_law_749 (lv_at hl 1 rfl) ?_
    refine lv_iconst (v := 1) hx hb dL_law_751 (by decide) ?_
    refine lv_iadd hx hb dL_law_752 ?_
    refine W.eq (g2 := F0 m 753 ls [.int (nI (i + 1)), .ref b, .ref mo]) (congrArg (fun z9 : Int32 => F0 m 753 ls [.int z9, .ref b, .ref mo]) (show ((nI i) + 1 : Int32) = nI (i + 1) from (nI_add i 1))) ?_
    refine va_sld hx hb hXs hbl hbA J.2.2 (vp_in_nI (by omega) (by omega)) dL_law_753 ?_
    refine W.eq (g2 := F0 m 754 ls [.int (xs (i + 1)), .ref mo]) (congrArg (fun z9 : Int32 => F0 m 754 ls [.int z9, .ref mo]) (show (xs (nI (i + 1)).toNatClampNeg : Int32) = xs (i + 1) from (congrArg xs (nI_clamp (by omega))))) ?_
    refine z_ci J (z_rV (As := [.int (xs (i + 1))]) (rest := []) (ci := 8) (q0 := 11) X J (cX7_plough_ok l E Fa11 Fa13 Fa14 Fa15 (by first | assumption | omega | decide) (by first | assumption | omega | decide)) (cwV 1 hts gL_law_X7_plough rfl rfl rfl (by decide +kernel) ⟨Nat.le_of_ble_eq_true rfl, Nat.le_of_ble_eq_true rfl⟩) Fa11 rfl rfl rfl hl.1 rfl (Nat.le_of_ble_eq_true rfl) dL_law_754 ⟨by show _ ≤ 601024; omega, by show _ ≤ 7293034; omega⟩) (fun r754 ws_2 H locs hp9 J => ?_)
    obtain ⟨k2, G2_a0, G2_a1, e_r754⟩ := hp9
    have hk := hk.trans (k2.mono (by decide))
    have G2_0 := k2.2 0 _ (by decide) Fa0
    have G2_1 := k2.2 1 _ (by decide) Fa1
    have G2_2 := k2.2 2 _ (by decide) Fa2
    have G2_3 := k2.2 3 _ (by decide) Fa3
    have G2_4 := k2.2 4 _ (by decide) Fa4
    have G2_5 := k2.2 5 _ (by decide) Fa5
    have G2_6 := k2.2 6 _ (by decide) Fa6
    have G2_7 := k2.2 7 _ (by decide) Fa7
    have G2_8 := k2.2 8 _ (by decide) Fa8
    have G2_9 := k2.2 9 _ (by decide) Fa9
    have G2_10 := k2.2 10 _ (by decide) Fa10
    have G2_12 := k2.2 12 _ (by decide) Fa12
    have G2_13 := k2.2 13 _ (by decide) Fa13
    have G2_14 := k2.2 14 _ (by decide) Fa14
    have G2_16 := k2.2 16 _ (by decide) Fa16
    have G2_17 := k2.2 17 _ (by decide) Fa17
    have G2_18 := k2.2 18 _ (by decide) Fa18
    refine lv_istore (lv' := [(6, .int r754), (5, .int (kIdx (xs (i + 1)) (nI nr))), (4, .int (nI i)), (3, .ref ou), (2, .ref mo), (1, .ref x), (0, .ref b)]) hx hb dL_law_757 hl (by decide) rfl (fun ls hl => ?_)
    refine lv_aload_n hx hb dL_law_759 rfl (lv_at hl 4 rfl) ?_
    refine z_cr (z_rV (As := []) (rest := []) (ci := 8) (q0 := 11) X J (cX7_thrown_ok l E G2_a0) (cwV 0 hts gL_law_X7_thrown rfl rfl rfl (by decide +kernel) ⟨Nat.le_of_ble_eq_true rfl, Nat.le_of_ble_eq_true rfl⟩) G2_a0 rfl rfl rfl hl.1 rfl (Nat.le_of_ble_eq_true rfl) dL_law_760 ⟨by show _ ≤ 601024; omega, by show _ ≤ 7293034; omega⟩) (fun r760 e_r760 => ?_)
    subst e_r760
    refine lv_iload hx hb dL_law_763 (lv_at hl 1 rfl) ?_
    refine lv_icmp_eq (tgt := 770) hx hb dL_law_765 (by decide) (fun cz765 => ?_) (fun cz765 => by exact (cz765 rfl).elim)
    refine lv_iload hx hb dL_law_770 (lv_at hl 1 rfl) ?_
    refine lv_if_ne (tgt := 787) hx hb dL_law_772 (by decide) (fun cz772 => ?_) (fun cz772 => by exact (e_k cz772).elim)
    refine lv_goto (tgt := 1425) hx hb dL_law_787 (by decide) ?_
    refine W.widen (k := cells + 700) (n := slots + 4500) (by omega) (by omega) ?_
    exact kk _ H locs _ ⟨fl, rl, wh, gr, gra, tr, tra, sc, ha, va, mf, md, mi, ms9, mk, mt, ea, eb, nf, nr, mc1, mc2, lim, sup, off, plo, hrs, (kIdx (xs (i + 1)) (nI nr)), fa, rd, ri, sn, t9, hf, gf, kp, tp, o9, G2_0, G2_1, G2_2, G2_3, G2_4, G2_5, G2_6, G2_7, G2_8, G2_9, G2_10, (by simpa only [selN e_k] using G2_a0), G2_12, G2_13, G2_14, (by simpa only [selN e_k] using G2_a1), G2_16, G2_17, G2_18, (hF.keep hk (by decide)), (hR.keep hk (by decide)), hSep, hnf, hnr, hok, hor, hRB, hBI⟩ J (lv_sub hl [2, 3, 4, 5, 6] rfl)
  · subst e_v
    have hk := hk.trans (k1.mono (by decide))
    have G1_1 := k1.2 1 _ (by decide) Fa1
    have G1_2 := k1.2 2 _ (by decide) Fa2
    have G1_3 := k1.2 3 _ (by decide) Fa3
    have G1_4 := k1.2 4 _ (by decide) Fa4
    have G1_6 := k1.2 6 _ (by decide) Fa6
    have G1_7 := k1.2 7 _ (by decide) Fa7
    have G1_8 := k1.2 8 _ (by decide) Fa8
    have G1_9 := k1.2 9 _ (by decide) Fa9
    have G1_10 := k1.2 10 _ (by decide) Fa10
    have G1_11 := k1.2 11 _ (by decide) Fa11
    have G1_12 := k1.2 12 _ (by decide) Fa12
    have G1_13 := k1.2 13 _ (by decide) Fa13
    have G1_14 := k1.2 14 _ (by decide) Fa14
    have G1_15 := k1.2 15 _ (by decide) Fa15
    have G1_16 := k1.2 16 _ (by decide) Fa16
    have G1_17 := k1.2 17 _ (by decide) Fa17
    refine lv_istore (lv' := [(5, .int 0), (4, .int (nI i)), (3, .ref ou), (2, .ref mo), (1, .ref x), (0, .ref b)]) hx hb dL_law_745 hl (by decide) rfl (fun ls hl => ?_)
    refine lv_aload_n hx hb dL_law_747 rfl (lv_at hl 3 rfl) ?_
    refine lv_aload_n hx hb dL_law_748 rfl (lv_at hl 5 rfl) ?_
    refine lv_iload hx hb dL_law_749 (lv_at hl 1 rfl) ?_
    refine lv_iconst (v := 1) hx hb dL_law_751 (by decide) ?_
    refine lv_iadd hx hb dL_law_752 ?_
    refine W.eq (g2 := F0 m 753 ls [.int (nI (i + 1)), .ref b, .ref mo]) (congrArg (fun z9 : Int32 => F0 m 753 ls [.int z9, .ref b, .ref mo]) (show ((nI i) + 1 : Int32) = nI (i + 1) from (nI_add i 1))) ?_
    refine va_sld hx hb hXs hbl hbA J.2.2 (vp_in_nI (by omega) (by omega)) dL_law_753 ?_
    refine W.eq (g2 := F0 m 754 ls [.int (xs (i + 1)), .ref mo]) (congrArg (fun z9 : Int32 => F0 m 754 ls [.int z9, .ref mo]) (show (xs (nI (i + 1)).toNatClampNeg : Int32) = xs (i + 1) from (congrArg xs (nI_clamp (by omega))))) ?_
    refine z_ci J (z_rV (As := [.int (xs (i + 1))]) (rest := []) (ci := 8) (q0 := 11) X J (cX7_plough_ok l E G1_11 G1_13 G1_14 G1_15 (by first | assumption | omega | decide) (by first | assumption | omega | decide)) (cwV 1 hts gL_law_X7_plough rfl rfl rfl (by decide +kernel) ⟨Nat.le_of_ble_eq_true rfl, Nat.le_of_ble_eq_true rfl⟩) G1_11 rfl rfl rfl hl.1 rfl (Nat.le_of_ble_eq_true rfl) dL_law_754 ⟨by show _ ≤ 601024; omega, by show _ ≤ 7293034; omega⟩) (fun r754 ws_2 H locs hp9 J => ?_)
    obtain ⟨k2, G2_a0, G2_a1, e_r754⟩ := hp9
    have hk := hk.trans (k2.mono (by decide))
    have G2_0 := k2.2 0 _ (by decide) G1_a0
    have G2_1 := k2.2 1 _ (by decide) G1_1
    have G2_2 := k2.2 2 _ (by decide) G1_2
    have G2_3 := k2.2 3 _ (by decide) G1_3
    have G2_4 := k2.2 4 _ (by decide) G1_4
    have G2_5 := k2.2 5 _ (by decide) G1_a1
    have G2_6 := k2.2 6 _ (by decide) G1_6
    have G2_7 := k2.2 7 _ (by decide) G1_7
    have G2_8 := k2.2 8 _ (by decide) G1_8
    have G2_9 := k2.2 9 _ (by decide) G1_9
    have G2_10 := k2.2 10 _ (by decide) G1_10
    have G2_12 := k2.2 12 _ (by decide) G1_12
    have G2_13 := k2.2 13 _ (by decide) G1_13
    have G2_14 := k2.2 14 _ (by decide) G1_14
    have G2_16 := k2.2 16 _ (by decide) G1_16
    have G2_17 := k2.2 17 _ (by decide) G1_17
    have G2_18 := k2.2 18 _ (by decide) G1_a2
    refine W.eq (g2 := F0 m 757 ls [.int (sumG sn (rfi (rd (xs (i + 1)).toNatClampNeg) (ri (xs (i + 1)).toNatClampNeg)) (rd (xs (i + 1)).toNatClampNeg) 20)]) (congrArg (fun z9 : Int32 => F0 m 757 ls [.int z9]) (show (r754 : Int32) = sumG sn (rfi (rd (xs (i + 1)).toNatClampNeg) (ri (xs (i + 1)).toNatClampNeg)) (rd (xs (i + 1)).toNatClampNeg) 20 from (by rw [e_r754, e_k, sel0]))) ?_
    refine lv_istore (lv' := [(6, .int (sumG sn (rfi (rd (xs (i + 1)).toNatClampNeg) (ri (xs (i + 1)).toNatClampNeg)) (rd (xs (i + 1)).toNatClampNeg) 20)), (5, .int 0), (4, .int (nI i)), (3, .ref ou), (2, .ref mo), (1, .ref x), (0, .ref b)]) hx hb dL_law_757 hl (by decide) rfl (fun ls hl => ?_)
    refine lv_aload_n hx hb dL_law_759 rfl (lv_at hl 4 rfl) ?_
    refine z_cr (z_rV (As := []) (rest := []) (ci := 8) (q0 := 11) X J (cX7_thrown_ok l E G2_a0) (cwV 0 hts gL_law_X7_thrown rfl rfl rfl (by decide +kernel) ⟨Nat.le_of_ble_eq_true rfl, Nat.le_of_ble_eq_true rfl⟩) G2_a0 rfl rfl rfl hl.1 rfl (Nat.le_of_ble_eq_true rfl) dL_law_760 ⟨by show _ ≤ 601024; omega, by show _ ≤ 7293034; omega⟩) (fun r760 e_r760 => ?_)
    subst e_r760
    refine lv_iload hx hb dL_law_763 (lv_at hl 1 rfl) ?_
    refine lv_icmp_eq (tgt := 770) hx hb dL_law_765 (by decide) (fun cz765 => ?_) (fun cz765 => by exact (cz765 e_k).elim)
    refine lv_iload hx hb dL_law_770 (lv_at hl 1 rfl) ?_
    refine lv_if_ne (tgt := 787) hx hb dL_law_772 (by decide) (fun cz772 => by exact absurd cz772 (by decide)) (fun cz772 => ?_)
    refine lv_aload_n hx hb dL_law_775 rfl (lv_at hl 3 rfl) ?_
    refine lv_iconst (v := 0) hx hb dL_law_776 (by decide) ?_
    refine z_lald X J 18 G2_18 (vp_in_nI (n := 0) (by decide) (by decide)) dL_law_777 ?_
    refine W.eq (g2 := F0 m 778 ls [.long ((sumG sn (rfi (rd (xs (i + 1)).toNatClampNeg) (ri (xs (i + 1)).toNatClampNeg)) (rd (xs (i + 1)).toNatClampNeg) 20).toInt64)]) (congrArg (fun z9 : Int64 => F0 m 778 ls [.long z9]) (show ((vp_updL o9 0 (sumG sn (rfi (rd (xs (i + 1)).toNatClampNeg) (ri (xs (i + 1)).toNatClampNeg)) (rd (xs (i + 1)).toNatClampNeg) 20).toInt64) (0 : Int32).toNatClampNeg : Int64) = (sumG sn (rfi (rd (xs (i + 1)).toNatClampNeg) (ri (xs (i + 1)).toNatClampNeg)) (rd (xs (i + 1)).toNatClampNeg) 20).toInt64 from rfl)) ?_
    refine lv_iload hx hb dL_law_778 (lv_at hl 0 rfl) ?_
    refine lv_i2l (v := (sumG sn (rfi (rd (xs (i + 1)).toNatClampNeg) (ri (xs (i + 1)).toNatClampNeg)) (rd (xs (i + 1)).toNatClampNeg) 20).toInt64) hx hb dL_law_780 rfl ?_
    refine W.lcmp hx hb dL_law_781 ?_
    refine W.eq (g2 := F0 m 782 ls [.int 0]) (congrArg (fun z9 : Int32 => F0 m 782 ls [.int z9]) (show (lg_cmp ((sumG sn (rfi (rd (xs (i + 1)).toNatClampNeg) (ri (xs (i + 1)).toNatClampNeg)) (rd (xs (i + 1)).toNatClampNeg) 20).toInt64) ((sumG sn (rfi (rd (xs (i + 1)).toNatClampNeg) (ri (xs (i + 1)).toNatClampNeg)) (rd (xs (i + 1)).toNatClampNeg) 20).toInt64) : Int32) = 0 from (lg_cmp_self _))) ?_
    refine lv_if_eq (tgt := 787) hx hb dL_law_782 (by decide) (fun cz782 => ?_) (fun cz782 => by exact absurd cz782 (by decide))
    refine lv_goto (tgt := 1425) hx hb dL_law_787 (by decide) ?_
    refine W.widen (k := cells + 700) (n := slots + 4500) (by omega) (by omega) ?_
    exact kk _ H locs _ ⟨fl, rl, wh, gr, gra, tr, tra, sc, ha, va, mf, md, mi, ms9, mk, mt, ea, eb, nf, nr, mc1, mc2, lim, sup, off, (plo + sumG sn (rfi (rd (xs (i + 1)).toNatClampNeg) (ri (xs (i + 1)).toNatClampNeg)) (rd (xs (i + 1)).toNatClampNeg) 20), hrs, (kIdx (xs (i + 1)) (nI nr)), fa, rd, ri, (clrG sn (rfi (rd (xs (i + 1)).toNatClampNeg) (ri (xs (i + 1)).toNatClampNeg)) (rd (xs (i + 1)).toNatClampNeg) 20), t9, hf, gf, kp, tp, (vp_updL o9 0 (sumG sn (rfi (rd (xs (i + 1)).toNatClampNeg) (ri (xs (i + 1)).toNatClampNeg)) (rd (xs (i + 1)).toNatClampNeg) 20).toInt64), G2_0, G2_1, G2_2, G2_3, G2_4, G2_5, G2_6, G2_7, G2_8, G2_9, G2_10, (by simpa only [e_k, sel0] using G2_a0), G2_12, G2_13, G2_14, (by simpa only [e_k, sel0] using G2_a1), G2_16, G2_17, G2_18, (hF.keep hk (by decide)), (hR.keep hk (by decide)), hSep, hnf, hnr, hok, hor, (clrG_I hRB _), hBI⟩ J (lv_sub hl [2, 3, 4, 5, 6] rfl)
set_option maxHeartbeats 2000000 in
set_option maxRecDepth 100000 in
theorem turn_snow {p : Program} {l : Launch} (hflags : l.flags = flags0) {e : Env} {s : State} {m : MethodId} {below : List Frame} {meth : Method} {c : Code} {b L : Nat} {xs : Nat → Int32} (E : zG) (X : zC E p m c cL_law 9 s #[.ref b] wsL_law RL) (hRz : zR s) (hNz : zNc s) (hXs : va_X b L xs s s.heap) (hbl : b < s.heap.size) (hbA : ¬ zA E b) (hE1 : ¬ zA E E.2.2.1) (hL9 : L ≤ 3584) {QQ : State → Prop} {ws : va_W} {x mo ou i cells slots : Nat} {H : Heap} {locs : List Loc} {ls : Array Slot} (hi : i + 7 ≤ L) (hW : LW E ws x mo ou) (J : zJ E ws s H locs) (hl : lv_has ls 9 [(4, .int (nI i)), (3, .ref ou), (2, .ref mo), (1, .ref x), (0, .ref b)]) (hc9 : cells + 700 ≤ 601024) (hs9 : slots + 4500 ≤ 7293034)
    (kk : ∀ (ws' : va_W) (H' : Heap) (locs' : List Loc) (ls' : Array Slot), LW E ws' x mo ou → zJ E ws' s H' locs' → lv_has ls' 9 [(4, .int (nI i)), (3, .ref ou), (2, .ref mo), (1, .ref x), (0, .ref b)] → W p l e room_1 s m #[.ref b] below meth c H' locs' (cells + 700) (slots + 4500) QQ (F0 m 1425 ls' [])) :
    W p l e room_1 s m #[.ref b] below meth c H locs cells slots QQ (F0 m 790 ls []) := by
  obtain ⟨fl, rl, wh, gr, gra, tr, tra, sc, ha, va, mf, md, mi, ms9, mk, mt, ea, eb, nf, nr, mc1, mc2, lim, sup, off, plo, hrs, th, fa, rd, ri, sn, t9, hf, gf, kp, tp, o9, Fa0, Fa1, Fa2, Fa3, Fa4, Fa5, Fa6, Fa7, Fa8, Fa9, Fa10, Fa11, Fa12, Fa13, Fa14, Fa15, Fa16, Fa17, Fa18, hF, hR, hSep, hnf, hnr, hok, hor, hRB, hBI⟩ := hW
  have hx := X.1.1
  have hb := X.1.2.1
  have hown := X.1.2.2.2.1
  have hts := X.1.2.2.2.2
  have hk : zK [0, 1, 2, 3, 4, 5, 6, 7, 8, 9, 10, 11, 12, 13, 14, 15, 16, 17, 18] ws ws := zK.rf
  have hlen19 := zlt Fa18
  refine lv_aload_n hx hb dL_law_790 rfl (lv_at hl 3 rfl) ?_
  refine lv_aload_n hx hb dL_law_791 rfl (lv_at hl 4 rfl) ?_
  refine lv_iload hx hb dL_law_792 (lv_at hl 0 rfl) ?_
  refine lv_iconst (v := 1) hx hb dL_law_794 (by decide) ?_
  refine lv_iadd hx hb dL_law_795 ?_
  refine W.eq (g2 := F0 m 796 ls [.int (nI (i + 1)), .ref b, .ref x]) (congrArg (fun z9 : Int32 => F0 m 796 ls [.int z9, .ref b, .ref x]) (show ((nI i) + 1 : Int32) = nI (i + 1) from (nI_add i 1))) ?_
  refine va_sld hx hb hXs hbl hbA J.2.2 (vp_in_nI (by omega) (by omega)) dL_law_796 ?_
  refine W.eq (g2 := F0 m 797 ls [.int (xs (i + 1)), .ref x]) (congrArg (fun z9 : Int32 => F0 m 797 ls [.int z9, .ref x]) (show (xs (nI (i + 1)).toNatClampNeg : Int32) = xs (i + 1) from (congrArg xs (nI_clamp (by omega))))) ?_
  refine lv_aload_n hx hb dL_law_797 rfl (lv_at hl 4 rfl) ?_
  refine lv_iload hx hb dL_law_798 (lv_at hl 0 rfl) ?_
  refine lv_iconst (v := 2) hx hb dL_law_800 (by decide) ?_
  refine lv_iadd hx hb dL_law_801 ?_
  refine W.eq (g2 := F0 m 802 ls [.int (nI (i + 2)), .ref b, .int (xs (i + 1)), .ref x]) (congrArg (fun z9 : Int32 => F0 m 802 ls [.int z9, .ref b, .int (xs (i + 1)), .ref x]) (show ((nI i) + 2 : Int32) = nI (i + 2) from (nI_add i 2))) ?_
  refine va_sld hx hb hXs hbl hbA J.2.2 (vp_in_nI (by omega) (by omega)) dL_law_802 ?_
  refine W.eq (g2 := F0 m 803 ls [.int (xs (i + 2)), .int (xs (i + 1)), .ref x]) (congrArg (fun z9 : Int32 => F0 m 803 ls [.int z9, .int (xs (i + 1)), .ref x]) (show (xs (nI (i + 2)).toNatClampNeg : Int32) = xs (i + 2) from (congrArg xs (nI_clamp (by omega))))) ?_
  refine lv_aload_n hx hb dL_law_803 rfl (lv_at hl 1 rfl) ?_
  refine z_xi J (z_wS (As := [.ref x, .int (xs (i + 1)), .int (xs (i + 2)), .ref ou]) (rest := []) X hRz hNz J (cL_snow_ok l hflags E Fa0 Fa4 Fa5 Fa18) (vx_cwSW (hh := [(0, 10, 13, 15)]) 4 hts gL_law_L_snow rfl rfl rfl (by decide +kernel) ⟨Nat.le_of_ble_eq_true rfl, Nat.le_of_ble_eq_true rfl⟩) rfl hl.1 rfl (Nat.le_of_ble_eq_true rfl) dL_law_804 ⟨by show _ ≤ 601024; omega, by show _ ≤ 7293034; omega⟩) (fun nm ce q9 H locs hp9 J h1 h2 h3 => ?_) (fun r804 ws_1 H locs hp9 J => ?_)
  · exact False.elim (by exact hp9)
  rcases hp9 with ⟨e_v, e_k, rfl⟩ | ⟨e_v, e_k, k1, G1_a0⟩
  · subst e_v
    refine lv_istore (lv' := [(5, .int (kSnow (xs (i + 1)) (xs (i + 2)))), (4, .int (nI i)), (3, .ref ou), (2, .ref mo), (1, .ref x), (0, .ref b)]) hx hb dL_law_807 hl (by decide) rfl (fun ls hl => ?_)
    refine lv_aload_n hx hb dL_law_809 rfl (lv_at hl 3 rfl) ?_
    refine lv_aload_n hx hb dL_law_810 rfl (lv_at hl 5 rfl) ?_
    refine lv_iload hx hb dL_law_811 (lv_at hl 1 rfl) ?_
    refine lv_iconst (v := 1) hx hb dL_law_813 (by decide) ?_
    refine lv_iadd hx hb dL_law_814 ?_
    refine W.eq (g2 := F0 m 815 ls [.int (nI (i + 1)), .ref b, .ref mo]) (congrArg (fun z9 : Int32 => F0 m 815 ls [.int z9, .ref b, .ref mo]) (show ((nI i) + 1 : Int32) = nI (i + 1) from (nI_add i 1))) ?_
    refine va_sld hx hb hXs hbl hbA J.2.2 (vp_in_nI (by omega) (by omega)) dL_law_815 ?_
    refine W.eq (g2 := F0 m 816 ls [.int (xs (i + 1)), .ref mo]) (congrArg (fun z9 : Int32 => F0 m 816 ls [.int z9, .ref mo]) (show (xs (nI (i + 1)).toNatClampNeg : Int32) = xs (i + 1) from (congrArg xs (nI_clamp (by omega))))) ?_
    refine lv_aload_n hx hb dL_law_816 rfl (lv_at hl 5 rfl) ?_
    refine lv_iload hx hb dL_law_817 (lv_at hl 1 rfl) ?_
    refine lv_iconst (v := 2) hx hb dL_law_819 (by decide) ?_
    refine lv_iadd hx hb dL_law_820 ?_
    refine W.eq (g2 := F0 m 821 ls [.int (nI (i + 2)), .ref b, .int (xs (i + 1)), .ref mo]) (congrArg (fun z9 : Int32 => F0 m 821 ls [.int z9, .ref b, .int (xs (i + 1)), .ref mo]) (show ((nI i) + 2 : Int32) = nI (i + 2) from (nI_add i 2))) ?_
    refine va_sld hx hb hXs hbl hbA J.2.2 (vp_in_nI (by omega) (by omega)) dL_law_821 ?_
    refine W.eq (g2 := F0 m 822 ls [.int (xs (i + 2)), .int (xs (i + 1)), .ref mo]) (congrArg (fun z9 : Int32 => F0 m 822 ls [.int z9, .int (xs (i + 1)), .ref mo]) (show (xs (nI (i + 2)).toNatClampNeg : Int32) = xs (i + 2) from (congrArg xs (nI_clamp (by omega))))) ?_
    refine z_ci J (z_rV (As := [.int (xs (i + 1)), .int (xs (i + 2))]) (rest := []) (ci := 8) (q0 := 11) X J (cX7_snow_ok l E Fa11 Fa15) (cwV 2 hts gL_law_X7_snow rfl rfl rfl (by decide +kernel) ⟨Nat.le_of_ble_eq_true rfl, Nat.le_of_ble_eq_true rfl⟩) Fa11 rfl rfl rfl hl.1 rfl (Nat.le_of_ble_eq_true rfl) dL_law_822 ⟨by show _ ≤ 601024; omega, by show _ ≤ 7293034; omega⟩) (fun r822 ws_2 H locs hp9 J => ?_)
    obtain ⟨k2, G2_a0, e_r822⟩ := hp9
    have hk := hk.trans (k2.mono (by decide))
    have G2_0 := k2.2 0 _ (by decide) Fa0
    have G2_1 := k2.2 1 _ (by decide) Fa1
    have G2_2 := k2.2 2 _ (by decide) Fa2
    have G2_3 := k2.2 3 _ (by decide) Fa3
    have G2_4 := k2.2 4 _ (by decide) Fa4
    have G2_5 := k2.2 5 _ (by decide) Fa5
    have G2_6 := k2.2 6 _ (by decide) Fa6
    have G2_7 := k2.2 7 _ (by decide) Fa7
    have G2_8 := k2.2 8 _ (by decide) Fa8
    have G2_9 := k2.2 9 _ (by decide) Fa9
    have G2_10 := k2.2 10 _ (by decide) Fa10
    have G2_12 := k2.2 12 _ (by decide) Fa12
    have G2_13 := k2.2 13 _ (by decide) Fa13
    have G2_14 := k2.2 14 _ (by decide) Fa14
    have G2_15 := k2.2 15 _ (by decide) Fa15
    have G2_16 := k2.2 16 _ (by decide) Fa16
    have G2_17 := k2.2 17 _ (by decide) Fa17
    have G2_18 := k2.2 18 _ (by decide) Fa18
    refine lv_istore (lv' := [(6, .int r822), (5, .int (kSnow (xs (i + 1)) (xs (i + 2)))), (4, .int (nI i)), (3, .ref ou), (2, .ref mo), (1, .ref x), (0, .ref b)]) hx hb dL_law_825 hl (by decide) rfl (fun ls hl => ?_)
    refine lv_aload_n hx hb dL_law_827 rfl (lv_at hl 4 rfl) ?_
    refine z_cr (z_rV (As := []) (rest := []) (ci := 8) (q0 := 11) X J (cX7_thrown_ok l E G2_a0) (cwV 0 hts gL_law_X7_thrown rfl rfl rfl (by decide +kernel) ⟨Nat.le_of_ble_eq_true rfl, Nat.le_of_ble_eq_true rfl⟩) G2_a0 rfl rfl rfl hl.1 rfl (Nat.le_of_ble_eq_true rfl) dL_law_828 ⟨by show _ ≤ 601024; omega, by show _ ≤ 7293034; omega⟩) (fun r828 e_r828 => ?_)
    subst e_r828
    refine lv_iload hx hb dL_law_831 (lv_at hl 1 rfl) ?_
    refine lv_icmp_eq (tgt := 838) hx hb dL_law_833 (by decide) (fun cz833 => ?_) (fun cz833 => by exact (cz833 rfl).elim)
    refine lv_iload hx hb dL_law_838 (lv_at hl 1 rfl) ?_
    refine lv_if_ne (tgt := 855) hx hb dL_law_840 (by decide) (fun cz840 => ?_) (fun cz840 => by exact (e_k cz840).elim)
    refine lv_goto (tgt := 1425) hx hb dL_law_855 (by decide) ?_
    refine W.widen (k := cells + 700) (n := slots + 4500) (by omega) (by omega) ?_
    exact kk _ H locs _ ⟨fl, rl, wh, gr, gra, tr, tra, sc, ha, va, mf, md, mi, ms9, mk, mt, ea, eb, nf, nr, mc1, mc2, lim, sup, off, plo, hrs, (kSnow (xs (i + 1)) (xs (i + 2))), fa, rd, ri, sn, t9, hf, gf, kp, tp, o9, G2_0, G2_1, G2_2, G2_3, G2_4, G2_5, G2_6, G2_7, G2_8, G2_9, G2_10, G2_a0, G2_12, G2_13, G2_14, G2_15, G2_16, G2_17, G2_18, (hF.keep hk (by decide)), (hR.keep hk (by decide)), hSep, hnf, hnr, hok, hor, hRB, hBI⟩ J (lv_sub hl [2, 3, 4, 5, 6] rfl)
  · subst e_v
    have hk := hk.trans (k1.mono (by decide))
    have G1_0 := k1.2 0 _ (by decide) Fa0
    have G1_1 := k1.2 1 _ (by decide) Fa1
    have G1_2 := k1.2 2 _ (by decide) Fa2
    have G1_3 := k1.2 3 _ (by decide) Fa3
    have G1_4 := k1.2 4 _ (by decide) Fa4
    have G1_5 := k1.2 5 _ (by decide) Fa5
    have G1_6 := k1.2 6 _ (by decide) Fa6
    have G1_7 := k1.2 7 _ (by decide) Fa7
    have G1_8 := k1.2 8 _ (by decide) Fa8
    have G1_9 := k1.2 9 _ (by decide) Fa9
    have G1_10 := k1.2 10 _ (by decide) Fa10
    have G1_11 := k1.2 11 _ (by decide) Fa11
    have G1_12 := k1.2 12 _ (by decide) Fa12
    have G1_13 := k1.2 13 _ (by decide) Fa13
    have G1_14 := k1.2 14 _ (by decide) Fa14
    have G1_15 := k1.2 15 _ (by decide) Fa15
    have G1_16 := k1.2 16 _ (by decide) Fa16
    have G1_17 := k1.2 17 _ (by decide) Fa17
    refine lv_istore (lv' := [(5, .int 0), (4, .int (nI i)), (3, .ref ou), (2, .ref mo), (1, .ref x), (0, .ref b)]) hx hb dL_law_807 hl (by decide) rfl (fun ls hl => ?_)
    refine lv_aload_n hx hb dL_law_809 rfl (lv_at hl 3 rfl) ?_
    refine lv_aload_n hx hb dL_law_810 rfl (lv_at hl 5 rfl) ?_
    refine lv_iload hx hb dL_law_811 (lv_at hl 1 rfl) ?_
    refine lv_iconst (v := 1) hx hb dL_law_813 (by decide) ?_
    refine lv_iadd hx hb dL_law_814 ?_
    refine W.eq (g2 := F0 m 815 ls [.int (nI (i + 1)), .ref b, .ref mo]) (congrArg (fun z9 : Int32 => F0 m 815 ls [.int z9, .ref b, .ref mo]) (show ((nI i) + 1 : Int32) = nI (i + 1) from (nI_add i 1))) ?_
    refine va_sld hx hb hXs hbl hbA J.2.2 (vp_in_nI (by omega) (by omega)) dL_law_815 ?_
    refine W.eq (g2 := F0 m 816 ls [.int (xs (i + 1)), .ref mo]) (congrArg (fun z9 : Int32 => F0 m 816 ls [.int z9, .ref mo]) (show (xs (nI (i + 1)).toNatClampNeg : Int32) = xs (i + 1) from (congrArg xs (nI_clamp (by omega))))) ?_
    refine lv_aload_n hx hb dL_law_816 rfl (lv_at hl 5 rfl) ?_
    refine lv_iload hx hb dL_law_817 (lv_at hl 1 rfl) ?_
    refine lv_iconst (v := 2) hx hb dL_law_819 (by decide) ?_
    refine lv_iadd hx hb dL_law_820 ?_
    refine W.eq (g2 := F0 m 821 ls [.int (nI (i + 2)), .ref b, .int (xs (i + 1)), .ref mo]) (congrArg (fun z9 : Int32 => F0 m 821 ls [.int z9, .ref b, .int (xs (i + 1)), .ref mo]) (show ((nI i) + 2 : Int32) = nI (i + 2) from (nI_add i 2))) ?_
    refine va_sld hx hb hXs hbl hbA J.2.2 (vp_in_nI (by omega) (by omega)) dL_law_821 ?_
    refine W.eq (g2 := F0 m 822 ls [.int (xs (i + 2)), .int (xs (i + 1)), .ref mo]) (congrArg (fun z9 : Int32 => F0 m 822 ls [.int z9, .int (xs (i + 1)), .ref mo]) (show (xs (nI (i + 2)).toNatClampNeg : Int32) = xs (i + 2) from (congrArg xs (nI_clamp (by omega))))) ?_
    refine z_ci J (z_rV (As := [.int (xs (i + 1)), .int (xs (i + 2))]) (rest := []) (ci := 8) (q0 := 11) X J (cX7_snow_ok l E G1_11 G1_15) (cwV 2 hts gL_law_X7_snow rfl rfl rfl (by decide +kernel) ⟨Nat.le_of_ble_eq_true rfl, Nat.le_of_ble_eq_true rfl⟩) G1_11 rfl rfl rfl hl.1 rfl (Nat.le_of_ble_eq_true rfl) dL_law_822 ⟨by show _ ≤ 601024; omega, by show _ ≤ 7293034; omega⟩) (fun r822 ws_2 H locs hp9 J => ?_)
    obtain ⟨k2, G2_a0, e_r822⟩ := hp9
    have hk := hk.trans (k2.mono (by decide))
    have G2_0 := k2.2 0 _ (by decide) G1_0
    have G2_1 := k2.2 1 _ (by decide) G1_1
    have G2_2 := k2.2 2 _ (by decide) G1_2
    have G2_3 := k2.2 3 _ (by decide) G1_3
    have G2_4 := k2.2 4 _ (by decide) G1_4
    have G2_5 := k2.2 5 _ (by decide) G1_5
    have G2_6 := k2.2 6 _ (by decide) G1_6
    have G2_7 := k2.2 7 _ (by decide) G1_7
    have G2_8 := k2.2 8 _ (by decide) G1_8
    have G2_9 := k2.2 9 _ (by decide) G1_9
    have G2_10 := k2.2 10 _ (by decide) G1_10
    have G2_12 := k2.2 12 _ (by decide) G1_12
    have G2_13 := k2.2 13 _ (by decide) G1_13
    have G2_14 := k2.2 14 _ (by decide) G1_14
    have G2_15 := k2.2 15 _ (by decide) G1_15
    have G2_16 := k2.2 16 _ (by decide) G1_16
    have G2_17 := k2.2 17 _ (by decide) G1_17
    have G2_18 := k2.2 18 _ (by decide) G1_a0
    refine W.eq (g2 := F0 m 825 ls [.int (gd sn ((xs (i + 2)) * 20 + (xs (i + 1))))]) (congrArg (fun z9 : Int32 => F0 m 825 ls [.int z9]) (show (r822 : Int32) = gd sn ((xs (i + 2)) * 20 + (xs (i + 1))) from (by rw [e_r822, e_k, sel0]))) ?_
    refine lv_istore (lv' := [(6, .int (gd sn ((xs (i + 2)) * 20 + (xs (i + 1))))), (5, .int 0), (4, .int (nI i)), (3, .ref ou), (2, .ref mo), (1, .ref x), (0, .ref b)]) hx hb dL_law_825 hl (by decide) rfl (fun ls hl => ?_)
    refine lv_aload_n hx hb dL_law_827 rfl (lv_at hl 4 rfl) ?_
    refine z_cr (z_rV (As := []) (rest := []) (ci := 8) (q0 := 11) X J (cX7_thrown_ok l E G2_a0) (cwV 0 hts gL_law_X7_thrown rfl rfl rfl (by decide +kernel) ⟨Nat.le_of_ble_eq_true rfl, Nat.le_of_ble_eq_true rfl⟩) G2_a0 rfl rfl rfl hl.1 rfl (Nat.le_of_ble_eq_true rfl) dL_law_828 ⟨by show _ ≤ 601024; omega, by show _ ≤ 7293034; omega⟩) (fun r828 e_r828 => ?_)
    subst e_r828
    refine lv_iload hx hb dL_law_831 (lv_at hl 1 rfl) ?_
    refine lv_icmp_eq (tgt := 838) hx hb dL_law_833 (by decide) (fun cz833 => ?_) (fun cz833 => by exact (cz833 e_k).elim)
    refine lv_iload hx hb dL_law_838 (lv_at hl 1 rfl) ?_
    refine lv_if_ne (tgt := 855) hx hb dL_law_840 (by decide) (fun cz840 => by exact absurd cz840 (by decide)) (fun cz840 => ?_)
    refine lv_aload_n hx hb dL_law_843 rfl (lv_at hl 3 rfl) ?_
    refine lv_iconst (v := 0) hx hb dL_law_844 (by decide) ?_
    refine z_lald X J 18 G2_18 (vp_in_nI (n := 0) (by decide) (by decide)) dL_law_845 ?_
    refine W.eq (g2 := F0 m 846 ls [.long ((gd sn ((xs (i + 2)) * 20 + (xs (i + 1)))).toInt64)]) (congrArg (fun z9 : Int64 => F0 m 846 ls [.long z9]) (show ((vp_updL o9 0 (gd sn ((xs (i + 2)) * 20 + (xs (i + 1)))).toInt64) (0 : Int32).toNatClampNeg : Int64) = (gd sn ((xs (i + 2)) * 20 + (xs (i + 1)))).toInt64 from rfl)) ?_
    refine lv_iload hx hb dL_law_846 (lv_at hl 0 rfl) ?_
    refine lv_i2l (v := (gd sn ((xs (i + 2)) * 20 + (xs (i + 1)))).toInt64) hx hb dL_law_848 rfl ?_
    refine W.lcmp hx hb dL_law_849 ?_
    refine W.eq (g2 := F0 m 850 ls [.int 0]) (congrArg (fun z9 : Int32 => F0 m 850 ls [.int z9]) (show (lg_cmp ((gd sn ((xs (i + 2)) * 20 + (xs (i + 1)))).toInt64) ((gd sn ((xs (i + 2)) * 20 + (xs (i + 1)))).toInt64) : Int32) = 0 from (lg_cmp_self _))) ?_
    refine lv_if_eq (tgt := 855) hx hb dL_law_850 (by decide) (fun cz850 => ?_) (fun cz850 => by exact absurd cz850 (by decide))
    refine lv_goto (tgt := 1425) hx hb dL_law_855 (by decide) ?_
    refine W.widen (k := cells + 700) (n := slots + 4500) (by omega) (by omega) ?_
    exact kk _ H locs _ ⟨fl, rl, wh, gr, gra, tr, tra, sc, ha, va, mf, md, mi, ms9, mk, mt, ea, eb, nf, nr, mc1, mc2, lim, sup, off, plo, hrs, (kSnow (xs (i + 1)) (xs (i + 2))), fa, rd, ri, sn, t9, hf, gf, kp, tp, (vp_updL o9 0 (gd sn ((xs (i + 2)) * 20 + (xs (i + 1)))).toInt64), G2_0, G2_1, G2_2, G2_3, G2_4, G2_5, G2_6, G2_7, G2_8, G2_9, G2_10, G2_a0, G2_12, G2_13, G2_14, G2_15, G2_16, G2_17, G2_18, (hF.keep hk (by decide)), (hR.keep hk (by decide)), hSep, hnf, hnr, hok, hor, hRB, hBI⟩ J (lv_sub hl [2, 3, 4, 5, 6] rfl)
