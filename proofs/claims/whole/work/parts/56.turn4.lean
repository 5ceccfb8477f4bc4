set_option maxHeartbeats 2000000 in
set_option maxRecDepth 100000 in
theorem turn_mean {p : Program} {l : Launch} (hflags : l.flags = flags0) {e : Env} {s : State} {m : MethodId} {below : List Frame} {meth : Method} {c : Code} {b L : Nat} {xs : Nat → Int32} (E : zG) (X : zC E p m c cL_law 9 s #[.ref b] wsL_law RL) (hRz : zR s) (hNz : zNc s) (hXs : va_X b L xs s s.heap) (hbl : b < s.heap.size) (hbA : ¬ zA E b) (hE1 : ¬ zA E E.2.2.1) (hL9 : L ≤ 3584) {QQ : State → Prop} {ws : va_W} {x mo ou i cells slots : Nat} {H : Heap} {locs : List Loc} {ls : Array Slot} (hi : i + 7 ≤ L) (hW : LW E ws x mo ou) (J : zJ E ws s H locs) (hl : lv_has ls 9 [(4, .int (nI i)), (3, .ref ou), (2, .ref mo), (1, .ref x), (0, .ref b)]) (hc9 : cells + 700 ≤ 601024) (hs9 : slots + 4500 ≤ 7293034)
    (kk : ∀ (ws' : va_W) (H' : Heap) (locs' : List Loc) (ls' : Array Slot), LW E ws' x mo ou → zJ E ws' s H' locs' → lv_has ls' 9 [(4, .int (nI i)), (3, .ref ou), (2, .ref mo), (1, .ref x), (0, .ref b)] → W p l e room_1 s m #[.ref b] below meth c H' locs' (cells + 700) (slots + 4500) QQ (F0 m 1425 ls' [])) :
    W p l e room_1 s m #[.ref b] below meth c H locs cells slots QQ (F0 m 1370 ls []) := by
  obtain ⟨fl, rl, wh, gr, gra, tr, tra, sc, ha, va, mf, md, mi, ms9, mk, mt, ea, eb, nf, nr, mc1, mc2, lim, sup, off, plo, hrs, th, fa, rd, ri, sn, t9, hf, gf, kp, tp, o9, Fa0, Fa1, Fa2, Fa3, Fa4, Fa5, Fa6, Fa7, Fa8, Fa9, Fa10, Fa11, Fa12, Fa13, Fa14, Fa15, Fa16, Fa17, Fa18, hF, hR, hSep, hnf, hnr, hok, hor, hRB, hBI⟩ := hW
  have hx := X.1.1
  have hb := X.1.2.1
  have hown := X.1.2.2.2.1
  have hts := X.1.2.2.2.2
  have hk : zK [0, 1, 2, 3, 4, 5, 6, 7, 8, 9, 10, 11, 12, 13, 14, 15, 16, 17, 18] ws ws := zK.rf
  have hlen19 := zlt Fa18
  have hJ9 := J.2.1
  refine lv_aload_n hx hb dL_law_1370 rfl (lv_at hl 3 rfl) ?_
  refine z_crd (z_rV (As := []) (rest := []) (ci := 7) (q0 := 0) X J (cX6_mean_ok l E Fa0 Fa3 Fa4 Fa5) (cwV 0 hts gL_law_X6_mean rfl rfl rfl (by decide +kernel) ⟨Nat.le_of_ble_eq_true rfl, Nat.le_of_ble_eq_true rfl⟩) Fa0 rfl rfl rfl hl.1 rfl (Nat.le_of_ble_eq_true rfl) dL_law_1371 ⟨by show _ ≤ 601024; omega, by show _ ≤ 7293034; omega⟩) (fun r1371 e_r1371 => ?_)
  refine W.eq (g2 := F0 m 1374 ls [.double (FP.ddiv (FP.i2d (sumA sn)) 4645744490609377280)]) (congrArg (fun z9 : UInt64 => F0 m 1374 ls [.double z9]) (show (r1371 : UInt64) = FP.ddiv (FP.i2d (sumA sn)) 4645744490609377280 from e_r1371)) ?_
  refine lv_dstore (lv' := [(5, .double (FP.ddiv (FP.i2d (sumA sn)) 4645744490609377280)), (4, .int (nI i)), (3, .ref ou), (2, .ref mo), (1, .ref x), (0, .ref b)]) hx hb dL_law_1374 hl (by decide) rfl (fun ls hl => ?_)
  refine lv_aload_n hx hb dL_law_1376 rfl (lv_at hl 3 rfl) ?_
  refine z_cd J (z_rV (As := []) (rest := []) (ci := 8) (q0 := 11) X J (cX7_mean_ok l E Fa11 Fa15) (cwV 0 hts gL_law_X7_mean rfl rfl rfl (by decide +kernel) ⟨Nat.le_of_ble_eq_true rfl, Nat.le_of_ble_eq_true rfl⟩) Fa11 rfl rfl rfl hl.1 rfl (Nat.le_of_ble_eq_true rfl) dL_law_1377 ⟨by show _ ≤ 601024; omega, by show _ ≤ 7293034; omega⟩) (fun r1377 ws_1 H locs hp9 J => ?_)
  obtain ⟨k1, G1_a0, e_r1377⟩ := hp9
  have hk := hk.trans (k1.mono (by decide))
  have G1_0 := k1.2 0 _ (by decide) Fa0
  have G1_1 := k1.2 1 _ (by decide) Fa1
  have G1_2 := k1.2 2 _ (by decide) Fa2
  have G1_3 := k1.2 3 _ (by decide) Fa3
  have G1_4 := k1.2 4 _ (by decide) Fa4
  have G1_5 := k1.2 5 _ (by decide) Fa5
  have G1_6 := k1.2 6 _ (by decide) Fa6
  have G1_7 := k1.2 7 _ (by decide) Fa7
  have G1_8 := k1.2 8 _ (by decide) Fa8
  have G1_9 := k1.2 9 _ (by decide) Fa9
  have G1_10 := k1.2 10 _ (by decide) Fa10
  have G1_12 := k1.2 12 _ (by decide) Fa12
  have G1_13 := k1.2 13 _ (by decide) Fa13
  have G1_14 := k1.2 14 _ (by decide) Fa14
  have G1_15 := k1.2 15 _ (by decide) Fa15
  have G1_16 := k1.2 16 _ (by decide) Fa16
  have G1_17 := k1.2 17 _ (by decide) Fa17
  have G1_18 := k1.2 18 _ (by decide) Fa18
  refine W.eq (g2 := F0 m 1380 ls [.double (FP.ddiv (FP.i2d (sumA sn)) 4645744490609377280)]) (congrArg (fun z9 : UInt64 => F0 m 1380 ls [.double z9]) (show (r1377 : UInt64) = FP.ddiv (FP.i2d (sumA sn)) 4645744490609377280 from (by rw [e_r1377, show allS 0 sn = sumA sn from if_pos rfl]))) ?_
  refine lv_dstore (lv' := [(7, .double (FP.ddiv (FP.i2d (sumA sn)) 4645744490609377280)), (5, .double (FP.ddiv (FP.i2d (sumA sn)) 4645744490609377280)), (4, .int (nI i)), (3, .ref ou), (2, .ref mo), (1, .ref x), (0, .ref b)]) hx hb dL_law_1380 hl (by decide) rfl (fun ls hl => ?_)
  refine lv_dload hx hb dL_law_1382 (lv_at hl 1 rfl) ?_
  refine lv_dload hx hb dL_law_1384 (lv_at hl 0 rfl) ?_
  refine lv_dcmp hx hb dL_law_1386 ?_
  refine lv_if_eq (tgt := 1408) hx hb dL_law_1387 (by decide) (fun cz1387 => ?_) (fun cz1387 => ?_)
  · refine lv_goto (tgt := 1425) hx hb dL_law_1408 (by decide) ?_
    refine W.widen (k := cells + 700) (n := slots + 4500) (by omega) (by omega) ?_
    exact kk _ H locs _ ⟨fl, rl, wh, gr, gra, tr, tra, sc, ha, va, mf, md, mi, ms9, mk, mt, ea, eb, nf, nr, mc1, mc2, lim, sup, off, plo, hrs, 0, fa, rd, ri, sn, t9, hf, gf, kp, tp, o9, G1_0, G1_1, G1_2, G1_3, G1_4, G1_5, G1_6, G1_7, G1_8, G1_9, G1_10, G1_a0, G1_12, G1_13, G1_14, G1_15, G1_16, G1_17, G1_18, (hF.keep hk (by decide)), (hR.keep hk (by decide)), hSep, hnf, hnr, hok, hor, hRB, hBI⟩ J (lv_sub hl [2, 3, 4, 5, 6] rfl)
  · refine lv_dload hx hb dL_law_1390 (lv_at hl 1 rfl) ?_
    refine lv_dload hx hb dL_law_1392 (lv_at hl 1 rfl) ?_
    refine lv_dcmp hx hb dL_law_1394 ?_
    refine lv_if_eq (tgt := 1406) hx hb dL_law_1395 (by decide) (fun cz1395 => by exact (cz1387 cz1395).elim) (fun cz1395 => ?_)
    refine lv_dload hx hb dL_law_1398 (lv_at hl 0 rfl) ?_
    refine lv_dload hx hb dL_law_1400 (lv_at hl 0 rfl) ?_
    refine lv_dcmp hx hb dL_law_1402 ?_
    refine lv_if_ne (tgt := 1408) hx hb dL_law_1403 (by decide) (fun cz1403 => ?_) (fun cz1403 => by exact (cz1387 cz1403).elim)
    refine lv_goto (tgt := 1425) hx hb dL_law_1408 (by decide) ?_
    refine W.widen (k := cells + 700) (n := slots + 4500) (by omega) (by omega) ?_
    exact kk _ H locs _ ⟨fl, rl, wh, gr, gra, tr, tra, sc, ha, va, mf, md, mi, ms9, mk, mt, ea, eb, nf, nr, mc1, mc2, lim, sup, off, plo, hrs, 0, fa, rd, ri, sn, t9, hf, gf, kp, tp, o9, G1_0, G1_1, G1_2, G1_3, G1_4, G1_5, G1_6, G1_7, G1_8, G1_9, G1_10, G1_a0, G1_12, G1_13, G1_14, G1_15, G1_16, G1_17, G1_18, (hF.keep hk (by decide)), (hR.keep hk (by decide)), hSep, hnf, hnr, hok, hor, hRB, hBI⟩ J (lv_sub hl [2, 3, 4, 5, 6] rfl)
set_option maxHeartbeats 2000000 in
set_option maxRecDepth 100000 in
theorem turn_digest {p : Program} {l : Launch} (hflags : l.flags = flags0) {e : Env} {s : State} {m : MethodId} {below : List Frame} {meth : Method} {c : Code} {b L : Nat} {xs : Nat → Int32} (E : zG) (X : zC E p m c cL_law 9 s #[.ref b] wsL_law RL) (hRz : zR s) (hNz : zNc s) (hXs : va_X b L xs s s.heap) (hbl : b < s.heap.size) (hbA : ¬ zA E b) (hE1 : ¬ zA E E.2.2.1) (hL9 : L ≤ 3584) {QQ : State → Prop} {ws : va_W} {x mo ou i cells slots : Nat} {H : Heap} {locs : List Loc} {ls : Array Slot} (hi : i + 7 ≤ L) (hW : LW E ws x mo ou) (J : zJ E ws s H locs) (hl : lv_has ls 9 [(4, .int (nI i)), (3, .ref ou), (2, .ref mo), (1, .ref x), (0, .ref b)]) (hc9 : cells + 700 ≤ 601024) (hs9 : slots + 4500 ≤ 7293034)
    (kk : ∀ (ws' : va_W) (H' : Heap) (locs' : List Loc) (ls' : Array Slot), LW E ws' x mo ou → zJ E ws' s H' locs' → lv_has ls' 9 [(4, .int (nI i)), (3, .ref ou), (2, .ref mo), (1, .ref x), (0, .ref b)] → W p l e room_1 s m #[.ref b] below meth c H' locs' (cells + 700) (slots + 4500) QQ (F0 m 1425 ls' [])) :
    W p l e room_1 s m #[.ref b] below meth c H locs cells slots QQ (F0 m 1411 ls []) := by
  obtain ⟨fl, rl, wh, gr, gra, tr, tra, sc, ha, va, mf, md, mi, ms9, mk, mt, ea, eb, nf, nr, mc1, mc2, lim, sup, off, plo, hrs, th, fa, rd, ri, sn, t9, hf, gf, kp, tp, o9, Fa0, Fa1, Fa2, Fa3, Fa4, Fa5, Fa6, Fa7, Fa8, Fa9, Fa10, Fa11, Fa12, Fa13, Fa14, Fa15, Fa16, Fa17, Fa18, hF, hR, hSep, hnf, hnr, hok, hor, hRB, hBI⟩ := hW
  have hx := X.1.1
  have hb := X.1.2.1
  have hown := X.1.2.2.2.1
  have hts := X.1.2.2.2.2
  have hk : zK [0, 1, 2, 3, 4, 5, 6, 7, 8, 9, 10, 11, 12, 13, 14, 15, 16, 17, 18] ws ws := zK.rf
  have hlen19 := zlt Fa18
  have hJ9 := J.2.1
  refine lv_aload_n hx hb dL_law_1411 rfl (lv_at hl 3 rfl) ?_
  refine z_cl J (z_rVY (As := []) (rest := []) (ci := 7) (q0 := 0) X hRz J (cX6_digest_ok l hflags E Fa0 Fa1 Fa2 Fa3 Fa4 Fa5 (by first | assumption | omega | decide) (by first | assumption | omega | decide) (by first | assumption | omega | decide) (by first | assumption | omega | decide) (by first | assumption | omega | decide) (by first | assumption | omega | decide)) (cwV 0 hts gL_law_X6_digest rfl rfl rfl (by decide +kernel) ⟨Nat.le_of_ble_eq_true rfl, Nat.le_of_ble_eq_true rfl⟩) Fa0 rfl rfl rfl hl.1 rfl (Nat.le_of_ble_eq_true rfl) dL_law_1412 ⟨by show _ ≤ 601024; omega, by show _ ≤ 7293034; omega⟩) (fun r1412 ws_1 H locs hp9 J => ?_)
  obtain ⟨k1, e_r1412⟩ := hp9
  have hk := hk.trans (k1.mono (fun q9 hq9 => absurd hq9 List.not_mem_nil))
  have G1_0 := k1.2 0 _ List.not_mem_nil Fa0
  have G1_1 := k1.2 1 _ List.not_mem_nil Fa1
  have G1_2 := k1.2 2 _ List.not_mem_nil Fa2
  have G1_3 := k1.2 3 _ List.not_mem_nil Fa3
  have G1_4 := k1.2 4 _ List.not_mem_nil Fa4
  have G1_5 := k1.2 5 _ List.not_mem_nil Fa5
  have G1_6 := k1.2 6 _ List.not_mem_nil Fa6
  have G1_7 := k1.2 7 _ List.not_mem_nil Fa7
  have G1_8 := k1.2 8 _ List.not_mem_nil Fa8
  have G1_9 := k1.2 9 _ List.not_mem_nil Fa9
  have G1_10 := k1.2 10 _ List.not_mem_nil Fa10
  have G1_11 := k1.2 11 _ List.not_mem_nil Fa11
  have G1_12 := k1.2 12 _ List.not_mem_nil Fa12
  have G1_13 := k1.2 13 _ List.not_mem_nil Fa13
  have G1_14 := k1.2 14 _ List.not_mem_nil Fa14
  have G1_15 := k1.2 15 _ List.not_mem_nil Fa15
  have G1_16 := k1.2 16 _ List.not_mem_nil Fa16
  have G1_17 := k1.2 17 _ List.not_mem_nil Fa17
  have G1_18 := k1.2 18 _ List.not_mem_nil Fa18
  refine W.eq (g2 := F0 m 1415 ls [.long (dgF sn (dg2 (dgR sn rd ri lim) 5 (dg2 (aboutS fa sn) 7 (dgF (dgC nf nr lim sup off plo hrs sn rd ri) 1777 10) nf) nr) 400)]) (congrArg (fun z9 : Int64 => F0 m 1415 ls [.long z9]) (show (r1412 : Int64) = dgF sn (dg2 (dgR sn rd ri lim) 5 (dg2 (aboutS fa sn) 7 (dgF (dgC nf nr lim sup off plo hrs sn rd ri) 1777 10) nf) nr) 400 from e_r1412)) ?_
  refine lv_aload_n hx hb dL_law_1415 rfl (lv_at hl 2 rfl) ?_
  refine z_cl J (z_rV (As := []) (rest := [.long (dgF sn (dg2 (dgR sn rd ri lim) 5 (dg2 (aboutS fa sn) 7 (dgF (dgC nf nr lim sup off plo hrs sn rd ri) 1777 10) nf) nr) 400)]) (ci := 8) (q0 := 11) X J (cX7_digest_ok l E G1_11 G1_12 G1_13 G1_14 G1_15 (by first | assumption | omega | decide) (by first | assumption | omega | decide) (by first | assumption | omega | decide) (by first | assumption | omega | decide)) (cwV 0 hts gL_law_X7_digest rfl rfl rfl (by decide +kernel) ⟨Nat.le_of_ble_eq_true rfl, Nat.le_of_ble_eq_true rfl⟩) G1_11 rfl rfl rfl hl.1 rfl (Nat.le_of_ble_eq_true rfl) dL_law_1416 ⟨by show _ ≤ 601024; omega, by show _ ≤ 7293034; omega⟩) (fun r1416 ws_2 H locs hp9 J => ?_)
  obtain ⟨k2, G2_a0, e_r1416⟩ := hp9
  have hk := hk.trans (k2.mono (by decide))
  have G2_0 := k2.2 0 _ (by decide) G1_0
  have G2_1 := k2.2 1 _ (by decide) G1_1
  have G2_2 := k2.2 2 _ (by decide) G1_2
  have G2_3 := k2.2 3 _ (by decide) G1_3
  have G2_4 := k2.2 4 _ (by decide) G1_4
  have G2_5 := k2.2 5 _ (by decide) G1_5
  have G2_6 := k2.2 6 _ (by decide) G1_6
  have G2_7 := k2.2 7 _ (by decide) G1_7
  have G2_8 := k2.2 8 _ (by decide) G1_8
  have G2_9 := k2.2 9 _ (by decide) G1_9
  have G2_10 := k2.2 10 _ (by decide) G1_10
  have G2_12 := k2.2 12 _ (by decide) G1_12
  have G2_13 := k2.2 13 _ (by decide) G1_13
  have G2_14 := k2.2 14 _ (by decide) G1_14
  have G2_15 := k2.2 15 _ (by decide) G1_15
  have G2_16 := k2.2 16 _ (by decide) G1_16
  have G2_17 := k2.2 17 _ (by decide) G1_17
  have G2_18 := k2.2 18 _ (by decide) G1_18
  refine W.eq (g2 := F0 m 1419 ls [.long (dgF sn (dg2 (dgR sn rd ri lim) 5 (dg2 (aboutS fa sn) 7 (dgF (dgC nf nr lim sup off plo hrs sn rd ri) 1777 10) nf) nr) 400), .long (dgF sn (dg2 (dgR sn rd ri lim) 5 (dg2 (aboutS fa sn) 7 (dgF (dgC nf nr lim sup off plo hrs sn rd ri) 1777 10) nf) nr) 400)]) (congrArg (fun z9 : Int64 => F0 m 1419 ls [.long z9, .long (dgF sn (dg2 (dgR sn rd ri lim) 5 (dg2 (aboutS fa sn) 7 (dgF (dgC nf nr lim sup off plo hrs sn rd ri) 1777 10) nf) nr) 400)]) (show (r1416 : Int64) = dgF sn (dg2 (dgR sn rd ri lim) 5 (dg2 (aboutS fa sn) 7 (dgF (dgC nf nr lim sup off plo hrs sn rd ri) 1777 10) nf) nr) 400 from e_r1416)) ?_
  refine W.lcmp hx hb dL_law_1419 ?_
  refine W.eq (g2 := F0 m 1420 ls [.int 0]) (congrArg (fun z9 : Int32 => F0 m 1420 ls [.int z9]) (show (lg_cmp (dgF sn (dg2 (dgR sn rd ri lim) 5 (dg2 (aboutS fa sn) 7 (dgF (dgC nf nr lim sup off plo hrs sn rd ri) 1777 10) nf) nr) 400) (dgF sn (dg2 (dgR sn rd ri lim) 5 (dg2 (aboutS fa sn) 7 (dgF (dgC nf nr lim sup off plo hrs sn rd ri) 1777 10) nf) nr) 400) : Int32) = 0 from (lg_cmp_self _))) ?_
  refine lv_if_eq (tgt := 1425) hx hb dL_law_1420 (by decide) (fun cz1420 => ?_) (fun cz1420 => by exact absurd cz1420 (by decide))
  refine W.widen (k := cells + 700) (n := slots + 4500) (by omega) (by omega) ?_
  exact kk _ H locs _ ⟨fl, rl, wh, gr, gra, tr, tra, sc, ha, va, mf, md, mi, ms9, mk, mt, ea, eb, nf, nr, mc1, mc2, lim, sup, off, plo, hrs, 0, fa, rd, ri, sn, t9, hf, gf, kp, tp, o9, G2_0, G2_1, G2_2, G2_3, G2_4, G2_5, G2_6, G2_7, G2_8, G2_9, G2_10, G2_a0, G2_12, G2_13, G2_14, G2_15, G2_16, G2_17, G2_18, (hF.keep hk (by decide)), (hR.keep hk (by decide)), hSep, hnf, hnr, hok, hor, hRB, hBI⟩ J (lv_sub hl [0, 1, 2, 3, 4] rfl)
