set_option maxHeartbeats 2000000 in
set_option maxRecDepth 100000 in
theorem turn_road {p : Program} {l : Launch} (hflags : l.flags = flags0) {e : Env} {s : State} {m : MethodId} {below : List Frame} {meth : Method} {c : Code} {b L : Nat} {xs : Nat → Int32} (E : zG) (X : zC E p m c cL_law 9 s #[.ref b] wsL_law RL) (hRz : zR s) (hNz : zNc s) (hXs : va_X b L xs s s.heap) (hbl : b < s.heap.size) (hbA : ¬ zA E b) (hE1 : ¬ zA E E.2.2.1) (hL9 : L ≤ 3584) {QQ : State → Prop} {ws : va_W} {x mo ou i cells slots : Nat} {H : Heap} {locs : List Loc} {ls : Array Slot} (hi : i + 7 ≤ L) (hW : LW E ws x mo ou) (J : zJ E ws s H locs) (hl : lv_has ls 9 [(4, .int (nI i)), (3, .ref ou), (2, .ref mo), (1, .ref x), (0, .ref b)]) (hc9 : cells + 700 ≤ 601024) (hs9 : slots + 4500 ≤ 7293034)
    (kk : ∀ (ws' : va_W) (H' : Heap) (locs' : List Loc) (ls' : Array Slot), LW E ws' x mo ou → zJ E ws' s H' locs' → lv_has ls' 9 [(4, .int (nI i)), (3, .ref ou), (2, .ref mo), (1, .ref x), (0, .ref b)] → W p l e room_1 s m #[.ref b] below meth c H' locs' (cells + 700) (slots + 4500) QQ (F0 m 1425 ls' [])) :
    W p l e room_1 s m #[.ref b] below meth c H locs cells slots QQ (F0 m 402 ls []) := by
  obtain ⟨fl, rl, wh, gr, gra, tr, tra, sc, ha, va, mf, md, mi, ms9, mk, mt, ea, eb, nf, nr, mc1, mc2, lim, sup, off, plo, hrs, th, fa, rd, ri, sn, t9, hf, gf, kp, tp, o9, Fa0, Fa1, Fa2, Fa3, Fa4, Fa5, Fa6, Fa7, Fa8, Fa9, Fa10, Fa11, Fa12, Fa13, Fa14, Fa15, Fa16, Fa17, Fa18, hF, hR, hSep, hnf, hnr, hok, hor, hRB, hBI⟩ := hW
  have hx := X.1.1
  have hb := X.1.2.1
  have hown := X.1.2.2.2.1
  have hts := X.1.2.2.2.2
  have hk : zK [0, 1, 2, 3, 4, 5, 6, 7, 8, 9, 10, 11, 12, 13, 14, 15, 16, 17, 18] ws ws := zK.rf
  have hlen19 := zlt Fa18
  have hJ9 := J.2.1
  rcases hR with ⟨hn0, he0⟩ | ⟨qe, g, fo9, qf9, sp9, qs9, hRa⟩
  · subst hn0
    subst he0
    have hR : RS E ws rd ri E.2.2.1 0 := Or.inl ⟨rfl, rfl⟩
    refine lv_aload_n hx hb dL_law_402 rfl (lv_at hl 3 rfl) ?_
    refine lv_aload_n hx hb dL_law_403 rfl (lv_at hl 4 rfl) ?_
    refine lv_iload hx hb dL_law_404 (lv_at hl 0 rfl) ?_
    refine lv_iconst (v := 1) hx hb dL_law_406 (by decide) ?_
    refine lv_iadd hx hb dL_law_407 ?_
    refine W.eq (g2 := F0 m 408 ls [.int (nI (i + 1)), .ref b, .ref x]) (congrArg (fun z9 : Int32 => F0 m 408 ls [.int z9, .ref b, .ref x]) (show ((nI i) + 1 : Int32) = nI (i + 1) from (nI_add i 1))) ?_
    refine va_sld hx hb hXs hbl hbA J.2.2 (vp_in_nI (by omega) (by omega)) dL_law_408 ?_
    refine W.eq (g2 := F0 m 409 ls [.int (xs (i + 1)), .ref x]) (congrArg (fun z9 : Int32 => F0 m 409 ls [.int z9, .ref x]) (show (xs (nI (i + 1)).toNatClampNeg : Int32) = xs (i + 1) from (congrArg xs (nI_clamp (by omega))))) ?_
    refine lv_if_eq (tgt := 416) hx hb dL_law_409 (by decide) (fun cz409 => ?_) (fun cz409 => ?_)
    · refine lv_iconst (v := 0) hx hb dL_law_416 (by decide) ?_
      refine lv_aload_n hx hb dL_law_417 rfl (lv_at hl 4 rfl) ?_
      refine lv_iload hx hb dL_law_418 (lv_at hl 0 rfl) ?_
      refine lv_iconst (v := 2) hx hb dL_law_420 (by decide) ?_
      refine lv_iadd hx hb dL_law_421 ?_
      refine W.eq (g2 := F0 m 422 ls [.int (nI (i + 2)), .ref b, .int 0, .ref x]) (congrArg (fun z9 : Int32 => F0 m 422 ls [.int z9, .ref b, .int 0, .ref x]) (show ((nI i) + 2 : Int32) = nI (i + 2) from (nI_add i 2))) ?_
      refine va_sld hx hb hXs hbl hbA J.2.2 (vp_in_nI (by omega) (by omega)) dL_law_422 ?_
      refine W.eq (g2 := F0 m 423 ls [.int (xs (i + 2)), .int 0, .ref x]) (congrArg (fun z9 : Int32 => F0 m 423 ls [.int z9, .int 0, .ref x]) (show (xs (nI (i + 2)).toNatClampNeg : Int32) = xs (i + 2) from (congrArg xs (nI_clamp (by omega))))) ?_
      refine lv_aload_n hx hb dL_law_423 rfl (lv_at hl 1 rfl) ?_
      refine z_xi J (z_wS (As := [.ref x, .int 0, .int (xs (i + 2)), .ref ou]) (rest := []) X hRz hNz J (cL_road_e_ok l hflags E Fa0 Fa2 Fa18 (by first | exact Or.inl rfl | exact Or.inr rfl)) (vx_cwSW (hh := [(0, 10, 13, 15), (0, 10, 17, 17)]) 4 hts gL_law_L_road rfl rfl rfl (by decide +kernel) ⟨Nat.le_of_ble_eq_true rfl, Nat.le_of_ble_eq_true rfl⟩) rfl hl.1 rfl (Nat.le_of_ble_eq_true rfl) dL_law_424 ⟨by show _ ≤ 601024; omega, by show _ ≤ 7293034; omega⟩) (fun nm ce q9 H locs hp9 J h1 h2 h3 => ?_) (fun r424 ws_1 H locs hp9 J => ?_)
      · exact False.elim (by exact hp9)
      rcases hp9 with ⟨e_v, e_k, rfl⟩ | ⟨e_v, e_k, k1, ⟨fo_1, sp_1, nq_1, hlen1, G1_a0, G1_a1, N1_0, N1_1, N1_2⟩⟩
      · subst e_v
        refine lv_istore (lv' := [(5, .int (kRoad (xs (i + 2)) (nI 0))), (4, .int (nI i)), (3, .ref ou), (2, .ref mo), (1, .ref x), (0, .ref b)]) hx hb dL_law_427 hl (by decide) rfl (fun ls hl => ?_)
        refine lv_aload_n hx hb dL_law_429 rfl (lv_at hl 3 rfl) ?_
        refine lv_aload_n hx hb dL_law_430 rfl (lv_at hl 5 rfl) ?_
        refine lv_iload hx hb dL_law_431 (lv_at hl 1 rfl) ?_
        refine lv_iconst (v := 1) hx hb dL_law_433 (by decide) ?_
        refine lv_iadd hx hb dL_law_434 ?_
        refine W.eq (g2 := F0 m 435 ls [.int (nI (i + 1)), .ref b, .ref mo]) (congrArg (fun z9 : Int32 => F0 m 435 ls [.int z9, .ref b, .ref mo]) (show ((nI i) + 1 : Int32) = nI (i + 1) from (nI_add i 1))) ?_
        refine va_sld hx hb hXs hbl hbA J.2.2 (vp_in_nI (by omega) (by omega)) dL_law_435 ?_
        refine W.eq (g2 := F0 m 436 ls [.int (xs (i + 1)), .ref mo]) (congrArg (fun z9 : Int32 => F0 m 436 ls [.int z9, .ref mo]) (show (xs (nI (i + 1)).toNatClampNeg : Int32) = xs (i + 1) from (congrArg xs (nI_clamp (by omega))))) ?_
        refine lv_if_eq (tgt := 443) hx hb dL_law_436 (by decide) (fun cz436 => ?_) (fun cz436 => by exact (cz436 cz409).elim)
        refine lv_iconst (v := 0) hx hb dL_law_443 (by decide) ?_
        refine lv_aload_n hx hb dL_law_444 rfl (lv_at hl 5 rfl) ?_
        refine lv_iload hx hb dL_law_445 (lv_at hl 1 rfl) ?_
        refine lv_iconst (v := 2) hx hb dL_law_447 (by decide) ?_
        refine lv_iadd hx hb dL_law_448 ?_
        refine W.eq (g2 := F0 m 449 ls [.int (nI (i + 2)), .ref b, .int 0, .ref mo]) (congrArg (fun z9 : Int32 => F0 m 449 ls [.int z9, .ref b, .int 0, .ref mo]) (show ((nI i) + 2 : Int32) = nI (i + 2) from (nI_add i 2))) ?_
        refine va_sld hx hb hXs hbl hbA J.2.2 (vp_in_nI (by omega) (by omega)) dL_law_449 ?_
        refine W.eq (g2 := F0 m 450 ls [.int (xs (i + 2)), .int 0, .ref mo]) (congrArg (fun z9 : Int32 => F0 m 450 ls [.int z9, .int 0, .ref mo]) (show (xs (nI (i + 2)).toNatClampNeg : Int32) = xs (i + 2) from (congrArg xs (nI_clamp (by omega))))) ?_
        refine z_ci J (z_rV (As := [.int 0, .int (xs (i + 2))]) (rest := []) (ci := 8) (q0 := 11) X J (cX7_road_ok l E Fa11 Fa13 Fa14 (by first | assumption | omega | decide)) (cwV 2 hts gL_law_X7_road rfl rfl rfl (by decide +kernel) ⟨Nat.le_of_ble_eq_true rfl, Nat.le_of_ble_eq_true rfl⟩) Fa11 rfl rfl rfl hl.1 rfl (Nat.le_of_ble_eq_true rfl) dL_law_450 ⟨by show _ ≤ 601024; omega, by show _ ≤ 7293034; omega⟩) (fun r450 ws_2 H locs hp9 J => ?_)
        obtain ⟨k2, G2_a0, G2_a1, G2_a2, e_r450⟩ := hp9
        have hk := hk.trans (k2.mono (by decide))
        have G2_0 := k2.2 0 _ (by decide) Fa0
        have G2_1 := k2.2 1 _ (by decide) Fa1
        have G2_2 := k2.2 2 _ (by decide) Fa2
        have G2_3 := k2.2 3 _ (by decide) Fa3
        have G2_4 := k2.2 4 _ (by decide) Fa4
        have G2_5 := k2.2 5 _ (by decide) Fa5
        have G2_6 := k2.2 6 _ (by decide) Fa6
        have G2_7 := k2.2 7 _ (by decide) Fa7
        have G2_8 := k2.2 8 _ (by decide) Fa8
        have G2_9 := k2.2 9 _ (by decide) Fa9
        have G2_10 := k2.2 10 _ (by decide) Fa10
        have G2_12 := k2.2 12 _ (by decide) Fa12
        have G2_15 := k2.2 15 _ (by decide) Fa15
        have G2_16 := k2.2 16 _ (by decide) Fa16
        have G2_17 := k2.2 17 _ (by decide) Fa17
        have G2_18 := k2.2 18 _ (by decide) Fa18
        have F11 : ws_2[11]? = some (mo, .inr (8, [.int (kRoad (xs (i + 2)) (nI 0)), .int (nI nf), .ref mf, .int (nI 0), .ref md, .ref mi, .int lim, .int sup, .int off, .int plo, .int hrs, .ref ms9, .ref mk, .ref mt])) := by simpa only [selN e_k] using G2_a0
        refine lv_istore (lv' := [(6, .int r450), (5, .int (kRoad (xs (i + 2)) (nI 0))), (4, .int (nI i)), (3, .ref ou), (2, .ref mo), (1, .ref x), (0, .ref b)]) hx hb dL_law_453 hl (by decide) rfl (fun ls hl => ?_)
        refine lv_aload_n hx hb dL_law_455 rfl (lv_at hl 4 rfl) ?_
        refine z_cr (z_rV (As := []) (rest := []) (ci := 8) (q0 := 11) X J (cX7_thrown_ok l E F11) (cwV 0 hts gL_law_X7_thrown rfl rfl rfl (by decide +kernel) ⟨Nat.le_of_ble_eq_true rfl, Nat.le_of_ble_eq_true rfl⟩) F11 rfl rfl rfl hl.1 rfl (Nat.le_of_ble_eq_true rfl) dL_law_456 ⟨by show _ ≤ 601024; omega, by show _ ≤ 7293034; omega⟩) (fun r456 e_r456 => ?_)
        subst e_r456
        refine lv_iload hx hb dL_law_459 (lv_at hl 1 rfl) ?_
        refine lv_icmp_eq (tgt := 466) hx hb dL_law_461 (by decide) (fun cz461 => ?_) (fun cz461 => by exact (cz461 rfl).elim)
        refine lv_iload hx hb dL_law_466 (lv_at hl 1 rfl) ?_
        refine lv_if_ne (tgt := 483) hx hb dL_law_468 (by decide) (fun cz468 => ?_) (fun cz468 => by exact (e_k cz468).elim)
        refine lv_goto (tgt := 1425) hx hb dL_law_483 (by decide) ?_
        refine W.widen (k := cells + 700) (n := slots + 4500) (by omega) (by omega) ?_
        exact kk _ H locs _ ⟨fl, rl, wh, gr, gra, tr, tra, sc, ha, va, mf, md, mi, ms9, mk, mt, ea, E.2.2.1, nf, 0, mc1, mc2, lim, sup, off, plo, hrs, (kRoad (xs (i + 2)) (nI 0)), fa, rd, ri, sn, t9, hf, gf, kp, tp, o9, G2_0, G2_1, G2_2, G2_3, G2_4, G2_5, G2_6, G2_7, G2_8, G2_9, G2_10, F11, G2_12, (by simpa only [selN e_k] using G2_a1), (by simpa only [selN e_k] using G2_a2), G2_15, G2_16, G2_17, G2_18, (hF.keep hk (by decide)), (hR.keep hk (by decide)), hSep, hnf, hnr, hok, hor, hRB, hBI⟩ J (lv_sub hl [2, 3, 4, 5, 6] rfl)
      · subst e_v
        have lp1 := hk.1
        have b_1_0 := zlt Fa0
        have b_1_1 := zlt Fa1
        have b_1_2 := zlt Fa2
        have b_1_3 := zlt Fa3
        have b_1_4 := zlt Fa4
        have b_1_5 := zlt Fa5
        have b_1_6 := zlt Fa6
        have b_1_7 := zlt Fa7
        have b_1_8 := zlt Fa8
        have b_1_9 := zlt Fa9
        have b_1_10 := zlt Fa10
        have b_1_11 := zlt Fa11
        have b_1_12 := zlt Fa12
        have b_1_13 := zlt Fa13
        have b_1_14 := zlt Fa14
        have b_1_15 := zlt Fa15
        have b_1_16 := zlt Fa16
        have b_1_17 := zlt Fa17
        have b_1_18 := zlt Fa18
        have hk := hk.trans (k1.mono (by decide))
        have G1_0 := k1.2 0 _ (by decide) Fa0
        have G1_1 := k1.2 1 _ (by decide) Fa1
        have G1_3 := k1.2 3 _ (by decide) Fa3
        have G1_4 := k1.2 4 _ (by decide) Fa4
        have G1_5 := k1.2 5 _ (by decide) Fa5
        have G1_6 := k1.2 6 _ (by decide) Fa6
        have G1_7 := k1.2 7 _ (by decide) Fa7
        have G1_8 := k1.2 8 _ (by decide) Fa8
        have G1_9 := k1.2 9 _ (by decide) Fa9
        have G1_10 := k1.2 10 _ (by decide) Fa10
        have G1_11 := k1.2 11 _ (by decide) Fa11
        have G1_12 := k1.2 12 _ (by decide) Fa12
        have G1_13 := k1.2 13 _ (by decide) Fa13
        have G1_14 := k1.2 14 _ (by decide) Fa14
        have G1_15 := k1.2 15 _ (by decide) Fa15
        have G1_16 := k1.2 16 _ (by decide) Fa16
        have G1_17 := k1.2 17 _ (by decide) Fa17
        obtain ⟨pn_1_0, hpn_1_0⟩ : ∃ z : Nat, z = ws.length + 0 := ⟨_, rfl⟩
        rw [← hpn_1_0] at N1_0
        obtain ⟨pn_1_1, hpn_1_1⟩ : ∃ z : Nat, z = ws.length + 1 := ⟨_, rfl⟩
        rw [← hpn_1_1] at N1_1
        obtain ⟨pn_1_2, hpn_1_2⟩ : ∃ z : Nat, z = ws.length + 2 := ⟨_, rfl⟩
        rw [← hpn_1_2] at N1_2
        refine lv_istore (lv' := [(5, .int 0), (4, .int (nI i)), (3, .ref ou), (2, .ref mo), (1, .ref x), (0, .ref b)]) hx hb dL_law_427 hl (by decide) rfl (fun ls hl => ?_)
        refine lv_aload_n hx hb dL_law_429 rfl (lv_at hl 3 rfl) ?_
        refine lv_aload_n hx hb dL_law_430 rfl (lv_at hl 5 rfl) ?_
        refine lv_iload hx hb dL_law_431 (lv_at hl 1 rfl) ?_
        refine lv_iconst (v := 1) hx hb dL_law_433 (by decide) ?_
        refine lv_iadd hx hb dL_law_434 ?_
        refine W.eq (g2 := F0 m 435 ls [.int (nI (i + 1)), .ref b, .ref mo]) (congrArg (fun z9 : Int32 => F0 m 435 ls [.int z9, .ref b, .ref mo]) (show ((nI i) + 1 : Int32) = nI (i + 1) from (nI_add i 1))) ?_
        refine va_sld hx hb hXs hbl hbA J.2.2 (vp_in_nI (by omega) (by omega)) dL_law_435 ?_
        refine W.eq (g2 := F0 m 436 ls [.int (xs (i + 1)), .ref mo]) (congrArg (fun z9 : Int32 => F0 m 436 ls [.int z9, .ref mo]) (show (xs (nI (i + 1)).toNatClampNeg : Int32) = xs (i + 1) from (congrArg xs (nI_clamp (by omega))))) ?_
        refine lv_if_eq (tgt := 443) hx hb dL_law_436 (by decide) (fun cz436 => ?_) (fun cz436 => by exact (cz436 cz409).elim)
        refine lv_iconst (v := 0) hx hb dL_law_443 (by decide) ?_
        refine lv_aload_n hx hb dL_law_444 rfl (lv_at hl 5 rfl) ?_
        refine lv_iload hx hb dL_law_445 (lv_at hl 1 rfl) ?_
        refine lv_iconst (v := 2) hx hb dL_law_447 (by decide) ?_
        refine lv_iadd hx hb dL_law_448 ?_
        refine W.eq (g2 := F0 m 449 ls [.int (nI (i + 2)), .ref b, .int 0, .ref mo]) (congrArg (fun z9 : Int32 => F0 m 449 ls [.int z9, .ref b, .int 0, .ref mo]) (show ((nI i) + 2 : Int32) = nI (i + 2) from (nI_add i 2))) ?_
        refine va_sld hx hb hXs hbl hbA J.2.2 (vp_in_nI (by omega) (by omega)) dL_law_449 ?_
        refine W.eq (g2 := F0 m 450 ls [.int (xs (i + 2)), .int 0, .ref mo]) (congrArg (fun z9 : Int32 => F0 m 450 ls [.int z9, .int 0, .ref mo]) (show (xs (nI (i + 2)).toNatClampNeg : Int32) = xs (i + 2) from (congrArg xs (nI_clamp (by omega))))) ?_
        refine z_ci J (z_rV (As := [.int 0, .int (xs (i + 2))]) (rest := []) (ci := 8) (q0 := 11) X J (cX7_road_ok l E G1_11 G1_13 G1_14 (by first | assumption | omega | decide)) (cwV 2 hts gL_law_X7_road rfl rfl rfl (by decide +kernel) ⟨Nat.le_of_ble_eq_true rfl, Nat.le_of_ble_eq_true rfl⟩) G1_11 rfl rfl rfl hl.1 rfl (Nat.le_of_ble_eq_true rfl) dL_law_450 ⟨by show _ ≤ 601024; omega, by show _ ≤ 7293034; omega⟩) (fun r450 ws_2 H locs hp9 J => ?_)
        obtain ⟨k2, G2_a0, G2_a1, G2_a2, e_r450⟩ := hp9
        have hk := hk.trans (k2.mono (by decide))
        have G2_0 := k2.2 0 _ (by decide) G1_0
        have G2_1 := k2.2 1 _ (by decide) G1_1
        have G2_2 := k2.2 2 _ (by decide) G1_a0
        have G2_3 := k2.2 3 _ (by decide) G1_3
        have G2_4 := k2.2 4 _ (by decide) G1_4
        have G2_5 := k2.2 5 _ (by decide) G1_5
        have G2_6 := k2.2 6 _ (by decide) G1_6
        have G2_7 := k2.2 7 _ (by decide) G1_7
        have G2_8 := k2.2 8 _ (by decide) G1_8
        have G2_9 := k2.2 9 _ (by decide) G1_9
        have G2_10 := k2.2 10 _ (by decide) G1_10
        have G2_12 := k2.2 12 _ (by decide) G1_12
        have G2_15 := k2.2 15 _ (by decide) G1_15
        have G2_16 := k2.2 16 _ (by decide) G1_16
        have G2_17 := k2.2 17 _ (by decide) G1_17
        have G2_18 := k2.2 18 _ (by decide) G1_a1
        have G2_19 := k2.2 pn_1_0 _ (by simp only [List.mem_cons, List.not_mem_nil, or_false]; omega) N1_0
        have G2_20 := k2.2 pn_1_1 _ (by simp only [List.mem_cons, List.not_mem_nil, or_false]; omega) N1_1
        have G2_21 := k2.2 pn_1_2 _ (by simp only [List.mem_cons, List.not_mem_nil, or_false]; omega) N1_2
        refine W.eq (g2 := F0 m 453 ls [.int (nI 0)]) (congrArg (fun z9 : Int32 => F0 m 453 ls [.int z9]) (show (r450 : Int32) = nI 0 from (by rw [e_r450, e_k, sel0]))) ?_
        have F11 : ws_2[11]? = some (mo, .inr (8, [.int (kRoad (xs (i + 2)) (nI 0)), .int (nI nf), .ref mf, .int (nI (0 + 1)), .ref md, .ref mi, .int lim, .int sup, .int off, .int plo, .int hrs, .ref ms9, .ref mk, .ref mt])) := by simpa only [e_k, sel0] using G2_a0
        refine lv_istore (lv' := [(6, .int (nI 0)), (5, .int 0), (4, .int (nI i)), (3, .ref ou), (2, .ref mo), (1, .ref x), (0, .ref b)]) hx hb dL_law_453 hl (by decide) rfl (fun ls hl => ?_)
        refine lv_aload_n hx hb dL_law_455 rfl (lv_at hl 4 rfl) ?_
        refine z_cr (z_rV (As := []) (rest := []) (ci := 8) (q0 := 11) X J (cX7_thrown_ok l E F11) (cwV 0 hts gL_law_X7_thrown rfl rfl rfl (by decide +kernel) ⟨Nat.le_of_ble_eq_true rfl, Nat.le_of_ble_eq_true rfl⟩) F11 rfl rfl rfl hl.1 rfl (Nat.le_of_ble_eq_true rfl) dL_law_456 ⟨by show _ ≤ 601024; omega, by show _ ≤ 7293034; omega⟩) (fun r456 e_r456 => ?_)
        subst e_r456
        refine lv_iload hx hb dL_law_459 (lv_at hl 1 rfl) ?_
        refine lv_icmp_eq (tgt := 466) hx hb dL_law_461 (by decide) (fun cz461 => ?_) (fun cz461 => by exact (cz461 e_k).elim)
        refine lv_iload hx hb dL_law_466 (lv_at hl 1 rfl) ?_
        refine lv_if_ne (tgt := 483) hx hb dL_law_468 (by decide) (fun cz468 => by exact absurd cz468 (by decide)) (fun cz468 => ?_)
        refine lv_aload_n hx hb dL_law_471 rfl (lv_at hl 3 rfl) ?_
        refine lv_iconst (v := 0) hx hb dL_law_472 (by decide) ?_
        refine z_lald X J 18 G2_18 (vp_in_nI (n := 0) (by decide) (by decide)) dL_law_473 ?_
        refine W.eq (g2 := F0 m 474 ls [.long ((nI 0).toInt64)]) (congrArg (fun z9 : Int64 => F0 m 474 ls [.long z9]) (show ((vp_updL o9 0 (nI 0).toInt64) (0 : Int32).toNatClampNeg : Int64) = (nI 0).toInt64 from rfl)) ?_
        refine lv_iload hx hb dL_law_474 (lv_at hl 0 rfl) ?_
        refine lv_i2l (v := (nI 0).toInt64) hx hb dL_law_476 rfl ?_
        refine W.lcmp hx hb dL_law_477 ?_
        refine W.eq (g2 := F0 m 478 ls [.int 0]) (congrArg (fun z9 : Int32 => F0 m 478 ls [.int z9]) (show (lg_cmp ((nI 0).toInt64) ((nI 0).toInt64) : Int32) = 0 from (lg_cmp_self _))) ?_
        refine lv_if_eq (tgt := 483) hx hb dL_law_478 (by decide) (fun cz478 => ?_) (fun cz478 => by exact absurd cz478 (by decide))
        refine lv_goto (tgt := 1425) hx hb dL_law_483 (by decide) ?_
        refine W.widen (k := cells + 700) (n := slots + 4500) (by omega) (by omega) ?_
        exact kk _ H locs _ ⟨fl, rl, wh, gr, gra, tr, tra, sc, ha, va, mf, md, mi, ms9, mk, mt, ea, nq_1, nf, (0 + 1), mc1, (mc2 + 1), lim, sup, off, plo, hrs, (kRoad (xs (i + 2)) (nI 0)), fa, (upd rd 0 0), (upd ri 0 (xs (i + 2))), sn, t9, hf, gf, kp, tp, (vp_updL o9 0 (nI 0).toInt64), G2_0, G2_1, G2_2, G2_3, G2_4, G2_5, G2_6, G2_7, G2_8, G2_9, G2_10, F11, G2_12, (by simpa only [e_k, sel0, b01z, b01o] using G2_a1), (by simpa only [e_k, sel0, b01z, b01o] using G2_a2), G2_15, G2_16, G2_17, G2_18, (hF.keep hk (by decide)), (RS.new (pq := pn_1_2) (pf := pn_1_0) (ps := pn_1_1) (by omega) G2_21 (by omega) G2_19 (by omega) G2_20), (Or.inl (sep_F hF hk (by decide) J.2.1 hE1 G2_21 (by omega))), hnf, (by omega), hok, (okR_add hor (Or.inl rfl) (kRoad0 e_k)), hRB, hBI⟩ J (lv_sub hl [2, 3, 4, 5, 6] rfl)
    · refine lv_iconst (v := 1) hx hb dL_law_412 (by decide) ?_
      refine lv_goto (tgt := 417) hx hb dL_law_413 (by decide) ?_
      refine lv_aload_n hx hb dL_law_417 rfl (lv_at hl 4 rfl) ?_
      refine lv_iload hx hb dL_law_418 (lv_at hl 0 rfl) ?_
      refine lv_iconst (v := 2) hx hb dL_law_420 (by decide) ?_
      refine lv_iadd hx hb dL_law_421 ?_
      refine W.eq (g2 := F0 m 422 ls [.int (nI (i + 2)), .ref b, .int 1, .ref x]) (congrArg (fun z9 : Int32 => F0 m 422 ls [.int z9, .ref b, .int 1, .ref x]) (show ((nI i) + 2 : Int32) = nI (i + 2) from (nI_add i 2))) ?_
      refine va_sld hx hb hXs hbl hbA J.2.2 (vp_in_nI (by omega) (by omega)) dL_law_422 ?_
      refine W.eq (g2 := F0 m 423 ls [.int (xs (i + 2)), .int 1, .ref x]) (congrArg (fun z9 : Int32 => F0 m 423 ls [.int z9, .int 1, .ref x]) (show (xs (nI (i + 2)).toNatClampNeg : Int32) = xs (i + 2) from (congrArg xs (nI_clamp (by omega))))) ?_
      refine lv_aload_n hx hb dL_law_423 rfl (lv_at hl 1 rfl) ?_
      refine z_xi J (z_wS (As := [.ref x, .int 1, .int (xs (i + 2)), .ref ou]) (rest := []) X hRz hNz J (cL_road_e_ok l hflags E Fa0 Fa2 Fa18 (by first | exact Or.inl rfl | exact Or.inr rfl)) (vx_cwSW (hh := [(0, 10, 13, 15), (0, 10, 17, 17)]) 4 hts gL_law_L_road rfl rfl rfl (by decide +kernel) ⟨Nat.le_of_ble_eq_true rfl, Nat.le_of_ble_eq_true rfl⟩) rfl hl.1 rfl (Nat.le_of_ble_eq_true rfl) dL_law_424 ⟨by show _ ≤ 601024; omega, by show _ ≤ 7293034; omega⟩) (fun nm ce q9 H locs hp9 J h1 h2 h3 => ?_) (fun r424 ws_1 H locs hp9 J => ?_)
      · exact False.elim (by exact hp9)
      rcases hp9 with ⟨e_v, e_k, rfl⟩ | ⟨e_v, e_k, k1, ⟨fo_1, sp_1, nq_1, hlen1, G1_a0, G1_a1, N1_0, N1_1, N1_2⟩⟩
      · subst e_v
        refine lv_istore (lv' := [(5, .int (kRoad (xs (i + 2)) (nI 0))), (4, .int (nI i)), (3, .ref ou), (2, .ref mo), (1, .ref x), (0, .ref b)]) hx hb dL_law_427 hl (by decide) rfl (fun ls hl => ?_)
        refine lv_aload_n hx hb dL_law_429 rfl (lv_at hl 3 rfl) ?_
        refine lv_aload_n hx hb dL_law_430 rfl (lv_at hl 5 rfl) ?_
        refine lv_iload hx hb dL_law_431 (lv_at hl 1 rfl) ?_
        refine lv_iconst (v := 1) hx hb dL_law_433 (by decide) ?_
        refine lv_iadd hx hb dL_law_434 ?_
        refine W.eq (g2 := F0 m 435 ls [.int (nI (i + 1)), .ref b, .ref mo]) (congrArg (fun z9 : Int32 => F0 m 435 ls [.int z9, .ref b, .ref mo]) (show ((nI i) + 1 : Int32) = nI (i + 1) from (nI_add i 1))) ?_
        refine va_sld hx hb hXs hbl hbA J.2.2 (vp_in_nI (by omega) (by omega)) dL_law_435 ?_
        refine W.eq (g2 := F0 m 436 ls [.int (xs (i + 1)), .ref mo]) (congrArg (fun z9 : Int32 => F0 m 436 ls [.int z9, .ref mo]) (show (xs (nI (i + 1)).toNatClampNeg : Int32) = xs (i + 1) from (congrArg xs (nI_clamp (by omega))))) ?_
        refine lv_if_eq (tgt := 443) hx hb dL_law_436 (by decide) (fun cz436 => by exact (cz409 cz436).elim) (fun cz436 => ?_)
        refine lv_iconst (v := 1) hx hb dL_law_439 (by decide) ?_
        refine lv_goto (tgt := 444) hx hb dL_law_440 (by decide) ?_
        refine lv_aload_n hx hb dL_law_444 rfl (lv_at hl 5 rfl) ?_
        refine lv_iload hx hb dL_law_445 (lv_at hl 1 rfl) ?_
        refine lv_iconst (v := 2) hx hb dL_law_447 (by decide) ?_
        refine lv_iadd hx hb dL_law_448 ?_
        refine W.eq (g2 := F0 m 449 ls [.int (nI (i + 2)), .ref b, .int 1, .ref mo]) (congrArg (fun z9 : Int32 => F0 m 449 ls [.int z9, .ref b, .int 1, .ref mo]) (show ((nI i) + 2 : Int32) = nI (i + 2) from (nI_add i 2))) ?_
        refine va_sld hx hb hXs hbl hbA J.2.2 (vp_in_nI (by omega) (by omega)) dL_law_449 ?_
        refine W.eq (g2 := F0 m 450 ls [.int (xs (i + 2)), .int 1, .ref mo]) (congrArg (fun z9 : Int32 => F0 m 450 ls [.int z9, .int 1, .ref mo]) (show (xs (nI (i + 2)).toNatClampNeg : Int32) = xs (i + 2) from (congrArg xs (nI_clamp (by omega))))) ?_
        refine z_ci J (z_rV (As := [.int 1, .int (xs (i + 2))]) (rest := []) (ci := 8) (q0 := 11) X J (cX7_road_ok l E Fa11 Fa13 Fa14 (by first | assumption | omega | decide)) (cwV 2 hts gL_law_X7_road rfl rfl rfl (by decide +kernel) ⟨Nat.le_of_ble_eq_true rfl, Nat.le_of_ble_eq_true rfl⟩) Fa11 rfl rfl rfl hl.1 rfl (Nat.le_of_ble_eq_true rfl) dL_law_450 ⟨by show _ ≤ 601024; omega, by show _ ≤ 7293034; omega⟩) (fun r450 ws_2 H locs hp9 J => ?_)
        obtain ⟨k2, G2_a0, G2_a1, G2_a2, e_r450⟩ := hp9
        have hk := hk.trans (k2.mono (by decide))
        have G2_0 := k2.2 0 _ (by decide) Fa0
        have G2_1 := k2.2 1 _ (by decide) Fa1
        have G2_2 := k2.2 2 _ (by decide) Fa2
        have G2_3 := k2.2 3 _ (by decide) Fa3
        have G2_4 := k2.2 4 _ (by decide) Fa4
        have G2_5 := k2.2 5 _ (by decide) Fa5
        have G2_6 := k2.2 6 _ (by decide) Fa6
        have G2_7 := k2.2 7 _ (by decide) Fa7
        have G2_8 := k2.2 8 _ (by decide) Fa8
        have G2_9 := k2.2 9 _ (by decide) Fa9
        have G2_10 := k2.2 10 _ (by decide) Fa10
        have G2_12 := k2.2 12 _ (by decide) Fa12
        have G2_15 := k2.2 15 _ (by decide) Fa15
        have G2_16 := k2.2 16 _ (by decide) Fa16
        have G2_17 := k2.2 17 _ (by decide) Fa17
        have G2_18 := k2.2 18 _ (by decide) Fa18
        have F11 : ws_2[11]? = some (mo, .inr (8, [.int (kRoad (xs (i + 2)) (nI 0)), .int (nI nf), .ref mf, .int (nI 0), .ref md, .ref mi, .int lim, .int sup, .int off, .int plo, .int hrs, .ref ms9, .ref mk, .ref mt])) := by simpa only [selN e_k] using G2_a0
        refine lv_istore (lv' := [(6, .int r450), (5, .int (kRoad (xs (i + 2)) (nI 0))), (4, .int (nI i)), (3, .ref ou), (2, .ref mo), (1, .ref x), (0, .ref b)]) hx hb dL_law_453 hl (by decide) rfl (fun ls hl => ?_)
        refine lv_aload_n hx hb dL_law_455 rfl (lv_at hl 4 rfl) ?_
        refine z_cr (z_rV (As := []) (rest := []) (ci := 8) (q0 := 11) X J (cX7_thrown_ok l E F11) (cwV 0 hts gL_law_X7_thrown rfl rfl rfl (by decide +kernel) ⟨Nat.le_of_ble_eq_true rfl, Nat.le_of_ble_eq_true rfl⟩) F11 rfl rfl rfl hl.1 rfl (Nat.le_of_ble_eq_true rfl) dL_law_456 ⟨by show _ ≤ 601024; omega, by show _ ≤ 7293034; omega⟩) (fun r456 e_r456 => ?_)
        subst e_r456
        refine lv_iload hx hb dL_law_459 (lv_at hl 1 rfl) ?_
        refine lv_icmp_eq (tgt := 466) hx hb dL_law_461 (by decide) (fun cz461 => ?_) (fun cz461 => by exact (cz461 rfl).elim)
        refine lv_iload hx hb dL_law_466 (lv_at hl 1 rfl) ?_
        refine lv_if_ne (tgt := 483) hx hb dL_law_468 (by decide) (fun cz468 => ?_) (fun cz468 => by exact (e_k cz468).elim)
        refine lv_goto (tgt := 1425) hx hb dL_law_483 (by decide) ?_
        refine W.widen (k := cells + 700) (n := slots + 4500) (by omega) (by omega) ?_
        exact kk _ H locs _ ⟨fl, rl, wh, gr, gra, tr, tra, sc, ha, va, mf, md, mi, ms9, mk, mt, ea, E.2.2.1, nf, 0, mc1, mc2, lim, sup, off, plo, hrs, (kRoad (xs (i + 2)) (nI 0)), fa, rd, ri, sn, t9, hf, gf, kp, tp, o9, G2_0, G2_1, G2_2, G2_3, G2_4, G2_5, G2_6, G2_7, G2_8, G2_9, G2_10, F11, G2_12, (by simpa only [selN e_k] using G2_a1), (by simpa only [selN e_k] using G2_a2), G2_15, G2_16, G2_17, G2_18, (hF.keep hk (by decide)), (hR.keep hk (by decide)), hSep, hnf, hnr, hok, hor, hRB, hBI⟩ J (lv_sub hl [2, 3, 4, 5, 6] rfl)
      · subst e_v
        have lp1 := hk.1
        have b_1_0 := zlt Fa0
        have b_1_1 := zlt Fa1
        have b_1_2 := zlt Fa2
        have b_1_3 := zlt Fa3
        have b_1_4 := zlt Fa4
        have b_1_5 := zlt Fa5
        have b_1_6 := zlt Fa6
        have b_1_7 := zlt Fa7
        have b_1_8 := zlt Fa8
        have b_1_9 := zlt Fa9
        have b_1_10 := zlt Fa10
        have b_1_11 := zlt Fa11
        have b_1_12 := zlt Fa12
        have b_1_13 := zlt Fa13
        have b_1_14 := zlt Fa14
        have b_1_15 := zlt Fa15
        have b_1_16 := zlt Fa16
        have b_1_17 := zlt Fa17
        have b_1_18 := zlt Fa18
        have hk := hk.trans (k1.mono (by decide))
        have G1_0 := k1.2 0 _ (by decide) Fa0
        have G1_1 := k1.2 1 _ (by decide) Fa1
        have G1_3 := k1.2 3 _ (by decide) Fa3
        have G1_4 := k1.2 4 _ (by decide) Fa4
        have G1_5 := k1.2 5 _ (by decide) Fa5
        have G1_6 := k1.2 6 _ (by decide) Fa6
        have G1_7 := k1.2 7 _ (by decide) Fa7
        have G1_8 := k1.2 8 _ (by decide) Fa8
        have G1_9 := k1.2 9 _ (by decide) Fa9
        have G1_10 := k1.2 10 _ (by decide) Fa10
        have G1_11 := k1.2 11 _ (by decide) Fa11
        have G1_12 := k1.2 12 _ (by decide) Fa12
        have G1_13 := k1.2 13 _ (by decide) Fa13
        have G1_14 := k1.2 14 _ (by decide) Fa14
        have G1_15 := k1.2 15 _ (by decide) Fa15
        have G1_16 := k1.2 16 _ (by decide) Fa16
        have G1_17 := k1.2 17 _ (by decide) Fa17
        obtain ⟨pn_1_0, hpn_1_0⟩ : ∃ z : Nat, z = ws.length + 0 := ⟨_, rfl⟩
        rw [← hpn_1_0] at N1_0
        obtain ⟨pn_1_1, hpn_1_1⟩ : ∃ z : Nat, z = ws.length + 1 := ⟨_, rfl⟩
        rw [← hpn_1_1] at N1_1
        obtain ⟨pn_1_2, hpn_1_2⟩ : ∃ z : Nat, z = ws.length + 2 := ⟨_, rfl⟩
        rw [← hpn_1_2] at N1_2
        refine lv_istore (lv' := [(5, .int 0), (4, .int (nI i)), (3, .ref ou), (2, .ref mo), (1, .ref x), (0, .ref b)]) hx hb dL_law_427 hl (by decide) rfl (fun ls hl => ?_)
        refine lv_aload_n hx hb dL_law_429 rfl (lv_at hl 3 rfl) ?_
        refine lv_aload_n hx hb dL_law_430 rfl (lv_at hl 5 rfl) ?_
        refine lv_iload hx hb dL_law_431 (lv_at hl 1 rfl) ?_
        refine lv_iconst (v := 1) hx hb dL_law_433 (by decide) ?_
        refine lv_iadd hx hb dL_law_434 ?_
        refine W.eq (g2 := F0 m 435 ls [.int (nI (i + 1)), .ref b, .ref mo]) (congrArg (fun z9 : Int32 => F0 m 435 ls [.int z9, .ref b, .ref mo]) (show ((nI i) + 1 : Int32) = nI (i + 1) from (nI_add i 1))) ?_
        refine va_sld hx hb hXs hbl hbA J.2.2 (vp_in_nI (by omega) (by omega)) dL_law_435 ?_
        refine W.eq (g2 := F0 m 436 ls [.int (xs (i + 1)), .ref mo]) (congrArg (fun z9 : Int32 => F0 m 436 ls [.int z9, .ref mo]) (show (xs (nI (i + 1)).toNatClampNeg : Int32) = xs (i + 1) from (congrArg xs (nI_clamp (by omega))))) ?_
        refine lv_if_eq (tgt := 443) hx hb dL_law_436 (by decide) (fun cz436 => by exact (cz409 cz436).elim) (fun cz436 => ?_)
        refine lv_iconst (v := 1) hx hb dL_law_439 (by decide) ?_
        refine lv_goto (tgt := 444) hx hb dL_law_440 (by decide) ?_
        refine lv_aload_n hx hb dL_law_444 rfl (lv_at hl 5 rfl) ?_
        refine lv_iload hx hb dL_law_445 (lv_at hl 1 rfl) ?_
        refine lv_iconst (v := 2) hx hb dL_law_447 (by decide) ?_
        refine lv_iadd hx hb dL_law_448 ?_
        refine W.eq (g2 := F0 m 449 ls [.int (nI (i + 2)), .ref b, .int 1, .ref mo]) (congrArg (fun z9 : Int32 => F0 m 449 ls [.int z9, .ref b, .int 1, .ref mo]) (show ((nI i) + 2 : Int32) = nI (i + 2) from (nI_add i 2))) ?_
        refine va_sld hx hb hXs hbl hbA J.2.2 (vp_in_nI (by omega) (by omega)) dL_law_449 ?_
        refine W.eq (g2 := F0 m 450 ls [.int (xs (i + 2)), .int 1, .ref mo]) (congrArg (fun z9 : Int32 => F0 m 450 ls [.int z9, .int 1, .ref mo]) (show (xs (nI (i + 2)).toNatClampNeg : Int32) = xs (i + 2) from (congrArg xs (nI_clamp (by omega))))) ?_
        refine z_ci J (z_rV (As := [.int 1, .int (xs (i + 2))]) (rest := []) (ci := 8) (q0 := 11) X J (cX7_road_ok l E G1_11 G1_13 G1_14 (by first | assumption | omega | decide)) (cwV 2 hts gL_law_X7_road rfl rfl rfl (by decide +kernel) ⟨Nat.le_of_ble_eq_true rfl, Nat.le_of_ble_eq_true rfl⟩) G1_11 rfl rfl rfl hl.1 rfl (Nat.le_of_ble_eq_true rfl) dL_law_450 ⟨by show _ ≤ 601024; omega, by show _ ≤ 7293034; omega⟩) (fun r450 ws_2 H locs hp9 J => ?_)
        obtain ⟨k2, G2_a0, G2_a1, G2_a2, e_r450⟩ := hp9
        have hk := hk.trans (k2.mono (by decide))
        have G2_0 := k2.2 0 _ (by decide) G1_0
        have G2_1 := k2.2 1 _ (by decide) G1_1
        have G2_2 := k2.2 2 _ (by decide) G1_a0
        have G2_3 := k2.2 3 _ (by decide) G1_3
        have G2_4 := k2.2 4 _ (by decide) G1_4
        have G2_5 := k2.2 5 _ (by decide) G1_5
        have G2_6 := k2.2 6 _ (by decide) G1_6
        have G2_7 := k2.2 7 _ (by decide) G1_7
        have G2_8 := k2.2 8 _ (by decide) G1_8
        have G2_9 := k2.2 9 _ (by decide) G1_9
        have G2_10 := k2.2 10 _ (by decide) G1_10
        have G2_12 := k2.2 12 _ (by decide) G1_12
        have G2_15 := k2.2 15 _ (by decide) G1_15
        have G2_16 := k2.2 16 _ (by decide) G1_16
        have G2_17 := k2.2 17 _ (by decide) G1_17
        have G2_18 := k2.2 18 _ (by decide) G1_a1
        have G2_19 := k2.2 pn_1_0 _ (by simp only [List.mem_cons, List.not_mem_nil, or_false]; omega) N1_0
        have G2_20 := k2.2 pn_1_1 _ (by simp only [List.mem_cons, List.not_mem_nil, or_false]; omega) N1_1
        have G2_21 := k2.2 pn_1_2 _ (by simp only [List.mem_cons, List.not_mem_nil, or_false]; omega) N1_2
        refine W.eq (g2 := F0 m 453 ls [.int (nI 0)]) (congrArg (fun z9 : Int32 => F0 m 453 ls [.int z9]) (show (r450 : Int32) = nI 0 from (by rw [e_r450, e_k, sel0]))) ?_
        have F11 : ws_2[11]? = some (mo, .inr (8, [.int (kRoad (xs (i + 2)) (nI 0)), .int (nI nf), .ref mf, .int (nI (0 + 1)), .ref md, .ref mi, .int lim, .int sup, .int off, .int plo, .int hrs, .ref ms9, .ref mk, .ref mt])) := by simpa only [e_k, sel0] using G2_a0
        refine lv_istore (lv' := [(6, .int (nI 0)), (5, .int 0), (4, .int (nI i)), (3, .ref ou), (2, .ref mo), (1, .ref x), (0, .ref b)]) hx hb dL_law_453 hl (by decide) rfl (fun ls hl => ?_)
        refine lv_aload_n hx hb dL_law_455 rfl (lv_at hl 4 rfl) ?_
        refine z_cr (z_rV (As := []) (rest := []) (ci := 8) (q0 := 11) X J (cX7_thrown_ok l E F11) (cwV 0 hts gL_law_X7_thrown rfl rfl rfl (by decide +kernel) ⟨Nat.le_of_ble_eq_true rfl, Nat.le_of_ble_eq_true rfl⟩) F11 rfl rfl rfl hl.1 rfl (Nat.le_of_ble_eq_true rfl) dL_law_456 ⟨by show _ ≤ 601024; omega, by show _ ≤ 7293034; omega⟩) (fun r456 e_r456 => ?_)
        subst e_r456
        refine lv_iload hx hb dL_law_459 (lv_at hl 1 rfl) ?_
        refine lv_icmp_eq (tgt := 466) hx hb dL_law_461 (by decide) (fun cz461 => ?_) (fun cz461 => by exact (cz461 e_k).elim)
        refine lv_iload hx hb dL_law_466 (lv_at hl 1 rfl) ?_
        refine lv_if_ne (tgt := 483) hx hb dL_law_468 (by decide) (fun cz468 => by exact absurd cz468 (by decide)) (fun cz468 => ?_)
        refine lv_aload_n hx hb dL_law_471 rfl (lv_at hl 3 rfl) ?_
        refine lv_iconst (v := 0) hx hb dL_law_472 (by decide) ?_
        refine z_lald X J 18 G2_18 (vp_in_nI (n := 0) (by decide) (by decide)) dL_law_473 ?_
        refine W.eq (g2 := F0 m 474 ls [.long ((nI 0).toInt64)]) (congrArg (fun z9 : Int64 => F0 m 474 ls [.long z9]) (show ((vp_updL o9 0 (nI 0).toInt64) (0 : Int32).toNatClampNeg : Int64) = (nI 0).toInt64 from rfl)) ?_
        refine lv_iload hx hb dL_law_474 (lv_at hl 0 rfl) ?_
        refine lv_i2l (v := (nI 0).toInt64) hx hb dL_law_476 rfl ?_
        refine W.lcmp hx hb dL_law_477 ?_
        refine W.eq (g2 := F0 m 478 ls [.int 0]) (congrArg (fun z9 : Int32 => F0 m 478 ls [.int z9]) (show (lg_cmp ((nI 0).toInt64) ((nI 0).toInt64) : Int32) = 0 from (lg_cmp_self _))) ?_
        refine lv_if_eq (tgt := 483) hx hb dL_law_478 (by decide) (fun cz478 => ?_) (fun cz478 => by exact absurd cz478 (by decide))
        refine lv_goto (tgt := 1425) hx hb dL_law_483 (by decide) ?_
        refine W.widen (k := cells + 700) (n := slots + 4500) (by omega) (by omega) ?_
        exact kk _ H locs _ ⟨fl, rl, wh, gr, gra, tr, tra, sc, ha, va, mf, md, mi, ms9, mk, mt, ea, nq_1, nf, (0 + 1), mc1, (mc2 + 1), lim, sup, off, plo, hrs, (kRoad (xs (i + 2)) (nI 0)), fa, (upd rd 0 1), (upd ri 0 (xs (i + 2))), sn, t9, hf, gf, kp, tp, (vp_updL o9 0 (nI 0).toInt64), G2_0, G2_1, G2_2, G2_3, G2_4, G2_5, G2_6, G2_7, G2_8, G2_9, G2_10, F11, G2_12, (by simpa only [e_k, sel0, b01z, b01o] using G2_a1), (by simpa only [e_k, sel0, b01z, b01o] using G2_a2), G2_15, G2_16, G2_17, G2_18, (hF.keep hk (by decide)), (RS.new (pq := pn_1_2) (pf := pn_1_0) (ps := pn_1_1) (by omega) G2_21 (by omega) G2_19 (by omega) G2_20), (Or.inl (sep_F hF hk (by decide) J.2.1 hE1 G2_21 (by omega))), hnf, (by omega), hok, (okR_add hor (Or.inr rfl) (kRoad0 e_k)), hRB, hBI⟩ J (lv_sub hl [2, 3, 4, 5, 6] rfl)
  · have hq19 := hRa.1
    have hR : RS E ws rd ri eb nr := Or.inr ⟨qe, g, fo9, qf9, sp9, qs9, hRa⟩
    have hk : zK [0, 1, 2, 3, 4, 5, 6, 7, 8, 9, 10, 11, 12, 13, 14, 15, 16, 17, 18, qe] ws ws := zK.rf
    refine lv_aload_n hx hb dL_law_402 rfl (lv_at hl 3 rfl) ?_
    refine lv_aload_n hx hb dL_law_403 rfl (lv_at hl 4 rfl) ?_
    refine lv_iload hx hb dL_law_404 (lv_at hl 0 rfl) ?_
    refine lv_iconst (v := 1) hx hb dL_law_406 (by decide) ?_
    refine lv_iadd hx hb dL_law_407 ?_
    refine W.eq (g2 := F0 m 408 ls [.int (nI (i + 1)), .ref b, .ref x]) (congrArg (fun z9 : Int32 => F0 m 408 ls [.int z9, .ref b, .ref x]) (show ((nI i) + 1 : Int32) = nI (i + 1) from (nI_add i 1))) ?_
    refine va_sld hx hb hXs hbl hbA J.2.2 (vp_in_nI (by omega) (by omega)) dL_law_408 ?_
    refine W.eq (g2 := F0 m 409 ls [.int (xs (i + 1)), .ref x]) (congrArg (fun z9 : Int32 => F0 m 409 ls [.int z9, .ref x]) (show (xs (nI (i + 1)).toNatClampNeg : Int32) = xs (i + 1) from (congrArg xs (nI_clamp (by omega))))) ?_
    refine lv_if_eq (tgt := 416) hx hb dL_law_409 (by decide) (fun cz409 => ?_) (fun cz409 => ?_)
    · refine lv_iconst (v := 0) hx hb dL_law_416 (by decide) ?_
      refine lv_aload_n hx hb dL_law_417 rfl (lv_at hl 4 rfl) ?_
      refine lv_iload hx hb dL_law_418 (lv_at hl 0 rfl) ?_
      refine lv_iconst (v := 2) hx hb dL_law_420 (by decide) ?_
      refine lv_iadd hx hb dL_law_421 ?_
      refine W.eq (g2 := F0 m 422 ls [.int (nI (i + 2)), .ref b, .int 0, .ref x]) (congrArg (fun z9 : Int32 => F0 m 422 ls [.int z9, .ref b, .int 0, .ref x]) (show ((nI i) + 2 : Int32) = nI (i + 2) from (nI_add i 2))) ?_
      refine va_sld hx hb hXs hbl hbA J.2.2 (vp_in_nI (by omega) (by omega)) dL_law_422 ?_
      refine W.eq (g2 := F0 m 423 ls [.int (xs (i + 2)), .int 0, .ref x]) (congrArg (fun z9 : Int32 => F0 m 423 ls [.int z9, .int 0, .ref x]) (show (xs (nI (i + 2)).toNatClampNeg : Int32) = xs (i + 2) from (congrArg xs (nI_clamp (by omega))))) ?_
      refine lv_aload_n hx hb dL_law_423 rfl (lv_at hl 1 rfl) ?_
      refine z_xi J (z_wS (As := [.ref x, .int 0, .int (xs (i + 2)), .ref ou]) (rest := []) X hRz hNz J (cL_road_n_ok l hflags E Fa0 Fa2 hRa.2.1 Fa18 (by first | exact Or.inl rfl | exact Or.inr rfl) hnr) (vx_cwSW (hh := [(0, 10, 13, 15), (0, 10, 17, 17)]) 4 hts gL_law_L_road rfl rfl rfl (by decide +kernel) ⟨Nat.le_of_ble_eq_true rfl, Nat.le_of_ble_eq_true rfl⟩) rfl hl.1 rfl (Nat.le_of_ble_eq_true rfl) dL_law_424 ⟨by show _ ≤ 601024; omega, by show _ ≤ 7293034; omega⟩) (fun nm ce q9 H locs hp9 J h1 h2 h3 => ?_) (fun r424 ws_1 H locs hp9 J => ?_)
      · exact False.elim (by exact hp9)
      rcases hp9 with ⟨e_v, e_k, rfl⟩ | ⟨e_v, e_k, k1, ⟨fo_1, sp_1, hlen1, G1_a0, G1_a1, G1_a2, N1_0, N1_1⟩⟩
      · subst e_v
        have hk : zK [0, 1, 2, 3, 4, 5, 6, 7, 8, 9, 10, 11, 12, 13, 14, 15, 16, 17, 18] ws ws := zK.rf
        refine lv_istore (lv' := [(5, .int (kRoad (xs (i + 2)) (nI nr))), (4, .int (nI i)), (3, .ref ou), (2, .ref mo), (1, .ref x), (0, .ref b)]) hx hb dL_law_427 hl (by decide) rfl (fun ls hl => ?_)
        refine lv_aload_n hx hb dL_law_429 rfl (lv_at hl 3 rfl) ?_
        refine lv_aload_n hx hb dL_law_430 rfl (lv_at hl 5 rfl) ?_
        refine lv_iload hx hb dL_law_431 (lv_at hl 1 rfl) ?_
        refine lv_iconst (v := 1) hx hb dL_law_433 (by decide) ?_
        refine lv_iadd hx hb dL_law_434 ?_
        refine W.eq (g2 := F0 m 435 ls [.int (nI (i + 1)), .ref b, .ref mo]) (congrArg (fun z9 : Int32 => F0 m 435 ls [.int z9, .ref b, .ref mo]) (show ((nI i) + 1 : Int32) = nI (i + 1) from (nI_add i 1))) ?_
        refine va_sld hx hb hXs hbl hbA J.2.2 (vp_in_nI (by omega) (by omega)) dL_law_435 ?_
        refine W.eq (g2 := F0 m 436 ls [.int (xs (i + 1)), .ref mo]) (congrArg (fun z9 : Int32 => F0 m 436 ls [.int z9, .ref mo]) (show (xs (nI (i + 1)).toNatClampNeg : Int32) = xs (i + 1) from (congrArg xs (nI_clamp (by omega))))) ?_
        refine lv_if_eq (tgt := 443) hx hb dL_law_436 (by decide) (fun cz436 => ?_) (fun cz436 => by exact (cz436 cz409).elim)
        refine lv_iconst (v := 0) hx hb dL_law_443 (by decide) ?_
        refine lv_aload_n hx hb dL_law_444 rfl (lv_at hl 5 rfl) ?_
        refine lv_iload hx hb dL_law_445 (lv_at hl 1 rfl) ?_
        refine lv_iconst (v := 2) hx hb dL_law_447 (by decide) ?_
        refine lv_iadd hx hb dL_law_448 ?_
        refine W.eq (g2 := F0 m 449 ls [.int (nI (i + 2)), .ref b, .int 0, .ref mo]) (congrArg (fun z9 : Int32 => F0 m 449 ls [.int z9, .ref b, .int 0, .ref mo]) (show ((nI i) + 2 : Int32) = nI (i + 2) from (nI_add i 2))) ?_
        refine va_sld hx hb hXs hbl hbA J.2.2 (vp_in_nI (by omega) (by omega)) dL_law_449 ?_
        refine W.eq (g2 := F0 m 450 ls [.int (xs (i + 2)), .int 0, .ref mo]) (congrArg (fun z9 : Int32 => F0 m 450 ls [.int z9, .int 0, .ref mo]) (show (xs (nI (i + 2)).toNatClampNeg : Int32) = xs (i + 2) from (congrArg xs (nI_clamp (by omega))))) ?_
        refine z_ci J (z_rV (As := [.int 0, .int (xs (i + 2))]) (rest := []) (ci := 8) (q0 := 11) X J (cX7_road_ok l E Fa11 Fa13 Fa14 (by first | assumption | omega | decide)) (cwV 2 hts gL_law_X7_road rfl rfl rfl (by decide +kernel) ⟨Nat.le_of_ble_eq_true rfl, Nat.le_of_ble_eq_true rfl⟩) Fa11 rfl rfl rfl hl.1 rfl (Nat.le_of_ble_eq_true rfl) dL_law_450 ⟨by show _ ≤ 601024; omega, by show _ ≤ 7293034; omega⟩) (fun r450 ws_2 H locs hp9 J => ?_)
        obtain ⟨k2, G2_a0, G2_a1, G2_a2, e_r450⟩ := hp9
        have hk := hk.trans (k2.mono (by decide))
        have G2_0 := k2.2 0 _ (by decide) Fa0
        have G2_1 := k2.2 1 _ (by decide) Fa1
        have G2_2 := k2.2 2 _ (by decide) Fa2
        have G2_3 := k2.2 3 _ (by decide) Fa3
        have G2_4 := k2.2 4 _ (by decide) Fa4
        have G2_5 := k2.2 5 _ (by decide) Fa5
        have G2_6 := k2.2 6 _ (by decide) Fa6
        have G2_7 := k2.2 7 _ (by decide) Fa7
        have G2_8 := k2.2 8 _ (by decide) Fa8
        have G2_9 := k2.2 9 _ (by decide) Fa9
        have G2_10 := k2.2 10 _ (by decide) Fa10
        have G2_12 := k2.2 12 _ (by decide) Fa12
        have G2_15 := k2.2 15 _ (by decide) Fa15
        have G2_16 := k2.2 16 _ (by decide) Fa16
        have G2_17 := k2.2 17 _ (by decide) Fa17
        have G2_18 := k2.2 18 _ (by decide) Fa18
        have G2_19 := k2.2 qe _ (by simp only [List.mem_cons, List.not_mem_nil, or_false]; omega) hRa.2.1
        have F11 : ws_2[11]? = some (mo, .inr (8, [.int (kRoad (xs (i + 2)) (nI nr)), .int (nI nf), .ref mf, .int (nI nr), .ref md, .ref mi, .int lim, .int sup, .int off, .int plo, .int hrs, .ref ms9, .ref mk, .ref mt])) := by simpa only [selN e_k] using G2_a0
        refine lv_istore (lv' := [(6, .int r450), (5, .int (kRoad (xs (i + 2)) (nI nr))), (4, .int (nI i)), (3, .ref ou), (2, .ref mo), (1, .ref x), (0, .ref b)]) hx hb dL_law_453 hl (by decide) rfl (fun ls hl => ?_)
        refine lv_aload_n hx hb dL_law_455 rfl (lv_at hl 4 rfl) ?_
        refine z_cr (z_rV (As := []) (rest := []) (ci := 8) (q0 := 11) X J (cX7_thrown_ok l E F11) (cwV 0 hts gL_law_X7_thrown rfl rfl rfl (by decide +kernel) ⟨Nat.le_of_ble_eq_true rfl, Nat.le_of_ble_eq_true rfl⟩) F11 rfl rfl rfl hl.1 rfl (Nat.le_of_ble_eq_true rfl) dL_law_456 ⟨by show _ ≤ 601024; omega, by show _ ≤ 7293034; omega⟩) (fun r456 e_r456 => ?_)
        subst e_r456
        refine lv_iload hx hb dL_law_459 (lv_at hl 1 rfl) ?_
        refine lv_icmp_eq (tgt := 466) hx hb dL_law_461 (by decide) (fun cz461 => ?_) (fun cz461 => by exact (cz461 rfl).elim)
        refine lv_iload hx hb dL_law_466 (lv_at hl 1 rfl) ?_
        refine lv_if_ne (tgt := 483) hx hb dL_law_468 (by decide) (fun cz468 => ?_) (fun cz468 => by exact (e_k cz468).elim)
        refine lv_goto (tgt := 1425) hx hb dL_law_483 (by decide) ?_
        refine W.widen (k := cells + 700) (n := slots + 4500) (by omega) (by omega) ?_
        exact kk _ H locs _ ⟨fl, rl, wh, gr, gra, tr, tra, sc, ha, va, mf, md, mi, ms9, mk, mt, ea, eb, nf, nr, mc1, mc2, lim, sup, off, plo, hrs, (kRoad (xs (i + 2)) (nI nr)), fa, rd, ri, sn, t9, hf, gf, kp, tp, o9, G2_0, G2_1, G2_2, G2_3, G2_4, G2_5, G2_6, G2_7, G2_8, G2_9, G2_10, F11, G2_12, (by simpa only [selN e_k] using G2_a1), (by simpa only [selN e_k] using G2_a2), G2_15, G2_16, G2_17, G2_18, (hF.keep hk (by decide)), (hR.keep hk (by decide)), hSep, hnf, hnr, hok, hor, hRB, hBI⟩ J (lv_sub hl [2, 3, 4, 5, 6] rfl)
      · subst e_v
        have lp1 := hk.1
        have b_1_0 := zlt Fa0
        have b_1_1 := zlt Fa1
        have b_1_2 := zlt Fa2
        have b_1_3 := zlt Fa3
        have b_1_4 := zlt Fa4
        have b_1_5 := zlt Fa5
        have b_1_6 := zlt Fa6
        have b_1_7 := zlt Fa7
        have b_1_8 := zlt Fa8
        have b_1_9 := zlt Fa9
        have b_1_10 := zlt Fa10
        have b_1_11 := zlt Fa11
        have b_1_12 := zlt Fa12
        have b_1_13 := zlt Fa13
        have b_1_14 := zlt Fa14
        have b_1_15 := zlt Fa15
        have b_1_16 := zlt Fa16
        have b_1_17 := zlt Fa17
        have b_1_18 := zlt Fa18
        have b_1_19 := zlt hRa.2.1
        have hk := hk.trans (k1.mono (by intro q9 hq9; simp only [List.mem_cons, List.not_mem_nil, or_false] at hq9 ⊢; omega))
        have G1_0 := k1.2 0 _ (by simp only [List.mem_cons, List.not_mem_nil, or_false]; omega) Fa0
        have G1_1 := k1.2 1 _ (by simp only [List.mem_cons, List.not_mem_nil, or_false]; omega) Fa1
        have G1_3 := k1.2 3 _ (by simp only [List.mem_cons, List.not_mem_nil, or_false]; omega) Fa3
        have G1_4 := k1.2 4 _ (by simp only [List.mem_cons, List.not_mem_nil, or_false]; omega) Fa4
        have G1_5 := k1.2 5 _ (by simp only [List.mem_cons, List.not_mem_nil, or_false]; omega) Fa5
        have G1_6 := k1.2 6 _ (by simp only [List.mem_cons, List.not_mem_nil, or_false]; omega) Fa6
        have G1_7 := k1.2 7 _ (by simp only [List.mem_cons, List.not_mem_nil, or_false]; omega) Fa7
        have G1_8 := k1.2 8 _ (by simp only [List.mem_cons, List.not_mem_nil, or_false]; omega) Fa8
        have G1_9 := k1.2 9 _ (by simp only [List.mem_cons, List.not_mem_nil, or_false]; omega) Fa9
        have G1_10 := k1.2 10 _ (by simp only [List.mem_cons, List.not_mem_nil, or_false]; omega) Fa10
        have G1_11 := k1.2 11 _ (by simp only [List.mem_cons, List.not_mem_nil, or_false]; omega) Fa11
        have G1_12 := k1.2 12 _ (by simp only [List.mem_cons, List.not_mem_nil, or_false]; omega) Fa12
        have G1_13 := k1.2 13 _ (by simp only [List.mem_cons, List.not_mem_nil, or_false]; omega) Fa13
        have G1_14 := k1.2 14 _ (by simp only [List.mem_cons, List.not_mem_nil, or_false]; omega) Fa14
        have G1_15 := k1.2 15 _ (by simp only [List.mem_cons, List.not_mem_nil, or_false]; omega) Fa15
        have G1_16 := k1.2 16 _ (by simp only [List.mem_cons, List.not_mem_nil, or_false]; omega) Fa16
        have G1_17 := k1.2 17 _ (by simp only [List.mem_cons, List.not_mem_nil, or_false]; omega) Fa17
        obtain ⟨pn_1_0, hpn_1_0⟩ : ∃ z : Nat, z = ws.length + 0 := ⟨_, rfl⟩
        rw [← hpn_1_0] at N1_0
        obtain ⟨pn_1_1, hpn_1_1⟩ : ∃ z : Nat, z = ws.length + 1 := ⟨_, rfl⟩
        rw [← hpn_1_1] at N1_1
        refine lv_istore (lv' := [(5, .int 0), (4, .int (nI i)), (3, .ref ou), (2, .ref mo), (1, .ref x), (0, .ref b)]) hx hb dL_law_427 hl (by decide) rfl (fun ls hl => ?_)
        refine lv_aload_n hx hb dL_law_429 rfl (lv_at hl 3 rfl) ?_
        refine lv_aload_n hx hb dL_law_430 rfl (lv_at hl 5 rfl) ?_
        refine lv_iload hx hb dL_law_431 (lv_at hl 1 rfl) ?_
        refine lv_iconst (v := 1) hx hb dL_law_433 (by decide) ?_
        refine lv_iadd hx hb dL_law_434 ?_
        refine W.eq (g2 := F0 m 435 ls [.int (nI (i + 1)), .ref b, .ref mo]) (congrArg (fun z9 : Int32 => F0 m 435 ls [.int z9, .ref b, .ref mo]) (show ((nI i) + 1 : Int32) = nI (i + 1) from (nI_add i 1))) ?_
        refine va_sld hx hb hXs hbl hbA J.2.2 (vp_in_nI (by omega) (by omega)) dL_law_435 ?_
        refine W.eq (g2 := F0 m 436 ls [.int (xs (i + 1)), .ref mo]) (congrArg (fun z9 : Int32 => F0 m 436 ls [.int z9, .ref mo]) (show (xs (nI (i + 1)).toNatClampNeg : Int32) = xs (i + 1) from (congrArg xs (nI_clamp (by omega))))) ?_
        refine lv_if_eq (tgt := 443) hx hb dL_law_436 (by decide) (fun cz436 => ?_) (fun cz436 => by exact (cz436 cz409).elim)
        refine lv_iconst (v := 0) hx hb dL_law_443 (by decide) ?_
        refine lv_aload_n hx hb dL_law_444 rfl (lv_at hl 5 rfl) ?_
        refine lv_iload hx hb dL_law_445 (lv_at hl 1 rfl) ?_
        refine lv_iconst (v := 2) hx hb dL_law_447 (by decide) ?_
        refine lv_iadd hx hb dL_law_448 ?_
        refine W.eq (g2 := F0 m 449 ls [.int (nI (i + 2)), .ref b, .int 0, .ref mo]) (congrArg (fun z9 : Int32 => F0 m 449 ls [.int z9, .ref b, .int 0, .ref mo]) (show ((nI i) + 2 : Int32) = nI (i + 2) from (nI_add i 2))) ?_
        refine va_sld hx hb hXs hbl hbA J.2.2 (vp_in_nI (by omega) (by omega)) dL_law_449 ?_
        refine W.eq (g2 := F0 m 450 ls [.int (xs (i + 2)), .int 0, .ref mo]) (congrArg (fun z9 : Int32 => F0 m 450 ls [.int z9, .int 0, .ref mo]) (show (xs (nI (i + 2)).toNatClampNeg : Int32) = xs (i + 2) from (congrArg xs (nI_clamp (by omega))))) ?_
        refine z_ci J (z_rV (As := [.int 0, .int (xs (i + 2))]) (rest := []) (ci := 8) (q0 := 11) X J (cX7_road_ok l E G1_11 G1_13 G1_14 (by first | assumption | omega | decide)) (cwV 2 hts gL_law_X7_road rfl rfl rfl (by decide +kernel) ⟨Nat.le_of_ble_eq_true rfl, Nat.le_of_ble_eq_true rfl⟩) G1_11 rfl rfl rfl hl.1 rfl (Nat.le_of_ble_eq_true rfl) dL_law_450 ⟨by show _ ≤ 601024; omega, by show _ ≤ 7293034; omega⟩) (fun r450 ws_2 H locs hp9 J => ?_)
        obtain ⟨k2, G2_a0, G2_a1, G2_a2, e_r450⟩ := hp9
        have hk := hk.trans (k2.mono (by intro q9 hq9; simp only [List.mem_cons, List.not_mem_nil, or_false] at hq9 ⊢; omega))
        have G2_0 := k2.2 0 _ (by decide) G1_0
        have G2_1 := k2.2 1 _ (by decide) G1_1
        have G2_2 := k2.2 2 _ (by decide) G1_a0
        have G2_3 := k2.2 3 _ (by decide) G1_3
        have G2_4 := k2.2 4 _ (by decide) G1_4
        have G2_5 := k2.2 5 _ (by decide) G1_5
        have G2_6 := k2.2 6 _ (by decide) G1_6
        have G2_7 := k2.2 7 _ (by decide) G1_7
        have G2_8 := k2.2 8 _ (by decide) G1_8
        have G2_9 := k2.2 9 _ (by decide) G1_9
        have G2_10 := k2.2 10 _ (by decide) G1_10
        have G2_12 := k2.2 12 _ (by decide) G1_12
        have G2_15 := k2.2 15 _ (by decide) G1_15
        have G2_16 := k2.2 16 _ (by decide) G1_16
        have G2_17 := k2.2 17 _ (by decide) G1_17
        have G2_18 := k2.2 18 _ (by decide) G1_a2
        have G2_19 := k2.2 qe _ (by simp only [List.mem_cons, List.not_mem_nil, or_false]; omega) G1_a1
        have G2_20 := k2.2 pn_1_0 _ (by simp only [List.mem_cons, List.not_mem_nil, or_false]; omega) N1_0
        have G2_21 := k2.2 pn_1_1 _ (by simp only [List.mem_cons, List.not_mem_nil, or_false]; omega) N1_1
        refine W.eq (g2 := F0 m 453 ls [.int (nI nr)]) (congrArg (fun z9 : Int32 => F0 m 453 ls [.int z9]) (show (r450 : Int32) = nI nr from (by rw [e_r450, e_k, sel0]))) ?_
        have F11 : ws_2[11]? = some (mo, .inr (8, [.int (kRoad (xs (i + 2)) (nI nr)), .int (nI nf), .ref mf, .int (nI (nr + 1)), .ref md, .ref mi, .int lim, .int sup, .int off, .int plo, .int hrs, .ref ms9, .ref mk, .ref mt])) := by simpa only [e_k, sel0] using G2_a0
        refine lv_istore (lv' := [(6, .int (nI nr)), (5, .int 0), (4, .int (nI i)), (3, .ref ou), (2, .ref mo), (1, .ref x), (0, .ref b)]) hx hb dL_law_453 hl (by decide) rfl (fun ls hl => ?_)
        refine lv_aload_n hx hb dL_law_455 rfl (lv_at hl 4 rfl) ?_
        refine z_cr (z_rV (As := []) (rest := []) (ci := 8) (q0 := 11) X J (cX7_thrown_ok l E F11) (cwV 0 hts gL_law_X7_thrown rfl rfl rfl (by decide +kernel) ⟨Nat.le_of_ble_eq_true rfl, Nat.le_of_ble_eq_true rfl⟩) F11 rfl rfl rfl hl.1 rfl (Nat.le_of_ble_eq_true rfl) dL_law_456 ⟨by show _ ≤ 601024; omega, by show _ ≤ 7293034; omega⟩) (fun r456 e_r456 => ?_)
        subst e_r456
        refine lv_iload hx hb dL_law_459 (lv_at hl 1 rfl) ?_
        refine lv_icmp_eq (tgt := 466) hx hb dL_law_461 (by decide) (fun cz461 => ?_) (fun cz461 => by exact (cz461 e_k).elim)
        refine lv_iload hx hb dL_law_466 (lv_at hl 1 rfl) ?_
        refine lv_if_ne (tgt := 483) hx hb dL_law_468 (by decide) (fun cz468 => by exact absurd cz468 (by decide)) (fun cz468 => ?_)
        refine lv_aload_n hx hb dL_law_471 rfl (lv_at hl 3 rfl) ?_
        refine lv_iconst (v := 0) hx hb dL_law_472 (by decide) ?_
        refine z_lald X J 18 G2_18 (vp_in_nI (n := 0) (by decide) (by decide)) dL_law_473 ?_
        refine W.eq (g2 := F0 m 474 ls [.long ((nI nr).toInt64)]) (congrArg (fun z9 : Int64 => F0 m 474 ls [.long z9]) (show ((vp_updL o9 0 (nI nr).toInt64) (0 : Int32).toNatClampNeg : Int64) = (nI nr).toInt64 from rfl)) ?_
        refine lv_iload hx hb dL_law_474 (lv_at hl 0 rfl) ?_
        refine lv_i2l (v := (nI nr).toInt64) hx hb dL_law_476 rfl ?_
        refine W.lcmp hx hb dL_law_477 ?_
        refine W.eq (g2 := F0 m 478 ls [.int 0]) (congrArg (fun z9 : Int32 => F0 m 478 ls [.int z9]) (show (lg_cmp ((nI nr).toInt64) ((nI nr).toInt64) : Int32) = 0 from (lg_cmp_self _))) ?_
        refine lv_if_eq (tgt := 483) hx hb dL_law_478 (by decide) (fun cz478 => ?_) (fun cz478 => by exact absurd cz478 (by decide))
        refine lv_goto (tgt := 1425) hx hb dL_law_483 (by decide) ?_
        refine W.widen (k := cells + 700) (n := slots + 4500) (by omega) (by omega) ?_
        exact kk _ H locs _ ⟨fl, rl, wh, gr, gra, tr, tra, sc, ha, va, mf, md, mi, ms9, mk, mt, ea, eb, nf, (nr + 1), mc1, (mc2 + 1), lim, sup, off, plo, hrs, (kRoad (xs (i + 2)) (nI nr)), fa, (upd rd nr 0), (upd ri nr (xs (i + 2))), sn, t9, hf, gf, kp, tp, (vp_updL o9 0 (nI nr).toInt64), G2_0, G2_1, G2_2, G2_3, G2_4, G2_5, G2_6, G2_7, G2_8, G2_9, G2_10, F11, G2_12, (by simpa only [e_k, sel0, b01z, b01o] using G2_a1), (by simpa only [e_k, sel0, b01z, b01o] using G2_a2), G2_15, G2_16, G2_17, G2_18, (hF.keepE hk hRa.2.1 rfl rfl (hSep.ne2 hJ9 hE1 hRa.2.1) (by intro q hq; simp only [List.mem_cons, List.not_mem_nil, or_false] at hq; omega)), (RS.add (pf := pn_1_0) (ps := pn_1_1) hRa.1 hRa.2.1 hRa.2.2 hk (by intro q hq; simp only [List.mem_cons, List.not_mem_nil, or_false] at hq; omega) G2_19 (by omega) G2_20 (by omega) G2_21), hSep, hnf, (kR_lt hnr e_k), hok, (okR_add hor (Or.inl rfl) (kRoad0 e_k)), hRB, hBI⟩ J (lv_sub hl [2, 3, 4, 5, 6] rfl)
    · refine lv_iconst (v := 1) hx hb dL_law_412 (by decide) ?_
      refine lv_goto (tgt := 417) hx hb dL_law_413 (by decide) ?_
      refine lv_aload_n hx hb dL_law_417 rfl (lv_at hl 4 rfl) ?_
      refine lv_iload hx hb dL_law_418 (lv_at hl 0 rfl) ?_
      refine lv_iconst (v := 2) hx hb dL_law_420 (by decide) ?_
      refine lv_iadd hx hb dL_law_421 ?_
      refine W.eq (g2 := F0 m 422 ls [.int (nI (i + 2)), .ref b, .int 1, .ref x]) (congrArg (fun z9 : Int32 => F0 m 422 ls [.int z9, .ref b, .int 1, .ref x]) (show ((nI i) + 2 : Int32) = nI (i + 2) from (nI_add i 2))) ?_
      refine va_sld hx hb hXs hbl hbA J.2.2 (vp_in_nI (by omega) (by omega)) dL_law_422 ?_
      refine W.eq (g2 := F0 m 423 ls [.int (xs (i + 2)), .int 1, .ref x]) (congrArg (fun z9 : Int32 => F0 m 423 ls [.int z9, .int 1, .ref x]) (show (xs (nI (i + 2)).toNatClampNeg : Int32) = xs (i + 2) from (congrArg xs (nI_clamp (by omega))))) ?_
      refine lv_aload_n hx hb dL_law_423 rfl (lv_at hl 1 rfl) ?_
      refine z_xi J (z_wS (As := [.ref x, .int 1, .int (xs (i + 2)), .ref ou]) (rest := []) X hRz hNz J (cL_road_n_ok l hflags E Fa0 Fa2 hRa.2.1 Fa18 (by first | exact Or.inl rfl | exact Or.inr rfl) hnr) (vx_cwSW (hh := [(0, 10, 13, 15), (0, 10, 17, 17)]) 4 hts gL_law_L_road rfl rfl rfl (by decide +kernel) ⟨Nat.le_of_ble_eq_true rfl, Nat.le_of_ble_eq_true rfl⟩) rfl hl.1 rfl (Nat.le_of_ble_eq_true rfl) dL_law_424 ⟨by show _ ≤ 601024; omega, by show _ ≤ 7293034; omega⟩) (fun nm ce q9 H locs hp9 J h1 h2 h3 => ?_) (fun r424 ws_1 H locs hp9 J => ?_)
      · exact False.elim (by exact hp9)
      rcases hp9 with ⟨e_v, e_k, rfl⟩ | ⟨e_v, e_k, k1, ⟨fo_1, sp_1, hlen1, G1_a0, G1_a1, G1_a2, N1_0, N1_1⟩⟩
      · subst e_v
        have hk : zK [0, 1, 2, 3, 4, 5, 6, 7, 8, 9, 10, 11, 12, 13, 14, 15, 16, 17, 18] ws ws := zK.rf
        refine lv_istore (lv' := [(5, .int (kRoad (xs (i + 2)) (nI nr))), (4, .int (nI i)), (3, .ref ou), (2, .ref mo), (1, .ref x), (0, .ref b)]) hx hb dL_law_427 hl (by decide) rfl (fun ls hl => ?_)
        refine lv_aload_n hx hb dL_law_429 rfl (lv_at hl 3 rfl) ?_
        refine lv_aload_n hx hb dL_law_430 rfl (lv_at hl 5 rfl) ?_
        refine lv_iload hx hb dL_law_431 (lv_at hl 1 rfl) ?_
        refine lv_iconst (v := 1) hx hb dL_law_433 (by decide) ?_
        refine lv_iadd hx hb dL_law_434 ?_
        refine W.eq (g2 := F0 m 435 ls [.int (nI (i + 1)), .ref b, .ref mo]) (congrArg (fun z9 : Int32 => F0 m 435 ls [.int z9, .ref b, .ref mo]) (show ((nI i) + 1 : Int32) = nI (i + 1) from (nI_add i 1))) ?_
        refine va_sld hx hb hXs hbl hbA J.2.2 (vp_in_nI (by omega) (by omega)) dL_law_435 ?_
        refine W.eq (g2 := F0 m 436 ls [.int (xs (i + 1)), .ref mo]) (congrArg (fun z9 : Int32 => F0 m 436 ls [.int z9, .ref mo]) (show (xs (nI (i + 1)).toNatClampNeg : Int32) = xs (i + 1) from (congrArg xs (nI_clamp (by omega))))) ?_
        refine lv_if_eq (tgt := 443) hx hb dL_law_436 (by decide) (fun cz436 => by exact (cz409 cz436).elim) (fun cz436 => ?_)
        refine lv_iconst (v := 1) hx hb dL_law_439 (by decide) ?_
        refine lv_goto (tgt := 444) hx hb dL_law_440 (by decide) ?_
        refine lv_aload_n hx hb dL_law_444 rfl (lv_at hl 5 rfl) ?_
        refine lv_iload hx hb dL_law_445 (lv_at hl 1 rfl) ?_
        refine lv_iconst (v := 2) hx hb dL_law_447 (by decide) ?_
        refine lv_iadd hx hb dL_law_448 ?_
        refine W.eq (g2 := F0 m 449 ls [.int (nI (i + 2)), .ref b, .int 1, .ref mo]) (congrArg (fun z9 : Int32 => F0 m 449 ls [.int z9, .ref b, .int 1, .ref mo]) (show ((nI i) + 2 : Int32) = nI (i + 2) from (nI_add i 2))) ?_
        refine va_sld hx hb hXs hbl hbA J.2.2 (vp_in_nI (by omega) (by omega)) dL_law_449 ?_
        refine W.eq (g2 := F0 m 450 ls [.int (xs (i + 2)), .int 1, .ref mo]) (congrArg (fun z9 : Int32 => F0 m 450 ls [.int z9, .int 1, .ref mo]) (show (xs (nI (i + 2)).toNatClampNeg : Int32) = xs (i + 2) from (congrArg xs (nI_clamp (by omega))))) ?_
        refine z_ci J (z_rV (As := [.int 1, .int (xs (i + 2))]) (rest := []) (ci := 8) (q0 := 11) X J (cX7_road_ok l E Fa11 Fa13 Fa14 (by first | assumption | omega | decide)) (cwV 2 hts gL_law_X7_road rfl rfl rfl (by decide +kernel) ⟨Nat.le_of_ble_eq_true rfl, Nat.le_of_ble_eq_true rfl⟩) Fa11 rfl rfl rfl hl.1 rfl (Nat.le_of_ble_eq_true rfl) dL_law_450 ⟨by show _ ≤ 601024; omega, by show _ ≤ 7293034; omega⟩) (fun r450 ws_2 H locs hp9 J => ?_)
        obtain ⟨k2, G2_a0, G2_a1, G2_a2, e_r450⟩ := hp9
        have hk := hk.trans (k2.mono (by decide))
        have G2_0 := k2.2 0 _ (by decide) Fa0
        have G2_1 := k2.2 1 _ (by decide) Fa1
        have G2_2 := k2.2 2 _ (by decide) Fa2
        have G2_3 := k2.2 3 _ (by decide) Fa3
        have G2_4 := k2.2 4 _ (by decide) Fa4
        have G2_5 := k2.2 5 _ (by decide) Fa5
        have G2_6 := k2.2 6 _ (by decide) Fa6
        have G2_7 := k2.2 7 _ (by decide) Fa7
        have G2_8 := k2.2 8 _ (by decide) Fa8
        have G2_9 := k2.2 9 _ (by decide) Fa9
        have G2_10 := k2.2 10 _ (by decide) Fa10
        have G2_12 := k2.2 12 _ (by decide) Fa12
        have G2_15 := k2.2 15 _ (by decide) Fa15
        have G2_16 := k2.2 16 _ (by decide) Fa16
        have G2_17 := k2.2 17 _ (by decide) Fa17
        have G2_18 := k2.2 18 _ (by decide) Fa18
        have G2_19 := k2.2 qe _ (by simp only [List.mem_cons, List.not_mem_nil, or_false]; omega) hRa.2.1
        have F11 : ws_2[11]? = some (mo, .inr (8, [.int (kRoad (xs (i + 2)) (nI nr)), .int (nI nf), .ref mf, .int (nI nr), .ref md, .ref mi, .int lim, .int sup, .int off, .int plo, .int hrs, .ref ms9, .ref mk, .ref mt])) := by simpa only [selN e_k] using G2_a0
        refine lv_istore (lv' := [(6, .int r450), (5, .int (kRoad (xs (i + 2)) (nI nr))), (4, .int (nI i)), (3, .ref ou), (2, .ref mo), (1, .ref x), (0, .ref b)]) hx hb dL_law_453 hl (by decide) rfl (fun ls hl => ?_)
        refine lv_aload_n hx hb dL_law_455 rfl (lv_at hl 4 rfl) ?_
        refine z_cr (z_rV (As := []) (rest := []) (ci := 8) (q0 := 11) X J (cX7_thrown_ok l E F11) (cwV 0 hts gL_law_X7_thrown rfl rfl rfl (by decide +kernel) ⟨Nat.le_of_ble_eq_true rfl, Nat.le_of_ble_eq_true rfl⟩) F11 rfl rfl rfl hl.1 rfl (Nat.le_of_ble_eq_true rfl) dL_law_456 ⟨by show _ ≤ 601024; omega, by show _ ≤ 7293034; omega⟩) (fun r456 e_r456 => ?_)
        subst e_r456
        refine lv_iload hx hb dL_law_459 (lv_at hl 1 rfl) ?_
        refine lv_icmp_eq (tgt := 466) hx hb dL_law_461 (by decide) (fun cz461 => ?_) (fun cz461 => by exact (cz461 rfl).elim)
        refine lv_iload hx hb dL_law_466 (lv_at hl 1 rfl) ?_
        refine lv_if_ne (tgt := 483) hx hb dL_law_468 (by decide) (fun cz468 => ?_) (fun cz468 => by exact (e_k cz468).elim)
        refine lv_goto (tgt := 1425) hx hb dL_law_483 (by decide) ?_
        refine W.widen (k := cells + 700) (n := slots + 4500) (by omega) (by omega) ?_
        exact kk _ H locs _ ⟨fl, rl, wh, gr, gra, tr, tra, sc, ha, va, mf, md, mi, ms9, mk, mt, ea, eb, nf, nr, mc1, mc2, lim, sup, off, plo, hrs, (kRoad (xs (i + 2)) (nI nr)), fa, rd, ri, sn, t9, hf, gf, kp, tp, o9, G2_0, G2_1, G2_2, G2_3, G2_4, G2_5, G2_6, G2_7, G2_8, G2_9, G2_10, F11, G2_12, (by simpa only [selN e_k] using G2_a1), (by simpa only [selN e_k] using G2_a2), G2_15, G2_16, G2_17, G2_18, (hF.keep hk (by decide)), (hR.keep hk (by decide)), hSep, hnf, hnr, hok, hor, hRB, hBI⟩ J (lv_sub hl [2, 3, 4, 5, 6] rfl)
      · subst e_v
        have lp1 := hk.1
        have b_1_0 := zlt Fa0
        have b_1_1 := zlt Fa1
        have b_1_2 := zlt Fa2
        have b_1_3 := zlt Fa3
        have b_1_4 := zlt Fa4
        have b_1_5 := zlt Fa5
        have b_1_6 := zlt Fa6
        have b_1_7 := zlt Fa7
        have b_1_8 := zlt Fa8
        have b_1_9 := zlt Fa9
        have b_1_10 := zlt Fa10
        have b_1_11 := zlt Fa11
        have b_1_12 := zlt Fa12
        have b_1_13 := zlt Fa13
        have b_1_14 := zlt Fa14
        have b_1_15 := zlt Fa15
        have b_1_16 := zlt Fa16
        have b_1_17 := zlt Fa17
        have b_1_18 := zlt Fa18
        have b_1_19 := zlt hRa.2.1
        have hk := hk.trans (k1.mono (by intro q9 hq9; simp only [List.mem_cons, List.not_mem_nil, or_false] at hq9 ⊢; omega))
        have G1_0 := k1.2 0 _ (by simp only [List.mem_cons, List.not_mem_nil, or_false]; omega) Fa0
        have G1_1 := k1.2 1 _ (by simp only [List.mem_cons, List.not_mem_nil, or_false]; omega) Fa1
        have G1_3 := k1.2 3 _ (by simp only [List.mem_cons, List.not_mem_nil, or_false]; omega) Fa3
        have G1_4 := k1.2 4 _ (by simp only [List.mem_cons, List.not_mem_nil, or_false]; omega) Fa4
        have G1_5 := k1.2 5 _ (by simp only [List.mem_cons, List.not_mem_nil, or_false]; omega) Fa5
        have G1_6 := k1.2 6 _ (by simp only [List.mem_cons, List.not_mem_nil, or_false]; omega) Fa6
        have G1_7 := k1.2 7 _ (by simp only [List.mem_cons, List.not_mem_nil, or_false]; omega) Fa7
        have G1_8 := k1.2 8 _ (by simp only [List.mem_cons, List.not_mem_nil, or_false]; omega) Fa8
        have G1_9 := k1.2 9 _ (by simp only [List.mem_cons, List.not_mem_nil, or_false]; omega) Fa9
        have G1_10 := k1.2 10 _ (by simp only [List.mem_cons, List.not_mem_nil, or_false]; omega) Fa10
        have G1_11 := k1.2 11 _ (by simp only [List.mem_cons, List.not_mem_nil, or_false]; omega) Fa11
        have G1_12 := k1.2 12 _ (by simp only [List.mem_cons, List.not_mem_nil, or_false]; omega) Fa12
        have G1_13 := k1.2 13 _ (by simp only [List.mem_cons, List.not_mem_nil, or_false]; omega) Fa13
        have G1_14 := k1.2 14 _ (by simp only [List.mem_cons, List.not_mem_nil, or_false]; omega) Fa14
        have G1_15 := k1.2 15 _ (by simp only [List.mem_cons, List.not_mem_nil, or_false]; omega) Fa15
        have G1_16 := k1.2 16 _ (by simp only [List.mem_cons, List.not_mem_nil, or_false]; omega) Fa16
        have G1_17 := k1.2 17 _ (by simp only [List.mem_cons, List.not_mem_nil, or_false]; omega) Fa17
        obtain ⟨pn_1_0, hpn_1_0⟩ : ∃ z : Nat, z = ws.length + 0 := ⟨_, rfl⟩
        rw [← hpn_1_0] at N1_0
        obtain ⟨pn_1_1, hpn_1_1⟩ : ∃ z : Nat, z = ws.length + 1 := ⟨_, rfl⟩
        rw [← hpn_1_1] at N1_1
        refine lv_istore (lv' := [(5, .int 0), (4, .int (nI i)), (3, .ref ou), (2, .ref mo), (1, .ref x), (0, .ref b)]) hx hb dL_law_427 hl (by decide) rfl (fun ls hl => ?_)
        refine lv_aload_n hx hb dL_law_429 rfl (lv_at hl 3 rfl) ?_
        refine lv_aload_n hx hb dL_law_430 rfl (lv_at hl 5 rfl) ?_
        refine lv_iload hx hb dL_law_431 (lv_at hl 1 rfl) ?_
        refine lv_iconst (v := 1) hx hb dL_law_433 (by decide) ?_
        refine lv_iadd hx hb dL_law_434 ?_
        refine W.eq (g2 := F0 m 435 ls [.int (nI (i + 1)), .ref b, .ref mo]) (congrArg (fun z9 : Int32 => F0 m 435 ls [.int z9, .ref b, .ref mo]) (show ((nI i) + 1 : Int32) = nI (i + 1) from (nI_add i 1))) ?_
        refine va_sld hx hb hXs hbl hbA J.2.2 (vp_in_nI (by omega) (by omega)) dL_law_435 ?_
        refine W.eq (g2 := F0 m 436 ls [.int (xs (i + 1)), .ref mo]) (congrArg (fun z9 : Int32 => F0 m 436 ls [.int z9, .ref mo]) (show (xs (nI (i + 1)).toNatClampNeg : Int32) = xs (i + 1) from (congrArg xs (nI_clamp (by omega))))) ?_
        refine lv_if_eq (tgt := 443) hx hb dL_law_436 (by decide) (fun cz436 => by exact (cz409 cz436).elim) (fun cz436 => ?_)
        refine lv_iconst (v := 1) hx hb dL_law_439 (by decide) ?_
        refine lv_goto (tgt := 444) hx hb dL_law_440 (by decide) ?_
        refine lv_aload_n hx hb dL_law_444 rfl (lv_at hl 5 rfl) ?_
        refine lv_iload hx hb dL_law_445 (lv_at hl 1 rfl) ?_
        refine lv_iconst (v := 2) hx hb dL_law_447 (by decide) ?_
        refine lv_iadd hx hb dL_law_448 ?_
        refine W.eq (g2 := F0 m 449 ls [.int (nI (i + 2)), .ref b, .int 1, .ref mo]) (congrArg (fun z9 : Int32 => F0 m 449 ls [.int z9, .ref b, .int 1, .ref mo]) (show ((nI i) + 2 : Int32) = nI (i + 2) from (nI_add i 2))) ?_
        refine va_sld hx hb hXs hbl hbA J.2.2 (vp_in_nI (by omega) (by omega)) dL_law_449 ?_
        refine W.eq (g2 := F0 m 450 ls [.int (xs (i + 2)), .int 1, .ref mo]) (congrArg (fun z9 : Int32 => F0 m 450 ls [.int z9, .int 1, .ref mo]) (show (xs (nI (i + 2)).toNatClampNeg : Int32) = xs (i + 2) from (congrArg xs (nI_clamp (by omega))))) ?_
        refine z_ci J (z_rV (As := [.int 1, .int (xs (i + 2))]) (rest := []) (ci := 8) (q0 := 11) X J (cX7_road_ok l E G1_11 G1_13 G1_14 (by first | assumption | omega | decide)) (cwV 2 hts gL_law_X7_road rfl rfl rfl (by decide +kernel) ⟨Nat.le_of_ble_eq_true rfl, Nat.le_of_ble_eq_true rfl⟩) G1_11 rfl rfl rfl hl.1 rfl (Nat.le_of_ble_eq_true rfl) dL_law_450 ⟨by show _ ≤ 601024; omega, by show _ ≤ 7293034; omega⟩) (fun r450 ws_2 H locs hp9 J => ?_)
        obtain ⟨k2, G2_a0, G2_a1, G2_a2, e_r450⟩ := hp9
        have hk := hk.trans (k2.mono (by intro q9 hq9; simp only [List.mem_cons, List.not_mem_nil, or_false] at hq9 ⊢; omega))
        have G2_0 := k2.2 0 _ (by decide) G1_0
        have G2_1 := k2.2 1 _ (by decide) G1_1
        have G2_2 := k2.2 2 _ (by decide) G1_a0
        have G2_3 := k2.2 3 _ (by decide) G1_3
        have G2_4 := k2.2 4 _ (by decide) G1_4
        have G2_5 := k2.2 5 _ (by decide) G1_5
        have G2_6 := k2.2 6 _ (by decide) G1_6
        have G2_7 := k2.2 7 _ (by decide) G1_7
        have G2_8 := k2.2 8 _ (by decide) G1_8
        have G2_9 := k2.2 9 _ (by decide) G1_9
        have G2_10 := k2.2 10 _ (by decide) G1_10
        have G2_12 := k2.2 12 _ (by decide) G1_12
        have G2_15 := k2.2 15 _ (by decide) G1_15
        have G2_16 := k2.2 16 _ (by decide) G1_16
        have G2_17 := k2.2 17 _ (by decide) G1_17
        have G2_18 := k2.2 18 _ (by decide) G1_a2
        have G2_19 := k2.2 qe _ (by simp only [List.mem_cons, List.not_mem_nil, or_false]; omega) G1_a1
        have G2_20 := k2.2 pn_1_0 _ (by simp only [List.mem_cons, List.not_mem_nil, or_false]; omega) N1_0
        have G2_21 := k2.2 pn_1_1 _ (by simp only [List.mem_cons, List.not_mem_nil, or_false]; omega) N1_1
        refine W.eq (g2 := F0 m 453 ls [.int (nI nr)]) (congrArg (fun z9 : Int32 => F0 m 453 ls [.int z9]) (show (r450 : Int32) = nI nr from (by rw [e_r450, e_k, sel0]))) ?_
        have F11 : ws_2[11]? = some (mo, .inr (8, [.int (kRoad (xs (i + 2)) (nI nr)), .int (nI nf), .ref mf, .int (nI (nr + 1)), .ref md, .ref mi, .int lim, .int sup, .int off, .int plo, .int hrs, .ref ms9, .ref mk, .ref mt])) := by simpa only [e_k, sel0] using G2_a0
        refine lv_istore (lv' := [(6, .int (nI nr)), (5, .int 0), (4, .int (nI i)), (3, .ref ou), (2, .ref mo), (1, .ref x), (0, .ref b)]) hx hb dL_law_453 hl (by decide) rfl (fun ls hl => ?_)
        refine lv_aload_n hx hb dL_law_455 rfl (lv_at hl 4 rfl) ?_
        refine z_cr (z_rV (As := []) (rest := []) (ci := 8) (q0 := 11) X J (cX7_thrown_ok l E F11) (cwV 0 hts gL_law_X7_thrown rfl rfl rfl (by decide +kernel) ⟨Nat.le_of_ble_eq_true rfl, Nat.le_of_ble_eq_true rfl⟩) F11 rfl rfl rfl hl.1 rfl (Nat.le_of_ble_eq_true rfl) dL_law_456 ⟨by show _ ≤ 601024; omega, by show _ ≤ 7293034; omega⟩) (fun r456 e_r456 => ?_)
        subst e_r456
        refine lv_iload hx hb dL_law_459 (lv_at hl 1 rfl) ?_
        refine lv_icmp_eq (tgt := 466) hx hb dL_law_461 (by decide) (fun cz461 => ?_) (fun cz461 => by exact (cz461 e_k).elim)
        refine lv_iload hx hb dL_law_466 (lv_at hl 1 rfl) ?_
        refine lv_if_ne (tgt := 483) hx hb dL_law_468 (by decide) (fun cz468 => by exact absurd cz468 (by decide)) (fun cz468 => ?_)
        refine lv_aload_n hx hb dL_law_471 rfl (lv_at hl 3 rfl) ?_
        refine lv_iconst (v := 0) hx hb dL_law_472 (by decide) ?_
        refine z_lald X J 18 G2_18 (vp_in_nI (n := 0) (by decide) (by decide)) dL_law_473 ?_
        refine W.eq (g2 := F0 m 474 ls [.long ((nI nr).toInt64)]) (congrArg (fun z9 : Int64 => F0 m 474 ls [.long z9]) (show ((vp_updL o9 0 (nI nr).toInt64) (0 : Int32).toNatClampNeg : Int64) = (nI nr).toInt64 from rfl)) ?_
        refine lv_iload hx hb dL_law_474 (lv_at hl 0 rfl) ?_
        refine lv_i2l (v := (nI nr).toInt64) hx hb dL_law_476 rfl ?_
        refine W.lcmp hx hb dL_law_477 ?_
        refine W.eq (g2 := F0 m 478 ls [.int 0]) (congrArg (fun z9 : Int32 => F0 m 478 ls [.int z9]) (show (lg_cmp ((nI nr).toInt64) ((nI nr).toInt64) : Int32) = 0 from (lg_cmp_self _))) ?_
        refine lv_if_eq (tgt := 483) hx hb dL_law_478 (by decide) (fun cz478 => ?_) (fun cz478 => by exact absurd cz478 (by decide))
        refine lv_goto (tgt := 1425) hx hb dL_law_483 (by decide) ?_
        refine W.widen (k := cells + 700) (n := slots + 4500) (by omega) (by omega) ?_
        exact kk _ H locs _ ⟨fl, rl, wh, gr, gra, tr, tra, sc, ha, va, mf, md, mi, ms9, mk, mt, ea, eb, nf, (nr + 1), mc1, (mc2 + 1), lim, sup, off, plo, hrs, (kRoad (xs (i + 2)) (nI nr)), fa, (upd rd nr 1), (upd ri nr (xs (i + 2))), sn, t9, hf, gf, kp, tp, (vp_updL o9 0 (nI nr).toInt64), G2_0, G2_1, G2_2, G2_3, G2_4, G2_5, G2_6, G2_7, G2_8, G2_9, G2_10, F11, G2_12, (by simpa only [e_k, sel0, b01z, b01o] using G2_a1), (by simpa only [e_k, sel0, b01z, b01o] using G2_a2), G2_15, G2_16, G2_17, G2_18, (hF.keepE hk hRa.2.1 rfl rfl (hSep.ne2 hJ9 hE1 hRa.2.1) (by intro q hq; simp only [List.mem_cons, List.not_mem_nil, or_false] at hq; omega)), (RS.add (pf := pn_1_0) (ps := pn_1_1) hRa.1 hRa.2.1 hRa.2.2 hk (by intro q hq; simp only [List.mem_cons, List.not_mem_nil, or_false] at hq; omega) G2_19 (by omega) G2_20 (by omega) G2_21), hSep, hnf, (kR_lt hnr e_k), hok, (okR_add hor (Or.inr rfl) (kRoad0 e_k)), hRB, hBI⟩ J (lv_sub hl [2, 3, 4, 5, 6] rfl)
