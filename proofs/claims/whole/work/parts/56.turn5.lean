set_option maxHeartbeats 2000000 in
set_option maxRecDepth 100000 in
theorem turn_change {p : Program} {l : Launch} (hflags : l.flags = flags0) {e : Env} {s : State} {m : MethodId} {below : List Frame} {meth : Method} {c : Code} {b L : Nat} {xs : Nat → Int32} (E : zG) (X : zC E p m c cL_law 9 s #[.ref b] wsL_law RL) (hRz : zR s) (hNz : zNc s) (hXs : va_X b L xs s s.heap) (hbl : b < s.heap.size) (hbA : ¬ zA E b) (hE1 : ¬ zA E E.2.2.1) (hL9 : L ≤ 3584) {QQ : State → Prop} {ws : va_W} {x mo ou i cells slots : Nat} {H : Heap} {locs : List Loc} {ls : Array Slot} (hi : i + 7 ≤ L) (hW : LW E ws x mo ou) (J : zJ E ws s H locs) (hl : lv_has ls 9 [(4, .int (nI i)), (3, .ref ou), (2, .ref mo), (1, .ref x), (0, .ref b)]) (hc9 : cells + 700 ≤ 601024) (hs9 : slots + 4500 ≤ 7293034)
    (kk : ∀ (ws' : va_W) (H' : Heap) (locs' : List Loc) (ls' : Array Slot), LW E ws' x mo ou → zJ E ws' s H' locs' → lv_has ls' 9 [(4, .int (nI i)), (3, .ref ou), (2, .ref mo), (1, .ref x), (0, .ref b)] → W p l e room_1 s m #[.ref b] below meth c H' locs' (cells + 700) (slots + 4500) QQ (F0 m 1425 ls' [])) :
    W p l e room_1 s m #[.ref b] below meth c H locs cells slots QQ (F0 m 266 ls []) := by
  obtain ⟨fl, rl, wh, gr, gra, tr, tra, sc, ha, va, mf, md, mi, ms9, mk, mt, ea, eb, nf, nr, mc1, mc2, lim, sup, off, plo, hrs, th, fa, rd, ri, sn, t9, hf, gf, kp, tp, o9, Fa0, Fa1, Fa2, Fa3, Fa4, Fa5, Fa6, Fa7, Fa8, Fa9, Fa10, Fa11, Fa12, Fa13, Fa14, Fa15, Fa16, Fa17, Fa18, hF, hR, hSep, hnf, hnr, hok, hor, hRB, hBI⟩ := hW
  have hx := X.1.1
  have hb := X.1.2.1
  have hown := X.1.2.2.2.1
  have hts := X.1.2.2.2.2
  have hk : zK [0, 1, 2, 3, 4, 5, 6, 7, 8, 9, 10, 11, 12, 13, 14, 15, 16, 17, 18] ws ws := zK.rf
  have hlen19 := zlt Fa18
  have hJ9 := J.2.1
  by_cases hv9 : inR (xs (i + 1)) 0 (nI nf - 1)
  · obtain ⟨k9, hk31, ek9⟩ := inR_nI (n := nf) (by omega) hv9
    rcases hF with ⟨hn0, he0⟩ | ⟨qe, g, fo9, qf9, sp9, qs9, hFa⟩
    · omega
    have hFa : FSa E ws fa ea nf qe g fo9 qf9 sp9 qs9 := hFa
    have hq19 := hFa.1
    have hF : FS E ws fa ea nf := Or.inr ⟨qe, g, fo9, qf9, sp9, qs9, hFa⟩
    obtain ⟨kq1, kq2, kq3, kq4, kq5⟩ := hFa.2.2.1 k9 hk31
    have hqq9 : qe ≠ qf9 k9 := zneK hFa.2.1 kq4 rfl
    have hk : zK [0, 1, 2, 3, 4, 5, 6, 7, 8, 9, 10, 11, 12, 13, 14, 15, 16, 17, 18, (qf9 k9)] ws ws := zK.rf
    refine lv_aload_n hx hb dL_law_266 rfl (lv_at hl 3 rfl) ?_
    refine lv_aload_n hx hb dL_law_267 rfl (lv_at hl 4 rfl) ?_
    refine lv_iload hx hb dL_law_268 (lv_at hl 0 rfl) ?_
    refine lv_iconst (v := 1) hx hb dL_law_270 (by decide) ?_
    refine lv_iadd hx hb dL_law_271 ?_
    refine W.eq (g2 := F0 m 272 ls [.int (nI (i + 1)), .ref b, .ref x]) (congrArg (fun z9 : Int32 => F0 m 272 ls [.int z9, .ref b, .ref x]) (show ((nI i) + 1 : Int32) = nI (i + 1) from (nI_add i 1))) ?_
    refine va_sld hx hb hXs hbl hbA J.2.2 (vp_in_nI (by omega) (by omega)) dL_law_272 ?_
    refine W.eq (g2 := F0 m 273 ls [.int (xs (i + 1)), .ref x]) (congrArg (fun z9 : Int32 => F0 m 273 ls [.int z9, .ref x]) (show (xs (nI (i + 1)).toNatClampNeg : Int32) = xs (i + 1) from (congrArg xs (nI_clamp (by omega))))) ?_
    refine W.eq (g2 := F0 m 273 ls [.int (nI k9), .ref x]) (congrArg (fun z9 : Int32 => F0 m 273 ls [.int z9, .ref x]) (show (xs (i + 1) : Int32) = nI k9 from ek9)) ?_
    refine lv_aload_n hx hb dL_law_273 rfl (lv_at hl 4 rfl) ?_
    refine lv_iload hx hb dL_law_274 (lv_at hl 0 rfl) ?_
    refine lv_iconst (v := 2) hx hb dL_law_276 (by decide) ?_
    refine lv_iadd hx hb dL_law_277 ?_
    refine W.eq (g2 := F0 m 278 ls [.int (nI (i + 2)), .ref b, .int (nI k9), .ref x]) (congrArg (fun z9 : Int32 => F0 m 278 ls [.int z9, .ref b, .int (nI k9), .ref x]) (show ((nI i) + 2 : Int32) = nI (i + 2) from (nI_add i 2))) ?_
    refine va_sld hx hb hXs hbl hbA J.2.2 (vp_in_nI (by omega) (by omega)) dL_law_278 ?_
    refine W.eq (g2 := F0 m 279 ls [.int (xs (i + 2)), .int (nI k9), .ref x]) (congrArg (fun z9 : Int32 => F0 m 279 ls [.int z9, .int (nI k9), .ref x]) (show (xs (nI (i + 2)).toNatClampNeg : Int32) = xs (i + 2) from (congrArg xs (nI_clamp (by omega))))) ?_
    refine lv_aload_n hx hb dL_law_279 rfl (lv_at hl 4 rfl) ?_
    refine lv_iload hx hb dL_law_280 (lv_at hl 0 rfl) ?_
    refine lv_iconst (v := 3) hx hb dL_law_282 (by decide) ?_
    refine lv_iadd hx hb dL_law_283 ?_
    refine W.eq (g2 := F0 m 284 ls [.int (nI (i + 3)), .ref b, .int (xs (i + 2)), .int (nI k9), .ref x]) (congrArg (fun z9 : Int32 => F0 m 284 ls [.int z9, .ref b, .int (xs (i + 2)), .int (nI k9), .ref x]) (show ((nI i) + 3 : Int32) = nI (i + 3) from (nI_add i 3))) ?_
    refine va_sld hx hb hXs hbl hbA J.2.2 (vp_in_nI (by omega) (by omega)) dL_law_284 ?_
    refine W.eq (g2 := F0 m 285 ls [.int (xs (i + 3)), .int (xs (i + 2)), .int (nI k9), .ref x]) (congrArg (fun z9 : Int32 => F0 m 285 ls [.int z9, .int (xs (i + 2)), .int (nI k9), .ref x]) (show (xs (nI (i + 3)).toNatClampNeg : Int32) = xs (i + 3) from (congrArg xs (nI_clamp (by omega))))) ?_
    refine lv_aload_n hx hb dL_law_285 rfl (lv_at hl 1 rfl) ?_
    refine z_xi J (z_wS (As := [.ref x, .int (nI k9), .int (xs (i + 2)), .int (xs (i + 3)), .ref ou]) (rest := []) X hRz hNz J (cL_change_v_ok l hflags E Fa0 Fa1 hFa.2.1 kq4 Fa18 hnf hk31 kq3) (vx_cwSW (hh := [(0, 12, 15, 15), (0, 12, 19, 13)]) 5 hts gL_law_L_change rfl rfl rfl (by decide +kernel) ⟨Nat.le_of_ble_eq_true rfl, Nat.le_of_ble_eq_true rfl⟩) rfl hl.1 rfl (Nat.le_of_ble_eq_true rfl) dL_law_286 ⟨by show _ ≤ 601024; omega, by show _ ≤ 7293034; omega⟩) (fun nm ce q9 H locs hp9 J h1 h2 h3 => ?_) (fun r286 ws_1 H locs hp9 J => ?_)
    · exact False.elim (by exact hp9)
    rcases hp9 with ⟨e_v, e_k, rfl⟩ | ⟨e_v, e_k, k1, G1_a0, G1_a1⟩
    · subst e_v
      have hk : zK [0, 1, 2, 3, 4, 5, 6, 7, 8, 9, 10, 11, 12, 13, 14, 15, 16, 17, 18] ws ws := zK.rf
      refine lv_istore (lv' := [(5, .int (kChange (nI k9) (nI nf) (xs (i + 2)) (xs (i + 3)))), (4, .int (nI i)), (3, .ref ou), (2, .ref mo), (1, .ref x), (0, .ref b)]) hx hb dL_law_289 hl (by decide) rfl (fun ls hl => ?_)
      refine lv_aload_n hx hb dL_law_291 rfl (lv_at hl 3 rfl) ?_
      refine lv_aload_n hx hb dL_law_292 rfl (lv_at hl 5 rfl) ?_
      refine lv_iload hx hb dL_law_293 (lv_at hl 1 rfl) ?_
      refine lv_iconst (v := 1) hx hb dL_law_295 (by decide) ?_
      refine lv_iadd hx hb dL_law_296 ?_
      refine W.eq (g2 := F0 m 297 ls [.int (nI (i + 1)), .ref b, .ref mo]) (congrArg (fun z9 : Int32 => F0 m 297 ls [.int z9, .ref b, .ref mo]) (show ((nI i) + 1 : Int32) = nI (i + 1) from (nI_add i 1))) ?_
      refine va_sld hx hb hXs hbl hbA J.2.2 (vp_in_nI (by omega) (by omega)) dL_law_297 ?_
      refine W.eq (g2 := F0 m 298 ls [.int (xs (i + 1)), .ref mo]) (congrArg (fun z9 : Int32 => F0 m 298 ls [.int z9, .ref mo]) (show (xs (nI (i + 1)).toNatClampNeg : Int32) = xs (i + 1) from (congrArg xs (nI_clamp (by omega))))) ?_
      refine W.eq (g2 := F0 m 298 ls [.int (nI k9), .ref mo]) (congrArg (fun z9 : Int32 => F0 m 298 ls [.int z9, .ref mo]) (show (xs (i + 1) : Int32) = nI k9 from ek9)) ?_
      refine lv_aload_n hx hb dL_law_298 rfl (lv_at hl 5 rfl) ?_
      refine lv_iload hx hb dL_law_299 (lv_at hl 1 rfl) ?_
      refine lv_iconst (v := 2) hx hb dL_law_301 (by decide) ?_
      refine lv_iadd hx hb dL_law_302 ?_
      refine W.eq (g2 := F0 m 303 ls [.int (nI (i + 2)), .ref b, .int (nI k9), .ref mo]) (congrArg (fun z9 : Int32 => F0 m 303 ls [.int z9, .ref b, .int (nI k9), .ref mo]) (show ((nI i) + 2 : Int32) = nI (i + 2) from (nI_add i 2))) ?_
      refine va_sld hx hb hXs hbl hbA J.2.2 (vp_in_nI (by omega) (by omega)) dL_law_303 ?_
      refine W.eq (g2 := F0 m 304 ls [.int (xs (i + 2)), .int (nI k9), .ref mo]) (congrArg (fun z9 : Int32 => F0 m 304 ls [.int z9, .int (nI k9), .ref mo]) (show (xs (nI (i + 2)).toNatClampNeg : Int32) = xs (i + 2) from (congrArg xs (nI_clamp (by omega))))) ?_
      refine lv_aload_n hx hb dL_law_304 rfl (lv_at hl 5 rfl) ?_
      refine lv_iload hx hb dL_law_305 (lv_at hl 1 rfl) ?_
      refine lv_iconst (v := 3) hx hb dL_law_307 (by decide) ?_
      refine lv_iadd hx hb dL_law_308 ?_
      refine W.eq (g2 := F0 m 309 ls [.int (nI (i + 3)), .ref b, .int (xs (i + 2)), .int (nI k9), .ref mo]) (congrArg (fun z9 : Int32 => F0 m 309 ls [.int z9, .ref b, .int (xs (i + 2)), .int (nI k9), .ref mo]) (show ((nI i) + 3 : Int32) = nI (i + 3) from (nI_add i 3))) ?_
      refine va_sld hx hb hXs hbl hbA J.2.2 (vp_in_nI (by omega) (by omega)) dL_law_309 ?_
      refine W.eq (g2 := F0 m 310 ls [.int (xs (i + 3)), .int (xs (i + 2)), .int (nI k9), .ref mo]) (congrArg (fun z9 : Int32 => F0 m 310 ls [.int z9, .int (xs (i + 2)), .int (nI k9), .ref mo]) (show (xs (nI (i + 3)).toNatClampNeg : Int32) = xs (i + 3) from (congrArg xs (nI_clamp (by omega))))) ?_
      refine z_ci J (z_rV (As := [.int (nI k9), .int (xs (i + 2)), .int (xs (i + 3))]) (rest := []) (ci := 8) (q0 := 11) X J (cX7_change_ok l E Fa11 Fa12 (by first | assumption | omega | decide)) (cwV 3 hts gL_law_X7_change rfl rfl rfl (by decide +kernel) ⟨Nat.le_of_ble_eq_true rfl, Nat.le_of_ble_eq_true rfl⟩) Fa11 rfl rfl rfl hl.1 rfl (Nat.le_of_ble_eq_true rfl) dL_law_310 ⟨by show _ ≤ 601024; omega, by show _ ≤ 7293034; omega⟩) (fun r310 ws_2 H locs hp9 J => ?_)
      obtain ⟨k2, G2_a0, G2_a1, e_r310⟩ := hp9
      have hk := hk.trans (k2.mono (by decide))
      have G2_0 := k2.2 0 _ (by decide) Fa0
      have G2_1 := k2.2 1 _ (by decide) Fa1
      have G2_2 := k2.2 2 _ (by decide) Fa2
      have G2_3 := k2.2 3 _ (by decide) Fa3
      have G2_4 := k2.2 4 _ (by decide) Fa4
      have G2_5 := k2.2 5 _ (by decide) Fa5
      have G2_6 := k2.2 6 _ (by decide) Fa6
      have G2_7 := k2.2 7 _ (by decide) Fa7
      have G2_8 := k2.2 8 _ (by decide) Fa8
      have G2_9 := k2.2 9 _ (by decide) Fa9
      have G2_10 := k2.2 10 _ (by decide) Fa10
      have G2_13 := k2.2 13 _ (by decide) Fa13
      have G2_14 := k2.2 14 _ (by decide) Fa14
      have G2_15 := k2.2 15 _ (by decide) Fa15
      have G2_16 := k2.2 16 _ (by decide) Fa16
      have G2_17 := k2.2 17 _ (by decide) Fa17
      have G2_18 := k2.2 18 _ (by decide) Fa18
      have G2_19 := k2.2 qe _ (by simp only [List.mem_cons, List.not_mem_nil, or_false]; omega) hFa.2.1
      have G2_20 := k2.2 (qf9 k9) _ (by simp only [List.mem_cons, List.not_mem_nil, or_false]; omega) kq4
      refine lv_istore (lv' := [(6, .int r310), (5, .int (kChange (nI k9) (nI nf) (xs (i + 2)) (xs (i + 3)))), (4, .int (nI i)), (3, .ref ou), (2, .ref mo), (1, .ref x), (0, .ref b)]) hx hb dL_law_313 hl (by decide) rfl (fun ls hl => ?_)
      refine lv_aload_n hx hb dL_law_315 rfl (lv_at hl 4 rfl) ?_
      refine z_cr (z_rV (As := []) (rest := []) (ci := 8) (q0 := 11) X J (cX7_thrown_ok l E G2_a0) (cwV 0 hts gL_law_X7_thrown rfl rfl rfl (by decide +kernel) ⟨Nat.le_of_ble_eq_true rfl, Nat.le_of_ble_eq_true rfl⟩) G2_a0 rfl rfl rfl hl.1 rfl (Nat.le_of_ble_eq_true rfl) dL_law_316 ⟨by show _ ≤ 601024; omega, by show _ ≤ 7293034; omega⟩) (fun r316 e_r316 => ?_)
      subst e_r316
      refine lv_iload hx hb dL_law_319 (lv_at hl 1 rfl) ?_
      refine lv_icmp_eq (tgt := 326) hx hb dL_law_321 (by decide) (fun cz321 => ?_) (fun cz321 => by exact (cz321 rfl).elim)
      refine lv_iload hx hb dL_law_326 (lv_at hl 1 rfl) ?_
      refine lv_if_ne (tgt := 343) hx hb dL_law_328 (by decide) (fun cz328 => ?_) (fun cz328 => by exact (e_k cz328).elim)
      refine lv_goto (tgt := 1425) hx hb dL_law_343 (by decide) ?_
      refine W.widen (k := cells + 700) (n := slots + 4500) (by omega) (by omega) ?_
      exact kk _ H locs _ ⟨fl, rl, wh, gr, gra, tr, tra, sc, ha, va, mf, md, mi, ms9, mk, mt, ea, eb, nf, nr, mc1, mc2, lim, sup, off, plo, hrs, (kChange (nI k9) (nI nf) (xs (i + 2)) (xs (i + 3))), fa, rd, ri, sn, t9, hf, gf, kp, tp, o9, G2_0, G2_1, G2_2, G2_3, G2_4, G2_5, G2_6, G2_7, G2_8, G2_9, G2_10, G2_a0, (by simpa only [selN e_k] using G2_a1), G2_13, G2_14, G2_15, G2_16, G2_17, G2_18, (hF.keep hk (by decide)), (hR.keep hk (by decide)), hSep, hnf, hnr, hok, hor, hRB, hBI⟩ J (lv_sub hl [2, 3, 4, 5, 6] rfl)
    · subst e_v
      have hk := hk.trans (k1.mono (by intro q9 hq9; simp only [List.mem_cons, List.not_mem_nil, or_false] at hq9 ⊢; omega))
      have G1_0 := k1.2 0 _ (by simp only [List.mem_cons, List.not_mem_nil, or_false]; omega) Fa0
      have G1_1 := k1.2 1 _ (by simp only [List.mem_cons, List.not_mem_nil, or_false]; omega) Fa1
      have G1_2 := k1.2 2 _ (by simp only [List.mem_cons, List.not_mem_nil, or_false]; omega) Fa2
      have G1_3 := k1.2 3 _ (by simp only [List.mem_cons, List.not_mem_nil, or_false]; omega) Fa3
      have G1_4 := k1.2 4 _ (by simp only [List.mem_cons, List.not_mem_nil, or_false]; omega) Fa4
      have G1_5 := k1.2 5 _ (by simp only [List.mem_cons, List.not_mem_nil, or_false]; omega) Fa5
      have G1_6 := k1.2 6 _ (by simp only [List.mem_cons, List.not_mem_nil, or_false]; omega) Fa6
      have G1_7 := k1.2 7 _ (by simp only [List.mem_cons, List.not_mem_nil, or_false]; omega) Fa7
      have G1_8 := k1.2 8 _ (by simp only [List.mem_cons, List.not_mem_nil, or_false]; omega) Fa8
      have G1_9 := k1.2 9 _ (by simp only [List.mem_cons, List.not_mem_nil, or_false]; omega) Fa9
      have G1_10 := k1.2 10 _ (by simp only [List.mem_cons, List.not_mem_nil, or_false]; omega) Fa10
      have G1_11 := k1.2 11 _ (by simp only [List.mem_cons, List.not_mem_nil, or_false]; omega) Fa11
      have G1_12 := k1.2 12 _ (by simp only [List.mem_cons, List.not_mem_nil, or_false]; omega) Fa12
      have G1_13 := k1.2 13 _ (by simp only [List.mem_cons, List.not_mem_nil, or_false]; omega) Fa13
      have G1_14 := k1.2 14 _ (by simp only [List.mem_cons, List.not_mem_nil, or_false]; omega) Fa14
      have G1_15 := k1.2 15 _ (by simp only [List.mem_cons, List.not_mem_nil, or_false]; omega) Fa15
      have G1_16 := k1.2 16 _ (by simp only [List.mem_cons, List.not_mem_nil, or_false]; omega) Fa16
      have G1_17 := k1.2 17 _ (by simp only [List.mem_cons, List.not_mem_nil, or_false]; omega) Fa17
      have G1_19 := k1.2 qe _ (by simp only [List.mem_cons, List.not_mem_nil, or_false]; omega) hFa.2.1
      refine lv_istore (lv' := [(5, .int 0), (4, .int (nI i)), (3, .ref ou), (2, .ref mo), (1, .ref x), (0, .ref b)]) hx hb dL_law_289 hl (by decide) rfl (fun ls hl => ?_)
      refine lv_aload_n hx hb dL_law_291 rfl (lv_at hl 3 rfl) ?_
      refine lv_aload_n hx hb dL_law_292 rfl (lv_at hl 5 rfl) ?_
      refine lv_iload hx hb dL_law_293 (lv_at hl 1 rfl) ?_
      refine lv_iconst (v := 1) hx hb dL_law_295 (by decide) ?_
      refine lv_iadd hx hb dL_law_296 ?_
      refine W.eq (g2 := F0 m 297 ls [.int (nI (i + 1)), .ref b, .ref mo]) (congrArg (fun z9 : Int32 => F0 m 297 ls [.int z9, .ref b, .ref mo]) (show ((nI i) + 1 : Int32) = nI (i + 1) from (nI_add i 1))) ?_
      refine va_sld hx hb hXs hbl hbA J.2.2 (vp_in_nI (by omega) (by omega)) dL_law_297 ?_
      refine W.eq (g2 := F0 m 298 ls [.int (xs (i + 1)), .ref mo]) (congrArg (fun z9 : Int32 => F0 m 298 ls [.int z9, .ref mo]) (show (xs (nI (i + 1)).toNatClampNeg : Int32) = xs (i + 1) from (congrArg xs (nI_clamp (by omega))))) ?_
      refine W.eq (g2 := F0 m 298 ls [.int (nI k9), .ref mo]) (congrArg (fun z9 : Int32 => F0 m 298 ls [.int z9, .ref mo]) (show (xs (i + 1) : Int32) = nI k9 from ek9)) ?_
      refine lv_aload_n hx hb dL_law_298 rfl (lv_at hl 5 rfl) ?_
      refine lv_iload hx hb dL_law_299 (lv_at hl 1 rfl) ?_
      refine lv_iconst (v := 2) hx hb dL_law_301 (by decide) ?_
      refine lv_iadd hx hb dL_law_302 ?_
      refine W.eq (g2 := F0 m 303 ls [.int (nI (i + 2)), .ref b, .int (nI k9), .ref mo]) (congrArg (fun z9 : Int32 => F0 m 303 ls [.int z9, .ref b, .int (nI k9), .ref mo]) (show ((nI i) + 2 : Int32) = nI (i + 2) from (nI_add i 2))) ?_
      refine va_sld hx hb hXs hbl hbA J.2.2 (vp_in_nI (by omega) (by omega)) dL_law_303 ?_
      refine W.eq (g2 := F0 m 304 ls [.int (xs (i + 2)), .int (nI k9), .ref mo]) (congrArg (fun z9 : Int32 => F0 m 304 ls [.int z9, .int (nI k9), .ref mo]) (show (xs (nI (i + 2)).toNatClampNeg : Int32) = xs (i + 2) from (congrArg xs (nI_clamp (by omega))))) ?_
      refine lv_aload_n hx hb dL_law_304 rfl (lv_at hl 5 rfl) ?_
      refine lv_iload hx hb dL_law_305 (lv_at hl 1 rfl) ?_
      refine lv_iconst (v := 3) hx hb dL_law_307 (by decide) ?_
      refine lv_iadd hx hb dL_law_308 ?_
      refine W.eq (g2 := F0 m 309 ls [.int (nI (i + 3)), .ref b, .int (xs (i + 2)), .int (nI k9), .ref mo]) (congrArg (fun z9 : Int32 => F0 m 309 ls [.int z9, .ref b, .int (xs (i + 2)), .int (nI k9), .ref mo]) (show ((nI i) + 3 : Int32) = nI (i + 3) from (nI_add i 3))) ?_
      refine va_sld hx hb hXs hbl hbA J.2.2 (vp_in_nI (by omega) (by omega)) dL_law_309 ?_
      refine W.eq (g2 := F0 m 310 ls [.int (xs (i + 3)), .int (xs (i + 2)), .int (nI k9), .ref mo]) (congrArg (fun z9 : Int32 => F0 m 310 ls [.int z9, .int (xs (i + 2)), .int (nI k9), .ref mo]) (show (xs (nI (i + 3)).toNatClampNeg : Int32) = xs (i + 3) from (congrArg xs (nI_clamp (by omega))))) ?_
      refine z_ci J (z_rV (As := [.int (nI k9), .int (xs (i + 2)), .int (xs (i + 3))]) (rest := []) (ci := 8) (q0 := 11) X J (cX7_change_ok l E G1_11 G1_12 (by first | assumption | omega | decide)) (cwV 3 hts gL_law_X7_change rfl rfl rfl (by decide +kernel) ⟨Nat.le_of_ble_eq_true rfl, Nat.le_of_ble_eq_true rfl⟩) G1_11 rfl rfl rfl hl.1 rfl (Nat.le_of_ble_eq_true rfl) dL_law_310 ⟨by show _ ≤ 601024; omega, by show _ ≤ 7293034; omega⟩) (fun r310 ws_2 H locs hp9 J => ?_)
      obtain ⟨k2, G2_a0, G2_a1, e_r310⟩ := hp9
      have hk := hk.trans (k2.mono (by intro q9 hq9; simp only [List.mem_cons, List.not_mem_nil, or_false] at hq9 ⊢; omega))
      have G2_0 := k2.2 0 _ (by decide) G1_0
      have G2_1 := k2.2 1 _ (by decide) G1_1
      have G2_2 := k2.2 2 _ (by decide) G1_2
      have G2_3 := k2.2 3 _ (by decide) G1_3
      have G2_4 := k2.2 4 _ (by decide) G1_4
      have G2_5 := k2.2 5 _ (by decide) G1_5
      have G2_6 := k2.2 6 _ (by decide) G1_6
      have G2_7 := k2.2 7 _ (by decide) G1_7
      have G2_8 := k2.2 8 _ (by decide) G1_8
      have G2_9 := k2.2 9 _ (by decide) G1_9
      have G2_10 := k2.2 10 _ (by decide) G1_10
      have G2_13 := k2.2 13 _ (by decide) G1_13
      have G2_14 := k2.2 14 _ (by decide) G1_14
      have G2_15 := k2.2 15 _ (by decide) G1_15
      have G2_16 := k2.2 16 _ (by decide) G1_16
      have G2_17 := k2.2 17 _ (by decide) G1_17
      have G2_18 := k2.2 18 _ (by decide) G1_a1
      have G2_19 := k2.2 qe _ (by simp only [List.mem_cons, List.not_mem_nil, or_false]; omega) G1_19
      have G2_20 := k2.2 (qf9 k9) _ (by simp only [List.mem_cons, List.not_mem_nil, or_false]; omega) G1_a0
      refine W.eq (g2 := F0 m 313 ls [.int (10 * (fa (6 * k9 + 4)) + (fa (6 * k9 + 5)))]) (congrArg (fun z9 : Int32 => F0 m 313 ls [.int z9]) (show (r310 : Int32) = 10 * (fa (6 * k9 + 4)) + (fa (6 * k9 + 5)) from (by rw [e_r310, e_k, sel0, nI_clamp (by omega)]))) ?_
      refine lv_istore (lv' := [(6, .int (10 * (fa (6 * k9 + 4)) + (fa (6 * k9 + 5)))), (5, .int 0), (4, .int (nI i)), (3, .ref ou), (2, .ref mo), (1, .ref x), (0, .ref b)]) hx hb dL_law_313 hl (by decide) rfl (fun ls hl => ?_)
      refine lv_aload_n hx hb dL_law_315 rfl (lv_at hl 4 rfl) ?_
      refine z_cr (z_rV (As := []) (rest := []) (ci := 8) (q0 := 11) X J (cX7_thrown_ok l E G2_a0) (cwV 0 hts gL_law_X7_thrown rfl rfl rfl (by decide +kernel) ⟨Nat.le_of_ble_eq_true rfl, Nat.le_of_ble_eq_true rfl⟩) G2_a0 rfl rfl rfl hl.1 rfl (Nat.le_of_ble_eq_true rfl) dL_law_316 ⟨by show _ ≤ 601024; omega, by show _ ≤ 7293034; omega⟩) (fun r316 e_r316 => ?_)
      subst e_r316
      refine lv_iload hx hb dL_law_319 (lv_at hl 1 rfl) ?_
      refine lv_icmp_eq (tgt := 326) hx hb dL_law_321 (by decide) (fun cz321 => ?_) (fun cz321 => by exact (cz321 e_k).elim)
      refine lv_iload hx hb dL_law_326 (lv_at hl 1 rfl) ?_
      refine lv_if_ne (tgt := 343) hx hb dL_law_328 (by decide) (fun cz328 => by exact absurd cz328 (by decide)) (fun cz328 => ?_)
      refine lv_aload_n hx hb dL_law_331 rfl (lv_at hl 3 rfl) ?_
      refine lv_iconst (v := 0) hx hb dL_law_332 (by decide) ?_
      refine z_lald X J 18 G2_18 (vp_in_nI (n := 0) (by decide) (by decide)) dL_law_333 ?_
      refine W.eq (g2 := F0 m 334 ls [.long ((10 * (fa (6 * k9 + 4)) + (fa (6 * k9 + 5))).toInt64)]) (congrArg (fun z9 : Int64 => F0 m 334 ls [.long z9]) (show ((vp_updL o9 0 (10 * (fa (6 * k9 + 4)) + (fa (6 * k9 + 5))).toInt64) (0 : Int32).toNatClampNeg : Int64) = (10 * (fa (6 * k9 + 4)) + (fa (6 * k9 + 5))).toInt64 from rfl)) ?_
      refine lv_iload hx hb dL_law_334 (lv_at hl 0 rfl) ?_
      refine lv_i2l (v := (10 * (fa (6 * k9 + 4)) + (fa (6 * k9 + 5))).toInt64) hx hb dL_law_336 rfl ?_
      refine W.lcmp hx hb dL_law_337 ?_
      refine W.eq (g2 := F0 m 338 ls [.int 0]) (congrArg (fun z9 : Int32 => F0 m 338 ls [.int z9]) (show (lg_cmp ((10 * (fa (6 * k9 + 4)) + (fa (6 * k9 + 5))).toInt64) ((10 * (fa (6 * k9 + 4)) + (fa (6 * k9 + 5))).toInt64) : Int32) = 0 from (lg_cmp_self _))) ?_
      refine lv_if_eq (tgt := 343) hx hb dL_law_338 (by decide) (fun cz338 => ?_) (fun cz338 => by exact absurd cz338 (by decide))
      refine lv_goto (tgt := 1425) hx hb dL_law_343 (by decide) ?_
      refine W.widen (k := cells + 700) (n := slots + 4500) (by omega) (by omega) ?_
      exact kk _ H locs _ ⟨fl, rl, wh, gr, gra, tr, tra, sc, ha, va, mf, md, mi, ms9, mk, mt, ea, eb, nf, nr, mc1, mc2, lim, sup, off, plo, hrs, (kChange (nI k9) (nI nf) (xs (i + 2)) (xs (i + 3))), (upd (upd fa (6 * k9 + 4) (xs (i + 2))) (6 * k9 + 5) (xs (i + 3))), rd, ri, sn, t9, hf, gf, kp, tp, (vp_updL o9 0 (10 * (fa (6 * k9 + 4)) + (fa (6 * k9 + 5))).toInt64), G2_0, G2_1, G2_2, G2_3, G2_4, G2_5, G2_6, G2_7, G2_8, G2_9, G2_10, G2_a0, (by simpa only [e_k, sel0, nI_clamp (show k9 < 2 ^ 31 by omega)] using G2_a1), G2_13, G2_14, G2_15, G2_16, G2_17, G2_18, (FS.chg hFa hk31 hk (by intro q hq; simp only [List.mem_cons, List.not_mem_nil, or_false] at hq; omega) G2_20), (hR.keepE hk kq4 rfl rfl (rs_ne hR kq4 hJ9 hE1) (by intro q hq; simp only [List.mem_cons, List.not_mem_nil, or_false] at hq; omega)), hSep, hnf, hnr, (okF_chg hok (kChg0 e_k).1 (kChg0 e_k).2), hor, hRB, hBI⟩ J (lv_sub hl [2, 3, 4, 5, 6] rfl)
  · have hx9 := hv9
    refine lv_aload_n hx hb dL_law_266 rfl (lv_at hl 3 rfl) ?_
    refine lv_aload_n hx hb dL_law_267 rfl (lv_at hl 4 rfl) ?_
    refine lv_iload hx hb dL_law_268 (lv_at hl 0 rfl) ?_
    refine lv_iconst (v := 1) hx hb dL_law_270 (by decide) ?_
    refine lv_iadd hx hb dL_law_271 ?_
    refine W.eq (g2 := F0 m 272 ls [.int (nI (i + 1)), .ref b, .ref x]) (congrArg (fun z9 : Int32 => F0 m 272 ls [.int z9, .ref b, .ref x]) (show ((nI i) + 1 : Int32) = nI (i + 1) from (nI_add i 1))) ?_
    refine va_sld hx hb hXs hbl hbA J.2.2 (vp_in_nI (by omega) (by omega)) dL_law_272 ?_
    refine W.eq (g2 := F0 m 273 ls [.int (xs (i + 1)), .ref x]) (congrArg (fun z9 : Int32 => F0 m 273 ls [.int z9, .ref x]) (show (xs (nI (i + 1)).toNatClampNeg : Int32) = xs (i + 1) from (congrArg xs (nI_clamp (by omega))))) ?_
    refine lv_aload_n hx hb dL_law_273 rfl (lv_at hl 4 rfl) ?_
    refine lv_iload hx hb dL_law_274 (lv_at hl 0 rfl) ?_
    refine lv_iconst (v := 2) hx hb dL_law_276 (by decide) ?_
    refine lv_iadd hx hb dL_law_277 ?_
    refine W.eq (g2 := F0 m 278 ls [.int (nI (i + 2)), .ref b, .int (xs (i + 1)), .ref x]) (congrArg (fun z9 : Int32 => F0 m 278 ls [.int z9, .ref b, .int (xs (i + 1)), .ref x]) (show ((nI i) + 2 : Int32) = nI (i + 2) from (nI_add i 2))) ?_
    refine va_sld hx hb hXs hbl hbA J.2.2 (vp_in_nI (by omega) (by omega)) dL_law_278 ?_
    refine W.eq (g2 := F0 m 279 ls [.int (xs (i + 2)), .int (xs (i + 1)), .ref x]) (congrArg (fun z9 : Int32 => F0 m 279 ls [.int z9, .int (xs (i + 1)), .ref x]) (show (xs (nI (i + 2)).toNatClampNeg : Int32) = xs (i + 2) from (congrArg xs (nI_clamp (by omega))))) ?_
    refine lv_aload_n hx hb dL_law_279 rfl (lv_at hl 4 rfl) ?_
    refine lv_iload hx hb dL_law_280 (lv_at hl 0 rfl) ?_
    refine lv_iconst (v := 3) hx hb dL_law_282 (by decide) ?_
    refine lv_iadd hx hb dL_law_283 ?_
    refine W.eq (g2 := F0 m 284 ls [.int (nI (i + 3)), .ref b, .int (xs (i + 2)), .int (xs (i + 1)), .ref x]) (congrArg (fun z9 : Int32 => F0 m 284 ls [.int z9, .ref b, .int (xs (i + 2)), .int (xs (i + 1)), .ref x]) (show ((nI i) + 3 : Int32) = nI (i + 3) from (nI_add i 3))) ?_
    refine va_sld hx hb hXs hbl hbA J.2.2 (vp_in_nI (by omega) (by omega)) dL_law_284 ?_
    refine W.eq (g2 := F0 m 285 ls [.int (xs (i + 3)), .int (xs (i + 2)), .int (xs (i + 1)), .ref x]) (congrArg (fun z9 : Int32 => F0 m 285 ls [.int z9, .int (xs (i + 2)), .int (xs (i + 1)), .ref x]) (show (xs (nI (i + 3)).toNatClampNeg : Int32) = xs (i + 3) from (congrArg xs (nI_clamp (by omega))))) ?_
    refine lv_aload_n hx hb dL_law_285 rfl (lv_at hl 1 rfl) ?_
    refine z_xi J (z_wS (As := [.ref x, .int (xs (i + 1)), .int (xs (i + 2)), .int (xs (i + 3)), .ref ou]) (rest := []) X hRz hNz J (cL_change_x_ok l hflags E Fa0 Fa1 Fa18 hnf hx9) (vx_cwSW (hh := [(0, 12, 15, 15), (0, 12, 19, 13)]) 5 hts gL_law_L_change rfl rfl rfl (by decide +kernel) ⟨Nat.le_of_ble_eq_true rfl, Nat.le_of_ble_eq_true rfl⟩) rfl hl.1 rfl (Nat.le_of_ble_eq_true rfl) dL_law_286 ⟨by show _ ≤ 601024; omega, by show _ ≤ 7293034; omega⟩) (fun nm ce q9 H locs hp9 J h1 h2 h3 => ?_) (fun r286 ws_1 H locs hp9 J => ?_)
    · exact False.elim (by exact hp9)
    rcases hp9 with ⟨e_v, e_k, rfl⟩ | ⟨e_v, e_k, rfl, e_r286⟩
    · subst e_v
      refine lv_istore (lv' := [(5, .int (kChange (xs (i + 1)) (nI nf) (xs (i + 2)) (xs (i + 3)))), (4, .int (nI i)), (3, .ref ou), (2, .ref mo), (1, .ref x), (0, .ref b)]) hx hb dL_law_289 hl (by decide) rfl (fun ls hl => ?_)
      refine lv_aload_n hx hb dL_law_291 rfl (lv_at hl 3 rfl) ?_
      refine lv_aload_n hx hb dL_law_292 rfl (lv_at hl 5 rfl) ?_
      refine lv_iload hx hb dL_law_293 (lv_at hl 1 rfl) ?_
      refine lv_iconst (v := 1) hx hb dL_law_295 (by decide) ?_
      refine lv_iadd hx hb dL_law_296 ?_
      refine W.eq (g2 := F0 m 297 ls [.int (nI (i + 1)), .ref b, .ref mo]) (congrArg (fun z9 : Int32 => F0 m 297 ls [.int z9, .ref b, .ref mo]) (show ((nI i) + 1 : Int32) = nI (i + 1) from (nI_add i 1))) ?_
      refine va_sld hx hb hXs hbl hbA J.2.2 (vp_in_nI (by omega) (by omega)) dL_law_297 ?_
      refine W.eq (g2 := F0 m 298 ls [.int (xs (i + 1)), .ref mo]) (congrArg (fun z9 : Int32 => F0 m 298 ls [.int z9, .ref mo]) (show (xs (nI (i + 1)).toNatClampNeg : Int32) = xs (i + 1) from (congrArg xs (nI_clamp (by omega))))) ?_
      refine lv_aload_n hx hb dL_law_298 rfl (lv_at hl 5 rfl) ?_
      refine lv_iload hx hb dL_law_299 (lv_at hl 1 rfl) ?_
      refine lv_iconst (v := 2) hx hb dL_law_301 (by decide) ?_
      refine lv_iadd hx hb dL_law_302 ?_
      refine W.eq (g2 := F0 m 303 ls [.int (nI (i + 2)), .ref b, .int (xs (i + 1)), .ref mo]) (congrArg (fun z9 : Int32 => F0 m 303 ls [.int z9, .ref b, .int (xs (i + 1)), .ref mo]) (show ((nI i) + 2 : Int32) = nI (i + 2) from (nI_add i 2))) ?_
      refine va_sld hx hb hXs hbl hbA J.2.2 (vp_in_nI (by omega) (by omega)) dL_law_303 ?_
      refine W.eq (g2 := F0 m 304 ls [.int (xs (i + 2)), .int (xs (i + 1)), .ref mo]) (congrArg (fun z9 : Int32 => F0 m 304 ls [.int z9, .int (xs (i + 1)), .ref mo]) (show (xs (nI (i + 2)).toNatClampNeg : Int32) = xs (i + 2) from (congrArg xs (nI_clamp (by omega))))) ?_
      refine lv_aload_n hx hb dL_law_304 rfl (lv_at hl 5 rfl) ?_
      refine lv_iload hx hb dL_law_305 (lv_at hl 1 rfl) ?_
      refine lv_iconst (v := 3) hx hb dL_law_307 (by decide) ?_
      refine lv_iadd hx hb dL_law_308 ?_
      refine W.eq (g2 := F0 m 309 ls [.int (nI (i + 3)), .ref b, .int (xs (i + 2)), .int (xs (i + 1)), .ref mo]) (congrArg (fun z9 : Int32 => F0 m 309 ls [.int z9, .ref b, .int (xs (i + 2)), .int (xs (i + 1)), .ref mo]) (show ((nI i) + 3 : Int32) = nI (i + 3) from (nI_add i 3))) ?_
      refine va_sld hx hb hXs hbl hbA J.2.2 (vp_in_nI (by omega) (by omega)) dL_law_309 ?_
      refine W.eq (g2 := F0 m 310 ls [.int (xs (i + 3)), .int (xs (i + 2)), .int (xs (i + 1)), .ref mo]) (congrArg (fun z9 : Int32 => F0 m 310 ls [.int z9, .int (xs (i + 2)), .int (xs (i + 1)), .ref mo]) (show (xs (nI (i + 3)).toNatClampNeg : Int32) = xs (i + 3) from (congrArg xs (nI_clamp (by omega))))) ?_
      refine z_ci J (z_rV (As := [.int (xs (i + 1)), .int (xs (i + 2)), .int (xs (i + 3))]) (rest := []) (ci := 8) (q0 := 11) X J (cX7_change_ok l E Fa11 Fa12 (by first | assumption | omega | decide)) (cwV 3 hts gL_law_X7_change rfl rfl rfl (by decide +kernel) ⟨Nat.le_of_ble_eq_true rfl, Nat.le_of_ble_eq_true rfl⟩) Fa11 rfl rfl rfl hl.1 rfl (Nat.le_of_ble_eq_true rfl) dL_law_310 ⟨by show _ ≤ 601024; omega, by show _ ≤ 7293034; omega⟩) (fun r310 ws_2 H locs hp9 J => ?_)
      obtain ⟨k2, G2_a0, G2_a1, e_r310⟩ := hp9
      have hk := hk.trans (k2.mono (by decide))
      have G2_0 := k2.2 0 _ (by decide) Fa0
      have G2_1 := k2.2 1 _ (by decide) Fa1
      have G2_2 := k2.2 2 _ (by decide) Fa2
      have G2_3 := k2.2 3 _ (by decide) Fa3
      have G2_4 := k2.2 4 _ (by decide) Fa4
      have G2_5 := k2.2 5 _ (by decide) Fa5
      have G2_6 := k2.2 6 _ (by decide) Fa6
      have G2_7 := k2.2 7 _ (by decide) Fa7
      have G2_8 := k2.2 8 _ (by decide) Fa8
      have G2_9 := k2.2 9 _ (by decide) Fa9
      have G2_10 := k2.2 10 _ (by decide) Fa10
      have G2_13 := k2.2 13 _ (by decide) Fa13
      have G2_14 := k2.2 14 _ (by decide) Fa14
      have G2_15 := k2.2 15 _ (by decide) Fa15
      have G2_16 := k2.2 16 _ (by decide) Fa16
      have G2_17 := k2.2 17 _ (by decide) Fa17
      have G2_18 := k2.2 18 _ (by decide) Fa18
      refine lv_istore (lv' := [(6, .int r310), (5, .int (kChange (xs (i + 1)) (nI nf) (xs (i + 2)) (xs (i + 3)))), (4, .int (nI i)), (3, .ref ou), (2, .ref mo), (1, .ref x), (0, .ref b)]) hx hb dL_law_313 hl (by decide) rfl (fun ls hl => ?_)
      refine lv_aload_n hx hb dL_law_315 rfl (lv_at hl 4 rfl) ?_
      refine z_cr (z_rV (As := []) (rest := []) (ci := 8) (q0 := 11) X J (cX7_thrown_ok l E G2_a0) (cwV 0 hts gL_law_X7_thrown rfl rfl rfl (by decide +kernel) ⟨Nat.le_of_ble_eq_true rfl, Nat.le_of_ble_eq_true rfl⟩) G2_a0 rfl rfl rfl hl.1 rfl (Nat.le_of_ble_eq_true rfl) dL_law_316 ⟨by show _ ≤ 601024; omega, by show _ ≤ 7293034; omega⟩) (fun r316 e_r316 => ?_)
      subst e_r316
      refine lv_iload hx hb dL_law_319 (lv_at hl 1 rfl) ?_
      refine lv_icmp_eq (tgt := 326) hx hb dL_law_321 (by decide) (fun cz321 => ?_) (fun cz321 => by exact (cz321 rfl).elim)
      refine lv_iload hx hb dL_law_326 (lv_at hl 1 rfl) ?_
      refine lv_if_ne (tgt := 343) hx hb dL_law_328 (by decide) (fun cz328 => ?_) (fun cz328 => by exact (e_k cz328).elim)
      refine lv_goto (tgt := 1425) hx hb dL_law_343 (by decide) ?_
      refine W.widen (k := cells + 700) (n := slots + 4500) (by omega) (by omega) ?_
      exact kk _ H locs _ ⟨fl, rl, wh, gr, gra, tr, tra, sc, ha, va, mf, md, mi, ms9, mk, mt, ea, eb, nf, nr, mc1, mc2, lim, sup, off, plo, hrs, (kChange (xs (i + 1)) (nI nf) (xs (i + 2)) (xs (i + 3))), fa, rd, ri, sn, t9, hf, gf, kp, tp, o9, G2_0, G2_1, G2_2, G2_3, G2_4, G2_5, G2_6, G2_7, G2_8, G2_9, G2_10, G2_a0, (by simpa only [selN e_k] using G2_a1), G2_13, G2_14, G2_15, G2_16, G2_17, G2_18, (hF.keep hk (by decide)), (hR.keep hk (by decide)), hSep, hnf, hnr, hok, hor, hRB, hBI⟩ J (lv_sub hl [2, 3, 4, 5, 6] rfl)
    · subst e_v
      exact e_r286.elim
set_option maxHeartbeats 2000000 in
set_option maxRecDepth 100000 in
theorem turn_take {p : Program} {l : Launch} (hflags : l.flags = flags0) {e : Env} {s : State} {m : MethodId} {below : List Frame} {meth : Method} {c : Code} {b L : Nat} {xs : Nat → Int32} (E : zG) (X : zC E p m c cL_law 9 s #[.ref b] wsL_law RL) (hRz : zR s) (hNz : zNc s) (hXs : va_X b L xs s s.heap) (hbl : b < s.heap.size) (hbA : ¬ zA E b) (hE1 : ¬ zA E E.2.2.1) (hL9 : L ≤ 3584) {QQ : State → Prop} {ws : va_W} {x mo ou i cells slots : Nat} {H : Heap} {locs : List Loc} {ls : Array Slot} (hi : i + 7 ≤ L) (hW : LW E ws x mo ou) (J : zJ E ws s H locs) (hl : lv_has ls 9 [(4, .int (nI i)), (3, .ref ou), (2, .ref mo), (1, .ref x), (0, .ref b)]) (hc9 : cells + 700 ≤ 601024) (hs9 : slots + 4500 ≤ 7293034)
    (kk : ∀ (ws' : va_W) (H' : Heap) (locs' : List Loc) (ls' : Array Slot), LW E ws' x mo ou → zJ E ws' s H' locs' → lv_has ls' 9 [(4, .int (nI i)), (3, .ref ou), (2, .ref mo), (1, .ref x), (0, .ref b)] → W p l e room_1 s m #[.ref b] below meth c H' locs' (cells + 700) (slots + 4500) QQ (F0 m 1425 ls' [])) :
    W p l e room_1 s m #[.ref b] below meth c H locs cells slots QQ (F0 m 346 ls []) := by
  obtain ⟨fl, rl, wh, gr, gra, tr, tra, sc, ha, va, mf, md, mi, ms9, mk, mt, ea, eb, nf, nr, mc1, mc2, lim, sup, off, plo, hrs, th, fa, rd, ri, sn, t9, hf, gf, kp, tp, o9, Fa0, Fa1, Fa2, Fa3, Fa4, Fa5, Fa6, Fa7, Fa8, Fa9, Fa10, Fa11, Fa12, Fa13, Fa14, Fa15, Fa16, Fa17, Fa18, hF, hR, hSep, hnf, hnr, hok, hor, hRB, hBI⟩ := hW
  have hx := X.1.1
  have hb := X.1.2.1
  have hown := X.1.2.2.2.1
  have hts := X.1.2.2.2.2
  have hk : zK [0, 1, 2, 3, 4, 5, 6, 7, 8, 9, 10, 11, 12, 13, 14, 15, 16, 17, 18] ws ws := zK.rf
  have hlen19 := zlt Fa18
  have hJ9 := J.2.1
  by_cases hv9 : inR (xs (i + 1)) 0 (nI nf - 1)
  · obtain ⟨k9, hk31, ek9⟩ := inR_nI (n := nf) (by omega) hv9
    rcases hF with ⟨hn0, he0⟩ | ⟨qe, g, fo9, qf9, sp9, qs9, hFa⟩
    · omega
    have hFa : FSa E ws fa ea nf qe g fo9 qf9 sp9 qs9 := hFa
    have hq19 := hFa.1
    have hF : FS E ws fa ea nf := Or.inr ⟨qe, g, fo9, qf9, sp9, qs9, hFa⟩
    obtain ⟨kq1, kq2, kq3, kq4, kq5⟩ := hFa.2.2.1 k9 hk31
    have hk : zK [0, 1, 2, 3, 4, 5, 6, 7, 8, 9, 10, 11, 12, 13, 14, 15, 16, 17, 18, qe] ws ws := zK.rf
    refine lv_aload_n hx hb dL_law_346 rfl (lv_at hl 3 rfl) ?_
    refine lv_aload_n hx hb dL_law_347 rfl (lv_at hl 4 rfl) ?_
    refine lv_iload hx hb dL_law_348 (lv_at hl 0 rfl) ?_
    refine lv_iconst (v := 1) hx hb dL_law_350 (by decide) ?_
    refine lv_iadd hx hb dL_law_351 ?_
    refine W.eq (g2 := F0 m 352 ls [.int (nI (i + 1)), .ref b, .ref x]) (congrArg (fun z9 : Int32 => F0 m 352 ls [.int z9, .ref b, .ref x]) (show ((nI i) + 1 : Int32) = nI (i + 1) from (nI_add i 1))) ?_
    refine va_sld hx hb hXs hbl hbA J.2.2 (vp_in_nI (by omega) (by omega)) dL_law_352 ?_
    refine W.eq (g2 := F0 m 353 ls [.int (xs (i + 1)), .ref x]) (congrArg (fun z9 : Int32 => F0 m 353 ls [.int z9, .ref x]) (show (xs (nI (i + 1)).toNatClampNeg : Int32) = xs (i + 1) from (congrArg xs (nI_clamp (by omega))))) ?_
    refine W.eq (g2 := F0 m 353 ls [.int (nI k9), .ref x]) (congrArg (fun z9 : Int32 => F0 m 353 ls [.int z9, .ref x]) (show (xs (i + 1) : Int32) = nI k9 from ek9)) ?_
    refine lv_aload_n hx hb dL_law_353 rfl (lv_at hl 1 rfl) ?_
    refine z_xi J (z_wS (As := [.ref x, .int (nI k9), .ref ou]) (rest := []) X hRz hNz J (cL_take_v_ok l hflags E Fa0 Fa1 hFa.2.1 Fa18 hnf hk31 (fun j hj => ⟨fo9 j, qf9 j, _, (hFa.2.2.1 j hj).2.2.1, (hFa.2.2.1 j hj).2.2.2.1⟩)) (vx_cwSW (hh := [(0, 9, 12, 15)]) 3 hts gL_law_L_take rfl rfl rfl (by decide +kernel) ⟨Nat.le_of_ble_eq_true rfl, Nat.le_of_ble_eq_true rfl⟩) rfl hl.1 rfl (Nat.le_of_ble_eq_true rfl) dL_law_354 ⟨by show _ ≤ 601024; omega, by show _ ≤ 7293034; omega⟩) (fun nm ce q9 H locs hp9 J h1 h2 h3 => ?_) (fun r354 ws_1 H locs hp9 J => ?_)
    · exact False.elim (by exact hp9)
    rcases hp9 with ⟨e_v, e_k, rfl⟩ | ⟨e_v, e_k, k1, ⟨g2_1, G1_a0, G1_a1, G1_a2, e_r354⟩⟩
    · subst e_v
      have hk : zK [0, 1, 2, 3, 4, 5, 6, 7, 8, 9, 10, 11, 12, 13, 14, 15, 16, 17, 18] ws ws := zK.rf
      refine lv_istore (lv' := [(5, .int (kIdx (nI k9) (nI nf))), (4, .int (nI i)), (3, .ref ou), (2, .ref mo), (1, .ref x), (0, .ref b)]) hx hb dL_law_357 hl (by decide) rfl (fun ls hl => ?_)
      refine lv_aload_n hx hb dL_law_359 rfl (lv_at hl 3 rfl) ?_
      refine lv_aload_n hx hb dL_law_360 rfl (lv_at hl 5 rfl) ?_
      refine lv_iload hx hb dL_law_361 (lv_at hl 1 rfl) ?_
      refine lv_iconst (v := 1) hx hb dL_law_363 (by decide) ?_
      refine lv_iadd hx hb dL_law_364 ?_
      refine W.eq (g2 := F0 m 365 ls [.int (nI (i + 1)), .ref b, .ref mo]) (congrArg (fun z9 : Int32 => F0 m 365 ls [.int z9, .ref b, .ref mo]) (show ((nI i) + 1 : Int32) = nI (i + 1) from (nI_add i 1))) ?_
      refine va_sld hx hb hXs hbl hbA J.2.2 (vp_in_nI (by omega) (by omega)) dL_law_365 ?_
      refine W.eq (g2 := F0 m 366 ls [.int (xs (i + 1)), .ref mo]) (congrArg (fun z9 : Int32 => F0 m 366 ls [.int z9, .ref mo]) (show (xs (nI (i + 1)).toNatClampNeg : Int32) = xs (i + 1) from (congrArg xs (nI_clamp (by omega))))) ?_
      refine W.eq (g2 := F0 m 366 ls [.int (nI k9), .ref mo]) (congrArg (fun z9 : Int32 => F0 m 366 ls [.int z9, .ref mo]) (show (xs (i + 1) : Int32) = nI k9 from ek9)) ?_
      refine z_ci J (z_rV (As := [.int (nI k9)]) (rest := []) (ci := 8) (q0 := 11) X J (cX7_take_ok l E Fa11 Fa12 (by first | assumption | omega | decide)) (cwV 1 hts gL_law_X7_take rfl rfl rfl (by decide +kernel) ⟨Nat.le_of_ble_eq_true rfl, Nat.le_of_ble_eq_true rfl⟩) Fa11 rfl rfl rfl hl.1 rfl (Nat.le_of_ble_eq_true rfl) dL_law_366 ⟨by show _ ≤ 601024; omega, by show _ ≤ 7293034; omega⟩) (fun r366 ws_2 H locs hp9 J => ?_)
      obtain ⟨k2, G2_a0, G2_a1, e_r366⟩ := hp9
      have hk := hk.trans (k2.mono (by decide))
      have G2_0 := k2.2 0 _ (by decide) Fa0
      have G2_1 := k2.2 1 _ (by decide) Fa1
      have G2_2 := k2.2 2 _ (by decide) Fa2
      have G2_3 := k2.2 3 _ (by decide) Fa3
      have G2_4 := k2.2 4 _ (by decide) Fa4
      have G2_5 := k2.2 5 _ (by decide) Fa5
      have G2_6 := k2.2 6 _ (by decide) Fa6
      have G2_7 := k2.2 7 _ (by decide) Fa7
      have G2_8 := k2.2 8 _ (by decide) Fa8
      have G2_9 := k2.2 9 _ (by decide) Fa9
      have G2_10 := k2.2 10 _ (by decide) Fa10
      have G2_13 := k2.2 13 _ (by decide) Fa13
      have G2_14 := k2.2 14 _ (by decide) Fa14
      have G2_15 := k2.2 15 _ (by decide) Fa15
      have G2_16 := k2.2 16 _ (by decide) Fa16
      have G2_17 := k2.2 17 _ (by decide) Fa17
      have G2_18 := k2.2 18 _ (by decide) Fa18
      have G2_19 := k2.2 qe _ (by simp only [List.mem_cons, List.not_mem_nil, or_false]; omega) hFa.2.1
      have F11 : ws_2[11]? = some (mo, .inr (8, [.int (kIdx (nI k9) (nI nf)), .int (nI nf), .ref mf, .int (nI nr), .ref md, .ref mi, .int lim, .int sup, .int off, .int plo, .int hrs, .ref ms9, .ref mk, .ref mt])) := by simpa only [selN e_k] using G2_a0
      refine lv_istore (lv' := [(6, .int r366), (5, .int (kIdx (nI k9) (nI nf))), (4, .int (nI i)), (3, .ref ou), (2, .ref mo), (1, .ref x), (0, .ref b)]) hx hb dL_law_369 hl (by decide) rfl (fun ls hl => ?_)
      refine lv_aload_n hx hb dL_law_371 rfl (lv_at hl 4 rfl) ?_
      refine z_cr (z_rV (As := []) (rest := []) (ci := 8) (q0 := 11) X J (cX7_thrown_ok l E F11) (cwV 0 hts gL_law_X7_thrown rfl rfl rfl (by decide +kernel) ⟨Nat.le_of_ble_eq_true rfl, Nat.le_of_ble_eq_true rfl⟩) F11 rfl rfl rfl hl.1 rfl (Nat.le_of_ble_eq_true rfl) dL_law_372 ⟨by show _ ≤ 601024; omega, by show _ ≤ 7293034; omega⟩) (fun r372 e_r372 => ?_)
      subst e_r372
      refine lv_iload hx hb dL_law_375 (lv_at hl 1 rfl) ?_
      refine lv_icmp_eq (tgt := 382) hx hb dL_law_377 (by decide) (fun cz377 => ?_) (fun cz377 => by exact (cz377 rfl).elim)
      refine lv_iload hx hb dL_law_382 (lv_at hl 1 rfl) ?_
      refine lv_if_ne (tgt := 399) hx hb dL_law_384 (by decide) (fun cz384 => ?_) (fun cz384 => by exact (e_k cz384).elim)
      refine lv_goto (tgt := 1425) hx hb dL_law_399 (by decide) ?_
      refine W.widen (k := cells + 700) (n := slots + 4500) (by omega) (by omega) ?_
      exact kk _ H locs _ ⟨fl, rl, wh, gr, gra, tr, tra, sc, ha, va, mf, md, mi, ms9, mk, mt, ea, eb, nf, nr, mc1, mc2, lim, sup, off, plo, hrs, (kIdx (nI k9) (nI nf)), fa, rd, ri, sn, t9, hf, gf, kp, tp, o9, G2_0, G2_1, G2_2, G2_3, G2_4, G2_5, G2_6, G2_7, G2_8, G2_9, G2_10, F11, (by simpa only [selN e_k] using G2_a1), G2_13, G2_14, G2_15, G2_16, G2_17, G2_18, (hF.keep hk (by decide)), (hR.keep hk (by decide)), hSep, hnf, hnr, hok, hor, hRB, hBI⟩ J (lv_sub hl [2, 3, 4, 5, 6] rfl)
    · subst e_v
      have hk := hk.trans (k1.mono (by intro q9 hq9; simp only [List.mem_cons, List.not_mem_nil, or_false] at hq9 ⊢; omega))
      have G1_0 := k1.2 0 _ (by simp only [List.mem_cons, List.not_mem_nil, or_false]; omega) Fa0
      have G1_2 := k1.2 2 _ (by simp only [List.mem_cons, List.not_mem_nil, or_false]; omega) Fa2
      have G1_3 := k1.2 3 _ (by simp only [List.mem_cons, List.not_mem_nil, or_false]; omega) Fa3
      have G1_4 := k1.2 4 _ (by simp only [List.mem_cons, List.not_mem_nil, or_false]; omega) Fa4
      have G1_5 := k1.2 5 _ (by simp only [List.mem_cons, List.not_mem_nil, or_false]; omega) Fa5
      have G1_6 := k1.2 6 _ (by simp only [List.mem_cons, List.not_mem_nil, or_false]; omega) Fa6
      have G1_7 := k1.2 7 _ (by simp only [List.mem_cons, List.not_mem_nil, or_false]; omega) Fa7
      have G1_8 := k1.2 8 _ (by simp only [List.mem_cons, List.not_mem_nil, or_false]; omega) Fa8
      have G1_9 := k1.2 9 _ (by simp only [List.mem_cons, List.not_mem_nil, or_false]; omega) Fa9
      have G1_10 := k1.2 10 _ (by simp only [List.mem_cons, List.not_mem_nil, or_false]; omega) Fa10
      have G1_11 := k1.2 11 _ (by simp only [List.mem_cons, List.not_mem_nil, or_false]; omega) Fa11
      have G1_12 := k1.2 12 _ (by simp only [List.mem_cons, List.not_mem_nil, or_false]; omega) Fa12
      have G1_13 := k1.2 13 _ (by simp only [List.mem_cons, List.not_mem_nil, or_false]; omega) Fa13
      have G1_14 := k1.2 14 _ (by simp only [List.mem_cons, List.not_mem_nil, or_false]; omega) Fa14
      have G1_15 := k1.2 15 _ (by simp only [List.mem_cons, List.not_mem_nil, or_false]; omega) Fa15
      have G1_16 := k1.2 16 _ (by simp only [List.mem_cons, List.not_mem_nil, or_false]; omega) Fa16
      have G1_17 := k1.2 17 _ (by simp only [List.mem_cons, List.not_mem_nil, or_false]; omega) Fa17
      refine lv_istore (lv' := [(5, .int 0), (4, .int (nI i)), (3, .ref ou), (2, .ref mo), (1, .ref x), (0, .ref b)]) hx hb dL_law_357 hl (by decide) rfl (fun ls hl => ?_)
      refine lv_aload_n hx hb dL_law_359 rfl (lv_at hl 3 rfl) ?_
      refine lv_aload_n hx hb dL_law_360 rfl (lv_at hl 5 rfl) ?_
      refine lv_iload hx hb dL_law_361 (lv_at hl 1 rfl) ?_
      refine lv_iconst (v := 1) hx hb dL_law_363 (by decide) ?_
      refine lv_iadd hx hb dL_law_364 ?_
      refine W.eq (g2 := F0 m 365 ls [.int (nI (i + 1)), .ref b, .ref mo]) (congrArg (fun z9 : Int32 => F0 m 365 ls [.int z9, .ref b, .ref mo]) (show ((nI i) + 1 : Int32) = nI (i + 1) from (nI_add i 1))) ?_
      refine va_sld hx hb hXs hbl hbA J.2.2 (vp_in_nI (by omega) (by omega)) dL_law_365 ?_
      refine W.eq (g2 := F0 m 366 ls [.int (xs (i + 1)), .ref mo]) (congrArg (fun z9 : Int32 => F0 m 366 ls [.int z9, .ref mo]) (show (xs (nI (i + 1)).toNatClampNeg : Int32) = xs (i + 1) from (congrArg xs (nI_clamp (by omega))))) ?_
      refine W.eq (g2 := F0 m 366 ls [.int (nI k9), .ref mo]) (congrArg (fun z9 : Int32 => F0 m 366 ls [.int z9, .ref mo]) (show (xs (i + 1) : Int32) = nI k9 from ek9)) ?_
      refine z_ci J (z_rV (As := [.int (nI k9)]) (rest := []) (ci := 8) (q0 := 11) X J (cX7_take_ok l E G1_11 G1_12 (by first | assumption | omega | decide)) (cwV 1 hts gL_law_X7_take rfl rfl rfl (by decide +kernel) ⟨Nat.le_of_ble_eq_true rfl, Nat.le_of_ble_eq_true rfl⟩) G1_11 rfl rfl rfl hl.1 rfl (Nat.le_of_ble_eq_true rfl) dL_law_366 ⟨by show _ ≤ 601024; omega, by show _ ≤ 7293034; omega⟩) (fun r366 ws_2 H locs hp9 J => ?_)
      obtain ⟨k2, G2_a0, G2_a1, e_r366⟩ := hp9
      have hk := hk.trans (k2.mono (by intro q9 hq9; simp only [List.mem_cons, List.not_mem_nil, or_false] at hq9 ⊢; omega))
      have G2_0 := k2.2 0 _ (by decide) G1_0
      have G2_1 := k2.2 1 _ (by decide) G1_a0
      have G2_2 := k2.2 2 _ (by decide) G1_2
      have G2_3 := k2.2 3 _ (by decide) G1_3
      have G2_4 := k2.2 4 _ (by decide) G1_4
      have G2_5 := k2.2 5 _ (by decide) G1_5
      have G2_6 := k2.2 6 _ (by decide) G1_6
      have G2_7 := k2.2 7 _ (by decide) G1_7
      have G2_8 := k2.2 8 _ (by decide) G1_8
      have G2_9 := k2.2 9 _ (by decide) G1_9
      have G2_10 := k2.2 10 _ (by decide) G1_10
      have G2_13 := k2.2 13 _ (by decide) G1_13
      have G2_14 := k2.2 14 _ (by decide) G1_14
      have G2_15 := k2.2 15 _ (by decide) G1_15
      have G2_16 := k2.2 16 _ (by decide) G1_16
      have G2_17 := k2.2 17 _ (by decide) G1_17
      have G2_18 := k2.2 18 _ (by decide) G1_a2
      have G2_19 := k2.2 qe _ (by simp only [List.mem_cons, List.not_mem_nil, or_false]; omega) G1_a1
      refine W.eq (g2 := F0 m 369 ls [.int (nI (nf - 1))]) (congrArg (fun z9 : Int32 => F0 m 369 ls [.int z9]) (show (r366 : Int32) = nI (nf - 1) from (by rw [e_r366, e_k, sel0]))) ?_
      have F11 : ws_2[11]? = some (mo, .inr (8, [.int (kIdx (nI k9) (nI nf)), .int (nI (nf - 1)), .ref mf, .int (nI nr), .ref md, .ref mi, .int lim, .int sup, .int off, .int plo, .int hrs, .ref ms9, .ref mk, .ref mt])) := by simpa only [e_k, sel0] using G2_a0
      refine lv_istore (lv' := [(6, .int (nI (nf - 1))), (5, .int 0), (4, .int (nI i)), (3, .ref ou), (2, .ref mo), (1, .ref x), (0, .ref b)]) hx hb dL_law_369 hl (by decide) rfl (fun ls hl => ?_)
      refine lv_aload_n hx hb dL_law_371 rfl (lv_at hl 4 rfl) ?_
      refine z_cr (z_rV (As := []) (rest := []) (ci := 8) (q0 := 11) X J (cX7_thrown_ok l E F11) (cwV 0 hts gL_law_X7_thrown rfl rfl rfl (by decide +kernel) ⟨Nat.le_of_ble_eq_true rfl, Nat.le_of_ble_eq_true rfl⟩) F11 rfl rfl rfl hl.1 rfl (Nat.le_of_ble_eq_true rfl) dL_law_372 ⟨by show _ ≤ 601024; omega, by show _ ≤ 7293034; omega⟩) (fun r372 e_r372 => ?_)
      subst e_r372
      refine lv_iload hx hb dL_law_375 (lv_at hl 1 rfl) ?_
      refine lv_icmp_eq (tgt := 382) hx hb dL_law_377 (by decide) (fun cz377 => ?_) (fun cz377 => by exact (cz377 e_k).elim)
      refine lv_iload hx hb dL_law_382 (lv_at hl 1 rfl) ?_
      refine lv_if_ne (tgt := 399) hx hb dL_law_384 (by decide) (fun cz384 => by exact absurd cz384 (by decide)) (fun cz384 => ?_)
      refine lv_aload_n hx hb dL_law_387 rfl (lv_at hl 3 rfl) ?_
      refine lv_iconst (v := 0) hx hb dL_law_388 (by decide) ?_
      refine z_lald X J 18 G2_18 (vp_in_nI (n := 0) (by decide) (by decide)) dL_law_389 ?_
      refine W.eq (g2 := F0 m 390 ls [.long ((nI (nf - 1)).toInt64)]) (congrArg (fun z9 : Int64 => F0 m 390 ls [.long z9]) (show ((vp_updL o9 0 (nI (nf - 1)).toInt64) (0 : Int32).toNatClampNeg : Int64) = (nI (nf - 1)).toInt64 from rfl)) ?_
      refine lv_iload hx hb dL_law_390 (lv_at hl 0 rfl) ?_
      refine lv_i2l (v := (nI (nf - 1)).toInt64) hx hb dL_law_392 rfl ?_
      refine W.lcmp hx hb dL_law_393 ?_
      refine W.eq (g2 := F0 m 394 ls [.int 0]) (congrArg (fun z9 : Int32 => F0 m 394 ls [.int z9]) (show (lg_cmp ((nI (nf - 1)).toInt64) ((nI (nf - 1)).toInt64) : Int32) = 0 from (lg_cmp_self _))) ?_
      refine lv_if_eq (tgt := 399) hx hb dL_law_394 (by decide) (fun cz394 => ?_) (fun cz394 => by exact absurd cz394 (by decide))
      refine lv_goto (tgt := 1425) hx hb dL_law_399 (by decide) ?_
      refine W.widen (k := cells + 700) (n := slots + 4500) (by omega) (by omega) ?_
      exact kk _ H locs _ ⟨fl, rl, wh, gr, gra, tr, tra, sc, ha, va, mf, md, mi, ms9, mk, mt, ea, eb, (nf - 1), nr, (mc1 + 1), mc2, lim, sup, off, plo, hrs, (kIdx (nI k9) (nI nf)), (ftake fa k9 (nf - 1)), rd, ri, sn, t9, hf, gf, kp, tp, (vp_updL o9 0 (nI (nf - 1)).toInt64), G2_0, G2_1, G2_2, G2_3, G2_4, G2_5, G2_6, G2_7, G2_8, G2_9, G2_10, F11, (by simpa only [e_k, sel0, nI_clamp (show k9 < 2 ^ 31 by omega)] using G2_a1), G2_13, G2_14, G2_15, G2_16, G2_17, G2_18, (FS.tak hFa hk31 hk (by intro q hq; simp only [List.mem_cons, List.not_mem_nil, or_false] at hq; omega) G2_19 e_r354), (hR.keepE hk hFa.2.1 rfl rfl (hSep.ne hJ9 hE1 hFa.2.1) (by intro q hq; simp only [List.mem_cons, List.not_mem_nil, or_false] at hq; omega)), hSep, (by omega), hnr, (okF_tak hok hk31), hor, hRB, hBI⟩ J (lv_sub hl [2, 3, 4, 5, 6] rfl)
  · have hx9 := hv9
    refine lv_aload_n hx hb dL_law_346 rfl (lv_at hl 3 rfl) ?_
    refine lv_aload_n hx hb dL_law_347 rfl (lv_at hl 4 rfl) ?_
    refine lv_iload hx hb dL_law_348 (lv_at hl 0 rfl) ?_
    refine lv_iconst (v := 1) hx hb dL_law_350 (by decide) ?_
    refine lv_iadd hx hb dL_law_351 ?_
    refine W.eq (g2 := F0 m 352 ls [.int (nI (i + 1)), .ref b, .ref x]) (congrArg (fun z9 : Int32 => F0 m 352 ls [.int z9, .ref b, .ref x]) (show ((nI i) + 1 : Int32) = nI (i + 1) from (nI_add i 1))) ?_
    refine va_sld hx hb hXs hbl hbA J.2.2 (vp_in_nI (by omega) (by omega)) dL_law_352 ?_
    refine W.eq (g2 := F0 m 353 ls [.int (xs (i + 1)), .ref x]) (congrArg (fun z9 : Int32 => F0 m 353 ls [.int z9, .ref x]) (show (xs (nI (i + 1)).toNatClampNeg : Int32) = xs (i + 1) from (congrArg xs (nI_clamp (by omega))))) ?_
    refine lv_aload_n hx hb dL_law_353 rfl (lv_at hl 1 rfl) ?_
    refine z_xi J (z_wS (As := [.ref x, .int (xs (i + 1)), .ref ou]) (rest := []) X hRz hNz J (cL_take_x_ok l hflags E Fa0 Fa1 Fa18 hnf hx9) (vx_cwSW (hh := [(0, 9, 12, 15)]) 3 hts gL_law_L_take rfl rfl rfl (by decide +kernel) ⟨Nat.le_of_ble_eq_true rfl, Nat.le_of_ble_eq_true rfl⟩) rfl hl.1 rfl (Nat.le_of_ble_eq_true rfl) dL_law_354 ⟨by show _ ≤ 601024; omega, by show _ ≤ 7293034; omega⟩) (fun nm ce q9 H locs hp9 J h1 h2 h3 => ?_) (fun r354 ws_1 H locs hp9 J => ?_)
    · exact False.elim (by exact hp9)
    rcases hp9 with ⟨e_v, e_k, rfl⟩ | ⟨e_v, e_k, rfl, e_r354⟩
    · subst e_v
      refine lv_istore (lv' := [(5, .int (kIdx (xs (i + 1)) (nI nf))), (4, .int (nI i)), (3, .ref ou), (2, .ref mo), (1, .ref x), (0, .ref b)]) hx hb dL_law_357 hl (by decide) rfl (fun ls hl => ?_)
      refine lv_aload_n hx hb dL_law_359 rfl (lv_at hl 3 rfl) ?_
      refine lv_aload_n hx hb dL_law_360 rfl (lv_at hl 5 rfl) ?_
      refine lv_iload hx hb dL_law_361 (lv_at hl 1 rfl) ?_
      refine lv_iconst (v := 1) hx hb dL_law_363 (by decide) ?_
      refine lv_iadd hx hb dL_law_364 ?_
      refine W.eq (g2 := F0 m 365 ls [.int (nI (i + 1)), .ref b, .ref mo]) (congrArg (fun z9 : Int32 => F0 m 365 ls [.int z9, .ref b, .ref mo]) (show ((nI i) + 1 : Int32) = nI (i + 1) from (nI_add i 1))) ?_
      refine va_sld hx hb hXs hbl hbA J.2.2 (vp_in_nI (by omega) (by omega)) dL_law_365 ?_
      refine W.eq (g2 := F0 m 366 ls [.int (xs (i + 1)), .ref mo]) (congrArg (fun z9 : Int32 => F0 m 366 ls [.int z9, .ref mo]) (show (xs (nI (i + 1)).toNatClampNeg : Int32) = xs (i + 1) from (congrArg xs (nI_clamp (by omega))))) ?_
      refine z_ci J (z_rV (As := [.int (xs (i + 1))]) (rest := []) (ci := 8) (q0 := 11) X J (cX7_take_ok l E Fa11 Fa12 (by first | assumption | omega | decide)) (cwV 1 hts gL_law_X7_take rfl rfl rfl (by decide +kernel) ⟨Nat.le_of_ble_eq_true rfl, Nat.le_of_ble_eq_true rfl⟩) Fa11 rfl rfl rfl hl.1 rfl (Nat.le_of_ble_eq_true rfl) dL_law_366 ⟨by show _ ≤ 601024; omega, by show _ ≤ 7293034; omega⟩) (fun r366 ws_2 H locs hp9 J => ?_)
      obtain ⟨k2, G2_a0, G2_a1, e_r366⟩ := hp9
      have hk := hk.trans (k2.mono (by decide))
      have G2_0 := k2.2 0 _ (by decide) Fa0
      have G2_1 := k2.2 1 _ (by decide) Fa1
      have G2_2 := k2.2 2 _ (by decide) Fa2
      have G2_3 := k2.2 3 _ (by decide) Fa3
      have G2_4 := k2.2 4 _ (by decide) Fa4
      have G2_5 := k2.2 5 _ (by decide) Fa5
      have G2_6 := k2.2 6 _ (by decide) Fa6
      have G2_7 := k2.2 7 _ (by decide) Fa7
      have G2_8 := k2.2 8 _ (by decide) Fa8
      have G2_9 := k2.2 9 _ (by decide) Fa9
      have G2_10 := k2.2 10 _ (by decide) Fa10
      have G2_13 := k2.2 13 _ (by decide) Fa13
      have G2_14 := k2.2 14 _ (by decide) Fa14
      have G2_15 := k2.2 15 _ (by decide) Fa15
      have G2_16 := k2.2 16 _ (by decide) Fa16
      have G2_17 := k2.2 17 _ (by decide) Fa17
      have G2_18 := k2.2 18 _ (by decide) Fa18
      have F11 : ws_2[11]? = some (mo, .inr (8, [.int (kIdx (xs (i + 1)) (nI nf)), .int (nI nf), .ref mf, .int (nI nr), .ref md, .ref mi, .int lim, .int sup, .int off, .int plo, .int hrs, .ref ms9, .ref mk, .ref mt])) := by simpa only [selN e_k] using G2_a0
      refine lv_istore (lv' := [(6, .int r366), (5, .int (kIdx (xs (i + 1)) (nI nf))), (4, .int (nI i)), (3, .ref ou), (2, .ref mo), (1, .ref x), (0, .ref b)]) hx hb dL_law_369 hl (by decide) rfl (fun ls hl => ?_)
      refine lv_aload_n hx hb dL_law_371 rfl (lv_at hl 4 rfl) ?_
      refine z_cr (z_rV (As := []) (rest := []) (ci := 8) (q0 := 11) X J (cX7_thrown_ok l E F11) (cwV 0 hts gL_law_X7_thrown rfl rfl rfl (by decide +kernel) ⟨Nat.le_of_ble_eq_true rfl, Nat.le_of_ble_eq_true rfl⟩) F11 rfl rfl rfl hl.1 rfl (Nat.le_of_ble_eq_true rfl) dL_law_372 ⟨by show _ ≤ 601024; omega, by show _ ≤ 7293034; omega⟩) (fun r372 e_r372 => ?_)
      subst e_r372
      refine lv_iload hx hb dL_law_375 (lv_at hl 1 rfl) ?_
      refine lv_icmp_eq (tgt := 382) hx hb dL_law_377 (by decide) (fun cz377 => ?_) (fun cz377 => by exact (cz377 rfl).elim)
      refine lv_iload hx hb dL_law_382 (lv_at hl 1 rfl) ?_
      refine lv_if_ne (tgt := 399) hx hb dL_law_384 (by decide) (fun cz384 => ?_) (fun cz384 => by exact (e_k cz384).elim)
      refine lv_goto (tgt := 1425) hx hb dL_law_399 (by decide) ?_
      refine W.widen (k := cells + 700) (n := slots + 4500) (by omega) (by omega) ?_
      exact kk _ H locs _ ⟨fl, rl, wh, gr, gra, tr, tra, sc, ha, va, mf, md, mi, ms9, mk, mt, ea, eb, nf, nr, mc1, mc2, lim, sup, off, plo, hrs, (kIdx (xs (i + 1)) (nI nf)), fa, rd, ri, sn, t9, hf, gf, kp, tp, o9, G2_0, G2_1, G2_2, G2_3, G2_4, G2_5, G2_6, G2_7, G2_8, G2_9, G2_10, F11, (by simpa only [selN e_k] using G2_a1), G2_13, G2_14, G2_15, G2_16, G2_17, G2_18, (hF.keep hk (by decide)), (hR.keep hk (by decide)), hSep, hnf, hnr, hok, hor, hRB, hBI⟩ J (lv_sub hl [2, 3, 4, 5, 6] rfl)
    · subst e_v
      exact e_r354.elim
