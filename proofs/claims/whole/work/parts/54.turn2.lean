set_option maxHeartbeats 2000000 in
set_option maxRecDepth 100000 in
theorem turn_about {p : Program} {l : Launch} (hflags : l.flags = flags0) {e : Env} {s : State} {m : MethodId} {below : List Frame} {meth : Method} {c : Code} {b L : Nat} {xs : Nat → Int32} (E : zG) (X : zC E p m c cL_law 9 s #[.ref b] wsL_law RL) (hRz : zR s) (hNz : zNc s) (hXs : va_X b L xs s s.heap) (hbl : b < s.heap.size) (hbA : ¬ zA E b) (hE1 : ¬ zA E E.2.2.1) (hL9 : L ≤ 3584) {QQ : State → Prop} {ws : va_W} {x mo ou i cells slots : Nat} {H : Heap} {locs : List Loc} {ls : Array Slot} (hi : i + 7 ≤ L) (hW : LW E ws x mo ou) (J : zJ E ws s H locs) (hl : lv_has ls 9 [(4, .int (nI i)), (3, .ref ou), (2, .ref mo), (1, .ref x), (0, .ref b)]) (hc9 : cells + 700 ≤ 601024) (hs9 : slots + 4500 ≤ 7293034)
    (kk : ∀ (ws' : va_W) (H' : Heap) (locs' : List Loc) (ls' : Array Slot), LW E ws' x mo ou → zJ E ws' s H' locs' → lv_has ls' 9 [(4, .int (nI i)), (3, .ref ou), (2, .ref mo), (1, .ref x), (0, .ref b)] → W p l e room_1 s m #[.ref b] below meth c H' locs' (cells + 700) (slots + 4500) QQ (F0 m 1425 ls' [])) :
    W p l e room_1 s m #[.ref b] below meth c H locs cells slots QQ (F0 m 858 ls []) := by
  obtain ⟨fl, rl, wh, gr, gra, tr, tra, sc, ha, va, mf, md, mi, ms9, mk, mt, ea, eb, nf, nr, mc1, mc2, lim, sup, off, plo, hrs, th, fa, rd, ri, sn, t9, hf, gf, kp, tp, o9, Fa0, Fa1, Fa2, Fa3, Fa4, Fa5, Fa6, Fa7, Fa8, Fa9, Fa10, Fa11, Fa12, Fa13, Fa14, Fa15, Fa16, Fa17, Fa18, hF, hR, hSep, hnf, hnr, hok, hor, hRB, hBI⟩ := hW
  have hx := X.1.1
  have hb := X.1.2.1
  have hown := X.1.2.2.2.1
  have hts := X.1.2.2.2.2
  have hk : zK [0, 1, 2, 3, 4, 5, 6, 7, 8, 9, 10, 11, 12, 13, 14, 15, 16, 17, 18] ws ws := zK.rf
  have hlen19 := zlt Fa18
  refine lv_aload_n hx hb dL_law_858 rfl (lv_at hl 3 rfl) ?_
  refine lv_aload_n hx hb dL_law_859 rfl (lv_at hl 4 rfl) ?_
  refine lv_iload hx hb dL_law_860 (lv_at hl 0 rfl) ?_
  refine lv_iconst (v := 1) hx hb dL_law_862 (by decide) ?_
  refine lv_iadd hx hb dL_law_863 ?_
  refine W.eq (g2 := F0 m 864 ls [.int (nI (i + 1)), .ref b, .ref x]) (congrArg (fun z9 : Int32 => F0 m 864 ls [.int z9, .ref b, .ref x]) (show ((nI i) + 1 : Int32) = nI (i + 1) from (nI_add i 1))) ?_
  refine va_sld hx hb hXs hbl hbA J.2.2 (vp_in_nI (by omega) (by omega)) dL_law_864 ?_
  refine W.eq (g2 := F0 m 865 ls [.int (xs (i + 1)), .ref x]) (congrArg (fun z9 : Int32 => F0 m 865 ls [.int z9, .ref x]) (show (xs (nI (i + 1)).toNatClampNeg : Int32) = xs (i + 1) from (congrArg xs (nI_clamp (by omega))))) ?_
  refine lv_aload_n hx hb dL_law_865 rfl (lv_at hl 4 rfl) ?_
  refine lv_iload hx hb dL_law_866 (lv_at hl 0 rfl) ?_
  refine lv_iconst (v := 2) hx hb dL_law_868 (by decide) ?_
  refine lv_iadd hx hb dL_law_869 ?_
  refine W.eq (g2 := F0 m 870 ls [.int (nI (i + 2)), .ref b, .int (xs (i + 1)), .ref x]) (congrArg (fun z9 : Int32 => F0 m 870 ls [.int z9, .ref b, .int (xs (i + 1)), .ref x]) (show ((nI i) + 2 : Int32) = nI (i + 2) from (nI_add i 2))) ?_
  refine va_sld hx hb hXs hbl hbA J.2.2 (vp_in_nI (by omega) (by omega)) dL_law_870 ?_
  refine W.eq (g2 := F0 m 871 ls [.int (xs (i + 2)), .int (xs (i + 1)), .ref x]) (congrArg (fun z9 : Int32 => F0 m 871 ls [.int z9, .int (xs (i + 1)), .ref x]) (show (xs (nI (i + 2)).toNatClampNeg : Int32) = xs (i + 2) from (congrArg xs (nI_clamp (by omega))))) ?_
  refine lv_aload_n hx hb dL_law_871 rfl (lv_at hl 1 rfl) ?_
  refine z_xi J (z_wS (As := [.ref x, .int (xs (i + 1)), .int (xs (i + 2)), .ref ou]) (rest := []) X hRz hNz J (cL_about_ok l hflags E Fa0 Fa1 Fa4 Fa5 Fa18 (by first | assumption | omega | decide) (by first | assumption | omega | decide) (by first | assumption | omega | decide)) (vx_cwSW (hh := [(0, 10, 13, 15)]) 4 hts gL_law_L_about rfl rfl rfl (by decide +kernel) ⟨Nat.le_of_ble_eq_true rfl, Nat.le_of_ble_eq_true rfl⟩) rfl hl.1 rfl (Nat.le_of_ble_eq_true rfl) dL_law_872 ⟨by show _ ≤ 601024; omega, by show _ ≤ 7293034; omega⟩) (fun nm ce q9 H locs hp9 J h1 h2 h3 => ?_) (fun r872 ws_1 H locs hp9 J => ?_)
  · exact False.elim (by exact hp9)
  rcases hp9 with ⟨e_v, e_k, rfl⟩ | ⟨e_v, e_k, k1, G1_a0⟩
  · subst e_v
    refine lv_istore (lv' := [(5, .int (kAsk (xs (i + 1)) (nI nf) (xs (i + 2)) 6)), (4, .int (nI i)), (3, .ref ou), (2, .ref mo), (1, .ref x), (0, .ref b)]) hx hb dL_law_875 hl (by decide) rfl (fun ls hl => ?_)
    refine lv_aload_n hx hb dL_law_877 rfl (lv_at hl 3 rfl) ?_
    refine lv_aload_n hx hb dL_law_878 rfl (lv_at hl 5 rfl) ?_
    refine lv_iload hx hb dL_law_879 (lv_at hl 1 rfl) ?_
    refine lv_iconst (v := 1) hx hb dL_law_881 (by decide) ?_
    refine lv_iadd hx hb dL_law_882 ?_
    refine W.eq (g2 := F0 m 883 ls [.int (nI (i + 1)), .ref b, .ref mo]) (congrArg (fun z9 : Int32 => F0 m 883 ls [.int z9, .ref b, .ref mo]) (show ((nI i) + 1 : Int32) = nI (i + 1) from (nI_add i 1))) ?_
    refine va_sld hx hb hXs hbl hbA J.2.2 (vp_in_nI (by omega) (by omega)) dL_law_883 ?_
    refine W.eq (g2 := F0 m 884 ls [.int (xs (i + 1)), .ref mo]) (congrArg (fun z9 : Int32 => F0 m 884 ls [.int z9, .ref mo]) (show (xs (nI (i + 1)).toNatClampNeg : Int32) = xs (i + 1) from (congrArg xs (nI_clamp (by omega))))) ?_
    refine lv_aload_n hx hb dL_law_884 rfl (lv_at hl 5 rfl) ?_
    refine lv_iload hx hb dL_law_885 (lv_at hl 1 rfl) ?_
    refine lv_iconst (v := 2) hx hb dL_law_887 (by decide) ?_
    refine lv_iadd hx hb dL_law_888 ?_
    refine W.eq (g2 := F0 m 889 ls [.int (nI (i + 2)), .ref b, .int (xs (i + 1)), .ref mo]) (congrArg (fun z9 : Int32 => F0 m 889 ls [.int z9, .ref b, .int (xs (i + 1)), .ref mo]) (show ((nI i) + 2 : Int32) = nI (i + 2) from (nI_add i 2))) ?_
    refine va_sld hx hb hXs hbl hbA J.2.2 (vp_in_nI (by omega) (by omega)) dL_law_889 ?_
    refine W.eq (g2 := F0 m 890 ls [.int (xs (i + 2)), .int (xs (i + 1)), .ref mo]) (congrArg (fun z9 : Int32 => F0 m 890 ls [.int z9, .int (xs (i + 1)), .ref mo]) (show (xs (nI (i + 2)).toNatClampNeg : Int32) = xs (i + 2) from (congrArg xs (nI_clamp (by omega))))) ?_
    refine z_ci J (z_rV (As := [.int (xs (i + 1)), .int (xs (i + 2))]) (rest := []) (ci := 8) (q0 := 11) X J (cX7_about_ok l E Fa11 Fa12 Fa15 (by first | assumption | omega | decide) (by first | assumption | omega | decide)) (cwV 2 hts gL_law_X7_about rfl rfl rfl (by decide +kernel) ⟨Nat.le_of_ble_eq_true rfl, Nat.le_of_ble_eq_true rfl⟩) Fa11 rfl rfl rfl hl.1 rfl (Nat.le_of_ble_eq_true rfl) dL_law_890 ⟨by show _ ≤ 601024; omega, by show _ ≤ 7293034; omega⟩) (fun r890 ws_2 H locs hp9 J => ?_)
    obtain ⟨k2, G2_a0, e_r890⟩ := hp9
    have hk := hk.trans (k2.mono (by decide))
    have G2_0 := k2.2 0 _ (by decide) Fa0
    have G2_1 := k2.2 1 _ (by decide) Fa1
    have G2_2 := k2.2 2 _ (by decide) Fa2
    have G2_3 := k2.2 3 _ (by decide) Fa3
    have G2_4 := k2.2 4 _ (by decide) Fa4
    have G2_5 := k2.2 5 _ (by decide) Fa5
    have G2_6 := k2.2 6 _ (by decide) Fa6
    have G2_7 := k2.2 7 _ (by decide) Fa7
    have G2_8 := k2.2 8 _ (by decide) Fa8
    have G2_9 := k2.2 9 _ (by decide) Fa9
    have G2_10 := k2.2 10 _ (by decide) Fa10
    have G2_12 := k2.2 12 _ (by decide) Fa12
    have G2_13 := k2.2 13 _ (by decide) Fa13
    have G2_14 := k2.2 14 _ (by decide) Fa14
    have G2_15 := k2.2 15 _ (by decide) Fa15
    have G2_16 := k2.2 16 _ (by decide) Fa16
    have G2_17 := k2.2 17 _ (by decide) Fa17
    have G2_18 := k2.2 18 _ (by decide) Fa18
    refine lv_istore (lv' := [(6, .int r890), (5, .int (kAsk (xs (i + 1)) (nI nf) (xs (i + 2)) 6)), (4, .int (nI i)), (3, .ref ou), (2, .ref mo), (1, .ref x), (0, .ref b)]) hx hb dL_law_893 hl (by decide) rfl (fun ls hl => ?_)
    refine lv_aload_n hx hb dL_law_895 rfl (lv_at hl 4 rfl) ?_
    refine z_cr (z_rV (As := []) (rest := []) (ci := 8) (q0 := 11) X J (cX7_thrown_ok l E G2_a0) (cwV 0 hts gL_law_X7_thrown rfl rfl rfl (by decide +kernel) ⟨Nat.le_of_ble_eq_true rfl, Nat.le_of_ble_eq_true rfl⟩) G2_a0 rfl rfl rfl hl.1 rfl (Nat.le_of_ble_eq_true rfl) dL_law_896 ⟨by show _ ≤ 601024; omega, by show _ ≤ 7293034; omega⟩) (fun r896 e_r896 => ?_)
    subst e_r896
    refine lv_iload hx hb dL_law_899 (lv_at hl 1 rfl) ?_
    refine lv_icmp_eq (tgt := 906) hx hb dL_law_901 (by decide) (fun cz901 => ?_) (fun cz901 => by exact (cz901 rfl).elim)
    refine lv_iload hx hb dL_law_906 (lv_at hl 1 rfl) ?_
    refine lv_if_ne (tgt := 923) hx hb dL_law_908 (by decide) (fun cz908 => ?_) (fun cz908 => by exact (e_k cz908).elim)
    refine lv_goto (tgt := 1425) hx hb dL_law_923 (by decide) ?_
    refine W.widen (k := cells + 700) (n := slots + 4500) (by omega) (by omega) ?_
    exact kk _ H locs _ ⟨fl, rl, wh, gr, gra, tr, tra, sc, ha, va, mf, md, mi, ms9, mk, mt, ea, eb, nf, nr, mc1, mc2, lim, sup, off, plo, hrs, (kAsk (xs (i + 1)) (nI nf) (xs (i + 2)) 6), fa, rd, ri, sn, t9, hf, gf, kp, tp, o9, G2_0, G2_1, G2_2, G2_3, G2_4, G2_5, G2_6, G2_7, G2_8, G2_9, G2_10, G2_a0, G2_12, G2_13, G2_14, G2_15, G2_16, G2_17, G2_18, (hF.keep hk (by decide)), (hR.keep hk (by decide)), hSep, hnf, hnr, hok, hor, hRB, hBI⟩ J (lv_sub hl [2, 3, 4, 5, 6] rfl)
  · subst e_v
    have hk := hk.trans (k1.mono (by decide))
    have G1_0 := k1.2 0 _ (by decide) Fa0
    have G1_1 := k1.2 1 _ (by decide) Fa1
    have G1_2 := k1.2 2 _ (by decide) Fa2
    have G1_3 := k1.2 3 _ (by decide) Fa3
    have G1_4 := k1.2 4 _ (by decide) Fa4
    have G1_5 := k1.2 5 _ (by decide) Fa5
    have G1_6 := k1.2 6 _ (by decide) Fa6
    have G1_7 := k1.2 7 _ (by decide) Fa7
    have G1_8 := k1.2 8 _ (by decide) Fa8
    have G1_9 := k1.2 9 _ (by decide) Fa9
    have G1_10 := k1.2 10 _ (by decide) Fa10
    have G1_11 := k1.2 11 _ (by decide) Fa11
    have G1_12 := k1.2 12 _ (by decide) Fa12
    have G1_13 := k1.2 13 _ (by decide) Fa13
    have G1_14 := k1.2 14 _ (by decide) Fa14
    have G1_15 := k1.2 15 _ (by decide) Fa15
    have G1_16 := k1.2 16 _ (by decide) Fa16
    have G1_17 := k1.2 17 _ (by decide) Fa17
    refine lv_istore (lv' := [(5, .int 0), (4, .int (nI i)), (3, .ref ou), (2, .ref mo), (1, .ref x), (0, .ref b)]) hx hb dL_law_875 hl (by decide) rfl (fun ls hl => ?_)
    refine lv_aload_n hx hb dL_law_877 rfl (lv_at hl 3 rfl) ?_
    refine lv_aload_n hx hb dL_law_878 rfl (lv_at hl 5 rfl) ?_
    refine lv_iload hx hb dL_law_879 (lv_at hl 1 rfl) ?_
    refine lv_iconst (v := 1) hx hb dL_law_881 (by decide) ?_
    refine lv_iadd hx hb dL_law_882 ?_
    refine W.eq (g2 := F0 m 883 ls [.int (nI (i + 1)), .ref b, .ref mo]) (congrArg (fun z9 : Int32 => F0 m 883 ls [.int z9, .ref b, .ref mo]) (show ((nI i) + 1 : Int32) = nI (i + 1) from (nI_add i 1))) ?_
    refine va_sld hx hb hXs hbl hbA J.2.2 (vp_in_nI (by omega) (by omega)) dL_law_883 ?_
    refine W.eq (g2 := F0 m 884 ls [.int (xs (i + 1)), .ref mo]) (congrArg (fun z9 : Int32 => F0 m 884 ls [.int z9, .ref mo]) (show (xs (nI (i + 1)).toNatClampNeg : Int32) = xs (i + 1) from (congrArg xs (nI_clamp (by omega))))) ?_
    refine lv_aload_n hx hb dL_law_884 rfl (lv_at hl 5 rfl) ?_
    refine lv_iload hx hb dL_law_885 (lv_at hl 1 rfl) ?_
    refine lv_iconst (v := 2) hx hb dL_law_887 (by decide) ?_
    refine lv_iadd hx hb dL_law_888 ?_
    refine W.eq (g2 := F0 m 889 ls [.int (nI (i + 2)), .ref b, .int (xs (i + 1)), .ref mo]) (congrArg (fun z9 : Int32 => F0 m 889 ls [.int z9, .ref b, .int (xs (i + 1)), .ref mo]) (show ((nI i) + 2 : Int32) = nI (i + 2) from (nI_add i 2))) ?_
    refine va_sld hx hb hXs hbl hbA J.2.2 (vp_in_nI (by omega) (by omega)) dL_law_889 ?_
    refine W.eq (g2 := F0 m 890 ls [.int (xs (i + 2)), .int (xs (i + 1)), .ref mo]) (congrArg (fun z9 : Int32 => F0 m 890 ls [.int z9, .int (xs (i + 1)), .ref mo]) (show (xs (nI (i + 2)).toNatClampNeg : Int32) = xs (i + 2) from (congrArg xs (nI_clamp (by omega))))) ?_
    refine z_ci J (z_rV (As := [.int (xs (i + 1)), .int (xs (i + 2))]) (rest := []) (ci := 8) (q0 := 11) X J (cX7_about_ok l E G1_11 G1_12 G1_15 (by first | assumption | omega | decide) (by first | assumption | omega | decide)) (cwV 2 hts gL_law_X7_about rfl rfl rfl (by decide +kernel) ⟨Nat.le_of_ble_eq_true rfl, Nat.le_of_ble_eq_true rfl⟩) G1_11 rfl rfl rfl hl.1 rfl (Nat.le_of_ble_eq_true rfl) dL_law_890 ⟨by show _ ≤ 601024; omega, by show _ ≤ 7293034; omega⟩) (fun r890 ws_2 H locs hp9 J => ?_)
    obtain ⟨k2, G2_a0, e_r890⟩ := hp9
    have hk := hk.trans (k2.mono (by decide))
    have G2_0 := k2.2 0 _ (by decide) G1_0
    have G2_1 := k2.2 1 _ (by decide) G1_1
    have G2_2 := k2.2 2 _ (by decide) G1_2
    have G2_3 := k2.2 3 _ (by decide) G1_3
    have G2_4 := k2.2 4 _ (by decide) G1_4
    have G2_5 := k2.2 5 _ (by decide) G1_5
    have G2_6 := k2.2 6 _ (by decide) G1_6
    have G2_7 := k2.2 7 _ (by decide) G1_7
    have G2_8 := k2.2 8 _ (by decide) G1_8
    have G2_9 := k2.2 9 _ (by decide) G1_9
    have G2_10 := k2.2 10 _ (by decide) G1_10
    have G2_12 := k2.2 12 _ (by decide) G1_12
    have G2_13 := k2.2 13 _ (by decide) G1_13
    have G2_14 := k2.2 14 _ (by decide) G1_14
    have G2_15 := k2.2 15 _ (by decide) G1_15
    have G2_16 := k2.2 16 _ (by decide) G1_16
    have G2_17 := k2.2 17 _ (by decide) G1_17
    have G2_18 := k2.2 18 _ (by decide) G1_a0
    refine W.eq (g2 := F0 m 893 ls [.int (aboutS fa sn (xs (i + 1)).toNatClampNeg (xs (i + 2)).toNatClampNeg)]) (congrArg (fun z9 : Int32 => F0 m 893 ls [.int z9]) (show (r890 : Int32) = aboutS fa sn (xs (i + 1)).toNatClampNeg (xs (i + 2)).toNatClampNeg from (by rw [e_r890, e_k, sel0]))) ?_
    refine lv_istore (lv' := [(6, .int (aboutS fa sn (xs (i + 1)).toNatClampNeg (xs (i + 2)).toNatClampNeg)), (5, .int 0), (4, .int (nI i)), (3, .ref ou), (2, .ref mo), (1, .ref x), (0, .ref b)]) hx hb dL_law_893 hl (by decide) rfl (fun ls hl => ?_)
    refine lv_aload_n hx hb dL_law_895 rfl (lv_at hl 4 rfl) ?_
    refine z_cr (z_rV (As := []) (rest := []) (ci := 8) (q0 := 11) X J (cX7_thrown_ok l E G2_a0) (cwV 0 hts gL_law_X7_thrown rfl rfl rfl (by decide +kernel) ⟨Nat.le_of_ble_eq_true rfl, Nat.le_of_ble_eq_true rfl⟩) G2_a0 rfl rfl rfl hl.1 rfl (Nat.le_of_ble_eq_true rfl) dL_law_896 ⟨by show _ ≤ 601024; omega, by show _ ≤ 7293034; omega⟩) (fun r896 e_r896 => ?_)
    subst e_r896
    refine lv_iload hx hb dL_law_899 (lv_at hl 1 rfl) ?_
    refine lv_icmp_eq (tgt := 906) hx hb dL_law_901 (by decide) (fun cz901 => ?_) (fun cz901 => by exact (cz901 e_k).elim)
    refine lv_iload hx hb dL_law_906 (lv_at hl 1 rfl) ?_
    refine lv_if_ne (tgt := 923) hx hb dL_law_908 (by decide) (fun cz908 => by exact absurd cz908 (by decide)) (fun cz908 => ?_)
    refine lv_aload_n hx hb dL_law_911 rfl (lv_at hl 3 rfl) ?_
    refine lv_iconst (v := 0) hx hb dL_law_912 (by decide) ?_
    refine z_lald X J 18 G2_18 (vp_in_nI (n := 0) (by decide) (by decide)) dL_law_913 ?_
    refine W.eq (g2 := F0 m 914 ls [.long ((aboutS fa sn (xs (i + 1)).toNatClampNeg (xs (i + 2)).toNatClampNeg).toInt64)]) (congrArg (fun z9 : Int64 => F0 m 914 ls [.long z9]) (show ((vp_updL o9 0 (aboutS fa sn (xs (i + 1)).toNatClampNeg (xs (i + 2)).toNatClampNeg).toInt64) (0 : Int32).toNatClampNeg : Int64) = (aboutS fa sn (xs (i + 1)).toNatClampNeg (xs (i + 2)).toNatClampNeg).toInt64 from rfl)) ?_
    refine lv_iload hx hb dL_law_914 (lv_at hl 0 rfl) ?_
    refine lv_i2l (v := (aboutS fa sn (xs (i + 1)).toNatClampNeg (xs (i + 2)).toNatClampNeg).toInt64) hx hb dL_law_916 rfl ?_
    refine W.lcmp hx hb dL_law_917 ?_
    refine W.eq (g2 := F0 m 918 ls [.int 0]) (congrArg (fun z9 : Int32 => F0 m 918 ls [.int z9]) (show (lg_cmp ((aboutS fa sn (xs (i + 1)).toNatClampNeg (xs (i + 2)).toNatClampNeg).toInt64) ((aboutS fa sn (xs (i + 1)).toNatClampNeg (xs (i + 2)).toNatClampNeg).toInt64) : Int32) = 0 from (lg_cmp_self _))) ?_
    refine lv_if_eq (tgt := 923) hx hb dL_law_918 (by decide) (fun cz918 => ?_) (fun cz918 => by exact absurd cz918 (by decide))
    refine lv_goto (tgt := 1425) hx hb dL_law_923 (by decide) ?_
    refine W.widen (k := cells + 700) (n := slots + 4500) (by omega) (by omega) ?_
    exact kk _ H locs _ ⟨fl, rl, wh, gr, gra, tr, tra, sc, ha, va, mf, md, mi, ms9, mk, mt, ea, eb, nf, nr, mc1, mc2, lim, sup, off, plo, hrs, (kAsk (xs (i + 1)) (nI nf) (xs (i + 2)) 6), fa, rd, ri, sn, t9, hf, gf, kp, tp, (vp_updL o9 0 (aboutS fa sn (xs (i + 1)).toNatClampNeg (xs (i + 2)).toNatClampNeg).toInt64), G2_0, G2_1, G2_2, G2_3, G2_4, G2_5, G2_6, G2_7, G2_8, G2_9, G2_10, G2_a0, G2_12, G2_13, G2_14, G2_15, G2_16, G2_17, G2_18, (hF.keep hk (by decide)), (hR.keep hk (by decide)), hSep, hnf, hnr, hok, hor, hRB, hBI⟩ J (lv_sub hl [2, 3, 4, 5, 6] rfl)
set_option maxHeartbeats 2000000 in
set_option maxRecDepth 100000 in
theorem turn_told {p : Program} {l : Launch} (hflags : l.flags = flags0) {e : Env} {s : State} {m : MethodId} {below : List Frame} {meth : Method} {c : Code} {b L : Nat} {xs : Nat → Int32} (E : zG) (X : zC E p m c cL_law 9 s #[.ref b] wsL_law RL) (hRz : zR s) (hNz : zNc s) (hXs : va_X b L xs s s.heap) (hbl : b < s.heap.size) (hbA : ¬ zA E b) (hE1 : ¬ zA E E.2.2.1) (hL9 : L ≤ 3584) {QQ : State → Prop} {ws : va_W} {x mo ou i cells slots : Nat} {H : Heap} {locs : List Loc} {ls : Array Slot} (hi : i + 7 ≤ L) (hW : LW E ws x mo ou) (J : zJ E ws s H locs) (hl : lv_has ls 9 [(4, .int (nI i)), (3, .ref ou), (2, .ref mo), (1, .ref x), (0, .ref b)]) (hc9 : cells + 700 ≤ 601024) (hs9 : slots + 4500 ≤ 7293034)
    (kk : ∀ (ws' : va_W) (H' : Heap) (locs' : List Loc) (ls' : Array Slot), LW E ws' x mo ou → zJ E ws' s H' locs' → lv_has ls' 9 [(4, .int (nI i)), (3, .ref ou), (2, .ref mo), (1, .ref x), (0, .ref b)] → W p l e room_1 s m #[.ref b] below meth c H' locs' (cells + 700) (slots + 4500) QQ (F0 m 1425 ls' [])) :
    W p l e room_1 s m #[.ref b] below meth c H locs cells slots QQ (F0 m 926 ls []) := by
  obtain ⟨fl, rl, wh, gr, gra, tr, tra, sc, ha, va, mf, md, mi, ms9, mk, mt, ea, eb, nf, nr, mc1, mc2, lim, sup, off, plo, hrs, th, fa, rd, ri, sn, t9, hf, gf, kp, tp, o9, Fa0, Fa1, Fa2, Fa3, Fa4, Fa5, Fa6, Fa7, Fa8, Fa9, Fa10, Fa11, Fa12, Fa13, Fa14, Fa15, Fa16, Fa17, Fa18, hF, hR, hSep, hnf, hnr, hok, hor, hRB, hBI⟩ := hW
  have hx := X.1.1
  have hb := X.1.2.1
  have hown := X.1.2.2.2.1
  have hts := X.1.2.2.2.2
  have hk : zK [0, 1, 2, 3, 4, 5, 6, 7, 8, 9, 10, 11, 12, 13, 14, 15, 16, 17, 18] ws ws := zK.rf
  have hlen19 := zlt Fa18
  refine lv_aload_n hx hb dL_law_926 rfl (lv_at hl 3 rfl) ?_
  refine lv_aload_n hx hb dL_law_927 rfl (lv_at hl 4 rfl) ?_
  refine lv_iload hx hb dL_law_928 (lv_at hl 0 rfl) ?_
  refine lv_iconst (v := 1) hx hb dL_law_930 (by decide) ?_
  refine lv_iadd hx hb dL_law_931 ?_
  refine W.eq (g2 := F0 m 932 ls [.int (nI (i + 1)), .ref b, .ref x]) (congrArg (fun z9 : Int32 => F0 m 932 ls [.int z9, .ref b, .ref x]) (show ((nI i) + 1 : Int32) = nI (i + 1) from (nI_add i 1))) ?_
  refine va_sld hx hb hXs hbl hbA J.2.2 (vp_in_nI (by omega) (by omega)) dL_law_932 ?_
  refine W.eq (g2 := F0 m 933 ls [.int (xs (i + 1)), .ref x]) (congrArg (fun z9 : Int32 => F0 m 933 ls [.int z9, .ref x]) (show (xs (nI (i + 1)).toNatClampNeg : Int32) = xs (i + 1) from (congrArg xs (nI_clamp (by omega))))) ?_
  refine lv_aload_n hx hb dL_law_933 rfl (lv_at hl 4 rfl) ?_
  refine lv_iload hx hb dL_law_934 (lv_at hl 0 rfl) ?_
  refine lv_iconst (v := 2) hx hb dL_law_936 (by decide) ?_
  refine lv_iadd hx hb dL_law_937 ?_
  refine W.eq (g2 := F0 m 938 ls [.int (nI (i + 2)), .ref b, .int (xs (i + 1)), .ref x]) (congrArg (fun z9 : Int32 => F0 m 938 ls [.int z9, .ref b, .int (xs (i + 1)), .ref x]) (show ((nI i) + 2 : Int32) = nI (i + 2) from (nI_add i 2))) ?_
  refine va_sld hx hb hXs hbl hbA J.2.2 (vp_in_nI (by omega) (by omega)) dL_law_938 ?_
  refine W.eq (g2 := F0 m 939 ls [.int (xs (i + 2)), .int (xs (i + 1)), .ref x]) (congrArg (fun z9 : Int32 => F0 m 939 ls [.int z9, .int (xs (i + 1)), .ref x]) (show (xs (nI (i + 2)).toNatClampNeg : Int32) = xs (i + 2) from (congrArg xs (nI_clamp (by omega))))) ?_
  refine lv_aload_n hx hb dL_law_939 rfl (lv_at hl 1 rfl) ?_
  refine z_xi J (z_wS (As := [.ref x, .int (xs (i + 1)), .int (xs (i + 2)), .ref ou]) (rest := []) X hRz hNz J (cL_told_ok l hflags E Fa0 Fa2 Fa4 Fa5 Fa18 (by first | assumption | omega | decide) (by first | assumption | omega | decide) (by first | assumption | omega | decide)) (vx_cwSW (hh := [(0, 10, 13, 15)]) 4 hts gL_law_L_told rfl rfl rfl (by decide +kernel) ⟨Nat.le_of_ble_eq_true rfl, Nat.le_of_ble_eq_true rfl⟩) rfl hl.1 rfl (Nat.le_of_ble_eq_true rfl) dL_law_940 ⟨by show _ ≤ 601024; omega, by show _ ≤ 7293034; omega⟩) (fun nm ce q9 H locs hp9 J h1 h2 h3 => ?_) (fun r940 ws_1 H locs hp9 J => ?_)
  · exact False.elim (by exact hp9)
  rcases hp9 with ⟨e_v, e_k, rfl⟩ | ⟨e_v, e_k, k1, G1_a0⟩
  · subst e_v
    refine lv_istore (lv' := [(5, .int (kAsk (xs (i + 1)) (nI nr) (xs (i + 2)) 4)), (4, .int (nI i)), (3, .ref ou), (2, .ref mo), (1, .ref x), (0, .ref b)]) hx hb dL_law_943 hl (by decide) rfl (fun ls hl => ?_)
    refine lv_aload_n hx hb dL_law_945 rfl (lv_at hl 3 rfl) ?_
    refine lv_aload_n hx hb dL_law_946 rfl (lv_at hl 5 rfl) ?_
    refine lv_iload hx hb dL_law_947 (lv_at hl 1 rfl) ?_
    refine lv_iconst (v := 1) hx hb dL_law_949 (by decide) ?_
    refine lv_iadd hx hb dL_law_950 ?_
    refine W.eq (g2 := F0 m 951 ls [.int (nI (i + 1)), .ref b, .ref mo]) (congrArg (fun z9 : Int32 => F0 m 951 ls [.int z9, .ref b, .ref mo]) (show ((nI i) + 1 : Int32) = nI (i + 1) from (nI_add i 1))) ?_
    refine va_sld hx hb hXs hbl hbA J.2.2 (vp_in_nI (by omega) (by omega)) dL_law_951 ?_
    refine W.eq (g2 := F0 m 952 ls [.int (xs (i + 1)), .ref mo]) (congrArg (fun z9 : Int32 => F0 m 952 ls [.int z9, .ref mo]) (show (xs (nI (i + 1)).toNatClampNeg : Int32) = xs (i + 1) from (congrArg xs (nI_clamp (by omega))))) ?_
    refine lv_aload_n hx hb dL_law_952 rfl (lv_at hl 5 rfl) ?_
    refine lv_iload hx hb dL_law_953 (lv_at hl 1 rfl) ?_
    refine lv_iconst (v := 2) hx hb dL_law_955 (by decide) ?_
    refine lv_iadd hx hb dL_law_956 ?_
    refine W.eq (g2 := F0 m 957 ls [.int (nI (i + 2)), .ref b, .int (xs (i + 1)), .ref mo]) (congrArg (fun z9 : Int32 => F0 m 957 ls [.int z9, .ref b, .int (xs (i + 1)), .ref mo]) (show ((nI i) + 2 : Int32) = nI (i + 2) from (nI_add i 2))) ?_
    refine va_sld hx hb hXs hbl hbA J.2.2 (vp_in_nI (by omega) (by omega)) dL_law_957 ?_
    refine W.eq (g2 := F0 m 958 ls [.int (xs (i + 2)), .int (xs (i + 1)), .ref mo]) (congrArg (fun z9 : Int32 => F0 m 958 ls [.int z9, .int (xs (i + 1)), .ref mo]) (show (xs (nI (i + 2)).toNatClampNeg : Int32) = xs (i + 2) from (congrArg xs (nI_clamp (by omega))))) ?_
    refine z_ci J (z_rV (As := [.int (xs (i + 1)), .int (xs (i + 2))]) (rest := []) (ci := 8) (q0 := 11) X J (cX7_told_ok l E Fa11 Fa13 Fa14 Fa15 (by first | assumption | omega | decide) (by first | assumption | omega | decide)) (cwV 2 hts gL_law_X7_told rfl rfl rfl (by decide +kernel) ⟨Nat.le_of_ble_eq_true rfl, Nat.le_of_ble_eq_true rfl⟩) Fa11 rfl rfl rfl hl.1 rfl (Nat.le_of_ble_eq_true rfl) dL_law_958 ⟨by show _ ≤ 601024; omega, by show _ ≤ 7293034; omega⟩) (fun r958 ws_2 H locs hp9 J => ?_)
    obtain ⟨k2, G2_a0, e_r958⟩ := hp9
    have hk := hk.trans (k2.mono (by decide))
    have G2_0 := k2.2 0 _ (by decide) Fa0
    have G2_1 := k2.2 1 _ (by decide) Fa1
    have G2_2 := k2.2 2 _ (by decide) Fa2
    have G2_3 := k2.2 3 _ (by decide) Fa3
    have G2_4 := k2.2 4 _ (by decide) Fa4
    have G2_5 := k2.2 5 _ (by decide) Fa5
    have G2_6 := k2.2 6 _ (by decide) Fa6
    have G2_7 := k2.2 7 _ (by decide) Fa7
    have G2_8 := k2.2 8 _ (by decide) Fa8
    have G2_9 := k2.2 9 _ (by decide) Fa9
    have G2_10 := k2.2 10 _ (by decide) Fa10
    have G2_12 := k2.2 12 _ (by decide) Fa12
    have G2_13 := k2.2 13 _ (by decide) Fa13
    have G2_14 := k2.2 14 _ (by decide) Fa14
    have G2_15 := k2.2 15 _ (by decide) Fa15
    have G2_16 := k2.2 16 _ (by decide) Fa16
    have G2_17 := k2.2 17 _ (by decide) Fa17
    have G2_18 := k2.2 18 _ (by decide) Fa18
    refine lv_istore (lv' := [(6, .int r958), (5, .int (kAsk (xs (i + 1)) (nI nr) (xs (i + 2)) 4)), (4, .int (nI i)), (3, .ref ou), (2, .ref mo), (1, .ref x), (0, .ref b)]) hx hb dL_law_961 hl (by decide) rfl (fun ls hl => ?_)
    refine lv_aload_n hx hb dL_law_963 rfl (lv_at hl 4 rfl) ?_
    refine z_cr (z_rV (As := []) (rest := []) (ci := 8) (q0 := 11) X J (cX7_thrown_ok l E G2_a0) (cwV 0 hts gL_law_X7_thrown rfl rfl rfl (by decide +kernel) ⟨Nat.le_of_ble_eq_true rfl, Nat.le_of_ble_eq_true rfl⟩) G2_a0 rfl rfl rfl hl.1 rfl (Nat.le_of_ble_eq_true rfl) dL_law_964 ⟨by show _ ≤ 601024; omega, by show _ ≤ 7293034; omega⟩) (fun r964 e_r964 => ?_)
    subst e_r964
    refine lv_iload hx hb dL_law_967 (lv_at hl 1 rfl) ?_
    refine lv_icmp_eq (tgt := 974) hx hb dL_law_969 (by decide) (fun cz969 => ?_) (fun cz969 => by exact (cz969 rfl).elim)
    refine lv_iload hx hb dL_law_974 (lv_at hl 1 rfl) ?_
    refine lv_if_ne (tgt := 991) hx hb dL_law_976 (by decide) (fun cz976 => ?_) (fun cz976 => by exact (e_k cz976).elim)
    refine lv_goto (tgt := 1425) hx hb dL_law_991 (by decide) ?_
    refine W.widen (k := cells + 700) (n := slots + 4500) (by omega) (by omega) ?_
    exact kk _ H locs _ ⟨fl, rl, wh, gr, gra, tr, tra, sc, ha, va, mf, md, mi, ms9, mk, mt, ea, eb, nf, nr, mc1, mc2, lim, sup, off, plo, hrs, (kAsk (xs (i + 1)) (nI nr) (xs (i + 2)) 4), fa, rd, ri, sn, t9, hf, gf, kp, tp, o9, G2_0, G2_1, G2_2, G2_3, G2_4, G2_5, G2_6, G2_7, G2_8, G2_9, G2_10, G2_a0, G2_12, G2_13, G2_14, G2_15, G2_16, G2_17, G2_18, (hF.keep hk (by decide)), (hR.keep hk (by decide)), hSep, hnf, hnr, hok, hor, hRB, hBI⟩ J (lv_sub hl [2, 3, 4, 5, 6] rfl)
  · subst e_v
    have hk := hk.trans (k1.mono (by decide))
    have G1_0 := k1.2 0 _ (by decide) Fa0
    have G1_1 := k1.2 1 _ (by decide) Fa1
    have G1_2 := k1.2 2 _ (by decide) Fa2
    have G1_3 := k1.2 3 _ (by decide) Fa3
    have G1_4 := k1.2 4 _ (by decide) Fa4
    have G1_5 := k1.2 5 _ (by decide) Fa5
    have G1_6 := k1.2 6 _ (by decide) Fa6
    have G1_7 := k1.2 7 _ (by decide) Fa7
    have G1_8 := k1.2 8 _ (by decide) Fa8
    have G1_9 := k1.2 9 _ (by decide) Fa9
    have G1_10 := k1.2 10 _ (by decide) Fa10
    have G1_11 := k1.2 11 _ (by decide) Fa11
    have G1_12 := k1.2 12 _ (by decide) Fa12
    have G1_13 := k1.2 13 _ (by decide) Fa13
    have G1_14 := k1.2 14 _ (by decide) Fa14
    have G1_15 := k1.2 15 _ (by decide) Fa15
    have G1_16 := k1.2 16 _ (by decide) Fa16
    have G1_17 := k1.2 17 _ (by decide) Fa17
    refine lv_istore (lv' := [(5, .int 0), (4, .int (nI i)), (3, .ref ou), (2, .ref mo), (1, .ref x), (0, .ref b)]) hx hb dL_law_943 hl (by decide) rfl (fun ls hl => ?_)
    refine lv_aload_n hx hb dL_law_945 rfl (lv_at hl 3 rfl) ?_
    refine lv_aload_n hx hb dL_law_946 rfl (lv_at hl 5 rfl) ?_
    refine lv_iload hx hb dL_law_947 (lv_at hl 1 rfl) ?_
    refine lv_iconst (v := 1) hx hb dL_law_949 (by decide) ?_
    refine lv_iadd hx hb dL_law_950 ?_
    refine W.eq (g2 := F0 m 951 ls [.int (nI (i + 1)), .ref b, .ref mo]) (congrArg (fun z9 : Int32 => F0 m 951 ls [.int z9, .ref b, .ref mo]) (show ((nI i) + 1 : Int32) = nI (i + 1) from (nI_add i 1))) ?_
    refine va_sld hx hb hXs hbl hbA J.2.2 (vp_in_nI (by omega) (by omega)) dL_law_951 ?_
    refine W.eq (g2 := F0 m 952 ls [.int (xs (i + 1)), .ref mo]) (congrArg (fun z9 : Int32 => F0 m 952 ls [.int z9, .ref mo]) (show (xs (nI (i + 1)).toNatClampNeg : Int32) = xs (i + 1) from (congrArg xs (nI_clamp (by omega))))) ?_
    refine lv_aload_n hx hb dL_law_952 rfl (lv_at hl 5 rfl) ?_
    refine lv_iload hx hb dL_law_953 (lv_at hl 1 rfl) ?_
    refine lv_iconst (v := 2) hx hb dL_law_955 (by decide) ?_
    refine lv_iadd hx hb dL_law_956 ?_
    refine W.eq (g2 := F0 m 957 ls [.int (nI (i + 2)), .ref b, .int (xs (i + 1)), .ref mo]) (congrArg (fun z9 : Int32 => F0 m 957 ls [.int z9, .ref b, .int (xs (i + 1)), .ref mo]) (show ((nI i) + 2 : Int32) = nI (i + 2) from (nI_add i 2))) ?_
    refine va_sld hx hb hXs hbl hbA J.2.2 (vp_in_nI (by omega) (by omega)) dL_law_957 ?_
    refine W.eq (g2 := F0 m 958 ls [.int (xs (i + 2)), .int (xs (i + 1)), .ref mo]) (congrArg (fun z9 : Int32 => F0 m 958 ls [.int z9, .int (xs (i + 1)), .ref mo]) (show (xs (nI (i + 2)).toNatClampNeg : Int32) = xs (i + 2) from (congrArg xs (nI_clamp (by omega))))) ?_
    refine z_ci J (z_rV (As := [.int (xs (i + 1)), .int (xs (i + 2))]) (rest := []) (ci := 8) (q0 := 11) X J (cX7_told_ok l E G1_11 G1_13 G1_14 G1_15 (by first | assumption | omega | decide) (by first | assumption | omega | decide)) (cwV 2 hts gL_law_X7_told rfl rfl rfl (by decide +kernel) ⟨Nat.le_of_ble_eq_true rfl, Nat.le_of_ble_eq_true rfl⟩) G1_11 rfl rfl rfl hl.1 rfl (Nat.le_of_ble_eq_true rfl) dL_law_958 ⟨by show _ ≤ 601024; omega, by show _ ≤ 7293034; omega⟩) (fun r958 ws_2 H locs hp9 J => ?_)
    obtain ⟨k2, G2_a0, e_r958⟩ := hp9
    have hk := hk.trans (k2.mono (by decide))
    have G2_0 := k2.2 0 _ (by decide) G1_0
    have G2_1 := k2.2 1 _ (by decide) G1_1
    have G2_2 := k2.2 2 _ (by decide) G1_2
    have G2_3 := k2.2 3 _ (by decide) G1_3
    have G2_4 := k2.2 4 _ (by decide) G1_4
    have G2_5 := k2.2 5 _ (by decide) G1_5
    have G2_6 := k2.2 6 _ (by decide) G1_6
    have G2_7 := k2.2 7 _ (by decide) G1_7
    have G2_8 := k2.2 8 _ (by decide) G1_8
    have G2_9 := k2.2 9 _ (by decide) G1_9
    have G2_10 := k2.2 10 _ (by decide) G1_10
    have G2_12 := k2.2 12 _ (by decide) G1_12
    have G2_13 := k2.2 13 _ (by decide) G1_13
    have G2_14 := k2.2 14 _ (by decide) G1_14
    have G2_15 := k2.2 15 _ (by decide) G1_15
    have G2_16 := k2.2 16 _ (by decide) G1_16
    have G2_17 := k2.2 17 _ (by decide) G1_17
    have G2_18 := k2.2 18 _ (by decide) G1_a0
    refine W.eq (g2 := F0 m 961 ls [.int (toldS sn rd ri lim (xs (i + 1)).toNatClampNeg (xs (i + 2)))]) (congrArg (fun z9 : Int32 => F0 m 961 ls [.int z9]) (show (r958 : Int32) = toldS sn rd ri lim (xs (i + 1)).toNatClampNeg (xs (i + 2)) from (by rw [e_r958, e_k, sel0]))) ?_
    refine lv_istore (lv' := [(6, .int (toldS sn rd ri lim (xs (i + 1)).toNatClampNeg (xs (i + 2)))), (5, .int 0), (4, .int (nI i)), (3, .ref ou), (2, .ref mo), (1, .ref x), (0, .ref b)]) hx hb dL_law_961 hl (by decide) rfl (fun ls hl => ?_)
    refine lv_aload_n hx hb dL_law_963 rfl (lv_at hl 4 rfl) ?_
    refine z_cr (z_rV (As := []) (rest := []) (ci := 8) (q0 := 11) X J (cX7_thrown_ok l E G2_a0) (cwV 0 hts gL_law_X7_thrown rfl rfl rfl (by decide +kernel) ⟨Nat.le_of_ble_eq_true rfl, Nat.le_of_ble_eq_true rfl⟩) G2_a0 rfl rfl rfl hl.1 rfl (Nat.le_of_ble_eq_true rfl) dL_law_964 ⟨by show _ ≤ 601024; omega, by show _ ≤ 7293034; omega⟩) (fun r964 e_r964 => ?_)
    subst e_r964
    refine lv_iload hx hb dL_law_967 (lv_at hl 1 rfl) ?_
    refine lv_icmp_eq (tgt := 974) hx hb dL_law_969 (by decide) (fun cz969 => ?_) (fun cz969 => by exact (cz969 e_k).elim)
    refine lv_iload hx hb dL_law_974 (lv_at hl 1 rfl) ?_
    refine lv_if_ne (tgt := 991) hx hb dL_law_976 (by decide) (fun cz976 => by exact absurd cz976 (by decide)) (fun cz976 => ?_)
    refine lv_aload_n hx hb dL_law_979 rfl (lv_at hl 3 rfl) ?_
    refine lv_iconst (v := 0) hx hb dL_law_980 (by decide) ?_
    refine z_lald X J 18 G2_18 (vp_in_nI (n := 0) (by decide) (by decide)) dL_law_981 ?_
    refine W.eq (g2 := F0 m 982 ls [.long ((toldS sn rd ri lim (xs (i + 1)).toNatClampNeg (xs (i + 2))).toInt64)]) (congrArg (fun z9 : Int64 => F0 m 982 ls [.long z9]) (show ((vp_updL o9 0 (toldS sn rd ri lim (xs (i + 1)).toNatClampNeg (xs (i + 2))).toInt64) (0 : Int32).toNatClampNeg : Int64) = (toldS sn rd ri lim (xs (i + 1)).toNatClampNeg (xs (i + 2))).toInt64 from rfl)) ?_
    refine lv_iload hx hb dL_law_982 (lv_at hl 0 rfl) ?_
    refine lv_i2l (v := (toldS sn rd ri lim (xs (i + 1)).toNatClampNeg (xs (i + 2))).toInt64) hx hb dL_law_984 rfl ?_
    refine W.lcmp hx hb dL_law_985 ?_
    refine W.eq (g2 := F0 m 986 ls [.int 0]) (congrArg (fun z9 : Int32 => F0 m 986 ls [.int z9]) (show (lg_cmp ((toldS sn rd ri lim (xs (i + 1)).toNatClampNeg (xs (i + 2))).toInt64) ((toldS sn rd ri lim (xs (i + 1)).toNatClampNeg (xs (i + 2))).toInt64) : Int32) = 0 from (lg_cmp_self _))) ?_
    refine lv_if_eq (tgt := 991) hx hb dL_law_986 (by decide) (fun cz986 => ?_) (fun cz986 => by exact absurd cz986 (by decide))
    refine lv_goto (tgt := 1425) hx hb dL_law_991 (by decide) ?_
    refine W.widen (k := cells + 700) (n := slots + 4500) (by omega) (by omega) ?_
    exact kk _ H locs _ ⟨fl, rl, wh, gr, gra, tr, tra, sc, ha, va, mf, md, mi, ms9, mk, mt, ea, eb, nf, nr, mc1, mc2, lim, sup, off, plo, hrs, (kAsk (xs (i + 1)) (nI nr) (xs (i + 2)) 4), fa, rd, ri, sn, t9, hf, gf, kp, tp, (vp_updL o9 0 (toldS sn rd ri lim (xs (i + 1)).toNatClampNeg (xs (i + 2))).toInt64), G2_0, G2_1, G2_2, G2_3, G2_4, G2_5, G2_6, G2_7, G2_8, G2_9, G2_10, G2_a0, G2_12, G2_13, G2_14, G2_15, G2_16, G2_17, G2_18, (hF.keep hk (by decide)), (hR.keep hk (by decide)), hSep, hnf, hnr, hok, hor, hRB, hBI⟩ J (lv_sub hl [2, 3, 4, 5, 6] rfl)
set_option maxHeartbeats 2000000 in
set_option maxRecDepth 100000 in
theorem turn_count {p : Program} {l : Launch} (hflags : l.flags = flags0) {e : Env} {s : State} {m : MethodId} {below : List Frame} {meth : Method} {c : Code} {b L : Nat} {xs : Nat → Int32} (E : zG) (X : zC E p m c cL_law 9 s #[.ref b] wsL_law RL) (hRz : zR s) (hNz : zNc s) (hXs : va_X b L xs s s.heap) (hbl : b < s.heap.size) (hbA : ¬ zA E b) (hE1 : ¬ zA E E.2.2.1) (hL9 : L ≤ 3584) {QQ : State → Prop} {ws : va_W} {x mo ou i cells slots : Nat} {H : Heap} {locs : List Loc} {ls : Array Slot} (hi : i + 7 ≤ L) (hW : LW E ws x mo ou) (J : zJ E ws s H locs) (hl : lv_has ls 9 [(4, .int (nI i)), (3, .ref ou), (2, .ref mo), (1, .ref x), (0, .ref b)]) (hc9 : cells + 700 ≤ 601024) (hs9 : slots + 4500 ≤ 7293034)
    (kk : ∀ (ws' : va_W) (H' : Heap) (locs' : List Loc) (ls' : Array Slot), LW E ws' x mo ou → zJ E ws' s H' locs' → lv_has ls' 9 [(4, .int (nI i)), (3, .ref ou), (2, .ref mo), (1, .ref x), (0, .ref b)] → W p l e room_1 s m #[.ref b] below meth c H' locs' (cells + 700) (slots + 4500) QQ (F0 m 1425 ls' [])) :
    W p l e room_1 s m #[.ref b] below meth c H locs cells slots QQ (F0 m 994 ls []) := by
  obtain ⟨fl, rl, wh, gr, gra, tr, tra, sc, ha, va, mf, md, mi, ms9, mk, mt, ea, eb, nf, nr, mc1, mc2, lim, sup, off, plo, hrs, th, fa, rd, ri, sn, t9, hf, gf, kp, tp, o9, Fa0, Fa1, Fa2, Fa3, Fa4, Fa5, Fa6, Fa7, Fa8, Fa9, Fa10, Fa11, Fa12, Fa13, Fa14, Fa15, Fa16, Fa17, Fa18, hF, hR, hSep, hnf, hnr, hok, hor, hRB, hBI⟩ := hW
  have hx := X.1.1
  have hb := X.1.2.1
  have hown := X.1.2.2.2.1
  have hts := X.1.2.2.2.2
  have hk : zK [0, 1, 2, 3, 4, 5, 6, 7, 8, 9, 10, 11, 12, 13, 14, 15, 16, 17, 18] ws ws := zK.rf
  have hlen19 := zlt Fa18
  refine lv_aload_n hx hb dL_law_994 rfl (lv_at hl 3 rfl) ?_
  refine lv_aload_n hx hb dL_law_995 rfl (lv_at hl 4 rfl) ?_
  refine lv_iload hx hb dL_law_996 (lv_at hl 0 rfl) ?_
  refine lv_iconst (v := 1) hx hb dL_law_998 (by decide) ?_
  refine lv_iadd hx hb dL_law_999 ?_
  refine W.eq (g2 := F0 m 1000 ls [.int (nI (i + 1)), .ref b, .ref x]) (congrArg (fun z9 : Int32 => F0 m 1000 ls [.int z9, .ref b, .ref x]) (show ((nI i) + 1 : Int32) = nI (i + 1) from (nI_add i 1))) ?_
  refine va_sld hx hb hXs hbl hbA J.2.2 (vp_in_nI (by omega) (by omega)) dL_law_1000 ?_
  refine W.eq (g2 := F0 m 1001 ls [.int (xs (i + 1)), .ref x]) (congrArg (fun z9 : Int32 => F0 m 1001 ls [.int z9, .ref x]) (show (xs (nI (i + 1)).toNatClampNeg : Int32) = xs (i + 1) from (congrArg xs (nI_clamp (by omega))))) ?_
  refine lv_aload_n hx hb dL_law_1001 rfl (lv_at hl 1 rfl) ?_
  refine z_xi J (z_wS (As := [.ref x, .int (xs (i + 1)), .ref ou]) (rest := []) X hRz hNz J (cL_count_ok l hflags E Fa0 Fa1 Fa2 Fa3 Fa4 Fa5 Fa18 (by first | assumption | omega | decide) (by first | assumption | omega | decide)) (vx_cwSW (hh := [(0, 9, 12, 15)]) 3 hts gL_law_L_count rfl rfl rfl (by decide +kernel) ⟨Nat.le_of_ble_eq_true rfl, Nat.le_of_ble_eq_true rfl⟩) rfl hl.1 rfl (Nat.le_of_ble_eq_true rfl) dL_law_1002 ⟨by show _ ≤ 601024; omega, by show _ ≤ 7293034; omega⟩) (fun nm ce q9 H locs hp9 J h1 h2 h3 => ?_) (fun r1002 ws_1 H locs hp9 J => ?_)
  · exact False.elim (by exact hp9)
  rcases hp9 with ⟨e_v, e_k, rfl⟩ | ⟨e_v, e_k, k1, G1_a0⟩
  · subst e_v
    refine lv_istore (lv' := [(5, .int (kCount (xs (i + 1)))), (4, .int (nI i)), (3, .ref ou), (2, .ref mo), (1, .ref x), (0, .ref b)]) hx hb dL_law_1005 hl (by decide) rfl (fun ls hl => ?_)
    refine lv_aload_n hx hb dL_law_1007 rfl (lv_at hl 3 rfl) ?_
    refine lv_aload_n hx hb dL_law_1008 rfl (lv_at hl 5 rfl) ?_
    refine lv_iload hx hb dL_law_1009 (lv_at hl 1 rfl) ?_
    refine lv_iconst (v := 1) hx hb dL_law_1011 (by decide) ?_
    refine lv_iadd hx hb dL_law_1012 ?_
    refine W.eq (g2 := F0 m 1013 ls [.int (nI (i + 1)), .ref b, .ref mo]) (congrArg (fun z9 : Int32 => F0 m 1013 ls [.int z9, .ref b, .ref mo]) (show ((nI i) + 1 : Int32) = nI (i + 1) from (nI_add i 1))) ?_
    refine va_sld hx hb hXs hbl hbA J.2.2 (vp_in_nI (by omega) (by omega)) dL_law_1013 ?_
    refine W.eq (g2 := F0 m 1014 ls [.int (xs (i + 1)), .ref mo]) (congrArg (fun z9 : Int32 => F0 m 1014 ls [.int z9, .ref mo]) (show (xs (nI (i + 1)).toNatClampNeg : Int32) = xs (i + 1) from (congrArg xs (nI_clamp (by omega))))) ?_
    refine z_ci J (z_rV (As := [.int (xs (i + 1))]) (rest := []) (ci := 8) (q0 := 11) X J (cX7_count_ok l E Fa11 Fa13 Fa14 Fa15 (by first | assumption | omega | decide) (by first | assumption | omega | decide)) (cwV 1 hts gL_law_X7_count rfl rfl rfl (by decide +kernel) ⟨Nat.le_of_ble_eq_true rfl, Nat.le_of_ble_eq_true rfl⟩) Fa11 rfl rfl rfl hl.1 rfl (Nat.le_of_ble_eq_true rfl) dL_law_1014 ⟨by show _ ≤ 601024; omega, by show _ ≤ 7293034; omega⟩) (fun r1014 ws_2 H locs hp9 J => ?_)
    obtain ⟨k2, G2_a0, e_r1014⟩ := hp9
    have hk := hk.trans (k2.mono (by decide))
    have G2_0 := k2.2 0 _ (by decide) Fa0
    have G2_1 := k2.2 1 _ (by decide) Fa1
    have G2_2 := k2.2 2 _ (by decide) Fa2
    have G2_3 := k2.2 3 _ (by decide) Fa3
    have G2_4 := k2.2 4 _ (by decide) Fa4
    have G2_5 := k2.2 5 _ (by decide) Fa5
    have G2_6 := k2.2 6 _ (by decide) Fa6
    have G2_7 := k2.2 7 _ (by decide) Fa7
    have G2_8 := k2.2 8 _ (by decide) Fa8
    have G2_9 := k2.2 9 _ (by decide) Fa9
    have G2_10 := k2.2 10 _ (by decide) Fa10
    have G2_12 := k2.2 12 _ (by decide) Fa12
    have G2_13 := k2.2 13 _ (by decide) Fa13
    have G2_14 := k2.2 14 _ (by decide) Fa14
    have G2_15 := k2.2 15 _ (by decide) Fa15
    have G2_16 := k2.2 16 _ (by decide) Fa16
    have G2_17 := k2.2 17 _ (by decide) Fa17
    have G2_18 := k2.2 18 _ (by decide) Fa18
    refine lv_istore (lv' := [(6, .int r1014), (5, .int (kCount (xs (i + 1)))), (4, .int (nI i)), (3, .ref ou), (2, .ref mo), (1, .ref x), (0, .ref b)]) hx hb dL_law_1017 hl (by decide) rfl (fun ls hl => ?_)
    refine lv_aload_n hx hb dL_law_1019 rfl (lv_at hl 4 rfl) ?_
    refine z_cr (z_rV (As := []) (rest := []) (ci := 8) (q0 := 11) X J (cX7_thrown_ok l E G2_a0) (cwV 0 hts gL_law_X7_thrown rfl rfl rfl (by decide +kernel) ⟨Nat.le_of_ble_eq_true rfl, Nat.le_of_ble_eq_true rfl⟩) G2_a0 rfl rfl rfl hl.1 rfl (Nat.le_of_ble_eq_true rfl) dL_law_1020 ⟨by show _ ≤ 601024; omega, by show _ ≤ 7293034; omega⟩) (fun r1020 e_r1020 => ?_)
    subst e_r1020
    refine lv_iload hx hb dL_law_1023 (lv_at hl 1 rfl) ?_
    refine lv_icmp_eq (tgt := 1030) hx hb dL_law_1025 (by decide) (fun cz1025 => ?_) (fun cz1025 => by exact (cz1025 rfl).elim)
    refine lv_iload hx hb dL_law_1030 (lv_at hl 1 rfl) ?_
    refine lv_if_ne (tgt := 1047) hx hb dL_law_1032 (by decide) (fun cz1032 => ?_) (fun cz1032 => by exact (e_k cz1032).elim)
    refine lv_goto (tgt := 1425) hx hb dL_law_1047 (by decide) ?_
    refine W.widen (k := cells + 700) (n := slots + 4500) (by omega) (by omega) ?_
    exact kk _ H locs _ ⟨fl, rl, wh, gr, gra, tr, tra, sc, ha, va, mf, md, mi, ms9, mk, mt, ea, eb, nf, nr, mc1, mc2, lim, sup, off, plo, hrs, (kCount (xs (i + 1))), fa, rd, ri, sn, t9, hf, gf, kp, tp, o9, G2_0, G2_1, G2_2, G2_3, G2_4, G2_5, G2_6, G2_7, G2_8, G2_9, G2_10, G2_a0, G2_12, G2_13, G2_14, G2_15, G2_16, G2_17, G2_18, (hF.keep hk (by decide)), (hR.keep hk (by decide)), hSep, hnf, hnr, hok, hor, hRB, hBI⟩ J (lv_sub hl [2, 3, 4, 5, 6] rfl)
  · subst e_v
    have hk := hk.trans (k1.mono (by decide))
    have G1_0 := k1.2 0 _ (by decide) Fa0
    have G1_1 := k1.2 1 _ (by decide) Fa1
    have G1_2 := k1.2 2 _ (by decide) Fa2
    have G1_3 := k1.2 3 _ (by decide) Fa3
    have G1_4 := k1.2 4 _ (by decide) Fa4
    have G1_5 := k1.2 5 _ (by decide) Fa5
    have G1_6 := k1.2 6 _ (by decide) Fa6
    have G1_7 := k1.2 7 _ (by decide) Fa7
    have G1_8 := k1.2 8 _ (by decide) Fa8
    have G1_9 := k1.2 9 _ (by decide) Fa9
    have G1_10 := k1.2 10 _ (by decide) Fa10
    have G1_11 := k1.2 11 _ (by decide) Fa11
    have G1_12 := k1.2 12 _ (by decide) Fa12
    have G1_13 := k1.2 13 _ (by decide) Fa13
    have G1_14 := k1.2 14 _ (by decide) Fa14
    have G1_15 := k1.2 15 _ (by decide) Fa15
    have G1_16 := k1.2 16 _ (by decide) Fa16
    have G1_17 := k1.2 17 _ (by decide) Fa17
    refine lv_istore (lv' := [(5, .int 0), (4, .int (nI i)), (3, .ref ou), (2, .ref mo), (1, .ref x), (0, .ref b)]) hx hb dL_law_1005 hl (by decide) rfl (fun ls hl => ?_)
    refine lv_aload_n hx hb dL_law_1007 rfl (lv_at hl 3 rfl) ?_
    refine lv_aload_n hx hb dL_law_1008 rfl (lv_at hl 5 rfl) ?_
    refine lv_iload hx hb dL_law_1009 (lv_at hl 1 rfl) ?_
    refine lv_iconst (v := 1) hx hb dL_law_1011 (by decide) ?_
    refine lv_iadd hx hb dL_law_1012 ?_
    refine W.eq (g2 := F0 m 1013 ls [.int (nI (i + 1)), .ref b, .ref mo]) (congrArg (fun z9 : Int32 => F0 m 1013 ls [.int z9, .ref b, .ref mo]) (show ((nI i) + 1 : Int32) = nI (i + 1) from (nI_add i 1))) ?_
    refine va_sld hx hb hXs hbl hbA J.2.2 (vp_in_nI (by omega) (by omega)) dL_law_1013 ?_
    refine W.eq (g2 := F0 m 1014 ls [.int (xs (i + 1)), .ref mo]) (congrArg (fun z9 : Int32 => F0 m 1014 ls [.int z9, .ref mo]) (show (xs (nI (i + 1)).toNatClampNeg : Int32) = xs (i + 1) from (congrArg xs (nI_clamp (by omega))))) ?_
    refine z_ci J (z_rV (As := [.int (xs (i + 1))]) (rest := []) (ci := 8) (q0 := 11) X J (cX7_count_ok l E G1_11 G1_13 G1_14 G1_15 (by first | assumption | omega | decide) (by first | assumption | omega | decide)) (cwV 1 hts gL_law_X7_count rfl rfl rfl (by decide +kernel) ⟨Nat.le_of_ble_eq_true rfl, Nat.le_of_ble_eq_true rfl⟩) G1_11 rfl rfl rfl hl.1 rfl (Nat.le_of_ble_eq_true rfl) dL_law_1014 ⟨by show _ ≤ 601024; omega, by show _ ≤ 7293034; omega⟩) (fun r1014 ws_2 H locs hp9 J => ?_)
    obtain ⟨k2, G2_a0, e_r1014⟩ := hp9
    have hk := hk.trans (k2.mono (by decide))
    have G2_0 := k2.2 0 _ (by decide) G1_0
    have G2_1 := k2.2 1 _ (by decide) G1_1
    have G2_2 := k2.2 2 _ (by decide) G1_2
    have G2_3 := k2.2 3 _ (by decide) G1_3
    have G2_4 := k2.2 4 _ (by decide) G1_4
    have G2_5 := k2.2 5 _ (by decide) G1_5
    have G2_6 := k2.2 6 _ (by decide) G1_6
    have G2_7 := k2.2 7 _ (by decide) G1_7
    have G2_8 := k2.2 8 _ (by decide) G1_8
    have G2_9 := k2.2 9 _ (by decide) G1_9
    have G2_10 := k2.2 10 _ (by decide) G1_10
    have G2_12 := k2.2 12 _ (by decide) G1_12
    have G2_13 := k2.2 13 _ (by decide) G1_13
    have G2_14 := k2.2 14 _ (by decide) G1_14
    have G2_15 := k2.2 15 _ (by decide) G1_15
    have G2_16 := k2.2 16 _ (by decide) G1_16
    have G2_17 := k2.2 17 _ (by decide) G1_17
    have G2_18 := k2.2 18 _ (by decide) G1_a0
    refine W.eq (g2 := F0 m 1017 ls [.int (countS (nI nf) (nI nr) lim sup off plo hrs sn rd ri nr (xs (i + 1)))]) (congrArg (fun z9 : Int32 => F0 m 1017 ls [.int z9]) (show (r1014 : Int32) = countS (nI nf) (nI nr) lim sup off plo hrs sn rd ri nr (xs (i + 1)) from (by rw [e_r1014, e_k, sel0]))) ?_
    refine lv_istore (lv' := [(6, .int (countS (nI nf) (nI nr) lim sup off plo hrs sn rd ri nr (xs (i + 1)))), (5, .int 0), (4, .int (nI i)), (3, .ref ou), (2, .ref mo), (1, .ref x), (0, .ref b)]) hx hb dL_law_1017 hl (by decide) rfl (fun ls hl => ?_)
    refine lv_aload_n hx hb dL_law_1019 rfl (lv_at hl 4 rfl) ?_
    refine z_cr (z_rV (As := []) (rest := []) (ci := 8) (q0 := 11) X J (cX7_thrown_ok l E G2_a0) (cwV 0 hts gL_law_X7_thrown rfl rfl rfl (by decide +kernel) ⟨Nat.le_of_ble_eq_true rfl, Nat.le_of_ble_eq_true rfl⟩) G2_a0 rfl rfl rfl hl.1 rfl (Nat.le_of_ble_eq_true rfl) dL_law_1020 ⟨by show _ ≤ 601024; omega, by show _ ≤ 7293034; omega⟩) (fun r1020 e_r1020 => ?_)
    subst e_r1020
    refine lv_iload hx hb dL_law_1023 (lv_at hl 1 rfl) ?_
    refine lv_icmp_eq (tgt := 1030) hx hb dL_law_1025 (by decide) (fun cz1025 => ?_) (fun cz1025 => by exact (cz1025 e_k).elim)
    refine lv_iload hx hb dL_law_1030 (lv_at hl 1 rfl) ?_
    refine lv_if_ne (tgt := 1047) hx hb dL_law_1032 (by decide) (fun cz1032 => by exact absurd cz1032 (by decide)) (fun cz1032 => ?_)
    refine lv_aload_n hx hb dL_law_1035 rfl (lv_at hl 3 rfl) ?_
    refine lv_iconst (v := 0) hx hb dL_law_1036 (by decide) ?_
    refine z_lald X J 18 G2_18 (vp_in_nI (n := 0) (by decide) (by decide)) dL_law_1037 ?_
    refine W.eq (g2 := F0 m 1038 ls [.long ((countS (nI nf) (nI nr) lim sup off plo hrs sn rd ri nr (xs (i + 1))).toInt64)]) (congrArg (fun z9 : Int64 => F0 m 1038 ls [.long z9]) (show ((vp_updL o9 0 (countS (nI nf) (nI nr) lim sup off plo hrs sn rd ri nr (xs (i + 1))).toInt64) (0 : Int32).toNatClampNeg : Int64) = (countS (nI nf) (nI nr) lim sup off plo hrs sn rd ri nr (xs (i + 1))).toInt64 from rfl)) ?_
    refine lv_iload hx hb dL_law_1038 (lv_at hl 0 rfl) ?_
    refine lv_i2l (v := (countS (nI nf) (nI nr) lim sup off plo hrs sn rd ri nr (xs (i + 1))).toInt64) hx hb dL_law_1040 rfl ?_
    refine W.lcmp hx hb dL_law_1041 ?_
    refine W.eq (g2 := F0 m 1042 ls [.int 0]) (congrArg (fun z9 : Int32 => F0 m 1042 ls [.int z9]) (show (lg_cmp ((countS (nI nf) (nI nr) lim sup off plo hrs sn rd ri nr (xs (i + 1))).toInt64) ((countS (nI nf) (nI nr) lim sup off plo hrs sn rd ri nr (xs (i + 1))).toInt64) : Int32) = 0 from (lg_cmp_self _))) ?_
    refine lv_if_eq (tgt := 1047) hx hb dL_law_1042 (by decide) (fun cz1042 => ?_) (fun cz1042 => by exact absurd cz1042 (by decide))
    refine lv_goto (tgt := 1425) hx hb dL_law_1047 (by decide) ?_
    refine W.widen (k := cells + 700) (n := slots + 4500) (by omega) (by omega) ?_
    exact kk _ H locs _ ⟨fl, rl, wh, gr, gra, tr, tra, sc, ha, va, mf, md, mi, ms9, mk, mt, ea, eb, nf, nr, mc1, mc2, lim, sup, off, plo, hrs, (kCount (xs (i + 1))), fa, rd, ri, sn, t9, hf, gf, kp, tp, (vp_updL o9 0 (countS (nI nf) (nI nr) lim sup off plo hrs sn rd ri nr (xs (i + 1))).toInt64), G2_0, G2_1, G2_2, G2_3, G2_4, G2_5, G2_6, G2_7, G2_8, G2_9, G2_10, G2_a0, G2_12, G2_13, G2_14, G2_15, G2_16, G2_17, G2_18, (hF.keep hk (by decide)), (hR.keep hk (by decide)), hSep, hnf, hnr, hok, hor, hRB, hBI⟩ J (lv_sub hl [2, 3, 4, 5, 6] rfl)
set_option maxHeartbeats 2000000 in
set_option maxRecDepth 100000 in
theorem turn_blow {p : Program} {l : Launch} (hflags : l.flags = flags0) {e : Env} {s : State} {m : MethodId} {below : List Frame} {meth : Method} {c : Code} {b L : Nat} {xs : Nat → Int32} (E : zG) (X : zC E p m c cL_law 9 s #[.ref b] wsL_law RL) (hRz : zR s) (hNz : zNc s) (hXs : va_X b L xs s s.heap) (hbl : b < s.heap.size) (hbA : ¬ zA E b) (hE1 : ¬ zA E E.2.2.1) (hL9 : L ≤ 3584) {QQ : State → Prop} {ws : va_W} {x mo ou i cells slots : Nat} {H : Heap} {locs : List Loc} {ls : Array Slot} (hi : i + 7 ≤ L) (hW : LW E ws x mo ou) (J : zJ E ws s H locs) (hl : lv_has ls 9 [(4, .int (nI i)), (3, .ref ou), (2, .ref mo), (1, .ref x), (0, .ref b)]) (hc9 : cells + 700 ≤ 601024) (hs9 : slots + 4500 ≤ 7293034)
    (kk : ∀ (ws' : va_W) (H' : Heap) (locs' : List Loc) (ls' : Array Slot), LW E ws' x mo ou → zJ E ws' s H' locs' → lv_has ls' 9 [(4, .int (nI i)), (3, .ref ou), (2, .ref mo), (1, .ref x), (0, .ref b)] → W p l e room_1 s m #[.ref b] below meth c H' locs' (cells + 700) (slots + 4500) QQ (F0 m 1425 ls' [])) :
    W p l e room_1 s m #[.ref b] below meth c H locs cells slots QQ (F0 m 654 ls []) := by
  obtain ⟨fl, rl, wh, gr, gra, tr, tra, sc, ha, va, mf, md, mi, ms9, mk, mt, ea, eb, nf, nr, mc1, mc2, lim, sup, off, plo, hrs, th, fa, rd, ri, sn, t9, hf, gf, kp, tp, o9, Fa0, Fa1, Fa2, Fa3, Fa4, Fa5, Fa6, Fa7, Fa8, Fa9, Fa10, Fa11, Fa12, Fa13, Fa14, Fa15, Fa16, Fa17, Fa18, hF, hR, hSep, hnf, hnr, hok, hor, hRB, hBI⟩ := hW
  have hx := X.1.1
  have hb := X.1.2.1
  have hown := X.1.2.2.2.1
  have hts := X.1.2.2.2.2
  have hk : zK [0, 1, 2, 3, 4, 5, 6, 7, 8, 9, 10, 11, 12, 13, 14, 15, 16, 17, 18] ws ws := zK.rf
  have hlen19 := zlt Fa18
  refine lv_aload_n hx hb dL_law_654 rfl (lv_at hl 3 rfl) ?_
  refine lv_aload_n hx hb dL_law_655 rfl (lv_at hl 4 rfl) ?_
  refine lv_iload hx hb dL_law_656 (lv_at hl 0 rfl) ?_
  refine lv_iconst (v := 1) hx hb dL_law_658 (by decide) ?_
  refine lv_iadd hx hb dL_law_659 ?_
  refine W.eq (g2 := F0 m 660 ls [.int (nI (i + 1)), .ref b, .ref x]) (congrArg (fun z9 : Int32 => F0 m 660 ls [.int z9, .ref b, .ref x]) (show ((nI i) + 1 : Int32) = nI (i + 1) from (nI_add i 1))) ?_
  refine va_sld hx hb hXs hbl hbA J.2.2 (vp_in_nI (by omega) (by omega)) dL_law_660 ?_
  refine W.eq (g2 := F0 m 661 ls [.int (xs (i + 1)), .ref x]) (congrArg (fun z9 : Int32 => F0 m 661 ls [.int z9, .ref x]) (show (xs (nI (i + 1)).toNatClampNeg : Int32) = xs (i + 1) from (congrArg xs (nI_clamp (by omega))))) ?_
  refine lv_aload_n hx hb dL_law_661 rfl (lv_at hl 4 rfl) ?_
  refine lv_iload hx hb dL_law_662 (lv_at hl 0 rfl) ?_
  refine lv_iconst (v := 2) hx hb dL_law_664 (by decide) ?_
  refine lv_iadd hx hb dL_law_665 ?_
  refine W.eq (g2 := F0 m 666 ls [.int (nI (i + 2)), .ref b, .int (xs (i + 1)), .ref x]) (congrArg (fun z9 : Int32 => F0 m 666 ls [.int z9, .ref b, .int (xs (i + 1)), .ref x]) (show ((nI i) + 2 : Int32) = nI (i + 2) from (nI_add i 2))) ?_
  refine va_sld hx hb hXs hbl hbA J.2.2 (vp_in_nI (by omega) (by omega)) dL_law_666 ?_
  refine W.eq (g2 := F0 m 667 ls [.int (xs (i + 2)), .int (xs (i + 1)), .ref x]) (congrArg (fun z9 : Int32 => F0 m 667 ls [.int z9, .int (xs (i + 1)), .ref x]) (show (xs (nI (i + 2)).toNatClampNeg : Int32) = xs (i + 2) from (congrArg xs (nI_clamp (by omega))))) ?_
  refine lv_aload_n hx hb dL_law_667 rfl (lv_at hl 4 rfl) ?_
  refine lv_iload hx hb dL_law_668 (lv_at hl 0 rfl) ?_
  refine lv_iconst (v := 3) hx hb dL_law_670 (by decide) ?_
  refine lv_iadd hx hb dL_law_671 ?_
  refine W.eq (g2 := F0 m 672 ls [.int (nI (i + 3)), .ref b, .int (xs (i + 2)), .int (xs (i + 1)), .ref x]) (congrArg (fun z9 : Int32 => F0 m 672 ls [.int z9, .ref b, .int (xs (i + 2)), .int (xs (i + 1)), .ref x]) (show ((nI i) + 3 : Int32) = nI (i + 3) from (nI_add i 3))) ?_
  refine va_sld hx hb hXs hbl hbA J.2.2 (vp_in_nI (by omega) (by omega)) dL_law_672 ?_
  refine W.eq (g2 := F0 m 673 ls [.int (xs (i + 3)), .int (xs (i + 2)), .int (xs (i + 1)), .ref x]) (congrArg (fun z9 : Int32 => F0 m 673 ls [.int z9, .int (xs (i + 2)), .int (xs (i + 1)), .ref x]) (show (xs (nI (i + 3)).toNatClampNeg : Int32) = xs (i + 3) from (congrArg xs (nI_clamp (by omega))))) ?_
  refine lv_aload_n hx hb dL_law_673 rfl (lv_at hl 1 rfl) ?_
  refine z_xi J (z_wS (As := [.ref x, .int (xs (i + 1)), .int (xs (i + 2)), .int (xs (i + 3)), .ref ou]) (rest := []) X hRz hNz J (cL_blow_ok l hflags E Fa0 Fa1 Fa4 Fa5 Fa8 Fa9 Fa10 Fa18 (by first | assumption | omega | decide) (by first | assumption | omega | decide) (by first | assumption | omega | decide)) (vx_cwSW (hh := [(0, 12, 15, 15), (0, 12, 19, 13)]) 5 hts gL_law_L_blow rfl rfl rfl (by decide +kernel) ⟨Nat.le_of_ble_eq_true rfl, Nat.le_of_ble_eq_true rfl⟩) rfl hl.1 rfl (Nat.le_of_ble_eq_true rfl) dL_law_674 ⟨by show _ ≤ 601024; omega, by show _ ≤ 7293034; omega⟩) (fun nm ce q9 H locs hp9 J h1 h2 h3 => ?_) (fun r674 ws_1 H locs hp9 J => ?_)
  · exact False.elim (by exact hp9)
  rcases hp9 with ⟨e_v, e_k, rfl⟩ | ⟨e_v, e_k, k1, G1_a0, G1_a1, G1_a2, G1_a3, G1_a4⟩
  · subst e_v
    refine lv_istore (lv' := [(5, .int (kBlow (xs (i + 1)) (xs (i + 2)) (xs (i + 3)))), (4, .int (nI i)), (3, .ref ou), (2, .ref mo), (1, .ref x), (0, .ref b)]) hx hb dL_law_677 hl (by decide) rfl (fun ls hl => ?_)
    refine lv_aload_n hx hb dL_law_679 rfl (lv_at hl 3 rfl) ?_
    refine lv_aload_n hx hb dL_law_680 rfl (lv_at hl 5 rfl) ?_
    refine lv_iload hx hb dL_law_681 (lv_at hl 1 rfl) ?_
    refine lv_iconst (v := 1) hx hb dL_law_683 (by decide) ?_
    refine lv_iadd hx hb dL_law_684 ?_
    refine W.eq (g2 := F0 m 685 ls [.int (nI (i + 1)), .ref b, .ref mo]) (congrArg (fun z9 : Int32 => F0 m 685 ls [.int z9, .ref b, .ref mo]) (show ((nI i) + 1 : Int32) = nI (i + 1) from (nI_add i 1))) ?_
    refine va_sld hx hb hXs hbl hbA J.2.2 (vp_in_nI (by omega) (by omega)) dL_law_685 ?_
    refine W.eq (g2 := F0 m 686 ls [.int (xs (i + 1)), .ref mo]) (congrArg (fun z9 : Int32 => F0 m 686 ls [.int z9, .ref mo]) (show (xs (nI (i + 1)).toNatClampNeg : Int32) = xs (i + 1) from (congrArg xs (nI_clamp (by omega))))) ?_
    refine lv_aload_n hx hb dL_law_686 rfl (lv_at hl 5 rfl) ?_
    refine lv_iload hx hb dL_law_687 (lv_at hl 1 rfl) ?_
    refine lv_iconst (v := 2) hx hb dL_law_689 (by decide) ?_
    refine lv_iadd hx hb dL_law_690 ?_
    refine W.eq (g2 := F0 m 691 ls [.int (nI (i + 2)), .ref b, .int (xs (i + 1)), .ref mo]) (congrArg (fun z9 : Int32 => F0 m 691 ls [.int z9, .ref b, .int (xs (i + 1)), .ref mo]) (show ((nI i) + 2 : Int32) = nI (i + 2) from (nI_add i 2))) ?_
    refine va_sld hx hb hXs hbl hbA J.2.2 (vp_in_nI (by omega) (by omega)) dL_law_691 ?_
    refine W.eq (g2 := F0 m 692 ls [.int (xs (i + 2)), .int (xs (i + 1)), .ref mo]) (congrArg (fun z9 : Int32 => F0 m 692 ls [.int z9, .int (xs (i + 1)), .ref mo]) (show (xs (nI (i + 2)).toNatClampNeg : Int32) = xs (i + 2) from (congrArg xs (nI_clamp (by omega))))) ?_
    refine lv_aload_n hx hb dL_law_692 rfl (lv_at hl 5 rfl) ?_
    refine lv_iload hx hb dL_law_693 (lv_at hl 1 rfl) ?_
    refine lv_iconst (v := 3) hx hb dL_law_695 (by decide) ?_
    refine lv_iadd hx hb dL_law_696 ?_
    refine W.eq (g2 := F0 m 697 ls [.int (nI (i + 3)), .ref b, .int (xs (i + 2)), .int (xs (i + 1)), .ref mo]) (congrArg (fun z9 : Int32 => F0 m 697 ls [.int z9, .ref b, .int (xs (i + 2)), .int (xs (i + 1)), .ref mo]) (show ((nI i) + 3 : Int32) = nI (i + 3) from (nI_add i 3))) ?_
    refine va_sld hx hb hXs hbl hbA J.2.2 (vp_in_nI (by omega) (by omega)) dL_law_697 ?_
    refine W.eq (g2 := F0 m 698 ls [.int (xs (i + 3)), .int (xs (i + 2)), .int (xs (i + 1)), .ref mo]) (congrArg (fun z9 : Int32 => F0 m 698 ls [.int z9, .int (xs (i + 2)), .int (xs (i + 1)), .ref mo]) (show (xs (nI (i + 3)).toNatClampNeg : Int32) = xs (i + 3) from (congrArg xs (nI_clamp (by omega))))) ?_
    refine z_ci J (z_rV (As := [.int (xs (i + 1)), .int (xs (i + 2)), .int (xs (i + 3))]) (rest := []) (ci := 8) (q0 := 11) X J (cX7_blow_ok l E Fa11 Fa12 Fa15 Fa17 (by first | assumption | omega | decide) (by first | assumption | omega | decide)) (cwV 3 hts gL_law_X7_blow rfl rfl rfl (by decide +kernel) ⟨Nat.le_of_ble_eq_true rfl, Nat.le_of_ble_eq_true rfl⟩) Fa11 rfl rfl rfl hl.1 rfl (Nat.le_of_ble_eq_true rfl) dL_law_698 ⟨by show _ ≤ 601024; omega, by show _ ≤ 7293034; omega⟩) (fun r698 ws_2 H locs hp9 J => ?_)
    obtain ⟨k2, ⟨tq_2, G2_a0, G2_a1, G2_a2, e_r698⟩⟩ := hp9
    have hk := hk.trans (k2.mono (by decide))
    have G2_0 := k2.2 0 _ (by decide) Fa0
    have G2_1 := k2.2 1 _ (by decide) Fa1
    have G2_2 := k2.2 2 _ (by decide) Fa2
    have G2_3 := k2.2 3 _ (by decide) Fa3
    have G2_4 := k2.2 4 _ (by decide) Fa4
    have G2_5 := k2.2 5 _ (by decide) Fa5
    have G2_6 := k2.2 6 _ (by decide) Fa6
    have G2_7 := k2.2 7 _ (by decide) Fa7
    have G2_8 := k2.2 8 _ (by decide) Fa8
    have G2_9 := k2.2 9 _ (by decide) Fa9
    have G2_10 := k2.2 10 _ (by decide) Fa10
    have G2_12 := k2.2 12 _ (by decide) Fa12
    have G2_13 := k2.2 13 _ (by decide) Fa13
    have G2_14 := k2.2 14 _ (by decide) Fa14
    have G2_16 := k2.2 16 _ (by decide) Fa16
    have G2_18 := k2.2 18 _ (by decide) Fa18
    refine lv_istore (lv' := [(6, .int r698), (5, .int (kBlow (xs (i + 1)) (xs (i + 2)) (xs (i + 3)))), (4, .int (nI i)), (3, .ref ou), (2, .ref mo), (1, .ref x), (0, .ref b)]) hx hb dL_law_701 hl (by decide) rfl (fun ls hl => ?_)
    refine lv_aload_n hx hb dL_law_703 rfl (lv_at hl 4 rfl) ?_
    refine z_cr (z_rV (As := []) (rest := []) (ci := 8) (q0 := 11) X J (cX7_thrown_ok l E G2_a0) (cwV 0 hts gL_law_X7_thrown rfl rfl rfl (by decide +kernel) ⟨Nat.le_of_ble_eq_true rfl, Nat.le_of_ble_eq_true rfl⟩) G2_a0 rfl rfl rfl hl.1 rfl (Nat.le_of_ble_eq_true rfl) dL_law_704 ⟨by show _ ≤ 601024; omega, by show _ ≤ 7293034; omega⟩) (fun r704 e_r704 => ?_)
    subst e_r704
    refine lv_iload hx hb dL_law_707 (lv_at hl 1 rfl) ?_
    refine lv_icmp_eq (tgt := 714) hx hb dL_law_709 (by decide) (fun cz709 => ?_) (fun cz709 => by exact (cz709 rfl).elim)
    refine lv_iload hx hb dL_law_714 (lv_at hl 1 rfl) ?_
    refine lv_if_ne (tgt := 731) hx hb dL_law_716 (by decide) (fun cz716 => ?_) (fun cz716 => by exact (e_k cz716).elim)
    refine lv_goto (tgt := 1425) hx hb dL_law_731 (by decide) ?_
    refine W.widen (k := cells + 700) (n := slots + 4500) (by omega) (by omega) ?_
    exact kk _ H locs _ ⟨fl, rl, wh, gr, gra, tr, tra, sc, ha, va, mf, md, mi, ms9, mk, mt, ea, eb, nf, nr, mc1, mc2, lim, sup, off, plo, hrs, (kBlow (xs (i + 1)) (xs (i + 2)) (xs (i + 3))), fa, rd, ri, sn, t9, hf, gf, kp, tq_2, o9, G2_0, G2_1, G2_2, G2_3, G2_4, G2_5, G2_6, G2_7, G2_8, G2_9, G2_10, (by simpa only [selN e_k] using G2_a0), G2_12, G2_13, G2_14, (by simpa only [selN e_k] using G2_a1), G2_16, G2_a2, G2_18, (hF.keep hk (by decide)), (hR.keep hk (by decide)), hSep, hnf, hnr, hok, hor, hRB, hBI⟩ J (lv_sub hl [2, 3, 4, 5, 6] rfl)
  · subst e_v
    have hk := hk.trans (k1.mono (by decide))
    have G1_1 := k1.2 1 _ (by decide) Fa1
    have G1_2 := k1.2 2 _ (by decide) Fa2
    have G1_3 := k1.2 3 _ (by decide) Fa3
    have G1_4 := k1.2 4 _ (by decide) Fa4
    have G1_6 := k1.2 6 _ (by decide) Fa6
    have G1_7 := k1.2 7 _ (by decide) Fa7
    have G1_8 := k1.2 8 _ (by decide) Fa8
    have G1_11 := k1.2 11 _ (by decide) Fa11
    have G1_12 := k1.2 12 _ (by decide) Fa12
    have G1_13 := k1.2 13 _ (by decide) Fa13
    have G1_14 := k1.2 14 _ (by decide) Fa14
    have G1_15 := k1.2 15 _ (by decide) Fa15
    have G1_16 := k1.2 16 _ (by decide) Fa16
    have G1_17 := k1.2 17 _ (by decide) Fa17
    refine lv_istore (lv' := [(5, .int 0), (4, .int (nI i)), (3, .ref ou), (2, .ref mo), (1, .ref x), (0, .ref b)]) hx hb dL_law_677 hl (by decide) rfl (fun ls hl => ?_)
    refine lv_aload_n hx hb dL_law_679 rfl (lv_at hl 3 rfl) ?_
    refine lv_aload_n hx hb dL_law_680 rfl (lv_at hl 5 rfl) ?_
    refine lv_iload hx hb dL_law_681 (lv_at hl 1 rfl) ?_
    refine lv_iconst (v := 1) hx hb dL_law_683 (by decide) ?_
    refine lv_iadd hx hb dL_law_684 ?_
    refine W.eq (g2 := F0 m 685 ls [.int (nI (i + 1)), .ref b, .ref mo]) (congrArg (fun z9 : Int32 => F0 m 685 ls [.int z9, .ref b, .ref mo]) (show ((nI i) + 1 : Int32) = nI (i + 1) from (nI_add i 1))) ?_
    refine va_sld hx hb hXs hbl hbA J.2.2 (vp_in_nI (by omega) (by omega)) dL_law_685 ?_
    refine W.eq (g2 := F0 m 686 ls [.int (xs (i + 1)), .ref mo]) (congrArg (fun z9 : Int32 => F0 m 686 ls [.int z9, .ref mo]) (show (xs (nI (i + 1)).toNatClampNeg : Int32) = xs (i + 1) from (congrArg xs (nI_clamp (by omega))))) ?_
    refine lv_aload_n hx hb dL_law_686 rfl (lv_at hl 5 rfl) ?_
    refine lv_iload hx hb dL_law_687 (lv_at hl 1 rfl) ?_
    refine lv_iconst (v := 2) hx hb dL_law_689 (by decide) ?_
    refine lv_iadd hx hb dL_law_690 ?_
    refine W.eq (g2 := F0 m 691 ls [.int (nI (i + 2)), .ref b, .int (xs (i + 1)), .ref mo]) (congrArg (fun z9 : Int32 => F0 m 691 ls [.int z9, .ref b, .int (xs (i + 1)), .ref mo]) (show ((nI i) + 2 : Int32) = nI (i + 2) from (nI_add i 2))) ?_
    refine va_sld hx hb hXs hbl hbA J.2.2 (vp_in_nI (by omega) (by omega)) dL_law_691 ?_
    refine W.eq (g2 := F0 m 692 ls [.int (xs (i + 2)), .int (xs (i + 1)), .ref mo]) (congrArg (fun z9 : Int32 => F0 m 692 ls [.int z9, .int (xs (i + 1)), .ref mo]) (show (xs (nI (i + 2)).toNatClampNeg : Int32) = xs (i + 2) from (congrArg xs (nI_clamp (by omega))))) ?_
    refine lv_aload_n hx hb dL_law_692 rfl (lv_at hl 5 rfl) ?_
    refine lv_iload hx hb dL_law_693 (lv_at hl 1 rfl) ?_
    refine lv_iconst (v := 3) hx hb dL_law_695 (by decide) ?_
    refine lv_iadd hx hb dL_law_696 ?_
    refine W.eq (g2 := F0 m 697 ls [.int (nI (i + 3)), .ref b, .int (xs (i + 2)), .int (xs (i + 1)), .ref mo]) (congrArg (fun z9 : Int32 => F0 m 697 ls [.int z9, .ref b, .int (xs (i + 2)), .int (xs (i + 1)), .ref mo]) (show ((nI i) + 3 : Int32) = nI (i + 3) from (nI_add i 3))) ?_
    refine va_sld hx hb hXs hbl hbA J.2.2 (vp_in_nI (by omega) (by omega)) dL_law_697 ?_
    refine W.eq (g2 := F0 m 698 ls [.int (xs (i + 3)), .int (xs (i + 2)), .int (xs (i + 1)), .ref mo]) (congrArg (fun z9 : Int32 => F0 m 698 ls [.int z9, .int (xs (i + 2)), .int (xs (i + 1)), .ref mo]) (show (xs (nI (i + 3)).toNatClampNeg : Int32) = xs (i + 3) from (congrArg xs (nI_clamp (by omega))))) ?_
    refine z_ci J (z_rV (As := [.int (xs (i + 1)), .int (xs (i + 2)), .int (xs (i + 3))]) (rest := []) (ci := 8) (q0 := 11) X J (cX7_blow_ok l E G1_11 G1_12 G1_15 G1_17 (by first | assumption | omega | decide) (by first | assumption | omega | decide)) (cwV 3 hts gL_law_X7_blow rfl rfl rfl (by decide +kernel) ⟨Nat.le_of_ble_eq_true rfl, Nat.le_of_ble_eq_true rfl⟩) G1_11 rfl rfl rfl hl.1 rfl (Nat.le_of_ble_eq_true rfl) dL_law_698 ⟨by show _ ≤ 601024; omega, by show _ ≤ 7293034; omega⟩) (fun r698 ws_2 H locs hp9 J => ?_)
    obtain ⟨k2, ⟨tq_2, G2_a0, G2_a1, G2_a2, e_r698⟩⟩ := hp9
    have hk := hk.trans (k2.mono (by decide))
    have G2_0 := k2.2 0 _ (by decide) G1_a0
    have G2_1 := k2.2 1 _ (by decide) G1_1
    have G2_2 := k2.2 2 _ (by decide) G1_2
    have G2_3 := k2.2 3 _ (by decide) G1_3
    have G2_4 := k2.2 4 _ (by decide) G1_4
    have G2_5 := k2.2 5 _ (by decide) G1_a1
    have G2_6 := k2.2 6 _ (by decide) G1_6
    have G2_7 := k2.2 7 _ (by decide) G1_7
    have G2_8 := k2.2 8 _ (by decide) G1_8
    have G2_9 := k2.2 9 _ (by decide) G1_a2
    have G2_10 := k2.2 10 _ (by decide) G1_a3
    have G2_12 := k2.2 12 _ (by decide) G1_12
    have G2_13 := k2.2 13 _ (by decide) G1_13
    have G2_14 := k2.2 14 _ (by decide) G1_14
    have G2_16 := k2.2 16 _ (by decide) G1_16
    have G2_18 := k2.2 18 _ (by decide) G1_a4
    refine W.eq (g2 := F0 m 701 ls [.int ((hsS (xs (i + 2)) sup (hgS fa (-1) nf).1 (hgS fa (-1) nf).2 (xs (i + 1)) sn (xs (i + 3)).toNatClampNeg).1)]) (congrArg (fun z9 : Int32 => F0 m 701 ls [.int z9]) (show (r698 : Int32) = (hsS (xs (i + 2)) sup (hgS fa (-1) nf).1 (hgS fa (-1) nf).2 (xs (i + 1)) sn (xs (i + 3)).toNatClampNeg).1 from (by rw [e_r698, e_k, sel0]))) ?_
    refine lv_istore (lv' := [(6, .int ((hsS (xs (i + 2)) sup (hgS fa (-1) nf).1 (hgS fa (-1) nf).2 (xs (i + 1)) sn (xs (i + 3)).toNatClampNeg).1)), (5, .int 0), (4, .int (nI i)), (3, .ref ou), (2, .ref mo), (1, .ref x), (0, .ref b)]) hx hb dL_law_701 hl (by decide) rfl (fun ls hl => ?_)
    refine lv_aload_n hx hb dL_law_703 rfl (lv_at hl 4 rfl) ?_
    refine z_cr (z_rV (As := []) (rest := []) (ci := 8) (q0 := 11) X J (cX7_thrown_ok l E G2_a0) (cwV 0 hts gL_law_X7_thrown rfl rfl rfl (by decide +kernel) ⟨Nat.le_of_ble_eq_true rfl, Nat.le_of_ble_eq_true rfl⟩) G2_a0 rfl rfl rfl hl.1 rfl (Nat.le_of_ble_eq_true rfl) dL_law_704 ⟨by show _ ≤ 601024; omega, by show _ ≤ 7293034; omega⟩) (fun r704 e_r704 => ?_)
    subst e_r704
    refine lv_iload hx hb dL_law_707 (lv_at hl 1 rfl) ?_
    refine lv_icmp_eq (tgt := 714) hx hb dL_law_709 (by decide) (fun cz709 => ?_) (fun cz709 => by exact (cz709 e_k).elim)
    refine lv_iload hx hb dL_law_714 (lv_at hl 1 rfl) ?_
    refine lv_if_ne (tgt := 731) hx hb dL_law_716 (by decide) (fun cz716 => by exact absurd cz716 (by decide)) (fun cz716 => ?_)
    refine lv_aload_n hx hb dL_law_719 rfl (lv_at hl 3 rfl) ?_
    refine lv_iconst (v := 0) hx hb dL_law_720 (by decide) ?_
    refine z_lald X J 18 G2_18 (vp_in_nI (n := 0) (by decide) (by decide)) dL_law_721 ?_
    refine W.eq (g2 := F0 m 722 ls [.long (((hsS (xs (i + 2)) sup (hgS fa (-1) nf).1 (hgS fa (-1) nf).2 (xs (i + 1)) sn (xs (i + 3)).toNatClampNeg).1).toInt64)]) (congrArg (fun z9 : Int64 => F0 m 722 ls [.long z9]) (show ((vp_updL o9 0 ((hsS (xs (i + 2)) sup (hgS fa (-1) nf).1 (hgS fa (-1) nf).2 (xs (i + 1)) sn (xs (i + 3)).toNatClampNeg).1).toInt64) (0 : Int32).toNatClampNeg : Int64) = ((hsS (xs (i + 2)) sup (hgS fa (-1) nf).1 (hgS fa (-1) nf).2 (xs (i + 1)) sn (xs (i + 3)).toNatClampNeg).1).toInt64 from rfl)) ?_
    refine lv_iload hx hb dL_law_722 (lv_at hl 0 rfl) ?_
    refine lv_i2l (v := ((hsS (xs (i + 2)) sup (hgS fa (-1) nf).1 (hgS fa (-1) nf).2 (xs (i + 1)) sn (xs (i + 3)).toNatClampNeg).1).toInt64) hx hb dL_law_724 rfl ?_
    refine W.lcmp hx hb dL_law_725 ?_
    refine W.eq (g2 := F0 m 726 ls [.int 0]) (congrArg (fun z9 : Int32 => F0 m 726 ls [.int z9]) (show (lg_cmp (((hsS (xs (i + 2)) sup (hgS fa (-1) nf).1 (hgS fa (-1) nf).2 (xs (i + 1)) sn (xs (i + 3)).toNatClampNeg).1).toInt64) (((hsS (xs (i + 2)) sup (hgS fa (-1) nf).1 (hgS fa (-1) nf).2 (xs (i + 1)) sn (xs (i + 3)).toNatClampNeg).1).toInt64) : Int32) = 0 from (lg_cmp_self _))) ?_
    refine lv_if_eq (tgt := 731) hx hb dL_law_726 (by decide) (fun cz726 => ?_) (fun cz726 => by exact absurd cz726 (by decide))
    refine lv_goto (tgt := 1425) hx hb dL_law_731 (by decide) ?_
    refine W.widen (k := cells + 700) (n := slots + 4500) (by omega) (by omega) ?_
    exact kk _ H locs _ ⟨fl, rl, wh, gr, gra, tr, tra, sc, ha, va, mf, md, mi, ms9, mk, mt, ea, eb, nf, nr, mc1, mc2, lim, sup, (off + (hsS (xs (i + 2)) sup (hgS fa (-1) nf).1 (hgS fa (-1) nf).2 (xs (i + 1)) sn (xs (i + 3)).toNatClampNeg).1), plo, (hrs + (xs (i + 3))), (kBlow (xs (i + 1)) (xs (i + 2)) (xs (i + 3))), fa, rd, ri, ((hsS (xs (i + 2)) sup (hgS fa (-1) nf).1 (hgS fa (-1) nf).2 (xs (i + 1)) sn (xs (i + 3)).toNatClampNeg).2.1), t9, ((hgS fa (-1) nf).1), ((hgS fa (-1) nf).2), kp, tq_2, (vp_updL o9 0 ((hsS (xs (i + 2)) sup (hgS fa (-1) nf).1 (hgS fa (-1) nf).2 (xs (i + 1)) sn (xs (i + 3)).toNatClampNeg).1).toInt64), G2_0, G2_1, G2_2, G2_3, G2_4, G2_5, G2_6, G2_7, G2_8, G2_9, G2_10, (by simpa only [e_k, sel0] using G2_a0), G2_12, G2_13, G2_14, (by simpa only [e_k, sel0] using G2_a1), G2_16, G2_a2, G2_18, (hF.keep hk (by decide)), (hR.keep hk (by decide)), hSep, hnf, hnr, hok, hor, (hsS_I (kBlow0 e_k) hBI (hgS_RB nf hok) hRB _), hBI⟩ J (lv_sub hl [2, 3, 4, 5, 6] rfl)
