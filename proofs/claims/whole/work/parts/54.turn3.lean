set_option maxHeartbeats 2000000 in
set_option maxRecDepth 100000 in
theorem turn_would {p : Program} {l : Launch} (hflags : l.flags = flags0) {e : Env} {s : State} {m : MethodId} {below : List Frame} {meth : Method} {c : Code} {b L : Nat} {xs : Nat → Int32} (E : zG) (X : zC E p m c cL_law 9 s #[.ref b] wsL_law RL) (hRz : zR s) (hNz : zNc s) (hXs : va_X b L xs s s.heap) (hbl : b < s.heap.size) (hbA : ¬ zA E b) (hE1 : ¬ zA E E.2.2.1) (hL9 : L ≤ 3584) {QQ : State → Prop} {ws : va_W} {x mo ou i cells slots : Nat} {H : Heap} {locs : List Loc} {ls : Array Slot} (hi : i + 7 ≤ L) (hW : LW E ws x mo ou) (J : zJ E ws s H locs) (hl : lv_has ls 9 [(4, .int (nI i)), (3, .ref ou), (2, .ref mo), (1, .ref x), (0, .ref b)]) (hc9 : cells + 700 ≤ 601024) (hs9 : slots + 4500 ≤ 7293034)
    (kk : ∀ (ws' : va_W) (H' : Heap) (locs' : List Loc) (ls' : Array Slot), LW E ws' x mo ou → zJ E ws' s H' locs' → lv_has ls' 9 [(4, .int (nI i)), (3, .ref ou), (2, .ref mo), (1, .ref x), (0, .ref b)] → W p l e room_1 s m #[.ref b] below meth c H' locs' (cells + 700) (slots + 4500) QQ (F0 m 1425 ls' [])) :
    W p l e room_1 s m #[.ref b] below meth c H locs cells slots QQ (F0 m 1050 ls []) := by
  obtain ⟨fl, rl, wh, gr, gra, tr, tra, sc, ha, va, mf, md, mi, ms9, mk, mt, ea, eb, nf, nr, mc1, mc2, lim, sup, off, plo, hrs, th, fa, rd, ri, sn, t9, hf, gf, kp, tp, o9, Fa0, Fa1, Fa2, Fa3, Fa4, Fa5, Fa6, Fa7, Fa8, Fa9, Fa10, Fa11, Fa12, Fa13, Fa14, Fa15, Fa16, Fa17, Fa18, hF, hR, hSep, hnf, hnr, hok, hor, hRB, hBI⟩ := hW
  have hx := X.1.1
  have hb := X.1.2.1
  have hown := X.1.2.2.2.1
  have hts := X.1.2.2.2.2
  have hk : zK [0, 1, 2, 3, 4, 5, 6, 7, 8, 9, 10, 11, 12, 13, 14, 15, 16, 17, 18] ws ws := zK.rf
  have hlen19 := zlt Fa18
  refine lv_aload_n hx hb dL_law_1050 rfl (lv_at hl 3 rfl) ?_
  refine lv_aload_n hx hb dL_law_1051 rfl (lv_at hl 4 rfl) ?_
  refine lv_iload hx hb dL_law_1052 (lv_at hl 0 rfl) ?_
  refine lv_iconst (v := 1) hx hb dL_law_1054 (by decide) ?_
  refine lv_iadd hx hb dL_law_1055 ?_
  refine W.eq (g2 := F0 m 1056 ls [.int (nI (i + 1)), .ref b, .ref x]) (congrArg (fun z9 : Int32 => F0 m 1056 ls [.int z9, .ref b, .ref x]) (show ((nI i) + 1 : Int32) = nI (i + 1) from (nI_add i 1))) ?_
  refine va_sld hx hb hXs hbl hbA J.2.2 (vp_in_nI (by omega) (by omega)) dL_law_1056 ?_
  refine W.eq (g2 := F0 m 1057 ls [.int (xs (i + 1)), .ref x]) (congrArg (fun z9 : Int32 => F0 m 1057 ls [.int z9, .ref x]) (show (xs (nI (i + 1)).toNatClampNeg : Int32) = xs (i + 1) from (congrArg xs (nI_clamp (by omega))))) ?_
  refine lv_aload_n hx hb dL_law_1057 rfl (lv_at hl 4 rfl) ?_
  refine lv_iload hx hb dL_law_1058 (lv_at hl 0 rfl) ?_
  refine lv_iconst (v := 2) hx hb dL_law_1060 (by decide) ?_
  refine lv_iadd hx hb dL_law_1061 ?_
  refine W.eq (g2 := F0 m 1062 ls [.int (nI (i + 2)), .ref b, .int (xs (i + 1)), .ref x]) (congrArg (fun z9 : Int32 => F0 m 1062 ls [.int z9, .ref b, .int (xs (i + 1)), .ref x]) (show ((nI i) + 2 : Int32) = nI (i + 2) from (nI_add i 2))) ?_
  refine va_sld hx hb hXs hbl hbA J.2.2 (vp_in_nI (by omega) (by omega)) dL_law_1062 ?_
  refine W.eq (g2 := F0 m 1063 ls [.int (xs (i + 2)), .int (xs (i + 1)), .ref x]) (congrArg (fun z9 : Int32 => F0 m 1063 ls [.int z9, .int (xs (i + 1)), .ref x]) (show (xs (nI (i + 2)).toNatClampNeg : Int32) = xs (i + 2) from (congrArg xs (nI_clamp (by omega))))) ?_
  refine lv_aload_n hx hb dL_law_1063 rfl (lv_at hl 4 rfl) ?_
  refine lv_iload hx hb dL_law_1064 (lv_at hl 0 rfl) ?_
  refine lv_iconst (v := 3) hx hb dL_law_1066 (by decide) ?_
  refine lv_iadd hx hb dL_law_1067 ?_
  refine W.eq (g2 := F0 m 1068 ls [.int (nI (i + 3)), .ref b, .int (xs (i + 2)), .int (xs (i + 1)), .ref x]) (congrArg (fun z9 : Int32 => F0 m 1068 ls [.int z9, .ref b, .int (xs (i + 2)), .int (xs (i + 1)), .ref x]) (show ((nI i) + 3 : Int32) = nI (i + 3) from (nI_add i 3))) ?_
  refine va_sld hx hb hXs hbl hbA J.2.2 (vp_in_nI (by omega) (by omega)) dL_law_1068 ?_
  refine W.eq (g2 := F0 m 1069 ls [.int (xs (i + 3)), .int (xs (i + 2)), .int (xs (i + 1)), .ref x]) (congrArg (fun z9 : Int32 => F0 m 1069 ls [.int z9, .int (xs (i + 2)), .int (xs (i + 1)), .ref x]) (show (xs (nI (i + 3)).toNatClampNeg : Int32) = xs (i + 3) from (congrArg xs (nI_clamp (by omega))))) ?_
  refine lv_aload_n hx hb dL_law_1069 rfl (lv_at hl 4 rfl) ?_
  refine lv_iload hx hb dL_law_1070 (lv_at hl 0 rfl) ?_
  refine lv_iconst (v := 4) hx hb dL_law_1072 (by decide) ?_
  refine lv_iadd hx hb dL_law_1073 ?_
  refine W.eq (g2 := F0 m 1074 ls [.int (nI (i + 4)), .ref b, .int (xs (i + 3)), .int (xs (i + 2)), .int (xs (i + 1)), .ref x]) (congrArg (fun z9 : Int32 => F0 m 1074 ls [.int z9, .ref b, .int (xs (i + 3)), .int (xs (i + 2)), .int (xs (i + 1)), .ref x]) (show ((nI i) + 4 : Int32) = nI (i + 4) from (nI_add i 4))) ?_
  refine va_sld hx hb hXs hbl hbA J.2.2 (vp_in_nI (by omega) (by omega)) dL_law_1074 ?_
  refine W.eq (g2 := F0 m 1075 ls [.int (xs (i + 4)), .int (xs (i + 3)), .int (xs (i + 2)), .int (xs (i + 1)), .ref x]) (congrArg (fun z9 : Int32 => F0 m 1075 ls [.int z9, .int (xs (i + 3)), .int (xs (i + 2)), .int (xs (i + 1)), .ref x]) (show (xs (nI (i + 4)).toNatClampNeg : Int32) = xs (i + 4) from (congrArg xs (nI_clamp (by omega))))) ?_
  refine lv_aload_n hx hb dL_law_1075 rfl (lv_at hl 1 rfl) ?_
  refine z_xi J (z_wS (As := [.ref x, .int (xs (i + 1)), .int (xs (i + 2)), .int (xs (i + 3)), .int (xs (i + 4)), .ref ou]) (rest := []) X hRz hNz J (cL_would_ok l hflags E Fa0 Fa1 Fa2 Fa4 Fa5 Fa6 Fa7 Fa8 Fa9 Fa10 Fa18 (by first | assumption | omega | decide) (by first | assumption | omega | decide) (by first | assumption | omega | decide) (by first | assumption | omega | decide) (by first | assumption | omega | decide)) (vx_cwSW (hh := [(0, 14, 17, 15), (0, 14, 21, 13)]) 6 hts gL_law_L_would rfl rfl rfl (by decide +kernel) ⟨Nat.le_of_ble_eq_true rfl, Nat.le_of_ble_eq_true rfl⟩) rfl hl.1 rfl (Nat.le_of_ble_eq_true rfl) dL_law_1076 ⟨by show _ ≤ 601024; omega, by show _ ≤ 7293034; omega⟩) (fun nm ce q9 H locs hp9 J h1 h2 h3 => ?_) (fun r1076 ws_1 H locs hp9 J => ?_)
  · exact False.elim (by exact hp9)
  rcases hp9 with ⟨e_v, e_k, rfl⟩ | ⟨e_v, e_k, k1, ⟨t2_1, h2_1, g2_1, G1_a0, G1_a1, G1_a2, G1_a3⟩⟩
  · subst e_v
    refine lv_istore (lv' := [(5, .int (kWould (xs (i + 1)) (xs (i + 2)) (xs (i + 3)) (xs (i + 4)) (nI nr))), (4, .int (nI i)), (3, .ref ou), (2, .ref mo), (1, .ref x), (0, .ref b)]) hx hb dL_law_1079 hl (by decide) rfl (fun ls hl => ?_)
    refine lv_aload_n hx hb dL_law_1081 rfl (lv_at hl 3 rfl) ?_
    refine lv_aload_n hx hb dL_law_1082 rfl (lv_at hl 5 rfl) ?_
    refine lv_iload hx hb dL_law_1083 (lv_at hl 1 rfl) ?_
    refine lv_iconst (v := 1) hx hb dL_law_1085 (by decide) ?_
    refine lv_iadd hx hb dL_law_1086 ?_
    refine W.eq (g2 := F0 m 1087 ls [.int (nI (i + 1)), .ref b, .ref mo]) (congrArg (fun z9 : Int32 => F0 m 1087 ls [.int z9, .ref b, .ref mo]) (show ((nI i) + 1 : Int32) = nI (i + 1) from (nI_add i 1))) ?_
    refine va_sld hx hb hXs hbl hbA J.2.2 (vp_in_nI (by omega) (by omega)) dL_law_1087 ?_
    refine W.eq (g2 := F0 m 1088 ls [.int (xs (i + 1)), .ref mo]) (congrArg (fun z9 : Int32 => F0 m 1088 ls [.int z9, .ref mo]) (show (xs (nI (i + 1)).toNatClampNeg : Int32) = xs (i + 1) from (congrArg xs (nI_clamp (by omega))))) ?_
    refine lv_aload_n hx hb dL_law_1088 rfl (lv_at hl 5 rfl) ?_
    refine lv_iload hx hb dL_law_1089 (lv_at hl 1 rfl) ?_
    refine lv_iconst (v := 2) hx hb dL_law_1091 (by decide) ?_
    refine lv_iadd hx hb dL_law_1092 ?_
    refine W.eq (g2 := F0 m 1093 ls [.int (nI (i + 2)), .ref b, .int (xs (i + 1)), .ref mo]) (congrArg (fun z9 : Int32 => F0 m 1093 ls [.int z9, .ref b, .int (xs (i + 1)), .ref mo]) (show ((nI i) + 2 : Int32) = nI (i + 2) from (nI_add i 2))) ?_
    refine va_sld hx hb hXs hbl hbA J.2.2 (vp_in_nI (by omega) (by omega)) dL_law_1093 ?_
    refine W.eq (g2 := F0 m 1094 ls [.int (xs (i + 2)), .int (xs (i + 1)), .ref mo]) (congrArg (fun z9 : Int32 => F0 m 1094 ls [.int z9, .int (xs (i + 1)), .ref mo]) (show (xs (nI (i + 2)).toNatClampNeg : Int32) = xs (i + 2) from (congrArg xs (nI_clamp (by omega))))) ?_
    refine lv_aload_n hx hb dL_law_1094 rfl (lv_at hl 5 rfl) ?_
    refine lv_iload hx hb dL_law_1095 (lv_at hl 1 rfl) ?_
    refine lv_iconst (v := 3) hx hb dL_law_1097 (by decide) ?_
    refine lv_iadd hx hb dL_law_1098 ?_
    refine W.eq (g2 := F0 m 1099 ls [.int (nI (i + 3)), .ref b, .int (xs (i + 2)), .int (xs (i + 1)), .ref mo]) (congrArg (fun z9 : Int32 => F0 m 1099 ls [.int z9, .ref b, .int (xs (i + 2)), .int (xs (i + 1)), .ref mo]) (show ((nI i) + 3 : Int32) = nI (i + 3) from (nI_add i 3))) ?_
    refine va_sld hx hb hXs hbl hbA J.2.2 (vp_in_nI (by omega) (by omega)) dL_law_1099 ?_
    refine W.eq (g2 := F0 m 1100 ls [.int (xs (i + 3)), .int (xs (i + 2)), .int (xs (i + 1)), .ref mo]) (congrArg (fun z9 : Int32 => F0 m 1100 ls [.int z9, .int (xs (i + 2)), .int (xs (i + 1)), .ref mo]) (show (xs (nI (i + 3)).toNatClampNeg : Int32) = xs (i + 3) from (congrArg xs (nI_clamp (by omega))))) ?_
    refine lv_aload_n hx hb dL_law_1100 rfl (lv_at hl 5 rfl) ?_
    refine lv_iload hx hb dL_law_1101 (lv_at hl 1 rfl) ?_
    refine lv_iconst (v := 4) hx hb dL_law_1103 (by decide) ?_
    refine lv_iadd hx hb dL_law_1104 ?_
    refine W.eq (g2 := F0 m 1105 ls [.int (nI (i + 4)), .ref b, .int (xs (i + 3)), .int (xs (i + 2)), .int (xs (i + 1)), .ref mo]) (congrArg (fun z9 : Int32 => F0 m 1105 ls [.int z9, .ref b, .int (xs (i + 3)), .int (xs (i + 2)), .int (xs (i + 1)), .ref mo]) (show ((nI i) + 4 : Int32) = nI (i + 4) from (nI_add i 4))) ?_
    refine va_sld hx hb hXs hbl hbA J.2.2 (vp_in_nI (by omega) (by omega)) dL_law_1105 ?_
    refine W.eq (g2 := F0 m 1106 ls [.int (xs (i + 4)), .int (xs (i + 3)), .int (xs (i + 2)), .int (xs (i + 1)), .ref mo]) (congrArg (fun z9 : Int32 => F0 m 1106 ls [.int z9, .int (xs (i + 3)), .int (xs (i + 2)), .int (xs (i + 1)), .ref mo]) (show (xs (nI (i + 4)).toNatClampNeg : Int32) = xs (i + 4) from (congrArg xs (nI_clamp (by omega))))) ?_
    refine z_ci J (z_rV (As := [.int (xs (i + 1)), .int (xs (i + 2)), .int (xs (i + 3)), .int (xs (i + 4))]) (rest := []) (ci := 8) (q0 := 11) X J (cX7_would_ok l E Fa11 Fa12 Fa13 Fa14 Fa15 Fa16 Fa17 (by first | assumption | omega | decide) (by first | assumption | omega | decide) (by first | assumption | omega | decide) (by first | assumption | omega | decide)) (cwV 4 hts gL_law_X7_would rfl rfl rfl (by decide +kernel) ⟨Nat.le_of_ble_eq_true rfl, Nat.le_of_ble_eq_true rfl⟩) Fa11 rfl rfl rfl hl.1 rfl (Nat.le_of_ble_eq_true rfl) dL_law_1106 ⟨by show _ ≤ 601024; omega, by show _ ≤ 7293034; omega⟩) (fun r1106 ws_2 H locs hp9 J => ?_)
    obtain ⟨k2, ⟨kq_2, tq_2, G2_a0, G2_a1, G2_a2, G2_a3, e_r1106⟩⟩ := hp9
    have hk := hk.trans (k2.mono (by decide))
    have G2_0 := k2.2 0 _ (by decide) Fa0
    have G2_1 := k2.2 1 _ (by decide) Fa1
    have G2_2 := k2.2 2 _ (by decide) Fa2
    have G2_3 := k2.2 3 _ (by decide) Fa3
    have G2_4 := k2.2 4 _ (by decide) Fa4
    have G2_5 := k2.2 5 _ (by decide) Fa5
    have G2_6 := k2.2 6 _ (by decide) Fa6
    have G2_7 := k2.2 7 _ (by decide) Fa7
    have G2_8 := k2.2 8 _ (by decide) Fa8
    have G2_9 := k2.2 9 _ (by decide) Fa9
    have G2_10 := k2.2 10 _ (by decide) Fa10
    have G2_12 := k2.2 12 _ (by decide) Fa12
    have G2_13 := k2.2 13 _ (by decide) Fa13
    have G2_14 := k2.2 14 _ (by decide) Fa14
    have G2_18 := k2.2 18 _ (by decide) Fa18
    refine lv_istore (lv' := [(6, .int r1106), (5, .int (kWould (xs (i + 1)) (xs (i + 2)) (xs (i + 3)) (xs (i + 4)) (nI nr))), (4, .int (nI i)), (3, .ref ou), (2, .ref mo), (1, .ref x), (0, .ref b)]) hx hb dL_law_1109 hl (by decide) rfl (fun ls hl => ?_)
    refine lv_aload_n hx hb dL_law_1111 rfl (lv_at hl 4 rfl) ?_
    refine z_cr (z_rV (As := []) (rest := []) (ci := 8) (q0 := 11) X J (cX7_thrown_ok l E G2_a0) (cwV 0 hts gL_law_X7_thrown rfl rfl rfl (by decide +kernel) ⟨Nat.le_of_ble_eq_true rfl, Nat.le_of_ble_eq_true rfl⟩) G2_a0 rfl rfl rfl hl.1 rfl (Nat.le_of_ble_eq_true rfl) dL_law_1112 ⟨by show _ ≤ 601024; omega, by show _ ≤ 7293034; omega⟩) (fun r1112 e_r1112 => ?_)
    subst e_r1112
    refine lv_iload hx hb dL_law_1115 (lv_at hl 1 rfl) ?_
    refine lv_icmp_eq (tgt := 1122) hx hb dL_law_1117 (by decide) (fun cz1117 => ?_) (fun cz1117 => by exact (cz1117 rfl).elim)
    refine lv_iload hx hb dL_law_1122 (lv_at hl 1 rfl) ?_
    refine lv_if_ne (tgt := 1139) hx hb dL_law_1124 (by decide) (fun cz1124 => ?_) (fun cz1124 => by exact (e_k cz1124).elim)
    refine lv_goto (tgt := 1425) hx hb dL_law_1139 (by decide) ?_
    refine W.widen (k := cells + 700) (n := slots + 4500) (by omega) (by omega) ?_
    exact kk _ H locs _ ⟨fl, rl, wh, gr, gra, tr, tra, sc, ha, va, mf, md, mi, ms9, mk, mt, ea, eb, nf, nr, mc1, mc2, lim, sup, off, plo, hrs, (kWould (xs (i + 1)) (xs (i + 2)) (xs (i + 3)) (xs (i + 4)) (nI nr)), fa, rd, ri, sn, t9, hf, gf, kq_2, tq_2, o9, G2_0, G2_1, G2_2, G2_3, G2_4, G2_5, G2_6, G2_7, G2_8, G2_9, G2_10, G2_a0, G2_12, G2_13, G2_14, G2_a1, G2_a2, G2_a3, G2_18, (hF.keep hk (by decide)), (hR.keep hk (by decide)), hSep, hnf, hnr, hok, hor, hRB, hBI⟩ J (lv_sub hl [2, 3, 4, 5, 6] rfl)
  · subst e_v
    have hk := hk.trans (k1.mono (by decide))
    have G1_0 := k1.2 0 _ (by decide) Fa0
    have G1_1 := k1.2 1 _ (by decide) Fa1
    have G1_2 := k1.2 2 _ (by decide) Fa2
    have G1_3 := k1.2 3 _ (by decide) Fa3
    have G1_4 := k1.2 4 _ (by decide) Fa4
    have G1_5 := k1.2 5 _ (by decide) Fa5
    have G1_6 := k1.2 6 _ (by decide) Fa6
    have G1_8 := k1.2 8 _ (by decide) Fa8
    have G1_11 := k1.2 11 _ (by decide) Fa11
    have G1_12 := k1.2 12 _ (by decide) Fa12
    have G1_13 := k1.2 13 _ (by decide) Fa13
    have G1_14 := k1.2 14 _ (by decide) Fa14
    have G1_15 := k1.2 15 _ (by decide) Fa15
    have G1_16 := k1.2 16 _ (by decide) Fa16
    have G1_17 := k1.2 17 _ (by decide) Fa17
    refine lv_istore (lv' := [(5, .int 0), (4, .int (nI i)), (3, .ref ou), (2, .ref mo), (1, .ref x), (0, .ref b)]) hx hb dL_law_1079 hl (by decide) rfl (fun ls hl => ?_)
    refine lv_aload_n hx hb dL_law_1081 rfl (lv_at hl 3 rfl) ?_
    refine lv_aload_n hx hb dL_law_1082 rfl (lv_at hl 5 rfl) ?_
    refine lv_iload hx hb dL_law_1083 (lv_at hl 1 rfl) ?_
    refine lv_iconst (v := 1) hx hb dL_law_1085 (by decide) ?_
    refine lv_iadd hx hb dL_law_1086 ?_
    refine W.eq (g2 := F0 m 1087 ls [.int (nI (i + 1)), .ref b, .ref mo]) (congrArg (fun z9 : Int32 => F0 m 1087 ls [.int z9, .ref b, .ref mo]) (show ((nI i) + 1 : Int32) = nI (i + 1) from (nI_add i 1))) ?_
    refine va_sld hx hb hXs hbl hbA J.2.2 (vp_in_nI (by omega) (by omega)) dL_law_1087 ?_
    refine W.eq (g2 := F0 m 1088 ls [.int (xs (i + 1)), .ref mo]) (congrArg (fun z9 : Int32 => F0 m 1088 ls [.int z9, .ref mo]) (show (xs (nI (i + 1)).toNatClampNeg : Int32) = xs (i + 1) from (congrArg xs (nI_clamp (by omega))))) ?_
    refine lv_aload_n hx hb dL_law_1088 rfl (lv_at hl 5 rfl) ?_
    refine lv_iload hx hb dL_law_1089 (lv_at hl 1 rfl) ?_
    refine lv_iconst (v := 2) hx hb dL_law_1091 (by decide) ?_
    refine lv_iadd hx hb dL_law_1092 ?_
    refine W.eq (g2 := F0 m 1093 ls [.int (nI (i + 2)), .ref b, .int (xs (i + 1)), .ref mo]) (congrArg (fun z9 : Int32 => F0 m 1093 ls [.int z9, .ref b, .int (xs (i + 1)), .ref mo]) (show ((nI i) + 2 : Int32) = nI (i + 2) from (nI_add i 2))) ?_
    refine va_sld hx hb hXs hbl hbA J.2.2 (vp_in_nI (by omega) (by omega)) dL_law_1093 ?_
    refine W.eq (g2 := F0 m 1094 ls [.int (xs (i + 2)), .int (xs (i + 1)), .ref mo]) (congrArg (fun z9 : Int32 => F0 m 1094 ls [.int z9, .int (xs (i + 1)), .ref mo]) (show (xs (nI (i + 2)).toNatClampNeg : Int32) = xs (i + 2) from (congrArg xs (nI_clamp (by omega))))) ?_
    refine lv_aload_n hx hb dL_law_1094 rfl (lv_at hl 5 rfl) ?_
    refine lv_iload hx hb dL_law_1095 (lv_at hl 1 rfl) ?_
    refine lv_iconst (v := 3) hx hb dL_law_1097 (by decide) ?_
    refine lv_iadd hx hb dL_law_1098 ?_
    refine W.eq (g2 := F0 m 1099 ls [.int (nI (i + 3)), .ref b, .int (xs (i + 2)), .int (xs (i + 1)), .ref mo]) (congrArg (fun z9 : Int32 => F0 m 1099 ls [.int z9, .ref b, .int (xs (i + 2)), .int (xs (i + 1)), .ref mo]) (show ((nI i) + 3 : Int32) = nI (i + 3) from (nI_add i 3))) ?_
    refine va_sld hx hb hXs hbl hbA J.2.2 (vp_in_nI (by omega) (by omega)) dL_law_1099 ?_
    refine W.eq (g2 := F0 m 1100 ls [.int (xs (i + 3)), .int (xs (i + 2)), .int (xs (i + 1)), .ref mo]) (congrArg (fun z9 : Int32 => F0 m 1100 ls [.int z9, .int (xs (i + 2)), .int (xs (i + 1)), .ref mo]) (show (xs (nI (i + 3)).toNatClampNeg : Int32) = xs (i + 3) from (congrArg xs (nI_clamp (by omega))))) ?_
    refine lv_aload_n hx hb dL_law_1100 rfl (lv_at hl 5 rfl) ?_
    refine lv_iload hx hb dL_law_1101 (lv_at hl 1 rfl) ?_
    refine lv_iconst (v := 4) hx hb dL_law_1103 (by decide) ?_
    refine lv_iadd hx hb dL_law_1104 ?_
    refine W.eq (g2 := F0 m 1105 ls [.int (nI (i + 4)), .ref b, .int (xs (i + 3)), .int (xs (i + 2)), .int (xs (i + 1)), .ref mo]) (congrArg (fun z9 : Int32 => F0 m 1105 ls [.int z9, .ref b, .int (xs (i + 3)), .int (xs (i + 2)), .int (xs (i + 1)), .ref mo]) (show ((nI i) + 4 : Int32) = nI (i + 4) from (nI_add i 4))) ?_
    refine va_sld hx hb hXs hbl hbA J.2.2 (vp_in_nI (by omega) (by omega)) dL_law_1105 ?_
    refine W.eq (g2 := F0 m 1106 ls [.int (xs (i + 4)), .int (xs (i + 3)), .int (xs (i + 2)), .int (xs (i + 1)), .ref mo]) (congrArg (fun z9 : Int32 => F0 m 1106 ls [.int z9, .int (xs (i + 3)), .int (xs (i + 2)), .int (xs (i + 1)), .ref mo]) (show (xs (nI (i + 4)).toNatClampNeg : Int32) = xs (i + 4) from (congrArg xs (nI_clamp (by omega))))) ?_
    refine z_ci J (z_rV (As := [.int (xs (i + 1)), .int (xs (i + 2)), .int (xs (i + 3)), .int (xs (i + 4))]) (rest := []) (ci := 8) (q0 := 11) X J (cX7_would_ok l E G1_11 G1_12 G1_13 G1_14 G1_15 G1_16 G1_17 (by first | assumption | omega | decide) (by first | assumption | omega | decide) (by first | assumption | omega | decide) (by first | assumption | omega | decide)) (cwV 4 hts gL_law_X7_would rfl rfl rfl (by decide +kernel) ⟨Nat.le_of_ble_eq_true rfl, Nat.le_of_ble_eq_true rfl⟩) G1_11 rfl rfl rfl hl.1 rfl (Nat.le_of_ble_eq_true rfl) dL_law_1106 ⟨by show _ ≤ 601024; omega, by show _ ≤ 7293034; omega⟩) (fun r1106 ws_2 H locs hp9 J => ?_)
    obtain ⟨k2, ⟨kq_2, tq_2, G2_a0, G2_a1, G2_a2, G2_a3, e_r1106⟩⟩ := hp9
    have hk := hk.trans (k2.mono (by decide))
    have G2_0 := k2.2 0 _ (by decide) G1_0
    have G2_1 := k2.2 1 _ (by decide) G1_1
    have G2_2 := k2.2 2 _ (by decide) G1_2
    have G2_3 := k2.2 3 _ (by decide) G1_3
    have G2_4 := k2.2 4 _ (by decide) G1_4
    have G2_5 := k2.2 5 _ (by decide) G1_5
    have G2_6 := k2.2 6 _ (by decide) G1_6
    have G2_7 := k2.2 7 _ (by decide) G1_a0
    have G2_8 := k2.2 8 _ (by decide) G1_8
    have G2_9 := k2.2 9 _ (by decide) G1_a1
    have G2_10 := k2.2 10 _ (by decide) G1_a2
    have G2_12 := k2.2 12 _ (by decide) G1_12
    have G2_13 := k2.2 13 _ (by decide) G1_13
    have G2_14 := k2.2 14 _ (by decide) G1_14
    have G2_18 := k2.2 18 _ (by decide) G1_a3
    refine W.eq (g2 := F0 m 1109 ls [.int (blkG (hsS (xs (i + 2)) sup (hgS fa (-1) nf).1 (hgS fa (-1) nf).2 (xs (i + 1)) sn (xs (i + 3)).toNatClampNeg).2.1 (rfi (rd (xs (i + 4)).toNatClampNeg) (ri (xs (i + 4)).toNatClampNeg)) (rd (xs (i + 4)).toNatClampNeg) lim 20)]) (congrArg (fun z9 : Int32 => F0 m 1109 ls [.int z9]) (show (r1106 : Int32) = blkG (hsS (xs (i + 2)) sup (hgS fa (-1) nf).1 (hgS fa (-1) nf).2 (xs (i + 1)) sn (xs (i + 3)).toNatClampNeg).2.1 (rfi (rd (xs (i + 4)).toNatClampNeg) (ri (xs (i + 4)).toNatClampNeg)) (rd (xs (i + 4)).toNatClampNeg) lim 20 from (by rw [e_r1106, e_k, sel0]))) ?_
    refine lv_istore (lv' := [(6, .int (blkG (hsS (xs (i + 2)) sup (hgS fa (-1) nf).1 (hgS fa (-1) nf).2 (xs (i + 1)) sn (xs (i + 3)).toNatClampNeg).2.1 (rfi (rd (xs (i + 4)).toNatClampNeg) (ri (xs (i + 4)).toNatClampNeg)) (rd (xs (i + 4)).toNatClampNeg) lim 20)), (5, .int 0), (4, .int (nI i)), (3, .ref ou), (2, .ref mo), (1, .ref x), (0, .ref b)]) hx hb dL_law_1109 hl (by decide) rfl (fun ls hl => ?_)
    refine lv_aload_n hx hb dL_law_1111 rfl (lv_at hl 4 rfl) ?_
    refine z_cr (z_rV (As := []) (rest := []) (ci := 8) (q0 := 11) X J (cX7_thrown_ok l E G2_a0) (cwV 0 hts gL_law_X7_thrown rfl rfl rfl (by decide +kernel) ⟨Nat.le_of_ble_eq_true rfl, Nat.le_of_ble_eq_true rfl⟩) G2_a0 rfl rfl rfl hl.1 rfl (Nat.le_of_ble_eq_true rfl) dL_law_1112 ⟨by show _ ≤ 601024; omega, by show _ ≤ 7293034; omega⟩) (fun r1112 e_r1112 => ?_)
    subst e_r1112
    refine lv_iload hx hb dL_law_1115 (lv_at hl 1 rfl) ?_
    refine lv_icmp_eq (tgt := 1122) hx hb dL_law_1117 (by decide) (fun cz1117 => ?_) (fun cz1117 => by exact (cz1117 e_k).elim)
    refine lv_iload hx hb dL_law_1122 (lv_at hl 1 rfl) ?_
    refine lv_if_ne (tgt := 1139) hx hb dL_law_1124 (by decide) (fun cz1124 => by exact absurd cz1124 (by decide)) (fun cz1124 => ?_)
    refine lv_aload_n hx hb dL_law_1127 rfl (lv_at hl 3 rfl) ?_
    refine lv_iconst (v := 0) hx hb dL_law_1128 (by decide) ?_
    refine z_lald X J 18 G2_18 (vp_in_nI (n := 0) (by decide) (by decide)) dL_law_1129 ?_
    refine W.eq (g2 := F0 m 1130 ls [.long ((blkG (hsS (xs (i + 2)) sup (hgS fa (-1) nf).1 (hgS fa (-1) nf).2 (xs (i + 1)) sn (xs (i + 3)).toNatClampNeg).2.1 (rfi (rd (xs (i + 4)).toNatClampNeg) (ri (xs (i + 4)).toNatClampNeg)) (rd (xs (i + 4)).toNatClampNeg) lim 20).toInt64)]) (congrArg (fun z9 : Int64 => F0 m 1130 ls [.long z9]) (show ((vp_updL o9 0 (blkG (hsS (xs (i + 2)) sup (hgS fa (-1) nf).1 (hgS fa (-1) nf).2 (xs (i + 1)) sn (xs (i + 3)).toNatClampNeg).2.1 (rfi (rd (xs (i + 4)).toNatClampNeg) (ri (xs (i + 4)).toNatClampNeg)) (rd (xs (i + 4)).toNatClampNeg) lim 20).toInt64) (0 : Int32).toNatClampNeg : Int64) = (blkG (hsS (xs (i + 2)) sup (hgS fa (-1) nf).1 (hgS fa (-1) nf).2 (xs (i + 1)) sn (xs (i + 3)).toNatClampNeg).2.1 (rfi (rd (xs (i + 4)).toNatClampNeg) (ri (xs (i + 4)).toNatClampNeg)) (rd (xs (i + 4)).toNatClampNeg) lim 20).toInt64 from rfl)) ?_
    refine lv_iload hx hb dL_law_1130 (lv_at hl 0 rfl) ?_
    refine lv_i2l (v := (blkG (hsS (xs (i + 2)) sup (hgS fa (-1) nf).1 (hgS fa (-1) nf).2 (xs (i + 1)) sn (xs (i + 3)).toNatClampNeg).2.1 (rfi (rd (xs (i + 4)).toNatClampNeg) (ri (xs (i + 4)).toNatClampNeg)) (rd (xs (i + 4)).toNatClampNeg) lim 20).toInt64) hx hb dL_law_1132 rfl ?_
    refine W.lcmp hx hb dL_law_1133 ?_
    refine W.eq (g2 := F0 m 1134 ls [.int 0]) (congrArg (fun z9 : Int32 => F0 m 1134 ls [.int z9]) (show (lg_cmp ((blkG (hsS (xs (i + 2)) sup (hgS fa (-1) nf).1 (hgS fa (-1) nf).2 (xs (i + 1)) sn (xs (i + 3)).toNatClampNeg).2.1 (rfi (rd (xs (i + 4)).toNatClampNeg) (ri (xs (i + 4)).toNatClampNeg)) (rd (xs (i + 4)).toNatClampNeg) lim 20).toInt64) ((blkG (hsS (xs (i + 2)) sup (hgS fa (-1) nf).1 (hgS fa (-1) nf).2 (xs (i + 1)) sn (xs (i + 3)).toNatClampNeg).2.1 (rfi (rd (xs (i + 4)).toNatClampNeg) (ri (xs (i + 4)).toNatClampNeg)) (rd (xs (i + 4)).toNatClampNeg) lim 20).toInt64) : Int32) = 0 from (lg_cmp_self _))) ?_
    refine lv_if_eq (tgt := 1139) hx hb dL_law_1134 (by decide) (fun cz1134 => ?_) (fun cz1134 => by exact absurd cz1134 (by decide))
    refine lv_goto (tgt := 1425) hx hb dL_law_1139 (by decide) ?_
    refine W.widen (k := cells + 700) (n := slots + 4500) (by omega) (by omega) ?_
    exact kk _ H locs _ ⟨fl, rl, wh, gr, gra, tr, tra, sc, ha, va, mf, md, mi, ms9, mk, mt, ea, eb, nf, nr, mc1, mc2, lim, sup, off, plo, hrs, (kWould (xs (i + 1)) (xs (i + 2)) (xs (i + 3)) (xs (i + 4)) (nI nr)), fa, rd, ri, sn, t2_1, h2_1, g2_1, kq_2, tq_2, (vp_updL o9 0 (blkG (hsS (xs (i + 2)) sup (hgS fa (-1) nf).1 (hgS fa (-1) nf).2 (xs (i + 1)) sn (xs (i + 3)).toNatClampNeg).2.1 (rfi (rd (xs (i + 4)).toNatClampNeg) (ri (xs (i + 4)).toNatClampNeg)) (rd (xs (i + 4)).toNatClampNeg) lim 20).toInt64), G2_0, G2_1, G2_2, G2_3, G2_4, G2_5, G2_6, G2_7, G2_8, G2_9, G2_10, G2_a0, G2_12, G2_13, G2_14, G2_a1, G2_a2, G2_a3, G2_18, (hF.keep hk (by decide)), (hR.keep hk (by decide)), hSep, hnf, hnr, hok, hor, hRB, hBI⟩ J (lv_sub hl [2, 3, 4, 5, 6] rfl)
set_option maxHeartbeats 2000000 in
set_option maxRecDepth 100000 in
theorem turn_until {p : Program} {l : Launch} (hflags : l.flags = flags0) {e : Env} {s : State} {m : MethodId} {below : List Frame} {meth : Method} {c : Code} {b L : Nat} {xs : Nat → Int32} (E : zG) (X : zC E p m c cL_law 9 s #[.ref b] wsL_law RL) (hRz : zR s) (hNz : zNc s) (hXs : va_X b L xs s s.heap) (hbl : b < s.heap.size) (hbA : ¬ zA E b) (hE1 : ¬ zA E E.2.2.1) (hL9 : L ≤ 3584) {QQ : State → Prop} {ws : va_W} {x mo ou i cells slots : Nat} {H : Heap} {locs : List Loc} {ls : Array Slot} (hi : i + 7 ≤ L) (hW : LW E ws x mo ou) (J : zJ E ws s H locs) (hl : lv_has ls 9 [(4, .int (nI i)), (3, .ref ou), (2, .ref mo), (1, .ref x), (0, .ref b)]) (hc9 : cells + 700 ≤ 601024) (hs9 : slots + 4500 ≤ 7293034)
    (kk : ∀ (ws' : va_W) (H' : Heap) (locs' : List Loc) (ls' : Array Slot), LW E ws' x mo ou → zJ E ws' s H' locs' → lv_has ls' 9 [(4, .int (nI i)), (3, .ref ou), (2, .ref mo), (1, .ref x), (0, .ref b)] → W p l e room_1 s m #[.ref b] below meth c H' locs' (cells + 700) (slots + 4500) QQ (F0 m 1425 ls' [])) :
    W p l e room_1 s m #[.ref b] below meth c H locs cells slots QQ (F0 m 1142 ls []) := by
  obtain ⟨fl, rl, wh, gr, gra, tr, tra, sc, ha, va, mf, md, mi, ms9, mk, mt, ea, eb, nf, nr, mc1, mc2, lim, sup, off, plo, hrs, th, fa, rd, ri, sn, t9, hf, gf, kp, tp, o9, Fa0, Fa1, Fa2, Fa3, Fa4, Fa5, Fa6, Fa7, Fa8, Fa9, Fa10, Fa11, Fa12, Fa13, Fa14, Fa15, Fa16, Fa17, Fa18, hF, hR, hSep, hnf, hnr, hok, hor, hRB, hBI⟩ := hW
  have hx := X.1.1
  have hb := X.1.2.1
  have hown := X.1.2.2.2.1
  have hts := X.1.2.2.2.2
  have hk : zK [0, 1, 2, 3, 4, 5, 6, 7, 8, 9, 10, 11, 12, 13, 14, 15, 16, 17, 18] ws ws := zK.rf
  have hlen19 := zlt Fa18
  refine lv_aload_n hx hb dL_law_1142 rfl (lv_at hl 3 rfl) ?_
  refine lv_aload_n hx hb dL_law_1143 rfl (lv_at hl 4 rfl) ?_
  refine lv_iload hx hb dL_law_1144 (lv_at hl 0 rfl) ?_
  refine lv_iconst (v := 1) hx hb dL_law_1146 (by decide) ?_
  refine lv_iadd hx hb dL_law_1147 ?_
  refine W.eq (g2 := F0 m 1148 ls [.int (nI (i + 1)), .ref b, .ref x]) (congrArg (fun z9 : Int32 => F0 m 1148 ls [.int z9, .ref b, .ref x]) (show ((nI i) + 1 : Int32) = nI (i + 1) from (nI_add i 1))) ?_
  refine va_sld hx hb hXs hbl hbA J.2.2 (vp_in_nI (by omega) (by omega)) dL_law_1148 ?_
  refine W.eq (g2 := F0 m 1149 ls [.int (xs (i + 1)), .ref x]) (congrArg (fun z9 : Int32 => F0 m 1149 ls [.int z9, .ref x]) (show (xs (nI (i + 1)).toNatClampNeg : Int32) = xs (i + 1) from (congrArg xs (nI_clamp (by omega))))) ?_
  refine lv_aload_n hx hb dL_law_1149 rfl (lv_at hl 4 rfl) ?_
  refine lv_iload hx hb dL_law_1150 (lv_at hl 0 rfl) ?_
  refine lv_iconst (v := 2) hx hb dL_law_1152 (by decide) ?_
  refine lv_iadd hx hb dL_law_1153 ?_
  refine W.eq (g2 := F0 m 1154 ls [.int (nI (i + 2)), .ref b, .int (xs (i + 1)), .ref x]) (congrArg (fun z9 : Int32 => F0 m 1154 ls [.int z9, .ref b, .int (xs (i + 1)), .ref x]) (show ((nI i) + 2 : Int32) = nI (i + 2) from (nI_add i 2))) ?_
  refine va_sld hx hb hXs hbl hbA J.2.2 (vp_in_nI (by omega) (by omega)) dL_law_1154 ?_
  refine W.eq (g2 := F0 m 1155 ls [.int (xs (i + 2)), .int (xs (i + 1)), .ref x]) (congrArg (fun z9 : Int32 => F0 m 1155 ls [.int z9, .int (xs (i + 1)), .ref x]) (show (xs (nI (i + 2)).toNatClampNeg : Int32) = xs (i + 2) from (congrArg xs (nI_clamp (by omega))))) ?_
  refine lv_aload_n hx hb dL_law_1155 rfl (lv_at hl 4 rfl) ?_
  refine lv_iload hx hb dL_law_1156 (lv_at hl 0 rfl) ?_
  refine lv_iconst (v := 3) hx hb dL_law_1158 (by decide) ?_
  refine lv_iadd hx hb dL_law_1159 ?_
  refine W.eq (g2 := F0 m 1160 ls [.int (nI (i + 3)), .ref b, .int (xs (i + 2)), .int (xs (i + 1)), .ref x]) (congrArg (fun z9 : Int32 => F0 m 1160 ls [.int z9, .ref b, .int (xs (i + 2)), .int (xs (i + 1)), .ref x]) (show ((nI i) + 3 : Int32) = nI (i + 3) from (nI_add i 3))) ?_
  refine va_sld hx hb hXs hbl hbA J.2.2 (vp_in_nI (by omega) (by omega)) dL_law_1160 ?_
  refine W.eq (g2 := F0 m 1161 ls [.int (xs (i + 3)), .int (xs (i + 2)), .int (xs (i + 1)), .ref x]) (congrArg (fun z9 : Int32 => F0 m 1161 ls [.int z9, .int (xs (i + 2)), .int (xs (i + 1)), .ref x]) (show (xs (nI (i + 3)).toNatClampNeg : Int32) = xs (i + 3) from (congrArg xs (nI_clamp (by omega))))) ?_
  refine lv_aload_n hx hb dL_law_1161 rfl (lv_at hl 1 rfl) ?_
  refine z_xi J (z_wS (As := [.ref x, .int (xs (i + 1)), .int (xs (i + 2)), .int (xs (i + 3)), .ref ou]) (rest := []) X hRz hNz J (cL_until_ok l hflags E Fa0 Fa1 Fa2 Fa4 Fa5 Fa6 Fa7 Fa8 Fa9 Fa10 Fa18 (by first | assumption | omega | decide) (by first | assumption | omega | decide) (by first | assumption | omega | decide) (by first | assumption | omega | decide) (by first | assumption | omega | decide)) (vx_cwSW (hh := [(0, 12, 15, 15), (0, 12, 19, 13)]) 5 hts gL_law_L_until rfl rfl rfl (by decide +kernel) ⟨Nat.le_of_ble_eq_true rfl, Nat.le_of_ble_eq_true rfl⟩) rfl hl.1 rfl (Nat.le_of_ble_eq_true rfl) dL_law_1162 ⟨by show _ ≤ 601024; omega, by show _ ≤ 7293034; omega⟩) (fun nm ce q9 H locs hp9 J h1 h2 h3 => ?_) (fun r1162 ws_1 H locs hp9 J => ?_)
  · exact False.elim (by exact hp9)
  rcases hp9 with ⟨e_v, e_k, rfl⟩ | ⟨e_v, e_k, k1, ⟨t2_1, h2_1, g2_1, G1_a0, G1_a1, G1_a2, G1_a3⟩⟩
  · subst e_v
    refine lv_istore (lv' := [(5, .int (kUntil (xs (i + 1)) (xs (i + 2)) (xs (i + 3)) (nI nr))), (4, .int (nI i)), (3, .ref ou), (2, .ref mo), (1, .ref x), (0, .ref b)]) hx hb dL_law_1165 hl (by decide) rfl (fun ls hl => ?_)
    refine lv_aload_n hx hb dL_law_1167 rfl (lv_at hl 3 rfl) ?_
    refine lv_aload_n hx hb dL_law_1168 rfl (lv_at hl 5 rfl) ?_
    refine lv_iload hx hb dL_law_1169 (lv_at hl 1 rfl) ?_
    refine lv_iconst (v := 1) hx hb dL_law_1171 (by decide) ?_
    refine lv_iadd hx hb dL_law_1172 ?_
    refine W.eq (g2 := F0 m 1173 ls [.int (nI (i + 1)), .ref b, .ref mo]) (congrArg (fun z9 : Int32 => F0 m 1173 ls [.int z9, .ref b, .ref mo]) (show ((nI i) + 1 : Int32) = nI (i + 1) from (nI_add i 1))) ?_
    refine va_sld hx hb hXs hbl hbA J.2.2 (vp_in_nI (by omega) (by omega)) dL_law_1173 ?_
    refine W.eq (g2 := F0 m 1174 ls [.int (xs (i + 1)), .ref mo]) (congrArg (fun z9 : Int32 => F0 m 1174 ls [.int z9, .ref mo]) (show (xs (nI (i + 1)).toNatClampNeg : Int32) = xs (i + 1) from (congrArg xs (nI_clamp (by omega))))) ?_
    refine lv_aload_n hx hb dL_law_1174 rfl (lv_at hl 5 rfl) ?_
    refine lv_iload hx hb dL_law_1175 (lv_at hl 1 rfl) ?_
    refine lv_iconst (v := 2) hx hb dL_law_1177 (by decide) ?_
    refine lv_iadd hx hb dL_law_1178 ?_
    refine W.eq (g2 := F0 m 1179 ls [.int (nI (i + 2)), .ref b, .int (xs (i + 1)), .ref mo]) (congrArg (fun z9 : Int32 => F0 m 1179 ls [.int z9, .ref b, .int (xs (i + 1)), .ref mo]) (show ((nI i) + 2 : Int32) = nI (i + 2) from (nI_add i 2))) ?_
    refine va_sld hx hb hXs hbl hbA J.2.2 (vp_in_nI (by omega) (by omega)) dL_law_1179 ?_
    refine W.eq (g2 := F0 m 1180 ls [.int (xs (i + 2)), .int (xs (i + 1)), .ref mo]) (congrArg (fun z9 : Int32 => F0 m 1180 ls [.int z9, .int (xs (i + 1)), .ref mo]) (show (xs (nI (i + 2)).toNatClampNeg : Int32) = xs (i + 2) from (congrArg xs (nI_clamp (by omega))))) ?_
    refine lv_aload_n hx hb dL_law_1180 rfl (lv_at hl 5 rfl) ?_
    refine lv_iload hx hb dL_law_1181 (lv_at hl 1 rfl) ?_
    refine lv_iconst (v := 3) hx hb dL_law_1183 (by decide) ?_
    refine lv_iadd hx hb dL_law_1184 ?_
    refine W.eq (g2 := F0 m 1185 ls [.int (nI (i + 3)), .ref b, .int (xs (i + 2)), .int (xs (i + 1)), .ref mo]) (congrArg (fun z9 : Int32 => F0 m 1185 ls [.int z9, .ref b, .int (xs (i + 2)), .int (xs (i + 1)), .ref mo]) (show ((nI i) + 3 : Int32) = nI (i + 3) from (nI_add i 3))) ?_
    refine va_sld hx hb hXs hbl hbA J.2.2 (vp_in_nI (by omega) (by omega)) dL_law_1185 ?_
    refine W.eq (g2 := F0 m 1186 ls [.int (xs (i + 3)), .int (xs (i + 2)), .int (xs (i + 1)), .ref mo]) (congrArg (fun z9 : Int32 => F0 m 1186 ls [.int z9, .int (xs (i + 2)), .int (xs (i + 1)), .ref mo]) (show (xs (nI (i + 3)).toNatClampNeg : Int32) = xs (i + 3) from (congrArg xs (nI_clamp (by omega))))) ?_
    refine z_ci J (z_rV (As := [.int (xs (i + 1)), .int (xs (i + 2)), .int (xs (i + 3))]) (rest := []) (ci := 8) (q0 := 11) X J (cX7_until_ok l E Fa11 Fa12 Fa13 Fa14 Fa15 Fa16 Fa17 (by first | assumption | omega | decide) (by first | assumption | omega | decide) (by first | assumption | omega | decide) (by first | assumption | omega | decide)) (cwV 3 hts gL_law_X7_until rfl rfl rfl (by decide +kernel) ⟨Nat.le_of_ble_eq_true rfl, Nat.le_of_ble_eq_true rfl⟩) Fa11 rfl rfl rfl hl.1 rfl (Nat.le_of_ble_eq_true rfl) dL_law_1186 ⟨by show _ ≤ 601024; omega, by show _ ≤ 7293034; omega⟩) (fun r1186 ws_2 H locs hp9 J => ?_)
    obtain ⟨k2, ⟨kq_2, tq_2, G2_a0, G2_a1, G2_a2, G2_a3, e_r1186⟩⟩ := hp9
    have hk := hk.trans (k2.mono (by decide))
    have G2_0 := k2.2 0 _ (by decide) Fa0
    have G2_1 := k2.2 1 _ (by decide) Fa1
    have G2_2 := k2.2 2 _ (by decide) Fa2
    have G2_3 := k2.2 3 _ (by decide) Fa3
    have G2_4 := k2.2 4 _ (by decide) Fa4
    have G2_5 := k2.2 5 _ (by decide) Fa5
    have G2_6 := k2.2 6 _ (by decide) Fa6
    have G2_7 := k2.2 7 _ (by decide) Fa7
    have G2_8 := k2.2 8 _ (by decide) Fa8
    have G2_9 := k2.2 9 _ (by decide) Fa9
    have G2_10 := k2.2 10 _ (by decide) Fa10
    have G2_12 := k2.2 12 _ (by decide) Fa12
    have G2_13 := k2.2 13 _ (by decide) Fa13
    have G2_14 := k2.2 14 _ (by decide) Fa14
    have G2_18 := k2.2 18 _ (by decide) Fa18
    refine lv_istore (lv' := [(6, .int r1186), (5, .int (kUntil (xs (i + 1)) (xs (i + 2)) (xs (i + 3)) (nI nr))), (4, .int (nI i)), (3, .ref ou), (2, .ref mo), (1, .ref x), (0, .ref b)]) hx hb dL_law_1189 hl (by decide) rfl (fun ls hl => ?_)
    refine lv_aload_n hx hb dL_law_1191 rfl (lv_at hl 4 rfl) ?_
    refine z_cr (z_rV (As := []) (rest := []) (ci := 8) (q0 := 11) X J (cX7_thrown_ok l E G2_a0) (cwV 0 hts gL_law_X7_thrown rfl rfl rfl (by decide +kernel) ⟨Nat.le_of_ble_eq_true rfl, Nat.le_of_ble_eq_true rfl⟩) G2_a0 rfl rfl rfl hl.1 rfl (Nat.le_of_ble_eq_true rfl) dL_law_1192 ⟨by show _ ≤ 601024; omega, by show _ ≤ 7293034; omega⟩) (fun r1192 e_r1192 => ?_)
    subst e_r1192
    refine lv_iload hx hb dL_law_1195 (lv_at hl 1 rfl) ?_
    refine lv_icmp_eq (tgt := 1202) hx hb dL_law_1197 (by decide) (fun cz1197 => ?_) (fun cz1197 => by exact (cz1197 rfl).elim)
    refine lv_iload hx hb dL_law_1202 (lv_at hl 1 rfl) ?_
    refine lv_if_ne (tgt := 1219) hx hb dL_law_1204 (by decide) (fun cz1204 => ?_) (fun cz1204 => by exact (e_k cz1204).elim)
    refine lv_goto (tgt := 1425) hx hb dL_law_1219 (by decide) ?_
    refine W.widen (k := cells + 700) (n := slots + 4500) (by omega) (by omega) ?_
    exact kk _ H locs _ ⟨fl, rl, wh, gr, gra, tr, tra, sc, ha, va, mf, md, mi, ms9, mk, mt, ea, eb, nf, nr, mc1, mc2, lim, sup, off, plo, hrs, (kUntil (xs (i + 1)) (xs (i + 2)) (xs (i + 3)) (nI nr)), fa, rd, ri, sn, t9, hf, gf, kq_2, tq_2, o9, G2_0, G2_1, G2_2, G2_3, G2_4, G2_5, G2_6, G2_7, G2_8, G2_9, G2_10, G2_a0, G2_12, G2_13, G2_14, G2_a1, G2_a2, G2_a3, G2_18, (hF.keep hk (by decide)), (hR.keep hk (by decide)), hSep, hnf, hnr, hok, hor, hRB, hBI⟩ J (lv_sub hl [2, 3, 4, 5, 6] rfl)
  · subst e_v
    have hk := hk.trans (k1.mono (by decide))
    have G1_0 := k1.2 0 _ (by decide) Fa0
    have G1_1 := k1.2 1 _ (by decide) Fa1
    have G1_2 := k1.2 2 _ (by decide) Fa2
    have G1_3 := k1.2 3 _ (by decide) Fa3
    have G1_4 := k1.2 4 _ (by decide) Fa4
    have G1_5 := k1.2 5 _ (by decide) Fa5
    have G1_6 := k1.2 6 _ (by decide) Fa6
    have G1_8 := k1.2 8 _ (by decide) Fa8
    have G1_11 := k1.2 11 _ (by decide) Fa11
    have G1_12 := k1.2 12 _ (by decide) Fa12
    have G1_13 := k1.2 13 _ (by decide) Fa13
    have G1_14 := k1.2 14 _ (by decide) Fa14
    have G1_15 := k1.2 15 _ (by decide) Fa15
    have G1_16 := k1.2 16 _ (by decide) Fa16
    have G1_17 := k1.2 17 _ (by decide) Fa17
    refine lv_istore (lv' := [(5, .int 0), (4, .int (nI i)), (3, .ref ou), (2, .ref mo), (1, .ref x), (0, .ref b)]) hx hb dL_law_1165 hl (by decide) rfl (fun ls hl => ?_)
    refine lv_aload_n hx hb dL_law_1167 rfl (lv_at hl 3 rfl) ?_
    refine lv_aload_n hx hb dL_law_1168 rfl (lv_at hl 5 rfl) ?_
    refine lv_iload hx hb dL_law_1169 (lv_at hl 1 rfl) ?_
    refine lv_iconst (v := 1) hx hb dL_law_1171 (by decide) ?_
    refine lv_iadd hx hb dL_law_1172 ?_
    refine W.eq (g2 := F0 m 1173 ls [.int (nI (i + 1)), .ref b, .ref mo]) (congrArg (fun z9 : Int32 => F0 m 1173 ls [.int z9, .ref b, .ref mo]) (show ((nI i) + 1 : Int32) = nI (i + 1) from (nI_add i 1))) ?_
    refine va_sld hx hb hXs hbl hbA J.2.2 (vp_in_nI (by omega) (by omega)) dL_law_1173 ?_
    refine W.eq (g2 := F0 m 1174 ls [.int (xs (i + 1)), .ref mo]) (congrArg (fun z9 : Int32 => F0 m 1174 ls [.int z9, .ref mo]) (show (xs (nI (i + 1)).toNatClampNeg : Int32) = xs (i + 1) from (congrArg xs (nI_clamp (by omega))))) ?_
    refine lv_aload_n hx hb dL_law_1174 rfl (lv_at hl 5 rfl) ?_
    refine lv_iload hx hb dL_law_1175 (lv_at hl 1 rfl) ?_
    refine lv_iconst (v := 2) hx hb dL_law_1177 (by decide) ?_
    refine lv_iadd hx hb dL_law_1178 ?_
    refine W.eq (g2 := F0 m 1179 ls [.int (nI (i + 2)), .ref b, .int (xs (i + 1)), .ref mo]) (congrArg (fun z9 : Int32 => F0 m 1179 ls [.int z9, .ref b, .int (xs (i + 1)), .ref mo]) (show ((nI i) + 2 : Int32) = nI (i + 2) from (nI_add i 2))) ?_
    refine va_sld hx hb hXs hbl hbA J.2.2 (vp_in_nI (by omega) (by omega)) dL_law_1179 ?_
    refine W.eq (g2 := F0 m 1180 ls [.int (xs (i + 2)), .int (xs (i + 1)), .ref mo]) (congrArg (fun z9 : Int32 => F0 m 1180 ls [.int z9, .int (xs (i + 1)), .ref mo]) (show (xs (nI (i + 2)).toNatClampNeg : Int32) = xs (i + 2) from (congrArg xs (nI_clamp (by omega))))) ?_
    refine lv_aload_n hx hb dL_law_1180 rfl (lv_at hl 5 rfl) ?_
    refine lv_iload hx hb dL_law_1181 (lv_at hl 1 rfl) ?_
    refine lv_iconst (v := 3) hx hb dL_law_1183 (by decide) ?_
    refine lv_iadd hx hb dL_law_1184 ?_
    refine W.eq (g2 := F0 m 1185 ls [.int (nI (i + 3)), .ref b, .int (xs (i + 2)), .int (xs (i + 1)), .ref mo]) (congrArg (fun z9 : Int32 => F0 m 1185 ls [.int z9, .ref b, .int (xs (i + 2)), .int (xs (i + 1)), .ref mo]) (show ((nI i) + 3 : Int32) = nI (i + 3) from (nI_add i 3))) ?_
    refine va_sld hx hb hXs hbl hbA J.2.2 (vp_in_nI (by omega) (by omega)) dL_law_1185 ?_
    refine W.eq (g2 := F0 m 1186 ls [.int (xs (i + 3)), .int (xs (i + 2)), .int (xs (i + 1)), .ref mo]) (congrArg (fun z9 : Int32 => F0 m 1186 ls [.int z9, .int (xs (i + 2)), .int (xs (i + 1)), .ref mo]) (show (xs (nI (i + 3)).toNatClampNeg : Int32) = xs (i + 3) from (congrArg xs (nI_clamp (by omega))))) ?_
    refine z_ci J (z_rV (As := [.int (xs (i + 1)), .int (xs (i + 2)), .int (xs (i + 3))]) (rest := []) (ci := 8) (q0 := 11) X J (cX7_until_ok l E G1_11 G1_12 G1_13 G1_14 G1_15 G1_16 G1_17 (by first | assumption | omega | decide) (by first | assumption | omega | decide) (by first | assumption | omega | decide) (by first | assumption | omega | decide)) (cwV 3 hts gL_law_X7_until rfl rfl rfl (by decide +kernel) ⟨Nat.le_of_ble_eq_true rfl, Nat.le_of_ble_eq_true rfl⟩) G1_11 rfl rfl rfl hl.1 rfl (Nat.le_of_ble_eq_true rfl) dL_law_1186 ⟨by show _ ≤ 601024; omega, by show _ ≤ 7293034; omega⟩) (fun r1186 ws_2 H locs hp9 J => ?_)
    obtain ⟨k2, ⟨kq_2, tq_2, G2_a0, G2_a1, G2_a2, G2_a3, e_r1186⟩⟩ := hp9
    have hk := hk.trans (k2.mono (by decide))
    have G2_0 := k2.2 0 _ (by decide) G1_0
    have G2_1 := k2.2 1 _ (by decide) G1_1
    have G2_2 := k2.2 2 _ (by decide) G1_2
    have G2_3 := k2.2 3 _ (by decide) G1_3
    have G2_4 := k2.2 4 _ (by decide) G1_4
    have G2_5 := k2.2 5 _ (by decide) G1_5
    have G2_6 := k2.2 6 _ (by decide) G1_6
    have G2_7 := k2.2 7 _ (by decide) G1_a0
    have G2_8 := k2.2 8 _ (by decide) G1_8
    have G2_9 := k2.2 9 _ (by decide) G1_a1
    have G2_10 := k2.2 10 _ (by decide) G1_a2
    have G2_12 := k2.2 12 _ (by decide) G1_12
    have G2_13 := k2.2 13 _ (by decide) G1_13
    have G2_14 := k2.2 14 _ (by decide) G1_14
    have G2_18 := k2.2 18 _ (by decide) G1_a3
    refine W.eq (g2 := F0 m 1189 ls [.int (untF (untB (xs (i + 2)) sup (hgS fa (-1) nf).1 (hgS fa (-1) nf).2 (xs (i + 1)) sn rd ri lim (xs (i + 3)).toNatClampNeg) 49 0)]) (congrArg (fun z9 : Int32 => F0 m 1189 ls [.int z9]) (show (r1186 : Int32) = untF (untB (xs (i + 2)) sup (hgS fa (-1) nf).1 (hgS fa (-1) nf).2 (xs (i + 1)) sn rd ri lim (xs (i + 3)).toNatClampNeg) 49 0 from (by rw [e_r1186, e_k, sel0]))) ?_
    refine lv_istore (lv' := [(6, .int (untF (untB (xs (i + 2)) sup (hgS fa (-1) nf).1 (hgS fa (-1) nf).2 (xs (i + 1)) sn rd ri lim (xs (i + 3)).toNatClampNeg) 49 0)), (5, .int 0), (4, .int (nI i)), (3, .ref ou), (2, .ref mo), (1, .ref x), (0, .ref b)]) hx hb dL_law_1189 hl (by decide) rfl (fun ls hl => ?_)
    refine lv_aload_n hx hb dL_law_1191 rfl (lv_at hl 4 rfl) ?_
    refine z_cr (z_rV (As := []) (rest := []) (ci := 8) (q0 := 11) X J (cX7_thrown_ok l E G2_a0) (cwV 0 hts gL_law_X7_thrown rfl rfl rfl (by decide +kernel) ⟨Nat.le_of_ble_eq_true rfl, Nat.le_of_ble_eq_true rfl⟩) G2_a0 rfl rfl rfl hl.1 rfl (Nat.le_of_ble_eq_true rfl) dL_law_1192 ⟨by show _ ≤ 601024; omega, by show _ ≤ 7293034; omega⟩) (fun r1192 e_r1192 => ?_)
    subst e_r1192
    refine lv_iload hx hb dL_law_1195 (lv_at hl 1 rfl) ?_
    refine lv_icmp_eq (tgt := 1202) hx hb dL_law_1197 (by decide) (fun cz1197 => ?_) (fun cz1197 => by exact (cz1197 e_k).elim)
    refine lv_iload hx hb dL_law_1202 (lv_at hl 1 rfl) ?_
    refine lv_if_ne (tgt := 1219) hx hb dL_law_1204 (by decide) (fun cz1204 => by exact absurd cz1204 (by decide)) (fun cz1204 => ?_)
    refine lv_aload_n hx hb dL_law_1207 rfl (lv_at hl 3 rfl) ?_
    refine lv_iconst (v := 0) hx hb dL_law_1208 (by decide) ?_
    refine z_lald X J 18 G2_18 (vp_in_nI (n := 0) (by decide) (by decide)) dL_law_1209 ?_
    refine W.eq (g2 := F0 m 1210 ls [.long ((untF (untB (xs (i + 2)) sup (hgS fa (-1) nf).1 (hgS fa (-1) nf).2 (xs (i + 1)) sn rd ri lim (xs (i + 3)).toNatClampNeg) 49 0).toInt64)]) (congrArg (fun z9 : Int64 => F0 m 1210 ls [.long z9]) (show ((vp_updL o9 0 (untF (untB (xs (i + 2)) sup (hgS fa (-1) nf).1 (hgS fa (-1) nf).2 (xs (i + 1)) sn rd ri lim (xs (i + 3)).toNatClampNeg) 49 0).toInt64) (0 : Int32).toNatClampNeg : Int64) = (untF (untB (xs (i + 2)) sup (hgS fa (-1) nf).1 (hgS fa (-1) nf).2 (xs (i + 1)) sn rd ri lim (xs (i + 3)).toNatClampNeg) 49 0).toInt64 from rfl)) ?_
    refine lv_iload hx hb dL_law_1210 (lv_at hl 0 rfl) ?_
    refine lv_i2l (v := (untF (untB (xs (i + 2)) sup (hgS fa (-1) nf).1 (hgS fa (-1) nf).2 (xs (i + 1)) sn rd ri lim (xs (i + 3)).toNatClampNeg) 49 0).toInt64) hx hb dL_law_1212 rfl ?_
    refine W.lcmp hx hb dL_law_1213 ?_
    refine W.eq (g2 := F0 m 1214 ls [.int 0]) (congrArg (fun z9 : Int32 => F0 m 1214 ls [.int z9]) (show (lg_cmp ((untF (untB (xs (i + 2)) sup (hgS fa (-1) nf).1 (hgS fa (-1) nf).2 (xs (i + 1)) sn rd ri lim (xs (i + 3)).toNatClampNeg) 49 0).toInt64) ((untF (untB (xs (i + 2)) sup (hgS fa (-1) nf).1 (hgS fa (-1) nf).2 (xs (i + 1)) sn rd ri lim (xs (i + 3)).toNatClampNeg) 49 0).toInt64) : Int32) = 0 from (lg_cmp_self _))) ?_
    refine lv_if_eq (tgt := 1219) hx hb dL_law_1214 (by decide) (fun cz1214 => ?_) (fun cz1214 => by exact absurd cz1214 (by decide))
    refine lv_goto (tgt := 1425) hx hb dL_law_1219 (by decide) ?_
    refine W.widen (k := cells + 700) (n := slots + 4500) (by omega) (by omega) ?_
    exact kk _ H locs _ ⟨fl, rl, wh, gr, gra, tr, tra, sc, ha, va, mf, md, mi, ms9, mk, mt, ea, eb, nf, nr, mc1, mc2, lim, sup, off, plo, hrs, (kUntil (xs (i + 1)) (xs (i + 2)) (xs (i + 3)) (nI nr)), fa, rd, ri, sn, t2_1, h2_1, g2_1, kq_2, tq_2, (vp_updL o9 0 (untF (untB (xs (i + 2)) sup (hgS fa (-1) nf).1 (hgS fa (-1) nf).2 (xs (i + 1)) sn rd ri lim (xs (i + 3)).toNatClampNeg) 49 0).toInt64), G2_0, G2_1, G2_2, G2_3, G2_4, G2_5, G2_6, G2_7, G2_8, G2_9, G2_10, G2_a0, G2_12, G2_13, G2_14, G2_a1, G2_a2, G2_a3, G2_18, (hF.keep hk (by decide)), (hR.keep hk (by decide)), hSep, hnf, hnr, hok, hor, hRB, hBI⟩ J (lv_sub hl [2, 3, 4, 5, 6] rfl)
set_option maxHeartbeats 2000000 in
set_option maxRecDepth 100000 in
theorem turn_advise {p : Program} {l : Launch} (hflags : l.flags = flags0) {e : Env} {s : State} {m : MethodId} {below : List Frame} {meth : Method} {c : Code} {b L : Nat} {xs : Nat → Int32} (E : zG) (X : zC E p m c cL_law 9 s #[.ref b] wsL_law RL) (hRz : zR s) (hNz : zNc s) (hXs : va_X b L xs s s.heap) (hbl : b < s.heap.size) (hbA : ¬ zA E b) (hE1 : ¬ zA E E.2.2.1) (hL9 : L ≤ 3584) {QQ : State → Prop} {ws : va_W} {x mo ou i cells slots : Nat} {H : Heap} {locs : List Loc} {ls : Array Slot} (hi : i + 7 ≤ L) (hW : LW E ws x mo ou) (J : zJ E ws s H locs) (hl : lv_has ls 9 [(4, .int (nI i)), (3, .ref ou), (2, .ref mo), (1, .ref x), (0, .ref b)]) (hc9 : cells + 700 ≤ 601024) (hs9 : slots + 4500 ≤ 7293034)
    (kk : ∀ (ws' : va_W) (H' : Heap) (locs' : List Loc) (ls' : Array Slot), LW E ws' x mo ou → zJ E ws' s H' locs' → lv_has ls' 9 [(4, .int (nI i)), (3, .ref ou), (2, .ref mo), (1, .ref x), (0, .ref b)] → W p l e room_1 s m #[.ref b] below meth c H' locs' (cells + 700) (slots + 4500) QQ (F0 m 1425 ls' [])) :
    W p l e room_1 s m #[.ref b] below meth c H locs cells slots QQ (F0 m 1222 ls []) := by
  obtain ⟨fl, rl, wh, gr, gra, tr, tra, sc, ha, va, mf, md, mi, ms9, mk, mt, ea, eb, nf, nr, mc1, mc2, lim, sup, off, plo, hrs, th, fa, rd, ri, sn, t9, hf, gf, kp, tp, o9, Fa0, Fa1, Fa2, Fa3, Fa4, Fa5, Fa6, Fa7, Fa8, Fa9, Fa10, Fa11, Fa12, Fa13, Fa14, Fa15, Fa16, Fa17, Fa18, hF, hR, hSep, hnf, hnr, hok, hor, hRB, hBI⟩ := hW
  have hx := X.1.1
  have hb := X.1.2.1
  have hown := X.1.2.2.2.1
  have hts := X.1.2.2.2.2
  have hk : zK [0, 1, 2, 3, 4, 5, 6, 7, 8, 9, 10, 11, 12, 13, 14, 15, 16, 17, 18] ws ws := zK.rf
  have hlen19 := zlt Fa18
  refine lv_aload_n hx hb dL_law_1222 rfl (lv_at hl 3 rfl) ?_
  refine lv_aload_n hx hb dL_law_1223 rfl (lv_at hl 4 rfl) ?_
  refine lv_iload hx hb dL_law_1224 (lv_at hl 0 rfl) ?_
  refine lv_iconst (v := 1) hx hb dL_law_1226 (by decide) ?_
  refine lv_iadd hx hb dL_law_1227 ?_
  refine W.eq (g2 := F0 m 1228 ls [.int (nI (i + 1)), .ref b, .ref x]) (congrArg (fun z9 : Int32 => F0 m 1228 ls [.int z9, .ref b, .ref x]) (show ((nI i) + 1 : Int32) = nI (i + 1) from (nI_add i 1))) ?_
  refine va_sld hx hb hXs hbl hbA J.2.2 (vp_in_nI (by omega) (by omega)) dL_law_1228 ?_
  refine W.eq (g2 := F0 m 1229 ls [.int (xs (i + 1)), .ref x]) (congrArg (fun z9 : Int32 => F0 m 1229 ls [.int z9, .ref x]) (show (xs (nI (i + 1)).toNatClampNeg : Int32) = xs (i + 1) from (congrArg xs (nI_clamp (by omega))))) ?_
  refine lv_aload_n hx hb dL_law_1229 rfl (lv_at hl 4 rfl) ?_
  refine lv_iload hx hb dL_law_1230 (lv_at hl 0 rfl) ?_
  refine lv_iconst (v := 2) hx hb dL_law_1232 (by decide) ?_
  refine lv_iadd hx hb dL_law_1233 ?_
  refine W.eq (g2 := F0 m 1234 ls [.int (nI (i + 2)), .ref b, .int (xs (i + 1)), .ref x]) (congrArg (fun z9 : Int32 => F0 m 1234 ls [.int z9, .ref b, .int (xs (i + 1)), .ref x]) (show ((nI i) + 2 : Int32) = nI (i + 2) from (nI_add i 2))) ?_
  refine va_sld hx hb hXs hbl hbA J.2.2 (vp_in_nI (by omega) (by omega)) dL_law_1234 ?_
  refine W.eq (g2 := F0 m 1235 ls [.int (xs (i + 2)), .int (xs (i + 1)), .ref x]) (congrArg (fun z9 : Int32 => F0 m 1235 ls [.int z9, .int (xs (i + 1)), .ref x]) (show (xs (nI (i + 2)).toNatClampNeg : Int32) = xs (i + 2) from (congrArg xs (nI_clamp (by omega))))) ?_
  refine lv_aload_n hx hb dL_law_1235 rfl (lv_at hl 4 rfl) ?_
  refine lv_iload hx hb dL_law_1236 (lv_at hl 0 rfl) ?_
  refine lv_iconst (v := 3) hx hb dL_law_1238 (by decide) ?_
  refine lv_iadd hx hb dL_law_1239 ?_
  refine W.eq (g2 := F0 m 1240 ls [.int (nI (i + 3)), .ref b, .int (xs (i + 2)), .int (xs (i + 1)), .ref x]) (congrArg (fun z9 : Int32 => F0 m 1240 ls [.int z9, .ref b, .int (xs (i + 2)), .int (xs (i + 1)), .ref x]) (show ((nI i) + 3 : Int32) = nI (i + 3) from (nI_add i 3))) ?_
  refine va_sld hx hb hXs hbl hbA J.2.2 (vp_in_nI (by omega) (by omega)) dL_law_1240 ?_
  refine W.eq (g2 := F0 m 1241 ls [.int (xs (i + 3)), .int (xs (i + 2)), .int (xs (i + 1)), .ref x]) (congrArg (fun z9 : Int32 => F0 m 1241 ls [.int z9, .int (xs (i + 2)), .int (xs (i + 1)), .ref x]) (show (xs (nI (i + 3)).toNatClampNeg : Int32) = xs (i + 3) from (congrArg xs (nI_clamp (by omega))))) ?_
  refine lv_aload_n hx hb dL_law_1241 rfl (lv_at hl 1 rfl) ?_
  refine z_xi J (z_wS (As := [.ref x, .int (xs (i + 1)), .int (xs (i + 2)), .int (xs (i + 3)), .ref ou]) (rest := []) X hRz hNz J (cL_advise_ok l hflags E Fa0 Fa1 Fa2 Fa4 Fa5 Fa6 Fa7 Fa8 Fa9 Fa10 Fa18 (by first | assumption | omega | decide) (by first | assumption | omega | decide) (by first | assumption | omega | decide) (by first | assumption | omega | decide) (by first | assumption | omega | decide)) (vx_cwSW (hh := [(0, 12, 15, 15), (0, 12, 19, 13)]) 5 hts gL_law_L_advise rfl rfl rfl (by decide +kernel) ⟨Nat.le_of_ble_eq_true rfl, Nat.le_of_ble_eq_true rfl⟩) rfl hl.1 rfl (Nat.le_of_ble_eq_true rfl) dL_law_1242 ⟨by show _ ≤ 601024; omega, by show _ ≤ 7293034; omega⟩) (fun nm ce q9 H locs hp9 J h1 h2 h3 => ?_) (fun r1242 ws_1 H locs hp9 J => ?_)
  · exact False.elim (by exact hp9)
  rcases hp9 with ⟨e_v, e_k, rfl⟩ | ⟨e_v, e_k, k1, ⟨t2_1, h2_1, g2_1, G1_a0, G1_a1, G1_a2, G1_a3⟩⟩
  · subst e_v
    refine lv_istore (lv' := [(5, .int (kAdvise (xs (i + 1)) (xs (i + 2)) (xs (i + 3)))), (4, .int (nI i)), (3, .ref ou), (2, .ref mo), (1, .ref x), (0, .ref b)]) hx hb dL_law_1245 hl (by decide) rfl (fun ls hl => ?_)
    refine lv_aload_n hx hb dL_law_1247 rfl (lv_at hl 3 rfl) ?_
    refine lv_aload_n hx hb dL_law_1248 rfl (lv_at hl 5 rfl) ?_
    refine lv_iload hx hb dL_law_1249 (lv_at hl 1 rfl) ?_
    refine lv_iconst (v := 1) hx hb dL_law_1251 (by decide) ?_
    refine lv_iadd hx hb dL_law_1252 ?_
    refine W.eq (g2 := F0 m 1253 ls [.int (nI (i + 1)), .ref b, .ref mo]) (congrArg (fun z9 : Int32 => F0 m 1253 ls [.int z9, .ref b, .ref mo]) (show ((nI i) + 1 : Int32) = nI (i + 1) from (nI_add i 1))) ?_
    refine va_sld hx hb hXs hbl hbA J.2.2 (vp_in_nI (by omega) (by omega)) dL_law_1253 ?_
    refine W.eq (g2 := F0 m 1254 ls [.int (xs (i + 1)), .ref mo]) (congrArg (fun z9 : Int32 => F0 m 1254 ls [.int z9, .ref mo]) (show (xs (nI (i + 1)).toNatClampNeg : Int32) = xs (i + 1) from (congrArg xs (nI_clamp (by omega))))) ?_
    refine lv_aload_n hx hb dL_law_1254 rfl (lv_at hl 5 rfl) ?_
    refine lv_iload hx hb dL_law_1255 (lv_at hl 1 rfl) ?_
    refine lv_iconst (v := 2) hx hb dL_law_1257 (by decide) ?_
    refine lv_iadd hx hb dL_law_1258 ?_
    refine W.eq (g2 := F0 m 1259 ls [.int (nI (i + 2)), .ref b, .int (xs (i + 1)), .ref mo]) (congrArg (fun z9 : Int32 => F0 m 1259 ls [.int z9, .ref b, .int (xs (i + 1)), .ref mo]) (show ((nI i) + 2 : Int32) = nI (i + 2) from (nI_add i 2))) ?_
    refine va_sld hx hb hXs hbl hbA J.2.2 (vp_in_nI (by omega) (by omega)) dL_law_1259 ?_
    refine W.eq (g2 := F0 m 1260 ls [.int (xs (i + 2)), .int (xs (i + 1)), .ref mo]) (congrArg (fun z9 : Int32 => F0 m 1260 ls [.int z9, .int (xs (i + 1)), .ref mo]) (show (xs (nI (i + 2)).toNatClampNeg : Int32) = xs (i + 2) from (congrArg xs (nI_clamp (by omega))))) ?_
    refine lv_aload_n hx hb dL_law_1260 rfl (lv_at hl 5 rfl) ?_
    refine lv_iload hx hb dL_law_1261 (lv_at hl 1 rfl) ?_
    refine lv_iconst (v := 3) hx hb dL_law_1263 (by decide) ?_
    refine lv_iadd hx hb dL_law_1264 ?_
    refine W.eq (g2 := F0 m 1265 ls [.int (nI (i + 3)), .ref b, .int (xs (i + 2)), .int (xs (i + 1)), .ref mo]) (congrArg (fun z9 : Int32 => F0 m 1265 ls [.int z9, .ref b, .int (xs (i + 2)), .int (xs (i + 1)), .ref mo]) (show ((nI i) + 3 : Int32) = nI (i + 3) from (nI_add i 3))) ?_
    refine va_sld hx hb hXs hbl hbA J.2.2 (vp_in_nI (by omega) (by omega)) dL_law_1265 ?_
    refine W.eq (g2 := F0 m 1266 ls [.int (xs (i + 3)), .int (xs (i + 2)), .int (xs (i + 1)), .ref mo]) (congrArg (fun z9 : Int32 => F0 m 1266 ls [.int z9, .int (xs (i + 2)), .int (xs (i + 1)), .ref mo]) (show (xs (nI (i + 3)).toNatClampNeg : Int32) = xs (i + 3) from (congrArg xs (nI_clamp (by omega))))) ?_
    refine z_ci J (z_rV (As := [.int (xs (i + 1)), .int (xs (i + 2)), .int (xs (i + 3))]) (rest := []) (ci := 8) (q0 := 11) X J (cX7_advise_ok l E Fa11 Fa12 Fa13 Fa14 Fa15 Fa16 Fa17 (by first | assumption | omega | decide) (by first | assumption | omega | decide) (by first | assumption | omega | decide) (by first | assumption | omega | decide) (zlt Fa12)) (cwV 3 hts gL_law_X7_advise rfl rfl rfl (by decide +kernel) ⟨Nat.le_of_ble_eq_true rfl, Nat.le_of_ble_eq_true rfl⟩) Fa11 rfl rfl rfl hl.1 rfl (Nat.le_of_ble_eq_true rfl) dL_law_1266 ⟨by show _ ≤ 601024; omega, by show _ ≤ 7293034; omega⟩) (fun r1266 ws_2 H locs hp9 J => ?_)
    obtain ⟨k2, ⟨fq_2, kq_2, tq_2, G2_a0, G2_a1, G2_a2, G2_a3, G2_a4, e_r1266⟩⟩ := hp9
    have hk := hk.trans (k2.mono (by decide))
    have G2_0 := k2.2 0 _ (by decide) Fa0
    have G2_1 := k2.2 1 _ (by decide) Fa1
    have G2_2 := k2.2 2 _ (by decide) Fa2
    have G2_3 := k2.2 3 _ (by decide) Fa3
    have G2_4 := k2.2 4 _ (by decide) Fa4
    have G2_5 := k2.2 5 _ (by decide) Fa5
    have G2_6 := k2.2 6 _ (by decide) Fa6
    have G2_7 := k2.2 7 _ (by decide) Fa7
    have G2_8 := k2.2 8 _ (by decide) Fa8
    have G2_9 := k2.2 9 _ (by decide) Fa9
    have G2_10 := k2.2 10 _ (by decide) Fa10
    have G2_13 := k2.2 13 _ (by decide) Fa13
    have G2_14 := k2.2 14 _ (by decide) Fa14
    have G2_18 := k2.2 18 _ (by decide) Fa18
    refine lv_istore (lv' := [(6, .int r1266), (5, .int (kAdvise (xs (i + 1)) (xs (i + 2)) (xs (i + 3)))), (4, .int (nI i)), (3, .ref ou), (2, .ref mo), (1, .ref x), (0, .ref b)]) hx hb dL_law_1269 hl (by decide) rfl (fun ls hl => ?_)
    refine lv_aload_n hx hb dL_law_1271 rfl (lv_at hl 4 rfl) ?_
    refine z_cr (z_rV (As := []) (rest := []) (ci := 8) (q0 := 11) X J (cX7_thrown_ok l E G2_a0) (cwV 0 hts gL_law_X7_thrown rfl rfl rfl (by decide +kernel) ⟨Nat.le_of_ble_eq_true rfl, Nat.le_of_ble_eq_true rfl⟩) G2_a0 rfl rfl rfl hl.1 rfl (Nat.le_of_ble_eq_true rfl) dL_law_1272 ⟨by show _ ≤ 601024; omega, by show _ ≤ 7293034; omega⟩) (fun r1272 e_r1272 => ?_)
    subst e_r1272
    refine lv_iload hx hb dL_law_1275 (lv_at hl 1 rfl) ?_
    refine lv_icmp_eq (tgt := 1282) hx hb dL_law_1277 (by decide) (fun cz1277 => ?_) (fun cz1277 => by exact (cz1277 rfl).elim)
    refine lv_iload hx hb dL_law_1282 (lv_at hl 1 rfl) ?_
    refine lv_if_ne (tgt := 1299) hx hb dL_law_1284 (by decide) (fun cz1284 => ?_) (fun cz1284 => by exact (e_k cz1284).elim)
    refine lv_goto (tgt := 1425) hx hb dL_law_1299 (by decide) ?_
    refine W.widen (k := cells + 700) (n := slots + 4500) (by omega) (by omega) ?_
    exact kk _ H locs _ ⟨fl, rl, wh, gr, gra, tr, tra, sc, ha, va, mf, md, mi, ms9, mk, mt, ea, eb, nf, nr, mc1, mc2, lim, sup, off, plo, hrs, (kAdvise (xs (i + 1)) (xs (i + 2)) (xs (i + 3))), fq_2, rd, ri, sn, t9, hf, gf, kq_2, tq_2, o9, G2_0, G2_1, G2_2, G2_3, G2_4, G2_5, G2_6, G2_7, G2_8, G2_9, G2_10, G2_a0, G2_a1, G2_13, G2_14, G2_a2, G2_a3, G2_a4, G2_18, ((hF.keep hk (by decide)).congr e_r1266.1), (hR.keep hk (by decide)), hSep, hnf, hnr, (okF_congr hok e_r1266.1), hor, hRB, hBI⟩ J (lv_sub hl [2, 3, 4, 5, 6] rfl)
  · subst e_v
    have hk := hk.trans (k1.mono (by decide))
    have G1_0 := k1.2 0 _ (by decide) Fa0
    have G1_1 := k1.2 1 _ (by decide) Fa1
    have G1_2 := k1.2 2 _ (by decide) Fa2
    have G1_3 := k1.2 3 _ (by decide) Fa3
    have G1_4 := k1.2 4 _ (by decide) Fa4
    have G1_5 := k1.2 5 _ (by decide) Fa5
    have G1_6 := k1.2 6 _ (by decide) Fa6
    have G1_8 := k1.2 8 _ (by decide) Fa8
    have G1_11 := k1.2 11 _ (by decide) Fa11
    have G1_12 := k1.2 12 _ (by decide) Fa12
    have G1_13 := k1.2 13 _ (by decide) Fa13
    have G1_14 := k1.2 14 _ (by decide) Fa14
    have G1_15 := k1.2 15 _ (by decide) Fa15
    have G1_16 := k1.2 16 _ (by decide) Fa16
    have G1_17 := k1.2 17 _ (by decide) Fa17
    refine lv_istore (lv' := [(5, .int 0), (4, .int (nI i)), (3, .ref ou), (2, .ref mo), (1, .ref x), (0, .ref b)]) hx hb dL_law_1245 hl (by decide) rfl (fun ls hl => ?_)
    refine lv_aload_n hx hb dL_law_1247 rfl (lv_at hl 3 rfl) ?_
    refine lv_aload_n hx hb dL_law_1248 rfl (lv_at hl 5 rfl) ?_
    refine lv_iload hx hb dL_law_1249 (lv_at hl 1 rfl) ?_
    refine lv_iconst (v := 1) hx hb dL_law_1251 (by decide) ?_
    refine lv_iadd hx hb dL_law_1252 ?_
    refine W.eq (g2 := F0 m 1253 ls [.int (nI (i + 1)), .ref b, .ref mo]) (congrArg (fun z9 : Int32 => F0 m 1253 ls [.int z9, .ref b, .ref mo]) (show ((nI i) + 1 : Int32) = nI (i + 1) from (nI_add i 1))) ?_
    refine va_sld hx hb hXs hbl hbA J.2.2 (vp_in_nI (by omega) (by omega)) dL_law_1253 ?_
    refine W.eq (g2 := F0 m 1254 ls [.int (xs (i + 1)), .ref mo]) (congrArg (fun z9 : Int32 => F0 m 1254 ls [.int z9, .ref mo]) (show (xs (nI (i + 1)).toNatClampNeg : Int32) = xs (i + 1) from (congrArg xs (nI_clamp (by omega))))) ?_
    refine lv_aload_n hx hb dL_law_1254 rfl (lv_at hl 5 rfl) ?_
    refine lv_iload hx hb dL_law_1255 (lv_at hl 1 rfl) ?_
    refine lv_iconst (v := 2) hx hb dL_law_1257 (by decide) ?_
    refine lv_iadd hx hb dL_law_1258 ?_
    refine W.eq (g2 := F0 m 1259 ls [.int (nI (i + 2)), .ref b, .int (xs (i + 1)), .ref mo]) (congrArg (fun z9 : Int32 => F0 m 1259 ls [.int z9, .ref b, .int (xs (i + 1)), .ref mo]) (show ((nI i) + 2 : Int32) = nI (i + 2) from (nI_add i 2))) ?_
    refine va_sld hx hb hXs hbl hbA J.2.2 (vp_in_nI (by omega) (by omega)) dL_law_1259 ?_
    refine W.eq (g2 := F0 m 1260 ls [.int (xs (i + 2)), .int (xs (i + 1)), .ref mo]) (congrArg (fun z9 : Int32 => F0 m 1260 ls [.int z9, .int (xs (i + 1)), .ref mo]) (show (xs (nI (i + 2)).toNatClampNeg : Int32) = xs (i + 2) from (congrArg xs (nI_clamp (by omega))))) ?_
    refine lv_aload_n hx hb dL_law_1260 rfl (lv_at hl 5 rfl) ?_
    refine lv_iload hx hb dL_law_1261 (lv_at hl 1 rfl) ?_
    refine lv_iconst (v := 3) hx hb dL_law_1263 (by decide) ?_
    refine lv_iadd hx hb dL_law_1264 ?_
    refine W.eq (g2 := F0 m 1265 ls [.int (nI (i + 3)), .ref b, .int (xs (i + 2)), .int (xs (i + 1)), .ref mo]) (congrArg (fun z9 : Int32 => F0 m 1265 ls [.int z9, .ref b, .int (xs (i + 2)), .int (xs (i + 1)), .ref mo]) (show ((nI i) + 3 : Int32) = nI (i + 3) from (nI_add i 3))) ?_
    refine va_sld hx hb hXs hbl hbA J.2.2 (vp_in_nI (by omega) (by omega)) dL_law_1265 ?_
    refine W.eq (g2 := F0 m 1266 ls [.int (xs (i + 3)), .int (xs (i + 2)), .int (xs (i + 1)), .ref mo]) (congrArg (fun z9 : Int32 => F0 m 1266 ls [.int z9, .int (xs (i + 2)), .int (xs (i + 1)), .ref mo]) (show (xs (nI (i + 3)).toNatClampNeg : Int32) = xs (i + 3) from (congrArg xs (nI_clamp (by omega))))) ?_
    refine z_ci J (z_rV (As := [.int (xs (i + 1)), .int (xs (i + 2)), .int (xs (i + 3))]) (rest := []) (ci := 8) (q0 := 11) X J (cX7_advise_ok l E G1_11 G1_12 G1_13 G1_14 G1_15 G1_16 G1_17 (by first | assumption | omega | decide) (by first | assumption | omega | decide) (by first | assumption | omega | decide) (by first | assumption | omega | decide) (zlt G1_12)) (cwV 3 hts gL_law_X7_advise rfl rfl rfl (by decide +kernel) ⟨Nat.le_of_ble_eq_true rfl, Nat.le_of_ble_eq_true rfl⟩) G1_11 rfl rfl rfl hl.1 rfl (Nat.le_of_ble_eq_true rfl) dL_law_1266 ⟨by show _ ≤ 601024; omega, by show _ ≤ 7293034; omega⟩) (fun r1266 ws_2 H locs hp9 J => ?_)
    obtain ⟨k2, ⟨fq_2, kq_2, tq_2, G2_a0, G2_a1, G2_a2, G2_a3, G2_a4, e_r1266⟩⟩ := hp9
    have hk := hk.trans (k2.mono (by decide))
    have G2_0 := k2.2 0 _ (by decide) G1_0
    have G2_1 := k2.2 1 _ (by decide) G1_1
    have G2_2 := k2.2 2 _ (by decide) G1_2
    have G2_3 := k2.2 3 _ (by decide) G1_3
    have G2_4 := k2.2 4 _ (by decide) G1_4
    have G2_5 := k2.2 5 _ (by decide) G1_5
    have G2_6 := k2.2 6 _ (by decide) G1_6
    have G2_7 := k2.2 7 _ (by decide) G1_a0
    have G2_8 := k2.2 8 _ (by decide) G1_8
    have G2_9 := k2.2 9 _ (by decide) G1_a1
    have G2_10 := k2.2 10 _ (by decide) G1_a2
    have G2_13 := k2.2 13 _ (by decide) G1_13
    have G2_14 := k2.2 14 _ (by decide) G1_14
    have G2_18 := k2.2 18 _ (by decide) G1_a3
    refine W.eq (g2 := F0 m 1269 ls [.int ((advC (advK (advD (xs (i + 1))) fa nf (xs (i + 3)) (xs (i + 2)) sup (xs (i + 1)) sn rd ri lim nr) 20).1)]) (congrArg (fun z9 : Int32 => F0 m 1269 ls [.int z9]) (show (r1266 : Int32) = (advC (advK (advD (xs (i + 1))) fa nf (xs (i + 3)) (xs (i + 2)) sup (xs (i + 1)) sn rd ri lim nr) 20).1 from (by rw [e_r1266.2, e_k, sel0]; exact (adv_ans hnf hnr (kAdv0 e_k)).symm))) ?_
    refine lv_istore (lv' := [(6, .int ((advC (advK (advD (xs (i + 1))) fa nf (xs (i + 3)) (xs (i + 2)) sup (xs (i + 1)) sn rd ri lim nr) 20).1)), (5, .int 0), (4, .int (nI i)), (3, .ref ou), (2, .ref mo), (1, .ref x), (0, .ref b)]) hx hb dL_law_1269 hl (by decide) rfl (fun ls hl => ?_)
    refine lv_aload_n hx hb dL_law_1271 rfl (lv_at hl 4 rfl) ?_
    refine z_cr (z_rV (As := []) (rest := []) (ci := 8) (q0 := 11) X J (cX7_thrown_ok l E G2_a0) (cwV 0 hts gL_law_X7_thrown rfl rfl rfl (by decide +kernel) ⟨Nat.le_of_ble_eq_true rfl, Nat.le_of_ble_eq_true rfl⟩) G2_a0 rfl rfl rfl hl.1 rfl (Nat.le_of_ble_eq_true rfl) dL_law_1272 ⟨by show _ ≤ 601024; omega, by show _ ≤ 7293034; omega⟩) (fun r1272 e_r1272 => ?_)
    subst e_r1272
    refine lv_iload hx hb dL_law_1275 (lv_at hl 1 rfl) ?_
    refine lv_icmp_eq (tgt := 1282) hx hb dL_law_1277 (by decide) (fun cz1277 => ?_) (fun cz1277 => by exact (cz1277 e_k).elim)
    refine lv_iload hx hb dL_law_1282 (lv_at hl 1 rfl) ?_
    refine lv_if_ne (tgt := 1299) hx hb dL_law_1284 (by decide) (fun cz1284 => by exact absurd cz1284 (by decide)) (fun cz1284 => ?_)
    refine lv_aload_n hx hb dL_law_1287 rfl (lv_at hl 3 rfl) ?_
    refine lv_iconst (v := 0) hx hb dL_law_1288 (by decide) ?_
    refine z_lald X J 18 G2_18 (vp_in_nI (n := 0) (by decide) (by decide)) dL_law_1289 ?_
    refine W.eq (g2 := F0 m 1290 ls [.long (((advC (advK (advD (xs (i + 1))) fa nf (xs (i + 3)) (xs (i + 2)) sup (xs (i + 1)) sn rd ri lim nr) 20).1).toInt64)]) (congrArg (fun z9 : Int64 => F0 m 1290 ls [.long z9]) (show ((vp_updL o9 0 ((advC (advK (advD (xs (i + 1))) fa nf (xs (i + 3)) (xs (i + 2)) sup (xs (i + 1)) sn rd ri lim nr) 20).1).toInt64) (0 : Int32).toNatClampNeg : Int64) = ((advC (advK (advD (xs (i + 1))) fa nf (xs (i + 3)) (xs (i + 2)) sup (xs (i + 1)) sn rd ri lim nr) 20).1).toInt64 from rfl)) ?_
    refine lv_iload hx hb dL_law_1290 (lv_at hl 0 rfl) ?_
    refine lv_i2l (v := ((advC (advK (advD (xs (i + 1))) fa nf (xs (i + 3)) (xs (i + 2)) sup (xs (i + 1)) sn rd ri lim nr) 20).1).toInt64) hx hb dL_law_1292 rfl ?_
    refine W.lcmp hx hb dL_law_1293 ?_
    refine W.eq (g2 := F0 m 1294 ls [.int 0]) (congrArg (fun z9 : Int32 => F0 m 1294 ls [.int z9]) (show (lg_cmp (((advC (advK (advD (xs (i + 1))) fa nf (xs (i + 3)) (xs (i + 2)) sup (xs (i + 1)) sn rd ri lim nr) 20).1).toInt64) (((advC (advK (advD (xs (i + 1))) fa nf (xs (i + 3)) (xs (i + 2)) sup (xs (i + 1)) sn rd ri lim nr) 20).1).toInt64) : Int32) = 0 from (lg_cmp_self _))) ?_
    refine lv_if_eq (tgt := 1299) hx hb dL_law_1294 (by decide) (fun cz1294 => ?_) (fun cz1294 => by exact absurd cz1294 (by decide))
    refine lv_goto (tgt := 1425) hx hb dL_law_1299 (by decide) ?_
    refine W.widen (k := cells + 700) (n := slots + 4500) (by omega) (by omega) ?_
    exact kk _ H locs _ ⟨fl, rl, wh, gr, gra, tr, tra, sc, ha, va, mf, md, mi, ms9, mk, mt, ea, eb, nf, nr, mc1, mc2, lim, sup, off, plo, hrs, (kAdvise (xs (i + 1)) (xs (i + 2)) (xs (i + 3))), fq_2, rd, ri, sn, t2_1, h2_1, g2_1, kq_2, tq_2, (vp_updL o9 0 ((advC (advK (advD (xs (i + 1))) fa nf (xs (i + 3)) (xs (i + 2)) sup (xs (i + 1)) sn rd ri lim nr) 20).1).toInt64), G2_0, G2_1, G2_2, G2_3, G2_4, G2_5, G2_6, G2_7, G2_8, G2_9, G2_10, G2_a0, G2_a1, G2_13, G2_14, G2_a2, G2_a3, G2_a4, G2_18, ((hF.keep hk (by decide)).congr e_r1266.1), (hR.keep hk (by decide)), hSep, hnf, hnr, (okF_congr hok e_r1266.1), hor, hRB, hBI⟩ J (lv_sub hl [2, 3, 4, 5, 6] rfl)
set_option maxHeartbeats 2000000 in
set_option maxRecDepth 100000 in
theorem turn_harmful {p : Program} {l : Launch} (hflags : l.flags = flags0) {e : Env} {s : State} {m : MethodId} {below : List Frame} {meth : Method} {c : Code} {b L : Nat} {xs : Nat → Int32} (E : zG) (X : zC E p m c cL_law 9 s #[.ref b] wsL_law RL) (hRz : zR s) (hNz : zNc s) (hXs : va_X b L xs s s.heap) (hbl : b < s.heap.size) (hbA : ¬ zA E b) (hE1 : ¬ zA E E.2.2.1) (hL9 : L ≤ 3584) {QQ : State → Prop} {ws : va_W} {x mo ou i cells slots : Nat} {H : Heap} {locs : List Loc} {ls : Array Slot} (hi : i + 7 ≤ L) (hW : LW E ws x mo ou) (J : zJ E ws s H locs) (hl : lv_has ls 9 [(4, .int (nI i)), (3, .ref ou), (2, .ref mo), (1, .ref x), (0, .ref b)]) (hc9 : cells + 700 ≤ 601024) (hs9 : slots + 4500 ≤ 7293034)
    (kk : ∀ (ws' : va_W) (H' : Heap) (locs' : List Loc) (ls' : Array Slot), LW E ws' x mo ou → zJ E ws' s H' locs' → lv_has ls' 9 [(4, .int (nI i)), (3, .ref ou), (2, .ref mo), (1, .ref x), (0, .ref b)] → W p l e room_1 s m #[.ref b] below meth c H' locs' (cells + 700) (slots + 4500) QQ (F0 m 1425 ls' [])) :
    W p l e room_1 s m #[.ref b] below meth c H locs cells slots QQ (F0 m 1302 ls []) := by
  obtain ⟨fl, rl, wh, gr, gra, tr, tra, sc, ha, va, mf, md, mi, ms9, mk, mt, ea, eb, nf, nr, mc1, mc2, lim, sup, off, plo, hrs, th, fa, rd, ri, sn, t9, hf, gf, kp, tp, o9, Fa0, Fa1, Fa2, Fa3, Fa4, Fa5, Fa6, Fa7, Fa8, Fa9, Fa10, Fa11, Fa12, Fa13, Fa14, Fa15, Fa16, Fa17, Fa18, hF, hR, hSep, hnf, hnr, hok, hor, hRB, hBI⟩ := hW
  have hx := X.1.1
  have hb := X.1.2.1
  have hown := X.1.2.2.2.1
  have hts := X.1.2.2.2.2
  have hk : zK [0, 1, 2, 3, 4, 5, 6, 7, 8, 9, 10, 11, 12, 13, 14, 15, 16, 17, 18] ws ws := zK.rf
  have hlen19 := zlt Fa18
  refine lv_aload_n hx hb dL_law_1302 rfl (lv_at hl 3 rfl) ?_
  refine lv_aload_n hx hb dL_law_1303 rfl (lv_at hl 4 rfl) ?_
  refine lv_iload hx hb dL_law_1304 (lv_at hl 0 rfl) ?_
  refine lv_iconst (v := 1) hx hb dL_law_1306 (by decide) ?_
  refine lv_iadd hx hb dL_law_1307 ?_
  refine W.eq (g2 := F0 m 1308 ls [.int (nI (i + 1)), .ref b, .ref x]) (congrArg (fun z9 : Int32 => F0 m 1308 ls [.int z9, .ref b, .ref x]) (show ((nI i) + 1 : Int32) = nI (i + 1) from (nI_add i 1))) ?_
  refine va_sld hx hb hXs hbl hbA J.2.2 (vp_in_nI (by omega) (by omega)) dL_law_1308 ?_
  refine W.eq (g2 := F0 m 1309 ls [.int (xs (i + 1)), .ref x]) (congrArg (fun z9 : Int32 => F0 m 1309 ls [.int z9, .ref x]) (show (xs (nI (i + 1)).toNatClampNeg : Int32) = xs (i + 1) from (congrArg xs (nI_clamp (by omega))))) ?_
  refine lv_aload_n hx hb dL_law_1309 rfl (lv_at hl 4 rfl) ?_
  refine lv_iload hx hb dL_law_1310 (lv_at hl 0 rfl) ?_
  refine lv_iconst (v := 2) hx hb dL_law_1312 (by decide) ?_
  refine lv_iadd hx hb dL_law_1313 ?_
  refine W.eq (g2 := F0 m 1314 ls [.int (nI (i + 2)), .ref b, .int (xs (i + 1)), .ref x]) (congrArg (fun z9 : Int32 => F0 m 1314 ls [.int z9, .ref b, .int (xs (i + 1)), .ref x]) (show ((nI i) + 2 : Int32) = nI (i + 2) from (nI_add i 2))) ?_
  refine va_sld hx hb hXs hbl hbA J.2.2 (vp_in_nI (by omega) (by omega)) dL_law_1314 ?_
  refine W.eq (g2 := F0 m 1315 ls [.int (xs (i + 2)), .int (xs (i + 1)), .ref x]) (congrArg (fun z9 : Int32 => F0 m 1315 ls [.int z9, .int (xs (i + 1)), .ref x]) (show (xs (nI (i + 2)).toNatClampNeg : Int32) = xs (i + 2) from (congrArg xs (nI_clamp (by omega))))) ?_
  refine lv_aload_n hx hb dL_law_1315 rfl (lv_at hl 1 rfl) ?_
  refine z_xi J (z_wS (As := [.ref x, .int (xs (i + 1)), .int (xs (i + 2)), .ref ou]) (rest := []) X hRz hNz J (cL_harmful_ok l hflags E Fa0 Fa1 Fa2 Fa4 Fa5 Fa6 Fa7 Fa8 Fa9 Fa10 Fa18 (by first | assumption | omega | decide) (by first | assumption | omega | decide) (by first | assumption | omega | decide) (by first | assumption | omega | decide) (by first | assumption | omega | decide)) (vx_cwSW (hh := [(0, 10, 13, 15), (0, 10, 17, 13)]) 4 hts gL_law_L_harmful rfl rfl rfl (by decide +kernel) ⟨Nat.le_of_ble_eq_true rfl, Nat.le_of_ble_eq_true rfl⟩) rfl hl.1 rfl (Nat.le_of_ble_eq_true rfl) dL_law_1316 ⟨by show _ ≤ 601024; omega, by show _ ≤ 7293034; omega⟩) (fun nm ce q9 H locs hp9 J h1 h2 h3 => ?_) (fun r1316 ws_1 H locs hp9 J => ?_)
  · exact False.elim (by exact hp9)
  rcases hp9 with ⟨e_v, e_k, rfl⟩ | ⟨e_v, e_k, k1, ⟨t2_1, h2_1, g2_1, G1_a0, G1_a1, G1_a2, G1_a3⟩⟩
  · subst e_v
    refine lv_istore (lv' := [(5, .int (kHarm (xs (i + 1)) (xs (i + 2)))), (4, .int (nI i)), (3, .ref ou), (2, .ref mo), (1, .ref x), (0, .ref b)]) hx hb dL_law_1319 hl (by decide) rfl (fun ls hl => ?_)
    refine lv_aload_n hx hb dL_law_1321 rfl (lv_at hl 3 rfl) ?_
    refine lv_aload_n hx hb dL_law_1322 rfl (lv_at hl 5 rfl) ?_
    refine lv_iload hx hb dL_law_1323 (lv_at hl 1 rfl) ?_
    refine lv_iconst (v := 1) hx hb dL_law_1325 (by decide) ?_
    refine lv_iadd hx hb dL_law_1326 ?_
    refine W.eq (g2 := F0 m 1327 ls [.int (nI (i + 1)), .ref b, .ref mo]) (congrArg (fun z9 : Int32 => F0 m 1327 ls [.int z9, .ref b, .ref mo]) (show ((nI i) + 1 : Int32) = nI (i + 1) from (nI_add i 1))) ?_
    refine va_sld hx hb hXs hbl hbA J.2.2 (vp_in_nI (by omega) (by omega)) dL_law_1327 ?_
    refine W.eq (g2 := F0 m 1328 ls [.int (xs (i + 1)), .ref mo]) (congrArg (fun z9 : Int32 => F0 m 1328 ls [.int z9, .ref mo]) (show (xs (nI (i + 1)).toNatClampNeg : Int32) = xs (i + 1) from (congrArg xs (nI_clamp (by omega))))) ?_
    refine lv_aload_n hx hb dL_law_1328 rfl (lv_at hl 5 rfl) ?_
    refine lv_iload hx hb dL_law_1329 (lv_at hl 1 rfl) ?_
    refine lv_iconst (v := 2) hx hb dL_law_1331 (by decide) ?_
    refine lv_iadd hx hb dL_law_1332 ?_
    refine W.eq (g2 := F0 m 1333 ls [.int (nI (i + 2)), .ref b, .int (xs (i + 1)), .ref mo]) (congrArg (fun z9 : Int32 => F0 m 1333 ls [.int z9, .ref b, .int (xs (i + 1)), .ref mo]) (show ((nI i) + 2 : Int32) = nI (i + 2) from (nI_add i 2))) ?_
    refine va_sld hx hb hXs hbl hbA J.2.2 (vp_in_nI (by omega) (by omega)) dL_law_1333 ?_
    refine W.eq (g2 := F0 m 1334 ls [.int (xs (i + 2)), .int (xs (i + 1)), .ref mo]) (congrArg (fun z9 : Int32 => F0 m 1334 ls [.int z9, .int (xs (i + 1)), .ref mo]) (show (xs (nI (i + 2)).toNatClampNeg : Int32) = xs (i + 2) from (congrArg xs (nI_clamp (by omega))))) ?_
    refine z_ci J (z_rV (As := [.int (xs (i + 1)), .int (xs (i + 2))]) (rest := []) (ci := 8) (q0 := 11) X J (cX7_harmful_ok l E Fa11 Fa12 Fa13 Fa14 Fa15 Fa16 Fa17 (by first | assumption | omega | decide) (by first | assumption | omega | decide) (by first | assumption | omega | decide) (by first | assumption | omega | decide)) (cwV 2 hts gL_law_X7_harmful rfl rfl rfl (by decide +kernel) ⟨Nat.le_of_ble_eq_true rfl, Nat.le_of_ble_eq_true rfl⟩) Fa11 rfl rfl rfl hl.1 rfl (Nat.le_of_ble_eq_true rfl) dL_law_1334 ⟨by show _ ≤ 601024; omega, by show _ ≤ 7293034; omega⟩) (fun r1334 ws_2 H locs hp9 J => ?_)
    obtain ⟨k2, ⟨kq_2, tq_2, G2_a0, G2_a1, G2_a2, G2_a3, e_r1334⟩⟩ := hp9
    have hk := hk.trans (k2.mono (by decide))
    have G2_0 := k2.2 0 _ (by decide) Fa0
    have G2_1 := k2.2 1 _ (by decide) Fa1
    have G2_2 := k2.2 2 _ (by decide) Fa2
    have G2_3 := k2.2 3 _ (by decide) Fa3
    have G2_4 := k2.2 4 _ (by decide) Fa4
    have G2_5 := k2.2 5 _ (by decide) Fa5
    have G2_6 := k2.2 6 _ (by decide) Fa6
    have G2_7 := k2.2 7 _ (by decide) Fa7
    have G2_8 := k2.2 8 _ (by decide) Fa8
    have G2_9 := k2.2 9 _ (by decide) Fa9
    have G2_10 := k2.2 10 _ (by decide) Fa10
    have G2_12 := k2.2 12 _ (by decide) Fa12
    have G2_13 := k2.2 13 _ (by decide) Fa13
    have G2_14 := k2.2 14 _ (by decide) Fa14
    have G2_18 := k2.2 18 _ (by decide) Fa18
    refine lv_istore (lv' := [(6, .int r1334), (5, .int (kHarm (xs (i + 1)) (xs (i + 2)))), (4, .int (nI i)), (3, .ref ou), (2, .ref mo), (1, .ref x), (0, .ref b)]) hx hb dL_law_1337 hl (by decide) rfl (fun ls hl => ?_)
    refine lv_aload_n hx hb dL_law_1339 rfl (lv_at hl 4 rfl) ?_
    refine z_cr (z_rV (As := []) (rest := []) (ci := 8) (q0 := 11) X J (cX7_thrown_ok l E G2_a0) (cwV 0 hts gL_law_X7_thrown rfl rfl rfl (by decide +kernel) ⟨Nat.le_of_ble_eq_true rfl, Nat.le_of_ble_eq_true rfl⟩) G2_a0 rfl rfl rfl hl.1 rfl (Nat.le_of_ble_eq_true rfl) dL_law_1340 ⟨by show _ ≤ 601024; omega, by show _ ≤ 7293034; omega⟩) (fun r1340 e_r1340 => ?_)
    subst e_r1340
    refine lv_iload hx hb dL_law_1343 (lv_at hl 1 rfl) ?_
    refine lv_icmp_eq (tgt := 1350) hx hb dL_law_1345 (by decide) (fun cz1345 => ?_) (fun cz1345 => by exact (cz1345 rfl).elim)
    refine lv_iload hx hb dL_law_1350 (lv_at hl 1 rfl) ?_
    refine lv_if_ne (tgt := 1367) hx hb dL_law_1352 (by decide) (fun cz1352 => ?_) (fun cz1352 => by exact (e_k cz1352).elim)
    refine lv_goto (tgt := 1425) hx hb dL_law_1367 (by decide) ?_
    refine W.widen (k := cells + 700) (n := slots + 4500) (by omega) (by omega) ?_
    exact kk _ H locs _ ⟨fl, rl, wh, gr, gra, tr, tra, sc, ha, va, mf, md, mi, ms9, mk, mt, ea, eb, nf, nr, mc1, mc2, lim, sup, off, plo, hrs, (kHarm (xs (i + 1)) (xs (i + 2))), fa, rd, ri, sn, t9, hf, gf, kq_2, tq_2, o9, G2_0, G2_1, G2_2, G2_3, G2_4, G2_5, G2_6, G2_7, G2_8, G2_9, G2_10, G2_a0, G2_12, G2_13, G2_14, G2_a1, G2_a2, G2_a3, G2_18, (hF.keep hk (by decide)), (hR.keep hk (by decide)), hSep, hnf, hnr, hok, hor, hRB, hBI⟩ J (lv_sub hl [2, 3, 4, 5, 6] rfl)
  · subst e_v
    have hk := hk.trans (k1.mono (by decide))
    have G1_0 := k1.2 0 _ (by decide) Fa0
    have G1_1 := k1.2 1 _ (by decide) Fa1
    have G1_2 := k1.2 2 _ (by decide) Fa2
    have G1_3 := k1.2 3 _ (by decide) Fa3
    have G1_4 := k1.2 4 _ (by decide) Fa4
    have G1_5 := k1.2 5 _ (by decide) Fa5
    have G1_6 := k1.2 6 _ (by decide) Fa6
    have G1_8 := k1.2 8 _ (by decide) Fa8
    have G1_11 := k1.2 11 _ (by decide) Fa11
    have G1_12 := k1.2 12 _ (by decide) Fa12
    have G1_13 := k1.2 13 _ (by decide) Fa13
    have G1_14 := k1.2 14 _ (by decide) Fa14
    have G1_15 := k1.2 15 _ (by decide) Fa15
    have G1_16 := k1.2 16 _ (by decide) Fa16
    have G1_17 := k1.2 17 _ (by decide) Fa17
    refine lv_istore (lv' := [(5, .int 0), (4, .int (nI i)), (3, .ref ou), (2, .ref mo), (1, .ref x), (0, .ref b)]) hx hb dL_law_1319 hl (by decide) rfl (fun ls hl => ?_)
    refine lv_aload_n hx hb dL_law_1321 rfl (lv_at hl 3 rfl) ?_
    refine lv_aload_n hx hb dL_law_1322 rfl (lv_at hl 5 rfl) ?_
    refine lv_iload hx hb dL_law_1323 (lv_at hl 1 rfl) ?_
    refine lv_iconst (v := 1) hx hb dL_law_1325 (by decide) ?_
    refine lv_iadd hx hb dL_law_1326 ?_
    refine W.eq (g2 := F0 m 1327 ls [.int (nI (i + 1)), .ref b, .ref mo]) (congrArg (fun z9 : Int32 => F0 m 1327 ls [.int z9, .ref b, .ref mo]) (show ((nI i) + 1 : Int32) = nI (i + 1) from (nI_add i 1))) ?_
    refine va_sld hx hb hXs hbl hbA J.2.2 (vp_in_nI (by omega) (by omega)) dL_law_1327 ?_
    refine W.eq (g2 := F0 m 1328 ls [.int (xs (i + 1)), .ref mo]) (congrArg (fun z9 : Int32 => F0 m 1328 ls [.int z9, .ref mo]) (show (xs (nI (i + 1)).toNatClampNeg : Int32) = xs (i + 1) from (congrArg xs (nI_clamp (by omega))))) ?_
    refine lv_aload_n hx hb dL_law_1328 rfl (lv_at hl 5 rfl) ?_
    refine lv_iload hx hb dL_law_1329 (lv_at hl 1 rfl) ?_
    refine lv_iconst (v := 2) hx hb dL_law_1331 (by decide) ?_
    refine lv_iadd hx hb dL_law_1332 ?_
    refine W.eq (g2 := F0 m 1333 ls [.int (nI (i + 2)), .ref b, .int (xs (i + 1)), .ref mo]) (congrArg (fun z9 : Int32 => F0 m 1333 ls [.int z9, .ref b, .int (xs (i + 1)), .ref mo]) (show ((nI i) + 2 : Int32) = nI (i + 2) from (nI_add i 2))) ?_
    refine va_sld hx hb hXs hbl hbA J.2.2 (vp_in_nI (by omega) (by omega)) dL_law_1333 ?_
    refine W.eq (g2 := F0 m 1334 ls [.int (xs (i + 2)), .int (xs (i + 1)), .ref mo]) (congrArg (fun z9 : Int32 => F0 m 1334 ls [.int z9, .int (xs (i + 1)), .ref mo]) (show (xs (nI (i + 2)).toNatClampNeg : Int32) = xs (i + 2) from (congrArg xs (nI_clamp (by omega))))) ?_
    refine z_ci J (z_rV (As := [.int (xs (i + 1)), .int (xs (i + 2))]) (rest := []) (ci := 8) (q0 := 11) X J (cX7_harmful_ok l E G1_11 G1_12 G1_13 G1_14 G1_15 G1_16 G1_17 (by first | assumption | omega | decide) (by first | assumption | omega | decide) (by first | assumption | omega | decide) (by first | assumption | omega | decide)) (cwV 2 hts gL_law_X7_harmful rfl rfl rfl (by decide +kernel) ⟨Nat.le_of_ble_eq_true rfl, Nat.le_of_ble_eq_true rfl⟩) G1_11 rfl rfl rfl hl.1 rfl (Nat.le_of_ble_eq_true rfl) dL_law_1334 ⟨by show _ ≤ 601024; omega, by show _ ≤ 7293034; omega⟩) (fun r1334 ws_2 H locs hp9 J => ?_)
    obtain ⟨k2, ⟨kq_2, tq_2, G2_a0, G2_a1, G2_a2, G2_a3, e_r1334⟩⟩ := hp9
    have hk := hk.trans (k2.mono (by decide))
    have G2_0 := k2.2 0 _ (by decide) G1_0
    have G2_1 := k2.2 1 _ (by decide) G1_1
    have G2_2 := k2.2 2 _ (by decide) G1_2
    have G2_3 := k2.2 3 _ (by decide) G1_3
    have G2_4 := k2.2 4 _ (by decide) G1_4
    have G2_5 := k2.2 5 _ (by decide) G1_5
    have G2_6 := k2.2 6 _ (by decide) G1_6
    have G2_7 := k2.2 7 _ (by decide) G1_a0
    have G2_8 := k2.2 8 _ (by decide) G1_8
    have G2_9 := k2.2 9 _ (by decide) G1_a1
    have G2_10 := k2.2 10 _ (by decide) G1_a2
    have G2_12 := k2.2 12 _ (by decide) G1_12
    have G2_13 := k2.2 13 _ (by decide) G1_13
    have G2_14 := k2.2 14 _ (by decide) G1_14
    have G2_18 := k2.2 18 _ (by decide) G1_a3
    refine W.eq (g2 := F0 m 1337 ls [.int ((harS fa nf (xs (i + 2)) sup (xs (i + 1)) sn rd ri lim nr nf).1)]) (congrArg (fun z9 : Int32 => F0 m 1337 ls [.int z9]) (show (r1334 : Int32) = (harS fa nf (xs (i + 2)) sup (xs (i + 1)) sn rd ri lim nr nf).1 from (by rw [e_r1334, e_k, sel0]))) ?_
    refine lv_istore (lv' := [(6, .int ((harS fa nf (xs (i + 2)) sup (xs (i + 1)) sn rd ri lim nr nf).1)), (5, .int 0), (4, .int (nI i)), (3, .ref ou), (2, .ref mo), (1, .ref x), (0, .ref b)]) hx hb dL_law_1337 hl (by decide) rfl (fun ls hl => ?_)
    refine lv_aload_n hx hb dL_law_1339 rfl (lv_at hl 4 rfl) ?_
    refine z_cr (z_rV (As := []) (rest := []) (ci := 8) (q0 := 11) X J (cX7_thrown_ok l E G2_a0) (cwV 0 hts gL_law_X7_thrown rfl rfl rfl (by decide +kernel) ⟨Nat.le_of_ble_eq_true rfl, Nat.le_of_ble_eq_true rfl⟩) G2_a0 rfl rfl rfl hl.1 rfl (Nat.le_of_ble_eq_true rfl) dL_law_1340 ⟨by show _ ≤ 601024; omega, by show _ ≤ 7293034; omega⟩) (fun r1340 e_r1340 => ?_)
    subst e_r1340
    refine lv_iload hx hb dL_law_1343 (lv_at hl 1 rfl) ?_
    refine lv_icmp_eq (tgt := 1350) hx hb dL_law_1345 (by decide) (fun cz1345 => ?_) (fun cz1345 => by exact (cz1345 e_k).elim)
    refine lv_iload hx hb dL_law_1350 (lv_at hl 1 rfl) ?_
    refine lv_if_ne (tgt := 1367) hx hb dL_law_1352 (by decide) (fun cz1352 => by exact absurd cz1352 (by decide)) (fun cz1352 => ?_)
    refine lv_aload_n hx hb dL_law_1355 rfl (lv_at hl 3 rfl) ?_
    refine lv_iconst (v := 0) hx hb dL_law_1356 (by decide) ?_
    refine z_lald X J 18 G2_18 (vp_in_nI (n := 0) (by decide) (by decide)) dL_law_1357 ?_
    refine W.eq (g2 := F0 m 1358 ls [.long (((harS fa nf (xs (i + 2)) sup (xs (i + 1)) sn rd ri lim nr nf).1).toInt64)]) (congrArg (fun z9 : Int64 => F0 m 1358 ls [.long z9]) (show ((vp_updL o9 0 ((harS fa nf (xs (i + 2)) sup (xs (i + 1)) sn rd ri lim nr nf).1).toInt64) (0 : Int32).toNatClampNeg : Int64) = ((harS fa nf (xs (i + 2)) sup (xs (i + 1)) sn rd ri lim nr nf).1).toInt64 from rfl)) ?_
    refine lv_iload hx hb dL_law_1358 (lv_at hl 0 rfl) ?_
    refine lv_i2l (v := ((harS fa nf (xs (i + 2)) sup (xs (i + 1)) sn rd ri lim nr nf).1).toInt64) hx hb dL_law_1360 rfl ?_
    refine W.lcmp hx hb dL_law_1361 ?_
    refine W.eq (g2 := F0 m 1362 ls [.int 0]) (congrArg (fun z9 : Int32 => F0 m 1362 ls [.int z9]) (show (lg_cmp (((harS fa nf (xs (i + 2)) sup (xs (i + 1)) sn rd ri lim nr nf).1).toInt64) (((harS fa nf (xs (i + 2)) sup (xs (i + 1)) sn rd ri lim nr nf).1).toInt64) : Int32) = 0 from (lg_cmp_self _))) ?_
    refine lv_if_eq (tgt := 1367) hx hb dL_law_1362 (by decide) (fun cz1362 => ?_) (fun cz1362 => by exact absurd cz1362 (by decide))
    refine lv_goto (tgt := 1425) hx hb dL_law_1367 (by decide) ?_
    refine W.widen (k := cells + 700) (n := slots + 4500) (by omega) (by omega) ?_
    exact kk _ H locs _ ⟨fl, rl, wh, gr, gra, tr, tra, sc, ha, va, mf, md, mi, ms9, mk, mt, ea, eb, nf, nr, mc1, mc2, lim, sup, off, plo, hrs, (kHarm (xs (i + 1)) (xs (i + 2))), fa, rd, ri, sn, t2_1, h2_1, g2_1, kq_2, tq_2, (vp_updL o9 0 ((harS fa nf (xs (i + 2)) sup (xs (i + 1)) sn rd ri lim nr nf).1).toInt64), G2_0, G2_1, G2_2, G2_3, G2_4, G2_5, G2_6, G2_7, G2_8, G2_9, G2_10, G2_a0, G2_12, G2_13, G2_14, G2_a1, G2_a2, G2_a3, G2_18, (hF.keep hk (by decide)), (hR.keep hk (by decide)), hSep, hnf, hnr, hok, hor, hRB, hBI⟩ J (lv_sub hl [2, 3, 4, 5, 6] rfl)
