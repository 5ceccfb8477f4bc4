set_option maxHeartbeats 4000000 in
set_option maxRecDepth 100000 in
theorem law_j {p : Program} {l : Launch} (hflags : l.flags = flags0) {e : Env} {s : State} {m : MethodId} {below : List Frame} {meth : Method} {c : Code} (E : zG) (X : zC E p m c cL_law 30 s #[.ref E.2.2.2.2.1] wsL_law2 RL) (hRz : zR s) (hE1 : ¬ zA E E.2.2.1) (hL : E.2.2.2.2.2.1 ≤ 260) {QQ : State → Prop} {ws : va_W} {x fl rl wh gr gra tr tra sc ha va z sa : Nat} {gs : Nat → Option Nat} {mc1 mc2 lim sup off plo hrs : Int32} {ea eb nf nr fe qf ro qr : Nat} {fa rd ri sn t9 hf gf : Nat → Int32} {g gq : Nat → Option Nat} {t : Nat} {xv : Int32} {wd sg hh : Nat} {hv : Int32} {cells slots : Nat} {H : Heap} {locs : List Loc} {ls : Array Slot} (hwd4 : wd < 4) (hsg1 : 1 ≤ sg) (hsg9 : sg ≤ 9) (hhh1 : 1 ≤ hh) (hhh6 : hh ≤ 6) (hhs : (hv = -1 ∧ ∀ j, j < nf → ¬ harF fa nf (nI sg) sup (nI wd) sn rd ri lim nr j < harA fa nf (nI sg) sup (nI wd) sn rd ri lim nr (-1)) ∨ ∃ k : Nat, k < nf ∧ hv = nI k ∧ harF fa nf (nI sg) sup (nI wd) sn rd ri lim nr k < harA fa nf (nI sg) sup (nI wd) sn rd ri lim nr (-1) ∧ (∀ j, j < nf → ¬ harF fa nf (nI sg) sup (nI wd) sn rd ri lim nr j < harF fa nf (nI sg) sup (nI wd) sn rd ri lim nr k) ∧ ∀ j, j < k → harF fa nf (nI sg) sup (nI wd) sn rd ri lim nr k < harF fa nf (nI sg) sup (nI wd) sn rd ri lim nr j) (hX : LX E x fl rl wh gr gra tr tra sc ha va z sa gs mc1 mc2 lim sup off plo hrs ea eb nf nr fe qf ro qr fa rd ri sn t9 hf gf g gq ws) (J : zJ E ws s H locs) (hl : lv_has ls 30 [(0, .ref E.2.2.2.2.1), (1, .ref x), (2, .ref z), (3, .int (nI t)), (4, .int xv), (5, .int (nI wd)), (6, .int (nI sg)), (7, .int (nI hh)), (22, .int hv)]) (hc9 : cells + 80300 ≤ 1106048) (hs9 : slots + 164000 ≤ 5783625)
    (kk : ∀ (ws' : va_W) (H' : Heap) (locs' : List Loc) (ls' : Array Slot), LX E x fl rl wh gr gra tr tra sc ha va z sa gs mc1 mc2 lim sup off plo hrs ea eb nf nr fe qf ro qr fa rd ri sn t9 hf gf g gq ws' → zJ E ws' s H' locs' → lv_has ls' 30 [(0, .ref E.2.2.2.2.1), (1, .ref x), (2, .ref z), (3, .int (nI t))] → W p l e room_1 s m #[.ref E.2.2.2.2.1] below meth c H' locs' (cells + 80300) (slots + 164000) QQ (F0 m 1214 ls' [])) :
    W p l e room_1 s m #[.ref E.2.2.2.2.1] below meth c H locs cells slots QQ (F0 m 1091 ls []) := by
  obtain ⟨Fa0, Fa1, Fa2, Fa3, Fa4, Fa5, Fa6, Fa7, Fa8, Fa9, Fa10, Fa11, Fa12, Fa13, Fa14, hql, hF, hR, hSep, hSE, hSR, hSN, hnf, hnr, hok, hor, hRB, hu9, hlm, hln⟩ := hX
  obtain ⟨hqf, hqr⟩ := hql
  have hbl := hSN.len
  have bq13 := zlt Fa13
  have bq14 := zlt Fa14
  have nr13 := hSN.no Fa13 rfl
  have nr14 := hSN.no Fa14 rfl
  have hhR := hgS_RB (wo := -1) nf hok
  have hx := X.1.1
  have hb := X.1.2.1
  have hown := X.1.2.2.2.1
  have hts := X.1.2.2.2.2
  have hi_X7 : ∀ w ∈ wsX70, w ∈ wsL_law2 := fun w h => List.mem_append_left _ (inlX7 w h)
  have hk : zKi E ws ws := zKi.rf
  have hw4 := nI_w4 hwd4
  rcases hhs with ⟨hv1, hv2⟩ | ⟨kh, hk1, hv1, hk2, hk3, hk4⟩
  · subst hv1
    refine lv_aload_n hx hb dL_law_1091 rfl (lv_at hl 2 rfl) ?_
    refine lv_aload_n hx hb dL_law_1092 rfl (lv_at hl 2 rfl) ?_
    refine z_get (C := RX7) (T := TX7) (N := 8) (ci := 8) (v := .ref fe) X J hi_X7 11 Fa11 rfl 0 (by decide) (by decide +kernel) rfl dL_law_1093 ?_
    refine lv_iload hx hb dL_law_1096 (lv_at hl 5 rfl) ?_
    refine lv_iload hx hb dL_law_1098 (lv_at hl 6 rfl) ?_
    refine z_ci J (z_rV (As := [.ref fe, .int (nI wd), .int (nI sg)]) (rest := []) (ci := 8) (q0 := 11) X J (cX7_tried_ok l E Fa11 Fa12 Fa13 Fa14 hSN (hSE.keepI hk) (by omega) hok (hSR.keepI hk) hnr hor hw4 hRB (nI_BI2 (lo := 1) (hi := 9) (by omega) (by omega) (by omega)) hu9) (cwV 3 hts (goodIn_ext3 gL_law_X7_tried) rfl rfl rfl (by decide +kernel) ⟨Nat.le_of_ble_eq_true rfl, Nat.le_of_ble_eq_true rfl⟩) Fa11 rfl rfl rfl hl.1 rfl (Nat.le_of_ble_eq_true rfl) dL_law_1100 ⟨by show _ ≤ 1106048; omega, by show _ ≤ 5783625; omega⟩) (fun r1100 ws_1 H locs hp9 J => ?_)
    obtain ⟨k1, e_r1100⟩ := hp9
    have hF := hF.keepS k1 (fun q9 hq9 => absurd hq9 List.not_mem_nil)
    have hR := hR.keepS k1 (fun q9 hq9 => absurd hq9 List.not_mem_nil)
    have hSN := hSN.keep k1 (fun _ _ => List.not_mem_nil)
    have hk := hk.step k1 (fun _ _ _ _ _ _ _ => List.not_mem_nil)
    have G1_0 := k1.2 0 _ List.not_mem_nil Fa0
    have G1_1 := k1.2 1 _ List.not_mem_nil Fa1
    have G1_2 := k1.2 2 _ List.not_mem_nil Fa2
    have G1_3 := k1.2 3 _ List.not_mem_nil Fa3
    have G1_4 := k1.2 4 _ List.not_mem_nil Fa4
    have G1_5 := k1.2 5 _ List.not_mem_nil Fa5
    have G1_6 := k1.2 6 _ List.not_mem_nil Fa6
    have G1_7 := k1.2 7 _ List.not_mem_nil Fa7
    have G1_8 := k1.2 8 _ List.not_mem_nil Fa8
    have G1_9 := k1.2 9 _ List.not_mem_nil Fa9
    have G1_10 := k1.2 10 _ List.not_mem_nil Fa10
    have G1_11 := k1.2 11 _ List.not_mem_nil Fa11
    have G1_12 := k1.2 14 _ List.not_mem_nil Fa12
    have G1_13 := k1.2 qf _ List.not_mem_nil Fa13
    have G1_14 := k1.2 qr _ List.not_mem_nil Fa14
    subst e_r1100
    refine W.eq (g2 := F0 m 1103 ls [.int (harA fa nf (nI sg) sup (nI wd) sn rd ri lim nr (-1))]) (congrArg (fun z9 : Int32 => F0 m 1103 ls [.int z9]) (show (allB (hsS (nI sg) sup (hgS fa (-1) nf).1 (hgS fa (-1) nf).2 (nI wd) sn 4).2.1 rd ri lim nr : Int32) = harA fa nf (nI sg) sup (nI wd) sn rd ri lim nr (-1) from rfl)) ?_
    refine lv_istore (lv' := [(27, .int (harA fa nf (nI sg) sup (nI wd) sn rd ri lim nr (-1))), (0, .ref E.2.2.2.2.1), (1, .ref x), (2, .ref z), (3, .int (nI t)), (4, .int xv), (5, .int (nI wd)), (6, .int (nI sg)), (7, .int (nI hh)), (22, .int (-1))]) hx hb dL_law_1103 hl (by decide) rfl (fun ls hl => ?_)
    refine lv_iload hx hb dL_law_1105 (lv_at hl 9 rfl) ?_
    refine lv_if_ge (tgt := 1115) hx hb dL_law_1107 (by decide) (fun cz1107 => by exact absurd cz1107 (by decide)) (fun cz1107 => ?_)
    refine lv_iload hx hb dL_law_1110 (lv_at hl 0 rfl) ?_
    refine lv_goto (tgt := 1132) hx hb dL_law_1112 (by decide) ?_
    refine lv_istore (lv' := [(28, .int (harA fa nf (nI sg) sup (nI wd) sn rd ri lim nr (-1))), (27, .int (harA fa nf (nI sg) sup (nI wd) sn rd ri lim nr (-1))), (0, .ref E.2.2.2.2.1), (1, .ref x), (2, .ref z), (3, .int (nI t)), (4, .int xv), (5, .int (nI wd)), (6, .int (nI sg)), (7, .int (nI hh)), (22, .int (-1))]) hx hb dL_law_1132 hl (by decide) rfl (fun ls hl => ?_)
    refine lv_iload hx hb dL_law_1134 (lv_at hl 10 rfl) ?_
    refine lv_if_lt (tgt := 1148) hx hb dL_law_1136 (by decide) (fun cz1136 => ?_) (fun cz1136 => by exact absurd cz1136 (by decide))
    refine lv_iconst (v := nI 0) hx hb dL_law_1148 rfl ?_
    refine lv_istore (lv' := [(29, .int (nI 0)), (28, .int (harA fa nf (nI sg) sup (nI wd) sn rd ri lim nr (-1))), (27, .int (harA fa nf (nI sg) sup (nI wd) sn rd ri lim nr (-1))), (0, .ref E.2.2.2.2.1), (1, .ref x), (2, .ref z), (3, .int (nI t)), (4, .int xv), (5, .int (nI wd)), (6, .int (nI sg)), (7, .int (nI hh)), (22, .int (-1))]) hx hb dL_law_1149 hl (by decide) rfl (fun ls hl => ?_)
    refine W.widen (k := cells + 13369 + 6685 * 0) (n := slots + 27268 + 13640 * 0) (by omega) (by omega) ?_
    have loop_1151 : ∀ (k9 f : Nat), f + k9 = nf → ∀ (wl1151 : va_W) (H : Heap) (locs : List Loc) (ls : Array Slot), zKi E ws wl1151 → wl1151[0]? = some (x, .inr (7, [.ref fl, .ref rl, .ref wh, .ref gr, .ref tr, .ref sc, .int lim, .int sup, .int off, .int plo, .int hrs])) → wl1151[1]? = some (fl, .inr (0, [.int mc1, .ref ea, .int (nI nf)])) → wl1151[2]? = some (rl, .inr (0, [.int mc2, .ref eb, .int (nI nr)])) → wl1151[3]? = some (wh, .inr (5, [.int (0 * 20 + 0), .int (nI 400), .int 0])) → wl1151[4]? = some (gr, .inr (2, [.ref gra])) → wl1151[5]? = some (gra, zI4 E 400 sn) → wl1151[6]? = some (tr, .inr (2, [.ref tra])) → wl1151[7]? = some (tra, zI4 E 400 t9) → wl1151[8]? = some (sc, .inr (4, [.ref ha, .ref va])) → wl1151[9]? = some (ha, zI4 E 400 hf) → wl1151[10]? = some (va, zI4 E 400 gf) → wl1151[11]? = some (z, .inr (8, [.ref fe, .ref ro, .ref sa, .int lim, .int sup, .int off, .int plo, .int hrs])) → wl1151[14]? = some (sa, zA4 E 20 gs) → wl1151[qf]? = some (fe, zA4 E nf g) → wl1151[qr]? = some (ro, zA4 E nr gq) → FS E wl1151 fa ea nf → RS E wl1151 rd ri eb nr → SN E wl1151 15 gs sn → zJ E wl1151 s H locs → lv_has ls 30 [(29, .int (nI f)), (28, .int (harA fa nf (nI sg) sup (nI wd) sn rd ri lim nr (-1))), (27, .int (harA fa nf (nI sg) sup (nI wd) sn rd ri lim nr (-1))), (0, .ref E.2.2.2.2.1), (1, .ref x), (2, .ref z), (3, .int (nI t)), (4, .int xv), (5, .int (nI wd)), (6, .int (nI sg)), (7, .int (nI hh)), (22, .int (-1))] → W p l e room_1 s m #[.ref E.2.2.2.2.1] below meth c H locs (cells + 13369 + 6685 * f) (slots + 27268 + 13640 * f) QQ (F0 m 1151 ls []) := by
      intro k9
      induction k9 with
      | zero =>
        intro f hik wl1151 H locs ls hk L1151_0 L1151_1 L1151_2 L1151_3 L1151_4 L1151_5 L1151_6 L1151_7 L1151_8 L1151_9 L1151_10 L1151_11 L1151_12 L1151_13 L1151_14 hF hR hSN J hl
        obtain rfl : nf = f := by omega
        refine lv_iload hx hb dL_law_1151 (lv_at hl 0 rfl) ?_
        refine lv_aload_n hx hb dL_law_1153 rfl (lv_at hl 5 rfl) ?_
        refine z_get (C := RX7) (T := TX7) (N := 8) (ci := 8) (v := .ref fe) X J hi_X7 11 L1151_11 rfl 0 (by decide) (by decide +kernel) rfl dL_law_1154 ?_
        refine z_alenA (v := nI nf) X J qf L1151_13 rfl dL_law_1157 ?_
        refine lv_icmp_ge (tgt := 1214) hx hb dL_law_1158 (by decide) (fun cz1158 => ?_) (fun cz1158 => by exact (cz1158 (nI_le (Nat.le_refl _) (by omega))).elim)
        refine W.widen (k := cells + 80300) (n := slots + 164000) (by omega) (by omega) ?_
        exact kk _ H locs _ ⟨L1151_0, L1151_1, L1151_2, L1151_3, L1151_4, L1151_5, L1151_6, L1151_7, L1151_8, L1151_9, L1151_10, L1151_11, L1151_12, L1151_13, L1151_14, ⟨by omega, by omega⟩, hF, hR, hSep, (hSE.keepI hk), (hSR.keepI hk), hSN, hnf, hnr, hok, hor, hRB, hu9, hlm, (Nat.le_trans hln hk.1)⟩ J (lv_sub hl [3, 4, 5, 6] rfl)
      | succ k9 ih_1151 =>
        intro f hik wl1151 H locs ls hk L1151_0 L1151_1 L1151_2 L1151_3 L1151_4 L1151_5 L1151_6 L1151_7 L1151_8 L1151_9 L1151_10 L1151_11 L1151_12 L1151_13 L1151_14 hF hR hSN J hl
        refine lv_iload hx hb dL_law_1151 (lv_at hl 0 rfl) ?_
        refine lv_aload_n hx hb dL_law_1153 rfl (lv_at hl 5 rfl) ?_
        refine z_get (C := RX7) (T := TX7) (N := 8) (ci := 8) (v := .ref fe) X J hi_X7 11 L1151_11 rfl 0 (by decide) (by decide +kernel) rfl dL_law_1154 ?_
        refine z_alenA (v := nI nf) X J qf L1151_13 rfl dL_law_1157 ?_
        refine lv_icmp_ge (tgt := 1214) hx hb dL_law_1158 (by decide) (fun cz1158 => by exact (nI_ge (by omega) (by omega) cz1158).elim) (fun cz1158 => ?_)
        refine lv_aload_n hx hb dL_law_1161 rfl (lv_at hl 5 rfl) ?_
        refine lv_aload_n hx hb dL_law_1162 rfl (lv_at hl 5 rfl) ?_
        refine z_get (C := RX7) (T := TX7) (N := 8) (ci := 8) (v := .ref fe) X J hi_X7 11 L1151_11 rfl 0 (by decide) (by decide +kernel) rfl dL_law_1163 ?_
        refine lv_iload hx hb dL_law_1166 (lv_at hl 0 rfl) ?_
        refine z_cq J (z_rS (As := [.ref fe, .int (nI f)]) (rest := [.ref z]) X J (cX7_without_ok l E L1151_13 (fun j9 hj9 => (hSE.keepI hk j9 hj9).elim (fun a9 h9 => h9.elim (fun q9 h9 => h9.elim (fun f9 h9 => ⟨a9, q9, 6, f9, h9.1, h9.2.2.1⟩)))) hnf (by omega)) (va_cwS 2 hts (goodIn_ext3 gL_law_X7_without) rfl rfl rfl (by decide +kernel) ⟨Nat.le_of_ble_eq_true rfl, Nat.le_of_ble_eq_true rfl⟩) rfl hl.1 rfl (Nat.le_of_ble_eq_true rfl) dL_law_1168 ⟨by show _ ≤ 1106048; omega, by show _ ≤ 5783625; omega⟩) (fun r1168 ws_2 H locs hp9 J => ?_)
        obtain ⟨k2, ⟨nq_2, hlen2, N2_0, e_r1168⟩⟩ := hp9
        have hF := hF.keepS k2 (fun q9 hq9 => absurd hq9 List.not_mem_nil)
        have hR := hR.keepS k2 (fun q9 hq9 => absurd hq9 List.not_mem_nil)
        have hSN := hSN.keep k2 (fun _ _ => List.not_mem_nil)
        have lp2 := hk.1
        have b_2_0 := zlt L1151_0
        have b_2_1 := zlt L1151_1
        have b_2_2 := zlt L1151_2
        have b_2_3 := zlt L1151_3
        have b_2_4 := zlt L1151_4
        have b_2_5 := zlt L1151_5
        have b_2_6 := zlt L1151_6
        have b_2_7 := zlt L1151_7
        have b_2_8 := zlt L1151_8
        have b_2_9 := zlt L1151_9
        have b_2_10 := zlt L1151_10
        have b_2_11 := zlt L1151_11
        have b_2_12 := zlt L1151_12
        have b_2_13 := zlt L1151_13
        have b_2_14 := zlt L1151_14
        have hk := hk.step k2 (fun _ _ _ _ _ _ _ => List.not_mem_nil)
        have G2_0 := k2.2 0 _ List.not_mem_nil L1151_0
        have G2_1 := k2.2 1 _ List.not_mem_nil L1151_1
        have G2_2 := k2.2 2 _ List.not_mem_nil L1151_2
        have G2_3 := k2.2 3 _ List.not_mem_nil L1151_3
        have G2_4 := k2.2 4 _ List.not_mem_nil L1151_4
        have G2_5 := k2.2 5 _ List.not_mem_nil L1151_5
        have G2_6 := k2.2 6 _ List.not_mem_nil L1151_6
        have G2_7 := k2.2 7 _ List.not_mem_nil L1151_7
        have G2_8 := k2.2 8 _ List.not_mem_nil L1151_8
        have G2_9 := k2.2 9 _ List.not_mem_nil L1151_9
        have G2_10 := k2.2 10 _ List.not_mem_nil L1151_10
        have G2_11 := k2.2 11 _ List.not_mem_nil L1151_11
        have G2_12 := k2.2 14 _ List.not_mem_nil L1151_12
        have G2_13 := k2.2 qf _ List.not_mem_nil L1151_13
        have G2_14 := k2.2 qr _ List.not_mem_nil L1151_14
        obtain ⟨pn_2_0, hpn_2_0⟩ : ∃ z : Nat, z = wl1151.length + 0 := ⟨_, rfl⟩
        rw [← hpn_2_0] at N2_0
        subst e_r1168
        refine W.eq (g2 := F0 m 1171 ls [.ref nq_2, .ref z]) rfl ?_
        refine lv_iload hx hb dL_law_1171 (lv_at hl 8 rfl) ?_
        refine lv_iload hx hb dL_law_1173 (lv_at hl 9 rfl) ?_
        refine z_ci J (z_rV (As := [.ref nq_2, .int (nI wd), .int (nI sg)]) (rest := []) (ci := 8) (q0 := 11) X J (cX7_tried_ok l E (fa := (ftake fa f (nf - 1))) G2_11 G2_12 N2_0 G2_14 hSN ((hSE.keepI hk).tak (k := f) (by omega)) (by omega) (okF_tak hok (by omega)) (hSR.keepI hk) hnr hor hw4 hRB (nI_BI2 (lo := 1) (hi := 9) (by omega) (by omega) (by omega)) hu9) (cwV 3 hts (goodIn_ext3 gL_law_X7_tried) rfl rfl rfl (by decide +kernel) ⟨Nat.le_of_ble_eq_true rfl, Nat.le_of_ble_eq_true rfl⟩) G2_11 rfl rfl rfl hl.1 rfl (Nat.le_of_ble_eq_true rfl) dL_law_1175 ⟨by show _ ≤ 1106048; omega, by show _ ≤ 5783625; omega⟩) (fun r1175 ws_3 H locs hp9 J => ?_)
        obtain ⟨k3, e_r1175⟩ := hp9
        have hF := hF.keepS k3 (fun q9 hq9 => absurd hq9 List.not_mem_nil)
        have hR := hR.keepS k3 (fun q9 hq9 => absurd hq9 List.not_mem_nil)
        have hSN := hSN.keep k3 (fun _ _ => List.not_mem_nil)
        have hk := hk.step k3 (fun _ _ _ _ _ _ _ => List.not_mem_nil)
        have G3_0 := k3.2 0 _ List.not_mem_nil G2_0
        have G3_1 := k3.2 1 _ List.not_mem_nil G2_1
        have G3_2 := k3.2 2 _ List.not_mem_nil G2_2
        have G3_3 := k3.2 3 _ List.not_mem_nil G2_3
        have G3_4 := k3.2 4 _ List.not_mem_nil G2_4
        have G3_5 := k3.2 5 _ List.not_mem_nil G2_5
        have G3_6 := k3.2 6 _ List.not_mem_nil G2_6
        have G3_7 := k3.2 7 _ List.not_mem_nil G2_7
        have G3_8 := k3.2 8 _ List.not_mem_nil G2_8
        have G3_9 := k3.2 9 _ List.not_mem_nil G2_9
        have G3_10 := k3.2 10 _ List.not_mem_nil G2_10
        have G3_11 := k3.2 11 _ List.not_mem_nil G2_11
        have G3_12 := k3.2 14 _ List.not_mem_nil G2_12
        have G3_13 := k3.2 qf _ List.not_mem_nil G2_13
        have G3_14 := k3.2 qr _ List.not_mem_nil G2_14
        have G3_15 := k3.2 pn_2_0 _ List.not_mem_nil N2_0
        subst e_r1175
        refine W.eq (g2 := F0 m 1178 ls [.int (harF fa nf (nI sg) sup (nI wd) sn rd ri lim nr f)]) (congrArg (fun z9 : Int32 => F0 m 1178 ls [.int z9]) (show (allB (hsS (nI sg) sup (hgS (ftake fa f (nf - 1)) (-1) (nf - 1)).1 (hgS (ftake fa f (nf - 1)) (-1) (nf - 1)).2 (nI wd) sn 4).2.1 rd ri lim nr : Int32) = harF fa nf (nI sg) sup (nI wd) sn rd ri lim nr f from (har_take (by omega) hnf))) ?_
        refine lv_istore (lv' := [(26, .int (harF fa nf (nI sg) sup (nI wd) sn rd ri lim nr f)), (29, .int (nI f)), (28, .int (harA fa nf (nI sg) sup (nI wd) sn rd ri lim nr (-1))), (27, .int (harA fa nf (nI sg) sup (nI wd) sn rd ri lim nr (-1))), (0, .ref E.2.2.2.2.1), (1, .ref x), (2, .ref z), (3, .int (nI t)), (4, .int xv), (5, .int (nI wd)), (6, .int (nI sg)), (7, .int (nI hh)), (22, .int (-1))]) hx hb dL_law_1178 hl (by decide) rfl (fun ls hl => ?_)
        refine lv_iload hx hb dL_law_1180 (lv_at hl 0 rfl) ?_
        refine lv_iload hx hb dL_law_1182 (lv_at hl 2 rfl) ?_
        refine lv_icmp_lt (tgt := 1206) hx hb dL_law_1184 (by decide) (fun cz1184 => by exact (hv2 f (by omega) cz1184).elim) (fun cz1184 => ?_)
        refine lv_iload hx hb dL_law_1187 (lv_at hl 12 rfl) ?_
        refine lv_if_lt (tgt := 1208) hx hb dL_law_1189 (by decide) (fun cz1189 => ?_) (fun cz1189 => by exact absurd cz1189 (by decide))
        refine lv_iinc (v := nI (f + 1)) (lv' := [(29, .int (nI (f + 1))), (26, .int (harF fa nf (nI sg) sup (nI wd) sn rd ri lim nr f)), (28, .int (harA fa nf (nI sg) sup (nI wd) sn rd ri lim nr (-1))), (27, .int (harA fa nf (nI sg) sup (nI wd) sn rd ri lim nr (-1))), (0, .ref E.2.2.2.2.1), (1, .ref x), (2, .ref z), (3, .int (nI t)), (4, .int xv), (5, .int (nI wd)), (6, .int (nI sg)), (7, .int (nI hh)), (22, .int (-1))]) hx hb dL_law_1208 hl (k := 1) rfl (nI_1 f) (by decide) rfl (fun ls hl => ?_)
        refine lv_goto (tgt := 1151) hx hb dL_law_1211 (by decide) ?_
        refine W.widen (k := (cells + 13369 + 6685 * (f + 1))) (n := (slots + 27268 + 13640 * (f + 1))) (by omega) (by omega) ?_
        exact ih_1151 (f + 1) (by omega) _ _ _ _ hk G3_0 G3_1 G3_2 G3_3 G3_4 G3_5 G3_6 G3_7 G3_8 G3_9 G3_10 G3_11 G3_12 G3_13 G3_14 hF hR hSN J (lv_sub hl [0, 2, 3, 4, 5, 6, 7, 8, 9, 10, 11, 12] rfl)
    exact loop_1151 nf 0 (by omega) _ _ _ _ hk G1_0 G1_1 G1_2 G1_3 G1_4 G1_5 G1_6 G1_7 G1_8 G1_9 G1_10 G1_11 G1_12 G1_13 G1_14 hF hR hSN J (lv_sub hl [0, 1, 2, 3, 4, 5, 6, 7, 8, 9, 10, 11] rfl)
  · subst hv1
    refine lv_aload_n hx hb dL_law_1091 rfl (lv_at hl 2 rfl) ?_
    refine lv_aload_n hx hb dL_law_1092 rfl (lv_at hl 2 rfl) ?_
    refine z_get (C := RX7) (T := TX7) (N := 8) (ci := 8) (v := .ref fe) X J hi_X7 11 Fa11 rfl 0 (by decide) (by decide +kernel) rfl dL_law_1093 ?_
    refine lv_iload hx hb dL_law_1096 (lv_at hl 5 rfl) ?_
    refine lv_iload hx hb dL_law_1098 (lv_at hl 6 rfl) ?_
    refine z_ci J (z_rV (As := [.ref fe, .int (nI wd), .int (nI sg)]) (rest := []) (ci := 8) (q0 := 11) X J (cX7_tried_ok l E Fa11 Fa12 Fa13 Fa14 hSN (hSE.keepI hk) (by omega) hok (hSR.keepI hk) hnr hor hw4 hRB (nI_BI2 (lo := 1) (hi := 9) (by omega) (by omega) (by omega)) hu9) (cwV 3 hts (goodIn_ext3 gL_law_X7_tried) rfl rfl rfl (by decide +kernel) ⟨Nat.le_of_ble_eq_true rfl, Nat.le_of_ble_eq_true rfl⟩) Fa11 rfl rfl rfl hl.1 rfl (Nat.le_of_ble_eq_true rfl) dL_law_1100 ⟨by show _ ≤ 1106048; omega, by show _ ≤ 5783625; omega⟩) (fun r1100 ws_1 H locs hp9 J => ?_)
    obtain ⟨k1, e_r1100⟩ := hp9
    have hF := hF.keepS k1 (fun q9 hq9 => absurd hq9 List.not_mem_nil)
    have hR := hR.keepS k1 (fun q9 hq9 => absurd hq9 List.not_mem_nil)
    have hSN := hSN.keep k1 (fun _ _ => List.not_mem_nil)
    have hk := hk.step k1 (fun _ _ _ _ _ _ _ => List.not_mem_nil)
    have G1_0 := k1.2 0 _ List.not_mem_nil Fa0
    have G1_1 := k1.2 1 _ List.not_mem_nil Fa1
    have G1_2 := k1.2 2 _ List.not_mem_nil Fa2
    have G1_3 := k1.2 3 _ List.not_mem_nil Fa3
    have G1_4 := k1.2 4 _ List.not_mem_nil Fa4
    have G1_5 := k1.2 5 _ List.not_mem_nil Fa5
    have G1_6 := k1.2 6 _ List.not_mem_nil Fa6
    have G1_7 := k1.2 7 _ List.not_mem_nil Fa7
    have G1_8 := k1.2 8 _ List.not_mem_nil Fa8
    have G1_9 := k1.2 9 _ List.not_mem_nil Fa9
    have G1_10 := k1.2 10 _ List.not_mem_nil Fa10
    have G1_11 := k1.2 11 _ List.not_mem_nil Fa11
    have G1_12 := k1.2 14 _ List.not_mem_nil Fa12
    have G1_13 := k1.2 qf _ List.not_mem_nil Fa13
    have G1_14 := k1.2 qr _ List.not_mem_nil Fa14
    subst e_r1100
    refine W.eq (g2 := F0 m 1103 ls [.int (harA fa nf (nI sg) sup (nI wd) sn rd ri lim nr (-1))]) (congrArg (fun z9 : Int32 => F0 m 1103 ls [.int z9]) (show (allB (hsS (nI sg) sup (hgS fa (-1) nf).1 (hgS fa (-1) nf).2 (nI wd) sn 4).2.1 rd ri lim nr : Int32) = harA fa nf (nI sg) sup (nI wd) sn rd ri lim nr (-1) from rfl)) ?_
    refine lv_istore (lv' := [(27, .int (harA fa nf (nI sg) sup (nI wd) sn rd ri lim nr (-1))), (0, .ref E.2.2.2.2.1), (1, .ref x), (2, .ref z), (3, .int (nI t)), (4, .int xv), (5, .int (nI wd)), (6, .int (nI sg)), (7, .int (nI hh)), (22, .int (nI kh))]) hx hb dL_law_1103 hl (by decide) rfl (fun ls hl => ?_)
    refine lv_iload hx hb dL_law_1105 (lv_at hl 9 rfl) ?_
    refine lv_if_ge (tgt := 1115) hx hb dL_law_1107 (by decide) (fun cz1107 => ?_) (fun cz1107 => by exact (cz1107 (Int32.not_lt.mp (nI_pos (by omega)))).elim)
    refine lv_aload_n hx hb dL_law_1115 rfl (lv_at hl 3 rfl) ?_
    refine lv_aload_n hx hb dL_law_1116 rfl (lv_at hl 3 rfl) ?_
    refine z_get (C := RX7) (T := TX7) (N := 8) (ci := 8) (v := .ref fe) X J hi_X7 11 G1_11 rfl 0 (by decide) (by decide +kernel) rfl dL_law_1117 ?_
    refine lv_iload hx hb dL_law_1120 (lv_at hl 9 rfl) ?_
    refine z_cq J (z_rS (As := [.ref fe, .int (nI kh)]) (rest := [.ref z]) X J (cX7_without_ok l E G1_13 (fun j9 hj9 => (hSE.keepI hk j9 hj9).elim (fun a9 h9 => h9.elim (fun q9 h9 => h9.elim (fun f9 h9 => ⟨a9, q9, 6, f9, h9.1, h9.2.2.1⟩)))) hnf (by omega)) (va_cwS 2 hts (goodIn_ext3 gL_law_X7_without) rfl rfl rfl (by decide +kernel) ⟨Nat.le_of_ble_eq_true rfl, Nat.le_of_ble_eq_true rfl⟩) rfl hl.1 rfl (Nat.le_of_ble_eq_true rfl) dL_law_1122 ⟨by show _ ≤ 1106048; omega, by show _ ≤ 5783625; omega⟩) (fun r1122 ws_2 H locs hp9 J => ?_)
    obtain ⟨k2, ⟨nq_2, hlen2, N2_0, e_r1122⟩⟩ := hp9
    have hF := hF.keepS k2 (fun q9 hq9 => absurd hq9 List.not_mem_nil)
    have hR := hR.keepS k2 (fun q9 hq9 => absurd hq9 List.not_mem_nil)
    have hSN := hSN.keep k2 (fun _ _ => List.not_mem_nil)
    have lp2 := hk.1
    have b_2_0 := zlt G1_0
    have b_2_1 := zlt G1_1
    have b_2_2 := zlt G1_2
    have b_2_3 := zlt G1_3
    have b_2_4 := zlt G1_4
    have b_2_5 := zlt G1_5
    have b_2_6 := zlt G1_6
    have b_2_7 := zlt G1_7
    have b_2_8 := zlt G1_8
    have b_2_9 := zlt G1_9
    have b_2_10 := zlt G1_10
    have b_2_11 := zlt G1_11
    have b_2_12 := zlt G1_12
    have b_2_13 := zlt G1_13
    have b_2_14 := zlt G1_14
    have hk := hk.step k2 (fun _ _ _ _ _ _ _ => List.not_mem_nil)
    have G2_0 := k2.2 0 _ List.not_mem_nil G1_0
    have G2_1 := k2.2 1 _ List.not_mem_nil G1_1
    have G2_2 := k2.2 2 _ List.not_mem_nil G1_2
    have G2_3 := k2.2 3 _ List.not_mem_nil G1_3
    have G2_4 := k2.2 4 _ List.not_mem_nil G1_4
    have G2_5 := k2.2 5 _ List.not_mem_nil G1_5
    have G2_6 := k2.2 6 _ List.not_mem_nil G1_6
    have G2_7 := k2.2 7 _ List.not_mem_nil G1_7
    have G2_8 := k2.2 8 _ List.not_mem_nil G1_8
    have G2_9 := k2.2 9 _ List.not_mem_nil G1_9
    have G2_10 := k2.2 10 _ List.not_mem_nil G1_10
    have G2_11 := k2.2 11 _ List.not_mem_nil G1_11
    have G2_12 := k2.2 14 _ List.not_mem_nil G1_12
    have G2_13 := k2.2 qf _ List.not_mem_nil G1_13
    have G2_14 := k2.2 qr _ List.not_mem_nil G1_14
    obtain ⟨pn_2_0, hpn_2_0⟩ : ∃ z : Nat, z = ws_1.length + 0 := ⟨_, rfl⟩
    rw [← hpn_2_0] at N2_0
    subst e_r1122
    refine W.eq (g2 := F0 m 1125 ls [.ref nq_2, .ref z]) rfl ?_
    refine lv_iload hx hb dL_law_1125 (lv_at hl 6 rfl) ?_
    refine lv_iload hx hb dL_law_1127 (lv_at hl 7 rfl) ?_
    refine z_ci J (z_rV (As := [.ref nq_2, .int (nI wd), .int (nI sg)]) (rest := []) (ci := 8) (q0 := 11) X J (cX7_tried_ok l E (fa := (ftake fa kh (nf - 1))) G2_11 G2_12 N2_0 G2_14 hSN ((hSE.keepI hk).tak (k := kh) (by omega)) (by omega) (okF_tak hok (by omega)) (hSR.keepI hk) hnr hor hw4 hRB (nI_BI2 (lo := 1) (hi := 9) (by omega) (by omega) (by omega)) hu9) (cwV 3 hts (goodIn_ext3 gL_law_X7_tried) rfl rfl rfl (by decide +kernel) ⟨Nat.le_of_ble_eq_true rfl, Nat.le_of_ble_eq_true rfl⟩) G2_11 rfl rfl rfl hl.1 rfl (Nat.le_of_ble_eq_true rfl) dL_law_1129 ⟨by show _ ≤ 1106048; omega, by show _ ≤ 5783625; omega⟩) (fun r1129 ws_3 H locs hp9 J => ?_)
    obtain ⟨k3, e_r1129⟩ := hp9
    have hF := hF.keepS k3 (fun q9 hq9 => absurd hq9 List.not_mem_nil)
    have hR := hR.keepS k3 (fun q9 hq9 => absurd hq9 List.not_mem_nil)
    have hSN := hSN.keep k3 (fun _ _ => List.not_mem_nil)
    have hk := hk.step k3 (fun _ _ _ _ _ _ _ => List.not_mem_nil)
    have G3_0 := k3.2 0 _ List.not_mem_nil G2_0
    have G3_1 := k3.2 1 _ List.not_mem_nil G2_1
    have G3_2 := k3.2 2 _ List.not_mem_nil G2_2
    have G3_3 := k3.2 3 _ List.not_mem_nil G2_3
    have G3_4 := k3.2 4 _ List.not_mem_nil G2_4
    have G3_5 := k3.2 5 _ List.not_mem_nil G2_5
    have G3_6 := k3.2 6 _ List.not_mem_nil G2_6
    have G3_7 := k3.2 7 _ List.not_mem_nil G2_7
    have G3_8 := k3.2 8 _ List.not_mem_nil G2_8
    have G3_9 := k3.2 9 _ List.not_mem_nil G2_9
    have G3_10 := k3.2 10 _ List.not_mem_nil G2_10
    have G3_11 := k3.2 11 _ List.not_mem_nil G2_11
    have G3_12 := k3.2 14 _ List.not_mem_nil G2_12
    have G3_13 := k3.2 qf _ List.not_mem_nil G2_13
    have G3_14 := k3.2 qr _ List.not_mem_nil G2_14
    have G3_15 := k3.2 pn_2_0 _ List.not_mem_nil N2_0
    subst e_r1129
    refine W.eq (g2 := F0 m 1132 ls [.int (harF fa nf (nI sg) sup (nI wd) sn rd ri lim nr kh)]) (congrArg (fun z9 : Int32 => F0 m 1132 ls [.int z9]) (show (allB (hsS (nI sg) sup (hgS (ftake fa kh (nf - 1)) (-1) (nf - 1)).1 (hgS (ftake fa kh (nf - 1)) (-1) (nf - 1)).2 (nI wd) sn 4).2.1 rd ri lim nr : Int32) = harF fa nf (nI sg) sup (nI wd) sn rd ri lim nr kh from (har_take (by omega) hnf))) ?_
    refine lv_istore (lv' := [(28, .int (harF fa nf (nI sg) sup (nI wd) sn rd ri lim nr kh)), (27, .int (harA fa nf (nI sg) sup (nI wd) sn rd ri lim nr (-1))), (0, .ref E.2.2.2.2.1), (1, .ref x), (2, .ref z), (3, .int (nI t)), (4, .int xv), (5, .int (nI wd)), (6, .int (nI sg)), (7, .int (nI hh)), (22, .int (nI kh))]) hx hb dL_law_1132 hl (by decide) rfl (fun ls hl => ?_)
    refine lv_iload hx hb dL_law_1134 (lv_at hl 10 rfl) ?_
    refine lv_if_lt (tgt := 1148) hx hb dL_law_1136 (by decide) (fun cz1136 => by exact (nI_pos (by omega) cz1136).elim) (fun cz1136 => ?_)
    refine lv_iload hx hb dL_law_1139 (lv_at hl 0 rfl) ?_
    refine lv_iload hx hb dL_law_1141 (lv_at hl 1 rfl) ?_
    refine lv_icmp_lt (tgt := 1148) hx hb dL_law_1143 (by decide) (fun cz1143 => ?_) (fun cz1143 => by exact (cz1143 hk2).elim)
    refine lv_iconst (v := nI 0) hx hb dL_law_1148 rfl ?_
    refine lv_istore (lv' := [(29, .int (nI 0)), (28, .int (harF fa nf (nI sg) sup (nI wd) sn rd ri lim nr kh)), (27, .int (harA fa nf (nI sg) sup (nI wd) sn rd ri lim nr (-1))), (0, .ref E.2.2.2.2.1), (1, .ref x), (2, .ref z), (3, .int (nI t)), (4, .int xv), (5, .int (nI wd)), (6, .int (nI sg)), (7, .int (nI hh)), (22, .int (nI kh))]) hx hb dL_law_1149 hl (by decide) rfl (fun ls hl => ?_)
    refine W.widen (k := cells + 13369 + 6685 * 0) (n := slots + 27268 + 13640 * 0) (by omega) (by omega) ?_
    have loop_1151 : ∀ (k9 f : Nat), f + k9 = nf → ∀ (wl1151 : va_W) (H : Heap) (locs : List Loc) (ls : Array Slot), zKi E ws wl1151 → wl1151[0]? = some (x, .inr (7, [.ref fl, .ref rl, .ref wh, .ref gr, .ref tr, .ref sc, .int lim, .int sup, .int off, .int plo, .int hrs])) → wl1151[1]? = some (fl, .inr (0, [.int mc1, .ref ea, .int (nI nf)])) → wl1151[2]? = some (rl, .inr (0, [.int mc2, .ref eb, .int (nI nr)])) → wl1151[3]? = some (wh, .inr (5, [.int (0 * 20 + 0), .int (nI 400), .int 0])) → wl1151[4]? = some (gr, .inr (2, [.ref gra])) → wl1151[5]? = some (gra, zI4 E 400 sn) → wl1151[6]? = some (tr, .inr (2, [.ref tra])) → wl1151[7]? = some (tra, zI4 E 400 t9) → wl1151[8]? = some (sc, .inr (4, [.ref ha, .ref va])) → wl1151[9]? = some (ha, zI4 E 400 hf) → wl1151[10]? = some (va, zI4 E 400 gf) → wl1151[11]? = some (z, .inr (8, [.ref fe, .ref ro, .ref sa, .int lim, .int sup, .int off, .int plo, .int hrs])) → wl1151[14]? = some (sa, zA4 E 20 gs) → wl1151[qf]? = some (fe, zA4 E nf g) → wl1151[qr]? = some (ro, zA4 E nr gq) → wl1151[pn_2_0]? = some (nq_2, zA4 E (nf - 1) (oO g kh (nf - 1))) → FS E wl1151 fa ea nf → RS E wl1151 rd ri eb nr → SN E wl1151 15 gs sn → zJ E wl1151 s H locs → lv_has ls 30 [(29, .int (nI f)), (28, .int (harF fa nf (nI sg) sup (nI wd) sn rd ri lim nr kh)), (27, .int (harA fa nf (nI sg) sup (nI wd) sn rd ri lim nr (-1))), (0, .ref E.2.2.2.2.1), (1, .ref x), (2, .ref z), (3, .int (nI t)), (4, .int xv), (5, .int (nI wd)), (6, .int (nI sg)), (7, .int (nI hh)), (22, .int (nI kh))] → W p l e room_1 s m #[.ref E.2.2.2.2.1] below meth c H locs (cells + 13369 + 6685 * f) (slots + 27268 + 13640 * f) QQ (F0 m 1151 ls []) := by
      intro k9
      induction k9 with
      | zero =>
        intro f hik wl1151 H locs ls hk L1151_0 L1151_1 L1151_2 L1151_3 L1151_4 L1151_5 L1151_6 L1151_7 L1151_8 L1151_9 L1151_10 L1151_11 L1151_12 L1151_13 L1151_14 L1151_15 hF hR hSN J hl
        obtain rfl : nf = f := by omega
        refine lv_iload hx hb dL_law_1151 (lv_at hl 0 rfl) ?_
        refine lv_aload_n hx hb dL_law_1153 rfl (lv_at hl 5 rfl) ?_
        refine z_get (C := RX7) (T := TX7) (N := 8) (ci := 8) (v := .ref fe) X J hi_X7 11 L1151_11 rfl 0 (by decide) (by decide +kernel) rfl dL_law_1154 ?_
        refine z_alenA (v := nI nf) X J qf L1151_13 rfl dL_law_1157 ?_
        refine lv_icmp_ge (tgt := 1214) hx hb dL_law_1158 (by decide) (fun cz1158 => ?_) (fun cz1158 => by exact (cz1158 (nI_le (Nat.le_refl _) (by omega))).elim)
        refine W.widen (k := cells + 80300) (n := slots + 164000) (by omega) (by omega) ?_
        exact kk _ H locs _ ⟨L1151_0, L1151_1, L1151_2, L1151_3, L1151_4, L1151_5, L1151_6, L1151_7, L1151_8, L1151_9, L1151_10, L1151_11, L1151_12, L1151_13, L1151_14, ⟨by omega, by omega⟩, hF, hR, hSep, (hSE.keepI hk), (hSR.keepI hk), hSN, hnf, hnr, hok, hor, hRB, hu9, hlm, (Nat.le_trans hln hk.1)⟩ J (lv_sub hl [3, 4, 5, 6] rfl)
      | succ k9 ih_1151 =>
        intro f hik wl1151 H locs ls hk L1151_0 L1151_1 L1151_2 L1151_3 L1151_4 L1151_5 L1151_6 L1151_7 L1151_8 L1151_9 L1151_10 L1151_11 L1151_12 L1151_13 L1151_14 L1151_15 hF hR hSN J hl
        refine lv_iload hx hb dL_law_1151 (lv_at hl 0 rfl) ?_
        refine lv_aload_n hx hb dL_law_1153 rfl (lv_at hl 5 rfl) ?_
        refine z_get (C := RX7) (T := TX7) (N := 8) (ci := 8) (v := .ref fe) X J hi_X7 11 L1151_11 rfl 0 (by decide) (by decide +kernel) rfl dL_law_1154 ?_
        refine z_alenA (v := nI nf) X J qf L1151_13 rfl dL_law_1157 ?_
        refine lv_icmp_ge (tgt := 1214) hx hb dL_law_1158 (by decide) (fun cz1158 => by exact (nI_ge (by omega) (by omega) cz1158).elim) (fun cz1158 => ?_)
        refine lv_aload_n hx hb dL_law_1161 rfl (lv_at hl 5 rfl) ?_
        refine lv_aload_n hx hb dL_law_1162 rfl (lv_at hl 5 rfl) ?_
        refine z_get (C := RX7) (T := TX7) (N := 8) (ci := 8) (v := .ref fe) X J hi_X7 11 L1151_11 rfl 0 (by decide) (by decide +kernel) rfl dL_law_1163 ?_
        refine lv_iload hx hb dL_law_1166 (lv_at hl 0 rfl) ?_
        refine z_cq J (z_rS (As := [.ref fe, .int (nI f)]) (rest := [.ref z]) X J (cX7_without_ok l E L1151_13 (fun j9 hj9 => (hSE.keepI hk j9 hj9).elim (fun a9 h9 => h9.elim (fun q9 h9 => h9.elim (fun f9 h9 => ⟨a9, q9, 6, f9, h9.1, h9.2.2.1⟩)))) hnf (by omega)) (va_cwS 2 hts (goodIn_ext3 gL_law_X7_without) rfl rfl rfl (by decide +kernel) ⟨Nat.le_of_ble_eq_true rfl, Nat.le_of_ble_eq_true rfl⟩) rfl hl.1 rfl (Nat.le_of_ble_eq_true rfl) dL_law_1168 ⟨by show _ ≤ 1106048; omega, by show _ ≤ 5783625; omega⟩) (fun r1168 ws_4 H locs hp9 J => ?_)
        obtain ⟨k4, ⟨nq_4, hlen4, N4_0, e_r1168⟩⟩ := hp9
        have hF := hF.keepS k4 (fun q9 hq9 => absurd hq9 List.not_mem_nil)
        have hR := hR.keepS k4 (fun q9 hq9 => absurd hq9 List.not_mem_nil)
        have hSN := hSN.keep k4 (fun _ _ => List.not_mem_nil)
        have lp4 := hk.1
        have b_4_0 := zlt L1151_0
        have b_4_1 := zlt L1151_1
        have b_4_2 := zlt L1151_2
        have b_4_3 := zlt L1151_3
        have b_4_4 := zlt L1151_4
        have b_4_5 := zlt L1151_5
        have b_4_6 := zlt L1151_6
        have b_4_7 := zlt L1151_7
        have b_4_8 := zlt L1151_8
        have b_4_9 := zlt L1151_9
        have b_4_10 := zlt L1151_10
        have b_4_11 := zlt L1151_11
        have b_4_12 := zlt L1151_12
        have b_4_13 := zlt L1151_13
        have b_4_14 := zlt L1151_14
        have b_4_15 := zlt L1151_15
        have hk := hk.step k4 (fun _ _ _ _ _ _ _ => List.not_mem_nil)
        have G4_0 := k4.2 0 _ List.not_mem_nil L1151_0
        have G4_1 := k4.2 1 _ List.not_mem_nil L1151_1
        have G4_2 := k4.2 2 _ List.not_mem_nil L1151_2
        have G4_3 := k4.2 3 _ List.not_mem_nil L1151_3
        have G4_4 := k4.2 4 _ List.not_mem_nil L1151_4
        have G4_5 := k4.2 5 _ List.not_mem_nil L1151_5
        have G4_6 := k4.2 6 _ List.not_mem_nil L1151_6
        have G4_7 := k4.2 7 _ List.not_mem_nil L1151_7
        have G4_8 := k4.2 8 _ List.not_mem_nil L1151_8
        have G4_9 := k4.2 9 _ List.not_mem_nil L1151_9
        have G4_10 := k4.2 10 _ List.not_mem_nil L1151_10
        have G4_11 := k4.2 11 _ List.not_mem_nil L1151_11
        have G4_12 := k4.2 14 _ List.not_mem_nil L1151_12
        have G4_13 := k4.2 qf _ List.not_mem_nil L1151_13
        have G4_14 := k4.2 qr _ List.not_mem_nil L1151_14
        have G4_15 := k4.2 pn_2_0 _ List.not_mem_nil L1151_15
        obtain ⟨pn_4_0, hpn_4_0⟩ : ∃ z : Nat, z = wl1151.length + 0 := ⟨_, rfl⟩
        rw [← hpn_4_0] at N4_0
        subst e_r1168
        refine W.eq (g2 := F0 m 1171 ls [.ref nq_4, .ref z]) rfl ?_
        refine lv_iload hx hb dL_law_1171 (lv_at hl 8 rfl) ?_
        refine lv_iload hx hb dL_law_1173 (lv_at hl 9 rfl) ?_
        refine z_ci J (z_rV (As := [.ref nq_4, .int (nI wd), .int (nI sg)]) (rest := []) (ci := 8) (q0 := 11) X J (cX7_tried_ok l E (fa := (ftake fa f (nf - 1))) G4_11 G4_12 N4_0 G4_14 hSN ((hSE.keepI hk).tak (k := f) (by omega)) (by omega) (okF_tak hok (by omega)) (hSR.keepI hk) hnr hor hw4 hRB (nI_BI2 (lo := 1) (hi := 9) (by omega) (by omega) (by omega)) hu9) (cwV 3 hts (goodIn_ext3 gL_law_X7_tried) rfl rfl rfl (by decide +kernel) ⟨Nat.le_of_ble_eq_true rfl, Nat.le_of_ble_eq_true rfl⟩) G4_11 rfl rfl rfl hl.1 rfl (Nat.le_of_ble_eq_true rfl) dL_law_1175 ⟨by show _ ≤ 1106048; omega, by show _ ≤ 5783625; omega⟩) (fun r1175 ws_5 H locs hp9 J => ?_)
        obtain ⟨k5, e_r1175⟩ := hp9
        have hF := hF.keepS k5 (fun q9 hq9 => absurd hq9 List.not_mem_nil)
        have hR := hR.keepS k5 (fun q9 hq9 => absurd hq9 List.not_mem_nil)
        have hSN := hSN.keep k5 (fun _ _ => List.not_mem_nil)
        have hk := hk.step k5 (fun _ _ _ _ _ _ _ => List.not_mem_nil)
        have G5_0 := k5.2 0 _ List.not_mem_nil G4_0
        have G5_1 := k5.2 1 _ List.not_mem_nil G4_1
        have G5_2 := k5.2 2 _ List.not_mem_nil G4_2
        have G5_3 := k5.2 3 _ List.not_mem_nil G4_3
        have G5_4 := k5.2 4 _ List.not_mem_nil G4_4
        have G5_5 := k5.2 5 _ List.not_mem_nil G4_5
        have G5_6 := k5.2 6 _ List.not_mem_nil G4_6
        have G5_7 := k5.2 7 _ List.not_mem_nil G4_7
        have G5_8 := k5.2 8 _ List.not_mem_nil G4_8
        have G5_9 := k5.2 9 _ List.not_mem_nil G4_9
        have G5_10 := k5.2 10 _ List.not_mem_nil G4_10
        have G5_11 := k5.2 11 _ List.not_mem_nil G4_11
        have G5_12 := k5.2 14 _ List.not_mem_nil G4_12
        have G5_13 := k5.2 qf _ List.not_mem_nil G4_13
        have G5_14 := k5.2 qr _ List.not_mem_nil G4_14
        have G5_15 := k5.2 pn_2_0 _ List.not_mem_nil G4_15
        have G5_16 := k5.2 pn_4_0 _ List.not_mem_nil N4_0
        subst e_r1175
        refine W.eq (g2 := F0 m 1178 ls [.int (harF fa nf (nI sg) sup (nI wd) sn rd ri lim nr f)]) (congrArg (fun z9 : Int32 => F0 m 1178 ls [.int z9]) (show (allB (hsS (nI sg) sup (hgS (ftake fa f (nf - 1)) (-1) (nf - 1)).1 (hgS (ftake fa f (nf - 1)) (-1) (nf - 1)).2 (nI wd) sn 4).2.1 rd ri lim nr : Int32) = harF fa nf (nI sg) sup (nI wd) sn rd ri lim nr f from (har_take (by omega) hnf))) ?_
        refine lv_istore (lv' := [(26, .int (harF fa nf (nI sg) sup (nI wd) sn rd ri lim nr f)), (29, .int (nI f)), (28, .int (harF fa nf (nI sg) sup (nI wd) sn rd ri lim nr kh)), (27, .int (harA fa nf (nI sg) sup (nI wd) sn rd ri lim nr (-1))), (0, .ref E.2.2.2.2.1), (1, .ref x), (2, .ref z), (3, .int (nI t)), (4, .int xv), (5, .int (nI wd)), (6, .int (nI sg)), (7, .int (nI hh)), (22, .int (nI kh))]) hx hb dL_law_1178 hl (by decide) rfl (fun ls hl => ?_)
        refine lv_iload hx hb dL_law_1180 (lv_at hl 0 rfl) ?_
        refine lv_iload hx hb dL_law_1182 (lv_at hl 2 rfl) ?_
        refine lv_icmp_lt (tgt := 1206) hx hb dL_law_1184 (by decide) (fun cz1184 => by exact (hk3 f (by omega) cz1184).elim) (fun cz1184 => ?_)
        refine lv_iload hx hb dL_law_1187 (lv_at hl 12 rfl) ?_
        refine lv_if_lt (tgt := 1208) hx hb dL_law_1189 (by decide) (fun cz1189 => by exact (nI_pos (by omega) cz1189).elim) (fun cz1189 => ?_)
        refine lv_iload hx hb dL_law_1192 (lv_at hl 0 rfl) ?_
        refine lv_iload hx hb dL_law_1194 (lv_at hl 2 rfl) ?_
        refine lv_icmp_ne (tgt := 1208) hx hb dL_law_1196 (by decide) (fun cz1196 => ?_) (fun cz1196 => ?_)
        · refine lv_iinc (v := nI (f + 1)) (lv' := [(29, .int (nI (f + 1))), (26, .int (harF fa nf (nI sg) sup (nI wd) sn rd ri lim nr f)), (28, .int (harF fa nf (nI sg) sup (nI wd) sn rd ri lim nr kh)), (27, .int (harA fa nf (nI sg) sup (nI wd) sn rd ri lim nr (-1))), (0, .ref E.2.2.2.2.1), (1, .ref x), (2, .ref z), (3, .int (nI t)), (4, .int xv), (5, .int (nI wd)), (6, .int (nI sg)), (7, .int (nI hh)), (22, .int (nI kh))]) hx hb dL_law_1208 hl (k := 1) rfl (nI_1 f) (by decide) rfl (fun ls hl => ?_)
          refine lv_goto (tgt := 1151) hx hb dL_law_1211 (by decide) ?_
          refine W.widen (k := (cells + 13369 + 6685 * (f + 1))) (n := (slots + 27268 + 13640 * (f + 1))) (by omega) (by omega) ?_
          exact ih_1151 (f + 1) (by omega) _ _ _ _ hk G5_0 G5_1 G5_2 G5_3 G5_4 G5_5 G5_6 G5_7 G5_8 G5_9 G5_10 G5_11 G5_12 G5_13 G5_14 G5_15 hF hR hSN J (lv_sub hl [0, 2, 3, 4, 5, 6, 7, 8, 9, 10, 11, 12] rfl)
        · refine lv_iload hx hb dL_law_1199 (lv_at hl 1 rfl) ?_
          refine lv_iload hx hb dL_law_1201 (lv_at hl 12 rfl) ?_
          refine lv_icmp_ge (tgt := 1208) hx hb dL_law_1203 (by decide) (fun cz1203 => ?_) (fun cz1203 => by exact (Int32.lt_irrefl (i32lteq (hk4 f (Nat.lt_of_not_le (fun q9 => cz1203 (nI_le q9 (by omega))))) cz1196)).elim)
          refine lv_iinc (v := nI (f + 1)) (lv' := [(29, .int (nI (f + 1))), (26, .int (harF fa nf (nI sg) sup (nI wd) sn rd ri lim nr f)), (28, .int (harF fa nf (nI sg) sup (nI wd) sn rd ri lim nr kh)), (27, .int (harA fa nf (nI sg) sup (nI wd) sn rd ri lim nr (-1))), (0, .ref E.2.2.2.2.1), (1, .ref x), (2, .ref z), (3, .int (nI t)), (4, .int xv), (5, .int (nI wd)), (6, .int (nI sg)), (7, .int (nI hh)), (22, .int (nI kh))]) hx hb dL_law_1208 hl (k := 1) rfl (nI_1 f) (by decide) rfl (fun ls hl => ?_)
          refine lv_goto (tgt := 1151) hx hb dL_law_1211 (by decide) ?_
          refine W.widen (k := (cells + 13369 + 6685 * (f + 1))) (n := (slots + 27268 + 13640 * (f + 1))) (by omega) (by omega) ?_
          exact ih_1151 (f + 1) (by omega) _ _ _ _ hk G5_0 G5_1 G5_2 G5_3 G5_4 G5_5 G5_6 G5_7 G5_8 G5_9 G5_10 G5_11 G5_12 G5_13 G5_14 G5_15 hF hR hSN J (lv_sub hl [0, 2, 3, 4, 5, 6, 7, 8, 9, 10, 11, 12] rfl)
    exact loop_1151 nf 0 (by omega) _ _ _ _ hk G3_0 G3_1 G3_2 G3_3 G3_4 G3_5 G3_6 G3_7 G3_8 G3_9 G3_10 G3_11 G3_12 G3_13 G3_14 G3_15 hF hR hSN J (lv_sub hl [0, 1, 2, 3, 4, 5, 6, 7, 8, 9, 10, 11] rfl)
