set_option maxHeartbeats 400000 in
set_option maxRecDepth 100000 in
theorem cL_act_l_ok (l : Launch) (hflags : l.flags = flags0) (E : zG) {ws : va_W} {x fl rl wh gr gra tr tra sc ha va ea eb nf nr z sa fe qf ro qr : Nat} {mc1 mc2 lim sup off plo hrs : Int32} {fa rd ri sn t9 hf gf : Nat → Int32} {g gq gs : Nat → Option Nat} {xv : Int32} (Fa0 : ws[0]? = some (x, .inr (7, [.ref fl, .ref rl, .ref wh, .ref gr, .ref tr, .ref sc, .int lim, .int sup, .int off, .int plo, .int hrs]))) (Fa1 : ws[1]? = some (fl, .inr (0, [.int mc1, .ref ea, .int (nI nf)]))) (Fa2 : ws[2]? = some (rl, .inr (0, [.int mc2, .ref eb, .int (nI nr)]))) (Fa3 : ws[3]? = some (wh, .inr (5, [.int (0 * 20 + 0), .int (nI 400), .int 0]))) (Fa4 : ws[4]? = some (gr, .inr (2, [.ref gra]))) (Fa5 : ws[5]? = some (gra, zI4 E 400 sn)) (Fa6 : ws[6]? = some (tr, .inr (2, [.ref tra]))) (Fa7 : ws[7]? = some (tra, zI4 E 400 t9)) (Fa8 : ws[8]? = some (sc, .inr (4, [.ref ha, .ref va]))) (Fa9 : ws[9]? = some (ha, zI4 E 400 hf)) (Fa10 : ws[10]? = some (va, zI4 E 400 gf)) (Fa11 : ws[11]? = some (z, .inr (8, [.ref fe, .ref ro, .ref sa, .int lim, .int sup, .int off, .int plo, .int hrs]))) (Fa12 : ws[14]? = some (sa, zA4 E 20 gs)) (Fa13 : ws[qf]? = some (fe, zA4 E nf g)) (Fa14 : ws[qr]? = some (ro, zA4 E nr gq)) (hql : 11 < qf ∧ 11 < qr) (hF : FS E ws fa ea nf) (hR : RS E ws rd ri eb nr) (hSep : SEP E ea eb) (hSE : SE E ws g nf fa) (hSR : SR E ws gq nr rd ri) (hSN : SN E ws 15 gs sn) (hnf : nf ≤ 10) (hnr : nr ≤ 4) (hok : ∀ j, j < nf → okF fa j) (hor : ∀ q, q < nr → okR rd ri q) (hRB : RB 200 sn) (hu9 : BI 0 40 sup) (hlm : BI 1 60 lim) (hln : 35 ≤ ws.length) (hE1 : ¬ zA E E.2.2.1) (hk13 : bln xv 13 = 6) : Met l yL_act wsL_act2 ({ frames := 7, cells := 20, slots := 120, locals := 104 } : Room) (va_Pc [.ref x, .ref z, .int xv] (zY E ws)) (va_Qi (fun (r : Int32) (ws' : va_W) => (zKi E ws ws') ∧ (LW E x fl rl wh gr gra tr tra sc ha va z sa gs ws') ∧ (r = 1)) (zI E) (zA E)) 20 120 (zA E) := by
  refine Met.ofW (cc := cL_act) (maxL := 12) (ret := (some .boolean)) (by decide) rfl ?_
  intro p e s m args below meth c s₁ B hml hv
  obtain ⟨hargs9, hI, hRz⟩ := hv
  have hx := B.exec
  have hb := B.bytes
  have hr := B.returns
  have hlocks := B.notSynchronized
  have X : zC E p m c cL_act 12 s args wsL_act2 RL := z_open B hml hI
  have hown := X.1.2.2.2.1
  have hts := X.1.2.2.2.2
  have J := hI.J
  have hi_X7 : ∀ w ∈ wsX70, w ∈ wsL_act2 := by decide +kernel
  have n0_13 : 0 ≠ qf := zneK Fa0 Fa13 rfl
  have n0_14 : 0 ≠ qr := zneK Fa0 Fa14 rfl
  have n1_13 : 1 ≠ qf := zneK Fa1 Fa13 rfl
  have n1_14 : 1 ≠ qr := zneK Fa1 Fa14 rfl
  have n2_13 : 2 ≠ qf := zneK Fa2 Fa13 rfl
  have n2_14 : 2 ≠ qr := zneK Fa2 Fa14 rfl
  have n3_13 : 3 ≠ qf := zneK Fa3 Fa13 rfl
  have n3_14 : 3 ≠ qr := zneK Fa3 Fa14 rfl
  have n4_13 : 4 ≠ qf := zneK Fa4 Fa13 rfl
  have n4_14 : 4 ≠ qr := zneK Fa4 Fa14 rfl
  have n5_13 : 5 ≠ qf := zneK Fa5 Fa13 rfl
  have n5_14 : 5 ≠ qr := zneK Fa5 Fa14 rfl
  have n6_13 : 6 ≠ qf := zneK Fa6 Fa13 rfl
  have n6_14 : 6 ≠ qr := zneK Fa6 Fa14 rfl
  have n7_13 : 7 ≠ qf := zneK Fa7 Fa13 rfl
  have n7_14 : 7 ≠ qr := zneK Fa7 Fa14 rfl
  have n8_13 : 8 ≠ qf := zneK Fa8 Fa13 rfl
  have n8_14 : 8 ≠ qr := zneK Fa8 Fa14 rfl
  have n9_13 : 9 ≠ qf := zneK Fa9 Fa13 rfl
  have n9_14 : 9 ≠ qr := zneK Fa9 Fa14 rfl
  have n10_13 : 10 ≠ qf := zneK Fa10 Fa13 rfl
  have n10_14 : 10 ≠ qr := zneK Fa10 Fa14 rfl
  have n11_13 : 11 ≠ qf := zneK Fa11 Fa13 rfl
  have n11_14 : 11 ≠ qr := zneK Fa11 Fa14 rfl
  have hk : zKi E ws ws := zKi.rf
  have hl := lv_entry ([.ref x, .ref z, .int xv]) (n := 12) (Nat.le_of_ble_eq_true rfl)
  rw [show entryFrame m args 12 = entryFrame m ([.ref x, .ref z, .int xv] : List Value).toArray 12 from by rw [hargs9], lg_entry_eq]
  generalize (lg_sl ([.ref x, .ref z, .int xv]) ++ List.replicate (12 - (lg_sl ([.ref x, .ref z, .int xv])).length) Slot.unset).toArray = ls at hl ⊢
  have hl : lv_has ls 12 [(0, .ref x), (1, .ref z), (2, .int xv)] := hl
  obtain ⟨hqf, hqr⟩ := hql
  have hbl := hSN.len
  have bq13 := zlt Fa13
  have bq14 := zlt Fa14
  have nr13 := hSN.no Fa13 rfl
  have nr14 := hSN.no Fa14 rfl
  have hhR := hgS_RB (wo := -1) nf hok
  generalize hQ : (MQ below (va_Qi (fun (r : Int32) (ws' : va_W) => (zKi E ws ws') ∧ (LW E x fl rl wh gr gra tr tra sc ha va z sa gs ws') ∧ (r = 1)) (zI E) (zA E)) args s 20 120 (zA E)) = QQ
  refine lv_aload_n hx hb dL_act_0 rfl (lv_at hl 1 rfl) ?_
  refine z_get (C := RX7) (T := TX7) (N := 8) (ci := 8) (v := .ref fe) X J hi_X7 11 Fa11 rfl 0 (by decide) (by decide +kernel) rfl dL_act_1 ?_
  refine z_alenA (v := nI nf) X J qf Fa13 rfl dL_act_4 ?_
  refine lv_istore_n (lv' := [(3, .int (nI nf)), (0, .ref x), (1, .ref z), (2, .int xv)]) hx hb dL_act_5 rfl hl (by decide) rfl (fun ls hl => ?_)
  refine lv_iload_n hx hb dL_act_6 rfl (lv_at hl 3 rfl) ?_
  refine lv_bipush (v := nI 13) hx hb dL_act_7 (by decide) ?_
  refine z_cr (z_rS (As := [.int xv, .int (nI 13)]) (rest := []) X J (cL_below_ok l E (by first | assumption | omega | decide) (by first | assumption | omega | decide)) (va_cwS 2 hts (goodIn_ext2 gL_act_L_below) rfl rfl rfl (by decide +kernel) ⟨Nat.le_of_ble_eq_true rfl, Nat.le_of_ble_eq_true rfl⟩) rfl hl.1 rfl (Nat.le_of_ble_eq_true rfl) dL_act_9 ⟨Nat.le_of_ble_eq_true rfl, Nat.le_of_ble_eq_true rfl⟩) (fun r9 e_r9 => ?_)
  subst e_r9
  refine W.eq (g2 := F0 m 12 ls [.int 6]) (congrArg (fun z9 : Int32 => F0 m 12 ls [.int z9]) (show (nI (bln xv 13) : Int32) = 6 from (by rw [hk13]; rfl))) ?_
  refine lv_tableIn (off := 511) (tgt := 523) hx hb dL_act_12 (by decide) (by decide) (by decide) (by decide) ?_
  refine lv_aload_n hx hb dL_act_523 rfl (lv_at hl 2 rfl) ?_
  refine z_get (C := RX7) (T := TX7) (N := 8) (ci := 8) (v := .int lim) X J hi_X7 11 Fa11 rfl 3 (by decide) (by decide +kernel) rfl dL_act_524 ?_
  refine lv_istore (lv' := [(4, .int lim), (3, .int (nI nf)), (0, .ref x), (1, .ref z), (2, .int xv)]) hx hb dL_act_527 hl (by decide) rfl (fun ls hl => ?_)
  refine lv_aload_n hx hb dL_act_529 rfl (lv_at hl 3 rfl) ?_
  refine lv_iconst (v := nI 1) hx hb dL_act_530 rfl ?_
  refine lv_iload_n hx hb dL_act_531 rfl (lv_at hl 4 rfl) ?_
  refine lv_iconst (v := 4) hx hb dL_act_532 (by decide) ?_
  refine lv_ishr hx hb dL_act_533 ?_
  refine lv_iload_n hx hb dL_act_534 rfl (lv_at hl 4 rfl) ?_
  refine lv_iconst (v := 3) hx hb dL_act_535 (by decide) ?_
  refine lv_ishr hx hb dL_act_536 ?_
  refine lv_iconst (v := nI 2) hx hb dL_act_537 rfl ?_
  refine z_cr (z_rS (As := [.int (xv >>> (3 &&& 31)), .int (nI 2)]) (rest := [.int (xv >>> (4 &&& 31)), .int (nI 1), .ref z]) X J (cL_below_ok l E (by first | assumption | omega | decide) (by first | assumption | omega | decide)) (va_cwS 2 hts (goodIn_ext2 gL_act_L_below) rfl rfl rfl (by decide +kernel) ⟨Nat.le_of_ble_eq_true rfl, Nat.le_of_ble_eq_true rfl⟩) rfl hl.1 rfl (Nat.le_of_ble_eq_true rfl) dL_act_538 ⟨Nat.le_of_ble_eq_true rfl, Nat.le_of_ble_eq_true rfl⟩) (fun r538 e_r538 => ?_)
  subst e_r538
  refine lv_if_ne (tgt := 549) hx hb dL_act_541 (by decide) (fun cz541 => ?_) (fun cz541 => ?_)
  · refine lv_bipush (v := nI 12) hx hb dL_act_549 (by decide) ?_
    refine z_cr (z_rS (As := [.int (xv >>> (4 &&& 31)), .int (nI 12)]) (rest := [.int (nI 1), .ref z]) X J (cL_below_ok l E (by first | assumption | omega | decide) (by first | assumption | omega | decide)) (va_cwS 2 hts (goodIn_ext2 gL_act_L_below) rfl rfl rfl (by decide +kernel) ⟨Nat.le_of_ble_eq_true rfl, Nat.le_of_ble_eq_true rfl⟩) rfl hl.1 rfl (Nat.le_of_ble_eq_true rfl) dL_act_551 ⟨Nat.le_of_ble_eq_true rfl, Nat.le_of_ble_eq_true rfl⟩) (fun r551 e_r551 => ?_)
    subst e_r551
    refine lv_iadd hx hb dL_act_554 ?_
    refine W.eq (g2 := F0 m 555 ls [.int (nI (1 + bln (xv >>> (4 &&& 31)) 12)), .ref z]) (congrArg (fun z9 : Int32 => F0 m 555 ls [.int z9, .ref z]) (show ((nI 1) + (nI (bln (xv >>> (4 &&& 31)) 12)) : Int32) = nI (1 + bln (xv >>> (4 &&& 31)) 12) from (nI_add _ _))) ?_
    have hb4_12 := bln_lt (v := xv >>> (4 &&& 31)) (n := 12) (by decide)
    refine z_put (C := RX7) (T := TX7) (N := 8) (ci := 8) (v := .int (nI (1 + bln (xv >>> (4 &&& 31)) 12))) X J hi_X7 tyX7 tyX7_ok nmX7 11 Fa11 rfl 3 (by decide) (by decide +kernel) rfl rfl rfl (Nat.le_of_ble_eq_true rfl) dL_act_555 (fun H locs J => ?_)
    have J : zJ E (ws.set 11 (z, .inr (8, [.ref fe, .ref ro, .ref sa, .int (nI (1 + bln (xv >>> (4 &&& 31)) 12)), .int sup, .int off, .int plo, .int hrs]))) s H locs := J
    have hF := hF.keepS (zK.set (S := [11]) (ws := ws) (q := 11) (e := (z, .inr (8, [.ref fe, .ref ro, .ref sa, .int (nI (1 + bln (xv >>> (4 &&& 31)) 12)), .int sup, .int off, .int plo, .int hrs]))) (List.mem_singleton.mpr rfl)) (fun q9 hq9 => Or.inl (by simp only [List.mem_cons, rg_mem, List.not_mem_nil, or_false, not_or] at hq9; omega))
    have hR := hR.keepS (zK.set (S := [11]) (ws := ws) (q := 11) (e := (z, .inr (8, [.ref fe, .ref ro, .ref sa, .int (nI (1 + bln (xv >>> (4 &&& 31)) 12)), .int sup, .int off, .int plo, .int hrs]))) (List.mem_singleton.mpr rfl)) (fun q9 hq9 => Or.inl (by simp only [List.mem_cons, rg_mem, List.not_mem_nil, or_false, not_or] at hq9; omega))
    have hSN := hSN.keep (zK.set (S := [11]) (ws := ws) (q := 11) (e := (z, .inr (8, [.ref fe, .ref ro, .ref sa, .int (nI (1 + bln (xv >>> (4 &&& 31)) 12)), .int sup, .int off, .int plo, .int hrs]))) (List.mem_singleton.mpr rfl)) (fun r9 hr9 => by simp only [List.mem_cons, rg_mem, List.not_mem_nil, or_false, not_or]; omega)
    have hk := hk.step (zK.set (S := [11]) (ws := ws) (q := 11) (e := (z, .inr (8, [.ref fe, .ref ro, .ref sa, .int (nI (1 + bln (xv >>> (4 &&& 31)) 12)), .int sup, .int off, .int plo, .int hrs]))) (List.mem_singleton.mpr rfl)) (fun q9 a9 n9 f9 h8 h7 h9 => by simp only [List.mem_cons, rg_mem, List.not_mem_nil, or_false, not_or]; omega)
    have G1_0 := zset_ne (q := 11) (e' := (z, .inr (8, [.ref fe, .ref ro, .ref sa, .int (nI (1 + bln (xv >>> (4 &&& 31)) 12)), .int sup, .int off, .int plo, .int hrs]))) (by decide) Fa0
    have G1_1 := zset_ne (q := 11) (e' := (z, .inr (8, [.ref fe, .ref ro, .ref sa, .int (nI (1 + bln (xv >>> (4 &&& 31)) 12)), .int sup, .int off, .int plo, .int hrs]))) (by decide) Fa1
    have G1_2 := zset_ne (q := 11) (e' := (z, .inr (8, [.ref fe, .ref ro, .ref sa, .int (nI (1 + bln (xv >>> (4 &&& 31)) 12)), .int sup, .int off, .int plo, .int hrs]))) (by decide) Fa2
    have G1_3 := zset_ne (q := 11) (e' := (z, .inr (8, [.ref fe, .ref ro, .ref sa, .int (nI (1 + bln (xv >>> (4 &&& 31)) 12)), .int sup, .int off, .int plo, .int hrs]))) (by decide) Fa3
    have G1_4 := zset_ne (q := 11) (e' := (z, .inr (8, [.ref fe, .ref ro, .ref sa, .int (nI (1 + bln (xv >>> (4 &&& 31)) 12)), .int sup, .int off, .int plo, .int hrs]))) (by decide) Fa4
    have G1_5 := zset_ne (q := 11) (e' := (z, .inr (8, [.ref fe, .ref ro, .ref sa, .int (nI (1 + bln (xv >>> (4 &&& 31)) 12)), .int sup, .int off, .int plo, .int hrs]))) (by decide) Fa5
    have G1_6 := zset_ne (q := 11) (e' := (z, .inr (8, [.ref fe, .ref ro, .ref sa, .int (nI (1 + bln (xv >>> (4 &&& 31)) 12)), .int sup, .int off, .int plo, .int hrs]))) (by decide) Fa6
    have G1_7 := zset_ne (q := 11) (e' := (z, .inr (8, [.ref fe, .ref ro, .ref sa, .int (nI (1 + bln (xv >>> (4 &&& 31)) 12)), .int sup, .int off, .int plo, .int hrs]))) (by decide) Fa7
    have G1_8 := zset_ne (q := 11) (e' := (z, .inr (8, [.ref fe, .ref ro, .ref sa, .int (nI (1 + bln (xv >>> (4 &&& 31)) 12)), .int sup, .int off, .int plo, .int hrs]))) (by decide) Fa8
    have G1_9 := zset_ne (q := 11) (e' := (z, .inr (8, [.ref fe, .ref ro, .ref sa, .int (nI (1 + bln (xv >>> (4 &&& 31)) 12)), .int sup, .int off, .int plo, .int hrs]))) (by decide) Fa9
    have G1_10 := zset_ne (q := 11) (e' := (z, .inr (8, [.ref fe, .ref ro, .ref sa, .int (nI (1 + bln (xv >>> (4 &&& 31)) 12)), .int sup, .int off, .int plo, .int hrs]))) (by decide) Fa10
    have G1_11 := zset_eq (e' := (z, .inr (8, [.ref fe, .ref ro, .ref sa, .int (nI (1 + bln (xv >>> (4 &&& 31)) 12)), .int sup, .int off, .int plo, .int hrs]))) Fa11
    have G1_12 := zset_ne (q := 11) (e' := (z, .inr (8, [.ref fe, .ref ro, .ref sa, .int (nI (1 + bln (xv >>> (4 &&& 31)) 12)), .int sup, .int off, .int plo, .int hrs]))) (by decide) Fa12
    have G1_13 := zset_ne (q := 11) (e' := (z, .inr (8, [.ref fe, .ref ro, .ref sa, .int (nI (1 + bln (xv >>> (4 &&& 31)) 12)), .int sup, .int off, .int plo, .int hrs]))) (by omega) Fa13
    have G1_14 := zset_ne (q := 11) (e' := (z, .inr (8, [.ref fe, .ref ro, .ref sa, .int (nI (1 + bln (xv >>> (4 &&& 31)) 12)), .int sup, .int off, .int plo, .int hrs]))) (by omega) Fa14
    generalize hws1 : (ws.set 11 (z, .inr (8, [.ref fe, .ref ro, .ref sa, .int (nI (1 + bln (xv >>> (4 &&& 31)) 12)), .int sup, .int off, .int plo, .int hrs]))) = ws_1 at J hk G1_0 G1_1 G1_2 G1_3 G1_4 G1_5 G1_6 G1_7 G1_8 G1_9 G1_10 G1_11 G1_12 G1_13 G1_14 hF hR hSN
    refine lv_aload_n hx hb dL_act_558 rfl (lv_at hl 2 rfl) ?_
    refine lv_aload_n hx hb dL_act_559 rfl (lv_at hl 3 rfl) ?_
    refine z_get (C := RX7) (T := TX7) (N := 8) (ci := 8) (v := .int (nI (1 + bln (xv >>> (4 &&& 31)) 12))) X J hi_X7 11 G1_11 rfl 3 (by decide) (by decide +kernel) rfl dL_act_560 ?_
    refine z_xi J (z_yV (As := [.int (nI (1 + bln (xv >>> (4 &&& 31)) 12))]) (rest := []) (ci := 7) (q0 := 0) X hRz J (cX6_setLimit_ok l hflags E G1_0) (cwV 1 hts (goodIn_ext2 gL_act_X6_setLimit) rfl rfl rfl (by decide +kernel) ⟨Nat.le_of_ble_eq_true rfl, Nat.le_of_ble_eq_true rfl⟩) G1_0 rfl rfl rfl hl.1 rfl (Nat.le_of_ble_eq_true rfl) dL_act_563 ⟨by show _ ≤ 20; omega, by show _ ≤ 120; omega⟩) (fun nm ce q9 H locs hp9 J h1 h2 h3 => ?_) (fun r563 ws_2 H locs hp9 J => ?_)
    · exact False.elim (by exact absurd hp9.1 (by rw [show kLim (nI (1 + bln (xv >>> (4 &&& 31)) 12)) = 0 from kLim_ok (by omega) (by omega)]; decide))
    obtain ⟨k2, G2_a0, e_r563⟩ := hp9
    have hF := hF.keepS k2 (fun q9 hq9 => Or.inl (by simp only [List.mem_cons, rg_mem, List.not_mem_nil, or_false, not_or] at hq9; omega))
    have hR := hR.keepS k2 (fun q9 hq9 => Or.inl (by simp only [List.mem_cons, rg_mem, List.not_mem_nil, or_false, not_or] at hq9; omega))
    have hSN := hSN.keep k2 (fun r9 hr9 => by simp only [List.mem_cons, rg_mem, List.not_mem_nil, or_false, not_or]; omega)
    have hk := hk.step k2 (fun q9 a9 n9 f9 h8 h7 h9 => by simp only [List.mem_cons, rg_mem, List.not_mem_nil, or_false, not_or]; omega)
    have G2_1 := k2.2 1 _ (by decide) G1_1
    have G2_2 := k2.2 2 _ (by decide) G1_2
    have G2_3 := k2.2 3 _ (by decide) G1_3
    have G2_4 := k2.2 4 _ (by decide) G1_4
    have G2_5 := k2.2 5 _ (by decide) G1_5
    have G2_6 := k2.2 6 _ (by decide) G1_6
    have G2_7 := k2.2 7 _ (by decide) G1_7
    have G2_8 := k2.2 8 _ (by decide) G1_8
    have G2_9 := k2.2 9 _ (by decide) G1_9
    have G2_10 := k2.2 10 _ (by decide) G1_10
    have G2_11 := k2.2 11 _ (by decide) G1_11
    have G2_12 := k2.2 14 _ (by decide) G1_12
    have G2_13 := k2.2 qf _ (by simp only [List.mem_cons, List.not_mem_nil, or_false]; omega) G1_13
    have G2_14 := k2.2 qr _ (by simp only [List.mem_cons, List.not_mem_nil, or_false]; omega) G1_14
    refine W.eq (g2 := F0 m 566 ls [.int lim]) (congrArg (fun z9 : Int32 => F0 m 566 ls [.int z9]) (show (r563 : Int32) = lim from e_r563.2)) ?_
    refine lv_iload hx hb dL_act_566 (lv_at hl 0 rfl) ?_
    refine lv_icmp_ne (tgt := 575) hx hb dL_act_568 (by decide) (fun cz568 => by exact (cz568 rfl).elim) (fun cz568 => ?_)
    refine lv_iconst (v := 1) hx hb dL_act_571 (by decide) ?_
    refine lv_goto (tgt := 576) hx hb dL_act_572 (by decide) ?_
    refine W.widen (k := 20) (n := 120) (by omega) (by omega) ?_
    subst hQ
    exact W.zret (v := 1) hx hb hr rfl (fun t ht hW => ⟨⟨1, ws_2, rfl, ⟨hk, ⟨mc1, mc2, ((nI (1 + bln (xv >>> (4 &&& 31)) 12))), sup, off, plo, hrs, ea, eb, nf, nr, fe, qf, ro, qr, fa, rd, ri, sn, t9, hf, gf, g, gq, G2_a0, G2_1, G2_2, G2_3, G2_4, G2_5, G2_6, G2_7, G2_8, G2_9, G2_10, G2_11, G2_12, G2_13, G2_14, ⟨by omega, by omega⟩, hF, hR, hSep, (hSE.keepI hk), (hSR.keepI hk), hSN, hnf, hnr, hok, hor, hRB, hu9, (nI_BI2 (by omega) (by omega) (by omega)), (Nat.le_trans hln hk.1)⟩, rfl⟩, J.I X ht hW.alike⟩, J.F ht⟩) J.locs dL_act_576
  · refine lv_bipush (v := nI 60) hx hb dL_act_544 (by decide) ?_
    refine lv_goto (tgt := 551) hx hb dL_act_546 (by decide) ?_
    refine z_cr (z_rS (As := [.int (xv >>> (4 &&& 31)), .int (nI 60)]) (rest := [.int (nI 1), .ref z]) X J (cL_below_ok l E (by first | assumption | omega | decide) (by first | assumption | omega | decide)) (va_cwS 2 hts (goodIn_ext2 gL_act_L_below) rfl rfl rfl (by decide +kernel) ⟨Nat.le_of_ble_eq_true rfl, Nat.le_of_ble_eq_true rfl⟩) rfl hl.1 rfl (Nat.le_of_ble_eq_true rfl) dL_act_551 ⟨Nat.le_of_ble_eq_true rfl, Nat.le_of_ble_eq_true rfl⟩) (fun r551 e_r551 => ?_)
    subst e_r551
    refine lv_iadd hx hb dL_act_554 ?_
    refine W.eq (g2 := F0 m 555 ls [.int (nI (1 + bln (xv >>> (4 &&& 31)) 60)), .ref z]) (congrArg (fun z9 : Int32 => F0 m 555 ls [.int z9, .ref z]) (show ((nI 1) + (nI (bln (xv >>> (4 &&& 31)) 60)) : Int32) = nI (1 + bln (xv >>> (4 &&& 31)) 60) from (nI_add _ _))) ?_
    have hb4_60 := bln_lt (v := xv >>> (4 &&& 31)) (n := 60) (by decide)
    refine z_put (C := RX7) (T := TX7) (N := 8) (ci := 8) (v := .int (nI (1 + bln (xv >>> (4 &&& 31)) 60))) X J hi_X7 tyX7 tyX7_ok nmX7 11 Fa11 rfl 3 (by decide) (by decide +kernel) rfl rfl rfl (Nat.le_of_ble_eq_true rfl) dL_act_555 (fun H locs J => ?_)
    have J : zJ E (ws.set 11 (z, .inr (8, [.ref fe, .ref ro, .ref sa, .int (nI (1 + bln (xv >>> (4 &&& 31)) 60)), .int sup, .int off, .int plo, .int hrs]))) s H locs := J
    have hF := hF.keepS (zK.set (S := [11]) (ws := ws) (q := 11) (e := (z, .inr (8, [.ref fe, .ref ro, .ref sa, .int (nI (1 + bln (xv >>> (4 &&& 31)) 60)), .int sup, .int off, .int plo, .int hrs]))) (List.mem_singleton.mpr rfl)) (fun q9 hq9 => Or.inl (by simp only [List.mem_cons, rg_mem, List.not_mem_nil, or_false, not_or] at hq9; omega))
    have hR := hR.keepS (zK.set (S := [11]) (ws := ws) (q := 11) (e := (z, .inr (8, [.ref fe, .ref ro, .ref sa, .int (nI (1 + bln (xv >>> (4 &&& 31)) 60)), .int sup, .int off, .int plo, .int hrs]))) (List.mem_singleton.mpr rfl)) (fun q9 hq9 => Or.inl (by simp only [List.mem_cons, rg_mem, List.not_mem_nil, or_false, not_or] at hq9; omega))
    have hSN := hSN.keep (zK.set (S := [11]) (ws := ws) (q := 11) (e := (z, .inr (8, [.ref fe, .ref ro, .ref sa, .int (nI (1 + bln (xv >>> (4 &&& 31)) 60)), .int sup, .int off, .int plo, .int hrs]))) (List.mem_singleton.mpr rfl)) (fun r9 hr9 => by simp only [List.mem_cons, rg_mem, List.not_mem_nil, or_false, not_or]; omega)
    have hk := hk.step (zK.set (S := [11]) (ws := ws) (q := 11) (e := (z, .inr (8, [.ref fe, .ref ro, .ref sa, .int (nI (1 + bln (xv >>> (4 &&& 31)) 60)), .int sup, .int off, .int plo, .int hrs]))) (List.mem_singleton.mpr rfl)) (fun q9 a9 n9 f9 h8 h7 h9 => by simp only [List.mem_cons, rg_mem, List.not_mem_nil, or_false, not_or]; omega)
    have G1_0 := zset_ne (q := 11) (e' := (z, .inr (8, [.ref fe, .ref ro, .ref sa, .int (nI (1 + bln (xv >>> (4 &&& 31)) 60)), .int sup, .int off, .int plo, .int hrs]))) (by decide) Fa0
    have G1_1 := zset_ne (q := 11) (e' := (z, .inr (8, [.ref fe, .ref ro, .ref sa, .int (nI (1 + bln (xv >>> (4 &&& 31)) 60)), .int sup, .int off, .int plo, .int hrs]))) (by decide) Fa1
    have G1_2 := zset_ne (q := 11) (e' := (z, .inr (8, [.ref fe, .ref ro, .ref sa, .int (nI (1 + bln (xv >>> (4 &&& 31)) 60)), .int sup, .int off, .int plo, .int hrs]))) (by decide) Fa2
    have G1_3 := zset_ne (q := 11) (e' := (z, .inr (8, [.ref fe, .ref ro, .ref sa, .int (nI (1 + bln (xv >>> (4 &&& 31)) 60)), .int sup, .int off, .int plo, .int hrs]))) (by decide) Fa3
    have G1_4 := zset_ne (q := 11) (e' := (z, .inr (8, [.ref fe, .ref ro, .ref sa, .int (nI (1 + bln (xv >>> (4 &&& 31)) 60)), .int sup, .int off, .int plo, .int hrs]))) (by decide) Fa4
    have G1_5 := zset_ne (q := 11) (e' := (z, .inr (8, [.ref fe, .ref ro, .ref sa, .int (nI (1 + bln (xv >>> (4 &&& 31)) 60)), .int sup, .int off, .int plo, .int hrs]))) (by decide) Fa5
    have G1_6 := zset_ne (q := 11) (e' := (z, .inr (8, [.ref fe, .ref ro, .ref sa, .int (nI (1 + bln (xv >>> (4 &&& 31)) 60)), .int sup, .int off, .int plo, .int hrs]))) (by decide) Fa6
    have G1_7 := zset_ne (q := 11) (e' := (z, .inr (8, [.ref fe, .ref ro, .ref sa, .int (nI (1 + bln (xv >>> (4 &&& 31)) 60)), .int sup, .int off, .int plo, .int hrs]))) (by decide) Fa7
    have G1_8 := zset_ne (q := 11) (e' := (z, .inr (8, [.ref fe, .ref ro, .ref sa, .int (nI (1 + bln (xv >>> (4 &&& 31)) 60)), .int sup, .int off, .int plo, .int hrs]))) (by decide) Fa8
    have G1_9 := zset_ne (q := 11) (e' := (z, .inr (8, [.ref fe, .ref ro, .ref sa, .int (nI (1 + bln (xv >>> (4 &&& 31)) 60)), .int sup, .int off, .int plo, .int hrs]))) (by decide) Fa9
    have G1_10 := zset_ne (q := 11) (e' := (z, .inr (8, [.ref fe, .ref ro, .ref sa, .int (nI (1 + bln (xv >>> (4 &&& 31)) 60)), .int sup, .int off, .int plo, .int hrs]))) (by decide) Fa10
    have G1_11 := zset_eq (e' := (z, .inr (8, [.ref fe, .ref ro, .ref sa, .int (nI (1 + bln (xv >>> (4 &&& 31)) 60)), .int sup, .int off, .int plo, .int hrs]))) Fa11
    have G1_12 := zset_ne (q := 11) (e' := (z, .inr (8, [.ref fe, .ref ro, .ref sa, .int (nI (1 + bln (xv >>> (4 &&& 31)) 60)), .int sup, .int off, .int plo, .int hrs]))) (by decide) Fa12
    have G1_13 := zset_ne (q := 11) (e' := (z, .inr (8, [.ref fe, .ref ro, .ref sa, .int (nI (1 + bln (xv >>> (4 &&& 31)) 60)), .int sup, .int off, .int plo, .int hrs]))) (by omega) Fa13
    have G1_14 := zset_ne (q := 11) (e' := (z, .inr (8, [.ref fe, .ref ro, .ref sa, .int (nI (1 + bln (xv >>> (4 &&& 31)) 60)), .int sup, .int off, .int plo, .int hrs]))) (by omega) Fa14
    generalize hws1 : (ws.set 11 (z, .inr (8, [.ref fe, .ref ro, .ref sa, .int (nI (1 + bln (xv >>> (4 &&& 31)) 60)), .int sup, .int off, .int plo, .int hrs]))) = ws_1 at J hk G1_0 G1_1 G1_2 G1_3 G1_4 G1_5 G1_6 G1_7 G1_8 G1_9 G1_10 G1_11 G1_12 G1_13 G1_14 hF hR hSN
    refine lv_aload_n hx hb dL_act_558 rfl (lv_at hl 2 rfl) ?_
    refine lv_aload_n hx hb dL_act_559 rfl (lv_at hl 3 rfl) ?_
    refine z_get (C := RX7) (T := TX7) (N := 8) (ci := 8) (v := .int (nI (1 + bln (xv >>> (4 &&& 31)) 60))) X J hi_X7 11 G1_11 rfl 3 (by decide) (by decide +kernel) rfl dL_act_560 ?_
    refine z_xi J (z_yV (As := [.int (nI (1 + bln (xv >>> (4 &&& 31)) 60))]) (rest := []) (ci := 7) (q0 := 0) X hRz J (cX6_setLimit_ok l hflags E G1_0) (cwV 1 hts (goodIn_ext2 gL_act_X6_setLimit) rfl rfl rfl (by decide +kernel) ⟨Nat.le_of_ble_eq_true rfl, Nat.le_of_ble_eq_true rfl⟩) G1_0 rfl rfl rfl hl.1 rfl (Nat.le_of_ble_eq_true rfl) dL_act_563 ⟨by show _ ≤ 20; omega, by show _ ≤ 120; omega⟩) (fun nm ce q9 H locs hp9 J h1 h2 h3 => ?_) (fun r563 ws_2 H locs hp9 J => ?_)
    · exact False.elim (by exact absurd hp9.1 (by rw [show kLim (nI (1 + bln (xv >>> (4 &&& 31)) 60)) = 0 from kLim_ok (by omega) (by omega)]; decide))
    obtain ⟨k2, G2_a0, e_r563⟩ := hp9
    have hF := hF.keepS k2 (fun q9 hq9 => Or.inl (by simp only [List.mem_cons, rg_mem, List.not_mem_nil, or_false, not_or] at hq9; omega))
    have hR := hR.keepS k2 (fun q9 hq9 => Or.inl (by simp only [List.mem_cons, rg_mem, List.not_mem_nil, or_false, not_or] at hq9; omega))
    have hSN := hSN.keep k2 (fun r9 hr9 => by simp only [List.mem_cons, rg_mem, List.not_mem_nil, or_false, not_or]; omega)
    have hk := hk.step k2 (fun q9 a9 n9 f9 h8 h7 h9 => by simp only [List.mem_cons, rg_mem, List.not_mem_nil, or_false, not_or]; omega)
    have G2_1 := k2.2 1 _ (by decide) G1_1
    have G2_2 := k2.2 2 _ (by decide) G1_2
    have G2_3 := k2.2 3 _ (by decide) G1_3
    have G2_4 := k2.2 4 _ (by decide) G1_4
    have G2_5 := k2.2 5 _ (by decide) G1_5
    have G2_6 := k2.2 6 _ (by decide) G1_6
    have G2_7 := k2.2 7 _ (by decide) G1_7
    have G2_8 := k2.2 8 _ (by decide) G1_8
    have G2_9 := k2.2 9 _ (by decide) G1_9
    have G2_10 := k2.2 10 _ (by decide) G1_10
    have G2_11 := k2.2 11 _ (by decide) G1_11
    have G2_12 := k2.2 14 _ (by decide) G1_12
    have G2_13 := k2.2 qf _ (by simp only [List.mem_cons, List.not_mem_nil, or_false]; omega) G1_13
    have G2_14 := k2.2 qr _ (by simp only [List.mem_cons, List.not_mem_nil, or_false]; omega) G1_14
    refine W.eq (g2 := F0 m 566 ls [.int lim]) (congrArg (fun z9 : Int32 => F0 m 566 ls [.int z9]) (show (r563 : Int32) = lim from e_r563.2)) ?_
    refine lv_iload hx hb dL_act_566 (lv_at hl 0 rfl) ?_
    refine lv_icmp_ne (tgt := 575) hx hb dL_act_568 (by decide) (fun cz568 => by exact (cz568 rfl).elim) (fun cz568 => ?_)
    refine lv_iconst (v := 1) hx hb dL_act_571 (by decide) ?_
    refine lv_goto (tgt := 576) hx hb dL_act_572 (by decide) ?_
    refine W.widen (k := 20) (n := 120) (by omega) (by omega) ?_
    subst hQ
    exact W.zret (v := 1) hx hb hr rfl (fun t ht hW => ⟨⟨1, ws_2, rfl, ⟨hk, ⟨mc1, mc2, ((nI (1 + bln (xv >>> (4 &&& 31)) 60))), sup, off, plo, hrs, ea, eb, nf, nr, fe, qf, ro, qr, fa, rd, ri, sn, t9, hf, gf, g, gq, G2_a0, G2_1, G2_2, G2_3, G2_4, G2_5, G2_6, G2_7, G2_8, G2_9, G2_10, G2_11, G2_12, G2_13, G2_14, ⟨by omega, by omega⟩, hF, hR, hSep, (hSE.keepI hk), (hSR.keepI hk), hSN, hnf, hnr, hok, hor, hRB, hu9, (nI_BI2 (by omega) (by omega) (by omega)), (Nat.le_trans hln hk.1)⟩, rfl⟩, J.I X ht hW.alike⟩, J.F ht⟩) J.locs dL_act_576
set_option maxHeartbeats 400000 in
set_option maxRecDepth 100000 in
theorem cL_act_s_ok (l : Launch) (hflags : l.flags = flags0) (E : zG) {ws : va_W} {x fl rl wh gr gra tr tra sc ha va ea eb nf nr z sa fe qf ro qr : Nat} {mc1 mc2 lim sup off plo hrs : Int32} {fa rd ri sn t9 hf gf : Nat → Int32} {g gq gs : Nat → Option Nat} {xv : Int32} (Fa0 : ws[0]? = some (x, .inr (7, [.ref fl, .ref rl, .ref wh, .ref gr, .ref tr, .ref sc, .int lim, .int sup, .int off, .int plo, .int hrs]))) (Fa1 : ws[1]? = some (fl, .inr (0, [.int mc1, .ref ea, .int (nI nf)]))) (Fa2 : ws[2]? = some (rl, .inr (0, [.int mc2, .ref eb, .int (nI nr)]))) (Fa3 : ws[3]? = some (wh, .inr (5, [.int (0 * 20 + 0), .int (nI 400), .int 0]))) (Fa4 : ws[4]? = some (gr, .inr (2, [.ref gra]))) (Fa5 : ws[5]? = some (gra, zI4 E 400 sn)) (Fa6 : ws[6]? = some (tr, .inr (2, [.ref tra]))) (Fa7 : ws[7]? = some (tra, zI4 E 400 t9)) (Fa8 : ws[8]? = some (sc, .inr (4, [.ref ha, .ref va]))) (Fa9 : ws[9]? = some (ha, zI4 E 400 hf)) (Fa10 : ws[10]? = some (va, zI4 E 400 gf)) (Fa11 : ws[11]? = some (z, .inr (8, [.ref fe, .ref ro, .ref sa, .int lim, .int sup, .int off, .int plo, .int hrs]))) (Fa12 : ws[14]? = some (sa, zA4 E 20 gs)) (Fa13 : ws[qf]? = some (fe, zA4 E nf g)) (Fa14 : ws[qr]? = some (ro, zA4 E nr gq)) (hql : 11 < qf ∧ 11 < qr) (hF : FS E ws fa ea nf) (hR : RS E ws rd ri eb nr) (hSep : SEP E ea eb) (hSE : SE E ws g nf fa) (hSR : SR E ws gq nr rd ri) (hSN : SN E ws 15 gs sn) (hnf : nf ≤ 10) (hnr : nr ≤ 4) (hok : ∀ j, j < nf → okF fa j) (hor : ∀ q, q < nr → okR rd ri q) (hRB : RB 200 sn) (hu9 : BI 0 40 sup) (hlm : BI 1 60 lim) (hln : 35 ≤ ws.length) (hE1 : ¬ zA E E.2.2.1) (hk13 : bln xv 13 = 7) : Met l yL_act wsL_act2 ({ frames := 7, cells := 20, slots := 120, locals := 104 } : Room) (va_Pc [.ref x, .ref z, .int xv] (zY E ws)) (va_Qi (fun (r : Int32) (ws' : va_W) => (zKi E ws ws') ∧ (LW E x fl rl wh gr gra tr tra sc ha va z sa gs ws') ∧ (r = 1)) (zI E) (zA E)) 20 120 (zA E) := by
  refine Met.ofW (cc := cL_act) (maxL := 12) (ret := (some .boolean)) (by decide) rfl ?_
  intro p e s m args below meth c s₁ B hml hv
  obtain ⟨hargs9, hI, hRz⟩ := hv
  have hx := B.exec
  have hb := B.bytes
  have hr := B.returns
  have hlocks := B.notSynchronized
  have X : zC E p m c cL_act 12 s args wsL_act2 RL := z_open B hml hI
  have hown := X.1.2.2.2.1
  have hts := X.1.2.2.2.2
  have J := hI.J
  have hi_X7 : ∀ w ∈ wsX70, w ∈ wsL_act2 := by decide +kernel
  have n0_13 : 0 ≠ qf := zneK Fa0 Fa13 rfl
  have n0_14 : 0 ≠ qr := zneK Fa0 Fa14 rfl
  have n1_13 : 1 ≠ qf := zneK Fa1 Fa13 rfl
  have n1_14 : 1 ≠ qr := zneK Fa1 Fa14 rfl
  have n2_13 : 2 ≠ qf := zneK Fa2 Fa13 rfl
  have n2_14 : 2 ≠ qr := zneK Fa2 Fa14 rfl
  have n3_13 : 3 ≠ qf := zneK Fa3 Fa13 rfl
  have n3_14 : 3 ≠ qr := zneK Fa3 Fa14 rfl
  have n4_13 : 4 ≠ qf := zneK Fa4 Fa13 rfl
  have n4_14 : 4 ≠ qr := zneK Fa4 Fa14 rfl
  have n5_13 : 5 ≠ qf := zneK Fa5 Fa13 rfl
  have n5_14 : 5 ≠ qr := zneK Fa5 Fa14 rfl
  have n6_13 : 6 ≠ qf := zneK Fa6 Fa13 rfl
  have n6_14 : 6 ≠ qr := zneK Fa6 Fa14 rfl
  have n7_13 : 7 ≠ qf := zneK Fa7 Fa13 rfl
  have n7_14 : 7 ≠ qr := zneK Fa7 Fa14 rfl
  have n8_13 : 8 ≠ qf := zneK Fa8 Fa13 rfl
  have n8_14 : 8 ≠ qr := zneK Fa8 Fa14 rfl
  have n9_13 : 9 ≠ qf := zneK Fa9 Fa13 rfl
  have n9_14 : 9 ≠ qr := zneK Fa9 Fa14 rfl
  have n10_13 : 10 ≠ qf := zneK Fa10 Fa13 rfl
  have n10_14 : 10 ≠ qr := zneK Fa10 Fa14 rfl
  have n11_13 : 11 ≠ qf := zneK Fa11 Fa13 rfl
  have n11_14 : 11 ≠ qr := zneK Fa11 Fa14 rfl
  have hk : zKi E ws ws := zKi.rf
  have hl := lv_entry ([.ref x, .ref z, .int xv]) (n := 12) (Nat.le_of_ble_eq_true rfl)
  rw [show entryFrame m args 12 = entryFrame m ([.ref x, .ref z, .int xv] : List Value).toArray 12 from by rw [hargs9], lg_entry_eq]
  generalize (lg_sl ([.ref x, .ref z, .int xv]) ++ List.replicate (12 - (lg_sl ([.ref x, .ref z, .int xv])).length) Slot.unset).toArray = ls at hl ⊢
  have hl : lv_has ls 12 [(0, .ref x), (1, .ref z), (2, .int xv)] := hl
  obtain ⟨hqf, hqr⟩ := hql
  have hbl := hSN.len
  have bq13 := zlt Fa13
  have bq14 := zlt Fa14
  have nr13 := hSN.no Fa13 rfl
  have nr14 := hSN.no Fa14 rfl
  have hhR := hgS_RB (wo := -1) nf hok
  generalize hQ : (MQ below (va_Qi (fun (r : Int32) (ws' : va_W) => (zKi E ws ws') ∧ (LW E x fl rl wh gr gra tr tra sc ha va z sa gs ws') ∧ (r = 1)) (zI E) (zA E)) args s 20 120 (zA E)) = QQ
  refine lv_aload_n hx hb dL_act_0 rfl (lv_at hl 1 rfl) ?_
  refine z_get (C := RX7) (T := TX7) (N := 8) (ci := 8) (v := .ref fe) X J hi_X7 11 Fa11 rfl 0 (by decide) (by decide +kernel) rfl dL_act_1 ?_
  refine z_alenA (v := nI nf) X J qf Fa13 rfl dL_act_4 ?_
  refine lv_istore_n (lv' := [(3, .int (nI nf)), (0, .ref x), (1, .ref z), (2, .int xv)]) hx hb dL_act_5 rfl hl (by decide) rfl (fun ls hl => ?_)
  refine lv_iload_n hx hb dL_act_6 rfl (lv_at hl 3 rfl) ?_
  refine lv_bipush (v := nI 13) hx hb dL_act_7 (by decide) ?_
  refine z_cr (z_rS (As := [.int xv, .int (nI 13)]) (rest := []) X J (cL_below_ok l E (by first | assumption | omega | decide) (by first | assumption | omega | decide)) (va_cwS 2 hts (goodIn_ext2 gL_act_L_below) rfl rfl rfl (by decide +kernel) ⟨Nat.le_of_ble_eq_true rfl, Nat.le_of_ble_eq_true rfl⟩) rfl hl.1 rfl (Nat.le_of_ble_eq_true rfl) dL_act_9 ⟨Nat.le_of_ble_eq_true rfl, Nat.le_of_ble_eq_true rfl⟩) (fun r9 e_r9 => ?_)
  subst e_r9
  refine W.eq (g2 := F0 m 12 ls [.int 7]) (congrArg (fun z9 : Int32 => F0 m 12 ls [.int z9]) (show (nI (bln xv 13) : Int32) = 7 from (by rw [hk13]; rfl))) ?_
  refine lv_tableIn (off := 565) (tgt := 577) hx hb dL_act_12 (by decide) (by decide) (by decide) (by decide) ?_
  refine lv_aload_n hx hb dL_act_577 rfl (lv_at hl 2 rfl) ?_
  refine z_get (C := RX7) (T := TX7) (N := 8) (ci := 8) (v := .int sup) X J hi_X7 11 Fa11 rfl 4 (by decide) (by decide +kernel) rfl dL_act_578 ?_
  refine lv_istore (lv' := [(4, .int sup), (3, .int (nI nf)), (0, .ref x), (1, .ref z), (2, .int xv)]) hx hb dL_act_581 hl (by decide) rfl (fun ls hl => ?_)
  refine lv_aload_n hx hb dL_act_583 rfl (lv_at hl 3 rfl) ?_
  refine lv_iload_n hx hb dL_act_584 rfl (lv_at hl 4 rfl) ?_
  refine lv_iconst (v := 4) hx hb dL_act_585 (by decide) ?_
  refine lv_ishr hx hb dL_act_586 ?_
  refine lv_bipush (v := nI 41) hx hb dL_act_587 (by decide) ?_
  refine z_cr (z_rS (As := [.int (xv >>> (4 &&& 31)), .int (nI 41)]) (rest := [.ref z]) X J (cL_below_ok l E (by first | assumption | omega | decide) (by first | assumption | omega | decide)) (va_cwS 2 hts (goodIn_ext2 gL_act_L_below) rfl rfl rfl (by decide +kernel) ⟨Nat.le_of_ble_eq_true rfl, Nat.le_of_ble_eq_true rfl⟩) rfl hl.1 rfl (Nat.le_of_ble_eq_true rfl) dL_act_589 ⟨Nat.le_of_ble_eq_true rfl, Nat.le_of_ble_eq_true rfl⟩) (fun r589 e_r589 => ?_)
  subst e_r589
  have hb4_41 := bln_lt (v := xv >>> (4 &&& 31)) (n := 41) (by decide)
  refine z_put (C := RX7) (T := TX7) (N := 8) (ci := 8) (v := .int (nI (bln (xv >>> (4 &&& 31)) 41))) X J hi_X7 tyX7 tyX7_ok nmX7 11 Fa11 rfl 4 (by decide) (by decide +kernel) rfl rfl rfl (Nat.le_of_ble_eq_true rfl) dL_act_592 (fun H locs J => ?_)
  have J : zJ E (ws.set 11 (z, .inr (8, [.ref fe, .ref ro, .ref sa, .int lim, .int (nI (bln (xv >>> (4 &&& 31)) 41)), .int off, .int plo, .int hrs]))) s H locs := J
  have hF := hF.keepS (zK.set (S := [11]) (ws := ws) (q := 11) (e := (z, .inr (8, [.ref fe, .ref ro, .ref sa, .int lim, .int (nI (bln (xv >>> (4 &&& 31)) 41)), .int off, .int plo, .int hrs]))) (List.mem_singleton.mpr rfl)) (fun q9 hq9 => Or.inl (by simp only [List.mem_cons, rg_mem, List.not_mem_nil, or_false, not_or] at hq9; omega))
  have hR := hR.keepS (zK.set (S := [11]) (ws := ws) (q := 11) (e := (z, .inr (8, [.ref fe, .ref ro, .ref sa, .int lim, .int (nI (bln (xv >>> (4 &&& 31)) 41)), .int off, .int plo, .int hrs]))) (List.mem_singleton.mpr rfl)) (fun q9 hq9 => Or.inl (by simp only [List.mem_cons, rg_mem, List.not_mem_nil, or_false, not_or] at hq9; omega))
  have hSN := hSN.keep (zK.set (S := [11]) (ws := ws) (q := 11) (e := (z, .inr (8, [.ref fe, .ref ro, .ref sa, .int lim, .int (nI (bln (xv >>> (4 &&& 31)) 41)), .int off, .int plo, .int hrs]))) (List.mem_singleton.mpr rfl)) (fun r9 hr9 => by simp only [List.mem_cons, rg_mem, List.not_mem_nil, or_false, not_or]; omega)
  have hk := hk.step (zK.set (S := [11]) (ws := ws) (q := 11) (e := (z, .inr (8, [.ref fe, .ref ro, .ref sa, .int lim, .int (nI (bln (xv >>> (4 &&& 31)) 41)), .int off, .int plo, .int hrs]))) (List.mem_singleton.mpr rfl)) (fun q9 a9 n9 f9 h8 h7 h9 => by simp only [List.mem_cons, rg_mem, List.not_mem_nil, or_false, not_or]; omega)
  have G1_0 := zset_ne (q := 11) (e' := (z, .inr (8, [.ref fe, .ref ro, .ref sa, .int lim, .int (nI (bln (xv >>> (4 &&& 31)) 41)), .int off, .int plo, .int hrs]))) (by decide) Fa0
  have G1_1 := zset_ne (q := 11) (e' := (z, .inr (8, [.ref fe, .ref ro, .ref sa, .int lim, .int (nI (bln (xv >>> (4 &&& 31)) 41)), .int off, .int plo, .int hrs]))) (by decide) Fa1
  have G1_2 := zset_ne (q := 11) (e' := (z, .inr (8, [.ref fe, .ref ro, .ref sa, .int lim, .int (nI (bln (xv >>> (4 &&& 31)) 41)), .int off, .int plo, .int hrs]))) (by decide) Fa2
  have G1_3 := zset_ne (q := 11) (e' := (z, .inr (8, [.ref fe, .ref ro, .ref sa, .int lim, .int (nI (bln (xv >>> (4 &&& 31)) 41)), .int off, .int plo, .int hrs]))) (by decide) Fa3
  have G1_4 := zset_ne (q := 11) (e' := (z, .inr (8, [.ref fe, .ref ro, .ref sa, .int lim, .int (nI (bln (xv >>> (4 &&& 31)) 41)), .int off, .int plo, .int hrs]))) (by decide) Fa4
  have G1_5 := zset_ne (q := 11) (e' := (z, .inr (8, [.ref fe, .ref ro, .ref sa, .int lim, .int (nI (bln (xv >>> (4 &&& 31)) 41)), .int off, .int plo, .int hrs]))) (by decide) Fa5
  have G1_6 := zset_ne (q := 11) (e' := (z, .inr (8, [.ref fe, .ref ro, .ref sa, .int lim, .int (nI (bln (xv >>> (4 &&& 31)) 41)), .int off, .int plo, .int hrs]))) (by decide) Fa6
  have G1_7 := zset_ne (q := 11) (e' := (z, .inr (8, [.ref fe, .ref ro, .ref sa, .int lim, .int (nI (bln (xv >>> (4 &&& 31)) 41)), .int off, .int plo, .int hrs]))) (by decide) Fa7
  have G1_8 := zset_ne (q := 11) (e' := (z, .inr (8, [.ref fe, .ref ro, .ref sa, .int lim, .int (nI (bln (xv >>> (4 &&& 31)) 41)), .int off, .int plo, .int hrs]))) (by decide) Fa8
  have G1_9 := zset_ne (q := 11) (e' := (z, .inr (8, [.ref fe, .ref ro, .ref sa, .int lim, .int (nI (bln (xv >>> (4 &&& 31)) 41)), .int off, .int plo, .int hrs]))) (by decide) Fa9
  have G1_10 := zset_ne (q := 11) (e' := (z, .inr (8, [.ref fe, .ref ro, .ref sa, .int lim, .int (nI (bln (xv >>> (4 &&& 31)) 41)), .int off, .int plo, .int hrs]))) (by decide) Fa10
  have G1_11 := zset_eq (e' := (z, .inr (8, [.ref fe, .ref ro, .ref sa, .int lim, .int (nI (bln (xv >>> (4 &&& 31)) 41)), .int off, .int plo, .int hrs]))) Fa11
  have G1_12 := zset_ne (q := 11) (e' := (z, .inr (8, [.ref fe, .ref ro, .ref sa, .int lim, .int (nI (bln (xv >>> (4 &&& 31)) 41)), .int off, .int plo, .int hrs]))) (by decide) Fa12
  have G1_13 := zset_ne (q := 11) (e' := (z, .inr (8, [.ref fe, .ref ro, .ref sa, .int lim, .int (nI (bln (xv >>> (4 &&& 31)) 41)), .int off, .int plo, .int hrs]))) (by omega) Fa13
  have G1_14 := zset_ne (q := 11) (e' := (z, .inr (8, [.ref fe, .ref ro, .ref sa, .int lim, .int (nI (bln (xv >>> (4 &&& 31)) 41)), .int off, .int plo, .int hrs]))) (by omega) Fa14
  generalize hws1 : (ws.set 11 (z, .inr (8, [.ref fe, .ref ro, .ref sa, .int lim, .int (nI (bln (xv >>> (4 &&& 31)) 41)), .int off, .int plo, .int hrs]))) = ws_1 at J hk G1_0 G1_1 G1_2 G1_3 G1_4 G1_5 G1_6 G1_7 G1_8 G1_9 G1_10 G1_11 G1_12 G1_13 G1_14 hF hR hSN
  refine lv_aload_n hx hb dL_act_595 rfl (lv_at hl 2 rfl) ?_
  refine lv_aload_n hx hb dL_act_596 rfl (lv_at hl 3 rfl) ?_
  refine z_get (C := RX7) (T := TX7) (N := 8) (ci := 8) (v := .int (nI (bln (xv >>> (4 &&& 31)) 41))) X J hi_X7 11 G1_11 rfl 4 (by decide) (by decide +kernel) rfl dL_act_597 ?_
  refine z_xi J (z_yV (As := [.int (nI (bln (xv >>> (4 &&& 31)) 41))]) (rest := []) (ci := 7) (q0 := 0) X hRz J (cX6_setSupply_ok l hflags E G1_0) (cwV 1 hts (goodIn_ext2 gL_act_X6_setSupply) rfl rfl rfl (by decide +kernel) ⟨Nat.le_of_ble_eq_true rfl, Nat.le_of_ble_eq_true rfl⟩) G1_0 rfl rfl rfl hl.1 rfl (Nat.le_of_ble_eq_true rfl) dL_act_600 ⟨by show _ ≤ 20; omega, by show _ ≤ 120; omega⟩) (fun nm ce q9 H locs hp9 J h1 h2 h3 => ?_) (fun r600 ws_2 H locs hp9 J => ?_)
  · exact False.elim (by exact absurd hp9.1 (by rw [show kSup (nI (bln (xv >>> (4 &&& 31)) 41)) = 0 from kSup_ok (by omega)]; decide))
  obtain ⟨k2, G2_a0, e_r600⟩ := hp9
  have hF := hF.keepS k2 (fun q9 hq9 => Or.inl (by simp only [List.mem_cons, rg_mem, List.not_mem_nil, or_false, not_or] at hq9; omega))
  have hR := hR.keepS k2 (fun q9 hq9 => Or.inl (by simp only [List.mem_cons, rg_mem, List.not_mem_nil, or_false, not_or] at hq9; omega))
  have hSN := hSN.keep k2 (fun r9 hr9 => by simp only [List.mem_cons, rg_mem, List.not_mem_nil, or_false, not_or]; omega)
  have hk := hk.step k2 (fun q9 a9 n9 f9 h8 h7 h9 => by simp only [List.mem_cons, rg_mem, List.not_mem_nil, or_false, not_or]; omega)
  have G2_1 := k2.2 1 _ (by decide) G1_1
  have G2_2 := k2.2 2 _ (by decide) G1_2
  have G2_3 := k2.2 3 _ (by decide) G1_3
  have G2_4 := k2.2 4 _ (by decide) G1_4
  have G2_5 := k2.2 5 _ (by decide) G1_5
  have G2_6 := k2.2 6 _ (by decide) G1_6
  have G2_7 := k2.2 7 _ (by decide) G1_7
  have G2_8 := k2.2 8 _ (by decide) G1_8
  have G2_9 := k2.2 9 _ (by decide) G1_9
  have G2_10 := k2.2 10 _ (by decide) G1_10
  have G2_11 := k2.2 11 _ (by decide) G1_11
  have G2_12 := k2.2 14 _ (by decide) G1_12
  have G2_13 := k2.2 qf _ (by simp only [List.mem_cons, List.not_mem_nil, or_false]; omega) G1_13
  have G2_14 := k2.2 qr _ (by simp only [List.mem_cons, List.not_mem_nil, or_false]; omega) G1_14
  refine W.eq (g2 := F0 m 603 ls [.int sup]) (congrArg (fun z9 : Int32 => F0 m 603 ls [.int z9]) (show (r600 : Int32) = sup from e_r600.2)) ?_
  refine lv_iload hx hb dL_act_603 (lv_at hl 0 rfl) ?_
  refine lv_icmp_ne (tgt := 612) hx hb dL_act_605 (by decide) (fun cz605 => by exact (cz605 rfl).elim) (fun cz605 => ?_)
  refine lv_iconst (v := 1) hx hb dL_act_608 (by decide) ?_
  refine lv_goto (tgt := 613) hx hb dL_act_609 (by decide) ?_
  refine W.widen (k := 20) (n := 120) (by omega) (by omega) ?_
  subst hQ
  exact W.zret (v := 1) hx hb hr rfl (fun t ht hW => ⟨⟨1, ws_2, rfl, ⟨hk, ⟨mc1, mc2, lim, ((nI (bln (xv >>> (4 &&& 31)) 41))), off, plo, hrs, ea, eb, nf, nr, fe, qf, ro, qr, fa, rd, ri, sn, t9, hf, gf, g, gq, G2_a0, G2_1, G2_2, G2_3, G2_4, G2_5, G2_6, G2_7, G2_8, G2_9, G2_10, G2_11, G2_12, G2_13, G2_14, ⟨by omega, by omega⟩, hF, hR, hSep, (hSE.keepI hk), (hSR.keepI hk), hSN, hnf, hnr, hok, hor, hRB, (nI_BI2 (by omega) (by omega) (by omega)), hlm, (Nat.le_trans hln hk.1)⟩, rfl⟩, J.I X ht hW.alike⟩, J.F ht⟩) J.locs dL_act_613
