set_option maxHeartbeats 400000 in
set_option maxRecDepth 100000 in
theorem cL_act_c_ok (l : Launch) (hflags : l.flags = flags0) (E : zG) {ws : va_W} {x fl rl wh gr gra tr tra sc ha va ea eb nf nr z sa fe qf ro qr : Nat} {mc1 mc2 lim sup off plo hrs : Int32} {fa rd ri sn t9 hf gf : Nat → Int32} {g gq gs : Nat → Option Nat} {xv : Int32} (Fa0 : ws[0]? = some (x, .inr (7, [.ref fl, .ref rl, .ref wh, .ref gr, .ref tr, .ref sc, .int lim, .int sup, .int off, .int plo, .int hrs]))) (Fa1 : ws[1]? = some (fl, .inr (0, [.int mc1, .ref ea, .int (nI nf)]))) (Fa2 : ws[2]? = some (rl, .inr (0, [.int mc2, .ref eb, .int (nI nr)]))) (Fa3 : ws[3]? = some (wh, .inr (5, [.int (0 * 20 + 0), .int (nI 400), .int 0]))) (Fa4 : ws[4]? = some (gr, .inr (2, [.ref gra]))) (Fa5 : ws[5]? = some (gra, zI4 E 400 sn)) (Fa6 : ws[6]? = some (tr, .inr (2, [.ref tra]))) (Fa7 : ws[7]? = some (tra, zI4 E 400 t9)) (Fa8 : ws[8]? = some (sc, .inr (4, [.ref ha, .ref va]))) (Fa9 : ws[9]? = some (ha, zI4 E 400 hf)) (Fa10 : ws[10]? = some (va, zI4 E 400 gf)) (Fa11 : ws[11]? = some (z, .inr (8, [.ref fe, .ref ro, .ref sa, .int lim, .int sup, .int off, .int plo, .int hrs]))) (Fa12 : ws[14]? = some (sa, zA4 E 20 gs)) (Fa13 : ws[qf]? = some (fe, zA4 E nf g)) (Fa14 : ws[qr]? = some (ro, zA4 E nr gq)) (hql : 11 < qf ∧ 11 < qr) (hF : FS E ws fa ea nf) (hR : RS E ws rd ri eb nr) (hSep : SEP E ea eb) (hSE : SE E ws g nf fa) (hSR : SR E ws gq nr rd ri) (hSN : SN E ws 15 gs sn) (hnf : nf ≤ 10) (hnr : nr ≤ 4) (hok : ∀ j, j < nf → okF fa j) (hor : ∀ q, q < nr → okR rd ri q) (hRB : RB 200 sn) (hu9 : BI 0 40 sup) (hlm : BI 1 60 lim) (hln : 35 ≤ ws.length) (hE1 : ¬ zA E E.2.2.1) (hk13 : bln xv 13 = 3) : Met l yL_act wsL_act2 ({ frames := 8, cells := 20, slots := 120, locals := 128 } : Room) (va_Pc [.ref x, .ref z, .int xv] (zY E ws)) (va_Qi (fun (r : Int32) (ws' : va_W) => (zKi E ws ws') ∧ (LW E x fl rl wh gr gra tr tra sc ha va z sa gs ws') ∧ (r = 1)) (zI E) (zA E)) 20 120 (zA E) := by
  refine Met.ofW (cc := cL_act) (maxL := 12) (ret := (some .boolean)) (by decide) rfl ?_
  intro p e s m args below meth c s₁ B hml hv
  obtain ⟨hargs9, hI, hRz⟩ := hv
  have hx := B.exec
  have hb := B.bytes
  have hr := B.returns
  have hlocks := B.notSynchronized
  have X : zC E p m c cL_act 12 s args wsL_act2 RL := z_open B hml hI
  have hown := X.1.2.2.2.1
  have hts := X.1.2.2.2.2
  have J := hI.J
  have hi_X7 : ∀ w ∈ wsX70, w ∈ wsL_act2 := by decide +kernel
  have n0_13 : 0 ≠ qf := zneK Fa0 Fa13 rfl
  have n0_14 : 0 ≠ qr := zneK Fa0 Fa14 rfl
  have n1_13 : 1 ≠ qf := zneK Fa1 Fa13 rfl
  have n1_14 : 1 ≠ qr := zneK Fa1 Fa14 rfl
  have n2_13 : 2 ≠ qf := zneK Fa2 Fa13 rfl
  have n2_14 : 2 ≠ qr := zneK Fa2 Fa14 rfl
  have n3_13 : 3 ≠ qf := zneK Fa3 Fa13 rfl
  have n3_14 : 3 ≠ qr := zneK Fa3 Fa14 rfl
  have n4_13 : 4 ≠ qf := zneK Fa4 Fa13 rfl
  have n4_14 : 4 ≠ qr := zneK Fa4 Fa14 rfl
  have n5_13 : 5 ≠ qf := zneK Fa5 Fa13 rfl
  have n5_14 : 5 ≠ qr := zneK Fa5 Fa14 rfl
  have n6_13 : 6 ≠ qf := zneK Fa6 Fa13 rfl
  have n6_14 : 6 ≠ qr := zneK Fa6 Fa14 rfl
  have n7_13 : 7 ≠ qf := zneK Fa7 Fa13 rfl
  have n7_14 : 7 ≠ qr := zneK Fa7 Fa14 rfl
  have n8_13 : 8 ≠ qf := zneK Fa8 Fa13 rfl
  have n8_14 : 8 ≠ qr := zneK Fa8 Fa14 rfl
  have n9_13 : 9 ≠ qf := zneK Fa9 Fa13 rfl
  have n9_14 : 9 ≠ qr := zneK Fa9 Fa14 rfl
  have n10_13 : 10 ≠ qf := zneK Fa10 Fa13 rfl
  have n10_14 : 10 ≠ qr := zneK Fa10 Fa14 rfl
  have n11_13 : 11 ≠ qf := zneK Fa11 Fa13 rfl
  have n11_14 : 11 ≠ qr := zneK Fa11 Fa14 rfl
  have hk : zKi E ws ws := zKi.rf
  have hl := lv_entry ([.ref x, .ref z, .int xv]) (n := 12) (Nat.le_of_ble_eq_true rfl)
  rw [show entryFrame m args 12 = entryFrame m ([.ref x, .ref z, .int xv] : List Value).toArray 12 from by rw [hargs9], lg_entry_eq]
  generalize (lg_sl ([.ref x, .ref z, .int xv]) ++ List.replicate (12 - (lg_sl ([.ref x, .ref z, .int xv])).length) Slot.unset).toArray = ls at hl ⊢
  have hl : lv_has ls 12 [(0, .ref x), (1, .ref z), (2, .int xv)] := hl
  obtain ⟨hqf, hqr⟩ := hql
  have hbl := hSN.len
  have bq13 := zlt Fa13
  have bq14 := zlt Fa14
  have nr13 := hSN.no Fa13 rfl
  have nr14 := hSN.no Fa14 rfl
  have hhR := hgS_RB (wo := -1) nf hok
  generalize hQ : (MQ below (va_Qi (fun (r : Int32) (ws' : va_W) => (zKi E ws ws') ∧ (LW E x fl rl wh gr gra tr tra sc ha va z sa gs ws') ∧ (r = 1)) (zI E) (zA E)) args s 20 120 (zA E)) = QQ
  refine lv_aload_n hx hb dL_act_0 rfl (lv_at hl 1 rfl) ?_
  refine z_get (C := RX7) (T := TX7) (N := 8) (ci := 8) (v := .ref fe) X J hi_X7 11 Fa11 rfl 0 (by decide) (by decide +kernel) rfl dL_act_1 ?_
  refine z_alenA (v := nI nf) X J qf Fa13 rfl dL_act_4 ?_
  refine lv_istore_n (lv' := [(3, .int (nI nf)), (0, .ref x), (1, .ref z), (2, .int xv)]) hx hb dL_act_5 rfl hl (by decide) rfl (fun ls hl => ?_)
  refine lv_iload_n hx hb dL_act_6 rfl (lv_at hl 3 rfl) ?_
  refine lv_bipush (v := nI 13) hx hb dL_act_7 (by decide) ?_
  refine z_cr (z_rS (As := [.int xv, .int (nI 13)]) (rest := []) X J (cL_below_ok l E (by first | assumption | omega | decide) (by first | assumption | omega | decide)) (va_cwS 2 hts (goodIn_ext2 gL_act_L_below) rfl rfl rfl (by decide +kernel) ⟨Nat.le_of_ble_eq_true rfl, Nat.le_of_ble_eq_true rfl⟩) rfl hl.1 rfl (Nat.le_of_ble_eq_true rfl) dL_act_9 ⟨Nat.le_of_ble_eq_true rfl, Nat.le_of_ble_eq_true rfl⟩) (fun r9 e_r9 => ?_)
  subst e_r9
  refine W.eq (g2 := F0 m 12 ls [.int 3]) (congrArg (fun z9 : Int32 => F0 m 12 ls [.int z9]) (show (nI (bln xv 13) : Int32) = 3 from (by rw [hk13]; rfl))) ?_
  refine lv_tableIn (off := 257) (tgt := 269) hx hb dL_act_12 (by decide) (by decide) (by decide) (by decide) ?_
  refine lv_iload_n hx hb dL_act_269 rfl (lv_at hl 0 rfl) ?_
  refine lv_if_ne (tgt := 275) hx hb dL_act_270 (by decide) (fun cz270 => ?_) (fun cz270 => ?_)
  · have hn00 : 0 < nf := Nat.pos_of_ne_zero (fun q9 => cz270 (by rw [q9]; rfl))
    refine lv_iload_n hx hb dL_act_275 rfl (lv_at hl 3 rfl) ?_
    refine lv_iconst (v := 3) hx hb dL_act_276 (by decide) ?_
    refine lv_ishr hx hb dL_act_277 ?_
    refine lv_iload_n hx hb dL_act_278 rfl (lv_at hl 0 rfl) ?_
    obtain ⟨kf, hkf⟩ : ∃ q9 : Nat, q9 = bln (xv >>> (3 &&& 31)) (nf) := ⟨_, rfl⟩
    have bkf := bln_lt (v := xv >>> (3 &&& 31)) (n := nf) (hn00)
    refine z_cr (z_rS (As := [.int (xv >>> (3 &&& 31)), .int (nI nf)]) (rest := []) X J (cL_below_ok l E (by first | assumption | omega | decide) (by first | assumption | omega | decide)) (va_cwS 2 hts (goodIn_ext2 gL_act_L_below) rfl rfl rfl (by decide +kernel) ⟨Nat.le_of_ble_eq_true rfl, Nat.le_of_ble_eq_true rfl⟩) rfl hl.1 rfl (Nat.le_of_ble_eq_true rfl) dL_act_279 ⟨Nat.le_of_ble_eq_true rfl, Nat.le_of_ble_eq_true rfl⟩) (fun r279 e_r279 => ?_)
    subst e_r279
    refine W.eq (g2 := F0 m 282 ls [.int (nI kf)]) (congrArg (fun z9 : Int32 => F0 m 282 ls [.int z9]) (show (nI (bln (xv >>> (3 &&& 31)) nf) : Int32) = nI kf from (by rw [hkf]))) ?_
    refine lv_istore (lv' := [(4, .int (nI kf)), (3, .int (nI nf)), (0, .ref x), (1, .ref z), (2, .int xv)]) hx hb dL_act_282 hl (by decide) rfl (fun ls hl => ?_)
    obtain ⟨ja, jq, jf, hgj, hjq, hjf, hje⟩ := hSE.keepI hk kf (by omega)
    refine lv_aload_n hx hb dL_act_284 rfl (lv_at hl 3 rfl) ?_
    refine z_get (C := RX7) (T := TX7) (N := 8) (ci := 8) (v := .ref fe) X J hi_X7 11 Fa11 rfl 0 (by decide) (by decide +kernel) rfl dL_act_285 ?_
    refine lv_iload hx hb dL_act_288 (lv_at hl 0 rfl) ?_
    refine z_aaldA X J qf Fa13 (vp_in_nI (by omega) (by first | decide | omega)) dL_act_290 ?_
    refine W.eq (g2 := F0 m 291 ls [va_rf (g kf)]) (congrArg (fun z9 : Option Nat => F0 m 291 ls [va_rf z9]) (show (g (nI kf).toNatClampNeg : Option Nat) = g kf from (congrArg _ (nI_clamp (by omega))))) ?_
    refine W.eq (g2 := F0 m 291 ls [.ref ja]) (by rw [show g kf = some ja from hgj]; rfl) ?_
    refine z_cloneI X J hl.1 jq hjf (by decide +kernel) (Nat.le_of_ble_eq_true rfl) (Nat.le_of_ble_eq_true rfl) (by show _ ≤ 20; omega) (by show _ ≤ 120; omega) dL_act_291 (fun q291 H J => ?_)
    have hF := hF.keepS (zK.app (S := []) (ws := ws) (more := [(q291, zI4 E 6 jf)])) (fun q9 hq9 => absurd hq9 List.not_mem_nil)
    have hR := hR.keepS (zK.app (S := []) (ws := ws) (more := [(q291, zI4 E 6 jf)])) (fun q9 hq9 => absurd hq9 List.not_mem_nil)
    have hSN := hSN.keep (zK.app (S := []) (ws := ws) (more := [(q291, zI4 E 6 jf)])) (fun _ _ => List.not_mem_nil)
    have lp1 := hk.1
    have hk := hk.step (zK.app (S := []) (ws := ws) (more := [(q291, zI4 E 6 jf)])) (fun _ _ _ _ _ _ _ => List.not_mem_nil)
    have bG1_0 := zlt Fa0
    have G1_0 := zapp (x := (q291, zI4 E 6 jf)) Fa0
    have bG1_1 := zlt Fa1
    have G1_1 := zapp (x := (q291, zI4 E 6 jf)) Fa1
    have bG1_2 := zlt Fa2
    have G1_2 := zapp (x := (q291, zI4 E 6 jf)) Fa2
    have bG1_3 := zlt Fa3
    have G1_3 := zapp (x := (q291, zI4 E 6 jf)) Fa3
    have bG1_4 := zlt Fa4
    have G1_4 := zapp (x := (q291, zI4 E 6 jf)) Fa4
    have bG1_5 := zlt Fa5
    have G1_5 := zapp (x := (q291, zI4 E 6 jf)) Fa5
    have bG1_6 := zlt Fa6
    have G1_6 := zapp (x := (q291, zI4 E 6 jf)) Fa6
    have bG1_7 := zlt Fa7
    have G1_7 := zapp (x := (q291, zI4 E 6 jf)) Fa7
    have bG1_8 := zlt Fa8
    have G1_8 := zapp (x := (q291, zI4 E 6 jf)) Fa8
    have bG1_9 := zlt Fa9
    have G1_9 := zapp (x := (q291, zI4 E 6 jf)) Fa9
    have bG1_10 := zlt Fa10
    have G1_10 := zapp (x := (q291, zI4 E 6 jf)) Fa10
    have bG1_11 := zlt Fa11
    have G1_11 := zapp (x := (q291, zI4 E 6 jf)) Fa11
    have bG1_12 := zlt Fa12
    have G1_12 := zapp (x := (q291, zI4 E 6 jf)) Fa12
    have bG1_13 := zlt Fa13
    have G1_13 := zapp (x := (q291, zI4 E 6 jf)) Fa13
    have bG1_14 := zlt Fa14
    have G1_14 := zapp (x := (q291, zI4 E 6 jf)) Fa14
    have bG1_15 := zlt hjf
    have G1_15 := zapp (x := (q291, zI4 E 6 jf)) hjf
    have G1_n := zapp_new (ws := ws) (x := (q291, zI4 E 6 jf))
    generalize hws1 : ws ++ [(q291, zI4 E 6 jf)] = ws_1 at J hk G1_0 G1_1 G1_2 G1_3 G1_4 G1_5 G1_6 G1_7 G1_8 G1_9 G1_10 G1_11 G1_12 G1_13 G1_14 G1_15 hF hR hSN G1_n
    generalize hpn1 : ws.length = pn_1 at G1_n lp1 bG1_0 bG1_1 bG1_2 bG1_3 bG1_4 bG1_5 bG1_6 bG1_7 bG1_8 bG1_9 bG1_10 bG1_11 bG1_12 bG1_13 bG1_14 bG1_15
    refine z_castI X J pn_1 G1_n (by decide +kernel) dL_act_294 ?_
    refine lv_astore (lv' := [(5, .ref q291), (4, .int (nI kf)), (3, .int (nI nf)), (0, .ref x), (1, .ref z), (2, .int xv)]) hx hb dL_act_297 hl (by decide) rfl (fun ls hl => ?_)
    refine lv_bipush (v := 10) hx hb dL_act_299 (by decide) ?_
    refine lv_aload hx hb dL_act_301 (lv_at hl 0 rfl) ?_
    refine lv_iconst (v := nI 4) hx hb dL_act_303 rfl ?_
    refine z_iald X J pn_1 G1_n (vp_in_nI (by omega) (by first | decide | omega)) dL_act_304 ?_
    refine W.eq (g2 := F0 m 305 ls [.int (jf 4), .int 10]) (congrArg (fun z9 : Int32 => F0 m 305 ls [.int z9, .int 10]) (show (jf (nI 4).toNatClampNeg : Int32) = jf 4 from (congrArg _ (nI_clamp (by omega))))) ?_
    refine lv_imul hx hb dL_act_305 ?_
    refine lv_aload hx hb dL_act_306 (lv_at hl 0 rfl) ?_
    refine lv_iconst (v := nI 5) hx hb dL_act_308 rfl ?_
    refine z_iald X J pn_1 G1_n (vp_in_nI (by omega) (by first | decide | omega)) dL_act_309 ?_
    refine W.eq (g2 := F0 m 310 ls [.int (jf 5), .int (10 * (jf 4))]) (congrArg (fun z9 : Int32 => F0 m 310 ls [.int z9, .int (10 * (jf 4))]) (show (jf (nI 5).toNatClampNeg : Int32) = jf 5 from (congrArg _ (nI_clamp (by omega))))) ?_
    refine lv_iadd hx hb dL_act_310 ?_
    refine lv_istore (lv' := [(6, .int ((10 * (jf 4)) + (jf 5))), (5, .ref q291), (4, .int (nI kf)), (3, .int (nI nf)), (0, .ref x), (1, .ref z), (2, .int xv)]) hx hb dL_act_311 hl (by decide) rfl (fun ls hl => ?_)
    refine lv_aload hx hb dL_act_313 (lv_at hl 1 rfl) ?_
    refine lv_iconst (v := nI 4) hx hb dL_act_315 rfl ?_
    refine lv_iconst (v := nI 1) hx hb dL_act_316 rfl ?_
    refine lv_iload_n hx hb dL_act_317 rfl (lv_at hl 6 rfl) ?_
    refine lv_iconst (v := 5) hx hb dL_act_318 (by decide) ?_
    refine lv_ishr hx hb dL_act_319 ?_
    refine lv_bipush (v := nI 9) hx hb dL_act_320 (by decide) ?_
    refine z_cr (z_rS (As := [.int (xv >>> (5 &&& 31)), .int (nI 9)]) (rest := [.int (nI 1), .int (nI 4), .ref q291]) X J (cL_below_ok l E (by first | assumption | omega | decide) (by first | assumption | omega | decide)) (va_cwS 2 hts (goodIn_ext2 gL_act_L_below) rfl rfl rfl (by decide +kernel) ⟨Nat.le_of_ble_eq_true rfl, Nat.le_of_ble_eq_true rfl⟩) rfl hl.1 rfl (Nat.le_of_ble_eq_true rfl) dL_act_322 ⟨Nat.le_of_ble_eq_true rfl, Nat.le_of_ble_eq_true rfl⟩) (fun r322 e_r322 => ?_)
    subst e_r322
    obtain ⟨he, hhe⟩ : ∃ q9 : Nat, q9 = 1 + bln (xv >>> (5 &&& 31)) 9 := ⟨_, rfl⟩
    have bhe := bln_lt (v := xv >>> (5 &&& 31)) (n := 9) (by decide)
    refine lv_iadd hx hb dL_act_325 ?_
    refine W.eq (g2 := F0 m 326 ls [.int (nI he), .int (nI 4), .ref q291]) (congrArg (fun z9 : Int32 => F0 m 326 ls [.int z9, .int (nI 4), .ref q291]) (show ((nI 1) + (nI (bln (xv >>> (5 &&& 31)) 9)) : Int32) = nI he from (by rw [nI_add, hhe]))) ?_
    refine z_iast X J pn_1 G1_n (vp_in_nI (by omega) (by first | decide | omega)) dL_act_326 (fun H locs J => ?_)
    rw [show upd jf (nI 4).toNatClampNeg (nI he) = upd jf 4 (nI he) from (by rw [nI_clamp (by omega)])] at J
    have hF := hF.keepS (zK.set (S := [pn_1]) (ws := ws_1) (q := pn_1) (e := (q291, zI4 E 6 (upd jf 4 (nI he)))) (List.mem_singleton.mpr rfl)) (fun q9 hq9 => Or.inr ⟨_, _, (List.mem_singleton.mp hq9).symm ▸ G1_n, noL_I⟩)
    have hR := hR.keepS (zK.set (S := [pn_1]) (ws := ws_1) (q := pn_1) (e := (q291, zI4 E 6 (upd jf 4 (nI he)))) (List.mem_singleton.mpr rfl)) (fun q9 hq9 => Or.inr ⟨_, _, (List.mem_singleton.mp hq9).symm ▸ G1_n, noL_I⟩)
    have hSN := hSN.keep (zK.set (S := [pn_1]) (ws := ws_1) (q := pn_1) (e := (q291, zI4 E 6 (upd jf 4 (nI he)))) (List.mem_singleton.mpr rfl)) (fun r9 hr9 => by simp only [List.mem_cons, rg_mem, List.not_mem_nil, or_false, not_or]; omega)
    have hk := hk.step (zK.set (S := [pn_1]) (ws := ws_1) (q := pn_1) (e := (q291, zI4 E 6 (upd jf 4 (nI he)))) (List.mem_singleton.mpr rfl)) (fun q9 a9 n9 f9 h8 h7 h9 => by simp only [List.mem_cons, rg_mem, List.not_mem_nil, or_false, not_or]; omega)
    have G2_0 := zset_ne (q := pn_1) (e' := (q291, zI4 E 6 (upd jf 4 (nI he)))) (by omega) G1_0
    have G2_1 := zset_ne (q := pn_1) (e' := (q291, zI4 E 6 (upd jf 4 (nI he)))) (by omega) G1_1
    have G2_2 := zset_ne (q := pn_1) (e' := (q291, zI4 E 6 (upd jf 4 (nI he)))) (by omega) G1_2
    have G2_3 := zset_ne (q := pn_1) (e' := (q291, zI4 E 6 (upd jf 4 (nI he)))) (by omega) G1_3
    have G2_4 := zset_ne (q := pn_1) (e' := (q291, zI4 E 6 (upd jf 4 (nI he)))) (by omega) G1_4
    have G2_5 := zset_ne (q := pn_1) (e' := (q291, zI4 E 6 (upd jf 4 (nI he)))) (by omega) G1_5
    have G2_6 := zset_ne (q := pn_1) (e' := (q291, zI4 E 6 (upd jf 4 (nI he)))) (by omega) G1_6
    have G2_7 := zset_ne (q := pn_1) (e' := (q291, zI4 E 6 (upd jf 4 (nI he)))) (by omega) G1_7
    have G2_8 := zset_ne (q := pn_1) (e' := (q291, zI4 E 6 (upd jf 4 (nI he)))) (by omega) G1_8
    have G2_9 := zset_ne (q := pn_1) (e' := (q291, zI4 E 6 (upd jf 4 (nI he)))) (by omega) G1_9
    have G2_10 := zset_ne (q := pn_1) (e' := (q291, zI4 E 6 (upd jf 4 (nI he)))) (by omega) G1_10
    have G2_11 := zset_ne (q := pn_1) (e' := (q291, zI4 E 6 (upd jf 4 (nI he)))) (by omega) G1_11
    have G2_12 := zset_ne (q := pn_1) (e' := (q291, zI4 E 6 (upd jf 4 (nI he)))) (by omega) G1_12
    have G2_13 := zset_ne (q := pn_1) (e' := (q291, zI4 E 6 (upd jf 4 (nI he)))) (by omega) G1_13
    have G2_14 := zset_ne (q := pn_1) (e' := (q291, zI4 E 6 (upd jf 4 (nI he)))) (by omega) G1_14
    have G2_15 := zset_ne (q := pn_1) (e' := (q291, zI4 E 6 (upd jf 4 (nI he)))) (by omega) G1_15
    have G2_16 := zset_eq (e' := (q291, zI4 E 6 (upd jf 4 (nI he)))) G1_n
    generalize hws2 : (ws_1.set pn_1 (q291, zI4 E 6 (upd jf 4 (nI he)))) = ws_2 at J hk G2_0 G2_1 G2_2 G2_3 G2_4 G2_5 G2_6 G2_7 G2_8 G2_9 G2_10 G2_11 G2_12 G2_13 G2_14 G2_15 G2_16 hF hR hSN
    refine lv_aload hx hb dL_act_327 (lv_at hl 1 rfl) ?_
    refine lv_iconst (v := nI 5) hx hb dL_act_329 rfl ?_
    refine lv_iload_n hx hb dL_act_330 rfl (lv_at hl 6 rfl) ?_
    refine lv_bipush (v := 7) hx hb dL_act_331 (by decide) ?_
    refine lv_ishr hx hb dL_act_333 ?_
    refine lv_iconst (v := nI 4) hx hb dL_act_334 rfl ?_
    obtain ⟨ga, hga⟩ : ∃ q9 : Nat, q9 = bln (xv >>> (7 &&& 31)) (4) := ⟨_, rfl⟩
    have bga := bln_lt (v := xv >>> (7 &&& 31)) (n := 4) (by omega)
    refine z_cr (z_rS (As := [.int (xv >>> (7 &&& 31)), .int (nI 4)]) (rest := [.int (nI 5), .ref q291]) X J (cL_below_ok l E (by first | assumption | omega | decide) (by first | assumption | omega | decide)) (va_cwS 2 hts (goodIn_ext2 gL_act_L_below) rfl rfl rfl (by decide +kernel) ⟨Nat.le_of_ble_eq_true rfl, Nat.le_of_ble_eq_true rfl⟩) rfl hl.1 rfl (Nat.le_of_ble_eq_true rfl) dL_act_335 ⟨Nat.le_of_ble_eq_true rfl, Nat.le_of_ble_eq_true rfl⟩) (fun r335 e_r335 => ?_)
    subst e_r335
    refine W.eq (g2 := F0 m 338 ls [.int (nI ga), .int (nI 5), .ref q291]) (congrArg (fun z9 : Int32 => F0 m 338 ls [.int z9, .int (nI 5), .ref q291]) (show (nI (bln (xv >>> (7 &&& 31)) 4) : Int32) = nI ga from (by rw [hga]))) ?_
    refine z_iast X J pn_1 G2_16 (vp_in_nI (by omega) (by first | decide | omega)) dL_act_338 (fun H locs J => ?_)
    rw [show upd (upd jf 4 (nI he)) (nI 5).toNatClampNeg (nI ga) = upd (upd jf 4 (nI he)) 5 (nI ga) from (by rw [nI_clamp (by omega)])] at J
    have hF := hF.keepS (zK.set (S := [pn_1]) (ws := ws_2) (q := pn_1) (e := (q291, zI4 E 6 (upd (upd jf 4 (nI he)) 5 (nI ga)))) (List.mem_singleton.mpr rfl)) (fun q9 hq9 => Or.inr ⟨_, _, (List.mem_singleton.mp hq9).symm ▸ G2_16, noL_I⟩)
    have hR := hR.keepS (zK.set (S := [pn_1]) (ws := ws_2) (q := pn_1) (e := (q291, zI4 E 6 (upd (upd jf 4 (nI he)) 5 (nI ga)))) (List.mem_singleton.mpr rfl)) (fun q9 hq9 => Or.inr ⟨_, _, (List.mem_singleton.mp hq9).symm ▸ G2_16, noL_I⟩)
    have hSN := hSN.keep (zK.set (S := [pn_1]) (ws := ws_2) (q := pn_1) (e := (q291, zI4 E 6 (upd (upd jf 4 (nI he)) 5 (nI ga)))) (List.mem_singleton.mpr rfl)) (fun r9 hr9 => by simp only [List.mem_cons, rg_mem, List.not_mem_nil, or_false, not_or]; omega)
    have hk := hk.step (zK.set (S := [pn_1]) (ws := ws_2) (q := pn_1) (e := (q291, zI4 E 6 (upd (upd jf 4 (nI he)) 5 (nI ga)))) (List.mem_singleton.mpr rfl)) (fun q9 a9 n9 f9 h8 h7 h9 => by simp only [List.mem_cons, rg_mem, List.not_mem_nil, or_false, not_or]; omega)
    have G3_0 := zset_ne (q := pn_1) (e' := (q291, zI4 E 6 (upd (upd jf 4 (nI he)) 5 (nI ga)))) (by omega) G2_0
    have G3_1 := zset_ne (q := pn_1) (e' := (q291, zI4 E 6 (upd (upd jf 4 (nI he)) 5 (nI ga)))) (by omega) G2_1
    have G3_2 := zset_ne (q := pn_1) (e' := (q291, zI4 E 6 (upd (upd jf 4 (nI he)) 5 (nI ga)))) (by omega) G2_2
    have G3_3 := zset_ne (q := pn_1) (e' := (q291, zI4 E 6 (upd (upd jf 4 (nI he)) 5 (nI ga)))) (by omega) G2_3
    have G3_4 := zset_ne (q := pn_1) (e' := (q291, zI4 E 6 (upd (upd jf 4 (nI he)) 5 (nI ga)))) (by omega) G2_4
    have G3_5 := zset_ne (q := pn_1) (e' := (q291, zI4 E 6 (upd (upd jf 4 (nI he)) 5 (nI ga)))) (by omega) G2_5
    have G3_6 := zset_ne (q := pn_1) (e' := (q291, zI4 E 6 (upd (upd jf 4 (nI he)) 5 (nI ga)))) (by omega) G2_6
    have G3_7 := zset_ne (q := pn_1) (e' := (q291, zI4 E 6 (upd (upd jf 4 (nI he)) 5 (nI ga)))) (by omega) G2_7
    have G3_8 := zset_ne (q := pn_1) (e' := (q291, zI4 E 6 (upd (upd jf 4 (nI he)) 5 (nI ga)))) (by omega) G2_8
    have G3_9 := zset_ne (q := pn_1) (e' := (q291, zI4 E 6 (upd (upd jf 4 (nI he)) 5 (nI ga)))) (by omega) G2_9
    have G3_10 := zset_ne (q := pn_1) (e' := (q291, zI4 E 6 (upd (upd jf 4 (nI he)) 5 (nI ga)))) (by omega) G2_10
    have G3_11 := zset_ne (q := pn_1) (e' := (q291, zI4 E 6 (upd (upd jf 4 (nI he)) 5 (nI ga)))) (by omega) G2_11
    have G3_12 := zset_ne (q := pn_1) (e' := (q291, zI4 E 6 (upd (upd jf 4 (nI he)) 5 (nI ga)))) (by omega) G2_12
    have G3_13 := zset_ne (q := pn_1) (e' := (q291, zI4 E 6 (upd (upd jf 4 (nI he)) 5 (nI ga)))) (by omega) G2_13
    have G3_14 := zset_ne (q := pn_1) (e' := (q291, zI4 E 6 (upd (upd jf 4 (nI he)) 5 (nI ga)))) (by omega) G2_14
    have G3_15 := zset_ne (q := pn_1) (e' := (q291, zI4 E 6 (upd (upd jf 4 (nI he)) 5 (nI ga)))) (by omega) G2_15
    have G3_16 := zset_eq (e' := (q291, zI4 E 6 (upd (upd jf 4 (nI he)) 5 (nI ga)))) G2_16
    generalize hws3 : (ws_2.set pn_1 (q291, zI4 E 6 (upd (upd jf 4 (nI he)) 5 (nI ga)))) = ws_3 at J hk G3_0 G3_1 G3_2 G3_3 G3_4 G3_5 G3_6 G3_7 G3_8 G3_9 G3_10 G3_11 G3_12 G3_13 G3_14 G3_15 G3_16 hF hR hSN
    refine lv_aload_n hx hb dL_act_339 rfl (lv_at hl 5 rfl) ?_
    refine z_get (C := RX7) (T := TX7) (N := 8) (ci := 8) (v := .ref fe) X J hi_X7 11 G3_11 rfl 0 (by decide) (by decide +kernel) rfl dL_act_340 ?_
    refine z_cloneA X J hl.1 qf G3_13 (by decide +kernel) (Nat.le_of_ble_eq_true rfl) (Nat.le_of_ble_eq_true rfl) (by show _ ≤ 20; omega) (by show _ ≤ 120; omega) dL_act_343 (fun q343 H J => ?_)
    have hF := hF.keepS (zK.app (S := []) (ws := ws_3) (more := [(q343, zA4 E nf g)])) (fun q9 hq9 => absurd hq9 List.not_mem_nil)
    have hR := hR.keepS (zK.app (S := []) (ws := ws_3) (more := [(q343, zA4 E nf g)])) (fun q9 hq9 => absurd hq9 List.not_mem_nil)
    have hSN := hSN.keep (zK.app (S := []) (ws := ws_3) (more := [(q343, zA4 E nf g)])) (fun _ _ => List.not_mem_nil)
    have lp4 := hk.1
    have hk := hk.step (zK.app (S := []) (ws := ws_3) (more := [(q343, zA4 E nf g)])) (fun _ _ _ _ _ _ _ => List.not_mem_nil)
    have bG4_0 := zlt G3_0
    have G4_0 := zapp (x := (q343, zA4 E nf g)) G3_0
    have bG4_1 := zlt G3_1
    have G4_1 := zapp (x := (q343, zA4 E nf g)) G3_1
    have bG4_2 := zlt G3_2
    have G4_2 := zapp (x := (q343, zA4 E nf g)) G3_2
    have bG4_3 := zlt G3_3
    have G4_3 := zapp (x := (q343, zA4 E nf g)) G3_3
    have bG4_4 := zlt G3_4
    have G4_4 := zapp (x := (q343, zA4 E nf g)) G3_4
    have bG4_5 := zlt G3_5
    have G4_5 := zapp (x := (q343, zA4 E nf g)) G3_5
    have bG4_6 := zlt G3_6
    have G4_6 := zapp (x := (q343, zA4 E nf g)) G3_6
    have bG4_7 := zlt G3_7
    have G4_7 := zapp (x := (q343, zA4 E nf g)) G3_7
    have bG4_8 := zlt G3_8
    have G4_8 := zapp (x := (q343, zA4 E nf g)) G3_8
    have bG4_9 := zlt G3_9
    have G4_9 := zapp (x := (q343, zA4 E nf g)) G3_9
    have bG4_10 := zlt G3_10
    have G4_10 := zapp (x := (q343, zA4 E nf g)) G3_10
    have bG4_11 := zlt G3_11
    have G4_11 := zapp (x := (q343, zA4 E nf g)) G3_11
    have bG4_12 := zlt G3_12
    have G4_12 := zapp (x := (q343, zA4 E nf g)) G3_12
    have bG4_13 := zlt G3_13
    have G4_13 := zapp (x := (q343, zA4 E nf g)) G3_13
    have bG4_14 := zlt G3_14
    have G4_14 := zapp (x := (q343, zA4 E nf g)) G3_14
    have bG4_15 := zlt G3_15
    have G4_15 := zapp (x := (q343, zA4 E nf g)) G3_15
    have bG4_16 := zlt G3_16
    have G4_16 := zapp (x := (q343, zA4 E nf g)) G3_16
    have G4_n := zapp_new (ws := ws_3) (x := (q343, zA4 E nf g))
    generalize hws4 : ws_3 ++ [(q343, zA4 E nf g)] = ws_4 at J hk G4_0 G4_1 G4_2 G4_3 G4_4 G4_5 G4_6 G4_7 G4_8 G4_9 G4_10 G4_11 G4_12 G4_13 G4_14 G4_15 G4_16 hF hR hSN G4_n
    generalize hpn4 : ws_3.length = pn_4 at G4_n lp4 bG4_0 bG4_1 bG4_2 bG4_3 bG4_4 bG4_5 bG4_6 bG4_7 bG4_8 bG4_9 bG4_10 bG4_11 bG4_12 bG4_13 bG4_14 bG4_15 bG4_16
    refine z_castAA X J pn_4 G4_n (by decide +kernel) dL_act_346 ?_
    refine lv_astore (lv' := [(7, .ref q343), (6, .int ((10 * (jf 4)) + (jf 5))), (5, .ref q291), (4, .int (nI kf)), (3, .int (nI nf)), (0, .ref x), (1, .ref z), (2, .int xv)]) hx hb dL_act_349 hl (by decide) rfl (fun ls hl => ?_)
    refine lv_aload hx hb dL_act_351 (lv_at hl 0 rfl) ?_
    refine lv_iload hx hb dL_act_353 (lv_at hl 3 rfl) ?_
    refine lv_aload hx hb dL_act_355 (lv_at hl 2 rfl) ?_
    refine z_aastA X J pn_4 pn_1 G4_n G4_16 (vp_in_nI (by omega) (by first | decide | omega)) dL_act_357 (fun H locs J => ?_)
    rw [show va_up g (nI kf).toNatClampNeg (some q291) = va_up g kf (some q291) from (by rw [nI_clamp (by omega)])] at J
    have hF := hF.keepS (zK.set (S := [pn_4]) (ws := ws_4) (q := pn_4) (e := (q343, zA4 E nf (va_up g kf (some q291)))) (List.mem_singleton.mpr rfl)) (fun q9 hq9 => Or.inr ⟨_, _, (List.mem_singleton.mp hq9).symm ▸ G4_n, (noL_A (zK.neOA X.2.1))⟩)
    have hR := hR.keepS (zK.set (S := [pn_4]) (ws := ws_4) (q := pn_4) (e := (q343, zA4 E nf (va_up g kf (some q291)))) (List.mem_singleton.mpr rfl)) (fun q9 hq9 => Or.inr ⟨_, _, (List.mem_singleton.mp hq9).symm ▸ G4_n, (noL_A (zK.neOA X.2.1))⟩)
    have hSN := hSN.keep (zK.set (S := [pn_4]) (ws := ws_4) (q := pn_4) (e := (q343, zA4 E nf (va_up g kf (some q291)))) (List.mem_singleton.mpr rfl)) (fun r9 hr9 => by simp only [List.mem_cons, rg_mem, List.not_mem_nil, or_false, not_or]; omega)
    have hk := hk.step (zK.set (S := [pn_4]) (ws := ws_4) (q := pn_4) (e := (q343, zA4 E nf (va_up g kf (some q291)))) (List.mem_singleton.mpr rfl)) (fun q9 a9 n9 f9 h8 h7 h9 => by have z9_0 := zneK h9 G4_n rfl; simp only [List.mem_cons, rg_mem, List.not_mem_nil, or_false, not_or]; omega)
    have G5_0 := zset_ne (q := pn_4) (e' := (q343, zA4 E nf (va_up g kf (some q291)))) (by omega) G4_0
    have G5_1 := zset_ne (q := pn_4) (e' := (q343, zA4 E nf (va_up g kf (some q291)))) (by omega) G4_1
    have G5_2 := zset_ne (q := pn_4) (e' := (q343, zA4 E nf (va_up g kf (some q291)))) (by omega) G4_2
    have G5_3 := zset_ne (q := pn_4) (e' := (q343, zA4 E nf (va_up g kf (some q291)))) (by omega) G4_3
    have G5_4 := zset_ne (q := pn_4) (e' := (q343, zA4 E nf (va_up g kf (some q291)))) (by omega) G4_4
    have G5_5 := zset_ne (q := pn_4) (e' := (q343, zA4 E nf (va_up g kf (some q291)))) (by omega) G4_5
    have G5_6 := zset_ne (q := pn_4) (e' := (q343, zA4 E nf (va_up g kf (some q291)))) (by omega) G4_6
    have G5_7 := zset_ne (q := pn_4) (e' := (q343, zA4 E nf (va_up g kf (some q291)))) (by omega) G4_7
    have G5_8 := zset_ne (q := pn_4) (e' := (q343, zA4 E nf (va_up g kf (some q291)))) (by omega) G4_8
    have G5_9 := zset_ne (q := pn_4) (e' := (q343, zA4 E nf (va_up g kf (some q291)))) (by omega) G4_9
    have G5_10 := zset_ne (q := pn_4) (e' := (q343, zA4 E nf (va_up g kf (some q291)))) (by omega) G4_10
    have G5_11 := zset_ne (q := pn_4) (e' := (q343, zA4 E nf (va_up g kf (some q291)))) (by omega) G4_11
    have G5_12 := zset_ne (q := pn_4) (e' := (q343, zA4 E nf (va_up g kf (some q291)))) (by omega) G4_12
    have G5_13 := zset_ne (q := pn_4) (e' := (q343, zA4 E nf (va_up g kf (some q291)))) (by omega) G4_13
    have G5_14 := zset_ne (q := pn_4) (e' := (q343, zA4 E nf (va_up g kf (some q291)))) (by omega) G4_14
    have G5_15 := zset_ne (q := pn_4) (e' := (q343, zA4 E nf (va_up g kf (some q291)))) (by omega) G4_15
    have G5_16 := zset_ne (q := pn_4) (e' := (q343, zA4 E nf (va_up g kf (some q291)))) (by omega) G4_16
    have G5_17 := zset_eq (e' := (q343, zA4 E nf (va_up g kf (some q291)))) G4_n
    generalize hws5 : (ws_4.set pn_4 (q343, zA4 E nf (va_up g kf (some q291)))) = ws_5 at J hk G5_0 G5_1 G5_2 G5_3 G5_4 G5_5 G5_6 G5_7 G5_8 G5_9 G5_10 G5_11 G5_12 G5_13 G5_14 G5_15 G5_16 G5_17 hF hR hSN
    refine lv_aload_n hx hb dL_act_358 rfl (lv_at hl 6 rfl) ?_
    refine lv_aload hx hb dL_act_359 (lv_at hl 0 rfl) ?_
    refine z_put (C := RX7) (T := TX7) (N := 8) (ci := 8) (v := .ref q343) X J hi_X7 tyX7 tyX7_ok nmX7 11 G5_11 rfl 0 (by decide) (by decide +kernel) rfl rfl rfl (Nat.le_of_ble_eq_true rfl) dL_act_361 (fun H locs J => ?_)
    have J : zJ E (ws_5.set 11 (z, .inr (8, [.ref q343, .ref ro, .ref sa, .int lim, .int sup, .int off, .int plo, .int hrs]))) s H locs := J
    have hF := hF.keepS (zK.set (S := [11]) (ws := ws_5) (q := 11) (e := (z, .inr (8, [.ref q343, .ref ro, .ref sa, .int lim, .int sup, .int off, .int plo, .int hrs]))) (List.mem_singleton.mpr rfl)) (fun q9 hq9 => Or.inl (by simp only [List.mem_cons, rg_mem, List.not_mem_nil, or_false, not_or] at hq9; omega))
    have hR := hR.keepS (zK.set (S := [11]) (ws := ws_5) (q := 11) (e := (z, .inr (8, [.ref q343, .ref ro, .ref sa, .int lim, .int sup, .int off, .int plo, .int hrs]))) (List.mem_singleton.mpr rfl)) (fun q9 hq9 => Or.inl (by simp only [List.mem_cons, rg_mem, List.not_mem_nil, or_false, not_or] at hq9; omega))
    have hSN := hSN.keep (zK.set (S := [11]) (ws := ws_5) (q := 11) (e := (z, .inr (8, [.ref q343, .ref ro, .ref sa, .int lim, .int sup, .int off, .int plo, .int hrs]))) (List.mem_singleton.mpr rfl)) (fun r9 hr9 => by simp only [List.mem_cons, rg_mem, List.not_mem_nil, or_false, not_or]; omega)
    have hk := hk.step (zK.set (S := [11]) (ws := ws_5) (q := 11) (e := (z, .inr (8, [.ref q343, .ref ro, .ref sa, .int lim, .int sup, .int off, .int plo, .int hrs]))) (List.mem_singleton.mpr rfl)) (fun q9 a9 n9 f9 h8 h7 h9 => by simp only [List.mem_cons, rg_mem, List.not_mem_nil, or_false, not_or]; omega)
    have G6_0 := zset_ne (q := 11) (e' := (z, .inr (8, [.ref q343, .ref ro, .ref sa, .int lim, .int sup, .int off, .int plo, .int hrs]))) (by decide) G5_0
    have G6_1 := zset_ne (q := 11) (e' := (z, .inr (8, [.ref q343, .ref ro, .ref sa, .int lim, .int sup, .int off, .int plo, .int hrs]))) (by decide) G5_1
    have G6_2 := zset_ne (q := 11) (e' := (z, .inr (8, [.ref q343, .ref ro, .ref sa, .int lim, .int sup, .int off, .int plo, .int hrs]))) (by decide) G5_2
    have G6_3 := zset_ne (q := 11) (e' := (z, .inr (8, [.ref q343, .ref ro, .ref sa, .int lim, .int sup, .int off, .int plo, .int hrs]))) (by decide) G5_3
    have G6_4 := zset_ne (q := 11) (e' := (z, .inr (8, [.ref q343, .ref ro, .ref sa, .int lim, .int sup, .int off, .int plo, .int hrs]))) (by decide) G5_4
    have G6_5 := zset_ne (q := 11) (e' := (z, .inr (8, [.ref q343, .ref ro, .ref sa, .int lim, .int sup, .int off, .int plo, .int hrs]))) (by decide) G5_5
    have G6_6 := zset_ne (q := 11) (e' := (z, .inr (8, [.ref q343, .ref ro, .ref sa, .int lim, .int sup, .int off, .int plo, .int hrs]))) (by decide) G5_6
    have G6_7 := zset_ne (q := 11) (e' := (z, .inr (8, [.ref q343, .ref ro, .ref sa, .int lim, .int sup, .int off, .int plo, .int hrs]))) (by decide) G5_7
    have G6_8 := zset_ne (q := 11) (e' := (z, .inr (8, [.ref q343, .ref ro, .ref sa, .int lim, .int sup, .int off, .int plo, .int hrs]))) (by decide) G5_8
    have G6_9 := zset_ne (q := 11) (e' := (z, .inr (8, [.ref q343, .ref ro, .ref sa, .int lim, .int sup, .int off, .int plo, .int hrs]))) (by decide) G5_9
    have G6_10 := zset_ne (q := 11) (e' := (z, .inr (8, [.ref q343, .ref ro, .ref sa, .int lim, .int sup, .int off, .int plo, .int hrs]))) (by decide) G5_10
    have G6_11 := zset_eq (e' := (z, .inr (8, [.ref q343, .ref ro, .ref sa, .int lim, .int sup, .int off, .int plo, .int hrs]))) G5_11
    have G6_12 := zset_ne (q := 11) (e' := (z, .inr (8, [.ref q343, .ref ro, .ref sa, .int lim, .int sup, .int off, .int plo, .int hrs]))) (by decide) G5_12
    have G6_13 := zset_ne (q := 11) (e' := (z, .inr (8, [.ref q343, .ref ro, .ref sa, .int lim, .int sup, .int off, .int plo, .int hrs]))) (by omega) G5_13
    have G6_14 := zset_ne (q := 11) (e' := (z, .inr (8, [.ref q343, .ref ro, .ref sa, .int lim, .int sup, .int off, .int plo, .int hrs]))) (by omega) G5_14
    have G6_15 := zset_ne (q := 11) (e' := (z, .inr (8, [.ref q343, .ref ro, .ref sa, .int lim, .int sup, .int off, .int plo, .int hrs]))) (by omega) G5_15
    have G6_16 := zset_ne (q := 11) (e' := (z, .inr (8, [.ref q343, .ref ro, .ref sa, .int lim, .int sup, .int off, .int plo, .int hrs]))) (by omega) G5_16
    have G6_17 := zset_ne (q := 11) (e' := (z, .inr (8, [.ref q343, .ref ro, .ref sa, .int lim, .int sup, .int off, .int plo, .int hrs]))) (by omega) G5_17
    generalize hws6 : (ws_5.set 11 (z, .inr (8, [.ref q343, .ref ro, .ref sa, .int lim, .int sup, .int off, .int plo, .int hrs]))) = ws_6 at J hk G6_0 G6_1 G6_2 G6_3 G6_4 G6_5 G6_6 G6_7 G6_8 G6_9 G6_10 G6_11 G6_12 G6_13 G6_14 G6_15 G6_16 G6_17 hF hR hSN
    refine lv_aload_n hx hb dL_act_364 rfl (lv_at hl 5 rfl) ?_
    refine lv_iload hx hb dL_act_365 (lv_at hl 3 rfl) ?_
    refine lv_aload hx hb dL_act_367 (lv_at hl 2 rfl) ?_
    refine lv_iconst (v := nI 4) hx hb dL_act_369 rfl ?_
    refine z_iald X J pn_1 G6_16 (vp_in_nI (by omega) (by first | decide | omega)) dL_act_370 ?_
    refine W.eq (g2 := F0 m 371 ls [.int (nI he), .int (nI kf), .ref x]) (congrArg (fun z9 : Int32 => F0 m 371 ls [.int z9, .int (nI kf), .ref x]) (show ((upd (upd jf 4 (nI he)) 5 (nI ga)) (nI 4).toNatClampNeg : Int32) = nI he from (by rw [nI_clamp (by omega)]; rfl))) ?_
    refine lv_aload hx hb dL_act_371 (lv_at hl 2 rfl) ?_
    refine lv_iconst (v := nI 5) hx hb dL_act_373 rfl ?_
    refine z_iald X J pn_1 G6_16 (vp_in_nI (by omega) (by first | decide | omega)) dL_act_374 ?_
    refine W.eq (g2 := F0 m 375 ls [.int (nI ga), .int (nI he), .int (nI kf), .ref x]) (congrArg (fun z9 : Int32 => F0 m 375 ls [.int z9, .int (nI he), .int (nI kf), .ref x]) (show ((upd (upd jf 4 (nI he)) 5 (nI ga)) (nI 5).toNatClampNeg : Int32) = nI ga from (by rw [nI_clamp (by omega)]; rfl))) ?_
    have hJ9 := J.2.1
    have hR9 := hR
    rcases hF with ⟨hn0, he0⟩ | ⟨qe, g5, fo9, qf9, sp9, qs9, hFa⟩
    · omega
    have hFa : FSa E ws_6 fa ea nf qe g5 fo9 qf9 sp9 qs9 := hFa
    have hq35 := hFa.1
    obtain ⟨kq1, kq2, kq3, kq4, kq5⟩ := hFa.2.2.1 kf (by omega)
    have hqq9 : qe ≠ qf9 kf := zneK hFa.2.1 kq4 rfl
    have hqq8 : qf ≠ qf9 kf := zneK G6_13 kq4 rfl
    have hqq7 : qr ≠ qf9 kf := zneK G6_14 kq4 rfl
    have hk0 : kChange (nI kf) (nI nf) (nI he) (nI ga) = 0 := kChange_ok (by omega) (by omega) (by omega) (by omega) (by omega)
    have hqq6 : pn_1 ≠ qf9 kf := zneK G6_16 kq4 rfl
    have hqq5 : pn_4 ≠ qf9 kf := zneK G6_17 kq4 rfl
    have hqq4 : jq ≠ qf9 kf := zneK G6_15 kq4 rfl
    refine z_xi J (z_yV (As := [.int (nI kf), .int (nI he), .int (nI ga)]) (rest := []) (ci := 7) (q0 := 0) X hRz J (cX6_change_v_ok l hflags E G6_0 G6_1 hFa.2.1 kq4 hnf (by omega) kq3) (cwV 3 hts (goodIn_ext2 gL_act_X6_change) rfl rfl rfl (by decide +kernel) ⟨Nat.le_of_ble_eq_true rfl, Nat.le_of_ble_eq_true rfl⟩) G6_0 rfl rfl rfl hl.1 rfl (Nat.le_of_ble_eq_true rfl) dL_act_375 ⟨by show _ ≤ 20; omega, by show _ ≤ 120; omega⟩) (fun nm ce q9 H locs hp9 J h1 h2 h3 => ?_) (fun r375 ws_7 H locs hp9 J => ?_)
    · exact False.elim (by exact absurd (hp9.1.symm.trans hk0) (by decide))
    obtain ⟨k7, hl9_7, G7_a0, e_r375⟩ := hp9
    have hSN := hSN.keep k7 (fun r9 hr9 => by simp only [List.mem_cons, rg_mem, List.not_mem_nil, or_false, not_or]; omega)
    have hk := hk.step k7 (fun q9 a9 n9 f9 h8 h7 h9 => by have z9_0 := zneK h9 kq4 rfl; simp only [List.mem_cons, rg_mem, List.not_mem_nil, or_false, not_or]; omega)
    have G7_0 := k7.2 0 _ (by simp only [List.mem_cons, List.not_mem_nil, or_false]; omega) G6_0
    have G7_1 := k7.2 1 _ (by simp only [List.mem_cons, List.not_mem_nil, or_false]; omega) G6_1
    have G7_2 := k7.2 2 _ (by simp only [List.mem_cons, List.not_mem_nil, or_false]; omega) G6_2
    have G7_3 := k7.2 3 _ (by simp only [List.mem_cons, List.not_mem_nil, or_false]; omega) G6_3
    have G7_4 := k7.2 4 _ (by simp only [List.mem_cons, List.not_mem_nil, or_false]; omega) G6_4
    have G7_5 := k7.2 5 _ (by simp only [List.mem_cons, List.not_mem_nil, or_false]; omega) G6_5
    have G7_6 := k7.2 6 _ (by simp only [List.mem_cons, List.not_mem_nil, or_false]; omega) G6_6
    have G7_7 := k7.2 7 _ (by simp only [List.mem_cons, List.not_mem_nil, or_false]; omega) G6_7
    have G7_8 := k7.2 8 _ (by simp only [List.mem_cons, List.not_mem_nil, or_false]; omega) G6_8
    have G7_9 := k7.2 9 _ (by simp only [List.mem_cons, List.not_mem_nil, or_false]; omega) G6_9
    have G7_10 := k7.2 10 _ (by simp only [List.mem_cons, List.not_mem_nil, or_false]; omega) G6_10
    have G7_11 := k7.2 11 _ (by simp only [List.mem_cons, List.not_mem_nil, or_false]; omega) G6_11
    have G7_12 := k7.2 14 _ (by simp only [List.mem_cons, List.not_mem_nil, or_false]; omega) G6_12
    have G7_13 := k7.2 qf _ (by simp only [List.mem_cons, List.not_mem_nil, or_false]; omega) G6_13
    have G7_14 := k7.2 qr _ (by simp only [List.mem_cons, List.not_mem_nil, or_false]; omega) G6_14
    have G7_15 := k7.2 jq _ (by simp only [List.mem_cons, List.not_mem_nil, or_false]; omega) G6_15
    have G7_16 := k7.2 pn_1 _ (by simp only [List.mem_cons, List.not_mem_nil, or_false]; omega) G6_16
    have G7_17 := k7.2 pn_4 _ (by simp only [List.mem_cons, List.not_mem_nil, or_false]; omega) G6_17
    have G7_18 := k7.2 qe _ (by simp only [List.mem_cons, List.not_mem_nil, or_false]; omega) hFa.2.1
    refine W.eq (g2 := F0 m 378 ls [.int (10 * (jf 4) + (jf 5))]) (congrArg (fun z9 : Int32 => F0 m 378 ls [.int z9]) (show (r375 : Int32) = 10 * (jf 4) + (jf 5) from (by rw [e_r375.2, hje 4 (by decide), hje 5 (by decide)]))) ?_
    refine lv_iload hx hb dL_act_378 (lv_at hl 1 rfl) ?_
    refine lv_icmp_ne (tgt := 387) hx hb dL_act_380 (by decide) (fun cz380 => by exact (cz380 rfl).elim) (fun cz380 => ?_)
    refine lv_iconst (v := 1) hx hb dL_act_383 (by decide) ?_
    refine lv_goto (tgt := 388) hx hb dL_act_384 (by decide) ?_
    refine W.widen (k := 20) (n := 120) (by omega) (by omega) ?_
    subst hQ
    exact W.zret (v := 1) hx hb hr rfl (fun t ht hW => ⟨⟨1, ws_7, rfl, ⟨hk, ⟨mc1, mc2, lim, sup, off, plo, hrs, ea, eb, nf, nr, q343, pn_4, ro, qr, (upd (upd fa (6 * kf + 4) (nI he)) (6 * kf + 5) (nI ga)), rd, ri, sn, t9, hf, gf, (va_up g kf (some q291)), gq, G7_0, G7_1, G7_2, G7_3, G7_4, G7_5, G7_6, G7_7, G7_8, G7_9, G7_10, G7_11, G7_12, G7_17, G7_14, ⟨by omega, by omega⟩, (FS.chg hFa (by omega) k7 (by intro q9 hq9; simp only [List.mem_cons, List.not_mem_nil, or_false] at hq9; omega) G7_a0), (hR9.keepE k7 kq4 rfl rfl (rs_ne hR9 kq4 hJ9 hE1) (by intro q9 hq9; simp only [List.mem_cons, List.not_mem_nil, or_false] at hq9; omega)), hSep, ((hSE.keepI hk).chg G7_16 (by omega) (fun t9 ht9 => chg_put hje t9 ht9)), (hSR.keepI hk), hSN, hnf, hnr, (okF_chg hok (kChg0 hk0).1 (kChg0 hk0).2), hor, hRB, hu9, hlm, (Nat.le_trans hln hk.1)⟩, rfl⟩, J.I X ht hW.alike⟩, J.F ht⟩) J.locs dL_act_388
  · refine lv_iconst (v := 1) hx hb dL_act_273 (by decide) ?_
    refine W.widen (k := 20) (n := 120) (by omega) (by omega) ?_
    subst hQ
    exact W.zret (v := 1) hx hb hr rfl (fun t ht hW => ⟨⟨1, ws, rfl, ⟨hk, ⟨mc1, mc2, lim, sup, off, plo, hrs, ea, eb, nf, nr, fe, qf, ro, qr, fa, rd, ri, sn, t9, hf, gf, g, gq, Fa0, Fa1, Fa2, Fa3, Fa4, Fa5, Fa6, Fa7, Fa8, Fa9, Fa10, Fa11, Fa12, Fa13, Fa14, ⟨by omega, by omega⟩, hF, hR, hSep, (hSE.keepI hk), (hSR.keepI hk), hSN, hnf, hnr, hok, hor, hRB, hu9, hlm, (Nat.le_trans hln hk.1)⟩, rfl⟩, J.I X ht hW.alike⟩, J.F ht⟩) J.locs dL_act_274
set_option maxHeartbeats 400000 in
set_option maxRecDepth 100000 in
theorem cL_act_t_ok (l : Launch) (hflags : l.flags = flags0) (E : zG) {ws : va_W} {x fl rl wh gr gra tr tra sc ha va ea eb nf nr z sa fe qf ro qr : Nat} {mc1 mc2 lim sup off plo hrs : Int32} {fa rd ri sn t9 hf gf : Nat → Int32} {g gq gs : Nat → Option Nat} {xv : Int32} (Fa0 : ws[0]? = some (x, .inr (7, [.ref fl, .ref rl, .ref wh, .ref gr, .ref tr, .ref sc, .int lim, .int sup, .int off, .int plo, .int hrs]))) (Fa1 : ws[1]? = some (fl, .inr (0, [.int mc1, .ref ea, .int (nI nf)]))) (Fa2 : ws[2]? = some (rl, .inr (0, [.int mc2, .ref eb, .int (nI nr)]))) (Fa3 : ws[3]? = some (wh, .inr (5, [.int (0 * 20 + 0), .int (nI 400), .int 0]))) (Fa4 : ws[4]? = some (gr, .inr (2, [.ref gra]))) (Fa5 : ws[5]? = some (gra, zI4 E 400 sn)) (Fa6 : ws[6]? = some (tr, .inr (2, [.ref tra]))) (Fa7 : ws[7]? = some (tra, zI4 E 400 t9)) (Fa8 : ws[8]? = some (sc, .inr (4, [.ref ha, .ref va]))) (Fa9 : ws[9]? = some (ha, zI4 E 400 hf)) (Fa10 : ws[10]? = some (va, zI4 E 400 gf)) (Fa11 : ws[11]? = some (z, .inr (8, [.ref fe, .ref ro, .ref sa, .int lim, .int sup, .int off, .int plo, .int hrs]))) (Fa12 : ws[14]? = some (sa, zA4 E 20 gs)) (Fa13 : ws[qf]? = some (fe, zA4 E nf g)) (Fa14 : ws[qr]? = some (ro, zA4 E nr gq)) (hql : 11 < qf ∧ 11 < qr) (hF : FS E ws fa ea nf) (hR : RS E ws rd ri eb nr) (hSep : SEP E ea eb) (hSE : SE E ws g nf fa) (hSR : SR E ws gq nr rd ri) (hSN : SN E ws 15 gs sn) (hnf : nf ≤ 10) (hnr : nr ≤ 4) (hok : ∀ j, j < nf → okF fa j) (hor : ∀ q, q < nr → okR rd ri q) (hRB : RB 200 sn) (hu9 : BI 0 40 sup) (hlm : BI 1 60 lim) (hln : 35 ≤ ws.length) (hE1 : ¬ zA E E.2.2.1) (hk13 : bln xv 13 = 4) : Met l yL_act wsL_act2 ({ frames := 8, cells := 20, slots := 120, locals := 127 } : Room) (va_Pc [.ref x, .ref z, .int xv] (zY E ws)) (va_Qi (fun (r : Int32) (ws' : va_W) => (zKi E ws ws') ∧ (LW E x fl rl wh gr gra tr tra sc ha va z sa gs ws') ∧ (r = 1)) (zI E) (zA E)) 20 120 (zA E) := by
  refine Met.ofW (cc := cL_act) (maxL := 12) (ret := (some .boolean)) (by decide) rfl ?_
  intro p e s m args below meth c s₁ B hml hv
  obtain ⟨hargs9, hI, hRz⟩ := hv
  have hx := B.exec
  have hb := B.bytes
  have hr := B.returns
  have hlocks := B.notSynchronized
  have X : zC E p m c cL_act 12 s args wsL_act2 RL := z_open B hml hI
  have hown := X.1.2.2.2.1
  have hts := X.1.2.2.2.2
  have J := hI.J
  have hi_X7 : ∀ w ∈ wsX70, w ∈ wsL_act2 := by decide +kernel
  have n0_13 : 0 ≠ qf := zneK Fa0 Fa13 rfl
  have n0_14 : 0 ≠ qr := zneK Fa0 Fa14 rfl
  have n1_13 : 1 ≠ qf := zneK Fa1 Fa13 rfl
  have n1_14 : 1 ≠ qr := zneK Fa1 Fa14 rfl
  have n2_13 : 2 ≠ qf := zneK Fa2 Fa13 rfl
  have n2_14 : 2 ≠ qr := zneK Fa2 Fa14 rfl
  have n3_13 : 3 ≠ qf := zneK Fa3 Fa13 rfl
  have n3_14 : 3 ≠ qr := zneK Fa3 Fa14 rfl
  have n4_13 : 4 ≠ qf := zneK Fa4 Fa13 rfl
  have n4_14 : 4 ≠ qr := zneK Fa4 Fa14 rfl
  have n5_13 : 5 ≠ qf := zneK Fa5 Fa13 rfl
  have n5_14 : 5 ≠ qr := zneK Fa5 Fa14 rfl
  have n6_13 : 6 ≠ qf := zneK Fa6 Fa13 rfl
  have n6_14 : 6 ≠ qr := zneK Fa6 Fa14 rfl
  have n7_13 : 7 ≠ qf := zneK Fa7 Fa13 rfl
  have n7_14 : 7 ≠ qr := zneK Fa7 Fa14 rfl
  have n8_13 : 8 ≠ qf := zneK Fa8 Fa13 rfl
  have n8_14 : 8 ≠ qr := zneK Fa8 Fa14 rfl
  have n9_13 : 9 ≠ qf := zneK Fa9 Fa13 rfl
  have n9_14 : 9 ≠ qr := zneK Fa9 Fa14 rfl
  have n10_13 : 10 ≠ qf := zneK Fa10 Fa13 rfl
  have n10_14 : 10 ≠ qr := zneK Fa10 Fa14 rfl
  have n11_13 : 11 ≠ qf := zneK Fa11 Fa13 rfl
  have n11_14 : 11 ≠ qr := zneK Fa11 Fa14 rfl
  have hk : zKi E ws ws := zKi.rf
  have hl := lv_entry ([.ref x, .ref z, .int xv]) (n := 12) (Nat.le_of_ble_eq_true rfl)
  rw [show entryFrame m args 12 = entryFrame m ([.ref x, .ref z, .int xv] : List Value).toArray 12 from by rw [hargs9], lg_entry_eq]
  generalize (lg_sl ([.ref x, .ref z, .int xv]) ++ List.replicate (12 - (lg_sl ([.ref x, .ref z, .int xv])).length) Slot.unset).toArray = ls at hl ⊢
  have hl : lv_has ls 12 [(0, .ref x), (1, .ref z), (2, .int xv)] := hl
  obtain ⟨hqf, hqr⟩ := hql
  have hbl := hSN.len
  have bq13 := zlt Fa13
  have bq14 := zlt Fa14
  have nr13 := hSN.no Fa13 rfl
  have nr14 := hSN.no Fa14 rfl
  have hhR := hgS_RB (wo := -1) nf hok
  generalize hQ : (MQ below (va_Qi (fun (r : Int32) (ws' : va_W) => (zKi E ws ws') ∧ (LW E x fl rl wh gr gra tr tra sc ha va z sa gs ws') ∧ (r = 1)) (zI E) (zA E)) args s 20 120 (zA E)) = QQ
  refine lv_aload_n hx hb dL_act_0 rfl (lv_at hl 1 rfl) ?_
  refine z_get (C := RX7) (T := TX7) (N := 8) (ci := 8) (v := .ref fe) X J hi_X7 11 Fa11 rfl 0 (by decide) (by decide +kernel) rfl dL_act_1 ?_
  refine z_alenA (v := nI nf) X J qf Fa13 rfl dL_act_4 ?_
  refine lv_istore_n (lv' := [(3, .int (nI nf)), (0, .ref x), (1, .ref z), (2, .int xv)]) hx hb dL_act_5 rfl hl (by decide) rfl (fun ls hl => ?_)
  refine lv_iload_n hx hb dL_act_6 rfl (lv_at hl 3 rfl) ?_
  refine lv_bipush (v := nI 13) hx hb dL_act_7 (by decide) ?_
  refine z_cr (z_rS (As := [.int xv, .int (nI 13)]) (rest := []) X J (cL_below_ok l E (by first | assumption | omega | decide) (by first | assumption | omega | decide)) (va_cwS 2 hts (goodIn_ext2 gL_act_L_below) rfl rfl rfl (by decide +kernel) ⟨Nat.le_of_ble_eq_true rfl, Nat.le_of_ble_eq_true rfl⟩) rfl hl.1 rfl (Nat.le_of_ble_eq_true rfl) dL_act_9 ⟨Nat.le_of_ble_eq_true rfl, Nat.le_of_ble_eq_true rfl⟩) (fun r9 e_r9 => ?_)
  subst e_r9
  refine W.eq (g2 := F0 m 12 ls [.int 4]) (congrArg (fun z9 : Int32 => F0 m 12 ls [.int z9]) (show (nI (bln xv 13) : Int32) = 4 from (by rw [hk13]; rfl))) ?_
  refine lv_tableIn (off := 377) (tgt := 389) hx hb dL_act_12 (by decide) (by decide) (by decide) (by decide) ?_
  refine lv_iload_n hx hb dL_act_389 rfl (lv_at hl 0 rfl) ?_
  refine lv_iconst (v := nI 2) hx hb dL_act_390 rfl ?_
  refine lv_icmp_ge (tgt := 396) hx hb dL_act_391 (by decide) (fun cz391 => ?_) (fun cz391 => ?_)
  · have hn00 : 2 ≤ nf := by
      rcases Nat.lt_or_ge nf 2 with q9 | q9
      · exact absurd (nI_lt q9 (by decide)) (Int32.not_lt.mpr cz391)
      · exact q9
    refine lv_iload_n hx hb dL_act_396 rfl (lv_at hl 3 rfl) ?_
    refine lv_iconst (v := 3) hx hb dL_act_397 (by decide) ?_
    refine lv_ishr hx hb dL_act_398 ?_
    refine lv_iload_n hx hb dL_act_399 rfl (lv_at hl 0 rfl) ?_
    obtain ⟨kf, hkf⟩ : ∃ q9 : Nat, q9 = bln (xv >>> (3 &&& 31)) (nf) := ⟨_, rfl⟩
    have bkf := bln_lt (v := xv >>> (3 &&& 31)) (n := nf) (by omega)
    refine z_cr (z_rS (As := [.int (xv >>> (3 &&& 31)), .int (nI nf)]) (rest := []) X J (cL_below_ok l E (by first | assumption | omega | decide) (by first | assumption | omega | decide)) (va_cwS 2 hts (goodIn_ext2 gL_act_L_below) rfl rfl rfl (by decide +kernel) ⟨Nat.le_of_ble_eq_true rfl, Nat.le_of_ble_eq_true rfl⟩) rfl hl.1 rfl (Nat.le_of_ble_eq_true rfl) dL_act_400 ⟨Nat.le_of_ble_eq_true rfl, Nat.le_of_ble_eq_true rfl⟩) (fun r400 e_r400 => ?_)
    subst e_r400
    refine W.eq (g2 := F0 m 403 ls [.int (nI kf)]) (congrArg (fun z9 : Int32 => F0 m 403 ls [.int z9]) (show (nI (bln (xv >>> (3 &&& 31)) nf) : Int32) = nI kf from (by rw [hkf]))) ?_
    refine lv_istore (lv' := [(4, .int (nI kf)), (3, .int (nI nf)), (0, .ref x), (1, .ref z), (2, .int xv)]) hx hb dL_act_403 hl (by decide) rfl (fun ls hl => ?_)
    refine lv_aload_n hx hb dL_act_405 rfl (lv_at hl 3 rfl) ?_
    refine lv_aload_n hx hb dL_act_406 rfl (lv_at hl 3 rfl) ?_
    refine z_get (C := RX7) (T := TX7) (N := 8) (ci := 8) (v := .ref fe) X J hi_X7 11 Fa11 rfl 0 (by decide) (by decide +kernel) rfl dL_act_407 ?_
    refine lv_iload hx hb dL_act_410 (lv_at hl 0 rfl) ?_
    refine z_cq J (z_rS (As := [.ref fe, .int (nI kf)]) (rest := [.ref z]) X J (cX7_without_ok l E Fa13 (fun j9 hj9 => (hSE.keepI hk j9 hj9).elim (fun a9 h9 => h9.elim (fun q9 h9 => h9.elim (fun f9 h9 => ⟨a9, q9, 6, f9, h9.1, h9.2.2.1⟩)))) hnf (by omega)) (va_cwS 2 hts (goodIn_ext2 gL_act_X7_without) rfl rfl rfl (by decide +kernel) ⟨Nat.le_of_ble_eq_true rfl, Nat.le_of_ble_eq_true rfl⟩) rfl hl.1 rfl (Nat.le_of_ble_eq_true rfl) dL_act_412 ⟨by show _ ≤ 20; omega, by show _ ≤ 120; omega⟩) (fun r412 ws_1 H locs hp9 J => ?_)
    obtain ⟨k1, ⟨nq_1, hlen1, N1_0, e_r412⟩⟩ := hp9
    have hF := hF.keepS k1 (fun q9 hq9 => absurd hq9 List.not_mem_nil)
    have hR := hR.keepS k1 (fun q9 hq9 => absurd hq9 List.not_mem_nil)
    have hSN := hSN.keep k1 (fun _ _ => List.not_mem_nil)
    have lp1 := hk.1
    have b_1_0 := zlt Fa0
    have b_1_1 := zlt Fa1
    have b_1_2 := zlt Fa2
    have b_1_3 := zlt Fa3
    have b_1_4 := zlt Fa4
    have b_1_5 := zlt Fa5
    have b_1_6 := zlt Fa6
    have b_1_7 := zlt Fa7
    have b_1_8 := zlt Fa8
    have b_1_9 := zlt Fa9
    have b_1_10 := zlt Fa10
    have b_1_11 := zlt Fa11
    have b_1_12 := zlt Fa12
    have b_1_13 := zlt Fa13
    have b_1_14 := zlt Fa14
    have hk := hk.step k1 (fun _ _ _ _ _ _ _ => List.not_mem_nil)
    have G1_0 := k1.2 0 _ List.not_mem_nil Fa0
    have G1_1 := k1.2 1 _ List.not_mem_nil Fa1
    have G1_2 := k1.2 2 _ List.not_mem_nil Fa2
    have G1_3 := k1.2 3 _ List.not_mem_nil Fa3
    have G1_4 := k1.2 4 _ List.not_mem_nil Fa4
    have G1_5 := k1.2 5 _ List.not_mem_nil Fa5
    have G1_6 := k1.2 6 _ List.not_mem_nil Fa6
    have G1_7 := k1.2 7 _ List.not_mem_nil Fa7
    have G1_8 := k1.2 8 _ List.not_mem_nil Fa8
    have G1_9 := k1.2 9 _ List.not_mem_nil Fa9
    have G1_10 := k1.2 10 _ List.not_mem_nil Fa10
    have G1_11 := k1.2 11 _ List.not_mem_nil Fa11
    have G1_12 := k1.2 14 _ List.not_mem_nil Fa12
    have G1_13 := k1.2 qf _ List.not_mem_nil Fa13
    have G1_14 := k1.2 qr _ List.not_mem_nil Fa14
    obtain ⟨pn_1_0, hpn_1_0⟩ : ∃ z : Nat, z = ws.length + 0 := ⟨_, rfl⟩
    rw [← hpn_1_0] at N1_0
    subst e_r412
    refine W.eq (g2 := F0 m 415 ls [.ref nq_1, .ref z]) rfl ?_
    refine z_put (C := RX7) (T := TX7) (N := 8) (ci := 8) (v := .ref nq_1) X J hi_X7 tyX7 tyX7_ok nmX7 11 G1_11 rfl 0 (by decide) (by decide +kernel) rfl rfl rfl (Nat.le_of_ble_eq_true rfl) dL_act_415 (fun H locs J => ?_)
    have J : zJ E (ws_1.set 11 (z, .inr (8, [.ref nq_1, .ref ro, .ref sa, .int lim, .int sup, .int off, .int plo, .int hrs]))) s H locs := J
    have hF := hF.keepS (zK.set (S := [11]) (ws := ws_1) (q := 11) (e := (z, .inr (8, [.ref nq_1, .ref ro, .ref sa, .int lim, .int sup, .int off, .int plo, .int hrs]))) (List.mem_singleton.mpr rfl)) (fun q9 hq9 => Or.inl (by simp only [List.mem_cons, rg_mem, List.not_mem_nil, or_false, not_or] at hq9; omega))
    have hR := hR.keepS (zK.set (S := [11]) (ws := ws_1) (q := 11) (e := (z, .inr (8, [.ref nq_1, .ref ro, .ref sa, .int lim, .int sup, .int off, .int plo, .int hrs]))) (List.mem_singleton.mpr rfl)) (fun q9 hq9 => Or.inl (by simp only [List.mem_cons, rg_mem, List.not_mem_nil, or_false, not_or] at hq9; omega))
    have hSN := hSN.keep (zK.set (S := [11]) (ws := ws_1) (q := 11) (e := (z, .inr (8, [.ref nq_1, .ref ro, .ref sa, .int lim, .int sup, .int off, .int plo, .int hrs]))) (List.mem_singleton.mpr rfl)) (fun r9 hr9 => by simp only [List.mem_cons, rg_mem, List.not_mem_nil, or_false, not_or]; omega)
    have hk := hk.step (zK.set (S := [11]) (ws := ws_1) (q := 11) (e := (z, .inr (8, [.ref nq_1, .ref ro, .ref sa, .int lim, .int sup, .int off, .int plo, .int hrs]))) (List.mem_singleton.mpr rfl)) (fun q9 a9 n9 f9 h8 h7 h9 => by simp only [List.mem_cons, rg_mem, List.not_mem_nil, or_false, not_or]; omega)
    have G2_0 := zset_ne (q := 11) (e' := (z, .inr (8, [.ref nq_1, .ref ro, .ref sa, .int lim, .int sup, .int off, .int plo, .int hrs]))) (by decide) G1_0
    have G2_1 := zset_ne (q := 11) (e' := (z, .inr (8, [.ref nq_1, .ref ro, .ref sa, .int lim, .int sup, .int off, .int plo, .int hrs]))) (by decide) G1_1
    have G2_2 := zset_ne (q := 11) (e' := (z, .inr (8, [.ref nq_1, .ref ro, .ref sa, .int lim, .int sup, .int off, .int plo, .int hrs]))) (by decide) G1_2
    have G2_3 := zset_ne (q := 11) (e' := (z, .inr (8, [.ref nq_1, .ref ro, .ref sa, .int lim, .int sup, .int off, .int plo, .int hrs]))) (by decide) G1_3
    have G2_4 := zset_ne (q := 11) (e' := (z, .inr (8, [.ref nq_1, .ref ro, .ref sa, .int lim, .int sup, .int off, .int plo, .int hrs]))) (by decide) G1_4
    have G2_5 := zset_ne (q := 11) (e' := (z, .inr (8, [.ref nq_1, .ref ro, .ref sa, .int lim, .int sup, .int off, .int plo, .int hrs]))) (by decide) G1_5
    have G2_6 := zset_ne (q := 11) (e' := (z, .inr (8, [.ref nq_1, .ref ro, .ref sa, .int lim, .int sup, .int off, .int plo, .int hrs]))) (by decide) G1_6
    have G2_7 := zset_ne (q := 11) (e' := (z, .inr (8, [.ref nq_1, .ref ro, .ref sa, .int lim, .int sup, .int off, .int plo, .int hrs]))) (by decide) G1_7
    have G2_8 := zset_ne (q := 11) (e' := (z, .inr (8, [.ref nq_1, .ref ro, .ref sa, .int lim, .int sup, .int off, .int plo, .int hrs]))) (by decide) G1_8
    have G2_9 := zset_ne (q := 11) (e' := (z, .inr (8, [.ref nq_1, .ref ro, .ref sa, .int lim, .int sup, .int off, .int plo, .int hrs]))) (by decide) G1_9
    have G2_10 := zset_ne (q := 11) (e' := (z, .inr (8, [.ref nq_1, .ref ro, .ref sa, .int lim, .int sup, .int off, .int plo, .int hrs]))) (by decide) G1_10
    have G2_11 := zset_eq (e' := (z, .inr (8, [.ref nq_1, .ref ro, .ref sa, .int lim, .int sup, .int off, .int plo, .int hrs]))) G1_11
    have G2_12 := zset_ne (q := 11) (e' := (z, .inr (8, [.ref nq_1, .ref ro, .ref sa, .int lim, .int sup, .int off, .int plo, .int hrs]))) (by decide) G1_12
    have G2_13 := zset_ne (q := 11) (e' := (z, .inr (8, [.ref nq_1, .ref ro, .ref sa, .int lim, .int sup, .int off, .int plo, .int hrs]))) (by omega) G1_13
    have G2_14 := zset_ne (q := 11) (e' := (z, .inr (8, [.ref nq_1, .ref ro, .ref sa, .int lim, .int sup, .int off, .int plo, .int hrs]))) (by omega) G1_14
    have G2_15 := zset_ne (q := 11) (e' := (z, .inr (8, [.ref nq_1, .ref ro, .ref sa, .int lim, .int sup, .int off, .int plo, .int hrs]))) (by omega) N1_0
    generalize hws2 : (ws_1.set 11 (z, .inr (8, [.ref nq_1, .ref ro, .ref sa, .int lim, .int sup, .int off, .int plo, .int hrs]))) = ws_2 at J hk G2_0 G2_1 G2_2 G2_3 G2_4 G2_5 G2_6 G2_7 G2_8 G2_9 G2_10 G2_11 G2_12 G2_13 G2_14 G2_15 hF hR hSN
    refine lv_aload_n hx hb dL_act_418 rfl (lv_at hl 2 rfl) ?_
    refine lv_iload hx hb dL_act_419 (lv_at hl 0 rfl) ?_
    have hJ9 := J.2.1
    have hR9 := hR
    rcases hF with ⟨hn0, he0⟩ | ⟨qe, g5, fo9, qf9, sp9, qs9, hFa⟩
    · omega
    have hFa : FSa E ws_2 fa ea nf qe g5 fo9 qf9 sp9 qs9 := hFa
    have hq35 := hFa.1
    obtain ⟨kq1, kq2, kq3, kq4, kq5⟩ := hFa.2.2.1 kf (by omega)
    have hqz13 : qe ≠ qf := zneOA (zK.neOA X.2.1) hFa.2.1 G2_13
    have hqz14 : qe ≠ qr := zneOA (zK.neOA X.2.1) hFa.2.1 G2_14
    have hqz15 : qe ≠ pn_1_0 := zneOA (zK.neOA X.2.1) hFa.2.1 G2_15
    have hqq8 : qe ≠ qf := zneOA (zK.neOA X.2.1) hFa.2.1 G2_13
    have hqq7 : qe ≠ qr := zneOA (zK.neOA X.2.1) hFa.2.1 G2_14
    have hqq6 : qe ≠ pn_1_0 := zneOA (zK.neOA X.2.1) hFa.2.1 G2_15
    have hk0 : kIdx (nI kf) (nI nf) = 0 := kIdx_ok (by omega) (by omega)
    refine z_xi J (z_yV (As := [.int (nI kf)]) (rest := []) (ci := 7) (q0 := 0) X hRz J (cX6_take_v_ok l hflags E G2_0 G2_1 hFa.2.1 hnf (by omega) (fun j hj => ⟨fo9 j, qf9 j, _, (hFa.2.2.1 j hj).2.2.1, (hFa.2.2.1 j hj).2.2.2.1⟩)) (cwV 1 hts (goodIn_ext2 gL_act_X6_take) rfl rfl rfl (by decide +kernel) ⟨Nat.le_of_ble_eq_true rfl, Nat.le_of_ble_eq_true rfl⟩) G2_0 rfl rfl rfl hl.1 rfl (Nat.le_of_ble_eq_true rfl) dL_act_421 ⟨by show _ ≤ 20; omega, by show _ ≤ 120; omega⟩) (fun nm ce q9 H locs hp9 J h1 h2 h3 => ?_) (fun r421 ws_3 H locs hp9 J => ?_)
    · exact False.elim (by exact hp9)
    obtain ⟨k3, ⟨g2_3, G3_a0, G3_a1, e_r421⟩⟩ := hp9
    have hSN := hSN.keep k3 (fun r9 hr9 => by simp only [List.mem_cons, rg_mem, List.not_mem_nil, or_false, not_or]; omega)
    have hk := hk.step k3 (fun q9 a9 n9 f9 h8 h7 h9 => by have z9_0 := zneK h9 hFa.2.1 rfl; simp only [List.mem_cons, rg_mem, List.not_mem_nil, or_false, not_or]; omega)
    have G3_0 := k3.2 0 _ (by simp only [List.mem_cons, List.not_mem_nil, or_false]; omega) G2_0
    have G3_2 := k3.2 2 _ (by simp only [List.mem_cons, List.not_mem_nil, or_false]; omega) G2_2
    have G3_3 := k3.2 3 _ (by simp only [List.mem_cons, List.not_mem_nil, or_false]; omega) G2_3
    have G3_4 := k3.2 4 _ (by simp only [List.mem_cons, List.not_mem_nil, or_false]; omega) G2_4
    have G3_5 := k3.2 5 _ (by simp only [List.mem_cons, List.not_mem_nil, or_false]; omega) G2_5
    have G3_6 := k3.2 6 _ (by simp only [List.mem_cons, List.not_mem_nil, or_false]; omega) G2_6
    have G3_7 := k3.2 7 _ (by simp only [List.mem_cons, List.not_mem_nil, or_false]; omega) G2_7
    have G3_8 := k3.2 8 _ (by simp only [List.mem_cons, List.not_mem_nil, or_false]; omega) G2_8
    have G3_9 := k3.2 9 _ (by simp only [List.mem_cons, List.not_mem_nil, or_false]; omega) G2_9
    have G3_10 := k3.2 10 _ (by simp only [List.mem_cons, List.not_mem_nil, or_false]; omega) G2_10
    have G3_11 := k3.2 11 _ (by simp only [List.mem_cons, List.not_mem_nil, or_false]; omega) G2_11
    have G3_12 := k3.2 14 _ (by simp only [List.mem_cons, List.not_mem_nil, or_false]; omega) G2_12
    have G3_13 := k3.2 qf _ (by simp only [List.mem_cons, List.not_mem_nil, or_false]; omega) G2_13
    have G3_14 := k3.2 qr _ (by simp only [List.mem_cons, List.not_mem_nil, or_false]; omega) G2_14
    have G3_15 := k3.2 pn_1_0 _ (by simp only [List.mem_cons, List.not_mem_nil, or_false]; omega) G2_15
    refine W.eq (g2 := F0 m 424 ls [.int (nI (nf - 1))]) (congrArg (fun z9 : Int32 => F0 m 424 ls [.int z9]) (show (r421 : Int32) = nI (nf - 1) from e_r421.2.1)) ?_
    refine lv_iload_n hx hb dL_act_424 rfl (lv_at hl 1 rfl) ?_
    refine lv_iconst (v := 1) hx hb dL_act_425 (by decide) ?_
    refine lv_isub hx hb dL_act_426 ?_
    refine W.eq (g2 := F0 m 427 ls [.int (nI (nf - 1)), .int (nI (nf - 1))]) (congrArg (fun z9 : Int32 => F0 m 427 ls [.int z9, .int (nI (nf - 1))]) (show ((nI nf) - 1 : Int32) = nI (nf - 1) from (nI_sub1 (by omega)))) ?_
    refine lv_icmp_ne (tgt := 434) hx hb dL_act_427 (by decide) (fun cz427 => by exact (cz427 rfl).elim) (fun cz427 => ?_)
    refine lv_iconst (v := 1) hx hb dL_act_430 (by decide) ?_
    refine lv_goto (tgt := 435) hx hb dL_act_431 (by decide) ?_
    refine W.widen (k := 20) (n := 120) (by omega) (by omega) ?_
    subst hQ
    exact W.zret (v := 1) hx hb hr rfl (fun t ht hW => ⟨⟨1, ws_3, rfl, ⟨hk, ⟨(mc1 + 1), mc2, lim, sup, off, plo, hrs, ea, eb, (nf - 1), nr, nq_1, pn_1_0, ro, qr, (ftake fa kf (nf - 1)), rd, ri, sn, t9, hf, gf, (oO g kf (nf - 1)), gq, G3_0, G3_a0, G3_2, G3_3, G3_4, G3_5, G3_6, G3_7, G3_8, G3_9, G3_10, G3_11, G3_12, G3_15, G3_14, ⟨by omega, by omega⟩, (FS.tak hFa (by omega) k3 (by intro q9 hq9; simp only [List.mem_cons, List.not_mem_nil, or_false] at hq9; omega) G3_a1 e_r421.2.2), (hR9.keepE k3 hFa.2.1 rfl rfl (hSep.ne hJ9 hE1 hFa.2.1) (by intro q9 hq9; simp only [List.mem_cons, List.not_mem_nil, or_false] at hq9; omega)), hSep, ((hSE.keepI hk).tak (by omega)), (hSR.keepI hk), hSN, (by omega), hnr, (okF_tak hok (by omega)), hor, hRB, hu9, hlm, (Nat.le_trans hln hk.1)⟩, rfl⟩, J.I X ht hW.alike⟩, J.F ht⟩) J.locs dL_act_435
  · refine lv_iconst (v := 1) hx hb dL_act_394 (by decide) ?_
    refine W.widen (k := 20) (n := 120) (by omega) (by omega) ?_
    subst hQ
    exact W.zret (v := 1) hx hb hr rfl (fun t ht hW => ⟨⟨1, ws, rfl, ⟨hk, ⟨mc1, mc2, lim, sup, off, plo, hrs, ea, eb, nf, nr, fe, qf, ro, qr, fa, rd, ri, sn, t9, hf, gf, g, gq, Fa0, Fa1, Fa2, Fa3, Fa4, Fa5, Fa6, Fa7, Fa8, Fa9, Fa10, Fa11, Fa12, Fa13, Fa14, ⟨by omega, by omega⟩, hF, hR, hSep, (hSE.keepI hk), (hSR.keepI hk), hSN, hnf, hnr, hok, hor, hRB, hu9, hlm, (Nat.le_trans hln hk.1)⟩, rfl⟩, J.I X ht hW.alike⟩, J.F ht⟩) J.locs dL_act_395
set_option maxHeartbeats 400000 in
set_option maxRecDepth 100000 in
theorem cL_act_r_ok (l : Launch) (hflags : l.flags = flags0) (E : zG) {ws : va_W} {x fl rl wh gr gra tr tra sc ha va ea eb nf nr z sa fe qf ro qr : Nat} {mc1 mc2 lim sup off plo hrs : Int32} {fa rd ri sn t9 hf gf : Nat → Int32} {g gq gs : Nat → Option Nat} {xv : Int32} (Fa0 : ws[0]? = some (x, .inr (7, [.ref fl, .ref rl, .ref wh, .ref gr, .ref tr, .ref sc, .int lim, .int sup, .int off, .int plo, .int hrs]))) (Fa1 : ws[1]? = some (fl, .inr (0, [.int mc1, .ref ea, .int (nI nf)]))) (Fa2 : ws[2]? = some (rl, .inr (0, [.int mc2, .ref eb, .int (nI nr)]))) (Fa3 : ws[3]? = some (wh, .inr (5, [.int (0 * 20 + 0), .int (nI 400), .int 0]))) (Fa4 : ws[4]? = some (gr, .inr (2, [.ref gra]))) (Fa5 : ws[5]? = some (gra, zI4 E 400 sn)) (Fa6 : ws[6]? = some (tr, .inr (2, [.ref tra]))) (Fa7 : ws[7]? = some (tra, zI4 E 400 t9)) (Fa8 : ws[8]? = some (sc, .inr (4, [.ref ha, .ref va]))) (Fa9 : ws[9]? = some (ha, zI4 E 400 hf)) (Fa10 : ws[10]? = some (va, zI4 E 400 gf)) (Fa11 : ws[11]? = some (z, .inr (8, [.ref fe, .ref ro, .ref sa, .int lim, .int sup, .int off, .int plo, .int hrs]))) (Fa12 : ws[14]? = some (sa, zA4 E 20 gs)) (Fa13 : ws[qf]? = some (fe, zA4 E nf g)) (Fa14 : ws[qr]? = some (ro, zA4 E nr gq)) (hql : 11 < qf ∧ 11 < qr) (hF : FS E ws fa ea nf) (hR : RS E ws rd ri eb nr) (hSep : SEP E ea eb) (hSE : SE E ws g nf fa) (hSR : SR E ws gq nr rd ri) (hSN : SN E ws 15 gs sn) (hnf : nf ≤ 10) (hnr : nr ≤ 4) (hok : ∀ j, j < nf → okF fa j) (hor : ∀ q, q < nr → okR rd ri q) (hRB : RB 200 sn) (hu9 : BI 0 40 sup) (hlm : BI 1 60 lim) (hln : 35 ≤ ws.length) (hE1 : ¬ zA E E.2.2.1) (hk13 : bln xv 13 = 5) : Met l yL_act wsL_act2 ({ frames := 8, cells := 20, slots := 120, locals := 125 } : Room) (va_Pc [.ref x, .ref z, .int xv] (zY E ws)) (va_Qi (fun (r : Int32) (ws' : va_W) => (zKi E ws ws') ∧ (LW E x fl rl wh gr gra tr tra sc ha va z sa gs ws') ∧ (r = 1)) (zI E) (zA E)) 20 120 (zA E) := by
  refine Met.ofW (cc := cL_act) (maxL := 12) (ret := (some .boolean)) (by decide) rfl ?_
  intro p e s m args below meth c s₁ B hml hv
  obtain ⟨hargs9, hI, hRz⟩ := hv
  have hx := B.exec
  have hb := B.bytes
  have hr := B.returns
  have hlocks := B.notSynchronized
  have X : zC E p m c cL_act 12 s args wsL_act2 RL := z_open B hml hI
  have hown := X.1.2.2.2.1
  have hts := X.1.2.2.2.2
  have J := hI.J
  have hi_X7 : ∀ w ∈ wsX70, w ∈ wsL_act2 := by decide +kernel
  have n0_13 : 0 ≠ qf := zneK Fa0 Fa13 rfl
  have n0_14 : 0 ≠ qr := zneK Fa0 Fa14 rfl
  have n1_13 : 1 ≠ qf := zneK Fa1 Fa13 rfl
  have n1_14 : 1 ≠ qr := zneK Fa1 Fa14 rfl
  have n2_13 : 2 ≠ qf := zneK Fa2 Fa13 rfl
  have n2_14 : 2 ≠ qr := zneK Fa2 Fa14 rfl
  have n3_13 : 3 ≠ qf := zneK Fa3 Fa13 rfl
  have n3_14 : 3 ≠ qr := zneK Fa3 Fa14 rfl
  have n4_13 : 4 ≠ qf := zneK Fa4 Fa13 rfl
  have n4_14 : 4 ≠ qr := zneK Fa4 Fa14 rfl
  have n5_13 : 5 ≠ qf := zneK Fa5 Fa13 rfl
  have n5_14 : 5 ≠ qr := zneK Fa5 Fa14 rfl
  have n6_13 : 6 ≠ qf := zneK Fa6 Fa13 rfl
  have n6_14 : 6 ≠ qr := zneK Fa6 Fa14 rfl
  have n7_13 : 7 ≠ qf := zneK Fa7 Fa13 rfl
  have n7_14 : 7 ≠ qr := zneK Fa7 Fa14 rfl
  have n8_13 : 8 ≠ qf := zneK Fa8 Fa13 rfl
  have n8_14 : 8 ≠ qr := zneK Fa8 Fa14 rfl
  have n9_13 : 9 ≠ qf := zneK Fa9 Fa13 rfl
  have n9_14 : 9 ≠ qr := zneK Fa9 Fa14 rfl
  have n10_13 : 10 ≠ qf := zneK Fa10 Fa13 rfl
  have n10_14 : 10 ≠ qr := zneK Fa10 Fa14 rfl
  have n11_13 : 11 ≠ qf := zneK Fa11 Fa13 rfl
  have n11_14 : 11 ≠ qr := zneK Fa11 Fa14 rfl
  have hk : zKi E ws ws := zKi.rf
  have hl := lv_entry ([.ref x, .ref z, .int xv]) (n := 12) (Nat.le_of_ble_eq_true rfl)
  rw [show entryFrame m args 12 = entryFrame m ([.ref x, .ref z, .int xv] : List Value).toArray 12 from by rw [hargs9], lg_entry_eq]
  generalize (lg_sl ([.ref x, .ref z, .int xv]) ++ List.replicate (12 - (lg_sl ([.ref x, .ref z, .int xv])).length) Slot.unset).toArray = ls at hl ⊢
  have hl : lv_has ls 12 [(0, .ref x), (1, .ref z), (2, .int xv)] := hl
  obtain ⟨hqf, hqr⟩ := hql
  have hbl := hSN.len
  have bq13 := zlt Fa13
  have bq14 := zlt Fa14
  have nr13 := hSN.no Fa13 rfl
  have nr14 := hSN.no Fa14 rfl
  have hhR := hgS_RB (wo := -1) nf hok
  generalize hQ : (MQ below (va_Qi (fun (r : Int32) (ws' : va_W) => (zKi E ws ws') ∧ (LW E x fl rl wh gr gra tr tra sc ha va z sa gs ws') ∧ (r = 1)) (zI E) (zA E)) args s 20 120 (zA E)) = QQ
  refine lv_aload_n hx hb dL_act_0 rfl (lv_at hl 1 rfl) ?_
  refine z_get (C := RX7) (T := TX7) (N := 8) (ci := 8) (v := .ref fe) X J hi_X7 11 Fa11 rfl 0 (by decide) (by decide +kernel) rfl dL_act_1 ?_
  refine z_alenA (v := nI nf) X J qf Fa13 rfl dL_act_4 ?_
  refine lv_istore_n (lv' := [(3, .int (nI nf)), (0, .ref x), (1, .ref z), (2, .int xv)]) hx hb dL_act_5 rfl hl (by decide) rfl (fun ls hl => ?_)
  refine lv_iload_n hx hb dL_act_6 rfl (lv_at hl 3 rfl) ?_
  refine lv_bipush (v := nI 13) hx hb dL_act_7 (by decide) ?_
  refine z_cr (z_rS (As := [.int xv, .int (nI 13)]) (rest := []) X J (cL_below_ok l E (by first | assumption | omega | decide) (by first | assumption | omega | decide)) (va_cwS 2 hts (goodIn_ext2 gL_act_L_below) rfl rfl rfl (by decide +kernel) ⟨Nat.le_of_ble_eq_true rfl, Nat.le_of_ble_eq_true rfl⟩) rfl hl.1 rfl (Nat.le_of_ble_eq_true rfl) dL_act_9 ⟨Nat.le_of_ble_eq_true rfl, Nat.le_of_ble_eq_true rfl⟩) (fun r9 e_r9 => ?_)
  subst e_r9
  refine W.eq (g2 := F0 m 12 ls [.int 5]) (congrArg (fun z9 : Int32 => F0 m 12 ls [.int z9]) (show (nI (bln xv 13) : Int32) = 5 from (by rw [hk13]; rfl))) ?_
  refine lv_tableIn (off := 424) (tgt := 436) hx hb dL_act_12 (by decide) (by decide) (by decide) (by decide) ?_
  refine lv_aload_n hx hb dL_act_436 rfl (lv_at hl 2 rfl) ?_
  refine z_get (C := RX7) (T := TX7) (N := 8) (ci := 8) (v := .ref ro) X J hi_X7 11 Fa11 rfl 1 (by decide) (by decide +kernel) rfl dL_act_437 ?_
  refine z_alenA (v := nI nr) X J qr Fa14 rfl dL_act_440 ?_
  refine lv_iconst (v := 4) hx hb dL_act_441 (by decide) ?_
  refine lv_icmp_ne (tgt := 447) hx hb dL_act_442 (by decide) (fun cz442 => ?_) (fun cz442 => ?_)
  · have hn10 : nr < 4 := Nat.lt_of_le_of_ne hnr (fun q9 => cz442 (by rw [q9]; rfl))
    refine lv_iconst (v := 2) hx hb dL_act_447 (by decide) ?_
    refine z_newa (N' := 2) X J (by decide +kernel) (by decide) (by decide) (Nat.le_of_ble_eq_true rfl) (Nat.le_of_ble_eq_true rfl) (Nat.le_of_ble_eq_true rfl) dL_act_448 (fun q448 H J => ?_)
    have hF := hF.keepS (zK.app (S := []) (ws := ws) (more := [(q448, zI4 E 2 (fun _ => 0))])) (fun q9 hq9 => absurd hq9 List.not_mem_nil)
    have hR := hR.keepS (zK.app (S := []) (ws := ws) (more := [(q448, zI4 E 2 (fun _ => 0))])) (fun q9 hq9 => absurd hq9 List.not_mem_nil)
    have hSN := hSN.keep (zK.app (S := []) (ws := ws) (more := [(q448, zI4 E 2 (fun _ => 0))])) (fun _ _ => List.not_mem_nil)
    have lp1 := hk.1
    have hk := hk.step (zK.app (S := []) (ws := ws) (more := [(q448, zI4 E 2 (fun _ => 0))])) (fun _ _ _ _ _ _ _ => List.not_mem_nil)
    have bG1_0 := zlt Fa0
    have G1_0 := zapp (x := (q448, zI4 E 2 (fun _ => 0))) Fa0
    have bG1_1 := zlt Fa1
    have G1_1 := zapp (x := (q448, zI4 E 2 (fun _ => 0))) Fa1
    have bG1_2 := zlt Fa2
    have G1_2 := zapp (x := (q448, zI4 E 2 (fun _ => 0))) Fa2
    have bG1_3 := zlt Fa3
    have G1_3 := zapp (x := (q448, zI4 E 2 (fun _ => 0))) Fa3
    have bG1_4 := zlt Fa4
    have G1_4 := zapp (x := (q448, zI4 E 2 (fun _ => 0))) Fa4
    have bG1_5 := zlt Fa5
    have G1_5 := zapp (x := (q448, zI4 E 2 (fun _ => 0))) Fa5
    have bG1_6 := zlt Fa6
    have G1_6 := zapp (x := (q448, zI4 E 2 (fun _ => 0))) Fa6
    have bG1_7 := zlt Fa7
    have G1_7 := zapp (x := (q448, zI4 E 2 (fun _ => 0))) Fa7
    have bG1_8 := zlt Fa8
    have G1_8 := zapp (x := (q448, zI4 E 2 (fun _ => 0))) Fa8
    have bG1_9 := zlt Fa9
    have G1_9 := zapp (x := (q448, zI4 E 2 (fun _ => 0))) Fa9
    have bG1_10 := zlt Fa10
    have G1_10 := zapp (x := (q448, zI4 E 2 (fun _ => 0))) Fa10
    have bG1_11 := zlt Fa11
    have G1_11 := zapp (x := (q448, zI4 E 2 (fun _ => 0))) Fa11
    have bG1_12 := zlt Fa12
    have G1_12 := zapp (x := (q448, zI4 E 2 (fun _ => 0))) Fa12
    have bG1_13 := zlt Fa13
    have G1_13 := zapp (x := (q448, zI4 E 2 (fun _ => 0))) Fa13
    have bG1_14 := zlt Fa14
    have G1_14 := zapp (x := (q448, zI4 E 2 (fun _ => 0))) Fa14
    have G1_n := zapp_new (ws := ws) (x := (q448, zI4 E 2 (fun _ => 0)))
    generalize hws1 : ws ++ [(q448, zI4 E 2 (fun _ => 0))] = ws_1 at J hk G1_0 G1_1 G1_2 G1_3 G1_4 G1_5 G1_6 G1_7 G1_8 G1_9 G1_10 G1_11 G1_12 G1_13 G1_14 hF hR hSN G1_n
    generalize hpn1 : ws.length = pn_1 at G1_n lp1 bG1_0 bG1_1 bG1_2 bG1_3 bG1_4 bG1_5 bG1_6 bG1_7 bG1_8 bG1_9 bG1_10 bG1_11 bG1_12 bG1_13 bG1_14
    refine lv_dup hx hb dL_act_450 rfl ?_
    refine lv_iconst (v := nI 0) hx hb dL_act_451 rfl ?_
    refine lv_iload_n hx hb dL_act_452 rfl (lv_at hl 3 rfl) ?_
    refine lv_iconst (v := 3) hx hb dL_act_453 (by decide) ?_
    refine lv_ishr hx hb dL_act_454 ?_
    refine lv_iconst (v := nI 2) hx hb dL_act_455 rfl ?_
    obtain ⟨dd, hdd⟩ : ∃ q9 : Nat, q9 = bln (xv >>> (3 &&& 31)) (2) := ⟨_, rfl⟩
    have bdd := bln_lt (v := xv >>> (3 &&& 31)) (n := 2) (by omega)
    refine z_cr (z_rS (As := [.int (xv >>> (3 &&& 31)), .int (nI 2)]) (rest := [.int (nI 0), .ref q448, .ref q448]) X J (cL_below_ok l E (by first | assumption | omega | decide) (by first | assumption | omega | decide)) (va_cwS 2 hts (goodIn_ext2 gL_act_L_below) rfl rfl rfl (by decide +kernel) ⟨Nat.le_of_ble_eq_true rfl, Nat.le_of_ble_eq_true rfl⟩) rfl hl.1 rfl (Nat.le_of_ble_eq_true rfl) dL_act_456 ⟨Nat.le_of_ble_eq_true rfl, Nat.le_of_ble_eq_true rfl⟩) (fun r456 e_r456 => ?_)
    subst e_r456
    refine W.eq (g2 := F0 m 459 ls [.int (nI dd), .int (nI 0), .ref q448, .ref q448]) (congrArg (fun z9 : Int32 => F0 m 459 ls [.int z9, .int (nI 0), .ref q448, .ref q448]) (show (nI (bln (xv >>> (3 &&& 31)) 2) : Int32) = nI dd from (by rw [hdd]))) ?_
    refine z_iast X J pn_1 G1_n (vp_in_nI (by omega) (by first | decide | omega)) dL_act_459 (fun H locs J => ?_)
    rw [show upd (fun _ => 0) (nI 0).toNatClampNeg (nI dd) = upd (fun _ => 0) 0 (nI dd) from (by rw [nI_clamp (by omega)])] at J
    have hF := hF.keepS (zK.set (S := [pn_1]) (ws := ws_1) (q := pn_1) (e := (q448, zI4 E 2 (upd (fun _ => 0) 0 (nI dd)))) (List.mem_singleton.mpr rfl)) (fun q9 hq9 => Or.inr ⟨_, _, (List.mem_singleton.mp hq9).symm ▸ G1_n, noL_I⟩)
    have hR := hR.keepS (zK.set (S := [pn_1]) (ws := ws_1) (q := pn_1) (e := (q448, zI4 E 2 (upd (fun _ => 0) 0 (nI dd)))) (List.mem_singleton.mpr rfl)) (fun q9 hq9 => Or.inr ⟨_, _, (List.mem_singleton.mp hq9).symm ▸ G1_n, noL_I⟩)
    have hSN := hSN.keep (zK.set (S := [pn_1]) (ws := ws_1) (q := pn_1) (e := (q448, zI4 E 2 (upd (fun _ => 0) 0 (nI dd)))) (List.mem_singleton.mpr rfl)) (fun r9 hr9 => by simp only [List.mem_cons, rg_mem, List.not_mem_nil, or_false, not_or]; omega)
    have hk := hk.step (zK.set (S := [pn_1]) (ws := ws_1) (q := pn_1) (e := (q448, zI4 E 2 (upd (fun _ => 0) 0 (nI dd)))) (List.mem_singleton.mpr rfl)) (fun q9 a9 n9 f9 h8 h7 h9 => by simp only [List.mem_cons, rg_mem, List.not_mem_nil, or_false, not_or]; omega)
    have G2_0 := zset_ne (q := pn_1) (e' := (q448, zI4 E 2 (upd (fun _ => 0) 0 (nI dd)))) (by omega) G1_0
    have G2_1 := zset_ne (q := pn_1) (e' := (q448, zI4 E 2 (upd (fun _ => 0) 0 (nI dd)))) (by omega) G1_1
    have G2_2 := zset_ne (q := pn_1) (e' := (q448, zI4 E 2 (upd (fun _ => 0) 0 (nI dd)))) (by omega) G1_2
    have G2_3 := zset_ne (q := pn_1) (e' := (q448, zI4 E 2 (upd (fun _ => 0) 0 (nI dd)))) (by omega) G1_3
    have G2_4 := zset_ne (q := pn_1) (e' := (q448, zI4 E 2 (upd (fun _ => 0) 0 (nI dd)))) (by omega) G1_4
    have G2_5 := zset_ne (q := pn_1) (e' := (q448, zI4 E 2 (upd (fun _ => 0) 0 (nI dd)))) (by omega) G1_5
    have G2_6 := zset_ne (q := pn_1) (e' := (q448, zI4 E 2 (upd (fun _ => 0) 0 (nI dd)))) (by omega) G1_6
    have G2_7 := zset_ne (q := pn_1) (e' := (q448, zI4 E 2 (upd (fun _ => 0) 0 (nI dd)))) (by omega) G1_7
    have G2_8 := zset_ne (q := pn_1) (e' := (q448, zI4 E 2 (upd (fun _ => 0) 0 (nI dd)))) (by omega) G1_8
    have G2_9 := zset_ne (q := pn_1) (e' := (q448, zI4 E 2 (upd (fun _ => 0) 0 (nI dd)))) (by omega) G1_9
    have G2_10 := zset_ne (q := pn_1) (e' := (q448, zI4 E 2 (upd (fun _ => 0) 0 (nI dd)))) (by omega) G1_10
    have G2_11 := zset_ne (q := pn_1) (e' := (q448, zI4 E 2 (upd (fun _ => 0) 0 (nI dd)))) (by omega) G1_11
    have G2_12 := zset_ne (q := pn_1) (e' := (q448, zI4 E 2 (upd (fun _ => 0) 0 (nI dd)))) (by omega) G1_12
    have G2_13 := zset_ne (q := pn_1) (e' := (q448, zI4 E 2 (upd (fun _ => 0) 0 (nI dd)))) (by omega) G1_13
    have G2_14 := zset_ne (q := pn_1) (e' := (q448, zI4 E 2 (upd (fun _ => 0) 0 (nI dd)))) (by omega) G1_14
    have G2_15 := zset_eq (e' := (q448, zI4 E 2 (upd (fun _ => 0) 0 (nI dd)))) G1_n
    generalize hws2 : (ws_1.set pn_1 (q448, zI4 E 2 (upd (fun _ => 0) 0 (nI dd)))) = ws_2 at J hk G2_0 G2_1 G2_2 G2_3 G2_4 G2_5 G2_6 G2_7 G2_8 G2_9 G2_10 G2_11 G2_12 G2_13 G2_14 G2_15 hF hR hSN
    refine lv_dup hx hb dL_act_460 rfl ?_
    refine lv_iconst (v := nI 1) hx hb dL_act_461 rfl ?_
    refine lv_iload_n hx hb dL_act_462 rfl (lv_at hl 3 rfl) ?_
    refine lv_iconst (v := 4) hx hb dL_act_463 (by decide) ?_
    refine lv_ishr hx hb dL_act_464 ?_
    refine lv_bipush (v := nI 20) hx hb dL_act_465 (by decide) ?_
    obtain ⟨ix, hix⟩ : ∃ q9 : Nat, q9 = bln (xv >>> (4 &&& 31)) (20) := ⟨_, rfl⟩
    have bix := bln_lt (v := xv >>> (4 &&& 31)) (n := 20) (by omega)
    refine z_cr (z_rS (As := [.int (xv >>> (4 &&& 31)), .int (nI 20)]) (rest := [.int (nI 1), .ref q448, .ref q448]) X J (cL_below_ok l E (by first | assumption | omega | decide) (by first | assumption | omega | decide)) (va_cwS 2 hts (goodIn_ext2 gL_act_L_below) rfl rfl rfl (by decide +kernel) ⟨Nat.le_of_ble_eq_true rfl, Nat.le_of_ble_eq_true rfl⟩) rfl hl.1 rfl (Nat.le_of_ble_eq_true rfl) dL_act_467 ⟨Nat.le_of_ble_eq_true rfl, Nat.le_of_ble_eq_true rfl⟩) (fun r467 e_r467 => ?_)
    subst e_r467
    refine W.eq (g2 := F0 m 470 ls [.int (nI ix), .int (nI 1), .ref q448, .ref q448]) (congrArg (fun z9 : Int32 => F0 m 470 ls [.int z9, .int (nI 1), .ref q448, .ref q448]) (show (nI (bln (xv >>> (4 &&& 31)) 20) : Int32) = nI ix from (by rw [hix]))) ?_
    refine z_iast X J pn_1 G2_15 (vp_in_nI (by omega) (by first | decide | omega)) dL_act_470 (fun H locs J => ?_)
    rw [show upd (upd (fun _ => 0) 0 (nI dd)) (nI 1).toNatClampNeg (nI ix) = upd (upd (fun _ => 0) 0 (nI dd)) 1 (nI ix) from (by rw [nI_clamp (by omega)])] at J
    have hF := hF.keepS (zK.set (S := [pn_1]) (ws := ws_2) (q := pn_1) (e := (q448, zI4 E 2 (upd (upd (fun _ => 0) 0 (nI dd)) 1 (nI ix)))) (List.mem_singleton.mpr rfl)) (fun q9 hq9 => Or.inr ⟨_, _, (List.mem_singleton.mp hq9).symm ▸ G2_15, noL_I⟩)
    have hR := hR.keepS (zK.set (S := [pn_1]) (ws := ws_2) (q := pn_1) (e := (q448, zI4 E 2 (upd (upd (fun _ => 0) 0 (nI dd)) 1 (nI ix)))) (List.mem_singleton.mpr rfl)) (fun q9 hq9 => Or.inr ⟨_, _, (List.mem_singleton.mp hq9).symm ▸ G2_15, noL_I⟩)
    have hSN := hSN.keep (zK.set (S := [pn_1]) (ws := ws_2) (q := pn_1) (e := (q448, zI4 E 2 (upd (upd (fun _ => 0) 0 (nI dd)) 1 (nI ix)))) (List.mem_singleton.mpr rfl)) (fun r9 hr9 => by simp only [List.mem_cons, rg_mem, List.not_mem_nil, or_false, not_or]; omega)
    have hk := hk.step (zK.set (S := [pn_1]) (ws := ws_2) (q := pn_1) (e := (q448, zI4 E 2 (upd (upd (fun _ => 0) 0 (nI dd)) 1 (nI ix)))) (List.mem_singleton.mpr rfl)) (fun q9 a9 n9 f9 h8 h7 h9 => by simp only [List.mem_cons, rg_mem, List.not_mem_nil, or_false, not_or]; omega)
    have G3_0 := zset_ne (q := pn_1) (e' := (q448, zI4 E 2 (upd (upd (fun _ => 0) 0 (nI dd)) 1 (nI ix)))) (by omega) G2_0
    have G3_1 := zset_ne (q := pn_1) (e' := (q448, zI4 E 2 (upd (upd (fun _ => 0) 0 (nI dd)) 1 (nI ix)))) (by omega) G2_1
    have G3_2 := zset_ne (q := pn_1) (e' := (q448, zI4 E 2 (upd (upd (fun _ => 0) 0 (nI dd)) 1 (nI ix)))) (by omega) G2_2
    have G3_3 := zset_ne (q := pn_1) (e' := (q448, zI4 E 2 (upd (upd (fun _ => 0) 0 (nI dd)) 1 (nI ix)))) (by omega) G2_3
    have G3_4 := zset_ne (q := pn_1) (e' := (q448, zI4 E 2 (upd (upd (fun _ => 0) 0 (nI dd)) 1 (nI ix)))) (by omega) G2_4
    have G3_5 := zset_ne (q := pn_1) (e' := (q448, zI4 E 2 (upd (upd (fun _ => 0) 0 (nI dd)) 1 (nI ix)))) (by omega) G2_5
    have G3_6 := zset_ne (q := pn_1) (e' := (q448, zI4 E 2 (upd (upd (fun _ => 0) 0 (nI dd)) 1 (nI ix)))) (by omega) G2_6
    have G3_7 := zset_ne (q := pn_1) (e' := (q448, zI4 E 2 (upd (upd (fun _ => 0) 0 (nI dd)) 1 (nI ix)))) (by omega) G2_7
    have G3_8 := zset_ne (q := pn_1) (e' := (q448, zI4 E 2 (upd (upd (fun _ => 0) 0 (nI dd)) 1 (nI ix)))) (by omega) G2_8
    have G3_9 := zset_ne (q := pn_1) (e' := (q448, zI4 E 2 (upd (upd (fun _ => 0) 0 (nI dd)) 1 (nI ix)))) (by omega) G2_9
    have G3_10 := zset_ne (q := pn_1) (e' := (q448, zI4 E 2 (upd (upd (fun _ => 0) 0 (nI dd)) 1 (nI ix)))) (by omega) G2_10
    have G3_11 := zset_ne (q := pn_1) (e' := (q448, zI4 E 2 (upd (upd (fun _ => 0) 0 (nI dd)) 1 (nI ix)))) (by omega) G2_11
    have G3_12 := zset_ne (q := pn_1) (e' := (q448, zI4 E 2 (upd (upd (fun _ => 0) 0 (nI dd)) 1 (nI ix)))) (by omega) G2_12
    have G3_13 := zset_ne (q := pn_1) (e' := (q448, zI4 E 2 (upd (upd (fun _ => 0) 0 (nI dd)) 1 (nI ix)))) (by omega) G2_13
    have G3_14 := zset_ne (q := pn_1) (e' := (q448, zI4 E 2 (upd (upd (fun _ => 0) 0 (nI dd)) 1 (nI ix)))) (by omega) G2_14
    have G3_15 := zset_eq (e' := (q448, zI4 E 2 (upd (upd (fun _ => 0) 0 (nI dd)) 1 (nI ix)))) G2_15
    generalize hws3 : (ws_2.set pn_1 (q448, zI4 E 2 (upd (upd (fun _ => 0) 0 (nI dd)) 1 (nI ix)))) = ws_3 at J hk G3_0 G3_1 G3_2 G3_3 G3_4 G3_5 G3_6 G3_7 G3_8 G3_9 G3_10 G3_11 G3_12 G3_13 G3_14 G3_15 hF hR hSN
    refine lv_astore (lv' := [(4, .ref q448), (3, .int (nI nf)), (0, .ref x), (1, .ref z), (2, .int xv)]) hx hb dL_act_471 hl (by decide) rfl (fun ls hl => ?_)
    refine lv_aload_n hx hb dL_act_473 rfl (lv_at hl 3 rfl) ?_
    refine lv_aload_n hx hb dL_act_474 rfl (lv_at hl 3 rfl) ?_
    refine z_get (C := RX7) (T := TX7) (N := 8) (ci := 8) (v := .ref ro) X J hi_X7 11 G3_11 rfl 1 (by decide) (by decide +kernel) rfl dL_act_475 ?_
    refine lv_aload hx hb dL_act_478 (lv_at hl 0 rfl) ?_
    refine z_cq J (z_rS (As := [.ref ro, .ref q448]) (rest := [.ref z]) X J (cX7_with_ok l E G3_14 G3_15 (fun j9 hj9 => (hSR.keepI hk j9 hj9).elim (fun a9 h9 => h9.elim (fun q9 h9 => h9.elim (fun f9 h9 => ⟨a9, q9, 2, f9, h9.1, h9.2.2.1⟩)))) (by omega)) (va_cwS 2 hts (goodIn_ext2 gL_act_X7_with) rfl rfl rfl (by decide +kernel) ⟨Nat.le_of_ble_eq_true rfl, Nat.le_of_ble_eq_true rfl⟩) rfl hl.1 rfl (Nat.le_of_ble_eq_true rfl) dL_act_480 ⟨by show _ ≤ 20; omega, by show _ ≤ 120; omega⟩) (fun r480 ws_4 H locs hp9 J => ?_)
    obtain ⟨k4, ⟨nq_4, hlen4, N4_0, e_r480⟩⟩ := hp9
    have hF := hF.keepS k4 (fun q9 hq9 => absurd hq9 List.not_mem_nil)
    have hR := hR.keepS k4 (fun q9 hq9 => absurd hq9 List.not_mem_nil)
    have hSN := hSN.keep k4 (fun _ _ => List.not_mem_nil)
    have lp4 := hk.1
    have b_4_0 := zlt G3_0
    have b_4_1 := zlt G3_1
    have b_4_2 := zlt G3_2
    have b_4_3 := zlt G3_3
    have b_4_4 := zlt G3_4
    have b_4_5 := zlt G3_5
    have b_4_6 := zlt G3_6
    have b_4_7 := zlt G3_7
    have b_4_8 := zlt G3_8
    have b_4_9 := zlt G3_9
    have b_4_10 := zlt G3_10
    have b_4_11 := zlt G3_11
    have b_4_12 := zlt G3_12
    have b_4_13 := zlt G3_13
    have b_4_14 := zlt G3_14
    have b_4_15 := zlt G3_15
    have hk := hk.step k4 (fun _ _ _ _ _ _ _ => List.not_mem_nil)
    have G4_0 := k4.2 0 _ List.not_mem_nil G3_0
    have G4_1 := k4.2 1 _ List.not_mem_nil G3_1
    have G4_2 := k4.2 2 _ List.not_mem_nil G3_2
    have G4_3 := k4.2 3 _ List.not_mem_nil G3_3
    have G4_4 := k4.2 4 _ List.not_mem_nil G3_4
    have G4_5 := k4.2 5 _ List.not_mem_nil G3_5
    have G4_6 := k4.2 6 _ List.not_mem_nil G3_6
    have G4_7 := k4.2 7 _ List.not_mem_nil G3_7
    have G4_8 := k4.2 8 _ List.not_mem_nil G3_8
    have G4_9 := k4.2 9 _ List.not_mem_nil G3_9
    have G4_10 := k4.2 10 _ List.not_mem_nil G3_10
    have G4_11 := k4.2 11 _ List.not_mem_nil G3_11
    have G4_12 := k4.2 14 _ List.not_mem_nil G3_12
    have G4_13 := k4.2 qf _ List.not_mem_nil G3_13
    have G4_14 := k4.2 qr _ List.not_mem_nil G3_14
    have G4_15 := k4.2 pn_1 _ List.not_mem_nil G3_15
    obtain ⟨pn_4_0, hpn_4_0⟩ : ∃ z : Nat, z = ws_3.length + 0 := ⟨_, rfl⟩
    rw [← hpn_4_0] at N4_0
    subst e_r480
    refine W.eq (g2 := F0 m 483 ls [.ref nq_4, .ref z]) rfl ?_
    refine z_put (C := RX7) (T := TX7) (N := 8) (ci := 8) (v := .ref nq_4) X J hi_X7 tyX7 tyX7_ok nmX7 11 G4_11 rfl 1 (by decide) (by decide +kernel) rfl rfl rfl (Nat.le_of_ble_eq_true rfl) dL_act_483 (fun H locs J => ?_)
    have J : zJ E (ws_4.set 11 (z, .inr (8, [.ref fe, .ref nq_4, .ref sa, .int lim, .int sup, .int off, .int plo, .int hrs]))) s H locs := J
    have hF := hF.keepS (zK.set (S := [11]) (ws := ws_4) (q := 11) (e := (z, .inr (8, [.ref fe, .ref nq_4, .ref sa, .int lim, .int sup, .int off, .int plo, .int hrs]))) (List.mem_singleton.mpr rfl)) (fun q9 hq9 => Or.inl (by simp only [List.mem_cons, rg_mem, List.not_mem_nil, or_false, not_or] at hq9; omega))
    have hR := hR.keepS (zK.set (S := [11]) (ws := ws_4) (q := 11) (e := (z, .inr (8, [.ref fe, .ref nq_4, .ref sa, .int lim, .int sup, .int off, .int plo, .int hrs]))) (List.mem_singleton.mpr rfl)) (fun q9 hq9 => Or.inl (by simp only [List.mem_cons, rg_mem, List.not_mem_nil, or_false, not_or] at hq9; omega))
    have hSN := hSN.keep (zK.set (S := [11]) (ws := ws_4) (q := 11) (e := (z, .inr (8, [.ref fe, .ref nq_4, .ref sa, .int lim, .int sup, .int off, .int plo, .int hrs]))) (List.mem_singleton.mpr rfl)) (fun r9 hr9 => by simp only [List.mem_cons, rg_mem, List.not_mem_nil, or_false, not_or]; omega)
    have hk := hk.step (zK.set (S := [11]) (ws := ws_4) (q := 11) (e := (z, .inr (8, [.ref fe, .ref nq_4, .ref sa, .int lim, .int sup, .int off, .int plo, .int hrs]))) (List.mem_singleton.mpr rfl)) (fun q9 a9 n9 f9 h8 h7 h9 => by simp only [List.mem_cons, rg_mem, List.not_mem_nil, or_false, not_or]; omega)
    have G5_0 := zset_ne (q := 11) (e' := (z, .inr (8, [.ref fe, .ref nq_4, .ref sa, .int lim, .int sup, .int off, .int plo, .int hrs]))) (by decide) G4_0
    have G5_1 := zset_ne (q := 11) (e' := (z, .inr (8, [.ref fe, .ref nq_4, .ref sa, .int lim, .int sup, .int off, .int plo, .int hrs]))) (by decide) G4_1
    have G5_2 := zset_ne (q := 11) (e' := (z, .inr (8, [.ref fe, .ref nq_4, .ref sa, .int lim, .int sup, .int off, .int plo, .int hrs]))) (by decide) G4_2
    have G5_3 := zset_ne (q := 11) (e' := (z, .inr (8, [.ref fe, .ref nq_4, .ref sa, .int lim, .int sup, .int off, .int plo, .int hrs]))) (by decide) G4_3
    have G5_4 := zset_ne (q := 11) (e' := (z, .inr (8, [.ref fe, .ref nq_4, .ref sa, .int lim, .int sup, .int off, .int plo, .int hrs]))) (by decide) G4_4
    have G5_5 := zset_ne (q := 11) (e' := (z, .inr (8, [.ref fe, .ref nq_4, .ref sa, .int lim, .int sup, .int off, .int plo, .int hrs]))) (by decide) G4_5
    have G5_6 := zset_ne (q := 11) (e' := (z, .inr (8, [.ref fe, .ref nq_4, .ref sa, .int lim, .int sup, .int off, .int plo, .int hrs]))) (by decide) G4_6
    have G5_7 := zset_ne (q := 11) (e' := (z, .inr (8, [.ref fe, .ref nq_4, .ref sa, .int lim, .int sup, .int off, .int plo, .int hrs]))) (by decide) G4_7
    have G5_8 := zset_ne (q := 11) (e' := (z, .inr (8, [.ref fe, .ref nq_4, .ref sa, .int lim, .int sup, .int off, .int plo, .int hrs]))) (by decide) G4_8
    have G5_9 := zset_ne (q := 11) (e' := (z, .inr (8, [.ref fe, .ref nq_4, .ref sa, .int lim, .int sup, .int off, .int plo, .int hrs]))) (by decide) G4_9
    have G5_10 := zset_ne (q := 11) (e' := (z, .inr (8, [.ref fe, .ref nq_4, .ref sa, .int lim, .int sup, .int off, .int plo, .int hrs]))) (by decide) G4_10
    have G5_11 := zset_eq (e' := (z, .inr (8, [.ref fe, .ref nq_4, .ref sa, .int lim, .int sup, .int off, .int plo, .int hrs]))) G4_11
    have G5_12 := zset_ne (q := 11) (e' := (z, .inr (8, [.ref fe, .ref nq_4, .ref sa, .int lim, .int sup, .int off, .int plo, .int hrs]))) (by decide) G4_12
    have G5_13 := zset_ne (q := 11) (e' := (z, .inr (8, [.ref fe, .ref nq_4, .ref sa, .int lim, .int sup, .int off, .int plo, .int hrs]))) (by omega) G4_13
    have G5_14 := zset_ne (q := 11) (e' := (z, .inr (8, [.ref fe, .ref nq_4, .ref sa, .int lim, .int sup, .int off, .int plo, .int hrs]))) (by omega) G4_14
    have G5_15 := zset_ne (q := 11) (e' := (z, .inr (8, [.ref fe, .ref nq_4, .ref sa, .int lim, .int sup, .int off, .int plo, .int hrs]))) (by omega) G4_15
    have G5_16 := zset_ne (q := 11) (e' := (z, .inr (8, [.ref fe, .ref nq_4, .ref sa, .int lim, .int sup, .int off, .int plo, .int hrs]))) (by omega) N4_0
    generalize hws5 : (ws_4.set 11 (z, .inr (8, [.ref fe, .ref nq_4, .ref sa, .int lim, .int sup, .int off, .int plo, .int hrs]))) = ws_5 at J hk G5_0 G5_1 G5_2 G5_3 G5_4 G5_5 G5_6 G5_7 G5_8 G5_9 G5_10 G5_11 G5_12 G5_13 G5_14 G5_15 G5_16 hF hR hSN
    refine lv_aload_n hx hb dL_act_486 rfl (lv_at hl 2 rfl) ?_
    refine lv_aload hx hb dL_act_487 (lv_at hl 0 rfl) ?_
    refine lv_iconst (v := nI 0) hx hb dL_act_489 rfl ?_
    refine z_iald X J pn_1 G5_15 (vp_in_nI (by omega) (by first | decide | omega)) dL_act_490 ?_
    refine W.eq (g2 := F0 m 491 ls [.int (nI dd), .ref x]) (congrArg (fun z9 : Int32 => F0 m 491 ls [.int z9, .ref x]) (show ((upd (upd (fun _ => 0) 0 (nI dd)) 1 (nI ix)) (nI 0).toNatClampNeg : Int32) = nI dd from (by rw [nI_clamp (by omega)]; rfl))) ?_
    refine lv_iconst (v := 1) hx hb dL_act_491 (by decide) ?_
    refine lv_icmp_ne (tgt := 499) hx hb dL_act_492 (by decide) (fun cz492 => ?_) (fun cz492 => ?_)
    · have hd9 : upd (upd (fun _ => 0) 0 (nI dd)) 1 (nI ix) 0 = (0 : Int32) := by
        rcases (show dd = 0 ∨ dd = 1 by omega) with q9 | q9
        · show nI dd = 0; rw [q9]; rfl
        · exact absurd (show nI dd = 1 by rw [q9]; rfl) cz492
      refine lv_iconst (v := 0) hx hb dL_act_499 (by decide) ?_
      refine lv_aload hx hb dL_act_500 (lv_at hl 0 rfl) ?_
      refine lv_iconst (v := nI 1) hx hb dL_act_502 rfl ?_
      refine z_iald X J pn_1 G5_15 (vp_in_nI (by omega) (by first | decide | omega)) dL_act_503 ?_
      refine W.eq (g2 := F0 m 504 ls [.int (nI ix), .int 0, .ref x]) (congrArg (fun z9 : Int32 => F0 m 504 ls [.int z9, .int 0, .ref x]) (show ((upd (upd (fun _ => 0) 0 (nI dd)) 1 (nI ix)) (nI 1).toNatClampNeg : Int32) = nI ix from (by rw [nI_clamp (by omega)]; rfl))) ?_
      have hJ9 := J.2.1
      have hF9 := hF
      rcases hR with ⟨hn0, he0⟩ | ⟨qe, g5, fo9, qf9, sp9, qs9, hRa⟩
      · subst hn0
        subst he0
        have hk0 : kRoad (nI ix) (nI 0) = 0 := kRoad_ok (by omega) (by omega)
        refine z_xi J (z_yV (As := [.int 0, .int (nI ix)]) (rest := []) (ci := 7) (q0 := 0) X hRz J (cX6_road_e_ok l hflags E G5_0 G5_2 (by first | exact Or.inl rfl | exact Or.inr rfl)) (cwV 2 hts (goodIn_ext2 gL_act_X6_road) rfl rfl rfl (by decide +kernel) ⟨Nat.le_of_ble_eq_true rfl, Nat.le_of_ble_eq_true rfl⟩) G5_0 rfl rfl rfl hl.1 rfl (Nat.le_of_ble_eq_true rfl) dL_act_504 ⟨by show _ ≤ 20; omega, by show _ ≤ 120; omega⟩) (fun nm ce q9 H locs hp9 J h1 h2 h3 => ?_) (fun r504 ws_6 H locs hp9 J => ?_)
        · exact False.elim (by rcases hp9 with h9 | h9 <;> exact absurd (h9.1.symm.trans hk0) (by decide))
        obtain ⟨k6, ⟨fo_6, sp_6, nq_6, hlen6, G6_a0, N6_0, N6_1, N6_2, e_r504⟩⟩ := hp9
        have hF := hF.keepS k6 (fun q9 hq9 => Or.inl (by simp only [List.mem_cons, rg_mem, List.not_mem_nil, or_false, not_or] at hq9; omega))
        have hSN := hSN.keep k6 (fun r9 hr9 => by simp only [List.mem_cons, rg_mem, List.not_mem_nil, or_false, not_or]; omega)
        have lp6 := hk.1
        have b_6_0 := zlt G5_0
        have b_6_1 := zlt G5_1
        have b_6_2 := zlt G5_2
        have b_6_3 := zlt G5_3
        have b_6_4 := zlt G5_4
        have b_6_5 := zlt G5_5
        have b_6_6 := zlt G5_6
        have b_6_7 := zlt G5_7
        have b_6_8 := zlt G5_8
        have b_6_9 := zlt G5_9
        have b_6_10 := zlt G5_10
        have b_6_11 := zlt G5_11
        have b_6_12 := zlt G5_12
        have b_6_13 := zlt G5_13
        have b_6_14 := zlt G5_14
        have b_6_15 := zlt G5_15
        have b_6_16 := zlt G5_16
        have hk := hk.step k6 (fun q9 a9 n9 f9 h8 h7 h9 => by simp only [List.mem_cons, rg_mem, List.not_mem_nil, or_false, not_or]; omega)
        have G6_0 := k6.2 0 _ (by decide) G5_0
        have G6_1 := k6.2 1 _ (by decide) G5_1
        have G6_3 := k6.2 3 _ (by decide) G5_3
        have G6_4 := k6.2 4 _ (by decide) G5_4
        have G6_5 := k6.2 5 _ (by decide) G5_5
        have G6_6 := k6.2 6 _ (by decide) G5_6
        have G6_7 := k6.2 7 _ (by decide) G5_7
        have G6_8 := k6.2 8 _ (by decide) G5_8
        have G6_9 := k6.2 9 _ (by decide) G5_9
        have G6_10 := k6.2 10 _ (by decide) G5_10
        have G6_11 := k6.2 11 _ (by decide) G5_11
        have G6_12 := k6.2 14 _ (by decide) G5_12
        have G6_13 := k6.2 qf _ (by simp only [List.mem_cons, List.not_mem_nil, or_false]; omega) G5_13
        have G6_14 := k6.2 qr _ (by simp only [List.mem_cons, List.not_mem_nil, or_false]; omega) G5_14
        have G6_15 := k6.2 pn_1 _ (by simp only [List.mem_cons, List.not_mem_nil, or_false]; omega) G5_15
        have G6_16 := k6.2 pn_4_0 _ (by simp only [List.mem_cons, List.not_mem_nil, or_false]; omega) G5_16
        obtain ⟨pn_6_0, hpn_6_0⟩ : ∃ z : Nat, z = ws_5.length + 0 := ⟨_, rfl⟩
        rw [← hpn_6_0] at N6_0
        obtain ⟨pn_6_1, hpn_6_1⟩ : ∃ z : Nat, z = ws_5.length + 1 := ⟨_, rfl⟩
        rw [← hpn_6_1] at N6_1
        obtain ⟨pn_6_2, hpn_6_2⟩ : ∃ z : Nat, z = ws_5.length + 2 := ⟨_, rfl⟩
        rw [← hpn_6_2] at N6_2
        refine W.eq (g2 := F0 m 507 ls [.int (nI 0)]) (congrArg (fun z9 : Int32 => F0 m 507 ls [.int z9]) (show (r504 : Int32) = nI 0 from e_r504.2)) ?_
        refine lv_aload_n hx hb dL_act_507 rfl (lv_at hl 3 rfl) ?_
        refine z_get (C := RX7) (T := TX7) (N := 8) (ci := 8) (v := .ref nq_4) X J hi_X7 11 G6_11 rfl 1 (by decide) (by decide +kernel) rfl dL_act_508 ?_
        refine z_alenA (v := nI (0 + 1)) X J pn_4_0 G6_16 rfl dL_act_511 ?_
        refine lv_iconst (v := 1) hx hb dL_act_512 (by decide) ?_
        refine lv_isub hx hb dL_act_513 ?_
        refine W.eq (g2 := F0 m 514 ls [.int (nI 0), .int (nI 0)]) (congrArg (fun z9 : Int32 => F0 m 514 ls [.int z9, .int (nI 0)]) (show ((nI (0 + 1)) - 1 : Int32) = nI 0 from (nI_sub1 (Nat.succ_pos _)))) ?_
        refine lv_icmp_ne (tgt := 521) hx hb dL_act_514 (by decide) (fun cz514 => by exact (cz514 rfl).elim) (fun cz514 => ?_)
        refine lv_iconst (v := 1) hx hb dL_act_517 (by decide) ?_
        refine lv_goto (tgt := 522) hx hb dL_act_518 (by decide) ?_
        refine W.widen (k := 20) (n := 120) (by omega) (by omega) ?_
        subst hQ
        exact W.zret (v := 1) hx hb hr rfl (fun t ht hW => ⟨⟨1, ws_6, rfl, ⟨hk, ⟨mc1, (mc2 + 1), lim, sup, off, plo, hrs, ea, nq_6, nf, (0 + 1), fe, qf, nq_4, pn_4_0, fa, (upd rd 0 0), (upd ri 0 (nI ix)), sn, t9, hf, gf, g, (wO gq 0 q448), G6_0, G6_1, G6_a0, G6_3, G6_4, G6_5, G6_6, G6_7, G6_8, G6_9, G6_10, G6_11, G6_12, G6_13, G6_16, ⟨by omega, by omega⟩, hF, (RS.new (pq := pn_6_2) (pf := pn_6_0) (ps := pn_6_1) (by omega) N6_2 (by omega) N6_0 (by omega) N6_1), (Or.inl (sep_F hF9 k6 (by decide) J.2.1 hE1 N6_2 (by omega))), (hSE.keepI hk), ((hSR.keepI hk).add G6_15 (by omega) hd9 rfl), hSN, hnf, (by omega), hok, (okR_add hor (Or.inl rfl) (inRk (a := 0) (b := 19) (Nat.zero_le _) (by omega) (by decide))), hRB, hu9, hlm, (Nat.le_trans hln hk.1)⟩, rfl⟩, J.I X ht hW.alike⟩, J.F ht⟩) J.locs dL_act_522
      · have hq35 := hRa.1
        have hk0 : kRoad (nI ix) (nI nr) = 0 := kRoad_ok (by omega) (by omega)
        have hqq8 : qe ≠ qf := zneOA (zK.neOA X.2.1) hRa.2.1 G5_13
        have hqq7 : qe ≠ qr := zneOA (zK.neOA X.2.1) hRa.2.1 G5_14
        have hqq6 : qe ≠ pn_4_0 := zneOA (zK.neOA X.2.1) hRa.2.1 G5_16
        have hqz13 : qe ≠ qf := zneOA (zK.neOA X.2.1) hRa.2.1 G5_13
        have hqz14 : qe ≠ qr := zneOA (zK.neOA X.2.1) hRa.2.1 G5_14
        have hqz15 : qe ≠ pn_1 := zneK hRa.2.1 G5_15 rfl
        have hqz16 : qe ≠ pn_4_0 := zneOA (zK.neOA X.2.1) hRa.2.1 G5_16
        refine z_xi J (z_yV (As := [.int 0, .int (nI ix)]) (rest := []) (ci := 7) (q0 := 0) X hRz J (cX6_road_n_ok l hflags E G5_0 G5_2 hRa.2.1 (by first | exact Or.inl rfl | exact Or.inr rfl) hnr) (cwV 2 hts (goodIn_ext2 gL_act_X6_road) rfl rfl rfl (by decide +kernel) ⟨Nat.le_of_ble_eq_true rfl, Nat.le_of_ble_eq_true rfl⟩) G5_0 rfl rfl rfl hl.1 rfl (Nat.le_of_ble_eq_true rfl) dL_act_504 ⟨by show _ ≤ 20; omega, by show _ ≤ 120; omega⟩) (fun nm ce q9 H locs hp9 J h1 h2 h3 => ?_) (fun r504 ws_6 H locs hp9 J => ?_)
        · exact False.elim (by rcases hp9 with h9 | h9 <;> exact absurd (h9.1.symm.trans hk0) (by decide))
        obtain ⟨k6, ⟨fo_6, sp_6, hlen6, G6_a0, G6_a1, N6_0, N6_1, e_r504⟩⟩ := hp9
        have hSN := hSN.keep k6 (fun r9 hr9 => by simp only [List.mem_cons, rg_mem, List.not_mem_nil, or_false, not_or]; omega)
        have lp6 := hk.1
        have b_6_0 := zlt G5_0
        have b_6_1 := zlt G5_1
        have b_6_2 := zlt G5_2
        have b_6_3 := zlt G5_3
        have b_6_4 := zlt G5_4
        have b_6_5 := zlt G5_5
        have b_6_6 := zlt G5_6
        have b_6_7 := zlt G5_7
        have b_6_8 := zlt G5_8
        have b_6_9 := zlt G5_9
        have b_6_10 := zlt G5_10
        have b_6_11 := zlt G5_11
        have b_6_12 := zlt G5_12
        have b_6_13 := zlt G5_13
        have b_6_14 := zlt G5_14
        have b_6_15 := zlt G5_15
        have b_6_16 := zlt G5_16
        have b_6_17 := zlt hRa.2.1
        have hk := hk.step k6 (fun q9 a9 n9 f9 h8 h7 h9 => by have z9_0 := zneK h9 hRa.2.1 rfl; simp only [List.mem_cons, rg_mem, List.not_mem_nil, or_false, not_or]; omega)
        have G6_0 := k6.2 0 _ (by simp only [List.mem_cons, List.not_mem_nil, or_false]; omega) G5_0
        have G6_1 := k6.2 1 _ (by simp only [List.mem_cons, List.not_mem_nil, or_false]; omega) G5_1
        have G6_3 := k6.2 3 _ (by simp only [List.mem_cons, List.not_mem_nil, or_false]; omega) G5_3
        have G6_4 := k6.2 4 _ (by simp only [List.mem_cons, List.not_mem_nil, or_false]; omega) G5_4
        have G6_5 := k6.2 5 _ (by simp only [List.mem_cons, List.not_mem_nil, or_false]; omega) G5_5
        have G6_6 := k6.2 6 _ (by simp only [List.mem_cons, List.not_mem_nil, or_false]; omega) G5_6
        have G6_7 := k6.2 7 _ (by simp only [List.mem_cons, List.not_mem_nil, or_false]; omega) G5_7
        have G6_8 := k6.2 8 _ (by simp only [List.mem_cons, List.not_mem_nil, or_false]; omega) G5_8
        have G6_9 := k6.2 9 _ (by simp only [List.mem_cons, List.not_mem_nil, or_false]; omega) G5_9
        have G6_10 := k6.2 10 _ (by simp only [List.mem_cons, List.not_mem_nil, or_false]; omega) G5_10
        have G6_11 := k6.2 11 _ (by simp only [List.mem_cons, List.not_mem_nil, or_false]; omega) G5_11
        have G6_12 := k6.2 14 _ (by simp only [List.mem_cons, List.not_mem_nil, or_false]; omega) G5_12
        have G6_13 := k6.2 qf _ (by simp only [List.mem_cons, List.not_mem_nil, or_false]; omega) G5_13
        have G6_14 := k6.2 qr _ (by simp only [List.mem_cons, List.not_mem_nil, or_false]; omega) G5_14
        have G6_15 := k6.2 pn_1 _ (by simp only [List.mem_cons, List.not_mem_nil, or_false]; omega) G5_15
        have G6_16 := k6.2 pn_4_0 _ (by simp only [List.mem_cons, List.not_mem_nil, or_false]; omega) G5_16
        obtain ⟨pn_6_0, hpn_6_0⟩ : ∃ z : Nat, z = ws_5.length + 0 := ⟨_, rfl⟩
        rw [← hpn_6_0] at N6_0
        obtain ⟨pn_6_1, hpn_6_1⟩ : ∃ z : Nat, z = ws_5.length + 1 := ⟨_, rfl⟩
        rw [← hpn_6_1] at N6_1
        refine W.eq (g2 := F0 m 507 ls [.int (nI nr)]) (congrArg (fun z9 : Int32 => F0 m 507 ls [.int z9]) (show (r504 : Int32) = nI nr from e_r504.2)) ?_
        refine lv_aload_n hx hb dL_act_507 rfl (lv_at hl 3 rfl) ?_
        refine z_get (C := RX7) (T := TX7) (N := 8) (ci := 8) (v := .ref nq_4) X J hi_X7 11 G6_11 rfl 1 (by decide) (by decide +kernel) rfl dL_act_508 ?_
        refine z_alenA (v := nI (nr + 1)) X J pn_4_0 G6_16 rfl dL_act_511 ?_
        refine lv_iconst (v := 1) hx hb dL_act_512 (by decide) ?_
        refine lv_isub hx hb dL_act_513 ?_
        refine W.eq (g2 := F0 m 514 ls [.int (nI nr), .int (nI nr)]) (congrArg (fun z9 : Int32 => F0 m 514 ls [.int z9, .int (nI nr)]) (show ((nI (nr + 1)) - 1 : Int32) = nI nr from (nI_sub1 (Nat.succ_pos _)))) ?_
        refine lv_icmp_ne (tgt := 521) hx hb dL_act_514 (by decide) (fun cz514 => by exact (cz514 rfl).elim) (fun cz514 => ?_)
        refine lv_iconst (v := 1) hx hb dL_act_517 (by decide) ?_
        refine lv_goto (tgt := 522) hx hb dL_act_518 (by decide) ?_
        refine W.widen (k := 20) (n := 120) (by omega) (by omega) ?_
        subst hQ
        exact W.zret (v := 1) hx hb hr rfl (fun t ht hW => ⟨⟨1, ws_6, rfl, ⟨hk, ⟨mc1, (mc2 + 1), lim, sup, off, plo, hrs, ea, eb, nf, (nr + 1), fe, qf, nq_4, pn_4_0, fa, (upd rd nr 0), (upd ri nr (nI ix)), sn, t9, hf, gf, g, (wO gq nr q448), G6_0, G6_1, G6_a0, G6_3, G6_4, G6_5, G6_6, G6_7, G6_8, G6_9, G6_10, G6_11, G6_12, G6_13, G6_16, ⟨by omega, by omega⟩, (hF9.keepE k6 hRa.2.1 rfl rfl (hSep.ne2 hJ9 hE1 hRa.2.1) (by intro q9 hq9; simp only [List.mem_cons, List.not_mem_nil, or_false] at hq9; omega)), (RS.add (pf := pn_6_0) (ps := pn_6_1) hRa.1 hRa.2.1 hRa.2.2 k6 (by intro q9 hq9; simp only [List.mem_cons, List.not_mem_nil, or_false] at hq9; omega) G6_a1 (by omega) N6_0 (by omega) N6_1), hSep, (hSE.keepI hk), ((hSR.keepI hk).add G6_15 (by omega) hd9 rfl), hSN, hnf, (by omega), hok, (okR_add hor (Or.inl rfl) (inRk (a := 0) (b := 19) (Nat.zero_le _) (by omega) (by decide))), hRB, hu9, hlm, (Nat.le_trans hln hk.1)⟩, rfl⟩, J.I X ht hW.alike⟩, J.F ht⟩) J.locs dL_act_522
    · have hd9 : upd (upd (fun _ => 0) 0 (nI dd)) 1 (nI ix) 0 = (1 : Int32) := cz492
      refine lv_iconst (v := 1) hx hb dL_act_495 (by decide) ?_
      refine lv_goto (tgt := 500) hx hb dL_act_496 (by decide) ?_
      refine lv_aload hx hb dL_act_500 (lv_at hl 0 rfl) ?_
      refine lv_iconst (v := nI 1) hx hb dL_act_502 rfl ?_
      refine z_iald X J pn_1 G5_15 (vp_in_nI (by omega) (by first | decide | omega)) dL_act_503 ?_
      refine W.eq (g2 := F0 m 504 ls [.int (nI ix), .int 1, .ref x]) (congrArg (fun z9 : Int32 => F0 m 504 ls [.int z9, .int 1, .ref x]) (show ((upd (upd (fun _ => 0) 0 (nI dd)) 1 (nI ix)) (nI 1).toNatClampNeg : Int32) = nI ix from (by rw [nI_clamp (by omega)]; rfl))) ?_
      have hJ9 := J.2.1
      have hF9 := hF
      rcases hR with ⟨hn0, he0⟩ | ⟨qe, g5, fo9, qf9, sp9, qs9, hRa⟩
      · subst hn0
        subst he0
        have hk0 : kRoad (nI ix) (nI 0) = 0 := kRoad_ok (by omega) (by omega)
        refine z_xi J (z_yV (As := [.int 1, .int (nI ix)]) (rest := []) (ci := 7) (q0 := 0) X hRz J (cX6_road_e_ok l hflags E G5_0 G5_2 (by first | exact Or.inl rfl | exact Or.inr rfl)) (cwV 2 hts (goodIn_ext2 gL_act_X6_road) rfl rfl rfl (by decide +kernel) ⟨Nat.le_of_ble_eq_true rfl, Nat.le_of_ble_eq_true rfl⟩) G5_0 rfl rfl rfl hl.1 rfl (Nat.le_of_ble_eq_true rfl) dL_act_504 ⟨by show _ ≤ 20; omega, by show _ ≤ 120; omega⟩) (fun nm ce q9 H locs hp9 J h1 h2 h3 => ?_) (fun r504 ws_6 H locs hp9 J => ?_)
        · exact False.elim (by rcases hp9 with h9 | h9 <;> exact absurd (h9.1.symm.trans hk0) (by decide))
        obtain ⟨k6, ⟨fo_6, sp_6, nq_6, hlen6, G6_a0, N6_0, N6_1, N6_2, e_r504⟩⟩ := hp9
        have hF := hF.keepS k6 (fun q9 hq9 => Or.inl (by simp only [List.mem_cons, rg_mem, List.not_mem_nil, or_false, not_or] at hq9; omega))
        have hSN := hSN.keep k6 (fun r9 hr9 => by simp only [List.mem_cons, rg_mem, List.not_mem_nil, or_false, not_or]; omega)
        have lp6 := hk.1
        have b_6_0 := zlt G5_0
        have b_6_1 := zlt G5_1
        have b_6_2 := zlt G5_2
        have b_6_3 := zlt G5_3
        have b_6_4 := zlt G5_4
        have b_6_5 := zlt G5_5
        have b_6_6 := zlt G5_6
        have b_6_7 := zlt G5_7
        have b_6_8 := zlt G5_8
        have b_6_9 := zlt G5_9
        have b_6_10 := zlt G5_10
        have b_6_11 := zlt G5_11
        have b_6_12 := zlt G5_12
        have b_6_13 := zlt G5_13
        have b_6_14 := zlt G5_14
        have b_6_15 := zlt G5_15
        have b_6_16 := zlt G5_16
        have hk := hk.step k6 (fun q9 a9 n9 f9 h8 h7 h9 => by simp only [List.mem_cons, rg_mem, List.not_mem_nil, or_false, not_or]; omega)
        have G6_0 := k6.2 0 _ (by decide) G5_0
        have G6_1 := k6.2 1 _ (by decide) G5_1
        have G6_3 := k6.2 3 _ (by decide) G5_3
        have G6_4 := k6.2 4 _ (by decide) G5_4
        have G6_5 := k6.2 5 _ (by decide) G5_5
        have G6_6 := k6.2 6 _ (by decide) G5_6
        have G6_7 := k6.2 7 _ (by decide) G5_7
        have G6_8 := k6.2 8 _ (by decide) G5_8
        have G6_9 := k6.2 9 _ (by decide) G5_9
        have G6_10 := k6.2 10 _ (by decide) G5_10
        have G6_11 := k6.2 11 _ (by decide) G5_11
        have G6_12 := k6.2 14 _ (by decide) G5_12
        have G6_13 := k6.2 qf _ (by simp only [List.mem_cons, List.not_mem_nil, or_false]; omega) G5_13
        have G6_14 := k6.2 qr _ (by simp only [List.mem_cons, List.not_mem_nil, or_false]; omega) G5_14
        have G6_15 := k6.2 pn_1 _ (by simp only [List.mem_cons, List.not_mem_nil, or_false]; omega) G5_15
        have G6_16 := k6.2 pn_4_0 _ (by simp only [List.mem_cons, List.not_mem_nil, or_false]; omega) G5_16
        obtain ⟨pn_6_0, hpn_6_0⟩ : ∃ z : Nat, z = ws_5.length + 0 := ⟨_, rfl⟩
        rw [← hpn_6_0] at N6_0
        obtain ⟨pn_6_1, hpn_6_1⟩ : ∃ z : Nat, z = ws_5.length + 1 := ⟨_, rfl⟩
        rw [← hpn_6_1] at N6_1
        obtain ⟨pn_6_2, hpn_6_2⟩ : ∃ z : Nat, z = ws_5.length + 2 := ⟨_, rfl⟩
        rw [← hpn_6_2] at N6_2
        refine W.eq (g2 := F0 m 507 ls [.int (nI 0)]) (congrArg (fun z9 : Int32 => F0 m 507 ls [.int z9]) (show (r504 : Int32) = nI 0 from e_r504.2)) ?_
        refine lv_aload_n hx hb dL_act_507 rfl (lv_at hl 3 rfl) ?_
        refine z_get (C := RX7) (T := TX7) (N := 8) (ci := 8) (v := .ref nq_4) X J hi_X7 11 G6_11 rfl 1 (by decide) (by decide +kernel) rfl dL_act_508 ?_
        refine z_alenA (v := nI (0 + 1)) X J pn_4_0 G6_16 rfl dL_act_511 ?_
        refine lv_iconst (v := 1) hx hb dL_act_512 (by decide) ?_
        refine lv_isub hx hb dL_act_513 ?_
        refine W.eq (g2 := F0 m 514 ls [.int (nI 0), .int (nI 0)]) (congrArg (fun z9 : Int32 => F0 m 514 ls [.int z9, .int (nI 0)]) (show ((nI (0 + 1)) - 1 : Int32) = nI 0 from (nI_sub1 (Nat.succ_pos _)))) ?_
        refine lv_icmp_ne (tgt := 521) hx hb dL_act_514 (by decide) (fun cz514 => by exact (cz514 rfl).elim) (fun cz514 => ?_)
        refine lv_iconst (v := 1) hx hb dL_act_517 (by decide) ?_
        refine lv_goto (tgt := 522) hx hb dL_act_518 (by decide) ?_
        refine W.widen (k := 20) (n := 120) (by omega) (by omega) ?_
        subst hQ
        exact W.zret (v := 1) hx hb hr rfl (fun t ht hW => ⟨⟨1, ws_6, rfl, ⟨hk, ⟨mc1, (mc2 + 1), lim, sup, off, plo, hrs, ea, nq_6, nf, (0 + 1), fe, qf, nq_4, pn_4_0, fa, (upd rd 0 1), (upd ri 0 (nI ix)), sn, t9, hf, gf, g, (wO gq 0 q448), G6_0, G6_1, G6_a0, G6_3, G6_4, G6_5, G6_6, G6_7, G6_8, G6_9, G6_10, G6_11, G6_12, G6_13, G6_16, ⟨by omega, by omega⟩, hF, (RS.new (pq := pn_6_2) (pf := pn_6_0) (ps := pn_6_1) (by omega) N6_2 (by omega) N6_0 (by omega) N6_1), (Or.inl (sep_F hF9 k6 (by decide) J.2.1 hE1 N6_2 (by omega))), (hSE.keepI hk), ((hSR.keepI hk).add G6_15 (by omega) hd9 rfl), hSN, hnf, (by omega), hok, (okR_add hor (Or.inr rfl) (inRk (a := 0) (b := 19) (Nat.zero_le _) (by omega) (by decide))), hRB, hu9, hlm, (Nat.le_trans hln hk.1)⟩, rfl⟩, J.I X ht hW.alike⟩, J.F ht⟩) J.locs dL_act_522
      · have hq35 := hRa.1
        have hk0 : kRoad (nI ix) (nI nr) = 0 := kRoad_ok (by omega) (by omega)
        have hqq8 : qe ≠ qf := zneOA (zK.neOA X.2.1) hRa.2.1 G5_13
        have hqq7 : qe ≠ qr := zneOA (zK.neOA X.2.1) hRa.2.1 G5_14
        have hqq6 : qe ≠ pn_4_0 := zneOA (zK.neOA X.2.1) hRa.2.1 G5_16
        have hqz13 : qe ≠ qf := zneOA (zK.neOA X.2.1) hRa.2.1 G5_13
        have hqz14 : qe ≠ qr := zneOA (zK.neOA X.2.1) hRa.2.1 G5_14
        have hqz15 : qe ≠ pn_1 := zneK hRa.2.1 G5_15 rfl
        have hqz16 : qe ≠ pn_4_0 := zneOA (zK.neOA X.2.1) hRa.2.1 G5_16
        refine z_xi J (z_yV (As := [.int 1, .int (nI ix)]) (rest := []) (ci := 7) (q0 := 0) X hRz J (cX6_road_n_ok l hflags E G5_0 G5_2 hRa.2.1 (by first | exact Or.inl rfl | exact Or.inr rfl) hnr) (cwV 2 hts (goodIn_ext2 gL_act_X6_road) rfl rfl rfl (by decide +kernel) ⟨Nat.le_of_ble_eq_true rfl, Nat.le_of_ble_eq_true rfl⟩) G5_0 rfl rfl rfl hl.1 rfl (Nat.le_of_ble_eq_true rfl) dL_act_504 ⟨by show _ ≤ 20; omega, by show _ ≤ 120; omega⟩) (fun nm ce q9 H locs hp9 J h1 h2 h3 => ?_) (fun r504 ws_6 H locs hp9 J => ?_)
        · exact False.elim (by rcases hp9 with h9 | h9 <;> exact absurd (h9.1.symm.trans hk0) (by decide))
        obtain ⟨k6, ⟨fo_6, sp_6, hlen6, G6_a0, G6_a1, N6_0, N6_1, e_r504⟩⟩ := hp9
        have hSN := hSN.keep k6 (fun r9 hr9 => by simp only [List.mem_cons, rg_mem, List.not_mem_nil, or_false, not_or]; omega)
        have lp6 := hk.1
        have b_6_0 := zlt G5_0
        have b_6_1 := zlt G5_1
        have b_6_2 := zlt G5_2
        have b_6_3 := zlt G5_3
        have b_6_4 := zlt G5_4
        have b_6_5 := zlt G5_5
        have b_6_6 := zlt G5_6
        have b_6_7 := zlt G5_7
        have b_6_8 := zlt G5_8
        have b_6_9 := zlt G5_9
        have b_6_10 := zlt G5_10
        have b_6_11 := zlt G5_11
        have b_6_12 := zlt G5_12
        have b_6_13 := zlt G5_13
        have b_6_14 := zlt G5_14
        have b_6_15 := zlt G5_15
        have b_6_16 := zlt G5_16
        have b_6_17 := zlt hRa.2.1
        have hk := hk.step k6 (fun q9 a9 n9 f9 h8 h7 h9 => by have z9_0 := zneK h9 hRa.2.1 rfl; simp only [List.mem_cons, rg_mem, List.not_mem_nil, or_false, not_or]; omega)
        have G6_0 := k6.2 0 _ (by simp only [List.mem_cons, List.not_mem_nil, or_false]; omega) G5_0
        have G6_1 := k6.2 1 _ (by simp only [List.mem_cons, List.not_mem_nil, or_false]; omega) G5_1
        have G6_3 := k6.2 3 _ (by simp only [List.mem_cons, List.not_mem_nil, or_false]; omega) G5_3
        have G6_4 := k6.2 4 _ (by simp only [List.mem_cons, List.not_mem_nil, or_false]; omega) G5_4
        have G6_5 := k6.2 5 _ (by simp only [List.mem_cons, List.not_mem_nil, or_false]; omega) G5_5
        have G6_6 := k6.2 6 _ (by simp only [List.mem_cons, List.not_mem_nil, or_false]; omega) G5_6
        have G6_7 := k6.2 7 _ (by simp only [List.mem_cons, List.not_mem_nil, or_false]; omega) G5_7
        have G6_8 := k6.2 8 _ (by simp only [List.mem_cons, List.not_mem_nil, or_false]; omega) G5_8
        have G6_9 := k6.2 9 _ (by simp only [List.mem_cons, List.not_mem_nil, or_false]; omega) G5_9
        have G6_10 := k6.2 10 _ (by simp only [List.mem_cons, List.not_mem_nil, or_false]; omega) G5_10
        have G6_11 := k6.2 11 _ (by simp only [List.mem_cons, List.not_mem_nil, or_false]; omega) G5_11
        have G6_12 := k6.2 14 _ (by simp only [List.mem_cons, List.not_mem_nil, or_false]; omega) G5_12
        have G6_13 := k6.2 qf _ (by simp only [List.mem_cons, List.not_mem_nil, or_false]; omega) G5_13
        have G6_14 := k6.2 qr _ (by simp only [List.mem_cons, List.not_mem_nil, or_false]; omega) G5_14
        have G6_15 := k6.2 pn_1 _ (by simp only [List.mem_cons, List.not_mem_nil, or_false]; omega) G5_15
        have G6_16 := k6.2 pn_4_0 _ (by simp only [List.mem_cons, List.not_mem_nil, or_false]; omega) G5_16
        obtain ⟨pn_6_0, hpn_6_0⟩ : ∃ z : Nat, z = ws_5.length + 0 := ⟨_, rfl⟩
        rw [← hpn_6_0] at N6_0
        obtain ⟨pn_6_1, hpn_6_1⟩ : ∃ z : Nat, z = ws_5.length + 1 := ⟨_, rfl⟩
        rw [← hpn_6_1] at N6_1
        refine W.eq (g2 := F0 m 507 ls [.int (nI nr)]) (congrArg (fun z9 : Int32 => F0 m 507 ls [.int z9]) (show (r504 : Int32) = nI nr from e_r504.2)) ?_
        refine lv_aload_n hx hb dL_act_507 rfl (lv_at hl 3 rfl) ?_
        refine z_get (C := RX7) (T := TX7) (N := 8) (ci := 8) (v := .ref nq_4) X J hi_X7 11 G6_11 rfl 1 (by decide) (by decide +kernel) rfl dL_act_508 ?_
        refine z_alenA (v := nI (nr + 1)) X J pn_4_0 G6_16 rfl dL_act_511 ?_
        refine lv_iconst (v := 1) hx hb dL_act_512 (by decide) ?_
        refine lv_isub hx hb dL_act_513 ?_
        refine W.eq (g2 := F0 m 514 ls [.int (nI nr), .int (nI nr)]) (congrArg (fun z9 : Int32 => F0 m 514 ls [.int z9, .int (nI nr)]) (show ((nI (nr + 1)) - 1 : Int32) = nI nr from (nI_sub1 (Nat.succ_pos _)))) ?_
        refine lv_icmp_ne (tgt := 521) hx hb dL_act_514 (by decide) (fun cz514 => by exact (cz514 rfl).elim) (fun cz514 => ?_)
        refine lv_iconst (v := 1) hx hb dL_act_517 (by decide) ?_
        refine lv_goto (tgt := 522) hx hb dL_act_518 (by decide) ?_
        refine W.widen (k := 20) (n := 120) (by omega) (by omega) ?_
        subst hQ
        exact W.zret (v := 1) hx hb hr rfl (fun t ht hW => ⟨⟨1, ws_6, rfl, ⟨hk, ⟨mc1, (mc2 + 1), lim, sup, off, plo, hrs, ea, eb, nf, (nr + 1), fe, qf, nq_4, pn_4_0, fa, (upd rd nr 1), (upd ri nr (nI ix)), sn, t9, hf, gf, g, (wO gq nr q448), G6_0, G6_1, G6_a0, G6_3, G6_4, G6_5, G6_6, G6_7, G6_8, G6_9, G6_10, G6_11, G6_12, G6_13, G6_16, ⟨by omega, by omega⟩, (hF9.keepE k6 hRa.2.1 rfl rfl (hSep.ne2 hJ9 hE1 hRa.2.1) (by intro q9 hq9; simp only [List.mem_cons, List.not_mem_nil, or_false] at hq9; omega)), (RS.add (pf := pn_6_0) (ps := pn_6_1) hRa.1 hRa.2.1 hRa.2.2 k6 (by intro q9 hq9; simp only [List.mem_cons, List.not_mem_nil, or_false] at hq9; omega) G6_a1 (by omega) N6_0 (by omega) N6_1), hSep, (hSE.keepI hk), ((hSR.keepI hk).add G6_15 (by omega) hd9 rfl), hSN, hnf, (by omega), hok, (okR_add hor (Or.inr rfl) (inRk (a := 0) (b := 19) (Nat.zero_le _) (by omega) (by decide))), hRB, hu9, hlm, (Nat.le_trans hln hk.1)⟩, rfl⟩, J.I X ht hW.alike⟩, J.F ht⟩) J.locs dL_act_522
  · refine lv_iconst (v := 1) hx hb dL_act_445 (by decide) ?_
    refine W.widen (k := 20) (n := 120) (by omega) (by omega) ?_
    subst hQ
    exact W.zret (v := 1) hx hb hr rfl (fun t ht hW => ⟨⟨1, ws, rfl, ⟨hk, ⟨mc1, mc2, lim, sup, off, plo, hrs, ea, eb, nf, nr, fe, qf, ro, qr, fa, rd, ri, sn, t9, hf, gf, g, gq, Fa0, Fa1, Fa2, Fa3, Fa4, Fa5, Fa6, Fa7, Fa8, Fa9, Fa10, Fa11, Fa12, Fa13, Fa14, ⟨by omega, by omega⟩, hF, hR, hSep, (hSE.keepI hk), (hSR.keepI hk), hSN, hnf, hnr, hok, hor, hRB, hu9, hlm, (Nat.le_trans hln hk.1)⟩, rfl⟩, J.I X ht hW.alike⟩, J.F ht⟩) J.locs dL_act_446
