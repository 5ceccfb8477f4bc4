set_option maxHeartbeats 400000 in
set_option maxRecDepth 100000 in
theorem cX7_tried_ok (l : Launch) (E : zG) {ws : va_W} {qz z fe ro sa : Nat} {lim sup off plo hrs : Int32} {qs b : Nat} {gs : Nat → Option Nat} {sn : Nat → Int32} {qf nf : Nat} {g : Nat → Option Nat} {fa : Nat → Int32} {qr nr : Nat} {gr : Nat → Option Nat} {rd ri : Nat → Int32} {fe2 : Nat} {wd stg : Int32} (Fa0 : ws[qz]? = some (z, .inr (8, [.ref fe, .ref ro, .ref sa, .int lim, .int sup, .int off, .int plo, .int hrs]))) (Fa1 : ws[qs]? = some (sa, zA4 E 20 gs)) (Fa2 : ws[qf]? = some (fe2, zA4 E nf g)) (Fa3 : ws[qr]? = some (ro, zA4 E nr gr)) (hSN : SN E ws b gs sn) (hSE : SE E ws g nf fa) (hnf : nf ≤ 11) (hok : ∀ j, j < nf → okF fa j) (hSR : SR E ws gr nr rd ri) (hnr : nr ≤ 4) (hor : ∀ q, q < nr → okR rd ri q) (hwd : wd = 0 ∨ wd = 1 ∨ wd = 2 ∨ wd = 3) (hRB : RB 200 sn) (hs9 : BI 1 9 stg) (hu9 : BI 0 40 sup) : Met l yX7_tried wsX7_tried ({ frames := 4, cells := 6684, slots := 13628, locals := 100 } : Room) (va_Pc [.ref z, .ref fe2, .int wd, .int stg] (zI E ws)) (va_Qi (fun (r : Int32) (ws' : va_W) => (zK [] ws ws') ∧ (r = allB (hsS stg sup (hgS fa (-1) nf).1 (hgS fa (-1) nf).2 wd sn 4).2.1 rd ri lim nr)) (zI E) (zA E)) 6684 13628 (zA E) := by
  refine Met.ofW (cc := cX7_tried) (maxL := 5) (ret := (some .int)) (by decide) rfl ?_
  intro p e s m args below meth c s₁ B hml hv
  obtain ⟨hargs9, hI⟩ := hv
  have hx := B.exec
  have hb := B.bytes
  have hr := B.returns
  have hlocks := B.notSynchronized
  have X : zC E p m c cX7_tried 5 s args wsX7_tried RX7 := z_open B hml hI
  have hown := X.1.2.2.2.1
  have hts := X.1.2.2.2.2
  have J := hI.J
  have hi_X7 : ∀ w ∈ wsX70, w ∈ wsX7_tried := by decide +kernel
  have n0_1 : qz ≠ qs := zneK Fa0 Fa1 rfl
  have n0_2 : qz ≠ qf := zneK Fa0 Fa2 rfl
  have n0_3 : qz ≠ qr := zneK Fa0 Fa3 rfl
  have hk : zK [] ws ws := zK.rf
  have hl := lv_entry ([.ref z, .ref fe2, .int wd, .int stg]) (n := 5) (Nat.le_of_ble_eq_true rfl)
  rw [show entryFrame m args 5 = entryFrame m ([.ref z, .ref fe2, .int wd, .int stg] : List Value).toArray 5 from by rw [hargs9], lg_entry_eq]
  generalize (lg_sl ([.ref z, .ref fe2, .int wd, .int stg]) ++ List.replicate (5 - (lg_sl ([.ref z, .ref fe2, .int wd, .int stg])).length) Slot.unset).toArray = ls at hl ⊢
  have hl : lv_has ls 5 [(0, .ref z), (1, .ref fe2), (2, .int wd), (3, .int stg)] := hl
  have hbl := hSN.len
  have hhR := hgS_RB (wo := -1) nf hok
  have bq0 := zlt Fa0
  have bq1 := zlt Fa1
  have bq2 := zlt Fa2
  have bq3 := zlt Fa3
  generalize hQ : (MQ below (va_Qi (fun (r : Int32) (ws' : va_W) => (zK [] ws ws') ∧ (r = allB (hsS stg sup (hgS fa (-1) nf).1 (hgS fa (-1) nf).2 wd sn 4).2.1 rd ri lim nr)) (zI E) (zA E)) args s 6684 13628 (zA E)) = QQ
  refine lv_aload_n hx hb dX7_tried_0 rfl (lv_at hl 0 rfl) ?_
  refine z_cq J (z_rV (As := []) (rest := []) (ci := 8) (q0 := qz) X J (cX7_copy_ok l E Fa0 Fa1 (by first | assumption | omega | decide)) (cwV 0 hts gX7_tried_X7_copy rfl rfl rfl (by decide +kernel) ⟨Nat.le_of_ble_eq_true rfl, Nat.le_of_ble_eq_true rfl⟩) Fa0 rfl rfl rfl hl.1 rfl (Nat.le_of_ble_eq_true rfl) dX7_tried_1 ⟨Nat.le_of_ble_eq_true rfl, Nat.le_of_ble_eq_true rfl⟩) (fun r1 ws_1 H locs hp9 J => ?_)
  obtain ⟨k1, ⟨c9_1, pc9_1, sa9_1, qs9_1, b9_1, gs9_1, G1_a0, G1_a1, hSN2_1, hpc_1, hqs_1, hb_1, e_r1⟩⟩ := hp9
  have hSE := hSE.keep k1 (fun _ _ _ _ _ => List.not_mem_nil)
  have hSR := hSR.keep k1 (fun _ _ _ _ _ => List.not_mem_nil)
  have hSN := hSN2_1
  have hk := hk.trans (k1.mono (fun q9 hq9 => absurd hq9 List.not_mem_nil))
  have G1_0 := k1.2 qz _ List.not_mem_nil Fa0
  have G1_1 := k1.2 qs _ List.not_mem_nil Fa1
  have G1_2 := k1.2 qf _ List.not_mem_nil Fa2
  have G1_3 := k1.2 qr _ List.not_mem_nil Fa3
  subst e_r1
  refine W.eq (g2 := F0 m 4 ls [.ref c9_1]) rfl ?_
  refine lv_astore (lv' := [(4, .ref c9_1), (0, .ref z), (1, .ref fe2), (2, .int wd), (3, .int stg)]) hx hb dX7_tried_4 hl (by decide) rfl (fun ls hl => ?_)
  have zc1 := zneK G1_a0 G1_a1 rfl
  have hn1 := hSN.no G1_a0 rfl
  have hn2 := hSN.no G1_a1 rfl
  have hbl2 := hSN.len
  refine lv_aload hx hb dX7_tried_6 (lv_at hl 0 rfl) ?_
  refine lv_aload_n hx hb dX7_tried_8 rfl (lv_at hl 2 rfl) ?_
  refine z_put (C := RX7) (T := TX7) (N := 8) (ci := 8) (v := .ref fe2) X J hi_X7 tyX7 tyX7_ok nmX7 pc9_1 G1_a0 rfl 0 (by decide) (by decide +kernel) rfl rfl rfl (Nat.le_of_ble_eq_true rfl) dX7_tried_9 (fun H locs J => ?_)
  have J : zJ E (ws_1.set pc9_1 (c9_1, .inr (8, [.ref fe2, .ref ro, .ref sa9_1, .int lim, .int sup, .int 0, .int 0, .int 0]))) s H locs := J
  have hSE := hSE.keep (zK.set (S := [pc9_1]) (ws := ws_1) (q := pc9_1) (e := (c9_1, .inr (8, [.ref fe2, .ref ro, .ref sa9_1, .int lim, .int sup, .int 0, .int 0, .int 0]))) (List.mem_singleton.mpr rfl)) (fun q9 a9 f9 h8 h9 => by have z9_0 := zneK h9 G1_a0 rfl; simp only [List.mem_cons, rg_mem, List.not_mem_nil, or_false, not_or]; omega)
  have hSR := hSR.keep (zK.set (S := [pc9_1]) (ws := ws_1) (q := pc9_1) (e := (c9_1, .inr (8, [.ref fe2, .ref ro, .ref sa9_1, .int lim, .int sup, .int 0, .int 0, .int 0]))) (List.mem_singleton.mpr rfl)) (fun q9 a9 f9 h8 h9 => by have z9_0 := zneK h9 G1_a0 rfl; simp only [List.mem_cons, rg_mem, List.not_mem_nil, or_false, not_or]; omega)
  have hSN := hSN.keep (zK.set (S := [pc9_1]) (ws := ws_1) (q := pc9_1) (e := (c9_1, .inr (8, [.ref fe2, .ref ro, .ref sa9_1, .int lim, .int sup, .int 0, .int 0, .int 0]))) (List.mem_singleton.mpr rfl)) (fun r9 hr9 => by simp only [List.mem_cons, rg_mem, List.not_mem_nil, or_false, not_or]; omega)
  have hk := hk.setNew (q := pc9_1) (e := (c9_1, .inr (8, [.ref fe2, .ref ro, .ref sa9_1, .int lim, .int sup, .int 0, .int 0, .int 0]))) (by omega)
  have G2_0 := zset_ne (q := pc9_1) (e' := (c9_1, .inr (8, [.ref fe2, .ref ro, .ref sa9_1, .int lim, .int sup, .int 0, .int 0, .int 0]))) (by omega) G1_0
  have G2_1 := zset_ne (q := pc9_1) (e' := (c9_1, .inr (8, [.ref fe2, .ref ro, .ref sa9_1, .int lim, .int sup, .int 0, .int 0, .int 0]))) (by omega) G1_1
  have G2_2 := zset_ne (q := pc9_1) (e' := (c9_1, .inr (8, [.ref fe2, .ref ro, .ref sa9_1, .int lim, .int sup, .int 0, .int 0, .int 0]))) (by omega) G1_2
  have G2_3 := zset_ne (q := pc9_1) (e' := (c9_1, .inr (8, [.ref fe2, .ref ro, .ref sa9_1, .int lim, .int sup, .int 0, .int 0, .int 0]))) (by omega) G1_3
  have G2_4 := zset_eq (e' := (c9_1, .inr (8, [.ref fe2, .ref ro, .ref sa9_1, .int lim, .int sup, .int 0, .int 0, .int 0]))) G1_a0
  have G2_5 := zset_ne (q := pc9_1) (e' := (c9_1, .inr (8, [.ref fe2, .ref ro, .ref sa9_1, .int lim, .int sup, .int 0, .int 0, .int 0]))) (by omega) G1_a1
  generalize hws2 : (ws_1.set pc9_1 (c9_1, .inr (8, [.ref fe2, .ref ro, .ref sa9_1, .int lim, .int sup, .int 0, .int 0, .int 0]))) = ws_2 at J hk G2_0 G2_1 G2_2 G2_3 G2_4 G2_5 hSE hSR hSN
  refine lv_aload hx hb dX7_tried_12 (lv_at hl 0 rfl) ?_
  refine lv_iload_n hx hb dX7_tried_14 rfl (lv_at hl 3 rfl) ?_
  refine lv_iload_n hx hb dX7_tried_15 rfl (lv_at hl 4 rfl) ?_
  refine lv_iconst (v := nI 4) hx hb dX7_tried_16 rfl ?_
  refine z_ci J (z_rV (As := [.int wd, .int stg, .int (nI 4)]) (rest := []) (ci := 8) (q0 := pc9_1) X J (cX7_blow_4_ok l E G2_4 G2_5 G2_2 hSN hSE (by first | assumption | omega | decide) (by first | assumption | omega | decide) (by first | assumption | omega | decide) hRB hs9 hu9 (by decide)) (cwV 3 hts gX7_tried_X7_blow rfl rfl rfl (by decide +kernel) ⟨Nat.le_of_ble_eq_true rfl, Nat.le_of_ble_eq_true rfl⟩) G2_4 rfl rfl rfl hl.1 rfl (Nat.le_of_ble_eq_true rfl) dX7_tried_17 ⟨by show _ ≤ 6684; omega, by show _ ≤ 13628; omega⟩) (fun r17 ws_3 H locs hp9 J => ?_)
  obtain ⟨k3, G3_a0, hSN_3, e_r17⟩ := hp9
  have hSE := hSE.keep k3 (fun q9 a9 f9 h8 h9 => by have z9_0 := zneK h9 G2_4 rfl; have z9_1 := hSN.noL h9 (by decide); simp only [List.mem_cons, rg_mem, List.not_mem_nil, or_false, not_or]; omega)
  have hSR := hSR.keep k3 (fun q9 a9 f9 h8 h9 => by have z9_0 := zneK h9 G2_4 rfl; have z9_1 := hSN.noL h9 (by decide); simp only [List.mem_cons, rg_mem, List.not_mem_nil, or_false, not_or]; omega)
  have hSN := hSN_3
  have hk := hk.transN k3 (by intro q9 hq9; simp only [List.mem_cons, rg_mem, List.not_mem_nil, or_false, not_or] at hq9 ⊢; omega)
  have G3_0 := k3.2 qz _ (by simp only [List.mem_cons, rg_mem, List.not_mem_nil, or_false, not_or]; omega) G2_0
  have G3_1 := k3.2 qs _ (by simp only [List.mem_cons, rg_mem, List.not_mem_nil, or_false, not_or]; omega) G2_1
  have G3_2 := k3.2 qf _ (by simp only [List.mem_cons, rg_mem, List.not_mem_nil, or_false, not_or]; omega) G2_2
  have G3_3 := k3.2 qr _ (by simp only [List.mem_cons, rg_mem, List.not_mem_nil, or_false, not_or]; omega) G2_3
  have G3_5 := k3.2 qs9_1 _ (by simp only [List.mem_cons, rg_mem, List.not_mem_nil, or_false, not_or]; omega) G2_5
  subst e_r17
  refine lv_pop hx hb dX7_tried_20 rfl ?_
  refine lv_aload hx hb dX7_tried_21 (lv_at hl 0 rfl) ?_
  refine z_cr (z_rV (As := []) (rest := []) (ci := 8) (q0 := pc9_1) X J (cX7_allBlocked_ok l E G3_a0 G3_5 G3_3 hSN hSR hnr hor) (cwV 0 hts gX7_tried_X7_allBlocked rfl rfl rfl (by decide +kernel) ⟨Nat.le_of_ble_eq_true rfl, Nat.le_of_ble_eq_true rfl⟩) G3_a0 rfl rfl rfl hl.1 rfl (Nat.le_of_ble_eq_true rfl) dX7_tried_23 ⟨Nat.le_of_ble_eq_true rfl, Nat.le_of_ble_eq_true rfl⟩) (fun r23 e_r23 => ?_)
  subst e_r23
  subst hQ
  exact W.iret (v := allB ((hsS stg sup (hgS fa (-1) nf).1 (hgS fa (-1) nf).2 wd sn 4).2.1) rd ri lim nr) hx hb hr (fun t ht hW => ⟨⟨allB ((hsS stg sup (hgS fa (-1) nf).1 (hgS fa (-1) nf).2 wd sn 4).2.1) rd ri lim nr, ws_3, rfl, ⟨hk, rfl⟩, J.I X ht hW.alike⟩, J.F ht⟩) J.locs dX7_tried_26
