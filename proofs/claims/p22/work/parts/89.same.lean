set_option maxHeartbeats 4000000 in
set_option maxRecDepth 100000 in
theorem cX7_isSame_ok (l : Launch) (hflags : l.flags = flags0) (E : zG) {ws : va_W} {x fl rl wh gr gra tr tra sc ha va ea eb nf nr z sa fe qf ro qr : Nat} {mc1 mc2 lim sup off plo hrs : Int32} {fa rd ri sn t9 hf gf : Nat → Int32} {g gq gs : Nat → Option Nat} (Fa0 : ws[0]? = some (x, .inr (7, [.ref fl, .ref rl, .ref wh, .ref gr, .ref tr, .ref sc, .int lim, .int sup, .int off, .int plo, .int hrs]))) (Fa1 : ws[1]? = some (fl, .inr (0, [.int mc1, .ref ea, .int (nI nf)]))) (Fa2 : ws[2]? = some (rl, .inr (0, [.int mc2, .ref eb, .int (nI nr)]))) (Fa3 : ws[3]? = some (wh, .inr (5, [.int (0 * 20 + 0), .int (nI 400), .int 0]))) (Fa4 : ws[4]? = some (gr, .inr (2, [.ref gra]))) (Fa5 : ws[5]? = some (gra, zI4 E 400 sn)) (Fa6 : ws[6]? = some (tr, .inr (2, [.ref tra]))) (Fa7 : ws[7]? = some (tra, zI4 E 400 t9)) (Fa8 : ws[8]? = some (sc, .inr (4, [.ref ha, .ref va]))) (Fa9 : ws[9]? = some (ha, zI4 E 400 hf)) (Fa10 : ws[10]? = some (va, zI4 E 400 gf)) (Fa11 : ws[11]? = some (z, .inr (8, [.ref fe, .ref ro, .ref sa, .int lim, .int sup, .int off, .int plo, .int hrs]))) (Fa12 : ws[14]? = some (sa, zA4 E 20 gs)) (Fa13 : ws[qf]? = some (fe, zA4 E nf g)) (Fa14 : ws[qr]? = some (ro, zA4 E nr gq)) (hql : 11 < qf ∧ 11 < qr) (hF : FS E ws fa ea nf) (hR : RS E ws rd ri eb nr) (hSep : SEP E ea eb) (hSE : SE E ws g nf fa) (hSR : SR E ws gq nr rd ri) (hSN : SN E ws 15 gs sn) (hnf : nf ≤ 10) (hnr : nr ≤ 4) (hok : ∀ j, j < nf → okF fa j) (hor : ∀ q, q < nr → okR rd ri q) (hRB : RB 200 sn) (hu9 : BI 0 40 sup) (hlm : BI 1 60 lim) (hln : 35 ≤ ws.length) (hE1 : ¬ zA E E.2.2.1) : Met l yX7_isSame wsX7_isSame ({ frames := 8, cells := 3010, slots := 20100, locals := 126 } : Room) (va_Pc [.ref z, .ref x] (zY E ws)) (va_Qi (fun (r : Int32) (ws' : va_W) => (zKi E ws ws') ∧ (r = 1)) (zI E) (zA E)) 3010 20100 (zA E) := by
  refine Met.ofW (cc := cX7_isSame) (maxL := 9) (ret := (some .boolean)) (by decide) rfl ?_
  intro p e s m args below meth c s₁ B hml hv
  obtain ⟨hargs9, hI, hRz⟩ := hv
  have hx := B.exec
  have hb := B.bytes
  have hr := B.returns
  have hlocks := B.notSynchronized
  have X : zC E p m c cX7_isSame 9 s args wsX7_isSame RX7 := z_open B hml hI
  have hown := X.1.2.2.2.1
  have hts := X.1.2.2.2.2
  have J := hI.J
  have hi_X7 : ∀ w ∈ wsX70, w ∈ wsX7_isSame := by decide +kernel
  have n0_13 : 0 ≠ qf := zneK Fa0 Fa13 rfl
  have n0_14 : 0 ≠ qr := zneK Fa0 Fa14 rfl
  have n1_13 : 1 ≠ qf := zneK Fa1 Fa13 rfl
  have n1_14 : 1 ≠ qr := zneK Fa1 Fa14 rfl
  have n2_13 : 2 ≠ qf := zneK Fa2 Fa13 rfl
  have n2_14 : 2 ≠ qr := zneK Fa2 Fa14 rfl
  have n3_13 : 3 ≠ qf := zneK Fa3 Fa13 rfl
  have n3_14 : 3 ≠ qr := zneK Fa3 Fa14 rfl
  have n4_13 : 4 ≠ qf := zneK Fa4 Fa13 rfl
  have n4_14 : 4 ≠ qr := zneK Fa4 Fa14 rfl
  have n5_13 : 5 ≠ qf := zneK Fa5 Fa13 rfl
  have n5_14 : 5 ≠ qr := zneK Fa5 Fa14 rfl
  have n6_13 : 6 ≠ qf := zneK Fa6 Fa13 rfl
  have n6_14 : 6 ≠ qr := zneK Fa6 Fa14 rfl
  have n7_13 : 7 ≠ qf := zneK Fa7 Fa13 rfl
  have n7_14 : 7 ≠ qr := zneK Fa7 Fa14 rfl
  have n8_13 : 8 ≠ qf := zneK Fa8 Fa13 rfl
  have n8_14 : 8 ≠ qr := zneK Fa8 Fa14 rfl
  have n9_13 : 9 ≠ qf := zneK Fa9 Fa13 rfl
  have n9_14 : 9 ≠ qr := zneK Fa9 Fa14 rfl
  have n10_13 : 10 ≠ qf := zneK Fa10 Fa13 rfl
  have n10_14 : 10 ≠ qr := zneK Fa10 Fa14 rfl
  have n11_13 : 11 ≠ qf := zneK Fa11 Fa13 rfl
  have n11_14 : 11 ≠ qr := zneK Fa11 Fa14 rfl
  have hk : zKi E ws ws := zKi.rf
  have hl := lv_entry ([.ref z, .ref x]) (n := 9) (Nat.le_of_ble_eq_true rfl)
  rw [show entryFrame m args 9 = entryFrame m ([.ref z, .ref x] : List Value).toArray 9 from by rw [hargs9], lg_entry_eq]
  generalize (lg_sl ([.ref z, .ref x]) ++ List.replicate (9 - (lg_sl ([.ref z, .ref x])).length) Slot.unset).toArray = ls at hl ⊢
  have hl : lv_has ls 9 [(0, .ref z), (1, .ref x)] := hl
  obtain ⟨hqf, hqr⟩ := hql
  have hbl := hSN.len
  have bq13 := zlt Fa13
  have bq14 := zlt Fa14
  have nr13 := hSN.no Fa13 rfl
  have nr14 := hSN.no Fa14 rfl
  have hhR := hgS_RB (wo := -1) nf hok
  generalize hQ : (MQ below (va_Qi (fun (r : Int32) (ws' : va_W) => (zKi E ws ws') ∧ (r = 1)) (zI E) (zA E)) args s 3010 20100 (zA E)) = QQ
  refine lv_iconst (v := sumG sn (0 * 20 + 0) 0 (20 * 0)) hx hb dX7_isSame_0 rfl ?_
  refine lv_istore_n (lv' := [(2, .int (sumG sn (0 * 20 + 0) 0 (20 * 0))), (0, .ref z), (1, .ref x)]) hx hb dX7_isSame_1 rfl hl (by decide) rfl (fun ls hl => ?_)
  refine lv_iconst (v := mostG sn (0 * 20 + 0) 0 (20 * 0)) hx hb dX7_isSame_2 rfl ?_
  refine lv_istore_n (lv' := [(3, .int (mostG sn (0 * 20 + 0) 0 (20 * 0))), (2, .int (sumG sn (0 * 20 + 0) 0 (20 * 0))), (0, .ref z), (1, .ref x)]) hx hb dX7_isSame_3 rfl hl (by decide) rfl (fun ls hl => ?_)
  refine lv_iconst (v := nI 0) hx hb dX7_isSame_4 rfl ?_
  refine lv_istore (lv' := [(4, .int (nI 0)), (3, .int (mostG sn (0 * 20 + 0) 0 (20 * 0))), (2, .int (sumG sn (0 * 20 + 0) 0 (20 * 0))), (0, .ref z), (1, .ref x)]) hx hb dX7_isSame_5 hl (by decide) rfl (fun ls hl => ?_)
  have loop_7 : ∀ (k9 r : Nat), r + k9 = 20 → ∀ (wl7 : va_W) (H : Heap) (locs : List Loc) (ls : Array Slot), zKi E ws wl7 → wl7[0]? = some (x, .inr (7, [.ref fl, .ref rl, .ref wh, .ref gr, .ref tr, .ref sc, .int lim, .int sup, .int off, .int plo, .int hrs])) → wl7[1]? = some (fl, .inr (0, [.int mc1, .ref ea, .int (nI nf)])) → wl7[2]? = some (rl, .inr (0, [.int mc2, .ref eb, .int (nI nr)])) → wl7[3]? = some (wh, .inr (5, [.int (0 * 20 + 0), .int (nI 400), .int 0])) → wl7[4]? = some (gr, .inr (2, [.ref gra])) → wl7[5]? = some (gra, zI4 E 400 sn) → wl7[6]? = some (tr, .inr (2, [.ref tra])) → wl7[7]? = some (tra, zI4 E 400 t9) → wl7[8]? = some (sc, .inr (4, [.ref ha, .ref va])) → wl7[9]? = some (ha, zI4 E 400 hf) → wl7[10]? = some (va, zI4 E 400 gf) → wl7[11]? = some (z, .inr (8, [.ref fe, .ref ro, .ref sa, .int lim, .int sup, .int off, .int plo, .int hrs])) → wl7[14]? = some (sa, zA4 E 20 gs) → wl7[qf]? = some (fe, zA4 E nf g) → wl7[qr]? = some (ro, zA4 E nr gq) → FS E wl7 fa ea nf → RS E wl7 rd ri eb nr → SN E wl7 15 gs sn → zJ E wl7 s H locs → lv_has ls 9 [(4, .int (nI r)), (3, .int (mostG sn (0 * 20 + 0) 0 (20 * r))), (2, .int (sumG sn (0 * 20 + 0) 0 (20 * r))), (0, .ref z), (1, .ref x)] → W p l e (headSpec wsX7_isSame ({ frames := 8, cells := 3010, slots := 20100, locals := 126 } : Room)).room s m args below meth c H locs (120 * r) (800 * r) QQ (F0 m 7 ls []) := by
    intro k9
    induction k9 with
    | zero =>
      intro r hik wl7 H locs ls hk L7_0 L7_1 L7_2 L7_3 L7_4 L7_5 L7_6 L7_7 L7_8 L7_9 L7_10 L7_11 L7_12 L7_13 L7_14 hF hR hSN J hl
      obtain rfl : 20 = r := by omega
      refine lv_iload hx hb dX7_isSame_7 (lv_at hl 0 rfl) ?_
      refine lv_bipush (v := nI 20) hx hb dX7_isSame_9 (by decide) ?_
      refine lv_icmp_ge (tgt := 87) hx hb dX7_isSame_11 (by decide) (fun cz11 => ?_) (fun cz11 => by exact (cz11 (nI_le (Nat.le_refl _) (by omega))).elim)
      refine lv_iconst (v := nI 0) hx hb dX7_isSame_87 rfl ?_
      refine lv_istore (lv' := [(4, .int (nI 0)), (3, .int (mostG sn (0 * 20 + 0) 0 (20 * 20))), (2, .int (sumG sn (0 * 20 + 0) 0 (20 * 20))), (0, .ref z), (1, .ref x)]) hx hb dX7_isSame_88 hl (by decide) rfl (fun ls hl => ?_)
      have loop_90 : ∀ (k9 i : Nat), i + k9 = nf → ∀ (wl90 : va_W) (H : Heap) (locs : List Loc) (ls : Array Slot), zKi E ws wl90 → wl90[0]? = some (x, .inr (7, [.ref fl, .ref rl, .ref wh, .ref gr, .ref tr, .ref sc, .int lim, .int sup, .int off, .int plo, .int hrs])) → wl90[1]? = some (fl, .inr (0, [.int mc1, .ref ea, .int (nI nf)])) → wl90[2]? = some (rl, .inr (0, [.int mc2, .ref eb, .int (nI nr)])) → wl90[3]? = some (wh, .inr (5, [.int (0 * 20 + 0), .int (nI 400), .int 0])) → wl90[4]? = some (gr, .inr (2, [.ref gra])) → wl90[5]? = some (gra, zI4 E 400 sn) → wl90[6]? = some (tr, .inr (2, [.ref tra])) → wl90[7]? = some (tra, zI4 E 400 t9) → wl90[8]? = some (sc, .inr (4, [.ref ha, .ref va])) → wl90[9]? = some (ha, zI4 E 400 hf) → wl90[10]? = some (va, zI4 E 400 gf) → wl90[11]? = some (z, .inr (8, [.ref fe, .ref ro, .ref sa, .int lim, .int sup, .int off, .int plo, .int hrs])) → wl90[14]? = some (sa, zA4 E 20 gs) → wl90[qf]? = some (fe, zA4 E nf g) → wl90[qr]? = some (ro, zA4 E nr gq) → FS E wl90 fa ea nf → RS E wl90 rd ri eb nr → SN E wl90 15 gs sn → zJ E wl90 s H locs → lv_has ls 9 [(4, .int (nI i)), (3, .int (mostG sn (0 * 20 + 0) 0 (20 * 20))), (2, .int (sumG sn (0 * 20 + 0) 0 (20 * 20))), (0, .ref z), (1, .ref x)] → W p l e (headSpec wsX7_isSame ({ frames := 8, cells := 3010, slots := 20100, locals := 126 } : Room)).room s m args below meth c H locs (2400 + 42 * i) (16000 + 280 * i) QQ (F0 m 90 ls []) := by
        intro k9
        induction k9 with
        | zero =>
          intro i hik wl90 H locs ls hk L90_0 L90_1 L90_2 L90_3 L90_4 L90_5 L90_6 L90_7 L90_8 L90_9 L90_10 L90_11 L90_12 L90_13 L90_14 hF hR hSN J hl
          obtain rfl : nf = i := by omega
          refine lv_iload hx hb dX7_isSame_90 (lv_at hl 0 rfl) ?_
          refine lv_aload_n hx hb dX7_isSame_92 rfl (lv_at hl 3 rfl) ?_
          refine z_get (C := RX7) (T := TX7) (N := 8) (ci := 8) (v := .ref fe) X J hi_X7 11 L90_11 rfl 0 (by decide) (by decide +kernel) rfl dX7_isSame_93 ?_
          refine z_alenA (v := nI nf) X J qf L90_13 rfl dX7_isSame_96 ?_
          refine lv_icmp_ge (tgt := 230) hx hb dX7_isSame_97 (by decide) (fun cz97 => ?_) (fun cz97 => by exact (cz97 (nI_le (Nat.le_refl _) (by omega))).elim)
          refine lv_iconst (v := nI 0) hx hb dX7_isSame_230 rfl ?_
          refine lv_istore (lv' := [(4, .int (nI 0)), (3, .int (mostG sn (0 * 20 + 0) 0 (20 * 20))), (2, .int (sumG sn (0 * 20 + 0) 0 (20 * 20))), (0, .ref z), (1, .ref x)]) hx hb dX7_isSame_231 hl (by decide) rfl (fun ls hl => ?_)
          refine W.widen (k := 2820 + 31 * 0) (n := 18800 + 205 * 0) (by omega) (by omega) ?_
          have loop_233 : ∀ (k9 q : Nat), q + k9 = nr → ∀ (wl233 : va_W) (H : Heap) (locs : List Loc) (ls : Array Slot), zKi E ws wl233 → wl233[0]? = some (x, .inr (7, [.ref fl, .ref rl, .ref wh, .ref gr, .ref tr, .ref sc, .int lim, .int sup, .int off, .int plo, .int hrs])) → wl233[1]? = some (fl, .inr (0, [.int mc1, .ref ea, .int (nI nf)])) → wl233[2]? = some (rl, .inr (0, [.int mc2, .ref eb, .int (nI nr)])) → wl233[3]? = some (wh, .inr (5, [.int (0 * 20 + 0), .int (nI 400), .int 0])) → wl233[4]? = some (gr, .inr (2, [.ref gra])) → wl233[5]? = some (gra, zI4 E 400 sn) → wl233[6]? = some (tr, .inr (2, [.ref tra])) → wl233[7]? = some (tra, zI4 E 400 t9) → wl233[8]? = some (sc, .inr (4, [.ref ha, .ref va])) → wl233[9]? = some (ha, zI4 E 400 hf) → wl233[10]? = some (va, zI4 E 400 gf) → wl233[11]? = some (z, .inr (8, [.ref fe, .ref ro, .ref sa, .int lim, .int sup, .int off, .int plo, .int hrs])) → wl233[14]? = some (sa, zA4 E 20 gs) → wl233[qf]? = some (fe, zA4 E nf g) → wl233[qr]? = some (ro, zA4 E nr gq) → FS E wl233 fa ea nf → RS E wl233 rd ri eb nr → SN E wl233 15 gs sn → zJ E wl233 s H locs → lv_has ls 9 [(4, .int (nI q)), (3, .int (mostG sn (0 * 20 + 0) 0 (20 * 20))), (2, .int (sumG sn (0 * 20 + 0) 0 (20 * 20))), (0, .ref z), (1, .ref x)] → W p l e (headSpec wsX7_isSame ({ frames := 8, cells := 3010, slots := 20100, locals := 126 } : Room)).room s m args below meth c H locs (2820 + 31 * q) (18800 + 205 * q) QQ (F0 m 233 ls []) := by
            intro k9
            induction k9 with
            | zero =>
              intro q hik wl233 H locs ls hk L233_0 L233_1 L233_2 L233_3 L233_4 L233_5 L233_6 L233_7 L233_8 L233_9 L233_10 L233_11 L233_12 L233_13 L233_14 hF hR hSN J hl
              obtain rfl : nr = q := by omega
              refine lv_iload hx hb dX7_isSame_233 (lv_at hl 0 rfl) ?_
              refine lv_aload_n hx hb dX7_isSame_235 rfl (lv_at hl 3 rfl) ?_
              refine z_get (C := RX7) (T := TX7) (N := 8) (ci := 8) (v := .ref ro) X J hi_X7 11 L233_11 rfl 1 (by decide) (by decide +kernel) rfl dX7_isSame_236 ?_
              refine z_alenA (v := nI nr) X J qr L233_14 rfl dX7_isSame_239 ?_
              refine lv_icmp_ge (tgt := 395) hx hb dX7_isSame_240 (by decide) (fun cz240 => ?_) (fun cz240 => by exact (cz240 (nI_le (Nat.le_refl _) (by omega))).elim)
              refine lv_bipush (v := 10) hx hb dX7_isSame_395 (by decide) ?_
              refine z_newa (N' := 10) X J (by decide +kernel) (by decide) (by decide) (Nat.le_of_ble_eq_true rfl) (by show _ ≤ 3010; omega) (by show _ ≤ 20100; omega) dX7_isSame_397 (fun q397 H J => ?_)
              have hF := hF.keepS (zK.app (S := []) (ws := wl233) (more := [(q397, zI4 E 10 (fun _ => 0))])) (fun q9 hq9 => absurd hq9 List.not_mem_nil)
              have hR := hR.keepS (zK.app (S := []) (ws := wl233) (more := [(q397, zI4 E 10 (fun _ => 0))])) (fun q9 hq9 => absurd hq9 List.not_mem_nil)
              have hSN := hSN.keep (zK.app (S := []) (ws := wl233) (more := [(q397, zI4 E 10 (fun _ => 0))])) (fun _ _ => List.not_mem_nil)
              have lp1 := hk.1
              have hk := hk.step (zK.app (S := []) (ws := wl233) (more := [(q397, zI4 E 10 (fun _ => 0))])) (fun _ _ _ _ _ _ _ => List.not_mem_nil)
              have bG1_0 := zlt L233_0
              have G1_0 := zapp (x := (q397, zI4 E 10 (fun _ => 0))) L233_0
              have bG1_1 := zlt L233_1
              have G1_1 := zapp (x := (q397, zI4 E 10 (fun _ => 0))) L233_1
              have bG1_2 := zlt L233_2
              have G1_2 := zapp (x := (q397, zI4 E 10 (fun _ => 0))) L233_2
              have bG1_3 := zlt L233_3
              have G1_3 := zapp (x := (q397, zI4 E 10 (fun _ => 0))) L233_3
              have bG1_4 := zlt L233_4
              have G1_4 := zapp (x := (q397, zI4 E 10 (fun _ => 0))) L233_4
              have bG1_5 := zlt L233_5
              have G1_5 := zapp (x := (q397, zI4 E 10 (fun _ => 0))) L233_5
              have bG1_6 := zlt L233_6
              have G1_6 := zapp (x := (q397, zI4 E 10 (fun _ => 0))) L233_6
              have bG1_7 := zlt L233_7
              have G1_7 := zapp (x := (q397, zI4 E 10 (fun _ => 0))) L233_7
              have bG1_8 := zlt L233_8
              have G1_8 := zapp (x := (q397, zI4 E 10 (fun _ => 0))) L233_8
              have bG1_9 := zlt L233_9
              have G1_9 := zapp (x := (q397, zI4 E 10 (fun _ => 0))) L233_9
              have bG1_10 := zlt L233_10
              have G1_10 := zapp (x := (q397, zI4 E 10 (fun _ => 0))) L233_10
              have bG1_11 := zlt L233_11
              have G1_11 := zapp (x := (q397, zI4 E 10 (fun _ => 0))) L233_11
              have bG1_12 := zlt L233_12
              have G1_12 := zapp (x := (q397, zI4 E 10 (fun _ => 0))) L233_12
              have bG1_13 := zlt L233_13
              have G1_13 := zapp (x := (q397, zI4 E 10 (fun _ => 0))) L233_13
              have bG1_14 := zlt L233_14
              have G1_14 := zapp (x := (q397, zI4 E 10 (fun _ => 0))) L233_14
              have G1_n := zapp_new (ws := wl233) (x := (q397, zI4 E 10 (fun _ => 0)))
              generalize hws1 : wl233 ++ [(q397, zI4 E 10 (fun _ => 0))] = ws_1 at J hk G1_0 G1_1 G1_2 G1_3 G1_4 G1_5 G1_6 G1_7 G1_8 G1_9 G1_10 G1_11 G1_12 G1_13 G1_14 hF hR hSN G1_n
              generalize hpn1 : wl233.length = pn_1 at G1_n lp1 bG1_0 bG1_1 bG1_2 bG1_3 bG1_4 bG1_5 bG1_6 bG1_7 bG1_8 bG1_9 bG1_10 bG1_11 bG1_12 bG1_13 bG1_14
              refine lv_dup hx hb dX7_isSame_399 rfl ?_
              refine lv_iconst (v := nI 0) hx hb dX7_isSame_400 rfl ?_
              refine lv_aload_n hx hb dX7_isSame_401 rfl (lv_at hl 3 rfl) ?_
              refine z_get (C := RX7) (T := TX7) (N := 8) (ci := 8) (v := .ref fe) X J hi_X7 11 G1_11 rfl 0 (by decide) (by decide +kernel) rfl dX7_isSame_402 ?_
              refine z_alenA (v := nI nf) X J qf G1_13 rfl dX7_isSame_405 ?_
              refine z_iast X J pn_1 G1_n (vp_in_nI (by omega) (by first | decide | omega)) dX7_isSame_406 (fun H locs J => ?_)
              rw [show upd (fun _ => 0) (nI 0).toNatClampNeg (nI nf) = upd (fun _ => 0) 0 (nI nf) from (by rw [nI_clamp (by omega)])] at J
              have hF := hF.keepS (zK.set (S := [pn_1]) (ws := ws_1) (q := pn_1) (e := (q397, zI4 E 10 (upd (fun _ => 0) 0 (nI nf)))) (List.mem_singleton.mpr rfl)) (fun q9 hq9 => Or.inr ⟨_, _, (List.mem_singleton.mp hq9).symm ▸ G1_n, noL_I⟩)
              have hR := hR.keepS (zK.set (S := [pn_1]) (ws := ws_1) (q := pn_1) (e := (q397, zI4 E 10 (upd (fun _ => 0) 0 (nI nf)))) (List.mem_singleton.mpr rfl)) (fun q9 hq9 => Or.inr ⟨_, _, (List.mem_singleton.mp hq9).symm ▸ G1_n, noL_I⟩)
              have hSN := hSN.keep (zK.set (S := [pn_1]) (ws := ws_1) (q := pn_1) (e := (q397, zI4 E 10 (upd (fun _ => 0) 0 (nI nf)))) (List.mem_singleton.mpr rfl)) (fun r9 hr9 => by simp only [List.mem_cons, rg_mem, List.not_mem_nil, or_false, not_or]; omega)
              have hk := hk.step (zK.set (S := [pn_1]) (ws := ws_1) (q := pn_1) (e := (q397, zI4 E 10 (upd (fun _ => 0) 0 (nI nf)))) (List.mem_singleton.mpr rfl)) (fun q9 a9 n9 f9 h8 h7 h9 => by simp only [List.mem_cons, rg_mem, List.not_mem_nil, or_false, not_or]; omega)
              have G2_0 := zset_ne (q := pn_1) (e' := (q397, zI4 E 10 (upd (fun _ => 0) 0 (nI nf)))) (by omega) G1_0
              have G2_1 := zset_ne (q := pn_1) (e' := (q397, zI4 E 10 (upd (fun _ => 0) 0 (nI nf)))) (by omega) G1_1
              have G2_2 := zset_ne (q := pn_1) (e' := (q397, zI4 E 10 (upd (fun _ => 0) 0 (nI nf)))) (by omega) G1_2
              have G2_3 := zset_ne (q := pn_1) (e' := (q397, zI4 E 10 (upd (fun _ => 0) 0 (nI nf)))) (by omega) G1_3
              have G2_4 := zset_ne (q := pn_1) (e' := (q397, zI4 E 10 (upd (fun _ => 0) 0 (nI nf)))) (by omega) G1_4
              have G2_5 := zset_ne (q := pn_1) (e' := (q397, zI4 E 10 (upd (fun _ => 0) 0 (nI nf)))) (by omega) G1_5
              have G2_6 := zset_ne (q := pn_1) (e' := (q397, zI4 E 10 (upd (fun _ => 0) 0 (nI nf)))) (by omega) G1_6
              have G2_7 := zset_ne (q := pn_1) (e' := (q397, zI4 E 10 (upd (fun _ => 0) 0 (nI nf)))) (by omega) G1_7
              have G2_8 := zset_ne (q := pn_1) (e' := (q397, zI4 E 10 (upd (fun _ => 0) 0 (nI nf)))) (by omega) G1_8
              have G2_9 := zset_ne (q := pn_1) (e' := (q397, zI4 E 10 (upd (fun _ => 0) 0 (nI nf)))) (by omega) G1_9
              have G2_10 := zset_ne (q := pn_1) (e' := (q397, zI4 E 10 (upd (fun _ => 0) 0 (nI nf)))) (by omega) G1_10
              have G2_11 := zset_ne (q := pn_1) (e' := (q397, zI4 E 10 (upd (fun _ => 0) 0 (nI nf)))) (by omega) G1_11
              have G2_12 := zset_ne (q := pn_1) (e' := (q397, zI4 E 10 (upd (fun _ => 0) 0 (nI nf)))) (by omega) G1_12
              have G2_13 := zset_ne (q := pn_1) (e' := (q397, zI4 E 10 (upd (fun _ => 0) 0 (nI nf)))) (by omega) G1_13
              have G2_14 := zset_ne (q := pn_1) (e' := (q397, zI4 E 10 (upd (fun _ => 0) 0 (nI nf)))) (by omega) G1_14
              have G2_15 := zset_eq (e' := (q397, zI4 E 10 (upd (fun _ => 0) 0 (nI nf)))) G1_n
              generalize hws2 : (ws_1.set pn_1 (q397, zI4 E 10 (upd (fun _ => 0) 0 (nI nf)))) = ws_2 at J hk G2_0 G2_1 G2_2 G2_3 G2_4 G2_5 G2_6 G2_7 G2_8 G2_9 G2_10 G2_11 G2_12 G2_13 G2_14 G2_15 hF hR hSN
              refine lv_dup hx hb dX7_isSame_407 rfl ?_
              refine lv_iconst (v := nI 1) hx hb dX7_isSame_408 rfl ?_
              refine lv_aload_n hx hb dX7_isSame_409 rfl (lv_at hl 3 rfl) ?_
              refine z_get (C := RX7) (T := TX7) (N := 8) (ci := 8) (v := .ref ro) X J hi_X7 11 G2_11 rfl 1 (by decide) (by decide +kernel) rfl dX7_isSame_410 ?_
              refine z_alenA (v := nI nr) X J qr G2_14 rfl dX7_isSame_413 ?_
              refine z_iast X J pn_1 G2_15 (vp_in_nI (by omega) (by first | decide | omega)) dX7_isSame_414 (fun H locs J => ?_)
              rw [show upd (upd (fun _ => 0) 0 (nI nf)) (nI 1).toNatClampNeg (nI nr) = upd (upd (fun _ => 0) 0 (nI nf)) 1 (nI nr) from (by rw [nI_clamp (by omega)])] at J
              have hF := hF.keepS (zK.set (S := [pn_1]) (ws := ws_2) (q := pn_1) (e := (q397, zI4 E 10 (upd (upd (fun _ => 0) 0 (nI nf)) 1 (nI nr)))) (List.mem_singleton.mpr rfl)) (fun q9 hq9 => Or.inr ⟨_, _, (List.mem_singleton.mp hq9).symm ▸ G2_15, noL_I⟩)
              have hR := hR.keepS (zK.set (S := [pn_1]) (ws := ws_2) (q := pn_1) (e := (q397, zI4 E 10 (upd (upd (fun _ => 0) 0 (nI nf)) 1 (nI nr)))) (List.mem_singleton.mpr rfl)) (fun q9 hq9 => Or.inr ⟨_, _, (List.mem_singleton.mp hq9).symm ▸ G2_15, noL_I⟩)
              have hSN := hSN.keep (zK.set (S := [pn_1]) (ws := ws_2) (q := pn_1) (e := (q397, zI4 E 10 (upd (upd (fun _ => 0) 0 (nI nf)) 1 (nI nr)))) (List.mem_singleton.mpr rfl)) (fun r9 hr9 => by simp only [List.mem_cons, rg_mem, List.not_mem_nil, or_false, not_or]; omega)
              have hk := hk.step (zK.set (S := [pn_1]) (ws := ws_2) (q := pn_1) (e := (q397, zI4 E 10 (upd (upd (fun _ => 0) 0 (nI nf)) 1 (nI nr)))) (List.mem_singleton.mpr rfl)) (fun q9 a9 n9 f9 h8 h7 h9 => by simp only [List.mem_cons, rg_mem, List.not_mem_nil, or_false, not_or]; omega)
              have G3_0 := zset_ne (q := pn_1) (e' := (q397, zI4 E 10 (upd (upd (fun _ => 0) 0 (nI nf)) 1 (nI nr)))) (by omega) G2_0
              have G3_1 := zset_ne (q := pn_1) (e' := (q397, zI4 E 10 (upd (upd (fun _ => 0) 0 (nI nf)) 1 (nI nr)))) (by omega) G2_1
              have G3_2 := zset_ne (q := pn_1) (e' := (q397, zI4 E 10 (upd (upd (fun _ => 0) 0 (nI nf)) 1 (nI nr)))) (by omega) G2_2
              have G3_3 := zset_ne (q := pn_1) (e' := (q397, zI4 E 10 (upd (upd (fun _ => 0) 0 (nI nf)) 1 (nI nr)))) (by omega) G2_3
              have G3_4 := zset_ne (q := pn_1) (e' := (q397, zI4 E 10 (upd (upd (fun _ => 0) 0 (nI nf)) 1 (nI nr)))) (by omega) G2_4
              have G3_5 := zset_ne (q := pn_1) (e' := (q397, zI4 E 10 (upd (upd (fun _ => 0) 0 (nI nf)) 1 (nI nr)))) (by omega) G2_5
              have G3_6 := zset_ne (q := pn_1) (e' := (q397, zI4 E 10 (upd (upd (fun _ => 0) 0 (nI nf)) 1 (nI nr)))) (by omega) G2_6
              have G3_7 := zset_ne (q := pn_1) (e' := (q397, zI4 E 10 (upd (upd (fun _ => 0) 0 (nI nf)) 1 (nI nr)))) (by omega) G2_7
              have G3_8 := zset_ne (q := pn_1) (e' := (q397, zI4 E 10 (upd (upd (fun _ => 0) 0 (nI nf)) 1 (nI nr)))) (by omega) G2_8
              have G3_9 := zset_ne (q := pn_1) (e' := (q397, zI4 E 10 (upd (upd (fun _ => 0) 0 (nI nf)) 1 (nI nr)))) (by omega) G2_9
              have G3_10 := zset_ne (q := pn_1) (e' := (q397, zI4 E 10 (upd (upd (fun _ => 0) 0 (nI nf)) 1 (nI nr)))) (by omega) G2_10
              have G3_11 := zset_ne (q := pn_1) (e' := (q397, zI4 E 10 (upd (upd (fun _ => 0) 0 (nI nf)) 1 (nI nr)))) (by omega) G2_11
              have G3_12 := zset_ne (q := pn_1) (e' := (q397, zI4 E 10 (upd (upd (fun _ => 0) 0 (nI nf)) 1 (nI nr)))) (by omega) G2_12
              have G3_13 := zset_ne (q := pn_1) (e' := (q397, zI4 E 10 (upd (upd (fun _ => 0) 0 (nI nf)) 1 (nI nr)))) (by omega) G2_13
              have G3_14 := zset_ne (q := pn_1) (e' := (q397, zI4 E 10 (upd (upd (fun _ => 0) 0 (nI nf)) 1 (nI nr)))) (by omega) G2_14
              have G3_15 := zset_eq (e' := (q397, zI4 E 10 (upd (upd (fun _ => 0) 0 (nI nf)) 1 (nI nr)))) G2_15
              generalize hws3 : (ws_2.set pn_1 (q397, zI4 E 10 (upd (upd (fun _ => 0) 0 (nI nf)) 1 (nI nr)))) = ws_3 at J hk G3_0 G3_1 G3_2 G3_3 G3_4 G3_5 G3_6 G3_7 G3_8 G3_9 G3_10 G3_11 G3_12 G3_13 G3_14 G3_15 hF hR hSN
              refine lv_dup hx hb dX7_isSame_415 rfl ?_
              refine lv_iconst (v := nI 2) hx hb dX7_isSame_416 rfl ?_
              refine lv_iload_n hx hb dX7_isSame_417 rfl (lv_at hl 2 rfl) ?_
              refine z_iast X J pn_1 G3_15 (vp_in_nI (by omega) (by first | decide | omega)) dX7_isSame_418 (fun H locs J => ?_)
              rw [show upd (upd (upd (fun _ => 0) 0 (nI nf)) 1 (nI nr)) (nI 2).toNatClampNeg (sumG sn (0 * 20 + 0) 0 (20 * 20)) = upd (upd (upd (fun _ => 0) 0 (nI nf)) 1 (nI nr)) 2 (sumG sn (0 * 20 + 0) 0 (20 * 20)) from (by rw [nI_clamp (by omega)])] at J
              have hF := hF.keepS (zK.set (S := [pn_1]) (ws := ws_3) (q := pn_1) (e := (q397, zI4 E 10 (upd (upd (upd (fun _ => 0) 0 (nI nf)) 1 (nI nr)) 2 (sumG sn (0 * 20 + 0) 0 (20 * 20))))) (List.mem_singleton.mpr rfl)) (fun q9 hq9 => Or.inr ⟨_, _, (List.mem_singleton.mp hq9).symm ▸ G3_15, noL_I⟩)
              have hR := hR.keepS (zK.set (S := [pn_1]) (ws := ws_3) (q := pn_1) (e := (q397, zI4 E 10 (upd (upd (upd (fun _ => 0) 0 (nI nf)) 1 (nI nr)) 2 (sumG sn (0 * 20 + 0) 0 (20 * 20))))) (List.mem_singleton.mpr rfl)) (fun q9 hq9 => Or.inr ⟨_, _, (List.mem_singleton.mp hq9).symm ▸ G3_15, noL_I⟩)
              have hSN := hSN.keep (zK.set (S := [pn_1]) (ws := ws_3) (q := pn_1) (e := (q397, zI4 E 10 (upd (upd (upd (fun _ => 0) 0 (nI nf)) 1 (nI nr)) 2 (sumG sn (0 * 20 + 0) 0 (20 * 20))))) (List.mem_singleton.mpr rfl)) (fun r9 hr9 => by simp only [List.mem_cons, rg_mem, List.not_mem_nil, or_false, not_or]; omega)
              have hk := hk.step (zK.set (S := [pn_1]) (ws := ws_3) (q := pn_1) (e := (q397, zI4 E 10 (upd (upd (upd (fun _ => 0) 0 (nI nf)) 1 (nI nr)) 2 (sumG sn (0 * 20 + 0) 0 (20 * 20))))) (List.mem_singleton.mpr rfl)) (fun q9 a9 n9 f9 h8 h7 h9 => by simp only [List.mem_cons, rg_mem, List.not_mem_nil, or_false, not_or]; omega)
              have G4_0 := zset_ne (q := pn_1) (e' := (q397, zI4 E 10 (upd (upd (upd (fun _ => 0) 0 (nI nf)) 1 (nI nr)) 2 (sumG sn (0 * 20 + 0) 0 (20 * 20))))) (by omega) G3_0
              have G4_1 := zset_ne (q := pn_1) (e' := (q397, zI4 E 10 (upd (upd (upd (fun _ => 0) 0 (nI nf)) 1 (nI nr)) 2 (sumG sn (0 * 20 + 0) 0 (20 * 20))))) (by omega) G3_1
              have G4_2 := zset_ne (q := pn_1) (e' := (q397, zI4 E 10 (upd (upd (upd (fun _ => 0) 0 (nI nf)) 1 (nI nr)) 2 (sumG sn (0 * 20 + 0) 0 (20 * 20))))) (by omega) G3_2
              have G4_3 := zset_ne (q := pn_1) (e' := (q397, zI4 E 10 (upd (upd (upd (fun _ => 0) 0 (nI nf)) 1 (nI nr)) 2 (sumG sn (0 * 20 + 0) 0 (20 * 20))))) (by omega) G3_3
              have G4_4 := zset_ne (q := pn_1) (e' := (q397, zI4 E 10 (upd (upd (upd (fun _ => 0) 0 (nI nf)) 1 (nI nr)) 2 (sumG sn (0 * 20 + 0) 0 (20 * 20))))) (by omega) G3_4
              have G4_5 := zset_ne (q := pn_1) (e' := (q397, zI4 E 10 (upd (upd (upd (fun _ => 0) 0 (nI nf)) 1 (nI nr)) 2 (sumG sn (0 * 20 + 0) 0 (20 * 20))))) (by omega) G3_5
              have G4_6 := zset_ne (q := pn_1) (e' := (q397, zI4 E 10 (upd (upd (upd (fun _ => 0) 0 (nI nf)) 1 (nI nr)) 2 (sumG sn (0 * 20 + 0) 0 (20 * 20))))) (by omega) G3_6
              have G4_7 := zset_ne (q := pn_1) (e' := (q397, zI4 E 10 (upd (upd (upd (fun _ => 0) 0 (nI nf)) 1 (nI nr)) 2 (sumG sn (0 * 20 + 0) 0 (20 * 20))))) (by omega) G3_7
              have G4_8 := zset_ne (q := pn_1) (e' := (q397, zI4 E 10 (upd (upd (upd (fun _ => 0) 0 (nI nf)) 1 (nI nr)) 2 (sumG sn (0 * 20 + 0) 0 (20 * 20))))) (by omega) G3_8
              have G4_9 := zset_ne (q := pn_1) (e' := (q397, zI4 E 10 (upd (upd (upd (fun _ => 0) 0 (nI nf)) 1 (nI nr)) 2 (sumG sn (0 * 20 + 0) 0 (20 * 20))))) (by omega) G3_9
              have G4_10 := zset_ne (q := pn_1) (e' := (q397, zI4 E 10 (upd (upd (upd (fun _ => 0) 0 (nI nf)) 1 (nI nr)) 2 (sumG sn (0 * 20 + 0) 0 (20 * 20))))) (by omega) G3_10
              have G4_11 := zset_ne (q := pn_1) (e' := (q397, zI4 E 10 (upd (upd (upd (fun _ => 0) 0 (nI nf)) 1 (nI nr)) 2 (sumG sn (0 * 20 + 0) 0 (20 * 20))))) (by omega) G3_11
              have G4_12 := zset_ne (q := pn_1) (e' := (q397, zI4 E 10 (upd (upd (upd (fun _ => 0) 0 (nI nf)) 1 (nI nr)) 2 (sumG sn (0 * 20 + 0) 0 (20 * 20))))) (by omega) G3_12
              have G4_13 := zset_ne (q := pn_1) (e' := (q397, zI4 E 10 (upd (upd (upd (fun _ => 0) 0 (nI nf)) 1 (nI nr)) 2 (sumG sn (0 * 20 + 0) 0 (20 * 20))))) (by omega) G3_13
              have G4_14 := zset_ne (q := pn_1) (e' := (q397, zI4 E 10 (upd (upd (upd (fun _ => 0) 0 (nI nf)) 1 (nI nr)) 2 (sumG sn (0 * 20 + 0) 0 (20 * 20))))) (by omega) G3_14
              have G4_15 := zset_eq (e' := (q397, zI4 E 10 (upd (upd (upd (fun _ => 0) 0 (nI nf)) 1 (nI nr)) 2 (sumG sn (0 * 20 + 0) 0 (20 * 20))))) G3_15
              generalize hws4 : (ws_3.set pn_1 (q397, zI4 E 10 (upd (upd (upd (fun _ => 0) 0 (nI nf)) 1 (nI nr)) 2 (sumG sn (0 * 20 + 0) 0 (20 * 20))))) = ws_4 at J hk G4_0 G4_1 G4_2 G4_3 G4_4 G4_5 G4_6 G4_7 G4_8 G4_9 G4_10 G4_11 G4_12 G4_13 G4_14 G4_15 hF hR hSN
              refine lv_dup hx hb dX7_isSame_419 rfl ?_
              refine lv_iconst (v := nI 3) hx hb dX7_isSame_420 rfl ?_
              refine lv_iload_n hx hb dX7_isSame_421 rfl (lv_at hl 1 rfl) ?_
              refine z_iast X J pn_1 G4_15 (vp_in_nI (by omega) (by first | decide | omega)) dX7_isSame_422 (fun H locs J => ?_)
              rw [show upd (upd (upd (upd (fun _ => 0) 0 (nI nf)) 1 (nI nr)) 2 (sumG sn (0 * 20 + 0) 0 (20 * 20))) (nI 3).toNatClampNeg (mostG sn (0 * 20 + 0) 0 (20 * 20)) = upd (upd (upd (upd (fun _ => 0) 0 (nI nf)) 1 (nI nr)) 2 (sumG sn (0 * 20 + 0) 0 (20 * 20))) 3 (mostG sn (0 * 20 + 0) 0 (20 * 20)) from (by rw [nI_clamp (by omega)])] at J
              have hF := hF.keepS (zK.set (S := [pn_1]) (ws := ws_4) (q := pn_1) (e := (q397, zI4 E 10 (upd (upd (upd (upd (fun _ => 0) 0 (nI nf)) 1 (nI nr)) 2 (sumG sn (0 * 20 + 0) 0 (20 * 20))) 3 (mostG sn (0 * 20 + 0) 0 (20 * 20))))) (List.mem_singleton.mpr rfl)) (fun q9 hq9 => Or.inr ⟨_, _, (List.mem_singleton.mp hq9).symm ▸ G4_15, noL_I⟩)
              have hR := hR.keepS (zK.set (S := [pn_1]) (ws := ws_4) (q := pn_1) (e := (q397, zI4 E 10 (upd (upd (upd (upd (fun _ => 0) 0 (nI nf)) 1 (nI nr)) 2 (sumG sn (0 * 20 + 0) 0 (20 * 20))) 3 (mostG sn (0 * 20 + 0) 0 (20 * 20))))) (List.mem_singleton.mpr rfl)) (fun q9 hq9 => Or.inr ⟨_, _, (List.mem_singleton.mp hq9).symm ▸ G4_15, noL_I⟩)
              have hSN := hSN.keep (zK.set (S := [pn_1]) (ws := ws_4) (q := pn_1) (e := (q397, zI4 E 10 (upd (upd (upd (upd (fun _ => 0) 0 (nI nf)) 1 (nI nr)) 2 (sumG sn (0 * 20 + 0) 0 (20 * 20))) 3 (mostG sn (0 * 20 + 0) 0 (20 * 20))))) (List.mem_singleton.mpr rfl)) (fun r9 hr9 => by simp only [List.mem_cons, rg_mem, List.not_mem_nil, or_false, not_or]; omega)
              have hk := hk.step (zK.set (S := [pn_1]) (ws := ws_4) (q := pn_1) (e := (q397, zI4 E 10 (upd (upd (upd (upd (fun _ => 0) 0 (nI nf)) 1 (nI nr)) 2 (sumG sn (0 * 20 + 0) 0 (20 * 20))) 3 (mostG sn (0 * 20 + 0) 0 (20 * 20))))) (List.mem_singleton.mpr rfl)) (fun q9 a9 n9 f9 h8 h7 h9 => by simp only [List.mem_cons, rg_mem, List.not_mem_nil, or_false, not_or]; omega)
              have G5_0 := zset_ne (q := pn_1) (e' := (q397, zI4 E 10 (upd (upd (upd (upd (fun _ => 0) 0 (nI nf)) 1 (nI nr)) 2 (sumG sn (0 * 20 + 0) 0 (20 * 20))) 3 (mostG sn (0 * 20 + 0) 0 (20 * 20))))) (by omega) G4_0
              have G5_1 := zset_ne (q := pn_1) (e' := (q397, zI4 E 10 (upd (upd (upd (upd (fun _ => 0) 0 (nI nf)) 1 (nI nr)) 2 (sumG sn (0 * 20 + 0) 0 (20 * 20))) 3 (mostG sn (0 * 20 + 0) 0 (20 * 20))))) (by omega) G4_1
              have G5_2 := zset_ne (q := pn_1) (e' := (q397, zI4 E 10 (upd (upd (upd (upd (fun _ => 0) 0 (nI nf)) 1 (nI nr)) 2 (sumG sn (0 * 20 + 0) 0 (20 * 20))) 3 (mostG sn (0 * 20 + 0) 0 (20 * 20))))) (by omega) G4_2
              have G5_3 := zset_ne (q := pn_1) (e' := (q397, zI4 E 10 (upd (upd (upd (upd (fun _ => 0) 0 (nI nf)) 1 (nI nr)) 2 (sumG sn (0 * 20 + 0) 0 (20 * 20))) 3 (mostG sn (0 * 20 + 0) 0 (20 * 20))))) (by omega) G4_3
              have G5_4 := zset_ne (q := pn_1) (e' := (q397, zI4 E 10 (upd (upd (upd (upd (fun _ => 0) 0 (nI nf)) 1 (nI nr)) 2 (sumG sn (0 * 20 + 0) 0 (20 * 20))) 3 (mostG sn (0 * 20 + 0) 0 (20 * 20))))) (by omega) G4_4
              have G5_5 := zset_ne (q := pn_1) (e' := (q397, zI4 E 10 (upd (upd (upd (upd (fun _ => 0) 0 (nI nf)) 1 (nI nr)) 2 (sumG sn (0 * 20 + 0) 0 (20 * 20))) 3 (mostG sn (0 * 20 + 0) 0 (20 * 20))))) (by omega) G4_5
              have G5_6 := zset_ne (q := pn_1) (e' := (q397, zI4 E 10 (upd (upd (upd (upd (fun _ => 0) 0 (nI nf)) 1 (nI nr)) 2 (sumG sn (0 * 20 + 0) 0 (20 * 20))) 3 (mostG sn (0 * 20 + 0) 0 (20 * 20))))) (by omega) G4_6
              have G5_7 := zset_ne (q := pn_1) (e' := (q397, zI4 E 10 (upd (upd (upd (upd (fun _ => 0) 0 (nI nf)) 1 (nI nr)) 2 (sumG sn (0 * 20 + 0) 0 (20 * 20))) 3 (mostG sn (0 * 20 + 0) 0 (20 * 20))))) (by omega) G4_7
              have G5_8 := zset_ne (q := pn_1) (e' := (q397, zI4 E 10 (upd (upd (upd (upd (fun _ => 0) 0 (nI nf)) 1 (nI nr)) 2 (sumG sn (0 * 20 + 0) 0 (20 * 20))) 3 (mostG sn (0 * 20 + 0) 0 (20 * 20))))) (by omega) G4_8
              have G5_9 := zset_ne (q := pn_1) (e' := (q397, zI4 E 10 (upd (upd (upd (upd (fun _ => 0) 0 (nI nf)) 1 (nI nr)) 2 (sumG sn (0 * 20 + 0) 0 (20 * 20))) 3 (mostG sn (0 * 20 + 0) 0 (20 * 20))))) (by omega) G4_9
              have G5_10 := zset_ne (q := pn_1) (e' := (q397, zI4 E 10 (upd (upd (upd (upd (fun _ => 0) 0 (nI nf)) 1 (nI nr)) 2 (sumG sn (0 * 20 + 0) 0 (20 * 20))) 3 (mostG sn (0 * 20 + 0) 0 (20 * 20))))) (by omega) G4_10
              have G5_11 := zset_ne (q := pn_1) (e' := (q397, zI4 E 10 (upd (upd (upd (upd (fun _ => 0) 0 (nI nf)) 1 (nI nr)) 2 (sumG sn (0 * 20 + 0) 0 (20 * 20))) 3 (mostG sn (0 * 20 + 0) 0 (20 * 20))))) (by omega) G4_11
              have G5_12 := zset_ne (q := pn_1) (e' := (q397, zI4 E 10 (upd (upd (upd (upd (fun _ => 0) 0 (nI nf)) 1 (nI nr)) 2 (sumG sn (0 * 20 + 0) 0 (20 * 20))) 3 (mostG sn (0 * 20 + 0) 0 (20 * 20))))) (by omega) G4_12
              have G5_13 := zset_ne (q := pn_1) (e' := (q397, zI4 E 10 (upd (upd (upd (upd (fun _ => 0) 0 (nI nf)) 1 (nI nr)) 2 (sumG sn (0 * 20 + 0) 0 (20 * 20))) 3 (mostG sn (0 * 20 + 0) 0 (20 * 20))))) (by omega) G4_13
              have G5_14 := zset_ne (q := pn_1) (e' := (q397, zI4 E 10 (upd (upd (upd (upd (fun _ => 0) 0 (nI nf)) 1 (nI nr)) 2 (sumG sn (0 * 20 + 0) 0 (20 * 20))) 3 (mostG sn (0 * 20 + 0) 0 (20 * 20))))) (by omega) G4_14
              have G5_15 := zset_eq (e' := (q397, zI4 E 10 (upd (upd (upd (upd (fun _ => 0) 0 (nI nf)) 1 (nI nr)) 2 (sumG sn (0 * 20 + 0) 0 (20 * 20))) 3 (mostG sn (0 * 20 + 0) 0 (20 * 20))))) G4_15
              generalize hws5 : (ws_4.set pn_1 (q397, zI4 E 10 (upd (upd (upd (upd (fun _ => 0) 0 (nI nf)) 1 (nI nr)) 2 (sumG sn (0 * 20 + 0) 0 (20 * 20))) 3 (mostG sn (0 * 20 + 0) 0 (20 * 20))))) = ws_5 at J hk G5_0 G5_1 G5_2 G5_3 G5_4 G5_5 G5_6 G5_7 G5_8 G5_9 G5_10 G5_11 G5_12 G5_13 G5_14 G5_15 hF hR hSN
              refine lv_dup hx hb dX7_isSame_423 rfl ?_
              refine lv_iconst (v := nI 4) hx hb dX7_isSame_424 rfl ?_
              refine lv_aload_n hx hb dX7_isSame_425 rfl (lv_at hl 3 rfl) ?_
              refine z_cr (z_rV (As := []) (rest := [.int (nI 4), .ref q397, .ref q397]) (ci := 8) (q0 := 11) X J (cX7_allBlocked_ok l E G5_11 G5_12 G5_14 hSN (hSR.keepI hk) hnr hor) (cwV 0 hts gX7_isSame_X7_allBlocked rfl rfl rfl (by decide +kernel) ⟨Nat.le_of_ble_eq_true rfl, Nat.le_of_ble_eq_true rfl⟩) G5_11 rfl rfl rfl hl.1 rfl (Nat.le_of_ble_eq_true rfl) dX7_isSame_426 ⟨by show _ ≤ 3010; omega, by show _ ≤ 20100; omega⟩) (fun r426 e_r426 => ?_)
              subst e_r426
              refine z_iast X J pn_1 G5_15 (vp_in_nI (by omega) (by first | decide | omega)) dX7_isSame_429 (fun H locs J => ?_)
              rw [show upd (upd (upd (upd (upd (fun _ => 0) 0 (nI nf)) 1 (nI nr)) 2 (sumG sn (0 * 20 + 0) 0 (20 * 20))) 3 (mostG sn (0 * 20 + 0) 0 (20 * 20))) (nI 4).toNatClampNeg (allB sn rd ri lim nr) = upd (upd (upd (upd (upd (fun _ => 0) 0 (nI nf)) 1 (nI nr)) 2 (sumG sn (0 * 20 + 0) 0 (20 * 20))) 3 (mostG sn (0 * 20 + 0) 0 (20 * 20))) 4 (allB sn rd ri lim nr) from (by rw [nI_clamp (by omega)])] at J
              have hF := hF.keepS (zK.set (S := [pn_1]) (ws := ws_5) (q := pn_1) (e := (q397, zI4 E 10 (upd (upd (upd (upd (upd (fun _ => 0) 0 (nI nf)) 1 (nI nr)) 2 (sumG sn (0 * 20 + 0) 0 (20 * 20))) 3 (mostG sn (0 * 20 + 0) 0 (20 * 20))) 4 (allB sn rd ri lim nr)))) (List.mem_singleton.mpr rfl)) (fun q9 hq9 => Or.inr ⟨_, _, (List.mem_singleton.mp hq9).symm ▸ G5_15, noL_I⟩)
              have hR := hR.keepS (zK.set (S := [pn_1]) (ws := ws_5) (q := pn_1) (e := (q397, zI4 E 10 (upd (upd (upd (upd (upd (fun _ => 0) 0 (nI nf)) 1 (nI nr)) 2 (sumG sn (0 * 20 + 0) 0 (20 * 20))) 3 (mostG sn (0 * 20 + 0) 0 (20 * 20))) 4 (allB sn rd ri lim nr)))) (List.mem_singleton.mpr rfl)) (fun q9 hq9 => Or.inr ⟨_, _, (List.mem_singleton.mp hq9).symm ▸ G5_15, noL_I⟩)
              have hSN := hSN.keep (zK.set (S := [pn_1]) (ws := ws_5) (q := pn_1) (e := (q397, zI4 E 10 (upd (upd (upd (upd (upd (fun _ => 0) 0 (nI nf)) 1 (nI nr)) 2 (sumG sn (0 * 20 + 0) 0 (20 * 20))) 3 (mostG sn (0 * 20 + 0) 0 (20 * 20))) 4 (allB sn rd ri lim nr)))) (List.mem_singleton.mpr rfl)) (fun r9 hr9 => by simp only [List.mem_cons, rg_mem, List.not_mem_nil, or_false, not_or]; omega)
              have hk := hk.step (zK.set (S := [pn_1]) (ws := ws_5) (q := pn_1) (e := (q397, zI4 E 10 (upd (upd (upd (upd (upd (fun _ => 0) 0 (nI nf)) 1 (nI nr)) 2 (sumG sn (0 * 20 + 0) 0 (20 * 20))) 3 (mostG sn (0 * 20 + 0) 0 (20 * 20))) 4 (allB sn rd ri lim nr)))) (List.mem_singleton.mpr rfl)) (fun q9 a9 n9 f9 h8 h7 h9 => by simp only [List.mem_cons, rg_mem, List.not_mem_nil, or_false, not_or]; omega)
              have G6_0 := zset_ne (q := pn_1) (e' := (q397, zI4 E 10 (upd (upd (upd (upd (upd (fun _ => 0) 0 (nI nf)) 1 (nI nr)) 2 (sumG sn (0 * 20 + 0) 0 (20 * 20))) 3 (mostG sn (0 * 20 + 0) 0 (20 * 20))) 4 (allB sn rd ri lim nr)))) (by omega) G5_0
              have G6_1 := zset_ne (q := pn_1) (e' := (q397, zI4 E 10 (upd (upd (upd (upd (upd (fun _ => 0) 0 (nI nf)) 1 (nI nr)) 2 (sumG sn (0 * 20 + 0) 0 (20 * 20))) 3 (mostG sn (0 * 20 + 0) 0 (20 * 20))) 4 (allB sn rd ri lim nr)))) (by omega) G5_1
              have G6_2 := zset_ne (q := pn_1) (e' := (q397, zI4 E 10 (upd (upd (upd (upd (upd (fun _ => 0) 0 (nI nf)) 1 (nI nr)) 2 (sumG sn (0 * 20 + 0) 0 (20 * 20))) 3 (mostG sn (0 * 20 + 0) 0 (20 * 20))) 4 (allB sn rd ri lim nr)))) (by omega) G5_2
              have G6_3 := zset_ne (q := pn_1) (e' := (q397, zI4 E 10 (upd (upd (upd (upd (upd (fun _ => 0) 0 (nI nf)) 1 (nI nr)) 2 (sumG sn (0 * 20 + 0) 0 (20 * 20))) 3 (mostG sn (0 * 20 + 0) 0 (20 * 20))) 4 (allB sn rd ri lim nr)))) (by omega) G5_3
              have G6_4 := zset_ne (q := pn_1) (e' := (q397, zI4 E 10 (upd (upd (upd (upd (upd (fun _ => 0) 0 (nI nf)) 1 (nI nr)) 2 (sumG sn (0 * 20 + 0) 0 (20 * 20))) 3 (mostG sn (0 * 20 + 0) 0 (20 * 20))) 4 (allB sn rd ri lim nr)))) (by omega) G5_4
              have G6_5 := zset_ne (q := pn_1) (e' := (q397, zI4 E 10 (upd (upd (upd (upd (upd (fun _ => 0) 0 (nI nf)) 1 (nI nr)) 2 (sumG sn (0 * 20 + 0) 0 (20 * 20))) 3 (mostG sn (0 * 20 + 0) 0 (20 * 20))) 4 (allB sn rd ri lim nr)))) (by omega) G5_5
              have G6_6 := zset_ne (q := pn_1) (e' := (q397, zI4 E 10 (upd (upd (upd (upd (upd (fun _ => 0) 0 (nI nf)) 1 (nI nr)) 2 (sumG sn (0 * 20 + 0) 0 (20 * 20))) 3 (mostG sn (0 * 20 + 0) 0 (20 * 20))) 4 (allB sn rd ri lim nr)))) (by omega) G5_6
              have G6_7 := zset_ne (q := pn_1) (e' := (q397, zI4 E 10 (upd (upd (upd (upd (upd (fun _ => 0) 0 (nI nf)) 1 (nI nr)) 2 (sumG sn (0 * 20 + 0) 0 (20 * 20))) 3 (mostG sn (0 * 20 + 0) 0 (20 * 20))) 4 (allB sn rd ri lim nr)))) (by omega) G5_7
              have G6_8 := zset_ne (q := pn_1) (e' := (q397, zI4 E 10 (upd (upd (upd (upd (upd (fun _ => 0) 0 (nI nf)) 1 (nI nr)) 2 (sumG sn (0 * 20 + 0) 0 (20 * 20))) 3 (mostG sn (0 * 20 + 0) 0 (20 * 20))) 4 (allB sn rd ri lim nr)))) (by omega) G5_8
              have G6_9 := zset_ne (q := pn_1) (e' := (q397, zI4 E 10 (upd (upd (upd (upd (upd (fun _ => 0) 0 (nI nf)) 1 (nI nr)) 2 (sumG sn (0 * 20 + 0) 0 (20 * 20))) 3 (mostG sn (0 * 20 + 0) 0 (20 * 20))) 4 (allB sn rd ri lim nr)))) (by omega) G5_9
              have G6_10 := zset_ne (q := pn_1) (e' := (q397, zI4 E 10 (upd (upd (upd (upd (upd (fun _ => 0) 0 (nI nf)) 1 (nI nr)) 2 (sumG sn (0 * 20 + 0) 0 (20 * 20))) 3 (mostG sn (0 * 20 + 0) 0 (20 * 20))) 4 (allB sn rd ri lim nr)))) (by omega) G5_10
              have G6_11 := zset_ne (q := pn_1) (e' := (q397, zI4 E 10 (upd (upd (upd (upd (upd (fun _ => 0) 0 (nI nf)) 1 (nI nr)) 2 (sumG sn (0 * 20 + 0) 0 (20 * 20))) 3 (mostG sn (0 * 20 + 0) 0 (20 * 20))) 4 (allB sn rd ri lim nr)))) (by omega) G5_11
              have G6_12 := zset_ne (q := pn_1) (e' := (q397, zI4 E 10 (upd (upd (upd (upd (upd (fun _ => 0) 0 (nI nf)) 1 (nI nr)) 2 (sumG sn (0 * 20 + 0) 0 (20 * 20))) 3 (mostG sn (0 * 20 + 0) 0 (20 * 20))) 4 (allB sn rd ri lim nr)))) (by omega) G5_12
              have G6_13 := zset_ne (q := pn_1) (e' := (q397, zI4 E 10 (upd (upd (upd (upd (upd (fun _ => 0) 0 (nI nf)) 1 (nI nr)) 2 (sumG sn (0 * 20 + 0) 0 (20 * 20))) 3 (mostG sn (0 * 20 + 0) 0 (20 * 20))) 4 (allB sn rd ri lim nr)))) (by omega) G5_13
              have G6_14 := zset_ne (q := pn_1) (e' := (q397, zI4 E 10 (upd (upd (upd (upd (upd (fun _ => 0) 0 (nI nf)) 1 (nI nr)) 2 (sumG sn (0 * 20 + 0) 0 (20 * 20))) 3 (mostG sn (0 * 20 + 0) 0 (20 * 20))) 4 (allB sn rd ri lim nr)))) (by omega) G5_14
              have G6_15 := zset_eq (e' := (q397, zI4 E 10 (upd (upd (upd (upd (upd (fun _ => 0) 0 (nI nf)) 1 (nI nr)) 2 (sumG sn (0 * 20 + 0) 0 (20 * 20))) 3 (mostG sn (0 * 20 + 0) 0 (20 * 20))) 4 (allB sn rd ri lim nr)))) G5_15
              generalize hws6 : (ws_5.set pn_1 (q397, zI4 E 10 (upd (upd (upd (upd (upd (fun _ => 0) 0 (nI nf)) 1 (nI nr)) 2 (sumG sn (0 * 20 + 0) 0 (20 * 20))) 3 (mostG sn (0 * 20 + 0) 0 (20 * 20))) 4 (allB sn rd ri lim nr)))) = ws_6 at J hk G6_0 G6_1 G6_2 G6_3 G6_4 G6_5 G6_6 G6_7 G6_8 G6_9 G6_10 G6_11 G6_12 G6_13 G6_14 G6_15 hF hR hSN
              refine lv_dup hx hb dX7_isSame_430 rfl ?_
              refine lv_iconst (v := nI 5) hx hb dX7_isSame_431 rfl ?_
              refine lv_aload_n hx hb dX7_isSame_432 rfl (lv_at hl 3 rfl) ?_
              refine z_get (C := RX7) (T := TX7) (N := 8) (ci := 8) (v := .int off) X J hi_X7 11 G6_11 rfl 5 (by decide) (by decide +kernel) rfl dX7_isSame_433 ?_
              refine z_iast X J pn_1 G6_15 (vp_in_nI (by omega) (by first | decide | omega)) dX7_isSame_436 (fun H locs J => ?_)
              rw [show upd (upd (upd (upd (upd (upd (fun _ => 0) 0 (nI nf)) 1 (nI nr)) 2 (sumG sn (0 * 20 + 0) 0 (20 * 20))) 3 (mostG sn (0 * 20 + 0) 0 (20 * 20))) 4 (allB sn rd ri lim nr)) (nI 5).toNatClampNeg off = upd (upd (upd (upd (upd (upd (fun _ => 0) 0 (nI nf)) 1 (nI nr)) 2 (sumG sn (0 * 20 + 0) 0 (20 * 20))) 3 (mostG sn (0 * 20 + 0) 0 (20 * 20))) 4 (allB sn rd ri lim nr)) 5 off from (by rw [nI_clamp (by omega)])] at J
              have hF := hF.keepS (zK.set (S := [pn_1]) (ws := ws_6) (q := pn_1) (e := (q397, zI4 E 10 (upd (upd (upd (upd (upd (upd (fun _ => 0) 0 (nI nf)) 1 (nI nr)) 2 (sumG sn (0 * 20 + 0) 0 (20 * 20))) 3 (mostG sn (0 * 20 + 0) 0 (20 * 20))) 4 (allB sn rd ri lim nr)) 5 off))) (List.mem_singleton.mpr rfl)) (fun q9 hq9 => Or.inr ⟨_, _, (List.mem_singleton.mp hq9).symm ▸ G6_15, noL_I⟩)
              have hR := hR.keepS (zK.set (S := [pn_1]) (ws := ws_6) (q := pn_1) (e := (q397, zI4 E 10 (upd (upd (upd (upd (upd (upd (fun _ => 0) 0 (nI nf)) 1 (nI nr)) 2 (sumG sn (0 * 20 + 0) 0 (20 * 20))) 3 (mostG sn (0 * 20 + 0) 0 (20 * 20))) 4 (allB sn rd ri lim nr)) 5 off))) (List.mem_singleton.mpr rfl)) (fun q9 hq9 => Or.inr ⟨_, _, (List.mem_singleton.mp hq9).symm ▸ G6_15, noL_I⟩)
              have hSN := hSN.keep (zK.set (S := [pn_1]) (ws := ws_6) (q := pn_1) (e := (q397, zI4 E 10 (upd (upd (upd (upd (upd (upd (fun _ => 0) 0 (nI nf)) 1 (nI nr)) 2 (sumG sn (0 * 20 + 0) 0 (20 * 20))) 3 (mostG sn (0 * 20 + 0) 0 (20 * 20))) 4 (allB sn rd ri lim nr)) 5 off))) (List.mem_singleton.mpr rfl)) (fun r9 hr9 => by simp only [List.mem_cons, rg_mem, List.not_mem_nil, or_false, not_or]; omega)
              have hk := hk.step (zK.set (S := [pn_1]) (ws := ws_6) (q := pn_1) (e := (q397, zI4 E 10 (upd (upd (upd (upd (upd (upd (fun _ => 0) 0 (nI nf)) 1 (nI nr)) 2 (sumG sn (0 * 20 + 0) 0 (20 * 20))) 3 (mostG sn (0 * 20 + 0) 0 (20 * 20))) 4 (allB sn rd ri lim nr)) 5 off))) (List.mem_singleton.mpr rfl)) (fun q9 a9 n9 f9 h8 h7 h9 => by simp only [List.mem_cons, rg_mem, List.not_mem_nil, or_false, not_or]; omega)
              have G7_0 := zset_ne (q := pn_1) (e' := (q397, zI4 E 10 (upd (upd (upd (upd (upd (upd (fun _ => 0) 0 (nI nf)) 1 (nI nr)) 2 (sumG sn (0 * 20 + 0) 0 (20 * 20))) 3 (mostG sn (0 * 20 + 0) 0 (20 * 20))) 4 (allB sn rd ri lim nr)) 5 off))) (by omega) G6_0
              have G7_1 := zset_ne (q := pn_1) (e' := (q397, zI4 E 10 (upd (upd (upd (upd (upd (upd (fun _ => 0) 0 (nI nf)) 1 (nI nr)) 2 (sumG sn (0 * 20 + 0) 0 (20 * 20))) 3 (mostG sn (0 * 20 + 0) 0 (20 * 20))) 4 (allB sn rd ri lim nr)) 5 off))) (by omega) G6_1
              have G7_2 := zset_ne (q := pn_1) (e' := (q397, zI4 E 10 (upd (upd (upd (upd (upd (upd (fun _ => 0) 0 (nI nf)) 1 (nI nr)) 2 (sumG sn (0 * 20 + 0) 0 (20 * 20))) 3 (mostG sn (0 * 20 + 0) 0 (20 * 20))) 4 (allB sn rd ri lim nr)) 5 off))) (by omega) G6_2
              have G7_3 := zset_ne (q := pn_1) (e' := (q397, zI4 E 10 (upd (upd (upd (upd (upd (upd (fun _ => 0) 0 (nI nf)) 1 (nI nr)) 2 (sumG sn (0 * 20 + 0) 0 (20 * 20))) 3 (mostG sn (0 * 20 + 0) 0 (20 * 20))) 4 (allB sn rd ri lim nr)) 5 off))) (by omega) G6_3
              have G7_4 := zset_ne (q := pn_1) (e' := (q397, zI4 E 10 (upd (upd (upd (upd (upd (upd (fun _ => 0) 0 (nI nf)) 1 (nI nr)) 2 (sumG sn (0 * 20 + 0) 0 (20 * 20))) 3 (mostG sn (0 * 20 + 0) 0 (20 * 20))) 4 (allB sn rd ri lim nr)) 5 off))) (by omega) G6_4
              have G7_5 := zset_ne (q := pn_1) (e' := (q397, zI4 E 10 (upd (upd (upd (upd (upd (upd (fun _ => 0) 0 (nI nf)) 1 (nI nr)) 2 (sumG sn (0 * 20 + 0) 0 (20 * 20))) 3 (mostG sn (0 * 20 + 0) 0 (20 * 20))) 4 (allB sn rd ri lim nr)) 5 off))) (by omega) G6_5
              have G7_6 := zset_ne (q := pn_1) (e' := (q397, zI4 E 10 (upd (upd (upd (upd (upd (upd (fun _ => 0) 0 (nI nf)) 1 (nI nr)) 2 (sumG sn (0 * 20 + 0) 0 (20 * 20))) 3 (mostG sn (0 * 20 + 0) 0 (20 * 20))) 4 (allB sn rd ri lim nr)) 5 off))) (by omega) G6_6
              have G7_7 := zset_ne (q := pn_1) (e' := (q397, zI4 E 10 (upd (upd (upd (upd (upd (upd (fun _ => 0) 0 (nI nf)) 1 (nI nr)) 2 (sumG sn (0 * 20 + 0) 0 (20 * 20))) 3 (mostG sn (0 * 20 + 0) 0 (20 * 20))) 4 (allB sn rd ri lim nr)) 5 off))) (by omega) G6_7
              have G7_8 := zset_ne (q := pn_1) (e' := (q397, zI4 E 10 (upd (upd (upd (upd (upd (upd (fun _ => 0) 0 (nI nf)) 1 (nI nr)) 2 (sumG sn (0 * 20 + 0) 0 (20 * 20))) 3 (mostG sn (0 * 20 + 0) 0 (20 * 20))) 4 (allB sn rd ri lim nr)) 5 off))) (by omega) G6_8
              have G7_9 := zset_ne (q := pn_1) (e' := (q397, zI4 E 10 (upd (upd (upd (upd (upd (upd (fun _ => 0) 0 (nI nf)) 1 (nI nr)) 2 (sumG sn (0 * 20 + 0) 0 (20 * 20))) 3 (mostG sn (0 * 20 + 0) 0 (20 * 20))) 4 (allB sn rd ri lim nr)) 5 off))) (by omega) G6_9
              have G7_10 := zset_ne (q := pn_1) (e' := (q397, zI4 E 10 (upd (upd (upd (upd (upd (upd (fun _ => 0) 0 (nI nf)) 1 (nI nr)) 2 (sumG sn (0 * 20 + 0) 0 (20 * 20))) 3 (mostG sn (0 * 20 + 0) 0 (20 * 20))) 4 (allB sn rd ri lim nr)) 5 off))) (by omega) G6_10
              have G7_11 := zset_ne (q := pn_1) (e' := (q397, zI4 E 10 (upd (upd (upd (upd (upd (upd (fun _ => 0) 0 (nI nf)) 1 (nI nr)) 2 (sumG sn (0 * 20 + 0) 0 (20 * 20))) 3 (mostG sn (0 * 20 + 0) 0 (20 * 20))) 4 (allB sn rd ri lim nr)) 5 off))) (by omega) G6_11
              have G7_12 := zset_ne (q := pn_1) (e' := (q397, zI4 E 10 (upd (upd (upd (upd (upd (upd (fun _ => 0) 0 (nI nf)) 1 (nI nr)) 2 (sumG sn (0 * 20 + 0) 0 (20 * 20))) 3 (mostG sn (0 * 20 + 0) 0 (20 * 20))) 4 (allB sn rd ri lim nr)) 5 off))) (by omega) G6_12
              have G7_13 := zset_ne (q := pn_1) (e' := (q397, zI4 E 10 (upd (upd (upd (upd (upd (upd (fun _ => 0) 0 (nI nf)) 1 (nI nr)) 2 (sumG sn (0 * 20 + 0) 0 (20 * 20))) 3 (mostG sn (0 * 20 + 0) 0 (20 * 20))) 4 (allB sn rd ri lim nr)) 5 off))) (by omega) G6_13
              have G7_14 := zset_ne (q := pn_1) (e' := (q397, zI4 E 10 (upd (upd (upd (upd (upd (upd (fun _ => 0) 0 (nI nf)) 1 (nI nr)) 2 (sumG sn (0 * 20 + 0) 0 (20 * 20))) 3 (mostG sn (0 * 20 + 0) 0 (20 * 20))) 4 (allB sn rd ri lim nr)) 5 off))) (by omega) G6_14
              have G7_15 := zset_eq (e' := (q397, zI4 E 10 (upd (upd (upd (upd (upd (upd (fun _ => 0) 0 (nI nf)) 1 (nI nr)) 2 (sumG sn (0 * 20 + 0) 0 (20 * 20))) 3 (mostG sn (0 * 20 + 0) 0 (20 * 20))) 4 (allB sn rd ri lim nr)) 5 off))) G6_15
              generalize hws7 : (ws_6.set pn_1 (q397, zI4 E 10 (upd (upd (upd (upd (upd (upd (fun _ => 0) 0 (nI nf)) 1 (nI nr)) 2 (sumG sn (0 * 20 + 0) 0 (20 * 20))) 3 (mostG sn (0 * 20 + 0) 0 (20 * 20))) 4 (allB sn rd ri lim nr)) 5 off))) = ws_7 at J hk G7_0 G7_1 G7_2 G7_3 G7_4 G7_5 G7_6 G7_7 G7_8 G7_9 G7_10 G7_11 G7_12 G7_13 G7_14 G7_15 hF hR hSN
              refine lv_dup hx hb dX7_isSame_437 rfl ?_
              refine lv_bipush (v := nI 6) hx hb dX7_isSame_438 (by decide) ?_
              refine lv_aload_n hx hb dX7_isSame_440 rfl (lv_at hl 3 rfl) ?_
              refine z_get (C := RX7) (T := TX7) (N := 8) (ci := 8) (v := .int plo) X J hi_X7 11 G7_11 rfl 6 (by decide) (by decide +kernel) rfl dX7_isSame_441 ?_
              refine z_iast X J pn_1 G7_15 (vp_in_nI (by omega) (by first | decide | omega)) dX7_isSame_444 (fun H locs J => ?_)
              rw [show upd (upd (upd (upd (upd (upd (upd (fun _ => 0) 0 (nI nf)) 1 (nI nr)) 2 (sumG sn (0 * 20 + 0) 0 (20 * 20))) 3 (mostG sn (0 * 20 + 0) 0 (20 * 20))) 4 (allB sn rd ri lim nr)) 5 off) (nI 6).toNatClampNeg plo = upd (upd (upd (upd (upd (upd (upd (fun _ => 0) 0 (nI nf)) 1 (nI nr)) 2 (sumG sn (0 * 20 + 0) 0 (20 * 20))) 3 (mostG sn (0 * 20 + 0) 0 (20 * 20))) 4 (allB sn rd ri lim nr)) 5 off) 6 plo from (by rw [nI_clamp (by omega)])] at J
              have hF := hF.keepS (zK.set (S := [pn_1]) (ws := ws_7) (q := pn_1) (e := (q397, zI4 E 10 (upd (upd (upd (upd (upd (upd (upd (fun _ => 0) 0 (nI nf)) 1 (nI nr)) 2 (sumG sn (0 * 20 + 0) 0 (20 * 20))) 3 (mostG sn (0 * 20 + 0) 0 (20 * 20))) 4 (allB sn rd ri lim nr)) 5 off) 6 plo))) (List.mem_singleton.mpr rfl)) (fun q9 hq9 => Or.inr ⟨_, _, (List.mem_singleton.mp hq9).symm ▸ G7_15, noL_I⟩)
              have hR := hR.keepS (zK.set (S := [pn_1]) (ws := ws_7) (q := pn_1) (e := (q397, zI4 E 10 (upd (upd (upd (upd (upd (upd (upd (fun _ => 0) 0 (nI nf)) 1 (nI nr)) 2 (sumG sn (0 * 20 + 0) 0 (20 * 20))) 3 (mostG sn (0 * 20 + 0) 0 (20 * 20))) 4 (allB sn rd ri lim nr)) 5 off) 6 plo))) (List.mem_singleton.mpr rfl)) (fun q9 hq9 => Or.inr ⟨_, _, (List.mem_singleton.mp hq9).symm ▸ G7_15, noL_I⟩)
              have hSN := hSN.keep (zK.set (S := [pn_1]) (ws := ws_7) (q := pn_1) (e := (q397, zI4 E 10 (upd (upd (upd (upd (upd (upd (upd (fun _ => 0) 0 (nI nf)) 1 (nI nr)) 2 (sumG sn (0 * 20 + 0) 0 (20 * 20))) 3 (mostG sn (0 * 20 + 0) 0 (20 * 20))) 4 (allB sn rd ri lim nr)) 5 off) 6 plo))) (List.mem_singleton.mpr rfl)) (fun r9 hr9 => by simp only [List.mem_cons, rg_mem, List.not_mem_nil, or_false, not_or]; omega)
              have hk := hk.step (zK.set (S := [pn_1]) (ws := ws_7) (q := pn_1) (e := (q397, zI4 E 10 (upd (upd (upd (upd (upd (upd (upd (fun _ => 0) 0 (nI nf)) 1 (nI nr)) 2 (sumG sn (0 * 20 + 0) 0 (20 * 20))) 3 (mostG sn (0 * 20 + 0) 0 (20 * 20))) 4 (allB sn rd ri lim nr)) 5 off) 6 plo))) (List.mem_singleton.mpr rfl)) (fun q9 a9 n9 f9 h8 h7 h9 => by simp only [List.mem_cons, rg_mem, List.not_mem_nil, or_false, not_or]; omega)
              have G8_0 := zset_ne (q := pn_1) (e' := (q397, zI4 E 10 (upd (upd (upd (upd (upd (upd (upd (fun _ => 0) 0 (nI nf)) 1 (nI nr)) 2 (sumG sn (0 * 20 + 0) 0 (20 * 20))) 3 (mostG sn (0 * 20 + 0) 0 (20 * 20))) 4 (allB sn rd ri lim nr)) 5 off) 6 plo))) (by omega) G7_0
              have G8_1 := zset_ne (q := pn_1) (e' := (q397, zI4 E 10 (upd (upd (upd (upd (upd (upd (upd (fun _ => 0) 0 (nI nf)) 1 (nI nr)) 2 (sumG sn (0 * 20 + 0) 0 (20 * 20))) 3 (mostG sn (0 * 20 + 0) 0 (20 * 20))) 4 (allB sn rd ri lim nr)) 5 off) 6 plo))) (by omega) G7_1
              have G8_2 := zset_ne (q := pn_1) (e' := (q397, zI4 E 10 (upd (upd (upd (upd (upd (upd (upd (fun _ => 0) 0 (nI nf)) 1 (nI nr)) 2 (sumG sn (0 * 20 + 0) 0 (20 * 20))) 3 (mostG sn (0 * 20 + 0) 0 (20 * 20))) 4 (allB sn rd ri lim nr)) 5 off) 6 plo))) (by omega) G7_2
              have G8_3 := zset_ne (q := pn_1) (e' := (q397, zI4 E 10 (upd (upd (upd (upd (upd (upd (upd (fun _ => 0) 0 (nI nf)) 1 (nI nr)) 2 (sumG sn (0 * 20 + 0) 0 (20 * 20))) 3 (mostG sn (0 * 20 + 0) 0 (20 * 20))) 4 (allB sn rd ri lim nr)) 5 off) 6 plo))) (by omega) G7_3
              have G8_4 := zset_ne (q := pn_1) (e' := (q397, zI4 E 10 (upd (upd (upd (upd (upd (upd (upd (fun _ => 0) 0 (nI nf)) 1 (nI nr)) 2 (sumG sn (0 * 20 + 0) 0 (20 * 20))) 3 (mostG sn (0 * 20 + 0) 0 (20 * 20))) 4 (allB sn rd ri lim nr)) 5 off) 6 plo))) (by omega) G7_4
              have G8_5 := zset_ne (q := pn_1) (e' := (q397, zI4 E 10 (upd (upd (upd (upd (upd (upd (upd (fun _ => 0) 0 (nI nf)) 1 (nI nr)) 2 (sumG sn (0 * 20 + 0) 0 (20 * 20))) 3 (mostG sn (0 * 20 + 0) 0 (20 * 20))) 4 (allB sn rd ri lim nr)) 5 off) 6 plo))) (by omega) G7_5
              have G8_6 := zset_ne (q := pn_1) (e' := (q397, zI4 E 10 (upd (upd (upd (upd (upd (upd (upd (fun _ => 0) 0 (nI nf)) 1 (nI nr)) 2 (sumG sn (0 * 20 + 0) 0 (20 * 20))) 3 (mostG sn (0 * 20 + 0) 0 (20 * 20))) 4 (allB sn rd ri lim nr)) 5 off) 6 plo))) (by omega) G7_6
              have G8_7 := zset_ne (q := pn_1) (e' := (q397, zI4 E 10 (upd (upd (upd (upd (upd (upd (upd (fun _ => 0) 0 (nI nf)) 1 (nI nr)) 2 (sumG sn (0 * 20 + 0) 0 (20 * 20))) 3 (mostG sn (0 * 20 + 0) 0 (20 * 20))) 4 (allB sn rd ri lim nr)) 5 off) 6 plo))) (by omega) G7_7
              have G8_8 := zset_ne (q := pn_1) (e' := (q397, zI4 E 10 (upd (upd (upd (upd (upd (upd (upd (fun _ => 0) 0 (nI nf)) 1 (nI nr)) 2 (sumG sn (0 * 20 + 0) 0 (20 * 20))) 3 (mostG sn (0 * 20 + 0) 0 (20 * 20))) 4 (allB sn rd ri lim nr)) 5 off) 6 plo))) (by omega) G7_8
              have G8_9 := zset_ne (q := pn_1) (e' := (q397, zI4 E 10 (upd (upd (upd (upd (upd (upd (upd (fun _ => 0) 0 (nI nf)) 1 (nI nr)) 2 (sumG sn (0 * 20 + 0) 0 (20 * 20))) 3 (mostG sn (0 * 20 + 0) 0 (20 * 20))) 4 (allB sn rd ri lim nr)) 5 off) 6 plo))) (by omega) G7_9
              have G8_10 := zset_ne (q := pn_1) (e' := (q397, zI4 E 10 (upd (upd (upd (upd (upd (upd (upd (fun _ => 0) 0 (nI nf)) 1 (nI nr)) 2 (sumG sn (0 * 20 + 0) 0 (20 * 20))) 3 (mostG sn (0 * 20 + 0) 0 (20 * 20))) 4 (allB sn rd ri lim nr)) 5 off) 6 plo))) (by omega) G7_10
              have G8_11 := zset_ne (q := pn_1) (e' := (q397, zI4 E 10 (upd (upd (upd (upd (upd (upd (upd (fun _ => 0) 0 (nI nf)) 1 (nI nr)) 2 (sumG sn (0 * 20 + 0) 0 (20 * 20))) 3 (mostG sn (0 * 20 + 0) 0 (20 * 20))) 4 (allB sn rd ri lim nr)) 5 off) 6 plo))) (by omega) G7_11
              have G8_12 := zset_ne (q := pn_1) (e' := (q397, zI4 E 10 (upd (upd (upd (upd (upd (upd (upd (fun _ => 0) 0 (nI nf)) 1 (nI nr)) 2 (sumG sn (0 * 20 + 0) 0 (20 * 20))) 3 (mostG sn (0 * 20 + 0) 0 (20 * 20))) 4 (allB sn rd ri lim nr)) 5 off) 6 plo))) (by omega) G7_12
              have G8_13 := zset_ne (q := pn_1) (e' := (q397, zI4 E 10 (upd (upd (upd (upd (upd (upd (upd (fun _ => 0) 0 (nI nf)) 1 (nI nr)) 2 (sumG sn (0 * 20 + 0) 0 (20 * 20))) 3 (mostG sn (0 * 20 + 0) 0 (20 * 20))) 4 (allB sn rd ri lim nr)) 5 off) 6 plo))) (by omega) G7_13
              have G8_14 := zset_ne (q := pn_1) (e' := (q397, zI4 E 10 (upd (upd (upd (upd (upd (upd (upd (fun _ => 0) 0 (nI nf)) 1 (nI nr)) 2 (sumG sn (0 * 20 + 0) 0 (20 * 20))) 3 (mostG sn (0 * 20 + 0) 0 (20 * 20))) 4 (allB sn rd ri lim nr)) 5 off) 6 plo))) (by omega) G7_14
              have G8_15 := zset_eq (e' := (q397, zI4 E 10 (upd (upd (upd (upd (upd (upd (upd (fun _ => 0) 0 (nI nf)) 1 (nI nr)) 2 (sumG sn (0 * 20 + 0) 0 (20 * 20))) 3 (mostG sn (0 * 20 + 0) 0 (20 * 20))) 4 (allB sn rd ri lim nr)) 5 off) 6 plo))) G7_15
              generalize hws8 : (ws_7.set pn_1 (q397, zI4 E 10 (upd (upd (upd (upd (upd (upd (upd (fun _ => 0) 0 (nI nf)) 1 (nI nr)) 2 (sumG sn (0 * 20 + 0) 0 (20 * 20))) 3 (mostG sn (0 * 20 + 0) 0 (20 * 20))) 4 (allB sn rd ri lim nr)) 5 off) 6 plo))) = ws_8 at J hk G8_0 G8_1 G8_2 G8_3 G8_4 G8_5 G8_6 G8_7 G8_8 G8_9 G8_10 G8_11 G8_12 G8_13 G8_14 G8_15 hF hR hSN
              refine lv_dup hx hb dX7_isSame_445 rfl ?_
              refine lv_bipush (v := nI 7) hx hb dX7_isSame_446 (by decide) ?_
              refine lv_aload_n hx hb dX7_isSame_448 rfl (lv_at hl 3 rfl) ?_
              refine z_get (C := RX7) (T := TX7) (N := 8) (ci := 8) (v := .int hrs) X J hi_X7 11 G8_11 rfl 7 (by decide) (by decide +kernel) rfl dX7_isSame_449 ?_
              refine z_iast X J pn_1 G8_15 (vp_in_nI (by omega) (by first | decide | omega)) dX7_isSame_452 (fun H locs J => ?_)
              rw [show upd (upd (upd (upd (upd (upd (upd (upd (fun _ => 0) 0 (nI nf)) 1 (nI nr)) 2 (sumG sn (0 * 20 + 0) 0 (20 * 20))) 3 (mostG sn (0 * 20 + 0) 0 (20 * 20))) 4 (allB sn rd ri lim nr)) 5 off) 6 plo) (nI 7).toNatClampNeg hrs = upd (upd (upd (upd (upd (upd (upd (upd (fun _ => 0) 0 (nI nf)) 1 (nI nr)) 2 (sumG sn (0 * 20 + 0) 0 (20 * 20))) 3 (mostG sn (0 * 20 + 0) 0 (20 * 20))) 4 (allB sn rd ri lim nr)) 5 off) 6 plo) 7 hrs from (by rw [nI_clamp (by omega)])] at J
              have hF := hF.keepS (zK.set (S := [pn_1]) (ws := ws_8) (q := pn_1) (e := (q397, zI4 E 10 (upd (upd (upd (upd (upd (upd (upd (upd (fun _ => 0) 0 (nI nf)) 1 (nI nr)) 2 (sumG sn (0 * 20 + 0) 0 (20 * 20))) 3 (mostG sn (0 * 20 + 0) 0 (20 * 20))) 4 (allB sn rd ri lim nr)) 5 off) 6 plo) 7 hrs))) (List.mem_singleton.mpr rfl)) (fun q9 hq9 => Or.inr ⟨_, _, (List.mem_singleton.mp hq9).symm ▸ G8_15, noL_I⟩)
              have hR := hR.keepS (zK.set (S := [pn_1]) (ws := ws_8) (q := pn_1) (e := (q397, zI4 E 10 (upd (upd (upd (upd (upd (upd (upd (upd (fun _ => 0) 0 (nI nf)) 1 (nI nr)) 2 (sumG sn (0 * 20 + 0) 0 (20 * 20))) 3 (mostG sn (0 * 20 + 0) 0 (20 * 20))) 4 (allB sn rd ri lim nr)) 5 off) 6 plo) 7 hrs))) (List.mem_singleton.mpr rfl)) (fun q9 hq9 => Or.inr ⟨_, _, (List.mem_singleton.mp hq9).symm ▸ G8_15, noL_I⟩)
              have hSN := hSN.keep (zK.set (S := [pn_1]) (ws := ws_8) (q := pn_1) (e := (q397, zI4 E 10 (upd (upd (upd (upd (upd (upd (upd (upd (fun _ => 0) 0 (nI nf)) 1 (nI nr)) 2 (sumG sn (0 * 20 + 0) 0 (20 * 20))) 3 (mostG sn (0 * 20 + 0) 0 (20 * 20))) 4 (allB sn rd ri lim nr)) 5 off) 6 plo) 7 hrs))) (List.mem_singleton.mpr rfl)) (fun r9 hr9 => by simp only [List.mem_cons, rg_mem, List.not_mem_nil, or_false, not_or]; omega)
              have hk := hk.step (zK.set (S := [pn_1]) (ws := ws_8) (q := pn_1) (e := (q397, zI4 E 10 (upd (upd (upd (upd (upd (upd (upd (upd (fun _ => 0) 0 (nI nf)) 1 (nI nr)) 2 (sumG sn (0 * 20 + 0) 0 (20 * 20))) 3 (mostG sn (0 * 20 + 0) 0 (20 * 20))) 4 (allB sn rd ri lim nr)) 5 off) 6 plo) 7 hrs))) (List.mem_singleton.mpr rfl)) (fun q9 a9 n9 f9 h8 h7 h9 => by simp only [List.mem_cons, rg_mem, List.not_mem_nil, or_false, not_or]; omega)
              have G9_0 := zset_ne (q := pn_1) (e' := (q397, zI4 E 10 (upd (upd (upd (upd (upd (upd (upd (upd (fun _ => 0) 0 (nI nf)) 1 (nI nr)) 2 (sumG sn (0 * 20 + 0) 0 (20 * 20))) 3 (mostG sn (0 * 20 + 0) 0 (20 * 20))) 4 (allB sn rd ri lim nr)) 5 off) 6 plo) 7 hrs))) (by omega) G8_0
              have G9_1 := zset_ne (q := pn_1) (e' := (q397, zI4 E 10 (upd (upd (upd (upd (upd (upd (upd (upd (fun _ => 0) 0 (nI nf)) 1 (nI nr)) 2 (sumG sn (0 * 20 + 0) 0 (20 * 20))) 3 (mostG sn (0 * 20 + 0) 0 (20 * 20))) 4 (allB sn rd ri lim nr)) 5 off) 6 plo) 7 hrs))) (by omega) G8_1
              have G9_2 := zset_ne (q := pn_1) (e' := (q397, zI4 E 10 (upd (upd (upd (upd (upd (upd (upd (upd (fun _ => 0) 0 (nI nf)) 1 (nI nr)) 2 (sumG sn (0 * 20 + 0) 0 (20 * 20))) 3 (mostG sn (0 * 20 + 0) 0 (20 * 20))) 4 (allB sn rd ri lim nr)) 5 off) 6 plo) 7 hrs))) (by omega) G8_2
              have G9_3 := zset_ne (q := pn_1) (e' := (q397, zI4 E 10 (upd (upd (upd (upd (upd (upd (upd (upd (fun _ => 0) 0 (nI nf)) 1 (nI nr)) 2 (sumG sn (0 * 20 + 0) 0 (20 * 20))) 3 (mostG sn (0 * 20 + 0) 0 (20 * 20))) 4 (allB sn rd ri lim nr)) 5 off) 6 plo) 7 hrs))) (by omega) G8_3
              have G9_4 := zset_ne (q := pn_1) (e' := (q397, zI4 E 10 (upd (upd (upd (upd (upd (upd (upd (upd (fun _ => 0) 0 (nI nf)) 1 (nI nr)) 2 (sumG sn (0 * 20 + 0) 0 (20 * 20))) 3 (mostG sn (0 * 20 + 0) 0 (20 * 20))) 4 (allB sn rd ri lim nr)) 5 off) 6 plo) 7 hrs))) (by omega) G8_4
              have G9_5 := zset_ne (q := pn_1) (e' := (q397, zI4 E 10 (upd (upd (upd (upd (upd (upd (upd (upd (fun _ => 0) 0 (nI nf)) 1 (nI nr)) 2 (sumG sn (0 * 20 + 0) 0 (20 * 20))) 3 (mostG sn (0 * 20 + 0) 0 (20 * 20))) 4 (allB sn rd ri lim nr)) 5 off) 6 plo) 7 hrs))) (by omega) G8_5
              have G9_6 := zset_ne (q := pn_1) (e' := (q397, zI4 E 10 (upd (upd (upd (upd (upd (upd (upd (upd (fun _ => 0) 0 (nI nf)) 1 (nI nr)) 2 (sumG sn (0 * 20 + 0) 0 (20 * 20))) 3 (mostG sn (0 * 20 + 0) 0 (20 * 20))) 4 (allB sn rd ri lim nr)) 5 off) 6 plo) 7 hrs))) (by omega) G8_6
              have G9_7 := zset_ne (q := pn_1) (e' := (q397, zI4 E 10 (upd (upd (upd (upd (upd (upd (upd (upd (fun _ => 0) 0 (nI nf)) 1 (nI nr)) 2 (sumG sn (0 * 20 + 0) 0 (20 * 20))) 3 (mostG sn (0 * 20 + 0) 0 (20 * 20))) 4 (allB sn rd ri lim nr)) 5 off) 6 plo) 7 hrs))) (by omega) G8_7
              have G9_8 := zset_ne (q := pn_1) (e' := (q397, zI4 E 10 (upd (upd (upd (upd (upd (upd (upd (upd (fun _ => 0) 0 (nI nf)) 1 (nI nr)) 2 (sumG sn (0 * 20 + 0) 0 (20 * 20))) 3 (mostG sn (0 * 20 + 0) 0 (20 * 20))) 4 (allB sn rd ri lim nr)) 5 off) 6 plo) 7 hrs))) (by omega) G8_8
              have G9_9 := zset_ne (q := pn_1) (e' := (q397, zI4 E 10 (upd (upd (upd (upd (upd (upd (upd (upd (fun _ => 0) 0 (nI nf)) 1 (nI nr)) 2 (sumG sn (0 * 20 + 0) 0 (20 * 20))) 3 (mostG sn (0 * 20 + 0) 0 (20 * 20))) 4 (allB sn rd ri lim nr)) 5 off) 6 plo) 7 hrs))) (by omega) G8_9
              have G9_10 := zset_ne (q := pn_1) (e' := (q397, zI4 E 10 (upd (upd (upd (upd (upd (upd (upd (upd (fun _ => 0) 0 (nI nf)) 1 (nI nr)) 2 (sumG sn (0 * 20 + 0) 0 (20 * 20))) 3 (mostG sn (0 * 20 + 0) 0 (20 * 20))) 4 (allB sn rd ri lim nr)) 5 off) 6 plo) 7 hrs))) (by omega) G8_10
              have G9_11 := zset_ne (q := pn_1) (e' := (q397, zI4 E 10 (upd (upd (upd (upd (upd (upd (upd (upd (fun _ => 0) 0 (nI nf)) 1 (nI nr)) 2 (sumG sn (0 * 20 + 0) 0 (20 * 20))) 3 (mostG sn (0 * 20 + 0) 0 (20 * 20))) 4 (allB sn rd ri lim nr)) 5 off) 6 plo) 7 hrs))) (by omega) G8_11
              have G9_12 := zset_ne (q := pn_1) (e' := (q397, zI4 E 10 (upd (upd (upd (upd (upd (upd (upd (upd (fun _ => 0) 0 (nI nf)) 1 (nI nr)) 2 (sumG sn (0 * 20 + 0) 0 (20 * 20))) 3 (mostG sn (0 * 20 + 0) 0 (20 * 20))) 4 (allB sn rd ri lim nr)) 5 off) 6 plo) 7 hrs))) (by omega) G8_12
              have G9_13 := zset_ne (q := pn_1) (e' := (q397, zI4 E 10 (upd (upd (upd (upd (upd (upd (upd (upd (fun _ => 0) 0 (nI nf)) 1 (nI nr)) 2 (sumG sn (0 * 20 + 0) 0 (20 * 20))) 3 (mostG sn (0 * 20 + 0) 0 (20 * 20))) 4 (allB sn rd ri lim nr)) 5 off) 6 plo) 7 hrs))) (by omega) G8_13
              have G9_14 := zset_ne (q := pn_1) (e' := (q397, zI4 E 10 (upd (upd (upd (upd (upd (upd (upd (upd (fun _ => 0) 0 (nI nf)) 1 (nI nr)) 2 (sumG sn (0 * 20 + 0) 0 (20 * 20))) 3 (mostG sn (0 * 20 + 0) 0 (20 * 20))) 4 (allB sn rd ri lim nr)) 5 off) 6 plo) 7 hrs))) (by omega) G8_14
              have G9_15 := zset_eq (e' := (q397, zI4 E 10 (upd (upd (upd (upd (upd (upd (upd (upd (fun _ => 0) 0 (nI nf)) 1 (nI nr)) 2 (sumG sn (0 * 20 + 0) 0 (20 * 20))) 3 (mostG sn (0 * 20 + 0) 0 (20 * 20))) 4 (allB sn rd ri lim nr)) 5 off) 6 plo) 7 hrs))) G8_15
              generalize hws9 : (ws_8.set pn_1 (q397, zI4 E 10 (upd (upd (upd (upd (upd (upd (upd (upd (fun _ => 0) 0 (nI nf)) 1 (nI nr)) 2 (sumG sn (0 * 20 + 0) 0 (20 * 20))) 3 (mostG sn (0 * 20 + 0) 0 (20 * 20))) 4 (allB sn rd ri lim nr)) 5 off) 6 plo) 7 hrs))) = ws_9 at J hk G9_0 G9_1 G9_2 G9_3 G9_4 G9_5 G9_6 G9_7 G9_8 G9_9 G9_10 G9_11 G9_12 G9_13 G9_14 G9_15 hF hR hSN
              refine lv_dup hx hb dX7_isSame_453 rfl ?_
              refine lv_bipush (v := nI 8) hx hb dX7_isSame_454 (by decide) ?_
              refine lv_aload_n hx hb dX7_isSame_456 rfl (lv_at hl 3 rfl) ?_
              refine z_get (C := RX7) (T := TX7) (N := 8) (ci := 8) (v := .int lim) X J hi_X7 11 G9_11 rfl 3 (by decide) (by decide +kernel) rfl dX7_isSame_457 ?_
              refine z_iast X J pn_1 G9_15 (vp_in_nI (by omega) (by first | decide | omega)) dX7_isSame_460 (fun H locs J => ?_)
              rw [show upd (upd (upd (upd (upd (upd (upd (upd (upd (fun _ => 0) 0 (nI nf)) 1 (nI nr)) 2 (sumG sn (0 * 20 + 0) 0 (20 * 20))) 3 (mostG sn (0 * 20 + 0) 0 (20 * 20))) 4 (allB sn rd ri lim nr)) 5 off) 6 plo) 7 hrs) (nI 8).toNatClampNeg lim = upd (upd (upd (upd (upd (upd (upd (upd (upd (fun _ => 0) 0 (nI nf)) 1 (nI nr)) 2 (sumG sn (0 * 20 + 0) 0 (20 * 20))) 3 (mostG sn (0 * 20 + 0) 0 (20 * 20))) 4 (allB sn rd ri lim nr)) 5 off) 6 plo) 7 hrs) 8 lim from (by rw [nI_clamp (by omega)])] at J
              have hF := hF.keepS (zK.set (S := [pn_1]) (ws := ws_9) (q := pn_1) (e := (q397, zI4 E 10 (upd (upd (upd (upd (upd (upd (upd (upd (upd (fun _ => 0) 0 (nI nf)) 1 (nI nr)) 2 (sumG sn (0 * 20 + 0) 0 (20 * 20))) 3 (mostG sn (0 * 20 + 0) 0 (20 * 20))) 4 (allB sn rd ri lim nr)) 5 off) 6 plo) 7 hrs) 8 lim))) (List.mem_singleton.mpr rfl)) (fun q9 hq9 => Or.inr ⟨_, _, (List.mem_singleton.mp hq9).symm ▸ G9_15, noL_I⟩)
              have hR := hR.keepS (zK.set (S := [pn_1]) (ws := ws_9) (q := pn_1) (e := (q397, zI4 E 10 (upd (upd (upd (upd (upd (upd (upd (upd (upd (fun _ => 0) 0 (nI nf)) 1 (nI nr)) 2 (sumG sn (0 * 20 + 0) 0 (20 * 20))) 3 (mostG sn (0 * 20 + 0) 0 (20 * 20))) 4 (allB sn rd ri lim nr)) 5 off) 6 plo) 7 hrs) 8 lim))) (List.mem_singleton.mpr rfl)) (fun q9 hq9 => Or.inr ⟨_, _, (List.mem_singleton.mp hq9).symm ▸ G9_15, noL_I⟩)
              have hSN := hSN.keep (zK.set (S := [pn_1]) (ws := ws_9) (q := pn_1) (e := (q397, zI4 E 10 (upd (upd (upd (upd (upd (upd (upd (upd (upd (fun _ => 0) 0 (nI nf)) 1 (nI nr)) 2 (sumG sn (0 * 20 + 0) 0 (20 * 20))) 3 (mostG sn (0 * 20 + 0) 0 (20 * 20))) 4 (allB sn rd ri lim nr)) 5 off) 6 plo) 7 hrs) 8 lim))) (List.mem_singleton.mpr rfl)) (fun r9 hr9 => by simp only [List.mem_cons, rg_mem, List.not_mem_nil, or_false, not_or]; omega)
              have hk := hk.step (zK.set (S := [pn_1]) (ws := ws_9) (q := pn_1) (e := (q397, zI4 E 10 (upd (upd (upd (upd (upd (upd (upd (upd (upd (fun _ => 0) 0 (nI nf)) 1 (nI nr)) 2 (sumG sn (0 * 20 + 0) 0 (20 * 20))) 3 (mostG sn (0 * 20 + 0) 0 (20 * 20))) 4 (allB sn rd ri lim nr)) 5 off) 6 plo) 7 hrs) 8 lim))) (List.mem_singleton.mpr rfl)) (fun q9 a9 n9 f9 h8 h7 h9 => by simp only [List.mem_cons, rg_mem, List.not_mem_nil, or_false, not_or]; omega)
              have G10_0 := zset_ne (q := pn_1) (e' := (q397, zI4 E 10 (upd (upd (upd (upd (upd (upd (upd (upd (upd (fun _ => 0) 0 (nI nf)) 1 (nI nr)) 2 (sumG sn (0 * 20 + 0) 0 (20 * 20))) 3 (mostG sn (0 * 20 + 0) 0 (20 * 20))) 4 (allB sn rd ri lim nr)) 5 off) 6 plo) 7 hrs) 8 lim))) (by omega) G9_0
              have G10_1 := zset_ne (q := pn_1) (e' := (q397, zI4 E 10 (upd (upd (upd (upd (upd (upd (upd (upd (upd (fun _ => 0) 0 (nI nf)) 1 (nI nr)) 2 (sumG sn (0 * 20 + 0) 0 (20 * 20))) 3 (mostG sn (0 * 20 + 0) 0 (20 * 20))) 4 (allB sn rd ri lim nr)) 5 off) 6 plo) 7 hrs) 8 lim))) (by omega) G9_1
              have G10_2 := zset_ne (q := pn_1) (e' := (q397, zI4 E 10 (upd (upd (upd (upd (upd (upd (upd (upd (upd (fun _ => 0) 0 (nI nf)) 1 (nI nr)) 2 (sumG sn (0 * 20 + 0) 0 (20 * 20))) 3 (mostG sn (0 * 20 + 0) 0 (20 * 20))) 4 (allB sn rd ri lim nr)) 5 off) 6 plo) 7 hrs) 8 lim))) (by omega) G9_2
              have G10_3 := zset_ne (q := pn_1) (e' := (q397, zI4 E 10 (upd (upd (upd (upd (upd (upd (upd (upd (upd (fun _ => 0) 0 (nI nf)) 1 (nI nr)) 2 (sumG sn (0 * 20 + 0) 0 (20 * 20))) 3 (mostG sn (0 * 20 + 0) 0 (20 * 20))) 4 (allB sn rd ri lim nr)) 5 off) 6 plo) 7 hrs) 8 lim))) (by omega) G9_3
              have G10_4 := zset_ne (q := pn_1) (e' := (q397, zI4 E 10 (upd (upd (upd (upd (upd (upd (upd (upd (upd (fun _ => 0) 0 (nI nf)) 1 (nI nr)) 2 (sumG sn (0 * 20 + 0) 0 (20 * 20))) 3 (mostG sn (0 * 20 + 0) 0 (20 * 20))) 4 (allB sn rd ri lim nr)) 5 off) 6 plo) 7 hrs) 8 lim))) (by omega) G9_4
              have G10_5 := zset_ne (q := pn_1) (e' := (q397, zI4 E 10 (upd (upd (upd (upd (upd (upd (upd (upd (upd (fun _ => 0) 0 (nI nf)) 1 (nI nr)) 2 (sumG sn (0 * 20 + 0) 0 (20 * 20))) 3 (mostG sn (0 * 20 + 0) 0 (20 * 20))) 4 (allB sn rd ri lim nr)) 5 off) 6 plo) 7 hrs) 8 lim))) (by omega) G9_5
              have G10_6 := zset_ne (q := pn_1) (e' := (q397, zI4 E 10 (upd (upd (upd (upd (upd (upd (upd (upd (upd (fun _ => 0) 0 (nI nf)) 1 (nI nr)) 2 (sumG sn (0 * 20 + 0) 0 (20 * 20))) 3 (mostG sn (0 * 20 + 0) 0 (20 * 20))) 4 (allB sn rd ri lim nr)) 5 off) 6 plo) 7 hrs) 8 lim))) (by omega) G9_6
              have G10_7 := zset_ne (q := pn_1) (e' := (q397, zI4 E 10 (upd (upd (upd (upd (upd (upd (upd (upd (upd (fun _ => 0) 0 (nI nf)) 1 (nI nr)) 2 (sumG sn (0 * 20 + 0) 0 (20 * 20))) 3 (mostG sn (0 * 20 + 0) 0 (20 * 20))) 4 (allB sn rd ri lim nr)) 5 off) 6 plo) 7 hrs) 8 lim))) (by omega) G9_7
              have G10_8 := zset_ne (q := pn_1) (e' := (q397, zI4 E 10 (upd (upd (upd (upd (upd (upd (upd (upd (upd (fun _ => 0) 0 (nI nf)) 1 (nI nr)) 2 (sumG sn (0 * 20 + 0) 0 (20 * 20))) 3 (mostG sn (0 * 20 + 0) 0 (20 * 20))) 4 (allB sn rd ri lim nr)) 5 off) 6 plo) 7 hrs) 8 lim))) (by omega) G9_8
              have G10_9 := zset_ne (q := pn_1) (e' := (q397, zI4 E 10 (upd (upd (upd (upd (upd (upd (upd (upd (upd (fun _ => 0) 0 (nI nf)) 1 (nI nr)) 2 (sumG sn (0 * 20 + 0) 0 (20 * 20))) 3 (mostG sn (0 * 20 + 0) 0 (20 * 20))) 4 (allB sn rd ri lim nr)) 5 off) 6 plo) 7 hrs) 8 lim))) (by omega) G9_9
              have G10_10 := zset_ne (q := pn_1) (e' := (q397, zI4 E 10 (upd (upd (upd (upd (upd (upd (upd (upd (upd (fun _ => 0) 0 (nI nf)) 1 (nI nr)) 2 (sumG sn (0 * 20 + 0) 0 (20 * 20))) 3 (mostG sn (0 * 20 + 0) 0 (20 * 20))) 4 (allB sn rd ri lim nr)) 5 off) 6 plo) 7 hrs) 8 lim))) (by omega) G9_10
              have G10_11 := zset_ne (q := pn_1) (e' := (q397, zI4 E 10 (upd (upd (upd (upd (upd (upd (upd (upd (upd (fun _ => 0) 0 (nI nf)) 1 (nI nr)) 2 (sumG sn (0 * 20 + 0) 0 (20 * 20))) 3 (mostG sn (0 * 20 + 0) 0 (20 * 20))) 4 (allB sn rd ri lim nr)) 5 off) 6 plo) 7 hrs) 8 lim))) (by omega) G9_11
              have G10_12 := zset_ne (q := pn_1) (e' := (q397, zI4 E 10 (upd (upd (upd (upd (upd (upd (upd (upd (upd (fun _ => 0) 0 (nI nf)) 1 (nI nr)) 2 (sumG sn (0 * 20 + 0) 0 (20 * 20))) 3 (mostG sn (0 * 20 + 0) 0 (20 * 20))) 4 (allB sn rd ri lim nr)) 5 off) 6 plo) 7 hrs) 8 lim))) (by omega) G9_12
              have G10_13 := zset_ne (q := pn_1) (e' := (q397, zI4 E 10 (upd (upd (upd (upd (upd (upd (upd (upd (upd (fun _ => 0) 0 (nI nf)) 1 (nI nr)) 2 (sumG sn (0 * 20 + 0) 0 (20 * 20))) 3 (mostG sn (0 * 20 + 0) 0 (20 * 20))) 4 (allB sn rd ri lim nr)) 5 off) 6 plo) 7 hrs) 8 lim))) (by omega) G9_13
              have G10_14 := zset_ne (q := pn_1) (e' := (q397, zI4 E 10 (upd (upd (upd (upd (upd (upd (upd (upd (upd (fun _ => 0) 0 (nI nf)) 1 (nI nr)) 2 (sumG sn (0 * 20 + 0) 0 (20 * 20))) 3 (mostG sn (0 * 20 + 0) 0 (20 * 20))) 4 (allB sn rd ri lim nr)) 5 off) 6 plo) 7 hrs) 8 lim))) (by omega) G9_14
              have G10_15 := zset_eq (e' := (q397, zI4 E 10 (upd (upd (upd (upd (upd (upd (upd (upd (upd (fun _ => 0) 0 (nI nf)) 1 (nI nr)) 2 (sumG sn (0 * 20 + 0) 0 (20 * 20))) 3 (mostG sn (0 * 20 + 0) 0 (20 * 20))) 4 (allB sn rd ri lim nr)) 5 off) 6 plo) 7 hrs) 8 lim))) G9_15
              generalize hws10 : (ws_9.set pn_1 (q397, zI4 E 10 (upd (upd (upd (upd (upd (upd (upd (upd (upd (fun _ => 0) 0 (nI nf)) 1 (nI nr)) 2 (sumG sn (0 * 20 + 0) 0 (20 * 20))) 3 (mostG sn (0 * 20 + 0) 0 (20 * 20))) 4 (allB sn rd ri lim nr)) 5 off) 6 plo) 7 hrs) 8 lim))) = ws_10 at J hk G10_0 G10_1 G10_2 G10_3 G10_4 G10_5 G10_6 G10_7 G10_8 G10_9 G10_10 G10_11 G10_12 G10_13 G10_14 G10_15 hF hR hSN
              refine lv_dup hx hb dX7_isSame_461 rfl ?_
              refine lv_bipush (v := nI 9) hx hb dX7_isSame_462 (by decide) ?_
              refine lv_aload_n hx hb dX7_isSame_464 rfl (lv_at hl 3 rfl) ?_
              refine z_get (C := RX7) (T := TX7) (N := 8) (ci := 8) (v := .int sup) X J hi_X7 11 G10_11 rfl 4 (by decide) (by decide +kernel) rfl dX7_isSame_465 ?_
              refine z_iast X J pn_1 G10_15 (vp_in_nI (by omega) (by first | decide | omega)) dX7_isSame_468 (fun H locs J => ?_)
              rw [show upd (upd (upd (upd (upd (upd (upd (upd (upd (upd (fun _ => 0) 0 (nI nf)) 1 (nI nr)) 2 (sumG sn (0 * 20 + 0) 0 (20 * 20))) 3 (mostG sn (0 * 20 + 0) 0 (20 * 20))) 4 (allB sn rd ri lim nr)) 5 off) 6 plo) 7 hrs) 8 lim) (nI 9).toNatClampNeg sup = upd (upd (upd (upd (upd (upd (upd (upd (upd (upd (fun _ => 0) 0 (nI nf)) 1 (nI nr)) 2 (sumG sn (0 * 20 + 0) 0 (20 * 20))) 3 (mostG sn (0 * 20 + 0) 0 (20 * 20))) 4 (allB sn rd ri lim nr)) 5 off) 6 plo) 7 hrs) 8 lim) 9 sup from (by rw [nI_clamp (by omega)])] at J
              have hF := hF.keepS (zK.set (S := [pn_1]) (ws := ws_10) (q := pn_1) (e := (q397, zI4 E 10 (upd (upd (upd (upd (upd (upd (upd (upd (upd (upd (fun _ => 0) 0 (nI nf)) 1 (nI nr)) 2 (sumG sn (0 * 20 + 0) 0 (20 * 20))) 3 (mostG sn (0 * 20 + 0) 0 (20 * 20))) 4 (allB sn rd ri lim nr)) 5 off) 6 plo) 7 hrs) 8 lim) 9 sup))) (List.mem_singleton.mpr rfl)) (fun q9 hq9 => Or.inr ⟨_, _, (List.mem_singleton.mp hq9).symm ▸ G10_15, noL_I⟩)
              have hR := hR.keepS (zK.set (S := [pn_1]) (ws := ws_10) (q := pn_1) (e := (q397, zI4 E 10 (upd (upd (upd (upd (upd (upd (upd (upd (upd (upd (fun _ => 0) 0 (nI nf)) 1 (nI nr)) 2 (sumG sn (0 * 20 + 0) 0 (20 * 20))) 3 (mostG sn (0 * 20 + 0) 0 (20 * 20))) 4 (allB sn rd ri lim nr)) 5 off) 6 plo) 7 hrs) 8 lim) 9 sup))) (List.mem_singleton.mpr rfl)) (fun q9 hq9 => Or.inr ⟨_, _, (List.mem_singleton.mp hq9).symm ▸ G10_15, noL_I⟩)
              have hSN := hSN.keep (zK.set (S := [pn_1]) (ws := ws_10) (q := pn_1) (e := (q397, zI4 E 10 (upd (upd (upd (upd (upd (upd (upd (upd (upd (upd (fun _ => 0) 0 (nI nf)) 1 (nI nr)) 2 (sumG sn (0 * 20 + 0) 0 (20 * 20))) 3 (mostG sn (0 * 20 + 0) 0 (20 * 20))) 4 (allB sn rd ri lim nr)) 5 off) 6 plo) 7 hrs) 8 lim) 9 sup))) (List.mem_singleton.mpr rfl)) (fun r9 hr9 => by simp only [List.mem_cons, rg_mem, List.not_mem_nil, or_false, not_or]; omega)
              have hk := hk.step (zK.set (S := [pn_1]) (ws := ws_10) (q := pn_1) (e := (q397, zI4 E 10 (upd (upd (upd (upd (upd (upd (upd (upd (upd (upd (fun _ => 0) 0 (nI nf)) 1 (nI nr)) 2 (sumG sn (0 * 20 + 0) 0 (20 * 20))) 3 (mostG sn (0 * 20 + 0) 0 (20 * 20))) 4 (allB sn rd ri lim nr)) 5 off) 6 plo) 7 hrs) 8 lim) 9 sup))) (List.mem_singleton.mpr rfl)) (fun q9 a9 n9 f9 h8 h7 h9 => by simp only [List.mem_cons, rg_mem, List.not_mem_nil, or_false, not_or]; omega)
              have G11_0 := zset_ne (q := pn_1) (e' := (q397, zI4 E 10 (upd (upd (upd (upd (upd (upd (upd (upd (upd (upd (fun _ => 0) 0 (nI nf)) 1 (nI nr)) 2 (sumG sn (0 * 20 + 0) 0 (20 * 20))) 3 (mostG sn (0 * 20 + 0) 0 (20 * 20))) 4 (allB sn rd ri lim nr)) 5 off) 6 plo) 7 hrs) 8 lim) 9 sup))) (by omega) G10_0
              have G11_1 := zset_ne (q := pn_1) (e' := (q397, zI4 E 10 (upd (upd (upd (upd (upd (upd (upd (upd (upd (upd (fun _ => 0) 0 (nI nf)) 1 (nI nr)) 2 (sumG sn (0 * 20 + 0) 0 (20 * 20))) 3 (mostG sn (0 * 20 + 0) 0 (20 * 20))) 4 (allB sn rd ri lim nr)) 5 off) 6 plo) 7 hrs) 8 lim) 9 sup))) (by omega) G10_1
              have G11_2 := zset_ne (q := pn_1) (e' := (q397, zI4 E 10 (upd (upd (upd (upd (upd (upd (upd (upd (upd (upd (fun _ => 0) 0 (nI nf)) 1 (nI nr)) 2 (sumG sn (0 * 20 + 0) 0 (20 * 20))) 3 (mostG sn (0 * 20 + 0) 0 (20 * 20))) 4 (allB sn rd ri lim nr)) 5 off) 6 plo) 7 hrs) 8 lim) 9 sup))) (by omega) G10_2
              have G11_3 := zset_ne (q := pn_1) (e' := (q397, zI4 E 10 (upd (upd (upd (upd (upd (upd (upd (upd (upd (upd (fun _ => 0) 0 (nI nf)) 1 (nI nr)) 2 (sumG sn (0 * 20 + 0) 0 (20 * 20))) 3 (mostG sn (0 * 20 + 0) 0 (20 * 20))) 4 (allB sn rd ri lim nr)) 5 off) 6 plo) 7 hrs) 8 lim) 9 sup))) (by omega) G10_3
              have G11_4 := zset_ne (q := pn_1) (e' := (q397, zI4 E 10 (upd (upd (upd (upd (upd (upd (upd (upd (upd (upd (fun _ => 0) 0 (nI nf)) 1 (nI nr)) 2 (sumG sn (0 * 20 + 0) 0 (20 * 20))) 3 (mostG sn (0 * 20 + 0) 0 (20 * 20))) 4 (allB sn rd ri lim nr)) 5 off) 6 plo) 7 hrs) 8 lim) 9 sup))) (by omega) G10_4
              have G11_5 := zset_ne (q := pn_1) (e' := (q397, zI4 E 10 (upd (upd (upd (upd (upd (upd (upd (upd (upd (upd (fun _ => 0) 0 (nI nf)) 1 (nI nr)) 2 (sumG sn (0 * 20 + 0) 0 (20 * 20))) 3 (mostG sn (0 * 20 + 0) 0 (20 * 20))) 4 (allB sn rd ri lim nr)) 5 off) 6 plo) 7 hrs) 8 lim) 9 sup))) (by omega) G10_5
              have G11_6 := zset_ne (q := pn_1) (e' := (q397, zI4 E 10 (upd (upd (upd (upd (upd (upd (upd (upd (upd (upd (fun _ => 0) 0 (nI nf)) 1 (nI nr)) 2 (sumG sn (0 * 20 + 0) 0 (20 * 20))) 3 (mostG sn (0 * 20 + 0) 0 (20 * 20))) 4 (allB sn rd ri lim nr)) 5 off) 6 plo) 7 hrs) 8 lim) 9 sup))) (by omega) G10_6
              have G11_7 := zset_ne (q := pn_1) (e' := (q397, zI4 E 10 (upd (upd (upd (upd (upd (upd (upd (upd (upd (upd (fun _ => 0) 0 (nI nf)) 1 (nI nr)) 2 (sumG sn (0 * 20 + 0) 0 (20 * 20))) 3 (mostG sn (0 * 20 + 0) 0 (20 * 20))) 4 (allB sn rd ri lim nr)) 5 off) 6 plo) 7 hrs) 8 lim) 9 sup))) (by omega) G10_7
              have G11_8 := zset_ne (q := pn_1) (e' := (q397, zI4 E 10 (upd (upd (upd (upd (upd (upd (upd (upd (upd (upd (fun _ => 0) 0 (nI nf)) 1 (nI nr)) 2 (sumG sn (0 * 20 + 0) 0 (20 * 20))) 3 (mostG sn (0 * 20 + 0) 0 (20 * 20))) 4 (allB sn rd ri lim nr)) 5 off) 6 plo) 7 hrs) 8 lim) 9 sup))) (by omega) G10_8
              have G11_9 := zset_ne (q := pn_1) (e' := (q397, zI4 E 10 (upd (upd (upd (upd (upd (upd (upd (upd (upd (upd (fun _ => 0) 0 (nI nf)) 1 (nI nr)) 2 (sumG sn (0 * 20 + 0) 0 (20 * 20))) 3 (mostG sn (0 * 20 + 0) 0 (20 * 20))) 4 (allB sn rd ri lim nr)) 5 off) 6 plo) 7 hrs) 8 lim) 9 sup))) (by omega) G10_9
              have G11_10 := zset_ne (q := pn_1) (e' := (q397, zI4 E 10 (upd (upd (upd (upd (upd (upd (upd (upd (upd (upd (fun _ => 0) 0 (nI nf)) 1 (nI nr)) 2 (sumG sn (0 * 20 + 0) 0 (20 * 20))) 3 (mostG sn (0 * 20 + 0) 0 (20 * 20))) 4 (allB sn rd ri lim nr)) 5 off) 6 plo) 7 hrs) 8 lim) 9 sup))) (by omega) G10_10
              have G11_11 := zset_ne (q := pn_1) (e' := (q397, zI4 E 10 (upd (upd (upd (upd (upd (upd (upd (upd (upd (upd (fun _ => 0) 0 (nI nf)) 1 (nI nr)) 2 (sumG sn (0 * 20 + 0) 0 (20 * 20))) 3 (mostG sn (0 * 20 + 0) 0 (20 * 20))) 4 (allB sn rd ri lim nr)) 5 off) 6 plo) 7 hrs) 8 lim) 9 sup))) (by omega) G10_11
              have G11_12 := zset_ne (q := pn_1) (e' := (q397, zI4 E 10 (upd (upd (upd (upd (upd (upd (upd (upd (upd (upd (fun _ => 0) 0 (nI nf)) 1 (nI nr)) 2 (sumG sn (0 * 20 + 0) 0 (20 * 20))) 3 (mostG sn (0 * 20 + 0) 0 (20 * 20))) 4 (allB sn rd ri lim nr)) 5 off) 6 plo) 7 hrs) 8 lim) 9 sup))) (by omega) G10_12
              have G11_13 := zset_ne (q := pn_1) (e' := (q397, zI4 E 10 (upd (upd (upd (upd (upd (upd (upd (upd (upd (upd (fun _ => 0) 0 (nI nf)) 1 (nI nr)) 2 (sumG sn (0 * 20 + 0) 0 (20 * 20))) 3 (mostG sn (0 * 20 + 0) 0 (20 * 20))) 4 (allB sn rd ri lim nr)) 5 off) 6 plo) 7 hrs) 8 lim) 9 sup))) (by omega) G10_13
              have G11_14 := zset_ne (q := pn_1) (e' := (q397, zI4 E 10 (upd (upd (upd (upd (upd (upd (upd (upd (upd (upd (fun _ => 0) 0 (nI nf)) 1 (nI nr)) 2 (sumG sn (0 * 20 + 0) 0 (20 * 20))) 3 (mostG sn (0 * 20 + 0) 0 (20 * 20))) 4 (allB sn rd ri lim nr)) 5 off) 6 plo) 7 hrs) 8 lim) 9 sup))) (by omega) G10_14
              have G11_15 := zset_eq (e' := (q397, zI4 E 10 (upd (upd (upd (upd (upd (upd (upd (upd (upd (upd (fun _ => 0) 0 (nI nf)) 1 (nI nr)) 2 (sumG sn (0 * 20 + 0) 0 (20 * 20))) 3 (mostG sn (0 * 20 + 0) 0 (20 * 20))) 4 (allB sn rd ri lim nr)) 5 off) 6 plo) 7 hrs) 8 lim) 9 sup))) G10_15
              generalize hws11 : (ws_10.set pn_1 (q397, zI4 E 10 (upd (upd (upd (upd (upd (upd (upd (upd (upd (upd (fun _ => 0) 0 (nI nf)) 1 (nI nr)) 2 (sumG sn (0 * 20 + 0) 0 (20 * 20))) 3 (mostG sn (0 * 20 + 0) 0 (20 * 20))) 4 (allB sn rd ri lim nr)) 5 off) 6 plo) 7 hrs) 8 lim) 9 sup))) = ws_11 at J hk G11_0 G11_1 G11_2 G11_3 G11_4 G11_5 G11_6 G11_7 G11_8 G11_9 G11_10 G11_11 G11_12 G11_13 G11_14 G11_15 hF hR hSN
              refine lv_astore (lv' := [(4, .ref q397), (3, .int (mostG sn (0 * 20 + 0) 0 (20 * 20))), (2, .int (sumG sn (0 * 20 + 0) 0 (20 * 20))), (0, .ref z), (1, .ref x)]) hx hb dX7_isSame_469 hl (by decide) rfl (fun ls hl => ?_)
              refine lv_iconst (v := nI 0) hx hb dX7_isSame_471 rfl ?_
              refine lv_istore (lv' := [(5, .int (nI 0)), (4, .ref q397), (3, .int (mostG sn (0 * 20 + 0) 0 (20 * 20))), (2, .int (sumG sn (0 * 20 + 0) 0 (20 * 20))), (0, .ref z), (1, .ref x)]) hx hb dX7_isSame_472 hl (by decide) rfl (fun ls hl => ?_)
              refine W.widen (k := 2950 + 6 * 0) (n := 19700 + 40 * 0) (by omega) (by omega) ?_
              have loop_474 : ∀ (k9 w : Nat), w + k9 = 10 → ∀ (wl474 : va_W) (H : Heap) (locs : List Loc) (ls : Array Slot), zKi E ws wl474 → wl474[0]? = some (x, .inr (7, [.ref fl, .ref rl, .ref wh, .ref gr, .ref tr, .ref sc, .int lim, .int sup, .int off, .int plo, .int hrs])) → wl474[1]? = some (fl, .inr (0, [.int mc1, .ref ea, .int (nI nf)])) → wl474[2]? = some (rl, .inr (0, [.int mc2, .ref eb, .int (nI nr)])) → wl474[3]? = some (wh, .inr (5, [.int (0 * 20 + 0), .int (nI 400), .int 0])) → wl474[4]? = some (gr, .inr (2, [.ref gra])) → wl474[5]? = some (gra, zI4 E 400 sn) → wl474[6]? = some (tr, .inr (2, [.ref tra])) → wl474[7]? = some (tra, zI4 E 400 t9) → wl474[8]? = some (sc, .inr (4, [.ref ha, .ref va])) → wl474[9]? = some (ha, zI4 E 400 hf) → wl474[10]? = some (va, zI4 E 400 gf) → wl474[11]? = some (z, .inr (8, [.ref fe, .ref ro, .ref sa, .int lim, .int sup, .int off, .int plo, .int hrs])) → wl474[14]? = some (sa, zA4 E 20 gs) → wl474[qf]? = some (fe, zA4 E nf g) → wl474[qr]? = some (ro, zA4 E nr gq) → wl474[pn_1]? = some (q397, zI4 E 10 (upd (upd (upd (upd (upd (upd (upd (upd (upd (upd (fun _ => 0) 0 (nI nf)) 1 (nI nr)) 2 (sumG sn (0 * 20 + 0) 0 (20 * 20))) 3 (mostG sn (0 * 20 + 0) 0 (20 * 20))) 4 (allB sn rd ri lim nr)) 5 off) 6 plo) 7 hrs) 8 lim) 9 sup)) → FS E wl474 fa ea nf → RS E wl474 rd ri eb nr → SN E wl474 15 gs sn → zJ E wl474 s H locs → lv_has ls 9 [(5, .int (nI w)), (4, .ref q397), (3, .int (mostG sn (0 * 20 + 0) 0 (20 * 20))), (2, .int (sumG sn (0 * 20 + 0) 0 (20 * 20))), (0, .ref z), (1, .ref x)] → W p l e (headSpec wsX7_isSame ({ frames := 8, cells := 3010, slots := 20100, locals := 126 } : Room)).room s m args below meth c H locs (2950 + 6 * w) (19700 + 40 * w) QQ (F0 m 474 ls []) := by
                intro k9
                induction k9 with
                | zero =>
                  intro w hik wl474 H locs ls hk L474_0 L474_1 L474_2 L474_3 L474_4 L474_5 L474_6 L474_7 L474_8 L474_9 L474_10 L474_11 L474_12 L474_13 L474_14 L474_15 hF hR hSN J hl
                  obtain rfl : 10 = w := by omega
                  refine lv_iload hx hb dX7_isSame_474 (lv_at hl 0 rfl) ?_
                  refine lv_bipush (v := nI 10) hx hb dX7_isSame_476 (by decide) ?_
                  refine lv_icmp_ge (tgt := 503) hx hb dX7_isSame_478 (by decide) (fun cz478 => ?_) (fun cz478 => by exact (cz478 (nI_le (Nat.le_refl _) (by omega))).elim)
                  refine lv_aload_n hx hb dX7_isSame_503 rfl (lv_at hl 5 rfl) ?_
                  refine z_crd (z_rV (As := []) (rest := []) (ci := 7) (q0 := 0) X J (cX6_mean_ok l E L474_0 L474_3 L474_4 L474_5) (cwV 0 hts gX7_isSame_X6_mean rfl rfl rfl (by decide +kernel) ⟨Nat.le_of_ble_eq_true rfl, Nat.le_of_ble_eq_true rfl⟩) L474_0 rfl rfl rfl hl.1 rfl (Nat.le_of_ble_eq_true rfl) dX7_isSame_504 ⟨Nat.le_of_ble_eq_true rfl, Nat.le_of_ble_eq_true rfl⟩) (fun r504 e_r504 => ?_)
                  refine W.eq (g2 := F0 m 507 ls [.double (FP.ddiv (FP.i2d (sumA sn)) 4645744490609377280)]) (congrArg (fun z9 : UInt64 => F0 m 507 ls [.double z9]) (show (r504 : UInt64) = FP.ddiv (FP.i2d (sumA sn)) 4645744490609377280 from e_r504)) ?_
                  refine lv_iload_n hx hb dX7_isSame_507 rfl (lv_at hl 3 rfl) ?_
                  refine lv_i2d hx hb dX7_isSame_508 ?_
                  refine lv_ldc2d (v := 4645744490609377280) hx hb hown (hts (.constantDouble RX7 106 4645744490609377280) (by decide +kernel)) dX7_isSame_509 ?_
                  refine lv_ddiv hx hb dX7_isSame_512 (mean_n64 _) ?_
                  refine W.eq (g2 := F0 m 513 ls [.double (FP.ddiv (FP.i2d (sumA sn)) 4645744490609377280), .double (FP.ddiv (FP.i2d (sumA sn)) 4645744490609377280)]) (congrArg (fun z9 : UInt64 => F0 m 513 ls [.double z9, .double (FP.ddiv (FP.i2d (sumA sn)) 4645744490609377280)]) (show (FP.ddiv (FP.i2d (sumG sn (0 * 20 + 0) 0 (20 * 20))) 4645744490609377280 : UInt64) = FP.ddiv (FP.i2d (sumA sn)) 4645744490609377280 from rfl)) ?_
                  refine lv_dcmp hx hb dX7_isSame_513 ?_
                  refine W.eq (g2 := F0 m 514 ls [.int 0]) (congrArg (fun z9 : Int32 => F0 m 514 ls [.int z9]) (show (Op.cmpValue (FP.dcmp (FP.ddiv (FP.i2d (sumA sn)) 4645744490609377280) (FP.ddiv (FP.i2d (sumA sn)) 4645744490609377280)) .l : Int32) = 0 from (cmp_self (mean_n64 _)))) ?_
                  refine lv_if_ne (tgt := 521) hx hb dX7_isSame_514 (by decide) (fun cz514 => by exact absurd cz514 (by decide)) (fun cz514 => ?_)
                  refine lv_iconst (v := 1) hx hb dX7_isSame_517 (by decide) ?_
                  refine lv_goto (tgt := 522) hx hb dX7_isSame_518 (by decide) ?_
                  refine W.widen (k := 3010) (n := 20100) (by omega) (by omega) ?_
                  subst hQ
                  exact W.zret (v := 1) hx hb hr rfl (fun t ht hW => ⟨⟨1, wl474, rfl, ⟨hk, rfl⟩, J.I X ht hW.alike⟩, J.F ht⟩) J.locs dX7_isSame_522
                | succ k9 ih_474 =>
                  intro w hik wl474 H locs ls hk L474_0 L474_1 L474_2 L474_3 L474_4 L474_5 L474_6 L474_7 L474_8 L474_9 L474_10 L474_11 L474_12 L474_13 L474_14 L474_15 hF hR hSN J hl
                  refine lv_iload hx hb dX7_isSame_474 (lv_at hl 0 rfl) ?_
                  refine lv_bipush (v := nI 10) hx hb dX7_isSame_476 (by decide) ?_
                  refine lv_icmp_ge (tgt := 503) hx hb dX7_isSame_478 (by decide) (fun cz478 => by exact (nI_ge (by omega) (by omega) cz478).elim) (fun cz478 => ?_)
                  refine lv_aload_n hx hb dX7_isSame_481 rfl (lv_at hl 5 rfl) ?_
                  refine lv_iload hx hb dX7_isSame_482 (lv_at hl 0 rfl) ?_
                  refine z_xi J (z_yV (As := [.int (nI w)]) (rest := []) (ci := 7) (q0 := 0) X hRz J (cX6_count_ok l hflags E L474_0 L474_1 L474_2 L474_3 L474_4 L474_5 (by first | assumption | omega | decide) (by first | assumption | omega | decide)) (cwV 1 hts gX7_isSame_X6_count rfl rfl rfl (by decide +kernel) ⟨Nat.le_of_ble_eq_true rfl, Nat.le_of_ble_eq_true rfl⟩) L474_0 rfl rfl rfl hl.1 rfl (Nat.le_of_ble_eq_true rfl) dX7_isSame_484 ⟨by show _ ≤ 3010; omega, by show _ ≤ 20100; omega⟩) (fun nm ce q9 H locs hp9 J h1 h2 h3 => ?_) (fun r484 ws_12 H locs hp9 J => ?_)
                  · exact False.elim (by exact absurd hp9.1 (by rw [show kCount (nI w) = 0 from kCount_ok (by omega)]; decide))
                  obtain ⟨rfl, e_r484⟩ := hp9
                  refine W.eq (g2 := F0 m 487 ls [.int ((upd (upd (upd (upd (upd (upd (upd (upd (upd (upd (fun _ => 0) 0 (nI nf)) 1 (nI nr)) 2 (sumG sn (0 * 20 + 0) 0 (20 * 20))) 3 (mostG sn (0 * 20 + 0) 0 (20 * 20))) 4 (allB sn rd ri lim nr)) 5 off) 6 plo) 7 hrs) 8 lim) 9 sup) w)]) (congrArg (fun z9 : Int32 => F0 m 487 ls [.int z9]) (show (r484 : Int32) = (upd (upd (upd (upd (upd (upd (upd (upd (upd (upd (fun _ => 0) 0 (nI nf)) 1 (nI nr)) 2 (sumG sn (0 * 20 + 0) 0 (20 * 20))) 3 (mostG sn (0 * 20 + 0) 0 (20 * 20))) 4 (allB sn rd ri lim nr)) 5 off) 6 plo) 7 hrs) 8 lim) 9 sup) w from (by rw [e_r484.2]; exact count_10 (by omega)))) ?_
                  refine lv_aload hx hb dX7_isSame_487 (lv_at hl 1 rfl) ?_
                  refine lv_iload hx hb dX7_isSame_489 (lv_at hl 0 rfl) ?_
                  refine z_iald X J pn_1 L474_15 (vp_in_nI (by omega) (by first | decide | omega)) dX7_isSame_491 ?_
                  refine W.eq (g2 := F0 m 492 ls [.int ((upd (upd (upd (upd (upd (upd (upd (upd (upd (upd (fun _ => 0) 0 (nI nf)) 1 (nI nr)) 2 (sumG sn (0 * 20 + 0) 0 (20 * 20))) 3 (mostG sn (0 * 20 + 0) 0 (20 * 20))) 4 (allB sn rd ri lim nr)) 5 off) 6 plo) 7 hrs) 8 lim) 9 sup) w), .int ((upd (upd (upd (upd (upd (upd (upd (upd (upd (upd (fun _ => 0) 0 (nI nf)) 1 (nI nr)) 2 (sumG sn (0 * 20 + 0) 0 (20 * 20))) 3 (mostG sn (0 * 20 + 0) 0 (20 * 20))) 4 (allB sn rd ri lim nr)) 5 off) 6 plo) 7 hrs) 8 lim) 9 sup) w)]) (congrArg (fun z9 : Int32 => F0 m 492 ls [.int z9, .int ((upd (upd (upd (upd (upd (upd (upd (upd (upd (upd (fun _ => 0) 0 (nI nf)) 1 (nI nr)) 2 (sumG sn (0 * 20 + 0) 0 (20 * 20))) 3 (mostG sn (0 * 20 + 0) 0 (20 * 20))) 4 (allB sn rd ri lim nr)) 5 off) 6 plo) 7 hrs) 8 lim) 9 sup) w)]) (show ((upd (upd (upd (upd (upd (upd (upd (upd (upd (upd (fun _ => 0) 0 (nI nf)) 1 (nI nr)) 2 (sumG sn (0 * 20 + 0) 0 (20 * 20))) 3 (mostG sn (0 * 20 + 0) 0 (20 * 20))) 4 (allB sn rd ri lim nr)) 5 off) 6 plo) 7 hrs) 8 lim) 9 sup) (nI w).toNatClampNeg : Int32) = (upd (upd (upd (upd (upd (upd (upd (upd (upd (upd (fun _ => 0) 0 (nI nf)) 1 (nI nr)) 2 (sumG sn (0 * 20 + 0) 0 (20 * 20))) 3 (mostG sn (0 * 20 + 0) 0 (20 * 20))) 4 (allB sn rd ri lim nr)) 5 off) 6 plo) 7 hrs) 8 lim) 9 sup) w from (congrArg _ (nI_clamp (by omega))))) ?_
                  refine lv_icmp_eq (tgt := 497) hx hb dX7_isSame_492 (by decide) (fun cz492 => ?_) (fun cz492 => by exact (cz492 rfl).elim)
                  refine lv_iinc (v := nI (w + 1)) (lv' := [(5, .int (nI (w + 1))), (4, .ref q397), (3, .int (mostG sn (0 * 20 + 0) 0 (20 * 20))), (2, .int (sumG sn (0 * 20 + 0) 0 (20 * 20))), (0, .ref z), (1, .ref x)]) hx hb dX7_isSame_497 hl (k := 0) rfl (nI_1 w) (by decide) rfl (fun ls hl => ?_)
                  refine lv_goto (tgt := 474) hx hb dX7_isSame_500 (by decide) ?_
                  refine W.widen (k := (2950 + 6 * (w + 1))) (n := (19700 + 40 * (w + 1))) (by omega) (by omega) ?_
                  exact ih_474 (w + 1) (by omega) _ _ _ _ hk L474_0 L474_1 L474_2 L474_3 L474_4 L474_5 L474_6 L474_7 L474_8 L474_9 L474_10 L474_11 L474_12 L474_13 L474_14 L474_15 hF hR hSN J (lv_sub hl [0, 1, 2, 3, 4, 5] rfl)
              exact loop_474 10 0 (by omega) _ _ _ _ hk G11_0 G11_1 G11_2 G11_3 G11_4 G11_5 G11_6 G11_7 G11_8 G11_9 G11_10 G11_11 G11_12 G11_13 G11_14 G11_15 hF hR hSN J (lv_sub hl [0, 1, 2, 3, 4, 5] rfl)
            | succ k9 ih_233 =>
              intro q hik wl233 H locs ls hk L233_0 L233_1 L233_2 L233_3 L233_4 L233_5 L233_6 L233_7 L233_8 L233_9 L233_10 L233_11 L233_12 L233_13 L233_14 hF hR hSN J hl
              refine lv_iload hx hb dX7_isSame_233 (lv_at hl 0 rfl) ?_
              refine lv_aload_n hx hb dX7_isSame_235 rfl (lv_at hl 3 rfl) ?_
              refine z_get (C := RX7) (T := TX7) (N := 8) (ci := 8) (v := .ref ro) X J hi_X7 11 L233_11 rfl 1 (by decide) (by decide +kernel) rfl dX7_isSame_236 ?_
              refine z_alenA (v := nI nr) X J qr L233_14 rfl dX7_isSame_239 ?_
              refine lv_icmp_ge (tgt := 395) hx hb dX7_isSame_240 (by decide) (fun cz240 => by exact (nI_ge (by omega) (by omega) cz240).elim) (fun cz240 => ?_)
              obtain ⟨ja, jq, jf, hgj, hj35, hjf, hj0, hj1⟩ := hSR.keepI hk q (by omega)
              obtain ⟨jd, jx, hjx, hjy⟩ := hor q (by omega)
              refine lv_iconst (v := sumG sn (rfi (rd q) (ri q)) (rd q) 0) hx hb dX7_isSame_243 rfl ?_
              refine lv_istore (lv' := [(5, .int (sumG sn (rfi (rd q) (ri q)) (rd q) 0)), (4, .int (nI q)), (3, .int (mostG sn (0 * 20 + 0) 0 (20 * 20))), (2, .int (sumG sn (0 * 20 + 0) 0 (20 * 20))), (0, .ref z), (1, .ref x)]) hx hb dX7_isSame_244 hl (by decide) rfl (fun ls hl => ?_)
              refine lv_iconst (v := mostG sn (rfi (rd q) (ri q)) (rd q) 0) hx hb dX7_isSame_246 rfl ?_
              refine lv_istore (lv' := [(6, .int (mostG sn (rfi (rd q) (ri q)) (rd q) 0)), (5, .int (sumG sn (rfi (rd q) (ri q)) (rd q) 0)), (4, .int (nI q)), (3, .int (mostG sn (0 * 20 + 0) 0 (20 * 20))), (2, .int (sumG sn (0 * 20 + 0) 0 (20 * 20))), (0, .ref z), (1, .ref x)]) hx hb dX7_isSame_247 hl (by decide) rfl (fun ls hl => ?_)
              refine lv_iconst (v := nI 0) hx hb dX7_isSame_249 rfl ?_
              refine lv_istore (lv' := [(7, .int (nI 0)), (6, .int (mostG sn (rfi (rd q) (ri q)) (rd q) 0)), (5, .int (sumG sn (rfi (rd q) (ri q)) (rd q) 0)), (4, .int (nI q)), (3, .int (mostG sn (0 * 20 + 0) 0 (20 * 20))), (2, .int (sumG sn (0 * 20 + 0) 0 (20 * 20))), (0, .ref z), (1, .ref x)]) hx hb dX7_isSame_250 hl (by decide) rfl (fun ls hl => ?_)
              have loop_252 : ∀ (k9 k : Nat), k + k9 = 20 → ∀ (wl252 : va_W) (H : Heap) (locs : List Loc) (ls : Array Slot), zKi E ws wl252 → wl252[0]? = some (x, .inr (7, [.ref fl, .ref rl, .ref wh, .ref gr, .ref tr, .ref sc, .int lim, .int sup, .int off, .int plo, .int hrs])) → wl252[1]? = some (fl, .inr (0, [.int mc1, .ref ea, .int (nI nf)])) → wl252[2]? = some (rl, .inr (0, [.int mc2, .ref eb, .int (nI nr)])) → wl252[3]? = some (wh, .inr (5, [.int (0 * 20 + 0), .int (nI 400), .int 0])) → wl252[4]? = some (gr, .inr (2, [.ref gra])) → wl252[5]? = some (gra, zI4 E 400 sn) → wl252[6]? = some (tr, .inr (2, [.ref tra])) → wl252[7]? = some (tra, zI4 E 400 t9) → wl252[8]? = some (sc, .inr (4, [.ref ha, .ref va])) → wl252[9]? = some (ha, zI4 E 400 hf) → wl252[10]? = some (va, zI4 E 400 gf) → wl252[11]? = some (z, .inr (8, [.ref fe, .ref ro, .ref sa, .int lim, .int sup, .int off, .int plo, .int hrs])) → wl252[14]? = some (sa, zA4 E 20 gs) → wl252[qf]? = some (fe, zA4 E nf g) → wl252[qr]? = some (ro, zA4 E nr gq) → wl252[jq]? = some (ja, zI4 E 2 jf) → FS E wl252 fa ea nf → RS E wl252 rd ri eb nr → SN E wl252 15 gs sn → zJ E wl252 s H locs → lv_has ls 9 [(7, .int (nI k)), (6, .int (mostG sn (rfi (rd q) (ri q)) (rd q) k)), (5, .int (sumG sn (rfi (rd q) (ri q)) (rd q) k)), (4, .int (nI q)), (3, .int (mostG sn (0 * 20 + 0) 0 (20 * 20))), (2, .int (sumG sn (0 * 20 + 0) 0 (20 * 20))), (0, .ref z), (1, .ref x)] → W p l e (headSpec wsX7_isSame ({ frames := 8, cells := 3010, slots := 20100, locals := 126 } : Room)).room s m args below meth c H locs (2820 + 31 * q) (18800 + 205 * q) QQ (F0 m 252 ls []) := by
                intro k9
                induction k9 with
                | zero =>
                  intro k hik wl252 H locs ls hk L252_0 L252_1 L252_2 L252_3 L252_4 L252_5 L252_6 L252_7 L252_8 L252_9 L252_10 L252_11 L252_12 L252_13 L252_14 L252_15 hF hR hSN J hl
                  obtain rfl : 20 = k := by omega
                  refine lv_iload hx hb dX7_isSame_252 (lv_at hl 0 rfl) ?_
                  refine lv_bipush (v := nI 20) hx hb dX7_isSame_254 (by decide) ?_
                  refine lv_icmp_ge (tgt := 303) hx hb dX7_isSame_256 (by decide) (fun cz256 => ?_) (fun cz256 => by exact (cz256 (nI_le (Nat.le_refl _) (by omega))).elim)
                  refine lv_iconst (v := 5) hx hb dX7_isSame_303 (by decide) ?_
                  refine z_newa (N' := 5) X J (by decide +kernel) (by decide) (by decide) (Nat.le_of_ble_eq_true rfl) (by show _ ≤ 3010; omega) (by show _ ≤ 20100; omega) dX7_isSame_304 (fun q304 H J => ?_)
                  have hF := hF.keepS (zK.app (S := []) (ws := wl252) (more := [(q304, zI4 E 5 (fun _ => 0))])) (fun q9 hq9 => absurd hq9 List.not_mem_nil)
                  have hR := hR.keepS (zK.app (S := []) (ws := wl252) (more := [(q304, zI4 E 5 (fun _ => 0))])) (fun q9 hq9 => absurd hq9 List.not_mem_nil)
                  have hSN := hSN.keep (zK.app (S := []) (ws := wl252) (more := [(q304, zI4 E 5 (fun _ => 0))])) (fun _ _ => List.not_mem_nil)
                  have lp1 := hk.1
                  have hk := hk.step (zK.app (S := []) (ws := wl252) (more := [(q304, zI4 E 5 (fun _ => 0))])) (fun _ _ _ _ _ _ _ => List.not_mem_nil)
                  have bG1_0 := zlt L252_0
                  have G1_0 := zapp (x := (q304, zI4 E 5 (fun _ => 0))) L252_0
                  have bG1_1 := zlt L252_1
                  have G1_1 := zapp (x := (q304, zI4 E 5 (fun _ => 0))) L252_1
                  have bG1_2 := zlt L252_2
                  have G1_2 := zapp (x := (q304, zI4 E 5 (fun _ => 0))) L252_2
                  have bG1_3 := zlt L252_3
                  have G1_3 := zapp (x := (q304, zI4 E 5 (fun _ => 0))) L252_3
                  have bG1_4 := zlt L252_4
                  have G1_4 := zapp (x := (q304, zI4 E 5 (fun _ => 0))) L252_4
                  have bG1_5 := zlt L252_5
                  have G1_5 := zapp (x := (q304, zI4 E 5 (fun _ => 0))) L252_5
                  have bG1_6 := zlt L252_6
                  have G1_6 := zapp (x := (q304, zI4 E 5 (fun _ => 0))) L252_6
                  have bG1_7 := zlt L252_7
                  have G1_7 := zapp (x := (q304, zI4 E 5 (fun _ => 0))) L252_7
                  have bG1_8 := zlt L252_8
                  have G1_8 := zapp (x := (q304, zI4 E 5 (fun _ => 0))) L252_8
                  have bG1_9 := zlt L252_9
                  have G1_9 := zapp (x := (q304, zI4 E 5 (fun _ => 0))) L252_9
                  have bG1_10 := zlt L252_10
                  have G1_10 := zapp (x := (q304, zI4 E 5 (fun _ => 0))) L252_10
                  have bG1_11 := zlt L252_11
                  have G1_11 := zapp (x := (q304, zI4 E 5 (fun _ => 0))) L252_11
                  have bG1_12 := zlt L252_12
                  have G1_12 := zapp (x := (q304, zI4 E 5 (fun _ => 0))) L252_12
                  have bG1_13 := zlt L252_13
                  have G1_13 := zapp (x := (q304, zI4 E 5 (fun _ => 0))) L252_13
                  have bG1_14 := zlt L252_14
                  have G1_14 := zapp (x := (q304, zI4 E 5 (fun _ => 0))) L252_14
                  have bG1_15 := zlt L252_15
                  have G1_15 := zapp (x := (q304, zI4 E 5 (fun _ => 0))) L252_15
                  have G1_n := zapp_new (ws := wl252) (x := (q304, zI4 E 5 (fun _ => 0)))
                  generalize hws1 : wl252 ++ [(q304, zI4 E 5 (fun _ => 0))] = ws_1 at J hk G1_0 G1_1 G1_2 G1_3 G1_4 G1_5 G1_6 G1_7 G1_8 G1_9 G1_10 G1_11 G1_12 G1_13 G1_14 G1_15 hF hR hSN G1_n
                  generalize hpn1 : wl252.length = pn_1 at G1_n lp1 bG1_0 bG1_1 bG1_2 bG1_3 bG1_4 bG1_5 bG1_6 bG1_7 bG1_8 bG1_9 bG1_10 bG1_11 bG1_12 bG1_13 bG1_14 bG1_15
                  refine lv_dup hx hb dX7_isSame_306 rfl ?_
                  refine lv_iconst (v := nI 0) hx hb dX7_isSame_307 rfl ?_
                  refine lv_aload_n hx hb dX7_isSame_308 rfl (lv_at hl 6 rfl) ?_
                  refine z_get (C := RX7) (T := TX7) (N := 8) (ci := 8) (v := .ref ro) X J hi_X7 11 G1_11 rfl 1 (by decide) (by decide +kernel) rfl dX7_isSame_309 ?_
                  refine lv_iload hx hb dX7_isSame_312 (lv_at hl 3 rfl) ?_
                  refine z_aaldA X J qr G1_14 (vp_in_nI (by omega) (by first | decide | omega)) dX7_isSame_314 ?_
                  refine W.eq (g2 := F0 m 315 ls [va_rf (gq q), .int (nI 0), .ref q304, .ref q304]) (congrArg (fun z9 : Option Nat => F0 m 315 ls [va_rf z9, .int (nI 0), .ref q304, .ref q304]) (show (gq (nI q).toNatClampNeg : Option Nat) = gq q from (congrArg _ (nI_clamp (by omega))))) ?_
                  refine W.eq (g2 := F0 m 315 ls [.ref ja, .int (nI 0), .ref q304, .ref q304]) (by rw [show gq q = some ja from hgj]; rfl) ?_
                  refine lv_iconst (v := nI 0) hx hb dX7_isSame_315 rfl ?_
                  refine z_iald X J jq G1_15 (vp_in_nI (by omega) (by first | decide | omega)) dX7_isSame_316 ?_
                  refine W.eq (g2 := F0 m 317 ls [.int (jf 0), .int (nI 0), .ref q304, .ref q304]) (congrArg (fun z9 : Int32 => F0 m 317 ls [.int z9, .int (nI 0), .ref q304, .ref q304]) (show (jf (nI 0).toNatClampNeg : Int32) = jf 0 from (congrArg _ (nI_clamp (by omega))))) ?_
                  refine z_iast X J pn_1 G1_n (vp_in_nI (by omega) (by first | decide | omega)) dX7_isSame_317 (fun H locs J => ?_)
                  rw [show upd (fun _ => 0) (nI 0).toNatClampNeg (jf 0) = upd (fun _ => 0) 0 (jf 0) from (by rw [nI_clamp (by omega)])] at J
                  have hF := hF.keepS (zK.set (S := [pn_1]) (ws := ws_1) (q := pn_1) (e := (q304, zI4 E 5 (upd (fun _ => 0) 0 (jf 0)))) (List.mem_singleton.mpr rfl)) (fun q9 hq9 => Or.inr ⟨_, _, (List.mem_singleton.mp hq9).symm ▸ G1_n, noL_I⟩)
                  have hR := hR.keepS (zK.set (S := [pn_1]) (ws := ws_1) (q := pn_1) (e := (q304, zI4 E 5 (upd (fun _ => 0) 0 (jf 0)))) (List.mem_singleton.mpr rfl)) (fun q9 hq9 => Or.inr ⟨_, _, (List.mem_singleton.mp hq9).symm ▸ G1_n, noL_I⟩)
                  have hSN := hSN.keep (zK.set (S := [pn_1]) (ws := ws_1) (q := pn_1) (e := (q304, zI4 E 5 (upd (fun _ => 0) 0 (jf 0)))) (List.mem_singleton.mpr rfl)) (fun r9 hr9 => by simp only [List.mem_cons, rg_mem, List.not_mem_nil, or_false, not_or]; omega)
                  have hk := hk.step (zK.set (S := [pn_1]) (ws := ws_1) (q := pn_1) (e := (q304, zI4 E 5 (upd (fun _ => 0) 0 (jf 0)))) (List.mem_singleton.mpr rfl)) (fun q9 a9 n9 f9 h8 h7 h9 => by simp only [List.mem_cons, rg_mem, List.not_mem_nil, or_false, not_or]; omega)
                  have G2_0 := zset_ne (q := pn_1) (e' := (q304, zI4 E 5 (upd (fun _ => 0) 0 (jf 0)))) (by omega) G1_0
                  have G2_1 := zset_ne (q := pn_1) (e' := (q304, zI4 E 5 (upd (fun _ => 0) 0 (jf 0)))) (by omega) G1_1
                  have G2_2 := zset_ne (q := pn_1) (e' := (q304, zI4 E 5 (upd (fun _ => 0) 0 (jf 0)))) (by omega) G1_2
                  have G2_3 := zset_ne (q := pn_1) (e' := (q304, zI4 E 5 (upd (fun _ => 0) 0 (jf 0)))) (by omega) G1_3
                  have G2_4 := zset_ne (q := pn_1) (e' := (q304, zI4 E 5 (upd (fun _ => 0) 0 (jf 0)))) (by omega) G1_4
                  have G2_5 := zset_ne (q := pn_1) (e' := (q304, zI4 E 5 (upd (fun _ => 0) 0 (jf 0)))) (by omega) G1_5
                  have G2_6 := zset_ne (q := pn_1) (e' := (q304, zI4 E 5 (upd (fun _ => 0) 0 (jf 0)))) (by omega) G1_6
                  have G2_7 := zset_ne (q := pn_1) (e' := (q304, zI4 E 5 (upd (fun _ => 0) 0 (jf 0)))) (by omega) G1_7
                  have G2_8 := zset_ne (q := pn_1) (e' := (q304, zI4 E 5 (upd (fun _ => 0) 0 (jf 0)))) (by omega) G1_8
                  have G2_9 := zset_ne (q := pn_1) (e' := (q304, zI4 E 5 (upd (fun _ => 0) 0 (jf 0)))) (by omega) G1_9
                  have G2_10 := zset_ne (q := pn_1) (e' := (q304, zI4 E 5 (upd (fun _ => 0) 0 (jf 0)))) (by omega) G1_10
                  have G2_11 := zset_ne (q := pn_1) (e' := (q304, zI4 E 5 (upd (fun _ => 0) 0 (jf 0)))) (by omega) G1_11
                  have G2_12 := zset_ne (q := pn_1) (e' := (q304, zI4 E 5 (upd (fun _ => 0) 0 (jf 0)))) (by omega) G1_12
                  have G2_13 := zset_ne (q := pn_1) (e' := (q304, zI4 E 5 (upd (fun _ => 0) 0 (jf 0)))) (by omega) G1_13
                  have G2_14 := zset_ne (q := pn_1) (e' := (q304, zI4 E 5 (upd (fun _ => 0) 0 (jf 0)))) (by omega) G1_14
                  have G2_15 := zset_ne (q := pn_1) (e' := (q304, zI4 E 5 (upd (fun _ => 0) 0 (jf 0)))) (by omega) G1_15
                  have G2_16 := zset_eq (e' := (q304, zI4 E 5 (upd (fun _ => 0) 0 (jf 0)))) G1_n
                  generalize hws2 : (ws_1.set pn_1 (q304, zI4 E 5 (upd (fun _ => 0) 0 (jf 0)))) = ws_2 at J hk G2_0 G2_1 G2_2 G2_3 G2_4 G2_5 G2_6 G2_7 G2_8 G2_9 G2_10 G2_11 G2_12 G2_13 G2_14 G2_15 G2_16 hF hR hSN
                  refine lv_dup hx hb dX7_isSame_318 rfl ?_
                  refine lv_iconst (v := nI 1) hx hb dX7_isSame_319 rfl ?_
                  refine lv_aload_n hx hb dX7_isSame_320 rfl (lv_at hl 6 rfl) ?_
                  refine z_get (C := RX7) (T := TX7) (N := 8) (ci := 8) (v := .ref ro) X J hi_X7 11 G2_11 rfl 1 (by decide) (by decide +kernel) rfl dX7_isSame_321 ?_
                  refine lv_iload hx hb dX7_isSame_324 (lv_at hl 3 rfl) ?_
                  refine z_aaldA X J qr G2_14 (vp_in_nI (by omega) (by first | decide | omega)) dX7_isSame_326 ?_
                  refine W.eq (g2 := F0 m 327 ls [va_rf (gq q), .int (nI 1), .ref q304, .ref q304]) (congrArg (fun z9 : Option Nat => F0 m 327 ls [va_rf z9, .int (nI 1), .ref q304, .ref q304]) (show (gq (nI q).toNatClampNeg : Option Nat) = gq q from (congrArg _ (nI_clamp (by omega))))) ?_
                  refine W.eq (g2 := F0 m 327 ls [.ref ja, .int (nI 1), .ref q304, .ref q304]) (by rw [show gq q = some ja from hgj]; rfl) ?_
                  refine lv_iconst (v := nI 1) hx hb dX7_isSame_327 rfl ?_
                  refine z_iald X J jq G2_15 (vp_in_nI (by omega) (by first | decide | omega)) dX7_isSame_328 ?_
                  refine W.eq (g2 := F0 m 329 ls [.int (jf 1), .int (nI 1), .ref q304, .ref q304]) (congrArg (fun z9 : Int32 => F0 m 329 ls [.int z9, .int (nI 1), .ref q304, .ref q304]) (show (jf (nI 1).toNatClampNeg : Int32) = jf 1 from (congrArg _ (nI_clamp (by omega))))) ?_
                  refine z_iast X J pn_1 G2_16 (vp_in_nI (by omega) (by first | decide | omega)) dX7_isSame_329 (fun H locs J => ?_)
                  rw [show upd (upd (fun _ => 0) 0 (jf 0)) (nI 1).toNatClampNeg (jf 1) = upd (upd (fun _ => 0) 0 (jf 0)) 1 (jf 1) from (by rw [nI_clamp (by omega)])] at J
                  have hF := hF.keepS (zK.set (S := [pn_1]) (ws := ws_2) (q := pn_1) (e := (q304, zI4 E 5 (upd (upd (fun _ => 0) 0 (jf 0)) 1 (jf 1)))) (List.mem_singleton.mpr rfl)) (fun q9 hq9 => Or.inr ⟨_, _, (List.mem_singleton.mp hq9).symm ▸ G2_16, noL_I⟩)
                  have hR := hR.keepS (zK.set (S := [pn_1]) (ws := ws_2) (q := pn_1) (e := (q304, zI4 E 5 (upd (upd (fun _ => 0) 0 (jf 0)) 1 (jf 1)))) (List.mem_singleton.mpr rfl)) (fun q9 hq9 => Or.inr ⟨_, _, (List.mem_singleton.mp hq9).symm ▸ G2_16, noL_I⟩)
                  have hSN := hSN.keep (zK.set (S := [pn_1]) (ws := ws_2) (q := pn_1) (e := (q304, zI4 E 5 (upd (upd (fun _ => 0) 0 (jf 0)) 1 (jf 1)))) (List.mem_singleton.mpr rfl)) (fun r9 hr9 => by simp only [List.mem_cons, rg_mem, List.not_mem_nil, or_false, not_or]; omega)
                  have hk := hk.step (zK.set (S := [pn_1]) (ws := ws_2) (q := pn_1) (e := (q304, zI4 E 5 (upd (upd (fun _ => 0) 0 (jf 0)) 1 (jf 1)))) (List.mem_singleton.mpr rfl)) (fun q9 a9 n9 f9 h8 h7 h9 => by simp only [List.mem_cons, rg_mem, List.not_mem_nil, or_false, not_or]; omega)
                  have G3_0 := zset_ne (q := pn_1) (e' := (q304, zI4 E 5 (upd (upd (fun _ => 0) 0 (jf 0)) 1 (jf 1)))) (by omega) G2_0
                  have G3_1 := zset_ne (q := pn_1) (e' := (q304, zI4 E 5 (upd (upd (fun _ => 0) 0 (jf 0)) 1 (jf 1)))) (by omega) G2_1
                  have G3_2 := zset_ne (q := pn_1) (e' := (q304, zI4 E 5 (upd (upd (fun _ => 0) 0 (jf 0)) 1 (jf 1)))) (by omega) G2_2
                  have G3_3 := zset_ne (q := pn_1) (e' := (q304, zI4 E 5 (upd (upd (fun _ => 0) 0 (jf 0)) 1 (jf 1)))) (by omega) G2_3
                  have G3_4 := zset_ne (q := pn_1) (e' := (q304, zI4 E 5 (upd (upd (fun _ => 0) 0 (jf 0)) 1 (jf 1)))) (by omega) G2_4
                  have G3_5 := zset_ne (q := pn_1) (e' := (q304, zI4 E 5 (upd (upd (fun _ => 0) 0 (jf 0)) 1 (jf 1)))) (by omega) G2_5
                  have G3_6 := zset_ne (q := pn_1) (e' := (q304, zI4 E 5 (upd (upd (fun _ => 0) 0 (jf 0)) 1 (jf 1)))) (by omega) G2_6
                  have G3_7 := zset_ne (q := pn_1) (e' := (q304, zI4 E 5 (upd (upd (fun _ => 0) 0 (jf 0)) 1 (jf 1)))) (by omega) G2_7
                  have G3_8 := zset_ne (q := pn_1) (e' := (q304, zI4 E 5 (upd (upd (fun _ => 0) 0 (jf 0)) 1 (jf 1)))) (by omega) G2_8
                  have G3_9 := zset_ne (q := pn_1) (e' := (q304, zI4 E 5 (upd (upd (fun _ => 0) 0 (jf 0)) 1 (jf 1)))) (by omega) G2_9
                  have G3_10 := zset_ne (q := pn_1) (e' := (q304, zI4 E 5 (upd (upd (fun _ => 0) 0 (jf 0)) 1 (jf 1)))) (by omega) G2_10
                  have G3_11 := zset_ne (q := pn_1) (e' := (q304, zI4 E 5 (upd (upd (fun _ => 0) 0 (jf 0)) 1 (jf 1)))) (by omega) G2_11
                  have G3_12 := zset_ne (q := pn_1) (e' := (q304, zI4 E 5 (upd (upd (fun _ => 0) 0 (jf 0)) 1 (jf 1)))) (by omega) G2_12
                  have G3_13 := zset_ne (q := pn_1) (e' := (q304, zI4 E 5 (upd (upd (fun _ => 0) 0 (jf 0)) 1 (jf 1)))) (by omega) G2_13
                  have G3_14 := zset_ne (q := pn_1) (e' := (q304, zI4 E 5 (upd (upd (fun _ => 0) 0 (jf 0)) 1 (jf 1)))) (by omega) G2_14
                  have G3_15 := zset_ne (q := pn_1) (e' := (q304, zI4 E 5 (upd (upd (fun _ => 0) 0 (jf 0)) 1 (jf 1)))) (by omega) G2_15
                  have G3_16 := zset_eq (e' := (q304, zI4 E 5 (upd (upd (fun _ => 0) 0 (jf 0)) 1 (jf 1)))) G2_16
                  generalize hws3 : (ws_2.set pn_1 (q304, zI4 E 5 (upd (upd (fun _ => 0) 0 (jf 0)) 1 (jf 1)))) = ws_3 at J hk G3_0 G3_1 G3_2 G3_3 G3_4 G3_5 G3_6 G3_7 G3_8 G3_9 G3_10 G3_11 G3_12 G3_13 G3_14 G3_15 G3_16 hF hR hSN
                  refine lv_dup hx hb dX7_isSame_330 rfl ?_
                  refine lv_iconst (v := nI 2) hx hb dX7_isSame_331 rfl ?_
                  refine lv_aload_n hx hb dX7_isSame_332 rfl (lv_at hl 6 rfl) ?_
                  refine lv_aload_n hx hb dX7_isSame_333 rfl (lv_at hl 6 rfl) ?_
                  refine z_get (C := RX7) (T := TX7) (N := 8) (ci := 8) (v := .ref ro) X J hi_X7 11 G3_11 rfl 1 (by decide) (by decide +kernel) rfl dX7_isSame_334 ?_
                  refine lv_iload hx hb dX7_isSame_337 (lv_at hl 3 rfl) ?_
                  refine z_aaldA X J qr G3_14 (vp_in_nI (by omega) (by first | decide | omega)) dX7_isSame_339 ?_
                  refine W.eq (g2 := F0 m 340 ls [va_rf (gq q), .ref z, .int (nI 2), .ref q304, .ref q304]) (congrArg (fun z9 : Option Nat => F0 m 340 ls [va_rf z9, .ref z, .int (nI 2), .ref q304, .ref q304]) (show (gq (nI q).toNatClampNeg : Option Nat) = gq q from (congrArg _ (nI_clamp (by omega))))) ?_
                  refine W.eq (g2 := F0 m 340 ls [.ref ja, .ref z, .int (nI 2), .ref q304, .ref q304]) (by rw [show gq q = some ja from hgj]; rfl) ?_
                  refine z_cr (z_rV (As := [.ref ja]) (rest := [.int (nI 2), .ref q304, .ref q304]) (ci := 8) (q0 := 11) X J (cX7_blocked_ok l E G3_11 G3_12 G3_15 hSN (by rw [hj0]; exact jd) (hj1.trans hjy) hjx) (cwV 1 hts gX7_isSame_X7_blocked rfl rfl rfl (by decide +kernel) ⟨Nat.le_of_ble_eq_true rfl, Nat.le_of_ble_eq_true rfl⟩) G3_11 rfl rfl rfl hl.1 rfl (Nat.le_of_ble_eq_true rfl) dX7_isSame_340 ⟨by show _ ≤ 3010; omega, by show _ ≤ 20100; omega⟩) (fun r340 e_r340 => ?_)
                  subst e_r340
                  refine W.eq (g2 := F0 m 343 ls [.int (blkG sn (rfi (rd q) (ri q)) (rd q) lim 20), .int (nI 2), .ref q304, .ref q304]) (congrArg (fun z9 : Int32 => F0 m 343 ls [.int z9, .int (nI 2), .ref q304, .ref q304]) (show (blkG sn (rfi (jf 0) (jf 1)) (jf 0) lim 20 : Int32) = blkG sn (rfi (rd q) (ri q)) (rd q) lim 20 from (by rw [hj0, hj1]))) ?_
                  refine z_iast X J pn_1 G3_16 (vp_in_nI (by omega) (by first | decide | omega)) dX7_isSame_343 (fun H locs J => ?_)
                  rw [show upd (upd (upd (fun _ => 0) 0 (jf 0)) 1 (jf 1)) (nI 2).toNatClampNeg (blkG sn (rfi (rd q) (ri q)) (rd q) lim 20) = upd (upd (upd (fun _ => 0) 0 (jf 0)) 1 (jf 1)) 2 (blkG sn (rfi (rd q) (ri q)) (rd q) lim 20) from (by rw [nI_clamp (by omega)])] at J
                  have hF := hF.keepS (zK.set (S := [pn_1]) (ws := ws_3) (q := pn_1) (e := (q304, zI4 E 5 (upd (upd (upd (fun _ => 0) 0 (jf 0)) 1 (jf 1)) 2 (blkG sn (rfi (rd q) (ri q)) (rd q) lim 20)))) (List.mem_singleton.mpr rfl)) (fun q9 hq9 => Or.inr ⟨_, _, (List.mem_singleton.mp hq9).symm ▸ G3_16, noL_I⟩)
                  have hR := hR.keepS (zK.set (S := [pn_1]) (ws := ws_3) (q := pn_1) (e := (q304, zI4 E 5 (upd (upd (upd (fun _ => 0) 0 (jf 0)) 1 (jf 1)) 2 (blkG sn (rfi (rd q) (ri q)) (rd q) lim 20)))) (List.mem_singleton.mpr rfl)) (fun q9 hq9 => Or.inr ⟨_, _, (List.mem_singleton.mp hq9).symm ▸ G3_16, noL_I⟩)
                  have hSN := hSN.keep (zK.set (S := [pn_1]) (ws := ws_3) (q := pn_1) (e := (q304, zI4 E 5 (upd (upd (upd (fun _ => 0) 0 (jf 0)) 1 (jf 1)) 2 (blkG sn (rfi (rd q) (ri q)) (rd q) lim 20)))) (List.mem_singleton.mpr rfl)) (fun r9 hr9 => by simp only [List.mem_cons, rg_mem, List.not_mem_nil, or_false, not_or]; omega)
                  have hk := hk.step (zK.set (S := [pn_1]) (ws := ws_3) (q := pn_1) (e := (q304, zI4 E 5 (upd (upd (upd (fun _ => 0) 0 (jf 0)) 1 (jf 1)) 2 (blkG sn (rfi (rd q) (ri q)) (rd q) lim 20)))) (List.mem_singleton.mpr rfl)) (fun q9 a9 n9 f9 h8 h7 h9 => by simp only [List.mem_cons, rg_mem, List.not_mem_nil, or_false, not_or]; omega)
                  have G4_0 := zset_ne (q := pn_1) (e' := (q304, zI4 E 5 (upd (upd (upd (fun _ => 0) 0 (jf 0)) 1 (jf 1)) 2 (blkG sn (rfi (rd q) (ri q)) (rd q) lim 20)))) (by omega) G3_0
                  have G4_1 := zset_ne (q := pn_1) (e' := (q304, zI4 E 5 (upd (upd (upd (fun _ => 0) 0 (jf 0)) 1 (jf 1)) 2 (blkG sn (rfi (rd q) (ri q)) (rd q) lim 20)))) (by omega) G3_1
                  have G4_2 := zset_ne (q := pn_1) (e' := (q304, zI4 E 5 (upd (upd (upd (fun _ => 0) 0 (jf 0)) 1 (jf 1)) 2 (blkG sn (rfi (rd q) (ri q)) (rd q) lim 20)))) (by omega) G3_2
                  have G4_3 := zset_ne (q := pn_1) (e' := (q304, zI4 E 5 (upd (upd (upd (fun _ => 0) 0 (jf 0)) 1 (jf 1)) 2 (blkG sn (rfi (rd q) (ri q)) (rd q) lim 20)))) (by omega) G3_3
                  have G4_4 := zset_ne (q := pn_1) (e' := (q304, zI4 E 5 (upd (upd (upd (fun _ => 0) 0 (jf 0)) 1 (jf 1)) 2 (blkG sn (rfi (rd q) (ri q)) (rd q) lim 20)))) (by omega) G3_4
                  have G4_5 := zset_ne (q := pn_1) (e' := (q304, zI4 E 5 (upd (upd (upd (fun _ => 0) 0 (jf 0)) 1 (jf 1)) 2 (blkG sn (rfi (rd q) (ri q)) (rd q) lim 20)))) (by omega) G3_5
                  have G4_6 := zset_ne (q := pn_1) (e' := (q304, zI4 E 5 (upd (upd (upd (fun _ => 0) 0 (jf 0)) 1 (jf 1)) 2 (blkG sn (rfi (rd q) (ri q)) (rd q) lim 20)))) (by omega) G3_6
                  have G4_7 := zset_ne (q := pn_1) (e' := (q304, zI4 E 5 (upd (upd (upd (fun _ => 0) 0 (jf 0)) 1 (jf 1)) 2 (blkG sn (rfi (rd q) (ri q)) (rd q) lim 20)))) (by omega) G3_7
                  have G4_8 := zset_ne (q := pn_1) (e' := (q304, zI4 E 5 (upd (upd (upd (fun _ => 0) 0 (jf 0)) 1 (jf 1)) 2 (blkG sn (rfi (rd q) (ri q)) (rd q) lim 20)))) (by omega) G3_8
                  have G4_9 := zset_ne (q := pn_1) (e' := (q304, zI4 E 5 (upd (upd (upd (fun _ => 0) 0 (jf 0)) 1 (jf 1)) 2 (blkG sn (rfi (rd q) (ri q)) (rd q) lim 20)))) (by omega) G3_9
                  have G4_10 := zset_ne (q := pn_1) (e' := (q304, zI4 E 5 (upd (upd (upd (fun _ => 0) 0 (jf 0)) 1 (jf 1)) 2 (blkG sn (rfi (rd q) (ri q)) (rd q) lim 20)))) (by omega) G3_10
                  have G4_11 := zset_ne (q := pn_1) (e' := (q304, zI4 E 5 (upd (upd (upd (fun _ => 0) 0 (jf 0)) 1 (jf 1)) 2 (blkG sn (rfi (rd q) (ri q)) (rd q) lim 20)))) (by omega) G3_11
                  have G4_12 := zset_ne (q := pn_1) (e' := (q304, zI4 E 5 (upd (upd (upd (fun _ => 0) 0 (jf 0)) 1 (jf 1)) 2 (blkG sn (rfi (rd q) (ri q)) (rd q) lim 20)))) (by omega) G3_12
                  have G4_13 := zset_ne (q := pn_1) (e' := (q304, zI4 E 5 (upd (upd (upd (fun _ => 0) 0 (jf 0)) 1 (jf 1)) 2 (blkG sn (rfi (rd q) (ri q)) (rd q) lim 20)))) (by omega) G3_13
                  have G4_14 := zset_ne (q := pn_1) (e' := (q304, zI4 E 5 (upd (upd (upd (fun _ => 0) 0 (jf 0)) 1 (jf 1)) 2 (blkG sn (rfi (rd q) (ri q)) (rd q) lim 20)))) (by omega) G3_14
                  have G4_15 := zset_ne (q := pn_1) (e' := (q304, zI4 E 5 (upd (upd (upd (fun _ => 0) 0 (jf 0)) 1 (jf 1)) 2 (blkG sn (rfi (rd q) (ri q)) (rd q) lim 20)))) (by omega) G3_15
                  have G4_16 := zset_eq (e' := (q304, zI4 E 5 (upd (upd (upd (fun _ => 0) 0 (jf 0)) 1 (jf 1)) 2 (blkG sn (rfi (rd q) (ri q)) (rd q) lim 20)))) G3_16
                  generalize hws4 : (ws_3.set pn_1 (q304, zI4 E 5 (upd (upd (upd (fun _ => 0) 0 (jf 0)) 1 (jf 1)) 2 (blkG sn (rfi (rd q) (ri q)) (rd q) lim 20)))) = ws_4 at J hk G4_0 G4_1 G4_2 G4_3 G4_4 G4_5 G4_6 G4_7 G4_8 G4_9 G4_10 G4_11 G4_12 G4_13 G4_14 G4_15 G4_16 hF hR hSN
                  refine lv_dup hx hb dX7_isSame_344 rfl ?_
                  refine lv_iconst (v := nI 3) hx hb dX7_isSame_345 rfl ?_
                  refine lv_iload hx hb dX7_isSame_346 (lv_at hl 2 rfl) ?_
                  refine z_iast X J pn_1 G4_16 (vp_in_nI (by omega) (by first | decide | omega)) dX7_isSame_348 (fun H locs J => ?_)
                  rw [show upd (upd (upd (upd (fun _ => 0) 0 (jf 0)) 1 (jf 1)) 2 (blkG sn (rfi (rd q) (ri q)) (rd q) lim 20)) (nI 3).toNatClampNeg (sumG sn (rfi (rd q) (ri q)) (rd q) 20) = upd (upd (upd (upd (fun _ => 0) 0 (jf 0)) 1 (jf 1)) 2 (blkG sn (rfi (rd q) (ri q)) (rd q) lim 20)) 3 (sumG sn (rfi (rd q) (ri q)) (rd q) 20) from (by rw [nI_clamp (by omega)])] at J
                  have hF := hF.keepS (zK.set (S := [pn_1]) (ws := ws_4) (q := pn_1) (e := (q304, zI4 E 5 (upd (upd (upd (upd (fun _ => 0) 0 (jf 0)) 1 (jf 1)) 2 (blkG sn (rfi (rd q) (ri q)) (rd q) lim 20)) 3 (sumG sn (rfi (rd q) (ri q)) (rd q) 20)))) (List.mem_singleton.mpr rfl)) (fun q9 hq9 => Or.inr ⟨_, _, (List.mem_singleton.mp hq9).symm ▸ G4_16, noL_I⟩)
                  have hR := hR.keepS (zK.set (S := [pn_1]) (ws := ws_4) (q := pn_1) (e := (q304, zI4 E 5 (upd (upd (upd (upd (fun _ => 0) 0 (jf 0)) 1 (jf 1)) 2 (blkG sn (rfi (rd q) (ri q)) (rd q) lim 20)) 3 (sumG sn (rfi (rd q) (ri q)) (rd q) 20)))) (List.mem_singleton.mpr rfl)) (fun q9 hq9 => Or.inr ⟨_, _, (List.mem_singleton.mp hq9).symm ▸ G4_16, noL_I⟩)
                  have hSN := hSN.keep (zK.set (S := [pn_1]) (ws := ws_4) (q := pn_1) (e := (q304, zI4 E 5 (upd (upd (upd (upd (fun _ => 0) 0 (jf 0)) 1 (jf 1)) 2 (blkG sn (rfi (rd q) (ri q)) (rd q) lim 20)) 3 (sumG sn (rfi (rd q) (ri q)) (rd q) 20)))) (List.mem_singleton.mpr rfl)) (fun r9 hr9 => by simp only [List.mem_cons, rg_mem, List.not_mem_nil, or_false, not_or]; omega)
                  have hk := hk.step (zK.set (S := [pn_1]) (ws := ws_4) (q := pn_1) (e := (q304, zI4 E 5 (upd (upd (upd (upd (fun _ => 0) 0 (jf 0)) 1 (jf 1)) 2 (blkG sn (rfi (rd q) (ri q)) (rd q) lim 20)) 3 (sumG sn (rfi (rd q) (ri q)) (rd q) 20)))) (List.mem_singleton.mpr rfl)) (fun q9 a9 n9 f9 h8 h7 h9 => by simp only [List.mem_cons, rg_mem, List.not_mem_nil, or_false, not_or]; omega)
                  have G5_0 := zset_ne (q := pn_1) (e' := (q304, zI4 E 5 (upd (upd (upd (upd (fun _ => 0) 0 (jf 0)) 1 (jf 1)) 2 (blkG sn (rfi (rd q) (ri q)) (rd q) lim 20)) 3 (sumG sn (rfi (rd q) (ri q)) (rd q) 20)))) (by omega) G4_0
                  have G5_1 := zset_ne (q := pn_1) (e' := (q304, zI4 E 5 (upd (upd (upd (upd (fun _ => 0) 0 (jf 0)) 1 (jf 1)) 2 (blkG sn (rfi (rd q) (ri q)) (rd q) lim 20)) 3 (sumG sn (rfi (rd q) (ri q)) (rd q) 20)))) (by omega) G4_1
                  have G5_2 := zset_ne (q := pn_1) (e' := (q304, zI4 E 5 (upd (upd (upd (upd (fun _ => 0) 0 (jf 0)) 1 (jf 1)) 2 (blkG sn (rfi (rd q) (ri q)) (rd q) lim 20)) 3 (sumG sn (rfi (rd q) (ri q)) (rd q) 20)))) (by omega) G4_2
                  have G5_3 := zset_ne (q := pn_1) (e' := (q304, zI4 E 5 (upd (upd (upd (upd (fun _ => 0) 0 (jf 0)) 1 (jf 1)) 2 (blkG sn (rfi (rd q) (ri q)) (rd q) lim 20)) 3 (sumG sn (rfi (rd q) (ri q)) (rd q) 20)))) (by omega) G4_3
                  have G5_4 := zset_ne (q := pn_1) (e' := (q304, zI4 E 5 (upd (upd (upd (upd (fun _ => 0) 0 (jf 0)) 1 (jf 1)) 2 (blkG sn (rfi (rd q) (ri q)) (rd q) lim 20)) 3 (sumG sn (rfi (rd q) (ri q)) (rd q) 20)))) (by omega) G4_4
                  have G5_5 := zset_ne (q := pn_1) (e' := (q304, zI4 E 5 (upd (upd (upd (upd (fun _ => 0) 0 (jf 0)) 1 (jf 1)) 2 (blkG sn (rfi (rd q) (ri q)) (rd q) lim 20)) 3 (sumG sn (rfi (rd q) (ri q)) (rd q) 20)))) (by omega) G4_5
                  have G5_6 := zset_ne (q := pn_1) (e' := (q304, zI4 E 5 (upd (upd (upd (upd (fun _ => 0) 0 (jf 0)) 1 (jf 1)) 2 (blkG sn (rfi (rd q) (ri q)) (rd q) lim 20)) 3 (sumG sn (rfi (rd q) (ri q)) (rd q) 20)))) (by omega) G4_6
                  have G5_7 := zset_ne (q := pn_1) (e' := (q304, zI4 E 5 (upd (upd (upd (upd (fun _ => 0) 0 (jf 0)) 1 (jf 1)) 2 (blkG sn (rfi (rd q) (ri q)) (rd q) lim 20)) 3 (sumG sn (rfi (rd q) (ri q)) (rd q) 20)))) (by omega) G4_7
                  have G5_8 := zset_ne (q := pn_1) (e' := (q304, zI4 E 5 (upd (upd (upd (upd (fun _ => 0) 0 (jf 0)) 1 (jf 1)) 2 (blkG sn (rfi (rd q) (ri q)) (rd q) lim 20)) 3 (sumG sn (rfi (rd q) (ri q)) (rd q) 20)))) (by omega) G4_8
                  have G5_9 := zset_ne (q := pn_1) (e' := (q304, zI4 E 5 (upd (upd (upd (upd (fun _ => 0) 0 (jf 0)) 1 (jf 1)) 2 (blkG sn (rfi (rd q) (ri q)) (rd q) lim 20)) 3 (sumG sn (rfi (rd q) (ri q)) (rd q) 20)))) (by omega) G4_9
                  have G5_10 := zset_ne (q := pn_1) (e' := (q304, zI4 E 5 (upd (upd (upd (upd (fun _ => 0) 0 (jf 0)) 1 (jf 1)) 2 (blkG sn (rfi (rd q) (ri q)) (rd q) lim 20)) 3 (sumG sn (rfi (rd q) (ri q)) (rd q) 20)))) (by omega) G4_10
                  have G5_11 := zset_ne (q := pn_1) (e' := (q304, zI4 E 5 (upd (upd (upd (upd (fun _ => 0) 0 (jf 0)) 1 (jf 1)) 2 (blkG sn (rfi (rd q) (ri q)) (rd q) lim 20)) 3 (sumG sn (rfi (rd q) (ri q)) (rd q) 20)))) (by omega) G4_11
                  have G5_12 := zset_ne (q := pn_1) (e' := (q304, zI4 E 5 (upd (upd (upd (upd (fun _ => 0) 0 (jf 0)) 1 (jf 1)) 2 (blkG sn (rfi (rd q) (ri q)) (rd q) lim 20)) 3 (sumG sn (rfi (rd q) (ri q)) (rd q) 20)))) (by omega) G4_12
                  have G5_13 := zset_ne (q := pn_1) (e' := (q304, zI4 E 5 (upd (upd (upd (upd (fun _ => 0) 0 (jf 0)) 1 (jf 1)) 2 (blkG sn (rfi (rd q) (ri q)) (rd q) lim 20)) 3 (sumG sn (rfi (rd q) (ri q)) (rd q) 20)))) (by omega) G4_13
                  have G5_14 := zset_ne (q := pn_1) (e' := (q304, zI4 E 5 (upd (upd (upd (upd (fun _ => 0) 0 (jf 0)) 1 (jf 1)) 2 (blkG sn (rfi (rd q) (ri q)) (rd q) lim 20)) 3 (sumG sn (rfi (rd q) (ri q)) (rd q) 20)))) (by omega) G4_14
                  have G5_15 := zset_ne (q := pn_1) (e' := (q304, zI4 E 5 (upd (upd (upd (upd (fun _ => 0) 0 (jf 0)) 1 (jf 1)) 2 (blkG sn (rfi (rd q) (ri q)) (rd q) lim 20)) 3 (sumG sn (rfi (rd q) (ri q)) (rd q) 20)))) (by omega) G4_15
                  have G5_16 := zset_eq (e' := (q304, zI4 E 5 (upd (upd (upd (upd (fun _ => 0) 0 (jf 0)) 1 (jf 1)) 2 (blkG sn (rfi (rd q) (ri q)) (rd q) lim 20)) 3 (sumG sn (rfi (rd q) (ri q)) (rd q) 20)))) G4_16
                  generalize hws5 : (ws_4.set pn_1 (q304, zI4 E 5 (upd (upd (upd (upd (fun _ => 0) 0 (jf 0)) 1 (jf 1)) 2 (blkG sn (rfi (rd q) (ri q)) (rd q) lim 20)) 3 (sumG sn (rfi (rd q) (ri q)) (rd q) 20)))) = ws_5 at J hk G5_0 G5_1 G5_2 G5_3 G5_4 G5_5 G5_6 G5_7 G5_8 G5_9 G5_10 G5_11 G5_12 G5_13 G5_14 G5_15 G5_16 hF hR hSN
                  refine lv_dup hx hb dX7_isSame_349 rfl ?_
                  refine lv_iconst (v := nI 4) hx hb dX7_isSame_350 rfl ?_
                  refine lv_iload hx hb dX7_isSame_351 (lv_at hl 1 rfl) ?_
                  refine z_iast X J pn_1 G5_16 (vp_in_nI (by omega) (by first | decide | omega)) dX7_isSame_353 (fun H locs J => ?_)
                  rw [show upd (upd (upd (upd (upd (fun _ => 0) 0 (jf 0)) 1 (jf 1)) 2 (blkG sn (rfi (rd q) (ri q)) (rd q) lim 20)) 3 (sumG sn (rfi (rd q) (ri q)) (rd q) 20)) (nI 4).toNatClampNeg (mostG sn (rfi (rd q) (ri q)) (rd q) 20) = upd (upd (upd (upd (upd (fun _ => 0) 0 (jf 0)) 1 (jf 1)) 2 (blkG sn (rfi (rd q) (ri q)) (rd q) lim 20)) 3 (sumG sn (rfi (rd q) (ri q)) (rd q) 20)) 4 (mostG sn (rfi (rd q) (ri q)) (rd q) 20) from (by rw [nI_clamp (by omega)])] at J
                  have hF := hF.keepS (zK.set (S := [pn_1]) (ws := ws_5) (q := pn_1) (e := (q304, zI4 E 5 (upd (upd (upd (upd (upd (fun _ => 0) 0 (jf 0)) 1 (jf 1)) 2 (blkG sn (rfi (rd q) (ri q)) (rd q) lim 20)) 3 (sumG sn (rfi (rd q) (ri q)) (rd q) 20)) 4 (mostG sn (rfi (rd q) (ri q)) (rd q) 20)))) (List.mem_singleton.mpr rfl)) (fun q9 hq9 => Or.inr ⟨_, _, (List.mem_singleton.mp hq9).symm ▸ G5_16, noL_I⟩)
                  have hR := hR.keepS (zK.set (S := [pn_1]) (ws := ws_5) (q := pn_1) (e := (q304, zI4 E 5 (upd (upd (upd (upd (upd (fun _ => 0) 0 (jf 0)) 1 (jf 1)) 2 (blkG sn (rfi (rd q) (ri q)) (rd q) lim 20)) 3 (sumG sn (rfi (rd q) (ri q)) (rd q) 20)) 4 (mostG sn (rfi (rd q) (ri q)) (rd q) 20)))) (List.mem_singleton.mpr rfl)) (fun q9 hq9 => Or.inr ⟨_, _, (List.mem_singleton.mp hq9).symm ▸ G5_16, noL_I⟩)
                  have hSN := hSN.keep (zK.set (S := [pn_1]) (ws := ws_5) (q := pn_1) (e := (q304, zI4 E 5 (upd (upd (upd (upd (upd (fun _ => 0) 0 (jf 0)) 1 (jf 1)) 2 (blkG sn (rfi (rd q) (ri q)) (rd q) lim 20)) 3 (sumG sn (rfi (rd q) (ri q)) (rd q) 20)) 4 (mostG sn (rfi (rd q) (ri q)) (rd q) 20)))) (List.mem_singleton.mpr rfl)) (fun r9 hr9 => by simp only [List.mem_cons, rg_mem, List.not_mem_nil, or_false, not_or]; omega)
                  have hk := hk.step (zK.set (S := [pn_1]) (ws := ws_5) (q := pn_1) (e := (q304, zI4 E 5 (upd (upd (upd (upd (upd (fun _ => 0) 0 (jf 0)) 1 (jf 1)) 2 (blkG sn (rfi (rd q) (ri q)) (rd q) lim 20)) 3 (sumG sn (rfi (rd q) (ri q)) (rd q) 20)) 4 (mostG sn (rfi (rd q) (ri q)) (rd q) 20)))) (List.mem_singleton.mpr rfl)) (fun q9 a9 n9 f9 h8 h7 h9 => by simp only [List.mem_cons, rg_mem, List.not_mem_nil, or_false, not_or]; omega)
                  have G6_0 := zset_ne (q := pn_1) (e' := (q304, zI4 E 5 (upd (upd (upd (upd (upd (fun _ => 0) 0 (jf 0)) 1 (jf 1)) 2 (blkG sn (rfi (rd q) (ri q)) (rd q) lim 20)) 3 (sumG sn (rfi (rd q) (ri q)) (rd q) 20)) 4 (mostG sn (rfi (rd q) (ri q)) (rd q) 20)))) (by omega) G5_0
                  have G6_1 := zset_ne (q := pn_1) (e' := (q304, zI4 E 5 (upd (upd (upd (upd (upd (fun _ => 0) 0 (jf 0)) 1 (jf 1)) 2 (blkG sn (rfi (rd q) (ri q)) (rd q) lim 20)) 3 (sumG sn (rfi (rd q) (ri q)) (rd q) 20)) 4 (mostG sn (rfi (rd q) (ri q)) (rd q) 20)))) (by omega) G5_1
                  have G6_2 := zset_ne (q := pn_1) (e' := (q304, zI4 E 5 (upd (upd (upd (upd (upd (fun _ => 0) 0 (jf 0)) 1 (jf 1)) 2 (blkG sn (rfi (rd q) (ri q)) (rd q) lim 20)) 3 (sumG sn (rfi (rd q) (ri q)) (rd q) 20)) 4 (mostG sn (rfi (rd q) (ri q)) (rd q) 20)))) (by omega) G5_2
                  have G6_3 := zset_ne (q := pn_1) (e' := (q304, zI4 E 5 (upd (upd (upd (upd (upd (fun _ => 0) 0 (jf 0)) 1 (jf 1)) 2 (blkG sn (rfi (rd q) (ri q)) (rd q) lim 20)) 3 (sumG sn (rfi (rd q) (ri q)) (rd q) 20)) 4 (mostG sn (rfi (rd q) (ri q)) (rd q) 20)))) (by omega) G5_3
                  have G6_4 := zset_ne (q := pn_1) (e' := (q304, zI4 E 5 (upd (upd (upd (upd (upd (fun _ => 0) 0 (jf 0)) 1 (jf 1)) 2 (blkG sn (rfi (rd q) (ri q)) (rd q) lim 20)) 3 (sumG sn (rfi (rd q) (ri q)) (rd q) 20)) 4 (mostG sn (rfi (rd q) (ri q)) (rd q) 20)))) (by omega) G5_4
                  have G6_5 := zset_ne (q := pn_1) (e' := (q304, zI4 E 5 (upd (upd (upd (upd (upd (fun _ => 0) 0 (jf 0)) 1 (jf 1)) 2 (blkG sn (rfi (rd q) (ri q)) (rd q) lim 20)) 3 (sumG sn (rfi (rd q) (ri q)) (rd q) 20)) 4 (mostG sn (rfi (rd q) (ri q)) (rd q) 20)))) (by omega) G5_5
                  have G6_6 := zset_ne (q := pn_1) (e' := (q304, zI4 E 5 (upd (upd (upd (upd (upd (fun _ => 0) 0 (jf 0)) 1 (jf 1)) 2 (blkG sn (rfi (rd q) (ri q)) (rd q) lim 20)) 3 (sumG sn (rfi (rd q) (ri q)) (rd q) 20)) 4 (mostG sn (rfi (rd q) (ri q)) (rd q) 20)))) (by omega) G5_6
                  have G6_7 := zset_ne (q := pn_1) (e' := (q304, zI4 E 5 (upd (upd (upd (upd (upd (fun _ => 0) 0 (jf 0)) 1 (jf 1)) 2 (blkG sn (rfi (rd q) (ri q)) (rd q) lim 20)) 3 (sumG sn (rfi (rd q) (ri q)) (rd q) 20)) 4 (mostG sn (rfi (rd q) (ri q)) (rd q) 20)))) (by omega) G5_7
                  have G6_8 := zset_ne (q := pn_1) (e' := (q304, zI4 E 5 (upd (upd (upd (upd (upd (fun _ => 0) 0 (jf 0)) 1 (jf 1)) 2 (blkG sn (rfi (rd q) (ri q)) (rd q) lim 20)) 3 (sumG sn (rfi (rd q) (ri q)) (rd q) 20)) 4 (mostG sn (rfi (rd q) (ri q)) (rd q) 20)))) (by omega) G5_8
                  have G6_9 := zset_ne (q := pn_1) (e' := (q304, zI4 E 5 (upd (upd (upd (upd (upd (fun _ => 0) 0 (jf 0)) 1 (jf 1)) 2 (blkG sn (rfi (rd q) (ri q)) (rd q) lim 20)) 3 (sumG sn (rfi (rd q) (ri q)) (rd q) 20)) 4 (mostG sn (rfi (rd q) (ri q)) (rd q) 20)))) (by omega) G5_9
                  have G6_10 := zset_ne (q := pn_1) (e' := (q304, zI4 E 5 (upd (upd (upd (upd (upd (fun _ => 0) 0 (jf 0)) 1 (jf 1)) 2 (blkG sn (rfi (rd q) (ri q)) (rd q) lim 20)) 3 (sumG sn (rfi (rd q) (ri q)) (rd q) 20)) 4 (mostG sn (rfi (rd q) (ri q)) (rd q) 20)))) (by omega) G5_10
                  have G6_11 := zset_ne (q := pn_1) (e' := (q304, zI4 E 5 (upd (upd (upd (upd (upd (fun _ => 0) 0 (jf 0)) 1 (jf 1)) 2 (blkG sn (rfi (rd q) (ri q)) (rd q) lim 20)) 3 (sumG sn (rfi (rd q) (ri q)) (rd q) 20)) 4 (mostG sn (rfi (rd q) (ri q)) (rd q) 20)))) (by omega) G5_11
                  have G6_12 := zset_ne (q := pn_1) (e' := (q304, zI4 E 5 (upd (upd (upd (upd (upd (fun _ => 0) 0 (jf 0)) 1 (jf 1)) 2 (blkG sn (rfi (rd q) (ri q)) (rd q) lim 20)) 3 (sumG sn (rfi (rd q) (ri q)) (rd q) 20)) 4 (mostG sn (rfi (rd q) (ri q)) (rd q) 20)))) (by omega) G5_12
                  have G6_13 := zset_ne (q := pn_1) (e' := (q304, zI4 E 5 (upd (upd (upd (upd (upd (fun _ => 0) 0 (jf 0)) 1 (jf 1)) 2 (blkG sn (rfi (rd q) (ri q)) (rd q) lim 20)) 3 (sumG sn (rfi (rd q) (ri q)) (rd q) 20)) 4 (mostG sn (rfi (rd q) (ri q)) (rd q) 20)))) (by omega) G5_13
                  have G6_14 := zset_ne (q := pn_1) (e' := (q304, zI4 E 5 (upd (upd (upd (upd (upd (fun _ => 0) 0 (jf 0)) 1 (jf 1)) 2 (blkG sn (rfi (rd q) (ri q)) (rd q) lim 20)) 3 (sumG sn (rfi (rd q) (ri q)) (rd q) 20)) 4 (mostG sn (rfi (rd q) (ri q)) (rd q) 20)))) (by omega) G5_14
                  have G6_15 := zset_ne (q := pn_1) (e' := (q304, zI4 E 5 (upd (upd (upd (upd (upd (fun _ => 0) 0 (jf 0)) 1 (jf 1)) 2 (blkG sn (rfi (rd q) (ri q)) (rd q) lim 20)) 3 (sumG sn (rfi (rd q) (ri q)) (rd q) 20)) 4 (mostG sn (rfi (rd q) (ri q)) (rd q) 20)))) (by omega) G5_15
                  have G6_16 := zset_eq (e' := (q304, zI4 E 5 (upd (upd (upd (upd (upd (fun _ => 0) 0 (jf 0)) 1 (jf 1)) 2 (blkG sn (rfi (rd q) (ri q)) (rd q) lim 20)) 3 (sumG sn (rfi (rd q) (ri q)) (rd q) 20)) 4 (mostG sn (rfi (rd q) (ri q)) (rd q) 20)))) G5_16
                  generalize hws6 : (ws_5.set pn_1 (q304, zI4 E 5 (upd (upd (upd (upd (upd (fun _ => 0) 0 (jf 0)) 1 (jf 1)) 2 (blkG sn (rfi (rd q) (ri q)) (rd q) lim 20)) 3 (sumG sn (rfi (rd q) (ri q)) (rd q) 20)) 4 (mostG sn (rfi (rd q) (ri q)) (rd q) 20)))) = ws_6 at J hk G6_0 G6_1 G6_2 G6_3 G6_4 G6_5 G6_6 G6_7 G6_8 G6_9 G6_10 G6_11 G6_12 G6_13 G6_14 G6_15 G6_16 hF hR hSN
                  refine lv_astore (lv' := [(7, .ref q304), (6, .int (mostG sn (rfi (rd q) (ri q)) (rd q) 20)), (5, .int (sumG sn (rfi (rd q) (ri q)) (rd q) 20)), (4, .int (nI q)), (3, .int (mostG sn (0 * 20 + 0) 0 (20 * 20))), (2, .int (sumG sn (0 * 20 + 0) 0 (20 * 20))), (0, .ref z), (1, .ref x)]) hx hb dX7_isSame_354 hl (by decide) rfl (fun ls hl => ?_)
                  refine lv_iconst (v := nI 0) hx hb dX7_isSame_356 rfl ?_
                  refine lv_istore (lv' := [(8, .int (nI 0)), (7, .ref q304), (6, .int (mostG sn (rfi (rd q) (ri q)) (rd q) 20)), (5, .int (sumG sn (rfi (rd q) (ri q)) (rd q) 20)), (4, .int (nI q)), (3, .int (mostG sn (0 * 20 + 0) 0 (20 * 20))), (2, .int (sumG sn (0 * 20 + 0) 0 (20 * 20))), (0, .ref z), (1, .ref x)]) hx hb dX7_isSame_357 hl (by decide) rfl (fun ls hl => ?_)
                  have loop_359 : ∀ (k9 w : Nat), w + k9 = 5 → ∀ (wl359 : va_W) (H : Heap) (locs : List Loc) (ls : Array Slot), zKi E ws wl359 → wl359[0]? = some (x, .inr (7, [.ref fl, .ref rl, .ref wh, .ref gr, .ref tr, .ref sc, .int lim, .int sup, .int off, .int plo, .int hrs])) → wl359[1]? = some (fl, .inr (0, [.int mc1, .ref ea, .int (nI nf)])) → wl359[2]? = some (rl, .inr (0, [.int mc2, .ref eb, .int (nI nr)])) → wl359[3]? = some (wh, .inr (5, [.int (0 * 20 + 0), .int (nI 400), .int 0])) → wl359[4]? = some (gr, .inr (2, [.ref gra])) → wl359[5]? = some (gra, zI4 E 400 sn) → wl359[6]? = some (tr, .inr (2, [.ref tra])) → wl359[7]? = some (tra, zI4 E 400 t9) → wl359[8]? = some (sc, .inr (4, [.ref ha, .ref va])) → wl359[9]? = some (ha, zI4 E 400 hf) → wl359[10]? = some (va, zI4 E 400 gf) → wl359[11]? = some (z, .inr (8, [.ref fe, .ref ro, .ref sa, .int lim, .int sup, .int off, .int plo, .int hrs])) → wl359[14]? = some (sa, zA4 E 20 gs) → wl359[qf]? = some (fe, zA4 E nf g) → wl359[qr]? = some (ro, zA4 E nr gq) → wl359[jq]? = some (ja, zI4 E 2 jf) → wl359[pn_1]? = some (q304, zI4 E 5 (upd (upd (upd (upd (upd (fun _ => 0) 0 (jf 0)) 1 (jf 1)) 2 (blkG sn (rfi (rd q) (ri q)) (rd q) lim 20)) 3 (sumG sn (rfi (rd q) (ri q)) (rd q) 20)) 4 (mostG sn (rfi (rd q) (ri q)) (rd q) 20))) → FS E wl359 fa ea nf → RS E wl359 rd ri eb nr → SN E wl359 15 gs sn → zJ E wl359 s H locs → lv_has ls 9 [(8, .int (nI w)), (7, .ref q304), (6, .int (mostG sn (rfi (rd q) (ri q)) (rd q) 20)), (5, .int (sumG sn (rfi (rd q) (ri q)) (rd q) 20)), (4, .int (nI q)), (3, .int (mostG sn (0 * 20 + 0) 0 (20 * 20))), (2, .int (sumG sn (0 * 20 + 0) 0 (20 * 20))), (0, .ref z), (1, .ref x)] → W p l e (headSpec wsX7_isSame ({ frames := 8, cells := 3010, slots := 20100, locals := 126 } : Room)).room s m args below meth c H locs (2820 + 31 * q + 1 + 6 * w) (18800 + 205 * q + 5 + 40 * w) QQ (F0 m 359 ls []) := by
                    intro k9
                    induction k9 with
                    | zero =>
                      intro w hik wl359 H locs ls hk L359_0 L359_1 L359_2 L359_3 L359_4 L359_5 L359_6 L359_7 L359_8 L359_9 L359_10 L359_11 L359_12 L359_13 L359_14 L359_15 L359_16 hF hR hSN J hl
                      obtain rfl : 5 = w := by omega
                      refine lv_iload hx hb dX7_isSame_359 (lv_at hl 0 rfl) ?_
                      refine lv_iconst (v := nI 5) hx hb dX7_isSame_361 rfl ?_
                      refine lv_icmp_ge (tgt := 389) hx hb dX7_isSame_362 (by decide) (fun cz362 => ?_) (fun cz362 => by exact (cz362 (nI_le (Nat.le_refl _) (by omega))).elim)
                      refine lv_iinc (v := nI (q + 1)) (lv' := [(4, .int (nI (q + 1))), (8, .int (nI 5)), (7, .ref q304), (6, .int (mostG sn (rfi (rd q) (ri q)) (rd q) 20)), (5, .int (sumG sn (rfi (rd q) (ri q)) (rd q) 20)), (3, .int (mostG sn (0 * 20 + 0) 0 (20 * 20))), (2, .int (sumG sn (0 * 20 + 0) 0 (20 * 20))), (0, .ref z), (1, .ref x)]) hx hb dX7_isSame_389 hl (k := 4) rfl (nI_1 q) (by decide) rfl (fun ls hl => ?_)
                      refine lv_goto (tgt := 233) hx hb dX7_isSame_392 (by decide) ?_
                      refine W.widen (k := (2820 + 31 * (q + 1))) (n := (18800 + 205 * (q + 1))) (by omega) (by omega) ?_
                      exact ih_233 (q + 1) (by omega) _ _ _ _ hk L359_0 L359_1 L359_2 L359_3 L359_4 L359_5 L359_6 L359_7 L359_8 L359_9 L359_10 L359_11 L359_12 L359_13 L359_14 hF hR hSN J (lv_sub hl [0, 5, 6, 7, 8] rfl)
                    | succ k9 ih_359 =>
                      intro w hik wl359 H locs ls hk L359_0 L359_1 L359_2 L359_3 L359_4 L359_5 L359_6 L359_7 L359_8 L359_9 L359_10 L359_11 L359_12 L359_13 L359_14 L359_15 L359_16 hF hR hSN J hl
                      refine lv_iload hx hb dX7_isSame_359 (lv_at hl 0 rfl) ?_
                      refine lv_iconst (v := nI 5) hx hb dX7_isSame_361 rfl ?_
                      refine lv_icmp_ge (tgt := 389) hx hb dX7_isSame_362 (by decide) (fun cz362 => by exact (nI_ge (by omega) (by omega) cz362).elim) (fun cz362 => ?_)
                      refine lv_aload_n hx hb dX7_isSame_365 rfl (lv_at hl 8 rfl) ?_
                      refine lv_iload hx hb dX7_isSame_366 (lv_at hl 4 rfl) ?_
                      refine lv_iload hx hb dX7_isSame_368 (lv_at hl 0 rfl) ?_
                      refine z_xi J (z_yV (As := [.int (nI q), .int (nI w)]) (rest := []) (ci := 7) (q0 := 0) X hRz J (cX6_told_ok l hflags E L359_0 L359_2 L359_4 L359_5 (by first | assumption | omega | decide) (by first | assumption | omega | decide) (by first | assumption | omega | decide)) (cwV 2 hts gX7_isSame_X6_told rfl rfl rfl (by decide +kernel) ⟨Nat.le_of_ble_eq_true rfl, Nat.le_of_ble_eq_true rfl⟩) L359_0 rfl rfl rfl hl.1 rfl (Nat.le_of_ble_eq_true rfl) dX7_isSame_370 ⟨by show _ ≤ 3010; omega, by show _ ≤ 20100; omega⟩) (fun nm ce q9 H locs hp9 J h1 h2 h3 => ?_) (fun r370 ws_7 H locs hp9 J => ?_)
                      · exact False.elim (by exact absurd hp9.1 (by rw [show kAsk (nI q) (nI nr) (nI w) 4 = 0 from kAsk_ok (h := 4) (by omega) (by omega) (by omega) (by decide)]; decide))
                      obtain ⟨rfl, e_r370⟩ := hp9
                      refine W.eq (g2 := F0 m 373 ls [.int ((upd (upd (upd (upd (upd (fun _ => 0) 0 (jf 0)) 1 (jf 1)) 2 (blkG sn (rfi (rd q) (ri q)) (rd q) lim 20)) 3 (sumG sn (rfi (rd q) (ri q)) (rd q) 20)) 4 (mostG sn (rfi (rd q) (ri q)) (rd q) 20)) w)]) (congrArg (fun z9 : Int32 => F0 m 373 ls [.int z9]) (show (r370 : Int32) = (upd (upd (upd (upd (upd (fun _ => 0) 0 (jf 0)) 1 (jf 1)) 2 (blkG sn (rfi (rd q) (ri q)) (rd q) lim 20)) 3 (sumG sn (rfi (rd q) (ri q)) (rd q) 20)) 4 (mostG sn (rfi (rd q) (ri q)) (rd q) 20)) w from (by rw [e_r370.2, nI_clamp (by omega)]; exact told_5 (by omega) hj0 hj1 rfl rfl rfl))) ?_
                      refine lv_aload hx hb dX7_isSame_373 (lv_at hl 1 rfl) ?_
                      refine lv_iload hx hb dX7_isSame_375 (lv_at hl 0 rfl) ?_
                      refine z_iald X J pn_1 L359_16 (vp_in_nI (by omega) (by first | decide | omega)) dX7_isSame_377 ?_
                      refine W.eq (g2 := F0 m 378 ls [.int ((upd (upd (upd (upd (upd (fun _ => 0) 0 (jf 0)) 1 (jf 1)) 2 (blkG sn (rfi (rd q) (ri q)) (rd q) lim 20)) 3 (sumG sn (rfi (rd q) (ri q)) (rd q) 20)) 4 (mostG sn (rfi (rd q) (ri q)) (rd q) 20)) w), .int ((upd (upd (upd (upd (upd (fun _ => 0) 0 (jf 0)) 1 (jf 1)) 2 (blkG sn (rfi (rd q) (ri q)) (rd q) lim 20)) 3 (sumG sn (rfi (rd q) (ri q)) (rd q) 20)) 4 (mostG sn (rfi (rd q) (ri q)) (rd q) 20)) w)]) (congrArg (fun z9 : Int32 => F0 m 378 ls [.int z9, .int ((upd (upd (upd (upd (upd (fun _ => 0) 0 (jf 0)) 1 (jf 1)) 2 (blkG sn (rfi (rd q) (ri q)) (rd q) lim 20)) 3 (sumG sn (rfi (rd q) (ri q)) (rd q) 20)) 4 (mostG sn (rfi (rd q) (ri q)) (rd q) 20)) w)]) (show ((upd (upd (upd (upd (upd (fun _ => 0) 0 (jf 0)) 1 (jf 1)) 2 (blkG sn (rfi (rd q) (ri q)) (rd q) lim 20)) 3 (sumG sn (rfi (rd q) (ri q)) (rd q) 20)) 4 (mostG sn (rfi (rd q) (ri q)) (rd q) 20)) (nI w).toNatClampNeg : Int32) = (upd (upd (upd (upd (upd (fun _ => 0) 0 (jf 0)) 1 (jf 1)) 2 (blkG sn (rfi (rd q) (ri q)) (rd q) lim 20)) 3 (sumG sn (rfi (rd q) (ri q)) (rd q) 20)) 4 (mostG sn (rfi (rd q) (ri q)) (rd q) 20)) w from (congrArg _ (nI_clamp (by omega))))) ?_
                      refine lv_icmp_eq (tgt := 383) hx hb dX7_isSame_378 (by decide) (fun cz378 => ?_) (fun cz378 => by exact (cz378 rfl).elim)
                      refine lv_iinc (v := nI (w + 1)) (lv' := [(8, .int (nI (w + 1))), (7, .ref q304), (6, .int (mostG sn (rfi (rd q) (ri q)) (rd q) 20)), (5, .int (sumG sn (rfi (rd q) (ri q)) (rd q) 20)), (4, .int (nI q)), (3, .int (mostG sn (0 * 20 + 0) 0 (20 * 20))), (2, .int (sumG sn (0 * 20 + 0) 0 (20 * 20))), (0, .ref z), (1, .ref x)]) hx hb dX7_isSame_383 hl (k := 0) rfl (nI_1 w) (by decide) rfl (fun ls hl => ?_)
                      refine lv_goto (tgt := 359) hx hb dX7_isSame_386 (by decide) ?_
                      refine W.widen (k := (2820 + 31 * q + 1 + 6 * (w + 1))) (n := (18800 + 205 * q + 5 + 40 * (w + 1))) (by omega) (by omega) ?_
                      exact ih_359 (w + 1) (by omega) _ _ _ _ hk L359_0 L359_1 L359_2 L359_3 L359_4 L359_5 L359_6 L359_7 L359_8 L359_9 L359_10 L359_11 L359_12 L359_13 L359_14 L359_15 L359_16 hF hR hSN J (lv_sub hl [0, 1, 2, 3, 4, 5, 6, 7, 8] rfl)
                  exact loop_359 5 0 (by omega) _ _ _ _ hk G6_0 G6_1 G6_2 G6_3 G6_4 G6_5 G6_6 G6_7 G6_8 G6_9 G6_10 G6_11 G6_12 G6_13 G6_14 G6_15 G6_16 hF hR hSN J (lv_sub hl [0, 1, 2, 3, 4, 5, 6, 7, 8] rfl)
                | succ k9 ih_252 =>
                  intro k hik wl252 H locs ls hk L252_0 L252_1 L252_2 L252_3 L252_4 L252_5 L252_6 L252_7 L252_8 L252_9 L252_10 L252_11 L252_12 L252_13 L252_14 L252_15 hF hR hSN J hl
                  refine lv_iload hx hb dX7_isSame_252 (lv_at hl 0 rfl) ?_
                  refine lv_bipush (v := nI 20) hx hb dX7_isSame_254 (by decide) ?_
                  refine lv_icmp_ge (tgt := 303) hx hb dX7_isSame_256 (by decide) (fun cz256 => by exact (nI_ge (by omega) (by omega) cz256).elim) (fun cz256 => ?_)
                  refine lv_iload hx hb dX7_isSame_259 (lv_at hl 2 rfl) ?_
                  refine lv_aload_n hx hb dX7_isSame_261 rfl (lv_at hl 6 rfl) ?_
                  refine lv_aload_n hx hb dX7_isSame_262 rfl (lv_at hl 6 rfl) ?_
                  refine z_get (C := RX7) (T := TX7) (N := 8) (ci := 8) (v := .ref ro) X J hi_X7 11 L252_11 rfl 1 (by decide) (by decide +kernel) rfl dX7_isSame_263 ?_
                  refine lv_iload hx hb dX7_isSame_266 (lv_at hl 3 rfl) ?_
                  refine z_aaldA X J qr L252_14 (vp_in_nI (by omega) (by first | decide | omega)) dX7_isSame_268 ?_
                  refine W.eq (g2 := F0 m 269 ls [va_rf (gq q), .ref z, .int (sumG sn (rfi (rd q) (ri q)) (rd q) k)]) (congrArg (fun z9 : Option Nat => F0 m 269 ls [va_rf z9, .ref z, .int (sumG sn (rfi (rd q) (ri q)) (rd q) k)]) (show (gq (nI q).toNatClampNeg : Option Nat) = gq q from (congrArg _ (nI_clamp (by omega))))) ?_
                  refine W.eq (g2 := F0 m 269 ls [.ref ja, .ref z, .int (sumG sn (rfi (rd q) (ri q)) (rd q) k)]) (by rw [show gq q = some ja from hgj]; rfl) ?_
                  refine lv_iload hx hb dX7_isSame_269 (lv_at hl 0 rfl) ?_
                  refine z_cr (z_rV (As := [.ref ja, .int (nI k)]) (rest := [.int (sumG sn (rfi (rd q) (ri q)) (rd q) k)]) (ci := 8) (q0 := 11) X J (cX7_on_ok l E L252_11 L252_12 L252_15 hSN (by rw [hj0]; exact jd) (hj1.trans hjy) hjx (by first | assumption | omega | decide)) (cwV 2 hts gX7_isSame_X7_on rfl rfl rfl (by decide +kernel) ⟨Nat.le_of_ble_eq_true rfl, Nat.le_of_ble_eq_true rfl⟩) L252_11 rfl rfl rfl hl.1 rfl (Nat.le_of_ble_eq_true rfl) dX7_isSame_271 ⟨by show _ ≤ 3010; omega, by show _ ≤ 20100; omega⟩) (fun r271 e_r271 => ?_)
                  subst e_r271
                  refine W.eq (g2 := F0 m 274 ls [.int (gd sn (cellAt (rfi (rd q) (ri q)) (rd q) k)), .int (sumG sn (rfi (rd q) (ri q)) (rd q) k)]) (congrArg (fun z9 : Int32 => F0 m 274 ls [.int z9, .int (sumG sn (rfi (rd q) (ri q)) (rd q) k)]) (show (gd sn (cellAt (rfi (jf 0) (jf 1)) (jf 0) k) : Int32) = gd sn (cellAt (rfi (rd q) (ri q)) (rd q) k) from (by rw [hj0, hj1]))) ?_
                  refine lv_iadd hx hb dX7_isSame_274 ?_
                  refine W.eq (g2 := F0 m 275 ls [.int (sumG sn (rfi (rd q) (ri q)) (rd q) (k + 1))]) (congrArg (fun z9 : Int32 => F0 m 275 ls [.int z9]) (show ((sumG sn (rfi (rd q) (ri q)) (rd q) k) + (gd sn (cellAt (rfi (rd q) (ri q)) (rd q) k)) : Int32) = sumG sn (rfi (rd q) (ri q)) (rd q) (k + 1) from rfl)) ?_
                  refine lv_istore (lv' := [(5, .int (sumG sn (rfi (rd q) (ri q)) (rd q) (k + 1))), (7, .int (nI k)), (6, .int (mostG sn (rfi (rd q) (ri q)) (rd q) k)), (4, .int (nI q)), (3, .int (mostG sn (0 * 20 + 0) 0 (20 * 20))), (2, .int (sumG sn (0 * 20 + 0) 0 (20 * 20))), (0, .ref z), (1, .ref x)]) hx hb dX7_isSame_275 hl (by decide) rfl (fun ls hl => ?_)
                  refine lv_iload hx hb dX7_isSame_277 (lv_at hl 2 rfl) ?_
                  refine lv_aload_n hx hb dX7_isSame_279 rfl (lv_at hl 6 rfl) ?_
                  refine lv_aload_n hx hb dX7_isSame_280 rfl (lv_at hl 6 rfl) ?_
                  refine z_get (C := RX7) (T := TX7) (N := 8) (ci := 8) (v := .ref ro) X J hi_X7 11 L252_11 rfl 1 (by decide) (by decide +kernel) rfl dX7_isSame_281 ?_
                  refine lv_iload hx hb dX7_isSame_284 (lv_at hl 3 rfl) ?_
                  refine z_aaldA X J qr L252_14 (vp_in_nI (by omega) (by first | decide | omega)) dX7_isSame_286 ?_
                  refine W.eq (g2 := F0 m 287 ls [va_rf (gq q), .ref z, .int (mostG sn (rfi (rd q) (ri q)) (rd q) k)]) (congrArg (fun z9 : Option Nat => F0 m 287 ls [va_rf z9, .ref z, .int (mostG sn (rfi (rd q) (ri q)) (rd q) k)]) (show (gq (nI q).toNatClampNeg : Option Nat) = gq q from (congrArg _ (nI_clamp (by omega))))) ?_
                  refine W.eq (g2 := F0 m 287 ls [.ref ja, .ref z, .int (mostG sn (rfi (rd q) (ri q)) (rd q) k)]) (by rw [show gq q = some ja from hgj]; rfl) ?_
                  refine lv_iload hx hb dX7_isSame_287 (lv_at hl 1 rfl) ?_
                  refine z_cr (z_rV (As := [.ref ja, .int (nI k)]) (rest := [.int (mostG sn (rfi (rd q) (ri q)) (rd q) k)]) (ci := 8) (q0 := 11) X J (cX7_on_ok l E L252_11 L252_12 L252_15 hSN (by rw [hj0]; exact jd) (hj1.trans hjy) hjx (by first | assumption | omega | decide)) (cwV 2 hts gX7_isSame_X7_on rfl rfl rfl (by decide +kernel) ⟨Nat.le_of_ble_eq_true rfl, Nat.le_of_ble_eq_true rfl⟩) L252_11 rfl rfl rfl hl.1 rfl (Nat.le_of_ble_eq_true rfl) dX7_isSame_289 ⟨by show _ ≤ 3010; omega, by show _ ≤ 20100; omega⟩) (fun r289 e_r289 => ?_)
                  subst e_r289
                  refine W.eq (g2 := F0 m 292 ls [.int (gd sn (cellAt (rfi (rd q) (ri q)) (rd q) k)), .int (mostG sn (rfi (rd q) (ri q)) (rd q) k)]) (congrArg (fun z9 : Int32 => F0 m 292 ls [.int z9, .int (mostG sn (rfi (rd q) (ri q)) (rd q) k)]) (show (gd sn (cellAt (rfi (jf 0) (jf 1)) (jf 0) k) : Int32) = gd sn (cellAt (rfi (rd q) (ri q)) (rd q) k) from (by rw [hj0, hj1]))) ?_
                  refine va_mmax hx hb (X.1.2.2.1.trans hl.1.symm) hown (hts (.methodLink RX7 38 Lib.Math.max.name) (by decide +kernel)) (hts (.static Lib.Math.max.name) (by decide +kernel)) (hts (.initialized "java/lang/Math") (by decide +kernel)) (hts (.code Lib.Math.max.name Lib.Math.max.code 2 (some .int)) (by decide +kernel)) (Nat.le_of_ble_eq_true rfl) (Nat.le_of_ble_eq_true rfl) (by show _ ≤ 3010; omega) (by show _ ≤ 20100; omega) dX7_isSame_292 ?_
                  refine W.eq (g2 := F0 m 295 ls [.int (mx (mostG sn (rfi (rd q) (ri q)) (rd q) k) (gd sn (cellAt (rfi (rd q) (ri q)) (rd q) k)))]) rfl ?_
                  refine W.eq (g2 := F0 m 295 ls [.int (mostG sn (rfi (rd q) (ri q)) (rd q) (k + 1))]) (congrArg (fun z9 : Int32 => F0 m 295 ls [.int z9]) (show (mx (mostG sn (rfi (rd q) (ri q)) (rd q) k) (gd sn (cellAt (rfi (rd q) (ri q)) (rd q) k)) : Int32) = mostG sn (rfi (rd q) (ri q)) (rd q) (k + 1) from rfl)) ?_
                  refine lv_istore (lv' := [(6, .int (mostG sn (rfi (rd q) (ri q)) (rd q) (k + 1))), (5, .int (sumG sn (rfi (rd q) (ri q)) (rd q) (k + 1))), (7, .int (nI k)), (4, .int (nI q)), (3, .int (mostG sn (0 * 20 + 0) 0 (20 * 20))), (2, .int (sumG sn (0 * 20 + 0) 0 (20 * 20))), (0, .ref z), (1, .ref x)]) hx hb dX7_isSame_295 hl (by decide) rfl (fun ls hl => ?_)
                  refine lv_iinc (v := nI (k + 1)) (lv' := [(7, .int (nI (k + 1))), (6, .int (mostG sn (rfi (rd q) (ri q)) (rd q) (k + 1))), (5, .int (sumG sn (rfi (rd q) (ri q)) (rd q) (k + 1))), (4, .int (nI q)), (3, .int (mostG sn (0 * 20 + 0) 0 (20 * 20))), (2, .int (sumG sn (0 * 20 + 0) 0 (20 * 20))), (0, .ref z), (1, .ref x)]) hx hb dX7_isSame_297 hl (k := 2) rfl (nI_1 k) (by decide) rfl (fun ls hl => ?_)
                  refine lv_goto (tgt := 252) hx hb dX7_isSame_300 (by decide) ?_
                  exact ih_252 (k + 1) (by omega) _ _ _ _ hk L252_0 L252_1 L252_2 L252_3 L252_4 L252_5 L252_6 L252_7 L252_8 L252_9 L252_10 L252_11 L252_12 L252_13 L252_14 L252_15 hF hR hSN J (lv_sub hl [0, 1, 2, 3, 4, 5, 6, 7] rfl)
              exact loop_252 20 0 (by omega) _ _ _ _ hk L233_0 L233_1 L233_2 L233_3 L233_4 L233_5 L233_6 L233_7 L233_8 L233_9 L233_10 L233_11 L233_12 L233_13 L233_14 hjf hF hR hSN J (lv_sub hl [0, 1, 2, 3, 4, 5, 6, 7] rfl)
          exact loop_233 nr 0 (by omega) _ _ _ _ hk L90_0 L90_1 L90_2 L90_3 L90_4 L90_5 L90_6 L90_7 L90_8 L90_9 L90_10 L90_11 L90_12 L90_13 L90_14 hF hR hSN J (lv_sub hl [0, 1, 2, 3, 4] rfl)
        | succ k9 ih_90 =>
          intro i hik wl90 H locs ls hk L90_0 L90_1 L90_2 L90_3 L90_4 L90_5 L90_6 L90_7 L90_8 L90_9 L90_10 L90_11 L90_12 L90_13 L90_14 hF hR hSN J hl
          refine lv_iload hx hb dX7_isSame_90 (lv_at hl 0 rfl) ?_
          refine lv_aload_n hx hb dX7_isSame_92 rfl (lv_at hl 3 rfl) ?_
          refine z_get (C := RX7) (T := TX7) (N := 8) (ci := 8) (v := .ref fe) X J hi_X7 11 L90_11 rfl 0 (by decide) (by decide +kernel) rfl dX7_isSame_93 ?_
          refine z_alenA (v := nI nf) X J qf L90_13 rfl dX7_isSame_96 ?_
          refine lv_icmp_ge (tgt := 230) hx hb dX7_isSame_97 (by decide) (fun cz97 => by exact (nI_ge (by omega) (by omega) cz97).elim) (fun cz97 => ?_)
          refine lv_aload_n hx hb dX7_isSame_100 rfl (lv_at hl 3 rfl) ?_
          refine z_get (C := RX7) (T := TX7) (N := 8) (ci := 8) (v := .ref fe) X J hi_X7 11 L90_11 rfl 0 (by decide) (by decide +kernel) rfl dX7_isSame_101 ?_
          refine lv_iload hx hb dX7_isSame_104 (lv_at hl 0 rfl) ?_
          obtain ⟨ja, jq, jf, hgj, hj35, hjf, hje⟩ := hSE.keepI hk i (by omega)
          refine z_aaldA X J qf L90_13 (vp_in_nI (by omega) (by first | decide | omega)) dX7_isSame_106 ?_
          refine W.eq (g2 := F0 m 107 ls [va_rf (g i)]) (congrArg (fun z9 : Option Nat => F0 m 107 ls [va_rf z9]) (show (g (nI i).toNatClampNeg : Option Nat) = g i from (congrArg _ (nI_clamp (by omega))))) ?_
          refine W.eq (g2 := F0 m 107 ls [.ref ja]) (by rw [show g i = some ja from hgj]; rfl) ?_
          refine lv_astore (lv' := [(5, .ref ja), (4, .int (nI i)), (3, .int (mostG sn (0 * 20 + 0) 0 (20 * 20))), (2, .int (sumG sn (0 * 20 + 0) 0 (20 * 20))), (0, .ref z), (1, .ref x)]) hx hb dX7_isSame_107 hl (by decide) rfl (fun ls hl => ?_)
          refine lv_iconst (v := onS (fw fa i) sn (20 * 0)) hx hb dX7_isSame_109 rfl ?_
          refine lv_istore (lv' := [(6, .int (onS (fw fa i) sn (20 * 0))), (5, .ref ja), (4, .int (nI i)), (3, .int (mostG sn (0 * 20 + 0) 0 (20 * 20))), (2, .int (sumG sn (0 * 20 + 0) 0 (20 * 20))), (0, .ref z), (1, .ref x)]) hx hb dX7_isSame_110 hl (by decide) rfl (fun ls hl => ?_)
          refine lv_iconst (v := nI 0) hx hb dX7_isSame_112 rfl ?_
          refine lv_istore (lv' := [(7, .int (nI 0)), (6, .int (onS (fw fa i) sn (20 * 0))), (5, .ref ja), (4, .int (nI i)), (3, .int (mostG sn (0 * 20 + 0) 0 (20 * 20))), (2, .int (sumG sn (0 * 20 + 0) 0 (20 * 20))), (0, .ref z), (1, .ref x)]) hx hb dX7_isSame_113 hl (by decide) rfl (fun ls hl => ?_)
          have loop_115 : ∀ (k9 r : Nat), r + k9 = 20 → ∀ (wl115 : va_W) (H : Heap) (locs : List Loc) (ls : Array Slot), zKi E ws wl115 → wl115[0]? = some (x, .inr (7, [.ref fl, .ref rl, .ref wh, .ref gr, .ref tr, .ref sc, .int lim, .int sup, .int off, .int plo, .int hrs])) → wl115[1]? = some (fl, .inr (0, [.int mc1, .ref ea, .int (nI nf)])) → wl115[2]? = some (rl, .inr (0, [.int mc2, .ref eb, .int (nI nr)])) → wl115[3]? = some (wh, .inr (5, [.int (0 * 20 + 0), .int (nI 400), .int 0])) → wl115[4]? = some (gr, .inr (2, [.ref gra])) → wl115[5]? = some (gra, zI4 E 400 sn) → wl115[6]? = some (tr, .inr (2, [.ref tra])) → wl115[7]? = some (tra, zI4 E 400 t9) → wl115[8]? = some (sc, .inr (4, [.ref ha, .ref va])) → wl115[9]? = some (ha, zI4 E 400 hf) → wl115[10]? = some (va, zI4 E 400 gf) → wl115[11]? = some (z, .inr (8, [.ref fe, .ref ro, .ref sa, .int lim, .int sup, .int off, .int plo, .int hrs])) → wl115[14]? = some (sa, zA4 E 20 gs) → wl115[qf]? = some (fe, zA4 E nf g) → wl115[qr]? = some (ro, zA4 E nr gq) → wl115[jq]? = some (ja, zI4 E 6 jf) → FS E wl115 fa ea nf → RS E wl115 rd ri eb nr → SN E wl115 15 gs sn → zJ E wl115 s H locs → lv_has ls 9 [(7, .int (nI r)), (6, .int (onS (fw fa i) sn (20 * r))), (5, .ref ja), (4, .int (nI i)), (3, .int (mostG sn (0 * 20 + 0) 0 (20 * 20))), (2, .int (sumG sn (0 * 20 + 0) 0 (20 * 20))), (0, .ref z), (1, .ref x)] → W p l e (headSpec wsX7_isSame ({ frames := 8, cells := 3010, slots := 20100, locals := 126 } : Room)).room s m args below meth c H locs (2400 + 42 * i) (16000 + 280 * i) QQ (F0 m 115 ls []) := by
            intro k9
            induction k9 with
            | zero =>
              intro r hik wl115 H locs ls hk L115_0 L115_1 L115_2 L115_3 L115_4 L115_5 L115_6 L115_7 L115_8 L115_9 L115_10 L115_11 L115_12 L115_13 L115_14 L115_15 hF hR hSN J hl
              obtain rfl : 20 = r := by omega
              refine lv_iload hx hb dX7_isSame_115 (lv_at hl 0 rfl) ?_
              refine lv_bipush (v := nI 20) hx hb dX7_isSame_117 (by decide) ?_
              refine lv_icmp_ge (tgt := 175) hx hb dX7_isSame_119 (by decide) (fun cz119 => ?_) (fun cz119 => by exact (cz119 (nI_le (Nat.le_refl _) (by omega))).elim)
              refine lv_iconst (v := nI 0) hx hb dX7_isSame_175 rfl ?_
              refine lv_istore (lv' := [(7, .int (nI 0)), (6, .int (onS (fw fa i) sn (20 * 20))), (5, .ref ja), (4, .int (nI i)), (3, .int (mostG sn (0 * 20 + 0) 0 (20 * 20))), (2, .int (sumG sn (0 * 20 + 0) 0 (20 * 20))), (0, .ref z), (1, .ref x)]) hx hb dX7_isSame_176 hl (by decide) rfl (fun ls hl => ?_)
              have loop_178 : ∀ (k9 w : Nat), w + k9 = 6 → ∀ (wl178 : va_W) (H : Heap) (locs : List Loc) (ls : Array Slot), zKi E ws wl178 → wl178[0]? = some (x, .inr (7, [.ref fl, .ref rl, .ref wh, .ref gr, .ref tr, .ref sc, .int lim, .int sup, .int off, .int plo, .int hrs])) → wl178[1]? = some (fl, .inr (0, [.int mc1, .ref ea, .int (nI nf)])) → wl178[2]? = some (rl, .inr (0, [.int mc2, .ref eb, .int (nI nr)])) → wl178[3]? = some (wh, .inr (5, [.int (0 * 20 + 0), .int (nI 400), .int 0])) → wl178[4]? = some (gr, .inr (2, [.ref gra])) → wl178[5]? = some (gra, zI4 E 400 sn) → wl178[6]? = some (tr, .inr (2, [.ref tra])) → wl178[7]? = some (tra, zI4 E 400 t9) → wl178[8]? = some (sc, .inr (4, [.ref ha, .ref va])) → wl178[9]? = some (ha, zI4 E 400 hf) → wl178[10]? = some (va, zI4 E 400 gf) → wl178[11]? = some (z, .inr (8, [.ref fe, .ref ro, .ref sa, .int lim, .int sup, .int off, .int plo, .int hrs])) → wl178[14]? = some (sa, zA4 E 20 gs) → wl178[qf]? = some (fe, zA4 E nf g) → wl178[qr]? = some (ro, zA4 E nr gq) → wl178[jq]? = some (ja, zI4 E 6 jf) → FS E wl178 fa ea nf → RS E wl178 rd ri eb nr → SN E wl178 15 gs sn → zJ E wl178 s H locs → lv_has ls 9 [(7, .int (nI w)), (6, .int (onS (fw fa i) sn (20 * 20))), (5, .ref ja), (4, .int (nI i)), (3, .int (mostG sn (0 * 20 + 0) 0 (20 * 20))), (2, .int (sumG sn (0 * 20 + 0) 0 (20 * 20))), (0, .ref z), (1, .ref x)] → W p l e (headSpec wsX7_isSame ({ frames := 8, cells := 3010, slots := 20100, locals := 126 } : Room)).room s m args below meth c H locs (2400 + 42 * i + 6 * w) (16000 + 280 * i + 40 * w) QQ (F0 m 178 ls []) := by
                intro k9
                induction k9 with
                | zero =>
                  intro w hik wl178 H locs ls hk L178_0 L178_1 L178_2 L178_3 L178_4 L178_5 L178_6 L178_7 L178_8 L178_9 L178_10 L178_11 L178_12 L178_13 L178_14 L178_15 hF hR hSN J hl
                  obtain rfl : 6 = w := by omega
                  refine lv_iload hx hb dX7_isSame_178 (lv_at hl 0 rfl) ?_
                  refine lv_bipush (v := nI 6) hx hb dX7_isSame_180 (by decide) ?_
                  refine lv_icmp_ge (tgt := 209) hx hb dX7_isSame_182 (by decide) (fun cz182 => ?_) (fun cz182 => by exact (cz182 (nI_le (Nat.le_refl _) (by omega))).elim)
                  refine lv_aload_n hx hb dX7_isSame_209 rfl (lv_at hl 7 rfl) ?_
                  refine lv_iload hx hb dX7_isSame_210 (lv_at hl 3 rfl) ?_
                  refine lv_bipush (v := nI 6) hx hb dX7_isSame_212 (by decide) ?_
                  refine z_xi J (z_yV (As := [.int (nI i), .int (nI 6)]) (rest := []) (ci := 7) (q0 := 0) X hRz J (cX6_about_ok l hflags E L178_0 L178_1 L178_4 L178_5 (by first | assumption | omega | decide) (by first | assumption | omega | decide) (by first | assumption | omega | decide)) (cwV 2 hts gX7_isSame_X6_about rfl rfl rfl (by decide +kernel) ⟨Nat.le_of_ble_eq_true rfl, Nat.le_of_ble_eq_true rfl⟩) L178_0 rfl rfl rfl hl.1 rfl (Nat.le_of_ble_eq_true rfl) dX7_isSame_214 ⟨by show _ ≤ 3010; omega, by show _ ≤ 20100; omega⟩) (fun nm ce q9 H locs hp9 J h1 h2 h3 => ?_) (fun r214 ws_1 H locs hp9 J => ?_)
                  · exact False.elim (by exact absurd hp9.1 (by rw [show kAsk (nI i) (nI nf) (nI 6) 6 = 0 from kAsk_ok (h := 6) (by omega) (by omega) (by omega) (by decide)]; decide))
                  obtain ⟨rfl, e_r214⟩ := hp9
                  refine W.eq (g2 := F0 m 217 ls [.int (onS (fw fa i) sn (20 * 20))]) (congrArg (fun z9 : Int32 => F0 m 217 ls [.int z9]) (show (r214 : Int32) = onS (fw fa i) sn (20 * 20) from (by rw [e_r214.2, nI_clamp (by omega), nI_clamp (by omega)]; exact onS_eq (hok i (by omega))))) ?_
                  refine lv_iload hx hb dX7_isSame_217 (lv_at hl 1 rfl) ?_
                  refine lv_icmp_eq (tgt := 224) hx hb dX7_isSame_219 (by decide) (fun cz219 => ?_) (fun cz219 => by exact (cz219 rfl).elim)
                  refine lv_iinc (v := nI (i + 1)) (lv' := [(4, .int (nI (i + 1))), (7, .int (nI 6)), (6, .int (onS (fw fa i) sn (20 * 20))), (5, .ref ja), (3, .int (mostG sn (0 * 20 + 0) 0 (20 * 20))), (2, .int (sumG sn (0 * 20 + 0) 0 (20 * 20))), (0, .ref z), (1, .ref x)]) hx hb dX7_isSame_224 hl (k := 3) rfl (nI_1 i) (by decide) rfl (fun ls hl => ?_)
                  refine lv_goto (tgt := 90) hx hb dX7_isSame_227 (by decide) ?_
                  refine W.widen (k := (2400 + 42 * (i + 1))) (n := (16000 + 280 * (i + 1))) (by omega) (by omega) ?_
                  exact ih_90 (i + 1) (by omega) _ _ _ _ hk L178_0 L178_1 L178_2 L178_3 L178_4 L178_5 L178_6 L178_7 L178_8 L178_9 L178_10 L178_11 L178_12 L178_13 L178_14 hF hR hSN J (lv_sub hl [0, 4, 5, 6, 7] rfl)
                | succ k9 ih_178 =>
                  intro w hik wl178 H locs ls hk L178_0 L178_1 L178_2 L178_3 L178_4 L178_5 L178_6 L178_7 L178_8 L178_9 L178_10 L178_11 L178_12 L178_13 L178_14 L178_15 hF hR hSN J hl
                  refine lv_iload hx hb dX7_isSame_178 (lv_at hl 0 rfl) ?_
                  refine lv_bipush (v := nI 6) hx hb dX7_isSame_180 (by decide) ?_
                  refine lv_icmp_ge (tgt := 209) hx hb dX7_isSame_182 (by decide) (fun cz182 => by exact (nI_ge (by omega) (by omega) cz182).elim) (fun cz182 => ?_)
                  refine lv_aload_n hx hb dX7_isSame_185 rfl (lv_at hl 7 rfl) ?_
                  refine lv_iload hx hb dX7_isSame_186 (lv_at hl 3 rfl) ?_
                  refine lv_iload hx hb dX7_isSame_188 (lv_at hl 0 rfl) ?_
                  refine z_xi J (z_yV (As := [.int (nI i), .int (nI w)]) (rest := []) (ci := 7) (q0 := 0) X hRz J (cX6_about_ok l hflags E L178_0 L178_1 L178_4 L178_5 (by first | assumption | omega | decide) (by first | assumption | omega | decide) (by first | assumption | omega | decide)) (cwV 2 hts gX7_isSame_X6_about rfl rfl rfl (by decide +kernel) ⟨Nat.le_of_ble_eq_true rfl, Nat.le_of_ble_eq_true rfl⟩) L178_0 rfl rfl rfl hl.1 rfl (Nat.le_of_ble_eq_true rfl) dX7_isSame_190 ⟨by show _ ≤ 3010; omega, by show _ ≤ 20100; omega⟩) (fun nm ce q9 H locs hp9 J h1 h2 h3 => ?_) (fun r190 ws_1 H locs hp9 J => ?_)
                  · exact False.elim (by exact absurd hp9.1 (by rw [show kAsk (nI i) (nI nf) (nI w) 6 = 0 from kAsk_ok (h := 6) (by omega) (by omega) (by omega) (by decide)]; decide))
                  obtain ⟨rfl, e_r190⟩ := hp9
                  refine W.eq (g2 := F0 m 193 ls [.int (fa (6 * i + w))]) (congrArg (fun z9 : Int32 => F0 m 193 ls [.int z9]) (show (r190 : Int32) = fa (6 * i + w) from (by rw [e_r190.2, nI_clamp (by omega), nI_clamp (by omega)]; exact about_6 (by omega)))) ?_
                  refine lv_aload hx hb dX7_isSame_193 (lv_at hl 2 rfl) ?_
                  refine lv_iload hx hb dX7_isSame_195 (lv_at hl 0 rfl) ?_
                  refine z_iald X J jq L178_15 (vp_in_nI (by omega) (by first | decide | omega)) dX7_isSame_197 ?_
                  refine W.eq (g2 := F0 m 198 ls [.int (fa (6 * i + w)), .int (fa (6 * i + w))]) (congrArg (fun z9 : Int32 => F0 m 198 ls [.int z9, .int (fa (6 * i + w))]) (show (jf (nI w).toNatClampNeg : Int32) = fa (6 * i + w) from ((congrArg jf (nI_clamp (by omega))).trans (hje w (by omega))))) ?_
                  refine lv_icmp_eq (tgt := 203) hx hb dX7_isSame_198 (by decide) (fun cz198 => ?_) (fun cz198 => by exact (cz198 rfl).elim)
                  refine lv_iinc (v := nI (w + 1)) (lv' := [(7, .int (nI (w + 1))), (6, .int (onS (fw fa i) sn (20 * 20))), (5, .ref ja), (4, .int (nI i)), (3, .int (mostG sn (0 * 20 + 0) 0 (20 * 20))), (2, .int (sumG sn (0 * 20 + 0) 0 (20 * 20))), (0, .ref z), (1, .ref x)]) hx hb dX7_isSame_203 hl (k := 0) rfl (nI_1 w) (by decide) rfl (fun ls hl => ?_)
                  refine lv_goto (tgt := 178) hx hb dX7_isSame_206 (by decide) ?_
                  refine W.widen (k := (2400 + 42 * i + 6 * (w + 1))) (n := (16000 + 280 * i + 40 * (w + 1))) (by omega) (by omega) ?_
                  exact ih_178 (w + 1) (by omega) _ _ _ _ hk L178_0 L178_1 L178_2 L178_3 L178_4 L178_5 L178_6 L178_7 L178_8 L178_9 L178_10 L178_11 L178_12 L178_13 L178_14 L178_15 hF hR hSN J (lv_sub hl [0, 1, 2, 3, 4, 5, 6, 7] rfl)
              exact loop_178 6 0 (by omega) _ _ _ _ hk L115_0 L115_1 L115_2 L115_3 L115_4 L115_5 L115_6 L115_7 L115_8 L115_9 L115_10 L115_11 L115_12 L115_13 L115_14 L115_15 hF hR hSN J (lv_sub hl [0, 1, 2, 3, 4, 5, 6, 7] rfl)
            | succ k9 ih_115 =>
              intro r hik wl115 H locs ls hk L115_0 L115_1 L115_2 L115_3 L115_4 L115_5 L115_6 L115_7 L115_8 L115_9 L115_10 L115_11 L115_12 L115_13 L115_14 L115_15 hF hR hSN J hl
              refine lv_iload hx hb dX7_isSame_115 (lv_at hl 0 rfl) ?_
              refine lv_bipush (v := nI 20) hx hb dX7_isSame_117 (by decide) ?_
              refine lv_icmp_ge (tgt := 175) hx hb dX7_isSame_119 (by decide) (fun cz119 => by exact (nI_ge (by omega) (by omega) cz119).elim) (fun cz119 => ?_)
              refine lv_iconst (v := nI 0) hx hb dX7_isSame_122 rfl ?_
              refine lv_istore (lv' := [(8, .int (nI 0)), (7, .int (nI r)), (6, .int (onS (fw fa i) sn (20 * r))), (5, .ref ja), (4, .int (nI i)), (3, .int (mostG sn (0 * 20 + 0) 0 (20 * 20))), (2, .int (sumG sn (0 * 20 + 0) 0 (20 * 20))), (0, .ref z), (1, .ref x)]) hx hb dX7_isSame_123 hl (by decide) rfl (fun ls hl => ?_)
              have loop_125 : ∀ (k9 cl : Nat), cl + k9 = 20 → ∀ (wl125 : va_W) (H : Heap) (locs : List Loc) (ls : Array Slot), zKi E ws wl125 → wl125[0]? = some (x, .inr (7, [.ref fl, .ref rl, .ref wh, .ref gr, .ref tr, .ref sc, .int lim, .int sup, .int off, .int plo, .int hrs])) → wl125[1]? = some (fl, .inr (0, [.int mc1, .ref ea, .int (nI nf)])) → wl125[2]? = some (rl, .inr (0, [.int mc2, .ref eb, .int (nI nr)])) → wl125[3]? = some (wh, .inr (5, [.int (0 * 20 + 0), .int (nI 400), .int 0])) → wl125[4]? = some (gr, .inr (2, [.ref gra])) → wl125[5]? = some (gra, zI4 E 400 sn) → wl125[6]? = some (tr, .inr (2, [.ref tra])) → wl125[7]? = some (tra, zI4 E 400 t9) → wl125[8]? = some (sc, .inr (4, [.ref ha, .ref va])) → wl125[9]? = some (ha, zI4 E 400 hf) → wl125[10]? = some (va, zI4 E 400 gf) → wl125[11]? = some (z, .inr (8, [.ref fe, .ref ro, .ref sa, .int lim, .int sup, .int off, .int plo, .int hrs])) → wl125[14]? = some (sa, zA4 E 20 gs) → wl125[qf]? = some (fe, zA4 E nf g) → wl125[qr]? = some (ro, zA4 E nr gq) → wl125[jq]? = some (ja, zI4 E 6 jf) → FS E wl125 fa ea nf → RS E wl125 rd ri eb nr → SN E wl125 15 gs sn → zJ E wl125 s H locs → lv_has ls 9 [(8, .int (nI cl)), (7, .int (nI r)), (6, .int (onS (fw fa i) sn (20 * r + cl))), (5, .ref ja), (4, .int (nI i)), (3, .int (mostG sn (0 * 20 + 0) 0 (20 * 20))), (2, .int (sumG sn (0 * 20 + 0) 0 (20 * 20))), (0, .ref z), (1, .ref x)] → W p l e (headSpec wsX7_isSame ({ frames := 8, cells := 3010, slots := 20100, locals := 126 } : Room)).room s m args below meth c H locs (2400 + 42 * i) (16000 + 280 * i) QQ (F0 m 125 ls []) := by
                intro k9
                induction k9 with
                | zero =>
                  intro cl hik wl125 H locs ls hk L125_0 L125_1 L125_2 L125_3 L125_4 L125_5 L125_6 L125_7 L125_8 L125_9 L125_10 L125_11 L125_12 L125_13 L125_14 L125_15 hF hR hSN J hl
                  obtain rfl : 20 = cl := by omega
                  refine lv_iload hx hb dX7_isSame_125 (lv_at hl 0 rfl) ?_
                  refine lv_bipush (v := nI 20) hx hb dX7_isSame_127 (by decide) ?_
                  refine lv_icmp_ge (tgt := 169) hx hb dX7_isSame_129 (by decide) (fun cz129 => ?_) (fun cz129 => by exact (cz129 (nI_le (Nat.le_refl _) (by omega))).elim)
                  refine lv_iinc (v := nI (r + 1)) (lv' := [(7, .int (nI (r + 1))), (8, .int (nI 20)), (6, .int (onS (fw fa i) sn (20 * r + 20))), (5, .ref ja), (4, .int (nI i)), (3, .int (mostG sn (0 * 20 + 0) 0 (20 * 20))), (2, .int (sumG sn (0 * 20 + 0) 0 (20 * 20))), (0, .ref z), (1, .ref x)]) hx hb dX7_isSame_169 hl (k := 1) rfl (nI_1 r) (by decide) rfl (fun ls hl => ?_)
                  refine lv_goto (tgt := 115) hx hb dX7_isSame_172 (by decide) ?_
                  exact ih_115 (r + 1) (by omega) _ _ _ _ hk L125_0 L125_1 L125_2 L125_3 L125_4 L125_5 L125_6 L125_7 L125_8 L125_9 L125_10 L125_11 L125_12 L125_13 L125_14 L125_15 hF hR hSN J (lv_sub hl [0, 2, 3, 4, 5, 6, 7, 8] rfl)
                | succ k9 ih_125 =>
                  intro cl hik wl125 H locs ls hk L125_0 L125_1 L125_2 L125_3 L125_4 L125_5 L125_6 L125_7 L125_8 L125_9 L125_10 L125_11 L125_12 L125_13 L125_14 L125_15 hF hR hSN J hl
                  refine lv_iload hx hb dX7_isSame_125 (lv_at hl 0 rfl) ?_
                  refine lv_bipush (v := nI 20) hx hb dX7_isSame_127 (by decide) ?_
                  refine lv_icmp_ge (tgt := 169) hx hb dX7_isSame_129 (by decide) (fun cz129 => by exact (nI_ge (by omega) (by omega) cz129).elim) (fun cz129 => ?_)
                  refine lv_iload hx hb dX7_isSame_132 (lv_at hl 2 rfl) ?_
                  refine lv_aload hx hb dX7_isSame_134 (lv_at hl 3 rfl) ?_
                  refine lv_iload hx hb dX7_isSame_136 (lv_at hl 0 rfl) ?_
                  refine lv_iload hx hb dX7_isSame_138 (lv_at hl 1 rfl) ?_
                  refine z_cr (z_rS (As := [.ref ja, .int (nI cl), .int (nI r)]) (rest := [.int (onS (fw fa i) sn (20 * r + cl))]) X J (cX7_isOn_ok l E L125_15) (va_cwS 3 hts gX7_isSame_X7_isOn rfl rfl rfl (by decide +kernel) ⟨Nat.le_of_ble_eq_true rfl, Nat.le_of_ble_eq_true rfl⟩) rfl hl.1 rfl (Nat.le_of_ble_eq_true rfl) dX7_isSame_140 ⟨by show _ ≤ 3010; omega, by show _ ≤ 20100; omega⟩) (fun r140 e_r140 => ?_)
                  subst e_r140
                  refine W.eq (g2 := F0 m 143 ls [.int (onI (fw fa i) (nI cl) (nI r)), .int (onS (fw fa i) sn (20 * r + cl))]) (congrArg (fun z9 : Int32 => F0 m 143 ls [.int z9, .int (onS (fw fa i) sn (20 * r + cl))]) (show (onI jf (nI cl) (nI r) : Int32) = onI (fw fa i) (nI cl) (nI r) from (onI_c hje))) ?_
                  refine lv_if_eq (tgt := 159) hx hb dX7_isSame_143 (by decide) (fun cz143 => ?_) (fun cz143 => ?_)
                  · refine lv_iconst (v := 0) hx hb dX7_isSame_159 (by decide) ?_
                    refine lv_iadd hx hb dX7_isSame_160 ?_
                    refine W.eq (g2 := F0 m 161 ls [.int (onS (fw fa i) sn (20 * r + (cl + 1)))]) (congrArg (fun z9 : Int32 => F0 m 161 ls [.int z9]) (show ((onS (fw fa i) sn (20 * r + cl)) + 0 : Int32) = onS (fw fa i) sn (20 * r + (cl + 1)) from (onS_0 (by omega) cz143))) ?_
                    refine lv_istore (lv' := [(6, .int (onS (fw fa i) sn (20 * r + (cl + 1)))), (8, .int (nI cl)), (7, .int (nI r)), (5, .ref ja), (4, .int (nI i)), (3, .int (mostG sn (0 * 20 + 0) 0 (20 * 20))), (2, .int (sumG sn (0 * 20 + 0) 0 (20 * 20))), (0, .ref z), (1, .ref x)]) hx hb dX7_isSame_161 hl (by decide) rfl (fun ls hl => ?_)
                    refine lv_iinc (v := nI (cl + 1)) (lv' := [(8, .int (nI (cl + 1))), (6, .int (onS (fw fa i) sn (20 * r + (cl + 1)))), (7, .int (nI r)), (5, .ref ja), (4, .int (nI i)), (3, .int (mostG sn (0 * 20 + 0) 0 (20 * 20))), (2, .int (sumG sn (0 * 20 + 0) 0 (20 * 20))), (0, .ref z), (1, .ref x)]) hx hb dX7_isSame_163 hl (k := 1) rfl (nI_1 cl) (by decide) rfl (fun ls hl => ?_)
                    refine lv_goto (tgt := 125) hx hb dX7_isSame_166 (by decide) ?_
                    exact ih_125 (cl + 1) (by omega) _ _ _ _ hk L125_0 L125_1 L125_2 L125_3 L125_4 L125_5 L125_6 L125_7 L125_8 L125_9 L125_10 L125_11 L125_12 L125_13 L125_14 L125_15 hF hR hSN J (lv_sub hl [0, 2, 1, 3, 4, 5, 6, 7, 8] rfl)
                  · refine lv_aload_n hx hb dX7_isSame_146 rfl (lv_at hl 7 rfl) ?_
                    refine z_get (C := RX7) (T := TX7) (N := 8) (ci := 8) (v := .ref sa) X J hi_X7 11 L125_11 rfl 2 (by decide) (by decide +kernel) rfl dX7_isSame_147 ?_
                    refine lv_iload hx hb dX7_isSame_150 (lv_at hl 1 rfl) ?_
                    obtain ⟨ra, rf, hra, hrc, hrf⟩ := hSN r (by omega)
                    refine z_aaldA X J 14 L125_12 (vp_in_nI (by omega) (by first | decide | omega)) dX7_isSame_152 ?_
                    refine W.eq (g2 := F0 m 153 ls [va_rf (gs r), .int (onS (fw fa i) sn (20 * r + cl))]) (congrArg (fun z9 : Option Nat => F0 m 153 ls [va_rf z9, .int (onS (fw fa i) sn (20 * r + cl))]) (show (gs (nI r).toNatClampNeg : Option Nat) = gs r from (congrArg _ (nI_clamp (by omega))))) ?_
                    refine W.eq (g2 := F0 m 153 ls [.ref ra, .int (onS (fw fa i) sn (20 * r + cl))]) (by rw [show gs r = some ra from hra]; rfl) ?_
                    refine lv_iload hx hb dX7_isSame_153 (lv_at hl 0 rfl) ?_
                    refine z_iald X J (15 + r) hrc (vp_in_nI (by omega) (by first | decide | omega)) dX7_isSame_155 ?_
                    refine W.eq (g2 := F0 m 156 ls [.int (sn (20 * r + cl)), .int (onS (fw fa i) sn (20 * r + cl))]) (congrArg (fun z9 : Int32 => F0 m 156 ls [.int z9, .int (onS (fw fa i) sn (20 * r + cl))]) (show (rf (nI cl).toNatClampNeg : Int32) = sn (20 * r + cl) from (by rw [nI_clamp (by omega), hrf cl (by omega)]))) ?_
                    refine lv_goto (tgt := 160) hx hb dX7_isSame_156 (by decide) ?_
                    refine lv_iadd hx hb dX7_isSame_160 ?_
                    refine W.eq (g2 := F0 m 161 ls [.int (onS (fw fa i) sn (20 * r + (cl + 1)))]) (congrArg (fun z9 : Int32 => F0 m 161 ls [.int z9]) (show ((onS (fw fa i) sn (20 * r + cl)) + (sn (20 * r + cl)) : Int32) = onS (fw fa i) sn (20 * r + (cl + 1)) from (onS_1 (by omega) cz143))) ?_
                    refine lv_istore (lv' := [(6, .int (onS (fw fa i) sn (20 * r + (cl + 1)))), (8, .int (nI cl)), (7, .int (nI r)), (5, .ref ja), (4, .int (nI i)), (3, .int (mostG sn (0 * 20 + 0) 0 (20 * 20))), (2, .int (sumG sn (0 * 20 + 0) 0 (20 * 20))), (0, .ref z), (1, .ref x)]) hx hb dX7_isSame_161 hl (by decide) rfl (fun ls hl => ?_)
                    refine lv_iinc (v := nI (cl + 1)) (lv' := [(8, .int (nI (cl + 1))), (6, .int (onS (fw fa i) sn (20 * r + (cl + 1)))), (7, .int (nI r)), (5, .ref ja), (4, .int (nI i)), (3, .int (mostG sn (0 * 20 + 0) 0 (20 * 20))), (2, .int (sumG sn (0 * 20 + 0) 0 (20 * 20))), (0, .ref z), (1, .ref x)]) hx hb dX7_isSame_163 hl (k := 1) rfl (nI_1 cl) (by decide) rfl (fun ls hl => ?_)
                    refine lv_goto (tgt := 125) hx hb dX7_isSame_166 (by decide) ?_
                    exact ih_125 (cl + 1) (by omega) _ _ _ _ hk L125_0 L125_1 L125_2 L125_3 L125_4 L125_5 L125_6 L125_7 L125_8 L125_9 L125_10 L125_11 L125_12 L125_13 L125_14 L125_15 hF hR hSN J (lv_sub hl [0, 2, 1, 3, 4, 5, 6, 7, 8] rfl)
              exact loop_125 20 0 (by omega) _ _ _ _ hk L115_0 L115_1 L115_2 L115_3 L115_4 L115_5 L115_6 L115_7 L115_8 L115_9 L115_10 L115_11 L115_12 L115_13 L115_14 L115_15 hF hR hSN J (lv_sub hl [0, 1, 2, 3, 4, 5, 6, 7, 8] rfl)
          exact loop_115 20 0 (by omega) _ _ _ _ hk L90_0 L90_1 L90_2 L90_3 L90_4 L90_5 L90_6 L90_7 L90_8 L90_9 L90_10 L90_11 L90_12 L90_13 L90_14 hjf hF hR hSN J (lv_sub hl [0, 1, 2, 3, 4, 5, 6, 7] rfl)
      exact loop_90 nf 0 (by omega) _ _ _ _ hk L7_0 L7_1 L7_2 L7_3 L7_4 L7_5 L7_6 L7_7 L7_8 L7_9 L7_10 L7_11 L7_12 L7_13 L7_14 hF hR hSN J (lv_sub hl [0, 1, 2, 3, 4] rfl)
    | succ k9 ih_7 =>
      intro r hik wl7 H locs ls hk L7_0 L7_1 L7_2 L7_3 L7_4 L7_5 L7_6 L7_7 L7_8 L7_9 L7_10 L7_11 L7_12 L7_13 L7_14 hF hR hSN J hl
      refine lv_iload hx hb dX7_isSame_7 (lv_at hl 0 rfl) ?_
      refine lv_bipush (v := nI 20) hx hb dX7_isSame_9 (by decide) ?_
      refine lv_icmp_ge (tgt := 87) hx hb dX7_isSame_11 (by decide) (fun cz11 => by exact (nI_ge (by omega) (by omega) cz11).elim) (fun cz11 => ?_)
      refine lv_iconst (v := nI 0) hx hb dX7_isSame_14 rfl ?_
      refine lv_istore (lv' := [(5, .int (nI 0)), (4, .int (nI r)), (3, .int (mostG sn (0 * 20 + 0) 0 (20 * r))), (2, .int (sumG sn (0 * 20 + 0) 0 (20 * r))), (0, .ref z), (1, .ref x)]) hx hb dX7_isSame_15 hl (by decide) rfl (fun ls hl => ?_)
      have loop_17 : ∀ (k9 cl : Nat), cl + k9 = 20 → ∀ (wl17 : va_W) (H : Heap) (locs : List Loc) (ls : Array Slot), zKi E ws wl17 → wl17[0]? = some (x, .inr (7, [.ref fl, .ref rl, .ref wh, .ref gr, .ref tr, .ref sc, .int lim, .int sup, .int off, .int plo, .int hrs])) → wl17[1]? = some (fl, .inr (0, [.int mc1, .ref ea, .int (nI nf)])) → wl17[2]? = some (rl, .inr (0, [.int mc2, .ref eb, .int (nI nr)])) → wl17[3]? = some (wh, .inr (5, [.int (0 * 20 + 0), .int (nI 400), .int 0])) → wl17[4]? = some (gr, .inr (2, [.ref gra])) → wl17[5]? = some (gra, zI4 E 400 sn) → wl17[6]? = some (tr, .inr (2, [.ref tra])) → wl17[7]? = some (tra, zI4 E 400 t9) → wl17[8]? = some (sc, .inr (4, [.ref ha, .ref va])) → wl17[9]? = some (ha, zI4 E 400 hf) → wl17[10]? = some (va, zI4 E 400 gf) → wl17[11]? = some (z, .inr (8, [.ref fe, .ref ro, .ref sa, .int lim, .int sup, .int off, .int plo, .int hrs])) → wl17[14]? = some (sa, zA4 E 20 gs) → wl17[qf]? = some (fe, zA4 E nf g) → wl17[qr]? = some (ro, zA4 E nr gq) → FS E wl17 fa ea nf → RS E wl17 rd ri eb nr → SN E wl17 15 gs sn → zJ E wl17 s H locs → lv_has ls 9 [(5, .int (nI cl)), (4, .int (nI r)), (3, .int (mostG sn (0 * 20 + 0) 0 (20 * r + cl))), (2, .int (sumG sn (0 * 20 + 0) 0 (20 * r + cl))), (0, .ref z), (1, .ref x)] → W p l e (headSpec wsX7_isSame ({ frames := 8, cells := 3010, slots := 20100, locals := 126 } : Room)).room s m args below meth c H locs (120 * r + 6 * cl) (800 * r + 40 * cl) QQ (F0 m 17 ls []) := by
        intro k9
        induction k9 with
        | zero =>
          intro cl hik wl17 H locs ls hk L17_0 L17_1 L17_2 L17_3 L17_4 L17_5 L17_6 L17_7 L17_8 L17_9 L17_10 L17_11 L17_12 L17_13 L17_14 hF hR hSN J hl
          obtain rfl : 20 = cl := by omega
          refine lv_iload hx hb dX7_isSame_17 (lv_at hl 0 rfl) ?_
          refine lv_bipush (v := nI 20) hx hb dX7_isSame_19 (by decide) ?_
          refine lv_icmp_ge (tgt := 81) hx hb dX7_isSame_21 (by decide) (fun cz21 => ?_) (fun cz21 => by exact (cz21 (nI_le (Nat.le_refl _) (by omega))).elim)
          refine lv_iinc (v := nI (r + 1)) (lv' := [(4, .int (nI (r + 1))), (5, .int (nI 20)), (3, .int (mostG sn (0 * 20 + 0) 0 (20 * r + 20))), (2, .int (sumG sn (0 * 20 + 0) 0 (20 * r + 20))), (0, .ref z), (1, .ref x)]) hx hb dX7_isSame_81 hl (k := 1) rfl (nI_1 r) (by decide) rfl (fun ls hl => ?_)
          refine lv_goto (tgt := 7) hx hb dX7_isSame_84 (by decide) ?_
          refine W.widen (k := (120 * (r + 1))) (n := (800 * (r + 1))) (by omega) (by omega) ?_
          exact ih_7 (r + 1) (by omega) _ _ _ _ hk L17_0 L17_1 L17_2 L17_3 L17_4 L17_5 L17_6 L17_7 L17_8 L17_9 L17_10 L17_11 L17_12 L17_13 L17_14 hF hR hSN J (lv_sub hl [0, 2, 3, 4, 5] rfl)
        | succ k9 ih_17 =>
          intro cl hik wl17 H locs ls hk L17_0 L17_1 L17_2 L17_3 L17_4 L17_5 L17_6 L17_7 L17_8 L17_9 L17_10 L17_11 L17_12 L17_13 L17_14 hF hR hSN J hl
          refine lv_iload hx hb dX7_isSame_17 (lv_at hl 0 rfl) ?_
          refine lv_bipush (v := nI 20) hx hb dX7_isSame_19 (by decide) ?_
          refine lv_icmp_ge (tgt := 81) hx hb dX7_isSame_21 (by decide) (fun cz21 => by exact (nI_ge (by omega) (by omega) cz21).elim) (fun cz21 => ?_)
          refine lv_aload_n hx hb dX7_isSame_24 rfl (lv_at hl 5 rfl) ?_
          refine lv_iload hx hb dX7_isSame_25 (lv_at hl 0 rfl) ?_
          refine lv_iload hx hb dX7_isSame_27 (lv_at hl 1 rfl) ?_
          refine z_xi J (z_yV (As := [.int (nI cl), .int (nI r)]) (rest := []) (ci := 7) (q0 := 0) X hRz J (cX6_snow_ok l hflags E L17_0 L17_4 L17_5) (cwV 2 hts gX7_isSame_X6_snow rfl rfl rfl (by decide +kernel) ⟨Nat.le_of_ble_eq_true rfl, Nat.le_of_ble_eq_true rfl⟩) L17_0 rfl rfl rfl hl.1 rfl (Nat.le_of_ble_eq_true rfl) dX7_isSame_29 ⟨by show _ ≤ 3010; omega, by show _ ≤ 20100; omega⟩) (fun nm ce q9 H locs hp9 J h1 h2 h3 => ?_) (fun r29 ws_1 H locs hp9 J => ?_)
          · exact False.elim (by exact absurd hp9.1 (by rw [show kSnow (nI cl) (nI r) = 0 from kSnow_ok (by omega) (by omega)]; decide))
          obtain ⟨rfl, e_r29⟩ := hp9
          refine W.eq (g2 := F0 m 32 ls [.int (sn (20 * r + cl))]) (congrArg (fun z9 : Int32 => F0 m 32 ls [.int z9]) (show (r29 : Int32) = sn (20 * r + cl) from (e_r29.2.trans (snow_at (by omega) (by omega))))) ?_
          refine lv_aload_n hx hb dX7_isSame_32 rfl (lv_at hl 4 rfl) ?_
          refine z_get (C := RX7) (T := TX7) (N := 8) (ci := 8) (v := .ref sa) X J hi_X7 11 L17_11 rfl 2 (by decide) (by decide +kernel) rfl dX7_isSame_33 ?_
          refine lv_iload hx hb dX7_isSame_36 (lv_at hl 1 rfl) ?_
          obtain ⟨ra, rf, hra, hrc, hrf⟩ := hSN r (by omega)
          refine z_aaldA X J 14 L17_12 (vp_in_nI (by omega) (by first | decide | omega)) dX7_isSame_38 ?_
          refine W.eq (g2 := F0 m 39 ls [va_rf (gs r), .int (sn (20 * r + cl))]) (congrArg (fun z9 : Option Nat => F0 m 39 ls [va_rf z9, .int (sn (20 * r + cl))]) (show (gs (nI r).toNatClampNeg : Option Nat) = gs r from (congrArg _ (nI_clamp (by omega))))) ?_
          refine W.eq (g2 := F0 m 39 ls [.ref ra, .int (sn (20 * r + cl))]) (by rw [show gs r = some ra from hra]; rfl) ?_
          refine lv_iload hx hb dX7_isSame_39 (lv_at hl 0 rfl) ?_
          refine z_iald X J (15 + r) hrc (vp_in_nI (by omega) (by first | decide | omega)) dX7_isSame_41 ?_
          refine W.eq (g2 := F0 m 42 ls [.int (sn (20 * r + cl)), .int (sn (20 * r + cl))]) (congrArg (fun z9 : Int32 => F0 m 42 ls [.int z9, .int (sn (20 * r + cl))]) (show (rf (nI cl).toNatClampNeg : Int32) = sn (20 * r + cl) from (by rw [nI_clamp (by omega), hrf cl (by omega)]))) ?_
          refine lv_icmp_eq (tgt := 47) hx hb dX7_isSame_42 (by decide) (fun cz42 => ?_) (fun cz42 => by exact (cz42 rfl).elim)
          refine lv_iload_n hx hb dX7_isSame_47 rfl (lv_at hl 3 rfl) ?_
          refine lv_aload_n hx hb dX7_isSame_48 rfl (lv_at hl 4 rfl) ?_
          refine z_get (C := RX7) (T := TX7) (N := 8) (ci := 8) (v := .ref sa) X J hi_X7 11 L17_11 rfl 2 (by decide) (by decide +kernel) rfl dX7_isSame_49 ?_
          refine lv_iload hx hb dX7_isSame_52 (lv_at hl 1 rfl) ?_
          refine z_aaldA X J 14 L17_12 (vp_in_nI (by omega) (by first | decide | omega)) dX7_isSame_54 ?_
          refine W.eq (g2 := F0 m 55 ls [va_rf (gs r), .int (sumG sn (0 * 20 + 0) 0 (20 * r + cl))]) (congrArg (fun z9 : Option Nat => F0 m 55 ls [va_rf z9, .int (sumG sn (0 * 20 + 0) 0 (20 * r + cl))]) (show (gs (nI r).toNatClampNeg : Option Nat) = gs r from (congrArg _ (nI_clamp (by omega))))) ?_
          refine W.eq (g2 := F0 m 55 ls [.ref ra, .int (sumG sn (0 * 20 + 0) 0 (20 * r + cl))]) (by rw [show gs r = some ra from hra]; rfl) ?_
          refine lv_iload hx hb dX7_isSame_55 (lv_at hl 0 rfl) ?_
          refine z_iald X J (15 + r) hrc (vp_in_nI (by omega) (by first | decide | omega)) dX7_isSame_57 ?_
          refine W.eq (g2 := F0 m 58 ls [.int (sn (20 * r + cl)), .int (sumG sn (0 * 20 + 0) 0 (20 * r + cl))]) (congrArg (fun z9 : Int32 => F0 m 58 ls [.int z9, .int (sumG sn (0 * 20 + 0) 0 (20 * r + cl))]) (show (rf (nI cl).toNatClampNeg : Int32) = sn (20 * r + cl) from (by rw [nI_clamp (by omega), hrf cl (by omega)]))) ?_
          refine lv_iadd hx hb dX7_isSame_58 ?_
          refine W.eq (g2 := F0 m 59 ls [.int (sumG sn (0 * 20 + 0) 0 (20 * r + (cl + 1)))]) (congrArg (fun z9 : Int32 => F0 m 59 ls [.int z9]) (show ((sumG sn (0 * 20 + 0) 0 (20 * r + cl)) + (sn (20 * r + cl)) : Int32) = sumG sn (0 * 20 + 0) 0 (20 * r + (cl + 1)) from (sumW (by omega)))) ?_
          refine lv_istore_n (lv' := [(2, .int (sumG sn (0 * 20 + 0) 0 (20 * r + (cl + 1)))), (5, .int (nI cl)), (4, .int (nI r)), (3, .int (mostG sn (0 * 20 + 0) 0 (20 * r + cl))), (0, .ref z), (1, .ref x)]) hx hb dX7_isSame_59 rfl hl (by decide) rfl (fun ls hl => ?_)
          refine lv_iload_n hx hb dX7_isSame_60 rfl (lv_at hl 3 rfl) ?_
          refine lv_aload_n hx hb dX7_isSame_61 rfl (lv_at hl 4 rfl) ?_
          refine z_get (C := RX7) (T := TX7) (N := 8) (ci := 8) (v := .ref sa) X J hi_X7 11 L17_11 rfl 2 (by decide) (by decide +kernel) rfl dX7_isSame_62 ?_
          refine lv_iload hx hb dX7_isSame_65 (lv_at hl 2 rfl) ?_
          refine z_aaldA X J 14 L17_12 (vp_in_nI (by omega) (by first | decide | omega)) dX7_isSame_67 ?_
          refine W.eq (g2 := F0 m 68 ls [va_rf (gs r), .int (mostG sn (0 * 20 + 0) 0 (20 * r + cl))]) (congrArg (fun z9 : Option Nat => F0 m 68 ls [va_rf z9, .int (mostG sn (0 * 20 + 0) 0 (20 * r + cl))]) (show (gs (nI r).toNatClampNeg : Option Nat) = gs r from (congrArg _ (nI_clamp (by omega))))) ?_
          refine W.eq (g2 := F0 m 68 ls [.ref ra, .int (mostG sn (0 * 20 + 0) 0 (20 * r + cl))]) (by rw [show gs r = some ra from hra]; rfl) ?_
          refine lv_iload hx hb dX7_isSame_68 (lv_at hl 1 rfl) ?_
          refine z_iald X J (15 + r) hrc (vp_in_nI (by omega) (by first | decide | omega)) dX7_isSame_70 ?_
          refine W.eq (g2 := F0 m 71 ls [.int (sn (20 * r + cl)), .int (mostG sn (0 * 20 + 0) 0 (20 * r + cl))]) (congrArg (fun z9 : Int32 => F0 m 71 ls [.int z9, .int (mostG sn (0 * 20 + 0) 0 (20 * r + cl))]) (show (rf (nI cl).toNatClampNeg : Int32) = sn (20 * r + cl) from (by rw [nI_clamp (by omega), hrf cl (by omega)]))) ?_
          refine va_mmax hx hb (X.1.2.2.1.trans hl.1.symm) hown (hts (.methodLink RX7 38 Lib.Math.max.name) (by decide +kernel)) (hts (.static Lib.Math.max.name) (by decide +kernel)) (hts (.initialized "java/lang/Math") (by decide +kernel)) (hts (.code Lib.Math.max.name Lib.Math.max.code 2 (some .int)) (by decide +kernel)) (Nat.le_of_ble_eq_true rfl) (Nat.le_of_ble_eq_true rfl) (by show _ ≤ 3010; omega) (by show _ ≤ 20100; omega) dX7_isSame_71 ?_
          refine W.eq (g2 := F0 m 74 ls [.int (mx (mostG sn (0 * 20 + 0) 0 (20 * r + cl)) (sn (20 * r + cl)))]) rfl ?_
          refine W.eq (g2 := F0 m 74 ls [.int (mostG sn (0 * 20 + 0) 0 (20 * r + (cl + 1)))]) (congrArg (fun z9 : Int32 => F0 m 74 ls [.int z9]) (show (mx (mostG sn (0 * 20 + 0) 0 (20 * r + cl)) (sn (20 * r + cl)) : Int32) = mostG sn (0 * 20 + 0) 0 (20 * r + (cl + 1)) from (mostW (by omega)))) ?_
          refine lv_istore_n (lv' := [(3, .int (mostG sn (0 * 20 + 0) 0 (20 * r + (cl + 1)))), (2, .int (sumG sn (0 * 20 + 0) 0 (20 * r + (cl + 1)))), (5, .int (nI cl)), (4, .int (nI r)), (0, .ref z), (1, .ref x)]) hx hb dX7_isSame_74 rfl hl (by decide) rfl (fun ls hl => ?_)
          refine lv_iinc (v := nI (cl + 1)) (lv' := [(5, .int (nI (cl + 1))), (3, .int (mostG sn (0 * 20 + 0) 0 (20 * r + (cl + 1)))), (2, .int (sumG sn (0 * 20 + 0) 0 (20 * r + (cl + 1)))), (4, .int (nI r)), (0, .ref z), (1, .ref x)]) hx hb dX7_isSame_75 hl (k := 2) rfl (nI_1 cl) (by decide) rfl (fun ls hl => ?_)
          refine lv_goto (tgt := 17) hx hb dX7_isSame_78 (by decide) ?_
          refine W.widen (k := (120 * r + 6 * (cl + 1))) (n := (800 * r + 40 * (cl + 1))) (by omega) (by omega) ?_
          exact ih_17 (cl + 1) (by omega) _ _ _ _ hk L17_0 L17_1 L17_2 L17_3 L17_4 L17_5 L17_6 L17_7 L17_8 L17_9 L17_10 L17_11 L17_12 L17_13 L17_14 hF hR hSN J (lv_sub hl [0, 3, 1, 2, 4, 5] rfl)
      exact loop_17 20 0 (by omega) _ _ _ _ hk L7_0 L7_1 L7_2 L7_3 L7_4 L7_5 L7_6 L7_7 L7_8 L7_9 L7_10 L7_11 L7_12 L7_13 L7_14 hF hR hSN J (lv_sub hl [0, 1, 2, 3, 4, 5] rfl)
  exact loop_7 20 0 (by omega) _ _ _ _ hk Fa0 Fa1 Fa2 Fa3 Fa4 Fa5 Fa6 Fa7 Fa8 Fa9 Fa10 Fa11 Fa12 Fa13 Fa14 hF hR hSN J (lv_sub hl [0, 1, 2, 3, 4] rfl)
