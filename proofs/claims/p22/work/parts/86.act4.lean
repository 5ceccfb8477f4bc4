set_option maxHeartbeats 400000 in
set_option maxRecDepth 100000 in
theorem cL_act_a_ok (l : Launch) (hflags : l.flags = flags0) (E : zG) {ws : va_W} {x fl rl wh gr gra tr tra sc ha va ea eb nf nr z sa fe qf ro qr : Nat} {mc1 mc2 lim sup off plo hrs : Int32} {fa rd ri sn t9 hf gf : Nat → Int32} {g gq gs : Nat → Option Nat} {xv : Int32} {kk : Nat} (Fa0 : ws[0]? = some (x, .inr (7, [.ref fl, .ref rl, .ref wh, .ref gr, .ref tr, .ref sc, .int lim, .int sup, .int off, .int plo, .int hrs]))) (Fa1 : ws[1]? = some (fl, .inr (0, [.int mc1, .ref ea, .int (nI nf)]))) (Fa2 : ws[2]? = some (rl, .inr (0, [.int mc2, .ref eb, .int (nI nr)]))) (Fa3 : ws[3]? = some (wh, .inr (5, [.int (0 * 20 + 0), .int (nI 400), .int 0]))) (Fa4 : ws[4]? = some (gr, .inr (2, [.ref gra]))) (Fa5 : ws[5]? = some (gra, zI4 E 400 sn)) (Fa6 : ws[6]? = some (tr, .inr (2, [.ref tra]))) (Fa7 : ws[7]? = some (tra, zI4 E 400 t9)) (Fa8 : ws[8]? = some (sc, .inr (4, [.ref ha, .ref va]))) (Fa9 : ws[9]? = some (ha, zI4 E 400 hf)) (Fa10 : ws[10]? = some (va, zI4 E 400 gf)) (Fa11 : ws[11]? = some (z, .inr (8, [.ref fe, .ref ro, .ref sa, .int lim, .int sup, .int off, .int plo, .int hrs]))) (Fa12 : ws[14]? = some (sa, zA4 E 20 gs)) (Fa13 : ws[qf]? = some (fe, zA4 E nf g)) (Fa14 : ws[qr]? = some (ro, zA4 E nr gq)) (hql : 11 < qf ∧ 11 < qr) (hF : FS E ws fa ea nf) (hR : RS E ws rd ri eb nr) (hSep : SEP E ea eb) (hSE : SE E ws g nf fa) (hSR : SR E ws gq nr rd ri) (hSN : SN E ws 15 gs sn) (hnf : nf ≤ 10) (hnr : nr ≤ 4) (hok : ∀ j, j < nf → okF fa j) (hor : ∀ q, q < nr → okR rd ri q) (hRB : RB 200 sn) (hu9 : BI 0 40 sup) (hlm : BI 1 60 lim) (hln : 35 ≤ ws.length) (hE1 : ¬ zA E E.2.2.1) (hk13 : bln xv 13 = kk) (hkk : kk = 8 ∨ kk = 9) : Met l yL_act wsL_act2 ({ frames := 7, cells := 20, slots := 120, locals := 105 } : Room) (va_Pc [.ref x, .ref z, .int xv] (zY E ws)) (va_Qi (fun (r : Int32) (ws' : va_W) => (zKi E ws ws') ∧ (LW E x fl rl wh gr gra tr tra sc ha va z sa gs ws') ∧ (r = 1)) (zI E) (zA E)) 20 120 (zA E) := by
  refine Met.ofW (cc := cL_act) (maxL := 12) (ret := (some .boolean)) (by decide) rfl ?_
  intro p e s m args below meth c s₁ B hml hv
  obtain ⟨hargs9, hI, hRz⟩ := hv
  have hx := B.exec
  have hb := B.bytes
  have hr := B.returns
  have hlocks := B.notSynchronized
  have X : zC E p m c cL_act 12 s args wsL_act2 RL := z_open B hml hI
  have hown := X.1.2.2.2.1
  have hts := X.1.2.2.2.2
  have J := hI.J
  have hi_X7 : ∀ w ∈ wsX70, w ∈ wsL_act2 := by decide +kernel
  have n0_13 : 0 ≠ qf := zneK Fa0 Fa13 rfl
  have n0_14 : 0 ≠ qr := zneK Fa0 Fa14 rfl
  have n1_13 : 1 ≠ qf := zneK Fa1 Fa13 rfl
  have n1_14 : 1 ≠ qr := zneK Fa1 Fa14 rfl
  have n2_13 : 2 ≠ qf := zneK Fa2 Fa13 rfl
  have n2_14 : 2 ≠ qr := zneK Fa2 Fa14 rfl
  have n3_13 : 3 ≠ qf := zneK Fa3 Fa13 rfl
  have n3_14 : 3 ≠ qr := zneK Fa3 Fa14 rfl
  have n4_13 : 4 ≠ qf := zneK Fa4 Fa13 rfl
  have n4_14 : 4 ≠ qr := zneK Fa4 Fa14 rfl
  have n5_13 : 5 ≠ qf := zneK Fa5 Fa13 rfl
  have n5_14 : 5 ≠ qr := zneK Fa5 Fa14 rfl
  have n6_13 : 6 ≠ qf := zneK Fa6 Fa13 rfl
  have n6_14 : 6 ≠ qr := zneK Fa6 Fa14 rfl
  have n7_13 : 7 ≠ qf := zneK Fa7 Fa13 rfl
  have n7_14 : 7 ≠ qr := zneK Fa7 Fa14 rfl
  have n8_13 : 8 ≠ qf := zneK Fa8 Fa13 rfl
  have n8_14 : 8 ≠ qr := zneK Fa8 Fa14 rfl
  have n9_13 : 9 ≠ qf := zneK Fa9 Fa13 rfl
  have n9_14 : 9 ≠ qr := zneK Fa9 Fa14 rfl
  have n10_13 : 10 ≠ qf := zneK Fa10 Fa13 rfl
  have n10_14 : 10 ≠ qr := zneK Fa10 Fa14 rfl
  have n11_13 : 11 ≠ qf := zneK Fa11 Fa13 rfl
  have n11_14 : 11 ≠ qr := zneK Fa11 Fa14 rfl
  have hk : zKi E ws ws := zKi.rf
  have hl := lv_entry ([.ref x, .ref z, .int xv]) (n := 12) (Nat.le_of_ble_eq_true rfl)
  rw [show entryFrame m args 12 = entryFrame m ([.ref x, .ref z, .int xv] : List Value).toArray 12 from by rw [hargs9], lg_entry_eq]
  generalize (lg_sl ([.ref x, .ref z, .int xv]) ++ List.replicate (12 - (lg_sl ([.ref x, .ref z, .int xv])).length) Slot.unset).toArray = ls at hl ⊢
  have hl : lv_has ls 12 [(0, .ref x), (1, .ref z), (2, .int xv)] := hl
  obtain ⟨hqf, hqr⟩ := hql
  have hbl := hSN.len
  have bq13 := zlt Fa13
  have bq14 := zlt Fa14
  have nr13 := hSN.no Fa13 rfl
  have nr14 := hSN.no Fa14 rfl
  have hhR := hgS_RB (wo := -1) nf hok
  generalize hQ : (MQ below (va_Qi (fun (r : Int32) (ws' : va_W) => (zKi E ws ws') ∧ (LW E x fl rl wh gr gra tr tra sc ha va z sa gs ws') ∧ (r = 1)) (zI E) (zA E)) args s 20 120 (zA E)) = QQ
  refine lv_aload_n hx hb dL_act_0 rfl (lv_at hl 1 rfl) ?_
  refine z_get (C := RX7) (T := TX7) (N := 8) (ci := 8) (v := .ref fe) X J hi_X7 11 Fa11 rfl 0 (by decide) (by decide +kernel) rfl dL_act_1 ?_
  refine z_alenA (v := nI nf) X J qf Fa13 rfl dL_act_4 ?_
  refine lv_istore_n (lv' := [(3, .int (nI nf)), (0, .ref x), (1, .ref z), (2, .int xv)]) hx hb dL_act_5 rfl hl (by decide) rfl (fun ls hl => ?_)
  refine lv_iload_n hx hb dL_act_6 rfl (lv_at hl 3 rfl) ?_
  refine lv_bipush (v := nI 13) hx hb dL_act_7 (by decide) ?_
  refine z_cr (z_rS (As := [.int xv, .int (nI 13)]) (rest := []) X J (cL_below_ok l E (by first | assumption | omega | decide) (by first | assumption | omega | decide)) (va_cwS 2 hts (goodIn_ext2 gL_act_L_below) rfl rfl rfl (by decide +kernel) ⟨Nat.le_of_ble_eq_true rfl, Nat.le_of_ble_eq_true rfl⟩) rfl hl.1 rfl (Nat.le_of_ble_eq_true rfl) dL_act_9 ⟨Nat.le_of_ble_eq_true rfl, Nat.le_of_ble_eq_true rfl⟩) (fun r9 e_r9 => ?_)
  subst e_r9
  refine W.eq (g2 := F0 m 12 ls [.int (nI kk)]) (congrArg (fun z9 : Int32 => F0 m 12 ls [.int z9]) (show (nI (bln xv 13) : Int32) = nI kk from (by rw [hk13]))) ?_
  have join_614 : ∀ (ls : Array Slot), lv_has ls 12 [(3, .int (nI nf)), (0, .ref x), (1, .ref z), (2, .int xv)] → W p l e (headSpec wsL_act2 ({ frames := 7, cells := 20, slots := 120, locals := 105 } : Room)).room s m args below meth c s.heap [] 0 0 QQ (F0 m 614 ls []) := by
    intro ls hl
    refine lv_iconst (v := nI 1) hx hb dL_act_614 rfl ?_
    refine lv_iload_n hx hb dL_act_615 rfl (lv_at hl 3 rfl) ?_
    refine lv_iconst (v := 4) hx hb dL_act_616 (by decide) ?_
    refine lv_ishr hx hb dL_act_617 ?_
    refine lv_bipush (v := nI 30) hx hb dL_act_618 (by decide) ?_
    refine z_cr (z_rS (As := [.int (xv >>> (4 &&& 31)), .int (nI 30)]) (rest := [.int (nI 1)]) X J (cL_below_ok l E (by first | assumption | omega | decide) (by first | assumption | omega | decide)) (va_cwS 2 hts (goodIn_ext2 gL_act_L_below) rfl rfl rfl (by decide +kernel) ⟨Nat.le_of_ble_eq_true rfl, Nat.le_of_ble_eq_true rfl⟩) rfl hl.1 rfl (Nat.le_of_ble_eq_true rfl) dL_act_620 ⟨Nat.le_of_ble_eq_true rfl, Nat.le_of_ble_eq_true rfl⟩) (fun r620 e_r620 => ?_)
    subst e_r620
    obtain ⟨mm, hmm⟩ : ∃ q9 : Nat, q9 = 1 + bln (xv >>> (4 &&& 31)) 30 := ⟨_, rfl⟩
    have bmm := bln_lt (v := xv >>> (4 &&& 31)) (n := 30) (by decide)
    refine lv_iadd hx hb dL_act_623 ?_
    refine W.eq (g2 := F0 m 624 ls [.int (nI mm)]) (congrArg (fun z9 : Int32 => F0 m 624 ls [.int z9]) (show ((nI 1) + (nI (bln (xv >>> (4 &&& 31)) 30)) : Int32) = nI mm from (by rw [nI_add, hmm]))) ?_
    refine lv_istore (lv' := [(4, .int (nI mm)), (3, .int (nI nf)), (0, .ref x), (1, .ref z), (2, .int xv)]) hx hb dL_act_624 hl (by decide) rfl (fun ls hl => ?_)
    refine lv_iconst (v := fmS sn (nI mm) (20 * 0)) hx hb dL_act_626 rfl ?_
    refine lv_istore (lv' := [(5, .int (fmS sn (nI mm) (20 * 0))), (4, .int (nI mm)), (3, .int (nI nf)), (0, .ref x), (1, .ref z), (2, .int xv)]) hx hb dL_act_627 hl (by decide) rfl (fun ls hl => ?_)
    refine lv_aload_n hx hb dL_act_629 rfl (lv_at hl 4 rfl) ?_
    refine z_get (C := RX7) (T := TX7) (N := 8) (ci := 8) (v := .ref sa) X J hi_X7 11 Fa11 rfl 2 (by decide) (by decide +kernel) rfl dL_act_630 ?_
    refine lv_astore (lv' := [(6, .ref sa), (5, .int (fmS sn (nI mm) (20 * 0))), (4, .int (nI mm)), (3, .int (nI nf)), (0, .ref x), (1, .ref z), (2, .int xv)]) hx hb dL_act_633 hl (by decide) rfl (fun ls hl => ?_)
    refine lv_aload hx hb dL_act_635 (lv_at hl 0 rfl) ?_
    refine z_alenA (v := nI 20) X J 14 Fa12 rfl dL_act_637 ?_
    refine lv_istore (lv' := [(7, .int (nI 20)), (6, .ref sa), (5, .int (fmS sn (nI mm) (20 * 0))), (4, .int (nI mm)), (3, .int (nI nf)), (0, .ref x), (1, .ref z), (2, .int xv)]) hx hb dL_act_638 hl (by decide) rfl (fun ls hl => ?_)
    refine lv_iconst (v := nI 0) hx hb dL_act_640 rfl ?_
    refine lv_istore (lv' := [(8, .int (nI 0)), (7, .int (nI 20)), (6, .ref sa), (5, .int (fmS sn (nI mm) (20 * 0))), (4, .int (nI mm)), (3, .int (nI nf)), (0, .ref x), (1, .ref z), (2, .int xv)]) hx hb dL_act_641 hl (by decide) rfl (fun ls hl => ?_)
    have loop_643 : ∀ (k9 r : Nat), r + k9 = 20 → ∀ (wl643 : va_W) (H : Heap) (locs : List Loc) (ls : Array Slot), zKi E ws wl643 → wl643[0]? = some (x, .inr (7, [.ref fl, .ref rl, .ref wh, .ref gr, .ref tr, .ref sc, .int lim, .int sup, .int off, .int plo, .int hrs])) → wl643[1]? = some (fl, .inr (0, [.int mc1, .ref ea, .int (nI nf)])) → wl643[2]? = some (rl, .inr (0, [.int mc2, .ref eb, .int (nI nr)])) → wl643[3]? = some (wh, .inr (5, [.int (0 * 20 + 0), .int (nI 400), .int 0])) → wl643[4]? = some (gr, .inr (2, [.ref gra])) → wl643[5]? = some (gra, zI4 E 400 sn) → wl643[6]? = some (tr, .inr (2, [.ref tra])) → wl643[7]? = some (tra, zI4 E 400 t9) → wl643[8]? = some (sc, .inr (4, [.ref ha, .ref va])) → wl643[9]? = some (ha, zI4 E 400 hf) → wl643[10]? = some (va, zI4 E 400 gf) → wl643[11]? = some (z, .inr (8, [.ref fe, .ref ro, .ref sa, .int lim, .int sup, .int off, .int plo, .int hrs])) → wl643[14]? = some (sa, zA4 E 20 gs) → wl643[qf]? = some (fe, zA4 E nf g) → wl643[qr]? = some (ro, zA4 E nr gq) → FS E wl643 fa ea nf → RS E wl643 rd ri eb nr → SN E wl643 15 gs (fallC sn (nI mm) (20 * r)) → zJ E wl643 s H locs → lv_has ls 12 [(8, .int (nI r)), (7, .int (nI 20)), (6, .ref sa), (5, .int (fmS sn (nI mm) (20 * r))), (4, .int (nI mm)), (3, .int (nI nf)), (0, .ref x), (1, .ref z), (2, .int xv)] → W p l e (headSpec wsL_act2 ({ frames := 7, cells := 20, slots := 120, locals := 105 } : Room)).room s m args below meth c H locs 0 0 QQ (F0 m 643 ls []) := by
      intro k9
      induction k9 with
      | zero =>
        intro r hik wl643 H locs ls hk L643_0 L643_1 L643_2 L643_3 L643_4 L643_5 L643_6 L643_7 L643_8 L643_9 L643_10 L643_11 L643_12 L643_13 L643_14 hF hR hSN J hl
        obtain rfl : 20 = r := by omega
        refine lv_iload hx hb dL_act_643 (lv_at hl 0 rfl) ?_
        refine lv_iload hx hb dL_act_645 (lv_at hl 1 rfl) ?_
        refine lv_icmp_ge (tgt := 715) hx hb dL_act_647 (by decide) (fun cz647 => ?_) (fun cz647 => by exact (cz647 (nI_le (Nat.le_refl _) (by omega))).elim)
        refine lv_aload_n hx hb dL_act_715 rfl (lv_at hl 6 rfl) ?_
        refine lv_iload hx hb dL_act_716 (lv_at hl 4 rfl) ?_
        refine z_xi J (z_yV (As := [.int (nI mm)]) (rest := []) (ci := 7) (q0 := 0) X hRz J (cX6_fall_ok l hflags E L643_0 L643_3 L643_4 L643_5) (cwV 1 hts (goodIn_ext2 gL_act_X6_fall) rfl rfl rfl (by decide +kernel) ⟨Nat.le_of_ble_eq_true rfl, Nat.le_of_ble_eq_true rfl⟩) L643_0 rfl rfl rfl hl.1 rfl (Nat.le_of_ble_eq_true rfl) dL_act_718 ⟨by show _ ≤ 20; omega, by show _ ≤ 120; omega⟩) (fun nm ce q9 H locs hp9 J h1 h2 h3 => ?_) (fun r718 ws_1 H locs hp9 J => ?_)
        · exact False.elim (by exact absurd hp9.1 (by rw [show kFall (nI mm) = 0 from kFall_ok (by omega) (by omega)]; decide))
        obtain ⟨k1, G1_a0, e_r718⟩ := hp9
        have hF := hF.keepS k1 (fun q9 hq9 => Or.inl (by simp only [List.mem_cons, rg_mem, List.not_mem_nil, or_false, not_or] at hq9; omega))
        have hR := hR.keepS k1 (fun q9 hq9 => Or.inl (by simp only [List.mem_cons, rg_mem, List.not_mem_nil, or_false, not_or] at hq9; omega))
        have hSN := hSN.keep k1 (fun r9 hr9 => by simp only [List.mem_cons, rg_mem, List.not_mem_nil, or_false, not_or]; omega)
        have hk := hk.step k1 (fun q9 a9 n9 f9 h8 h7 h9 => by simp only [List.mem_cons, rg_mem, List.not_mem_nil, or_false, not_or]; omega)
        have G1_0 := k1.2 0 _ (by decide) L643_0
        have G1_1 := k1.2 1 _ (by decide) L643_1
        have G1_2 := k1.2 2 _ (by decide) L643_2
        have G1_3 := k1.2 3 _ (by decide) L643_3
        have G1_4 := k1.2 4 _ (by decide) L643_4
        have G1_6 := k1.2 6 _ (by decide) L643_6
        have G1_7 := k1.2 7 _ (by decide) L643_7
        have G1_8 := k1.2 8 _ (by decide) L643_8
        have G1_9 := k1.2 9 _ (by decide) L643_9
        have G1_10 := k1.2 10 _ (by decide) L643_10
        have G1_11 := k1.2 11 _ (by decide) L643_11
        have G1_12 := k1.2 14 _ (by decide) L643_12
        have G1_13 := k1.2 qf _ (by simp only [List.mem_cons, List.not_mem_nil, or_false]; omega) L643_13
        have G1_14 := k1.2 qr _ (by simp only [List.mem_cons, List.not_mem_nil, or_false]; omega) L643_14
        refine W.eq (g2 := F0 m 721 ls [.int (fmS sn (nI mm) (20 * 20))]) (congrArg (fun z9 : Int32 => F0 m 721 ls [.int z9]) (show (r718 : Int32) = fmS sn (nI mm) (20 * 20) from (by rw [e_r718.2, fm_eq]))) ?_
        refine lv_iload hx hb dL_act_721 (lv_at hl 3 rfl) ?_
        refine lv_icmp_ne (tgt := 730) hx hb dL_act_723 (by decide) (fun cz723 => by exact (cz723 rfl).elim) (fun cz723 => ?_)
        refine lv_iconst (v := 1) hx hb dL_act_726 (by decide) ?_
        refine lv_goto (tgt := 731) hx hb dL_act_727 (by decide) ?_
        refine W.widen (k := 20) (n := 120) (by omega) (by omega) ?_
        subst hQ
        exact W.zret (v := 1) hx hb hr rfl (fun t ht hW => ⟨⟨1, ws_1, rfl, ⟨hk, ⟨mc1, mc2, lim, sup, off, plo, hrs, ea, eb, nf, nr, fe, qf, ro, qr, fa, rd, ri, (fallC sn (nI mm) 400), t9, hf, gf, g, gq, G1_0, G1_1, G1_2, G1_3, G1_4, G1_a0, G1_6, G1_7, G1_8, G1_9, G1_10, G1_11, G1_12, G1_13, G1_14, ⟨by omega, by omega⟩, hF, hR, hSep, (hSE.keepI hk), (hSR.keepI hk), hSN, hnf, hnr, hok, hor, (fall_RB hRB (nI_BI2 (by omega) (by omega) (by omega))), hu9, hlm, (Nat.le_trans hln hk.1)⟩, rfl⟩, J.I X ht hW.alike⟩, J.F ht⟩) J.locs dL_act_731
      | succ k9 ih_643 =>
        intro r hik wl643 H locs ls hk L643_0 L643_1 L643_2 L643_3 L643_4 L643_5 L643_6 L643_7 L643_8 L643_9 L643_10 L643_11 L643_12 L643_13 L643_14 hF hR hSN J hl
        refine lv_iload hx hb dL_act_643 (lv_at hl 0 rfl) ?_
        refine lv_iload hx hb dL_act_645 (lv_at hl 1 rfl) ?_
        refine lv_icmp_ge (tgt := 715) hx hb dL_act_647 (by decide) (fun cz647 => by exact (nI_ge (by omega) (by omega) cz647).elim) (fun cz647 => ?_)
        obtain ⟨ra, rf0, hra, hrc0, hrf0⟩ := hSN r (by omega)
        refine lv_aload hx hb dL_act_650 (lv_at hl 2 rfl) ?_
        refine lv_iload hx hb dL_act_652 (lv_at hl 0 rfl) ?_
        refine z_aaldA X J 14 L643_12 (vp_in_nI (by omega) (by first | decide | omega)) dL_act_654 ?_
        refine W.eq (g2 := F0 m 655 ls [va_rf (gs r)]) (congrArg (fun z9 : Option Nat => F0 m 655 ls [va_rf z9]) (show (gs (nI r).toNatClampNeg : Option Nat) = gs r from (congrArg _ (nI_clamp (by omega))))) ?_
        refine W.eq (g2 := F0 m 655 ls [.ref ra]) (by rw [show gs r = some ra from hra]; rfl) ?_
        refine lv_astore (lv' := [(9, .ref ra), (8, .int (nI r)), (7, .int (nI 20)), (6, .ref sa), (5, .int (fmS sn (nI mm) (20 * r))), (4, .int (nI mm)), (3, .int (nI nf)), (0, .ref x), (1, .ref z), (2, .int xv)]) hx hb dL_act_655 hl (by decide) rfl (fun ls hl => ?_)
        refine lv_iconst (v := nI 0) hx hb dL_act_657 rfl ?_
        refine lv_istore (lv' := [(10, .int (nI 0)), (9, .ref ra), (8, .int (nI r)), (7, .int (nI 20)), (6, .ref sa), (5, .int (fmS sn (nI mm) (20 * r))), (4, .int (nI mm)), (3, .int (nI nf)), (0, .ref x), (1, .ref z), (2, .int xv)]) hx hb dL_act_658 hl (by decide) rfl (fun ls hl => ?_)
        have loop_660 : ∀ (k9 k : Nat), k + k9 = 20 → ∀ (wl660 : va_W) (H : Heap) (locs : List Loc) (ls : Array Slot), zKi E ws wl660 → wl660[0]? = some (x, .inr (7, [.ref fl, .ref rl, .ref wh, .ref gr, .ref tr, .ref sc, .int lim, .int sup, .int off, .int plo, .int hrs])) → wl660[1]? = some (fl, .inr (0, [.int mc1, .ref ea, .int (nI nf)])) → wl660[2]? = some (rl, .inr (0, [.int mc2, .ref eb, .int (nI nr)])) → wl660[3]? = some (wh, .inr (5, [.int (0 * 20 + 0), .int (nI 400), .int 0])) → wl660[4]? = some (gr, .inr (2, [.ref gra])) → wl660[5]? = some (gra, zI4 E 400 sn) → wl660[6]? = some (tr, .inr (2, [.ref tra])) → wl660[7]? = some (tra, zI4 E 400 t9) → wl660[8]? = some (sc, .inr (4, [.ref ha, .ref va])) → wl660[9]? = some (ha, zI4 E 400 hf) → wl660[10]? = some (va, zI4 E 400 gf) → wl660[11]? = some (z, .inr (8, [.ref fe, .ref ro, .ref sa, .int lim, .int sup, .int off, .int plo, .int hrs])) → wl660[14]? = some (sa, zA4 E 20 gs) → wl660[qf]? = some (fe, zA4 E nf g) → wl660[qr]? = some (ro, zA4 E nr gq) → FS E wl660 fa ea nf → RS E wl660 rd ri eb nr → SN E wl660 15 gs (fallC sn (nI mm) (20 * r + k)) → zJ E wl660 s H locs → lv_has ls 12 [(10, .int (nI k)), (9, .ref ra), (8, .int (nI r)), (7, .int (nI 20)), (6, .ref sa), (5, .int (fmS sn (nI mm) (20 * r + k))), (4, .int (nI mm)), (3, .int (nI nf)), (0, .ref x), (1, .ref z), (2, .int xv)] → W p l e (headSpec wsL_act2 ({ frames := 7, cells := 20, slots := 120, locals := 105 } : Room)).room s m args below meth c H locs 0 0 QQ (F0 m 660 ls []) := by
          intro k9
          induction k9 with
          | zero =>
            intro k hik wl660 H locs ls hk L660_0 L660_1 L660_2 L660_3 L660_4 L660_5 L660_6 L660_7 L660_8 L660_9 L660_10 L660_11 L660_12 L660_13 L660_14 hF hR hSN J hl
            obtain rfl : 20 = k := by omega
            refine lv_iload hx hb dL_act_660 (lv_at hl 0 rfl) ?_
            refine lv_bipush (v := nI 20) hx hb dL_act_662 (by decide) ?_
            refine lv_icmp_ge (tgt := 709) hx hb dL_act_664 (by decide) (fun cz664 => ?_) (fun cz664 => by exact (cz664 (nI_le (Nat.le_refl _) (by omega))).elim)
            refine lv_iinc (v := nI (r + 1)) (lv' := [(8, .int (nI (r + 1))), (10, .int (nI 20)), (9, .ref ra), (7, .int (nI 20)), (6, .ref sa), (5, .int (fmS sn (nI mm) (20 * r + 20))), (4, .int (nI mm)), (3, .int (nI nf)), (0, .ref x), (1, .ref z), (2, .int xv)]) hx hb dL_act_709 hl (k := 2) rfl (nI_1 r) (by decide) rfl (fun ls hl => ?_)
            refine lv_goto (tgt := 643) hx hb dL_act_712 (by decide) ?_
            exact ih_643 (r + 1) (by omega) _ _ _ _ hk L660_0 L660_1 L660_2 L660_3 L660_4 L660_5 L660_6 L660_7 L660_8 L660_9 L660_10 L660_11 L660_12 L660_13 L660_14 hF hR hSN J (lv_sub hl [0, 3, 4, 5, 6, 7, 8, 9, 10] rfl)
          | succ k9 ih_660 =>
            intro k hik wl660 H locs ls hk L660_0 L660_1 L660_2 L660_3 L660_4 L660_5 L660_6 L660_7 L660_8 L660_9 L660_10 L660_11 L660_12 L660_13 L660_14 hF hR hSN J hl
            refine lv_iload hx hb dL_act_660 (lv_at hl 0 rfl) ?_
            refine lv_bipush (v := nI 20) hx hb dL_act_662 (by decide) ?_
            refine lv_icmp_ge (tgt := 709) hx hb dL_act_664 (by decide) (fun cz664 => by exact (nI_ge (by omega) (by omega) cz664).elim) (fun cz664 => ?_)
            obtain ⟨ra2, rf, hra2, hrc, hrf⟩ := hSN r (by omega)
            obtain rfl : ra = ra2 := Option.some.inj (hra.symm.trans hra2)
            refine lv_aload hx hb dL_act_667 (lv_at hl 1 rfl) ?_
            refine lv_iload hx hb dL_act_669 (lv_at hl 0 rfl) ?_
            refine z_iald X J (15 + r) hrc (vp_in_nI (by omega) (by first | decide | omega)) dL_act_671 ?_
            refine W.eq (g2 := F0 m 672 ls [.int (sn (20 * r + k))]) (congrArg (fun z9 : Int32 => F0 m 672 ls [.int z9]) (show (rf (nI k).toNatClampNeg : Int32) = sn (20 * r + k) from (by rw [nI_clamp (by omega), hrf k (by omega)]; exact fallC_at))) ?_
            refine lv_istore (lv' := [(11, .int (sn (20 * r + k))), (10, .int (nI k)), (9, .ref ra), (8, .int (nI r)), (7, .int (nI 20)), (6, .ref sa), (5, .int (fmS sn (nI mm) (20 * r + k))), (4, .int (nI mm)), (3, .int (nI nf)), (0, .ref x), (1, .ref z), (2, .int xv)]) hx hb dL_act_672 hl (by decide) rfl (fun ls hl => ?_)
            refine lv_aload hx hb dL_act_674 (lv_at hl 2 rfl) ?_
            refine lv_iload hx hb dL_act_676 (lv_at hl 1 rfl) ?_
            refine lv_sipush (v := 200) hx hb dL_act_678 (by decide) ?_
            refine lv_iload hx hb dL_act_681 (lv_at hl 0 rfl) ?_
            refine lv_iload hx hb dL_act_683 (lv_at hl 7 rfl) ?_
            refine lv_iadd hx hb dL_act_685 ?_
            refine va_mmin hx hb (X.1.2.2.1.trans hl.1.symm) hown (hts (.methodLink RL 74 Lib.Math.min.name) (by decide +kernel)) (hts (.static Lib.Math.min.name) (by decide +kernel)) (hts (.initialized "java/lang/Math") (by decide +kernel)) (hts (.code Lib.Math.min.name Lib.Math.min.code 2 (some .int)) (by decide +kernel)) (Nat.le_of_ble_eq_true rfl) (Nat.le_of_ble_eq_true rfl) (Nat.le_of_ble_eq_true rfl) (Nat.le_of_ble_eq_true rfl) dL_act_686 ?_
            refine W.eq (g2 := F0 m 689 ls [.int (mn 200 ((sn (20 * r + k)) + (nI mm))), .int (nI k), .ref ra]) rfl ?_
            refine W.eq (g2 := F0 m 689 ls [.int (mn (sn (20 * r + k) + nI mm) 200), .int (nI k), .ref ra]) (congrArg (fun z9 : Int32 => F0 m 689 ls [.int z9, .int (nI k), .ref ra]) (show (mn 200 ((sn (20 * r + k)) + (nI mm)) : Int32) = mn (sn (20 * r + k) + nI mm) 200 from (mn_cm _))) ?_
            refine z_iast X J (15 + r) hrc (vp_in_nI (by omega) (by first | decide | omega)) dL_act_689 (fun H locs J => ?_)
            rw [show upd rf (nI k).toNatClampNeg (mn (sn (20 * r + k) + nI mm) 200) = upd rf k (mn (sn (20 * r + k) + nI mm) 200) from (by rw [nI_clamp (by omega)])] at J
            have hF := hF.keepS (zK.set (S := [(15 + r)]) (ws := wl660) (q := (15 + r)) (e := (ra, zI4 E 20 (upd rf k (mn (sn (20 * r + k) + nI mm) 200)))) (List.mem_singleton.mpr rfl)) (fun q9 hq9 => Or.inr ⟨_, _, (List.mem_singleton.mp hq9).symm ▸ hrc, noL_I⟩)
            have hR := hR.keepS (zK.set (S := [(15 + r)]) (ws := wl660) (q := (15 + r)) (e := (ra, zI4 E 20 (upd rf k (mn (sn (20 * r + k) + nI mm) 200)))) (List.mem_singleton.mpr rfl)) (fun q9 hq9 => Or.inr ⟨_, _, (List.mem_singleton.mp hq9).symm ▸ hrc, noL_I⟩)
            have hSN := hSN.set (r := r) (c := k) (v := mn (sn (20 * r + k) + nI mm) 200) (by omega) (by omega) hra hrf
            have hk := hk.step (zK.set (S := [(15 + r)]) (ws := wl660) (q := (15 + r)) (e := (ra, zI4 E 20 (upd rf k (mn (sn (20 * r + k) + nI mm) 200)))) (List.mem_singleton.mpr rfl)) (fun q9 a9 n9 f9 h8 h7 h9 => by simp only [List.mem_cons, rg_mem, List.not_mem_nil, or_false, not_or]; omega)
            have G1_0 := zset_ne (q := (15 + r)) (e' := (ra, zI4 E 20 (upd rf k (mn (sn (20 * r + k) + nI mm) 200)))) (by omega) L660_0
            have G1_1 := zset_ne (q := (15 + r)) (e' := (ra, zI4 E 20 (upd rf k (mn (sn (20 * r + k) + nI mm) 200)))) (by omega) L660_1
            have G1_2 := zset_ne (q := (15 + r)) (e' := (ra, zI4 E 20 (upd rf k (mn (sn (20 * r + k) + nI mm) 200)))) (by omega) L660_2
            have G1_3 := zset_ne (q := (15 + r)) (e' := (ra, zI4 E 20 (upd rf k (mn (sn (20 * r + k) + nI mm) 200)))) (by omega) L660_3
            have G1_4 := zset_ne (q := (15 + r)) (e' := (ra, zI4 E 20 (upd rf k (mn (sn (20 * r + k) + nI mm) 200)))) (by omega) L660_4
            have G1_5 := zset_ne (q := (15 + r)) (e' := (ra, zI4 E 20 (upd rf k (mn (sn (20 * r + k) + nI mm) 200)))) (by omega) L660_5
            have G1_6 := zset_ne (q := (15 + r)) (e' := (ra, zI4 E 20 (upd rf k (mn (sn (20 * r + k) + nI mm) 200)))) (by omega) L660_6
            have G1_7 := zset_ne (q := (15 + r)) (e' := (ra, zI4 E 20 (upd rf k (mn (sn (20 * r + k) + nI mm) 200)))) (by omega) L660_7
            have G1_8 := zset_ne (q := (15 + r)) (e' := (ra, zI4 E 20 (upd rf k (mn (sn (20 * r + k) + nI mm) 200)))) (by omega) L660_8
            have G1_9 := zset_ne (q := (15 + r)) (e' := (ra, zI4 E 20 (upd rf k (mn (sn (20 * r + k) + nI mm) 200)))) (by omega) L660_9
            have G1_10 := zset_ne (q := (15 + r)) (e' := (ra, zI4 E 20 (upd rf k (mn (sn (20 * r + k) + nI mm) 200)))) (by omega) L660_10
            have G1_11 := zset_ne (q := (15 + r)) (e' := (ra, zI4 E 20 (upd rf k (mn (sn (20 * r + k) + nI mm) 200)))) (by omega) L660_11
            have G1_12 := zset_ne (q := (15 + r)) (e' := (ra, zI4 E 20 (upd rf k (mn (sn (20 * r + k) + nI mm) 200)))) (by omega) L660_12
            have G1_13 := zset_ne (q := (15 + r)) (e' := (ra, zI4 E 20 (upd rf k (mn (sn (20 * r + k) + nI mm) 200)))) (by omega) L660_13
            have G1_14 := zset_ne (q := (15 + r)) (e' := (ra, zI4 E 20 (upd rf k (mn (sn (20 * r + k) + nI mm) 200)))) (by omega) L660_14
            have G1_15 := zset_eq (e' := (ra, zI4 E 20 (upd rf k (mn (sn (20 * r + k) + nI mm) 200)))) hrc
            generalize hws1 : (wl660.set (15 + r) (ra, zI4 E 20 (upd rf k (mn (sn (20 * r + k) + nI mm) 200)))) = ws_1 at J hk G1_0 G1_1 G1_2 G1_3 G1_4 G1_5 G1_6 G1_7 G1_8 G1_9 G1_10 G1_11 G1_12 G1_13 G1_14 G1_15 hF hR hSN
            refine lv_iload hx hb dL_act_690 (lv_at hl 6 rfl) ?_
            refine lv_aload hx hb dL_act_692 (lv_at hl 2 rfl) ?_
            refine lv_iload hx hb dL_act_694 (lv_at hl 1 rfl) ?_
            refine z_iald X J (15 + r) G1_15 (vp_in_nI (by omega) (by first | decide | omega)) dL_act_696 ?_
            refine W.eq (g2 := F0 m 697 ls [.int (mn (sn (20 * r + k) + nI mm) 200), .int (fmS sn (nI mm) (20 * r + k))]) (congrArg (fun z9 : Int32 => F0 m 697 ls [.int z9, .int (fmS sn (nI mm) (20 * r + k))]) (show ((upd rf k (mn (sn (20 * r + k) + nI mm) 200)) (nI k).toNatClampNeg : Int32) = mn (sn (20 * r + k) + nI mm) 200 from (by rw [nI_clamp (by omega)]; exact if_pos rfl))) ?_
            refine lv_iload hx hb dL_act_697 (lv_at hl 0 rfl) ?_
            refine lv_isub hx hb dL_act_699 ?_
            refine lv_iadd hx hb dL_act_700 ?_
            refine lv_istore (lv' := [(5, .int ((fmS sn (nI mm) (20 * r + k)) + ((mn (sn (20 * r + k) + nI mm) 200) - (sn (20 * r + k))))), (11, .int (sn (20 * r + k))), (10, .int (nI k)), (9, .ref ra), (8, .int (nI r)), (7, .int (nI 20)), (6, .ref sa), (4, .int (nI mm)), (3, .int (nI nf)), (0, .ref x), (1, .ref z), (2, .int xv)]) hx hb dL_act_701 hl (by decide) rfl (fun ls hl => ?_)
            refine lv_iinc (v := nI (k + 1)) (lv' := [(10, .int (nI (k + 1))), (5, .int ((fmS sn (nI mm) (20 * r + k)) + ((mn (sn (20 * r + k) + nI mm) 200) - (sn (20 * r + k))))), (11, .int (sn (20 * r + k))), (9, .ref ra), (8, .int (nI r)), (7, .int (nI 20)), (6, .ref sa), (4, .int (nI mm)), (3, .int (nI nf)), (0, .ref x), (1, .ref z), (2, .int xv)]) hx hb dL_act_703 hl (k := 2) rfl (nI_1 k) (by decide) rfl (fun ls hl => ?_)
            refine lv_goto (tgt := 660) hx hb dL_act_706 (by decide) ?_
            exact ih_660 (k + 1) (by omega) _ _ _ _ hk G1_0 G1_1 G1_2 G1_3 G1_4 G1_5 G1_6 G1_7 G1_8 G1_9 G1_10 G1_11 G1_12 G1_13 G1_14 hF hR (hSN.congr (fun j9 hj9 => congrFun fallU j9)) J (lv_sub hl [0, 3, 4, 5, 6, 1, 7, 8, 9, 10, 11] rfl)
        exact loop_660 20 0 (by omega) _ _ _ _ hk L643_0 L643_1 L643_2 L643_3 L643_4 L643_5 L643_6 L643_7 L643_8 L643_9 L643_10 L643_11 L643_12 L643_13 L643_14 hF hR hSN J (lv_sub hl [0, 1, 2, 3, 4, 5, 6, 7, 8, 9, 10] rfl)
    exact loop_643 20 0 (by omega) _ _ _ _ hk Fa0 Fa1 Fa2 Fa3 Fa4 Fa5 Fa6 Fa7 Fa8 Fa9 Fa10 Fa11 Fa12 Fa13 Fa14 hF hR (hSN.congr (fun j9 hj9 => by rw [Nat.mul_zero, fallC_0])) J (lv_sub hl [0, 1, 2, 3, 4, 5, 6, 7, 8] rfl)
  rcases hkk with rfl | rfl
  · refine W.eq (g2 := F0 m 12 ls [.int 8]) (congrArg (fun z9 : Int32 => F0 m 12 ls [.int z9]) (show (nI 8 : Int32) = 8 from rfl)) ?_
    have join_614 : ∀ (ls : Array Slot), lv_has ls 12 [(3, .int (nI nf)), (0, .ref x), (1, .ref z), (2, .int xv)] → W p l e (headSpec wsL_act2 ({ frames := 7, cells := 20, slots := 120, locals := 105 } : Room)).room s m args below meth c s.heap [] 0 0 QQ (F0 m 614 ls []) := by
      intro ls hl
      refine lv_iconst (v := nI 1) hx hb dL_act_614 rfl ?_
      refine lv_iload_n hx hb dL_act_615 rfl (lv_at hl 3 rfl) ?_
      refine lv_iconst (v := 4) hx hb dL_act_616 (by decide) ?_
      refine lv_ishr hx hb dL_act_617 ?_
      refine lv_bipush (v := nI 30) hx hb dL_act_618 (by decide) ?_
      refine z_cr (z_rS (As := [.int (xv >>> (4 &&& 31)), .int (nI 30)]) (rest := [.int (nI 1)]) X J (cL_below_ok l E (by first | assumption | omega | decide) (by first | assumption | omega | decide)) (va_cwS 2 hts (goodIn_ext2 gL_act_L_below) rfl rfl rfl (by decide +kernel) ⟨Nat.le_of_ble_eq_true rfl, Nat.le_of_ble_eq_true rfl⟩) rfl hl.1 rfl (Nat.le_of_ble_eq_true rfl) dL_act_620 ⟨Nat.le_of_ble_eq_true rfl, Nat.le_of_ble_eq_true rfl⟩) (fun r620 e_r620 => ?_)
      subst e_r620
      obtain ⟨mm, hmm⟩ : ∃ q9 : Nat, q9 = 1 + bln (xv >>> (4 &&& 31)) 30 := ⟨_, rfl⟩
      have bmm := bln_lt (v := xv >>> (4 &&& 31)) (n := 30) (by decide)
      refine lv_iadd hx hb dL_act_623 ?_
      refine W.eq (g2 := F0 m 624 ls [.int (nI mm)]) (congrArg (fun z9 : Int32 => F0 m 624 ls [.int z9]) (show ((nI 1) + (nI (bln (xv >>> (4 &&& 31)) 30)) : Int32) = nI mm from (by rw [nI_add, hmm]))) ?_
      refine lv_istore (lv' := [(4, .int (nI mm)), (3, .int (nI nf)), (0, .ref x), (1, .ref z), (2, .int xv)]) hx hb dL_act_624 hl (by decide) rfl (fun ls hl => ?_)
      refine lv_iconst (v := fmS sn (nI mm) (20 * 0)) hx hb dL_act_626 rfl ?_
      refine lv_istore (lv' := [(5, .int (fmS sn (nI mm) (20 * 0))), (4, .int (nI mm)), (3, .int (nI nf)), (0, .ref x), (1, .ref z), (2, .int xv)]) hx hb dL_act_627 hl (by decide) rfl (fun ls hl => ?_)
      refine lv_aload_n hx hb dL_act_629 rfl (lv_at hl 4 rfl) ?_
      refine z_get (C := RX7) (T := TX7) (N := 8) (ci := 8) (v := .ref sa) X J hi_X7 11 Fa11 rfl 2 (by decide) (by decide +kernel) rfl dL_act_630 ?_
      refine lv_astore (lv' := [(6, .ref sa), (5, .int (fmS sn (nI mm) (20 * 0))), (4, .int (nI mm)), (3, .int (nI nf)), (0, .ref x), (1, .ref z), (2, .int xv)]) hx hb dL_act_633 hl (by decide) rfl (fun ls hl => ?_)
      refine lv_aload hx hb dL_act_635 (lv_at hl 0 rfl) ?_
      refine z_alenA (v := nI 20) X J 14 Fa12 rfl dL_act_637 ?_
      refine lv_istore (lv' := [(7, .int (nI 20)), (6, .ref sa), (5, .int (fmS sn (nI mm) (20 * 0))), (4, .int (nI mm)), (3, .int (nI nf)), (0, .ref x), (1, .ref z), (2, .int xv)]) hx hb dL_act_638 hl (by decide) rfl (fun ls hl => ?_)
      refine lv_iconst (v := nI 0) hx hb dL_act_640 rfl ?_
      refine lv_istore (lv' := [(8, .int (nI 0)), (7, .int (nI 20)), (6, .ref sa), (5, .int (fmS sn (nI mm) (20 * 0))), (4, .int (nI mm)), (3, .int (nI nf)), (0, .ref x), (1, .ref z), (2, .int xv)]) hx hb dL_act_641 hl (by decide) rfl (fun ls hl => ?_)
      have loop_643 : ∀ (k9 r : Nat), r + k9 = 20 → ∀ (wl643 : va_W) (H : Heap) (locs : List Loc) (ls : Array Slot), zKi E ws wl643 → wl643[0]? = some (x, .inr (7, [.ref fl, .ref rl, .ref wh, .ref gr, .ref tr, .ref sc, .int lim, .int sup, .int off, .int plo, .int hrs])) → wl643[1]? = some (fl, .inr (0, [.int mc1, .ref ea, .int (nI nf)])) → wl643[2]? = some (rl, .inr (0, [.int mc2, .ref eb, .int (nI nr)])) → wl643[3]? = some (wh, .inr (5, [.int (0 * 20 + 0), .int (nI 400), .int 0])) → wl643[4]? = some (gr, .inr (2, [.ref gra])) → wl643[5]? = some (gra, zI4 E 400 sn) → wl643[6]? = some (tr, .inr (2, [.ref tra])) → wl643[7]? = some (tra, zI4 E 400 t9) → wl643[8]? = some (sc, .inr (4, [.ref ha, .ref va])) → wl643[9]? = some (ha, zI4 E 400 hf) → wl643[10]? = some (va, zI4 E 400 gf) → wl643[11]? = some (z, .inr (8, [.ref fe, .ref ro, .ref sa, .int lim, .int sup, .int off, .int plo, .int hrs])) → wl643[14]? = some (sa, zA4 E 20 gs) → wl643[qf]? = some (fe, zA4 E nf g) → wl643[qr]? = some (ro, zA4 E nr gq) → FS E wl643 fa ea nf → RS E wl643 rd ri eb nr → SN E wl643 15 gs (fallC sn (nI mm) (20 * r)) → zJ E wl643 s H locs → lv_has ls 12 [(8, .int (nI r)), (7, .int (nI 20)), (6, .ref sa), (5, .int (fmS sn (nI mm) (20 * r))), (4, .int (nI mm)), (3, .int (nI nf)), (0, .ref x), (1, .ref z), (2, .int xv)] → W p l e (headSpec wsL_act2 ({ frames := 7, cells := 20, slots := 120, locals := 105 } : Room)).room s m args below meth c H locs 0 0 QQ (F0 m 643 ls []) := by
        intro k9
        induction k9 with
        | zero =>
          intro r hik wl643 H locs ls hk L643_0 L643_1 L643_2 L643_3 L643_4 L643_5 L643_6 L643_7 L643_8 L643_9 L643_10 L643_11 L643_12 L643_13 L643_14 hF hR hSN J hl
          obtain rfl : 20 = r := by omega
          refine lv_iload hx hb dL_act_643 (lv_at hl 0 rfl) ?_
          refine lv_iload hx hb dL_act_645 (lv_at hl 1 rfl) ?_
          refine lv_icmp_ge (tgt := 715) hx hb dL_act_647 (by decide) (fun cz647 => ?_) (fun cz647 => by exact (cz647 (nI_le (Nat.le_refl _) (by omega))).elim)
          refine lv_aload_n hx hb dL_act_715 rfl (lv_at hl 6 rfl) ?_
          refine lv_iload hx hb dL_act_716 (lv_at hl 4 rfl) ?_
          refine z_xi J (z_yV (As := [.int (nI mm)]) (rest := []) (ci := 7) (q0 := 0) X hRz J (cX6_fall_ok l hflags E L643_0 L643_3 L643_4 L643_5) (cwV 1 hts (goodIn_ext2 gL_act_X6_fall) rfl rfl rfl (by decide +kernel) ⟨Nat.le_of_ble_eq_true rfl, Nat.le_of_ble_eq_true rfl⟩) L643_0 rfl rfl rfl hl.1 rfl (Nat.le_of_ble_eq_true rfl) dL_act_718 ⟨by show _ ≤ 20; omega, by show _ ≤ 120; omega⟩) (fun nm ce q9 H locs hp9 J h1 h2 h3 => ?_) (fun r718 ws_1 H locs hp9 J => ?_)
          · exact False.elim (by exact absurd hp9.1 (by rw [show kFall (nI mm) = 0 from kFall_ok (by omega) (by omega)]; decide))
          obtain ⟨k1, G1_a0, e_r718⟩ := hp9
          have hF := hF.keepS k1 (fun q9 hq9 => Or.inl (by simp only [List.mem_cons, rg_mem, List.not_mem_nil, or_false, not_or] at hq9; omega))
          have hR := hR.keepS k1 (fun q9 hq9 => Or.inl (by simp only [List.mem_cons, rg_mem, List.not_mem_nil, or_false, not_or] at hq9; omega))
          have hSN := hSN.keep k1 (fun r9 hr9 => by simp only [List.mem_cons, rg_mem, List.not_mem_nil, or_false, not_or]; omega)
          have hk := hk.step k1 (fun q9 a9 n9 f9 h8 h7 h9 => by simp only [List.mem_cons, rg_mem, List.not_mem_nil, or_false, not_or]; omega)
          have G1_0 := k1.2 0 _ (by decide) L643_0
          have G1_1 := k1.2 1 _ (by decide) L643_1
          have G1_2 := k1.2 2 _ (by decide) L643_2
          have G1_3 := k1.2 3 _ (by decide) L643_3
          have G1_4 := k1.2 4 _ (by decide) L643_4
          have G1_6 := k1.2 6 _ (by decide) L643_6
          have G1_7 := k1.2 7 _ (by decide) L643_7
          have G1_8 := k1.2 8 _ (by decide) L643_8
          have G1_9 := k1.2 9 _ (by decide) L643_9
          have G1_10 := k1.2 10 _ (by decide) L643_10
          have G1_11 := k1.2 11 _ (by decide) L643_11
          have G1_12 := k1.2 14 _ (by decide) L643_12
          have G1_13 := k1.2 qf _ (by simp only [List.mem_cons, List.not_mem_nil, or_false]; omega) L643_13
          have G1_14 := k1.2 qr _ (by simp only [List.mem_cons, List.not_mem_nil, or_false]; omega) L643_14
          refine W.eq (g2 := F0 m 721 ls [.int (fmS sn (nI mm) (20 * 20))]) (congrArg (fun z9 : Int32 => F0 m 721 ls [.int z9]) (show (r718 : Int32) = fmS sn (nI mm) (20 * 20) from (by rw [e_r718.2, fm_eq]))) ?_
          refine lv_iload hx hb dL_act_721 (lv_at hl 3 rfl) ?_
          refine lv_icmp_ne (tgt := 730) hx hb dL_act_723 (by decide) (fun cz723 => by exact (cz723 rfl).elim) (fun cz723 => ?_)
          refine lv_iconst (v := 1) hx hb dL_act_726 (by decide) ?_
          refine lv_goto (tgt := 731) hx hb dL_act_727 (by decide) ?_
          refine W.widen (k := 20) (n := 120) (by omega) (by omega) ?_
          subst hQ
          exact W.zret (v := 1) hx hb hr rfl (fun t ht hW => ⟨⟨1, ws_1, rfl, ⟨hk, ⟨mc1, mc2, lim, sup, off, plo, hrs, ea, eb, nf, nr, fe, qf, ro, qr, fa, rd, ri, (fallC sn (nI mm) 400), t9, hf, gf, g, gq, G1_0, G1_1, G1_2, G1_3, G1_4, G1_a0, G1_6, G1_7, G1_8, G1_9, G1_10, G1_11, G1_12, G1_13, G1_14, ⟨by omega, by omega⟩, hF, hR, hSep, (hSE.keepI hk), (hSR.keepI hk), hSN, hnf, hnr, hok, hor, (fall_RB hRB (nI_BI2 (by omega) (by omega) (by omega))), hu9, hlm, (Nat.le_trans hln hk.1)⟩, rfl⟩, J.I X ht hW.alike⟩, J.F ht⟩) J.locs dL_act_731
        | succ k9 ih_643 =>
          intro r hik wl643 H locs ls hk L643_0 L643_1 L643_2 L643_3 L643_4 L643_5 L643_6 L643_7 L643_8 L643_9 L643_10 L643_11 L643_12 L643_13 L643_14 hF hR hSN J hl
          refine lv_iload hx hb dL_act_643 (lv_at hl 0 rfl) ?_
          refine lv_iload hx hb dL_act_645 (lv_at hl 1 rfl) ?_
          refine lv_icmp_ge (tgt := 715) hx hb dL_act_647 (by decide) (fun cz647 => by exact (nI_ge (by omega) (by omega) cz647).elim) (fun cz647 => ?_)
          obtain ⟨ra, rf0, hra, hrc0, hrf0⟩ := hSN r (by omega)
          refine lv_aload hx hb dL_act_650 (lv_at hl 2 rfl) ?_
          refine lv_iload hx hb dL_act_652 (lv_at hl 0 rfl) ?_
          refine z_aaldA X J 14 L643_12 (vp_in_nI (by omega) (by first | decide | omega)) dL_act_654 ?_
          refine W.eq (g2 := F0 m 655 ls [va_rf (gs r)]) (congrArg (fun z9 : Option Nat => F0 m 655 ls [va_rf z9]) (show (gs (nI r).toNatClampNeg : Option Nat) = gs r from (congrArg _ (nI_clamp (by omega))))) ?_
          refine W.eq (g2 := F0 m 655 ls [.ref ra]) (by rw [show gs r = some ra from hra]; rfl) ?_
          refine lv_astore (lv' := [(9, .ref ra), (8, .int (nI r)), (7, .int (nI 20)), (6, .ref sa), (5, .int (fmS sn (nI mm) (20 * r))), (4, .int (nI mm)), (3, .int (nI nf)), (0, .ref x), (1, .ref z), (2, .int xv)]) hx hb dL_act_655 hl (by decide) rfl (fun ls hl => ?_)
          refine lv_iconst (v := nI 0) hx hb dL_act_657 rfl ?_
          refine lv_istore (lv' := [(10, .int (nI 0)), (9, .ref ra), (8, .int (nI r)), (7, .int (nI 20)), (6, .ref sa), (5, .int (fmS sn (nI mm) (20 * r))), (4, .int (nI mm)), (3, .int (nI nf)), (0, .ref x), (1, .ref z), (2, .int xv)]) hx hb dL_act_658 hl (by decide) rfl (fun ls hl => ?_)
          have loop_660 : ∀ (k9 k : Nat), k + k9 = 20 → ∀ (wl660 : va_W) (H : Heap) (locs : List Loc) (ls : Array Slot), zKi E ws wl660 → wl660[0]? = some (x, .inr (7, [.ref fl, .ref rl, .ref wh, .ref gr, .ref tr, .ref sc, .int lim, .int sup, .int off, .int plo, .int hrs])) → wl660[1]? = some (fl, .inr (0, [.int mc1, .ref ea, .int (nI nf)])) → wl660[2]? = some (rl, .inr (0, [.int mc2, .ref eb, .int (nI nr)])) → wl660[3]? = some (wh, .inr (5, [.int (0 * 20 + 0), .int (nI 400), .int 0])) → wl660[4]? = some (gr, .inr (2, [.ref gra])) → wl660[5]? = some (gra, zI4 E 400 sn) → wl660[6]? = some (tr, .inr (2, [.ref tra])) → wl660[7]? = some (tra, zI4 E 400 t9) → wl660[8]? = some (sc, .inr (4, [.ref ha, .ref va])) → wl660[9]? = some (ha, zI4 E 400 hf) → wl660[10]? = some (va, zI4 E 400 gf) → wl660[11]? = some (z, .inr (8, [.ref fe, .ref ro, .ref sa, .int lim, .int sup, .int off, .int plo, .int hrs])) → wl660[14]? = some (sa, zA4 E 20 gs) → wl660[qf]? = some (fe, zA4 E nf g) → wl660[qr]? = some (ro, zA4 E nr gq) → FS E wl660 fa ea nf → RS E wl660 rd ri eb nr → SN E wl660 15 gs (fallC sn (nI mm) (20 * r + k)) → zJ E wl660 s H locs → lv_has ls 12 [(10, .int (nI k)), (9, .ref ra), (8, .int (nI r)), (7, .int (nI 20)), (6, .ref sa), (5, .int (fmS sn (nI mm) (20 * r + k))), (4, .int (nI mm)), (3, .int (nI nf)), (0, .ref x), (1, .ref z), (2, .int xv)] → W p l e (headSpec wsL_act2 ({ frames := 7, cells := 20, slots := 120, locals := 105 } : Room)).room s m args below meth c H locs 0 0 QQ (F0 m 660 ls []) := by
            intro k9
            induction k9 with
            | zero =>
              intro k hik wl660 H locs ls hk L660_0 L660_1 L660_2 L660_3 L660_4 L660_5 L660_6 L660_7 L660_8 L660_9 L660_10 L660_11 L660_12 L660_13 L660_14 hF hR hSN J hl
              obtain rfl : 20 = k := by omega
              refine lv_iload hx hb dL_act_660 (lv_at hl 0 rfl) ?_
              refine lv_bipush (v := nI 20) hx hb dL_act_662 (by decide) ?_
              refine lv_icmp_ge (tgt := 709) hx hb dL_act_664 (by decide) (fun cz664 => ?_) (fun cz664 => by exact (cz664 (nI_le (Nat.le_refl _) (by omega))).elim)
              refine lv_iinc (v := nI (r + 1)) (lv' := [(8, .int (nI (r + 1))), (10, .int (nI 20)), (9, .ref ra), (7, .int (nI 20)), (6, .ref sa), (5, .int (fmS sn (nI mm) (20 * r + 20))), (4, .int (nI mm)), (3, .int (nI nf)), (0, .ref x), (1, .ref z), (2, .int xv)]) hx hb dL_act_709 hl (k := 2) rfl (nI_1 r) (by decide) rfl (fun ls hl => ?_)
              refine lv_goto (tgt := 643) hx hb dL_act_712 (by decide) ?_
              exact ih_643 (r + 1) (by omega) _ _ _ _ hk L660_0 L660_1 L660_2 L660_3 L660_4 L660_5 L660_6 L660_7 L660_8 L660_9 L660_10 L660_11 L660_12 L660_13 L660_14 hF hR hSN J (lv_sub hl [0, 3, 4, 5, 6, 7, 8, 9, 10] rfl)
            | succ k9 ih_660 =>
              intro k hik wl660 H locs ls hk L660_0 L660_1 L660_2 L660_3 L660_4 L660_5 L660_6 L660_7 L660_8 L660_9 L660_10 L660_11 L660_12 L660_13 L660_14 hF hR hSN J hl
              refine lv_iload hx hb dL_act_660 (lv_at hl 0 rfl) ?_
              refine lv_bipush (v := nI 20) hx hb dL_act_662 (by decide) ?_
              refine lv_icmp_ge (tgt := 709) hx hb dL_act_664 (by decide) (fun cz664 => by exact (nI_ge (by omega) (by omega) cz664).elim) (fun cz664 => ?_)
              obtain ⟨ra2, rf, hra2, hrc, hrf⟩ := hSN r (by omega)
              obtain rfl : ra = ra2 := Option.some.inj (hra.symm.trans hra2)
              refine lv_aload hx hb dL_act_667 (lv_at hl 1 rfl) ?_
              refine lv_iload hx hb dL_act_669 (lv_at hl 0 rfl) ?_
              refine z_iald X J (15 + r) hrc (vp_in_nI (by omega) (by first | decide | omega)) dL_act_671 ?_
              refine W.eq (g2 := F0 m 672 ls [.int (sn (20 * r + k))]) (congrArg (fun z9 : Int32 => F0 m 672 ls [.int z9]) (show (rf (nI k).toNatClampNeg : Int32) = sn (20 * r + k) from (by rw [nI_clamp (by omega), hrf k (by omega)]; exact fallC_at))) ?_
              refine lv_istore (lv' := [(11, .int (sn (20 * r + k))), (10, .int (nI k)), (9, .ref ra), (8, .int (nI r)), (7, .int (nI 20)), (6, .ref sa), (5, .int (fmS sn (nI mm) (20 * r + k))), (4, .int (nI mm)), (3, .int (nI nf)), (0, .ref x), (1, .ref z), (2, .int xv)]) hx hb dL_act_672 hl (by decide) rfl (fun ls hl => ?_)
              refine lv_aload hx hb dL_act_674 (lv_at hl 2 rfl) ?_
              refine lv_iload hx hb dL_act_676 (lv_at hl 1 rfl) ?_
              refine lv_sipush (v := 200) hx hb dL_act_678 (by decide) ?_
              refine lv_iload hx hb dL_act_681 (lv_at hl 0 rfl) ?_
              refine lv_iload hx hb dL_act_683 (lv_at hl 7 rfl) ?_
              refine lv_iadd hx hb dL_act_685 ?_
              refine va_mmin hx hb (X.1.2.2.1.trans hl.1.symm) hown (hts (.methodLink RL 74 Lib.Math.min.name) (by decide +kernel)) (hts (.static Lib.Math.min.name) (by decide +kernel)) (hts (.initialized "java/lang/Math") (by decide +kernel)) (hts (.code Lib.Math.min.name Lib.Math.min.code 2 (some .int)) (by decide +kernel)) (Nat.le_of_ble_eq_true rfl) (Nat.le_of_ble_eq_true rfl) (Nat.le_of_ble_eq_true rfl) (Nat.le_of_ble_eq_true rfl) dL_act_686 ?_
              refine W.eq (g2 := F0 m 689 ls [.int (mn 200 ((sn (20 * r + k)) + (nI mm))), .int (nI k), .ref ra]) rfl ?_
              refine W.eq (g2 := F0 m 689 ls [.int (mn (sn (20 * r + k) + nI mm) 200), .int (nI k), .ref ra]) (congrArg (fun z9 : Int32 => F0 m 689 ls [.int z9, .int (nI k), .ref ra]) (show (mn 200 ((sn (20 * r + k)) + (nI mm)) : Int32) = mn (sn (20 * r + k) + nI mm) 200 from (mn_cm _))) ?_
              refine z_iast X J (15 + r) hrc (vp_in_nI (by omega) (by first | decide | omega)) dL_act_689 (fun H locs J => ?_)
              rw [show upd rf (nI k).toNatClampNeg (mn (sn (20 * r + k) + nI mm) 200) = upd rf k (mn (sn (20 * r + k) + nI mm) 200) from (by rw [nI_clamp (by omega)])] at J
              have hF := hF.keepS (zK.set (S := [(15 + r)]) (ws := wl660) (q := (15 + r)) (e := (ra, zI4 E 20 (upd rf k (mn (sn (20 * r + k) + nI mm) 200)))) (List.mem_singleton.mpr rfl)) (fun q9 hq9 => Or.inr ⟨_, _, (List.mem_singleton.mp hq9).symm ▸ hrc, noL_I⟩)
              have hR := hR.keepS (zK.set (S := [(15 + r)]) (ws := wl660) (q := (15 + r)) (e := (ra, zI4 E 20 (upd rf k (mn (sn (20 * r + k) + nI mm) 200)))) (List.mem_singleton.mpr rfl)) (fun q9 hq9 => Or.inr ⟨_, _, (List.mem_singleton.mp hq9).symm ▸ hrc, noL_I⟩)
              have hSN := hSN.set (r := r) (c := k) (v := mn (sn (20 * r + k) + nI mm) 200) (by omega) (by omega) hra hrf
              have hk := hk.step (zK.set (S := [(15 + r)]) (ws := wl660) (q := (15 + r)) (e := (ra, zI4 E 20 (upd rf k (mn (sn (20 * r + k) + nI mm) 200)))) (List.mem_singleton.mpr rfl)) (fun q9 a9 n9 f9 h8 h7 h9 => by simp only [List.mem_cons, rg_mem, List.not_mem_nil, or_false, not_or]; omega)
              have G1_0 := zset_ne (q := (15 + r)) (e' := (ra, zI4 E 20 (upd rf k (mn (sn (20 * r + k) + nI mm) 200)))) (by omega) L660_0
              have G1_1 := zset_ne (q := (15 + r)) (e' := (ra, zI4 E 20 (upd rf k (mn (sn (20 * r + k) + nI mm) 200)))) (by omega) L660_1
              have G1_2 := zset_ne (q := (15 + r)) (e' := (ra, zI4 E 20 (upd rf k (mn (sn (20 * r + k) + nI mm) 200)))) (by omega) L660_2
              have G1_3 := zset_ne (q := (15 + r)) (e' := (ra, zI4 E 20 (upd rf k (mn (sn (20 * r + k) + nI mm) 200)))) (by omega) L660_3
              have G1_4 := zset_ne (q := (15 + r)) (e' := (ra, zI4 E 20 (upd rf k (mn (sn (20 * r + k) + nI mm) 200)))) (by omega) L660_4
              have G1_5 := zset_ne (q := (15 + r)) (e' := (ra, zI4 E 20 (upd rf k (mn (sn (20 * r + k) + nI mm) 200)))) (by omega) L660_5
              have G1_6 := zset_ne (q := (15 + r)) (e' := (ra, zI4 E 20 (upd rf k (mn (sn (20 * r + k) + nI mm) 200)))) (by omega) L660_6
              have G1_7 := zset_ne (q := (15 + r)) (e' := (ra, zI4 E 20 (upd rf k (mn (sn (20 * r + k) + nI mm) 200)))) (by omega) L660_7
              have G1_8 := zset_ne (q := (15 + r)) (e' := (ra, zI4 E 20 (upd rf k (mn (sn (20 * r + k) + nI mm) 200)))) (by omega) L660_8
              have G1_9 := zset_ne (q := (15 + r)) (e' := (ra, zI4 E 20 (upd rf k (mn (sn (20 * r + k) + nI mm) 200)))) (by omega) L660_9
              have G1_10 := zset_ne (q := (15 + r)) (e' := (ra, zI4 E 20 (upd rf k (mn (sn (20 * r + k) + nI mm) 200)))) (by omega) L660_10
              have G1_11 := zset_ne (q := (15 + r)) (e' := (ra, zI4 E 20 (upd rf k (mn (sn (20 * r + k) + nI mm) 200)))) (by omega) L660_11
              have G1_12 := zset_ne (q := (15 + r)) (e' := (ra, zI4 E 20 (upd rf k (mn (sn (20 * r + k) + nI mm) 200)))) (by omega) L660_12
              have G1_13 := zset_ne (q := (15 + r)) (e' := (ra, zI4 E 20 (upd rf k (mn (sn (20 * r + k) + nI mm) 200)))) (by omega) L660_13
              have G1_14 := zset_ne (q := (15 + r)) (e' := (ra, zI4 E 20 (upd rf k (mn (sn (20 * r + k) + nI mm) 200)))) (by omega) L660_14
              have G1_15 := zset_eq (e' := (ra, zI4 E 20 (upd rf k (mn (sn (20 * r + k) + nI mm) 200)))) hrc
              generalize hws1 : (wl660.set (15 + r) (ra, zI4 E 20 (upd rf k (mn (sn (20 * r + k) + nI mm) 200)))) = ws_1 at J hk G1_0 G1_1 G1_2 G1_3 G1_4 G1_5 G1_6 G1_7 G1_8 G1_9 G1_10 G1_11 G1_12 G1_13 G1_14 G1_15 hF hR hSN
              refine lv_iload hx hb dL_act_690 (lv_at hl 6 rfl) ?_
              refine lv_aload hx hb dL_act_692 (lv_at hl 2 rfl) ?_
              refine lv_iload hx hb dL_act_694 (lv_at hl 1 rfl) ?_
              refine z_iald X J (15 + r) G1_15 (vp_in_nI (by omega) (by first | decide | omega)) dL_act_696 ?_
              refine W.eq (g2 := F0 m 697 ls [.int (mn (sn (20 * r + k) + nI mm) 200), .int (fmS sn (nI mm) (20 * r + k))]) (congrArg (fun z9 : Int32 => F0 m 697 ls [.int z9, .int (fmS sn (nI mm) (20 * r + k))]) (show ((upd rf k (mn (sn (20 * r + k) + nI mm) 200)) (nI k).toNatClampNeg : Int32) = mn (sn (20 * r + k) + nI mm) 200 from (by rw [nI_clamp (by omega)]; exact if_pos rfl))) ?_
              refine lv_iload hx hb dL_act_697 (lv_at hl 0 rfl) ?_
              refine lv_isub hx hb dL_act_699 ?_
              refine lv_iadd hx hb dL_act_700 ?_
              refine lv_istore (lv' := [(5, .int ((fmS sn (nI mm) (20 * r + k)) + ((mn (sn (20 * r + k) + nI mm) 200) - (sn (20 * r + k))))), (11, .int (sn (20 * r + k))), (10, .int (nI k)), (9, .ref ra), (8, .int (nI r)), (7, .int (nI 20)), (6, .ref sa), (4, .int (nI mm)), (3, .int (nI nf)), (0, .ref x), (1, .ref z), (2, .int xv)]) hx hb dL_act_701 hl (by decide) rfl (fun ls hl => ?_)
              refine lv_iinc (v := nI (k + 1)) (lv' := [(10, .int (nI (k + 1))), (5, .int ((fmS sn (nI mm) (20 * r + k)) + ((mn (sn (20 * r + k) + nI mm) 200) - (sn (20 * r + k))))), (11, .int (sn (20 * r + k))), (9, .ref ra), (8, .int (nI r)), (7, .int (nI 20)), (6, .ref sa), (4, .int (nI mm)), (3, .int (nI nf)), (0, .ref x), (1, .ref z), (2, .int xv)]) hx hb dL_act_703 hl (k := 2) rfl (nI_1 k) (by decide) rfl (fun ls hl => ?_)
              refine lv_goto (tgt := 660) hx hb dL_act_706 (by decide) ?_
              exact ih_660 (k + 1) (by omega) _ _ _ _ hk G1_0 G1_1 G1_2 G1_3 G1_4 G1_5 G1_6 G1_7 G1_8 G1_9 G1_10 G1_11 G1_12 G1_13 G1_14 hF hR (hSN.congr (fun j9 hj9 => congrFun fallU j9)) J (lv_sub hl [0, 3, 4, 5, 6, 1, 7, 8, 9, 10, 11] rfl)
          exact loop_660 20 0 (by omega) _ _ _ _ hk L643_0 L643_1 L643_2 L643_3 L643_4 L643_5 L643_6 L643_7 L643_8 L643_9 L643_10 L643_11 L643_12 L643_13 L643_14 hF hR hSN J (lv_sub hl [0, 1, 2, 3, 4, 5, 6, 7, 8, 9, 10] rfl)
      exact loop_643 20 0 (by omega) _ _ _ _ hk Fa0 Fa1 Fa2 Fa3 Fa4 Fa5 Fa6 Fa7 Fa8 Fa9 Fa10 Fa11 Fa12 Fa13 Fa14 hF hR (hSN.congr (fun j9 hj9 => by rw [Nat.mul_zero, fallC_0])) J (lv_sub hl [0, 1, 2, 3, 4, 5, 6, 7, 8] rfl)
    refine lv_tableIn (off := 602) (tgt := 614) hx hb dL_act_12 (by decide) (by decide) (by decide) (by decide) ?_
    exact join_614 _ (lv_sub hl [0, 1, 2, 3] rfl)
  · refine W.eq (g2 := F0 m 12 ls [.int 9]) (congrArg (fun z9 : Int32 => F0 m 12 ls [.int z9]) (show (nI 9 : Int32) = 9 from rfl)) ?_
    have join_614 : ∀ (ls : Array Slot), lv_has ls 12 [(3, .int (nI nf)), (0, .ref x), (1, .ref z), (2, .int xv)] → W p l e (headSpec wsL_act2 ({ frames := 7, cells := 20, slots := 120, locals := 105 } : Room)).room s m args below meth c s.heap [] 0 0 QQ (F0 m 614 ls []) := by
      intro ls hl
      refine lv_iconst (v := nI 1) hx hb dL_act_614 rfl ?_
      refine lv_iload_n hx hb dL_act_615 rfl (lv_at hl 3 rfl) ?_
      refine lv_iconst (v := 4) hx hb dL_act_616 (by decide) ?_
      refine lv_ishr hx hb dL_act_617 ?_
      refine lv_bipush (v := nI 30) hx hb dL_act_618 (by decide) ?_
      refine z_cr (z_rS (As := [.int (xv >>> (4 &&& 31)), .int (nI 30)]) (rest := [.int (nI 1)]) X J (cL_below_ok l E (by first | assumption | omega | decide) (by first | assumption | omega | decide)) (va_cwS 2 hts (goodIn_ext2 gL_act_L_below) rfl rfl rfl (by decide +kernel) ⟨Nat.le_of_ble_eq_true rfl, Nat.le_of_ble_eq_true rfl⟩) rfl hl.1 rfl (Nat.le_of_ble_eq_true rfl) dL_act_620 ⟨Nat.le_of_ble_eq_true rfl, Nat.le_of_ble_eq_true rfl⟩) (fun r620 e_r620 => ?_)
      subst e_r620
      obtain ⟨mm, hmm⟩ : ∃ q9 : Nat, q9 = 1 + bln (xv >>> (4 &&& 31)) 30 := ⟨_, rfl⟩
      have bmm := bln_lt (v := xv >>> (4 &&& 31)) (n := 30) (by decide)
      refine lv_iadd hx hb dL_act_623 ?_
      refine W.eq (g2 := F0 m 624 ls [.int (nI mm)]) (congrArg (fun z9 : Int32 => F0 m 624 ls [.int z9]) (show ((nI 1) + (nI (bln (xv >>> (4 &&& 31)) 30)) : Int32) = nI mm from (by rw [nI_add, hmm]))) ?_
      refine lv_istore (lv' := [(4, .int (nI mm)), (3, .int (nI nf)), (0, .ref x), (1, .ref z), (2, .int xv)]) hx hb dL_act_624 hl (by decide) rfl (fun ls hl => ?_)
      refine lv_iconst (v := fmS sn (nI mm) (20 * 0)) hx hb dL_act_626 rfl ?_
      refine lv_istore (lv' := [(5, .int (fmS sn (nI mm) (20 * 0))), (4, .int (nI mm)), (3, .int (nI nf)), (0, .ref x), (1, .ref z), (2, .int xv)]) hx hb dL_act_627 hl (by decide) rfl (fun ls hl => ?_)
      refine lv_aload_n hx hb dL_act_629 rfl (lv_at hl 4 rfl) ?_
      refine z_get (C := RX7) (T := TX7) (N := 8) (ci := 8) (v := .ref sa) X J hi_X7 11 Fa11 rfl 2 (by decide) (by decide +kernel) rfl dL_act_630 ?_
      refine lv_astore (lv' := [(6, .ref sa), (5, .int (fmS sn (nI mm) (20 * 0))), (4, .int (nI mm)), (3, .int (nI nf)), (0, .ref x), (1, .ref z), (2, .int xv)]) hx hb dL_act_633 hl (by decide) rfl (fun ls hl => ?_)
      refine lv_aload hx hb dL_act_635 (lv_at hl 0 rfl) ?_
      refine z_alenA (v := nI 20) X J 14 Fa12 rfl dL_act_637 ?_
      refine lv_istore (lv' := [(7, .int (nI 20)), (6, .ref sa), (5, .int (fmS sn (nI mm) (20 * 0))), (4, .int (nI mm)), (3, .int (nI nf)), (0, .ref x), (1, .ref z), (2, .int xv)]) hx hb dL_act_638 hl (by decide) rfl (fun ls hl => ?_)
      refine lv_iconst (v := nI 0) hx hb dL_act_640 rfl ?_
      refine lv_istore (lv' := [(8, .int (nI 0)), (7, .int (nI 20)), (6, .ref sa), (5, .int (fmS sn (nI mm) (20 * 0))), (4, .int (nI mm)), (3, .int (nI nf)), (0, .ref x), (1, .ref z), (2, .int xv)]) hx hb dL_act_641 hl (by decide) rfl (fun ls hl => ?_)
      have loop_643 : ∀ (k9 r : Nat), r + k9 = 20 → ∀ (wl643 : va_W) (H : Heap) (locs : List Loc) (ls : Array Slot), zKi E ws wl643 → wl643[0]? = some (x, .inr (7, [.ref fl, .ref rl, .ref wh, .ref gr, .ref tr, .ref sc, .int lim, .int sup, .int off, .int plo, .int hrs])) → wl643[1]? = some (fl, .inr (0, [.int mc1, .ref ea, .int (nI nf)])) → wl643[2]? = some (rl, .inr (0, [.int mc2, .ref eb, .int (nI nr)])) → wl643[3]? = some (wh, .inr (5, [.int (0 * 20 + 0), .int (nI 400), .int 0])) → wl643[4]? = some (gr, .inr (2, [.ref gra])) → wl643[5]? = some (gra, zI4 E 400 sn) → wl643[6]? = some (tr, .inr (2, [.ref tra])) → wl643[7]? = some (tra, zI4 E 400 t9) → wl643[8]? = some (sc, .inr (4, [.ref ha, .ref va])) → wl643[9]? = some (ha, zI4 E 400 hf) → wl643[10]? = some (va, zI4 E 400 gf) → wl643[11]? = some (z, .inr (8, [.ref fe, .ref ro, .ref sa, .int lim, .int sup, .int off, .int plo, .int hrs])) → wl643[14]? = some (sa, zA4 E 20 gs) → wl643[qf]? = some (fe, zA4 E nf g) → wl643[qr]? = some (ro, zA4 E nr gq) → FS E wl643 fa ea nf → RS E wl643 rd ri eb nr → SN E wl643 15 gs (fallC sn (nI mm) (20 * r)) → zJ E wl643 s H locs → lv_has ls 12 [(8, .int (nI r)), (7, .int (nI 20)), (6, .ref sa), (5, .int (fmS sn (nI mm) (20 * r))), (4, .int (nI mm)), (3, .int (nI nf)), (0, .ref x), (1, .ref z), (2, .int xv)] → W p l e (headSpec wsL_act2 ({ frames := 7, cells := 20, slots := 120, locals := 105 } : Room)).room s m args below meth c H locs 0 0 QQ (F0 m 643 ls []) := by
        intro k9
        induction k9 with
        | zero =>
          intro r hik wl643 H locs ls hk L643_0 L643_1 L643_2 L643_3 L643_4 L643_5 L643_6 L643_7 L643_8 L643_9 L643_10 L643_11 L643_12 L643_13 L643_14 hF hR hSN J hl
          obtain rfl : 20 = r := by omega
          refine lv_iload hx hb dL_act_643 (lv_at hl 0 rfl) ?_
          refine lv_iload hx hb dL_act_645 (lv_at hl 1 rfl) ?_
          refine lv_icmp_ge (tgt := 715) hx hb dL_act_647 (by decide) (fun cz647 => ?_) (fun cz647 => by exact (cz647 (nI_le (Nat.le_refl _) (by omega))).elim)
          refine lv_aload_n hx hb dL_act_715 rfl (lv_at hl 6 rfl) ?_
          refine lv_iload hx hb dL_act_716 (lv_at hl 4 rfl) ?_
          refine z_xi J (z_yV (As := [.int (nI mm)]) (rest := []) (ci := 7) (q0 := 0) X hRz J (cX6_fall_ok l hflags E L643_0 L643_3 L643_4 L643_5) (cwV 1 hts (goodIn_ext2 gL_act_X6_fall) rfl rfl rfl (by decide +kernel) ⟨Nat.le_of_ble_eq_true rfl, Nat.le_of_ble_eq_true rfl⟩) L643_0 rfl rfl rfl hl.1 rfl (Nat.le_of_ble_eq_true rfl) dL_act_718 ⟨by show _ ≤ 20; omega, by show _ ≤ 120; omega⟩) (fun nm ce q9 H locs hp9 J h1 h2 h3 => ?_) (fun r718 ws_1 H locs hp9 J => ?_)
          · exact False.elim (by exact absurd hp9.1 (by rw [show kFall (nI mm) = 0 from kFall_ok (by omega) (by omega)]; decide))
          obtain ⟨k1, G1_a0, e_r718⟩ := hp9
          have hF := hF.keepS k1 (fun q9 hq9 => Or.inl (by simp only [List.mem_cons, rg_mem, List.not_mem_nil, or_false, not_or] at hq9; omega))
          have hR := hR.keepS k1 (fun q9 hq9 => Or.inl (by simp only [List.mem_cons, rg_mem, List.not_mem_nil, or_false, not_or] at hq9; omega))
          have hSN := hSN.keep k1 (fun r9 hr9 => by simp only [List.mem_cons, rg_mem, List.not_mem_nil, or_false, not_or]; omega)
          have hk := hk.step k1 (fun q9 a9 n9 f9 h8 h7 h9 => by simp only [List.mem_cons, rg_mem, List.not_mem_nil, or_false, not_or]; omega)
          have G1_0 := k1.2 0 _ (by decide) L643_0
          have G1_1 := k1.2 1 _ (by decide) L643_1
          have G1_2 := k1.2 2 _ (by decide) L643_2
          have G1_3 := k1.2 3 _ (by decide) L643_3
          have G1_4 := k1.2 4 _ (by decide) L643_4
          have G1_6 := k1.2 6 _ (by decide) L643_6
          have G1_7 := k1.2 7 _ (by decide) L643_7
          have G1_8 := k1.2 8 _ (by decide) L643_8
          have G1_9 := k1.2 9 _ (by decide) L643_9
          have G1_10 := k1.2 10 _ (by decide) L643_10
          have G1_11 := k1.2 11 _ (by decide) L643_11
          have G1_12 := k1.2 14 _ (by decide) L643_12
          have G1_13 := k1.2 qf _ (by simp only [List.mem_cons, List.not_mem_nil, or_false]; omega) L643_13
          have G1_14 := k1.2 qr _ (by simp only [List.mem_cons, List.not_mem_nil, or_false]; omega) L643_14
          refine W.eq (g2 := F0 m 721 ls [.int (fmS sn (nI mm) (20 * 20))]) (congrArg (fun z9 : Int32 => F0 m 721 ls [.int z9]) (show (r718 : Int32) = fmS sn (nI mm) (20 * 20) from (by rw [e_r718.2, fm_eq]))) ?_
          refine lv_iload hx hb dL_act_721 (lv_at hl 3 rfl) ?_
          refine lv_icmp_ne (tgt := 730) hx hb dL_act_723 (by decide) (fun cz723 => by exact (cz723 rfl).elim) (fun cz723 => ?_)
          refine lv_iconst (v := 1) hx hb dL_act_726 (by decide) ?_
          refine lv_goto (tgt := 731) hx hb dL_act_727 (by decide) ?_
          refine W.widen (k := 20) (n := 120) (by omega) (by omega) ?_
          subst hQ
          exact W.zret (v := 1) hx hb hr rfl (fun t ht hW => ⟨⟨1, ws_1, rfl, ⟨hk, ⟨mc1, mc2, lim, sup, off, plo, hrs, ea, eb, nf, nr, fe, qf, ro, qr, fa, rd, ri, (fallC sn (nI mm) 400), t9, hf, gf, g, gq, G1_0, G1_1, G1_2, G1_3, G1_4, G1_a0, G1_6, G1_7, G1_8, G1_9, G1_10, G1_11, G1_12, G1_13, G1_14, ⟨by omega, by omega⟩, hF, hR, hSep, (hSE.keepI hk), (hSR.keepI hk), hSN, hnf, hnr, hok, hor, (fall_RB hRB (nI_BI2 (by omega) (by omega) (by omega))), hu9, hlm, (Nat.le_trans hln hk.1)⟩, rfl⟩, J.I X ht hW.alike⟩, J.F ht⟩) J.locs dL_act_731
        | succ k9 ih_643 =>
          intro r hik wl643 H locs ls hk L643_0 L643_1 L643_2 L643_3 L643_4 L643_5 L643_6 L643_7 L643_8 L643_9 L643_10 L643_11 L643_12 L643_13 L643_14 hF hR hSN J hl
          refine lv_iload hx hb dL_act_643 (lv_at hl 0 rfl) ?_
          refine lv_iload hx hb dL_act_645 (lv_at hl 1 rfl) ?_
          refine lv_icmp_ge (tgt := 715) hx hb dL_act_647 (by decide) (fun cz647 => by exact (nI_ge (by omega) (by omega) cz647).elim) (fun cz647 => ?_)
          obtain ⟨ra, rf0, hra, hrc0, hrf0⟩ := hSN r (by omega)
          refine lv_aload hx hb dL_act_650 (lv_at hl 2 rfl) ?_
          refine lv_iload hx hb dL_act_652 (lv_at hl 0 rfl) ?_
          refine z_aaldA X J 14 L643_12 (vp_in_nI (by omega) (by first | decide | omega)) dL_act_654 ?_
          refine W.eq (g2 := F0 m 655 ls [va_rf (gs r)]) (congrArg (fun z9 : Option Nat => F0 m 655 ls [va_rf z9]) (show (gs (nI r).toNatClampNeg : Option Nat) = gs r from (congrArg _ (nI_clamp (by omega))))) ?_
          refine W.eq (g2 := F0 m 655 ls [.ref ra]) (by rw [show gs r = some ra from hra]; rfl) ?_
          refine lv_astore (lv' := [(9, .ref ra), (8, .int (nI r)), (7, .int (nI 20)), (6, .ref sa), (5, .int (fmS sn (nI mm) (20 * r))), (4, .int (nI mm)), (3, .int (nI nf)), (0, .ref x), (1, .ref z), (2, .int xv)]) hx hb dL_act_655 hl (by decide) rfl (fun ls hl => ?_)
          refine lv_iconst (v := nI 0) hx hb dL_act_657 rfl ?_
          refine lv_istore (lv' := [(10, .int (nI 0)), (9, .ref ra), (8, .int (nI r)), (7, .int (nI 20)), (6, .ref sa), (5, .int (fmS sn (nI mm) (20 * r))), (4, .int (nI mm)), (3, .int (nI nf)), (0, .ref x), (1, .ref z), (2, .int xv)]) hx hb dL_act_658 hl (by decide) rfl (fun ls hl => ?_)
          have loop_660 : ∀ (k9 k : Nat), k + k9 = 20 → ∀ (wl660 : va_W) (H : Heap) (locs : List Loc) (ls : Array Slot), zKi E ws wl660 → wl660[0]? = some (x, .inr (7, [.ref fl, .ref rl, .ref wh, .ref gr, .ref tr, .ref sc, .int lim, .int sup, .int off, .int plo, .int hrs])) → wl660[1]? = some (fl, .inr (0, [.int mc1, .ref ea, .int (nI nf)])) → wl660[2]? = some (rl, .inr (0, [.int mc2, .ref eb, .int (nI nr)])) → wl660[3]? = some (wh, .inr (5, [.int (0 * 20 + 0), .int (nI 400), .int 0])) → wl660[4]? = some (gr, .inr (2, [.ref gra])) → wl660[5]? = some (gra, zI4 E 400 sn) → wl660[6]? = some (tr, .inr (2, [.ref tra])) → wl660[7]? = some (tra, zI4 E 400 t9) → wl660[8]? = some (sc, .inr (4, [.ref ha, .ref va])) → wl660[9]? = some (ha, zI4 E 400 hf) → wl660[10]? = some (va, zI4 E 400 gf) → wl660[11]? = some (z, .inr (8, [.ref fe, .ref ro, .ref sa, .int lim, .int sup, .int off, .int plo, .int hrs])) → wl660[14]? = some (sa, zA4 E 20 gs) → wl660[qf]? = some (fe, zA4 E nf g) → wl660[qr]? = some (ro, zA4 E nr gq) → FS E wl660 fa ea nf → RS E wl660 rd ri eb nr → SN E wl660 15 gs (fallC sn (nI mm) (20 * r + k)) → zJ E wl660 s H locs → lv_has ls 12 [(10, .int (nI k)), (9, .ref ra), (8, .int (nI r)), (7, .int (nI 20)), (6, .ref sa), (5, .int (fmS sn (nI mm) (20 * r + k))), (4, .int (nI mm)), (3, .int (nI nf)), (0, .ref x), (1, .ref z), (2, .int xv)] → W p l e (headSpec wsL_act2 ({ frames := 7, cells := 20, slots := 120, locals := 105 } : Room)).room s m args below meth c H locs 0 0 QQ (F0 m 660 ls []) := by
            intro k9
            induction k9 with
            | zero =>
              intro k hik wl660 H locs ls hk L660_0 L660_1 L660_2 L660_3 L660_4 L660_5 L660_6 L660_7 L660_8 L660_9 L660_10 L660_11 L660_12 L660_13 L660_14 hF hR hSN J hl
              obtain rfl : 20 = k := by omega
              refine lv_iload hx hb dL_act_660 (lv_at hl 0 rfl) ?_
              refine lv_bipush (v := nI 20) hx hb dL_act_662 (by decide) ?_
              refine lv_icmp_ge (tgt := 709) hx hb dL_act_664 (by decide) (fun cz664 => ?_) (fun cz664 => by exact (cz664 (nI_le (Nat.le_refl _) (by omega))).elim)
              refine lv_iinc (v := nI (r + 1)) (lv' := [(8, .int (nI (r + 1))), (10, .int (nI 20)), (9, .ref ra), (7, .int (nI 20)), (6, .ref sa), (5, .int (fmS sn (nI mm) (20 * r + 20))), (4, .int (nI mm)), (3, .int (nI nf)), (0, .ref x), (1, .ref z), (2, .int xv)]) hx hb dL_act_709 hl (k := 2) rfl (nI_1 r) (by decide) rfl (fun ls hl => ?_)
              refine lv_goto (tgt := 643) hx hb dL_act_712 (by decide) ?_
              exact ih_643 (r + 1) (by omega) _ _ _ _ hk L660_0 L660_1 L660_2 L660_3 L660_4 L660_5 L660_6 L660_7 L660_8 L660_9 L660_10 L660_11 L660_12 L660_13 L660_14 hF hR hSN J (lv_sub hl [0, 3, 4, 5, 6, 7, 8, 9, 10] rfl)
            | succ k9 ih_660 =>
              intro k hik wl660 H locs ls hk L660_0 L660_1 L660_2 L660_3 L660_4 L660_5 L660_6 L660_7 L660_8 L660_9 L660_10 L660_11 L660_12 L660_13 L660_14 hF hR hSN J hl
              refine lv_iload hx hb dL_act_660 (lv_at hl 0 rfl) ?_
              refine lv_bipush (v := nI 20) hx hb dL_act_662 (by decide) ?_
              refine lv_icmp_ge (tgt := 709) hx hb dL_act_664 (by decide) (fun cz664 => by exact (nI_ge (by omega) (by omega) cz664).elim) (fun cz664 => ?_)
              obtain ⟨ra2, rf, hra2, hrc, hrf⟩ := hSN r (by omega)
              obtain rfl : ra = ra2 := Option.some.inj (hra.symm.trans hra2)
              refine lv_aload hx hb dL_act_667 (lv_at hl 1 rfl) ?_
              refine lv_iload hx hb dL_act_669 (lv_at hl 0 rfl) ?_
              refine z_iald X J (15 + r) hrc (vp_in_nI (by omega) (by first | decide | omega)) dL_act_671 ?_
              refine W.eq (g2 := F0 m 672 ls [.int (sn (20 * r + k))]) (congrArg (fun z9 : Int32 => F0 m 672 ls [.int z9]) (show (rf (nI k).toNatClampNeg : Int32) = sn (20 * r + k) from (by rw [nI_clamp (by omega), hrf k (by omega)]; exact fallC_at))) ?_
              refine lv_istore (lv' := [(11, .int (sn (20 * r + k))), (10, .int (nI k)), (9, .ref ra), (8, .int (nI r)), (7, .int (nI 20)), (6, .ref sa), (5, .int (fmS sn (nI mm) (20 * r + k))), (4, .int (nI mm)), (3, .int (nI nf)), (0, .ref x), (1, .ref z), (2, .int xv)]) hx hb dL_act_672 hl (by decide) rfl (fun ls hl => ?_)
              refine lv_aload hx hb dL_act_674 (lv_at hl 2 rfl) ?_
              refine lv_iload hx hb dL_act_676 (lv_at hl 1 rfl) ?_
              refine lv_sipush (v := 200) hx hb dL_act_678 (by decide) ?_
              refine lv_iload hx hb dL_act_681 (lv_at hl 0 rfl) ?_
              refine lv_iload hx hb dL_act_683 (lv_at hl 7 rfl) ?_
              refine lv_iadd hx hb dL_act_685 ?_
              refine va_mmin hx hb (X.1.2.2.1.trans hl.1.symm) hown (hts (.methodLink RL 74 Lib.Math.min.name) (by decide +kernel)) (hts (.static Lib.Math.min.name) (by decide +kernel)) (hts (.initialized "java/lang/Math") (by decide +kernel)) (hts (.code Lib.Math.min.name Lib.Math.min.code 2 (some .int)) (by decide +kernel)) (Nat.le_of_ble_eq_true rfl) (Nat.le_of_ble_eq_true rfl) (Nat.le_of_ble_eq_true rfl) (Nat.le_of_ble_eq_true rfl) dL_act_686 ?_
              refine W.eq (g2 := F0 m 689 ls [.int (mn 200 ((sn (20 * r + k)) + (nI mm))), .int (nI k), .ref ra]) rfl ?_
              refine W.eq (g2 := F0 m 689 ls [.int (mn (sn (20 * r + k) + nI mm) 200), .int (nI k), .ref ra]) (congrArg (fun z9 : Int32 => F0 m 689 ls [.int z9, .int (nI k), .ref ra]) (show (mn 200 ((sn (20 * r + k)) + (nI mm)) : Int32) = mn (sn (20 * r + k) + nI mm) 200 from (mn_cm _))) ?_
              refine z_iast X J (15 + r) hrc (vp_in_nI (by omega) (by first | decide | omega)) dL_act_689 (fun H locs J => ?_)
              rw [show upd rf (nI k).toNatClampNeg (mn (sn (20 * r + k) + nI mm) 200) = upd rf k (mn (sn (20 * r + k) + nI mm) 200) from (by rw [nI_clamp (by omega)])] at J
              have hF := hF.keepS (zK.set (S := [(15 + r)]) (ws := wl660) (q := (15 + r)) (e := (ra, zI4 E 20 (upd rf k (mn (sn (20 * r + k) + nI mm) 200)))) (List.mem_singleton.mpr rfl)) (fun q9 hq9 => Or.inr ⟨_, _, (List.mem_singleton.mp hq9).symm ▸ hrc, noL_I⟩)
              have hR := hR.keepS (zK.set (S := [(15 + r)]) (ws := wl660) (q := (15 + r)) (e := (ra, zI4 E 20 (upd rf k (mn (sn (20 * r + k) + nI mm) 200)))) (List.mem_singleton.mpr rfl)) (fun q9 hq9 => Or.inr ⟨_, _, (List.mem_singleton.mp hq9).symm ▸ hrc, noL_I⟩)
              have hSN := hSN.set (r := r) (c := k) (v := mn (sn (20 * r + k) + nI mm) 200) (by omega) (by omega) hra hrf
              have hk := hk.step (zK.set (S := [(15 + r)]) (ws := wl660) (q := (15 + r)) (e := (ra, zI4 E 20 (upd rf k (mn (sn (20 * r + k) + nI mm) 200)))) (List.mem_singleton.mpr rfl)) (fun q9 a9 n9 f9 h8 h7 h9 => by simp only [List.mem_cons, rg_mem, List.not_mem_nil, or_false, not_or]; omega)
              have G1_0 := zset_ne (q := (15 + r)) (e' := (ra, zI4 E 20 (upd rf k (mn (sn (20 * r + k) + nI mm) 200)))) (by omega) L660_0
              have G1_1 := zset_ne (q := (15 + r)) (e' := (ra, zI4 E 20 (upd rf k (mn (sn (20 * r + k) + nI mm) 200)))) (by omega) L660_1
              have G1_2 := zset_ne (q := (15 + r)) (e' := (ra, zI4 E 20 (upd rf k (mn (sn (20 * r + k) + nI mm) 200)))) (by omega) L660_2
              have G1_3 := zset_ne (q := (15 + r)) (e' := (ra, zI4 E 20 (upd rf k (mn (sn (20 * r + k) + nI mm) 200)))) (by omega) L660_3
              have G1_4 := zset_ne (q := (15 + r)) (e' := (ra, zI4 E 20 (upd rf k (mn (sn (20 * r + k) + nI mm) 200)))) (by omega) L660_4
              have G1_5 := zset_ne (q := (15 + r)) (e' := (ra, zI4 E 20 (upd rf k (mn (sn (20 * r + k) + nI mm) 200)))) (by omega) L660_5
              have G1_6 := zset_ne (q := (15 + r)) (e' := (ra, zI4 E 20 (upd rf k (mn (sn (20 * r + k) + nI mm) 200)))) (by omega) L660_6
              have G1_7 := zset_ne (q := (15 + r)) (e' := (ra, zI4 E 20 (upd rf k (mn (sn (20 * r + k) + nI mm) 200)))) (by omega) L660_7
              have G1_8 := zset_ne (q := (15 + r)) (e' := (ra, zI4 E 20 (upd rf k (mn (sn (20 * r + k) + nI mm) 200)))) (by omega) L660_8
              have G1_9 := zset_ne (q := (15 + r)) (e' := (ra, zI4 E 20 (upd rf k (mn (sn (20 * r + k) + nI mm) 200)))) (by omega) L660_9
              have G1_10 := zset_ne (q := (15 + r)) (e' := (ra, zI4 E 20 (upd rf k (mn (sn (20 * r + k) + nI mm) 200)))) (by omega) L660_10
              have G1_11 := zset_ne (q := (15 + r)) (e' := (ra, zI4 E 20 (upd rf k (mn (sn (20 * r + k) + nI mm) 200)))) (by omega) L660_11
              have G1_12 := zset_ne (q := (15 + r)) (e' := (ra, zI4 E 20 (upd rf k (mn (sn (20 * r + k) + nI mm) 200)))) (by omega) L660_12
              have G1_13 := zset_ne (q := (15 + r)) (e' := (ra, zI4 E 20 (upd rf k (mn (sn (20 * r + k) + nI mm) 200)))) (by omega) L660_13
              have G1_14 := zset_ne (q := (15 + r)) (e' := (ra, zI4 E 20 (upd rf k (mn (sn (20 * r + k) + nI mm) 200)))) (by omega) L660_14
              have G1_15 := zset_eq (e' := (ra, zI4 E 20 (upd rf k (mn (sn (20 * r + k) + nI mm) 200)))) hrc
              generalize hws1 : (wl660.set (15 + r) (ra, zI4 E 20 (upd rf k (mn (sn (20 * r + k) + nI mm) 200)))) = ws_1 at J hk G1_0 G1_1 G1_2 G1_3 G1_4 G1_5 G1_6 G1_7 G1_8 G1_9 G1_10 G1_11 G1_12 G1_13 G1_14 G1_15 hF hR hSN
              refine lv_iload hx hb dL_act_690 (lv_at hl 6 rfl) ?_
              refine lv_aload hx hb dL_act_692 (lv_at hl 2 rfl) ?_
              refine lv_iload hx hb dL_act_694 (lv_at hl 1 rfl) ?_
              refine z_iald X J (15 + r) G1_15 (vp_in_nI (by omega) (by first | decide | omega)) dL_act_696 ?_
              refine W.eq (g2 := F0 m 697 ls [.int (mn (sn (20 * r + k) + nI mm) 200), .int (fmS sn (nI mm) (20 * r + k))]) (congrArg (fun z9 : Int32 => F0 m 697 ls [.int z9, .int (fmS sn (nI mm) (20 * r + k))]) (show ((upd rf k (mn (sn (20 * r + k) + nI mm) 200)) (nI k).toNatClampNeg : Int32) = mn (sn (20 * r + k) + nI mm) 200 from (by rw [nI_clamp (by omega)]; exact if_pos rfl))) ?_
              refine lv_iload hx hb dL_act_697 (lv_at hl 0 rfl) ?_
              refine lv_isub hx hb dL_act_699 ?_
              refine lv_iadd hx hb dL_act_700 ?_
              refine lv_istore (lv' := [(5, .int ((fmS sn (nI mm) (20 * r + k)) + ((mn (sn (20 * r + k) + nI mm) 200) - (sn (20 * r + k))))), (11, .int (sn (20 * r + k))), (10, .int (nI k)), (9, .ref ra), (8, .int (nI r)), (7, .int (nI 20)), (6, .ref sa), (4, .int (nI mm)), (3, .int (nI nf)), (0, .ref x), (1, .ref z), (2, .int xv)]) hx hb dL_act_701 hl (by decide) rfl (fun ls hl => ?_)
              refine lv_iinc (v := nI (k + 1)) (lv' := [(10, .int (nI (k + 1))), (5, .int ((fmS sn (nI mm) (20 * r + k)) + ((mn (sn (20 * r + k) + nI mm) 200) - (sn (20 * r + k))))), (11, .int (sn (20 * r + k))), (9, .ref ra), (8, .int (nI r)), (7, .int (nI 20)), (6, .ref sa), (4, .int (nI mm)), (3, .int (nI nf)), (0, .ref x), (1, .ref z), (2, .int xv)]) hx hb dL_act_703 hl (k := 2) rfl (nI_1 k) (by decide) rfl (fun ls hl => ?_)
              refine lv_goto (tgt := 660) hx hb dL_act_706 (by decide) ?_
              exact ih_660 (k + 1) (by omega) _ _ _ _ hk G1_0 G1_1 G1_2 G1_3 G1_4 G1_5 G1_6 G1_7 G1_8 G1_9 G1_10 G1_11 G1_12 G1_13 G1_14 hF hR (hSN.congr (fun j9 hj9 => congrFun fallU j9)) J (lv_sub hl [0, 3, 4, 5, 6, 1, 7, 8, 9, 10, 11] rfl)
          exact loop_660 20 0 (by omega) _ _ _ _ hk L643_0 L643_1 L643_2 L643_3 L643_4 L643_5 L643_6 L643_7 L643_8 L643_9 L643_10 L643_11 L643_12 L643_13 L643_14 hF hR hSN J (lv_sub hl [0, 1, 2, 3, 4, 5, 6, 7, 8, 9, 10] rfl)
      exact loop_643 20 0 (by omega) _ _ _ _ hk Fa0 Fa1 Fa2 Fa3 Fa4 Fa5 Fa6 Fa7 Fa8 Fa9 Fa10 Fa11 Fa12 Fa13 Fa14 hF hR (hSN.congr (fun j9 hj9 => by rw [Nat.mul_zero, fallC_0])) J (lv_sub hl [0, 1, 2, 3, 4, 5, 6, 7, 8] rfl)
    refine lv_tableIn (off := 602) (tgt := 614) hx hb dL_act_12 (by decide) (by decide) (by decide) (by decide) ?_
    exact join_614 _ (lv_sub hl [0, 1, 2, 3] rfl)
set_option maxHeartbeats 400000 in
set_option maxRecDepth 100000 in
theorem cL_act_p_ok (l : Launch) (hflags : l.flags = flags0) (E : zG) {ws : va_W} {x fl rl wh gr gra tr tra sc ha va ea eb nf nr z sa fe qf ro qr : Nat} {mc1 mc2 lim sup off plo hrs : Int32} {fa rd ri sn t9 hf gf : Nat → Int32} {g gq gs : Nat → Option Nat} {xv : Int32} (Fa0 : ws[0]? = some (x, .inr (7, [.ref fl, .ref rl, .ref wh, .ref gr, .ref tr, .ref sc, .int lim, .int sup, .int off, .int plo, .int hrs]))) (Fa1 : ws[1]? = some (fl, .inr (0, [.int mc1, .ref ea, .int (nI nf)]))) (Fa2 : ws[2]? = some (rl, .inr (0, [.int mc2, .ref eb, .int (nI nr)]))) (Fa3 : ws[3]? = some (wh, .inr (5, [.int (0 * 20 + 0), .int (nI 400), .int 0]))) (Fa4 : ws[4]? = some (gr, .inr (2, [.ref gra]))) (Fa5 : ws[5]? = some (gra, zI4 E 400 sn)) (Fa6 : ws[6]? = some (tr, .inr (2, [.ref tra]))) (Fa7 : ws[7]? = some (tra, zI4 E 400 t9)) (Fa8 : ws[8]? = some (sc, .inr (4, [.ref ha, .ref va]))) (Fa9 : ws[9]? = some (ha, zI4 E 400 hf)) (Fa10 : ws[10]? = some (va, zI4 E 400 gf)) (Fa11 : ws[11]? = some (z, .inr (8, [.ref fe, .ref ro, .ref sa, .int lim, .int sup, .int off, .int plo, .int hrs]))) (Fa12 : ws[14]? = some (sa, zA4 E 20 gs)) (Fa13 : ws[qf]? = some (fe, zA4 E nf g)) (Fa14 : ws[qr]? = some (ro, zA4 E nr gq)) (hql : 11 < qf ∧ 11 < qr) (hF : FS E ws fa ea nf) (hR : RS E ws rd ri eb nr) (hSep : SEP E ea eb) (hSE : SE E ws g nf fa) (hSR : SR E ws gq nr rd ri) (hSN : SN E ws 15 gs sn) (hnf : nf ≤ 10) (hnr : nr ≤ 4) (hok : ∀ j, j < nf → okF fa j) (hor : ∀ q, q < nr → okR rd ri q) (hRB : RB 200 sn) (hu9 : BI 0 40 sup) (hlm : BI 1 60 lim) (hln : 35 ≤ ws.length) (hE1 : ¬ zA E E.2.2.1) (hk13 : bln xv 13 = 10) : Met l yL_act wsL_act2 ({ frames := 8, cells := 20, slots := 120, locals := 126 } : Room) (va_Pc [.ref x, .ref z, .int xv] (zY E ws)) (va_Qi (fun (r : Int32) (ws' : va_W) => (zKi E ws ws') ∧ (LW E x fl rl wh gr gra tr tra sc ha va z sa gs ws') ∧ (r = 1)) (zI E) (zA E)) 20 120 (zA E) := by
  refine Met.ofW (cc := cL_act) (maxL := 12) (ret := (some .boolean)) (by decide) rfl ?_
  intro p e s m args below meth c s₁ B hml hv
  obtain ⟨hargs9, hI, hRz⟩ := hv
  have hx := B.exec
  have hb := B.bytes
  have hr := B.returns
  have hlocks := B.notSynchronized
  have X : zC E p m c cL_act 12 s args wsL_act2 RL := z_open B hml hI
  have hown := X.1.2.2.2.1
  have hts := X.1.2.2.2.2
  have J := hI.J
  have hi_X7 : ∀ w ∈ wsX70, w ∈ wsL_act2 := by decide +kernel
  have n0_13 : 0 ≠ qf := zneK Fa0 Fa13 rfl
  have n0_14 : 0 ≠ qr := zneK Fa0 Fa14 rfl
  have n1_13 : 1 ≠ qf := zneK Fa1 Fa13 rfl
  have n1_14 : 1 ≠ qr := zneK Fa1 Fa14 rfl
  have n2_13 : 2 ≠ qf := zneK Fa2 Fa13 rfl
  have n2_14 : 2 ≠ qr := zneK Fa2 Fa14 rfl
  have n3_13 : 3 ≠ qf := zneK Fa3 Fa13 rfl
  have n3_14 : 3 ≠ qr := zneK Fa3 Fa14 rfl
  have n4_13 : 4 ≠ qf := zneK Fa4 Fa13 rfl
  have n4_14 : 4 ≠ qr := zneK Fa4 Fa14 rfl
  have n5_13 : 5 ≠ qf := zneK Fa5 Fa13 rfl
  have n5_14 : 5 ≠ qr := zneK Fa5 Fa14 rfl
  have n6_13 : 6 ≠ qf := zneK Fa6 Fa13 rfl
  have n6_14 : 6 ≠ qr := zneK Fa6 Fa14 rfl
  have n7_13 : 7 ≠ qf := zneK Fa7 Fa13 rfl
  have n7_14 : 7 ≠ qr := zneK Fa7 Fa14 rfl
  have n8_13 : 8 ≠ qf := zneK Fa8 Fa13 rfl
  have n8_14 : 8 ≠ qr := zneK Fa8 Fa14 rfl
  have n9_13 : 9 ≠ qf := zneK Fa9 Fa13 rfl
  have n9_14 : 9 ≠ qr := zneK Fa9 Fa14 rfl
  have n10_13 : 10 ≠ qf := zneK Fa10 Fa13 rfl
  have n10_14 : 10 ≠ qr := zneK Fa10 Fa14 rfl
  have n11_13 : 11 ≠ qf := zneK Fa11 Fa13 rfl
  have n11_14 : 11 ≠ qr := zneK Fa11 Fa14 rfl
  have hk : zKi E ws ws := zKi.rf
  have hl := lv_entry ([.ref x, .ref z, .int xv]) (n := 12) (Nat.le_of_ble_eq_true rfl)
  rw [show entryFrame m args 12 = entryFrame m ([.ref x, .ref z, .int xv] : List Value).toArray 12 from by rw [hargs9], lg_entry_eq]
  generalize (lg_sl ([.ref x, .ref z, .int xv]) ++ List.replicate (12 - (lg_sl ([.ref x, .ref z, .int xv])).length) Slot.unset).toArray = ls at hl ⊢
  have hl : lv_has ls 12 [(0, .ref x), (1, .ref z), (2, .int xv)] := hl
  obtain ⟨hqf, hqr⟩ := hql
  have hbl := hSN.len
  have bq13 := zlt Fa13
  have bq14 := zlt Fa14
  have nr13 := hSN.no Fa13 rfl
  have nr14 := hSN.no Fa14 rfl
  have hhR := hgS_RB (wo := -1) nf hok
  generalize hQ : (MQ below (va_Qi (fun (r : Int32) (ws' : va_W) => (zKi E ws ws') ∧ (LW E x fl rl wh gr gra tr tra sc ha va z sa gs ws') ∧ (r = 1)) (zI E) (zA E)) args s 20 120 (zA E)) = QQ
  refine lv_aload_n hx hb dL_act_0 rfl (lv_at hl 1 rfl) ?_
  refine z_get (C := RX7) (T := TX7) (N := 8) (ci := 8) (v := .ref fe) X J hi_X7 11 Fa11 rfl 0 (by decide) (by decide +kernel) rfl dL_act_1 ?_
  refine z_alenA (v := nI nf) X J qf Fa13 rfl dL_act_4 ?_
  refine lv_istore_n (lv' := [(3, .int (nI nf)), (0, .ref x), (1, .ref z), (2, .int xv)]) hx hb dL_act_5 rfl hl (by decide) rfl (fun ls hl => ?_)
  refine lv_iload_n hx hb dL_act_6 rfl (lv_at hl 3 rfl) ?_
  refine lv_bipush (v := nI 13) hx hb dL_act_7 (by decide) ?_
  refine z_cr (z_rS (As := [.int xv, .int (nI 13)]) (rest := []) X J (cL_below_ok l E (by first | assumption | omega | decide) (by first | assumption | omega | decide)) (va_cwS 2 hts (goodIn_ext2 gL_act_L_below) rfl rfl rfl (by decide +kernel) ⟨Nat.le_of_ble_eq_true rfl, Nat.le_of_ble_eq_true rfl⟩) rfl hl.1 rfl (Nat.le_of_ble_eq_true rfl) dL_act_9 ⟨Nat.le_of_ble_eq_true rfl, Nat.le_of_ble_eq_true rfl⟩) (fun r9 e_r9 => ?_)
  subst e_r9
  refine W.eq (g2 := F0 m 12 ls [.int 10]) (congrArg (fun z9 : Int32 => F0 m 12 ls [.int z9]) (show (nI (bln xv 13) : Int32) = 10 from (by rw [hk13]; rfl))) ?_
  refine lv_tableIn (off := 720) (tgt := 732) hx hb dL_act_12 (by decide) (by decide) (by decide) (by decide) ?_
  refine lv_aload_n hx hb dL_act_732 rfl (lv_at hl 2 rfl) ?_
  refine z_get (C := RX7) (T := TX7) (N := 8) (ci := 8) (v := .ref ro) X J hi_X7 11 Fa11 rfl 1 (by decide) (by decide +kernel) rfl dL_act_733 ?_
  refine z_alenA (v := nI nr) X J qr Fa14 rfl dL_act_736 ?_
  refine lv_if_ne (tgt := 742) hx hb dL_act_737 (by decide) (fun cz737 => ?_) (fun cz737 => ?_)
  · have hn00 : 0 < nr := Nat.pos_of_ne_zero (fun q9 => cz737 (by rw [q9]; rfl))
    refine lv_iload_n hx hb dL_act_742 rfl (lv_at hl 3 rfl) ?_
    refine lv_iconst (v := 4) hx hb dL_act_743 (by decide) ?_
    refine lv_ishr hx hb dL_act_744 ?_
    refine lv_aload_n hx hb dL_act_745 rfl (lv_at hl 2 rfl) ?_
    refine z_get (C := RX7) (T := TX7) (N := 8) (ci := 8) (v := .ref ro) X J hi_X7 11 Fa11 rfl 1 (by decide) (by decide +kernel) rfl dL_act_746 ?_
    refine z_alenA (v := nI nr) X J qr Fa14 rfl dL_act_749 ?_
    obtain ⟨kf, hkf⟩ : ∃ q9 : Nat, q9 = bln (xv >>> (4 &&& 31)) (nr) := ⟨_, rfl⟩
    have bkf := bln_lt (v := xv >>> (4 &&& 31)) (n := nr) (hn00)
    refine z_cr (z_rS (As := [.int (xv >>> (4 &&& 31)), .int (nI nr)]) (rest := []) X J (cL_below_ok l E (by first | assumption | omega | decide) (by first | assumption | omega | decide)) (va_cwS 2 hts (goodIn_ext2 gL_act_L_below) rfl rfl rfl (by decide +kernel) ⟨Nat.le_of_ble_eq_true rfl, Nat.le_of_ble_eq_true rfl⟩) rfl hl.1 rfl (Nat.le_of_ble_eq_true rfl) dL_act_750 ⟨Nat.le_of_ble_eq_true rfl, Nat.le_of_ble_eq_true rfl⟩) (fun r750 e_r750 => ?_)
    subst e_r750
    refine W.eq (g2 := F0 m 753 ls [.int (nI kf)]) (congrArg (fun z9 : Int32 => F0 m 753 ls [.int z9]) (show (nI (bln (xv >>> (4 &&& 31)) nr) : Int32) = nI kf from (by rw [hkf]))) ?_
    refine lv_istore (lv' := [(4, .int (nI kf)), (3, .int (nI nf)), (0, .ref x), (1, .ref z), (2, .int xv)]) hx hb dL_act_753 hl (by decide) rfl (fun ls hl => ?_)
    obtain ⟨ja, jq, jf, hgj, hjq, hjf, hj0, hj1⟩ := hSR.keepI hk kf (by omega)
    obtain ⟨jd, jx, hjx, hjy⟩ := hor kf (by omega)
    refine lv_aload_n hx hb dL_act_755 rfl (lv_at hl 3 rfl) ?_
    refine z_get (C := RX7) (T := TX7) (N := 8) (ci := 8) (v := .ref ro) X J hi_X7 11 Fa11 rfl 1 (by decide) (by decide +kernel) rfl dL_act_756 ?_
    refine lv_iload hx hb dL_act_759 (lv_at hl 0 rfl) ?_
    refine z_aaldA X J qr Fa14 (vp_in_nI (by omega) (by first | decide | omega)) dL_act_761 ?_
    refine W.eq (g2 := F0 m 762 ls [va_rf (gq kf)]) (congrArg (fun z9 : Option Nat => F0 m 762 ls [va_rf z9]) (show (gq (nI kf).toNatClampNeg : Option Nat) = gq kf from (congrArg _ (nI_clamp (by omega))))) ?_
    refine W.eq (g2 := F0 m 762 ls [.ref ja]) (by rw [show gq kf = some ja from hgj]; rfl) ?_
    refine lv_astore (lv' := [(5, .ref ja), (4, .int (nI kf)), (3, .int (nI nf)), (0, .ref x), (1, .ref z), (2, .int xv)]) hx hb dL_act_762 hl (by decide) rfl (fun ls hl => ?_)
    refine lv_iconst (v := sumG sn (rfi (rd kf) (ri kf)) (rd kf) 0) hx hb dL_act_764 rfl ?_
    refine lv_istore (lv' := [(6, .int (sumG sn (rfi (rd kf) (ri kf)) (rd kf) 0)), (5, .ref ja), (4, .int (nI kf)), (3, .int (nI nf)), (0, .ref x), (1, .ref z), (2, .int xv)]) hx hb dL_act_765 hl (by decide) rfl (fun ls hl => ?_)
    refine lv_iconst (v := nI 0) hx hb dL_act_767 rfl ?_
    refine lv_istore (lv' := [(7, .int (nI 0)), (6, .int (sumG sn (rfi (rd kf) (ri kf)) (rd kf) 0)), (5, .ref ja), (4, .int (nI kf)), (3, .int (nI nf)), (0, .ref x), (1, .ref z), (2, .int xv)]) hx hb dL_act_768 hl (by decide) rfl (fun ls hl => ?_)
    have loop_770 : ∀ (k9 k : Nat), k + k9 = 20 → ∀ (wl770 : va_W) (H : Heap) (locs : List Loc) (ls : Array Slot), zKi E ws wl770 → wl770[0]? = some (x, .inr (7, [.ref fl, .ref rl, .ref wh, .ref gr, .ref tr, .ref sc, .int lim, .int sup, .int off, .int plo, .int hrs])) → wl770[1]? = some (fl, .inr (0, [.int mc1, .ref ea, .int (nI nf)])) → wl770[2]? = some (rl, .inr (0, [.int mc2, .ref eb, .int (nI nr)])) → wl770[3]? = some (wh, .inr (5, [.int (0 * 20 + 0), .int (nI 400), .int 0])) → wl770[4]? = some (gr, .inr (2, [.ref gra])) → wl770[5]? = some (gra, zI4 E 400 sn) → wl770[6]? = some (tr, .inr (2, [.ref tra])) → wl770[7]? = some (tra, zI4 E 400 t9) → wl770[8]? = some (sc, .inr (4, [.ref ha, .ref va])) → wl770[9]? = some (ha, zI4 E 400 hf) → wl770[10]? = some (va, zI4 E 400 gf) → wl770[11]? = some (z, .inr (8, [.ref fe, .ref ro, .ref sa, .int lim, .int sup, .int off, .int plo, .int hrs])) → wl770[14]? = some (sa, zA4 E 20 gs) → wl770[qf]? = some (fe, zA4 E nf g) → wl770[qr]? = some (ro, zA4 E nr gq) → wl770[jq]? = some (ja, zI4 E 2 jf) → FS E wl770 fa ea nf → RS E wl770 rd ri eb nr → SN E wl770 15 gs (clrG sn (rfi (rd kf) (ri kf)) (rd kf) k) → zJ E wl770 s H locs → lv_has ls 12 [(7, .int (nI k)), (6, .int (sumG sn (rfi (rd kf) (ri kf)) (rd kf) k)), (5, .ref ja), (4, .int (nI kf)), (3, .int (nI nf)), (0, .ref x), (1, .ref z), (2, .int xv)] → W p l e (headSpec wsL_act2 ({ frames := 8, cells := 20, slots := 120, locals := 126 } : Room)).room s m args below meth c H locs 0 0 QQ (F0 m 770 ls []) := by
      intro k9
      induction k9 with
      | zero =>
        intro k hik wl770 H locs ls hk L770_0 L770_1 L770_2 L770_3 L770_4 L770_5 L770_6 L770_7 L770_8 L770_9 L770_10 L770_11 L770_12 L770_13 L770_14 L770_15 hF hR hSN J hl
        obtain rfl : 20 = k := by omega
        refine lv_iload hx hb dL_act_770 (lv_at hl 0 rfl) ?_
        refine lv_bipush (v := nI 20) hx hb dL_act_772 (by decide) ?_
        refine lv_icmp_ge (tgt := 833) hx hb dL_act_774 (by decide) (fun cz774 => ?_) (fun cz774 => by exact (cz774 (nI_le (Nat.le_refl _) (by omega))).elim)
        refine lv_aload_n hx hb dL_act_833 rfl (lv_at hl 6 rfl) ?_
        refine lv_dup hx hb dL_act_834 rfl ?_
        refine z_get (C := RX7) (T := TX7) (N := 8) (ci := 8) (v := .int plo) X J hi_X7 11 L770_11 rfl 6 (by decide) (by decide +kernel) rfl dL_act_835 ?_
        refine lv_iload hx hb dL_act_838 (lv_at hl 1 rfl) ?_
        refine lv_iadd hx hb dL_act_840 ?_
        refine z_put (C := RX7) (T := TX7) (N := 8) (ci := 8) (v := .int (plo + (sumG sn (rfi (rd kf) (ri kf)) (rd kf) 20))) X J hi_X7 tyX7 tyX7_ok nmX7 11 L770_11 rfl 6 (by decide) (by decide +kernel) rfl rfl rfl (Nat.le_of_ble_eq_true rfl) dL_act_841 (fun H locs J => ?_)
        have J : zJ E (wl770.set 11 (z, .inr (8, [.ref fe, .ref ro, .ref sa, .int lim, .int sup, .int off, .int (plo + (sumG sn (rfi (rd kf) (ri kf)) (rd kf) 20)), .int hrs]))) s H locs := J
        have hF := hF.keepS (zK.set (S := [11]) (ws := wl770) (q := 11) (e := (z, .inr (8, [.ref fe, .ref ro, .ref sa, .int lim, .int sup, .int off, .int (plo + (sumG sn (rfi (rd kf) (ri kf)) (rd kf) 20)), .int hrs]))) (List.mem_singleton.mpr rfl)) (fun q9 hq9 => Or.inl (by simp only [List.mem_cons, rg_mem, List.not_mem_nil, or_false, not_or] at hq9; omega))
        have hR := hR.keepS (zK.set (S := [11]) (ws := wl770) (q := 11) (e := (z, .inr (8, [.ref fe, .ref ro, .ref sa, .int lim, .int sup, .int off, .int (plo + (sumG sn (rfi (rd kf) (ri kf)) (rd kf) 20)), .int hrs]))) (List.mem_singleton.mpr rfl)) (fun q9 hq9 => Or.inl (by simp only [List.mem_cons, rg_mem, List.not_mem_nil, or_false, not_or] at hq9; omega))
        have hSN := hSN.keep (zK.set (S := [11]) (ws := wl770) (q := 11) (e := (z, .inr (8, [.ref fe, .ref ro, .ref sa, .int lim, .int sup, .int off, .int (plo + (sumG sn (rfi (rd kf) (ri kf)) (rd kf) 20)), .int hrs]))) (List.mem_singleton.mpr rfl)) (fun r9 hr9 => by simp only [List.mem_cons, rg_mem, List.not_mem_nil, or_false, not_or]; omega)
        have hk := hk.step (zK.set (S := [11]) (ws := wl770) (q := 11) (e := (z, .inr (8, [.ref fe, .ref ro, .ref sa, .int lim, .int sup, .int off, .int (plo + (sumG sn (rfi (rd kf) (ri kf)) (rd kf) 20)), .int hrs]))) (List.mem_singleton.mpr rfl)) (fun q9 a9 n9 f9 h8 h7 h9 => by simp only [List.mem_cons, rg_mem, List.not_mem_nil, or_false, not_or]; omega)
        have G1_0 := zset_ne (q := 11) (e' := (z, .inr (8, [.ref fe, .ref ro, .ref sa, .int lim, .int sup, .int off, .int (plo + (sumG sn (rfi (rd kf) (ri kf)) (rd kf) 20)), .int hrs]))) (by decide) L770_0
        have G1_1 := zset_ne (q := 11) (e' := (z, .inr (8, [.ref fe, .ref ro, .ref sa, .int lim, .int sup, .int off, .int (plo + (sumG sn (rfi (rd kf) (ri kf)) (rd kf) 20)), .int hrs]))) (by decide) L770_1
        have G1_2 := zset_ne (q := 11) (e' := (z, .inr (8, [.ref fe, .ref ro, .ref sa, .int lim, .int sup, .int off, .int (plo + (sumG sn (rfi (rd kf) (ri kf)) (rd kf) 20)), .int hrs]))) (by decide) L770_2
        have G1_3 := zset_ne (q := 11) (e' := (z, .inr (8, [.ref fe, .ref ro, .ref sa, .int lim, .int sup, .int off, .int (plo + (sumG sn (rfi (rd kf) (ri kf)) (rd kf) 20)), .int hrs]))) (by decide) L770_3
        have G1_4 := zset_ne (q := 11) (e' := (z, .inr (8, [.ref fe, .ref ro, .ref sa, .int lim, .int sup, .int off, .int (plo + (sumG sn (rfi (rd kf) (ri kf)) (rd kf) 20)), .int hrs]))) (by decide) L770_4
        have G1_5 := zset_ne (q := 11) (e' := (z, .inr (8, [.ref fe, .ref ro, .ref sa, .int lim, .int sup, .int off, .int (plo + (sumG sn (rfi (rd kf) (ri kf)) (rd kf) 20)), .int hrs]))) (by decide) L770_5
        have G1_6 := zset_ne (q := 11) (e' := (z, .inr (8, [.ref fe, .ref ro, .ref sa, .int lim, .int sup, .int off, .int (plo + (sumG sn (rfi (rd kf) (ri kf)) (rd kf) 20)), .int hrs]))) (by decide) L770_6
        have G1_7 := zset_ne (q := 11) (e' := (z, .inr (8, [.ref fe, .ref ro, .ref sa, .int lim, .int sup, .int off, .int (plo + (sumG sn (rfi (rd kf) (ri kf)) (rd kf) 20)), .int hrs]))) (by decide) L770_7
        have G1_8 := zset_ne (q := 11) (e' := (z, .inr (8, [.ref fe, .ref ro, .ref sa, .int lim, .int sup, .int off, .int (plo + (sumG sn (rfi (rd kf) (ri kf)) (rd kf) 20)), .int hrs]))) (by decide) L770_8
        have G1_9 := zset_ne (q := 11) (e' := (z, .inr (8, [.ref fe, .ref ro, .ref sa, .int lim, .int sup, .int off, .int (plo + (sumG sn (rfi (rd kf) (ri kf)) (rd kf) 20)), .int hrs]))) (by decide) L770_9
        have G1_10 := zset_ne (q := 11) (e' := (z, .inr (8, [.ref fe, .ref ro, .ref sa, .int lim, .int sup, .int off, .int (plo + (sumG sn (rfi (rd kf) (ri kf)) (rd kf) 20)), .int hrs]))) (by decide) L770_10
        have G1_11 := zset_eq (e' := (z, .inr (8, [.ref fe, .ref ro, .ref sa, .int lim, .int sup, .int off, .int (plo + (sumG sn (rfi (rd kf) (ri kf)) (rd kf) 20)), .int hrs]))) L770_11
        have G1_12 := zset_ne (q := 11) (e' := (z, .inr (8, [.ref fe, .ref ro, .ref sa, .int lim, .int sup, .int off, .int (plo + (sumG sn (rfi (rd kf) (ri kf)) (rd kf) 20)), .int hrs]))) (by decide) L770_12
        have G1_13 := zset_ne (q := 11) (e' := (z, .inr (8, [.ref fe, .ref ro, .ref sa, .int lim, .int sup, .int off, .int (plo + (sumG sn (rfi (rd kf) (ri kf)) (rd kf) 20)), .int hrs]))) (by omega) L770_13
        have G1_14 := zset_ne (q := 11) (e' := (z, .inr (8, [.ref fe, .ref ro, .ref sa, .int lim, .int sup, .int off, .int (plo + (sumG sn (rfi (rd kf) (ri kf)) (rd kf) 20)), .int hrs]))) (by omega) L770_14
        have G1_15 := zset_ne (q := 11) (e' := (z, .inr (8, [.ref fe, .ref ro, .ref sa, .int lim, .int sup, .int off, .int (plo + (sumG sn (rfi (rd kf) (ri kf)) (rd kf) 20)), .int hrs]))) (by omega) L770_15
        generalize hws1 : (wl770.set 11 (z, .inr (8, [.ref fe, .ref ro, .ref sa, .int lim, .int sup, .int off, .int (plo + (sumG sn (rfi (rd kf) (ri kf)) (rd kf) 20)), .int hrs]))) = ws_1 at J hk G1_0 G1_1 G1_2 G1_3 G1_4 G1_5 G1_6 G1_7 G1_8 G1_9 G1_10 G1_11 G1_12 G1_13 G1_14 G1_15 hF hR hSN
        refine lv_aload_n hx hb dL_act_844 rfl (lv_at hl 5 rfl) ?_
        refine lv_iload hx hb dL_act_845 (lv_at hl 3 rfl) ?_
        refine z_xi J (z_yV (As := [.int (nI kf)]) (rest := []) (ci := 7) (q0 := 0) X hRz J (cX6_plough_ok l hflags E G1_0 G1_2 G1_4 G1_5 hR hnr) (cwV 1 hts (goodIn_ext2 gL_act_X6_plough) rfl rfl rfl (by decide +kernel) ⟨Nat.le_of_ble_eq_true rfl, Nat.le_of_ble_eq_true rfl⟩) G1_0 rfl rfl rfl hl.1 rfl (Nat.le_of_ble_eq_true rfl) dL_act_847 ⟨by show _ ≤ 20; omega, by show _ ≤ 120; omega⟩) (fun nm ce q9 H locs hp9 J h1 h2 h3 => ?_) (fun r847 ws_2 H locs hp9 J => ?_)
        · exact False.elim (by exact absurd (hp9.1.symm.trans (kIdx_ok (n := nr) (k := kf) (by omega) (by omega))) (by decide))
        obtain ⟨k2, G2_a0, G2_a1, e_r847⟩ := hp9
        have hF := hF.keepS k2 (fun q9 hq9 => Or.inl (by simp only [List.mem_cons, rg_mem, List.not_mem_nil, or_false, not_or] at hq9; omega))
        have hR := hR.keepS k2 (fun q9 hq9 => Or.inl (by simp only [List.mem_cons, rg_mem, List.not_mem_nil, or_false, not_or] at hq9; omega))
        have hSN := hSN.keep k2 (fun r9 hr9 => by simp only [List.mem_cons, rg_mem, List.not_mem_nil, or_false, not_or]; omega)
        have hk := hk.step k2 (fun q9 a9 n9 f9 h8 h7 h9 => by simp only [List.mem_cons, rg_mem, List.not_mem_nil, or_false, not_or]; omega)
        have G2_1 := k2.2 1 _ (by decide) G1_1
        have G2_2 := k2.2 2 _ (by decide) G1_2
        have G2_3 := k2.2 3 _ (by decide) G1_3
        have G2_4 := k2.2 4 _ (by decide) G1_4
        have G2_6 := k2.2 6 _ (by decide) G1_6
        have G2_7 := k2.2 7 _ (by decide) G1_7
        have G2_8 := k2.2 8 _ (by decide) G1_8
        have G2_9 := k2.2 9 _ (by decide) G1_9
        have G2_10 := k2.2 10 _ (by decide) G1_10
        have G2_11 := k2.2 11 _ (by decide) G1_11
        have G2_12 := k2.2 14 _ (by decide) G1_12
        have G2_13 := k2.2 qf _ (by simp only [List.mem_cons, List.not_mem_nil, or_false]; omega) G1_13
        have G2_14 := k2.2 qr _ (by simp only [List.mem_cons, List.not_mem_nil, or_false]; omega) G1_14
        have G2_15 := k2.2 jq _ (by simp only [List.mem_cons, List.not_mem_nil, or_false]; omega) G1_15
        refine W.eq (g2 := F0 m 850 ls [.int (sumG sn (rfi (rd kf) (ri kf)) (rd kf) 20)]) (congrArg (fun z9 : Int32 => F0 m 850 ls [.int z9]) (show (r847 : Int32) = sumG sn (rfi (rd kf) (ri kf)) (rd kf) 20 from (by rw [e_r847.2, nI_clamp (by omega)]))) ?_
        refine lv_iload hx hb dL_act_850 (lv_at hl 1 rfl) ?_
        refine lv_icmp_ne (tgt := 859) hx hb dL_act_852 (by decide) (fun cz852 => by exact (cz852 rfl).elim) (fun cz852 => ?_)
        refine lv_iconst (v := 1) hx hb dL_act_855 (by decide) ?_
        refine lv_goto (tgt := 860) hx hb dL_act_856 (by decide) ?_
        refine W.widen (k := 20) (n := 120) (by omega) (by omega) ?_
        subst hQ
        exact W.zret (v := 1) hx hb hr rfl (fun t ht hW => ⟨⟨1, ws_2, rfl, ⟨hk, ⟨mc1, mc2, lim, sup, off, (plo + sumG sn (rfi (rd kf) (ri kf)) (rd kf) 20), hrs, ea, eb, nf, nr, fe, qf, ro, qr, fa, rd, ri, (clrG sn (rfi (rd kf) (ri kf)) (rd kf) 20), t9, hf, gf, g, gq, (by have h9 := G2_a0; rw [nI_clamp (show kf < 2 ^ 31 by omega)] at h9; exact h9), G2_1, G2_2, G2_3, G2_4, (by have h9 := G2_a1; rw [nI_clamp (show kf < 2 ^ 31 by omega)] at h9; exact h9), G2_6, G2_7, G2_8, G2_9, G2_10, G2_11, G2_12, G2_13, G2_14, ⟨by omega, by omega⟩, hF, hR, hSep, (hSE.keepI hk), (hSR.keepI hk), hSN, hnf, hnr, hok, hor, (clrG_I hRB 20), hu9, hlm, (Nat.le_trans hln hk.1)⟩, rfl⟩, J.I X ht hW.alike⟩, J.F ht⟩) J.locs dL_act_860
      | succ k9 ih_770 =>
        intro k hik wl770 H locs ls hk L770_0 L770_1 L770_2 L770_3 L770_4 L770_5 L770_6 L770_7 L770_8 L770_9 L770_10 L770_11 L770_12 L770_13 L770_14 L770_15 hF hR hSN J hl
        refine lv_iload hx hb dL_act_770 (lv_at hl 0 rfl) ?_
        refine lv_bipush (v := nI 20) hx hb dL_act_772 (by decide) ?_
        refine lv_icmp_ge (tgt := 833) hx hb dL_act_774 (by decide) (fun cz774 => by exact (nI_ge (by omega) (by omega) cz774).elim) (fun cz774 => ?_)
        refine lv_iload hx hb dL_act_777 (lv_at hl 1 rfl) ?_
        refine lv_aload_n hx hb dL_act_779 rfl (lv_at hl 6 rfl) ?_
        refine lv_aload hx hb dL_act_780 (lv_at hl 2 rfl) ?_
        refine lv_iload hx hb dL_act_782 (lv_at hl 0 rfl) ?_
        refine z_cr (z_rV (As := [.ref ja, .int (nI k)]) (rest := [.int (sumG sn (rfi (rd kf) (ri kf)) (rd kf) k)]) (ci := 8) (q0 := 11) X J (cX7_on_ok l E L770_11 L770_12 L770_15 hSN (by rw [hj0]; exact jd) (hj1.trans hjy) hjx (by first | assumption | omega | decide)) (cwV 2 hts (goodIn_ext2 gL_act_X7_on) rfl rfl rfl (by decide +kernel) ⟨Nat.le_of_ble_eq_true rfl, Nat.le_of_ble_eq_true rfl⟩) L770_11 rfl rfl rfl hl.1 rfl (Nat.le_of_ble_eq_true rfl) dL_act_784 ⟨Nat.le_of_ble_eq_true rfl, Nat.le_of_ble_eq_true rfl⟩) (fun r784 e_r784 => ?_)
        subst e_r784
        refine W.eq (g2 := F0 m 787 ls [.int (gd sn (cellAt (rfi (rd kf) (ri kf)) (rd kf) k)), .int (sumG sn (rfi (rd kf) (ri kf)) (rd kf) k)]) (congrArg (fun z9 : Int32 => F0 m 787 ls [.int z9, .int (sumG sn (rfi (rd kf) (ri kf)) (rd kf) k)]) (show (gd (clrG sn (rfi (rd kf) (ri kf)) (rd kf) k) (cellAt (rfi (jf 0) (jf 1)) (jf 0) k) : Int32) = gd sn (cellAt (rfi (rd kf) (ri kf)) (rd kf) k) from (by rw [hj0, hj1]; exact clr_at jd hjy hjx (by omega) k (Nat.le_refl _)))) ?_
        refine lv_iadd hx hb dL_act_787 ?_
        refine lv_istore (lv' := [(6, .int ((sumG sn (rfi (rd kf) (ri kf)) (rd kf) k) + (gd sn (cellAt (rfi (rd kf) (ri kf)) (rd kf) k)))), (7, .int (nI k)), (5, .ref ja), (4, .int (nI kf)), (3, .int (nI nf)), (0, .ref x), (1, .ref z), (2, .int xv)]) hx hb dL_act_788 hl (by decide) rfl (fun ls hl => ?_)
        refine lv_aload hx hb dL_act_790 (lv_at hl 2 rfl) ?_
        refine lv_iconst (v := nI 0) hx hb dL_act_792 rfl ?_
        refine z_iald X J jq L770_15 (vp_in_nI (by omega) (by first | decide | omega)) dL_act_793 ?_
        refine W.eq (g2 := F0 m 794 ls [.int (jf 0)]) (congrArg (fun z9 : Int32 => F0 m 794 ls [.int z9]) (show (jf (nI 0).toNatClampNeg : Int32) = jf 0 from (congrArg _ (nI_clamp (by omega))))) ?_
        refine lv_iconst (v := 1) hx hb dL_act_794 (by decide) ?_
        refine lv_icmp_ne (tgt := 814) hx hb dL_act_795 (by decide) (fun cz795 => ?_) (fun cz795 => ?_)
        · obtain ⟨ra, rf, hra, hrc, hrf⟩ := hSN jx hjx
          refine lv_aload_n hx hb dL_act_814 rfl (lv_at hl 6 rfl) ?_
          refine z_get (C := RX7) (T := TX7) (N := 8) (ci := 8) (v := .ref sa) X J hi_X7 11 L770_11 rfl 2 (by decide) (by decide +kernel) rfl dL_act_815 ?_
          refine lv_aload hx hb dL_act_818 (lv_at hl 2 rfl) ?_
          refine lv_iconst (v := nI 1) hx hb dL_act_820 rfl ?_
          refine z_iald X J jq L770_15 (vp_in_nI (by omega) (by first | decide | omega)) dL_act_821 ?_
          refine W.eq (g2 := F0 m 822 ls [.int (nI jx), .ref sa]) (congrArg (fun z9 : Int32 => F0 m 822 ls [.int z9, .ref sa]) (show (jf (nI 1).toNatClampNeg : Int32) = nI jx from ((congrArg jf (nI_clamp (by omega))).trans (hj1.trans hjy)))) ?_
          refine z_aaldA X J 14 L770_12 (vp_in_nI (by omega) (by first | decide | omega)) dL_act_822 ?_
          refine W.eq (g2 := F0 m 823 ls [va_rf (gs jx)]) (congrArg (fun z9 : Option Nat => F0 m 823 ls [va_rf z9]) (show (gs (nI jx).toNatClampNeg : Option Nat) = gs jx from (congrArg _ (nI_clamp (by omega))))) ?_
          refine W.eq (g2 := F0 m 823 ls [.ref ra]) (by rw [show gs jx = some ra from hra]; rfl) ?_
          refine lv_iload hx hb dL_act_823 (lv_at hl 1 rfl) ?_
          refine lv_iconst (v := 0) hx hb dL_act_825 (by decide) ?_
          refine z_iast X J (15 + jx) hrc (vp_in_nI (by omega) (by first | decide | omega)) dL_act_826 (fun H locs J => ?_)
          rw [show upd rf (nI k).toNatClampNeg 0 = upd rf k 0 from (by rw [nI_clamp (by omega)])] at J
          have hF := hF.keepS (zK.set (S := [(15 + jx)]) (ws := wl770) (q := (15 + jx)) (e := (ra, zI4 E 20 (upd rf k 0))) (List.mem_singleton.mpr rfl)) (fun q9 hq9 => Or.inr ⟨_, _, (List.mem_singleton.mp hq9).symm ▸ hrc, noL_I⟩)
          have hR := hR.keepS (zK.set (S := [(15 + jx)]) (ws := wl770) (q := (15 + jx)) (e := (ra, zI4 E 20 (upd rf k 0))) (List.mem_singleton.mpr rfl)) (fun q9 hq9 => Or.inr ⟨_, _, (List.mem_singleton.mp hq9).symm ▸ hrc, noL_I⟩)
          have hSN := hSN.set (r := jx) (c := k) (v := 0) hjx (by omega) hra hrf
          have hk := hk.step (zK.set (S := [(15 + jx)]) (ws := wl770) (q := (15 + jx)) (e := (ra, zI4 E 20 (upd rf k 0))) (List.mem_singleton.mpr rfl)) (fun q9 a9 n9 f9 h8 h7 h9 => by simp only [List.mem_cons, rg_mem, List.not_mem_nil, or_false, not_or]; omega)
          have G1_0 := zset_ne (q := (15 + jx)) (e' := (ra, zI4 E 20 (upd rf k 0))) (by omega) L770_0
          have G1_1 := zset_ne (q := (15 + jx)) (e' := (ra, zI4 E 20 (upd rf k 0))) (by omega) L770_1
          have G1_2 := zset_ne (q := (15 + jx)) (e' := (ra, zI4 E 20 (upd rf k 0))) (by omega) L770_2
          have G1_3 := zset_ne (q := (15 + jx)) (e' := (ra, zI4 E 20 (upd rf k 0))) (by omega) L770_3
          have G1_4 := zset_ne (q := (15 + jx)) (e' := (ra, zI4 E 20 (upd rf k 0))) (by omega) L770_4
          have G1_5 := zset_ne (q := (15 + jx)) (e' := (ra, zI4 E 20 (upd rf k 0))) (by omega) L770_5
          have G1_6 := zset_ne (q := (15 + jx)) (e' := (ra, zI4 E 20 (upd rf k 0))) (by omega) L770_6
          have G1_7 := zset_ne (q := (15 + jx)) (e' := (ra, zI4 E 20 (upd rf k 0))) (by omega) L770_7
          have G1_8 := zset_ne (q := (15 + jx)) (e' := (ra, zI4 E 20 (upd rf k 0))) (by omega) L770_8
          have G1_9 := zset_ne (q := (15 + jx)) (e' := (ra, zI4 E 20 (upd rf k 0))) (by omega) L770_9
          have G1_10 := zset_ne (q := (15 + jx)) (e' := (ra, zI4 E 20 (upd rf k 0))) (by omega) L770_10
          have G1_11 := zset_ne (q := (15 + jx)) (e' := (ra, zI4 E 20 (upd rf k 0))) (by omega) L770_11
          have G1_12 := zset_ne (q := (15 + jx)) (e' := (ra, zI4 E 20 (upd rf k 0))) (by omega) L770_12
          have G1_13 := zset_ne (q := (15 + jx)) (e' := (ra, zI4 E 20 (upd rf k 0))) (by omega) L770_13
          have G1_14 := zset_ne (q := (15 + jx)) (e' := (ra, zI4 E 20 (upd rf k 0))) (by omega) L770_14
          have G1_15 := zset_ne (q := (15 + jx)) (e' := (ra, zI4 E 20 (upd rf k 0))) (by omega) L770_15
          have G1_16 := zset_eq (e' := (ra, zI4 E 20 (upd rf k 0))) hrc
          generalize hws1 : (wl770.set (15 + jx) (ra, zI4 E 20 (upd rf k 0))) = ws_1 at J hk G1_0 G1_1 G1_2 G1_3 G1_4 G1_5 G1_6 G1_7 G1_8 G1_9 G1_10 G1_11 G1_12 G1_13 G1_14 G1_15 G1_16 hF hR hSN
          refine lv_iinc (v := nI (k + 1)) (lv' := [(7, .int (nI (k + 1))), (6, .int ((sumG sn (rfi (rd kf) (ri kf)) (rd kf) k) + (gd sn (cellAt (rfi (rd kf) (ri kf)) (rd kf) k)))), (5, .ref ja), (4, .int (nI kf)), (3, .int (nI nf)), (0, .ref x), (1, .ref z), (2, .int xv)]) hx hb dL_act_827 hl (k := 1) rfl (nI_1 k) (by decide) rfl (fun ls hl => ?_)
          refine lv_goto (tgt := 770) hx hb dL_act_830 (by decide) ?_
          exact ih_770 (k + 1) (by omega) _ _ _ _ hk G1_0 G1_1 G1_2 G1_3 G1_4 G1_5 G1_6 G1_7 G1_8 G1_9 G1_10 G1_11 G1_12 G1_13 G1_14 G1_15 hF hR (hSN.congr (fun j9 hj9 => congrFun (clrU_a jd (fun q9 => cz795 (hj0.trans q9)) hjy hjx (by omega)) j9)) J (lv_sub hl [0, 1, 2, 3, 4, 5, 6, 7] rfl)
        · obtain ⟨ra, rf, hra, hrc, hrf⟩ := hSN k (by omega)
          refine lv_aload_n hx hb dL_act_798 rfl (lv_at hl 6 rfl) ?_
          refine z_get (C := RX7) (T := TX7) (N := 8) (ci := 8) (v := .ref sa) X J hi_X7 11 L770_11 rfl 2 (by decide) (by decide +kernel) rfl dL_act_799 ?_
          refine lv_iload hx hb dL_act_802 (lv_at hl 1 rfl) ?_
          refine z_aaldA X J 14 L770_12 (vp_in_nI (by omega) (by first | decide | omega)) dL_act_804 ?_
          refine W.eq (g2 := F0 m 805 ls [va_rf (gs k)]) (congrArg (fun z9 : Option Nat => F0 m 805 ls [va_rf z9]) (show (gs (nI k).toNatClampNeg : Option Nat) = gs k from (congrArg _ (nI_clamp (by omega))))) ?_
          refine W.eq (g2 := F0 m 805 ls [.ref ra]) (by rw [show gs k = some ra from hra]; rfl) ?_
          refine lv_aload hx hb dL_act_805 (lv_at hl 2 rfl) ?_
          refine lv_iconst (v := nI 1) hx hb dL_act_807 rfl ?_
          refine z_iald X J jq L770_15 (vp_in_nI (by omega) (by first | decide | omega)) dL_act_808 ?_
          refine W.eq (g2 := F0 m 809 ls [.int (nI jx), .ref ra]) (congrArg (fun z9 : Int32 => F0 m 809 ls [.int z9, .ref ra]) (show (jf (nI 1).toNatClampNeg : Int32) = nI jx from ((congrArg jf (nI_clamp (by omega))).trans (hj1.trans hjy)))) ?_
          refine lv_iconst (v := 0) hx hb dL_act_809 (by decide) ?_
          refine z_iast X J (15 + k) hrc (vp_in_nI (by omega) (by first | decide | omega)) dL_act_810 (fun H locs J => ?_)
          rw [show upd rf (nI jx).toNatClampNeg 0 = upd rf jx 0 from (by rw [nI_clamp (by omega)])] at J
          have hF := hF.keepS (zK.set (S := [(15 + k)]) (ws := wl770) (q := (15 + k)) (e := (ra, zI4 E 20 (upd rf jx 0))) (List.mem_singleton.mpr rfl)) (fun q9 hq9 => Or.inr ⟨_, _, (List.mem_singleton.mp hq9).symm ▸ hrc, noL_I⟩)
          have hR := hR.keepS (zK.set (S := [(15 + k)]) (ws := wl770) (q := (15 + k)) (e := (ra, zI4 E 20 (upd rf jx 0))) (List.mem_singleton.mpr rfl)) (fun q9 hq9 => Or.inr ⟨_, _, (List.mem_singleton.mp hq9).symm ▸ hrc, noL_I⟩)
          have hSN := hSN.set (r := k) (c := jx) (v := 0) (by omega) hjx hra hrf
          have hk := hk.step (zK.set (S := [(15 + k)]) (ws := wl770) (q := (15 + k)) (e := (ra, zI4 E 20 (upd rf jx 0))) (List.mem_singleton.mpr rfl)) (fun q9 a9 n9 f9 h8 h7 h9 => by simp only [List.mem_cons, rg_mem, List.not_mem_nil, or_false, not_or]; omega)
          have G1_0 := zset_ne (q := (15 + k)) (e' := (ra, zI4 E 20 (upd rf jx 0))) (by omega) L770_0
          have G1_1 := zset_ne (q := (15 + k)) (e' := (ra, zI4 E 20 (upd rf jx 0))) (by omega) L770_1
          have G1_2 := zset_ne (q := (15 + k)) (e' := (ra, zI4 E 20 (upd rf jx 0))) (by omega) L770_2
          have G1_3 := zset_ne (q := (15 + k)) (e' := (ra, zI4 E 20 (upd rf jx 0))) (by omega) L770_3
          have G1_4 := zset_ne (q := (15 + k)) (e' := (ra, zI4 E 20 (upd rf jx 0))) (by omega) L770_4
          have G1_5 := zset_ne (q := (15 + k)) (e' := (ra, zI4 E 20 (upd rf jx 0))) (by omega) L770_5
          have G1_6 := zset_ne (q := (15 + k)) (e' := (ra, zI4 E 20 (upd rf jx 0))) (by omega) L770_6
          have G1_7 := zset_ne (q := (15 + k)) (e' := (ra, zI4 E 20 (upd rf jx 0))) (by omega) L770_7
          have G1_8 := zset_ne (q := (15 + k)) (e' := (ra, zI4 E 20 (upd rf jx 0))) (by omega) L770_8
          have G1_9 := zset_ne (q := (15 + k)) (e' := (ra, zI4 E 20 (upd rf jx 0))) (by omega) L770_9
          have G1_10 := zset_ne (q := (15 + k)) (e' := (ra, zI4 E 20 (upd rf jx 0))) (by omega) L770_10
          have G1_11 := zset_ne (q := (15 + k)) (e' := (ra, zI4 E 20 (upd rf jx 0))) (by omega) L770_11
          have G1_12 := zset_ne (q := (15 + k)) (e' := (ra, zI4 E 20 (upd rf jx 0))) (by omega) L770_12
          have G1_13 := zset_ne (q := (15 + k)) (e' := (ra, zI4 E 20 (upd rf jx 0))) (by omega) L770_13
          have G1_14 := zset_ne (q := (15 + k)) (e' := (ra, zI4 E 20 (upd rf jx 0))) (by omega) L770_14
          have G1_15 := zset_ne (q := (15 + k)) (e' := (ra, zI4 E 20 (upd rf jx 0))) (by omega) L770_15
          have G1_16 := zset_eq (e' := (ra, zI4 E 20 (upd rf jx 0))) hrc
          generalize hws1 : (wl770.set (15 + k) (ra, zI4 E 20 (upd rf jx 0))) = ws_1 at J hk G1_0 G1_1 G1_2 G1_3 G1_4 G1_5 G1_6 G1_7 G1_8 G1_9 G1_10 G1_11 G1_12 G1_13 G1_14 G1_15 G1_16 hF hR hSN
          refine lv_goto (tgt := 827) hx hb dL_act_811 (by decide) ?_
          refine lv_iinc (v := nI (k + 1)) (lv' := [(7, .int (nI (k + 1))), (6, .int ((sumG sn (rfi (rd kf) (ri kf)) (rd kf) k) + (gd sn (cellAt (rfi (rd kf) (ri kf)) (rd kf) k)))), (5, .ref ja), (4, .int (nI kf)), (3, .int (nI nf)), (0, .ref x), (1, .ref z), (2, .int xv)]) hx hb dL_act_827 hl (k := 1) rfl (nI_1 k) (by decide) rfl (fun ls hl => ?_)
          refine lv_goto (tgt := 770) hx hb dL_act_830 (by decide) ?_
          exact ih_770 (k + 1) (by omega) _ _ _ _ hk G1_0 G1_1 G1_2 G1_3 G1_4 G1_5 G1_6 G1_7 G1_8 G1_9 G1_10 G1_11 G1_12 G1_13 G1_14 G1_15 hF hR (hSN.congr (fun j9 hj9 => congrFun (clrU_d (hj0.symm.trans cz795) hjy hjx (by omega)) j9)) J (lv_sub hl [0, 1, 2, 3, 4, 5, 6, 7] rfl)
    exact loop_770 20 0 (by omega) _ _ _ _ hk Fa0 Fa1 Fa2 Fa3 Fa4 Fa5 Fa6 Fa7 Fa8 Fa9 Fa10 Fa11 Fa12 Fa13 Fa14 hjf hF hR hSN J (lv_sub hl [0, 1, 2, 3, 4, 5, 6, 7] rfl)
  · refine lv_iconst (v := 1) hx hb dL_act_740 (by decide) ?_
    refine W.widen (k := 20) (n := 120) (by omega) (by omega) ?_
    subst hQ
    exact W.zret (v := 1) hx hb hr rfl (fun t ht hW => ⟨⟨1, ws, rfl, ⟨hk, ⟨mc1, mc2, lim, sup, off, plo, hrs, ea, eb, nf, nr, fe, qf, ro, qr, fa, rd, ri, sn, t9, hf, gf, g, gq, Fa0, Fa1, Fa2, Fa3, Fa4, Fa5, Fa6, Fa7, Fa8, Fa9, Fa10, Fa11, Fa12, Fa13, Fa14, ⟨by omega, by omega⟩, hF, hR, hSep, (hSE.keepI hk), (hSR.keepI hk), hSN, hnf, hnr, hok, hor, hRB, hu9, hlm, (Nat.le_trans hln hk.1)⟩, rfl⟩, J.I X ht hW.alike⟩, J.F ht⟩) J.locs dL_act_741
set_option maxHeartbeats 400000 in
set_option maxRecDepth 100000 in
theorem cL_act_b_ok (l : Launch) (hflags : l.flags = flags0) (E : zG) {ws : va_W} {x fl rl wh gr gra tr tra sc ha va ea eb nf nr z sa fe qf ro qr : Nat} {mc1 mc2 lim sup off plo hrs : Int32} {fa rd ri sn t9 hf gf : Nat → Int32} {g gq gs : Nat → Option Nat} {xv : Int32} {kk : Nat} (Fa0 : ws[0]? = some (x, .inr (7, [.ref fl, .ref rl, .ref wh, .ref gr, .ref tr, .ref sc, .int lim, .int sup, .int off, .int plo, .int hrs]))) (Fa1 : ws[1]? = some (fl, .inr (0, [.int mc1, .ref ea, .int (nI nf)]))) (Fa2 : ws[2]? = some (rl, .inr (0, [.int mc2, .ref eb, .int (nI nr)]))) (Fa3 : ws[3]? = some (wh, .inr (5, [.int (0 * 20 + 0), .int (nI 400), .int 0]))) (Fa4 : ws[4]? = some (gr, .inr (2, [.ref gra]))) (Fa5 : ws[5]? = some (gra, zI4 E 400 sn)) (Fa6 : ws[6]? = some (tr, .inr (2, [.ref tra]))) (Fa7 : ws[7]? = some (tra, zI4 E 400 t9)) (Fa8 : ws[8]? = some (sc, .inr (4, [.ref ha, .ref va]))) (Fa9 : ws[9]? = some (ha, zI4 E 400 hf)) (Fa10 : ws[10]? = some (va, zI4 E 400 gf)) (Fa11 : ws[11]? = some (z, .inr (8, [.ref fe, .ref ro, .ref sa, .int lim, .int sup, .int off, .int plo, .int hrs]))) (Fa12 : ws[14]? = some (sa, zA4 E 20 gs)) (Fa13 : ws[qf]? = some (fe, zA4 E nf g)) (Fa14 : ws[qr]? = some (ro, zA4 E nr gq)) (hql : 11 < qf ∧ 11 < qr) (hF : FS E ws fa ea nf) (hR : RS E ws rd ri eb nr) (hSep : SEP E ea eb) (hSE : SE E ws g nf fa) (hSR : SR E ws gq nr rd ri) (hSN : SN E ws 15 gs sn) (hnf : nf ≤ 10) (hnr : nr ≤ 4) (hok : ∀ j, j < nf → okF fa j) (hor : ∀ q, q < nr → okR rd ri q) (hRB : RB 200 sn) (hu9 : BI 0 40 sup) (hlm : BI 1 60 lim) (hln : 35 ≤ ws.length) (hE1 : ¬ zA E E.2.2.1) (hk13 : bln xv 13 = kk) (hkk : kk = 11 ∨ kk = 12) : Met l yL_act wsL_act2 ({ frames := 9, cells := 39860, slots := 76900, locals := 157 } : Room) (va_Pc [.ref x, .ref z, .int xv] (zY E ws)) (va_Qi (fun (r : Int32) (ws' : va_W) => (zKi E ws ws') ∧ (LW E x fl rl wh gr gra tr tra sc ha va z sa gs ws') ∧ (r = 1)) (zI E) (zA E)) 39860 76900 (zA E) := by
  refine Met.ofW (cc := cL_act) (maxL := 12) (ret := (some .boolean)) (by decide) rfl ?_
  intro p e s m args below meth c s₁ B hml hv
  obtain ⟨hargs9, hI, hRz⟩ := hv
  have hx := B.exec
  have hb := B.bytes
  have hr := B.returns
  have hlocks := B.notSynchronized
  have X : zC E p m c cL_act 12 s args wsL_act2 RL := z_open B hml hI
  have hown := X.1.2.2.2.1
  have hts := X.1.2.2.2.2
  have J := hI.J
  have hi_X7 : ∀ w ∈ wsX70, w ∈ wsL_act2 := by decide +kernel
  have n0_13 : 0 ≠ qf := zneK Fa0 Fa13 rfl
  have n0_14 : 0 ≠ qr := zneK Fa0 Fa14 rfl
  have n1_13 : 1 ≠ qf := zneK Fa1 Fa13 rfl
  have n1_14 : 1 ≠ qr := zneK Fa1 Fa14 rfl
  have n2_13 : 2 ≠ qf := zneK Fa2 Fa13 rfl
  have n2_14 : 2 ≠ qr := zneK Fa2 Fa14 rfl
  have n3_13 : 3 ≠ qf := zneK Fa3 Fa13 rfl
  have n3_14 : 3 ≠ qr := zneK Fa3 Fa14 rfl
  have n4_13 : 4 ≠ qf := zneK Fa4 Fa13 rfl
  have n4_14 : 4 ≠ qr := zneK Fa4 Fa14 rfl
  have n5_13 : 5 ≠ qf := zneK Fa5 Fa13 rfl
  have n5_14 : 5 ≠ qr := zneK Fa5 Fa14 rfl
  have n6_13 : 6 ≠ qf := zneK Fa6 Fa13 rfl
  have n6_14 : 6 ≠ qr := zneK Fa6 Fa14 rfl
  have n7_13 : 7 ≠ qf := zneK Fa7 Fa13 rfl
  have n7_14 : 7 ≠ qr := zneK Fa7 Fa14 rfl
  have n8_13 : 8 ≠ qf := zneK Fa8 Fa13 rfl
  have n8_14 : 8 ≠ qr := zneK Fa8 Fa14 rfl
  have n9_13 : 9 ≠ qf := zneK Fa9 Fa13 rfl
  have n9_14 : 9 ≠ qr := zneK Fa9 Fa14 rfl
  have n10_13 : 10 ≠ qf := zneK Fa10 Fa13 rfl
  have n10_14 : 10 ≠ qr := zneK Fa10 Fa14 rfl
  have n11_13 : 11 ≠ qf := zneK Fa11 Fa13 rfl
  have n11_14 : 11 ≠ qr := zneK Fa11 Fa14 rfl
  have hk : zKi E ws ws := zKi.rf
  have hl := lv_entry ([.ref x, .ref z, .int xv]) (n := 12) (Nat.le_of_ble_eq_true rfl)
  rw [show entryFrame m args 12 = entryFrame m ([.ref x, .ref z, .int xv] : List Value).toArray 12 from by rw [hargs9], lg_entry_eq]
  generalize (lg_sl ([.ref x, .ref z, .int xv]) ++ List.replicate (12 - (lg_sl ([.ref x, .ref z, .int xv])).length) Slot.unset).toArray = ls at hl ⊢
  have hl : lv_has ls 12 [(0, .ref x), (1, .ref z), (2, .int xv)] := hl
  obtain ⟨hqf, hqr⟩ := hql
  have hbl := hSN.len
  have bq13 := zlt Fa13
  have bq14 := zlt Fa14
  have nr13 := hSN.no Fa13 rfl
  have nr14 := hSN.no Fa14 rfl
  have hhR := hgS_RB (wo := -1) nf hok
  generalize hQ : (MQ below (va_Qi (fun (r : Int32) (ws' : va_W) => (zKi E ws ws') ∧ (LW E x fl rl wh gr gra tr tra sc ha va z sa gs ws') ∧ (r = 1)) (zI E) (zA E)) args s 39860 76900 (zA E)) = QQ
  refine lv_aload_n hx hb dL_act_0 rfl (lv_at hl 1 rfl) ?_
  refine z_get (C := RX7) (T := TX7) (N := 8) (ci := 8) (v := .ref fe) X J hi_X7 11 Fa11 rfl 0 (by decide) (by decide +kernel) rfl dL_act_1 ?_
  refine z_alenA (v := nI nf) X J qf Fa13 rfl dL_act_4 ?_
  refine lv_istore_n (lv' := [(3, .int (nI nf)), (0, .ref x), (1, .ref z), (2, .int xv)]) hx hb dL_act_5 rfl hl (by decide) rfl (fun ls hl => ?_)
  refine lv_iload_n hx hb dL_act_6 rfl (lv_at hl 3 rfl) ?_
  refine lv_bipush (v := nI 13) hx hb dL_act_7 (by decide) ?_
  refine z_cr (z_rS (As := [.int xv, .int (nI 13)]) (rest := []) X J (cL_below_ok l E (by first | assumption | omega | decide) (by first | assumption | omega | decide)) (va_cwS 2 hts (goodIn_ext2 gL_act_L_below) rfl rfl rfl (by decide +kernel) ⟨Nat.le_of_ble_eq_true rfl, Nat.le_of_ble_eq_true rfl⟩) rfl hl.1 rfl (Nat.le_of_ble_eq_true rfl) dL_act_9 ⟨Nat.le_of_ble_eq_true rfl, Nat.le_of_ble_eq_true rfl⟩) (fun r9 e_r9 => ?_)
  subst e_r9
  refine W.eq (g2 := F0 m 12 ls [.int (nI kk)]) (congrArg (fun z9 : Int32 => F0 m 12 ls [.int z9]) (show (nI (bln xv 13) : Int32) = nI kk from (by rw [hk13]))) ?_
  have join_861 : ∀ (ls : Array Slot), lv_has ls 12 [(3, .int (nI nf)), (0, .ref x), (1, .ref z), (2, .int xv)] → W p l e (headSpec wsL_act2 ({ frames := 9, cells := 39860, slots := 76900, locals := 157 } : Room)).room s m args below meth c s.heap [] 0 0 QQ (F0 m 861 ls []) := by
    intro ls hl
    refine lv_iload_n hx hb dL_act_861 rfl (lv_at hl 3 rfl) ?_
    refine lv_iconst (v := 3) hx hb dL_act_862 (by decide) ?_
    refine lv_ishr hx hb dL_act_863 ?_
    refine lv_iconst (v := nI 4) hx hb dL_act_864 rfl ?_
    obtain ⟨wd, hwd⟩ : ∃ q9 : Nat, q9 = bln (xv >>> (3 &&& 31)) (4) := ⟨_, rfl⟩
    have bwd := bln_lt (v := xv >>> (3 &&& 31)) (n := 4) (by omega)
    refine z_cr (z_rS (As := [.int (xv >>> (3 &&& 31)), .int (nI 4)]) (rest := []) X J (cL_below_ok l E (by first | assumption | omega | decide) (by first | assumption | omega | decide)) (va_cwS 2 hts (goodIn_ext2 gL_act_L_below) rfl rfl rfl (by decide +kernel) ⟨Nat.le_of_ble_eq_true rfl, Nat.le_of_ble_eq_true rfl⟩) rfl hl.1 rfl (Nat.le_of_ble_eq_true rfl) dL_act_865 ⟨Nat.le_of_ble_eq_true rfl, Nat.le_of_ble_eq_true rfl⟩) (fun r865 e_r865 => ?_)
    subst e_r865
    refine W.eq (g2 := F0 m 868 ls [.int (nI wd)]) (congrArg (fun z9 : Int32 => F0 m 868 ls [.int z9]) (show (nI (bln (xv >>> (3 &&& 31)) 4) : Int32) = nI wd from (by rw [hwd]))) ?_
    refine lv_istore (lv' := [(4, .int (nI wd)), (3, .int (nI nf)), (0, .ref x), (1, .ref z), (2, .int xv)]) hx hb dL_act_868 hl (by decide) rfl (fun ls hl => ?_)
    refine lv_iconst (v := nI 1) hx hb dL_act_870 rfl ?_
    refine lv_iload_n hx hb dL_act_871 rfl (lv_at hl 4 rfl) ?_
    refine lv_iconst (v := 5) hx hb dL_act_872 (by decide) ?_
    refine lv_ishr hx hb dL_act_873 ?_
    refine lv_bipush (v := nI 9) hx hb dL_act_874 (by decide) ?_
    refine z_cr (z_rS (As := [.int (xv >>> (5 &&& 31)), .int (nI 9)]) (rest := [.int (nI 1)]) X J (cL_below_ok l E (by first | assumption | omega | decide) (by first | assumption | omega | decide)) (va_cwS 2 hts (goodIn_ext2 gL_act_L_below) rfl rfl rfl (by decide +kernel) ⟨Nat.le_of_ble_eq_true rfl, Nat.le_of_ble_eq_true rfl⟩) rfl hl.1 rfl (Nat.le_of_ble_eq_true rfl) dL_act_876 ⟨Nat.le_of_ble_eq_true rfl, Nat.le_of_ble_eq_true rfl⟩) (fun r876 e_r876 => ?_)
    subst e_r876
    obtain ⟨sg, hsg⟩ : ∃ q9 : Nat, q9 = 1 + bln (xv >>> (5 &&& 31)) 9 := ⟨_, rfl⟩
    have bsg := bln_lt (v := xv >>> (5 &&& 31)) (n := 9) (by decide)
    refine lv_iadd hx hb dL_act_879 ?_
    refine W.eq (g2 := F0 m 880 ls [.int (nI sg)]) (congrArg (fun z9 : Int32 => F0 m 880 ls [.int z9]) (show ((nI 1) + (nI (bln (xv >>> (5 &&& 31)) 9)) : Int32) = nI sg from (by rw [nI_add, hsg]))) ?_
    refine lv_istore (lv' := [(5, .int (nI sg)), (4, .int (nI wd)), (3, .int (nI nf)), (0, .ref x), (1, .ref z), (2, .int xv)]) hx hb dL_act_880 hl (by decide) rfl (fun ls hl => ?_)
    have join_907 : ∀ (ls : Array Slot) (hh : Nat) (hhb : 1 ≤ hh ∧ hh ≤ 24), lv_has ls 12 [(5, .int (nI sg)), (4, .int (nI wd)), (3, .int (nI nf)), (0, .ref x), (1, .ref z), (2, .int xv)] → W p l e (headSpec wsL_act2 ({ frames := 9, cells := 39860, slots := 76900, locals := 157 } : Room)).room s m args below meth c s.heap [] 0 0 QQ (F0 m 907 ls [.int (nI hh)]) := by
      intro ls hh hhb hl
      refine lv_istore (lv' := [(6, .int (nI hh)), (5, .int (nI sg)), (4, .int (nI wd)), (3, .int (nI nf)), (0, .ref x), (1, .ref z), (2, .int xv)]) hx hb dL_act_907 hl (by decide) rfl (fun ls hl => ?_)
      have hk0 : kBlow (nI wd) (nI sg) (nI hh) = 0 := kBlow_ok (by omega) (by omega) (by omega) hhb.1 hhb.2
      refine lv_aload_n hx hb dL_act_909 rfl (lv_at hl 4 rfl) ?_
      refine lv_iload hx hb dL_act_910 (lv_at hl 2 rfl) ?_
      refine lv_iload hx hb dL_act_912 (lv_at hl 1 rfl) ?_
      refine lv_iload hx hb dL_act_914 (lv_at hl 0 rfl) ?_
      refine z_xi J (z_yV (As := [.int (nI wd), .int (nI sg), .int (nI hh)]) (rest := []) (ci := 7) (q0 := 0) X hRz J (cX6_blow_ok l hflags E Fa0 Fa1 Fa4 Fa5 Fa8 Fa9 Fa10 hF hnf hok) (cwV 3 hts (goodIn_ext2 gL_act_X6_blow) rfl rfl rfl (by decide +kernel) ⟨Nat.le_of_ble_eq_true rfl, Nat.le_of_ble_eq_true rfl⟩) Fa0 rfl rfl rfl hl.1 rfl (Nat.le_of_ble_eq_true rfl) dL_act_916 ⟨by show _ ≤ 39860; omega, by show _ ≤ 76900; omega⟩) (fun nm ce q9 H locs hp9 J h1 h2 h3 => ?_) (fun r916 ws_1 H locs hp9 J => ?_)
      · exact False.elim (by rcases hp9 with h9 | h9 <;> exact absurd (h9.1.symm.trans hk0) (by decide))
      obtain ⟨k1, G1_a0, G1_a1, G1_a2, G1_a3, e_r916⟩ := hp9
      have hF := hF.keepS k1 (fun q9 hq9 => Or.inl (by simp only [List.mem_cons, rg_mem, List.not_mem_nil, or_false, not_or] at hq9; omega))
      have hR := hR.keepS k1 (fun q9 hq9 => Or.inl (by simp only [List.mem_cons, rg_mem, List.not_mem_nil, or_false, not_or] at hq9; omega))
      have hSN := hSN.keep k1 (fun r9 hr9 => by simp only [List.mem_cons, rg_mem, List.not_mem_nil, or_false, not_or]; omega)
      have hk := hk.step k1 (fun q9 a9 n9 f9 h8 h7 h9 => by simp only [List.mem_cons, rg_mem, List.not_mem_nil, or_false, not_or]; omega)
      have G1_1 := k1.2 1 _ (by decide) Fa1
      have G1_2 := k1.2 2 _ (by decide) Fa2
      have G1_3 := k1.2 3 _ (by decide) Fa3
      have G1_4 := k1.2 4 _ (by decide) Fa4
      have G1_6 := k1.2 6 _ (by decide) Fa6
      have G1_7 := k1.2 7 _ (by decide) Fa7
      have G1_8 := k1.2 8 _ (by decide) Fa8
      have G1_11 := k1.2 11 _ (by decide) Fa11
      have G1_12 := k1.2 14 _ (by decide) Fa12
      have G1_13 := k1.2 qf _ (by simp only [List.mem_cons, List.not_mem_nil, or_false]; omega) Fa13
      have G1_14 := k1.2 qr _ (by simp only [List.mem_cons, List.not_mem_nil, or_false]; omega) Fa14
      refine W.eq (g2 := F0 m 919 ls [.int ((hsS (nI sg) sup (hgS fa (-1) nf).1 (hgS fa (-1) nf).2 (nI wd) sn hh).1)]) (congrArg (fun z9 : Int32 => F0 m 919 ls [.int z9]) (show (r916 : Int32) = (hsS (nI sg) sup (hgS fa (-1) nf).1 (hgS fa (-1) nf).2 (nI wd) sn hh).1 from (by rw [e_r916.2, nI_clamp (by omega)]))) ?_
      refine lv_aload_n hx hb dL_act_919 rfl (lv_at hl 5 rfl) ?_
      refine lv_iload hx hb dL_act_920 (lv_at hl 2 rfl) ?_
      refine lv_iload hx hb dL_act_922 (lv_at hl 1 rfl) ?_
      refine lv_iload hx hb dL_act_924 (lv_at hl 0 rfl) ?_
      refine z_ci J (z_rV (As := [.int (nI wd), .int (nI sg), .int (nI hh)]) (rest := [.int ((hsS (nI sg) sup (hgS fa (-1) nf).1 (hgS fa (-1) nf).2 (nI wd) sn hh).1)]) (ci := 8) (q0 := 11) X J (cX7_blow_24_ok l E G1_11 G1_12 G1_13 hSN (hSE.keepI hk) (by omega) hok (nI_w4 (by omega)) hRB (nI_BI2 (lo := 1) (hi := 9) (by omega) (by omega) (by omega)) hu9 hhb.2) (cwV 3 hts (goodIn_ext2 gL_act_X7_blow) rfl rfl rfl (by decide +kernel) ⟨Nat.le_of_ble_eq_true rfl, Nat.le_of_ble_eq_true rfl⟩) G1_11 rfl rfl rfl hl.1 rfl (Nat.le_of_ble_eq_true rfl) dL_act_926 ⟨by show _ ≤ 39860; omega, by show _ ≤ 76900; omega⟩) (fun r926 ws_2 H locs hp9 J => ?_)
      obtain ⟨k2, G2_a0, hSN_2, e_r926⟩ := hp9
      have hF := hF.keepS k2 (fun q9 hq9 => Or.inl (by simp only [List.mem_cons, rg_mem, List.not_mem_nil, or_false, not_or] at hq9; omega))
      have hR := hR.keepS k2 (fun q9 hq9 => Or.inl (by simp only [List.mem_cons, rg_mem, List.not_mem_nil, or_false, not_or] at hq9; omega))
      have hSN := hSN_2
      have hk := hk.step k2 (fun q9 a9 n9 f9 h8 h7 h9 => by simp only [List.mem_cons, rg_mem, List.not_mem_nil, or_false, not_or]; omega)
      have G2_0 := k2.2 0 _ (by simp only [List.mem_cons, rg_mem, List.not_mem_nil, or_false, not_or]; omega) G1_a0
      have G2_1 := k2.2 1 _ (by simp only [List.mem_cons, rg_mem, List.not_mem_nil, or_false, not_or]; omega) G1_1
      have G2_2 := k2.2 2 _ (by simp only [List.mem_cons, rg_mem, List.not_mem_nil, or_false, not_or]; omega) G1_2
      have G2_3 := k2.2 3 _ (by simp only [List.mem_cons, rg_mem, List.not_mem_nil, or_false, not_or]; omega) G1_3
      have G2_4 := k2.2 4 _ (by simp only [List.mem_cons, rg_mem, List.not_mem_nil, or_false, not_or]; omega) G1_4
      have G2_5 := k2.2 5 _ (by simp only [List.mem_cons, rg_mem, List.not_mem_nil, or_false, not_or]; omega) G1_a1
      have G2_6 := k2.2 6 _ (by simp only [List.mem_cons, rg_mem, List.not_mem_nil, or_false, not_or]; omega) G1_6
      have G2_7 := k2.2 7 _ (by simp only [List.mem_cons, rg_mem, List.not_mem_nil, or_false, not_or]; omega) G1_7
      have G2_8 := k2.2 8 _ (by simp only [List.mem_cons, rg_mem, List.not_mem_nil, or_false, not_or]; omega) G1_8
      have G2_9 := k2.2 9 _ (by simp only [List.mem_cons, rg_mem, List.not_mem_nil, or_false, not_or]; omega) G1_a2
      have G2_10 := k2.2 10 _ (by simp only [List.mem_cons, rg_mem, List.not_mem_nil, or_false, not_or]; omega) G1_a3
      have G2_12 := k2.2 14 _ (by simp only [List.mem_cons, rg_mem, List.not_mem_nil, or_false, not_or]; omega) G1_12
      have G2_13 := k2.2 qf _ (by simp only [List.mem_cons, rg_mem, List.not_mem_nil, or_false, not_or]; omega) G1_13
      have G2_14 := k2.2 qr _ (by simp only [List.mem_cons, rg_mem, List.not_mem_nil, or_false, not_or]; omega) G1_14
      subst e_r926
      refine lv_icmp_ne (tgt := 936) hx hb dL_act_929 (by decide) (fun cz929 => by exact (cz929 rfl).elim) (fun cz929 => ?_)
      refine lv_iconst (v := 1) hx hb dL_act_932 (by decide) ?_
      refine lv_goto (tgt := 937) hx hb dL_act_933 (by decide) ?_
      refine W.widen (k := 39860) (n := 76900) (by omega) (by omega) ?_
      subst hQ
      exact W.zret (v := 1) hx hb hr rfl (fun t ht hW => ⟨⟨1, ws_2, rfl, ⟨hk, ⟨mc1, mc2, lim, sup, (off + (hsS (nI sg) sup (hgS fa (-1) nf).1 (hgS fa (-1) nf).2 (nI wd) sn hh).1), plo, (hrs + (nI hh)), ea, eb, nf, nr, fe, qf, ro, qr, fa, rd, ri, ((hsS (nI sg) sup (hgS fa (-1) nf).1 (hgS fa (-1) nf).2 (nI wd) sn hh).2.1), t9, ((hgS fa (-1) nf).1), ((hgS fa (-1) nf).2), g, gq, (by have h9 := G2_0; rw [nI_clamp (show hh < 2 ^ 31 by omega)] at h9; exact h9), G2_1, G2_2, G2_3, G2_4, (by have h9 := G2_5; rw [nI_clamp (show hh < 2 ^ 31 by omega)] at h9; exact h9), G2_6, G2_7, G2_8, G2_9, G2_10, G2_a0, G2_12, G2_13, G2_14, ⟨by omega, by omega⟩, hF, hR, hSep, (hSE.keepI hk), (hSR.keepI hk), hSN, hnf, hnr, hok, hor, (hsS_I (nI_BI2 (lo := 1) (hi := 9) (by omega) (by omega) (by omega)) hu9 hhR hRB hh), hu9, hlm, (Nat.le_trans hln hk.1)⟩, rfl⟩, J.I X ht hW.alike⟩, J.F ht⟩) J.locs dL_act_937
    refine lv_iconst (v := nI 1) hx hb dL_act_882 rfl ?_
    refine lv_iload_n hx hb dL_act_883 rfl (lv_at hl 5 rfl) ?_
    refine lv_bipush (v := 7) hx hb dL_act_884 (by decide) ?_
    refine lv_ishr hx hb dL_act_886 ?_
    refine lv_iload_n hx hb dL_act_887 rfl (lv_at hl 5 rfl) ?_
    refine lv_iconst (v := 4) hx hb dL_act_888 (by decide) ?_
    refine lv_ishr hx hb dL_act_889 ?_
    refine lv_iconst (v := nI 4) hx hb dL_act_890 rfl ?_
    refine z_cr (z_rS (As := [.int (xv >>> (4 &&& 31)), .int (nI 4)]) (rest := [.int (xv >>> (7 &&& 31)), .int (nI 1)]) X J (cL_below_ok l E (by first | assumption | omega | decide) (by first | assumption | omega | decide)) (va_cwS 2 hts (goodIn_ext2 gL_act_L_below) rfl rfl rfl (by decide +kernel) ⟨Nat.le_of_ble_eq_true rfl, Nat.le_of_ble_eq_true rfl⟩) rfl hl.1 rfl (Nat.le_of_ble_eq_true rfl) dL_act_891 ⟨Nat.le_of_ble_eq_true rfl, Nat.le_of_ble_eq_true rfl⟩) (fun r891 e_r891 => ?_)
    subst e_r891
    refine lv_if_ne (tgt := 902) hx hb dL_act_894 (by decide) (fun cz894 => ?_) (fun cz894 => ?_)
    · refine lv_iconst (v := nI 4) hx hb dL_act_902 rfl ?_
      refine z_cr (z_rS (As := [.int (xv >>> (7 &&& 31)), .int (nI 4)]) (rest := [.int (nI 1)]) X J (cL_below_ok l E (by first | assumption | omega | decide) (by first | assumption | omega | decide)) (va_cwS 2 hts (goodIn_ext2 gL_act_L_below) rfl rfl rfl (by decide +kernel) ⟨Nat.le_of_ble_eq_true rfl, Nat.le_of_ble_eq_true rfl⟩) rfl hl.1 rfl (Nat.le_of_ble_eq_true rfl) dL_act_903 ⟨Nat.le_of_ble_eq_true rfl, Nat.le_of_ble_eq_true rfl⟩) (fun r903 e_r903 => ?_)
      subst e_r903
      obtain ⟨h5, hh5⟩ : ∃ q9 : Nat, q9 = 1 + bln (xv >>> (7 &&& 31)) 4 := ⟨_, rfl⟩
      have bh5 := bln_lt (v := xv >>> (7 &&& 31)) (n := 4) (by decide)
      refine lv_iadd hx hb dL_act_906 ?_
      refine W.eq (g2 := F0 m 907 ls [.int (nI h5)]) (congrArg (fun z9 : Int32 => F0 m 907 ls [.int z9]) (show ((nI 1) + (nI (bln (xv >>> (7 &&& 31)) 4)) : Int32) = nI h5 from (by rw [nI_add, hh5]))) ?_
      exact join_907 _ h5 (⟨by omega, by omega⟩) (lv_sub hl [0, 1, 2, 3, 4, 5] rfl)
    · refine lv_bipush (v := nI 24) hx hb dL_act_897 (by decide) ?_
      refine lv_goto (tgt := 903) hx hb dL_act_899 (by decide) ?_
      refine z_cr (z_rS (As := [.int (xv >>> (7 &&& 31)), .int (nI 24)]) (rest := [.int (nI 1)]) X J (cL_below_ok l E (by first | assumption | omega | decide) (by first | assumption | omega | decide)) (va_cwS 2 hts (goodIn_ext2 gL_act_L_below) rfl rfl rfl (by decide +kernel) ⟨Nat.le_of_ble_eq_true rfl, Nat.le_of_ble_eq_true rfl⟩) rfl hl.1 rfl (Nat.le_of_ble_eq_true rfl) dL_act_903 ⟨Nat.le_of_ble_eq_true rfl, Nat.le_of_ble_eq_true rfl⟩) (fun r903 e_r903 => ?_)
      subst e_r903
      obtain ⟨h5, hh5⟩ : ∃ q9 : Nat, q9 = 1 + bln (xv >>> (7 &&& 31)) 24 := ⟨_, rfl⟩
      have bh5 := bln_lt (v := xv >>> (7 &&& 31)) (n := 24) (by decide)
      refine lv_iadd hx hb dL_act_906 ?_
      refine W.eq (g2 := F0 m 907 ls [.int (nI h5)]) (congrArg (fun z9 : Int32 => F0 m 907 ls [.int z9]) (show ((nI 1) + (nI (bln (xv >>> (7 &&& 31)) 24)) : Int32) = nI h5 from (by rw [nI_add, hh5]))) ?_
      exact join_907 _ h5 (⟨by omega, by omega⟩) (lv_sub hl [0, 1, 2, 3, 4, 5] rfl)
  rcases hkk with rfl | rfl
  · refine W.eq (g2 := F0 m 12 ls [.int 11]) (congrArg (fun z9 : Int32 => F0 m 12 ls [.int z9]) (show (nI 11 : Int32) = 11 from rfl)) ?_
    have join_861 : ∀ (ls : Array Slot), lv_has ls 12 [(3, .int (nI nf)), (0, .ref x), (1, .ref z), (2, .int xv)] → W p l e (headSpec wsL_act2 ({ frames := 9, cells := 39860, slots := 76900, locals := 157 } : Room)).room s m args below meth c s.heap [] 0 0 QQ (F0 m 861 ls []) := by
      intro ls hl
      refine lv_iload_n hx hb dL_act_861 rfl (lv_at hl 3 rfl) ?_
      refine lv_iconst (v := 3) hx hb dL_act_862 (by decide) ?_
      refine lv_ishr hx hb dL_act_863 ?_
      refine lv_iconst (v := nI 4) hx hb dL_act_864 rfl ?_
      obtain ⟨wd, hwd⟩ : ∃ q9 : Nat, q9 = bln (xv >>> (3 &&& 31)) (4) := ⟨_, rfl⟩
      have bwd := bln_lt (v := xv >>> (3 &&& 31)) (n := 4) (by omega)
      refine z_cr (z_rS (As := [.int (xv >>> (3 &&& 31)), .int (nI 4)]) (rest := []) X J (cL_below_ok l E (by first | assumption | omega | decide) (by first | assumption | omega | decide)) (va_cwS 2 hts (goodIn_ext2 gL_act_L_below) rfl rfl rfl (by decide +kernel) ⟨Nat.le_of_ble_eq_true rfl, Nat.le_of_ble_eq_true rfl⟩) rfl hl.1 rfl (Nat.le_of_ble_eq_true rfl) dL_act_865 ⟨Nat.le_of_ble_eq_true rfl, Nat.le_of_ble_eq_true rfl⟩) (fun r865 e_r865 => ?_)
      subst e_r865
      refine W.eq (g2 := F0 m 868 ls [.int (nI wd)]) (congrArg (fun z9 : Int32 => F0 m 868 ls [.int z9]) (show (nI (bln (xv >>> (3 &&& 31)) 4) : Int32) = nI wd from (by rw [hwd]))) ?_
      refine lv_istore (lv' := [(4, .int (nI wd)), (3, .int (nI nf)), (0, .ref x), (1, .ref z), (2, .int xv)]) hx hb dL_act_868 hl (by decide) rfl (fun ls hl => ?_)
      refine lv_iconst (v := nI 1) hx hb dL_act_870 rfl ?_
      refine lv_iload_n hx hb dL_act_871 rfl (lv_at hl 4 rfl) ?_
      refine lv_iconst (v := 5) hx hb dL_act_872 (by decide) ?_
      refine lv_ishr hx hb dL_act_873 ?_
      refine lv_bipush (v := nI 9) hx hb dL_act_874 (by decide) ?_
      refine z_cr (z_rS (As := [.int (xv >>> (5 &&& 31)), .int (nI 9)]) (rest := [.int (nI 1)]) X J (cL_below_ok l E (by first | assumption | omega | decide) (by first | assumption | omega | decide)) (va_cwS 2 hts (goodIn_ext2 gL_act_L_below) rfl rfl rfl (by decide +kernel) ⟨Nat.le_of_ble_eq_true rfl, Nat.le_of_ble_eq_true rfl⟩) rfl hl.1 rfl (Nat.le_of_ble_eq_true rfl) dL_act_876 ⟨Nat.le_of_ble_eq_true rfl, Nat.le_of_ble_eq_true rfl⟩) (fun r876 e_r876 => ?_)
      subst e_r876
      obtain ⟨sg, hsg⟩ : ∃ q9 : Nat, q9 = 1 + bln (xv >>> (5 &&& 31)) 9 := ⟨_, rfl⟩
      have bsg := bln_lt (v := xv >>> (5 &&& 31)) (n := 9) (by decide)
      refine lv_iadd hx hb dL_act_879 ?_
      refine W.eq (g2 := F0 m 880 ls [.int (nI sg)]) (congrArg (fun z9 : Int32 => F0 m 880 ls [.int z9]) (show ((nI 1) + (nI (bln (xv >>> (5 &&& 31)) 9)) : Int32) = nI sg from (by rw [nI_add, hsg]))) ?_
      refine lv_istore (lv' := [(5, .int (nI sg)), (4, .int (nI wd)), (3, .int (nI nf)), (0, .ref x), (1, .ref z), (2, .int xv)]) hx hb dL_act_880 hl (by decide) rfl (fun ls hl => ?_)
      have join_907 : ∀ (ls : Array Slot) (hh : Nat) (hhb : 1 ≤ hh ∧ hh ≤ 24), lv_has ls 12 [(5, .int (nI sg)), (4, .int (nI wd)), (3, .int (nI nf)), (0, .ref x), (1, .ref z), (2, .int xv)] → W p l e (headSpec wsL_act2 ({ frames := 9, cells := 39860, slots := 76900, locals := 157 } : Room)).room s m args below meth c s.heap [] 0 0 QQ (F0 m 907 ls [.int (nI hh)]) := by
        intro ls hh hhb hl
        refine lv_istore (lv' := [(6, .int (nI hh)), (5, .int (nI sg)), (4, .int (nI wd)), (3, .int (nI nf)), (0, .ref x), (1, .ref z), (2, .int xv)]) hx hb dL_act_907 hl (by decide) rfl (fun ls hl => ?_)
        have hk0 : kBlow (nI wd) (nI sg) (nI hh) = 0 := kBlow_ok (by omega) (by omega) (by omega) hhb.1 hhb.2
        refine lv_aload_n hx hb dL_act_909 rfl (lv_at hl 4 rfl) ?_
        refine lv_iload hx hb dL_act_910 (lv_at hl 2 rfl) ?_
        refine lv_iload hx hb dL_act_912 (lv_at hl 1 rfl) ?_
        refine lv_iload hx hb dL_act_914 (lv_at hl 0 rfl) ?_
        refine z_xi J (z_yV (As := [.int (nI wd), .int (nI sg), .int (nI hh)]) (rest := []) (ci := 7) (q0 := 0) X hRz J (cX6_blow_ok l hflags E Fa0 Fa1 Fa4 Fa5 Fa8 Fa9 Fa10 hF hnf hok) (cwV 3 hts (goodIn_ext2 gL_act_X6_blow) rfl rfl rfl (by decide +kernel) ⟨Nat.le_of_ble_eq_true rfl, Nat.le_of_ble_eq_true rfl⟩) Fa0 rfl rfl rfl hl.1 rfl (Nat.le_of_ble_eq_true rfl) dL_act_916 ⟨by show _ ≤ 39860; omega, by show _ ≤ 76900; omega⟩) (fun nm ce q9 H locs hp9 J h1 h2 h3 => ?_) (fun r916 ws_1 H locs hp9 J => ?_)
        · exact False.elim (by rcases hp9 with h9 | h9 <;> exact absurd (h9.1.symm.trans hk0) (by decide))
        obtain ⟨k1, G1_a0, G1_a1, G1_a2, G1_a3, e_r916⟩ := hp9
        have hF := hF.keepS k1 (fun q9 hq9 => Or.inl (by simp only [List.mem_cons, rg_mem, List.not_mem_nil, or_false, not_or] at hq9; omega))
        have hR := hR.keepS k1 (fun q9 hq9 => Or.inl (by simp only [List.mem_cons, rg_mem, List.not_mem_nil, or_false, not_or] at hq9; omega))
        have hSN := hSN.keep k1 (fun r9 hr9 => by simp only [List.mem_cons, rg_mem, List.not_mem_nil, or_false, not_or]; omega)
        have hk := hk.step k1 (fun q9 a9 n9 f9 h8 h7 h9 => by simp only [List.mem_cons, rg_mem, List.not_mem_nil, or_false, not_or]; omega)
        have G1_1 := k1.2 1 _ (by decide) Fa1
        have G1_2 := k1.2 2 _ (by decide) Fa2
        have G1_3 := k1.2 3 _ (by decide) Fa3
        have G1_4 := k1.2 4 _ (by decide) Fa4
        have G1_6 := k1.2 6 _ (by decide) Fa6
        have G1_7 := k1.2 7 _ (by decide) Fa7
        have G1_8 := k1.2 8 _ (by decide) Fa8
        have G1_11 := k1.2 11 _ (by decide) Fa11
        have G1_12 := k1.2 14 _ (by decide) Fa12
        have G1_13 := k1.2 qf _ (by simp only [List.mem_cons, List.not_mem_nil, or_false]; omega) Fa13
        have G1_14 := k1.2 qr _ (by simp only [List.mem_cons, List.not_mem_nil, or_false]; omega) Fa14
        refine W.eq (g2 := F0 m 919 ls [.int ((hsS (nI sg) sup (hgS fa (-1) nf).1 (hgS fa (-1) nf).2 (nI wd) sn hh).1)]) (congrArg (fun z9 : Int32 => F0 m 919 ls [.int z9]) (show (r916 : Int32) = (hsS (nI sg) sup (hgS fa (-1) nf).1 (hgS fa (-1) nf).2 (nI wd) sn hh).1 from (by rw [e_r916.2, nI_clamp (by omega)]))) ?_
        refine lv_aload_n hx hb dL_act_919 rfl (lv_at hl 5 rfl) ?_
        refine lv_iload hx hb dL_act_920 (lv_at hl 2 rfl) ?_
        refine lv_iload hx hb dL_act_922 (lv_at hl 1 rfl) ?_
        refine lv_iload hx hb dL_act_924 (lv_at hl 0 rfl) ?_
        refine z_ci J (z_rV (As := [.int (nI wd), .int (nI sg), .int (nI hh)]) (rest := [.int ((hsS (nI sg) sup (hgS fa (-1) nf).1 (hgS fa (-1) nf).2 (nI wd) sn hh).1)]) (ci := 8) (q0 := 11) X J (cX7_blow_24_ok l E G1_11 G1_12 G1_13 hSN (hSE.keepI hk) (by omega) hok (nI_w4 (by omega)) hRB (nI_BI2 (lo := 1) (hi := 9) (by omega) (by omega) (by omega)) hu9 hhb.2) (cwV 3 hts (goodIn_ext2 gL_act_X7_blow) rfl rfl rfl (by decide +kernel) ⟨Nat.le_of_ble_eq_true rfl, Nat.le_of_ble_eq_true rfl⟩) G1_11 rfl rfl rfl hl.1 rfl (Nat.le_of_ble_eq_true rfl) dL_act_926 ⟨by show _ ≤ 39860; omega, by show _ ≤ 76900; omega⟩) (fun r926 ws_2 H locs hp9 J => ?_)
        obtain ⟨k2, G2_a0, hSN_2, e_r926⟩ := hp9
        have hF := hF.keepS k2 (fun q9 hq9 => Or.inl (by simp only [List.mem_cons, rg_mem, List.not_mem_nil, or_false, not_or] at hq9; omega))
        have hR := hR.keepS k2 (fun q9 hq9 => Or.inl (by simp only [List.mem_cons, rg_mem, List.not_mem_nil, or_false, not_or] at hq9; omega))
        have hSN := hSN_2
        have hk := hk.step k2 (fun q9 a9 n9 f9 h8 h7 h9 => by simp only [List.mem_cons, rg_mem, List.not_mem_nil, or_false, not_or]; omega)
        have G2_0 := k2.2 0 _ (by simp only [List.mem_cons, rg_mem, List.not_mem_nil, or_false, not_or]; omega) G1_a0
        have G2_1 := k2.2 1 _ (by simp only [List.mem_cons, rg_mem, List.not_mem_nil, or_false, not_or]; omega) G1_1
        have G2_2 := k2.2 2 _ (by simp only [List.mem_cons, rg_mem, List.not_mem_nil, or_false, not_or]; omega) G1_2
        have G2_3 := k2.2 3 _ (by simp only [List.mem_cons, rg_mem, List.not_mem_nil, or_false, not_or]; omega) G1_3
        have G2_4 := k2.2 4 _ (by simp only [List.mem_cons, rg_mem, List.not_mem_nil, or_false, not_or]; omega) G1_4
        have G2_5 := k2.2 5 _ (by simp only [List.mem_cons, rg_mem, List.not_mem_nil, or_false, not_or]; omega) G1_a1
        have G2_6 := k2.2 6 _ (by simp only [List.mem_cons, rg_mem, List.not_mem_nil, or_false, not_or]; omega) G1_6
        have G2_7 := k2.2 7 _ (by simp only [List.mem_cons, rg_mem, List.not_mem_nil, or_false, not_or]; omega) G1_7
        have G2_8 := k2.2 8 _ (by simp only [List.mem_cons, rg_mem, List.not_mem_nil, or_false, not_or]; omega) G1_8
        have G2_9 := k2.2 9 _ (by simp only [List.mem_cons, rg_mem, List.not_mem_nil, or_false, not_or]; omega) G1_a2
        have G2_10 := k2.2 10 _ (by simp only [List.mem_cons, rg_mem, List.not_mem_nil, or_false, not_or]; omega) G1_a3
        have G2_12 := k2.2 14 _ (by simp only [List.mem_cons, rg_mem, List.not_mem_nil, or_false, not_or]; omega) G1_12
        have G2_13 := k2.2 qf _ (by simp only [List.mem_cons, rg_mem, List.not_mem_nil, or_false, not_or]; omega) G1_13
        have G2_14 := k2.2 qr _ (by simp only [List.mem_cons, rg_mem, List.not_mem_nil, or_false, not_or]; omega) G1_14
        subst e_r926
        refine lv_icmp_ne (tgt := 936) hx hb dL_act_929 (by decide) (fun cz929 => by exact (cz929 rfl).elim) (fun cz929 => ?_)
        refine lv_iconst (v := 1) hx hb dL_act_932 (by decide) ?_
        refine lv_goto (tgt := 937) hx hb dL_act_933 (by decide) ?_
        refine W.widen (k := 39860) (n := 76900) (by omega) (by omega) ?_
        subst hQ
        exact W.zret (v := 1) hx hb hr rfl (fun t ht hW => ⟨⟨1, ws_2, rfl, ⟨hk, ⟨mc1, mc2, lim, sup, (off + (hsS (nI sg) sup (hgS fa (-1) nf).1 (hgS fa (-1) nf).2 (nI wd) sn hh).1), plo, (hrs + (nI hh)), ea, eb, nf, nr, fe, qf, ro, qr, fa, rd, ri, ((hsS (nI sg) sup (hgS fa (-1) nf).1 (hgS fa (-1) nf).2 (nI wd) sn hh).2.1), t9, ((hgS fa (-1) nf).1), ((hgS fa (-1) nf).2), g, gq, (by have h9 := G2_0; rw [nI_clamp (show hh < 2 ^ 31 by omega)] at h9; exact h9), G2_1, G2_2, G2_3, G2_4, (by have h9 := G2_5; rw [nI_clamp (show hh < 2 ^ 31 by omega)] at h9; exact h9), G2_6, G2_7, G2_8, G2_9, G2_10, G2_a0, G2_12, G2_13, G2_14, ⟨by omega, by omega⟩, hF, hR, hSep, (hSE.keepI hk), (hSR.keepI hk), hSN, hnf, hnr, hok, hor, (hsS_I (nI_BI2 (lo := 1) (hi := 9) (by omega) (by omega) (by omega)) hu9 hhR hRB hh), hu9, hlm, (Nat.le_trans hln hk.1)⟩, rfl⟩, J.I X ht hW.alike⟩, J.F ht⟩) J.locs dL_act_937
      refine lv_iconst (v := nI 1) hx hb dL_act_882 rfl ?_
      refine lv_iload_n hx hb dL_act_883 rfl (lv_at hl 5 rfl) ?_
      refine lv_bipush (v := 7) hx hb dL_act_884 (by decide) ?_
      refine lv_ishr hx hb dL_act_886 ?_
      refine lv_iload_n hx hb dL_act_887 rfl (lv_at hl 5 rfl) ?_
      refine lv_iconst (v := 4) hx hb dL_act_888 (by decide) ?_
      refine lv_ishr hx hb dL_act_889 ?_
      refine lv_iconst (v := nI 4) hx hb dL_act_890 rfl ?_
      refine z_cr (z_rS (As := [.int (xv >>> (4 &&& 31)), .int (nI 4)]) (rest := [.int (xv >>> (7 &&& 31)), .int (nI 1)]) X J (cL_below_ok l E (by first | assumption | omega | decide) (by first | assumption | omega | decide)) (va_cwS 2 hts (goodIn_ext2 gL_act_L_below) rfl rfl rfl (by decide +kernel) ⟨Nat.le_of_ble_eq_true rfl, Nat.le_of_ble_eq_true rfl⟩) rfl hl.1 rfl (Nat.le_of_ble_eq_true rfl) dL_act_891 ⟨Nat.le_of_ble_eq_true rfl, Nat.le_of_ble_eq_true rfl⟩) (fun r891 e_r891 => ?_)
      subst e_r891
      refine lv_if_ne (tgt := 902) hx hb dL_act_894 (by decide) (fun cz894 => ?_) (fun cz894 => ?_)
      · refine lv_iconst (v := nI 4) hx hb dL_act_902 rfl ?_
        refine z_cr (z_rS (As := [.int (xv >>> (7 &&& 31)), .int (nI 4)]) (rest := [.int (nI 1)]) X J (cL_below_ok l E (by first | assumption | omega | decide) (by first | assumption | omega | decide)) (va_cwS 2 hts (goodIn_ext2 gL_act_L_below) rfl rfl rfl (by decide +kernel) ⟨Nat.le_of_ble_eq_true rfl, Nat.le_of_ble_eq_true rfl⟩) rfl hl.1 rfl (Nat.le_of_ble_eq_true rfl) dL_act_903 ⟨Nat.le_of_ble_eq_true rfl, Nat.le_of_ble_eq_true rfl⟩) (fun r903 e_r903 => ?_)
        subst e_r903
        obtain ⟨h5, hh5⟩ : ∃ q9 : Nat, q9 = 1 + bln (xv >>> (7 &&& 31)) 4 := ⟨_, rfl⟩
        have bh5 := bln_lt (v := xv >>> (7 &&& 31)) (n := 4) (by decide)
        refine lv_iadd hx hb dL_act_906 ?_
        refine W.eq (g2 := F0 m 907 ls [.int (nI h5)]) (congrArg (fun z9 : Int32 => F0 m 907 ls [.int z9]) (show ((nI 1) + (nI (bln (xv >>> (7 &&& 31)) 4)) : Int32) = nI h5 from (by rw [nI_add, hh5]))) ?_
        exact join_907 _ h5 (⟨by omega, by omega⟩) (lv_sub hl [0, 1, 2, 3, 4, 5] rfl)
      · refine lv_bipush (v := nI 24) hx hb dL_act_897 (by decide) ?_
        refine lv_goto (tgt := 903) hx hb dL_act_899 (by decide) ?_
        refine z_cr (z_rS (As := [.int (xv >>> (7 &&& 31)), .int (nI 24)]) (rest := [.int (nI 1)]) X J (cL_below_ok l E (by first | assumption | omega | decide) (by first | assumption | omega | decide)) (va_cwS 2 hts (goodIn_ext2 gL_act_L_below) rfl rfl rfl (by decide +kernel) ⟨Nat.le_of_ble_eq_true rfl, Nat.le_of_ble_eq_true rfl⟩) rfl hl.1 rfl (Nat.le_of_ble_eq_true rfl) dL_act_903 ⟨Nat.le_of_ble_eq_true rfl, Nat.le_of_ble_eq_true rfl⟩) (fun r903 e_r903 => ?_)
        subst e_r903
        obtain ⟨h5, hh5⟩ : ∃ q9 : Nat, q9 = 1 + bln (xv >>> (7 &&& 31)) 24 := ⟨_, rfl⟩
        have bh5 := bln_lt (v := xv >>> (7 &&& 31)) (n := 24) (by decide)
        refine lv_iadd hx hb dL_act_906 ?_
        refine W.eq (g2 := F0 m 907 ls [.int (nI h5)]) (congrArg (fun z9 : Int32 => F0 m 907 ls [.int z9]) (show ((nI 1) + (nI (bln (xv >>> (7 &&& 31)) 24)) : Int32) = nI h5 from (by rw [nI_add, hh5]))) ?_
        exact join_907 _ h5 (⟨by omega, by omega⟩) (lv_sub hl [0, 1, 2, 3, 4, 5] rfl)
    refine lv_tableOut (tgt := 861) hx hb dL_act_12 (by decide) (by decide) ?_
    exact join_861 _ (lv_sub hl [0, 1, 2, 3] rfl)
  · refine W.eq (g2 := F0 m 12 ls [.int 12]) (congrArg (fun z9 : Int32 => F0 m 12 ls [.int z9]) (show (nI 12 : Int32) = 12 from rfl)) ?_
    have join_861 : ∀ (ls : Array Slot), lv_has ls 12 [(3, .int (nI nf)), (0, .ref x), (1, .ref z), (2, .int xv)] → W p l e (headSpec wsL_act2 ({ frames := 9, cells := 39860, slots := 76900, locals := 157 } : Room)).room s m args below meth c s.heap [] 0 0 QQ (F0 m 861 ls []) := by
      intro ls hl
      refine lv_iload_n hx hb dL_act_861 rfl (lv_at hl 3 rfl) ?_
      refine lv_iconst (v := 3) hx hb dL_act_862 (by decide) ?_
      refine lv_ishr hx hb dL_act_863 ?_
      refine lv_iconst (v := nI 4) hx hb dL_act_864 rfl ?_
      obtain ⟨wd, hwd⟩ : ∃ q9 : Nat, q9 = bln (xv >>> (3 &&& 31)) (4) := ⟨_, rfl⟩
      have bwd := bln_lt (v := xv >>> (3 &&& 31)) (n := 4) (by omega)
      refine z_cr (z_rS (As := [.int (xv >>> (3 &&& 31)), .int (nI 4)]) (rest := []) X J (cL_below_ok l E (by first | assumption | omega | decide) (by first | assumption | omega | decide)) (va_cwS 2 hts (goodIn_ext2 gL_act_L_below) rfl rfl rfl (by decide +kernel) ⟨Nat.le_of_ble_eq_true rfl, Nat.le_of_ble_eq_true rfl⟩) rfl hl.1 rfl (Nat.le_of_ble_eq_true rfl) dL_act_865 ⟨Nat.le_of_ble_eq_true rfl, Nat.le_of_ble_eq_true rfl⟩) (fun r865 e_r865 => ?_)
      subst e_r865
      refine W.eq (g2 := F0 m 868 ls [.int (nI wd)]) (congrArg (fun z9 : Int32 => F0 m 868 ls [.int z9]) (show (nI (bln (xv >>> (3 &&& 31)) 4) : Int32) = nI wd from (by rw [hwd]))) ?_
      refine lv_istore (lv' := [(4, .int (nI wd)), (3, .int (nI nf)), (0, .ref x), (1, .ref z), (2, .int xv)]) hx hb dL_act_868 hl (by decide) rfl (fun ls hl => ?_)
      refine lv_iconst (v := nI 1) hx hb dL_act_870 rfl ?_
      refine lv_iload_n hx hb dL_act_871 rfl (lv_at hl 4 rfl) ?_
      refine lv_iconst (v := 5) hx hb dL_act_872 (by decide) ?_
      refine lv_ishr hx hb dL_act_873 ?_
      refine lv_bipush (v := nI 9) hx hb dL_act_874 (by decide) ?_
      refine z_cr (z_rS (As := [.int (xv >>> (5 &&& 31)), .int (nI 9)]) (rest := [.int (nI 1)]) X J (cL_below_ok l E (by first | assumption | omega | decide) (by first | assumption | omega | decide)) (va_cwS 2 hts (goodIn_ext2 gL_act_L_below) rfl rfl rfl (by decide +kernel) ⟨Nat.le_of_ble_eq_true rfl, Nat.le_of_ble_eq_true rfl⟩) rfl hl.1 rfl (Nat.le_of_ble_eq_true rfl) dL_act_876 ⟨Nat.le_of_ble_eq_true rfl, Nat.le_of_ble_eq_true rfl⟩) (fun r876 e_r876 => ?_)
      subst e_r876
      obtain ⟨sg, hsg⟩ : ∃ q9 : Nat, q9 = 1 + bln (xv >>> (5 &&& 31)) 9 := ⟨_, rfl⟩
      have bsg := bln_lt (v := xv >>> (5 &&& 31)) (n := 9) (by decide)
      refine lv_iadd hx hb dL_act_879 ?_
      refine W.eq (g2 := F0 m 880 ls [.int (nI sg)]) (congrArg (fun z9 : Int32 => F0 m 880 ls [.int z9]) (show ((nI 1) + (nI (bln (xv >>> (5 &&& 31)) 9)) : Int32) = nI sg from (by rw [nI_add, hsg]))) ?_
      refine lv_istore (lv' := [(5, .int (nI sg)), (4, .int (nI wd)), (3, .int (nI nf)), (0, .ref x), (1, .ref z), (2, .int xv)]) hx hb dL_act_880 hl (by decide) rfl (fun ls hl => ?_)
      have join_907 : ∀ (ls : Array Slot) (hh : Nat) (hhb : 1 ≤ hh ∧ hh ≤ 24), lv_has ls 12 [(5, .int (nI sg)), (4, .int (nI wd)), (3, .int (nI nf)), (0, .ref x), (1, .ref z), (2, .int xv)] → W p l e (headSpec wsL_act2 ({ frames := 9, cells := 39860, slots := 76900, locals := 157 } : Room)).room s m args below meth c s.heap [] 0 0 QQ (F0 m 907 ls [.int (nI hh)]) := by
        intro ls hh hhb hl
        refine lv_istore (lv' := [(6, .int (nI hh)), (5, .int (nI sg)), (4, .int (nI wd)), (3, .int (nI nf)), (0, .ref x), (1, .ref z), (2, .int xv)]) hx hb dL_act_907 hl (by decide) rfl (fun ls hl => ?_)
        have hk0 : kBlow (nI wd) (nI sg) (nI hh) = 0 := kBlow_ok (by omega) (by omega) (by omega) hhb.1 hhb.2
        refine lv_aload_n hx hb dL_act_909 rfl (lv_at hl 4 rfl) ?_
        refine lv_iload hx hb dL_act_910 (lv_at hl 2 rfl) ?_
        refine lv_iload hx hb dL_act_912 (lv_at hl 1 rfl) ?_
        refine lv_iload hx hb dL_act_914 (lv_at hl 0 rfl) ?_
        refine z_xi J (z_yV (As := [.int (nI wd), .int (nI sg), .int (nI hh)]) (rest := []) (ci := 7) (q0 := 0) X hRz J (cX6_blow_ok l hflags E Fa0 Fa1 Fa4 Fa5 Fa8 Fa9 Fa10 hF hnf hok) (cwV 3 hts (goodIn_ext2 gL_act_X6_blow) rfl rfl rfl (by decide +kernel) ⟨Nat.le_of_ble_eq_true rfl, Nat.le_of_ble_eq_true rfl⟩) Fa0 rfl rfl rfl hl.1 rfl (Nat.le_of_ble_eq_true rfl) dL_act_916 ⟨by show _ ≤ 39860; omega, by show _ ≤ 76900; omega⟩) (fun nm ce q9 H locs hp9 J h1 h2 h3 => ?_) (fun r916 ws_1 H locs hp9 J => ?_)
        · exact False.elim (by rcases hp9 with h9 | h9 <;> exact absurd (h9.1.symm.trans hk0) (by decide))
        obtain ⟨k1, G1_a0, G1_a1, G1_a2, G1_a3, e_r916⟩ := hp9
        have hF := hF.keepS k1 (fun q9 hq9 => Or.inl (by simp only [List.mem_cons, rg_mem, List.not_mem_nil, or_false, not_or] at hq9; omega))
        have hR := hR.keepS k1 (fun q9 hq9 => Or.inl (by simp only [List.mem_cons, rg_mem, List.not_mem_nil, or_false, not_or] at hq9; omega))
        have hSN := hSN.keep k1 (fun r9 hr9 => by simp only [List.mem_cons, rg_mem, List.not_mem_nil, or_false, not_or]; omega)
        have hk := hk.step k1 (fun q9 a9 n9 f9 h8 h7 h9 => by simp only [List.mem_cons, rg_mem, List.not_mem_nil, or_false, not_or]; omega)
        have G1_1 := k1.2 1 _ (by decide) Fa1
        have G1_2 := k1.2 2 _ (by decide) Fa2
        have G1_3 := k1.2 3 _ (by decide) Fa3
        have G1_4 := k1.2 4 _ (by decide) Fa4
        have G1_6 := k1.2 6 _ (by decide) Fa6
        have G1_7 := k1.2 7 _ (by decide) Fa7
        have G1_8 := k1.2 8 _ (by decide) Fa8
        have G1_11 := k1.2 11 _ (by decide) Fa11
        have G1_12 := k1.2 14 _ (by decide) Fa12
        have G1_13 := k1.2 qf _ (by simp only [List.mem_cons, List.not_mem_nil, or_false]; omega) Fa13
        have G1_14 := k1.2 qr _ (by simp only [List.mem_cons, List.not_mem_nil, or_false]; omega) Fa14
        refine W.eq (g2 := F0 m 919 ls [.int ((hsS (nI sg) sup (hgS fa (-1) nf).1 (hgS fa (-1) nf).2 (nI wd) sn hh).1)]) (congrArg (fun z9 : Int32 => F0 m 919 ls [.int z9]) (show (r916 : Int32) = (hsS (nI sg) sup (hgS fa (-1) nf).1 (hgS fa (-1) nf).2 (nI wd) sn hh).1 from (by rw [e_r916.2, nI_clamp (by omega)]))) ?_
        refine lv_aload_n hx hb dL_act_919 rfl (lv_at hl 5 rfl) ?_
        refine lv_iload hx hb dL_act_920 (lv_at hl 2 rfl) ?_
        refine lv_iload hx hb dL_act_922 (lv_at hl 1 rfl) ?_
        refine lv_iload hx hb dL_act_924 (lv_at hl 0 rfl) ?_
        refine z_ci J (z_rV (As := [.int (nI wd), .int (nI sg), .int (nI hh)]) (rest := [.int ((hsS (nI sg) sup (hgS fa (-1) nf).1 (hgS fa (-1) nf).2 (nI wd) sn hh).1)]) (ci := 8) (q0 := 11) X J (cX7_blow_24_ok l E G1_11 G1_12 G1_13 hSN (hSE.keepI hk) (by omega) hok (nI_w4 (by omega)) hRB (nI_BI2 (lo := 1) (hi := 9) (by omega) (by omega) (by omega)) hu9 hhb.2) (cwV 3 hts (goodIn_ext2 gL_act_X7_blow) rfl rfl rfl (by decide +kernel) ⟨Nat.le_of_ble_eq_true rfl, Nat.le_of_ble_eq_true rfl⟩) G1_11 rfl rfl rfl hl.1 rfl (Nat.le_of_ble_eq_true rfl) dL_act_926 ⟨by show _ ≤ 39860; omega, by show _ ≤ 76900; omega⟩) (fun r926 ws_2 H locs hp9 J => ?_)
        obtain ⟨k2, G2_a0, hSN_2, e_r926⟩ := hp9
        have hF := hF.keepS k2 (fun q9 hq9 => Or.inl (by simp only [List.mem_cons, rg_mem, List.not_mem_nil, or_false, not_or] at hq9; omega))
        have hR := hR.keepS k2 (fun q9 hq9 => Or.inl (by simp only [List.mem_cons, rg_mem, List.not_mem_nil, or_false, not_or] at hq9; omega))
        have hSN := hSN_2
        have hk := hk.step k2 (fun q9 a9 n9 f9 h8 h7 h9 => by simp only [List.mem_cons, rg_mem, List.not_mem_nil, or_false, not_or]; omega)
        have G2_0 := k2.2 0 _ (by simp only [List.mem_cons, rg_mem, List.not_mem_nil, or_false, not_or]; omega) G1_a0
        have G2_1 := k2.2 1 _ (by simp only [List.mem_cons, rg_mem, List.not_mem_nil, or_false, not_or]; omega) G1_1
        have G2_2 := k2.2 2 _ (by simp only [List.mem_cons, rg_mem, List.not_mem_nil, or_false, not_or]; omega) G1_2
        have G2_3 := k2.2 3 _ (by simp only [List.mem_cons, rg_mem, List.not_mem_nil, or_false, not_or]; omega) G1_3
        have G2_4 := k2.2 4 _ (by simp only [List.mem_cons, rg_mem, List.not_mem_nil, or_false, not_or]; omega) G1_4
        have G2_5 := k2.2 5 _ (by simp only [List.mem_cons, rg_mem, List.not_mem_nil, or_false, not_or]; omega) G1_a1
        have G2_6 := k2.2 6 _ (by simp only [List.mem_cons, rg_mem, List.not_mem_nil, or_false, not_or]; omega) G1_6
        have G2_7 := k2.2 7 _ (by simp only [List.mem_cons, rg_mem, List.not_mem_nil, or_false, not_or]; omega) G1_7
        have G2_8 := k2.2 8 _ (by simp only [List.mem_cons, rg_mem, List.not_mem_nil, or_false, not_or]; omega) G1_8
        have G2_9 := k2.2 9 _ (by simp only [List.mem_cons, rg_mem, List.not_mem_nil, or_false, not_or]; omega) G1_a2
        have G2_10 := k2.2 10 _ (by simp only [List.mem_cons, rg_mem, List.not_mem_nil, or_false, not_or]; omega) G1_a3
        have G2_12 := k2.2 14 _ (by simp only [List.mem_cons, rg_mem, List.not_mem_nil, or_false, not_or]; omega) G1_12
        have G2_13 := k2.2 qf _ (by simp only [List.mem_cons, rg_mem, List.not_mem_nil, or_false, not_or]; omega) G1_13
        have G2_14 := k2.2 qr _ (by simp only [List.mem_cons, rg_mem, List.not_mem_nil, or_false, not_or]; omega) G1_14
        subst e_r926
        refine lv_icmp_ne (tgt := 936) hx hb dL_act_929 (by decide) (fun cz929 => by exact (cz929 rfl).elim) (fun cz929 => ?_)
        refine lv_iconst (v := 1) hx hb dL_act_932 (by decide) ?_
        refine lv_goto (tgt := 937) hx hb dL_act_933 (by decide) ?_
        refine W.widen (k := 39860) (n := 76900) (by omega) (by omega) ?_
        subst hQ
        exact W.zret (v := 1) hx hb hr rfl (fun t ht hW => ⟨⟨1, ws_2, rfl, ⟨hk, ⟨mc1, mc2, lim, sup, (off + (hsS (nI sg) sup (hgS fa (-1) nf).1 (hgS fa (-1) nf).2 (nI wd) sn hh).1), plo, (hrs + (nI hh)), ea, eb, nf, nr, fe, qf, ro, qr, fa, rd, ri, ((hsS (nI sg) sup (hgS fa (-1) nf).1 (hgS fa (-1) nf).2 (nI wd) sn hh).2.1), t9, ((hgS fa (-1) nf).1), ((hgS fa (-1) nf).2), g, gq, (by have h9 := G2_0; rw [nI_clamp (show hh < 2 ^ 31 by omega)] at h9; exact h9), G2_1, G2_2, G2_3, G2_4, (by have h9 := G2_5; rw [nI_clamp (show hh < 2 ^ 31 by omega)] at h9; exact h9), G2_6, G2_7, G2_8, G2_9, G2_10, G2_a0, G2_12, G2_13, G2_14, ⟨by omega, by omega⟩, hF, hR, hSep, (hSE.keepI hk), (hSR.keepI hk), hSN, hnf, hnr, hok, hor, (hsS_I (nI_BI2 (lo := 1) (hi := 9) (by omega) (by omega) (by omega)) hu9 hhR hRB hh), hu9, hlm, (Nat.le_trans hln hk.1)⟩, rfl⟩, J.I X ht hW.alike⟩, J.F ht⟩) J.locs dL_act_937
      refine lv_iconst (v := nI 1) hx hb dL_act_882 rfl ?_
      refine lv_iload_n hx hb dL_act_883 rfl (lv_at hl 5 rfl) ?_
      refine lv_bipush (v := 7) hx hb dL_act_884 (by decide) ?_
      refine lv_ishr hx hb dL_act_886 ?_
      refine lv_iload_n hx hb dL_act_887 rfl (lv_at hl 5 rfl) ?_
      refine lv_iconst (v := 4) hx hb dL_act_888 (by decide) ?_
      refine lv_ishr hx hb dL_act_889 ?_
      refine lv_iconst (v := nI 4) hx hb dL_act_890 rfl ?_
      refine z_cr (z_rS (As := [.int (xv >>> (4 &&& 31)), .int (nI 4)]) (rest := [.int (xv >>> (7 &&& 31)), .int (nI 1)]) X J (cL_below_ok l E (by first | assumption | omega | decide) (by first | assumption | omega | decide)) (va_cwS 2 hts (goodIn_ext2 gL_act_L_below) rfl rfl rfl (by decide +kernel) ⟨Nat.le_of_ble_eq_true rfl, Nat.le_of_ble_eq_true rfl⟩) rfl hl.1 rfl (Nat.le_of_ble_eq_true rfl) dL_act_891 ⟨Nat.le_of_ble_eq_true rfl, Nat.le_of_ble_eq_true rfl⟩) (fun r891 e_r891 => ?_)
      subst e_r891
      refine lv_if_ne (tgt := 902) hx hb dL_act_894 (by decide) (fun cz894 => ?_) (fun cz894 => ?_)
      · refine lv_iconst (v := nI 4) hx hb dL_act_902 rfl ?_
        refine z_cr (z_rS (As := [.int (xv >>> (7 &&& 31)), .int (nI 4)]) (rest := [.int (nI 1)]) X J (cL_below_ok l E (by first | assumption | omega | decide) (by first | assumption | omega | decide)) (va_cwS 2 hts (goodIn_ext2 gL_act_L_below) rfl rfl rfl (by decide +kernel) ⟨Nat.le_of_ble_eq_true rfl, Nat.le_of_ble_eq_true rfl⟩) rfl hl.1 rfl (Nat.le_of_ble_eq_true rfl) dL_act_903 ⟨Nat.le_of_ble_eq_true rfl, Nat.le_of_ble_eq_true rfl⟩) (fun r903 e_r903 => ?_)
        subst e_r903
        obtain ⟨h5, hh5⟩ : ∃ q9 : Nat, q9 = 1 + bln (xv >>> (7 &&& 31)) 4 := ⟨_, rfl⟩
        have bh5 := bln_lt (v := xv >>> (7 &&& 31)) (n := 4) (by decide)
        refine lv_iadd hx hb dL_act_906 ?_
        refine W.eq (g2 := F0 m 907 ls [.int (nI h5)]) (congrArg (fun z9 : Int32 => F0 m 907 ls [.int z9]) (show ((nI 1) + (nI (bln (xv >>> (7 &&& 31)) 4)) : Int32) = nI h5 from (by rw [nI_add, hh5]))) ?_
        exact join_907 _ h5 (⟨by omega, by omega⟩) (lv_sub hl [0, 1, 2, 3, 4, 5] rfl)
      · refine lv_bipush (v := nI 24) hx hb dL_act_897 (by decide) ?_
        refine lv_goto (tgt := 903) hx hb dL_act_899 (by decide) ?_
        refine z_cr (z_rS (As := [.int (xv >>> (7 &&& 31)), .int (nI 24)]) (rest := [.int (nI 1)]) X J (cL_below_ok l E (by first | assumption | omega | decide) (by first | assumption | omega | decide)) (va_cwS 2 hts (goodIn_ext2 gL_act_L_below) rfl rfl rfl (by decide +kernel) ⟨Nat.le_of_ble_eq_true rfl, Nat.le_of_ble_eq_true rfl⟩) rfl hl.1 rfl (Nat.le_of_ble_eq_true rfl) dL_act_903 ⟨Nat.le_of_ble_eq_true rfl, Nat.le_of_ble_eq_true rfl⟩) (fun r903 e_r903 => ?_)
        subst e_r903
        obtain ⟨h5, hh5⟩ : ∃ q9 : Nat, q9 = 1 + bln (xv >>> (7 &&& 31)) 24 := ⟨_, rfl⟩
        have bh5 := bln_lt (v := xv >>> (7 &&& 31)) (n := 24) (by decide)
        refine lv_iadd hx hb dL_act_906 ?_
        refine W.eq (g2 := F0 m 907 ls [.int (nI h5)]) (congrArg (fun z9 : Int32 => F0 m 907 ls [.int z9]) (show ((nI 1) + (nI (bln (xv >>> (7 &&& 31)) 24)) : Int32) = nI h5 from (by rw [nI_add, hh5]))) ?_
        exact join_907 _ h5 (⟨by omega, by omega⟩) (lv_sub hl [0, 1, 2, 3, 4, 5] rfl)
    refine lv_tableOut (tgt := 861) hx hb dL_act_12 (by decide) (by decide) ?_
    exact join_861 _ (lv_sub hl [0, 1, 2, 3] rfl)
