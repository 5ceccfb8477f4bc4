set_option maxHeartbeats 8000000 in
set_option maxRecDepth 100000 in
theorem cL_act_f_ok (l : Launch) (hflags : l.flags = flags0) (E : zG) {ws : va_W} {x fl rl wh gr gra tr tra sc ha va ea eb nf nr z sa fe qf ro qr : Nat} {mc1 mc2 lim sup off plo hrs : Int32} {fa rd ri sn t9 hf gf : Nat → Int32} {g gq gs : Nat → Option Nat} {xv : Int32} {kk : Nat} (Fa0 : ws[0]? = some (x, .inr (7, [.ref fl, .ref rl, .ref wh, .ref gr, .ref tr, .ref sc, .int lim, .int sup, .int off, .int plo, .int hrs]))) (Fa1 : ws[1]? = some (fl, .inr (0, [.int mc1, .ref ea, .int (nI nf)]))) (Fa2 : ws[2]? = some (rl, .inr (0, [.int mc2, .ref eb, .int (nI nr)]))) (Fa3 : ws[3]? = some (wh, .inr (5, [.int (0 * 20 + 0), .int (nI 400), .int 0]))) (Fa4 : ws[4]? = some (gr, .inr (2, [.ref gra]))) (Fa5 : ws[5]? = some (gra, zI4 E 400 sn)) (Fa6 : ws[6]? = some (tr, .inr (2, [.ref tra]))) (Fa7 : ws[7]? = some (tra, zI4 E 400 t9)) (Fa8 : ws[8]? = some (sc, .inr (4, [.ref ha, .ref va]))) (Fa9 : ws[9]? = some (ha, zI4 E 400 hf)) (Fa10 : ws[10]? = some (va, zI4 E 400 gf)) (Fa11 : ws[11]? = some (z, .inr (8, [.ref fe, .ref ro, .ref sa, .int lim, .int sup, .int off, .int plo, .int hrs]))) (Fa12 : ws[14]? = some (sa, zA4 E 20 gs)) (Fa13 : ws[qf]? = some (fe, zA4 E nf g)) (Fa14 : ws[qr]? = some (ro, zA4 E nr gq)) (hql : 11 < qf ∧ 11 < qr) (hF : FS E ws fa ea nf) (hR : RS E ws rd ri eb nr) (hSep : SEP E ea eb) (hSE : SE E ws g nf fa) (hSR : SR E ws gq nr rd ri) (hSN : SN E ws 15 gs sn) (hnf : nf ≤ 10) (hnr : nr ≤ 4) (hok : ∀ j, j < nf → okF fa j) (hor : ∀ q, q < nr → okR rd ri q) (hRB : RB 200 sn) (hu9 : BI 0 40 sup) (hlm : BI 1 60 lim) (hln : 35 ≤ ws.length) (hE1 : ¬ zA E E.2.2.1) (hk13 : bln xv 13 = kk) (hkk : kk = 0 ∨ kk = 1 ∨ kk = 2) : Met l yL_act wsL_act2 ({ frames := 8, cells := 20, slots := 120, locals := 129 } : Room) (va_Pc [.ref x, .ref z, .int xv] (zY E ws)) (va_Qi (fun (r : Int32) (ws' : va_W) => (zKi E ws ws') ∧ (LW E x fl rl wh gr gra tr tra sc ha va z sa gs ws') ∧ (r = 1)) (zI E) (zA E)) 20 120 (zA E) := by
  refine Met.ofW (cc := cL_act) (maxL := 12) (ret := (some .boolean)) (by decide) rfl ?_
  intro p e s m args below meth c s₁ B hml hv
  obtain ⟨hargs9, hI, hRz⟩ := hv
  have hx := B.exec
  have hb := B.bytes
  have hr := B.returns
  have hlocks := B.notSynchronized
  have X : zC E p m c cL_act 12 s args wsL_act2 RL := z_open B hml hI
  have hown := X.1.2.2.2.1
  have hts := X.1.2.2.2.2
  have J := hI.J
  have hi_X7 : ∀ w ∈ wsX70, w ∈ wsL_act2 := by decide +kernel
  have n0_13 : 0 ≠ qf := zneK Fa0 Fa13 rfl
  have n0_14 : 0 ≠ qr := zneK Fa0 Fa14 rfl
  have n1_13 : 1 ≠ qf := zneK Fa1 Fa13 rfl
  have n1_14 : 1 ≠ qr := zneK Fa1 Fa14 rfl
  have n2_13 : 2 ≠ qf := zneK Fa2 Fa13 rfl
  have n2_14 : 2 ≠ qr := zneK Fa2 Fa14 rfl
  have n3_13 : 3 ≠ qf := zneK Fa3 Fa13 rfl
  have n3_14 : 3 ≠ qr := zneK Fa3 Fa14 rfl
  have n4_13 : 4 ≠ qf := zneK Fa4 Fa13 rfl
  have n4_14 : 4 ≠ qr := zneK Fa4 Fa14 rfl
  have n5_13 : 5 ≠ qf := zneK Fa5 Fa13 rfl
  have n5_14 : 5 ≠ qr := zneK Fa5 Fa14 rfl
  have n6_13 : 6 ≠ qf := zneK Fa6 Fa13 rfl
  have n6_14 : 6 ≠ qr := zneK Fa6 Fa14 rfl
  have n7_13 : 7 ≠ qf := zneK Fa7 Fa13 rfl
  have n7_14 : 7 ≠ qr := zneK Fa7 Fa14 rfl
  have n8_13 : 8 ≠ qf := zneK Fa8 Fa13 rfl
  have n8_14 : 8 ≠ qr := zneK Fa8 Fa14 rfl
  have n9_13 : 9 ≠ qf := zneK Fa9 Fa13 rfl
  have n9_14 : 9 ≠ qr := zneK Fa9 Fa14 rfl
  have n10_13 : 10 ≠ qf := zneK Fa10 Fa13 rfl
  have n10_14 : 10 ≠ qr := zneK Fa10 Fa14 rfl
  have n11_13 : 11 ≠ qf := zneK Fa11 Fa13 rfl
  have n11_14 : 11 ≠ qr := zneK Fa11 Fa14 rfl
  have hk : zKi E ws ws := zKi.rf
  have hl := lv_entry ([.ref x, .ref z, .int xv]) (n := 12) (Nat.le_of_ble_eq_true rfl)
  rw [show entryFrame m args 12 = entryFrame m ([.ref x, .ref z, .int xv] : List Value).toArray 12 from by rw [hargs9], lg_entry_eq]
  generalize (lg_sl ([.ref x, .ref z, .int xv]) ++ List.replicate (12 - (lg_sl ([.ref x, .ref z, .int xv])).length) Slot.unset).toArray = ls at hl ⊢
  have hl : lv_has ls 12 [(0, .ref x), (1, .ref z), (2, .int xv)] := hl
  obtain ⟨hqf, hqr⟩ := hql
  have hbl := hSN.len
  have bq13 := zlt Fa13
  have bq14 := zlt Fa14
  have nr13 := hSN.no Fa13 rfl
  have nr14 := hSN.no Fa14 rfl
  have hhR := hgS_RB (wo := -1) nf hok
  generalize hQ : (MQ below (va_Qi (fun (r : Int32) (ws' : va_W) => (zKi E ws ws') ∧ (LW E x fl rl wh gr gra tr tra sc ha va z sa gs ws') ∧ (r = 1)) (zI E) (zA E)) args s 20 120 (zA E)) = QQ
  refine lv_aload_n hx hb dL_act_0 rfl (lv_at hl 1 rfl) ?_
  refine z_get (C := RX7) (T := TX7) (N := 8) (ci := 8) (v := .ref fe) X J hi_X7 11 Fa11 rfl 0 (by decide) (by decide +kernel) rfl dL_act_1 ?_
  refine z_alenA (v := nI nf) X J qf Fa13 rfl dL_act_4 ?_
  refine lv_istore_n (lv' := [(3, .int (nI nf)), (0, .ref x), (1, .ref z), (2, .int xv)]) hx hb dL_act_5 rfl hl (by decide) rfl (fun ls hl => ?_)
  refine lv_iload_n hx hb dL_act_6 rfl (lv_at hl 3 rfl) ?_
  refine lv_bipush (v := nI 13) hx hb dL_act_7 (by decide) ?_
  refine z_cr (z_rS (As := [.int xv, .int (nI 13)]) (rest := []) X J (cL_below_ok l E (by first | assumption | omega | decide) (by first | assumption | omega | decide)) (va_cwS 2 hts (goodIn_ext2 gL_act_L_below) rfl rfl rfl (by decide +kernel) ⟨Nat.le_of_ble_eq_true rfl, Nat.le_of_ble_eq_true rfl⟩) rfl hl.1 rfl (Nat.le_of_ble_eq_true rfl) dL_act_9 ⟨Nat.le_of_ble_eq_true rfl, Nat.le_of_ble_eq_true rfl⟩) (fun r9 e_r9 => ?_)
  subst e_r9
  refine W.eq (g2 := F0 m 12 ls [.int (nI kk)]) (congrArg (fun z9 : Int32 => F0 m 12 ls [.int z9]) (show (nI (bln xv 13) : Int32) = nI kk from (by rw [hk13]))) ?_
  have join_72 : ∀ (ls : Array Slot), lv_has ls 12 [(3, .int (nI nf)), (0, .ref x), (1, .ref z), (2, .int xv)] → W p l e (headSpec wsL_act2 ({ frames := 8, cells := 20, slots := 120, locals := 129 } : Room)).room s m args below meth c s.heap [] 0 0 QQ (F0 m 72 ls []) := by
    intro ls hl
    refine lv_iload_n hx hb dL_act_72 rfl (lv_at hl 0 rfl) ?_
    refine lv_bipush (v := 10) hx hb dL_act_73 (by decide) ?_
    refine lv_icmp_ne (tgt := 80) hx hb dL_act_75 (by decide) (fun cz75 => ?_) (fun cz75 => ?_)
    · have hn10 : nf < 10 := Nat.lt_of_le_of_ne hnf (fun q9 => cz75 (by rw [q9]; rfl))
      have join_95 : ∀ (ls : Array Slot) (dn : Int32) (hdn : is01 dn), lv_has ls 12 [(3, .int (nI nf)), (0, .ref x), (1, .ref z), (2, .int xv)] → W p l e (headSpec wsL_act2 ({ frames := 8, cells := 20, slots := 120, locals := 129 } : Room)).room s m args below meth c s.heap [] 0 0 QQ (F0 m 95 ls [.int dn]) := by
        intro ls dn hdn hl
        refine lv_istore (lv' := [(4, .int dn), (3, .int (nI nf)), (0, .ref x), (1, .ref z), (2, .int xv)]) hx hb dL_act_95 hl (by decide) rfl (fun ls hl => ?_)
        refine lv_iconst (v := nI 1) hx hb dL_act_97 rfl ?_
        refine lv_iload_n hx hb dL_act_98 rfl (lv_at hl 4 rfl) ?_
        refine lv_iconst (v := 4) hx hb dL_act_99 (by decide) ?_
        refine lv_ishr hx hb dL_act_100 ?_
        refine lv_bipush (v := nI 20) hx hb dL_act_101 (by decide) ?_
        refine z_cr (z_rS (As := [.int (xv >>> (4 &&& 31)), .int (nI 20)]) (rest := [.int (nI 1)]) X J (cL_below_ok l E (by first | assumption | omega | decide) (by first | assumption | omega | decide)) (va_cwS 2 hts (goodIn_ext2 gL_act_L_below) rfl rfl rfl (by decide +kernel) ⟨Nat.le_of_ble_eq_true rfl, Nat.le_of_ble_eq_true rfl⟩) rfl hl.1 rfl (Nat.le_of_ble_eq_true rfl) dL_act_103 ⟨Nat.le_of_ble_eq_true rfl, Nat.le_of_ble_eq_true rfl⟩) (fun r103 e_r103 => ?_)
        subst e_r103
        obtain ⟨le, hle⟩ : ∃ q9 : Nat, q9 = 1 + bln (xv >>> (4 &&& 31)) 20 := ⟨_, rfl⟩
        have ble := bln_lt (v := xv >>> (4 &&& 31)) (n := 20) (by decide)
        refine lv_iadd hx hb dL_act_106 ?_
        refine W.eq (g2 := F0 m 107 ls [.int (nI le)]) (congrArg (fun z9 : Int32 => F0 m 107 ls [.int z9]) (show ((nI 1) + (nI (bln (xv >>> (4 &&& 31)) 20)) : Int32) = nI le from (by rw [nI_add, hle]))) ?_
        have hle1 : 1 ≤ le := by omega
        have hle2 : le ≤ 20 := by omega
        refine lv_istore (lv' := [(5, .int (nI le)), (4, .int dn), (3, .int (nI nf)), (0, .ref x), (1, .ref z), (2, .int xv)]) hx hb dL_act_107 hl (by decide) rfl (fun ls hl => ?_)
        refine lv_bipush (v := 6) hx hb dL_act_109 (by decide) ?_
        refine z_newa (N' := 6) X J (by decide +kernel) (by decide) (by decide) (Nat.le_of_ble_eq_true rfl) (Nat.le_of_ble_eq_true rfl) (Nat.le_of_ble_eq_true rfl) dL_act_111 (fun q111 H J => ?_)
        have hF := hF.keepS (zK.app (S := []) (ws := ws) (more := [(q111, zI4 E 6 (fun _ => 0))])) (fun q9 hq9 => absurd hq9 List.not_mem_nil)
        have hR := hR.keepS (zK.app (S := []) (ws := ws) (more := [(q111, zI4 E 6 (fun _ => 0))])) (fun q9 hq9 => absurd hq9 List.not_mem_nil)
        have hSN := hSN.keep (zK.app (S := []) (ws := ws) (more := [(q111, zI4 E 6 (fun _ => 0))])) (fun _ _ => List.not_mem_nil)
        have lp1 := hk.1
        have hk := hk.step (zK.app (S := []) (ws := ws) (more := [(q111, zI4 E 6 (fun _ => 0))])) (fun _ _ _ _ _ _ _ => List.not_mem_nil)
        have bG1_0 := zlt Fa0
        have G1_0 := zapp (x := (q111, zI4 E 6 (fun _ => 0))) Fa0
        have bG1_1 := zlt Fa1
        have G1_1 := zapp (x := (q111, zI4 E 6 (fun _ => 0))) Fa1
        have bG1_2 := zlt Fa2
        have G1_2 := zapp (x := (q111, zI4 E 6 (fun _ => 0))) Fa2
        have bG1_3 := zlt Fa3
        have G1_3 := zapp (x := (q111, zI4 E 6 (fun _ => 0))) Fa3
        have bG1_4 := zlt Fa4
        have G1_4 := zapp (x := (q111, zI4 E 6 (fun _ => 0))) Fa4
        have bG1_5 := zlt Fa5
        have G1_5 := zapp (x := (q111, zI4 E 6 (fun _ => 0))) Fa5
        have bG1_6 := zlt Fa6
        have G1_6 := zapp (x := (q111, zI4 E 6 (fun _ => 0))) Fa6
        have bG1_7 := zlt Fa7
        have G1_7 := zapp (x := (q111, zI4 E 6 (fun _ => 0))) Fa7
        have bG1_8 := zlt Fa8
        have G1_8 := zapp (x := (q111, zI4 E 6 (fun _ => 0))) Fa8
        have bG1_9 := zlt Fa9
        have G1_9 := zapp (x := (q111, zI4 E 6 (fun _ => 0))) Fa9
        have bG1_10 := zlt Fa10
        have G1_10 := zapp (x := (q111, zI4 E 6 (fun _ => 0))) Fa10
        have bG1_11 := zlt Fa11
        have G1_11 := zapp (x := (q111, zI4 E 6 (fun _ => 0))) Fa11
        have bG1_12 := zlt Fa12
        have G1_12 := zapp (x := (q111, zI4 E 6 (fun _ => 0))) Fa12
        have bG1_13 := zlt Fa13
        have G1_13 := zapp (x := (q111, zI4 E 6 (fun _ => 0))) Fa13
        have bG1_14 := zlt Fa14
        have G1_14 := zapp (x := (q111, zI4 E 6 (fun _ => 0))) Fa14
        have G1_n := zapp_new (ws := ws) (x := (q111, zI4 E 6 (fun _ => 0)))
        generalize hws1 : ws ++ [(q111, zI4 E 6 (fun _ => 0))] = ws_1 at J hk G1_0 G1_1 G1_2 G1_3 G1_4 G1_5 G1_6 G1_7 G1_8 G1_9 G1_10 G1_11 G1_12 G1_13 G1_14 hF hR hSN G1_n
        generalize hpn1 : ws.length = pn_1 at G1_n lp1 bG1_0 bG1_1 bG1_2 bG1_3 bG1_4 bG1_5 bG1_6 bG1_7 bG1_8 bG1_9 bG1_10 bG1_11 bG1_12 bG1_13 bG1_14
        refine lv_dup hx hb dL_act_113 rfl ?_
        refine lv_iconst (v := nI 0) hx hb dL_act_114 rfl ?_
        refine lv_iload_n hx hb dL_act_115 rfl (lv_at hl 5 rfl) ?_
        refine lv_iconst (v := 5) hx hb dL_act_116 (by decide) ?_
        refine lv_ishr hx hb dL_act_117 ?_
        have join_133 : ∀ (ls : Array Slot) (nc : Nat) (hnc : (dn = 0 ∧ nc + le = 21) ∨ (dn = 1 ∧ nc = 20)), lv_has ls 12 [(5, .int (nI le)), (4, .int dn), (3, .int (nI nf)), (0, .ref x), (1, .ref z), (2, .int xv)] → W p l e (headSpec wsL_act2 ({ frames := 8, cells := 20, slots := 120, locals := 129 } : Room)).room s m args below meth c H [] 1 6 QQ (F0 m 133 ls [.int (nI nc), .int (xv >>> (5 &&& 31)), .int (nI 0), .ref q111, .ref q111]) := by
          intro ls nc hnc hl
          obtain ⟨co, hco⟩ : ∃ q9 : Nat, q9 = bln (xv >>> (5 &&& 31)) (nc) := ⟨_, rfl⟩
          have bco := bln_lt (v := xv >>> (5 &&& 31)) (n := nc) (by omega)
          refine z_cr (z_rS (As := [.int (xv >>> (5 &&& 31)), .int (nI nc)]) (rest := [.int (nI 0), .ref q111, .ref q111]) X J (cL_below_ok l E (by first | assumption | omega | decide) (by first | assumption | omega | decide)) (va_cwS 2 hts (goodIn_ext2 gL_act_L_below) rfl rfl rfl (by decide +kernel) ⟨Nat.le_of_ble_eq_true rfl, Nat.le_of_ble_eq_true rfl⟩) rfl hl.1 rfl (Nat.le_of_ble_eq_true rfl) dL_act_133 ⟨Nat.le_of_ble_eq_true rfl, Nat.le_of_ble_eq_true rfl⟩) (fun r133 e_r133 => ?_)
          subst e_r133
          refine W.eq (g2 := F0 m 136 ls [.int (nI co), .int (nI 0), .ref q111, .ref q111]) (congrArg (fun z9 : Int32 => F0 m 136 ls [.int z9, .int (nI 0), .ref q111, .ref q111]) (show (nI (bln (xv >>> (5 &&& 31)) nc) : Int32) = nI co from (by rw [hco]))) ?_
          refine z_iast X J pn_1 G1_n (vp_in_nI (by omega) (by first | decide | omega)) dL_act_136 (fun H locs J => ?_)
          rw [show upd (fun _ => 0) (nI 0).toNatClampNeg (nI co) = upd (fun _ => 0) 0 (nI co) from (by rw [nI_clamp (by omega)])] at J
          have hF := hF.keepS (zK.set (S := [pn_1]) (ws := ws_1) (q := pn_1) (e := (q111, zI4 E 6 (upd (fun _ => 0) 0 (nI co)))) (List.mem_singleton.mpr rfl)) (fun q9 hq9 => Or.inr ⟨_, _, (List.mem_singleton.mp hq9).symm ▸ G1_n, noL_I⟩)
          have hR := hR.keepS (zK.set (S := [pn_1]) (ws := ws_1) (q := pn_1) (e := (q111, zI4 E 6 (upd (fun _ => 0) 0 (nI co)))) (List.mem_singleton.mpr rfl)) (fun q9 hq9 => Or.inr ⟨_, _, (List.mem_singleton.mp hq9).symm ▸ G1_n, noL_I⟩)
          have hSN := hSN.keep (zK.set (S := [pn_1]) (ws := ws_1) (q := pn_1) (e := (q111, zI4 E 6 (upd (fun _ => 0) 0 (nI co)))) (List.mem_singleton.mpr rfl)) (fun r9 hr9 => by simp only [List.mem_cons, rg_mem, List.not_mem_nil, or_false, not_or]; omega)
          have hk := hk.step (zK.set (S := [pn_1]) (ws := ws_1) (q := pn_1) (e := (q111, zI4 E 6 (upd (fun _ => 0) 0 (nI co)))) (List.mem_singleton.mpr rfl)) (fun q9 a9 n9 f9 h8 h7 h9 => by simp only [List.mem_cons, rg_mem, List.not_mem_nil, or_false, not_or]; omega)
          have G2_0 := zset_ne (q := pn_1) (e' := (q111, zI4 E 6 (upd (fun _ => 0) 0 (nI co)))) (by omega) G1_0
          have G2_1 := zset_ne (q := pn_1) (e' := (q111, zI4 E 6 (upd (fun _ => 0) 0 (nI co)))) (by omega) G1_1
          have G2_2 := zset_ne (q := pn_1) (e' := (q111, zI4 E 6 (upd (fun _ => 0) 0 (nI co)))) (by omega) G1_2
          have G2_3 := zset_ne (q := pn_1) (e' := (q111, zI4 E 6 (upd (fun _ => 0) 0 (nI co)))) (by omega) G1_3
          have G2_4 := zset_ne (q := pn_1) (e' := (q111, zI4 E 6 (upd (fun _ => 0) 0 (nI co)))) (by omega) G1_4
          have G2_5 := zset_ne (q := pn_1) (e' := (q111, zI4 E 6 (upd (fun _ => 0) 0 (nI co)))) (by omega) G1_5
          have G2_6 := zset_ne (q := pn_1) (e' := (q111, zI4 E 6 (upd (fun _ => 0) 0 (nI co)))) (by omega) G1_6
          have G2_7 := zset_ne (q := pn_1) (e' := (q111, zI4 E 6 (upd (fun _ => 0) 0 (nI co)))) (by omega) G1_7
          have G2_8 := zset_ne (q := pn_1) (e' := (q111, zI4 E 6 (upd (fun _ => 0) 0 (nI co)))) (by omega) G1_8
          have G2_9 := zset_ne (q := pn_1) (e' := (q111, zI4 E 6 (upd (fun _ => 0) 0 (nI co)))) (by omega) G1_9
          have G2_10 := zset_ne (q := pn_1) (e' := (q111, zI4 E 6 (upd (fun _ => 0) 0 (nI co)))) (by omega) G1_10
          have G2_11 := zset_ne (q := pn_1) (e' := (q111, zI4 E 6 (upd (fun _ => 0) 0 (nI co)))) (by omega) G1_11
          have G2_12 := zset_ne (q := pn_1) (e' := (q111, zI4 E 6 (upd (fun _ => 0) 0 (nI co)))) (by omega) G1_12
          have G2_13 := zset_ne (q := pn_1) (e' := (q111, zI4 E 6 (upd (fun _ => 0) 0 (nI co)))) (by omega) G1_13
          have G2_14 := zset_ne (q := pn_1) (e' := (q111, zI4 E 6 (upd (fun _ => 0) 0 (nI co)))) (by omega) G1_14
          have G2_15 := zset_eq (e' := (q111, zI4 E 6 (upd (fun _ => 0) 0 (nI co)))) G1_n
          generalize hws2 : (ws_1.set pn_1 (q111, zI4 E 6 (upd (fun _ => 0) 0 (nI co)))) = ws_2 at J hk G2_0 G2_1 G2_2 G2_3 G2_4 G2_5 G2_6 G2_7 G2_8 G2_9 G2_10 G2_11 G2_12 G2_13 G2_14 G2_15 hF hR hSN
          refine lv_dup hx hb dL_act_137 rfl ?_
          refine lv_iconst (v := nI 1) hx hb dL_act_138 rfl ?_
          refine lv_iload_n hx hb dL_act_139 rfl (lv_at hl 5 rfl) ?_
          refine lv_bipush (v := 7) hx hb dL_act_140 (by decide) ?_
          refine lv_ishr hx hb dL_act_142 ?_
          have join_158 : ∀ (ls : Array Slot) (nr9 : Nat) (hnr9 : (dn = 0 ∧ nr9 = 20) ∨ (dn = 1 ∧ nr9 + le = 21)), lv_has ls 12 [(5, .int (nI le)), (4, .int dn), (3, .int (nI nf)), (0, .ref x), (1, .ref z), (2, .int xv)] → W p l e (headSpec wsL_act2 ({ frames := 8, cells := 20, slots := 120, locals := 129 } : Room)).room s m args below meth c H locs 1 6 QQ (F0 m 158 ls [.int (nI nr9), .int (xv >>> (7 &&& 31)), .int (nI 1), .ref q111, .ref q111]) := by
            intro ls nr9 hnr9 hl
            obtain ⟨rr, hrr⟩ : ∃ q9 : Nat, q9 = bln (xv >>> (7 &&& 31)) (nr9) := ⟨_, rfl⟩
            have brr := bln_lt (v := xv >>> (7 &&& 31)) (n := nr9) (by omega)
            refine z_cr (z_rS (As := [.int (xv >>> (7 &&& 31)), .int (nI nr9)]) (rest := [.int (nI 1), .ref q111, .ref q111]) X J (cL_below_ok l E (by first | assumption | omega | decide) (by first | assumption | omega | decide)) (va_cwS 2 hts (goodIn_ext2 gL_act_L_below) rfl rfl rfl (by decide +kernel) ⟨Nat.le_of_ble_eq_true rfl, Nat.le_of_ble_eq_true rfl⟩) rfl hl.1 rfl (Nat.le_of_ble_eq_true rfl) dL_act_158 ⟨Nat.le_of_ble_eq_true rfl, Nat.le_of_ble_eq_true rfl⟩) (fun r158 e_r158 => ?_)
            subst e_r158
            refine W.eq (g2 := F0 m 161 ls [.int (nI rr), .int (nI 1), .ref q111, .ref q111]) (congrArg (fun z9 : Int32 => F0 m 161 ls [.int z9, .int (nI 1), .ref q111, .ref q111]) (show (nI (bln (xv >>> (7 &&& 31)) nr9) : Int32) = nI rr from (by rw [hrr]))) ?_
            refine z_iast X J pn_1 G2_15 (vp_in_nI (by omega) (by first | decide | omega)) dL_act_161 (fun H locs J => ?_)
            rw [show upd (upd (fun _ => 0) 0 (nI co)) (nI 1).toNatClampNeg (nI rr) = upd (upd (fun _ => 0) 0 (nI co)) 1 (nI rr) from (by rw [nI_clamp (by omega)])] at J
            have hF := hF.keepS (zK.set (S := [pn_1]) (ws := ws_2) (q := pn_1) (e := (q111, zI4 E 6 (upd (upd (fun _ => 0) 0 (nI co)) 1 (nI rr)))) (List.mem_singleton.mpr rfl)) (fun q9 hq9 => Or.inr ⟨_, _, (List.mem_singleton.mp hq9).symm ▸ G2_15, noL_I⟩)
            have hR := hR.keepS (zK.set (S := [pn_1]) (ws := ws_2) (q := pn_1) (e := (q111, zI4 E 6 (upd (upd (fun _ => 0) 0 (nI co)) 1 (nI rr)))) (List.mem_singleton.mpr rfl)) (fun q9 hq9 => Or.inr ⟨_, _, (List.mem_singleton.mp hq9).symm ▸ G2_15, noL_I⟩)
            have hSN := hSN.keep (zK.set (S := [pn_1]) (ws := ws_2) (q := pn_1) (e := (q111, zI4 E 6 (upd (upd (fun _ => 0) 0 (nI co)) 1 (nI rr)))) (List.mem_singleton.mpr rfl)) (fun r9 hr9 => by simp only [List.mem_cons, rg_mem, List.not_mem_nil, or_false, not_or]; omega)
            have hk := hk.step (zK.set (S := [pn_1]) (ws := ws_2) (q := pn_1) (e := (q111, zI4 E 6 (upd (upd (fun _ => 0) 0 (nI co)) 1 (nI rr)))) (List.mem_singleton.mpr rfl)) (fun q9 a9 n9 f9 h8 h7 h9 => by simp only [List.mem_cons, rg_mem, List.not_mem_nil, or_false, not_or]; omega)
            have G3_0 := zset_ne (q := pn_1) (e' := (q111, zI4 E 6 (upd (upd (fun _ => 0) 0 (nI co)) 1 (nI rr)))) (by omega) G2_0
            have G3_1 := zset_ne (q := pn_1) (e' := (q111, zI4 E 6 (upd (upd (fun _ => 0) 0 (nI co)) 1 (nI rr)))) (by omega) G2_1
            have G3_2 := zset_ne (q := pn_1) (e' := (q111, zI4 E 6 (upd (upd (fun _ => 0) 0 (nI co)) 1 (nI rr)))) (by omega) G2_2
            have G3_3 := zset_ne (q := pn_1) (e' := (q111, zI4 E 6 (upd (upd (fun _ => 0) 0 (nI co)) 1 (nI rr)))) (by omega) G2_3
            have G3_4 := zset_ne (q := pn_1) (e' := (q111, zI4 E 6 (upd (upd (fun _ => 0) 0 (nI co)) 1 (nI rr)))) (by omega) G2_4
            have G3_5 := zset_ne (q := pn_1) (e' := (q111, zI4 E 6 (upd (upd (fun _ => 0) 0 (nI co)) 1 (nI rr)))) (by omega) G2_5
            have G3_6 := zset_ne (q := pn_1) (e' := (q111, zI4 E 6 (upd (upd (fun _ => 0) 0 (nI co)) 1 (nI rr)))) (by omega) G2_6
            have G3_7 := zset_ne (q := pn_1) (e' := (q111, zI4 E 6 (upd (upd (fun _ => 0) 0 (nI co)) 1 (nI rr)))) (by omega) G2_7
            have G3_8 := zset_ne (q := pn_1) (e' := (q111, zI4 E 6 (upd (upd (fun _ => 0) 0 (nI co)) 1 (nI rr)))) (by omega) G2_8
            have G3_9 := zset_ne (q := pn_1) (e' := (q111, zI4 E 6 (upd (upd (fun _ => 0) 0 (nI co)) 1 (nI rr)))) (by omega) G2_9
            have G3_10 := zset_ne (q := pn_1) (e' := (q111, zI4 E 6 (upd (upd (fun _ => 0) 0 (nI co)) 1 (nI rr)))) (by omega) G2_10
            have G3_11 := zset_ne (q := pn_1) (e' := (q111, zI4 E 6 (upd (upd (fun _ => 0) 0 (nI co)) 1 (nI rr)))) (by omega) G2_11
            have G3_12 := zset_ne (q := pn_1) (e' := (q111, zI4 E 6 (upd (upd (fun _ => 0) 0 (nI co)) 1 (nI rr)))) (by omega) G2_12
            have G3_13 := zset_ne (q := pn_1) (e' := (q111, zI4 E 6 (upd (upd (fun _ => 0) 0 (nI co)) 1 (nI rr)))) (by omega) G2_13
            have G3_14 := zset_ne (q := pn_1) (e' := (q111, zI4 E 6 (upd (upd (fun _ => 0) 0 (nI co)) 1 (nI rr)))) (by omega) G2_14
            have G3_15 := zset_eq (e' := (q111, zI4 E 6 (upd (upd (fun _ => 0) 0 (nI co)) 1 (nI rr)))) G2_15
            generalize hws3 : (ws_2.set pn_1 (q111, zI4 E 6 (upd (upd (fun _ => 0) 0 (nI co)) 1 (nI rr)))) = ws_3 at J hk G3_0 G3_1 G3_2 G3_3 G3_4 G3_5 G3_6 G3_7 G3_8 G3_9 G3_10 G3_11 G3_12 G3_13 G3_14 G3_15 hF hR hSN
            refine lv_dup hx hb dL_act_162 rfl ?_
            refine lv_iconst (v := nI 2) hx hb dL_act_163 rfl ?_
            refine lv_iload hx hb dL_act_164 (lv_at hl 0 rfl) ?_
            refine z_iast X J pn_1 G3_15 (vp_in_nI (by omega) (by first | decide | omega)) dL_act_166 (fun H locs J => ?_)
            rw [show upd (upd (upd (fun _ => 0) 0 (nI co)) 1 (nI rr)) (nI 2).toNatClampNeg (nI le) = upd (upd (upd (fun _ => 0) 0 (nI co)) 1 (nI rr)) 2 (nI le) from (by rw [nI_clamp (by omega)])] at J
            have hF := hF.keepS (zK.set (S := [pn_1]) (ws := ws_3) (q := pn_1) (e := (q111, zI4 E 6 (upd (upd (upd (fun _ => 0) 0 (nI co)) 1 (nI rr)) 2 (nI le)))) (List.mem_singleton.mpr rfl)) (fun q9 hq9 => Or.inr ⟨_, _, (List.mem_singleton.mp hq9).symm ▸ G3_15, noL_I⟩)
            have hR := hR.keepS (zK.set (S := [pn_1]) (ws := ws_3) (q := pn_1) (e := (q111, zI4 E 6 (upd (upd (upd (fun _ => 0) 0 (nI co)) 1 (nI rr)) 2 (nI le)))) (List.mem_singleton.mpr rfl)) (fun q9 hq9 => Or.inr ⟨_, _, (List.mem_singleton.mp hq9).symm ▸ G3_15, noL_I⟩)
            have hSN := hSN.keep (zK.set (S := [pn_1]) (ws := ws_3) (q := pn_1) (e := (q111, zI4 E 6 (upd (upd (upd (fun _ => 0) 0 (nI co)) 1 (nI rr)) 2 (nI le)))) (List.mem_singleton.mpr rfl)) (fun r9 hr9 => by simp only [List.mem_cons, rg_mem, List.not_mem_nil, or_false, not_or]; omega)
            have hk := hk.step (zK.set (S := [pn_1]) (ws := ws_3) (q := pn_1) (e := (q111, zI4 E 6 (upd (upd (upd (fun _ => 0) 0 (nI co)) 1 (nI rr)) 2 (nI le)))) (List.mem_singleton.mpr rfl)) (fun q9 a9 n9 f9 h8 h7 h9 => by simp only [List.mem_cons, rg_mem, List.not_mem_nil, or_false, not_or]; omega)
            have G4_0 := zset_ne (q := pn_1) (e' := (q111, zI4 E 6 (upd (upd (upd (fun _ => 0) 0 (nI co)) 1 (nI rr)) 2 (nI le)))) (by omega) G3_0
            have G4_1 := zset_ne (q := pn_1) (e' := (q111, zI4 E 6 (upd (upd (upd (fun _ => 0) 0 (nI co)) 1 (nI rr)) 2 (nI le)))) (by omega) G3_1
            have G4_2 := zset_ne (q := pn_1) (e' := (q111, zI4 E 6 (upd (upd (upd (fun _ => 0) 0 (nI co)) 1 (nI rr)) 2 (nI le)))) (by omega) G3_2
            have G4_3 := zset_ne (q := pn_1) (e' := (q111, zI4 E 6 (upd (upd (upd (fun _ => 0) 0 (nI co)) 1 (nI rr)) 2 (nI le)))) (by omega) G3_3
            have G4_4 := zset_ne (q := pn_1) (e' := (q111, zI4 E 6 (upd (upd (upd (fun _ => 0) 0 (nI co)) 1 (nI rr)) 2 (nI le)))) (by omega) G3_4
            have G4_5 := zset_ne (q := pn_1) (e' := (q111, zI4 E 6 (upd (upd (upd (fun _ => 0) 0 (nI co)) 1 (nI rr)) 2 (nI le)))) (by omega) G3_5
            have G4_6 := zset_ne (q := pn_1) (e' := (q111, zI4 E 6 (upd (upd (upd (fun _ => 0) 0 (nI co)) 1 (nI rr)) 2 (nI le)))) (by omega) G3_6
            have G4_7 := zset_ne (q := pn_1) (e' := (q111, zI4 E 6 (upd (upd (upd (fun _ => 0) 0 (nI co)) 1 (nI rr)) 2 (nI le)))) (by omega) G3_7
            have G4_8 := zset_ne (q := pn_1) (e' := (q111, zI4 E 6 (upd (upd (upd (fun _ => 0) 0 (nI co)) 1 (nI rr)) 2 (nI le)))) (by omega) G3_8
            have G4_9 := zset_ne (q := pn_1) (e' := (q111, zI4 E 6 (upd (upd (upd (fun _ => 0) 0 (nI co)) 1 (nI rr)) 2 (nI le)))) (by omega) G3_9
            have G4_10 := zset_ne (q := pn_1) (e' := (q111, zI4 E 6 (upd (upd (upd (fun _ => 0) 0 (nI co)) 1 (nI rr)) 2 (nI le)))) (by omega) G3_10
            have G4_11 := zset_ne (q := pn_1) (e' := (q111, zI4 E 6 (upd (upd (upd (fun _ => 0) 0 (nI co)) 1 (nI rr)) 2 (nI le)))) (by omega) G3_11
            have G4_12 := zset_ne (q := pn_1) (e' := (q111, zI4 E 6 (upd (upd (upd (fun _ => 0) 0 (nI co)) 1 (nI rr)) 2 (nI le)))) (by omega) G3_12
            have G4_13 := zset_ne (q := pn_1) (e' := (q111, zI4 E 6 (upd (upd (upd (fun _ => 0) 0 (nI co)) 1 (nI rr)) 2 (nI le)))) (by omega) G3_13
            have G4_14 := zset_ne (q := pn_1) (e' := (q111, zI4 E 6 (upd (upd (upd (fun _ => 0) 0 (nI co)) 1 (nI rr)) 2 (nI le)))) (by omega) G3_14
            have G4_15 := zset_eq (e' := (q111, zI4 E 6 (upd (upd (upd (fun _ => 0) 0 (nI co)) 1 (nI rr)) 2 (nI le)))) G3_15
            generalize hws4 : (ws_3.set pn_1 (q111, zI4 E 6 (upd (upd (upd (fun _ => 0) 0 (nI co)) 1 (nI rr)) 2 (nI le)))) = ws_4 at J hk G4_0 G4_1 G4_2 G4_3 G4_4 G4_5 G4_6 G4_7 G4_8 G4_9 G4_10 G4_11 G4_12 G4_13 G4_14 G4_15 hF hR hSN
            refine lv_dup hx hb dL_act_167 rfl ?_
            refine lv_iconst (v := nI 3) hx hb dL_act_168 rfl ?_
            have join_179 : ∀ (ls : Array Slot), lv_has ls 12 [(5, .int (nI le)), (4, .int dn), (3, .int (nI nf)), (0, .ref x), (1, .ref z), (2, .int xv)] → W p l e (headSpec wsL_act2 ({ frames := 8, cells := 20, slots := 120, locals := 129 } : Room)).room s m args below meth c H locs 1 6 QQ (F0 m 179 ls [.int dn, .int (nI 3), .ref q111, .ref q111]) := by
              intro ls hl
              refine z_iast X J pn_1 G4_15 (vp_in_nI (by omega) (by first | decide | omega)) dL_act_179 (fun H locs J => ?_)
              rw [show upd (upd (upd (upd (fun _ => 0) 0 (nI co)) 1 (nI rr)) 2 (nI le)) (nI 3).toNatClampNeg dn = upd (upd (upd (upd (fun _ => 0) 0 (nI co)) 1 (nI rr)) 2 (nI le)) 3 dn from (by rw [nI_clamp (by omega)])] at J
              have hF := hF.keepS (zK.set (S := [pn_1]) (ws := ws_4) (q := pn_1) (e := (q111, zI4 E 6 (upd (upd (upd (upd (fun _ => 0) 0 (nI co)) 1 (nI rr)) 2 (nI le)) 3 dn))) (List.mem_singleton.mpr rfl)) (fun q9 hq9 => Or.inr ⟨_, _, (List.mem_singleton.mp hq9).symm ▸ G4_15, noL_I⟩)
              have hR := hR.keepS (zK.set (S := [pn_1]) (ws := ws_4) (q := pn_1) (e := (q111, zI4 E 6 (upd (upd (upd (upd (fun _ => 0) 0 (nI co)) 1 (nI rr)) 2 (nI le)) 3 dn))) (List.mem_singleton.mpr rfl)) (fun q9 hq9 => Or.inr ⟨_, _, (List.mem_singleton.mp hq9).symm ▸ G4_15, noL_I⟩)
              have hSN := hSN.keep (zK.set (S := [pn_1]) (ws := ws_4) (q := pn_1) (e := (q111, zI4 E 6 (upd (upd (upd (upd (fun _ => 0) 0 (nI co)) 1 (nI rr)) 2 (nI le)) 3 dn))) (List.mem_singleton.mpr rfl)) (fun r9 hr9 => by simp only [List.mem_cons, rg_mem, List.not_mem_nil, or_false, not_or]; omega)
              have hk := hk.step (zK.set (S := [pn_1]) (ws := ws_4) (q := pn_1) (e := (q111, zI4 E 6 (upd (upd (upd (upd (fun _ => 0) 0 (nI co)) 1 (nI rr)) 2 (nI le)) 3 dn))) (List.mem_singleton.mpr rfl)) (fun q9 a9 n9 f9 h8 h7 h9 => by simp only [List.mem_cons, rg_mem, List.not_mem_nil, or_false, not_or]; omega)
              have G5_0 := zset_ne (q := pn_1) (e' := (q111, zI4 E 6 (upd (upd (upd (upd (fun _ => 0) 0 (nI co)) 1 (nI rr)) 2 (nI le)) 3 dn))) (by omega) G4_0
              have G5_1 := zset_ne (q := pn_1) (e' := (q111, zI4 E 6 (upd (upd (upd (upd (fun _ => 0) 0 (nI co)) 1 (nI rr)) 2 (nI le)) 3 dn))) (by omega) G4_1
              have G5_2 := zset_ne (q := pn_1) (e' := (q111, zI4 E 6 (upd (upd (upd (upd (fun _ => 0) 0 (nI co)) 1 (nI rr)) 2 (nI le)) 3 dn))) (by omega) G4_2
              have G5_3 := zset_ne (q := pn_1) (e' := (q111, zI4 E 6 (upd (upd (upd (upd (fun _ => 0) 0 (nI co)) 1 (nI rr)) 2 (nI le)) 3 dn))) (by omega) G4_3
              have G5_4 := zset_ne (q := pn_1) (e' := (q111, zI4 E 6 (upd (upd (upd (upd (fun _ => 0) 0 (nI co)) 1 (nI rr)) 2 (nI le)) 3 dn))) (by omega) G4_4
              have G5_5 := zset_ne (q := pn_1) (e' := (q111, zI4 E 6 (upd (upd (upd (upd (fun _ => 0) 0 (nI co)) 1 (nI rr)) 2 (nI le)) 3 dn))) (by omega) G4_5
              have G5_6 := zset_ne (q := pn_1) (e' := (q111, zI4 E 6 (upd (upd (upd (upd (fun _ => 0) 0 (nI co)) 1 (nI rr)) 2 (nI le)) 3 dn))) (by omega) G4_6
              have G5_7 := zset_ne (q := pn_1) (e' := (q111, zI4 E 6 (upd (upd (upd (upd (fun _ => 0) 0 (nI co)) 1 (nI rr)) 2 (nI le)) 3 dn))) (by omega) G4_7
              have G5_8 := zset_ne (q := pn_1) (e' := (q111, zI4 E 6 (upd (upd (upd (upd (fun _ => 0) 0 (nI co)) 1 (nI rr)) 2 (nI le)) 3 dn))) (by omega) G4_8
              have G5_9 := zset_ne (q := pn_1) (e' := (q111, zI4 E 6 (upd (upd (upd (upd (fun _ => 0) 0 (nI co)) 1 (nI rr)) 2 (nI le)) 3 dn))) (by omega) G4_9
              have G5_10 := zset_ne (q := pn_1) (e' := (q111, zI4 E 6 (upd (upd (upd (upd (fun _ => 0) 0 (nI co)) 1 (nI rr)) 2 (nI le)) 3 dn))) (by omega) G4_10
              have G5_11 := zset_ne (q := pn_1) (e' := (q111, zI4 E 6 (upd (upd (upd (upd (fun _ => 0) 0 (nI co)) 1 (nI rr)) 2 (nI le)) 3 dn))) (by omega) G4_11
              have G5_12 := zset_ne (q := pn_1) (e' := (q111, zI4 E 6 (upd (upd (upd (upd (fun _ => 0) 0 (nI co)) 1 (nI rr)) 2 (nI le)) 3 dn))) (by omega) G4_12
              have G5_13 := zset_ne (q := pn_1) (e' := (q111, zI4 E 6 (upd (upd (upd (upd (fun _ => 0) 0 (nI co)) 1 (nI rr)) 2 (nI le)) 3 dn))) (by omega) G4_13
              have G5_14 := zset_ne (q := pn_1) (e' := (q111, zI4 E 6 (upd (upd (upd (upd (fun _ => 0) 0 (nI co)) 1 (nI rr)) 2 (nI le)) 3 dn))) (by omega) G4_14
              have G5_15 := zset_eq (e' := (q111, zI4 E 6 (upd (upd (upd (upd (fun _ => 0) 0 (nI co)) 1 (nI rr)) 2 (nI le)) 3 dn))) G4_15
              generalize hws5 : (ws_4.set pn_1 (q111, zI4 E 6 (upd (upd (upd (upd (fun _ => 0) 0 (nI co)) 1 (nI rr)) 2 (nI le)) 3 dn))) = ws_5 at J hk G5_0 G5_1 G5_2 G5_3 G5_4 G5_5 G5_6 G5_7 G5_8 G5_9 G5_10 G5_11 G5_12 G5_13 G5_14 G5_15 hF hR hSN
              refine lv_dup hx hb dL_act_180 rfl ?_
              refine lv_iconst (v := nI 4) hx hb dL_act_181 rfl ?_
              have join_208 : ∀ (ls : Array Slot) (he : Nat) (hhe : 1 ≤ he ∧ he ≤ 9), lv_has ls 12 [(5, .int (nI le)), (4, .int dn), (3, .int (nI nf)), (0, .ref x), (1, .ref z), (2, .int xv)] → W p l e (headSpec wsL_act2 ({ frames := 8, cells := 20, slots := 120, locals := 129 } : Room)).room s m args below meth c H locs 1 6 QQ (F0 m 208 ls [.int (nI he), .int (nI 4), .ref q111, .ref q111]) := by
                intro ls he hhe hl
                refine z_iast X J pn_1 G5_15 (vp_in_nI (by omega) (by first | decide | omega)) dL_act_208 (fun H locs J => ?_)
                rw [show upd (upd (upd (upd (upd (fun _ => 0) 0 (nI co)) 1 (nI rr)) 2 (nI le)) 3 dn) (nI 4).toNatClampNeg (nI he) = upd (upd (upd (upd (upd (fun _ => 0) 0 (nI co)) 1 (nI rr)) 2 (nI le)) 3 dn) 4 (nI he) from (by rw [nI_clamp (by omega)])] at J
                have hF := hF.keepS (zK.set (S := [pn_1]) (ws := ws_5) (q := pn_1) (e := (q111, zI4 E 6 (upd (upd (upd (upd (upd (fun _ => 0) 0 (nI co)) 1 (nI rr)) 2 (nI le)) 3 dn) 4 (nI he)))) (List.mem_singleton.mpr rfl)) (fun q9 hq9 => Or.inr ⟨_, _, (List.mem_singleton.mp hq9).symm ▸ G5_15, noL_I⟩)
                have hR := hR.keepS (zK.set (S := [pn_1]) (ws := ws_5) (q := pn_1) (e := (q111, zI4 E 6 (upd (upd (upd (upd (upd (fun _ => 0) 0 (nI co)) 1 (nI rr)) 2 (nI le)) 3 dn) 4 (nI he)))) (List.mem_singleton.mpr rfl)) (fun q9 hq9 => Or.inr ⟨_, _, (List.mem_singleton.mp hq9).symm ▸ G5_15, noL_I⟩)
                have hSN := hSN.keep (zK.set (S := [pn_1]) (ws := ws_5) (q := pn_1) (e := (q111, zI4 E 6 (upd (upd (upd (upd (upd (fun _ => 0) 0 (nI co)) 1 (nI rr)) 2 (nI le)) 3 dn) 4 (nI he)))) (List.mem_singleton.mpr rfl)) (fun r9 hr9 => by simp only [List.mem_cons, rg_mem, List.not_mem_nil, or_false, not_or]; omega)
                have hk := hk.step (zK.set (S := [pn_1]) (ws := ws_5) (q := pn_1) (e := (q111, zI4 E 6 (upd (upd (upd (upd (upd (fun _ => 0) 0 (nI co)) 1 (nI rr)) 2 (nI le)) 3 dn) 4 (nI he)))) (List.mem_singleton.mpr rfl)) (fun q9 a9 n9 f9 h8 h7 h9 => by simp only [List.mem_cons, rg_mem, List.not_mem_nil, or_false, not_or]; omega)
                have G6_0 := zset_ne (q := pn_1) (e' := (q111, zI4 E 6 (upd (upd (upd (upd (upd (fun _ => 0) 0 (nI co)) 1 (nI rr)) 2 (nI le)) 3 dn) 4 (nI he)))) (by omega) G5_0
                have G6_1 := zset_ne (q := pn_1) (e' := (q111, zI4 E 6 (upd (upd (upd (upd (upd (fun _ => 0) 0 (nI co)) 1 (nI rr)) 2 (nI le)) 3 dn) 4 (nI he)))) (by omega) G5_1
                have G6_2 := zset_ne (q := pn_1) (e' := (q111, zI4 E 6 (upd (upd (upd (upd (upd (fun _ => 0) 0 (nI co)) 1 (nI rr)) 2 (nI le)) 3 dn) 4 (nI he)))) (by omega) G5_2
                have G6_3 := zset_ne (q := pn_1) (e' := (q111, zI4 E 6 (upd (upd (upd (upd (upd (fun _ => 0) 0 (nI co)) 1 (nI rr)) 2 (nI le)) 3 dn) 4 (nI he)))) (by omega) G5_3
                have G6_4 := zset_ne (q := pn_1) (e' := (q111, zI4 E 6 (upd (upd (upd (upd (upd (fun _ => 0) 0 (nI co)) 1 (nI rr)) 2 (nI le)) 3 dn) 4 (nI he)))) (by omega) G5_4
                have G6_5 := zset_ne (q := pn_1) (e' := (q111, zI4 E 6 (upd (upd (upd (upd (upd (fun _ => 0) 0 (nI co)) 1 (nI rr)) 2 (nI le)) 3 dn) 4 (nI he)))) (by omega) G5_5
                have G6_6 := zset_ne (q := pn_1) (e' := (q111, zI4 E 6 (upd (upd (upd (upd (upd (fun _ => 0) 0 (nI co)) 1 (nI rr)) 2 (nI le)) 3 dn) 4 (nI he)))) (by omega) G5_6
                have G6_7 := zset_ne (q := pn_1) (e' := (q111, zI4 E 6 (upd (upd (upd (upd (upd (fun _ => 0) 0 (nI co)) 1 (nI rr)) 2 (nI le)) 3 dn) 4 (nI he)))) (by omega) G5_7
                have G6_8 := zset_ne (q := pn_1) (e' := (q111, zI4 E 6 (upd (upd (upd (upd (upd (fun _ => 0) 0 (nI co)) 1 (nI rr)) 2 (nI le)) 3 dn) 4 (nI he)))) (by omega) G5_8
                have G6_9 := zset_ne (q := pn_1) (e' := (q111, zI4 E 6 (upd (upd (upd (upd (upd (fun _ => 0) 0 (nI co)) 1 (nI rr)) 2 (nI le)) 3 dn) 4 (nI he)))) (by omega) G5_9
                have G6_10 := zset_ne (q := pn_1) (e' := (q111, zI4 E 6 (upd (upd (upd (upd (upd (fun _ => 0) 0 (nI co)) 1 (nI rr)) 2 (nI le)) 3 dn) 4 (nI he)))) (by omega) G5_10
                have G6_11 := zset_ne (q := pn_1) (e' := (q111, zI4 E 6 (upd (upd (upd (upd (upd (fun _ => 0) 0 (nI co)) 1 (nI rr)) 2 (nI le)) 3 dn) 4 (nI he)))) (by omega) G5_11
                have G6_12 := zset_ne (q := pn_1) (e' := (q111, zI4 E 6 (upd (upd (upd (upd (upd (fun _ => 0) 0 (nI co)) 1 (nI rr)) 2 (nI le)) 3 dn) 4 (nI he)))) (by omega) G5_12
                have G6_13 := zset_ne (q := pn_1) (e' := (q111, zI4 E 6 (upd (upd (upd (upd (upd (fun _ => 0) 0 (nI co)) 1 (nI rr)) 2 (nI le)) 3 dn) 4 (nI he)))) (by omega) G5_13
                have G6_14 := zset_ne (q := pn_1) (e' := (q111, zI4 E 6 (upd (upd (upd (upd (upd (fun _ => 0) 0 (nI co)) 1 (nI rr)) 2 (nI le)) 3 dn) 4 (nI he)))) (by omega) G5_14
                have G6_15 := zset_eq (e' := (q111, zI4 E 6 (upd (upd (upd (upd (upd (fun _ => 0) 0 (nI co)) 1 (nI rr)) 2 (nI le)) 3 dn) 4 (nI he)))) G5_15
                generalize hws6 : (ws_5.set pn_1 (q111, zI4 E 6 (upd (upd (upd (upd (upd (fun _ => 0) 0 (nI co)) 1 (nI rr)) 2 (nI le)) 3 dn) 4 (nI he)))) = ws_6 at J hk G6_0 G6_1 G6_2 G6_3 G6_4 G6_5 G6_6 G6_7 G6_8 G6_9 G6_10 G6_11 G6_12 G6_13 G6_14 G6_15 hF hR hSN
                refine lv_dup hx hb dL_act_209 rfl ?_
                refine lv_iconst (v := nI 5) hx hb dL_act_210 rfl ?_
                refine lv_iload_n hx hb dL_act_211 rfl (lv_at hl 5 rfl) ?_
                refine lv_bipush (v := 8) hx hb dL_act_212 (by decide) ?_
                refine lv_ishr hx hb dL_act_214 ?_
                refine lv_iconst (v := nI 4) hx hb dL_act_215 rfl ?_
                obtain ⟨ga, hga⟩ : ∃ q9 : Nat, q9 = bln (xv >>> (8 &&& 31)) (4) := ⟨_, rfl⟩
                have bga := bln_lt (v := xv >>> (8 &&& 31)) (n := 4) (by omega)
                refine z_cr (z_rS (As := [.int (xv >>> (8 &&& 31)), .int (nI 4)]) (rest := [.int (nI 5), .ref q111, .ref q111]) X J (cL_below_ok l E (by first | assumption | omega | decide) (by first | assumption | omega | decide)) (va_cwS 2 hts (goodIn_ext2 gL_act_L_below) rfl rfl rfl (by decide +kernel) ⟨Nat.le_of_ble_eq_true rfl, Nat.le_of_ble_eq_true rfl⟩) rfl hl.1 rfl (Nat.le_of_ble_eq_true rfl) dL_act_216 ⟨Nat.le_of_ble_eq_true rfl, Nat.le_of_ble_eq_true rfl⟩) (fun r216 e_r216 => ?_)
                subst e_r216
                refine W.eq (g2 := F0 m 219 ls [.int (nI ga), .int (nI 5), .ref q111, .ref q111]) (congrArg (fun z9 : Int32 => F0 m 219 ls [.int z9, .int (nI 5), .ref q111, .ref q111]) (show (nI (bln (xv >>> (8 &&& 31)) 4) : Int32) = nI ga from (by rw [hga]))) ?_
                refine z_iast X J pn_1 G6_15 (vp_in_nI (by omega) (by first | decide | omega)) dL_act_219 (fun H locs J => ?_)
                rw [show upd (upd (upd (upd (upd (upd (fun _ => 0) 0 (nI co)) 1 (nI rr)) 2 (nI le)) 3 dn) 4 (nI he)) (nI 5).toNatClampNeg (nI ga) = upd (upd (upd (upd (upd (upd (fun _ => 0) 0 (nI co)) 1 (nI rr)) 2 (nI le)) 3 dn) 4 (nI he)) 5 (nI ga) from (by rw [nI_clamp (by omega)])] at J
                have hF := hF.keepS (zK.set (S := [pn_1]) (ws := ws_6) (q := pn_1) (e := (q111, zI4 E 6 (upd (upd (upd (upd (upd (upd (fun _ => 0) 0 (nI co)) 1 (nI rr)) 2 (nI le)) 3 dn) 4 (nI he)) 5 (nI ga)))) (List.mem_singleton.mpr rfl)) (fun q9 hq9 => Or.inr ⟨_, _, (List.mem_singleton.mp hq9).symm ▸ G6_15, noL_I⟩)
                have hR := hR.keepS (zK.set (S := [pn_1]) (ws := ws_6) (q := pn_1) (e := (q111, zI4 E 6 (upd (upd (upd (upd (upd (upd (fun _ => 0) 0 (nI co)) 1 (nI rr)) 2 (nI le)) 3 dn) 4 (nI he)) 5 (nI ga)))) (List.mem_singleton.mpr rfl)) (fun q9 hq9 => Or.inr ⟨_, _, (List.mem_singleton.mp hq9).symm ▸ G6_15, noL_I⟩)
                have hSN := hSN.keep (zK.set (S := [pn_1]) (ws := ws_6) (q := pn_1) (e := (q111, zI4 E 6 (upd (upd (upd (upd (upd (upd (fun _ => 0) 0 (nI co)) 1 (nI rr)) 2 (nI le)) 3 dn) 4 (nI he)) 5 (nI ga)))) (List.mem_singleton.mpr rfl)) (fun r9 hr9 => by simp only [List.mem_cons, rg_mem, List.not_mem_nil, or_false, not_or]; omega)
                have hk := hk.step (zK.set (S := [pn_1]) (ws := ws_6) (q := pn_1) (e := (q111, zI4 E 6 (upd (upd (upd (upd (upd (upd (fun _ => 0) 0 (nI co)) 1 (nI rr)) 2 (nI le)) 3 dn) 4 (nI he)) 5 (nI ga)))) (List.mem_singleton.mpr rfl)) (fun q9 a9 n9 f9 h8 h7 h9 => by simp only [List.mem_cons, rg_mem, List.not_mem_nil, or_false, not_or]; omega)
                have G7_0 := zset_ne (q := pn_1) (e' := (q111, zI4 E 6 (upd (upd (upd (upd (upd (upd (fun _ => 0) 0 (nI co)) 1 (nI rr)) 2 (nI le)) 3 dn) 4 (nI he)) 5 (nI ga)))) (by omega) G6_0
                have G7_1 := zset_ne (q := pn_1) (e' := (q111, zI4 E 6 (upd (upd (upd (upd (upd (upd (fun _ => 0) 0 (nI co)) 1 (nI rr)) 2 (nI le)) 3 dn) 4 (nI he)) 5 (nI ga)))) (by omega) G6_1
                have G7_2 := zset_ne (q := pn_1) (e' := (q111, zI4 E 6 (upd (upd (upd (upd (upd (upd (fun _ => 0) 0 (nI co)) 1 (nI rr)) 2 (nI le)) 3 dn) 4 (nI he)) 5 (nI ga)))) (by omega) G6_2
                have G7_3 := zset_ne (q := pn_1) (e' := (q111, zI4 E 6 (upd (upd (upd (upd (upd (upd (fun _ => 0) 0 (nI co)) 1 (nI rr)) 2 (nI le)) 3 dn) 4 (nI he)) 5 (nI ga)))) (by omega) G6_3
                have G7_4 := zset_ne (q := pn_1) (e' := (q111, zI4 E 6 (upd (upd (upd (upd (upd (upd (fun _ => 0) 0 (nI co)) 1 (nI rr)) 2 (nI le)) 3 dn) 4 (nI he)) 5 (nI ga)))) (by omega) G6_4
                have G7_5 := zset_ne (q := pn_1) (e' := (q111, zI4 E 6 (upd (upd (upd (upd (upd (upd (fun _ => 0) 0 (nI co)) 1 (nI rr)) 2 (nI le)) 3 dn) 4 (nI he)) 5 (nI ga)))) (by omega) G6_5
                have G7_6 := zset_ne (q := pn_1) (e' := (q111, zI4 E 6 (upd (upd (upd (upd (upd (upd (fun _ => 0) 0 (nI co)) 1 (nI rr)) 2 (nI le)) 3 dn) 4 (nI he)) 5 (nI ga)))) (by omega) G6_6
                have G7_7 := zset_ne (q := pn_1) (e' := (q111, zI4 E 6 (upd (upd (upd (upd (upd (upd (fun _ => 0) 0 (nI co)) 1 (nI rr)) 2 (nI le)) 3 dn) 4 (nI he)) 5 (nI ga)))) (by omega) G6_7
                have G7_8 := zset_ne (q := pn_1) (e' := (q111, zI4 E 6 (upd (upd (upd (upd (upd (upd (fun _ => 0) 0 (nI co)) 1 (nI rr)) 2 (nI le)) 3 dn) 4 (nI he)) 5 (nI ga)))) (by omega) G6_8
                have G7_9 := zset_ne (q := pn_1) (e' := (q111, zI4 E 6 (upd (upd (upd (upd (upd (upd (fun _ => 0) 0 (nI co)) 1 (nI rr)) 2 (nI le)) 3 dn) 4 (nI he)) 5 (nI ga)))) (by omega) G6_9
                have G7_10 := zset_ne (q := pn_1) (e' := (q111, zI4 E 6 (upd (upd (upd (upd (upd (upd (fun _ => 0) 0 (nI co)) 1 (nI rr)) 2 (nI le)) 3 dn) 4 (nI he)) 5 (nI ga)))) (by omega) G6_10
                have G7_11 := zset_ne (q := pn_1) (e' := (q111, zI4 E 6 (upd (upd (upd (upd (upd (upd (fun _ => 0) 0 (nI co)) 1 (nI rr)) 2 (nI le)) 3 dn) 4 (nI he)) 5 (nI ga)))) (by omega) G6_11
                have G7_12 := zset_ne (q := pn_1) (e' := (q111, zI4 E 6 (upd (upd (upd (upd (upd (upd (fun _ => 0) 0 (nI co)) 1 (nI rr)) 2 (nI le)) 3 dn) 4 (nI he)) 5 (nI ga)))) (by omega) G6_12
                have G7_13 := zset_ne (q := pn_1) (e' := (q111, zI4 E 6 (upd (upd (upd (upd (upd (upd (fun _ => 0) 0 (nI co)) 1 (nI rr)) 2 (nI le)) 3 dn) 4 (nI he)) 5 (nI ga)))) (by omega) G6_13
                have G7_14 := zset_ne (q := pn_1) (e' := (q111, zI4 E 6 (upd (upd (upd (upd (upd (upd (fun _ => 0) 0 (nI co)) 1 (nI rr)) 2 (nI le)) 3 dn) 4 (nI he)) 5 (nI ga)))) (by omega) G6_14
                have G7_15 := zset_eq (e' := (q111, zI4 E 6 (upd (upd (upd (upd (upd (upd (fun _ => 0) 0 (nI co)) 1 (nI rr)) 2 (nI le)) 3 dn) 4 (nI he)) 5 (nI ga)))) G6_15
                generalize hws7 : (ws_6.set pn_1 (q111, zI4 E 6 (upd (upd (upd (upd (upd (upd (fun _ => 0) 0 (nI co)) 1 (nI rr)) 2 (nI le)) 3 dn) 4 (nI he)) 5 (nI ga)))) = ws_7 at J hk G7_0 G7_1 G7_2 G7_3 G7_4 G7_5 G7_6 G7_7 G7_8 G7_9 G7_10 G7_11 G7_12 G7_13 G7_14 G7_15 hF hR hSN
                refine lv_astore (lv' := [(6, .ref q111), (5, .int (nI le)), (4, .int dn), (3, .int (nI nf)), (0, .ref x), (1, .ref z), (2, .int xv)]) hx hb dL_act_220 hl (by decide) rfl (fun ls hl => ?_)
                have hd9 : (dn = 0 ∧ co + le ≤ 20 ∧ rr < 20) ∨ (dn = 1 ∧ rr + le ≤ 20 ∧ co < 20) := by
                  rcases hnc with ⟨h1, h2⟩ | ⟨h1, h2⟩ <;> rcases hnr9 with ⟨h3, h4⟩ | ⟨h3, h4⟩
                  · exact Or.inl ⟨h1, by omega, by omega⟩
                  · exact absurd (h1.symm.trans h3) (by decide)
                  · exact absurd (h3.symm.trans h1) (by decide)
                  · exact Or.inr ⟨h1, by omega, by omega⟩
                refine lv_aload_n hx hb dL_act_222 rfl (lv_at hl 5 rfl) ?_
                refine lv_aload_n hx hb dL_act_223 rfl (lv_at hl 5 rfl) ?_
                refine z_get (C := RX7) (T := TX7) (N := 8) (ci := 8) (v := .ref fe) X J hi_X7 11 G7_11 rfl 0 (by decide) (by decide +kernel) rfl dL_act_224 ?_
                refine lv_aload hx hb dL_act_227 (lv_at hl 0 rfl) ?_
                refine z_cq J (z_rS (As := [.ref fe, .ref q111]) (rest := [.ref z]) X J (cX7_with_ok l E G7_13 G7_15 (fun j9 hj9 => (hSE.keepI hk j9 hj9).elim (fun a9 h9 => h9.elim (fun q9 h9 => h9.elim (fun f9 h9 => ⟨a9, q9, 6, f9, h9.1, h9.2.2.1⟩)))) hnf) (va_cwS 2 hts (goodIn_ext2 gL_act_X7_with) rfl rfl rfl (by decide +kernel) ⟨Nat.le_of_ble_eq_true rfl, Nat.le_of_ble_eq_true rfl⟩) rfl hl.1 rfl (Nat.le_of_ble_eq_true rfl) dL_act_229 ⟨by show _ ≤ 20; omega, by show _ ≤ 120; omega⟩) (fun r229 ws_8 H locs hp9 J => ?_)
                obtain ⟨k8, ⟨nq_8, hlen8, N8_0, e_r229⟩⟩ := hp9
                have hF := hF.keepS k8 (fun q9 hq9 => absurd hq9 List.not_mem_nil)
                have hR := hR.keepS k8 (fun q9 hq9 => absurd hq9 List.not_mem_nil)
                have hSN := hSN.keep k8 (fun _ _ => List.not_mem_nil)
                have lp8 := hk.1
                have b_8_0 := zlt G7_0
                have b_8_1 := zlt G7_1
                have b_8_2 := zlt G7_2
                have b_8_3 := zlt G7_3
                have b_8_4 := zlt G7_4
                have b_8_5 := zlt G7_5
                have b_8_6 := zlt G7_6
                have b_8_7 := zlt G7_7
                have b_8_8 := zlt G7_8
                have b_8_9 := zlt G7_9
                have b_8_10 := zlt G7_10
                have b_8_11 := zlt G7_11
                have b_8_12 := zlt G7_12
                have b_8_13 := zlt G7_13
                have b_8_14 := zlt G7_14
                have b_8_15 := zlt G7_15
                have hk := hk.step k8 (fun _ _ _ _ _ _ _ => List.not_mem_nil)
                have G8_0 := k8.2 0 _ List.not_mem_nil G7_0
                have G8_1 := k8.2 1 _ List.not_mem_nil G7_1
                have G8_2 := k8.2 2 _ List.not_mem_nil G7_2
                have G8_3 := k8.2 3 _ List.not_mem_nil G7_3
                have G8_4 := k8.2 4 _ List.not_mem_nil G7_4
                have G8_5 := k8.2 5 _ List.not_mem_nil G7_5
                have G8_6 := k8.2 6 _ List.not_mem_nil G7_6
                have G8_7 := k8.2 7 _ List.not_mem_nil G7_7
                have G8_8 := k8.2 8 _ List.not_mem_nil G7_8
                have G8_9 := k8.2 9 _ List.not_mem_nil G7_9
                have G8_10 := k8.2 10 _ List.not_mem_nil G7_10
                have G8_11 := k8.2 11 _ List.not_mem_nil G7_11
                have G8_12 := k8.2 14 _ List.not_mem_nil G7_12
                have G8_13 := k8.2 qf _ List.not_mem_nil G7_13
                have G8_14 := k8.2 qr _ List.not_mem_nil G7_14
                have G8_15 := k8.2 pn_1 _ List.not_mem_nil G7_15
                obtain ⟨pn_8_0, hpn_8_0⟩ : ∃ z : Nat, z = ws_7.length + 0 := ⟨_, rfl⟩
                rw [← hpn_8_0] at N8_0
                subst e_r229
                refine W.eq (g2 := F0 m 232 ls [.ref nq_8, .ref z]) rfl ?_
                refine z_put (C := RX7) (T := TX7) (N := 8) (ci := 8) (v := .ref nq_8) X J hi_X7 tyX7 tyX7_ok nmX7 11 G8_11 rfl 0 (by decide) (by decide +kernel) rfl rfl rfl (Nat.le_of_ble_eq_true rfl) dL_act_232 (fun H locs J => ?_)
                have J : zJ E (ws_8.set 11 (z, .inr (8, [.ref nq_8, .ref ro, .ref sa, .int lim, .int sup, .int off, .int plo, .int hrs]))) s H locs := J
                have hF := hF.keepS (zK.set (S := [11]) (ws := ws_8) (q := 11) (e := (z, .inr (8, [.ref nq_8, .ref ro, .ref sa, .int lim, .int sup, .int off, .int plo, .int hrs]))) (List.mem_singleton.mpr rfl)) (fun q9 hq9 => Or.inl (by simp only [List.mem_cons, rg_mem, List.not_mem_nil, or_false, not_or] at hq9; omega))
                have hR := hR.keepS (zK.set (S := [11]) (ws := ws_8) (q := 11) (e := (z, .inr (8, [.ref nq_8, .ref ro, .ref sa, .int lim, .int sup, .int off, .int plo, .int hrs]))) (List.mem_singleton.mpr rfl)) (fun q9 hq9 => Or.inl (by simp only [List.mem_cons, rg_mem, List.not_mem_nil, or_false, not_or] at hq9; omega))
                have hSN := hSN.keep (zK.set (S := [11]) (ws := ws_8) (q := 11) (e := (z, .inr (8, [.ref nq_8, .ref ro, .ref sa, .int lim, .int sup, .int off, .int plo, .int hrs]))) (List.mem_singleton.mpr rfl)) (fun r9 hr9 => by simp only [List.mem_cons, rg_mem, List.not_mem_nil, or_false, not_or]; omega)
                have hk := hk.step (zK.set (S := [11]) (ws := ws_8) (q := 11) (e := (z, .inr (8, [.ref nq_8, .ref ro, .ref sa, .int lim, .int sup, .int off, .int plo, .int hrs]))) (List.mem_singleton.mpr rfl)) (fun q9 a9 n9 f9 h8 h7 h9 => by simp only [List.mem_cons, rg_mem, List.not_mem_nil, or_false, not_or]; omega)
                have G9_0 := zset_ne (q := 11) (e' := (z, .inr (8, [.ref nq_8, .ref ro, .ref sa, .int lim, .int sup, .int off, .int plo, .int hrs]))) (by decide) G8_0
                have G9_1 := zset_ne (q := 11) (e' := (z, .inr (8, [.ref nq_8, .ref ro, .ref sa, .int lim, .int sup, .int off, .int plo, .int hrs]))) (by decide) G8_1
                have G9_2 := zset_ne (q := 11) (e' := (z, .inr (8, [.ref nq_8, .ref ro, .ref sa, .int lim, .int sup, .int off, .int plo, .int hrs]))) (by decide) G8_2
                have G9_3 := zset_ne (q := 11) (e' := (z, .inr (8, [.ref nq_8, .ref ro, .ref sa, .int lim, .int sup, .int off, .int plo, .int hrs]))) (by decide) G8_3
                have G9_4 := zset_ne (q := 11) (e' := (z, .inr (8, [.ref nq_8, .ref ro, .ref sa, .int lim, .int sup, .int off, .int plo, .int hrs]))) (by decide) G8_4
                have G9_5 := zset_ne (q := 11) (e' := (z, .inr (8, [.ref nq_8, .ref ro, .ref sa, .int lim, .int sup, .int off, .int plo, .int hrs]))) (by decide) G8_5
                have G9_6 := zset_ne (q := 11) (e' := (z, .inr (8, [.ref nq_8, .ref ro, .ref sa, .int lim, .int sup, .int off, .int plo, .int hrs]))) (by decide) G8_6
                have G9_7 := zset_ne (q := 11) (e' := (z, .inr (8, [.ref nq_8, .ref ro, .ref sa, .int lim, .int sup, .int off, .int plo, .int hrs]))) (by decide) G8_7
                have G9_8 := zset_ne (q := 11) (e' := (z, .inr (8, [.ref nq_8, .ref ro, .ref sa, .int lim, .int sup, .int off, .int plo, .int hrs]))) (by decide) G8_8
                have G9_9 := zset_ne (q := 11) (e' := (z, .inr (8, [.ref nq_8, .ref ro, .ref sa, .int lim, .int sup, .int off, .int plo, .int hrs]))) (by decide) G8_9
                have G9_10 := zset_ne (q := 11) (e' := (z, .inr (8, [.ref nq_8, .ref ro, .ref sa, .int lim, .int sup, .int off, .int plo, .int hrs]))) (by decide) G8_10
                have G9_11 := zset_eq (e' := (z, .inr (8, [.ref nq_8, .ref ro, .ref sa, .int lim, .int sup, .int off, .int plo, .int hrs]))) G8_11
                have G9_12 := zset_ne (q := 11) (e' := (z, .inr (8, [.ref nq_8, .ref ro, .ref sa, .int lim, .int sup, .int off, .int plo, .int hrs]))) (by decide) G8_12
                have G9_13 := zset_ne (q := 11) (e' := (z, .inr (8, [.ref nq_8, .ref ro, .ref sa, .int lim, .int sup, .int off, .int plo, .int hrs]))) (by omega) G8_13
                have G9_14 := zset_ne (q := 11) (e' := (z, .inr (8, [.ref nq_8, .ref ro, .ref sa, .int lim, .int sup, .int off, .int plo, .int hrs]))) (by omega) G8_14
                have G9_15 := zset_ne (q := 11) (e' := (z, .inr (8, [.ref nq_8, .ref ro, .ref sa, .int lim, .int sup, .int off, .int plo, .int hrs]))) (by omega) G8_15
                have G9_16 := zset_ne (q := 11) (e' := (z, .inr (8, [.ref nq_8, .ref ro, .ref sa, .int lim, .int sup, .int off, .int plo, .int hrs]))) (by omega) N8_0
                generalize hws9 : (ws_8.set 11 (z, .inr (8, [.ref nq_8, .ref ro, .ref sa, .int lim, .int sup, .int off, .int plo, .int hrs]))) = ws_9 at J hk G9_0 G9_1 G9_2 G9_3 G9_4 G9_5 G9_6 G9_7 G9_8 G9_9 G9_10 G9_11 G9_12 G9_13 G9_14 G9_15 G9_16 hF hR hSN
                refine lv_aload_n hx hb dL_act_235 rfl (lv_at hl 4 rfl) ?_
                refine lv_aload hx hb dL_act_236 (lv_at hl 0 rfl) ?_
                refine lv_iconst (v := nI 0) hx hb dL_act_238 rfl ?_
                refine z_iald X J pn_1 G9_15 (vp_in_nI (by omega) (by first | decide | omega)) dL_act_239 ?_
                refine W.eq (g2 := F0 m 240 ls [.int (nI co), .ref x]) (congrArg (fun z9 : Int32 => F0 m 240 ls [.int z9, .ref x]) (show ((upd (upd (upd (upd (upd (upd (fun _ => 0) 0 (nI co)) 1 (nI rr)) 2 (nI le)) 3 dn) 4 (nI he)) 5 (nI ga)) (nI 0).toNatClampNeg : Int32) = nI co from (by rw [nI_clamp (by omega)]; rfl))) ?_
                refine lv_aload hx hb dL_act_240 (lv_at hl 0 rfl) ?_
                refine lv_iconst (v := nI 1) hx hb dL_act_242 rfl ?_
                refine z_iald X J pn_1 G9_15 (vp_in_nI (by omega) (by first | decide | omega)) dL_act_243 ?_
                refine W.eq (g2 := F0 m 244 ls [.int (nI rr), .int (nI co), .ref x]) (congrArg (fun z9 : Int32 => F0 m 244 ls [.int z9, .int (nI co), .ref x]) (show ((upd (upd (upd (upd (upd (upd (fun _ => 0) 0 (nI co)) 1 (nI rr)) 2 (nI le)) 3 dn) 4 (nI he)) 5 (nI ga)) (nI 1).toNatClampNeg : Int32) = nI rr from (by rw [nI_clamp (by omega)]; rfl))) ?_
                refine lv_iload hx hb dL_act_244 (lv_at hl 1 rfl) ?_
                refine lv_iload hx hb dL_act_246 (lv_at hl 2 rfl) ?_
                refine lv_aload hx hb dL_act_248 (lv_at hl 0 rfl) ?_
                refine lv_iconst (v := nI 4) hx hb dL_act_250 rfl ?_
                refine z_iald X J pn_1 G9_15 (vp_in_nI (by omega) (by first | decide | omega)) dL_act_251 ?_
                refine W.eq (g2 := F0 m 252 ls [.int (nI he), .int dn, .int (nI le), .int (nI rr), .int (nI co), .ref x]) (congrArg (fun z9 : Int32 => F0 m 252 ls [.int z9, .int dn, .int (nI le), .int (nI rr), .int (nI co), .ref x]) (show ((upd (upd (upd (upd (upd (upd (fun _ => 0) 0 (nI co)) 1 (nI rr)) 2 (nI le)) 3 dn) 4 (nI he)) 5 (nI ga)) (nI 4).toNatClampNeg : Int32) = nI he from (by rw [nI_clamp (by omega)]; rfl))) ?_
                refine lv_aload hx hb dL_act_252 (lv_at hl 0 rfl) ?_
                refine lv_iconst (v := nI 5) hx hb dL_act_254 rfl ?_
                refine z_iald X J pn_1 G9_15 (vp_in_nI (by omega) (by first | decide | omega)) dL_act_255 ?_
                refine W.eq (g2 := F0 m 256 ls [.int (nI ga), .int (nI he), .int dn, .int (nI le), .int (nI rr), .int (nI co), .ref x]) (congrArg (fun z9 : Int32 => F0 m 256 ls [.int z9, .int (nI he), .int dn, .int (nI le), .int (nI rr), .int (nI co), .ref x]) (show ((upd (upd (upd (upd (upd (upd (fun _ => 0) 0 (nI co)) 1 (nI rr)) 2 (nI le)) 3 dn) 4 (nI he)) 5 (nI ga)) (nI 5).toNatClampNeg : Int32) = nI ga from (by rw [nI_clamp (by omega)]; rfl))) ?_
                have hJ9 := J.2.1
                have hR9 := hR
                rcases hF with ⟨hn0, he0⟩ | ⟨qe, g5, fo9, qf9, sp9, qs9, hFa⟩
                · subst hn0
                  subst he0
                  have hk0 : kFence (nI co) (nI rr) (nI le) dn (nI he) (nI ga) (nI 0) = 0 := kFence_ok (by omega) (by omega) (by omega) (by omega) (by omega) (by omega) hd9
                  refine z_xi J (z_yV (As := [.int (nI co), .int (nI rr), .int (nI le), .int dn, .int (nI he), .int (nI ga)]) (rest := []) (ci := 7) (q0 := 0) X hRz J (cX6_fence_e_ok l hflags E G9_0 G9_1 hdn) (cwV 6 hts (goodIn_ext2 gL_act_X6_fence) rfl rfl rfl (by decide +kernel) ⟨Nat.le_of_ble_eq_true rfl, Nat.le_of_ble_eq_true rfl⟩) G9_0 rfl rfl rfl hl.1 rfl (Nat.le_of_ble_eq_true rfl) dL_act_256 ⟨by show _ ≤ 20; omega, by show _ ≤ 120; omega⟩) (fun nm ce q9 H locs hp9 J h1 h2 h3 => ?_) (fun r256 ws_10 H locs hp9 J => ?_)
                  · exact False.elim (by rcases hp9 with h9 | h9 | h9 <;> exact absurd (h9.1.symm.trans hk0) (by decide))
                  obtain ⟨k10, ⟨fo_10, sp_10, nq_10, hlen10, G10_a0, N10_0, N10_1, N10_2, e_r256⟩⟩ := hp9
                  have hR := hR.keepS k10 (fun q9 hq9 => Or.inl (by simp only [List.mem_cons, rg_mem, List.not_mem_nil, or_false, not_or] at hq9; omega))
                  have hSN := hSN.keep k10 (fun r9 hr9 => by simp only [List.mem_cons, rg_mem, List.not_mem_nil, or_false, not_or]; omega)
                  have lp10 := hk.1
                  have b_10_0 := zlt G9_0
                  have b_10_1 := zlt G9_1
                  have b_10_2 := zlt G9_2
                  have b_10_3 := zlt G9_3
                  have b_10_4 := zlt G9_4
                  have b_10_5 := zlt G9_5
                  have b_10_6 := zlt G9_6
                  have b_10_7 := zlt G9_7
                  have b_10_8 := zlt G9_8
                  have b_10_9 := zlt G9_9
                  have b_10_10 := zlt G9_10
                  have b_10_11 := zlt G9_11
                  have b_10_12 := zlt G9_12
                  have b_10_13 := zlt G9_13
                  have b_10_14 := zlt G9_14
                  have b_10_15 := zlt G9_15
                  have b_10_16 := zlt G9_16
                  have hk := hk.step k10 (fun q9 a9 n9 f9 h8 h7 h9 => by simp only [List.mem_cons, rg_mem, List.not_mem_nil, or_false, not_or]; omega)
                  have G10_0 := k10.2 0 _ (by decide) G9_0
                  have G10_2 := k10.2 2 _ (by decide) G9_2
                  have G10_3 := k10.2 3 _ (by decide) G9_3
                  have G10_4 := k10.2 4 _ (by decide) G9_4
                  have G10_5 := k10.2 5 _ (by decide) G9_5
                  have G10_6 := k10.2 6 _ (by decide) G9_6
                  have G10_7 := k10.2 7 _ (by decide) G9_7
                  have G10_8 := k10.2 8 _ (by decide) G9_8
                  have G10_9 := k10.2 9 _ (by decide) G9_9
                  have G10_10 := k10.2 10 _ (by decide) G9_10
                  have G10_11 := k10.2 11 _ (by decide) G9_11
                  have G10_12 := k10.2 14 _ (by decide) G9_12
                  have G10_13 := k10.2 qf _ (by simp only [List.mem_cons, List.not_mem_nil, or_false]; omega) G9_13
                  have G10_14 := k10.2 qr _ (by simp only [List.mem_cons, List.not_mem_nil, or_false]; omega) G9_14
                  have G10_15 := k10.2 pn_1 _ (by simp only [List.mem_cons, List.not_mem_nil, or_false]; omega) G9_15
                  have G10_16 := k10.2 pn_8_0 _ (by simp only [List.mem_cons, List.not_mem_nil, or_false]; omega) G9_16
                  obtain ⟨pn_10_0, hpn_10_0⟩ : ∃ z : Nat, z = ws_9.length + 0 := ⟨_, rfl⟩
                  rw [← hpn_10_0] at N10_0
                  obtain ⟨pn_10_1, hpn_10_1⟩ : ∃ z : Nat, z = ws_9.length + 1 := ⟨_, rfl⟩
                  rw [← hpn_10_1] at N10_1
                  obtain ⟨pn_10_2, hpn_10_2⟩ : ∃ z : Nat, z = ws_9.length + 2 := ⟨_, rfl⟩
                  rw [← hpn_10_2] at N10_2
                  refine W.eq (g2 := F0 m 259 ls [.int (nI 0)]) (congrArg (fun z9 : Int32 => F0 m 259 ls [.int z9]) (show (r256 : Int32) = nI 0 from e_r256.2)) ?_
                  refine lv_iload_n hx hb dL_act_259 rfl (lv_at hl 3 rfl) ?_
                  refine lv_icmp_ne (tgt := 267) hx hb dL_act_260 (by decide) (fun cz260 => by exact (cz260 rfl).elim) (fun cz260 => ?_)
                  refine lv_iconst (v := 1) hx hb dL_act_263 (by decide) ?_
                  refine lv_goto (tgt := 268) hx hb dL_act_264 (by decide) ?_
                  refine W.widen (k := 20) (n := 120) (by omega) (by omega) ?_
                  subst hQ
                  exact W.zret (v := 1) hx hb hr rfl (fun t ht hW => ⟨⟨1, ws_10, rfl, ⟨hk, ⟨(mc1 + 1), mc2, lim, sup, off, plo, hrs, nq_10, eb, (0 + 1), nr, nq_8, pn_8_0, ro, qr, (fput fa 0 (nI co) (nI rr) (nI le) dn (nI he) (nI ga)), rd, ri, sn, t9, hf, gf, (wO g 0 q111), gq, G10_0, G10_a0, G10_2, G10_3, G10_4, G10_5, G10_6, G10_7, G10_8, G10_9, G10_10, G10_11, G10_12, G10_16, G10_14, ⟨by omega, by omega⟩, (FS.new (pq := pn_10_2) (pf := pn_10_0) (ps := pn_10_1) hle2 (by omega) N10_2 (by omega) N10_0 (by omega) N10_1), hR, (Or.inl (sep_R hR9 k10 (by decide) J.2.1 hE1 N10_2 (by omega))), ((hSE.keepI hk).add (fb := fput fa 0 (nI co) (nI rr) (nI le) dn (nI he) (nI ga)) G10_15 (by omega) (fun t9 ht9 => f6_put t9 ht9) (fun j9 hj9 => fput_lo hj9)), (hSR.keepI hk), hSN, (by omega), hnr, (okF_add hok hdn hk0).2, hor, hRB, hu9, hlm, (Nat.le_trans hln hk.1)⟩, rfl⟩, J.I X ht hW.alike⟩, J.F ht⟩) J.locs dL_act_268
                · have hFa : FSa E ws_9 fa ea nf qe g5 fo9 qf9 sp9 qs9 := hFa
                  have hq35 := hFa.1
                  have hk0 : kFence (nI co) (nI rr) (nI le) dn (nI he) (nI ga) (nI nf) = 0 := kFence_ok (by omega) (by omega) (by omega) (by omega) (by omega) (by omega) hd9
                  have hqz13 : qe ≠ qf := zneOA (zK.neOA X.2.1) hFa.2.1 G9_13
                  have hqz14 : qe ≠ qr := zneOA (zK.neOA X.2.1) hFa.2.1 G9_14
                  have hqz15 : qe ≠ pn_1 := zneK hFa.2.1 G9_15 rfl
                  have hqz16 : qe ≠ pn_8_0 := zneOA (zK.neOA X.2.1) hFa.2.1 G9_16
                  refine z_xi J (z_yV (As := [.int (nI co), .int (nI rr), .int (nI le), .int dn, .int (nI he), .int (nI ga)]) (rest := []) (ci := 7) (q0 := 0) X hRz J (cX6_fence_n_ok l hflags E G9_0 G9_1 hFa.2.1 hdn hnf) (cwV 6 hts (goodIn_ext2 gL_act_X6_fence) rfl rfl rfl (by decide +kernel) ⟨Nat.le_of_ble_eq_true rfl, Nat.le_of_ble_eq_true rfl⟩) G9_0 rfl rfl rfl hl.1 rfl (Nat.le_of_ble_eq_true rfl) dL_act_256 ⟨by show _ ≤ 20; omega, by show _ ≤ 120; omega⟩) (fun nm ce q9 H locs hp9 J h1 h2 h3 => ?_) (fun r256 ws_10 H locs hp9 J => ?_)
                  · exact False.elim (by rcases hp9 with h9 | h9 | h9 <;> exact absurd (h9.1.symm.trans hk0) (by decide))
                  obtain ⟨k10, ⟨fo_10, sp_10, hlen10, G10_a0, G10_a1, N10_0, N10_1, e_r256⟩⟩ := hp9
                  have hSN := hSN.keep k10 (fun r9 hr9 => by simp only [List.mem_cons, rg_mem, List.not_mem_nil, or_false, not_or]; omega)
                  have lp10 := hk.1
                  have b_10_0 := zlt G9_0
                  have b_10_1 := zlt G9_1
                  have b_10_2 := zlt G9_2
                  have b_10_3 := zlt G9_3
                  have b_10_4 := zlt G9_4
                  have b_10_5 := zlt G9_5
                  have b_10_6 := zlt G9_6
                  have b_10_7 := zlt G9_7
                  have b_10_8 := zlt G9_8
                  have b_10_9 := zlt G9_9
                  have b_10_10 := zlt G9_10
                  have b_10_11 := zlt G9_11
                  have b_10_12 := zlt G9_12
                  have b_10_13 := zlt G9_13
                  have b_10_14 := zlt G9_14
                  have b_10_15 := zlt G9_15
                  have b_10_16 := zlt G9_16
                  have b_10_17 := zlt hFa.2.1
                  have hk := hk.step k10 (fun q9 a9 n9 f9 h8 h7 h9 => by have z9_0 := zneK h9 hFa.2.1 rfl; simp only [List.mem_cons, rg_mem, List.not_mem_nil, or_false, not_or]; omega)
                  have G10_0 := k10.2 0 _ (by simp only [List.mem_cons, List.not_mem_nil, or_false]; omega) G9_0
                  have G10_2 := k10.2 2 _ (by simp only [List.mem_cons, List.not_mem_nil, or_false]; omega) G9_2
                  have G10_3 := k10.2 3 _ (by simp only [List.mem_cons, List.not_mem_nil, or_false]; omega) G9_3
                  have G10_4 := k10.2 4 _ (by simp only [List.mem_cons, List.not_mem_nil, or_false]; omega) G9_4
                  have G10_5 := k10.2 5 _ (by simp only [List.mem_cons, List.not_mem_nil, or_false]; omega) G9_5
                  have G10_6 := k10.2 6 _ (by simp only [List.mem_cons, List.not_mem_nil, or_false]; omega) G9_6
                  have G10_7 := k10.2 7 _ (by simp only [List.mem_cons, List.not_mem_nil, or_false]; omega) G9_7
                  have G10_8 := k10.2 8 _ (by simp only [List.mem_cons, List.not_mem_nil, or_false]; omega) G9_8
                  have G10_9 := k10.2 9 _ (by simp only [List.mem_cons, List.not_mem_nil, or_false]; omega) G9_9
                  have G10_10 := k10.2 10 _ (by simp only [List.mem_cons, List.not_mem_nil, or_false]; omega) G9_10
                  have G10_11 := k10.2 11 _ (by simp only [List.mem_cons, List.not_mem_nil, or_false]; omega) G9_11
                  have G10_12 := k10.2 14 _ (by simp only [List.mem_cons, List.not_mem_nil, or_false]; omega) G9_12
                  have G10_13 := k10.2 qf _ (by simp only [List.mem_cons, List.not_mem_nil, or_false]; omega) G9_13
                  have G10_14 := k10.2 qr _ (by simp only [List.mem_cons, List.not_mem_nil, or_false]; omega) G9_14
                  have G10_15 := k10.2 pn_1 _ (by simp only [List.mem_cons, List.not_mem_nil, or_false]; omega) G9_15
                  have G10_16 := k10.2 pn_8_0 _ (by simp only [List.mem_cons, List.not_mem_nil, or_false]; omega) G9_16
                  obtain ⟨pn_10_0, hpn_10_0⟩ : ∃ z : Nat, z = ws_9.length + 0 := ⟨_, rfl⟩
                  rw [← hpn_10_0] at N10_0
                  obtain ⟨pn_10_1, hpn_10_1⟩ : ∃ z : Nat, z = ws_9.length + 1 := ⟨_, rfl⟩
                  rw [← hpn_10_1] at N10_1
                  refine W.eq (g2 := F0 m 259 ls [.int (nI nf)]) (congrArg (fun z9 : Int32 => F0 m 259 ls [.int z9]) (show (r256 : Int32) = nI nf from e_r256.2)) ?_
                  refine lv_iload_n hx hb dL_act_259 rfl (lv_at hl 3 rfl) ?_
                  refine lv_icmp_ne (tgt := 267) hx hb dL_act_260 (by decide) (fun cz260 => by exact (cz260 rfl).elim) (fun cz260 => ?_)
                  refine lv_iconst (v := 1) hx hb dL_act_263 (by decide) ?_
                  refine lv_goto (tgt := 268) hx hb dL_act_264 (by decide) ?_
                  refine W.widen (k := 20) (n := 120) (by omega) (by omega) ?_
                  subst hQ
                  exact W.zret (v := 1) hx hb hr rfl (fun t ht hW => ⟨⟨1, ws_10, rfl, ⟨hk, ⟨(mc1 + 1), mc2, lim, sup, off, plo, hrs, ea, eb, (nf + 1), nr, nq_8, pn_8_0, ro, qr, (fput fa nf (nI co) (nI rr) (nI le) dn (nI he) (nI ga)), rd, ri, sn, t9, hf, gf, (wO g nf q111), gq, G10_0, G10_a0, G10_2, G10_3, G10_4, G10_5, G10_6, G10_7, G10_8, G10_9, G10_10, G10_11, G10_12, G10_16, G10_14, ⟨by omega, by omega⟩, (FS.add (pf := pn_10_0) (ps := pn_10_1) hFa hle2 k10 (by intro q9 hq9; simp only [List.mem_cons, List.not_mem_nil, or_false] at hq9; omega) G10_a1 (by omega) N10_0 (by omega) N10_1), (hR9.keepE k10 hFa.2.1 rfl rfl (hSep.ne hJ9 hE1 hFa.2.1) (by intro q9 hq9; simp only [List.mem_cons, List.not_mem_nil, or_false] at hq9; omega)), hSep, ((hSE.keepI hk).add (fb := fput fa nf (nI co) (nI rr) (nI le) dn (nI he) (nI ga)) G10_15 (by omega) (fun t9 ht9 => f6_put t9 ht9) (fun j9 hj9 => fput_lo hj9)), (hSR.keepI hk), hSN, (by omega), hnr, (okF_add hok hdn hk0).2, hor, hRB, hu9, hlm, (Nat.le_trans hln hk.1)⟩, rfl⟩, J.I X ht hW.alike⟩, J.F ht⟩) J.locs dL_act_268
              refine lv_iconst (v := nI 1) hx hb dL_act_182 rfl ?_
              refine lv_iload_n hx hb dL_act_183 rfl (lv_at hl 5 rfl) ?_
              refine lv_bipush (v := 6) hx hb dL_act_184 (by decide) ?_
              refine lv_ishr hx hb dL_act_186 ?_
              refine lv_iload_n hx hb dL_act_187 rfl (lv_at hl 5 rfl) ?_
              refine lv_bipush (v := 9) hx hb dL_act_188 (by decide) ?_
              refine lv_ishr hx hb dL_act_190 ?_
              refine lv_iconst (v := nI 3) hx hb dL_act_191 rfl ?_
              refine z_cr (z_rS (As := [.int (xv >>> (9 &&& 31)), .int (nI 3)]) (rest := [.int (xv >>> (6 &&& 31)), .int (nI 1), .int (nI 4), .ref q111, .ref q111]) X J (cL_below_ok l E (by first | assumption | omega | decide) (by first | assumption | omega | decide)) (va_cwS 2 hts (goodIn_ext2 gL_act_L_below) rfl rfl rfl (by decide +kernel) ⟨Nat.le_of_ble_eq_true rfl, Nat.le_of_ble_eq_true rfl⟩) rfl hl.1 rfl (Nat.le_of_ble_eq_true rfl) dL_act_192 ⟨Nat.le_of_ble_eq_true rfl, Nat.le_of_ble_eq_true rfl⟩) (fun r192 e_r192 => ?_)
              subst e_r192
              refine lv_if_ne (tgt := 203) hx hb dL_act_195 (by decide) (fun cz195 => ?_) (fun cz195 => ?_)
              · refine lv_iconst (v := nI 4) hx hb dL_act_203 rfl ?_
                refine z_cr (z_rS (As := [.int (xv >>> (6 &&& 31)), .int (nI 4)]) (rest := [.int (nI 1), .int (nI 4), .ref q111, .ref q111]) X J (cL_below_ok l E (by first | assumption | omega | decide) (by first | assumption | omega | decide)) (va_cwS 2 hts (goodIn_ext2 gL_act_L_below) rfl rfl rfl (by decide +kernel) ⟨Nat.le_of_ble_eq_true rfl, Nat.le_of_ble_eq_true rfl⟩) rfl hl.1 rfl (Nat.le_of_ble_eq_true rfl) dL_act_204 ⟨Nat.le_of_ble_eq_true rfl, Nat.le_of_ble_eq_true rfl⟩) (fun r204 e_r204 => ?_)
                subst e_r204
                obtain ⟨h5, hh5⟩ : ∃ q9 : Nat, q9 = 1 + bln (xv >>> (6 &&& 31)) 4 := ⟨_, rfl⟩
                have bh5 := bln_lt (v := xv >>> (6 &&& 31)) (n := 4) (by decide)
                refine lv_iadd hx hb dL_act_207 ?_
                refine W.eq (g2 := F0 m 208 ls [.int (nI h5), .int (nI 4), .ref q111, .ref q111]) (congrArg (fun z9 : Int32 => F0 m 208 ls [.int z9, .int (nI 4), .ref q111, .ref q111]) (show ((nI 1) + (nI (bln (xv >>> (6 &&& 31)) 4)) : Int32) = nI h5 from (by rw [nI_add, hh5]))) ?_
                exact join_208 _ h5 (⟨by omega, by omega⟩) (lv_sub hl [0, 1, 2, 3, 4, 5] rfl)
              · refine lv_bipush (v := nI 9) hx hb dL_act_198 (by decide) ?_
                refine lv_goto (tgt := 204) hx hb dL_act_200 (by decide) ?_
                refine z_cr (z_rS (As := [.int (xv >>> (6 &&& 31)), .int (nI 9)]) (rest := [.int (nI 1), .int (nI 4), .ref q111, .ref q111]) X J (cL_below_ok l E (by first | assumption | omega | decide) (by first | assumption | omega | decide)) (va_cwS 2 hts (goodIn_ext2 gL_act_L_below) rfl rfl rfl (by decide +kernel) ⟨Nat.le_of_ble_eq_true rfl, Nat.le_of_ble_eq_true rfl⟩) rfl hl.1 rfl (Nat.le_of_ble_eq_true rfl) dL_act_204 ⟨Nat.le_of_ble_eq_true rfl, Nat.le_of_ble_eq_true rfl⟩) (fun r204 e_r204 => ?_)
                subst e_r204
                obtain ⟨h5, hh5⟩ : ∃ q9 : Nat, q9 = 1 + bln (xv >>> (6 &&& 31)) 9 := ⟨_, rfl⟩
                have bh5 := bln_lt (v := xv >>> (6 &&& 31)) (n := 9) (by decide)
                refine lv_iadd hx hb dL_act_207 ?_
                refine W.eq (g2 := F0 m 208 ls [.int (nI h5), .int (nI 4), .ref q111, .ref q111]) (congrArg (fun z9 : Int32 => F0 m 208 ls [.int z9, .int (nI 4), .ref q111, .ref q111]) (show ((nI 1) + (nI (bln (xv >>> (6 &&& 31)) 9)) : Int32) = nI h5 from (by rw [nI_add, hh5]))) ?_
                exact join_208 _ h5 (⟨by omega, by omega⟩) (lv_sub hl [0, 1, 2, 3, 4, 5] rfl)
            refine lv_iload hx hb dL_act_169 (lv_at hl 1 rfl) ?_
            refine lv_if_eq (tgt := 178) hx hb dL_act_171 (by decide) (fun cz171 => ?_) (fun cz171 => ?_)
            · refine lv_iconst (v := 0) hx hb dL_act_178 (by decide) ?_
              refine W.eq (g2 := F0 m 179 ls [.int dn, .int (nI 3), .ref q111, .ref q111]) (congrArg (fun z9 : Int32 => F0 m 179 ls [.int z9, .int (nI 3), .ref q111, .ref q111]) (show (0 : Int32) = dn from (is01_0 hdn cz171))) ?_
              exact join_179 _ (lv_sub hl [0, 1, 2, 3, 4, 5] rfl)
            · refine lv_iconst (v := 1) hx hb dL_act_174 (by decide) ?_
              refine W.eq (g2 := F0 m 175 ls [.int dn, .int (nI 3), .ref q111, .ref q111]) (congrArg (fun z9 : Int32 => F0 m 175 ls [.int z9, .int (nI 3), .ref q111, .ref q111]) (show (1 : Int32) = dn from (is01_1 hdn cz171))) ?_
              refine lv_goto (tgt := 179) hx hb dL_act_175 (by decide) ?_
              exact join_179 _ (lv_sub hl [0, 1, 2, 3, 4, 5] rfl)
          refine lv_iload hx hb dL_act_143 (lv_at hl 1 rfl) ?_
          refine lv_if_eq (tgt := 156) hx hb dL_act_145 (by decide) (fun cz145 => ?_) (fun cz145 => ?_)
          · refine lv_bipush (v := nI 20) hx hb dL_act_156 (by decide) ?_
            exact join_158 _ 20 (Or.inl ⟨cz145, rfl⟩) (lv_sub hl [0, 1, 2, 3, 4, 5] rfl)
          · refine lv_bipush (v := nI 21) hx hb dL_act_148 (by decide) ?_
            refine lv_iload hx hb dL_act_150 (lv_at hl 0 rfl) ?_
            refine lv_isub hx hb dL_act_152 ?_
            refine W.eq (g2 := F0 m 153 ls [.int (nI (21 - le)), .int (xv >>> (7 &&& 31)), .int (nI 1), .ref q111, .ref q111]) (congrArg (fun z9 : Int32 => F0 m 153 ls [.int z9, .int (xv >>> (7 &&& 31)), .int (nI 1), .ref q111, .ref q111]) (show ((nI 21) - (nI le) : Int32) = nI (21 - le) from (pk_sub (by omega)))) ?_
            refine lv_goto (tgt := 158) hx hb dL_act_153 (by decide) ?_
            exact join_158 _ (21 - le) (Or.inr ⟨(is01_1 hdn cz145).symm, by omega⟩) (lv_sub hl [0, 1, 2, 3, 4, 5] rfl)
        refine lv_iload hx hb dL_act_118 (lv_at hl 1 rfl) ?_
        refine lv_if_eq (tgt := 128) hx hb dL_act_120 (by decide) (fun cz120 => ?_) (fun cz120 => ?_)
        · refine lv_bipush (v := nI 21) hx hb dL_act_128 (by decide) ?_
          refine lv_iload hx hb dL_act_130 (lv_at hl 0 rfl) ?_
          refine lv_isub hx hb dL_act_132 ?_
          refine W.eq (g2 := F0 m 133 ls [.int (nI (21 - le)), .int (xv >>> (5 &&& 31)), .int (nI 0), .ref q111, .ref q111]) (congrArg (fun z9 : Int32 => F0 m 133 ls [.int z9, .int (xv >>> (5 &&& 31)), .int (nI 0), .ref q111, .ref q111]) (show ((nI 21) - (nI le) : Int32) = nI (21 - le) from (pk_sub (by omega)))) ?_
          exact join_133 _ (21 - le) (Or.inl ⟨cz120, by omega⟩) (lv_sub hl [0, 1, 2, 3, 4, 5] rfl)
        · refine lv_bipush (v := nI 20) hx hb dL_act_123 (by decide) ?_
          refine lv_goto (tgt := 133) hx hb dL_act_125 (by decide) ?_
          exact join_133 _ 20 (Or.inr ⟨(is01_1 hdn cz120).symm, rfl⟩) (lv_sub hl [0, 1, 2, 3, 4, 5] rfl)
      refine lv_iload_n hx hb dL_act_80 rfl (lv_at hl 3 rfl) ?_
      refine lv_iconst (v := 3) hx hb dL_act_81 (by decide) ?_
      refine lv_ishr hx hb dL_act_82 ?_
      refine lv_iconst (v := nI 2) hx hb dL_act_83 rfl ?_
      refine z_cr (z_rS (As := [.int (xv >>> (3 &&& 31)), .int (nI 2)]) (rest := []) X J (cL_below_ok l E (by first | assumption | omega | decide) (by first | assumption | omega | decide)) (va_cwS 2 hts (goodIn_ext2 gL_act_L_below) rfl rfl rfl (by decide +kernel) ⟨Nat.le_of_ble_eq_true rfl, Nat.le_of_ble_eq_true rfl⟩) rfl hl.1 rfl (Nat.le_of_ble_eq_true rfl) dL_act_84 ⟨Nat.le_of_ble_eq_true rfl, Nat.le_of_ble_eq_true rfl⟩) (fun r84 e_r84 => ?_)
      subst e_r84
      refine lv_if_ne (tgt := 94) hx hb dL_act_87 (by decide) (fun cz87 => ?_) (fun cz87 => ?_)
      · refine lv_iconst (v := 0) hx hb dL_act_94 (by decide) ?_
        exact join_95 _ 0 (Or.inl rfl) (lv_sub hl [0, 1, 2, 3] rfl)
      · refine lv_iconst (v := 1) hx hb dL_act_90 (by decide) ?_
        refine lv_goto (tgt := 95) hx hb dL_act_91 (by decide) ?_
        exact join_95 _ 1 (Or.inr rfl) (lv_sub hl [0, 1, 2, 3] rfl)
    · refine lv_iconst (v := 1) hx hb dL_act_78 (by decide) ?_
      refine W.widen (k := 20) (n := 120) (by omega) (by omega) ?_
      subst hQ
      exact W.zret (v := 1) hx hb hr rfl (fun t ht hW => ⟨⟨1, ws, rfl, ⟨hk, ⟨mc1, mc2, lim, sup, off, plo, hrs, ea, eb, nf, nr, fe, qf, ro, qr, fa, rd, ri, sn, t9, hf, gf, g, gq, Fa0, Fa1, Fa2, Fa3, Fa4, Fa5, Fa6, Fa7, Fa8, Fa9, Fa10, Fa11, Fa12, Fa13, Fa14, ⟨by omega, by omega⟩, hF, hR, hSep, (hSE.keepI hk), (hSR.keepI hk), hSN, hnf, hnr, hok, hor, hRB, hu9, hlm, (Nat.le_trans hln hk.1)⟩, rfl⟩, J.I X ht hW.alike⟩, J.F ht⟩) J.locs dL_act_79
  rcases hkk with rfl | rfl | rfl
  · refine W.eq (g2 := F0 m 12 ls [.int 0]) (congrArg (fun z9 : Int32 => F0 m 12 ls [.int z9]) (show (nI 0 : Int32) = 0 from rfl)) ?_
    have join_72 : ∀ (ls : Array Slot), lv_has ls 12 [(3, .int (nI nf)), (0, .ref x), (1, .ref z), (2, .int xv)] → W p l e (headSpec wsL_act2 ({ frames := 8, cells := 20, slots := 120, locals := 129 } : Room)).room s m args below meth c s.heap [] 0 0 QQ (F0 m 72 ls []) := by
      intro ls hl
      refine lv_iload_n hx hb dL_act_72 rfl (lv_at hl 0 rfl) ?_
      refine lv_bipush (v := 10) hx hb dL_act_73 (by decide) ?_
      refine lv_icmp_ne (tgt := 80) hx hb dL_act_75 (by decide) (fun cz75 => ?_) (fun cz75 => ?_)
      · have hn10 : nf < 10 := Nat.lt_of_le_of_ne hnf (fun q9 => cz75 (by rw [q9]; rfl))
        have join_95 : ∀ (ls : Array Slot) (dn : Int32) (hdn : is01 dn), lv_has ls 12 [(3, .int (nI nf)), (0, .ref x), (1, .ref z), (2, .int xv)] → W p l e (headSpec wsL_act2 ({ frames := 8, cells := 20, slots := 120, locals := 129 } : Room)).room s m args below meth c s.heap [] 0 0 QQ (F0 m 95 ls [.int dn]) := by
          intro ls dn hdn hl
          refine lv_istore (lv' := [(4, .int dn), (3, .int (nI nf)), (0, .ref x), (1, .ref z), (2, .int xv)]) hx hb dL_act_95 hl (by decide) rfl (fun ls hl => ?_)
          refine lv_iconst (v := nI 1) hx hb dL_act_97 rfl ?_
          refine lv_iload_n hx hb dL_act_98 rfl (lv_at hl 4 rfl) ?_
          refine lv_iconst (v := 4) hx hb dL_act_99 (by decide) ?_
          refine lv_ishr hx hb dL_act_100 ?_
          refine lv_bipush (v := nI 20) hx hb dL_act_101 (by decide) ?_
          refine z_cr (z_rS (As := [.int (xv >>> (4 &&& 31)), .int (nI 20)]) (rest := [.int (nI 1)]) X J (cL_below_ok l E (by first | assumption | omega | decide) (by first | assumption | omega | decide)) (va_cwS 2 hts (goodIn_ext2 gL_act_L_below) rfl rfl rfl (by decide +kernel) ⟨Nat.le_of_ble_eq_true rfl, Nat.le_of_ble_eq_true rfl⟩) rfl hl.1 rfl (Nat.le_of_ble_eq_true rfl) dL_act_103 ⟨Nat.le_of_ble_eq_true rfl, Nat.le_of_ble_eq_true rfl⟩) (fun r103 e_r103 => ?_)
          subst e_r103
          obtain ⟨le, hle⟩ : ∃ q9 : Nat, q9 = 1 + bln (xv >>> (4 &&& 31)) 20 := ⟨_, rfl⟩
          have ble := bln_lt (v := xv >>> (4 &&& 31)) (n := 20) (by decide)
          refine lv_iadd hx hb dL_act_106 ?_
          refine W.eq (g2 := F0 m 107 ls [.int (nI le)]) (congrArg (fun z9 : Int32 => F0 m 107 ls [.int z9]) (show ((nI 1) + (nI (bln (xv >>> (4 &&& 31)) 20)) : Int32) = nI le from (by rw [nI_add, hle]))) ?_
          have hle1 : 1 ≤ le := by omega
          have hle2 : le ≤ 20 := by omega
          refine lv_istore (lv' := [(5, .int (nI le)), (4, .int dn), (3, .int (nI nf)), (0, .ref x), (1, .ref z), (2, .int xv)]) hx hb dL_act_107 hl (by decide) rfl (fun ls hl => ?_)
          refine lv_bipush (v := 6) hx hb dL_act_109 (by decide) ?_
          refine z_newa (N' := 6) X J (by decide +kernel) (by decide) (by decide) (Nat.le_of_ble_eq_true rfl) (Nat.le_of_ble_eq_true rfl) (Nat.le_of_ble_eq_true rfl) dL_act_111 (fun q111 H J => ?_)
          have hF := hF.keepS (zK.app (S := []) (ws := ws) (more := [(q111, zI4 E 6 (fun _ => 0))])) (fun q9 hq9 => absurd hq9 List.not_mem_nil)
          have hR := hR.keepS (zK.app (S := []) (ws := ws) (more := [(q111, zI4 E 6 (fun _ => 0))])) (fun q9 hq9 => absurd hq9 List.not_mem_nil)
          have hSN := hSN.keep (zK.app (S := []) (ws := ws) (more := [(q111, zI4 E 6 (fun _ => 0))])) (fun _ _ => List.not_mem_nil)
          have lp1 := hk.1
          have hk := hk.step (zK.app (S := []) (ws := ws) (more := [(q111, zI4 E 6 (fun _ => 0))])) (fun _ _ _ _ _ _ _ => List.not_mem_nil)
          have bG1_0 := zlt Fa0
          have G1_0 := zapp (x := (q111, zI4 E 6 (fun _ => 0))) Fa0
          have bG1_1 := zlt Fa1
          have G1_1 := zapp (x := (q111, zI4 E 6 (fun _ => 0))) Fa1
          have bG1_2 := zlt Fa2
          have G1_2 := zapp (x := (q111, zI4 E 6 (fun _ => 0))) Fa2
          have bG1_3 := zlt Fa3
          have G1_3 := zapp (x := (q111, zI4 E 6 (fun _ => 0))) Fa3
          have bG1_4 := zlt Fa4
          have G1_4 := zapp (x := (q111, zI4 E 6 (fun _ => 0))) Fa4
          have bG1_5 := zlt Fa5
          have G1_5 := zapp (x := (q111, zI4 E 6 (fun _ => 0))) Fa5
          have bG1_6 := zlt Fa6
          have G1_6 := zapp (x := (q111, zI4 E 6 (fun _ => 0))) Fa6
          have bG1_7 := zlt Fa7
          have G1_7 := zapp (x := (q111, zI4 E 6 (fun _ => 0))) Fa7
          have bG1_8 := zlt Fa8
          have G1_8 := zapp (x := (q111, zI4 E 6 (fun _ => 0))) Fa8
          have bG1_9 := zlt Fa9
          have G1_9 := zapp (x := (q111, zI4 E 6 (fun _ => 0))) Fa9
          have bG1_10 := zlt Fa10
          have G1_10 := zapp (x := (q111, zI4 E 6 (fun _ => 0))) Fa10
          have bG1_11 := zlt Fa11
          have G1_11 := zapp (x := (q111, zI4 E 6 (fun _ => 0))) Fa11
          have bG1_12 := zlt Fa12
          have G1_12 := zapp (x := (q111, zI4 E 6 (fun _ => 0))) Fa12
          have bG1_13 := zlt Fa13
          have G1_13 := zapp (x := (q111, zI4 E 6 (fun _ => 0))) Fa13
          have bG1_14 := zlt Fa14
          have G1_14 := zapp (x := (q111, zI4 E 6 (fun _ => 0))) Fa14
          have G1_n := zapp_new (ws := ws) (x := (q111, zI4 E 6 (fun _ => 0)))
          generalize hws1 : ws ++ [(q111, zI4 E 6 (fun _ => 0))] = ws_1 at J hk G1_0 G1_1 G1_2 G1_3 G1_4 G1_5 G1_6 G1_7 G1_8 G1_9 G1_10 G1_11 G1_12 G1_13 G1_14 hF hR hSN G1_n
          generalize hpn1 : ws.length = pn_1 at G1_n lp1 bG1_0 bG1_1 bG1_2 bG1_3 bG1_4 bG1_5 bG1_6 bG1_7 bG1_8 bG1_9 bG1_10 bG1_11 bG1_12 bG1_13 bG1_14
          refine lv_dup hx hb dL_act_113 rfl ?_
          refine lv_iconst (v := nI 0) hx hb dL_act_114 rfl ?_
          refine lv_iload_n hx hb dL_act_115 rfl (lv_at hl 5 rfl) ?_
          refine lv_iconst (v := 5) hx hb dL_act_116 (by decide) ?_
          refine lv_ishr hx hb dL_act_117 ?_
          have join_133 : ∀ (ls : Array Slot) (nc : Nat) (hnc : (dn = 0 ∧ nc + le = 21) ∨ (dn = 1 ∧ nc = 20)), lv_has ls 12 [(5, .int (nI le)), (4, .int dn), (3, .int (nI nf)), (0, .ref x), (1, .ref z), (2, .int xv)] → W p l e (headSpec wsL_act2 ({ frames := 8, cells := 20, slots := 120, locals := 129 } : Room)).room s m args below meth c H [] 1 6 QQ (F0 m 133 ls [.int (nI nc), .int (xv >>> (5 &&& 31)), .int (nI 0), .ref q111, .ref q111]) := by
            intro ls nc hnc hl
            obtain ⟨co, hco⟩ : ∃ q9 : Nat, q9 = bln (xv >>> (5 &&& 31)) (nc) := ⟨_, rfl⟩
            have bco := bln_lt (v := xv >>> (5 &&& 31)) (n := nc) (by omega)
            refine z_cr (z_rS (As := [.int (xv >>> (5 &&& 31)), .int (nI nc)]) (rest := [.int (nI 0), .ref q111, .ref q111]) X J (cL_below_ok l E (by first | assumption | omega | decide) (by first | assumption | omega | decide)) (va_cwS 2 hts (goodIn_ext2 gL_act_L_below) rfl rfl rfl (by decide +kernel) ⟨Nat.le_of_ble_eq_true rfl, Nat.le_of_ble_eq_true rfl⟩) rfl hl.1 rfl (Nat.le_of_ble_eq_true rfl) dL_act_133 ⟨Nat.le_of_ble_eq_true rfl, Nat.le_of_ble_eq_true rfl⟩) (fun r133 e_r133 => ?_)
            subst e_r133
            refine W.eq (g2 := F0 m 136 ls [.int (nI co), .int (nI 0), .ref q111, .ref q111]) (congrArg (fun z9 : Int32 => F0 m 136 ls [.int z9, .int (nI 0), .ref q111, .ref q111]) (show (nI (bln (xv >>> (5 &&& 31)) nc) : Int32) = nI co from (by rw [hco]))) ?_
            refine z_iast X J pn_1 G1_n (vp_in_nI (by omega) (by first | decide | omega)) dL_act_136 (fun H locs J => ?_)
            rw [show upd (fun _ => 0) (nI 0).toNatClampNeg (nI co) = upd (fun _ => 0) 0 (nI co) from (by rw [nI_clamp (by omega)])] at J
            have hF := hF.keepS (zK.set (S := [pn_1]) (ws := ws_1) (q := pn_1) (e := (q111, zI4 E 6 (upd (fun _ => 0) 0 (nI co)))) (List.mem_singleton.mpr rfl)) (fun q9 hq9 => Or.inr ⟨_, _, (List.mem_singleton.mp hq9).symm ▸ G1_n, noL_I⟩)
            have hR := hR.keepS (zK.set (S := [pn_1]) (ws := ws_1) (q := pn_1) (e := (q111, zI4 E 6 (upd (fun _ => 0) 0 (nI co)))) (List.mem_singleton.mpr rfl)) (fun q9 hq9 => Or.inr ⟨_, _, (List.mem_singleton.mp hq9).symm ▸ G1_n, noL_I⟩)
            have hSN := hSN.keep (zK.set (S := [pn_1]) (ws := ws_1) (q := pn_1) (e := (q111, zI4 E 6 (upd (fun _ => 0) 0 (nI co)))) (List.mem_singleton.mpr rfl)) (fun r9 hr9 => by simp only [List.mem_cons, rg_mem, List.not_mem_nil, or_false, not_or]; omega)
            have hk := hk.step (zK.set (S := [pn_1]) (ws := ws_1) (q := pn_1) (e := (q111, zI4 E 6 (upd (fun _ => 0) 0 (nI co)))) (List.mem_singleton.mpr rfl)) (fun q9 a9 n9 f9 h8 h7 h9 => by simp only [List.mem_cons, rg_mem, List.not_mem_nil, or_false, not_or]; omega)
            have G2_0 := zset_ne (q := pn_1) (e' := (q111, zI4 E 6 (upd (fun _ => 0) 0 (nI co)))) (by omega) G1_0
            have G2_1 := zset_ne (q := pn_1) (e' := (q111, zI4 E 6 (upd (fun _ => 0) 0 (nI co)))) (by omega) G1_1
            have G2_2 := zset_ne (q := pn_1) (e' := (q111, zI4 E 6 (upd (fun _ => 0) 0 (nI co)))) (by omega) G1_2
            have G2_3 := zset_ne (q := pn_1) (e' := (q111, zI4 E 6 (upd (fun _ => 0) 0 (nI co)))) (by omega) G1_3
            have G2_4 := zset_ne (q := pn_1) (e' := (q111, zI4 E 6 (upd (fun _ => 0) 0 (nI co)))) (by omega) G1_4
            have G2_5 := zset_ne (q := pn_1) (e' := (q111, zI4 E 6 (upd (fun _ => 0) 0 (nI co)))) (by omega) G1_5
            have G2_6 := zset_ne (q := pn_1) (e' := (q111, zI4 E 6 (upd (fun _ => 0) 0 (nI co)))) (by omega) G1_6
            have G2_7 := zset_ne (q := pn_1) (e' := (q111, zI4 E 6 (upd (fun _ => 0) 0 (nI co)))) (by omega) G1_7
            have G2_8 := zset_ne (q := pn_1) (e' := (q111, zI4 E 6 (upd (fun _ => 0) 0 (nI co)))) (by omega) G1_8
            have G2_9 := zset_ne (q := pn_1) (e' := (q111, zI4 E 6 (upd (fun _ => 0) 0 (nI co)))) (by omega) G1_9
            have G2_10 := zset_ne (q := pn_1) (e' := (q111, zI4 E 6 (upd (fun _ => 0) 0 (nI co)))) (by omega) G1_10
            have G2_11 := zset_ne (q := pn_1) (e' := (q111, zI4 E 6 (upd (fun _ => 0) 0 (nI co)))) (by omega) G1_11
            have G2_12 := zset_ne (q := pn_1) (e' := (q111, zI4 E 6 (upd (fun _ => 0) 0 (nI co)))) (by omega) G1_12
            have G2_13 := zset_ne (q := pn_1) (e' := (q111, zI4 E 6 (upd (fun _ => 0) 0 (nI co)))) (by omega) G1_13
            have G2_14 := zset_ne (q := pn_1) (e' := (q111, zI4 E 6 (upd (fun _ => 0) 0 (nI co)))) (by omega) G1_14
            have G2_15 := zset_eq (e' := (q111, zI4 E 6 (upd (fun _ => 0) 0 (nI co)))) G1_n
            generalize hws2 : (ws_1.set pn_1 (q111, zI4 E 6 (upd (fun _ => 0) 0 (nI co)))) = ws_2 at J hk G2_0 G2_1 G2_2 G2_3 G2_4 G2_5 G2_6 G2_7 G2_8 G2_9 G2_10 G2_11 G2_12 G2_13 G2_14 G2_15 hF hR hSN
            refine lv_dup hx hb dL_act_137 rfl ?_
            refine lv_iconst (v := nI 1) hx hb dL_act_138 rfl ?_
            refine lv_iload_n hx hb dL_act_139 rfl (lv_at hl 5 rfl) ?_
            refine lv_bipush (v := 7) hx hb dL_act_140 (by decide) ?_
            refine lv_ishr hx hb dL_act_142 ?_
            have join_158 : ∀ (ls : Array Slot) (nr9 : Nat) (hnr9 : (dn = 0 ∧ nr9 = 20) ∨ (dn = 1 ∧ nr9 + le = 21)), lv_has ls 12 [(5, .int (nI le)), (4, .int dn), (3, .int (nI nf)), (0, .ref x), (1, .ref z), (2, .int xv)] → W p l e (headSpec wsL_act2 ({ frames := 8, cells := 20, slots := 120, locals := 129 } : Room)).room s m args below meth c H locs 1 6 QQ (F0 m 158 ls [.int (nI nr9), .int (xv >>> (7 &&& 31)), .int (nI 1), .ref q111, .ref q111]) := by
              intro ls nr9 hnr9 hl
              obtain ⟨rr, hrr⟩ : ∃ q9 : Nat, q9 = bln (xv >>> (7 &&& 31)) (nr9) := ⟨_, rfl⟩
              have brr := bln_lt (v := xv >>> (7 &&& 31)) (n := nr9) (by omega)
              refine z_cr (z_rS (As := [.int (xv >>> (7 &&& 31)), .int (nI nr9)]) (rest := [.int (nI 1), .ref q111, .ref q111]) X J (cL_below_ok l E (by first | assumption | omega | decide) (by first | assumption | omega | decide)) (va_cwS 2 hts (goodIn_ext2 gL_act_L_below) rfl rfl rfl (by decide +kernel) ⟨Nat.le_of_ble_eq_true rfl, Nat.le_of_ble_eq_true rfl⟩) rfl hl.1 rfl (Nat.le_of_ble_eq_true rfl) dL_act_158 ⟨Nat.le_of_ble_eq_true rfl, Nat.le_of_ble_eq_true rfl⟩) (fun r158 e_r158 => ?_)
              subst e_r158
              refine W.eq (g2 := F0 m 161 ls [.int (nI rr), .int (nI 1), .ref q111, .ref q111]) (congrArg (fun z9 : Int32 => F0 m 161 ls [.int z9, .int (nI 1), .ref q111, .ref q111]) (show (nI (bln (xv >>> (7 &&& 31)) nr9) : Int32) = nI rr from (by rw [hrr]))) ?_
              refine z_iast X J pn_1 G2_15 (vp_in_nI (by omega) (by first | decide | omega)) dL_act_161 (fun H locs J => ?_)
              rw [show upd (upd (fun _ => 0) 0 (nI co)) (nI 1).toNatClampNeg (nI rr) = upd (upd (fun _ => 0) 0 (nI co)) 1 (nI rr) from (by rw [nI_clamp (by omega)])] at J
              have hF := hF.keepS (zK.set (S := [pn_1]) (ws := ws_2) (q := pn_1) (e := (q111, zI4 E 6 (upd (upd (fun _ => 0) 0 (nI co)) 1 (nI rr)))) (List.mem_singleton.mpr rfl)) (fun q9 hq9 => Or.inr ⟨_, _, (List.mem_singleton.mp hq9).symm ▸ G2_15, noL_I⟩)
              have hR := hR.keepS (zK.set (S := [pn_1]) (ws := ws_2) (q := pn_1) (e := (q111, zI4 E 6 (upd (upd (fun _ => 0) 0 (nI co)) 1 (nI rr)))) (List.mem_singleton.mpr rfl)) (fun q9 hq9 => Or.inr ⟨_, _, (List.mem_singleton.mp hq9).symm ▸ G2_15, noL_I⟩)
              have hSN := hSN.keep (zK.set (S := [pn_1]) (ws := ws_2) (q := pn_1) (e := (q111, zI4 E 6 (upd (upd (fun _ => 0) 0 (nI co)) 1 (nI rr)))) (List.mem_singleton.mpr rfl)) (fun r9 hr9 => by simp only [List.mem_cons, rg_mem, List.not_mem_nil, or_false, not_or]; omega)
              have hk := hk.step (zK.set (S := [pn_1]) (ws := ws_2) (q := pn_1) (e := (q111, zI4 E 6 (upd (upd (fun _ => 0) 0 (nI co)) 1 (nI rr)))) (List.mem_singleton.mpr rfl)) (fun q9 a9 n9 f9 h8 h7 h9 => by simp only [List.mem_cons, rg_mem, List.not_mem_nil, or_false, not_or]; omega)
              have G3_0 := zset_ne (q := pn_1) (e' := (q111, zI4 E 6 (upd (upd (fun _ => 0) 0 (nI co)) 1 (nI rr)))) (by omega) G2_0
              have G3_1 := zset_ne (q := pn_1) (e' := (q111, zI4 E 6 (upd (upd (fun _ => 0) 0 (nI co)) 1 (nI rr)))) (by omega) G2_1
              have G3_2 := zset_ne (q := pn_1) (e' := (q111, zI4 E 6 (upd (upd (fun _ => 0) 0 (nI co)) 1 (nI rr)))) (by omega) G2_2
              have G3_3 := zset_ne (q := pn_1) (e' := (q111, zI4 E 6 (upd (upd (fun _ => 0) 0 (nI co)) 1 (nI rr)))) (by omega) G2_3
              have G3_4 := zset_ne (q := pn_1) (e' := (q111, zI4 E 6 (upd (upd (fun _ => 0) 0 (nI co)) 1 (nI rr)))) (by omega) G2_4
              have G3_5 := zset_ne (q := pn_1) (e' := (q111, zI4 E 6 (upd (upd (fun _ => 0) 0 (nI co)) 1 (nI rr)))) (by omega) G2_5
              have G3_6 := zset_ne (q := pn_1) (e' := (q111, zI4 E 6 (upd (upd (fun _ => 0) 0 (nI co)) 1 (nI rr)))) (by omega) G2_6
              have G3_7 := zset_ne (q := pn_1) (e' := (q111, zI4 E 6 (upd (upd (fun _ => 0) 0 (nI co)) 1 (nI rr)))) (by omega) G2_7
              have G3_8 := zset_ne (q := pn_1) (e' := (q111, zI4 E 6 (upd (upd (fun _ => 0) 0 (nI co)) 1 (nI rr)))) (by omega) G2_8
              have G3_9 := zset_ne (q := pn_1) (e' := (q111, zI4 E 6 (upd (upd (fun _ => 0) 0 (nI co)) 1 (nI rr)))) (by omega) G2_9
              have G3_10 := zset_ne (q := pn_1) (e' := (q111, zI4 E 6 (upd (upd (fun _ => 0) 0 (nI co)) 1 (nI rr)))) (by omega) G2_10
              have G3_11 := zset_ne (q := pn_1) (e' := (q111, zI4 E 6 (upd (upd (fun _ => 0) 0 (nI co)) 1 (nI rr)))) (by omega) G2_11
              have G3_12 := zset_ne (q := pn_1) (e' := (q111, zI4 E 6 (upd (upd (fun _ => 0) 0 (nI co)) 1 (nI rr)))) (by omega) G2_12
              have G3_13 := zset_ne (q := pn_1) (e' := (q111, zI4 E 6 (upd (upd (fun _ => 0) 0 (nI co)) 1 (nI rr)))) (by omega) G2_13
              have G3_14 := zset_ne (q := pn_1) (e' := (q111, zI4 E 6 (upd (upd (fun _ => 0) 0 (nI co)) 1 (nI rr)))) (by omega) G2_14
              have G3_15 := zset_eq (e' := (q111, zI4 E 6 (upd (upd (fun _ => 0) 0 (nI co)) 1 (nI rr)))) G2_15
              generalize hws3 : (ws_2.set pn_1 (q111, zI4 E 6 (upd (upd (fun _ => 0) 0 (nI co)) 1 (nI rr)))) = ws_3 at J hk G3_0 G3_1 G3_2 G3_3 G3_4 G3_5 G3_6 G3_7 G3_8 G3_9 G3_10 G3_11 G3_12 G3_13 G3_14 G3_15 hF hR hSN
              refine lv_dup hx hb dL_act_162 rfl ?_
              refine lv_iconst (v := nI 2) hx hb dL_act_163 rfl ?_
              refine lv_iload hx hb dL_act_164 (lv_at hl 0 rfl) ?_
              refine z_iast X J pn_1 G3_15 (vp_in_nI (by omega) (by first | decide | omega)) dL_act_166 (fun H locs J => ?_)
              rw [show upd (upd (upd (fun _ => 0) 0 (nI co)) 1 (nI rr)) (nI 2).toNatClampNeg (nI le) = upd (upd (upd (fun _ => 0) 0 (nI co)) 1 (nI rr)) 2 (nI le) from (by rw [nI_clamp (by omega)])] at J
              have hF := hF.keepS (zK.set (S := [pn_1]) (ws := ws_3) (q := pn_1) (e := (q111, zI4 E 6 (upd (upd (upd (fun _ => 0) 0 (nI co)) 1 (nI rr)) 2 (nI le)))) (List.mem_singleton.mpr rfl)) (fun q9 hq9 => Or.inr ⟨_, _, (List.mem_singleton.mp hq9).symm ▸ G3_15, noL_I⟩)
              have hR := hR.keepS (zK.set (S := [pn_1]) (ws := ws_3) (q := pn_1) (e := (q111, zI4 E 6 (upd (upd (upd (fun _ => 0) 0 (nI co)) 1 (nI rr)) 2 (nI le)))) (List.mem_singleton.mpr rfl)) (fun q9 hq9 => Or.inr ⟨_, _, (List.mem_singleton.mp hq9).symm ▸ G3_15, noL_I⟩)
              have hSN := hSN.keep (zK.set (S := [pn_1]) (ws := ws_3) (q := pn_1) (e := (q111, zI4 E 6 (upd (upd (upd (fun _ => 0) 0 (nI co)) 1 (nI rr)) 2 (nI le)))) (List.mem_singleton.mpr rfl)) (fun r9 hr9 => by simp only [List.mem_cons, rg_mem, List.not_mem_nil, or_false, not_or]; omega)
              have hk := hk.step (zK.set (S := [pn_1]) (ws := ws_3) (q := pn_1) (e := (q111, zI4 E 6 (upd (upd (upd (fun _ => 0) 0 (nI co)) 1 (nI rr)) 2 (nI le)))) (List.mem_singleton.mpr rfl)) (fun q9 a9 n9 f9 h8 h7 h9 => by simp only [List.mem_cons, rg_mem, List.not_mem_nil, or_false, not_or]; omega)
              have G4_0 := zset_ne (q := pn_1) (e' := (q111, zI4 E 6 (upd (upd (upd (fun _ => 0) 0 (nI co)) 1 (nI rr)) 2 (nI le)))) (by omega) G3_0
              have G4_1 := zset_ne (q := pn_1) (e' := (q111, zI4 E 6 (upd (upd (upd (fun _ => 0) 0 (nI co)) 1 (nI rr)) 2 (nI le)))) (by omega) G3_1
              have G4_2 := zset_ne (q := pn_1) (e' := (q111, zI4 E 6 (upd (upd (upd (fun _ => 0) 0 (nI co)) 1 (nI rr)) 2 (nI le)))) (by omega) G3_2
              have G4_3 := zset_ne (q := pn_1) (e' := (q111, zI4 E 6 (upd (upd (upd (fun _ => 0) 0 (nI co)) 1 (nI rr)) 2 (nI le)))) (by omega) G3_3
              have G4_4 := zset_ne (q := pn_1) (e' := (q111, zI4 E 6 (upd (upd (upd (fun _ => 0) 0 (nI co)) 1 (nI rr)) 2 (nI le)))) (by omega) G3_4
              have G4_5 := zset_ne (q := pn_1) (e' := (q111, zI4 E 6 (upd (upd (upd (fun _ => 0) 0 (nI co)) 1 (nI rr)) 2 (nI le)))) (by omega) G3_5
              have G4_6 := zset_ne (q := pn_1) (e' := (q111, zI4 E 6 (upd (upd (upd (fun _ => 0) 0 (nI co)) 1 (nI rr)) 2 (nI le)))) (by omega) G3_6
              have G4_7 := zset_ne (q := pn_1) (e' := (q111, zI4 E 6 (upd (upd (upd (fun _ => 0) 0 (nI co)) 1 (nI rr)) 2 (nI le)))) (by omega) G3_7
              have G4_8 := zset_ne (q := pn_1) (e' := (q111, zI4 E 6 (upd (upd (upd (fun _ => 0) 0 (nI co)) 1 (nI rr)) 2 (nI le)))) (by omega) G3_8
              have G4_9 := zset_ne (q := pn_1) (e' := (q111, zI4 E 6 (upd (upd (upd (fun _ => 0) 0 (nI co)) 1 (nI rr)) 2 (nI le)))) (by omega) G3_9
              have G4_10 := zset_ne (q := pn_1) (e' := (q111, zI4 E 6 (upd (upd (upd (fun _ => 0) 0 (nI co)) 1 (nI rr)) 2 (nI le)))) (by omega) G3_10
              have G4_11 := zset_ne (q := pn_1) (e' := (q111, zI4 E 6 (upd (upd (upd (fun _ => 0) 0 (nI co)) 1 (nI rr)) 2 (nI le)))) (by omega) G3_11
              have G4_12 := zset_ne (q := pn_1) (e' := (q111, zI4 E 6 (upd (upd (upd (fun _ => 0) 0 (nI co)) 1 (nI rr)) 2 (nI le)))) (by omega) G3_12
              have G4_13 := zset_ne (q := pn_1) (e' := (q111, zI4 E 6 (upd (upd (upd (fun _ => 0) 0 (nI co)) 1 (nI rr)) 2 (nI le)))) (by omega) G3_13
              have G4_14 := zset_ne (q := pn_1) (e' := (q111, zI4 E 6 (upd (upd (upd (fun _ => 0) 0 (nI co)) 1 (nI rr)) 2 (nI le)))) (by omega) G3_14
              have G4_15 := zset_eq (e' := (q111, zI4 E 6 (upd (upd (upd (fun _ => 0) 0 (nI co)) 1 (nI rr)) 2 (nI le)))) G3_15
              generalize hws4 : (ws_3.set pn_1 (q111, zI4 E 6 (upd (upd (upd (fun _ => 0) 0 (nI co)) 1 (nI rr)) 2 (nI le)))) = ws_4 at J hk G4_0 G4_1 G4_2 G4_3 G4_4 G4_5 G4_6 G4_7 G4_8 G4_9 G4_10 G4_11 G4_12 G4_13 G4_14 G4_15 hF hR hSN
              refine lv_dup hx hb dL_act_167 rfl ?_
              refine lv_iconst (v := nI 3) hx hb dL_act_168 rfl ?_
              have join_179 : ∀ (ls : Array Slot), lv_has ls 12 [(5, .int (nI le)), (4, .int dn), (3, .int (nI nf)), (0, .ref x), (1, .ref z), (2, .int xv)] → W p l e (headSpec wsL_act2 ({ frames := 8, cells := 20, slots := 120, locals := 129 } : Room)).room s m args below meth c H locs 1 6 QQ (F0 m 179 ls [.int dn, .int (nI 3), .ref q111, .ref q111]) := by
                intro ls hl
                refine z_iast X J pn_1 G4_15 (vp_in_nI (by omega) (by first | decide | omega)) dL_act_179 (fun H locs J => ?_)
                rw [show upd (upd (upd (upd (fun _ => 0) 0 (nI co)) 1 (nI rr)) 2 (nI le)) (nI 3).toNatClampNeg dn = upd (upd (upd (upd (fun _ => 0) 0 (nI co)) 1 (nI rr)) 2 (nI le)) 3 dn from (by rw [nI_clamp (by omega)])] at J
                have hF := hF.keepS (zK.set (S := [pn_1]) (ws := ws_4) (q := pn_1) (e := (q111, zI4 E 6 (upd (upd (upd (upd (fun _ => 0) 0 (nI co)) 1 (nI rr)) 2 (nI le)) 3 dn))) (List.mem_singleton.mpr rfl)) (fun q9 hq9 => Or.inr ⟨_, _, (List.mem_singleton.mp hq9).symm ▸ G4_15, noL_I⟩)
                have hR := hR.keepS (zK.set (S := [pn_1]) (ws := ws_4) (q := pn_1) (e := (q111, zI4 E 6 (upd (upd (upd (upd (fun _ => 0) 0 (nI co)) 1 (nI rr)) 2 (nI le)) 3 dn))) (List.mem_singleton.mpr rfl)) (fun q9 hq9 => Or.inr ⟨_, _, (List.mem_singleton.mp hq9).symm ▸ G4_15, noL_I⟩)
                have hSN := hSN.keep (zK.set (S := [pn_1]) (ws := ws_4) (q := pn_1) (e := (q111, zI4 E 6 (upd (upd (upd (upd (fun _ => 0) 0 (nI co)) 1 (nI rr)) 2 (nI le)) 3 dn))) (List.mem_singleton.mpr rfl)) (fun r9 hr9 => by simp only [List.mem_cons, rg_mem, List.not_mem_nil, or_false, not_or]; omega)
                have hk := hk.step (zK.set (S := [pn_1]) (ws := ws_4) (q := pn_1) (e := (q111, zI4 E 6 (upd (upd (upd (upd (fun _ => 0) 0 (nI co)) 1 (nI rr)) 2 (nI le)) 3 dn))) (List.mem_singleton.mpr rfl)) (fun q9 a9 n9 f9 h8 h7 h9 => by simp only [List.mem_cons, rg_mem, List.not_mem_nil, or_false, not_or]; omega)
                have G5_0 := zset_ne (q := pn_1) (e' := (q111, zI4 E 6 (upd (upd (upd (upd (fun _ => 0) 0 (nI co)) 1 (nI rr)) 2 (nI le)) 3 dn))) (by omega) G4_0
                have G5_1 := zset_ne (q := pn_1) (e' := (q111, zI4 E 6 (upd (upd (upd (upd (fun _ => 0) 0 (nI co)) 1 (nI rr)) 2 (nI le)) 3 dn))) (by omega) G4_1
                have G5_2 := zset_ne (q := pn_1) (e' := (q111, zI4 E 6 (upd (upd (upd (upd (fun _ => 0) 0 (nI co)) 1 (nI rr)) 2 (nI le)) 3 dn))) (by omega) G4_2
                have G5_3 := zset_ne (q := pn_1) (e' := (q111, zI4 E 6 (upd (upd (upd (upd (fun _ => 0) 0 (nI co)) 1 (nI rr)) 2 (nI le)) 3 dn))) (by omega) G4_3
                have G5_4 := zset_ne (q := pn_1) (e' := (q111, zI4 E 6 (upd (upd (upd (upd (fun _ => 0) 0 (nI co)) 1 (nI rr)) 2 (nI le)) 3 dn))) (by omega) G4_4
                have G5_5 := zset_ne (q := pn_1) (e' := (q111, zI4 E 6 (upd (upd (upd (upd (fun _ => 0) 0 (nI co)) 1 (nI rr)) 2 (nI le)) 3 dn))) (by omega) G4_5
                have G5_6 := zset_ne (q := pn_1) (e' := (q111, zI4 E 6 (upd (upd (upd (upd (fun _ => 0) 0 (nI co)) 1 (nI rr)) 2 (nI le)) 3 dn))) (by omega) G4_6
                have G5_7 := zset_ne (q := pn_1) (e' := (q111, zI4 E 6 (upd (upd (upd (upd (fun _ => 0) 0 (nI co)) 1 (nI rr)) 2 (nI le)) 3 dn))) (by omega) G4_7
                have G5_8 := zset_ne (q := pn_1) (e' := (q111, zI4 E 6 (upd (upd (upd (upd (fun _ => 0) 0 (nI co)) 1 (nI rr)) 2 (nI le)) 3 dn))) (by omega) G4_8
                have G5_9 := zset_ne (q := pn_1) (e' := (q111, zI4 E 6 (upd (upd (upd (upd (fun _ => 0) 0 (nI co)) 1 (nI rr)) 2 (nI le)) 3 dn))) (by omega) G4_9
                have G5_10 := zset_ne (q := pn_1) (e' := (q111, zI4 E 6 (upd (upd (upd (upd (fun _ => 0) 0 (nI co)) 1 (nI rr)) 2 (nI le)) 3 dn))) (by omega) G4_10
                have G5_11 := zset_ne (q := pn_1) (e' := (q111, zI4 E 6 (upd (upd (upd (upd (fun _ => 0) 0 (nI co)) 1 (nI rr)) 2 (nI le)) 3 dn))) (by omega) G4_11
                have G5_12 := zset_ne (q := pn_1) (e' := (q111, zI4 E 6 (upd (upd (upd (upd (fun _ => 0) 0 (nI co)) 1 (nI rr)) 2 (nI le)) 3 dn))) (by omega) G4_12
                have G5_13 := zset_ne (q := pn_1) (e' := (q111, zI4 E 6 (upd (upd (upd (upd (fun _ => 0) 0 (nI co)) 1 (nI rr)) 2 (nI le)) 3 dn))) (by omega) G4_13
                have G5_14 := zset_ne (q := pn_1) (e' := (q111, zI4 E 6 (upd (upd (upd (upd (fun _ => 0) 0 (nI co)) 1 (nI rr)) 2 (nI le)) 3 dn))) (by omega) G4_14
                have G5_15 := zset_eq (e' := (q111, zI4 E 6 (upd (upd (upd (upd (fun _ => 0) 0 (nI co)) 1 (nI rr)) 2 (nI le)) 3 dn))) G4_15
                generalize hws5 : (ws_4.set pn_1 (q111, zI4 E 6 (upd (upd (upd (upd (fun _ => 0) 0 (nI co)) 1 (nI rr)) 2 (nI le)) 3 dn))) = ws_5 at J hk G5_0 G5_1 G5_2 G5_3 G5_4 G5_5 G5_6 G5_7 G5_8 G5_9 G5_10 G5_11 G5_12 G5_13 G5_14 G5_15 hF hR hSN
                refine lv_dup hx hb dL_act_180 rfl ?_
                refine lv_iconst (v := nI 4) hx hb dL_act_181 rfl ?_
                have join_208 : ∀ (ls : Array Slot) (he : Nat) (hhe : 1 ≤ he ∧ he ≤ 9), lv_has ls 12 [(5, .int (nI le)), (4, .int dn), (3, .int (nI nf)), (0, .ref x), (1, .ref z), (2, .int xv)] → W p l e (headSpec wsL_act2 ({ frames := 8, cells := 20, slots := 120, locals := 129 } : Room)).room s m args below meth c H locs 1 6 QQ (F0 m 208 ls [.int (nI he), .int (nI 4), .ref q111, .ref q111]) := by
                  intro ls he hhe hl
                  refine z_iast X J pn_1 G5_15 (vp_in_nI (by omega) (by first | decide | omega)) dL_act_208 (fun H locs J => ?_)
                  rw [show upd (upd (upd (upd (upd (fun _ => 0) 0 (nI co)) 1 (nI rr)) 2 (nI le)) 3 dn) (nI 4).toNatClampNeg (nI he) = upd (upd (upd (upd (upd (fun _ => 0) 0 (nI co)) 1 (nI rr)) 2 (nI le)) 3 dn) 4 (nI he) from (by rw [nI_clamp (by omega)])] at J
                  have hF := hF.keepS (zK.set (S := [pn_1]) (ws := ws_5) (q := pn_1) (e := (q111, zI4 E 6 (upd (upd (upd (upd (upd (fun _ => 0) 0 (nI co)) 1 (nI rr)) 2 (nI le)) 3 dn) 4 (nI he)))) (List.mem_singleton.mpr rfl)) (fun q9 hq9 => Or.inr ⟨_, _, (List.mem_singleton.mp hq9).symm ▸ G5_15, noL_I⟩)
                  have hR := hR.keepS (zK.set (S := [pn_1]) (ws := ws_5) (q := pn_1) (e := (q111, zI4 E 6 (upd (upd (upd (upd (upd (fun _ => 0) 0 (nI co)) 1 (nI rr)) 2 (nI le)) 3 dn) 4 (nI he)))) (List.mem_singleton.mpr rfl)) (fun q9 hq9 => Or.inr ⟨_, _, (List.mem_singleton.mp hq9).symm ▸ G5_15, noL_I⟩)
                  have hSN := hSN.keep (zK.set (S := [pn_1]) (ws := ws_5) (q := pn_1) (e := (q111, zI4 E 6 (upd (upd (upd (upd (upd (fun _ => 0) 0 (nI co)) 1 (nI rr)) 2 (nI le)) 3 dn) 4 (nI he)))) (List.mem_singleton.mpr rfl)) (fun r9 hr9 => by simp only [List.mem_cons, rg_mem, List.not_mem_nil, or_false, not_or]; omega)
                  have hk := hk.step (zK.set (S := [pn_1]) (ws := ws_5) (q := pn_1) (e := (q111, zI4 E 6 (upd (upd (upd (upd (upd (fun _ => 0) 0 (nI co)) 1 (nI rr)) 2 (nI le)) 3 dn) 4 (nI he)))) (List.mem_singleton.mpr rfl)) (fun q9 a9 n9 f9 h8 h7 h9 => by simp only [List.mem_cons, rg_mem, List.not_mem_nil, or_false, not_or]; omega)
                  have G6_0 := zset_ne (q := pn_1) (e' := (q111, zI4 E 6 (upd (upd (upd (upd (upd (fun _ => 0) 0 (nI co)) 1 (nI rr)) 2 (nI le)) 3 dn) 4 (nI he)))) (by omega) G5_0
                  have G6_1 := zset_ne (q := pn_1) (e' := (q111, zI4 E 6 (upd (upd (upd (upd (upd (fun _ => 0) 0 (nI co)) 1 (nI rr)) 2 (nI le)) 3 dn) 4 (nI he)))) (by omega) G5_1
                  have G6_2 := zset_ne (q := pn_1) (e' := (q111, zI4 E 6 (upd (upd (upd (upd (upd (fun _ => 0) 0 (nI co)) 1 (nI rr)) 2 (nI le)) 3 dn) 4 (nI he)))) (by omega) G5_2
                  have G6_3 := zset_ne (q := pn_1) (e' := (q111, zI4 E 6 (upd (upd (upd (upd (upd (fun _ => 0) 0 (nI co)) 1 (nI rr)) 2 (nI le)) 3 dn) 4 (nI he)))) (by omega) G5_3
                  have G6_4 := zset_ne (q := pn_1) (e' := (q111, zI4 E 6 (upd (upd (upd (upd (upd (fun _ => 0) 0 (nI co)) 1 (nI rr)) 2 (nI le)) 3 dn) 4 (nI he)))) (by omega) G5_4
                  have G6_5 := zset_ne (q := pn_1) (e' := (q111, zI4 E 6 (upd (upd (upd (upd (upd (fun _ => 0) 0 (nI co)) 1 (nI rr)) 2 (nI le)) 3 dn) 4 (nI he)))) (by omega) G5_5
                  have G6_6 := zset_ne (q := pn_1) (e' := (q111, zI4 E 6 (upd (upd (upd (upd (upd (fun _ => 0) 0 (nI co)) 1 (nI rr)) 2 (nI le)) 3 dn) 4 (nI he)))) (by omega) G5_6
                  have G6_7 := zset_ne (q := pn_1) (e' := (q111, zI4 E 6 (upd (upd (upd (upd (upd (fun _ => 0) 0 (nI co)) 1 (nI rr)) 2 (nI le)) 3 dn) 4 (nI he)))) (by omega) G5_7
                  have G6_8 := zset_ne (q := pn_1) (e' := (q111, zI4 E 6 (upd (upd (upd (upd (upd (fun _ => 0) 0 (nI co)) 1 (nI rr)) 2 (nI le)) 3 dn) 4 (nI he)))) (by omega) G5_8
                  have G6_9 := zset_ne (q := pn_1) (e' := (q111, zI4 E 6 (upd (upd (upd (upd (upd (fun _ => 0) 0 (nI co)) 1 (nI rr)) 2 (nI le)) 3 dn) 4 (nI he)))) (by omega) G5_9
                  have G6_10 := zset_ne (q := pn_1) (e' := (q111, zI4 E 6 (upd (upd (upd (upd (upd (fun _ => 0) 0 (nI co)) 1 (nI rr)) 2 (nI le)) 3 dn) 4 (nI he)))) (by omega) G5_10
                  have G6_11 := zset_ne (q := pn_1) (e' := (q111, zI4 E 6 (upd (upd (upd (upd (upd (fun _ => 0) 0 (nI co)) 1 (nI rr)) 2 (nI le)) 3 dn) 4 (nI he)))) (by omega) G5_11
                  have G6_12 := zset_ne (q := pn_1) (e' := (q111, zI4 E 6 (upd (upd (upd (upd (upd (fun _ => 0) 0 (nI co)) 1 (nI rr)) 2 (nI le)) 3 dn) 4 (nI he)))) (by omega) G5_12
                  have G6_13 := zset_ne (q := pn_1) (e' := (q111, zI4 E 6 (upd (upd (upd (upd (upd (fun _ => 0) 0 (nI co)) 1 (nI rr)) 2 (nI le)) 3 dn) 4 (nI he)))) (by omega) G5_13
                  have G6_14 := zset_ne (q := pn_1) (e' := (q111, zI4 E 6 (upd (upd (upd (upd (upd (fun _ => 0) 0 (nI co)) 1 (nI rr)) 2 (nI le)) 3 dn) 4 (nI he)))) (by omega) G5_14
                  have G6_15 := zset_eq (e' := (q111, zI4 E 6 (upd (upd (upd (upd (upd (fun _ => 0) 0 (nI co)) 1 (nI rr)) 2 (nI le)) 3 dn) 4 (nI he)))) G5_15
                  generalize hws6 : (ws_5.set pn_1 (q111, zI4 E 6 (upd (upd (upd (upd (upd (fun _ => 0) 0 (nI co)) 1 (nI rr)) 2 (nI le)) 3 dn) 4 (nI he)))) = ws_6 at J hk G6_0 G6_1 G6_2 G6_3 G6_4 G6_5 G6_6 G6_7 G6_8 G6_9 G6_10 G6_11 G6_12 G6_13 G6_14 G6_15 hF hR hSN
                  refine lv_dup hx hb dL_act_209 rfl ?_
                  refine lv_iconst (v := nI 5) hx hb dL_act_210 rfl ?_
                  refine lv_iload_n hx hb dL_act_211 rfl (lv_at hl 5 rfl) ?_
                  refine lv_bipush (v := 8) hx hb dL_act_212 (by decide) ?_
                  refine lv_ishr hx hb dL_act_214 ?_
                  refine lv_iconst (v := nI 4) hx hb dL_act_215 rfl ?_
                  obtain ⟨ga, hga⟩ : ∃ q9 : Nat, q9 = bln (xv >>> (8 &&& 31)) (4) := ⟨_, rfl⟩
                  have bga := bln_lt (v := xv >>> (8 &&& 31)) (n := 4) (by omega)
                  refine z_cr (z_rS (As := [.int (xv >>> (8 &&& 31)), .int (nI 4)]) (rest := [.int (nI 5), .ref q111, .ref q111]) X J (cL_below_ok l E (by first | assumption | omega | decide) (by first | assumption | omega | decide)) (va_cwS 2 hts (goodIn_ext2 gL_act_L_below) rfl rfl rfl (by decide +kernel) ⟨Nat.le_of_ble_eq_true rfl, Nat.le_of_ble_eq_true rfl⟩) rfl hl.1 rfl (Nat.le_of_ble_eq_true rfl) dL_act_216 ⟨Nat.le_of_ble_eq_true rfl, Nat.le_of_ble_eq_true rfl⟩) (fun r216 e_r216 => ?_)
                  subst e_r216
                  refine W.eq (g2 := F0 m 219 ls [.int (nI ga), .int (nI 5), .ref q111, .ref q111]) (congrArg (fun z9 : Int32 => F0 m 219 ls [.int z9, .int (nI 5), .ref q111, .ref q111]) (show (nI (bln (xv >>> (8 &&& 31)) 4) : Int32) = nI ga from (by rw [hga]))) ?_
                  refine z_iast X J pn_1 G6_15 (vp_in_nI (by omega) (by first | decide | omega)) dL_act_219 (fun H locs J => ?_)
                  rw [show upd (upd (upd (upd (upd (upd (fun _ => 0) 0 (nI co)) 1 (nI rr)) 2 (nI le)) 3 dn) 4 (nI he)) (nI 5).toNatClampNeg (nI ga) = upd (upd (upd (upd (upd (upd (fun _ => 0) 0 (nI co)) 1 (nI rr)) 2 (nI le)) 3 dn) 4 (nI he)) 5 (nI ga) from (by rw [nI_clamp (by omega)])] at J
                  have hF := hF.keepS (zK.set (S := [pn_1]) (ws := ws_6) (q := pn_1) (e := (q111, zI4 E 6 (upd (upd (upd (upd (upd (upd (fun _ => 0) 0 (nI co)) 1 (nI rr)) 2 (nI le)) 3 dn) 4 (nI he)) 5 (nI ga)))) (List.mem_singleton.mpr rfl)) (fun q9 hq9 => Or.inr ⟨_, _, (List.mem_singleton.mp hq9).symm ▸ G6_15, noL_I⟩)
                  have hR := hR.keepS (zK.set (S := [pn_1]) (ws := ws_6) (q := pn_1) (e := (q111, zI4 E 6 (upd (upd (upd (upd (upd (upd (fun _ => 0) 0 (nI co)) 1 (nI rr)) 2 (nI le)) 3 dn) 4 (nI he)) 5 (nI ga)))) (List.mem_singleton.mpr rfl)) (fun q9 hq9 => Or.inr ⟨_, _, (List.mem_singleton.mp hq9).symm ▸ G6_15, noL_I⟩)
                  have hSN := hSN.keep (zK.set (S := [pn_1]) (ws := ws_6) (q := pn_1) (e := (q111, zI4 E 6 (upd (upd (upd (upd (upd (upd (fun _ => 0) 0 (nI co)) 1 (nI rr)) 2 (nI le)) 3 dn) 4 (nI he)) 5 (nI ga)))) (List.mem_singleton.mpr rfl)) (fun r9 hr9 => by simp only [List.mem_cons, rg_mem, List.not_mem_nil, or_false, not_or]; omega)
                  have hk := hk.step (zK.set (S := [pn_1]) (ws := ws_6) (q := pn_1) (e := (q111, zI4 E 6 (upd (upd (upd (upd (upd (upd (fun _ => 0) 0 (nI co)) 1 (nI rr)) 2 (nI le)) 3 dn) 4 (nI he)) 5 (nI ga)))) (List.mem_singleton.mpr rfl)) (fun q9 a9 n9 f9 h8 h7 h9 => by simp only [List.mem_cons, rg_mem, List.not_mem_nil, or_false, not_or]; omega)
                  have G7_0 := zset_ne (q := pn_1) (e' := (q111, zI4 E 6 (upd (upd (upd (upd (upd (upd (fun _ => 0) 0 (nI co)) 1 (nI rr)) 2 (nI le)) 3 dn) 4 (nI he)) 5 (nI ga)))) (by omega) G6_0
                  have G7_1 := zset_ne (q := pn_1) (e' := (q111, zI4 E 6 (upd (upd (upd (upd (upd (upd (fun _ => 0) 0 (nI co)) 1 (nI rr)) 2 (nI le)) 3 dn) 4 (nI he)) 5 (nI ga)))) (by omega) G6_1
                  have G7_2 := zset_ne (q := pn_1) (e' := (q111, zI4 E 6 (upd (upd (upd (upd (upd (upd (fun _ => 0) 0 (nI co)) 1 (nI rr)) 2 (nI le)) 3 dn) 4 (nI he)) 5 (nI ga)))) (by omega) G6_2
                  have G7_3 := zset_ne (q := pn_1) (e' := (q111, zI4 E 6 (upd (upd (upd (upd (upd (upd (fun _ => 0) 0 (nI co)) 1 (nI rr)) 2 (nI le)) 3 dn) 4 (nI he)) 5 (nI ga)))) (by omega) G6_3
                  have G7_4 := zset_ne (q := pn_1) (e' := (q111, zI4 E 6 (upd (upd (upd (upd (upd (upd (fun _ => 0) 0 (nI co)) 1 (nI rr)) 2 (nI le)) 3 dn) 4 (nI he)) 5 (nI ga)))) (by omega) G6_4
                  have G7_5 := zset_ne (q := pn_1) (e' := (q111, zI4 E 6 (upd (upd (upd (upd (upd (upd (fun _ => 0) 0 (nI co)) 1 (nI rr)) 2 (nI le)) 3 dn) 4 (nI he)) 5 (nI ga)))) (by omega) G6_5
                  have G7_6 := zset_ne (q := pn_1) (e' := (q111, zI4 E 6 (upd (upd (upd (upd (upd (upd (fun _ => 0) 0 (nI co)) 1 (nI rr)) 2 (nI le)) 3 dn) 4 (nI he)) 5 (nI ga)))) (by omega) G6_6
                  have G7_7 := zset_ne (q := pn_1) (e' := (q111, zI4 E 6 (upd (upd (upd (upd (upd (upd (fun _ => 0) 0 (nI co)) 1 (nI rr)) 2 (nI le)) 3 dn) 4 (nI he)) 5 (nI ga)))) (by omega) G6_7
                  have G7_8 := zset_ne (q := pn_1) (e' := (q111, zI4 E 6 (upd (upd (upd (upd (upd (upd (fun _ => 0) 0 (nI co)) 1 (nI rr)) 2 (nI le)) 3 dn) 4 (nI he)) 5 (nI ga)))) (by omega) G6_8
                  have G7_9 := zset_ne (q := pn_1) (e' := (q111, zI4 E 6 (upd (upd (upd (upd (upd (upd (fun _ => 0) 0 (nI co)) 1 (nI rr)) 2 (nI le)) 3 dn) 4 (nI he)) 5 (nI ga)))) (by omega) G6_9
                  have G7_10 := zset_ne (q := pn_1) (e' := (q111, zI4 E 6 (upd (upd (upd (upd (upd (upd (fun _ => 0) 0 (nI co)) 1 (nI rr)) 2 (nI le)) 3 dn) 4 (nI he)) 5 (nI ga)))) (by omega) G6_10
                  have G7_11 := zset_ne (q := pn_1) (e' := (q111, zI4 E 6 (upd (upd (upd (upd (upd (upd (fun _ => 0) 0 (nI co)) 1 (nI rr)) 2 (nI le)) 3 dn) 4 (nI he)) 5 (nI ga)))) (by omega) G6_11
                  have G7_12 := zset_ne (q := pn_1) (e' := (q111, zI4 E 6 (upd (upd (upd (upd (upd (upd (fun _ => 0) 0 (nI co)) 1 (nI rr)) 2 (nI le)) 3 dn) 4 (nI he)) 5 (nI ga)))) (by omega) G6_12
                  have G7_13 := zset_ne (q := pn_1) (e' := (q111, zI4 E 6 (upd (upd (upd (upd (upd (upd (fun _ => 0) 0 (nI co)) 1 (nI rr)) 2 (nI le)) 3 dn) 4 (nI he)) 5 (nI ga)))) (by omega) G6_13
                  have G7_14 := zset_ne (q := pn_1) (e' := (q111, zI4 E 6 (upd (upd (upd (upd (upd (upd (fun _ => 0) 0 (nI co)) 1 (nI rr)) 2 (nI le)) 3 dn) 4 (nI he)) 5 (nI ga)))) (by omega) G6_14
                  have G7_15 := zset_eq (e' := (q111, zI4 E 6 (upd (upd (upd (upd (upd (upd (fun _ => 0) 0 (nI co)) 1 (nI rr)) 2 (nI le)) 3 dn) 4 (nI he)) 5 (nI ga)))) G6_15
                  generalize hws7 : (ws_6.set pn_1 (q111, zI4 E 6 (upd (upd (upd (upd (upd (upd (fun _ => 0) 0 (nI co)) 1 (nI rr)) 2 (nI le)) 3 dn) 4 (nI he)) 5 (nI ga)))) = ws_7 at J hk G7_0 G7_1 G7_2 G7_3 G7_4 G7_5 G7_6 G7_7 G7_8 G7_9 G7_10 G7_11 G7_12 G7_13 G7_14 G7_15 hF hR hSN
                  refine lv_astore (lv' := [(6, .ref q111), (5, .int (nI le)), (4, .int dn), (3, .int (nI nf)), (0, .ref x), (1, .ref z), (2, .int xv)]) hx hb dL_act_220 hl (by decide) rfl (fun ls hl => ?_)
                  have hd9 : (dn = 0 ∧ co + le ≤ 20 ∧ rr < 20) ∨ (dn = 1 ∧ rr + le ≤ 20 ∧ co < 20) := by
                    rcases hnc with ⟨h1, h2⟩ | ⟨h1, h2⟩ <;> rcases hnr9 with ⟨h3, h4⟩ | ⟨h3, h4⟩
                    · exact Or.inl ⟨h1, by omega, by omega⟩
                    · exact absurd (h1.symm.trans h3) (by decide)
                    · exact absurd (h3.symm.trans h1) (by decide)
                    · exact Or.inr ⟨h1, by omega, by omega⟩
                  refine lv_aload_n hx hb dL_act_222 rfl (lv_at hl 5 rfl) ?_
                  refine lv_aload_n hx hb dL_act_223 rfl (lv_at hl 5 rfl) ?_
                  refine z_get (C := RX7) (T := TX7) (N := 8) (ci := 8) (v := .ref fe) X J hi_X7 11 G7_11 rfl 0 (by decide) (by decide +kernel) rfl dL_act_224 ?_
                  refine lv_aload hx hb dL_act_227 (lv_at hl 0 rfl) ?_
                  refine z_cq J (z_rS (As := [.ref fe, .ref q111]) (rest := [.ref z]) X J (cX7_with_ok l E G7_13 G7_15 (fun j9 hj9 => (hSE.keepI hk j9 hj9).elim (fun a9 h9 => h9.elim (fun q9 h9 => h9.elim (fun f9 h9 => ⟨a9, q9, 6, f9, h9.1, h9.2.2.1⟩)))) hnf) (va_cwS 2 hts (goodIn_ext2 gL_act_X7_with) rfl rfl rfl (by decide +kernel) ⟨Nat.le_of_ble_eq_true rfl, Nat.le_of_ble_eq_true rfl⟩) rfl hl.1 rfl (Nat.le_of_ble_eq_true rfl) dL_act_229 ⟨by show _ ≤ 20; omega, by show _ ≤ 120; omega⟩) (fun r229 ws_8 H locs hp9 J => ?_)
                  obtain ⟨k8, ⟨nq_8, hlen8, N8_0, e_r229⟩⟩ := hp9
                  have hF := hF.keepS k8 (fun q9 hq9 => absurd hq9 List.not_mem_nil)
                  have hR := hR.keepS k8 (fun q9 hq9 => absurd hq9 List.not_mem_nil)
                  have hSN := hSN.keep k8 (fun _ _ => List.not_mem_nil)
                  have lp8 := hk.1
                  have b_8_0 := zlt G7_0
                  have b_8_1 := zlt G7_1
                  have b_8_2 := zlt G7_2
                  have b_8_3 := zlt G7_3
                  have b_8_4 := zlt G7_4
                  have b_8_5 := zlt G7_5
                  have b_8_6 := zlt G7_6
                  have b_8_7 := zlt G7_7
                  have b_8_8 := zlt G7_8
                  have b_8_9 := zlt G7_9
                  have b_8_10 := zlt G7_10
                  have b_8_11 := zlt G7_11
                  have b_8_12 := zlt G7_12
                  have b_8_13 := zlt G7_13
                  have b_8_14 := zlt G7_14
                  have b_8_15 := zlt G7_15
                  have hk := hk.step k8 (fun _ _ _ _ _ _ _ => List.not_mem_nil)
                  have G8_0 := k8.2 0 _ List.not_mem_nil G7_0
                  have G8_1 := k8.2 1 _ List.not_mem_nil G7_1
                  have G8_2 := k8.2 2 _ List.not_mem_nil G7_2
                  have G8_3 := k8.2 3 _ List.not_mem_nil G7_3
                  have G8_4 := k8.2 4 _ List.not_mem_nil G7_4
                  have G8_5 := k8.2 5 _ List.not_mem_nil G7_5
                  have G8_6 := k8.2 6 _ List.not_mem_nil G7_6
                  have G8_7 := k8.2 7 _ List.not_mem_nil G7_7
                  have G8_8 := k8.2 8 _ List.not_mem_nil G7_8
                  have G8_9 := k8.2 9 _ List.not_mem_nil G7_9
                  have G8_10 := k8.2 10 _ List.not_mem_nil G7_10
                  have G8_11 := k8.2 11 _ List.not_mem_nil G7_11
                  have G8_12 := k8.2 14 _ List.not_mem_nil G7_12
                  have G8_13 := k8.2 qf _ List.not_mem_nil G7_13
                  have G8_14 := k8.2 qr _ List.not_mem_nil G7_14
                  have G8_15 := k8.2 pn_1 _ List.not_mem_nil G7_15
                  obtain ⟨pn_8_0, hpn_8_0⟩ : ∃ z : Nat, z = ws_7.length + 0 := ⟨_, rfl⟩
                  rw [← hpn_8_0] at N8_0
                  subst e_r229
                  refine W.eq (g2 := F0 m 232 ls [.ref nq_8, .ref z]) rfl ?_
                  refine z_put (C := RX7) (T := TX7) (N := 8) (ci := 8) (v := .ref nq_8) X J hi_X7 tyX7 tyX7_ok nmX7 11 G8_11 rfl 0 (by decide) (by decide +kernel) rfl rfl rfl (Nat.le_of_ble_eq_true rfl) dL_act_232 (fun H locs J => ?_)
                  have J : zJ E (ws_8.set 11 (z, .inr (8, [.ref nq_8, .ref ro, .ref sa, .int lim, .int sup, .int off, .int plo, .int hrs]))) s H locs := J
                  have hF := hF.keepS (zK.set (S := [11]) (ws := ws_8) (q := 11) (e := (z, .inr (8, [.ref nq_8, .ref ro, .ref sa, .int lim, .int sup, .int off, .int plo, .int hrs]))) (List.mem_singleton.mpr rfl)) (fun q9 hq9 => Or.inl (by simp only [List.mem_cons, rg_mem, List.not_mem_nil, or_false, not_or] at hq9; omega))
                  have hR := hR.keepS (zK.set (S := [11]) (ws := ws_8) (q := 11) (e := (z, .inr (8, [.ref nq_8, .ref ro, .ref sa, .int lim, .int sup, .int off, .int plo, .int hrs]))) (List.mem_singleton.mpr rfl)) (fun q9 hq9 => Or.inl (by simp only [List.mem_cons, rg_mem, List.not_mem_nil, or_false, not_or] at hq9; omega))
                  have hSN := hSN.keep (zK.set (S := [11]) (ws := ws_8) (q := 11) (e := (z, .inr (8, [.ref nq_8, .ref ro, .ref sa, .int lim, .int sup, .int off, .int plo, .int hrs]))) (List.mem_singleton.mpr rfl)) (fun r9 hr9 => by simp only [List.mem_cons, rg_mem, List.not_mem_nil, or_false, not_or]; omega)
                  have hk := hk.step (zK.set (S := [11]) (ws := ws_8) (q := 11) (e := (z, .inr (8, [.ref nq_8, .ref ro, .ref sa, .int lim, .int sup, .int off, .int plo, .int hrs]))) (List.mem_singleton.mpr rfl)) (fun q9 a9 n9 f9 h8 h7 h9 => by simp only [List.mem_cons, rg_mem, List.not_mem_nil, or_false, not_or]; omega)
                  have G9_0 := zset_ne (q := 11) (e' := (z, .inr (8, [.ref nq_8, .ref ro, .ref sa, .int lim, .int sup, .int off, .int plo, .int hrs]))) (by decide) G8_0
                  have G9_1 := zset_ne (q := 11) (e' := (z, .inr (8, [.ref nq_8, .ref ro, .ref sa, .int lim, .int sup, .int off, .int plo, .int hrs]))) (by decide) G8_1
                  have G9_2 := zset_ne (q := 11) (e' := (z, .inr (8, [.ref nq_8, .ref ro, .ref sa, .int lim, .int sup, .int off, .int plo, .int hrs]))) (by decide) G8_2
                  have G9_3 := zset_ne (q := 11) (e' := (z, .inr (8, [.ref nq_8, .ref ro, .ref sa, .int lim, .int sup, .int off, .int plo, .int hrs]))) (by decide) G8_3
                  have G9_4 := zset_ne (q := 11) (e' := (z, .inr (8, [.ref nq_8, .ref ro, .ref sa, .int lim, .int sup, .int off, .int plo, .int hrs]))) (by decide) G8_4
                  have G9_5 := zset_ne (q := 11) (e' := (z, .inr (8, [.ref nq_8, .ref ro, .ref sa, .int lim, .int sup, .int off, .int plo, .int hrs]))) (by decide) G8_5
                  have G9_6 := zset_ne (q := 11) (e' := (z, .inr (8, [.ref nq_8, .ref ro, .ref sa, .int lim, .int sup, .int off, .int plo, .int hrs]))) (by decide) G8_6
                  have G9_7 := zset_ne (q := 11) (e' := (z, .inr (8, [.ref nq_8, .ref ro, .ref sa, .int lim, .int sup, .int off, .int plo, .int hrs]))) (by decide) G8_7
                  have G9_8 := zset_ne (q := 11) (e' := (z, .inr (8, [.ref nq_8, .ref ro, .ref sa, .int lim, .int sup, .int off, .int plo, .int hrs]))) (by decide) G8_8
                  have G9_9 := zset_ne (q := 11) (e' := (z, .inr (8, [.ref nq_8, .ref ro, .ref sa, .int lim, .int sup, .int off, .int plo, .int hrs]))) (by decide) G8_9
                  have G9_10 := zset_ne (q := 11) (e' := (z, .inr (8, [.ref nq_8, .ref ro, .ref sa, .int lim, .int sup, .int off, .int plo, .int hrs]))) (by decide) G8_10
                  have G9_11 := zset_eq (e' := (z, .inr (8, [.ref nq_8, .ref ro, .ref sa, .int lim, .int sup, .int off, .int plo, .int hrs]))) G8_11
                  have G9_12 := zset_ne (q := 11) (e' := (z, .inr (8, [.ref nq_8, .ref ro, .ref sa, .int lim, .int sup, .int off, .int plo, .int hrs]))) (by decide) G8_12
                  have G9_13 := zset_ne (q := 11) (e' := (z, .inr (8, [.ref nq_8, .ref ro, .ref sa, .int lim, .int sup, .int off, .int plo, .int hrs]))) (by omega) G8_13
                  have G9_14 := zset_ne (q := 11) (e' := (z, .inr (8, [.ref nq_8, .ref ro, .ref sa, .int lim, .int sup, .int off, .int plo, .int hrs]))) (by omega) G8_14
                  have G9_15 := zset_ne (q := 11) (e' := (z, .inr (8, [.ref nq_8, .ref ro, .ref sa, .int lim, .int sup, .int off, .int plo, .int hrs]))) (by omega) G8_15
                  have G9_16 := zset_ne (q := 11) (e' := (z, .inr (8, [.ref nq_8, .ref ro, .ref sa, .int lim, .int sup, .int off, .int plo, .int hrs]))) (by omega) N8_0
                  generalize hws9 : (ws_8.set 11 (z, .inr (8, [.ref nq_8, .ref ro, .ref sa, .int lim, .int sup, .int off, .int plo, .int hrs]))) = ws_9 at J hk G9_0 G9_1 G9_2 G9_3 G9_4 G9_5 G9_6 G9_7 G9_8 G9_9 G9_10 G9_11 G9_12 G9_13 G9_14 G9_15 G9_16 hF hR hSN
                  refine lv_aload_n hx hb dL_act_235 rfl (lv_at hl 4 rfl) ?_
                  refine lv_aload hx hb dL_act_236 (lv_at hl 0 rfl) ?_
                  refine lv_iconst (v := nI 0) hx hb dL_act_238 rfl ?_
                  refine z_iald X J pn_1 G9_15 (vp_in_nI (by omega) (by first | decide | omega)) dL_act_239 ?_
                  refine W.eq (g2 := F0 m 240 ls [.int (nI co), .ref x]) (congrArg (fun z9 : Int32 => F0 m 240 ls [.int z9, .ref x]) (show ((upd (upd (upd (upd (upd (upd (fun _ => 0) 0 (nI co)) 1 (nI rr)) 2 (nI le)) 3 dn) 4 (nI he)) 5 (nI ga)) (nI 0).toNatClampNeg : Int32) = nI co from (by rw [nI_clamp (by omega)]; rfl))) ?_
                  refine lv_aload hx hb dL_act_240 (lv_at hl 0 rfl) ?_
                  refine lv_iconst (v := nI 1) hx hb dL_act_242 rfl ?_
                  refine z_iald X J pn_1 G9_15 (vp_in_nI (by omega) (by first | decide | omega)) dL_act_243 ?_
                  refine W.eq (g2 := F0 m 244 ls [.int (nI rr), .int (nI co), .ref x]) (congrArg (fun z9 : Int32 => F0 m 244 ls [.int z9, .int (nI co), .ref x]) (show ((upd (upd (upd (upd (upd (upd (fun _ => 0) 0 (nI co)) 1 (nI rr)) 2 (nI le)) 3 dn) 4 (nI he)) 5 (nI ga)) (nI 1).toNatClampNeg : Int32) = nI rr from (by rw [nI_clamp (by omega)]; rfl))) ?_
                  refine lv_iload hx hb dL_act_244 (lv_at hl 1 rfl) ?_
                  refine lv_iload hx hb dL_act_246 (lv_at hl 2 rfl) ?_
                  refine lv_aload hx hb dL_act_248 (lv_at hl 0 rfl) ?_
                  refine lv_iconst (v := nI 4) hx hb dL_act_250 rfl ?_
                  refine z_iald X J pn_1 G9_15 (vp_in_nI (by omega) (by first | decide | omega)) dL_act_251 ?_
                  refine W.eq (g2 := F0 m 252 ls [.int (nI he), .int dn, .int (nI le), .int (nI rr), .int (nI co), .ref x]) (congrArg (fun z9 : Int32 => F0 m 252 ls [.int z9, .int dn, .int (nI le), .int (nI rr), .int (nI co), .ref x]) (show ((upd (upd (upd (upd (upd (upd (fun _ => 0) 0 (nI co)) 1 (nI rr)) 2 (nI le)) 3 dn) 4 (nI he)) 5 (nI ga)) (nI 4).toNatClampNeg : Int32) = nI he from (by rw [nI_clamp (by omega)]; rfl))) ?_
                  refine lv_aload hx hb dL_act_252 (lv_at hl 0 rfl) ?_
                  refine lv_iconst (v := nI 5) hx hb dL_act_254 rfl ?_
                  refine z_iald X J pn_1 G9_15 (vp_in_nI (by omega) (by first | decide | omega)) dL_act_255 ?_
                  refine W.eq (g2 := F0 m 256 ls [.int (nI ga), .int (nI he), .int dn, .int (nI le), .int (nI rr), .int (nI co), .ref x]) (congrArg (fun z9 : Int32 => F0 m 256 ls [.int z9, .int (nI he), .int dn, .int (nI le), .int (nI rr), .int (nI co), .ref x]) (show ((upd (upd (upd (upd (upd (upd (fun _ => 0) 0 (nI co)) 1 (nI rr)) 2 (nI le)) 3 dn) 4 (nI he)) 5 (nI ga)) (nI 5).toNatClampNeg : Int32) = nI ga from (by rw [nI_clamp (by omega)]; rfl))) ?_
                  have hJ9 := J.2.1
                  have hR9 := hR
                  rcases hF with ⟨hn0, he0⟩ | ⟨qe, g5, fo9, qf9, sp9, qs9, hFa⟩
                  · subst hn0
                    subst he0
                    have hk0 : kFence (nI co) (nI rr) (nI le) dn (nI he) (nI ga) (nI 0) = 0 := kFence_ok (by omega) (by omega) (by omega) (by omega) (by omega) (by omega) hd9
                    refine z_xi J (z_yV (As := [.int (nI co), .int (nI rr), .int (nI le), .int dn, .int (nI he), .int (nI ga)]) (rest := []) (ci := 7) (q0 := 0) X hRz J (cX6_fence_e_ok l hflags E G9_0 G9_1 hdn) (cwV 6 hts (goodIn_ext2 gL_act_X6_fence) rfl rfl rfl (by decide +kernel) ⟨Nat.le_of_ble_eq_true rfl, Nat.le_of_ble_eq_true rfl⟩) G9_0 rfl rfl rfl hl.1 rfl (Nat.le_of_ble_eq_true rfl) dL_act_256 ⟨by show _ ≤ 20; omega, by show _ ≤ 120; omega⟩) (fun nm ce q9 H locs hp9 J h1 h2 h3 => ?_) (fun r256 ws_10 H locs hp9 J => ?_)
                    · exact False.elim (by rcases hp9 with h9 | h9 | h9 <;> exact absurd (h9.1.symm.trans hk0) (by decide))
                    obtain ⟨k10, ⟨fo_10, sp_10, nq_10, hlen10, G10_a0, N10_0, N10_1, N10_2, e_r256⟩⟩ := hp9
                    have hR := hR.keepS k10 (fun q9 hq9 => Or.inl (by simp only [List.mem_cons, rg_mem, List.not_mem_nil, or_false, not_or] at hq9; omega))
                    have hSN := hSN.keep k10 (fun r9 hr9 => by simp only [List.mem_cons, rg_mem, List.not_mem_nil, or_false, not_or]; omega)
                    have lp10 := hk.1
                    have b_10_0 := zlt G9_0
                    have b_10_1 := zlt G9_1
                    have b_10_2 := zlt G9_2
                    have b_10_3 := zlt G9_3
                    have b_10_4 := zlt G9_4
                    have b_10_5 := zlt G9_5
                    have b_10_6 := zlt G9_6
                    have b_10_7 := zlt G9_7
                    have b_10_8 := zlt G9_8
                    have b_10_9 := zlt G9_9
                    have b_10_10 := zlt G9_10
                    have b_10_11 := zlt G9_11
                    have b_10_12 := zlt G9_12
                    have b_10_13 := zlt G9_13
                    have b_10_14 := zlt G9_14
                    have b_10_15 := zlt G9_15
                    have b_10_16 := zlt G9_16
                    have hk := hk.step k10 (fun q9 a9 n9 f9 h8 h7 h9 => by simp only [List.mem_cons, rg_mem, List.not_mem_nil, or_false, not_or]; omega)
                    have G10_0 := k10.2 0 _ (by decide) G9_0
                    have G10_2 := k10.2 2 _ (by decide) G9_2
                    have G10_3 := k10.2 3 _ (by decide) G9_3
                    have G10_4 := k10.2 4 _ (by decide) G9_4
                    have G10_5 := k10.2 5 _ (by decide) G9_5
                    have G10_6 := k10.2 6 _ (by decide) G9_6
                    have G10_7 := k10.2 7 _ (by decide) G9_7
                    have G10_8 := k10.2 8 _ (by decide) G9_8
                    have G10_9 := k10.2 9 _ (by decide) G9_9
                    have G10_10 := k10.2 10 _ (by decide) G9_10
                    have G10_11 := k10.2 11 _ (by decide) G9_11
                    have G10_12 := k10.2 14 _ (by decide) G9_12
                    have G10_13 := k10.2 qf _ (by simp only [List.mem_cons, List.not_mem_nil, or_false]; omega) G9_13
                    have G10_14 := k10.2 qr _ (by simp only [List.mem_cons, List.not_mem_nil, or_false]; omega) G9_14
                    have G10_15 := k10.2 pn_1 _ (by simp only [List.mem_cons, List.not_mem_nil, or_false]; omega) G9_15
                    have G10_16 := k10.2 pn_8_0 _ (by simp only [List.mem_cons, List.not_mem_nil, or_false]; omega) G9_16
                    obtain ⟨pn_10_0, hpn_10_0⟩ : ∃ z : Nat, z = ws_9.length + 0 := ⟨_, rfl⟩
                    rw [← hpn_10_0] at N10_0
                    obtain ⟨pn_10_1, hpn_10_1⟩ : ∃ z : Nat, z = ws_9.length + 1 := ⟨_, rfl⟩
                    rw [← hpn_10_1] at N10_1
                    obtain ⟨pn_10_2, hpn_10_2⟩ : ∃ z : Nat, z = ws_9.length + 2 := ⟨_, rfl⟩
                    rw [← hpn_10_2] at N10_2
                    refine W.eq (g2 := F0 m 259 ls [.int (nI 0)]) (congrArg (fun z9 : Int32 => F0 m 259 ls [.int z9]) (show (r256 : Int32) = nI 0 from e_r256.2)) ?_
                    refine lv_iload_n hx hb dL_act_259 rfl (lv_at hl 3 rfl) ?_
                    refine lv_icmp_ne (tgt := 267) hx hb dL_act_260 (by decide) (fun cz260 => by exact (cz260 rfl).elim) (fun cz260 => ?_)
                    refine lv_iconst (v := 1) hx hb dL_act_263 (by decide) ?_
                    refine lv_goto (tgt := 268) hx hb dL_act_264 (by decide) ?_
                    refine W.widen (k := 20) (n := 120) (by omega) (by omega) ?_
                    subst hQ
                    exact W.zret (v := 1) hx hb hr rfl (fun t ht hW => ⟨⟨1, ws_10, rfl, ⟨hk, ⟨(mc1 + 1), mc2, lim, sup, off, plo, hrs, nq_10, eb, (0 + 1), nr, nq_8, pn_8_0, ro, qr, (fput fa 0 (nI co) (nI rr) (nI le) dn (nI he) (nI ga)), rd, ri, sn, t9, hf, gf, (wO g 0 q111), gq, G10_0, G10_a0, G10_2, G10_3, G10_4, G10_5, G10_6, G10_7, G10_8, G10_9, G10_10, G10_11, G10_12, G10_16, G10_14, ⟨by omega, by omega⟩, (FS.new (pq := pn_10_2) (pf := pn_10_0) (ps := pn_10_1) hle2 (by omega) N10_2 (by omega) N10_0 (by omega) N10_1), hR, (Or.inl (sep_R hR9 k10 (by decide) J.2.1 hE1 N10_2 (by omega))), ((hSE.keepI hk).add (fb := fput fa 0 (nI co) (nI rr) (nI le) dn (nI he) (nI ga)) G10_15 (by omega) (fun t9 ht9 => f6_put t9 ht9) (fun j9 hj9 => fput_lo hj9)), (hSR.keepI hk), hSN, (by omega), hnr, (okF_add hok hdn hk0).2, hor, hRB, hu9, hlm, (Nat.le_trans hln hk.1)⟩, rfl⟩, J.I X ht hW.alike⟩, J.F ht⟩) J.locs dL_act_268
                  · have hFa : FSa E ws_9 fa ea nf qe g5 fo9 qf9 sp9 qs9 := hFa
                    have hq35 := hFa.1
                    have hk0 : kFence (nI co) (nI rr) (nI le) dn (nI he) (nI ga) (nI nf) = 0 := kFence_ok (by omega) (by omega) (by omega) (by omega) (by omega) (by omega) hd9
                    have hqz13 : qe ≠ qf := zneOA (zK.neOA X.2.1) hFa.2.1 G9_13
                    have hqz14 : qe ≠ qr := zneOA (zK.neOA X.2.1) hFa.2.1 G9_14
                    have hqz15 : qe ≠ pn_1 := zneK hFa.2.1 G9_15 rfl
                    have hqz16 : qe ≠ pn_8_0 := zneOA (zK.neOA X.2.1) hFa.2.1 G9_16
                    refine z_xi J (z_yV (As := [.int (nI co), .int (nI rr), .int (nI le), .int dn, .int (nI he), .int (nI ga)]) (rest := []) (ci := 7) (q0 := 0) X hRz J (cX6_fence_n_ok l hflags E G9_0 G9_1 hFa.2.1 hdn hnf) (cwV 6 hts (goodIn_ext2 gL_act_X6_fence) rfl rfl rfl (by decide +kernel) ⟨Nat.le_of_ble_eq_true rfl, Nat.le_of_ble_eq_true rfl⟩) G9_0 rfl rfl rfl hl.1 rfl (Nat.le_of_ble_eq_true rfl) dL_act_256 ⟨by show _ ≤ 20; omega, by show _ ≤ 120; omega⟩) (fun nm ce q9 H locs hp9 J h1 h2 h3 => ?_) (fun r256 ws_10 H locs hp9 J => ?_)
                    · exact False.elim (by rcases hp9 with h9 | h9 | h9 <;> exact absurd (h9.1.symm.trans hk0) (by decide))
                    obtain ⟨k10, ⟨fo_10, sp_10, hlen10, G10_a0, G10_a1, N10_0, N10_1, e_r256⟩⟩ := hp9
                    have hSN := hSN.keep k10 (fun r9 hr9 => by simp only [List.mem_cons, rg_mem, List.not_mem_nil, or_false, not_or]; omega)
                    have lp10 := hk.1
                    have b_10_0 := zlt G9_0
                    have b_10_1 := zlt G9_1
                    have b_10_2 := zlt G9_2
                    have b_10_3 := zlt G9_3
                    have b_10_4 := zlt G9_4
                    have b_10_5 := zlt G9_5
                    have b_10_6 := zlt G9_6
                    have b_10_7 := zlt G9_7
                    have b_10_8 := zlt G9_8
                    have b_10_9 := zlt G9_9
                    have b_10_10 := zlt G9_10
                    have b_10_11 := zlt G9_11
                    have b_10_12 := zlt G9_12
                    have b_10_13 := zlt G9_13
                    have b_10_14 := zlt G9_14
                    have b_10_15 := zlt G9_15
                    have b_10_16 := zlt G9_16
                    have b_10_17 := zlt hFa.2.1
                    have hk := hk.step k10 (fun q9 a9 n9 f9 h8 h7 h9 => by have z9_0 := zneK h9 hFa.2.1 rfl; simp only [List.mem_cons, rg_mem, List.not_mem_nil, or_false, not_or]; omega)
                    have G10_0 := k10.2 0 _ (by simp only [List.mem_cons, List.not_mem_nil, or_false]; omega) G9_0
                    have G10_2 := k10.2 2 _ (by simp only [List.mem_cons, List.not_mem_nil, or_false]; omega) G9_2
                    have G10_3 := k10.2 3 _ (by simp only [List.mem_cons, List.not_mem_nil, or_false]; omega) G9_3
                    have G10_4 := k10.2 4 _ (by simp only [List.mem_cons, List.not_mem_nil, or_false]; omega) G9_4
                    have G10_5 := k10.2 5 _ (by simp only [List.mem_cons, List.not_mem_nil, or_false]; omega) G9_5
                    have G10_6 := k10.2 6 _ (by simp only [List.mem_cons, List.not_mem_nil, or_false]; omega) G9_6
                    have G10_7 := k10.2 7 _ (by simp only [List.mem_cons, List.not_mem_nil, or_false]; omega) G9_7
                    have G10_8 := k10.2 8 _ (by simp only [List.mem_cons, List.not_mem_nil, or_false]; omega) G9_8
                    have G10_9 := k10.2 9 _ (by simp only [List.mem_cons, List.not_mem_nil, or_false]; omega) G9_9
                    have G10_10 := k10.2 10 _ (by simp only [List.mem_cons, List.not_mem_nil, or_false]; omega) G9_10
                    have G10_11 := k10.2 11 _ (by simp only [List.mem_cons, List.not_mem_nil, or_false]; omega) G9_11
                    have G10_12 := k10.2 14 _ (by simp only [List.mem_cons, List.not_mem_nil, or_false]; omega) G9_12
                    have G10_13 := k10.2 qf _ (by simp only [List.mem_cons, List.not_mem_nil, or_false]; omega) G9_13
                    have G10_14 := k10.2 qr _ (by simp only [List.mem_cons, List.not_mem_nil, or_false]; omega) G9_14
                    have G10_15 := k10.2 pn_1 _ (by simp only [List.mem_cons, List.not_mem_nil, or_false]; omega) G9_15
                    have G10_16 := k10.2 pn_8_0 _ (by simp only [List.mem_cons, List.not_mem_nil, or_false]; omega) G9_16
                    obtain ⟨pn_10_0, hpn_10_0⟩ : ∃ z : Nat, z = ws_9.length + 0 := ⟨_, rfl⟩
                    rw [← hpn_10_0] at N10_0
                    obtain ⟨pn_10_1, hpn_10_1⟩ : ∃ z : Nat, z = ws_9.length + 1 := ⟨_, rfl⟩
                    rw [← hpn_10_1] at N10_1
                    refine W.eq (g2 := F0 m 259 ls [.int (nI nf)]) (congrArg (fun z9 : Int32 => F0 m 259 ls [.int z9]) (show (r256 : Int32) = nI nf from e_r256.2)) ?_
                    refine lv_iload_n hx hb dL_act_259 rfl (lv_at hl 3 rfl) ?_
                    refine lv_icmp_ne (tgt := 267) hx hb dL_act_260 (by decide) (fun cz260 => by exact (cz260 rfl).elim) (fun cz260 => ?_)
                    refine lv_iconst (v := 1) hx hb dL_act_263 (by decide) ?_
                    refine lv_goto (tgt := 268) hx hb dL_act_264 (by decide) ?_
                    refine W.widen (k := 20) (n := 120) (by omega) (by omega) ?_
                    subst hQ
                    exact W.zret (v := 1) hx hb hr rfl (fun t ht hW => ⟨⟨1, ws_10, rfl, ⟨hk, ⟨(mc1 + 1), mc2, lim, sup, off, plo, hrs, ea, eb, (nf + 1), nr, nq_8, pn_8_0, ro, qr, (fput fa nf (nI co) (nI rr) (nI le) dn (nI he) (nI ga)), rd, ri, sn, t9, hf, gf, (wO g nf q111), gq, G10_0, G10_a0, G10_2, G10_3, G10_4, G10_5, G10_6, G10_7, G10_8, G10_9, G10_10, G10_11, G10_12, G10_16, G10_14, ⟨by omega, by omega⟩, (FS.add (pf := pn_10_0) (ps := pn_10_1) hFa hle2 k10 (by intro q9 hq9; simp only [List.mem_cons, List.not_mem_nil, or_false] at hq9; omega) G10_a1 (by omega) N10_0 (by omega) N10_1), (hR9.keepE k10 hFa.2.1 rfl rfl (hSep.ne hJ9 hE1 hFa.2.1) (by intro q9 hq9; simp only [List.mem_cons, List.not_mem_nil, or_false] at hq9; omega)), hSep, ((hSE.keepI hk).add (fb := fput fa nf (nI co) (nI rr) (nI le) dn (nI he) (nI ga)) G10_15 (by omega) (fun t9 ht9 => f6_put t9 ht9) (fun j9 hj9 => fput_lo hj9)), (hSR.keepI hk), hSN, (by omega), hnr, (okF_add hok hdn hk0).2, hor, hRB, hu9, hlm, (Nat.le_trans hln hk.1)⟩, rfl⟩, J.I X ht hW.alike⟩, J.F ht⟩) J.locs dL_act_268
                refine lv_iconst (v := nI 1) hx hb dL_act_182 rfl ?_
                refine lv_iload_n hx hb dL_act_183 rfl (lv_at hl 5 rfl) ?_
                refine lv_bipush (v := 6) hx hb dL_act_184 (by decide) ?_
                refine lv_ishr hx hb dL_act_186 ?_
                refine lv_iload_n hx hb dL_act_187 rfl (lv_at hl 5 rfl) ?_
                refine lv_bipush (v := 9) hx hb dL_act_188 (by decide) ?_
                refine lv_ishr hx hb dL_act_190 ?_
                refine lv_iconst (v := nI 3) hx hb dL_act_191 rfl ?_
                refine z_cr (z_rS (As := [.int (xv >>> (9 &&& 31)), .int (nI 3)]) (rest := [.int (xv >>> (6 &&& 31)), .int (nI 1), .int (nI 4), .ref q111, .ref q111]) X J (cL_below_ok l E (by first | assumption | omega | decide) (by first | assumption | omega | decide)) (va_cwS 2 hts (goodIn_ext2 gL_act_L_below) rfl rfl rfl (by decide +kernel) ⟨Nat.le_of_ble_eq_true rfl, Nat.le_of_ble_eq_true rfl⟩) rfl hl.1 rfl (Nat.le_of_ble_eq_true rfl) dL_act_192 ⟨Nat.le_of_ble_eq_true rfl, Nat.le_of_ble_eq_true rfl⟩) (fun r192 e_r192 => ?_)
                subst e_r192
                refine lv_if_ne (tgt := 203) hx hb dL_act_195 (by decide) (fun cz195 => ?_) (fun cz195 => ?_)
                · refine lv_iconst (v := nI 4) hx hb dL_act_203 rfl ?_
                  refine z_cr (z_rS (As := [.int (xv >>> (6 &&& 31)), .int (nI 4)]) (rest := [.int (nI 1), .int (nI 4), .ref q111, .ref q111]) X J (cL_below_ok l E (by first | assumption | omega | decide) (by first | assumption | omega | decide)) (va_cwS 2 hts (goodIn_ext2 gL_act_L_below) rfl rfl rfl (by decide +kernel) ⟨Nat.le_of_ble_eq_true rfl, Nat.le_of_ble_eq_true rfl⟩) rfl hl.1 rfl (Nat.le_of_ble_eq_true rfl) dL_act_204 ⟨Nat.le_of_ble_eq_true rfl, Nat.le_of_ble_eq_true rfl⟩) (fun r204 e_r204 => ?_)
                  subst e_r204
                  obtain ⟨h5, hh5⟩ : ∃ q9 : Nat, q9 = 1 + bln (xv >>> (6 &&& 31)) 4 := ⟨_, rfl⟩
                  have bh5 := bln_lt (v := xv >>> (6 &&& 31)) (n := 4) (by decide)
                  refine lv_iadd hx hb dL_act_207 ?_
                  refine W.eq (g2 := F0 m 208 ls [.int (nI h5), .int (nI 4), .ref q111, .ref q111]) (congrArg (fun z9 : Int32 => F0 m 208 ls [.int z9, .int (nI 4), .ref q111, .ref q111]) (show ((nI 1) + (nI (bln (xv >>> (6 &&& 31)) 4)) : Int32) = nI h5 from (by rw [nI_add, hh5]))) ?_
                  exact join_208 _ h5 (⟨by omega, by omega⟩) (lv_sub hl [0, 1, 2, 3, 4, 5] rfl)
                · refine lv_bipush (v := nI 9) hx hb dL_act_198 (by decide) ?_
                  refine lv_goto (tgt := 204) hx hb dL_act_200 (by decide) ?_
                  refine z_cr (z_rS (As := [.int (xv >>> (6 &&& 31)), .int (nI 9)]) (rest := [.int (nI 1), .int (nI 4), .ref q111, .ref q111]) X J (cL_below_ok l E (by first | assumption | omega | decide) (by first | assumption | omega | decide)) (va_cwS 2 hts (goodIn_ext2 gL_act_L_below) rfl rfl rfl (by decide +kernel) ⟨Nat.le_of_ble_eq_true rfl, Nat.le_of_ble_eq_true rfl⟩) rfl hl.1 rfl (Nat.le_of_ble_eq_true rfl) dL_act_204 ⟨Nat.le_of_ble_eq_true rfl, Nat.le_of_ble_eq_true rfl⟩) (fun r204 e_r204 => ?_)
                  subst e_r204
                  obtain ⟨h5, hh5⟩ : ∃ q9 : Nat, q9 = 1 + bln (xv >>> (6 &&& 31)) 9 := ⟨_, rfl⟩
                  have bh5 := bln_lt (v := xv >>> (6 &&& 31)) (n := 9) (by decide)
                  refine lv_iadd hx hb dL_act_207 ?_
                  refine W.eq (g2 := F0 m 208 ls [.int (nI h5), .int (nI 4), .ref q111, .ref q111]) (congrArg (fun z9 : Int32 => F0 m 208 ls [.int z9, .int (nI 4), .ref q111, .ref q111]) (show ((nI 1) + (nI (bln (xv >>> (6 &&& 31)) 9)) : Int32) = nI h5 from (by rw [nI_add, hh5]))) ?_
                  exact join_208 _ h5 (⟨by omega, by omega⟩) (lv_sub hl [0, 1, 2, 3, 4, 5] rfl)
              refine lv_iload hx hb dL_act_169 (lv_at hl 1 rfl) ?_
              refine lv_if_eq (tgt := 178) hx hb dL_act_171 (by decide) (fun cz171 => ?_) (fun cz171 => ?_)
              · refine lv_iconst (v := 0) hx hb dL_act_178 (by decide) ?_
                refine W.eq (g2 := F0 m 179 ls [.int dn, .int (nI 3), .ref q111, .ref q111]) (congrArg (fun z9 : Int32 => F0 m 179 ls [.int z9, .int (nI 3), .ref q111, .ref q111]) (show (0 : Int32) = dn from (is01_0 hdn cz171))) ?_
                exact join_179 _ (lv_sub hl [0, 1, 2, 3, 4, 5] rfl)
              · refine lv_iconst (v := 1) hx hb dL_act_174 (by decide) ?_
                refine W.eq (g2 := F0 m 175 ls [.int dn, .int (nI 3), .ref q111, .ref q111]) (congrArg (fun z9 : Int32 => F0 m 175 ls [.int z9, .int (nI 3), .ref q111, .ref q111]) (show (1 : Int32) = dn from (is01_1 hdn cz171))) ?_
                refine lv_goto (tgt := 179) hx hb dL_act_175 (by decide) ?_
                exact join_179 _ (lv_sub hl [0, 1, 2, 3, 4, 5] rfl)
            refine lv_iload hx hb dL_act_143 (lv_at hl 1 rfl) ?_
            refine lv_if_eq (tgt := 156) hx hb dL_act_145 (by decide) (fun cz145 => ?_) (fun cz145 => ?_)
            · refine lv_bipush (v := nI 20) hx hb dL_act_156 (by decide) ?_
              exact join_158 _ 20 (Or.inl ⟨cz145, rfl⟩) (lv_sub hl [0, 1, 2, 3, 4, 5] rfl)
            · refine lv_bipush (v := nI 21) hx hb dL_act_148 (by decide) ?_
              refine lv_iload hx hb dL_act_150 (lv_at hl 0 rfl) ?_
              refine lv_isub hx hb dL_act_152 ?_
              refine W.eq (g2 := F0 m 153 ls [.int (nI (21 - le)), .int (xv >>> (7 &&& 31)), .int (nI 1), .ref q111, .ref q111]) (congrArg (fun z9 : Int32 => F0 m 153 ls [.int z9, .int (xv >>> (7 &&& 31)), .int (nI 1), .ref q111, .ref q111]) (show ((nI 21) - (nI le) : Int32) = nI (21 - le) from (pk_sub (by omega)))) ?_
              refine lv_goto (tgt := 158) hx hb dL_act_153 (by decide) ?_
              exact join_158 _ (21 - le) (Or.inr ⟨(is01_1 hdn cz145).symm, by omega⟩) (lv_sub hl [0, 1, 2, 3, 4, 5] rfl)
          refine lv_iload hx hb dL_act_118 (lv_at hl 1 rfl) ?_
          refine lv_if_eq (tgt := 128) hx hb dL_act_120 (by decide) (fun cz120 => ?_) (fun cz120 => ?_)
          · refine lv_bipush (v := nI 21) hx hb dL_act_128 (by decide) ?_
            refine lv_iload hx hb dL_act_130 (lv_at hl 0 rfl) ?_
            refine lv_isub hx hb dL_act_132 ?_
            refine W.eq (g2 := F0 m 133 ls [.int (nI (21 - le)), .int (xv >>> (5 &&& 31)), .int (nI 0), .ref q111, .ref q111]) (congrArg (fun z9 : Int32 => F0 m 133 ls [.int z9, .int (xv >>> (5 &&& 31)), .int (nI 0), .ref q111, .ref q111]) (show ((nI 21) - (nI le) : Int32) = nI (21 - le) from (pk_sub (by omega)))) ?_
            exact join_133 _ (21 - le) (Or.inl ⟨cz120, by omega⟩) (lv_sub hl [0, 1, 2, 3, 4, 5] rfl)
          · refine lv_bipush (v := nI 20) hx hb dL_act_123 (by decide) ?_
            refine lv_goto (tgt := 133) hx hb dL_act_125 (by decide) ?_
            exact join_133 _ 20 (Or.inr ⟨(is01_1 hdn cz120).symm, rfl⟩) (lv_sub hl [0, 1, 2, 3, 4, 5] rfl)
        refine lv_iload_n hx hb dL_act_80 rfl (lv_at hl 3 rfl) ?_
        refine lv_iconst (v := 3) hx hb dL_act_81 (by decide) ?_
        refine lv_ishr hx hb dL_act_82 ?_
        refine lv_iconst (v := nI 2) hx hb dL_act_83 rfl ?_
        refine z_cr (z_rS (As := [.int (xv >>> (3 &&& 31)), .int (nI 2)]) (rest := []) X J (cL_below_ok l E (by first | assumption | omega | decide) (by first | assumption | omega | decide)) (va_cwS 2 hts (goodIn_ext2 gL_act_L_below) rfl rfl rfl (by decide +kernel) ⟨Nat.le_of_ble_eq_true rfl, Nat.le_of_ble_eq_true rfl⟩) rfl hl.1 rfl (Nat.le_of_ble_eq_true rfl) dL_act_84 ⟨Nat.le_of_ble_eq_true rfl, Nat.le_of_ble_eq_true rfl⟩) (fun r84 e_r84 => ?_)
        subst e_r84
        refine lv_if_ne (tgt := 94) hx hb dL_act_87 (by decide) (fun cz87 => ?_) (fun cz87 => ?_)
        · refine lv_iconst (v := 0) hx hb dL_act_94 (by decide) ?_
          exact join_95 _ 0 (Or.inl rfl) (lv_sub hl [0, 1, 2, 3] rfl)
        · refine lv_iconst (v := 1) hx hb dL_act_90 (by decide) ?_
          refine lv_goto (tgt := 95) hx hb dL_act_91 (by decide) ?_
          exact join_95 _ 1 (Or.inr rfl) (lv_sub hl [0, 1, 2, 3] rfl)
      · refine lv_iconst (v := 1) hx hb dL_act_78 (by decide) ?_
        refine W.widen (k := 20) (n := 120) (by omega) (by omega) ?_
        subst hQ
        exact W.zret (v := 1) hx hb hr rfl (fun t ht hW => ⟨⟨1, ws, rfl, ⟨hk, ⟨mc1, mc2, lim, sup, off, plo, hrs, ea, eb, nf, nr, fe, qf, ro, qr, fa, rd, ri, sn, t9, hf, gf, g, gq, Fa0, Fa1, Fa2, Fa3, Fa4, Fa5, Fa6, Fa7, Fa8, Fa9, Fa10, Fa11, Fa12, Fa13, Fa14, ⟨by omega, by omega⟩, hF, hR, hSep, (hSE.keepI hk), (hSR.keepI hk), hSN, hnf, hnr, hok, hor, hRB, hu9, hlm, (Nat.le_trans hln hk.1)⟩, rfl⟩, J.I X ht hW.alike⟩, J.F ht⟩) J.locs dL_act_79
    refine lv_tableIn (off := 60) (tgt := 72) hx hb dL_act_12 (by decide) (by decide) (by decide) (by decide) ?_
    exact join_72 _ (lv_sub hl [0, 1, 2, 3] rfl)
  · refine W.eq (g2 := F0 m 12 ls [.int 1]) (congrArg (fun z9 : Int32 => F0 m 12 ls [.int z9]) (show (nI 1 : Int32) = 1 from rfl)) ?_
    have join_72 : ∀ (ls : Array Slot), lv_has ls 12 [(3, .int (nI nf)), (0, .ref x), (1, .ref z), (2, .int xv)] → W p l e (headSpec wsL_act2 ({ frames := 8, cells := 20, slots := 120, locals := 129 } : Room)).room s m args below meth c s.heap [] 0 0 QQ (F0 m 72 ls []) := by
      intro ls hl
      refine lv_iload_n hx hb dL_act_72 rfl (lv_at hl 0 rfl) ?_
      refine lv_bipush (v := 10) hx hb dL_act_73 (by decide) ?_
      refine lv_icmp_ne (tgt := 80) hx hb dL_act_75 (by decide) (fun cz75 => ?_) (fun cz75 => ?_)
      · have hn10 : nf < 10 := Nat.lt_of_le_of_ne hnf (fun q9 => cz75 (by rw [q9]; rfl))
        have join_95 : ∀ (ls : Array Slot) (dn : Int32) (hdn : is01 dn), lv_has ls 12 [(3, .int (nI nf)), (0, .ref x), (1, .ref z), (2, .int xv)] → W p l e (headSpec wsL_act2 ({ frames := 8, cells := 20, slots := 120, locals := 129 } : Room)).room s m args below meth c s.heap [] 0 0 QQ (F0 m 95 ls [.int dn]) := by
          intro ls dn hdn hl
          refine lv_istore (lv' := [(4, .int dn), (3, .int (nI nf)), (0, .ref x), (1, .ref z), (2, .int xv)]) hx hb dL_act_95 hl (by decide) rfl (fun ls hl => ?_)
          refine lv_iconst (v := nI 1) hx hb dL_act_97 rfl ?_
          refine lv_iload_n hx hb dL_act_98 rfl (lv_at hl 4 rfl) ?_
          refine lv_iconst (v := 4) hx hb dL_act_99 (by decide) ?_
          refine lv_ishr hx hb dL_act_100 ?_
          refine lv_bipush (v := nI 20) hx hb dL_act_101 (by decide) ?_
          refine z_cr (z_rS (As := [.int (xv >>> (4 &&& 31)), .int (nI 20)]) (rest := [.int (nI 1)]) X J (cL_below_ok l E (by first | assumption | omega | decide) (by first | assumption | omega | decide)) (va_cwS 2 hts (goodIn_ext2 gL_act_L_below) rfl rfl rfl (by decide +kernel) ⟨Nat.le_of_ble_eq_true rfl, Nat.le_of_ble_eq_true rfl⟩) rfl hl.1 rfl (Nat.le_of_ble_eq_true rfl) dL_act_103 ⟨Nat.le_of_ble_eq_true rfl, Nat.le_of_ble_eq_true rfl⟩) (fun r103 e_r103 => ?_)
          subst e_r103
          obtain ⟨le, hle⟩ : ∃ q9 : Nat, q9 = 1 + bln (xv >>> (4 &&& 31)) 20 := ⟨_, rfl⟩
          have ble := bln_lt (v := xv >>> (4 &&& 31)) (n := 20) (by decide)
          refine lv_iadd hx hb dL_act_106 ?_
          refine W.eq (g2 := F0 m 107 ls [.int (nI le)]) (congrArg (fun z9 : Int32 => F0 m 107 ls [.int z9]) (show ((nI 1) + (nI (bln (xv >>> (4 &&& 31)) 20)) : Int32) = nI le from (by rw [nI_add, hle]))) ?_
          have hle1 : 1 ≤ le := by omega
          have hle2 : le ≤ 20 := by omega
          refine lv_istore (lv' := [(5, .int (nI le)), (4, .int dn), (3, .int (nI nf)), (0, .ref x), (1, .ref z), (2, .int xv)]) hx hb dL_act_107 hl (by decide) rfl (fun ls hl => ?_)
          refine lv_bipush (v := 6) hx hb dL_act_109 (by decide) ?_
          refine z_newa (N' := 6) X J (by decide +kernel) (by decide) (by decide) (Nat.le_of_ble_eq_true rfl) (Nat.le_of_ble_eq_true rfl) (Nat.le_of_ble_eq_true rfl) dL_act_111 (fun q111 H J => ?_)
          have hF := hF.keepS (zK.app (S := []) (ws := ws) (more := [(q111, zI4 E 6 (fun _ => 0))])) (fun q9 hq9 => absurd hq9 List.not_mem_nil)
          have hR := hR.keepS (zK.app (S := []) (ws := ws) (more := [(q111, zI4 E 6 (fun _ => 0))])) (fun q9 hq9 => absurd hq9 List.not_mem_nil)
          have hSN := hSN.keep (zK.app (S := []) (ws := ws) (more := [(q111, zI4 E 6 (fun _ => 0))])) (fun _ _ => List.not_mem_nil)
          have lp1 := hk.1
          have hk := hk.step (zK.app (S := []) (ws := ws) (more := [(q111, zI4 E 6 (fun _ => 0))])) (fun _ _ _ _ _ _ _ => List.not_mem_nil)
          have bG1_0 := zlt Fa0
          have G1_0 := zapp (x := (q111, zI4 E 6 (fun _ => 0))) Fa0
          have bG1_1 := zlt Fa1
          have G1_1 := zapp (x := (q111, zI4 E 6 (fun _ => 0))) Fa1
          have bG1_2 := zlt Fa2
          have G1_2 := zapp (x := (q111, zI4 E 6 (fun _ => 0))) Fa2
          have bG1_3 := zlt Fa3
          have G1_3 := zapp (x := (q111, zI4 E 6 (fun _ => 0))) Fa3
          have bG1_4 := zlt Fa4
          have G1_4 := zapp (x := (q111, zI4 E 6 (fun _ => 0))) Fa4
          have bG1_5 := zlt Fa5
          have G1_5 := zapp (x := (q111, zI4 E 6 (fun _ => 0))) Fa5
          have bG1_6 := zlt Fa6
          have G1_6 := zapp (x := (q111, zI4 E 6 (fun _ => 0))) Fa6
          have bG1_7 := zlt Fa7
          have G1_7 := zapp (x := (q111, zI4 E 6 (fun _ => 0))) Fa7
          have bG1_8 := zlt Fa8
          have G1_8 := zapp (x := (q111, zI4 E 6 (fun _ => 0))) Fa8
          have bG1_9 := zlt Fa9
          have G1_9 := zapp (x := (q111, zI4 E 6 (fun _ => 0))) Fa9
          have bG1_10 := zlt Fa10
          have G1_10 := zapp (x := (q111, zI4 E 6 (fun _ => 0))) Fa10
          have bG1_11 := zlt Fa11
          have G1_11 := zapp (x := (q111, zI4 E 6 (fun _ => 0))) Fa11
          have bG1_12 := zlt Fa12
          have G1_12 := zapp (x := (q111, zI4 E 6 (fun _ => 0))) Fa12
          have bG1_13 := zlt Fa13
          have G1_13 := zapp (x := (q111, zI4 E 6 (fun _ => 0))) Fa13
          have bG1_14 := zlt Fa14
          have G1_14 := zapp (x := (q111, zI4 E 6 (fun _ => 0))) Fa14
          have G1_n := zapp_new (ws := ws) (x := (q111, zI4 E 6 (fun _ => 0)))
          generalize hws1 : ws ++ [(q111, zI4 E 6 (fun _ => 0))] = ws_1 at J hk G1_0 G1_1 G1_2 G1_3 G1_4 G1_5 G1_6 G1_7 G1_8 G1_9 G1_10 G1_11 G1_12 G1_13 G1_14 hF hR hSN G1_n
          generalize hpn1 : ws.length = pn_1 at G1_n lp1 bG1_0 bG1_1 bG1_2 bG1_3 bG1_4 bG1_5 bG1_6 bG1_7 bG1_8 bG1_9 bG1_10 bG1_11 bG1_12 bG1_13 bG1_14
          refine lv_dup hx hb dL_act_113 rfl ?_
          refine lv_iconst (v := nI 0) hx hb dL_act_114 rfl ?_
          refine lv_iload_n hx hb dL_act_115 rfl (lv_at hl 5 rfl) ?_
          refine lv_iconst (v := 5) hx hb dL_act_116 (by decide) ?_
          refine lv_ishr hx hb dL_act_117 ?_
          have join_133 : ∀ (ls : Array Slot) (nc : Nat) (hnc : (dn = 0 ∧ nc + le = 21) ∨ (dn = 1 ∧ nc = 20)), lv_has ls 12 [(5, .int (nI le)), (4, .int dn), (3, .int (nI nf)), (0, .ref x), (1, .ref z), (2, .int xv)] → W p l e (headSpec wsL_act2 ({ frames := 8, cells := 20, slots := 120, locals := 129 } : Room)).room s m args below meth c H [] 1 6 QQ (F0 m 133 ls [.int (nI nc), .int (xv >>> (5 &&& 31)), .int (nI 0), .ref q111, .ref q111]) := by
            intro ls nc hnc hl
            obtain ⟨co, hco⟩ : ∃ q9 : Nat, q9 = bln (xv >>> (5 &&& 31)) (nc) := ⟨_, rfl⟩
            have bco := bln_lt (v := xv >>> (5 &&& 31)) (n := nc) (by omega)
            refine z_cr (z_rS (As := [.int (xv >>> (5 &&& 31)), .int (nI nc)]) (rest := [.int (nI 0), .ref q111, .ref q111]) X J (cL_below_ok l E (by first | assumption | omega | decide) (by first | assumption | omega | decide)) (va_cwS 2 hts (goodIn_ext2 gL_act_L_below) rfl rfl rfl (by decide +kernel) ⟨Nat.le_of_ble_eq_true rfl, Nat.le_of_ble_eq_true rfl⟩) rfl hl.1 rfl (Nat.le_of_ble_eq_true rfl) dL_act_133 ⟨Nat.le_of_ble_eq_true rfl, Nat.le_of_ble_eq_true rfl⟩) (fun r133 e_r133 => ?_)
            subst e_r133
            refine W.eq (g2 := F0 m 136 ls [.int (nI co), .int (nI 0), .ref q111, .ref q111]) (congrArg (fun z9 : Int32 => F0 m 136 ls [.int z9, .int (nI 0), .ref q111, .ref q111]) (show (nI (bln (xv >>> (5 &&& 31)) nc) : Int32) = nI co from (by rw [hco]))) ?_
            refine z_iast X J pn_1 G1_n (vp_in_nI (by omega) (by first | decide | omega)) dL_act_136 (fun H locs J => ?_)
            rw [show upd (fun _ => 0) (nI 0).toNatClampNeg (nI co) = upd (fun _ => 0) 0 (nI co) from (by rw [nI_clamp (by omega)])] at J
            have hF := hF.keepS (zK.set (S := [pn_1]) (ws := ws_1) (q := pn_1) (e := (q111, zI4 E 6 (upd (fun _ => 0) 0 (nI co)))) (List.mem_singleton.mpr rfl)) (fun q9 hq9 => Or.inr ⟨_, _, (List.mem_singleton.mp hq9).symm ▸ G1_n, noL_I⟩)
            have hR := hR.keepS (zK.set (S := [pn_1]) (ws := ws_1) (q := pn_1) (e := (q111, zI4 E 6 (upd (fun _ => 0) 0 (nI co)))) (List.mem_singleton.mpr rfl)) (fun q9 hq9 => Or.inr ⟨_, _, (List.mem_singleton.mp hq9).symm ▸ G1_n, noL_I⟩)
            have hSN := hSN.keep (zK.set (S := [pn_1]) (ws := ws_1) (q := pn_1) (e := (q111, zI4 E 6 (upd (fun _ => 0) 0 (nI co)))) (List.mem_singleton.mpr rfl)) (fun r9 hr9 => by simp only [List.mem_cons, rg_mem, List.not_mem_nil, or_false, not_or]; omega)
            have hk := hk.step (zK.set (S := [pn_1]) (ws := ws_1) (q := pn_1) (e := (q111, zI4 E 6 (upd (fun _ => 0) 0 (nI co)))) (List.mem_singleton.mpr rfl)) (fun q9 a9 n9 f9 h8 h7 h9 => by simp only [List.mem_cons, rg_mem, List.not_mem_nil, or_false, not_or]; omega)
            have G2_0 := zset_ne (q := pn_1) (e' := (q111, zI4 E 6 (upd (fun _ => 0) 0 (nI co)))) (by omega) G1_0
            have G2_1 := zset_ne (q := pn_1) (e' := (q111, zI4 E 6 (upd (fun _ => 0) 0 (nI co)))) (by omega) G1_1
            have G2_2 := zset_ne (q := pn_1) (e' := (q111, zI4 E 6 (upd (fun _ => 0) 0 (nI co)))) (by omega) G1_2
            have G2_3 := zset_ne (q := pn_1) (e' := (q111, zI4 E 6 (upd (fun _ => 0) 0 (nI co)))) (by omega) G1_3
            have G2_4 := zset_ne (q := pn_1) (e' := (q111, zI4 E 6 (upd (fun _ => 0) 0 (nI co)))) (by omega) G1_4
            have G2_5 := zset_ne (q := pn_1) (e' := (q111, zI4 E 6 (upd (fun _ => 0) 0 (nI co)))) (by omega) G1_5
            have G2_6 := zset_ne (q := pn_1) (e' := (q111, zI4 E 6 (upd (fun _ => 0) 0 (nI co)))) (by omega) G1_6
            have G2_7 := zset_ne (q := pn_1) (e' := (q111, zI4 E 6 (upd (fun _ => 0) 0 (nI co)))) (by omega) G1_7
            have G2_8 := zset_ne (q := pn_1) (e' := (q111, zI4 E 6 (upd (fun _ => 0) 0 (nI co)))) (by omega) G1_8
            have G2_9 := zset_ne (q := pn_1) (e' := (q111, zI4 E 6 (upd (fun _ => 0) 0 (nI co)))) (by omega) G1_9
            have G2_10 := zset_ne (q := pn_1) (e' := (q111, zI4 E 6 (upd (fun _ => 0) 0 (nI co)))) (by omega) G1_10
            have G2_11 := zset_ne (q := pn_1) (e' := (q111, zI4 E 6 (upd (fun _ => 0) 0 (nI co)))) (by omega) G1_11
            have G2_12 := zset_ne (q := pn_1) (e' := (q111, zI4 E 6 (upd (fun _ => 0) 0 (nI co)))) (by omega) G1_12
            have G2_13 := zset_ne (q := pn_1) (e' := (q111, zI4 E 6 (upd (fun _ => 0) 0 (nI co)))) (by omega) G1_13
            have G2_14 := zset_ne (q := pn_1) (e' := (q111, zI4 E 6 (upd (fun _ => 0) 0 (nI co)))) (by omega) G1_14
            have G2_15 := zset_eq (e' := (q111, zI4 E 6 (upd (fun _ => 0) 0 (nI co)))) G1_n
            generalize hws2 : (ws_1.set pn_1 (q111, zI4 E 6 (upd (fun _ => 0) 0 (nI co)))) = ws_2 at J hk G2_0 G2_1 G2_2 G2_3 G2_4 G2_5 G2_6 G2_7 G2_8 G2_9 G2_10 G2_11 G2_12 G2_13 G2_14 G2_15 hF hR hSN
            refine lv_dup hx hb dL_act_137 rfl ?_
            refine lv_iconst (v := nI 1) hx hb dL_act_138 rfl ?_
            refine lv_iload_n hx hb dL_act_139 rfl (lv_at hl 5 rfl) ?_
            refine lv_bipush (v := 7) hx hb dL_act_140 (by decide) ?_
            refine lv_ishr hx hb dL_act_142 ?_
            have join_158 : ∀ (ls : Array Slot) (nr9 : Nat) (hnr9 : (dn = 0 ∧ nr9 = 20) ∨ (dn = 1 ∧ nr9 + le = 21)), lv_has ls 12 [(5, .int (nI le)), (4, .int dn), (3, .int (nI nf)), (0, .ref x), (1, .ref z), (2, .int xv)] → W p l e (headSpec wsL_act2 ({ frames := 8, cells := 20, slots := 120, locals := 129 } : Room)).room s m args below meth c H locs 1 6 QQ (F0 m 158 ls [.int (nI nr9), .int (xv >>> (7 &&& 31)), .int (nI 1), .ref q111, .ref q111]) := by
              intro ls nr9 hnr9 hl
              obtain ⟨rr, hrr⟩ : ∃ q9 : Nat, q9 = bln (xv >>> (7 &&& 31)) (nr9) := ⟨_, rfl⟩
              have brr := bln_lt (v := xv >>> (7 &&& 31)) (n := nr9) (by omega)
              refine z_cr (z_rS (As := [.int (xv >>> (7 &&& 31)), .int (nI nr9)]) (rest := [.int (nI 1), .ref q111, .ref q111]) X J (cL_below_ok l E (by first | assumption | omega | decide) (by first | assumption | omega | decide)) (va_cwS 2 hts (goodIn_ext2 gL_act_L_below) rfl rfl rfl (by decide +kernel) ⟨Nat.le_of_ble_eq_true rfl, Nat.le_of_ble_eq_true rfl⟩) rfl hl.1 rfl (Nat.le_of_ble_eq_true rfl) dL_act_158 ⟨Nat.le_of_ble_eq_true rfl, Nat.le_of_ble_eq_true rfl⟩) (fun r158 e_r158 => ?_)
              subst e_r158
              refine W.eq (g2 := F0 m 161 ls [.int (nI rr), .int (nI 1), .ref q111, .ref q111]) (congrArg (fun z9 : Int32 => F0 m 161 ls [.int z9, .int (nI 1), .ref q111, .ref q111]) (show (nI (bln (xv >>> (7 &&& 31)) nr9) : Int32) = nI rr from (by rw [hrr]))) ?_
              refine z_iast X J pn_1 G2_15 (vp_in_nI (by omega) (by first | decide | omega)) dL_act_161 (fun H locs J => ?_)
              rw [show upd (upd (fun _ => 0) 0 (nI co)) (nI 1).toNatClampNeg (nI rr) = upd (upd (fun _ => 0) 0 (nI co)) 1 (nI rr) from (by rw [nI_clamp (by omega)])] at J
              have hF := hF.keepS (zK.set (S := [pn_1]) (ws := ws_2) (q := pn_1) (e := (q111, zI4 E 6 (upd (upd (fun _ => 0) 0 (nI co)) 1 (nI rr)))) (List.mem_singleton.mpr rfl)) (fun q9 hq9 => Or.inr ⟨_, _, (List.mem_singleton.mp hq9).symm ▸ G2_15, noL_I⟩)
              have hR := hR.keepS (zK.set (S := [pn_1]) (ws := ws_2) (q := pn_1) (e := (q111, zI4 E 6 (upd (upd (fun _ => 0) 0 (nI co)) 1 (nI rr)))) (List.mem_singleton.mpr rfl)) (fun q9 hq9 => Or.inr ⟨_, _, (List.mem_singleton.mp hq9).symm ▸ G2_15, noL_I⟩)
              have hSN := hSN.keep (zK.set (S := [pn_1]) (ws := ws_2) (q := pn_1) (e := (q111, zI4 E 6 (upd (upd (fun _ => 0) 0 (nI co)) 1 (nI rr)))) (List.mem_singleton.mpr rfl)) (fun r9 hr9 => by simp only [List.mem_cons, rg_mem, List.not_mem_nil, or_false, not_or]; omega)
              have hk := hk.step (zK.set (S := [pn_1]) (ws := ws_2) (q := pn_1) (e := (q111, zI4 E 6 (upd (upd (fun _ => 0) 0 (nI co)) 1 (nI rr)))) (List.mem_singleton.mpr rfl)) (fun q9 a9 n9 f9 h8 h7 h9 => by simp only [List.mem_cons, rg_mem, List.not_mem_nil, or_false, not_or]; omega)
              have G3_0 := zset_ne (q := pn_1) (e' := (q111, zI4 E 6 (upd (upd (fun _ => 0) 0 (nI co)) 1 (nI rr)))) (by omega) G2_0
              have G3_1 := zset_ne (q := pn_1) (e' := (q111, zI4 E 6 (upd (upd (fun _ => 0) 0 (nI co)) 1 (nI rr)))) (by omega) G2_1
              have G3_2 := zset_ne (q := pn_1) (e' := (q111, zI4 E 6 (upd (upd (fun _ => 0) 0 (nI co)) 1 (nI rr)))) (by omega) G2_2
              have G3_3 := zset_ne (q := pn_1) (e' := (q111, zI4 E 6 (upd (upd (fun _ => 0) 0 (nI co)) 1 (nI rr)))) (by omega) G2_3
              have G3_4 := zset_ne (q := pn_1) (e' := (q111, zI4 E 6 (upd (upd (fun _ => 0) 0 (nI co)) 1 (nI rr)))) (by omega) G2_4
              have G3_5 := zset_ne (q := pn_1) (e' := (q111, zI4 E 6 (upd (upd (fun _ => 0) 0 (nI co)) 1 (nI rr)))) (by omega) G2_5
              have G3_6 := zset_ne (q := pn_1) (e' := (q111, zI4 E 6 (upd (upd (fun _ => 0) 0 (nI co)) 1 (nI rr)))) (by omega) G2_6
              have G3_7 := zset_ne (q := pn_1) (e' := (q111, zI4 E 6 (upd (upd (fun _ => 0) 0 (nI co)) 1 (nI rr)))) (by omega) G2_7
              have G3_8 := zset_ne (q := pn_1) (e' := (q111, zI4 E 6 (upd (upd (fun _ => 0) 0 (nI co)) 1 (nI rr)))) (by omega) G2_8
              have G3_9 := zset_ne (q := pn_1) (e' := (q111, zI4 E 6 (upd (upd (fun _ => 0) 0 (nI co)) 1 (nI rr)))) (by omega) G2_9
              have G3_10 := zset_ne (q := pn_1) (e' := (q111, zI4 E 6 (upd (upd (fun _ => 0) 0 (nI co)) 1 (nI rr)))) (by omega) G2_10
              have G3_11 := zset_ne (q := pn_1) (e' := (q111, zI4 E 6 (upd (upd (fun _ => 0) 0 (nI co)) 1 (nI rr)))) (by omega) G2_11
              have G3_12 := zset_ne (q := pn_1) (e' := (q111, zI4 E 6 (upd (upd (fun _ => 0) 0 (nI co)) 1 (nI rr)))) (by omega) G2_12
              have G3_13 := zset_ne (q := pn_1) (e' := (q111, zI4 E 6 (upd (upd (fun _ => 0) 0 (nI co)) 1 (nI rr)))) (by omega) G2_13
              have G3_14 := zset_ne (q := pn_1) (e' := (q111, zI4 E 6 (upd (upd (fun _ => 0) 0 (nI co)) 1 (nI rr)))) (by omega) G2_14
              have G3_15 := zset_eq (e' := (q111, zI4 E 6 (upd (upd (fun _ => 0) 0 (nI co)) 1 (nI rr)))) G2_15
              generalize hws3 : (ws_2.set pn_1 (q111, zI4 E 6 (upd (upd (fun _ => 0) 0 (nI co)) 1 (nI rr)))) = ws_3 at J hk G3_0 G3_1 G3_2 G3_3 G3_4 G3_5 G3_6 G3_7 G3_8 G3_9 G3_10 G3_11 G3_12 G3_13 G3_14 G3_15 hF hR hSN
              refine lv_dup hx hb dL_act_162 rfl ?_
              refine lv_iconst (v := nI 2) hx hb dL_act_163 rfl ?_
              refine lv_iload hx hb dL_act_164 (lv_at hl 0 rfl) ?_
              refine z_iast X J pn_1 G3_15 (vp_in_nI (by omega) (by first | decide | omega)) dL_act_166 (fun H locs J => ?_)
              rw [show upd (upd (upd (fun _ => 0) 0 (nI co)) 1 (nI rr)) (nI 2).toNatClampNeg (nI le) = upd (upd (upd (fun _ => 0) 0 (nI co)) 1 (nI rr)) 2 (nI le) from (by rw [nI_clamp (by omega)])] at J
              have hF := hF.keepS (zK.set (S := [pn_1]) (ws := ws_3) (q := pn_1) (e := (q111, zI4 E 6 (upd (upd (upd (fun _ => 0) 0 (nI co)) 1 (nI rr)) 2 (nI le)))) (List.mem_singleton.mpr rfl)) (fun q9 hq9 => Or.inr ⟨_, _, (List.mem_singleton.mp hq9).symm ▸ G3_15, noL_I⟩)
              have hR := hR.keepS (zK.set (S := [pn_1]) (ws := ws_3) (q := pn_1) (e := (q111, zI4 E 6 (upd (upd (upd (fun _ => 0) 0 (nI co)) 1 (nI rr)) 2 (nI le)))) (List.mem_singleton.mpr rfl)) (fun q9 hq9 => Or.inr ⟨_, _, (List.mem_singleton.mp hq9).symm ▸ G3_15, noL_I⟩)
              have hSN := hSN.keep (zK.set (S := [pn_1]) (ws := ws_3) (q := pn_1) (e := (q111, zI4 E 6 (upd (upd (upd (fun _ => 0) 0 (nI co)) 1 (nI rr)) 2 (nI le)))) (List.mem_singleton.mpr rfl)) (fun r9 hr9 => by simp only [List.mem_cons, rg_mem, List.not_mem_nil, or_false, not_or]; omega)
              have hk := hk.step (zK.set (S := [pn_1]) (ws := ws_3) (q := pn_1) (e := (q111, zI4 E 6 (upd (upd (upd (fun _ => 0) 0 (nI co)) 1 (nI rr)) 2 (nI le)))) (List.mem_singleton.mpr rfl)) (fun q9 a9 n9 f9 h8 h7 h9 => by simp only [List.mem_cons, rg_mem, List.not_mem_nil, or_false, not_or]; omega)
              have G4_0 := zset_ne (q := pn_1) (e' := (q111, zI4 E 6 (upd (upd (upd (fun _ => 0) 0 (nI co)) 1 (nI rr)) 2 (nI le)))) (by omega) G3_0
              have G4_1 := zset_ne (q := pn_1) (e' := (q111, zI4 E 6 (upd (upd (upd (fun _ => 0) 0 (nI co)) 1 (nI rr)) 2 (nI le)))) (by omega) G3_1
              have G4_2 := zset_ne (q := pn_1) (e' := (q111, zI4 E 6 (upd (upd (upd (fun _ => 0) 0 (nI co)) 1 (nI rr)) 2 (nI le)))) (by omega) G3_2
              have G4_3 := zset_ne (q := pn_1) (e' := (q111, zI4 E 6 (upd (upd (upd (fun _ => 0) 0 (nI co)) 1 (nI rr)) 2 (nI le)))) (by omega) G3_3
              have G4_4 := zset_ne (q := pn_1) (e' := (q111, zI4 E 6 (upd (upd (upd (fun _ => 0) 0 (nI co)) 1 (nI rr)) 2 (nI le)))) (by omega) G3_4
              have G4_5 := zset_ne (q := pn_1) (e' := (q111, zI4 E 6 (upd (upd (upd (fun _ => 0) 0 (nI co)) 1 (nI rr)) 2 (nI le)))) (by omega) G3_5
              have G4_6 := zset_ne (q := pn_1) (e' := (q111, zI4 E 6 (upd (upd (upd (fun _ => 0) 0 (nI co)) 1 (nI rr)) 2 (nI le)))) (by omega) G3_6
              have G4_7 := zset_ne (q := pn_1) (e' := (q111, zI4 E 6 (upd (upd (upd (fun _ => 0) 0 (nI co)) 1 (nI rr)) 2 (nI le)))) (by omega) G3_7
              have G4_8 := zset_ne (q := pn_1) (e' := (q111, zI4 E 6 (upd (upd (upd (fun _ => 0) 0 (nI co)) 1 (nI rr)) 2 (nI le)))) (by omega) G3_8
              have G4_9 := zset_ne (q := pn_1) (e' := (q111, zI4 E 6 (upd (upd (upd (fun _ => 0) 0 (nI co)) 1 (nI rr)) 2 (nI le)))) (by omega) G3_9
              have G4_10 := zset_ne (q := pn_1) (e' := (q111, zI4 E 6 (upd (upd (upd (fun _ => 0) 0 (nI co)) 1 (nI rr)) 2 (nI le)))) (by omega) G3_10
              have G4_11 := zset_ne (q := pn_1) (e' := (q111, zI4 E 6 (upd (upd (upd (fun _ => 0) 0 (nI co)) 1 (nI rr)) 2 (nI le)))) (by omega) G3_11
              have G4_12 := zset_ne (q := pn_1) (e' := (q111, zI4 E 6 (upd (upd (upd (fun _ => 0) 0 (nI co)) 1 (nI rr)) 2 (nI le)))) (by omega) G3_12
              have G4_13 := zset_ne (q := pn_1) (e' := (q111, zI4 E 6 (upd (upd (upd (fun _ => 0) 0 (nI co)) 1 (nI rr)) 2 (nI le)))) (by omega) G3_13
              have G4_14 := zset_ne (q := pn_1) (e' := (q111, zI4 E 6 (upd (upd (upd (fun _ => 0) 0 (nI co)) 1 (nI rr)) 2 (nI le)))) (by omega) G3_14
              have G4_15 := zset_eq (e' := (q111, zI4 E 6 (upd (upd (upd (fun _ => 0) 0 (nI co)) 1 (nI rr)) 2 (nI le)))) G3_15
              generalize hws4 : (ws_3.set pn_1 (q111, zI4 E 6 (upd (upd (upd (fun _ => 0) 0 (nI co)) 1 (nI rr)) 2 (nI le)))) = ws_4 at J hk G4_0 G4_1 G4_2 G4_3 G4_4 G4_5 G4_6 G4_7 G4_8 G4_9 G4_10 G4_11 G4_12 G4_13 G4_14 G4_15 hF hR hSN
              refine lv_dup hx hb dL_act_167 rfl ?_
              refine lv_iconst (v := nI 3) hx hb dL_act_168 rfl ?_
              have join_179 : ∀ (ls : Array Slot), lv_has ls 12 [(5, .int (nI le)), (4, .int dn), (3, .int (nI nf)), (0, .ref x), (1, .ref z), (2, .int xv)] → W p l e (headSpec wsL_act2 ({ frames := 8, cells := 20, slots := 120, locals := 129 } : Room)).room s m args below meth c H locs 1 6 QQ (F0 m 179 ls [.int dn, .int (nI 3), .ref q111, .ref q111]) := by
                intro ls hl
                refine z_iast X J pn_1 G4_15 (vp_in_nI (by omega) (by first | decide | omega)) dL_act_179 (fun H locs J => ?_)
                rw [show upd (upd (upd (upd (fun _ => 0) 0 (nI co)) 1 (nI rr)) 2 (nI le)) (nI 3).toNatClampNeg dn = upd (upd (upd (upd (fun _ => 0) 0 (nI co)) 1 (nI rr)) 2 (nI le)) 3 dn from (by rw [nI_clamp (by omega)])] at J
                have hF := hF.keepS (zK.set (S := [pn_1]) (ws := ws_4) (q := pn_1) (e := (q111, zI4 E 6 (upd (upd (upd (upd (fun _ => 0) 0 (nI co)) 1 (nI rr)) 2 (nI le)) 3 dn))) (List.mem_singleton.mpr rfl)) (fun q9 hq9 => Or.inr ⟨_, _, (List.mem_singleton.mp hq9).symm ▸ G4_15, noL_I⟩)
                have hR := hR.keepS (zK.set (S := [pn_1]) (ws := ws_4) (q := pn_1) (e := (q111, zI4 E 6 (upd (upd (upd (upd (fun _ => 0) 0 (nI co)) 1 (nI rr)) 2 (nI le)) 3 dn))) (List.mem_singleton.mpr rfl)) (fun q9 hq9 => Or.inr ⟨_, _, (List.mem_singleton.mp hq9).symm ▸ G4_15, noL_I⟩)
                have hSN := hSN.keep (zK.set (S := [pn_1]) (ws := ws_4) (q := pn_1) (e := (q111, zI4 E 6 (upd (upd (upd (upd (fun _ => 0) 0 (nI co)) 1 (nI rr)) 2 (nI le)) 3 dn))) (List.mem_singleton.mpr rfl)) (fun r9 hr9 => by simp only [List.mem_cons, rg_mem, List.not_mem_nil, or_false, not_or]; omega)
                have hk := hk.step (zK.set (S := [pn_1]) (ws := ws_4) (q := pn_1) (e := (q111, zI4 E 6 (upd (upd (upd (upd (fun _ => 0) 0 (nI co)) 1 (nI rr)) 2 (nI le)) 3 dn))) (List.mem_singleton.mpr rfl)) (fun q9 a9 n9 f9 h8 h7 h9 => by simp only [List.mem_cons, rg_mem, List.not_mem_nil, or_false, not_or]; omega)
                have G5_0 := zset_ne (q := pn_1) (e' := (q111, zI4 E 6 (upd (upd (upd (upd (fun _ => 0) 0 (nI co)) 1 (nI rr)) 2 (nI le)) 3 dn))) (by omega) G4_0
                have G5_1 := zset_ne (q := pn_1) (e' := (q111, zI4 E 6 (upd (upd (upd (upd (fun _ => 0) 0 (nI co)) 1 (nI rr)) 2 (nI le)) 3 dn))) (by omega) G4_1
                have G5_2 := zset_ne (q := pn_1) (e' := (q111, zI4 E 6 (upd (upd (upd (upd (fun _ => 0) 0 (nI co)) 1 (nI rr)) 2 (nI le)) 3 dn))) (by omega) G4_2
                have G5_3 := zset_ne (q := pn_1) (e' := (q111, zI4 E 6 (upd (upd (upd (upd (fun _ => 0) 0 (nI co)) 1 (nI rr)) 2 (nI le)) 3 dn))) (by omega) G4_3
                have G5_4 := zset_ne (q := pn_1) (e' := (q111, zI4 E 6 (upd (upd (upd (upd (fun _ => 0) 0 (nI co)) 1 (nI rr)) 2 (nI le)) 3 dn))) (by omega) G4_4
                have G5_5 := zset_ne (q := pn_1) (e' := (q111, zI4 E 6 (upd (upd (upd (upd (fun _ => 0) 0 (nI co)) 1 (nI rr)) 2 (nI le)) 3 dn))) (by omega) G4_5
                have G5_6 := zset_ne (q := pn_1) (e' := (q111, zI4 E 6 (upd (upd (upd (upd (fun _ => 0) 0 (nI co)) 1 (nI rr)) 2 (nI le)) 3 dn))) (by omega) G4_6
                have G5_7 := zset_ne (q := pn_1) (e' := (q111, zI4 E 6 (upd (upd (upd (upd (fun _ => 0) 0 (nI co)) 1 (nI rr)) 2 (nI le)) 3 dn))) (by omega) G4_7
                have G5_8 := zset_ne (q := pn_1) (e' := (q111, zI4 E 6 (upd (upd (upd (upd (fun _ => 0) 0 (nI co)) 1 (nI rr)) 2 (nI le)) 3 dn))) (by omega) G4_8
                have G5_9 := zset_ne (q := pn_1) (e' := (q111, zI4 E 6 (upd (upd (upd (upd (fun _ => 0) 0 (nI co)) 1 (nI rr)) 2 (nI le)) 3 dn))) (by omega) G4_9
                have G5_10 := zset_ne (q := pn_1) (e' := (q111, zI4 E 6 (upd (upd (upd (upd (fun _ => 0) 0 (nI co)) 1 (nI rr)) 2 (nI le)) 3 dn))) (by omega) G4_10
                have G5_11 := zset_ne (q := pn_1) (e' := (q111, zI4 E 6 (upd (upd (upd (upd (fun _ => 0) 0 (nI co)) 1 (nI rr)) 2 (nI le)) 3 dn))) (by omega) G4_11
                have G5_12 := zset_ne (q := pn_1) (e' := (q111, zI4 E 6 (upd (upd (upd (upd (fun _ => 0) 0 (nI co)) 1 (nI rr)) 2 (nI le)) 3 dn))) (by omega) G4_12
                have G5_13 := zset_ne (q := pn_1) (e' := (q111, zI4 E 6 (upd (upd (upd (upd (fun _ => 0) 0 (nI co)) 1 (nI rr)) 2 (nI le)) 3 dn))) (by omega) G4_13
                have G5_14 := zset_ne (q := pn_1) (e' := (q111, zI4 E 6 (upd (upd (upd (upd (fun _ => 0) 0 (nI co)) 1 (nI rr)) 2 (nI le)) 3 dn))) (by omega) G4_14
                have G5_15 := zset_eq (e' := (q111, zI4 E 6 (upd (upd (upd (upd (fun _ => 0) 0 (nI co)) 1 (nI rr)) 2 (nI le)) 3 dn))) G4_15
                generalize hws5 : (ws_4.set pn_1 (q111, zI4 E 6 (upd (upd (upd (upd (fun _ => 0) 0 (nI co)) 1 (nI rr)) 2 (nI le)) 3 dn))) = ws_5 at J hk G5_0 G5_1 G5_2 G5_3 G5_4 G5_5 G5_6 G5_7 G5_8 G5_9 G5_10 G5_11 G5_12 G5_13 G5_14 G5_15 hF hR hSN
                refine lv_dup hx hb dL_act_180 rfl ?_
                refine lv_iconst (v := nI 4) hx hb dL_act_181 rfl ?_
                have join_208 : ∀ (ls : Array Slot) (he : Nat) (hhe : 1 ≤ he ∧ he ≤ 9), lv_has ls 12 [(5, .int (nI le)), (4, .int dn), (3, .int (nI nf)), (0, .ref x), (1, .ref z), (2, .int xv)] → W p l e (headSpec wsL_act2 ({ frames := 8, cells := 20, slots := 120, locals := 129 } : Room)).room s m args below meth c H locs 1 6 QQ (F0 m 208 ls [.int (nI he), .int (nI 4), .ref q111, .ref q111]) := by
                  intro ls he hhe hl
                  refine z_iast X J pn_1 G5_15 (vp_in_nI (by omega) (by first | decide | omega)) dL_act_208 (fun H locs J => ?_)
                  rw [show upd (upd (upd (upd (upd (fun _ => 0) 0 (nI co)) 1 (nI rr)) 2 (nI le)) 3 dn) (nI 4).toNatClampNeg (nI he) = upd (upd (upd (upd (upd (fun _ => 0) 0 (nI co)) 1 (nI rr)) 2 (nI le)) 3 dn) 4 (nI he) from (by rw [nI_clamp (by omega)])] at J
                  have hF := hF.keepS (zK.set (S := [pn_1]) (ws := ws_5) (q := pn_1) (e := (q111, zI4 E 6 (upd (upd (upd (upd (upd (fun _ => 0) 0 (nI co)) 1 (nI rr)) 2 (nI le)) 3 dn) 4 (nI he)))) (List.mem_singleton.mpr rfl)) (fun q9 hq9 => Or.inr ⟨_, _, (List.mem_singleton.mp hq9).symm ▸ G5_15, noL_I⟩)
                  have hR := hR.keepS (zK.set (S := [pn_1]) (ws := ws_5) (q := pn_1) (e := (q111, zI4 E 6 (upd (upd (upd (upd (upd (fun _ => 0) 0 (nI co)) 1 (nI rr)) 2 (nI le)) 3 dn) 4 (nI he)))) (List.mem_singleton.mpr rfl)) (fun q9 hq9 => Or.inr ⟨_, _, (List.mem_singleton.mp hq9).symm ▸ G5_15, noL_I⟩)
                  have hSN := hSN.keep (zK.set (S := [pn_1]) (ws := ws_5) (q := pn_1) (e := (q111, zI4 E 6 (upd (upd (upd (upd (upd (fun _ => 0) 0 (nI co)) 1 (nI rr)) 2 (nI le)) 3 dn) 4 (nI he)))) (List.mem_singleton.mpr rfl)) (fun r9 hr9 => by simp only [List.mem_cons, rg_mem, List.not_mem_nil, or_false, not_or]; omega)
                  have hk := hk.step (zK.set (S := [pn_1]) (ws := ws_5) (q := pn_1) (e := (q111, zI4 E 6 (upd (upd (upd (upd (upd (fun _ => 0) 0 (nI co)) 1 (nI rr)) 2 (nI le)) 3 dn) 4 (nI he)))) (List.mem_singleton.mpr rfl)) (fun q9 a9 n9 f9 h8 h7 h9 => by simp only [List.mem_cons, rg_mem, List.not_mem_nil, or_false, not_or]; omega)
                  have G6_0 := zset_ne (q := pn_1) (e' := (q111, zI4 E 6 (upd (upd (upd (upd (upd (fun _ => 0) 0 (nI co)) 1 (nI rr)) 2 (nI le)) 3 dn) 4 (nI he)))) (by omega) G5_0
                  have G6_1 := zset_ne (q := pn_1) (e' := (q111, zI4 E 6 (upd (upd (upd (upd (upd (fun _ => 0) 0 (nI co)) 1 (nI rr)) 2 (nI le)) 3 dn) 4 (nI he)))) (by omega) G5_1
                  have G6_2 := zset_ne (q := pn_1) (e' := (q111, zI4 E 6 (upd (upd (upd (upd (upd (fun _ => 0) 0 (nI co)) 1 (nI rr)) 2 (nI le)) 3 dn) 4 (nI he)))) (by omega) G5_2
                  have G6_3 := zset_ne (q := pn_1) (e' := (q111, zI4 E 6 (upd (upd (upd (upd (upd (fun _ => 0) 0 (nI co)) 1 (nI rr)) 2 (nI le)) 3 dn) 4 (nI he)))) (by omega) G5_3
                  have G6_4 := zset_ne (q := pn_1) (e' := (q111, zI4 E 6 (upd (upd (upd (upd (upd (fun _ => 0) 0 (nI co)) 1 (nI rr)) 2 (nI le)) 3 dn) 4 (nI he)))) (by omega) G5_4
                  have G6_5 := zset_ne (q := pn_1) (e' := (q111, zI4 E 6 (upd (upd (upd (upd (upd (fun _ => 0) 0 (nI co)) 1 (nI rr)) 2 (nI le)) 3 dn) 4 (nI he)))) (by omega) G5_5
                  have G6_6 := zset_ne (q := pn_1) (e' := (q111, zI4 E 6 (upd (upd (upd (upd (upd (fun _ => 0) 0 (nI co)) 1 (nI rr)) 2 (nI le)) 3 dn) 4 (nI he)))) (by omega) G5_6
                  have G6_7 := zset_ne (q := pn_1) (e' := (q111, zI4 E 6 (upd (upd (upd (upd (upd (fun _ => 0) 0 (nI co)) 1 (nI rr)) 2 (nI le)) 3 dn) 4 (nI he)))) (by omega) G5_7
                  have G6_8 := zset_ne (q := pn_1) (e' := (q111, zI4 E 6 (upd (upd (upd (upd (upd (fun _ => 0) 0 (nI co)) 1 (nI rr)) 2 (nI le)) 3 dn) 4 (nI he)))) (by omega) G5_8
                  have G6_9 := zset_ne (q := pn_1) (e' := (q111, zI4 E 6 (upd (upd (upd (upd (upd (fun _ => 0) 0 (nI co)) 1 (nI rr)) 2 (nI le)) 3 dn) 4 (nI he)))) (by omega) G5_9
                  have G6_10 := zset_ne (q := pn_1) (e' := (q111, zI4 E 6 (upd (upd (upd (upd (upd (fun _ => 0) 0 (nI co)) 1 (nI rr)) 2 (nI le)) 3 dn) 4 (nI he)))) (by omega) G5_10
                  have G6_11 := zset_ne (q := pn_1) (e' := (q111, zI4 E 6 (upd (upd (upd (upd (upd (fun _ => 0) 0 (nI co)) 1 (nI rr)) 2 (nI le)) 3 dn) 4 (nI he)))) (by omega) G5_11
                  have G6_12 := zset_ne (q := pn_1) (e' := (q111, zI4 E 6 (upd (upd (upd (upd (upd (fun _ => 0) 0 (nI co)) 1 (nI rr)) 2 (nI le)) 3 dn) 4 (nI he)))) (by omega) G5_12
                  have G6_13 := zset_ne (q := pn_1) (e' := (q111, zI4 E 6 (upd (upd (upd (upd (upd (fun _ => 0) 0 (nI co)) 1 (nI rr)) 2 (nI le)) 3 dn) 4 (nI he)))) (by omega) G5_13
                  have G6_14 := zset_ne (q := pn_1) (e' := (q111, zI4 E 6 (upd (upd (upd (upd (upd (fun _ => 0) 0 (nI co)) 1 (nI rr)) 2 (nI le)) 3 dn) 4 (nI he)))) (by omega) G5_14
                  have G6_15 := zset_eq (e' := (q111, zI4 E 6 (upd (upd (upd (upd (upd (fun _ => 0) 0 (nI co)) 1 (nI rr)) 2 (nI le)) 3 dn) 4 (nI he)))) G5_15
                  generalize hws6 : (ws_5.set pn_1 (q111, zI4 E 6 (upd (upd (upd (upd (upd (fun _ => 0) 0 (nI co)) 1 (nI rr)) 2 (nI le)) 3 dn) 4 (nI he)))) = ws_6 at J hk G6_0 G6_1 G6_2 G6_3 G6_4 G6_5 G6_6 G6_7 G6_8 G6_9 G6_10 G6_11 G6_12 G6_13 G6_14 G6_15 hF hR hSN
                  refine lv_dup hx hb dL_act_209 rfl ?_
                  refine lv_iconst (v := nI 5) hx hb dL_act_210 rfl ?_
                  refine lv_iload_n hx hb dL_act_211 rfl (lv_at hl 5 rfl) ?_
                  refine lv_bipush (v := 8) hx hb dL_act_212 (by decide) ?_
                  refine lv_ishr hx hb dL_act_214 ?_
                  refine lv_iconst (v := nI 4) hx hb dL_act_215 rfl ?_
                  obtain ⟨ga, hga⟩ : ∃ q9 : Nat, q9 = bln (xv >>> (8 &&& 31)) (4) := ⟨_, rfl⟩
                  have bga := bln_lt (v := xv >>> (8 &&& 31)) (n := 4) (by omega)
                  refine z_cr (z_rS (As := [.int (xv >>> (8 &&& 31)), .int (nI 4)]) (rest := [.int (nI 5), .ref q111, .ref q111]) X J (cL_below_ok l E (by first | assumption | omega | decide) (by first | assumption | omega | decide)) (va_cwS 2 hts (goodIn_ext2 gL_act_L_below) rfl rfl rfl (by decide +kernel) ⟨Nat.le_of_ble_eq_true rfl, Nat.le_of_ble_eq_true rfl⟩) rfl hl.1 rfl (Nat.le_of_ble_eq_true rfl) dL_act_216 ⟨Nat.le_of_ble_eq_true rfl, Nat.le_of_ble_eq_true rfl⟩) (fun r216 e_r216 => ?_)
                  subst e_r216
                  refine W.eq (g2 := F0 m 219 ls [.int (nI ga), .int (nI 5), .ref q111, .ref q111]) (congrArg (fun z9 : Int32 => F0 m 219 ls [.int z9, .int (nI 5), .ref q111, .ref q111]) (show (nI (bln (xv >>> (8 &&& 31)) 4) : Int32) = nI ga from (by rw [hga]))) ?_
                  refine z_iast X J pn_1 G6_15 (vp_in_nI (by omega) (by first | decide | omega)) dL_act_219 (fun H locs J => ?_)
                  rw [show upd (upd (upd (upd (upd (upd (fun _ => 0) 0 (nI co)) 1 (nI rr)) 2 (nI le)) 3 dn) 4 (nI he)) (nI 5).toNatClampNeg (nI ga) = upd (upd (upd (upd (upd (upd (fun _ => 0) 0 (nI co)) 1 (nI rr)) 2 (nI le)) 3 dn) 4 (nI he)) 5 (nI ga) from (by rw [nI_clamp (by omega)])] at J
                  have hF := hF.keepS (zK.set (S := [pn_1]) (ws := ws_6) (q := pn_1) (e := (q111, zI4 E 6 (upd (upd (upd (upd (upd (upd (fun _ => 0) 0 (nI co)) 1 (nI rr)) 2 (nI le)) 3 dn) 4 (nI he)) 5 (nI ga)))) (List.mem_singleton.mpr rfl)) (fun q9 hq9 => Or.inr ⟨_, _, (List.mem_singleton.mp hq9).symm ▸ G6_15, noL_I⟩)
                  have hR := hR.keepS (zK.set (S := [pn_1]) (ws := ws_6) (q := pn_1) (e := (q111, zI4 E 6 (upd (upd (upd (upd (upd (upd (fun _ => 0) 0 (nI co)) 1 (nI rr)) 2 (nI le)) 3 dn) 4 (nI he)) 5 (nI ga)))) (List.mem_singleton.mpr rfl)) (fun q9 hq9 => Or.inr ⟨_, _, (List.mem_singleton.mp hq9).symm ▸ G6_15, noL_I⟩)
                  have hSN := hSN.keep (zK.set (S := [pn_1]) (ws := ws_6) (q := pn_1) (e := (q111, zI4 E 6 (upd (upd (upd (upd (upd (upd (fun _ => 0) 0 (nI co)) 1 (nI rr)) 2 (nI le)) 3 dn) 4 (nI he)) 5 (nI ga)))) (List.mem_singleton.mpr rfl)) (fun r9 hr9 => by simp only [List.mem_cons, rg_mem, List.not_mem_nil, or_false, not_or]; omega)
                  have hk := hk.step (zK.set (S := [pn_1]) (ws := ws_6) (q := pn_1) (e := (q111, zI4 E 6 (upd (upd (upd (upd (upd (upd (fun _ => 0) 0 (nI co)) 1 (nI rr)) 2 (nI le)) 3 dn) 4 (nI he)) 5 (nI ga)))) (List.mem_singleton.mpr rfl)) (fun q9 a9 n9 f9 h8 h7 h9 => by simp only [List.mem_cons, rg_mem, List.not_mem_nil, or_false, not_or]; omega)
                  have G7_0 := zset_ne (q := pn_1) (e' := (q111, zI4 E 6 (upd (upd (upd (upd (upd (upd (fun _ => 0) 0 (nI co)) 1 (nI rr)) 2 (nI le)) 3 dn) 4 (nI he)) 5 (nI ga)))) (by omega) G6_0
                  have G7_1 := zset_ne (q := pn_1) (e' := (q111, zI4 E 6 (upd (upd (upd (upd (upd (upd (fun _ => 0) 0 (nI co)) 1 (nI rr)) 2 (nI le)) 3 dn) 4 (nI he)) 5 (nI ga)))) (by omega) G6_1
                  have G7_2 := zset_ne (q := pn_1) (e' := (q111, zI4 E 6 (upd (upd (upd (upd (upd (upd (fun _ => 0) 0 (nI co)) 1 (nI rr)) 2 (nI le)) 3 dn) 4 (nI he)) 5 (nI ga)))) (by omega) G6_2
                  have G7_3 := zset_ne (q := pn_1) (e' := (q111, zI4 E 6 (upd (upd (upd (upd (upd (upd (fun _ => 0) 0 (nI co)) 1 (nI rr)) 2 (nI le)) 3 dn) 4 (nI he)) 5 (nI ga)))) (by omega) G6_3
                  have G7_4 := zset_ne (q := pn_1) (e' := (q111, zI4 E 6 (upd (upd (upd (upd (upd (upd (fun _ => 0) 0 (nI co)) 1 (nI rr)) 2 (nI le)) 3 dn) 4 (nI he)) 5 (nI ga)))) (by omega) G6_4
                  have G7_5 := zset_ne (q := pn_1) (e' := (q111, zI4 E 6 (upd (upd (upd (upd (upd (upd (fun _ => 0) 0 (nI co)) 1 (nI rr)) 2 (nI le)) 3 dn) 4 (nI he)) 5 (nI ga)))) (by omega) G6_5
                  have G7_6 := zset_ne (q := pn_1) (e' := (q111, zI4 E 6 (upd (upd (upd (upd (upd (upd (fun _ => 0) 0 (nI co)) 1 (nI rr)) 2 (nI le)) 3 dn) 4 (nI he)) 5 (nI ga)))) (by omega) G6_6
                  have G7_7 := zset_ne (q := pn_1) (e' := (q111, zI4 E 6 (upd (upd (upd (upd (upd (upd (fun _ => 0) 0 (nI co)) 1 (nI rr)) 2 (nI le)) 3 dn) 4 (nI he)) 5 (nI ga)))) (by omega) G6_7
                  have G7_8 := zset_ne (q := pn_1) (e' := (q111, zI4 E 6 (upd (upd (upd (upd (upd (upd (fun _ => 0) 0 (nI co)) 1 (nI rr)) 2 (nI le)) 3 dn) 4 (nI he)) 5 (nI ga)))) (by omega) G6_8
                  have G7_9 := zset_ne (q := pn_1) (e' := (q111, zI4 E 6 (upd (upd (upd (upd (upd (upd (fun _ => 0) 0 (nI co)) 1 (nI rr)) 2 (nI le)) 3 dn) 4 (nI he)) 5 (nI ga)))) (by omega) G6_9
                  have G7_10 := zset_ne (q := pn_1) (e' := (q111, zI4 E 6 (upd (upd (upd (upd (upd (upd (fun _ => 0) 0 (nI co)) 1 (nI rr)) 2 (nI le)) 3 dn) 4 (nI he)) 5 (nI ga)))) (by omega) G6_10
                  have G7_11 := zset_ne (q := pn_1) (e' := (q111, zI4 E 6 (upd (upd (upd (upd (upd (upd (fun _ => 0) 0 (nI co)) 1 (nI rr)) 2 (nI le)) 3 dn) 4 (nI he)) 5 (nI ga)))) (by omega) G6_11
                  have G7_12 := zset_ne (q := pn_1) (e' := (q111, zI4 E 6 (upd (upd (upd (upd (upd (upd (fun _ => 0) 0 (nI co)) 1 (nI rr)) 2 (nI le)) 3 dn) 4 (nI he)) 5 (nI ga)))) (by omega) G6_12
                  have G7_13 := zset_ne (q := pn_1) (e' := (q111, zI4 E 6 (upd (upd (upd (upd (upd (upd (fun _ => 0) 0 (nI co)) 1 (nI rr)) 2 (nI le)) 3 dn) 4 (nI he)) 5 (nI ga)))) (by omega) G6_13
                  have G7_14 := zset_ne (q := pn_1) (e' := (q111, zI4 E 6 (upd (upd (upd (upd (upd (upd (fun _ => 0) 0 (nI co)) 1 (nI rr)) 2 (nI le)) 3 dn) 4 (nI he)) 5 (nI ga)))) (by omega) G6_14
                  have G7_15 := zset_eq (e' := (q111, zI4 E 6 (upd (upd (upd (upd (upd (upd (fun _ => 0) 0 (nI co)) 1 (nI rr)) 2 (nI le)) 3 dn) 4 (nI he)) 5 (nI ga)))) G6_15
                  generalize hws7 : (ws_6.set pn_1 (q111, zI4 E 6 (upd (upd (upd (upd (upd (upd (fun _ => 0) 0 (nI co)) 1 (nI rr)) 2 (nI le)) 3 dn) 4 (nI he)) 5 (nI ga)))) = ws_7 at J hk G7_0 G7_1 G7_2 G7_3 G7_4 G7_5 G7_6 G7_7 G7_8 G7_9 G7_10 G7_11 G7_12 G7_13 G7_14 G7_15 hF hR hSN
                  refine lv_astore (lv' := [(6, .ref q111), (5, .int (nI le)), (4, .int dn), (3, .int (nI nf)), (0, .ref x), (1, .ref z), (2, .int xv)]) hx hb dL_act_220 hl (by decide) rfl (fun ls hl => ?_)
                  have hd9 : (dn = 0 ∧ co + le ≤ 20 ∧ rr < 20) ∨ (dn = 1 ∧ rr + le ≤ 20 ∧ co < 20) := by
                    rcases hnc with ⟨h1, h2⟩ | ⟨h1, h2⟩ <;> rcases hnr9 with ⟨h3, h4⟩ | ⟨h3, h4⟩
                    · exact Or.inl ⟨h1, by omega, by omega⟩
                    · exact absurd (h1.symm.trans h3) (by decide)
                    · exact absurd (h3.symm.trans h1) (by decide)
                    · exact Or.inr ⟨h1, by omega, by omega⟩
                  refine lv_aload_n hx hb dL_act_222 rfl (lv_at hl 5 rfl) ?_
                  refine lv_aload_n hx hb dL_act_223 rfl (lv_at hl 5 rfl) ?_
                  refine z_get (C := RX7) (T := TX7) (N := 8) (ci := 8) (v := .ref fe) X J hi_X7 11 G7_11 rfl 0 (by decide) (by decide +kernel) rfl dL_act_224 ?_
                  refine lv_aload hx hb dL_act_227 (lv_at hl 0 rfl) ?_
                  refine z_cq J (z_rS (As := [.ref fe, .ref q111]) (rest := [.ref z]) X J (cX7_with_ok l E G7_13 G7_15 (fun j9 hj9 => (hSE.keepI hk j9 hj9).elim (fun a9 h9 => h9.elim (fun q9 h9 => h9.elim (fun f9 h9 => ⟨a9, q9, 6, f9, h9.1, h9.2.2.1⟩)))) hnf) (va_cwS 2 hts (goodIn_ext2 gL_act_X7_with) rfl rfl rfl (by decide +kernel) ⟨Nat.le_of_ble_eq_true rfl, Nat.le_of_ble_eq_true rfl⟩) rfl hl.1 rfl (Nat.le_of_ble_eq_true rfl) dL_act_229 ⟨by show _ ≤ 20; omega, by show _ ≤ 120; omega⟩) (fun r229 ws_8 H locs hp9 J => ?_)
                  obtain ⟨k8, ⟨nq_8, hlen8, N8_0, e_r229⟩⟩ := hp9
                  have hF := hF.keepS k8 (fun q9 hq9 => absurd hq9 List.not_mem_nil)
                  have hR := hR.keepS k8 (fun q9 hq9 => absurd hq9 List.not_mem_nil)
                  have hSN := hSN.keep k8 (fun _ _ => List.not_mem_nil)
                  have lp8 := hk.1
                  have b_8_0 := zlt G7_0
                  have b_8_1 := zlt G7_1
                  have b_8_2 := zlt G7_2
                  have b_8_3 := zlt G7_3
                  have b_8_4 := zlt G7_4
                  have b_8_5 := zlt G7_5
                  have b_8_6 := zlt G7_6
                  have b_8_7 := zlt G7_7
                  have b_8_8 := zlt G7_8
                  have b_8_9 := zlt G7_9
                  have b_8_10 := zlt G7_10
                  have b_8_11 := zlt G7_11
                  have b_8_12 := zlt G7_12
                  have b_8_13 := zlt G7_13
                  have b_8_14 := zlt G7_14
                  have b_8_15 := zlt G7_15
                  have hk := hk.step k8 (fun _ _ _ _ _ _ _ => List.not_mem_nil)
                  have G8_0 := k8.2 0 _ List.not_mem_nil G7_0
                  have G8_1 := k8.2 1 _ List.not_mem_nil G7_1
                  have G8_2 := k8.2 2 _ List.not_mem_nil G7_2
                  have G8_3 := k8.2 3 _ List.not_mem_nil G7_3
                  have G8_4 := k8.2 4 _ List.not_mem_nil G7_4
                  have G8_5 := k8.2 5 _ List.not_mem_nil G7_5
                  have G8_6 := k8.2 6 _ List.not_mem_nil G7_6
                  have G8_7 := k8.2 7 _ List.not_mem_nil G7_7
                  have G8_8 := k8.2 8 _ List.not_mem_nil G7_8
                  have G8_9 := k8.2 9 _ List.not_mem_nil G7_9
                  have G8_10 := k8.2 10 _ List.not_mem_nil G7_10
                  have G8_11 := k8.2 11 _ List.not_mem_nil G7_11
                  have G8_12 := k8.2 14 _ List.not_mem_nil G7_12
                  have G8_13 := k8.2 qf _ List.not_mem_nil G7_13
                  have G8_14 := k8.2 qr _ List.not_mem_nil G7_14
                  have G8_15 := k8.2 pn_1 _ List.not_mem_nil G7_15
                  obtain ⟨pn_8_0, hpn_8_0⟩ : ∃ z : Nat, z = ws_7.length + 0 := ⟨_, rfl⟩
                  rw [← hpn_8_0] at N8_0
                  subst e_r229
                  refine W.eq (g2 := F0 m 232 ls [.ref nq_8, .ref z]) rfl ?_
                  refine z_put (C := RX7) (T := TX7) (N := 8) (ci := 8) (v := .ref nq_8) X J hi_X7 tyX7 tyX7_ok nmX7 11 G8_11 rfl 0 (by decide) (by decide +kernel) rfl rfl rfl (Nat.le_of_ble_eq_true rfl) dL_act_232 (fun H locs J => ?_)
                  have J : zJ E (ws_8.set 11 (z, .inr (8, [.ref nq_8, .ref ro, .ref sa, .int lim, .int sup, .int off, .int plo, .int hrs]))) s H locs := J
                  have hF := hF.keepS (zK.set (S := [11]) (ws := ws_8) (q := 11) (e := (z, .inr (8, [.ref nq_8, .ref ro, .ref sa, .int lim, .int sup, .int off, .int plo, .int hrs]))) (List.mem_singleton.mpr rfl)) (fun q9 hq9 => Or.inl (by simp only [List.mem_cons, rg_mem, List.not_mem_nil, or_false, not_or] at hq9; omega))
                  have hR := hR.keepS (zK.set (S := [11]) (ws := ws_8) (q := 11) (e := (z, .inr (8, [.ref nq_8, .ref ro, .ref sa, .int lim, .int sup, .int off, .int plo, .int hrs]))) (List.mem_singleton.mpr rfl)) (fun q9 hq9 => Or.inl (by simp only [List.mem_cons, rg_mem, List.not_mem_nil, or_false, not_or] at hq9; omega))
                  have hSN := hSN.keep (zK.set (S := [11]) (ws := ws_8) (q := 11) (e := (z, .inr (8, [.ref nq_8, .ref ro, .ref sa, .int lim, .int sup, .int off, .int plo, .int hrs]))) (List.mem_singleton.mpr rfl)) (fun r9 hr9 => by simp only [List.mem_cons, rg_mem, List.not_mem_nil, or_false, not_or]; omega)
                  have hk := hk.step (zK.set (S := [11]) (ws := ws_8) (q := 11) (e := (z, .inr (8, [.ref nq_8, .ref ro, .ref sa, .int lim, .int sup, .int off, .int plo, .int hrs]))) (List.mem_singleton.mpr rfl)) (fun q9 a9 n9 f9 h8 h7 h9 => by simp only [List.mem_cons, rg_mem, List.not_mem_nil, or_false, not_or]; omega)
                  have G9_0 := zset_ne (q := 11) (e' := (z, .inr (8, [.ref nq_8, .ref ro, .ref sa, .int lim, .int sup, .int off, .int plo, .int hrs]))) (by decide) G8_0
                  have G9_1 := zset_ne (q := 11) (e' := (z, .inr (8, [.ref nq_8, .ref ro, .ref sa, .int lim, .int sup, .int off, .int plo, .int hrs]))) (by decide) G8_1
                  have G9_2 := zset_ne (q := 11) (e' := (z, .inr (8, [.ref nq_8, .ref ro, .ref sa, .int lim, .int sup, .int off, .int plo, .int hrs]))) (by decide) G8_2
                  have G9_3 := zset_ne (q := 11) (e' := (z, .inr (8, [.ref nq_8, .ref ro, .ref sa, .int lim, .int sup, .int off, .int plo, .int hrs]))) (by decide) G8_3
                  have G9_4 := zset_ne (q := 11) (e' := (z, .inr (8, [.ref nq_8, .ref ro, .ref sa, .int lim, .int sup, .int off, .int plo, .int hrs]))) (by decide) G8_4
                  have G9_5 := zset_ne (q := 11) (e' := (z, .inr (8, [.ref nq_8, .ref ro, .ref sa, .int lim, .int sup, .int off, .int plo, .int hrs]))) (by decide) G8_5
                  have G9_6 := zset_ne (q := 11) (e' := (z, .inr (8, [.ref nq_8, .ref ro, .ref sa, .int lim, .int sup, .int off, .int plo, .int hrs]))) (by decide) G8_6
                  have G9_7 := zset_ne (q := 11) (e' := (z, .inr (8, [.ref nq_8, .ref ro, .ref sa, .int lim, .int sup, .int off, .int plo, .int hrs]))) (by decide) G8_7
                  have G9_8 := zset_ne (q := 11) (e' := (z, .inr (8, [.ref nq_8, .ref ro, .ref sa, .int lim, .int sup, .int off, .int plo, .int hrs]))) (by decide) G8_8
                  have G9_9 := zset_ne (q := 11) (e' := (z, .inr (8, [.ref nq_8, .ref ro, .ref sa, .int lim, .int sup, .int off, .int plo, .int hrs]))) (by decide) G8_9
                  have G9_10 := zset_ne (q := 11) (e' := (z, .inr (8, [.ref nq_8, .ref ro, .ref sa, .int lim, .int sup, .int off, .int plo, .int hrs]))) (by decide) G8_10
                  have G9_11 := zset_eq (e' := (z, .inr (8, [.ref nq_8, .ref ro, .ref sa, .int lim, .int sup, .int off, .int plo, .int hrs]))) G8_11
                  have G9_12 := zset_ne (q := 11) (e' := (z, .inr (8, [.ref nq_8, .ref ro, .ref sa, .int lim, .int sup, .int off, .int plo, .int hrs]))) (by decide) G8_12
                  have G9_13 := zset_ne (q := 11) (e' := (z, .inr (8, [.ref nq_8, .ref ro, .ref sa, .int lim, .int sup, .int off, .int plo, .int hrs]))) (by omega) G8_13
                  have G9_14 := zset_ne (q := 11) (e' := (z, .inr (8, [.ref nq_8, .ref ro, .ref sa, .int lim, .int sup, .int off, .int plo, .int hrs]))) (by omega) G8_14
                  have G9_15 := zset_ne (q := 11) (e' := (z, .inr (8, [.ref nq_8, .ref ro, .ref sa, .int lim, .int sup, .int off, .int plo, .int hrs]))) (by omega) G8_15
                  have G9_16 := zset_ne (q := 11) (e' := (z, .inr (8, [.ref nq_8, .ref ro, .ref sa, .int lim, .int sup, .int off, .int plo, .int hrs]))) (by omega) N8_0
                  generalize hws9 : (ws_8.set 11 (z, .inr (8, [.ref nq_8, .ref ro, .ref sa, .int lim, .int sup, .int off, .int plo, .int hrs]))) = ws_9 at J hk G9_0 G9_1 G9_2 G9_3 G9_4 G9_5 G9_6 G9_7 G9_8 G9_9 G9_10 G9_11 G9_12 G9_13 G9_14 G9_15 G9_16 hF hR hSN
                  refine lv_aload_n hx hb dL_act_235 rfl (lv_at hl 4 rfl) ?_
                  refine lv_aload hx hb dL_act_236 (lv_at hl 0 rfl) ?_
                  refine lv_iconst (v := nI 0) hx hb dL_act_238 rfl ?_
                  refine z_iald X J pn_1 G9_15 (vp_in_nI (by omega) (by first | decide | omega)) dL_act_239 ?_
                  refine W.eq (g2 := F0 m 240 ls [.int (nI co), .ref x]) (congrArg (fun z9 : Int32 => F0 m 240 ls [.int z9, .ref x]) (show ((upd (upd (upd (upd (upd (upd (fun _ => 0) 0 (nI co)) 1 (nI rr)) 2 (nI le)) 3 dn) 4 (nI he)) 5 (nI ga)) (nI 0).toNatClampNeg : Int32) = nI co from (by rw [nI_clamp (by omega)]; rfl))) ?_
                  refine lv_aload hx hb dL_act_240 (lv_at hl 0 rfl) ?_
                  refine lv_iconst (v := nI 1) hx hb dL_act_242 rfl ?_
                  refine z_iald X J pn_1 G9_15 (vp_in_nI (by omega) (by first | decide | omega)) dL_act_243 ?_
                  refine W.eq (g2 := F0 m 244 ls [.int (nI rr), .int (nI co), .ref x]) (congrArg (fun z9 : Int32 => F0 m 244 ls [.int z9, .int (nI co), .ref x]) (show ((upd (upd (upd (upd (upd (upd (fun _ => 0) 0 (nI co)) 1 (nI rr)) 2 (nI le)) 3 dn) 4 (nI he)) 5 (nI ga)) (nI 1).toNatClampNeg : Int32) = nI rr from (by rw [nI_clamp (by omega)]; rfl))) ?_
                  refine lv_iload hx hb dL_act_244 (lv_at hl 1 rfl) ?_
                  refine lv_iload hx hb dL_act_246 (lv_at hl 2 rfl) ?_
                  refine lv_aload hx hb dL_act_248 (lv_at hl 0 rfl) ?_
                  refine lv_iconst (v := nI 4) hx hb dL_act_250 rfl ?_
                  refine z_iald X J pn_1 G9_15 (vp_in_nI (by omega) (by first | decide | omega)) dL_act_251 ?_
                  refine W.eq (g2 := F0 m 252 ls [.int (nI he), .int dn, .int (nI le), .int (nI rr), .int (nI co), .ref x]) (congrArg (fun z9 : Int32 => F0 m 252 ls [.int z9, .int dn, .int (nI le), .int (nI rr), .int (nI co), .ref x]) (show ((upd (upd (upd (upd (upd (upd (fun _ => 0) 0 (nI co)) 1 (nI rr)) 2 (nI le)) 3 dn) 4 (nI he)) 5 (nI ga)) (nI 4).toNatClampNeg : Int32) = nI he from (by rw [nI_clamp (by omega)]; rfl))) ?_
                  refine lv_aload hx hb dL_act_252 (lv_at hl 0 rfl) ?_
                  refine lv_iconst (v := nI 5) hx hb dL_act_254 rfl ?_
                  refine z_iald X J pn_1 G9_15 (vp_in_nI (by omega) (by first | decide | omega)) dL_act_255 ?_
                  refine W.eq (g2 := F0 m 256 ls [.int (nI ga), .int (nI he), .int dn, .int (nI le), .int (nI rr), .int (nI co), .ref x]) (congrArg (fun z9 : Int32 => F0 m 256 ls [.int z9, .int (nI he), .int dn, .int (nI le), .int (nI rr), .int (nI co), .ref x]) (show ((upd (upd (upd (upd (upd (upd (fun _ => 0) 0 (nI co)) 1 (nI rr)) 2 (nI le)) 3 dn) 4 (nI he)) 5 (nI ga)) (nI 5).toNatClampNeg : Int32) = nI ga from (by rw [nI_clamp (by omega)]; rfl))) ?_
                  have hJ9 := J.2.1
                  have hR9 := hR
                  rcases hF with ⟨hn0, he0⟩ | ⟨qe, g5, fo9, qf9, sp9, qs9, hFa⟩
                  · subst hn0
                    subst he0
                    have hk0 : kFence (nI co) (nI rr) (nI le) dn (nI he) (nI ga) (nI 0) = 0 := kFence_ok (by omega) (by omega) (by omega) (by omega) (by omega) (by omega) hd9
                    refine z_xi J (z_yV (As := [.int (nI co), .int (nI rr), .int (nI le), .int dn, .int (nI he), .int (nI ga)]) (rest := []) (ci := 7) (q0 := 0) X hRz J (cX6_fence_e_ok l hflags E G9_0 G9_1 hdn) (cwV 6 hts (goodIn_ext2 gL_act_X6_fence) rfl rfl rfl (by decide +kernel) ⟨Nat.le_of_ble_eq_true rfl, Nat.le_of_ble_eq_true rfl⟩) G9_0 rfl rfl rfl hl.1 rfl (Nat.le_of_ble_eq_true rfl) dL_act_256 ⟨by show _ ≤ 20; omega, by show _ ≤ 120; omega⟩) (fun nm ce q9 H locs hp9 J h1 h2 h3 => ?_) (fun r256 ws_10 H locs hp9 J => ?_)
                    · exact False.elim (by rcases hp9 with h9 | h9 | h9 <;> exact absurd (h9.1.symm.trans hk0) (by decide))
                    obtain ⟨k10, ⟨fo_10, sp_10, nq_10, hlen10, G10_a0, N10_0, N10_1, N10_2, e_r256⟩⟩ := hp9
                    have hR := hR.keepS k10 (fun q9 hq9 => Or.inl (by simp only [List.mem_cons, rg_mem, List.not_mem_nil, or_false, not_or] at hq9; omega))
                    have hSN := hSN.keep k10 (fun r9 hr9 => by simp only [List.mem_cons, rg_mem, List.not_mem_nil, or_false, not_or]; omega)
                    have lp10 := hk.1
                    have b_10_0 := zlt G9_0
                    have b_10_1 := zlt G9_1
                    have b_10_2 := zlt G9_2
                    have b_10_3 := zlt G9_3
                    have b_10_4 := zlt G9_4
                    have b_10_5 := zlt G9_5
                    have b_10_6 := zlt G9_6
                    have b_10_7 := zlt G9_7
                    have b_10_8 := zlt G9_8
                    have b_10_9 := zlt G9_9
                    have b_10_10 := zlt G9_10
                    have b_10_11 := zlt G9_11
                    have b_10_12 := zlt G9_12
                    have b_10_13 := zlt G9_13
                    have b_10_14 := zlt G9_14
                    have b_10_15 := zlt G9_15
                    have b_10_16 := zlt G9_16
                    have hk := hk.step k10 (fun q9 a9 n9 f9 h8 h7 h9 => by simp only [List.mem_cons, rg_mem, List.not_mem_nil, or_false, not_or]; omega)
                    have G10_0 := k10.2 0 _ (by decide) G9_0
                    have G10_2 := k10.2 2 _ (by decide) G9_2
                    have G10_3 := k10.2 3 _ (by decide) G9_3
                    have G10_4 := k10.2 4 _ (by decide) G9_4
                    have G10_5 := k10.2 5 _ (by decide) G9_5
                    have G10_6 := k10.2 6 _ (by decide) G9_6
                    have G10_7 := k10.2 7 _ (by decide) G9_7
                    have G10_8 := k10.2 8 _ (by decide) G9_8
                    have G10_9 := k10.2 9 _ (by decide) G9_9
                    have G10_10 := k10.2 10 _ (by decide) G9_10
                    have G10_11 := k10.2 11 _ (by decide) G9_11
                    have G10_12 := k10.2 14 _ (by decide) G9_12
                    have G10_13 := k10.2 qf _ (by simp only [List.mem_cons, List.not_mem_nil, or_false]; omega) G9_13
                    have G10_14 := k10.2 qr _ (by simp only [List.mem_cons, List.not_mem_nil, or_false]; omega) G9_14
                    have G10_15 := k10.2 pn_1 _ (by simp only [List.mem_cons, List.not_mem_nil, or_false]; omega) G9_15
                    have G10_16 := k10.2 pn_8_0 _ (by simp only [List.mem_cons, List.not_mem_nil, or_false]; omega) G9_16
                    obtain ⟨pn_10_0, hpn_10_0⟩ : ∃ z : Nat, z = ws_9.length + 0 := ⟨_, rfl⟩
                    rw [← hpn_10_0] at N10_0
                    obtain ⟨pn_10_1, hpn_10_1⟩ : ∃ z : Nat, z = ws_9.length + 1 := ⟨_, rfl⟩
                    rw [← hpn_10_1] at N10_1
                    obtain ⟨pn_10_2, hpn_10_2⟩ : ∃ z : Nat, z = ws_9.length + 2 := ⟨_, rfl⟩
                    rw [← hpn_10_2] at N10_2
                    refine W.eq (g2 := F0 m 259 ls [.int (nI 0)]) (congrArg (fun z9 : Int32 => F0 m 259 ls [.int z9]) (show (r256 : Int32) = nI 0 from e_r256.2)) ?_
                    refine lv_iload_n hx hb dL_act_259 rfl (lv_at hl 3 rfl) ?_
                    refine lv_icmp_ne (tgt := 267) hx hb dL_act_260 (by decide) (fun cz260 => by exact (cz260 rfl).elim) (fun cz260 => ?_)
                    refine lv_iconst (v := 1) hx hb dL_act_263 (by decide) ?_
                    refine lv_goto (tgt := 268) hx hb dL_act_264 (by decide) ?_
                    refine W.widen (k := 20) (n := 120) (by omega) (by omega) ?_
                    subst hQ
                    exact W.zret (v := 1) hx hb hr rfl (fun t ht hW => ⟨⟨1, ws_10, rfl, ⟨hk, ⟨(mc1 + 1), mc2, lim, sup, off, plo, hrs, nq_10, eb, (0 + 1), nr, nq_8, pn_8_0, ro, qr, (fput fa 0 (nI co) (nI rr) (nI le) dn (nI he) (nI ga)), rd, ri, sn, t9, hf, gf, (wO g 0 q111), gq, G10_0, G10_a0, G10_2, G10_3, G10_4, G10_5, G10_6, G10_7, G10_8, G10_9, G10_10, G10_11, G10_12, G10_16, G10_14, ⟨by omega, by omega⟩, (FS.new (pq := pn_10_2) (pf := pn_10_0) (ps := pn_10_1) hle2 (by omega) N10_2 (by omega) N10_0 (by omega) N10_1), hR, (Or.inl (sep_R hR9 k10 (by decide) J.2.1 hE1 N10_2 (by omega))), ((hSE.keepI hk).add (fb := fput fa 0 (nI co) (nI rr) (nI le) dn (nI he) (nI ga)) G10_15 (by omega) (fun t9 ht9 => f6_put t9 ht9) (fun j9 hj9 => fput_lo hj9)), (hSR.keepI hk), hSN, (by omega), hnr, (okF_add hok hdn hk0).2, hor, hRB, hu9, hlm, (Nat.le_trans hln hk.1)⟩, rfl⟩, J.I X ht hW.alike⟩, J.F ht⟩) J.locs dL_act_268
                  · have hFa : FSa E ws_9 fa ea nf qe g5 fo9 qf9 sp9 qs9 := hFa
                    have hq35 := hFa.1
                    have hk0 : kFence (nI co) (nI rr) (nI le) dn (nI he) (nI ga) (nI nf) = 0 := kFence_ok (by omega) (by omega) (by omega) (by omega) (by omega) (by omega) hd9
                    have hqz13 : qe ≠ qf := zneOA (zK.neOA X.2.1) hFa.2.1 G9_13
                    have hqz14 : qe ≠ qr := zneOA (zK.neOA X.2.1) hFa.2.1 G9_14
                    have hqz15 : qe ≠ pn_1 := zneK hFa.2.1 G9_15 rfl
                    have hqz16 : qe ≠ pn_8_0 := zneOA (zK.neOA X.2.1) hFa.2.1 G9_16
                    refine z_xi J (z_yV (As := [.int (nI co), .int (nI rr), .int (nI le), .int dn, .int (nI he), .int (nI ga)]) (rest := []) (ci := 7) (q0 := 0) X hRz J (cX6_fence_n_ok l hflags E G9_0 G9_1 hFa.2.1 hdn hnf) (cwV 6 hts (goodIn_ext2 gL_act_X6_fence) rfl rfl rfl (by decide +kernel) ⟨Nat.le_of_ble_eq_true rfl, Nat.le_of_ble_eq_true rfl⟩) G9_0 rfl rfl rfl hl.1 rfl (Nat.le_of_ble_eq_true rfl) dL_act_256 ⟨by show _ ≤ 20; omega, by show _ ≤ 120; omega⟩) (fun nm ce q9 H locs hp9 J h1 h2 h3 => ?_) (fun r256 ws_10 H locs hp9 J => ?_)
                    · exact False.elim (by rcases hp9 with h9 | h9 | h9 <;> exact absurd (h9.1.symm.trans hk0) (by decide))
                    obtain ⟨k10, ⟨fo_10, sp_10, hlen10, G10_a0, G10_a1, N10_0, N10_1, e_r256⟩⟩ := hp9
                    have hSN := hSN.keep k10 (fun r9 hr9 => by simp only [List.mem_cons, rg_mem, List.not_mem_nil, or_false, not_or]; omega)
                    have lp10 := hk.1
                    have b_10_0 := zlt G9_0
                    have b_10_1 := zlt G9_1
                    have b_10_2 := zlt G9_2
                    have b_10_3 := zlt G9_3
                    have b_10_4 := zlt G9_4
                    have b_10_5 := zlt G9_5
                    have b_10_6 := zlt G9_6
                    have b_10_7 := zlt G9_7
                    have b_10_8 := zlt G9_8
                    have b_10_9 := zlt G9_9
                    have b_10_10 := zlt G9_10
                    have b_10_11 := zlt G9_11
                    have b_10_12 := zlt G9_12
                    have b_10_13 := zlt G9_13
                    have b_10_14 := zlt G9_14
                    have b_10_15 := zlt G9_15
                    have b_10_16 := zlt G9_16
                    have b_10_17 := zlt hFa.2.1
                    have hk := hk.step k10 (fun q9 a9 n9 f9 h8 h7 h9 => by have z9_0 := zneK h9 hFa.2.1 rfl; simp only [List.mem_cons, rg_mem, List.not_mem_nil, or_false, not_or]; omega)
                    have G10_0 := k10.2 0 _ (by simp only [List.mem_cons, List.not_mem_nil, or_false]; omega) G9_0
                    have G10_2 := k10.2 2 _ (by simp only [List.mem_cons, List.not_mem_nil, or_false]; omega) G9_2
                    have G10_3 := k10.2 3 _ (by simp only [List.mem_cons, List.not_mem_nil, or_false]; omega) G9_3
                    have G10_4 := k10.2 4 _ (by simp only [List.mem_cons, List.not_mem_nil, or_false]; omega) G9_4
                    have G10_5 := k10.2 5 _ (by simp only [List.mem_cons, List.not_mem_nil, or_false]; omega) G9_5
                    have G10_6 := k10.2 6 _ (by simp only [List.mem_cons, List.not_mem_nil, or_false]; omega) G9_6
                    have G10_7 := k10.2 7 _ (by simp only [List.mem_cons, List.not_mem_nil, or_false]; omega) G9_7
                    have G10_8 := k10.2 8 _ (by simp only [List.mem_cons, List.not_mem_nil, or_false]; omega) G9_8
                    have G10_9 := k10.2 9 _ (by simp only [List.mem_cons, List.not_mem_nil, or_false]; omega) G9_9
                    have G10_10 := k10.2 10 _ (by simp only [List.mem_cons, List.not_mem_nil, or_false]; omega) G9_10
                    have G10_11 := k10.2 11 _ (by simp only [List.mem_cons, List.not_mem_nil, or_false]; omega) G9_11
                    have G10_12 := k10.2 14 _ (by simp only [List.mem_cons, List.not_mem_nil, or_false]; omega) G9_12
                    have G10_13 := k10.2 qf _ (by simp only [List.mem_cons, List.not_mem_nil, or_false]; omega) G9_13
                    have G10_14 := k10.2 qr _ (by simp only [List.mem_cons, List.not_mem_nil, or_false]; omega) G9_14
                    have G10_15 := k10.2 pn_1 _ (by simp only [List.mem_cons, List.not_mem_nil, or_false]; omega) G9_15
                    have G10_16 := k10.2 pn_8_0 _ (by simp only [List.mem_cons, List.not_mem_nil, or_false]; omega) G9_16
                    obtain ⟨pn_10_0, hpn_10_0⟩ : ∃ z : Nat, z = ws_9.length + 0 := ⟨_, rfl⟩
                    rw [← hpn_10_0] at N10_0
                    obtain ⟨pn_10_1, hpn_10_1⟩ : ∃ z : Nat, z = ws_9.length + 1 := ⟨_, rfl⟩
                    rw [← hpn_10_1] at N10_1
                    refine W.eq (g2 := F0 m 259 ls [.int (nI nf)]) (congrArg (fun z9 : Int32 => F0 m 259 ls [.int z9]) (show (r256 : Int32) = nI nf from e_r256.2)) ?_
                    refine lv_iload_n hx hb dL_act_259 rfl (lv_at hl 3 rfl) ?_
                    refine lv_icmp_ne (tgt := 267) hx hb dL_act_260 (by decide) (fun cz260 => by exact (cz260 rfl).elim) (fun cz260 => ?_)
                    refine lv_iconst (v := 1) hx hb dL_act_263 (by decide) ?_
                    refine lv_goto (tgt := 268) hx hb dL_act_264 (by decide) ?_
                    refine W.widen (k := 20) (n := 120) (by omega) (by omega) ?_
                    subst hQ
                    exact W.zret (v := 1) hx hb hr rfl (fun t ht hW => ⟨⟨1, ws_10, rfl, ⟨hk, ⟨(mc1 + 1), mc2, lim, sup, off, plo, hrs, ea, eb, (nf + 1), nr, nq_8, pn_8_0, ro, qr, (fput fa nf (nI co) (nI rr) (nI le) dn (nI he) (nI ga)), rd, ri, sn, t9, hf, gf, (wO g nf q111), gq, G10_0, G10_a0, G10_2, G10_3, G10_4, G10_5, G10_6, G10_7, G10_8, G10_9, G10_10, G10_11, G10_12, G10_16, G10_14, ⟨by omega, by omega⟩, (FS.add (pf := pn_10_0) (ps := pn_10_1) hFa hle2 k10 (by intro q9 hq9; simp only [List.mem_cons, List.not_mem_nil, or_false] at hq9; omega) G10_a1 (by omega) N10_0 (by omega) N10_1), (hR9.keepE k10 hFa.2.1 rfl rfl (hSep.ne hJ9 hE1 hFa.2.1) (by intro q9 hq9; simp only [List.mem_cons, List.not_mem_nil, or_false] at hq9; omega)), hSep, ((hSE.keepI hk).add (fb := fput fa nf (nI co) (nI rr) (nI le) dn (nI he) (nI ga)) G10_15 (by omega) (fun t9 ht9 => f6_put t9 ht9) (fun j9 hj9 => fput_lo hj9)), (hSR.keepI hk), hSN, (by omega), hnr, (okF_add hok hdn hk0).2, hor, hRB, hu9, hlm, (Nat.le_trans hln hk.1)⟩, rfl⟩, J.I X ht hW.alike⟩, J.F ht⟩) J.locs dL_act_268
                refine lv_iconst (v := nI 1) hx hb dL_act_182 rfl ?_
                refine lv_iload_n hx hb dL_act_183 rfl (lv_at hl 5 rfl) ?_
                refine lv_bipush (v := 6) hx hb dL_act_184 (by decide) ?_
                refine lv_ishr hx hb dL_act_186 ?_
                refine lv_iload_n hx hb dL_act_187 rfl (lv_at hl 5 rfl) ?_
                refine lv_bipush (v := 9) hx hb dL_act_188 (by decide) ?_
                refine lv_ishr hx hb dL_act_190 ?_
                refine lv_iconst (v := nI 3) hx hb dL_act_191 rfl ?_
                refine z_cr (z_rS (As := [.int (xv >>> (9 &&& 31)), .int (nI 3)]) (rest := [.int (xv >>> (6 &&& 31)), .int (nI 1), .int (nI 4), .ref q111, .ref q111]) X J (cL_below_ok l E (by first | assumption | omega | decide) (by first | assumption | omega | decide)) (va_cwS 2 hts (goodIn_ext2 gL_act_L_below) rfl rfl rfl (by decide +kernel) ⟨Nat.le_of_ble_eq_true rfl, Nat.le_of_ble_eq_true rfl⟩) rfl hl.1 rfl (Nat.le_of_ble_eq_true rfl) dL_act_192 ⟨Nat.le_of_ble_eq_true rfl, Nat.le_of_ble_eq_true rfl⟩) (fun r192 e_r192 => ?_)
                subst e_r192
                refine lv_if_ne (tgt := 203) hx hb dL_act_195 (by decide) (fun cz195 => ?_) (fun cz195 => ?_)
                · refine lv_iconst (v := nI 4) hx hb dL_act_203 rfl ?_
                  refine z_cr (z_rS (As := [.int (xv >>> (6 &&& 31)), .int (nI 4)]) (rest := [.int (nI 1), .int (nI 4), .ref q111, .ref q111]) X J (cL_below_ok l E (by first | assumption | omega | decide) (by first | assumption | omega | decide)) (va_cwS 2 hts (goodIn_ext2 gL_act_L_below) rfl rfl rfl (by decide +kernel) ⟨Nat.le_of_ble_eq_true rfl, Nat.le_of_ble_eq_true rfl⟩) rfl hl.1 rfl (Nat.le_of_ble_eq_true rfl) dL_act_204 ⟨Nat.le_of_ble_eq_true rfl, Nat.le_of_ble_eq_true rfl⟩) (fun r204 e_r204 => ?_)
                  subst e_r204
                  obtain ⟨h5, hh5⟩ : ∃ q9 : Nat, q9 = 1 + bln (xv >>> (6 &&& 31)) 4 := ⟨_, rfl⟩
                  have bh5 := bln_lt (v := xv >>> (6 &&& 31)) (n := 4) (by decide)
                  refine lv_iadd hx hb dL_act_207 ?_
                  refine W.eq (g2 := F0 m 208 ls [.int (nI h5), .int (nI 4), .ref q111, .ref q111]) (congrArg (fun z9 : Int32 => F0 m 208 ls [.int z9, .int (nI 4), .ref q111, .ref q111]) (show ((nI 1) + (nI (bln (xv >>> (6 &&& 31)) 4)) : Int32) = nI h5 from (by rw [nI_add, hh5]))) ?_
                  exact join_208 _ h5 (⟨by omega, by omega⟩) (lv_sub hl [0, 1, 2, 3, 4, 5] rfl)
                · refine lv_bipush (v := nI 9) hx hb dL_act_198 (by decide) ?_
                  refine lv_goto (tgt := 204) hx hb dL_act_200 (by decide) ?_
                  refine z_cr (z_rS (As := [.int (xv >>> (6 &&& 31)), .int (nI 9)]) (rest := [.int (nI 1), .int (nI 4), .ref q111, .ref q111]) X J (cL_below_ok l E (by first | assumption | omega | decide) (by first | assumption | omega | decide)) (va_cwS 2 hts (goodIn_ext2 gL_act_L_below) rfl rfl rfl (by decide +kernel) ⟨Nat.le_of_ble_eq_true rfl, Nat.le_of_ble_eq_true rfl⟩) rfl hl.1 rfl (Nat.le_of_ble_eq_true rfl) dL_act_204 ⟨Nat.le_of_ble_eq_true rfl, Nat.le_of_ble_eq_true rfl⟩) (fun r204 e_r204 => ?_)
                  subst e_r204
                  obtain ⟨h5, hh5⟩ : ∃ q9 : Nat, q9 = 1 + bln (xv >>> (6 &&& 31)) 9 := ⟨_, rfl⟩
                  have bh5 := bln_lt (v := xv >>> (6 &&& 31)) (n := 9) (by decide)
                  refine lv_iadd hx hb dL_act_207 ?_
                  refine W.eq (g2 := F0 m 208 ls [.int (nI h5), .int (nI 4), .ref q111, .ref q111]) (congrArg (fun z9 : Int32 => F0 m 208 ls [.int z9, .int (nI 4), .ref q111, .ref q111]) (show ((nI 1) + (nI (bln (xv >>> (6 &&& 31)) 9)) : Int32) = nI h5 from (by rw [nI_add, hh5]))) ?_
                  exact join_208 _ h5 (⟨by omega, by omega⟩) (lv_sub hl [0, 1, 2, 3, 4, 5] rfl)
              refine lv_iload hx hb dL_act_169 (lv_at hl 1 rfl) ?_
              refine lv_if_eq (tgt := 178) hx hb dL_act_171 (by decide) (fun cz171 => ?_) (fun cz171 => ?_)
              · refine lv_iconst (v := 0) hx hb dL_act_178 (by decide) ?_
                refine W.eq (g2 := F0 m 179 ls [.int dn, .int (nI 3), .ref q111, .ref q111]) (congrArg (fun z9 : Int32 => F0 m 179 ls [.int z9, .int (nI 3), .ref q111, .ref q111]) (show (0 : Int32) = dn from (is01_0 hdn cz171))) ?_
                exact join_179 _ (lv_sub hl [0, 1, 2, 3, 4, 5] rfl)
              · refine lv_iconst (v := 1) hx hb dL_act_174 (by decide) ?_
                refine W.eq (g2 := F0 m 175 ls [.int dn, .int (nI 3), .ref q111, .ref q111]) (congrArg (fun z9 : Int32 => F0 m 175 ls [.int z9, .int (nI 3), .ref q111, .ref q111]) (show (1 : Int32) = dn from (is01_1 hdn cz171))) ?_
                refine lv_goto (tgt := 179) hx hb dL_act_175 (by decide) ?_
                exact join_179 _ (lv_sub hl [0, 1, 2, 3, 4, 5] rfl)
            refine lv_iload hx hb dL_act_143 (lv_at hl 1 rfl) ?_
            refine lv_if_eq (tgt := 156) hx hb dL_act_145 (by decide) (fun cz145 => ?_) (fun cz145 => ?_)
            · refine lv_bipush (v := nI 20) hx hb dL_act_156 (by decide) ?_
              exact join_158 _ 20 (Or.inl ⟨cz145, rfl⟩) (lv_sub hl [0, 1, 2, 3, 4, 5] rfl)
            · refine lv_bipush (v := nI 21) hx hb dL_act_148 (by decide) ?_
              refine lv_iload hx hb dL_act_150 (lv_at hl 0 rfl) ?_
              refine lv_isub hx hb dL_act_152 ?_
              refine W.eq (g2 := F0 m 153 ls [.int (nI (21 - le)), .int (xv >>> (7 &&& 31)), .int (nI 1), .ref q111, .ref q111]) (congrArg (fun z9 : Int32 => F0 m 153 ls [.int z9, .int (xv >>> (7 &&& 31)), .int (nI 1), .ref q111, .ref q111]) (show ((nI 21) - (nI le) : Int32) = nI (21 - le) from (pk_sub (by omega)))) ?_
              refine lv_goto (tgt := 158) hx hb dL_act_153 (by decide) ?_
              exact join_158 _ (21 - le) (Or.inr ⟨(is01_1 hdn cz145).symm, by omega⟩) (lv_sub hl [0, 1, 2, 3, 4, 5] rfl)
          refine lv_iload hx hb dL_act_118 (lv_at hl 1 rfl) ?_
          refine lv_if_eq (tgt := 128) hx hb dL_act_120 (by decide) (fun cz120 => ?_) (fun cz120 => ?_)
          · refine lv_bipush (v := nI 21) hx hb dL_act_128 (by decide) ?_
            refine lv_iload hx hb dL_act_130 (lv_at hl 0 rfl) ?_
            refine lv_isub hx hb dL_act_132 ?_
            refine W.eq (g2 := F0 m 133 ls [.int (nI (21 - le)), .int (xv >>> (5 &&& 31)), .int (nI 0), .ref q111, .ref q111]) (congrArg (fun z9 : Int32 => F0 m 133 ls [.int z9, .int (xv >>> (5 &&& 31)), .int (nI 0), .ref q111, .ref q111]) (show ((nI 21) - (nI le) : Int32) = nI (21 - le) from (pk_sub (by omega)))) ?_
            exact join_133 _ (21 - le) (Or.inl ⟨cz120, by omega⟩) (lv_sub hl [0, 1, 2, 3, 4, 5] rfl)
          · refine lv_bipush (v := nI 20) hx hb dL_act_123 (by decide) ?_
            refine lv_goto (tgt := 133) hx hb dL_act_125 (by decide) ?_
            exact join_133 _ 20 (Or.inr ⟨(is01_1 hdn cz120).symm, rfl⟩) (lv_sub hl [0, 1, 2, 3, 4, 5] rfl)
        refine lv_iload_n hx hb dL_act_80 rfl (lv_at hl 3 rfl) ?_
        refine lv_iconst (v := 3) hx hb dL_act_81 (by decide) ?_
        refine lv_ishr hx hb dL_act_82 ?_
        refine lv_iconst (v := nI 2) hx hb dL_act_83 rfl ?_
        refine z_cr (z_rS (As := [.int (xv >>> (3 &&& 31)), .int (nI 2)]) (rest := []) X J (cL_below_ok l E (by first | assumption | omega | decide) (by first | assumption | omega | decide)) (va_cwS 2 hts (goodIn_ext2 gL_act_L_below) rfl rfl rfl (by decide +kernel) ⟨Nat.le_of_ble_eq_true rfl, Nat.le_of_ble_eq_true rfl⟩) rfl hl.1 rfl (Nat.le_of_ble_eq_true rfl) dL_act_84 ⟨Nat.le_of_ble_eq_true rfl, Nat.le_of_ble_eq_true rfl⟩) (fun r84 e_r84 => ?_)
        subst e_r84
        refine lv_if_ne (tgt := 94) hx hb dL_act_87 (by decide) (fun cz87 => ?_) (fun cz87 => ?_)
        · refine lv_iconst (v := 0) hx hb dL_act_94 (by decide) ?_
          exact join_95 _ 0 (Or.inl rfl) (lv_sub hl [0, 1, 2, 3] rfl)
        · refine lv_iconst (v := 1) hx hb dL_act_90 (by decide) ?_
          refine lv_goto (tgt := 95) hx hb dL_act_91 (by decide) ?_
          exact join_95 _ 1 (Or.inr rfl) (lv_sub hl [0, 1, 2, 3] rfl)
      · refine lv_iconst (v := 1) hx hb dL_act_78 (by decide) ?_
        refine W.widen (k := 20) (n := 120) (by omega) (by omega) ?_
        subst hQ
        exact W.zret (v := 1) hx hb hr rfl (fun t ht hW => ⟨⟨1, ws, rfl, ⟨hk, ⟨mc1, mc2, lim, sup, off, plo, hrs, ea, eb, nf, nr, fe, qf, ro, qr, fa, rd, ri, sn, t9, hf, gf, g, gq, Fa0, Fa1, Fa2, Fa3, Fa4, Fa5, Fa6, Fa7, Fa8, Fa9, Fa10, Fa11, Fa12, Fa13, Fa14, ⟨by omega, by omega⟩, hF, hR, hSep, (hSE.keepI hk), (hSR.keepI hk), hSN, hnf, hnr, hok, hor, hRB, hu9, hlm, (Nat.le_trans hln hk.1)⟩, rfl⟩, J.I X ht hW.alike⟩, J.F ht⟩) J.locs dL_act_79
    refine lv_tableIn (off := 60) (tgt := 72) hx hb dL_act_12 (by decide) (by decide) (by decide) (by decide) ?_
    exact join_72 _ (lv_sub hl [0, 1, 2, 3] rfl)
  · refine W.eq (g2 := F0 m 12 ls [.int 2]) (congrArg (fun z9 : Int32 => F0 m 12 ls [.int z9]) (show (nI 2 : Int32) = 2 from rfl)) ?_
    have join_72 : ∀ (ls : Array Slot), lv_has ls 12 [(3, .int (nI nf)), (0, .ref x), (1, .ref z), (2, .int xv)] → W p l e (headSpec wsL_act2 ({ frames := 8, cells := 20, slots := 120, locals := 129 } : Room)).room s m args below meth c s.heap [] 0 0 QQ (F0 m 72 ls []) := by
      intro ls hl
      refine lv_iload_n hx hb dL_act_72 rfl (lv_at hl 0 rfl) ?_
      refine lv_bipush (v := 10) hx hb dL_act_73 (by decide) ?_
      refine lv_icmp_ne (tgt := 80) hx hb dL_act_75 (by decide) (fun cz75 => ?_) (fun cz75 => ?_)
      · have hn10 : nf < 10 := Nat.lt_of_le_of_ne hnf (fun q9 => cz75 (by rw [q9]; rfl))
        have join_95 : ∀ (ls : Array Slot) (dn : Int32) (hdn : is01 dn), lv_has ls 12 [(3, .int (nI nf)), (0, .ref x), (1, .ref z), (2, .int xv)] → W p l e (headSpec wsL_act2 ({ frames := 8, cells := 20, slots := 120, locals := 129 } : Room)).room s m args below meth c s.heap [] 0 0 QQ (F0 m 95 ls [.int dn]) := by
          intro ls dn hdn hl
          refine lv_istore (lv' := [(4, .int dn), (3, .int (nI nf)), (0, .ref x), (1, .ref z), (2, .int xv)]) hx hb dL_act_95 hl (by decide) rfl (fun ls hl => ?_)
          refine lv_iconst (v := nI 1) hx hb dL_act_97 rfl ?_
          refine lv_iload_n hx hb dL_act_98 rfl (lv_at hl 4 rfl) ?_
          refine lv_iconst (v := 4) hx hb dL_act_99 (by decide) ?_
          refine lv_ishr hx hb dL_act_100 ?_
          refine lv_bipush (v := nI 20) hx hb dL_act_101 (by decide) ?_
          refine z_cr (z_rS (As := [.int (xv >>> (4 &&& 31)), .int (nI 20)]) (rest := [.int (nI 1)]) X J (cL_below_ok l E (by first | assumption | omega | decide) (by first | assumption | omega | decide)) (va_cwS 2 hts (goodIn_ext2 gL_act_L_below) rfl rfl rfl (by decide +kernel) ⟨Nat.le_of_ble_eq_true rfl, Nat.le_of_ble_eq_true rfl⟩) rfl hl.1 rfl (Nat.le_of_ble_eq_true rfl) dL_act_103 ⟨Nat.le_of_ble_eq_true rfl, Nat.le_of_ble_eq_true rfl⟩) (fun r103 e_r103 => ?_)
          subst e_r103
          obtain ⟨le, hle⟩ : ∃ q9 : Nat, q9 = 1 + bln (xv >>> (4 &&& 31)) 20 := ⟨_, rfl⟩
          have ble := bln_lt (v := xv >>> (4 &&& 31)) (n := 20) (by decide)
          refine lv_iadd hx hb dL_act_106 ?_
          refine W.eq (g2 := F0 m 107 ls [.int (nI le)]) (congrArg (fun z9 : Int32 => F0 m 107 ls [.int z9]) (show ((nI 1) + (nI (bln (xv >>> (4 &&& 31)) 20)) : Int32) = nI le from (by rw [nI_add, hle]))) ?_
          have hle1 : 1 ≤ le := by omega
          have hle2 : le ≤ 20 := by omega
          refine lv_istore (lv' := [(5, .int (nI le)), (4, .int dn), (3, .int (nI nf)), (0, .ref x), (1, .ref z), (2, .int xv)]) hx hb dL_act_107 hl (by decide) rfl (fun ls hl => ?_)
          refine lv_bipush (v := 6) hx hb dL_act_109 (by decide) ?_
          refine z_newa (N' := 6) X J (by decide +kernel) (by decide) (by decide) (Nat.le_of_ble_eq_true rfl) (Nat.le_of_ble_eq_true rfl) (Nat.le_of_ble_eq_true rfl) dL_act_111 (fun q111 H J => ?_)
          have hF := hF.keepS (zK.app (S := []) (ws := ws) (more := [(q111, zI4 E 6 (fun _ => 0))])) (fun q9 hq9 => absurd hq9 List.not_mem_nil)
          have hR := hR.keepS (zK.app (S := []) (ws := ws) (more := [(q111, zI4 E 6 (fun _ => 0))])) (fun q9 hq9 => absurd hq9 List.not_mem_nil)
          have hSN := hSN.keep (zK.app (S := []) (ws := ws) (more := [(q111, zI4 E 6 (fun _ => 0))])) (fun _ _ => List.not_mem_nil)
          have lp1 := hk.1
          have hk := hk.step (zK.app (S := []) (ws := ws) (more := [(q111, zI4 E 6 (fun _ => 0))])) (fun _ _ _ _ _ _ _ => List.not_mem_nil)
          have bG1_0 := zlt Fa0
          have G1_0 := zapp (x := (q111, zI4 E 6 (fun _ => 0))) Fa0
          have bG1_1 := zlt Fa1
          have G1_1 := zapp (x := (q111, zI4 E 6 (fun _ => 0))) Fa1
          have bG1_2 := zlt Fa2
          have G1_2 := zapp (x := (q111, zI4 E 6 (fun _ => 0))) Fa2
          have bG1_3 := zlt Fa3
          have G1_3 := zapp (x := (q111, zI4 E 6 (fun _ => 0))) Fa3
          have bG1_4 := zlt Fa4
          have G1_4 := zapp (x := (q111, zI4 E 6 (fun _ => 0))) Fa4
          have bG1_5 := zlt Fa5
          have G1_5 := zapp (x := (q111, zI4 E 6 (fun _ => 0))) Fa5
          have bG1_6 := zlt Fa6
          have G1_6 := zapp (x := (q111, zI4 E 6 (fun _ => 0))) Fa6
          have bG1_7 := zlt Fa7
          have G1_7 := zapp (x := (q111, zI4 E 6 (fun _ => 0))) Fa7
          have bG1_8 := zlt Fa8
          have G1_8 := zapp (x := (q111, zI4 E 6 (fun _ => 0))) Fa8
          have bG1_9 := zlt Fa9
          have G1_9 := zapp (x := (q111, zI4 E 6 (fun _ => 0))) Fa9
          have bG1_10 := zlt Fa10
          have G1_10 := zapp (x := (q111, zI4 E 6 (fun _ => 0))) Fa10
          have bG1_11 := zlt Fa11
          have G1_11 := zapp (x := (q111, zI4 E 6 (fun _ => 0))) Fa11
          have bG1_12 := zlt Fa12
          have G1_12 := zapp (x := (q111, zI4 E 6 (fun _ => 0))) Fa12
          have bG1_13 := zlt Fa13
          have G1_13 := zapp (x := (q111, zI4 E 6 (fun _ => 0))) Fa13
          have bG1_14 := zlt Fa14
          have G1_14 := zapp (x := (q111, zI4 E 6 (fun _ => 0))) Fa14
          have G1_n := zapp_new (ws := ws) (x := (q111, zI4 E 6 (fun _ => 0)))
          generalize hws1 : ws ++ [(q111, zI4 E 6 (fun _ => 0))] = ws_1 at J hk G1_0 G1_1 G1_2 G1_3 G1_4 G1_5 G1_6 G1_7 G1_8 G1_9 G1_10 G1_11 G1_12 G1_13 G1_14 hF hR hSN G1_n
          generalize hpn1 : ws.length = pn_1 at G1_n lp1 bG1_0 bG1_1 bG1_2 bG1_3 bG1_4 bG1_5 bG1_6 bG1_7 bG1_8 bG1_9 bG1_10 bG1_11 bG1_12 bG1_13 bG1_14
          refine lv_dup hx hb dL_act_113 rfl ?_
          refine lv_iconst (v := nI 0) hx hb dL_act_114 rfl ?_
          refine lv_iload_n hx hb dL_act_115 rfl (lv_at hl 5 rfl) ?_
          refine lv_iconst (v := 5) hx hb dL_act_116 (by decide) ?_
          refine lv_ishr hx hb dL_act_117 ?_
          have join_133 : ∀ (ls : Array Slot) (nc : Nat) (hnc : (dn = 0 ∧ nc + le = 21) ∨ (dn = 1 ∧ nc = 20)), lv_has ls 12 [(5, .int (nI le)), (4, .int dn), (3, .int (nI nf)), (0, .ref x), (1, .ref z), (2, .int xv)] → W p l e (headSpec wsL_act2 ({ frames := 8, cells := 20, slots := 120, locals := 129 } : Room)).room s m args below meth c H [] 1 6 QQ (F0 m 133 ls [.int (nI nc), .int (xv >>> (5 &&& 31)), .int (nI 0), .ref q111, .ref q111]) := by
            intro ls nc hnc hl
            obtain ⟨co, hco⟩ : ∃ q9 : Nat, q9 = bln (xv >>> (5 &&& 31)) (nc) := ⟨_, rfl⟩
            have bco := bln_lt (v := xv >>> (5 &&& 31)) (n := nc) (by omega)
            refine z_cr (z_rS (As := [.int (xv >>> (5 &&& 31)), .int (nI nc)]) (rest := [.int (nI 0), .ref q111, .ref q111]) X J (cL_below_ok l E (by first | assumption | omega | decide) (by first | assumption | omega | decide)) (va_cwS 2 hts (goodIn_ext2 gL_act_L_below) rfl rfl rfl (by decide +kernel) ⟨Nat.le_of_ble_eq_true rfl, Nat.le_of_ble_eq_true rfl⟩) rfl hl.1 rfl (Nat.le_of_ble_eq_true rfl) dL_act_133 ⟨Nat.le_of_ble_eq_true rfl, Nat.le_of_ble_eq_true rfl⟩) (fun r133 e_r133 => ?_)
            subst e_r133
            refine W.eq (g2 := F0 m 136 ls [.int (nI co), .int (nI 0), .ref q111, .ref q111]) (congrArg (fun z9 : Int32 => F0 m 136 ls [.int z9, .int (nI 0), .ref q111, .ref q111]) (show (nI (bln (xv >>> (5 &&& 31)) nc) : Int32) = nI co from (by rw [hco]))) ?_
            refine z_iast X J pn_1 G1_n (vp_in_nI (by omega) (by first | decide | omega)) dL_act_136 (fun H locs J => ?_)
            rw [show upd (fun _ => 0) (nI 0).toNatClampNeg (nI co) = upd (fun _ => 0) 0 (nI co) from (by rw [nI_clamp (by omega)])] at J
            have hF := hF.keepS (zK.set (S := [pn_1]) (ws := ws_1) (q := pn_1) (e := (q111, zI4 E 6 (upd (fun _ => 0) 0 (nI co)))) (List.mem_singleton.mpr rfl)) (fun q9 hq9 => Or.inr ⟨_, _, (List.mem_singleton.mp hq9).symm ▸ G1_n, noL_I⟩)
            have hR := hR.keepS (zK.set (S := [pn_1]) (ws := ws_1) (q := pn_1) (e := (q111, zI4 E 6 (upd (fun _ => 0) 0 (nI co)))) (List.mem_singleton.mpr rfl)) (fun q9 hq9 => Or.inr ⟨_, _, (List.mem_singleton.mp hq9).symm ▸ G1_n, noL_I⟩)
            have hSN := hSN.keep (zK.set (S := [pn_1]) (ws := ws_1) (q := pn_1) (e := (q111, zI4 E 6 (upd (fun _ => 0) 0 (nI co)))) (List.mem_singleton.mpr rfl)) (fun r9 hr9 => by simp only [List.mem_cons, rg_mem, List.not_mem_nil, or_false, not_or]; omega)
            have hk := hk.step (zK.set (S := [pn_1]) (ws := ws_1) (q := pn_1) (e := (q111, zI4 E 6 (upd (fun _ => 0) 0 (nI co)))) (List.mem_singleton.mpr rfl)) (fun q9 a9 n9 f9 h8 h7 h9 => by simp only [List.mem_cons, rg_mem, List.not_mem_nil, or_false, not_or]; omega)
            have G2_0 := zset_ne (q := pn_1) (e' := (q111, zI4 E 6 (upd (fun _ => 0) 0 (nI co)))) (by omega) G1_0
            have G2_1 := zset_ne (q := pn_1) (e' := (q111, zI4 E 6 (upd (fun _ => 0) 0 (nI co)))) (by omega) G1_1
            have G2_2 := zset_ne (q := pn_1) (e' := (q111, zI4 E 6 (upd (fun _ => 0) 0 (nI co)))) (by omega) G1_2
            have G2_3 := zset_ne (q := pn_1) (e' := (q111, zI4 E 6 (upd (fun _ => 0) 0 (nI co)))) (by omega) G1_3
            have G2_4 := zset_ne (q := pn_1) (e' := (q111, zI4 E 6 (upd (fun _ => 0) 0 (nI co)))) (by omega) G1_4
            have G2_5 := zset_ne (q := pn_1) (e' := (q111, zI4 E 6 (upd (fun _ => 0) 0 (nI co)))) (by omega) G1_5
            have G2_6 := zset_ne (q := pn_1) (e' := (q111, zI4 E 6 (upd (fun _ => 0) 0 (nI co)))) (by omega) G1_6
            have G2_7 := zset_ne (q := pn_1) (e' := (q111, zI4 E 6 (upd (fun _ => 0) 0 (nI co)))) (by omega) G1_7
            have G2_8 := zset_ne (q := pn_1) (e' := (q111, zI4 E 6 (upd (fun _ => 0) 0 (nI co)))) (by omega) G1_8
            have G2_9 := zset_ne (q := pn_1) (e' := (q111, zI4 E 6 (upd (fun _ => 0) 0 (nI co)))) (by omega) G1_9
            have G2_10 := zset_ne (q := pn_1) (e' := (q111, zI4 E 6 (upd (fun _ => 0) 0 (nI co)))) (by omega) G1_10
            have G2_11 := zset_ne (q := pn_1) (e' := (q111, zI4 E 6 (upd (fun _ => 0) 0 (nI co)))) (by omega) G1_11
            have G2_12 := zset_ne (q := pn_1) (e' := (q111, zI4 E 6 (upd (fun _ => 0) 0 (nI co)))) (by omega) G1_12
            have G2_13 := zset_ne (q := pn_1) (e' := (q111, zI4 E 6 (upd (fun _ => 0) 0 (nI co)))) (by omega) G1_13
            have G2_14 := zset_ne (q := pn_1) (e' := (q111, zI4 E 6 (upd (fun _ => 0) 0 (nI co)))) (by omega) G1_14
            have G2_15 := zset_eq (e' := (q111, zI4 E 6 (upd (fun _ => 0) 0 (nI co)))) G1_n
            generalize hws2 : (ws_1.set pn_1 (q111, zI4 E 6 (upd (fun _ => 0) 0 (nI co)))) = ws_2 at J hk G2_0 G2_1 G2_2 G2_3 G2_4 G2_5 G2_6 G2_7 G2_8 G2_9 G2_10 G2_11 G2_12 G2_13 G2_14 G2_15 hF hR hSN
            refine lv_dup hx hb dL_act_137 rfl ?_
            refine lv_iconst (v := nI 1) hx hb dL_act_138 rfl ?_
            refine lv_iload_n hx hb dL_act_139 rfl (lv_at hl 5 rfl) ?_
            refine lv_bipush (v := 7) hx hb dL_act_140 (by decide) ?_
            refine lv_ishr hx hb dL_act_142 ?_
            have join_158 : ∀ (ls : Array Slot) (nr9 : Nat) (hnr9 : (dn = 0 ∧ nr9 = 20) ∨ (dn = 1 ∧ nr9 + le = 21)), lv_has ls 12 [(5, .int (nI le)), (4, .int dn), (3, .int (nI nf)), (0, .ref x), (1, .ref z), (2, .int xv)] → W p l e (headSpec wsL_act2 ({ frames := 8, cells := 20, slots := 120, locals := 129 } : Room)).room s m args below meth c H locs 1 6 QQ (F0 m 158 ls [.int (nI nr9), .int (xv >>> (7 &&& 31)), .int (nI 1), .ref q111, .ref q111]) := by
              intro ls nr9 hnr9 hl
              obtain ⟨rr, hrr⟩ : ∃ q9 : Nat, q9 = bln (xv >>> (7 &&& 31)) (nr9) := ⟨_, rfl⟩
              have brr := bln_lt (v := xv >>> (7 &&& 31)) (n := nr9) (by omega)
              refine z_cr (z_rS (As := [.int (xv >>> (7 &&& 31)), .int (nI nr9)]) (rest := [.int (nI 1), .ref q111, .ref q111]) X J (cL_below_ok l E (by first | assumption | omega | decide) (by first | assumption | omega | decide)) (va_cwS 2 hts (goodIn_ext2 gL_act_L_below) rfl rfl rfl (by decide +kernel) ⟨Nat.le_of_ble_eq_true rfl, Nat.le_of_ble_eq_true rfl⟩) rfl hl.1 rfl (Nat.le_of_ble_eq_true rfl) dL_act_158 ⟨Nat.le_of_ble_eq_true rfl, Nat.le_of_ble_eq_true rfl⟩) (fun r158 e_r158 => ?_)
              subst e_r158
              refine W.eq (g2 := F0 m 161 ls [.int (nI rr), .int (nI 1), .ref q111, .ref q111]) (congrArg (fun z9 : Int32 => F0 m 161 ls [.int z9, .int (nI 1), .ref q111, .ref q111]) (show (nI (bln (xv >>> (7 &&& 31)) nr9) : Int32) = nI rr from (by rw [hrr]))) ?_
              refine z_iast X J pn_1 G2_15 (vp_in_nI (by omega) (by first | decide | omega)) dL_act_161 (fun H locs J => ?_)
              rw [show upd (upd (fun _ => 0) 0 (nI co)) (nI 1).toNatClampNeg (nI rr) = upd (upd (fun _ => 0) 0 (nI co)) 1 (nI rr) from (by rw [nI_clamp (by omega)])] at J
              have hF := hF.keepS (zK.set (S := [pn_1]) (ws := ws_2) (q := pn_1) (e := (q111, zI4 E 6 (upd (upd (fun _ => 0) 0 (nI co)) 1 (nI rr)))) (List.mem_singleton.mpr rfl)) (fun q9 hq9 => Or.inr ⟨_, _, (List.mem_singleton.mp hq9).symm ▸ G2_15, noL_I⟩)
              have hR := hR.keepS (zK.set (S := [pn_1]) (ws := ws_2) (q := pn_1) (e := (q111, zI4 E 6 (upd (upd (fun _ => 0) 0 (nI co)) 1 (nI rr)))) (List.mem_singleton.mpr rfl)) (fun q9 hq9 => Or.inr ⟨_, _, (List.mem_singleton.mp hq9).symm ▸ G2_15, noL_I⟩)
              have hSN := hSN.keep (zK.set (S := [pn_1]) (ws := ws_2) (q := pn_1) (e := (q111, zI4 E 6 (upd (upd (fun _ => 0) 0 (nI co)) 1 (nI rr)))) (List.mem_singleton.mpr rfl)) (fun r9 hr9 => by simp only [List.mem_cons, rg_mem, List.not_mem_nil, or_false, not_or]; omega)
              have hk := hk.step (zK.set (S := [pn_1]) (ws := ws_2) (q := pn_1) (e := (q111, zI4 E 6 (upd (upd (fun _ => 0) 0 (nI co)) 1 (nI rr)))) (List.mem_singleton.mpr rfl)) (fun q9 a9 n9 f9 h8 h7 h9 => by simp only [List.mem_cons, rg_mem, List.not_mem_nil, or_false, not_or]; omega)
              have G3_0 := zset_ne (q := pn_1) (e' := (q111, zI4 E 6 (upd (upd (fun _ => 0) 0 (nI co)) 1 (nI rr)))) (by omega) G2_0
              have G3_1 := zset_ne (q := pn_1) (e' := (q111, zI4 E 6 (upd (upd (fun _ => 0) 0 (nI co)) 1 (nI rr)))) (by omega) G2_1
              have G3_2 := zset_ne (q := pn_1) (e' := (q111, zI4 E 6 (upd (upd (fun _ => 0) 0 (nI co)) 1 (nI rr)))) (by omega) G2_2
              have G3_3 := zset_ne (q := pn_1) (e' := (q111, zI4 E 6 (upd (upd (fun _ => 0) 0 (nI co)) 1 (nI rr)))) (by omega) G2_3
              have G3_4 := zset_ne (q := pn_1) (e' := (q111, zI4 E 6 (upd (upd (fun _ => 0) 0 (nI co)) 1 (nI rr)))) (by omega) G2_4
              have G3_5 := zset_ne (q := pn_1) (e' := (q111, zI4 E 6 (upd (upd (fun _ => 0) 0 (nI co)) 1 (nI rr)))) (by omega) G2_5
              have G3_6 := zset_ne (q := pn_1) (e' := (q111, zI4 E 6 (upd (upd (fun _ => 0) 0 (nI co)) 1 (nI rr)))) (by omega) G2_6
              have G3_7 := zset_ne (q := pn_1) (e' := (q111, zI4 E 6 (upd (upd (fun _ => 0) 0 (nI co)) 1 (nI rr)))) (by omega) G2_7
              have G3_8 := zset_ne (q := pn_1) (e' := (q111, zI4 E 6 (upd (upd (fun _ => 0) 0 (nI co)) 1 (nI rr)))) (by omega) G2_8
              have G3_9 := zset_ne (q := pn_1) (e' := (q111, zI4 E 6 (upd (upd (fun _ => 0) 0 (nI co)) 1 (nI rr)))) (by omega) G2_9
              have G3_10 := zset_ne (q := pn_1) (e' := (q111, zI4 E 6 (upd (upd (fun _ => 0) 0 (nI co)) 1 (nI rr)))) (by omega) G2_10
              have G3_11 := zset_ne (q := pn_1) (e' := (q111, zI4 E 6 (upd (upd (fun _ => 0) 0 (nI co)) 1 (nI rr)))) (by omega) G2_11
              have G3_12 := zset_ne (q := pn_1) (e' := (q111, zI4 E 6 (upd (upd (fun _ => 0) 0 (nI co)) 1 (nI rr)))) (by omega) G2_12
              have G3_13 := zset_ne (q := pn_1) (e' := (q111, zI4 E 6 (upd (upd (fun _ => 0) 0 (nI co)) 1 (nI rr)))) (by omega) G2_13
              have G3_14 := zset_ne (q := pn_1) (e' := (q111, zI4 E 6 (upd (upd (fun _ => 0) 0 (nI co)) 1 (nI rr)))) (by omega) G2_14
              have G3_15 := zset_eq (e' := (q111, zI4 E 6 (upd (upd (fun _ => 0) 0 (nI co)) 1 (nI rr)))) G2_15
              generalize hws3 : (ws_2.set pn_1 (q111, zI4 E 6 (upd (upd (fun _ => 0) 0 (nI co)) 1 (nI rr)))) = ws_3 at J hk G3_0 G3_1 G3_2 G3_3 G3_4 G3_5 G3_6 G3_7 G3_8 G3_9 G3_10 G3_11 G3_12 G3_13 G3_14 G3_15 hF hR hSN
              refine lv_dup hx hb dL_act_162 rfl ?_
              refine lv_iconst (v := nI 2) hx hb dL_act_163 rfl ?_
              refine lv_iload hx hb dL_act_164 (lv_at hl 0 rfl) ?_
              refine z_iast X J pn_1 G3_15 (vp_in_nI (by omega) (by first | decide | omega)) dL_act_166 (fun H locs J => ?_)
              rw [show upd (upd (upd (fun _ => 0) 0 (nI co)) 1 (nI rr)) (nI 2).toNatClampNeg (nI le) = upd (upd (upd (fun _ => 0) 0 (nI co)) 1 (nI rr)) 2 (nI le) from (by rw [nI_clamp (by omega)])] at J
              have hF := hF.keepS (zK.set (S := [pn_1]) (ws := ws_3) (q := pn_1) (e := (q111, zI4 E 6 (upd (upd (upd (fun _ => 0) 0 (nI co)) 1 (nI rr)) 2 (nI le)))) (List.mem_singleton.mpr rfl)) (fun q9 hq9 => Or.inr ⟨_, _, (List.mem_singleton.mp hq9).symm ▸ G3_15, noL_I⟩)
              have hR := hR.keepS (zK.set (S := [pn_1]) (ws := ws_3) (q := pn_1) (e := (q111, zI4 E 6 (upd (upd (upd (fun _ => 0) 0 (nI co)) 1 (nI rr)) 2 (nI le)))) (List.mem_singleton.mpr rfl)) (fun q9 hq9 => Or.inr ⟨_, _, (List.mem_singleton.mp hq9).symm ▸ G3_15, noL_I⟩)
              have hSN := hSN.keep (zK.set (S := [pn_1]) (ws := ws_3) (q := pn_1) (e := (q111, zI4 E 6 (upd (upd (upd (fun _ => 0) 0 (nI co)) 1 (nI rr)) 2 (nI le)))) (List.mem_singleton.mpr rfl)) (fun r9 hr9 => by simp only [List.mem_cons, rg_mem, List.not_mem_nil, or_false, not_or]; omega)
              have hk := hk.step (zK.set (S := [pn_1]) (ws := ws_3) (q := pn_1) (e := (q111, zI4 E 6 (upd (upd (upd (fun _ => 0) 0 (nI co)) 1 (nI rr)) 2 (nI le)))) (List.mem_singleton.mpr rfl)) (fun q9 a9 n9 f9 h8 h7 h9 => by simp only [List.mem_cons, rg_mem, List.not_mem_nil, or_false, not_or]; omega)
              have G4_0 := zset_ne (q := pn_1) (e' := (q111, zI4 E 6 (upd (upd (upd (fun _ => 0) 0 (nI co)) 1 (nI rr)) 2 (nI le)))) (by omega) G3_0
              have G4_1 := zset_ne (q := pn_1) (e' := (q111, zI4 E 6 (upd (upd (upd (fun _ => 0) 0 (nI co)) 1 (nI rr)) 2 (nI le)))) (by omega) G3_1
              have G4_2 := zset_ne (q := pn_1) (e' := (q111, zI4 E 6 (upd (upd (upd (fun _ => 0) 0 (nI co)) 1 (nI rr)) 2 (nI le)))) (by omega) G3_2
              have G4_3 := zset_ne (q := pn_1) (e' := (q111, zI4 E 6 (upd (upd (upd (fun _ => 0) 0 (nI co)) 1 (nI rr)) 2 (nI le)))) (by omega) G3_3
              have G4_4 := zset_ne (q := pn_1) (e' := (q111, zI4 E 6 (upd (upd (upd (fun _ => 0) 0 (nI co)) 1 (nI rr)) 2 (nI le)))) (by omega) G3_4
              have G4_5 := zset_ne (q := pn_1) (e' := (q111, zI4 E 6 (upd (upd (upd (fun _ => 0) 0 (nI co)) 1 (nI rr)) 2 (nI le)))) (by omega) G3_5
              have G4_6 := zset_ne (q := pn_1) (e' := (q111, zI4 E 6 (upd (upd (upd (fun _ => 0) 0 (nI co)) 1 (nI rr)) 2 (nI le)))) (by omega) G3_6
              have G4_7 := zset_ne (q := pn_1) (e' := (q111, zI4 E 6 (upd (upd (upd (fun _ => 0) 0 (nI co)) 1 (nI rr)) 2 (nI le)))) (by omega) G3_7
              have G4_8 := zset_ne (q := pn_1) (e' := (q111, zI4 E 6 (upd (upd (upd (fun _ => 0) 0 (nI co)) 1 (nI rr)) 2 (nI le)))) (by omega) G3_8
              have G4_9 := zset_ne (q := pn_1) (e' := (q111, zI4 E 6 (upd (upd (upd (fun _ => 0) 0 (nI co)) 1 (nI rr)) 2 (nI le)))) (by omega) G3_9
              have G4_10 := zset_ne (q := pn_1) (e' := (q111, zI4 E 6 (upd (upd (upd (fun _ => 0) 0 (nI co)) 1 (nI rr)) 2 (nI le)))) (by omega) G3_10
              have G4_11 := zset_ne (q := pn_1) (e' := (q111, zI4 E 6 (upd (upd (upd (fun _ => 0) 0 (nI co)) 1 (nI rr)) 2 (nI le)))) (by omega) G3_11
              have G4_12 := zset_ne (q := pn_1) (e' := (q111, zI4 E 6 (upd (upd (upd (fun _ => 0) 0 (nI co)) 1 (nI rr)) 2 (nI le)))) (by omega) G3_12
              have G4_13 := zset_ne (q := pn_1) (e' := (q111, zI4 E 6 (upd (upd (upd (fun _ => 0) 0 (nI co)) 1 (nI rr)) 2 (nI le)))) (by omega) G3_13
              have G4_14 := zset_ne (q := pn_1) (e' := (q111, zI4 E 6 (upd (upd (upd (fun _ => 0) 0 (nI co)) 1 (nI rr)) 2 (nI le)))) (by omega) G3_14
              have G4_15 := zset_eq (e' := (q111, zI4 E 6 (upd (upd (upd (fun _ => 0) 0 (nI co)) 1 (nI rr)) 2 (nI le)))) G3_15
              generalize hws4 : (ws_3.set pn_1 (q111, zI4 E 6 (upd (upd (upd (fun _ => 0) 0 (nI co)) 1 (nI rr)) 2 (nI le)))) = ws_4 at J hk G4_0 G4_1 G4_2 G4_3 G4_4 G4_5 G4_6 G4_7 G4_8 G4_9 G4_10 G4_11 G4_12 G4_13 G4_14 G4_15 hF hR hSN
              refine lv_dup hx hb dL_act_167 rfl ?_
              refine lv_iconst (v := nI 3) hx hb dL_act_168 rfl ?_
              have join_179 : ∀ (ls : Array Slot), lv_has ls 12 [(5, .int (nI le)), (4, .int dn), (3, .int (nI nf)), (0, .ref x), (1, .ref z), (2, .int xv)] → W p l e (headSpec wsL_act2 ({ frames := 8, cells := 20, slots := 120, locals := 129 } : Room)).room s m args below meth c H locs 1 6 QQ (F0 m 179 ls [.int dn, .int (nI 3), .ref q111, .ref q111]) := by
                intro ls hl
                refine z_iast X J pn_1 G4_15 (vp_in_nI (by omega) (by first | decide | omega)) dL_act_179 (fun H locs J => ?_)
                rw [show upd (upd (upd (upd (fun _ => 0) 0 (nI co)) 1 (nI rr)) 2 (nI le)) (nI 3).toNatClampNeg dn = upd (upd (upd (upd (fun _ => 0) 0 (nI co)) 1 (nI rr)) 2 (nI le)) 3 dn from (by rw [nI_clamp (by omega)])] at J
                have hF := hF.keepS (zK.set (S := [pn_1]) (ws := ws_4) (q := pn_1) (e := (q111, zI4 E 6 (upd (upd (upd (upd (fun _ => 0) 0 (nI co)) 1 (nI rr)) 2 (nI le)) 3 dn))) (List.mem_singleton.mpr rfl)) (fun q9 hq9 => Or.inr ⟨_, _, (List.mem_singleton.mp hq9).symm ▸ G4_15, noL_I⟩)
                have hR := hR.keepS (zK.set (S := [pn_1]) (ws := ws_4) (q := pn_1) (e := (q111, zI4 E 6 (upd (upd (upd (upd (fun _ => 0) 0 (nI co)) 1 (nI rr)) 2 (nI le)) 3 dn))) (List.mem_singleton.mpr rfl)) (fun q9 hq9 => Or.inr ⟨_, _, (List.mem_singleton.mp hq9).symm ▸ G4_15, noL_I⟩)
                have hSN := hSN.keep (zK.set (S := [pn_1]) (ws := ws_4) (q := pn_1) (e := (q111, zI4 E 6 (upd (upd (upd (upd (fun _ => 0) 0 (nI co)) 1 (nI rr)) 2 (nI le)) 3 dn))) (List.mem_singleton.mpr rfl)) (fun r9 hr9 => by simp only [List.mem_cons, rg_mem, List.not_mem_nil, or_false, not_or]; omega)
                have hk := hk.step (zK.set (S := [pn_1]) (ws := ws_4) (q := pn_1) (e := (q111, zI4 E 6 (upd (upd (upd (upd (fun _ => 0) 0 (nI co)) 1 (nI rr)) 2 (nI le)) 3 dn))) (List.mem_singleton.mpr rfl)) (fun q9 a9 n9 f9 h8 h7 h9 => by simp only [List.mem_cons, rg_mem, List.not_mem_nil, or_false, not_or]; omega)
                have G5_0 := zset_ne (q := pn_1) (e' := (q111, zI4 E 6 (upd (upd (upd (upd (fun _ => 0) 0 (nI co)) 1 (nI rr)) 2 (nI le)) 3 dn))) (by omega) G4_0
                have G5_1 := zset_ne (q := pn_1) (e' := (q111, zI4 E 6 (upd (upd (upd (upd (fun _ => 0) 0 (nI co)) 1 (nI rr)) 2 (nI le)) 3 dn))) (by omega) G4_1
                have G5_2 := zset_ne (q := pn_1) (e' := (q111, zI4 E 6 (upd (upd (upd (upd (fun _ => 0) 0 (nI co)) 1 (nI rr)) 2 (nI le)) 3 dn))) (by omega) G4_2
                have G5_3 := zset_ne (q := pn_1) (e' := (q111, zI4 E 6 (upd (upd (upd (upd (fun _ => 0) 0 (nI co)) 1 (nI rr)) 2 (nI le)) 3 dn))) (by omega) G4_3
                have G5_4 := zset_ne (q := pn_1) (e' := (q111, zI4 E 6 (upd (upd (upd (upd (fun _ => 0) 0 (nI co)) 1 (nI rr)) 2 (nI le)) 3 dn))) (by omega) G4_4
                have G5_5 := zset_ne (q := pn_1) (e' := (q111, zI4 E 6 (upd (upd (upd (upd (fun _ => 0) 0 (nI co)) 1 (nI rr)) 2 (nI le)) 3 dn))) (by omega) G4_5
                have G5_6 := zset_ne (q := pn_1) (e' := (q111, zI4 E 6 (upd (upd (upd (upd (fun _ => 0) 0 (nI co)) 1 (nI rr)) 2 (nI le)) 3 dn))) (by omega) G4_6
                have G5_7 := zset_ne (q := pn_1) (e' := (q111, zI4 E 6 (upd (upd (upd (upd (fun _ => 0) 0 (nI co)) 1 (nI rr)) 2 (nI le)) 3 dn))) (by omega) G4_7
                have G5_8 := zset_ne (q := pn_1) (e' := (q111, zI4 E 6 (upd (upd (upd (upd (fun _ => 0) 0 (nI co)) 1 (nI rr)) 2 (nI le)) 3 dn))) (by omega) G4_8
                have G5_9 := zset_ne (q := pn_1) (e' := (q111, zI4 E 6 (upd (upd (upd (upd (fun _ => 0) 0 (nI co)) 1 (nI rr)) 2 (nI le)) 3 dn))) (by omega) G4_9
                have G5_10 := zset_ne (q := pn_1) (e' := (q111, zI4 E 6 (upd (upd (upd (upd (fun _ => 0) 0 (nI co)) 1 (nI rr)) 2 (nI le)) 3 dn))) (by omega) G4_10
                have G5_11 := zset_ne (q := pn_1) (e' := (q111, zI4 E 6 (upd (upd (upd (upd (fun _ => 0) 0 (nI co)) 1 (nI rr)) 2 (nI le)) 3 dn))) (by omega) G4_11
                have G5_12 := zset_ne (q := pn_1) (e' := (q111, zI4 E 6 (upd (upd (upd (upd (fun _ => 0) 0 (nI co)) 1 (nI rr)) 2 (nI le)) 3 dn))) (by omega) G4_12
                have G5_13 := zset_ne (q := pn_1) (e' := (q111, zI4 E 6 (upd (upd (upd (upd (fun _ => 0) 0 (nI co)) 1 (nI rr)) 2 (nI le)) 3 dn))) (by omega) G4_13
                have G5_14 := zset_ne (q := pn_1) (e' := (q111, zI4 E 6 (upd (upd (upd (upd (fun _ => 0) 0 (nI co)) 1 (nI rr)) 2 (nI le)) 3 dn))) (by omega) G4_14
                have G5_15 := zset_eq (e' := (q111, zI4 E 6 (upd (upd (upd (upd (fun _ => 0) 0 (nI co)) 1 (nI rr)) 2 (nI le)) 3 dn))) G4_15
                generalize hws5 : (ws_4.set pn_1 (q111, zI4 E 6 (upd (upd (upd (upd (fun _ => 0) 0 (nI co)) 1 (nI rr)) 2 (nI le)) 3 dn))) = ws_5 at J hk G5_0 G5_1 G5_2 G5_3 G5_4 G5_5 G5_6 G5_7 G5_8 G5_9 G5_10 G5_11 G5_12 G5_13 G5_14 G5_15 hF hR hSN
                refine lv_dup hx hb dL_act_180 rfl ?_
                refine lv_iconst (v := nI 4) hx hb dL_act_181 rfl ?_
                have join_208 : ∀ (ls : Array Slot) (he : Nat) (hhe : 1 ≤ he ∧ he ≤ 9), lv_has ls 12 [(5, .int (nI le)), (4, .int dn), (3, .int (nI nf)), (0, .ref x), (1, .ref z), (2, .int xv)] → W p l e (headSpec wsL_act2 ({ frames := 8, cells := 20, slots := 120, locals := 129 } : Room)).room s m args below meth c H locs 1 6 QQ (F0 m 208 ls [.int (nI he), .int (nI 4), .ref q111, .ref q111]) := by
                  intro ls he hhe hl
                  refine z_iast X J pn_1 G5_15 (vp_in_nI (by omega) (by first | decide | omega)) dL_act_208 (fun H locs J => ?_)
                  rw [show upd (upd (upd (upd (upd (fun _ => 0) 0 (nI co)) 1 (nI rr)) 2 (nI le)) 3 dn) (nI 4).toNatClampNeg (nI he) = upd (upd (upd (upd (upd (fun _ => 0) 0 (nI co)) 1 (nI rr)) 2 (nI le)) 3 dn) 4 (nI he) from (by rw [nI_clamp (by omega)])] at J
                  have hF := hF.keepS (zK.set (S := [pn_1]) (ws := ws_5) (q := pn_1) (e := (q111, zI4 E 6 (upd (upd (upd (upd (upd (fun _ => 0) 0 (nI co)) 1 (nI rr)) 2 (nI le)) 3 dn) 4 (nI he)))) (List.mem_singleton.mpr rfl)) (fun q9 hq9 => Or.inr ⟨_, _, (List.mem_singleton.mp hq9).symm ▸ G5_15, noL_I⟩)
                  have hR := hR.keepS (zK.set (S := [pn_1]) (ws := ws_5) (q := pn_1) (e := (q111, zI4 E 6 (upd (upd (upd (upd (upd (fun _ => 0) 0 (nI co)) 1 (nI rr)) 2 (nI le)) 3 dn) 4 (nI he)))) (List.mem_singleton.mpr rfl)) (fun q9 hq9 => Or.inr ⟨_, _, (List.mem_singleton.mp hq9).symm ▸ G5_15, noL_I⟩)
                  have hSN := hSN.keep (zK.set (S := [pn_1]) (ws := ws_5) (q := pn_1) (e := (q111, zI4 E 6 (upd (upd (upd (upd (upd (fun _ => 0) 0 (nI co)) 1 (nI rr)) 2 (nI le)) 3 dn) 4 (nI he)))) (List.mem_singleton.mpr rfl)) (fun r9 hr9 => by simp only [List.mem_cons, rg_mem, List.not_mem_nil, or_false, not_or]; omega)
                  have hk := hk.step (zK.set (S := [pn_1]) (ws := ws_5) (q := pn_1) (e := (q111, zI4 E 6 (upd (upd (upd (upd (upd (fun _ => 0) 0 (nI co)) 1 (nI rr)) 2 (nI le)) 3 dn) 4 (nI he)))) (List.mem_singleton.mpr rfl)) (fun q9 a9 n9 f9 h8 h7 h9 => by simp only [List.mem_cons, rg_mem, List.not_mem_nil, or_false, not_or]; omega)
                  have G6_0 := zset_ne (q := pn_1) (e' := (q111, zI4 E 6 (upd (upd (upd (upd (upd (fun _ => 0) 0 (nI co)) 1 (nI rr)) 2 (nI le)) 3 dn) 4 (nI he)))) (by omega) G5_0
                  have G6_1 := zset_ne (q := pn_1) (e' := (q111, zI4 E 6 (upd (upd (upd (upd (upd (fun _ => 0) 0 (nI co)) 1 (nI rr)) 2 (nI le)) 3 dn) 4 (nI he)))) (by omega) G5_1
                  have G6_2 := zset_ne (q := pn_1) (e' := (q111, zI4 E 6 (upd (upd (upd (upd (upd (fun _ => 0) 0 (nI co)) 1 (nI rr)) 2 (nI le)) 3 dn) 4 (nI he)))) (by omega) G5_2
                  have G6_3 := zset_ne (q := pn_1) (e' := (q111, zI4 E 6 (upd (upd (upd (upd (upd (fun _ => 0) 0 (nI co)) 1 (nI rr)) 2 (nI le)) 3 dn) 4 (nI he)))) (by omega) G5_3
                  have G6_4 := zset_ne (q := pn_1) (e' := (q111, zI4 E 6 (upd (upd (upd (upd (upd (fun _ => 0) 0 (nI co)) 1 (nI rr)) 2 (nI le)) 3 dn) 4 (nI he)))) (by omega) G5_4
                  have G6_5 := zset_ne (q := pn_1) (e' := (q111, zI4 E 6 (upd (upd (upd (upd (upd (fun _ => 0) 0 (nI co)) 1 (nI rr)) 2 (nI le)) 3 dn) 4 (nI he)))) (by omega) G5_5
                  have G6_6 := zset_ne (q := pn_1) (e' := (q111, zI4 E 6 (upd (upd (upd (upd (upd (fun _ => 0) 0 (nI co)) 1 (nI rr)) 2 (nI le)) 3 dn) 4 (nI he)))) (by omega) G5_6
                  have G6_7 := zset_ne (q := pn_1) (e' := (q111, zI4 E 6 (upd (upd (upd (upd (upd (fun _ => 0) 0 (nI co)) 1 (nI rr)) 2 (nI le)) 3 dn) 4 (nI he)))) (by omega) G5_7
                  have G6_8 := zset_ne (q := pn_1) (e' := (q111, zI4 E 6 (upd (upd (upd (upd (upd (fun _ => 0) 0 (nI co)) 1 (nI rr)) 2 (nI le)) 3 dn) 4 (nI he)))) (by omega) G5_8
                  have G6_9 := zset_ne (q := pn_1) (e' := (q111, zI4 E 6 (upd (upd (upd (upd (upd (fun _ => 0) 0 (nI co)) 1 (nI rr)) 2 (nI le)) 3 dn) 4 (nI he)))) (by omega) G5_9
                  have G6_10 := zset_ne (q := pn_1) (e' := (q111, zI4 E 6 (upd (upd (upd (upd (upd (fun _ => 0) 0 (nI co)) 1 (nI rr)) 2 (nI le)) 3 dn) 4 (nI he)))) (by omega) G5_10
                  have G6_11 := zset_ne (q := pn_1) (e' := (q111, zI4 E 6 (upd (upd (upd (upd (upd (fun _ => 0) 0 (nI co)) 1 (nI rr)) 2 (nI le)) 3 dn) 4 (nI he)))) (by omega) G5_11
                  have G6_12 := zset_ne (q := pn_1) (e' := (q111, zI4 E 6 (upd (upd (upd (upd (upd (fun _ => 0) 0 (nI co)) 1 (nI rr)) 2 (nI le)) 3 dn) 4 (nI he)))) (by omega) G5_12
                  have G6_13 := zset_ne (q := pn_1) (e' := (q111, zI4 E 6 (upd (upd (upd (upd (upd (fun _ => 0) 0 (nI co)) 1 (nI rr)) 2 (nI le)) 3 dn) 4 (nI he)))) (by omega) G5_13
                  have G6_14 := zset_ne (q := pn_1) (e' := (q111, zI4 E 6 (upd (upd (upd (upd (upd (fun _ => 0) 0 (nI co)) 1 (nI rr)) 2 (nI le)) 3 dn) 4 (nI he)))) (by omega) G5_14
                  have G6_15 := zset_eq (e' := (q111, zI4 E 6 (upd (upd (upd (upd (upd (fun _ => 0) 0 (nI co)) 1 (nI rr)) 2 (nI le)) 3 dn) 4 (nI he)))) G5_15
                  generalize hws6 : (ws_5.set pn_1 (q111, zI4 E 6 (upd (upd (upd (upd (upd (fun _ => 0) 0 (nI co)) 1 (nI rr)) 2 (nI le)) 3 dn) 4 (nI he)))) = ws_6 at J hk G6_0 G6_1 G6_2 G6_3 G6_4 G6_5 G6_6 G6_7 G6_8 G6_9 G6_10 G6_11 G6_12 G6_13 G6_14 G6_15 hF hR hSN
                  refine lv_dup hx hb dL_act_209 rfl ?_
                  refine lv_iconst (v := nI 5) hx hb dL_act_210 rfl ?_
                  refine lv_iload_n hx hb dL_act_211 rfl (lv_at hl 5 rfl) ?_
                  refine lv_bipush (v := 8) hx hb dL_act_212 (by decide) ?_
                  refine lv_ishr hx hb dL_act_214 ?_
                  refine lv_iconst (v := nI 4) hx hb dL_act_215 rfl ?_
                  obtain ⟨ga, hga⟩ : ∃ q9 : Nat, q9 = bln (xv >>> (8 &&& 31)) (4) := ⟨_, rfl⟩
                  have bga := bln_lt (v := xv >>> (8 &&& 31)) (n := 4) (by omega)
                  refine z_cr (z_rS (As := [.int (xv >>> (8 &&& 31)), .int (nI 4)]) (rest := [.int (nI 5), .ref q111, .ref q111]) X J (cL_below_ok l E (by first | assumption | omega | decide) (by first | assumption | omega | decide)) (va_cwS 2 hts (goodIn_ext2 gL_act_L_below) rfl rfl rfl (by decide +kernel) ⟨Nat.le_of_ble_eq_true rfl, Nat.le_of_ble_eq_true rfl⟩) rfl hl.1 rfl (Nat.le_of_ble_eq_true rfl) dL_act_216 ⟨Nat.le_of_ble_eq_true rfl, Nat.le_of_ble_eq_true rfl⟩) (fun r216 e_r216 => ?_)
                  subst e_r216
                  refine W.eq (g2 := F0 m 219 ls [.int (nI ga), .int (nI 5), .ref q111, .ref q111]) (congrArg (fun z9 : Int32 => F0 m 219 ls [.int z9, .int (nI 5), .ref q111, .ref q111]) (show (nI (bln (xv >>> (8 &&& 31)) 4) : Int32) = nI ga from (by rw [hga]))) ?_
                  refine z_iast X J pn_1 G6_15 (vp_in_nI (by omega) (by first | decide | omega)) dL_act_219 (fun H locs J => ?_)
                  rw [show upd (upd (upd (upd (upd (upd (fun _ => 0) 0 (nI co)) 1 (nI rr)) 2 (nI le)) 3 dn) 4 (nI he)) (nI 5).toNatClampNeg (nI ga) = upd (upd (upd (upd (upd (upd (fun _ => 0) 0 (nI co)) 1 (nI rr)) 2 (nI le)) 3 dn) 4 (nI he)) 5 (nI ga) from (by rw [nI_clamp (by omega)])] at J
                  have hF := hF.keepS (zK.set (S := [pn_1]) (ws := ws_6) (q := pn_1) (e := (q111, zI4 E 6 (upd (upd (upd (upd (upd (upd (fun _ => 0) 0 (nI co)) 1 (nI rr)) 2 (nI le)) 3 dn) 4 (nI he)) 5 (nI ga)))) (List.mem_singleton.mpr rfl)) (fun q9 hq9 => Or.inr ⟨_, _, (List.mem_singleton.mp hq9).symm ▸ G6_15, noL_I⟩)
                  have hR := hR.keepS (zK.set (S := [pn_1]) (ws := ws_6) (q := pn_1) (e := (q111, zI4 E 6 (upd (upd (upd (upd (upd (upd (fun _ => 0) 0 (nI co)) 1 (nI rr)) 2 (nI le)) 3 dn) 4 (nI he)) 5 (nI ga)))) (List.mem_singleton.mpr rfl)) (fun q9 hq9 => Or.inr ⟨_, _, (List.mem_singleton.mp hq9).symm ▸ G6_15, noL_I⟩)
                  have hSN := hSN.keep (zK.set (S := [pn_1]) (ws := ws_6) (q := pn_1) (e := (q111, zI4 E 6 (upd (upd (upd (upd (upd (upd (fun _ => 0) 0 (nI co)) 1 (nI rr)) 2 (nI le)) 3 dn) 4 (nI he)) 5 (nI ga)))) (List.mem_singleton.mpr rfl)) (fun r9 hr9 => by simp only [List.mem_cons, rg_mem, List.not_mem_nil, or_false, not_or]; omega)
                  have hk := hk.step (zK.set (S := [pn_1]) (ws := ws_6) (q := pn_1) (e := (q111, zI4 E 6 (upd (upd (upd (upd (upd (upd (fun _ => 0) 0 (nI co)) 1 (nI rr)) 2 (nI le)) 3 dn) 4 (nI he)) 5 (nI ga)))) (List.mem_singleton.mpr rfl)) (fun q9 a9 n9 f9 h8 h7 h9 => by simp only [List.mem_cons, rg_mem, List.not_mem_nil, or_false, not_or]; omega)
                  have G7_0 := zset_ne (q := pn_1) (e' := (q111, zI4 E 6 (upd (upd (upd (upd (upd (upd (fun _ => 0) 0 (nI co)) 1 (nI rr)) 2 (nI le)) 3 dn) 4 (nI he)) 5 (nI ga)))) (by omega) G6_0
                  have G7_1 := zset_ne (q := pn_1) (e' := (q111, zI4 E 6 (upd (upd (upd (upd (upd (upd (fun _ => 0) 0 (nI co)) 1 (nI rr)) 2 (nI le)) 3 dn) 4 (nI he)) 5 (nI ga)))) (by omega) G6_1
                  have G7_2 := zset_ne (q := pn_1) (e' := (q111, zI4 E 6 (upd (upd (upd (upd (upd (upd (fun _ => 0) 0 (nI co)) 1 (nI rr)) 2 (nI le)) 3 dn) 4 (nI he)) 5 (nI ga)))) (by omega) G6_2
                  have G7_3 := zset_ne (q := pn_1) (e' := (q111, zI4 E 6 (upd (upd (upd (upd (upd (upd (fun _ => 0) 0 (nI co)) 1 (nI rr)) 2 (nI le)) 3 dn) 4 (nI he)) 5 (nI ga)))) (by omega) G6_3
                  have G7_4 := zset_ne (q := pn_1) (e' := (q111, zI4 E 6 (upd (upd (upd (upd (upd (upd (fun _ => 0) 0 (nI co)) 1 (nI rr)) 2 (nI le)) 3 dn) 4 (nI he)) 5 (nI ga)))) (by omega) G6_4
                  have G7_5 := zset_ne (q := pn_1) (e' := (q111, zI4 E 6 (upd (upd (upd (upd (upd (upd (fun _ => 0) 0 (nI co)) 1 (nI rr)) 2 (nI le)) 3 dn) 4 (nI he)) 5 (nI ga)))) (by omega) G6_5
                  have G7_6 := zset_ne (q := pn_1) (e' := (q111, zI4 E 6 (upd (upd (upd (upd (upd (upd (fun _ => 0) 0 (nI co)) 1 (nI rr)) 2 (nI le)) 3 dn) 4 (nI he)) 5 (nI ga)))) (by omega) G6_6
                  have G7_7 := zset_ne (q := pn_1) (e' := (q111, zI4 E 6 (upd (upd (upd (upd (upd (upd (fun _ => 0) 0 (nI co)) 1 (nI rr)) 2 (nI le)) 3 dn) 4 (nI he)) 5 (nI ga)))) (by omega) G6_7
                  have G7_8 := zset_ne (q := pn_1) (e' := (q111, zI4 E 6 (upd (upd (upd (upd (upd (upd (fun _ => 0) 0 (nI co)) 1 (nI rr)) 2 (nI le)) 3 dn) 4 (nI he)) 5 (nI ga)))) (by omega) G6_8
                  have G7_9 := zset_ne (q := pn_1) (e' := (q111, zI4 E 6 (upd (upd (upd (upd (upd (upd (fun _ => 0) 0 (nI co)) 1 (nI rr)) 2 (nI le)) 3 dn) 4 (nI he)) 5 (nI ga)))) (by omega) G6_9
                  have G7_10 := zset_ne (q := pn_1) (e' := (q111, zI4 E 6 (upd (upd (upd (upd (upd (upd (fun _ => 0) 0 (nI co)) 1 (nI rr)) 2 (nI le)) 3 dn) 4 (nI he)) 5 (nI ga)))) (by omega) G6_10
                  have G7_11 := zset_ne (q := pn_1) (e' := (q111, zI4 E 6 (upd (upd (upd (upd (upd (upd (fun _ => 0) 0 (nI co)) 1 (nI rr)) 2 (nI le)) 3 dn) 4 (nI he)) 5 (nI ga)))) (by omega) G6_11
                  have G7_12 := zset_ne (q := pn_1) (e' := (q111, zI4 E 6 (upd (upd (upd (upd (upd (upd (fun _ => 0) 0 (nI co)) 1 (nI rr)) 2 (nI le)) 3 dn) 4 (nI he)) 5 (nI ga)))) (by omega) G6_12
                  have G7_13 := zset_ne (q := pn_1) (e' := (q111, zI4 E 6 (upd (upd (upd (upd (upd (upd (fun _ => 0) 0 (nI co)) 1 (nI rr)) 2 (nI le)) 3 dn) 4 (nI he)) 5 (nI ga)))) (by omega) G6_13
                  have G7_14 := zset_ne (q := pn_1) (e' := (q111, zI4 E 6 (upd (upd (upd (upd (upd (upd (fun _ => 0) 0 (nI co)) 1 (nI rr)) 2 (nI le)) 3 dn) 4 (nI he)) 5 (nI ga)))) (by omega) G6_14
                  have G7_15 := zset_eq (e' := (q111, zI4 E 6 (upd (upd (upd (upd (upd (upd (fun _ => 0) 0 (nI co)) 1 (nI rr)) 2 (nI le)) 3 dn) 4 (nI he)) 5 (nI ga)))) G6_15
                  generalize hws7 : (ws_6.set pn_1 (q111, zI4 E 6 (upd (upd (upd (upd (upd (upd (fun _ => 0) 0 (nI co)) 1 (nI rr)) 2 (nI le)) 3 dn) 4 (nI he)) 5 (nI ga)))) = ws_7 at J hk G7_0 G7_1 G7_2 G7_3 G7_4 G7_5 G7_6 G7_7 G7_8 G7_9 G7_10 G7_11 G7_12 G7_13 G7_14 G7_15 hF hR hSN
                  refine lv_astore (lv' := [(6, .ref q111), (5, .int (nI le)), (4, .int dn), (3, .int (nI nf)), (0, .ref x), (1, .ref z), (2, .int xv)]) hx hb dL_act_220 hl (by decide) rfl (fun ls hl => ?_)
                  have hd9 : (dn = 0 ∧ co + le ≤ 20 ∧ rr < 20) ∨ (dn = 1 ∧ rr + le ≤ 20 ∧ co < 20) := by
                    rcases hnc with ⟨h1, h2⟩ | ⟨h1, h2⟩ <;> rcases hnr9 with ⟨h3, h4⟩ | ⟨h3, h4⟩
                    · exact Or.inl ⟨h1, by omega, by omega⟩
                    · exact absurd (h1.symm.trans h3) (by decide)
                    · exact absurd (h3.symm.trans h1) (by decide)
                    · exact Or.inr ⟨h1, by omega, by omega⟩
                  refine lv_aload_n hx hb dL_act_222 rfl (lv_at hl 5 rfl) ?_
                  refine lv_aload_n hx hb dL_act_223 rfl (lv_at hl 5 rfl) ?_
                  refine z_get (C := RX7) (T := TX7) (N := 8) (ci := 8) (v := .ref fe) X J hi_X7 11 G7_11 rfl 0 (by decide) (by decide +kernel) rfl dL_act_224 ?_
                  refine lv_aload hx hb dL_act_227 (lv_at hl 0 rfl) ?_
                  refine z_cq J (z_rS (As := [.ref fe, .ref q111]) (rest := [.ref z]) X J (cX7_with_ok l E G7_13 G7_15 (fun j9 hj9 => (hSE.keepI hk j9 hj9).elim (fun a9 h9 => h9.elim (fun q9 h9 => h9.elim (fun f9 h9 => ⟨a9, q9, 6, f9, h9.1, h9.2.2.1⟩)))) hnf) (va_cwS 2 hts (goodIn_ext2 gL_act_X7_with) rfl rfl rfl (by decide +kernel) ⟨Nat.le_of_ble_eq_true rfl, Nat.le_of_ble_eq_true rfl⟩) rfl hl.1 rfl (Nat.le_of_ble_eq_true rfl) dL_act_229 ⟨by show _ ≤ 20; omega, by show _ ≤ 120; omega⟩) (fun r229 ws_8 H locs hp9 J => ?_)
                  obtain ⟨k8, ⟨nq_8, hlen8, N8_0, e_r229⟩⟩ := hp9
                  have hF := hF.keepS k8 (fun q9 hq9 => absurd hq9 List.not_mem_nil)
                  have hR := hR.keepS k8 (fun q9 hq9 => absurd hq9 List.not_mem_nil)
                  have hSN := hSN.keep k8 (fun _ _ => List.not_mem_nil)
                  have lp8 := hk.1
                  have b_8_0 := zlt G7_0
                  have b_8_1 := zlt G7_1
                  have b_8_2 := zlt G7_2
                  have b_8_3 := zlt G7_3
                  have b_8_4 := zlt G7_4
                  have b_8_5 := zlt G7_5
                  have b_8_6 := zlt G7_6
                  have b_8_7 := zlt G7_7
                  have b_8_8 := zlt G7_8
                  have b_8_9 := zlt G7_9
                  have b_8_10 := zlt G7_10
                  have b_8_11 := zlt G7_11
                  have b_8_12 := zlt G7_12
                  have b_8_13 := zlt G7_13
                  have b_8_14 := zlt G7_14
                  have b_8_15 := zlt G7_15
                  have hk := hk.step k8 (fun _ _ _ _ _ _ _ => List.not_mem_nil)
                  have G8_0 := k8.2 0 _ List.not_mem_nil G7_0
                  have G8_1 := k8.2 1 _ List.not_mem_nil G7_1
                  have G8_2 := k8.2 2 _ List.not_mem_nil G7_2
                  have G8_3 := k8.2 3 _ List.not_mem_nil G7_3
                  have G8_4 := k8.2 4 _ List.not_mem_nil G7_4
                  have G8_5 := k8.2 5 _ List.not_mem_nil G7_5
                  have G8_6 := k8.2 6 _ List.not_mem_nil G7_6
                  have G8_7 := k8.2 7 _ List.not_mem_nil G7_7
                  have G8_8 := k8.2 8 _ List.not_mem_nil G7_8
                  have G8_9 := k8.2 9 _ List.not_mem_nil G7_9
                  have G8_10 := k8.2 10 _ List.not_mem_nil G7_10
                  have G8_11 := k8.2 11 _ List.not_mem_nil G7_11
                  have G8_12 := k8.2 14 _ List.not_mem_nil G7_12
                  have G8_13 := k8.2 qf _ List.not_mem_nil G7_13
                  have G8_14 := k8.2 qr _ List.not_mem_nil G7_14
                  have G8_15 := k8.2 pn_1 _ List.not_mem_nil G7_15
                  obtain ⟨pn_8_0, hpn_8_0⟩ : ∃ z : Nat, z = ws_7.length + 0 := ⟨_, rfl⟩
                  rw [← hpn_8_0] at N8_0
                  subst e_r229
                  refine W.eq (g2 := F0 m 232 ls [.ref nq_8, .ref z]) rfl ?_
                  refine z_put (C := RX7) (T := TX7) (N := 8) (ci := 8) (v := .ref nq_8) X J hi_X7 tyX7 tyX7_ok nmX7 11 G8_11 rfl 0 (by decide) (by decide +kernel) rfl rfl rfl (Nat.le_of_ble_eq_true rfl) dL_act_232 (fun H locs J => ?_)
                  have J : zJ E (ws_8.set 11 (z, .inr (8, [.ref nq_8, .ref ro, .ref sa, .int lim, .int sup, .int off, .int plo, .int hrs]))) s H locs := J
                  have hF := hF.keepS (zK.set (S := [11]) (ws := ws_8) (q := 11) (e := (z, .inr (8, [.ref nq_8, .ref ro, .ref sa, .int lim, .int sup, .int off, .int plo, .int hrs]))) (List.mem_singleton.mpr rfl)) (fun q9 hq9 => Or.inl (by simp only [List.mem_cons, rg_mem, List.not_mem_nil, or_false, not_or] at hq9; omega))
                  have hR := hR.keepS (zK.set (S := [11]) (ws := ws_8) (q := 11) (e := (z, .inr (8, [.ref nq_8, .ref ro, .ref sa, .int lim, .int sup, .int off, .int plo, .int hrs]))) (List.mem_singleton.mpr rfl)) (fun q9 hq9 => Or.inl (by simp only [List.mem_cons, rg_mem, List.not_mem_nil, or_false, not_or] at hq9; omega))
                  have hSN := hSN.keep (zK.set (S := [11]) (ws := ws_8) (q := 11) (e := (z, .inr (8, [.ref nq_8, .ref ro, .ref sa, .int lim, .int sup, .int off, .int plo, .int hrs]))) (List.mem_singleton.mpr rfl)) (fun r9 hr9 => by simp only [List.mem_cons, rg_mem, List.not_mem_nil, or_false, not_or]; omega)
                  have hk := hk.step (zK.set (S := [11]) (ws := ws_8) (q := 11) (e := (z, .inr (8, [.ref nq_8, .ref ro, .ref sa, .int lim, .int sup, .int off, .int plo, .int hrs]))) (List.mem_singleton.mpr rfl)) (fun q9 a9 n9 f9 h8 h7 h9 => by simp only [List.mem_cons, rg_mem, List.not_mem_nil, or_false, not_or]; omega)
                  have G9_0 := zset_ne (q := 11) (e' := (z, .inr (8, [.ref nq_8, .ref ro, .ref sa, .int lim, .int sup, .int off, .int plo, .int hrs]))) (by decide) G8_0
                  have G9_1 := zset_ne (q := 11) (e' := (z, .inr (8, [.ref nq_8, .ref ro, .ref sa, .int lim, .int sup, .int off, .int plo, .int hrs]))) (by decide) G8_1
                  have G9_2 := zset_ne (q := 11) (e' := (z, .inr (8, [.ref nq_8, .ref ro, .ref sa, .int lim, .int sup, .int off, .int plo, .int hrs]))) (by decide) G8_2
                  have G9_3 := zset_ne (q := 11) (e' := (z, .inr (8, [.ref nq_8, .ref ro, .ref sa, .int lim, .int sup, .int off, .int plo, .int hrs]))) (by decide) G8_3
                  have G9_4 := zset_ne (q := 11) (e' := (z, .inr (8, [.ref nq_8, .ref ro, .ref sa, .int lim, .int sup, .int off, .int plo, .int hrs]))) (by decide) G8_4
                  have G9_5 := zset_ne (q := 11) (e' := (z, .inr (8, [.ref nq_8, .ref ro, .ref sa, .int lim, .int sup, .int off, .int plo, .int hrs]))) (by decide) G8_5
                  have G9_6 := zset_ne (q := 11) (e' := (z, .inr (8, [.ref nq_8, .ref ro, .ref sa, .int lim, .int sup, .int off, .int plo, .int hrs]))) (by decide) G8_6
                  have G9_7 := zset_ne (q := 11) (e' := (z, .inr (8, [.ref nq_8, .ref ro, .ref sa, .int lim, .int sup, .int off, .int plo, .int hrs]))) (by decide) G8_7
                  have G9_8 := zset_ne (q := 11) (e' := (z, .inr (8, [.ref nq_8, .ref ro, .ref sa, .int lim, .int sup, .int off, .int plo, .int hrs]))) (by decide) G8_8
                  have G9_9 := zset_ne (q := 11) (e' := (z, .inr (8, [.ref nq_8, .ref ro, .ref sa, .int lim, .int sup, .int off, .int plo, .int hrs]))) (by decide) G8_9
                  have G9_10 := zset_ne (q := 11) (e' := (z, .inr (8, [.ref nq_8, .ref ro, .ref sa, .int lim, .int sup, .int off, .int plo, .int hrs]))) (by decide) G8_10
                  have G9_11 := zset_eq (e' := (z, .inr (8, [.ref nq_8, .ref ro, .ref sa, .int lim, .int sup, .int off, .int plo, .int hrs]))) G8_11
                  have G9_12 := zset_ne (q := 11) (e' := (z, .inr (8, [.ref nq_8, .ref ro, .ref sa, .int lim, .int sup, .int off, .int plo, .int hrs]))) (by decide) G8_12
                  have G9_13 := zset_ne (q := 11) (e' := (z, .inr (8, [.ref nq_8, .ref ro, .ref sa, .int lim, .int sup, .int off, .int plo, .int hrs]))) (by omega) G8_13
                  have G9_14 := zset_ne (q := 11) (e' := (z, .inr (8, [.ref nq_8, .ref ro, .ref sa, .int lim, .int sup, .int off, .int plo, .int hrs]))) (by omega) G8_14
                  have G9_15 := zset_ne (q := 11) (e' := (z, .inr (8, [.ref nq_8, .ref ro, .ref sa, .int lim, .int sup, .int off, .int plo, .int hrs]))) (by omega) G8_15
                  have G9_16 := zset_ne (q := 11) (e' := (z, .inr (8, [.ref nq_8, .ref ro, .ref sa, .int lim, .int sup, .int off, .int plo, .int hrs]))) (by omega) N8_0
                  generalize hws9 : (ws_8.set 11 (z, .inr (8, [.ref nq_8, .ref ro, .ref sa, .int lim, .int sup, .int off, .int plo, .int hrs]))) = ws_9 at J hk G9_0 G9_1 G9_2 G9_3 G9_4 G9_5 G9_6 G9_7 G9_8 G9_9 G9_10 G9_11 G9_12 G9_13 G9_14 G9_15 G9_16 hF hR hSN
                  refine lv_aload_n hx hb dL_act_235 rfl (lv_at hl 4 rfl) ?_
                  refine lv_aload hx hb dL_act_236 (lv_at hl 0 rfl) ?_
                  refine lv_iconst (v := nI 0) hx hb dL_act_238 rfl ?_
                  refine z_iald X J pn_1 G9_15 (vp_in_nI (by omega) (by first | decide | omega)) dL_act_239 ?_
                  refine W.eq (g2 := F0 m 240 ls [.int (nI co), .ref x]) (congrArg (fun z9 : Int32 => F0 m 240 ls [.int z9, .ref x]) (show ((upd (upd (upd (upd (upd (upd (fun _ => 0) 0 (nI co)) 1 (nI rr)) 2 (nI le)) 3 dn) 4 (nI he)) 5 (nI ga)) (nI 0).toNatClampNeg : Int32) = nI co from (by rw [nI_clamp (by omega)]; rfl))) ?_
                  refine lv_aload hx hb dL_act_240 (lv_at hl 0 rfl) ?_
                  refine lv_iconst (v := nI 1) hx hb dL_act_242 rfl ?_
                  refine z_iald X J pn_1 G9_15 (vp_in_nI (by omega) (by first | decide | omega)) dL_act_243 ?_
                  refine W.eq (g2 := F0 m 244 ls [.int (nI rr), .int (nI co), .ref x]) (congrArg (fun z9 : Int32 => F0 m 244 ls [.int z9, .int (nI co), .ref x]) (show ((upd (upd (upd (upd (upd (upd (fun _ => 0) 0 (nI co)) 1 (nI rr)) 2 (nI le)) 3 dn) 4 (nI he)) 5 (nI ga)) (nI 1).toNatClampNeg : Int32) = nI rr from (by rw [nI_clamp (by omega)]; rfl))) ?_
                  refine lv_iload hx hb dL_act_244 (lv_at hl 1 rfl) ?_
                  refine lv_iload hx hb dL_act_246 (lv_at hl 2 rfl) ?_
                  refine lv_aload hx hb dL_act_248 (lv_at hl 0 rfl) ?_
                  refine lv_iconst (v := nI 4) hx hb dL_act_250 rfl ?_
                  refine z_iald X J pn_1 G9_15 (vp_in_nI (by omega) (by first | decide | omega)) dL_act_251 ?_
                  refine W.eq (g2 := F0 m 252 ls [.int (nI he), .int dn, .int (nI le), .int (nI rr), .int (nI co), .ref x]) (congrArg (fun z9 : Int32 => F0 m 252 ls [.int z9, .int dn, .int (nI le), .int (nI rr), .int (nI co), .ref x]) (show ((upd (upd (upd (upd (upd (upd (fun _ => 0) 0 (nI co)) 1 (nI rr)) 2 (nI le)) 3 dn) 4 (nI he)) 5 (nI ga)) (nI 4).toNatClampNeg : Int32) = nI he from (by rw [nI_clamp (by omega)]; rfl))) ?_
                  refine lv_aload hx hb dL_act_252 (lv_at hl 0 rfl) ?_
                  refine lv_iconst (v := nI 5) hx hb dL_act_254 rfl ?_
                  refine z_iald X J pn_1 G9_15 (vp_in_nI (by omega) (by first | decide | omega)) dL_act_255 ?_
                  refine W.eq (g2 := F0 m 256 ls [.int (nI ga), .int (nI he), .int dn, .int (nI le), .int (nI rr), .int (nI co), .ref x]) (congrArg (fun z9 : Int32 => F0 m 256 ls [.int z9, .int (nI he), .int dn, .int (nI le), .int (nI rr), .int (nI co), .ref x]) (show ((upd (upd (upd (upd (upd (upd (fun _ => 0) 0 (nI co)) 1 (nI rr)) 2 (nI le)) 3 dn) 4 (nI he)) 5 (nI ga)) (nI 5).toNatClampNeg : Int32) = nI ga from (by rw [nI_clamp (by omega)]; rfl))) ?_
                  have hJ9 := J.2.1
                  have hR9 := hR
                  rcases hF with ⟨hn0, he0⟩ | ⟨qe, g5, fo9, qf9, sp9, qs9, hFa⟩
                  · subst hn0
                    subst he0
                    have hk0 : kFence (nI co) (nI rr) (nI le) dn (nI he) (nI ga) (nI 0) = 0 := kFence_ok (by omega) (by omega) (by omega) (by omega) (by omega) (by omega) hd9
                    refine z_xi J (z_yV (As := [.int (nI co), .int (nI rr), .int (nI le), .int dn, .int (nI he), .int (nI ga)]) (rest := []) (ci := 7) (q0 := 0) X hRz J (cX6_fence_e_ok l hflags E G9_0 G9_1 hdn) (cwV 6 hts (goodIn_ext2 gL_act_X6_fence) rfl rfl rfl (by decide +kernel) ⟨Nat.le_of_ble_eq_true rfl, Nat.le_of_ble_eq_true rfl⟩) G9_0 rfl rfl rfl hl.1 rfl (Nat.le_of_ble_eq_true rfl) dL_act_256 ⟨by show _ ≤ 20; omega, by show _ ≤ 120; omega⟩) (fun nm ce q9 H locs hp9 J h1 h2 h3 => ?_) (fun r256 ws_10 H locs hp9 J => ?_)
                    · exact False.elim (by rcases hp9 with h9 | h9 | h9 <;> exact absurd (h9.1.symm.trans hk0) (by decide))
                    obtain ⟨k10, ⟨fo_10, sp_10, nq_10, hlen10, G10_a0, N10_0, N10_1, N10_2, e_r256⟩⟩ := hp9
                    have hR := hR.keepS k10 (fun q9 hq9 => Or.inl (by simp only [List.mem_cons, rg_mem, List.not_mem_nil, or_false, not_or] at hq9; omega))
                    have hSN := hSN.keep k10 (fun r9 hr9 => by simp only [List.mem_cons, rg_mem, List.not_mem_nil, or_false, not_or]; omega)
                    have lp10 := hk.1
                    have b_10_0 := zlt G9_0
                    have b_10_1 := zlt G9_1
                    have b_10_2 := zlt G9_2
                    have b_10_3 := zlt G9_3
                    have b_10_4 := zlt G9_4
                    have b_10_5 := zlt G9_5
                    have b_10_6 := zlt G9_6
                    have b_10_7 := zlt G9_7
                    have b_10_8 := zlt G9_8
                    have b_10_9 := zlt G9_9
                    have b_10_10 := zlt G9_10
                    have b_10_11 := zlt G9_11
                    have b_10_12 := zlt G9_12
                    have b_10_13 := zlt G9_13
                    have b_10_14 := zlt G9_14
                    have b_10_15 := zlt G9_15
                    have b_10_16 := zlt G9_16
                    have hk := hk.step k10 (fun q9 a9 n9 f9 h8 h7 h9 => by simp only [List.mem_cons, rg_mem, List.not_mem_nil, or_false, not_or]; omega)
                    have G10_0 := k10.2 0 _ (by decide) G9_0
                    have G10_2 := k10.2 2 _ (by decide) G9_2
                    have G10_3 := k10.2 3 _ (by decide) G9_3
                    have G10_4 := k10.2 4 _ (by decide) G9_4
                    have G10_5 := k10.2 5 _ (by decide) G9_5
                    have G10_6 := k10.2 6 _ (by decide) G9_6
                    have G10_7 := k10.2 7 _ (by decide) G9_7
                    have G10_8 := k10.2 8 _ (by decide) G9_8
                    have G10_9 := k10.2 9 _ (by decide) G9_9
                    have G10_10 := k10.2 10 _ (by decide) G9_10
                    have G10_11 := k10.2 11 _ (by decide) G9_11
                    have G10_12 := k10.2 14 _ (by decide) G9_12
                    have G10_13 := k10.2 qf _ (by simp only [List.mem_cons, List.not_mem_nil, or_false]; omega) G9_13
                    have G10_14 := k10.2 qr _ (by simp only [List.mem_cons, List.not_mem_nil, or_false]; omega) G9_14
                    have G10_15 := k10.2 pn_1 _ (by simp only [List.mem_cons, List.not_mem_nil, or_false]; omega) G9_15
                    have G10_16 := k10.2 pn_8_0 _ (by simp only [List.mem_cons, List.not_mem_nil, or_false]; omega) G9_16
                    obtain ⟨pn_10_0, hpn_10_0⟩ : ∃ z : Nat, z = ws_9.length + 0 := ⟨_, rfl⟩
                    rw [← hpn_10_0] at N10_0
                    obtain ⟨pn_10_1, hpn_10_1⟩ : ∃ z : Nat, z = ws_9.length + 1 := ⟨_, rfl⟩
                    rw [← hpn_10_1] at N10_1
                    obtain ⟨pn_10_2, hpn_10_2⟩ : ∃ z : Nat, z = ws_9.length + 2 := ⟨_, rfl⟩
                    rw [← hpn_10_2] at N10_2
                    refine W.eq (g2 := F0 m 259 ls [.int (nI 0)]) (congrArg (fun z9 : Int32 => F0 m 259 ls [.int z9]) (show (r256 : Int32) = nI 0 from e_r256.2)) ?_
                    refine lv_iload_n hx hb dL_act_259 rfl (lv_at hl 3 rfl) ?_
                    refine lv_icmp_ne (tgt := 267) hx hb dL_act_260 (by decide) (fun cz260 => by exact (cz260 rfl).elim) (fun cz260 => ?_)
                    refine lv_iconst (v := 1) hx hb dL_act_263 (by decide) ?_
                    refine lv_goto (tgt := 268) hx hb dL_act_264 (by decide) ?_
                    refine W.widen (k := 20) (n := 120) (by omega) (by omega) ?_
                    subst hQ
                    exact W.zret (v := 1) hx hb hr rfl (fun t ht hW => ⟨⟨1, ws_10, rfl, ⟨hk, ⟨(mc1 + 1), mc2, lim, sup, off, plo, hrs, nq_10, eb, (0 + 1), nr, nq_8, pn_8_0, ro, qr, (fput fa 0 (nI co) (nI rr) (nI le) dn (nI he) (nI ga)), rd, ri, sn, t9, hf, gf, (wO g 0 q111), gq, G10_0, G10_a0, G10_2, G10_3, G10_4, G10_5, G10_6, G10_7, G10_8, G10_9, G10_10, G10_11, G10_12, G10_16, G10_14, ⟨by omega, by omega⟩, (FS.new (pq := pn_10_2) (pf := pn_10_0) (ps := pn_10_1) hle2 (by omega) N10_2 (by omega) N10_0 (by omega) N10_1), hR, (Or.inl (sep_R hR9 k10 (by decide) J.2.1 hE1 N10_2 (by omega))), ((hSE.keepI hk).add (fb := fput fa 0 (nI co) (nI rr) (nI le) dn (nI he) (nI ga)) G10_15 (by omega) (fun t9 ht9 => f6_put t9 ht9) (fun j9 hj9 => fput_lo hj9)), (hSR.keepI hk), hSN, (by omega), hnr, (okF_add hok hdn hk0).2, hor, hRB, hu9, hlm, (Nat.le_trans hln hk.1)⟩, rfl⟩, J.I X ht hW.alike⟩, J.F ht⟩) J.locs dL_act_268
                  · have hFa : FSa E ws_9 fa ea nf qe g5 fo9 qf9 sp9 qs9 := hFa
                    have hq35 := hFa.1
                    have hk0 : kFence (nI co) (nI rr) (nI le) dn (nI he) (nI ga) (nI nf) = 0 := kFence_ok (by omega) (by omega) (by omega) (by omega) (by omega) (by omega) hd9
                    have hqz13 : qe ≠ qf := zneOA (zK.neOA X.2.1) hFa.2.1 G9_13
                    have hqz14 : qe ≠ qr := zneOA (zK.neOA X.2.1) hFa.2.1 G9_14
                    have hqz15 : qe ≠ pn_1 := zneK hFa.2.1 G9_15 rfl
                    have hqz16 : qe ≠ pn_8_0 := zneOA (zK.neOA X.2.1) hFa.2.1 G9_16
                    refine z_xi J (z_yV (As := [.int (nI co), .int (nI rr), .int (nI le), .int dn, .int (nI he), .int (nI ga)]) (rest := []) (ci := 7) (q0 := 0) X hRz J (cX6_fence_n_ok l hflags E G9_0 G9_1 hFa.2.1 hdn hnf) (cwV 6 hts (goodIn_ext2 gL_act_X6_fence) rfl rfl rfl (by decide +kernel) ⟨Nat.le_of_ble_eq_true rfl, Nat.le_of_ble_eq_true rfl⟩) G9_0 rfl rfl rfl hl.1 rfl (Nat.le_of_ble_eq_true rfl) dL_act_256 ⟨by show _ ≤ 20; omega, by show _ ≤ 120; omega⟩) (fun nm ce q9 H locs hp9 J h1 h2 h3 => ?_) (fun r256 ws_10 H locs hp9 J => ?_)
                    · exact False.elim (by rcases hp9 with h9 | h9 | h9 <;> exact absurd (h9.1.symm.trans hk0) (by decide))
                    obtain ⟨k10, ⟨fo_10, sp_10, hlen10, G10_a0, G10_a1, N10_0, N10_1, e_r256⟩⟩ := hp9
                    have hSN := hSN.keep k10 (fun r9 hr9 => by simp only [List.mem_cons, rg_mem, List.not_mem_nil, or_false, not_or]; omega)
                    have lp10 := hk.1
                    have b_10_0 := zlt G9_0
                    have b_10_1 := zlt G9_1
                    have b_10_2 := zlt G9_2
                    have b_10_3 := zlt G9_3
                    have b_10_4 := zlt G9_4
                    have b_10_5 := zlt G9_5
                    have b_10_6 := zlt G9_6
                    have b_10_7 := zlt G9_7
                    have b_10_8 := zlt G9_8
                    have b_10_9 := zlt G9_9
                    have b_10_10 := zlt G9_10
                    have b_10_11 := zlt G9_11
                    have b_10_12 := zlt G9_12
                    have b_10_13 := zlt G9_13
                    have b_10_14 := zlt G9_14
                    have b_10_15 := zlt G9_15
                    have b_10_16 := zlt G9_16
                    have b_10_17 := zlt hFa.2.1
                    have hk := hk.step k10 (fun q9 a9 n9 f9 h8 h7 h9 => by have z9_0 := zneK h9 hFa.2.1 rfl; simp only [List.mem_cons, rg_mem, List.not_mem_nil, or_false, not_or]; omega)
                    have G10_0 := k10.2 0 _ (by simp only [List.mem_cons, List.not_mem_nil, or_false]; omega) G9_0
                    have G10_2 := k10.2 2 _ (by simp only [List.mem_cons, List.not_mem_nil, or_false]; omega) G9_2
                    have G10_3 := k10.2 3 _ (by simp only [List.mem_cons, List.not_mem_nil, or_false]; omega) G9_3
                    have G10_4 := k10.2 4 _ (by simp only [List.mem_cons, List.not_mem_nil, or_false]; omega) G9_4
                    have G10_5 := k10.2 5 _ (by simp only [List.mem_cons, List.not_mem_nil, or_false]; omega) G9_5
                    have G10_6 := k10.2 6 _ (by simp only [List.mem_cons, List.not_mem_nil, or_false]; omega) G9_6
                    have G10_7 := k10.2 7 _ (by simp only [List.mem_cons, List.not_mem_nil, or_false]; omega) G9_7
                    have G10_8 := k10.2 8 _ (by simp only [List.mem_cons, List.not_mem_nil, or_false]; omega) G9_8
                    have G10_9 := k10.2 9 _ (by simp only [List.mem_cons, List.not_mem_nil, or_false]; omega) G9_9
                    have G10_10 := k10.2 10 _ (by simp only [List.mem_cons, List.not_mem_nil, or_false]; omega) G9_10
                    have G10_11 := k10.2 11 _ (by simp only [List.mem_cons, List.not_mem_nil, or_false]; omega) G9_11
                    have G10_12 := k10.2 14 _ (by simp only [List.mem_cons, List.not_mem_nil, or_false]; omega) G9_12
                    have G10_13 := k10.2 qf _ (by simp only [List.mem_cons, List.not_mem_nil, or_false]; omega) G9_13
                    have G10_14 := k10.2 qr _ (by simp only [List.mem_cons, List.not_mem_nil, or_false]; omega) G9_14
                    have G10_15 := k10.2 pn_1 _ (by simp only [List.mem_cons, List.not_mem_nil, or_false]; omega) G9_15
                    have G10_16 := k10.2 pn_8_0 _ (by simp only [List.mem_cons, List.not_mem_nil, or_false]; omega) G9_16
                    obtain ⟨pn_10_0, hpn_10_0⟩ : ∃ z : Nat, z = ws_9.length + 0 := ⟨_, rfl⟩
                    rw [← hpn_10_0] at N10_0
                    obtain ⟨pn_10_1, hpn_10_1⟩ : ∃ z : Nat, z = ws_9.length + 1 := ⟨_, rfl⟩
                    rw [← hpn_10_1] at N10_1
                    refine W.eq (g2 := F0 m 259 ls [.int (nI nf)]) (congrArg (fun z9 : Int32 => F0 m 259 ls [.int z9]) (show (r256 : Int32) = nI nf from e_r256.2)) ?_
                    refine lv_iload_n hx hb dL_act_259 rfl (lv_at hl 3 rfl) ?_
                    refine lv_icmp_ne (tgt := 267) hx hb dL_act_260 (by decide) (fun cz260 => by exact (cz260 rfl).elim) (fun cz260 => ?_)
                    refine lv_iconst (v := 1) hx hb dL_act_263 (by decide) ?_
                    refine lv_goto (tgt := 268) hx hb dL_act_264 (by decide) ?_
                    refine W.widen (k := 20) (n := 120) (by omega) (by omega) ?_
                    subst hQ
                    exact W.zret (v := 1) hx hb hr rfl (fun t ht hW => ⟨⟨1, ws_10, rfl, ⟨hk, ⟨(mc1 + 1), mc2, lim, sup, off, plo, hrs, ea, eb, (nf + 1), nr, nq_8, pn_8_0, ro, qr, (fput fa nf (nI co) (nI rr) (nI le) dn (nI he) (nI ga)), rd, ri, sn, t9, hf, gf, (wO g nf q111), gq, G10_0, G10_a0, G10_2, G10_3, G10_4, G10_5, G10_6, G10_7, G10_8, G10_9, G10_10, G10_11, G10_12, G10_16, G10_14, ⟨by omega, by omega⟩, (FS.add (pf := pn_10_0) (ps := pn_10_1) hFa hle2 k10 (by intro q9 hq9; simp only [List.mem_cons, List.not_mem_nil, or_false] at hq9; omega) G10_a1 (by omega) N10_0 (by omega) N10_1), (hR9.keepE k10 hFa.2.1 rfl rfl (hSep.ne hJ9 hE1 hFa.2.1) (by intro q9 hq9; simp only [List.mem_cons, List.not_mem_nil, or_false] at hq9; omega)), hSep, ((hSE.keepI hk).add (fb := fput fa nf (nI co) (nI rr) (nI le) dn (nI he) (nI ga)) G10_15 (by omega) (fun t9 ht9 => f6_put t9 ht9) (fun j9 hj9 => fput_lo hj9)), (hSR.keepI hk), hSN, (by omega), hnr, (okF_add hok hdn hk0).2, hor, hRB, hu9, hlm, (Nat.le_trans hln hk.1)⟩, rfl⟩, J.I X ht hW.alike⟩, J.F ht⟩) J.locs dL_act_268
                refine lv_iconst (v := nI 1) hx hb dL_act_182 rfl ?_
                refine lv_iload_n hx hb dL_act_183 rfl (lv_at hl 5 rfl) ?_
                refine lv_bipush (v := 6) hx hb dL_act_184 (by decide) ?_
                refine lv_ishr hx hb dL_act_186 ?_
                refine lv_iload_n hx hb dL_act_187 rfl (lv_at hl 5 rfl) ?_
                refine lv_bipush (v := 9) hx hb dL_act_188 (by decide) ?_
                refine lv_ishr hx hb dL_act_190 ?_
                refine lv_iconst (v := nI 3) hx hb dL_act_191 rfl ?_
                refine z_cr (z_rS (As := [.int (xv >>> (9 &&& 31)), .int (nI 3)]) (rest := [.int (xv >>> (6 &&& 31)), .int (nI 1), .int (nI 4), .ref q111, .ref q111]) X J (cL_below_ok l E (by first | assumption | omega | decide) (by first | assumption | omega | decide)) (va_cwS 2 hts (goodIn_ext2 gL_act_L_below) rfl rfl rfl (by decide +kernel) ⟨Nat.le_of_ble_eq_true rfl, Nat.le_of_ble_eq_true rfl⟩) rfl hl.1 rfl (Nat.le_of_ble_eq_true rfl) dL_act_192 ⟨Nat.le_of_ble_eq_true rfl, Nat.le_of_ble_eq_true rfl⟩) (fun r192 e_r192 => ?_)
                subst e_r192
                refine lv_if_ne (tgt := 203) hx hb dL_act_195 (by decide) (fun cz195 => ?_) (fun cz195 => ?_)
                · refine lv_iconst (v := nI 4) hx hb dL_act_203 rfl ?_
                  refine z_cr (z_rS (As := [.int (xv >>> (6 &&& 31)), .int (nI 4)]) (rest := [.int (nI 1), .int (nI 4), .ref q111, .ref q111]) X J (cL_below_ok l E (by first | assumption | omega | decide) (by first | assumption | omega | decide)) (va_cwS 2 hts (goodIn_ext2 gL_act_L_below) rfl rfl rfl (by decide +kernel) ⟨Nat.le_of_ble_eq_true rfl, Nat.le_of_ble_eq_true rfl⟩) rfl hl.1 rfl (Nat.le_of_ble_eq_true rfl) dL_act_204 ⟨Nat.le_of_ble_eq_true rfl, Nat.le_of_ble_eq_true rfl⟩) (fun r204 e_r204 => ?_)
                  subst e_r204
                  obtain ⟨h5, hh5⟩ : ∃ q9 : Nat, q9 = 1 + bln (xv >>> (6 &&& 31)) 4 := ⟨_, rfl⟩
                  have bh5 := bln_lt (v := xv >>> (6 &&& 31)) (n := 4) (by decide)
                  refine lv_iadd hx hb dL_act_207 ?_
                  refine W.eq (g2 := F0 m 208 ls [.int (nI h5), .int (nI 4), .ref q111, .ref q111]) (congrArg (fun z9 : Int32 => F0 m 208 ls [.int z9, .int (nI 4), .ref q111, .ref q111]) (show ((nI 1) + (nI (bln (xv >>> (6 &&& 31)) 4)) : Int32) = nI h5 from (by rw [nI_add, hh5]))) ?_
                  exact join_208 _ h5 (⟨by omega, by omega⟩) (lv_sub hl [0, 1, 2, 3, 4, 5] rfl)
                · refine lv_bipush (v := nI 9) hx hb dL_act_198 (by decide) ?_
                  refine lv_goto (tgt := 204) hx hb dL_act_200 (by decide) ?_
                  refine z_cr (z_rS (As := [.int (xv >>> (6 &&& 31)), .int (nI 9)]) (rest := [.int (nI 1), .int (nI 4), .ref q111, .ref q111]) X J (cL_below_ok l E (by first | assumption | omega | decide) (by first | assumption | omega | decide)) (va_cwS 2 hts (goodIn_ext2 gL_act_L_below) rfl rfl rfl (by decide +kernel) ⟨Nat.le_of_ble_eq_true rfl, Nat.le_of_ble_eq_true rfl⟩) rfl hl.1 rfl (Nat.le_of_ble_eq_true rfl) dL_act_204 ⟨Nat.le_of_ble_eq_true rfl, Nat.le_of_ble_eq_true rfl⟩) (fun r204 e_r204 => ?_)
                  subst e_r204
                  obtain ⟨h5, hh5⟩ : ∃ q9 : Nat, q9 = 1 + bln (xv >>> (6 &&& 31)) 9 := ⟨_, rfl⟩
                  have bh5 := bln_lt (v := xv >>> (6 &&& 31)) (n := 9) (by decide)
                  refine lv_iadd hx hb dL_act_207 ?_
                  refine W.eq (g2 := F0 m 208 ls [.int (nI h5), .int (nI 4), .ref q111, .ref q111]) (congrArg (fun z9 : Int32 => F0 m 208 ls [.int z9, .int (nI 4), .ref q111, .ref q111]) (show ((nI 1) + (nI (bln (xv >>> (6 &&& 31)) 9)) : Int32) = nI h5 from (by rw [nI_add, hh5]))) ?_
                  exact join_208 _ h5 (⟨by omega, by omega⟩) (lv_sub hl [0, 1, 2, 3, 4, 5] rfl)
              refine lv_iload hx hb dL_act_169 (lv_at hl 1 rfl) ?_
              refine lv_if_eq (tgt := 178) hx hb dL_act_171 (by decide) (fun cz171 => ?_) (fun cz171 => ?_)
              · refine lv_iconst (v := 0) hx hb dL_act_178 (by decide) ?_
                refine W.eq (g2 := F0 m 179 ls [.int dn, .int (nI 3), .ref q111, .ref q111]) (congrArg (fun z9 : Int32 => F0 m 179 ls [.int z9, .int (nI 3), .ref q111, .ref q111]) (show (0 : Int32) = dn from (is01_0 hdn cz171))) ?_
                exact join_179 _ (lv_sub hl [0, 1, 2, 3, 4, 5] rfl)
              · refine lv_iconst (v := 1) hx hb dL_act_174 (by decide) ?_
                refine W.eq (g2 := F0 m 175 ls [.int dn, .int (nI 3), .ref q111, .ref q111]) (congrArg (fun z9 : Int32 => F0 m 175 ls [.int z9, .int (nI 3), .ref q111, .ref q111]) (show (1 : Int32) = dn from (is01_1 hdn cz171))) ?_
                refine lv_goto (tgt := 179) hx hb dL_act_175 (by decide) ?_
                exact join_179 _ (lv_sub hl [0, 1, 2, 3, 4, 5] rfl)
            refine lv_iload hx hb dL_act_143 (lv_at hl 1 rfl) ?_
            refine lv_if_eq (tgt := 156) hx hb dL_act_145 (by decide) (fun cz145 => ?_) (fun cz145 => ?_)
            · refine lv_bipush (v := nI 20) hx hb dL_act_156 (by decide) ?_
              exact join_158 _ 20 (Or.inl ⟨cz145, rfl⟩) (lv_sub hl [0, 1, 2, 3, 4, 5] rfl)
            · refine lv_bipush (v := nI 21) hx hb dL_act_148 (by decide) ?_
              refine lv_iload hx hb dL_act_150 (lv_at hl 0 rfl) ?_
              refine lv_isub hx hb dL_act_152 ?_
              refine W.eq (g2 := F0 m 153 ls [.int (nI (21 - le)), .int (xv >>> (7 &&& 31)), .int (nI 1), .ref q111, .ref q111]) (congrArg (fun z9 : Int32 => F0 m 153 ls [.int z9, .int (xv >>> (7 &&& 31)), .int (nI 1), .ref q111, .ref q111]) (show ((nI 21) - (nI le) : Int32) = nI (21 - le) from (pk_sub (by omega)))) ?_
              refine lv_goto (tgt := 158) hx hb dL_act_153 (by decide) ?_
              exact join_158 _ (21 - le) (Or.inr ⟨(is01_1 hdn cz145).symm, by omega⟩) (lv_sub hl [0, 1, 2, 3, 4, 5] rfl)
          refine lv_iload hx hb dL_act_118 (lv_at hl 1 rfl) ?_
          refine lv_if_eq (tgt := 128) hx hb dL_act_120 (by decide) (fun cz120 => ?_) (fun cz120 => ?_)
          · refine lv_bipush (v := nI 21) hx hb dL_act_128 (by decide) ?_
            refine lv_iload hx hb dL_act_130 (lv_at hl 0 rfl) ?_
            refine lv_isub hx hb dL_act_132 ?_
            refine W.eq (g2 := F0 m 133 ls [.int (nI (21 - le)), .int (xv >>> (5 &&& 31)), .int (nI 0), .ref q111, .ref q111]) (congrArg (fun z9 : Int32 => F0 m 133 ls [.int z9, .int (xv >>> (5 &&& 31)), .int (nI 0), .ref q111, .ref q111]) (show ((nI 21) - (nI le) : Int32) = nI (21 - le) from (pk_sub (by omega)))) ?_
            exact join_133 _ (21 - le) (Or.inl ⟨cz120, by omega⟩) (lv_sub hl [0, 1, 2, 3, 4, 5] rfl)
          · refine lv_bipush (v := nI 20) hx hb dL_act_123 (by decide) ?_
            refine lv_goto (tgt := 133) hx hb dL_act_125 (by decide) ?_
            exact join_133 _ 20 (Or.inr ⟨(is01_1 hdn cz120).symm, rfl⟩) (lv_sub hl [0, 1, 2, 3, 4, 5] rfl)
        refine lv_iload_n hx hb dL_act_80 rfl (lv_at hl 3 rfl) ?_
        refine lv_iconst (v := 3) hx hb dL_act_81 (by decide) ?_
        refine lv_ishr hx hb dL_act_82 ?_
        refine lv_iconst (v := nI 2) hx hb dL_act_83 rfl ?_
        refine z_cr (z_rS (As := [.int (xv >>> (3 &&& 31)), .int (nI 2)]) (rest := []) X J (cL_below_ok l E (by first | assumption | omega | decide) (by first | assumption | omega | decide)) (va_cwS 2 hts (goodIn_ext2 gL_act_L_below) rfl rfl rfl (by decide +kernel) ⟨Nat.le_of_ble_eq_true rfl, Nat.le_of_ble_eq_true rfl⟩) rfl hl.1 rfl (Nat.le_of_ble_eq_true rfl) dL_act_84 ⟨Nat.le_of_ble_eq_true rfl, Nat.le_of_ble_eq_true rfl⟩) (fun r84 e_r84 => ?_)
        subst e_r84
        refine lv_if_ne (tgt := 94) hx hb dL_act_87 (by decide) (fun cz87 => ?_) (fun cz87 => ?_)
        · refine lv_iconst (v := 0) hx hb dL_act_94 (by decide) ?_
          exact join_95 _ 0 (Or.inl rfl) (lv_sub hl [0, 1, 2, 3] rfl)
        · refine lv_iconst (v := 1) hx hb dL_act_90 (by decide) ?_
          refine lv_goto (tgt := 95) hx hb dL_act_91 (by decide) ?_
          exact join_95 _ 1 (Or.inr rfl) (lv_sub hl [0, 1, 2, 3] rfl)
      · refine lv_iconst (v := 1) hx hb dL_act_78 (by decide) ?_
        refine W.widen (k := 20) (n := 120) (by omega) (by omega) ?_
        subst hQ
        exact W.zret (v := 1) hx hb hr rfl (fun t ht hW => ⟨⟨1, ws, rfl, ⟨hk, ⟨mc1, mc2, lim, sup, off, plo, hrs, ea, eb, nf, nr, fe, qf, ro, qr, fa, rd, ri, sn, t9, hf, gf, g, gq, Fa0, Fa1, Fa2, Fa3, Fa4, Fa5, Fa6, Fa7, Fa8, Fa9, Fa10, Fa11, Fa12, Fa13, Fa14, ⟨by omega, by omega⟩, hF, hR, hSep, (hSE.keepI hk), (hSR.keepI hk), hSN, hnf, hnr, hok, hor, hRB, hu9, hlm, (Nat.le_trans hln hk.1)⟩, rfl⟩, J.I X ht hW.alike⟩, J.F ht⟩) J.locs dL_act_79
    refine lv_tableIn (off := 60) (tgt := 72) hx hb dL_act_12 (by decide) (by decide) (by decide) (by decide) ?_
    exact join_72 _ (lv_sub hl [0, 1, 2, 3] rfl)
