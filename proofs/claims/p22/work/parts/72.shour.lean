set_option maxHeartbeats 400000 in
set_option maxRecDepth 100000 in
theorem cX7_hour_ok (l : Launch) (E : zG) {ws : va_W} {qz z fe ro sa : Nat} {lim sup off plo hrs : Int32} {qs b : Nat} {gs : Nat → Option Nat} {sn : Nat → Int32} {qf nf : Nat} {g : Nat → Option Nat} {fa : Nat → Int32} {wd stg : Int32} (Fa0 : ws[qz]? = some (z, .inr (8, [.ref fe, .ref ro, .ref sa, .int lim, .int sup, .int off, .int plo, .int hrs]))) (Fa1 : ws[qs]? = some (sa, zA4 E 20 gs)) (Fa2 : ws[qf]? = some (fe, zA4 E nf g)) (hSN : SN E ws b gs sn) (hSE : SE E ws g nf fa) (hnf : nf ≤ 11) (hok : ∀ j, j < nf → okF fa j) (hwd : wd = 0 ∨ wd = 1 ∨ wd = 2 ∨ wd = 3) (hRB : RB 200 sn) (hs9 : BI 1 9 stg) (hu9 : BI 0 40 sup) : Met l yX7_hour wsX7_hour ({ frames := 2, cells := 1660, slots := 3200, locals := 47 } : Room) (va_Pc [.ref z, .int wd, .int stg] (zI E ws)) (va_Qi (fun (r : Int32) (ws' : va_W) => (zK (rg b) ws ws') ∧ (SN E ws' b gs (hrS stg sup (hgS fa (-1) nf).1 (hgS fa (-1) nf).2 wd sn 20).2.1) ∧ (r = (hrS stg sup (hgS fa (-1) nf).1 (hgS fa (-1) nf).2 wd sn 20).1)) (zI E) (zA E)) 1660 3200 (zA E) := by
  refine Met.ofW (cc := cX7_hour) (maxL := 9) (ret := (some .int)) (by decide) rfl ?_
  intro p e s m args below meth c s₁ B hml hv
  obtain ⟨hargs9, hI⟩ := hv
  have hx := B.exec
  have hb := B.bytes
  have hr := B.returns
  have hlocks := B.notSynchronized
  have X : zC E p m c cX7_hour 9 s args wsX7_hour RX7 := z_open B hml hI
  have hown := X.1.2.2.2.1
  have hts := X.1.2.2.2.2
  have J := hI.J
  have hi_X7 : ∀ w ∈ wsX70, w ∈ wsX7_hour := by decide +kernel
  have n0_1 : qz ≠ qs := zneK Fa0 Fa1 rfl
  have n0_2 : qz ≠ qf := zneK Fa0 Fa2 rfl
  have hk : zK (rg b) ws ws := zK.rf
  have hl := lv_entry ([.ref z, .int wd, .int stg]) (n := 9) (Nat.le_of_ble_eq_true rfl)
  rw [show entryFrame m args 9 = entryFrame m ([.ref z, .int wd, .int stg] : List Value).toArray 9 from by rw [hargs9], lg_entry_eq]
  generalize (lg_sl ([.ref z, .int wd, .int stg]) ++ List.replicate (9 - (lg_sl ([.ref z, .int wd, .int stg])).length) Slot.unset).toArray = ls at hl ⊢
  have hl : lv_has ls 9 [(0, .ref z), (1, .int wd), (2, .int stg)] := hl
  have hbl := hSN.len
  have hb0 := hSN.no Fa0 rfl
  have hb1 := hSN.no Fa1 rfl
  have hb2 := hSN.no Fa2 rfl
  have hhR := hgS_RB (wo := -1) nf hok
  have hsn9 := fun i9 : Nat => hrS_I (gf := (hgS fa (-1) nf).2) (wd := wd) hs9 hu9 hhR hRB i9
  generalize hQ : (MQ below (va_Qi (fun (r : Int32) (ws' : va_W) => (zK (rg b) ws ws') ∧ (SN E ws' b gs (hrS stg sup (hgS fa (-1) nf).1 (hgS fa (-1) nf).2 wd sn 20).2.1) ∧ (r = (hrS stg sup (hgS fa (-1) nf).1 (hgS fa (-1) nf).2 wd sn 20).1)) (zI E) (zA E)) args s 1660 3200 (zA E)) = QQ
  refine lv_iconst (v := (hrS stg sup (hgS fa (-1) nf).1 (hgS fa (-1) nf).2 wd sn 0).1) hx hb dX7_hour_0 rfl ?_
  refine lv_istore_n (lv' := [(3, .int ((hrS stg sup (hgS fa (-1) nf).1 (hgS fa (-1) nf).2 wd sn 0).1)), (0, .ref z), (1, .int wd), (2, .int stg)]) hx hb dX7_hour_1 rfl hl (by decide) rfl (fun ls hl => ?_)
  refine lv_iconst (v := nI 0) hx hb dX7_hour_2 rfl ?_
  refine lv_istore (lv' := [(4, .int (nI 0)), (3, .int ((hrS stg sup (hgS fa (-1) nf).1 (hgS fa (-1) nf).2 wd sn 0).1)), (0, .ref z), (1, .int wd), (2, .int stg)]) hx hb dX7_hour_3 hl (by decide) rfl (fun ls hl => ?_)
  have loop_5 : ∀ (k9 i : Nat), i + k9 = 20 → ∀ (wl5 : va_W) (H : Heap) (locs : List Loc) (ls : Array Slot), zK (rg b) ws wl5 → wl5[qz]? = some (z, .inr (8, [.ref fe, .ref ro, .ref sa, .int lim, .int sup, .int off, .int plo, .int hrs])) → wl5[qs]? = some (sa, zA4 E 20 gs) → wl5[qf]? = some (fe, zA4 E nf g) → SE E wl5 g nf fa → SN E wl5 b gs (hrS stg sup (hgS fa (-1) nf).1 (hgS fa (-1) nf).2 wd sn i).2.1 → zJ E wl5 s H locs → lv_has ls 9 [(4, .int (nI i)), (3, .int ((hrS stg sup (hgS fa (-1) nf).1 (hgS fa (-1) nf).2 wd sn i).1)), (0, .ref z), (1, .int wd), (2, .int stg)] → W p l e (headSpec wsX7_hour ({ frames := 2, cells := 1660, slots := 3200, locals := 47 } : Room)).room s m args below meth c H locs (83 * i) (160 * i) QQ (F0 m 5 ls []) := by
    intro k9
    induction k9 with
    | zero =>
      intro i hik wl5 H locs ls hk L5_0 L5_1 L5_2 hSE hSN J hl
      obtain rfl : 20 = i := by omega
      refine lv_iload hx hb dX7_hour_5 (lv_at hl 0 rfl) ?_
      refine lv_bipush (v := nI 20) hx hb dX7_hour_7 (by decide) ?_
      refine lv_icmp_ge (tgt := 155) hx hb dX7_hour_9 (by decide) (fun cz9 => ?_) (fun cz9 => by exact (cz9 (nI_le (Nat.le_refl _) (by omega))).elim)
      refine lv_iload_n hx hb dX7_hour_155 rfl (lv_at hl 1 rfl) ?_
      refine W.widen (k := 1660) (n := 3200) (by omega) (by omega) ?_
      subst hQ
      exact W.iret (v := (hrS stg sup (hgS fa (-1) nf).1 (hgS fa (-1) nf).2 wd sn 20).1) hx hb hr (fun t ht hW => ⟨⟨(hrS stg sup (hgS fa (-1) nf).1 (hgS fa (-1) nf).2 wd sn 20).1, wl5, rfl, ⟨hk, hSN, rfl⟩, J.I X ht hW.alike⟩, J.F ht⟩) J.locs dX7_hour_156
    | succ k9 ih_5 =>
      intro i hik wl5 H locs ls hk L5_0 L5_1 L5_2 hSE hSN J hl
      refine lv_iload hx hb dX7_hour_5 (lv_at hl 0 rfl) ?_
      refine lv_bipush (v := nI 20) hx hb dX7_hour_7 (by decide) ?_
      refine lv_icmp_ge (tgt := 155) hx hb dX7_hour_9 (by decide) (fun cz9 => by exact (nI_ge (by omega) (by omega) cz9).elim) (fun cz9 => ?_)
      refine lv_bipush (v := 20) hx hb dX7_hour_12 (by decide) ?_
      refine z_newa (N' := 20) X J (by decide +kernel) (by decide) (by decide) (Nat.le_of_ble_eq_true rfl) (by show _ ≤ 1660; omega) (by show _ ≤ 3200; omega) dX7_hour_14 (fun q14 H J => ?_)
      have hSE := hSE.keep (zK.app (S := []) (ws := wl5) (more := [(q14, zI4 E 20 (fun _ => 0))])) (fun _ _ _ _ _ => List.not_mem_nil)
      have hSN := hSN.keep (zK.app (S := []) (ws := wl5) (more := [(q14, zI4 E 20 (fun _ => 0))])) (fun _ _ => List.not_mem_nil)
      have lp1 := hk.1
      have hk := hk.trans (zK.app (more := [(q14, zI4 E 20 (fun _ => 0))]))
      have bG1_0 := zlt L5_0
      have G1_0 := zapp (x := (q14, zI4 E 20 (fun _ => 0))) L5_0
      have bG1_1 := zlt L5_1
      have G1_1 := zapp (x := (q14, zI4 E 20 (fun _ => 0))) L5_1
      have bG1_2 := zlt L5_2
      have G1_2 := zapp (x := (q14, zI4 E 20 (fun _ => 0))) L5_2
      have G1_n := zapp_new (ws := wl5) (x := (q14, zI4 E 20 (fun _ => 0)))
      generalize hws1 : wl5 ++ [(q14, zI4 E 20 (fun _ => 0))] = ws_1 at J hk G1_0 G1_1 G1_2 hSE hSN G1_n
      generalize hpn1 : wl5.length = pn_1 at G1_n lp1 bG1_0 bG1_1 bG1_2
      refine lv_astore (lv' := [(5, .ref q14), (4, .int (nI i)), (3, .int ((hrS stg sup (hgS fa (-1) nf).1 (hgS fa (-1) nf).2 wd sn i).1)), (0, .ref z), (1, .int wd), (2, .int stg)]) hx hb dX7_hour_16 hl (by decide) rfl (fun ls hl => ?_)
      refine lv_bipush (v := 20) hx hb dX7_hour_18 (by decide) ?_
      refine z_newqA (N' := 20) X J (by decide +kernel) (by decide) (by decide) (Nat.le_of_ble_eq_true rfl) (by show _ ≤ 1660; omega) (by show _ ≤ 3200; omega) dX7_hour_20 (fun q20 H J => ?_)
      have hSE := hSE.keep (zK.app (S := []) (ws := ws_1) (more := [(q20, zA4 E 20 (fun _ => none))])) (fun _ _ _ _ _ => List.not_mem_nil)
      have hSN := hSN.keep (zK.app (S := []) (ws := ws_1) (more := [(q20, zA4 E 20 (fun _ => none))])) (fun _ _ => List.not_mem_nil)
      have lp2 := hk.1
      have hk := hk.trans (zK.app (more := [(q20, zA4 E 20 (fun _ => none))]))
      have bG2_0 := zlt G1_0
      have G2_0 := zapp (x := (q20, zA4 E 20 (fun _ => none))) G1_0
      have bG2_1 := zlt G1_1
      have G2_1 := zapp (x := (q20, zA4 E 20 (fun _ => none))) G1_1
      have bG2_2 := zlt G1_2
      have G2_2 := zapp (x := (q20, zA4 E 20 (fun _ => none))) G1_2
      have bG2_3 := zlt G1_n
      have G2_3 := zapp (x := (q20, zA4 E 20 (fun _ => none))) G1_n
      have G2_n := zapp_new (ws := ws_1) (x := (q20, zA4 E 20 (fun _ => none)))
      generalize hws2 : ws_1 ++ [(q20, zA4 E 20 (fun _ => none))] = ws_2 at J hk G2_0 G2_1 G2_2 G2_3 hSE hSN G2_n
      generalize hpn2 : ws_1.length = pn_2 at G2_n lp2 bG2_0 bG2_1 bG2_2 bG2_3
      refine lv_astore (lv' := [(6, .ref q20), (5, .ref q14), (4, .int (nI i)), (3, .int ((hrS stg sup (hgS fa (-1) nf).1 (hgS fa (-1) nf).2 wd sn i).1)), (0, .ref z), (1, .int wd), (2, .int stg)]) hx hb dX7_hour_23 hl (by decide) rfl (fun ls hl => ?_)
      refine lv_iconst (v := nI 0) hx hb dX7_hour_25 rfl ?_
      refine lv_istore (lv' := [(7, .int (nI 0)), (6, .ref q20), (5, .ref q14), (4, .int (nI i)), (3, .int ((hrS stg sup (hgS fa (-1) nf).1 (hgS fa (-1) nf).2 wd sn i).1)), (0, .ref z), (1, .int wd), (2, .int stg)]) hx hb dX7_hour_26 hl (by decide) rfl (fun ls hl => ?_)
      have loop_28 : ∀ (k9 k : Nat) (gt : Nat → Option Nat), k + k9 = 20 → ∀ (wl28 : va_W) (H : Heap) (locs : List Loc) (ls : Array Slot), zK (rg b) ws wl28 → wl28[qz]? = some (z, .inr (8, [.ref fe, .ref ro, .ref sa, .int lim, .int sup, .int off, .int plo, .int hrs])) → wl28[qs]? = some (sa, zA4 E 20 gs) → wl28[qf]? = some (fe, zA4 E nf g) → wl28[pn_1]? = some (q14, zI4 E 20 (lnV (hrS stg sup (hgS fa (-1) nf).1 (hgS fa (-1) nf).2 wd sn i).2.1 wd i k)) → wl28[pn_2]? = some (q20, zA4 E 20 gt) → TK E wl28 pn_1 gt (lnV (hgS fa (-1) nf).1 wd i 20) (lnV (hgS fa (-1) nf).2 wd i 20) k → SE E wl28 g nf fa → SN E wl28 b gs (hrS stg sup (hgS fa (-1) nf).1 (hgS fa (-1) nf).2 wd sn i).2.1 → zJ E wl28 s H locs → lv_has ls 9 [(7, .int (nI k)), (6, .ref q20), (5, .ref q14), (4, .int (nI i)), (3, .int ((hrS stg sup (hgS fa (-1) nf).1 (hgS fa (-1) nf).2 wd sn i).1)), (0, .ref z), (1, .int wd), (2, .int stg)] → W p l e (headSpec wsX7_hour ({ frames := 2, cells := 1660, slots := 3200, locals := 47 } : Room)).room s m args below meth c H locs (83 * i + 2 + 2 * k) (160 * i + 40 + 2 * k) QQ (F0 m 28 ls []) := by
        intro k9
        induction k9 with
        | zero =>
          intro k gt hik wl28 H locs ls hk L28_0 L28_1 L28_2 L28_3 L28_4 hTK hSE hSN J hl
          obtain rfl : 20 = k := by omega
          refine lv_iload hx hb dX7_hour_28 (lv_at hl 0 rfl) ?_
          refine lv_bipush (v := nI 20) hx hb dX7_hour_30 (by decide) ?_
          refine lv_icmp_ge (tgt := 87) hx hb dX7_hour_32 (by decide) (fun cz32 => ?_) (fun cz32 => by exact (cz32 (nI_le (Nat.le_refl _) (by omega))).elim)
          refine lv_iload_n hx hb dX7_hour_87 rfl (lv_at hl 4 rfl) ?_
          refine lv_aload hx hb dX7_hour_88 (lv_at hl 2 rfl) ?_
          refine lv_aload hx hb dX7_hour_90 (lv_at hl 1 rfl) ?_
          refine lv_aload_n hx hb dX7_hour_92 rfl (lv_at hl 5 rfl) ?_
          refine z_get (C := RX7) (T := TX7) (N := 8) (ci := 8) (v := .int sup) X J hi_X7 qz L28_0 rfl 4 (by decide) (by decide +kernel) rfl dX7_hour_93 ?_
          refine lv_iload_n hx hb dX7_hour_96 rfl (lv_at hl 7 rfl) ?_
          refine z_ci J (z_rS (As := [.ref q14, .ref q20, .int sup, .int stg]) (rest := [.int ((hrS stg sup (hgS fa (-1) nf).1 (hgS fa (-1) nf).2 wd sn i).1)]) X J (cX7_over_ok l E (hf := (lnV (hgS fa (-1) nf).1 wd i 20)) (gf := (lnV (hgS fa (-1) nf).2 wd i 20)) L28_3 L28_4 hTK (lnV_RB (hsn9 i) (by decide) (by omega)) (lnV_RB hhR (by decide) (by omega)) hs9 hu9) (va_cwS 4 hts gX7_hour_X7_over rfl rfl rfl (by decide +kernel) ⟨Nat.le_of_ble_eq_true rfl, Nat.le_of_ble_eq_true rfl⟩) rfl hl.1 rfl (Nat.le_of_ble_eq_true rfl) dX7_hour_97 ⟨by show _ ≤ 1660; omega, by show _ ≤ 3200; omega⟩) (fun r97 ws_3 H locs hp9 J => ?_)
          obtain ⟨k3, G3_a0, e_r97⟩ := hp9
          have hSE := hSE.keep k3 (fun q9 a9 f9 h8 h9 => by have z9_0 := zneL (by decide) h9 L28_3; simp only [List.mem_cons, rg_mem, List.not_mem_nil, or_false, not_or]; omega)
          have hSN := hSN.keep k3 (fun r9 hr9 => by simp only [List.mem_cons, rg_mem, List.not_mem_nil, or_false, not_or]; omega)
          have hTK := hTK.keep k3 (fun q9 a9 m9 f9 h8 h9 => by simp only [List.mem_cons, rg_mem, List.not_mem_nil, or_false, not_or]; omega)
          have hk := hk.transN k3 (by intro q9 hq9; simp only [List.mem_cons, rg_mem, List.not_mem_nil, or_false, not_or] at hq9 ⊢; omega)
          have G3_0 := k3.2 qz _ (by simp only [List.mem_cons, List.not_mem_nil, or_false]; omega) L28_0
          have G3_1 := k3.2 qs _ (by simp only [List.mem_cons, List.not_mem_nil, or_false]; omega) L28_1
          have G3_2 := k3.2 qf _ (by simp only [List.mem_cons, List.not_mem_nil, or_false]; omega) L28_2
          have G3_4 := k3.2 pn_2 _ (by simp only [List.mem_cons, List.not_mem_nil, or_false]; omega) L28_4
          rw [e_r97]
          refine lv_iadd hx hb dX7_hour_100 ?_
          refine W.eq (g2 := F0 m 101 ls [.int ((hrS stg sup (hgS fa (-1) nf).1 (hgS fa (-1) nf).2 wd sn (i + 1)).1)]) (congrArg (fun z9 : Int32 => F0 m 101 ls [.int z9]) (show (((hrS stg sup (hgS fa (-1) nf).1 (hgS fa (-1) nf).2 wd sn i).1) + ((ovP stg (lnV (hgS fa (-1) nf).1 wd i 20) (lnV (hgS fa (-1) nf).2 wd i 20) (lnV (hrS stg sup (hgS fa (-1) nf).1 (hgS fa (-1) nf).2 wd sn i).2.1 wd i 20) sup 20).2.1) : Int32) = (hrS stg sup (hgS fa (-1) nf).1 (hgS fa (-1) nf).2 wd sn (i + 1)).1 from (hour_1 hwd (by omega)))) ?_
          refine lv_istore_n (lv' := [(3, .int ((hrS stg sup (hgS fa (-1) nf).1 (hgS fa (-1) nf).2 wd sn (i + 1)).1)), (7, .int (nI 20)), (6, .ref q20), (5, .ref q14), (4, .int (nI i)), (0, .ref z), (1, .int wd), (2, .int stg)]) hx hb dX7_hour_101 rfl hl (by decide) rfl (fun ls hl => ?_)
          refine lv_iconst (v := nI 0) hx hb dX7_hour_102 rfl ?_
          refine lv_istore (lv' := [(7, .int (nI 0)), (3, .int ((hrS stg sup (hgS fa (-1) nf).1 (hgS fa (-1) nf).2 wd sn (i + 1)).1)), (6, .ref q20), (5, .ref q14), (4, .int (nI i)), (0, .ref z), (1, .int wd), (2, .int stg)]) hx hb dX7_hour_103 hl (by decide) rfl (fun ls hl => ?_)
          have loop_105 : ∀ (k9 k : Nat), k + k9 = 20 → ∀ (wl105 : va_W) (H : Heap) (locs : List Loc) (ls : Array Slot), zK (rg b) ws wl105 → wl105[qz]? = some (z, .inr (8, [.ref fe, .ref ro, .ref sa, .int lim, .int sup, .int off, .int plo, .int hrs])) → wl105[qs]? = some (sa, zA4 E 20 gs) → wl105[qf]? = some (fe, zA4 E nf g) → wl105[pn_1]? = some (q14, zI4 E 20 ((ovP stg (lnV (hgS fa (-1) nf).1 wd i 20) (lnV (hgS fa (-1) nf).2 wd i 20) (lnV (hrS stg sup (hgS fa (-1) nf).1 (hgS fa (-1) nf).2 wd sn i).2.1 wd i 20) sup 20).1)) → wl105[pn_2]? = some (q20, zA4 E 20 gt) → SE E wl105 g nf fa → SN E wl105 b gs (wbF (hrS stg sup (hgS fa (-1) nf).1 (hgS fa (-1) nf).2 wd sn i).2.1 (ovP stg (lnV (hgS fa (-1) nf).1 wd i 20) (lnV (hgS fa (-1) nf).2 wd i 20) (lnV (hrS stg sup (hgS fa (-1) nf).1 (hgS fa (-1) nf).2 wd sn i).2.1 wd i 20) sup 20).1 wd i k) → zJ E wl105 s H locs → lv_has ls 9 [(7, .int (nI k)), (3, .int ((hrS stg sup (hgS fa (-1) nf).1 (hgS fa (-1) nf).2 wd sn (i + 1)).1)), (6, .ref q20), (5, .ref q14), (4, .int (nI i)), (0, .ref z), (1, .int wd), (2, .int stg)] → W p l e (headSpec wsX7_hour ({ frames := 2, cells := 1660, slots := 3200, locals := 47 } : Room)).room s m args below meth c H locs (83 * i + 43 + 2 * k) (160 * i + 80 + 4 * k) QQ (F0 m 105 ls []) := by
            intro k9
            induction k9 with
            | zero =>
              intro k hik wl105 H locs ls hk L105_0 L105_1 L105_2 L105_3 L105_4 hSE hSN J hl
              obtain rfl : 20 = k := by omega
              refine lv_iload hx hb dX7_hour_105 (lv_at hl 0 rfl) ?_
              refine lv_bipush (v := nI 20) hx hb dX7_hour_107 (by decide) ?_
              refine lv_icmp_ge (tgt := 149) hx hb dX7_hour_109 (by decide) (fun cz109 => ?_) (fun cz109 => by exact (cz109 (nI_le (Nat.le_refl _) (by omega))).elim)
              refine lv_iinc (v := nI (i + 1)) (lv' := [(4, .int (nI (i + 1))), (7, .int (nI 20)), (3, .int ((hrS stg sup (hgS fa (-1) nf).1 (hgS fa (-1) nf).2 wd sn (i + 1)).1)), (6, .ref q20), (5, .ref q14), (0, .ref z), (1, .int wd), (2, .int stg)]) hx hb dX7_hour_149 hl (k := 4) rfl (nI_1 i) (by decide) rfl (fun ls hl => ?_)
              refine lv_goto (tgt := 5) hx hb dX7_hour_152 (by decide) ?_
              refine W.widen (k := (83 * (i + 1))) (n := (160 * (i + 1))) (by omega) (by omega) ?_
              exact ih_5 (i + 1) (by omega) _ _ _ _ hk L105_0 L105_1 L105_2 hSE (hSN.congr (fun j9 hj9 => hour_2 hwd (by omega))) J (lv_sub hl [0, 2, 5, 6, 7] rfl)
            | succ k9 ih_105 =>
              intro k hik wl105 H locs ls hk L105_0 L105_1 L105_2 L105_3 L105_4 hSE hSN J hl
              refine lv_iload hx hb dX7_hour_105 (lv_at hl 0 rfl) ?_
              refine lv_bipush (v := nI 20) hx hb dX7_hour_107 (by decide) ?_
              refine lv_icmp_ge (tgt := 149) hx hb dX7_hour_109 (by decide) (fun cz109 => by exact (nI_ge (by omega) (by omega) cz109).elim) (fun cz109 => ?_)
              have hrw := rowN_lt (wd := wd) (i := i) (k := k) (by omega) (by omega)
              have hcw := colN_lt (wd := wd) (i := i) (k := k) (by omega) (by omega)
              obtain ⟨ra, rf, hra, hrc, hrf⟩ := hSN (rowN wd i k) hrw
              refine lv_aload_n hx hb dX7_hour_112 rfl (lv_at hl 5 rfl) ?_
              refine z_get (C := RX7) (T := TX7) (N := 8) (ci := 8) (v := .ref sa) X J hi_X7 qz L105_0 rfl 2 (by decide) (by decide +kernel) rfl dX7_hour_113 ?_
              refine lv_iload_n hx hb dX7_hour_116 rfl (lv_at hl 6 rfl) ?_
              refine lv_iload hx hb dX7_hour_117 (lv_at hl 4 rfl) ?_
              refine lv_iload hx hb dX7_hour_119 (lv_at hl 0 rfl) ?_
              refine z_cq J (z_rS (As := [.int wd, .int (nI i), .int (nI k)]) (rest := [.ref sa]) X J (cX7_spot_ok l E hwd (by first | assumption | omega | decide) (by first | assumption | omega | decide)) (va_cwS 3 hts gX7_hour_X7_spot rfl rfl rfl (by decide +kernel) ⟨Nat.le_of_ble_eq_true rfl, Nat.le_of_ble_eq_true rfl⟩) rfl hl.1 rfl (Nat.le_of_ble_eq_true rfl) dX7_hour_121 ⟨by show _ ≤ 1660; omega, by show _ ≤ 3200; omega⟩) (fun r121 ws_4 H locs hp9 J => ?_)
              obtain ⟨k4, ⟨sp_4, hlen4, N4_0, e_r121⟩⟩ := hp9
              have hSE := hSE.keep k4 (fun _ _ _ _ _ => List.not_mem_nil)
              have hSN := hSN.keep k4 (fun _ _ => List.not_mem_nil)
              have lp4 := hk.1
              have b_4_0 := zlt L105_0
              have b_4_1 := zlt L105_1
              have b_4_2 := zlt L105_2
              have b_4_3 := zlt L105_3
              have b_4_4 := zlt L105_4
              have b_4_5 := zlt hrc
              have hk := hk.trans (k4.mono (fun q9 hq9 => absurd hq9 List.not_mem_nil))
              have G4_0 := k4.2 qz _ List.not_mem_nil L105_0
              have G4_1 := k4.2 qs _ List.not_mem_nil L105_1
              have G4_2 := k4.2 qf _ List.not_mem_nil L105_2
              have G4_3 := k4.2 pn_1 _ List.not_mem_nil L105_3
              have G4_4 := k4.2 pn_2 _ List.not_mem_nil L105_4
              have G4_5 := k4.2 (b + (rowN wd i k)) _ List.not_mem_nil hrc
              obtain ⟨pn_4_0, hpn_4_0⟩ : ∃ z : Nat, z = wl105.length + 0 := ⟨_, rfl⟩
              rw [← hpn_4_0] at N4_0
              subst e_r121
              refine W.eq (g2 := F0 m 124 ls [.ref sp_4, .ref sa]) rfl ?_
              refine lv_iconst (v := nI 1) hx hb dX7_hour_124 rfl ?_
              refine z_iald X J pn_4_0 N4_0 (vp_in_nI (by omega) (by first | decide | omega)) dX7_hour_125 ?_
              refine W.eq (g2 := F0 m 126 ls [.int (nI (rowN wd i k)), .ref sa]) (congrArg (fun z9 : Int32 => F0 m 126 ls [.int z9, .ref sa]) (show ((spF (colN wd i k) (rowN wd i k)) (nI 1).toNatClampNeg : Int32) = nI (rowN wd i k) from ((congrArg _ (nI_clamp (by omega))).trans spF_1))) ?_
              refine z_aaldA X J qs G4_1 (vp_in_nI (by omega) (by first | decide | omega)) dX7_hour_126 ?_
              refine W.eq (g2 := F0 m 127 ls [va_rf (gs (rowN wd i k))]) (congrArg (fun z9 : Option Nat => F0 m 127 ls [va_rf z9]) (show (gs (nI (rowN wd i k)).toNatClampNeg : Option Nat) = gs (rowN wd i k) from (congrArg _ (nI_clamp (by omega))))) ?_
              refine W.eq (g2 := F0 m 127 ls [.ref ra]) (by rw [show gs (rowN wd i k) = some ra from hra]; rfl) ?_
              refine lv_iload_n hx hb dX7_hour_127 rfl (lv_at hl 6 rfl) ?_
              refine lv_iload hx hb dX7_hour_128 (lv_at hl 4 rfl) ?_
              refine lv_iload hx hb dX7_hour_130 (lv_at hl 0 rfl) ?_
              refine z_cq J (z_rS (As := [.int wd, .int (nI i), .int (nI k)]) (rest := [.ref ra]) X J (cX7_spot_ok l E hwd (by first | assumption | omega | decide) (by first | assumption | omega | decide)) (va_cwS 3 hts gX7_hour_X7_spot rfl rfl rfl (by decide +kernel) ⟨Nat.le_of_ble_eq_true rfl, Nat.le_of_ble_eq_true rfl⟩) rfl hl.1 rfl (Nat.le_of_ble_eq_true rfl) dX7_hour_132 ⟨by show _ ≤ 1660; omega, by show _ ≤ 3200; omega⟩) (fun r132 ws_5 H locs hp9 J => ?_)
              obtain ⟨k5, ⟨sp_5, hlen5, N5_0, e_r132⟩⟩ := hp9
              have hSE := hSE.keep k5 (fun _ _ _ _ _ => List.not_mem_nil)
              have hSN := hSN.keep k5 (fun _ _ => List.not_mem_nil)
              have lp5 := hk.1
              have b_5_0 := zlt G4_0
              have b_5_1 := zlt G4_1
              have b_5_2 := zlt G4_2
              have b_5_3 := zlt G4_3
              have b_5_4 := zlt G4_4
              have b_5_5 := zlt G4_5
              have b_5_6 := zlt N4_0
              have hk := hk.trans (k5.mono (fun q9 hq9 => absurd hq9 List.not_mem_nil))
              have G5_0 := k5.2 qz _ List.not_mem_nil G4_0
              have G5_1 := k5.2 qs _ List.not_mem_nil G4_1
              have G5_2 := k5.2 qf _ List.not_mem_nil G4_2
              have G5_3 := k5.2 pn_1 _ List.not_mem_nil G4_3
              have G5_4 := k5.2 pn_2 _ List.not_mem_nil G4_4
              have G5_5 := k5.2 (b + (rowN wd i k)) _ List.not_mem_nil G4_5
              have G5_6 := k5.2 pn_4_0 _ List.not_mem_nil N4_0
              obtain ⟨pn_5_0, hpn_5_0⟩ : ∃ z : Nat, z = ws_4.length + 0 := ⟨_, rfl⟩
              rw [← hpn_5_0] at N5_0
              subst e_r132
              refine W.eq (g2 := F0 m 135 ls [.ref sp_5, .ref ra]) rfl ?_
              refine lv_iconst (v := nI 0) hx hb dX7_hour_135 rfl ?_
              refine z_iald X J pn_5_0 N5_0 (vp_in_nI (by omega) (by first | decide | omega)) dX7_hour_136 ?_
              refine W.eq (g2 := F0 m 137 ls [.int (nI (colN wd i k)), .ref ra]) (congrArg (fun z9 : Int32 => F0 m 137 ls [.int z9, .ref ra]) (show ((spF (colN wd i k) (rowN wd i k)) (nI 0).toNatClampNeg : Int32) = nI (colN wd i k) from ((congrArg _ (nI_clamp (by omega))).trans spF_0))) ?_
              refine lv_aload hx hb dX7_hour_137 (lv_at hl 3 rfl) ?_
              refine lv_iload hx hb dX7_hour_139 (lv_at hl 0 rfl) ?_
              refine z_iald X J pn_1 G5_3 (vp_in_nI (by omega) (by first | decide | omega)) dX7_hour_141 ?_
              refine W.eq (g2 := F0 m 142 ls [.int (((ovP stg (lnV (hgS fa (-1) nf).1 wd i 20) (lnV (hgS fa (-1) nf).2 wd i 20) (lnV (hrS stg sup (hgS fa (-1) nf).1 (hgS fa (-1) nf).2 wd sn i).2.1 wd i 20) sup 20).1) k), .int (nI (colN wd i k)), .ref ra]) (congrArg (fun z9 : Int32 => F0 m 142 ls [.int z9, .int (nI (colN wd i k)), .ref ra]) (show (((ovP stg (lnV (hgS fa (-1) nf).1 wd i 20) (lnV (hgS fa (-1) nf).2 wd i 20) (lnV (hrS stg sup (hgS fa (-1) nf).1 (hgS fa (-1) nf).2 wd sn i).2.1 wd i 20) sup 20).1) (nI k).toNatClampNeg : Int32) = ((ovP stg (lnV (hgS fa (-1) nf).1 wd i 20) (lnV (hgS fa (-1) nf).2 wd i 20) (lnV (hrS stg sup (hgS fa (-1) nf).1 (hgS fa (-1) nf).2 wd sn i).2.1 wd i 20) sup 20).1) k from (congrArg _ (nI_clamp (by omega))))) ?_
              refine z_iast X J (b + (rowN wd i k)) G5_5 (vp_in_nI (by omega) (by first | decide | omega)) dX7_hour_142 (fun H locs J => ?_)
              rw [show upd rf (nI (colN wd i k)).toNatClampNeg (((ovP stg (lnV (hgS fa (-1) nf).1 wd i 20) (lnV (hgS fa (-1) nf).2 wd i 20) (lnV (hrS stg sup (hgS fa (-1) nf).1 (hgS fa (-1) nf).2 wd sn i).2.1 wd i 20) sup 20).1) k) = upd rf (colN wd i k) (((ovP stg (lnV (hgS fa (-1) nf).1 wd i 20) (lnV (hgS fa (-1) nf).2 wd i 20) (lnV (hrS stg sup (hgS fa (-1) nf).1 (hgS fa (-1) nf).2 wd sn i).2.1 wd i 20) sup 20).1) k) from (by rw [nI_clamp (by omega)])] at J
              have hSE := hSE.keep (zK.set (S := [(b + (rowN wd i k))]) (ws := ws_5) (q := (b + (rowN wd i k))) (e := (ra, zI4 E 20 (upd rf (colN wd i k) (((ovP stg (lnV (hgS fa (-1) nf).1 wd i 20) (lnV (hgS fa (-1) nf).2 wd i 20) (lnV (hrS stg sup (hgS fa (-1) nf).1 (hgS fa (-1) nf).2 wd sn i).2.1 wd i 20) sup 20).1) k)))) (List.mem_singleton.mpr rfl)) (fun q9 a9 f9 h8 h9 => by have z9_0 := zneL (by decide) h9 G5_5; simp only [List.mem_cons, rg_mem, List.not_mem_nil, or_false, not_or]; omega)
              have hSN := hSN.set (r := rowN wd i k) (c := colN wd i k) (v := ((ovP stg (lnV (hgS fa (-1) nf).1 wd i 20) (lnV (hgS fa (-1) nf).2 wd i 20) (lnV (hrS stg sup (hgS fa (-1) nf).1 (hgS fa (-1) nf).2 wd sn i).2.1 wd i 20) sup 20).1) k) hrw hcw hra hrf
              have hk := hk.trans (zK.set (ws := ws_5) (q := (b + (rowN wd i k))) (e := (ra, zI4 E 20 (upd rf (colN wd i k) (((ovP stg (lnV (hgS fa (-1) nf).1 wd i 20) (lnV (hgS fa (-1) nf).2 wd i 20) (lnV (hrS stg sup (hgS fa (-1) nf).1 (hgS fa (-1) nf).2 wd sn i).2.1 wd i 20) sup 20).1) k)))) (by simp only [List.mem_cons, rg_mem, List.not_mem_nil, or_false, not_or]; omega))
              have G6_0 := zset_ne (q := (b + (rowN wd i k))) (e' := (ra, zI4 E 20 (upd rf (colN wd i k) (((ovP stg (lnV (hgS fa (-1) nf).1 wd i 20) (lnV (hgS fa (-1) nf).2 wd i 20) (lnV (hrS stg sup (hgS fa (-1) nf).1 (hgS fa (-1) nf).2 wd sn i).2.1 wd i 20) sup 20).1) k)))) (by omega) G5_0
              have G6_1 := zset_ne (q := (b + (rowN wd i k))) (e' := (ra, zI4 E 20 (upd rf (colN wd i k) (((ovP stg (lnV (hgS fa (-1) nf).1 wd i 20) (lnV (hgS fa (-1) nf).2 wd i 20) (lnV (hrS stg sup (hgS fa (-1) nf).1 (hgS fa (-1) nf).2 wd sn i).2.1 wd i 20) sup 20).1) k)))) (by omega) G5_1
              have G6_2 := zset_ne (q := (b + (rowN wd i k))) (e' := (ra, zI4 E 20 (upd rf (colN wd i k) (((ovP stg (lnV (hgS fa (-1) nf).1 wd i 20) (lnV (hgS fa (-1) nf).2 wd i 20) (lnV (hrS stg sup (hgS fa (-1) nf).1 (hgS fa (-1) nf).2 wd sn i).2.1 wd i 20) sup 20).1) k)))) (by omega) G5_2
              have G6_3 := zset_ne (q := (b + (rowN wd i k))) (e' := (ra, zI4 E 20 (upd rf (colN wd i k) (((ovP stg (lnV (hgS fa (-1) nf).1 wd i 20) (lnV (hgS fa (-1) nf).2 wd i 20) (lnV (hrS stg sup (hgS fa (-1) nf).1 (hgS fa (-1) nf).2 wd sn i).2.1 wd i 20) sup 20).1) k)))) (by omega) G5_3
              have G6_4 := zset_ne (q := (b + (rowN wd i k))) (e' := (ra, zI4 E 20 (upd rf (colN wd i k) (((ovP stg (lnV (hgS fa (-1) nf).1 wd i 20) (lnV (hgS fa (-1) nf).2 wd i 20) (lnV (hrS stg sup (hgS fa (-1) nf).1 (hgS fa (-1) nf).2 wd sn i).2.1 wd i 20) sup 20).1) k)))) (by omega) G5_4
              have G6_5 := zset_eq (e' := (ra, zI4 E 20 (upd rf (colN wd i k) (((ovP stg (lnV (hgS fa (-1) nf).1 wd i 20) (lnV (hgS fa (-1) nf).2 wd i 20) (lnV (hrS stg sup (hgS fa (-1) nf).1 (hgS fa (-1) nf).2 wd sn i).2.1 wd i 20) sup 20).1) k)))) G5_5
              have G6_6 := zset_ne (q := (b + (rowN wd i k))) (e' := (ra, zI4 E 20 (upd rf (colN wd i k) (((ovP stg (lnV (hgS fa (-1) nf).1 wd i 20) (lnV (hgS fa (-1) nf).2 wd i 20) (lnV (hrS stg sup (hgS fa (-1) nf).1 (hgS fa (-1) nf).2 wd sn i).2.1 wd i 20) sup 20).1) k)))) (by omega) G5_6
              have G6_7 := zset_ne (q := (b + (rowN wd i k))) (e' := (ra, zI4 E 20 (upd rf (colN wd i k) (((ovP stg (lnV (hgS fa (-1) nf).1 wd i 20) (lnV (hgS fa (-1) nf).2 wd i 20) (lnV (hrS stg sup (hgS fa (-1) nf).1 (hgS fa (-1) nf).2 wd sn i).2.1 wd i 20) sup 20).1) k)))) (by omega) N5_0
              generalize hws6 : (ws_5.set (b + (rowN wd i k)) (ra, zI4 E 20 (upd rf (colN wd i k) (((ovP stg (lnV (hgS fa (-1) nf).1 wd i 20) (lnV (hgS fa (-1) nf).2 wd i 20) (lnV (hrS stg sup (hgS fa (-1) nf).1 (hgS fa (-1) nf).2 wd sn i).2.1 wd i 20) sup 20).1) k)))) = ws_6 at J hk G6_0 G6_1 G6_2 G6_3 G6_4 G6_5 G6_6 G6_7 hSE hSN
              refine lv_iinc (v := nI (k + 1)) (lv' := [(7, .int (nI (k + 1))), (3, .int ((hrS stg sup (hgS fa (-1) nf).1 (hgS fa (-1) nf).2 wd sn (i + 1)).1)), (6, .ref q20), (5, .ref q14), (4, .int (nI i)), (0, .ref z), (1, .int wd), (2, .int stg)]) hx hb dX7_hour_143 hl (k := 0) rfl (nI_1 k) (by decide) rfl (fun ls hl => ?_)
              refine lv_goto (tgt := 105) hx hb dX7_hour_146 (by decide) ?_
              refine W.widen (k := (83 * i + 43 + 2 * (k + 1))) (n := (160 * i + 80 + 4 * (k + 1))) (by omega) (by omega) ?_
              exact ih_105 (k + 1) (by omega) _ _ _ _ hk G6_0 G6_1 G6_2 G6_3 G6_4 hSE hSN J (lv_sub hl [0, 1, 2, 3, 4, 5, 6, 7] rfl)
          exact loop_105 20 0 (by omega) _ _ _ _ hk G3_0 G3_1 G3_2 G3_a0 G3_4 hSE hSN J (lv_sub hl [0, 1, 2, 3, 4, 5, 6, 7] rfl)
        | succ k9 ih_28 =>
          intro k gt hik wl28 H locs ls hk L28_0 L28_1 L28_2 L28_3 L28_4 hTK hSE hSN J hl
          refine lv_iload hx hb dX7_hour_28 (lv_at hl 0 rfl) ?_
          refine lv_bipush (v := nI 20) hx hb dX7_hour_30 (by decide) ?_
          refine lv_icmp_ge (tgt := 87) hx hb dX7_hour_32 (by decide) (fun cz32 => by exact (nI_ge (by omega) (by omega) cz32).elim) (fun cz32 => ?_)
          have hrw := rowN_lt (wd := wd) (i := i) (k := k) (by omega) (by omega)
          have hcw := colN_lt (wd := wd) (i := i) (k := k) (by omega) (by omega)
          refine lv_iload_n hx hb dX7_hour_35 rfl (lv_at hl 6 rfl) ?_
          refine lv_iload hx hb dX7_hour_36 (lv_at hl 3 rfl) ?_
          refine lv_iload hx hb dX7_hour_38 (lv_at hl 0 rfl) ?_
          refine z_cq J (z_rS (As := [.int wd, .int (nI i), .int (nI k)]) (rest := []) X J (cX7_spot_ok l E hwd (by first | assumption | omega | decide) (by first | assumption | omega | decide)) (va_cwS 3 hts gX7_hour_X7_spot rfl rfl rfl (by decide +kernel) ⟨Nat.le_of_ble_eq_true rfl, Nat.le_of_ble_eq_true rfl⟩) rfl hl.1 rfl (Nat.le_of_ble_eq_true rfl) dX7_hour_40 ⟨by show _ ≤ 1660; omega, by show _ ≤ 3200; omega⟩) (fun r40 ws_3 H locs hp9 J => ?_)
          obtain ⟨k3, ⟨sp_3, hlen3, N3_0, e_r40⟩⟩ := hp9
          have hSE := hSE.keep k3 (fun _ _ _ _ _ => List.not_mem_nil)
          have hSN := hSN.keep k3 (fun _ _ => List.not_mem_nil)
          have hTK := hTK.keep k3 (fun _ _ _ _ _ _ => List.not_mem_nil)
          have lp3 := hk.1
          have b_3_0 := zlt L28_0
          have b_3_1 := zlt L28_1
          have b_3_2 := zlt L28_2
          have b_3_3 := zlt L28_3
          have b_3_4 := zlt L28_4
          have hk := hk.trans (k3.mono (fun q9 hq9 => absurd hq9 List.not_mem_nil))
          have G3_0 := k3.2 qz _ List.not_mem_nil L28_0
          have G3_1 := k3.2 qs _ List.not_mem_nil L28_1
          have G3_2 := k3.2 qf _ List.not_mem_nil L28_2
          have G3_3 := k3.2 pn_1 _ List.not_mem_nil L28_3
          have G3_4 := k3.2 pn_2 _ List.not_mem_nil L28_4
          obtain ⟨pn_3_0, hpn_3_0⟩ : ∃ z : Nat, z = wl28.length + 0 := ⟨_, rfl⟩
          rw [← hpn_3_0] at N3_0
          subst e_r40
          refine W.eq (g2 := F0 m 43 ls [.ref sp_3]) rfl ?_
          refine lv_astore (lv' := [(8, .ref sp_3), (7, .int (nI k)), (6, .ref q20), (5, .ref q14), (4, .int (nI i)), (3, .int ((hrS stg sup (hgS fa (-1) nf).1 (hgS fa (-1) nf).2 wd sn i).1)), (0, .ref z), (1, .int wd), (2, .int stg)]) hx hb dX7_hour_43 hl (by decide) rfl (fun ls hl => ?_)
          obtain ⟨ra, rf, hra, hrc, hrf⟩ := hSN (rowN wd i k) hrw
          refine lv_aload hx hb dX7_hour_45 (lv_at hl 3 rfl) ?_
          refine lv_iload hx hb dX7_hour_47 (lv_at hl 1 rfl) ?_
          refine lv_aload_n hx hb dX7_hour_49 rfl (lv_at hl 6 rfl) ?_
          refine z_get (C := RX7) (T := TX7) (N := 8) (ci := 8) (v := .ref sa) X J hi_X7 qz G3_0 rfl 2 (by decide) (by decide +kernel) rfl dX7_hour_50 ?_
          refine lv_aload hx hb dX7_hour_53 (lv_at hl 0 rfl) ?_
          refine lv_iconst (v := nI 1) hx hb dX7_hour_55 rfl ?_
          refine z_iald X J pn_3_0 N3_0 (vp_in_nI (by omega) (by first | decide | omega)) dX7_hour_56 ?_
          refine W.eq (g2 := F0 m 57 ls [.int (nI (rowN wd i k)), .ref sa, .int (nI k), .ref q14]) (congrArg (fun z9 : Int32 => F0 m 57 ls [.int z9, .ref sa, .int (nI k), .ref q14]) (show ((spF (colN wd i k) (rowN wd i k)) (nI 1).toNatClampNeg : Int32) = nI (rowN wd i k) from ((congrArg _ (nI_clamp (by omega))).trans spF_1))) ?_
          refine z_aaldA X J qs G3_1 (vp_in_nI (by omega) (by first | decide | omega)) dX7_hour_57 ?_
          refine W.eq (g2 := F0 m 58 ls [va_rf (gs (rowN wd i k)), .int (nI k), .ref q14]) (congrArg (fun z9 : Option Nat => F0 m 58 ls [va_rf z9, .int (nI k), .ref q14]) (show (gs (nI (rowN wd i k)).toNatClampNeg : Option Nat) = gs (rowN wd i k) from (congrArg _ (nI_clamp (by omega))))) ?_
          refine W.eq (g2 := F0 m 58 ls [.ref ra, .int (nI k), .ref q14]) (by rw [show gs (rowN wd i k) = some ra from hra]; rfl) ?_
          refine lv_aload hx hb dX7_hour_58 (lv_at hl 0 rfl) ?_
          refine lv_iconst (v := nI 0) hx hb dX7_hour_60 rfl ?_
          refine z_iald X J pn_3_0 N3_0 (vp_in_nI (by omega) (by first | decide | omega)) dX7_hour_61 ?_
          refine W.eq (g2 := F0 m 62 ls [.int (nI (colN wd i k)), .ref ra, .int (nI k), .ref q14]) (congrArg (fun z9 : Int32 => F0 m 62 ls [.int z9, .ref ra, .int (nI k), .ref q14]) (show ((spF (colN wd i k) (rowN wd i k)) (nI 0).toNatClampNeg : Int32) = nI (colN wd i k) from ((congrArg _ (nI_clamp (by omega))).trans spF_0))) ?_
          refine z_iald X J (b + (rowN wd i k)) hrc (vp_in_nI (by omega) (by first | decide | omega)) dX7_hour_62 ?_
          refine W.eq (g2 := F0 m 63 ls [.int ((hrS stg sup (hgS fa (-1) nf).1 (hgS fa (-1) nf).2 wd sn i).2.1 (cN wd i k)), .int (nI k), .ref q14]) (congrArg (fun z9 : Int32 => F0 m 63 ls [.int z9, .int (nI k), .ref q14]) (show (rf (nI (colN wd i k)).toNatClampNeg : Int32) = (hrS stg sup (hgS fa (-1) nf).1 (hgS fa (-1) nf).2 wd sn i).2.1 (cN wd i k) from (by rw [nI_clamp (by omega)]; exact hrf _ hcw))) ?_
          refine z_iast X J pn_1 G3_3 (vp_in_nI (by omega) (by first | decide | omega)) dX7_hour_63 (fun H locs J => ?_)
          rw [show upd (lnV (hrS stg sup (hgS fa (-1) nf).1 (hgS fa (-1) nf).2 wd sn i).2.1 wd i k) (nI k).toNatClampNeg ((hrS stg sup (hgS fa (-1) nf).1 (hgS fa (-1) nf).2 wd sn i).2.1 (cN wd i k)) = lnV (hrS stg sup (hgS fa (-1) nf).1 (hgS fa (-1) nf).2 wd sn i).2.1 wd i (k + 1) from (by rw [nI_clamp (by omega)]; exact lnV_s)] at J
          have hSE := hSE.keep (zK.set (S := [pn_1]) (ws := ws_3) (q := pn_1) (e := (q14, zI4 E 20 (lnV (hrS stg sup (hgS fa (-1) nf).1 (hgS fa (-1) nf).2 wd sn i).2.1 wd i (k + 1)))) (List.mem_singleton.mpr rfl)) (fun q9 a9 f9 h8 h9 => by have z9_0 := zneL (by decide) h9 G3_3; simp only [List.mem_cons, rg_mem, List.not_mem_nil, or_false, not_or]; omega)
          have hSN := hSN.keep (zK.set (S := [pn_1]) (ws := ws_3) (q := pn_1) (e := (q14, zI4 E 20 (lnV (hrS stg sup (hgS fa (-1) nf).1 (hgS fa (-1) nf).2 wd sn i).2.1 wd i (k + 1)))) (List.mem_singleton.mpr rfl)) (fun r9 hr9 => by simp only [List.mem_cons, rg_mem, List.not_mem_nil, or_false, not_or]; omega)
          have hTK := hTK.keep (zK.set (S := [pn_1]) (ws := ws_3) (q := pn_1) (e := (q14, zI4 E 20 (lnV (hrS stg sup (hgS fa (-1) nf).1 (hgS fa (-1) nf).2 wd sn i).2.1 wd i (k + 1)))) (List.mem_singleton.mpr rfl)) (fun q9 a9 m9 f9 h8 h9 => by simp only [List.mem_cons, rg_mem, List.not_mem_nil, or_false, not_or]; omega)
          have hk := hk.setNew (q := pn_1) (e := (q14, zI4 E 20 (lnV (hrS stg sup (hgS fa (-1) nf).1 (hgS fa (-1) nf).2 wd sn i).2.1 wd i (k + 1)))) (by omega)
          have G4_0 := zset_ne (q := pn_1) (e' := (q14, zI4 E 20 (lnV (hrS stg sup (hgS fa (-1) nf).1 (hgS fa (-1) nf).2 wd sn i).2.1 wd i (k + 1)))) (by omega) G3_0
          have G4_1 := zset_ne (q := pn_1) (e' := (q14, zI4 E 20 (lnV (hrS stg sup (hgS fa (-1) nf).1 (hgS fa (-1) nf).2 wd sn i).2.1 wd i (k + 1)))) (by omega) G3_1
          have G4_2 := zset_ne (q := pn_1) (e' := (q14, zI4 E 20 (lnV (hrS stg sup (hgS fa (-1) nf).1 (hgS fa (-1) nf).2 wd sn i).2.1 wd i (k + 1)))) (by omega) G3_2
          have G4_3 := zset_eq (e' := (q14, zI4 E 20 (lnV (hrS stg sup (hgS fa (-1) nf).1 (hgS fa (-1) nf).2 wd sn i).2.1 wd i (k + 1)))) G3_3
          have G4_4 := zset_ne (q := pn_1) (e' := (q14, zI4 E 20 (lnV (hrS stg sup (hgS fa (-1) nf).1 (hgS fa (-1) nf).2 wd sn i).2.1 wd i (k + 1)))) (by omega) G3_4
          have G4_5 := zset_ne (q := pn_1) (e' := (q14, zI4 E 20 (lnV (hrS stg sup (hgS fa (-1) nf).1 (hgS fa (-1) nf).2 wd sn i).2.1 wd i (k + 1)))) (by omega) N3_0
          have G4_6 := zset_ne (q := pn_1) (e' := (q14, zI4 E 20 (lnV (hrS stg sup (hgS fa (-1) nf).1 (hgS fa (-1) nf).2 wd sn i).2.1 wd i (k + 1)))) (by omega) hrc
          generalize hws4 : (ws_3.set pn_1 (q14, zI4 E 20 (lnV (hrS stg sup (hgS fa (-1) nf).1 (hgS fa (-1) nf).2 wd sn i).2.1 wd i (k + 1)))) = ws_4 at J hk G4_0 G4_1 G4_2 G4_3 G4_4 G4_5 G4_6 hSE hSN hTK
          refine lv_aload hx hb dX7_hour_64 (lv_at hl 2 rfl) ?_
          refine lv_iload hx hb dX7_hour_66 (lv_at hl 1 rfl) ?_
          refine lv_aload_n hx hb dX7_hour_68 rfl (lv_at hl 6 rfl) ?_
          refine lv_aload hx hb dX7_hour_69 (lv_at hl 0 rfl) ?_
          refine lv_iconst (v := nI 0) hx hb dX7_hour_71 rfl ?_
          refine z_iald X J pn_3_0 G4_5 (vp_in_nI (by omega) (by first | decide | omega)) dX7_hour_72 ?_
          refine W.eq (g2 := F0 m 73 ls [.int (nI (colN wd i k)), .ref z, .int (nI k), .ref q20]) (congrArg (fun z9 : Int32 => F0 m 73 ls [.int z9, .ref z, .int (nI k), .ref q20]) (show ((spF (colN wd i k) (rowN wd i k)) (nI 0).toNatClampNeg : Int32) = nI (colN wd i k) from ((congrArg _ (nI_clamp (by omega))).trans spF_0))) ?_
          refine lv_aload hx hb dX7_hour_73 (lv_at hl 0 rfl) ?_
          refine lv_iconst (v := nI 1) hx hb dX7_hour_75 rfl ?_
          refine z_iald X J pn_3_0 G4_5 (vp_in_nI (by omega) (by first | decide | omega)) dX7_hour_76 ?_
          refine W.eq (g2 := F0 m 77 ls [.int (nI (rowN wd i k)), .int (nI (colN wd i k)), .ref z, .int (nI k), .ref q20]) (congrArg (fun z9 : Int32 => F0 m 77 ls [.int z9, .int (nI (colN wd i k)), .ref z, .int (nI k), .ref q20]) (show ((spF (colN wd i k) (rowN wd i k)) (nI 1).toNatClampNeg : Int32) = nI (rowN wd i k) from ((congrArg _ (nI_clamp (by omega))).trans spF_1))) ?_
          refine z_cq J (z_rV (As := [.int (nI (colN wd i k)), .int (nI (rowN wd i k))]) (rest := [.int (nI k), .ref q20]) (ci := 8) (q0 := qz) X J (cX7_highest_ok l E G4_0 G4_2 hSE (by first | assumption | omega | decide)) (cwV 2 hts gX7_hour_X7_highest rfl rfl rfl (by decide +kernel) ⟨Nat.le_of_ble_eq_true rfl, Nat.le_of_ble_eq_true rfl⟩) G4_0 rfl rfl rfl hl.1 rfl (Nat.le_of_ble_eq_true rfl) dX7_hour_77 ⟨by show _ ≤ 1660; omega, by show _ ≤ 3200; omega⟩) (fun r77 ws_5 H locs hp9 J => ?_)
          obtain ⟨k5, ⟨ba9_5, pb9_5, nb9_5, fb9_5, G5_a0, htop_5, e_r77⟩⟩ := hp9
          have hSE := hSE.keep k5 (fun _ _ _ _ _ => List.not_mem_nil)
          have hSN := hSN.keep k5 (fun _ _ => List.not_mem_nil)
          have hTK := hTK.keep k5 (fun _ _ _ _ _ _ => List.not_mem_nil)
          have hk := hk.trans (k5.mono (fun q9 hq9 => absurd hq9 List.not_mem_nil))
          have G5_0 := k5.2 qz _ List.not_mem_nil G4_0
          have G5_1 := k5.2 qs _ List.not_mem_nil G4_1
          have G5_2 := k5.2 qf _ List.not_mem_nil G4_2
          have G5_3 := k5.2 pn_1 _ List.not_mem_nil G4_3
          have G5_4 := k5.2 pn_2 _ List.not_mem_nil G4_4
          have G5_5 := k5.2 pn_3_0 _ List.not_mem_nil G4_5
          have G5_6 := k5.2 (b + (rowN wd i k)) _ List.not_mem_nil G4_6
          subst e_r77
          refine W.eq (g2 := F0 m 80 ls [.ref ba9_5, .int (nI k), .ref q20]) rfl ?_
          have zpb := zneK G5_4 G5_a0 rfl
          refine z_aastA X J pn_2 pb9_5 G5_4 G5_a0 (vp_in_nI (by omega) (by first | decide | omega)) dX7_hour_80 (fun H locs J => ?_)
          rw [show va_up gt (nI k).toNatClampNeg (some ba9_5) = va_up gt k (some ba9_5) from (by rw [nI_clamp (by omega)])] at J
          have hSE := hSE.keep (zK.set (S := [pn_2]) (ws := ws_5) (q := pn_2) (e := (q20, zA4 E 20 (va_up gt k (some ba9_5)))) (List.mem_singleton.mpr rfl)) (fun q9 a9 f9 h8 h9 => by have z9_0 := zneK h9 G5_4 rfl; simp only [List.mem_cons, rg_mem, List.not_mem_nil, or_false, not_or]; omega)
          have hSN := hSN.keep (zK.set (S := [pn_2]) (ws := ws_5) (q := pn_2) (e := (q20, zA4 E 20 (va_up gt k (some ba9_5)))) (List.mem_singleton.mpr rfl)) (fun r9 hr9 => by simp only [List.mem_cons, rg_mem, List.not_mem_nil, or_false, not_or]; omega)
          have hTK := hTK.keep (zK.set (S := [pn_2]) (ws := ws_5) (q := pn_2) (e := (q20, zA4 E 20 (va_up gt k (some ba9_5)))) (List.mem_singleton.mpr rfl)) (fun q9 a9 m9 f9 h8 h9 => by have z9_0 := zneK h9 G5_4 rfl; simp only [List.mem_cons, rg_mem, List.not_mem_nil, or_false, not_or]; omega)
          have hk := hk.setNew (q := pn_2) (e := (q20, zA4 E 20 (va_up gt k (some ba9_5)))) (by omega)
          have G6_0 := zset_ne (q := pn_2) (e' := (q20, zA4 E 20 (va_up gt k (some ba9_5)))) (by omega) G5_0
          have G6_1 := zset_ne (q := pn_2) (e' := (q20, zA4 E 20 (va_up gt k (some ba9_5)))) (by omega) G5_1
          have G6_2 := zset_ne (q := pn_2) (e' := (q20, zA4 E 20 (va_up gt k (some ba9_5)))) (by omega) G5_2
          have G6_3 := zset_ne (q := pn_2) (e' := (q20, zA4 E 20 (va_up gt k (some ba9_5)))) (by omega) G5_3
          have G6_4 := zset_eq (e' := (q20, zA4 E 20 (va_up gt k (some ba9_5)))) G5_4
          have G6_5 := zset_ne (q := pn_2) (e' := (q20, zA4 E 20 (va_up gt k (some ba9_5)))) (by omega) G5_5
          have G6_6 := zset_ne (q := pn_2) (e' := (q20, zA4 E 20 (va_up gt k (some ba9_5)))) (by omega) G5_6
          have G6_7 := zset_ne (q := pn_2) (e' := (q20, zA4 E 20 (va_up gt k (some ba9_5)))) (by omega) G5_a0
          generalize hws6 : (ws_5.set pn_2 (q20, zA4 E 20 (va_up gt k (some ba9_5)))) = ws_6 at J hk G6_0 G6_1 G6_2 G6_3 G6_4 G6_5 G6_6 G6_7 hSE hSN hTK
          refine lv_iinc (v := nI (k + 1)) (lv' := [(7, .int (nI (k + 1))), (8, .ref sp_3), (6, .ref q20), (5, .ref q14), (4, .int (nI i)), (3, .int ((hrS stg sup (hgS fa (-1) nf).1 (hgS fa (-1) nf).2 wd sn i).1)), (0, .ref z), (1, .int wd), (2, .int stg)]) hx hb dX7_hour_81 hl (k := 1) rfl (nI_1 k) (by decide) rfl (fun ls hl => ?_)
          refine lv_goto (tgt := 28) hx hb dX7_hour_84 (by decide) ?_
          refine W.widen (k := (83 * i + 2 + 2 * (k + 1))) (n := (160 * i + 40 + 2 * (k + 1))) (by omega) (by omega) ?_
          exact ih_28 (k + 1) (va_up gt k (some ba9_5)) (by omega) _ _ _ _ hk G6_0 G6_1 G6_2 G6_3 G6_4 (hTK.push G6_7 G6_3 (by have h9 := bs_hg (by omega) hok hcw hrw htop_5; rw [show (lnV (hgS fa (-1) nf).1 wd i 20) k = (hgS fa (-1) nf).1 (cN wd i k) from if_pos (by omega), show (lnV (hgS fa (-1) nf).2 wd i 20) k = (hgS fa (-1) nf).2 (cN wd i k) from if_pos (by omega)]; exact h9)) hSE hSN J (lv_sub hl [0, 2, 3, 4, 5, 6, 7, 8] rfl)
      exact loop_28 20 0 (fun _ => none) (by omega) _ _ _ _ hk G2_0 G2_1 G2_2 (by rw [← lnV_0]; exact G2_3) G2_n (fun j9 hj9 => absurd hj9 (Nat.not_lt_zero _)) hSE hSN J (lv_sub hl [0, 1, 2, 3, 4, 5, 6, 7] rfl)
  exact loop_5 20 0 (by omega) _ _ _ _ hk Fa0 Fa1 Fa2 hSE hSN J (lv_sub hl [0, 1, 2, 3, 4] rfl)
