set_option maxHeartbeats 400000 in
set_option maxRecDepth 100000 in
theorem cX7_fence_ok (l : Launch) (E : zG) {ws : va_W} {mo mf md mi ms9 mk mt nf nr : Nat} {th lim sup off plo hrs : Int32} {fa : Nat → Int32} {co ro le dn he ga : Int32} (Fa0 : ws[11]? = some (mo, .inr (8, [.int th, .int (nI nf), .ref mf, .int (nI nr), .ref md, .ref mi, .int lim, .int sup, .int off, .int plo, .int hrs, .ref ms9, .ref mk, .ref mt]))) (Fa1 : ws[12]? = some (mf, zI4 E 66 fa)) (hnf : nf ≤ 10) (hb12 : 12 < ws.length) : Met l yX7_fence wsX7_fence ({ frames := 2, cells := 1, slots := 6, locals := 88 } : Room) (va_Pc [.ref mo, .int co, .int ro, .int le, .int dn, .int he, .int ga] (zI E ws)) (va_Qi (fun (r : Int32) (ws' : va_W) => (zK [11, 12] ws ws') ∧ (ws'[11]? = some (mo, .inr (8, [.int (kFence co ro le dn he ga (nI nf)), .int (sel (kFence co ro le dn he ga (nI nf)) (nI (nf + 1)) (nI nf)), .ref mf, .int (nI nr), .ref md, .ref mi, .int lim, .int sup, .int off, .int plo, .int hrs, .ref ms9, .ref mk, .ref mt]))) ∧ (ws'[12]? = some (mf, zI4 E 66 (sel (kFence co ro le dn he ga (nI nf)) (fput fa nf co ro le (b01 dn) he ga) fa))) ∧ (r = sel (kFence co ro le dn he ga (nI nf)) (nI nf) 0)) (zI E) (zA E)) 1 6 (zA E) := by
  refine Met.ofW (cc := cX7_fence) (maxL := 7) (ret := (some .int)) (by decide) rfl ?_
  intro p e s m args below meth c s₁ B hml hv
  obtain ⟨hargs9, hI⟩ := hv
  have hx := B.exec
  have hb := B.bytes
  have hr := B.returns
  have hlocks := B.notSynchronized
  have X : zC E p m c cX7_fence 7 s args wsX7_fence RX7 := z_open B hml hI
  have hown := X.1.2.2.2.1
  have hts := X.1.2.2.2.2
  have J := hI.J
  have hi_X7 : ∀ w ∈ wsX70, w ∈ wsX7_fence := by decide +kernel
  have hk : zK [11, 12] ws ws := zK.rf
  have hl := lv_entry ([.ref mo, .int co, .int ro, .int le, .int dn, .int he, .int ga]) (n := 7) (Nat.le_of_ble_eq_true rfl)
  rw [show entryFrame m args 7 = entryFrame m ([.ref mo, .int co, .int ro, .int le, .int dn, .int he, .int ga] : List Value).toArray 7 from by rw [hargs9], lg_entry_eq]
  generalize (lg_sl ([.ref mo, .int co, .int ro, .int le, .int dn, .int he, .int ga]) ++ List.replicate (7 - (lg_sl ([.ref mo, .int co, .int ro, .int le, .int dn, .int he, .int ga])).length) Slot.unset).toArray = ls at hl ⊢
  have hl : lv_has ls 7 [(0, .ref mo), (1, .int co), (2, .int ro), (3, .int le), (4, .int dn), (5, .int he), (6, .int ga)] := hl
  generalize hQ : (MQ below (va_Qi (fun (r : Int32) (ws' : va_W) => (zK [11, 12] ws ws') ∧ (ws'[11]? = some (mo, .inr (8, [.int (kFence co ro le dn he ga (nI nf)), .int (sel (kFence co ro le dn he ga (nI nf)) (nI (nf + 1)) (nI nf)), .ref mf, .int (nI nr), .ref md, .ref mi, .int lim, .int sup, .int off, .int plo, .int hrs, .ref ms9, .ref mk, .ref mt]))) ∧ (ws'[12]? = some (mf, zI4 E 66 (sel (kFence co ro le dn he ga (nI nf)) (fput fa nf co ro le (b01 dn) he ga) fa))) ∧ (r = sel (kFence co ro le dn he ga (nI nf)) (nI nf) 0)) (zI E) (zA E)) args s 1 6 (zA E)) = QQ
  refine lv_aload_n hx hb dX7_fence_0 rfl (lv_at hl 0 rfl) ?_
  refine lv_iconst (v := 0) hx hb dX7_fence_1 (by decide) ?_
  refine z_put (C := RX7) (T := TX7) (N := 14) (ci := 8) (v := .int 0) X J hi_X7 tyX7 tyX7_ok nmX7 11 Fa0 rfl 0 (by decide) (by decide +kernel) rfl rfl rfl (Nat.le_of_ble_eq_true rfl) dX7_fence_2 (fun H locs J => ?_)
  have J : zJ E (ws.set 11 (mo, .inr (8, [.int 0, .int (nI nf), .ref mf, .int (nI nr), .ref md, .ref mi, .int lim, .int sup, .int off, .int plo, .int hrs, .ref ms9, .ref mk, .ref mt]))) s H locs := J
  have hk := hk.trans (zK.set (ws := ws) (q := 11) (e := (mo, .inr (8, [.int 0, .int (nI nf), .ref mf, .int (nI nr), .ref md, .ref mi, .int lim, .int sup, .int off, .int plo, .int hrs, .ref ms9, .ref mk, .ref mt]))) (by simp))
  have G1_0 := zset_eq (e' := (mo, .inr (8, [.int 0, .int (nI nf), .ref mf, .int (nI nr), .ref md, .ref mi, .int lim, .int sup, .int off, .int plo, .int hrs, .ref ms9, .ref mk, .ref mt]))) Fa0
  have G1_1 := zset_ne (q := 11) (e' := (mo, .inr (8, [.int 0, .int (nI nf), .ref mf, .int (nI nr), .ref md, .ref mi, .int lim, .int sup, .int off, .int plo, .int hrs, .ref ms9, .ref mk, .ref mt]))) (by decide) Fa1
  generalize hws1 : (ws.set 11 (mo, .inr (8, [.int 0, .int (nI nf), .ref mf, .int (nI nr), .ref md, .ref mi, .int lim, .int sup, .int off, .int plo, .int hrs, .ref ms9, .ref mk, .ref mt]))) = ws_1 at J hk G1_0 G1_1
  refine lv_iload_n hx hb dX7_fence_5 rfl (lv_at hl 3 rfl) ?_
  refine lv_iconst (v := 1) hx hb dX7_fence_6 (by decide) ?_
  refine lv_bipush (v := 20) hx hb dX7_fence_7 (by decide) ?_
  refine z_cr (z_rS (As := [.int le, .int 1, .int 20]) (rest := []) X J (cX7_isIn_ok l E) (va_cwS 3 hts gX7_fence_X7_isIn rfl rfl rfl (by decide +kernel) ⟨Nat.le_of_ble_eq_true rfl, Nat.le_of_ble_eq_true rfl⟩) rfl hl.1 rfl (Nat.le_of_ble_eq_true rfl) dX7_fence_9 ⟨Nat.le_of_ble_eq_true rfl, Nat.le_of_ble_eq_true rfl⟩) (fun r9 e_r9 => ?_)
  subst e_r9
  refine lv_if_eq (tgt := 36) hx hb dX7_fence_12 (by decide) (fun cz12 => ?_) (fun cz12 => ?_)
  · refine lv_aload_n hx hb dX7_fence_36 rfl (lv_at hl 0 rfl) ?_
    refine lv_iconst (v := 1) hx hb dX7_fence_37 (by decide) ?_
    refine z_ci J (z_rV (As := [.int 1]) (rest := []) (ci := 8) (q0 := 11) X J (cX7_no_ok l E G1_0) (cwV 1 hts gX7_fence_X7_no rfl rfl rfl (by decide +kernel) ⟨Nat.le_of_ble_eq_true rfl, Nat.le_of_ble_eq_true rfl⟩) G1_0 rfl rfl rfl hl.1 rfl (Nat.le_of_ble_eq_true rfl) dX7_fence_38 ⟨Nat.le_of_ble_eq_true rfl, Nat.le_of_ble_eq_true rfl⟩) (fun r38 ws_2 H locs hp9 J => ?_)
    obtain ⟨k2, hl9_2, G2_a0, e_r38⟩ := hp9
    have hk := hk.trans (k2.mono (by decide))
    have G2_1 := k2.2 12 _ (by decide) G1_1
    subst e_r38
    have hk0 : (kFence co ro le dn he ga (nI nf)) = 1 := if_pos (Or.inl (isInS_n cz12))
    refine W.widen (k := 1) (n := 6) (by omega) (by omega) ?_
    subst hQ
    exact W.iret (v := 0) hx hb hr (fun t ht hW => ⟨⟨0, ws_2, rfl, ⟨hk, (by simp only [hk0, sel0, sel1, sel2, sel3]; exact G2_a0), (by simp only [hk0, sel0, sel1, sel2, sel3]; exact G2_1), (by simp only [hk0, sel0, sel1, sel2, sel3])⟩, J.I X ht hW.alike⟩, J.F ht⟩) J.locs dX7_fence_41
  · refine lv_iload hx hb dX7_fence_15 (lv_at hl 5 rfl) ?_
    refine lv_iconst (v := 1) hx hb dX7_fence_17 (by decide) ?_
    refine lv_bipush (v := 9) hx hb dX7_fence_18 (by decide) ?_
    refine z_cr (z_rS (As := [.int he, .int 1, .int 9]) (rest := []) X J (cX7_isIn_ok l E) (va_cwS 3 hts gX7_fence_X7_isIn rfl rfl rfl (by decide +kernel) ⟨Nat.le_of_ble_eq_true rfl, Nat.le_of_ble_eq_true rfl⟩) rfl hl.1 rfl (Nat.le_of_ble_eq_true rfl) dX7_fence_20 ⟨Nat.le_of_ble_eq_true rfl, Nat.le_of_ble_eq_true rfl⟩) (fun r20 e_r20 => ?_)
    subst e_r20
    refine lv_if_eq (tgt := 36) hx hb dX7_fence_23 (by decide) (fun cz23 => ?_) (fun cz23 => ?_)
    · refine lv_aload_n hx hb dX7_fence_36 rfl (lv_at hl 0 rfl) ?_
      refine lv_iconst (v := 1) hx hb dX7_fence_37 (by decide) ?_
      refine z_ci J (z_rV (As := [.int 1]) (rest := []) (ci := 8) (q0 := 11) X J (cX7_no_ok l E G1_0) (cwV 1 hts gX7_fence_X7_no rfl rfl rfl (by decide +kernel) ⟨Nat.le_of_ble_eq_true rfl, Nat.le_of_ble_eq_true rfl⟩) G1_0 rfl rfl rfl hl.1 rfl (Nat.le_of_ble_eq_true rfl) dX7_fence_38 ⟨Nat.le_of_ble_eq_true rfl, Nat.le_of_ble_eq_true rfl⟩) (fun r38 ws_2 H locs hp9 J => ?_)
      obtain ⟨k2, hl9_2, G2_a0, e_r38⟩ := hp9
      have hk := hk.trans (k2.mono (by decide))
      have G2_1 := k2.2 12 _ (by decide) G1_1
      subst e_r38
      have hk0 : (kFence co ro le dn he ga (nI nf)) = 1 := if_pos (Or.inr (Or.inl (isInS_n cz23)))
      refine W.widen (k := 1) (n := 6) (by omega) (by omega) ?_
      subst hQ
      exact W.iret (v := 0) hx hb hr (fun t ht hW => ⟨⟨0, ws_2, rfl, ⟨hk, (by simp only [hk0, sel0, sel1, sel2, sel3]; exact G2_a0), (by simp only [hk0, sel0, sel1, sel2, sel3]; exact G2_1), (by simp only [hk0, sel0, sel1, sel2, sel3])⟩, J.I X ht hW.alike⟩, J.F ht⟩) J.locs dX7_fence_41
    · refine lv_iload hx hb dX7_fence_26 (lv_at hl 6 rfl) ?_
      refine lv_iconst (v := 0) hx hb dX7_fence_28 (by decide) ?_
      refine lv_iconst (v := 3) hx hb dX7_fence_29 (by decide) ?_
      refine z_cr (z_rS (As := [.int ga, .int 0, .int 3]) (rest := []) X J (cX7_isIn_ok l E) (va_cwS 3 hts gX7_fence_X7_isIn rfl rfl rfl (by decide +kernel) ⟨Nat.le_of_ble_eq_true rfl, Nat.le_of_ble_eq_true rfl⟩) rfl hl.1 rfl (Nat.le_of_ble_eq_true rfl) dX7_fence_30 ⟨Nat.le_of_ble_eq_true rfl, Nat.le_of_ble_eq_true rfl⟩) (fun r30 e_r30 => ?_)
      subst e_r30
      refine lv_if_ne (tgt := 42) hx hb dX7_fence_33 (by decide) (fun cz33 => ?_) (fun cz33 => ?_)
      · refine lv_iload_n hx hb dX7_fence_42 rfl (lv_at hl 1 rfl) ?_
        refine lv_iconst (v := 0) hx hb dX7_fence_43 (by decide) ?_
        refine lv_bipush (v := 20) hx hb dX7_fence_44 (by decide) ?_
        refine lv_iload hx hb dX7_fence_46 (lv_at hl 4 rfl) ?_
        refine lv_if_eq (tgt := 55) hx hb dX7_fence_48 (by decide) (fun cz48 => ?_) (fun cz48 => ?_)
        · refine lv_iload_n hx hb dX7_fence_55 rfl (lv_at hl 3 rfl) ?_
          refine lv_isub hx hb dX7_fence_56 ?_
          refine z_cr (z_rS (As := [.int co, .int 0, .int (20 - le)]) (rest := []) X J (cX7_isIn_ok l E) (va_cwS 3 hts gX7_fence_X7_isIn rfl rfl rfl (by decide +kernel) ⟨Nat.le_of_ble_eq_true rfl, Nat.le_of_ble_eq_true rfl⟩) rfl hl.1 rfl (Nat.le_of_ble_eq_true rfl) dX7_fence_57 ⟨Nat.le_of_ble_eq_true rfl, Nat.le_of_ble_eq_true rfl⟩) (fun r57 e_r57 => ?_)
          subst e_r57
          refine lv_if_eq (tgt := 84) hx hb dX7_fence_60 (by decide) (fun cz60 => ?_) (fun cz60 => ?_)
          · refine lv_aload_n hx hb dX7_fence_84 rfl (lv_at hl 0 rfl) ?_
            refine lv_iconst (v := 2) hx hb dX7_fence_85 (by decide) ?_
            refine z_ci J (z_rV (As := [.int 2]) (rest := []) (ci := 8) (q0 := 11) X J (cX7_no_ok l E G1_0) (cwV 1 hts gX7_fence_X7_no rfl rfl rfl (by decide +kernel) ⟨Nat.le_of_ble_eq_true rfl, Nat.le_of_ble_eq_true rfl⟩) G1_0 rfl rfl rfl hl.1 rfl (Nat.le_of_ble_eq_true rfl) dX7_fence_86 ⟨Nat.le_of_ble_eq_true rfl, Nat.le_of_ble_eq_true rfl⟩) (fun r86 ws_2 H locs hp9 J => ?_)
            obtain ⟨k2, hl9_2, G2_a0, e_r86⟩ := hp9
            have hk := hk.trans (k2.mono (by decide))
            have G2_1 := k2.2 12 _ (by decide) G1_1
            subst e_r86
            have hk0 : (kFence co ro le dn he ga (nI nf)) = 2 := (if_neg (not_or_e3 (isInS_y cz12) (isInS_y cz23) (isInS_y cz33))).trans (if_pos (Or.inl (by rw [if_pos cz48]; exact (isInS_n cz60))))
            refine W.widen (k := 1) (n := 6) (by omega) (by omega) ?_
            subst hQ
            exact W.iret (v := 0) hx hb hr (fun t ht hW => ⟨⟨0, ws_2, rfl, ⟨hk, (by simp only [hk0, sel0, sel1, sel2, sel3]; exact G2_a0), (by simp only [hk0, sel0, sel1, sel2, sel3]; exact G2_1), (by simp only [hk0, sel0, sel1, sel2, sel3])⟩, J.I X ht hW.alike⟩, J.F ht⟩) J.locs dX7_fence_89
          · refine lv_iload_n hx hb dX7_fence_63 rfl (lv_at hl 2 rfl) ?_
            refine lv_iconst (v := 0) hx hb dX7_fence_64 (by decide) ?_
            refine lv_bipush (v := 20) hx hb dX7_fence_65 (by decide) ?_
            refine lv_iload hx hb dX7_fence_67 (lv_at hl 4 rfl) ?_
            refine lv_if_eq (tgt := 76) hx hb dX7_fence_69 (by decide) (fun cz69 => ?_) (fun cz69 => by exact absurd cz48 cz69)
            refine lv_iconst (v := 1) hx hb dX7_fence_76 (by decide) ?_
            refine lv_isub hx hb dX7_fence_77 ?_
            refine z_cr (z_rS (As := [.int ro, .int 0, .int (20 - 1)]) (rest := []) X J (cX7_isIn_ok l E) (va_cwS 3 hts gX7_fence_X7_isIn rfl rfl rfl (by decide +kernel) ⟨Nat.le_of_ble_eq_true rfl, Nat.le_of_ble_eq_true rfl⟩) rfl hl.1 rfl (Nat.le_of_ble_eq_true rfl) dX7_fence_78 ⟨Nat.le_of_ble_eq_true rfl, Nat.le_of_ble_eq_true rfl⟩) (fun r78 e_r78 => ?_)
            subst e_r78
            refine lv_if_ne (tgt := 90) hx hb dX7_fence_81 (by decide) (fun cz81 => ?_) (fun cz81 => ?_)
            · refine lv_aload_n hx hb dX7_fence_90 rfl (lv_at hl 0 rfl) ?_
              refine z_get (C := RX7) (T := TX7) (N := 14) (ci := 8) (v := .int (nI nf)) X J hi_X7 11 G1_0 rfl 1 (by decide) (by decide +kernel) rfl dX7_fence_91 ?_
              refine lv_bipush (v := 10) hx hb dX7_fence_94 (by decide) ?_
              refine lv_icmp_ne (tgt := 105) hx hb dX7_fence_96 (by decide) (fun cz96 => ?_) (fun cz96 => ?_)
              · refine lv_aload_n hx hb dX7_fence_105 rfl (lv_at hl 0 rfl) ?_
                refine lv_aload_n hx hb dX7_fence_106 rfl (lv_at hl 0 rfl) ?_
                refine z_get (C := RX7) (T := TX7) (N := 14) (ci := 8) (v := .int (nI nf)) X J hi_X7 11 G1_0 rfl 1 (by decide) (by decide +kernel) rfl dX7_fence_107 ?_
                refine lv_iload_n hx hb dX7_fence_110 rfl (lv_at hl 1 rfl) ?_
                refine lv_iload_n hx hb dX7_fence_111 rfl (lv_at hl 2 rfl) ?_
                refine lv_iload_n hx hb dX7_fence_112 rfl (lv_at hl 3 rfl) ?_
                refine lv_iload hx hb dX7_fence_113 (lv_at hl 4 rfl) ?_
                refine lv_iload hx hb dX7_fence_115 (lv_at hl 5 rfl) ?_
                refine lv_iload hx hb dX7_fence_117 (lv_at hl 6 rfl) ?_
                have hnf10 : nf < 10 := Nat.lt_of_le_of_ne hnf (fun q => cz96 (by rw [q]; rfl))
                have hb99 := hk.1
                refine z_cv J (z_rV (As := [.int (nI nf), .int co, .int ro, .int le, .int dn, .int he, .int ga]) (rest := []) (ci := 8) (q0 := 11) X J (cX7_setUp_ok l E G1_0 G1_1 (by omega) (by omega) (by omega)) (cwV 7 hts gX7_fence_X7_setUp rfl rfl rfl (by decide +kernel) ⟨Nat.le_of_ble_eq_true rfl, Nat.le_of_ble_eq_true rfl⟩) G1_0 rfl rfl rfl hl.1 rfl (Nat.le_of_ble_eq_true rfl) dX7_fence_119 ⟨Nat.le_of_ble_eq_true rfl, Nat.le_of_ble_eq_true rfl⟩) (fun ws_2 H locs hp9 J => ?_)
                obtain ⟨k2, G2_a0⟩ := hp9
                have hk := hk.trans (k2.mono (by decide))
                have G2_0 := k2.2 11 _ (by decide) G1_0
                refine lv_aload_n hx hb dX7_fence_122 rfl (lv_at hl 0 rfl) ?_
                refine lv_dup hx hb dX7_fence_123 rfl ?_
                refine z_get (C := RX7) (T := TX7) (N := 14) (ci := 8) (v := .int (nI nf)) X J hi_X7 11 G2_0 rfl 1 (by decide) (by decide +kernel) rfl dX7_fence_124 ?_
                refine lv_iconst (v := 1) hx hb dX7_fence_127 (by decide) ?_
                refine lv_iadd hx hb dX7_fence_128 ?_
                refine W.eq (g2 := F0 m 129 ls [.int (nI (nf + 1)), .ref mo]) (congrArg (fun z9 : Int32 => F0 m 129 ls [.int z9, .ref mo]) (show ((nI nf) + 1 : Int32) = nI (nf + 1) from (nI_1 nf))) ?_
                refine z_put (C := RX7) (T := TX7) (N := 14) (ci := 8) (v := .int (nI (nf + 1))) X J hi_X7 tyX7 tyX7_ok nmX7 11 G2_0 rfl 1 (by decide) (by decide +kernel) rfl rfl rfl (Nat.le_of_ble_eq_true rfl) dX7_fence_129 (fun H locs J => ?_)
                have J : zJ E (ws_2.set 11 (mo, .inr (8, [.int 0, .int (nI (nf + 1)), .ref mf, .int (nI nr), .ref md, .ref mi, .int lim, .int sup, .int off, .int plo, .int hrs, .ref ms9, .ref mk, .ref mt]))) s H locs := J
                have hk := hk.trans (zK.set (ws := ws_2) (q := 11) (e := (mo, .inr (8, [.int 0, .int (nI (nf + 1)), .ref mf, .int (nI nr), .ref md, .ref mi, .int lim, .int sup, .int off, .int plo, .int hrs, .ref ms9, .ref mk, .ref mt]))) (by simp))
                have G3_0 := zset_eq (e' := (mo, .inr (8, [.int 0, .int (nI (nf + 1)), .ref mf, .int (nI nr), .ref md, .ref mi, .int lim, .int sup, .int off, .int plo, .int hrs, .ref ms9, .ref mk, .ref mt]))) G2_0
                have G3_1 := zset_ne (q := 11) (e' := (mo, .inr (8, [.int 0, .int (nI (nf + 1)), .ref mf, .int (nI nr), .ref md, .ref mi, .int lim, .int sup, .int off, .int plo, .int hrs, .ref ms9, .ref mk, .ref mt]))) (by decide) G2_a0
                generalize hws3 : (ws_2.set 11 (mo, .inr (8, [.int 0, .int (nI (nf + 1)), .ref mf, .int (nI nr), .ref md, .ref mi, .int lim, .int sup, .int off, .int plo, .int hrs, .ref ms9, .ref mk, .ref mt]))) = ws_3 at J hk G3_0 G3_1
                refine lv_aload_n hx hb dX7_fence_132 rfl (lv_at hl 0 rfl) ?_
                refine z_get (C := RX7) (T := TX7) (N := 14) (ci := 8) (v := .int (nI (nf + 1))) X J hi_X7 11 G3_0 rfl 1 (by decide) (by decide +kernel) rfl dX7_fence_133 ?_
                refine lv_iconst (v := 1) hx hb dX7_fence_136 (by decide) ?_
                refine lv_isub hx hb dX7_fence_137 ?_
                refine W.eq (g2 := F0 m 138 ls [.int (nI nf)]) (congrArg (fun z9 : Int32 => F0 m 138 ls [.int z9]) (show ((nI (nf + 1)) - 1 : Int32) = nI nf from (nI_pred nf))) ?_
                have hk0 : (kFence co ro le dn he ga (nI nf)) = 0 := (if_neg (not_or_e3 (isInS_y cz12) (isInS_y cz23) (isInS_y cz33))).trans ((if_neg (not_or_e (by rw [if_pos cz48]; exact (isInS_y cz60)) (by rw [if_pos cz48]; exact (isInS_y cz81)))).trans (if_neg cz96))
                subst hQ
                exact W.iret (v := nI nf) hx hb hr (fun t ht hW => ⟨⟨nI nf, ws_3, rfl, ⟨hk, (by simp only [hk0, sel0, sel1, sel2, sel3]; exact G3_0), (by simp only [hk0, sel0, sel1, sel2, sel3]; exact G3_1), (by simp only [hk0, sel0, sel1, sel2, sel3])⟩, J.I X ht hW.alike⟩, J.F ht⟩) J.locs dX7_fence_138
              · refine lv_aload_n hx hb dX7_fence_99 rfl (lv_at hl 0 rfl) ?_
                refine lv_iconst (v := 3) hx hb dX7_fence_100 (by decide) ?_
                refine z_ci J (z_rV (As := [.int 3]) (rest := []) (ci := 8) (q0 := 11) X J (cX7_no_ok l E G1_0) (cwV 1 hts gX7_fence_X7_no rfl rfl rfl (by decide +kernel) ⟨Nat.le_of_ble_eq_true rfl, Nat.le_of_ble_eq_true rfl⟩) G1_0 rfl rfl rfl hl.1 rfl (Nat.le_of_ble_eq_true rfl) dX7_fence_101 ⟨Nat.le_of_ble_eq_true rfl, Nat.le_of_ble_eq_true rfl⟩) (fun r101 ws_2 H locs hp9 J => ?_)
                obtain ⟨k2, hl9_2, G2_a0, e_r101⟩ := hp9
                have hk := hk.trans (k2.mono (by decide))
                have G2_1 := k2.2 12 _ (by decide) G1_1
                subst e_r101
                have hk0 : (kFence co ro le dn he ga (nI nf)) = 3 := (if_neg (not_or_e3 (isInS_y cz12) (isInS_y cz23) (isInS_y cz33))).trans ((if_neg (not_or_e (by rw [if_pos cz48]; exact (isInS_y cz60)) (by rw [if_pos cz48]; exact (isInS_y cz81)))).trans (if_pos cz96))
                refine W.widen (k := 1) (n := 6) (by omega) (by omega) ?_
                subst hQ
                exact W.iret (v := 0) hx hb hr (fun t ht hW => ⟨⟨0, ws_2, rfl, ⟨hk, (by simp only [hk0, sel0, sel1, sel2, sel3]; exact G2_a0), (by simp only [hk0, sel0, sel1, sel2, sel3]; exact G2_1), (by simp only [hk0, sel0, sel1, sel2, sel3])⟩, J.I X ht hW.alike⟩, J.F ht⟩) J.locs dX7_fence_104
            · refine lv_aload_n hx hb dX7_fence_84 rfl (lv_at hl 0 rfl) ?_
              refine lv_iconst (v := 2) hx hb dX7_fence_85 (by decide) ?_
              refine z_ci J (z_rV (As := [.int 2]) (rest := []) (ci := 8) (q0 := 11) X J (cX7_no_ok l E G1_0) (cwV 1 hts gX7_fence_X7_no rfl rfl rfl (by decide +kernel) ⟨Nat.le_of_ble_eq_true rfl, Nat.le_of_ble_eq_true rfl⟩) G1_0 rfl rfl rfl hl.1 rfl (Nat.le_of_ble_eq_true rfl) dX7_fence_86 ⟨Nat.le_of_ble_eq_true rfl, Nat.le_of_ble_eq_true rfl⟩) (fun r86 ws_2 H locs hp9 J => ?_)
              obtain ⟨k2, hl9_2, G2_a0, e_r86⟩ := hp9
              have hk := hk.trans (k2.mono (by decide))
              have G2_1 := k2.2 12 _ (by decide) G1_1
              subst e_r86
              have hk0 : (kFence co ro le dn he ga (nI nf)) = 2 := (if_neg (not_or_e3 (isInS_y cz12) (isInS_y cz23) (isInS_y cz33))).trans (if_pos (Or.inr (by rw [if_pos cz48]; exact (isInS_n cz81))))
              refine W.widen (k := 1) (n := 6) (by omega) (by omega) ?_
              subst hQ
              exact W.iret (v := 0) hx hb hr (fun t ht hW => ⟨⟨0, ws_2, rfl, ⟨hk, (by simp only [hk0, sel0, sel1, sel2, sel3]; exact G2_a0), (by simp only [hk0, sel0, sel1, sel2, sel3]; exact G2_1), (by simp only [hk0, sel0, sel1, sel2, sel3])⟩, J.I X ht hW.alike⟩, J.F ht⟩) J.locs dX7_fence_89
        · refine lv_iconst (v := 1) hx hb dX7_fence_51 (by decide) ?_
          refine lv_goto (tgt := 56) hx hb dX7_fence_52 (by decide) ?_
          refine lv_isub hx hb dX7_fence_56 ?_
          refine z_cr (z_rS (As := [.int co, .int 0, .int (20 - 1)]) (rest := []) X J (cX7_isIn_ok l E) (va_cwS 3 hts gX7_fence_X7_isIn rfl rfl rfl (by decide +kernel) ⟨Nat.le_of_ble_eq_true rfl, Nat.le_of_ble_eq_true rfl⟩) rfl hl.1 rfl (Nat.le_of_ble_eq_true rfl) dX7_fence_57 ⟨Nat.le_of_ble_eq_true rfl, Nat.le_of_ble_eq_true rfl⟩) (fun r57 e_r57 => ?_)
          subst e_r57
          refine lv_if_eq (tgt := 84) hx hb dX7_fence_60 (by decide) (fun cz60 => ?_) (fun cz60 => ?_)
          · refine lv_aload_n hx hb dX7_fence_84 rfl (lv_at hl 0 rfl) ?_
            refine lv_iconst (v := 2) hx hb dX7_fence_85 (by decide) ?_
            refine z_ci J (z_rV (As := [.int 2]) (rest := []) (ci := 8) (q0 := 11) X J (cX7_no_ok l E G1_0) (cwV 1 hts gX7_fence_X7_no rfl rfl rfl (by decide +kernel) ⟨Nat.le_of_ble_eq_true rfl, Nat.le_of_ble_eq_true rfl⟩) G1_0 rfl rfl rfl hl.1 rfl (Nat.le_of_ble_eq_true rfl) dX7_fence_86 ⟨Nat.le_of_ble_eq_true rfl, Nat.le_of_ble_eq_true rfl⟩) (fun r86 ws_2 H locs hp9 J => ?_)
            obtain ⟨k2, hl9_2, G2_a0, e_r86⟩ := hp9
            have hk := hk.trans (k2.mono (by decide))
            have G2_1 := k2.2 12 _ (by decide) G1_1
            subst e_r86
            have hk0 : (kFence co ro le dn he ga (nI nf)) = 2 := (if_neg (not_or_e3 (isInS_y cz12) (isInS_y cz23) (isInS_y cz33))).trans (if_pos (Or.inl (by rw [if_neg cz48]; exact (isInS_n cz60))))
            refine W.widen (k := 1) (n := 6) (by omega) (by omega) ?_
            subst hQ
            exact W.iret (v := 0) hx hb hr (fun t ht hW => ⟨⟨0, ws_2, rfl, ⟨hk, (by simp only [hk0, sel0, sel1, sel2, sel3]; exact G2_a0), (by simp only [hk0, sel0, sel1, sel2, sel3]; exact G2_1), (by simp only [hk0, sel0, sel1, sel2, sel3])⟩, J.I X ht hW.alike⟩, J.F ht⟩) J.locs dX7_fence_89
          · refine lv_iload_n hx hb dX7_fence_63 rfl (lv_at hl 2 rfl) ?_
            refine lv_iconst (v := 0) hx hb dX7_fence_64 (by decide) ?_
            refine lv_bipush (v := 20) hx hb dX7_fence_65 (by decide) ?_
            refine lv_iload hx hb dX7_fence_67 (lv_at hl 4 rfl) ?_
            refine lv_if_eq (tgt := 76) hx hb dX7_fence_69 (by decide) (fun cz69 => by exact absurd cz69 cz48) (fun cz69 => ?_)
            refine lv_iload_n hx hb dX7_fence_72 rfl (lv_at hl 3 rfl) ?_
            refine lv_goto (tgt := 77) hx hb dX7_fence_73 (by decide) ?_
            refine lv_isub hx hb dX7_fence_77 ?_
            refine z_cr (z_rS (As := [.int ro, .int 0, .int (20 - le)]) (rest := []) X J (cX7_isIn_ok l E) (va_cwS 3 hts gX7_fence_X7_isIn rfl rfl rfl (by decide +kernel) ⟨Nat.le_of_ble_eq_true rfl, Nat.le_of_ble_eq_true rfl⟩) rfl hl.1 rfl (Nat.le_of_ble_eq_true rfl) dX7_fence_78 ⟨Nat.le_of_ble_eq_true rfl, Nat.le_of_ble_eq_true rfl⟩) (fun r78 e_r78 => ?_)
            subst e_r78
            refine lv_if_ne (tgt := 90) hx hb dX7_fence_81 (by decide) (fun cz81 => ?_) (fun cz81 => ?_)
            · refine lv_aload_n hx hb dX7_fence_90 rfl (lv_at hl 0 rfl) ?_
              refine z_get (C := RX7) (T := TX7) (N := 14) (ci := 8) (v := .int (nI nf)) X J hi_X7 11 G1_0 rfl 1 (by decide) (by decide +kernel) rfl dX7_fence_91 ?_
              refine lv_bipush (v := 10) hx hb dX7_fence_94 (by decide) ?_
              refine lv_icmp_ne (tgt := 105) hx hb dX7_fence_96 (by decide) (fun cz96 => ?_) (fun cz96 => ?_)
              · refine lv_aload_n hx hb dX7_fence_105 rfl (lv_at hl 0 rfl) ?_
                refine lv_aload_n hx hb dX7_fence_106 rfl (lv_at hl 0 rfl) ?_
                refine z_get (C := RX7) (T := TX7) (N := 14) (ci := 8) (v := .int (nI nf)) X J hi_X7 11 G1_0 rfl 1 (by decide) (by decide +kernel) rfl dX7_fence_107 ?_
                refine lv_iload_n hx hb dX7_fence_110 rfl (lv_at hl 1 rfl) ?_
                refine lv_iload_n hx hb dX7_fence_111 rfl (lv_at hl 2 rfl) ?_
                refine lv_iload_n hx hb dX7_fence_112 rfl (lv_at hl 3 rfl) ?_
                refine lv_iload hx hb dX7_fence_113 (lv_at hl 4 rfl) ?_
                refine lv_iload hx hb dX7_fence_115 (lv_at hl 5 rfl) ?_
                refine lv_iload hx hb dX7_fence_117 (lv_at hl 6 rfl) ?_
                have hnf10 : nf < 10 := Nat.lt_of_le_of_ne hnf (fun q => cz96 (by rw [q]; rfl))
                have hb99 := hk.1
                refine z_cv J (z_rV (As := [.int (nI nf), .int co, .int ro, .int le, .int dn, .int he, .int ga]) (rest := []) (ci := 8) (q0 := 11) X J (cX7_setUp_ok l E G1_0 G1_1 (by omega) (by omega) (by omega)) (cwV 7 hts gX7_fence_X7_setUp rfl rfl rfl (by decide +kernel) ⟨Nat.le_of_ble_eq_true rfl, Nat.le_of_ble_eq_true rfl⟩) G1_0 rfl rfl rfl hl.1 rfl (Nat.le_of_ble_eq_true rfl) dX7_fence_119 ⟨Nat.le_of_ble_eq_true rfl, Nat.le_of_ble_eq_true rfl⟩) (fun ws_2 H locs hp9 J => ?_)
                obtain ⟨k2, G2_a0⟩ := hp9
                have hk := hk.trans (k2.mono (by decide))
                have G2_0 := k2.2 11 _ (by decide) G1_0
                refine lv_aload_n hx hb dX7_fence_122 rfl (lv_at hl 0 rfl) ?_
                refine lv_dup hx hb dX7_fence_123 rfl ?_
                refine z_get (C := RX7) (T := TX7) (N := 14) (ci := 8) (v := .int (nI nf)) X J hi_X7 11 G2_0 rfl 1 (by decide) (by decide +kernel) rfl dX7_fence_124 ?_
                refine lv_iconst (v := 1) hx hb dX7_fence_127 (by decide) ?_
                refine lv_iadd hx hb dX7_fence_128 ?_
                refine W.eq (g2 := F0 m 129 ls [.int (nI (nf + 1)), .ref mo]) (congrArg (fun z9 : Int32 => F0 m 129 ls [.int z9, .ref mo]) (show ((nI nf) + 1 : Int32) = nI (nf + 1) from (nI_1 nf))) ?_
                refine z_put (C := RX7) (T := TX7) (N := 14) (ci := 8) (v := .int (nI (nf + 1))) X J hi_X7 tyX7 tyX7_ok nmX7 11 G2_0 rfl 1 (by decide) (by decide +kernel) rfl rfl rfl (Nat.le_of_ble_eq_true rfl) dX7_fence_129 (fun H locs J => ?_)
                have J : zJ E (ws_2.set 11 (mo, .inr (8, [.int 0, .int (nI (nf + 1)), .ref mf, .int (nI nr), .ref md, .ref mi, .int lim, .int sup, .int off, .int plo, .int hrs, .ref ms9, .ref mk, .ref mt]))) s H locs := J
                have hk := hk.trans (zK.set (ws := ws_2) (q := 11) (e := (mo, .inr (8, [.int 0, .int (nI (nf + 1)), .ref mf, .int (nI nr), .ref md, .ref mi, .int lim, .int sup, .int off, .int plo, .int hrs, .ref ms9, .ref mk, .ref mt]))) (by simp))
                have G3_0 := zset_eq (e' := (mo, .inr (8, [.int 0, .int (nI (nf + 1)), .ref mf, .int (nI nr), .ref md, .ref mi, .int lim, .int sup, .int off, .int plo, .int hrs, .ref ms9, .ref mk, .ref mt]))) G2_0
                have G3_1 := zset_ne (q := 11) (e' := (mo, .inr (8, [.int 0, .int (nI (nf + 1)), .ref mf, .int (nI nr), .ref md, .ref mi, .int lim, .int sup, .int off, .int plo, .int hrs, .ref ms9, .ref mk, .ref mt]))) (by decide) G2_a0
                generalize hws3 : (ws_2.set 11 (mo, .inr (8, [.int 0, .int (nI (nf + 1)), .ref mf, .int (nI nr), .ref md, .ref mi, .int lim, .int sup, .int off, .int plo, .int hrs, .ref ms9, .ref mk, .ref mt]))) = ws_3 at J hk G3_0 G3_1
                refine lv_aload_n hx hb dX7_fence_132 rfl (lv_at hl 0 rfl) ?_
                refine z_get (C := RX7) (T := TX7) (N := 14) (ci := 8) (v := .int (nI (nf + 1))) X J hi_X7 11 G3_0 rfl 1 (by decide) (by decide +kernel) rfl dX7_fence_133 ?_
                refine lv_iconst (v := 1) hx hb dX7_fence_136 (by decide) ?_
                refine lv_isub hx hb dX7_fence_137 ?_
                refine W.eq (g2 := F0 m 138 ls [.int (nI nf)]) (congrArg (fun z9 : Int32 => F0 m 138 ls [.int z9]) (show ((nI (nf + 1)) - 1 : Int32) = nI nf from (nI_pred nf))) ?_
                have hk0 : (kFence co ro le dn he ga (nI nf)) = 0 := (if_neg (not_or_e3 (isInS_y cz12) (isInS_y cz23) (isInS_y cz33))).trans ((if_neg (not_or_e (by rw [if_neg cz48]; exact (isInS_y cz60)) (by rw [if_neg cz48]; exact (isInS_y cz81)))).trans (if_neg cz96))
                subst hQ
                exact W.iret (v := nI nf) hx hb hr (fun t ht hW => ⟨⟨nI nf, ws_3, rfl, ⟨hk, (by simp only [hk0, sel0, sel1, sel2, sel3]; exact G3_0), (by simp only [hk0, sel0, sel1, sel2, sel3]; exact G3_1), (by simp only [hk0, sel0, sel1, sel2, sel3])⟩, J.I X ht hW.alike⟩, J.F ht⟩) J.locs dX7_fence_138
              · refine lv_aload_n hx hb dX7_fence_99 rfl (lv_at hl 0 rfl) ?_
                refine lv_iconst (v := 3) hx hb dX7_fence_100 (by decide) ?_
                refine z_ci J (z_rV (As := [.int 3]) (rest := []) (ci := 8) (q0 := 11) X J (cX7_no_ok l E G1_0) (cwV 1 hts gX7_fence_X7_no rfl rfl rfl (by decide +kernel) ⟨Nat.le_of_ble_eq_true rfl, Nat.le_of_ble_eq_true rfl⟩) G1_0 rfl rfl rfl hl.1 rfl (Nat.le_of_ble_eq_true rfl) dX7_fence_101 ⟨Nat.le_of_ble_eq_true rfl, Nat.le_of_ble_eq_true rfl⟩) (fun r101 ws_2 H locs hp9 J => ?_)
                obtain ⟨k2, hl9_2, G2_a0, e_r101⟩ := hp9
                have hk := hk.trans (k2.mono (by decide))
                have G2_1 := k2.2 12 _ (by decide) G1_1
                subst e_r101
                have hk0 : (kFence co ro le dn he ga (nI nf)) = 3 := (if_neg (not_or_e3 (isInS_y cz12) (isInS_y cz23) (isInS_y cz33))).trans ((if_neg (not_or_e (by rw [if_neg cz48]; exact (isInS_y cz60)) (by rw [if_neg cz48]; exact (isInS_y cz81)))).trans (if_pos cz96))
                refine W.widen (k := 1) (n := 6) (by omega) (by omega) ?_
                subst hQ
                exact W.iret (v := 0) hx hb hr (fun t ht hW => ⟨⟨0, ws_2, rfl, ⟨hk, (by simp only [hk0, sel0, sel1, sel2, sel3]; exact G2_a0), (by simp only [hk0, sel0, sel1, sel2, sel3]; exact G2_1), (by simp only [hk0, sel0, sel1, sel2, sel3])⟩, J.I X ht hW.alike⟩, J.F ht⟩) J.locs dX7_fence_104
            · refine lv_aload_n hx hb dX7_fence_84 rfl (lv_at hl 0 rfl) ?_
              refine lv_iconst (v := 2) hx hb dX7_fence_85 (by decide) ?_
              refine z_ci J (z_rV (As := [.int 2]) (rest := []) (ci := 8) (q0 := 11) X J (cX7_no_ok l E G1_0) (cwV 1 hts gX7_fence_X7_no rfl rfl rfl (by decide +kernel) ⟨Nat.le_of_ble_eq_true rfl, Nat.le_of_ble_eq_true rfl⟩) G1_0 rfl rfl rfl hl.1 rfl (Nat.le_of_ble_eq_true rfl) dX7_fence_86 ⟨Nat.le_of_ble_eq_true rfl, Nat.le_of_ble_eq_true rfl⟩) (fun r86 ws_2 H locs hp9 J => ?_)
              obtain ⟨k2, hl9_2, G2_a0, e_r86⟩ := hp9
              have hk := hk.trans (k2.mono (by decide))
              have G2_1 := k2.2 12 _ (by decide) G1_1
              subst e_r86
              have hk0 : (kFence co ro le dn he ga (nI nf)) = 2 := (if_neg (not_or_e3 (isInS_y cz12) (isInS_y cz23) (isInS_y cz33))).trans (if_pos (Or.inr (by rw [if_neg cz48]; exact (isInS_n cz81))))
              refine W.widen (k := 1) (n := 6) (by omega) (by omega) ?_
              subst hQ
              exact W.iret (v := 0) hx hb hr (fun t ht hW => ⟨⟨0, ws_2, rfl, ⟨hk, (by simp only [hk0, sel0, sel1, sel2, sel3]; exact G2_a0), (by simp only [hk0, sel0, sel1, sel2, sel3]; exact G2_1), (by simp only [hk0, sel0, sel1, sel2, sel3])⟩, J.I X ht hW.alike⟩, J.F ht⟩) J.locs dX7_fence_89
      · refine lv_aload_n hx hb dX7_fence_36 rfl (lv_at hl 0 rfl) ?_
        refine lv_iconst (v := 1) hx hb dX7_fence_37 (by decide) ?_
        refine z_ci J (z_rV (As := [.int 1]) (rest := []) (ci := 8) (q0 := 11) X J (cX7_no_ok l E G1_0) (cwV 1 hts gX7_fence_X7_no rfl rfl rfl (by decide +kernel) ⟨Nat.le_of_ble_eq_true rfl, Nat.le_of_ble_eq_true rfl⟩) G1_0 rfl rfl rfl hl.1 rfl (Nat.le_of_ble_eq_true rfl) dX7_fence_38 ⟨Nat.le_of_ble_eq_true rfl, Nat.le_of_ble_eq_true rfl⟩) (fun r38 ws_2 H locs hp9 J => ?_)
        obtain ⟨k2, hl9_2, G2_a0, e_r38⟩ := hp9
        have hk := hk.trans (k2.mono (by decide))
        have G2_1 := k2.2 12 _ (by decide) G1_1
        subst e_r38
        have hk0 : (kFence co ro le dn he ga (nI nf)) = 1 := if_pos (Or.inr (Or.inr (isInS_n cz33)))
        refine W.widen (k := 1) (n := 6) (by omega) (by omega) ?_
        subst hQ
        exact W.iret (v := 0) hx hb hr (fun t ht hW => ⟨⟨0, ws_2, rfl, ⟨hk, (by simp only [hk0, sel0, sel1, sel2, sel3]; exact G2_a0), (by simp only [hk0, sel0, sel1, sel2, sel3]; exact G2_1), (by simp only [hk0, sel0, sel1, sel2, sel3])⟩, J.I X ht hW.alike⟩, J.F ht⟩) J.locs dX7_fence_41
set_option maxHeartbeats 400000 in
set_option maxRecDepth 100000 in
theorem cX7_plough_ok (l : Launch) (E : zG) {ws : va_W} {mo mf md mi ms9 mk mt nf nr : Nat} {th lim sup off plo hrs : Int32} {rd ri sn : Nat → Int32} {x : Int32} (Fa0 : ws[11]? = some (mo, .inr (8, [.int th, .int (nI nf), .ref mf, .int (nI nr), .ref md, .ref mi, .int lim, .int sup, .int off, .int plo, .int hrs, .ref ms9, .ref mk, .ref mt]))) (Fa1 : ws[13]? = some (md, zI4 E 4 rd)) (Fa2 : ws[14]? = some (mi, zI4 E 4 ri)) (Fa3 : ws[15]? = some (ms9, zI4 E 400 sn)) (hnr : nr ≤ 4) (hor : ∀ q, q < nr → okR rd ri q) : Met l yX7_plough wsX7_plough ({ frames := 2, cells := 0, slots := 0, locals := 45 } : Room) (va_Pc [.ref mo, .int x] (zI E ws)) (va_Qi (fun (r : Int32) (ws' : va_W) => (zK [11, 15] ws ws') ∧ (ws'[11]? = some (mo, .inr (8, [.int (kIdx x (nI nr)), .int (nI nf), .ref mf, .int (nI nr), .ref md, .ref mi, .int lim, .int sup, .int off, .int (sel (kIdx x (nI nr)) (plo + sumG sn (rfi (rd x.toNatClampNeg) (ri x.toNatClampNeg)) (rd x.toNatClampNeg) 20) plo), .int hrs, .ref ms9, .ref mk, .ref mt]))) ∧ (ws'[15]? = some (ms9, zI4 E 400 (sel (kIdx x (nI nr)) (clrG sn (rfi (rd x.toNatClampNeg) (ri x.toNatClampNeg)) (rd x.toNatClampNeg) 20) sn))) ∧ (r = sel (kIdx x (nI nr)) (sumG sn (rfi (rd x.toNatClampNeg) (ri x.toNatClampNeg)) (rd x.toNatClampNeg) 20) 0)) (zI E) (zA E)) 0 0 (zA E) := by
  refine Met.ofW (cc := cX7_plough) (maxL := 4) (ret := (some .int)) (by decide) rfl ?_
  intro p e s m args below meth c s₁ B hml hv
  obtain ⟨hargs9, hI⟩ := hv
  have hx := B.exec
  have hb := B.bytes
  have hr := B.returns
  have hlocks := B.notSynchronized
  have X : zC E p m c cX7_plough 4 s args wsX7_plough RX7 := z_open B hml hI
  have hown := X.1.2.2.2.1
  have hts := X.1.2.2.2.2
  have J := hI.J
  have hi_X7 : ∀ w ∈ wsX70, w ∈ wsX7_plough := by decide +kernel
  have hk : zK [11, 15] ws ws := zK.rf
  have hl := lv_entry ([.ref mo, .int x]) (n := 4) (Nat.le_of_ble_eq_true rfl)
  rw [show entryFrame m args 4 = entryFrame m ([.ref mo, .int x] : List Value).toArray 4 from by rw [hargs9], lg_entry_eq]
  generalize (lg_sl ([.ref mo, .int x]) ++ List.replicate (4 - (lg_sl ([.ref mo, .int x])).length) Slot.unset).toArray = ls at hl ⊢
  have hl : lv_has ls 4 [(0, .ref mo), (1, .int x)] := hl
  generalize hQ : (MQ below (va_Qi (fun (r : Int32) (ws' : va_W) => (zK [11, 15] ws ws') ∧ (ws'[11]? = some (mo, .inr (8, [.int (kIdx x (nI nr)), .int (nI nf), .ref mf, .int (nI nr), .ref md, .ref mi, .int lim, .int sup, .int off, .int (sel (kIdx x (nI nr)) (plo + sumG sn (rfi (rd x.toNatClampNeg) (ri x.toNatClampNeg)) (rd x.toNatClampNeg) 20) plo), .int hrs, .ref ms9, .ref mk, .ref mt]))) ∧ (ws'[15]? = some (ms9, zI4 E 400 (sel (kIdx x (nI nr)) (clrG sn (rfi (rd x.toNatClampNeg) (ri x.toNatClampNeg)) (rd x.toNatClampNeg) 20) sn))) ∧ (r = sel (kIdx x (nI nr)) (sumG sn (rfi (rd x.toNatClampNeg) (ri x.toNatClampNeg)) (rd x.toNatClampNeg) 20) 0)) (zI E) (zA E)) args s 0 0 (zA E)) = QQ
  refine lv_aload_n hx hb dX7_plough_0 rfl (lv_at hl 0 rfl) ?_
  refine lv_iconst (v := 0) hx hb dX7_plough_1 (by decide) ?_
  refine z_put (C := RX7) (T := TX7) (N := 14) (ci := 8) (v := .int 0) X J hi_X7 tyX7 tyX7_ok nmX7 11 Fa0 rfl 0 (by decide) (by decide +kernel) rfl rfl rfl (Nat.le_of_ble_eq_true rfl) dX7_plough_2 (fun H locs J => ?_)
  have J : zJ E (ws.set 11 (mo, .inr (8, [.int 0, .int (nI nf), .ref mf, .int (nI nr), .ref md, .ref mi, .int lim, .int sup, .int off, .int plo, .int hrs, .ref ms9, .ref mk, .ref mt]))) s H locs := J
  have hk := hk.trans (zK.set (ws := ws) (q := 11) (e := (mo, .inr (8, [.int 0, .int (nI nf), .ref mf, .int (nI nr), .ref md, .ref mi, .int lim, .int sup, .int off, .int plo, .int hrs, .ref ms9, .ref mk, .ref mt]))) (by simp))
  have G1_0 := zset_eq (e' := (mo, .inr (8, [.int 0, .int (nI nf), .ref mf, .int (nI nr), .ref md, .ref mi, .int lim, .int sup, .int off, .int plo, .int hrs, .ref ms9, .ref mk, .ref mt]))) Fa0
  have G1_1 := zset_ne (q := 11) (e' := (mo, .inr (8, [.int 0, .int (nI nf), .ref mf, .int (nI nr), .ref md, .ref mi, .int lim, .int sup, .int off, .int plo, .int hrs, .ref ms9, .ref mk, .ref mt]))) (by decide) Fa1
  have G1_2 := zset_ne (q := 11) (e' := (mo, .inr (8, [.int 0, .int (nI nf), .ref mf, .int (nI nr), .ref md, .ref mi, .int lim, .int sup, .int off, .int plo, .int hrs, .ref ms9, .ref mk, .ref mt]))) (by decide) Fa2
  have G1_3 := zset_ne (q := 11) (e' := (mo, .inr (8, [.int 0, .int (nI nf), .ref mf, .int (nI nr), .ref md, .ref mi, .int lim, .int sup, .int off, .int plo, .int hrs, .ref ms9, .ref mk, .ref mt]))) (by decide) Fa3
  generalize hws1 : (ws.set 11 (mo, .inr (8, [.int 0, .int (nI nf), .ref mf, .int (nI nr), .ref md, .ref mi, .int lim, .int sup, .int off, .int plo, .int hrs, .ref ms9, .ref mk, .ref mt]))) = ws_1 at J hk G1_0 G1_1 G1_2 G1_3
  refine lv_aload_n hx hb dX7_plough_5 rfl (lv_at hl 0 rfl) ?_
  refine lv_iload_n hx hb dX7_plough_6 rfl (lv_at hl 1 rfl) ?_
  refine z_cr (z_rV (As := [.int x]) (rest := []) (ci := 8) (q0 := 11) X J (cX7_isRoad_ok l E G1_0) (cwV 1 hts gX7_plough_X7_isRoad rfl rfl rfl (by decide +kernel) ⟨Nat.le_of_ble_eq_true rfl, Nat.le_of_ble_eq_true rfl⟩) G1_0 rfl rfl rfl hl.1 rfl (Nat.le_of_ble_eq_true rfl) dX7_plough_7 ⟨Nat.le_of_ble_eq_true rfl, Nat.le_of_ble_eq_true rfl⟩) (fun r7 e_r7 => ?_)
  subst e_r7
  refine lv_if_ne (tgt := 19) hx hb dX7_plough_10 (by decide) (fun cz10 => ?_) (fun cz10 => ?_)
  · obtain ⟨q9, hq9, ek9⟩ := inR_nI (n := nr) (by omega) (isInS_y cz10)
    have hl : lv_has ls 4 [(0, .ref mo), (1, .int (nI q9))] := lv_repl hl (congrArg (fun z9 : Int32 => ([(0, .ref mo), (1, .int z9)] : List (Nat × Value))) (show x = nI q9 from ek9))
    have ex9 : x.toNatClampNeg = q9 := by rw [ek9, nI_clamp (by omega)]
    refine lv_aload_n hx hb dX7_plough_19 rfl (lv_at hl 0 rfl) ?_
    refine lv_iload_n hx hb dX7_plough_20 rfl (lv_at hl 1 rfl) ?_
    refine z_cr (z_rV (As := [.int (nI q9)]) (rest := []) (ci := 8) (q0 := 11) X J (cX7_onRoad_ok l E G1_0 G1_1 G1_2 G1_3 (by omega) (hor q9 hq9)) (cwV 1 hts gX7_plough_X7_onRoad rfl rfl rfl (by decide +kernel) ⟨Nat.le_of_ble_eq_true rfl, Nat.le_of_ble_eq_true rfl⟩) G1_0 rfl rfl rfl hl.1 rfl (Nat.le_of_ble_eq_true rfl) dX7_plough_21 ⟨Nat.le_of_ble_eq_true rfl, Nat.le_of_ble_eq_true rfl⟩) (fun r21 e_r21 => ?_)
    subst e_r21
    refine lv_istore_n (lv' := [(2, .int (sumG sn (rfi (rd q9) (ri q9)) (rd q9) 20)), (0, .ref mo), (1, .int (nI q9))]) hx hb dX7_plough_24 rfl hl (by decide) rfl (fun ls hl => ?_)
    refine lv_iconst (v := nI 0) hx hb dX7_plough_25 rfl ?_
    refine lv_istore_n (lv' := [(3, .int (nI 0)), (2, .int (sumG sn (rfi (rd q9) (ri q9)) (rd q9) 20)), (0, .ref mo), (1, .int (nI q9))]) hx hb dX7_plough_26 rfl hl (by decide) rfl (fun ls hl => ?_)
    have loop_27 : ∀ (k9 i : Nat), i + k9 = 20 → ∀ (wl27 : va_W) (H : Heap) (locs : List Loc) (ls : Array Slot), zK [11, 15] ws wl27 → wl27[11]? = some (mo, .inr (8, [.int 0, .int (nI nf), .ref mf, .int (nI nr), .ref md, .ref mi, .int lim, .int sup, .int off, .int plo, .int hrs, .ref ms9, .ref mk, .ref mt])) → wl27[13]? = some (md, zI4 E 4 rd) → wl27[14]? = some (mi, zI4 E 4 ri) → wl27[15]? = some (ms9, zI4 E 400 (clrG sn (rfi (rd q9) (ri q9)) (rd q9) i)) → zJ E wl27 s H locs → lv_has ls 4 [(3, .int (nI i)), (2, .int (sumG sn (rfi (rd q9) (ri q9)) (rd q9) 20)), (0, .ref mo), (1, .int (nI q9))] → W p l e (headSpec wsX7_plough ({ frames := 2, cells := 0, slots := 0, locals := 45 } : Room)).room s m args below meth c H locs 0 0 QQ (F0 m 27 ls []) := by
      intro k9
      induction k9 with
      | zero =>
        intro i hik wl27 H locs ls hk L27_0 L27_1 L27_2 L27_3 J hl
        obtain rfl : 20 = i := by omega
        refine lv_iload_n hx hb dX7_plough_27 rfl (lv_at hl 0 rfl) ?_
        refine lv_bipush (v := nI 20) hx hb dX7_plough_28 (by decide) ?_
        refine lv_icmp_ge (tgt := 51) hx hb dX7_plough_30 (by decide) (fun cz30 => ?_) (fun cz30 => by exact (cz30 (nI_le (Nat.le_refl _) (by omega))).elim)
        refine lv_aload_n hx hb dX7_plough_51 rfl (lv_at hl 2 rfl) ?_
        refine lv_dup hx hb dX7_plough_52 rfl ?_
        refine z_get (C := RX7) (T := TX7) (N := 14) (ci := 8) (v := .int plo) X J hi_X7 11 L27_0 rfl 9 (by decide) (by decide +kernel) rfl dX7_plough_53 ?_
        refine lv_iload_n hx hb dX7_plough_56 rfl (lv_at hl 1 rfl) ?_
        refine lv_iadd hx hb dX7_plough_57 ?_
        refine z_put (C := RX7) (T := TX7) (N := 14) (ci := 8) (v := .int (plo + (sumG sn (rfi (rd q9) (ri q9)) (rd q9) 20))) X J hi_X7 tyX7 tyX7_ok nmX7 11 L27_0 rfl 9 (by decide) (by decide +kernel) rfl rfl rfl (Nat.le_of_ble_eq_true rfl) dX7_plough_58 (fun H locs J => ?_)
        have J : zJ E (wl27.set 11 (mo, .inr (8, [.int 0, .int (nI nf), .ref mf, .int (nI nr), .ref md, .ref mi, .int lim, .int sup, .int off, .int (plo + (sumG sn (rfi (rd q9) (ri q9)) (rd q9) 20)), .int hrs, .ref ms9, .ref mk, .ref mt]))) s H locs := J
        have hk := hk.trans (zK.set (ws := wl27) (q := 11) (e := (mo, .inr (8, [.int 0, .int (nI nf), .ref mf, .int (nI nr), .ref md, .ref mi, .int lim, .int sup, .int off, .int (plo + (sumG sn (rfi (rd q9) (ri q9)) (rd q9) 20)), .int hrs, .ref ms9, .ref mk, .ref mt]))) (by simp))
        have G2_0 := zset_eq (e' := (mo, .inr (8, [.int 0, .int (nI nf), .ref mf, .int (nI nr), .ref md, .ref mi, .int lim, .int sup, .int off, .int (plo + (sumG sn (rfi (rd q9) (ri q9)) (rd q9) 20)), .int hrs, .ref ms9, .ref mk, .ref mt]))) L27_0
        have G2_1 := zset_ne (q := 11) (e' := (mo, .inr (8, [.int 0, .int (nI nf), .ref mf, .int (nI nr), .ref md, .ref mi, .int lim, .int sup, .int off, .int (plo + (sumG sn (rfi (rd q9) (ri q9)) (rd q9) 20)), .int hrs, .ref ms9, .ref mk, .ref mt]))) (by decide) L27_1
        have G2_2 := zset_ne (q := 11) (e' := (mo, .inr (8, [.int 0, .int (nI nf), .ref mf, .int (nI nr), .ref md, .ref mi, .int lim, .int sup, .int off, .int (plo + (sumG sn (rfi (rd q9) (ri q9)) (rd q9) 20)), .int hrs, .ref ms9, .ref mk, .ref mt]))) (by decide) L27_2
        have G2_3 := zset_ne (q := 11) (e' := (mo, .inr (8, [.int 0, .int (nI nf), .ref mf, .int (nI nr), .ref md, .ref mi, .int lim, .int sup, .int off, .int (plo + (sumG sn (rfi (rd q9) (ri q9)) (rd q9) 20)), .int hrs, .ref ms9, .ref mk, .ref mt]))) (by decide) L27_3
        generalize hws2 : (wl27.set 11 (mo, .inr (8, [.int 0, .int (nI nf), .ref mf, .int (nI nr), .ref md, .ref mi, .int lim, .int sup, .int off, .int (plo + (sumG sn (rfi (rd q9) (ri q9)) (rd q9) 20)), .int hrs, .ref ms9, .ref mk, .ref mt]))) = ws_2 at J hk G2_0 G2_1 G2_2 G2_3
        refine lv_iload_n hx hb dX7_plough_61 rfl (lv_at hl 1 rfl) ?_
        have hk0 : (kIdx x (nI nr)) = 0 := if_pos (isInS_y cz10)
        subst hQ
        exact W.iret (v := sumG sn (rfi (rd q9) (ri q9)) (rd q9) 20) hx hb hr (fun t ht hW => ⟨⟨sumG sn (rfi (rd q9) (ri q9)) (rd q9) 20, ws_2, rfl, ⟨hk, (by simp only [hk0, sel0, sel1, sel2, sel3]; (try rw [ex9]); exact G2_0), (by simp only [hk0, sel0, sel1, sel2, sel3]; (try rw [ex9]); exact G2_3), (by simp only [hk0, sel0, sel1]; try rw [ex9])⟩, J.I X ht hW.alike⟩, J.F ht⟩) J.locs dX7_plough_62
      | succ k9 ih_27 =>
        intro i hik wl27 H locs ls hk L27_0 L27_1 L27_2 L27_3 J hl
        refine lv_iload_n hx hb dX7_plough_27 rfl (lv_at hl 0 rfl) ?_
        refine lv_bipush (v := nI 20) hx hb dX7_plough_28 (by decide) ?_
        refine lv_icmp_ge (tgt := 51) hx hb dX7_plough_30 (by decide) (fun cz30 => by exact (nI_ge (by omega) (by omega) cz30).elim) (fun cz30 => ?_)
        refine lv_aload_n hx hb dX7_plough_33 rfl (lv_at hl 2 rfl) ?_
        refine z_get (C := RX7) (T := TX7) (N := 14) (ci := 8) (v := .ref ms9) X J hi_X7 11 L27_0 rfl 11 (by decide) (by decide +kernel) rfl dX7_plough_34 ?_
        refine lv_aload_n hx hb dX7_plough_37 rfl (lv_at hl 2 rfl) ?_
        refine lv_iload_n hx hb dX7_plough_38 rfl (lv_at hl 3 rfl) ?_
        refine lv_iload_n hx hb dX7_plough_39 rfl (lv_at hl 0 rfl) ?_
        refine z_cr (z_rV (As := [.int (nI q9), .int (nI i)]) (rest := [.ref ms9]) (ci := 8) (q0 := 11) X J (cX7_cellOf_ok l E L27_0 L27_1 L27_2 (by omega) ((hor q9 hq9).1)) (cwV 2 hts gX7_plough_X7_cellOf rfl rfl rfl (by decide +kernel) ⟨Nat.le_of_ble_eq_true rfl, Nat.le_of_ble_eq_true rfl⟩) L27_0 rfl rfl rfl hl.1 rfl (Nat.le_of_ble_eq_true rfl) dX7_plough_40 ⟨Nat.le_of_ble_eq_true rfl, Nat.le_of_ble_eq_true rfl⟩) (fun r40 e_r40 => ?_)
        subst e_r40
        refine lv_iconst (v := 0) hx hb dX7_plough_43 (by decide) ?_
        refine z_iast X J 15 L27_3 ((hor q9 hq9).vp (by omega)) dX7_plough_44 (fun H locs J => ?_)
        rw [show upd (clrG sn (rfi (rd q9) (ri q9)) (rd q9) i) (cellAt (rfi (rd q9) (ri q9)) (rd q9) i).toNatClampNeg 0 = clrG sn (rfi (rd q9) (ri q9)) (rd q9) (i + 1) from (gp_vp ((hor q9 hq9).vp (by omega)))] at J
        have hk := hk.trans (zK.set (ws := wl27) (q := 15) (e := (ms9, zI4 E 400 (clrG sn (rfi (rd q9) (ri q9)) (rd q9) (i + 1)))) (by simp))
        have G2_0 := zset_ne (q := 15) (e' := (ms9, zI4 E 400 (clrG sn (rfi (rd q9) (ri q9)) (rd q9) (i + 1)))) (by decide) L27_0
        have G2_1 := zset_ne (q := 15) (e' := (ms9, zI4 E 400 (clrG sn (rfi (rd q9) (ri q9)) (rd q9) (i + 1)))) (by decide) L27_1
        have G2_2 := zset_ne (q := 15) (e' := (ms9, zI4 E 400 (clrG sn (rfi (rd q9) (ri q9)) (rd q9) (i + 1)))) (by decide) L27_2
        have G2_3 := zset_eq (e' := (ms9, zI4 E 400 (clrG sn (rfi (rd q9) (ri q9)) (rd q9) (i + 1)))) L27_3
        generalize hws2 : (wl27.set 15 (ms9, zI4 E 400 (clrG sn (rfi (rd q9) (ri q9)) (rd q9) (i + 1)))) = ws_2 at J hk G2_0 G2_1 G2_2 G2_3
        refine lv_iinc (v := nI (i + 1)) (lv' := [(3, .int (nI (i + 1))), (2, .int (sumG sn (rfi (rd q9) (ri q9)) (rd q9) 20)), (0, .ref mo), (1, .int (nI q9))]) hx hb dX7_plough_45 hl (k := 0) rfl (nI_1 i) (by decide) rfl (fun ls hl => ?_)
        refine lv_goto (tgt := 27) hx hb dX7_plough_48 (by decide) ?_
        exact ih_27 (i + 1) (by omega) _ _ _ _ hk G2_0 G2_1 G2_2 G2_3 J (lv_sub hl [0, 1, 2, 3] rfl)
    exact loop_27 20 0 (by omega) _ _ _ _ hk G1_0 G1_1 G1_2 G1_3 J (lv_sub hl [0, 1, 2, 3] rfl)
  · refine lv_aload_n hx hb dX7_plough_13 rfl (lv_at hl 0 rfl) ?_
    refine lv_iconst (v := 1) hx hb dX7_plough_14 (by decide) ?_
    refine z_ci J (z_rV (As := [.int 1]) (rest := []) (ci := 8) (q0 := 11) X J (cX7_no_ok l E G1_0) (cwV 1 hts gX7_plough_X7_no rfl rfl rfl (by decide +kernel) ⟨Nat.le_of_ble_eq_true rfl, Nat.le_of_ble_eq_true rfl⟩) G1_0 rfl rfl rfl hl.1 rfl (Nat.le_of_ble_eq_true rfl) dX7_plough_15 ⟨Nat.le_of_ble_eq_true rfl, Nat.le_of_ble_eq_true rfl⟩) (fun r15 ws_2 H locs hp9 J => ?_)
    obtain ⟨k2, hl9_2, G2_a0, e_r15⟩ := hp9
    have hk := hk.trans (k2.mono (by decide))
    have G2_1 := k2.2 13 _ (by decide) G1_1
    have G2_2 := k2.2 14 _ (by decide) G1_2
    have G2_3 := k2.2 15 _ (by decide) G1_3
    subst e_r15
    have hk0 : (kIdx x (nI nr)) = 1 := if_neg (isInS_n cz10)
    subst hQ
    exact W.iret (v := 0) hx hb hr (fun t ht hW => ⟨⟨0, ws_2, rfl, ⟨hk, (by simp only [hk0, sel0, sel1, sel2, sel3]; (try rw [ex9]); exact G2_a0), (by simp only [hk0, sel0, sel1, sel2, sel3]; (try rw [ex9]); exact G2_3), (by simp only [hk0, sel0, sel1]; try rw [ex9])⟩, J.I X ht hW.alike⟩, J.F ht⟩) J.locs dX7_plough_18
set_option maxHeartbeats 400000 in
set_option maxRecDepth 100000 in
theorem cX7_snow_ok (l : Launch) (E : zG) {ws : va_W} {mo mf md mi ms9 mk mt nf nr : Nat} {th lim sup off plo hrs : Int32} {sn : Nat → Int32} {co ro : Int32} (Fa0 : ws[11]? = some (mo, .inr (8, [.int th, .int (nI nf), .ref mf, .int (nI nr), .ref md, .ref mi, .int lim, .int sup, .int off, .int plo, .int hrs, .ref ms9, .ref mk, .ref mt]))) (Fa1 : ws[15]? = some (ms9, zI4 E 400 sn))  : Met l yX7_snow wsX7_snow ({ frames := 1, cells := 0, slots := 0, locals := 22 } : Room) (va_Pc [.ref mo, .int co, .int ro] (zI E ws)) (va_Qi (fun (r : Int32) (ws' : va_W) => (zK [11] ws ws') ∧ (ws'[11]? = some (mo, .inr (8, [.int (kSnow co ro), .int (nI nf), .ref mf, .int (nI nr), .ref md, .ref mi, .int lim, .int sup, .int off, .int plo, .int hrs, .ref ms9, .ref mk, .ref mt]))) ∧ (r = sel (kSnow co ro) (gd sn (ro * 20 + co)) 0)) (zI E) (zA E)) 0 0 (zA E) := by
  refine Met.ofW (cc := cX7_snow) (maxL := 3) (ret := (some .int)) (by decide) rfl ?_
  intro p e s m args below meth c s₁ B hml hv
  obtain ⟨hargs9, hI⟩ := hv
  have hx := B.exec
  have hb := B.bytes
  have hr := B.returns
  have hlocks := B.notSynchronized
  have X : zC E p m c cX7_snow 3 s args wsX7_snow RX7 := z_open B hml hI
  have hown := X.1.2.2.2.1
  have hts := X.1.2.2.2.2
  have J := hI.J
  have hi_X7 : ∀ w ∈ wsX70, w ∈ wsX7_snow := by decide +kernel
  have hk : zK [11] ws ws := zK.rf
  have hl := lv_entry ([.ref mo, .int co, .int ro]) (n := 3) (Nat.le_of_ble_eq_true rfl)
  rw [show entryFrame m args 3 = entryFrame m ([.ref mo, .int co, .int ro] : List Value).toArray 3 from by rw [hargs9], lg_entry_eq]
  generalize (lg_sl ([.ref mo, .int co, .int ro]) ++ List.replicate (3 - (lg_sl ([.ref mo, .int co, .int ro])).length) Slot.unset).toArray = ls at hl ⊢
  have hl : lv_has ls 3 [(0, .ref mo), (1, .int co), (2, .int ro)] := hl
  generalize hQ : (MQ below (va_Qi (fun (r : Int32) (ws' : va_W) => (zK [11] ws ws') ∧ (ws'[11]? = some (mo, .inr (8, [.int (kSnow co ro), .int (nI nf), .ref mf, .int (nI nr), .ref md, .ref mi, .int lim, .int sup, .int off, .int plo, .int hrs, .ref ms9, .ref mk, .ref mt]))) ∧ (r = sel (kSnow co ro) (gd sn (ro * 20 + co)) 0)) (zI E) (zA E)) args s 0 0 (zA E)) = QQ
  refine lv_aload_n hx hb dX7_snow_0 rfl (lv_at hl 0 rfl) ?_
  refine lv_iconst (v := 0) hx hb dX7_snow_1 (by decide) ?_
  refine z_put (C := RX7) (T := TX7) (N := 14) (ci := 8) (v := .int 0) X J hi_X7 tyX7 tyX7_ok nmX7 11 Fa0 rfl 0 (by decide) (by decide +kernel) rfl rfl rfl (Nat.le_of_ble_eq_true rfl) dX7_snow_2 (fun H locs J => ?_)
  have J : zJ E (ws.set 11 (mo, .inr (8, [.int 0, .int (nI nf), .ref mf, .int (nI nr), .ref md, .ref mi, .int lim, .int sup, .int off, .int plo, .int hrs, .ref ms9, .ref mk, .ref mt]))) s H locs := J
  have hk := hk.trans (zK.set (ws := ws) (q := 11) (e := (mo, .inr (8, [.int 0, .int (nI nf), .ref mf, .int (nI nr), .ref md, .ref mi, .int lim, .int sup, .int off, .int plo, .int hrs, .ref ms9, .ref mk, .ref mt]))) (by simp))
  have G1_0 := zset_eq (e' := (mo, .inr (8, [.int 0, .int (nI nf), .ref mf, .int (nI nr), .ref md, .ref mi, .int lim, .int sup, .int off, .int plo, .int hrs, .ref ms9, .ref mk, .ref mt]))) Fa0
  have G1_1 := zset_ne (q := 11) (e' := (mo, .inr (8, [.int 0, .int (nI nf), .ref mf, .int (nI nr), .ref md, .ref mi, .int lim, .int sup, .int off, .int plo, .int hrs, .ref ms9, .ref mk, .ref mt]))) (by decide) Fa1
  generalize hws1 : (ws.set 11 (mo, .inr (8, [.int 0, .int (nI nf), .ref mf, .int (nI nr), .ref md, .ref mi, .int lim, .int sup, .int off, .int plo, .int hrs, .ref ms9, .ref mk, .ref mt]))) = ws_1 at J hk G1_0 G1_1
  refine lv_iload_n hx hb dX7_snow_5 rfl (lv_at hl 1 rfl) ?_
  refine lv_iconst (v := 0) hx hb dX7_snow_6 (by decide) ?_
  refine lv_bipush (v := 19) hx hb dX7_snow_7 (by decide) ?_
  refine z_cr (z_rS (As := [.int co, .int 0, .int 19]) (rest := []) X J (cX7_isIn_ok l E) (va_cwS 3 hts gX7_snow_X7_isIn rfl rfl rfl (by decide +kernel) ⟨Nat.le_of_ble_eq_true rfl, Nat.le_of_ble_eq_true rfl⟩) rfl hl.1 rfl (Nat.le_of_ble_eq_true rfl) dX7_snow_9 ⟨Nat.le_of_ble_eq_true rfl, Nat.le_of_ble_eq_true rfl⟩) (fun r9 e_r9 => ?_)
  subst e_r9
  refine lv_if_eq (tgt := 39) hx hb dX7_snow_12 (by decide) (fun cz12 => ?_) (fun cz12 => ?_)
  · refine lv_aload_n hx hb dX7_snow_39 rfl (lv_at hl 0 rfl) ?_
    refine lv_iconst (v := 1) hx hb dX7_snow_40 (by decide) ?_
    refine z_ci J (z_rV (As := [.int 1]) (rest := []) (ci := 8) (q0 := 11) X J (cX7_no_ok l E G1_0) (cwV 1 hts gX7_snow_X7_no rfl rfl rfl (by decide +kernel) ⟨Nat.le_of_ble_eq_true rfl, Nat.le_of_ble_eq_true rfl⟩) G1_0 rfl rfl rfl hl.1 rfl (Nat.le_of_ble_eq_true rfl) dX7_snow_41 ⟨Nat.le_of_ble_eq_true rfl, Nat.le_of_ble_eq_true rfl⟩) (fun r41 ws_2 H locs hp9 J => ?_)
    obtain ⟨k2, hl9_2, G2_a0, e_r41⟩ := hp9
    have hk := hk.trans (k2.mono (by decide))
    have G2_1 := k2.2 15 _ (by decide) G1_1
    subst e_r41
    have hk0 : (kSnow co ro) = 1 := if_neg (fun q => (isInS_n cz12) q.1)
    subst hQ
    exact W.iret (v := 0) hx hb hr (fun t ht hW => ⟨⟨0, ws_2, rfl, ⟨hk, (by simp only [hk0, sel0, sel1, sel2, sel3]; exact G2_a0), (by simp only [hk0, sel0, sel1]; try (rw [ekca9, ekra9, Int32.mul_comm, nI_20, gd_nI (by omega)]))⟩, J.I X ht hW.alike⟩, J.F ht⟩) J.locs dX7_snow_44
  · refine lv_iload_n hx hb dX7_snow_15 rfl (lv_at hl 2 rfl) ?_
    refine lv_iconst (v := 0) hx hb dX7_snow_16 (by decide) ?_
    refine lv_bipush (v := 19) hx hb dX7_snow_17 (by decide) ?_
    refine z_cr (z_rS (As := [.int ro, .int 0, .int 19]) (rest := []) X J (cX7_isIn_ok l E) (va_cwS 3 hts gX7_snow_X7_isIn rfl rfl rfl (by decide +kernel) ⟨Nat.le_of_ble_eq_true rfl, Nat.le_of_ble_eq_true rfl⟩) rfl hl.1 rfl (Nat.le_of_ble_eq_true rfl) dX7_snow_19 ⟨Nat.le_of_ble_eq_true rfl, Nat.le_of_ble_eq_true rfl⟩) (fun r19 e_r19 => ?_)
    subst e_r19
    refine lv_if_eq (tgt := 39) hx hb dX7_snow_22 (by decide) (fun cz22 => ?_) (fun cz22 => ?_)
    · refine lv_aload_n hx hb dX7_snow_39 rfl (lv_at hl 0 rfl) ?_
      refine lv_iconst (v := 1) hx hb dX7_snow_40 (by decide) ?_
      refine z_ci J (z_rV (As := [.int 1]) (rest := []) (ci := 8) (q0 := 11) X J (cX7_no_ok l E G1_0) (cwV 1 hts gX7_snow_X7_no rfl rfl rfl (by decide +kernel) ⟨Nat.le_of_ble_eq_true rfl, Nat.le_of_ble_eq_true rfl⟩) G1_0 rfl rfl rfl hl.1 rfl (Nat.le_of_ble_eq_true rfl) dX7_snow_41 ⟨Nat.le_of_ble_eq_true rfl, Nat.le_of_ble_eq_true rfl⟩) (fun r41 ws_2 H locs hp9 J => ?_)
      obtain ⟨k2, hl9_2, G2_a0, e_r41⟩ := hp9
      have hk := hk.trans (k2.mono (by decide))
      have G2_1 := k2.2 15 _ (by decide) G1_1
      subst e_r41
      have hk0 : (kSnow co ro) = 1 := if_neg (fun q => (isInS_n cz22) q.2)
      subst hQ
      exact W.iret (v := 0) hx hb hr (fun t ht hW => ⟨⟨0, ws_2, rfl, ⟨hk, (by simp only [hk0, sel0, sel1, sel2, sel3]; exact G2_a0), (by simp only [hk0, sel0, sel1]; try (rw [ekca9, ekra9, Int32.mul_comm, nI_20, gd_nI (by omega)]))⟩, J.I X ht hW.alike⟩, J.F ht⟩) J.locs dX7_snow_44
    · obtain ⟨ca9, hca9, ekca9⟩ := inR_nI (n := 20) (by decide) (i := co) (isInS_y cz12)
      have hl : lv_has ls 3 [(0, .ref mo), (1, .int (nI ca9)), (2, .int ro)] := lv_repl hl (congrArg (fun z9 : Int32 => ([(0, .ref mo), (1, .int z9), (2, .int ro)] : List (Nat × Value))) (show co = nI ca9 from ekca9))
      obtain ⟨ra9, hra9, ekra9⟩ := inR_nI (n := 20) (by decide) (i := ro) (isInS_y cz22)
      have hl : lv_has ls 3 [(0, .ref mo), (1, .int (nI ca9)), (2, .int (nI ra9))] := lv_repl hl (congrArg (fun z9 : Int32 => ([(0, .ref mo), (1, .int (nI ca9)), (2, .int z9)] : List (Nat × Value))) (show ro = nI ra9 from ekra9))
      refine lv_aload_n hx hb dX7_snow_25 rfl (lv_at hl 0 rfl) ?_
      refine z_get (C := RX7) (T := TX7) (N := 14) (ci := 8) (v := .ref ms9) X J hi_X7 11 G1_0 rfl 11 (by decide) (by decide +kernel) rfl dX7_snow_26 ?_
      refine lv_bipush (v := 20) hx hb dX7_snow_29 (by decide) ?_
      refine lv_iload_n hx hb dX7_snow_31 rfl (lv_at hl 2 rfl) ?_
      refine lv_imul hx hb dX7_snow_32 ?_
      refine lv_iload_n hx hb dX7_snow_33 rfl (lv_at hl 1 rfl) ?_
      refine lv_iadd hx hb dX7_snow_34 ?_
      refine W.eq (g2 := F0 m 35 ls [.int (nI (20 * ra9 + ca9)), .ref ms9]) (congrArg (fun z9 : Int32 => F0 m 35 ls [.int z9, .ref ms9]) (show ((20 * (nI ra9)) + (nI ca9) : Int32) = nI (20 * ra9 + ca9) from (nI_20 ra9 ca9))) ?_
      refine z_iald X J 15 G1_1 (vp_in_nI (by omega) (by decide)) dX7_snow_35 ?_
      refine W.eq (g2 := F0 m 36 ls [.int (sn (20 * ra9 + ca9))]) (congrArg (fun z9 : Int32 => F0 m 36 ls [.int z9]) (show (sn (nI (20 * ra9 + ca9)).toNatClampNeg : Int32) = sn (20 * ra9 + ca9) from (congrArg _ (nI_clamp (by omega))))) ?_
      refine lv_goto (tgt := 44) hx hb dX7_snow_36 (by decide) ?_
      have hk0 : (kSnow co ro) = 0 := if_pos ⟨(isInS_y cz12), (isInS_y cz22)⟩
      subst hQ
      exact W.iret (v := sn (20 * ra9 + ca9)) hx hb hr (fun t ht hW => ⟨⟨sn (20 * ra9 + ca9), ws_1, rfl, ⟨hk, (by simp only [hk0, sel0, sel1, sel2, sel3]; exact G1_0), (by simp only [hk0, sel0, sel1]; try (rw [ekca9, ekra9, Int32.mul_comm, nI_20, gd_nI (by omega)]))⟩, J.I X ht hW.alike⟩, J.F ht⟩) J.locs dX7_snow_44
set_option maxHeartbeats 400000 in
set_option maxRecDepth 100000 in
theorem cX7_about_ok (l : Launch) (E : zG) {ws : va_W} {mo mf md mi ms9 mk mt nf nr : Nat} {th lim sup off plo hrs : Int32} {fa sn : Nat → Int32} {x w : Int32} (Fa0 : ws[11]? = some (mo, .inr (8, [.int th, .int (nI nf), .ref mf, .int (nI nr), .ref md, .ref mi, .int lim, .int sup, .int off, .int plo, .int hrs, .ref ms9, .ref mk, .ref mt]))) (Fa1 : ws[12]? = some (mf, zI4 E 66 fa)) (Fa2 : ws[15]? = some (ms9, zI4 E 400 sn)) (hnf : nf ≤ 10) (hok : ∀ j, j < nf → okF fa j) : Met l yX7_about wsX7_about ({ frames := 3, cells := 0, slots := 0, locals := 68 } : Room) (va_Pc [.ref mo, .int x, .int w] (zI E ws)) (va_Qi (fun (r : Int32) (ws' : va_W) => (zK [11] ws ws') ∧ (ws'[11]? = some (mo, .inr (8, [.int (kAsk x (nI nf) w 6), .int (nI nf), .ref mf, .int (nI nr), .ref md, .ref mi, .int lim, .int sup, .int off, .int plo, .int hrs, .ref ms9, .ref mk, .ref mt]))) ∧ (r = sel (kAsk x (nI nf) w 6) (aboutS fa sn x.toNatClampNeg w.toNatClampNeg) 0)) (zI E) (zA E)) 0 0 (zA E) := by
  refine Met.ofW (cc := cX7_about) (maxL := 3) (ret := (some .int)) (by decide) rfl ?_
  intro p e s m args below meth c s₁ B hml hv
  obtain ⟨hargs9, hI⟩ := hv
  have hx := B.exec
  have hb := B.bytes
  have hr := B.returns
  have hlocks := B.notSynchronized
  have X : zC E p m c cX7_about 3 s args wsX7_about RX7 := z_open B hml hI
  have hown := X.1.2.2.2.1
  have hts := X.1.2.2.2.2
  have J := hI.J
  have hi_X7 : ∀ w ∈ wsX70, w ∈ wsX7_about := by decide +kernel
  have hk : zK [11] ws ws := zK.rf
  have hl := lv_entry ([.ref mo, .int x, .int w]) (n := 3) (Nat.le_of_ble_eq_true rfl)
  rw [show entryFrame m args 3 = entryFrame m ([.ref mo, .int x, .int w] : List Value).toArray 3 from by rw [hargs9], lg_entry_eq]
  generalize (lg_sl ([.ref mo, .int x, .int w]) ++ List.replicate (3 - (lg_sl ([.ref mo, .int x, .int w])).length) Slot.unset).toArray = ls at hl ⊢
  have hl : lv_has ls 3 [(0, .ref mo), (1, .int x), (2, .int w)] := hl
  generalize hQ : (MQ below (va_Qi (fun (r : Int32) (ws' : va_W) => (zK [11] ws ws') ∧ (ws'[11]? = some (mo, .inr (8, [.int (kAsk x (nI nf) w 6), .int (nI nf), .ref mf, .int (nI nr), .ref md, .ref mi, .int lim, .int sup, .int off, .int plo, .int hrs, .ref ms9, .ref mk, .ref mt]))) ∧ (r = sel (kAsk x (nI nf) w 6) (aboutS fa sn x.toNatClampNeg w.toNatClampNeg) 0)) (zI E) (zA E)) args s 0 0 (zA E)) = QQ
  refine lv_aload_n hx hb dX7_about_0 rfl (lv_at hl 0 rfl) ?_
  refine lv_iconst (v := 0) hx hb dX7_about_1 (by decide) ?_
  refine z_put (C := RX7) (T := TX7) (N := 14) (ci := 8) (v := .int 0) X J hi_X7 tyX7 tyX7_ok nmX7 11 Fa0 rfl 0 (by decide) (by decide +kernel) rfl rfl rfl (Nat.le_of_ble_eq_true rfl) dX7_about_2 (fun H locs J => ?_)
  have J : zJ E (ws.set 11 (mo, .inr (8, [.int 0, .int (nI nf), .ref mf, .int (nI nr), .ref md, .ref mi, .int lim, .int sup, .int off, .int plo, .int hrs, .ref ms9, .ref mk, .ref mt]))) s H locs := J
  have hk := hk.trans (zK.set (ws := ws) (q := 11) (e := (mo, .inr (8, [.int 0, .int (nI nf), .ref mf, .int (nI nr), .ref md, .ref mi, .int lim, .int sup, .int off, .int plo, .int hrs, .ref ms9, .ref mk, .ref mt]))) (by simp))
  have G1_0 := zset_eq (e' := (mo, .inr (8, [.int 0, .int (nI nf), .ref mf, .int (nI nr), .ref md, .ref mi, .int lim, .int sup, .int off, .int plo, .int hrs, .ref ms9, .ref mk, .ref mt]))) Fa0
  have G1_1 := zset_ne (q := 11) (e' := (mo, .inr (8, [.int 0, .int (nI nf), .ref mf, .int (nI nr), .ref md, .ref mi, .int lim, .int sup, .int off, .int plo, .int hrs, .ref ms9, .ref mk, .ref mt]))) (by decide) Fa1
  have G1_2 := zset_ne (q := 11) (e' := (mo, .inr (8, [.int 0, .int (nI nf), .ref mf, .int (nI nr), .ref md, .ref mi, .int lim, .int sup, .int off, .int plo, .int hrs, .ref ms9, .ref mk, .ref mt]))) (by decide) Fa2
  generalize hws1 : (ws.set 11 (mo, .inr (8, [.int 0, .int (nI nf), .ref mf, .int (nI nr), .ref md, .ref mi, .int lim, .int sup, .int off, .int plo, .int hrs, .ref ms9, .ref mk, .ref mt]))) = ws_1 at J hk G1_0 G1_1 G1_2
  refine lv_aload_n hx hb dX7_about_5 rfl (lv_at hl 0 rfl) ?_
  refine lv_iload_n hx hb dX7_about_6 rfl (lv_at hl 1 rfl) ?_
  refine z_cr (z_rV (As := [.int x]) (rest := []) (ci := 8) (q0 := 11) X J (cX7_isFence_ok l E G1_0) (cwV 1 hts gX7_about_X7_isFence rfl rfl rfl (by decide +kernel) ⟨Nat.le_of_ble_eq_true rfl, Nat.le_of_ble_eq_true rfl⟩) G1_0 rfl rfl rfl hl.1 rfl (Nat.le_of_ble_eq_true rfl) dX7_about_7 ⟨Nat.le_of_ble_eq_true rfl, Nat.le_of_ble_eq_true rfl⟩) (fun r7 e_r7 => ?_)
  subst e_r7
  refine lv_if_eq (tgt := 32) hx hb dX7_about_10 (by decide) (fun cz10 => ?_) (fun cz10 => ?_)
  · refine lv_aload_n hx hb dX7_about_32 rfl (lv_at hl 0 rfl) ?_
    refine lv_iconst (v := 1) hx hb dX7_about_33 (by decide) ?_
    refine z_ci J (z_rV (As := [.int 1]) (rest := []) (ci := 8) (q0 := 11) X J (cX7_no_ok l E G1_0) (cwV 1 hts gX7_about_X7_no rfl rfl rfl (by decide +kernel) ⟨Nat.le_of_ble_eq_true rfl, Nat.le_of_ble_eq_true rfl⟩) G1_0 rfl rfl rfl hl.1 rfl (Nat.le_of_ble_eq_true rfl) dX7_about_34 ⟨Nat.le_of_ble_eq_true rfl, Nat.le_of_ble_eq_true rfl⟩) (fun r34 ws_2 H locs hp9 J => ?_)
    obtain ⟨k2, hl9_2, G2_a0, e_r34⟩ := hp9
    have hk := hk.trans (k2.mono (by decide))
    have G2_1 := k2.2 12 _ (by decide) G1_1
    have G2_2 := k2.2 15 _ (by decide) G1_2
    subst e_r34
    have hk0 : (kAsk x (nI nf) w 6) = 1 := if_neg (fun q => (isInS_n cz10) q.1)
    subst hQ
    exact W.iret (v := 0) hx hb hr (fun t ht hW => ⟨⟨0, ws_2, rfl, ⟨hk, (by simp only [hk0, sel0, sel1, sel2, sel3]; exact G2_a0), (by simp only [hk0, sel0, sel1]; try rw [ex9, ey9])⟩, J.I X ht hW.alike⟩, J.F ht⟩) J.locs dX7_about_37
  · refine lv_iload_n hx hb dX7_about_13 rfl (lv_at hl 2 rfl) ?_
    refine lv_iconst (v := 0) hx hb dX7_about_14 (by decide) ?_
    refine lv_bipush (v := 6) hx hb dX7_about_15 (by decide) ?_
    refine z_cr (z_rS (As := [.int w, .int 0, .int 6]) (rest := []) X J (cX7_isIn_ok l E) (va_cwS 3 hts gX7_about_X7_isIn rfl rfl rfl (by decide +kernel) ⟨Nat.le_of_ble_eq_true rfl, Nat.le_of_ble_eq_true rfl⟩) rfl hl.1 rfl (Nat.le_of_ble_eq_true rfl) dX7_about_17 ⟨Nat.le_of_ble_eq_true rfl, Nat.le_of_ble_eq_true rfl⟩) (fun r17 e_r17 => ?_)
    subst e_r17
    refine lv_if_eq (tgt := 32) hx hb dX7_about_20 (by decide) (fun cz20 => ?_) (fun cz20 => ?_)
    · refine lv_aload_n hx hb dX7_about_32 rfl (lv_at hl 0 rfl) ?_
      refine lv_iconst (v := 1) hx hb dX7_about_33 (by decide) ?_
      refine z_ci J (z_rV (As := [.int 1]) (rest := []) (ci := 8) (q0 := 11) X J (cX7_no_ok l E G1_0) (cwV 1 hts gX7_about_X7_no rfl rfl rfl (by decide +kernel) ⟨Nat.le_of_ble_eq_true rfl, Nat.le_of_ble_eq_true rfl⟩) G1_0 rfl rfl rfl hl.1 rfl (Nat.le_of_ble_eq_true rfl) dX7_about_34 ⟨Nat.le_of_ble_eq_true rfl, Nat.le_of_ble_eq_true rfl⟩) (fun r34 ws_2 H locs hp9 J => ?_)
      obtain ⟨k2, hl9_2, G2_a0, e_r34⟩ := hp9
      have hk := hk.trans (k2.mono (by decide))
      have G2_1 := k2.2 12 _ (by decide) G1_1
      have G2_2 := k2.2 15 _ (by decide) G1_2
      subst e_r34
      have hk0 : (kAsk x (nI nf) w 6) = 1 := if_neg (fun q => (isInS_n cz20) q.2)
      subst hQ
      exact W.iret (v := 0) hx hb hr (fun t ht hW => ⟨⟨0, ws_2, rfl, ⟨hk, (by simp only [hk0, sel0, sel1, sel2, sel3]; exact G2_a0), (by simp only [hk0, sel0, sel1]; try rw [ex9, ey9])⟩, J.I X ht hW.alike⟩, J.F ht⟩) J.locs dX7_about_37
    · obtain ⟨fk, hfk, ek9⟩ := inR_nI (n := nf) (by omega) (isInS_y cz10)
      have hl : lv_has ls 3 [(0, .ref mo), (1, .int (nI fk)), (2, .int w)] := lv_repl hl (congrArg (fun z9 : Int32 => ([(0, .ref mo), (1, .int z9), (2, .int w)] : List (Nat × Value))) (show x = nI fk from ek9))
      have ex9 : x.toNatClampNeg = fk := by rw [ek9, nI_clamp (by omega)]
      obtain ⟨w9, hw9, ew9⟩ := inR_nI (n := 7) (by decide) (i := w) (isInS_y cz20)
      have hl : lv_has ls 3 [(0, .ref mo), (1, .int (nI fk)), (2, .int (nI w9))] := lv_repl hl (congrArg (fun z9 : Int32 => ([(0, .ref mo), (1, .int (nI fk)), (2, .int z9)] : List (Nat × Value))) (show w = nI w9 from ew9))
      have ey9 : w.toNatClampNeg = w9 := by rw [ew9, nI_clamp (by omega)]
      refine lv_aload_n hx hb dX7_about_23 rfl (lv_at hl 0 rfl) ?_
      refine lv_iload_n hx hb dX7_about_24 rfl (lv_at hl 1 rfl) ?_
      refine lv_iload_n hx hb dX7_about_25 rfl (lv_at hl 2 rfl) ?_
      refine z_cr (z_rV (As := [.int (nI fk), .int (nI w9)]) (rest := []) (ci := 8) (q0 := 11) X J (cX7_fenceTold_ok l E G1_0 G1_1 G1_2 (by omega) (by omega) (hok fk hfk)) (cwV 2 hts gX7_about_X7_fenceTold rfl rfl rfl (by decide +kernel) ⟨Nat.le_of_ble_eq_true rfl, Nat.le_of_ble_eq_true rfl⟩) G1_0 rfl rfl rfl hl.1 rfl (Nat.le_of_ble_eq_true rfl) dX7_about_26 ⟨Nat.le_of_ble_eq_true rfl, Nat.le_of_ble_eq_true rfl⟩) (fun r26 e_r26 => ?_)
      subst e_r26
      refine lv_goto (tgt := 37) hx hb dX7_about_29 (by decide) ?_
      have hk0 : (kAsk x (nI nf) w 6) = 0 := if_pos ⟨(isInS_y cz10), (isInS_y cz20)⟩
      subst hQ
      exact W.iret (v := aboutS fa sn fk w9) hx hb hr (fun t ht hW => ⟨⟨aboutS fa sn fk w9, ws_1, rfl, ⟨hk, (by simp only [hk0, sel0, sel1, sel2, sel3]; exact G1_0), (by simp only [hk0, sel0, sel1]; try rw [ex9, ey9])⟩, J.I X ht hW.alike⟩, J.F ht⟩) J.locs dX7_about_37
set_option maxHeartbeats 400000 in
set_option maxRecDepth 100000 in
theorem cX7_told_ok (l : Launch) (E : zG) {ws : va_W} {mo mf md mi ms9 mk mt nf nr : Nat} {th lim sup off plo hrs : Int32} {rd ri sn : Nat → Int32} {x w : Int32} (Fa0 : ws[11]? = some (mo, .inr (8, [.int th, .int (nI nf), .ref mf, .int (nI nr), .ref md, .ref mi, .int lim, .int sup, .int off, .int plo, .int hrs, .ref ms9, .ref mk, .ref mt]))) (Fa1 : ws[13]? = some (md, zI4 E 4 rd)) (Fa2 : ws[14]? = some (mi, zI4 E 4 ri)) (Fa3 : ws[15]? = some (ms9, zI4 E 400 sn)) (hnr : nr ≤ 4) (hor : ∀ q, q < nr → okR rd ri q) : Met l yX7_told wsX7_told ({ frames := 3, cells := 0, slots := 0, locals := 67 } : Room) (va_Pc [.ref mo, .int x, .int w] (zI E ws)) (va_Qi (fun (r : Int32) (ws' : va_W) => (zK [11] ws ws') ∧ (ws'[11]? = some (mo, .inr (8, [.int (kAsk x (nI nr) w 4), .int (nI nf), .ref mf, .int (nI nr), .ref md, .ref mi, .int lim, .int sup, .int off, .int plo, .int hrs, .ref ms9, .ref mk, .ref mt]))) ∧ (r = sel (kAsk x (nI nr) w 4) (toldS sn rd ri lim x.toNatClampNeg w) 0)) (zI E) (zA E)) 0 0 (zA E) := by
  refine Met.ofW (cc := cX7_told) (maxL := 3) (ret := (some .int)) (by decide) rfl ?_
  intro p e s m args below meth c s₁ B hml hv
  obtain ⟨hargs9, hI⟩ := hv
  have hx := B.exec
  have hb := B.bytes
  have hr := B.returns
  have hlocks := B.notSynchronized
  have X : zC E p m c cX7_told 3 s args wsX7_told RX7 := z_open B hml hI
  have hown := X.1.2.2.2.1
  have hts := X.1.2.2.2.2
  have J := hI.J
  have hi_X7 : ∀ w ∈ wsX70, w ∈ wsX7_told := by decide +kernel
  have hk : zK [11] ws ws := zK.rf
  have hl := lv_entry ([.ref mo, .int x, .int w]) (n := 3) (Nat.le_of_ble_eq_true rfl)
  rw [show entryFrame m args 3 = entryFrame m ([.ref mo, .int x, .int w] : List Value).toArray 3 from by rw [hargs9], lg_entry_eq]
  generalize (lg_sl ([.ref mo, .int x, .int w]) ++ List.replicate (3 - (lg_sl ([.ref mo, .int x, .int w])).length) Slot.unset).toArray = ls at hl ⊢
  have hl : lv_has ls 3 [(0, .ref mo), (1, .int x), (2, .int w)] := hl
  generalize hQ : (MQ below (va_Qi (fun (r : Int32) (ws' : va_W) => (zK [11] ws ws') ∧ (ws'[11]? = some (mo, .inr (8, [.int (kAsk x (nI nr) w 4), .int (nI nf), .ref mf, .int (nI nr), .ref md, .ref mi, .int lim, .int sup, .int off, .int plo, .int hrs, .ref ms9, .ref mk, .ref mt]))) ∧ (r = sel (kAsk x (nI nr) w 4) (toldS sn rd ri lim x.toNatClampNeg w) 0)) (zI E) (zA E)) args s 0 0 (zA E)) = QQ
  refine lv_aload_n hx hb dX7_told_0 rfl (lv_at hl 0 rfl) ?_
  refine lv_iconst (v := 0) hx hb dX7_told_1 (by decide) ?_
  refine z_put (C := RX7) (T := TX7) (N := 14) (ci := 8) (v := .int 0) X J hi_X7 tyX7 tyX7_ok nmX7 11 Fa0 rfl 0 (by decide) (by decide +kernel) rfl rfl rfl (Nat.le_of_ble_eq_true rfl) dX7_told_2 (fun H locs J => ?_)
  have J : zJ E (ws.set 11 (mo, .inr (8, [.int 0, .int (nI nf), .ref mf, .int (nI nr), .ref md, .ref mi, .int lim, .int sup, .int off, .int plo, .int hrs, .ref ms9, .ref mk, .ref mt]))) s H locs := J
  have hk := hk.trans (zK.set (ws := ws) (q := 11) (e := (mo, .inr (8, [.int 0, .int (nI nf), .ref mf, .int (nI nr), .ref md, .ref mi, .int lim, .int sup, .int off, .int plo, .int hrs, .ref ms9, .ref mk, .ref mt]))) (by simp))
  have G1_0 := zset_eq (e' := (mo, .inr (8, [.int 0, .int (nI nf), .ref mf, .int (nI nr), .ref md, .ref mi, .int lim, .int sup, .int off, .int plo, .int hrs, .ref ms9, .ref mk, .ref mt]))) Fa0
  have G1_1 := zset_ne (q := 11) (e' := (mo, .inr (8, [.int 0, .int (nI nf), .ref mf, .int (nI nr), .ref md, .ref mi, .int lim, .int sup, .int off, .int plo, .int hrs, .ref ms9, .ref mk, .ref mt]))) (by decide) Fa1
  have G1_2 := zset_ne (q := 11) (e' := (mo, .inr (8, [.int 0, .int (nI nf), .ref mf, .int (nI nr), .ref md, .ref mi, .int lim, .int sup, .int off, .int plo, .int hrs, .ref ms9, .ref mk, .ref mt]))) (by decide) Fa2
  have G1_3 := zset_ne (q := 11) (e' := (mo, .inr (8, [.int 0, .int (nI nf), .ref mf, .int (nI nr), .ref md, .ref mi, .int lim, .int sup, .int off, .int plo, .int hrs, .ref ms9, .ref mk, .ref mt]))) (by decide) Fa3
  generalize hws1 : (ws.set 11 (mo, .inr (8, [.int 0, .int (nI nf), .ref mf, .int (nI nr), .ref md, .ref mi, .int lim, .int sup, .int off, .int plo, .int hrs, .ref ms9, .ref mk, .ref mt]))) = ws_1 at J hk G1_0 G1_1 G1_2 G1_3
  refine lv_aload_n hx hb dX7_told_5 rfl (lv_at hl 0 rfl) ?_
  refine lv_iload_n hx hb dX7_told_6 rfl (lv_at hl 1 rfl) ?_
  refine z_cr (z_rV (As := [.int x]) (rest := []) (ci := 8) (q0 := 11) X J (cX7_isRoad_ok l E G1_0) (cwV 1 hts gX7_told_X7_isRoad rfl rfl rfl (by decide +kernel) ⟨Nat.le_of_ble_eq_true rfl, Nat.le_of_ble_eq_true rfl⟩) G1_0 rfl rfl rfl hl.1 rfl (Nat.le_of_ble_eq_true rfl) dX7_told_7 ⟨Nat.le_of_ble_eq_true rfl, Nat.le_of_ble_eq_true rfl⟩) (fun r7 e_r7 => ?_)
  subst e_r7
  refine lv_if_eq (tgt := 31) hx hb dX7_told_10 (by decide) (fun cz10 => ?_) (fun cz10 => ?_)
  · refine lv_aload_n hx hb dX7_told_31 rfl (lv_at hl 0 rfl) ?_
    refine lv_iconst (v := 1) hx hb dX7_told_32 (by decide) ?_
    refine z_ci J (z_rV (As := [.int 1]) (rest := []) (ci := 8) (q0 := 11) X J (cX7_no_ok l E G1_0) (cwV 1 hts gX7_told_X7_no rfl rfl rfl (by decide +kernel) ⟨Nat.le_of_ble_eq_true rfl, Nat.le_of_ble_eq_true rfl⟩) G1_0 rfl rfl rfl hl.1 rfl (Nat.le_of_ble_eq_true rfl) dX7_told_33 ⟨Nat.le_of_ble_eq_true rfl, Nat.le_of_ble_eq_true rfl⟩) (fun r33 ws_2 H locs hp9 J => ?_)
    obtain ⟨k2, hl9_2, G2_a0, e_r33⟩ := hp9
    have hk := hk.trans (k2.mono (by decide))
    have G2_1 := k2.2 13 _ (by decide) G1_1
    have G2_2 := k2.2 14 _ (by decide) G1_2
    have G2_3 := k2.2 15 _ (by decide) G1_3
    subst e_r33
    have hk0 : (kAsk x (nI nr) w 4) = 1 := if_neg (fun q => (isInS_n cz10) q.1)
    subst hQ
    exact W.iret (v := 0) hx hb hr (fun t ht hW => ⟨⟨0, ws_2, rfl, ⟨hk, (by simp only [hk0, sel0, sel1, sel2, sel3]; exact G2_a0), (by simp only [hk0, sel0, sel1]; try rw [ex9])⟩, J.I X ht hW.alike⟩, J.F ht⟩) J.locs dX7_told_36
  · refine lv_iload_n hx hb dX7_told_13 rfl (lv_at hl 2 rfl) ?_
    refine lv_iconst (v := 0) hx hb dX7_told_14 (by decide) ?_
    refine lv_iconst (v := 4) hx hb dX7_told_15 (by decide) ?_
    refine z_cr (z_rS (As := [.int w, .int 0, .int 4]) (rest := []) X J (cX7_isIn_ok l E) (va_cwS 3 hts gX7_told_X7_isIn rfl rfl rfl (by decide +kernel) ⟨Nat.le_of_ble_eq_true rfl, Nat.le_of_ble_eq_true rfl⟩) rfl hl.1 rfl (Nat.le_of_ble_eq_true rfl) dX7_told_16 ⟨Nat.le_of_ble_eq_true rfl, Nat.le_of_ble_eq_true rfl⟩) (fun r16 e_r16 => ?_)
    subst e_r16
    refine lv_if_eq (tgt := 31) hx hb dX7_told_19 (by decide) (fun cz19 => ?_) (fun cz19 => ?_)
    · refine lv_aload_n hx hb dX7_told_31 rfl (lv_at hl 0 rfl) ?_
      refine lv_iconst (v := 1) hx hb dX7_told_32 (by decide) ?_
      refine z_ci J (z_rV (As := [.int 1]) (rest := []) (ci := 8) (q0 := 11) X J (cX7_no_ok l E G1_0) (cwV 1 hts gX7_told_X7_no rfl rfl rfl (by decide +kernel) ⟨Nat.le_of_ble_eq_true rfl, Nat.le_of_ble_eq_true rfl⟩) G1_0 rfl rfl rfl hl.1 rfl (Nat.le_of_ble_eq_true rfl) dX7_told_33 ⟨Nat.le_of_ble_eq_true rfl, Nat.le_of_ble_eq_true rfl⟩) (fun r33 ws_2 H locs hp9 J => ?_)
      obtain ⟨k2, hl9_2, G2_a0, e_r33⟩ := hp9
      have hk := hk.trans (k2.mono (by decide))
      have G2_1 := k2.2 13 _ (by decide) G1_1
      have G2_2 := k2.2 14 _ (by decide) G1_2
      have G2_3 := k2.2 15 _ (by decide) G1_3
      subst e_r33
      have hk0 : (kAsk x (nI nr) w 4) = 1 := if_neg (fun q => (isInS_n cz19) q.2)
      subst hQ
      exact W.iret (v := 0) hx hb hr (fun t ht hW => ⟨⟨0, ws_2, rfl, ⟨hk, (by simp only [hk0, sel0, sel1, sel2, sel3]; exact G2_a0), (by simp only [hk0, sel0, sel1]; try rw [ex9])⟩, J.I X ht hW.alike⟩, J.F ht⟩) J.locs dX7_told_36
    · obtain ⟨q9, hq9, ek9⟩ := inR_nI (n := nr) (by omega) (isInS_y cz10)
      have hl : lv_has ls 3 [(0, .ref mo), (1, .int (nI q9)), (2, .int w)] := lv_repl hl (congrArg (fun z9 : Int32 => ([(0, .ref mo), (1, .int z9), (2, .int w)] : List (Nat × Value))) (show x = nI q9 from ek9))
      have ex9 : x.toNatClampNeg = q9 := by rw [ek9, nI_clamp (by omega)]
      refine lv_aload_n hx hb dX7_told_22 rfl (lv_at hl 0 rfl) ?_
      refine lv_iload_n hx hb dX7_told_23 rfl (lv_at hl 1 rfl) ?_
      refine lv_iload_n hx hb dX7_told_24 rfl (lv_at hl 2 rfl) ?_
      refine z_cr (z_rV (As := [.int (nI q9), .int w]) (rest := []) (ci := 8) (q0 := 11) X J (cX7_roadTold_ok l E G1_0 G1_1 G1_2 G1_3 (by omega) (hor q9 hq9)) (cwV 2 hts gX7_told_X7_roadTold rfl rfl rfl (by decide +kernel) ⟨Nat.le_of_ble_eq_true rfl, Nat.le_of_ble_eq_true rfl⟩) G1_0 rfl rfl rfl hl.1 rfl (Nat.le_of_ble_eq_true rfl) dX7_told_25 ⟨Nat.le_of_ble_eq_true rfl, Nat.le_of_ble_eq_true rfl⟩) (fun r25 e_r25 => ?_)
      subst e_r25
      refine lv_goto (tgt := 36) hx hb dX7_told_28 (by decide) ?_
      have hk0 : (kAsk x (nI nr) w 4) = 0 := if_pos ⟨(isInS_y cz10), (isInS_y cz19)⟩
      subst hQ
      exact W.iret (v := toldS sn rd ri lim q9 w) hx hb hr (fun t ht hW => ⟨⟨toldS sn rd ri lim q9 w, ws_1, rfl, ⟨hk, (by simp only [hk0, sel0, sel1, sel2, sel3]; exact G1_0), (by simp only [hk0, sel0, sel1]; try rw [ex9])⟩, J.I X ht hW.alike⟩, J.F ht⟩) J.locs dX7_told_36
set_option maxHeartbeats 400000 in
set_option maxRecDepth 100000 in
theorem cX7_count_ok (l : Launch) (E : zG) {ws : va_W} {mo mf md mi ms9 mk mt nf nr : Nat} {th lim sup off plo hrs : Int32} {rd ri sn : Nat → Int32} {w : Int32} (Fa0 : ws[11]? = some (mo, .inr (8, [.int th, .int (nI nf), .ref mf, .int (nI nr), .ref md, .ref mi, .int lim, .int sup, .int off, .int plo, .int hrs, .ref ms9, .ref mk, .ref mt]))) (Fa1 : ws[13]? = some (md, zI4 E 4 rd)) (Fa2 : ws[14]? = some (mi, zI4 E 4 ri)) (Fa3 : ws[15]? = some (ms9, zI4 E 400 sn)) (hnr : nr ≤ 4) (hor : ∀ q, q < nr → okR rd ri q) : Met l yX7_count wsX7_count ({ frames := 4, cells := 0, slots := 0, locals := 88 } : Room) (va_Pc [.ref mo, .int w] (zI E ws)) (va_Qi (fun (r : Int32) (ws' : va_W) => (zK [11] ws ws') ∧ (ws'[11]? = some (mo, .inr (8, [.int (kCount w), .int (nI nf), .ref mf, .int (nI nr), .ref md, .ref mi, .int lim, .int sup, .int off, .int plo, .int hrs, .ref ms9, .ref mk, .ref mt]))) ∧ (r = sel (kCount w) (countS (nI nf) (nI nr) lim sup off plo hrs sn rd ri nr w) 0)) (zI E) (zA E)) 0 0 (zA E) := by
  refine Met.ofW (cc := cX7_count) (maxL := 2) (ret := (some .int)) (by decide) rfl ?_
  intro p e s m args below meth c s₁ B hml hv
  obtain ⟨hargs9, hI⟩ := hv
  have hx := B.exec
  have hb := B.bytes
  have hr := B.returns
  have hlocks := B.notSynchronized
  have X : zC E p m c cX7_count 2 s args wsX7_count RX7 := z_open B hml hI
  have hown := X.1.2.2.2.1
  have hts := X.1.2.2.2.2
  have J := hI.J
  have hi_X7 : ∀ w ∈ wsX70, w ∈ wsX7_count := by decide +kernel
  have hk : zK [11] ws ws := zK.rf
  have hl := lv_entry ([.ref mo, .int w]) (n := 2) (Nat.le_of_ble_eq_true rfl)
  rw [show entryFrame m args 2 = entryFrame m ([.ref mo, .int w] : List Value).toArray 2 from by rw [hargs9], lg_entry_eq]
  generalize (lg_sl ([.ref mo, .int w]) ++ List.replicate (2 - (lg_sl ([.ref mo, .int w])).length) Slot.unset).toArray = ls at hl ⊢
  have hl : lv_has ls 2 [(0, .ref mo), (1, .int w)] := hl
  generalize hQ : (MQ below (va_Qi (fun (r : Int32) (ws' : va_W) => (zK [11] ws ws') ∧ (ws'[11]? = some (mo, .inr (8, [.int (kCount w), .int (nI nf), .ref mf, .int (nI nr), .ref md, .ref mi, .int lim, .int sup, .int off, .int plo, .int hrs, .ref ms9, .ref mk, .ref mt]))) ∧ (r = sel (kCount w) (countS (nI nf) (nI nr) lim sup off plo hrs sn rd ri nr w) 0)) (zI E) (zA E)) args s 0 0 (zA E)) = QQ
  refine lv_aload_n hx hb dX7_count_0 rfl (lv_at hl 0 rfl) ?_
  refine lv_iconst (v := 0) hx hb dX7_count_1 (by decide) ?_
  refine z_put (C := RX7) (T := TX7) (N := 14) (ci := 8) (v := .int 0) X J hi_X7 tyX7 tyX7_ok nmX7 11 Fa0 rfl 0 (by decide) (by decide +kernel) rfl rfl rfl (Nat.le_of_ble_eq_true rfl) dX7_count_2 (fun H locs J => ?_)
  have J : zJ E (ws.set 11 (mo, .inr (8, [.int 0, .int (nI nf), .ref mf, .int (nI nr), .ref md, .ref mi, .int lim, .int sup, .int off, .int plo, .int hrs, .ref ms9, .ref mk, .ref mt]))) s H locs := J
  have hk := hk.trans (zK.set (ws := ws) (q := 11) (e := (mo, .inr (8, [.int 0, .int (nI nf), .ref mf, .int (nI nr), .ref md, .ref mi, .int lim, .int sup, .int off, .int plo, .int hrs, .ref ms9, .ref mk, .ref mt]))) (by simp))
  have G1_0 := zset_eq (e' := (mo, .inr (8, [.int 0, .int (nI nf), .ref mf, .int (nI nr), .ref md, .ref mi, .int lim, .int sup, .int off, .int plo, .int hrs, .ref ms9, .ref mk, .ref mt]))) Fa0
  have G1_1 := zset_ne (q := 11) (e' := (mo, .inr (8, [.int 0, .int (nI nf), .ref mf, .int (nI nr), .ref md, .ref mi, .int lim, .int sup, .int off, .int plo, .int hrs, .ref ms9, .ref mk, .ref mt]))) (by decide) Fa1
  have G1_2 := zset_ne (q := 11) (e' := (mo, .inr (8, [.int 0, .int (nI nf), .ref mf, .int (nI nr), .ref md, .ref mi, .int lim, .int sup, .int off, .int plo, .int hrs, .ref ms9, .ref mk, .ref mt]))) (by decide) Fa2
  have G1_3 := zset_ne (q := 11) (e' := (mo, .inr (8, [.int 0, .int (nI nf), .ref mf, .int (nI nr), .ref md, .ref mi, .int lim, .int sup, .int off, .int plo, .int hrs, .ref ms9, .ref mk, .ref mt]))) (by decide) Fa3
  generalize hws1 : (ws.set 11 (mo, .inr (8, [.int 0, .int (nI nf), .ref mf, .int (nI nr), .ref md, .ref mi, .int lim, .int sup, .int off, .int plo, .int hrs, .ref ms9, .ref mk, .ref mt]))) = ws_1 at J hk G1_0 G1_1 G1_2 G1_3
  refine lv_iload_n hx hb dX7_count_5 rfl (lv_at hl 1 rfl) ?_
  refine lv_iconst (v := 0) hx hb dX7_count_6 (by decide) ?_
  refine lv_bipush (v := 9) hx hb dX7_count_7 (by decide) ?_
  refine z_cr (z_rS (As := [.int w, .int 0, .int 9]) (rest := []) X J (cX7_isIn_ok l E) (va_cwS 3 hts gX7_count_X7_isIn rfl rfl rfl (by decide +kernel) ⟨Nat.le_of_ble_eq_true rfl, Nat.le_of_ble_eq_true rfl⟩) rfl hl.1 rfl (Nat.le_of_ble_eq_true rfl) dX7_count_9 ⟨Nat.le_of_ble_eq_true rfl, Nat.le_of_ble_eq_true rfl⟩) (fun r9 e_r9 => ?_)
  subst e_r9
  refine lv_if_eq (tgt := 23) hx hb dX7_count_12 (by decide) (fun cz12 => ?_) (fun cz12 => ?_)
  · refine lv_aload_n hx hb dX7_count_23 rfl (lv_at hl 0 rfl) ?_
    refine lv_iconst (v := 1) hx hb dX7_count_24 (by decide) ?_
    refine z_ci J (z_rV (As := [.int 1]) (rest := []) (ci := 8) (q0 := 11) X J (cX7_no_ok l E G1_0) (cwV 1 hts gX7_count_X7_no rfl rfl rfl (by decide +kernel) ⟨Nat.le_of_ble_eq_true rfl, Nat.le_of_ble_eq_true rfl⟩) G1_0 rfl rfl rfl hl.1 rfl (Nat.le_of_ble_eq_true rfl) dX7_count_25 ⟨Nat.le_of_ble_eq_true rfl, Nat.le_of_ble_eq_true rfl⟩) (fun r25 ws_2 H locs hp9 J => ?_)
    obtain ⟨k2, hl9_2, G2_a0, e_r25⟩ := hp9
    have hk := hk.trans (k2.mono (by decide))
    have G2_1 := k2.2 13 _ (by decide) G1_1
    have G2_2 := k2.2 14 _ (by decide) G1_2
    have G2_3 := k2.2 15 _ (by decide) G1_3
    subst e_r25
    have hk0 : (kCount w) = 1 := if_neg (isInS_n cz12)
    subst hQ
    exact W.iret (v := 0) hx hb hr (fun t ht hW => ⟨⟨0, ws_2, rfl, ⟨hk, (by simp only [hk0, sel0, sel1, sel2, sel3]; exact G2_a0), (by simp only [hk0, sel0, sel1, sel2, sel3])⟩, J.I X ht hW.alike⟩, J.F ht⟩) J.locs dX7_count_28
  · refine lv_aload_n hx hb dX7_count_15 rfl (lv_at hl 0 rfl) ?_
    refine lv_iload_n hx hb dX7_count_16 rfl (lv_at hl 1 rfl) ?_
    refine z_cr (z_rV (As := [.int w]) (rest := []) (ci := 8) (q0 := 11) X J (cX7_counted_ok l E G1_0 G1_1 G1_2 G1_3 hnr hor) (cwV 1 hts gX7_count_X7_counted rfl rfl rfl (by decide +kernel) ⟨Nat.le_of_ble_eq_true rfl, Nat.le_of_ble_eq_true rfl⟩) G1_0 rfl rfl rfl hl.1 rfl (Nat.le_of_ble_eq_true rfl) dX7_count_17 ⟨Nat.le_of_ble_eq_true rfl, Nat.le_of_ble_eq_true rfl⟩) (fun r17 e_r17 => ?_)
    subst e_r17
    refine lv_goto (tgt := 28) hx hb dX7_count_20 (by decide) ?_
    have hk0 : (kCount w) = 0 := if_pos (isInS_y cz12)
    subst hQ
    exact W.iret (v := countS (nI nf) (nI nr) lim sup off plo hrs sn rd ri nr w) hx hb hr (fun t ht hW => ⟨⟨countS (nI nf) (nI nr) lim sup off plo hrs sn rd ri nr w, ws_1, rfl, ⟨hk, (by simp only [hk0, sel0, sel1, sel2, sel3]; exact G1_0), (by simp only [hk0, sel0, sel1, sel2, sel3])⟩, J.I X ht hW.alike⟩, J.F ht⟩) J.locs dX7_count_28
