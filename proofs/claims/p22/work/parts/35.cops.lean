set_option maxHeartbeats 400000 in
set_option maxRecDepth 100000 in
theorem cX6_setLimit_ok (l : Launch) (hflags : l.flags = flags0) (E : zG) {ws : va_W} {x fl rl wh gr tr sc : Nat} {lim sup off plo hrs : Int32} {v : Int32} (Fa0 : ws[0]? = some (x, .inr (7, [.ref fl, .ref rl, .ref wh, .ref gr, .ref tr, .ref sc, .int lim, .int sup, .int off, .int plo, .int hrs])))  : vx_Met l yX6_setLimit wsX6_setLimit ({ frames := 6, cells := 1, slots := 6, locals := 82 } : Room) (va_Pc [.ref x, .int v] (zY E ws)) (va_Qi (fun (r : Int32) (ws' : va_W) => (zK [0] ws ws') ∧ (ws'[0]? = some (x, .inr (7, [.ref fl, .ref rl, .ref wh, .ref gr, .ref tr, .ref sc, .int v, .int sup, .int off, .int plo, .int hrs]))) ∧ (kLim v = 0 ∧ r = lim)) (zI E) (zA E)) (zX E ws (fun nm => kLim v = 1 ∧ nm = "java/lang/IllegalArgumentException")) 1 6 (zA E) := by
  refine vx_ofW (cc := cX6_setLimit) (maxL := 3) (ret := (some .int)) (by decide) rfl ?_
  intro p e s m args below meth c s₁ B hml htab hv
  obtain ⟨hargs9, hI, hRz⟩ := hv
  have hx := B.exec
  have hb := B.bytes
  have hr := B.returns
  have hlocks := B.notSynchronized
  have X : zC E p m c cX6_setLimit 3 s args wsX6_setLimit RX6 := z_open B hml hI
  have hown := X.1.2.2.2.1
  have hts := X.1.2.2.2.2
  have J := hI.J
  have hi_X6 : ∀ w ∈ wsX60, w ∈ wsX6_setLimit := by decide +kernel
  have hk : zK [0] ws ws := zK.rf
  have hl := lv_entry ([.ref x, .int v]) (n := 3) (Nat.le_of_ble_eq_true rfl)
  rw [show entryFrame m args 3 = entryFrame m ([.ref x, .int v] : List Value).toArray 3 from by rw [hargs9], lg_entry_eq]
  generalize (lg_sl ([.ref x, .int v]) ++ List.replicate (3 - (lg_sl ([.ref x, .int v])).length) Slot.unset).toArray = ls at hl ⊢
  have hl : lv_has ls 3 [(0, .ref x), (1, .int v)] := hl
  generalize hQ : (vx_MQ below (va_Qi (fun (r : Int32) (ws' : va_W) => (zK [0] ws ws') ∧ (ws'[0]? = some (x, .inr (7, [.ref fl, .ref rl, .ref wh, .ref gr, .ref tr, .ref sc, .int v, .int sup, .int off, .int plo, .int hrs]))) ∧ (kLim v = 0 ∧ r = lim)) (zI E) (zA E)) (zX E ws (fun nm => kLim v = 1 ∧ nm = "java/lang/IllegalArgumentException")) args s 1 6 (zA E)) = QQ
  refine lv_iload_n hx hb dX6_setLimit_0 rfl (lv_at hl 1 rfl) ?_
  refine lv_iconst (v := 1) hx hb dX6_setLimit_1 (by decide) ?_
  refine lv_icmp_lt (tgt := 11) hx hb dX6_setLimit_2 (by decide) (fun cz2 => ?_) (fun cz2 => ?_)
  · subst hQ
    exact z_throw (ik := 49) (is := 109) (ic := 53) (cls := "java/lang/IllegalArgumentException") hflags X hRz J htab hlocks hl.1 zfitA (by decide +kernel) (by decide +kernel) (List.mem_of_getElem? (i := 3) rfl) (fun w9 h9 => List.mem_cons_of_mem _ (List.mem_append_right _ h9)) zbadA hRz.2.1 zgoodA dX6_setLimit_11 dX6_setLimit_14 dX6_setLimit_15 dX6_setLimit_17 dX6_setLimit_20 (Nat.le_of_ble_eq_true rfl) (Nat.le_of_ble_eq_true rfl) (Nat.le_of_ble_eq_true rfl) (Nat.le_of_ble_eq_true rfl) (by exact ⟨if_neg (fun q9 => q9.1 cz2), rfl⟩) (Nat.le_of_ble_eq_true rfl) (Nat.le_of_ble_eq_true rfl)
  · refine lv_iload_n hx hb dX6_setLimit_5 rfl (lv_at hl 1 rfl) ?_
    refine lv_bipush (v := 60) hx hb dX6_setLimit_6 (by decide) ?_
    refine lv_icmp_le (tgt := 21) hx hb dX6_setLimit_8 (by decide) (fun cz8 => ?_) (fun cz8 => ?_)
    · refine lv_aload_n hx hb dX6_setLimit_21 rfl (lv_at hl 0 rfl) ?_
      refine z_get (C := RX6) (T := TX6) (N := 11) (ci := 7) (v := .int lim) X J hi_X6 0 Fa0 rfl 6 (by decide) (by decide +kernel) rfl dX6_setLimit_22 ?_
      refine lv_istore_n (lv' := [(2, .int lim), (0, .ref x), (1, .int v)]) hx hb dX6_setLimit_25 rfl hl (by decide) rfl (fun ls hl => ?_)
      refine lv_aload_n hx hb dX6_setLimit_26 rfl (lv_at hl 1 rfl) ?_
      refine lv_iload_n hx hb dX6_setLimit_27 rfl (lv_at hl 2 rfl) ?_
      refine z_put (C := RX6) (T := TX6) (N := 11) (ci := 7) (v := .int v) X J hi_X6 tyX6 tyX6_ok nmX6 0 Fa0 rfl 6 (by decide) (by decide +kernel) rfl rfl rfl (Nat.le_of_ble_eq_true rfl) dX6_setLimit_28 (fun H locs J => ?_)
      have J : zJ E (ws.set 0 (x, .inr (7, [.ref fl, .ref rl, .ref wh, .ref gr, .ref tr, .ref sc, .int v, .int sup, .int off, .int plo, .int hrs]))) s H locs := J
      have hk := hk.trans (zK.set (ws := ws) (q := 0) (e := (x, .inr (7, [.ref fl, .ref rl, .ref wh, .ref gr, .ref tr, .ref sc, .int v, .int sup, .int off, .int plo, .int hrs]))) (by simp))
      have G1_0 := zset_eq (e' := (x, .inr (7, [.ref fl, .ref rl, .ref wh, .ref gr, .ref tr, .ref sc, .int v, .int sup, .int off, .int plo, .int hrs]))) Fa0
      generalize hws1 : (ws.set 0 (x, .inr (7, [.ref fl, .ref rl, .ref wh, .ref gr, .ref tr, .ref sc, .int v, .int sup, .int off, .int plo, .int hrs]))) = ws_1 at J hk G1_0
      refine lv_iload_n hx hb dX6_setLimit_31 rfl (lv_at hl 0 rfl) ?_
      refine W.widen (k := 1) (n := 6) (by omega) (by omega) ?_
      subst hQ
      refine vx_ret ?_
      exact W.iret (v := lim) hx hb hr (fun t ht hW => ⟨⟨lim, ws_1, rfl, ⟨hk, G1_0, (by exact ⟨if_pos ⟨cz2, Int32.not_lt.mpr cz8⟩, rfl⟩)⟩, J.I X ht hW.alike⟩, J.F ht⟩) J.locs dX6_setLimit_32
    · subst hQ
      exact z_throw (ik := 49) (is := 109) (ic := 53) (cls := "java/lang/IllegalArgumentException") hflags X hRz J htab hlocks hl.1 zfitA (by decide +kernel) (by decide +kernel) (List.mem_of_getElem? (i := 3) rfl) (fun w9 h9 => List.mem_cons_of_mem _ (List.mem_append_right _ h9)) zbadA hRz.2.1 zgoodA dX6_setLimit_11 dX6_setLimit_14 dX6_setLimit_15 dX6_setLimit_17 dX6_setLimit_20 (Nat.le_of_ble_eq_true rfl) (Nat.le_of_ble_eq_true rfl) (Nat.le_of_ble_eq_true rfl) (Nat.le_of_ble_eq_true rfl) (by exact ⟨if_neg (fun q9 => q9.2 (Int32.not_le.mp cz8)), rfl⟩) (Nat.le_of_ble_eq_true rfl) (Nat.le_of_ble_eq_true rfl)
set_option maxHeartbeats 400000 in
set_option maxRecDepth 100000 in
theorem cX6_setSupply_ok (l : Launch) (hflags : l.flags = flags0) (E : zG) {ws : va_W} {x fl rl wh gr tr sc : Nat} {lim sup off plo hrs : Int32} {v : Int32} (Fa0 : ws[0]? = some (x, .inr (7, [.ref fl, .ref rl, .ref wh, .ref gr, .ref tr, .ref sc, .int lim, .int sup, .int off, .int plo, .int hrs])))  : vx_Met l yX6_setSupply wsX6_setSupply ({ frames := 6, cells := 1, slots := 6, locals := 82 } : Room) (va_Pc [.ref x, .int v] (zY E ws)) (va_Qi (fun (r : Int32) (ws' : va_W) => (zK [0] ws ws') ∧ (ws'[0]? = some (x, .inr (7, [.ref fl, .ref rl, .ref wh, .ref gr, .ref tr, .ref sc, .int lim, .int v, .int off, .int plo, .int hrs]))) ∧ (kSup v = 0 ∧ r = sup)) (zI E) (zA E)) (zX E ws (fun nm => kSup v = 1 ∧ nm = "java/lang/IllegalArgumentException")) 1 6 (zA E) := by
  refine vx_ofW (cc := cX6_setSupply) (maxL := 3) (ret := (some .int)) (by decide) rfl ?_
  intro p e s m args below meth c s₁ B hml htab hv
  obtain ⟨hargs9, hI, hRz⟩ := hv
  have hx := B.exec
  have hb := B.bytes
  have hr := B.returns
  have hlocks := B.notSynchronized
  have X : zC E p m c cX6_setSupply 3 s args wsX6_setSupply RX6 := z_open B hml hI
  have hown := X.1.2.2.2.1
  have hts := X.1.2.2.2.2
  have J := hI.J
  have hi_X6 : ∀ w ∈ wsX60, w ∈ wsX6_setSupply := by decide +kernel
  have hk : zK [0] ws ws := zK.rf
  have hl := lv_entry ([.ref x, .int v]) (n := 3) (Nat.le_of_ble_eq_true rfl)
  rw [show entryFrame m args 3 = entryFrame m ([.ref x, .int v] : List Value).toArray 3 from by rw [hargs9], lg_entry_eq]
  generalize (lg_sl ([.ref x, .int v]) ++ List.replicate (3 - (lg_sl ([.ref x, .int v])).length) Slot.unset).toArray = ls at hl ⊢
  have hl : lv_has ls 3 [(0, .ref x), (1, .int v)] := hl
  generalize hQ : (vx_MQ below (va_Qi (fun (r : Int32) (ws' : va_W) => (zK [0] ws ws') ∧ (ws'[0]? = some (x, .inr (7, [.ref fl, .ref rl, .ref wh, .ref gr, .ref tr, .ref sc, .int lim, .int v, .int off, .int plo, .int hrs]))) ∧ (kSup v = 0 ∧ r = sup)) (zI E) (zA E)) (zX E ws (fun nm => kSup v = 1 ∧ nm = "java/lang/IllegalArgumentException")) args s 1 6 (zA E)) = QQ
  refine lv_iload_n hx hb dX6_setSupply_0 rfl (lv_at hl 1 rfl) ?_
  refine lv_if_lt (tgt := 10) hx hb dX6_setSupply_1 (by decide) (fun cz1 => ?_) (fun cz1 => ?_)
  · subst hQ
    exact z_throw (ik := 49) (is := 111) (ic := 53) (cls := "java/lang/IllegalArgumentException") hflags X hRz J htab hlocks hl.1 zfitA (by decide +kernel) (by decide +kernel) (List.mem_of_getElem? (i := 4) rfl) (fun w9 h9 => List.mem_cons_of_mem _ (List.mem_append_right _ h9)) zbadA hRz.2.1 zgoodA dX6_setSupply_10 dX6_setSupply_13 dX6_setSupply_14 dX6_setSupply_16 dX6_setSupply_19 (Nat.le_of_ble_eq_true rfl) (Nat.le_of_ble_eq_true rfl) (Nat.le_of_ble_eq_true rfl) (Nat.le_of_ble_eq_true rfl) (by exact ⟨if_neg (fun q9 => q9.1 cz1), rfl⟩) (Nat.le_of_ble_eq_true rfl) (Nat.le_of_ble_eq_true rfl)
  · refine lv_iload_n hx hb dX6_setSupply_4 rfl (lv_at hl 1 rfl) ?_
    refine lv_bipush (v := 40) hx hb dX6_setSupply_5 (by decide) ?_
    refine lv_icmp_le (tgt := 20) hx hb dX6_setSupply_7 (by decide) (fun cz7 => ?_) (fun cz7 => ?_)
    · refine lv_aload_n hx hb dX6_setSupply_20 rfl (lv_at hl 0 rfl) ?_
      refine z_get (C := RX6) (T := TX6) (N := 11) (ci := 7) (v := .int sup) X J hi_X6 0 Fa0 rfl 7 (by decide) (by decide +kernel) rfl dX6_setSupply_21 ?_
      refine lv_istore_n (lv' := [(2, .int sup), (0, .ref x), (1, .int v)]) hx hb dX6_setSupply_24 rfl hl (by decide) rfl (fun ls hl => ?_)
      refine lv_aload_n hx hb dX6_setSupply_25 rfl (lv_at hl 1 rfl) ?_
      refine lv_iload_n hx hb dX6_setSupply_26 rfl (lv_at hl 2 rfl) ?_
      refine z_put (C := RX6) (T := TX6) (N := 11) (ci := 7) (v := .int v) X J hi_X6 tyX6 tyX6_ok nmX6 0 Fa0 rfl 7 (by decide) (by decide +kernel) rfl rfl rfl (Nat.le_of_ble_eq_true rfl) dX6_setSupply_27 (fun H locs J => ?_)
      have J : zJ E (ws.set 0 (x, .inr (7, [.ref fl, .ref rl, .ref wh, .ref gr, .ref tr, .ref sc, .int lim, .int v, .int off, .int plo, .int hrs]))) s H locs := J
      have hk := hk.trans (zK.set (ws := ws) (q := 0) (e := (x, .inr (7, [.ref fl, .ref rl, .ref wh, .ref gr, .ref tr, .ref sc, .int lim, .int v, .int off, .int plo, .int hrs]))) (by simp))
      have G1_0 := zset_eq (e' := (x, .inr (7, [.ref fl, .ref rl, .ref wh, .ref gr, .ref tr, .ref sc, .int lim, .int v, .int off, .int plo, .int hrs]))) Fa0
      generalize hws1 : (ws.set 0 (x, .inr (7, [.ref fl, .ref rl, .ref wh, .ref gr, .ref tr, .ref sc, .int lim, .int v, .int off, .int plo, .int hrs]))) = ws_1 at J hk G1_0
      refine lv_iload_n hx hb dX6_setSupply_30 rfl (lv_at hl 0 rfl) ?_
      refine W.widen (k := 1) (n := 6) (by omega) (by omega) ?_
      subst hQ
      refine vx_ret ?_
      exact W.iret (v := sup) hx hb hr (fun t ht hW => ⟨⟨sup, ws_1, rfl, ⟨hk, G1_0, (by exact ⟨if_pos ⟨cz1, Int32.not_lt.mpr cz7⟩, rfl⟩)⟩, J.I X ht hW.alike⟩, J.F ht⟩) J.locs dX6_setSupply_31
    · subst hQ
      exact z_throw (ik := 49) (is := 111) (ic := 53) (cls := "java/lang/IllegalArgumentException") hflags X hRz J htab hlocks hl.1 zfitA (by decide +kernel) (by decide +kernel) (List.mem_of_getElem? (i := 4) rfl) (fun w9 h9 => List.mem_cons_of_mem _ (List.mem_append_right _ h9)) zbadA hRz.2.1 zgoodA dX6_setSupply_10 dX6_setSupply_13 dX6_setSupply_14 dX6_setSupply_16 dX6_setSupply_19 (Nat.le_of_ble_eq_true rfl) (Nat.le_of_ble_eq_true rfl) (Nat.le_of_ble_eq_true rfl) (Nat.le_of_ble_eq_true rfl) (by exact ⟨if_neg (fun q9 => q9.2 (Int32.not_le.mp cz7)), rfl⟩) (Nat.le_of_ble_eq_true rfl) (Nat.le_of_ble_eq_true rfl)
set_option maxHeartbeats 400000 in
set_option maxRecDepth 100000 in
theorem cX6_fall_ok (l : Launch) (hflags : l.flags = flags0) (E : zG) {ws : va_W} {x fl rl wh gr gra tr sc : Nat} {lim sup off plo hrs : Int32} {sn : Nat → Int32} {v : Int32} (Fa0 : ws[0]? = some (x, .inr (7, [.ref fl, .ref rl, .ref wh, .ref gr, .ref tr, .ref sc, .int lim, .int sup, .int off, .int plo, .int hrs]))) (Fa1 : ws[3]? = some (wh, .inr (5, [.int (0 * 20 + 0), .int (nI 400), .int 0]))) (Fa2 : ws[4]? = some (gr, .inr (2, [.ref gra]))) (Fa3 : ws[5]? = some (gra, zI4 E 400 sn))  : vx_Met l yX6_fall wsX6_fall ({ frames := 6, cells := 1, slots := 6, locals := 82 } : Room) (va_Pc [.ref x, .int v] (zY E ws)) (va_Qi (fun (r : Int32) (ws' : va_W) => (zK [5] ws ws') ∧ (ws'[5]? = some (gra, zI4 E 400 (fallC sn v 400))) ∧ (kFall v = 0 ∧ r = sumA (fallC sn v 400) - sumA sn)) (zI E) (zA E)) (zX E ws (fun nm => kFall v = 1 ∧ nm = "java/lang/IllegalArgumentException")) 1 6 (zA E) := by
  refine vx_ofW (cc := cX6_fall) (maxL := 4) (ret := (some .int)) (by decide) rfl ?_
  intro p e s m args below meth c s₁ B hml htab hv
  obtain ⟨hargs9, hI, hRz⟩ := hv
  have hx := B.exec
  have hb := B.bytes
  have hr := B.returns
  have hlocks := B.notSynchronized
  have X : zC E p m c cX6_fall 4 s args wsX6_fall RX6 := z_open B hml hI
  have hown := X.1.2.2.2.1
  have hts := X.1.2.2.2.2
  have J := hI.J
  have hi_X6 : ∀ w ∈ wsX60, w ∈ wsX6_fall := by decide +kernel
  have hk : zK [5] ws ws := zK.rf
  have hl := lv_entry ([.ref x, .int v]) (n := 4) (Nat.le_of_ble_eq_true rfl)
  rw [show entryFrame m args 4 = entryFrame m ([.ref x, .int v] : List Value).toArray 4 from by rw [hargs9], lg_entry_eq]
  generalize (lg_sl ([.ref x, .int v]) ++ List.replicate (4 - (lg_sl ([.ref x, .int v])).length) Slot.unset).toArray = ls at hl ⊢
  have hl : lv_has ls 4 [(0, .ref x), (1, .int v)] := hl
  generalize hQ : (vx_MQ below (va_Qi (fun (r : Int32) (ws' : va_W) => (zK [5] ws ws') ∧ (ws'[5]? = some (gra, zI4 E 400 (fallC sn v 400))) ∧ (kFall v = 0 ∧ r = sumA (fallC sn v 400) - sumA sn)) (zI E) (zA E)) (zX E ws (fun nm => kFall v = 1 ∧ nm = "java/lang/IllegalArgumentException")) args s 1 6 (zA E)) = QQ
  refine lv_iload_n hx hb dX6_fall_0 rfl (lv_at hl 1 rfl) ?_
  refine lv_iconst (v := 1) hx hb dX6_fall_1 (by decide) ?_
  refine lv_icmp_lt (tgt := 11) hx hb dX6_fall_2 (by decide) (fun cz2 => ?_) (fun cz2 => ?_)
  · subst hQ
    exact z_throw (ik := 49) (is := 116) (ic := 53) (cls := "java/lang/IllegalArgumentException") hflags X hRz J htab hlocks hl.1 zfitA (by decide +kernel) (by decide +kernel) (List.mem_of_getElem? (i := 5) rfl) (fun w9 h9 => List.mem_cons_of_mem _ (List.mem_append_right _ h9)) zbadA hRz.2.1 zgoodA dX6_fall_11 dX6_fall_14 dX6_fall_15 dX6_fall_17 dX6_fall_20 (Nat.le_of_ble_eq_true rfl) (Nat.le_of_ble_eq_true rfl) (Nat.le_of_ble_eq_true rfl) (Nat.le_of_ble_eq_true rfl) (by exact ⟨if_neg (fun q9 => q9.1 cz2), rfl⟩) (Nat.le_of_ble_eq_true rfl) (Nat.le_of_ble_eq_true rfl)
  · refine lv_iload_n hx hb dX6_fall_5 rfl (lv_at hl 1 rfl) ?_
    refine lv_bipush (v := 30) hx hb dX6_fall_6 (by decide) ?_
    refine lv_icmp_le (tgt := 21) hx hb dX6_fall_8 (by decide) (fun cz8 => ?_) (fun cz8 => ?_)
    · refine lv_aload_n hx hb dX6_fall_21 rfl (lv_at hl 0 rfl) ?_
      refine z_get (C := RX6) (T := TX6) (N := 11) (ci := 7) (v := .ref gr) X J hi_X6 0 Fa0 rfl 3 (by decide) (by decide +kernel) rfl dX6_fall_22 ?_
      refine lv_aload_n hx hb dX6_fall_25 rfl (lv_at hl 0 rfl) ?_
      refine z_get (C := RX6) (T := TX6) (N := 11) (ci := 7) (v := .ref wh) X J hi_X6 0 Fa0 rfl 2 (by decide) (by decide +kernel) rfl dX6_fall_26 ?_
      refine z_cr (z_rV (As := [.ref wh]) (rest := []) (ci := 2) (q0 := 4) X J (cX1_sum_ok l E Fa2 Fa3 Fa1 (by decide)) (cwV 1 hts gX6_fall_X1_sum rfl rfl rfl (by decide +kernel) ⟨Nat.le_of_ble_eq_true rfl, Nat.le_of_ble_eq_true rfl⟩) Fa2 rfl rfl rfl hl.1 rfl (Nat.le_of_ble_eq_true rfl) dX6_fall_29 ⟨Nat.le_of_ble_eq_true rfl, Nat.le_of_ble_eq_true rfl⟩) (fun r29 e_r29 => ?_)
      subst e_r29
      refine lv_istore_n (lv' := [(2, .int (sumG sn (0 * 20 + 0) 0 400)), (0, .ref x), (1, .int v)]) hx hb dX6_fall_32 rfl hl (by decide) rfl (fun ls hl => ?_)
      refine lv_iconst (v := nI 0) hx hb dX6_fall_33 rfl ?_
      refine lv_istore_n (lv' := [(3, .int (nI 0)), (2, .int (sumG sn (0 * 20 + 0) 0 400)), (0, .ref x), (1, .int v)]) hx hb dX6_fall_34 rfl hl (by decide) rfl (fun ls hl => ?_)
      have loop_35 : ∀ (k9 i : Nat), i + k9 = 400 → ∀ (wl35 : va_W) (H : Heap) (locs : List Loc) (ls : Array Slot), zK [5] ws wl35 → wl35[0]? = some (x, .inr (7, [.ref fl, .ref rl, .ref wh, .ref gr, .ref tr, .ref sc, .int lim, .int sup, .int off, .int plo, .int hrs])) → wl35[3]? = some (wh, .inr (5, [.int (0 * 20 + 0), .int (nI 400), .int 0])) → wl35[4]? = some (gr, .inr (2, [.ref gra])) → wl35[5]? = some (gra, zI4 E 400 (fallC sn v i)) → zJ E wl35 s H locs → lv_has ls 4 [(3, .int (nI i)), (2, .int (sumG sn (0 * 20 + 0) 0 400)), (0, .ref x), (1, .int v)] → W p l e (headSpec wsX6_fall ({ frames := 6, cells := 1, slots := 6, locals := 82 } : Room)).room s m args below meth c H locs 0 0 QQ (F0 m 35 ls []) := by
        intro k9
        induction k9 with
        | zero =>
          intro i hik wl35 H locs ls hk L35_0 L35_1 L35_2 L35_3 J hl
          obtain rfl : 400 = i := by omega
          refine lv_iload_n hx hb dX6_fall_35 rfl (lv_at hl 0 rfl) ?_
          refine lv_sipush (v := nI 400) hx hb dX6_fall_36 (by decide) ?_
          refine lv_icmp_ge (tgt := 72) hx hb dX6_fall_39 (by decide) (fun cz39 => ?_) (fun cz39 => by exact (cz39 (nI_le (Nat.le_refl _) (by omega))).elim)
          refine lv_aload_n hx hb dX6_fall_72 rfl (lv_at hl 2 rfl) ?_
          refine z_get (C := RX6) (T := TX6) (N := 11) (ci := 7) (v := .ref gr) X J hi_X6 0 L35_0 rfl 3 (by decide) (by decide +kernel) rfl dX6_fall_73 ?_
          refine lv_aload_n hx hb dX6_fall_76 rfl (lv_at hl 2 rfl) ?_
          refine z_get (C := RX6) (T := TX6) (N := 11) (ci := 7) (v := .ref wh) X J hi_X6 0 L35_0 rfl 2 (by decide) (by decide +kernel) rfl dX6_fall_77 ?_
          refine z_cr (z_rV (As := [.ref wh]) (rest := []) (ci := 2) (q0 := 4) X J (cX1_sum_ok l E L35_2 L35_3 L35_1 (by decide)) (cwV 1 hts gX6_fall_X1_sum rfl rfl rfl (by decide +kernel) ⟨Nat.le_of_ble_eq_true rfl, Nat.le_of_ble_eq_true rfl⟩) L35_2 rfl rfl rfl hl.1 rfl (Nat.le_of_ble_eq_true rfl) dX6_fall_80 ⟨Nat.le_of_ble_eq_true rfl, Nat.le_of_ble_eq_true rfl⟩) (fun r80 e_r80 => ?_)
          subst e_r80
          refine lv_iload_n hx hb dX6_fall_83 rfl (lv_at hl 1 rfl) ?_
          refine lv_isub hx hb dX6_fall_84 ?_
          refine W.widen (k := 1) (n := 6) (by omega) (by omega) ?_
          subst hQ
          refine vx_ret ?_
          exact W.iret (v := (sumG (fallC sn v 400) (0 * 20 + 0) 0 400) - (sumG sn (0 * 20 + 0) 0 400)) hx hb hr (fun t ht hW => ⟨⟨(sumG (fallC sn v 400) (0 * 20 + 0) 0 400) - (sumG sn (0 * 20 + 0) 0 400), wl35, rfl, ⟨hk, L35_3, (by exact ⟨if_pos ⟨cz2, Int32.not_lt.mpr cz8⟩, rfl⟩)⟩, J.I X ht hW.alike⟩, J.F ht⟩) J.locs dX6_fall_85
        | succ k9 ih_35 =>
          intro i hik wl35 H locs ls hk L35_0 L35_1 L35_2 L35_3 J hl
          refine lv_iload_n hx hb dX6_fall_35 rfl (lv_at hl 0 rfl) ?_
          refine lv_sipush (v := nI 400) hx hb dX6_fall_36 (by decide) ?_
          refine lv_icmp_ge (tgt := 72) hx hb dX6_fall_39 (by decide) (fun cz39 => by exact (nI_ge (by omega) (by omega) cz39).elim) (fun cz39 => ?_)
          refine lv_aload_n hx hb dX6_fall_42 rfl (lv_at hl 2 rfl) ?_
          refine z_get (C := RX6) (T := TX6) (N := 11) (ci := 7) (v := .ref gr) X J hi_X6 0 L35_0 rfl 3 (by decide) (by decide +kernel) rfl dX6_fall_43 ?_
          refine lv_iload_n hx hb dX6_fall_46 rfl (lv_at hl 0 rfl) ?_
          refine lv_aload_n hx hb dX6_fall_47 rfl (lv_at hl 2 rfl) ?_
          refine z_get (C := RX6) (T := TX6) (N := 11) (ci := 7) (v := .ref gr) X J hi_X6 0 L35_0 rfl 3 (by decide) (by decide +kernel) rfl dX6_fall_48 ?_
          refine lv_iload_n hx hb dX6_fall_51 rfl (lv_at hl 0 rfl) ?_
          refine z_cr (z_rV (As := [.int (nI i)]) (rest := [.int (nI i), .ref gr]) (ci := 2) (q0 := 4) X J (cX1_depth_ok l E L35_2 L35_3) (cwV 1 hts gX6_fall_X1_depth rfl rfl rfl (by decide +kernel) ⟨Nat.le_of_ble_eq_true rfl, Nat.le_of_ble_eq_true rfl⟩) L35_2 rfl rfl rfl hl.1 rfl (Nat.le_of_ble_eq_true rfl) dX6_fall_52 ⟨Nat.le_of_ble_eq_true rfl, Nat.le_of_ble_eq_true rfl⟩) (fun r52 e_r52 => ?_)
          subst e_r52
          refine lv_iload_n hx hb dX6_fall_55 rfl (lv_at hl 3 rfl) ?_
          refine lv_iadd hx hb dX6_fall_56 ?_
          refine lv_sipush (v := 200) hx hb dX6_fall_57 (by decide) ?_
          refine va_mmin hx hb (X.1.2.2.1.trans hl.1.symm) hown (hts (.methodLink RX6 126 Lib.Math.min.name) (by decide +kernel)) (hts (.static Lib.Math.min.name) (by decide +kernel)) (hts (.initialized "java/lang/Math") (by decide +kernel)) (hts (.code Lib.Math.min.name Lib.Math.min.code 2 (some .int)) (by decide +kernel)) (Nat.le_of_ble_eq_true rfl) (Nat.le_of_ble_eq_true rfl) (Nat.le_of_ble_eq_true rfl) (Nat.le_of_ble_eq_true rfl) dX6_fall_60 ?_
          refine W.eq (g2 := F0 m 63 ls [.int (mn ((gd (fallC sn v i) (nI i)) + v) 200), .int (nI i), .ref gr]) rfl ?_
          refine z_cv J (z_rV (As := [.int (nI i), .int (mn ((gd (fallC sn v i) (nI i)) + v) 200)]) (rest := []) (ci := 2) (q0 := 4) X J (cX1_put_ok l E L35_2 L35_3) (cwV 2 hts gX6_fall_X1_put rfl rfl rfl (by decide +kernel) ⟨Nat.le_of_ble_eq_true rfl, Nat.le_of_ble_eq_true rfl⟩) L35_2 rfl rfl rfl hl.1 rfl (Nat.le_of_ble_eq_true rfl) dX6_fall_63 ⟨Nat.le_of_ble_eq_true rfl, Nat.le_of_ble_eq_true rfl⟩) (fun ws_1 H locs hp9 J => ?_)
          obtain ⟨k1, G1_a0⟩ := hp9
          have hk := hk.trans (k1.mono (by decide))
          have G1_0 := k1.2 0 _ (by decide) L35_0
          have G1_1 := k1.2 3 _ (by decide) L35_1
          have G1_2 := k1.2 4 _ (by decide) L35_2
          refine lv_iinc (v := nI (i + 1)) (lv' := [(3, .int (nI (i + 1))), (2, .int (sumG sn (0 * 20 + 0) 0 400)), (0, .ref x), (1, .int v)]) hx hb dX6_fall_66 hl (k := 0) rfl (nI_1 i) (by decide) rfl (fun ls hl => ?_)
          refine lv_goto (tgt := 35) hx hb dX6_fall_69 (by decide) ?_
          exact ih_35 (i + 1) (by omega) _ _ _ _ hk G1_0 G1_1 G1_2 (by rw [← fallC_step (show i < 400 by omega)]; exact G1_a0) J (lv_sub hl [0, 1, 2, 3] rfl)
      exact loop_35 400 0 (by omega) _ _ _ _ hk Fa0 Fa1 Fa2 (by rw [fallC_0]; exact Fa3) J (lv_sub hl [0, 1, 2, 3] rfl)
    · subst hQ
      exact z_throw (ik := 49) (is := 116) (ic := 53) (cls := "java/lang/IllegalArgumentException") hflags X hRz J htab hlocks hl.1 zfitA (by decide +kernel) (by decide +kernel) (List.mem_of_getElem? (i := 5) rfl) (fun w9 h9 => List.mem_cons_of_mem _ (List.mem_append_right _ h9)) zbadA hRz.2.1 zgoodA dX6_fall_11 dX6_fall_14 dX6_fall_15 dX6_fall_17 dX6_fall_20 (Nat.le_of_ble_eq_true rfl) (Nat.le_of_ble_eq_true rfl) (Nat.le_of_ble_eq_true rfl) (Nat.le_of_ble_eq_true rfl) (by exact ⟨if_neg (fun q9 => q9.2 (Int32.not_le.mp cz8)), rfl⟩) (Nat.le_of_ble_eq_true rfl) (Nat.le_of_ble_eq_true rfl)
set_option maxHeartbeats 400000 in
set_option maxRecDepth 100000 in
theorem cX6_snow_ok (l : Launch) (hflags : l.flags = flags0) (E : zG) {ws : va_W} {x fl rl wh gr gra tr sc : Nat} {lim sup off plo hrs : Int32} {sn : Nat → Int32} {co ro : Int32} (Fa0 : ws[0]? = some (x, .inr (7, [.ref fl, .ref rl, .ref wh, .ref gr, .ref tr, .ref sc, .int lim, .int sup, .int off, .int plo, .int hrs]))) (Fa1 : ws[4]? = some (gr, .inr (2, [.ref gra]))) (Fa2 : ws[5]? = some (gra, zI4 E 400 sn))  : vx_Met l yX6_snow wsX6_snow ({ frames := 7, cells := 6, slots := 40, locals := 103 } : Room) (va_Pc [.ref x, .int co, .int ro] (zY E ws)) (va_Qi (fun (r : Int32) (ws' : va_W) => (ws = ws') ∧ (kSnow co ro = 0 ∧ r = gd sn (ro * 20 + co))) (zI E) (zA E)) (zX E ws (fun nm => kSnow co ro = 1 ∧ nm = "java/lang/IndexOutOfBoundsException")) 6 40 (zA E) := by
  refine vx_ofW (cc := cX6_snow) (maxL := 3) (ret := (some .int)) (by decide) rfl ?_
  intro p e s m args below meth c s₁ B hml htab hv
  obtain ⟨hargs9, hI, hRz⟩ := hv
  have hx := B.exec
  have hb := B.bytes
  have hr := B.returns
  have hlocks := B.notSynchronized
  have X : zC E p m c cX6_snow 3 s args wsX6_snow RX6 := z_open B hml hI
  have hown := X.1.2.2.2.1
  have hts := X.1.2.2.2.2
  have J := hI.J
  have hi_X6 : ∀ w ∈ wsX60, w ∈ wsX6_snow := by decide +kernel
  have hk : zK [] ws ws := zK.rf
  have hl := lv_entry ([.ref x, .int co, .int ro]) (n := 3) (Nat.le_of_ble_eq_true rfl)
  rw [show entryFrame m args 3 = entryFrame m ([.ref x, .int co, .int ro] : List Value).toArray 3 from by rw [hargs9], lg_entry_eq]
  generalize (lg_sl ([.ref x, .int co, .int ro]) ++ List.replicate (3 - (lg_sl ([.ref x, .int co, .int ro])).length) Slot.unset).toArray = ls at hl ⊢
  have hl : lv_has ls 3 [(0, .ref x), (1, .int co), (2, .int ro)] := hl
  generalize hQ : (vx_MQ below (va_Qi (fun (r : Int32) (ws' : va_W) => (ws = ws') ∧ (kSnow co ro = 0 ∧ r = gd sn (ro * 20 + co))) (zI E) (zA E)) (zX E ws (fun nm => kSnow co ro = 1 ∧ nm = "java/lang/IndexOutOfBoundsException")) args s 6 40 (zA E)) = QQ
  refine lv_iload_n hx hb dX6_snow_0 rfl (lv_at hl 1 rfl) ?_
  refine lv_bipush (v := 20) hx hb dX6_snow_1 (by decide) ?_
  refine z_xv J (z_yS (As := [.int co, .int 20]) (rest := []) X hRz J (cX6_needIndex_ok l hflags E (n := 20) (by decide)) (va_cwS 2 hts gX6_snow_X6_needIndex rfl rfl rfl (by decide +kernel) ⟨Nat.le_of_ble_eq_true rfl, Nat.le_of_ble_eq_true rfl⟩) rfl hl.1 rfl (Nat.le_of_ble_eq_true rfl) dX6_snow_3 ⟨Nat.le_of_ble_eq_true rfl, Nat.le_of_ble_eq_true rfl⟩) (fun nm ce q9 H locs hp9 J h1 h2 h3 => ?_) (fun ws_1 H locs hp9 J => ?_)
  · subst hQ
    exact z_out X J htab hlocks h1 h2 h3 (by exact ⟨if_neg (fun q9 => hp9.1 q9.1), hp9.2⟩) (Nat.le_of_ble_eq_true rfl) (Nat.le_of_ble_eq_true rfl)
  obtain ⟨rfl, e_r3⟩ := hp9
  refine lv_iload_n hx hb dX6_snow_6 rfl (lv_at hl 2 rfl) ?_
  refine lv_bipush (v := 20) hx hb dX6_snow_7 (by decide) ?_
  refine z_xv J (z_yS (As := [.int ro, .int 20]) (rest := []) X hRz J (cX6_needIndex_ok l hflags E (n := 20) (by decide)) (va_cwS 2 hts gX6_snow_X6_needIndex rfl rfl rfl (by decide +kernel) ⟨Nat.le_of_ble_eq_true rfl, Nat.le_of_ble_eq_true rfl⟩) rfl hl.1 rfl (Nat.le_of_ble_eq_true rfl) dX6_snow_9 ⟨Nat.le_of_ble_eq_true rfl, Nat.le_of_ble_eq_true rfl⟩) (fun nm ce q9 H locs hp9 J h1 h2 h3 => ?_) (fun ws_2 H locs hp9 J => ?_)
  · subst hQ
    exact z_out X J htab hlocks h1 h2 h3 (by exact ⟨if_neg (fun q9 => hp9.1 q9.2), hp9.2⟩) (Nat.le_of_ble_eq_true rfl) (Nat.le_of_ble_eq_true rfl)
  obtain ⟨rfl, e_r9⟩ := hp9
  refine lv_aload_n hx hb dX6_snow_12 rfl (lv_at hl 0 rfl) ?_
  refine z_get (C := RX6) (T := TX6) (N := 11) (ci := 7) (v := .ref gr) X J hi_X6 0 Fa0 rfl 3 (by decide) (by decide +kernel) rfl dX6_snow_13 ?_
  refine lv_iload_n hx hb dX6_snow_16 rfl (lv_at hl 2 rfl) ?_
  refine lv_bipush (v := 20) hx hb dX6_snow_17 (by decide) ?_
  refine lv_imul hx hb dX6_snow_19 ?_
  refine lv_iload_n hx hb dX6_snow_20 rfl (lv_at hl 1 rfl) ?_
  refine lv_iadd hx hb dX6_snow_21 ?_
  refine z_cr (z_rV (As := [.int ((ro * 20) + co)]) (rest := []) (ci := 2) (q0 := 4) X J (cX1_depth_ok l E Fa1 Fa2) (cwV 1 hts gX6_snow_X1_depth rfl rfl rfl (by decide +kernel) ⟨Nat.le_of_ble_eq_true rfl, Nat.le_of_ble_eq_true rfl⟩) Fa1 rfl rfl rfl hl.1 rfl (Nat.le_of_ble_eq_true rfl) dX6_snow_22 ⟨Nat.le_of_ble_eq_true rfl, Nat.le_of_ble_eq_true rfl⟩) (fun r22 e_r22 => ?_)
  subst e_r22
  refine W.widen (k := 6) (n := 40) (by omega) (by omega) ?_
  subst hQ
  refine vx_ret ?_
  exact W.iret (v := gd sn ((ro * 20) + co)) hx hb hr (fun t ht hW => ⟨⟨gd sn ((ro * 20) + co), ws, rfl, ⟨rfl, (by exact ⟨if_pos ⟨e_r3, e_r9⟩, rfl⟩)⟩, J.I X ht hW.alike⟩, J.F ht⟩) J.locs dX6_snow_25
set_option maxHeartbeats 400000 in
set_option maxRecDepth 100000 in
theorem cX6_about_ok (l : Launch) (hflags : l.flags = flags0) (E : zG) {ws : va_W} {x fl rl wh gr gra tr sc ea nf : Nat} {mc1 lim sup off plo hrs : Int32} {fa sn : Nat → Int32} {v w : Int32} (Fa0 : ws[0]? = some (x, .inr (7, [.ref fl, .ref rl, .ref wh, .ref gr, .ref tr, .ref sc, .int lim, .int sup, .int off, .int plo, .int hrs]))) (Fa1 : ws[1]? = some (fl, .inr (0, [.int mc1, .ref ea, .int (nI nf)]))) (Fa2 : ws[4]? = some (gr, .inr (2, [.ref gra]))) (Fa3 : ws[5]? = some (gra, zI4 E 400 sn)) (hF : FS E ws fa ea nf) (hnf : nf ≤ 10) (hok : ∀ j, j < nf → okF fa j) : vx_Met l yX6_about wsX6_about ({ frames := 7, cells := 6, slots := 40, locals := 103 } : Room) (va_Pc [.ref x, .int v, .int w] (zY E ws)) (va_Qi (fun (r : Int32) (ws' : va_W) => (ws = ws') ∧ ((kAsk v (nI nf) w 6) = 0 ∧ r = aboutS fa sn v.toNatClampNeg w.toNatClampNeg)) (zI E) (zA E)) (zX E ws (fun nm => (kAsk v (nI nf) w 6) = 1 ∧ nm = "java/lang/IndexOutOfBoundsException")) 6 40 (zA E) := by
  refine vx_ofW (cc := cX6_about) (maxL := 4) (ret := (some .int)) (by decide) rfl ?_
  intro p e s m args below meth c s₁ B hml htab hv
  obtain ⟨hargs9, hI, hRz⟩ := hv
  have hx := B.exec
  have hb := B.bytes
  have hr := B.returns
  have hlocks := B.notSynchronized
  have X : zC E p m c cX6_about 4 s args wsX6_about RX6 := z_open B hml hI
  have hown := X.1.2.2.2.1
  have hts := X.1.2.2.2.2
  have J := hI.J
  have hi_X0 : ∀ w ∈ wsX00, w ∈ wsX6_about := by decide +kernel
  have hi_X4 : ∀ w ∈ wsX40, w ∈ wsX6_about := by decide +kernel
  have hi_X6 : ∀ w ∈ wsX60, w ∈ wsX6_about := by decide +kernel
  have hk : zK [] ws ws := zK.rf
  have hl := lv_entry ([.ref x, .int v, .int w]) (n := 4) (Nat.le_of_ble_eq_true rfl)
  rw [show entryFrame m args 4 = entryFrame m ([.ref x, .int v, .int w] : List Value).toArray 4 from by rw [hargs9], lg_entry_eq]
  generalize (lg_sl ([.ref x, .int v, .int w]) ++ List.replicate (4 - (lg_sl ([.ref x, .int v, .int w])).length) Slot.unset).toArray = ls at hl ⊢
  have hl : lv_has ls 4 [(0, .ref x), (1, .int v), (2, .int w)] := hl
  generalize hQ : (vx_MQ below (va_Qi (fun (r : Int32) (ws' : va_W) => (ws = ws') ∧ ((kAsk v (nI nf) w 6) = 0 ∧ r = aboutS fa sn v.toNatClampNeg w.toNatClampNeg)) (zI E) (zA E)) (zX E ws (fun nm => (kAsk v (nI nf) w 6) = 1 ∧ nm = "java/lang/IndexOutOfBoundsException")) args s 6 40 (zA E)) = QQ
  refine lv_iload_n hx hb dX6_about_0 rfl (lv_at hl 1 rfl) ?_
  refine lv_aload_n hx hb dX6_about_1 rfl (lv_at hl 0 rfl) ?_
  refine z_get (C := RX6) (T := TX6) (N := 11) (ci := 7) (v := .ref fl) X J hi_X6 0 Fa0 rfl 0 (by decide) (by decide +kernel) rfl dX6_about_2 ?_
  refine z_cr (z_rV (As := []) (rest := [.int v]) (ci := 0) (q0 := 1) X J (cJx4a65c_size_8abf5_ok l E Fa1) (cwV 0 hts gX6_about_Jx4a65c_size_8abf5 rfl rfl rfl (by decide +kernel) ⟨Nat.le_of_ble_eq_true rfl, Nat.le_of_ble_eq_true rfl⟩) Fa1 rfl rfl rfl hl.1 rfl (Nat.le_of_ble_eq_true rfl) dX6_about_5 ⟨Nat.le_of_ble_eq_true rfl, Nat.le_of_ble_eq_true rfl⟩) (fun r5 e_r5 => ?_)
  subst e_r5
  refine z_xv J (z_yS (As := [.int v, .int (nI nf)]) (rest := []) X hRz J (cX6_needIndex_ok l hflags E (by omega)) (va_cwS 2 hts gX6_about_X6_needIndex rfl rfl rfl (by decide +kernel) ⟨Nat.le_of_ble_eq_true rfl, Nat.le_of_ble_eq_true rfl⟩) rfl hl.1 rfl (Nat.le_of_ble_eq_true rfl) dX6_about_8 ⟨Nat.le_of_ble_eq_true rfl, Nat.le_of_ble_eq_true rfl⟩) (fun nm ce q9 H locs hp9 J h1 h2 h3 => ?_) (fun ws_1 H locs hp9 J => ?_)
  · subst hQ
    exact z_out X J htab hlocks h1 h2 h3 (by exact ⟨if_neg (fun q9 => hp9.1 q9.1), hp9.2⟩) (Nat.le_of_ble_eq_true rfl) (Nat.le_of_ble_eq_true rfl)
  obtain ⟨rfl, e_r8⟩ := hp9
  refine lv_iload_n hx hb dX6_about_11 rfl (lv_at hl 2 rfl) ?_
  refine lv_bipush (v := 7) hx hb dX6_about_12 (by decide) ?_
  refine z_xv J (z_yS (As := [.int w, .int 7]) (rest := []) X hRz J (cX6_needIndex_ok l hflags E (n := 7) (by decide)) (va_cwS 2 hts gX6_about_X6_needIndex rfl rfl rfl (by decide +kernel) ⟨Nat.le_of_ble_eq_true rfl, Nat.le_of_ble_eq_true rfl⟩) rfl hl.1 rfl (Nat.le_of_ble_eq_true rfl) dX6_about_14 ⟨Nat.le_of_ble_eq_true rfl, Nat.le_of_ble_eq_true rfl⟩) (fun nm ce q9 H locs hp9 J h1 h2 h3 => ?_) (fun ws_2 H locs hp9 J => ?_)
  · subst hQ
    exact z_out X J htab hlocks h1 h2 h3 (by exact ⟨if_neg (fun q9 => hp9.1 q9.2), hp9.2⟩) (Nat.le_of_ble_eq_true rfl) (Nat.le_of_ble_eq_true rfl)
  obtain ⟨rfl, e_r14⟩ := hp9
  obtain ⟨fk, hfk, ekfk⟩ := inR_nI (n := nf) (by omega) e_r8
  have hl : lv_has ls 4 [(0, .ref x), (1, .int (nI fk)), (2, .int w)] := lv_repl hl (congrArg (fun z9 : Int32 => ([(0, .ref x), (1, .int z9), (2, .int w)] : List (Nat × Value))) (show v = nI fk from ekfk))
  have eyfk : v.toNatClampNeg = fk := by rw [ekfk, nI_clamp (by omega)]
  obtain ⟨qe9, g9, fo9, qf9, sp9, qs9, hqe9, hqf9, hqs9, he9, hg9, hfc9, hsc9⟩ := (hF).at (i := fk) (by omega)
  refine lv_aload_n hx hb dX6_about_17 rfl (lv_at hl 0 rfl) ?_
  refine z_get (C := RX6) (T := TX6) (N := 11) (ci := 7) (v := .ref fl) X J hi_X6 0 Fa0 rfl 0 (by decide) (by decide +kernel) rfl dX6_about_18 ?_
  refine lv_iload_n hx hb dX6_about_21 rfl (lv_at hl 1 rfl) ?_
  refine z_crq (z_rV (As := [.int (nI fk)]) (rest := []) (ci := 0) (q0 := 1) X J (cJx4a65c_get_915e3_ok l E Fa1 he9 (by omega) (by omega)) (cwV 1 hts gX6_about_Jx4a65c_get_915e3 rfl rfl rfl (by decide +kernel) ⟨Nat.le_of_ble_eq_true rfl, Nat.le_of_ble_eq_true rfl⟩) Fa1 rfl rfl rfl hl.1 rfl (Nat.le_of_ble_eq_true rfl) dX6_about_22 ⟨Nat.le_of_ble_eq_true rfl, Nat.le_of_ble_eq_true rfl⟩) (fun r22 e_r22 => ?_)
  subst e_r22
  refine W.eq (g2 := F0 m 25 ls [.ref fo9]) (by rw [show g9 fk = some fo9 from hg9]; rfl) ?_
  refine z_cast (own := RX6) (q := (RX0, TX0, 5)) X J qf9 hfc9 (ci := 1) rfl (hts (.classLink RX6 76 RX0) (by decide +kernel)) dX6_about_25 ?_
  refine lv_astore_n (lv' := [(3, .ref fo9), (0, .ref x), (1, .int (nI fk)), (2, .int w)]) hx hb dX6_about_28 rfl hl (by decide) rfl (fun ls hl => ?_)
  refine lv_iload_n hx hb dX6_about_29 rfl (lv_at hl 3 rfl) ?_
  by_cases hs0 : w = 0
  · refine lv_tableIn (off := 38) (tgt := 68) hx hb dX6_about_30 (by rw [hs0]; decide) (by rw [hs0]; decide) (by rw [hs0]; decide) (by decide) ?_
    refine lv_aload_n hx hb dX6_about_68 rfl (lv_at hl 0 rfl) ?_
    refine z_get (C := RX0) (T := TX0) (N := 5) (ci := 1) (v := .int (fa (6 * fk + 0))) X J hi_X0 qf9 hfc9 rfl 0 (by decide) (by decide +kernel) rfl dX6_about_69 ?_
    refine W.widen (k := 6) (n := 40) (by omega) (by omega) ?_
    subst hQ
    refine vx_ret ?_
    exact W.iret (v := fa (6 * fk + 0)) hx hb hr (fun t ht hW => ⟨⟨fa (6 * fk + 0), ws, rfl, ⟨rfl, (by refine ⟨if_pos ⟨e_r8, e_r14⟩, ?_⟩; rw [hs0, eyfk]; exact rfl)⟩, J.I X ht hW.alike⟩, J.F ht⟩) J.locs dX6_about_72
  by_cases hs1 : w = 1
  · refine lv_tableIn (off := 43) (tgt := 73) hx hb dX6_about_30 (by rw [hs1]; decide) (by rw [hs1]; decide) (by rw [hs1]; decide) (by decide) ?_
    refine lv_aload_n hx hb dX6_about_73 rfl (lv_at hl 0 rfl) ?_
    refine z_get (C := RX0) (T := TX0) (N := 5) (ci := 1) (v := .int (fa (6 * fk + 1))) X J hi_X0 qf9 hfc9 rfl 1 (by decide) (by decide +kernel) rfl dX6_about_74 ?_
    refine W.widen (k := 6) (n := 40) (by omega) (by omega) ?_
    subst hQ
    refine vx_ret ?_
    exact W.iret (v := fa (6 * fk + 1)) hx hb hr (fun t ht hW => ⟨⟨fa (6 * fk + 1), ws, rfl, ⟨rfl, (by refine ⟨if_pos ⟨e_r8, e_r14⟩, ?_⟩; rw [hs1, eyfk]; exact rfl)⟩, J.I X ht hW.alike⟩, J.F ht⟩) J.locs dX6_about_77
  by_cases hs2 : w = 2
  · refine lv_tableIn (off := 48) (tgt := 78) hx hb dX6_about_30 (by rw [hs2]; decide) (by rw [hs2]; decide) (by rw [hs2]; decide) (by decide) ?_
    refine lv_aload_n hx hb dX6_about_78 rfl (lv_at hl 0 rfl) ?_
    refine z_get (C := RX0) (T := TX0) (N := 5) (ci := 1) (v := .ref sp9) X J hi_X0 qf9 hfc9 rfl 2 (by decide) (by decide +kernel) rfl dX6_about_79 ?_
    refine z_get (C := RX4) (T := TX4) (N := 3) (ci := 5) (v := .int (nI (fle fa fk))) X J hi_X4 qs9 hsc9 rfl 1 (by decide) (by decide +kernel) rfl dX6_about_82 ?_
    refine W.widen (k := 6) (n := 40) (by omega) (by omega) ?_
    subst hQ
    refine vx_ret ?_
    exact W.iret (v := nI (fle fa fk)) hx hb hr (fun t ht hW => ⟨⟨nI (fle fa fk), ws, rfl, ⟨rfl, (by refine ⟨if_pos ⟨e_r8, e_r14⟩, ?_⟩; rw [hs2, eyfk]; exact (hok fk hfk).le.1.symm)⟩, J.I X ht hW.alike⟩, J.F ht⟩) J.locs dX6_about_85
  by_cases hs3 : w = 3
  · refine lv_tableIn (off := 56) (tgt := 86) hx hb dX6_about_30 (by rw [hs3]; decide) (by rw [hs3]; decide) (by rw [hs3]; decide) (by decide) ?_
    refine lv_aload_n hx hb dX6_about_86 rfl (lv_at hl 0 rfl) ?_
    refine z_get (C := RX0) (T := TX0) (N := 5) (ci := 1) (v := .ref sp9) X J hi_X0 qf9 hfc9 rfl 2 (by decide) (by decide +kernel) rfl dX6_about_87 ?_
    refine z_get (C := RX4) (T := TX4) (N := 3) (ci := 5) (v := .int (fa (6 * fk + 3))) X J hi_X4 qs9 hsc9 rfl 2 (by decide) (by decide +kernel) rfl dX6_about_90 ?_
    refine lv_if_eq (tgt := 100) hx hb dX6_about_93 (by decide) (fun cz93 => ?_) (fun cz93 => ?_)
    · refine lv_iconst (v := 0) hx hb dX6_about_100 (by decide) ?_
      refine W.widen (k := 6) (n := 40) (by omega) (by omega) ?_
      subst hQ
      refine vx_ret ?_
      exact W.iret (v := 0) hx hb hr (fun t ht hW => ⟨⟨0, ws, rfl, ⟨rfl, (by refine ⟨if_pos ⟨e_r8, e_r14⟩, ?_⟩; rw [hs3, eyfk]; exact is01_0 (hok fk hfk).dn cz93)⟩, J.I X ht hW.alike⟩, J.F ht⟩) J.locs dX6_about_101
    · refine lv_iconst (v := 1) hx hb dX6_about_96 (by decide) ?_
      refine lv_goto (tgt := 101) hx hb dX6_about_97 (by decide) ?_
      refine W.widen (k := 6) (n := 40) (by omega) (by omega) ?_
      subst hQ
      refine vx_ret ?_
      exact W.iret (v := 1) hx hb hr (fun t ht hW => ⟨⟨1, ws, rfl, ⟨rfl, (by refine ⟨if_pos ⟨e_r8, e_r14⟩, ?_⟩; rw [hs3, eyfk]; exact is01_1 (hok fk hfk).dn cz93)⟩, J.I X ht hW.alike⟩, J.F ht⟩) J.locs dX6_about_101
  by_cases hs4 : w = 4
  · refine lv_tableIn (off := 72) (tgt := 102) hx hb dX6_about_30 (by rw [hs4]; decide) (by rw [hs4]; decide) (by rw [hs4]; decide) (by decide) ?_
    refine lv_aload_n hx hb dX6_about_102 rfl (lv_at hl 0 rfl) ?_
    refine z_get (C := RX0) (T := TX0) (N := 5) (ci := 1) (v := .int (fa (6 * fk + 4))) X J hi_X0 qf9 hfc9 rfl 3 (by decide) (by decide +kernel) rfl dX6_about_103 ?_
    refine W.widen (k := 6) (n := 40) (by omega) (by omega) ?_
    subst hQ
    refine vx_ret ?_
    exact W.iret (v := fa (6 * fk + 4)) hx hb hr (fun t ht hW => ⟨⟨fa (6 * fk + 4), ws, rfl, ⟨rfl, (by refine ⟨if_pos ⟨e_r8, e_r14⟩, ?_⟩; rw [hs4, eyfk]; exact rfl)⟩, J.I X ht hW.alike⟩, J.F ht⟩) J.locs dX6_about_106
  by_cases hs5 : w = 5
  · refine lv_tableIn (off := 77) (tgt := 107) hx hb dX6_about_30 (by rw [hs5]; decide) (by rw [hs5]; decide) (by rw [hs5]; decide) (by decide) ?_
    refine lv_aload_n hx hb dX6_about_107 rfl (lv_at hl 0 rfl) ?_
    refine z_get (C := RX0) (T := TX0) (N := 5) (ci := 1) (v := .int (fa (6 * fk + 5))) X J hi_X0 qf9 hfc9 rfl 4 (by decide) (by decide +kernel) rfl dX6_about_108 ?_
    refine W.widen (k := 6) (n := 40) (by omega) (by omega) ?_
    subst hQ
    refine vx_ret ?_
    exact W.iret (v := fa (6 * fk + 5)) hx hb hr (fun t ht hW => ⟨⟨fa (6 * fk + 5), ws, rfl, ⟨rfl, (by refine ⟨if_pos ⟨e_r8, e_r14⟩, ?_⟩; rw [hs5, eyfk]; exact rfl)⟩, J.I X ht hW.alike⟩, J.F ht⟩) J.locs dX6_about_111
  refine lv_tableOut (tgt := 112) hx hb dX6_about_30 (by have q0 := lv_neT hs0 (a := 0) rfl; have q1 := lv_neT hs1 (a := 1) rfl; have q2 := lv_neT hs2 (a := 2) rfl; have q3 := lv_neT hs3 (a := 3) rfl; have q4 := lv_neT hs4 (a := 4) rfl; have q5 := lv_neT hs5 (a := 5) rfl; omega) (by decide) ?_
  refine lv_aload_n hx hb dX6_about_112 rfl (lv_at hl 1 rfl) ?_
  refine z_get (C := RX6) (T := TX6) (N := 11) (ci := 7) (v := .ref gr) X J hi_X6 0 Fa0 rfl 3 (by decide) (by decide +kernel) rfl dX6_about_113 ?_
  refine lv_aload_n hx hb dX6_about_116 rfl (lv_at hl 0 rfl) ?_
  refine z_get (C := RX0) (T := TX0) (N := 5) (ci := 1) (v := .ref sp9) X J hi_X0 qf9 hfc9 rfl 2 (by decide) (by decide +kernel) rfl dX6_about_117 ?_
  refine z_cr (z_rV (As := [.ref sp9]) (rest := []) (ci := 2) (q0 := 4) X J (cX1_sum_ok l E Fa2 Fa3 hsc9 (Nat.le_trans (hok fk hfk).le.2 (by decide))) (cwV 1 hts gX6_about_X1_sum rfl rfl rfl (by decide +kernel) ⟨Nat.le_of_ble_eq_true rfl, Nat.le_of_ble_eq_true rfl⟩) Fa2 rfl rfl rfl hl.1 rfl (Nat.le_of_ble_eq_true rfl) dX6_about_120 ⟨Nat.le_of_ble_eq_true rfl, Nat.le_of_ble_eq_true rfl⟩) (fun r120 e_r120 => ?_)
  subst e_r120
  refine W.widen (k := 6) (n := 40) (by omega) (by omega) ?_
  subst hQ
  refine vx_ret ?_
  exact W.iret (v := sumG sn (ffi fa fk) (fa (6 * fk + 3)) (fle fa fk)) hx hb hr (fun t ht hW => ⟨⟨sumG sn (ffi fa fk) (fa (6 * fk + 3)) (fle fa fk), ws, rfl, ⟨rfl, (by refine ⟨if_pos ⟨e_r8, e_r14⟩, ?_⟩; rw [w6_of e_r14 hs0 hs1 hs2 hs3 hs4 hs5, eyfk]; rfl)⟩, J.I X ht hW.alike⟩, J.F ht⟩) J.locs dX6_about_123
set_option maxHeartbeats 400000 in
set_option maxRecDepth 100000 in
theorem cX6_told_ok (l : Launch) (hflags : l.flags = flags0) (E : zG) {ws : va_W} {x fl rl wh gr gra tr sc eb nr : Nat} {mc2 lim sup off plo hrs : Int32} {rd ri sn : Nat → Int32} {v w : Int32} (Fa0 : ws[0]? = some (x, .inr (7, [.ref fl, .ref rl, .ref wh, .ref gr, .ref tr, .ref sc, .int lim, .int sup, .int off, .int plo, .int hrs]))) (Fa1 : ws[2]? = some (rl, .inr (0, [.int mc2, .ref eb, .int (nI nr)]))) (Fa2 : ws[4]? = some (gr, .inr (2, [.ref gra]))) (Fa3 : ws[5]? = some (gra, zI4 E 400 sn)) (hR : RS E ws rd ri eb nr) (hnr : nr ≤ 4) (hor : ∀ q, q < nr → okR rd ri q) : vx_Met l yX6_told wsX6_told ({ frames := 7, cells := 6, slots := 40, locals := 103 } : Room) (va_Pc [.ref x, .int v, .int w] (zY E ws)) (va_Qi (fun (r : Int32) (ws' : va_W) => (ws = ws') ∧ ((kAsk v (nI nr) w 4) = 0 ∧ r = toldS sn rd ri lim v.toNatClampNeg w)) (zI E) (zA E)) (zX E ws (fun nm => (kAsk v (nI nr) w 4) = 1 ∧ nm = "java/lang/IndexOutOfBoundsException")) 6 40 (zA E) := by
  refine vx_ofW (cc := cX6_told) (maxL := 4) (ret := (some .int)) (by decide) rfl ?_
  intro p e s m args below meth c s₁ B hml htab hv
  obtain ⟨hargs9, hI, hRz⟩ := hv
  have hx := B.exec
  have hb := B.bytes
  have hr := B.returns
  have hlocks := B.notSynchronized
  have X : zC E p m c cX6_told 4 s args wsX6_told RX6 := z_open B hml hI
  have hown := X.1.2.2.2.1
  have hts := X.1.2.2.2.2
  have J := hI.J
  have hi_X2 : ∀ w ∈ wsX20, w ∈ wsX6_told := by decide +kernel
  have hi_X4 : ∀ w ∈ wsX40, w ∈ wsX6_told := by decide +kernel
  have hi_X6 : ∀ w ∈ wsX60, w ∈ wsX6_told := by decide +kernel
  have hk : zK [] ws ws := zK.rf
  have hl := lv_entry ([.ref x, .int v, .int w]) (n := 4) (Nat.le_of_ble_eq_true rfl)
  rw [show entryFrame m args 4 = entryFrame m ([.ref x, .int v, .int w] : List Value).toArray 4 from by rw [hargs9], lg_entry_eq]
  generalize (lg_sl ([.ref x, .int v, .int w]) ++ List.replicate (4 - (lg_sl ([.ref x, .int v, .int w])).length) Slot.unset).toArray = ls at hl ⊢
  have hl : lv_has ls 4 [(0, .ref x), (1, .int v), (2, .int w)] := hl
  generalize hQ : (vx_MQ below (va_Qi (fun (r : Int32) (ws' : va_W) => (ws = ws') ∧ ((kAsk v (nI nr) w 4) = 0 ∧ r = toldS sn rd ri lim v.toNatClampNeg w)) (zI E) (zA E)) (zX E ws (fun nm => (kAsk v (nI nr) w 4) = 1 ∧ nm = "java/lang/IndexOutOfBoundsException")) args s 6 40 (zA E)) = QQ
  refine lv_iload_n hx hb dX6_told_0 rfl (lv_at hl 1 rfl) ?_
  refine lv_aload_n hx hb dX6_told_1 rfl (lv_at hl 0 rfl) ?_
  refine z_get (C := RX6) (T := TX6) (N := 11) (ci := 7) (v := .ref rl) X J hi_X6 0 Fa0 rfl 1 (by decide) (by decide +kernel) rfl dX6_told_2 ?_
  refine z_cr (z_rV (As := []) (rest := [.int v]) (ci := 0) (q0 := 2) X J (cJx4a65c_size_8abf5_ok l E Fa1) (cwV 0 hts gX6_told_Jx4a65c_size_8abf5 rfl rfl rfl (by decide +kernel) ⟨Nat.le_of_ble_eq_true rfl, Nat.le_of_ble_eq_true rfl⟩) Fa1 rfl rfl rfl hl.1 rfl (Nat.le_of_ble_eq_true rfl) dX6_told_5 ⟨Nat.le_of_ble_eq_true rfl, Nat.le_of_ble_eq_true rfl⟩) (fun r5 e_r5 => ?_)
  subst e_r5
  refine z_xv J (z_yS (As := [.int v, .int (nI nr)]) (rest := []) X hRz J (cX6_needIndex_ok l hflags E (by omega)) (va_cwS 2 hts gX6_told_X6_needIndex rfl rfl rfl (by decide +kernel) ⟨Nat.le_of_ble_eq_true rfl, Nat.le_of_ble_eq_true rfl⟩) rfl hl.1 rfl (Nat.le_of_ble_eq_true rfl) dX6_told_8 ⟨Nat.le_of_ble_eq_true rfl, Nat.le_of_ble_eq_true rfl⟩) (fun nm ce q9 H locs hp9 J h1 h2 h3 => ?_) (fun ws_1 H locs hp9 J => ?_)
  · subst hQ
    exact z_out X J htab hlocks h1 h2 h3 (by exact ⟨if_neg (fun q9 => hp9.1 q9.1), hp9.2⟩) (Nat.le_of_ble_eq_true rfl) (Nat.le_of_ble_eq_true rfl)
  obtain ⟨rfl, e_r8⟩ := hp9
  refine lv_iload_n hx hb dX6_told_11 rfl (lv_at hl 2 rfl) ?_
  refine lv_iconst (v := 5) hx hb dX6_told_12 (by decide) ?_
  refine z_xv J (z_yS (As := [.int w, .int 5]) (rest := []) X hRz J (cX6_needIndex_ok l hflags E (n := 5) (by decide)) (va_cwS 2 hts gX6_told_X6_needIndex rfl rfl rfl (by decide +kernel) ⟨Nat.le_of_ble_eq_true rfl, Nat.le_of_ble_eq_true rfl⟩) rfl hl.1 rfl (Nat.le_of_ble_eq_true rfl) dX6_told_13 ⟨Nat.le_of_ble_eq_true rfl, Nat.le_of_ble_eq_true rfl⟩) (fun nm ce q9 H locs hp9 J h1 h2 h3 => ?_) (fun ws_2 H locs hp9 J => ?_)
  · subst hQ
    exact z_out X J htab hlocks h1 h2 h3 (by exact ⟨if_neg (fun q9 => hp9.1 q9.2), hp9.2⟩) (Nat.le_of_ble_eq_true rfl) (Nat.le_of_ble_eq_true rfl)
  obtain ⟨rfl, e_r13⟩ := hp9
  obtain ⟨fk, hfk, ekfk⟩ := inR_nI (n := nr) (by omega) e_r8
  have hl : lv_has ls 4 [(0, .ref x), (1, .int (nI fk)), (2, .int w)] := lv_repl hl (congrArg (fun z9 : Int32 => ([(0, .ref x), (1, .int z9), (2, .int w)] : List (Nat × Value))) (show v = nI fk from ekfk))
  have eyfk : v.toNatClampNeg = fk := by rw [ekfk, nI_clamp (by omega)]
  obtain ⟨qe9, g9, fo9, qf9, sp9, qs9, hqe9, hqf9, hqs9, he9, hg9, hfc9, hsc9⟩ := (hR).at (i := fk) (by omega)
  refine lv_aload_n hx hb dX6_told_16 rfl (lv_at hl 0 rfl) ?_
  refine z_get (C := RX6) (T := TX6) (N := 11) (ci := 7) (v := .ref rl) X J hi_X6 0 Fa0 rfl 1 (by decide) (by decide +kernel) rfl dX6_told_17 ?_
  refine lv_iload_n hx hb dX6_told_20 rfl (lv_at hl 1 rfl) ?_
  refine z_crq (z_rV (As := [.int (nI fk)]) (rest := []) (ci := 0) (q0 := 2) X J (cJx4a65c_get_915e3_ok l E Fa1 he9 (by omega) (by omega)) (cwV 1 hts gX6_told_Jx4a65c_get_915e3 rfl rfl rfl (by decide +kernel) ⟨Nat.le_of_ble_eq_true rfl, Nat.le_of_ble_eq_true rfl⟩) Fa1 rfl rfl rfl hl.1 rfl (Nat.le_of_ble_eq_true rfl) dX6_told_21 ⟨Nat.le_of_ble_eq_true rfl, Nat.le_of_ble_eq_true rfl⟩) (fun r21 e_r21 => ?_)
  subst e_r21
  refine W.eq (g2 := F0 m 24 ls [.ref fo9]) (by rw [show g9 fk = some fo9 from hg9]; rfl) ?_
  refine z_cast (own := RX6) (q := (RX2, TX2, 2)) X J qf9 hfc9 (ci := 3) rfl (hts (.classLink RX6 100 RX2) (by decide +kernel)) dX6_told_24 ?_
  refine lv_astore_n (lv' := [(3, .ref fo9), (0, .ref x), (1, .int (nI fk)), (2, .int w)]) hx hb dX6_told_27 rfl hl (by decide) rfl (fun ls hl => ?_)
  refine lv_iload_n hx hb dX6_told_28 rfl (lv_at hl 3 rfl) ?_
  by_cases hs0 : w = 0
  · refine lv_tableIn (off := 31) (tgt := 60) hx hb dX6_told_29 (by rw [hs0]; decide) (by rw [hs0]; decide) (by rw [hs0]; decide) (by decide) ?_
    refine lv_aload_n hx hb dX6_told_60 rfl (lv_at hl 0 rfl) ?_
    refine z_get (C := RX2) (T := TX2) (N := 2) (ci := 3) (v := .ref sp9) X J hi_X2 qf9 hfc9 rfl 1 (by decide) (by decide +kernel) rfl dX6_told_61 ?_
    refine z_get (C := RX4) (T := TX4) (N := 3) (ci := 5) (v := .int (rd fk)) X J hi_X4 qs9 hsc9 rfl 2 (by decide) (by decide +kernel) rfl dX6_told_64 ?_
    refine lv_if_eq (tgt := 74) hx hb dX6_told_67 (by decide) (fun cz67 => ?_) (fun cz67 => ?_)
    · refine lv_iconst (v := 0) hx hb dX6_told_74 (by decide) ?_
      refine W.widen (k := 6) (n := 40) (by omega) (by omega) ?_
      subst hQ
      refine vx_ret ?_
      exact W.iret (v := 0) hx hb hr (fun t ht hW => ⟨⟨0, ws, rfl, ⟨rfl, (by refine ⟨if_pos ⟨e_r8, e_r13⟩, ?_⟩; rw [hs0, eyfk]; exact is01_0 (hor fk hfk).1 cz67)⟩, J.I X ht hW.alike⟩, J.F ht⟩) J.locs dX6_told_75
    · refine lv_iconst (v := 1) hx hb dX6_told_70 (by decide) ?_
      refine lv_goto (tgt := 75) hx hb dX6_told_71 (by decide) ?_
      refine W.widen (k := 6) (n := 40) (by omega) (by omega) ?_
      subst hQ
      refine vx_ret ?_
      exact W.iret (v := 1) hx hb hr (fun t ht hW => ⟨⟨1, ws, rfl, ⟨rfl, (by refine ⟨if_pos ⟨e_r8, e_r13⟩, ?_⟩; rw [hs0, eyfk]; exact is01_1 (hor fk hfk).1 cz67)⟩, J.I X ht hW.alike⟩, J.F ht⟩) J.locs dX6_told_75
  by_cases hs1 : w = 1
  · refine lv_tableIn (off := 47) (tgt := 76) hx hb dX6_told_29 (by rw [hs1]; decide) (by rw [hs1]; decide) (by rw [hs1]; decide) (by decide) ?_
    refine lv_aload_n hx hb dX6_told_76 rfl (lv_at hl 0 rfl) ?_
    refine z_get (C := RX2) (T := TX2) (N := 2) (ci := 3) (v := .int (ri fk)) X J hi_X2 qf9 hfc9 rfl 0 (by decide) (by decide +kernel) rfl dX6_told_77 ?_
    refine W.widen (k := 6) (n := 40) (by omega) (by omega) ?_
    subst hQ
    refine vx_ret ?_
    exact W.iret (v := ri fk) hx hb hr (fun t ht hW => ⟨⟨ri fk, ws, rfl, ⟨rfl, (by refine ⟨if_pos ⟨e_r8, e_r13⟩, ?_⟩; rw [hs1, eyfk]; exact rfl)⟩, J.I X ht hW.alike⟩, J.F ht⟩) J.locs dX6_told_80
  by_cases hs2 : w = 2
  · refine lv_tableIn (off := 52) (tgt := 81) hx hb dX6_told_29 (by rw [hs2]; decide) (by rw [hs2]; decide) (by rw [hs2]; decide) (by decide) ?_
    refine lv_aload_n hx hb dX6_told_81 rfl (lv_at hl 1 rfl) ?_
    refine z_get (C := RX6) (T := TX6) (N := 11) (ci := 7) (v := .ref gr) X J hi_X6 0 Fa0 rfl 3 (by decide) (by decide +kernel) rfl dX6_told_82 ?_
    refine lv_aload_n hx hb dX6_told_85 rfl (lv_at hl 0 rfl) ?_
    refine z_get (C := RX2) (T := TX2) (N := 2) (ci := 3) (v := .ref sp9) X J hi_X2 qf9 hfc9 rfl 1 (by decide) (by decide +kernel) rfl dX6_told_86 ?_
    refine lv_aload_n hx hb dX6_told_89 rfl (lv_at hl 1 rfl) ?_
    refine z_get (C := RX6) (T := TX6) (N := 11) (ci := 7) (v := .int lim) X J hi_X6 0 Fa0 rfl 6 (by decide) (by decide +kernel) rfl dX6_told_90 ?_
    refine z_cr (z_rV (As := [.ref sp9, .int lim]) (rest := []) (ci := 2) (q0 := 4) X J (cX1_blocked_ok l E Fa2 Fa3 hsc9 (by decide)) (cwV 2 hts gX6_told_X1_blocked rfl rfl rfl (by decide +kernel) ⟨Nat.le_of_ble_eq_true rfl, Nat.le_of_ble_eq_true rfl⟩) Fa2 rfl rfl rfl hl.1 rfl (Nat.le_of_ble_eq_true rfl) dX6_told_93 ⟨Nat.le_of_ble_eq_true rfl, Nat.le_of_ble_eq_true rfl⟩) (fun r93 e_r93 => ?_)
    subst e_r93
    refine W.widen (k := 6) (n := 40) (by omega) (by omega) ?_
    subst hQ
    refine vx_ret ?_
    exact W.iret (v := blkG sn (rfi (rd fk) (ri fk)) (rd fk) lim 20) hx hb hr (fun t ht hW => ⟨⟨blkG sn (rfi (rd fk) (ri fk)) (rd fk) lim 20, ws, rfl, ⟨rfl, (by refine ⟨if_pos ⟨e_r8, e_r13⟩, ?_⟩; rw [hs2, eyfk]; exact rfl)⟩, J.I X ht hW.alike⟩, J.F ht⟩) J.locs dX6_told_96
  by_cases hs3 : w = 3
  · refine lv_tableIn (off := 68) (tgt := 97) hx hb dX6_told_29 (by rw [hs3]; decide) (by rw [hs3]; decide) (by rw [hs3]; decide) (by decide) ?_
    refine lv_aload_n hx hb dX6_told_97 rfl (lv_at hl 1 rfl) ?_
    refine z_get (C := RX6) (T := TX6) (N := 11) (ci := 7) (v := .ref gr) X J hi_X6 0 Fa0 rfl 3 (by decide) (by decide +kernel) rfl dX6_told_98 ?_
    refine lv_aload_n hx hb dX6_told_101 rfl (lv_at hl 0 rfl) ?_
    refine z_get (C := RX2) (T := TX2) (N := 2) (ci := 3) (v := .ref sp9) X J hi_X2 qf9 hfc9 rfl 1 (by decide) (by decide +kernel) rfl dX6_told_102 ?_
    refine z_cr (z_rV (As := [.ref sp9]) (rest := []) (ci := 2) (q0 := 4) X J (cX1_sum_ok l E Fa2 Fa3 hsc9 (by decide)) (cwV 1 hts gX6_told_X1_sum rfl rfl rfl (by decide +kernel) ⟨Nat.le_of_ble_eq_true rfl, Nat.le_of_ble_eq_true rfl⟩) Fa2 rfl rfl rfl hl.1 rfl (Nat.le_of_ble_eq_true rfl) dX6_told_105 ⟨Nat.le_of_ble_eq_true rfl, Nat.le_of_ble_eq_true rfl⟩) (fun r105 e_r105 => ?_)
    subst e_r105
    refine W.widen (k := 6) (n := 40) (by omega) (by omega) ?_
    subst hQ
    refine vx_ret ?_
    exact W.iret (v := sumG sn (rfi (rd fk) (ri fk)) (rd fk) 20) hx hb hr (fun t ht hW => ⟨⟨sumG sn (rfi (rd fk) (ri fk)) (rd fk) 20, ws, rfl, ⟨rfl, (by refine ⟨if_pos ⟨e_r8, e_r13⟩, ?_⟩; rw [hs3, eyfk]; exact rfl)⟩, J.I X ht hW.alike⟩, J.F ht⟩) J.locs dX6_told_108
  refine lv_tableOut (tgt := 109) hx hb dX6_told_29 (by have q0 := lv_neT hs0 (a := 0) rfl; have q1 := lv_neT hs1 (a := 1) rfl; have q2 := lv_neT hs2 (a := 2) rfl; have q3 := lv_neT hs3 (a := 3) rfl; omega) (by decide) ?_
  refine lv_aload_n hx hb dX6_told_109 rfl (lv_at hl 1 rfl) ?_
  refine z_get (C := RX6) (T := TX6) (N := 11) (ci := 7) (v := .ref gr) X J hi_X6 0 Fa0 rfl 3 (by decide) (by decide +kernel) rfl dX6_told_110 ?_
  refine lv_aload_n hx hb dX6_told_113 rfl (lv_at hl 0 rfl) ?_
  refine z_get (C := RX2) (T := TX2) (N := 2) (ci := 3) (v := .ref sp9) X J hi_X2 qf9 hfc9 rfl 1 (by decide) (by decide +kernel) rfl dX6_told_114 ?_
  refine z_cr (z_rV (As := [.ref sp9]) (rest := []) (ci := 2) (q0 := 4) X J (cX1_most_ok l E Fa2 Fa3 hsc9 (by decide)) (cwV 1 hts gX6_told_X1_most rfl rfl rfl (by decide +kernel) ⟨Nat.le_of_ble_eq_true rfl, Nat.le_of_ble_eq_true rfl⟩) Fa2 rfl rfl rfl hl.1 rfl (Nat.le_of_ble_eq_true rfl) dX6_told_117 ⟨Nat.le_of_ble_eq_true rfl, Nat.le_of_ble_eq_true rfl⟩) (fun r117 e_r117 => ?_)
  subst e_r117
  refine W.widen (k := 6) (n := 40) (by omega) (by omega) ?_
  subst hQ
  refine vx_ret ?_
  exact W.iret (v := mostG sn (rfi (rd fk) (ri fk)) (rd fk) 20) hx hb hr (fun t ht hW => ⟨⟨mostG sn (rfi (rd fk) (ri fk)) (rd fk) 20, ws, rfl, ⟨rfl, (by refine ⟨if_pos ⟨e_r8, e_r13⟩, ?_⟩; rw [eyfk]; unfold toldS; rw [if_neg hs0, if_neg hs1, if_neg hs2, if_neg hs3])⟩, J.I X ht hW.alike⟩, J.F ht⟩) J.locs dX6_told_120
set_option maxHeartbeats 400000 in
set_option maxRecDepth 100000 in
theorem cX6_count_ok (l : Launch) (hflags : l.flags = flags0) (E : zG) {ws : va_W} {x fl rl wh gr gra tr sc ea eb nf nr : Nat} {mc1 mc2 lim sup off plo hrs : Int32} {rd ri sn : Nat → Int32} {w : Int32} (Fa0 : ws[0]? = some (x, .inr (7, [.ref fl, .ref rl, .ref wh, .ref gr, .ref tr, .ref sc, .int lim, .int sup, .int off, .int plo, .int hrs]))) (Fa1 : ws[1]? = some (fl, .inr (0, [.int mc1, .ref ea, .int (nI nf)]))) (Fa2 : ws[2]? = some (rl, .inr (0, [.int mc2, .ref eb, .int (nI nr)]))) (Fa3 : ws[3]? = some (wh, .inr (5, [.int (0 * 20 + 0), .int (nI 400), .int 0]))) (Fa4 : ws[4]? = some (gr, .inr (2, [.ref gra]))) (Fa5 : ws[5]? = some (gra, zI4 E 400 sn)) (hR : RS E ws rd ri eb nr) (hnr : nr ≤ 4) : vx_Met l yX6_count wsX6_count ({ frames := 7, cells := 6, slots := 40, locals := 103 } : Room) (va_Pc [.ref x, .int w] (zY E ws)) (va_Qi (fun (r : Int32) (ws' : va_W) => (ws = ws') ∧ (kCount w = 0 ∧ r = countS (nI nf) (nI nr) lim sup off plo hrs sn rd ri nr w)) (zI E) (zA E)) (zX E ws (fun nm => kCount w = 1 ∧ nm = "java/lang/IndexOutOfBoundsException")) 6 40 (zA E) := by
  refine vx_ofW (cc := cX6_count) (maxL := 2) (ret := (some .int)) (by decide) rfl ?_
  intro p e s m args below meth c s₁ B hml htab hv
  obtain ⟨hargs9, hI, hRz⟩ := hv
  have hx := B.exec
  have hb := B.bytes
  have hr := B.returns
  have hlocks := B.notSynchronized
  have X : zC E p m c cX6_count 2 s args wsX6_count RX6 := z_open B hml hI
  have hown := X.1.2.2.2.1
  have hts := X.1.2.2.2.2
  have J := hI.J
  have hi_X6 : ∀ w ∈ wsX60, w ∈ wsX6_count := by decide +kernel
  have hk : zK [] ws ws := zK.rf
  have hl := lv_entry ([.ref x, .int w]) (n := 2) (Nat.le_of_ble_eq_true rfl)
  rw [show entryFrame m args 2 = entryFrame m ([.ref x, .int w] : List Value).toArray 2 from by rw [hargs9], lg_entry_eq]
  generalize (lg_sl ([.ref x, .int w]) ++ List.replicate (2 - (lg_sl ([.ref x, .int w])).length) Slot.unset).toArray = ls at hl ⊢
  have hl : lv_has ls 2 [(0, .ref x), (1, .int w)] := hl
  generalize hQ : (vx_MQ below (va_Qi (fun (r : Int32) (ws' : va_W) => (ws = ws') ∧ (kCount w = 0 ∧ r = countS (nI nf) (nI nr) lim sup off plo hrs sn rd ri nr w)) (zI E) (zA E)) (zX E ws (fun nm => kCount w = 1 ∧ nm = "java/lang/IndexOutOfBoundsException")) args s 6 40 (zA E)) = QQ
  refine lv_iload_n hx hb dX6_count_0 rfl (lv_at hl 1 rfl) ?_
  refine lv_bipush (v := 10) hx hb dX6_count_1 (by decide) ?_
  refine z_xv J (z_yS (As := [.int w, .int 10]) (rest := []) X hRz J (cX6_needIndex_ok l hflags E (n := 10) (by decide)) (va_cwS 2 hts gX6_count_X6_needIndex rfl rfl rfl (by decide +kernel) ⟨Nat.le_of_ble_eq_true rfl, Nat.le_of_ble_eq_true rfl⟩) rfl hl.1 rfl (Nat.le_of_ble_eq_true rfl) dX6_count_3 ⟨Nat.le_of_ble_eq_true rfl, Nat.le_of_ble_eq_true rfl⟩) (fun nm ce q9 H locs hp9 J h1 h2 h3 => ?_) (fun ws_1 H locs hp9 J => ?_)
  · subst hQ
    exact z_out X J htab hlocks h1 h2 h3 (by exact ⟨if_neg hp9.1, hp9.2⟩) (Nat.le_of_ble_eq_true rfl) (Nat.le_of_ble_eq_true rfl)
  obtain ⟨rfl, e_r3⟩ := hp9
  refine lv_iload_n hx hb dX6_count_6 rfl (lv_at hl 1 rfl) ?_
  by_cases hs0 : w = 0
  · refine lv_tableIn (off := 49) (tgt := 56) hx hb dX6_count_7 (by rw [hs0]; decide) (by rw [hs0]; decide) (by rw [hs0]; decide) (by decide) ?_
    refine lv_aload_n hx hb dX6_count_56 rfl (lv_at hl 0 rfl) ?_
    refine z_get (C := RX6) (T := TX6) (N := 11) (ci := 7) (v := .ref fl) X J hi_X6 0 Fa0 rfl 0 (by decide) (by decide +kernel) rfl dX6_count_57 ?_
    refine z_cr (z_rV (As := []) (rest := []) (ci := 0) (q0 := 1) X J (cJx4a65c_size_8abf5_ok l E Fa1) (cwV 0 hts gX6_count_Jx4a65c_size_8abf5 rfl rfl rfl (by decide +kernel) ⟨Nat.le_of_ble_eq_true rfl, Nat.le_of_ble_eq_true rfl⟩) Fa1 rfl rfl rfl hl.1 rfl (Nat.le_of_ble_eq_true rfl) dX6_count_60 ⟨Nat.le_of_ble_eq_true rfl, Nat.le_of_ble_eq_true rfl⟩) (fun r60 e_r60 => ?_)
    subst e_r60
    refine W.widen (k := 6) (n := 40) (by omega) (by omega) ?_
    subst hQ
    refine vx_ret ?_
    exact W.iret (v := nI nf) hx hb hr (fun t ht hW => ⟨⟨nI nf, ws, rfl, ⟨rfl, (by refine ⟨if_pos e_r3, ?_⟩; rw [hs0]; unfold countS; rw [if_pos rfl])⟩, J.I X ht hW.alike⟩, J.F ht⟩) J.locs dX6_count_63
  by_cases hs1 : w = 1
  · refine lv_tableIn (off := 57) (tgt := 64) hx hb dX6_count_7 (by rw [hs1]; decide) (by rw [hs1]; decide) (by rw [hs1]; decide) (by decide) ?_
    refine lv_aload_n hx hb dX6_count_64 rfl (lv_at hl 0 rfl) ?_
    refine z_get (C := RX6) (T := TX6) (N := 11) (ci := 7) (v := .ref rl) X J hi_X6 0 Fa0 rfl 1 (by decide) (by decide +kernel) rfl dX6_count_65 ?_
    refine z_cr (z_rV (As := []) (rest := []) (ci := 0) (q0 := 2) X J (cJx4a65c_size_8abf5_ok l E Fa2) (cwV 0 hts gX6_count_Jx4a65c_size_8abf5 rfl rfl rfl (by decide +kernel) ⟨Nat.le_of_ble_eq_true rfl, Nat.le_of_ble_eq_true rfl⟩) Fa2 rfl rfl rfl hl.1 rfl (Nat.le_of_ble_eq_true rfl) dX6_count_68 ⟨Nat.le_of_ble_eq_true rfl, Nat.le_of_ble_eq_true rfl⟩) (fun r68 e_r68 => ?_)
    subst e_r68
    refine W.widen (k := 6) (n := 40) (by omega) (by omega) ?_
    subst hQ
    refine vx_ret ?_
    exact W.iret (v := nI nr) hx hb hr (fun t ht hW => ⟨⟨nI nr, ws, rfl, ⟨rfl, (by refine ⟨if_pos e_r3, ?_⟩; rw [hs1]; unfold countS; rw [if_neg (by decide), if_pos rfl])⟩, J.I X ht hW.alike⟩, J.F ht⟩) J.locs dX6_count_71
  by_cases hs2 : w = 2
  · refine lv_tableIn (off := 65) (tgt := 72) hx hb dX6_count_7 (by rw [hs2]; decide) (by rw [hs2]; decide) (by rw [hs2]; decide) (by decide) ?_
    refine lv_aload_n hx hb dX6_count_72 rfl (lv_at hl 0 rfl) ?_
    refine z_get (C := RX6) (T := TX6) (N := 11) (ci := 7) (v := .ref gr) X J hi_X6 0 Fa0 rfl 3 (by decide) (by decide +kernel) rfl dX6_count_73 ?_
    refine lv_aload_n hx hb dX6_count_76 rfl (lv_at hl 0 rfl) ?_
    refine z_get (C := RX6) (T := TX6) (N := 11) (ci := 7) (v := .ref wh) X J hi_X6 0 Fa0 rfl 2 (by decide) (by decide +kernel) rfl dX6_count_77 ?_
    refine z_cr (z_rV (As := [.ref wh]) (rest := []) (ci := 2) (q0 := 4) X J (cX1_sum_ok l E Fa4 Fa5 Fa3 (by decide)) (cwV 1 hts gX6_count_X1_sum rfl rfl rfl (by decide +kernel) ⟨Nat.le_of_ble_eq_true rfl, Nat.le_of_ble_eq_true rfl⟩) Fa4 rfl rfl rfl hl.1 rfl (Nat.le_of_ble_eq_true rfl) dX6_count_80 ⟨Nat.le_of_ble_eq_true rfl, Nat.le_of_ble_eq_true rfl⟩) (fun r80 e_r80 => ?_)
    subst e_r80
    refine W.widen (k := 6) (n := 40) (by omega) (by omega) ?_
    subst hQ
    refine vx_ret ?_
    exact W.iret (v := sumG sn (0 * 20 + 0) 0 400) hx hb hr (fun t ht hW => ⟨⟨sumG sn (0 * 20 + 0) 0 400, ws, rfl, ⟨rfl, (by refine ⟨if_pos e_r3, ?_⟩; rw [hs2]; unfold countS; rw [if_neg (by decide), if_neg (by decide), if_pos rfl]; rfl)⟩, J.I X ht hW.alike⟩, J.F ht⟩) J.locs dX6_count_83
  by_cases hs3 : w = 3
  · refine lv_tableIn (off := 77) (tgt := 84) hx hb dX6_count_7 (by rw [hs3]; decide) (by rw [hs3]; decide) (by rw [hs3]; decide) (by decide) ?_
    refine lv_aload_n hx hb dX6_count_84 rfl (lv_at hl 0 rfl) ?_
    refine z_get (C := RX6) (T := TX6) (N := 11) (ci := 7) (v := .ref gr) X J hi_X6 0 Fa0 rfl 3 (by decide) (by decide +kernel) rfl dX6_count_85 ?_
    refine lv_aload_n hx hb dX6_count_88 rfl (lv_at hl 0 rfl) ?_
    refine z_get (C := RX6) (T := TX6) (N := 11) (ci := 7) (v := .ref wh) X J hi_X6 0 Fa0 rfl 2 (by decide) (by decide +kernel) rfl dX6_count_89 ?_
    refine z_cr (z_rV (As := [.ref wh]) (rest := []) (ci := 2) (q0 := 4) X J (cX1_most_ok l E Fa4 Fa5 Fa3 (by decide)) (cwV 1 hts gX6_count_X1_most rfl rfl rfl (by decide +kernel) ⟨Nat.le_of_ble_eq_true rfl, Nat.le_of_ble_eq_true rfl⟩) Fa4 rfl rfl rfl hl.1 rfl (Nat.le_of_ble_eq_true rfl) dX6_count_92 ⟨Nat.le_of_ble_eq_true rfl, Nat.le_of_ble_eq_true rfl⟩) (fun r92 e_r92 => ?_)
    subst e_r92
    refine W.widen (k := 6) (n := 40) (by omega) (by omega) ?_
    subst hQ
    refine vx_ret ?_
    exact W.iret (v := mostG sn (0 * 20 + 0) 0 400) hx hb hr (fun t ht hW => ⟨⟨mostG sn (0 * 20 + 0) 0 400, ws, rfl, ⟨rfl, (by refine ⟨if_pos e_r3, ?_⟩; rw [hs3]; unfold countS; rw [if_neg (by decide), if_neg (by decide), if_neg (by decide), if_pos rfl]; rfl)⟩, J.I X ht hW.alike⟩, J.F ht⟩) J.locs dX6_count_95
  by_cases hs4 : w = 4
  · refine lv_tableIn (off := 89) (tgt := 96) hx hb dX6_count_7 (by rw [hs4]; decide) (by rw [hs4]; decide) (by rw [hs4]; decide) (by decide) ?_
    refine lv_aload_n hx hb dX6_count_96 rfl (lv_at hl 0 rfl) ?_
    refine lv_aload_n hx hb dX6_count_97 rfl (lv_at hl 0 rfl) ?_
    refine z_get (C := RX6) (T := TX6) (N := 11) (ci := 7) (v := .ref gr) X J hi_X6 0 Fa0 rfl 3 (by decide) (by decide +kernel) rfl dX6_count_98 ?_
    refine z_cr (z_rV (As := [.ref gr]) (rest := []) (ci := 7) (q0 := 0) X J (cX6_blockedOnRoads_ok l E Fa0 Fa2 Fa4 Fa5 hR (by first | assumption | omega | decide)) (cwV 1 hts gX6_count_X6_blockedOnRoads rfl rfl rfl (by decide +kernel) ⟨Nat.le_of_ble_eq_true rfl, Nat.le_of_ble_eq_true rfl⟩) Fa0 rfl rfl rfl hl.1 rfl (Nat.le_of_ble_eq_true rfl) dX6_count_101 ⟨Nat.le_of_ble_eq_true rfl, Nat.le_of_ble_eq_true rfl⟩) (fun r101 e_r101 => ?_)
    subst e_r101
    refine W.widen (k := 6) (n := 40) (by omega) (by omega) ?_
    subst hQ
    refine vx_ret ?_
    exact W.iret (v := allB sn rd ri lim nr) hx hb hr (fun t ht hW => ⟨⟨allB sn rd ri lim nr, ws, rfl, ⟨rfl, (by refine ⟨if_pos e_r3, ?_⟩; rw [hs4]; unfold countS; rw [if_neg (by decide), if_neg (by decide), if_neg (by decide), if_neg (by decide), if_pos rfl])⟩, J.I X ht hW.alike⟩, J.F ht⟩) J.locs dX6_count_104
  by_cases hs5 : w = 5
  · refine lv_tableIn (off := 98) (tgt := 105) hx hb dX6_count_7 (by rw [hs5]; decide) (by rw [hs5]; decide) (by rw [hs5]; decide) (by decide) ?_
    refine lv_aload_n hx hb dX6_count_105 rfl (lv_at hl 0 rfl) ?_
    refine z_get (C := RX6) (T := TX6) (N := 11) (ci := 7) (v := .int off) X J hi_X6 0 Fa0 rfl 8 (by decide) (by decide +kernel) rfl dX6_count_106 ?_
    refine W.widen (k := 6) (n := 40) (by omega) (by omega) ?_
    subst hQ
    refine vx_ret ?_
    exact W.iret (v := off) hx hb hr (fun t ht hW => ⟨⟨off, ws, rfl, ⟨rfl, (by refine ⟨if_pos e_r3, ?_⟩; rw [hs5]; unfold countS; rw [if_neg (by decide), if_neg (by decide), if_neg (by decide), if_neg (by decide), if_neg (by decide), if_pos rfl])⟩, J.I X ht hW.alike⟩, J.F ht⟩) J.locs dX6_count_109
  by_cases hs6 : w = 6
  · refine lv_tableIn (off := 103) (tgt := 110) hx hb dX6_count_7 (by rw [hs6]; decide) (by rw [hs6]; decide) (by rw [hs6]; decide) (by decide) ?_
    refine lv_aload_n hx hb dX6_count_110 rfl (lv_at hl 0 rfl) ?_
    refine z_get (C := RX6) (T := TX6) (N := 11) (ci := 7) (v := .int plo) X J hi_X6 0 Fa0 rfl 9 (by decide) (by decide +kernel) rfl dX6_count_111 ?_
    refine W.widen (k := 6) (n := 40) (by omega) (by omega) ?_
    subst hQ
    refine vx_ret ?_
    exact W.iret (v := plo) hx hb hr (fun t ht hW => ⟨⟨plo, ws, rfl, ⟨rfl, (by refine ⟨if_pos e_r3, ?_⟩; rw [hs6]; unfold countS; rw [if_neg (by decide), if_neg (by decide), if_neg (by decide), if_neg (by decide), if_neg (by decide), if_neg (by decide), if_pos rfl])⟩, J.I X ht hW.alike⟩, J.F ht⟩) J.locs dX6_count_114
  by_cases hs7 : w = 7
  · refine lv_tableIn (off := 108) (tgt := 115) hx hb dX6_count_7 (by rw [hs7]; decide) (by rw [hs7]; decide) (by rw [hs7]; decide) (by decide) ?_
    refine lv_aload_n hx hb dX6_count_115 rfl (lv_at hl 0 rfl) ?_
    refine z_get (C := RX6) (T := TX6) (N := 11) (ci := 7) (v := .int hrs) X J hi_X6 0 Fa0 rfl 10 (by decide) (by decide +kernel) rfl dX6_count_116 ?_
    refine W.widen (k := 6) (n := 40) (by omega) (by omega) ?_
    subst hQ
    refine vx_ret ?_
    exact W.iret (v := hrs) hx hb hr (fun t ht hW => ⟨⟨hrs, ws, rfl, ⟨rfl, (by refine ⟨if_pos e_r3, ?_⟩; rw [hs7]; unfold countS; rw [if_neg (by decide), if_neg (by decide), if_neg (by decide), if_neg (by decide), if_neg (by decide), if_neg (by decide), if_neg (by decide), if_pos rfl])⟩, J.I X ht hW.alike⟩, J.F ht⟩) J.locs dX6_count_119
  by_cases hs8 : w = 8
  · refine lv_tableIn (off := 113) (tgt := 120) hx hb dX6_count_7 (by rw [hs8]; decide) (by rw [hs8]; decide) (by rw [hs8]; decide) (by decide) ?_
    refine lv_aload_n hx hb dX6_count_120 rfl (lv_at hl 0 rfl) ?_
    refine z_get (C := RX6) (T := TX6) (N := 11) (ci := 7) (v := .int lim) X J hi_X6 0 Fa0 rfl 6 (by decide) (by decide +kernel) rfl dX6_count_121 ?_
    refine W.widen (k := 6) (n := 40) (by omega) (by omega) ?_
    subst hQ
    refine vx_ret ?_
    exact W.iret (v := lim) hx hb hr (fun t ht hW => ⟨⟨lim, ws, rfl, ⟨rfl, (by refine ⟨if_pos e_r3, ?_⟩; rw [hs8]; unfold countS; rw [if_neg (by decide), if_neg (by decide), if_neg (by decide), if_neg (by decide), if_neg (by decide), if_neg (by decide), if_neg (by decide), if_neg (by decide), if_pos rfl])⟩, J.I X ht hW.alike⟩, J.F ht⟩) J.locs dX6_count_124
  refine lv_tableOut (tgt := 125) hx hb dX6_count_7 (by have q0 := lv_neT hs0 (a := 0) rfl; have q1 := lv_neT hs1 (a := 1) rfl; have q2 := lv_neT hs2 (a := 2) rfl; have q3 := lv_neT hs3 (a := 3) rfl; have q4 := lv_neT hs4 (a := 4) rfl; have q5 := lv_neT hs5 (a := 5) rfl; have q6 := lv_neT hs6 (a := 6) rfl; have q7 := lv_neT hs7 (a := 7) rfl; have q8 := lv_neT hs8 (a := 8) rfl; omega) (by decide) ?_
  refine lv_aload_n hx hb dX6_count_125 rfl (lv_at hl 0 rfl) ?_
  refine z_get (C := RX6) (T := TX6) (N := 11) (ci := 7) (v := .int sup) X J hi_X6 0 Fa0 rfl 7 (by decide) (by decide +kernel) rfl dX6_count_126 ?_
  refine W.widen (k := 6) (n := 40) (by omega) (by omega) ?_
  subst hQ
  refine vx_ret ?_
  exact W.iret (v := sup) hx hb hr (fun t ht hW => ⟨⟨sup, ws, rfl, ⟨rfl, (by refine ⟨if_pos e_r3, ?_⟩; unfold countS; rw [if_neg hs0, if_neg hs1, if_neg hs2, if_neg hs3, if_neg hs4, if_neg hs5, if_neg hs6, if_neg hs7, if_neg hs8])⟩, J.I X ht hW.alike⟩, J.F ht⟩) J.locs dX6_count_129
set_option maxHeartbeats 400000 in
set_option maxRecDepth 100000 in
theorem cX6_plough_ok (l : Launch) (hflags : l.flags = flags0) (E : zG) {ws : va_W} {x fl rl wh gr gra tr sc eb nr : Nat} {mc2 lim sup off plo hrs : Int32} {rd ri sn : Nat → Int32} {v : Int32} (Fa0 : ws[0]? = some (x, .inr (7, [.ref fl, .ref rl, .ref wh, .ref gr, .ref tr, .ref sc, .int lim, .int sup, .int off, .int plo, .int hrs]))) (Fa1 : ws[2]? = some (rl, .inr (0, [.int mc2, .ref eb, .int (nI nr)]))) (Fa2 : ws[4]? = some (gr, .inr (2, [.ref gra]))) (Fa3 : ws[5]? = some (gra, zI4 E 400 sn)) (hR : RS E ws rd ri eb nr) (hnr : nr ≤ 4) : vx_Met l yX6_plough wsX6_plough ({ frames := 7, cells := 6, slots := 40, locals := 103 } : Room) (va_Pc [.ref x, .int v] (zY E ws)) (va_Qi (fun (r : Int32) (ws' : va_W) => (zK [0, 5] ws ws') ∧ (ws'[0]? = some (x, .inr (7, [.ref fl, .ref rl, .ref wh, .ref gr, .ref tr, .ref sc, .int lim, .int sup, .int off, .int (plo + sumG sn (rfi (rd v.toNatClampNeg) (ri v.toNatClampNeg)) (rd v.toNatClampNeg) 20), .int hrs]))) ∧ (ws'[5]? = some (gra, zI4 E 400 (clrG sn (rfi (rd v.toNatClampNeg) (ri v.toNatClampNeg)) (rd v.toNatClampNeg) 20))) ∧ (kIdx v (nI nr) = 0 ∧ r = sumG sn (rfi (rd v.toNatClampNeg) (ri v.toNatClampNeg)) (rd v.toNatClampNeg) 20)) (zI E) (zA E)) (zX E ws (fun nm => kIdx v (nI nr) = 1 ∧ nm = "java/lang/IndexOutOfBoundsException")) 6 40 (zA E) := by
  refine vx_ofW (cc := cX6_plough) (maxL := 4) (ret := (some .int)) (by decide) rfl ?_
  intro p e s m args below meth c s₁ B hml htab hv
  obtain ⟨hargs9, hI, hRz⟩ := hv
  have hx := B.exec
  have hb := B.bytes
  have hr := B.returns
  have hlocks := B.notSynchronized
  have X : zC E p m c cX6_plough 4 s args wsX6_plough RX6 := z_open B hml hI
  have hown := X.1.2.2.2.1
  have hts := X.1.2.2.2.2
  have J := hI.J
  have hi_X2 : ∀ w ∈ wsX20, w ∈ wsX6_plough := by decide +kernel
  have hi_X6 : ∀ w ∈ wsX60, w ∈ wsX6_plough := by decide +kernel
  have hk : zK [0, 5] ws ws := zK.rf
  have hl := lv_entry ([.ref x, .int v]) (n := 4) (Nat.le_of_ble_eq_true rfl)
  rw [show entryFrame m args 4 = entryFrame m ([.ref x, .int v] : List Value).toArray 4 from by rw [hargs9], lg_entry_eq]
  generalize (lg_sl ([.ref x, .int v]) ++ List.replicate (4 - (lg_sl ([.ref x, .int v])).length) Slot.unset).toArray = ls at hl ⊢
  have hl : lv_has ls 4 [(0, .ref x), (1, .int v)] := hl
  generalize hQ : (vx_MQ below (va_Qi (fun (r : Int32) (ws' : va_W) => (zK [0, 5] ws ws') ∧ (ws'[0]? = some (x, .inr (7, [.ref fl, .ref rl, .ref wh, .ref gr, .ref tr, .ref sc, .int lim, .int sup, .int off, .int (plo + sumG sn (rfi (rd v.toNatClampNeg) (ri v.toNatClampNeg)) (rd v.toNatClampNeg) 20), .int hrs]))) ∧ (ws'[5]? = some (gra, zI4 E 400 (clrG sn (rfi (rd v.toNatClampNeg) (ri v.toNatClampNeg)) (rd v.toNatClampNeg) 20))) ∧ (kIdx v (nI nr) = 0 ∧ r = sumG sn (rfi (rd v.toNatClampNeg) (ri v.toNatClampNeg)) (rd v.toNatClampNeg) 20)) (zI E) (zA E)) (zX E ws (fun nm => kIdx v (nI nr) = 1 ∧ nm = "java/lang/IndexOutOfBoundsException")) args s 6 40 (zA E)) = QQ
  refine lv_iload_n hx hb dX6_plough_0 rfl (lv_at hl 1 rfl) ?_
  refine lv_aload_n hx hb dX6_plough_1 rfl (lv_at hl 0 rfl) ?_
  refine z_get (C := RX6) (T := TX6) (N := 11) (ci := 7) (v := .ref rl) X J hi_X6 0 Fa0 rfl 1 (by decide) (by decide +kernel) rfl dX6_plough_2 ?_
  refine z_cr (z_rV (As := []) (rest := [.int v]) (ci := 0) (q0 := 2) X J (cJx4a65c_size_8abf5_ok l E Fa1) (cwV 0 hts gX6_plough_Jx4a65c_size_8abf5 rfl rfl rfl (by decide +kernel) ⟨Nat.le_of_ble_eq_true rfl, Nat.le_of_ble_eq_true rfl⟩) Fa1 rfl rfl rfl hl.1 rfl (Nat.le_of_ble_eq_true rfl) dX6_plough_5 ⟨Nat.le_of_ble_eq_true rfl, Nat.le_of_ble_eq_true rfl⟩) (fun r5 e_r5 => ?_)
  subst e_r5
  refine z_xv J (z_yS (As := [.int v, .int (nI nr)]) (rest := []) X hRz J (cX6_needIndex_ok l hflags E (by omega)) (va_cwS 2 hts gX6_plough_X6_needIndex rfl rfl rfl (by decide +kernel) ⟨Nat.le_of_ble_eq_true rfl, Nat.le_of_ble_eq_true rfl⟩) rfl hl.1 rfl (Nat.le_of_ble_eq_true rfl) dX6_plough_8 ⟨Nat.le_of_ble_eq_true rfl, Nat.le_of_ble_eq_true rfl⟩) (fun nm ce q9 H locs hp9 J h1 h2 h3 => ?_) (fun ws_1 H locs hp9 J => ?_)
  · subst hQ
    exact z_out X J htab hlocks h1 h2 h3 (by exact ⟨if_neg hp9.1, hp9.2⟩) (Nat.le_of_ble_eq_true rfl) (Nat.le_of_ble_eq_true rfl)
  obtain ⟨rfl, e_r8⟩ := hp9
  obtain ⟨fk, hfk, ekfk⟩ := inR_nI (n := nr) (by omega) e_r8
  have hl : lv_has ls 4 [(0, .ref x), (1, .int (nI fk))] := lv_repl hl (congrArg (fun z9 : Int32 => ([(0, .ref x), (1, .int z9)] : List (Nat × Value))) (show v = nI fk from ekfk))
  have eyfk : v.toNatClampNeg = fk := by rw [ekfk, nI_clamp (by omega)]
  obtain ⟨qe9, g9, fo9, qf9, sp9, qs9, hqe9, hqf9, hqs9, he9, hg9, hfc9, hsc9⟩ := (hR).at (i := fk) (by omega)
  refine lv_aload_n hx hb dX6_plough_11 rfl (lv_at hl 0 rfl) ?_
  refine z_get (C := RX6) (T := TX6) (N := 11) (ci := 7) (v := .ref rl) X J hi_X6 0 Fa0 rfl 1 (by decide) (by decide +kernel) rfl dX6_plough_12 ?_
  refine lv_iload_n hx hb dX6_plough_15 rfl (lv_at hl 1 rfl) ?_
  refine z_crq (z_rV (As := [.int (nI fk)]) (rest := []) (ci := 0) (q0 := 2) X J (cJx4a65c_get_915e3_ok l E Fa1 he9 (by omega) (by omega)) (cwV 1 hts gX6_plough_Jx4a65c_get_915e3 rfl rfl rfl (by decide +kernel) ⟨Nat.le_of_ble_eq_true rfl, Nat.le_of_ble_eq_true rfl⟩) Fa1 rfl rfl rfl hl.1 rfl (Nat.le_of_ble_eq_true rfl) dX6_plough_16 ⟨Nat.le_of_ble_eq_true rfl, Nat.le_of_ble_eq_true rfl⟩) (fun r16 e_r16 => ?_)
  subst e_r16
  refine W.eq (g2 := F0 m 19 ls [.ref fo9]) (by rw [show g9 fk = some fo9 from hg9]; rfl) ?_
  refine z_cast (own := RX6) (q := (RX2, TX2, 2)) X J qf9 hfc9 (ci := 3) rfl (hts (.classLink RX6 100 RX2) (by decide +kernel)) dX6_plough_19 ?_
  refine z_get (C := RX2) (T := TX2) (N := 2) (ci := 3) (v := .ref sp9) X J hi_X2 qf9 hfc9 rfl 1 (by decide) (by decide +kernel) rfl dX6_plough_22 ?_
  refine lv_astore_n (lv' := [(2, .ref sp9), (0, .ref x), (1, .int (nI fk))]) hx hb dX6_plough_25 rfl hl (by decide) rfl (fun ls hl => ?_)
  refine lv_aload_n hx hb dX6_plough_26 rfl (lv_at hl 1 rfl) ?_
  refine z_get (C := RX6) (T := TX6) (N := 11) (ci := 7) (v := .ref gr) X J hi_X6 0 Fa0 rfl 3 (by decide) (by decide +kernel) rfl dX6_plough_27 ?_
  refine lv_aload_n hx hb dX6_plough_30 rfl (lv_at hl 0 rfl) ?_
  refine z_cr (z_rV (As := [.ref sp9]) (rest := []) (ci := 2) (q0 := 4) X J (cX1_sum_ok l E Fa2 Fa3 hsc9 (by decide)) (cwV 1 hts gX6_plough_X1_sum rfl rfl rfl (by decide +kernel) ⟨Nat.le_of_ble_eq_true rfl, Nat.le_of_ble_eq_true rfl⟩) Fa2 rfl rfl rfl hl.1 rfl (Nat.le_of_ble_eq_true rfl) dX6_plough_31 ⟨Nat.le_of_ble_eq_true rfl, Nat.le_of_ble_eq_true rfl⟩) (fun r31 e_r31 => ?_)
  subst e_r31
  refine lv_istore_n (lv' := [(3, .int (sumG sn (rfi (rd fk) (ri fk)) (rd fk) 20)), (2, .ref sp9), (0, .ref x), (1, .int (nI fk))]) hx hb dX6_plough_34 rfl hl (by decide) rfl (fun ls hl => ?_)
  refine lv_aload_n hx hb dX6_plough_35 rfl (lv_at hl 2 rfl) ?_
  refine z_get (C := RX6) (T := TX6) (N := 11) (ci := 7) (v := .ref gr) X J hi_X6 0 Fa0 rfl 3 (by decide) (by decide +kernel) rfl dX6_plough_36 ?_
  refine lv_aload_n hx hb dX6_plough_39 rfl (lv_at hl 1 rfl) ?_
  refine z_cv J (z_rV (As := [.ref sp9]) (rest := []) (ci := 2) (q0 := 4) X J (cX1_clear_ok l E Fa2 Fa3 hsc9 (by decide)) (cwV 1 hts gX6_plough_X1_clear rfl rfl rfl (by decide +kernel) ⟨Nat.le_of_ble_eq_true rfl, Nat.le_of_ble_eq_true rfl⟩) Fa2 rfl rfl rfl hl.1 rfl (Nat.le_of_ble_eq_true rfl) dX6_plough_40 ⟨Nat.le_of_ble_eq_true rfl, Nat.le_of_ble_eq_true rfl⟩) (fun ws_2 H locs hp9 J => ?_)
  obtain ⟨k2, G2_a0⟩ := hp9
  have hk := hk.trans (k2.mono (by decide))
  have G2_0 := k2.2 0 _ (by decide) Fa0
  have G2_1 := k2.2 2 _ (by decide) Fa1
  have G2_2 := k2.2 4 _ (by decide) Fa2
  have G2_4 := k2.2 qe9 _ (by simp only [List.mem_cons, List.not_mem_nil, or_false]; omega) he9
  have G2_5 := k2.2 qf9 _ (by simp only [List.mem_cons, List.not_mem_nil, or_false]; omega) hfc9
  have G2_6 := k2.2 qs9 _ (by simp only [List.mem_cons, List.not_mem_nil, or_false]; omega) hsc9
  refine lv_aload_n hx hb dX6_plough_43 rfl (lv_at hl 2 rfl) ?_
  refine lv_dup hx hb dX6_plough_44 rfl ?_
  refine z_get (C := RX6) (T := TX6) (N := 11) (ci := 7) (v := .int plo) X J hi_X6 0 G2_0 rfl 9 (by decide) (by decide +kernel) rfl dX6_plough_45 ?_
  refine lv_iload_n hx hb dX6_plough_48 rfl (lv_at hl 0 rfl) ?_
  refine lv_iadd hx hb dX6_plough_49 ?_
  refine z_put (C := RX6) (T := TX6) (N := 11) (ci := 7) (v := .int (plo + (sumG sn (rfi (rd fk) (ri fk)) (rd fk) 20))) X J hi_X6 tyX6 tyX6_ok nmX6 0 G2_0 rfl 9 (by decide) (by decide +kernel) rfl rfl rfl (Nat.le_of_ble_eq_true rfl) dX6_plough_50 (fun H locs J => ?_)
  have J : zJ E (ws_2.set 0 (x, .inr (7, [.ref fl, .ref rl, .ref wh, .ref gr, .ref tr, .ref sc, .int lim, .int sup, .int off, .int (plo + (sumG sn (rfi (rd fk) (ri fk)) (rd fk) 20)), .int hrs]))) s H locs := J
  have hk := hk.trans (zK.set (ws := ws_2) (q := 0) (e := (x, .inr (7, [.ref fl, .ref rl, .ref wh, .ref gr, .ref tr, .ref sc, .int lim, .int sup, .int off, .int (plo + (sumG sn (rfi (rd fk) (ri fk)) (rd fk) 20)), .int hrs]))) (by simp))
  have G3_0 := zset_eq (e' := (x, .inr (7, [.ref fl, .ref rl, .ref wh, .ref gr, .ref tr, .ref sc, .int lim, .int sup, .int off, .int (plo + (sumG sn (rfi (rd fk) (ri fk)) (rd fk) 20)), .int hrs]))) G2_0
  have G3_1 := zset_ne (q := 0) (e' := (x, .inr (7, [.ref fl, .ref rl, .ref wh, .ref gr, .ref tr, .ref sc, .int lim, .int sup, .int off, .int (plo + (sumG sn (rfi (rd fk) (ri fk)) (rd fk) 20)), .int hrs]))) (by decide) G2_1
  have G3_2 := zset_ne (q := 0) (e' := (x, .inr (7, [.ref fl, .ref rl, .ref wh, .ref gr, .ref tr, .ref sc, .int lim, .int sup, .int off, .int (plo + (sumG sn (rfi (rd fk) (ri fk)) (rd fk) 20)), .int hrs]))) (by decide) G2_2
  have G3_3 := zset_ne (q := 0) (e' := (x, .inr (7, [.ref fl, .ref rl, .ref wh, .ref gr, .ref tr, .ref sc, .int lim, .int sup, .int off, .int (plo + (sumG sn (rfi (rd fk) (ri fk)) (rd fk) 20)), .int hrs]))) (by decide) G2_a0
  have G3_4 := zset_ne (q := 0) (e' := (x, .inr (7, [.ref fl, .ref rl, .ref wh, .ref gr, .ref tr, .ref sc, .int lim, .int sup, .int off, .int (plo + (sumG sn (rfi (rd fk) (ri fk)) (rd fk) 20)), .int hrs]))) (by omega) G2_4
  have G3_5 := zset_ne (q := 0) (e' := (x, .inr (7, [.ref fl, .ref rl, .ref wh, .ref gr, .ref tr, .ref sc, .int lim, .int sup, .int off, .int (plo + (sumG sn (rfi (rd fk) (ri fk)) (rd fk) 20)), .int hrs]))) (by omega) G2_5
  have G3_6 := zset_ne (q := 0) (e' := (x, .inr (7, [.ref fl, .ref rl, .ref wh, .ref gr, .ref tr, .ref sc, .int lim, .int sup, .int off, .int (plo + (sumG sn (rfi (rd fk) (ri fk)) (rd fk) 20)), .int hrs]))) (by omega) G2_6
  generalize hws3 : (ws_2.set 0 (x, .inr (7, [.ref fl, .ref rl, .ref wh, .ref gr, .ref tr, .ref sc, .int lim, .int sup, .int off, .int (plo + (sumG sn (rfi (rd fk) (ri fk)) (rd fk) 20)), .int hrs]))) = ws_3 at J hk G3_0 G3_1 G3_2 G3_3 G3_4 G3_5 G3_6
  refine lv_iload_n hx hb dX6_plough_53 rfl (lv_at hl 0 rfl) ?_
  refine W.widen (k := 6) (n := 40) (by omega) (by omega) ?_
  subst hQ
  refine vx_ret ?_
  exact W.iret (v := sumG sn (rfi (rd fk) (ri fk)) (rd fk) 20) hx hb hr (fun t ht hW => ⟨⟨sumG sn (rfi (rd fk) (ri fk)) (rd fk) 20, ws_3, rfl, ⟨hk, (by rw [eyfk]; exact G3_0), (by rw [eyfk]; exact G3_3), (by refine ⟨if_pos e_r8, ?_⟩; rw [eyfk])⟩, J.I X ht hW.alike⟩, J.F ht⟩) J.locs dX6_plough_54
set_option maxHeartbeats 400000 in
set_option maxRecDepth 100000 in
theorem cX6_mean_ok (l : Launch) (E : zG) {ws : va_W} {x fl rl wh gr gra tr sc : Nat} {lim sup off plo hrs : Int32} {sn : Nat → Int32} (Fa0 : ws[0]? = some (x, .inr (7, [.ref fl, .ref rl, .ref wh, .ref gr, .ref tr, .ref sc, .int lim, .int sup, .int off, .int plo, .int hrs]))) (Fa1 : ws[3]? = some (wh, .inr (5, [.int (0 * 20 + 0), .int (nI 400), .int 0]))) (Fa2 : ws[4]? = some (gr, .inr (2, [.ref gra]))) (Fa3 : ws[5]? = some (gra, zI4 E 400 sn))  : Met l yX6_mean wsX6_mean ({ frames := 2, cells := 0, slots := 0, locals := 44 } : Room) (va_Pc [.ref x] (zI E ws)) (vp_Sd (fun r : UInt64 => r = FP.ddiv (FP.i2d (sumA sn)) 4645744490609377280)) 0 0 (fun _ => False) := by
  refine Met.ofW (cc := cX6_mean) (maxL := 1) (ret := (some .double)) (by decide) rfl ?_
  intro p e s m args below meth c s₁ B hml hv
  obtain ⟨hargs9, hI⟩ := hv
  have hx := B.exec
  have hb := B.bytes
  have hr := B.returns
  have hlocks := B.notSynchronized
  have X : zC E p m c cX6_mean 1 s args wsX6_mean RX6 := z_open B hml hI
  have hown := X.1.2.2.2.1
  have hts := X.1.2.2.2.2
  have J := hI.J
  have hi_X6 : ∀ w ∈ wsX60, w ∈ wsX6_mean := by decide +kernel
  have hl := lv_entry ([.ref x]) (n := 1) (Nat.le_of_ble_eq_true rfl)
  rw [show entryFrame m args 1 = entryFrame m ([.ref x] : List Value).toArray 1 from by rw [hargs9], lg_entry_eq]
  generalize (lg_sl ([.ref x]) ++ List.replicate (1 - (lg_sl ([.ref x])).length) Slot.unset).toArray = ls at hl ⊢
  have hl : lv_has ls 1 [(0, .ref x)] := hl
  generalize hQ : (MQ below (vp_Sd (fun r : UInt64 => r = FP.ddiv (FP.i2d (sumA sn)) 4645744490609377280)) args s 0 0 (fun _ => False)) = QQ
  refine lv_aload_n hx hb dX6_mean_0 rfl (lv_at hl 0 rfl) ?_
  refine z_get (C := RX6) (T := TX6) (N := 11) (ci := 7) (v := .ref gr) X J hi_X6 0 Fa0 rfl 3 (by decide) (by decide +kernel) rfl dX6_mean_1 ?_
  refine lv_aload_n hx hb dX6_mean_4 rfl (lv_at hl 0 rfl) ?_
  refine z_get (C := RX6) (T := TX6) (N := 11) (ci := 7) (v := .ref wh) X J hi_X6 0 Fa0 rfl 2 (by decide) (by decide +kernel) rfl dX6_mean_5 ?_
  refine z_cr (z_rV (As := [.ref wh]) (rest := []) (ci := 2) (q0 := 4) X J (cX1_sum_ok l E Fa2 Fa3 Fa1 (by decide)) (cwV 1 hts gX6_mean_X1_sum rfl rfl rfl (by decide +kernel) ⟨Nat.le_of_ble_eq_true rfl, Nat.le_of_ble_eq_true rfl⟩) Fa2 rfl rfl rfl hl.1 rfl (Nat.le_of_ble_eq_true rfl) dX6_mean_8 ⟨Nat.le_of_ble_eq_true rfl, Nat.le_of_ble_eq_true rfl⟩) (fun r8 e_r8 => ?_)
  subst e_r8
  refine lv_i2d hx hb dX6_mean_11 ?_
  refine lv_ldc2d (v := 4645744490609377280) hx hb hown (hts (.constantDouble RX6 212 4645744490609377280) (by decide +kernel)) dX6_mean_12 ?_
  refine lv_ddiv hx hb dX6_mean_15 (mean_n64 _) ?_
  subst hQ
  exact W.dret (v := FP.ddiv (FP.i2d (sumG sn (0 * 20 + 0) 0 400)) 4645744490609377280) hx hb hr (fun t ht hW => ⟨FP.ddiv (FP.i2d (sumG sn (0 * 20 + 0) 0 400)) 4645744490609377280, rfl, rfl, ht⟩) (fun q hq => absurd hq List.not_mem_nil) dX6_mean_16
