set_option maxHeartbeats 400000 in
set_option maxRecDepth 100000 in
theorem cL_setLimit_ok (l : Launch) (hflags : l.flags = flags0) (E : zG) {ws : va_W} {x fl rl wh gr tr sc : Nat} {lim sup off plo hrs : Int32} {ou : Nat} {o9 : Nat → Int64} {v : Int32} (Fa0 : ws[0]? = some (x, .inr (7, [.ref fl, .ref rl, .ref wh, .ref gr, .ref tr, .ref sc, .int lim, .int sup, .int off, .int plo, .int hrs]))) (Fa1 : ws[18]? = some (ou, zL4 E 1 o9))  : vx_Met l yL_setLimit wsL_setLimit ({ frames := 7, cells := 1, slots := 6, locals := 104 } : Room) (va_Pc [.ref x, .int v, .ref ou] (zV E ws)) (va_Qi (fun (r : Int32) (ws' : va_W) => (r = (kLim v) ∧ ¬ (kLim v) = 0 ∧ ws = ws') ∨ (r = 0 ∧ (kLim v) = 0 ∧ (zK [0, 18] ws ws') ∧ (ws'[0]? = some (x, .inr (7, [.ref fl, .ref rl, .ref wh, .ref gr, .ref tr, .ref sc, .int v, .int sup, .int off, .int plo, .int hrs]))) ∧ (ws'[18]? = some (ou, zL4 E 1 (vp_updL o9 0 lim.toInt64))))) (zI E) (zA E)) (zX E ws (fun nm => False)) 1 6 (zA E) := by
  refine vx_ofWH (cc := cL_setLimit) (maxL := 4) (ret := (some .int)) (hh := [(0, 9, 12, 13)]) (by decide) rfl ?_
  intro p e s m args below meth c s₁ B hml hv
  obtain ⟨hargs9, hI, hRz, hNz⟩ := hv
  have hx := B.exec
  have hb := B.bytes
  have hr := B.returns
  have hlocks := B.notSynchronized
  have X : zC E p m c cL_setLimit 4 s args wsL_setLimit RL := z_open B hml hI
  have hown := X.1.2.2.2.1
  have hts := X.1.2.2.2.2
  have htb9 : c.exceptionTable.toList = tableOf [(0, 9, 12, 13)] := vx_table (x := yL_setLimit) B (hts _ List.mem_cons_self)
  have J := hI.J
  have hk : zK [0, 18] ws ws := zK.rf
  have hl := lv_entry ([.ref x, .int v, .ref ou]) (n := 4) (Nat.le_of_ble_eq_true rfl)
  rw [show entryFrame m args 4 = entryFrame m ([.ref x, .int v, .ref ou] : List Value).toArray 4 from by rw [hargs9], lg_entry_eq]
  generalize (lg_sl ([.ref x, .int v, .ref ou]) ++ List.replicate (4 - (lg_sl ([.ref x, .int v, .ref ou])).length) Slot.unset).toArray = ls at hl ⊢
  have hl : lv_has ls 4 [(0, .ref x), (1, .int v), (2, .ref ou)] := hl
  generalize hQ : (vx_MQ below (va_Qi (fun (r : Int32) (ws' : va_W) => (r = (kLim v) ∧ ¬ (kLim v) = 0 ∧ ws = ws') ∨ (r = 0 ∧ (kLim v) = 0 ∧ (zK [0, 18] ws ws') ∧ (ws'[0]? = some (x, .inr (7, [.ref fl, .ref rl, .ref wh, .ref gr, .ref tr, .ref sc, .int v, .int sup, .int off, .int plo, .int hrs]))) ∧ (ws'[18]? = some (ou, zL4 E 1 (vp_updL o9 0 lim.toInt64))))) (zI E) (zA E)) (zX E ws (fun nm => False)) args s 1 6 (zA E)) = QQ
  refine lv_aload_n hx hb dL_setLimit_0 rfl (lv_at hl 2 rfl) ?_
  refine lv_iconst (v := 0) hx hb dL_setLimit_1 (by decide) ?_
  refine lv_aload_n hx hb dL_setLimit_2 rfl (lv_at hl 0 rfl) ?_
  refine lv_iload_n hx hb dL_setLimit_3 rfl (lv_at hl 1 rfl) ?_
  refine z_xi J (z_yV (As := [.int v]) (rest := [.int 0, .ref ou]) (ci := 7) (q0 := 0) X hRz J (cX6_setLimit_ok l hflags E Fa0) (cwV 1 hts gL_setLimit_X6_setLimit rfl rfl rfl (by decide +kernel) ⟨Nat.le_of_ble_eq_true rfl, Nat.le_of_ble_eq_true rfl⟩) Fa0 rfl rfl rfl hl.1 rfl (Nat.le_of_ble_eq_true rfl) dL_setLimit_4 ⟨Nat.le_of_ble_eq_true rfl, Nat.le_of_ble_eq_true rfl⟩) (fun nm ce q9 H locs hp9 J h1 h2 h3 => ?_) (fun r4 ws_1 H locs hp9 J => ?_)
  · obtain ⟨hK9, rfl⟩ := hp9
    refine vx_catch (own := RL) (name := "java/lang/IllegalArgumentException") hown [] (⟨0, 9, 12, 13⟩ : ExceptionTableEntry) [] (htb9.trans rfl) (fun _ h9 => absurd h9 List.not_mem_nil) (by decide) (by decide) (hts (.classLink RL 13 "java/lang/IllegalArgumentException") (by decide +kernel)) (va_Nw.use rfl hRz.2.1) h1 h2 h3 ?_
    refine lv_astore_n (lv' := [(3, .ref q9), (0, .ref x), (1, .int v), (2, .ref ou)]) hx hb dL_setLimit_12 rfl hl (by decide) rfl (fun ls hl => ?_)
    refine lv_iconst (v := 1) hx hb dL_setLimit_13 (by decide) ?_
    subst hQ
    refine vx_ret ?_
    exact W.iret (v := 1) hx hb hr (fun t ht hW => ⟨⟨1, ws, rfl, Or.inl ⟨hK9.symm, by rw [hK9]; decide, rfl⟩, J.I X ht hW.alike⟩, J.F ht⟩) J.locs dL_setLimit_14
  obtain ⟨k1, G1_a0, e_r4⟩ := hp9
  have hk := hk.trans (k1.mono (by decide))
  have G1_1 := k1.2 18 _ (by decide) Fa1
  refine W.eq (g2 := F0 m 7 ls [.int lim, .int 0, .ref ou]) (congrArg (fun z9 : Int32 => F0 m 7 ls [.int z9, .int 0, .ref ou]) (show (r4 : Int32) = lim from e_r4.2)) ?_
  refine lv_i2l (v := lim.toInt64) hx hb dL_setLimit_7 rfl ?_
  refine z_last X J 18 G1_1 (vp_in_nI (n := 0) (by decide) (by decide)) dL_setLimit_8 (fun H locs J => ?_)
  rw [show vp_updL o9 (0 : Int32).toNatClampNeg lim.toInt64 = vp_updL o9 0 lim.toInt64 from rfl] at J
  have hk := hk.trans (zK.set (ws := ws_1) (q := 18) (e := (ou, zL4 E 1 (vp_updL o9 0 lim.toInt64))) (by simp))
  have G2_0 := zset_ne (q := 18) (e' := (ou, zL4 E 1 (vp_updL o9 0 lim.toInt64))) (by decide) G1_a0
  have G2_1 := zset_eq (e' := (ou, zL4 E 1 (vp_updL o9 0 lim.toInt64))) G1_1
  generalize hws2 : (ws_1.set 18 (ou, zL4 E 1 (vp_updL o9 0 lim.toInt64))) = ws_2 at J hk G2_0 G2_1
  refine lv_goto (tgt := 15) hx hb dL_setLimit_9 (by decide) ?_
  refine lv_iconst (v := 0) hx hb dL_setLimit_15 (by decide) ?_
  subst hQ
  refine vx_ret ?_
  exact W.iret (v := 0) hx hb hr (fun t ht hW => ⟨⟨0, ws_2, rfl, Or.inr ⟨rfl, e_r4.1, ⟨hk, G2_0, G2_1⟩⟩, J.I X ht hW.alike⟩, J.F ht⟩) J.locs dL_setLimit_16
set_option maxHeartbeats 400000 in
set_option maxRecDepth 100000 in
theorem cL_setSupply_ok (l : Launch) (hflags : l.flags = flags0) (E : zG) {ws : va_W} {x fl rl wh gr tr sc : Nat} {lim sup off plo hrs : Int32} {ou : Nat} {o9 : Nat → Int64} {v : Int32} (Fa0 : ws[0]? = some (x, .inr (7, [.ref fl, .ref rl, .ref wh, .ref gr, .ref tr, .ref sc, .int lim, .int sup, .int off, .int plo, .int hrs]))) (Fa1 : ws[18]? = some (ou, zL4 E 1 o9))  : vx_Met l yL_setSupply wsL_setSupply ({ frames := 7, cells := 1, slots := 6, locals := 104 } : Room) (va_Pc [.ref x, .int v, .ref ou] (zV E ws)) (va_Qi (fun (r : Int32) (ws' : va_W) => (r = (kSup v) ∧ ¬ (kSup v) = 0 ∧ ws = ws') ∨ (r = 0 ∧ (kSup v) = 0 ∧ (zK [0, 18] ws ws') ∧ (ws'[0]? = some (x, .inr (7, [.ref fl, .ref rl, .ref wh, .ref gr, .ref tr, .ref sc, .int lim, .int v, .int off, .int plo, .int hrs]))) ∧ (ws'[18]? = some (ou, zL4 E 1 (vp_updL o9 0 sup.toInt64))))) (zI E) (zA E)) (zX E ws (fun nm => False)) 1 6 (zA E) := by
  refine vx_ofWH (cc := cL_setSupply) (maxL := 4) (ret := (some .int)) (hh := [(0, 9, 12, 13)]) (by decide) rfl ?_
  intro p e s m args below meth c s₁ B hml hv
  obtain ⟨hargs9, hI, hRz, hNz⟩ := hv
  have hx := B.exec
  have hb := B.bytes
  have hr := B.returns
  have hlocks := B.notSynchronized
  have X : zC E p m c cL_setSupply 4 s args wsL_setSupply RL := z_open B hml hI
  have hown := X.1.2.2.2.1
  have hts := X.1.2.2.2.2
  have htb9 : c.exceptionTable.toList = tableOf [(0, 9, 12, 13)] := vx_table (x := yL_setSupply) B (hts _ List.mem_cons_self)
  have J := hI.J
  have hk : zK [0, 18] ws ws := zK.rf
  have hl := lv_entry ([.ref x, .int v, .ref ou]) (n := 4) (Nat.le_of_ble_eq_true rfl)
  rw [show entryFrame m args 4 = entryFrame m ([.ref x, .int v, .ref ou] : List Value).toArray 4 from by rw [hargs9], lg_entry_eq]
  generalize (lg_sl ([.ref x, .int v, .ref ou]) ++ List.replicate (4 - (lg_sl ([.ref x, .int v, .ref ou])).length) Slot.unset).toArray = ls at hl ⊢
  have hl : lv_has ls 4 [(0, .ref x), (1, .int v), (2, .ref ou)] := hl
  generalize hQ : (vx_MQ below (va_Qi (fun (r : Int32) (ws' : va_W) => (r = (kSup v) ∧ ¬ (kSup v) = 0 ∧ ws = ws') ∨ (r = 0 ∧ (kSup v) = 0 ∧ (zK [0, 18] ws ws') ∧ (ws'[0]? = some (x, .inr (7, [.ref fl, .ref rl, .ref wh, .ref gr, .ref tr, .ref sc, .int lim, .int v, .int off, .int plo, .int hrs]))) ∧ (ws'[18]? = some (ou, zL4 E 1 (vp_updL o9 0 sup.toInt64))))) (zI E) (zA E)) (zX E ws (fun nm => False)) args s 1 6 (zA E)) = QQ
  refine lv_aload_n hx hb dL_setSupply_0 rfl (lv_at hl 2 rfl) ?_
  refine lv_iconst (v := 0) hx hb dL_setSupply_1 (by decide) ?_
  refine lv_aload_n hx hb dL_setSupply_2 rfl (lv_at hl 0 rfl) ?_
  refine lv_iload_n hx hb dL_setSupply_3 rfl (lv_at hl 1 rfl) ?_
  refine z_xi J (z_yV (As := [.int v]) (rest := [.int 0, .ref ou]) (ci := 7) (q0 := 0) X hRz J (cX6_setSupply_ok l hflags E Fa0) (cwV 1 hts gL_setSupply_X6_setSupply rfl rfl rfl (by decide +kernel) ⟨Nat.le_of_ble_eq_true rfl, Nat.le_of_ble_eq_true rfl⟩) Fa0 rfl rfl rfl hl.1 rfl (Nat.le_of_ble_eq_true rfl) dL_setSupply_4 ⟨Nat.le_of_ble_eq_true rfl, Nat.le_of_ble_eq_true rfl⟩) (fun nm ce q9 H locs hp9 J h1 h2 h3 => ?_) (fun r4 ws_1 H locs hp9 J => ?_)
  · obtain ⟨hK9, rfl⟩ := hp9
    refine vx_catch (own := RL) (name := "java/lang/IllegalArgumentException") hown [] (⟨0, 9, 12, 13⟩ : ExceptionTableEntry) [] (htb9.trans rfl) (fun _ h9 => absurd h9 List.not_mem_nil) (by decide) (by decide) (hts (.classLink RL 13 "java/lang/IllegalArgumentException") (by decide +kernel)) (va_Nw.use rfl hRz.2.1) h1 h2 h3 ?_
    refine lv_astore_n (lv' := [(3, .ref q9), (0, .ref x), (1, .int v), (2, .ref ou)]) hx hb dL_setSupply_12 rfl hl (by decide) rfl (fun ls hl => ?_)
    refine lv_iconst (v := 1) hx hb dL_setSupply_13 (by decide) ?_
    subst hQ
    refine vx_ret ?_
    exact W.iret (v := 1) hx hb hr (fun t ht hW => ⟨⟨1, ws, rfl, Or.inl ⟨hK9.symm, by rw [hK9]; decide, rfl⟩, J.I X ht hW.alike⟩, J.F ht⟩) J.locs dL_setSupply_14
  obtain ⟨k1, G1_a0, e_r4⟩ := hp9
  have hk := hk.trans (k1.mono (by decide))
  have G1_1 := k1.2 18 _ (by decide) Fa1
  refine W.eq (g2 := F0 m 7 ls [.int sup, .int 0, .ref ou]) (congrArg (fun z9 : Int32 => F0 m 7 ls [.int z9, .int 0, .ref ou]) (show (r4 : Int32) = sup from e_r4.2)) ?_
  refine lv_i2l (v := sup.toInt64) hx hb dL_setSupply_7 rfl ?_
  refine z_last X J 18 G1_1 (vp_in_nI (n := 0) (by decide) (by decide)) dL_setSupply_8 (fun H locs J => ?_)
  rw [show vp_updL o9 (0 : Int32).toNatClampNeg sup.toInt64 = vp_updL o9 0 sup.toInt64 from rfl] at J
  have hk := hk.trans (zK.set (ws := ws_1) (q := 18) (e := (ou, zL4 E 1 (vp_updL o9 0 sup.toInt64))) (by simp))
  have G2_0 := zset_ne (q := 18) (e' := (ou, zL4 E 1 (vp_updL o9 0 sup.toInt64))) (by decide) G1_a0
  have G2_1 := zset_eq (e' := (ou, zL4 E 1 (vp_updL o9 0 sup.toInt64))) G1_1
  generalize hws2 : (ws_1.set 18 (ou, zL4 E 1 (vp_updL o9 0 sup.toInt64))) = ws_2 at J hk G2_0 G2_1
  refine lv_goto (tgt := 15) hx hb dL_setSupply_9 (by decide) ?_
  refine lv_iconst (v := 0) hx hb dL_setSupply_15 (by decide) ?_
  subst hQ
  refine vx_ret ?_
  exact W.iret (v := 0) hx hb hr (fun t ht hW => ⟨⟨0, ws_2, rfl, Or.inr ⟨rfl, e_r4.1, ⟨hk, G2_0, G2_1⟩⟩, J.I X ht hW.alike⟩, J.F ht⟩) J.locs dL_setSupply_16
set_option maxHeartbeats 400000 in
set_option maxRecDepth 100000 in
theorem cL_fall_ok (l : Launch) (hflags : l.flags = flags0) (E : zG) {ws : va_W} {x fl rl wh gr gra tr sc : Nat} {lim sup off plo hrs : Int32} {sn : Nat → Int32} {ou : Nat} {o9 : Nat → Int64} {v : Int32} (Fa0 : ws[0]? = some (x, .inr (7, [.ref fl, .ref rl, .ref wh, .ref gr, .ref tr, .ref sc, .int lim, .int sup, .int off, .int plo, .int hrs]))) (Fa1 : ws[3]? = some (wh, .inr (5, [.int (0 * 20 + 0), .int (nI 400), .int 0]))) (Fa2 : ws[4]? = some (gr, .inr (2, [.ref gra]))) (Fa3 : ws[5]? = some (gra, zI4 E 400 sn)) (Fa4 : ws[18]? = some (ou, zL4 E 1 o9))  : vx_Met l yL_fall wsL_fall ({ frames := 7, cells := 1, slots := 6, locals := 105 } : Room) (va_Pc [.ref x, .int v, .ref ou] (zV E ws)) (va_Qi (fun (r : Int32) (ws' : va_W) => (r = (kFall v) ∧ ¬ (kFall v) = 0 ∧ ws = ws') ∨ (r = 0 ∧ (kFall v) = 0 ∧ (zK [5, 18] ws ws') ∧ (ws'[5]? = some (gra, zI4 E 400 (fallC sn v 400))) ∧ (ws'[18]? = some (ou, zL4 E 1 (vp_updL o9 0 (sumA (fallC sn v 400) - sumA sn).toInt64))))) (zI E) (zA E)) (zX E ws (fun nm => False)) 1 6 (zA E) := by
  refine vx_ofWH (cc := cL_fall) (maxL := 4) (ret := (some .int)) (hh := [(0, 9, 12, 13)]) (by decide) rfl ?_
  intro p e s m args below meth c s₁ B hml hv
  obtain ⟨hargs9, hI, hRz, hNz⟩ := hv
  have hx := B.exec
  have hb := B.bytes
  have hr := B.returns
  have hlocks := B.notSynchronized
  have X : zC E p m c cL_fall 4 s args wsL_fall RL := z_open B hml hI
  have hown := X.1.2.2.2.1
  have hts := X.1.2.2.2.2
  have htb9 : c.exceptionTable.toList = tableOf [(0, 9, 12, 13)] := vx_table (x := yL_fall) B (hts _ List.mem_cons_self)
  have J := hI.J
  have hk : zK [5, 18] ws ws := zK.rf
  have hl := lv_entry ([.ref x, .int v, .ref ou]) (n := 4) (Nat.le_of_ble_eq_true rfl)
  rw [show entryFrame m args 4 = entryFrame m ([.ref x, .int v, .ref ou] : List Value).toArray 4 from by rw [hargs9], lg_entry_eq]
  generalize (lg_sl ([.ref x, .int v, .ref ou]) ++ List.replicate (4 - (lg_sl ([.ref x, .int v, .ref ou])).length) Slot.unset).toArray = ls at hl ⊢
  have hl : lv_has ls 4 [(0, .ref x), (1, .int v), (2, .ref ou)] := hl
  generalize hQ : (vx_MQ below (va_Qi (fun (r : Int32) (ws' : va_W) => (r = (kFall v) ∧ ¬ (kFall v) = 0 ∧ ws = ws') ∨ (r = 0 ∧ (kFall v) = 0 ∧ (zK [5, 18] ws ws') ∧ (ws'[5]? = some (gra, zI4 E 400 (fallC sn v 400))) ∧ (ws'[18]? = some (ou, zL4 E 1 (vp_updL o9 0 (sumA (fallC sn v 400) - sumA sn).toInt64))))) (zI E) (zA E)) (zX E ws (fun nm => False)) args s 1 6 (zA E)) = QQ
  refine lv_aload_n hx hb dL_fall_0 rfl (lv_at hl 2 rfl) ?_
  refine lv_iconst (v := 0) hx hb dL_fall_1 (by decide) ?_
  refine lv_aload_n hx hb dL_fall_2 rfl (lv_at hl 0 rfl) ?_
  refine lv_iload_n hx hb dL_fall_3 rfl (lv_at hl 1 rfl) ?_
  refine z_xi J (z_yV (As := [.int v]) (rest := [.int 0, .ref ou]) (ci := 7) (q0 := 0) X hRz J (cX6_fall_ok l hflags E Fa0 Fa1 Fa2 Fa3) (cwV 1 hts gL_fall_X6_fall rfl rfl rfl (by decide +kernel) ⟨Nat.le_of_ble_eq_true rfl, Nat.le_of_ble_eq_true rfl⟩) Fa0 rfl rfl rfl hl.1 rfl (Nat.le_of_ble_eq_true rfl) dL_fall_4 ⟨Nat.le_of_ble_eq_true rfl, Nat.le_of_ble_eq_true rfl⟩) (fun nm ce q9 H locs hp9 J h1 h2 h3 => ?_) (fun r4 ws_1 H locs hp9 J => ?_)
  · obtain ⟨hK9, rfl⟩ := hp9
    refine vx_catch (own := RL) (name := "java/lang/IllegalArgumentException") hown [] (⟨0, 9, 12, 13⟩ : ExceptionTableEntry) [] (htb9.trans rfl) (fun _ h9 => absurd h9 List.not_mem_nil) (by decide) (by decide) (hts (.classLink RL 13 "java/lang/IllegalArgumentException") (by decide +kernel)) (va_Nw.use rfl hRz.2.1) h1 h2 h3 ?_
    refine lv_astore_n (lv' := [(3, .ref q9), (0, .ref x), (1, .int v), (2, .ref ou)]) hx hb dL_fall_12 rfl hl (by decide) rfl (fun ls hl => ?_)
    refine lv_iconst (v := 1) hx hb dL_fall_13 (by decide) ?_
    subst hQ
    refine vx_ret ?_
    exact W.iret (v := 1) hx hb hr (fun t ht hW => ⟨⟨1, ws, rfl, Or.inl ⟨hK9.symm, by rw [hK9]; decide, rfl⟩, J.I X ht hW.alike⟩, J.F ht⟩) J.locs dL_fall_14
  obtain ⟨k1, G1_a0, e_r4⟩ := hp9
  have hk := hk.trans (k1.mono (by decide))
  have G1_0 := k1.2 0 _ (by decide) Fa0
  have G1_1 := k1.2 3 _ (by decide) Fa1
  have G1_2 := k1.2 4 _ (by decide) Fa2
  have G1_4 := k1.2 18 _ (by decide) Fa4
  refine W.eq (g2 := F0 m 7 ls [.int (sumA (fallC sn v 400) - sumA sn), .int 0, .ref ou]) (congrArg (fun z9 : Int32 => F0 m 7 ls [.int z9, .int 0, .ref ou]) (show (r4 : Int32) = sumA (fallC sn v 400) - sumA sn from e_r4.2)) ?_
  refine lv_i2l (v := (sumA (fallC sn v 400) - sumA sn).toInt64) hx hb dL_fall_7 rfl ?_
  refine z_last X J 18 G1_4 (vp_in_nI (n := 0) (by decide) (by decide)) dL_fall_8 (fun H locs J => ?_)
  rw [show vp_updL o9 (0 : Int32).toNatClampNeg ((sumA (fallC sn v 400) - sumA sn).toInt64) = vp_updL o9 0 ((sumA (fallC sn v 400) - sumA sn).toInt64) from rfl] at J
  have hk := hk.trans (zK.set (ws := ws_1) (q := 18) (e := (ou, zL4 E 1 (vp_updL o9 0 ((sumA (fallC sn v 400) - sumA sn).toInt64)))) (by simp))
  have G2_0 := zset_ne (q := 18) (e' := (ou, zL4 E 1 (vp_updL o9 0 ((sumA (fallC sn v 400) - sumA sn).toInt64)))) (by decide) G1_0
  have G2_1 := zset_ne (q := 18) (e' := (ou, zL4 E 1 (vp_updL o9 0 ((sumA (fallC sn v 400) - sumA sn).toInt64)))) (by decide) G1_1
  have G2_2 := zset_ne (q := 18) (e' := (ou, zL4 E 1 (vp_updL o9 0 ((sumA (fallC sn v 400) - sumA sn).toInt64)))) (by decide) G1_2
  have G2_3 := zset_ne (q := 18) (e' := (ou, zL4 E 1 (vp_updL o9 0 ((sumA (fallC sn v 400) - sumA sn).toInt64)))) (by decide) G1_a0
  have G2_4 := zset_eq (e' := (ou, zL4 E 1 (vp_updL o9 0 ((sumA (fallC sn v 400) - sumA sn).toInt64)))) G1_4
  generalize hws2 : (ws_1.set 18 (ou, zL4 E 1 (vp_updL o9 0 ((sumA (fallC sn v 400) - sumA sn).toInt64)))) = ws_2 at J hk G2_0 G2_1 G2_2 G2_3 G2_4
  refine lv_goto (tgt := 15) hx hb dL_fall_9 (by decide) ?_
  refine lv_iconst (v := 0) hx hb dL_fall_15 (by decide) ?_
  subst hQ
  refine vx_ret ?_
  exact W.iret (v := 0) hx hb hr (fun t ht hW => ⟨⟨0, ws_2, rfl, Or.inr ⟨rfl, e_r4.1, ⟨hk, G2_3, G2_4⟩⟩, J.I X ht hW.alike⟩, J.F ht⟩) J.locs dL_fall_16
set_option maxHeartbeats 400000 in
set_option maxRecDepth 100000 in
theorem cL_snow_ok (l : Launch) (hflags : l.flags = flags0) (E : zG) {ws : va_W} {x fl rl wh gr gra tr sc : Nat} {lim sup off plo hrs : Int32} {sn : Nat → Int32} {ou : Nat} {o9 : Nat → Int64} {co ro : Int32} (Fa0 : ws[0]? = some (x, .inr (7, [.ref fl, .ref rl, .ref wh, .ref gr, .ref tr, .ref sc, .int lim, .int sup, .int off, .int plo, .int hrs]))) (Fa1 : ws[4]? = some (gr, .inr (2, [.ref gra]))) (Fa2 : ws[5]? = some (gra, zI4 E 400 sn)) (Fa3 : ws[18]? = some (ou, zL4 E 1 o9))  : vx_Met l yL_snow wsL_snow ({ frames := 8, cells := 6, slots := 40, locals := 125 } : Room) (va_Pc [.ref x, .int co, .int ro, .ref ou] (zV E ws)) (va_Qi (fun (r : Int32) (ws' : va_W) => (r = (kSnow co ro) ∧ ¬ (kSnow co ro) = 0 ∧ ws = ws') ∨ (r = 0 ∧ (kSnow co ro) = 0 ∧ (zK [18] ws ws') ∧ (ws'[18]? = some (ou, zL4 E 1 (vp_updL o9 0 (gd sn (ro * 20 + co)).toInt64))))) (zI E) (zA E)) (zX E ws (fun nm => False)) 6 40 (zA E) := by
  refine vx_ofWH (cc := cL_snow) (maxL := 5) (ret := (some .int)) (hh := [(0, 10, 13, 15)]) (by decide) rfl ?_
  intro p e s m args below meth c s₁ B hml hv
  obtain ⟨hargs9, hI, hRz, hNz⟩ := hv
  have hx := B.exec
  have hb := B.bytes
  have hr := B.returns
  have hlocks := B.notSynchronized
  have X : zC E p m c cL_snow 5 s args wsL_snow RL := z_open B hml hI
  have hown := X.1.2.2.2.1
  have hts := X.1.2.2.2.2
  have htb9 : c.exceptionTable.toList = tableOf [(0, 10, 13, 15)] := vx_table (x := yL_snow) B (hts _ List.mem_cons_self)
  have J := hI.J
  have hk : zK [18] ws ws := zK.rf
  have hl := lv_entry ([.ref x, .int co, .int ro, .ref ou]) (n := 5) (Nat.le_of_ble_eq_true rfl)
  rw [show entryFrame m args 5 = entryFrame m ([.ref x, .int co, .int ro, .ref ou] : List Value).toArray 5 from by rw [hargs9], lg_entry_eq]
  generalize (lg_sl ([.ref x, .int co, .int ro, .ref ou]) ++ List.replicate (5 - (lg_sl ([.ref x, .int co, .int ro, .ref ou])).length) Slot.unset).toArray = ls at hl ⊢
  have hl : lv_has ls 5 [(0, .ref x), (1, .int co), (2, .int ro), (3, .ref ou)] := hl
  generalize hQ : (vx_MQ below (va_Qi (fun (r : Int32) (ws' : va_W) => (r = (kSnow co ro) ∧ ¬ (kSnow co ro) = 0 ∧ ws = ws') ∨ (r = 0 ∧ (kSnow co ro) = 0 ∧ (zK [18] ws ws') ∧ (ws'[18]? = some (ou, zL4 E 1 (vp_updL o9 0 (gd sn (ro * 20 + co)).toInt64))))) (zI E) (zA E)) (zX E ws (fun nm => False)) args s 6 40 (zA E)) = QQ
  refine lv_aload_n hx hb dL_snow_0 rfl (lv_at hl 3 rfl) ?_
  refine lv_iconst (v := 0) hx hb dL_snow_1 (by decide) ?_
  refine lv_aload_n hx hb dL_snow_2 rfl (lv_at hl 0 rfl) ?_
  refine lv_iload_n hx hb dL_snow_3 rfl (lv_at hl 1 rfl) ?_
  refine lv_iload_n hx hb dL_snow_4 rfl (lv_at hl 2 rfl) ?_
  refine z_xi J (z_yV (As := [.int co, .int ro]) (rest := [.int 0, .ref ou]) (ci := 7) (q0 := 0) X hRz J (cX6_snow_ok l hflags E Fa0 Fa1 Fa2) (cwV 2 hts gL_snow_X6_snow rfl rfl rfl (by decide +kernel) ⟨Nat.le_of_ble_eq_true rfl, Nat.le_of_ble_eq_true rfl⟩) Fa0 rfl rfl rfl hl.1 rfl (Nat.le_of_ble_eq_true rfl) dL_snow_5 ⟨Nat.le_of_ble_eq_true rfl, Nat.le_of_ble_eq_true rfl⟩) (fun nm ce q9 H locs hp9 J h1 h2 h3 => ?_) (fun r5 ws_1 H locs hp9 J => ?_)
  · obtain ⟨hK9, rfl⟩ := hp9
    refine vx_catch (own := RL) (name := "java/lang/IndexOutOfBoundsException") hown [] (⟨0, 10, 13, 15⟩ : ExceptionTableEntry) [] (htb9.trans rfl) (fun _ h9 => absurd h9 List.not_mem_nil) (by decide) (by decide) (hts (.classLink RL 15 "java/lang/IndexOutOfBoundsException") (by decide +kernel)) (va_Nw.use rfl hRz.2.2.1) h1 h2 h3 ?_
    refine lv_astore (lv' := [(4, .ref q9), (0, .ref x), (1, .int co), (2, .int ro), (3, .ref ou)]) hx hb dL_snow_13 hl (by decide) rfl (fun ls hl => ?_)
    refine lv_iconst (v := 1) hx hb dL_snow_15 (by decide) ?_
    subst hQ
    refine vx_ret ?_
    exact W.iret (v := 1) hx hb hr (fun t ht hW => ⟨⟨1, ws, rfl, Or.inl ⟨hK9.symm, by rw [hK9]; decide, rfl⟩, J.I X ht hW.alike⟩, J.F ht⟩) J.locs dL_snow_16
  obtain ⟨rfl, e_r5⟩ := hp9
  refine W.eq (g2 := F0 m 8 ls [.int (gd sn (ro * 20 + co)), .int 0, .ref ou]) (congrArg (fun z9 : Int32 => F0 m 8 ls [.int z9, .int 0, .ref ou]) (show (r5 : Int32) = gd sn (ro * 20 + co) from e_r5.2)) ?_
  refine lv_i2l (v := (gd sn (ro * 20 + co)).toInt64) hx hb dL_snow_8 rfl ?_
  refine z_last X J 18 Fa3 (vp_in_nI (n := 0) (by decide) (by decide)) dL_snow_9 (fun H locs J => ?_)
  rw [show vp_updL o9 (0 : Int32).toNatClampNeg ((gd sn (ro * 20 + co)).toInt64) = vp_updL o9 0 ((gd sn (ro * 20 + co)).toInt64) from rfl] at J
  have hk := hk.trans (zK.set (ws := ws) (q := 18) (e := (ou, zL4 E 1 (vp_updL o9 0 ((gd sn (ro * 20 + co)).toInt64)))) (by simp))
  have G2_0 := zset_ne (q := 18) (e' := (ou, zL4 E 1 (vp_updL o9 0 ((gd sn (ro * 20 + co)).toInt64)))) (by decide) Fa0
  have G2_1 := zset_ne (q := 18) (e' := (ou, zL4 E 1 (vp_updL o9 0 ((gd sn (ro * 20 + co)).toInt64)))) (by decide) Fa1
  have G2_2 := zset_ne (q := 18) (e' := (ou, zL4 E 1 (vp_updL o9 0 ((gd sn (ro * 20 + co)).toInt64)))) (by decide) Fa2
  have G2_3 := zset_eq (e' := (ou, zL4 E 1 (vp_updL o9 0 ((gd sn (ro * 20 + co)).toInt64)))) Fa3
  generalize hws2 : (ws.set 18 (ou, zL4 E 1 (vp_updL o9 0 ((gd sn (ro * 20 + co)).toInt64)))) = ws_2 at J hk G2_0 G2_1 G2_2 G2_3
  refine lv_goto (tgt := 17) hx hb dL_snow_10 (by decide) ?_
  refine lv_iconst (v := 0) hx hb dL_snow_17 (by decide) ?_
  subst hQ
  refine vx_ret ?_
  exact W.iret (v := 0) hx hb hr (fun t ht hW => ⟨⟨0, ws_2, rfl, Or.inr ⟨rfl, e_r5.1, ⟨hk, G2_3⟩⟩, J.I X ht hW.alike⟩, J.F ht⟩) J.locs dL_snow_18
set_option maxHeartbeats 400000 in
set_option maxRecDepth 100000 in
theorem cL_about_ok (l : Launch) (hflags : l.flags = flags0) (E : zG) {ws : va_W} {x fl rl wh gr gra tr sc ea nf : Nat} {mc1 lim sup off plo hrs : Int32} {fa sn : Nat → Int32} {ou : Nat} {o9 : Nat → Int64} {v w : Int32} (Fa0 : ws[0]? = some (x, .inr (7, [.ref fl, .ref rl, .ref wh, .ref gr, .ref tr, .ref sc, .int lim, .int sup, .int off, .int plo, .int hrs]))) (Fa1 : ws[1]? = some (fl, .inr (0, [.int mc1, .ref ea, .int (nI nf)]))) (Fa2 : ws[4]? = some (gr, .inr (2, [.ref gra]))) (Fa3 : ws[5]? = some (gra, zI4 E 400 sn)) (Fa4 : ws[18]? = some (ou, zL4 E 1 o9)) (hF : FS E ws fa ea nf) (hnf : nf ≤ 10) (hok : ∀ j, j < nf → okF fa j) : vx_Met l yL_about wsL_about ({ frames := 8, cells := 6, slots := 40, locals := 126 } : Room) (va_Pc [.ref x, .int v, .int w, .ref ou] (zV E ws)) (va_Qi (fun (r : Int32) (ws' : va_W) => (r = (kAsk v (nI nf) w 6) ∧ ¬ (kAsk v (nI nf) w 6) = 0 ∧ ws = ws') ∨ (r = 0 ∧ (kAsk v (nI nf) w 6) = 0 ∧ (zK [18] ws ws') ∧ (ws'[18]? = some (ou, zL4 E 1 (vp_updL o9 0 (aboutS fa sn v.toNatClampNeg w.toNatClampNeg).toInt64))))) (zI E) (zA E)) (zX E ws (fun nm => False)) 6 40 (zA E) := by
  refine vx_ofWH (cc := cL_about) (maxL := 5) (ret := (some .int)) (hh := [(0, 10, 13, 15)]) (by decide) rfl ?_
  intro p e s m args below meth c s₁ B hml hv
  obtain ⟨hargs9, hI, hRz, hNz⟩ := hv
  have hx := B.exec
  have hb := B.bytes
  have hr := B.returns
  have hlocks := B.notSynchronized
  have X : zC E p m c cL_about 5 s args wsL_about RL := z_open B hml hI
  have hown := X.1.2.2.2.1
  have hts := X.1.2.2.2.2
  have htb9 : c.exceptionTable.toList = tableOf [(0, 10, 13, 15)] := vx_table (x := yL_about) B (hts _ List.mem_cons_self)
  have J := hI.J
  have hk : zK [18] ws ws := zK.rf
  have hl := lv_entry ([.ref x, .int v, .int w, .ref ou]) (n := 5) (Nat.le_of_ble_eq_true rfl)
  rw [show entryFrame m args 5 = entryFrame m ([.ref x, .int v, .int w, .ref ou] : List Value).toArray 5 from by rw [hargs9], lg_entry_eq]
  generalize (lg_sl ([.ref x, .int v, .int w, .ref ou]) ++ List.replicate (5 - (lg_sl ([.ref x, .int v, .int w, .ref ou])).length) Slot.unset).toArray = ls at hl ⊢
  have hl : lv_has ls 5 [(0, .ref x), (1, .int v), (2, .int w), (3, .ref ou)] := hl
  generalize hQ : (vx_MQ below (va_Qi (fun (r : Int32) (ws' : va_W) => (r = (kAsk v (nI nf) w 6) ∧ ¬ (kAsk v (nI nf) w 6) = 0 ∧ ws = ws') ∨ (r = 0 ∧ (kAsk v (nI nf) w 6) = 0 ∧ (zK [18] ws ws') ∧ (ws'[18]? = some (ou, zL4 E 1 (vp_updL o9 0 (aboutS fa sn v.toNatClampNeg w.toNatClampNeg).toInt64))))) (zI E) (zA E)) (zX E ws (fun nm => False)) args s 6 40 (zA E)) = QQ
  refine lv_aload_n hx hb dL_about_0 rfl (lv_at hl 3 rfl) ?_
  refine lv_iconst (v := 0) hx hb dL_about_1 (by decide) ?_
  refine lv_aload_n hx hb dL_about_2 rfl (lv_at hl 0 rfl) ?_
  refine lv_iload_n hx hb dL_about_3 rfl (lv_at hl 1 rfl) ?_
  refine lv_iload_n hx hb dL_about_4 rfl (lv_at hl 2 rfl) ?_
  refine z_xi J (z_yV (As := [.int v, .int w]) (rest := [.int 0, .ref ou]) (ci := 7) (q0 := 0) X hRz J (cX6_about_ok l hflags E Fa0 Fa1 Fa2 Fa3 (by first | assumption | omega | decide) (by first | assumption | omega | decide) (by first | assumption | omega | decide)) (cwV 2 hts gL_about_X6_about rfl rfl rfl (by decide +kernel) ⟨Nat.le_of_ble_eq_true rfl, Nat.le_of_ble_eq_true rfl⟩) Fa0 rfl rfl rfl hl.1 rfl (Nat.le_of_ble_eq_true rfl) dL_about_5 ⟨Nat.le_of_ble_eq_true rfl, Nat.le_of_ble_eq_true rfl⟩) (fun nm ce q9 H locs hp9 J h1 h2 h3 => ?_) (fun r5 ws_1 H locs hp9 J => ?_)
  · obtain ⟨hK9, rfl⟩ := hp9
    refine vx_catch (own := RL) (name := "java/lang/IndexOutOfBoundsException") hown [] (⟨0, 10, 13, 15⟩ : ExceptionTableEntry) [] (htb9.trans rfl) (fun _ h9 => absurd h9 List.not_mem_nil) (by decide) (by decide) (hts (.classLink RL 15 "java/lang/IndexOutOfBoundsException") (by decide +kernel)) (va_Nw.use rfl hRz.2.2.1) h1 h2 h3 ?_
    refine lv_astore (lv' := [(4, .ref q9), (0, .ref x), (1, .int v), (2, .int w), (3, .ref ou)]) hx hb dL_about_13 hl (by decide) rfl (fun ls hl => ?_)
    refine lv_iconst (v := 1) hx hb dL_about_15 (by decide) ?_
    subst hQ
    refine vx_ret ?_
    exact W.iret (v := 1) hx hb hr (fun t ht hW => ⟨⟨1, ws, rfl, Or.inl ⟨hK9.symm, by rw [hK9]; decide, rfl⟩, J.I X ht hW.alike⟩, J.F ht⟩) J.locs dL_about_16
  obtain ⟨rfl, e_r5⟩ := hp9
  refine W.eq (g2 := F0 m 8 ls [.int (aboutS fa sn v.toNatClampNeg w.toNatClampNeg), .int 0, .ref ou]) (congrArg (fun z9 : Int32 => F0 m 8 ls [.int z9, .int 0, .ref ou]) (show (r5 : Int32) = aboutS fa sn v.toNatClampNeg w.toNatClampNeg from e_r5.2)) ?_
  refine lv_i2l (v := (aboutS fa sn v.toNatClampNeg w.toNatClampNeg).toInt64) hx hb dL_about_8 rfl ?_
  refine z_last X J 18 Fa4 (vp_in_nI (n := 0) (by decide) (by decide)) dL_about_9 (fun H locs J => ?_)
  rw [show vp_updL o9 (0 : Int32).toNatClampNeg ((aboutS fa sn v.toNatClampNeg w.toNatClampNeg).toInt64) = vp_updL o9 0 ((aboutS fa sn v.toNatClampNeg w.toNatClampNeg).toInt64) from rfl] at J
  have hk := hk.trans (zK.set (ws := ws) (q := 18) (e := (ou, zL4 E 1 (vp_updL o9 0 ((aboutS fa sn v.toNatClampNeg w.toNatClampNeg).toInt64)))) (by simp))
  have G2_0 := zset_ne (q := 18) (e' := (ou, zL4 E 1 (vp_updL o9 0 ((aboutS fa sn v.toNatClampNeg w.toNatClampNeg).toInt64)))) (by decide) Fa0
  have G2_1 := zset_ne (q := 18) (e' := (ou, zL4 E 1 (vp_updL o9 0 ((aboutS fa sn v.toNatClampNeg w.toNatClampNeg).toInt64)))) (by decide) Fa1
  have G2_2 := zset_ne (q := 18) (e' := (ou, zL4 E 1 (vp_updL o9 0 ((aboutS fa sn v.toNatClampNeg w.toNatClampNeg).toInt64)))) (by decide) Fa2
  have G2_3 := zset_ne (q := 18) (e' := (ou, zL4 E 1 (vp_updL o9 0 ((aboutS fa sn v.toNatClampNeg w.toNatClampNeg).toInt64)))) (by decide) Fa3
  have G2_4 := zset_eq (e' := (ou, zL4 E 1 (vp_updL o9 0 ((aboutS fa sn v.toNatClampNeg w.toNatClampNeg).toInt64)))) Fa4
  generalize hws2 : (ws.set 18 (ou, zL4 E 1 (vp_updL o9 0 ((aboutS fa sn v.toNatClampNeg w.toNatClampNeg).toInt64)))) = ws_2 at J hk G2_0 G2_1 G2_2 G2_3 G2_4
  refine lv_goto (tgt := 17) hx hb dL_about_10 (by decide) ?_
  refine lv_iconst (v := 0) hx hb dL_about_17 (by decide) ?_
  subst hQ
  refine vx_ret ?_
  exact W.iret (v := 0) hx hb hr (fun t ht hW => ⟨⟨0, ws_2, rfl, Or.inr ⟨rfl, e_r5.1, ⟨hk, G2_4⟩⟩, J.I X ht hW.alike⟩, J.F ht⟩) J.locs dL_about_18
set_option maxHeartbeats 400000 in
set_option maxRecDepth 100000 in
theorem cL_told_ok (l : Launch) (hflags : l.flags = flags0) (E : zG) {ws : va_W} {x fl rl wh gr gra tr sc eb nr : Nat} {mc2 lim sup off plo hrs : Int32} {rd ri sn : Nat → Int32} {ou : Nat} {o9 : Nat → Int64} {v w : Int32} (Fa0 : ws[0]? = some (x, .inr (7, [.ref fl, .ref rl, .ref wh, .ref gr, .ref tr, .ref sc, .int lim, .int sup, .int off, .int plo, .int hrs]))) (Fa1 : ws[2]? = some (rl, .inr (0, [.int mc2, .ref eb, .int (nI nr)]))) (Fa2 : ws[4]? = some (gr, .inr (2, [.ref gra]))) (Fa3 : ws[5]? = some (gra, zI4 E 400 sn)) (Fa4 : ws[18]? = some (ou, zL4 E 1 o9)) (hR : RS E ws rd ri eb nr) (hnr : nr ≤ 4) (hor : ∀ q, q < nr → okR rd ri q) : vx_Met l yL_told wsL_told ({ frames := 8, cells := 6, slots := 40, locals := 126 } : Room) (va_Pc [.ref x, .int v, .int w, .ref ou] (zV E ws)) (va_Qi (fun (r : Int32) (ws' : va_W) => (r = (kAsk v (nI nr) w 4) ∧ ¬ (kAsk v (nI nr) w 4) = 0 ∧ ws = ws') ∨ (r = 0 ∧ (kAsk v (nI nr) w 4) = 0 ∧ (zK [18] ws ws') ∧ (ws'[18]? = some (ou, zL4 E 1 (vp_updL o9 0 (toldS sn rd ri lim v.toNatClampNeg w).toInt64))))) (zI E) (zA E)) (zX E ws (fun nm => False)) 6 40 (zA E) := by
  refine vx_ofWH (cc := cL_told) (maxL := 5) (ret := (some .int)) (hh := [(0, 10, 13, 15)]) (by decide) rfl ?_
  intro p e s m args below meth c s₁ B hml hv
  obtain ⟨hargs9, hI, hRz, hNz⟩ := hv
  have hx := B.exec
  have hb := B.bytes
  have hr := B.returns
  have hlocks := B.notSynchronized
  have X : zC E p m c cL_told 5 s args wsL_told RL := z_open B hml hI
  have hown := X.1.2.2.2.1
  have hts := X.1.2.2.2.2
  have htb9 : c.exceptionTable.toList = tableOf [(0, 10, 13, 15)] := vx_table (x := yL_told) B (hts _ List.mem_cons_self)
  have J := hI.J
  have hk : zK [18] ws ws := zK.rf
  have hl := lv_entry ([.ref x, .int v, .int w, .ref ou]) (n := 5) (Nat.le_of_ble_eq_true rfl)
  rw [show entryFrame m args 5 = entryFrame m ([.ref x, .int v, .int w, .ref ou] : List Value).toArray 5 from by rw [hargs9], lg_entry_eq]
  generalize (lg_sl ([.ref x, .int v, .int w, .ref ou]) ++ List.replicate (5 - (lg_sl ([.ref x, .int v, .int w, .ref ou])).length) Slot.unset).toArray = ls at hl ⊢
  have hl : lv_has ls 5 [(0, .ref x), (1, .int v), (2, .int w), (3, .ref ou)] := hl
  generalize hQ : (vx_MQ below (va_Qi (fun (r : Int32) (ws' : va_W) => (r = (kAsk v (nI nr) w 4) ∧ ¬ (kAsk v (nI nr) w 4) = 0 ∧ ws = ws') ∨ (r = 0 ∧ (kAsk v (nI nr) w 4) = 0 ∧ (zK [18] ws ws') ∧ (ws'[18]? = some (ou, zL4 E 1 (vp_updL o9 0 (toldS sn rd ri lim v.toNatClampNeg w).toInt64))))) (zI E) (zA E)) (zX E ws (fun nm => False)) args s 6 40 (zA E)) = QQ
  refine lv_aload_n hx hb dL_told_0 rfl (lv_at hl 3 rfl) ?_
  refine lv_iconst (v := 0) hx hb dL_told_1 (by decide) ?_
  refine lv_aload_n hx hb dL_told_2 rfl (lv_at hl 0 rfl) ?_
  refine lv_iload_n hx hb dL_told_3 rfl (lv_at hl 1 rfl) ?_
  refine lv_iload_n hx hb dL_told_4 rfl (lv_at hl 2 rfl) ?_
  refine z_xi J (z_yV (As := [.int v, .int w]) (rest := [.int 0, .ref ou]) (ci := 7) (q0 := 0) X hRz J (cX6_told_ok l hflags E Fa0 Fa1 Fa2 Fa3 (by first | assumption | omega | decide) (by first | assumption | omega | decide) (by first | assumption | omega | decide)) (cwV 2 hts gL_told_X6_told rfl rfl rfl (by decide +kernel) ⟨Nat.le_of_ble_eq_true rfl, Nat.le_of_ble_eq_true rfl⟩) Fa0 rfl rfl rfl hl.1 rfl (Nat.le_of_ble_eq_true rfl) dL_told_5 ⟨Nat.le_of_ble_eq_true rfl, Nat.le_of_ble_eq_true rfl⟩) (fun nm ce q9 H locs hp9 J h1 h2 h3 => ?_) (fun r5 ws_1 H locs hp9 J => ?_)
  · obtain ⟨hK9, rfl⟩ := hp9
    refine vx_catch (own := RL) (name := "java/lang/IndexOutOfBoundsException") hown [] (⟨0, 10, 13, 15⟩ : ExceptionTableEntry) [] (htb9.trans rfl) (fun _ h9 => absurd h9 List.not_mem_nil) (by decide) (by decide) (hts (.classLink RL 15 "java/lang/IndexOutOfBoundsException") (by decide +kernel)) (va_Nw.use rfl hRz.2.2.1) h1 h2 h3 ?_
    refine lv_astore (lv' := [(4, .ref q9), (0, .ref x), (1, .int v), (2, .int w), (3, .ref ou)]) hx hb dL_told_13 hl (by decide) rfl (fun ls hl => ?_)
    refine lv_iconst (v := 1) hx hb dL_told_15 (by decide) ?_
    subst hQ
    refine vx_ret ?_
    exact W.iret (v := 1) hx hb hr (fun t ht hW => ⟨⟨1, ws, rfl, Or.inl ⟨hK9.symm, by rw [hK9]; decide, rfl⟩, J.I X ht hW.alike⟩, J.F ht⟩) J.locs dL_told_16
  obtain ⟨rfl, e_r5⟩ := hp9
  refine W.eq (g2 := F0 m 8 ls [.int (toldS sn rd ri lim v.toNatClampNeg w), .int 0, .ref ou]) (congrArg (fun z9 : Int32 => F0 m 8 ls [.int z9, .int 0, .ref ou]) (show (r5 : Int32) = toldS sn rd ri lim v.toNatClampNeg w from e_r5.2)) ?_
  refine lv_i2l (v := (toldS sn rd ri lim v.toNatClampNeg w).toInt64) hx hb dL_told_8 rfl ?_
  refine z_last X J 18 Fa4 (vp_in_nI (n := 0) (by decide) (by decide)) dL_told_9 (fun H locs J => ?_)
  rw [show vp_updL o9 (0 : Int32).toNatClampNeg ((toldS sn rd ri lim v.toNatClampNeg w).toInt64) = vp_updL o9 0 ((toldS sn rd ri lim v.toNatClampNeg w).toInt64) from rfl] at J
  have hk := hk.trans (zK.set (ws := ws) (q := 18) (e := (ou, zL4 E 1 (vp_updL o9 0 ((toldS sn rd ri lim v.toNatClampNeg w).toInt64)))) (by simp))
  have G2_0 := zset_ne (q := 18) (e' := (ou, zL4 E 1 (vp_updL o9 0 ((toldS sn rd ri lim v.toNatClampNeg w).toInt64)))) (by decide) Fa0
  have G2_1 := zset_ne (q := 18) (e' := (ou, zL4 E 1 (vp_updL o9 0 ((toldS sn rd ri lim v.toNatClampNeg w).toInt64)))) (by decide) Fa1
  have G2_2 := zset_ne (q := 18) (e' := (ou, zL4 E 1 (vp_updL o9 0 ((toldS sn rd ri lim v.toNatClampNeg w).toInt64)))) (by decide) Fa2
  have G2_3 := zset_ne (q := 18) (e' := (ou, zL4 E 1 (vp_updL o9 0 ((toldS sn rd ri lim v.toNatClampNeg w).toInt64)))) (by decide) Fa3
  have G2_4 := zset_eq (e' := (ou, zL4 E 1 (vp_updL o9 0 ((toldS sn rd ri lim v.toNatClampNeg w).toInt64)))) Fa4
  generalize hws2 : (ws.set 18 (ou, zL4 E 1 (vp_updL o9 0 ((toldS sn rd ri lim v.toNatClampNeg w).toInt64)))) = ws_2 at J hk G2_0 G2_1 G2_2 G2_3 G2_4
  refine lv_goto (tgt := 17) hx hb dL_told_10 (by decide) ?_
  refine lv_iconst (v := 0) hx hb dL_told_17 (by decide) ?_
  subst hQ
  refine vx_ret ?_
  exact W.iret (v := 0) hx hb hr (fun t ht hW => ⟨⟨0, ws_2, rfl, Or.inr ⟨rfl, e_r5.1, ⟨hk, G2_4⟩⟩, J.I X ht hW.alike⟩, J.F ht⟩) J.locs dL_told_18
set_option maxHeartbeats 400000 in
set_option maxRecDepth 100000 in
theorem cL_count_ok (l : Launch) (hflags : l.flags = flags0) (E : zG) {ws : va_W} {x fl rl wh gr gra tr sc ea eb nf nr : Nat} {mc1 mc2 lim sup off plo hrs : Int32} {rd ri sn : Nat → Int32} {ou : Nat} {o9 : Nat → Int64} {w : Int32} (Fa0 : ws[0]? = some (x, .inr (7, [.ref fl, .ref rl, .ref wh, .ref gr, .ref tr, .ref sc, .int lim, .int sup, .int off, .int plo, .int hrs]))) (Fa1 : ws[1]? = some (fl, .inr (0, [.int mc1, .ref ea, .int (nI nf)]))) (Fa2 : ws[2]? = some (rl, .inr (0, [.int mc2, .ref eb, .int (nI nr)]))) (Fa3 : ws[3]? = some (wh, .inr (5, [.int (0 * 20 + 0), .int (nI 400), .int 0]))) (Fa4 : ws[4]? = some (gr, .inr (2, [.ref gra]))) (Fa5 : ws[5]? = some (gra, zI4 E 400 sn)) (Fa6 : ws[18]? = some (ou, zL4 E 1 o9)) (hR : RS E ws rd ri eb nr) (hnr : nr ≤ 4) : vx_Met l yL_count wsL_count ({ frames := 8, cells := 6, slots := 40, locals := 124 } : Room) (va_Pc [.ref x, .int w, .ref ou] (zV E ws)) (va_Qi (fun (r : Int32) (ws' : va_W) => (r = (kCount w) ∧ ¬ (kCount w) = 0 ∧ ws = ws') ∨ (r = 0 ∧ (kCount w) = 0 ∧ (zK [18] ws ws') ∧ (ws'[18]? = some (ou, zL4 E 1 (vp_updL o9 0 (countS (nI nf) (nI nr) lim sup off plo hrs sn rd ri nr w).toInt64))))) (zI E) (zA E)) (zX E ws (fun nm => False)) 6 40 (zA E) := by
  refine vx_ofWH (cc := cL_count) (maxL := 4) (ret := (some .int)) (hh := [(0, 9, 12, 15)]) (by decide) rfl ?_
  intro p e s m args below meth c s₁ B hml hv
  obtain ⟨hargs9, hI, hRz, hNz⟩ := hv
  have hx := B.exec
  have hb := B.bytes
  have hr := B.returns
  have hlocks := B.notSynchronized
  have X : zC E p m c cL_count 4 s args wsL_count RL := z_open B hml hI
  have hown := X.1.2.2.2.1
  have hts := X.1.2.2.2.2
  have htb9 : c.exceptionTable.toList = tableOf [(0, 9, 12, 15)] := vx_table (x := yL_count) B (hts _ List.mem_cons_self)
  have J := hI.J
  have hk : zK [18] ws ws := zK.rf
  have hl := lv_entry ([.ref x, .int w, .ref ou]) (n := 4) (Nat.le_of_ble_eq_true rfl)
  rw [show entryFrame m args 4 = entryFrame m ([.ref x, .int w, .ref ou] : List Value).toArray 4 from by rw [hargs9], lg_entry_eq]
  generalize (lg_sl ([.ref x, .int w, .ref ou]) ++ List.replicate (4 - (lg_sl ([.ref x, .int w, .ref ou])).length) Slot.unset).toArray = ls at hl ⊢
  have hl : lv_has ls 4 [(0, .ref x), (1, .int w), (2, .ref ou)] := hl
  generalize hQ : (vx_MQ below (va_Qi (fun (r : Int32) (ws' : va_W) => (r = (kCount w) ∧ ¬ (kCount w) = 0 ∧ ws = ws') ∨ (r = 0 ∧ (kCount w) = 0 ∧ (zK [18] ws ws') ∧ (ws'[18]? = some (ou, zL4 E 1 (vp_updL o9 0 (countS (nI nf) (nI nr) lim sup off plo hrs sn rd ri nr w).toInt64))))) (zI E) (zA E)) (zX E ws (fun nm => False)) args s 6 40 (zA E)) = QQ
  refine lv_aload_n hx hb dL_count_0 rfl (lv_at hl 2 rfl) ?_
  refine lv_iconst (v := 0) hx hb dL_count_1 (by decide) ?_
  refine lv_aload_n hx hb dL_count_2 rfl (lv_at hl 0 rfl) ?_
  refine lv_iload_n hx hb dL_count_3 rfl (lv_at hl 1 rfl) ?_
  refine z_xi J (z_yV (As := [.int w]) (rest := [.int 0, .ref ou]) (ci := 7) (q0 := 0) X hRz J (cX6_count_ok l hflags E Fa0 Fa1 Fa2 Fa3 Fa4 Fa5 (by first | assumption | omega | decide) (by first | assumption | omega | decide)) (cwV 1 hts gL_count_X6_count rfl rfl rfl (by decide +kernel) ⟨Nat.le_of_ble_eq_true rfl, Nat.le_of_ble_eq_true rfl⟩) Fa0 rfl rfl rfl hl.1 rfl (Nat.le_of_ble_eq_true rfl) dL_count_4 ⟨Nat.le_of_ble_eq_true rfl, Nat.le_of_ble_eq_true rfl⟩) (fun nm ce q9 H locs hp9 J h1 h2 h3 => ?_) (fun r4 ws_1 H locs hp9 J => ?_)
  · obtain ⟨hK9, rfl⟩ := hp9
    refine vx_catch (own := RL) (name := "java/lang/IndexOutOfBoundsException") hown [] (⟨0, 9, 12, 15⟩ : ExceptionTableEntry) [] (htb9.trans rfl) (fun _ h9 => absurd h9 List.not_mem_nil) (by decide) (by decide) (hts (.classLink RL 15 "java/lang/IndexOutOfBoundsException") (by decide +kernel)) (va_Nw.use rfl hRz.2.2.1) h1 h2 h3 ?_
    refine lv_astore_n (lv' := [(3, .ref q9), (0, .ref x), (1, .int w), (2, .ref ou)]) hx hb dL_count_12 rfl hl (by decide) rfl (fun ls hl => ?_)
    refine lv_iconst (v := 1) hx hb dL_count_13 (by decide) ?_
    subst hQ
    refine vx_ret ?_
    exact W.iret (v := 1) hx hb hr (fun t ht hW => ⟨⟨1, ws, rfl, Or.inl ⟨hK9.symm, by rw [hK9]; decide, rfl⟩, J.I X ht hW.alike⟩, J.F ht⟩) J.locs dL_count_14
  obtain ⟨rfl, e_r4⟩ := hp9
  refine W.eq (g2 := F0 m 7 ls [.int (countS (nI nf) (nI nr) lim sup off plo hrs sn rd ri nr w), .int 0, .ref ou]) (congrArg (fun z9 : Int32 => F0 m 7 ls [.int z9, .int 0, .ref ou]) (show (r4 : Int32) = countS (nI nf) (nI nr) lim sup off plo hrs sn rd ri nr w from e_r4.2)) ?_
  refine lv_i2l (v := (countS (nI nf) (nI nr) lim sup off plo hrs sn rd ri nr w).toInt64) hx hb dL_count_7 rfl ?_
  refine z_last X J 18 Fa6 (vp_in_nI (n := 0) (by decide) (by decide)) dL_count_8 (fun H locs J => ?_)
  rw [show vp_updL o9 (0 : Int32).toNatClampNeg ((countS (nI nf) (nI nr) lim sup off plo hrs sn rd ri nr w).toInt64) = vp_updL o9 0 ((countS (nI nf) (nI nr) lim sup off plo hrs sn rd ri nr w).toInt64) from rfl] at J
  have hk := hk.trans (zK.set (ws := ws) (q := 18) (e := (ou, zL4 E 1 (vp_updL o9 0 ((countS (nI nf) (nI nr) lim sup off plo hrs sn rd ri nr w).toInt64)))) (by simp))
  have G2_0 := zset_ne (q := 18) (e' := (ou, zL4 E 1 (vp_updL o9 0 ((countS (nI nf) (nI nr) lim sup off plo hrs sn rd ri nr w).toInt64)))) (by decide) Fa0
  have G2_1 := zset_ne (q := 18) (e' := (ou, zL4 E 1 (vp_updL o9 0 ((countS (nI nf) (nI nr) lim sup off plo hrs sn rd ri nr w).toInt64)))) (by decide) Fa1
  have G2_2 := zset_ne (q := 18) (e' := (ou, zL4 E 1 (vp_updL o9 0 ((countS (nI nf) (nI nr) lim sup off plo hrs sn rd ri nr w).toInt64)))) (by decide) Fa2
  have G2_3 := zset_ne (q := 18) (e' := (ou, zL4 E 1 (vp_updL o9 0 ((countS (nI nf) (nI nr) lim sup off plo hrs sn rd ri nr w).toInt64)))) (by decide) Fa3
  have G2_4 := zset_ne (q := 18) (e' := (ou, zL4 E 1 (vp_updL o9 0 ((countS (nI nf) (nI nr) lim sup off plo hrs sn rd ri nr w).toInt64)))) (by decide) Fa4
  have G2_5 := zset_ne (q := 18) (e' := (ou, zL4 E 1 (vp_updL o9 0 ((countS (nI nf) (nI nr) lim sup off plo hrs sn rd ri nr w).toInt64)))) (by decide) Fa5
  have G2_6 := zset_eq (e' := (ou, zL4 E 1 (vp_updL o9 0 ((countS (nI nf) (nI nr) lim sup off plo hrs sn rd ri nr w).toInt64)))) Fa6
  generalize hws2 : (ws.set 18 (ou, zL4 E 1 (vp_updL o9 0 ((countS (nI nf) (nI nr) lim sup off plo hrs sn rd ri nr w).toInt64)))) = ws_2 at J hk G2_0 G2_1 G2_2 G2_3 G2_4 G2_5 G2_6
  refine lv_goto (tgt := 15) hx hb dL_count_9 (by decide) ?_
  refine lv_iconst (v := 0) hx hb dL_count_15 (by decide) ?_
  subst hQ
  refine vx_ret ?_
  exact W.iret (v := 0) hx hb hr (fun t ht hW => ⟨⟨0, ws_2, rfl, Or.inr ⟨rfl, e_r4.1, ⟨hk, G2_6⟩⟩, J.I X ht hW.alike⟩, J.F ht⟩) J.locs dL_count_16
set_option maxHeartbeats 400000 in
set_option maxRecDepth 100000 in
theorem cL_plough_ok (l : Launch) (hflags : l.flags = flags0) (E : zG) {ws : va_W} {x fl rl wh gr gra tr sc eb nr : Nat} {mc2 lim sup off plo hrs : Int32} {rd ri sn : Nat → Int32} {ou : Nat} {o9 : Nat → Int64} {v : Int32} (Fa0 : ws[0]? = some (x, .inr (7, [.ref fl, .ref rl, .ref wh, .ref gr, .ref tr, .ref sc, .int lim, .int sup, .int off, .int plo, .int hrs]))) (Fa1 : ws[2]? = some (rl, .inr (0, [.int mc2, .ref eb, .int (nI nr)]))) (Fa2 : ws[4]? = some (gr, .inr (2, [.ref gra]))) (Fa3 : ws[5]? = some (gra, zI4 E 400 sn)) (Fa4 : ws[18]? = some (ou, zL4 E 1 o9)) (hR : RS E ws rd ri eb nr) (hnr : nr ≤ 4) : vx_Met l yL_plough wsL_plough ({ frames := 8, cells := 6, slots := 40, locals := 126 } : Room) (va_Pc [.ref x, .int v, .ref ou] (zV E ws)) (va_Qi (fun (r : Int32) (ws' : va_W) => (r = (kIdx v (nI nr)) ∧ ¬ (kIdx v (nI nr)) = 0 ∧ ws = ws') ∨ (r = 0 ∧ (kIdx v (nI nr)) = 0 ∧ (zK [0, 5, 18] ws ws') ∧ (ws'[0]? = some (x, .inr (7, [.ref fl, .ref rl, .ref wh, .ref gr, .ref tr, .ref sc, .int lim, .int sup, .int off, .int (plo + sumG sn (rfi (rd v.toNatClampNeg) (ri v.toNatClampNeg)) (rd v.toNatClampNeg) 20), .int hrs]))) ∧ (ws'[5]? = some (gra, zI4 E 400 (clrG sn (rfi (rd v.toNatClampNeg) (ri v.toNatClampNeg)) (rd v.toNatClampNeg) 20))) ∧ (ws'[18]? = some (ou, zL4 E 1 (vp_updL o9 0 (sumG sn (rfi (rd v.toNatClampNeg) (ri v.toNatClampNeg)) (rd v.toNatClampNeg) 20).toInt64))))) (zI E) (zA E)) (zX E ws (fun nm => False)) 6 40 (zA E) := by
  refine vx_ofWH (cc := cL_plough) (maxL := 4) (ret := (some .int)) (hh := [(0, 9, 12, 15)]) (by decide) rfl ?_
  intro p e s m args below meth c s₁ B hml hv
  obtain ⟨hargs9, hI, hRz, hNz⟩ := hv
  have hx := B.exec
  have hb := B.bytes
  have hr := B.returns
  have hlocks := B.notSynchronized
  have X : zC E p m c cL_plough 4 s args wsL_plough RL := z_open B hml hI
  have hown := X.1.2.2.2.1
  have hts := X.1.2.2.2.2
  have htb9 : c.exceptionTable.toList = tableOf [(0, 9, 12, 15)] := vx_table (x := yL_plough) B (hts _ List.mem_cons_self)
  have J := hI.J
  have hk : zK [0, 5, 18] ws ws := zK.rf
  have hl := lv_entry ([.ref x, .int v, .ref ou]) (n := 4) (Nat.le_of_ble_eq_true rfl)
  rw [show entryFrame m args 4 = entryFrame m ([.ref x, .int v, .ref ou] : List Value).toArray 4 from by rw [hargs9], lg_entry_eq]
  generalize (lg_sl ([.ref x, .int v, .ref ou]) ++ List.replicate (4 - (lg_sl ([.ref x, .int v, .ref ou])).length) Slot.unset).toArray = ls at hl ⊢
  have hl : lv_has ls 4 [(0, .ref x), (1, .int v), (2, .ref ou)] := hl
  generalize hQ : (vx_MQ below (va_Qi (fun (r : Int32) (ws' : va_W) => (r = (kIdx v (nI nr)) ∧ ¬ (kIdx v (nI nr)) = 0 ∧ ws = ws') ∨ (r = 0 ∧ (kIdx v (nI nr)) = 0 ∧ (zK [0, 5, 18] ws ws') ∧ (ws'[0]? = some (x, .inr (7, [.ref fl, .ref rl, .ref wh, .ref gr, .ref tr, .ref sc, .int lim, .int sup, .int off, .int (plo + sumG sn (rfi (rd v.toNatClampNeg) (ri v.toNatClampNeg)) (rd v.toNatClampNeg) 20), .int hrs]))) ∧ (ws'[5]? = some (gra, zI4 E 400 (clrG sn (rfi (rd v.toNatClampNeg) (ri v.toNatClampNeg)) (rd v.toNatClampNeg) 20))) ∧ (ws'[18]? = some (ou, zL4 E 1 (vp_updL o9 0 (sumG sn (rfi (rd v.toNatClampNeg) (ri v.toNatClampNeg)) (rd v.toNatClampNeg) 20).toInt64))))) (zI E) (zA E)) (zX E ws (fun nm => False)) args s 6 40 (zA E)) = QQ
  refine lv_aload_n hx hb dL_plough_0 rfl (lv_at hl 2 rfl) ?_
  refine lv_iconst (v := 0) hx hb dL_plough_1 (by decide) ?_
  refine lv_aload_n hx hb dL_plough_2 rfl (lv_at hl 0 rfl) ?_
  refine lv_iload_n hx hb dL_plough_3 rfl (lv_at hl 1 rfl) ?_
  refine z_xi J (z_yV (As := [.int v]) (rest := [.int 0, .ref ou]) (ci := 7) (q0 := 0) X hRz J (cX6_plough_ok l hflags E Fa0 Fa1 Fa2 Fa3 (by first | assumption | omega | decide) (by first | assumption | omega | decide)) (cwV 1 hts gL_plough_X6_plough rfl rfl rfl (by decide +kernel) ⟨Nat.le_of_ble_eq_true rfl, Nat.le_of_ble_eq_true rfl⟩) Fa0 rfl rfl rfl hl.1 rfl (Nat.le_of_ble_eq_true rfl) dL_plough_4 ⟨Nat.le_of_ble_eq_true rfl, Nat.le_of_ble_eq_true rfl⟩) (fun nm ce q9 H locs hp9 J h1 h2 h3 => ?_) (fun r4 ws_1 H locs hp9 J => ?_)
  · obtain ⟨hK9, rfl⟩ := hp9
    refine vx_catch (own := RL) (name := "java/lang/IndexOutOfBoundsException") hown [] (⟨0, 9, 12, 15⟩ : ExceptionTableEntry) [] (htb9.trans rfl) (fun _ h9 => absurd h9 List.not_mem_nil) (by decide) (by decide) (hts (.classLink RL 15 "java/lang/IndexOutOfBoundsException") (by decide +kernel)) (va_Nw.use rfl hRz.2.2.1) h1 h2 h3 ?_
    refine lv_astore_n (lv' := [(3, .ref q9), (0, .ref x), (1, .int v), (2, .ref ou)]) hx hb dL_plough_12 rfl hl (by decide) rfl (fun ls hl => ?_)
    refine lv_iconst (v := 1) hx hb dL_plough_13 (by decide) ?_
    subst hQ
    refine vx_ret ?_
    exact W.iret (v := 1) hx hb hr (fun t ht hW => ⟨⟨1, ws, rfl, Or.inl ⟨hK9.symm, by rw [hK9]; decide, rfl⟩, J.I X ht hW.alike⟩, J.F ht⟩) J.locs dL_plough_14
  obtain ⟨k1, G1_a0, G1_a1, e_r4⟩ := hp9
  have hk := hk.trans (k1.mono (by decide))
  have G1_1 := k1.2 2 _ (by decide) Fa1
  have G1_2 := k1.2 4 _ (by decide) Fa2
  have G1_4 := k1.2 18 _ (by decide) Fa4
  refine W.eq (g2 := F0 m 7 ls [.int (sumG sn (rfi (rd v.toNatClampNeg) (ri v.toNatClampNeg)) (rd v.toNatClampNeg) 20), .int 0, .ref ou]) (congrArg (fun z9 : Int32 => F0 m 7 ls [.int z9, .int 0, .ref ou]) (show (r4 : Int32) = sumG sn (rfi (rd v.toNatClampNeg) (ri v.toNatClampNeg)) (rd v.toNatClampNeg) 20 from e_r4.2)) ?_
  refine lv_i2l (v := (sumG sn (rfi (rd v.toNatClampNeg) (ri v.toNatClampNeg)) (rd v.toNatClampNeg) 20).toInt64) hx hb dL_plough_7 rfl ?_
  refine z_last X J 18 G1_4 (vp_in_nI (n := 0) (by decide) (by decide)) dL_plough_8 (fun H locs J => ?_)
  rw [show vp_updL o9 (0 : Int32).toNatClampNeg ((sumG sn (rfi (rd v.toNatClampNeg) (ri v.toNatClampNeg)) (rd v.toNatClampNeg) 20).toInt64) = vp_updL o9 0 ((sumG sn (rfi (rd v.toNatClampNeg) (ri v.toNatClampNeg)) (rd v.toNatClampNeg) 20).toInt64) from rfl] at J
  have hk := hk.trans (zK.set (ws := ws_1) (q := 18) (e := (ou, zL4 E 1 (vp_updL o9 0 ((sumG sn (rfi (rd v.toNatClampNeg) (ri v.toNatClampNeg)) (rd v.toNatClampNeg) 20).toInt64)))) (by simp))
  have G2_0 := zset_ne (q := 18) (e' := (ou, zL4 E 1 (vp_updL o9 0 ((sumG sn (rfi (rd v.toNatClampNeg) (ri v.toNatClampNeg)) (rd v.toNatClampNeg) 20).toInt64)))) (by decide) G1_a0
  have G2_1 := zset_ne (q := 18) (e' := (ou, zL4 E 1 (vp_updL o9 0 ((sumG sn (rfi (rd v.toNatClampNeg) (ri v.toNatClampNeg)) (rd v.toNatClampNeg) 20).toInt64)))) (by decide) G1_1
  have G2_2 := zset_ne (q := 18) (e' := (ou, zL4 E 1 (vp_updL o9 0 ((sumG sn (rfi (rd v.toNatClampNeg) (ri v.toNatClampNeg)) (rd v.toNatClampNeg) 20).toInt64)))) (by decide) G1_2
  have G2_3 := zset_ne (q := 18) (e' := (ou, zL4 E 1 (vp_updL o9 0 ((sumG sn (rfi (rd v.toNatClampNeg) (ri v.toNatClampNeg)) (rd v.toNatClampNeg) 20).toInt64)))) (by decide) G1_a1
  have G2_4 := zset_eq (e' := (ou, zL4 E 1 (vp_updL o9 0 ((sumG sn (rfi (rd v.toNatClampNeg) (ri v.toNatClampNeg)) (rd v.toNatClampNeg) 20).toInt64)))) G1_4
  generalize hws2 : (ws_1.set 18 (ou, zL4 E 1 (vp_updL o9 0 ((sumG sn (rfi (rd v.toNatClampNeg) (ri v.toNatClampNeg)) (rd v.toNatClampNeg) 20).toInt64)))) = ws_2 at J hk G2_0 G2_1 G2_2 G2_3 G2_4
  refine lv_goto (tgt := 15) hx hb dL_plough_9 (by decide) ?_
  refine lv_iconst (v := 0) hx hb dL_plough_15 (by decide) ?_
  subst hQ
  refine vx_ret ?_
  exact W.iret (v := 0) hx hb hr (fun t ht hW => ⟨⟨0, ws_2, rfl, Or.inr ⟨rfl, e_r4.1, ⟨hk, G2_0, G2_3, G2_4⟩⟩, J.I X ht hW.alike⟩, J.F ht⟩) J.locs dL_plough_16
set_option maxHeartbeats 400000 in
set_option maxRecDepth 100000 in
theorem cL_blow_ok (l : Launch) (hflags : l.flags = flags0) (E : zG) {ws : va_W} {x fl rl wh gr gra tr sc ha va ea nf : Nat} {mc1 lim sup off plo hrs : Int32} {fa sn hf gf : Nat → Int32} {ou : Nat} {o9 : Nat → Int64} {wd stg du : Int32} (Fa0 : ws[0]? = some (x, .inr (7, [.ref fl, .ref rl, .ref wh, .ref gr, .ref tr, .ref sc, .int lim, .int sup, .int off, .int plo, .int hrs]))) (Fa1 : ws[1]? = some (fl, .inr (0, [.int mc1, .ref ea, .int (nI nf)]))) (Fa2 : ws[4]? = some (gr, .inr (2, [.ref gra]))) (Fa3 : ws[5]? = some (gra, zI4 E 400 sn)) (Fa4 : ws[8]? = some (sc, .inr (4, [.ref ha, .ref va]))) (Fa5 : ws[9]? = some (ha, zI4 E 400 hf)) (Fa6 : ws[10]? = some (va, zI4 E 400 gf)) (Fa7 : ws[18]? = some (ou, zL4 E 1 o9)) (hF : FS E ws fa ea nf) (hnf : nf ≤ 10) (hok : ∀ j, j < nf → okF fa j) : vx_Met l yL_blow wsL_blow ({ frames := 9, cells := 12, slots := 80, locals := 157 } : Room) (va_Pc [.ref x, .int wd, .int stg, .int du, .ref ou] (zV E ws)) (va_Qi (fun (r : Int32) (ws' : va_W) => (r = (kBlow wd stg du) ∧ ¬ (kBlow wd stg du) = 0 ∧ ws = ws') ∨ (r = 0 ∧ (kBlow wd stg du) = 0 ∧ (zK [0, 5, 9, 10, 18] ws ws') ∧ (ws'[0]? = some (x, .inr (7, [.ref fl, .ref rl, .ref wh, .ref gr, .ref tr, .ref sc, .int lim, .int sup, .int (off + (hsS stg sup (hgS fa (-1) nf).1 (hgS fa (-1) nf).2 wd sn du.toNatClampNeg).1), .int plo, .int (hrs + du)]))) ∧ (ws'[5]? = some (gra, zI4 E 400 ((hsS stg sup (hgS fa (-1) nf).1 (hgS fa (-1) nf).2 wd sn du.toNatClampNeg).2.1))) ∧ (ws'[9]? = some (ha, zI4 E 400 ((hgS fa (-1) nf).1))) ∧ (ws'[10]? = some (va, zI4 E 400 ((hgS fa (-1) nf).2))) ∧ (ws'[18]? = some (ou, zL4 E 1 (vp_updL o9 0 ((hsS stg sup (hgS fa (-1) nf).1 (hgS fa (-1) nf).2 wd sn du.toNatClampNeg).1).toInt64))))) (zI E) (zA E)) (zX E ws (fun nm => False)) 12 80 (zA E) := by
  refine vx_ofWH (cc := cL_blow) (maxL := 6) (ret := (some .int)) (hh := [(0, 12, 15, 15), (0, 12, 19, 13)]) (by decide) rfl ?_
  intro p e s m args below meth c s₁ B hml hv
  obtain ⟨hargs9, hI, hRz, hNz⟩ := hv
  have hx := B.exec
  have hb := B.bytes
  have hr := B.returns
  have hlocks := B.notSynchronized
  have X : zC E p m c cL_blow 6 s args wsL_blow RL := z_open B hml hI
  have hown := X.1.2.2.2.1
  have hts := X.1.2.2.2.2
  have htb9 : c.exceptionTable.toList = tableOf [(0, 12, 15, 15), (0, 12, 19, 13)] := vx_table (x := yL_blow) B (hts _ List.mem_cons_self)
  have J := hI.J
  have hk : zK [0, 5, 9, 10, 18] ws ws := zK.rf
  have hl := lv_entry ([.ref x, .int wd, .int stg, .int du, .ref ou]) (n := 6) (Nat.le_of_ble_eq_true rfl)
  rw [show entryFrame m args 6 = entryFrame m ([.ref x, .int wd, .int stg, .int du, .ref ou] : List Value).toArray 6 from by rw [hargs9], lg_entry_eq]
  generalize (lg_sl ([.ref x, .int wd, .int stg, .int du, .ref ou]) ++ List.replicate (6 - (lg_sl ([.ref x, .int wd, .int stg, .int du, .ref ou])).length) Slot.unset).toArray = ls at hl ⊢
  have hl : lv_has ls 6 [(0, .ref x), (1, .int wd), (2, .int stg), (3, .int du), (4, .ref ou)] := hl
  generalize hQ : (vx_MQ below (va_Qi (fun (r : Int32) (ws' : va_W) => (r = (kBlow wd stg du) ∧ ¬ (kBlow wd stg du) = 0 ∧ ws = ws') ∨ (r = 0 ∧ (kBlow wd stg du) = 0 ∧ (zK [0, 5, 9, 10, 18] ws ws') ∧ (ws'[0]? = some (x, .inr (7, [.ref fl, .ref rl, .ref wh, .ref gr, .ref tr, .ref sc, .int lim, .int sup, .int (off + (hsS stg sup (hgS fa (-1) nf).1 (hgS fa (-1) nf).2 wd sn du.toNatClampNeg).1), .int plo, .int (hrs + du)]))) ∧ (ws'[5]? = some (gra, zI4 E 400 ((hsS stg sup (hgS fa (-1) nf).1 (hgS fa (-1) nf).2 wd sn du.toNatClampNeg).2.1))) ∧ (ws'[9]? = some (ha, zI4 E 400 ((hgS fa (-1) nf).1))) ∧ (ws'[10]? = some (va, zI4 E 400 ((hgS fa (-1) nf).2))) ∧ (ws'[18]? = some (ou, zL4 E 1 (vp_updL o9 0 ((hsS stg sup (hgS fa (-1) nf).1 (hgS fa (-1) nf).2 wd sn du.toNatClampNeg).1).toInt64))))) (zI E) (zA E)) (zX E ws (fun nm => False)) args s 12 80 (zA E)) = QQ
  refine lv_aload hx hb dL_blow_0 (lv_at hl 4 rfl) ?_
  refine lv_iconst (v := 0) hx hb dL_blow_2 (by decide) ?_
  refine lv_aload_n hx hb dL_blow_3 rfl (lv_at hl 0 rfl) ?_
  refine lv_iload_n hx hb dL_blow_4 rfl (lv_at hl 1 rfl) ?_
  refine lv_iload_n hx hb dL_blow_5 rfl (lv_at hl 2 rfl) ?_
  refine lv_iload_n hx hb dL_blow_6 rfl (lv_at hl 3 rfl) ?_
  refine z_xi J (z_yV (As := [.int wd, .int stg, .int du]) (rest := [.int 0, .ref ou]) (ci := 7) (q0 := 0) X hRz J (cX6_blow_ok l hflags E Fa0 Fa1 Fa2 Fa3 Fa4 Fa5 Fa6 (by first | assumption | omega | decide) (by first | assumption | omega | decide) (by first | assumption | omega | decide)) (cwV 3 hts gL_blow_X6_blow rfl rfl rfl (by decide +kernel) ⟨Nat.le_of_ble_eq_true rfl, Nat.le_of_ble_eq_true rfl⟩) Fa0 rfl rfl rfl hl.1 rfl (Nat.le_of_ble_eq_true rfl) dL_blow_7 ⟨Nat.le_of_ble_eq_true rfl, Nat.le_of_ble_eq_true rfl⟩) (fun nm ce q9 H locs hp9 J h1 h2 h3 => ?_) (fun r7 ws_1 H locs hp9 J => ?_)
  · rcases hp9 with ⟨hK9, rfl⟩ | ⟨hK9, rfl⟩
    · refine vx_catch (own := RL) (name := "java/lang/IndexOutOfBoundsException") hown [] (⟨0, 12, 15, 15⟩ : ExceptionTableEntry) [(⟨0, 12, 19, 13⟩ : ExceptionTableEntry)] (htb9.trans rfl) (fun _ h9 => absurd h9 List.not_mem_nil) (by decide) (by decide) (hts (.classLink RL 15 "java/lang/IndexOutOfBoundsException") (by decide +kernel)) (va_Nw.use rfl hRz.2.2.1) h1 h2 h3 ?_
      refine lv_astore (lv' := [(5, .ref q9), (0, .ref x), (1, .int wd), (2, .int stg), (3, .int du), (4, .ref ou)]) hx hb dL_blow_15 hl (by decide) rfl (fun ls hl => ?_)
      refine lv_iconst (v := 1) hx hb dL_blow_17 (by decide) ?_
      subst hQ
      refine vx_ret ?_
      exact W.iret (v := 1) hx hb hr (fun t ht hW => ⟨⟨1, ws, rfl, Or.inl ⟨hK9.symm, by rw [hK9]; decide, rfl⟩, J.I X ht hW.alike⟩, J.F ht⟩) J.locs dL_blow_18
    · refine vx_catch (own := RL) (name := "java/lang/IllegalArgumentException") hown [(⟨0, 12, 15, 15⟩ : ExceptionTableEntry)] (⟨0, 12, 19, 13⟩ : ExceptionTableEntry) [] (htb9.trans rfl) (List.forall_mem_cons.mpr ⟨Or.inr ⟨by decide, "java/lang/IndexOutOfBoundsException", hts (.classLink RL 15 "java/lang/IndexOutOfBoundsException") (by decide +kernel), hNz.1⟩, (fun _ h9 => absurd h9 List.not_mem_nil)⟩) (by decide) (by decide) (hts (.classLink RL 13 "java/lang/IllegalArgumentException") (by decide +kernel)) (va_Nw.use rfl hRz.2.1) h1 h2 h3 ?_
      refine lv_astore (lv' := [(5, .ref q9), (0, .ref x), (1, .int wd), (2, .int stg), (3, .int du), (4, .ref ou)]) hx hb dL_blow_19 hl (by decide) rfl (fun ls hl => ?_)
      refine lv_iconst (v := 2) hx hb dL_blow_21 (by decide) ?_
      subst hQ
      refine vx_ret ?_
      exact W.iret (v := 2) hx hb hr (fun t ht hW => ⟨⟨2, ws, rfl, Or.inl ⟨hK9.symm, by rw [hK9]; decide, rfl⟩, J.I X ht hW.alike⟩, J.F ht⟩) J.locs dL_blow_22
  obtain ⟨k1, G1_a0, G1_a1, G1_a2, G1_a3, e_r7⟩ := hp9
  have hk := hk.trans (k1.mono (by decide))
  have G1_1 := k1.2 1 _ (by decide) Fa1
  have G1_2 := k1.2 4 _ (by decide) Fa2
  have G1_4 := k1.2 8 _ (by decide) Fa4
  have G1_7 := k1.2 18 _ (by decide) Fa7
  refine W.eq (g2 := F0 m 10 ls [.int ((hsS stg sup (hgS fa (-1) nf).1 (hgS fa (-1) nf).2 wd sn du.toNatClampNeg).1), .int 0, .ref ou]) (congrArg (fun z9 : Int32 => F0 m 10 ls [.int z9, .int 0, .ref ou]) (show (r7 : Int32) = (hsS stg sup (hgS fa (-1) nf).1 (hgS fa (-1) nf).2 wd sn du.toNatClampNeg).1 from e_r7.2)) ?_
  refine lv_i2l (v := ((hsS stg sup (hgS fa (-1) nf).1 (hgS fa (-1) nf).2 wd sn du.toNatClampNeg).1).toInt64) hx hb dL_blow_10 rfl ?_
  refine z_last X J 18 G1_7 (vp_in_nI (n := 0) (by decide) (by decide)) dL_blow_11 (fun H locs J => ?_)
  rw [show vp_updL o9 (0 : Int32).toNatClampNeg (((hsS stg sup (hgS fa (-1) nf).1 (hgS fa (-1) nf).2 wd sn du.toNatClampNeg).1).toInt64) = vp_updL o9 0 (((hsS stg sup (hgS fa (-1) nf).1 (hgS fa (-1) nf).2 wd sn du.toNatClampNeg).1).toInt64) from rfl] at J
  have hk := hk.trans (zK.set (ws := ws_1) (q := 18) (e := (ou, zL4 E 1 (vp_updL o9 0 (((hsS stg sup (hgS fa (-1) nf).1 (hgS fa (-1) nf).2 wd sn du.toNatClampNeg).1).toInt64)))) (by simp))
  have G2_0 := zset_ne (q := 18) (e' := (ou, zL4 E 1 (vp_updL o9 0 (((hsS stg sup (hgS fa (-1) nf).1 (hgS fa (-1) nf).2 wd sn du.toNatClampNeg).1).toInt64)))) (by decide) G1_a0
  have G2_1 := zset_ne (q := 18) (e' := (ou, zL4 E 1 (vp_updL o9 0 (((hsS stg sup (hgS fa (-1) nf).1 (hgS fa (-1) nf).2 wd sn du.toNatClampNeg).1).toInt64)))) (by decide) G1_1
  have G2_2 := zset_ne (q := 18) (e' := (ou, zL4 E 1 (vp_updL o9 0 (((hsS stg sup (hgS fa (-1) nf).1 (hgS fa (-1) nf).2 wd sn du.toNatClampNeg).1).toInt64)))) (by decide) G1_2
  have G2_3 := zset_ne (q := 18) (e' := (ou, zL4 E 1 (vp_updL o9 0 (((hsS stg sup (hgS fa (-1) nf).1 (hgS fa (-1) nf).2 wd sn du.toNatClampNeg).1).toInt64)))) (by decide) G1_a1
  have G2_4 := zset_ne (q := 18) (e' := (ou, zL4 E 1 (vp_updL o9 0 (((hsS stg sup (hgS fa (-1) nf).1 (hgS fa (-1) nf).2 wd sn du.toNatClampNeg).1).toInt64)))) (by decide) G1_4
  have G2_5 := zset_ne (q := 18) (e' := (ou, zL4 E 1 (vp_updL o9 0 (((hsS stg sup (hgS fa (-1) nf).1 (hgS fa (-1) nf).2 wd sn du.toNatClampNeg).1).toInt64)))) (by decide) G1_a2
  have G2_6 := zset_ne (q := 18) (e' := (ou, zL4 E 1 (vp_updL o9 0 (((hsS stg sup (hgS fa (-1) nf).1 (hgS fa (-1) nf).2 wd sn du.toNatClampNeg).1).toInt64)))) (by decide) G1_a3
  have G2_7 := zset_eq (e' := (ou, zL4 E 1 (vp_updL o9 0 (((hsS stg sup (hgS fa (-1) nf).1 (hgS fa (-1) nf).2 wd sn du.toNatClampNeg).1).toInt64)))) G1_7
  generalize hws2 : (ws_1.set 18 (ou, zL4 E 1 (vp_updL o9 0 (((hsS stg sup (hgS fa (-1) nf).1 (hgS fa (-1) nf).2 wd sn du.toNatClampNeg).1).toInt64)))) = ws_2 at J hk G2_0 G2_1 G2_2 G2_3 G2_4 G2_5 G2_6 G2_7
  refine lv_goto (tgt := 23) hx hb dL_blow_12 (by decide) ?_
  refine lv_iconst (v := 0) hx hb dL_blow_23 (by decide) ?_
  subst hQ
  refine vx_ret ?_
  exact W.iret (v := 0) hx hb hr (fun t ht hW => ⟨⟨0, ws_2, rfl, Or.inr ⟨rfl, e_r7.1, ⟨hk, G2_0, G2_3, G2_5, G2_6, G2_7⟩⟩, J.I X ht hW.alike⟩, J.F ht⟩) J.locs dL_blow_24
set_option maxHeartbeats 400000 in
set_option maxRecDepth 100000 in
theorem cL_would_ok (l : Launch) (hflags : l.flags = flags0) (E : zG) {ws : va_W} {x fl rl wh gr gra tr tra sc ha va ea eb nf nr : Nat} {mc1 mc2 lim sup off plo hrs : Int32} {fa rd ri sn t9 hf gf : Nat → Int32} {ou : Nat} {o9 : Nat → Int64} {wd stg du ix : Int32} (Fa0 : ws[0]? = some (x, .inr (7, [.ref fl, .ref rl, .ref wh, .ref gr, .ref tr, .ref sc, .int lim, .int sup, .int off, .int plo, .int hrs]))) (Fa1 : ws[1]? = some (fl, .inr (0, [.int mc1, .ref ea, .int (nI nf)]))) (Fa2 : ws[2]? = some (rl, .inr (0, [.int mc2, .ref eb, .int (nI nr)]))) (Fa3 : ws[4]? = some (gr, .inr (2, [.ref gra]))) (Fa4 : ws[5]? = some (gra, zI4 E 400 sn)) (Fa5 : ws[6]? = some (tr, .inr (2, [.ref tra]))) (Fa6 : ws[7]? = some (tra, zI4 E 400 t9)) (Fa7 : ws[8]? = some (sc, .inr (4, [.ref ha, .ref va]))) (Fa8 : ws[9]? = some (ha, zI4 E 400 hf)) (Fa9 : ws[10]? = some (va, zI4 E 400 gf)) (Fa10 : ws[18]? = some (ou, zL4 E 1 o9)) (hF : FS E ws fa ea nf) (hnf : nf ≤ 10) (hok : ∀ j, j < nf → okF fa j) (hR : RS E ws rd ri eb nr) (hnr : nr ≤ 4) : vx_Met l yL_would wsL_would ({ frames := 9, cells := 14, slots := 90, locals := 157 } : Room) (va_Pc [.ref x, .int wd, .int stg, .int du, .int ix, .ref ou] (zV E ws)) (va_Qi (fun (r : Int32) (ws' : va_W) => (r = (kWould wd stg du ix (nI nr)) ∧ ¬ (kWould wd stg du ix (nI nr)) = 0 ∧ ws = ws') ∨ (r = 0 ∧ (kWould wd stg du ix (nI nr)) = 0 ∧ (zK [7, 9, 10, 18] ws ws') ∧ (∃ (t2 : Nat → Int32) (h2 : Nat → Int32) (g2 : Nat → Int32), (ws'[7]? = some (tra, zI4 E 400 t2)) ∧ (ws'[9]? = some (ha, zI4 E 400 h2)) ∧ (ws'[10]? = some (va, zI4 E 400 g2)) ∧ (ws'[18]? = some (ou, zL4 E 1 (vp_updL o9 0 (blkG (hsS stg sup (hgS fa (-1) nf).1 (hgS fa (-1) nf).2 wd sn du.toNatClampNeg).2.1 (rfi (rd ix.toNatClampNeg) (ri ix.toNatClampNeg)) (rd ix.toNatClampNeg) lim 20).toInt64)))))) (zI E) (zA E)) (zX E ws (fun nm => False)) 14 90 (zA E) := by
  refine vx_ofWH (cc := cL_would) (maxL := 7) (ret := (some .int)) (hh := [(0, 14, 17, 15), (0, 14, 21, 13)]) (by decide) rfl ?_
  intro p e s m args below meth c s₁ B hml hv
  obtain ⟨hargs9, hI, hRz, hNz⟩ := hv
  have hx := B.exec
  have hb := B.bytes
  have hr := B.returns
  have hlocks := B.notSynchronized
  have X : zC E p m c cL_would 7 s args wsL_would RL := z_open B hml hI
  have hown := X.1.2.2.2.1
  have hts := X.1.2.2.2.2
  have htb9 : c.exceptionTable.toList = tableOf [(0, 14, 17, 15), (0, 14, 21, 13)] := vx_table (x := yL_would) B (hts _ List.mem_cons_self)
  have J := hI.J
  have hk : zK [7, 9, 10, 18] ws ws := zK.rf
  have hl := lv_entry ([.ref x, .int wd, .int stg, .int du, .int ix, .ref ou]) (n := 7) (Nat.le_of_ble_eq_true rfl)
  rw [show entryFrame m args 7 = entryFrame m ([.ref x, .int wd, .int stg, .int du, .int ix, .ref ou] : List Value).toArray 7 from by rw [hargs9], lg_entry_eq]
  generalize (lg_sl ([.ref x, .int wd, .int stg, .int du, .int ix, .ref ou]) ++ List.replicate (7 - (lg_sl ([.ref x, .int wd, .int stg, .int du, .int ix, .ref ou])).length) Slot.unset).toArray = ls at hl ⊢
  have hl : lv_has ls 7 [(0, .ref x), (1, .int wd), (2, .int stg), (3, .int du), (4, .int ix), (5, .ref ou)] := hl
  generalize hQ : (vx_MQ below (va_Qi (fun (r : Int32) (ws' : va_W) => (r = (kWould wd stg du ix (nI nr)) ∧ ¬ (kWould wd stg du ix (nI nr)) = 0 ∧ ws = ws') ∨ (r = 0 ∧ (kWould wd stg du ix (nI nr)) = 0 ∧ (zK [7, 9, 10, 18] ws ws') ∧ (∃ (t2 : Nat → Int32) (h2 : Nat → Int32) (g2 : Nat → Int32), (ws'[7]? = some (tra, zI4 E 400 t2)) ∧ (ws'[9]? = some (ha, zI4 E 400 h2)) ∧ (ws'[10]? = some (va, zI4 E 400 g2)) ∧ (ws'[18]? = some (ou, zL4 E 1 (vp_updL o9 0 (blkG (hsS stg sup (hgS fa (-1) nf).1 (hgS fa (-1) nf).2 wd sn du.toNatClampNeg).2.1 (rfi (rd ix.toNatClampNeg) (ri ix.toNatClampNeg)) (rd ix.toNatClampNeg) lim 20).toInt64)))))) (zI E) (zA E)) (zX E ws (fun nm => False)) args s 14 90 (zA E)) = QQ
  refine lv_aload hx hb dL_would_0 (lv_at hl 5 rfl) ?_
  refine lv_iconst (v := 0) hx hb dL_would_2 (by decide) ?_
  refine lv_aload_n hx hb dL_would_3 rfl (lv_at hl 0 rfl) ?_
  refine lv_iload_n hx hb dL_would_4 rfl (lv_at hl 1 rfl) ?_
  refine lv_iload_n hx hb dL_would_5 rfl (lv_at hl 2 rfl) ?_
  refine lv_iload_n hx hb dL_would_6 rfl (lv_at hl 3 rfl) ?_
  refine lv_iload hx hb dL_would_7 (lv_at hl 4 rfl) ?_
  refine z_xi J (z_yV (As := [.int wd, .int stg, .int du, .int ix]) (rest := [.int 0, .ref ou]) (ci := 7) (q0 := 0) X hRz J (cX6_would_ok l hflags E Fa0 Fa1 Fa2 Fa3 Fa4 Fa5 Fa6 Fa7 Fa8 Fa9 (by first | assumption | omega | decide) (by first | assumption | omega | decide) (by first | assumption | omega | decide) (by first | assumption | omega | decide) (by first | assumption | omega | decide)) (cwV 4 hts gL_would_X6_would rfl rfl rfl (by decide +kernel) ⟨Nat.le_of_ble_eq_true rfl, Nat.le_of_ble_eq_true rfl⟩) Fa0 rfl rfl rfl hl.1 rfl (Nat.le_of_ble_eq_true rfl) dL_would_9 ⟨Nat.le_of_ble_eq_true rfl, Nat.le_of_ble_eq_true rfl⟩) (fun nm ce q9 H locs hp9 J h1 h2 h3 => ?_) (fun r9 ws_1 H locs hp9 J => ?_)
  · rcases hp9 with ⟨hK9, rfl⟩ | ⟨hK9, rfl⟩
    · refine vx_catch (own := RL) (name := "java/lang/IndexOutOfBoundsException") hown [] (⟨0, 14, 17, 15⟩ : ExceptionTableEntry) [(⟨0, 14, 21, 13⟩ : ExceptionTableEntry)] (htb9.trans rfl) (fun _ h9 => absurd h9 List.not_mem_nil) (by decide) (by decide) (hts (.classLink RL 15 "java/lang/IndexOutOfBoundsException") (by decide +kernel)) (va_Nw.use rfl hRz.2.2.1) h1 h2 h3 ?_
      refine lv_astore (lv' := [(6, .ref q9), (0, .ref x), (1, .int wd), (2, .int stg), (3, .int du), (4, .int ix), (5, .ref ou)]) hx hb dL_would_17 hl (by decide) rfl (fun ls hl => ?_)
      refine lv_iconst (v := 1) hx hb dL_would_19 (by decide) ?_
      subst hQ
      refine vx_ret ?_
      exact W.iret (v := 1) hx hb hr (fun t ht hW => ⟨⟨1, ws, rfl, Or.inl ⟨hK9.symm, by rw [hK9]; decide, rfl⟩, J.I X ht hW.alike⟩, J.F ht⟩) J.locs dL_would_20
    · refine vx_catch (own := RL) (name := "java/lang/IllegalArgumentException") hown [(⟨0, 14, 17, 15⟩ : ExceptionTableEntry)] (⟨0, 14, 21, 13⟩ : ExceptionTableEntry) [] (htb9.trans rfl) (List.forall_mem_cons.mpr ⟨Or.inr ⟨by decide, "java/lang/IndexOutOfBoundsException", hts (.classLink RL 15 "java/lang/IndexOutOfBoundsException") (by decide +kernel), hNz.1⟩, (fun _ h9 => absurd h9 List.not_mem_nil)⟩) (by decide) (by decide) (hts (.classLink RL 13 "java/lang/IllegalArgumentException") (by decide +kernel)) (va_Nw.use rfl hRz.2.1) h1 h2 h3 ?_
      refine lv_astore (lv' := [(6, .ref q9), (0, .ref x), (1, .int wd), (2, .int stg), (3, .int du), (4, .int ix), (5, .ref ou)]) hx hb dL_would_21 hl (by decide) rfl (fun ls hl => ?_)
      refine lv_iconst (v := 2) hx hb dL_would_23 (by decide) ?_
      subst hQ
      refine vx_ret ?_
      exact W.iret (v := 2) hx hb hr (fun t ht hW => ⟨⟨2, ws, rfl, Or.inl ⟨hK9.symm, by rw [hK9]; decide, rfl⟩, J.I X ht hW.alike⟩, J.F ht⟩) J.locs dL_would_24
  obtain ⟨k1, ⟨t2_1, h2_1, g2_1, G1_a0, G1_a1, G1_a2, e_r9⟩⟩ := hp9
  have hk := hk.trans (k1.mono (by decide))
  have G1_0 := k1.2 0 _ (by decide) Fa0
  have G1_1 := k1.2 1 _ (by decide) Fa1
  have G1_2 := k1.2 2 _ (by decide) Fa2
  have G1_3 := k1.2 4 _ (by decide) Fa3
  have G1_4 := k1.2 5 _ (by decide) Fa4
  have G1_5 := k1.2 6 _ (by decide) Fa5
  have G1_7 := k1.2 8 _ (by decide) Fa7
  have G1_10 := k1.2 18 _ (by decide) Fa10
  refine W.eq (g2 := F0 m 12 ls [.int (blkG (hsS stg sup (hgS fa (-1) nf).1 (hgS fa (-1) nf).2 wd sn du.toNatClampNeg).2.1 (rfi (rd ix.toNatClampNeg) (ri ix.toNatClampNeg)) (rd ix.toNatClampNeg) lim 20), .int 0, .ref ou]) (congrArg (fun z9 : Int32 => F0 m 12 ls [.int z9, .int 0, .ref ou]) (show (r9 : Int32) = (blkG (hsS stg sup (hgS fa (-1) nf).1 (hgS fa (-1) nf).2 wd sn du.toNatClampNeg).2.1 (rfi (rd ix.toNatClampNeg) (ri ix.toNatClampNeg)) (rd ix.toNatClampNeg) lim 20) from e_r9.2)) ?_
  refine lv_i2l (v := (blkG (hsS stg sup (hgS fa (-1) nf).1 (hgS fa (-1) nf).2 wd sn du.toNatClampNeg).2.1 (rfi (rd ix.toNatClampNeg) (ri ix.toNatClampNeg)) (rd ix.toNatClampNeg) lim 20).toInt64) hx hb dL_would_12 rfl ?_
  refine z_last X J 18 G1_10 (vp_in_nI (n := 0) (by decide) (by decide)) dL_would_13 (fun H locs J => ?_)
  rw [show vp_updL o9 (0 : Int32).toNatClampNeg ((blkG (hsS stg sup (hgS fa (-1) nf).1 (hgS fa (-1) nf).2 wd sn du.toNatClampNeg).2.1 (rfi (rd ix.toNatClampNeg) (ri ix.toNatClampNeg)) (rd ix.toNatClampNeg) lim 20).toInt64) = vp_updL o9 0 ((blkG (hsS stg sup (hgS fa (-1) nf).1 (hgS fa (-1) nf).2 wd sn du.toNatClampNeg).2.1 (rfi (rd ix.toNatClampNeg) (ri ix.toNatClampNeg)) (rd ix.toNatClampNeg) lim 20).toInt64) from rfl] at J
  have hk := hk.trans (zK.set (ws := ws_1) (q := 18) (e := (ou, zL4 E 1 (vp_updL o9 0 ((blkG (hsS stg sup (hgS fa (-1) nf).1 (hgS fa (-1) nf).2 wd sn du.toNatClampNeg).2.1 (rfi (rd ix.toNatClampNeg) (ri ix.toNatClampNeg)) (rd ix.toNatClampNeg) lim 20).toInt64)))) (by simp))
  have G2_0 := zset_ne (q := 18) (e' := (ou, zL4 E 1 (vp_updL o9 0 ((blkG (hsS stg sup (hgS fa (-1) nf).1 (hgS fa (-1) nf).2 wd sn du.toNatClampNeg).2.1 (rfi (rd ix.toNatClampNeg) (ri ix.toNatClampNeg)) (rd ix.toNatClampNeg) lim 20).toInt64)))) (by decide) G1_0
  have G2_1 := zset_ne (q := 18) (e' := (ou, zL4 E 1 (vp_updL o9 0 ((blkG (hsS stg sup (hgS fa (-1) nf).1 (hgS fa (-1) nf).2 wd sn du.toNatClampNeg).2.1 (rfi (rd ix.toNatClampNeg) (ri ix.toNatClampNeg)) (rd ix.toNatClampNeg) lim 20).toInt64)))) (by decide) G1_1
  have G2_2 := zset_ne (q := 18) (e' := (ou, zL4 E 1 (vp_updL o9 0 ((blkG (hsS stg sup (hgS fa (-1) nf).1 (hgS fa (-1) nf).2 wd sn du.toNatClampNeg).2.1 (rfi (rd ix.toNatClampNeg) (ri ix.toNatClampNeg)) (rd ix.toNatClampNeg) lim 20).toInt64)))) (by decide) G1_2
  have G2_3 := zset_ne (q := 18) (e' := (ou, zL4 E 1 (vp_updL o9 0 ((blkG (hsS stg sup (hgS fa (-1) nf).1 (hgS fa (-1) nf).2 wd sn du.toNatClampNeg).2.1 (rfi (rd ix.toNatClampNeg) (ri ix.toNatClampNeg)) (rd ix.toNatClampNeg) lim 20).toInt64)))) (by decide) G1_3
  have G2_4 := zset_ne (q := 18) (e' := (ou, zL4 E 1 (vp_updL o9 0 ((blkG (hsS stg sup (hgS fa (-1) nf).1 (hgS fa (-1) nf).2 wd sn du.toNatClampNeg).2.1 (rfi (rd ix.toNatClampNeg) (ri ix.toNatClampNeg)) (rd ix.toNatClampNeg) lim 20).toInt64)))) (by decide) G1_4
  have G2_5 := zset_ne (q := 18) (e' := (ou, zL4 E 1 (vp_updL o9 0 ((blkG (hsS stg sup (hgS fa (-1) nf).1 (hgS fa (-1) nf).2 wd sn du.toNatClampNeg).2.1 (rfi (rd ix.toNatClampNeg) (ri ix.toNatClampNeg)) (rd ix.toNatClampNeg) lim 20).toInt64)))) (by decide) G1_5
  have G2_6 := zset_ne (q := 18) (e' := (ou, zL4 E 1 (vp_updL o9 0 ((blkG (hsS stg sup (hgS fa (-1) nf).1 (hgS fa (-1) nf).2 wd sn du.toNatClampNeg).2.1 (rfi (rd ix.toNatClampNeg) (ri ix.toNatClampNeg)) (rd ix.toNatClampNeg) lim 20).toInt64)))) (by decide) G1_a0
  have G2_7 := zset_ne (q := 18) (e' := (ou, zL4 E 1 (vp_updL o9 0 ((blkG (hsS stg sup (hgS fa (-1) nf).1 (hgS fa (-1) nf).2 wd sn du.toNatClampNeg).2.1 (rfi (rd ix.toNatClampNeg) (ri ix.toNatClampNeg)) (rd ix.toNatClampNeg) lim 20).toInt64)))) (by decide) G1_7
  have G2_8 := zset_ne (q := 18) (e' := (ou, zL4 E 1 (vp_updL o9 0 ((blkG (hsS stg sup (hgS fa (-1) nf).1 (hgS fa (-1) nf).2 wd sn du.toNatClampNeg).2.1 (rfi (rd ix.toNatClampNeg) (ri ix.toNatClampNeg)) (rd ix.toNatClampNeg) lim 20).toInt64)))) (by decide) G1_a1
  have G2_9 := zset_ne (q := 18) (e' := (ou, zL4 E 1 (vp_updL o9 0 ((blkG (hsS stg sup (hgS fa (-1) nf).1 (hgS fa (-1) nf).2 wd sn du.toNatClampNeg).2.1 (rfi (rd ix.toNatClampNeg) (ri ix.toNatClampNeg)) (rd ix.toNatClampNeg) lim 20).toInt64)))) (by decide) G1_a2
  have G2_10 := zset_eq (e' := (ou, zL4 E 1 (vp_updL o9 0 ((blkG (hsS stg sup (hgS fa (-1) nf).1 (hgS fa (-1) nf).2 wd sn du.toNatClampNeg).2.1 (rfi (rd ix.toNatClampNeg) (ri ix.toNatClampNeg)) (rd ix.toNatClampNeg) lim 20).toInt64)))) G1_10
  generalize hws2 : (ws_1.set 18 (ou, zL4 E 1 (vp_updL o9 0 ((blkG (hsS stg sup (hgS fa (-1) nf).1 (hgS fa (-1) nf).2 wd sn du.toNatClampNeg).2.1 (rfi (rd ix.toNatClampNeg) (ri ix.toNatClampNeg)) (rd ix.toNatClampNeg) lim 20).toInt64)))) = ws_2 at J hk G2_0 G2_1 G2_2 G2_3 G2_4 G2_5 G2_6 G2_7 G2_8 G2_9 G2_10
  refine lv_goto (tgt := 25) hx hb dL_would_14 (by decide) ?_
  refine lv_iconst (v := 0) hx hb dL_would_25 (by decide) ?_
  subst hQ
  refine vx_ret ?_
  exact W.iret (v := 0) hx hb hr (fun t ht hW => ⟨⟨0, ws_2, rfl, Or.inr ⟨rfl, e_r9.1, ⟨hk, ⟨t2_1, h2_1, g2_1, G2_6, G2_8, G2_9, G2_10⟩⟩⟩, J.I X ht hW.alike⟩, J.F ht⟩) J.locs dL_would_26
set_option maxHeartbeats 400000 in
set_option maxRecDepth 100000 in
theorem cL_until_ok (l : Launch) (hflags : l.flags = flags0) (E : zG) {ws : va_W} {x fl rl wh gr gra tr tra sc ha va ea eb nf nr : Nat} {mc1 mc2 lim sup off plo hrs : Int32} {fa rd ri sn t9 hf gf : Nat → Int32} {ou : Nat} {o9 : Nat → Int64} {wd stg ix : Int32} (Fa0 : ws[0]? = some (x, .inr (7, [.ref fl, .ref rl, .ref wh, .ref gr, .ref tr, .ref sc, .int lim, .int sup, .int off, .int plo, .int hrs]))) (Fa1 : ws[1]? = some (fl, .inr (0, [.int mc1, .ref ea, .int (nI nf)]))) (Fa2 : ws[2]? = some (rl, .inr (0, [.int mc2, .ref eb, .int (nI nr)]))) (Fa3 : ws[4]? = some (gr, .inr (2, [.ref gra]))) (Fa4 : ws[5]? = some (gra, zI4 E 400 sn)) (Fa5 : ws[6]? = some (tr, .inr (2, [.ref tra]))) (Fa6 : ws[7]? = some (tra, zI4 E 400 t9)) (Fa7 : ws[8]? = some (sc, .inr (4, [.ref ha, .ref va]))) (Fa8 : ws[9]? = some (ha, zI4 E 400 hf)) (Fa9 : ws[10]? = some (va, zI4 E 400 gf)) (Fa10 : ws[18]? = some (ou, zL4 E 1 o9)) (hF : FS E ws fa ea nf) (hnf : nf ≤ 10) (hok : ∀ j, j < nf → okF fa j) (hR : RS E ws rd ri eb nr) (hnr : nr ≤ 4) : vx_Met l yL_until wsL_until ({ frames := 9, cells := 14, slots := 90, locals := 159 } : Room) (va_Pc [.ref x, .int wd, .int stg, .int ix, .ref ou] (zV E ws)) (va_Qi (fun (r : Int32) (ws' : va_W) => (r = (kUntil wd stg ix (nI nr)) ∧ ¬ (kUntil wd stg ix (nI nr)) = 0 ∧ ws = ws') ∨ (r = 0 ∧ (kUntil wd stg ix (nI nr)) = 0 ∧ (zK [7, 9, 10, 18] ws ws') ∧ (∃ (t2 : Nat → Int32) (h2 : Nat → Int32) (g2 : Nat → Int32), (ws'[7]? = some (tra, zI4 E 400 t2)) ∧ (ws'[9]? = some (ha, zI4 E 400 h2)) ∧ (ws'[10]? = some (va, zI4 E 400 g2)) ∧ (ws'[18]? = some (ou, zL4 E 1 (vp_updL o9 0 (untF (untB stg sup (hgS fa (-1) nf).1 (hgS fa (-1) nf).2 wd sn rd ri lim ix.toNatClampNeg) 49 0).toInt64)))))) (zI E) (zA E)) (zX E ws (fun nm => False)) 14 90 (zA E) := by
  refine vx_ofWH (cc := cL_until) (maxL := 6) (ret := (some .int)) (hh := [(0, 12, 15, 15), (0, 12, 19, 13)]) (by decide) rfl ?_
  intro p e s m args below meth c s₁ B hml hv
  obtain ⟨hargs9, hI, hRz, hNz⟩ := hv
  have hx := B.exec
  have hb := B.bytes
  have hr := B.returns
  have hlocks := B.notSynchronized
  have X : zC E p m c cL_until 6 s args wsL_until RL := z_open B hml hI
  have hown := X.1.2.2.2.1
  have hts := X.1.2.2.2.2
  have htb9 : c.exceptionTable.toList = tableOf [(0, 12, 15, 15), (0, 12, 19, 13)] := vx_table (x := yL_until) B (hts _ List.mem_cons_self)
  have J := hI.J
  have hk : zK [7, 9, 10, 18] ws ws := zK.rf
  have hl := lv_entry ([.ref x, .int wd, .int stg, .int ix, .ref ou]) (n := 6) (Nat.le_of_ble_eq_true rfl)
  rw [show entryFrame m args 6 = entryFrame m ([.ref x, .int wd, .int stg, .int ix, .ref ou] : List Value).toArray 6 from by rw [hargs9], lg_entry_eq]
  generalize (lg_sl ([.ref x, .int wd, .int stg, .int ix, .ref ou]) ++ List.replicate (6 - (lg_sl ([.ref x, .int wd, .int stg, .int ix, .ref ou])).length) Slot.unset).toArray = ls at hl ⊢
  have hl : lv_has ls 6 [(0, .ref x), (1, .int wd), (2, .int stg), (3, .int ix), (4, .ref ou)] := hl
  generalize hQ : (vx_MQ below (va_Qi (fun (r : Int32) (ws' : va_W) => (r = (kUntil wd stg ix (nI nr)) ∧ ¬ (kUntil wd stg ix (nI nr)) = 0 ∧ ws = ws') ∨ (r = 0 ∧ (kUntil wd stg ix (nI nr)) = 0 ∧ (zK [7, 9, 10, 18] ws ws') ∧ (∃ (t2 : Nat → Int32) (h2 : Nat → Int32) (g2 : Nat → Int32), (ws'[7]? = some (tra, zI4 E 400 t2)) ∧ (ws'[9]? = some (ha, zI4 E 400 h2)) ∧ (ws'[10]? = some (va, zI4 E 400 g2)) ∧ (ws'[18]? = some (ou, zL4 E 1 (vp_updL o9 0 (untF (untB stg sup (hgS fa (-1) nf).1 (hgS fa (-1) nf).2 wd sn rd ri lim ix.toNatClampNeg) 49 0).toInt64)))))) (zI E) (zA E)) (zX E ws (fun nm => False)) args s 14 90 (zA E)) = QQ
  refine lv_aload hx hb dL_until_0 (lv_at hl 4 rfl) ?_
  refine lv_iconst (v := 0) hx hb dL_until_2 (by decide) ?_
  refine lv_aload_n hx hb dL_until_3 rfl (lv_at hl 0 rfl) ?_
  refine lv_iload_n hx hb dL_until_4 rfl (lv_at hl 1 rfl) ?_
  refine lv_iload_n hx hb dL_until_5 rfl (lv_at hl 2 rfl) ?_
  refine lv_iload_n hx hb dL_until_6 rfl (lv_at hl 3 rfl) ?_
  refine z_xi J (z_yV (As := [.int wd, .int stg, .int ix]) (rest := [.int 0, .ref ou]) (ci := 7) (q0 := 0) X hRz J (cX6_until_ok l hflags E Fa0 Fa1 Fa2 Fa3 Fa4 Fa5 Fa6 Fa7 Fa8 Fa9 (by first | assumption | omega | decide) (by first | assumption | omega | decide) (by first | assumption | omega | decide) (by first | assumption | omega | decide) (by first | assumption | omega | decide)) (cwV 3 hts gL_until_X6_until rfl rfl rfl (by decide +kernel) ⟨Nat.le_of_ble_eq_true rfl, Nat.le_of_ble_eq_true rfl⟩) Fa0 rfl rfl rfl hl.1 rfl (Nat.le_of_ble_eq_true rfl) dL_until_7 ⟨Nat.le_of_ble_eq_true rfl, Nat.le_of_ble_eq_true rfl⟩) (fun nm ce q9 H locs hp9 J h1 h2 h3 => ?_) (fun r7 ws_1 H locs hp9 J => ?_)
  · rcases hp9 with ⟨hK9, rfl⟩ | ⟨hK9, rfl⟩
    · refine vx_catch (own := RL) (name := "java/lang/IndexOutOfBoundsException") hown [] (⟨0, 12, 15, 15⟩ : ExceptionTableEntry) [(⟨0, 12, 19, 13⟩ : ExceptionTableEntry)] (htb9.trans rfl) (fun _ h9 => absurd h9 List.not_mem_nil) (by decide) (by decide) (hts (.classLink RL 15 "java/lang/IndexOutOfBoundsException") (by decide +kernel)) (va_Nw.use rfl hRz.2.2.1) h1 h2 h3 ?_
      refine lv_astore (lv' := [(5, .ref q9), (0, .ref x), (1, .int wd), (2, .int stg), (3, .int ix), (4, .ref ou)]) hx hb dL_until_15 hl (by decide) rfl (fun ls hl => ?_)
      refine lv_iconst (v := 1) hx hb dL_until_17 (by decide) ?_
      subst hQ
      refine vx_ret ?_
      exact W.iret (v := 1) hx hb hr (fun t ht hW => ⟨⟨1, ws, rfl, Or.inl ⟨hK9.symm, by rw [hK9]; decide, rfl⟩, J.I X ht hW.alike⟩, J.F ht⟩) J.locs dL_until_18
    · refine vx_catch (own := RL) (name := "java/lang/IllegalArgumentException") hown [(⟨0, 12, 15, 15⟩ : ExceptionTableEntry)] (⟨0, 12, 19, 13⟩ : ExceptionTableEntry) [] (htb9.trans rfl) (List.forall_mem_cons.mpr ⟨Or.inr ⟨by decide, "java/lang/IndexOutOfBoundsException", hts (.classLink RL 15 "java/lang/IndexOutOfBoundsException") (by decide +kernel), hNz.1⟩, (fun _ h9 => absurd h9 List.not_mem_nil)⟩) (by decide) (by decide) (hts (.classLink RL 13 "java/lang/IllegalArgumentException") (by decide +kernel)) (va_Nw.use rfl hRz.2.1) h1 h2 h3 ?_
      refine lv_astore (lv' := [(5, .ref q9), (0, .ref x), (1, .int wd), (2, .int stg), (3, .int ix), (4, .ref ou)]) hx hb dL_until_19 hl (by decide) rfl (fun ls hl => ?_)
      refine lv_iconst (v := 2) hx hb dL_until_21 (by decide) ?_
      subst hQ
      refine vx_ret ?_
      exact W.iret (v := 2) hx hb hr (fun t ht hW => ⟨⟨2, ws, rfl, Or.inl ⟨hK9.symm, by rw [hK9]; decide, rfl⟩, J.I X ht hW.alike⟩, J.F ht⟩) J.locs dL_until_22
  obtain ⟨k1, ⟨t2_1, h2_1, g2_1, G1_a0, G1_a1, G1_a2, e_r7⟩⟩ := hp9
  have hk := hk.trans (k1.mono (by decide))
  have G1_0 := k1.2 0 _ (by decide) Fa0
  have G1_1 := k1.2 1 _ (by decide) Fa1
  have G1_2 := k1.2 2 _ (by decide) Fa2
  have G1_3 := k1.2 4 _ (by decide) Fa3
  have G1_4 := k1.2 5 _ (by decide) Fa4
  have G1_5 := k1.2 6 _ (by decide) Fa5
  have G1_7 := k1.2 8 _ (by decide) Fa7
  have G1_10 := k1.2 18 _ (by decide) Fa10
  refine W.eq (g2 := F0 m 10 ls [.int (untF (untB stg sup (hgS fa (-1) nf).1 (hgS fa (-1) nf).2 wd sn rd ri lim ix.toNatClampNeg) 49 0), .int 0, .ref ou]) (congrArg (fun z9 : Int32 => F0 m 10 ls [.int z9, .int 0, .ref ou]) (show (r7 : Int32) = untF (untB stg sup (hgS fa (-1) nf).1 (hgS fa (-1) nf).2 wd sn rd ri lim ix.toNatClampNeg) 49 0 from e_r7.2)) ?_
  refine lv_i2l (v := (untF (untB stg sup (hgS fa (-1) nf).1 (hgS fa (-1) nf).2 wd sn rd ri lim ix.toNatClampNeg) 49 0).toInt64) hx hb dL_until_10 rfl ?_
  refine z_last X J 18 G1_10 (vp_in_nI (n := 0) (by decide) (by decide)) dL_until_11 (fun H locs J => ?_)
  rw [show vp_updL o9 (0 : Int32).toNatClampNeg ((untF (untB stg sup (hgS fa (-1) nf).1 (hgS fa (-1) nf).2 wd sn rd ri lim ix.toNatClampNeg) 49 0).toInt64) = vp_updL o9 0 ((untF (untB stg sup (hgS fa (-1) nf).1 (hgS fa (-1) nf).2 wd sn rd ri lim ix.toNatClampNeg) 49 0).toInt64) from rfl] at J
  have hk := hk.trans (zK.set (ws := ws_1) (q := 18) (e := (ou, zL4 E 1 (vp_updL o9 0 ((untF (untB stg sup (hgS fa (-1) nf).1 (hgS fa (-1) nf).2 wd sn rd ri lim ix.toNatClampNeg) 49 0).toInt64)))) (by simp))
  have G2_0 := zset_ne (q := 18) (e' := (ou, zL4 E 1 (vp_updL o9 0 ((untF (untB stg sup (hgS fa (-1) nf).1 (hgS fa (-1) nf).2 wd sn rd ri lim ix.toNatClampNeg) 49 0).toInt64)))) (by decide) G1_0
  have G2_1 := zset_ne (q := 18) (e' := (ou, zL4 E 1 (vp_updL o9 0 ((untF (untB stg sup (hgS fa (-1) nf).1 (hgS fa (-1) nf).2 wd sn rd ri lim ix.toNatClampNeg) 49 0).toInt64)))) (by decide) G1_1
  have G2_2 := zset_ne (q := 18) (e' := (ou, zL4 E 1 (vp_updL o9 0 ((untF (untB stg sup (hgS fa (-1) nf).1 (hgS fa (-1) nf).2 wd sn rd ri lim ix.toNatClampNeg) 49 0).toInt64)))) (by decide) G1_2
  have G2_3 := zset_ne (q := 18) (e' := (ou, zL4 E 1 (vp_updL o9 0 ((untF (untB stg sup (hgS fa (-1) nf).1 (hgS fa (-1) nf).2 wd sn rd ri lim ix.toNatClampNeg) 49 0).toInt64)))) (by decide) G1_3
  have G2_4 := zset_ne (q := 18) (e' := (ou, zL4 E 1 (vp_updL o9 0 ((untF (untB stg sup (hgS fa (-1) nf).1 (hgS fa (-1) nf).2 wd sn rd ri lim ix.toNatClampNeg) 49 0).toInt64)))) (by decide) G1_4
  have G2_5 := zset_ne (q := 18) (e' := (ou, zL4 E 1 (vp_updL o9 0 ((untF (untB stg sup (hgS fa (-1) nf).1 (hgS fa (-1) nf).2 wd sn rd ri lim ix.toNatClampNeg) 49 0).toInt64)))) (by decide) G1_5
  have G2_6 := zset_ne (q := 18) (e' := (ou, zL4 E 1 (vp_updL o9 0 ((untF (untB stg sup (hgS fa (-1) nf).1 (hgS fa (-1) nf).2 wd sn rd ri lim ix.toNatClampNeg) 49 0).toInt64)))) (by decide) G1_a0
  have G2_7 := zset_ne (q := 18) (e' := (ou, zL4 E 1 (vp_updL o9 0 ((untF (untB stg sup (hgS fa (-1) nf).1 (hgS fa (-1) nf).2 wd sn rd ri lim ix.toNatClampNeg) 49 0).toInt64)))) (by decide) G1_7
  have G2_8 := zset_ne (q := 18) (e' := (ou, zL4 E 1 (vp_updL o9 0 ((untF (untB stg sup (hgS fa (-1) nf).1 (hgS fa (-1) nf).2 wd sn rd ri lim ix.toNatClampNeg) 49 0).toInt64)))) (by decide) G1_a1
  have G2_9 := zset_ne (q := 18) (e' := (ou, zL4 E 1 (vp_updL o9 0 ((untF (untB stg sup (hgS fa (-1) nf).1 (hgS fa (-1) nf).2 wd sn rd ri lim ix.toNatClampNeg) 49 0).toInt64)))) (by decide) G1_a2
  have G2_10 := zset_eq (e' := (ou, zL4 E 1 (vp_updL o9 0 ((untF (untB stg sup (hgS fa (-1) nf).1 (hgS fa (-1) nf).2 wd sn rd ri lim ix.toNatClampNeg) 49 0).toInt64)))) G1_10
  generalize hws2 : (ws_1.set 18 (ou, zL4 E 1 (vp_updL o9 0 ((untF (untB stg sup (hgS fa (-1) nf).1 (hgS fa (-1) nf).2 wd sn rd ri lim ix.toNatClampNeg) 49 0).toInt64)))) = ws_2 at J hk G2_0 G2_1 G2_2 G2_3 G2_4 G2_5 G2_6 G2_7 G2_8 G2_9 G2_10
  refine lv_goto (tgt := 23) hx hb dL_until_12 (by decide) ?_
  refine lv_iconst (v := 0) hx hb dL_until_23 (by decide) ?_
  subst hQ
  refine vx_ret ?_
  exact W.iret (v := 0) hx hb hr (fun t ht hW => ⟨⟨0, ws_2, rfl, Or.inr ⟨rfl, e_r7.1, ⟨hk, ⟨t2_1, h2_1, g2_1, G2_6, G2_8, G2_9, G2_10⟩⟩⟩, J.I X ht hW.alike⟩, J.F ht⟩) J.locs dL_until_24
set_option maxHeartbeats 400000 in
set_option maxRecDepth 100000 in
theorem cL_advise_ok (l : Launch) (hflags : l.flags = flags0) (E : zG) {ws : va_W} {x fl rl wh gr gra tr tra sc ha va ea eb nf nr : Nat} {mc1 mc2 lim sup off plo hrs : Int32} {fa rd ri sn t9 hf gf : Nat → Int32} {ou : Nat} {o9 : Nat → Int64} {wd stg he : Int32} (Fa0 : ws[0]? = some (x, .inr (7, [.ref fl, .ref rl, .ref wh, .ref gr, .ref tr, .ref sc, .int lim, .int sup, .int off, .int plo, .int hrs]))) (Fa1 : ws[1]? = some (fl, .inr (0, [.int mc1, .ref ea, .int (nI nf)]))) (Fa2 : ws[2]? = some (rl, .inr (0, [.int mc2, .ref eb, .int (nI nr)]))) (Fa3 : ws[4]? = some (gr, .inr (2, [.ref gra]))) (Fa4 : ws[5]? = some (gra, zI4 E 400 sn)) (Fa5 : ws[6]? = some (tr, .inr (2, [.ref tra]))) (Fa6 : ws[7]? = some (tra, zI4 E 400 t9)) (Fa7 : ws[8]? = some (sc, .inr (4, [.ref ha, .ref va]))) (Fa8 : ws[9]? = some (ha, zI4 E 400 hf)) (Fa9 : ws[10]? = some (va, zI4 E 400 gf)) (Fa10 : ws[18]? = some (ou, zL4 E 1 o9)) (hF : FS E ws fa ea nf) (hnf : nf ≤ 10) (hok : ∀ j, j < nf → okF fa j) (hR : RS E ws rd ri eb nr) (hnr : nr ≤ 4) : vx_Met l yL_advise wsL_advise ({ frames := 9, cells := 30, slots := 120, locals := 182 } : Room) (va_Pc [.ref x, .int wd, .int stg, .int he, .ref ou] (zV E ws)) (va_Qi (fun (r : Int32) (ws' : va_W) => (r = (kAdvise wd stg he) ∧ ¬ (kAdvise wd stg he) = 0 ∧ ws = ws') ∨ (r = 0 ∧ (kAdvise wd stg he) = 0 ∧ (zK [7, 9, 10, 18] ws ws') ∧ (∃ (t2 : Nat → Int32) (h2 : Nat → Int32) (g2 : Nat → Int32), (ws'[7]? = some (tra, zI4 E 400 t2)) ∧ (ws'[9]? = some (ha, zI4 E 400 h2)) ∧ (ws'[10]? = some (va, zI4 E 400 g2)) ∧ (ws'[18]? = some (ou, zL4 E 1 (vp_updL o9 0 ((advC (advK (advD wd) fa nf he stg sup wd sn rd ri lim nr) 20).1).toInt64)))))) (zI E) (zA E)) (zX E ws (fun nm => False)) 30 120 (zA E) := by
  refine vx_ofWH (cc := cL_advise) (maxL := 6) (ret := (some .int)) (hh := [(0, 12, 15, 15), (0, 12, 19, 13)]) (by decide) rfl ?_
  intro p e s m args below meth c s₁ B hml hv
  obtain ⟨hargs9, hI, hRz, hNz⟩ := hv
  have hx := B.exec
  have hb := B.bytes
  have hr := B.returns
  have hlocks := B.notSynchronized
  have X : zC E p m c cL_advise 6 s args wsL_advise RL := z_open B hml hI
  have hown := X.1.2.2.2.1
  have hts := X.1.2.2.2.2
  have htb9 : c.exceptionTable.toList = tableOf [(0, 12, 15, 15), (0, 12, 19, 13)] := vx_table (x := yL_advise) B (hts _ List.mem_cons_self)
  have J := hI.J
  have hk : zK [7, 9, 10, 18] ws ws := zK.rf
  have hl := lv_entry ([.ref x, .int wd, .int stg, .int he, .ref ou]) (n := 6) (Nat.le_of_ble_eq_true rfl)
  rw [show entryFrame m args 6 = entryFrame m ([.ref x, .int wd, .int stg, .int he, .ref ou] : List Value).toArray 6 from by rw [hargs9], lg_entry_eq]
  generalize (lg_sl ([.ref x, .int wd, .int stg, .int he, .ref ou]) ++ List.replicate (6 - (lg_sl ([.ref x, .int wd, .int stg, .int he, .ref ou])).length) Slot.unset).toArray = ls at hl ⊢
  have hl : lv_has ls 6 [(0, .ref x), (1, .int wd), (2, .int stg), (3, .int he), (4, .ref ou)] := hl
  generalize hQ : (vx_MQ below (va_Qi (fun (r : Int32) (ws' : va_W) => (r = (kAdvise wd stg he) ∧ ¬ (kAdvise wd stg he) = 0 ∧ ws = ws') ∨ (r = 0 ∧ (kAdvise wd stg he) = 0 ∧ (zK [7, 9, 10, 18] ws ws') ∧ (∃ (t2 : Nat → Int32) (h2 : Nat → Int32) (g2 : Nat → Int32), (ws'[7]? = some (tra, zI4 E 400 t2)) ∧ (ws'[9]? = some (ha, zI4 E 400 h2)) ∧ (ws'[10]? = some (va, zI4 E 400 g2)) ∧ (ws'[18]? = some (ou, zL4 E 1 (vp_updL o9 0 ((advC (advK (advD wd) fa nf he stg sup wd sn rd ri lim nr) 20).1).toInt64)))))) (zI E) (zA E)) (zX E ws (fun nm => False)) args s 30 120 (zA E)) = QQ
  refine lv_aload hx hb dL_advise_0 (lv_at hl 4 rfl) ?_
  refine lv_iconst (v := 0) hx hb dL_advise_2 (by decide) ?_
  refine lv_aload_n hx hb dL_advise_3 rfl (lv_at hl 0 rfl) ?_
  refine lv_iload_n hx hb dL_advise_4 rfl (lv_at hl 1 rfl) ?_
  refine lv_iload_n hx hb dL_advise_5 rfl (lv_at hl 2 rfl) ?_
  refine lv_iload_n hx hb dL_advise_6 rfl (lv_at hl 3 rfl) ?_
  refine z_xi J (z_yV (As := [.int wd, .int stg, .int he]) (rest := [.int 0, .ref ou]) (ci := 7) (q0 := 0) X hRz J (cX6_advise_ok l hflags E Fa0 Fa1 Fa2 Fa3 Fa4 Fa5 Fa6 Fa7 Fa8 Fa9 (by first | assumption | omega | decide) (by first | assumption | omega | decide) (by first | assumption | omega | decide) (by first | assumption | omega | decide) (by first | assumption | omega | decide)) (cwV 3 hts gL_advise_X6_advise rfl rfl rfl (by decide +kernel) ⟨Nat.le_of_ble_eq_true rfl, Nat.le_of_ble_eq_true rfl⟩) Fa0 rfl rfl rfl hl.1 rfl (Nat.le_of_ble_eq_true rfl) dL_advise_7 ⟨Nat.le_of_ble_eq_true rfl, Nat.le_of_ble_eq_true rfl⟩) (fun nm ce q9 H locs hp9 J h1 h2 h3 => ?_) (fun r7 ws_1 H locs hp9 J => ?_)
  · rcases hp9 with ⟨hK9, rfl⟩ | ⟨hK9, rfl⟩
    · refine vx_catch (own := RL) (name := "java/lang/IndexOutOfBoundsException") hown [] (⟨0, 12, 15, 15⟩ : ExceptionTableEntry) [(⟨0, 12, 19, 13⟩ : ExceptionTableEntry)] (htb9.trans rfl) (fun _ h9 => absurd h9 List.not_mem_nil) (by decide) (by decide) (hts (.classLink RL 15 "java/lang/IndexOutOfBoundsException") (by decide +kernel)) (va_Nw.use rfl hRz.2.2.1) h1 h2 h3 ?_
      refine lv_astore (lv' := [(5, .ref q9), (0, .ref x), (1, .int wd), (2, .int stg), (3, .int he), (4, .ref ou)]) hx hb dL_advise_15 hl (by decide) rfl (fun ls hl => ?_)
      refine lv_iconst (v := 1) hx hb dL_advise_17 (by decide) ?_
      subst hQ
      refine vx_ret ?_
      exact W.iret (v := 1) hx hb hr (fun t ht hW => ⟨⟨1, ws, rfl, Or.inl ⟨hK9.symm, by rw [hK9]; decide, rfl⟩, J.I X ht hW.alike⟩, J.F ht⟩) J.locs dL_advise_18
    · refine vx_catch (own := RL) (name := "java/lang/IllegalArgumentException") hown [(⟨0, 12, 15, 15⟩ : ExceptionTableEntry)] (⟨0, 12, 19, 13⟩ : ExceptionTableEntry) [] (htb9.trans rfl) (List.forall_mem_cons.mpr ⟨Or.inr ⟨by decide, "java/lang/IndexOutOfBoundsException", hts (.classLink RL 15 "java/lang/IndexOutOfBoundsException") (by decide +kernel), hNz.1⟩, (fun _ h9 => absurd h9 List.not_mem_nil)⟩) (by decide) (by decide) (hts (.classLink RL 13 "java/lang/IllegalArgumentException") (by decide +kernel)) (va_Nw.use rfl hRz.2.1) h1 h2 h3 ?_
      refine lv_astore (lv' := [(5, .ref q9), (0, .ref x), (1, .int wd), (2, .int stg), (3, .int he), (4, .ref ou)]) hx hb dL_advise_19 hl (by decide) rfl (fun ls hl => ?_)
      refine lv_iconst (v := 2) hx hb dL_advise_21 (by decide) ?_
      subst hQ
      refine vx_ret ?_
      exact W.iret (v := 2) hx hb hr (fun t ht hW => ⟨⟨2, ws, rfl, Or.inl ⟨hK9.symm, by rw [hK9]; decide, rfl⟩, J.I X ht hW.alike⟩, J.F ht⟩) J.locs dL_advise_22
  obtain ⟨k1, ⟨t2_1, h2_1, g2_1, G1_a0, G1_a1, G1_a2, e_r7⟩⟩ := hp9
  have hk := hk.trans (k1.mono (by decide))
  have G1_0 := k1.2 0 _ (by decide) Fa0
  have G1_1 := k1.2 1 _ (by decide) Fa1
  have G1_2 := k1.2 2 _ (by decide) Fa2
  have G1_3 := k1.2 4 _ (by decide) Fa3
  have G1_4 := k1.2 5 _ (by decide) Fa4
  have G1_5 := k1.2 6 _ (by decide) Fa5
  have G1_7 := k1.2 8 _ (by decide) Fa7
  have G1_10 := k1.2 18 _ (by decide) Fa10
  refine W.eq (g2 := F0 m 10 ls [.int ((advC (advK (advD wd) fa nf he stg sup wd sn rd ri lim nr) 20).1), .int 0, .ref ou]) (congrArg (fun z9 : Int32 => F0 m 10 ls [.int z9, .int 0, .ref ou]) (show (r7 : Int32) = (advC (advK (advD wd) fa nf he stg sup wd sn rd ri lim nr) 20).1 from e_r7.2)) ?_
  refine lv_i2l (v := ((advC (advK (advD wd) fa nf he stg sup wd sn rd ri lim nr) 20).1).toInt64) hx hb dL_advise_10 rfl ?_
  refine z_last X J 18 G1_10 (vp_in_nI (n := 0) (by decide) (by decide)) dL_advise_11 (fun H locs J => ?_)
  rw [show vp_updL o9 (0 : Int32).toNatClampNeg (((advC (advK (advD wd) fa nf he stg sup wd sn rd ri lim nr) 20).1).toInt64) = vp_updL o9 0 (((advC (advK (advD wd) fa nf he stg sup wd sn rd ri lim nr) 20).1).toInt64) from rfl] at J
  have hk := hk.trans (zK.set (ws := ws_1) (q := 18) (e := (ou, zL4 E 1 (vp_updL o9 0 (((advC (advK (advD wd) fa nf he stg sup wd sn rd ri lim nr) 20).1).toInt64)))) (by simp))
  have G2_0 := zset_ne (q := 18) (e' := (ou, zL4 E 1 (vp_updL o9 0 (((advC (advK (advD wd) fa nf he stg sup wd sn rd ri lim nr) 20).1).toInt64)))) (by decide) G1_0
  have G2_1 := zset_ne (q := 18) (e' := (ou, zL4 E 1 (vp_updL o9 0 (((advC (advK (advD wd) fa nf he stg sup wd sn rd ri lim nr) 20).1).toInt64)))) (by decide) G1_1
  have G2_2 := zset_ne (q := 18) (e' := (ou, zL4 E 1 (vp_updL o9 0 (((advC (advK (advD wd) fa nf he stg sup wd sn rd ri lim nr) 20).1).toInt64)))) (by decide) G1_2
  have G2_3 := zset_ne (q := 18) (e' := (ou, zL4 E 1 (vp_updL o9 0 (((advC (advK (advD wd) fa nf he stg sup wd sn rd ri lim nr) 20).1).toInt64)))) (by decide) G1_3
  have G2_4 := zset_ne (q := 18) (e' := (ou, zL4 E 1 (vp_updL o9 0 (((advC (advK (advD wd) fa nf he stg sup wd sn rd ri lim nr) 20).1).toInt64)))) (by decide) G1_4
  have G2_5 := zset_ne (q := 18) (e' := (ou, zL4 E 1 (vp_updL o9 0 (((advC (advK (advD wd) fa nf he stg sup wd sn rd ri lim nr) 20).1).toInt64)))) (by decide) G1_5
  have G2_6 := zset_ne (q := 18) (e' := (ou, zL4 E 1 (vp_updL o9 0 (((advC (advK (advD wd) fa nf he stg sup wd sn rd ri lim nr) 20).1).toInt64)))) (by decide) G1_a0
  have G2_7 := zset_ne (q := 18) (e' := (ou, zL4 E 1 (vp_updL o9 0 (((advC (advK (advD wd) fa nf he stg sup wd sn rd ri lim nr) 20).1).toInt64)))) (by decide) G1_7
  have G2_8 := zset_ne (q := 18) (e' := (ou, zL4 E 1 (vp_updL o9 0 (((advC (advK (advD wd) fa nf he stg sup wd sn rd ri lim nr) 20).1).toInt64)))) (by decide) G1_a1
  have G2_9 := zset_ne (q := 18) (e' := (ou, zL4 E 1 (vp_updL o9 0 (((advC (advK (advD wd) fa nf he stg sup wd sn rd ri lim nr) 20).1).toInt64)))) (by decide) G1_a2
  have G2_10 := zset_eq (e' := (ou, zL4 E 1 (vp_updL o9 0 (((advC (advK (advD wd) fa nf he stg sup wd sn rd ri lim nr) 20).1).toInt64)))) G1_10
  generalize hws2 : (ws_1.set 18 (ou, zL4 E 1 (vp_updL o9 0 (((advC (advK (advD wd) fa nf he stg sup wd sn rd ri lim nr) 20).1).toInt64)))) = ws_2 at J hk G2_0 G2_1 G2_2 G2_3 G2_4 G2_5 G2_6 G2_7 G2_8 G2_9 G2_10
  refine lv_goto (tgt := 23) hx hb dL_advise_12 (by decide) ?_
  refine lv_iconst (v := 0) hx hb dL_advise_23 (by decide) ?_
  subst hQ
  refine vx_ret ?_
  exact W.iret (v := 0) hx hb hr (fun t ht hW => ⟨⟨0, ws_2, rfl, Or.inr ⟨rfl, e_r7.1, ⟨hk, ⟨t2_1, h2_1, g2_1, G2_6, G2_8, G2_9, G2_10⟩⟩⟩, J.I X ht hW.alike⟩, J.F ht⟩) J.locs dL_advise_24
set_option maxHeartbeats 400000 in
set_option maxRecDepth 100000 in
theorem cL_harmful_ok (l : Launch) (hflags : l.flags = flags0) (E : zG) {ws : va_W} {x fl rl wh gr gra tr tra sc ha va ea eb nf nr : Nat} {mc1 mc2 lim sup off plo hrs : Int32} {fa rd ri sn t9 hf gf : Nat → Int32} {ou : Nat} {o9 : Nat → Int64} {wd stg : Int32} (Fa0 : ws[0]? = some (x, .inr (7, [.ref fl, .ref rl, .ref wh, .ref gr, .ref tr, .ref sc, .int lim, .int sup, .int off, .int plo, .int hrs]))) (Fa1 : ws[1]? = some (fl, .inr (0, [.int mc1, .ref ea, .int (nI nf)]))) (Fa2 : ws[2]? = some (rl, .inr (0, [.int mc2, .ref eb, .int (nI nr)]))) (Fa3 : ws[4]? = some (gr, .inr (2, [.ref gra]))) (Fa4 : ws[5]? = some (gra, zI4 E 400 sn)) (Fa5 : ws[6]? = some (tr, .inr (2, [.ref tra]))) (Fa6 : ws[7]? = some (tra, zI4 E 400 t9)) (Fa7 : ws[8]? = some (sc, .inr (4, [.ref ha, .ref va]))) (Fa8 : ws[9]? = some (ha, zI4 E 400 hf)) (Fa9 : ws[10]? = some (va, zI4 E 400 gf)) (Fa10 : ws[18]? = some (ou, zL4 E 1 o9)) (hF : FS E ws fa ea nf) (hnf : nf ≤ 10) (hok : ∀ j, j < nf → okF fa j) (hR : RS E ws rd ri eb nr) (hnr : nr ≤ 4) : vx_Met l yL_harmful wsL_harmful ({ frames := 9, cells := 14, slots := 90, locals := 181 } : Room) (va_Pc [.ref x, .int wd, .int stg, .ref ou] (zV E ws)) (va_Qi (fun (r : Int32) (ws' : va_W) => (r = (kHarm wd stg) ∧ ¬ (kHarm wd stg) = 0 ∧ ws = ws') ∨ (r = 0 ∧ (kHarm wd stg) = 0 ∧ (zK [7, 9, 10, 18] ws ws') ∧ (∃ (t2 : Nat → Int32) (h2 : Nat → Int32) (g2 : Nat → Int32), (ws'[7]? = some (tra, zI4 E 400 t2)) ∧ (ws'[9]? = some (ha, zI4 E 400 h2)) ∧ (ws'[10]? = some (va, zI4 E 400 g2)) ∧ (ws'[18]? = some (ou, zL4 E 1 (vp_updL o9 0 ((harS fa nf stg sup wd sn rd ri lim nr nf).1).toInt64)))))) (zI E) (zA E)) (zX E ws (fun nm => False)) 14 90 (zA E) := by
  refine vx_ofWH (cc := cL_harmful) (maxL := 5) (ret := (some .int)) (hh := [(0, 10, 13, 15), (0, 10, 17, 13)]) (by decide) rfl ?_
  intro p e s m args below meth c s₁ B hml hv
  obtain ⟨hargs9, hI, hRz, hNz⟩ := hv
  have hx := B.exec
  have hb := B.bytes
  have hr := B.returns
  have hlocks := B.notSynchronized
  have X : zC E p m c cL_harmful 5 s args wsL_harmful RL := z_open B hml hI
  have hown := X.1.2.2.2.1
  have hts := X.1.2.2.2.2
  have htb9 : c.exceptionTable.toList = tableOf [(0, 10, 13, 15), (0, 10, 17, 13)] := vx_table (x := yL_harmful) B (hts _ List.mem_cons_self)
  have J := hI.J
  have hk : zK [7, 9, 10, 18] ws ws := zK.rf
  have hl := lv_entry ([.ref x, .int wd, .int stg, .ref ou]) (n := 5) (Nat.le_of_ble_eq_true rfl)
  rw [show entryFrame m args 5 = entryFrame m ([.ref x, .int wd, .int stg, .ref ou] : List Value).toArray 5 from by rw [hargs9], lg_entry_eq]
  generalize (lg_sl ([.ref x, .int wd, .int stg, .ref ou]) ++ List.replicate (5 - (lg_sl ([.ref x, .int wd, .int stg, .ref ou])).length) Slot.unset).toArray = ls at hl ⊢
  have hl : lv_has ls 5 [(0, .ref x), (1, .int wd), (2, .int stg), (3, .ref ou)] := hl
  generalize hQ : (vx_MQ below (va_Qi (fun (r : Int32) (ws' : va_W) => (r = (kHarm wd stg) ∧ ¬ (kHarm wd stg) = 0 ∧ ws = ws') ∨ (r = 0 ∧ (kHarm wd stg) = 0 ∧ (zK [7, 9, 10, 18] ws ws') ∧ (∃ (t2 : Nat → Int32) (h2 : Nat → Int32) (g2 : Nat → Int32), (ws'[7]? = some (tra, zI4 E 400 t2)) ∧ (ws'[9]? = some (ha, zI4 E 400 h2)) ∧ (ws'[10]? = some (va, zI4 E 400 g2)) ∧ (ws'[18]? = some (ou, zL4 E 1 (vp_updL o9 0 ((harS fa nf stg sup wd sn rd ri lim nr nf).1).toInt64)))))) (zI E) (zA E)) (zX E ws (fun nm => False)) args s 14 90 (zA E)) = QQ
  refine lv_aload_n hx hb dL_harmful_0 rfl (lv_at hl 3 rfl) ?_
  refine lv_iconst (v := 0) hx hb dL_harmful_1 (by decide) ?_
  refine lv_aload_n hx hb dL_harmful_2 rfl (lv_at hl 0 rfl) ?_
  refine lv_iload_n hx hb dL_harmful_3 rfl (lv_at hl 1 rfl) ?_
  refine lv_iload_n hx hb dL_harmful_4 rfl (lv_at hl 2 rfl) ?_
  refine z_xi J (z_yV (As := [.int wd, .int stg]) (rest := [.int 0, .ref ou]) (ci := 7) (q0 := 0) X hRz J (cX6_harmful_ok l hflags E Fa0 Fa1 Fa2 Fa3 Fa4 Fa5 Fa6 Fa7 Fa8 Fa9 (by first | assumption | omega | decide) (by first | assumption | omega | decide) (by first | assumption | omega | decide) (by first | assumption | omega | decide) (by first | assumption | omega | decide)) (cwV 2 hts gL_harmful_X6_harmful rfl rfl rfl (by decide +kernel) ⟨Nat.le_of_ble_eq_true rfl, Nat.le_of_ble_eq_true rfl⟩) Fa0 rfl rfl rfl hl.1 rfl (Nat.le_of_ble_eq_true rfl) dL_harmful_5 ⟨Nat.le_of_ble_eq_true rfl, Nat.le_of_ble_eq_true rfl⟩) (fun nm ce q9 H locs hp9 J h1 h2 h3 => ?_) (fun r5 ws_1 H locs hp9 J => ?_)
  · rcases hp9 with ⟨hK9, rfl⟩ | ⟨hK9, rfl⟩
    · refine vx_catch (own := RL) (name := "java/lang/IndexOutOfBoundsException") hown [] (⟨0, 10, 13, 15⟩ : ExceptionTableEntry) [(⟨0, 10, 17, 13⟩ : ExceptionTableEntry)] (htb9.trans rfl) (fun _ h9 => absurd h9 List.not_mem_nil) (by decide) (by decide) (hts (.classLink RL 15 "java/lang/IndexOutOfBoundsException") (by decide +kernel)) (va_Nw.use rfl hRz.2.2.1) h1 h2 h3 ?_
      refine lv_astore (lv' := [(4, .ref q9), (0, .ref x), (1, .int wd), (2, .int stg), (3, .ref ou)]) hx hb dL_harmful_13 hl (by decide) rfl (fun ls hl => ?_)
      refine lv_iconst (v := 1) hx hb dL_harmful_15 (by decide) ?_
      subst hQ
      refine vx_ret ?_
      exact W.iret (v := 1) hx hb hr (fun t ht hW => ⟨⟨1, ws, rfl, Or.inl ⟨hK9.symm, by rw [hK9]; decide, rfl⟩, J.I X ht hW.alike⟩, J.F ht⟩) J.locs dL_harmful_16
    · refine vx_catch (own := RL) (name := "java/lang/IllegalArgumentException") hown [(⟨0, 10, 13, 15⟩ : ExceptionTableEntry)] (⟨0, 10, 17, 13⟩ : ExceptionTableEntry) [] (htb9.trans rfl) (List.forall_mem_cons.mpr ⟨Or.inr ⟨by decide, "java/lang/IndexOutOfBoundsException", hts (.classLink RL 15 "java/lang/IndexOutOfBoundsException") (by decide +kernel), hNz.1⟩, (fun _ h9 => absurd h9 List.not_mem_nil)⟩) (by decide) (by decide) (hts (.classLink RL 13 "java/lang/IllegalArgumentException") (by decide +kernel)) (va_Nw.use rfl hRz.2.1) h1 h2 h3 ?_
      refine lv_astore (lv' := [(4, .ref q9), (0, .ref x), (1, .int wd), (2, .int stg), (3, .ref ou)]) hx hb dL_harmful_17 hl (by decide) rfl (fun ls hl => ?_)
      refine lv_iconst (v := 2) hx hb dL_harmful_19 (by decide) ?_
      subst hQ
      refine vx_ret ?_
      exact W.iret (v := 2) hx hb hr (fun t ht hW => ⟨⟨2, ws, rfl, Or.inl ⟨hK9.symm, by rw [hK9]; decide, rfl⟩, J.I X ht hW.alike⟩, J.F ht⟩) J.locs dL_harmful_20
  obtain ⟨k1, ⟨t2_1, h2_1, g2_1, G1_a0, G1_a1, G1_a2, e_r5⟩⟩ := hp9
  have hk := hk.trans (k1.mono (by decide))
  have G1_0 := k1.2 0 _ (by decide) Fa0
  have G1_1 := k1.2 1 _ (by decide) Fa1
  have G1_2 := k1.2 2 _ (by decide) Fa2
  have G1_3 := k1.2 4 _ (by decide) Fa3
  have G1_4 := k1.2 5 _ (by decide) Fa4
  have G1_5 := k1.2 6 _ (by decide) Fa5
  have G1_7 := k1.2 8 _ (by decide) Fa7
  have G1_10 := k1.2 18 _ (by decide) Fa10
  refine W.eq (g2 := F0 m 8 ls [.int ((harS fa nf stg sup wd sn rd ri lim nr nf).1), .int 0, .ref ou]) (congrArg (fun z9 : Int32 => F0 m 8 ls [.int z9, .int 0, .ref ou]) (show (r5 : Int32) = (harS fa nf stg sup wd sn rd ri lim nr nf).1 from e_r5.2)) ?_
  refine lv_i2l (v := ((harS fa nf stg sup wd sn rd ri lim nr nf).1).toInt64) hx hb dL_harmful_8 rfl ?_
  refine z_last X J 18 G1_10 (vp_in_nI (n := 0) (by decide) (by decide)) dL_harmful_9 (fun H locs J => ?_)
  rw [show vp_updL o9 (0 : Int32).toNatClampNeg (((harS fa nf stg sup wd sn rd ri lim nr nf).1).toInt64) = vp_updL o9 0 (((harS fa nf stg sup wd sn rd ri lim nr nf).1).toInt64) from rfl] at J
  have hk := hk.trans (zK.set (ws := ws_1) (q := 18) (e := (ou, zL4 E 1 (vp_updL o9 0 (((harS fa nf stg sup wd sn rd ri lim nr nf).1).toInt64)))) (by simp))
  have G2_0 := zset_ne (q := 18) (e' := (ou, zL4 E 1 (vp_updL o9 0 (((harS fa nf stg sup wd sn rd ri lim nr nf).1).toInt64)))) (by decide) G1_0
  have G2_1 := zset_ne (q := 18) (e' := (ou, zL4 E 1 (vp_updL o9 0 (((harS fa nf stg sup wd sn rd ri lim nr nf).1).toInt64)))) (by decide) G1_1
  have G2_2 := zset_ne (q := 18) (e' := (ou, zL4 E 1 (vp_updL o9 0 (((harS fa nf stg sup wd sn rd ri lim nr nf).1).toInt64)))) (by decide) G1_2
  have G2_3 := zset_ne (q := 18) (e' := (ou, zL4 E 1 (vp_updL o9 0 (((harS fa nf stg sup wd sn rd ri lim nr nf).1).toInt64)))) (by decide) G1_3
  have G2_4 := zset_ne (q := 18) (e' := (ou, zL4 E 1 (vp_updL o9 0 (((harS fa nf stg sup wd sn rd ri lim nr nf).1).toInt64)))) (by decide) G1_4
  have G2_5 := zset_ne (q := 18) (e' := (ou, zL4 E 1 (vp_updL o9 0 (((harS fa nf stg sup wd sn rd ri lim nr nf).1).toInt64)))) (by decide) G1_5
  have G2_6 := zset_ne (q := 18) (e' := (ou, zL4 E 1 (vp_updL o9 0 (((harS fa nf stg sup wd sn rd ri lim nr nf).1).toInt64)))) (by decide) G1_a0
  have G2_7 := zset_ne (q := 18) (e' := (ou, zL4 E 1 (vp_updL o9 0 (((harS fa nf stg sup wd sn rd ri lim nr nf).1).toInt64)))) (by decide) G1_7
  have G2_8 := zset_ne (q := 18) (e' := (ou, zL4 E 1 (vp_updL o9 0 (((harS fa nf stg sup wd sn rd ri lim nr nf).1).toInt64)))) (by decide) G1_a1
  have G2_9 := zset_ne (q := 18) (e' := (ou, zL4 E 1 (vp_updL o9 0 (((harS fa nf stg sup wd sn rd ri lim nr nf).1).toInt64)))) (by decide) G1_a2
  have G2_10 := zset_eq (e' := (ou, zL4 E 1 (vp_updL o9 0 (((harS fa nf stg sup wd sn rd ri lim nr nf).1).toInt64)))) G1_10
  generalize hws2 : (ws_1.set 18 (ou, zL4 E 1 (vp_updL o9 0 (((harS fa nf stg sup wd sn rd ri lim nr nf).1).toInt64)))) = ws_2 at J hk G2_0 G2_1 G2_2 G2_3 G2_4 G2_5 G2_6 G2_7 G2_8 G2_9 G2_10
  refine lv_goto (tgt := 21) hx hb dL_harmful_10 (by decide) ?_
  refine lv_iconst (v := 0) hx hb dL_harmful_21 (by decide) ?_
  subst hQ
  refine vx_ret ?_
  exact W.iret (v := 0) hx hb hr (fun t ht hW => ⟨⟨0, ws_2, rfl, Or.inr ⟨rfl, e_r5.1, ⟨hk, ⟨t2_1, h2_1, g2_1, G2_6, G2_8, G2_9, G2_10⟩⟩⟩, J.I X ht hW.alike⟩, J.F ht⟩) J.locs dL_harmful_22
set_option maxHeartbeats 400000 in
set_option maxRecDepth 100000 in
theorem cL_fence_e_ok (l : Launch) (hflags : l.flags = flags0) (E : zG) {ws : va_W} {x fl rl wh gr tr sc : Nat} {mc1 lim sup off plo hrs : Int32} {ou : Nat} {o9 : Nat → Int64} {co ro le dn he ga : Int32} (Fa0 : ws[0]? = some (x, .inr (7, [.ref fl, .ref rl, .ref wh, .ref gr, .ref tr, .ref sc, .int lim, .int sup, .int off, .int plo, .int hrs]))) (Fa1 : ws[1]? = some (fl, .inr (0, [.int mc1, .ref E.2.2.1, .int 0]))) (Fa2 : ws[18]? = some (ou, zL4 E 1 o9)) (hdn : dn = 0 ∨ dn = 1) : vx_Met l yL_fence wsL_fence ({ frames := 8, cells := 12, slots := 80, locals := 129 } : Room) (va_Pc [.ref x, .int co, .int ro, .int le, .int dn, .int he, .int ga, .ref ou] (zV E ws)) (va_Qi (fun (r : Int32) (ws' : va_W) => (r = (kFence co ro le dn he ga (nI 0)) ∧ ¬ (kFence co ro le dn he ga (nI 0)) = 0 ∧ ws = ws') ∨ (r = 0 ∧ (kFence co ro le dn he ga (nI 0)) = 0 ∧ (zK [1, 18] ws ws') ∧ (∃ fo sp nq : Nat, ws'.length = ws.length + 3 ∧ (ws'[1]? = some (fl, .inr (0, [.int (mc1 + 1), .ref nq, .int 1]))) ∧ (ws'[18]? = some (ou, zL4 E 1 (vp_updL o9 0 (nI 0).toInt64))) ∧ (ws'[(ws.length + 0)]? = some (fo, .inr (1, [.int co, .int ro, .ref sp, .int he, .int ga]))) ∧ (ws'[(ws.length + 1)]? = some (sp, .inr (5, [.int (ro * 20 + co), .int le, .int dn]))) ∧ (ws'[(ws.length + 2)]? = some (nq, zO4 E 10 (va_up (fun _ => none) 0 (some fo))))))) (zI E) (zA E)) (zX E ws (fun nm => False)) 12 80 (zA E) := by
  refine vx_ofWH (cc := cL_fence) (maxL := 9) (ret := (some .int)) (hh := [(0, 18, 21, 13), (0, 18, 25, 15), (0, 18, 29, 17)]) (by decide) rfl ?_
  intro p e s m args below meth c s₁ B hml hv
  obtain ⟨hargs9, hI, hRz, hNz⟩ := hv
  have hx := B.exec
  have hb := B.bytes
  have hr := B.returns
  have hlocks := B.notSynchronized
  have X : zC E p m c cL_fence 9 s args wsL_fence RL := z_open B hml hI
  have hown := X.1.2.2.2.1
  have hts := X.1.2.2.2.2
  have htb9 : c.exceptionTable.toList = tableOf [(0, 18, 21, 13), (0, 18, 25, 15), (0, 18, 29, 17)] := vx_table (x := yL_fence) B (hts _ List.mem_cons_self)
  have J := hI.J
  have hk : zK [1, 18] ws ws := zK.rf
  have hlen : ws.length = ws.length + 0 := rfl
  have bFa0 := zlt Fa0
  have bFa1 := zlt Fa1
  have bFa2 := zlt Fa2
  have hl := lv_entry ([.ref x, .int co, .int ro, .int le, .int dn, .int he, .int ga, .ref ou]) (n := 9) (Nat.le_of_ble_eq_true rfl)
  rw [show entryFrame m args 9 = entryFrame m ([.ref x, .int co, .int ro, .int le, .int dn, .int he, .int ga, .ref ou] : List Value).toArray 9 from by rw [hargs9], lg_entry_eq]
  generalize (lg_sl ([.ref x, .int co, .int ro, .int le, .int dn, .int he, .int ga, .ref ou]) ++ List.replicate (9 - (lg_sl ([.ref x, .int co, .int ro, .int le, .int dn, .int he, .int ga, .ref ou])).length) Slot.unset).toArray = ls at hl ⊢
  have hl : lv_has ls 9 [(0, .ref x), (1, .int co), (2, .int ro), (3, .int le), (4, .int dn), (5, .int he), (6, .int ga), (7, .ref ou)] := hl
  generalize hQ : (vx_MQ below (va_Qi (fun (r : Int32) (ws' : va_W) => (r = (kFence co ro le dn he ga (nI 0)) ∧ ¬ (kFence co ro le dn he ga (nI 0)) = 0 ∧ ws = ws') ∨ (r = 0 ∧ (kFence co ro le dn he ga (nI 0)) = 0 ∧ (zK [1, 18] ws ws') ∧ (∃ fo sp nq : Nat, ws'.length = ws.length + 3 ∧ (ws'[1]? = some (fl, .inr (0, [.int (mc1 + 1), .ref nq, .int 1]))) ∧ (ws'[18]? = some (ou, zL4 E 1 (vp_updL o9 0 (nI 0).toInt64))) ∧ (ws'[(ws.length + 0)]? = some (fo, .inr (1, [.int co, .int ro, .ref sp, .int he, .int ga]))) ∧ (ws'[(ws.length + 1)]? = some (sp, .inr (5, [.int (ro * 20 + co), .int le, .int dn]))) ∧ (ws'[(ws.length + 2)]? = some (nq, zO4 E 10 (va_up (fun _ => none) 0 (some fo))))))) (zI E) (zA E)) (zX E ws (fun nm => False)) args s 12 80 (zA E)) = QQ
  refine lv_aload hx hb dL_fence_0 (lv_at hl 7 rfl) ?_
  refine lv_iconst (v := 0) hx hb dL_fence_2 (by decide) ?_
  refine lv_aload_n hx hb dL_fence_3 rfl (lv_at hl 0 rfl) ?_
  refine lv_iload_n hx hb dL_fence_4 rfl (lv_at hl 1 rfl) ?_
  refine lv_iload_n hx hb dL_fence_5 rfl (lv_at hl 2 rfl) ?_
  refine lv_iload_n hx hb dL_fence_6 rfl (lv_at hl 3 rfl) ?_
  refine lv_iload hx hb dL_fence_7 (lv_at hl 4 rfl) ?_
  refine lv_iload hx hb dL_fence_9 (lv_at hl 5 rfl) ?_
  refine lv_iload hx hb dL_fence_11 (lv_at hl 6 rfl) ?_
  refine z_xi J (z_yV (As := [.int co, .int ro, .int le, .int dn, .int he, .int ga]) (rest := [.int 0, .ref ou]) (ci := 7) (q0 := 0) X hRz J (cX6_fence_e_ok l hflags E Fa0 Fa1 (by first | assumption | omega | decide)) (cwV 6 hts gL_fence_X6_fence rfl rfl rfl (by decide +kernel) ⟨Nat.le_of_ble_eq_true rfl, Nat.le_of_ble_eq_true rfl⟩) Fa0 rfl rfl rfl hl.1 rfl (Nat.le_of_ble_eq_true rfl) dL_fence_13 ⟨Nat.le_of_ble_eq_true rfl, Nat.le_of_ble_eq_true rfl⟩) (fun nm ce q9 H locs hp9 J h1 h2 h3 => ?_) (fun r13 ws_1 H locs hp9 J => ?_)
  · rcases hp9 with ⟨hK9, rfl⟩ | ⟨hK9, rfl⟩ | ⟨hK9, rfl⟩
    · refine vx_catch (own := RL) (name := "java/lang/IllegalArgumentException") hown [] (⟨0, 18, 21, 13⟩ : ExceptionTableEntry) [(⟨0, 18, 25, 15⟩ : ExceptionTableEntry), (⟨0, 18, 29, 17⟩ : ExceptionTableEntry)] (htb9.trans rfl) (fun _ h9 => absurd h9 List.not_mem_nil) (by decide) (by decide) (hts (.classLink RL 13 "java/lang/IllegalArgumentException") (by decide +kernel)) (va_Nw.use rfl hRz.2.1) h1 h2 h3 ?_
      refine lv_astore (lv' := [(8, .ref q9), (0, .ref x), (1, .int co), (2, .int ro), (3, .int le), (4, .int dn), (5, .int he), (6, .int ga), (7, .ref ou)]) hx hb dL_fence_21 hl (by decide) rfl (fun ls hl => ?_)
      refine lv_iconst (v := 1) hx hb dL_fence_23 (by decide) ?_
      subst hQ
      refine vx_ret ?_
      exact W.iret (v := 1) hx hb hr (fun t ht hW => ⟨⟨1, ws, rfl, Or.inl ⟨hK9.symm, by rw [hK9]; decide, rfl⟩, J.I X ht hW.alike⟩, J.F ht⟩) J.locs dL_fence_24
    · refine vx_catch (own := RL) (name := "java/lang/IndexOutOfBoundsException") hown [(⟨0, 18, 21, 13⟩ : ExceptionTableEntry)] (⟨0, 18, 25, 15⟩ : ExceptionTableEntry) [(⟨0, 18, 29, 17⟩ : ExceptionTableEntry)] (htb9.trans rfl) (List.forall_mem_cons.mpr ⟨Or.inr ⟨by decide, "java/lang/IllegalArgumentException", hts (.classLink RL 13 "java/lang/IllegalArgumentException") (by decide +kernel), hNz.2.1⟩, (fun _ h9 => absurd h9 List.not_mem_nil)⟩) (by decide) (by decide) (hts (.classLink RL 15 "java/lang/IndexOutOfBoundsException") (by decide +kernel)) (va_Nw.use rfl hRz.2.2.1) h1 h2 h3 ?_
      refine lv_astore (lv' := [(8, .ref q9), (0, .ref x), (1, .int co), (2, .int ro), (3, .int le), (4, .int dn), (5, .int he), (6, .int ga), (7, .ref ou)]) hx hb dL_fence_25 hl (by decide) rfl (fun ls hl => ?_)
      refine lv_iconst (v := 2) hx hb dL_fence_27 (by decide) ?_
      subst hQ
      refine vx_ret ?_
      exact W.iret (v := 2) hx hb hr (fun t ht hW => ⟨⟨2, ws, rfl, Or.inl ⟨hK9.symm, by rw [hK9]; decide, rfl⟩, J.I X ht hW.alike⟩, J.F ht⟩) J.locs dL_fence_28
    · refine vx_catch (own := RL) (name := "java/lang/IllegalStateException") hown [(⟨0, 18, 21, 13⟩ : ExceptionTableEntry), (⟨0, 18, 25, 15⟩ : ExceptionTableEntry)] (⟨0, 18, 29, 17⟩ : ExceptionTableEntry) [] (htb9.trans rfl) (List.forall_mem_cons.mpr ⟨Or.inr ⟨by decide, "java/lang/IllegalArgumentException", hts (.classLink RL 13 "java/lang/IllegalArgumentException") (by decide +kernel), hNz.2.2.1⟩, (List.forall_mem_cons.mpr ⟨Or.inr ⟨by decide, "java/lang/IndexOutOfBoundsException", hts (.classLink RL 15 "java/lang/IndexOutOfBoundsException") (by decide +kernel), hNz.2.2.2⟩, (fun _ h9 => absurd h9 List.not_mem_nil)⟩)⟩) (by decide) (by decide) (hts (.classLink RL 17 "java/lang/IllegalStateException") (by decide +kernel)) (va_Nw.use rfl hRz.2.2.2.1) h1 h2 h3 ?_
      refine lv_astore (lv' := [(8, .ref q9), (0, .ref x), (1, .int co), (2, .int ro), (3, .int le), (4, .int dn), (5, .int he), (6, .int ga), (7, .ref ou)]) hx hb dL_fence_29 hl (by decide) rfl (fun ls hl => ?_)
      refine lv_iconst (v := 3) hx hb dL_fence_31 (by decide) ?_
      subst hQ
      refine vx_ret ?_
      exact W.iret (v := 3) hx hb hr (fun t ht hW => ⟨⟨3, ws, rfl, Or.inl ⟨hK9.symm, by rw [hK9]; decide, rfl⟩, J.I X ht hW.alike⟩, J.F ht⟩) J.locs dL_fence_32
  obtain ⟨k1, ⟨fo_1, sp_1, nq_1, hlen1, G1_a0, N1_0, N1_1, N1_2, e_r13⟩⟩ := hp9
  have hk := hk.trans (k1.mono (by decide))
  have G1_0 := k1.2 0 _ (by decide) Fa0
  have G1_2 := k1.2 18 _ (by decide) Fa2
  rw [hlen, Nat.add_assoc] at N1_0
  rw [hlen, Nat.add_assoc] at N1_1
  rw [hlen, Nat.add_assoc] at N1_2
  have hlen : ws_1.length = ws.length + 3 := by rw [hlen1, hlen]
  refine W.eq (g2 := F0 m 16 ls [.int (nI 0), .int 0, .ref ou]) (congrArg (fun z9 : Int32 => F0 m 16 ls [.int z9, .int 0, .ref ou]) (show (r13 : Int32) = nI 0 from e_r13.2)) ?_
  refine lv_i2l (v := (nI 0).toInt64) hx hb dL_fence_16 rfl ?_
  refine z_last X J 18 G1_2 (vp_in_nI (n := 0) (by decide) (by decide)) dL_fence_17 (fun H locs J => ?_)
  rw [show vp_updL o9 (0 : Int32).toNatClampNeg ((nI 0).toInt64) = vp_updL o9 0 ((nI 0).toInt64) from rfl] at J
  have hk := hk.trans (zK.set (ws := ws_1) (q := 18) (e := (ou, zL4 E 1 (vp_updL o9 0 ((nI 0).toInt64)))) (by simp))
  have hlen : (ws_1.set 18 (ou, zL4 E 1 (vp_updL o9 0 ((nI 0).toInt64)))).length = ws.length + 3 := (List.length_set ..).trans hlen
  have G2_0 := zset_ne (q := 18) (e' := (ou, zL4 E 1 (vp_updL o9 0 ((nI 0).toInt64)))) (by decide) G1_0
  have G2_1 := zset_ne (q := 18) (e' := (ou, zL4 E 1 (vp_updL o9 0 ((nI 0).toInt64)))) (by decide) G1_a0
  have G2_2 := zset_eq (e' := (ou, zL4 E 1 (vp_updL o9 0 ((nI 0).toInt64)))) G1_2
  have G2_3 := zset_ne (q := 18) (e' := (ou, zL4 E 1 (vp_updL o9 0 ((nI 0).toInt64)))) (Nat.ne_of_lt (Nat.lt_of_lt_of_le bFa2 (Nat.le_add_right _ _))) N1_0
  have G2_4 := zset_ne (q := 18) (e' := (ou, zL4 E 1 (vp_updL o9 0 ((nI 0).toInt64)))) (Nat.ne_of_lt (Nat.lt_of_lt_of_le bFa2 (Nat.le_add_right _ _))) N1_1
  have G2_5 := zset_ne (q := 18) (e' := (ou, zL4 E 1 (vp_updL o9 0 ((nI 0).toInt64)))) (Nat.ne_of_lt (Nat.lt_of_lt_of_le bFa2 (Nat.le_add_right _ _))) N1_2
  generalize hws2 : (ws_1.set 18 (ou, zL4 E 1 (vp_updL o9 0 ((nI 0).toInt64)))) = ws_2 at J hlen hk G2_0 G2_1 G2_2 G2_3 G2_4 G2_5
  refine lv_goto (tgt := 33) hx hb dL_fence_18 (by decide) ?_
  refine lv_iconst (v := 0) hx hb dL_fence_33 (by decide) ?_
  subst hQ
  refine vx_ret ?_
  exact W.iret (v := 0) hx hb hr (fun t ht hW => ⟨⟨0, ws_2, rfl, Or.inr ⟨rfl, e_r13.1, ⟨hk, ⟨fo_1, sp_1, nq_1, hlen, G2_1, G2_2, G2_3, G2_4, G2_5⟩⟩⟩, J.I X ht hW.alike⟩, J.F ht⟩) J.locs dL_fence_34
set_option maxHeartbeats 400000 in
set_option maxRecDepth 100000 in
theorem cL_fence_n_ok (l : Launch) (hflags : l.flags = flags0) (E : zG) {ws : va_W} {x fl rl wh gr tr sc ea nf : Nat} {mc1 lim sup off plo hrs : Int32} {ou : Nat} {o9 : Nat → Int64} {co ro le dn he ga : Int32} {qe : Nat} {g : Nat → Option Nat} (Fa0 : ws[0]? = some (x, .inr (7, [.ref fl, .ref rl, .ref wh, .ref gr, .ref tr, .ref sc, .int lim, .int sup, .int off, .int plo, .int hrs]))) (Fa1 : ws[1]? = some (fl, .inr (0, [.int mc1, .ref ea, .int (nI nf)]))) (Fa2 : ws[qe]? = some (ea, zO4 E 10 g)) (Fa3 : ws[18]? = some (ou, zL4 E 1 o9)) (hdn : dn = 0 ∨ dn = 1) (hn9 : nf ≤ 10) : vx_Met l yL_fence wsL_fence ({ frames := 8, cells := 12, slots := 80, locals := 129 } : Room) (va_Pc [.ref x, .int co, .int ro, .int le, .int dn, .int he, .int ga, .ref ou] (zV E ws)) (va_Qi (fun (r : Int32) (ws' : va_W) => (r = (kFence co ro le dn he ga (nI nf)) ∧ ¬ (kFence co ro le dn he ga (nI nf)) = 0 ∧ ws = ws') ∨ (r = 0 ∧ (kFence co ro le dn he ga (nI nf)) = 0 ∧ (zK [1, qe, 18] ws ws') ∧ (∃ fo sp : Nat, ws'.length = ws.length + 2 ∧ (ws'[1]? = some (fl, .inr (0, [.int (mc1 + 1), .ref ea, .int (nI (nf + 1))]))) ∧ (ws'[qe]? = some (ea, zO4 E 10 (va_up g nf (some fo)))) ∧ (ws'[18]? = some (ou, zL4 E 1 (vp_updL o9 0 (nI nf).toInt64))) ∧ (ws'[(ws.length + 0)]? = some (fo, .inr (1, [.int co, .int ro, .ref sp, .int he, .int ga]))) ∧ (ws'[(ws.length + 1)]? = some (sp, .inr (5, [.int (ro * 20 + co), .int le, .int dn])))))) (zI E) (zA E)) (zX E ws (fun nm => False)) 12 80 (zA E) := by
  refine vx_ofWH (cc := cL_fence) (maxL := 9) (ret := (some .int)) (hh := [(0, 18, 21, 13), (0, 18, 25, 15), (0, 18, 29, 17)]) (by decide) rfl ?_
  intro p e s m args below meth c s₁ B hml hv
  obtain ⟨hargs9, hI, hRz, hNz⟩ := hv
  have hx := B.exec
  have hb := B.bytes
  have hr := B.returns
  have hlocks := B.notSynchronized
  have X : zC E p m c cL_fence 9 s args wsL_fence RL := z_open B hml hI
  have hown := X.1.2.2.2.1
  have hts := X.1.2.2.2.2
  have htb9 : c.exceptionTable.toList = tableOf [(0, 18, 21, 13), (0, 18, 25, 15), (0, 18, 29, 17)] := vx_table (x := yL_fence) B (hts _ List.mem_cons_self)
  have J := hI.J
  have n0_2 : 0 ≠ qe := zneK Fa0 Fa2 rfl
  have n1_2 : 1 ≠ qe := zneK Fa1 Fa2 rfl
  have n2_3 : qe ≠ 18 := zneK Fa2 Fa3 rfl
  have hk : zK [1, qe, 18] ws ws := zK.rf
  have hlen : ws.length = ws.length + 0 := rfl
  have bFa0 := zlt Fa0
  have bFa1 := zlt Fa1
  have bFa2 := zlt Fa2
  have bFa3 := zlt Fa3
  have hl := lv_entry ([.ref x, .int co, .int ro, .int le, .int dn, .int he, .int ga, .ref ou]) (n := 9) (Nat.le_of_ble_eq_true rfl)
  rw [show entryFrame m args 9 = entryFrame m ([.ref x, .int co, .int ro, .int le, .int dn, .int he, .int ga, .ref ou] : List Value).toArray 9 from by rw [hargs9], lg_entry_eq]
  generalize (lg_sl ([.ref x, .int co, .int ro, .int le, .int dn, .int he, .int ga, .ref ou]) ++ List.replicate (9 - (lg_sl ([.ref x, .int co, .int ro, .int le, .int dn, .int he, .int ga, .ref ou])).length) Slot.unset).toArray = ls at hl ⊢
  have hl : lv_has ls 9 [(0, .ref x), (1, .int co), (2, .int ro), (3, .int le), (4, .int dn), (5, .int he), (6, .int ga), (7, .ref ou)] := hl
  generalize hQ : (vx_MQ below (va_Qi (fun (r : Int32) (ws' : va_W) => (r = (kFence co ro le dn he ga (nI nf)) ∧ ¬ (kFence co ro le dn he ga (nI nf)) = 0 ∧ ws = ws') ∨ (r = 0 ∧ (kFence co ro le dn he ga (nI nf)) = 0 ∧ (zK [1, qe, 18] ws ws') ∧ (∃ fo sp : Nat, ws'.length = ws.length + 2 ∧ (ws'[1]? = some (fl, .inr (0, [.int (mc1 + 1), .ref ea, .int (nI (nf + 1))]))) ∧ (ws'[qe]? = some (ea, zO4 E 10 (va_up g nf (some fo)))) ∧ (ws'[18]? = some (ou, zL4 E 1 (vp_updL o9 0 (nI nf).toInt64))) ∧ (ws'[(ws.length + 0)]? = some (fo, .inr (1, [.int co, .int ro, .ref sp, .int he, .int ga]))) ∧ (ws'[(ws.length + 1)]? = some (sp, .inr (5, [.int (ro * 20 + co), .int le, .int dn])))))) (zI E) (zA E)) (zX E ws (fun nm => False)) args s 12 80 (zA E)) = QQ
  refine lv_aload hx hb dL_fence_0 (lv_at hl 7 rfl) ?_
  refine lv_iconst (v := 0) hx hb dL_fence_2 (by decide) ?_
  refine lv_aload_n hx hb dL_fence_3 rfl (lv_at hl 0 rfl) ?_
  refine lv_iload_n hx hb dL_fence_4 rfl (lv_at hl 1 rfl) ?_
  refine lv_iload_n hx hb dL_fence_5 rfl (lv_at hl 2 rfl) ?_
  refine lv_iload_n hx hb dL_fence_6 rfl (lv_at hl 3 rfl) ?_
  refine lv_iload hx hb dL_fence_7 (lv_at hl 4 rfl) ?_
  refine lv_iload hx hb dL_fence_9 (lv_at hl 5 rfl) ?_
  refine lv_iload hx hb dL_fence_11 (lv_at hl 6 rfl) ?_
  refine z_xi J (z_yV (As := [.int co, .int ro, .int le, .int dn, .int he, .int ga]) (rest := [.int 0, .ref ou]) (ci := 7) (q0 := 0) X hRz J (cX6_fence_n_ok l hflags E Fa0 Fa1 Fa2 (by first | assumption | omega | decide) (by first | assumption | omega | decide)) (cwV 6 hts gL_fence_X6_fence rfl rfl rfl (by decide +kernel) ⟨Nat.le_of_ble_eq_true rfl, Nat.le_of_ble_eq_true rfl⟩) Fa0 rfl rfl rfl hl.1 rfl (Nat.le_of_ble_eq_true rfl) dL_fence_13 ⟨Nat.le_of_ble_eq_true rfl, Nat.le_of_ble_eq_true rfl⟩) (fun nm ce q9 H locs hp9 J h1 h2 h3 => ?_) (fun r13 ws_1 H locs hp9 J => ?_)
  · rcases hp9 with ⟨hK9, rfl⟩ | ⟨hK9, rfl⟩ | ⟨hK9, rfl⟩
    · refine vx_catch (own := RL) (name := "java/lang/IllegalArgumentException") hown [] (⟨0, 18, 21, 13⟩ : ExceptionTableEntry) [(⟨0, 18, 25, 15⟩ : ExceptionTableEntry), (⟨0, 18, 29, 17⟩ : ExceptionTableEntry)] (htb9.trans rfl) (fun _ h9 => absurd h9 List.not_mem_nil) (by decide) (by decide) (hts (.classLink RL 13 "java/lang/IllegalArgumentException") (by decide +kernel)) (va_Nw.use rfl hRz.2.1) h1 h2 h3 ?_
      refine lv_astore (lv' := [(8, .ref q9), (0, .ref x), (1, .int co), (2, .int ro), (3, .int le), (4, .int dn), (5, .int he), (6, .int ga), (7, .ref ou)]) hx hb dL_fence_21 hl (by decide) rfl (fun ls hl => ?_)
      refine lv_iconst (v := 1) hx hb dL_fence_23 (by decide) ?_
      subst hQ
      refine vx_ret ?_
      exact W.iret (v := 1) hx hb hr (fun t ht hW => ⟨⟨1, ws, rfl, Or.inl ⟨hK9.symm, by rw [hK9]; decide, rfl⟩, J.I X ht hW.alike⟩, J.F ht⟩) J.locs dL_fence_24
    · refine vx_catch (own := RL) (name := "java/lang/IndexOutOfBoundsException") hown [(⟨0, 18, 21, 13⟩ : ExceptionTableEntry)] (⟨0, 18, 25, 15⟩ : ExceptionTableEntry) [(⟨0, 18, 29, 17⟩ : ExceptionTableEntry)] (htb9.trans rfl) (List.forall_mem_cons.mpr ⟨Or.inr ⟨by decide, "java/lang/IllegalArgumentException", hts (.classLink RL 13 "java/lang/IllegalArgumentException") (by decide +kernel), hNz.2.1⟩, (fun _ h9 => absurd h9 List.not_mem_nil)⟩) (by decide) (by decide) (hts (.classLink RL 15 "java/lang/IndexOutOfBoundsException") (by decide +kernel)) (va_Nw.use rfl hRz.2.2.1) h1 h2 h3 ?_
      refine lv_astore (lv' := [(8, .ref q9), (0, .ref x), (1, .int co), (2, .int ro), (3, .int le), (4, .int dn), (5, .int he), (6, .int ga), (7, .ref ou)]) hx hb dL_fence_25 hl (by decide) rfl (fun ls hl => ?_)
      refine lv_iconst (v := 2) hx hb dL_fence_27 (by decide) ?_
      subst hQ
      refine vx_ret ?_
      exact W.iret (v := 2) hx hb hr (fun t ht hW => ⟨⟨2, ws, rfl, Or.inl ⟨hK9.symm, by rw [hK9]; decide, rfl⟩, J.I X ht hW.alike⟩, J.F ht⟩) J.locs dL_fence_28
    · refine vx_catch (own := RL) (name := "java/lang/IllegalStateException") hown [(⟨0, 18, 21, 13⟩ : ExceptionTableEntry), (⟨0, 18, 25, 15⟩ : ExceptionTableEntry)] (⟨0, 18, 29, 17⟩ : ExceptionTableEntry) [] (htb9.trans rfl) (List.forall_mem_cons.mpr ⟨Or.inr ⟨by decide, "java/lang/IllegalArgumentException", hts (.classLink RL 13 "java/lang/IllegalArgumentException") (by decide +kernel), hNz.2.2.1⟩, (List.forall_mem_cons.mpr ⟨Or.inr ⟨by decide, "java/lang/IndexOutOfBoundsException", hts (.classLink RL 15 "java/lang/IndexOutOfBoundsException") (by decide +kernel), hNz.2.2.2⟩, (fun _ h9 => absurd h9 List.not_mem_nil)⟩)⟩) (by decide) (by decide) (hts (.classLink RL 17 "java/lang/IllegalStateException") (by decide +kernel)) (va_Nw.use rfl hRz.2.2.2.1) h1 h2 h3 ?_
      refine lv_astore (lv' := [(8, .ref q9), (0, .ref x), (1, .int co), (2, .int ro), (3, .int le), (4, .int dn), (5, .int he), (6, .int ga), (7, .ref ou)]) hx hb dL_fence_29 hl (by decide) rfl (fun ls hl => ?_)
      refine lv_iconst (v := 3) hx hb dL_fence_31 (by decide) ?_
      subst hQ
      refine vx_ret ?_
      exact W.iret (v := 3) hx hb hr (fun t ht hW => ⟨⟨3, ws, rfl, Or.inl ⟨hK9.symm, by rw [hK9]; decide, rfl⟩, J.I X ht hW.alike⟩, J.F ht⟩) J.locs dL_fence_32
  obtain ⟨k1, ⟨fo_1, sp_1, hlen1, G1_a0, G1_a1, N1_0, N1_1, e_r13⟩⟩ := hp9
  have hk := hk.trans (k1.mono (by intro q9 hq9; simp only [List.mem_cons, List.not_mem_nil, or_false] at hq9 ⊢; omega))
  have G1_0 := k1.2 0 _ (by simp only [List.mem_cons, List.not_mem_nil, or_false]; omega) Fa0
  have G1_3 := k1.2 18 _ (by simp only [List.mem_cons, List.not_mem_nil, or_false]; omega) Fa3
  rw [hlen, Nat.add_assoc] at N1_0
  rw [hlen, Nat.add_assoc] at N1_1
  have hlen : ws_1.length = ws.length + 2 := by rw [hlen1, hlen]
  refine W.eq (g2 := F0 m 16 ls [.int (nI nf), .int 0, .ref ou]) (congrArg (fun z9 : Int32 => F0 m 16 ls [.int z9, .int 0, .ref ou]) (show (r13 : Int32) = nI nf from e_r13.2)) ?_
  refine lv_i2l (v := (nI nf).toInt64) hx hb dL_fence_16 rfl ?_
  refine z_last X J 18 G1_3 (vp_in_nI (n := 0) (by decide) (by decide)) dL_fence_17 (fun H locs J => ?_)
  rw [show vp_updL o9 (0 : Int32).toNatClampNeg ((nI nf).toInt64) = vp_updL o9 0 ((nI nf).toInt64) from rfl] at J
  have hk := hk.trans (zK.set (ws := ws_1) (q := 18) (e := (ou, zL4 E 1 (vp_updL o9 0 ((nI nf).toInt64)))) (by simp))
  have hlen : (ws_1.set 18 (ou, zL4 E 1 (vp_updL o9 0 ((nI nf).toInt64)))).length = ws.length + 2 := (List.length_set ..).trans hlen
  have G2_0 := zset_ne (q := 18) (e' := (ou, zL4 E 1 (vp_updL o9 0 ((nI nf).toInt64)))) (by decide) G1_0
  have G2_1 := zset_ne (q := 18) (e' := (ou, zL4 E 1 (vp_updL o9 0 ((nI nf).toInt64)))) (by decide) G1_a0
  have G2_2 := zset_ne (q := 18) (e' := (ou, zL4 E 1 (vp_updL o9 0 ((nI nf).toInt64)))) (by omega) G1_a1
  have G2_3 := zset_eq (e' := (ou, zL4 E 1 (vp_updL o9 0 ((nI nf).toInt64)))) G1_3
  have G2_4 := zset_ne (q := 18) (e' := (ou, zL4 E 1 (vp_updL o9 0 ((nI nf).toInt64)))) (Nat.ne_of_lt (Nat.lt_of_lt_of_le bFa3 (Nat.le_add_right _ _))) N1_0
  have G2_5 := zset_ne (q := 18) (e' := (ou, zL4 E 1 (vp_updL o9 0 ((nI nf).toInt64)))) (Nat.ne_of_lt (Nat.lt_of_lt_of_le bFa3 (Nat.le_add_right _ _))) N1_1
  generalize hws2 : (ws_1.set 18 (ou, zL4 E 1 (vp_updL o9 0 ((nI nf).toInt64)))) = ws_2 at J hlen hk G2_0 G2_1 G2_2 G2_3 G2_4 G2_5
  refine lv_goto (tgt := 33) hx hb dL_fence_18 (by decide) ?_
  refine lv_iconst (v := 0) hx hb dL_fence_33 (by decide) ?_
  subst hQ
  refine vx_ret ?_
  exact W.iret (v := 0) hx hb hr (fun t ht hW => ⟨⟨0, ws_2, rfl, Or.inr ⟨rfl, e_r13.1, ⟨hk, ⟨fo_1, sp_1, hlen, G2_1, G2_2, G2_3, G2_4, G2_5⟩⟩⟩, J.I X ht hW.alike⟩, J.F ht⟩) J.locs dL_fence_34
set_option maxHeartbeats 400000 in
set_option maxRecDepth 100000 in
theorem cL_road_e_ok (l : Launch) (hflags : l.flags = flags0) (E : zG) {ws : va_W} {x fl rl wh gr tr sc : Nat} {mc2 lim sup off plo hrs : Int32} {ou : Nat} {o9 : Nat → Int64} {dn ix : Int32} (Fa0 : ws[0]? = some (x, .inr (7, [.ref fl, .ref rl, .ref wh, .ref gr, .ref tr, .ref sc, .int lim, .int sup, .int off, .int plo, .int hrs]))) (Fa1 : ws[2]? = some (rl, .inr (0, [.int mc2, .ref E.2.2.1, .int 0]))) (Fa2 : ws[18]? = some (ou, zL4 E 1 o9)) (h01 : is01 dn) : vx_Met l yL_road wsL_road ({ frames := 8, cells := 12, slots := 80, locals := 125 } : Room) (va_Pc [.ref x, .int dn, .int ix, .ref ou] (zV E ws)) (va_Qi (fun (r : Int32) (ws' : va_W) => (r = (kRoad ix (nI 0)) ∧ ¬ (kRoad ix (nI 0)) = 0 ∧ ws = ws') ∨ (r = 0 ∧ (kRoad ix (nI 0)) = 0 ∧ (zK [2, 18] ws ws') ∧ (∃ fo sp nq : Nat, ws'.length = ws.length + 3 ∧ (ws'[2]? = some (rl, .inr (0, [.int (mc2 + 1), .ref nq, .int 1]))) ∧ (ws'[18]? = some (ou, zL4 E 1 (vp_updL o9 0 (nI 0).toInt64))) ∧ (ws'[(ws.length + 0)]? = some (fo, .inr (3, [.int ix, .ref sp]))) ∧ (ws'[(ws.length + 1)]? = some (sp, .inr (5, [.int (rfi dn ix), .int (nI 20), .int dn]))) ∧ (ws'[(ws.length + 2)]? = some (nq, zO4 E 10 (va_up (fun _ => none) 0 (some fo))))))) (zI E) (zA E)) (zX E ws (fun nm => False)) 12 80 (zA E) := by
  refine vx_ofWH (cc := cL_road) (maxL := 5) (ret := (some .int)) (hh := [(0, 10, 13, 15), (0, 10, 17, 17)]) (by decide) rfl ?_
  intro p e s m args below meth c s₁ B hml hv
  obtain ⟨hargs9, hI, hRz, hNz⟩ := hv
  have hx := B.exec
  have hb := B.bytes
  have hr := B.returns
  have hlocks := B.notSynchronized
  have X : zC E p m c cL_road 5 s args wsL_road RL := z_open B hml hI
  have hown := X.1.2.2.2.1
  have hts := X.1.2.2.2.2
  have htb9 : c.exceptionTable.toList = tableOf [(0, 10, 13, 15), (0, 10, 17, 17)] := vx_table (x := yL_road) B (hts _ List.mem_cons_self)
  have J := hI.J
  have hk : zK [2, 18] ws ws := zK.rf
  have hlen : ws.length = ws.length + 0 := rfl
  have bFa0 := zlt Fa0
  have bFa1 := zlt Fa1
  have bFa2 := zlt Fa2
  have hl := lv_entry ([.ref x, .int dn, .int ix, .ref ou]) (n := 5) (Nat.le_of_ble_eq_true rfl)
  rw [show entryFrame m args 5 = entryFrame m ([.ref x, .int dn, .int ix, .ref ou] : List Value).toArray 5 from by rw [hargs9], lg_entry_eq]
  generalize (lg_sl ([.ref x, .int dn, .int ix, .ref ou]) ++ List.replicate (5 - (lg_sl ([.ref x, .int dn, .int ix, .ref ou])).length) Slot.unset).toArray = ls at hl ⊢
  have hl : lv_has ls 5 [(0, .ref x), (1, .int dn), (2, .int ix), (3, .ref ou)] := hl
  generalize hQ : (vx_MQ below (va_Qi (fun (r : Int32) (ws' : va_W) => (r = (kRoad ix (nI 0)) ∧ ¬ (kRoad ix (nI 0)) = 0 ∧ ws = ws') ∨ (r = 0 ∧ (kRoad ix (nI 0)) = 0 ∧ (zK [2, 18] ws ws') ∧ (∃ fo sp nq : Nat, ws'.length = ws.length + 3 ∧ (ws'[2]? = some (rl, .inr (0, [.int (mc2 + 1), .ref nq, .int 1]))) ∧ (ws'[18]? = some (ou, zL4 E 1 (vp_updL o9 0 (nI 0).toInt64))) ∧ (ws'[(ws.length + 0)]? = some (fo, .inr (3, [.int ix, .ref sp]))) ∧ (ws'[(ws.length + 1)]? = some (sp, .inr (5, [.int (rfi dn ix), .int (nI 20), .int dn]))) ∧ (ws'[(ws.length + 2)]? = some (nq, zO4 E 10 (va_up (fun _ => none) 0 (some fo))))))) (zI E) (zA E)) (zX E ws (fun nm => False)) args s 12 80 (zA E)) = QQ
  refine lv_aload_n hx hb dL_road_0 rfl (lv_at hl 3 rfl) ?_
  refine lv_iconst (v := 0) hx hb dL_road_1 (by decide) ?_
  refine lv_aload_n hx hb dL_road_2 rfl (lv_at hl 0 rfl) ?_
  refine lv_iload_n hx hb dL_road_3 rfl (lv_at hl 1 rfl) ?_
  refine lv_iload_n hx hb dL_road_4 rfl (lv_at hl 2 rfl) ?_
  refine z_xi J (z_yV (As := [.int dn, .int ix]) (rest := [.int 0, .ref ou]) (ci := 7) (q0 := 0) X hRz J (cX6_road_e_ok l hflags E Fa0 Fa1 (by first | assumption | omega | decide)) (cwV 2 hts gL_road_X6_road rfl rfl rfl (by decide +kernel) ⟨Nat.le_of_ble_eq_true rfl, Nat.le_of_ble_eq_true rfl⟩) Fa0 rfl rfl rfl hl.1 rfl (Nat.le_of_ble_eq_true rfl) dL_road_5 ⟨Nat.le_of_ble_eq_true rfl, Nat.le_of_ble_eq_true rfl⟩) (fun nm ce q9 H locs hp9 J h1 h2 h3 => ?_) (fun r5 ws_1 H locs hp9 J => ?_)
  · rcases hp9 with ⟨hK9, rfl⟩ | ⟨hK9, rfl⟩
    · refine vx_catch (own := RL) (name := "java/lang/IndexOutOfBoundsException") hown [] (⟨0, 10, 13, 15⟩ : ExceptionTableEntry) [(⟨0, 10, 17, 17⟩ : ExceptionTableEntry)] (htb9.trans rfl) (fun _ h9 => absurd h9 List.not_mem_nil) (by decide) (by decide) (hts (.classLink RL 15 "java/lang/IndexOutOfBoundsException") (by decide +kernel)) (va_Nw.use rfl hRz.2.2.1) h1 h2 h3 ?_
      refine lv_astore (lv' := [(4, .ref q9), (0, .ref x), (1, .int dn), (2, .int ix), (3, .ref ou)]) hx hb dL_road_13 hl (by decide) rfl (fun ls hl => ?_)
      refine lv_iconst (v := 1) hx hb dL_road_15 (by decide) ?_
      subst hQ
      refine vx_ret ?_
      exact W.iret (v := 1) hx hb hr (fun t ht hW => ⟨⟨1, ws, rfl, Or.inl ⟨hK9.symm, by rw [hK9]; decide, rfl⟩, J.I X ht hW.alike⟩, J.F ht⟩) J.locs dL_road_16
    · refine vx_catch (own := RL) (name := "java/lang/IllegalStateException") hown [(⟨0, 10, 13, 15⟩ : ExceptionTableEntry)] (⟨0, 10, 17, 17⟩ : ExceptionTableEntry) [] (htb9.trans rfl) (List.forall_mem_cons.mpr ⟨Or.inr ⟨by decide, "java/lang/IndexOutOfBoundsException", hts (.classLink RL 15 "java/lang/IndexOutOfBoundsException") (by decide +kernel), hNz.2.2.2⟩, (fun _ h9 => absurd h9 List.not_mem_nil)⟩) (by decide) (by decide) (hts (.classLink RL 17 "java/lang/IllegalStateException") (by decide +kernel)) (va_Nw.use rfl hRz.2.2.2.1) h1 h2 h3 ?_
      refine lv_astore (lv' := [(4, .ref q9), (0, .ref x), (1, .int dn), (2, .int ix), (3, .ref ou)]) hx hb dL_road_17 hl (by decide) rfl (fun ls hl => ?_)
      refine lv_iconst (v := 2) hx hb dL_road_19 (by decide) ?_
      subst hQ
      refine vx_ret ?_
      exact W.iret (v := 2) hx hb hr (fun t ht hW => ⟨⟨2, ws, rfl, Or.inl ⟨hK9.symm, by rw [hK9]; decide, rfl⟩, J.I X ht hW.alike⟩, J.F ht⟩) J.locs dL_road_20
  obtain ⟨k1, ⟨fo_1, sp_1, nq_1, hlen1, G1_a0, N1_0, N1_1, N1_2, e_r5⟩⟩ := hp9
  have hk := hk.trans (k1.mono (by decide))
  have G1_0 := k1.2 0 _ (by decide) Fa0
  have G1_2 := k1.2 18 _ (by decide) Fa2
  rw [hlen, Nat.add_assoc] at N1_0
  rw [hlen, Nat.add_assoc] at N1_1
  rw [hlen, Nat.add_assoc] at N1_2
  have hlen : ws_1.length = ws.length + 3 := by rw [hlen1, hlen]
  refine W.eq (g2 := F0 m 8 ls [.int (nI 0), .int 0, .ref ou]) (congrArg (fun z9 : Int32 => F0 m 8 ls [.int z9, .int 0, .ref ou]) (show (r5 : Int32) = nI 0 from e_r5.2)) ?_
  refine lv_i2l (v := (nI 0).toInt64) hx hb dL_road_8 rfl ?_
  refine z_last X J 18 G1_2 (vp_in_nI (n := 0) (by decide) (by decide)) dL_road_9 (fun H locs J => ?_)
  rw [show vp_updL o9 (0 : Int32).toNatClampNeg ((nI 0).toInt64) = vp_updL o9 0 ((nI 0).toInt64) from rfl] at J
  have hk := hk.trans (zK.set (ws := ws_1) (q := 18) (e := (ou, zL4 E 1 (vp_updL o9 0 ((nI 0).toInt64)))) (by simp))
  have hlen : (ws_1.set 18 (ou, zL4 E 1 (vp_updL o9 0 ((nI 0).toInt64)))).length = ws.length + 3 := (List.length_set ..).trans hlen
  have G2_0 := zset_ne (q := 18) (e' := (ou, zL4 E 1 (vp_updL o9 0 ((nI 0).toInt64)))) (by decide) G1_0
  have G2_1 := zset_ne (q := 18) (e' := (ou, zL4 E 1 (vp_updL o9 0 ((nI 0).toInt64)))) (by decide) G1_a0
  have G2_2 := zset_eq (e' := (ou, zL4 E 1 (vp_updL o9 0 ((nI 0).toInt64)))) G1_2
  have G2_3 := zset_ne (q := 18) (e' := (ou, zL4 E 1 (vp_updL o9 0 ((nI 0).toInt64)))) (Nat.ne_of_lt (Nat.lt_of_lt_of_le bFa2 (Nat.le_add_right _ _))) N1_0
  have G2_4 := zset_ne (q := 18) (e' := (ou, zL4 E 1 (vp_updL o9 0 ((nI 0).toInt64)))) (Nat.ne_of_lt (Nat.lt_of_lt_of_le bFa2 (Nat.le_add_right _ _))) N1_1
  have G2_5 := zset_ne (q := 18) (e' := (ou, zL4 E 1 (vp_updL o9 0 ((nI 0).toInt64)))) (Nat.ne_of_lt (Nat.lt_of_lt_of_le bFa2 (Nat.le_add_right _ _))) N1_2
  generalize hws2 : (ws_1.set 18 (ou, zL4 E 1 (vp_updL o9 0 ((nI 0).toInt64)))) = ws_2 at J hlen hk G2_0 G2_1 G2_2 G2_3 G2_4 G2_5
  refine lv_goto (tgt := 21) hx hb dL_road_10 (by decide) ?_
  refine lv_iconst (v := 0) hx hb dL_road_21 (by decide) ?_
  subst hQ
  refine vx_ret ?_
  exact W.iret (v := 0) hx hb hr (fun t ht hW => ⟨⟨0, ws_2, rfl, Or.inr ⟨rfl, e_r5.1, ⟨hk, ⟨fo_1, sp_1, nq_1, hlen, G2_1, G2_2, G2_3, G2_4, G2_5⟩⟩⟩, J.I X ht hW.alike⟩, J.F ht⟩) J.locs dL_road_22
set_option maxHeartbeats 400000 in
set_option maxRecDepth 100000 in
theorem cL_road_n_ok (l : Launch) (hflags : l.flags = flags0) (E : zG) {ws : va_W} {x fl rl wh gr tr sc eb nr : Nat} {mc2 lim sup off plo hrs : Int32} {ou : Nat} {o9 : Nat → Int64} {dn ix : Int32} {qe : Nat} {g : Nat → Option Nat} (Fa0 : ws[0]? = some (x, .inr (7, [.ref fl, .ref rl, .ref wh, .ref gr, .ref tr, .ref sc, .int lim, .int sup, .int off, .int plo, .int hrs]))) (Fa1 : ws[2]? = some (rl, .inr (0, [.int mc2, .ref eb, .int (nI nr)]))) (Fa2 : ws[qe]? = some (eb, zO4 E 10 g)) (Fa3 : ws[18]? = some (ou, zL4 E 1 o9)) (h01 : is01 dn) (hn9 : nr ≤ 4) : vx_Met l yL_road wsL_road ({ frames := 8, cells := 12, slots := 80, locals := 125 } : Room) (va_Pc [.ref x, .int dn, .int ix, .ref ou] (zV E ws)) (va_Qi (fun (r : Int32) (ws' : va_W) => (r = (kRoad ix (nI nr)) ∧ ¬ (kRoad ix (nI nr)) = 0 ∧ ws = ws') ∨ (r = 0 ∧ (kRoad ix (nI nr)) = 0 ∧ (zK [2, qe, 18] ws ws') ∧ (∃ fo sp : Nat, ws'.length = ws.length + 2 ∧ (ws'[2]? = some (rl, .inr (0, [.int (mc2 + 1), .ref eb, .int (nI (nr + 1))]))) ∧ (ws'[qe]? = some (eb, zO4 E 10 (va_up g nr (some fo)))) ∧ (ws'[18]? = some (ou, zL4 E 1 (vp_updL o9 0 (nI nr).toInt64))) ∧ (ws'[(ws.length + 0)]? = some (fo, .inr (3, [.int ix, .ref sp]))) ∧ (ws'[(ws.length + 1)]? = some (sp, .inr (5, [.int (rfi dn ix), .int (nI 20), .int dn])))))) (zI E) (zA E)) (zX E ws (fun nm => False)) 12 80 (zA E) := by
  refine vx_ofWH (cc := cL_road) (maxL := 5) (ret := (some .int)) (hh := [(0, 10, 13, 15), (0, 10, 17, 17)]) (by decide) rfl ?_
  intro p e s m args below meth c s₁ B hml hv
  obtain ⟨hargs9, hI, hRz, hNz⟩ := hv
  have hx := B.exec
  have hb := B.bytes
  have hr := B.returns
  have hlocks := B.notSynchronized
  have X : zC E p m c cL_road 5 s args wsL_road RL := z_open B hml hI
  have hown := X.1.2.2.2.1
  have hts := X.1.2.2.2.2
  have htb9 : c.exceptionTable.toList = tableOf [(0, 10, 13, 15), (0, 10, 17, 17)] := vx_table (x := yL_road) B (hts _ List.mem_cons_self)
  have J := hI.J
  have n0_2 : 0 ≠ qe := zneK Fa0 Fa2 rfl
  have n1_2 : 2 ≠ qe := zneK Fa1 Fa2 rfl
  have n2_3 : qe ≠ 18 := zneK Fa2 Fa3 rfl
  have hk : zK [2, qe, 18] ws ws := zK.rf
  have hlen : ws.length = ws.length + 0 := rfl
  have bFa0 := zlt Fa0
  have bFa1 := zlt Fa1
  have bFa2 := zlt Fa2
  have bFa3 := zlt Fa3
  have hl := lv_entry ([.ref x, .int dn, .int ix, .ref ou]) (n := 5) (Nat.le_of_ble_eq_true rfl)
  rw [show entryFrame m args 5 = entryFrame m ([.ref x, .int dn, .int ix, .ref ou] : List Value).toArray 5 from by rw [hargs9], lg_entry_eq]
  generalize (lg_sl ([.ref x, .int dn, .int ix, .ref ou]) ++ List.replicate (5 - (lg_sl ([.ref x, .int dn, .int ix, .ref ou])).length) Slot.unset).toArray = ls at hl ⊢
  have hl : lv_has ls 5 [(0, .ref x), (1, .int dn), (2, .int ix), (3, .ref ou)] := hl
  generalize hQ : (vx_MQ below (va_Qi (fun (r : Int32) (ws' : va_W) => (r = (kRoad ix (nI nr)) ∧ ¬ (kRoad ix (nI nr)) = 0 ∧ ws = ws') ∨ (r = 0 ∧ (kRoad ix (nI nr)) = 0 ∧ (zK [2, qe, 18] ws ws') ∧ (∃ fo sp : Nat, ws'.length = ws.length + 2 ∧ (ws'[2]? = some (rl, .inr (0, [.int (mc2 + 1), .ref eb, .int (nI (nr + 1))]))) ∧ (ws'[qe]? = some (eb, zO4 E 10 (va_up g nr (some fo)))) ∧ (ws'[18]? = some (ou, zL4 E 1 (vp_updL o9 0 (nI nr).toInt64))) ∧ (ws'[(ws.length + 0)]? = some (fo, .inr (3, [.int ix, .ref sp]))) ∧ (ws'[(ws.length + 1)]? = some (sp, .inr (5, [.int (rfi dn ix), .int (nI 20), .int dn])))))) (zI E) (zA E)) (zX E ws (fun nm => False)) args s 12 80 (zA E)) = QQ
  refine lv_aload_n hx hb dL_road_0 rfl (lv_at hl 3 rfl) ?_
  refine lv_iconst (v := 0) hx hb dL_road_1 (by decide) ?_
  refine lv_aload_n hx hb dL_road_2 rfl (lv_at hl 0 rfl) ?_
  refine lv_iload_n hx hb dL_road_3 rfl (lv_at hl 1 rfl) ?_
  refine lv_iload_n hx hb dL_road_4 rfl (lv_at hl 2 rfl) ?_
  refine z_xi J (z_yV (As := [.int dn, .int ix]) (rest := [.int 0, .ref ou]) (ci := 7) (q0 := 0) X hRz J (cX6_road_n_ok l hflags E Fa0 Fa1 Fa2 (by first | assumption | omega | decide) (by first | assumption | omega | decide)) (cwV 2 hts gL_road_X6_road rfl rfl rfl (by decide +kernel) ⟨Nat.le_of_ble_eq_true rfl, Nat.le_of_ble_eq_true rfl⟩) Fa0 rfl rfl rfl hl.1 rfl (Nat.le_of_ble_eq_true rfl) dL_road_5 ⟨Nat.le_of_ble_eq_true rfl, Nat.le_of_ble_eq_true rfl⟩) (fun nm ce q9 H locs hp9 J h1 h2 h3 => ?_) (fun r5 ws_1 H locs hp9 J => ?_)
  · rcases hp9 with ⟨hK9, rfl⟩ | ⟨hK9, rfl⟩
    · refine vx_catch (own := RL) (name := "java/lang/IndexOutOfBoundsException") hown [] (⟨0, 10, 13, 15⟩ : ExceptionTableEntry) [(⟨0, 10, 17, 17⟩ : ExceptionTableEntry)] (htb9.trans rfl) (fun _ h9 => absurd h9 List.not_mem_nil) (by decide) (by decide) (hts (.classLink RL 15 "java/lang/IndexOutOfBoundsException") (by decide +kernel)) (va_Nw.use rfl hRz.2.2.1) h1 h2 h3 ?_
      refine lv_astore (lv' := [(4, .ref q9), (0, .ref x), (1, .int dn), (2, .int ix), (3, .ref ou)]) hx hb dL_road_13 hl (by decide) rfl (fun ls hl => ?_)
      refine lv_iconst (v := 1) hx hb dL_road_15 (by decide) ?_
      subst hQ
      refine vx_ret ?_
      exact W.iret (v := 1) hx hb hr (fun t ht hW => ⟨⟨1, ws, rfl, Or.inl ⟨hK9.symm, by rw [hK9]; decide, rfl⟩, J.I X ht hW.alike⟩, J.F ht⟩) J.locs dL_road_16
    · refine vx_catch (own := RL) (name := "java/lang/IllegalStateException") hown [(⟨0, 10, 13, 15⟩ : ExceptionTableEntry)] (⟨0, 10, 17, 17⟩ : ExceptionTableEntry) [] (htb9.trans rfl) (List.forall_mem_cons.mpr ⟨Or.inr ⟨by decide, "java/lang/IndexOutOfBoundsException", hts (.classLink RL 15 "java/lang/IndexOutOfBoundsException") (by decide +kernel), hNz.2.2.2⟩, (fun _ h9 => absurd h9 List.not_mem_nil)⟩) (by decide) (by decide) (hts (.classLink RL 17 "java/lang/IllegalStateException") (by decide +kernel)) (va_Nw.use rfl hRz.2.2.2.1) h1 h2 h3 ?_
      refine lv_astore (lv' := [(4, .ref q9), (0, .ref x), (1, .int dn), (2, .int ix), (3, .ref ou)]) hx hb dL_road_17 hl (by decide) rfl (fun ls hl => ?_)
      refine lv_iconst (v := 2) hx hb dL_road_19 (by decide) ?_
      subst hQ
      refine vx_ret ?_
      exact W.iret (v := 2) hx hb hr (fun t ht hW => ⟨⟨2, ws, rfl, Or.inl ⟨hK9.symm, by rw [hK9]; decide, rfl⟩, J.I X ht hW.alike⟩, J.F ht⟩) J.locs dL_road_20
  obtain ⟨k1, ⟨fo_1, sp_1, hlen1, G1_a0, G1_a1, N1_0, N1_1, e_r5⟩⟩ := hp9
  have hk := hk.trans (k1.mono (by intro q9 hq9; simp only [List.mem_cons, List.not_mem_nil, or_false] at hq9 ⊢; omega))
  have G1_0 := k1.2 0 _ (by simp only [List.mem_cons, List.not_mem_nil, or_false]; omega) Fa0
  have G1_3 := k1.2 18 _ (by simp only [List.mem_cons, List.not_mem_nil, or_false]; omega) Fa3
  rw [hlen, Nat.add_assoc] at N1_0
  rw [hlen, Nat.add_assoc] at N1_1
  have hlen : ws_1.length = ws.length + 2 := by rw [hlen1, hlen]
  refine W.eq (g2 := F0 m 8 ls [.int (nI nr), .int 0, .ref ou]) (congrArg (fun z9 : Int32 => F0 m 8 ls [.int z9, .int 0, .ref ou]) (show (r5 : Int32) = nI nr from e_r5.2)) ?_
  refine lv_i2l (v := (nI nr).toInt64) hx hb dL_road_8 rfl ?_
  refine z_last X J 18 G1_3 (vp_in_nI (n := 0) (by decide) (by decide)) dL_road_9 (fun H locs J => ?_)
  rw [show vp_updL o9 (0 : Int32).toNatClampNeg ((nI nr).toInt64) = vp_updL o9 0 ((nI nr).toInt64) from rfl] at J
  have hk := hk.trans (zK.set (ws := ws_1) (q := 18) (e := (ou, zL4 E 1 (vp_updL o9 0 ((nI nr).toInt64)))) (by simp))
  have hlen : (ws_1.set 18 (ou, zL4 E 1 (vp_updL o9 0 ((nI nr).toInt64)))).length = ws.length + 2 := (List.length_set ..).trans hlen
  have G2_0 := zset_ne (q := 18) (e' := (ou, zL4 E 1 (vp_updL o9 0 ((nI nr).toInt64)))) (by decide) G1_0
  have G2_1 := zset_ne (q := 18) (e' := (ou, zL4 E 1 (vp_updL o9 0 ((nI nr).toInt64)))) (by decide) G1_a0
  have G2_2 := zset_ne (q := 18) (e' := (ou, zL4 E 1 (vp_updL o9 0 ((nI nr).toInt64)))) (by omega) G1_a1
  have G2_3 := zset_eq (e' := (ou, zL4 E 1 (vp_updL o9 0 ((nI nr).toInt64)))) G1_3
  have G2_4 := zset_ne (q := 18) (e' := (ou, zL4 E 1 (vp_updL o9 0 ((nI nr).toInt64)))) (Nat.ne_of_lt (Nat.lt_of_lt_of_le bFa3 (Nat.le_add_right _ _))) N1_0
  have G2_5 := zset_ne (q := 18) (e' := (ou, zL4 E 1 (vp_updL o9 0 ((nI nr).toInt64)))) (Nat.ne_of_lt (Nat.lt_of_lt_of_le bFa3 (Nat.le_add_right _ _))) N1_1
  generalize hws2 : (ws_1.set 18 (ou, zL4 E 1 (vp_updL o9 0 ((nI nr).toInt64)))) = ws_2 at J hlen hk G2_0 G2_1 G2_2 G2_3 G2_4 G2_5
  refine lv_goto (tgt := 21) hx hb dL_road_10 (by decide) ?_
  refine lv_iconst (v := 0) hx hb dL_road_21 (by decide) ?_
  subst hQ
  refine vx_ret ?_
  exact W.iret (v := 0) hx hb hr (fun t ht hW => ⟨⟨0, ws_2, rfl, Or.inr ⟨rfl, e_r5.1, ⟨hk, ⟨fo_1, sp_1, hlen, G2_1, G2_2, G2_3, G2_4, G2_5⟩⟩⟩, J.I X ht hW.alike⟩, J.F ht⟩) J.locs dL_road_22
set_option maxHeartbeats 400000 in
set_option maxRecDepth 100000 in
theorem cL_change_v_ok (l : Launch) (hflags : l.flags = flags0) (E : zG) {ws : va_W} {x fl rl wh gr tr sc ea nf : Nat} {mc1 lim sup off plo hrs : Int32} {ou : Nat} {o9 : Nat → Int64} {qf fo sp k : Nat} {co ro h0 g0 he ga : Int32} {qe : Nat} {g : Nat → Option Nat} (Fa0 : ws[0]? = some (x, .inr (7, [.ref fl, .ref rl, .ref wh, .ref gr, .ref tr, .ref sc, .int lim, .int sup, .int off, .int plo, .int hrs]))) (Fa1 : ws[1]? = some (fl, .inr (0, [.int mc1, .ref ea, .int (nI nf)]))) (Fa2 : ws[qe]? = some (ea, zO4 E 10 g)) (Fa3 : ws[qf]? = some (fo, .inr (1, [.int co, .int ro, .ref sp, .int h0, .int g0]))) (Fa4 : ws[18]? = some (ou, zL4 E 1 o9)) (hn9 : nf ≤ 10) (hk9 : k < nf) (hg9 : g k = some fo) : vx_Met l yL_change wsL_change ({ frames := 8, cells := 6, slots := 40, locals := 128 } : Room) (va_Pc [.ref x, .int (nI k), .int he, .int ga, .ref ou] (zV E ws)) (va_Qi (fun (r : Int32) (ws' : va_W) => (r = (kChange (nI k) (nI nf) he ga) ∧ ¬ (kChange (nI k) (nI nf) he ga) = 0 ∧ ws = ws') ∨ (r = 0 ∧ (kChange (nI k) (nI nf) he ga) = 0 ∧ (zK [qf, 18] ws ws') ∧ (ws'[qf]? = some (fo, .inr (1, [.int co, .int ro, .ref sp, .int he, .int ga]))) ∧ (ws'[18]? = some (ou, zL4 E 1 (vp_updL o9 0 (10 * h0 + g0).toInt64))))) (zI E) (zA E)) (zX E ws (fun nm => False)) 6 40 (zA E) := by
  refine vx_ofWH (cc := cL_change) (maxL := 6) (ret := (some .int)) (hh := [(0, 12, 15, 15), (0, 12, 19, 13)]) (by decide) rfl ?_
  intro p e s m args below meth c s₁ B hml hv
  obtain ⟨hargs9, hI, hRz, hNz⟩ := hv
  have hx := B.exec
  have hb := B.bytes
  have hr := B.returns
  have hlocks := B.notSynchronized
  have X : zC E p m c cL_change 6 s args wsL_change RL := z_open B hml hI
  have hown := X.1.2.2.2.1
  have hts := X.1.2.2.2.2
  have htb9 : c.exceptionTable.toList = tableOf [(0, 12, 15, 15), (0, 12, 19, 13)] := vx_table (x := yL_change) B (hts _ List.mem_cons_self)
  have J := hI.J
  have n0_2 : 0 ≠ qe := zneK Fa0 Fa2 rfl
  have n0_3 : 0 ≠ qf := zneK Fa0 Fa3 rfl
  have n1_2 : 1 ≠ qe := zneK Fa1 Fa2 rfl
  have n1_3 : 1 ≠ qf := zneK Fa1 Fa3 rfl
  have n2_3 : qe ≠ qf := zneK Fa2 Fa3 rfl
  have n2_4 : qe ≠ 18 := zneK Fa2 Fa4 rfl
  have n3_4 : qf ≠ 18 := zneK Fa3 Fa4 rfl
  have hk : zK [qf, 18] ws ws := zK.rf
  have hl := lv_entry ([.ref x, .int (nI k), .int he, .int ga, .ref ou]) (n := 6) (Nat.le_of_ble_eq_true rfl)
  rw [show entryFrame m args 6 = entryFrame m ([.ref x, .int (nI k), .int he, .int ga, .ref ou] : List Value).toArray 6 from by rw [hargs9], lg_entry_eq]
  generalize (lg_sl ([.ref x, .int (nI k), .int he, .int ga, .ref ou]) ++ List.replicate (6 - (lg_sl ([.ref x, .int (nI k), .int he, .int ga, .ref ou])).length) Slot.unset).toArray = ls at hl ⊢
  have hl : lv_has ls 6 [(0, .ref x), (1, .int (nI k)), (2, .int he), (3, .int ga), (4, .ref ou)] := hl
  generalize hQ : (vx_MQ below (va_Qi (fun (r : Int32) (ws' : va_W) => (r = (kChange (nI k) (nI nf) he ga) ∧ ¬ (kChange (nI k) (nI nf) he ga) = 0 ∧ ws = ws') ∨ (r = 0 ∧ (kChange (nI k) (nI nf) he ga) = 0 ∧ (zK [qf, 18] ws ws') ∧ (ws'[qf]? = some (fo, .inr (1, [.int co, .int ro, .ref sp, .int he, .int ga]))) ∧ (ws'[18]? = some (ou, zL4 E 1 (vp_updL o9 0 (10 * h0 + g0).toInt64))))) (zI E) (zA E)) (zX E ws (fun nm => False)) args s 6 40 (zA E)) = QQ
  refine lv_aload hx hb dL_change_0 (lv_at hl 4 rfl) ?_
  refine lv_iconst (v := 0) hx hb dL_change_2 (by decide) ?_
  refine lv_aload_n hx hb dL_change_3 rfl (lv_at hl 0 rfl) ?_
  refine lv_iload_n hx hb dL_change_4 rfl (lv_at hl 1 rfl) ?_
  refine lv_iload_n hx hb dL_change_5 rfl (lv_at hl 2 rfl) ?_
  refine lv_iload_n hx hb dL_change_6 rfl (lv_at hl 3 rfl) ?_
  refine z_xi J (z_yV (As := [.int (nI k), .int he, .int ga]) (rest := [.int 0, .ref ou]) (ci := 7) (q0 := 0) X hRz J (cX6_change_v_ok l hflags E Fa0 Fa1 Fa2 Fa3 (by first | assumption | omega | decide) (by first | assumption | omega | decide) (by first | assumption | omega | decide)) (cwV 3 hts gL_change_X6_change rfl rfl rfl (by decide +kernel) ⟨Nat.le_of_ble_eq_true rfl, Nat.le_of_ble_eq_true rfl⟩) Fa0 rfl rfl rfl hl.1 rfl (Nat.le_of_ble_eq_true rfl) dL_change_7 ⟨Nat.le_of_ble_eq_true rfl, Nat.le_of_ble_eq_true rfl⟩) (fun nm ce q9 H locs hp9 J h1 h2 h3 => ?_) (fun r7 ws_1 H locs hp9 J => ?_)
  · obtain ⟨hK9, rfl⟩ := hp9
    refine vx_catch (own := RL) (name := "java/lang/IllegalArgumentException") hown [(⟨0, 12, 15, 15⟩ : ExceptionTableEntry)] (⟨0, 12, 19, 13⟩ : ExceptionTableEntry) [] (htb9.trans rfl) (List.forall_mem_cons.mpr ⟨Or.inr ⟨by decide, "java/lang/IndexOutOfBoundsException", hts (.classLink RL 15 "java/lang/IndexOutOfBoundsException") (by decide +kernel), hNz.1⟩, (fun _ h9 => absurd h9 List.not_mem_nil)⟩) (by decide) (by decide) (hts (.classLink RL 13 "java/lang/IllegalArgumentException") (by decide +kernel)) (va_Nw.use rfl hRz.2.1) h1 h2 h3 ?_
    refine lv_astore (lv' := [(5, .ref q9), (0, .ref x), (1, .int (nI k)), (2, .int he), (3, .int ga), (4, .ref ou)]) hx hb dL_change_19 hl (by decide) rfl (fun ls hl => ?_)
    refine lv_iconst (v := 2) hx hb dL_change_21 (by decide) ?_
    subst hQ
    refine vx_ret ?_
    exact W.iret (v := 2) hx hb hr (fun t ht hW => ⟨⟨2, ws, rfl, Or.inl ⟨hK9.symm, by rw [hK9]; decide, rfl⟩, J.I X ht hW.alike⟩, J.F ht⟩) J.locs dL_change_22
  obtain ⟨k1, hl9_1, G1_a0, e_r7⟩ := hp9
  have hk := hk.trans (k1.mono (by intro q9 hq9; simp only [List.mem_cons, List.not_mem_nil, or_false] at hq9 ⊢; omega))
  have G1_0 := k1.2 0 _ (by simp only [List.mem_cons, List.not_mem_nil, or_false]; omega) Fa0
  have G1_1 := k1.2 1 _ (by simp only [List.mem_cons, List.not_mem_nil, or_false]; omega) Fa1
  have G1_2 := k1.2 qe _ (by simp only [List.mem_cons, List.not_mem_nil, or_false]; omega) Fa2
  have G1_4 := k1.2 18 _ (by simp only [List.mem_cons, List.not_mem_nil, or_false]; omega) Fa4
  refine W.eq (g2 := F0 m 10 ls [.int (10 * h0 + g0), .int 0, .ref ou]) (congrArg (fun z9 : Int32 => F0 m 10 ls [.int z9, .int 0, .ref ou]) (show (r7 : Int32) = 10 * h0 + g0 from e_r7.2)) ?_
  refine lv_i2l (v := (10 * h0 + g0).toInt64) hx hb dL_change_10 rfl ?_
  refine z_last X J 18 G1_4 (vp_in_nI (n := 0) (by decide) (by decide)) dL_change_11 (fun H locs J => ?_)
  rw [show vp_updL o9 (0 : Int32).toNatClampNeg ((10 * h0 + g0).toInt64) = vp_updL o9 0 ((10 * h0 + g0).toInt64) from rfl] at J
  have hk := hk.trans (zK.set (ws := ws_1) (q := 18) (e := (ou, zL4 E 1 (vp_updL o9 0 ((10 * h0 + g0).toInt64)))) (by simp))
  have G2_0 := zset_ne (q := 18) (e' := (ou, zL4 E 1 (vp_updL o9 0 ((10 * h0 + g0).toInt64)))) (by decide) G1_0
  have G2_1 := zset_ne (q := 18) (e' := (ou, zL4 E 1 (vp_updL o9 0 ((10 * h0 + g0).toInt64)))) (by decide) G1_1
  have G2_2 := zset_ne (q := 18) (e' := (ou, zL4 E 1 (vp_updL o9 0 ((10 * h0 + g0).toInt64)))) (by omega) G1_2
  have G2_3 := zset_ne (q := 18) (e' := (ou, zL4 E 1 (vp_updL o9 0 ((10 * h0 + g0).toInt64)))) (by omega) G1_a0
  have G2_4 := zset_eq (e' := (ou, zL4 E 1 (vp_updL o9 0 ((10 * h0 + g0).toInt64)))) G1_4
  generalize hws2 : (ws_1.set 18 (ou, zL4 E 1 (vp_updL o9 0 ((10 * h0 + g0).toInt64)))) = ws_2 at J hk G2_0 G2_1 G2_2 G2_3 G2_4
  refine lv_goto (tgt := 23) hx hb dL_change_12 (by decide) ?_
  refine lv_iconst (v := 0) hx hb dL_change_23 (by decide) ?_
  subst hQ
  refine vx_ret ?_
  exact W.iret (v := 0) hx hb hr (fun t ht hW => ⟨⟨0, ws_2, rfl, Or.inr ⟨rfl, e_r7.1, ⟨hk, G2_3, G2_4⟩⟩, J.I X ht hW.alike⟩, J.F ht⟩) J.locs dL_change_24
set_option maxHeartbeats 400000 in
set_option maxRecDepth 100000 in
theorem cL_change_x_ok (l : Launch) (hflags : l.flags = flags0) (E : zG) {ws : va_W} {x fl rl wh gr tr sc ea nf : Nat} {mc1 lim sup off plo hrs : Int32} {ou : Nat} {o9 : Nat → Int64} {v he ga : Int32} (Fa0 : ws[0]? = some (x, .inr (7, [.ref fl, .ref rl, .ref wh, .ref gr, .ref tr, .ref sc, .int lim, .int sup, .int off, .int plo, .int hrs]))) (Fa1 : ws[1]? = some (fl, .inr (0, [.int mc1, .ref ea, .int (nI nf)]))) (Fa2 : ws[18]? = some (ou, zL4 E 1 o9)) (hn9 : nf ≤ 10) (hx9 : ¬ inR v 0 (nI nf - 1)) : vx_Met l yL_change wsL_change ({ frames := 8, cells := 6, slots := 40, locals := 128 } : Room) (va_Pc [.ref x, .int v, .int he, .int ga, .ref ou] (zV E ws)) (va_Qi (fun (r : Int32) (ws' : va_W) => (r = (kChange v (nI nf) he ga) ∧ ¬ (kChange v (nI nf) he ga) = 0 ∧ ws = ws') ∨ (r = 0 ∧ (kChange v (nI nf) he ga) = 0 ∧ (ws = ws') ∧ (False))) (zI E) (zA E)) (zX E ws (fun nm => False)) 6 40 (zA E) := by
  refine vx_ofWH (cc := cL_change) (maxL := 6) (ret := (some .int)) (hh := [(0, 12, 15, 15), (0, 12, 19, 13)]) (by decide) rfl ?_
  intro p e s m args below meth c s₁ B hml hv
  obtain ⟨hargs9, hI, hRz, hNz⟩ := hv
  have hx := B.exec
  have hb := B.bytes
  have hr := B.returns
  have hlocks := B.notSynchronized
  have X : zC E p m c cL_change 6 s args wsL_change RL := z_open B hml hI
  have hown := X.1.2.2.2.1
  have hts := X.1.2.2.2.2
  have htb9 : c.exceptionTable.toList = tableOf [(0, 12, 15, 15), (0, 12, 19, 13)] := vx_table (x := yL_change) B (hts _ List.mem_cons_self)
  have J := hI.J
  have hk : zK [] ws ws := zK.rf
  have hl := lv_entry ([.ref x, .int v, .int he, .int ga, .ref ou]) (n := 6) (Nat.le_of_ble_eq_true rfl)
  rw [show entryFrame m args 6 = entryFrame m ([.ref x, .int v, .int he, .int ga, .ref ou] : List Value).toArray 6 from by rw [hargs9], lg_entry_eq]
  generalize (lg_sl ([.ref x, .int v, .int he, .int ga, .ref ou]) ++ List.replicate (6 - (lg_sl ([.ref x, .int v, .int he, .int ga, .ref ou])).length) Slot.unset).toArray = ls at hl ⊢
  have hl : lv_has ls 6 [(0, .ref x), (1, .int v), (2, .int he), (3, .int ga), (4, .ref ou)] := hl
  generalize hQ : (vx_MQ below (va_Qi (fun (r : Int32) (ws' : va_W) => (r = (kChange v (nI nf) he ga) ∧ ¬ (kChange v (nI nf) he ga) = 0 ∧ ws = ws') ∨ (r = 0 ∧ (kChange v (nI nf) he ga) = 0 ∧ (ws = ws') ∧ (False))) (zI E) (zA E)) (zX E ws (fun nm => False)) args s 6 40 (zA E)) = QQ
  refine lv_aload hx hb dL_change_0 (lv_at hl 4 rfl) ?_
  refine lv_iconst (v := 0) hx hb dL_change_2 (by decide) ?_
  refine lv_aload_n hx hb dL_change_3 rfl (lv_at hl 0 rfl) ?_
  refine lv_iload_n hx hb dL_change_4 rfl (lv_at hl 1 rfl) ?_
  refine lv_iload_n hx hb dL_change_5 rfl (lv_at hl 2 rfl) ?_
  refine lv_iload_n hx hb dL_change_6 rfl (lv_at hl 3 rfl) ?_
  refine z_xi J (z_yV (As := [.int v, .int he, .int ga]) (rest := [.int 0, .ref ou]) (ci := 7) (q0 := 0) X hRz J (cX6_change_x_ok l hflags E Fa0 Fa1 (by first | assumption | omega | decide) (by first | assumption | omega | decide)) (cwV 3 hts gL_change_X6_change rfl rfl rfl (by decide +kernel) ⟨Nat.le_of_ble_eq_true rfl, Nat.le_of_ble_eq_true rfl⟩) Fa0 rfl rfl rfl hl.1 rfl (Nat.le_of_ble_eq_true rfl) dL_change_7 ⟨Nat.le_of_ble_eq_true rfl, Nat.le_of_ble_eq_true rfl⟩) (fun nm ce q9 H locs hp9 J h1 h2 h3 => ?_) (fun r7 ws_1 H locs hp9 J => ?_)
  · obtain ⟨hK9, rfl⟩ := hp9
    refine vx_catch (own := RL) (name := "java/lang/IndexOutOfBoundsException") hown [] (⟨0, 12, 15, 15⟩ : ExceptionTableEntry) [(⟨0, 12, 19, 13⟩ : ExceptionTableEntry)] (htb9.trans rfl) (fun _ h9 => absurd h9 List.not_mem_nil) (by decide) (by decide) (hts (.classLink RL 15 "java/lang/IndexOutOfBoundsException") (by decide +kernel)) (va_Nw.use rfl hRz.2.2.1) h1 h2 h3 ?_
    refine lv_astore (lv' := [(5, .ref q9), (0, .ref x), (1, .int v), (2, .int he), (3, .int ga), (4, .ref ou)]) hx hb dL_change_15 hl (by decide) rfl (fun ls hl => ?_)
    refine lv_iconst (v := 1) hx hb dL_change_17 (by decide) ?_
    subst hQ
    refine vx_ret ?_
    exact W.iret (v := 1) hx hb hr (fun t ht hW => ⟨⟨1, ws, rfl, Or.inl ⟨hK9.symm, by rw [hK9]; decide, rfl⟩, J.I X ht hW.alike⟩, J.F ht⟩) J.locs dL_change_18
  obtain ⟨rfl, e_r7⟩ := hp9
  exact e_r7.elim
set_option maxHeartbeats 400000 in
set_option maxRecDepth 100000 in
theorem cL_take_v_ok (l : Launch) (hflags : l.flags = flags0) (E : zG) {ws : va_W} {x fl rl wh gr tr sc ea nf : Nat} {mc1 lim sup off plo hrs : Int32} {ou : Nat} {o9 : Nat → Int64} {qe : Nat} {g : Nat → Option Nat} {k : Nat} (Fa0 : ws[0]? = some (x, .inr (7, [.ref fl, .ref rl, .ref wh, .ref gr, .ref tr, .ref sc, .int lim, .int sup, .int off, .int plo, .int hrs]))) (Fa1 : ws[1]? = some (fl, .inr (0, [.int mc1, .ref ea, .int (nI nf)]))) (Fa2 : ws[qe]? = some (ea, zO4 E 10 g)) (Fa3 : ws[18]? = some (ou, zL4 E 1 o9)) (hn9 : nf ≤ 10) (hk9 : k < nf) (hel : ∀ j : Nat, j < nf → ∃ (y qk : Nat) (vs : List Value), g j = some y ∧ ws[qk]? = some (y, .inr (1, vs))) : vx_Met l yL_take wsL_take ({ frames := 8, cells := 6, slots := 40, locals := 127 } : Room) (va_Pc [.ref x, .int (nI k), .ref ou] (zV E ws)) (va_Qi (fun (r : Int32) (ws' : va_W) => (r = (kIdx (nI k) (nI nf)) ∧ ¬ (kIdx (nI k) (nI nf)) = 0 ∧ ws = ws') ∨ (r = 0 ∧ (kIdx (nI k) (nI nf)) = 0 ∧ (zK [1, qe, 18] ws ws') ∧ (∃ (g2 : Nat → Option Nat), (ws'[1]? = some (fl, .inr (0, [.int (mc1 + 1), .ref ea, .int (nI (nf - 1))]))) ∧ (ws'[qe]? = some (ea, zO4 E 10 g2)) ∧ (ws'[18]? = some (ou, zL4 E 1 (vp_updL o9 0 (nI (nf - 1)).toInt64))) ∧ (∀ j : Nat, j < nf - 1 → g2 j = if j < k then g j else g (j + 1))))) (zI E) (zA E)) (zX E ws (fun nm => False)) 6 40 (zA E) := by
  refine vx_ofWH (cc := cL_take) (maxL := 4) (ret := (some .int)) (hh := [(0, 9, 12, 15)]) (by decide) rfl ?_
  intro p e s m args below meth c s₁ B hml hv
  obtain ⟨hargs9, hI, hRz, hNz⟩ := hv
  have hx := B.exec
  have hb := B.bytes
  have hr := B.returns
  have hlocks := B.notSynchronized
  have X : zC E p m c cL_take 4 s args wsL_take RL := z_open B hml hI
  have hown := X.1.2.2.2.1
  have hts := X.1.2.2.2.2
  have htb9 : c.exceptionTable.toList = tableOf [(0, 9, 12, 15)] := vx_table (x := yL_take) B (hts _ List.mem_cons_self)
  have J := hI.J
  have n0_2 : 0 ≠ qe := zneK Fa0 Fa2 rfl
  have n1_2 : 1 ≠ qe := zneK Fa1 Fa2 rfl
  have n2_3 : qe ≠ 18 := zneK Fa2 Fa3 rfl
  have hk : zK [1, qe, 18] ws ws := zK.rf
  have hl := lv_entry ([.ref x, .int (nI k), .ref ou]) (n := 4) (Nat.le_of_ble_eq_true rfl)
  rw [show entryFrame m args 4 = entryFrame m ([.ref x, .int (nI k), .ref ou] : List Value).toArray 4 from by rw [hargs9], lg_entry_eq]
  generalize (lg_sl ([.ref x, .int (nI k), .ref ou]) ++ List.replicate (4 - (lg_sl ([.ref x, .int (nI k), .ref ou])).length) Slot.unset).toArray = ls at hl ⊢
  have hl : lv_has ls 4 [(0, .ref x), (1, .int (nI k)), (2, .ref ou)] := hl
  generalize hQ : (vx_MQ below (va_Qi (fun (r : Int32) (ws' : va_W) => (r = (kIdx (nI k) (nI nf)) ∧ ¬ (kIdx (nI k) (nI nf)) = 0 ∧ ws = ws') ∨ (r = 0 ∧ (kIdx (nI k) (nI nf)) = 0 ∧ (zK [1, qe, 18] ws ws') ∧ (∃ (g2 : Nat → Option Nat), (ws'[1]? = some (fl, .inr (0, [.int (mc1 + 1), .ref ea, .int (nI (nf - 1))]))) ∧ (ws'[qe]? = some (ea, zO4 E 10 g2)) ∧ (ws'[18]? = some (ou, zL4 E 1 (vp_updL o9 0 (nI (nf - 1)).toInt64))) ∧ (∀ j : Nat, j < nf - 1 → g2 j = if j < k then g j else g (j + 1))))) (zI E) (zA E)) (zX E ws (fun nm => False)) args s 6 40 (zA E)) = QQ
  refine lv_aload_n hx hb dL_take_0 rfl (lv_at hl 2 rfl) ?_
  refine lv_iconst (v := 0) hx hb dL_take_1 (by decide) ?_
  refine lv_aload_n hx hb dL_take_2 rfl (lv_at hl 0 rfl) ?_
  refine lv_iload_n hx hb dL_take_3 rfl (lv_at hl 1 rfl) ?_
  refine z_xi J (z_yV (As := [.int (nI k)]) (rest := [.int 0, .ref ou]) (ci := 7) (q0 := 0) X hRz J (cX6_take_v_ok l hflags E Fa0 Fa1 Fa2 (by first | assumption | omega | decide) (by first | assumption | omega | decide) (by first | assumption | omega | decide)) (cwV 1 hts gL_take_X6_take rfl rfl rfl (by decide +kernel) ⟨Nat.le_of_ble_eq_true rfl, Nat.le_of_ble_eq_true rfl⟩) Fa0 rfl rfl rfl hl.1 rfl (Nat.le_of_ble_eq_true rfl) dL_take_4 ⟨Nat.le_of_ble_eq_true rfl, Nat.le_of_ble_eq_true rfl⟩) (fun nm ce q9 H locs hp9 J h1 h2 h3 => ?_) (fun r4 ws_1 H locs hp9 J => ?_)
  · exact False.elim (by exact hp9)
  obtain ⟨k1, ⟨g2_1, G1_a0, G1_a1, e_r4⟩⟩ := hp9
  have hk := hk.trans (k1.mono (by intro q9 hq9; simp only [List.mem_cons, List.not_mem_nil, or_false] at hq9 ⊢; omega))
  have G1_0 := k1.2 0 _ (by simp only [List.mem_cons, List.not_mem_nil, or_false]; omega) Fa0
  have G1_3 := k1.2 18 _ (by simp only [List.mem_cons, List.not_mem_nil, or_false]; omega) Fa3
  refine W.eq (g2 := F0 m 7 ls [.int (nI (nf - 1)), .int 0, .ref ou]) (congrArg (fun z9 : Int32 => F0 m 7 ls [.int z9, .int 0, .ref ou]) (show (r4 : Int32) = nI (nf - 1) from e_r4.2.1)) ?_
  refine lv_i2l (v := (nI (nf - 1)).toInt64) hx hb dL_take_7 rfl ?_
  refine z_last X J 18 G1_3 (vp_in_nI (n := 0) (by decide) (by decide)) dL_take_8 (fun H locs J => ?_)
  rw [show vp_updL o9 (0 : Int32).toNatClampNeg ((nI (nf - 1)).toInt64) = vp_updL o9 0 ((nI (nf - 1)).toInt64) from rfl] at J
  have hk := hk.trans (zK.set (ws := ws_1) (q := 18) (e := (ou, zL4 E 1 (vp_updL o9 0 ((nI (nf - 1)).toInt64)))) (by simp))
  have G2_0 := zset_ne (q := 18) (e' := (ou, zL4 E 1 (vp_updL o9 0 ((nI (nf - 1)).toInt64)))) (by decide) G1_0
  have G2_1 := zset_ne (q := 18) (e' := (ou, zL4 E 1 (vp_updL o9 0 ((nI (nf - 1)).toInt64)))) (by decide) G1_a0
  have G2_2 := zset_ne (q := 18) (e' := (ou, zL4 E 1 (vp_updL o9 0 ((nI (nf - 1)).toInt64)))) (by omega) G1_a1
  have G2_3 := zset_eq (e' := (ou, zL4 E 1 (vp_updL o9 0 ((nI (nf - 1)).toInt64)))) G1_3
  generalize hws2 : (ws_1.set 18 (ou, zL4 E 1 (vp_updL o9 0 ((nI (nf - 1)).toInt64)))) = ws_2 at J hk G2_0 G2_1 G2_2 G2_3
  refine lv_goto (tgt := 15) hx hb dL_take_9 (by decide) ?_
  refine lv_iconst (v := 0) hx hb dL_take_15 (by decide) ?_
  subst hQ
  refine vx_ret ?_
  exact W.iret (v := 0) hx hb hr (fun t ht hW => ⟨⟨0, ws_2, rfl, Or.inr ⟨rfl, e_r4.1, ⟨hk, ⟨g2_1, G2_1, G2_2, G2_3, (by exact e_r4.2.2)⟩⟩⟩, J.I X ht hW.alike⟩, J.F ht⟩) J.locs dL_take_16
set_option maxHeartbeats 400000 in
set_option maxRecDepth 100000 in
theorem cL_take_x_ok (l : Launch) (hflags : l.flags = flags0) (E : zG) {ws : va_W} {x fl rl wh gr tr sc ea nf : Nat} {mc1 lim sup off plo hrs : Int32} {ou : Nat} {o9 : Nat → Int64} {v : Int32} (Fa0 : ws[0]? = some (x, .inr (7, [.ref fl, .ref rl, .ref wh, .ref gr, .ref tr, .ref sc, .int lim, .int sup, .int off, .int plo, .int hrs]))) (Fa1 : ws[1]? = some (fl, .inr (0, [.int mc1, .ref ea, .int (nI nf)]))) (Fa2 : ws[18]? = some (ou, zL4 E 1 o9)) (hn9 : nf ≤ 10) (hx9 : ¬ inR v 0 (nI nf - 1)) : vx_Met l yL_take wsL_take ({ frames := 8, cells := 6, slots := 40, locals := 124 } : Room) (va_Pc [.ref x, .int v, .ref ou] (zV E ws)) (va_Qi (fun (r : Int32) (ws' : va_W) => (r = (kIdx v (nI nf)) ∧ ¬ (kIdx v (nI nf)) = 0 ∧ ws = ws') ∨ (r = 0 ∧ (kIdx v (nI nf)) = 0 ∧ (ws = ws') ∧ (False))) (zI E) (zA E)) (zX E ws (fun nm => False)) 6 40 (zA E) := by
  refine vx_ofWH (cc := cL_take) (maxL := 4) (ret := (some .int)) (hh := [(0, 9, 12, 15)]) (by decide) rfl ?_
  intro p e s m args below meth c s₁ B hml hv
  obtain ⟨hargs9, hI, hRz, hNz⟩ := hv
  have hx := B.exec
  have hb := B.bytes
  have hr := B.returns
  have hlocks := B.notSynchronized
  have X : zC E p m c cL_take 4 s args wsL_take RL := z_open B hml hI
  have hown := X.1.2.2.2.1
  have hts := X.1.2.2.2.2
  have htb9 : c.exceptionTable.toList = tableOf [(0, 9, 12, 15)] := vx_table (x := yL_take) B (hts _ List.mem_cons_self)
  have J := hI.J
  have hk : zK [] ws ws := zK.rf
  have hl := lv_entry ([.ref x, .int v, .ref ou]) (n := 4) (Nat.le_of_ble_eq_true rfl)
  rw [show entryFrame m args 4 = entryFrame m ([.ref x, .int v, .ref ou] : List Value).toArray 4 from by rw [hargs9], lg_entry_eq]
  generalize (lg_sl ([.ref x, .int v, .ref ou]) ++ List.replicate (4 - (lg_sl ([.ref x, .int v, .ref ou])).length) Slot.unset).toArray = ls at hl ⊢
  have hl : lv_has ls 4 [(0, .ref x), (1, .int v), (2, .ref ou)] := hl
  generalize hQ : (vx_MQ below (va_Qi (fun (r : Int32) (ws' : va_W) => (r = (kIdx v (nI nf)) ∧ ¬ (kIdx v (nI nf)) = 0 ∧ ws = ws') ∨ (r = 0 ∧ (kIdx v (nI nf)) = 0 ∧ (ws = ws') ∧ (False))) (zI E) (zA E)) (zX E ws (fun nm => False)) args s 6 40 (zA E)) = QQ
  refine lv_aload_n hx hb dL_take_0 rfl (lv_at hl 2 rfl) ?_
  refine lv_iconst (v := 0) hx hb dL_take_1 (by decide) ?_
  refine lv_aload_n hx hb dL_take_2 rfl (lv_at hl 0 rfl) ?_
  refine lv_iload_n hx hb dL_take_3 rfl (lv_at hl 1 rfl) ?_
  refine z_xi J (z_yV (As := [.int v]) (rest := [.int 0, .ref ou]) (ci := 7) (q0 := 0) X hRz J (cX6_take_x_ok l hflags E Fa0 Fa1 (by first | assumption | omega | decide) (by first | assumption | omega | decide)) (cwV 1 hts gL_take_X6_take rfl rfl rfl (by decide +kernel) ⟨Nat.le_of_ble_eq_true rfl, Nat.le_of_ble_eq_true rfl⟩) Fa0 rfl rfl rfl hl.1 rfl (Nat.le_of_ble_eq_true rfl) dL_take_4 ⟨Nat.le_of_ble_eq_true rfl, Nat.le_of_ble_eq_true rfl⟩) (fun nm ce q9 H locs hp9 J h1 h2 h3 => ?_) (fun r4 ws_1 H locs hp9 J => ?_)
  · obtain ⟨hK9, rfl⟩ := hp9
    refine vx_catch (own := RL) (name := "java/lang/IndexOutOfBoundsException") hown [] (⟨0, 9, 12, 15⟩ : ExceptionTableEntry) [] (htb9.trans rfl) (fun _ h9 => absurd h9 List.not_mem_nil) (by decide) (by decide) (hts (.classLink RL 15 "java/lang/IndexOutOfBoundsException") (by decide +kernel)) (va_Nw.use rfl hRz.2.2.1) h1 h2 h3 ?_
    refine lv_astore_n (lv' := [(3, .ref q9), (0, .ref x), (1, .int v), (2, .ref ou)]) hx hb dL_take_12 rfl hl (by decide) rfl (fun ls hl => ?_)
    refine lv_iconst (v := 1) hx hb dL_take_13 (by decide) ?_
    subst hQ
    refine vx_ret ?_
    exact W.iret (v := 1) hx hb hr (fun t ht hW => ⟨⟨1, ws, rfl, Or.inl ⟨hK9.symm, by rw [hK9]; decide, rfl⟩, J.I X ht hW.alike⟩, J.F ht⟩) J.locs dL_take_14
  obtain ⟨rfl, e_r4⟩ := hp9
  exact e_r4.elim
