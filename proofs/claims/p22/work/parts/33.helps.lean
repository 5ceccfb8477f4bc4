set_option maxHeartbeats 400000 in
set_option maxRecDepth 100000 in
theorem cX6_needIndex_ok (l : Launch) (hflags : l.flags = flags0) (E : zG) {ws : va_W} {n : Nat} {v : Int32}  (hn9 : n < 2 ^ 30) : vx_Met l yX6_needIndex wsX6_needIndex ({ frames := 6, cells := 1, slots := 6, locals := 82 } : Room) (va_Pc [.int v, .int (nI n)] (zY E ws)) (va_Qv (fun (ws' : va_W) => (ws = ws') ∧ (inR v 0 (nI n - 1))) (zI E) (zA E)) (zX E ws (fun nm => ¬ inR v 0 (nI n - 1) ∧ nm = "java/lang/IndexOutOfBoundsException")) 1 6 (zA E) := by
  refine vx_ofW (cc := cX6_needIndex) (maxL := 2) (ret := none) (by decide) rfl ?_
  intro p e s m args below meth c s₁ B hml htab hv
  obtain ⟨hargs9, hI, hRz⟩ := hv
  have hx := B.exec
  have hb := B.bytes
  have hr := B.returns
  have hlocks := B.notSynchronized
  have X : zC E p m c cX6_needIndex 2 s args wsX6_needIndex RX6 := z_open B hml hI
  have hown := X.1.2.2.2.1
  have hts := X.1.2.2.2.2
  have J := hI.J
  have hk : zK [] ws ws := zK.rf
  have hl := lv_entry ([.int v, .int (nI n)]) (n := 2) (Nat.le_of_ble_eq_true rfl)
  rw [show entryFrame m args 2 = entryFrame m ([.int v, .int (nI n)] : List Value).toArray 2 from by rw [hargs9], lg_entry_eq]
  generalize (lg_sl ([.int v, .int (nI n)]) ++ List.replicate (2 - (lg_sl ([.int v, .int (nI n)])).length) Slot.unset).toArray = ls at hl ⊢
  have hl : lv_has ls 2 [(0, .int v), (1, .int (nI n))] := hl
  generalize hQ : (vx_MQ below (va_Qv (fun (ws' : va_W) => (ws = ws') ∧ (inR v 0 (nI n - 1))) (zI E) (zA E)) (zX E ws (fun nm => ¬ inR v 0 (nI n - 1) ∧ nm = "java/lang/IndexOutOfBoundsException")) args s 1 6 (zA E)) = QQ
  refine lv_iload_n hx hb dX6_needIndex_0 rfl (lv_at hl 0 rfl) ?_
  refine lv_if_lt (tgt := 9) hx hb dX6_needIndex_1 (by decide) (fun cz1 => ?_) (fun cz1 => ?_)
  · subst hQ
    exact z_throw (ik := 227) (is := 229) (ic := 231) (cls := "java/lang/IndexOutOfBoundsException") hflags X hRz J htab hlocks hl.1 zfitX (by decide +kernel) (by decide +kernel) (List.mem_of_getElem? (i := 6) rfl) (fun w9 h9 => List.mem_cons_of_mem _ (List.mem_append_right _ h9)) zbadX hRz.2.2.1 zgoodX dX6_needIndex_9 dX6_needIndex_12 dX6_needIndex_13 dX6_needIndex_15 dX6_needIndex_18 (Nat.le_of_ble_eq_true rfl) (Nat.le_of_ble_eq_true rfl) (Nat.le_of_ble_eq_true rfl) (Nat.le_of_ble_eq_true rfl) (by exact ⟨ixN0 cz1, rfl⟩) (Nat.le_of_ble_eq_true rfl) (Nat.le_of_ble_eq_true rfl)
  · refine lv_iload_n hx hb dX6_needIndex_4 rfl (lv_at hl 0 rfl) ?_
    refine lv_iload_n hx hb dX6_needIndex_5 rfl (lv_at hl 1 rfl) ?_
    refine lv_icmp_lt (tgt := 19) hx hb dX6_needIndex_6 (by decide) (fun cz6 => ?_) (fun cz6 => ?_)
    · refine W.widen (k := 1) (n := 6) (by omega) (by omega) ?_
      subst hQ
      refine vx_ret ?_
      exact W.vret hx hb hr (fun t ht hW => ⟨⟨ws, rfl, ⟨rfl, (by exact ixR hn9 cz1 (Int32.not_le.mpr cz6))⟩, J.I X ht hW.alike⟩, J.F ht⟩) J.locs dX6_needIndex_19
    · subst hQ
      exact z_throw (ik := 227) (is := 229) (ic := 231) (cls := "java/lang/IndexOutOfBoundsException") hflags X hRz J htab hlocks hl.1 zfitX (by decide +kernel) (by decide +kernel) (List.mem_of_getElem? (i := 6) rfl) (fun w9 h9 => List.mem_cons_of_mem _ (List.mem_append_right _ h9)) zbadX hRz.2.2.1 zgoodX dX6_needIndex_9 dX6_needIndex_12 dX6_needIndex_13 dX6_needIndex_15 dX6_needIndex_18 (Nat.le_of_ble_eq_true rfl) (Nat.le_of_ble_eq_true rfl) (Nat.le_of_ble_eq_true rfl) (Nat.le_of_ble_eq_true rfl) (by exact ⟨ixN1 hn9 (Int32.not_lt.mp cz6), rfl⟩) (Nat.le_of_ble_eq_true rfl) (Nat.le_of_ble_eq_true rfl)
set_option maxHeartbeats 400000 in
set_option maxRecDepth 100000 in
theorem cX6_needWind_ok (l : Launch) (hflags : l.flags = flags0) (E : zG) {ws : va_W} {v : Int32}   : vx_Met l yX6_needWind wsX6_needWind ({ frames := 7, cells := 1, slots := 6, locals := 103 } : Room) (va_Pc [.int v] (zY E ws)) (va_Qv (fun (ws' : va_W) => (ws = ws') ∧ (inR v 0 3)) (zI E) (zA E)) (zX E ws (fun nm => ¬ inR v 0 3 ∧ nm = "java/lang/IndexOutOfBoundsException")) 1 6 (zA E) := by
  refine vx_ofW (cc := cX6_needWind) (maxL := 1) (ret := none) (by decide) rfl ?_
  intro p e s m args below meth c s₁ B hml htab hv
  obtain ⟨hargs9, hI, hRz⟩ := hv
  have hx := B.exec
  have hb := B.bytes
  have hr := B.returns
  have hlocks := B.notSynchronized
  have X : zC E p m c cX6_needWind 1 s args wsX6_needWind RX6 := z_open B hml hI
  have hown := X.1.2.2.2.1
  have hts := X.1.2.2.2.2
  have J := hI.J
  have hk : zK [] ws ws := zK.rf
  have hl := lv_entry ([.int v]) (n := 1) (Nat.le_of_ble_eq_true rfl)
  rw [show entryFrame m args 1 = entryFrame m ([.int v] : List Value).toArray 1 from by rw [hargs9], lg_entry_eq]
  generalize (lg_sl ([.int v]) ++ List.replicate (1 - (lg_sl ([.int v])).length) Slot.unset).toArray = ls at hl ⊢
  have hl : lv_has ls 1 [(0, .int v)] := hl
  generalize hQ : (vx_MQ below (va_Qv (fun (ws' : va_W) => (ws = ws') ∧ (inR v 0 3)) (zI E) (zA E)) (zX E ws (fun nm => ¬ inR v 0 3 ∧ nm = "java/lang/IndexOutOfBoundsException")) args s 1 6 (zA E)) = QQ
  refine lv_iload_n hx hb dX6_needWind_0 rfl (lv_at hl 0 rfl) ?_
  refine lv_iconst (v := 4) hx hb dX6_needWind_1 (by decide) ?_
  refine z_xv J (z_yS (As := [.int v, .int 4]) (rest := []) X hRz J (cX6_needIndex_ok l hflags E (n := 4) (by decide)) (va_cwS 2 hts gX6_needWind_X6_needIndex rfl rfl rfl (by decide +kernel) ⟨Nat.le_of_ble_eq_true rfl, Nat.le_of_ble_eq_true rfl⟩) rfl hl.1 rfl (Nat.le_of_ble_eq_true rfl) dX6_needWind_2 ⟨Nat.le_of_ble_eq_true rfl, Nat.le_of_ble_eq_true rfl⟩) (fun nm ce q9 H locs hp9 J h1 h2 h3 => ?_) (fun ws_1 H locs hp9 J => ?_)
  · subst hQ
    exact z_out X J htab hlocks h1 h2 h3 (by exact hp9) (Nat.le_of_ble_eq_true rfl) (Nat.le_of_ble_eq_true rfl)
  obtain ⟨rfl, e_r2⟩ := hp9
  subst hQ
  refine vx_ret ?_
  exact W.vret hx hb hr (fun t ht hW => ⟨⟨ws, rfl, ⟨rfl, (by exact e_r2)⟩, J.I X ht hW.alike⟩, J.F ht⟩) J.locs dX6_needWind_5
set_option maxHeartbeats 400000 in
set_option maxRecDepth 100000 in
theorem cX6_needHeight_ok (l : Launch) (hflags : l.flags = flags0) (E : zG) {ws : va_W} {v : Int32}   : vx_Met l yX6_needHeight wsX6_needHeight ({ frames := 6, cells := 1, slots := 6, locals := 82 } : Room) (va_Pc [.int v] (zY E ws)) (va_Qv (fun (ws' : va_W) => (ws = ws') ∧ (inR v 1 9)) (zI E) (zA E)) (zX E ws (fun nm => ¬ inR v 1 9 ∧ nm = "java/lang/IllegalArgumentException")) 1 6 (zA E) := by
  refine vx_ofW (cc := cX6_needHeight) (maxL := 1) (ret := none) (by decide) rfl ?_
  intro p e s m args below meth c s₁ B hml htab hv
  obtain ⟨hargs9, hI, hRz⟩ := hv
  have hx := B.exec
  have hb := B.bytes
  have hr := B.returns
  have hlocks := B.notSynchronized
  have X : zC E p m c cX6_needHeight 1 s args wsX6_needHeight RX6 := z_open B hml hI
  have hown := X.1.2.2.2.1
  have hts := X.1.2.2.2.2
  have J := hI.J
  have hk : zK [] ws ws := zK.rf
  have hl := lv_entry ([.int v]) (n := 1) (Nat.le_of_ble_eq_true rfl)
  rw [show entryFrame m args 1 = entryFrame m ([.int v] : List Value).toArray 1 from by rw [hargs9], lg_entry_eq]
  generalize (lg_sl ([.int v]) ++ List.replicate (1 - (lg_sl ([.int v])).length) Slot.unset).toArray = ls at hl ⊢
  have hl : lv_has ls 1 [(0, .int v)] := hl
  generalize hQ : (vx_MQ below (va_Qv (fun (ws' : va_W) => (ws = ws') ∧ (inR v 1 9)) (zI E) (zA E)) (zX E ws (fun nm => ¬ inR v 1 9 ∧ nm = "java/lang/IllegalArgumentException")) args s 1 6 (zA E)) = QQ
  refine lv_iload_n hx hb dX6_needHeight_0 rfl (lv_at hl 0 rfl) ?_
  refine lv_iconst (v := 1) hx hb dX6_needHeight_1 (by decide) ?_
  refine lv_icmp_lt (tgt := 11) hx hb dX6_needHeight_2 (by decide) (fun cz2 => ?_) (fun cz2 => ?_)
  · subst hQ
    exact z_throw (ik := 49) (is := 232) (ic := 53) (cls := "java/lang/IllegalArgumentException") hflags X hRz J htab hlocks hl.1 zfitA (by decide +kernel) (by decide +kernel) (List.mem_of_getElem? (i := 7) rfl) (fun w9 h9 => List.mem_cons_of_mem _ (List.mem_append_right _ h9)) zbadA hRz.2.1 zgoodA dX6_needHeight_11 dX6_needHeight_14 dX6_needHeight_15 dX6_needHeight_17 dX6_needHeight_20 (Nat.le_of_ble_eq_true rfl) (Nat.le_of_ble_eq_true rfl) (Nat.le_of_ble_eq_true rfl) (Nat.le_of_ble_eq_true rfl) (by exact ⟨fun q9 => q9.1 cz2, rfl⟩) (Nat.le_of_ble_eq_true rfl) (Nat.le_of_ble_eq_true rfl)
  · refine lv_iload_n hx hb dX6_needHeight_5 rfl (lv_at hl 0 rfl) ?_
    refine lv_bipush (v := 9) hx hb dX6_needHeight_6 (by decide) ?_
    refine lv_icmp_le (tgt := 21) hx hb dX6_needHeight_8 (by decide) (fun cz8 => ?_) (fun cz8 => ?_)
    · refine W.widen (k := 1) (n := 6) (by omega) (by omega) ?_
      subst hQ
      refine vx_ret ?_
      exact W.vret hx hb hr (fun t ht hW => ⟨⟨ws, rfl, ⟨rfl, (by exact ⟨cz2, Int32.not_lt.mpr cz8⟩)⟩, J.I X ht hW.alike⟩, J.F ht⟩) J.locs dX6_needHeight_21
    · subst hQ
      exact z_throw (ik := 49) (is := 232) (ic := 53) (cls := "java/lang/IllegalArgumentException") hflags X hRz J htab hlocks hl.1 zfitA (by decide +kernel) (by decide +kernel) (List.mem_of_getElem? (i := 7) rfl) (fun w9 h9 => List.mem_cons_of_mem _ (List.mem_append_right _ h9)) zbadA hRz.2.1 zgoodA dX6_needHeight_11 dX6_needHeight_14 dX6_needHeight_15 dX6_needHeight_17 dX6_needHeight_20 (Nat.le_of_ble_eq_true rfl) (Nat.le_of_ble_eq_true rfl) (Nat.le_of_ble_eq_true rfl) (Nat.le_of_ble_eq_true rfl) (by exact ⟨fun q9 => q9.2 (Int32.not_le.mp cz8), rfl⟩) (Nat.le_of_ble_eq_true rfl) (Nat.le_of_ble_eq_true rfl)
set_option maxHeartbeats 400000 in
set_option maxRecDepth 100000 in
theorem cX6_needGap_ok (l : Launch) (hflags : l.flags = flags0) (E : zG) {ws : va_W} {v : Int32}   : vx_Met l yX6_needGap wsX6_needGap ({ frames := 6, cells := 1, slots := 6, locals := 82 } : Room) (va_Pc [.int v] (zY E ws)) (va_Qv (fun (ws' : va_W) => (ws = ws') ∧ (inR v 0 3)) (zI E) (zA E)) (zX E ws (fun nm => ¬ inR v 0 3 ∧ nm = "java/lang/IllegalArgumentException")) 1 6 (zA E) := by
  refine vx_ofW (cc := cX6_needGap) (maxL := 1) (ret := none) (by decide) rfl ?_
  intro p e s m args below meth c s₁ B hml htab hv
  obtain ⟨hargs9, hI, hRz⟩ := hv
  have hx := B.exec
  have hb := B.bytes
  have hr := B.returns
  have hlocks := B.notSynchronized
  have X : zC E p m c cX6_needGap 1 s args wsX6_needGap RX6 := z_open B hml hI
  have hown := X.1.2.2.2.1
  have hts := X.1.2.2.2.2
  have J := hI.J
  have hk : zK [] ws ws := zK.rf
  have hl := lv_entry ([.int v]) (n := 1) (Nat.le_of_ble_eq_true rfl)
  rw [show entryFrame m args 1 = entryFrame m ([.int v] : List Value).toArray 1 from by rw [hargs9], lg_entry_eq]
  generalize (lg_sl ([.int v]) ++ List.replicate (1 - (lg_sl ([.int v])).length) Slot.unset).toArray = ls at hl ⊢
  have hl : lv_has ls 1 [(0, .int v)] := hl
  generalize hQ : (vx_MQ below (va_Qv (fun (ws' : va_W) => (ws = ws') ∧ (inR v 0 3)) (zI E) (zA E)) (zX E ws (fun nm => ¬ inR v 0 3 ∧ nm = "java/lang/IllegalArgumentException")) args s 1 6 (zA E)) = QQ
  refine lv_iload_n hx hb dX6_needGap_0 rfl (lv_at hl 0 rfl) ?_
  refine lv_if_lt (tgt := 9) hx hb dX6_needGap_1 (by decide) (fun cz1 => ?_) (fun cz1 => ?_)
  · subst hQ
    exact z_throw (ik := 49) (is := 234) (ic := 53) (cls := "java/lang/IllegalArgumentException") hflags X hRz J htab hlocks hl.1 zfitA (by decide +kernel) (by decide +kernel) (List.mem_of_getElem? (i := 8) rfl) (fun w9 h9 => List.mem_cons_of_mem _ (List.mem_append_right _ h9)) zbadA hRz.2.1 zgoodA dX6_needGap_9 dX6_needGap_12 dX6_needGap_13 dX6_needGap_15 dX6_needGap_18 (Nat.le_of_ble_eq_true rfl) (Nat.le_of_ble_eq_true rfl) (Nat.le_of_ble_eq_true rfl) (Nat.le_of_ble_eq_true rfl) (by exact ⟨fun q9 => q9.1 cz1, rfl⟩) (Nat.le_of_ble_eq_true rfl) (Nat.le_of_ble_eq_true rfl)
  · refine lv_iload_n hx hb dX6_needGap_4 rfl (lv_at hl 0 rfl) ?_
    refine lv_iconst (v := 3) hx hb dX6_needGap_5 (by decide) ?_
    refine lv_icmp_le (tgt := 19) hx hb dX6_needGap_6 (by decide) (fun cz6 => ?_) (fun cz6 => ?_)
    · refine W.widen (k := 1) (n := 6) (by omega) (by omega) ?_
      subst hQ
      refine vx_ret ?_
      exact W.vret hx hb hr (fun t ht hW => ⟨⟨ws, rfl, ⟨rfl, (by exact ⟨cz1, Int32.not_lt.mpr cz6⟩)⟩, J.I X ht hW.alike⟩, J.F ht⟩) J.locs dX6_needGap_19
    · subst hQ
      exact z_throw (ik := 49) (is := 234) (ic := 53) (cls := "java/lang/IllegalArgumentException") hflags X hRz J htab hlocks hl.1 zfitA (by decide +kernel) (by decide +kernel) (List.mem_of_getElem? (i := 8) rfl) (fun w9 h9 => List.mem_cons_of_mem _ (List.mem_append_right _ h9)) zbadA hRz.2.1 zgoodA dX6_needGap_9 dX6_needGap_12 dX6_needGap_13 dX6_needGap_15 dX6_needGap_18 (Nat.le_of_ble_eq_true rfl) (Nat.le_of_ble_eq_true rfl) (Nat.le_of_ble_eq_true rfl) (Nat.le_of_ble_eq_true rfl) (by exact ⟨fun q9 => q9.2 (Int32.not_le.mp cz6), rfl⟩) (Nat.le_of_ble_eq_true rfl) (Nat.le_of_ble_eq_true rfl)
set_option maxHeartbeats 400000 in
set_option maxRecDepth 100000 in
theorem cX6_needStrength_ok (l : Launch) (hflags : l.flags = flags0) (E : zG) {ws : va_W} {v : Int32}   : vx_Met l yX6_needStrength wsX6_needStrength ({ frames := 6, cells := 1, slots := 6, locals := 82 } : Room) (va_Pc [.int v] (zY E ws)) (va_Qv (fun (ws' : va_W) => (ws = ws') ∧ (inR v 1 9)) (zI E) (zA E)) (zX E ws (fun nm => ¬ inR v 1 9 ∧ nm = "java/lang/IllegalArgumentException")) 1 6 (zA E) := by
  refine vx_ofW (cc := cX6_needStrength) (maxL := 1) (ret := none) (by decide) rfl ?_
  intro p e s m args below meth c s₁ B hml htab hv
  obtain ⟨hargs9, hI, hRz⟩ := hv
  have hx := B.exec
  have hb := B.bytes
  have hr := B.returns
  have hlocks := B.notSynchronized
  have X : zC E p m c cX6_needStrength 1 s args wsX6_needStrength RX6 := z_open B hml hI
  have hown := X.1.2.2.2.1
  have hts := X.1.2.2.2.2
  have J := hI.J
  have hk : zK [] ws ws := zK.rf
  have hl := lv_entry ([.int v]) (n := 1) (Nat.le_of_ble_eq_true rfl)
  rw [show entryFrame m args 1 = entryFrame m ([.int v] : List Value).toArray 1 from by rw [hargs9], lg_entry_eq]
  generalize (lg_sl ([.int v]) ++ List.replicate (1 - (lg_sl ([.int v])).length) Slot.unset).toArray = ls at hl ⊢
  have hl : lv_has ls 1 [(0, .int v)] := hl
  generalize hQ : (vx_MQ below (va_Qv (fun (ws' : va_W) => (ws = ws') ∧ (inR v 1 9)) (zI E) (zA E)) (zX E ws (fun nm => ¬ inR v 1 9 ∧ nm = "java/lang/IllegalArgumentException")) args s 1 6 (zA E)) = QQ
  refine lv_iload_n hx hb dX6_needStrength_0 rfl (lv_at hl 0 rfl) ?_
  refine lv_iconst (v := 1) hx hb dX6_needStrength_1 (by decide) ?_
  refine lv_icmp_lt (tgt := 11) hx hb dX6_needStrength_2 (by decide) (fun cz2 => ?_) (fun cz2 => ?_)
  · subst hQ
    exact z_throw (ik := 49) (is := 236) (ic := 53) (cls := "java/lang/IllegalArgumentException") hflags X hRz J htab hlocks hl.1 zfitA (by decide +kernel) (by decide +kernel) (List.mem_of_getElem? (i := 9) rfl) (fun w9 h9 => List.mem_cons_of_mem _ (List.mem_append_right _ h9)) zbadA hRz.2.1 zgoodA dX6_needStrength_11 dX6_needStrength_14 dX6_needStrength_15 dX6_needStrength_17 dX6_needStrength_20 (Nat.le_of_ble_eq_true rfl) (Nat.le_of_ble_eq_true rfl) (Nat.le_of_ble_eq_true rfl) (Nat.le_of_ble_eq_true rfl) (by exact ⟨fun q9 => q9.1 cz2, rfl⟩) (Nat.le_of_ble_eq_true rfl) (Nat.le_of_ble_eq_true rfl)
  · refine lv_iload_n hx hb dX6_needStrength_5 rfl (lv_at hl 0 rfl) ?_
    refine lv_bipush (v := 9) hx hb dX6_needStrength_6 (by decide) ?_
    refine lv_icmp_le (tgt := 21) hx hb dX6_needStrength_8 (by decide) (fun cz8 => ?_) (fun cz8 => ?_)
    · refine W.widen (k := 1) (n := 6) (by omega) (by omega) ?_
      subst hQ
      refine vx_ret ?_
      exact W.vret hx hb hr (fun t ht hW => ⟨⟨ws, rfl, ⟨rfl, (by exact ⟨cz2, Int32.not_lt.mpr cz8⟩)⟩, J.I X ht hW.alike⟩, J.F ht⟩) J.locs dX6_needStrength_21
    · subst hQ
      exact z_throw (ik := 49) (is := 236) (ic := 53) (cls := "java/lang/IllegalArgumentException") hflags X hRz J htab hlocks hl.1 zfitA (by decide +kernel) (by decide +kernel) (List.mem_of_getElem? (i := 9) rfl) (fun w9 h9 => List.mem_cons_of_mem _ (List.mem_append_right _ h9)) zbadA hRz.2.1 zgoodA dX6_needStrength_11 dX6_needStrength_14 dX6_needStrength_15 dX6_needStrength_17 dX6_needStrength_20 (Nat.le_of_ble_eq_true rfl) (Nat.le_of_ble_eq_true rfl) (Nat.le_of_ble_eq_true rfl) (Nat.le_of_ble_eq_true rfl) (by exact ⟨fun q9 => q9.2 (Int32.not_le.mp cz8), rfl⟩) (Nat.le_of_ble_eq_true rfl) (Nat.le_of_ble_eq_true rfl)
set_option maxHeartbeats 400000 in
set_option maxRecDepth 100000 in
theorem cX6_needHours_ok (l : Launch) (hflags : l.flags = flags0) (E : zG) {ws : va_W} {v : Int32}   : vx_Met l yX6_needHours wsX6_needHours ({ frames := 6, cells := 1, slots := 6, locals := 82 } : Room) (va_Pc [.int v] (zY E ws)) (va_Qv (fun (ws' : va_W) => (ws = ws') ∧ (inR v 1 24)) (zI E) (zA E)) (zX E ws (fun nm => ¬ inR v 1 24 ∧ nm = "java/lang/IllegalArgumentException")) 1 6 (zA E) := by
  refine vx_ofW (cc := cX6_needHours) (maxL := 1) (ret := none) (by decide) rfl ?_
  intro p e s m args below meth c s₁ B hml htab hv
  obtain ⟨hargs9, hI, hRz⟩ := hv
  have hx := B.exec
  have hb := B.bytes
  have hr := B.returns
  have hlocks := B.notSynchronized
  have X : zC E p m c cX6_needHours 1 s args wsX6_needHours RX6 := z_open B hml hI
  have hown := X.1.2.2.2.1
  have hts := X.1.2.2.2.2
  have J := hI.J
  have hk : zK [] ws ws := zK.rf
  have hl := lv_entry ([.int v]) (n := 1) (Nat.le_of_ble_eq_true rfl)
  rw [show entryFrame m args 1 = entryFrame m ([.int v] : List Value).toArray 1 from by rw [hargs9], lg_entry_eq]
  generalize (lg_sl ([.int v]) ++ List.replicate (1 - (lg_sl ([.int v])).length) Slot.unset).toArray = ls at hl ⊢
  have hl : lv_has ls 1 [(0, .int v)] := hl
  generalize hQ : (vx_MQ below (va_Qv (fun (ws' : va_W) => (ws = ws') ∧ (inR v 1 24)) (zI E) (zA E)) (zX E ws (fun nm => ¬ inR v 1 24 ∧ nm = "java/lang/IllegalArgumentException")) args s 1 6 (zA E)) = QQ
  refine lv_iload_n hx hb dX6_needHours_0 rfl (lv_at hl 0 rfl) ?_
  refine lv_iconst (v := 1) hx hb dX6_needHours_1 (by decide) ?_
  refine lv_icmp_lt (tgt := 11) hx hb dX6_needHours_2 (by decide) (fun cz2 => ?_) (fun cz2 => ?_)
  · subst hQ
    exact z_throw (ik := 49) (is := 238) (ic := 53) (cls := "java/lang/IllegalArgumentException") hflags X hRz J htab hlocks hl.1 zfitA (by decide +kernel) (by decide +kernel) (List.mem_of_getElem? (i := 10) rfl) (fun w9 h9 => List.mem_cons_of_mem _ (List.mem_append_right _ h9)) zbadA hRz.2.1 zgoodA dX6_needHours_11 dX6_needHours_14 dX6_needHours_15 dX6_needHours_17 dX6_needHours_20 (Nat.le_of_ble_eq_true rfl) (Nat.le_of_ble_eq_true rfl) (Nat.le_of_ble_eq_true rfl) (Nat.le_of_ble_eq_true rfl) (by exact ⟨fun q9 => q9.1 cz2, rfl⟩) (Nat.le_of_ble_eq_true rfl) (Nat.le_of_ble_eq_true rfl)
  · refine lv_iload_n hx hb dX6_needHours_5 rfl (lv_at hl 0 rfl) ?_
    refine lv_bipush (v := 24) hx hb dX6_needHours_6 (by decide) ?_
    refine lv_icmp_le (tgt := 21) hx hb dX6_needHours_8 (by decide) (fun cz8 => ?_) (fun cz8 => ?_)
    · refine W.widen (k := 1) (n := 6) (by omega) (by omega) ?_
      subst hQ
      refine vx_ret ?_
      exact W.vret hx hb hr (fun t ht hW => ⟨⟨ws, rfl, ⟨rfl, (by exact ⟨cz2, Int32.not_lt.mpr cz8⟩)⟩, J.I X ht hW.alike⟩, J.F ht⟩) J.locs dX6_needHours_21
    · subst hQ
      exact z_throw (ik := 49) (is := 238) (ic := 53) (cls := "java/lang/IllegalArgumentException") hflags X hRz J htab hlocks hl.1 zfitA (by decide +kernel) (by decide +kernel) (List.mem_of_getElem? (i := 10) rfl) (fun w9 h9 => List.mem_cons_of_mem _ (List.mem_append_right _ h9)) zbadA hRz.2.1 zgoodA dX6_needHours_11 dX6_needHours_14 dX6_needHours_15 dX6_needHours_17 dX6_needHours_20 (Nat.le_of_ble_eq_true rfl) (Nat.le_of_ble_eq_true rfl) (Nat.le_of_ble_eq_true rfl) (Nat.le_of_ble_eq_true rfl) (by exact ⟨fun q9 => q9.2 (Int32.not_le.mp cz8), rfl⟩) (Nat.le_of_ble_eq_true rfl) (Nat.le_of_ble_eq_true rfl)
set_option maxHeartbeats 400000 in
set_option maxRecDepth 100000 in
theorem cX6_straight_ok (l : Launch) (E : zG) {ws : va_W} {dn ix : Int32}  (h01 : is01 dn) : Met l yX6_straight wsX6_straight ({ frames := 2, cells := 1, slots := 3, locals := 36 } : Room) (va_Pc [.int dn, .int ix] (zI E ws)) (va_Qq (fun (r : Option Nat) (ws' : va_W) => (zK [] ws ws') ∧ (∃ sp : Nat, ws'.length = ws.length + 1 ∧ (ws'[(ws.length + 0)]? = some (sp, .inr (5, [.int (rfi dn ix), .int (nI 20), .int dn]))) ∧ (r = some sp))) (zI E) (zA E)) 1 3 (zA E) := by
  refine Met.ofW (cc := cX6_straight) (maxL := 2) (ret := (some (.object "SnowFences$Strip"))) (by decide) rfl ?_
  intro p e s m args below meth c s₁ B hml hv
  obtain ⟨hargs9, hI⟩ := hv
  have hx := B.exec
  have hb := B.bytes
  have hr := B.returns
  have hlocks := B.notSynchronized
  have X : zC E p m c cX6_straight 2 s args wsX6_straight RX6 := z_open B hml hI
  have hown := X.1.2.2.2.1
  have hts := X.1.2.2.2.2
  have J := hI.J
  have hi_X4 : ∀ w ∈ wsX40, w ∈ wsX6_straight := by decide +kernel
  have hk : zK [] ws ws := zK.rf
  have hlen : ws.length = ws.length + 0 := rfl
  have hl := lv_entry ([.int dn, .int ix]) (n := 2) (Nat.le_of_ble_eq_true rfl)
  rw [show entryFrame m args 2 = entryFrame m ([.int dn, .int ix] : List Value).toArray 2 from by rw [hargs9], lg_entry_eq]
  generalize (lg_sl ([.int dn, .int ix]) ++ List.replicate (2 - (lg_sl ([.int dn, .int ix])).length) Slot.unset).toArray = ls at hl ⊢
  have hl : lv_has ls 2 [(0, .int dn), (1, .int ix)] := hl
  generalize hQ : (MQ below (va_Qq (fun (r : Option Nat) (ws' : va_W) => (zK [] ws ws') ∧ (∃ sp : Nat, ws'.length = ws.length + 1 ∧ (ws'[(ws.length + 0)]? = some (sp, .inr (5, [.int (rfi dn ix), .int (nI 20), .int dn]))) ∧ (r = some sp))) (zI E) (zA E)) args s 1 3 (zA E)) = QQ
  rcases h01 with rfl | rfl
  · refine lv_iload_n hx hb dX6_straight_0 rfl (lv_at hl 0 rfl) ?_
    refine lv_if_eq (tgt := 19) hx hb dX6_straight_1 (by decide) (fun cz1 => ?_) (fun cz1 => by exact absurd cz1 (by decide))
    refine z_new (C := RX4) (T := TX4) (N := 3) (ci := 5) (fs := [.int 0, .int 0, .int 0]) X J hi_X4 tyX4 tyX4_ok (by decide +kernel) (by decide +kernel) (by decide +kernel) rfl (fun j hj => by rcases (show j = 0 ∨ j = 1 ∨ j = 2 by omega) with rfl | rfl | rfl <;> rfl) (Nat.le_of_ble_eq_true rfl) (Nat.le_of_ble_eq_true rfl) dX6_straight_19 (fun q19 H J => ?_)
    have lp1 := hk.1
    have hk := hk.trans (zK.app (more := [(q19, .inr (5, [.int 0, .int 0, .int 0]))]))
    have hpn1 := hlen
    have hlen : (ws ++ ([(q19, .inr (5, [.int 0, .int 0, .int 0]))] : va_W)).length = ws.length + 1 := by rw [List.length_append, hlen]; rfl
    have G1_n := zapp_new (ws := ws) (x := (q19, .inr (5, [.int 0, .int 0, .int 0])))
    generalize hws1 : ws ++ [(q19, .inr (5, [.int 0, .int 0, .int 0]))] = ws_1 at J hk hlen G1_n
    rw [hpn1] at lp1 G1_n
    refine lv_dup hx hb dX6_straight_22 rfl ?_
    refine lv_iconst (v := 0) hx hb dX6_straight_23 (by decide) ?_
    refine lv_iload_n hx hb dX6_straight_24 rfl (lv_at hl 1 rfl) ?_
    refine lv_bipush (v := nI 20) hx hb dX6_straight_25 (by decide) ?_
    refine lv_iconst (v := 0) hx hb dX6_straight_27 (by decide) ?_
    refine z_cv J (z_rI (As := [.int 0, .int ix, .int (nI 20), .int 0]) (rest := [.ref q19]) X J (cX4_init_ok l E G1_n (by decide)) (cwI 4 hts gX6_straight_X4_init rfl rfl rfl (hts (.initialized RX4) (by decide +kernel)) (hts (.methodLink RX6 21 yX4_init) (by decide +kernel)) (hts (.instanceMethod yX4_init) (by decide +kernel)) rfl (by decide +kernel) ⟨Nat.le_of_ble_eq_true rfl, Nat.le_of_ble_eq_true rfl⟩) rfl hl.1 rfl (Nat.le_of_ble_eq_true rfl) dX6_straight_28 ⟨Nat.le_of_ble_eq_true rfl, Nat.le_of_ble_eq_true rfl⟩) (fun ws_2 H locs hp9 J => ?_)
    obtain ⟨k2, hl9_2, G2_a0⟩ := hp9
    have hk := hk.transN k2 (by intro q9 hq9; simp only [List.mem_cons, List.not_mem_nil, or_false] at hq9 ⊢; omega)
    have hlen : ws_2.length = ws.length + 1 := by rw [hl9_2, hlen]
    subst hQ
    exact W.aret (v := .ref q19) hx hb hr (by first | exact Or.inl ⟨_, rfl⟩ | exact Or.inr ⟨_, rfl⟩) (Or.inr ⟨_, rfl⟩) (fun t ht hW => ⟨⟨some q19, ws_2, rfl, ⟨hk, ⟨q19, hlen, (by rw [show rfi 0 ix = ix * 20 + 0 from if_neg (by decide)]; exact G2_a0), rfl⟩⟩, J.I X ht hW.alike⟩, J.F ht⟩) J.locs dX6_straight_31
  · refine lv_iload_n hx hb dX6_straight_0 rfl (lv_at hl 0 rfl) ?_
    refine lv_if_eq (tgt := 19) hx hb dX6_straight_1 (by decide) (fun cz1 => by exact absurd cz1 (by decide)) (fun cz1 => ?_)
    refine z_new (C := RX4) (T := TX4) (N := 3) (ci := 5) (fs := [.int 0, .int 0, .int 0]) X J hi_X4 tyX4 tyX4_ok (by decide +kernel) (by decide +kernel) (by decide +kernel) rfl (fun j hj => by rcases (show j = 0 ∨ j = 1 ∨ j = 2 by omega) with rfl | rfl | rfl <;> rfl) (Nat.le_of_ble_eq_true rfl) (Nat.le_of_ble_eq_true rfl) dX6_straight_4 (fun q4 H J => ?_)
    have lp1 := hk.1
    have hk := hk.trans (zK.app (more := [(q4, .inr (5, [.int 0, .int 0, .int 0]))]))
    have hpn1 := hlen
    have hlen : (ws ++ ([(q4, .inr (5, [.int 0, .int 0, .int 0]))] : va_W)).length = ws.length + 1 := by rw [List.length_append, hlen]; rfl
    have G1_n := zapp_new (ws := ws) (x := (q4, .inr (5, [.int 0, .int 0, .int 0])))
    generalize hws1 : ws ++ [(q4, .inr (5, [.int 0, .int 0, .int 0]))] = ws_1 at J hk hlen G1_n
    rw [hpn1] at lp1 G1_n
    refine lv_dup hx hb dX6_straight_7 rfl ?_
    refine lv_iload_n hx hb dX6_straight_8 rfl (lv_at hl 1 rfl) ?_
    refine lv_iconst (v := 0) hx hb dX6_straight_9 (by decide) ?_
    refine lv_bipush (v := nI 20) hx hb dX6_straight_10 (by decide) ?_
    refine lv_iconst (v := 1) hx hb dX6_straight_12 (by decide) ?_
    refine z_cv J (z_rI (As := [.int ix, .int 0, .int (nI 20), .int 1]) (rest := [.ref q4]) X J (cX4_init_ok l E G1_n (by decide)) (cwI 4 hts gX6_straight_X4_init rfl rfl rfl (hts (.initialized RX4) (by decide +kernel)) (hts (.methodLink RX6 21 yX4_init) (by decide +kernel)) (hts (.instanceMethod yX4_init) (by decide +kernel)) rfl (by decide +kernel) ⟨Nat.le_of_ble_eq_true rfl, Nat.le_of_ble_eq_true rfl⟩) rfl hl.1 rfl (Nat.le_of_ble_eq_true rfl) dX6_straight_13 ⟨Nat.le_of_ble_eq_true rfl, Nat.le_of_ble_eq_true rfl⟩) (fun ws_2 H locs hp9 J => ?_)
    obtain ⟨k2, hl9_2, G2_a0⟩ := hp9
    have hk := hk.transN k2 (by intro q9 hq9; simp only [List.mem_cons, List.not_mem_nil, or_false] at hq9 ⊢; omega)
    have hlen : ws_2.length = ws.length + 1 := by rw [hl9_2, hlen]
    refine lv_goto (tgt := 31) hx hb dX6_straight_16 (by decide) ?_
    subst hQ
    exact W.aret (v := .ref q4) hx hb hr (by first | exact Or.inl ⟨_, rfl⟩ | exact Or.inr ⟨_, rfl⟩) (Or.inr ⟨_, rfl⟩) (fun t ht hW => ⟨⟨some q4, ws_2, rfl, ⟨hk, ⟨q4, hlen, (by rw [show rfi 1 ix = 0 * 20 + ix from if_pos (by decide)]; exact G2_a0), rfl⟩⟩, J.I X ht hW.alike⟩, J.F ht⟩) J.locs dX6_straight_31
set_option maxHeartbeats 400000 in
set_option maxRecDepth 100000 in
theorem cX6_screenAllBut_ok (l : Launch) (E : zG) {ws : va_W} {x fl rl wh gr tr sc ha va ea nf : Nat} {mc1 lim sup off plo hrs : Int32} {fa hf gf : Nat → Int32} {wo : Int32} (Fa0 : ws[0]? = some (x, .inr (7, [.ref fl, .ref rl, .ref wh, .ref gr, .ref tr, .ref sc, .int lim, .int sup, .int off, .int plo, .int hrs]))) (Fa1 : ws[1]? = some (fl, .inr (0, [.int mc1, .ref ea, .int (nI nf)]))) (Fa2 : ws[8]? = some (sc, .inr (4, [.ref ha, .ref va]))) (Fa3 : ws[9]? = some (ha, zI4 E 400 hf)) (Fa4 : ws[10]? = some (va, zI4 E 400 gf)) (hF : FS E ws fa ea nf) (hnf : nf ≤ 10) (hok : ∀ j, j < nf → okF fa j) : Met l yX6_screenAllBut wsX6_screenAllBut ({ frames := 3, cells := 0, slots := 0, locals := 64 } : Room) (va_Pc [.ref x, .int wo] (zI E ws)) (va_Qv (fun (ws' : va_W) => (zK [9, 10] ws ws') ∧ (ws'[9]? = some (ha, zI4 E 400 ((hgS fa wo nf).1))) ∧ (ws'[10]? = some (va, zI4 E 400 ((hgS fa wo nf).2)))) (zI E) (zA E)) 0 0 (zA E) := by
  refine Met.ofW (cc := cX6_screenAllBut) (maxL := 4) (ret := none) (by decide) rfl ?_
  intro p e s m args below meth c s₁ B hml hv
  obtain ⟨hargs9, hI⟩ := hv
  have hx := B.exec
  have hb := B.bytes
  have hr := B.returns
  have hlocks := B.notSynchronized
  have X : zC E p m c cX6_screenAllBut 4 s args wsX6_screenAllBut RX6 := z_open B hml hI
  have hown := X.1.2.2.2.1
  have hts := X.1.2.2.2.2
  have J := hI.J
  have hi_X0 : ∀ w ∈ wsX00, w ∈ wsX6_screenAllBut := by decide +kernel
  have hi_X6 : ∀ w ∈ wsX60, w ∈ wsX6_screenAllBut := by decide +kernel
  have hk : zK [9, 10] ws ws := zK.rf
  have hl := lv_entry ([.ref x, .int wo]) (n := 4) (Nat.le_of_ble_eq_true rfl)
  rw [show entryFrame m args 4 = entryFrame m ([.ref x, .int wo] : List Value).toArray 4 from by rw [hargs9], lg_entry_eq]
  generalize (lg_sl ([.ref x, .int wo]) ++ List.replicate (4 - (lg_sl ([.ref x, .int wo])).length) Slot.unset).toArray = ls at hl ⊢
  have hl : lv_has ls 4 [(0, .ref x), (1, .int wo)] := hl
  generalize hQ : (MQ below (va_Qv (fun (ws' : va_W) => (zK [9, 10] ws ws') ∧ (ws'[9]? = some (ha, zI4 E 400 ((hgS fa wo nf).1))) ∧ (ws'[10]? = some (va, zI4 E 400 ((hgS fa wo nf).2)))) (zI E) (zA E)) args s 0 0 (zA E)) = QQ
  refine lv_aload_n hx hb dX6_screenAllBut_0 rfl (lv_at hl 0 rfl) ?_
  refine z_get (C := RX6) (T := TX6) (N := 11) (ci := 7) (v := .ref sc) X J hi_X6 0 Fa0 rfl 5 (by decide) (by decide +kernel) rfl dX6_screenAllBut_1 ?_
  refine z_cv J (z_rV (As := []) (rest := []) (ci := 4) (q0 := 8) X J (cX3_clear_ok l E Fa2 Fa3 Fa4 (by first | assumption | omega | decide)) (cwV 0 hts gX6_screenAllBut_X3_clear rfl rfl rfl (by decide +kernel) ⟨Nat.le_of_ble_eq_true rfl, Nat.le_of_ble_eq_true rfl⟩) Fa2 rfl rfl rfl hl.1 rfl (Nat.le_of_ble_eq_true rfl) dX6_screenAllBut_4 ⟨Nat.le_of_ble_eq_true rfl, Nat.le_of_ble_eq_true rfl⟩) (fun ws_1 H locs hp9 J => ?_)
  obtain ⟨k1, G1_a0, G1_a1⟩ := hp9
  have hk := hk.trans (k1.mono (by decide))
  have G1_0 := k1.2 0 _ (by decide) Fa0
  have G1_1 := k1.2 1 _ (by decide) Fa1
  have G1_2 := k1.2 8 _ (by decide) Fa2
  refine lv_iconst (v := nI 0) hx hb dX6_screenAllBut_7 rfl ?_
  refine lv_istore_n (lv' := [(2, .int (nI 0)), (0, .ref x), (1, .int wo)]) hx hb dX6_screenAllBut_8 rfl hl (by decide) rfl (fun ls hl => ?_)
  have loop_9 : ∀ (k9 i : Nat), i + k9 = nf → ∀ (wl9 : va_W) (H : Heap) (locs : List Loc) (ls : Array Slot), zK [9, 10] ws wl9 → wl9[0]? = some (x, .inr (7, [.ref fl, .ref rl, .ref wh, .ref gr, .ref tr, .ref sc, .int lim, .int sup, .int off, .int plo, .int hrs])) → wl9[1]? = some (fl, .inr (0, [.int mc1, .ref ea, .int (nI nf)])) → wl9[8]? = some (sc, .inr (4, [.ref ha, .ref va])) → wl9[9]? = some (ha, zI4 E 400 ((hgS fa wo i).1)) → wl9[10]? = some (va, zI4 E 400 ((hgS fa wo i).2)) → zJ E wl9 s H locs → lv_has ls 4 [(2, .int (nI i)), (0, .ref x), (1, .int wo)] → W p l e (headSpec wsX6_screenAllBut ({ frames := 3, cells := 0, slots := 0, locals := 64 } : Room)).room s m args below meth c H locs 0 0 QQ (F0 m 9 ls []) := by
    intro k9
    induction k9 with
    | zero =>
      intro i hik wl9 H locs ls hk L9_0 L9_1 L9_2 L9_3 L9_4 J hl
      obtain rfl : nf = i := by omega
      refine lv_iload_n hx hb dX6_screenAllBut_9 rfl (lv_at hl 0 rfl) ?_
      refine lv_aload_n hx hb dX6_screenAllBut_10 rfl (lv_at hl 1 rfl) ?_
      refine z_get (C := RX6) (T := TX6) (N := 11) (ci := 7) (v := .ref fl) X J hi_X6 0 L9_0 rfl 0 (by decide) (by decide +kernel) rfl dX6_screenAllBut_11 ?_
      refine z_cr (z_rV (As := []) (rest := [.int (nI nf)]) (ci := 0) (q0 := 1) X J (cJx4a65c_size_8abf5_ok l E L9_1) (cwV 0 hts gX6_screenAllBut_Jx4a65c_size_8abf5 rfl rfl rfl (by decide +kernel) ⟨Nat.le_of_ble_eq_true rfl, Nat.le_of_ble_eq_true rfl⟩) L9_1 rfl rfl rfl hl.1 rfl (Nat.le_of_ble_eq_true rfl) dX6_screenAllBut_14 ⟨Nat.le_of_ble_eq_true rfl, Nat.le_of_ble_eq_true rfl⟩) (fun r14 e_r14 => ?_)
      subst e_r14
      refine lv_icmp_ge (tgt := 62) hx hb dX6_screenAllBut_17 (by decide) (fun cz17 => ?_) (fun cz17 => by exact (cz17 (nI_le (Nat.le_refl _) (by omega))).elim)
      subst hQ
      exact W.vret hx hb hr (fun t ht hW => ⟨⟨wl9, rfl, ⟨hk, L9_3, L9_4⟩, J.I X ht hW.alike⟩, J.F ht⟩) J.locs dX6_screenAllBut_62
    | succ k9 ih_9 =>
      intro i hik wl9 H locs ls hk L9_0 L9_1 L9_2 L9_3 L9_4 J hl
      refine lv_iload_n hx hb dX6_screenAllBut_9 rfl (lv_at hl 0 rfl) ?_
      refine lv_aload_n hx hb dX6_screenAllBut_10 rfl (lv_at hl 1 rfl) ?_
      refine z_get (C := RX6) (T := TX6) (N := 11) (ci := 7) (v := .ref fl) X J hi_X6 0 L9_0 rfl 0 (by decide) (by decide +kernel) rfl dX6_screenAllBut_11 ?_
      refine z_cr (z_rV (As := []) (rest := [.int (nI i)]) (ci := 0) (q0 := 1) X J (cJx4a65c_size_8abf5_ok l E L9_1) (cwV 0 hts gX6_screenAllBut_Jx4a65c_size_8abf5 rfl rfl rfl (by decide +kernel) ⟨Nat.le_of_ble_eq_true rfl, Nat.le_of_ble_eq_true rfl⟩) L9_1 rfl rfl rfl hl.1 rfl (Nat.le_of_ble_eq_true rfl) dX6_screenAllBut_14 ⟨Nat.le_of_ble_eq_true rfl, Nat.le_of_ble_eq_true rfl⟩) (fun r14 e_r14 => ?_)
      subst e_r14
      refine lv_icmp_ge (tgt := 62) hx hb dX6_screenAllBut_17 (by decide) (fun cz17 => by exact (nI_ge (by omega) (by omega) cz17).elim) (fun cz17 => ?_)
      refine lv_iload_n hx hb dX6_screenAllBut_20 rfl (lv_at hl 0 rfl) ?_
      refine lv_iload_n hx hb dX6_screenAllBut_21 rfl (lv_at hl 2 rfl) ?_
      refine lv_icmp_eq (tgt := 56) hx hb dX6_screenAllBut_22 (by decide) (fun cz22 => ?_) (fun cz22 => ?_)
      · refine lv_iinc (v := nI (i + 1)) (lv' := [(2, .int (nI (i + 1))), (0, .ref x), (1, .int wo)]) hx hb dX6_screenAllBut_56 hl (k := 0) rfl (nI_1 i) (by decide) rfl (fun ls hl => ?_)
        refine lv_goto (tgt := 9) hx hb dX6_screenAllBut_59 (by decide) ?_
        exact ih_9 (i + 1) (by omega) _ _ _ _ hk L9_0 L9_1 L9_2 (by rw [show hgS fa wo (i + 1) = _ from if_pos cz22]; exact L9_3) (by rw [show hgS fa wo (i + 1) = _ from if_pos cz22]; exact L9_4) J (lv_sub hl [0, 1, 2] rfl)
      · obtain ⟨qe9, g9, fo9, qf9, sp9, qs9, hqe9, hqf9, hqs9, he9, hg9, hfc9, hsc9⟩ := (hF.keep hk (by decide)).at (i := i) (by omega)
        refine lv_aload_n hx hb dX6_screenAllBut_25 rfl (lv_at hl 1 rfl) ?_
        refine z_get (C := RX6) (T := TX6) (N := 11) (ci := 7) (v := .ref fl) X J hi_X6 0 L9_0 rfl 0 (by decide) (by decide +kernel) rfl dX6_screenAllBut_26 ?_
        refine lv_iload_n hx hb dX6_screenAllBut_29 rfl (lv_at hl 0 rfl) ?_
        refine z_crq (z_rV (As := [.int (nI i)]) (rest := []) (ci := 0) (q0 := 1) X J (cJx4a65c_get_915e3_ok l E L9_1 he9 (by omega) (by omega)) (cwV 1 hts gX6_screenAllBut_Jx4a65c_get_915e3 rfl rfl rfl (by decide +kernel) ⟨Nat.le_of_ble_eq_true rfl, Nat.le_of_ble_eq_true rfl⟩) L9_1 rfl rfl rfl hl.1 rfl (Nat.le_of_ble_eq_true rfl) dX6_screenAllBut_30 ⟨Nat.le_of_ble_eq_true rfl, Nat.le_of_ble_eq_true rfl⟩) (fun r30 e_r30 => ?_)
        subst e_r30
        refine W.eq (g2 := F0 m 33 ls [.ref fo9]) (by rw [show g9 i = some fo9 from hg9]; rfl) ?_
        refine z_cast (own := RX6) (q := (RX0, TX0, 5)) X J qf9 hfc9 (ci := 1) rfl (hts (.classLink RX6 76 RX0) (by decide +kernel)) dX6_screenAllBut_33 ?_
        refine lv_astore_n (lv' := [(3, .ref fo9), (2, .int (nI i)), (0, .ref x), (1, .int wo)]) hx hb dX6_screenAllBut_36 rfl hl (by decide) rfl (fun ls hl => ?_)
        refine lv_aload_n hx hb dX6_screenAllBut_37 rfl (lv_at hl 2 rfl) ?_
        refine z_get (C := RX6) (T := TX6) (N := 11) (ci := 7) (v := .ref sc) X J hi_X6 0 L9_0 rfl 5 (by decide) (by decide +kernel) rfl dX6_screenAllBut_38 ?_
        refine lv_aload_n hx hb dX6_screenAllBut_41 rfl (lv_at hl 0 rfl) ?_
        refine z_get (C := RX0) (T := TX0) (N := 5) (ci := 1) (v := .ref sp9) X J hi_X0 qf9 hfc9 rfl 2 (by decide) (by decide +kernel) rfl dX6_screenAllBut_42 ?_
        refine lv_aload_n hx hb dX6_screenAllBut_45 rfl (lv_at hl 0 rfl) ?_
        refine z_get (C := RX0) (T := TX0) (N := 5) (ci := 1) (v := .int (fa (6 * i + 4))) X J hi_X0 qf9 hfc9 rfl 3 (by decide) (by decide +kernel) rfl dX6_screenAllBut_46 ?_
        refine lv_aload_n hx hb dX6_screenAllBut_49 rfl (lv_at hl 0 rfl) ?_
        refine z_get (C := RX0) (T := TX0) (N := 5) (ci := 1) (v := .int (fa (6 * i + 5))) X J hi_X0 qf9 hfc9 rfl 4 (by decide) (by decide +kernel) rfl dX6_screenAllBut_50 ?_
        refine z_cv J (z_rV (As := [.ref sp9, .int (fa (6 * i + 4)), .int (fa (6 * i + 5))]) (rest := []) (ci := 4) (q0 := 8) X J (cX3_add_ok l E L9_2 L9_3 L9_4 hsc9 (by first | assumption | omega | decide) (Nat.le_trans (hok i (by omega)).le.2 (by decide))) (cwV 3 hts gX6_screenAllBut_X3_add rfl rfl rfl (by decide +kernel) ⟨Nat.le_of_ble_eq_true rfl, Nat.le_of_ble_eq_true rfl⟩) L9_2 rfl rfl rfl hl.1 rfl (Nat.le_of_ble_eq_true rfl) dX6_screenAllBut_53 ⟨Nat.le_of_ble_eq_true rfl, Nat.le_of_ble_eq_true rfl⟩) (fun ws_2 H locs hp9 J => ?_)
        obtain ⟨k2, G2_a0, G2_a1⟩ := hp9
        have hk := hk.trans (k2.mono (by decide))
        have G2_0 := k2.2 0 _ (by decide) L9_0
        have G2_1 := k2.2 1 _ (by decide) L9_1
        have G2_2 := k2.2 8 _ (by decide) L9_2
        have G2_5 := k2.2 qe9 _ (by simp only [List.mem_cons, List.not_mem_nil, or_false]; omega) he9
        have G2_6 := k2.2 qf9 _ (by simp only [List.mem_cons, List.not_mem_nil, or_false]; omega) hfc9
        have G2_7 := k2.2 qs9 _ (by simp only [List.mem_cons, List.not_mem_nil, or_false]; omega) hsc9
        refine lv_iinc (v := nI (i + 1)) (lv' := [(2, .int (nI (i + 1))), (3, .ref fo9), (0, .ref x), (1, .int wo)]) hx hb dX6_screenAllBut_56 hl (k := 1) rfl (nI_1 i) (by decide) rfl (fun ls hl => ?_)
        refine lv_goto (tgt := 9) hx hb dX6_screenAllBut_59 (by decide) ?_
        exact ih_9 (i + 1) (by omega) _ _ _ _ hk G2_0 G2_1 G2_2 (by rw [show hgS fa wo (i + 1) = _ from if_neg cz22]; exact G2_a0) (by rw [show hgS fa wo (i + 1) = _ from if_neg cz22]; exact G2_a1) J (lv_sub hl [0, 2, 3] rfl)
  exact loop_9 nf 0 (by omega) _ _ _ _ hk G1_0 G1_1 G1_2 G1_a0 G1_a1 J (lv_sub hl [0, 1, 2] rfl)
set_option maxHeartbeats 400000 in
set_option maxRecDepth 100000 in
theorem cX6_blowOver_ok (l : Launch) (E : zG) {ws : va_W} {x fl rl wh gr tr sc ha va : Nat} {lim sup off plo hrs : Int32} {hf gf : Nat → Int32} {n : Nat} {qw w : Nat} {dn stg sup2 fc nc nl ca sh sw ho : Int32} {qg qa g ga : Nat} {f : Nat → Int32} (Fa0 : ws[0]? = some (x, .inr (7, [.ref fl, .ref rl, .ref wh, .ref gr, .ref tr, .ref sc, .int lim, .int sup, .int off, .int plo, .int hrs]))) (Fa1 : ws[8]? = some (sc, .inr (4, [.ref ha, .ref va]))) (Fa2 : ws[9]? = some (ha, zI4 E 400 hf)) (Fa3 : ws[10]? = some (va, zI4 E 400 gf)) (Fa4 : ws[qg]? = some (g, .inr (2, [.ref ga]))) (Fa5 : ws[qa]? = some (ga, zI4 E 400 f)) (Fa6 : ws[qw]? = some (w, .inr (6, [.int dn, .int stg, .int sup2, .int fc, .int nc, .int nl, .int ca, .int sh, .int sw, .int ho]))) (hn9 : n ≤ 100) (h9 : qa ≠ 9) (h10 : qa ≠ 10) : Met l yX6_blowOver wsX6_blowOver ({ frames := 5, cells := 0, slots := 0, locals := 108 } : Room) (va_Pc [.ref x, .ref g, .ref w, .int (nI n)] (zI E ws)) (va_Qi (fun (r : Int32) (ws' : va_W) => (zK [qw, qa] ws ws') ∧ (ws'[qw]? = some (w, .inr (6, [.int dn, .int stg, .int sup2, .int fc, .int nc, .int nl, .int ((boS stg sup2 hf gf fc nc nl (f, ca, sh, sw, ho) n).2.2.1), .int ((boS stg sup2 hf gf fc nc nl (f, ca, sh, sw, ho) n).2.2.2.1), .int ((boS stg sup2 hf gf fc nc nl (f, ca, sh, sw, ho) n).2.2.2.2.1), .int ((boS stg sup2 hf gf fc nc nl (f, ca, sh, sw, ho) n).2.2.2.2.2)]))) ∧ (ws'[qa]? = some (ga, zI4 E 400 ((boS stg sup2 hf gf fc nc nl (f, ca, sh, sw, ho) n).2.1))) ∧ (r = (boS stg sup2 hf gf fc nc nl (f, ca, sh, sw, ho) n).1)) (zI E) (zA E)) 0 0 (zA E) := by
  refine Met.ofW (cc := cX6_blowOver) (maxL := 6) (ret := (some .int)) (by decide) rfl ?_
  intro p e s m args below meth c s₁ B hml hv
  obtain ⟨hargs9, hI⟩ := hv
  have hx := B.exec
  have hb := B.bytes
  have hr := B.returns
  have hlocks := B.notSynchronized
  have X : zC E p m c cX6_blowOver 6 s args wsX6_blowOver RX6 := z_open B hml hI
  have hown := X.1.2.2.2.1
  have hts := X.1.2.2.2.2
  have J := hI.J
  have hi_X6 : ∀ w ∈ wsX60, w ∈ wsX6_blowOver := by decide +kernel
  have n0_4 : 0 ≠ qg := zneK Fa0 Fa4 rfl
  have n0_5 : 0 ≠ qa := zneK Fa0 Fa5 rfl
  have n0_6 : 0 ≠ qw := zneK Fa0 Fa6 rfl
  have n1_4 : 8 ≠ qg := zneK Fa1 Fa4 rfl
  have n1_5 : 8 ≠ qa := zneK Fa1 Fa5 rfl
  have n1_6 : 8 ≠ qw := zneK Fa1 Fa6 rfl
  have n2_4 : 9 ≠ qg := zneK Fa2 Fa4 rfl
  have n2_6 : 9 ≠ qw := zneK Fa2 Fa6 rfl
  have n3_4 : 10 ≠ qg := zneK Fa3 Fa4 rfl
  have n3_6 : 10 ≠ qw := zneK Fa3 Fa6 rfl
  have n4_5 : qg ≠ qa := zneK Fa4 Fa5 rfl
  have n4_6 : qg ≠ qw := zneK Fa4 Fa6 rfl
  have n5_6 : qa ≠ qw := zneK Fa5 Fa6 rfl
  have hk : zK [qw, qa] ws ws := zK.rf
  have hl := lv_entry ([.ref x, .ref g, .ref w, .int (nI n)]) (n := 6) (Nat.le_of_ble_eq_true rfl)
  rw [show entryFrame m args 6 = entryFrame m ([.ref x, .ref g, .ref w, .int (nI n)] : List Value).toArray 6 from by rw [hargs9], lg_entry_eq]
  generalize (lg_sl ([.ref x, .ref g, .ref w, .int (nI n)]) ++ List.replicate (6 - (lg_sl ([.ref x, .ref g, .ref w, .int (nI n)])).length) Slot.unset).toArray = ls at hl ⊢
  have hl : lv_has ls 6 [(0, .ref x), (1, .ref g), (2, .ref w), (3, .int (nI n))] := hl
  generalize hQ : (MQ below (va_Qi (fun (r : Int32) (ws' : va_W) => (zK [qw, qa] ws ws') ∧ (ws'[qw]? = some (w, .inr (6, [.int dn, .int stg, .int sup2, .int fc, .int nc, .int nl, .int ((boS stg sup2 hf gf fc nc nl (f, ca, sh, sw, ho) n).2.2.1), .int ((boS stg sup2 hf gf fc nc nl (f, ca, sh, sw, ho) n).2.2.2.1), .int ((boS stg sup2 hf gf fc nc nl (f, ca, sh, sw, ho) n).2.2.2.2.1), .int ((boS stg sup2 hf gf fc nc nl (f, ca, sh, sw, ho) n).2.2.2.2.2)]))) ∧ (ws'[qa]? = some (ga, zI4 E 400 ((boS stg sup2 hf gf fc nc nl (f, ca, sh, sw, ho) n).2.1))) ∧ (r = (boS stg sup2 hf gf fc nc nl (f, ca, sh, sw, ho) n).1)) (zI E) (zA E)) args s 0 0 (zA E)) = QQ
  refine lv_iconst (v := (boS stg sup2 hf gf fc nc nl (f, ca, sh, sw, ho) 0).1) hx hb dX6_blowOver_0 rfl ?_
  refine lv_istore (lv' := [(4, .int ((boS stg sup2 hf gf fc nc nl (f, ca, sh, sw, ho) 0).1)), (0, .ref x), (1, .ref g), (2, .ref w), (3, .int (nI n))]) hx hb dX6_blowOver_1 hl (by decide) rfl (fun ls hl => ?_)
  refine lv_iconst (v := nI 0) hx hb dX6_blowOver_3 rfl ?_
  refine lv_istore (lv' := [(5, .int (nI 0)), (4, .int ((boS stg sup2 hf gf fc nc nl (f, ca, sh, sw, ho) 0).1)), (0, .ref x), (1, .ref g), (2, .ref w), (3, .int (nI n))]) hx hb dX6_blowOver_4 hl (by decide) rfl (fun ls hl => ?_)
  have loop_6 : ∀ (k9 i : Nat), i + k9 = n → ∀ (wl6 : va_W) (H : Heap) (locs : List Loc) (ls : Array Slot), zK [qw, qa] ws wl6 → wl6[0]? = some (x, .inr (7, [.ref fl, .ref rl, .ref wh, .ref gr, .ref tr, .ref sc, .int lim, .int sup, .int off, .int plo, .int hrs])) → wl6[8]? = some (sc, .inr (4, [.ref ha, .ref va])) → wl6[9]? = some (ha, zI4 E 400 hf) → wl6[10]? = some (va, zI4 E 400 gf) → wl6[qg]? = some (g, .inr (2, [.ref ga])) → wl6[qa]? = some (ga, zI4 E 400 ((boS stg sup2 hf gf fc nc nl (f, ca, sh, sw, ho) i).2.1)) → wl6[qw]? = some (w, .inr (6, [.int dn, .int stg, .int sup2, .int fc, .int nc, .int nl, .int ((boS stg sup2 hf gf fc nc nl (f, ca, sh, sw, ho) i).2.2.1), .int ((boS stg sup2 hf gf fc nc nl (f, ca, sh, sw, ho) i).2.2.2.1), .int ((boS stg sup2 hf gf fc nc nl (f, ca, sh, sw, ho) i).2.2.2.2.1), .int ((boS stg sup2 hf gf fc nc nl (f, ca, sh, sw, ho) i).2.2.2.2.2)])) → zJ E wl6 s H locs → lv_has ls 6 [(5, .int (nI i)), (4, .int ((boS stg sup2 hf gf fc nc nl (f, ca, sh, sw, ho) i).1)), (0, .ref x), (1, .ref g), (2, .ref w), (3, .int (nI n))] → W p l e (headSpec wsX6_blowOver ({ frames := 5, cells := 0, slots := 0, locals := 108 } : Room)).room s m args below meth c H locs 0 0 QQ (F0 m 6 ls []) := by
    intro k9
    induction k9 with
    | zero =>
      intro i hik wl6 H locs ls hk L6_0 L6_1 L6_2 L6_3 L6_4 L6_5 L6_6 J hl
      obtain rfl : n = i := by omega
      refine lv_iload hx hb dX6_blowOver_6 (lv_at hl 0 rfl) ?_
      refine lv_iload_n hx hb dX6_blowOver_8 rfl (lv_at hl 5 rfl) ?_
      refine lv_icmp_ge (tgt := 32) hx hb dX6_blowOver_9 (by decide) (fun cz9 => ?_) (fun cz9 => by exact (cz9 (nI_le (Nat.le_refl _) (by omega))).elim)
      refine lv_iload hx hb dX6_blowOver_32 (lv_at hl 1 rfl) ?_
      subst hQ
      exact W.iret (v := (boS stg sup2 hf gf fc nc nl (f, ca, sh, sw, ho) n).1) hx hb hr (fun t ht hW => ⟨⟨(boS stg sup2 hf gf fc nc nl (f, ca, sh, sw, ho) n).1, wl6, rfl, ⟨hk, L6_6, L6_5, rfl⟩, J.I X ht hW.alike⟩, J.F ht⟩) J.locs dX6_blowOver_34
    | succ k9 ih_6 =>
      intro i hik wl6 H locs ls hk L6_0 L6_1 L6_2 L6_3 L6_4 L6_5 L6_6 J hl
      refine lv_iload hx hb dX6_blowOver_6 (lv_at hl 0 rfl) ?_
      refine lv_iload_n hx hb dX6_blowOver_8 rfl (lv_at hl 5 rfl) ?_
      refine lv_icmp_ge (tgt := 32) hx hb dX6_blowOver_9 (by decide) (fun cz9 => by exact (nI_ge (by omega) (by omega) cz9).elim) (fun cz9 => ?_)
      refine lv_iload hx hb dX6_blowOver_12 (lv_at hl 1 rfl) ?_
      refine lv_aload_n hx hb dX6_blowOver_14 rfl (lv_at hl 4 rfl) ?_
      refine lv_aload_n hx hb dX6_blowOver_15 rfl (lv_at hl 3 rfl) ?_
      refine lv_aload_n hx hb dX6_blowOver_16 rfl (lv_at hl 2 rfl) ?_
      refine z_get (C := RX6) (T := TX6) (N := 11) (ci := 7) (v := .ref sc) X J hi_X6 0 L6_0 rfl 5 (by decide) (by decide +kernel) rfl dX6_blowOver_17 ?_
      refine z_ci J (z_rV (As := [.ref g, .ref sc]) (rest := [.int ((boS stg sup2 hf gf fc nc nl (f, ca, sh, sw, ho) i).1)]) (ci := 6) (q0 := qw) X J (cX5_crossField_ok l E L6_6 L6_4 L6_5 L6_1 L6_2 L6_3 h9 h10) (cwV 2 hts gX6_blowOver_X5_crossField rfl rfl rfl (by decide +kernel) ⟨Nat.le_of_ble_eq_true rfl, Nat.le_of_ble_eq_true rfl⟩) L6_6 rfl rfl rfl hl.1 rfl (Nat.le_of_ble_eq_true rfl) dX6_blowOver_20 ⟨Nat.le_of_ble_eq_true rfl, Nat.le_of_ble_eq_true rfl⟩) (fun r20 ws_1 H locs hp9 J => ?_)
      obtain ⟨k1, G1_a0, G1_a1, e_r20⟩ := hp9
      have hk := hk.trans (k1.mono (by intro q9 hq9; simp only [List.mem_cons, List.not_mem_nil, or_false] at hq9 ⊢; omega))
      have G1_0 := k1.2 0 _ (by simp only [List.mem_cons, List.not_mem_nil, or_false]; omega) L6_0
      have G1_1 := k1.2 8 _ (by simp only [List.mem_cons, List.not_mem_nil, or_false]; omega) L6_1
      have G1_2 := k1.2 9 _ (by simp only [List.mem_cons, List.not_mem_nil, or_false]; omega) L6_2
      have G1_3 := k1.2 10 _ (by simp only [List.mem_cons, List.not_mem_nil, or_false]; omega) L6_3
      have G1_4 := k1.2 qg _ (by simp only [List.mem_cons, List.not_mem_nil, or_false]; omega) L6_4
      subst e_r20
      refine lv_iadd hx hb dX6_blowOver_23 ?_
      refine lv_istore (lv' := [(4, .int (((boS stg sup2 hf gf fc nc nl (f, ca, sh, sw, ho) i).1) + ((cfS stg sup2 hf gf fc nc nl (((boS stg sup2 hf gf fc nc nl (f, ca, sh, sw, ho) i).2.1), ((boS stg sup2 hf gf fc nc nl (f, ca, sh, sw, ho) i).2.2.1), ((boS stg sup2 hf gf fc nc nl (f, ca, sh, sw, ho) i).2.2.2.1), ((boS stg sup2 hf gf fc nc nl (f, ca, sh, sw, ho) i).2.2.2.2.1), ((boS stg sup2 hf gf fc nc nl (f, ca, sh, sw, ho) i).2.2.2.2.2)) 20).1))), (5, .int (nI i)), (0, .ref x), (1, .ref g), (2, .ref w), (3, .int (nI n))]) hx hb dX6_blowOver_24 hl (by decide) rfl (fun ls hl => ?_)
      refine lv_iinc (v := nI (i + 1)) (lv' := [(5, .int (nI (i + 1))), (4, .int (((boS stg sup2 hf gf fc nc nl (f, ca, sh, sw, ho) i).1) + ((cfS stg sup2 hf gf fc nc nl (((boS stg sup2 hf gf fc nc nl (f, ca, sh, sw, ho) i).2.1), ((boS stg sup2 hf gf fc nc nl (f, ca, sh, sw, ho) i).2.2.1), ((boS stg sup2 hf gf fc nc nl (f, ca, sh, sw, ho) i).2.2.2.1), ((boS stg sup2 hf gf fc nc nl (f, ca, sh, sw, ho) i).2.2.2.2.1), ((boS stg sup2 hf gf fc nc nl (f, ca, sh, sw, ho) i).2.2.2.2.2)) 20).1))), (0, .ref x), (1, .ref g), (2, .ref w), (3, .int (nI n))]) hx hb dX6_blowOver_26 hl (k := 1) rfl (nI_1 i) (by decide) rfl (fun ls hl => ?_)
      refine lv_goto (tgt := 6) hx hb dX6_blowOver_29 (by decide) ?_
      exact ih_6 (i + 1) (by omega) _ _ _ _ hk G1_0 G1_1 G1_2 G1_3 G1_4 G1_a1 G1_a0 J (lv_sub hl [0, 1, 2, 3, 4, 5] rfl)
  exact loop_6 n 0 (by omega) _ _ _ _ hk Fa0 Fa1 Fa2 Fa3 Fa4 Fa5 Fa6 J (lv_sub hl [0, 1, 2, 3, 4, 5] rfl)
set_option maxHeartbeats 400000 in
set_option maxRecDepth 100000 in
theorem cX6_blockedOnRoads_ok (l : Launch) (E : zG) {ws : va_W} {x fl rl wh gr tr sc eb nr : Nat} {mc2 lim sup off plo hrs : Int32} {rd ri : Nat → Int32} {qg qa g ga : Nat} {f : Nat → Int32} (Fa0 : ws[0]? = some (x, .inr (7, [.ref fl, .ref rl, .ref wh, .ref gr, .ref tr, .ref sc, .int lim, .int sup, .int off, .int plo, .int hrs]))) (Fa1 : ws[2]? = some (rl, .inr (0, [.int mc2, .ref eb, .int (nI nr)]))) (Fa2 : ws[qg]? = some (g, .inr (2, [.ref ga]))) (Fa3 : ws[qa]? = some (ga, zI4 E 400 f)) (hR : RS E ws rd ri eb nr) (hnr : nr ≤ 4) : Met l yX6_blockedOnRoads wsX6_blockedOnRoads ({ frames := 3, cells := 0, slots := 0, locals := 64 } : Room) (va_Pc [.ref x, .ref g] (zI E ws)) (vp_Si (fun r : Int32 => r = allB f rd ri lim nr)) 0 0 (fun _ => False) := by
  refine Met.ofW (cc := cX6_blockedOnRoads) (maxL := 4) (ret := (some .int)) (by decide) rfl ?_
  intro p e s m args below meth c s₁ B hml hv
  obtain ⟨hargs9, hI⟩ := hv
  have hx := B.exec
  have hb := B.bytes
  have hr := B.returns
  have hlocks := B.notSynchronized
  have X : zC E p m c cX6_blockedOnRoads 4 s args wsX6_blockedOnRoads RX6 := z_open B hml hI
  have hown := X.1.2.2.2.1
  have hts := X.1.2.2.2.2
  have J := hI.J
  have hi_X2 : ∀ w ∈ wsX20, w ∈ wsX6_blockedOnRoads := by decide +kernel
  have hi_X6 : ∀ w ∈ wsX60, w ∈ wsX6_blockedOnRoads := by decide +kernel
  have n0_2 : 0 ≠ qg := zneK Fa0 Fa2 rfl
  have n0_3 : 0 ≠ qa := zneK Fa0 Fa3 rfl
  have n1_2 : 2 ≠ qg := zneK Fa1 Fa2 rfl
  have n1_3 : 2 ≠ qa := zneK Fa1 Fa3 rfl
  have n2_3 : qg ≠ qa := zneK Fa2 Fa3 rfl
  have hl := lv_entry ([.ref x, .ref g]) (n := 4) (Nat.le_of_ble_eq_true rfl)
  rw [show entryFrame m args 4 = entryFrame m ([.ref x, .ref g] : List Value).toArray 4 from by rw [hargs9], lg_entry_eq]
  generalize (lg_sl ([.ref x, .ref g]) ++ List.replicate (4 - (lg_sl ([.ref x, .ref g])).length) Slot.unset).toArray = ls at hl ⊢
  have hl : lv_has ls 4 [(0, .ref x), (1, .ref g)] := hl
  generalize hQ : (MQ below (vp_Si (fun r : Int32 => r = allB f rd ri lim nr)) args s 0 0 (fun _ => False)) = QQ
  refine lv_iconst (v := allB f rd ri lim 0) hx hb dX6_blockedOnRoads_0 rfl ?_
  refine lv_istore_n (lv' := [(2, .int (allB f rd ri lim 0)), (0, .ref x), (1, .ref g)]) hx hb dX6_blockedOnRoads_1 rfl hl (by decide) rfl (fun ls hl => ?_)
  refine lv_iconst (v := nI 0) hx hb dX6_blockedOnRoads_2 rfl ?_
  refine lv_istore_n (lv' := [(3, .int (nI 0)), (2, .int (allB f rd ri lim 0)), (0, .ref x), (1, .ref g)]) hx hb dX6_blockedOnRoads_3 rfl hl (by decide) rfl (fun ls hl => ?_)
  have loop_4 : ∀ (k9 i : Nat), i + k9 = nr → ∀ (ls : Array Slot), lv_has ls 4 [(3, .int (nI i)), (2, .int (allB f rd ri lim i)), (0, .ref x), (1, .ref g)] → W p l e (headSpec wsX6_blockedOnRoads ({ frames := 3, cells := 0, slots := 0, locals := 64 } : Room)).room s m args below meth c s.heap [] 0 0 QQ (F0 m 4 ls []) := by
    intro k9
    induction k9 with
    | zero =>
      intro i hik ls hl
      obtain rfl : nr = i := by omega
      refine lv_iload_n hx hb dX6_blockedOnRoads_4 rfl (lv_at hl 0 rfl) ?_
      refine lv_aload_n hx hb dX6_blockedOnRoads_5 rfl (lv_at hl 2 rfl) ?_
      refine z_get (C := RX6) (T := TX6) (N := 11) (ci := 7) (v := .ref rl) X J hi_X6 0 Fa0 rfl 1 (by decide) (by decide +kernel) rfl dX6_blockedOnRoads_6 ?_
      refine z_cr (z_rV (As := []) (rest := [.int (nI nr)]) (ci := 0) (q0 := 2) X J (cJx4a65c_size_8abf5_ok l E Fa1) (cwV 0 hts gX6_blockedOnRoads_Jx4a65c_size_8abf5 rfl rfl rfl (by decide +kernel) ⟨Nat.le_of_ble_eq_true rfl, Nat.le_of_ble_eq_true rfl⟩) Fa1 rfl rfl rfl hl.1 rfl (Nat.le_of_ble_eq_true rfl) dX6_blockedOnRoads_9 ⟨Nat.le_of_ble_eq_true rfl, Nat.le_of_ble_eq_true rfl⟩) (fun r9 e_r9 => ?_)
      subst e_r9
      refine lv_icmp_ge (tgt := 46) hx hb dX6_blockedOnRoads_12 (by decide) (fun cz12 => ?_) (fun cz12 => by exact (cz12 (nI_le (Nat.le_refl _) (by omega))).elim)
      refine lv_iload_n hx hb dX6_blockedOnRoads_46 rfl (lv_at hl 1 rfl) ?_
      subst hQ
      exact W.iret (v := allB f rd ri lim nr) hx hb hr (fun t ht hW => ⟨allB f rd ri lim nr, rfl, rfl, ht⟩) (fun q hq => absurd hq List.not_mem_nil) dX6_blockedOnRoads_47
    | succ k9 ih_4 =>
      intro i hik ls hl
      refine lv_iload_n hx hb dX6_blockedOnRoads_4 rfl (lv_at hl 0 rfl) ?_
      refine lv_aload_n hx hb dX6_blockedOnRoads_5 rfl (lv_at hl 2 rfl) ?_
      refine z_get (C := RX6) (T := TX6) (N := 11) (ci := 7) (v := .ref rl) X J hi_X6 0 Fa0 rfl 1 (by decide) (by decide +kernel) rfl dX6_blockedOnRoads_6 ?_
      refine z_cr (z_rV (As := []) (rest := [.int (nI i)]) (ci := 0) (q0 := 2) X J (cJx4a65c_size_8abf5_ok l E Fa1) (cwV 0 hts gX6_blockedOnRoads_Jx4a65c_size_8abf5 rfl rfl rfl (by decide +kernel) ⟨Nat.le_of_ble_eq_true rfl, Nat.le_of_ble_eq_true rfl⟩) Fa1 rfl rfl rfl hl.1 rfl (Nat.le_of_ble_eq_true rfl) dX6_blockedOnRoads_9 ⟨Nat.le_of_ble_eq_true rfl, Nat.le_of_ble_eq_true rfl⟩) (fun r9 e_r9 => ?_)
      subst e_r9
      refine lv_icmp_ge (tgt := 46) hx hb dX6_blockedOnRoads_12 (by decide) (fun cz12 => by exact (nI_ge (by omega) (by omega) cz12).elim) (fun cz12 => ?_)
      obtain ⟨qe9, g9, fo9, qf9, sp9, qs9, hqe9, hqf9, hqs9, he9, hg9, hfc9, hsc9⟩ := (hR).at (i := i) (by omega)
      refine lv_iload_n hx hb dX6_blockedOnRoads_15 rfl (lv_at hl 1 rfl) ?_
      refine lv_aload_n hx hb dX6_blockedOnRoads_16 rfl (lv_at hl 3 rfl) ?_
      refine lv_aload_n hx hb dX6_blockedOnRoads_17 rfl (lv_at hl 2 rfl) ?_
      refine z_get (C := RX6) (T := TX6) (N := 11) (ci := 7) (v := .ref rl) X J hi_X6 0 Fa0 rfl 1 (by decide) (by decide +kernel) rfl dX6_blockedOnRoads_18 ?_
      refine lv_iload_n hx hb dX6_blockedOnRoads_21 rfl (lv_at hl 0 rfl) ?_
      refine z_crq (z_rV (As := [.int (nI i)]) (rest := [.ref g, .int (allB f rd ri lim i)]) (ci := 0) (q0 := 2) X J (cJx4a65c_get_915e3_ok l E Fa1 he9 (by omega) (by omega)) (cwV 1 hts gX6_blockedOnRoads_Jx4a65c_get_915e3 rfl rfl rfl (by decide +kernel) ⟨Nat.le_of_ble_eq_true rfl, Nat.le_of_ble_eq_true rfl⟩) Fa1 rfl rfl rfl hl.1 rfl (Nat.le_of_ble_eq_true rfl) dX6_blockedOnRoads_22 ⟨Nat.le_of_ble_eq_true rfl, Nat.le_of_ble_eq_true rfl⟩) (fun r22 e_r22 => ?_)
      subst e_r22
      refine W.eq (g2 := F0 m 25 ls [.ref fo9, .ref g, .int (allB f rd ri lim i)]) (by rw [show g9 i = some fo9 from hg9]; rfl) ?_
      refine z_cast (own := RX6) (q := (RX2, TX2, 2)) X J qf9 hfc9 (ci := 3) rfl (hts (.classLink RX6 100 RX2) (by decide +kernel)) dX6_blockedOnRoads_25 ?_
      refine z_get (C := RX2) (T := TX2) (N := 2) (ci := 3) (v := .ref sp9) X J hi_X2 qf9 hfc9 rfl 1 (by decide) (by decide +kernel) rfl dX6_blockedOnRoads_28 ?_
      refine lv_aload_n hx hb dX6_blockedOnRoads_31 rfl (lv_at hl 2 rfl) ?_
      refine z_get (C := RX6) (T := TX6) (N := 11) (ci := 7) (v := .int lim) X J hi_X6 0 Fa0 rfl 6 (by decide) (by decide +kernel) rfl dX6_blockedOnRoads_32 ?_
      refine z_cr (z_rV (As := [.ref sp9, .int lim]) (rest := [.int (allB f rd ri lim i)]) (ci := 2) (q0 := qg) X J (cX1_blocked_ok l E Fa2 Fa3 hsc9 (by first | assumption | omega | decide)) (cwV 2 hts gX6_blockedOnRoads_X1_blocked rfl rfl rfl (by decide +kernel) ⟨Nat.le_of_ble_eq_true rfl, Nat.le_of_ble_eq_true rfl⟩) Fa2 rfl rfl rfl hl.1 rfl (Nat.le_of_ble_eq_true rfl) dX6_blockedOnRoads_35 ⟨Nat.le_of_ble_eq_true rfl, Nat.le_of_ble_eq_true rfl⟩) (fun r35 e_r35 => ?_)
      subst e_r35
      refine lv_iadd hx hb dX6_blockedOnRoads_38 ?_
      refine lv_istore_n (lv' := [(2, .int ((allB f rd ri lim i) + (blkG f (rfi (rd i) (ri i)) (rd i) lim 20))), (3, .int (nI i)), (0, .ref x), (1, .ref g)]) hx hb dX6_blockedOnRoads_39 rfl hl (by decide) rfl (fun ls hl => ?_)
      refine lv_iinc (v := nI (i + 1)) (lv' := [(3, .int (nI (i + 1))), (2, .int ((allB f rd ri lim i) + (blkG f (rfi (rd i) (ri i)) (rd i) lim 20))), (0, .ref x), (1, .ref g)]) hx hb dX6_blockedOnRoads_40 hl (k := 1) rfl (nI_1 i) (by decide) rfl (fun ls hl => ?_)
      refine lv_goto (tgt := 4) hx hb dX6_blockedOnRoads_43 (by decide) ?_
      exact ih_4 (i + 1) (by omega) _ (lv_sub hl [0, 1, 2, 3] rfl)
  exact loop_4 nr 0 (by omega) _ (lv_sub hl [0, 1, 2, 3] rfl)
set_option maxHeartbeats 400000 in
set_option maxRecDepth 100000 in
theorem cX6_blockedAfterAdvice_ok (l : Launch) (E : zG) {ws : va_W} {x fl rl wh gr gra tr tra sc ha va eb nr : Nat} {mc2 lim sup off plo hrs : Int32} {rd ri sn t9 hf gf : Nat → Int32} {qw w : Nat} {dn stg sup2 fc nc nl ca sh sw ho : Int32} (Fa0 : ws[0]? = some (x, .inr (7, [.ref fl, .ref rl, .ref wh, .ref gr, .ref tr, .ref sc, .int lim, .int sup, .int off, .int plo, .int hrs]))) (Fa1 : ws[2]? = some (rl, .inr (0, [.int mc2, .ref eb, .int (nI nr)]))) (Fa2 : ws[4]? = some (gr, .inr (2, [.ref gra]))) (Fa3 : ws[5]? = some (gra, zI4 E 400 sn)) (Fa4 : ws[6]? = some (tr, .inr (2, [.ref tra]))) (Fa5 : ws[7]? = some (tra, zI4 E 400 t9)) (Fa6 : ws[8]? = some (sc, .inr (4, [.ref ha, .ref va]))) (Fa7 : ws[9]? = some (ha, zI4 E 400 hf)) (Fa8 : ws[10]? = some (va, zI4 E 400 gf)) (Fa9 : ws[qw]? = some (w, .inr (6, [.int dn, .int stg, .int sup2, .int fc, .int nc, .int nl, .int ca, .int sh, .int sw, .int ho]))) (hR : RS E ws rd ri eb nr) (hnr : nr ≤ 4) : Met l yX6_blockedAfterAdvice wsX6_blockedAfterAdvice ({ frames := 6, cells := 0, slots := 0, locals := 133 } : Room) (va_Pc [.ref x, .ref w] (zI E ws)) (va_Qi (fun (r : Int32) (ws' : va_W) => (zK [qw, 7] ws ws') ∧ (ws'[qw]? = some (w, .inr (6, [.int dn, .int stg, .int sup2, .int fc, .int nc, .int nl, .int ((boS stg sup2 hf gf fc nc nl (sn, ca, sh, sw, ho) 4).2.2.1), .int ((boS stg sup2 hf gf fc nc nl (sn, ca, sh, sw, ho) 4).2.2.2.1), .int ((boS stg sup2 hf gf fc nc nl (sn, ca, sh, sw, ho) 4).2.2.2.2.1), .int ((boS stg sup2 hf gf fc nc nl (sn, ca, sh, sw, ho) 4).2.2.2.2.2)]))) ∧ (ws'[7]? = some (tra, zI4 E 400 ((boS stg sup2 hf gf fc nc nl (sn, ca, sh, sw, ho) 4).2.1))) ∧ (r = allB (boS stg sup2 hf gf fc nc nl (sn, ca, sh, sw, ho) 4).2.1 rd ri lim nr)) (zI E) (zA E)) 0 0 (zA E) := by
  refine Met.ofW (cc := cX6_blockedAfterAdvice) (maxL := 2) (ret := (some .int)) (by decide) rfl ?_
  intro p e s m args below meth c s₁ B hml hv
  obtain ⟨hargs9, hI⟩ := hv
  have hx := B.exec
  have hb := B.bytes
  have hr := B.returns
  have hlocks := B.notSynchronized
  have X : zC E p m c cX6_blockedAfterAdvice 2 s args wsX6_blockedAfterAdvice RX6 := z_open B hml hI
  have hown := X.1.2.2.2.1
  have hts := X.1.2.2.2.2
  have J := hI.J
  have hi_X6 : ∀ w ∈ wsX60, w ∈ wsX6_blockedAfterAdvice := by decide +kernel
  have n0_9 : 0 ≠ qw := zneK Fa0 Fa9 rfl
  have n1_9 : 2 ≠ qw := zneK Fa1 Fa9 rfl
  have n2_9 : 4 ≠ qw := zneK Fa2 Fa9 rfl
  have n3_9 : 5 ≠ qw := zneK Fa3 Fa9 rfl
  have n4_9 : 6 ≠ qw := zneK Fa4 Fa9 rfl
  have n5_9 : 7 ≠ qw := zneK Fa5 Fa9 rfl
  have n6_9 : 8 ≠ qw := zneK Fa6 Fa9 rfl
  have n7_9 : 9 ≠ qw := zneK Fa7 Fa9 rfl
  have n8_9 : 10 ≠ qw := zneK Fa8 Fa9 rfl
  have hk : zK [qw, 7] ws ws := zK.rf
  have hl := lv_entry ([.ref x, .ref w]) (n := 2) (Nat.le_of_ble_eq_true rfl)
  rw [show entryFrame m args 2 = entryFrame m ([.ref x, .ref w] : List Value).toArray 2 from by rw [hargs9], lg_entry_eq]
  generalize (lg_sl ([.ref x, .ref w]) ++ List.replicate (2 - (lg_sl ([.ref x, .ref w])).length) Slot.unset).toArray = ls at hl ⊢
  have hl : lv_has ls 2 [(0, .ref x), (1, .ref w)] := hl
  generalize hQ : (MQ below (va_Qi (fun (r : Int32) (ws' : va_W) => (zK [qw, 7] ws ws') ∧ (ws'[qw]? = some (w, .inr (6, [.int dn, .int stg, .int sup2, .int fc, .int nc, .int nl, .int ((boS stg sup2 hf gf fc nc nl (sn, ca, sh, sw, ho) 4).2.2.1), .int ((boS stg sup2 hf gf fc nc nl (sn, ca, sh, sw, ho) 4).2.2.2.1), .int ((boS stg sup2 hf gf fc nc nl (sn, ca, sh, sw, ho) 4).2.2.2.2.1), .int ((boS stg sup2 hf gf fc nc nl (sn, ca, sh, sw, ho) 4).2.2.2.2.2)]))) ∧ (ws'[7]? = some (tra, zI4 E 400 ((boS stg sup2 hf gf fc nc nl (sn, ca, sh, sw, ho) 4).2.1))) ∧ (r = allB (boS stg sup2 hf gf fc nc nl (sn, ca, sh, sw, ho) 4).2.1 rd ri lim nr)) (zI E) (zA E)) args s 0 0 (zA E)) = QQ
  refine lv_aload_n hx hb dX6_blockedAfterAdvice_0 rfl (lv_at hl 0 rfl) ?_
  refine z_get (C := RX6) (T := TX6) (N := 11) (ci := 7) (v := .ref tr) X J hi_X6 0 Fa0 rfl 4 (by decide) (by decide +kernel) rfl dX6_blockedAfterAdvice_1 ?_
  refine lv_aload_n hx hb dX6_blockedAfterAdvice_4 rfl (lv_at hl 0 rfl) ?_
  refine z_get (C := RX6) (T := TX6) (N := 11) (ci := 7) (v := .ref gr) X J hi_X6 0 Fa0 rfl 3 (by decide) (by decide +kernel) rfl dX6_blockedAfterAdvice_5 ?_
  refine z_cv J (z_rV (As := [.ref gr]) (rest := []) (ci := 2) (q0 := 6) X J (cX1_becomeLike_ok l E Fa4 Fa5 Fa2 Fa3 (by first | assumption | omega | decide)) (cwV 1 hts gX6_blockedAfterAdvice_X1_becomeLike rfl rfl rfl (by decide +kernel) ⟨Nat.le_of_ble_eq_true rfl, Nat.le_of_ble_eq_true rfl⟩) Fa4 rfl rfl rfl hl.1 rfl (Nat.le_of_ble_eq_true rfl) dX6_blockedAfterAdvice_8 ⟨Nat.le_of_ble_eq_true rfl, Nat.le_of_ble_eq_true rfl⟩) (fun ws_1 H locs hp9 J => ?_)
  obtain ⟨k1, G1_a0⟩ := hp9
  have hk := hk.trans (k1.mono (by intro q9 hq9; simp only [List.mem_cons, List.not_mem_nil, or_false] at hq9 ⊢; omega))
  have G1_0 := k1.2 0 _ (by decide) Fa0
  have G1_1 := k1.2 2 _ (by decide) Fa1
  have G1_2 := k1.2 4 _ (by decide) Fa2
  have G1_3 := k1.2 5 _ (by decide) Fa3
  have G1_4 := k1.2 6 _ (by decide) Fa4
  have G1_6 := k1.2 8 _ (by decide) Fa6
  have G1_7 := k1.2 9 _ (by decide) Fa7
  have G1_8 := k1.2 10 _ (by decide) Fa8
  have G1_9 := k1.2 qw _ (by simp only [List.mem_cons, List.not_mem_nil, or_false]; omega) Fa9
  refine lv_aload_n hx hb dX6_blockedAfterAdvice_11 rfl (lv_at hl 0 rfl) ?_
  refine lv_aload_n hx hb dX6_blockedAfterAdvice_12 rfl (lv_at hl 0 rfl) ?_
  refine z_get (C := RX6) (T := TX6) (N := 11) (ci := 7) (v := .ref tr) X J hi_X6 0 G1_0 rfl 4 (by decide) (by decide +kernel) rfl dX6_blockedAfterAdvice_13 ?_
  refine lv_aload_n hx hb dX6_blockedAfterAdvice_16 rfl (lv_at hl 1 rfl) ?_
  refine lv_iconst (v := nI 4) hx hb dX6_blockedAfterAdvice_17 rfl ?_
  refine z_ci J (z_rV (As := [.ref tr, .ref w, .int (nI 4)]) (rest := []) (ci := 7) (q0 := 0) X J (cX6_blowOver_ok l E G1_0 G1_6 G1_7 G1_8 G1_4 G1_a0 G1_9 (by first | assumption | omega | decide) (by first | assumption | omega | decide) (by first | assumption | omega | decide)) (cwV 3 hts gX6_blockedAfterAdvice_X6_blowOver rfl rfl rfl (by decide +kernel) ⟨Nat.le_of_ble_eq_true rfl, Nat.le_of_ble_eq_true rfl⟩) G1_0 rfl rfl rfl hl.1 rfl (Nat.le_of_ble_eq_true rfl) dX6_blockedAfterAdvice_18 ⟨Nat.le_of_ble_eq_true rfl, Nat.le_of_ble_eq_true rfl⟩) (fun r18 ws_2 H locs hp9 J => ?_)
  obtain ⟨k2, G2_a0, G2_a1, e_r18⟩ := hp9
  have hk := hk.trans (k2.mono (by intro q9 hq9; simp only [List.mem_cons, List.not_mem_nil, or_false] at hq9 ⊢; omega))
  have G2_0 := k2.2 0 _ (by simp only [List.mem_cons, List.not_mem_nil, or_false]; omega) G1_0
  have G2_1 := k2.2 2 _ (by simp only [List.mem_cons, List.not_mem_nil, or_false]; omega) G1_1
  have G2_2 := k2.2 4 _ (by simp only [List.mem_cons, List.not_mem_nil, or_false]; omega) G1_2
  have G2_3 := k2.2 5 _ (by simp only [List.mem_cons, List.not_mem_nil, or_false]; omega) G1_3
  have G2_4 := k2.2 6 _ (by simp only [List.mem_cons, List.not_mem_nil, or_false]; omega) G1_4
  have G2_6 := k2.2 8 _ (by simp only [List.mem_cons, List.not_mem_nil, or_false]; omega) G1_6
  have G2_7 := k2.2 9 _ (by simp only [List.mem_cons, List.not_mem_nil, or_false]; omega) G1_7
  have G2_8 := k2.2 10 _ (by simp only [List.mem_cons, List.not_mem_nil, or_false]; omega) G1_8
  subst e_r18
  refine lv_pop hx hb dX6_blockedAfterAdvice_21 rfl ?_
  refine lv_aload_n hx hb dX6_blockedAfterAdvice_22 rfl (lv_at hl 0 rfl) ?_
  refine lv_aload_n hx hb dX6_blockedAfterAdvice_23 rfl (lv_at hl 0 rfl) ?_
  refine z_get (C := RX6) (T := TX6) (N := 11) (ci := 7) (v := .ref tr) X J hi_X6 0 G2_0 rfl 4 (by decide) (by decide +kernel) rfl dX6_blockedAfterAdvice_24 ?_
  refine z_cr (z_rV (As := [.ref tr]) (rest := []) (ci := 7) (q0 := 0) X J (cX6_blockedOnRoads_ok l E G2_0 G2_1 G2_4 G2_a1 (hR.keepW hk Fa9 (by simp)) (by first | assumption | omega | decide)) (cwV 1 hts gX6_blockedAfterAdvice_X6_blockedOnRoads rfl rfl rfl (by decide +kernel) ⟨Nat.le_of_ble_eq_true rfl, Nat.le_of_ble_eq_true rfl⟩) G2_0 rfl rfl rfl hl.1 rfl (Nat.le_of_ble_eq_true rfl) dX6_blockedAfterAdvice_27 ⟨Nat.le_of_ble_eq_true rfl, Nat.le_of_ble_eq_true rfl⟩) (fun r27 e_r27 => ?_)
  subst e_r27
  subst hQ
  exact W.iret (v := allB ((boS stg sup2 hf gf fc nc nl (sn, ca, sh, sw, ho) 4).2.1) rd ri lim nr) hx hb hr (fun t ht hW => ⟨⟨allB ((boS stg sup2 hf gf fc nc nl (sn, ca, sh, sw, ho) 4).2.1) rd ri lim nr, ws_2, rfl, ⟨hk, G2_a0, G2_a1, rfl⟩, J.I X ht hW.alike⟩, J.F ht⟩) J.locs dX6_blockedAfterAdvice_30
