set_option maxHeartbeats 4000000 in
set_option maxRecDepth 100000 in
theorem cX7_thrown_ok (l : Launch) (E : zG) {ws : va_W} {mo mf md mi ms9 mk mt nf nr : Nat} {th lim sup off plo hrs : Int32} (Fa0 : ws[11]? = some (mo, .inr (8, [.int th, .int (nI nf), .ref mf, .int (nI nr), .ref md, .ref mi, .int lim, .int sup, .int off, .int plo, .int hrs, .ref ms9, .ref mk, .ref mt])))  : Met l yX7_thrown wsX7_thrown ({ frames := 0, cells := 0, slots := 0, locals := 0 } : Room) (va_Pc [.ref mo] (zI E ws)) (vp_Si (fun r : Int32 => r = th)) 0 0 (fun _ => False) := by
  refine Met.ofW (cc := cX7_thrown) (maxL := 1) (ret := (some .int)) (by decide) rfl ?_
  intro p e s m args below meth c s₁ B hml hv
  obtain ⟨hargs9, hI⟩ := hv
  have hx := B.exec
  have hb := B.bytes
  have hr := B.returns
  have hlocks := B.notSynchronized
  have X : zC E p m c cX7_thrown 1 s args wsX7_thrown RX7 := z_open B hml hI
  have hown := X.1.2.2.2.1
  have hts := X.1.2.2.2.2
  have J := hI.J
  have hi_X7 : ∀ w ∈ wsX70, w ∈ wsX7_thrown := by decide +kernel
  have hl := lv_entry ([.ref mo]) (n := 1) (Nat.le_of_ble_eq_true rfl)
  rw [show entryFrame m args 1 = entryFrame m ([.ref mo] : List Value).toArray 1 from by rw [hargs9], lg_entry_eq]
  generalize (lg_sl ([.ref mo]) ++ List.replicate (1 - (lg_sl ([.ref mo])).length) Slot.unset).toArray = ls at hl ⊢
  have hl : lv_has ls 1 [(0, .ref mo)] := hl
  generalize hQ : (MQ below (vp_Si (fun r : Int32 => r = th)) args s 0 0 (fun _ => False)) = QQ
  refine lv_aload_n hx hb dX7_thrown_0 rfl (lv_at hl 0 rfl) ?_
  refine z_get (C := RX7) (T := TX7) (N := 14) (ci := 8) (v := .int th) X J hi_X7 11 Fa0 rfl 0 (by decide) (by decide +kernel) rfl dX7_thrown_1 ?_
  subst hQ
  exact W.iret (v := th) hx hb hr (fun t ht hW => ⟨th, rfl, rfl, ht⟩) (fun q hq => absurd hq List.not_mem_nil) dX7_thrown_4
set_option maxHeartbeats 4000000 in
set_option maxRecDepth 100000 in
theorem cX7_no_ok (l : Launch) (E : zG) {ws : va_W} {mo mf md mi ms9 mk mt nf nr : Nat} {th lim sup off plo hrs : Int32} {k : Int32} (Fa0 : ws[11]? = some (mo, .inr (8, [.int th, .int (nI nf), .ref mf, .int (nI nr), .ref md, .ref mi, .int lim, .int sup, .int off, .int plo, .int hrs, .ref ms9, .ref mk, .ref mt])))  : Met l yX7_no wsX7_no ({ frames := 0, cells := 0, slots := 0, locals := 0 } : Room) (va_Pc [.ref mo, .int k] (zI E ws)) (va_Qi (fun (r : Int32) (ws' : va_W) => (zK [11] ws ws') ∧ (ws'.length = ws.length) ∧ (ws'[11]? = some (mo, .inr (8, [.int k, .int (nI nf), .ref mf, .int (nI nr), .ref md, .ref mi, .int lim, .int sup, .int off, .int plo, .int hrs, .ref ms9, .ref mk, .ref mt]))) ∧ (r = 0)) (zI E) (zA E)) 0 0 (zA E) := by
  refine Met.ofW (cc := cX7_no) (maxL := 2) (ret := (some .int)) (by decide) rfl ?_
  intro p e s m args below meth c s₁ B hml hv
  obtain ⟨hargs9, hI⟩ := hv
  have hx := B.exec
  have hb := B.bytes
  have hr := B.returns
  have hlocks := B.notSynchronized
  have X : zC E p m c cX7_no 2 s args wsX7_no RX7 := z_open B hml hI
  have hown := X.1.2.2.2.1
  have hts := X.1.2.2.2.2
  have J := hI.J
  have hi_X7 : ∀ w ∈ wsX70, w ∈ wsX7_no := by decide +kernel
  have hk : zK [11] ws ws := zK.rf
  have hlen : ws.length = ws.length + 0 := rfl
  have bFa0 := zlt Fa0
  have hl := lv_entry ([.ref mo, .int k]) (n := 2) (Nat.le_of_ble_eq_true rfl)
  rw [show entryFrame m args 2 = entryFrame m ([.ref mo, .int k] : List Value).toArray 2 from by rw [hargs9], lg_entry_eq]
  generalize (lg_sl ([.ref mo, .int k]) ++ List.replicate (2 - (lg_sl ([.ref mo, .int k])).length) Slot.unset).toArray = ls at hl ⊢
  have hl : lv_has ls 2 [(0, .ref mo), (1, .int k)] := hl
  generalize hQ : (MQ below (va_Qi (fun (r : Int32) (ws' : va_W) => (zK [11] ws ws') ∧ (ws'.length = ws.length) ∧ (ws'[11]? = some (mo, .inr (8, [.int k, .int (nI nf), .ref mf, .int (nI nr), .ref md, .ref mi, .int lim, .int sup, .int off, .int plo, .int hrs, .ref ms9, .ref mk, .ref mt]))) ∧ (r = 0)) (zI E) (zA E)) args s 0 0 (zA E)) = QQ
  refine lv_aload_n hx hb dX7_no_0 rfl (lv_at hl 0 rfl) ?_
  refine lv_iload_n hx hb dX7_no_1 rfl (lv_at hl 1 rfl) ?_
  refine z_put (C := RX7) (T := TX7) (N := 14) (ci := 8) (v := .int k) X J hi_X7 tyX7 tyX7_ok nmX7 11 Fa0 rfl 0 (by decide) (by decide +kernel) rfl rfl rfl (Nat.le_of_ble_eq_true rfl) dX7_no_2 (fun H locs J => ?_)
  have J : zJ E (ws.set 11 (mo, .inr (8, [.int k, .int (nI nf), .ref mf, .int (nI nr), .ref md, .ref mi, .int lim, .int sup, .int off, .int plo, .int hrs, .ref ms9, .ref mk, .ref mt]))) s H locs := J
  have hk := hk.trans (zK.set (ws := ws) (q := 11) (e := (mo, .inr (8, [.int k, .int (nI nf), .ref mf, .int (nI nr), .ref md, .ref mi, .int lim, .int sup, .int off, .int plo, .int hrs, .ref ms9, .ref mk, .ref mt]))) (by simp))
  have hlen : (ws.set 11 (mo, .inr (8, [.int k, .int (nI nf), .ref mf, .int (nI nr), .ref md, .ref mi, .int lim, .int sup, .int off, .int plo, .int hrs, .ref ms9, .ref mk, .ref mt]))).length = ws.length + 0 := (List.length_set ..).trans hlen
  have G1_0 := zset_eq (e' := (mo, .inr (8, [.int k, .int (nI nf), .ref mf, .int (nI nr), .ref md, .ref mi, .int lim, .int sup, .int off, .int plo, .int hrs, .ref ms9, .ref mk, .ref mt]))) Fa0
  generalize hws1 : (ws.set 11 (mo, .inr (8, [.int k, .int (nI nf), .ref mf, .int (nI nr), .ref md, .ref mi, .int lim, .int sup, .int off, .int plo, .int hrs, .ref ms9, .ref mk, .ref mt]))) = ws_1 at J hlen hk G1_0
  refine lv_iconst (v := 0) hx hb dX7_no_5 (by decide) ?_
  subst hQ
  exact W.iret (v := 0) hx hb hr (fun t ht hW => ⟨⟨0, ws_1, rfl, ⟨hk, hlen, G1_0, rfl⟩, J.I X ht hW.alike⟩, J.F ht⟩) J.locs dX7_no_6
set_option maxHeartbeats 4000000 in
set_option maxRecDepth 100000 in
theorem cX7_isIn_ok (l : Launch) (E : zG) {ws : va_W} {v lo hi : Int32}   : Met l yX7_isIn wsX7_isIn ({ frames := 0, cells := 0, slots := 0, locals := 0 } : Room) (va_Pc [.int v, .int lo, .int hi] (zI E ws)) (vp_Si (fun r : Int32 => r = isInS v lo hi)) 0 0 (fun _ => False) := by
  refine Met.ofW (cc := cX7_isIn) (maxL := 3) (ret := (some .boolean)) (by decide) rfl ?_
  intro p e s m args below meth c s₁ B hml hv
  obtain ⟨hargs9, hI⟩ := hv
  have hx := B.exec
  have hb := B.bytes
  have hr := B.returns
  have hlocks := B.notSynchronized
  have X : zC E p m c cX7_isIn 3 s args wsX7_isIn RX7 := z_open B hml hI
  have hown := X.1.2.2.2.1
  have hts := X.1.2.2.2.2
  have J := hI.J
  have hl := lv_entry ([.int v, .int lo, .int hi]) (n := 3) (Nat.le_of_ble_eq_true rfl)
  rw [show entryFrame m args 3 = entryFrame m ([.int v, .int lo, .int hi] : List Value).toArray 3 from by rw [hargs9], lg_entry_eq]
  generalize (lg_sl ([.int v, .int lo, .int hi]) ++ List.replicate (3 - (lg_sl ([.int v, .int lo, .int hi])).length) Slot.unset).toArray = ls at hl ⊢
  have hl : lv_has ls 3 [(0, .int v), (1, .int lo), (2, .int hi)] := hl
  generalize hQ : (MQ below (vp_Si (fun r : Int32 => r = isInS v lo hi)) args s 0 0 (fun _ => False)) = QQ
  refine lv_iload_n hx hb dX7_isIn_0 rfl (lv_at hl 0 rfl) ?_
  refine lv_iload_n hx hb dX7_isIn_1 rfl (lv_at hl 1 rfl) ?_
  refine lv_icmp_lt (tgt := 14) hx hb dX7_isIn_2 (by decide) (fun cz2 => ?_) (fun cz2 => ?_)
  · refine lv_iconst (v := 0) hx hb dX7_isIn_14 (by decide) ?_
    subst hQ
    exact W.zret (v := 0) hx hb hr rfl (fun t ht hW => ⟨0, rfl, (by first | exact (isInS_1 cz2 cz7).symm | exact (isInS_0 (Or.inl cz2)).symm | exact (isInS_0 (Or.inr cz7)).symm), ht⟩) (fun q hq => absurd hq List.not_mem_nil) dX7_isIn_15
  · refine lv_iload_n hx hb dX7_isIn_5 rfl (lv_at hl 0 rfl) ?_
    refine lv_iload_n hx hb dX7_isIn_6 rfl (lv_at hl 2 rfl) ?_
    refine lv_icmp_gt (tgt := 14) hx hb dX7_isIn_7 (by decide) (fun cz7 => ?_) (fun cz7 => ?_)
    · refine lv_iconst (v := 0) hx hb dX7_isIn_14 (by decide) ?_
      subst hQ
      exact W.zret (v := 0) hx hb hr rfl (fun t ht hW => ⟨0, rfl, (by first | exact (isInS_1 cz2 cz7).symm | exact (isInS_0 (Or.inl cz2)).symm | exact (isInS_0 (Or.inr cz7)).symm), ht⟩) (fun q hq => absurd hq List.not_mem_nil) dX7_isIn_15
    · refine lv_iconst (v := 1) hx hb dX7_isIn_10 (by decide) ?_
      refine lv_goto (tgt := 15) hx hb dX7_isIn_11 (by decide) ?_
      subst hQ
      exact W.zret (v := 1) hx hb hr rfl (fun t ht hW => ⟨1, rfl, (by first | exact (isInS_1 cz2 cz7).symm | exact (isInS_0 (Or.inl cz2)).symm | exact (isInS_0 (Or.inr cz7)).symm), ht⟩) (fun q hq => absurd hq List.not_mem_nil) dX7_isIn_15
set_option maxHeartbeats 4000000 in
set_option maxRecDepth 100000 in
theorem cX7_isFence_ok (l : Launch) (E : zG) {ws : va_W} {mo mf md mi ms9 mk mt nf nr : Nat} {th lim sup off plo hrs : Int32} {f : Int32} (Fa0 : ws[11]? = some (mo, .inr (8, [.int th, .int (nI nf), .ref mf, .int (nI nr), .ref md, .ref mi, .int lim, .int sup, .int off, .int plo, .int hrs, .ref ms9, .ref mk, .ref mt])))  : Met l yX7_isFence wsX7_isFence ({ frames := 1, cells := 0, slots := 0, locals := 22 } : Room) (va_Pc [.ref mo, .int f] (zI E ws)) (vp_Si (fun r : Int32 => r = isInS f 0 (nI nf - 1))) 0 0 (fun _ => False) := by
  refine Met.ofW (cc := cX7_isFence) (maxL := 2) (ret := (some .boolean)) (by decide) rfl ?_
  intro p e s m args below meth c s₁ B hml hv
  obtain ⟨hargs9, hI⟩ := hv
  have hx := B.exec
  have hb := B.bytes
  have hr := B.returns
  have hlocks := B.notSynchronized
  have X : zC E p m c cX7_isFence 2 s args wsX7_isFence RX7 := z_open B hml hI
  have hown := X.1.2.2.2.1
  have hts := X.1.2.2.2.2
  have J := hI.J
  have hi_X7 : ∀ w ∈ wsX70, w ∈ wsX7_isFence := by decide +kernel
  have hl := lv_entry ([.ref mo, .int f]) (n := 2) (Nat.le_of_ble_eq_true rfl)
  rw [show entryFrame m args 2 = entryFrame m ([.ref mo, .int f] : List Value).toArray 2 from by rw [hargs9], lg_entry_eq]
  generalize (lg_sl ([.ref mo, .int f]) ++ List.replicate (2 - (lg_sl ([.ref mo, .int f])).length) Slot.unset).toArray = ls at hl ⊢
  have hl : lv_has ls 2 [(0, .ref mo), (1, .int f)] := hl
  generalize hQ : (MQ below (vp_Si (fun r : Int32 => r = isInS f 0 (nI nf - 1))) args s 0 0 (fun _ => False)) = QQ
  refine lv_iload_n hx hb dX7_isFence_0 rfl (lv_at hl 1 rfl) ?_
  refine lv_iconst (v := 0) hx hb dX7_isFence_1 (by decide) ?_
  refine lv_aload_n hx hb dX7_isFence_2 rfl (lv_at hl 0 rfl) ?_
  refine z_get (C := RX7) (T := TX7) (N := 14) (ci := 8) (v := .int (nI nf)) X J hi_X7 11 Fa0 rfl 1 (by decide) (by decide +kernel) rfl dX7_isFence_3 ?_
  refine lv_iconst (v := 1) hx hb dX7_isFence_6 (by decide) ?_
  refine lv_isub hx hb dX7_isFence_7 ?_
  refine z_cr (z_rS (As := [.int f, .int 0, .int ((nI nf) - 1)]) (rest := []) X J (cX7_isIn_ok l E) (va_cwS 3 hts gX7_isFence_X7_isIn rfl rfl rfl (by decide +kernel) ⟨Nat.le_of_ble_eq_true rfl, Nat.le_of_ble_eq_true rfl⟩) rfl hl.1 rfl (Nat.le_of_ble_eq_true rfl) dX7_isFence_8 ⟨Nat.le_of_ble_eq_true rfl, Nat.le_of_ble_eq_true rfl⟩) (fun r8 e_r8 => ?_)
  subst e_r8
  subst hQ
  exact W.zret (v := isInS f 0 ((nI nf) - 1)) hx hb hr isInS_nar (fun t ht hW => ⟨isInS f 0 ((nI nf) - 1), rfl, rfl, ht⟩) (fun q hq => absurd hq List.not_mem_nil) dX7_isFence_11
set_option maxHeartbeats 4000000 in
set_option maxRecDepth 100000 in
theorem cX7_isRoad_ok (l : Launch) (E : zG) {ws : va_W} {mo mf md mi ms9 mk mt nf nr : Nat} {th lim sup off plo hrs : Int32} {f : Int32} (Fa0 : ws[11]? = some (mo, .inr (8, [.int th, .int (nI nf), .ref mf, .int (nI nr), .ref md, .ref mi, .int lim, .int sup, .int off, .int plo, .int hrs, .ref ms9, .ref mk, .ref mt])))  : Met l yX7_isRoad wsX7_isRoad ({ frames := 1, cells := 0, slots := 0, locals := 22 } : Room) (va_Pc [.ref mo, .int f] (zI E ws)) (vp_Si (fun r : Int32 => r = isInS f 0 (nI nr - 1))) 0 0 (fun _ => False) := by
  refine Met.ofW (cc := cX7_isRoad) (maxL := 2) (ret := (some .boolean)) (by decide) rfl ?_
  intro p e s m args below meth c s₁ B hml hv
  obtain ⟨hargs9, hI⟩ := hv
  have hx := B.exec
  have hb := B.bytes
  have hr := B.returns
  have hlocks := B.notSynchronized
  have X : zC E p m c cX7_isRoad 2 s args wsX7_isRoad RX7 := z_open B hml hI
  have hown := X.1.2.2.2.1
  have hts := X.1.2.2.2.2
  have J := hI.J
  have hi_X7 : ∀ w ∈ wsX70, w ∈ wsX7_isRoad := by decide +kernel
  have hl := lv_entry ([.ref mo, .int f]) (n := 2) (Nat.le_of_ble_eq_true rfl)
  rw [show entryFrame m args 2 = entryFrame m ([.ref mo, .int f] : List Value).toArray 2 from by rw [hargs9], lg_entry_eq]
  generalize (lg_sl ([.ref mo, .int f]) ++ List.replicate (2 - (lg_sl ([.ref mo, .int f])).length) Slot.unset).toArray = ls at hl ⊢
  have hl : lv_has ls 2 [(0, .ref mo), (1, .int f)] := hl
  generalize hQ : (MQ below (vp_Si (fun r : Int32 => r = isInS f 0 (nI nr - 1))) args s 0 0 (fun _ => False)) = QQ
  refine lv_iload_n hx hb dX7_isRoad_0 rfl (lv_at hl 1 rfl) ?_
  refine lv_iconst (v := 0) hx hb dX7_isRoad_1 (by decide) ?_
  refine lv_aload_n hx hb dX7_isRoad_2 rfl (lv_at hl 0 rfl) ?_
  refine z_get (C := RX7) (T := TX7) (N := 14) (ci := 8) (v := .int (nI nr)) X J hi_X7 11 Fa0 rfl 3 (by decide) (by decide +kernel) rfl dX7_isRoad_3 ?_
  refine lv_iconst (v := 1) hx hb dX7_isRoad_6 (by decide) ?_
  refine lv_isub hx hb dX7_isRoad_7 ?_
  refine z_cr (z_rS (As := [.int f, .int 0, .int ((nI nr) - 1)]) (rest := []) X J (cX7_isIn_ok l E) (va_cwS 3 hts gX7_isRoad_X7_isIn rfl rfl rfl (by decide +kernel) ⟨Nat.le_of_ble_eq_true rfl, Nat.le_of_ble_eq_true rfl⟩) rfl hl.1 rfl (Nat.le_of_ble_eq_true rfl) dX7_isRoad_8 ⟨Nat.le_of_ble_eq_true rfl, Nat.le_of_ble_eq_true rfl⟩) (fun r8 e_r8 => ?_)
  subst e_r8
  subst hQ
  exact W.zret (v := isInS f 0 ((nI nr) - 1)) hx hb hr isInS_nar (fun t ht hW => ⟨isInS f 0 ((nI nr) - 1), rfl, rfl, ht⟩) (fun q hq => absurd hq List.not_mem_nil) dX7_isRoad_11
set_option maxHeartbeats 4000000 in
set_option maxRecDepth 100000 in
theorem cX7_isWind_ok (l : Launch) (E : zG) {ws : va_W} {f : Int32}   : Met l yX7_isWind wsX7_isWind ({ frames := 1, cells := 0, slots := 0, locals := 22 } : Room) (va_Pc [.int f] (zI E ws)) (vp_Si (fun r : Int32 => r = isInS f 0 3)) 0 0 (fun _ => False) := by
  refine Met.ofW (cc := cX7_isWind) (maxL := 1) (ret := (some .boolean)) (by decide) rfl ?_
  intro p e s m args below meth c s₁ B hml hv
  obtain ⟨hargs9, hI⟩ := hv
  have hx := B.exec
  have hb := B.bytes
  have hr := B.returns
  have hlocks := B.notSynchronized
  have X : zC E p m c cX7_isWind 1 s args wsX7_isWind RX7 := z_open B hml hI
  have hown := X.1.2.2.2.1
  have hts := X.1.2.2.2.2
  have J := hI.J
  have hl := lv_entry ([.int f]) (n := 1) (Nat.le_of_ble_eq_true rfl)
  rw [show entryFrame m args 1 = entryFrame m ([.int f] : List Value).toArray 1 from by rw [hargs9], lg_entry_eq]
  generalize (lg_sl ([.int f]) ++ List.replicate (1 - (lg_sl ([.int f])).length) Slot.unset).toArray = ls at hl ⊢
  have hl : lv_has ls 1 [(0, .int f)] := hl
  generalize hQ : (MQ below (vp_Si (fun r : Int32 => r = isInS f 0 3)) args s 0 0 (fun _ => False)) = QQ
  refine lv_iload_n hx hb dX7_isWind_0 rfl (lv_at hl 0 rfl) ?_
  refine lv_iconst (v := 0) hx hb dX7_isWind_1 (by decide) ?_
  refine lv_iconst (v := 3) hx hb dX7_isWind_2 (by decide) ?_
  refine z_cr (z_rS (As := [.int f, .int 0, .int 3]) (rest := []) X J (cX7_isIn_ok l E) (va_cwS 3 hts gX7_isWind_X7_isIn rfl rfl rfl (by decide +kernel) ⟨Nat.le_of_ble_eq_true rfl, Nat.le_of_ble_eq_true rfl⟩) rfl hl.1 rfl (Nat.le_of_ble_eq_true rfl) dX7_isWind_3 ⟨Nat.le_of_ble_eq_true rfl, Nat.le_of_ble_eq_true rfl⟩) (fun r3 e_r3 => ?_)
  subst e_r3
  subst hQ
  exact W.zret (v := isInS f 0 3) hx hb hr isInS_nar (fun t ht hW => ⟨isInS f 0 3, rfl, rfl, ht⟩) (fun q hq => absurd hq List.not_mem_nil) dX7_isWind_6
set_option maxHeartbeats 4000000 in
set_option maxRecDepth 100000 in
theorem cX7_isStrength_ok (l : Launch) (E : zG) {ws : va_W} {f : Int32}   : Met l yX7_isStrength wsX7_isStrength ({ frames := 1, cells := 0, slots := 0, locals := 22 } : Room) (va_Pc [.int f] (zI E ws)) (vp_Si (fun r : Int32 => r = isInS f 1 9)) 0 0 (fun _ => False) := by
  refine Met.ofW (cc := cX7_isStrength) (maxL := 1) (ret := (some .boolean)) (by decide) rfl ?_
  intro p e s m args below meth c s₁ B hml hv
  obtain ⟨hargs9, hI⟩ := hv
  have hx := B.exec
  have hb := B.bytes
  have hr := B.returns
  have hlocks := B.notSynchronized
  have X : zC E p m c cX7_isStrength 1 s args wsX7_isStrength RX7 := z_open B hml hI
  have hown := X.1.2.2.2.1
  have hts := X.1.2.2.2.2
  have J := hI.J
  have hl := lv_entry ([.int f]) (n := 1) (Nat.le_of_ble_eq_true rfl)
  rw [show entryFrame m args 1 = entryFrame m ([.int f] : List Value).toArray 1 from by rw [hargs9], lg_entry_eq]
  generalize (lg_sl ([.int f]) ++ List.replicate (1 - (lg_sl ([.int f])).length) Slot.unset).toArray = ls at hl ⊢
  have hl : lv_has ls 1 [(0, .int f)] := hl
  generalize hQ : (MQ below (vp_Si (fun r : Int32 => r = isInS f 1 9)) args s 0 0 (fun _ => False)) = QQ
  refine lv_iload_n hx hb dX7_isStrength_0 rfl (lv_at hl 0 rfl) ?_
  refine lv_iconst (v := 1) hx hb dX7_isStrength_1 (by decide) ?_
  refine lv_bipush (v := 9) hx hb dX7_isStrength_2 (by decide) ?_
  refine z_cr (z_rS (As := [.int f, .int 1, .int 9]) (rest := []) X J (cX7_isIn_ok l E) (va_cwS 3 hts gX7_isStrength_X7_isIn rfl rfl rfl (by decide +kernel) ⟨Nat.le_of_ble_eq_true rfl, Nat.le_of_ble_eq_true rfl⟩) rfl hl.1 rfl (Nat.le_of_ble_eq_true rfl) dX7_isStrength_4 ⟨Nat.le_of_ble_eq_true rfl, Nat.le_of_ble_eq_true rfl⟩) (fun r4 e_r4 => ?_)
  subst e_r4
  subst hQ
  exact W.zret (v := isInS f 1 9) hx hb hr isInS_nar (fun t ht hW => ⟨isInS f 1 9, rfl, rfl, ht⟩) (fun q hq => absurd hq List.not_mem_nil) dX7_isStrength_7
set_option maxHeartbeats 4000000 in
set_option maxRecDepth 100000 in
theorem cX7_of_ok (l : Launch) (E : zG) {ws : va_W} {mo mf md mi ms9 mk mt nf nr : Nat} {th lim sup off plo hrs : Int32} {fa : Nat → Int32} {k j : Nat} (Fa0 : ws[11]? = some (mo, .inr (8, [.int th, .int (nI nf), .ref mf, .int (nI nr), .ref md, .ref mi, .int lim, .int sup, .int off, .int plo, .int hrs, .ref ms9, .ref mk, .ref mt]))) (Fa1 : ws[12]? = some (mf, zI4 E 66 fa)) (hk9 : k ≤ 10) (hj : j < 6) : Met l yX7_of wsX7_of ({ frames := 0, cells := 0, slots := 0, locals := 0 } : Room) (va_Pc [.ref mo, .int (nI k), .int (nI j)] (zI E ws)) (vp_Si (fun r : Int32 => r = fa (6 * k + j))) 0 0 (fun _ => False) := by
  refine Met.ofW (cc := cX7_of) (maxL := 3) (ret := (some .int)) (by decide) rfl ?_
  intro p e s m args below meth c s₁ B hml hv
  obtain ⟨hargs9, hI⟩ := hv
  have hx := B.exec
  have hb := B.bytes
  have hr := B.returns
  have hlocks := B.notSynchronized
  have X : zC E p m c cX7_of 3 s args wsX7_of RX7 := z_open B hml hI
  have hown := X.1.2.2.2.1
  have hts := X.1.2.2.2.2
  have J := hI.J
  have hi_X7 : ∀ w ∈ wsX70, w ∈ wsX7_of := by decide +kernel
  have hl := lv_entry ([.ref mo, .int (nI k), .int (nI j)]) (n := 3) (Nat.le_of_ble_eq_true rfl)
  rw [show entryFrame m args 3 = entryFrame m ([.ref mo, .int (nI k), .int (nI j)] : List Value).toArray 3 from by rw [hargs9], lg_entry_eq]
  generalize (lg_sl ([.ref mo, .int (nI k), .int (nI j)]) ++ List.replicate (3 - (lg_sl ([.ref mo, .int (nI k), .int (nI j)])).length) Slot.unset).toArray = ls at hl ⊢
  have hl : lv_has ls 3 [(0, .ref mo), (1, .int (nI k)), (2, .int (nI j))] := hl
  generalize hQ : (MQ below (vp_Si (fun r : Int32 => r = fa (6 * k + j))) args s 0 0 (fun _ => False)) = QQ
  refine lv_aload_n hx hb dX7_of_0 rfl (lv_at hl 0 rfl) ?_
  refine z_get (C := RX7) (T := TX7) (N := 14) (ci := 8) (v := .ref mf) X J hi_X7 11 Fa0 rfl 2 (by decide) (by decide +kernel) rfl dX7_of_1 ?_
  refine lv_bipush (v := 6) hx hb dX7_of_4 (by decide) ?_
  refine lv_iload_n hx hb dX7_of_6 rfl (lv_at hl 1 rfl) ?_
  refine lv_imul hx hb dX7_of_7 ?_
  refine lv_iload_n hx hb dX7_of_8 rfl (lv_at hl 2 rfl) ?_
  refine lv_iadd hx hb dX7_of_9 ?_
  refine W.eq (g2 := F0 m 10 ls [.int (nI (6 * k + j)), .ref mf]) (by rw [show (6 * (nI k)) + (nI j) = nI (6 * k + j) from (of_ix k j)]) ?_
  refine z_iald X J 12 Fa1 (vp_in_nI (by omega) (by decide)) dX7_of_10 ?_
  refine W.eq (g2 := F0 m 11 ls [.int (fa (6 * k + j))]) (by rw [show fa (nI (6 * k + j)).toNatClampNeg = fa (6 * k + j) from (congrArg _ (nI_clamp (by omega)))]) ?_
  subst hQ
  exact W.iret (v := fa (6 * k + j)) hx hb hr (fun t ht hW => ⟨fa (6 * k + j), rfl, rfl, ht⟩) (fun q hq => absurd hq List.not_mem_nil) dX7_of_11
set_option maxHeartbeats 4000000 in
set_option maxRecDepth 100000 in
theorem cX7_let_ok (l : Launch) (E : zG) {ws : va_W} {mo mf md mi ms9 mk mt nf nr : Nat} {th lim sup off plo hrs : Int32} {fa : Nat → Int32} {k j : Nat} {v : Int32} (Fa0 : ws[11]? = some (mo, .inr (8, [.int th, .int (nI nf), .ref mf, .int (nI nr), .ref md, .ref mi, .int lim, .int sup, .int off, .int plo, .int hrs, .ref ms9, .ref mk, .ref mt]))) (Fa1 : ws[12]? = some (mf, zI4 E 66 fa)) (hk9 : k ≤ 10) (hj : j < 6) : Met l yX7_let wsX7_let ({ frames := 0, cells := 0, slots := 0, locals := 0 } : Room) (va_Pc [.ref mo, .int (nI k), .int (nI j), .int v] (zI E ws)) (va_Qv (fun (ws' : va_W) => (zK [12] ws ws') ∧ (ws'.length = ws.length) ∧ (ws'[12]? = some (mf, zI4 E 66 (upd fa (6 * k + j) v)))) (zI E) (zA E)) 0 0 (zA E) := by
  refine Met.ofW (cc := cX7_let) (maxL := 4) (ret := none) (by decide) rfl ?_
  intro p e s m args below meth c s₁ B hml hv
  obtain ⟨hargs9, hI⟩ := hv
  have hx := B.exec
  have hb := B.bytes
  have hr := B.returns
  have hlocks := B.notSynchronized
  have X : zC E p m c cX7_let 4 s args wsX7_let RX7 := z_open B hml hI
  have hown := X.1.2.2.2.1
  have hts := X.1.2.2.2.2
  have J := hI.J
  have hi_X7 : ∀ w ∈ wsX70, w ∈ wsX7_let := by decide +kernel
  have hk : zK [12] ws ws := zK.rf
  have hlen : ws.length = ws.length + 0 := rfl
  have bFa0 := zlt Fa0
  have bFa1 := zlt Fa1
  have hl := lv_entry ([.ref mo, .int (nI k), .int (nI j), .int v]) (n := 4) (Nat.le_of_ble_eq_true rfl)
  rw [show entryFrame m args 4 = entryFrame m ([.ref mo, .int (nI k), .int (nI j), .int v] : List Value).toArray 4 from by rw [hargs9], lg_entry_eq]
  generalize (lg_sl ([.ref mo, .int (nI k), .int (nI j), .int v]) ++ List.replicate (4 - (lg_sl ([.ref mo, .int (nI k), .int (nI j), .int v])).length) Slot.unset).toArray = ls at hl ⊢
  have hl : lv_has ls 4 [(0, .ref mo), (1, .int (nI k)), (2, .int (nI j)), (3, .int v)] := hl
  generalize hQ : (MQ below (va_Qv (fun (ws' : va_W) => (zK [12] ws ws') ∧ (ws'.length = ws.length) ∧ (ws'[12]? = some (mf, zI4 E 66 (upd fa (6 * k + j) v)))) (zI E) (zA E)) args s 0 0 (zA E)) = QQ
  refine lv_aload_n hx hb dX7_let_0 rfl (lv_at hl 0 rfl) ?_
  refine z_get (C := RX7) (T := TX7) (N := 14) (ci := 8) (v := .ref mf) X J hi_X7 11 Fa0 rfl 2 (by decide) (by decide +kernel) rfl dX7_let_1 ?_
  refine lv_bipush (v := 6) hx hb dX7_let_4 (by decide) ?_
  refine lv_iload_n hx hb dX7_let_6 rfl (lv_at hl 1 rfl) ?_
  refine lv_imul hx hb dX7_let_7 ?_
  refine lv_iload_n hx hb dX7_let_8 rfl (lv_at hl 2 rfl) ?_
  refine lv_iadd hx hb dX7_let_9 ?_
  refine W.eq (g2 := F0 m 10 ls [.int (nI (6 * k + j)), .ref mf]) (by rw [show (6 * (nI k)) + (nI j) = nI (6 * k + j) from (of_ix k j)]) ?_
  refine lv_iload_n hx hb dX7_let_10 rfl (lv_at hl 3 rfl) ?_
  refine z_iast X J 12 Fa1 (vp_in_nI (by omega) (by decide)) dX7_let_11 (fun H locs J => ?_)
  rw [show upd fa (nI (6 * k + j)).toNatClampNeg v = upd fa (6 * k + j) v from (by rw [nI_clamp (by omega)])] at J
  have hk := hk.trans (zK.set (ws := ws) (q := 12) (e := (mf, zI4 E 66 (upd fa (6 * k + j) v))) (by simp))
  have hlen : (ws.set 12 (mf, zI4 E 66 (upd fa (6 * k + j) v))).length = ws.length + 0 := (List.length_set ..).trans hlen
  have G1_0 := zset_ne (q := 12) (e' := (mf, zI4 E 66 (upd fa (6 * k + j) v))) (by decide) Fa0
  have G1_1 := zset_eq (e' := (mf, zI4 E 66 (upd fa (6 * k + j) v))) Fa1
  generalize hws1 : (ws.set 12 (mf, zI4 E 66 (upd fa (6 * k + j) v))) = ws_1 at J hlen hk G1_0 G1_1
  subst hQ
  exact W.vret hx hb hr (fun t ht hW => ⟨⟨ws_1, rfl, ⟨hk, hlen, G1_1⟩, J.I X ht hW.alike⟩, J.F ht⟩) J.locs dX7_let_12
set_option maxHeartbeats 4000000 in
set_option maxRecDepth 100000 in
theorem cX7_cell_ok (l : Launch) (E : zG) {ws : va_W} {mo mf md mi ms9 mk mt nf nr : Nat} {th lim sup off plo hrs : Int32} {fa : Nat → Int32} {f k : Nat} (Fa0 : ws[11]? = some (mo, .inr (8, [.int th, .int (nI nf), .ref mf, .int (nI nr), .ref md, .ref mi, .int lim, .int sup, .int off, .int plo, .int hrs, .ref ms9, .ref mk, .ref mt]))) (Fa1 : ws[12]? = some (mf, zI4 E 66 fa)) (hf9 : f ≤ 10) (h01 : is01 (fa (6 * f + 3))) : Met l yX7_cell wsX7_cell ({ frames := 1, cells := 0, slots := 0, locals := 22 } : Room) (va_Pc [.ref mo, .int (nI f), .int (nI k)] (zI E ws)) (vp_Si (fun r : Int32 => r = cellAt (ffi fa f) (fa (6 * f + 3)) k)) 0 0 (fun _ => False) := by
  refine Met.ofW (cc := cX7_cell) (maxL := 3) (ret := (some .int)) (by decide) rfl ?_
  intro p e s m args below meth c s₁ B hml hv
  obtain ⟨hargs9, hI⟩ := hv
  have hx := B.exec
  have hb := B.bytes
  have hr := B.returns
  have hlocks := B.notSynchronized
  have X : zC E p m c cX7_cell 3 s args wsX7_cell RX7 := z_open B hml hI
  have hown := X.1.2.2.2.1
  have hts := X.1.2.2.2.2
  have J := hI.J
  have hl := lv_entry ([.ref mo, .int (nI f), .int (nI k)]) (n := 3) (Nat.le_of_ble_eq_true rfl)
  rw [show entryFrame m args 3 = entryFrame m ([.ref mo, .int (nI f), .int (nI k)] : List Value).toArray 3 from by rw [hargs9], lg_entry_eq]
  generalize (lg_sl ([.ref mo, .int (nI f), .int (nI k)]) ++ List.replicate (3 - (lg_sl ([.ref mo, .int (nI f), .int (nI k)])).length) Slot.unset).toArray = ls at hl ⊢
  have hl : lv_has ls 3 [(0, .ref mo), (1, .int (nI f)), (2, .int (nI k))] := hl
  generalize hQ : (MQ below (vp_Si (fun r : Int32 => r = cellAt (ffi fa f) (fa (6 * f + 3)) k)) args s 0 0 (fun _ => False)) = QQ
  refine lv_bipush (v := 20) hx hb dX7_cell_0 (by decide) ?_
  refine lv_aload_n hx hb dX7_cell_2 rfl (lv_at hl 0 rfl) ?_
  refine lv_iload_n hx hb dX7_cell_3 rfl (lv_at hl 1 rfl) ?_
  refine lv_iconst (v := 1) hx hb dX7_cell_4 (by decide) ?_
  refine z_cr (z_rV (As := [.int (nI f), .int 1]) (rest := [.int 20]) (ci := 8) (q0 := 11) X J (cX7_of_ok l E (j := 1) Fa0 Fa1 (by first | assumption | omega | decide) (by first | assumption | omega | decide)) (cwV 2 hts gX7_cell_X7_of rfl rfl rfl (by decide +kernel) ⟨Nat.le_of_ble_eq_true rfl, Nat.le_of_ble_eq_true rfl⟩) Fa0 rfl rfl rfl hl.1 rfl (Nat.le_of_ble_eq_true rfl) dX7_cell_5 ⟨Nat.le_of_ble_eq_true rfl, Nat.le_of_ble_eq_true rfl⟩) (fun r5 e_r5 => ?_)
  subst e_r5
  refine lv_aload_n hx hb dX7_cell_8 rfl (lv_at hl 0 rfl) ?_
  refine lv_iload_n hx hb dX7_cell_9 rfl (lv_at hl 1 rfl) ?_
  refine lv_iconst (v := 3) hx hb dX7_cell_10 (by decide) ?_
  refine z_cr (z_rV (As := [.int (nI f), .int 3]) (rest := [.int (fa (6 * f + 1)), .int 20]) (ci := 8) (q0 := 11) X J (cX7_of_ok l E (j := 3) Fa0 Fa1 (by first | assumption | omega | decide) (by first | assumption | omega | decide)) (cwV 2 hts gX7_cell_X7_of rfl rfl rfl (by decide +kernel) ⟨Nat.le_of_ble_eq_true rfl, Nat.le_of_ble_eq_true rfl⟩) Fa0 rfl rfl rfl hl.1 rfl (Nat.le_of_ble_eq_true rfl) dX7_cell_11 ⟨Nat.le_of_ble_eq_true rfl, Nat.le_of_ble_eq_true rfl⟩) (fun r11 e_r11 => ?_)
  subst e_r11
  refine lv_iconst (v := 1) hx hb dX7_cell_14 (by decide) ?_
  refine lv_icmp_ne (tgt := 22) hx hb dX7_cell_15 (by decide) (fun cz15 => ?_) (fun cz15 => ?_)
  · refine lv_iconst (v := 0) hx hb dX7_cell_22 (by decide) ?_
    refine lv_iadd hx hb dX7_cell_23 ?_
    refine lv_imul hx hb dX7_cell_24 ?_
    refine lv_aload_n hx hb dX7_cell_25 rfl (lv_at hl 0 rfl) ?_
    refine lv_iload_n hx hb dX7_cell_26 rfl (lv_at hl 1 rfl) ?_
    refine lv_iconst (v := 0) hx hb dX7_cell_27 (by decide) ?_
    refine z_cr (z_rV (As := [.int (nI f), .int 0]) (rest := [.int (20 * ((fa (6 * f + 1)) + 0))]) (ci := 8) (q0 := 11) X J (cX7_of_ok l E (j := 0) Fa0 Fa1 (by first | assumption | omega | decide) (by first | assumption | omega | decide)) (cwV 2 hts gX7_cell_X7_of rfl rfl rfl (by decide +kernel) ⟨Nat.le_of_ble_eq_true rfl, Nat.le_of_ble_eq_true rfl⟩) Fa0 rfl rfl rfl hl.1 rfl (Nat.le_of_ble_eq_true rfl) dX7_cell_28 ⟨Nat.le_of_ble_eq_true rfl, Nat.le_of_ble_eq_true rfl⟩) (fun r28 e_r28 => ?_)
    subst e_r28
    refine lv_iadd hx hb dX7_cell_31 ?_
    refine lv_aload_n hx hb dX7_cell_32 rfl (lv_at hl 0 rfl) ?_
    refine lv_iload_n hx hb dX7_cell_33 rfl (lv_at hl 1 rfl) ?_
    refine lv_iconst (v := 3) hx hb dX7_cell_34 (by decide) ?_
    refine z_cr (z_rV (As := [.int (nI f), .int 3]) (rest := [.int ((20 * ((fa (6 * f + 1)) + 0)) + (fa (6 * f + 0)))]) (ci := 8) (q0 := 11) X J (cX7_of_ok l E (j := 3) Fa0 Fa1 (by first | assumption | omega | decide) (by first | assumption | omega | decide)) (cwV 2 hts gX7_cell_X7_of rfl rfl rfl (by decide +kernel) ⟨Nat.le_of_ble_eq_true rfl, Nat.le_of_ble_eq_true rfl⟩) Fa0 rfl rfl rfl hl.1 rfl (Nat.le_of_ble_eq_true rfl) dX7_cell_35 ⟨Nat.le_of_ble_eq_true rfl, Nat.le_of_ble_eq_true rfl⟩) (fun r35 e_r35 => ?_)
    subst e_r35
    refine lv_iconst (v := 1) hx hb dX7_cell_38 (by decide) ?_
    refine lv_icmp_ne (tgt := 46) hx hb dX7_cell_39 (by decide) (fun cz39 => ?_) (fun cz39 => by exact absurd cz39 cz15)
    refine lv_iload_n hx hb dX7_cell_46 rfl (lv_at hl 2 rfl) ?_
    refine lv_iadd hx hb dX7_cell_47 ?_
    subst hQ
    exact W.iret (v := ((20 * ((fa (6 * f + 1)) + 0)) + (fa (6 * f + 0))) + (nI k)) hx hb hr (fun t ht hW => ⟨((20 * ((fa (6 * f + 1)) + 0)) + (fa (6 * f + 0))) + (nI k), rfl, (by have h9 := cell_ref (ro := fa (6 * f + 1)) (co := fa (6 * f + 0)) (k := k) h01; first | (rw [if_neg cz15, if_neg cz15] at h9; exact h9) | (rw [if_pos cz15, if_pos cz15] at h9; exact h9)), ht⟩) (fun q hq => absurd hq List.not_mem_nil) dX7_cell_48
  · refine lv_iload_n hx hb dX7_cell_18 rfl (lv_at hl 2 rfl) ?_
    refine lv_goto (tgt := 23) hx hb dX7_cell_19 (by decide) ?_
    refine lv_iadd hx hb dX7_cell_23 ?_
    refine lv_imul hx hb dX7_cell_24 ?_
    refine lv_aload_n hx hb dX7_cell_25 rfl (lv_at hl 0 rfl) ?_
    refine lv_iload_n hx hb dX7_cell_26 rfl (lv_at hl 1 rfl) ?_
    refine lv_iconst (v := 0) hx hb dX7_cell_27 (by decide) ?_
    refine z_cr (z_rV (As := [.int (nI f), .int 0]) (rest := [.int (20 * ((fa (6 * f + 1)) + (nI k)))]) (ci := 8) (q0 := 11) X J (cX7_of_ok l E (j := 0) Fa0 Fa1 (by first | assumption | omega | decide) (by first | assumption | omega | decide)) (cwV 2 hts gX7_cell_X7_of rfl rfl rfl (by decide +kernel) ⟨Nat.le_of_ble_eq_true rfl, Nat.le_of_ble_eq_true rfl⟩) Fa0 rfl rfl rfl hl.1 rfl (Nat.le_of_ble_eq_true rfl) dX7_cell_28 ⟨Nat.le_of_ble_eq_true rfl, Nat.le_of_ble_eq_true rfl⟩) (fun r28 e_r28 => ?_)
    subst e_r28
    refine lv_iadd hx hb dX7_cell_31 ?_
    refine lv_aload_n hx hb dX7_cell_32 rfl (lv_at hl 0 rfl) ?_
    refine lv_iload_n hx hb dX7_cell_33 rfl (lv_at hl 1 rfl) ?_
    refine lv_iconst (v := 3) hx hb dX7_cell_34 (by decide) ?_
    refine z_cr (z_rV (As := [.int (nI f), .int 3]) (rest := [.int ((20 * ((fa (6 * f + 1)) + (nI k))) + (fa (6 * f + 0)))]) (ci := 8) (q0 := 11) X J (cX7_of_ok l E (j := 3) Fa0 Fa1 (by first | assumption | omega | decide) (by first | assumption | omega | decide)) (cwV 2 hts gX7_cell_X7_of rfl rfl rfl (by decide +kernel) ⟨Nat.le_of_ble_eq_true rfl, Nat.le_of_ble_eq_true rfl⟩) Fa0 rfl rfl rfl hl.1 rfl (Nat.le_of_ble_eq_true rfl) dX7_cell_35 ⟨Nat.le_of_ble_eq_true rfl, Nat.le_of_ble_eq_true rfl⟩) (fun r35 e_r35 => ?_)
    subst e_r35
    refine lv_iconst (v := 1) hx hb dX7_cell_38 (by decide) ?_
    refine lv_icmp_ne (tgt := 46) hx hb dX7_cell_39 (by decide) (fun cz39 => by exact absurd cz15 cz39) (fun cz39 => ?_)
    refine lv_iconst (v := 0) hx hb dX7_cell_42 (by decide) ?_
    refine lv_goto (tgt := 47) hx hb dX7_cell_43 (by decide) ?_
    refine lv_iadd hx hb dX7_cell_47 ?_
    subst hQ
    exact W.iret (v := ((20 * ((fa (6 * f + 1)) + (nI k))) + (fa (6 * f + 0))) + 0) hx hb hr (fun t ht hW => ⟨((20 * ((fa (6 * f + 1)) + (nI k))) + (fa (6 * f + 0))) + 0, rfl, (by have h9 := cell_ref (ro := fa (6 * f + 1)) (co := fa (6 * f + 0)) (k := k) h01; first | (rw [if_neg cz15, if_neg cz15] at h9; exact h9) | (rw [if_pos cz15, if_pos cz15] at h9; exact h9)), ht⟩) (fun q hq => absurd hq List.not_mem_nil) dX7_cell_48
set_option maxHeartbeats 4000000 in
set_option maxRecDepth 100000 in
theorem cX7_cellOf_ok (l : Launch) (E : zG) {ws : va_W} {mo mf md mi ms9 mk mt nf nr : Nat} {th lim sup off plo hrs : Int32} {rd ri : Nat → Int32} {q k : Nat} (Fa0 : ws[11]? = some (mo, .inr (8, [.int th, .int (nI nf), .ref mf, .int (nI nr), .ref md, .ref mi, .int lim, .int sup, .int off, .int plo, .int hrs, .ref ms9, .ref mk, .ref mt]))) (Fa1 : ws[13]? = some (md, zI4 E 4 rd)) (Fa2 : ws[14]? = some (mi, zI4 E 4 ri)) (hr9 : q < 4) (h01 : is01 (rd q)) : Met l yX7_cellOf wsX7_cellOf ({ frames := 0, cells := 0, slots := 0, locals := 0 } : Room) (va_Pc [.ref mo, .int (nI q), .int (nI k)] (zI E ws)) (vp_Si (fun r : Int32 => r = cellAt (rfi (rd q) (ri q)) (rd q) k)) 0 0 (fun _ => False) := by
  refine Met.ofW (cc := cX7_cellOf) (maxL := 3) (ret := (some .int)) (by decide) rfl ?_
  intro p e s m args below meth c s₁ B hml hv
  obtain ⟨hargs9, hI⟩ := hv
  have hx := B.exec
  have hb := B.bytes
  have hr := B.returns
  have hlocks := B.notSynchronized
  have X : zC E p m c cX7_cellOf 3 s args wsX7_cellOf RX7 := z_open B hml hI
  have hown := X.1.2.2.2.1
  have hts := X.1.2.2.2.2
  have J := hI.J
  have hi_X7 : ∀ w ∈ wsX70, w ∈ wsX7_cellOf := by decide +kernel
  have hl := lv_entry ([.ref mo, .int (nI q), .int (nI k)]) (n := 3) (Nat.le_of_ble_eq_true rfl)
  rw [show entryFrame m args 3 = entryFrame m ([.ref mo, .int (nI q), .int (nI k)] : List Value).toArray 3 from by rw [hargs9], lg_entry_eq]
  generalize (lg_sl ([.ref mo, .int (nI q), .int (nI k)]) ++ List.replicate (3 - (lg_sl ([.ref mo, .int (nI q), .int (nI k)])).length) Slot.unset).toArray = ls at hl ⊢
  have hl : lv_has ls 3 [(0, .ref mo), (1, .int (nI q)), (2, .int (nI k))] := hl
  generalize hQ : (MQ below (vp_Si (fun r : Int32 => r = cellAt (rfi (rd q) (ri q)) (rd q) k)) args s 0 0 (fun _ => False)) = QQ
  refine lv_aload_n hx hb dX7_cellOf_0 rfl (lv_at hl 0 rfl) ?_
  refine z_get (C := RX7) (T := TX7) (N := 14) (ci := 8) (v := .ref md) X J hi_X7 11 Fa0 rfl 4 (by decide) (by decide +kernel) rfl dX7_cellOf_1 ?_
  refine lv_iload_n hx hb dX7_cellOf_4 rfl (lv_at hl 1 rfl) ?_
  refine z_iald X J 13 Fa1 (vp_in_nI (by omega) (by decide)) dX7_cellOf_5 ?_
  refine W.eq (g2 := F0 m 6 ls [.int (rd q)]) (by rw [show rd (nI q).toNatClampNeg = rd q from (congrArg _ (nI_clamp (by omega)))]) ?_
  refine lv_iconst (v := 1) hx hb dX7_cellOf_6 (by decide) ?_
  refine lv_icmp_ne (tgt := 24) hx hb dX7_cellOf_7 (by decide) (fun cz7 => ?_) (fun cz7 => ?_)
  · refine lv_bipush (v := 20) hx hb dX7_cellOf_24 (by decide) ?_
    refine lv_aload_n hx hb dX7_cellOf_26 rfl (lv_at hl 0 rfl) ?_
    refine z_get (C := RX7) (T := TX7) (N := 14) (ci := 8) (v := .ref mi) X J hi_X7 11 Fa0 rfl 5 (by decide) (by decide +kernel) rfl dX7_cellOf_27 ?_
    refine lv_iload_n hx hb dX7_cellOf_30 rfl (lv_at hl 1 rfl) ?_
    refine z_iald X J 14 Fa2 (vp_in_nI (by omega) (by decide)) dX7_cellOf_31 ?_
    refine W.eq (g2 := F0 m 32 ls [.int (ri q), .int 20]) (by rw [show ri (nI q).toNatClampNeg = ri q from (congrArg _ (nI_clamp (by omega)))]) ?_
    refine lv_imul hx hb dX7_cellOf_32 ?_
    refine lv_iload_n hx hb dX7_cellOf_33 rfl (lv_at hl 2 rfl) ?_
    refine lv_iadd hx hb dX7_cellOf_34 ?_
    subst hQ
    exact W.iret (v := (20 * (ri q)) + (nI k)) hx hb hr (fun t ht hW => ⟨(20 * (ri q)) + (nI k), rfl, (by first | exact cellOf_d cz7 | exact cellOf_a h01 cz7), ht⟩) (fun q hq => absurd hq List.not_mem_nil) dX7_cellOf_35
  · refine lv_bipush (v := 20) hx hb dX7_cellOf_10 (by decide) ?_
    refine lv_iload_n hx hb dX7_cellOf_12 rfl (lv_at hl 2 rfl) ?_
    refine lv_imul hx hb dX7_cellOf_13 ?_
    refine lv_aload_n hx hb dX7_cellOf_14 rfl (lv_at hl 0 rfl) ?_
    refine z_get (C := RX7) (T := TX7) (N := 14) (ci := 8) (v := .ref mi) X J hi_X7 11 Fa0 rfl 5 (by decide) (by decide +kernel) rfl dX7_cellOf_15 ?_
    refine lv_iload_n hx hb dX7_cellOf_18 rfl (lv_at hl 1 rfl) ?_
    refine z_iald X J 14 Fa2 (vp_in_nI (by omega) (by decide)) dX7_cellOf_19 ?_
    refine W.eq (g2 := F0 m 20 ls [.int (ri q), .int (20 * (nI k))]) (by rw [show ri (nI q).toNatClampNeg = ri q from (congrArg _ (nI_clamp (by omega)))]) ?_
    refine lv_iadd hx hb dX7_cellOf_20 ?_
    refine lv_goto (tgt := 35) hx hb dX7_cellOf_21 (by decide) ?_
    subst hQ
    exact W.iret (v := (20 * (nI k)) + (ri q)) hx hb hr (fun t ht hW => ⟨(20 * (nI k)) + (ri q), rfl, (by first | exact cellOf_d cz7 | exact cellOf_a h01 cz7), ht⟩) (fun q hq => absurd hq List.not_mem_nil) dX7_cellOf_35
set_option maxHeartbeats 4000000 in
set_option maxRecDepth 100000 in
theorem cX7_stand_ok (l : Launch) (E : zG) {ws : va_W} {mo mf md mi ms9 mk mt nf nr : Nat} {th lim sup off plo hrs : Int32} {fa tp : Nat → Int32} {many : Nat} {wo : Int32} (Fa0 : ws[11]? = some (mo, .inr (8, [.int th, .int (nI nf), .ref mf, .int (nI nr), .ref md, .ref mi, .int lim, .int sup, .int off, .int plo, .int hrs, .ref ms9, .ref mk, .ref mt]))) (Fa1 : ws[12]? = some (mf, zI4 E 66 fa)) (Fa2 : ws[17]? = some (mt, zI4 E 400 tp)) (hm9 : many ≤ 11) (hok : ∀ j, j < many → okF fa j) : Met l yX7_stand wsX7_stand ({ frames := 2, cells := 0, slots := 0, locals := 44 } : Room) (va_Pc [.ref mo, .int (nI many), .int wo] (zI E ws)) (va_Qv (fun (ws' : va_W) => (zK [17] ws ws') ∧ (∃ (tq : Nat → Int32), (ws'[17]? = some (mt, zI4 E 400 tq)) ∧ (topR fa many tq (hgS fa wo many).1 (hgS fa wo many).2))) (zI E) (zA E)) 0 0 (zA E) := by
  refine Met.ofW (cc := cX7_stand) (maxL := 6) (ret := none) (by decide) rfl ?_
  intro p e s m args below meth c s₁ B hml hv
  obtain ⟨hargs9, hI⟩ := hv
  have hx := B.exec
  have hb := B.bytes
  have hr := B.returns
  have hlocks := B.notSynchronized
  have X : zC E p m c cX7_stand 6 s args wsX7_stand RX7 := z_open B hml hI
  have hown := X.1.2.2.2.1
  have hts := X.1.2.2.2.2
  have J := hI.J
  have hi_X7 : ∀ w ∈ wsX70, w ∈ wsX7_stand := by decide +kernel
  have hk : zK [17] ws ws := zK.rf
  have hl := lv_entry ([.ref mo, .int (nI many), .int wo]) (n := 6) (Nat.le_of_ble_eq_true rfl)
  rw [show entryFrame m args 6 = entryFrame m ([.ref mo, .int (nI many), .int wo] : List Value).toArray 6 from by rw [hargs9], lg_entry_eq]
  generalize (lg_sl ([.ref mo, .int (nI many), .int wo]) ++ List.replicate (6 - (lg_sl ([.ref mo, .int (nI many), .int wo])).length) Slot.unset).toArray = ls at hl ⊢
  have hl : lv_has ls 6 [(0, .ref mo), (1, .int (nI many)), (2, .int wo)] := hl
  generalize hQ : (MQ below (va_Qv (fun (ws' : va_W) => (zK [17] ws ws') ∧ (∃ (tq : Nat → Int32), (ws'[17]? = some (mt, zI4 E 400 tq)) ∧ (topR fa many tq (hgS fa wo many).1 (hgS fa wo many).2))) (zI E) (zA E)) args s 0 0 (zA E)) = QQ
  refine lv_iconst (v := nI 0) hx hb dX7_stand_0 rfl ?_
  refine lv_istore_n (lv' := [(3, .int (nI 0)), (0, .ref mo), (1, .int (nI many)), (2, .int wo)]) hx hb dX7_stand_1 rfl hl (by decide) rfl (fun ls hl => ?_)
  have loop_2 : ∀ (k9 i : Nat), i + k9 = 400 → ∀ (wl2 : va_W) (H : Heap) (locs : List Loc) (ls : Array Slot), zK [17] ws wl2 → wl2[11]? = some (mo, .inr (8, [.int th, .int (nI nf), .ref mf, .int (nI nr), .ref md, .ref mi, .int lim, .int sup, .int off, .int plo, .int hrs, .ref ms9, .ref mk, .ref mt])) → wl2[12]? = some (mf, zI4 E 66 fa) → wl2[17]? = some (mt, zI4 E 400 (cpG tp (fun _ => -1) i)) → zJ E wl2 s H locs → lv_has ls 6 [(3, .int (nI i)), (0, .ref mo), (1, .int (nI many)), (2, .int wo)] → W p l e (headSpec wsX7_stand ({ frames := 2, cells := 0, slots := 0, locals := 44 } : Room)).room s m args below meth c H locs 0 0 QQ (F0 m 2 ls []) := by
    intro k9
    induction k9 with
    | zero =>
      intro i hik wl2 H locs ls hk L2_0 L2_1 L2_2 J hl
      obtain rfl : 400 = i := by omega
      refine lv_iload_n hx hb dX7_stand_2 rfl (lv_at hl 0 rfl) ?_
      refine lv_sipush (v := nI 400) hx hb dX7_stand_3 (by decide) ?_
      refine lv_icmp_ge (tgt := 22) hx hb dX7_stand_6 (by decide) (fun cz6 => ?_) (fun cz6 => by exact (cz6 (nI_le (Nat.le_refl _) (by omega))).elim)
      have J := J.congr 17 (g := (fun _ => -1)) L2_2 (fun j hj => cpG_end hj)
      have hk := hk.trans (zK.set (ws := wl2) (q := 17) (e := (mt, zI4 E 400 (fun _ => -1))) (by simp))
      have G1_0 := zset_ne (q := 17) (e' := (mt, zI4 E 400 (fun _ => -1))) (by decide) L2_0
      have G1_1 := zset_ne (q := 17) (e' := (mt, zI4 E 400 (fun _ => -1))) (by decide) L2_1
      have G1_2 := zset_eq (e' := (mt, zI4 E 400 (fun _ => -1))) L2_2
      generalize hws1 : (wl2.set 17 (mt, zI4 E 400 (fun _ => -1))) = ws_1 at J hk G1_0 G1_1 G1_2
      refine lv_iconst (v := nI 0) hx hb dX7_stand_22 rfl ?_
      refine lv_istore_n (lv' := [(3, .int (nI 0)), (0, .ref mo), (1, .int (nI many)), (2, .int wo)]) hx hb dX7_stand_23 rfl hl (by decide) rfl (fun ls hl => ?_)
      have loop_24 : ∀ (k9 f : Nat) (tpf : Nat → Int32), f + k9 = many → topR fa f tpf (hgS fa wo f).1 (hgS fa wo f).2 → ∀ (wl24 : va_W) (H : Heap) (locs : List Loc) (ls : Array Slot), zK [17] ws wl24 → wl24[11]? = some (mo, .inr (8, [.int th, .int (nI nf), .ref mf, .int (nI nr), .ref md, .ref mi, .int lim, .int sup, .int off, .int plo, .int hrs, .ref ms9, .ref mk, .ref mt])) → wl24[12]? = some (mf, zI4 E 66 fa) → wl24[17]? = some (mt, zI4 E 400 tpf) → zJ E wl24 s H locs → lv_has ls 6 [(3, .int (nI f)), (0, .ref mo), (1, .int (nI many)), (2, .int wo)] → W p l e (headSpec wsX7_stand ({ frames := 2, cells := 0, slots := 0, locals := 44 } : Room)).room s m args below meth c H locs 0 0 QQ (F0 m 24 ls []) := by
        intro k9
        induction k9 with
        | zero =>
          intro f tpf hik htf wl24 H locs ls hk L24_0 L24_1 L24_2 J hl
          obtain rfl : many = f := by omega
          refine lv_iload_n hx hb dX7_stand_24 rfl (lv_at hl 0 rfl) ?_
          refine lv_iload_n hx hb dX7_stand_25 rfl (lv_at hl 2 rfl) ?_
          refine lv_icmp_ge (tgt := 109) hx hb dX7_stand_26 (by decide) (fun cz26 => ?_) (fun cz26 => by exact (cz26 (nI_le (Nat.le_refl _) (by omega))).elim)
          subst hQ
          exact W.vret hx hb hr (fun t ht hW => ⟨⟨wl24, rfl, ⟨hk, ⟨tpf, L24_2, (by exact htf)⟩⟩, J.I X ht hW.alike⟩, J.F ht⟩) J.locs dX7_stand_109
        | succ k9 ih_24 =>
          intro f tpf hik htf wl24 H locs ls hk L24_0 L24_1 L24_2 J hl
          have hfok := hok f (by omega)
          have hle9 := hfok.le.2
          refine lv_iload_n hx hb dX7_stand_24 rfl (lv_at hl 0 rfl) ?_
          refine lv_iload_n hx hb dX7_stand_25 rfl (lv_at hl 2 rfl) ?_
          refine lv_icmp_ge (tgt := 109) hx hb dX7_stand_26 (by decide) (fun cz26 => by exact (nI_ge (by omega) (by omega) cz26).elim) (fun cz26 => ?_)
          by_cases hwo : nI f = wo
          · refine lv_iconst (v := nI 0) hx hb dX7_stand_29 rfl ?_
            refine lv_istore (lv' := [(4, .int (nI 0)), (3, .int (nI f)), (0, .ref mo), (1, .int (nI many)), (2, .int wo)]) hx hb dX7_stand_30 hl (by decide) rfl (fun ls hl => ?_)
            refine lv_iload hx hb dX7_stand_32 (lv_at hl 0 rfl) ?_
            refine lv_aload_n hx hb dX7_stand_34 rfl (lv_at hl 2 rfl) ?_
            refine lv_iload_n hx hb dX7_stand_35 rfl (lv_at hl 1 rfl) ?_
            refine lv_iconst (v := 2) hx hb dX7_stand_36 (by decide) ?_
            refine z_cr (z_rV (As := [.int (nI f), .int 2]) (rest := [.int (nI 0)]) (ci := 8) (q0 := 11) X J (cX7_of_ok l E (j := 2) L24_0 L24_1 (by omega) (by first | assumption | omega | decide)) (cwV 2 hts gX7_stand_X7_of rfl rfl rfl (by decide +kernel) ⟨Nat.le_of_ble_eq_true rfl, Nat.le_of_ble_eq_true rfl⟩) L24_0 rfl rfl rfl hl.1 rfl (Nat.le_of_ble_eq_true rfl) dX7_stand_37 ⟨Nat.le_of_ble_eq_true rfl, Nat.le_of_ble_eq_true rfl⟩) (fun r37 e_r37 => ?_)
            subst e_r37
            refine W.eq (g2 := F0 m 40 ls [.int (nI (fle fa f)), .int (nI 0)]) (by rw [show fa (6 * f + 2) = nI (fle fa f) from hfok.le.1]) ?_
            refine lv_icmp_ge (tgt := 103) hx hb dX7_stand_40 (by decide) (fun cz40 => ?_) (fun cz40 => ?_)
            · refine lv_iinc (v := nI (f + 1)) (lv' := [(3, .int (nI (f + 1))), (4, .int (nI 0)), (0, .ref mo), (1, .int (nI many)), (2, .int wo)]) hx hb dX7_stand_103 hl (k := 1) rfl (nI_1 f) (by decide) rfl (fun ls hl => ?_)
              refine lv_goto (tgt := 24) hx hb dX7_stand_106 (by decide) ?_
              exact ih_24 (f + 1) tpf (by omega) (by rw [show hgS fa wo (f + 1) = _ from if_pos hwo]; exact htf.mono (by omega)) _ _ _ _ hk L24_0 L24_1 L24_2 J (lv_sub hl [0, 2, 3, 4] rfl)
            · refine lv_iload_n hx hb dX7_stand_43 rfl (lv_at hl 1 rfl) ?_
              refine lv_iload_n hx hb dX7_stand_44 rfl (lv_at hl 4 rfl) ?_
              refine lv_icmp_eq (tgt := 103) hx hb dX7_stand_45 (by decide) (fun cz45 => ?_) (fun cz45 => by exact absurd hwo cz45)
              refine lv_iinc (v := nI (f + 1)) (lv' := [(3, .int (nI (f + 1))), (4, .int (nI 0)), (0, .ref mo), (1, .int (nI many)), (2, .int wo)]) hx hb dX7_stand_103 hl (k := 1) rfl (nI_1 f) (by decide) rfl (fun ls hl => ?_)
              refine lv_goto (tgt := 24) hx hb dX7_stand_106 (by decide) ?_
              exact ih_24 (f + 1) tpf (by omega) (by rw [show hgS fa wo (f + 1) = _ from if_pos hwo]; exact htf.mono (by omega)) _ _ _ _ hk L24_0 L24_1 L24_2 J (lv_sub hl [0, 2, 3, 4] rfl)
          · refine lv_iconst (v := nI 0) hx hb dX7_stand_29 rfl ?_
            refine lv_istore (lv' := [(4, .int (nI 0)), (3, .int (nI f)), (0, .ref mo), (1, .int (nI many)), (2, .int wo)]) hx hb dX7_stand_30 hl (by decide) rfl (fun ls hl => ?_)
            have loop_32 : ∀ (k9 k : Nat) (tpk : Nat → Int32), k + k9 = (fle fa f) → topR fa (f + 1) tpk (scH (hgS fa wo f).1 (ffi fa f) (fa (6 * f + 3)) (fa (6 * f + 4)) k) (scV (hgS fa wo f).1 (hgS fa wo f).2 (ffi fa f) (fa (6 * f + 3)) (fa (6 * f + 4)) (fa (6 * f + 5)) k) → ∀ (wl32 : va_W) (H : Heap) (locs : List Loc) (ls : Array Slot), zK [17] ws wl32 → wl32[11]? = some (mo, .inr (8, [.int th, .int (nI nf), .ref mf, .int (nI nr), .ref md, .ref mi, .int lim, .int sup, .int off, .int plo, .int hrs, .ref ms9, .ref mk, .ref mt])) → wl32[12]? = some (mf, zI4 E 66 fa) → wl32[17]? = some (mt, zI4 E 400 tpk) → zJ E wl32 s H locs → lv_has ls 6 [(4, .int (nI k)), (3, .int (nI f)), (0, .ref mo), (1, .int (nI many)), (2, .int wo)] → W p l e (headSpec wsX7_stand ({ frames := 2, cells := 0, slots := 0, locals := 44 } : Room)).room s m args below meth c H locs 0 0 QQ (F0 m 32 ls []) := by
              intro k9
              induction k9 with
              | zero =>
                intro k tpk hik htp wl32 H locs ls hk L32_0 L32_1 L32_2 J hl
                obtain rfl : (fle fa f) = k := by omega
                refine lv_iload hx hb dX7_stand_32 (lv_at hl 0 rfl) ?_
                refine lv_aload_n hx hb dX7_stand_34 rfl (lv_at hl 2 rfl) ?_
                refine lv_iload_n hx hb dX7_stand_35 rfl (lv_at hl 1 rfl) ?_
                refine lv_iconst (v := 2) hx hb dX7_stand_36 (by decide) ?_
                refine z_cr (z_rV (As := [.int (nI f), .int 2]) (rest := [.int (nI (fle fa f))]) (ci := 8) (q0 := 11) X J (cX7_of_ok l E (j := 2) L32_0 L32_1 (by omega) (by first | assumption | omega | decide)) (cwV 2 hts gX7_stand_X7_of rfl rfl rfl (by decide +kernel) ⟨Nat.le_of_ble_eq_true rfl, Nat.le_of_ble_eq_true rfl⟩) L32_0 rfl rfl rfl hl.1 rfl (Nat.le_of_ble_eq_true rfl) dX7_stand_37 ⟨Nat.le_of_ble_eq_true rfl, Nat.le_of_ble_eq_true rfl⟩) (fun r37 e_r37 => ?_)
                subst e_r37
                refine W.eq (g2 := F0 m 40 ls [.int (nI (fle fa f)), .int (nI (fle fa f))]) (by rw [show fa (6 * f + 2) = nI (fle fa f) from hfok.le.1]) ?_
                refine lv_icmp_ge (tgt := 103) hx hb dX7_stand_40 (by decide) (fun cz40 => ?_) (fun cz40 => by exact (cz40 (nI_le (Nat.le_refl _) (by omega))).elim)
                refine lv_iinc (v := nI (f + 1)) (lv' := [(3, .int (nI (f + 1))), (4, .int (nI (fle fa f))), (0, .ref mo), (1, .int (nI many)), (2, .int wo)]) hx hb dX7_stand_103 hl (k := 1) rfl (nI_1 f) (by decide) rfl (fun ls hl => ?_)
                refine lv_goto (tgt := 24) hx hb dX7_stand_106 (by decide) ?_
                exact ih_24 (f + 1) tpk (by omega) (by rw [show hgS fa wo (f + 1) = _ from if_neg hwo]; exact htp) _ _ _ _ hk L32_0 L32_1 L32_2 J (lv_sub hl [0, 2, 3, 4] rfl)
              | succ k9 ih_32 =>
                intro k tpk hik htp wl32 H locs ls hk L32_0 L32_1 L32_2 J hl
                refine lv_iload hx hb dX7_stand_32 (lv_at hl 0 rfl) ?_
                refine lv_aload_n hx hb dX7_stand_34 rfl (lv_at hl 2 rfl) ?_
                refine lv_iload_n hx hb dX7_stand_35 rfl (lv_at hl 1 rfl) ?_
                refine lv_iconst (v := 2) hx hb dX7_stand_36 (by decide) ?_
                refine z_cr (z_rV (As := [.int (nI f), .int 2]) (rest := [.int (nI k)]) (ci := 8) (q0 := 11) X J (cX7_of_ok l E (j := 2) L32_0 L32_1 (by omega) (by first | assumption | omega | decide)) (cwV 2 hts gX7_stand_X7_of rfl rfl rfl (by decide +kernel) ⟨Nat.le_of_ble_eq_true rfl, Nat.le_of_ble_eq_true rfl⟩) L32_0 rfl rfl rfl hl.1 rfl (Nat.le_of_ble_eq_true rfl) dX7_stand_37 ⟨Nat.le_of_ble_eq_true rfl, Nat.le_of_ble_eq_true rfl⟩) (fun r37 e_r37 => ?_)
                subst e_r37
                refine W.eq (g2 := F0 m 40 ls [.int (nI (fle fa f)), .int (nI k)]) (by rw [show fa (6 * f + 2) = nI (fle fa f) from hfok.le.1]) ?_
                refine lv_icmp_ge (tgt := 103) hx hb dX7_stand_40 (by decide) (fun cz40 => by exact (nI_ge (by omega) (by omega) cz40).elim) (fun cz40 => ?_)
                refine lv_iload_n hx hb dX7_stand_43 rfl (lv_at hl 1 rfl) ?_
                refine lv_iload_n hx hb dX7_stand_44 rfl (lv_at hl 4 rfl) ?_
                refine lv_icmp_eq (tgt := 103) hx hb dX7_stand_45 (by decide) (fun cz45 => by exact absurd cz45 hwo) (fun cz45 => ?_)
                refine lv_aload_n hx hb dX7_stand_48 rfl (lv_at hl 2 rfl) ?_
                refine lv_iload_n hx hb dX7_stand_49 rfl (lv_at hl 1 rfl) ?_
                refine lv_iload hx hb dX7_stand_50 (lv_at hl 0 rfl) ?_
                refine z_cr (z_rV (As := [.int (nI f), .int (nI k)]) (rest := []) (ci := 8) (q0 := 11) X J (cX7_cell_ok l E L32_0 L32_1 (by omega) hfok.dn) (cwV 2 hts gX7_stand_X7_cell rfl rfl rfl (by decide +kernel) ⟨Nat.le_of_ble_eq_true rfl, Nat.le_of_ble_eq_true rfl⟩) L32_0 rfl rfl rfl hl.1 rfl (Nat.le_of_ble_eq_true rfl) dX7_stand_52 ⟨Nat.le_of_ble_eq_true rfl, Nat.le_of_ble_eq_true rfl⟩) (fun r52 e_r52 => ?_)
                subst e_r52
                have hvp := hfok.vp (show k < fle fa f by omega)
                refine lv_istore (lv' := [(5, .int (cellAt (ffi fa f) (fa (6 * f + 3)) k)), (4, .int (nI k)), (3, .int (nI f)), (0, .ref mo), (1, .int (nI many)), (2, .int wo)]) hx hb dX7_stand_55 hl (by decide) rfl (fun ls hl => ?_)
                refine lv_aload_n hx hb dX7_stand_57 rfl (lv_at hl 3 rfl) ?_
                refine z_get (C := RX7) (T := TX7) (N := 14) (ci := 8) (v := .ref mt) X J hi_X7 11 L32_0 rfl 13 (by decide) (by decide +kernel) rfl dX7_stand_58 ?_
                refine lv_iload hx hb dX7_stand_61 (lv_at hl 0 rfl) ?_
                refine z_iald X J 17 L32_2 hvp dX7_stand_63 ?_
                rcases htp.at hvp with ⟨tz1, tz2⟩ | ⟨jz9, tz1, tz2, tz3, tz4⟩
                · refine W.eq (g2 := F0 m 64 ls [.int (-1)]) (by rw [show tpk (cellAt (ffi fa f) (fa (6 * f + 3)) k).toNatClampNeg = (-1) from tz1]) ?_
                  refine lv_iconst (v := (-1)) hx hb dX7_stand_64 (by decide) ?_
                  refine lv_icmp_eq (tgt := 89) hx hb dX7_stand_65 (by decide) (fun cz65 => ?_) (fun cz65 => by exact absurd cz65 (by decide))
                  refine lv_aload_n hx hb dX7_stand_89 rfl (lv_at hl 3 rfl) ?_
                  refine z_get (C := RX7) (T := TX7) (N := 14) (ci := 8) (v := .ref mt) X J hi_X7 11 L32_0 rfl 13 (by decide) (by decide +kernel) rfl dX7_stand_90 ?_
                  refine lv_iload hx hb dX7_stand_93 (lv_at hl 0 rfl) ?_
                  refine lv_iload_n hx hb dX7_stand_95 rfl (lv_at hl 2 rfl) ?_
                  refine z_iast X J 17 L32_2 hvp dX7_stand_96 (fun H locs J => ?_)
                  rw [show upd tpk (cellAt (ffi fa f) (fa (6 * f + 3)) k).toNatClampNeg (nI f) = upd tpk (cellAt (ffi fa f) (fa (6 * f + 3)) k).toNatClampNeg (nI f) from rfl] at J
                  have hk := hk.trans (zK.set (ws := wl32) (q := 17) (e := (mt, zI4 E 400 (upd tpk (cellAt (ffi fa f) (fa (6 * f + 3)) k).toNatClampNeg (nI f)))) (by simp))
                  have G2_0 := zset_ne (q := 17) (e' := (mt, zI4 E 400 (upd tpk (cellAt (ffi fa f) (fa (6 * f + 3)) k).toNatClampNeg (nI f)))) (by decide) L32_0
                  have G2_1 := zset_ne (q := 17) (e' := (mt, zI4 E 400 (upd tpk (cellAt (ffi fa f) (fa (6 * f + 3)) k).toNatClampNeg (nI f)))) (by decide) L32_1
                  have G2_2 := zset_eq (e' := (mt, zI4 E 400 (upd tpk (cellAt (ffi fa f) (fa (6 * f + 3)) k).toNatClampNeg (nI f)))) L32_2
                  generalize hws2 : (wl32.set 17 (mt, zI4 E 400 (upd tpk (cellAt (ffi fa f) (fa (6 * f + 3)) k).toNatClampNeg (nI f)))) = ws_2 at J hk G2_0 G2_1 G2_2
                  refine lv_iinc (v := nI (k + 1)) (lv' := [(4, .int (nI (k + 1))), (5, .int (cellAt (ffi fa f) (fa (6 * f + 3)) k)), (3, .int (nI f)), (0, .ref mo), (1, .int (nI many)), (2, .int wo)]) hx hb dX7_stand_97 hl (k := 1) rfl (nI_1 k) (by decide) rfl (fun ls hl => ?_)
                  refine lv_goto (tgt := 32) hx hb dX7_stand_100 (by decide) ?_
                  exact ih_32 (k + 1) (upd tpk (cellAt (ffi fa f) (fa (6 * f + 3)) k).toNatClampNeg (nI f)) (by omega) (top_put htp (by omega) hvp (by rw [tz2]; exact hfok.hne)) _ _ _ _ hk G2_0 G2_1 G2_2 J (lv_sub hl [0, 2, 3, 4, 5] rfl)
                · refine W.eq (g2 := F0 m 64 ls [.int (nI jz9)]) (by rw [show tpk (cellAt (ffi fa f) (fa (6 * f + 3)) k).toNatClampNeg = nI jz9 from tz2]) ?_
                  refine lv_iconst (v := (-1)) hx hb dX7_stand_64 (by decide) ?_
                  refine lv_icmp_eq (tgt := 89) hx hb dX7_stand_65 (by decide) (fun cz65 => by exact absurd cz65 (nI_m1 (by omega))) (fun cz65 => ?_)
                  refine lv_aload_n hx hb dX7_stand_68 rfl (lv_at hl 3 rfl) ?_
                  refine lv_iload_n hx hb dX7_stand_69 rfl (lv_at hl 2 rfl) ?_
                  refine lv_iconst (v := 4) hx hb dX7_stand_70 (by decide) ?_
                  refine z_cr (z_rV (As := [.int (nI f), .int 4]) (rest := []) (ci := 8) (q0 := 11) X J (cX7_of_ok l E (j := 4) L32_0 L32_1 (by omega) (by first | assumption | omega | decide)) (cwV 2 hts gX7_stand_X7_of rfl rfl rfl (by decide +kernel) ⟨Nat.le_of_ble_eq_true rfl, Nat.le_of_ble_eq_true rfl⟩) L32_0 rfl rfl rfl hl.1 rfl (Nat.le_of_ble_eq_true rfl) dX7_stand_71 ⟨Nat.le_of_ble_eq_true rfl, Nat.le_of_ble_eq_true rfl⟩) (fun r71 e_r71 => ?_)
                  subst e_r71
                  refine lv_aload_n hx hb dX7_stand_74 rfl (lv_at hl 3 rfl) ?_
                  refine lv_aload_n hx hb dX7_stand_75 rfl (lv_at hl 3 rfl) ?_
                  refine z_get (C := RX7) (T := TX7) (N := 14) (ci := 8) (v := .ref mt) X J hi_X7 11 L32_0 rfl 13 (by decide) (by decide +kernel) rfl dX7_stand_76 ?_
                  refine lv_iload hx hb dX7_stand_79 (lv_at hl 0 rfl) ?_
                  refine z_iald X J 17 L32_2 hvp dX7_stand_81 ?_
                  refine W.eq (g2 := F0 m 82 ls [.int (nI jz9), .ref mo, .int (fa (6 * f + 4))]) (by rw [show tpk (cellAt (ffi fa f) (fa (6 * f + 3)) k).toNatClampNeg = nI jz9 from tz2]) ?_
                  refine lv_iconst (v := 4) hx hb dX7_stand_82 (by decide) ?_
                  refine z_cr (z_rV (As := [.int (nI jz9), .int 4]) (rest := [.int (fa (6 * f + 4))]) (ci := 8) (q0 := 11) X J (cX7_of_ok l E (j := 4) L32_0 L32_1 (by omega) (by first | assumption | omega | decide)) (cwV 2 hts gX7_stand_X7_of rfl rfl rfl (by decide +kernel) ⟨Nat.le_of_ble_eq_true rfl, Nat.le_of_ble_eq_true rfl⟩) L32_0 rfl rfl rfl hl.1 rfl (Nat.le_of_ble_eq_true rfl) dX7_stand_83 ⟨Nat.le_of_ble_eq_true rfl, Nat.le_of_ble_eq_true rfl⟩) (fun r83 e_r83 => ?_)
                  subst e_r83
                  refine W.eq (g2 := F0 m 86 ls [.int (gd (scH (hgS fa wo f).1 (ffi fa f) (fa (6 * f + 3)) (fa (6 * f + 4)) k) (cellAt (ffi fa f) (fa (6 * f + 3)) k)), .int (fa (6 * f + 4))]) (by rw [show fa (6 * jz9 + 4) = gd (scH (hgS fa wo f).1 (ffi fa f) (fa (6 * f + 3)) (fa (6 * f + 4)) k) (cellAt (ffi fa f) (fa (6 * f + 3)) k) from tz3.symm]) ?_
                  refine lv_icmp_le (tgt := 97) hx hb dX7_stand_86 (by decide) (fun cz86 => ?_) (fun cz86 => ?_)
                  · refine lv_iinc (v := nI (k + 1)) (lv' := [(4, .int (nI (k + 1))), (5, .int (cellAt (ffi fa f) (fa (6 * f + 3)) k)), (3, .int (nI f)), (0, .ref mo), (1, .int (nI many)), (2, .int wo)]) hx hb dX7_stand_97 hl (k := 1) rfl (nI_1 k) (by decide) rfl (fun ls hl => ?_)
                    refine lv_goto (tgt := 32) hx hb dX7_stand_100 (by decide) ?_
                    exact ih_32 (k + 1) tpk (by omega) (top_skip htp cz86) _ _ _ _ hk L32_0 L32_1 L32_2 J (lv_sub hl [0, 2, 3, 4, 5] rfl)
                  · refine lv_aload_n hx hb dX7_stand_89 rfl (lv_at hl 3 rfl) ?_
                    refine z_get (C := RX7) (T := TX7) (N := 14) (ci := 8) (v := .ref mt) X J hi_X7 11 L32_0 rfl 13 (by decide) (by decide +kernel) rfl dX7_stand_90 ?_
                    refine lv_iload hx hb dX7_stand_93 (lv_at hl 0 rfl) ?_
                    refine lv_iload_n hx hb dX7_stand_95 rfl (lv_at hl 2 rfl) ?_
                    refine z_iast X J 17 L32_2 hvp dX7_stand_96 (fun H locs J => ?_)
                    rw [show upd tpk (cellAt (ffi fa f) (fa (6 * f + 3)) k).toNatClampNeg (nI f) = upd tpk (cellAt (ffi fa f) (fa (6 * f + 3)) k).toNatClampNeg (nI f) from rfl] at J
                    have hk := hk.trans (zK.set (ws := wl32) (q := 17) (e := (mt, zI4 E 400 (upd tpk (cellAt (ffi fa f) (fa (6 * f + 3)) k).toNatClampNeg (nI f)))) (by simp))
                    have G2_0 := zset_ne (q := 17) (e' := (mt, zI4 E 400 (upd tpk (cellAt (ffi fa f) (fa (6 * f + 3)) k).toNatClampNeg (nI f)))) (by decide) L32_0
                    have G2_1 := zset_ne (q := 17) (e' := (mt, zI4 E 400 (upd tpk (cellAt (ffi fa f) (fa (6 * f + 3)) k).toNatClampNeg (nI f)))) (by decide) L32_1
                    have G2_2 := zset_eq (e' := (mt, zI4 E 400 (upd tpk (cellAt (ffi fa f) (fa (6 * f + 3)) k).toNatClampNeg (nI f)))) L32_2
                    generalize hws2 : (wl32.set 17 (mt, zI4 E 400 (upd tpk (cellAt (ffi fa f) (fa (6 * f + 3)) k).toNatClampNeg (nI f)))) = ws_2 at J hk G2_0 G2_1 G2_2
                    refine lv_iinc (v := nI (k + 1)) (lv' := [(4, .int (nI (k + 1))), (5, .int (cellAt (ffi fa f) (fa (6 * f + 3)) k)), (3, .int (nI f)), (0, .ref mo), (1, .int (nI many)), (2, .int wo)]) hx hb dX7_stand_97 hl (k := 1) rfl (nI_1 k) (by decide) rfl (fun ls hl => ?_)
                    refine lv_goto (tgt := 32) hx hb dX7_stand_100 (by decide) ?_
                    exact ih_32 (k + 1) (upd tpk (cellAt (ffi fa f) (fa (6 * f + 3)) k).toNatClampNeg (nI f)) (by omega) (top_put htp (by omega) hvp cz86) _ _ _ _ hk G2_0 G2_1 G2_2 J (lv_sub hl [0, 2, 3, 4, 5] rfl)
            exact loop_32 (fle fa f) 0 tpf (by omega) (htf.mono (by omega)) _ _ _ _ hk L24_0 L24_1 L24_2 J (lv_sub hl [0, 1, 2, 3, 4] rfl)
      exact loop_24 many 0 (fun _ => -1) (by omega) topR.none _ _ _ _ hk G1_0 G1_1 G1_2 J (lv_sub hl [0, 1, 2, 3] rfl)
    | succ k9 ih_2 =>
      intro i hik wl2 H locs ls hk L2_0 L2_1 L2_2 J hl
      refine lv_iload_n hx hb dX7_stand_2 rfl (lv_at hl 0 rfl) ?_
      refine lv_sipush (v := nI 400) hx hb dX7_stand_3 (by decide) ?_
      refine lv_icmp_ge (tgt := 22) hx hb dX7_stand_6 (by decide) (fun cz6 => by exact (nI_ge (by omega) (by omega) cz6).elim) (fun cz6 => ?_)
      refine lv_aload_n hx hb dX7_stand_9 rfl (lv_at hl 1 rfl) ?_
      refine z_get (C := RX7) (T := TX7) (N := 14) (ci := 8) (v := .ref mt) X J hi_X7 11 L2_0 rfl 13 (by decide) (by decide +kernel) rfl dX7_stand_10 ?_
      refine lv_iload_n hx hb dX7_stand_13 rfl (lv_at hl 0 rfl) ?_
      refine lv_iconst (v := (-1)) hx hb dX7_stand_14 (by decide) ?_
      refine z_iast X J 17 L2_2 (vp_in_nI (by omega) (by decide)) dX7_stand_15 (fun H locs J => ?_)
      rw [show upd (cpG tp (fun _ => -1) i) (nI i).toNatClampNeg (-1) = cpG tp (fun _ => -1) (i + 1) from (by rw [nI_clamp (by omega)]; exact cpG_upd (g := fun _ => -1))] at J
      have hk := hk.trans (zK.set (ws := wl2) (q := 17) (e := (mt, zI4 E 400 (cpG tp (fun _ => -1) (i + 1)))) (by simp))
      have G1_0 := zset_ne (q := 17) (e' := (mt, zI4 E 400 (cpG tp (fun _ => -1) (i + 1)))) (by decide) L2_0
      have G1_1 := zset_ne (q := 17) (e' := (mt, zI4 E 400 (cpG tp (fun _ => -1) (i + 1)))) (by decide) L2_1
      have G1_2 := zset_eq (e' := (mt, zI4 E 400 (cpG tp (fun _ => -1) (i + 1)))) L2_2
      generalize hws1 : (wl2.set 17 (mt, zI4 E 400 (cpG tp (fun _ => -1) (i + 1)))) = ws_1 at J hk G1_0 G1_1 G1_2
      refine lv_iinc (v := nI (i + 1)) (lv' := [(3, .int (nI (i + 1))), (0, .ref mo), (1, .int (nI many)), (2, .int wo)]) hx hb dX7_stand_16 hl (k := 0) rfl (nI_1 i) (by decide) rfl (fun ls hl => ?_)
      refine lv_goto (tgt := 2) hx hb dX7_stand_19 (by decide) ?_
      exact ih_2 (i + 1) (by omega) _ _ _ _ hk G1_0 G1_1 G1_2 J (lv_sub hl [0, 1, 2, 3] rfl)
  exact loop_2 400 0 (by omega) _ _ _ _ hk Fa0 Fa1 (by rw [cpG_0]; exact Fa2) J (lv_sub hl [0, 1, 2, 3] rfl)
