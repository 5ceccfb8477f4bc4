set_option maxHeartbeats 4000000 in
set_option maxRecDepth 100000 in
/-- Strip.cell -/
theorem cX4_cell_ok (l : Launch) (E : zG) {ws : va_W} {qs sp : Nat} {fi len dn : Int32} {i : Int32} (F0 : ws[qs]? = some (sp, .inr (5, [.int fi, .int len, .int dn])))  : Met l yX4_cell wsX4_cell ({ frames := 0, cells := 0, slots := 0, locals := 0 } : Room) (va_Pc [.ref sp, .int i] (zI E ws)) (vp_Si (fun r : Int32 => r = fi + i * stp dn)) 0 0 (fun _ => False) := by
  refine Met.ofW (cc := cX4_cell) (maxL := 2) (ret := (some .int)) (by decide) rfl ?_
  intro p e s m args below meth c s₁ B hml hv
  obtain ⟨ha, hI⟩ := hv
  have hx := B.exec
  have hb := B.bytes
  have hr := B.returns
  have hlocks := B.notSynchronized
  have X : zC E p m c cX4_cell 2 s args wsX4_cell RX4 := z_open B hml hI
  have hown := X.1.2.2.2.1
  have hts := X.1.2.2.2.2
  have J := hI.J
  have hi_X4 : ∀ w ∈ wsX40, w ∈ wsX4_cell := by decide +kernel
  have hl := lv_entry ([.ref sp, .int i]) (n := 2) (Nat.le_of_ble_eq_true rfl)
  rw [show entryFrame m args 2 = entryFrame m ([.ref sp, .int i] : List Value).toArray 2 from by rw [ha], lg_entry_eq]
  generalize (lg_sl ([.ref sp, .int i]) ++ List.replicate (2 - (lg_sl ([.ref sp, .int i])).length) Slot.unset).toArray = ls at hl ⊢
  have hl : lv_has ls 2 [(0, .ref sp), (1, .int i)] := hl
  generalize hQ : (MQ below (vp_Si (fun r : Int32 => r = fi + i * stp dn)) args s 0 0 (fun _ => False)) = QQ
  refine lv_aload_n hx hb dX4_cell_0 rfl (lv_at hl 0 rfl) ?_
  refine z_get (C := RX4) (T := TX4) (N := 3) (ci := 5) (v := .int fi) X J hi_X4 qs F0 rfl 0 (by decide) (by decide +kernel) rfl dX4_cell_1 ?_
  refine lv_iload_n hx hb dX4_cell_4 rfl (lv_at hl 1 rfl) ?_
  refine lv_aload_n hx hb dX4_cell_5 rfl (lv_at hl 0 rfl) ?_
  refine z_get (C := RX4) (T := TX4) (N := 3) (ci := 5) (v := .int dn) X J hi_X4 qs F0 rfl 2 (by decide) (by decide +kernel) rfl dX4_cell_6 ?_
  refine lv_if_eq (tgt := 17) hx hb dX4_cell_9 (by decide) (fun c9 => ?_) (fun c9 => ?_)
  · refine lv_iconst (v := 1) hx hb dX4_cell_17 (by decide) ?_
    refine lv_imul hx hb dX4_cell_18 ?_
    refine lv_iadd hx hb dX4_cell_19 ?_
    subst hQ
    exact W.iret (v := fi + (i * 1)) hx hb hr (fun t ht hW => ⟨fi + (i * 1), rfl, (by first | rw [stp_0 (by assumption)] | rw [stp_1 (by assumption)]), ht⟩) (fun q hq => absurd hq List.not_mem_nil) dX4_cell_20
  · refine lv_bipush (v := 20) hx hb dX4_cell_12 (by decide) ?_
    refine lv_goto (tgt := 18) hx hb dX4_cell_14 (by decide) ?_
    refine lv_imul hx hb dX4_cell_18 ?_
    refine lv_iadd hx hb dX4_cell_19 ?_
    subst hQ
    exact W.iret (v := fi + (i * 20)) hx hb hr (fun t ht hW => ⟨fi + (i * 20), rfl, (by first | rw [stp_0 (by assumption)] | rw [stp_1 (by assumption)]), ht⟩) (fun q hq => absurd hq List.not_mem_nil) dX4_cell_20
set_option maxHeartbeats 4000000 in
set_option maxRecDepth 100000 in
/-- Ground.depth -/
theorem cX1_depth_ok (l : Launch) (E : zG) {ws : va_W} {qg qa g ga : Nat} {f : Nat → Int32} {i : Int32} (F0 : ws[qg]? = some (g, .inr (2, [.ref ga]))) (F1 : ws[qa]? = some (ga, zI4 E 400 f))  : Met l yX1_depth wsX1_depth ({ frames := 0, cells := 0, slots := 0, locals := 0 } : Room) (va_Pc [.ref g, .int i] (zI E ws)) (vp_Si (fun r : Int32 => r = gd f i)) 0 0 (fun _ => False) := by
  refine Met.ofW (cc := cX1_depth) (maxL := 2) (ret := (some .int)) (by decide) rfl ?_
  intro p e s m args below meth c s₁ B hml hv
  obtain ⟨ha, hI⟩ := hv
  have hx := B.exec
  have hb := B.bytes
  have hr := B.returns
  have hlocks := B.notSynchronized
  have X : zC E p m c cX1_depth 2 s args wsX1_depth RX1 := z_open B hml hI
  have hown := X.1.2.2.2.1
  have hts := X.1.2.2.2.2
  have J := hI.J
  have hi_X1 : ∀ w ∈ wsX10, w ∈ wsX1_depth := by decide +kernel
  have n0_1 : qg ≠ qa := zneK F0 F1 rfl
  have hl := lv_entry ([.ref g, .int i]) (n := 2) (Nat.le_of_ble_eq_true rfl)
  rw [show entryFrame m args 2 = entryFrame m ([.ref g, .int i] : List Value).toArray 2 from by rw [ha], lg_entry_eq]
  generalize (lg_sl ([.ref g, .int i]) ++ List.replicate (2 - (lg_sl ([.ref g, .int i])).length) Slot.unset).toArray = ls at hl ⊢
  have hl : lv_has ls 2 [(0, .ref g), (1, .int i)] := hl
  generalize hQ : (MQ below (vp_Si (fun r : Int32 => r = gd f i)) args s 0 0 (fun _ => False)) = QQ
  refine lv_iload_n hx hb dX1_depth_0 rfl (lv_at hl 1 rfl) ?_
  refine lv_if_lt (tgt := 22) hx hb dX1_depth_1 (by decide) (fun c1 => ?_) (fun c1 => ?_)
  · refine lv_iconst (v := 0) hx hb dX1_depth_22 (by decide) ?_
    subst hQ
    exact W.iret (v := 0) hx hb hr (fun t ht hW => ⟨0, rfl, (by first | exact (gd_in c1 c10).symm | exact (gd_hi c10).symm | exact (gd_lo c1).symm), ht⟩) (fun q hq => absurd hq List.not_mem_nil) dX1_depth_23
  · refine lv_iload_n hx hb dX1_depth_4 rfl (lv_at hl 1 rfl) ?_
    refine lv_aload_n hx hb dX1_depth_5 rfl (lv_at hl 0 rfl) ?_
    refine z_get (C := RX1) (T := TX1) (N := 1) (ci := 2) (v := .ref ga) X J hi_X1 qg F0 rfl 0 (by decide) (by decide +kernel) rfl dX1_depth_6 ?_
    refine z_alenI (v := 400) X J qa F1 rfl dX1_depth_9 ?_
    refine lv_icmp_ge (tgt := 22) hx hb dX1_depth_10 (by decide) (fun c10 => ?_) (fun c10 => ?_)
    · refine lv_iconst (v := 0) hx hb dX1_depth_22 (by decide) ?_
      subst hQ
      exact W.iret (v := 0) hx hb hr (fun t ht hW => ⟨0, rfl, (by first | exact (gd_in c1 c10).symm | exact (gd_hi c10).symm | exact (gd_lo c1).symm), ht⟩) (fun q hq => absurd hq List.not_mem_nil) dX1_depth_23
    · refine lv_aload_n hx hb dX1_depth_13 rfl (lv_at hl 0 rfl) ?_
      refine z_get (C := RX1) (T := TX1) (N := 1) (ci := 2) (v := .ref ga) X J hi_X1 qg F0 rfl 0 (by decide) (by decide +kernel) rfl dX1_depth_14 ?_
      refine lv_iload_n hx hb dX1_depth_17 rfl (lv_at hl 1 rfl) ?_
      refine z_iald X J qa F1 (vp400 c1 c10) dX1_depth_18 ?_
      refine lv_goto (tgt := 23) hx hb dX1_depth_19 (by decide) ?_
      subst hQ
      exact W.iret (v := f i.toNatClampNeg) hx hb hr (fun t ht hW => ⟨f i.toNatClampNeg, rfl, (by first | exact (gd_in c1 c10).symm | exact (gd_hi c10).symm | exact (gd_lo c1).symm), ht⟩) (fun q hq => absurd hq List.not_mem_nil) dX1_depth_23
set_option maxHeartbeats 4000000 in
set_option maxRecDepth 100000 in
/-- Ground.put -/
theorem cX1_put_ok (l : Launch) (E : zG) {ws : va_W} {qg qa g ga : Nat} {f : Nat → Int32} {i v : Int32} (F0 : ws[qg]? = some (g, .inr (2, [.ref ga]))) (F1 : ws[qa]? = some (ga, zI4 E 400 f))  : Met l yX1_put wsX1_put ({ frames := 0, cells := 0, slots := 0, locals := 0 } : Room) (va_Pc [.ref g, .int i, .int v] (zI E ws)) (va_Qv (fun (ws' : va_W) => (zK [qa] ws ws') ∧ (ws'[qa]? = some (ga, zI4 E 400 (gp f i v)))) (zI E) (zA E)) 0 0 (zA E) := by
  refine Met.ofW (cc := cX1_put) (maxL := 3) (ret := none) (by decide) rfl ?_
  intro p e s m args below meth c s₁ B hml hv
  obtain ⟨ha, hI⟩ := hv
  have hx := B.exec
  have hb := B.bytes
  have hr := B.returns
  have hlocks := B.notSynchronized
  have X : zC E p m c cX1_put 3 s args wsX1_put RX1 := z_open B hml hI
  have hown := X.1.2.2.2.1
  have hts := X.1.2.2.2.2
  have J := hI.J
  have hi_X1 : ∀ w ∈ wsX10, w ∈ wsX1_put := by decide +kernel
  have n0_1 : qg ≠ qa := zneK F0 F1 rfl
  have hk : zK [qa] ws ws := zK.rf
  have hl := lv_entry ([.ref g, .int i, .int v]) (n := 3) (Nat.le_of_ble_eq_true rfl)
  rw [show entryFrame m args 3 = entryFrame m ([.ref g, .int i, .int v] : List Value).toArray 3 from by rw [ha], lg_entry_eq]
  generalize (lg_sl ([.ref g, .int i, .int v]) ++ List.replicate (3 - (lg_sl ([.ref g, .int i, .int v])).length) Slot.unset).toArray = ls at hl ⊢
  have hl : lv_has ls 3 [(0, .ref g), (1, .int i), (2, .int v)] := hl
  generalize hQ : (MQ below (va_Qv (fun (ws' : va_W) => (zK [qa] ws ws') ∧ (ws'[qa]? = some (ga, zI4 E 400 (gp f i v)))) (zI E) (zA E)) args s 0 0 (zA E)) = QQ
  refine lv_iload_n hx hb dX1_put_0 rfl (lv_at hl 1 rfl) ?_
  refine lv_if_lt (tgt := 20) hx hb dX1_put_1 (by decide) (fun c1 => ?_) (fun c1 => ?_)
  · subst hQ
    exact W.vret hx hb hr (fun t ht hW => ⟨⟨ws, rfl, ⟨hk, (by first | exact F1 | (rw [gp_lo c1]; exact F1) | (rw [gp_hi c10]; exact F1))⟩, J.I X ht hW.alike⟩, J.F ht⟩) J.locs dX1_put_20
  · refine lv_iload_n hx hb dX1_put_4 rfl (lv_at hl 1 rfl) ?_
    refine lv_aload_n hx hb dX1_put_5 rfl (lv_at hl 0 rfl) ?_
    refine z_get (C := RX1) (T := TX1) (N := 1) (ci := 2) (v := .ref ga) X J hi_X1 qg F0 rfl 0 (by decide) (by decide +kernel) rfl dX1_put_6 ?_
    refine z_alenI (v := 400) X J qa F1 rfl dX1_put_9 ?_
    refine lv_icmp_ge (tgt := 20) hx hb dX1_put_10 (by decide) (fun c10 => ?_) (fun c10 => ?_)
    · subst hQ
      exact W.vret hx hb hr (fun t ht hW => ⟨⟨ws, rfl, ⟨hk, (by first | exact F1 | (rw [gp_lo c1]; exact F1) | (rw [gp_hi c10]; exact F1))⟩, J.I X ht hW.alike⟩, J.F ht⟩) J.locs dX1_put_20
    · refine lv_aload_n hx hb dX1_put_13 rfl (lv_at hl 0 rfl) ?_
      refine z_get (C := RX1) (T := TX1) (N := 1) (ci := 2) (v := .ref ga) X J hi_X1 qg F0 rfl 0 (by decide) (by decide +kernel) rfl dX1_put_14 ?_
      refine lv_iload_n hx hb dX1_put_17 rfl (lv_at hl 1 rfl) ?_
      refine lv_iload_n hx hb dX1_put_18 rfl (lv_at hl 2 rfl) ?_
      refine z_iast X J qa F1 (vp400 c1 c10) dX1_put_19 (fun H locs J => ?_)
      rw [show upd f i.toNatClampNeg v = gp f i v from (gp_in c1 c10).symm] at J
      have hk := hk.trans (zK.set (ws := ws) (q := qa) (e := (ga, zI4 E 400 (gp f i v))) (by simp))
      have G1_0 := zset_ne (q := qa) (e' := (ga, zI4 E 400 (gp f i v))) (by omega) F0
      have G1_1 := zset_eq (e' := (ga, zI4 E 400 (gp f i v))) F1
      generalize hws1 : (ws.set qa (ga, zI4 E 400 (gp f i v))) = ws_1 at J hk G1_0 G1_1
      subst hQ
      exact W.vret hx hb hr (fun t ht hW => ⟨⟨ws_1, rfl, ⟨hk, (by first | exact G1_1 | (rw [gp_lo c1]; exact G1_1) | (rw [gp_hi c10]; exact G1_1))⟩, J.I X ht hW.alike⟩, J.F ht⟩) J.locs dX1_put_20
