set_option maxHeartbeats 4000000 in
set_option maxRecDepth 100000 in
/-- Strip.cell -/
theorem cX4_cell_ok (l : Launch) (E : zG) {ws : va_W} {qs sp : Nat} {fi len dn : Int32} {i : Int32} (Fa0 : ws[qs]? = some (sp, .inr (5, [.int fi, .int len, .int dn])))  : Met l yX4_cell wsX4_cell ({ frames := 0, cells := 0, slots := 0, locals := 0 } : Room) (va_Pc [.ref sp, .int i] (zI E ws)) (vp_Si (fun r : Int32 => r = fi + i * stp dn)) 0 0 (fun _ => False) := by
  refine Met.ofW (cc := cX4_cell) (maxL := 2) (ret := (some .int)) (by decide) rfl ?_
  intro p e s m args below meth c s₁ B hml hv
  obtain ⟨hargs9, hI⟩ := hv
  have hx := B.exec
  have hb := B.bytes
  have hr := B.returns
  have hlocks := B.notSynchronized
  have X : zC E p m c cX4_cell 2 s args wsX4_cell RX4 := z_open B hml hI
  have hown := X.1.2.2.2.1
  have hts := X.1.2.2.2.2
  have J := hI.J
  have hi_X4 : ∀ w ∈ wsX40, w ∈ wsX4_cell := by decide +kernel
  have hl := lv_entry ([.ref sp, .int i]) (n := 2) (Nat.le_of_ble_eq_true rfl)
  rw [show entryFrame m args 2 = entryFrame m ([.ref sp, .int i] : List Value).toArray 2 from by rw [hargs9], lg_entry_eq]
  generalize (lg_sl ([.ref sp, .int i]) ++ List.replicate (2 - (lg_sl ([.ref sp, .int i])).length) Slot.unset).toArray = ls at hl ⊢
  have hl : lv_has ls 2 [(0, .ref sp), (1, .int i)] := hl
  generalize hQ : (MQ below (vp_Si (fun r : Int32 => r = fi + i * stp dn)) args s 0 0 (fun _ => False)) = QQ
  refine lv_aload_n hx hb dX4_cell_0 rfl (lv_at hl 0 rfl) ?_
  refine z_get (C := RX4) (T := TX4) (N := 3) (ci := 5) (v := .int fi) X J hi_X4 qs Fa0 rfl 0 (by decide) (by decide +kernel) rfl dX4_cell_1 ?_
  refine lv_iload_n hx hb dX4_cell_4 rfl (lv_at hl 1 rfl) ?_
  refine lv_aload_n hx hb dX4_cell_5 rfl (lv_at hl 0 rfl) ?_
  refine z_get (C := RX4) (T := TX4) (N := 3) (ci := 5) (v := .int dn) X J hi_X4 qs Fa0 rfl 2 (by decide) (by decide +kernel) rfl dX4_cell_6 ?_
  refine lv_if_eq (tgt := 17) hx hb dX4_cell_9 (by decide) (fun cz9 => ?_) (fun cz9 => ?_)
  · refine lv_iconst (v := 1) hx hb dX4_cell_17 (by decide) ?_
    refine lv_imul hx hb dX4_cell_18 ?_
    refine lv_iadd hx hb dX4_cell_19 ?_
    subst hQ
    exact W.iret (v := fi + (i * 1)) hx hb hr (fun t ht hW => ⟨fi + (i * 1), rfl, (by first | rw [stp_0 (by assumption)] | rw [stp_1 (by assumption)]), ht⟩) (fun q hq => absurd hq List.not_mem_nil) dX4_cell_20
  · refine lv_bipush (v := 20) hx hb dX4_cell_12 (by decide) ?_
    refine lv_goto (tgt := 18) hx hb dX4_cell_14 (by decide) ?_
    refine lv_imul hx hb dX4_cell_18 ?_
    refine lv_iadd hx hb dX4_cell_19 ?_
    subst hQ
    exact W.iret (v := fi + (i * 20)) hx hb hr (fun t ht hW => ⟨fi + (i * 20), rfl, (by first | rw [stp_0 (by assumption)] | rw [stp_1 (by assumption)]), ht⟩) (fun q hq => absurd hq List.not_mem_nil) dX4_cell_20
set_option maxHeartbeats 4000000 in
set_option maxRecDepth 100000 in
/-- Strip() -/
theorem cX4_init_ok (l : Launch) (E : zG) {ws : va_W} {qs sp : Nat} {a9 b9 cz9 : Int32} {co ro le d : Int32} (Fa0 : ws[qs]? = some (sp, .inr (5, [.int a9, .int b9, .int cz9]))) (hd : d = 0 ∨ d = 1) : Met l yX4_init wsX4_init ({ frames := 1, cells := 0, slots := 0, locals := 12 } : Room) (va_Pc [.ref sp, .int co, .int ro, .int le, .int d] (zI E ws)) (va_Qv (fun (ws' : va_W) => (zK [qs] ws ws') ∧ (ws'.length = ws.length) ∧ (ws'[qs]? = some (sp, .inr (5, [.int (ro * 20 + co), .int le, .int d])))) (zI E) (zA E)) 0 0 (zA E) := by
  refine Met.ofW (cc := cX4_init) (maxL := 5) (ret := none) (by decide) rfl ?_
  intro p e s m args below meth c s₁ B hml hv
  obtain ⟨hargs9, hI⟩ := hv
  have hx := B.exec
  have hb := B.bytes
  have hr := B.returns
  have hlocks := B.notSynchronized
  have X : zC E p m c cX4_init 5 s args wsX4_init RX4 := z_open B hml hI
  have hin9 : meth.name = "<init>" := (name_of_methodNamed B.named B.method).1
  have hown := X.1.2.2.2.1
  have hts := X.1.2.2.2.2
  have J := hI.J
  have hi_X4 : ∀ w ∈ wsX40, w ∈ wsX4_init := by decide +kernel
  have hk : zK [qs] ws ws := zK.rf
  have hlen : ws.length = ws.length + 0 := rfl
  have bFa0 := zlt Fa0
  have hl := lv_entry ([.ref sp, .int co, .int ro, .int le, .int d]) (n := 5) (Nat.le_of_ble_eq_true rfl)
  rw [show entryFrame m args 5 = entryFrame m ([.ref sp, .int co, .int ro, .int le, .int d] : List Value).toArray 5 from by rw [hargs9], lg_entry_eq]
  generalize (lg_sl ([.ref sp, .int co, .int ro, .int le, .int d]) ++ List.replicate (5 - (lg_sl ([.ref sp, .int co, .int ro, .int le, .int d])).length) Slot.unset).toArray = ls at hl ⊢
  have hl : lv_has ls 5 [(0, .ref sp), (1, .int co), (2, .int ro), (3, .int le), (4, .int d)] := hl
  generalize hQ : (MQ below (va_Qv (fun (ws' : va_W) => (zK [qs] ws ws') ∧ (ws'.length = ws.length) ∧ (ws'[qs]? = some (sp, .inr (5, [.int (ro * 20 + co), .int le, .int d])))) (zI E) (zA E)) args s 0 0 (zA E)) = QQ
  refine lv_aload_n hx hb dX4_init_0 rfl (lv_at hl 0 rfl) ?_
  refine W.objInit hx hb hown (hts (.methodLink RX4 3 objectInit) (by decide +kernel)) (hts (.instanceMethod objectInit) (by decide +kernel)) (hts (.code objectInit ⟨#[0xb1]⟩ 1 none) (by decide +kernel)) rfl (by rw [X.1.2.2.1]; exact hl.1) rfl dX4_init_1 (Nat.le_of_ble_eq_true rfl) (Nat.le_of_ble_eq_true rfl) ?_
  refine W.eq (g2 := F0 m 4 ls []) rfl ?_
  refine lv_aload_n hx hb dX4_init_4 rfl (lv_at hl 0 rfl) ?_
  refine lv_iload_n hx hb dX4_init_5 rfl (lv_at hl 2 rfl) ?_
  refine lv_bipush (v := 20) hx hb dX4_init_6 (by decide) ?_
  refine lv_imul hx hb dX4_init_8 ?_
  refine lv_iload_n hx hb dX4_init_9 rfl (lv_at hl 1 rfl) ?_
  refine lv_iadd hx hb dX4_init_10 ?_
  refine z_putF (C := RX4) (T := TX4) (N := 3) (ci := 5) (v := .int ((ro * 20) + co)) X J hi_X4 tyX4 tyX4_ok nmX4 qs Fa0 rfl 0 (by decide) (by decide +kernel) rfl hin9 rfl rfl rfl (Nat.le_of_ble_eq_true rfl) dX4_init_11 (fun H locs J => ?_)
  have J : zJ E (ws.set qs (sp, .inr (5, [.int ((ro * 20) + co), .int b9, .int cz9]))) s H locs := J
  have hk := hk.trans (zK.set (ws := ws) (q := qs) (e := (sp, .inr (5, [.int ((ro * 20) + co), .int b9, .int cz9]))) (by simp))
  have hlen : (ws.set qs (sp, .inr (5, [.int ((ro * 20) + co), .int b9, .int cz9]))).length = ws.length + 0 := (List.length_set ..).trans hlen
  have G1_0 := zset_eq (e' := (sp, .inr (5, [.int ((ro * 20) + co), .int b9, .int cz9]))) Fa0
  generalize hws1 : (ws.set qs (sp, .inr (5, [.int ((ro * 20) + co), .int b9, .int cz9]))) = ws_1 at J hlen hk G1_0
  refine lv_aload_n hx hb dX4_init_14 rfl (lv_at hl 0 rfl) ?_
  refine lv_iload_n hx hb dX4_init_15 rfl (lv_at hl 3 rfl) ?_
  refine z_putF (C := RX4) (T := TX4) (N := 3) (ci := 5) (v := .int le) X J hi_X4 tyX4 tyX4_ok nmX4 qs G1_0 rfl 1 (by decide) (by decide +kernel) rfl hin9 rfl rfl rfl (Nat.le_of_ble_eq_true rfl) dX4_init_16 (fun H locs J => ?_)
  have J : zJ E (ws_1.set qs (sp, .inr (5, [.int ((ro * 20) + co), .int le, .int cz9]))) s H locs := J
  have hk := hk.trans (zK.set (ws := ws_1) (q := qs) (e := (sp, .inr (5, [.int ((ro * 20) + co), .int le, .int cz9]))) (by simp))
  have hlen : (ws_1.set qs (sp, .inr (5, [.int ((ro * 20) + co), .int le, .int cz9]))).length = ws.length + 0 := (List.length_set ..).trans hlen
  have G2_0 := zset_eq (e' := (sp, .inr (5, [.int ((ro * 20) + co), .int le, .int cz9]))) G1_0
  generalize hws2 : (ws_1.set qs (sp, .inr (5, [.int ((ro * 20) + co), .int le, .int cz9]))) = ws_2 at J hlen hk G2_0
  refine lv_aload_n hx hb dX4_init_19 rfl (lv_at hl 0 rfl) ?_
  refine lv_iload hx hb dX4_init_20 (lv_at hl 4 rfl) ?_
  refine z_putF (C := RX4) (T := TX4) (N := 3) (ci := 5) (v := .int d) X J hi_X4 tyX4 tyX4_ok nmX4 qs G2_0 rfl 2 (by decide) (by decide +kernel) rfl hin9 rfl (by rcases hd with rfl | rfl <;> rfl) (by rcases hd with rfl | rfl <;> rfl) (Nat.le_of_ble_eq_true rfl) dX4_init_22 (fun H locs J => ?_)
  have J : zJ E (ws_2.set qs (sp, .inr (5, [.int ((ro * 20) + co), .int le, .int d]))) s H locs := J
  have hk := hk.trans (zK.set (ws := ws_2) (q := qs) (e := (sp, .inr (5, [.int ((ro * 20) + co), .int le, .int d]))) (by simp))
  have hlen : (ws_2.set qs (sp, .inr (5, [.int ((ro * 20) + co), .int le, .int d]))).length = ws.length + 0 := (List.length_set ..).trans hlen
  have G3_0 := zset_eq (e' := (sp, .inr (5, [.int ((ro * 20) + co), .int le, .int d]))) G2_0
  generalize hws3 : (ws_2.set qs (sp, .inr (5, [.int ((ro * 20) + co), .int le, .int d]))) = ws_3 at J hlen hk G3_0
  subst hQ
  exact W.vret hx hb hr (fun t ht hW => ⟨⟨ws_3, rfl, ⟨hk, hlen, G3_0⟩, J.I X ht hW.alike⟩, J.F ht⟩) J.locs dX4_init_25
set_option maxHeartbeats 4000000 in
set_option maxRecDepth 100000 in
/-- Ground.depth -/
theorem cX1_depth_ok (l : Launch) (E : zG) {ws : va_W} {qg qa g ga : Nat} {f : Nat → Int32} {i : Int32} (Fa0 : ws[qg]? = some (g, .inr (2, [.ref ga]))) (Fa1 : ws[qa]? = some (ga, zI4 E 400 f))  : Met l yX1_depth wsX1_depth ({ frames := 0, cells := 0, slots := 0, locals := 0 } : Room) (va_Pc [.ref g, .int i] (zI E ws)) (vp_Si (fun r : Int32 => r = gd f i)) 0 0 (fun _ => False) := by
  refine Met.ofW (cc := cX1_depth) (maxL := 2) (ret := (some .int)) (by decide) rfl ?_
  intro p e s m args below meth c s₁ B hml hv
  obtain ⟨hargs9, hI⟩ := hv
  have hx := B.exec
  have hb := B.bytes
  have hr := B.returns
  have hlocks := B.notSynchronized
  have X : zC E p m c cX1_depth 2 s args wsX1_depth RX1 := z_open B hml hI
  have hown := X.1.2.2.2.1
  have hts := X.1.2.2.2.2
  have J := hI.J
  have hi_X1 : ∀ w ∈ wsX10, w ∈ wsX1_depth := by decide +kernel
  have n0_1 : qg ≠ qa := zneK Fa0 Fa1 rfl
  have hl := lv_entry ([.ref g, .int i]) (n := 2) (Nat.le_of_ble_eq_true rfl)
  rw [show entryFrame m args 2 = entryFrame m ([.ref g, .int i] : List Value).toArray 2 from by rw [hargs9], lg_entry_eq]
  generalize (lg_sl ([.ref g, .int i]) ++ List.replicate (2 - (lg_sl ([.ref g, .int i])).length) Slot.unset).toArray = ls at hl ⊢
  have hl : lv_has ls 2 [(0, .ref g), (1, .int i)] := hl
  generalize hQ : (MQ below (vp_Si (fun r : Int32 => r = gd f i)) args s 0 0 (fun _ => False)) = QQ
  refine lv_iload_n hx hb dX1_depth_0 rfl (lv_at hl 1 rfl) ?_
  refine lv_if_lt (tgt := 22) hx hb dX1_depth_1 (by decide) (fun cz1 => ?_) (fun cz1 => ?_)
  · refine lv_iconst (v := 0) hx hb dX1_depth_22 (by decide) ?_
    subst hQ
    exact W.iret (v := 0) hx hb hr (fun t ht hW => ⟨0, rfl, (by first | exact (gd_in cz1 cz10).symm | exact (gd_hi cz10).symm | exact (gd_lo cz1).symm), ht⟩) (fun q hq => absurd hq List.not_mem_nil) dX1_depth_23
  · refine lv_iload_n hx hb dX1_depth_4 rfl (lv_at hl 1 rfl) ?_
    refine lv_aload_n hx hb dX1_depth_5 rfl (lv_at hl 0 rfl) ?_
    refine z_get (C := RX1) (T := TX1) (N := 1) (ci := 2) (v := .ref ga) X J hi_X1 qg Fa0 rfl 0 (by decide) (by decide +kernel) rfl dX1_depth_6 ?_
    refine z_alenI (v := 400) X J qa Fa1 rfl dX1_depth_9 ?_
    refine lv_icmp_ge (tgt := 22) hx hb dX1_depth_10 (by decide) (fun cz10 => ?_) (fun cz10 => ?_)
    · refine lv_iconst (v := 0) hx hb dX1_depth_22 (by decide) ?_
      subst hQ
      exact W.iret (v := 0) hx hb hr (fun t ht hW => ⟨0, rfl, (by first | exact (gd_in cz1 cz10).symm | exact (gd_hi cz10).symm | exact (gd_lo cz1).symm), ht⟩) (fun q hq => absurd hq List.not_mem_nil) dX1_depth_23
    · refine lv_aload_n hx hb dX1_depth_13 rfl (lv_at hl 0 rfl) ?_
      refine z_get (C := RX1) (T := TX1) (N := 1) (ci := 2) (v := .ref ga) X J hi_X1 qg Fa0 rfl 0 (by decide) (by decide +kernel) rfl dX1_depth_14 ?_
      refine lv_iload_n hx hb dX1_depth_17 rfl (lv_at hl 1 rfl) ?_
      refine z_iald X J qa Fa1 (vp400 cz1 cz10) dX1_depth_18 ?_
      refine lv_goto (tgt := 23) hx hb dX1_depth_19 (by decide) ?_
      subst hQ
      exact W.iret (v := f i.toNatClampNeg) hx hb hr (fun t ht hW => ⟨f i.toNatClampNeg, rfl, (by first | exact (gd_in cz1 cz10).symm | exact (gd_hi cz10).symm | exact (gd_lo cz1).symm), ht⟩) (fun q hq => absurd hq List.not_mem_nil) dX1_depth_23
set_option maxHeartbeats 4000000 in
set_option maxRecDepth 100000 in
/-- Ground.put -/
theorem cX1_put_ok (l : Launch) (E : zG) {ws : va_W} {qg qa g ga : Nat} {f : Nat → Int32} {i v : Int32} (Fa0 : ws[qg]? = some (g, .inr (2, [.ref ga]))) (Fa1 : ws[qa]? = some (ga, zI4 E 400 f))  : Met l yX1_put wsX1_put ({ frames := 0, cells := 0, slots := 0, locals := 0 } : Room) (va_Pc [.ref g, .int i, .int v] (zI E ws)) (va_Qv (fun (ws' : va_W) => (zK [qa] ws ws') ∧ (ws'[qa]? = some (ga, zI4 E 400 (gp f i v)))) (zI E) (zA E)) 0 0 (zA E) := by
  refine Met.ofW (cc := cX1_put) (maxL := 3) (ret := none) (by decide) rfl ?_
  intro p e s m args below meth c s₁ B hml hv
  obtain ⟨hargs9, hI⟩ := hv
  have hx := B.exec
  have hb := B.bytes
  have hr := B.returns
  have hlocks := B.notSynchronized
  have X : zC E p m c cX1_put 3 s args wsX1_put RX1 := z_open B hml hI
  have hown := X.1.2.2.2.1
  have hts := X.1.2.2.2.2
  have J := hI.J
  have hi_X1 : ∀ w ∈ wsX10, w ∈ wsX1_put := by decide +kernel
  have n0_1 : qg ≠ qa := zneK Fa0 Fa1 rfl
  have hk : zK [qa] ws ws := zK.rf
  have hl := lv_entry ([.ref g, .int i, .int v]) (n := 3) (Nat.le_of_ble_eq_true rfl)
  rw [show entryFrame m args 3 = entryFrame m ([.ref g, .int i, .int v] : List Value).toArray 3 from by rw [hargs9], lg_entry_eq]
  generalize (lg_sl ([.ref g, .int i, .int v]) ++ List.replicate (3 - (lg_sl ([.ref g, .int i, .int v])).length) Slot.unset).toArray = ls at hl ⊢
  have hl : lv_has ls 3 [(0, .ref g), (1, .int i), (2, .int v)] := hl
  generalize hQ : (MQ below (va_Qv (fun (ws' : va_W) => (zK [qa] ws ws') ∧ (ws'[qa]? = some (ga, zI4 E 400 (gp f i v)))) (zI E) (zA E)) args s 0 0 (zA E)) = QQ
  refine lv_iload_n hx hb dX1_put_0 rfl (lv_at hl 1 rfl) ?_
  refine lv_if_lt (tgt := 20) hx hb dX1_put_1 (by decide) (fun cz1 => ?_) (fun cz1 => ?_)
  · subst hQ
    exact W.vret hx hb hr (fun t ht hW => ⟨⟨ws, rfl, ⟨hk, (by first | exact Fa1 | (rw [gp_lo cz1]; exact Fa1) | (rw [gp_hi cz10]; exact Fa1))⟩, J.I X ht hW.alike⟩, J.F ht⟩) J.locs dX1_put_20
  · refine lv_iload_n hx hb dX1_put_4 rfl (lv_at hl 1 rfl) ?_
    refine lv_aload_n hx hb dX1_put_5 rfl (lv_at hl 0 rfl) ?_
    refine z_get (C := RX1) (T := TX1) (N := 1) (ci := 2) (v := .ref ga) X J hi_X1 qg Fa0 rfl 0 (by decide) (by decide +kernel) rfl dX1_put_6 ?_
    refine z_alenI (v := 400) X J qa Fa1 rfl dX1_put_9 ?_
    refine lv_icmp_ge (tgt := 20) hx hb dX1_put_10 (by decide) (fun cz10 => ?_) (fun cz10 => ?_)
    · subst hQ
      exact W.vret hx hb hr (fun t ht hW => ⟨⟨ws, rfl, ⟨hk, (by first | exact Fa1 | (rw [gp_lo cz1]; exact Fa1) | (rw [gp_hi cz10]; exact Fa1))⟩, J.I X ht hW.alike⟩, J.F ht⟩) J.locs dX1_put_20
    · refine lv_aload_n hx hb dX1_put_13 rfl (lv_at hl 0 rfl) ?_
      refine z_get (C := RX1) (T := TX1) (N := 1) (ci := 2) (v := .ref ga) X J hi_X1 qg Fa0 rfl 0 (by decide) (by decide +kernel) rfl dX1_put_14 ?_
      refine lv_iload_n hx hb dX1_put_17 rfl (lv_at hl 1 rfl) ?_
      refine lv_iload_n hx hb dX1_put_18 rfl (lv_at hl 2 rfl) ?_
      refine z_iast X J qa Fa1 (vp400 cz1 cz10) dX1_put_19 (fun H locs J => ?_)
      rw [show upd f i.toNatClampNeg v = gp f i v from (gp_in cz1 cz10).symm] at J
      have hk := hk.trans (zK.set (ws := ws) (q := qa) (e := (ga, zI4 E 400 (gp f i v))) (by simp))
      have G1_0 := zset_ne (q := qa) (e' := (ga, zI4 E 400 (gp f i v))) (by omega) Fa0
      have G1_1 := zset_eq (e' := (ga, zI4 E 400 (gp f i v))) Fa1
      generalize hws1 : (ws.set qa (ga, zI4 E 400 (gp f i v))) = ws_1 at J hk G1_0 G1_1
      subst hQ
      exact W.vret hx hb hr (fun t ht hW => ⟨⟨ws_1, rfl, ⟨hk, (by first | exact G1_1 | (rw [gp_lo cz1]; exact G1_1) | (rw [gp_hi cz10]; exact G1_1))⟩, J.I X ht hW.alike⟩, J.F ht⟩) J.locs dX1_put_20
set_option maxHeartbeats 4000000 in
set_option maxRecDepth 100000 in
/-- Ground.becomeLike -/
theorem cX1_becomeLike_ok (l : Launch) (E : zG) {ws : va_W} {qg qa qo qb g ga o oa : Nat} {f f2 : Nat → Int32} (Fa0 : ws[qg]? = some (g, .inr (2, [.ref ga]))) (Fa1 : ws[qa]? = some (ga, zI4 E 400 f)) (Fa2 : ws[qo]? = some (o, .inr (2, [.ref oa]))) (Fa3 : ws[qb]? = some (oa, zI4 E 400 f2)) (hab : qa ≠ qb) : Met l yX1_becomeLike wsX1_becomeLike ({ frames := 1, cells := 0, slots := 0, locals := 22 } : Room) (va_Pc [.ref g, .ref o] (zI E ws)) (va_Qv (fun (ws' : va_W) => (zK [qa] ws ws') ∧ (ws'[qa]? = some (ga, zI4 E 400 f2))) (zI E) (zA E)) 0 0 (zA E) := by
  refine Met.ofW (cc := cX1_becomeLike) (maxL := 3) (ret := none) (by decide) rfl ?_
  intro p e s m args below meth c s₁ B hml hv
  obtain ⟨hargs9, hI⟩ := hv
  have hx := B.exec
  have hb := B.bytes
  have hr := B.returns
  have hlocks := B.notSynchronized
  have X : zC E p m c cX1_becomeLike 3 s args wsX1_becomeLike RX1 := z_open B hml hI
  have hown := X.1.2.2.2.1
  have hts := X.1.2.2.2.2
  have J := hI.J
  have n0_1 : qg ≠ qa := zneK Fa0 Fa1 rfl
  have n0_3 : qg ≠ qb := zneK Fa0 Fa3 rfl
  have n1_2 : qa ≠ qo := zneK Fa1 Fa2 rfl
  have n2_3 : qo ≠ qb := zneK Fa2 Fa3 rfl
  have hk : zK [qa] ws ws := zK.rf
  have hl := lv_entry ([.ref g, .ref o]) (n := 3) (Nat.le_of_ble_eq_true rfl)
  rw [show entryFrame m args 3 = entryFrame m ([.ref g, .ref o] : List Value).toArray 3 from by rw [hargs9], lg_entry_eq]
  generalize (lg_sl ([.ref g, .ref o]) ++ List.replicate (3 - (lg_sl ([.ref g, .ref o])).length) Slot.unset).toArray = ls at hl ⊢
  have hl : lv_has ls 3 [(0, .ref g), (1, .ref o)] := hl
  generalize hQ : (MQ below (va_Qv (fun (ws' : va_W) => (zK [qa] ws ws') ∧ (ws'[qa]? = some (ga, zI4 E 400 f2))) (zI E) (zA E)) args s 0 0 (zA E)) = QQ
  refine lv_iconst (v := nI 0) hx hb dX1_becomeLike_0 rfl ?_
  refine lv_istore_n (lv' := [(2, .int (nI 0)), (0, .ref g), (1, .ref o)]) hx hb dX1_becomeLike_1 rfl hl (by decide) rfl (fun ls hl => ?_)
  have loop_2 : ∀ (k9 i : Nat), i + k9 = 400 → ∀ (wl2 : va_W) (H : Heap) (locs : List Loc) (ls : Array Slot), zK [qa] ws wl2 → wl2[qg]? = some (g, .inr (2, [.ref ga])) → wl2[qa]? = some (ga, zI4 E 400 (cpG f f2 i)) → wl2[qo]? = some (o, .inr (2, [.ref oa])) → wl2[qb]? = some (oa, zI4 E 400 f2) → zJ E wl2 s H locs → lv_has ls 3 [(2, .int (nI i)), (0, .ref g), (1, .ref o)] → W p l e (headSpec wsX1_becomeLike ({ frames := 1, cells := 0, slots := 0, locals := 22 } : Room)).room s m args below meth c H locs 0 0 QQ (F0 m 2 ls []) := by
    intro k9
    induction k9 with
    | zero =>
      intro i hik wl2 H locs ls hk L2_0 L2_1 L2_2 L2_3 J hl
      obtain rfl : 400 = i := by omega
      refine lv_iload_n hx hb dX1_becomeLike_2 rfl (lv_at hl 0 rfl) ?_
      refine lv_sipush (v := nI 400) hx hb dX1_becomeLike_3 (by decide) ?_
      refine lv_icmp_ge (tgt := 25) hx hb dX1_becomeLike_6 (by decide) (fun cz6 => ?_) (fun cz6 => by exact (cz6 (nI_le (Nat.le_refl _) (by omega))).elim)
      have J := J.congr qa (g := f2) L2_1 (fun j hj => cpG_end hj)
      have hk := hk.trans (zK.set (ws := wl2) (q := qa) (e := (ga, zI4 E 400 f2)) (by simp))
      have G1_0 := zset_ne (q := qa) (e' := (ga, zI4 E 400 f2)) (by omega) L2_0
      have G1_1 := zset_eq (e' := (ga, zI4 E 400 f2)) L2_1
      have G1_2 := zset_ne (q := qa) (e' := (ga, zI4 E 400 f2)) (by omega) L2_2
      have G1_3 := zset_ne (q := qa) (e' := (ga, zI4 E 400 f2)) (by omega) L2_3
      generalize hws1 : (wl2.set qa (ga, zI4 E 400 f2)) = ws_1 at J hk G1_0 G1_1 G1_2 G1_3
      subst hQ
      exact W.vret hx hb hr (fun t ht hW => ⟨⟨ws_1, rfl, ⟨hk, G1_1⟩, J.I X ht hW.alike⟩, J.F ht⟩) J.locs dX1_becomeLike_25
    | succ k9 ih_2 =>
      intro i hik wl2 H locs ls hk L2_0 L2_1 L2_2 L2_3 J hl
      refine lv_iload_n hx hb dX1_becomeLike_2 rfl (lv_at hl 0 rfl) ?_
      refine lv_sipush (v := nI 400) hx hb dX1_becomeLike_3 (by decide) ?_
      refine lv_icmp_ge (tgt := 25) hx hb dX1_becomeLike_6 (by decide) (fun cz6 => by exact (nI_ge (by omega) (by omega) cz6).elim) (fun cz6 => ?_)
      refine lv_aload_n hx hb dX1_becomeLike_9 rfl (lv_at hl 1 rfl) ?_
      refine lv_iload_n hx hb dX1_becomeLike_10 rfl (lv_at hl 0 rfl) ?_
      refine lv_aload_n hx hb dX1_becomeLike_11 rfl (lv_at hl 2 rfl) ?_
      refine lv_iload_n hx hb dX1_becomeLike_12 rfl (lv_at hl 0 rfl) ?_
      refine z_cr (z_rV (As := [.int (nI i)]) (rest := [.int (nI i), .ref g]) (ci := 2) (q0 := qo) X J (cX1_depth_ok l E L2_2 L2_3) (cwV 1 hts gX1_becomeLike_X1_depth rfl rfl rfl (by decide +kernel) ⟨Nat.le_of_ble_eq_true rfl, Nat.le_of_ble_eq_true rfl⟩) L2_2 rfl rfl rfl hl.1 rfl (Nat.le_of_ble_eq_true rfl) dX1_becomeLike_13 ⟨Nat.le_of_ble_eq_true rfl, Nat.le_of_ble_eq_true rfl⟩) (fun r13 e_r13 => ?_)
      subst e_r13
      refine z_cv J (z_rV (As := [.int (nI i), .int (gd f2 (nI i))]) (rest := []) (ci := 2) (q0 := qg) X J (cX1_put_ok l E L2_0 L2_1) (cwV 2 hts gX1_becomeLike_X1_put rfl rfl rfl (by decide +kernel) ⟨Nat.le_of_ble_eq_true rfl, Nat.le_of_ble_eq_true rfl⟩) L2_0 rfl rfl rfl hl.1 rfl (Nat.le_of_ble_eq_true rfl) dX1_becomeLike_16 ⟨Nat.le_of_ble_eq_true rfl, Nat.le_of_ble_eq_true rfl⟩) (fun ws_1 H locs hp9 J => ?_)
      obtain ⟨k1, G1_a0⟩ := hp9
      have hk := hk.trans (k1.mono (by intro q9 hq9; simp only [List.mem_cons, List.not_mem_nil, or_false] at hq9 ⊢; omega))
      have G1_0 := k1.2 qg _ (by simp only [List.mem_cons, List.not_mem_nil, or_false]; omega) L2_0
      have G1_2 := k1.2 qo _ (by simp only [List.mem_cons, List.not_mem_nil, or_false]; omega) L2_2
      have G1_3 := k1.2 qb _ (by simp only [List.mem_cons, List.not_mem_nil, or_false]; omega) L2_3
      refine lv_iinc (v := nI (i + 1)) (lv' := [(2, .int (nI (i + 1))), (0, .ref g), (1, .ref o)]) hx hb dX1_becomeLike_19 hl (k := 0) rfl (nI_1 i) (by decide) rfl (fun ls hl => ?_)
      refine lv_goto (tgt := 2) hx hb dX1_becomeLike_22 (by decide) ?_
      exact ih_2 (i + 1) (by omega) _ _ _ _ hk G1_0 (by rw [← cpG_step (show i < 400 by omega)]; exact G1_a0) G1_2 G1_3 J (lv_sub hl [0, 1, 2] rfl)
  exact loop_2 400 0 (by omega) _ _ _ _ hk Fa0 (by rw [cpG_0]; exact Fa1) Fa2 Fa3 J (lv_sub hl [0, 1, 2] rfl)
set_option maxHeartbeats 4000000 in
set_option maxRecDepth 100000 in
/-- Ground.clear -/
theorem cX1_clear_ok (l : Launch) (E : zG) {ws : va_W} {qg qa g ga : Nat} {f : Nat → Int32} {qs sp n : Nat} {fi dn : Int32} (Fa0 : ws[qg]? = some (g, .inr (2, [.ref ga]))) (Fa1 : ws[qa]? = some (ga, zI4 E 400 f)) (Fa2 : ws[qs]? = some (sp, .inr (5, [.int fi, .int (nI n), .int dn]))) (hn : n ≤ 400) : Met l yX1_clear wsX1_clear ({ frames := 1, cells := 0, slots := 0, locals := 22 } : Room) (va_Pc [.ref g, .ref sp] (zI E ws)) (va_Qv (fun (ws' : va_W) => (zK [qa] ws ws') ∧ (ws'[qa]? = some (ga, zI4 E 400 (clrG f fi dn n)))) (zI E) (zA E)) 0 0 (zA E) := by
  refine Met.ofW (cc := cX1_clear) (maxL := 3) (ret := none) (by decide) rfl ?_
  intro p e s m args below meth c s₁ B hml hv
  obtain ⟨hargs9, hI⟩ := hv
  have hx := B.exec
  have hb := B.bytes
  have hr := B.returns
  have hlocks := B.notSynchronized
  have X : zC E p m c cX1_clear 3 s args wsX1_clear RX1 := z_open B hml hI
  have hown := X.1.2.2.2.1
  have hts := X.1.2.2.2.2
  have J := hI.J
  have hi_X4 : ∀ w ∈ wsX40, w ∈ wsX1_clear := by decide +kernel
  have n0_1 : qg ≠ qa := zneK Fa0 Fa1 rfl
  have n0_2 : qg ≠ qs := zneK Fa0 Fa2 rfl
  have n1_2 : qa ≠ qs := zneK Fa1 Fa2 rfl
  have hk : zK [qa] ws ws := zK.rf
  have hl := lv_entry ([.ref g, .ref sp]) (n := 3) (Nat.le_of_ble_eq_true rfl)
  rw [show entryFrame m args 3 = entryFrame m ([.ref g, .ref sp] : List Value).toArray 3 from by rw [hargs9], lg_entry_eq]
  generalize (lg_sl ([.ref g, .ref sp]) ++ List.replicate (3 - (lg_sl ([.ref g, .ref sp])).length) Slot.unset).toArray = ls at hl ⊢
  have hl : lv_has ls 3 [(0, .ref g), (1, .ref sp)] := hl
  generalize hQ : (MQ below (va_Qv (fun (ws' : va_W) => (zK [qa] ws ws') ∧ (ws'[qa]? = some (ga, zI4 E 400 (clrG f fi dn n)))) (zI E) (zA E)) args s 0 0 (zA E)) = QQ
  refine lv_iconst (v := nI 0) hx hb dX1_clear_0 rfl ?_
  refine lv_istore_n (lv' := [(2, .int (nI 0)), (0, .ref g), (1, .ref sp)]) hx hb dX1_clear_1 rfl hl (by decide) rfl (fun ls hl => ?_)
  have loop_2 : ∀ (k9 i : Nat), i + k9 = n → ∀ (wl2 : va_W) (H : Heap) (locs : List Loc) (ls : Array Slot), zK [qa] ws wl2 → wl2[qg]? = some (g, .inr (2, [.ref ga])) → wl2[qa]? = some (ga, zI4 E 400 (clrG f fi dn i)) → wl2[qs]? = some (sp, .inr (5, [.int fi, .int (nI n), .int dn])) → zJ E wl2 s H locs → lv_has ls 3 [(2, .int (nI i)), (0, .ref g), (1, .ref sp)] → W p l e (headSpec wsX1_clear ({ frames := 1, cells := 0, slots := 0, locals := 22 } : Room)).room s m args below meth c H locs 0 0 QQ (F0 m 2 ls []) := by
    intro k9
    induction k9 with
    | zero =>
      intro i hik wl2 H locs ls hk L2_0 L2_1 L2_2 J hl
      obtain rfl : n = i := by omega
      refine lv_iload_n hx hb dX1_clear_2 rfl (lv_at hl 0 rfl) ?_
      refine lv_aload_n hx hb dX1_clear_3 rfl (lv_at hl 2 rfl) ?_
      refine z_get (C := RX4) (T := TX4) (N := 3) (ci := 5) (v := .int (nI n)) X J hi_X4 qs L2_2 rfl 1 (by decide) (by decide +kernel) rfl dX1_clear_4 ?_
      refine lv_icmp_ge (tgt := 26) hx hb dX1_clear_7 (by decide) (fun cz7 => ?_) (fun cz7 => by exact (cz7 (nI_le (Nat.le_refl _) (by omega))).elim)
      subst hQ
      exact W.vret hx hb hr (fun t ht hW => ⟨⟨wl2, rfl, ⟨hk, L2_1⟩, J.I X ht hW.alike⟩, J.F ht⟩) J.locs dX1_clear_26
    | succ k9 ih_2 =>
      intro i hik wl2 H locs ls hk L2_0 L2_1 L2_2 J hl
      refine lv_iload_n hx hb dX1_clear_2 rfl (lv_at hl 0 rfl) ?_
      refine lv_aload_n hx hb dX1_clear_3 rfl (lv_at hl 2 rfl) ?_
      refine z_get (C := RX4) (T := TX4) (N := 3) (ci := 5) (v := .int (nI n)) X J hi_X4 qs L2_2 rfl 1 (by decide) (by decide +kernel) rfl dX1_clear_4 ?_
      refine lv_icmp_ge (tgt := 26) hx hb dX1_clear_7 (by decide) (fun cz7 => by exact (nI_ge (by omega) (by omega) cz7).elim) (fun cz7 => ?_)
      refine lv_aload_n hx hb dX1_clear_10 rfl (lv_at hl 1 rfl) ?_
      refine lv_aload_n hx hb dX1_clear_11 rfl (lv_at hl 2 rfl) ?_
      refine lv_iload_n hx hb dX1_clear_12 rfl (lv_at hl 0 rfl) ?_
      refine z_cr (z_rV (As := [.int (nI i)]) (rest := [.ref g]) (ci := 5) (q0 := qs) X J (cX4_cell_ok l E L2_2) (cwV 1 hts gX1_clear_X4_cell rfl rfl rfl (by decide +kernel) ⟨Nat.le_of_ble_eq_true rfl, Nat.le_of_ble_eq_true rfl⟩) L2_2 rfl rfl rfl hl.1 rfl (Nat.le_of_ble_eq_true rfl) dX1_clear_13 ⟨Nat.le_of_ble_eq_true rfl, Nat.le_of_ble_eq_true rfl⟩) (fun r13 e_r13 => ?_)
      subst e_r13
      refine lv_iconst (v := 0) hx hb dX1_clear_16 (by decide) ?_
      refine z_cv J (z_rV (As := [.int (fi + (nI i) * stp dn), .int 0]) (rest := []) (ci := 2) (q0 := qg) X J (cX1_put_ok l E L2_0 L2_1) (cwV 2 hts gX1_clear_X1_put rfl rfl rfl (by decide +kernel) ⟨Nat.le_of_ble_eq_true rfl, Nat.le_of_ble_eq_true rfl⟩) L2_0 rfl rfl rfl hl.1 rfl (Nat.le_of_ble_eq_true rfl) dX1_clear_17 ⟨Nat.le_of_ble_eq_true rfl, Nat.le_of_ble_eq_true rfl⟩) (fun ws_1 H locs hp9 J => ?_)
      obtain ⟨k1, G1_a0⟩ := hp9
      have hk := hk.trans (k1.mono (by intro q9 hq9; simp only [List.mem_cons, List.not_mem_nil, or_false] at hq9 ⊢; omega))
      have G1_0 := k1.2 qg _ (by simp only [List.mem_cons, List.not_mem_nil, or_false]; omega) L2_0
      have G1_2 := k1.2 qs _ (by simp only [List.mem_cons, List.not_mem_nil, or_false]; omega) L2_2
      refine lv_iinc (v := nI (i + 1)) (lv' := [(2, .int (nI (i + 1))), (0, .ref g), (1, .ref sp)]) hx hb dX1_clear_20 hl (k := 0) rfl (nI_1 i) (by decide) rfl (fun ls hl => ?_)
      refine lv_goto (tgt := 2) hx hb dX1_clear_23 (by decide) ?_
      exact ih_2 (i + 1) (by omega) _ _ _ _ hk G1_0 G1_a0 G1_2 J (lv_sub hl [0, 1, 2] rfl)
  exact loop_2 n 0 (by omega) _ _ _ _ hk Fa0 Fa1 Fa2 J (lv_sub hl [0, 1, 2] rfl)
set_option maxHeartbeats 4000000 in
set_option maxRecDepth 100000 in
/-- Ground.sum -/
theorem cX1_sum_ok (l : Launch) (E : zG) {ws : va_W} {qg qa g ga : Nat} {f : Nat → Int32} {qs sp n : Nat} {fi dn : Int32} (Fa0 : ws[qg]? = some (g, .inr (2, [.ref ga]))) (Fa1 : ws[qa]? = some (ga, zI4 E 400 f)) (Fa2 : ws[qs]? = some (sp, .inr (5, [.int fi, .int (nI n), .int dn]))) (hn : n ≤ 400) : Met l yX1_sum wsX1_sum ({ frames := 1, cells := 0, slots := 0, locals := 21 } : Room) (va_Pc [.ref g, .ref sp] (zI E ws)) (vp_Si (fun r : Int32 => r = sumG f fi dn n)) 0 0 (fun _ => False) := by
  refine Met.ofW (cc := cX1_sum) (maxL := 4) (ret := (some .int)) (by decide) rfl ?_
  intro p e s m args below meth c s₁ B hml hv
  obtain ⟨hargs9, hI⟩ := hv
  have hx := B.exec
  have hb := B.bytes
  have hr := B.returns
  have hlocks := B.notSynchronized
  have X : zC E p m c cX1_sum 4 s args wsX1_sum RX1 := z_open B hml hI
  have hown := X.1.2.2.2.1
  have hts := X.1.2.2.2.2
  have J := hI.J
  have hi_X4 : ∀ w ∈ wsX40, w ∈ wsX1_sum := by decide +kernel
  have n0_1 : qg ≠ qa := zneK Fa0 Fa1 rfl
  have n0_2 : qg ≠ qs := zneK Fa0 Fa2 rfl
  have n1_2 : qa ≠ qs := zneK Fa1 Fa2 rfl
  have hl := lv_entry ([.ref g, .ref sp]) (n := 4) (Nat.le_of_ble_eq_true rfl)
  rw [show entryFrame m args 4 = entryFrame m ([.ref g, .ref sp] : List Value).toArray 4 from by rw [hargs9], lg_entry_eq]
  generalize (lg_sl ([.ref g, .ref sp]) ++ List.replicate (4 - (lg_sl ([.ref g, .ref sp])).length) Slot.unset).toArray = ls at hl ⊢
  have hl : lv_has ls 4 [(0, .ref g), (1, .ref sp)] := hl
  generalize hQ : (MQ below (vp_Si (fun r : Int32 => r = sumG f fi dn n)) args s 0 0 (fun _ => False)) = QQ
  refine lv_iconst (v := sumG f fi dn 0) hx hb dX1_sum_0 rfl ?_
  refine lv_istore_n (lv' := [(2, .int (sumG f fi dn 0)), (0, .ref g), (1, .ref sp)]) hx hb dX1_sum_1 rfl hl (by decide) rfl (fun ls hl => ?_)
  refine lv_iconst (v := nI 0) hx hb dX1_sum_2 rfl ?_
  refine lv_istore_n (lv' := [(3, .int (nI 0)), (2, .int (sumG f fi dn 0)), (0, .ref g), (1, .ref sp)]) hx hb dX1_sum_3 rfl hl (by decide) rfl (fun ls hl => ?_)
  have loop_4 : ∀ (k9 i : Nat), i + k9 = n → ∀ (ls : Array Slot), lv_has ls 4 [(3, .int (nI i)), (2, .int (sumG f fi dn i)), (0, .ref g), (1, .ref sp)] → W p l e (headSpec wsX1_sum ({ frames := 1, cells := 0, slots := 0, locals := 21 } : Room)).room s m args below meth c s.heap [] 0 0 QQ (F0 m 4 ls []) := by
    intro k9
    induction k9 with
    | zero =>
      intro i hik ls hl
      obtain rfl : n = i := by omega
      refine lv_iload_n hx hb dX1_sum_4 rfl (lv_at hl 0 rfl) ?_
      refine lv_aload_n hx hb dX1_sum_5 rfl (lv_at hl 3 rfl) ?_
      refine z_get (C := RX4) (T := TX4) (N := 3) (ci := 5) (v := .int (nI n)) X J hi_X4 qs Fa2 rfl 1 (by decide) (by decide +kernel) rfl dX1_sum_6 ?_
      refine lv_icmp_ge (tgt := 30) hx hb dX1_sum_9 (by decide) (fun cz9 => ?_) (fun cz9 => by exact (cz9 (nI_le (Nat.le_refl _) (by omega))).elim)
      refine lv_iload_n hx hb dX1_sum_30 rfl (lv_at hl 1 rfl) ?_
      subst hQ
      exact W.iret (v := sumG f fi dn n) hx hb hr (fun t ht hW => ⟨sumG f fi dn n, rfl, rfl, ht⟩) (fun q hq => absurd hq List.not_mem_nil) dX1_sum_31
    | succ k9 ih_4 =>
      intro i hik ls hl
      refine lv_iload_n hx hb dX1_sum_4 rfl (lv_at hl 0 rfl) ?_
      refine lv_aload_n hx hb dX1_sum_5 rfl (lv_at hl 3 rfl) ?_
      refine z_get (C := RX4) (T := TX4) (N := 3) (ci := 5) (v := .int (nI n)) X J hi_X4 qs Fa2 rfl 1 (by decide) (by decide +kernel) rfl dX1_sum_6 ?_
      refine lv_icmp_ge (tgt := 30) hx hb dX1_sum_9 (by decide) (fun cz9 => by exact (nI_ge (by omega) (by omega) cz9).elim) (fun cz9 => ?_)
      refine lv_iload_n hx hb dX1_sum_12 rfl (lv_at hl 1 rfl) ?_
      refine lv_aload_n hx hb dX1_sum_13 rfl (lv_at hl 2 rfl) ?_
      refine lv_aload_n hx hb dX1_sum_14 rfl (lv_at hl 3 rfl) ?_
      refine lv_iload_n hx hb dX1_sum_15 rfl (lv_at hl 0 rfl) ?_
      refine z_cr (z_rV (As := [.int (nI i)]) (rest := [.ref g, .int (sumG f fi dn i)]) (ci := 5) (q0 := qs) X J (cX4_cell_ok l E Fa2) (cwV 1 hts gX1_sum_X4_cell rfl rfl rfl (by decide +kernel) ⟨Nat.le_of_ble_eq_true rfl, Nat.le_of_ble_eq_true rfl⟩) Fa2 rfl rfl rfl hl.1 rfl (Nat.le_of_ble_eq_true rfl) dX1_sum_16 ⟨Nat.le_of_ble_eq_true rfl, Nat.le_of_ble_eq_true rfl⟩) (fun r16 e_r16 => ?_)
      subst e_r16
      refine z_cr (z_rV (As := [.int (fi + (nI i) * stp dn)]) (rest := [.int (sumG f fi dn i)]) (ci := 2) (q0 := qg) X J (cX1_depth_ok l E Fa0 Fa1) (cwV 1 hts gX1_sum_X1_depth rfl rfl rfl (by decide +kernel) ⟨Nat.le_of_ble_eq_true rfl, Nat.le_of_ble_eq_true rfl⟩) Fa0 rfl rfl rfl hl.1 rfl (Nat.le_of_ble_eq_true rfl) dX1_sum_19 ⟨Nat.le_of_ble_eq_true rfl, Nat.le_of_ble_eq_true rfl⟩) (fun r19 e_r19 => ?_)
      subst e_r19
      refine lv_iadd hx hb dX1_sum_22 ?_
      refine lv_istore_n (lv' := [(2, .int ((sumG f fi dn i) + (gd f (fi + (nI i) * stp dn)))), (3, .int (nI i)), (0, .ref g), (1, .ref sp)]) hx hb dX1_sum_23 rfl hl (by decide) rfl (fun ls hl => ?_)
      refine lv_iinc (v := nI (i + 1)) (lv' := [(3, .int (nI (i + 1))), (2, .int ((sumG f fi dn i) + (gd f (fi + (nI i) * stp dn)))), (0, .ref g), (1, .ref sp)]) hx hb dX1_sum_24 hl (k := 1) rfl (nI_1 i) (by decide) rfl (fun ls hl => ?_)
      refine lv_goto (tgt := 4) hx hb dX1_sum_27 (by decide) ?_
      exact ih_4 (i + 1) (by omega) _ (lv_sub hl [0, 1, 2, 3] rfl)
  exact loop_4 n 0 (by omega) _ (lv_sub hl [0, 1, 2, 3] rfl)
set_option maxHeartbeats 4000000 in
set_option maxRecDepth 100000 in
/-- Ground.most -/
theorem cX1_most_ok (l : Launch) (E : zG) {ws : va_W} {qg qa g ga : Nat} {f : Nat → Int32} {qs sp n : Nat} {fi dn : Int32} (Fa0 : ws[qg]? = some (g, .inr (2, [.ref ga]))) (Fa1 : ws[qa]? = some (ga, zI4 E 400 f)) (Fa2 : ws[qs]? = some (sp, .inr (5, [.int fi, .int (nI n), .int dn]))) (hn : n ≤ 400) : Met l yX1_most wsX1_most ({ frames := 1, cells := 0, slots := 0, locals := 21 } : Room) (va_Pc [.ref g, .ref sp] (zI E ws)) (vp_Si (fun r : Int32 => r = mostG f fi dn n)) 0 0 (fun _ => False) := by
  refine Met.ofW (cc := cX1_most) (maxL := 4) (ret := (some .int)) (by decide) rfl ?_
  intro p e s m args below meth c s₁ B hml hv
  obtain ⟨hargs9, hI⟩ := hv
  have hx := B.exec
  have hb := B.bytes
  have hr := B.returns
  have hlocks := B.notSynchronized
  have X : zC E p m c cX1_most 4 s args wsX1_most RX1 := z_open B hml hI
  have hown := X.1.2.2.2.1
  have hts := X.1.2.2.2.2
  have J := hI.J
  have hi_X4 : ∀ w ∈ wsX40, w ∈ wsX1_most := by decide +kernel
  have n0_1 : qg ≠ qa := zneK Fa0 Fa1 rfl
  have n0_2 : qg ≠ qs := zneK Fa0 Fa2 rfl
  have n1_2 : qa ≠ qs := zneK Fa1 Fa2 rfl
  have hl := lv_entry ([.ref g, .ref sp]) (n := 4) (Nat.le_of_ble_eq_true rfl)
  rw [show entryFrame m args 4 = entryFrame m ([.ref g, .ref sp] : List Value).toArray 4 from by rw [hargs9], lg_entry_eq]
  generalize (lg_sl ([.ref g, .ref sp]) ++ List.replicate (4 - (lg_sl ([.ref g, .ref sp])).length) Slot.unset).toArray = ls at hl ⊢
  have hl : lv_has ls 4 [(0, .ref g), (1, .ref sp)] := hl
  generalize hQ : (MQ below (vp_Si (fun r : Int32 => r = mostG f fi dn n)) args s 0 0 (fun _ => False)) = QQ
  refine lv_iconst (v := mostG f fi dn 0) hx hb dX1_most_0 rfl ?_
  refine lv_istore_n (lv' := [(2, .int (mostG f fi dn 0)), (0, .ref g), (1, .ref sp)]) hx hb dX1_most_1 rfl hl (by decide) rfl (fun ls hl => ?_)
  refine lv_iconst (v := nI 0) hx hb dX1_most_2 rfl ?_
  refine lv_istore_n (lv' := [(3, .int (nI 0)), (2, .int (mostG f fi dn 0)), (0, .ref g), (1, .ref sp)]) hx hb dX1_most_3 rfl hl (by decide) rfl (fun ls hl => ?_)
  have loop_4 : ∀ (k9 i : Nat), i + k9 = n → ∀ (ls : Array Slot), lv_has ls 4 [(3, .int (nI i)), (2, .int (mostG f fi dn i)), (0, .ref g), (1, .ref sp)] → W p l e (headSpec wsX1_most ({ frames := 1, cells := 0, slots := 0, locals := 21 } : Room)).room s m args below meth c s.heap [] 0 0 QQ (F0 m 4 ls []) := by
    intro k9
    induction k9 with
    | zero =>
      intro i hik ls hl
      obtain rfl : n = i := by omega
      refine lv_iload_n hx hb dX1_most_4 rfl (lv_at hl 0 rfl) ?_
      refine lv_aload_n hx hb dX1_most_5 rfl (lv_at hl 3 rfl) ?_
      refine z_get (C := RX4) (T := TX4) (N := 3) (ci := 5) (v := .int (nI n)) X J hi_X4 qs Fa2 rfl 1 (by decide) (by decide +kernel) rfl dX1_most_6 ?_
      refine lv_icmp_ge (tgt := 32) hx hb dX1_most_9 (by decide) (fun cz9 => ?_) (fun cz9 => by exact (cz9 (nI_le (Nat.le_refl _) (by omega))).elim)
      refine lv_iload_n hx hb dX1_most_32 rfl (lv_at hl 1 rfl) ?_
      subst hQ
      exact W.iret (v := mostG f fi dn n) hx hb hr (fun t ht hW => ⟨mostG f fi dn n, rfl, rfl, ht⟩) (fun q hq => absurd hq List.not_mem_nil) dX1_most_33
    | succ k9 ih_4 =>
      intro i hik ls hl
      refine lv_iload_n hx hb dX1_most_4 rfl (lv_at hl 0 rfl) ?_
      refine lv_aload_n hx hb dX1_most_5 rfl (lv_at hl 3 rfl) ?_
      refine z_get (C := RX4) (T := TX4) (N := 3) (ci := 5) (v := .int (nI n)) X J hi_X4 qs Fa2 rfl 1 (by decide) (by decide +kernel) rfl dX1_most_6 ?_
      refine lv_icmp_ge (tgt := 32) hx hb dX1_most_9 (by decide) (fun cz9 => by exact (nI_ge (by omega) (by omega) cz9).elim) (fun cz9 => ?_)
      refine lv_iload_n hx hb dX1_most_12 rfl (lv_at hl 1 rfl) ?_
      refine lv_aload_n hx hb dX1_most_13 rfl (lv_at hl 2 rfl) ?_
      refine lv_aload_n hx hb dX1_most_14 rfl (lv_at hl 3 rfl) ?_
      refine lv_iload_n hx hb dX1_most_15 rfl (lv_at hl 0 rfl) ?_
      refine z_cr (z_rV (As := [.int (nI i)]) (rest := [.ref g, .int (mostG f fi dn i)]) (ci := 5) (q0 := qs) X J (cX4_cell_ok l E Fa2) (cwV 1 hts gX1_most_X4_cell rfl rfl rfl (by decide +kernel) ⟨Nat.le_of_ble_eq_true rfl, Nat.le_of_ble_eq_true rfl⟩) Fa2 rfl rfl rfl hl.1 rfl (Nat.le_of_ble_eq_true rfl) dX1_most_16 ⟨Nat.le_of_ble_eq_true rfl, Nat.le_of_ble_eq_true rfl⟩) (fun r16 e_r16 => ?_)
      subst e_r16
      refine z_cr (z_rV (As := [.int (fi + (nI i) * stp dn)]) (rest := [.int (mostG f fi dn i)]) (ci := 2) (q0 := qg) X J (cX1_depth_ok l E Fa0 Fa1) (cwV 1 hts gX1_most_X1_depth rfl rfl rfl (by decide +kernel) ⟨Nat.le_of_ble_eq_true rfl, Nat.le_of_ble_eq_true rfl⟩) Fa0 rfl rfl rfl hl.1 rfl (Nat.le_of_ble_eq_true rfl) dX1_most_19 ⟨Nat.le_of_ble_eq_true rfl, Nat.le_of_ble_eq_true rfl⟩) (fun r19 e_r19 => ?_)
      subst e_r19
      refine va_mmax hx hb (X.1.2.2.1.trans hl.1.symm) hown (hts (.methodLink RX1 32 Lib.Math.max.name) (by decide +kernel)) (hts (.static Lib.Math.max.name) (by decide +kernel)) (hts (.initialized "java/lang/Math") (by decide +kernel)) (hts (.code Lib.Math.max.name Lib.Math.max.code 2 (some .int)) (by decide +kernel)) (Nat.le_of_ble_eq_true rfl) (Nat.le_of_ble_eq_true rfl) (Nat.le_of_ble_eq_true rfl) (Nat.le_of_ble_eq_true rfl) dX1_most_22 ?_
      refine W.eq (g2 := F0 m 25 ls [.int (mx (mostG f fi dn i) (gd f (fi + (nI i) * stp dn)))]) rfl ?_
      refine lv_istore_n (lv' := [(2, .int (mx (mostG f fi dn i) (gd f (fi + (nI i) * stp dn)))), (3, .int (nI i)), (0, .ref g), (1, .ref sp)]) hx hb dX1_most_25 rfl hl (by decide) rfl (fun ls hl => ?_)
      refine lv_iinc (v := nI (i + 1)) (lv' := [(3, .int (nI (i + 1))), (2, .int (mx (mostG f fi dn i) (gd f (fi + (nI i) * stp dn)))), (0, .ref g), (1, .ref sp)]) hx hb dX1_most_26 hl (k := 1) rfl (nI_1 i) (by decide) rfl (fun ls hl => ?_)
      refine lv_goto (tgt := 4) hx hb dX1_most_29 (by decide) ?_
      exact ih_4 (i + 1) (by omega) _ (lv_sub hl [0, 1, 2, 3] rfl)
  exact loop_4 n 0 (by omega) _ (lv_sub hl [0, 1, 2, 3] rfl)
set_option maxHeartbeats 4000000 in
set_option maxRecDepth 100000 in
/-- Ground.blocked -/
theorem cX1_blocked_ok (l : Launch) (E : zG) {ws : va_W} {qg qa g ga : Nat} {f : Nat → Int32} {qs sp n : Nat} {fi dn : Int32} {lim : Int32} (Fa0 : ws[qg]? = some (g, .inr (2, [.ref ga]))) (Fa1 : ws[qa]? = some (ga, zI4 E 400 f)) (Fa2 : ws[qs]? = some (sp, .inr (5, [.int fi, .int (nI n), .int dn]))) (hn : n ≤ 400) : Met l yX1_blocked wsX1_blocked ({ frames := 1, cells := 0, slots := 0, locals := 21 } : Room) (va_Pc [.ref g, .ref sp, .int lim] (zI E ws)) (vp_Si (fun r : Int32 => r = blkG f fi dn lim n)) 0 0 (fun _ => False) := by
  refine Met.ofW (cc := cX1_blocked) (maxL := 5) (ret := (some .int)) (by decide) rfl ?_
  intro p e s m args below meth c s₁ B hml hv
  obtain ⟨hargs9, hI⟩ := hv
  have hx := B.exec
  have hb := B.bytes
  have hr := B.returns
  have hlocks := B.notSynchronized
  have X : zC E p m c cX1_blocked 5 s args wsX1_blocked RX1 := z_open B hml hI
  have hown := X.1.2.2.2.1
  have hts := X.1.2.2.2.2
  have J := hI.J
  have hi_X4 : ∀ w ∈ wsX40, w ∈ wsX1_blocked := by decide +kernel
  have n0_1 : qg ≠ qa := zneK Fa0 Fa1 rfl
  have n0_2 : qg ≠ qs := zneK Fa0 Fa2 rfl
  have n1_2 : qa ≠ qs := zneK Fa1 Fa2 rfl
  have hl := lv_entry ([.ref g, .ref sp, .int lim]) (n := 5) (Nat.le_of_ble_eq_true rfl)
  rw [show entryFrame m args 5 = entryFrame m ([.ref g, .ref sp, .int lim] : List Value).toArray 5 from by rw [hargs9], lg_entry_eq]
  generalize (lg_sl ([.ref g, .ref sp, .int lim]) ++ List.replicate (5 - (lg_sl ([.ref g, .ref sp, .int lim])).length) Slot.unset).toArray = ls at hl ⊢
  have hl : lv_has ls 5 [(0, .ref g), (1, .ref sp), (2, .int lim)] := hl
  generalize hQ : (MQ below (vp_Si (fun r : Int32 => r = blkG f fi dn lim n)) args s 0 0 (fun _ => False)) = QQ
  refine lv_iconst (v := blkG f fi dn lim 0) hx hb dX1_blocked_0 rfl ?_
  refine lv_istore_n (lv' := [(3, .int (blkG f fi dn lim 0)), (0, .ref g), (1, .ref sp), (2, .int lim)]) hx hb dX1_blocked_1 rfl hl (by decide) rfl (fun ls hl => ?_)
  refine lv_iconst (v := nI 0) hx hb dX1_blocked_2 rfl ?_
  refine lv_istore (lv' := [(4, .int (nI 0)), (3, .int (blkG f fi dn lim 0)), (0, .ref g), (1, .ref sp), (2, .int lim)]) hx hb dX1_blocked_3 hl (by decide) rfl (fun ls hl => ?_)
  have loop_5 : ∀ (k9 i : Nat), i + k9 = n → ∀ (ls : Array Slot), lv_has ls 5 [(4, .int (nI i)), (3, .int (blkG f fi dn lim i)), (0, .ref g), (1, .ref sp), (2, .int lim)] → W p l e (headSpec wsX1_blocked ({ frames := 1, cells := 0, slots := 0, locals := 21 } : Room)).room s m args below meth c s.heap [] 0 0 QQ (F0 m 5 ls []) := by
    intro k9
    induction k9 with
    | zero =>
      intro i hik ls hl
      obtain rfl : n = i := by omega
      refine lv_iload hx hb dX1_blocked_5 (lv_at hl 0 rfl) ?_
      refine lv_aload_n hx hb dX1_blocked_7 rfl (lv_at hl 3 rfl) ?_
      refine z_get (C := RX4) (T := TX4) (N := 3) (ci := 5) (v := .int (nI n)) X J hi_X4 qs Fa2 rfl 1 (by decide) (by decide +kernel) rfl dX1_blocked_8 ?_
      refine lv_icmp_ge (tgt := 37) hx hb dX1_blocked_11 (by decide) (fun cz11 => ?_) (fun cz11 => by exact (cz11 (nI_le (Nat.le_refl _) (by omega))).elim)
      refine lv_iload_n hx hb dX1_blocked_37 rfl (lv_at hl 1 rfl) ?_
      subst hQ
      exact W.iret (v := blkG f fi dn lim n) hx hb hr (fun t ht hW => ⟨blkG f fi dn lim n, rfl, rfl, ht⟩) (fun q hq => absurd hq List.not_mem_nil) dX1_blocked_38
    | succ k9 ih_5 =>
      intro i hik ls hl
      refine lv_iload hx hb dX1_blocked_5 (lv_at hl 0 rfl) ?_
      refine lv_aload_n hx hb dX1_blocked_7 rfl (lv_at hl 3 rfl) ?_
      refine z_get (C := RX4) (T := TX4) (N := 3) (ci := 5) (v := .int (nI n)) X J hi_X4 qs Fa2 rfl 1 (by decide) (by decide +kernel) rfl dX1_blocked_8 ?_
      refine lv_icmp_ge (tgt := 37) hx hb dX1_blocked_11 (by decide) (fun cz11 => by exact (nI_ge (by omega) (by omega) cz11).elim) (fun cz11 => ?_)
      refine lv_aload_n hx hb dX1_blocked_14 rfl (lv_at hl 2 rfl) ?_
      refine lv_aload_n hx hb dX1_blocked_15 rfl (lv_at hl 3 rfl) ?_
      refine lv_iload hx hb dX1_blocked_16 (lv_at hl 0 rfl) ?_
      refine z_cr (z_rV (As := [.int (nI i)]) (rest := [.ref g]) (ci := 5) (q0 := qs) X J (cX4_cell_ok l E Fa2) (cwV 1 hts gX1_blocked_X4_cell rfl rfl rfl (by decide +kernel) ⟨Nat.le_of_ble_eq_true rfl, Nat.le_of_ble_eq_true rfl⟩) Fa2 rfl rfl rfl hl.1 rfl (Nat.le_of_ble_eq_true rfl) dX1_blocked_18 ⟨Nat.le_of_ble_eq_true rfl, Nat.le_of_ble_eq_true rfl⟩) (fun r18 e_r18 => ?_)
      subst e_r18
      refine z_cr (z_rV (As := [.int (fi + (nI i) * stp dn)]) (rest := []) (ci := 2) (q0 := qg) X J (cX1_depth_ok l E Fa0 Fa1) (cwV 1 hts gX1_blocked_X1_depth rfl rfl rfl (by decide +kernel) ⟨Nat.le_of_ble_eq_true rfl, Nat.le_of_ble_eq_true rfl⟩) Fa0 rfl rfl rfl hl.1 rfl (Nat.le_of_ble_eq_true rfl) dX1_blocked_21 ⟨Nat.le_of_ble_eq_true rfl, Nat.le_of_ble_eq_true rfl⟩) (fun r21 e_r21 => ?_)
      subst e_r21
      refine lv_iload_n hx hb dX1_blocked_24 rfl (lv_at hl 4 rfl) ?_
      refine lv_icmp_lt (tgt := 31) hx hb dX1_blocked_25 (by decide) (fun cz25 => ?_) (fun cz25 => ?_)
      · refine lv_iinc (v := nI (i + 1)) (lv' := [(4, .int (nI (i + 1))), (3, .int (blkG f fi dn lim i)), (0, .ref g), (1, .ref sp), (2, .int lim)]) hx hb dX1_blocked_31 hl (k := 0) rfl (nI_1 i) (by decide) rfl (fun ls hl => ?_)
        refine lv_goto (tgt := 5) hx hb dX1_blocked_34 (by decide) ?_
        rw [show blkG f fi dn lim i = blkG f fi dn lim (i + 1) from (if_pos cz25).symm] at hl
        exact ih_5 (i + 1) (by omega) _ (lv_sub hl [0, 1, 2, 3, 4] rfl)
      · refine lv_iinc (v := blkG f fi dn lim i + 1) (lv' := [(3, .int (blkG f fi dn lim i + 1)), (4, .int (nI i)), (0, .ref g), (1, .ref sp), (2, .int lim)]) hx hb dX1_blocked_28 hl (k := 1) rfl rfl (by decide) rfl (fun ls hl => ?_)
        refine lv_iinc (v := nI (i + 1)) (lv' := [(4, .int (nI (i + 1))), (3, .int (blkG f fi dn lim i + 1)), (0, .ref g), (1, .ref sp), (2, .int lim)]) hx hb dX1_blocked_31 hl (k := 1) rfl (nI_1 i) (by decide) rfl (fun ls hl => ?_)
        refine lv_goto (tgt := 5) hx hb dX1_blocked_34 (by decide) ?_
        rw [show blkG f fi dn lim i + 1 = blkG f fi dn lim (i + 1) from (if_neg cz25).symm] at hl
        exact ih_5 (i + 1) (by omega) _ (lv_sub hl [0, 1, 2, 3, 4] rfl)
  exact loop_5 n 0 (by omega) _ (lv_sub hl [0, 1, 2, 3, 4] rfl)
set_option maxHeartbeats 4000000 in
set_option maxRecDepth 100000 in
/-- Ground() -/
theorem cX1_init_ok (l : Launch) (E : zG) {ws : va_W} {qg g : Nat} (Fa0 : ws[qg]? = some (g, .inr (2, [.null])))  : Met l yX1_init wsX1_init ({ frames := 1, cells := 1, slots := 400, locals := 12 } : Room) (va_Pc [.ref g] (zI E ws)) (va_Qv (fun (ws' : va_W) => (zK [qg] ws ws') ∧ (∃ ga : Nat, ws'.length = ws.length + 1 ∧ (ws'[qg]? = some (g, .inr (2, [.ref ga]))) ∧ (ws'[(ws.length + 0)]? = some (ga, zI4 E 400 (fun _ => 0))))) (zI E) (zA E)) 1 400 (zA E) := by
  refine Met.ofW (cc := cX1_init) (maxL := 1) (ret := none) (by decide) rfl ?_
  intro p e s m args below meth c s₁ B hml hv
  obtain ⟨hargs9, hI⟩ := hv
  have hx := B.exec
  have hb := B.bytes
  have hr := B.returns
  have hlocks := B.notSynchronized
  have X : zC E p m c cX1_init 1 s args wsX1_init RX1 := z_open B hml hI
  have hin9 : meth.name = "<init>" := (name_of_methodNamed B.named B.method).1
  have hown := X.1.2.2.2.1
  have hts := X.1.2.2.2.2
  have J := hI.J
  have hi_X1 : ∀ w ∈ wsX10, w ∈ wsX1_init := by decide +kernel
  have hk : zK [qg] ws ws := zK.rf
  have hlen : ws.length = ws.length + 0 := rfl
  have bFa0 := zlt Fa0
  have hl := lv_entry ([.ref g]) (n := 1) (Nat.le_of_ble_eq_true rfl)
  rw [show entryFrame m args 1 = entryFrame m ([.ref g] : List Value).toArray 1 from by rw [hargs9], lg_entry_eq]
  generalize (lg_sl ([.ref g]) ++ List.replicate (1 - (lg_sl ([.ref g])).length) Slot.unset).toArray = ls at hl ⊢
  have hl : lv_has ls 1 [(0, .ref g)] := hl
  generalize hQ : (MQ below (va_Qv (fun (ws' : va_W) => (zK [qg] ws ws') ∧ (∃ ga : Nat, ws'.length = ws.length + 1 ∧ (ws'[qg]? = some (g, .inr (2, [.ref ga]))) ∧ (ws'[(ws.length + 0)]? = some (ga, zI4 E 400 (fun _ => 0))))) (zI E) (zA E)) args s 1 400 (zA E)) = QQ
  refine lv_aload_n hx hb dX1_init_0 rfl (lv_at hl 0 rfl) ?_
  refine W.objInit hx hb hown (hts (.methodLink RX1 3 objectInit) (by decide +kernel)) (hts (.instanceMethod objectInit) (by decide +kernel)) (hts (.code objectInit ⟨#[0xb1]⟩ 1 none) (by decide +kernel)) rfl (by rw [X.1.2.2.1]; exact hl.1) rfl dX1_init_1 (Nat.le_of_ble_eq_true rfl) (Nat.le_of_ble_eq_true rfl) ?_
  refine W.eq (g2 := F0 m 4 ls []) rfl ?_
  refine lv_aload_n hx hb dX1_init_4 rfl (lv_at hl 0 rfl) ?_
  refine lv_sipush (v := 400) hx hb dX1_init_5 (by decide) ?_
  refine z_newa (N' := 400) X J (by decide +kernel) (by decide) (by decide) (Nat.le_of_ble_eq_true rfl) (Nat.le_of_ble_eq_true rfl) (Nat.le_of_ble_eq_true rfl) dX1_init_8 (fun q8 H J => ?_)
  have lp1 := hk.1
  have hk := hk.trans (zK.app (more := [(q8, zI4 E 400 (fun _ => 0))]))
  have hpn1 := hlen
  have hlen : (ws ++ [(q8, zI4 E 400 (fun _ => 0))]).length = ws.length + 1 := by rw [List.length_append, hlen]; rfl
  have bG1_0 := zlt Fa0
  have G1_0 := zapp (x := (q8, zI4 E 400 (fun _ => 0))) Fa0
  have G1_n := zapp_new (ws := ws) (x := (q8, zI4 E 400 (fun _ => 0)))
  generalize hws1 : ws ++ [(q8, zI4 E 400 (fun _ => 0))] = ws_1 at J hk hlen G1_0 G1_n
  rw [hpn1] at lp1 G1_n bG1_0
  refine z_putF (C := RX1) (T := TX1) (N := 1) (ci := 2) (v := .ref q8) X J hi_X1 tyX1 tyX1_ok nmX1 qg G1_0 rfl 0 (by decide) (by decide +kernel) rfl hin9 rfl rfl rfl (Nat.le_of_ble_eq_true rfl) dX1_init_10 (fun H locs J => ?_)
  have J : zJ E (ws_1.set qg (g, .inr (2, [.ref q8]))) s H locs := J
  have hk := hk.trans (zK.set (ws := ws_1) (q := qg) (e := (g, .inr (2, [.ref q8]))) (by simp))
  have hlen : (ws_1.set qg (g, .inr (2, [.ref q8]))).length = ws.length + 1 := (List.length_set ..).trans hlen
  have G2_0 := zset_eq (e' := (g, .inr (2, [.ref q8]))) G1_0
  have G2_1 := zset_ne (q := qg) (e' := (g, .inr (2, [.ref q8]))) (by omega) G1_n
  generalize hws2 : (ws_1.set qg (g, .inr (2, [.ref q8]))) = ws_2 at J hlen hk G2_0 G2_1
  subst hQ
  exact W.vret hx hb hr (fun t ht hW => ⟨⟨ws_2, rfl, ⟨hk, ⟨q8, hlen, G2_0, G2_1⟩⟩, J.I X ht hW.alike⟩, J.F ht⟩) J.locs dX1_init_13
set_option maxHeartbeats 4000000 in
set_option maxRecDepth 100000 in
/-- Screens() -/
theorem cX3_init_ok (l : Launch) (E : zG) {ws : va_W} {qc sc : Nat} (Fa0 : ws[qc]? = some (sc, .inr (4, [.null, .null])))  : Met l yX3_init wsX3_init ({ frames := 1, cells := 2, slots := 800, locals := 12 } : Room) (va_Pc [.ref sc] (zI E ws)) (va_Qv (fun (ws' : va_W) => (zK [qc] ws ws') ∧ (∃ ha va : Nat, ws'.length = ws.length + 2 ∧ (ws'[qc]? = some (sc, .inr (4, [.ref ha, .ref va]))) ∧ (ws'[(ws.length + 0)]? = some (ha, zI4 E 400 (fun _ => 0))) ∧ (ws'[(ws.length + 1)]? = some (va, zI4 E 400 (fun _ => 0))))) (zI E) (zA E)) 2 800 (zA E) := by
  refine Met.ofW (cc := cX3_init) (maxL := 1) (ret := none) (by decide) rfl ?_
  intro p e s m args below meth c s₁ B hml hv
  obtain ⟨hargs9, hI⟩ := hv
  have hx := B.exec
  have hb := B.bytes
  have hr := B.returns
  have hlocks := B.notSynchronized
  have X : zC E p m c cX3_init 1 s args wsX3_init RX3 := z_open B hml hI
  have hin9 : meth.name = "<init>" := (name_of_methodNamed B.named B.method).1
  have hown := X.1.2.2.2.1
  have hts := X.1.2.2.2.2
  have J := hI.J
  have hi_X3 : ∀ w ∈ wsX30, w ∈ wsX3_init := by decide +kernel
  have hk : zK [qc] ws ws := zK.rf
  have hlen : ws.length = ws.length + 0 := rfl
  have bFa0 := zlt Fa0
  have hl := lv_entry ([.ref sc]) (n := 1) (Nat.le_of_ble_eq_true rfl)
  rw [show entryFrame m args 1 = entryFrame m ([.ref sc] : List Value).toArray 1 from by rw [hargs9], lg_entry_eq]
  generalize (lg_sl ([.ref sc]) ++ List.replicate (1 - (lg_sl ([.ref sc])).length) Slot.unset).toArray = ls at hl ⊢
  have hl : lv_has ls 1 [(0, .ref sc)] := hl
  generalize hQ : (MQ below (va_Qv (fun (ws' : va_W) => (zK [qc] ws ws') ∧ (∃ ha va : Nat, ws'.length = ws.length + 2 ∧ (ws'[qc]? = some (sc, .inr (4, [.ref ha, .ref va]))) ∧ (ws'[(ws.length + 0)]? = some (ha, zI4 E 400 (fun _ => 0))) ∧ (ws'[(ws.length + 1)]? = some (va, zI4 E 400 (fun _ => 0))))) (zI E) (zA E)) args s 2 800 (zA E)) = QQ
  refine lv_aload_n hx hb dX3_init_0 rfl (lv_at hl 0 rfl) ?_
  refine W.objInit hx hb hown (hts (.methodLink RX3 3 objectInit) (by decide +kernel)) (hts (.instanceMethod objectInit) (by decide +kernel)) (hts (.code objectInit ⟨#[0xb1]⟩ 1 none) (by decide +kernel)) rfl (by rw [X.1.2.2.1]; exact hl.1) rfl dX3_init_1 (Nat.le_of_ble_eq_true rfl) (Nat.le_of_ble_eq_true rfl) ?_
  refine W.eq (g2 := F0 m 4 ls []) rfl ?_
  refine lv_aload_n hx hb dX3_init_4 rfl (lv_at hl 0 rfl) ?_
  refine lv_sipush (v := 400) hx hb dX3_init_5 (by decide) ?_
  refine z_newa (N' := 400) X J (by decide +kernel) (by decide) (by decide) (Nat.le_of_ble_eq_true rfl) (Nat.le_of_ble_eq_true rfl) (Nat.le_of_ble_eq_true rfl) dX3_init_8 (fun q8 H J => ?_)
  have lp1 := hk.1
  have hk := hk.trans (zK.app (more := [(q8, zI4 E 400 (fun _ => 0))]))
  have hpn1 := hlen
  have hlen : (ws ++ [(q8, zI4 E 400 (fun _ => 0))]).length = ws.length + 1 := by rw [List.length_append, hlen]; rfl
  have bG1_0 := zlt Fa0
  have G1_0 := zapp (x := (q8, zI4 E 400 (fun _ => 0))) Fa0
  have G1_n := zapp_new (ws := ws) (x := (q8, zI4 E 400 (fun _ => 0)))
  generalize hws1 : ws ++ [(q8, zI4 E 400 (fun _ => 0))] = ws_1 at J hk hlen G1_0 G1_n
  rw [hpn1] at lp1 G1_n bG1_0
  refine z_putF (C := RX3) (T := TX3) (N := 2) (ci := 4) (v := .ref q8) X J hi_X3 tyX3 tyX3_ok nmX3 qc G1_0 rfl 0 (by decide) (by decide +kernel) rfl hin9 rfl rfl rfl (Nat.le_of_ble_eq_true rfl) dX3_init_10 (fun H locs J => ?_)
  have J : zJ E (ws_1.set qc (sc, .inr (4, [.ref q8, .null]))) s H locs := J
  have hk := hk.trans (zK.set (ws := ws_1) (q := qc) (e := (sc, .inr (4, [.ref q8, .null]))) (by simp))
  have hlen : (ws_1.set qc (sc, .inr (4, [.ref q8, .null]))).length = ws.length + 1 := (List.length_set ..).trans hlen
  have G2_0 := zset_eq (e' := (sc, .inr (4, [.ref q8, .null]))) G1_0
  have G2_1 := zset_ne (q := qc) (e' := (sc, .inr (4, [.ref q8, .null]))) (by omega) G1_n
  generalize hws2 : (ws_1.set qc (sc, .inr (4, [.ref q8, .null]))) = ws_2 at J hlen hk G2_0 G2_1
  refine lv_aload_n hx hb dX3_init_13 rfl (lv_at hl 0 rfl) ?_
  refine lv_sipush (v := 400) hx hb dX3_init_14 (by decide) ?_
  refine z_newa (N' := 400) X J (by decide +kernel) (by decide) (by decide) (Nat.le_of_ble_eq_true rfl) (Nat.le_of_ble_eq_true rfl) (Nat.le_of_ble_eq_true rfl) dX3_init_17 (fun q17 H J => ?_)
  have lp3 := hk.1
  have hk := hk.trans (zK.app (more := [(q17, zI4 E 400 (fun _ => 0))]))
  have hpn3 := hlen
  have hlen : (ws_2 ++ [(q17, zI4 E 400 (fun _ => 0))]).length = ws.length + 2 := by rw [List.length_append, hlen]; rfl
  have bG3_0 := zlt G2_0
  have G3_0 := zapp (x := (q17, zI4 E 400 (fun _ => 0))) G2_0
  have bG3_1 := zlt G2_1
  have G3_1 := zapp (x := (q17, zI4 E 400 (fun _ => 0))) G2_1
  have G3_n := zapp_new (ws := ws_2) (x := (q17, zI4 E 400 (fun _ => 0)))
  generalize hws3 : ws_2 ++ [(q17, zI4 E 400 (fun _ => 0))] = ws_3 at J hk hlen G3_0 G3_1 G3_n
  rw [hpn3] at lp3 G3_n bG3_0 bG3_1
  refine z_putF (C := RX3) (T := TX3) (N := 2) (ci := 4) (v := .ref q17) X J hi_X3 tyX3 tyX3_ok nmX3 qc G3_0 rfl 1 (by decide) (by decide +kernel) rfl hin9 rfl rfl rfl (Nat.le_of_ble_eq_true rfl) dX3_init_19 (fun H locs J => ?_)
  have J : zJ E (ws_3.set qc (sc, .inr (4, [.ref q8, .ref q17]))) s H locs := J
  have hk := hk.trans (zK.set (ws := ws_3) (q := qc) (e := (sc, .inr (4, [.ref q8, .ref q17]))) (by simp))
  have hlen : (ws_3.set qc (sc, .inr (4, [.ref q8, .ref q17]))).length = ws.length + 2 := (List.length_set ..).trans hlen
  have G4_0 := zset_eq (e' := (sc, .inr (4, [.ref q8, .ref q17]))) G3_0
  have G4_1 := zset_ne (q := qc) (e' := (sc, .inr (4, [.ref q8, .ref q17]))) (by omega) G3_1
  have G4_2 := zset_ne (q := qc) (e' := (sc, .inr (4, [.ref q8, .ref q17]))) (by omega) G3_n
  generalize hws4 : (ws_3.set qc (sc, .inr (4, [.ref q8, .ref q17]))) = ws_4 at J hlen hk G4_0 G4_1 G4_2
  subst hQ
  exact W.vret hx hb hr (fun t ht hW => ⟨⟨ws_4, rfl, ⟨hk, ⟨q8, q17, hlen, G4_0, G4_1, G4_2⟩⟩, J.I X ht hW.alike⟩, J.F ht⟩) J.locs dX3_init_22
set_option maxHeartbeats 4000000 in
set_option maxRecDepth 100000 in
/-- Screens.height -/
theorem cX3_height_ok (l : Launch) (E : zG) {ws : va_W} {qc qh qv sc ha va : Nat} {hf gf : Nat → Int32} {i : Int32} (Fa0 : ws[qc]? = some (sc, .inr (4, [.ref ha, .ref va]))) (Fa1 : ws[qh]? = some (ha, zI4 E 400 hf)) (Fa2 : ws[qv]? = some (va, zI4 E 400 gf))  : Met l yX3_height wsX3_height ({ frames := 0, cells := 0, slots := 0, locals := 0 } : Room) (va_Pc [.ref sc, .int i] (zI E ws)) (vp_Si (fun r : Int32 => r = gd hf i)) 0 0 (fun _ => False) := by
  refine Met.ofW (cc := cX3_height) (maxL := 2) (ret := (some .int)) (by decide) rfl ?_
  intro p e s m args below meth c s₁ B hml hv
  obtain ⟨hargs9, hI⟩ := hv
  have hx := B.exec
  have hb := B.bytes
  have hr := B.returns
  have hlocks := B.notSynchronized
  have X : zC E p m c cX3_height 2 s args wsX3_height RX3 := z_open B hml hI
  have hown := X.1.2.2.2.1
  have hts := X.1.2.2.2.2
  have J := hI.J
  have hi_X3 : ∀ w ∈ wsX30, w ∈ wsX3_height := by decide +kernel
  have n0_1 : qc ≠ qh := zneK Fa0 Fa1 rfl
  have n0_2 : qc ≠ qv := zneK Fa0 Fa2 rfl
  have hl := lv_entry ([.ref sc, .int i]) (n := 2) (Nat.le_of_ble_eq_true rfl)
  rw [show entryFrame m args 2 = entryFrame m ([.ref sc, .int i] : List Value).toArray 2 from by rw [hargs9], lg_entry_eq]
  generalize (lg_sl ([.ref sc, .int i]) ++ List.replicate (2 - (lg_sl ([.ref sc, .int i])).length) Slot.unset).toArray = ls at hl ⊢
  have hl : lv_has ls 2 [(0, .ref sc), (1, .int i)] := hl
  generalize hQ : (MQ below (vp_Si (fun r : Int32 => r = gd hf i)) args s 0 0 (fun _ => False)) = QQ
  refine lv_iload_n hx hb dX3_height_0 rfl (lv_at hl 1 rfl) ?_
  refine lv_if_lt (tgt := 22) hx hb dX3_height_1 (by decide) (fun cz1 => ?_) (fun cz1 => ?_)
  · refine lv_iconst (v := 0) hx hb dX3_height_22 (by decide) ?_
    subst hQ
    exact W.iret (v := 0) hx hb hr (fun t ht hW => ⟨0, rfl, (by first | exact (gd_in cz1 cz10).symm | exact (gd_hi cz10).symm | exact (gd_lo cz1).symm), ht⟩) (fun q hq => absurd hq List.not_mem_nil) dX3_height_23
  · refine lv_iload_n hx hb dX3_height_4 rfl (lv_at hl 1 rfl) ?_
    refine lv_aload_n hx hb dX3_height_5 rfl (lv_at hl 0 rfl) ?_
    refine z_get (C := RX3) (T := TX3) (N := 2) (ci := 4) (v := .ref ha) X J hi_X3 qc Fa0 rfl 0 (by decide) (by decide +kernel) rfl dX3_height_6 ?_
    refine z_alenI (v := 400) X J qh Fa1 rfl dX3_height_9 ?_
    refine lv_icmp_ge (tgt := 22) hx hb dX3_height_10 (by decide) (fun cz10 => ?_) (fun cz10 => ?_)
    · refine lv_iconst (v := 0) hx hb dX3_height_22 (by decide) ?_
      subst hQ
      exact W.iret (v := 0) hx hb hr (fun t ht hW => ⟨0, rfl, (by first | exact (gd_in cz1 cz10).symm | exact (gd_hi cz10).symm | exact (gd_lo cz1).symm), ht⟩) (fun q hq => absurd hq List.not_mem_nil) dX3_height_23
    · refine lv_aload_n hx hb dX3_height_13 rfl (lv_at hl 0 rfl) ?_
      refine z_get (C := RX3) (T := TX3) (N := 2) (ci := 4) (v := .ref ha) X J hi_X3 qc Fa0 rfl 0 (by decide) (by decide +kernel) rfl dX3_height_14 ?_
      refine lv_iload_n hx hb dX3_height_17 rfl (lv_at hl 1 rfl) ?_
      refine z_iald X J qh Fa1 (vp400 cz1 cz10) dX3_height_18 ?_
      refine lv_goto (tgt := 23) hx hb dX3_height_19 (by decide) ?_
      subst hQ
      exact W.iret (v := hf i.toNatClampNeg) hx hb hr (fun t ht hW => ⟨hf i.toNatClampNeg, rfl, (by first | exact (gd_in cz1 cz10).symm | exact (gd_hi cz10).symm | exact (gd_lo cz1).symm), ht⟩) (fun q hq => absurd hq List.not_mem_nil) dX3_height_23
set_option maxHeartbeats 4000000 in
set_option maxRecDepth 100000 in
/-- Screens.gap -/
theorem cX3_gap_ok (l : Launch) (E : zG) {ws : va_W} {qc qh qv sc ha va : Nat} {hf gf : Nat → Int32} {i : Int32} (Fa0 : ws[qc]? = some (sc, .inr (4, [.ref ha, .ref va]))) (Fa1 : ws[qh]? = some (ha, zI4 E 400 hf)) (Fa2 : ws[qv]? = some (va, zI4 E 400 gf))  : Met l yX3_gap wsX3_gap ({ frames := 0, cells := 0, slots := 0, locals := 0 } : Room) (va_Pc [.ref sc, .int i] (zI E ws)) (vp_Si (fun r : Int32 => r = gd gf i)) 0 0 (fun _ => False) := by
  refine Met.ofW (cc := cX3_gap) (maxL := 2) (ret := (some .int)) (by decide) rfl ?_
  intro p e s m args below meth c s₁ B hml hv
  obtain ⟨hargs9, hI⟩ := hv
  have hx := B.exec
  have hb := B.bytes
  have hr := B.returns
  have hlocks := B.notSynchronized
  have X : zC E p m c cX3_gap 2 s args wsX3_gap RX3 := z_open B hml hI
  have hown := X.1.2.2.2.1
  have hts := X.1.2.2.2.2
  have J := hI.J
  have hi_X3 : ∀ w ∈ wsX30, w ∈ wsX3_gap := by decide +kernel
  have n0_1 : qc ≠ qh := zneK Fa0 Fa1 rfl
  have n0_2 : qc ≠ qv := zneK Fa0 Fa2 rfl
  have hl := lv_entry ([.ref sc, .int i]) (n := 2) (Nat.le_of_ble_eq_true rfl)
  rw [show entryFrame m args 2 = entryFrame m ([.ref sc, .int i] : List Value).toArray 2 from by rw [hargs9], lg_entry_eq]
  generalize (lg_sl ([.ref sc, .int i]) ++ List.replicate (2 - (lg_sl ([.ref sc, .int i])).length) Slot.unset).toArray = ls at hl ⊢
  have hl : lv_has ls 2 [(0, .ref sc), (1, .int i)] := hl
  generalize hQ : (MQ below (vp_Si (fun r : Int32 => r = gd gf i)) args s 0 0 (fun _ => False)) = QQ
  refine lv_iload_n hx hb dX3_gap_0 rfl (lv_at hl 1 rfl) ?_
  refine lv_if_lt (tgt := 22) hx hb dX3_gap_1 (by decide) (fun cz1 => ?_) (fun cz1 => ?_)
  · refine lv_iconst (v := 0) hx hb dX3_gap_22 (by decide) ?_
    subst hQ
    exact W.iret (v := 0) hx hb hr (fun t ht hW => ⟨0, rfl, (by first | exact (gd_in cz1 cz10).symm | exact (gd_hi cz10).symm | exact (gd_lo cz1).symm), ht⟩) (fun q hq => absurd hq List.not_mem_nil) dX3_gap_23
  · refine lv_iload_n hx hb dX3_gap_4 rfl (lv_at hl 1 rfl) ?_
    refine lv_aload_n hx hb dX3_gap_5 rfl (lv_at hl 0 rfl) ?_
    refine z_get (C := RX3) (T := TX3) (N := 2) (ci := 4) (v := .ref va) X J hi_X3 qc Fa0 rfl 1 (by decide) (by decide +kernel) rfl dX3_gap_6 ?_
    refine z_alenI (v := 400) X J qv Fa2 rfl dX3_gap_9 ?_
    refine lv_icmp_ge (tgt := 22) hx hb dX3_gap_10 (by decide) (fun cz10 => ?_) (fun cz10 => ?_)
    · refine lv_iconst (v := 0) hx hb dX3_gap_22 (by decide) ?_
      subst hQ
      exact W.iret (v := 0) hx hb hr (fun t ht hW => ⟨0, rfl, (by first | exact (gd_in cz1 cz10).symm | exact (gd_hi cz10).symm | exact (gd_lo cz1).symm), ht⟩) (fun q hq => absurd hq List.not_mem_nil) dX3_gap_23
    · refine lv_aload_n hx hb dX3_gap_13 rfl (lv_at hl 0 rfl) ?_
      refine z_get (C := RX3) (T := TX3) (N := 2) (ci := 4) (v := .ref va) X J hi_X3 qc Fa0 rfl 1 (by decide) (by decide +kernel) rfl dX3_gap_14 ?_
      refine lv_iload_n hx hb dX3_gap_17 rfl (lv_at hl 1 rfl) ?_
      refine z_iald X J qv Fa2 (vp400 cz1 cz10) dX3_gap_18 ?_
      refine lv_goto (tgt := 23) hx hb dX3_gap_19 (by decide) ?_
      subst hQ
      exact W.iret (v := gf i.toNatClampNeg) hx hb hr (fun t ht hW => ⟨gf i.toNatClampNeg, rfl, (by first | exact (gd_in cz1 cz10).symm | exact (gd_hi cz10).symm | exact (gd_lo cz1).symm), ht⟩) (fun q hq => absurd hq List.not_mem_nil) dX3_gap_23
set_option maxHeartbeats 4000000 in
set_option maxRecDepth 100000 in
/-- Screens.stand -/
theorem cX3_stand_ok (l : Launch) (E : zG) {ws : va_W} {qc qh qv sc ha va : Nat} {hf gf : Nat → Int32} {i h g : Int32} (Fa0 : ws[qc]? = some (sc, .inr (4, [.ref ha, .ref va]))) (Fa1 : ws[qh]? = some (ha, zI4 E 400 hf)) (Fa2 : ws[qv]? = some (va, zI4 E 400 gf)) (hhv : qh ≠ qv) : Met l yX3_stand wsX3_stand ({ frames := 0, cells := 0, slots := 0, locals := 0 } : Room) (va_Pc [.ref sc, .int i, .int h, .int g] (zI E ws)) (va_Qv (fun (ws' : va_W) => (zK [qh, qv] ws ws') ∧ (ws'[qh]? = some (ha, zI4 E 400 (gp hf i h))) ∧ (ws'[qv]? = some (va, zI4 E 400 (gp gf i g)))) (zI E) (zA E)) 0 0 (zA E) := by
  refine Met.ofW (cc := cX3_stand) (maxL := 4) (ret := none) (by decide) rfl ?_
  intro p e s m args below meth c s₁ B hml hv
  obtain ⟨hargs9, hI⟩ := hv
  have hx := B.exec
  have hb := B.bytes
  have hr := B.returns
  have hlocks := B.notSynchronized
  have X : zC E p m c cX3_stand 4 s args wsX3_stand RX3 := z_open B hml hI
  have hown := X.1.2.2.2.1
  have hts := X.1.2.2.2.2
  have J := hI.J
  have hi_X3 : ∀ w ∈ wsX30, w ∈ wsX3_stand := by decide +kernel
  have n0_1 : qc ≠ qh := zneK Fa0 Fa1 rfl
  have n0_2 : qc ≠ qv := zneK Fa0 Fa2 rfl
  have hk : zK [qh, qv] ws ws := zK.rf
  have hl := lv_entry ([.ref sc, .int i, .int h, .int g]) (n := 4) (Nat.le_of_ble_eq_true rfl)
  rw [show entryFrame m args 4 = entryFrame m ([.ref sc, .int i, .int h, .int g] : List Value).toArray 4 from by rw [hargs9], lg_entry_eq]
  generalize (lg_sl ([.ref sc, .int i, .int h, .int g]) ++ List.replicate (4 - (lg_sl ([.ref sc, .int i, .int h, .int g])).length) Slot.unset).toArray = ls at hl ⊢
  have hl : lv_has ls 4 [(0, .ref sc), (1, .int i), (2, .int h), (3, .int g)] := hl
  generalize hQ : (MQ below (va_Qv (fun (ws' : va_W) => (zK [qh, qv] ws ws') ∧ (ws'[qh]? = some (ha, zI4 E 400 (gp hf i h))) ∧ (ws'[qv]? = some (va, zI4 E 400 (gp gf i g)))) (zI E) (zA E)) args s 0 0 (zA E)) = QQ
  refine lv_iload_n hx hb dX3_stand_0 rfl (lv_at hl 1 rfl) ?_
  refine lv_if_lt (tgt := 36) hx hb dX3_stand_1 (by decide) (fun cz1 => ?_) (fun cz1 => ?_)
  · subst hQ
    exact W.vret hx hb hr (fun t ht hW => ⟨⟨ws, rfl, ⟨hk, (by first | exact Fa1 | (rw [gp_lo cz1]; exact Fa1) | (rw [gp_hi cz10]; exact Fa1) | (rw [gp_hi cz19]; exact Fa1)), (by first | exact Fa2 | (rw [gp_lo cz1]; exact Fa2) | (rw [gp_hi cz10]; exact Fa2) | (rw [gp_hi cz19]; exact Fa2))⟩, J.I X ht hW.alike⟩, J.F ht⟩) J.locs dX3_stand_36
  · refine lv_iload_n hx hb dX3_stand_4 rfl (lv_at hl 1 rfl) ?_
    refine lv_aload_n hx hb dX3_stand_5 rfl (lv_at hl 0 rfl) ?_
    refine z_get (C := RX3) (T := TX3) (N := 2) (ci := 4) (v := .ref ha) X J hi_X3 qc Fa0 rfl 0 (by decide) (by decide +kernel) rfl dX3_stand_6 ?_
    refine z_alenI (v := 400) X J qh Fa1 rfl dX3_stand_9 ?_
    refine lv_icmp_ge (tgt := 36) hx hb dX3_stand_10 (by decide) (fun cz10 => ?_) (fun cz10 => ?_)
    · subst hQ
      exact W.vret hx hb hr (fun t ht hW => ⟨⟨ws, rfl, ⟨hk, (by first | exact Fa1 | (rw [gp_lo cz1]; exact Fa1) | (rw [gp_hi cz10]; exact Fa1) | (rw [gp_hi cz19]; exact Fa1)), (by first | exact Fa2 | (rw [gp_lo cz1]; exact Fa2) | (rw [gp_hi cz10]; exact Fa2) | (rw [gp_hi cz19]; exact Fa2))⟩, J.I X ht hW.alike⟩, J.F ht⟩) J.locs dX3_stand_36
    · refine lv_iload_n hx hb dX3_stand_13 rfl (lv_at hl 1 rfl) ?_
      refine lv_aload_n hx hb dX3_stand_14 rfl (lv_at hl 0 rfl) ?_
      refine z_get (C := RX3) (T := TX3) (N := 2) (ci := 4) (v := .ref va) X J hi_X3 qc Fa0 rfl 1 (by decide) (by decide +kernel) rfl dX3_stand_15 ?_
      refine z_alenI (v := 400) X J qv Fa2 rfl dX3_stand_18 ?_
      refine lv_icmp_ge (tgt := 36) hx hb dX3_stand_19 (by decide) (fun cz19 => ?_) (fun cz19 => ?_)
      · subst hQ
        exact W.vret hx hb hr (fun t ht hW => ⟨⟨ws, rfl, ⟨hk, (by first | exact Fa1 | (rw [gp_lo cz1]; exact Fa1) | (rw [gp_hi cz10]; exact Fa1) | (rw [gp_hi cz19]; exact Fa1)), (by first | exact Fa2 | (rw [gp_lo cz1]; exact Fa2) | (rw [gp_hi cz10]; exact Fa2) | (rw [gp_hi cz19]; exact Fa2))⟩, J.I X ht hW.alike⟩, J.F ht⟩) J.locs dX3_stand_36
      · refine lv_aload_n hx hb dX3_stand_22 rfl (lv_at hl 0 rfl) ?_
        refine z_get (C := RX3) (T := TX3) (N := 2) (ci := 4) (v := .ref ha) X J hi_X3 qc Fa0 rfl 0 (by decide) (by decide +kernel) rfl dX3_stand_23 ?_
        refine lv_iload_n hx hb dX3_stand_26 rfl (lv_at hl 1 rfl) ?_
        refine lv_iload_n hx hb dX3_stand_27 rfl (lv_at hl 2 rfl) ?_
        refine z_iast X J qh Fa1 (vp400 cz1 cz10) dX3_stand_28 (fun H locs J => ?_)
        rw [show upd hf i.toNatClampNeg h = gp hf i h from (gp_in cz1 cz10).symm] at J
        have hk := hk.trans (zK.set (ws := ws) (q := qh) (e := (ha, zI4 E 400 (gp hf i h))) (by simp))
        have G1_0 := zset_ne (q := qh) (e' := (ha, zI4 E 400 (gp hf i h))) (by omega) Fa0
        have G1_1 := zset_eq (e' := (ha, zI4 E 400 (gp hf i h))) Fa1
        have G1_2 := zset_ne (q := qh) (e' := (ha, zI4 E 400 (gp hf i h))) (by omega) Fa2
        generalize hws1 : (ws.set qh (ha, zI4 E 400 (gp hf i h))) = ws_1 at J hk G1_0 G1_1 G1_2
        refine lv_aload_n hx hb dX3_stand_29 rfl (lv_at hl 0 rfl) ?_
        refine z_get (C := RX3) (T := TX3) (N := 2) (ci := 4) (v := .ref va) X J hi_X3 qc G1_0 rfl 1 (by decide) (by decide +kernel) rfl dX3_stand_30 ?_
        refine lv_iload_n hx hb dX3_stand_33 rfl (lv_at hl 1 rfl) ?_
        refine lv_iload_n hx hb dX3_stand_34 rfl (lv_at hl 3 rfl) ?_
        refine z_iast X J qv G1_2 (vp400 cz1 cz10) dX3_stand_35 (fun H locs J => ?_)
        rw [show upd gf i.toNatClampNeg g = gp gf i g from (gp_in cz1 cz10).symm] at J
        have hk := hk.trans (zK.set (ws := ws_1) (q := qv) (e := (va, zI4 E 400 (gp gf i g))) (by simp))
        have G2_0 := zset_ne (q := qv) (e' := (va, zI4 E 400 (gp gf i g))) (by omega) G1_0
        have G2_1 := zset_ne (q := qv) (e' := (va, zI4 E 400 (gp gf i g))) (by omega) G1_1
        have G2_2 := zset_eq (e' := (va, zI4 E 400 (gp gf i g))) G1_2
        generalize hws2 : (ws_1.set qv (va, zI4 E 400 (gp gf i g))) = ws_2 at J hk G2_0 G2_1 G2_2
        subst hQ
        exact W.vret hx hb hr (fun t ht hW => ⟨⟨ws_2, rfl, ⟨hk, (by first | exact G2_1 | (rw [gp_lo cz1]; exact G2_1) | (rw [gp_hi cz10]; exact G2_1) | (rw [gp_hi cz19]; exact G2_1)), (by first | exact G2_2 | (rw [gp_lo cz1]; exact G2_2) | (rw [gp_hi cz10]; exact G2_2) | (rw [gp_hi cz19]; exact G2_2))⟩, J.I X ht hW.alike⟩, J.F ht⟩) J.locs dX3_stand_36
set_option maxHeartbeats 4000000 in
set_option maxRecDepth 100000 in
/-- Screens.clear -/
theorem cX3_clear_ok (l : Launch) (E : zG) {ws : va_W} {qc qh qv sc ha va : Nat} {hf gf : Nat → Int32} (Fa0 : ws[qc]? = some (sc, .inr (4, [.ref ha, .ref va]))) (Fa1 : ws[qh]? = some (ha, zI4 E 400 hf)) (Fa2 : ws[qv]? = some (va, zI4 E 400 gf)) (hhv : qh ≠ qv) : Met l yX3_clear wsX3_clear ({ frames := 1, cells := 0, slots := 0, locals := 23 } : Room) (va_Pc [.ref sc] (zI E ws)) (va_Qv (fun (ws' : va_W) => (zK [qh, qv] ws ws') ∧ (ws'[qh]? = some (ha, zI4 E 400 (fun _ => 0))) ∧ (ws'[qv]? = some (va, zI4 E 400 (fun _ => 0)))) (zI E) (zA E)) 0 0 (zA E) := by
  refine Met.ofW (cc := cX3_clear) (maxL := 2) (ret := none) (by decide) rfl ?_
  intro p e s m args below meth c s₁ B hml hv
  obtain ⟨hargs9, hI⟩ := hv
  have hx := B.exec
  have hb := B.bytes
  have hr := B.returns
  have hlocks := B.notSynchronized
  have X : zC E p m c cX3_clear 2 s args wsX3_clear RX3 := z_open B hml hI
  have hown := X.1.2.2.2.1
  have hts := X.1.2.2.2.2
  have J := hI.J
  have n0_1 : qc ≠ qh := zneK Fa0 Fa1 rfl
  have n0_2 : qc ≠ qv := zneK Fa0 Fa2 rfl
  have hk : zK [qh, qv] ws ws := zK.rf
  have hl := lv_entry ([.ref sc]) (n := 2) (Nat.le_of_ble_eq_true rfl)
  rw [show entryFrame m args 2 = entryFrame m ([.ref sc] : List Value).toArray 2 from by rw [hargs9], lg_entry_eq]
  generalize (lg_sl ([.ref sc]) ++ List.replicate (2 - (lg_sl ([.ref sc])).length) Slot.unset).toArray = ls at hl ⊢
  have hl : lv_has ls 2 [(0, .ref sc)] := hl
  generalize hQ : (MQ below (va_Qv (fun (ws' : va_W) => (zK [qh, qv] ws ws') ∧ (ws'[qh]? = some (ha, zI4 E 400 (fun _ => 0))) ∧ (ws'[qv]? = some (va, zI4 E 400 (fun _ => 0)))) (zI E) (zA E)) args s 0 0 (zA E)) = QQ
  refine lv_iconst (v := nI 0) hx hb dX3_clear_0 rfl ?_
  refine lv_istore_n (lv' := [(1, .int (nI 0)), (0, .ref sc)]) hx hb dX3_clear_1 rfl hl (by decide) rfl (fun ls hl => ?_)
  have loop_2 : ∀ (k9 i : Nat), i + k9 = 400 → ∀ (wl2 : va_W) (H : Heap) (locs : List Loc) (ls : Array Slot), zK [qh, qv] ws wl2 → wl2[qc]? = some (sc, .inr (4, [.ref ha, .ref va])) → wl2[qh]? = some (ha, zI4 E 400 (cpG hf (fun _ => 0) i)) → wl2[qv]? = some (va, zI4 E 400 (cpG gf (fun _ => 0) i)) → zJ E wl2 s H locs → lv_has ls 2 [(1, .int (nI i)), (0, .ref sc)] → W p l e (headSpec wsX3_clear ({ frames := 1, cells := 0, slots := 0, locals := 23 } : Room)).room s m args below meth c H locs 0 0 QQ (F0 m 2 ls []) := by
    intro k9
    induction k9 with
    | zero =>
      intro i hik wl2 H locs ls hk L2_0 L2_1 L2_2 J hl
      obtain rfl : 400 = i := by omega
      refine lv_iload_n hx hb dX3_clear_2 rfl (lv_at hl 0 rfl) ?_
      refine lv_sipush (v := nI 400) hx hb dX3_clear_3 (by decide) ?_
      refine lv_icmp_ge (tgt := 22) hx hb dX3_clear_6 (by decide) (fun cz6 => ?_) (fun cz6 => by exact (cz6 (nI_le (Nat.le_refl _) (by omega))).elim)
      have J := J.congr qh (g := (fun _ => 0)) L2_1 (fun j hj => cpG_end hj)
      have hk := hk.trans (zK.set (ws := wl2) (q := qh) (e := (ha, zI4 E 400 (fun _ => 0))) (by simp))
      have G1_0 := zset_ne (q := qh) (e' := (ha, zI4 E 400 (fun _ => 0))) (by omega) L2_0
      have G1_1 := zset_eq (e' := (ha, zI4 E 400 (fun _ => 0))) L2_1
      have G1_2 := zset_ne (q := qh) (e' := (ha, zI4 E 400 (fun _ => 0))) (by omega) L2_2
      generalize hws1 : (wl2.set qh (ha, zI4 E 400 (fun _ => 0))) = ws_1 at J hk G1_0 G1_1 G1_2
      have J := J.congr qv (g := (fun _ => 0)) G1_2 (fun j hj => cpG_end hj)
      have hk := hk.trans (zK.set (ws := ws_1) (q := qv) (e := (va, zI4 E 400 (fun _ => 0))) (by simp))
      have G2_0 := zset_ne (q := qv) (e' := (va, zI4 E 400 (fun _ => 0))) (by omega) G1_0
      have G2_1 := zset_ne (q := qv) (e' := (va, zI4 E 400 (fun _ => 0))) (by omega) G1_1
      have G2_2 := zset_eq (e' := (va, zI4 E 400 (fun _ => 0))) G1_2
      generalize hws2 : (ws_1.set qv (va, zI4 E 400 (fun _ => 0))) = ws_2 at J hk G2_0 G2_1 G2_2
      subst hQ
      exact W.vret hx hb hr (fun t ht hW => ⟨⟨ws_2, rfl, ⟨hk, G2_1, G2_2⟩, J.I X ht hW.alike⟩, J.F ht⟩) J.locs dX3_clear_22
    | succ k9 ih_2 =>
      intro i hik wl2 H locs ls hk L2_0 L2_1 L2_2 J hl
      refine lv_iload_n hx hb dX3_clear_2 rfl (lv_at hl 0 rfl) ?_
      refine lv_sipush (v := nI 400) hx hb dX3_clear_3 (by decide) ?_
      refine lv_icmp_ge (tgt := 22) hx hb dX3_clear_6 (by decide) (fun cz6 => by exact (nI_ge (by omega) (by omega) cz6).elim) (fun cz6 => ?_)
      refine lv_aload_n hx hb dX3_clear_9 rfl (lv_at hl 1 rfl) ?_
      refine lv_iload_n hx hb dX3_clear_10 rfl (lv_at hl 0 rfl) ?_
      refine lv_iconst (v := 0) hx hb dX3_clear_11 (by decide) ?_
      refine lv_iconst (v := 0) hx hb dX3_clear_12 (by decide) ?_
      refine z_cv J (z_rV (As := [.int (nI i), .int 0, .int 0]) (rest := []) (ci := 4) (q0 := qc) X J (cX3_stand_ok l E L2_0 L2_1 L2_2 (by first | assumption | omega | decide)) (cwV 3 hts gX3_clear_X3_stand rfl rfl rfl (by decide +kernel) ⟨Nat.le_of_ble_eq_true rfl, Nat.le_of_ble_eq_true rfl⟩) L2_0 rfl rfl rfl hl.1 rfl (Nat.le_of_ble_eq_true rfl) dX3_clear_13 ⟨Nat.le_of_ble_eq_true rfl, Nat.le_of_ble_eq_true rfl⟩) (fun ws_1 H locs hp9 J => ?_)
      obtain ⟨k1, G1_a0, G1_a1⟩ := hp9
      have hk := hk.trans (k1.mono (by intro q9 hq9; simp only [List.mem_cons, List.not_mem_nil, or_false] at hq9 ⊢; omega))
      have G1_0 := k1.2 qc _ (by simp only [List.mem_cons, List.not_mem_nil, or_false]; omega) L2_0
      refine lv_iinc (v := nI (i + 1)) (lv' := [(1, .int (nI (i + 1))), (0, .ref sc)]) hx hb dX3_clear_16 hl (k := 0) rfl (nI_1 i) (by decide) rfl (fun ls hl => ?_)
      refine lv_goto (tgt := 2) hx hb dX3_clear_19 (by decide) ?_
      exact ih_2 (i + 1) (by omega) _ _ _ _ hk G1_0 (by rw [← cpG_stepC (show i < 400 by omega)]; exact G1_a0) (by rw [← cpG_stepC (show i < 400 by omega)]; exact G1_a1) J (lv_sub hl [0, 1] rfl)
  exact loop_2 400 0 (by omega) _ _ _ _ hk Fa0 (by rw [cpG_0]; exact Fa1) (by rw [cpG_0]; exact Fa2) J (lv_sub hl [0, 1] rfl)
set_option maxHeartbeats 4000000 in
set_option maxRecDepth 100000 in
/-- Screens.add -/
theorem cX3_add_ok (l : Launch) (E : zG) {ws : va_W} {qc qh qv sc ha va : Nat} {hf gf : Nat → Int32} {qs sp n : Nat} {fi dn : Int32} {h g : Int32} (Fa0 : ws[qc]? = some (sc, .inr (4, [.ref ha, .ref va]))) (Fa1 : ws[qh]? = some (ha, zI4 E 400 hf)) (Fa2 : ws[qv]? = some (va, zI4 E 400 gf)) (Fa3 : ws[qs]? = some (sp, .inr (5, [.int fi, .int (nI n), .int dn]))) (hhv : qh ≠ qv) (hn : n ≤ 400) : Met l yX3_add wsX3_add ({ frames := 1, cells := 0, slots := 0, locals := 23 } : Room) (va_Pc [.ref sc, .ref sp, .int h, .int g] (zI E ws)) (va_Qv (fun (ws' : va_W) => (zK [qh, qv] ws ws') ∧ (ws'[qh]? = some (ha, zI4 E 400 (scH hf fi dn h n))) ∧ (ws'[qv]? = some (va, zI4 E 400 (scV hf gf fi dn h g n)))) (zI E) (zA E)) 0 0 (zA E) := by
  refine Met.ofW (cc := cX3_add) (maxL := 6) (ret := none) (by decide) rfl ?_
  intro p e s m args below meth c s₁ B hml hv
  obtain ⟨hargs9, hI⟩ := hv
  have hx := B.exec
  have hb := B.bytes
  have hr := B.returns
  have hlocks := B.notSynchronized
  have X : zC E p m c cX3_add 6 s args wsX3_add RX3 := z_open B hml hI
  have hown := X.1.2.2.2.1
  have hts := X.1.2.2.2.2
  have J := hI.J
  have hi_X4 : ∀ w ∈ wsX40, w ∈ wsX3_add := by decide +kernel
  have n0_1 : qc ≠ qh := zneK Fa0 Fa1 rfl
  have n0_2 : qc ≠ qv := zneK Fa0 Fa2 rfl
  have n0_3 : qc ≠ qs := zneK Fa0 Fa3 rfl
  have n1_3 : qh ≠ qs := zneK Fa1 Fa3 rfl
  have n2_3 : qv ≠ qs := zneK Fa2 Fa3 rfl
  have hk : zK [qh, qv] ws ws := zK.rf
  have hl := lv_entry ([.ref sc, .ref sp, .int h, .int g]) (n := 6) (Nat.le_of_ble_eq_true rfl)
  rw [show entryFrame m args 6 = entryFrame m ([.ref sc, .ref sp, .int h, .int g] : List Value).toArray 6 from by rw [hargs9], lg_entry_eq]
  generalize (lg_sl ([.ref sc, .ref sp, .int h, .int g]) ++ List.replicate (6 - (lg_sl ([.ref sc, .ref sp, .int h, .int g])).length) Slot.unset).toArray = ls at hl ⊢
  have hl : lv_has ls 6 [(0, .ref sc), (1, .ref sp), (2, .int h), (3, .int g)] := hl
  generalize hQ : (MQ below (va_Qv (fun (ws' : va_W) => (zK [qh, qv] ws ws') ∧ (ws'[qh]? = some (ha, zI4 E 400 (scH hf fi dn h n))) ∧ (ws'[qv]? = some (va, zI4 E 400 (scV hf gf fi dn h g n)))) (zI E) (zA E)) args s 0 0 (zA E)) = QQ
  refine lv_iconst (v := nI 0) hx hb dX3_add_0 rfl ?_
  refine lv_istore (lv' := [(4, .int (nI 0)), (0, .ref sc), (1, .ref sp), (2, .int h), (3, .int g)]) hx hb dX3_add_1 hl (by decide) rfl (fun ls hl => ?_)
  have loop_3 : ∀ (k9 i : Nat), i + k9 = n → ∀ (wl3 : va_W) (H : Heap) (locs : List Loc) (ls : Array Slot), zK [qh, qv] ws wl3 → wl3[qc]? = some (sc, .inr (4, [.ref ha, .ref va])) → wl3[qh]? = some (ha, zI4 E 400 (scH hf fi dn h i)) → wl3[qv]? = some (va, zI4 E 400 (scV hf gf fi dn h g i)) → wl3[qs]? = some (sp, .inr (5, [.int fi, .int (nI n), .int dn])) → zJ E wl3 s H locs → lv_has ls 6 [(4, .int (nI i)), (0, .ref sc), (1, .ref sp), (2, .int h), (3, .int g)] → W p l e (headSpec wsX3_add ({ frames := 1, cells := 0, slots := 0, locals := 23 } : Room)).room s m args below meth c H locs 0 0 QQ (F0 m 3 ls []) := by
    intro k9
    induction k9 with
    | zero =>
      intro i hik wl3 H locs ls hk L3_0 L3_1 L3_2 L3_3 J hl
      obtain rfl : n = i := by omega
      refine lv_iload hx hb dX3_add_3 (lv_at hl 0 rfl) ?_
      refine lv_aload_n hx hb dX3_add_5 rfl (lv_at hl 2 rfl) ?_
      refine z_get (C := RX4) (T := TX4) (N := 3) (ci := 5) (v := .int (nI n)) X J hi_X4 qs L3_3 rfl 1 (by decide) (by decide +kernel) rfl dX3_add_6 ?_
      refine lv_icmp_ge (tgt := 44) hx hb dX3_add_9 (by decide) (fun cz9 => ?_) (fun cz9 => by exact (cz9 (nI_le (Nat.le_refl _) (by omega))).elim)
      subst hQ
      exact W.vret hx hb hr (fun t ht hW => ⟨⟨wl3, rfl, ⟨hk, L3_1, L3_2⟩, J.I X ht hW.alike⟩, J.F ht⟩) J.locs dX3_add_44
    | succ k9 ih_3 =>
      intro i hik wl3 H locs ls hk L3_0 L3_1 L3_2 L3_3 J hl
      refine lv_iload hx hb dX3_add_3 (lv_at hl 0 rfl) ?_
      refine lv_aload_n hx hb dX3_add_5 rfl (lv_at hl 2 rfl) ?_
      refine z_get (C := RX4) (T := TX4) (N := 3) (ci := 5) (v := .int (nI n)) X J hi_X4 qs L3_3 rfl 1 (by decide) (by decide +kernel) rfl dX3_add_6 ?_
      refine lv_icmp_ge (tgt := 44) hx hb dX3_add_9 (by decide) (fun cz9 => by exact (nI_ge (by omega) (by omega) cz9).elim) (fun cz9 => ?_)
      refine lv_aload_n hx hb dX3_add_12 rfl (lv_at hl 2 rfl) ?_
      refine lv_iload hx hb dX3_add_13 (lv_at hl 0 rfl) ?_
      refine z_cr (z_rV (As := [.int (nI i)]) (rest := []) (ci := 5) (q0 := qs) X J (cX4_cell_ok l E L3_3) (cwV 1 hts gX3_add_X4_cell rfl rfl rfl (by decide +kernel) ⟨Nat.le_of_ble_eq_true rfl, Nat.le_of_ble_eq_true rfl⟩) L3_3 rfl rfl rfl hl.1 rfl (Nat.le_of_ble_eq_true rfl) dX3_add_15 ⟨Nat.le_of_ble_eq_true rfl, Nat.le_of_ble_eq_true rfl⟩) (fun r15 e_r15 => ?_)
      subst e_r15
      refine lv_istore (lv' := [(5, .int (fi + (nI i) * stp dn)), (4, .int (nI i)), (0, .ref sc), (1, .ref sp), (2, .int h), (3, .int g)]) hx hb dX3_add_18 hl (by decide) rfl (fun ls hl => ?_)
      refine lv_iload_n hx hb dX3_add_20 rfl (lv_at hl 4 rfl) ?_
      refine lv_aload_n hx hb dX3_add_21 rfl (lv_at hl 2 rfl) ?_
      refine lv_iload hx hb dX3_add_22 (lv_at hl 0 rfl) ?_
      refine z_cr (z_rV (As := [.int (fi + (nI i) * stp dn)]) (rest := [.int h]) (ci := 4) (q0 := qc) X J (cX3_height_ok l E L3_0 L3_1 L3_2) (cwV 1 hts gX3_add_X3_height rfl rfl rfl (by decide +kernel) ⟨Nat.le_of_ble_eq_true rfl, Nat.le_of_ble_eq_true rfl⟩) L3_0 rfl rfl rfl hl.1 rfl (Nat.le_of_ble_eq_true rfl) dX3_add_24 ⟨Nat.le_of_ble_eq_true rfl, Nat.le_of_ble_eq_true rfl⟩) (fun r24 e_r24 => ?_)
      subst e_r24
      refine lv_icmp_le (tgt := 38) hx hb dX3_add_27 (by decide) (fun cz27 => ?_) (fun cz27 => ?_)
      · refine lv_iinc (v := nI (i + 1)) (lv' := [(4, .int (nI (i + 1))), (5, .int (fi + (nI i) * stp dn)), (0, .ref sc), (1, .ref sp), (2, .int h), (3, .int g)]) hx hb dX3_add_38 hl (k := 1) rfl (nI_1 i) (by decide) rfl (fun ls hl => ?_)
        refine lv_goto (tgt := 3) hx hb dX3_add_41 (by decide) ?_
        exact ih_3 (i + 1) (by omega) _ _ _ _ hk L3_0 (by rw [show scH hf fi dn h (i + 1) = _ from if_pos cz27]; exact L3_1) (by rw [show scV hf gf fi dn h g (i + 1) = _ from if_pos cz27]; exact L3_2) L3_3 J (lv_sub hl [0, 2, 3, 4, 5] rfl)
      · refine lv_aload_n hx hb dX3_add_30 rfl (lv_at hl 2 rfl) ?_
        refine lv_iload hx hb dX3_add_31 (lv_at hl 0 rfl) ?_
        refine lv_iload_n hx hb dX3_add_33 rfl (lv_at hl 4 rfl) ?_
        refine lv_iload_n hx hb dX3_add_34 rfl (lv_at hl 5 rfl) ?_
        refine z_cv J (z_rV (As := [.int (fi + (nI i) * stp dn), .int h, .int g]) (rest := []) (ci := 4) (q0 := qc) X J (cX3_stand_ok l E L3_0 L3_1 L3_2 (by first | assumption | omega | decide)) (cwV 3 hts gX3_add_X3_stand rfl rfl rfl (by decide +kernel) ⟨Nat.le_of_ble_eq_true rfl, Nat.le_of_ble_eq_true rfl⟩) L3_0 rfl rfl rfl hl.1 rfl (Nat.le_of_ble_eq_true rfl) dX3_add_35 ⟨Nat.le_of_ble_eq_true rfl, Nat.le_of_ble_eq_true rfl⟩) (fun ws_1 H locs hp9 J => ?_)
        obtain ⟨k1, G1_a0, G1_a1⟩ := hp9
        have hk := hk.trans (k1.mono (by intro q9 hq9; simp only [List.mem_cons, List.not_mem_nil, or_false] at hq9 ⊢; omega))
        have G1_0 := k1.2 qc _ (by simp only [List.mem_cons, List.not_mem_nil, or_false]; omega) L3_0
        have G1_3 := k1.2 qs _ (by simp only [List.mem_cons, List.not_mem_nil, or_false]; omega) L3_3
        refine lv_iinc (v := nI (i + 1)) (lv' := [(4, .int (nI (i + 1))), (5, .int (fi + (nI i) * stp dn)), (0, .ref sc), (1, .ref sp), (2, .int h), (3, .int g)]) hx hb dX3_add_38 hl (k := 1) rfl (nI_1 i) (by decide) rfl (fun ls hl => ?_)
        refine lv_goto (tgt := 3) hx hb dX3_add_41 (by decide) ?_
        exact ih_3 (i + 1) (by omega) _ _ _ _ hk G1_0 (by rw [show scH hf fi dn h (i + 1) = _ from if_neg cz27]; exact G1_a0) (by rw [show scV hf gf fi dn h g (i + 1) = _ from if_neg cz27]; exact G1_a1) G1_3 J (lv_sub hl [0, 2, 3, 4, 5] rfl)
  exact loop_3 n 0 (by omega) _ _ _ _ hk Fa0 Fa1 Fa2 Fa3 J (lv_sub hl [0, 1, 2, 3, 4] rfl)
set_option maxHeartbeats 4000000 in
set_option maxRecDepth 100000 in
/-- Wind() -/
theorem cX5_init_ok (l : Launch) (E : zG) {ws : va_W} {qw w : Nat} {sd stg sup : Int32} (Fa0 : ws[qw]? = some (w, .inr (6, [.int 0, .int 0, .int 0, .int 0, .int 0, .int 0, .int 0, .int 0, .int 0, .int 0]))) (hsd : sd = 0 ∨ sd = 1 ∨ sd = 2 ∨ sd = 3) : Met l yX5_init wsX5_init ({ frames := 1, cells := 0, slots := 0, locals := 12 } : Room) (va_Pc [.ref w, .int sd, .int stg, .int sup] (zI E ws)) (va_Qv (fun (ws' : va_W) => (zK [qw] ws ws') ∧ (ws'.length = ws.length) ∧ (ws'[qw]? = some (w, .inr (6, [.int (wdn sd), .int stg, .int sup, .int (wfc sd), .int (wnc sd), .int (wnl sd), .int 0, .int 0, .int 0, .int 0])))) (zI E) (zA E)) 0 0 (zA E) := by
  refine Met.ofW (cc := cX5_init) (maxL := 6) (ret := none) (by decide) rfl ?_
  intro p e s m args below meth c s₁ B hml hv
  obtain ⟨hargs9, hI⟩ := hv
  have hx := B.exec
  have hb := B.bytes
  have hr := B.returns
  have hlocks := B.notSynchronized
  have X : zC E p m c cX5_init 6 s args wsX5_init RX5 := z_open B hml hI
  have hin9 : meth.name = "<init>" := (name_of_methodNamed B.named B.method).1
  have hown := X.1.2.2.2.1
  have hts := X.1.2.2.2.2
  have J := hI.J
  have hi_X5 : ∀ w ∈ wsX50, w ∈ wsX5_init := by decide +kernel
  have hk : zK [qw] ws ws := zK.rf
  have hlen : ws.length = ws.length + 0 := rfl
  have bFa0 := zlt Fa0
  have hl := lv_entry ([.ref w, .int sd, .int stg, .int sup]) (n := 6) (Nat.le_of_ble_eq_true rfl)
  rw [show entryFrame m args 6 = entryFrame m ([.ref w, .int sd, .int stg, .int sup] : List Value).toArray 6 from by rw [hargs9], lg_entry_eq]
  generalize (lg_sl ([.ref w, .int sd, .int stg, .int sup]) ++ List.replicate (6 - (lg_sl ([.ref w, .int sd, .int stg, .int sup])).length) Slot.unset).toArray = ls at hl ⊢
  have hl : lv_has ls 6 [(0, .ref w), (1, .int sd), (2, .int stg), (3, .int sup)] := hl
  generalize hQ : (MQ below (va_Qv (fun (ws' : va_W) => (zK [qw] ws ws') ∧ (ws'.length = ws.length) ∧ (ws'[qw]? = some (w, .inr (6, [.int (wdn sd), .int stg, .int sup, .int (wfc sd), .int (wnc sd), .int (wnl sd), .int 0, .int 0, .int 0, .int 0])))) (zI E) (zA E)) args s 0 0 (zA E)) = QQ
  rcases hsd with rfl | rfl | rfl | rfl
  · refine lv_aload_n hx hb dX5_init_0 rfl (lv_at hl 0 rfl) ?_
    refine W.objInit hx hb hown (hts (.methodLink RX5 3 objectInit) (by decide +kernel)) (hts (.instanceMethod objectInit) (by decide +kernel)) (hts (.code objectInit ⟨#[0xb1]⟩ 1 none) (by decide +kernel)) rfl (by rw [X.1.2.2.1]; exact hl.1) rfl dX5_init_1 (Nat.le_of_ble_eq_true rfl) (Nat.le_of_ble_eq_true rfl) ?_
    refine W.eq (g2 := F0 m 4 ls []) rfl ?_
    refine lv_aload_n hx hb dX5_init_4 rfl (lv_at hl 0 rfl) ?_
    refine lv_iload_n hx hb dX5_init_5 rfl (lv_at hl 2 rfl) ?_
    refine z_putF (C := RX5) (T := TX5) (N := 10) (ci := 6) (v := .int stg) X J hi_X5 tyX5 tyX5_ok nmX5 qw Fa0 rfl 1 (by decide) (by decide +kernel) rfl hin9 rfl rfl rfl (Nat.le_of_ble_eq_true rfl) dX5_init_6 (fun H locs J => ?_)
    have J : zJ E (ws.set qw (w, .inr (6, [.int 0, .int stg, .int 0, .int 0, .int 0, .int 0, .int 0, .int 0, .int 0, .int 0]))) s H locs := J
    have hk := hk.trans (zK.set (ws := ws) (q := qw) (e := (w, .inr (6, [.int 0, .int stg, .int 0, .int 0, .int 0, .int 0, .int 0, .int 0, .int 0, .int 0]))) (by simp))
    have hlen : (ws.set qw (w, .inr (6, [.int 0, .int stg, .int 0, .int 0, .int 0, .int 0, .int 0, .int 0, .int 0, .int 0]))).length = ws.length + 0 := (List.length_set ..).trans hlen
    have G1_0 := zset_eq (e' := (w, .inr (6, [.int 0, .int stg, .int 0, .int 0, .int 0, .int 0, .int 0, .int 0, .int 0, .int 0]))) Fa0
    generalize hws1 : (ws.set qw (w, .inr (6, [.int 0, .int stg, .int 0, .int 0, .int 0, .int 0, .int 0, .int 0, .int 0, .int 0]))) = ws_1 at J hlen hk G1_0
    refine lv_aload_n hx hb dX5_init_9 rfl (lv_at hl 0 rfl) ?_
    refine lv_iload_n hx hb dX5_init_10 rfl (lv_at hl 3 rfl) ?_
    refine z_putF (C := RX5) (T := TX5) (N := 10) (ci := 6) (v := .int sup) X J hi_X5 tyX5 tyX5_ok nmX5 qw G1_0 rfl 2 (by decide) (by decide +kernel) rfl hin9 rfl rfl rfl (Nat.le_of_ble_eq_true rfl) dX5_init_11 (fun H locs J => ?_)
    have J : zJ E (ws_1.set qw (w, .inr (6, [.int 0, .int stg, .int sup, .int 0, .int 0, .int 0, .int 0, .int 0, .int 0, .int 0]))) s H locs := J
    have hk := hk.trans (zK.set (ws := ws_1) (q := qw) (e := (w, .inr (6, [.int 0, .int stg, .int sup, .int 0, .int 0, .int 0, .int 0, .int 0, .int 0, .int 0]))) (by simp))
    have hlen : (ws_1.set qw (w, .inr (6, [.int 0, .int stg, .int sup, .int 0, .int 0, .int 0, .int 0, .int 0, .int 0, .int 0]))).length = ws.length + 0 := (List.length_set ..).trans hlen
    have G2_0 := zset_eq (e' := (w, .inr (6, [.int 0, .int stg, .int sup, .int 0, .int 0, .int 0, .int 0, .int 0, .int 0, .int 0]))) G1_0
    generalize hws2 : (ws_1.set qw (w, .inr (6, [.int 0, .int stg, .int sup, .int 0, .int 0, .int 0, .int 0, .int 0, .int 0, .int 0]))) = ws_2 at J hlen hk G2_0
    refine lv_aload_n hx hb dX5_init_14 rfl (lv_at hl 0 rfl) ?_
    refine lv_iload_n hx hb dX5_init_15 rfl (lv_at hl 1 rfl) ?_
    refine lv_iconst (v := 1) hx hb dX5_init_16 (by decide) ?_
    refine lv_icmp_eq (tgt := 25) hx hb dX5_init_17 (by decide) (fun cz17 => by exact absurd cz17 (by decide)) (fun cz17 => ?_)
    refine lv_iload_n hx hb dX5_init_20 rfl (lv_at hl 1 rfl) ?_
    refine lv_iconst (v := 3) hx hb dX5_init_21 (by decide) ?_
    refine lv_icmp_ne (tgt := 29) hx hb dX5_init_22 (by decide) (fun cz22 => ?_) (fun cz22 => by exact absurd cz22 (by decide))
    refine lv_iconst (v := 0) hx hb dX5_init_29 (by decide) ?_
    refine z_putF (C := RX5) (T := TX5) (N := 10) (ci := 6) (v := .int 0) X J hi_X5 tyX5 tyX5_ok nmX5 qw G2_0 rfl 0 (by decide) (by decide +kernel) rfl hin9 rfl rfl rfl (Nat.le_of_ble_eq_true rfl) dX5_init_30 (fun H locs J => ?_)
    have J : zJ E (ws_2.set qw (w, .inr (6, [.int 0, .int stg, .int sup, .int 0, .int 0, .int 0, .int 0, .int 0, .int 0, .int 0]))) s H locs := J
    have hk := hk.trans (zK.set (ws := ws_2) (q := qw) (e := (w, .inr (6, [.int 0, .int stg, .int sup, .int 0, .int 0, .int 0, .int 0, .int 0, .int 0, .int 0]))) (by simp))
    have hlen : (ws_2.set qw (w, .inr (6, [.int 0, .int stg, .int sup, .int 0, .int 0, .int 0, .int 0, .int 0, .int 0, .int 0]))).length = ws.length + 0 := (List.length_set ..).trans hlen
    have G3_0 := zset_eq (e' := (w, .inr (6, [.int 0, .int stg, .int sup, .int 0, .int 0, .int 0, .int 0, .int 0, .int 0, .int 0]))) G2_0
    generalize hws3 : (ws_2.set qw (w, .inr (6, [.int 0, .int stg, .int sup, .int 0, .int 0, .int 0, .int 0, .int 0, .int 0, .int 0]))) = ws_3 at J hlen hk G3_0
    refine lv_iload_n hx hb dX5_init_33 rfl (lv_at hl 1 rfl) ?_
    refine lv_iconst (v := 2) hx hb dX5_init_34 (by decide) ?_
    refine lv_icmp_eq (tgt := 43) hx hb dX5_init_35 (by decide) (fun cz35 => by exact absurd cz35 (by decide)) (fun cz35 => ?_)
    refine lv_iload_n hx hb dX5_init_38 rfl (lv_at hl 1 rfl) ?_
    refine lv_iconst (v := 3) hx hb dX5_init_39 (by decide) ?_
    refine lv_icmp_ne (tgt := 47) hx hb dX5_init_40 (by decide) (fun cz40 => ?_) (fun cz40 => by exact absurd cz40 (by decide))
    refine lv_iconst (v := 0) hx hb dX5_init_47 (by decide) ?_
    refine lv_istore (lv' := [(4, .int 0), (0, .ref w), (1, .int 0), (2, .int stg), (3, .int sup)]) hx hb dX5_init_48 hl (by decide) rfl (fun ls hl => ?_)
    refine lv_aload_n hx hb dX5_init_50 rfl (lv_at hl 1 rfl) ?_
    refine z_get (C := RX5) (T := TX5) (N := 10) (ci := 6) (v := .int 0) X J hi_X5 qw G3_0 rfl 0 (by decide) (by decide +kernel) rfl dX5_init_51 ?_
    refine lv_if_eq (tgt := 62) hx hb dX5_init_54 (by decide) (fun cz54 => ?_) (fun cz54 => by exact absurd cz54 (by decide))
    refine lv_iconst (v := 1) hx hb dX5_init_62 (by decide) ?_
    refine lv_istore (lv' := [(5, .int 1), (4, .int 0), (0, .ref w), (1, .int 0), (2, .int stg), (3, .int sup)]) hx hb dX5_init_63 hl (by decide) rfl (fun ls hl => ?_)
    refine lv_aload_n hx hb dX5_init_65 rfl (lv_at hl 2 rfl) ?_
    refine lv_iload hx hb dX5_init_66 (lv_at hl 1 rfl) ?_
    refine lv_if_eq (tgt := 79) hx hb dX5_init_68 (by decide) (fun cz68 => ?_) (fun cz68 => by exact absurd cz68 (by decide))
    refine lv_iconst (v := 0) hx hb dX5_init_79 (by decide) ?_
    refine z_putF (C := RX5) (T := TX5) (N := 10) (ci := 6) (v := .int 0) X J hi_X5 tyX5 tyX5_ok nmX5 qw G3_0 rfl 3 (by decide) (by decide +kernel) rfl hin9 rfl rfl rfl (Nat.le_of_ble_eq_true rfl) dX5_init_80 (fun H locs J => ?_)
    have J : zJ E (ws_3.set qw (w, .inr (6, [.int 0, .int stg, .int sup, .int 0, .int 0, .int 0, .int 0, .int 0, .int 0, .int 0]))) s H locs := J
    have hk := hk.trans (zK.set (ws := ws_3) (q := qw) (e := (w, .inr (6, [.int 0, .int stg, .int sup, .int 0, .int 0, .int 0, .int 0, .int 0, .int 0, .int 0]))) (by simp))
    have hlen : (ws_3.set qw (w, .inr (6, [.int 0, .int stg, .int sup, .int 0, .int 0, .int 0, .int 0, .int 0, .int 0, .int 0]))).length = ws.length + 0 := (List.length_set ..).trans hlen
    have G4_0 := zset_eq (e' := (w, .inr (6, [.int 0, .int stg, .int sup, .int 0, .int 0, .int 0, .int 0, .int 0, .int 0, .int 0]))) G3_0
    generalize hws4 : (ws_3.set qw (w, .inr (6, [.int 0, .int stg, .int sup, .int 0, .int 0, .int 0, .int 0, .int 0, .int 0, .int 0]))) = ws_4 at J hlen hk G4_0
    refine lv_aload_n hx hb dX5_init_83 rfl (lv_at hl 2 rfl) ?_
    refine lv_iload hx hb dX5_init_84 (lv_at hl 1 rfl) ?_
    refine lv_if_eq (tgt := 95) hx hb dX5_init_86 (by decide) (fun cz86 => ?_) (fun cz86 => by exact absurd cz86 (by decide))
    refine lv_iload hx hb dX5_init_95 (lv_at hl 0 rfl) ?_
    refine z_putF (C := RX5) (T := TX5) (N := 10) (ci := 6) (v := .int 1) X J hi_X5 tyX5 tyX5_ok nmX5 qw G4_0 rfl 4 (by decide) (by decide +kernel) rfl hin9 rfl rfl rfl (Nat.le_of_ble_eq_true rfl) dX5_init_97 (fun H locs J => ?_)
    have J : zJ E (ws_4.set qw (w, .inr (6, [.int 0, .int stg, .int sup, .int 0, .int 1, .int 0, .int 0, .int 0, .int 0, .int 0]))) s H locs := J
    have hk := hk.trans (zK.set (ws := ws_4) (q := qw) (e := (w, .inr (6, [.int 0, .int stg, .int sup, .int 0, .int 1, .int 0, .int 0, .int 0, .int 0, .int 0]))) (by simp))
    have hlen : (ws_4.set qw (w, .inr (6, [.int 0, .int stg, .int sup, .int 0, .int 1, .int 0, .int 0, .int 0, .int 0, .int 0]))).length = ws.length + 0 := (List.length_set ..).trans hlen
    have G5_0 := zset_eq (e' := (w, .inr (6, [.int 0, .int stg, .int sup, .int 0, .int 1, .int 0, .int 0, .int 0, .int 0, .int 0]))) G4_0
    generalize hws5 : (ws_4.set qw (w, .inr (6, [.int 0, .int stg, .int sup, .int 0, .int 1, .int 0, .int 0, .int 0, .int 0, .int 0]))) = ws_5 at J hlen hk G5_0
    refine lv_aload_n hx hb dX5_init_100 rfl (lv_at hl 2 rfl) ?_
    refine lv_aload_n hx hb dX5_init_101 rfl (lv_at hl 2 rfl) ?_
    refine z_get (C := RX5) (T := TX5) (N := 10) (ci := 6) (v := .int 0) X J hi_X5 qw G5_0 rfl 0 (by decide) (by decide +kernel) rfl dX5_init_102 ?_
    refine lv_if_eq (tgt := 112) hx hb dX5_init_105 (by decide) (fun cz105 => ?_) (fun cz105 => by exact absurd cz105 (by decide))
    refine lv_bipush (v := 20) hx hb dX5_init_112 (by decide) ?_
    refine z_putF (C := RX5) (T := TX5) (N := 10) (ci := 6) (v := .int 20) X J hi_X5 tyX5 tyX5_ok nmX5 qw G5_0 rfl 5 (by decide) (by decide +kernel) rfl hin9 rfl rfl rfl (Nat.le_of_ble_eq_true rfl) dX5_init_114 (fun H locs J => ?_)
    have J : zJ E (ws_5.set qw (w, .inr (6, [.int 0, .int stg, .int sup, .int 0, .int 1, .int 20, .int 0, .int 0, .int 0, .int 0]))) s H locs := J
    have hk := hk.trans (zK.set (ws := ws_5) (q := qw) (e := (w, .inr (6, [.int 0, .int stg, .int sup, .int 0, .int 1, .int 20, .int 0, .int 0, .int 0, .int 0]))) (by simp))
    have hlen : (ws_5.set qw (w, .inr (6, [.int 0, .int stg, .int sup, .int 0, .int 1, .int 20, .int 0, .int 0, .int 0, .int 0]))).length = ws.length + 0 := (List.length_set ..).trans hlen
    have G6_0 := zset_eq (e' := (w, .inr (6, [.int 0, .int stg, .int sup, .int 0, .int 1, .int 20, .int 0, .int 0, .int 0, .int 0]))) G5_0
    generalize hws6 : (ws_5.set qw (w, .inr (6, [.int 0, .int stg, .int sup, .int 0, .int 1, .int 20, .int 0, .int 0, .int 0, .int 0]))) = ws_6 at J hlen hk G6_0
    subst hQ
    exact W.vret hx hb hr (fun t ht hW => ⟨⟨ws_6, rfl, ⟨hk, hlen, (by rw [show wdn 0 = 0 from by decide, show wfc 0 = 0 from by decide, show wnc 0 = 1 from by decide, show wnl 0 = 20 from by decide]; exact G6_0)⟩, J.I X ht hW.alike⟩, J.F ht⟩) J.locs dX5_init_117
  · refine lv_aload_n hx hb dX5_init_0 rfl (lv_at hl 0 rfl) ?_
    refine W.objInit hx hb hown (hts (.methodLink RX5 3 objectInit) (by decide +kernel)) (hts (.instanceMethod objectInit) (by decide +kernel)) (hts (.code objectInit ⟨#[0xb1]⟩ 1 none) (by decide +kernel)) rfl (by rw [X.1.2.2.1]; exact hl.1) rfl dX5_init_1 (Nat.le_of_ble_eq_true rfl) (Nat.le_of_ble_eq_true rfl) ?_
    refine W.eq (g2 := F0 m 4 ls []) rfl ?_
    refine lv_aload_n hx hb dX5_init_4 rfl (lv_at hl 0 rfl) ?_
    refine lv_iload_n hx hb dX5_init_5 rfl (lv_at hl 2 rfl) ?_
    refine z_putF (C := RX5) (T := TX5) (N := 10) (ci := 6) (v := .int stg) X J hi_X5 tyX5 tyX5_ok nmX5 qw Fa0 rfl 1 (by decide) (by decide +kernel) rfl hin9 rfl rfl rfl (Nat.le_of_ble_eq_true rfl) dX5_init_6 (fun H locs J => ?_)
    have J : zJ E (ws.set qw (w, .inr (6, [.int 0, .int stg, .int 0, .int 0, .int 0, .int 0, .int 0, .int 0, .int 0, .int 0]))) s H locs := J
    have hk := hk.trans (zK.set (ws := ws) (q := qw) (e := (w, .inr (6, [.int 0, .int stg, .int 0, .int 0, .int 0, .int 0, .int 0, .int 0, .int 0, .int 0]))) (by simp))
    have hlen : (ws.set qw (w, .inr (6, [.int 0, .int stg, .int 0, .int 0, .int 0, .int 0, .int 0, .int 0, .int 0, .int 0]))).length = ws.length + 0 := (List.length_set ..).trans hlen
    have G1_0 := zset_eq (e' := (w, .inr (6, [.int 0, .int stg, .int 0, .int 0, .int 0, .int 0, .int 0, .int 0, .int 0, .int 0]))) Fa0
    generalize hws1 : (ws.set qw (w, .inr (6, [.int 0, .int stg, .int 0, .int 0, .int 0, .int 0, .int 0, .int 0, .int 0, .int 0]))) = ws_1 at J hlen hk G1_0
    refine lv_aload_n hx hb dX5_init_9 rfl (lv_at hl 0 rfl) ?_
    refine lv_iload_n hx hb dX5_init_10 rfl (lv_at hl 3 rfl) ?_
    refine z_putF (C := RX5) (T := TX5) (N := 10) (ci := 6) (v := .int sup) X J hi_X5 tyX5 tyX5_ok nmX5 qw G1_0 rfl 2 (by decide) (by decide +kernel) rfl hin9 rfl rfl rfl (Nat.le_of_ble_eq_true rfl) dX5_init_11 (fun H locs J => ?_)
    have J : zJ E (ws_1.set qw (w, .inr (6, [.int 0, .int stg, .int sup, .int 0, .int 0, .int 0, .int 0, .int 0, .int 0, .int 0]))) s H locs := J
    have hk := hk.trans (zK.set (ws := ws_1) (q := qw) (e := (w, .inr (6, [.int 0, .int stg, .int sup, .int 0, .int 0, .int 0, .int 0, .int 0, .int 0, .int 0]))) (by simp))
    have hlen : (ws_1.set qw (w, .inr (6, [.int 0, .int stg, .int sup, .int 0, .int 0, .int 0, .int 0, .int 0, .int 0, .int 0]))).length = ws.length + 0 := (List.length_set ..).trans hlen
    have G2_0 := zset_eq (e' := (w, .inr (6, [.int 0, .int stg, .int sup, .int 0, .int 0, .int 0, .int 0, .int 0, .int 0, .int 0]))) G1_0
    generalize hws2 : (ws_1.set qw (w, .inr (6, [.int 0, .int stg, .int sup, .int 0, .int 0, .int 0, .int 0, .int 0, .int 0, .int 0]))) = ws_2 at J hlen hk G2_0
    refine lv_aload_n hx hb dX5_init_14 rfl (lv_at hl 0 rfl) ?_
    refine lv_iload_n hx hb dX5_init_15 rfl (lv_at hl 1 rfl) ?_
    refine lv_iconst (v := 1) hx hb dX5_init_16 (by decide) ?_
    refine lv_icmp_eq (tgt := 25) hx hb dX5_init_17 (by decide) (fun cz17 => ?_) (fun cz17 => by exact absurd cz17 (by decide))
    refine lv_iconst (v := 1) hx hb dX5_init_25 (by decide) ?_
    refine lv_goto (tgt := 30) hx hb dX5_init_26 (by decide) ?_
    refine z_putF (C := RX5) (T := TX5) (N := 10) (ci := 6) (v := .int 1) X J hi_X5 tyX5 tyX5_ok nmX5 qw G2_0 rfl 0 (by decide) (by decide +kernel) rfl hin9 rfl rfl rfl (Nat.le_of_ble_eq_true rfl) dX5_init_30 (fun H locs J => ?_)
    have J : zJ E (ws_2.set qw (w, .inr (6, [.int 1, .int stg, .int sup, .int 0, .int 0, .int 0, .int 0, .int 0, .int 0, .int 0]))) s H locs := J
    have hk := hk.trans (zK.set (ws := ws_2) (q := qw) (e := (w, .inr (6, [.int 1, .int stg, .int sup, .int 0, .int 0, .int 0, .int 0, .int 0, .int 0, .int 0]))) (by simp))
    have hlen : (ws_2.set qw (w, .inr (6, [.int 1, .int stg, .int sup, .int 0, .int 0, .int 0, .int 0, .int 0, .int 0, .int 0]))).length = ws.length + 0 := (List.length_set ..).trans hlen
    have G3_0 := zset_eq (e' := (w, .inr (6, [.int 1, .int stg, .int sup, .int 0, .int 0, .int 0, .int 0, .int 0, .int 0, .int 0]))) G2_0
    generalize hws3 : (ws_2.set qw (w, .inr (6, [.int 1, .int stg, .int sup, .int 0, .int 0, .int 0, .int 0, .int 0, .int 0, .int 0]))) = ws_3 at J hlen hk G3_0
    refine lv_iload_n hx hb dX5_init_33 rfl (lv_at hl 1 rfl) ?_
    refine lv_iconst (v := 2) hx hb dX5_init_34 (by decide) ?_
    refine lv_icmp_eq (tgt := 43) hx hb dX5_init_35 (by decide) (fun cz35 => by exact absurd cz35 (by decide)) (fun cz35 => ?_)
    refine lv_iload_n hx hb dX5_init_38 rfl (lv_at hl 1 rfl) ?_
    refine lv_iconst (v := 3) hx hb dX5_init_39 (by decide) ?_
    refine lv_icmp_ne (tgt := 47) hx hb dX5_init_40 (by decide) (fun cz40 => ?_) (fun cz40 => by exact absurd cz40 (by decide))
    refine lv_iconst (v := 0) hx hb dX5_init_47 (by decide) ?_
    refine lv_istore (lv' := [(4, .int 0), (0, .ref w), (1, .int 1), (2, .int stg), (3, .int sup)]) hx hb dX5_init_48 hl (by decide) rfl (fun ls hl => ?_)
    refine lv_aload_n hx hb dX5_init_50 rfl (lv_at hl 1 rfl) ?_
    refine z_get (C := RX5) (T := TX5) (N := 10) (ci := 6) (v := .int 1) X J hi_X5 qw G3_0 rfl 0 (by decide) (by decide +kernel) rfl dX5_init_51 ?_
    refine lv_if_eq (tgt := 62) hx hb dX5_init_54 (by decide) (fun cz54 => by exact absurd cz54 (by decide)) (fun cz54 => ?_)
    refine lv_bipush (v := 20) hx hb dX5_init_57 (by decide) ?_
    refine lv_goto (tgt := 63) hx hb dX5_init_59 (by decide) ?_
    refine lv_istore (lv' := [(5, .int 20), (4, .int 0), (0, .ref w), (1, .int 1), (2, .int stg), (3, .int sup)]) hx hb dX5_init_63 hl (by decide) rfl (fun ls hl => ?_)
    refine lv_aload_n hx hb dX5_init_65 rfl (lv_at hl 2 rfl) ?_
    refine lv_iload hx hb dX5_init_66 (lv_at hl 1 rfl) ?_
    refine lv_if_eq (tgt := 79) hx hb dX5_init_68 (by decide) (fun cz68 => ?_) (fun cz68 => by exact absurd cz68 (by decide))
    refine lv_iconst (v := 0) hx hb dX5_init_79 (by decide) ?_
    refine z_putF (C := RX5) (T := TX5) (N := 10) (ci := 6) (v := .int 0) X J hi_X5 tyX5 tyX5_ok nmX5 qw G3_0 rfl 3 (by decide) (by decide +kernel) rfl hin9 rfl rfl rfl (Nat.le_of_ble_eq_true rfl) dX5_init_80 (fun H locs J => ?_)
    have J : zJ E (ws_3.set qw (w, .inr (6, [.int 1, .int stg, .int sup, .int 0, .int 0, .int 0, .int 0, .int 0, .int 0, .int 0]))) s H locs := J
    have hk := hk.trans (zK.set (ws := ws_3) (q := qw) (e := (w, .inr (6, [.int 1, .int stg, .int sup, .int 0, .int 0, .int 0, .int 0, .int 0, .int 0, .int 0]))) (by simp))
    have hlen : (ws_3.set qw (w, .inr (6, [.int 1, .int stg, .int sup, .int 0, .int 0, .int 0, .int 0, .int 0, .int 0, .int 0]))).length = ws.length + 0 := (List.length_set ..).trans hlen
    have G4_0 := zset_eq (e' := (w, .inr (6, [.int 1, .int stg, .int sup, .int 0, .int 0, .int 0, .int 0, .int 0, .int 0, .int 0]))) G3_0
    generalize hws4 : (ws_3.set qw (w, .inr (6, [.int 1, .int stg, .int sup, .int 0, .int 0, .int 0, .int 0, .int 0, .int 0, .int 0]))) = ws_4 at J hlen hk G4_0
    refine lv_aload_n hx hb dX5_init_83 rfl (lv_at hl 2 rfl) ?_
    refine lv_iload hx hb dX5_init_84 (lv_at hl 1 rfl) ?_
    refine lv_if_eq (tgt := 95) hx hb dX5_init_86 (by decide) (fun cz86 => ?_) (fun cz86 => by exact absurd cz86 (by decide))
    refine lv_iload hx hb dX5_init_95 (lv_at hl 0 rfl) ?_
    refine z_putF (C := RX5) (T := TX5) (N := 10) (ci := 6) (v := .int 20) X J hi_X5 tyX5 tyX5_ok nmX5 qw G4_0 rfl 4 (by decide) (by decide +kernel) rfl hin9 rfl rfl rfl (Nat.le_of_ble_eq_true rfl) dX5_init_97 (fun H locs J => ?_)
    have J : zJ E (ws_4.set qw (w, .inr (6, [.int 1, .int stg, .int sup, .int 0, .int 20, .int 0, .int 0, .int 0, .int 0, .int 0]))) s H locs := J
    have hk := hk.trans (zK.set (ws := ws_4) (q := qw) (e := (w, .inr (6, [.int 1, .int stg, .int sup, .int 0, .int 20, .int 0, .int 0, .int 0, .int 0, .int 0]))) (by simp))
    have hlen : (ws_4.set qw (w, .inr (6, [.int 1, .int stg, .int sup, .int 0, .int 20, .int 0, .int 0, .int 0, .int 0, .int 0]))).length = ws.length + 0 := (List.length_set ..).trans hlen
    have G5_0 := zset_eq (e' := (w, .inr (6, [.int 1, .int stg, .int sup, .int 0, .int 20, .int 0, .int 0, .int 0, .int 0, .int 0]))) G4_0
    generalize hws5 : (ws_4.set qw (w, .inr (6, [.int 1, .int stg, .int sup, .int 0, .int 20, .int 0, .int 0, .int 0, .int 0, .int 0]))) = ws_5 at J hlen hk G5_0
    refine lv_aload_n hx hb dX5_init_100 rfl (lv_at hl 2 rfl) ?_
    refine lv_aload_n hx hb dX5_init_101 rfl (lv_at hl 2 rfl) ?_
    refine z_get (C := RX5) (T := TX5) (N := 10) (ci := 6) (v := .int 1) X J hi_X5 qw G5_0 rfl 0 (by decide) (by decide +kernel) rfl dX5_init_102 ?_
    refine lv_if_eq (tgt := 112) hx hb dX5_init_105 (by decide) (fun cz105 => by exact absurd cz105 (by decide)) (fun cz105 => ?_)
    refine lv_iconst (v := 1) hx hb dX5_init_108 (by decide) ?_
    refine lv_goto (tgt := 114) hx hb dX5_init_109 (by decide) ?_
    refine z_putF (C := RX5) (T := TX5) (N := 10) (ci := 6) (v := .int 1) X J hi_X5 tyX5 tyX5_ok nmX5 qw G5_0 rfl 5 (by decide) (by decide +kernel) rfl hin9 rfl rfl rfl (Nat.le_of_ble_eq_true rfl) dX5_init_114 (fun H locs J => ?_)
    have J : zJ E (ws_5.set qw (w, .inr (6, [.int 1, .int stg, .int sup, .int 0, .int 20, .int 1, .int 0, .int 0, .int 0, .int 0]))) s H locs := J
    have hk := hk.trans (zK.set (ws := ws_5) (q := qw) (e := (w, .inr (6, [.int 1, .int stg, .int sup, .int 0, .int 20, .int 1, .int 0, .int 0, .int 0, .int 0]))) (by simp))
    have hlen : (ws_5.set qw (w, .inr (6, [.int 1, .int stg, .int sup, .int 0, .int 20, .int 1, .int 0, .int 0, .int 0, .int 0]))).length = ws.length + 0 := (List.length_set ..).trans hlen
    have G6_0 := zset_eq (e' := (w, .inr (6, [.int 1, .int stg, .int sup, .int 0, .int 20, .int 1, .int 0, .int 0, .int 0, .int 0]))) G5_0
    generalize hws6 : (ws_5.set qw (w, .inr (6, [.int 1, .int stg, .int sup, .int 0, .int 20, .int 1, .int 0, .int 0, .int 0, .int 0]))) = ws_6 at J hlen hk G6_0
    subst hQ
    exact W.vret hx hb hr (fun t ht hW => ⟨⟨ws_6, rfl, ⟨hk, hlen, (by rw [show wdn 1 = 1 from by decide, show wfc 1 = 0 from by decide, show wnc 1 = 20 from by decide, show wnl 1 = 1 from by decide]; exact G6_0)⟩, J.I X ht hW.alike⟩, J.F ht⟩) J.locs dX5_init_117
  · refine lv_aload_n hx hb dX5_init_0 rfl (lv_at hl 0 rfl) ?_
    refine W.objInit hx hb hown (hts (.methodLink RX5 3 objectInit) (by decide +kernel)) (hts (.instanceMethod objectInit) (by decide +kernel)) (hts (.code objectInit ⟨#[0xb1]⟩ 1 none) (by decide +kernel)) rfl (by rw [X.1.2.2.1]; exact hl.1) rfl dX5_init_1 (Nat.le_of_ble_eq_true rfl) (Nat.le_of_ble_eq_true rfl) ?_
    refine W.eq (g2 := F0 m 4 ls []) rfl ?_
    refine lv_aload_n hx hb dX5_init_4 rfl (lv_at hl 0 rfl) ?_
    refine lv_iload_n hx hb dX5_init_5 rfl (lv_at hl 2 rfl) ?_
    refine z_putF (C := RX5) (T := TX5) (N := 10) (ci := 6) (v := .int stg) X J hi_X5 tyX5 tyX5_ok nmX5 qw Fa0 rfl 1 (by decide) (by decide +kernel) rfl hin9 rfl rfl rfl (Nat.le_of_ble_eq_true rfl) dX5_init_6 (fun H locs J => ?_)
    have J : zJ E (ws.set qw (w, .inr (6, [.int 0, .int stg, .int 0, .int 0, .int 0, .int 0, .int 0, .int 0, .int 0, .int 0]))) s H locs := J
    have hk := hk.trans (zK.set (ws := ws) (q := qw) (e := (w, .inr (6, [.int 0, .int stg, .int 0, .int 0, .int 0, .int 0, .int 0, .int 0, .int 0, .int 0]))) (by simp))
    have hlen : (ws.set qw (w, .inr (6, [.int 0, .int stg, .int 0, .int 0, .int 0, .int 0, .int 0, .int 0, .int 0, .int 0]))).length = ws.length + 0 := (List.length_set ..).trans hlen
    have G1_0 := zset_eq (e' := (w, .inr (6, [.int 0, .int stg, .int 0, .int 0, .int 0, .int 0, .int 0, .int 0, .int 0, .int 0]))) Fa0
    generalize hws1 : (ws.set qw (w, .inr (6, [.int 0, .int stg, .int 0, .int 0, .int 0, .int 0, .int 0, .int 0, .int 0, .int 0]))) = ws_1 at J hlen hk G1_0
    refine lv_aload_n hx hb dX5_init_9 rfl (lv_at hl 0 rfl) ?_
    refine lv_iload_n hx hb dX5_init_10 rfl (lv_at hl 3 rfl) ?_
    refine z_putF (C := RX5) (T := TX5) (N := 10) (ci := 6) (v := .int sup) X J hi_X5 tyX5 tyX5_ok nmX5 qw G1_0 rfl 2 (by decide) (by decide +kernel) rfl hin9 rfl rfl rfl (Nat.le_of_ble_eq_true rfl) dX5_init_11 (fun H locs J => ?_)
    have J : zJ E (ws_1.set qw (w, .inr (6, [.int 0, .int stg, .int sup, .int 0, .int 0, .int 0, .int 0, .int 0, .int 0, .int 0]))) s H locs := J
    have hk := hk.trans (zK.set (ws := ws_1) (q := qw) (e := (w, .inr (6, [.int 0, .int stg, .int sup, .int 0, .int 0, .int 0, .int 0, .int 0, .int 0, .int 0]))) (by simp))
    have hlen : (ws_1.set qw (w, .inr (6, [.int 0, .int stg, .int sup, .int 0, .int 0, .int 0, .int 0, .int 0, .int 0, .int 0]))).length = ws.length + 0 := (List.length_set ..).trans hlen
    have G2_0 := zset_eq (e' := (w, .inr (6, [.int 0, .int stg, .int sup, .int 0, .int 0, .int 0, .int 0, .int 0, .int 0, .int 0]))) G1_0
    generalize hws2 : (ws_1.set qw (w, .inr (6, [.int 0, .int stg, .int sup, .int 0, .int 0, .int 0, .int 0, .int 0, .int 0, .int 0]))) = ws_2 at J hlen hk G2_0
    refine lv_aload_n hx hb dX5_init_14 rfl (lv_at hl 0 rfl) ?_
    refine lv_iload_n hx hb dX5_init_15 rfl (lv_at hl 1 rfl) ?_
    refine lv_iconst (v := 1) hx hb dX5_init_16 (by decide) ?_
    refine lv_icmp_eq (tgt := 25) hx hb dX5_init_17 (by decide) (fun cz17 => by exact absurd cz17 (by decide)) (fun cz17 => ?_)
    refine lv_iload_n hx hb dX5_init_20 rfl (lv_at hl 1 rfl) ?_
    refine lv_iconst (v := 3) hx hb dX5_init_21 (by decide) ?_
    refine lv_icmp_ne (tgt := 29) hx hb dX5_init_22 (by decide) (fun cz22 => ?_) (fun cz22 => by exact absurd cz22 (by decide))
    refine lv_iconst (v := 0) hx hb dX5_init_29 (by decide) ?_
    refine z_putF (C := RX5) (T := TX5) (N := 10) (ci := 6) (v := .int 0) X J hi_X5 tyX5 tyX5_ok nmX5 qw G2_0 rfl 0 (by decide) (by decide +kernel) rfl hin9 rfl rfl rfl (Nat.le_of_ble_eq_true rfl) dX5_init_30 (fun H locs J => ?_)
    have J : zJ E (ws_2.set qw (w, .inr (6, [.int 0, .int stg, .int sup, .int 0, .int 0, .int 0, .int 0, .int 0, .int 0, .int 0]))) s H locs := J
    have hk := hk.trans (zK.set (ws := ws_2) (q := qw) (e := (w, .inr (6, [.int 0, .int stg, .int sup, .int 0, .int 0, .int 0, .int 0, .int 0, .int 0, .int 0]))) (by simp))
    have hlen : (ws_2.set qw (w, .inr (6, [.int 0, .int stg, .int sup, .int 0, .int 0, .int 0, .int 0, .int 0, .int 0, .int 0]))).length = ws.length + 0 := (List.length_set ..).trans hlen
    have G3_0 := zset_eq (e' := (w, .inr (6, [.int 0, .int stg, .int sup, .int 0, .int 0, .int 0, .int 0, .int 0, .int 0, .int 0]))) G2_0
    generalize hws3 : (ws_2.set qw (w, .inr (6, [.int 0, .int stg, .int sup, .int 0, .int 0, .int 0, .int 0, .int 0, .int 0, .int 0]))) = ws_3 at J hlen hk G3_0
    refine lv_iload_n hx hb dX5_init_33 rfl (lv_at hl 1 rfl) ?_
    refine lv_iconst (v := 2) hx hb dX5_init_34 (by decide) ?_
    refine lv_icmp_eq (tgt := 43) hx hb dX5_init_35 (by decide) (fun cz35 => ?_) (fun cz35 => by exact absurd cz35 (by decide))
    refine lv_iconst (v := 1) hx hb dX5_init_43 (by decide) ?_
    refine lv_goto (tgt := 48) hx hb dX5_init_44 (by decide) ?_
    refine lv_istore (lv' := [(4, .int 1), (0, .ref w), (1, .int 2), (2, .int stg), (3, .int sup)]) hx hb dX5_init_48 hl (by decide) rfl (fun ls hl => ?_)
    refine lv_aload_n hx hb dX5_init_50 rfl (lv_at hl 1 rfl) ?_
    refine z_get (C := RX5) (T := TX5) (N := 10) (ci := 6) (v := .int 0) X J hi_X5 qw G3_0 rfl 0 (by decide) (by decide +kernel) rfl dX5_init_51 ?_
    refine lv_if_eq (tgt := 62) hx hb dX5_init_54 (by decide) (fun cz54 => ?_) (fun cz54 => by exact absurd cz54 (by decide))
    refine lv_iconst (v := 1) hx hb dX5_init_62 (by decide) ?_
    refine lv_istore (lv' := [(5, .int 1), (4, .int 1), (0, .ref w), (1, .int 2), (2, .int stg), (3, .int sup)]) hx hb dX5_init_63 hl (by decide) rfl (fun ls hl => ?_)
    refine lv_aload_n hx hb dX5_init_65 rfl (lv_at hl 2 rfl) ?_
    refine lv_iload hx hb dX5_init_66 (lv_at hl 1 rfl) ?_
    refine lv_if_eq (tgt := 79) hx hb dX5_init_68 (by decide) (fun cz68 => by exact absurd cz68 (by decide)) (fun cz68 => ?_)
    refine lv_iload hx hb dX5_init_71 (lv_at hl 0 rfl) ?_
    refine lv_bipush (v := 19) hx hb dX5_init_73 (by decide) ?_
    refine lv_imul hx hb dX5_init_75 ?_
    refine lv_goto (tgt := 80) hx hb dX5_init_76 (by decide) ?_
    refine z_putF (C := RX5) (T := TX5) (N := 10) (ci := 6) (v := .int (1 * 19)) X J hi_X5 tyX5 tyX5_ok nmX5 qw G3_0 rfl 3 (by decide) (by decide +kernel) rfl hin9 rfl rfl rfl (Nat.le_of_ble_eq_true rfl) dX5_init_80 (fun H locs J => ?_)
    have J : zJ E (ws_3.set qw (w, .inr (6, [.int 0, .int stg, .int sup, .int (1 * 19), .int 0, .int 0, .int 0, .int 0, .int 0, .int 0]))) s H locs := J
    have hk := hk.trans (zK.set (ws := ws_3) (q := qw) (e := (w, .inr (6, [.int 0, .int stg, .int sup, .int (1 * 19), .int 0, .int 0, .int 0, .int 0, .int 0, .int 0]))) (by simp))
    have hlen : (ws_3.set qw (w, .inr (6, [.int 0, .int stg, .int sup, .int (1 * 19), .int 0, .int 0, .int 0, .int 0, .int 0, .int 0]))).length = ws.length + 0 := (List.length_set ..).trans hlen
    have G4_0 := zset_eq (e' := (w, .inr (6, [.int 0, .int stg, .int sup, .int (1 * 19), .int 0, .int 0, .int 0, .int 0, .int 0, .int 0]))) G3_0
    generalize hws4 : (ws_3.set qw (w, .inr (6, [.int 0, .int stg, .int sup, .int (1 * 19), .int 0, .int 0, .int 0, .int 0, .int 0, .int 0]))) = ws_4 at J hlen hk G4_0
    refine lv_aload_n hx hb dX5_init_83 rfl (lv_at hl 2 rfl) ?_
    refine lv_iload hx hb dX5_init_84 (lv_at hl 1 rfl) ?_
    refine lv_if_eq (tgt := 95) hx hb dX5_init_86 (by decide) (fun cz86 => by exact absurd cz86 (by decide)) (fun cz86 => ?_)
    refine lv_iload hx hb dX5_init_89 (lv_at hl 0 rfl) ?_
    refine lv_ineg hx hb dX5_init_91 ?_
    refine lv_goto (tgt := 97) hx hb dX5_init_92 (by decide) ?_
    refine z_putF (C := RX5) (T := TX5) (N := 10) (ci := 6) (v := .int (-1)) X J hi_X5 tyX5 tyX5_ok nmX5 qw G4_0 rfl 4 (by decide) (by decide +kernel) rfl hin9 rfl rfl rfl (Nat.le_of_ble_eq_true rfl) dX5_init_97 (fun H locs J => ?_)
    have J : zJ E (ws_4.set qw (w, .inr (6, [.int 0, .int stg, .int sup, .int (1 * 19), .int (-1), .int 0, .int 0, .int 0, .int 0, .int 0]))) s H locs := J
    have hk := hk.trans (zK.set (ws := ws_4) (q := qw) (e := (w, .inr (6, [.int 0, .int stg, .int sup, .int (1 * 19), .int (-1), .int 0, .int 0, .int 0, .int 0, .int 0]))) (by simp))
    have hlen : (ws_4.set qw (w, .inr (6, [.int 0, .int stg, .int sup, .int (1 * 19), .int (-1), .int 0, .int 0, .int 0, .int 0, .int 0]))).length = ws.length + 0 := (List.length_set ..).trans hlen
    have G5_0 := zset_eq (e' := (w, .inr (6, [.int 0, .int stg, .int sup, .int (1 * 19), .int (-1), .int 0, .int 0, .int 0, .int 0, .int 0]))) G4_0
    generalize hws5 : (ws_4.set qw (w, .inr (6, [.int 0, .int stg, .int sup, .int (1 * 19), .int (-1), .int 0, .int 0, .int 0, .int 0, .int 0]))) = ws_5 at J hlen hk G5_0
    refine lv_aload_n hx hb dX5_init_100 rfl (lv_at hl 2 rfl) ?_
    refine lv_aload_n hx hb dX5_init_101 rfl (lv_at hl 2 rfl) ?_
    refine z_get (C := RX5) (T := TX5) (N := 10) (ci := 6) (v := .int 0) X J hi_X5 qw G5_0 rfl 0 (by decide) (by decide +kernel) rfl dX5_init_102 ?_
    refine lv_if_eq (tgt := 112) hx hb dX5_init_105 (by decide) (fun cz105 => ?_) (fun cz105 => by exact absurd cz105 (by decide))
    refine lv_bipush (v := 20) hx hb dX5_init_112 (by decide) ?_
    refine z_putF (C := RX5) (T := TX5) (N := 10) (ci := 6) (v := .int 20) X J hi_X5 tyX5 tyX5_ok nmX5 qw G5_0 rfl 5 (by decide) (by decide +kernel) rfl hin9 rfl rfl rfl (Nat.le_of_ble_eq_true rfl) dX5_init_114 (fun H locs J => ?_)
    have J : zJ E (ws_5.set qw (w, .inr (6, [.int 0, .int stg, .int sup, .int (1 * 19), .int (-1), .int 20, .int 0, .int 0, .int 0, .int 0]))) s H locs := J
    have hk := hk.trans (zK.set (ws := ws_5) (q := qw) (e := (w, .inr (6, [.int 0, .int stg, .int sup, .int (1 * 19), .int (-1), .int 20, .int 0, .int 0, .int 0, .int 0]))) (by simp))
    have hlen : (ws_5.set qw (w, .inr (6, [.int 0, .int stg, .int sup, .int (1 * 19), .int (-1), .int 20, .int 0, .int 0, .int 0, .int 0]))).length = ws.length + 0 := (List.length_set ..).trans hlen
    have G6_0 := zset_eq (e' := (w, .inr (6, [.int 0, .int stg, .int sup, .int (1 * 19), .int (-1), .int 20, .int 0, .int 0, .int 0, .int 0]))) G5_0
    generalize hws6 : (ws_5.set qw (w, .inr (6, [.int 0, .int stg, .int sup, .int (1 * 19), .int (-1), .int 20, .int 0, .int 0, .int 0, .int 0]))) = ws_6 at J hlen hk G6_0
    subst hQ
    exact W.vret hx hb hr (fun t ht hW => ⟨⟨ws_6, rfl, ⟨hk, hlen, (by rw [show wdn 2 = 0 from by decide, show wfc 2 = 1 * 19 from by decide, show wnc 2 = -1 from by decide, show wnl 2 = 20 from by decide]; exact G6_0)⟩, J.I X ht hW.alike⟩, J.F ht⟩) J.locs dX5_init_117
  · refine lv_aload_n hx hb dX5_init_0 rfl (lv_at hl 0 rfl) ?_
    refine W.objInit hx hb hown (hts (.methodLink RX5 3 objectInit) (by decide +kernel)) (hts (.instanceMethod objectInit) (by decide +kernel)) (hts (.code objectInit ⟨#[0xb1]⟩ 1 none) (by decide +kernel)) rfl (by rw [X.1.2.2.1]; exact hl.1) rfl dX5_init_1 (Nat.le_of_ble_eq_true rfl) (Nat.le_of_ble_eq_true rfl) ?_
    refine W.eq (g2 := F0 m 4 ls []) rfl ?_
    refine lv_aload_n hx hb dX5_init_4 rfl (lv_at hl 0 rfl) ?_
    refine lv_iload_n hx hb dX5_init_5 rfl (lv_at hl 2 rfl) ?_
    refine z_putF (C := RX5) (T := TX5) (N := 10) (ci := 6) (v := .int stg) X J hi_X5 tyX5 tyX5_ok nmX5 qw Fa0 rfl 1 (by decide) (by decide +kernel) rfl hin9 rfl rfl rfl (Nat.le_of_ble_eq_true rfl) dX5_init_6 (fun H locs J => ?_)
    have J : zJ E (ws.set qw (w, .inr (6, [.int 0, .int stg, .int 0, .int 0, .int 0, .int 0, .int 0, .int 0, .int 0, .int 0]))) s H locs := J
    have hk := hk.trans (zK.set (ws := ws) (q := qw) (e := (w, .inr (6, [.int 0, .int stg, .int 0, .int 0, .int 0, .int 0, .int 0, .int 0, .int 0, .int 0]))) (by simp))
    have hlen : (ws.set qw (w, .inr (6, [.int 0, .int stg, .int 0, .int 0, .int 0, .int 0, .int 0, .int 0, .int 0, .int 0]))).length = ws.length + 0 := (List.length_set ..).trans hlen
    have G1_0 := zset_eq (e' := (w, .inr (6, [.int 0, .int stg, .int 0, .int 0, .int 0, .int 0, .int 0, .int 0, .int 0, .int 0]))) Fa0
    generalize hws1 : (ws.set qw (w, .inr (6, [.int 0, .int stg, .int 0, .int 0, .int 0, .int 0, .int 0, .int 0, .int 0, .int 0]))) = ws_1 at J hlen hk G1_0
    refine lv_aload_n hx hb dX5_init_9 rfl (lv_at hl 0 rfl) ?_
    refine lv_iload_n hx hb dX5_init_10 rfl (lv_at hl 3 rfl) ?_
    refine z_putF (C := RX5) (T := TX5) (N := 10) (ci := 6) (v := .int sup) X J hi_X5 tyX5 tyX5_ok nmX5 qw G1_0 rfl 2 (by decide) (by decide +kernel) rfl hin9 rfl rfl rfl (Nat.le_of_ble_eq_true rfl) dX5_init_11 (fun H locs J => ?_)
    have J : zJ E (ws_1.set qw (w, .inr (6, [.int 0, .int stg, .int sup, .int 0, .int 0, .int 0, .int 0, .int 0, .int 0, .int 0]))) s H locs := J
    have hk := hk.trans (zK.set (ws := ws_1) (q := qw) (e := (w, .inr (6, [.int 0, .int stg, .int sup, .int 0, .int 0, .int 0, .int 0, .int 0, .int 0, .int 0]))) (by simp))
    have hlen : (ws_1.set qw (w, .inr (6, [.int 0, .int stg, .int sup, .int 0, .int 0, .int 0, .int 0, .int 0, .int 0, .int 0]))).length = ws.length + 0 := (List.length_set ..).trans hlen
    have G2_0 := zset_eq (e' := (w, .inr (6, [.int 0, .int stg, .int sup, .int 0, .int 0, .int 0, .int 0, .int 0, .int 0, .int 0]))) G1_0
    generalize hws2 : (ws_1.set qw (w, .inr (6, [.int 0, .int stg, .int sup, .int 0, .int 0, .int 0, .int 0, .int 0, .int 0, .int 0]))) = ws_2 at J hlen hk G2_0
    refine lv_aload_n hx hb dX5_init_14 rfl (lv_at hl 0 rfl) ?_
    refine lv_iload_n hx hb dX5_init_15 rfl (lv_at hl 1 rfl) ?_
    refine lv_iconst (v := 1) hx hb dX5_init_16 (by decide) ?_
    refine lv_icmp_eq (tgt := 25) hx hb dX5_init_17 (by decide) (fun cz17 => by exact absurd cz17 (by decide)) (fun cz17 => ?_)
    refine lv_iload_n hx hb dX5_init_20 rfl (lv_at hl 1 rfl) ?_
    refine lv_iconst (v := 3) hx hb dX5_init_21 (by decide) ?_
    refine lv_icmp_ne (tgt := 29) hx hb dX5_init_22 (by decide) (fun cz22 => by exact absurd cz22 (by decide)) (fun cz22 => ?_)
    refine lv_iconst (v := 1) hx hb dX5_init_25 (by decide) ?_
    refine lv_goto (tgt := 30) hx hb dX5_init_26 (by decide) ?_
    refine z_putF (C := RX5) (T := TX5) (N := 10) (ci := 6) (v := .int 1) X J hi_X5 tyX5 tyX5_ok nmX5 qw G2_0 rfl 0 (by decide) (by decide +kernel) rfl hin9 rfl rfl rfl (Nat.le_of_ble_eq_true rfl) dX5_init_30 (fun H locs J => ?_)
    have J : zJ E (ws_2.set qw (w, .inr (6, [.int 1, .int stg, .int sup, .int 0, .int 0, .int 0, .int 0, .int 0, .int 0, .int 0]))) s H locs := J
    have hk := hk.trans (zK.set (ws := ws_2) (q := qw) (e := (w, .inr (6, [.int 1, .int stg, .int sup, .int 0, .int 0, .int 0, .int 0, .int 0, .int 0, .int 0]))) (by simp))
    have hlen : (ws_2.set qw (w, .inr (6, [.int 1, .int stg, .int sup, .int 0, .int 0, .int 0, .int 0, .int 0, .int 0, .int 0]))).length = ws.length + 0 := (List.length_set ..).trans hlen
    have G3_0 := zset_eq (e' := (w, .inr (6, [.int 1, .int stg, .int sup, .int 0, .int 0, .int 0, .int 0, .int 0, .int 0, .int 0]))) G2_0
    generalize hws3 : (ws_2.set qw (w, .inr (6, [.int 1, .int stg, .int sup, .int 0, .int 0, .int 0, .int 0, .int 0, .int 0, .int 0]))) = ws_3 at J hlen hk G3_0
    refine lv_iload_n hx hb dX5_init_33 rfl (lv_at hl 1 rfl) ?_
    refine lv_iconst (v := 2) hx hb dX5_init_34 (by decide) ?_
    refine lv_icmp_eq (tgt := 43) hx hb dX5_init_35 (by decide) (fun cz35 => by exact absurd cz35 (by decide)) (fun cz35 => ?_)
    refine lv_iload_n hx hb dX5_init_38 rfl (lv_at hl 1 rfl) ?_
    refine lv_iconst (v := 3) hx hb dX5_init_39 (by decide) ?_
    refine lv_icmp_ne (tgt := 47) hx hb dX5_init_40 (by decide) (fun cz40 => by exact absurd cz40 (by decide)) (fun cz40 => ?_)
    refine lv_iconst (v := 1) hx hb dX5_init_43 (by decide) ?_
    refine lv_goto (tgt := 48) hx hb dX5_init_44 (by decide) ?_
    refine lv_istore (lv' := [(4, .int 1), (0, .ref w), (1, .int 3), (2, .int stg), (3, .int sup)]) hx hb dX5_init_48 hl (by decide) rfl (fun ls hl => ?_)
    refine lv_aload_n hx hb dX5_init_50 rfl (lv_at hl 1 rfl) ?_
    refine z_get (C := RX5) (T := TX5) (N := 10) (ci := 6) (v := .int 1) X J hi_X5 qw G3_0 rfl 0 (by decide) (by decide +kernel) rfl dX5_init_51 ?_
    refine lv_if_eq (tgt := 62) hx hb dX5_init_54 (by decide) (fun cz54 => by exact absurd cz54 (by decide)) (fun cz54 => ?_)
    refine lv_bipush (v := 20) hx hb dX5_init_57 (by decide) ?_
    refine lv_goto (tgt := 63) hx hb dX5_init_59 (by decide) ?_
    refine lv_istore (lv' := [(5, .int 20), (4, .int 1), (0, .ref w), (1, .int 3), (2, .int stg), (3, .int sup)]) hx hb dX5_init_63 hl (by decide) rfl (fun ls hl => ?_)
    refine lv_aload_n hx hb dX5_init_65 rfl (lv_at hl 2 rfl) ?_
    refine lv_iload hx hb dX5_init_66 (lv_at hl 1 rfl) ?_
    refine lv_if_eq (tgt := 79) hx hb dX5_init_68 (by decide) (fun cz68 => by exact absurd cz68 (by decide)) (fun cz68 => ?_)
    refine lv_iload hx hb dX5_init_71 (lv_at hl 0 rfl) ?_
    refine lv_bipush (v := 19) hx hb dX5_init_73 (by decide) ?_
    refine lv_imul hx hb dX5_init_75 ?_
    refine lv_goto (tgt := 80) hx hb dX5_init_76 (by decide) ?_
    refine z_putF (C := RX5) (T := TX5) (N := 10) (ci := 6) (v := .int (20 * 19)) X J hi_X5 tyX5 tyX5_ok nmX5 qw G3_0 rfl 3 (by decide) (by decide +kernel) rfl hin9 rfl rfl rfl (Nat.le_of_ble_eq_true rfl) dX5_init_80 (fun H locs J => ?_)
    have J : zJ E (ws_3.set qw (w, .inr (6, [.int 1, .int stg, .int sup, .int (20 * 19), .int 0, .int 0, .int 0, .int 0, .int 0, .int 0]))) s H locs := J
    have hk := hk.trans (zK.set (ws := ws_3) (q := qw) (e := (w, .inr (6, [.int 1, .int stg, .int sup, .int (20 * 19), .int 0, .int 0, .int 0, .int 0, .int 0, .int 0]))) (by simp))
    have hlen : (ws_3.set qw (w, .inr (6, [.int 1, .int stg, .int sup, .int (20 * 19), .int 0, .int 0, .int 0, .int 0, .int 0, .int 0]))).length = ws.length + 0 := (List.length_set ..).trans hlen
    have G4_0 := zset_eq (e' := (w, .inr (6, [.int 1, .int stg, .int sup, .int (20 * 19), .int 0, .int 0, .int 0, .int 0, .int 0, .int 0]))) G3_0
    generalize hws4 : (ws_3.set qw (w, .inr (6, [.int 1, .int stg, .int sup, .int (20 * 19), .int 0, .int 0, .int 0, .int 0, .int 0, .int 0]))) = ws_4 at J hlen hk G4_0
    refine lv_aload_n hx hb dX5_init_83 rfl (lv_at hl 2 rfl) ?_
    refine lv_iload hx hb dX5_init_84 (lv_at hl 1 rfl) ?_
    refine lv_if_eq (tgt := 95) hx hb dX5_init_86 (by decide) (fun cz86 => by exact absurd cz86 (by decide)) (fun cz86 => ?_)
    refine lv_iload hx hb dX5_init_89 (lv_at hl 0 rfl) ?_
    refine lv_ineg hx hb dX5_init_91 ?_
    refine lv_goto (tgt := 97) hx hb dX5_init_92 (by decide) ?_
    refine z_putF (C := RX5) (T := TX5) (N := 10) (ci := 6) (v := .int (-20)) X J hi_X5 tyX5 tyX5_ok nmX5 qw G4_0 rfl 4 (by decide) (by decide +kernel) rfl hin9 rfl rfl rfl (Nat.le_of_ble_eq_true rfl) dX5_init_97 (fun H locs J => ?_)
    have J : zJ E (ws_4.set qw (w, .inr (6, [.int 1, .int stg, .int sup, .int (20 * 19), .int (-20), .int 0, .int 0, .int 0, .int 0, .int 0]))) s H locs := J
    have hk := hk.trans (zK.set (ws := ws_4) (q := qw) (e := (w, .inr (6, [.int 1, .int stg, .int sup, .int (20 * 19), .int (-20), .int 0, .int 0, .int 0, .int 0, .int 0]))) (by simp))
    have hlen : (ws_4.set qw (w, .inr (6, [.int 1, .int stg, .int sup, .int (20 * 19), .int (-20), .int 0, .int 0, .int 0, .int 0, .int 0]))).length = ws.length + 0 := (List.length_set ..).trans hlen
    have G5_0 := zset_eq (e' := (w, .inr (6, [.int 1, .int stg, .int sup, .int (20 * 19), .int (-20), .int 0, .int 0, .int 0, .int 0, .int 0]))) G4_0
    generalize hws5 : (ws_4.set qw (w, .inr (6, [.int 1, .int stg, .int sup, .int (20 * 19), .int (-20), .int 0, .int 0, .int 0, .int 0, .int 0]))) = ws_5 at J hlen hk G5_0
    refine lv_aload_n hx hb dX5_init_100 rfl (lv_at hl 2 rfl) ?_
    refine lv_aload_n hx hb dX5_init_101 rfl (lv_at hl 2 rfl) ?_
    refine z_get (C := RX5) (T := TX5) (N := 10) (ci := 6) (v := .int 1) X J hi_X5 qw G5_0 rfl 0 (by decide) (by decide +kernel) rfl dX5_init_102 ?_
    refine lv_if_eq (tgt := 112) hx hb dX5_init_105 (by decide) (fun cz105 => by exact absurd cz105 (by decide)) (fun cz105 => ?_)
    refine lv_iconst (v := 1) hx hb dX5_init_108 (by decide) ?_
    refine lv_goto (tgt := 114) hx hb dX5_init_109 (by decide) ?_
    refine z_putF (C := RX5) (T := TX5) (N := 10) (ci := 6) (v := .int 1) X J hi_X5 tyX5 tyX5_ok nmX5 qw G5_0 rfl 5 (by decide) (by decide +kernel) rfl hin9 rfl rfl rfl (Nat.le_of_ble_eq_true rfl) dX5_init_114 (fun H locs J => ?_)
    have J : zJ E (ws_5.set qw (w, .inr (6, [.int 1, .int stg, .int sup, .int (20 * 19), .int (-20), .int 1, .int 0, .int 0, .int 0, .int 0]))) s H locs := J
    have hk := hk.trans (zK.set (ws := ws_5) (q := qw) (e := (w, .inr (6, [.int 1, .int stg, .int sup, .int (20 * 19), .int (-20), .int 1, .int 0, .int 0, .int 0, .int 0]))) (by simp))
    have hlen : (ws_5.set qw (w, .inr (6, [.int 1, .int stg, .int sup, .int (20 * 19), .int (-20), .int 1, .int 0, .int 0, .int 0, .int 0]))).length = ws.length + 0 := (List.length_set ..).trans hlen
    have G6_0 := zset_eq (e' := (w, .inr (6, [.int 1, .int stg, .int sup, .int (20 * 19), .int (-20), .int 1, .int 0, .int 0, .int 0, .int 0]))) G5_0
    generalize hws6 : (ws_5.set qw (w, .inr (6, [.int 1, .int stg, .int sup, .int (20 * 19), .int (-20), .int 1, .int 0, .int 0, .int 0, .int 0]))) = ws_6 at J hlen hk G6_0
    subst hQ
    exact W.vret hx hb hr (fun t ht hW => ⟨⟨ws_6, rfl, ⟨hk, hlen, (by rw [show wdn 3 = 1 from by decide, show wfc 3 = 20 * 19 from by decide, show wnc 3 = -20 from by decide, show wnl 3 = 1 from by decide]; exact G6_0)⟩, J.I X ht hW.alike⟩, J.F ht⟩) J.locs dX5_init_117
set_option maxHeartbeats 4000000 in
set_option maxRecDepth 100000 in
/-- Wind.dropped -/
theorem cX5_dropped_ok (l : Launch) (E : zG) {ws : va_W} {qw w : Nat} {dn stg sup fc nc nl ca sh sw ho : Int32} {th : Int32} (Fa0 : ws[qw]? = some (w, .inr (6, [.int dn, .int stg, .int sup, .int fc, .int nc, .int nl, .int ca, .int sh, .int sw, .int ho])))  : Met l yX5_dropped wsX5_dropped ({ frames := 1, cells := 0, slots := 0, locals := 13 } : Room) (va_Pc [.ref w, .int th] (zI E ws)) (vp_Si (fun r : Int32 => r = dropS th ca ho)) 0 0 (fun _ => False) := by
  refine Met.ofW (cc := cX5_dropped) (maxL := 2) (ret := (some .int)) (by decide) rfl ?_
  intro p e s m args below meth c s₁ B hml hv
  obtain ⟨hargs9, hI⟩ := hv
  have hx := B.exec
  have hb := B.bytes
  have hr := B.returns
  have hlocks := B.notSynchronized
  have X : zC E p m c cX5_dropped 2 s args wsX5_dropped RX5 := z_open B hml hI
  have hown := X.1.2.2.2.1
  have hts := X.1.2.2.2.2
  have J := hI.J
  have hi_X5 : ∀ w ∈ wsX50, w ∈ wsX5_dropped := by decide +kernel
  have hl := lv_entry ([.ref w, .int th]) (n := 2) (Nat.le_of_ble_eq_true rfl)
  rw [show entryFrame m args 2 = entryFrame m ([.ref w, .int th] : List Value).toArray 2 from by rw [hargs9], lg_entry_eq]
  generalize (lg_sl ([.ref w, .int th]) ++ List.replicate (2 - (lg_sl ([.ref w, .int th])).length) Slot.unset).toArray = ls at hl ⊢
  have hl : lv_has ls 2 [(0, .ref w), (1, .int th)] := hl
  generalize hQ : (MQ below (vp_Si (fun r : Int32 => r = dropS th ca ho)) args s 0 0 (fun _ => False)) = QQ
  refine lv_aload_n hx hb dX5_dropped_0 rfl (lv_at hl 0 rfl) ?_
  refine z_get (C := RX5) (T := TX5) (N := 10) (ci := 6) (v := .int ca) X J hi_X5 qw Fa0 rfl 6 (by decide) (by decide +kernel) rfl dX5_dropped_1 ?_
  refine lv_iconst (v := 4) hx hb dX5_dropped_4 (by decide) ?_
  refine va_mmin hx hb (X.1.2.2.1.trans hl.1.symm) hown (hts (.methodLink RX5 81 Lib.Math.min.name) (by decide +kernel)) (hts (.static Lib.Math.min.name) (by decide +kernel)) (hts (.initialized "java/lang/Math") (by decide +kernel)) (hts (.code Lib.Math.min.name Lib.Math.min.code 2 (some .int)) (by decide +kernel)) (Nat.le_of_ble_eq_true rfl) (Nat.le_of_ble_eq_true rfl) (Nat.le_of_ble_eq_true rfl) (Nat.le_of_ble_eq_true rfl) dX5_dropped_5 ?_
  refine W.eq (g2 := F0 m 8 ls [.int (mn ca 4)]) rfl ?_
  refine lv_aload_n hx hb dX5_dropped_8 rfl (lv_at hl 0 rfl) ?_
  refine z_get (C := RX5) (T := TX5) (N := 10) (ci := 6) (v := .int ho) X J hi_X5 qw Fa0 rfl 9 (by decide) (by decide +kernel) rfl dX5_dropped_9 ?_
  refine lv_iload_n hx hb dX5_dropped_12 rfl (lv_at hl 1 rfl) ?_
  refine lv_isub hx hb dX5_dropped_13 ?_
  refine va_mmin hx hb (X.1.2.2.1.trans hl.1.symm) hown (hts (.methodLink RX5 81 Lib.Math.min.name) (by decide +kernel)) (hts (.static Lib.Math.min.name) (by decide +kernel)) (hts (.initialized "java/lang/Math") (by decide +kernel)) (hts (.code Lib.Math.min.name Lib.Math.min.code 2 (some .int)) (by decide +kernel)) (Nat.le_of_ble_eq_true rfl) (Nat.le_of_ble_eq_true rfl) (Nat.le_of_ble_eq_true rfl) (Nat.le_of_ble_eq_true rfl) dX5_dropped_14 ?_
  refine W.eq (g2 := F0 m 17 ls [.int (mn (mn ca 4) (ho - th))]) rfl ?_
  refine lv_iconst (v := 0) hx hb dX5_dropped_17 (by decide) ?_
  refine va_mmax hx hb (X.1.2.2.1.trans hl.1.symm) hown (hts (.methodLink RX5 75 Lib.Math.max.name) (by decide +kernel)) (hts (.static Lib.Math.max.name) (by decide +kernel)) (hts (.initialized "java/lang/Math") (by decide +kernel)) (hts (.code Lib.Math.max.name Lib.Math.max.code 2 (some .int)) (by decide +kernel)) (Nat.le_of_ble_eq_true rfl) (Nat.le_of_ble_eq_true rfl) (Nat.le_of_ble_eq_true rfl) (Nat.le_of_ble_eq_true rfl) dX5_dropped_18 ?_
  refine W.eq (g2 := F0 m 21 ls [.int (mx (mn (mn ca 4) (ho - th)) 0)]) rfl ?_
  subst hQ
  exact W.iret (v := mx (mn (mn ca 4) (ho - th)) 0) hx hb hr (fun t ht hW => ⟨mx (mn (mn ca 4) (ho - th)) 0, rfl, rfl, ht⟩) (fun q hq => absurd hq List.not_mem_nil) dX5_dropped_21
set_option maxHeartbeats 4000000 in
set_option maxRecDepth 100000 in
/-- Wind.pickedUp -/
theorem cX5_pickedUp_ok (l : Launch) (E : zG) {ws : va_W} {qw w : Nat} {dn stg sup fc nc nl ca sh sw ho : Int32} {th : Int32} (Fa0 : ws[qw]? = some (w, .inr (6, [.int dn, .int stg, .int sup, .int fc, .int nc, .int nl, .int ca, .int sh, .int sw, .int ho])))  : Met l yX5_pickedUp wsX5_pickedUp ({ frames := 1, cells := 0, slots := 0, locals := 13 } : Room) (va_Pc [.ref w, .int th] (zI E ws)) (vp_Si (fun r : Int32 => r = pickS stg th ca)) 0 0 (fun _ => False) := by
  refine Met.ofW (cc := cX5_pickedUp) (maxL := 2) (ret := (some .int)) (by decide) rfl ?_
  intro p e s m args below meth c s₁ B hml hv
  obtain ⟨hargs9, hI⟩ := hv
  have hx := B.exec
  have hb := B.bytes
  have hr := B.returns
  have hlocks := B.notSynchronized
  have X : zC E p m c cX5_pickedUp 2 s args wsX5_pickedUp RX5 := z_open B hml hI
  have hown := X.1.2.2.2.1
  have hts := X.1.2.2.2.2
  have J := hI.J
  have hi_X5 : ∀ w ∈ wsX50, w ∈ wsX5_pickedUp := by decide +kernel
  have hl := lv_entry ([.ref w, .int th]) (n := 2) (Nat.le_of_ble_eq_true rfl)
  rw [show entryFrame m args 2 = entryFrame m ([.ref w, .int th] : List Value).toArray 2 from by rw [hargs9], lg_entry_eq]
  generalize (lg_sl ([.ref w, .int th]) ++ List.replicate (2 - (lg_sl ([.ref w, .int th])).length) Slot.unset).toArray = ls at hl ⊢
  have hl : lv_has ls 2 [(0, .ref w), (1, .int th)] := hl
  generalize hQ : (MQ below (vp_Si (fun r : Int32 => r = pickS stg th ca)) args s 0 0 (fun _ => False)) = QQ
  refine lv_iload_n hx hb dX5_pickedUp_0 rfl (lv_at hl 1 rfl) ?_
  refine lv_aload_n hx hb dX5_pickedUp_1 rfl (lv_at hl 0 rfl) ?_
  refine z_get (C := RX5) (T := TX5) (N := 10) (ci := 6) (v := .int stg) X J hi_X5 qw Fa0 rfl 1 (by decide) (by decide +kernel) rfl dX5_pickedUp_2 ?_
  refine va_mmin hx hb (X.1.2.2.1.trans hl.1.symm) hown (hts (.methodLink RX5 81 Lib.Math.min.name) (by decide +kernel)) (hts (.static Lib.Math.min.name) (by decide +kernel)) (hts (.initialized "java/lang/Math") (by decide +kernel)) (hts (.code Lib.Math.min.name Lib.Math.min.code 2 (some .int)) (by decide +kernel)) (Nat.le_of_ble_eq_true rfl) (Nat.le_of_ble_eq_true rfl) (Nat.le_of_ble_eq_true rfl) (Nat.le_of_ble_eq_true rfl) dX5_pickedUp_5 ?_
  refine W.eq (g2 := F0 m 8 ls [.int (mn th stg)]) rfl ?_
  refine lv_bipush (v := 10) hx hb dX5_pickedUp_8 (by decide) ?_
  refine lv_aload_n hx hb dX5_pickedUp_10 rfl (lv_at hl 0 rfl) ?_
  refine z_get (C := RX5) (T := TX5) (N := 10) (ci := 6) (v := .int stg) X J hi_X5 qw Fa0 rfl 1 (by decide) (by decide +kernel) rfl dX5_pickedUp_11 ?_
  refine lv_imul hx hb dX5_pickedUp_14 ?_
  refine lv_aload_n hx hb dX5_pickedUp_15 rfl (lv_at hl 0 rfl) ?_
  refine z_get (C := RX5) (T := TX5) (N := 10) (ci := 6) (v := .int ca) X J hi_X5 qw Fa0 rfl 6 (by decide) (by decide +kernel) rfl dX5_pickedUp_16 ?_
  refine lv_isub hx hb dX5_pickedUp_19 ?_
  refine va_mmin hx hb (X.1.2.2.1.trans hl.1.symm) hown (hts (.methodLink RX5 81 Lib.Math.min.name) (by decide +kernel)) (hts (.static Lib.Math.min.name) (by decide +kernel)) (hts (.initialized "java/lang/Math") (by decide +kernel)) (hts (.code Lib.Math.min.name Lib.Math.min.code 2 (some .int)) (by decide +kernel)) (Nat.le_of_ble_eq_true rfl) (Nat.le_of_ble_eq_true rfl) (Nat.le_of_ble_eq_true rfl) (Nat.le_of_ble_eq_true rfl) dX5_pickedUp_20 ?_
  refine W.eq (g2 := F0 m 23 ls [.int (mn (mn th stg) ((10 * stg) - ca))]) rfl ?_
  refine lv_iconst (v := 0) hx hb dX5_pickedUp_23 (by decide) ?_
  refine va_mmax hx hb (X.1.2.2.1.trans hl.1.symm) hown (hts (.methodLink RX5 75 Lib.Math.max.name) (by decide +kernel)) (hts (.static Lib.Math.max.name) (by decide +kernel)) (hts (.initialized "java/lang/Math") (by decide +kernel)) (hts (.code Lib.Math.max.name Lib.Math.max.code 2 (some .int)) (by decide +kernel)) (Nat.le_of_ble_eq_true rfl) (Nat.le_of_ble_eq_true rfl) (Nat.le_of_ble_eq_true rfl) (Nat.le_of_ble_eq_true rfl) dX5_pickedUp_24 ?_
  refine W.eq (g2 := F0 m 27 ls [.int (mx (mn (mn th stg) ((10 * stg) - ca)) 0)]) rfl ?_
  subst hQ
  exact W.iret (v := mx (mn (mn th stg) ((10 * stg) - ca)) 0) hx hb hr (fun t ht hW => ⟨mx (mn (mn th stg) ((10 * stg) - ca)) 0, rfl, rfl, ht⟩) (fun q hq => absurd hq List.not_mem_nil) dX5_pickedUp_27
set_option maxHeartbeats 4000000 in
set_option maxRecDepth 100000 in
/-- Wind.passCell -/
theorem cX5_passCell_ok (l : Launch) (E : zG) {ws : va_W} {qw w : Nat} {dn stg sup fc nc nl ca sh sw ho : Int32} {qg qa g ga : Nat} {f : Nat → Int32} {qc qh qv sc ha va : Nat} {hf gf : Nat → Int32} {cl : Int32} (Fa0 : ws[qw]? = some (w, .inr (6, [.int dn, .int stg, .int sup, .int fc, .int nc, .int nl, .int ca, .int sh, .int sw, .int ho]))) (Fa1 : ws[qg]? = some (g, .inr (2, [.ref ga]))) (Fa2 : ws[qa]? = some (ga, zI4 E 400 f)) (Fa3 : ws[qc]? = some (sc, .inr (4, [.ref ha, .ref va]))) (Fa4 : ws[qh]? = some (ha, zI4 E 400 hf)) (Fa5 : ws[qv]? = some (va, zI4 E 400 gf)) (hag : qa ≠ qh) (hav : qa ≠ qv) : Met l yX5_passCell wsX5_passCell ({ frames := 2, cells := 0, slots := 0, locals := 34 } : Room) (va_Pc [.ref w, .ref g, .ref sc, .int cl] (zI E ws)) (va_Qv (fun (ws' : va_W) => (zK [qw, qa] ws ws') ∧ (ws'[qw]? = some (w, .inr (6, [.int dn, .int stg, .int sup, .int fc, .int nc, .int nl, .int ((pcS stg hf gf cl (f, ca, sh, sw, ho)).2.1), .int ((pcS stg hf gf cl (f, ca, sh, sw, ho)).2.2.1), .int ((pcS stg hf gf cl (f, ca, sh, sw, ho)).2.2.2.1), .int ((pcS stg hf gf cl (f, ca, sh, sw, ho)).2.2.2.2)]))) ∧ (ws'[qa]? = some (ga, zI4 E 400 ((pcS stg hf gf cl (f, ca, sh, sw, ho)).1)))) (zI E) (zA E)) 0 0 (zA E) := by
  refine Met.ofW (cc := cX5_passCell) (maxL := 7) (ret := none) (by decide) rfl ?_
  intro p e s m args below meth c s₁ B hml hv
  obtain ⟨hargs9, hI⟩ := hv
  have hx := B.exec
  have hb := B.bytes
  have hr := B.returns
  have hlocks := B.notSynchronized
  have X : zC E p m c cX5_passCell 7 s args wsX5_passCell RX5 := z_open B hml hI
  have hown := X.1.2.2.2.1
  have hts := X.1.2.2.2.2
  have J := hI.J
  have hi_X5 : ∀ w ∈ wsX50, w ∈ wsX5_passCell := by decide +kernel
  have n0_1 : qw ≠ qg := zneK Fa0 Fa1 rfl
  have n0_2 : qw ≠ qa := zneK Fa0 Fa2 rfl
  have n0_3 : qw ≠ qc := zneK Fa0 Fa3 rfl
  have n0_4 : qw ≠ qh := zneK Fa0 Fa4 rfl
  have n0_5 : qw ≠ qv := zneK Fa0 Fa5 rfl
  have n1_2 : qg ≠ qa := zneK Fa1 Fa2 rfl
  have n1_3 : qg ≠ qc := zneK Fa1 Fa3 rfl
  have n1_4 : qg ≠ qh := zneK Fa1 Fa4 rfl
  have n1_5 : qg ≠ qv := zneK Fa1 Fa5 rfl
  have n2_3 : qa ≠ qc := zneK Fa2 Fa3 rfl
  have n3_4 : qc ≠ qh := zneK Fa3 Fa4 rfl
  have n3_5 : qc ≠ qv := zneK Fa3 Fa5 rfl
  have hk : zK [qw, qa] ws ws := zK.rf
  have hl := lv_entry ([.ref w, .ref g, .ref sc, .int cl]) (n := 7) (Nat.le_of_ble_eq_true rfl)
  rw [show entryFrame m args 7 = entryFrame m ([.ref w, .ref g, .ref sc, .int cl] : List Value).toArray 7 from by rw [hargs9], lg_entry_eq]
  generalize (lg_sl ([.ref w, .ref g, .ref sc, .int cl]) ++ List.replicate (7 - (lg_sl ([.ref w, .ref g, .ref sc, .int cl])).length) Slot.unset).toArray = ls at hl ⊢
  have hl : lv_has ls 7 [(0, .ref w), (1, .ref g), (2, .ref sc), (3, .int cl)] := hl
  generalize hQ : (MQ below (va_Qv (fun (ws' : va_W) => (zK [qw, qa] ws ws') ∧ (ws'[qw]? = some (w, .inr (6, [.int dn, .int stg, .int sup, .int fc, .int nc, .int nl, .int ((pcS stg hf gf cl (f, ca, sh, sw, ho)).2.1), .int ((pcS stg hf gf cl (f, ca, sh, sw, ho)).2.2.1), .int ((pcS stg hf gf cl (f, ca, sh, sw, ho)).2.2.2.1), .int ((pcS stg hf gf cl (f, ca, sh, sw, ho)).2.2.2.2)]))) ∧ (ws'[qa]? = some (ga, zI4 E 400 ((pcS stg hf gf cl (f, ca, sh, sw, ho)).1)))) (zI E) (zA E)) args s 0 0 (zA E)) = QQ
  refine lv_aload_n hx hb dX5_passCell_0 rfl (lv_at hl 2 rfl) ?_
  refine lv_iload_n hx hb dX5_passCell_1 rfl (lv_at hl 3 rfl) ?_
  refine z_cr (z_rV (As := [.int cl]) (rest := []) (ci := 4) (q0 := qc) X J (cX3_height_ok l E Fa3 Fa4 Fa5) (cwV 1 hts gX5_passCell_X3_height rfl rfl rfl (by decide +kernel) ⟨Nat.le_of_ble_eq_true rfl, Nat.le_of_ble_eq_true rfl⟩) Fa3 rfl rfl rfl hl.1 rfl (Nat.le_of_ble_eq_true rfl) dX5_passCell_2 ⟨Nat.le_of_ble_eq_true rfl, Nat.le_of_ble_eq_true rfl⟩) (fun r2 e_r2 => ?_)
  subst e_r2
  refine lv_istore (lv' := [(4, .int (gd hf cl)), (0, .ref w), (1, .ref g), (2, .ref sc), (3, .int cl)]) hx hb dX5_passCell_5 hl (by decide) rfl (fun ls hl => ?_)
  refine lv_iload hx hb dX5_passCell_7 (lv_at hl 0 rfl) ?_
  refine lv_if_le (tgt := 50) hx hb dX5_passCell_9 (by decide) (fun cz9 => ?_) (fun cz9 => ?_)
  · refine lv_aload_n hx hb dX5_passCell_50 rfl (lv_at hl 2 rfl) ?_
    refine lv_iload_n hx hb dX5_passCell_51 rfl (lv_at hl 4 rfl) ?_
    refine z_cr (z_rV (As := [.int cl]) (rest := []) (ci := 2) (q0 := qg) X J (cX1_depth_ok l E Fa1 Fa2) (cwV 1 hts gX5_passCell_X1_depth rfl rfl rfl (by decide +kernel) ⟨Nat.le_of_ble_eq_true rfl, Nat.le_of_ble_eq_true rfl⟩) Fa1 rfl rfl rfl hl.1 rfl (Nat.le_of_ble_eq_true rfl) dX5_passCell_52 ⟨Nat.le_of_ble_eq_true rfl, Nat.le_of_ble_eq_true rfl⟩) (fun r52 e_r52 => ?_)
    subst e_r52
    refine lv_istore (lv' := [(5, .int (gd f cl)), (4, .int (gd hf cl)), (0, .ref w), (1, .ref g), (2, .ref sc), (3, .int cl)]) hx hb dX5_passCell_55 hl (by decide) rfl (fun ls hl => ?_)
    refine lv_aload_n hx hb dX5_passCell_57 rfl (lv_at hl 2 rfl) ?_
    refine z_get (C := RX5) (T := TX5) (N := 10) (ci := 6) (v := .int sh) X J hi_X5 qw Fa0 rfl 7 (by decide) (by decide +kernel) rfl dX5_passCell_58 ?_
    refine lv_if_le (tgt := 81) hx hb dX5_passCell_61 (by decide) (fun cz61 => ?_) (fun cz61 => ?_)
    · refine lv_aload_n hx hb dX5_passCell_81 rfl (lv_at hl 2 rfl) ?_
      refine lv_iload hx hb dX5_passCell_82 (lv_at hl 0 rfl) ?_
      refine z_cr (z_rV (As := [.int (gd f cl)]) (rest := []) (ci := 6) (q0 := qw) X J (cX5_pickedUp_ok l E Fa0) (cwV 1 hts gX5_passCell_X5_pickedUp rfl rfl rfl (by decide +kernel) ⟨Nat.le_of_ble_eq_true rfl, Nat.le_of_ble_eq_true rfl⟩) Fa0 rfl rfl rfl hl.1 rfl (Nat.le_of_ble_eq_true rfl) dX5_passCell_84 ⟨Nat.le_of_ble_eq_true rfl, Nat.le_of_ble_eq_true rfl⟩) (fun r84 e_r84 => ?_)
      subst e_r84
      refine lv_istore (lv' := [(6, .int (pickS stg (gd f cl) ca)), (5, .int (gd f cl)), (4, .int (gd hf cl)), (0, .ref w), (1, .ref g), (2, .ref sc), (3, .int cl)]) hx hb dX5_passCell_87 hl (by decide) rfl (fun ls hl => ?_)
      refine lv_aload_n hx hb dX5_passCell_89 rfl (lv_at hl 4 rfl) ?_
      refine lv_iload_n hx hb dX5_passCell_90 rfl (lv_at hl 6 rfl) ?_
      refine lv_iload hx hb dX5_passCell_91 (lv_at hl 1 rfl) ?_
      refine lv_iload hx hb dX5_passCell_93 (lv_at hl 0 rfl) ?_
      refine lv_isub hx hb dX5_passCell_95 ?_
      refine z_cv J (z_rV (As := [.int cl, .int ((gd f cl) - (pickS stg (gd f cl) ca))]) (rest := []) (ci := 2) (q0 := qg) X J (cX1_put_ok l E Fa1 Fa2) (cwV 2 hts gX5_passCell_X1_put rfl rfl rfl (by decide +kernel) ⟨Nat.le_of_ble_eq_true rfl, Nat.le_of_ble_eq_true rfl⟩) Fa1 rfl rfl rfl hl.1 rfl (Nat.le_of_ble_eq_true rfl) dX5_passCell_96 ⟨Nat.le_of_ble_eq_true rfl, Nat.le_of_ble_eq_true rfl⟩) (fun ws_1 H locs hp9 J => ?_)
      obtain ⟨k1, G1_a0⟩ := hp9
      have hk := hk.trans (k1.mono (by intro q9 hq9; simp only [List.mem_cons, List.not_mem_nil, or_false] at hq9 ⊢; omega))
      have G1_0 := k1.2 qw _ (by simp only [List.mem_cons, List.not_mem_nil, or_false]; omega) Fa0
      have G1_1 := k1.2 qg _ (by simp only [List.mem_cons, List.not_mem_nil, or_false]; omega) Fa1
      have G1_3 := k1.2 qc _ (by simp only [List.mem_cons, List.not_mem_nil, or_false]; omega) Fa3
      have G1_4 := k1.2 qh _ (by simp only [List.mem_cons, List.not_mem_nil, or_false]; omega) Fa4
      have G1_5 := k1.2 qv _ (by simp only [List.mem_cons, List.not_mem_nil, or_false]; omega) Fa5
      refine lv_aload_n hx hb dX5_passCell_99 rfl (lv_at hl 3 rfl) ?_
      refine lv_dup hx hb dX5_passCell_100 rfl ?_
      refine z_get (C := RX5) (T := TX5) (N := 10) (ci := 6) (v := .int ca) X J hi_X5 qw G1_0 rfl 6 (by decide) (by decide +kernel) rfl dX5_passCell_101 ?_
      refine lv_iload hx hb dX5_passCell_104 (lv_at hl 0 rfl) ?_
      refine lv_iadd hx hb dX5_passCell_106 ?_
      refine z_put (C := RX5) (T := TX5) (N := 10) (ci := 6) (v := .int (ca + (pickS stg (gd f cl) ca))) X J hi_X5 tyX5 tyX5_ok nmX5 qw G1_0 rfl 6 (by decide) (by decide +kernel) rfl rfl rfl (Nat.le_of_ble_eq_true rfl) dX5_passCell_107 (fun H locs J => ?_)
      have J : zJ E (ws_1.set qw (w, .inr (6, [.int dn, .int stg, .int sup, .int fc, .int nc, .int nl, .int (ca + (pickS stg (gd f cl) ca)), .int sh, .int sw, .int ho]))) s H locs := J
      have hk := hk.trans (zK.set (ws := ws_1) (q := qw) (e := (w, .inr (6, [.int dn, .int stg, .int sup, .int fc, .int nc, .int nl, .int (ca + (pickS stg (gd f cl) ca)), .int sh, .int sw, .int ho]))) (by simp))
      have G2_0 := zset_eq (e' := (w, .inr (6, [.int dn, .int stg, .int sup, .int fc, .int nc, .int nl, .int (ca + (pickS stg (gd f cl) ca)), .int sh, .int sw, .int ho]))) G1_0
      have G2_1 := zset_ne (q := qw) (e' := (w, .inr (6, [.int dn, .int stg, .int sup, .int fc, .int nc, .int nl, .int (ca + (pickS stg (gd f cl) ca)), .int sh, .int sw, .int ho]))) (by omega) G1_1
      have G2_2 := zset_ne (q := qw) (e' := (w, .inr (6, [.int dn, .int stg, .int sup, .int fc, .int nc, .int nl, .int (ca + (pickS stg (gd f cl) ca)), .int sh, .int sw, .int ho]))) (by omega) G1_a0
      have G2_3 := zset_ne (q := qw) (e' := (w, .inr (6, [.int dn, .int stg, .int sup, .int fc, .int nc, .int nl, .int (ca + (pickS stg (gd f cl) ca)), .int sh, .int sw, .int ho]))) (by omega) G1_3
      have G2_4 := zset_ne (q := qw) (e' := (w, .inr (6, [.int dn, .int stg, .int sup, .int fc, .int nc, .int nl, .int (ca + (pickS stg (gd f cl) ca)), .int sh, .int sw, .int ho]))) (by omega) G1_4
      have G2_5 := zset_ne (q := qw) (e' := (w, .inr (6, [.int dn, .int stg, .int sup, .int fc, .int nc, .int nl, .int (ca + (pickS stg (gd f cl) ca)), .int sh, .int sw, .int ho]))) (by omega) G1_5
      generalize hws2 : (ws_1.set qw (w, .inr (6, [.int dn, .int stg, .int sup, .int fc, .int nc, .int nl, .int (ca + (pickS stg (gd f cl) ca)), .int sh, .int sw, .int ho]))) = ws_2 at J hk G2_0 G2_1 G2_2 G2_3 G2_4 G2_5
      refine lv_aload_n hx hb dX5_passCell_110 rfl (lv_at hl 3 rfl) ?_
      refine lv_aload_n hx hb dX5_passCell_111 rfl (lv_at hl 3 rfl) ?_
      refine z_get (C := RX5) (T := TX5) (N := 10) (ci := 6) (v := .int sh) X J hi_X5 qw G2_0 rfl 7 (by decide) (by decide +kernel) rfl dX5_passCell_112 ?_
      refine lv_iconst (v := 1) hx hb dX5_passCell_115 (by decide) ?_
      refine lv_isub hx hb dX5_passCell_116 ?_
      refine lv_iconst (v := 0) hx hb dX5_passCell_117 (by decide) ?_
      refine va_mmax hx hb (X.1.2.2.1.trans hl.1.symm) hown (hts (.methodLink RX5 75 Lib.Math.max.name) (by decide +kernel)) (hts (.static Lib.Math.max.name) (by decide +kernel)) (hts (.initialized "java/lang/Math") (by decide +kernel)) (hts (.code Lib.Math.max.name Lib.Math.max.code 2 (some .int)) (by decide +kernel)) (Nat.le_of_ble_eq_true rfl) (Nat.le_of_ble_eq_true rfl) (Nat.le_of_ble_eq_true rfl) (Nat.le_of_ble_eq_true rfl) dX5_passCell_118 ?_
      refine W.eq (g2 := F0 m 121 ls [.int (mx (sh - 1) 0), .ref w]) rfl ?_
      refine z_put (C := RX5) (T := TX5) (N := 10) (ci := 6) (v := .int (mx (sh - 1) 0)) X J hi_X5 tyX5 tyX5_ok nmX5 qw G2_0 rfl 7 (by decide) (by decide +kernel) rfl rfl rfl (Nat.le_of_ble_eq_true rfl) dX5_passCell_121 (fun H locs J => ?_)
      have J : zJ E (ws_2.set qw (w, .inr (6, [.int dn, .int stg, .int sup, .int fc, .int nc, .int nl, .int (ca + (pickS stg (gd f cl) ca)), .int (mx (sh - 1) 0), .int sw, .int ho]))) s H locs := J
      have hk := hk.trans (zK.set (ws := ws_2) (q := qw) (e := (w, .inr (6, [.int dn, .int stg, .int sup, .int fc, .int nc, .int nl, .int (ca + (pickS stg (gd f cl) ca)), .int (mx (sh - 1) 0), .int sw, .int ho]))) (by simp))
      have G3_0 := zset_eq (e' := (w, .inr (6, [.int dn, .int stg, .int sup, .int fc, .int nc, .int nl, .int (ca + (pickS stg (gd f cl) ca)), .int (mx (sh - 1) 0), .int sw, .int ho]))) G2_0
      have G3_1 := zset_ne (q := qw) (e' := (w, .inr (6, [.int dn, .int stg, .int sup, .int fc, .int nc, .int nl, .int (ca + (pickS stg (gd f cl) ca)), .int (mx (sh - 1) 0), .int sw, .int ho]))) (by omega) G2_1
      have G3_2 := zset_ne (q := qw) (e' := (w, .inr (6, [.int dn, .int stg, .int sup, .int fc, .int nc, .int nl, .int (ca + (pickS stg (gd f cl) ca)), .int (mx (sh - 1) 0), .int sw, .int ho]))) (by omega) G2_2
      have G3_3 := zset_ne (q := qw) (e' := (w, .inr (6, [.int dn, .int stg, .int sup, .int fc, .int nc, .int nl, .int (ca + (pickS stg (gd f cl) ca)), .int (mx (sh - 1) 0), .int sw, .int ho]))) (by omega) G2_3
      have G3_4 := zset_ne (q := qw) (e' := (w, .inr (6, [.int dn, .int stg, .int sup, .int fc, .int nc, .int nl, .int (ca + (pickS stg (gd f cl) ca)), .int (mx (sh - 1) 0), .int sw, .int ho]))) (by omega) G2_4
      have G3_5 := zset_ne (q := qw) (e' := (w, .inr (6, [.int dn, .int stg, .int sup, .int fc, .int nc, .int nl, .int (ca + (pickS stg (gd f cl) ca)), .int (mx (sh - 1) 0), .int sw, .int ho]))) (by omega) G2_5
      generalize hws3 : (ws_2.set qw (w, .inr (6, [.int dn, .int stg, .int sup, .int fc, .int nc, .int nl, .int (ca + (pickS stg (gd f cl) ca)), .int (mx (sh - 1) 0), .int sw, .int ho]))) = ws_3 at J hk G3_0 G3_1 G3_2 G3_3 G3_4 G3_5
      refine lv_aload_n hx hb dX5_passCell_124 rfl (lv_at hl 3 rfl) ?_
      refine lv_aload_n hx hb dX5_passCell_125 rfl (lv_at hl 3 rfl) ?_
      refine z_get (C := RX5) (T := TX5) (N := 10) (ci := 6) (v := .int sw) X J hi_X5 qw G3_0 rfl 8 (by decide) (by decide +kernel) rfl dX5_passCell_126 ?_
      refine lv_iconst (v := 1) hx hb dX5_passCell_129 (by decide) ?_
      refine lv_isub hx hb dX5_passCell_130 ?_
      refine lv_iconst (v := 0) hx hb dX5_passCell_131 (by decide) ?_
      refine va_mmax hx hb (X.1.2.2.1.trans hl.1.symm) hown (hts (.methodLink RX5 75 Lib.Math.max.name) (by decide +kernel)) (hts (.static Lib.Math.max.name) (by decide +kernel)) (hts (.initialized "java/lang/Math") (by decide +kernel)) (hts (.code Lib.Math.max.name Lib.Math.max.code 2 (some .int)) (by decide +kernel)) (Nat.le_of_ble_eq_true rfl) (Nat.le_of_ble_eq_true rfl) (Nat.le_of_ble_eq_true rfl) (Nat.le_of_ble_eq_true rfl) dX5_passCell_132 ?_
      refine W.eq (g2 := F0 m 135 ls [.int (mx (sw - 1) 0), .ref w]) rfl ?_
      refine z_put (C := RX5) (T := TX5) (N := 10) (ci := 6) (v := .int (mx (sw - 1) 0)) X J hi_X5 tyX5 tyX5_ok nmX5 qw G3_0 rfl 8 (by decide) (by decide +kernel) rfl rfl rfl (Nat.le_of_ble_eq_true rfl) dX5_passCell_135 (fun H locs J => ?_)
      have J : zJ E (ws_3.set qw (w, .inr (6, [.int dn, .int stg, .int sup, .int fc, .int nc, .int nl, .int (ca + (pickS stg (gd f cl) ca)), .int (mx (sh - 1) 0), .int (mx (sw - 1) 0), .int ho]))) s H locs := J
      have hk := hk.trans (zK.set (ws := ws_3) (q := qw) (e := (w, .inr (6, [.int dn, .int stg, .int sup, .int fc, .int nc, .int nl, .int (ca + (pickS stg (gd f cl) ca)), .int (mx (sh - 1) 0), .int (mx (sw - 1) 0), .int ho]))) (by simp))
      have G4_0 := zset_eq (e' := (w, .inr (6, [.int dn, .int stg, .int sup, .int fc, .int nc, .int nl, .int (ca + (pickS stg (gd f cl) ca)), .int (mx (sh - 1) 0), .int (mx (sw - 1) 0), .int ho]))) G3_0
      have G4_1 := zset_ne (q := qw) (e' := (w, .inr (6, [.int dn, .int stg, .int sup, .int fc, .int nc, .int nl, .int (ca + (pickS stg (gd f cl) ca)), .int (mx (sh - 1) 0), .int (mx (sw - 1) 0), .int ho]))) (by omega) G3_1
      have G4_2 := zset_ne (q := qw) (e' := (w, .inr (6, [.int dn, .int stg, .int sup, .int fc, .int nc, .int nl, .int (ca + (pickS stg (gd f cl) ca)), .int (mx (sh - 1) 0), .int (mx (sw - 1) 0), .int ho]))) (by omega) G3_2
      have G4_3 := zset_ne (q := qw) (e' := (w, .inr (6, [.int dn, .int stg, .int sup, .int fc, .int nc, .int nl, .int (ca + (pickS stg (gd f cl) ca)), .int (mx (sh - 1) 0), .int (mx (sw - 1) 0), .int ho]))) (by omega) G3_3
      have G4_4 := zset_ne (q := qw) (e' := (w, .inr (6, [.int dn, .int stg, .int sup, .int fc, .int nc, .int nl, .int (ca + (pickS stg (gd f cl) ca)), .int (mx (sh - 1) 0), .int (mx (sw - 1) 0), .int ho]))) (by omega) G3_4
      have G4_5 := zset_ne (q := qw) (e' := (w, .inr (6, [.int dn, .int stg, .int sup, .int fc, .int nc, .int nl, .int (ca + (pickS stg (gd f cl) ca)), .int (mx (sh - 1) 0), .int (mx (sw - 1) 0), .int ho]))) (by omega) G3_5
      generalize hws4 : (ws_3.set qw (w, .inr (6, [.int dn, .int stg, .int sup, .int fc, .int nc, .int nl, .int (ca + (pickS stg (gd f cl) ca)), .int (mx (sh - 1) 0), .int (mx (sw - 1) 0), .int ho]))) = ws_4 at J hk G4_0 G4_1 G4_2 G4_3 G4_4 G4_5
      have e9 := pcS_pick (stg := stg) (gf := gf) (x := (f, ca, sh, sw, ho)) (Or.inl cz9) (Or.inl cz61)
      subst hQ
      exact W.vret hx hb hr (fun t ht hW => ⟨⟨ws_4, rfl, ⟨hk, (by rw [e9]; exact G4_0), (by rw [e9]; exact G4_2)⟩, J.I X ht hW.alike⟩, J.F ht⟩) J.locs dX5_passCell_138
    · refine lv_aload_n hx hb dX5_passCell_64 rfl (lv_at hl 2 rfl) ?_
      refine z_get (C := RX5) (T := TX5) (N := 10) (ci := 6) (v := .int sw) X J hi_X5 qw Fa0 rfl 8 (by decide) (by decide +kernel) rfl dX5_passCell_65 ?_
      refine lv_if_ne (tgt := 81) hx hb dX5_passCell_68 (by decide) (fun cz68 => ?_) (fun cz68 => ?_)
      · refine lv_aload_n hx hb dX5_passCell_81 rfl (lv_at hl 2 rfl) ?_
        refine lv_iload hx hb dX5_passCell_82 (lv_at hl 0 rfl) ?_
        refine z_cr (z_rV (As := [.int (gd f cl)]) (rest := []) (ci := 6) (q0 := qw) X J (cX5_pickedUp_ok l E Fa0) (cwV 1 hts gX5_passCell_X5_pickedUp rfl rfl rfl (by decide +kernel) ⟨Nat.le_of_ble_eq_true rfl, Nat.le_of_ble_eq_true rfl⟩) Fa0 rfl rfl rfl hl.1 rfl (Nat.le_of_ble_eq_true rfl) dX5_passCell_84 ⟨Nat.le_of_ble_eq_true rfl, Nat.le_of_ble_eq_true rfl⟩) (fun r84 e_r84 => ?_)
        subst e_r84
        refine lv_istore (lv' := [(6, .int (pickS stg (gd f cl) ca)), (5, .int (gd f cl)), (4, .int (gd hf cl)), (0, .ref w), (1, .ref g), (2, .ref sc), (3, .int cl)]) hx hb dX5_passCell_87 hl (by decide) rfl (fun ls hl => ?_)
        refine lv_aload_n hx hb dX5_passCell_89 rfl (lv_at hl 4 rfl) ?_
        refine lv_iload_n hx hb dX5_passCell_90 rfl (lv_at hl 6 rfl) ?_
        refine lv_iload hx hb dX5_passCell_91 (lv_at hl 1 rfl) ?_
        refine lv_iload hx hb dX5_passCell_93 (lv_at hl 0 rfl) ?_
        refine lv_isub hx hb dX5_passCell_95 ?_
        refine z_cv J (z_rV (As := [.int cl, .int ((gd f cl) - (pickS stg (gd f cl) ca))]) (rest := []) (ci := 2) (q0 := qg) X J (cX1_put_ok l E Fa1 Fa2) (cwV 2 hts gX5_passCell_X1_put rfl rfl rfl (by decide +kernel) ⟨Nat.le_of_ble_eq_true rfl, Nat.le_of_ble_eq_true rfl⟩) Fa1 rfl rfl rfl hl.1 rfl (Nat.le_of_ble_eq_true rfl) dX5_passCell_96 ⟨Nat.le_of_ble_eq_true rfl, Nat.le_of_ble_eq_true rfl⟩) (fun ws_1 H locs hp9 J => ?_)
        obtain ⟨k1, G1_a0⟩ := hp9
        have hk := hk.trans (k1.mono (by intro q9 hq9; simp only [List.mem_cons, List.not_mem_nil, or_false] at hq9 ⊢; omega))
        have G1_0 := k1.2 qw _ (by simp only [List.mem_cons, List.not_mem_nil, or_false]; omega) Fa0
        have G1_1 := k1.2 qg _ (by simp only [List.mem_cons, List.not_mem_nil, or_false]; omega) Fa1
        have G1_3 := k1.2 qc _ (by simp only [List.mem_cons, List.not_mem_nil, or_false]; omega) Fa3
        have G1_4 := k1.2 qh _ (by simp only [List.mem_cons, List.not_mem_nil, or_false]; omega) Fa4
        have G1_5 := k1.2 qv _ (by simp only [List.mem_cons, List.not_mem_nil, or_false]; omega) Fa5
        refine lv_aload_n hx hb dX5_passCell_99 rfl (lv_at hl 3 rfl) ?_
        refine lv_dup hx hb dX5_passCell_100 rfl ?_
        refine z_get (C := RX5) (T := TX5) (N := 10) (ci := 6) (v := .int ca) X J hi_X5 qw G1_0 rfl 6 (by decide) (by decide +kernel) rfl dX5_passCell_101 ?_
        refine lv_iload hx hb dX5_passCell_104 (lv_at hl 0 rfl) ?_
        refine lv_iadd hx hb dX5_passCell_106 ?_
        refine z_put (C := RX5) (T := TX5) (N := 10) (ci := 6) (v := .int (ca + (pickS stg (gd f cl) ca))) X J hi_X5 tyX5 tyX5_ok nmX5 qw G1_0 rfl 6 (by decide) (by decide +kernel) rfl rfl rfl (Nat.le_of_ble_eq_true rfl) dX5_passCell_107 (fun H locs J => ?_)
        have J : zJ E (ws_1.set qw (w, .inr (6, [.int dn, .int stg, .int sup, .int fc, .int nc, .int nl, .int (ca + (pickS stg (gd f cl) ca)), .int sh, .int sw, .int ho]))) s H locs := J
        have hk := hk.trans (zK.set (ws := ws_1) (q := qw) (e := (w, .inr (6, [.int dn, .int stg, .int sup, .int fc, .int nc, .int nl, .int (ca + (pickS stg (gd f cl) ca)), .int sh, .int sw, .int ho]))) (by simp))
        have G2_0 := zset_eq (e' := (w, .inr (6, [.int dn, .int stg, .int sup, .int fc, .int nc, .int nl, .int (ca + (pickS stg (gd f cl) ca)), .int sh, .int sw, .int ho]))) G1_0
        have G2_1 := zset_ne (q := qw) (e' := (w, .inr (6, [.int dn, .int stg, .int sup, .int fc, .int nc, .int nl, .int (ca + (pickS stg (gd f cl) ca)), .int sh, .int sw, .int ho]))) (by omega) G1_1
        have G2_2 := zset_ne (q := qw) (e' := (w, .inr (6, [.int dn, .int stg, .int sup, .int fc, .int nc, .int nl, .int (ca + (pickS stg (gd f cl) ca)), .int sh, .int sw, .int ho]))) (by omega) G1_a0
        have G2_3 := zset_ne (q := qw) (e' := (w, .inr (6, [.int dn, .int stg, .int sup, .int fc, .int nc, .int nl, .int (ca + (pickS stg (gd f cl) ca)), .int sh, .int sw, .int ho]))) (by omega) G1_3
        have G2_4 := zset_ne (q := qw) (e' := (w, .inr (6, [.int dn, .int stg, .int sup, .int fc, .int nc, .int nl, .int (ca + (pickS stg (gd f cl) ca)), .int sh, .int sw, .int ho]))) (by omega) G1_4
        have G2_5 := zset_ne (q := qw) (e' := (w, .inr (6, [.int dn, .int stg, .int sup, .int fc, .int nc, .int nl, .int (ca + (pickS stg (gd f cl) ca)), .int sh, .int sw, .int ho]))) (by omega) G1_5
        generalize hws2 : (ws_1.set qw (w, .inr (6, [.int dn, .int stg, .int sup, .int fc, .int nc, .int nl, .int (ca + (pickS stg (gd f cl) ca)), .int sh, .int sw, .int ho]))) = ws_2 at J hk G2_0 G2_1 G2_2 G2_3 G2_4 G2_5
        refine lv_aload_n hx hb dX5_passCell_110 rfl (lv_at hl 3 rfl) ?_
        refine lv_aload_n hx hb dX5_passCell_111 rfl (lv_at hl 3 rfl) ?_
        refine z_get (C := RX5) (T := TX5) (N := 10) (ci := 6) (v := .int sh) X J hi_X5 qw G2_0 rfl 7 (by decide) (by decide +kernel) rfl dX5_passCell_112 ?_
        refine lv_iconst (v := 1) hx hb dX5_passCell_115 (by decide) ?_
        refine lv_isub hx hb dX5_passCell_116 ?_
        refine lv_iconst (v := 0) hx hb dX5_passCell_117 (by decide) ?_
        refine va_mmax hx hb (X.1.2.2.1.trans hl.1.symm) hown (hts (.methodLink RX5 75 Lib.Math.max.name) (by decide +kernel)) (hts (.static Lib.Math.max.name) (by decide +kernel)) (hts (.initialized "java/lang/Math") (by decide +kernel)) (hts (.code Lib.Math.max.name Lib.Math.max.code 2 (some .int)) (by decide +kernel)) (Nat.le_of_ble_eq_true rfl) (Nat.le_of_ble_eq_true rfl) (Nat.le_of_ble_eq_true rfl) (Nat.le_of_ble_eq_true rfl) dX5_passCell_118 ?_
        refine W.eq (g2 := F0 m 121 ls [.int (mx (sh - 1) 0), .ref w]) rfl ?_
        refine z_put (C := RX5) (T := TX5) (N := 10) (ci := 6) (v := .int (mx (sh - 1) 0)) X J hi_X5 tyX5 tyX5_ok nmX5 qw G2_0 rfl 7 (by decide) (by decide +kernel) rfl rfl rfl (Nat.le_of_ble_eq_true rfl) dX5_passCell_121 (fun H locs J => ?_)
        have J : zJ E (ws_2.set qw (w, .inr (6, [.int dn, .int stg, .int sup, .int fc, .int nc, .int nl, .int (ca + (pickS stg (gd f cl) ca)), .int (mx (sh - 1) 0), .int sw, .int ho]))) s H locs := J
        have hk := hk.trans (zK.set (ws := ws_2) (q := qw) (e := (w, .inr (6, [.int dn, .int stg, .int sup, .int fc, .int nc, .int nl, .int (ca + (pickS stg (gd f cl) ca)), .int (mx (sh - 1) 0), .int sw, .int ho]))) (by simp))
        have G3_0 := zset_eq (e' := (w, .inr (6, [.int dn, .int stg, .int sup, .int fc, .int nc, .int nl, .int (ca + (pickS stg (gd f cl) ca)), .int (mx (sh - 1) 0), .int sw, .int ho]))) G2_0
        have G3_1 := zset_ne (q := qw) (e' := (w, .inr (6, [.int dn, .int stg, .int sup, .int fc, .int nc, .int nl, .int (ca + (pickS stg (gd f cl) ca)), .int (mx (sh - 1) 0), .int sw, .int ho]))) (by omega) G2_1
        have G3_2 := zset_ne (q := qw) (e' := (w, .inr (6, [.int dn, .int stg, .int sup, .int fc, .int nc, .int nl, .int (ca + (pickS stg (gd f cl) ca)), .int (mx (sh - 1) 0), .int sw, .int ho]))) (by omega) G2_2
        have G3_3 := zset_ne (q := qw) (e' := (w, .inr (6, [.int dn, .int stg, .int sup, .int fc, .int nc, .int nl, .int (ca + (pickS stg (gd f cl) ca)), .int (mx (sh - 1) 0), .int sw, .int ho]))) (by omega) G2_3
        have G3_4 := zset_ne (q := qw) (e' := (w, .inr (6, [.int dn, .int stg, .int sup, .int fc, .int nc, .int nl, .int (ca + (pickS stg (gd f cl) ca)), .int (mx (sh - 1) 0), .int sw, .int ho]))) (by omega) G2_4
        have G3_5 := zset_ne (q := qw) (e' := (w, .inr (6, [.int dn, .int stg, .int sup, .int fc, .int nc, .int nl, .int (ca + (pickS stg (gd f cl) ca)), .int (mx (sh - 1) 0), .int sw, .int ho]))) (by omega) G2_5
        generalize hws3 : (ws_2.set qw (w, .inr (6, [.int dn, .int stg, .int sup, .int fc, .int nc, .int nl, .int (ca + (pickS stg (gd f cl) ca)), .int (mx (sh - 1) 0), .int sw, .int ho]))) = ws_3 at J hk G3_0 G3_1 G3_2 G3_3 G3_4 G3_5
        refine lv_aload_n hx hb dX5_passCell_124 rfl (lv_at hl 3 rfl) ?_
        refine lv_aload_n hx hb dX5_passCell_125 rfl (lv_at hl 3 rfl) ?_
        refine z_get (C := RX5) (T := TX5) (N := 10) (ci := 6) (v := .int sw) X J hi_X5 qw G3_0 rfl 8 (by decide) (by decide +kernel) rfl dX5_passCell_126 ?_
        refine lv_iconst (v := 1) hx hb dX5_passCell_129 (by decide) ?_
        refine lv_isub hx hb dX5_passCell_130 ?_
        refine lv_iconst (v := 0) hx hb dX5_passCell_131 (by decide) ?_
        refine va_mmax hx hb (X.1.2.2.1.trans hl.1.symm) hown (hts (.methodLink RX5 75 Lib.Math.max.name) (by decide +kernel)) (hts (.static Lib.Math.max.name) (by decide +kernel)) (hts (.initialized "java/lang/Math") (by decide +kernel)) (hts (.code Lib.Math.max.name Lib.Math.max.code 2 (some .int)) (by decide +kernel)) (Nat.le_of_ble_eq_true rfl) (Nat.le_of_ble_eq_true rfl) (Nat.le_of_ble_eq_true rfl) (Nat.le_of_ble_eq_true rfl) dX5_passCell_132 ?_
        refine W.eq (g2 := F0 m 135 ls [.int (mx (sw - 1) 0), .ref w]) rfl ?_
        refine z_put (C := RX5) (T := TX5) (N := 10) (ci := 6) (v := .int (mx (sw - 1) 0)) X J hi_X5 tyX5 tyX5_ok nmX5 qw G3_0 rfl 8 (by decide) (by decide +kernel) rfl rfl rfl (Nat.le_of_ble_eq_true rfl) dX5_passCell_135 (fun H locs J => ?_)
        have J : zJ E (ws_3.set qw (w, .inr (6, [.int dn, .int stg, .int sup, .int fc, .int nc, .int nl, .int (ca + (pickS stg (gd f cl) ca)), .int (mx (sh - 1) 0), .int (mx (sw - 1) 0), .int ho]))) s H locs := J
        have hk := hk.trans (zK.set (ws := ws_3) (q := qw) (e := (w, .inr (6, [.int dn, .int stg, .int sup, .int fc, .int nc, .int nl, .int (ca + (pickS stg (gd f cl) ca)), .int (mx (sh - 1) 0), .int (mx (sw - 1) 0), .int ho]))) (by simp))
        have G4_0 := zset_eq (e' := (w, .inr (6, [.int dn, .int stg, .int sup, .int fc, .int nc, .int nl, .int (ca + (pickS stg (gd f cl) ca)), .int (mx (sh - 1) 0), .int (mx (sw - 1) 0), .int ho]))) G3_0
        have G4_1 := zset_ne (q := qw) (e' := (w, .inr (6, [.int dn, .int stg, .int sup, .int fc, .int nc, .int nl, .int (ca + (pickS stg (gd f cl) ca)), .int (mx (sh - 1) 0), .int (mx (sw - 1) 0), .int ho]))) (by omega) G3_1
        have G4_2 := zset_ne (q := qw) (e' := (w, .inr (6, [.int dn, .int stg, .int sup, .int fc, .int nc, .int nl, .int (ca + (pickS stg (gd f cl) ca)), .int (mx (sh - 1) 0), .int (mx (sw - 1) 0), .int ho]))) (by omega) G3_2
        have G4_3 := zset_ne (q := qw) (e' := (w, .inr (6, [.int dn, .int stg, .int sup, .int fc, .int nc, .int nl, .int (ca + (pickS stg (gd f cl) ca)), .int (mx (sh - 1) 0), .int (mx (sw - 1) 0), .int ho]))) (by omega) G3_3
        have G4_4 := zset_ne (q := qw) (e' := (w, .inr (6, [.int dn, .int stg, .int sup, .int fc, .int nc, .int nl, .int (ca + (pickS stg (gd f cl) ca)), .int (mx (sh - 1) 0), .int (mx (sw - 1) 0), .int ho]))) (by omega) G3_4
        have G4_5 := zset_ne (q := qw) (e' := (w, .inr (6, [.int dn, .int stg, .int sup, .int fc, .int nc, .int nl, .int (ca + (pickS stg (gd f cl) ca)), .int (mx (sh - 1) 0), .int (mx (sw - 1) 0), .int ho]))) (by omega) G3_5
        generalize hws4 : (ws_3.set qw (w, .inr (6, [.int dn, .int stg, .int sup, .int fc, .int nc, .int nl, .int (ca + (pickS stg (gd f cl) ca)), .int (mx (sh - 1) 0), .int (mx (sw - 1) 0), .int ho]))) = ws_4 at J hk G4_0 G4_1 G4_2 G4_3 G4_4 G4_5
        have e9 := pcS_pick (stg := stg) (gf := gf) (x := (f, ca, sh, sw, ho)) (Or.inl cz9) (Or.inr cz68)
        subst hQ
        exact W.vret hx hb hr (fun t ht hW => ⟨⟨ws_4, rfl, ⟨hk, (by rw [e9]; exact G4_0), (by rw [e9]; exact G4_2)⟩, J.I X ht hW.alike⟩, J.F ht⟩) J.locs dX5_passCell_138
      · refine lv_aload_n hx hb dX5_passCell_71 rfl (lv_at hl 2 rfl) ?_
        refine lv_iload hx hb dX5_passCell_72 (lv_at hl 0 rfl) ?_
        refine z_cr (z_rV (As := [.int (gd f cl)]) (rest := []) (ci := 6) (q0 := qw) X J (cX5_dropped_ok l E Fa0) (cwV 1 hts gX5_passCell_X5_dropped rfl rfl rfl (by decide +kernel) ⟨Nat.le_of_ble_eq_true rfl, Nat.le_of_ble_eq_true rfl⟩) Fa0 rfl rfl rfl hl.1 rfl (Nat.le_of_ble_eq_true rfl) dX5_passCell_74 ⟨Nat.le_of_ble_eq_true rfl, Nat.le_of_ble_eq_true rfl⟩) (fun r74 e_r74 => ?_)
        subst e_r74
        refine lv_ineg hx hb dX5_passCell_77 ?_
        refine lv_goto (tgt := 87) hx hb dX5_passCell_78 (by decide) ?_
        refine lv_istore (lv' := [(6, .int (-(dropS (gd f cl) ca ho))), (5, .int (gd f cl)), (4, .int (gd hf cl)), (0, .ref w), (1, .ref g), (2, .ref sc), (3, .int cl)]) hx hb dX5_passCell_87 hl (by decide) rfl (fun ls hl => ?_)
        refine lv_aload_n hx hb dX5_passCell_89 rfl (lv_at hl 4 rfl) ?_
        refine lv_iload_n hx hb dX5_passCell_90 rfl (lv_at hl 6 rfl) ?_
        refine lv_iload hx hb dX5_passCell_91 (lv_at hl 1 rfl) ?_
        refine lv_iload hx hb dX5_passCell_93 (lv_at hl 0 rfl) ?_
        refine lv_isub hx hb dX5_passCell_95 ?_
        refine z_cv J (z_rV (As := [.int cl, .int ((gd f cl) - (-(dropS (gd f cl) ca ho)))]) (rest := []) (ci := 2) (q0 := qg) X J (cX1_put_ok l E Fa1 Fa2) (cwV 2 hts gX5_passCell_X1_put rfl rfl rfl (by decide +kernel) ⟨Nat.le_of_ble_eq_true rfl, Nat.le_of_ble_eq_true rfl⟩) Fa1 rfl rfl rfl hl.1 rfl (Nat.le_of_ble_eq_true rfl) dX5_passCell_96 ⟨Nat.le_of_ble_eq_true rfl, Nat.le_of_ble_eq_true rfl⟩) (fun ws_1 H locs hp9 J => ?_)
        obtain ⟨k1, G1_a0⟩ := hp9
        have hk := hk.trans (k1.mono (by intro q9 hq9; simp only [List.mem_cons, List.not_mem_nil, or_false] at hq9 ⊢; omega))
        have G1_0 := k1.2 qw _ (by simp only [List.mem_cons, List.not_mem_nil, or_false]; omega) Fa0
        have G1_1 := k1.2 qg _ (by simp only [List.mem_cons, List.not_mem_nil, or_false]; omega) Fa1
        have G1_3 := k1.2 qc _ (by simp only [List.mem_cons, List.not_mem_nil, or_false]; omega) Fa3
        have G1_4 := k1.2 qh _ (by simp only [List.mem_cons, List.not_mem_nil, or_false]; omega) Fa4
        have G1_5 := k1.2 qv _ (by simp only [List.mem_cons, List.not_mem_nil, or_false]; omega) Fa5
        refine lv_aload_n hx hb dX5_passCell_99 rfl (lv_at hl 3 rfl) ?_
        refine lv_dup hx hb dX5_passCell_100 rfl ?_
        refine z_get (C := RX5) (T := TX5) (N := 10) (ci := 6) (v := .int ca) X J hi_X5 qw G1_0 rfl 6 (by decide) (by decide +kernel) rfl dX5_passCell_101 ?_
        refine lv_iload hx hb dX5_passCell_104 (lv_at hl 0 rfl) ?_
        refine lv_iadd hx hb dX5_passCell_106 ?_
        refine z_put (C := RX5) (T := TX5) (N := 10) (ci := 6) (v := .int (ca + (-(dropS (gd f cl) ca ho)))) X J hi_X5 tyX5 tyX5_ok nmX5 qw G1_0 rfl 6 (by decide) (by decide +kernel) rfl rfl rfl (Nat.le_of_ble_eq_true rfl) dX5_passCell_107 (fun H locs J => ?_)
        have J : zJ E (ws_1.set qw (w, .inr (6, [.int dn, .int stg, .int sup, .int fc, .int nc, .int nl, .int (ca + (-(dropS (gd f cl) ca ho))), .int sh, .int sw, .int ho]))) s H locs := J
        have hk := hk.trans (zK.set (ws := ws_1) (q := qw) (e := (w, .inr (6, [.int dn, .int stg, .int sup, .int fc, .int nc, .int nl, .int (ca + (-(dropS (gd f cl) ca ho))), .int sh, .int sw, .int ho]))) (by simp))
        have G2_0 := zset_eq (e' := (w, .inr (6, [.int dn, .int stg, .int sup, .int fc, .int nc, .int nl, .int (ca + (-(dropS (gd f cl) ca ho))), .int sh, .int sw, .int ho]))) G1_0
        have G2_1 := zset_ne (q := qw) (e' := (w, .inr (6, [.int dn, .int stg, .int sup, .int fc, .int nc, .int nl, .int (ca + (-(dropS (gd f cl) ca ho))), .int sh, .int sw, .int ho]))) (by omega) G1_1
        have G2_2 := zset_ne (q := qw) (e' := (w, .inr (6, [.int dn, .int stg, .int sup, .int fc, .int nc, .int nl, .int (ca + (-(dropS (gd f cl) ca ho))), .int sh, .int sw, .int ho]))) (by omega) G1_a0
        have G2_3 := zset_ne (q := qw) (e' := (w, .inr (6, [.int dn, .int stg, .int sup, .int fc, .int nc, .int nl, .int (ca + (-(dropS (gd f cl) ca ho))), .int sh, .int sw, .int ho]))) (by omega) G1_3
        have G2_4 := zset_ne (q := qw) (e' := (w, .inr (6, [.int dn, .int stg, .int sup, .int fc, .int nc, .int nl, .int (ca + (-(dropS (gd f cl) ca ho))), .int sh, .int sw, .int ho]))) (by omega) G1_4
        have G2_5 := zset_ne (q := qw) (e' := (w, .inr (6, [.int dn, .int stg, .int sup, .int fc, .int nc, .int nl, .int (ca + (-(dropS (gd f cl) ca ho))), .int sh, .int sw, .int ho]))) (by omega) G1_5
        generalize hws2 : (ws_1.set qw (w, .inr (6, [.int dn, .int stg, .int sup, .int fc, .int nc, .int nl, .int (ca + (-(dropS (gd f cl) ca ho))), .int sh, .int sw, .int ho]))) = ws_2 at J hk G2_0 G2_1 G2_2 G2_3 G2_4 G2_5
        refine lv_aload_n hx hb dX5_passCell_110 rfl (lv_at hl 3 rfl) ?_
        refine lv_aload_n hx hb dX5_passCell_111 rfl (lv_at hl 3 rfl) ?_
        refine z_get (C := RX5) (T := TX5) (N := 10) (ci := 6) (v := .int sh) X J hi_X5 qw G2_0 rfl 7 (by decide) (by decide +kernel) rfl dX5_passCell_112 ?_
        refine lv_iconst (v := 1) hx hb dX5_passCell_115 (by decide) ?_
        refine lv_isub hx hb dX5_passCell_116 ?_
        refine lv_iconst (v := 0) hx hb dX5_passCell_117 (by decide) ?_
        refine va_mmax hx hb (X.1.2.2.1.trans hl.1.symm) hown (hts (.methodLink RX5 75 Lib.Math.max.name) (by decide +kernel)) (hts (.static Lib.Math.max.name) (by decide +kernel)) (hts (.initialized "java/lang/Math") (by decide +kernel)) (hts (.code Lib.Math.max.name Lib.Math.max.code 2 (some .int)) (by decide +kernel)) (Nat.le_of_ble_eq_true rfl) (Nat.le_of_ble_eq_true rfl) (Nat.le_of_ble_eq_true rfl) (Nat.le_of_ble_eq_true rfl) dX5_passCell_118 ?_
        refine W.eq (g2 := F0 m 121 ls [.int (mx (sh - 1) 0), .ref w]) rfl ?_
        refine z_put (C := RX5) (T := TX5) (N := 10) (ci := 6) (v := .int (mx (sh - 1) 0)) X J hi_X5 tyX5 tyX5_ok nmX5 qw G2_0 rfl 7 (by decide) (by decide +kernel) rfl rfl rfl (Nat.le_of_ble_eq_true rfl) dX5_passCell_121 (fun H locs J => ?_)
        have J : zJ E (ws_2.set qw (w, .inr (6, [.int dn, .int stg, .int sup, .int fc, .int nc, .int nl, .int (ca + (-(dropS (gd f cl) ca ho))), .int (mx (sh - 1) 0), .int sw, .int ho]))) s H locs := J
        have hk := hk.trans (zK.set (ws := ws_2) (q := qw) (e := (w, .inr (6, [.int dn, .int stg, .int sup, .int fc, .int nc, .int nl, .int (ca + (-(dropS (gd f cl) ca ho))), .int (mx (sh - 1) 0), .int sw, .int ho]))) (by simp))
        have G3_0 := zset_eq (e' := (w, .inr (6, [.int dn, .int stg, .int sup, .int fc, .int nc, .int nl, .int (ca + (-(dropS (gd f cl) ca ho))), .int (mx (sh - 1) 0), .int sw, .int ho]))) G2_0
        have G3_1 := zset_ne (q := qw) (e' := (w, .inr (6, [.int dn, .int stg, .int sup, .int fc, .int nc, .int nl, .int (ca + (-(dropS (gd f cl) ca ho))), .int (mx (sh - 1) 0), .int sw, .int ho]))) (by omega) G2_1
        have G3_2 := zset_ne (q := qw) (e' := (w, .inr (6, [.int dn, .int stg, .int sup, .int fc, .int nc, .int nl, .int (ca + (-(dropS (gd f cl) ca ho))), .int (mx (sh - 1) 0), .int sw, .int ho]))) (by omega) G2_2
        have G3_3 := zset_ne (q := qw) (e' := (w, .inr (6, [.int dn, .int stg, .int sup, .int fc, .int nc, .int nl, .int (ca + (-(dropS (gd f cl) ca ho))), .int (mx (sh - 1) 0), .int sw, .int ho]))) (by omega) G2_3
        have G3_4 := zset_ne (q := qw) (e' := (w, .inr (6, [.int dn, .int stg, .int sup, .int fc, .int nc, .int nl, .int (ca + (-(dropS (gd f cl) ca ho))), .int (mx (sh - 1) 0), .int sw, .int ho]))) (by omega) G2_4
        have G3_5 := zset_ne (q := qw) (e' := (w, .inr (6, [.int dn, .int stg, .int sup, .int fc, .int nc, .int nl, .int (ca + (-(dropS (gd f cl) ca ho))), .int (mx (sh - 1) 0), .int sw, .int ho]))) (by omega) G2_5
        generalize hws3 : (ws_2.set qw (w, .inr (6, [.int dn, .int stg, .int sup, .int fc, .int nc, .int nl, .int (ca + (-(dropS (gd f cl) ca ho))), .int (mx (sh - 1) 0), .int sw, .int ho]))) = ws_3 at J hk G3_0 G3_1 G3_2 G3_3 G3_4 G3_5
        refine lv_aload_n hx hb dX5_passCell_124 rfl (lv_at hl 3 rfl) ?_
        refine lv_aload_n hx hb dX5_passCell_125 rfl (lv_at hl 3 rfl) ?_
        refine z_get (C := RX5) (T := TX5) (N := 10) (ci := 6) (v := .int sw) X J hi_X5 qw G3_0 rfl 8 (by decide) (by decide +kernel) rfl dX5_passCell_126 ?_
        refine lv_iconst (v := 1) hx hb dX5_passCell_129 (by decide) ?_
        refine lv_isub hx hb dX5_passCell_130 ?_
        refine lv_iconst (v := 0) hx hb dX5_passCell_131 (by decide) ?_
        refine va_mmax hx hb (X.1.2.2.1.trans hl.1.symm) hown (hts (.methodLink RX5 75 Lib.Math.max.name) (by decide +kernel)) (hts (.static Lib.Math.max.name) (by decide +kernel)) (hts (.initialized "java/lang/Math") (by decide +kernel)) (hts (.code Lib.Math.max.name Lib.Math.max.code 2 (some .int)) (by decide +kernel)) (Nat.le_of_ble_eq_true rfl) (Nat.le_of_ble_eq_true rfl) (Nat.le_of_ble_eq_true rfl) (Nat.le_of_ble_eq_true rfl) dX5_passCell_132 ?_
        refine W.eq (g2 := F0 m 135 ls [.int (mx (sw - 1) 0), .ref w]) rfl ?_
        refine z_put (C := RX5) (T := TX5) (N := 10) (ci := 6) (v := .int (mx (sw - 1) 0)) X J hi_X5 tyX5 tyX5_ok nmX5 qw G3_0 rfl 8 (by decide) (by decide +kernel) rfl rfl rfl (Nat.le_of_ble_eq_true rfl) dX5_passCell_135 (fun H locs J => ?_)
        have J : zJ E (ws_3.set qw (w, .inr (6, [.int dn, .int stg, .int sup, .int fc, .int nc, .int nl, .int (ca + (-(dropS (gd f cl) ca ho))), .int (mx (sh - 1) 0), .int (mx (sw - 1) 0), .int ho]))) s H locs := J
        have hk := hk.trans (zK.set (ws := ws_3) (q := qw) (e := (w, .inr (6, [.int dn, .int stg, .int sup, .int fc, .int nc, .int nl, .int (ca + (-(dropS (gd f cl) ca ho))), .int (mx (sh - 1) 0), .int (mx (sw - 1) 0), .int ho]))) (by simp))
        have G4_0 := zset_eq (e' := (w, .inr (6, [.int dn, .int stg, .int sup, .int fc, .int nc, .int nl, .int (ca + (-(dropS (gd f cl) ca ho))), .int (mx (sh - 1) 0), .int (mx (sw - 1) 0), .int ho]))) G3_0
        have G4_1 := zset_ne (q := qw) (e' := (w, .inr (6, [.int dn, .int stg, .int sup, .int fc, .int nc, .int nl, .int (ca + (-(dropS (gd f cl) ca ho))), .int (mx (sh - 1) 0), .int (mx (sw - 1) 0), .int ho]))) (by omega) G3_1
        have G4_2 := zset_ne (q := qw) (e' := (w, .inr (6, [.int dn, .int stg, .int sup, .int fc, .int nc, .int nl, .int (ca + (-(dropS (gd f cl) ca ho))), .int (mx (sh - 1) 0), .int (mx (sw - 1) 0), .int ho]))) (by omega) G3_2
        have G4_3 := zset_ne (q := qw) (e' := (w, .inr (6, [.int dn, .int stg, .int sup, .int fc, .int nc, .int nl, .int (ca + (-(dropS (gd f cl) ca ho))), .int (mx (sh - 1) 0), .int (mx (sw - 1) 0), .int ho]))) (by omega) G3_3
        have G4_4 := zset_ne (q := qw) (e' := (w, .inr (6, [.int dn, .int stg, .int sup, .int fc, .int nc, .int nl, .int (ca + (-(dropS (gd f cl) ca ho))), .int (mx (sh - 1) 0), .int (mx (sw - 1) 0), .int ho]))) (by omega) G3_4
        have G4_5 := zset_ne (q := qw) (e' := (w, .inr (6, [.int dn, .int stg, .int sup, .int fc, .int nc, .int nl, .int (ca + (-(dropS (gd f cl) ca ho))), .int (mx (sh - 1) 0), .int (mx (sw - 1) 0), .int ho]))) (by omega) G3_5
        generalize hws4 : (ws_3.set qw (w, .inr (6, [.int dn, .int stg, .int sup, .int fc, .int nc, .int nl, .int (ca + (-(dropS (gd f cl) ca ho))), .int (mx (sh - 1) 0), .int (mx (sw - 1) 0), .int ho]))) = ws_4 at J hk G4_0 G4_1 G4_2 G4_3 G4_4 G4_5
        have e9 := pcS_drop (stg := stg) (gf := gf) (x := (f, ca, sh, sw, ho)) (Or.inl cz9) cz61 cz68
        subst hQ
        exact W.vret hx hb hr (fun t ht hW => ⟨⟨ws_4, rfl, ⟨hk, (by rw [e9]; exact G4_0), (by rw [e9]; exact G4_2)⟩, J.I X ht hW.alike⟩, J.F ht⟩) J.locs dX5_passCell_138
  · refine lv_iconst (v := 2) hx hb dX5_passCell_12 (by decide) ?_
    refine lv_iload hx hb dX5_passCell_13 (lv_at hl 0 rfl) ?_
    refine lv_imul hx hb dX5_passCell_15 ?_
    refine lv_aload_n hx hb dX5_passCell_16 rfl (lv_at hl 1 rfl) ?_
    refine z_get (C := RX5) (T := TX5) (N := 10) (ci := 6) (v := .int sh) X J hi_X5 qw Fa0 rfl 7 (by decide) (by decide +kernel) rfl dX5_passCell_17 ?_
    refine lv_icmp_lt (tgt := 50) hx hb dX5_passCell_20 (by decide) (fun cz20 => ?_) (fun cz20 => ?_)
    · refine lv_aload_n hx hb dX5_passCell_50 rfl (lv_at hl 2 rfl) ?_
      refine lv_iload_n hx hb dX5_passCell_51 rfl (lv_at hl 4 rfl) ?_
      refine z_cr (z_rV (As := [.int cl]) (rest := []) (ci := 2) (q0 := qg) X J (cX1_depth_ok l E Fa1 Fa2) (cwV 1 hts gX5_passCell_X1_depth rfl rfl rfl (by decide +kernel) ⟨Nat.le_of_ble_eq_true rfl, Nat.le_of_ble_eq_true rfl⟩) Fa1 rfl rfl rfl hl.1 rfl (Nat.le_of_ble_eq_true rfl) dX5_passCell_52 ⟨Nat.le_of_ble_eq_true rfl, Nat.le_of_ble_eq_true rfl⟩) (fun r52 e_r52 => ?_)
      subst e_r52
      refine lv_istore (lv' := [(5, .int (gd f cl)), (4, .int (gd hf cl)), (0, .ref w), (1, .ref g), (2, .ref sc), (3, .int cl)]) hx hb dX5_passCell_55 hl (by decide) rfl (fun ls hl => ?_)
      refine lv_aload_n hx hb dX5_passCell_57 rfl (lv_at hl 2 rfl) ?_
      refine z_get (C := RX5) (T := TX5) (N := 10) (ci := 6) (v := .int sh) X J hi_X5 qw Fa0 rfl 7 (by decide) (by decide +kernel) rfl dX5_passCell_58 ?_
      refine lv_if_le (tgt := 81) hx hb dX5_passCell_61 (by decide) (fun cz61 => ?_) (fun cz61 => ?_)
      · refine lv_aload_n hx hb dX5_passCell_81 rfl (lv_at hl 2 rfl) ?_
        refine lv_iload hx hb dX5_passCell_82 (lv_at hl 0 rfl) ?_
        refine z_cr (z_rV (As := [.int (gd f cl)]) (rest := []) (ci := 6) (q0 := qw) X J (cX5_pickedUp_ok l E Fa0) (cwV 1 hts gX5_passCell_X5_pickedUp rfl rfl rfl (by decide +kernel) ⟨Nat.le_of_ble_eq_true rfl, Nat.le_of_ble_eq_true rfl⟩) Fa0 rfl rfl rfl hl.1 rfl (Nat.le_of_ble_eq_true rfl) dX5_passCell_84 ⟨Nat.le_of_ble_eq_true rfl, Nat.le_of_ble_eq_true rfl⟩) (fun r84 e_r84 => ?_)
        subst e_r84
        refine lv_istore (lv' := [(6, .int (pickS stg (gd f cl) ca)), (5, .int (gd f cl)), (4, .int (gd hf cl)), (0, .ref w), (1, .ref g), (2, .ref sc), (3, .int cl)]) hx hb dX5_passCell_87 hl (by decide) rfl (fun ls hl => ?_)
        refine lv_aload_n hx hb dX5_passCell_89 rfl (lv_at hl 4 rfl) ?_
        refine lv_iload_n hx hb dX5_passCell_90 rfl (lv_at hl 6 rfl) ?_
        refine lv_iload hx hb dX5_passCell_91 (lv_at hl 1 rfl) ?_
        refine lv_iload hx hb dX5_passCell_93 (lv_at hl 0 rfl) ?_
        refine lv_isub hx hb dX5_passCell_95 ?_
        refine z_cv J (z_rV (As := [.int cl, .int ((gd f cl) - (pickS stg (gd f cl) ca))]) (rest := []) (ci := 2) (q0 := qg) X J (cX1_put_ok l E Fa1 Fa2) (cwV 2 hts gX5_passCell_X1_put rfl rfl rfl (by decide +kernel) ⟨Nat.le_of_ble_eq_true rfl, Nat.le_of_ble_eq_true rfl⟩) Fa1 rfl rfl rfl hl.1 rfl (Nat.le_of_ble_eq_true rfl) dX5_passCell_96 ⟨Nat.le_of_ble_eq_true rfl, Nat.le_of_ble_eq_true rfl⟩) (fun ws_1 H locs hp9 J => ?_)
        obtain ⟨k1, G1_a0⟩ := hp9
        have hk := hk.trans (k1.mono (by intro q9 hq9; simp only [List.mem_cons, List.not_mem_nil, or_false] at hq9 ⊢; omega))
        have G1_0 := k1.2 qw _ (by simp only [List.mem_cons, List.not_mem_nil, or_false]; omega) Fa0
        have G1_1 := k1.2 qg _ (by simp only [List.mem_cons, List.not_mem_nil, or_false]; omega) Fa1
        have G1_3 := k1.2 qc _ (by simp only [List.mem_cons, List.not_mem_nil, or_false]; omega) Fa3
        have G1_4 := k1.2 qh _ (by simp only [List.mem_cons, List.not_mem_nil, or_false]; omega) Fa4
        have G1_5 := k1.2 qv _ (by simp only [List.mem_cons, List.not_mem_nil, or_false]; omega) Fa5
        refine lv_aload_n hx hb dX5_passCell_99 rfl (lv_at hl 3 rfl) ?_
        refine lv_dup hx hb dX5_passCell_100 rfl ?_
        refine z_get (C := RX5) (T := TX5) (N := 10) (ci := 6) (v := .int ca) X J hi_X5 qw G1_0 rfl 6 (by decide) (by decide +kernel) rfl dX5_passCell_101 ?_
        refine lv_iload hx hb dX5_passCell_104 (lv_at hl 0 rfl) ?_
        refine lv_iadd hx hb dX5_passCell_106 ?_
        refine z_put (C := RX5) (T := TX5) (N := 10) (ci := 6) (v := .int (ca + (pickS stg (gd f cl) ca))) X J hi_X5 tyX5 tyX5_ok nmX5 qw G1_0 rfl 6 (by decide) (by decide +kernel) rfl rfl rfl (Nat.le_of_ble_eq_true rfl) dX5_passCell_107 (fun H locs J => ?_)
        have J : zJ E (ws_1.set qw (w, .inr (6, [.int dn, .int stg, .int sup, .int fc, .int nc, .int nl, .int (ca + (pickS stg (gd f cl) ca)), .int sh, .int sw, .int ho]))) s H locs := J
        have hk := hk.trans (zK.set (ws := ws_1) (q := qw) (e := (w, .inr (6, [.int dn, .int stg, .int sup, .int fc, .int nc, .int nl, .int (ca + (pickS stg (gd f cl) ca)), .int sh, .int sw, .int ho]))) (by simp))
        have G2_0 := zset_eq (e' := (w, .inr (6, [.int dn, .int stg, .int sup, .int fc, .int nc, .int nl, .int (ca + (pickS stg (gd f cl) ca)), .int sh, .int sw, .int ho]))) G1_0
        have G2_1 := zset_ne (q := qw) (e' := (w, .inr (6, [.int dn, .int stg, .int sup, .int fc, .int nc, .int nl, .int (ca + (pickS stg (gd f cl) ca)), .int sh, .int sw, .int ho]))) (by omega) G1_1
        have G2_2 := zset_ne (q := qw) (e' := (w, .inr (6, [.int dn, .int stg, .int sup, .int fc, .int nc, .int nl, .int (ca + (pickS stg (gd f cl) ca)), .int sh, .int sw, .int ho]))) (by omega) G1_a0
        have G2_3 := zset_ne (q := qw) (e' := (w, .inr (6, [.int dn, .int stg, .int sup, .int fc, .int nc, .int nl, .int (ca + (pickS stg (gd f cl) ca)), .int sh, .int sw, .int ho]))) (by omega) G1_3
        have G2_4 := zset_ne (q := qw) (e' := (w, .inr (6, [.int dn, .int stg, .int sup, .int fc, .int nc, .int nl, .int (ca + (pickS stg (gd f cl) ca)), .int sh, .int sw, .int ho]))) (by omega) G1_4
        have G2_5 := zset_ne (q := qw) (e' := (w, .inr (6, [.int dn, .int stg, .int sup, .int fc, .int nc, .int nl, .int (ca + (pickS stg (gd f cl) ca)), .int sh, .int sw, .int ho]))) (by omega) G1_5
        generalize hws2 : (ws_1.set qw (w, .inr (6, [.int dn, .int stg, .int sup, .int fc, .int nc, .int nl, .int (ca + (pickS stg (gd f cl) ca)), .int sh, .int sw, .int ho]))) = ws_2 at J hk G2_0 G2_1 G2_2 G2_3 G2_4 G2_5
        refine lv_aload_n hx hb dX5_passCell_110 rfl (lv_at hl 3 rfl) ?_
        refine lv_aload_n hx hb dX5_passCell_111 rfl (lv_at hl 3 rfl) ?_
        refine z_get (C := RX5) (T := TX5) (N := 10) (ci := 6) (v := .int sh) X J hi_X5 qw G2_0 rfl 7 (by decide) (by decide +kernel) rfl dX5_passCell_112 ?_
        refine lv_iconst (v := 1) hx hb dX5_passCell_115 (by decide) ?_
        refine lv_isub hx hb dX5_passCell_116 ?_
        refine lv_iconst (v := 0) hx hb dX5_passCell_117 (by decide) ?_
        refine va_mmax hx hb (X.1.2.2.1.trans hl.1.symm) hown (hts (.methodLink RX5 75 Lib.Math.max.name) (by decide +kernel)) (hts (.static Lib.Math.max.name) (by decide +kernel)) (hts (.initialized "java/lang/Math") (by decide +kernel)) (hts (.code Lib.Math.max.name Lib.Math.max.code 2 (some .int)) (by decide +kernel)) (Nat.le_of_ble_eq_true rfl) (Nat.le_of_ble_eq_true rfl) (Nat.le_of_ble_eq_true rfl) (Nat.le_of_ble_eq_true rfl) dX5_passCell_118 ?_
        refine W.eq (g2 := F0 m 121 ls [.int (mx (sh - 1) 0), .ref w]) rfl ?_
        refine z_put (C := RX5) (T := TX5) (N := 10) (ci := 6) (v := .int (mx (sh - 1) 0)) X J hi_X5 tyX5 tyX5_ok nmX5 qw G2_0 rfl 7 (by decide) (by decide +kernel) rfl rfl rfl (Nat.le_of_ble_eq_true rfl) dX5_passCell_121 (fun H locs J => ?_)
        have J : zJ E (ws_2.set qw (w, .inr (6, [.int dn, .int stg, .int sup, .int fc, .int nc, .int nl, .int (ca + (pickS stg (gd f cl) ca)), .int (mx (sh - 1) 0), .int sw, .int ho]))) s H locs := J
        have hk := hk.trans (zK.set (ws := ws_2) (q := qw) (e := (w, .inr (6, [.int dn, .int stg, .int sup, .int fc, .int nc, .int nl, .int (ca + (pickS stg (gd f cl) ca)), .int (mx (sh - 1) 0), .int sw, .int ho]))) (by simp))
        have G3_0 := zset_eq (e' := (w, .inr (6, [.int dn, .int stg, .int sup, .int fc, .int nc, .int nl, .int (ca + (pickS stg (gd f cl) ca)), .int (mx (sh - 1) 0), .int sw, .int ho]))) G2_0
        have G3_1 := zset_ne (q := qw) (e' := (w, .inr (6, [.int dn, .int stg, .int sup, .int fc, .int nc, .int nl, .int (ca + (pickS stg (gd f cl) ca)), .int (mx (sh - 1) 0), .int sw, .int ho]))) (by omega) G2_1
        have G3_2 := zset_ne (q := qw) (e' := (w, .inr (6, [.int dn, .int stg, .int sup, .int fc, .int nc, .int nl, .int (ca + (pickS stg (gd f cl) ca)), .int (mx (sh - 1) 0), .int sw, .int ho]))) (by omega) G2_2
        have G3_3 := zset_ne (q := qw) (e' := (w, .inr (6, [.int dn, .int stg, .int sup, .int fc, .int nc, .int nl, .int (ca + (pickS stg (gd f cl) ca)), .int (mx (sh - 1) 0), .int sw, .int ho]))) (by omega) G2_3
        have G3_4 := zset_ne (q := qw) (e' := (w, .inr (6, [.int dn, .int stg, .int sup, .int fc, .int nc, .int nl, .int (ca + (pickS stg (gd f cl) ca)), .int (mx (sh - 1) 0), .int sw, .int ho]))) (by omega) G2_4
        have G3_5 := zset_ne (q := qw) (e' := (w, .inr (6, [.int dn, .int stg, .int sup, .int fc, .int nc, .int nl, .int (ca + (pickS stg (gd f cl) ca)), .int (mx (sh - 1) 0), .int sw, .int ho]))) (by omega) G2_5
        generalize hws3 : (ws_2.set qw (w, .inr (6, [.int dn, .int stg, .int sup, .int fc, .int nc, .int nl, .int (ca + (pickS stg (gd f cl) ca)), .int (mx (sh - 1) 0), .int sw, .int ho]))) = ws_3 at J hk G3_0 G3_1 G3_2 G3_3 G3_4 G3_5
        refine lv_aload_n hx hb dX5_passCell_124 rfl (lv_at hl 3 rfl) ?_
        refine lv_aload_n hx hb dX5_passCell_125 rfl (lv_at hl 3 rfl) ?_
        refine z_get (C := RX5) (T := TX5) (N := 10) (ci := 6) (v := .int sw) X J hi_X5 qw G3_0 rfl 8 (by decide) (by decide +kernel) rfl dX5_passCell_126 ?_
        refine lv_iconst (v := 1) hx hb dX5_passCell_129 (by decide) ?_
        refine lv_isub hx hb dX5_passCell_130 ?_
        refine lv_iconst (v := 0) hx hb dX5_passCell_131 (by decide) ?_
        refine va_mmax hx hb (X.1.2.2.1.trans hl.1.symm) hown (hts (.methodLink RX5 75 Lib.Math.max.name) (by decide +kernel)) (hts (.static Lib.Math.max.name) (by decide +kernel)) (hts (.initialized "java/lang/Math") (by decide +kernel)) (hts (.code Lib.Math.max.name Lib.Math.max.code 2 (some .int)) (by decide +kernel)) (Nat.le_of_ble_eq_true rfl) (Nat.le_of_ble_eq_true rfl) (Nat.le_of_ble_eq_true rfl) (Nat.le_of_ble_eq_true rfl) dX5_passCell_132 ?_
        refine W.eq (g2 := F0 m 135 ls [.int (mx (sw - 1) 0), .ref w]) rfl ?_
        refine z_put (C := RX5) (T := TX5) (N := 10) (ci := 6) (v := .int (mx (sw - 1) 0)) X J hi_X5 tyX5 tyX5_ok nmX5 qw G3_0 rfl 8 (by decide) (by decide +kernel) rfl rfl rfl (Nat.le_of_ble_eq_true rfl) dX5_passCell_135 (fun H locs J => ?_)
        have J : zJ E (ws_3.set qw (w, .inr (6, [.int dn, .int stg, .int sup, .int fc, .int nc, .int nl, .int (ca + (pickS stg (gd f cl) ca)), .int (mx (sh - 1) 0), .int (mx (sw - 1) 0), .int ho]))) s H locs := J
        have hk := hk.trans (zK.set (ws := ws_3) (q := qw) (e := (w, .inr (6, [.int dn, .int stg, .int sup, .int fc, .int nc, .int nl, .int (ca + (pickS stg (gd f cl) ca)), .int (mx (sh - 1) 0), .int (mx (sw - 1) 0), .int ho]))) (by simp))
        have G4_0 := zset_eq (e' := (w, .inr (6, [.int dn, .int stg, .int sup, .int fc, .int nc, .int nl, .int (ca + (pickS stg (gd f cl) ca)), .int (mx (sh - 1) 0), .int (mx (sw - 1) 0), .int ho]))) G3_0
        have G4_1 := zset_ne (q := qw) (e' := (w, .inr (6, [.int dn, .int stg, .int sup, .int fc, .int nc, .int nl, .int (ca + (pickS stg (gd f cl) ca)), .int (mx (sh - 1) 0), .int (mx (sw - 1) 0), .int ho]))) (by omega) G3_1
        have G4_2 := zset_ne (q := qw) (e' := (w, .inr (6, [.int dn, .int stg, .int sup, .int fc, .int nc, .int nl, .int (ca + (pickS stg (gd f cl) ca)), .int (mx (sh - 1) 0), .int (mx (sw - 1) 0), .int ho]))) (by omega) G3_2
        have G4_3 := zset_ne (q := qw) (e' := (w, .inr (6, [.int dn, .int stg, .int sup, .int fc, .int nc, .int nl, .int (ca + (pickS stg (gd f cl) ca)), .int (mx (sh - 1) 0), .int (mx (sw - 1) 0), .int ho]))) (by omega) G3_3
        have G4_4 := zset_ne (q := qw) (e' := (w, .inr (6, [.int dn, .int stg, .int sup, .int fc, .int nc, .int nl, .int (ca + (pickS stg (gd f cl) ca)), .int (mx (sh - 1) 0), .int (mx (sw - 1) 0), .int ho]))) (by omega) G3_4
        have G4_5 := zset_ne (q := qw) (e' := (w, .inr (6, [.int dn, .int stg, .int sup, .int fc, .int nc, .int nl, .int (ca + (pickS stg (gd f cl) ca)), .int (mx (sh - 1) 0), .int (mx (sw - 1) 0), .int ho]))) (by omega) G3_5
        generalize hws4 : (ws_3.set qw (w, .inr (6, [.int dn, .int stg, .int sup, .int fc, .int nc, .int nl, .int (ca + (pickS stg (gd f cl) ca)), .int (mx (sh - 1) 0), .int (mx (sw - 1) 0), .int ho]))) = ws_4 at J hk G4_0 G4_1 G4_2 G4_3 G4_4 G4_5
        have e9 := pcS_pick (stg := stg) (gf := gf) (x := (f, ca, sh, sw, ho)) (Or.inr cz20) (Or.inl cz61)
        subst hQ
        exact W.vret hx hb hr (fun t ht hW => ⟨⟨ws_4, rfl, ⟨hk, (by rw [e9]; exact G4_0), (by rw [e9]; exact G4_2)⟩, J.I X ht hW.alike⟩, J.F ht⟩) J.locs dX5_passCell_138
      · refine lv_aload_n hx hb dX5_passCell_64 rfl (lv_at hl 2 rfl) ?_
        refine z_get (C := RX5) (T := TX5) (N := 10) (ci := 6) (v := .int sw) X J hi_X5 qw Fa0 rfl 8 (by decide) (by decide +kernel) rfl dX5_passCell_65 ?_
        refine lv_if_ne (tgt := 81) hx hb dX5_passCell_68 (by decide) (fun cz68 => ?_) (fun cz68 => ?_)
        · refine lv_aload_n hx hb dX5_passCell_81 rfl (lv_at hl 2 rfl) ?_
          refine lv_iload hx hb dX5_passCell_82 (lv_at hl 0 rfl) ?_
          refine z_cr (z_rV (As := [.int (gd f cl)]) (rest := []) (ci := 6) (q0 := qw) X J (cX5_pickedUp_ok l E Fa0) (cwV 1 hts gX5_passCell_X5_pickedUp rfl rfl rfl (by decide +kernel) ⟨Nat.le_of_ble_eq_true rfl, Nat.le_of_ble_eq_true rfl⟩) Fa0 rfl rfl rfl hl.1 rfl (Nat.le_of_ble_eq_true rfl) dX5_passCell_84 ⟨Nat.le_of_ble_eq_true rfl, Nat.le_of_ble_eq_true rfl⟩) (fun r84 e_r84 => ?_)
          subst e_r84
          refine lv_istore (lv' := [(6, .int (pickS stg (gd f cl) ca)), (5, .int (gd f cl)), (4, .int (gd hf cl)), (0, .ref w), (1, .ref g), (2, .ref sc), (3, .int cl)]) hx hb dX5_passCell_87 hl (by decide) rfl (fun ls hl => ?_)
          refine lv_aload_n hx hb dX5_passCell_89 rfl (lv_at hl 4 rfl) ?_
          refine lv_iload_n hx hb dX5_passCell_90 rfl (lv_at hl 6 rfl) ?_
          refine lv_iload hx hb dX5_passCell_91 (lv_at hl 1 rfl) ?_
          refine lv_iload hx hb dX5_passCell_93 (lv_at hl 0 rfl) ?_
          refine lv_isub hx hb dX5_passCell_95 ?_
          refine z_cv J (z_rV (As := [.int cl, .int ((gd f cl) - (pickS stg (gd f cl) ca))]) (rest := []) (ci := 2) (q0 := qg) X J (cX1_put_ok l E Fa1 Fa2) (cwV 2 hts gX5_passCell_X1_put rfl rfl rfl (by decide +kernel) ⟨Nat.le_of_ble_eq_true rfl, Nat.le_of_ble_eq_true rfl⟩) Fa1 rfl rfl rfl hl.1 rfl (Nat.le_of_ble_eq_true rfl) dX5_passCell_96 ⟨Nat.le_of_ble_eq_true rfl, Nat.le_of_ble_eq_true rfl⟩) (fun ws_1 H locs hp9 J => ?_)
          obtain ⟨k1, G1_a0⟩ := hp9
          have hk := hk.trans (k1.mono (by intro q9 hq9; simp only [List.mem_cons, List.not_mem_nil, or_false] at hq9 ⊢; omega))
          have G1_0 := k1.2 qw _ (by simp only [List.mem_cons, List.not_mem_nil, or_false]; omega) Fa0
          have G1_1 := k1.2 qg _ (by simp only [List.mem_cons, List.not_mem_nil, or_false]; omega) Fa1
          have G1_3 := k1.2 qc _ (by simp only [List.mem_cons, List.not_mem_nil, or_false]; omega) Fa3
          have G1_4 := k1.2 qh _ (by simp only [List.mem_cons, List.not_mem_nil, or_false]; omega) Fa4
          have G1_5 := k1.2 qv _ (by simp only [List.mem_cons, List.not_mem_nil, or_false]; omega) Fa5
          refine lv_aload_n hx hb dX5_passCell_99 rfl (lv_at hl 3 rfl) ?_
          refine lv_dup hx hb dX5_passCell_100 rfl ?_
          refine z_get (C := RX5) (T := TX5) (N := 10) (ci := 6) (v := .int ca) X J hi_X5 qw G1_0 rfl 6 (by decide) (by decide +kernel) rfl dX5_passCell_101 ?_
          refine lv_iload hx hb dX5_passCell_104 (lv_at hl 0 rfl) ?_
          refine lv_iadd hx hb dX5_passCell_106 ?_
          refine z_put (C := RX5) (T := TX5) (N := 10) (ci := 6) (v := .int (ca + (pickS stg (gd f cl) ca))) X J hi_X5 tyX5 tyX5_ok nmX5 qw G1_0 rfl 6 (by decide) (by decide +kernel) rfl rfl rfl (Nat.le_of_ble_eq_true rfl) dX5_passCell_107 (fun H locs J => ?_)
          have J : zJ E (ws_1.set qw (w, .inr (6, [.int dn, .int stg, .int sup, .int fc, .int nc, .int nl, .int (ca + (pickS stg (gd f cl) ca)), .int sh, .int sw, .int ho]))) s H locs := J
          have hk := hk.trans (zK.set (ws := ws_1) (q := qw) (e := (w, .inr (6, [.int dn, .int stg, .int sup, .int fc, .int nc, .int nl, .int (ca + (pickS stg (gd f cl) ca)), .int sh, .int sw, .int ho]))) (by simp))
          have G2_0 := zset_eq (e' := (w, .inr (6, [.int dn, .int stg, .int sup, .int fc, .int nc, .int nl, .int (ca + (pickS stg (gd f cl) ca)), .int sh, .int sw, .int ho]))) G1_0
          have G2_1 := zset_ne (q := qw) (e' := (w, .inr (6, [.int dn, .int stg, .int sup, .int fc, .int nc, .int nl, .int (ca + (pickS stg (gd f cl) ca)), .int sh, .int sw, .int ho]))) (by omega) G1_1
          have G2_2 := zset_ne (q := qw) (e' := (w, .inr (6, [.int dn, .int stg, .int sup, .int fc, .int nc, .int nl, .int (ca + (pickS stg (gd f cl) ca)), .int sh, .int sw, .int ho]))) (by omega) G1_a0
          have G2_3 := zset_ne (q := qw) (e' := (w, .inr (6, [.int dn, .int stg, .int sup, .int fc, .int nc, .int nl, .int (ca + (pickS stg (gd f cl) ca)), .int sh, .int sw, .int ho]))) (by omega) G1_3
          have G2_4 := zset_ne (q := qw) (e' := (w, .inr (6, [.int dn, .int stg, .int sup, .int fc, .int nc, .int nl, .int (ca + (pickS stg (gd f cl) ca)), .int sh, .int sw, .int ho]))) (by omega) G1_4
          have G2_5 := zset_ne (q := qw) (e' := (w, .inr (6, [.int dn, .int stg, .int sup, .int fc, .int nc, .int nl, .int (ca + (pickS stg (gd f cl) ca)), .int sh, .int sw, .int ho]))) (by omega) G1_5
          generalize hws2 : (ws_1.set qw (w, .inr (6, [.int dn, .int stg, .int sup, .int fc, .int nc, .int nl, .int (ca + (pickS stg (gd f cl) ca)), .int sh, .int sw, .int ho]))) = ws_2 at J hk G2_0 G2_1 G2_2 G2_3 G2_4 G2_5
          refine lv_aload_n hx hb dX5_passCell_110 rfl (lv_at hl 3 rfl) ?_
          refine lv_aload_n hx hb dX5_passCell_111 rfl (lv_at hl 3 rfl) ?_
          refine z_get (C := RX5) (T := TX5) (N := 10) (ci := 6) (v := .int sh) X J hi_X5 qw G2_0 rfl 7 (by decide) (by decide +kernel) rfl dX5_passCell_112 ?_
          refine lv_iconst (v := 1) hx hb dX5_passCell_115 (by decide) ?_
          refine lv_isub hx hb dX5_passCell_116 ?_
          refine lv_iconst (v := 0) hx hb dX5_passCell_117 (by decide) ?_
          refine va_mmax hx hb (X.1.2.2.1.trans hl.1.symm) hown (hts (.methodLink RX5 75 Lib.Math.max.name) (by decide +kernel)) (hts (.static Lib.Math.max.name) (by decide +kernel)) (hts (.initialized "java/lang/Math") (by decide +kernel)) (hts (.code Lib.Math.max.name Lib.Math.max.code 2 (some .int)) (by decide +kernel)) (Nat.le_of_ble_eq_true rfl) (Nat.le_of_ble_eq_true rfl) (Nat.le_of_ble_eq_true rfl) (Nat.le_of_ble_eq_true rfl) dX5_passCell_118 ?_
          refine W.eq (g2 := F0 m 121 ls [.int (mx (sh - 1) 0), .ref w]) rfl ?_
          refine z_put (C := RX5) (T := TX5) (N := 10) (ci := 6) (v := .int (mx (sh - 1) 0)) X J hi_X5 tyX5 tyX5_ok nmX5 qw G2_0 rfl 7 (by decide) (by decide +kernel) rfl rfl rfl (Nat.le_of_ble_eq_true rfl) dX5_passCell_121 (fun H locs J => ?_)
          have J : zJ E (ws_2.set qw (w, .inr (6, [.int dn, .int stg, .int sup, .int fc, .int nc, .int nl, .int (ca + (pickS stg (gd f cl) ca)), .int (mx (sh - 1) 0), .int sw, .int ho]))) s H locs := J
          have hk := hk.trans (zK.set (ws := ws_2) (q := qw) (e := (w, .inr (6, [.int dn, .int stg, .int sup, .int fc, .int nc, .int nl, .int (ca + (pickS stg (gd f cl) ca)), .int (mx (sh - 1) 0), .int sw, .int ho]))) (by simp))
          have G3_0 := zset_eq (e' := (w, .inr (6, [.int dn, .int stg, .int sup, .int fc, .int nc, .int nl, .int (ca + (pickS stg (gd f cl) ca)), .int (mx (sh - 1) 0), .int sw, .int ho]))) G2_0
          have G3_1 := zset_ne (q := qw) (e' := (w, .inr (6, [.int dn, .int stg, .int sup, .int fc, .int nc, .int nl, .int (ca + (pickS stg (gd f cl) ca)), .int (mx (sh - 1) 0), .int sw, .int ho]))) (by omega) G2_1
          have G3_2 := zset_ne (q := qw) (e' := (w, .inr (6, [.int dn, .int stg, .int sup, .int fc, .int nc, .int nl, .int (ca + (pickS stg (gd f cl) ca)), .int (mx (sh - 1) 0), .int sw, .int ho]))) (by omega) G2_2
          have G3_3 := zset_ne (q := qw) (e' := (w, .inr (6, [.int dn, .int stg, .int sup, .int fc, .int nc, .int nl, .int (ca + (pickS stg (gd f cl) ca)), .int (mx (sh - 1) 0), .int sw, .int ho]))) (by omega) G2_3
          have G3_4 := zset_ne (q := qw) (e' := (w, .inr (6, [.int dn, .int stg, .int sup, .int fc, .int nc, .int nl, .int (ca + (pickS stg (gd f cl) ca)), .int (mx (sh - 1) 0), .int sw, .int ho]))) (by omega) G2_4
          have G3_5 := zset_ne (q := qw) (e' := (w, .inr (6, [.int dn, .int stg, .int sup, .int fc, .int nc, .int nl, .int (ca + (pickS stg (gd f cl) ca)), .int (mx (sh - 1) 0), .int sw, .int ho]))) (by omega) G2_5
          generalize hws3 : (ws_2.set qw (w, .inr (6, [.int dn, .int stg, .int sup, .int fc, .int nc, .int nl, .int (ca + (pickS stg (gd f cl) ca)), .int (mx (sh - 1) 0), .int sw, .int ho]))) = ws_3 at J hk G3_0 G3_1 G3_2 G3_3 G3_4 G3_5
          refine lv_aload_n hx hb dX5_passCell_124 rfl (lv_at hl 3 rfl) ?_
          refine lv_aload_n hx hb dX5_passCell_125 rfl (lv_at hl 3 rfl) ?_
          refine z_get (C := RX5) (T := TX5) (N := 10) (ci := 6) (v := .int sw) X J hi_X5 qw G3_0 rfl 8 (by decide) (by decide +kernel) rfl dX5_passCell_126 ?_
          refine lv_iconst (v := 1) hx hb dX5_passCell_129 (by decide) ?_
          refine lv_isub hx hb dX5_passCell_130 ?_
          refine lv_iconst (v := 0) hx hb dX5_passCell_131 (by decide) ?_
          refine va_mmax hx hb (X.1.2.2.1.trans hl.1.symm) hown (hts (.methodLink RX5 75 Lib.Math.max.name) (by decide +kernel)) (hts (.static Lib.Math.max.name) (by decide +kernel)) (hts (.initialized "java/lang/Math") (by decide +kernel)) (hts (.code Lib.Math.max.name Lib.Math.max.code 2 (some .int)) (by decide +kernel)) (Nat.le_of_ble_eq_true rfl) (Nat.le_of_ble_eq_true rfl) (Nat.le_of_ble_eq_true rfl) (Nat.le_of_ble_eq_true rfl) dX5_passCell_132 ?_
          refine W.eq (g2 := F0 m 135 ls [.int (mx (sw - 1) 0), .ref w]) rfl ?_
          refine z_put (C := RX5) (T := TX5) (N := 10) (ci := 6) (v := .int (mx (sw - 1) 0)) X J hi_X5 tyX5 tyX5_ok nmX5 qw G3_0 rfl 8 (by decide) (by decide +kernel) rfl rfl rfl (Nat.le_of_ble_eq_true rfl) dX5_passCell_135 (fun H locs J => ?_)
          have J : zJ E (ws_3.set qw (w, .inr (6, [.int dn, .int stg, .int sup, .int fc, .int nc, .int nl, .int (ca + (pickS stg (gd f cl) ca)), .int (mx (sh - 1) 0), .int (mx (sw - 1) 0), .int ho]))) s H locs := J
          have hk := hk.trans (zK.set (ws := ws_3) (q := qw) (e := (w, .inr (6, [.int dn, .int stg, .int sup, .int fc, .int nc, .int nl, .int (ca + (pickS stg (gd f cl) ca)), .int (mx (sh - 1) 0), .int (mx (sw - 1) 0), .int ho]))) (by simp))
          have G4_0 := zset_eq (e' := (w, .inr (6, [.int dn, .int stg, .int sup, .int fc, .int nc, .int nl, .int (ca + (pickS stg (gd f cl) ca)), .int (mx (sh - 1) 0), .int (mx (sw - 1) 0), .int ho]))) G3_0
          have G4_1 := zset_ne (q := qw) (e' := (w, .inr (6, [.int dn, .int stg, .int sup, .int fc, .int nc, .int nl, .int (ca + (pickS stg (gd f cl) ca)), .int (mx (sh - 1) 0), .int (mx (sw - 1) 0), .int ho]))) (by omega) G3_1
          have G4_2 := zset_ne (q := qw) (e' := (w, .inr (6, [.int dn, .int stg, .int sup, .int fc, .int nc, .int nl, .int (ca + (pickS stg (gd f cl) ca)), .int (mx (sh - 1) 0), .int (mx (sw - 1) 0), .int ho]))) (by omega) G3_2
          have G4_3 := zset_ne (q := qw) (e' := (w, .inr (6, [.int dn, .int stg, .int sup, .int fc, .int nc, .int nl, .int (ca + (pickS stg (gd f cl) ca)), .int (mx (sh - 1) 0), .int (mx (sw - 1) 0), .int ho]))) (by omega) G3_3
          have G4_4 := zset_ne (q := qw) (e' := (w, .inr (6, [.int dn, .int stg, .int sup, .int fc, .int nc, .int nl, .int (ca + (pickS stg (gd f cl) ca)), .int (mx (sh - 1) 0), .int (mx (sw - 1) 0), .int ho]))) (by omega) G3_4
          have G4_5 := zset_ne (q := qw) (e' := (w, .inr (6, [.int dn, .int stg, .int sup, .int fc, .int nc, .int nl, .int (ca + (pickS stg (gd f cl) ca)), .int (mx (sh - 1) 0), .int (mx (sw - 1) 0), .int ho]))) (by omega) G3_5
          generalize hws4 : (ws_3.set qw (w, .inr (6, [.int dn, .int stg, .int sup, .int fc, .int nc, .int nl, .int (ca + (pickS stg (gd f cl) ca)), .int (mx (sh - 1) 0), .int (mx (sw - 1) 0), .int ho]))) = ws_4 at J hk G4_0 G4_1 G4_2 G4_3 G4_4 G4_5
          have e9 := pcS_pick (stg := stg) (gf := gf) (x := (f, ca, sh, sw, ho)) (Or.inr cz20) (Or.inr cz68)
          subst hQ
          exact W.vret hx hb hr (fun t ht hW => ⟨⟨ws_4, rfl, ⟨hk, (by rw [e9]; exact G4_0), (by rw [e9]; exact G4_2)⟩, J.I X ht hW.alike⟩, J.F ht⟩) J.locs dX5_passCell_138
        · refine lv_aload_n hx hb dX5_passCell_71 rfl (lv_at hl 2 rfl) ?_
          refine lv_iload hx hb dX5_passCell_72 (lv_at hl 0 rfl) ?_
          refine z_cr (z_rV (As := [.int (gd f cl)]) (rest := []) (ci := 6) (q0 := qw) X J (cX5_dropped_ok l E Fa0) (cwV 1 hts gX5_passCell_X5_dropped rfl rfl rfl (by decide +kernel) ⟨Nat.le_of_ble_eq_true rfl, Nat.le_of_ble_eq_true rfl⟩) Fa0 rfl rfl rfl hl.1 rfl (Nat.le_of_ble_eq_true rfl) dX5_passCell_74 ⟨Nat.le_of_ble_eq_true rfl, Nat.le_of_ble_eq_true rfl⟩) (fun r74 e_r74 => ?_)
          subst e_r74
          refine lv_ineg hx hb dX5_passCell_77 ?_
          refine lv_goto (tgt := 87) hx hb dX5_passCell_78 (by decide) ?_
          refine lv_istore (lv' := [(6, .int (-(dropS (gd f cl) ca ho))), (5, .int (gd f cl)), (4, .int (gd hf cl)), (0, .ref w), (1, .ref g), (2, .ref sc), (3, .int cl)]) hx hb dX5_passCell_87 hl (by decide) rfl (fun ls hl => ?_)
          refine lv_aload_n hx hb dX5_passCell_89 rfl (lv_at hl 4 rfl) ?_
          refine lv_iload_n hx hb dX5_passCell_90 rfl (lv_at hl 6 rfl) ?_
          refine lv_iload hx hb dX5_passCell_91 (lv_at hl 1 rfl) ?_
          refine lv_iload hx hb dX5_passCell_93 (lv_at hl 0 rfl) ?_
          refine lv_isub hx hb dX5_passCell_95 ?_
          refine z_cv J (z_rV (As := [.int cl, .int ((gd f cl) - (-(dropS (gd f cl) ca ho)))]) (rest := []) (ci := 2) (q0 := qg) X J (cX1_put_ok l E Fa1 Fa2) (cwV 2 hts gX5_passCell_X1_put rfl rfl rfl (by decide +kernel) ⟨Nat.le_of_ble_eq_true rfl, Nat.le_of_ble_eq_true rfl⟩) Fa1 rfl rfl rfl hl.1 rfl (Nat.le_of_ble_eq_true rfl) dX5_passCell_96 ⟨Nat.le_of_ble_eq_true rfl, Nat.le_of_ble_eq_true rfl⟩) (fun ws_1 H locs hp9 J => ?_)
          obtain ⟨k1, G1_a0⟩ := hp9
          have hk := hk.trans (k1.mono (by intro q9 hq9; simp only [List.mem_cons, List.not_mem_nil, or_false] at hq9 ⊢; omega))
          have G1_0 := k1.2 qw _ (by simp only [List.mem_cons, List.not_mem_nil, or_false]; omega) Fa0
          have G1_1 := k1.2 qg _ (by simp only [List.mem_cons, List.not_mem_nil, or_false]; omega) Fa1
          have G1_3 := k1.2 qc _ (by simp only [List.mem_cons, List.not_mem_nil, or_false]; omega) Fa3
          have G1_4 := k1.2 qh _ (by simp only [List.mem_cons, List.not_mem_nil, or_false]; omega) Fa4
          have G1_5 := k1.2 qv _ (by simp only [List.mem_cons, List.not_mem_nil, or_false]; omega) Fa5
          refine lv_aload_n hx hb dX5_passCell_99 rfl (lv_at hl 3 rfl) ?_
          refine lv_dup hx hb dX5_passCell_100 rfl ?_
          refine z_get (C := RX5) (T := TX5) (N := 10) (ci := 6) (v := .int ca) X J hi_X5 qw G1_0 rfl 6 (by decide) (by decide +kernel) rfl dX5_passCell_101 ?_
          refine lv_iload hx hb dX5_passCell_104 (lv_at hl 0 rfl) ?_
          refine lv_iadd hx hb dX5_passCell_106 ?_
          refine z_put (C := RX5) (T := TX5) (N := 10) (ci := 6) (v := .int (ca + (-(dropS (gd f cl) ca ho)))) X J hi_X5 tyX5 tyX5_ok nmX5 qw G1_0 rfl 6 (by decide) (by decide +kernel) rfl rfl rfl (Nat.le_of_ble_eq_true rfl) dX5_passCell_107 (fun H locs J => ?_)
          have J : zJ E (ws_1.set qw (w, .inr (6, [.int dn, .int stg, .int sup, .int fc, .int nc, .int nl, .int (ca + (-(dropS (gd f cl) ca ho))), .int sh, .int sw, .int ho]))) s H locs := J
          have hk := hk.trans (zK.set (ws := ws_1) (q := qw) (e := (w, .inr (6, [.int dn, .int stg, .int sup, .int fc, .int nc, .int nl, .int (ca + (-(dropS (gd f cl) ca ho))), .int sh, .int sw, .int ho]))) (by simp))
          have G2_0 := zset_eq (e' := (w, .inr (6, [.int dn, .int stg, .int sup, .int fc, .int nc, .int nl, .int (ca + (-(dropS (gd f cl) ca ho))), .int sh, .int sw, .int ho]))) G1_0
          have G2_1 := zset_ne (q := qw) (e' := (w, .inr (6, [.int dn, .int stg, .int sup, .int fc, .int nc, .int nl, .int (ca + (-(dropS (gd f cl) ca ho))), .int sh, .int sw, .int ho]))) (by omega) G1_1
          have G2_2 := zset_ne (q := qw) (e' := (w, .inr (6, [.int dn, .int stg, .int sup, .int fc, .int nc, .int nl, .int (ca + (-(dropS (gd f cl) ca ho))), .int sh, .int sw, .int ho]))) (by omega) G1_a0
          have G2_3 := zset_ne (q := qw) (e' := (w, .inr (6, [.int dn, .int stg, .int sup, .int fc, .int nc, .int nl, .int (ca + (-(dropS (gd f cl) ca ho))), .int sh, .int sw, .int ho]))) (by omega) G1_3
          have G2_4 := zset_ne (q := qw) (e' := (w, .inr (6, [.int dn, .int stg, .int sup, .int fc, .int nc, .int nl, .int (ca + (-(dropS (gd f cl) ca ho))), .int sh, .int sw, .int ho]))) (by omega) G1_4
          have G2_5 := zset_ne (q := qw) (e' := (w, .inr (6, [.int dn, .int stg, .int sup, .int fc, .int nc, .int nl, .int (ca + (-(dropS (gd f cl) ca ho))), .int sh, .int sw, .int ho]))) (by omega) G1_5
          generalize hws2 : (ws_1.set qw (w, .inr (6, [.int dn, .int stg, .int sup, .int fc, .int nc, .int nl, .int (ca + (-(dropS (gd f cl) ca ho))), .int sh, .int sw, .int ho]))) = ws_2 at J hk G2_0 G2_1 G2_2 G2_3 G2_4 G2_5
          refine lv_aload_n hx hb dX5_passCell_110 rfl (lv_at hl 3 rfl) ?_
          refine lv_aload_n hx hb dX5_passCell_111 rfl (lv_at hl 3 rfl) ?_
          refine z_get (C := RX5) (T := TX5) (N := 10) (ci := 6) (v := .int sh) X J hi_X5 qw G2_0 rfl 7 (by decide) (by decide +kernel) rfl dX5_passCell_112 ?_
          refine lv_iconst (v := 1) hx hb dX5_passCell_115 (by decide) ?_
          refine lv_isub hx hb dX5_passCell_116 ?_
          refine lv_iconst (v := 0) hx hb dX5_passCell_117 (by decide) ?_
          refine va_mmax hx hb (X.1.2.2.1.trans hl.1.symm) hown (hts (.methodLink RX5 75 Lib.Math.max.name) (by decide +kernel)) (hts (.static Lib.Math.max.name) (by decide +kernel)) (hts (.initialized "java/lang/Math") (by decide +kernel)) (hts (.code Lib.Math.max.name Lib.Math.max.code 2 (some .int)) (by decide +kernel)) (Nat.le_of_ble_eq_true rfl) (Nat.le_of_ble_eq_true rfl) (Nat.le_of_ble_eq_true rfl) (Nat.le_of_ble_eq_true rfl) dX5_passCell_118 ?_
          refine W.eq (g2 := F0 m 121 ls [.int (mx (sh - 1) 0), .ref w]) rfl ?_
          refine z_put (C := RX5) (T := TX5) (N := 10) (ci := 6) (v := .int (mx (sh - 1) 0)) X J hi_X5 tyX5 tyX5_ok nmX5 qw G2_0 rfl 7 (by decide) (by decide +kernel) rfl rfl rfl (Nat.le_of_ble_eq_true rfl) dX5_passCell_121 (fun H locs J => ?_)
          have J : zJ E (ws_2.set qw (w, .inr (6, [.int dn, .int stg, .int sup, .int fc, .int nc, .int nl, .int (ca + (-(dropS (gd f cl) ca ho))), .int (mx (sh - 1) 0), .int sw, .int ho]))) s H locs := J
          have hk := hk.trans (zK.set (ws := ws_2) (q := qw) (e := (w, .inr (6, [.int dn, .int stg, .int sup, .int fc, .int nc, .int nl, .int (ca + (-(dropS (gd f cl) ca ho))), .int (mx (sh - 1) 0), .int sw, .int ho]))) (by simp))
          have G3_0 := zset_eq (e' := (w, .inr (6, [.int dn, .int stg, .int sup, .int fc, .int nc, .int nl, .int (ca + (-(dropS (gd f cl) ca ho))), .int (mx (sh - 1) 0), .int sw, .int ho]))) G2_0
          have G3_1 := zset_ne (q := qw) (e' := (w, .inr (6, [.int dn, .int stg, .int sup, .int fc, .int nc, .int nl, .int (ca + (-(dropS (gd f cl) ca ho))), .int (mx (sh - 1) 0), .int sw, .int ho]))) (by omega) G2_1
          have G3_2 := zset_ne (q := qw) (e' := (w, .inr (6, [.int dn, .int stg, .int sup, .int fc, .int nc, .int nl, .int (ca + (-(dropS (gd f cl) ca ho))), .int (mx (sh - 1) 0), .int sw, .int ho]))) (by omega) G2_2
          have G3_3 := zset_ne (q := qw) (e' := (w, .inr (6, [.int dn, .int stg, .int sup, .int fc, .int nc, .int nl, .int (ca + (-(dropS (gd f cl) ca ho))), .int (mx (sh - 1) 0), .int sw, .int ho]))) (by omega) G2_3
          have G3_4 := zset_ne (q := qw) (e' := (w, .inr (6, [.int dn, .int stg, .int sup, .int fc, .int nc, .int nl, .int (ca + (-(dropS (gd f cl) ca ho))), .int (mx (sh - 1) 0), .int sw, .int ho]))) (by omega) G2_4
          have G3_5 := zset_ne (q := qw) (e' := (w, .inr (6, [.int dn, .int stg, .int sup, .int fc, .int nc, .int nl, .int (ca + (-(dropS (gd f cl) ca ho))), .int (mx (sh - 1) 0), .int sw, .int ho]))) (by omega) G2_5
          generalize hws3 : (ws_2.set qw (w, .inr (6, [.int dn, .int stg, .int sup, .int fc, .int nc, .int nl, .int (ca + (-(dropS (gd f cl) ca ho))), .int (mx (sh - 1) 0), .int sw, .int ho]))) = ws_3 at J hk G3_0 G3_1 G3_2 G3_3 G3_4 G3_5
          refine lv_aload_n hx hb dX5_passCell_124 rfl (lv_at hl 3 rfl) ?_
          refine lv_aload_n hx hb dX5_passCell_125 rfl (lv_at hl 3 rfl) ?_
          refine z_get (C := RX5) (T := TX5) (N := 10) (ci := 6) (v := .int sw) X J hi_X5 qw G3_0 rfl 8 (by decide) (by decide +kernel) rfl dX5_passCell_126 ?_
          refine lv_iconst (v := 1) hx hb dX5_passCell_129 (by decide) ?_
          refine lv_isub hx hb dX5_passCell_130 ?_
          refine lv_iconst (v := 0) hx hb dX5_passCell_131 (by decide) ?_
          refine va_mmax hx hb (X.1.2.2.1.trans hl.1.symm) hown (hts (.methodLink RX5 75 Lib.Math.max.name) (by decide +kernel)) (hts (.static Lib.Math.max.name) (by decide +kernel)) (hts (.initialized "java/lang/Math") (by decide +kernel)) (hts (.code Lib.Math.max.name Lib.Math.max.code 2 (some .int)) (by decide +kernel)) (Nat.le_of_ble_eq_true rfl) (Nat.le_of_ble_eq_true rfl) (Nat.le_of_ble_eq_true rfl) (Nat.le_of_ble_eq_true rfl) dX5_passCell_132 ?_
          refine W.eq (g2 := F0 m 135 ls [.int (mx (sw - 1) 0), .ref w]) rfl ?_
          refine z_put (C := RX5) (T := TX5) (N := 10) (ci := 6) (v := .int (mx (sw - 1) 0)) X J hi_X5 tyX5 tyX5_ok nmX5 qw G3_0 rfl 8 (by decide) (by decide +kernel) rfl rfl rfl (Nat.le_of_ble_eq_true rfl) dX5_passCell_135 (fun H locs J => ?_)
          have J : zJ E (ws_3.set qw (w, .inr (6, [.int dn, .int stg, .int sup, .int fc, .int nc, .int nl, .int (ca + (-(dropS (gd f cl) ca ho))), .int (mx (sh - 1) 0), .int (mx (sw - 1) 0), .int ho]))) s H locs := J
          have hk := hk.trans (zK.set (ws := ws_3) (q := qw) (e := (w, .inr (6, [.int dn, .int stg, .int sup, .int fc, .int nc, .int nl, .int (ca + (-(dropS (gd f cl) ca ho))), .int (mx (sh - 1) 0), .int (mx (sw - 1) 0), .int ho]))) (by simp))
          have G4_0 := zset_eq (e' := (w, .inr (6, [.int dn, .int stg, .int sup, .int fc, .int nc, .int nl, .int (ca + (-(dropS (gd f cl) ca ho))), .int (mx (sh - 1) 0), .int (mx (sw - 1) 0), .int ho]))) G3_0
          have G4_1 := zset_ne (q := qw) (e' := (w, .inr (6, [.int dn, .int stg, .int sup, .int fc, .int nc, .int nl, .int (ca + (-(dropS (gd f cl) ca ho))), .int (mx (sh - 1) 0), .int (mx (sw - 1) 0), .int ho]))) (by omega) G3_1
          have G4_2 := zset_ne (q := qw) (e' := (w, .inr (6, [.int dn, .int stg, .int sup, .int fc, .int nc, .int nl, .int (ca + (-(dropS (gd f cl) ca ho))), .int (mx (sh - 1) 0), .int (mx (sw - 1) 0), .int ho]))) (by omega) G3_2
          have G4_3 := zset_ne (q := qw) (e' := (w, .inr (6, [.int dn, .int stg, .int sup, .int fc, .int nc, .int nl, .int (ca + (-(dropS (gd f cl) ca ho))), .int (mx (sh - 1) 0), .int (mx (sw - 1) 0), .int ho]))) (by omega) G3_3
          have G4_4 := zset_ne (q := qw) (e' := (w, .inr (6, [.int dn, .int stg, .int sup, .int fc, .int nc, .int nl, .int (ca + (-(dropS (gd f cl) ca ho))), .int (mx (sh - 1) 0), .int (mx (sw - 1) 0), .int ho]))) (by omega) G3_4
          have G4_5 := zset_ne (q := qw) (e' := (w, .inr (6, [.int dn, .int stg, .int sup, .int fc, .int nc, .int nl, .int (ca + (-(dropS (gd f cl) ca ho))), .int (mx (sh - 1) 0), .int (mx (sw - 1) 0), .int ho]))) (by omega) G3_5
          generalize hws4 : (ws_3.set qw (w, .inr (6, [.int dn, .int stg, .int sup, .int fc, .int nc, .int nl, .int (ca + (-(dropS (gd f cl) ca ho))), .int (mx (sh - 1) 0), .int (mx (sw - 1) 0), .int ho]))) = ws_4 at J hk G4_0 G4_1 G4_2 G4_3 G4_4 G4_5
          have e9 := pcS_drop (stg := stg) (gf := gf) (x := (f, ca, sh, sw, ho)) (Or.inr cz20) cz61 cz68
          subst hQ
          exact W.vret hx hb hr (fun t ht hW => ⟨⟨ws_4, rfl, ⟨hk, (by rw [e9]; exact G4_0), (by rw [e9]; exact G4_2)⟩, J.I X ht hW.alike⟩, J.F ht⟩) J.locs dX5_passCell_138
    · refine lv_aload_n hx hb dX5_passCell_23 rfl (lv_at hl 1 rfl) ?_
      refine lv_iconst (v := 2) hx hb dX5_passCell_24 (by decide) ?_
      refine lv_iload hx hb dX5_passCell_25 (lv_at hl 0 rfl) ?_
      refine lv_imul hx hb dX5_passCell_27 ?_
      refine z_put (C := RX5) (T := TX5) (N := 10) (ci := 6) (v := .int (2 * (gd hf cl))) X J hi_X5 tyX5 tyX5_ok nmX5 qw Fa0 rfl 7 (by decide) (by decide +kernel) rfl rfl rfl (Nat.le_of_ble_eq_true rfl) dX5_passCell_28 (fun H locs J => ?_)
      have J : zJ E (ws.set qw (w, .inr (6, [.int dn, .int stg, .int sup, .int fc, .int nc, .int nl, .int ca, .int (2 * (gd hf cl)), .int sw, .int ho]))) s H locs := J
      have hk := hk.trans (zK.set (ws := ws) (q := qw) (e := (w, .inr (6, [.int dn, .int stg, .int sup, .int fc, .int nc, .int nl, .int ca, .int (2 * (gd hf cl)), .int sw, .int ho]))) (by simp))
      have G1_0 := zset_eq (e' := (w, .inr (6, [.int dn, .int stg, .int sup, .int fc, .int nc, .int nl, .int ca, .int (2 * (gd hf cl)), .int sw, .int ho]))) Fa0
      have G1_1 := zset_ne (q := qw) (e' := (w, .inr (6, [.int dn, .int stg, .int sup, .int fc, .int nc, .int nl, .int ca, .int (2 * (gd hf cl)), .int sw, .int ho]))) (by omega) Fa1
      have G1_2 := zset_ne (q := qw) (e' := (w, .inr (6, [.int dn, .int stg, .int sup, .int fc, .int nc, .int nl, .int ca, .int (2 * (gd hf cl)), .int sw, .int ho]))) (by omega) Fa2
      have G1_3 := zset_ne (q := qw) (e' := (w, .inr (6, [.int dn, .int stg, .int sup, .int fc, .int nc, .int nl, .int ca, .int (2 * (gd hf cl)), .int sw, .int ho]))) (by omega) Fa3
      have G1_4 := zset_ne (q := qw) (e' := (w, .inr (6, [.int dn, .int stg, .int sup, .int fc, .int nc, .int nl, .int ca, .int (2 * (gd hf cl)), .int sw, .int ho]))) (by omega) Fa4
      have G1_5 := zset_ne (q := qw) (e' := (w, .inr (6, [.int dn, .int stg, .int sup, .int fc, .int nc, .int nl, .int ca, .int (2 * (gd hf cl)), .int sw, .int ho]))) (by omega) Fa5
      generalize hws1 : (ws.set qw (w, .inr (6, [.int dn, .int stg, .int sup, .int fc, .int nc, .int nl, .int ca, .int (2 * (gd hf cl)), .int sw, .int ho]))) = ws_1 at J hk G1_0 G1_1 G1_2 G1_3 G1_4 G1_5
      refine lv_aload_n hx hb dX5_passCell_31 rfl (lv_at hl 1 rfl) ?_
      refine lv_aload_n hx hb dX5_passCell_32 rfl (lv_at hl 3 rfl) ?_
      refine lv_iload_n hx hb dX5_passCell_33 rfl (lv_at hl 4 rfl) ?_
      refine z_cr (z_rV (As := [.int cl]) (rest := [.ref w]) (ci := 4) (q0 := qc) X J (cX3_gap_ok l E G1_3 G1_4 G1_5) (cwV 1 hts gX5_passCell_X3_gap rfl rfl rfl (by decide +kernel) ⟨Nat.le_of_ble_eq_true rfl, Nat.le_of_ble_eq_true rfl⟩) G1_3 rfl rfl rfl hl.1 rfl (Nat.le_of_ble_eq_true rfl) dX5_passCell_34 ⟨Nat.le_of_ble_eq_true rfl, Nat.le_of_ble_eq_true rfl⟩) (fun r34 e_r34 => ?_)
      subst e_r34
      refine z_put (C := RX5) (T := TX5) (N := 10) (ci := 6) (v := .int (gd gf cl)) X J hi_X5 tyX5 tyX5_ok nmX5 qw G1_0 rfl 8 (by decide) (by decide +kernel) rfl rfl rfl (Nat.le_of_ble_eq_true rfl) dX5_passCell_37 (fun H locs J => ?_)
      have J : zJ E (ws_1.set qw (w, .inr (6, [.int dn, .int stg, .int sup, .int fc, .int nc, .int nl, .int ca, .int (2 * (gd hf cl)), .int (gd gf cl), .int ho]))) s H locs := J
      have hk := hk.trans (zK.set (ws := ws_1) (q := qw) (e := (w, .inr (6, [.int dn, .int stg, .int sup, .int fc, .int nc, .int nl, .int ca, .int (2 * (gd hf cl)), .int (gd gf cl), .int ho]))) (by simp))
      have G2_0 := zset_eq (e' := (w, .inr (6, [.int dn, .int stg, .int sup, .int fc, .int nc, .int nl, .int ca, .int (2 * (gd hf cl)), .int (gd gf cl), .int ho]))) G1_0
      have G2_1 := zset_ne (q := qw) (e' := (w, .inr (6, [.int dn, .int stg, .int sup, .int fc, .int nc, .int nl, .int ca, .int (2 * (gd hf cl)), .int (gd gf cl), .int ho]))) (by omega) G1_1
      have G2_2 := zset_ne (q := qw) (e' := (w, .inr (6, [.int dn, .int stg, .int sup, .int fc, .int nc, .int nl, .int ca, .int (2 * (gd hf cl)), .int (gd gf cl), .int ho]))) (by omega) G1_2
      have G2_3 := zset_ne (q := qw) (e' := (w, .inr (6, [.int dn, .int stg, .int sup, .int fc, .int nc, .int nl, .int ca, .int (2 * (gd hf cl)), .int (gd gf cl), .int ho]))) (by omega) G1_3
      have G2_4 := zset_ne (q := qw) (e' := (w, .inr (6, [.int dn, .int stg, .int sup, .int fc, .int nc, .int nl, .int ca, .int (2 * (gd hf cl)), .int (gd gf cl), .int ho]))) (by omega) G1_4
      have G2_5 := zset_ne (q := qw) (e' := (w, .inr (6, [.int dn, .int stg, .int sup, .int fc, .int nc, .int nl, .int ca, .int (2 * (gd hf cl)), .int (gd gf cl), .int ho]))) (by omega) G1_5
      generalize hws2 : (ws_1.set qw (w, .inr (6, [.int dn, .int stg, .int sup, .int fc, .int nc, .int nl, .int ca, .int (2 * (gd hf cl)), .int (gd gf cl), .int ho]))) = ws_2 at J hk G2_0 G2_1 G2_2 G2_3 G2_4 G2_5
      refine lv_aload_n hx hb dX5_passCell_40 rfl (lv_at hl 1 rfl) ?_
      refine lv_bipush (v := 10) hx hb dX5_passCell_41 (by decide) ?_
      refine lv_iload hx hb dX5_passCell_43 (lv_at hl 0 rfl) ?_
      refine lv_imul hx hb dX5_passCell_45 ?_
      refine z_put (C := RX5) (T := TX5) (N := 10) (ci := 6) (v := .int (10 * (gd hf cl))) X J hi_X5 tyX5 tyX5_ok nmX5 qw G2_0 rfl 9 (by decide) (by decide +kernel) rfl rfl rfl (Nat.le_of_ble_eq_true rfl) dX5_passCell_46 (fun H locs J => ?_)
      have J : zJ E (ws_2.set qw (w, .inr (6, [.int dn, .int stg, .int sup, .int fc, .int nc, .int nl, .int ca, .int (2 * (gd hf cl)), .int (gd gf cl), .int (10 * (gd hf cl))]))) s H locs := J
      have hk := hk.trans (zK.set (ws := ws_2) (q := qw) (e := (w, .inr (6, [.int dn, .int stg, .int sup, .int fc, .int nc, .int nl, .int ca, .int (2 * (gd hf cl)), .int (gd gf cl), .int (10 * (gd hf cl))]))) (by simp))
      have G3_0 := zset_eq (e' := (w, .inr (6, [.int dn, .int stg, .int sup, .int fc, .int nc, .int nl, .int ca, .int (2 * (gd hf cl)), .int (gd gf cl), .int (10 * (gd hf cl))]))) G2_0
      have G3_1 := zset_ne (q := qw) (e' := (w, .inr (6, [.int dn, .int stg, .int sup, .int fc, .int nc, .int nl, .int ca, .int (2 * (gd hf cl)), .int (gd gf cl), .int (10 * (gd hf cl))]))) (by omega) G2_1
      have G3_2 := zset_ne (q := qw) (e' := (w, .inr (6, [.int dn, .int stg, .int sup, .int fc, .int nc, .int nl, .int ca, .int (2 * (gd hf cl)), .int (gd gf cl), .int (10 * (gd hf cl))]))) (by omega) G2_2
      have G3_3 := zset_ne (q := qw) (e' := (w, .inr (6, [.int dn, .int stg, .int sup, .int fc, .int nc, .int nl, .int ca, .int (2 * (gd hf cl)), .int (gd gf cl), .int (10 * (gd hf cl))]))) (by omega) G2_3
      have G3_4 := zset_ne (q := qw) (e' := (w, .inr (6, [.int dn, .int stg, .int sup, .int fc, .int nc, .int nl, .int ca, .int (2 * (gd hf cl)), .int (gd gf cl), .int (10 * (gd hf cl))]))) (by omega) G2_4
      have G3_5 := zset_ne (q := qw) (e' := (w, .inr (6, [.int dn, .int stg, .int sup, .int fc, .int nc, .int nl, .int ca, .int (2 * (gd hf cl)), .int (gd gf cl), .int (10 * (gd hf cl))]))) (by omega) G2_5
      generalize hws3 : (ws_2.set qw (w, .inr (6, [.int dn, .int stg, .int sup, .int fc, .int nc, .int nl, .int ca, .int (2 * (gd hf cl)), .int (gd gf cl), .int (10 * (gd hf cl))]))) = ws_3 at J hk G3_0 G3_1 G3_2 G3_3 G3_4 G3_5
      have e9 := pcS_fence (stg := stg) (gf := gf) (x := (f, ca, sh, sw, ho)) cz9 cz20
      subst hQ
      exact W.vret hx hb hr (fun t ht hW => ⟨⟨ws_3, rfl, ⟨hk, (by rw [e9]; exact G3_0), (by rw [e9]; exact G3_2)⟩, J.I X ht hW.alike⟩, J.F ht⟩) J.locs dX5_passCell_49
set_option maxHeartbeats 4000000 in
set_option maxRecDepth 100000 in
/-- Wind.passLine -/
theorem cX5_passLine_ok (l : Launch) (E : zG) {ws : va_W} {qw w : Nat} {dn stg sup fc nc nl ca sh sw ho : Int32} {qg qa g ga : Nat} {f : Nat → Int32} {qc qh qv sc ha va : Nat} {hf gf : Nat → Int32} {st : Int32} (Fa0 : ws[qw]? = some (w, .inr (6, [.int dn, .int stg, .int sup, .int fc, .int nc, .int nl, .int ca, .int sh, .int sw, .int ho]))) (Fa1 : ws[qg]? = some (g, .inr (2, [.ref ga]))) (Fa2 : ws[qa]? = some (ga, zI4 E 400 f)) (Fa3 : ws[qc]? = some (sc, .inr (4, [.ref ha, .ref va]))) (Fa4 : ws[qh]? = some (ha, zI4 E 400 hf)) (Fa5 : ws[qv]? = some (va, zI4 E 400 gf)) (hag : qa ≠ qh) (hav : qa ≠ qv) : Met l yX5_passLine wsX5_passLine ({ frames := 3, cells := 0, slots := 0, locals := 60 } : Room) (va_Pc [.ref w, .ref g, .ref sc, .int st] (zI E ws)) (va_Qi (fun (r : Int32) (ws' : va_W) => (zK [qw, qa] ws ws') ∧ (ws'[qw]? = some (w, .inr (6, [.int dn, .int stg, .int sup, .int fc, .int nc, .int nl, .int ((lnS stg sup hf gf st nc (f, ca, sh, sw, ho)).2.1), .int ((lnS stg sup hf gf st nc (f, ca, sh, sw, ho)).2.2.1), .int ((lnS stg sup hf gf st nc (f, ca, sh, sw, ho)).2.2.2.1), .int ((lnS stg sup hf gf st nc (f, ca, sh, sw, ho)).2.2.2.2)]))) ∧ (ws'[qa]? = some (ga, zI4 E 400 ((lnS stg sup hf gf st nc (f, ca, sh, sw, ho)).1))) ∧ (r = (lnS stg sup hf gf st nc (f, ca, sh, sw, ho)).2.1)) (zI E) (zA E)) 0 0 (zA E) := by
  refine Met.ofW (cc := cX5_passLine) (maxL := 5) (ret := (some .int)) (by decide) rfl ?_
  intro p e s m args below meth c s₁ B hml hv
  obtain ⟨hargs9, hI⟩ := hv
  have hx := B.exec
  have hb := B.bytes
  have hr := B.returns
  have hlocks := B.notSynchronized
  have X : zC E p m c cX5_passLine 5 s args wsX5_passLine RX5 := z_open B hml hI
  have hown := X.1.2.2.2.1
  have hts := X.1.2.2.2.2
  have J := hI.J
  have hi_X5 : ∀ w ∈ wsX50, w ∈ wsX5_passLine := by decide +kernel
  have n0_1 : qw ≠ qg := zneK Fa0 Fa1 rfl
  have n0_2 : qw ≠ qa := zneK Fa0 Fa2 rfl
  have n0_3 : qw ≠ qc := zneK Fa0 Fa3 rfl
  have n0_4 : qw ≠ qh := zneK Fa0 Fa4 rfl
  have n0_5 : qw ≠ qv := zneK Fa0 Fa5 rfl
  have n1_2 : qg ≠ qa := zneK Fa1 Fa2 rfl
  have n1_3 : qg ≠ qc := zneK Fa1 Fa3 rfl
  have n1_4 : qg ≠ qh := zneK Fa1 Fa4 rfl
  have n1_5 : qg ≠ qv := zneK Fa1 Fa5 rfl
  have n2_3 : qa ≠ qc := zneK Fa2 Fa3 rfl
  have n3_4 : qc ≠ qh := zneK Fa3 Fa4 rfl
  have n3_5 : qc ≠ qv := zneK Fa3 Fa5 rfl
  have hk : zK [qw, qa] ws ws := zK.rf
  have hl := lv_entry ([.ref w, .ref g, .ref sc, .int st]) (n := 5) (Nat.le_of_ble_eq_true rfl)
  rw [show entryFrame m args 5 = entryFrame m ([.ref w, .ref g, .ref sc, .int st] : List Value).toArray 5 from by rw [hargs9], lg_entry_eq]
  generalize (lg_sl ([.ref w, .ref g, .ref sc, .int st]) ++ List.replicate (5 - (lg_sl ([.ref w, .ref g, .ref sc, .int st])).length) Slot.unset).toArray = ls at hl ⊢
  have hl : lv_has ls 5 [(0, .ref w), (1, .ref g), (2, .ref sc), (3, .int st)] := hl
  generalize hQ : (MQ below (va_Qi (fun (r : Int32) (ws' : va_W) => (zK [qw, qa] ws ws') ∧ (ws'[qw]? = some (w, .inr (6, [.int dn, .int stg, .int sup, .int fc, .int nc, .int nl, .int ((lnS stg sup hf gf st nc (f, ca, sh, sw, ho)).2.1), .int ((lnS stg sup hf gf st nc (f, ca, sh, sw, ho)).2.2.1), .int ((lnS stg sup hf gf st nc (f, ca, sh, sw, ho)).2.2.2.1), .int ((lnS stg sup hf gf st nc (f, ca, sh, sw, ho)).2.2.2.2)]))) ∧ (ws'[qa]? = some (ga, zI4 E 400 ((lnS stg sup hf gf st nc (f, ca, sh, sw, ho)).1))) ∧ (r = (lnS stg sup hf gf st nc (f, ca, sh, sw, ho)).2.1)) (zI E) (zA E)) args s 0 0 (zA E)) = QQ
  refine lv_aload_n hx hb dX5_passLine_0 rfl (lv_at hl 0 rfl) ?_
  refine lv_aload_n hx hb dX5_passLine_1 rfl (lv_at hl 0 rfl) ?_
  refine z_get (C := RX5) (T := TX5) (N := 10) (ci := 6) (v := .int sup) X J hi_X5 qw Fa0 rfl 2 (by decide) (by decide +kernel) rfl dX5_passLine_2 ?_
  refine z_put (C := RX5) (T := TX5) (N := 10) (ci := 6) (v := .int sup) X J hi_X5 tyX5 tyX5_ok nmX5 qw Fa0 rfl 6 (by decide) (by decide +kernel) rfl rfl rfl (Nat.le_of_ble_eq_true rfl) dX5_passLine_5 (fun H locs J => ?_)
  have J : zJ E (ws.set qw (w, .inr (6, [.int dn, .int stg, .int sup, .int fc, .int nc, .int nl, .int sup, .int sh, .int sw, .int ho]))) s H locs := J
  have hk := hk.trans (zK.set (ws := ws) (q := qw) (e := (w, .inr (6, [.int dn, .int stg, .int sup, .int fc, .int nc, .int nl, .int sup, .int sh, .int sw, .int ho]))) (by simp))
  have G1_0 := zset_eq (e' := (w, .inr (6, [.int dn, .int stg, .int sup, .int fc, .int nc, .int nl, .int sup, .int sh, .int sw, .int ho]))) Fa0
  have G1_1 := zset_ne (q := qw) (e' := (w, .inr (6, [.int dn, .int stg, .int sup, .int fc, .int nc, .int nl, .int sup, .int sh, .int sw, .int ho]))) (by omega) Fa1
  have G1_2 := zset_ne (q := qw) (e' := (w, .inr (6, [.int dn, .int stg, .int sup, .int fc, .int nc, .int nl, .int sup, .int sh, .int sw, .int ho]))) (by omega) Fa2
  have G1_3 := zset_ne (q := qw) (e' := (w, .inr (6, [.int dn, .int stg, .int sup, .int fc, .int nc, .int nl, .int sup, .int sh, .int sw, .int ho]))) (by omega) Fa3
  have G1_4 := zset_ne (q := qw) (e' := (w, .inr (6, [.int dn, .int stg, .int sup, .int fc, .int nc, .int nl, .int sup, .int sh, .int sw, .int ho]))) (by omega) Fa4
  have G1_5 := zset_ne (q := qw) (e' := (w, .inr (6, [.int dn, .int stg, .int sup, .int fc, .int nc, .int nl, .int sup, .int sh, .int sw, .int ho]))) (by omega) Fa5
  generalize hws1 : (ws.set qw (w, .inr (6, [.int dn, .int stg, .int sup, .int fc, .int nc, .int nl, .int sup, .int sh, .int sw, .int ho]))) = ws_1 at J hk G1_0 G1_1 G1_2 G1_3 G1_4 G1_5
  refine lv_aload_n hx hb dX5_passLine_8 rfl (lv_at hl 0 rfl) ?_
  refine lv_iconst (v := 0) hx hb dX5_passLine_9 (by decide) ?_
  refine z_put (C := RX5) (T := TX5) (N := 10) (ci := 6) (v := .int 0) X J hi_X5 tyX5 tyX5_ok nmX5 qw G1_0 rfl 7 (by decide) (by decide +kernel) rfl rfl rfl (Nat.le_of_ble_eq_true rfl) dX5_passLine_10 (fun H locs J => ?_)
  have J : zJ E (ws_1.set qw (w, .inr (6, [.int dn, .int stg, .int sup, .int fc, .int nc, .int nl, .int sup, .int 0, .int sw, .int ho]))) s H locs := J
  have hk := hk.trans (zK.set (ws := ws_1) (q := qw) (e := (w, .inr (6, [.int dn, .int stg, .int sup, .int fc, .int nc, .int nl, .int sup, .int 0, .int sw, .int ho]))) (by simp))
  have G2_0 := zset_eq (e' := (w, .inr (6, [.int dn, .int stg, .int sup, .int fc, .int nc, .int nl, .int sup, .int 0, .int sw, .int ho]))) G1_0
  have G2_1 := zset_ne (q := qw) (e' := (w, .inr (6, [.int dn, .int stg, .int sup, .int fc, .int nc, .int nl, .int sup, .int 0, .int sw, .int ho]))) (by omega) G1_1
  have G2_2 := zset_ne (q := qw) (e' := (w, .inr (6, [.int dn, .int stg, .int sup, .int fc, .int nc, .int nl, .int sup, .int 0, .int sw, .int ho]))) (by omega) G1_2
  have G2_3 := zset_ne (q := qw) (e' := (w, .inr (6, [.int dn, .int stg, .int sup, .int fc, .int nc, .int nl, .int sup, .int 0, .int sw, .int ho]))) (by omega) G1_3
  have G2_4 := zset_ne (q := qw) (e' := (w, .inr (6, [.int dn, .int stg, .int sup, .int fc, .int nc, .int nl, .int sup, .int 0, .int sw, .int ho]))) (by omega) G1_4
  have G2_5 := zset_ne (q := qw) (e' := (w, .inr (6, [.int dn, .int stg, .int sup, .int fc, .int nc, .int nl, .int sup, .int 0, .int sw, .int ho]))) (by omega) G1_5
  generalize hws2 : (ws_1.set qw (w, .inr (6, [.int dn, .int stg, .int sup, .int fc, .int nc, .int nl, .int sup, .int 0, .int sw, .int ho]))) = ws_2 at J hk G2_0 G2_1 G2_2 G2_3 G2_4 G2_5
  refine lv_aload_n hx hb dX5_passLine_13 rfl (lv_at hl 0 rfl) ?_
  refine lv_iconst (v := 0) hx hb dX5_passLine_14 (by decide) ?_
  refine z_put (C := RX5) (T := TX5) (N := 10) (ci := 6) (v := .int 0) X J hi_X5 tyX5 tyX5_ok nmX5 qw G2_0 rfl 8 (by decide) (by decide +kernel) rfl rfl rfl (Nat.le_of_ble_eq_true rfl) dX5_passLine_15 (fun H locs J => ?_)
  have J : zJ E (ws_2.set qw (w, .inr (6, [.int dn, .int stg, .int sup, .int fc, .int nc, .int nl, .int sup, .int 0, .int 0, .int ho]))) s H locs := J
  have hk := hk.trans (zK.set (ws := ws_2) (q := qw) (e := (w, .inr (6, [.int dn, .int stg, .int sup, .int fc, .int nc, .int nl, .int sup, .int 0, .int 0, .int ho]))) (by simp))
  have G3_0 := zset_eq (e' := (w, .inr (6, [.int dn, .int stg, .int sup, .int fc, .int nc, .int nl, .int sup, .int 0, .int 0, .int ho]))) G2_0
  have G3_1 := zset_ne (q := qw) (e' := (w, .inr (6, [.int dn, .int stg, .int sup, .int fc, .int nc, .int nl, .int sup, .int 0, .int 0, .int ho]))) (by omega) G2_1
  have G3_2 := zset_ne (q := qw) (e' := (w, .inr (6, [.int dn, .int stg, .int sup, .int fc, .int nc, .int nl, .int sup, .int 0, .int 0, .int ho]))) (by omega) G2_2
  have G3_3 := zset_ne (q := qw) (e' := (w, .inr (6, [.int dn, .int stg, .int sup, .int fc, .int nc, .int nl, .int sup, .int 0, .int 0, .int ho]))) (by omega) G2_3
  have G3_4 := zset_ne (q := qw) (e' := (w, .inr (6, [.int dn, .int stg, .int sup, .int fc, .int nc, .int nl, .int sup, .int 0, .int 0, .int ho]))) (by omega) G2_4
  have G3_5 := zset_ne (q := qw) (e' := (w, .inr (6, [.int dn, .int stg, .int sup, .int fc, .int nc, .int nl, .int sup, .int 0, .int 0, .int ho]))) (by omega) G2_5
  generalize hws3 : (ws_2.set qw (w, .inr (6, [.int dn, .int stg, .int sup, .int fc, .int nc, .int nl, .int sup, .int 0, .int 0, .int ho]))) = ws_3 at J hk G3_0 G3_1 G3_2 G3_3 G3_4 G3_5
  refine lv_iconst (v := nI 0) hx hb dX5_passLine_18 rfl ?_
  refine lv_istore (lv' := [(4, .int (nI 0)), (0, .ref w), (1, .ref g), (2, .ref sc), (3, .int st)]) hx hb dX5_passLine_19 hl (by decide) rfl (fun ls hl => ?_)
  have loop_21 : ∀ (k9 i : Nat), i + k9 = 20 → ∀ (wl21 : va_W) (H : Heap) (locs : List Loc) (ls : Array Slot), zK [qw, qa] ws wl21 → wl21[qw]? = some (w, .inr (6, [.int dn, .int stg, .int sup, .int fc, .int nc, .int nl, .int ((plS stg hf gf st nc (f, sup, 0, 0, ho) i).2.1), .int ((plS stg hf gf st nc (f, sup, 0, 0, ho) i).2.2.1), .int ((plS stg hf gf st nc (f, sup, 0, 0, ho) i).2.2.2.1), .int ((plS stg hf gf st nc (f, sup, 0, 0, ho) i).2.2.2.2)])) → wl21[qg]? = some (g, .inr (2, [.ref ga])) → wl21[qa]? = some (ga, zI4 E 400 ((plS stg hf gf st nc (f, sup, 0, 0, ho) i).1)) → wl21[qc]? = some (sc, .inr (4, [.ref ha, .ref va])) → wl21[qh]? = some (ha, zI4 E 400 hf) → wl21[qv]? = some (va, zI4 E 400 gf) → zJ E wl21 s H locs → lv_has ls 5 [(4, .int (nI i)), (0, .ref w), (1, .ref g), (2, .ref sc), (3, .int st)] → W p l e (headSpec wsX5_passLine ({ frames := 3, cells := 0, slots := 0, locals := 60 } : Room)).room s m args below meth c H locs 0 0 QQ (F0 m 21 ls []) := by
    intro k9
    induction k9 with
    | zero =>
      intro i hik wl21 H locs ls hk L21_0 L21_1 L21_2 L21_3 L21_4 L21_5 J hl
      obtain rfl : 20 = i := by omega
      refine lv_iload hx hb dX5_passLine_21 (lv_at hl 0 rfl) ?_
      refine lv_bipush (v := nI 20) hx hb dX5_passLine_23 (by decide) ?_
      refine lv_icmp_ge (tgt := 49) hx hb dX5_passLine_25 (by decide) (fun cz25 => ?_) (fun cz25 => by exact (cz25 (nI_le (Nat.le_refl _) (by omega))).elim)
      refine lv_aload_n hx hb dX5_passLine_49 rfl (lv_at hl 1 rfl) ?_
      refine z_get (C := RX5) (T := TX5) (N := 10) (ci := 6) (v := .int ((plS stg hf gf st nc (f, sup, 0, 0, ho) 20).2.1)) X J hi_X5 qw L21_0 rfl 6 (by decide) (by decide +kernel) rfl dX5_passLine_50 ?_
      subst hQ
      exact W.iret (v := (plS stg hf gf st nc (f, sup, 0, 0, ho) 20).2.1) hx hb hr (fun t ht hW => ⟨⟨(plS stg hf gf st nc (f, sup, 0, 0, ho) 20).2.1, wl21, rfl, ⟨hk, L21_0, L21_2, rfl⟩, J.I X ht hW.alike⟩, J.F ht⟩) J.locs dX5_passLine_53
    | succ k9 ih_21 =>
      intro i hik wl21 H locs ls hk L21_0 L21_1 L21_2 L21_3 L21_4 L21_5 J hl
      refine lv_iload hx hb dX5_passLine_21 (lv_at hl 0 rfl) ?_
      refine lv_bipush (v := nI 20) hx hb dX5_passLine_23 (by decide) ?_
      refine lv_icmp_ge (tgt := 49) hx hb dX5_passLine_25 (by decide) (fun cz25 => by exact (nI_ge (by omega) (by omega) cz25).elim) (fun cz25 => ?_)
      refine lv_aload_n hx hb dX5_passLine_28 rfl (lv_at hl 1 rfl) ?_
      refine lv_aload_n hx hb dX5_passLine_29 rfl (lv_at hl 2 rfl) ?_
      refine lv_aload_n hx hb dX5_passLine_30 rfl (lv_at hl 3 rfl) ?_
      refine lv_iload_n hx hb dX5_passLine_31 rfl (lv_at hl 4 rfl) ?_
      refine lv_iload hx hb dX5_passLine_32 (lv_at hl 0 rfl) ?_
      refine lv_aload_n hx hb dX5_passLine_34 rfl (lv_at hl 1 rfl) ?_
      refine z_get (C := RX5) (T := TX5) (N := 10) (ci := 6) (v := .int nc) X J hi_X5 qw L21_0 rfl 4 (by decide) (by decide +kernel) rfl dX5_passLine_35 ?_
      refine lv_imul hx hb dX5_passLine_38 ?_
      refine lv_iadd hx hb dX5_passLine_39 ?_
      refine z_cv J (z_rV (As := [.ref g, .ref sc, .int (st + ((nI i) * nc))]) (rest := []) (ci := 6) (q0 := qw) X J (cX5_passCell_ok l E L21_0 L21_1 L21_2 L21_3 L21_4 L21_5 (by first | assumption | omega | decide) (by first | assumption | omega | decide)) (cwV 3 hts gX5_passLine_X5_passCell rfl rfl rfl (by decide +kernel) ⟨Nat.le_of_ble_eq_true rfl, Nat.le_of_ble_eq_true rfl⟩) L21_0 rfl rfl rfl hl.1 rfl (Nat.le_of_ble_eq_true rfl) dX5_passLine_40 ⟨Nat.le_of_ble_eq_true rfl, Nat.le_of_ble_eq_true rfl⟩) (fun ws_4 H locs hp9 J => ?_)
      obtain ⟨k4, G4_a0, G4_a1⟩ := hp9
      have hk := hk.trans (k4.mono (by intro q9 hq9; simp only [List.mem_cons, List.not_mem_nil, or_false] at hq9 ⊢; omega))
      have G4_1 := k4.2 qg _ (by simp only [List.mem_cons, List.not_mem_nil, or_false]; omega) L21_1
      have G4_3 := k4.2 qc _ (by simp only [List.mem_cons, List.not_mem_nil, or_false]; omega) L21_3
      have G4_4 := k4.2 qh _ (by simp only [List.mem_cons, List.not_mem_nil, or_false]; omega) L21_4
      have G4_5 := k4.2 qv _ (by simp only [List.mem_cons, List.not_mem_nil, or_false]; omega) L21_5
      refine lv_iinc (v := nI (i + 1)) (lv' := [(4, .int (nI (i + 1))), (0, .ref w), (1, .ref g), (2, .ref sc), (3, .int st)]) hx hb dX5_passLine_43 hl (k := 0) rfl (nI_1 i) (by decide) rfl (fun ls hl => ?_)
      refine lv_goto (tgt := 21) hx hb dX5_passLine_46 (by decide) ?_
      exact ih_21 (i + 1) (by omega) _ _ _ _ hk G4_a0 G4_1 G4_a1 G4_3 G4_4 G4_5 J (lv_sub hl [0, 1, 2, 3, 4] rfl)
  exact loop_21 20 0 (by omega) _ _ _ _ hk G3_0 G3_1 G3_2 G3_3 G3_4 G3_5 J (lv_sub hl [0, 1, 2, 3, 4] rfl)
set_option maxHeartbeats 4000000 in
set_option maxRecDepth 100000 in
/-- Wind.crossField -/
theorem cX5_crossField_ok (l : Launch) (E : zG) {ws : va_W} {qw w : Nat} {dn stg sup fc nc nl ca sh sw ho : Int32} {qg qa g ga : Nat} {f : Nat → Int32} {qc qh qv sc ha va : Nat} {hf gf : Nat → Int32} (Fa0 : ws[qw]? = some (w, .inr (6, [.int dn, .int stg, .int sup, .int fc, .int nc, .int nl, .int ca, .int sh, .int sw, .int ho]))) (Fa1 : ws[qg]? = some (g, .inr (2, [.ref ga]))) (Fa2 : ws[qa]? = some (ga, zI4 E 400 f)) (Fa3 : ws[qc]? = some (sc, .inr (4, [.ref ha, .ref va]))) (Fa4 : ws[qh]? = some (ha, zI4 E 400 hf)) (Fa5 : ws[qv]? = some (va, zI4 E 400 gf)) (hag : qa ≠ qh) (hav : qa ≠ qv) : Met l yX5_crossField wsX5_crossField ({ frames := 4, cells := 0, slots := 0, locals := 84 } : Room) (va_Pc [.ref w, .ref g, .ref sc] (zI E ws)) (va_Qi (fun (r : Int32) (ws' : va_W) => (zK [qw, qa] ws ws') ∧ (ws'[qw]? = some (w, .inr (6, [.int dn, .int stg, .int sup, .int fc, .int nc, .int nl, .int ((cfS stg sup hf gf fc nc nl (f, ca, sh, sw, ho) 20).2.2.1), .int ((cfS stg sup hf gf fc nc nl (f, ca, sh, sw, ho) 20).2.2.2.1), .int ((cfS stg sup hf gf fc nc nl (f, ca, sh, sw, ho) 20).2.2.2.2.1), .int ((cfS stg sup hf gf fc nc nl (f, ca, sh, sw, ho) 20).2.2.2.2.2)]))) ∧ (ws'[qa]? = some (ga, zI4 E 400 ((cfS stg sup hf gf fc nc nl (f, ca, sh, sw, ho) 20).2.1))) ∧ (r = (cfS stg sup hf gf fc nc nl (f, ca, sh, sw, ho) 20).1)) (zI E) (zA E)) 0 0 (zA E) := by
  refine Met.ofW (cc := cX5_crossField) (maxL := 5) (ret := (some .int)) (by decide) rfl ?_
  intro p e s m args below meth c s₁ B hml hv
  obtain ⟨hargs9, hI⟩ := hv
  have hx := B.exec
  have hb := B.bytes
  have hr := B.returns
  have hlocks := B.notSynchronized
  have X : zC E p m c cX5_crossField 5 s args wsX5_crossField RX5 := z_open B hml hI
  have hown := X.1.2.2.2.1
  have hts := X.1.2.2.2.2
  have J := hI.J
  have hi_X5 : ∀ w ∈ wsX50, w ∈ wsX5_crossField := by decide +kernel
  have n0_1 : qw ≠ qg := zneK Fa0 Fa1 rfl
  have n0_2 : qw ≠ qa := zneK Fa0 Fa2 rfl
  have n0_3 : qw ≠ qc := zneK Fa0 Fa3 rfl
  have n0_4 : qw ≠ qh := zneK Fa0 Fa4 rfl
  have n0_5 : qw ≠ qv := zneK Fa0 Fa5 rfl
  have n1_2 : qg ≠ qa := zneK Fa1 Fa2 rfl
  have n1_3 : qg ≠ qc := zneK Fa1 Fa3 rfl
  have n1_4 : qg ≠ qh := zneK Fa1 Fa4 rfl
  have n1_5 : qg ≠ qv := zneK Fa1 Fa5 rfl
  have n2_3 : qa ≠ qc := zneK Fa2 Fa3 rfl
  have n3_4 : qc ≠ qh := zneK Fa3 Fa4 rfl
  have n3_5 : qc ≠ qv := zneK Fa3 Fa5 rfl
  have hk : zK [qw, qa] ws ws := zK.rf
  have hl := lv_entry ([.ref w, .ref g, .ref sc]) (n := 5) (Nat.le_of_ble_eq_true rfl)
  rw [show entryFrame m args 5 = entryFrame m ([.ref w, .ref g, .ref sc] : List Value).toArray 5 from by rw [hargs9], lg_entry_eq]
  generalize (lg_sl ([.ref w, .ref g, .ref sc]) ++ List.replicate (5 - (lg_sl ([.ref w, .ref g, .ref sc])).length) Slot.unset).toArray = ls at hl ⊢
  have hl : lv_has ls 5 [(0, .ref w), (1, .ref g), (2, .ref sc)] := hl
  generalize hQ : (MQ below (va_Qi (fun (r : Int32) (ws' : va_W) => (zK [qw, qa] ws ws') ∧ (ws'[qw]? = some (w, .inr (6, [.int dn, .int stg, .int sup, .int fc, .int nc, .int nl, .int ((cfS stg sup hf gf fc nc nl (f, ca, sh, sw, ho) 20).2.2.1), .int ((cfS stg sup hf gf fc nc nl (f, ca, sh, sw, ho) 20).2.2.2.1), .int ((cfS stg sup hf gf fc nc nl (f, ca, sh, sw, ho) 20).2.2.2.2.1), .int ((cfS stg sup hf gf fc nc nl (f, ca, sh, sw, ho) 20).2.2.2.2.2)]))) ∧ (ws'[qa]? = some (ga, zI4 E 400 ((cfS stg sup hf gf fc nc nl (f, ca, sh, sw, ho) 20).2.1))) ∧ (r = (cfS stg sup hf gf fc nc nl (f, ca, sh, sw, ho) 20).1)) (zI E) (zA E)) args s 0 0 (zA E)) = QQ
  refine lv_iconst (v := (cfS stg sup hf gf fc nc nl (f, ca, sh, sw, ho) 0).1) hx hb dX5_crossField_0 rfl ?_
  refine lv_istore_n (lv' := [(3, .int ((cfS stg sup hf gf fc nc nl (f, ca, sh, sw, ho) 0).1)), (0, .ref w), (1, .ref g), (2, .ref sc)]) hx hb dX5_crossField_1 rfl hl (by decide) rfl (fun ls hl => ?_)
  refine lv_iconst (v := nI 0) hx hb dX5_crossField_2 rfl ?_
  refine lv_istore (lv' := [(4, .int (nI 0)), (3, .int ((cfS stg sup hf gf fc nc nl (f, ca, sh, sw, ho) 0).1)), (0, .ref w), (1, .ref g), (2, .ref sc)]) hx hb dX5_crossField_3 hl (by decide) rfl (fun ls hl => ?_)
  have loop_5 : ∀ (k9 i : Nat), i + k9 = 20 → ∀ (wl5 : va_W) (H : Heap) (locs : List Loc) (ls : Array Slot), zK [qw, qa] ws wl5 → wl5[qw]? = some (w, .inr (6, [.int dn, .int stg, .int sup, .int fc, .int nc, .int nl, .int ((cfS stg sup hf gf fc nc nl (f, ca, sh, sw, ho) i).2.2.1), .int ((cfS stg sup hf gf fc nc nl (f, ca, sh, sw, ho) i).2.2.2.1), .int ((cfS stg sup hf gf fc nc nl (f, ca, sh, sw, ho) i).2.2.2.2.1), .int ((cfS stg sup hf gf fc nc nl (f, ca, sh, sw, ho) i).2.2.2.2.2)])) → wl5[qg]? = some (g, .inr (2, [.ref ga])) → wl5[qa]? = some (ga, zI4 E 400 ((cfS stg sup hf gf fc nc nl (f, ca, sh, sw, ho) i).2.1)) → wl5[qc]? = some (sc, .inr (4, [.ref ha, .ref va])) → wl5[qh]? = some (ha, zI4 E 400 hf) → wl5[qv]? = some (va, zI4 E 400 gf) → zJ E wl5 s H locs → lv_has ls 5 [(4, .int (nI i)), (3, .int ((cfS stg sup hf gf fc nc nl (f, ca, sh, sw, ho) i).1)), (0, .ref w), (1, .ref g), (2, .ref sc)] → W p l e (headSpec wsX5_crossField ({ frames := 4, cells := 0, slots := 0, locals := 84 } : Room)).room s m args below meth c H locs 0 0 QQ (F0 m 5 ls []) := by
    intro k9
    induction k9 with
    | zero =>
      intro i hik wl5 H locs ls hk L5_0 L5_1 L5_2 L5_3 L5_4 L5_5 J hl
      obtain rfl : 20 = i := by omega
      refine lv_iload hx hb dX5_crossField_5 (lv_at hl 0 rfl) ?_
      refine lv_bipush (v := nI 20) hx hb dX5_crossField_7 (by decide) ?_
      refine lv_icmp_ge (tgt := 39) hx hb dX5_crossField_9 (by decide) (fun cz9 => ?_) (fun cz9 => by exact (cz9 (nI_le (Nat.le_refl _) (by omega))).elim)
      refine lv_iload_n hx hb dX5_crossField_39 rfl (lv_at hl 1 rfl) ?_
      subst hQ
      exact W.iret (v := (cfS stg sup hf gf fc nc nl (f, ca, sh, sw, ho) 20).1) hx hb hr (fun t ht hW => ⟨⟨(cfS stg sup hf gf fc nc nl (f, ca, sh, sw, ho) 20).1, wl5, rfl, ⟨hk, L5_0, L5_2, rfl⟩, J.I X ht hW.alike⟩, J.F ht⟩) J.locs dX5_crossField_40
    | succ k9 ih_5 =>
      intro i hik wl5 H locs ls hk L5_0 L5_1 L5_2 L5_3 L5_4 L5_5 J hl
      refine lv_iload hx hb dX5_crossField_5 (lv_at hl 0 rfl) ?_
      refine lv_bipush (v := nI 20) hx hb dX5_crossField_7 (by decide) ?_
      refine lv_icmp_ge (tgt := 39) hx hb dX5_crossField_9 (by decide) (fun cz9 => by exact (nI_ge (by omega) (by omega) cz9).elim) (fun cz9 => ?_)
      refine lv_iload_n hx hb dX5_crossField_12 rfl (lv_at hl 1 rfl) ?_
      refine lv_aload_n hx hb dX5_crossField_13 rfl (lv_at hl 2 rfl) ?_
      refine lv_aload_n hx hb dX5_crossField_14 rfl (lv_at hl 3 rfl) ?_
      refine lv_aload_n hx hb dX5_crossField_15 rfl (lv_at hl 4 rfl) ?_
      refine lv_aload_n hx hb dX5_crossField_16 rfl (lv_at hl 2 rfl) ?_
      refine z_get (C := RX5) (T := TX5) (N := 10) (ci := 6) (v := .int fc) X J hi_X5 qw L5_0 rfl 3 (by decide) (by decide +kernel) rfl dX5_crossField_17 ?_
      refine lv_iload hx hb dX5_crossField_20 (lv_at hl 0 rfl) ?_
      refine lv_aload_n hx hb dX5_crossField_22 rfl (lv_at hl 2 rfl) ?_
      refine z_get (C := RX5) (T := TX5) (N := 10) (ci := 6) (v := .int nl) X J hi_X5 qw L5_0 rfl 5 (by decide) (by decide +kernel) rfl dX5_crossField_23 ?_
      refine lv_imul hx hb dX5_crossField_26 ?_
      refine lv_iadd hx hb dX5_crossField_27 ?_
      refine z_ci J (z_rV (As := [.ref g, .ref sc, .int (fc + ((nI i) * nl))]) (rest := [.int ((cfS stg sup hf gf fc nc nl (f, ca, sh, sw, ho) i).1)]) (ci := 6) (q0 := qw) X J (cX5_passLine_ok l E L5_0 L5_1 L5_2 L5_3 L5_4 L5_5 (by first | assumption | omega | decide) (by first | assumption | omega | decide)) (cwV 3 hts gX5_crossField_X5_passLine rfl rfl rfl (by decide +kernel) ⟨Nat.le_of_ble_eq_true rfl, Nat.le_of_ble_eq_true rfl⟩) L5_0 rfl rfl rfl hl.1 rfl (Nat.le_of_ble_eq_true rfl) dX5_crossField_28 ⟨Nat.le_of_ble_eq_true rfl, Nat.le_of_ble_eq_true rfl⟩) (fun r28 ws_1 H locs hp9 J => ?_)
      obtain ⟨k1, G1_a0, G1_a1, e_r28⟩ := hp9
      have hk := hk.trans (k1.mono (by intro q9 hq9; simp only [List.mem_cons, List.not_mem_nil, or_false] at hq9 ⊢; omega))
      have G1_1 := k1.2 qg _ (by simp only [List.mem_cons, List.not_mem_nil, or_false]; omega) L5_1
      have G1_3 := k1.2 qc _ (by simp only [List.mem_cons, List.not_mem_nil, or_false]; omega) L5_3
      have G1_4 := k1.2 qh _ (by simp only [List.mem_cons, List.not_mem_nil, or_false]; omega) L5_4
      have G1_5 := k1.2 qv _ (by simp only [List.mem_cons, List.not_mem_nil, or_false]; omega) L5_5
      subst e_r28
      refine lv_iadd hx hb dX5_crossField_31 ?_
      refine lv_istore_n (lv' := [(3, .int (((cfS stg sup hf gf fc nc nl (f, ca, sh, sw, ho) i).1) + ((lnS stg sup hf gf (fc + ((nI i) * nl)) nc (((cfS stg sup hf gf fc nc nl (f, ca, sh, sw, ho) i).2.1), ((cfS stg sup hf gf fc nc nl (f, ca, sh, sw, ho) i).2.2.1), ((cfS stg sup hf gf fc nc nl (f, ca, sh, sw, ho) i).2.2.2.1), ((cfS stg sup hf gf fc nc nl (f, ca, sh, sw, ho) i).2.2.2.2.1), ((cfS stg sup hf gf fc nc nl (f, ca, sh, sw, ho) i).2.2.2.2.2))).2.1))), (4, .int (nI i)), (0, .ref w), (1, .ref g), (2, .ref sc)]) hx hb dX5_crossField_32 rfl hl (by decide) rfl (fun ls hl => ?_)
      refine lv_iinc (v := nI (i + 1)) (lv' := [(4, .int (nI (i + 1))), (3, .int (((cfS stg sup hf gf fc nc nl (f, ca, sh, sw, ho) i).1) + ((lnS stg sup hf gf (fc + ((nI i) * nl)) nc (((cfS stg sup hf gf fc nc nl (f, ca, sh, sw, ho) i).2.1), ((cfS stg sup hf gf fc nc nl (f, ca, sh, sw, ho) i).2.2.1), ((cfS stg sup hf gf fc nc nl (f, ca, sh, sw, ho) i).2.2.2.1), ((cfS stg sup hf gf fc nc nl (f, ca, sh, sw, ho) i).2.2.2.2.1), ((cfS stg sup hf gf fc nc nl (f, ca, sh, sw, ho) i).2.2.2.2.2))).2.1))), (0, .ref w), (1, .ref g), (2, .ref sc)]) hx hb dX5_crossField_33 hl (k := 1) rfl (nI_1 i) (by decide) rfl (fun ls hl => ?_)
      refine lv_goto (tgt := 5) hx hb dX5_crossField_36 (by decide) ?_
      exact ih_5 (i + 1) (by omega) _ _ _ _ hk G1_a0 G1_1 G1_a1 G1_3 G1_4 G1_5 J (lv_sub hl [0, 1, 2, 3, 4] rfl)
  exact loop_5 20 0 (by omega) _ _ _ _ hk Fa0 Fa1 Fa2 Fa3 Fa4 Fa5 J (lv_sub hl [0, 1, 2, 3, 4] rfl)
