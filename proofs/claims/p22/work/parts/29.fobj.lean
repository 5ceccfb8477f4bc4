set_option maxHeartbeats 400000 in
set_option maxRecDepth 100000 in
theorem cX0_init_ok (l : Launch) (E : zG) {ws : va_W} {qf fo sp : Nat} {co ro he ga : Int32} (Fa0 : ws[qf]? = some (fo, .inr (1, [.int 0, .int 0, .null, .int 0, .int 0])))  : Met l yX0_init wsX0_init ({ frames := 1, cells := 0, slots := 0, locals := 12 } : Room) (va_Pc [.ref fo, .int co, .int ro, .ref sp, .int he, .int ga] (zI E ws)) (va_Qv (fun (ws' : va_W) => (zK [qf] ws ws') ∧ (ws'.length = ws.length) ∧ (ws'[qf]? = some (fo, .inr (1, [.int co, .int ro, .ref sp, .int he, .int ga])))) (zI E) (zA E)) 0 0 (zA E) := by
  refine Met.ofW (cc := cX0_init) (maxL := 6) (ret := none) (by decide) rfl ?_
  intro p e s m args below meth c s₁ B hml hv
  obtain ⟨hargs9, hI⟩ := hv
  have hx := B.exec
  have hb := B.bytes
  have hr := B.returns
  have hlocks := B.notSynchronized
  have X : zC E p m c cX0_init 6 s args wsX0_init RX0 := z_open B hml hI
  have hin9 : meth.name = "<init>" := (name_of_methodNamed B.named B.method).1
  have hown := X.1.2.2.2.1
  have hts := X.1.2.2.2.2
  have J := hI.J
  have hi_X0 : ∀ w ∈ wsX00, w ∈ wsX0_init := by decide +kernel
  have hk : zK [qf] ws ws := zK.rf
  have hlen : ws.length = ws.length + 0 := rfl
  have bFa0 := zlt Fa0
  have hl := lv_entry ([.ref fo, .int co, .int ro, .ref sp, .int he, .int ga]) (n := 6) (Nat.le_of_ble_eq_true rfl)
  rw [show entryFrame m args 6 = entryFrame m ([.ref fo, .int co, .int ro, .ref sp, .int he, .int ga] : List Value).toArray 6 from by rw [hargs9], lg_entry_eq]
  generalize (lg_sl ([.ref fo, .int co, .int ro, .ref sp, .int he, .int ga]) ++ List.replicate (6 - (lg_sl ([.ref fo, .int co, .int ro, .ref sp, .int he, .int ga])).length) Slot.unset).toArray = ls at hl ⊢
  have hl : lv_has ls 6 [(0, .ref fo), (1, .int co), (2, .int ro), (3, .ref sp), (4, .int he), (5, .int ga)] := hl
  generalize hQ : (MQ below (va_Qv (fun (ws' : va_W) => (zK [qf] ws ws') ∧ (ws'.length = ws.length) ∧ (ws'[qf]? = some (fo, .inr (1, [.int co, .int ro, .ref sp, .int he, .int ga])))) (zI E) (zA E)) args s 0 0 (zA E)) = QQ
  refine lv_aload_n hx hb dX0_init_0 rfl (lv_at hl 0 rfl) ?_
  refine W.objInit hx hb hown (hts (.methodLink RX0 1 objectInit) (by decide +kernel)) (hts (.instanceMethod objectInit) (by decide +kernel)) (hts (.code objectInit ⟨#[0xb1]⟩ 1 none) (by decide +kernel)) rfl (by rw [X.1.2.2.1]; exact hl.1) rfl dX0_init_1 (Nat.le_of_ble_eq_true rfl) (Nat.le_of_ble_eq_true rfl) ?_
  refine W.eq (g2 := F0 m 4 ls []) rfl ?_
  refine lv_aload_n hx hb dX0_init_4 rfl (lv_at hl 0 rfl) ?_
  refine lv_iload_n hx hb dX0_init_5 rfl (lv_at hl 1 rfl) ?_
  refine z_putF (C := RX0) (T := TX0) (N := 5) (ci := 1) (v := .int co) X J hi_X0 tyX0 tyX0_ok nmX0 qf Fa0 rfl 0 (by decide) (by decide +kernel) rfl hin9 rfl rfl rfl (Nat.le_of_ble_eq_true rfl) dX0_init_6 (fun H locs J => ?_)
  have J : zJ E (ws.set qf (fo, .inr (1, [.int co, .int 0, .null, .int 0, .int 0]))) s H locs := J
  have hk := hk.trans (zK.set (ws := ws) (q := qf) (e := (fo, .inr (1, [.int co, .int 0, .null, .int 0, .int 0]))) (by simp))
  have hlen : (ws.set qf (fo, .inr (1, [.int co, .int 0, .null, .int 0, .int 0]))).length = ws.length + 0 := (List.length_set ..).trans hlen
  have G1_0 := zset_eq (e' := (fo, .inr (1, [.int co, .int 0, .null, .int 0, .int 0]))) Fa0
  generalize hws1 : (ws.set qf (fo, .inr (1, [.int co, .int 0, .null, .int 0, .int 0]))) = ws_1 at J hlen hk G1_0
  refine lv_aload_n hx hb dX0_init_9 rfl (lv_at hl 0 rfl) ?_
  refine lv_iload_n hx hb dX0_init_10 rfl (lv_at hl 2 rfl) ?_
  refine z_putF (C := RX0) (T := TX0) (N := 5) (ci := 1) (v := .int ro) X J hi_X0 tyX0 tyX0_ok nmX0 qf G1_0 rfl 1 (by decide) (by decide +kernel) rfl hin9 rfl rfl rfl (Nat.le_of_ble_eq_true rfl) dX0_init_11 (fun H locs J => ?_)
  have J : zJ E (ws_1.set qf (fo, .inr (1, [.int co, .int ro, .null, .int 0, .int 0]))) s H locs := J
  have hk := hk.trans (zK.set (ws := ws_1) (q := qf) (e := (fo, .inr (1, [.int co, .int ro, .null, .int 0, .int 0]))) (by simp))
  have hlen : (ws_1.set qf (fo, .inr (1, [.int co, .int ro, .null, .int 0, .int 0]))).length = ws.length + 0 := (List.length_set ..).trans hlen
  have G2_0 := zset_eq (e' := (fo, .inr (1, [.int co, .int ro, .null, .int 0, .int 0]))) G1_0
  generalize hws2 : (ws_1.set qf (fo, .inr (1, [.int co, .int ro, .null, .int 0, .int 0]))) = ws_2 at J hlen hk G2_0
  refine lv_aload_n hx hb dX0_init_14 rfl (lv_at hl 0 rfl) ?_
  refine lv_aload_n hx hb dX0_init_15 rfl (lv_at hl 3 rfl) ?_
  refine z_putF (C := RX0) (T := TX0) (N := 5) (ci := 1) (v := .ref sp) X J hi_X0 tyX0 tyX0_ok nmX0 qf G2_0 rfl 2 (by decide) (by decide +kernel) rfl hin9 rfl rfl rfl (Nat.le_of_ble_eq_true rfl) dX0_init_16 (fun H locs J => ?_)
  have J : zJ E (ws_2.set qf (fo, .inr (1, [.int co, .int ro, .ref sp, .int 0, .int 0]))) s H locs := J
  have hk := hk.trans (zK.set (ws := ws_2) (q := qf) (e := (fo, .inr (1, [.int co, .int ro, .ref sp, .int 0, .int 0]))) (by simp))
  have hlen : (ws_2.set qf (fo, .inr (1, [.int co, .int ro, .ref sp, .int 0, .int 0]))).length = ws.length + 0 := (List.length_set ..).trans hlen
  have G3_0 := zset_eq (e' := (fo, .inr (1, [.int co, .int ro, .ref sp, .int 0, .int 0]))) G2_0
  generalize hws3 : (ws_2.set qf (fo, .inr (1, [.int co, .int ro, .ref sp, .int 0, .int 0]))) = ws_3 at J hlen hk G3_0
  refine lv_aload_n hx hb dX0_init_19 rfl (lv_at hl 0 rfl) ?_
  refine lv_iload hx hb dX0_init_20 (lv_at hl 4 rfl) ?_
  refine z_put (C := RX0) (T := TX0) (N := 5) (ci := 1) (v := .int he) X J hi_X0 tyX0 tyX0_ok nmX0 qf G3_0 rfl 3 (by decide) (by decide +kernel) rfl rfl rfl (Nat.le_of_ble_eq_true rfl) dX0_init_22 (fun H locs J => ?_)
  have J : zJ E (ws_3.set qf (fo, .inr (1, [.int co, .int ro, .ref sp, .int he, .int 0]))) s H locs := J
  have hk := hk.trans (zK.set (ws := ws_3) (q := qf) (e := (fo, .inr (1, [.int co, .int ro, .ref sp, .int he, .int 0]))) (by simp))
  have hlen : (ws_3.set qf (fo, .inr (1, [.int co, .int ro, .ref sp, .int he, .int 0]))).length = ws.length + 0 := (List.length_set ..).trans hlen
  have G4_0 := zset_eq (e' := (fo, .inr (1, [.int co, .int ro, .ref sp, .int he, .int 0]))) G3_0
  generalize hws4 : (ws_3.set qf (fo, .inr (1, [.int co, .int ro, .ref sp, .int he, .int 0]))) = ws_4 at J hlen hk G4_0
  refine lv_aload_n hx hb dX0_init_25 rfl (lv_at hl 0 rfl) ?_
  refine lv_iload hx hb dX0_init_26 (lv_at hl 5 rfl) ?_
  refine z_put (C := RX0) (T := TX0) (N := 5) (ci := 1) (v := .int ga) X J hi_X0 tyX0 tyX0_ok nmX0 qf G4_0 rfl 4 (by decide) (by decide +kernel) rfl rfl rfl (Nat.le_of_ble_eq_true rfl) dX0_init_28 (fun H locs J => ?_)
  have J : zJ E (ws_4.set qf (fo, .inr (1, [.int co, .int ro, .ref sp, .int he, .int ga]))) s H locs := J
  have hk := hk.trans (zK.set (ws := ws_4) (q := qf) (e := (fo, .inr (1, [.int co, .int ro, .ref sp, .int he, .int ga]))) (by simp))
  have hlen : (ws_4.set qf (fo, .inr (1, [.int co, .int ro, .ref sp, .int he, .int ga]))).length = ws.length + 0 := (List.length_set ..).trans hlen
  have G5_0 := zset_eq (e' := (fo, .inr (1, [.int co, .int ro, .ref sp, .int he, .int ga]))) G4_0
  generalize hws5 : (ws_4.set qf (fo, .inr (1, [.int co, .int ro, .ref sp, .int he, .int ga]))) = ws_5 at J hlen hk G5_0
  subst hQ
  exact W.vret hx hb hr (fun t ht hW => ⟨⟨ws_5, rfl, ⟨hk, hlen, G5_0⟩, J.I X ht hW.alike⟩, J.F ht⟩) J.locs dX0_init_31
set_option maxHeartbeats 400000 in
set_option maxRecDepth 100000 in
theorem cX2_init_ok (l : Launch) (E : zG) {ws : va_W} {qf fo sp : Nat} {ix : Int32} (Fa0 : ws[qf]? = some (fo, .inr (3, [.int 0, .null])))  : Met l yX2_init wsX2_init ({ frames := 1, cells := 0, slots := 0, locals := 12 } : Room) (va_Pc [.ref fo, .int ix, .ref sp] (zI E ws)) (va_Qv (fun (ws' : va_W) => (zK [qf] ws ws') ∧ (ws'.length = ws.length) ∧ (ws'[qf]? = some (fo, .inr (3, [.int ix, .ref sp])))) (zI E) (zA E)) 0 0 (zA E) := by
  refine Met.ofW (cc := cX2_init) (maxL := 3) (ret := none) (by decide) rfl ?_
  intro p e s m args below meth c s₁ B hml hv
  obtain ⟨hargs9, hI⟩ := hv
  have hx := B.exec
  have hb := B.bytes
  have hr := B.returns
  have hlocks := B.notSynchronized
  have X : zC E p m c cX2_init 3 s args wsX2_init RX2 := z_open B hml hI
  have hin9 : meth.name = "<init>" := (name_of_methodNamed B.named B.method).1
  have hown := X.1.2.2.2.1
  have hts := X.1.2.2.2.2
  have J := hI.J
  have hi_X2 : ∀ w ∈ wsX20, w ∈ wsX2_init := by decide +kernel
  have hk : zK [qf] ws ws := zK.rf
  have hlen : ws.length = ws.length + 0 := rfl
  have bFa0 := zlt Fa0
  have hl := lv_entry ([.ref fo, .int ix, .ref sp]) (n := 3) (Nat.le_of_ble_eq_true rfl)
  rw [show entryFrame m args 3 = entryFrame m ([.ref fo, .int ix, .ref sp] : List Value).toArray 3 from by rw [hargs9], lg_entry_eq]
  generalize (lg_sl ([.ref fo, .int ix, .ref sp]) ++ List.replicate (3 - (lg_sl ([.ref fo, .int ix, .ref sp])).length) Slot.unset).toArray = ls at hl ⊢
  have hl : lv_has ls 3 [(0, .ref fo), (1, .int ix), (2, .ref sp)] := hl
  generalize hQ : (MQ below (va_Qv (fun (ws' : va_W) => (zK [qf] ws ws') ∧ (ws'.length = ws.length) ∧ (ws'[qf]? = some (fo, .inr (3, [.int ix, .ref sp])))) (zI E) (zA E)) args s 0 0 (zA E)) = QQ
  refine lv_aload_n hx hb dX2_init_0 rfl (lv_at hl 0 rfl) ?_
  refine W.objInit hx hb hown (hts (.methodLink RX2 1 objectInit) (by decide +kernel)) (hts (.instanceMethod objectInit) (by decide +kernel)) (hts (.code objectInit ⟨#[0xb1]⟩ 1 none) (by decide +kernel)) rfl (by rw [X.1.2.2.1]; exact hl.1) rfl dX2_init_1 (Nat.le_of_ble_eq_true rfl) (Nat.le_of_ble_eq_true rfl) ?_
  refine W.eq (g2 := F0 m 4 ls []) rfl ?_
  refine lv_aload_n hx hb dX2_init_4 rfl (lv_at hl 0 rfl) ?_
  refine lv_iload_n hx hb dX2_init_5 rfl (lv_at hl 1 rfl) ?_
  refine z_putF (C := RX2) (T := TX2) (N := 2) (ci := 3) (v := .int ix) X J hi_X2 tyX2 tyX2_ok nmX2 qf Fa0 rfl 0 (by decide) (by decide +kernel) rfl hin9 rfl rfl rfl (Nat.le_of_ble_eq_true rfl) dX2_init_6 (fun H locs J => ?_)
  have J : zJ E (ws.set qf (fo, .inr (3, [.int ix, .null]))) s H locs := J
  have hk := hk.trans (zK.set (ws := ws) (q := qf) (e := (fo, .inr (3, [.int ix, .null]))) (by simp))
  have hlen : (ws.set qf (fo, .inr (3, [.int ix, .null]))).length = ws.length + 0 := (List.length_set ..).trans hlen
  have G1_0 := zset_eq (e' := (fo, .inr (3, [.int ix, .null]))) Fa0
  generalize hws1 : (ws.set qf (fo, .inr (3, [.int ix, .null]))) = ws_1 at J hlen hk G1_0
  refine lv_aload_n hx hb dX2_init_9 rfl (lv_at hl 0 rfl) ?_
  refine lv_aload_n hx hb dX2_init_10 rfl (lv_at hl 2 rfl) ?_
  refine z_putF (C := RX2) (T := TX2) (N := 2) (ci := 3) (v := .ref sp) X J hi_X2 tyX2 tyX2_ok nmX2 qf G1_0 rfl 1 (by decide) (by decide +kernel) rfl hin9 rfl rfl rfl (Nat.le_of_ble_eq_true rfl) dX2_init_11 (fun H locs J => ?_)
  have J : zJ E (ws_1.set qf (fo, .inr (3, [.int ix, .ref sp]))) s H locs := J
  have hk := hk.trans (zK.set (ws := ws_1) (q := qf) (e := (fo, .inr (3, [.int ix, .ref sp]))) (by simp))
  have hlen : (ws_1.set qf (fo, .inr (3, [.int ix, .ref sp]))).length = ws.length + 0 := (List.length_set ..).trans hlen
  have G2_0 := zset_eq (e' := (fo, .inr (3, [.int ix, .ref sp]))) G1_0
  generalize hws2 : (ws_1.set qf (fo, .inr (3, [.int ix, .ref sp]))) = ws_2 at J hlen hk G2_0
  subst hQ
  exact W.vret hx hb hr (fun t ht hW => ⟨⟨ws_2, rfl, ⟨hk, hlen, G2_0⟩, J.I X ht hW.alike⟩, J.F ht⟩) J.locs dX2_init_14
