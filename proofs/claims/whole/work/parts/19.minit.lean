set_option maxHeartbeats 4000000 in
set_option maxRecDepth 100000 in
theorem cX7_init_ok (l : Launch) (E : zG) {ws : va_W} {qm mo : Nat} (Fa0 : ws[qm]? = some (mo, .inr (8, [.int 0, .int 0, .null, .int 0, .null, .null, .int 0, .int 0, .int 0, .int 0, .int 0, .null, .null, .null])))  : Met l yX7_init wsX7_init ({ frames := 1, cells := 6, slots := 1274, locals := 12 } : Room) (va_Pc [.ref mo] (zI E ws)) (va_Qv (fun (ws' : va_W) => (zK [qm] ws ws') ∧ (∃ mf md mi ms9 mk mt : Nat, ws'.length = ws.length + 6 ∧ (ws'[qm]? = some (mo, .inr (8, [.int 0, .int 0, .ref mf, .int 0, .ref md, .ref mi, .int 15, .int 0, .int 0, .int 0, .int 0, .ref ms9, .ref mk, .ref mt]))) ∧ (ws'[(ws.length + 0)]? = some (mf, zI4 E 66 (fun _ => 0))) ∧ (ws'[(ws.length + 1)]? = some (md, zI4 E 4 (fun _ => 0))) ∧ (ws'[(ws.length + 2)]? = some (mi, zI4 E 4 (fun _ => 0))) ∧ (ws'[(ws.length + 3)]? = some (ms9, zI4 E 400 (fun _ => 0))) ∧ (ws'[(ws.length + 4)]? = some (mk, zI4 E 400 (fun _ => 0))) ∧ (ws'[(ws.length + 5)]? = some (mt, zI4 E 400 (fun _ => 0))))) (zI E) (zA E)) 6 1274 (zA E) := by
  refine Met.ofW (cc := cX7_init) (maxL := 1) (ret := none) (by decide) rfl ?_
  intro p e s m args below meth c s₁ B hml hv
  obtain ⟨hargs9, hI⟩ := hv
  have hx := B.exec
  have hb := B.bytes
  have hr := B.returns
  have hlocks := B.notSynchronized
  have X : zC E p m c cX7_init 1 s args wsX7_init RX7 := z_open B hml hI
  have hin9 : meth.name = "<init>" := (name_of_methodNamed B.named B.method).1
  have hown := X.1.2.2.2.1
  have hts := X.1.2.2.2.2
  have J := hI.J
  have hi_X7 : ∀ w ∈ wsX70, w ∈ wsX7_init := by decide +kernel
  have hk : zK [qm] ws ws := zK.rf
  have hlen : ws.length = ws.length + 0 := rfl
  have bFa0 := zlt Fa0
  have hl := lv_entry ([.ref mo]) (n := 1) (Nat.le_of_ble_eq_true rfl)
  rw [show entryFrame m args 1 = entryFrame m ([.ref mo] : List Value).toArray 1 from by rw [hargs9], lg_entry_eq]
  generalize (lg_sl ([.ref mo]) ++ List.replicate (1 - (lg_sl ([.ref mo])).length) Slot.unset).toArray = ls at hl ⊢
  have hl : lv_has ls 1 [(0, .ref mo)] := hl
  generalize hQ : (MQ below (va_Qv (fun (ws' : va_W) => (zK [qm] ws ws') ∧ (∃ mf md mi ms9 mk mt : Nat, ws'.length = ws.length + 6 ∧ (ws'[qm]? = some (mo, .inr (8, [.int 0, .int 0, .ref mf, .int 0, .ref md, .ref mi, .int 15, .int 0, .int 0, .int 0, .int 0, .ref ms9, .ref mk, .ref mt]))) ∧ (ws'[(ws.length + 0)]? = some (mf, zI4 E 66 (fun _ => 0))) ∧ (ws'[(ws.length + 1)]? = some (md, zI4 E 4 (fun _ => 0))) ∧ (ws'[(ws.length + 2)]? = some (mi, zI4 E 4 (fun _ => 0))) ∧ (ws'[(ws.length + 3)]? = some (ms9, zI4 E 400 (fun _ => 0))) ∧ (ws'[(ws.length + 4)]? = some (mk, zI4 E 400 (fun _ => 0))) ∧ (ws'[(ws.length + 5)]? = some (mt, zI4 E 400 (fun _ => 0))))) (zI E) (zA E)) args s 6 1274 (zA E)) = QQ
  refine lv_aload_n hx hb dX7_init_0 rfl (lv_at hl 0 rfl) ?_
  refine W.objInit hx hb hown (hts (.methodLink RX7 1 objectInit) (by decide +kernel)) (hts (.instanceMethod objectInit) (by decide +kernel)) (hts (.code objectInit ⟨#[0xb1]⟩ 1 none) (by decide +kernel)) rfl (by rw [X.1.2.2.1]; exact hl.1) rfl dX7_init_1 (Nat.le_of_ble_eq_true rfl) (Nat.le_of_ble_eq_true rfl) ?_
  refine W.eq (g2 := F0 m 4 ls []) rfl ?_
  refine lv_aload_n hx hb dX7_init_4 rfl (lv_at hl 0 rfl) ?_
  refine lv_bipush (v := 66) hx hb dX7_init_5 (by decide) ?_
  refine z_newa (N' := 66) X J (by decide +kernel) (by decide) (by decide) (Nat.le_of_ble_eq_true rfl) (Nat.le_of_ble_eq_true rfl) (Nat.le_of_ble_eq_true rfl) dX7_init_7 (fun q7 H J => ?_)
  have lp1 := hk.1
  have hk := hk.trans (zK.app (more := [(q7, zI4 E 66 (fun _ => 0))]))
  have hpn1 := hlen
  have hlen : (ws ++ [(q7, zI4 E 66 (fun _ => 0))]).length = ws.length + 1 := by rw [List.length_append, hlen]; rfl
  have bG1_0 := zlt Fa0
  have G1_0 := zapp (x := (q7, zI4 E 66 (fun _ => 0))) Fa0
  have G1_n := zapp_new (ws := ws) (x := (q7, zI4 E 66 (fun _ => 0)))
  generalize hws1 : ws ++ [(q7, zI4 E 66 (fun _ => 0))] = ws_1 at J hk hlen G1_0 G1_n
  rw [hpn1] at lp1 G1_n bG1_0
  refine z_putF (C := RX7) (T := TX7) (N := 14) (ci := 8) (v := .ref q7) X J hi_X7 tyX7 tyX7_ok nmX7 qm G1_0 rfl 2 (by decide) (by decide +kernel) rfl hin9 rfl rfl rfl (Nat.le_of_ble_eq_true rfl) dX7_init_9 (fun H locs J => ?_)
  have J : zJ E (ws_1.set qm (mo, .inr (8, [.int 0, .int 0, .ref q7, .int 0, .null, .null, .int 0, .int 0, .int 0, .int 0, .int 0, .null, .null, .null]))) s H locs := J
  have hk := hk.trans (zK.set (ws := ws_1) (q := qm) (e := (mo, .inr (8, [.int 0, .int 0, .ref q7, .int 0, .null, .null, .int 0, .int 0, .int 0, .int 0, .int 0, .null, .null, .null]))) (by simp))
  have hlen : (ws_1.set qm (mo, .inr (8, [.int 0, .int 0, .ref q7, .int 0, .null, .null, .int 0, .int 0, .int 0, .int 0, .int 0, .null, .null, .null]))).length = ws.length + 1 := (List.length_set ..).trans hlen
  have G2_0 := zset_eq (e' := (mo, .inr (8, [.int 0, .int 0, .ref q7, .int 0, .null, .null, .int 0, .int 0, .int 0, .int 0, .int 0, .null, .null, .null]))) G1_0
  have G2_1 := zset_ne (q := qm) (e' := (mo, .inr (8, [.int 0, .int 0, .ref q7, .int 0, .null, .null, .int 0, .int 0, .int 0, .int 0, .int 0, .null, .null, .null]))) (by omega) G1_n
  generalize hws2 : (ws_1.set qm (mo, .inr (8, [.int 0, .int 0, .ref q7, .int 0, .null, .null, .int 0, .int 0, .int 0, .int 0, .int 0, .null, .null, .null]))) = ws_2 at J hlen hk G2_0 G2_1
  refine lv_aload_n hx hb dX7_init_12 rfl (lv_at hl 0 rfl) ?_
  refine lv_iconst (v := 4) hx hb dX7_init_13 (by decide) ?_
  refine z_newa (N' := 4) X J (by decide +kernel) (by decide) (by decide) (Nat.le_of_ble_eq_true rfl) (Nat.le_of_ble_eq_true rfl) (Nat.le_of_ble_eq_true rfl) dX7_init_14 (fun q14 H J => ?_)
  have lp3 := hk.1
  have hk := hk.trans (zK.app (more := [(q14, zI4 E 4 (fun _ => 0))]))
  have hpn3 := hlen
  have hlen : (ws_2 ++ [(q14, zI4 E 4 (fun _ => 0))]).length = ws.length + 2 := by rw [List.length_append, hlen]; rfl
  have bG3_0 := zlt G2_0
  have G3_0 := zapp (x := (q14, zI4 E 4 (fun _ => 0))) G2_0
  have bG3_1 := zlt G2_1
  have G3_1 := zapp (x := (q14, zI4 E 4 (fun _ => 0))) G2_1
  have G3_n := zapp_new (ws := ws_2) (x := (q14, zI4 E 4 (fun _ => 0)))
  generalize hws3 : ws_2 ++ [(q14, zI4 E 4 (fun _ => 0))] = ws_3 at J hk hlen G3_0 G3_1 G3_n
  rw [hpn3] at lp3 G3_n bG3_0 bG3_1
  refine z_putF (C := RX7) (T := TX7) (N := 14) (ci := 8) (v := .ref q14) X J hi_X7 tyX7 tyX7_ok nmX7 qm G3_0 rfl 4 (by decide) (by decide +kernel) rfl hin9 rfl rfl rfl (Nat.le_of_ble_eq_true rfl) dX7_init_16 (fun H locs J => ?_)
  have J : zJ E (ws_3.set qm (mo, .inr (8, [.int 0, .int 0, .ref q7, .int 0, .ref q14, .null, .int 0, .int 0, .int 0, .int 0, .int 0, .null, .null, .null]))) s H locs := J
  have hk := hk.trans (zK.set (ws := ws_3) (q := qm) (e := (mo, .inr (8, [.int 0, .int 0, .ref q7, .int 0, .ref q14, .null, .int 0, .int 0, .int 0, .int 0, .int 0, .null, .null, .null]))) (by simp))
  have hlen : (ws_3.set qm (mo, .inr (8, [.int 0, .int 0, .ref q7, .int 0, .ref q14, .null, .int 0, .int 0, .int 0, .int 0, .int 0, .null, .null, .null]))).length = ws.length + 2 := (List.length_set ..).trans hlen
  have G4_0 := zset_eq (e' := (mo, .inr (8, [.int 0, .int 0, .ref q7, .int 0, .ref q14, .null, .int 0, .int 0, .int 0, .int 0, .int 0, .null, .null, .null]))) G3_0
  have G4_1 := zset_ne (q := qm) (e' := (mo, .inr (8, [.int 0, .int 0, .ref q7, .int 0, .ref q14, .null, .int 0, .int 0, .int 0, .int 0, .int 0, .null, .null, .null]))) (by omega) G3_1
  have G4_2 := zset_ne (q := qm) (e' := (mo, .inr (8, [.int 0, .int 0, .ref q7, .int 0, .ref q14, .null, .int 0, .int 0, .int 0, .int 0, .int 0, .null, .null, .null]))) (by omega) G3_n
  generalize hws4 : (ws_3.set qm (mo, .inr (8, [.int 0, .int 0, .ref q7, .int 0, .ref q14, .null, .int 0, .int 0, .int 0, .int 0, .int 0, .null, .null, .null]))) = ws_4 at J hlen hk G4_0 G4_1 G4_2
  refine lv_aload_n hx hb dX7_init_19 rfl (lv_at hl 0 rfl) ?_
  refine lv_iconst (v := 4) hx hb dX7_init_20 (by decide) ?_
  refine z_newa (N' := 4) X J (by decide +kernel) (by decide) (by decide) (Nat.le_of_ble_eq_true rfl) (Nat.le_of_ble_eq_true rfl) (Nat.le_of_ble_eq_true rfl) dX7_init_21 (fun q21 H J => ?_)
  have lp5 := hk.1
  have hk := hk.trans (zK.app (more := [(q21, zI4 E 4 (fun _ => 0))]))
  have hpn5 := hlen
  have hlen : (ws_4 ++ [(q21, zI4 E 4 (fun _ => 0))]).length = ws.length + 3 := by rw [List.length_append, hlen]; rfl
  have bG5_0 := zlt G4_0
  have G5_0 := zapp (x := (q21, zI4 E 4 (fun _ => 0))) G4_0
  have bG5_1 := zlt G4_1
  have G5_1 := zapp (x := (q21, zI4 E 4 (fun _ => 0))) G4_1
  have bG5_2 := zlt G4_2
  have G5_2 := zapp (x := (q21, zI4 E 4 (fun _ => 0))) G4_2
  have G5_n := zapp_new (ws := ws_4) (x := (q21, zI4 E 4 (fun _ => 0)))
  generalize hws5 : ws_4 ++ [(q21, zI4 E 4 (fun _ => 0))] = ws_5 at J hk hlen G5_0 G5_1 G5_2 G5_n
  rw [hpn5] at lp5 G5_n bG5_0 bG5_1 bG5_2
  refine z_putF (C := RX7) (T := TX7) (N := 14) (ci := 8) (v := .ref q21) X J hi_X7 tyX7 tyX7_ok nmX7 qm G5_0 rfl 5 (by decide) (by decide +kernel) rfl hin9 rfl rfl rfl (Nat.le_of_ble_eq_true rfl) dX7_init_23 (fun H locs J => ?_)
  have J : zJ E (ws_5.set qm (mo, .inr (8, [.int 0, .int 0, .ref q7, .int 0, .ref q14, .ref q21, .int 0, .int 0, .int 0, .int 0, .int 0, .null, .null, .null]))) s H locs := J
  have hk := hk.trans (zK.set (ws := ws_5) (q := qm) (e := (mo, .inr (8, [.int 0, .int 0, .ref q7, .int 0, .ref q14, .ref q21, .int 0, .int 0, .int 0, .int 0, .int 0, .null, .null, .null]))) (by simp))
  have hlen : (ws_5.set qm (mo, .inr (8, [.int 0, .int 0, .ref q7, .int 0, .ref q14, .ref q21, .int 0, .int 0, .int 0, .int 0, .int 0, .null, .null, .null]))).length = ws.length + 3 := (List.length_set ..).trans hlen
  have G6_0 := zset_eq (e' := (mo, .inr (8, [.int 0, .int 0, .ref q7, .int 0, .ref q14, .ref q21, .int 0, .int 0, .int 0, .int 0, .int 0, .null, .null, .null]))) G5_0
  have G6_1 := zset_ne (q := qm) (e' := (mo, .inr (8, [.int 0, .int 0, .ref q7, .int 0, .ref q14, .ref q21, .int 0, .int 0, .int 0, .int 0, .int 0, .null, .null, .null]))) (by omega) G5_1
  have G6_2 := zset_ne (q := qm) (e' := (mo, .inr (8, [.int 0, .int 0, .ref q7, .int 0, .ref q14, .ref q21, .int 0, .int 0, .int 0, .int 0, .int 0, .null, .null, .null]))) (by omega) G5_2
  have G6_3 := zset_ne (q := qm) (e' := (mo, .inr (8, [.int 0, .int 0, .ref q7, .int 0, .ref q14, .ref q21, .int 0, .int 0, .int 0, .int 0, .int 0, .null, .null, .null]))) (by omega) G5_n
  generalize hws6 : (ws_5.set qm (mo, .inr (8, [.int 0, .int 0, .ref q7, .int 0, .ref q14, .ref q21, .int 0, .int 0, .int 0, .int 0, .int 0, .null, .null, .null]))) = ws_6 at J hlen hk G6_0 G6_1 G6_2 G6_3
  refine lv_aload_n hx hb dX7_init_26 rfl (lv_at hl 0 rfl) ?_
  refine lv_bipush (v := 15) hx hb dX7_init_27 (by decide) ?_
  refine z_put (C := RX7) (T := TX7) (N := 14) (ci := 8) (v := .int 15) X J hi_X7 tyX7 tyX7_ok nmX7 qm G6_0 rfl 6 (by decide) (by decide +kernel) rfl rfl rfl (Nat.le_of_ble_eq_true rfl) dX7_init_29 (fun H locs J => ?_)
  have J : zJ E (ws_6.set qm (mo, .inr (8, [.int 0, .int 0, .ref q7, .int 0, .ref q14, .ref q21, .int 15, .int 0, .int 0, .int 0, .int 0, .null, .null, .null]))) s H locs := J
  have hk := hk.trans (zK.set (ws := ws_6) (q := qm) (e := (mo, .inr (8, [.int 0, .int 0, .ref q7, .int 0, .ref q14, .ref q21, .int 15, .int 0, .int 0, .int 0, .int 0, .null, .null, .null]))) (by simp))
  have hlen : (ws_6.set qm (mo, .inr (8, [.int 0, .int 0, .ref q7, .int 0, .ref q14, .ref q21, .int 15, .int 0, .int 0, .int 0, .int 0, .null, .null, .null]))).length = ws.length + 3 := (List.length_set ..).trans hlen
  have G7_0 := zset_eq (e' := (mo, .inr (8, [.int 0, .int 0, .ref q7, .int 0, .ref q14, .ref q21, .int 15, .int 0, .int 0, .int 0, .int 0, .null, .null, .null]))) G6_0
  have G7_1 := zset_ne (q := qm) (e' := (mo, .inr (8, [.int 0, .int 0, .ref q7, .int 0, .ref q14, .ref q21, .int 15, .int 0, .int 0, .int 0, .int 0, .null, .null, .null]))) (by omega) G6_1
  have G7_2 := zset_ne (q := qm) (e' := (mo, .inr (8, [.int 0, .int 0, .ref q7, .int 0, .ref q14, .ref q21, .int 15, .int 0, .int 0, .int 0, .int 0, .null, .null, .null]))) (by omega) G6_2
  have G7_3 := zset_ne (q := qm) (e' := (mo, .inr (8, [.int 0, .int 0, .ref q7, .int 0, .ref q14, .ref q21, .int 15, .int 0, .int 0, .int 0, .int 0, .null, .null, .null]))) (by omega) G6_3
  generalize hws7 : (ws_6.set qm (mo, .inr (8, [.int 0, .int 0, .ref q7, .int 0, .ref q14, .ref q21, .int 15, .int 0, .int 0, .int 0, .int 0, .null, .null, .null]))) = ws_7 at J hlen hk G7_0 G7_1 G7_2 G7_3
  refine lv_aload_n hx hb dX7_init_32 rfl (lv_at hl 0 rfl) ?_
  refine lv_sipush (v := 400) hx hb dX7_init_33 (by decide) ?_
  refine z_newa (N' := 400) X J (by decide +kernel) (by decide) (by decide) (Nat.le_of_ble_eq_true rfl) (Nat.le_of_ble_eq_true rfl) (Nat.le_of_ble_eq_true rfl) dX7_init_36 (fun q36 H J => ?_)
  have lp8 := hk.1
  have hk := hk.trans (zK.app (more := [(q36, zI4 E 400 (fun _ => 0))]))
  have hpn8 := hlen
  have hlen : (ws_7 ++ [(q36, zI4 E 400 (fun _ => 0))]).length = ws.length + 4 := by rw [List.length_append, hlen]; rfl
  have bG8_0 := zlt G7_0
  have G8_0 := zapp (x := (q36, zI4 E 400 (fun _ => 0))) G7_0
  have bG8_1 := zlt G7_1
  have G8_1 := zapp (x := (q36, zI4 E 400 (fun _ => 0))) G7_1
  have bG8_2 := zlt G7_2
  have G8_2 := zapp (x := (q36, zI4 E 400 (fun _ => 0))) G7_2
  have bG8_3 := zlt G7_3
  have G8_3 := zapp (x := (q36, zI4 E 400 (fun _ => 0))) G7_3
  have G8_n := zapp_new (ws := ws_7) (x := (q36, zI4 E 400 (fun _ => 0)))
  generalize hws8 : ws_7 ++ [(q36, zI4 E 400 (fun _ => 0))] = ws_8 at J hk hlen G8_0 G8_1 G8_2 G8_3 G8_n
  rw [hpn8] at lp8 G8_n bG8_0 bG8_1 bG8_2 bG8_3
  refine z_putF (C := RX7) (T := TX7) (N := 14) (ci := 8) (v := .ref q36) X J hi_X7 tyX7 tyX7_ok nmX7 qm G8_0 rfl 11 (by decide) (by decide +kernel) rfl hin9 rfl rfl rfl (Nat.le_of_ble_eq_true rfl) dX7_init_38 (fun H locs J => ?_)
  have J : zJ E (ws_8.set qm (mo, .inr (8, [.int 0, .int 0, .ref q7, .int 0, .ref q14, .ref q21, .int 15, .int 0, .int 0, .int 0, .int 0, .ref q36, .null, .null]))) s H locs := J
  have hk := hk.trans (zK.set (ws := ws_8) (q := qm) (e := (mo, .inr (8, [.int 0, .int 0, .ref q7, .int 0, .ref q14, .ref q21, .int 15, .int 0, .int 0, .int 0, .int 0, .ref q36, .null, .null]))) (by simp))
  have hlen : (ws_8.set qm (mo, .inr (8, [.int 0, .int 0, .ref q7, .int 0, .ref q14, .ref q21, .int 15, .int 0, .int 0, .int 0, .int 0, .ref q36, .null, .null]))).length = ws.length + 4 := (List.length_set ..).trans hlen
  have G9_0 := zset_eq (e' := (mo, .inr (8, [.int 0, .int 0, .ref q7, .int 0, .ref q14, .ref q21, .int 15, .int 0, .int 0, .int 0, .int 0, .ref q36, .null, .null]))) G8_0
  have G9_1 := zset_ne (q := qm) (e' := (mo, .inr (8, [.int 0, .int 0, .ref q7, .int 0, .ref q14, .ref q21, .int 15, .int 0, .int 0, .int 0, .int 0, .ref q36, .null, .null]))) (by omega) G8_1
  have G9_2 := zset_ne (q := qm) (e' := (mo, .inr (8, [.int 0, .int 0, .ref q7, .int 0, .ref q14, .ref q21, .int 15, .int 0, .int 0, .int 0, .int 0, .ref q36, .null, .null]))) (by omega) G8_2
  have G9_3 := zset_ne (q := qm) (e' := (mo, .inr (8, [.int 0, .int 0, .ref q7, .int 0, .ref q14, .ref q21, .int 15, .int 0, .int 0, .int 0, .int 0, .ref q36, .null, .null]))) (by omega) G8_3
  have G9_4 := zset_ne (q := qm) (e' := (mo, .inr (8, [.int 0, .int 0, .ref q7, .int 0, .ref q14, .ref q21, .int 15, .int 0, .int 0, .int 0, .int 0, .ref q36, .null, .null]))) (by omega) G8_n
  generalize hws9 : (ws_8.set qm (mo, .inr (8, [.int 0, .int 0, .ref q7, .int 0, .ref q14, .ref q21, .int 15, .int 0, .int 0, .int 0, .int 0, .ref q36, .null, .null]))) = ws_9 at J hlen hk G9_0 G9_1 G9_2 G9_3 G9_4
  refine lv_aload_n hx hb dX7_init_41 rfl (lv_at hl 0 rfl) ?_
  refine lv_sipush (v := 400) hx hb dX7_init_42 (by decide) ?_
  refine z_newa (N' := 400) X J (by decide +kernel) (by decide) (by decide) (Nat.le_of_ble_eq_true rfl) (Nat.le_of_ble_eq_true rfl) (Nat.le_of_ble_eq_true rfl) dX7_init_45 (fun q45 H J => ?_)
  have lp10 := hk.1
  have hk := hk.trans (zK.app (more := [(q45, zI4 E 400 (fun _ => 0))]))
  have hpn10 := hlen
  have hlen : (ws_9 ++ [(q45, zI4 E 400 (fun _ => 0))]).length = ws.length + 5 := by rw [List.length_append, hlen]; rfl
  have bG10_0 := zlt G9_0
  have G10_0 := zapp (x := (q45, zI4 E 400 (fun _ => 0))) G9_0
  have bG10_1 := zlt G9_1
  have G10_1 := zapp (x := (q45, zI4 E 400 (fun _ => 0))) G9_1
  have bG10_2 := zlt G9_2
  have G10_2 := zapp (x := (q45, zI4 E 400 (fun _ => 0))) G9_2
  have bG10_3 := zlt G9_3
  have G10_3 := zapp (x := (q45, zI4 E 400 (fun _ => 0))) G9_3
  have bG10_4 := zlt G9_4
  have G10_4 := zapp (x := (q45, zI4 E 400 (fun _ => 0))) G9_4
  have G10_n := zapp_new (ws := ws_9) (x := (q45, zI4 E 400 (fun _ => 0)))
  generalize hws10 : ws_9 ++ [(q45, zI4 E 400 (fun _ => 0))] = ws_10 at J hk hlen G10_0 G10_1 G10_2 G10_3 G10_4 G10_n
  rw [hpn10] at lp10 G10_n bG10_0 bG10_1 bG10_2 bG10_3 bG10_4
  refine z_putF (C := RX7) (T := TX7) (N := 14) (ci := 8) (v := .ref q45) X J hi_X7 tyX7 tyX7_ok nmX7 qm G10_0 rfl 12 (by decide) (by decide +kernel) rfl hin9 rfl rfl rfl (Nat.le_of_ble_eq_true rfl) dX7_init_47 (fun H locs J => ?_)
  have J : zJ E (ws_10.set qm (mo, .inr (8, [.int 0, .int 0, .ref q7, .int 0, .ref q14, .ref q21, .int 15, .int 0, .int 0, .int 0, .int 0, .ref q36, .ref q45, .null]))) s H locs := J
  have hk := hk.trans (zK.set (ws := ws_10) (q := qm) (e := (mo, .inr (8, [.int 0, .int 0, .ref q7, .int 0, .ref q14, .ref q21, .int 15, .int 0, .int 0, .int 0, .int 0, .ref q36, .ref q45, .null]))) (by simp))
  have hlen : (ws_10.set qm (mo, .inr (8, [.int 0, .int 0, .ref q7, .int 0, .ref q14, .ref q21, .int 15, .int 0, .int 0, .int 0, .int 0, .ref q36, .ref q45, .null]))).length = ws.length + 5 := (List.length_set ..).trans hlen
  have G11_0 := zset_eq (e' := (mo, .inr (8, [.int 0, .int 0, .ref q7, .int 0, .ref q14, .ref q21, .int 15, .int 0, .int 0, .int 0, .int 0, .ref q36, .ref q45, .null]))) G10_0
  have G11_1 := zset_ne (q := qm) (e' := (mo, .inr (8, [.int 0, .int 0, .ref q7, .int 0, .ref q14, .ref q21, .int 15, .int 0, .int 0, .int 0, .int 0, .ref q36, .ref q45, .null]))) (by omega) G10_1
  have G11_2 := zset_ne (q := qm) (e' := (mo, .inr (8, [.int 0, .int 0, .ref q7, .int 0, .ref q14, .ref q21, .int 15, .int 0, .int 0, .int 0, .int 0, .ref q36, .ref q45, .null]))) (by omega) G10_2
  have G11_3 := zset_ne (q := qm) (e' := (mo, .inr (8, [.int 0, .int 0, .ref q7, .int 0, .ref q14, .ref q21, .int 15, .int 0, .int 0, .int 0, .int 0, .ref q36, .ref q45, .null]))) (by omega) G10_3
  have G11_4 := zset_ne (q := qm) (e' := (mo, .inr (8, [.int 0, .int 0, .ref q7, .int 0, .ref q14, .ref q21, .int 15, .int 0, .int 0, .int 0, .int 0, .ref q36, .ref q45, .null]))) (by omega) G10_4
  have G11_5 := zset_ne (q := qm) (e' := (mo, .inr (8, [.int 0, .int 0, .ref q7, .int 0, .ref q14, .ref q21, .int 15, .int 0, .int 0, .int 0, .int 0, .ref q36, .ref q45, .null]))) (by omega) G10_n
  generalize hws11 : (ws_10.set qm (mo, .inr (8, [.int 0, .int 0, .ref q7, .int 0, .ref q14, .ref q21, .int 15, .int 0, .int 0, .int 0, .int 0, .ref q36, .ref q45, .null]))) = ws_11 at J hlen hk G11_0 G11_1 G11_2 G11_3 G11_4 G11_5
  refine lv_aload_n hx hb dX7_init_50 rfl (lv_at hl 0 rfl) ?_
  refine lv_sipush (v := 400) hx hb dX7_init_51 (by decide) ?_
  refine z_newa (N' := 400) X J (by decide +kernel) (by decide) (by decide) (Nat.le_of_ble_eq_true rfl) (Nat.le_of_ble_eq_true rfl) (Nat.le_of_ble_eq_true rfl) dX7_init_54 (fun q54 H J => ?_)
  have lp12 := hk.1
  have hk := hk.trans (zK.app (more := [(q54, zI4 E 400 (fun _ => 0))]))
  have hpn12 := hlen
  have hlen : (ws_11 ++ [(q54, zI4 E 400 (fun _ => 0))]).length = ws.length + 6 := by rw [List.length_append, hlen]; rfl
  have bG12_0 := zlt G11_0
  have G12_0 := zapp (x := (q54, zI4 E 400 (fun _ => 0))) G11_0
  have bG12_1 := zlt G11_1
  have G12_1 := zapp (x := (q54, zI4 E 400 (fun _ => 0))) G11_1
  have bG12_2 := zlt G11_2
  have G12_2 := zapp (x := (q54, zI4 E 400 (fun _ => 0))) G11_2
  have bG12_3 := zlt G11_3
  have G12_3 := zapp (x := (q54, zI4 E 400 (fun _ => 0))) G11_3
  have bG12_4 := zlt G11_4
  have G12_4 := zapp (x := (q54, zI4 E 400 (fun _ => 0))) G11_4
  have bG12_5 := zlt G11_5
  have G12_5 := zapp (x := (q54, zI4 E 400 (fun _ => 0))) G11_5
  have G12_n := zapp_new (ws := ws_11) (x := (q54, zI4 E 400 (fun _ => 0)))
  generalize hws12 : ws_11 ++ [(q54, zI4 E 400 (fun _ => 0))] = ws_12 at J hk hlen G12_0 G12_1 G12_2 G12_3 G12_4 G12_5 G12_n
  rw [hpn12] at lp12 G12_n bG12_0 bG12_1 bG12_2 bG12_3 bG12_4 bG12_5
  refine z_putF (C := RX7) (T := TX7) (N := 14) (ci := 8) (v := .ref q54) X J hi_X7 tyX7 tyX7_ok nmX7 qm G12_0 rfl 13 (by decide) (by decide +kernel) rfl hin9 rfl rfl rfl (Nat.le_of_ble_eq_true rfl) dX7_init_56 (fun H locs J => ?_)
  have J : zJ E (ws_12.set qm (mo, .inr (8, [.int 0, .int 0, .ref q7, .int 0, .ref q14, .ref q21, .int 15, .int 0, .int 0, .int 0, .int 0, .ref q36, .ref q45, .ref q54]))) s H locs := J
  have hk := hk.trans (zK.set (ws := ws_12) (q := qm) (e := (mo, .inr (8, [.int 0, .int 0, .ref q7, .int 0, .ref q14, .ref q21, .int 15, .int 0, .int 0, .int 0, .int 0, .ref q36, .ref q45, .ref q54]))) (by simp))
  have hlen : (ws_12.set qm (mo, .inr (8, [.int 0, .int 0, .ref q7, .int 0, .ref q14, .ref q21, .int 15, .int 0, .int 0, .int 0, .int 0, .ref q36, .ref q45, .ref q54]))).length = ws.length + 6 := (List.length_set ..).trans hlen
  have G13_0 := zset_eq (e' := (mo, .inr (8, [.int 0, .int 0, .ref q7, .int 0, .ref q14, .ref q21, .int 15, .int 0, .int 0, .int 0, .int 0, .ref q36, .ref q45, .ref q54]))) G12_0
  have G13_1 := zset_ne (q := qm) (e' := (mo, .inr (8, [.int 0, .int 0, .ref q7, .int 0, .ref q14, .ref q21, .int 15, .int 0, .int 0, .int 0, .int 0, .ref q36, .ref q45, .ref q54]))) (by omega) G12_1
  have G13_2 := zset_ne (q := qm) (e' := (mo, .inr (8, [.int 0, .int 0, .ref q7, .int 0, .ref q14, .ref q21, .int 15, .int 0, .int 0, .int 0, .int 0, .ref q36, .ref q45, .ref q54]))) (by omega) G12_2
  have G13_3 := zset_ne (q := qm) (e' := (mo, .inr (8, [.int 0, .int 0, .ref q7, .int 0, .ref q14, .ref q21, .int 15, .int 0, .int 0, .int 0, .int 0, .ref q36, .ref q45, .ref q54]))) (by omega) G12_3
  have G13_4 := zset_ne (q := qm) (e' := (mo, .inr (8, [.int 0, .int 0, .ref q7, .int 0, .ref q14, .ref q21, .int 15, .int 0, .int 0, .int 0, .int 0, .ref q36, .ref q45, .ref q54]))) (by omega) G12_4
  have G13_5 := zset_ne (q := qm) (e' := (mo, .inr (8, [.int 0, .int 0, .ref q7, .int 0, .ref q14, .ref q21, .int 15, .int 0, .int 0, .int 0, .int 0, .ref q36, .ref q45, .ref q54]))) (by omega) G12_5
  have G13_6 := zset_ne (q := qm) (e' := (mo, .inr (8, [.int 0, .int 0, .ref q7, .int 0, .ref q14, .ref q21, .int 15, .int 0, .int 0, .int 0, .int 0, .ref q36, .ref q45, .ref q54]))) (by omega) G12_n
  generalize hws13 : (ws_12.set qm (mo, .inr (8, [.int 0, .int 0, .ref q7, .int 0, .ref q14, .ref q21, .int 15, .int 0, .int 0, .int 0, .int 0, .ref q36, .ref q45, .ref q54]))) = ws_13 at J hlen hk G13_0 G13_1 G13_2 G13_3 G13_4 G13_5 G13_6
  subst hQ
  exact W.vret hx hb hr (fun t ht hW => ⟨⟨ws_13, rfl, ⟨hk, ⟨q7, q14, q21, q36, q45, q54, hlen, G13_0, G13_1, G13_2, G13_3, G13_4, G13_5, G13_6⟩⟩, J.I X ht hW.alike⟩, J.F ht⟩) J.locs dX7_init_59
