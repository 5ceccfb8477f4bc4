set_option maxHeartbeats 400000 in
set_option maxRecDepth 100000 in
theorem cJxa1e45_init_da8c8_ok (l : Launch) (E : zG) {ws : va_W} {qa al : Nat} (Fa0 : ws[qa]? = some (al, .inr (0, [.int 0, .null, .int 0])))  : Met l yJxa1e45_init_da8c8 wsJxa1e45_init_da8c8 ({ frames := 1, cells := 0, slots := 0, locals := 12 } : Room) (va_Pc [.ref al] (zI E ws)) (va_Qv (fun (ws' : va_W) => (zK [qa] ws ws') ∧ (ws'.length = ws.length) ∧ (ws'[qa]? = some (al, .inr (0, [.int 0, .null, .int 0])))) (zI E) (zA E)) 0 0 (zA E) := by
  refine Met.ofW (cc := cJxa1e45_init_da8c8) (maxL := 1) (ret := none) (by decide) rfl ?_
  intro p e s m args below meth c s₁ B hml hv
  obtain ⟨hargs9, hI⟩ := hv
  have hx := B.exec
  have hb := B.bytes
  have hr := B.returns
  have hlocks := B.notSynchronized
  have X : zC E p m c cJxa1e45_init_da8c8 1 s args wsJxa1e45_init_da8c8 RJxa1e45 := z_open B hml hI
  have hown := X.1.2.2.2.1
  have hts := X.1.2.2.2.2
  have J := hI.J
  have hk : zK [qa] ws ws := zK.rf
  have hlen : ws.length = ws.length + 0 := rfl
  have bFa0 := zlt Fa0
  have hl := lv_entry ([.ref al]) (n := 1) (Nat.le_of_ble_eq_true rfl)
  rw [show entryFrame m args 1 = entryFrame m ([.ref al] : List Value).toArray 1 from by rw [hargs9], lg_entry_eq]
  generalize (lg_sl ([.ref al]) ++ List.replicate (1 - (lg_sl ([.ref al])).length) Slot.unset).toArray = ls at hl ⊢
  have hl : lv_has ls 1 [(0, .ref al)] := hl
  generalize hQ : (MQ below (va_Qv (fun (ws' : va_W) => (zK [qa] ws ws') ∧ (ws'.length = ws.length) ∧ (ws'[qa]? = some (al, .inr (0, [.int 0, .null, .int 0])))) (zI E) (zA E)) args s 0 0 (zA E)) = QQ
  refine lv_aload_n hx hb dJxa1e45_init_da8c8_0 rfl (lv_at hl 0 rfl) ?_
  refine W.objInit hx hb hown (hts (.methodLink RJxa1e45 1 objectInit) (by decide +kernel)) (hts (.instanceMethod objectInit) (by decide +kernel)) (hts (.code objectInit ⟨#[0xb1]⟩ 1 none) (by decide +kernel)) rfl (by rw [X.1.2.2.1]; exact hl.1) rfl dJxa1e45_init_da8c8_1 (Nat.le_of_ble_eq_true rfl) (Nat.le_of_ble_eq_true rfl) ?_
  refine W.eq (g2 := F0 m 4 ls []) rfl ?_
  subst hQ
  exact W.vret hx hb hr (fun t ht hW => ⟨⟨ws, rfl, ⟨hk, hlen, Fa0⟩, J.I X ht hW.alike⟩, J.F ht⟩) J.locs dJxa1e45_init_da8c8_4
set_option maxHeartbeats 400000 in
set_option maxRecDepth 100000 in
theorem cJxc12de_init_da8c8_ok (l : Launch) (E : zG) {ws : va_W} {qa al : Nat} (Fa0 : ws[qa]? = some (al, .inr (0, [.int 0, .null, .int 0])))  : Met l yJxc12de_init_da8c8 wsJxc12de_init_da8c8 ({ frames := 2, cells := 0, slots := 0, locals := 32 } : Room) (va_Pc [.ref al] (zI E ws)) (va_Qv (fun (ws' : va_W) => (zK [qa] ws ws') ∧ (ws'.length = ws.length) ∧ (ws'[qa]? = some (al, .inr (0, [.int 0, .null, .int 0])))) (zI E) (zA E)) 0 0 (zA E) := by
  refine Met.ofW (cc := cJxc12de_init_da8c8) (maxL := 1) (ret := none) (by decide) rfl ?_
  intro p e s m args below meth c s₁ B hml hv
  obtain ⟨hargs9, hI⟩ := hv
  have hx := B.exec
  have hb := B.bytes
  have hr := B.returns
  have hlocks := B.notSynchronized
  have X : zC E p m c cJxc12de_init_da8c8 1 s args wsJxc12de_init_da8c8 RJxc12de := z_open B hml hI
  have hown := X.1.2.2.2.1
  have hts := X.1.2.2.2.2
  have J := hI.J
  have hi_Jx4a65c : ∀ w ∈ wsJx4a65c0, w ∈ wsJxc12de_init_da8c8 := by decide +kernel
  have hk : zK [qa] ws ws := zK.rf
  have hlen : ws.length = ws.length + 0 := rfl
  have bFa0 := zlt Fa0
  have hl := lv_entry ([.ref al]) (n := 1) (Nat.le_of_ble_eq_true rfl)
  rw [show entryFrame m args 1 = entryFrame m ([.ref al] : List Value).toArray 1 from by rw [hargs9], lg_entry_eq]
  generalize (lg_sl ([.ref al]) ++ List.replicate (1 - (lg_sl ([.ref al])).length) Slot.unset).toArray = ls at hl ⊢
  have hl : lv_has ls 1 [(0, .ref al)] := hl
  generalize hQ : (MQ below (va_Qv (fun (ws' : va_W) => (zK [qa] ws ws') ∧ (ws'.length = ws.length) ∧ (ws'[qa]? = some (al, .inr (0, [.int 0, .null, .int 0])))) (zI E) (zA E)) args s 0 0 (zA E)) = QQ
  refine lv_aload_n hx hb dJxc12de_init_da8c8_0 rfl (lv_at hl 0 rfl) ?_
  refine z_cv J (z_rI (As := []) (rest := []) X J (cJxa1e45_init_da8c8_ok l E Fa0) (cwI 0 hts gJxc12de_init_da8c8_Jxa1e45_init_da8c8 rfl rfl rfl (hts (.initialized RJxa1e45) (by decide +kernel)) (hts (.methodLink RJxc12de 1 yJxa1e45_init_da8c8) (by decide +kernel)) (hts (.instanceMethod yJxa1e45_init_da8c8) (by decide +kernel)) rfl (by decide +kernel) ⟨Nat.le_of_ble_eq_true rfl, Nat.le_of_ble_eq_true rfl⟩) rfl hl.1 rfl (Nat.le_of_ble_eq_true rfl) dJxc12de_init_da8c8_1 ⟨Nat.le_of_ble_eq_true rfl, Nat.le_of_ble_eq_true rfl⟩) (fun ws_1 H locs hp9 J => ?_)
  obtain ⟨k1, hl9_1, G1_a0⟩ := hp9
  have hk := hk.trans (k1.mono (by intro q9 hq9; simp only [List.mem_cons, List.not_mem_nil, or_false] at hq9 ⊢; omega))
  have hlen : ws_1.length = ws.length + 0 := by rw [hl9_1, hlen]
  refine lv_aload_n hx hb dJxc12de_init_da8c8_4 rfl (lv_at hl 0 rfl) ?_
  refine lv_iconst (v := 0) hx hb dJxc12de_init_da8c8_5 (by decide) ?_
  refine z_put (C := RJx4a65c) (T := TJx4a65c) (N := 3) (ci := 0) (v := .int 0) X J hi_Jx4a65c tyJx4a65c tyJx4a65c_ok nmJx4a65c qa G1_a0 rfl 0 (by decide) (by decide +kernel) rfl rfl rfl (Nat.le_of_ble_eq_true rfl) dJxc12de_init_da8c8_6 (fun H locs J => ?_)
  have J : zJ E (ws_1.set qa (al, .inr (0, [.int 0, .null, .int 0]))) s H locs := J
  have hk := hk.trans (zK.set (ws := ws_1) (q := qa) (e := (al, .inr (0, [.int 0, .null, .int 0]))) (by simp))
  have hlen : (ws_1.set qa (al, .inr (0, [.int 0, .null, .int 0]))).length = ws.length + 0 := (List.length_set ..).trans hlen
  have G2_0 := zset_eq (e' := (al, .inr (0, [.int 0, .null, .int 0]))) G1_a0
  generalize hws2 : (ws_1.set qa (al, .inr (0, [.int 0, .null, .int 0]))) = ws_2 at J hlen hk G2_0
  subst hQ
  exact W.vret hx hb hr (fun t ht hW => ⟨⟨ws_2, rfl, ⟨hk, hlen, G2_0⟩, J.I X ht hW.alike⟩, J.F ht⟩) J.locs dJxc12de_init_da8c8_9
set_option maxHeartbeats 400000 in
set_option maxRecDepth 100000 in
theorem cJx4a65c_init_da8c8_ok (l : Launch) (E : zG) {ws : va_W} {qa al : Nat} (Fa0 : ws[qa]? = some (al, .inr (0, [.int 0, .null, .int 0])))  : Met l yJx4a65c_init_da8c8 wsJx4a65c_init_da8c8 ({ frames := 3, cells := 0, slots := 0, locals := 52 } : Room) (va_Pc [.ref al] (zI E ws)) (va_Qv (fun (ws' : va_W) => (zK [qa] ws ws') ∧ (ws'.length = ws.length) ∧ (ws'[qa]? = some (al, .inr (0, [.int 0, .ref E.2.2.1, .int 0])))) (zI E) (zA E)) 0 0 (zA E) := by
  refine Met.ofW (cc := cJx4a65c_init_da8c8) (maxL := 1) (ret := none) (by decide) rfl ?_
  intro p e s m args below meth c s₁ B hml hv
  obtain ⟨hargs9, hI⟩ := hv
  have hx := B.exec
  have hb := B.bytes
  have hr := B.returns
  have hlocks := B.notSynchronized
  have X : zC E p m c cJx4a65c_init_da8c8 1 s args wsJx4a65c_init_da8c8 RJx4a65c := z_open B hml hI
  have hown := X.1.2.2.2.1
  have hts := X.1.2.2.2.2
  have J := hI.J
  have hi_Jx4a65c : ∀ w ∈ wsJx4a65c0, w ∈ wsJx4a65c_init_da8c8 := by decide +kernel
  have hk : zK [qa] ws ws := zK.rf
  have hlen : ws.length = ws.length + 0 := rfl
  have bFa0 := zlt Fa0
  have hl := lv_entry ([.ref al]) (n := 1) (Nat.le_of_ble_eq_true rfl)
  rw [show entryFrame m args 1 = entryFrame m ([.ref al] : List Value).toArray 1 from by rw [hargs9], lg_entry_eq]
  generalize (lg_sl ([.ref al]) ++ List.replicate (1 - (lg_sl ([.ref al])).length) Slot.unset).toArray = ls at hl ⊢
  have hl : lv_has ls 1 [(0, .ref al)] := hl
  generalize hQ : (MQ below (va_Qv (fun (ws' : va_W) => (zK [qa] ws ws') ∧ (ws'.length = ws.length) ∧ (ws'[qa]? = some (al, .inr (0, [.int 0, .ref E.2.2.1, .int 0])))) (zI E) (zA E)) args s 0 0 (zA E)) = QQ
  refine lv_aload_n hx hb dJx4a65c_init_da8c8_0 rfl (lv_at hl 0 rfl) ?_
  refine z_cv J (z_rI (As := []) (rest := []) X J (cJxc12de_init_da8c8_ok l E Fa0) (cwI 0 hts gJx4a65c_init_da8c8_Jxc12de_init_da8c8 rfl rfl rfl (hts (.initialized RJxc12de) (by decide +kernel)) (hts (.methodLink RJx4a65c 1 yJxc12de_init_da8c8) (by decide +kernel)) (hts (.instanceMethod yJxc12de_init_da8c8) (by decide +kernel)) rfl (by decide +kernel) ⟨Nat.le_of_ble_eq_true rfl, Nat.le_of_ble_eq_true rfl⟩) rfl hl.1 rfl (Nat.le_of_ble_eq_true rfl) dJx4a65c_init_da8c8_1 ⟨Nat.le_of_ble_eq_true rfl, Nat.le_of_ble_eq_true rfl⟩) (fun ws_1 H locs hp9 J => ?_)
  obtain ⟨k1, hl9_1, G1_a0⟩ := hp9
  have hk := hk.trans (k1.mono (by intro q9 hq9; simp only [List.mem_cons, List.not_mem_nil, or_false] at hq9 ⊢; omega))
  have hlen : ws_1.length = ws.length + 0 := by rw [hl9_1, hlen]
  refine lv_aload_n hx hb dJx4a65c_init_da8c8_4 rfl (lv_at hl 0 rfl) ?_
  refine va_gets hx hb X.2.2.1.1 J.2.2 hown (hts (.fieldLink RJx4a65c 39 "java/util/ArrayList" "DEFAULTCAPACITY_EMPTY_ELEMENTDATA" "[Ljava/lang/Object;") (by decide +kernel)) (fun _ h9 => h9) dJx4a65c_init_da8c8_5 ?_
  refine z_put (C := RJx4a65c) (T := TJx4a65c) (N := 3) (ci := 0) (v := .ref E.2.2.1) X J hi_Jx4a65c tyJx4a65c tyJx4a65c_ok nmJx4a65c qa G1_a0 rfl 1 (by decide) (by decide +kernel) rfl rfl rfl (Nat.le_of_ble_eq_true rfl) dJx4a65c_init_da8c8_8 (fun H locs J => ?_)
  have J : zJ E (ws_1.set qa (al, .inr (0, [.int 0, .ref E.2.2.1, .int 0]))) s H locs := J
  have hk := hk.trans (zK.set (ws := ws_1) (q := qa) (e := (al, .inr (0, [.int 0, .ref E.2.2.1, .int 0]))) (by simp))
  have hlen : (ws_1.set qa (al, .inr (0, [.int 0, .ref E.2.2.1, .int 0]))).length = ws.length + 0 := (List.length_set ..).trans hlen
  have G2_0 := zset_eq (e' := (al, .inr (0, [.int 0, .ref E.2.2.1, .int 0]))) G1_a0
  generalize hws2 : (ws_1.set qa (al, .inr (0, [.int 0, .ref E.2.2.1, .int 0]))) = ws_2 at J hlen hk G2_0
  subst hQ
  exact W.vret hx hb hr (fun t ht hW => ⟨⟨ws_2, rfl, ⟨hk, hlen, G2_0⟩, J.I X ht hW.alike⟩, J.F ht⟩) J.locs dJx4a65c_init_da8c8_11
