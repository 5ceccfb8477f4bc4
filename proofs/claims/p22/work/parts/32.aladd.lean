set_option maxHeartbeats 400000 in
set_option maxRecDepth 100000 in
theorem cJx4a65c_add_72be8_ef_ok (l : Launch) (E : zG) {ws : va_W} {qa al : Nat} {mc9 : Int32} {qo fo sp : Nat} {co ro he ga : Int32} (Fa0 : ws[qa]? = some (al, .inr (0, [.int mc9, .ref E.2.2.1, .int 0]))) (Fa1 : ws[qo]? = some (fo, .inr (1, [.int co, .int ro, .ref sp, .int he, .int ga])))  : Met l yJx4a65c_add_72be8 wsJx4a65c_add_72be8 ({ frames := 3, cells := 1, slots := 10, locals := 57 } : Room) (va_Pc [.ref al, .ref fo, .ref E.2.2.1, .int 0] (zI E ws)) (va_Qv (fun (ws' : va_W) => (zK [qa] ws ws') ∧ (∃ nq : Nat, ws'.length = ws.length + 1 ∧ (ws'[qa]? = some (al, .inr (0, [.int mc9, .ref nq, .int 1]))) ∧ (ws'[(ws.length + 0)]? = some (nq, zO4 E 10 (va_up (fun _ => none) 0 (some fo)))))) (zI E) (zA E)) 1 10 (zA E) := by
  refine Met.ofW (cc := cJx4a65c_add_72be8) (maxL := 4) (ret := none) (by decide) rfl ?_
  intro p e s m args below meth c s₁ B hml hv
  obtain ⟨hargs9, hI⟩ := hv
  have hx := B.exec
  have hb := B.bytes
  have hr := B.returns
  have hlocks := B.notSynchronized
  have X : zC E p m c cJx4a65c_add_72be8 4 s args wsJx4a65c_add_72be8 RJx4a65c := z_open B hml hI
  have hown := X.1.2.2.2.1
  have hts := X.1.2.2.2.2
  have J := hI.J
  have hi_Jx4a65c : ∀ w ∈ wsJx4a65c0, w ∈ wsJx4a65c_add_72be8 := by decide +kernel
  have n0_1 : qa ≠ qo := zneK Fa0 Fa1 rfl
  have hk : zK [qa] ws ws := zK.rf
  have hlen : ws.length = ws.length + 0 := rfl
  have bFa0 := zlt Fa0
  have bFa1 := zlt Fa1
  have hl := lv_entry ([.ref al, .ref fo, .ref E.2.2.1, .int 0]) (n := 4) (Nat.le_of_ble_eq_true rfl)
  rw [show entryFrame m args 4 = entryFrame m ([.ref al, .ref fo, .ref E.2.2.1, .int 0] : List Value).toArray 4 from by rw [hargs9], lg_entry_eq]
  generalize (lg_sl ([.ref al, .ref fo, .ref E.2.2.1, .int 0]) ++ List.replicate (4 - (lg_sl ([.ref al, .ref fo, .ref E.2.2.1, .int 0])).length) Slot.unset).toArray = ls at hl ⊢
  have hl : lv_has ls 4 [(0, .ref al), (1, .ref fo), (2, .ref E.2.2.1), (3, .int 0)] := hl
  generalize hQ : (MQ below (va_Qv (fun (ws' : va_W) => (zK [qa] ws ws') ∧ (∃ nq : Nat, ws'.length = ws.length + 1 ∧ (ws'[qa]? = some (al, .inr (0, [.int mc9, .ref nq, .int 1]))) ∧ (ws'[(ws.length + 0)]? = some (nq, zO4 E 10 (va_up (fun _ => none) 0 (some fo)))))) (zI E) (zA E)) args s 1 10 (zA E)) = QQ
  refine lv_iload_n hx hb dJx4a65c_add_72be8_0 rfl (lv_at hl 3 rfl) ?_
  refine lv_aload_n hx hb dJx4a65c_add_72be8_1 rfl (lv_at hl 2 rfl) ?_
  refine va_tlen (v := 0) hx hb X.2.2.1.2.1 J.2.2 rfl dJx4a65c_add_72be8_2 ?_
  refine lv_icmp_ne (tgt := 11) hx hb dJx4a65c_add_72be8_3 (by decide) (fun cz3 => by exact absurd cz3 (by decide)) (fun cz3 => ?_)
  refine lv_aload_n hx hb dJx4a65c_add_72be8_6 rfl (lv_at hl 0 rfl) ?_
  refine z_cq J (z_rV (As := []) (rest := []) (ci := 0) (q0 := qa) X J (cJx4a65c_grow_d5877_ok l E Fa0) (cwV 0 hts gJx4a65c_add_72be8_Jx4a65c_grow_d5877 rfl rfl rfl (by decide +kernel) ⟨Nat.le_of_ble_eq_true rfl, Nat.le_of_ble_eq_true rfl⟩) Fa0 rfl rfl rfl hl.1 rfl (Nat.le_of_ble_eq_true rfl) dJx4a65c_add_72be8_7 ⟨Nat.le_of_ble_eq_true rfl, Nat.le_of_ble_eq_true rfl⟩) (fun r7 ws_1 H locs hp9 J => ?_)
  obtain ⟨k1, ⟨nq_1, hlen1, G1_a0, N1_0, e_r7⟩⟩ := hp9
  have hk := hk.trans (k1.mono (by intro q9 hq9; simp only [List.mem_cons, List.not_mem_nil, or_false] at hq9 ⊢; omega))
  have G1_1 := k1.2 qo _ (by simp only [List.mem_cons, List.not_mem_nil, or_false]; omega) Fa1
  rw [hlen, Nat.add_assoc] at N1_0
  have hlen : ws_1.length = ws.length + 1 := by rw [hlen1, hlen]
  subst e_r7
  refine W.eq (g2 := F0 m 10 ls [.ref nq_1]) rfl ?_
  refine lv_astore_n (lv' := [(2, .ref nq_1), (0, .ref al), (1, .ref fo), (3, .int 0)]) hx hb dJx4a65c_add_72be8_10 rfl hl (by decide) rfl (fun ls hl => ?_)
  refine lv_aload_n hx hb dJx4a65c_add_72be8_11 rfl (lv_at hl 0 rfl) ?_
  refine lv_iload_n hx hb dJx4a65c_add_72be8_12 rfl (lv_at hl 3 rfl) ?_
  refine lv_aload_n hx hb dJx4a65c_add_72be8_13 rfl (lv_at hl 2 rfl) ?_
  refine z_aast (r := (RX0, TX0, 5)) X J (ws.length + 0) qo 1 N1_0 G1_1 rfl X.2.2.1.2.2.2.2.2.1 (vp_in_nI (n := 0) (by decide) (by decide)) dJx4a65c_add_72be8_14 (fun H locs J => ?_)
  rw [show va_up (fun _ => none) (0 : Int32).toNatClampNeg (some fo) = va_up (fun _ => none) 0 (some fo) from (by rfl)] at J
  have hk := hk.setNew (q := (ws.length + 0)) (e := (nq_1, zO4 E 10 (va_up (fun _ => none) 0 (some fo)))) (by omega)
  have hlen : (ws_1.set (ws.length + 0) (nq_1, zO4 E 10 (va_up (fun _ => none) 0 (some fo)))).length = ws.length + 1 := (List.length_set ..).trans hlen
  have G2_0 := zset_ne (q := (ws.length + 0)) (e' := (nq_1, zO4 E 10 (va_up (fun _ => none) 0 (some fo)))) (by omega) G1_a0
  have G2_1 := zset_ne (q := (ws.length + 0)) (e' := (nq_1, zO4 E 10 (va_up (fun _ => none) 0 (some fo)))) (by omega) G1_1
  have G2_2 := zset_eq (e' := (nq_1, zO4 E 10 (va_up (fun _ => none) 0 (some fo)))) N1_0
  generalize hws2 : (ws_1.set (ws.length + 0) (nq_1, zO4 E 10 (va_up (fun _ => none) 0 (some fo)))) = ws_2 at J hlen hk G2_0 G2_1 G2_2
  refine lv_aload_n hx hb dJx4a65c_add_72be8_15 rfl (lv_at hl 1 rfl) ?_
  refine lv_iload_n hx hb dJx4a65c_add_72be8_16 rfl (lv_at hl 3 rfl) ?_
  refine lv_iconst (v := 1) hx hb dJx4a65c_add_72be8_17 (by decide) ?_
  refine lv_iadd hx hb dJx4a65c_add_72be8_18 ?_
  refine W.eq (g2 := F0 m 19 ls [.int 1, .ref al]) (congrArg (fun z9 : Int32 => F0 m 19 ls [.int z9, .ref al]) (show (0 + 1 : Int32) = 1 from (by decide))) ?_
  refine z_put (C := RJx4a65c) (T := TJx4a65c) (N := 3) (ci := 0) (v := .int 1) X J hi_Jx4a65c tyJx4a65c tyJx4a65c_ok nmJx4a65c qa G2_0 rfl 2 (by decide) (by decide +kernel) rfl rfl rfl (Nat.le_of_ble_eq_true rfl) dJx4a65c_add_72be8_19 (fun H locs J => ?_)
  have J : zJ E (ws_2.set qa (al, .inr (0, [.int mc9, .ref nq_1, .int 1]))) s H locs := J
  have hk := hk.trans (zK.set (ws := ws_2) (q := qa) (e := (al, .inr (0, [.int mc9, .ref nq_1, .int 1]))) (by simp))
  have hlen : (ws_2.set qa (al, .inr (0, [.int mc9, .ref nq_1, .int 1]))).length = ws.length + 1 := (List.length_set ..).trans hlen
  have G3_0 := zset_eq (e' := (al, .inr (0, [.int mc9, .ref nq_1, .int 1]))) G2_0
  have G3_1 := zset_ne (q := qa) (e' := (al, .inr (0, [.int mc9, .ref nq_1, .int 1]))) (by omega) G2_1
  have G3_2 := zset_ne (q := qa) (e' := (al, .inr (0, [.int mc9, .ref nq_1, .int 1]))) (by omega) G2_2
  generalize hws3 : (ws_2.set qa (al, .inr (0, [.int mc9, .ref nq_1, .int 1]))) = ws_3 at J hlen hk G3_0 G3_1 G3_2
  subst hQ
  exact W.vret hx hb hr (fun t ht hW => ⟨⟨ws_3, rfl, ⟨hk, ⟨nq_1, hlen, G3_0, G3_2⟩⟩, J.I X ht hW.alike⟩, J.F ht⟩) J.locs dJx4a65c_add_72be8_22
set_option maxHeartbeats 400000 in
set_option maxRecDepth 100000 in
theorem cJx4a65c_add_9ea2d_ef_ok (l : Launch) (E : zG) {ws : va_W} {qa al : Nat} {mc9 : Int32} {qo fo sp : Nat} {co ro he ga : Int32} (Fa0 : ws[qa]? = some (al, .inr (0, [.int mc9, .ref E.2.2.1, .int 0]))) (Fa1 : ws[qo]? = some (fo, .inr (1, [.int co, .int ro, .ref sp, .int he, .int ga])))  : Met l yJx4a65c_add_9ea2d wsJx4a65c_add_9ea2d ({ frames := 4, cells := 1, slots := 10, locals := 80 } : Room) (va_Pc [.ref al, .ref fo] (zI E ws)) (va_Qi (fun (r : Int32) (ws' : va_W) => (zK [qa] ws ws') ∧ (∃ nq : Nat, ws'.length = ws.length + 1 ∧ (ws'[qa]? = some (al, .inr (0, [.int (mc9 + 1), .ref nq, .int 1]))) ∧ (ws'[(ws.length + 0)]? = some (nq, zO4 E 10 (va_up (fun _ => none) 0 (some fo)))) ∧ (r = 1))) (zI E) (zA E)) 1 10 (zA E) := by
  refine Met.ofW (cc := cJx4a65c_add_9ea2d) (maxL := 2) (ret := (some .boolean)) (by decide) rfl ?_
  intro p e s m args below meth c s₁ B hml hv
  obtain ⟨hargs9, hI⟩ := hv
  have hx := B.exec
  have hb := B.bytes
  have hr := B.returns
  have hlocks := B.notSynchronized
  have X : zC E p m c cJx4a65c_add_9ea2d 2 s args wsJx4a65c_add_9ea2d RJx4a65c := z_open B hml hI
  have hown := X.1.2.2.2.1
  have hts := X.1.2.2.2.2
  have J := hI.J
  have hi_Jx4a65c : ∀ w ∈ wsJx4a65c0, w ∈ wsJx4a65c_add_9ea2d := by decide +kernel
  have n0_1 : qa ≠ qo := zneK Fa0 Fa1 rfl
  have hk : zK [qa] ws ws := zK.rf
  have hlen : ws.length = ws.length + 0 := rfl
  have bFa0 := zlt Fa0
  have bFa1 := zlt Fa1
  have hl := lv_entry ([.ref al, .ref fo]) (n := 2) (Nat.le_of_ble_eq_true rfl)
  rw [show entryFrame m args 2 = entryFrame m ([.ref al, .ref fo] : List Value).toArray 2 from by rw [hargs9], lg_entry_eq]
  generalize (lg_sl ([.ref al, .ref fo]) ++ List.replicate (2 - (lg_sl ([.ref al, .ref fo])).length) Slot.unset).toArray = ls at hl ⊢
  have hl : lv_has ls 2 [(0, .ref al), (1, .ref fo)] := hl
  generalize hQ : (MQ below (va_Qi (fun (r : Int32) (ws' : va_W) => (zK [qa] ws ws') ∧ (∃ nq : Nat, ws'.length = ws.length + 1 ∧ (ws'[qa]? = some (al, .inr (0, [.int (mc9 + 1), .ref nq, .int 1]))) ∧ (ws'[(ws.length + 0)]? = some (nq, zO4 E 10 (va_up (fun _ => none) 0 (some fo)))) ∧ (r = 1))) (zI E) (zA E)) args s 1 10 (zA E)) = QQ
  refine lv_aload_n hx hb dJx4a65c_add_9ea2d_0 rfl (lv_at hl 0 rfl) ?_
  refine lv_dup hx hb dJx4a65c_add_9ea2d_1 rfl ?_
  refine va_get (D := E.1) (ci := 0) (v := .int mc9) (C := RJx4a65c) (T := TJx4a65c) (N := 3) hx hb hts hi_Jx4a65c hown X.2.1 J.1 qa Fa0 rfl 0 (by decide) (hts (.fieldLink RJx4a65c 63 "java/util/ArrayList" "modCount" "I") (by decide +kernel)) (fun x h9 => u_same (hts (.sameField "java/util/ArrayList" "java/util/AbstractList" "modCount" "I") (by decide +kernel)) x h9) rfl dJx4a65c_add_9ea2d_2 ?_
  refine lv_iconst (v := 1) hx hb dJx4a65c_add_9ea2d_5 (by decide) ?_
  refine lv_iadd hx hb dJx4a65c_add_9ea2d_6 ?_
  refine va_put (D := E.1) (ci := 0) (v := .int (mc9 + 1)) (C := RJx4a65c) (T := TJx4a65c) (N := 3) hx hb hts hi_Jx4a65c tyJx4a65c tyJx4a65c_ok nmJx4a65c hown X.2.1 J.1 J.2.1 J.2.2 qa Fa0 rfl 0 (by decide) (hts (.fieldLink RJx4a65c 63 "java/util/ArrayList" "modCount" "I") (by decide +kernel)) (fun x h9 => u_same (hts (.sameField "java/util/ArrayList" "java/util/AbstractList" "modCount" "I") (by decide +kernel)) x h9) rfl (tyJx4a65c_ok 0 (by decide)) rfl rfl (Nat.le_of_ble_eq_true rfl) dJx4a65c_add_9ea2d_7 (fun H locs hP hD hS => ?_)
  have J : zJ E (ws.set qa (al, .inr (0, [.int (mc9 + 1), .ref E.2.2.1, .int 0]))) s H locs := ⟨hP, hD, hS⟩
  have hk := hk.trans (zK.set (ws := ws) (q := qa) (e := (al, .inr (0, [.int (mc9 + 1), .ref E.2.2.1, .int 0]))) (by simp))
  have hlen : (ws.set qa (al, .inr (0, [.int (mc9 + 1), .ref E.2.2.1, .int 0]))).length = ws.length + 0 := (List.length_set ..).trans hlen
  have G1_0 := zset_eq (e' := (al, .inr (0, [.int (mc9 + 1), .ref E.2.2.1, .int 0]))) Fa0
  have G1_1 := zset_ne (q := qa) (e' := (al, .inr (0, [.int (mc9 + 1), .ref E.2.2.1, .int 0]))) (by omega) Fa1
  generalize hws1 : (ws.set qa (al, .inr (0, [.int (mc9 + 1), .ref E.2.2.1, .int 0]))) = ws_1 at J hlen hk G1_0 G1_1
  refine lv_aload_n hx hb dJx4a65c_add_9ea2d_10 rfl (lv_at hl 0 rfl) ?_
  refine lv_aload_n hx hb dJx4a65c_add_9ea2d_11 rfl (lv_at hl 1 rfl) ?_
  refine lv_aload_n hx hb dJx4a65c_add_9ea2d_12 rfl (lv_at hl 0 rfl) ?_
  refine z_get (C := RJx4a65c) (T := TJx4a65c) (N := 3) (ci := 0) (v := .ref E.2.2.1) X J hi_Jx4a65c qa G1_0 rfl 1 (by decide) (by decide +kernel) rfl dJx4a65c_add_9ea2d_13 ?_
  refine lv_aload_n hx hb dJx4a65c_add_9ea2d_16 rfl (lv_at hl 0 rfl) ?_
  refine z_get (C := RJx4a65c) (T := TJx4a65c) (N := 3) (ci := 0) (v := .int 0) X J hi_Jx4a65c qa G1_0 rfl 2 (by decide) (by decide +kernel) rfl dJx4a65c_add_9ea2d_17 ?_
  refine z_cv J (z_rV (As := [.ref fo, .ref E.2.2.1, .int 0]) (rest := []) (ci := 0) (q0 := qa) X J (cJx4a65c_add_72be8_ef_ok l E G1_0 G1_1) (cwV 3 hts gJx4a65c_add_9ea2d_Jx4a65c_add_72be8 rfl rfl rfl (by decide +kernel) ⟨Nat.le_of_ble_eq_true rfl, Nat.le_of_ble_eq_true rfl⟩) G1_0 rfl rfl rfl hl.1 rfl (Nat.le_of_ble_eq_true rfl) dJx4a65c_add_9ea2d_20 ⟨Nat.le_of_ble_eq_true rfl, Nat.le_of_ble_eq_true rfl⟩) (fun ws_2 H locs hp9 J => ?_)
  obtain ⟨k2, ⟨nq_2, hlen2, G2_a0, N2_0⟩⟩ := hp9
  have hk := hk.trans (k2.mono (by intro q9 hq9; simp only [List.mem_cons, List.not_mem_nil, or_false] at hq9 ⊢; omega))
  have G2_1 := k2.2 qo _ (by simp only [List.mem_cons, List.not_mem_nil, or_false]; omega) G1_1
  rw [hlen, Nat.add_assoc] at N2_0
  have hlen : ws_2.length = ws.length + 1 := by rw [hlen2, hlen]
  refine lv_iconst (v := 1) hx hb dJx4a65c_add_9ea2d_23 (by decide) ?_
  subst hQ
  exact W.zret (v := 1) hx hb hr rfl (fun t ht hW => ⟨⟨1, ws_2, rfl, ⟨hk, ⟨nq_2, hlen, G2_a0, N2_0, rfl⟩⟩, J.I X ht hW.alike⟩, J.F ht⟩) J.locs dJx4a65c_add_9ea2d_24
set_option maxHeartbeats 400000 in
set_option maxRecDepth 100000 in
theorem cJx4a65c_add_72be8_nf_ok (l : Launch) (E : zG) {ws : va_W} {qa al ea qe n : Nat} {mc9 : Int32} {g : Nat → Option Nat} {qo fo sp : Nat} {co ro he ga : Int32} (Fa0 : ws[qa]? = some (al, .inr (0, [.int mc9, .ref ea, .int (nI n)]))) (Fa1 : ws[qe]? = some (ea, zO4 E 10 g)) (Fa2 : ws[qo]? = some (fo, .inr (1, [.int co, .int ro, .ref sp, .int he, .int ga]))) (hn9 : n < 10) : Met l yJx4a65c_add_72be8 wsJx4a65c_add_72be8 ({ frames := 0, cells := 0, slots := 0, locals := 0 } : Room) (va_Pc [.ref al, .ref fo, .ref ea, .int (nI n)] (zI E ws)) (va_Qv (fun (ws' : va_W) => (zK [qa, qe] ws ws') ∧ (ws'.length = ws.length) ∧ (ws'[qa]? = some (al, .inr (0, [.int mc9, .ref ea, .int (nI (n + 1))]))) ∧ (ws'[qe]? = some (ea, zO4 E 10 (va_up g n (some fo))))) (zI E) (zA E)) 0 0 (zA E) := by
  refine Met.ofW (cc := cJx4a65c_add_72be8) (maxL := 4) (ret := none) (by decide) rfl ?_
  intro p e s m args below meth c s₁ B hml hv
  obtain ⟨hargs9, hI⟩ := hv
  have hx := B.exec
  have hb := B.bytes
  have hr := B.returns
  have hlocks := B.notSynchronized
  have X : zC E p m c cJx4a65c_add_72be8 4 s args wsJx4a65c_add_72be8 RJx4a65c := z_open B hml hI
  have hown := X.1.2.2.2.1
  have hts := X.1.2.2.2.2
  have J := hI.J
  have hi_Jx4a65c : ∀ w ∈ wsJx4a65c0, w ∈ wsJx4a65c_add_72be8 := by decide +kernel
  have n0_1 : qa ≠ qe := zneK Fa0 Fa1 rfl
  have n0_2 : qa ≠ qo := zneK Fa0 Fa2 rfl
  have n1_2 : qe ≠ qo := zneK Fa1 Fa2 rfl
  have hk : zK [qa, qe] ws ws := zK.rf
  have hlen : ws.length = ws.length + 0 := rfl
  have bFa0 := zlt Fa0
  have bFa1 := zlt Fa1
  have bFa2 := zlt Fa2
  have hl := lv_entry ([.ref al, .ref fo, .ref ea, .int (nI n)]) (n := 4) (Nat.le_of_ble_eq_true rfl)
  rw [show entryFrame m args 4 = entryFrame m ([.ref al, .ref fo, .ref ea, .int (nI n)] : List Value).toArray 4 from by rw [hargs9], lg_entry_eq]
  generalize (lg_sl ([.ref al, .ref fo, .ref ea, .int (nI n)]) ++ List.replicate (4 - (lg_sl ([.ref al, .ref fo, .ref ea, .int (nI n)])).length) Slot.unset).toArray = ls at hl ⊢
  have hl : lv_has ls 4 [(0, .ref al), (1, .ref fo), (2, .ref ea), (3, .int (nI n))] := hl
  generalize hQ : (MQ below (va_Qv (fun (ws' : va_W) => (zK [qa, qe] ws ws') ∧ (ws'.length = ws.length) ∧ (ws'[qa]? = some (al, .inr (0, [.int mc9, .ref ea, .int (nI (n + 1))]))) ∧ (ws'[qe]? = some (ea, zO4 E 10 (va_up g n (some fo))))) (zI E) (zA E)) args s 0 0 (zA E)) = QQ
  refine lv_iload_n hx hb dJx4a65c_add_72be8_0 rfl (lv_at hl 3 rfl) ?_
  refine lv_aload_n hx hb dJx4a65c_add_72be8_1 rfl (lv_at hl 2 rfl) ?_
  refine z_alenO (v := 10) X J qe Fa1 rfl dJx4a65c_add_72be8_2 ?_
  refine lv_icmp_ne (tgt := 11) hx hb dJx4a65c_add_72be8_3 (by decide) (fun cz3 => ?_) (fun cz3 => by exact (nI_ge (b := 10) hn9 (by decide) (by rw [cz3]; exact Int32.le_refl _)).elim)
  refine lv_aload_n hx hb dJx4a65c_add_72be8_11 rfl (lv_at hl 2 rfl) ?_
  refine lv_iload_n hx hb dJx4a65c_add_72be8_12 rfl (lv_at hl 3 rfl) ?_
  refine lv_aload_n hx hb dJx4a65c_add_72be8_13 rfl (lv_at hl 1 rfl) ?_
  refine z_aast (r := (RX0, TX0, 5)) X J qe qo 1 Fa1 Fa2 rfl X.2.2.1.2.2.2.2.2.1 (vp_in_nI (by omega) (by decide)) dJx4a65c_add_72be8_14 (fun H locs J => ?_)
  rw [show va_up g (nI n).toNatClampNeg (some fo) = va_up g n (some fo) from (by rw [nI_clamp (by omega)])] at J
  have hk := hk.trans (zK.set (ws := ws) (q := qe) (e := (ea, zO4 E 10 (va_up g n (some fo)))) (by simp))
  have hlen : (ws.set qe (ea, zO4 E 10 (va_up g n (some fo)))).length = ws.length + 0 := (List.length_set ..).trans hlen
  have G1_0 := zset_ne (q := qe) (e' := (ea, zO4 E 10 (va_up g n (some fo)))) (by omega) Fa0
  have G1_1 := zset_eq (e' := (ea, zO4 E 10 (va_up g n (some fo)))) Fa1
  have G1_2 := zset_ne (q := qe) (e' := (ea, zO4 E 10 (va_up g n (some fo)))) (by omega) Fa2
  generalize hws1 : (ws.set qe (ea, zO4 E 10 (va_up g n (some fo)))) = ws_1 at J hlen hk G1_0 G1_1 G1_2
  refine lv_aload_n hx hb dJx4a65c_add_72be8_15 rfl (lv_at hl 0 rfl) ?_
  refine lv_iload_n hx hb dJx4a65c_add_72be8_16 rfl (lv_at hl 3 rfl) ?_
  refine lv_iconst (v := 1) hx hb dJx4a65c_add_72be8_17 (by decide) ?_
  refine lv_iadd hx hb dJx4a65c_add_72be8_18 ?_
  refine W.eq (g2 := F0 m 19 ls [.int (nI (n + 1)), .ref al]) (congrArg (fun z9 : Int32 => F0 m 19 ls [.int z9, .ref al]) (show ((nI n) + 1 : Int32) = nI (n + 1) from (nI_1 n))) ?_
  refine z_put (C := RJx4a65c) (T := TJx4a65c) (N := 3) (ci := 0) (v := .int (nI (n + 1))) X J hi_Jx4a65c tyJx4a65c tyJx4a65c_ok nmJx4a65c qa G1_0 rfl 2 (by decide) (by decide +kernel) rfl rfl rfl (Nat.le_of_ble_eq_true rfl) dJx4a65c_add_72be8_19 (fun H locs J => ?_)
  have J : zJ E (ws_1.set qa (al, .inr (0, [.int mc9, .ref ea, .int (nI (n + 1))]))) s H locs := J
  have hk := hk.trans (zK.set (ws := ws_1) (q := qa) (e := (al, .inr (0, [.int mc9, .ref ea, .int (nI (n + 1))]))) (by simp))
  have hlen : (ws_1.set qa (al, .inr (0, [.int mc9, .ref ea, .int (nI (n + 1))]))).length = ws.length + 0 := (List.length_set ..).trans hlen
  have G2_0 := zset_eq (e' := (al, .inr (0, [.int mc9, .ref ea, .int (nI (n + 1))]))) G1_0
  have G2_1 := zset_ne (q := qa) (e' := (al, .inr (0, [.int mc9, .ref ea, .int (nI (n + 1))]))) (by omega) G1_1
  have G2_2 := zset_ne (q := qa) (e' := (al, .inr (0, [.int mc9, .ref ea, .int (nI (n + 1))]))) (by omega) G1_2
  generalize hws2 : (ws_1.set qa (al, .inr (0, [.int mc9, .ref ea, .int (nI (n + 1))]))) = ws_2 at J hlen hk G2_0 G2_1 G2_2
  subst hQ
  exact W.vret hx hb hr (fun t ht hW => ⟨⟨ws_2, rfl, ⟨hk, hlen, G2_0, G2_1⟩, J.I X ht hW.alike⟩, J.F ht⟩) J.locs dJx4a65c_add_72be8_22
set_option maxHeartbeats 400000 in
set_option maxRecDepth 100000 in
theorem cJx4a65c_add_9ea2d_nf_ok (l : Launch) (E : zG) {ws : va_W} {qa al ea qe n : Nat} {mc9 : Int32} {g : Nat → Option Nat} {qo fo sp : Nat} {co ro he ga : Int32} (Fa0 : ws[qa]? = some (al, .inr (0, [.int mc9, .ref ea, .int (nI n)]))) (Fa1 : ws[qe]? = some (ea, zO4 E 10 g)) (Fa2 : ws[qo]? = some (fo, .inr (1, [.int co, .int ro, .ref sp, .int he, .int ga]))) (hn9 : n < 10) : Met l yJx4a65c_add_9ea2d wsJx4a65c_add_9ea2d ({ frames := 1, cells := 0, slots := 0, locals := 23 } : Room) (va_Pc [.ref al, .ref fo] (zI E ws)) (va_Qi (fun (r : Int32) (ws' : va_W) => (zK [qa, qe] ws ws') ∧ (ws'.length = ws.length) ∧ (ws'[qa]? = some (al, .inr (0, [.int (mc9 + 1), .ref ea, .int (nI (n + 1))]))) ∧ (ws'[qe]? = some (ea, zO4 E 10 (va_up g n (some fo)))) ∧ (r = 1)) (zI E) (zA E)) 0 0 (zA E) := by
  refine Met.ofW (cc := cJx4a65c_add_9ea2d) (maxL := 2) (ret := (some .boolean)) (by decide) rfl ?_
  intro p e s m args below meth c s₁ B hml hv
  obtain ⟨hargs9, hI⟩ := hv
  have hx := B.exec
  have hb := B.bytes
  have hr := B.returns
  have hlocks := B.notSynchronized
  have X : zC E p m c cJx4a65c_add_9ea2d 2 s args wsJx4a65c_add_9ea2d RJx4a65c := z_open B hml hI
  have hown := X.1.2.2.2.1
  have hts := X.1.2.2.2.2
  have J := hI.J
  have hi_Jx4a65c : ∀ w ∈ wsJx4a65c0, w ∈ wsJx4a65c_add_9ea2d := by decide +kernel
  have n0_1 : qa ≠ qe := zneK Fa0 Fa1 rfl
  have n0_2 : qa ≠ qo := zneK Fa0 Fa2 rfl
  have n1_2 : qe ≠ qo := zneK Fa1 Fa2 rfl
  have hk : zK [qa, qe] ws ws := zK.rf
  have hlen : ws.length = ws.length + 0 := rfl
  have bFa0 := zlt Fa0
  have bFa1 := zlt Fa1
  have bFa2 := zlt Fa2
  have hl := lv_entry ([.ref al, .ref fo]) (n := 2) (Nat.le_of_ble_eq_true rfl)
  rw [show entryFrame m args 2 = entryFrame m ([.ref al, .ref fo] : List Value).toArray 2 from by rw [hargs9], lg_entry_eq]
  generalize (lg_sl ([.ref al, .ref fo]) ++ List.replicate (2 - (lg_sl ([.ref al, .ref fo])).length) Slot.unset).toArray = ls at hl ⊢
  have hl : lv_has ls 2 [(0, .ref al), (1, .ref fo)] := hl
  generalize hQ : (MQ below (va_Qi (fun (r : Int32) (ws' : va_W) => (zK [qa, qe] ws ws') ∧ (ws'.length = ws.length) ∧ (ws'[qa]? = some (al, .inr (0, [.int (mc9 + 1), .ref ea, .int (nI (n + 1))]))) ∧ (ws'[qe]? = some (ea, zO4 E 10 (va_up g n (some fo)))) ∧ (r = 1)) (zI E) (zA E)) args s 0 0 (zA E)) = QQ
  refine lv_aload_n hx hb dJx4a65c_add_9ea2d_0 rfl (lv_at hl 0 rfl) ?_
  refine lv_dup hx hb dJx4a65c_add_9ea2d_1 rfl ?_
  refine va_get (D := E.1) (ci := 0) (v := .int mc9) (C := RJx4a65c) (T := TJx4a65c) (N := 3) hx hb hts hi_Jx4a65c hown X.2.1 J.1 qa Fa0 rfl 0 (by decide) (hts (.fieldLink RJx4a65c 63 "java/util/ArrayList" "modCount" "I") (by decide +kernel)) (fun x h9 => u_same (hts (.sameField "java/util/ArrayList" "java/util/AbstractList" "modCount" "I") (by decide +kernel)) x h9) rfl dJx4a65c_add_9ea2d_2 ?_
  refine lv_iconst (v := 1) hx hb dJx4a65c_add_9ea2d_5 (by decide) ?_
  refine lv_iadd hx hb dJx4a65c_add_9ea2d_6 ?_
  refine va_put (D := E.1) (ci := 0) (v := .int (mc9 + 1)) (C := RJx4a65c) (T := TJx4a65c) (N := 3) hx hb hts hi_Jx4a65c tyJx4a65c tyJx4a65c_ok nmJx4a65c hown X.2.1 J.1 J.2.1 J.2.2 qa Fa0 rfl 0 (by decide) (hts (.fieldLink RJx4a65c 63 "java/util/ArrayList" "modCount" "I") (by decide +kernel)) (fun x h9 => u_same (hts (.sameField "java/util/ArrayList" "java/util/AbstractList" "modCount" "I") (by decide +kernel)) x h9) rfl (tyJx4a65c_ok 0 (by decide)) rfl rfl (Nat.le_of_ble_eq_true rfl) dJx4a65c_add_9ea2d_7 (fun H locs hP hD hS => ?_)
  have J : zJ E (ws.set qa (al, .inr (0, [.int (mc9 + 1), .ref ea, .int (nI n)]))) s H locs := ⟨hP, hD, hS⟩
  have hk := hk.trans (zK.set (ws := ws) (q := qa) (e := (al, .inr (0, [.int (mc9 + 1), .ref ea, .int (nI n)]))) (by simp))
  have hlen : (ws.set qa (al, .inr (0, [.int (mc9 + 1), .ref ea, .int (nI n)]))).length = ws.length + 0 := (List.length_set ..).trans hlen
  have G1_0 := zset_eq (e' := (al, .inr (0, [.int (mc9 + 1), .ref ea, .int (nI n)]))) Fa0
  have G1_1 := zset_ne (q := qa) (e' := (al, .inr (0, [.int (mc9 + 1), .ref ea, .int (nI n)]))) (by omega) Fa1
  have G1_2 := zset_ne (q := qa) (e' := (al, .inr (0, [.int (mc9 + 1), .ref ea, .int (nI n)]))) (by omega) Fa2
  generalize hws1 : (ws.set qa (al, .inr (0, [.int (mc9 + 1), .ref ea, .int (nI n)]))) = ws_1 at J hlen hk G1_0 G1_1 G1_2
  refine lv_aload_n hx hb dJx4a65c_add_9ea2d_10 rfl (lv_at hl 0 rfl) ?_
  refine lv_aload_n hx hb dJx4a65c_add_9ea2d_11 rfl (lv_at hl 1 rfl) ?_
  refine lv_aload_n hx hb dJx4a65c_add_9ea2d_12 rfl (lv_at hl 0 rfl) ?_
  refine z_get (C := RJx4a65c) (T := TJx4a65c) (N := 3) (ci := 0) (v := .ref ea) X J hi_Jx4a65c qa G1_0 rfl 1 (by decide) (by decide +kernel) rfl dJx4a65c_add_9ea2d_13 ?_
  refine lv_aload_n hx hb dJx4a65c_add_9ea2d_16 rfl (lv_at hl 0 rfl) ?_
  refine z_get (C := RJx4a65c) (T := TJx4a65c) (N := 3) (ci := 0) (v := .int (nI n)) X J hi_Jx4a65c qa G1_0 rfl 2 (by decide) (by decide +kernel) rfl dJx4a65c_add_9ea2d_17 ?_
  refine z_cv J (z_rV (As := [.ref fo, .ref ea, .int (nI n)]) (rest := []) (ci := 0) (q0 := qa) X J (cJx4a65c_add_72be8_nf_ok l E G1_0 G1_1 G1_2 (by first | assumption | omega | decide)) (cwV 3 hts gJx4a65c_add_9ea2d_Jx4a65c_add_72be8 rfl rfl rfl (by decide +kernel) ⟨Nat.le_of_ble_eq_true rfl, Nat.le_of_ble_eq_true rfl⟩) G1_0 rfl rfl rfl hl.1 rfl (Nat.le_of_ble_eq_true rfl) dJx4a65c_add_9ea2d_20 ⟨Nat.le_of_ble_eq_true rfl, Nat.le_of_ble_eq_true rfl⟩) (fun ws_2 H locs hp9 J => ?_)
  obtain ⟨k2, hl9_2, G2_a0, G2_a1⟩ := hp9
  have hk := hk.trans (k2.mono (by intro q9 hq9; simp only [List.mem_cons, List.not_mem_nil, or_false] at hq9 ⊢; omega))
  have G2_2 := k2.2 qo _ (by simp only [List.mem_cons, List.not_mem_nil, or_false]; omega) G1_2
  have hlen : ws_2.length = ws.length + 0 := by rw [hl9_2, hlen]
  refine lv_iconst (v := 1) hx hb dJx4a65c_add_9ea2d_23 (by decide) ?_
  subst hQ
  exact W.zret (v := 1) hx hb hr rfl (fun t ht hW => ⟨⟨1, ws_2, rfl, ⟨hk, hlen, G2_a0, G2_a1, rfl⟩, J.I X ht hW.alike⟩, J.F ht⟩) J.locs dJx4a65c_add_9ea2d_24
set_option maxHeartbeats 400000 in
set_option maxRecDepth 100000 in
theorem cJx4a65c_add_72be8_er_ok (l : Launch) (E : zG) {ws : va_W} {qa al : Nat} {mc9 : Int32} {qo fo sp : Nat} {ix : Int32} (Fa0 : ws[qa]? = some (al, .inr (0, [.int mc9, .ref E.2.2.1, .int 0]))) (Fa1 : ws[qo]? = some (fo, .inr (3, [.int ix, .ref sp])))  : Met l yJx4a65c_add_72be8 wsJx4a65c_add_72be8 ({ frames := 3, cells := 1, slots := 10, locals := 57 } : Room) (va_Pc [.ref al, .ref fo, .ref E.2.2.1, .int 0] (zI E ws)) (va_Qv (fun (ws' : va_W) => (zK [qa] ws ws') ∧ (∃ nq : Nat, ws'.length = ws.length + 1 ∧ (ws'[qa]? = some (al, .inr (0, [.int mc9, .ref nq, .int 1]))) ∧ (ws'[(ws.length + 0)]? = some (nq, zO4 E 10 (va_up (fun _ => none) 0 (some fo)))))) (zI E) (zA E)) 1 10 (zA E) := by
  refine Met.ofW (cc := cJx4a65c_add_72be8) (maxL := 4) (ret := none) (by decide) rfl ?_
  intro p e s m args below meth c s₁ B hml hv
  obtain ⟨hargs9, hI⟩ := hv
  have hx := B.exec
  have hb := B.bytes
  have hr := B.returns
  have hlocks := B.notSynchronized
  have X : zC E p m c cJx4a65c_add_72be8 4 s args wsJx4a65c_add_72be8 RJx4a65c := z_open B hml hI
  have hown := X.1.2.2.2.1
  have hts := X.1.2.2.2.2
  have J := hI.J
  have hi_Jx4a65c : ∀ w ∈ wsJx4a65c0, w ∈ wsJx4a65c_add_72be8 := by decide +kernel
  have n0_1 : qa ≠ qo := zneK Fa0 Fa1 rfl
  have hk : zK [qa] ws ws := zK.rf
  have hlen : ws.length = ws.length + 0 := rfl
  have bFa0 := zlt Fa0
  have bFa1 := zlt Fa1
  have hl := lv_entry ([.ref al, .ref fo, .ref E.2.2.1, .int 0]) (n := 4) (Nat.le_of_ble_eq_true rfl)
  rw [show entryFrame m args 4 = entryFrame m ([.ref al, .ref fo, .ref E.2.2.1, .int 0] : List Value).toArray 4 from by rw [hargs9], lg_entry_eq]
  generalize (lg_sl ([.ref al, .ref fo, .ref E.2.2.1, .int 0]) ++ List.replicate (4 - (lg_sl ([.ref al, .ref fo, .ref E.2.2.1, .int 0])).length) Slot.unset).toArray = ls at hl ⊢
  have hl : lv_has ls 4 [(0, .ref al), (1, .ref fo), (2, .ref E.2.2.1), (3, .int 0)] := hl
  generalize hQ : (MQ below (va_Qv (fun (ws' : va_W) => (zK [qa] ws ws') ∧ (∃ nq : Nat, ws'.length = ws.length + 1 ∧ (ws'[qa]? = some (al, .inr (0, [.int mc9, .ref nq, .int 1]))) ∧ (ws'[(ws.length + 0)]? = some (nq, zO4 E 10 (va_up (fun _ => none) 0 (some fo)))))) (zI E) (zA E)) args s 1 10 (zA E)) = QQ
  refine lv_iload_n hx hb dJx4a65c_add_72be8_0 rfl (lv_at hl 3 rfl) ?_
  refine lv_aload_n hx hb dJx4a65c_add_72be8_1 rfl (lv_at hl 2 rfl) ?_
  refine va_tlen (v := 0) hx hb X.2.2.1.2.1 J.2.2 rfl dJx4a65c_add_72be8_2 ?_
  refine lv_icmp_ne (tgt := 11) hx hb dJx4a65c_add_72be8_3 (by decide) (fun cz3 => by exact absurd cz3 (by decide)) (fun cz3 => ?_)
  refine lv_aload_n hx hb dJx4a65c_add_72be8_6 rfl (lv_at hl 0 rfl) ?_
  refine z_cq J (z_rV (As := []) (rest := []) (ci := 0) (q0 := qa) X J (cJx4a65c_grow_d5877_ok l E Fa0) (cwV 0 hts gJx4a65c_add_72be8_Jx4a65c_grow_d5877 rfl rfl rfl (by decide +kernel) ⟨Nat.le_of_ble_eq_true rfl, Nat.le_of_ble_eq_true rfl⟩) Fa0 rfl rfl rfl hl.1 rfl (Nat.le_of_ble_eq_true rfl) dJx4a65c_add_72be8_7 ⟨Nat.le_of_ble_eq_true rfl, Nat.le_of_ble_eq_true rfl⟩) (fun r7 ws_1 H locs hp9 J => ?_)
  obtain ⟨k1, ⟨nq_1, hlen1, G1_a0, N1_0, e_r7⟩⟩ := hp9
  have hk := hk.trans (k1.mono (by intro q9 hq9; simp only [List.mem_cons, List.not_mem_nil, or_false] at hq9 ⊢; omega))
  have G1_1 := k1.2 qo _ (by simp only [List.mem_cons, List.not_mem_nil, or_false]; omega) Fa1
  rw [hlen, Nat.add_assoc] at N1_0
  have hlen : ws_1.length = ws.length + 1 := by rw [hlen1, hlen]
  subst e_r7
  refine W.eq (g2 := F0 m 10 ls [.ref nq_1]) rfl ?_
  refine lv_astore_n (lv' := [(2, .ref nq_1), (0, .ref al), (1, .ref fo), (3, .int 0)]) hx hb dJx4a65c_add_72be8_10 rfl hl (by decide) rfl (fun ls hl => ?_)
  refine lv_aload_n hx hb dJx4a65c_add_72be8_11 rfl (lv_at hl 0 rfl) ?_
  refine lv_iload_n hx hb dJx4a65c_add_72be8_12 rfl (lv_at hl 3 rfl) ?_
  refine lv_aload_n hx hb dJx4a65c_add_72be8_13 rfl (lv_at hl 2 rfl) ?_
  refine z_aast (r := (RX2, TX2, 2)) X J (ws.length + 0) qo 3 N1_0 G1_1 rfl X.2.2.1.2.2.2.2.2.2.1 (vp_in_nI (n := 0) (by decide) (by decide)) dJx4a65c_add_72be8_14 (fun H locs J => ?_)
  rw [show va_up (fun _ => none) (0 : Int32).toNatClampNeg (some fo) = va_up (fun _ => none) 0 (some fo) from (by rfl)] at J
  have hk := hk.setNew (q := (ws.length + 0)) (e := (nq_1, zO4 E 10 (va_up (fun _ => none) 0 (some fo)))) (by omega)
  have hlen : (ws_1.set (ws.length + 0) (nq_1, zO4 E 10 (va_up (fun _ => none) 0 (some fo)))).length = ws.length + 1 := (List.length_set ..).trans hlen
  have G2_0 := zset_ne (q := (ws.length + 0)) (e' := (nq_1, zO4 E 10 (va_up (fun _ => none) 0 (some fo)))) (by omega) G1_a0
  have G2_1 := zset_ne (q := (ws.length + 0)) (e' := (nq_1, zO4 E 10 (va_up (fun _ => none) 0 (some fo)))) (by omega) G1_1
  have G2_2 := zset_eq (e' := (nq_1, zO4 E 10 (va_up (fun _ => none) 0 (some fo)))) N1_0
  generalize hws2 : (ws_1.set (ws.length + 0) (nq_1, zO4 E 10 (va_up (fun _ => none) 0 (some fo)))) = ws_2 at J hlen hk G2_0 G2_1 G2_2
  refine lv_aload_n hx hb dJx4a65c_add_72be8_15 rfl (lv_at hl 1 rfl) ?_
  refine lv_iload_n hx hb dJx4a65c_add_72be8_16 rfl (lv_at hl 3 rfl) ?_
  refine lv_iconst (v := 1) hx hb dJx4a65c_add_72be8_17 (by decide) ?_
  refine lv_iadd hx hb dJx4a65c_add_72be8_18 ?_
  refine W.eq (g2 := F0 m 19 ls [.int 1, .ref al]) (congrArg (fun z9 : Int32 => F0 m 19 ls [.int z9, .ref al]) (show (0 + 1 : Int32) = 1 from (by decide))) ?_
  refine z_put (C := RJx4a65c) (T := TJx4a65c) (N := 3) (ci := 0) (v := .int 1) X J hi_Jx4a65c tyJx4a65c tyJx4a65c_ok nmJx4a65c qa G2_0 rfl 2 (by decide) (by decide +kernel) rfl rfl rfl (Nat.le_of_ble_eq_true rfl) dJx4a65c_add_72be8_19 (fun H locs J => ?_)
  have J : zJ E (ws_2.set qa (al, .inr (0, [.int mc9, .ref nq_1, .int 1]))) s H locs := J
  have hk := hk.trans (zK.set (ws := ws_2) (q := qa) (e := (al, .inr (0, [.int mc9, .ref nq_1, .int 1]))) (by simp))
  have hlen : (ws_2.set qa (al, .inr (0, [.int mc9, .ref nq_1, .int 1]))).length = ws.length + 1 := (List.length_set ..).trans hlen
  have G3_0 := zset_eq (e' := (al, .inr (0, [.int mc9, .ref nq_1, .int 1]))) G2_0
  have G3_1 := zset_ne (q := qa) (e' := (al, .inr (0, [.int mc9, .ref nq_1, .int 1]))) (by omega) G2_1
  have G3_2 := zset_ne (q := qa) (e' := (al, .inr (0, [.int mc9, .ref nq_1, .int 1]))) (by omega) G2_2
  generalize hws3 : (ws_2.set qa (al, .inr (0, [.int mc9, .ref nq_1, .int 1]))) = ws_3 at J hlen hk G3_0 G3_1 G3_2
  subst hQ
  exact W.vret hx hb hr (fun t ht hW => ⟨⟨ws_3, rfl, ⟨hk, ⟨nq_1, hlen, G3_0, G3_2⟩⟩, J.I X ht hW.alike⟩, J.F ht⟩) J.locs dJx4a65c_add_72be8_22
set_option maxHeartbeats 400000 in
set_option maxRecDepth 100000 in
theorem cJx4a65c_add_9ea2d_er_ok (l : Launch) (E : zG) {ws : va_W} {qa al : Nat} {mc9 : Int32} {qo fo sp : Nat} {ix : Int32} (Fa0 : ws[qa]? = some (al, .inr (0, [.int mc9, .ref E.2.2.1, .int 0]))) (Fa1 : ws[qo]? = some (fo, .inr (3, [.int ix, .ref sp])))  : Met l yJx4a65c_add_9ea2d wsJx4a65c_add_9ea2d ({ frames := 4, cells := 1, slots := 10, locals := 80 } : Room) (va_Pc [.ref al, .ref fo] (zI E ws)) (va_Qi (fun (r : Int32) (ws' : va_W) => (zK [qa] ws ws') ∧ (∃ nq : Nat, ws'.length = ws.length + 1 ∧ (ws'[qa]? = some (al, .inr (0, [.int (mc9 + 1), .ref nq, .int 1]))) ∧ (ws'[(ws.length + 0)]? = some (nq, zO4 E 10 (va_up (fun _ => none) 0 (some fo)))) ∧ (r = 1))) (zI E) (zA E)) 1 10 (zA E) := by
  refine Met.ofW (cc := cJx4a65c_add_9ea2d) (maxL := 2) (ret := (some .boolean)) (by decide) rfl ?_
  intro p e s m args below meth c s₁ B hml hv
  obtain ⟨hargs9, hI⟩ := hv
  have hx := B.exec
  have hb := B.bytes
  have hr := B.returns
  have hlocks := B.notSynchronized
  have X : zC E p m c cJx4a65c_add_9ea2d 2 s args wsJx4a65c_add_9ea2d RJx4a65c := z_open B hml hI
  have hown := X.1.2.2.2.1
  have hts := X.1.2.2.2.2
  have J := hI.J
  have hi_Jx4a65c : ∀ w ∈ wsJx4a65c0, w ∈ wsJx4a65c_add_9ea2d := by decide +kernel
  have n0_1 : qa ≠ qo := zneK Fa0 Fa1 rfl
  have hk : zK [qa] ws ws := zK.rf
  have hlen : ws.length = ws.length + 0 := rfl
  have bFa0 := zlt Fa0
  have bFa1 := zlt Fa1
  have hl := lv_entry ([.ref al, .ref fo]) (n := 2) (Nat.le_of_ble_eq_true rfl)
  rw [show entryFrame m args 2 = entryFrame m ([.ref al, .ref fo] : List Value).toArray 2 from by rw [hargs9], lg_entry_eq]
  generalize (lg_sl ([.ref al, .ref fo]) ++ List.replicate (2 - (lg_sl ([.ref al, .ref fo])).length) Slot.unset).toArray = ls at hl ⊢
  have hl : lv_has ls 2 [(0, .ref al), (1, .ref fo)] := hl
  generalize hQ : (MQ below (va_Qi (fun (r : Int32) (ws' : va_W) => (zK [qa] ws ws') ∧ (∃ nq : Nat, ws'.length = ws.length + 1 ∧ (ws'[qa]? = some (al, .inr (0, [.int (mc9 + 1), .ref nq, .int 1]))) ∧ (ws'[(ws.length + 0)]? = some (nq, zO4 E 10 (va_up (fun _ => none) 0 (some fo)))) ∧ (r = 1))) (zI E) (zA E)) args s 1 10 (zA E)) = QQ
  refine lv_aload_n hx hb dJx4a65c_add_9ea2d_0 rfl (lv_at hl 0 rfl) ?_
  refine lv_dup hx hb dJx4a65c_add_9ea2d_1 rfl ?_
  refine va_get (D := E.1) (ci := 0) (v := .int mc9) (C := RJx4a65c) (T := TJx4a65c) (N := 3) hx hb hts hi_Jx4a65c hown X.2.1 J.1 qa Fa0 rfl 0 (by decide) (hts (.fieldLink RJx4a65c 63 "java/util/ArrayList" "modCount" "I") (by decide +kernel)) (fun x h9 => u_same (hts (.sameField "java/util/ArrayList" "java/util/AbstractList" "modCount" "I") (by decide +kernel)) x h9) rfl dJx4a65c_add_9ea2d_2 ?_
  refine lv_iconst (v := 1) hx hb dJx4a65c_add_9ea2d_5 (by decide) ?_
  refine lv_iadd hx hb dJx4a65c_add_9ea2d_6 ?_
  refine va_put (D := E.1) (ci := 0) (v := .int (mc9 + 1)) (C := RJx4a65c) (T := TJx4a65c) (N := 3) hx hb hts hi_Jx4a65c tyJx4a65c tyJx4a65c_ok nmJx4a65c hown X.2.1 J.1 J.2.1 J.2.2 qa Fa0 rfl 0 (by decide) (hts (.fieldLink RJx4a65c 63 "java/util/ArrayList" "modCount" "I") (by decide +kernel)) (fun x h9 => u_same (hts (.sameField "java/util/ArrayList" "java/util/AbstractList" "modCount" "I") (by decide +kernel)) x h9) rfl (tyJx4a65c_ok 0 (by decide)) rfl rfl (Nat.le_of_ble_eq_true rfl) dJx4a65c_add_9ea2d_7 (fun H locs hP hD hS => ?_)
  have J : zJ E (ws.set qa (al, .inr (0, [.int (mc9 + 1), .ref E.2.2.1, .int 0]))) s H locs := ⟨hP, hD, hS⟩
  have hk := hk.trans (zK.set (ws := ws) (q := qa) (e := (al, .inr (0, [.int (mc9 + 1), .ref E.2.2.1, .int 0]))) (by simp))
  have hlen : (ws.set qa (al, .inr (0, [.int (mc9 + 1), .ref E.2.2.1, .int 0]))).length = ws.length + 0 := (List.length_set ..).trans hlen
  have G1_0 := zset_eq (e' := (al, .inr (0, [.int (mc9 + 1), .ref E.2.2.1, .int 0]))) Fa0
  have G1_1 := zset_ne (q := qa) (e' := (al, .inr (0, [.int (mc9 + 1), .ref E.2.2.1, .int 0]))) (by omega) Fa1
  generalize hws1 : (ws.set qa (al, .inr (0, [.int (mc9 + 1), .ref E.2.2.1, .int 0]))) = ws_1 at J hlen hk G1_0 G1_1
  refine lv_aload_n hx hb dJx4a65c_add_9ea2d_10 rfl (lv_at hl 0 rfl) ?_
  refine lv_aload_n hx hb dJx4a65c_add_9ea2d_11 rfl (lv_at hl 1 rfl) ?_
  refine lv_aload_n hx hb dJx4a65c_add_9ea2d_12 rfl (lv_at hl 0 rfl) ?_
  refine z_get (C := RJx4a65c) (T := TJx4a65c) (N := 3) (ci := 0) (v := .ref E.2.2.1) X J hi_Jx4a65c qa G1_0 rfl 1 (by decide) (by decide +kernel) rfl dJx4a65c_add_9ea2d_13 ?_
  refine lv_aload_n hx hb dJx4a65c_add_9ea2d_16 rfl (lv_at hl 0 rfl) ?_
  refine z_get (C := RJx4a65c) (T := TJx4a65c) (N := 3) (ci := 0) (v := .int 0) X J hi_Jx4a65c qa G1_0 rfl 2 (by decide) (by decide +kernel) rfl dJx4a65c_add_9ea2d_17 ?_
  refine z_cv J (z_rV (As := [.ref fo, .ref E.2.2.1, .int 0]) (rest := []) (ci := 0) (q0 := qa) X J (cJx4a65c_add_72be8_er_ok l E G1_0 G1_1) (cwV 3 hts gJx4a65c_add_9ea2d_Jx4a65c_add_72be8 rfl rfl rfl (by decide +kernel) ⟨Nat.le_of_ble_eq_true rfl, Nat.le_of_ble_eq_true rfl⟩) G1_0 rfl rfl rfl hl.1 rfl (Nat.le_of_ble_eq_true rfl) dJx4a65c_add_9ea2d_20 ⟨Nat.le_of_ble_eq_true rfl, Nat.le_of_ble_eq_true rfl⟩) (fun ws_2 H locs hp9 J => ?_)
  obtain ⟨k2, ⟨nq_2, hlen2, G2_a0, N2_0⟩⟩ := hp9
  have hk := hk.trans (k2.mono (by intro q9 hq9; simp only [List.mem_cons, List.not_mem_nil, or_false] at hq9 ⊢; omega))
  have G2_1 := k2.2 qo _ (by simp only [List.mem_cons, List.not_mem_nil, or_false]; omega) G1_1
  rw [hlen, Nat.add_assoc] at N2_0
  have hlen : ws_2.length = ws.length + 1 := by rw [hlen2, hlen]
  refine lv_iconst (v := 1) hx hb dJx4a65c_add_9ea2d_23 (by decide) ?_
  subst hQ
  exact W.zret (v := 1) hx hb hr rfl (fun t ht hW => ⟨⟨1, ws_2, rfl, ⟨hk, ⟨nq_2, hlen, G2_a0, N2_0, rfl⟩⟩, J.I X ht hW.alike⟩, J.F ht⟩) J.locs dJx4a65c_add_9ea2d_24
set_option maxHeartbeats 400000 in
set_option maxRecDepth 100000 in
theorem cJx4a65c_add_72be8_nr_ok (l : Launch) (E : zG) {ws : va_W} {qa al ea qe n : Nat} {mc9 : Int32} {g : Nat → Option Nat} {qo fo sp : Nat} {ix : Int32} (Fa0 : ws[qa]? = some (al, .inr (0, [.int mc9, .ref ea, .int (nI n)]))) (Fa1 : ws[qe]? = some (ea, zO4 E 10 g)) (Fa2 : ws[qo]? = some (fo, .inr (3, [.int ix, .ref sp]))) (hn9 : n < 10) : Met l yJx4a65c_add_72be8 wsJx4a65c_add_72be8 ({ frames := 0, cells := 0, slots := 0, locals := 0 } : Room) (va_Pc [.ref al, .ref fo, .ref ea, .int (nI n)] (zI E ws)) (va_Qv (fun (ws' : va_W) => (zK [qa, qe] ws ws') ∧ (ws'.length = ws.length) ∧ (ws'[qa]? = some (al, .inr (0, [.int mc9, .ref ea, .int (nI (n + 1))]))) ∧ (ws'[qe]? = some (ea, zO4 E 10 (va_up g n (some fo))))) (zI E) (zA E)) 0 0 (zA E) := by
  refine Met.ofW (cc := cJx4a65c_add_72be8) (maxL := 4) (ret := none) (by decide) rfl ?_
  intro p e s m args below meth c s₁ B hml hv
  obtain ⟨hargs9, hI⟩ := hv
  have hx := B.exec
  have hb := B.bytes
  have hr := B.returns
  have hlocks := B.notSynchronized
  have X : zC E p m c cJx4a65c_add_72be8 4 s args wsJx4a65c_add_72be8 RJx4a65c := z_open B hml hI
  have hown := X.1.2.2.2.1
  have hts := X.1.2.2.2.2
  have J := hI.J
  have hi_Jx4a65c : ∀ w ∈ wsJx4a65c0, w ∈ wsJx4a65c_add_72be8 := by decide +kernel
  have n0_1 : qa ≠ qe := zneK Fa0 Fa1 rfl
  have n0_2 : qa ≠ qo := zneK Fa0 Fa2 rfl
  have n1_2 : qe ≠ qo := zneK Fa1 Fa2 rfl
  have hk : zK [qa, qe] ws ws := zK.rf
  have hlen : ws.length = ws.length + 0 := rfl
  have bFa0 := zlt Fa0
  have bFa1 := zlt Fa1
  have bFa2 := zlt Fa2
  have hl := lv_entry ([.ref al, .ref fo, .ref ea, .int (nI n)]) (n := 4) (Nat.le_of_ble_eq_true rfl)
  rw [show entryFrame m args 4 = entryFrame m ([.ref al, .ref fo, .ref ea, .int (nI n)] : List Value).toArray 4 from by rw [hargs9], lg_entry_eq]
  generalize (lg_sl ([.ref al, .ref fo, .ref ea, .int (nI n)]) ++ List.replicate (4 - (lg_sl ([.ref al, .ref fo, .ref ea, .int (nI n)])).length) Slot.unset).toArray = ls at hl ⊢
  have hl : lv_has ls 4 [(0, .ref al), (1, .ref fo), (2, .ref ea), (3, .int (nI n))] := hl
  generalize hQ : (MQ below (va_Qv (fun (ws' : va_W) => (zK [qa, qe] ws ws') ∧ (ws'.length = ws.length) ∧ (ws'[qa]? = some (al, .inr (0, [.int mc9, .ref ea, .int (nI (n + 1))]))) ∧ (ws'[qe]? = some (ea, zO4 E 10 (va_up g n (some fo))))) (zI E) (zA E)) args s 0 0 (zA E)) = QQ
  refine lv_iload_n hx hb dJx4a65c_add_72be8_0 rfl (lv_at hl 3 rfl) ?_
  refine lv_aload_n hx hb dJx4a65c_add_72be8_1 rfl (lv_at hl 2 rfl) ?_
  refine z_alenO (v := 10) X J qe Fa1 rfl dJx4a65c_add_72be8_2 ?_
  refine lv_icmp_ne (tgt := 11) hx hb dJx4a65c_add_72be8_3 (by decide) (fun cz3 => ?_) (fun cz3 => by exact (nI_ge (b := 10) hn9 (by decide) (by rw [cz3]; exact Int32.le_refl _)).elim)
  refine lv_aload_n hx hb dJx4a65c_add_72be8_11 rfl (lv_at hl 2 rfl) ?_
  refine lv_iload_n hx hb dJx4a65c_add_72be8_12 rfl (lv_at hl 3 rfl) ?_
  refine lv_aload_n hx hb dJx4a65c_add_72be8_13 rfl (lv_at hl 1 rfl) ?_
  refine z_aast (r := (RX2, TX2, 2)) X J qe qo 3 Fa1 Fa2 rfl X.2.2.1.2.2.2.2.2.2.1 (vp_in_nI (by omega) (by decide)) dJx4a65c_add_72be8_14 (fun H locs J => ?_)
  rw [show va_up g (nI n).toNatClampNeg (some fo) = va_up g n (some fo) from (by rw [nI_clamp (by omega)])] at J
  have hk := hk.trans (zK.set (ws := ws) (q := qe) (e := (ea, zO4 E 10 (va_up g n (some fo)))) (by simp))
  have hlen : (ws.set qe (ea, zO4 E 10 (va_up g n (some fo)))).length = ws.length + 0 := (List.length_set ..).trans hlen
  have G1_0 := zset_ne (q := qe) (e' := (ea, zO4 E 10 (va_up g n (some fo)))) (by omega) Fa0
  have G1_1 := zset_eq (e' := (ea, zO4 E 10 (va_up g n (some fo)))) Fa1
  have G1_2 := zset_ne (q := qe) (e' := (ea, zO4 E 10 (va_up g n (some fo)))) (by omega) Fa2
  generalize hws1 : (ws.set qe (ea, zO4 E 10 (va_up g n (some fo)))) = ws_1 at J hlen hk G1_0 G1_1 G1_2
  refine lv_aload_n hx hb dJx4a65c_add_72be8_15 rfl (lv_at hl 0 rfl) ?_
  refine lv_iload_n hx hb dJx4a65c_add_72be8_16 rfl (lv_at hl 3 rfl) ?_
  refine lv_iconst (v := 1) hx hb dJx4a65c_add_72be8_17 (by decide) ?_
  refine lv_iadd hx hb dJx4a65c_add_72be8_18 ?_
  refine W.eq (g2 := F0 m 19 ls [.int (nI (n + 1)), .ref al]) (congrArg (fun z9 : Int32 => F0 m 19 ls [.int z9, .ref al]) (show ((nI n) + 1 : Int32) = nI (n + 1) from (nI_1 n))) ?_
  refine z_put (C := RJx4a65c) (T := TJx4a65c) (N := 3) (ci := 0) (v := .int (nI (n + 1))) X J hi_Jx4a65c tyJx4a65c tyJx4a65c_ok nmJx4a65c qa G1_0 rfl 2 (by decide) (by decide +kernel) rfl rfl rfl (Nat.le_of_ble_eq_true rfl) dJx4a65c_add_72be8_19 (fun H locs J => ?_)
  have J : zJ E (ws_1.set qa (al, .inr (0, [.int mc9, .ref ea, .int (nI (n + 1))]))) s H locs := J
  have hk := hk.trans (zK.set (ws := ws_1) (q := qa) (e := (al, .inr (0, [.int mc9, .ref ea, .int (nI (n + 1))]))) (by simp))
  have hlen : (ws_1.set qa (al, .inr (0, [.int mc9, .ref ea, .int (nI (n + 1))]))).length = ws.length + 0 := (List.length_set ..).trans hlen
  have G2_0 := zset_eq (e' := (al, .inr (0, [.int mc9, .ref ea, .int (nI (n + 1))]))) G1_0
  have G2_1 := zset_ne (q := qa) (e' := (al, .inr (0, [.int mc9, .ref ea, .int (nI (n + 1))]))) (by omega) G1_1
  have G2_2 := zset_ne (q := qa) (e' := (al, .inr (0, [.int mc9, .ref ea, .int (nI (n + 1))]))) (by omega) G1_2
  generalize hws2 : (ws_1.set qa (al, .inr (0, [.int mc9, .ref ea, .int (nI (n + 1))]))) = ws_2 at J hlen hk G2_0 G2_1 G2_2
  subst hQ
  exact W.vret hx hb hr (fun t ht hW => ⟨⟨ws_2, rfl, ⟨hk, hlen, G2_0, G2_1⟩, J.I X ht hW.alike⟩, J.F ht⟩) J.locs dJx4a65c_add_72be8_22
set_option maxHeartbeats 400000 in
set_option maxRecDepth 100000 in
theorem cJx4a65c_add_9ea2d_nr_ok (l : Launch) (E : zG) {ws : va_W} {qa al ea qe n : Nat} {mc9 : Int32} {g : Nat → Option Nat} {qo fo sp : Nat} {ix : Int32} (Fa0 : ws[qa]? = some (al, .inr (0, [.int mc9, .ref ea, .int (nI n)]))) (Fa1 : ws[qe]? = some (ea, zO4 E 10 g)) (Fa2 : ws[qo]? = some (fo, .inr (3, [.int ix, .ref sp]))) (hn9 : n < 10) : Met l yJx4a65c_add_9ea2d wsJx4a65c_add_9ea2d ({ frames := 1, cells := 0, slots := 0, locals := 23 } : Room) (va_Pc [.ref al, .ref fo] (zI E ws)) (va_Qi (fun (r : Int32) (ws' : va_W) => (zK [qa, qe] ws ws') ∧ (ws'.length = ws.length) ∧ (ws'[qa]? = some (al, .inr (0, [.int (mc9 + 1), .ref ea, .int (nI (n + 1))]))) ∧ (ws'[qe]? = some (ea, zO4 E 10 (va_up g n (some fo)))) ∧ (r = 1)) (zI E) (zA E)) 0 0 (zA E) := by
  refine Met.ofW (cc := cJx4a65c_add_9ea2d) (maxL := 2) (ret := (some .boolean)) (by decide) rfl ?_
  intro p e s m args below meth c s₁ B hml hv
  obtain ⟨hargs9, hI⟩ := hv
  have hx := B.exec
  have hb := B.bytes
  have hr := B.returns
  have hlocks := B.notSynchronized
  have X : zC E p m c cJx4a65c_add_9ea2d 2 s args wsJx4a65c_add_9ea2d RJx4a65c := z_open B hml hI
  have hown := X.1.2.2.2.1
  have hts := X.1.2.2.2.2
  have J := hI.J
  have hi_Jx4a65c : ∀ w ∈ wsJx4a65c0, w ∈ wsJx4a65c_add_9ea2d := by decide +kernel
  have n0_1 : qa ≠ qe := zneK Fa0 Fa1 rfl
  have n0_2 : qa ≠ qo := zneK Fa0 Fa2 rfl
  have n1_2 : qe ≠ qo := zneK Fa1 Fa2 rfl
  have hk : zK [qa, qe] ws ws := zK.rf
  have hlen : ws.length = ws.length + 0 := rfl
  have bFa0 := zlt Fa0
  have bFa1 := zlt Fa1
  have bFa2 := zlt Fa2
  have hl := lv_entry ([.ref al, .ref fo]) (n := 2) (Nat.le_of_ble_eq_true rfl)
  rw [show entryFrame m args 2 = entryFrame m ([.ref al, .ref fo] : List Value).toArray 2 from by rw [hargs9], lg_entry_eq]
  generalize (lg_sl ([.ref al, .ref fo]) ++ List.replicate (2 - (lg_sl ([.ref al, .ref fo])).length) Slot.unset).toArray = ls at hl ⊢
  have hl : lv_has ls 2 [(0, .ref al), (1, .ref fo)] := hl
  generalize hQ : (MQ below (va_Qi (fun (r : Int32) (ws' : va_W) => (zK [qa, qe] ws ws') ∧ (ws'.length = ws.length) ∧ (ws'[qa]? = some (al, .inr (0, [.int (mc9 + 1), .ref ea, .int (nI (n + 1))]))) ∧ (ws'[qe]? = some (ea, zO4 E 10 (va_up g n (some fo)))) ∧ (r = 1)) (zI E) (zA E)) args s 0 0 (zA E)) = QQ
  refine lv_aload_n hx hb dJx4a65c_add_9ea2d_0 rfl (lv_at hl 0 rfl) ?_
  refine lv_dup hx hb dJx4a65c_add_9ea2d_1 rfl ?_
  refine va_get (D := E.1) (ci := 0) (v := .int mc9) (C := RJx4a65c) (T := TJx4a65c) (N := 3) hx hb hts hi_Jx4a65c hown X.2.1 J.1 qa Fa0 rfl 0 (by decide) (hts (.fieldLink RJx4a65c 63 "java/util/ArrayList" "modCount" "I") (by decide +kernel)) (fun x h9 => u_same (hts (.sameField "java/util/ArrayList" "java/util/AbstractList" "modCount" "I") (by decide +kernel)) x h9) rfl dJx4a65c_add_9ea2d_2 ?_
  refine lv_iconst (v := 1) hx hb dJx4a65c_add_9ea2d_5 (by decide) ?_
  refine lv_iadd hx hb dJx4a65c_add_9ea2d_6 ?_
  refine va_put (D := E.1) (ci := 0) (v := .int (mc9 + 1)) (C := RJx4a65c) (T := TJx4a65c) (N := 3) hx hb hts hi_Jx4a65c tyJx4a65c tyJx4a65c_ok nmJx4a65c hown X.2.1 J.1 J.2.1 J.2.2 qa Fa0 rfl 0 (by decide) (hts (.fieldLink RJx4a65c 63 "java/util/ArrayList" "modCount" "I") (by decide +kernel)) (fun x h9 => u_same (hts (.sameField "java/util/ArrayList" "java/util/AbstractList" "modCount" "I") (by decide +kernel)) x h9) rfl (tyJx4a65c_ok 0 (by decide)) rfl rfl (Nat.le_of_ble_eq_true rfl) dJx4a65c_add_9ea2d_7 (fun H locs hP hD hS => ?_)
  have J : zJ E (ws.set qa (al, .inr (0, [.int (mc9 + 1), .ref ea, .int (nI n)]))) s H locs := ⟨hP, hD, hS⟩
  have hk := hk.trans (zK.set (ws := ws) (q := qa) (e := (al, .inr (0, [.int (mc9 + 1), .ref ea, .int (nI n)]))) (by simp))
  have hlen : (ws.set qa (al, .inr (0, [.int (mc9 + 1), .ref ea, .int (nI n)]))).length = ws.length + 0 := (List.length_set ..).trans hlen
  have G1_0 := zset_eq (e' := (al, .inr (0, [.int (mc9 + 1), .ref ea, .int (nI n)]))) Fa0
  have G1_1 := zset_ne (q := qa) (e' := (al, .inr (0, [.int (mc9 + 1), .ref ea, .int (nI n)]))) (by omega) Fa1
  have G1_2 := zset_ne (q := qa) (e' := (al, .inr (0, [.int (mc9 + 1), .ref ea, .int (nI n)]))) (by omega) Fa2
  generalize hws1 : (ws.set qa (al, .inr (0, [.int (mc9 + 1), .ref ea, .int (nI n)]))) = ws_1 at J hlen hk G1_0 G1_1 G1_2
  refine lv_aload_n hx hb dJx4a65c_add_9ea2d_10 rfl (lv_at hl 0 rfl) ?_
  refine lv_aload_n hx hb dJx4a65c_add_9ea2d_11 rfl (lv_at hl 1 rfl) ?_
  refine lv_aload_n hx hb dJx4a65c_add_9ea2d_12 rfl (lv_at hl 0 rfl) ?_
  refine z_get (C := RJx4a65c) (T := TJx4a65c) (N := 3) (ci := 0) (v := .ref ea) X J hi_Jx4a65c qa G1_0 rfl 1 (by decide) (by decide +kernel) rfl dJx4a65c_add_9ea2d_13 ?_
  refine lv_aload_n hx hb dJx4a65c_add_9ea2d_16 rfl (lv_at hl 0 rfl) ?_
  refine z_get (C := RJx4a65c) (T := TJx4a65c) (N := 3) (ci := 0) (v := .int (nI n)) X J hi_Jx4a65c qa G1_0 rfl 2 (by decide) (by decide +kernel) rfl dJx4a65c_add_9ea2d_17 ?_
  refine z_cv J (z_rV (As := [.ref fo, .ref ea, .int (nI n)]) (rest := []) (ci := 0) (q0 := qa) X J (cJx4a65c_add_72be8_nr_ok l E G1_0 G1_1 G1_2 (by first | assumption | omega | decide)) (cwV 3 hts gJx4a65c_add_9ea2d_Jx4a65c_add_72be8 rfl rfl rfl (by decide +kernel) ⟨Nat.le_of_ble_eq_true rfl, Nat.le_of_ble_eq_true rfl⟩) G1_0 rfl rfl rfl hl.1 rfl (Nat.le_of_ble_eq_true rfl) dJx4a65c_add_9ea2d_20 ⟨Nat.le_of_ble_eq_true rfl, Nat.le_of_ble_eq_true rfl⟩) (fun ws_2 H locs hp9 J => ?_)
  obtain ⟨k2, hl9_2, G2_a0, G2_a1⟩ := hp9
  have hk := hk.trans (k2.mono (by intro q9 hq9; simp only [List.mem_cons, List.not_mem_nil, or_false] at hq9 ⊢; omega))
  have G2_2 := k2.2 qo _ (by simp only [List.mem_cons, List.not_mem_nil, or_false]; omega) G1_2
  have hlen : ws_2.length = ws.length + 0 := by rw [hl9_2, hlen]
  refine lv_iconst (v := 1) hx hb dJx4a65c_add_9ea2d_23 (by decide) ?_
  subst hQ
  exact W.zret (v := 1) hx hb hr rfl (fun t ht hW => ⟨⟨1, ws_2, rfl, ⟨hk, hlen, G2_a0, G2_a1, rfl⟩, J.I X ht hW.alike⟩, J.F ht⟩) J.locs dJx4a65c_add_9ea2d_24
set_option maxHeartbeats 400000 in
set_option maxRecDepth 100000 in
theorem cJx4a65c_fastRemove_b59b0_ok (l : Launch) (E : zG) {ws : va_W} {qa al ea qe n : Nat} {mc9 : Int32} {g : Nat → Option Nat} {i : Nat} (Fa0 : ws[qa]? = some (al, .inr (0, [.int mc9, .ref ea, .int (nI n)]))) (Fa1 : ws[qe]? = some (ea, zO4 E 10 g)) (hi9 : i < n) (hn9 : n ≤ 10) (hel : ∀ k : Nat, k < n → ∃ (y qk : Nat) (vs : List Value), g k = some y ∧ ws[qk]? = some (y, .inr (1, vs))) : Met l yJx4a65c_fastRemove_b59b0 wsJx4a65c_fastRemove_b59b0 ({ frames := 1, cells := 0, slots := 0, locals := 60 } : Room) (va_Pc [.ref al, .ref ea, .int (nI i)] (zI E ws)) (va_Qv (fun (ws' : va_W) => (zK [qa, qe] ws ws') ∧ (∃ (g2 : Nat → Option Nat), (ws'[qa]? = some (al, .inr (0, [.int (mc9 + 1), .ref ea, .int (nI (n - 1))]))) ∧ (ws'[qe]? = some (ea, zO4 E 10 g2)) ∧ (∀ k : Nat, k < n - 1 → g2 k = if k < i then g k else g (k + 1)))) (zI E) (zA E)) 0 0 (zA E) := by
  refine Met.ofW (cc := cJx4a65c_fastRemove_b59b0) (maxL := 4) (ret := none) (by decide) rfl ?_
  intro p e s m args below meth c s₁ B hml hv
  obtain ⟨hargs9, hI⟩ := hv
  have hx := B.exec
  have hb := B.bytes
  have hr := B.returns
  have hlocks := B.notSynchronized
  have X : zC E p m c cJx4a65c_fastRemove_b59b0 4 s args wsJx4a65c_fastRemove_b59b0 RJx4a65c := z_open B hml hI
  have hown := X.1.2.2.2.1
  have hts := X.1.2.2.2.2
  have J := hI.J
  have hi_Jx4a65c : ∀ w ∈ wsJx4a65c0, w ∈ wsJx4a65c_fastRemove_b59b0 := by decide +kernel
  have n0_1 : qa ≠ qe := zneK Fa0 Fa1 rfl
  have hk : zK [qa, qe] ws ws := zK.rf
  have hl := lv_entry ([.ref al, .ref ea, .int (nI i)]) (n := 4) (Nat.le_of_ble_eq_true rfl)
  rw [show entryFrame m args 4 = entryFrame m ([.ref al, .ref ea, .int (nI i)] : List Value).toArray 4 from by rw [hargs9], lg_entry_eq]
  generalize (lg_sl ([.ref al, .ref ea, .int (nI i)]) ++ List.replicate (4 - (lg_sl ([.ref al, .ref ea, .int (nI i)])).length) Slot.unset).toArray = ls at hl ⊢
  have hl : lv_has ls 4 [(0, .ref al), (1, .ref ea), (2, .int (nI i))] := hl
  generalize hQ : (MQ below (va_Qv (fun (ws' : va_W) => (zK [qa, qe] ws ws') ∧ (∃ (g2 : Nat → Option Nat), (ws'[qa]? = some (al, .inr (0, [.int (mc9 + 1), .ref ea, .int (nI (n - 1))]))) ∧ (ws'[qe]? = some (ea, zO4 E 10 g2)) ∧ (∀ k : Nat, k < n - 1 → g2 k = if k < i then g k else g (k + 1)))) (zI E) (zA E)) args s 0 0 (zA E)) = QQ
  refine lv_aload_n hx hb dJx4a65c_fastRemove_b59b0_0 rfl (lv_at hl 0 rfl) ?_
  refine lv_dup hx hb dJx4a65c_fastRemove_b59b0_1 rfl ?_
  refine va_get (D := E.1) (ci := 0) (v := .int mc9) (C := RJx4a65c) (T := TJx4a65c) (N := 3) hx hb hts hi_Jx4a65c hown X.2.1 J.1 qa Fa0 rfl 0 (by decide) (hts (.fieldLink RJx4a65c 63 "java/util/ArrayList" "modCount" "I") (by decide +kernel)) (fun x h9 => u_same (hts (.sameField "java/util/ArrayList" "java/util/AbstractList" "modCount" "I") (by decide +kernel)) x h9) rfl dJx4a65c_fastRemove_b59b0_2 ?_
  refine lv_iconst (v := 1) hx hb dJx4a65c_fastRemove_b59b0_5 (by decide) ?_
  refine lv_iadd hx hb dJx4a65c_fastRemove_b59b0_6 ?_
  refine va_put (D := E.1) (ci := 0) (v := .int (mc9 + 1)) (C := RJx4a65c) (T := TJx4a65c) (N := 3) hx hb hts hi_Jx4a65c tyJx4a65c tyJx4a65c_ok nmJx4a65c hown X.2.1 J.1 J.2.1 J.2.2 qa Fa0 rfl 0 (by decide) (hts (.fieldLink RJx4a65c 63 "java/util/ArrayList" "modCount" "I") (by decide +kernel)) (fun x h9 => u_same (hts (.sameField "java/util/ArrayList" "java/util/AbstractList" "modCount" "I") (by decide +kernel)) x h9) rfl (tyJx4a65c_ok 0 (by decide)) rfl rfl (Nat.le_of_ble_eq_true rfl) dJx4a65c_fastRemove_b59b0_7 (fun H locs hP hD hS => ?_)
  have J : zJ E (ws.set qa (al, .inr (0, [.int (mc9 + 1), .ref ea, .int (nI n)]))) s H locs := ⟨hP, hD, hS⟩
  have hk := hk.trans (zK.set (ws := ws) (q := qa) (e := (al, .inr (0, [.int (mc9 + 1), .ref ea, .int (nI n)]))) (by simp))
  have G1_0 := zset_eq (e' := (al, .inr (0, [.int (mc9 + 1), .ref ea, .int (nI n)]))) Fa0
  have G1_1 := zset_ne (q := qa) (e' := (al, .inr (0, [.int (mc9 + 1), .ref ea, .int (nI n)]))) (by omega) Fa1
  generalize hws1 : (ws.set qa (al, .inr (0, [.int (mc9 + 1), .ref ea, .int (nI n)]))) = ws_1 at J hk G1_0 G1_1
  refine lv_aload_n hx hb dJx4a65c_fastRemove_b59b0_10 rfl (lv_at hl 0 rfl) ?_
  refine z_get (C := RJx4a65c) (T := TJx4a65c) (N := 3) (ci := 0) (v := .int (nI n)) X J hi_Jx4a65c qa G1_0 rfl 2 (by decide) (by decide +kernel) rfl dJx4a65c_fastRemove_b59b0_11 ?_
  refine lv_iconst (v := 1) hx hb dJx4a65c_fastRemove_b59b0_14 (by decide) ?_
  refine lv_isub hx hb dJx4a65c_fastRemove_b59b0_15 ?_
  refine W.eq (g2 := F0 m 16 ls [.int (nI (n - 1))]) (congrArg (fun z9 : Int32 => F0 m 16 ls [.int z9]) (show ((nI n) - 1 : Int32) = nI (n - 1) from (nI_sub1 (by omega)))) ?_
  refine lv_dup hx hb dJx4a65c_fastRemove_b59b0_16 rfl ?_
  refine lv_istore_n (lv' := [(3, .int (nI (n - 1))), (0, .ref al), (1, .ref ea), (2, .int (nI i))]) hx hb dJx4a65c_fastRemove_b59b0_17 rfl hl (by decide) rfl (fun ls hl => ?_)
  refine lv_iload_n hx hb dJx4a65c_fastRemove_b59b0_18 rfl (lv_at hl 3 rfl) ?_
  refine lv_icmp_le (tgt := 34) hx hb dJx4a65c_fastRemove_b59b0_19 (by decide) (fun cz19 => ?_) (fun cz19 => ?_)
  · have hc9 : n - 1 ≤ i := Nat.le_of_not_lt (fun q => absurd cz19 (Int32.not_le.mpr (nI_lt q (by omega))))
    refine lv_aload_n hx hb dJx4a65c_fastRemove_b59b0_34 rfl (lv_at hl 2 rfl) ?_
    refine lv_aload_n hx hb dJx4a65c_fastRemove_b59b0_35 rfl (lv_at hl 1 rfl) ?_
    refine lv_iload_n hx hb dJx4a65c_fastRemove_b59b0_36 rfl (lv_at hl 0 rfl) ?_
    refine lv_dup_x1 hx hb dJx4a65c_fastRemove_b59b0_37 rfl rfl ?_
    refine z_put (C := RJx4a65c) (T := TJx4a65c) (N := 3) (ci := 0) (v := .int (nI (n - 1))) X J hi_Jx4a65c tyJx4a65c tyJx4a65c_ok nmJx4a65c qa G1_0 rfl 2 (by decide) (by decide +kernel) rfl rfl rfl (Nat.le_of_ble_eq_true rfl) dJx4a65c_fastRemove_b59b0_38 (fun H locs J => ?_)
    have J : zJ E (ws_1.set qa (al, .inr (0, [.int (mc9 + 1), .ref ea, .int (nI (n - 1))]))) s H locs := J
    have hk := hk.trans (zK.set (ws := ws_1) (q := qa) (e := (al, .inr (0, [.int (mc9 + 1), .ref ea, .int (nI (n - 1))]))) (by simp))
    have G2_0 := zset_eq (e' := (al, .inr (0, [.int (mc9 + 1), .ref ea, .int (nI (n - 1))]))) G1_0
    have G2_1 := zset_ne (q := qa) (e' := (al, .inr (0, [.int (mc9 + 1), .ref ea, .int (nI (n - 1))]))) (by omega) G1_1
    generalize hws2 : (ws_1.set qa (al, .inr (0, [.int (mc9 + 1), .ref ea, .int (nI (n - 1))]))) = ws_2 at J hk G2_0 G2_1
    refine lv_null hx hb dJx4a65c_fastRemove_b59b0_41 ?_
    refine z_aastN X J qe G2_1 (vp_in_nI (by omega) (by decide)) dJx4a65c_fastRemove_b59b0_42 (fun H locs J => ?_)
    rw [show va_up g (nI (n - 1)).toNatClampNeg none = va_up g (n - 1) none from (by rw [nI_clamp (by omega)])] at J
    have hk := hk.trans (zK.set (ws := ws_2) (q := qe) (e := (ea, zO4 E 10 (va_up g (n - 1) none))) (by simp))
    have G3_0 := zset_ne (q := qe) (e' := (ea, zO4 E 10 (va_up g (n - 1) none))) (by omega) G2_0
    have G3_1 := zset_eq (e' := (ea, zO4 E 10 (va_up g (n - 1) none))) G2_1
    generalize hws3 : (ws_2.set qe (ea, zO4 E 10 (va_up g (n - 1) none))) = ws_3 at J hk G3_0 G3_1
    subst hQ
    exact W.vret hx hb hr (fun t ht hW => ⟨⟨ws_3, rfl, ⟨hk, ⟨va_up g (n - 1) none, G3_0, G3_1, (by exact rm_last hc9)⟩⟩, J.I X ht hW.alike⟩, J.F ht⟩) J.locs dJx4a65c_fastRemove_b59b0_43
  · have hc9 : i < n - 1 := Nat.lt_of_not_le (fun q => cz19 (nI_le q (by omega)))
    refine lv_aload_n hx hb dJx4a65c_fastRemove_b59b0_22 rfl (lv_at hl 2 rfl) ?_
    refine lv_iload_n hx hb dJx4a65c_fastRemove_b59b0_23 rfl (lv_at hl 3 rfl) ?_
    refine lv_iconst (v := 1) hx hb dJx4a65c_fastRemove_b59b0_24 (by decide) ?_
    refine lv_iadd hx hb dJx4a65c_fastRemove_b59b0_25 ?_
    refine W.eq (g2 := F0 m 26 ls [.int (nI (i + 1)), .ref ea]) (congrArg (fun z9 : Int32 => F0 m 26 ls [.int z9, .ref ea]) (show ((nI i) + 1 : Int32) = nI (i + 1) from (nI_1 i))) ?_
    refine lv_aload_n hx hb dJx4a65c_fastRemove_b59b0_26 rfl (lv_at hl 2 rfl) ?_
    refine lv_iload_n hx hb dJx4a65c_fastRemove_b59b0_27 rfl (lv_at hl 3 rfl) ?_
    refine lv_iload_n hx hb dJx4a65c_fastRemove_b59b0_28 rfl (lv_at hl 0 rfl) ?_
    refine lv_iload_n hx hb dJx4a65c_fastRemove_b59b0_29 rfl (lv_at hl 3 rfl) ?_
    refine lv_isub hx hb dJx4a65c_fastRemove_b59b0_30 ?_
    refine W.eq (g2 := F0 m 31 ls [.int (nI (n - 1 - i)), .int (nI i), .ref ea, .int (nI (i + 1)), .ref ea]) (congrArg (fun z9 : Int32 => F0 m 31 ls [.int z9, .int (nI i), .ref ea, .int (nI (i + 1)), .ref ea]) (show ((nI (n - 1)) - (nI i) : Int32) = nI (n - 1 - i) from (pk_sub (by omega)))) ?_
    refine z_copyq (r := (RX0, TX0, 5)) X J hl.1 (index := 112) (by decide +kernel) (by decide +kernel) (by decide +kernel) (by decide +kernel) qe qe 1 G1_1 G1_1 rfl X.2.2.1.2.2.2.2.2.1 (nI_pos (by omega)) (nI_pos (by omega)) (nI_pos (by omega)) (by rw [nI_clamp (by omega), nI_clamp (by omega)]; omega) (by rw [nI_clamp (by omega), nI_clamp (by omega)]; omega) (by intro k hk9; rw [nI_clamp (by omega)] at hk9; rw [nI_clamp (by omega)]; obtain ⟨y, qk, vs, w1, w2⟩ := hel (i + 1 + k) (by omega); exact ⟨y, qk, vs, w1, hk.2 qk _ (by simp only [List.mem_cons, List.not_mem_nil, or_false]; exact fun q9 => q9.elim (zneK w2 Fa0 rfl) (zneK w2 Fa1 rfl)) w2⟩) (Nat.le_of_ble_eq_true rfl) (Nat.le_of_ble_eq_true (by decide +kernel)) dJx4a65c_fastRemove_b59b0_31 (fun H locs J => ?_)
    rw [show va_cpy g g (nI (i + 1) : Int32).toNatClampNeg (nI i : Int32).toNatClampNeg (nI (n - 1 - i) : Int32).toNatClampNeg = va_cpy g g (i + 1) i (n - 1 - i) from (by rw [nI_clamp (by omega), nI_clamp (by omega), nI_clamp (by omega)])] at J
    have hk := hk.trans (zK.set (ws := ws_1) (q := qe) (e := (ea, zO4 E 10 (va_cpy g g (i + 1) i (n - 1 - i)))) (by simp))
    have G2_0 := zset_ne (q := qe) (e' := (ea, zO4 E 10 (va_cpy g g (i + 1) i (n - 1 - i)))) (by omega) G1_0
    have G2_1 := zset_eq (e' := (ea, zO4 E 10 (va_cpy g g (i + 1) i (n - 1 - i)))) G1_1
    generalize hws2 : (ws_1.set qe (ea, zO4 E 10 (va_cpy g g (i + 1) i (n - 1 - i)))) = ws_2 at J hk G2_0 G2_1
    refine lv_aload_n hx hb dJx4a65c_fastRemove_b59b0_34 rfl (lv_at hl 2 rfl) ?_
    refine lv_aload_n hx hb dJx4a65c_fastRemove_b59b0_35 rfl (lv_at hl 1 rfl) ?_
    refine lv_iload_n hx hb dJx4a65c_fastRemove_b59b0_36 rfl (lv_at hl 0 rfl) ?_
    refine lv_dup_x1 hx hb dJx4a65c_fastRemove_b59b0_37 rfl rfl ?_
    refine z_put (C := RJx4a65c) (T := TJx4a65c) (N := 3) (ci := 0) (v := .int (nI (n - 1))) X J hi_Jx4a65c tyJx4a65c tyJx4a65c_ok nmJx4a65c qa G2_0 rfl 2 (by decide) (by decide +kernel) rfl rfl rfl (Nat.le_of_ble_eq_true rfl) dJx4a65c_fastRemove_b59b0_38 (fun H locs J => ?_)
    have J : zJ E (ws_2.set qa (al, .inr (0, [.int (mc9 + 1), .ref ea, .int (nI (n - 1))]))) s H locs := J
    have hk := hk.trans (zK.set (ws := ws_2) (q := qa) (e := (al, .inr (0, [.int (mc9 + 1), .ref ea, .int (nI (n - 1))]))) (by simp))
    have G3_0 := zset_eq (e' := (al, .inr (0, [.int (mc9 + 1), .ref ea, .int (nI (n - 1))]))) G2_0
    have G3_1 := zset_ne (q := qa) (e' := (al, .inr (0, [.int (mc9 + 1), .ref ea, .int (nI (n - 1))]))) (by omega) G2_1
    generalize hws3 : (ws_2.set qa (al, .inr (0, [.int (mc9 + 1), .ref ea, .int (nI (n - 1))]))) = ws_3 at J hk G3_0 G3_1
    refine lv_null hx hb dJx4a65c_fastRemove_b59b0_41 ?_
    refine z_aastN X J qe G3_1 (vp_in_nI (by omega) (by decide)) dJx4a65c_fastRemove_b59b0_42 (fun H locs J => ?_)
    rw [show va_up (va_cpy g g (i + 1) i (n - 1 - i)) (nI (n - 1)).toNatClampNeg none = va_up (va_cpy g g (i + 1) i (n - 1 - i)) (n - 1) none from (by rw [nI_clamp (by omega)])] at J
    have hk := hk.trans (zK.set (ws := ws_3) (q := qe) (e := (ea, zO4 E 10 (va_up (va_cpy g g (i + 1) i (n - 1 - i)) (n - 1) none))) (by simp))
    have G4_0 := zset_ne (q := qe) (e' := (ea, zO4 E 10 (va_up (va_cpy g g (i + 1) i (n - 1 - i)) (n - 1) none))) (by omega) G3_0
    have G4_1 := zset_eq (e' := (ea, zO4 E 10 (va_up (va_cpy g g (i + 1) i (n - 1 - i)) (n - 1) none))) G3_1
    generalize hws4 : (ws_3.set qe (ea, zO4 E 10 (va_up (va_cpy g g (i + 1) i (n - 1 - i)) (n - 1) none))) = ws_4 at J hk G4_0 G4_1
    subst hQ
    exact W.vret hx hb hr (fun t ht hW => ⟨⟨ws_4, rfl, ⟨hk, ⟨va_up (va_cpy g g (i + 1) i (n - 1 - i)) (n - 1) none, G4_0, G4_1, (by exact rm_copy hc9)⟩⟩, J.I X ht hW.alike⟩, J.F ht⟩) J.locs dJx4a65c_fastRemove_b59b0_43
set_option maxHeartbeats 400000 in
set_option maxRecDepth 100000 in
theorem cJx4a65c_remove_915e3_ok (l : Launch) (E : zG) {ws : va_W} {qa al ea qe n : Nat} {mc9 : Int32} {g : Nat → Option Nat} {i : Nat} (Fa0 : ws[qa]? = some (al, .inr (0, [.int mc9, .ref ea, .int (nI n)]))) (Fa1 : ws[qe]? = some (ea, zO4 E 10 g)) (hi9 : i < n) (hn9 : n ≤ 10) (hel : ∀ k : Nat, k < n → ∃ (y qk : Nat) (vs : List Value), g k = some y ∧ ws[qk]? = some (y, .inr (1, vs))) : Met l yJx4a65c_remove_915e3 wsJx4a65c_remove_915e3 ({ frames := 2, cells := 0, slots := 0, locals := 83 } : Room) (va_Pc [.ref al, .int (nI i)] (zI E ws)) (va_Qq (fun (r : Option Nat) (ws' : va_W) => (zK [qa, qe] ws ws') ∧ (∃ (g2 : Nat → Option Nat), (ws'[qa]? = some (al, .inr (0, [.int (mc9 + 1), .ref ea, .int (nI (n - 1))]))) ∧ (ws'[qe]? = some (ea, zO4 E 10 g2)) ∧ (∀ k : Nat, k < n - 1 → g2 k = if k < i then g k else g (k + 1)))) (zI E) (zA E)) 0 0 (zA E) := by
  refine Met.ofW (cc := cJx4a65c_remove_915e3) (maxL := 4) (ret := (some (.object "java/lang/Object"))) (by decide) rfl ?_
  intro p e s m args below meth c s₁ B hml hv
  obtain ⟨hargs9, hI⟩ := hv
  have hx := B.exec
  have hb := B.bytes
  have hr := B.returns
  have hlocks := B.notSynchronized
  have X : zC E p m c cJx4a65c_remove_915e3 4 s args wsJx4a65c_remove_915e3 RJx4a65c := z_open B hml hI
  have hown := X.1.2.2.2.1
  have hts := X.1.2.2.2.2
  have J := hI.J
  have hi_Jx4a65c : ∀ w ∈ wsJx4a65c0, w ∈ wsJx4a65c_remove_915e3 := by decide +kernel
  have n0_1 : qa ≠ qe := zneK Fa0 Fa1 rfl
  have hk : zK [qa, qe] ws ws := zK.rf
  have hl := lv_entry ([.ref al, .int (nI i)]) (n := 4) (Nat.le_of_ble_eq_true rfl)
  rw [show entryFrame m args 4 = entryFrame m ([.ref al, .int (nI i)] : List Value).toArray 4 from by rw [hargs9], lg_entry_eq]
  generalize (lg_sl ([.ref al, .int (nI i)]) ++ List.replicate (4 - (lg_sl ([.ref al, .int (nI i)])).length) Slot.unset).toArray = ls at hl ⊢
  have hl : lv_has ls 4 [(0, .ref al), (1, .int (nI i))] := hl
  obtain ⟨y9, qk9, vs9, w91, w92⟩ := hel i hi9
  generalize hQ : (MQ below (va_Qq (fun (r : Option Nat) (ws' : va_W) => (zK [qa, qe] ws ws') ∧ (∃ (g2 : Nat → Option Nat), (ws'[qa]? = some (al, .inr (0, [.int (mc9 + 1), .ref ea, .int (nI (n - 1))]))) ∧ (ws'[qe]? = some (ea, zO4 E 10 g2)) ∧ (∀ k : Nat, k < n - 1 → g2 k = if k < i then g k else g (k + 1)))) (zI E) (zA E)) args s 0 0 (zA E)) = QQ
  refine lv_iload_n hx hb dJx4a65c_remove_915e3_0 rfl (lv_at hl 1 rfl) ?_
  refine lv_aload_n hx hb dJx4a65c_remove_915e3_1 rfl (lv_at hl 0 rfl) ?_
  refine z_get (C := RJx4a65c) (T := TJx4a65c) (N := 3) (ci := 0) (v := .int (nI n)) X J hi_Jx4a65c qa Fa0 rfl 2 (by decide) (by decide +kernel) rfl dJx4a65c_remove_915e3_2 ?_
  refine z_cr (z_rS (As := [.int (nI i), .int (nI n)]) (rest := []) X J (cJ15_checkIndex_7cf53_ok l E hi9 hn9) (va_cwS 2 hts gJx4a65c_remove_915e3_J15_checkIndex_7cf53 rfl rfl rfl (by decide +kernel) ⟨Nat.le_of_ble_eq_true rfl, Nat.le_of_ble_eq_true rfl⟩) rfl hl.1 rfl (Nat.le_of_ble_eq_true rfl) dJx4a65c_remove_915e3_5 ⟨Nat.le_of_ble_eq_true rfl, Nat.le_of_ble_eq_true rfl⟩) (fun r5 e_r5 => ?_)
  subst e_r5
  refine lv_pop hx hb dJx4a65c_remove_915e3_8 rfl ?_
  refine lv_aload_n hx hb dJx4a65c_remove_915e3_9 rfl (lv_at hl 0 rfl) ?_
  refine z_get (C := RJx4a65c) (T := TJx4a65c) (N := 3) (ci := 0) (v := .ref ea) X J hi_Jx4a65c qa Fa0 rfl 1 (by decide) (by decide +kernel) rfl dJx4a65c_remove_915e3_10 ?_
  refine lv_astore_n (lv' := [(2, .ref ea), (0, .ref al), (1, .int (nI i))]) hx hb dJx4a65c_remove_915e3_13 rfl hl (by decide) rfl (fun ls hl => ?_)
  refine lv_aload_n hx hb dJx4a65c_remove_915e3_14 rfl (lv_at hl 0 rfl) ?_
  refine lv_iload_n hx hb dJx4a65c_remove_915e3_15 rfl (lv_at hl 2 rfl) ?_
  refine z_aaldq X J qe Fa1 (vp_in_nI (by omega) (by decide)) dJx4a65c_remove_915e3_16 ?_
  refine W.eq (g2 := F0 m 17 ls [va_rf (g i)]) (congrArg (fun z9 : Option Nat => F0 m 17 ls [va_rf z9]) (show (g (nI i).toNatClampNeg : Option Nat) = g i from (congrArg _ (nI_clamp (by omega))))) ?_
  refine W.eq (g2 := F0 m 17 ls [.ref y9]) (by rw [show g i = some y9 from w91]; rfl) ?_
  refine lv_astore_n (lv' := [(3, .ref y9), (2, .ref ea), (0, .ref al), (1, .int (nI i))]) hx hb dJx4a65c_remove_915e3_17 rfl hl (by decide) rfl (fun ls hl => ?_)
  refine lv_aload_n hx hb dJx4a65c_remove_915e3_18 rfl (lv_at hl 2 rfl) ?_
  refine lv_aload_n hx hb dJx4a65c_remove_915e3_19 rfl (lv_at hl 1 rfl) ?_
  refine lv_iload_n hx hb dJx4a65c_remove_915e3_20 rfl (lv_at hl 3 rfl) ?_
  refine z_cv J (z_rV (As := [.ref ea, .int (nI i)]) (rest := []) (ci := 0) (q0 := qa) X J (cJx4a65c_fastRemove_b59b0_ok l E Fa0 Fa1 hi9 hn9 hel) (cwV 2 hts gJx4a65c_remove_915e3_Jx4a65c_fastRemove_b59b0 rfl rfl rfl (by decide +kernel) ⟨Nat.le_of_ble_eq_true rfl, Nat.le_of_ble_eq_true rfl⟩) Fa0 rfl rfl rfl hl.1 rfl (Nat.le_of_ble_eq_true rfl) dJx4a65c_remove_915e3_21 ⟨Nat.le_of_ble_eq_true rfl, Nat.le_of_ble_eq_true rfl⟩) (fun ws_1 H locs hp9 J => ?_)
  obtain ⟨k1, ⟨g2_1, G1_a0, G1_a1, e_r21⟩⟩ := hp9
  have hk := hk.trans (k1.mono (by intro q9 hq9; simp only [List.mem_cons, List.not_mem_nil, or_false] at hq9 ⊢; omega))
  refine lv_aload_n hx hb dJx4a65c_remove_915e3_24 rfl (lv_at hl 0 rfl) ?_
  subst hQ
  exact W.aret (v := .ref y9) hx hb hr (by first | exact Or.inl ⟨_, rfl⟩ | exact Or.inr ⟨_, rfl⟩) (Or.inr ⟨_, rfl⟩) (fun t ht hW => ⟨⟨some y9, ws_1, rfl, ⟨hk, ⟨g2_1, G1_a0, G1_a1, (by exact e_r21)⟩⟩, J.I X ht hW.alike⟩, J.F ht⟩) J.locs dJx4a65c_remove_915e3_25
