set_option maxHeartbeats 400000 in
set_option maxRecDepth 100000 in
theorem cJx4a65c_grow_92f84_ok (l : Launch) (E : zG) {ws : va_W} {qa al : Nat} {mc9 : Int32} (Fa0 : ws[qa]? = some (al, .inr (0, [.int mc9, .ref E.2.2.1, .int 0])))  : Met l yJx4a65c_grow_92f84 wsJx4a65c_grow_92f84 ({ frames := 1, cells := 1, slots := 10, locals := 14 } : Room) (va_Pc [.ref al, .int 1] (zI E ws)) (va_Qq (fun (r : Option Nat) (ws' : va_W) => (zK [qa] ws ws') ∧ (∃ nq : Nat, ws'.length = ws.length + 1 ∧ (ws'[qa]? = some (al, .inr (0, [.int mc9, .ref nq, .int 0]))) ∧ (ws'[(ws.length + 0)]? = some (nq, zO4 E 10 (fun _ => none))) ∧ (r = some nq))) (zI E) (zA E)) 1 10 (zA E) := by
  refine Met.ofW (cc := cJx4a65c_grow_92f84) (maxL := 4) (ret := (some (.array (.object "java/lang/Object")))) (by decide) rfl ?_
  intro p e s m args below meth c s₁ B hml hv
  obtain ⟨hargs9, hI⟩ := hv
  have hx := B.exec
  have hb := B.bytes
  have hr := B.returns
  have hlocks := B.notSynchronized
  have X : zC E p m c cJx4a65c_grow_92f84 4 s args wsJx4a65c_grow_92f84 RJx4a65c := z_open B hml hI
  have hown := X.1.2.2.2.1
  have hts := X.1.2.2.2.2
  have J := hI.J
  have hi_Jx4a65c : ∀ w ∈ wsJx4a65c0, w ∈ wsJx4a65c_grow_92f84 := by decide +kernel
  have hk : zK [qa] ws ws := zK.rf
  have hlen : ws.length = ws.length + 0 := rfl
  have bFa0 := zlt Fa0
  have hl := lv_entry ([.ref al, .int 1]) (n := 4) (Nat.le_of_ble_eq_true rfl)
  rw [show entryFrame m args 4 = entryFrame m ([.ref al, .int 1] : List Value).toArray 4 from by rw [hargs9], lg_entry_eq]
  generalize (lg_sl ([.ref al, .int 1]) ++ List.replicate (4 - (lg_sl ([.ref al, .int 1])).length) Slot.unset).toArray = ls at hl ⊢
  have hl : lv_has ls 4 [(0, .ref al), (1, .int 1)] := hl
  generalize hQ : (MQ below (va_Qq (fun (r : Option Nat) (ws' : va_W) => (zK [qa] ws ws') ∧ (∃ nq : Nat, ws'.length = ws.length + 1 ∧ (ws'[qa]? = some (al, .inr (0, [.int mc9, .ref nq, .int 0]))) ∧ (ws'[(ws.length + 0)]? = some (nq, zO4 E 10 (fun _ => none))) ∧ (r = some nq))) (zI E) (zA E)) args s 1 10 (zA E)) = QQ
  refine lv_aload_n hx hb dJx4a65c_grow_92f84_0 rfl (lv_at hl 0 rfl) ?_
  refine z_get (C := RJx4a65c) (T := TJx4a65c) (N := 3) (ci := 0) (v := .ref E.2.2.1) X J hi_Jx4a65c qa Fa0 rfl 1 (by decide) (by decide +kernel) rfl dJx4a65c_grow_92f84_1 ?_
  refine va_tlen (v := 0) hx hb X.2.2.1.2.1 J.2.2 rfl dJx4a65c_grow_92f84_4 ?_
  refine lv_istore_n (lv' := [(2, .int 0), (0, .ref al), (1, .int 1)]) hx hb dJx4a65c_grow_92f84_5 rfl hl (by decide) rfl (fun ls hl => ?_)
  refine lv_iload_n hx hb dJx4a65c_grow_92f84_6 rfl (lv_at hl 0 rfl) ?_
  refine lv_if_gt (tgt := 20) hx hb dJx4a65c_grow_92f84_7 (by decide) (fun cz7 => by exact absurd cz7 (by decide)) (fun cz7 => ?_)
  refine lv_aload_n hx hb dJx4a65c_grow_92f84_10 rfl (lv_at hl 1 rfl) ?_
  refine z_get (C := RJx4a65c) (T := TJx4a65c) (N := 3) (ci := 0) (v := .ref E.2.2.1) X J hi_Jx4a65c qa Fa0 rfl 1 (by decide) (by decide +kernel) rfl dJx4a65c_grow_92f84_11 ?_
  refine va_gets hx hb X.2.2.1.1 J.2.2 hown (hts (.fieldLink RJx4a65c 39 "java/util/ArrayList" "DEFAULTCAPACITY_EMPTY_ELEMENTDATA" "[Ljava/lang/Object;") (by decide +kernel)) (fun _ h9 => h9) dJx4a65c_grow_92f84_14 ?_
  refine lv_acmp_eq (rx := some E.2.2.1) (ry := some E.2.2.1) (tgt := 45) hx hb dJx4a65c_grow_92f84_17 (by decide) (fun cz17 => ?_) (fun cz17 => (cz17 rfl).elim)
  refine lv_aload_n hx hb dJx4a65c_grow_92f84_45 rfl (lv_at hl 1 rfl) ?_
  refine lv_bipush (v := 10) hx hb dJx4a65c_grow_92f84_46 (by decide) ?_
  refine lv_iload_n hx hb dJx4a65c_grow_92f84_48 rfl (lv_at hl 2 rfl) ?_
  refine va_mmax hx hb (X.1.2.2.1.trans hl.1.symm) hown (hts (.methodLink RJx4a65c 79 Lib.Math.max.name) (by decide +kernel)) (hts (.static Lib.Math.max.name) (by decide +kernel)) (hts (.initialized "java/lang/Math") (by decide +kernel)) (hts (.code Lib.Math.max.name Lib.Math.max.code 2 (some .int)) (by decide +kernel)) (Nat.le_of_ble_eq_true rfl) (Nat.le_of_ble_eq_true rfl) (Nat.le_of_ble_eq_true rfl) (Nat.le_of_ble_eq_true rfl) dJx4a65c_grow_92f84_49 ?_
  refine W.eq (g2 := F0 m 52 ls [.int (mx 10 1), .ref al]) rfl ?_
  refine W.eq (g2 := F0 m 52 ls [.int 10, .ref al]) (congrArg (fun z9 : Int32 => F0 m 52 ls [.int z9, .ref al]) (show (mx 10 1 : Int32) = 10 from (by decide))) ?_
  refine z_newq (N' := 10) X J (by decide +kernel) (by decide) (by decide) (Nat.le_of_ble_eq_true rfl) (Nat.le_of_ble_eq_true rfl) (Nat.le_of_ble_eq_true rfl) dJx4a65c_grow_92f84_52 (fun q52 H J => ?_)
  have lp1 := hk.1
  have hk := hk.trans (zK.app (more := [(q52, zO4 E 10 (fun _ => none))]))
  have hpn1 := hlen
  have hlen : (ws ++ [(q52, zO4 E 10 (fun _ => none))]).length = ws.length + 1 := by rw [List.length_append, hlen]; rfl
  have bG1_0 := zlt Fa0
  have G1_0 := zapp (x := (q52, zO4 E 10 (fun _ => none))) Fa0
  have G1_n := zapp_new (ws := ws) (x := (q52, zO4 E 10 (fun _ => none)))
  generalize hws1 : ws ++ [(q52, zO4 E 10 (fun _ => none))] = ws_1 at J hk hlen G1_0 G1_n
  rw [hpn1] at lp1 G1_n bG1_0
  refine lv_dup_x1 hx hb dJx4a65c_grow_92f84_55 rfl rfl ?_
  refine z_put (C := RJx4a65c) (T := TJx4a65c) (N := 3) (ci := 0) (v := .ref q52) X J hi_Jx4a65c tyJx4a65c tyJx4a65c_ok nmJx4a65c qa G1_0 rfl 1 (by decide) (by decide +kernel) rfl rfl rfl (Nat.le_of_ble_eq_true rfl) dJx4a65c_grow_92f84_56 (fun H locs J => ?_)
  have J : zJ E (ws_1.set qa (al, .inr (0, [.int mc9, .ref q52, .int 0]))) s H locs := J
  have hk := hk.trans (zK.set (ws := ws_1) (q := qa) (e := (al, .inr (0, [.int mc9, .ref q52, .int 0]))) (by simp))
  have hlen : (ws_1.set qa (al, .inr (0, [.int mc9, .ref q52, .int 0]))).length = ws.length + 1 := (List.length_set ..).trans hlen
  have G2_0 := zset_eq (e' := (al, .inr (0, [.int mc9, .ref q52, .int 0]))) G1_0
  have G2_1 := zset_ne (q := qa) (e' := (al, .inr (0, [.int mc9, .ref q52, .int 0]))) (by omega) G1_n
  generalize hws2 : (ws_1.set qa (al, .inr (0, [.int mc9, .ref q52, .int 0]))) = ws_2 at J hlen hk G2_0 G2_1
  subst hQ
  exact W.aret (v := .ref q52) hx hb hr (by first | exact Or.inl ⟨_, rfl⟩ | exact Or.inr ⟨_, rfl⟩) (Or.inr ⟨_, rfl⟩) (fun t ht hW => ⟨⟨some q52, ws_2, rfl, ⟨hk, ⟨q52, hlen, G2_0, G2_1, rfl⟩⟩, J.I X ht hW.alike⟩, J.F ht⟩) J.locs dJx4a65c_grow_92f84_59
set_option maxHeartbeats 400000 in
set_option maxRecDepth 100000 in
theorem cJx4a65c_grow_d5877_ok (l : Launch) (E : zG) {ws : va_W} {qa al : Nat} {mc9 : Int32} (Fa0 : ws[qa]? = some (al, .inr (0, [.int mc9, .ref E.2.2.1, .int 0])))  : Met l yJx4a65c_grow_d5877 wsJx4a65c_grow_d5877 ({ frames := 2, cells := 1, slots := 10, locals := 37 } : Room) (va_Pc [.ref al] (zI E ws)) (va_Qq (fun (r : Option Nat) (ws' : va_W) => (zK [qa] ws ws') ∧ (∃ nq : Nat, ws'.length = ws.length + 1 ∧ (ws'[qa]? = some (al, .inr (0, [.int mc9, .ref nq, .int 0]))) ∧ (ws'[(ws.length + 0)]? = some (nq, zO4 E 10 (fun _ => none))) ∧ (r = some nq))) (zI E) (zA E)) 1 10 (zA E) := by
  refine Met.ofW (cc := cJx4a65c_grow_d5877) (maxL := 1) (ret := (some (.array (.object "java/lang/Object")))) (by decide) rfl ?_
  intro p e s m args below meth c s₁ B hml hv
  obtain ⟨hargs9, hI⟩ := hv
  have hx := B.exec
  have hb := B.bytes
  have hr := B.returns
  have hlocks := B.notSynchronized
  have X : zC E p m c cJx4a65c_grow_d5877 1 s args wsJx4a65c_grow_d5877 RJx4a65c := z_open B hml hI
  have hown := X.1.2.2.2.1
  have hts := X.1.2.2.2.2
  have J := hI.J
  have hi_Jx4a65c : ∀ w ∈ wsJx4a65c0, w ∈ wsJx4a65c_grow_d5877 := by decide +kernel
  have hk : zK [qa] ws ws := zK.rf
  have hlen : ws.length = ws.length + 0 := rfl
  have bFa0 := zlt Fa0
  have hl := lv_entry ([.ref al]) (n := 1) (Nat.le_of_ble_eq_true rfl)
  rw [show entryFrame m args 1 = entryFrame m ([.ref al] : List Value).toArray 1 from by rw [hargs9], lg_entry_eq]
  generalize (lg_sl ([.ref al]) ++ List.replicate (1 - (lg_sl ([.ref al])).length) Slot.unset).toArray = ls at hl ⊢
  have hl : lv_has ls 1 [(0, .ref al)] := hl
  generalize hQ : (MQ below (va_Qq (fun (r : Option Nat) (ws' : va_W) => (zK [qa] ws ws') ∧ (∃ nq : Nat, ws'.length = ws.length + 1 ∧ (ws'[qa]? = some (al, .inr (0, [.int mc9, .ref nq, .int 0]))) ∧ (ws'[(ws.length + 0)]? = some (nq, zO4 E 10 (fun _ => none))) ∧ (r = some nq))) (zI E) (zA E)) args s 1 10 (zA E)) = QQ
  refine lv_aload_n hx hb dJx4a65c_grow_d5877_0 rfl (lv_at hl 0 rfl) ?_
  refine lv_aload_n hx hb dJx4a65c_grow_d5877_1 rfl (lv_at hl 0 rfl) ?_
  refine z_get (C := RJx4a65c) (T := TJx4a65c) (N := 3) (ci := 0) (v := .int 0) X J hi_Jx4a65c qa Fa0 rfl 2 (by decide) (by decide +kernel) rfl dJx4a65c_grow_d5877_2 ?_
  refine lv_iconst (v := 1) hx hb dJx4a65c_grow_d5877_5 (by decide) ?_
  refine lv_iadd hx hb dJx4a65c_grow_d5877_6 ?_
  refine W.eq (g2 := F0 m 7 ls [.int 1, .ref al]) (congrArg (fun z9 : Int32 => F0 m 7 ls [.int z9, .ref al]) (show (0 + 1 : Int32) = 1 from (by decide))) ?_
  refine z_cq J (z_rV (As := [.int 1]) (rest := []) (ci := 0) (q0 := qa) X J (cJx4a65c_grow_92f84_ok l E Fa0) (cwV 1 hts gJx4a65c_grow_d5877_Jx4a65c_grow_92f84 rfl rfl rfl (by decide +kernel) ⟨Nat.le_of_ble_eq_true rfl, Nat.le_of_ble_eq_true rfl⟩) Fa0 rfl rfl rfl hl.1 rfl (Nat.le_of_ble_eq_true rfl) dJx4a65c_grow_d5877_7 ⟨Nat.le_of_ble_eq_true rfl, Nat.le_of_ble_eq_true rfl⟩) (fun r7 ws_1 H locs hp9 J => ?_)
  obtain ⟨k1, ⟨nq_1, hlen1, G1_a0, N1_0, e_r7⟩⟩ := hp9
  have hk := hk.trans (k1.mono (by intro q9 hq9; simp only [List.mem_cons, List.not_mem_nil, or_false] at hq9 ⊢; omega))
  rw [hlen, Nat.add_assoc] at N1_0
  have hlen : ws_1.length = ws.length + 1 := by rw [hlen1, hlen]
  subst e_r7
  refine W.eq (g2 := F0 m 10 ls [.ref nq_1]) rfl ?_
  subst hQ
  exact W.aret (v := .ref nq_1) hx hb hr (by first | exact Or.inl ⟨_, rfl⟩ | exact Or.inr ⟨_, rfl⟩) (Or.inr ⟨_, rfl⟩) (fun t ht hW => ⟨⟨some nq_1, ws_1, rfl, ⟨hk, ⟨nq_1, hlen, G1_a0, N1_0, rfl⟩⟩, J.I X ht hW.alike⟩, J.F ht⟩) J.locs dJx4a65c_grow_d5877_10
