set_option maxHeartbeats 4000000 in
set_option maxRecDepth 100000 in
theorem whole_start {p : Program} {e : Env} {s : State} {m : MethodId} {below : List Frame} {meth : Method} {c : Code} (l : Launch) (hflags : l.flags = flags0) {b L : Nat} {xs : Nat → Int32} (hL : L ≤ 3584) (C0 : lw_At p s m meth c b L xs) : W p l e room_1 s m #[Value.ref b] below meth c s.heap [] 0 0 (lw_Z below #[Value.ref b] s) (entryFrame m ([Value.ref b] : List Value).toArray 9) := by
  obtain ⟨E, hEs, X, hRz, hNz, hE1, J⟩ := law_env C0
  obtain ⟨hx, hb, hr, hml, hown, hts9, hXs, hbl, hlocks, hgv⟩ := C0
  have hbA : ¬ zA E b := by show ¬ E.2.2.2 ≤ b; rw [hEs]; exact Nat.not_le.mpr hbl
  have kE : ∀ (ws' : va_W) (H' : Heap) (locs' : List Loc) (ls' : Array Slot), zJ E ws' s H' locs' → W p l e room_1 s m #[.ref b] below meth c H' locs' (30 + 700 * 512) (4000 + 4500 * 512) (lw_Z below #[Value.ref b] s) (F0 m 1431 ls' []) := by
    intro ws' H' locs' ls' J'
    refine va_forget (fun q hq => by have h9 := J'.locs q hq; rw [← hEs]; exact h9) ?_
    refine W.widen (k := 601024) (n := 7293034) (by decide) (by decide) ?_
    refine lv_iconst (v := 1) hx hb dL_law_1431 (by decide) ?_
    exact W.base (lw_ret (Drawn.sameBut.refl s.drawn lw_cs) hx hb hr hlocks dL_law_1432)
  have hts := X.1.2.2.2.2
  have hown := X.1.2.2.2.1
  have hi_X6 : ∀ w ∈ wsX60, w ∈ wsL_law := inlX6
  have hi_X7 : ∀ w ∈ wsX70, w ∈ wsL_law := inlX7
  have hl := lv_entry ([.ref b]) (n := 9) (Nat.le_of_ble_eq_true rfl)
  rw [lg_entry_eq]
  generalize (lg_sl ([.ref b]) ++ List.replicate (9 - (lg_sl ([.ref b])).length) Slot.unset).toArray = ls at hl ⊢
  have hl : lv_has ls 9 [(0, .ref b)] := hl
  generalize hQ : lw_Z below #[Value.ref b] s = QQ at kE ⊢
  generalize hws0 : ([] : va_W) = ws at J
  have hk : zK [] ws ws := zK.rf
  have hlen : ws.length = ws.length + 0 := rfl
  refine z_new (C := RX6) (T := TX6) (N := 11) (ci := 7) (fs := [.null, .null, .null, .null, .null, .null, .int 0, .int 0, .int 0, .int 0, .int 0]) X J hi_X6 tyX6 tyX6_ok (by decide +kernel) (by decide +kernel) (by decide +kernel) rfl (fun j hj => by rcases (show j = 0 ∨ j = 1 ∨ j = 2 ∨ j = 3 ∨ j = 4 ∨ j = 5 ∨ j = 6 ∨ j = 7 ∨ j = 8 ∨ j = 9 ∨ j = 10 by omega) with rfl | rfl | rfl | rfl | rfl | rfl | rfl | rfl | rfl | rfl | rfl <;> rfl) (Nat.le_of_ble_eq_true rfl) (Nat.le_of_ble_eq_true rfl) dL_law_0 (fun q0 H J => ?_)
  have lp1 := hk.1
  have hk := hk.trans (zK.app (more := [(q0, .inr (7, [.null, .null, .null, .null, .null, .null, .int 0, .int 0, .int 0, .int 0, .int 0]))]))
  have hpn1 := hlen
  have hlen : (ws ++ ([(q0, .inr (7, [.null, .null, .null, .null, .null, .null, .int 0, .int 0, .int 0, .int 0, .int 0]))] : va_W)).length = ws.length + 1 := by rw [List.length_append, hlen]; rfl
  have G1_n := zapp_new (ws := ws) (x := (q0, .inr (7, [.null, .null, .null, .null, .null, .null, .int 0, .int 0, .int 0, .int 0, .int 0])))
  generalize hws1 : ws ++ [(q0, .inr (7, [.null, .null, .null, .null, .null, .null, .int 0, .int 0, .int 0, .int 0, .int 0]))] = ws_1 at J hk hlen G1_n
  rw [hpn1] at lp1 G1_n
  refine lv_dup hx hb dL_law_3 rfl ?_
  refine z_cv J (z_rIY (As := []) (rest := [.ref q0]) X hRz J (cX6_init_ok l hflags E G1_n) (cwI 0 hts gL_law_X6_init rfl rfl rfl (hts (.initialized RX6) (by decide +kernel)) (hts (.methodLink RL 72 yX6_init) (by decide +kernel)) (hts (.instanceMethod yX6_init) (by decide +kernel)) rfl (by decide +kernel) ⟨Nat.le_of_ble_eq_true rfl, Nat.le_of_ble_eq_true rfl⟩) rfl hl.1 rfl (Nat.le_of_ble_eq_true rfl) dL_law_4 ⟨by show _ ≤ 601024; omega, by show _ ≤ 7293034; omega⟩) (fun ws_2 H locs hp9 J => ?_)
  obtain ⟨k2, ⟨fl_2, rl_2, wh_2, gr_2, gra_2, tr_2, tra_2, sc_2, ha_2, va_2, hlen2, G2_a0, N2_0, N2_1, N2_2, N2_3, N2_4, N2_5, N2_6, N2_7, N2_8, N2_9⟩⟩ := hp9
  have hk := hk.transN k2 (fun q9 h9 => Or.inr (by rw [List.mem_singleton.mp h9]; exact Nat.le_add_right _ _))
  rw [hlen, Nat.add_assoc] at N2_0
  rw [hlen, Nat.add_assoc] at N2_1
  rw [hlen, Nat.add_assoc] at N2_2
  rw [hlen, Nat.add_assoc] at N2_3
  rw [hlen, Nat.add_assoc] at N2_4
  rw [hlen, Nat.add_assoc] at N2_5
  rw [hlen, Nat.add_assoc] at N2_6
  rw [hlen, Nat.add_assoc] at N2_7
  rw [hlen, Nat.add_assoc] at N2_8
  rw [hlen, Nat.add_assoc] at N2_9
  have hlen : ws_2.length = ws.length + 11 := by rw [hlen2, hlen]
  refine lv_astore_n (lv' := [(1, .ref q0), (0, .ref b)]) hx hb dL_law_7 rfl hl (by decide) rfl (fun ls hl => ?_)
  refine z_new (C := RX7) (T := TX7) (N := 14) (ci := 8) (fs := [.int 0, .int 0, .null, .int 0, .null, .null, .int 0, .int 0, .int 0, .int 0, .int 0, .null, .null, .null]) X J hi_X7 tyX7 tyX7_ok (by decide +kernel) (by decide +kernel) (by decide +kernel) rfl (fun j hj => by rcases (show j = 0 ∨ j = 1 ∨ j = 2 ∨ j = 3 ∨ j = 4 ∨ j = 5 ∨ j = 6 ∨ j = 7 ∨ j = 8 ∨ j = 9 ∨ j = 10 ∨ j = 11 ∨ j = 12 ∨ j = 13 by omega) with rfl | rfl | rfl | rfl | rfl | rfl | rfl | rfl | rfl | rfl | rfl | rfl | rfl | rfl <;> rfl) (Nat.le_of_ble_eq_true rfl) (Nat.le_of_ble_eq_true rfl) dL_law_8 (fun q8 H J => ?_)
  have lp3 := hk.1
  have hk := hk.trans (zK.app (more := [(q8, .inr (8, [.int 0, .int 0, .null, .int 0, .null, .null, .int 0, .int 0, .int 0, .int 0, .int 0, .null, .null, .null]))]))
  have hpn3 := hlen
  have hlen : (ws_2 ++ ([(q8, .inr (8, [.int 0, .int 0, .null, .int 0, .null, .null, .int 0, .int 0, .int 0, .int 0, .int 0, .null, .null, .null]))] : va_W)).length = ws.length + 12 := by rw [List.length_append, hlen]; rfl
  have bG3_0 := zlt G2_a0
  have G3_0 := zapp (x := (q8, .inr (8, [.int 0, .int 0, .null, .int 0, .null, .null, .int 0, .int 0, .int 0, .int 0, .int 0, .null, .null, .null]))) G2_a0
  have bG3_1 := zlt N2_0
  have G3_1 := zapp (x := (q8, .inr (8, [.int 0, .int 0, .null, .int 0, .null, .null, .int 0, .int 0, .int 0, .int 0, .int 0, .null, .null, .null]))) N2_0
  have bG3_2 := zlt N2_1
  have G3_2 := zapp (x := (q8, .inr (8, [.int 0, .int 0, .null, .int 0, .null, .null, .int 0, .int 0, .int 0, .int 0, .int 0, .null, .null, .null]))) N2_1
  have bG3_3 := zlt N2_2
  have G3_3 := zapp (x := (q8, .inr (8, [.int 0, .int 0, .null, .int 0, .null, .null, .int 0, .int 0, .int 0, .int 0, .int 0, .null, .null, .null]))) N2_2
  have bG3_4 := zlt N2_3
  have G3_4 := zapp (x := (q8, .inr (8, [.int 0, .int 0, .null, .int 0, .null, .null, .int 0, .int 0, .int 0, .int 0, .int 0, .null, .null, .null]))) N2_3
  have bG3_5 := zlt N2_4
  have G3_5 := zapp (x := (q8, .inr (8, [.int 0, .int 0, .null, .int 0, .null, .null, .int 0, .int 0, .int 0, .int 0, .int 0, .null, .null, .null]))) N2_4
  have bG3_6 := zlt N2_5
  have G3_6 := zapp (x := (q8, .inr (8, [.int 0, .int 0, .null, .int 0, .null, .null, .int 0, .int 0, .int 0, .int 0, .int 0, .null, .null, .null]))) N2_5
  have bG3_7 := zlt N2_6
  have G3_7 := zapp (x := (q8, .inr (8, [.int 0, .int 0, .null, .int 0, .null, .null, .int 0, .int 0, .int 0, .int 0, .int 0, .null, .null, .null]))) N2_6
  have bG3_8 := zlt N2_7
  have G3_8 := zapp (x := (q8, .inr (8, [.int 0, .int 0, .null, .int 0, .null, .null, .int 0, .int 0, .int 0, .int 0, .int 0, .null, .null, .null]))) N2_7
  have bG3_9 := zlt N2_8
  have G3_9 := zapp (x := (q8, .inr (8, [.int 0, .int 0, .null, .int 0, .null, .null, .int 0, .int 0, .int 0, .int 0, .int 0, .null, .null, .null]))) N2_8
  have bG3_10 := zlt N2_9
  have G3_10 := zapp (x := (q8, .inr (8, [.int 0, .int 0, .null, .int 0, .null, .null, .int 0, .int 0, .int 0, .int 0, .int 0, .null, .null, .null]))) N2_9
  have G3_n := zapp_new (ws := ws_2) (x := (q8, .inr (8, [.int 0, .int 0, .null, .int 0, .null, .null, .int 0, .int 0, .int 0, .int 0, .int 0, .null, .null, .null])))
  generalize hws3 : ws_2 ++ [(q8, .inr (8, [.int 0, .int 0, .null, .int 0, .null, .null, .int 0, .int 0, .int 0, .int 0, .int 0, .null, .null, .null]))] = ws_3 at J hk hlen G3_0 G3_1 G3_2 G3_3 G3_4 G3_5 G3_6 G3_7 G3_8 G3_9 G3_10 G3_n
  rw [hpn3] at lp3 G3_n bG3_0 bG3_1 bG3_2 bG3_3 bG3_4 bG3_5 bG3_6 bG3_7 bG3_8 bG3_9 bG3_10
  refine lv_dup hx hb dL_law_11 rfl ?_
  refine z_cv J (z_rI (As := []) (rest := [.ref q8]) X J (cX7_init_ok l E G3_n) (cwI 0 hts gL_law_X7_init rfl rfl rfl (hts (.initialized RX7) (by decide +kernel)) (hts (.methodLink RL 75 yX7_init) (by decide +kernel)) (hts (.instanceMethod yX7_init) (by decide +kernel)) rfl (by decide +kernel) ⟨Nat.le_of_ble_eq_true rfl, Nat.le_of_ble_eq_true rfl⟩) rfl hl.1 rfl (Nat.le_of_ble_eq_true rfl) dL_law_12 ⟨by show _ ≤ 601024; omega, by show _ ≤ 7293034; omega⟩) (fun ws_4 H locs hp9 J => ?_)
  obtain ⟨k4, ⟨mf_4, md_4, mi_4, ms9_4, mk_4, mt_4, hlen4, G4_a0, N4_0, N4_1, N4_2, N4_3, N4_4, N4_5⟩⟩ := hp9
  have hk := hk.transN k4 (fun q9 h9 => Or.inr (by rw [List.mem_singleton.mp h9]; exact Nat.le_add_right _ _))
  have G4_0 := k4.2 (ws.length + 0) _ (fun h8 => absurd (List.mem_singleton.mp h8) (fun h9 => absurd (Nat.add_left_cancel h9) (by decide))) G3_0
  have G4_1 := k4.2 (ws.length + 1) _ (fun h8 => absurd (List.mem_singleton.mp h8) (fun h9 => absurd (Nat.add_left_cancel h9) (by decide))) G3_1
  have G4_2 := k4.2 (ws.length + 2) _ (fun h8 => absurd (List.mem_singleton.mp h8) (fun h9 => absurd (Nat.add_left_cancel h9) (by decide))) G3_2
  have G4_3 := k4.2 (ws.length + 3) _ (fun h8 => absurd (List.mem_singleton.mp h8) (fun h9 => absurd (Nat.add_left_cancel h9) (by decide))) G3_3
  have G4_4 := k4.2 (ws.length + 4) _ (fun h8 => absurd (List.mem_singleton.mp h8) (fun h9 => absurd (Nat.add_left_cancel h9) (by decide))) G3_4
  have G4_5 := k4.2 (ws.length + 5) _ (fun h8 => absurd (List.mem_singleton.mp h8) (fun h9 => absurd (Nat.add_left_cancel h9) (by decide))) G3_5
  have G4_6 := k4.2 (ws.length + 6) _ (fun h8 => absurd (List.mem_singleton.mp h8) (fun h9 => absurd (Nat.add_left_cancel h9) (by decide))) G3_6
  have G4_7 := k4.2 (ws.length + 7) _ (fun h8 => absurd (List.mem_singleton.mp h8) (fun h9 => absurd (Nat.add_left_cancel h9) (by decide))) G3_7
  have G4_8 := k4.2 (ws.length + 8) _ (fun h8 => absurd (List.mem_singleton.mp h8) (fun h9 => absurd (Nat.add_left_cancel h9) (by decide))) G3_8
  have G4_9 := k4.2 (ws.length + 9) _ (fun h8 => absurd (List.mem_singleton.mp h8) (fun h9 => absurd (Nat.add_left_cancel h9) (by decide))) G3_9
  have G4_10 := k4.2 (ws.length + 10) _ (fun h8 => absurd (List.mem_singleton.mp h8) (fun h9 => absurd (Nat.add_left_cancel h9) (by decide))) G3_10
  rw [hlen, Nat.add_assoc] at N4_0
  rw [hlen, Nat.add_assoc] at N4_1
  rw [hlen, Nat.add_assoc] at N4_2
  rw [hlen, Nat.add_assoc] at N4_3
  rw [hlen, Nat.add_assoc] at N4_4
  rw [hlen, Nat.add_assoc] at N4_5
  have hlen : ws_4.length = ws.length + 18 := by rw [hlen4, hlen]
  refine lv_astore_n (lv' := [(2, .ref q8), (1, .ref q0), (0, .ref b)]) hx hb dL_law_15 rfl hl (by decide) rfl (fun ls hl => ?_)
  refine lv_iconst (v := 1) hx hb dL_law_16 (by decide) ?_
  refine z_newaL (N' := 1) X J (by decide +kernel) (by decide) (by decide) (Nat.le_of_ble_eq_true rfl) (Nat.le_of_ble_eq_true rfl) (Nat.le_of_ble_eq_true rfl) dL_law_17 (fun q17 H J => ?_)
  have lp5 := hk.1
  have hk := hk.trans (zK.app (more := [(q17, zL4 E 1 (fun _ => 0))]))
  have hpn5 := hlen
  have hlen : (ws_4 ++ ([(q17, zL4 E 1 (fun _ => 0))] : va_W)).length = ws.length + 19 := by rw [List.length_append, hlen]; rfl
  have bG5_0 := zlt G4_0
  have G5_0 := zapp (x := (q17, zL4 E 1 (fun _ => 0))) G4_0
  have bG5_1 := zlt G4_1
  have G5_1 := zapp (x := (q17, zL4 E 1 (fun _ => 0))) G4_1
  have bG5_2 := zlt G4_2
  have G5_2 := zapp (x := (q17, zL4 E 1 (fun _ => 0))) G4_2
  have bG5_3 := zlt G4_3
  have G5_3 := zapp (x := (q17, zL4 E 1 (fun _ => 0))) G4_3
  have bG5_4 := zlt G4_4
  have G5_4 := zapp (x := (q17, zL4 E 1 (fun _ => 0))) G4_4
  have bG5_5 := zlt G4_5
  have G5_5 := zapp (x := (q17, zL4 E 1 (fun _ => 0))) G4_5
  have bG5_6 := zlt G4_6
  have G5_6 := zapp (x := (q17, zL4 E 1 (fun _ => 0))) G4_6
  have bG5_7 := zlt G4_7
  have G5_7 := zapp (x := (q17, zL4 E 1 (fun _ => 0))) G4_7
  have bG5_8 := zlt G4_8
  have G5_8 := zapp (x := (q17, zL4 E 1 (fun _ => 0))) G4_8
  have bG5_9 := zlt G4_9
  have G5_9 := zapp (x := (q17, zL4 E 1 (fun _ => 0))) G4_9
  have bG5_10 := zlt G4_10
  have G5_10 := zapp (x := (q17, zL4 E 1 (fun _ => 0))) G4_10
  have bG5_11 := zlt G4_a0
  have G5_11 := zapp (x := (q17, zL4 E 1 (fun _ => 0))) G4_a0
  have bG5_12 := zlt N4_0
  have G5_12 := zapp (x := (q17, zL4 E 1 (fun _ => 0))) N4_0
  have bG5_13 := zlt N4_1
  have G5_13 := zapp (x := (q17, zL4 E 1 (fun _ => 0))) N4_1
  have bG5_14 := zlt N4_2
  have G5_14 := zapp (x := (q17, zL4 E 1 (fun _ => 0))) N4_2
  have bG5_15 := zlt N4_3
  have G5_15 := zapp (x := (q17, zL4 E 1 (fun _ => 0))) N4_3
  have bG5_16 := zlt N4_4
  have G5_16 := zapp (x := (q17, zL4 E 1 (fun _ => 0))) N4_4
  have bG5_17 := zlt N4_5
  have G5_17 := zapp (x := (q17, zL4 E 1 (fun _ => 0))) N4_5
  have G5_n := zapp_new (ws := ws_4) (x := (q17, zL4 E 1 (fun _ => 0)))
  generalize hws5 : ws_4 ++ [(q17, zL4 E 1 (fun _ => 0))] = ws_5 at J hk hlen G5_0 G5_1 G5_2 G5_3 G5_4 G5_5 G5_6 G5_7 G5_8 G5_9 G5_10 G5_11 G5_12 G5_13 G5_14 G5_15 G5_16 G5_17 G5_n
  rw [hpn5] at lp5 G5_n bG5_0 bG5_1 bG5_2 bG5_3 bG5_4 bG5_5 bG5_6 bG5_7 bG5_8 bG5_9 bG5_10 bG5_11 bG5_12 bG5_13 bG5_14 bG5_15 bG5_16 bG5_17
  refine lv_astore_n (lv' := [(3, .ref q17), (2, .ref q8), (1, .ref q0), (0, .ref b)]) hx hb dL_law_19 rfl hl (by decide) rfl (fun ls hl => ?_)
  refine lv_iconst (v := nI 0) hx hb dL_law_20 rfl ?_
  refine lv_istore (lv' := [(4, .int (nI 0)), (3, .ref q17), (2, .ref q8), (1, .ref q0), (0, .ref b)]) hx hb dL_law_21 hl (by decide) rfl (fun ls hl => ?_)
  have Jf9 := J
  subst hws0
  refine W.widen (k := 30 + 700 * 0) (n := 4000 + 4500 * 0) (by decide) (by decide) ?_
  have hW9 : LW E ws_5 q0 q8 q17 := ⟨fl_2, rl_2, wh_2, gr_2, gra_2, tr_2, tra_2, sc_2, ha_2, va_2, mf_4, md_4, mi_4, ms9_4, mk_4, mt_4, E.2.2.1, E.2.2.1, 0, 0, 0, 0, 15, 0, 0, 0, 0, 0, (fun _ => 0), (fun _ => 0), (fun _ => 0), (fun _ => 0), (fun _ => 0), (fun _ => 0), (fun _ => 0), (fun _ => 0), (fun _ => 0), (fun _ => 0), G5_0, G5_1, G5_2, G5_3, G5_4, G5_5, G5_6, G5_7, G5_8, G5_9, G5_10, G5_11, G5_12, G5_13, G5_14, G5_15, G5_16, G5_17, G5_n, (Or.inl ⟨rfl, rfl⟩), (Or.inl ⟨rfl, rfl⟩), (Or.inr ⟨rfl, rfl⟩), (Nat.zero_le _), (Nat.zero_le _), (fun j hj => absurd hj (Nat.not_lt_zero _)), (fun j hj => absurd hj (Nat.not_lt_zero _)), (fun j _ => (⟨by decide, by decide⟩ : BI 0 200 (0 : Int32))), (⟨by decide, by decide⟩ : BI 0 40 (0 : Int32))⟩
  exact law_loop hflags E X hRz hNz hXs hbl hbA hE1 hL (c0 := 30) (s0 := 4000) (by decide) (by decide) kE 512 0 rfl _ _ _ _ hW9 Jf9 (lv_sub hl [0, 1, 2, 3, 4] rfl)
set_option maxHeartbeats 4000000 in
theorem lw_walk (l : Launch) (hflags : l.flags = flags0) (b : Addr) (xs : List Int32) : MetFree l x (headSpec (Jvm.Cond.code x code maxLocals ret :: tables_1) room_1) (lw_P b xs) (fun _ _ _ _ _ => True) lw_Q := by
  refine MetFree.of_bodyS (code := code) (maxLocals := maxLocals) (ret := ret) (by decide) ?_ ?_
  · intro args s m h hn
    obtain ⟨meth, c, h1, h2, h3, h4, h5, h6, -, -⟩ := Cond.code_spec hn (atoms_spec (ws := Jvm.Cond.code x code maxLocals ret :: tables_1) h _ List.mem_cons_self)
    exact ⟨meth, c, h1, h2, h3, h4, h5, h6⟩
  · intro p e s m args below meth c s₁ B hml0 hP _
    obtain ⟨rfl, hx, hbd, hgv⟩ := hP
    obtain ⟨scr, harrAt, hlist, hof, hsmall⟩ := hx
    obtain ⟨hcb, hkn, -, -⟩ := State.arrayAt?_spec harrAt
    have hown : s.vm.findClass R_law = some m.cls := findClass_of_methodNamed B.named
    have hts0 : ∀ c ∈ (Jvm.Cond.code x code maxLocals ret :: tables_1), c.before #[Value.ref b] s = true := atoms_spec (ws := Jvm.Cond.code x code maxLocals ret :: tables_1) B.pre
    have hts : ∀ w ∈ lw_tbl, w.before #[Value.ref b] s = true := k2_hts_sels lw_privs (fun w hw => hts0 w (List.mem_cons_of_mem _ hw)) lw_privs_ok
    have hml : c.maxLocals = 9 := B.maxLocals_eq (hts0 _ List.mem_cons_self)
    have X₀ : Stand p l e room_1 s m #[Value.ref b] below meth c s₁ [] 0 0 := Stand.of_body B
    have hh0 : s₁.heap = s.heap := by rw [B.state]; rfl
    have hsz : scr.slots.size = xs.length := by rw [← Array.length_toList, hlist, List.length_map]
    have hval : ∀ j : Nat, j < xs.length → scr.slots[j]? = some (.int (xs.getD j 0)) := fun j hj => by
      rw [← Array.getElem?_toList, hlist]
      simp [hj]
    have hbl : b < s.heap.size := (Array.getElem?_eq_some_iff.mp hcb).1
    have hX : va_X b xs.length (fun j => xs.getD j 0) s s.heap := ⟨scr, hcb, hof, hkn, hsz, hval⟩
    have K : W p l e room_1 s m #[Value.ref b] below meth c s₁.heap [] 0 0 (lw_Z below #[Value.ref b] s) (entryFrame m ([Value.ref b] : List Value).toArray 9) := by
      rw [hh0]
      exact whole_start l hflags hbd ⟨B.exec, B.bytes, B.returns, hml, hown, hts, hX, hbl, B.notSynchronized, hgv⟩
    obtain ⟨t, a1, o, b1, b2, b3⟩ := K s₁ rfl X₀
    exact ⟨t, o, a1, b1, b2, b3⟩
theorem lw_pre_spec {args : Array Value} {s : State} (h : (Jvm.Cond.and given_1 narrow_1).before args s = true) (hr : rest_1_c.before args s = true) : ∃ (b : Addr) (xs : List Int32), lw_P b xs args s := by
  have hs := flat_of_before _ h
  have hq := flat_of_before _ hr
  have hc : (Cond.count 1).before args s = true := hs _ (by decide +kernel)
  have harr : (Cond.arrayOf (.arg 0) .int).before args s = true := hs _ (by decide +kernel)
  have hle : (Cond.le (.length (.arg 0)) (.int 3584)).before args s = true := hs _ (by decide +kernel)
  have hlen : (Cond.isInt (.length (.arg 0))).before args s = true := hq _ (by decide +kernel)
  have hall : (Cond.all (.arg 0) (.isInt (.elem (.arg 0) (.index 0)))).before args s = true := hq _ (by decide +kernel)
  obtain ⟨b, xs, hb, hx⟩ := State.ints_of_pre rfl harr hlen hall
  have hsm : xs.length < 2 ^ 31 := hx.choose_spec.2.2.2
  have hev : (Term.length (.arg 0)).eval args s none [] s = some (.int xs.length.toInt32) := hx.length_eval hb
  have hv := Cond.le_ints hev (show (Term.int 3584).eval args s none [] s = some (.int 3584) from rfl)
  have hd : xs.length.toInt32 ≤ 3584 := by
    simpa [Cond.before, Cond.holds, hv] using hle
  have hN : xs.length ≤ 3584 := (Int32.ofNat_le_ofNat hsm (by decide)).mp (show Int32.ofNat xs.length ≤ Int32.ofNat 3584 from hd)
  exact ⟨b, xs, Cond.one_arg hc (show args[0]? = some (.ref b) from hb), hx, hN, h⟩
theorem lw_comes (l : Launch) (hflags : l.flags = flags0) : Comes l x (Jvm.Cond.code x code maxLocals ret :: tables_1) room_1 (fun tb e args s => Calls_1 tb e args s ∧ rest_1 tb e args s ∧ Pre_1 tb e args s)
    (fun _ _ args s o t => lw_Q args s o t) := by
  intro p e ha hc hk s m args below hf hfit hheap happ hpre
  obtain ⟨b, xs, hP⟩ := lw_pre_spec hpre.2.2 hpre.2.1
  obtain ⟨k, o, h1, h2, h3, hQ⟩ := lw_walk l hflags b xs p e ha hc hk s m args below hf ((Spec.applies_iff_loose hf).mp happ).1 hP trivial
  exact ⟨k, o, h1, h2, h3, hQ⟩
theorem lw_frame {s t : State} {o : Outcome} {args : Array Value} (h : State.butDraws s t lw_cs (fun t1 => Framed s o t1 [] 601024 7293034)) :
    State.butDraws s t [Jvm.Choice.named "NaN.bits"] (fun t1 => Framed s o t1 (fieldLocs frame_1_writes args s ++ arrayLocs frame_1_arrays args s ++ staticLocs frame_1_statics s) 601024 7293034) := h
theorem lw_limb (L : Cond) (hL : ∀ (args : Array Value) (s t : State), L.after args s (.returned (some (.int 1))) t = true) :
    ArmFor flags0 classFile x code maxLocals ret World_1 tables_1 room_1 Calls_1 rest_1 Pre_1
      (fun tb e a s o t => postC L tb e a s o t ∧ State.butDraws s t [Jvm.Choice.named "NaN.bits"] (fun t1 => Framed s o t1 (fieldLocs frame_1_writes a s ++ arrayLocs frame_1_arrays a s ++ staticLocs frame_1_statics s) 601024 7293034)) := by
  intro l hflags _ _ p e ha hc hk s m args below hf hfit hheap happ hpre
  obtain ⟨k, o, h1, h2, h3, rfl, hF⟩ := lw_comes l hflags p e ha hc hk s m args below hf hfit hheap happ hpre
  exact ⟨k, _, h1, h2, h3, hL args s _, lw_frame hF⟩
theorem i_vc : Claimed_1_1 ∧ Claimed_1_2 := ⟨lw_limb limb_1_1 (fun args s t => by simp [limb_1_1, Cond.after, Cond.holds, Cond.value]), lw_limb limb_1_2 (fun args s t => Cond.after_iff.mpr (by
  first | (rw [show limb_1_2 = Cond.eq .result (.int 1) from rfl, Cond.eq_ints (x := 1) (y := 1) rfl rfl]; simp; done) | (simp [limb_1_2, Cond.value, Term.eval]; done)))⟩
