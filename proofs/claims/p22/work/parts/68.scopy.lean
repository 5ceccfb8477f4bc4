set_option maxHeartbeats 400000 in
set_option maxRecDepth 100000 in
theorem cX7_copy_ok (l : Launch) (E : zG) {ws : va_W} {qz z fe ro sa : Nat} {lim sup off plo hrs : Int32} {qs b : Nat} {gs : Nat → Option Nat} {sn : Nat → Int32} (Fa0 : ws[qz]? = some (z, .inr (8, [.ref fe, .ref ro, .ref sa, .int lim, .int sup, .int off, .int plo, .int hrs]))) (Fa1 : ws[qs]? = some (sa, zA4 E 20 gs)) (hSN : SN E ws b gs sn) : Met l yX7_copy wsX7_copy ({ frames := 2, cells := 44, slots := 828, locals := 32 } : Room) (va_Pc [.ref z] (zI E ws)) (va_Qq (fun (r : Option Nat) (ws' : va_W) => (zK [] ws ws') ∧ (∃ (c9 : Nat) (pc9 : Nat) (sa9 : Nat) (qs9 : Nat) (b9 : Nat) (gs9 : Nat → Option Nat), (ws'[pc9]? = some (c9, .inr (8, [.ref fe, .ref ro, .ref sa9, .int lim, .int sup, .int 0, .int 0, .int 0]))) ∧ (ws'[qs9]? = some (sa9, zA4 E 20 gs9)) ∧ (SN E ws' b9 gs9 sn) ∧ (ws.length ≤ pc9) ∧ (ws.length ≤ qs9) ∧ (ws.length ≤ b9) ∧ (r = some c9))) (zI E) (zA E)) 44 828 (zA E) := by
  refine Met.ofW (cc := cX7_copy) (maxL := 3) (ret := (some (.object "SnowFencesLaw$Sim"))) (by decide) rfl ?_
  intro p e s m args below meth c s₁ B hml hv
  obtain ⟨hargs9, hI⟩ := hv
  have hx := B.exec
  have hb := B.bytes
  have hr := B.returns
  have hlocks := B.notSynchronized
  have X : zC E p m c cX7_copy 3 s args wsX7_copy RX7 := z_open B hml hI
  have hown := X.1.2.2.2.1
  have hts := X.1.2.2.2.2
  have J := hI.J
  have hi_X7 : ∀ w ∈ wsX70, w ∈ wsX7_copy := by decide +kernel
  have n0_1 : qz ≠ qs := zneK Fa0 Fa1 rfl
  have hk : zK [] ws ws := zK.rf
  have hl := lv_entry ([.ref z]) (n := 3) (Nat.le_of_ble_eq_true rfl)
  rw [show entryFrame m args 3 = entryFrame m ([.ref z] : List Value).toArray 3 from by rw [hargs9], lg_entry_eq]
  generalize (lg_sl ([.ref z]) ++ List.replicate (3 - (lg_sl ([.ref z])).length) Slot.unset).toArray = ls at hl ⊢
  have hl : lv_has ls 3 [(0, .ref z)] := hl
  have hbl := hSN.len
  generalize hQ : (MQ below (va_Qq (fun (r : Option Nat) (ws' : va_W) => (zK [] ws ws') ∧ (∃ (c9 : Nat) (pc9 : Nat) (sa9 : Nat) (qs9 : Nat) (b9 : Nat) (gs9 : Nat → Option Nat), (ws'[pc9]? = some (c9, .inr (8, [.ref fe, .ref ro, .ref sa9, .int lim, .int sup, .int 0, .int 0, .int 0]))) ∧ (ws'[qs9]? = some (sa9, zA4 E 20 gs9)) ∧ (SN E ws' b9 gs9 sn) ∧ (ws.length ≤ pc9) ∧ (ws.length ≤ qs9) ∧ (ws.length ≤ b9) ∧ (r = some c9))) (zI E) (zA E)) args s 44 828 (zA E)) = QQ
  refine z_new (C := RX7) (T := TX7) (N := 8) (ci := 8) (fs := [.null, .null, .null, .int 0, .int 0, .int 0, .int 0, .int 0]) X J hi_X7 tyX7 tyX7_ok (by decide +kernel) (by decide +kernel) (by decide +kernel) rfl (fun j hj => by rcases (show j = 0 ∨ j = 1 ∨ j = 2 ∨ j = 3 ∨ j = 4 ∨ j = 5 ∨ j = 6 ∨ j = 7 by omega) with rfl | rfl | rfl | rfl | rfl | rfl | rfl | rfl <;> rfl) (Nat.le_of_ble_eq_true rfl) (Nat.le_of_ble_eq_true rfl) dX7_copy_0 (fun q0 H J => ?_)
  have hSN := hSN.keep (zK.app (S := []) (ws := ws) (more := [(q0, .inr (8, [.null, .null, .null, .int 0, .int 0, .int 0, .int 0, .int 0]))])) (fun _ _ => List.not_mem_nil)
  have lp1 := hk.1
  have hk := hk.trans (zK.app (more := [(q0, .inr (8, [.null, .null, .null, .int 0, .int 0, .int 0, .int 0, .int 0]))]))
  have bG1_0 := zlt Fa0
  have G1_0 := zapp (x := (q0, .inr (8, [.null, .null, .null, .int 0, .int 0, .int 0, .int 0, .int 0]))) Fa0
  have bG1_1 := zlt Fa1
  have G1_1 := zapp (x := (q0, .inr (8, [.null, .null, .null, .int 0, .int 0, .int 0, .int 0, .int 0]))) Fa1
  have G1_n := zapp_new (ws := ws) (x := (q0, .inr (8, [.null, .null, .null, .int 0, .int 0, .int 0, .int 0, .int 0])))
  generalize hws1 : ws ++ [(q0, .inr (8, [.null, .null, .null, .int 0, .int 0, .int 0, .int 0, .int 0]))] = ws_1 at J hk G1_0 G1_1 hSN G1_n
  generalize hpn1 : ws.length = pn_1 at G1_n lp1 bG1_0 bG1_1
  refine lv_dup hx hb dX7_copy_3 rfl ?_
  refine z_cv J (z_rI (As := []) (rest := [.ref q0]) X J (cX7_init_ok l E G1_n) (cwI 0 hts gX7_copy_X7_init rfl rfl rfl (hts (.initialized RX7) (by decide +kernel)) (hts (.methodLink RX7 26 yX7_init) (by decide +kernel)) (hts (.instanceMethod yX7_init) (by decide +kernel)) rfl (by decide +kernel) ⟨Nat.le_of_ble_eq_true rfl, Nat.le_of_ble_eq_true rfl⟩) rfl hl.1 rfl (Nat.le_of_ble_eq_true rfl) dX7_copy_4 ⟨Nat.le_of_ble_eq_true rfl, Nat.le_of_ble_eq_true rfl⟩) (fun ws_2 H locs hp9 J => ?_)
  obtain ⟨k2, ⟨fe_2, ro_2, sa_2, ra_2, hlen2, G2_a0, N2_0, N2_1, N2_2, hSN_2⟩⟩ := hp9
  have hSN := hSN.keep k2 (fun r9 hr9 => by simp only [List.mem_cons, rg_mem, List.not_mem_nil, or_false, not_or]; omega)
  have lp2 := hk.1
  have b_2_0 := zlt G1_0
  have b_2_1 := zlt G1_1
  have b_2_2 := zlt G1_n
  have hk := hk.transN k2 (by intro q9 hq9; simp only [List.mem_cons, List.not_mem_nil, or_false] at hq9 ⊢; omega)
  have G2_0 := k2.2 qz _ (by simp only [List.mem_cons, List.not_mem_nil, or_false]; omega) G1_0
  have G2_1 := k2.2 qs _ (by simp only [List.mem_cons, List.not_mem_nil, or_false]; omega) G1_1
  obtain ⟨pn_2_0, hpn_2_0⟩ : ∃ z : Nat, z = ws_1.length + 0 := ⟨_, rfl⟩
  rw [← hpn_2_0] at N2_0
  obtain ⟨pn_2_1, hpn_2_1⟩ : ∃ z : Nat, z = ws_1.length + 1 := ⟨_, rfl⟩
  rw [← hpn_2_1] at N2_1
  obtain ⟨pn_2_2, hpn_2_2⟩ : ∃ z : Nat, z = ws_1.length + 2 := ⟨_, rfl⟩
  rw [← hpn_2_2] at N2_2
  refine lv_astore_n (lv' := [(1, .ref q0), (0, .ref z)]) hx hb dX7_copy_7 rfl hl (by decide) rfl (fun ls hl => ?_)
  refine lv_aload_n hx hb dX7_copy_8 rfl (lv_at hl 0 rfl) ?_
  refine lv_aload_n hx hb dX7_copy_9 rfl (lv_at hl 1 rfl) ?_
  refine z_get (C := RX7) (T := TX7) (N := 8) (ci := 8) (v := .ref fe) X J hi_X7 qz G2_0 rfl 0 (by decide) (by decide +kernel) rfl dX7_copy_10 ?_
  refine z_put (C := RX7) (T := TX7) (N := 8) (ci := 8) (v := .ref fe) X J hi_X7 tyX7 tyX7_ok nmX7 pn_1 G2_a0 rfl 0 (by decide) (by decide +kernel) rfl rfl rfl (Nat.le_of_ble_eq_true rfl) dX7_copy_13 (fun H locs J => ?_)
  have J : zJ E (ws_2.set pn_1 (q0, .inr (8, [.ref fe, .ref ro_2, .ref sa_2, .int 15, .int 0, .int 0, .int 0, .int 0]))) s H locs := J
  have hSN := hSN.keep (zK.set (S := [pn_1]) (ws := ws_2) (q := pn_1) (e := (q0, .inr (8, [.ref fe, .ref ro_2, .ref sa_2, .int 15, .int 0, .int 0, .int 0, .int 0]))) (List.mem_singleton.mpr rfl)) (fun r9 hr9 => by simp only [List.mem_cons, rg_mem, List.not_mem_nil, or_false, not_or]; omega)
  have hk := hk.setNew (q := pn_1) (e := (q0, .inr (8, [.ref fe, .ref ro_2, .ref sa_2, .int 15, .int 0, .int 0, .int 0, .int 0]))) (by omega)
  have G3_0 := zset_ne (q := pn_1) (e' := (q0, .inr (8, [.ref fe, .ref ro_2, .ref sa_2, .int 15, .int 0, .int 0, .int 0, .int 0]))) (by omega) G2_0
  have G3_1 := zset_ne (q := pn_1) (e' := (q0, .inr (8, [.ref fe, .ref ro_2, .ref sa_2, .int 15, .int 0, .int 0, .int 0, .int 0]))) (by omega) G2_1
  have G3_2 := zset_eq (e' := (q0, .inr (8, [.ref fe, .ref ro_2, .ref sa_2, .int 15, .int 0, .int 0, .int 0, .int 0]))) G2_a0
  have G3_3 := zset_ne (q := pn_1) (e' := (q0, .inr (8, [.ref fe, .ref ro_2, .ref sa_2, .int 15, .int 0, .int 0, .int 0, .int 0]))) (by omega) N2_0
  have G3_4 := zset_ne (q := pn_1) (e' := (q0, .inr (8, [.ref fe, .ref ro_2, .ref sa_2, .int 15, .int 0, .int 0, .int 0, .int 0]))) (by omega) N2_1
  have G3_5 := zset_ne (q := pn_1) (e' := (q0, .inr (8, [.ref fe, .ref ro_2, .ref sa_2, .int 15, .int 0, .int 0, .int 0, .int 0]))) (by omega) N2_2
  generalize hws3 : (ws_2.set pn_1 (q0, .inr (8, [.ref fe, .ref ro_2, .ref sa_2, .int 15, .int 0, .int 0, .int 0, .int 0]))) = ws_3 at J hk G3_0 G3_1 G3_2 G3_3 G3_4 G3_5 hSN
  refine lv_aload_n hx hb dX7_copy_16 rfl (lv_at hl 0 rfl) ?_
  refine lv_aload_n hx hb dX7_copy_17 rfl (lv_at hl 1 rfl) ?_
  refine z_get (C := RX7) (T := TX7) (N := 8) (ci := 8) (v := .ref ro) X J hi_X7 qz G3_0 rfl 1 (by decide) (by decide +kernel) rfl dX7_copy_18 ?_
  refine z_put (C := RX7) (T := TX7) (N := 8) (ci := 8) (v := .ref ro) X J hi_X7 tyX7 tyX7_ok nmX7 pn_1 G3_2 rfl 1 (by decide) (by decide +kernel) rfl rfl rfl (Nat.le_of_ble_eq_true rfl) dX7_copy_21 (fun H locs J => ?_)
  have J : zJ E (ws_3.set pn_1 (q0, .inr (8, [.ref fe, .ref ro, .ref sa_2, .int 15, .int 0, .int 0, .int 0, .int 0]))) s H locs := J
  have hSN := hSN.keep (zK.set (S := [pn_1]) (ws := ws_3) (q := pn_1) (e := (q0, .inr (8, [.ref fe, .ref ro, .ref sa_2, .int 15, .int 0, .int 0, .int 0, .int 0]))) (List.mem_singleton.mpr rfl)) (fun r9 hr9 => by simp only [List.mem_cons, rg_mem, List.not_mem_nil, or_false, not_or]; omega)
  have hk := hk.setNew (q := pn_1) (e := (q0, .inr (8, [.ref fe, .ref ro, .ref sa_2, .int 15, .int 0, .int 0, .int 0, .int 0]))) (by omega)
  have G4_0 := zset_ne (q := pn_1) (e' := (q0, .inr (8, [.ref fe, .ref ro, .ref sa_2, .int 15, .int 0, .int 0, .int 0, .int 0]))) (by omega) G3_0
  have G4_1 := zset_ne (q := pn_1) (e' := (q0, .inr (8, [.ref fe, .ref ro, .ref sa_2, .int 15, .int 0, .int 0, .int 0, .int 0]))) (by omega) G3_1
  have G4_2 := zset_eq (e' := (q0, .inr (8, [.ref fe, .ref ro, .ref sa_2, .int 15, .int 0, .int 0, .int 0, .int 0]))) G3_2
  have G4_3 := zset_ne (q := pn_1) (e' := (q0, .inr (8, [.ref fe, .ref ro, .ref sa_2, .int 15, .int 0, .int 0, .int 0, .int 0]))) (by omega) G3_3
  have G4_4 := zset_ne (q := pn_1) (e' := (q0, .inr (8, [.ref fe, .ref ro, .ref sa_2, .int 15, .int 0, .int 0, .int 0, .int 0]))) (by omega) G3_4
  have G4_5 := zset_ne (q := pn_1) (e' := (q0, .inr (8, [.ref fe, .ref ro, .ref sa_2, .int 15, .int 0, .int 0, .int 0, .int 0]))) (by omega) G3_5
  generalize hws4 : (ws_3.set pn_1 (q0, .inr (8, [.ref fe, .ref ro, .ref sa_2, .int 15, .int 0, .int 0, .int 0, .int 0]))) = ws_4 at J hk G4_0 G4_1 G4_2 G4_3 G4_4 G4_5 hSN
  refine lv_iconst (v := nI 0) hx hb dX7_copy_24 rfl ?_
  refine lv_istore_n (lv' := [(2, .int (nI 0)), (1, .ref q0), (0, .ref z)]) hx hb dX7_copy_25 rfl hl (by decide) rfl (fun ls hl => ?_)
  obtain ⟨b9, hb9⟩ : ∃ z : Nat, z = ws_4.length := ⟨_, rfl⟩
  have bz0 : qz < b9 := by rw [hb9]; exact zlt G4_0
  have bz1 : qs < b9 := by rw [hb9]; exact zlt G4_1
  have bz2 : pn_1 < b9 := by rw [hb9]; exact zlt G4_2
  have bz3 : pn_2_0 < b9 := by rw [hb9]; exact zlt G4_3
  have bz4 : pn_2_1 < b9 := by rw [hb9]; exact zlt G4_4
  have bz5 : pn_2_2 < b9 := by rw [hb9]; exact zlt G4_5
  have bzw : ws.length ≤ b9 := by rw [hb9]; exact hk.1
  have loop_26 : ∀ (k9 i : Nat) (g2 : Nat → Option Nat), i + k9 = 20 → ∀ (wl26 : va_W) (H : Heap) (locs : List Loc) (ls : Array Slot), zK [] ws wl26 → wl26[qz]? = some (z, .inr (8, [.ref fe, .ref ro, .ref sa, .int lim, .int sup, .int off, .int plo, .int hrs])) → wl26[qs]? = some (sa, zA4 E 20 gs) → wl26[pn_1]? = some (q0, .inr (8, [.ref fe, .ref ro, .ref sa_2, .int 15, .int 0, .int 0, .int 0, .int 0])) → wl26[pn_2_0]? = some (fe_2, zA4 E 0 (fun _ => none)) → wl26[pn_2_1]? = some (ro_2, zA4 E 0 (fun _ => none)) → wl26[pn_2_2]? = some (sa_2, zA4 E 20 g2) → wl26.length = b9 + i → SNk E wl26 b9 g2 sn i → SN E wl26 b gs sn → zJ E wl26 s H locs → lv_has ls 3 [(2, .int (nI i)), (1, .ref q0), (0, .ref z)] → W p l e (headSpec wsX7_copy ({ frames := 2, cells := 44, slots := 828, locals := 32 } : Room)).room s m args below meth c H locs (24 + i) (428 + 20 * i) QQ (F0 m 26 ls []) := by
    intro k9
    induction k9 with
    | zero =>
      intro i g2 hik wl26 H locs ls hk L26_0 L26_1 L26_2 L26_3 L26_4 L26_5 hlw hP hSN J hl
      obtain rfl : 20 = i := by omega
      refine lv_iload_n hx hb dX7_copy_26 rfl (lv_at hl 0 rfl) ?_
      refine lv_bipush (v := nI 20) hx hb dX7_copy_27 (by decide) ?_
      refine lv_icmp_ge (tgt := 56) hx hb dX7_copy_29 (by decide) (fun cz29 => ?_) (fun cz29 => by exact (cz29 (nI_le (Nat.le_refl _) (by omega))).elim)
      refine lv_aload_n hx hb dX7_copy_56 rfl (lv_at hl 1 rfl) ?_
      refine lv_aload_n hx hb dX7_copy_57 rfl (lv_at hl 2 rfl) ?_
      refine z_get (C := RX7) (T := TX7) (N := 8) (ci := 8) (v := .int lim) X J hi_X7 qz L26_0 rfl 3 (by decide) (by decide +kernel) rfl dX7_copy_58 ?_
      refine z_put (C := RX7) (T := TX7) (N := 8) (ci := 8) (v := .int lim) X J hi_X7 tyX7 tyX7_ok nmX7 pn_1 L26_2 rfl 3 (by decide) (by decide +kernel) rfl rfl rfl (Nat.le_of_ble_eq_true rfl) dX7_copy_61 (fun H locs J => ?_)
      have J : zJ E (wl26.set pn_1 (q0, .inr (8, [.ref fe, .ref ro, .ref sa_2, .int lim, .int 0, .int 0, .int 0, .int 0]))) s H locs := J
      have hSN := hSN.keep (zK.set (S := [pn_1]) (ws := wl26) (q := pn_1) (e := (q0, .inr (8, [.ref fe, .ref ro, .ref sa_2, .int lim, .int 0, .int 0, .int 0, .int 0]))) (List.mem_singleton.mpr rfl)) (fun r9 hr9 => by simp only [List.mem_cons, rg_mem, List.not_mem_nil, or_false, not_or]; omega)
      have hP := hP.keep (zK.set (S := [pn_1]) (ws := wl26) (q := pn_1) (e := (q0, .inr (8, [.ref fe, .ref ro, .ref sa_2, .int lim, .int 0, .int 0, .int 0, .int 0]))) (List.mem_singleton.mpr rfl)) (fun r9 hr9 => by simp only [List.mem_cons, rg_mem, List.not_mem_nil, or_false, not_or]; omega)
      have hk := hk.setNew (q := pn_1) (e := (q0, .inr (8, [.ref fe, .ref ro, .ref sa_2, .int lim, .int 0, .int 0, .int 0, .int 0]))) (by omega)
      have G5_0 := zset_ne (q := pn_1) (e' := (q0, .inr (8, [.ref fe, .ref ro, .ref sa_2, .int lim, .int 0, .int 0, .int 0, .int 0]))) (by omega) L26_0
      have G5_1 := zset_ne (q := pn_1) (e' := (q0, .inr (8, [.ref fe, .ref ro, .ref sa_2, .int lim, .int 0, .int 0, .int 0, .int 0]))) (by omega) L26_1
      have G5_2 := zset_eq (e' := (q0, .inr (8, [.ref fe, .ref ro, .ref sa_2, .int lim, .int 0, .int 0, .int 0, .int 0]))) L26_2
      have G5_3 := zset_ne (q := pn_1) (e' := (q0, .inr (8, [.ref fe, .ref ro, .ref sa_2, .int lim, .int 0, .int 0, .int 0, .int 0]))) (by omega) L26_3
      have G5_4 := zset_ne (q := pn_1) (e' := (q0, .inr (8, [.ref fe, .ref ro, .ref sa_2, .int lim, .int 0, .int 0, .int 0, .int 0]))) (by omega) L26_4
      have G5_5 := zset_ne (q := pn_1) (e' := (q0, .inr (8, [.ref fe, .ref ro, .ref sa_2, .int lim, .int 0, .int 0, .int 0, .int 0]))) (by omega) L26_5
      generalize hws5 : (wl26.set pn_1 (q0, .inr (8, [.ref fe, .ref ro, .ref sa_2, .int lim, .int 0, .int 0, .int 0, .int 0]))) = ws_5 at J hk G5_0 G5_1 G5_2 G5_3 G5_4 G5_5 hSN hP
      refine lv_aload_n hx hb dX7_copy_64 rfl (lv_at hl 1 rfl) ?_
      refine lv_aload_n hx hb dX7_copy_65 rfl (lv_at hl 2 rfl) ?_
      refine z_get (C := RX7) (T := TX7) (N := 8) (ci := 8) (v := .int sup) X J hi_X7 qz G5_0 rfl 4 (by decide) (by decide +kernel) rfl dX7_copy_66 ?_
      refine z_put (C := RX7) (T := TX7) (N := 8) (ci := 8) (v := .int sup) X J hi_X7 tyX7 tyX7_ok nmX7 pn_1 G5_2 rfl 4 (by decide) (by decide +kernel) rfl rfl rfl (Nat.le_of_ble_eq_true rfl) dX7_copy_69 (fun H locs J => ?_)
      have J : zJ E (ws_5.set pn_1 (q0, .inr (8, [.ref fe, .ref ro, .ref sa_2, .int lim, .int sup, .int 0, .int 0, .int 0]))) s H locs := J
      have hSN := hSN.keep (zK.set (S := [pn_1]) (ws := ws_5) (q := pn_1) (e := (q0, .inr (8, [.ref fe, .ref ro, .ref sa_2, .int lim, .int sup, .int 0, .int 0, .int 0]))) (List.mem_singleton.mpr rfl)) (fun r9 hr9 => by simp only [List.mem_cons, rg_mem, List.not_mem_nil, or_false, not_or]; omega)
      have hP := hP.keep (zK.set (S := [pn_1]) (ws := ws_5) (q := pn_1) (e := (q0, .inr (8, [.ref fe, .ref ro, .ref sa_2, .int lim, .int sup, .int 0, .int 0, .int 0]))) (List.mem_singleton.mpr rfl)) (fun r9 hr9 => by simp only [List.mem_cons, rg_mem, List.not_mem_nil, or_false, not_or]; omega)
      have hk := hk.setNew (q := pn_1) (e := (q0, .inr (8, [.ref fe, .ref ro, .ref sa_2, .int lim, .int sup, .int 0, .int 0, .int 0]))) (by omega)
      have G6_0 := zset_ne (q := pn_1) (e' := (q0, .inr (8, [.ref fe, .ref ro, .ref sa_2, .int lim, .int sup, .int 0, .int 0, .int 0]))) (by omega) G5_0
      have G6_1 := zset_ne (q := pn_1) (e' := (q0, .inr (8, [.ref fe, .ref ro, .ref sa_2, .int lim, .int sup, .int 0, .int 0, .int 0]))) (by omega) G5_1
      have G6_2 := zset_eq (e' := (q0, .inr (8, [.ref fe, .ref ro, .ref sa_2, .int lim, .int sup, .int 0, .int 0, .int 0]))) G5_2
      have G6_3 := zset_ne (q := pn_1) (e' := (q0, .inr (8, [.ref fe, .ref ro, .ref sa_2, .int lim, .int sup, .int 0, .int 0, .int 0]))) (by omega) G5_3
      have G6_4 := zset_ne (q := pn_1) (e' := (q0, .inr (8, [.ref fe, .ref ro, .ref sa_2, .int lim, .int sup, .int 0, .int 0, .int 0]))) (by omega) G5_4
      have G6_5 := zset_ne (q := pn_1) (e' := (q0, .inr (8, [.ref fe, .ref ro, .ref sa_2, .int lim, .int sup, .int 0, .int 0, .int 0]))) (by omega) G5_5
      generalize hws6 : (ws_5.set pn_1 (q0, .inr (8, [.ref fe, .ref ro, .ref sa_2, .int lim, .int sup, .int 0, .int 0, .int 0]))) = ws_6 at J hk G6_0 G6_1 G6_2 G6_3 G6_4 G6_5 hSN hP
      refine lv_aload_n hx hb dX7_copy_72 rfl (lv_at hl 1 rfl) ?_
      refine W.widen (k := 44) (n := 828) (by omega) (by omega) ?_
      subst hQ
      exact W.aret (v := .ref q0) hx hb hr (by first | exact Or.inl ⟨_, rfl⟩ | exact Or.inr ⟨_, rfl⟩) (Or.inr ⟨_, rfl⟩) (fun t ht hW => ⟨⟨some q0, ws_6, rfl, ⟨hk, ⟨q0, pn_1, sa_2, pn_2_2, b9, g2, G6_2, G6_5, hP, (by omega), (by omega), (by omega), rfl⟩⟩, J.I X ht hW.alike⟩, J.F ht⟩) J.locs dX7_copy_73
    | succ k9 ih_26 =>
      intro i g2 hik wl26 H locs ls hk L26_0 L26_1 L26_2 L26_3 L26_4 L26_5 hlw hP hSN J hl
      refine lv_iload_n hx hb dX7_copy_26 rfl (lv_at hl 0 rfl) ?_
      refine lv_bipush (v := nI 20) hx hb dX7_copy_27 (by decide) ?_
      refine lv_icmp_ge (tgt := 56) hx hb dX7_copy_29 (by decide) (fun cz29 => by exact (nI_ge (by omega) (by omega) cz29).elim) (fun cz29 => ?_)
      obtain ⟨ra, rf, hra, hrc, hrf⟩ := hSN i (by omega)
      refine lv_aload_n hx hb dX7_copy_32 rfl (lv_at hl 1 rfl) ?_
      refine z_get (C := RX7) (T := TX7) (N := 8) (ci := 8) (v := .ref sa_2) X J hi_X7 pn_1 L26_2 rfl 2 (by decide) (by decide +kernel) rfl dX7_copy_33 ?_
      refine lv_iload_n hx hb dX7_copy_36 rfl (lv_at hl 0 rfl) ?_
      refine lv_aload_n hx hb dX7_copy_37 rfl (lv_at hl 2 rfl) ?_
      refine z_get (C := RX7) (T := TX7) (N := 8) (ci := 8) (v := .ref sa) X J hi_X7 qz L26_0 rfl 2 (by decide) (by decide +kernel) rfl dX7_copy_38 ?_
      refine lv_iload_n hx hb dX7_copy_41 rfl (lv_at hl 0 rfl) ?_
      refine z_aaldA X J qs L26_1 (vp_in_nI (by omega) (by first | decide | omega)) dX7_copy_42 ?_
      refine W.eq (g2 := F0 m 43 ls [va_rf (gs i), .int (nI i), .ref sa_2]) (congrArg (fun z9 : Option Nat => F0 m 43 ls [va_rf z9, .int (nI i), .ref sa_2]) (show (gs (nI i).toNatClampNeg : Option Nat) = gs i from (congrArg _ (nI_clamp (by omega))))) ?_
      refine W.eq (g2 := F0 m 43 ls [.ref ra, .int (nI i), .ref sa_2]) (by rw [show gs i = some ra from hra]; rfl) ?_
      refine z_cloneI X J hl.1 (b + i) hrc (by decide +kernel) (Nat.le_of_ble_eq_true rfl) (Nat.le_of_ble_eq_true rfl) (by show _ ≤ 44; omega) (by show _ ≤ 828; omega) dX7_copy_43 (fun q43 H J => ?_)
      have hSN := hSN.keep (zK.app (S := []) (ws := wl26) (more := [(q43, zI4 E 20 rf)])) (fun _ _ => List.not_mem_nil)
      have hP := hP.keep (zK.app (S := []) (ws := wl26) (more := [(q43, zI4 E 20 rf)])) (fun _ _ => List.not_mem_nil)
      have lp5 := hk.1
      have hk := hk.trans (zK.app (more := [(q43, zI4 E 20 rf)]))
      have bG5_0 := zlt L26_0
      have G5_0 := zapp (x := (q43, zI4 E 20 rf)) L26_0
      have bG5_1 := zlt L26_1
      have G5_1 := zapp (x := (q43, zI4 E 20 rf)) L26_1
      have bG5_2 := zlt L26_2
      have G5_2 := zapp (x := (q43, zI4 E 20 rf)) L26_2
      have bG5_3 := zlt L26_3
      have G5_3 := zapp (x := (q43, zI4 E 20 rf)) L26_3
      have bG5_4 := zlt L26_4
      have G5_4 := zapp (x := (q43, zI4 E 20 rf)) L26_4
      have bG5_5 := zlt L26_5
      have G5_5 := zapp (x := (q43, zI4 E 20 rf)) L26_5
      have bG5_6 := zlt hrc
      have G5_6 := zapp (x := (q43, zI4 E 20 rf)) hrc
      have G5_n := zapp_new (ws := wl26) (x := (q43, zI4 E 20 rf))
      generalize hws5 : wl26 ++ [(q43, zI4 E 20 rf)] = ws_5 at J hk G5_0 G5_1 G5_2 G5_3 G5_4 G5_5 G5_6 hSN hP G5_n
      generalize hpn5 : wl26.length = pn_5 at G5_n lp5 bG5_0 bG5_1 bG5_2 bG5_3 bG5_4 bG5_5 bG5_6
      refine z_castI X J pn_5 G5_n (by decide +kernel) dX7_copy_46 ?_
      refine z_aastA X J pn_2_2 pn_5 G5_5 G5_n (vp_in_nI (by omega) (by first | decide | omega)) dX7_copy_49 (fun H locs J => ?_)
      rw [show va_up g2 (nI i).toNatClampNeg (some q43) = va_up g2 i (some q43) from (by rw [nI_clamp (by omega)])] at J
      have hSN := hSN.keep (zK.set (S := [pn_2_2]) (ws := ws_5) (q := pn_2_2) (e := (sa_2, zA4 E 20 (va_up g2 i (some q43)))) (List.mem_singleton.mpr rfl)) (fun r9 hr9 => by simp only [List.mem_cons, rg_mem, List.not_mem_nil, or_false, not_or]; omega)
      have hP := hP.keep (zK.set (S := [pn_2_2]) (ws := ws_5) (q := pn_2_2) (e := (sa_2, zA4 E 20 (va_up g2 i (some q43)))) (List.mem_singleton.mpr rfl)) (fun r9 hr9 => by simp only [List.mem_cons, rg_mem, List.not_mem_nil, or_false, not_or]; omega)
      have hk := hk.setNew (q := pn_2_2) (e := (sa_2, zA4 E 20 (va_up g2 i (some q43)))) (by omega)
      have G6_0 := zset_ne (q := pn_2_2) (e' := (sa_2, zA4 E 20 (va_up g2 i (some q43)))) (by omega) G5_0
      have G6_1 := zset_ne (q := pn_2_2) (e' := (sa_2, zA4 E 20 (va_up g2 i (some q43)))) (by omega) G5_1
      have G6_2 := zset_ne (q := pn_2_2) (e' := (sa_2, zA4 E 20 (va_up g2 i (some q43)))) (by omega) G5_2
      have G6_3 := zset_ne (q := pn_2_2) (e' := (sa_2, zA4 E 20 (va_up g2 i (some q43)))) (by omega) G5_3
      have G6_4 := zset_ne (q := pn_2_2) (e' := (sa_2, zA4 E 20 (va_up g2 i (some q43)))) (by omega) G5_4
      have G6_5 := zset_eq (e' := (sa_2, zA4 E 20 (va_up g2 i (some q43)))) G5_5
      have G6_6 := zset_ne (q := pn_2_2) (e' := (sa_2, zA4 E 20 (va_up g2 i (some q43)))) (by omega) G5_6
      have G6_7 := zset_ne (q := pn_2_2) (e' := (sa_2, zA4 E 20 (va_up g2 i (some q43)))) (by omega) G5_n
      generalize hws6 : (ws_5.set pn_2_2 (sa_2, zA4 E 20 (va_up g2 i (some q43)))) = ws_6 at J hk G6_0 G6_1 G6_2 G6_3 G6_4 G6_5 G6_6 G6_7 hSN hP
      refine lv_iinc (v := nI (i + 1)) (lv' := [(2, .int (nI (i + 1))), (1, .ref q0), (0, .ref z)]) hx hb dX7_copy_50 hl (k := 0) rfl (nI_1 i) (by decide) rfl (fun ls hl => ?_)
      refine lv_goto (tgt := 26) hx hb dX7_copy_53 (by decide) ?_
      refine W.widen (k := (24 + (i + 1))) (n := (428 + 20 * (i + 1))) (by omega) (by omega) ?_
      exact ih_26 (i + 1) (va_up g2 i (some q43)) (by omega) _ _ _ _ hk G6_0 G6_1 G6_2 G6_3 G6_4 G6_5 (by rw [← hws6, List.length_set, ← hws5, List.length_append, hlw]; rfl) (hP.push (by rw [← hlw, hpn5]; exact G6_7) hrf) hSN J (lv_sub hl [0, 1, 2] rfl)
  exact loop_26 20 0 (fun j => if j < 20 then some (ra_2 j) else none) (by omega) _ _ _ _ hk G4_0 G4_1 G4_2 G4_3 G4_4 G4_5 (by omega) (fun r9 hr9 => absurd hr9 (Nat.not_lt_zero _)) hSN J (lv_sub hl [0, 1, 2] rfl)
