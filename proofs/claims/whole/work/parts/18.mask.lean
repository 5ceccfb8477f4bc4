set_option maxHeartbeats 400000 in
set_option maxRecDepth 100000 in
theorem cX7_blow_ok (l : Launch) (E : zG) {ws : va_W} {mo mf md mi ms9 mk mt nf nr : Nat} {th lim sup off plo hrs : Int32} {fa sn tp : Nat → Int32} {wd stg du : Int32} (Fa0 : ws[11]? = some (mo, .inr (8, [.int th, .int (nI nf), .ref mf, .int (nI nr), .ref md, .ref mi, .int lim, .int sup, .int off, .int plo, .int hrs, .ref ms9, .ref mk, .ref mt]))) (Fa1 : ws[12]? = some (mf, zI4 E 66 fa)) (Fa2 : ws[15]? = some (ms9, zI4 E 400 sn)) (Fa3 : ws[17]? = some (mt, zI4 E 400 tp)) (hnf : nf ≤ 10) (hok : ∀ j, j < nf → okF fa j) : Met l yX7_blow wsX7_blow ({ frames := 4, cells := 0, slots := 0, locals := 106 } : Room) (va_Pc [.ref mo, .int wd, .int stg, .int du] (zI E ws)) (va_Qi (fun (r : Int32) (ws' : va_W) => (zK [11, 15, 17] ws ws') ∧ (∃ (tq : Nat → Int32), (ws'[11]? = some (mo, .inr (8, [.int (kBlow wd stg du), .int (nI nf), .ref mf, .int (nI nr), .ref md, .ref mi, .int lim, .int sup, .int (sel (kBlow wd stg du) (off + (hsS stg sup (hgS fa (-1) nf).1 (hgS fa (-1) nf).2 wd sn du.toNatClampNeg).1) off), .int plo, .int (sel (kBlow wd stg du) (hrs + du) hrs), .ref ms9, .ref mk, .ref mt]))) ∧ (ws'[15]? = some (ms9, zI4 E 400 (sel (kBlow wd stg du) (hsS stg sup (hgS fa (-1) nf).1 (hgS fa (-1) nf).2 wd sn du.toNatClampNeg).2.1 sn))) ∧ (ws'[17]? = some (mt, zI4 E 400 tq)) ∧ (r = sel (kBlow wd stg du) (hsS stg sup (hgS fa (-1) nf).1 (hgS fa (-1) nf).2 wd sn du.toNatClampNeg).1 0))) (zI E) (zA E)) 0 0 (zA E) := by
  refine Met.ofW (cc := cX7_blow) (maxL := 5) (ret := (some .int)) (by decide) rfl ?_
  intro p e s m args below meth c s₁ B hml hv
  obtain ⟨hargs9, hI⟩ := hv
  have hx := B.exec
  have hb := B.bytes
  have hr := B.returns
  have hlocks := B.notSynchronized
  have X : zC E p m c cX7_blow 5 s args wsX7_blow RX7 := z_open B hml hI
  have hown := X.1.2.2.2.1
  have hts := X.1.2.2.2.2
  have J := hI.J
  have hi_X7 : ∀ w ∈ wsX70, w ∈ wsX7_blow := by decide +kernel
  have hk : zK [11, 15, 17] ws ws := zK.rf
  have hl := lv_entry ([.ref mo, .int wd, .int stg, .int du]) (n := 5) (Nat.le_of_ble_eq_true rfl)
  rw [show entryFrame m args 5 = entryFrame m ([.ref mo, .int wd, .int stg, .int du] : List Value).toArray 5 from by rw [hargs9], lg_entry_eq]
  generalize (lg_sl ([.ref mo, .int wd, .int stg, .int du]) ++ List.replicate (5 - (lg_sl ([.ref mo, .int wd, .int stg, .int du])).length) Slot.unset).toArray = ls at hl ⊢
  have hl : lv_has ls 5 [(0, .ref mo), (1, .int wd), (2, .int stg), (3, .int du)] := hl
  generalize hQ : (MQ below (va_Qi (fun (r : Int32) (ws' : va_W) => (zK [11, 15, 17] ws ws') ∧ (∃ (tq : Nat → Int32), (ws'[11]? = some (mo, .inr (8, [.int (kBlow wd stg du), .int (nI nf), .ref mf, .int (nI nr), .ref md, .ref mi, .int lim, .int sup, .int (sel (kBlow wd stg du) (off + (hsS stg sup (hgS fa (-1) nf).1 (hgS fa (-1) nf).2 wd sn du.toNatClampNeg).1) off), .int plo, .int (sel (kBlow wd stg du) (hrs + du) hrs), .ref ms9, .ref mk, .ref mt]))) ∧ (ws'[15]? = some (ms9, zI4 E 400 (sel (kBlow wd stg du) (hsS stg sup (hgS fa (-1) nf).1 (hgS fa (-1) nf).2 wd sn du.toNatClampNeg).2.1 sn))) ∧ (ws'[17]? = some (mt, zI4 E 400 tq)) ∧ (r = sel (kBlow wd stg du) (hsS stg sup (hgS fa (-1) nf).1 (hgS fa (-1) nf).2 wd sn du.toNatClampNeg).1 0))) (zI E) (zA E)) args s 0 0 (zA E)) = QQ
  refine lv_aload_n hx hb dX7_blow_0 rfl (lv_at hl 0 rfl) ?_
  refine lv_iconst (v := 0) hx hb dX7_blow_1 (by decide) ?_
  refine z_put (C := RX7) (T := TX7) (N := 14) (ci := 8) (v := .int 0) X J hi_X7 tyX7 tyX7_ok nmX7 11 Fa0 rfl 0 (by decide) (by decide +kernel) rfl rfl rfl (Nat.le_of_ble_eq_true rfl) dX7_blow_2 (fun H locs J => ?_)
  have J : zJ E (ws.set 11 (mo, .inr (8, [.int 0, .int (nI nf), .ref mf, .int (nI nr), .ref md, .ref mi, .int lim, .int sup, .int off, .int plo, .int hrs, .ref ms9, .ref mk, .ref mt]))) s H locs := J
  have hk := hk.trans (zK.set (ws := ws) (q := 11) (e := (mo, .inr (8, [.int 0, .int (nI nf), .ref mf, .int (nI nr), .ref md, .ref mi, .int lim, .int sup, .int off, .int plo, .int hrs, .ref ms9, .ref mk, .ref mt]))) (by simp))
  have G1_0 := zset_eq (e' := (mo, .inr (8, [.int 0, .int (nI nf), .ref mf, .int (nI nr), .ref md, .ref mi, .int lim, .int sup, .int off, .int plo, .int hrs, .ref ms9, .ref mk, .ref mt]))) Fa0
  have G1_1 := zset_ne (q := 11) (e' := (mo, .inr (8, [.int 0, .int (nI nf), .ref mf, .int (nI nr), .ref md, .ref mi, .int lim, .int sup, .int off, .int plo, .int hrs, .ref ms9, .ref mk, .ref mt]))) (by decide) Fa1
  have G1_2 := zset_ne (q := 11) (e' := (mo, .inr (8, [.int 0, .int (nI nf), .ref mf, .int (nI nr), .ref md, .ref mi, .int lim, .int sup, .int off, .int plo, .int hrs, .ref ms9, .ref mk, .ref mt]))) (by decide) Fa2
  have G1_3 := zset_ne (q := 11) (e' := (mo, .inr (8, [.int 0, .int (nI nf), .ref mf, .int (nI nr), .ref md, .ref mi, .int lim, .int sup, .int off, .int plo, .int hrs, .ref ms9, .ref mk, .ref mt]))) (by decide) Fa3
  generalize hws1 : (ws.set 11 (mo, .inr (8, [.int 0, .int (nI nf), .ref mf, .int (nI nr), .ref md, .ref mi, .int lim, .int sup, .int off, .int plo, .int hrs, .ref ms9, .ref mk, .ref mt]))) = ws_1 at J hk G1_0 G1_1 G1_2 G1_3
  refine lv_iload_n hx hb dX7_blow_5 rfl (lv_at hl 1 rfl) ?_
  refine z_cr (z_rS (As := [.int wd]) (rest := []) X J (cX7_isWind_ok l E) (va_cwS 1 hts gX7_blow_X7_isWind rfl rfl rfl (by decide +kernel) ⟨Nat.le_of_ble_eq_true rfl, Nat.le_of_ble_eq_true rfl⟩) rfl hl.1 rfl (Nat.le_of_ble_eq_true rfl) dX7_blow_6 ⟨Nat.le_of_ble_eq_true rfl, Nat.le_of_ble_eq_true rfl⟩) (fun r6 e_r6 => ?_)
  subst e_r6
  refine lv_if_ne (tgt := 18) hx hb dX7_blow_9 (by decide) (fun cz9 => ?_) (fun cz9 => ?_)
  · refine lv_iload_n hx hb dX7_blow_18 rfl (lv_at hl 2 rfl) ?_
    refine z_cr (z_rS (As := [.int stg]) (rest := []) X J (cX7_isStrength_ok l E) (va_cwS 1 hts gX7_blow_X7_isStrength rfl rfl rfl (by decide +kernel) ⟨Nat.le_of_ble_eq_true rfl, Nat.le_of_ble_eq_true rfl⟩) rfl hl.1 rfl (Nat.le_of_ble_eq_true rfl) dX7_blow_19 ⟨Nat.le_of_ble_eq_true rfl, Nat.le_of_ble_eq_true rfl⟩) (fun r19 e_r19 => ?_)
    subst e_r19
    refine lv_if_eq (tgt := 35) hx hb dX7_blow_22 (by decide) (fun cz22 => ?_) (fun cz22 => ?_)
    · refine lv_aload_n hx hb dX7_blow_35 rfl (lv_at hl 0 rfl) ?_
      refine lv_iconst (v := 2) hx hb dX7_blow_36 (by decide) ?_
      refine z_ci J (z_rV (As := [.int 2]) (rest := []) (ci := 8) (q0 := 11) X J (cX7_no_ok l E G1_0) (cwV 1 hts gX7_blow_X7_no rfl rfl rfl (by decide +kernel) ⟨Nat.le_of_ble_eq_true rfl, Nat.le_of_ble_eq_true rfl⟩) G1_0 rfl rfl rfl hl.1 rfl (Nat.le_of_ble_eq_true rfl) dX7_blow_37 ⟨Nat.le_of_ble_eq_true rfl, Nat.le_of_ble_eq_true rfl⟩) (fun r37 ws_2 H locs hp9 J => ?_)
      obtain ⟨k2, hl9_2, G2_a0, e_r37⟩ := hp9
      have hk := hk.trans (k2.mono (by decide))
      have G2_1 := k2.2 12 _ (by decide) G1_1
      have G2_2 := k2.2 15 _ (by decide) G1_2
      have G2_3 := k2.2 17 _ (by decide) G1_3
      subst e_r37
      have hk0 : (kBlow wd stg du) = 2 := (if_neg (fun q => q (isInS_y cz9))).trans (if_pos (Or.inl (isInS_n cz22)))
      subst hQ
      exact W.iret (v := 0) hx hb hr (fun t ht hW => ⟨⟨0, ws_2, rfl, ⟨hk, ⟨tp, (by simp only [hk0, sel0, sel1, sel2, sel3]; (try rw [eydu9]); (try rw [ekdu9]); exact G2_a0), (by simp only [hk0, sel0, sel1, sel2, sel3]; (try rw [eydu9]); exact G2_2), G2_3, (by simp only [hk0, sel0, sel1, sel2, sel3]; (try rw [eydu9]); try rfl)⟩⟩, J.I X ht hW.alike⟩, J.F ht⟩) J.locs dX7_blow_40
    · refine lv_iload_n hx hb dX7_blow_25 rfl (lv_at hl 3 rfl) ?_
      refine lv_iconst (v := 1) hx hb dX7_blow_26 (by decide) ?_
      refine lv_bipush (v := 24) hx hb dX7_blow_27 (by decide) ?_
      refine z_cr (z_rS (As := [.int du, .int 1, .int 24]) (rest := []) X J (cX7_isIn_ok l E) (va_cwS 3 hts gX7_blow_X7_isIn rfl rfl rfl (by decide +kernel) ⟨Nat.le_of_ble_eq_true rfl, Nat.le_of_ble_eq_true rfl⟩) rfl hl.1 rfl (Nat.le_of_ble_eq_true rfl) dX7_blow_29 ⟨Nat.le_of_ble_eq_true rfl, Nat.le_of_ble_eq_true rfl⟩) (fun r29 e_r29 => ?_)
      subst e_r29
      refine lv_if_ne (tgt := 41) hx hb dX7_blow_32 (by decide) (fun cz32 => ?_) (fun cz32 => ?_)
      · have hwd9 := inR03 (isInS_y cz9)
        obtain ⟨du9, hdu9, hdv9, ekdu9⟩ := inR_1n (b := 24) (by decide) (isInS_y cz32)
        have hl : lv_has ls 5 [(0, .ref mo), (1, .int wd), (2, .int stg), (3, .int (nI du9))] := lv_repl hl (congrArg (fun z9 : Int32 => ([(0, .ref mo), (1, .int wd), (2, .int stg), (3, .int z9)] : List (Nat × Value))) (show du = nI du9 from ekdu9))
        have eydu9 : du.toNatClampNeg = du9 := by rw [ekdu9, nI_clamp (by omega)]
        refine lv_aload_n hx hb dX7_blow_41 rfl (lv_at hl 0 rfl) ?_
        refine lv_aload_n hx hb dX7_blow_42 rfl (lv_at hl 0 rfl) ?_
        refine z_get (C := RX7) (T := TX7) (N := 14) (ci := 8) (v := .int (nI nf)) X J hi_X7 11 G1_0 rfl 1 (by decide) (by decide +kernel) rfl dX7_blow_43 ?_
        refine lv_iconst (v := (-1)) hx hb dX7_blow_46 (by decide) ?_
        refine z_cv J (z_rV (As := [.int (nI nf), .int (-1)]) (rest := []) (ci := 8) (q0 := 11) X J (cX7_stand_ok l E G1_0 G1_1 G1_3 (by omega) hok) (cwV 2 hts gX7_blow_X7_stand rfl rfl rfl (by decide +kernel) ⟨Nat.le_of_ble_eq_true rfl, Nat.le_of_ble_eq_true rfl⟩) G1_0 rfl rfl rfl hl.1 rfl (Nat.le_of_ble_eq_true rfl) dX7_blow_47 ⟨Nat.le_of_ble_eq_true rfl, Nat.le_of_ble_eq_true rfl⟩) (fun ws_2 H locs hp9 J => ?_)
        obtain ⟨k2, ⟨tq_2, G2_a0, e_r47⟩⟩ := hp9
        have hk := hk.trans (k2.mono (by decide))
        have G2_0 := k2.2 11 _ (by decide) G1_0
        have G2_1 := k2.2 12 _ (by decide) G1_1
        have G2_2 := k2.2 15 _ (by decide) G1_2
        refine lv_aload_n hx hb dX7_blow_50 rfl (lv_at hl 0 rfl) ?_
        refine lv_iload_n hx hb dX7_blow_51 rfl (lv_at hl 1 rfl) ?_
        refine lv_iload_n hx hb dX7_blow_52 rfl (lv_at hl 2 rfl) ?_
        refine lv_iload_n hx hb dX7_blow_53 rfl (lv_at hl 3 rfl) ?_
        refine z_ci J (z_rV (As := [.int wd, .int stg, .int (nI du9)]) (rest := []) (ci := 8) (q0 := 11) X J (cX7_blown_ok l E G2_0 G2_1 G2_2 G2_a0 e_r47 (by omega) hok hwd9 (by omega)) (cwV 3 hts gX7_blow_X7_blown rfl rfl rfl (by decide +kernel) ⟨Nat.le_of_ble_eq_true rfl, Nat.le_of_ble_eq_true rfl⟩) G2_0 rfl rfl rfl hl.1 rfl (Nat.le_of_ble_eq_true rfl) dX7_blow_54 ⟨Nat.le_of_ble_eq_true rfl, Nat.le_of_ble_eq_true rfl⟩) (fun r54 ws_3 H locs hp9 J => ?_)
        obtain ⟨k3, G3_a0, e_r54⟩ := hp9
        have hk := hk.trans (k3.mono (by decide))
        have G3_0 := k3.2 11 _ (by decide) G2_0
        have G3_1 := k3.2 12 _ (by decide) G2_1
        have G3_3 := k3.2 17 _ (by decide) G2_a0
        subst e_r54
        refine lv_istore (lv' := [(4, .int ((hsS stg sup ((hgS fa (-1) nf).1) ((hgS fa (-1) nf).2) wd sn du9).1)), (0, .ref mo), (1, .int wd), (2, .int stg), (3, .int (nI du9))]) hx hb dX7_blow_57 hl (by decide) rfl (fun ls hl => ?_)
        refine lv_aload_n hx hb dX7_blow_59 rfl (lv_at hl 1 rfl) ?_
        refine lv_dup hx hb dX7_blow_60 rfl ?_
        refine z_get (C := RX7) (T := TX7) (N := 14) (ci := 8) (v := .int off) X J hi_X7 11 G3_0 rfl 8 (by decide) (by decide +kernel) rfl dX7_blow_61 ?_
        refine lv_iload hx hb dX7_blow_64 (lv_at hl 0 rfl) ?_
        refine lv_iadd hx hb dX7_blow_66 ?_
        refine z_put (C := RX7) (T := TX7) (N := 14) (ci := 8) (v := .int (off + ((hsS stg sup ((hgS fa (-1) nf).1) ((hgS fa (-1) nf).2) wd sn du9).1))) X J hi_X7 tyX7 tyX7_ok nmX7 11 G3_0 rfl 8 (by decide) (by decide +kernel) rfl rfl rfl (Nat.le_of_ble_eq_true rfl) dX7_blow_67 (fun H locs J => ?_)
        have J : zJ E (ws_3.set 11 (mo, .inr (8, [.int 0, .int (nI nf), .ref mf, .int (nI nr), .ref md, .ref mi, .int lim, .int sup, .int (off + ((hsS stg sup ((hgS fa (-1) nf).1) ((hgS fa (-1) nf).2) wd sn du9).1)), .int plo, .int hrs, .ref ms9, .ref mk, .ref mt]))) s H locs := J
        have hk := hk.trans (zK.set (ws := ws_3) (q := 11) (e := (mo, .inr (8, [.int 0, .int (nI nf), .ref mf, .int (nI nr), .ref md, .ref mi, .int lim, .int sup, .int (off + ((hsS stg sup ((hgS fa (-1) nf).1) ((hgS fa (-1) nf).2) wd sn du9).1)), .int plo, .int hrs, .ref ms9, .ref mk, .ref mt]))) (by simp))
        have G4_0 := zset_eq (e' := (mo, .inr (8, [.int 0, .int (nI nf), .ref mf, .int (nI nr), .ref md, .ref mi, .int lim, .int sup, .int (off + ((hsS stg sup ((hgS fa (-1) nf).1) ((hgS fa (-1) nf).2) wd sn du9).1)), .int plo, .int hrs, .ref ms9, .ref mk, .ref mt]))) G3_0
        have G4_1 := zset_ne (q := 11) (e' := (mo, .inr (8, [.int 0, .int (nI nf), .ref mf, .int (nI nr), .ref md, .ref mi, .int lim, .int sup, .int (off + ((hsS stg sup ((hgS fa (-1) nf).1) ((hgS fa (-1) nf).2) wd sn du9).1)), .int plo, .int hrs, .ref ms9, .ref mk, .ref mt]))) (by decide) G3_1
        have G4_2 := zset_ne (q := 11) (e' := (mo, .inr (8, [.int 0, .int (nI nf), .ref mf, .int (nI nr), .ref md, .ref mi, .int lim, .int sup, .int (off + ((hsS stg sup ((hgS fa (-1) nf).1) ((hgS fa (-1) nf).2) wd sn du9).1)), .int plo, .int hrs, .ref ms9, .ref mk, .ref mt]))) (by decide) G3_a0
        have G4_3 := zset_ne (q := 11) (e' := (mo, .inr (8, [.int 0, .int (nI nf), .ref mf, .int (nI nr), .ref md, .ref mi, .int lim, .int sup, .int (off + ((hsS stg sup ((hgS fa (-1) nf).1) ((hgS fa (-1) nf).2) wd sn du9).1)), .int plo, .int hrs, .ref ms9, .ref mk, .ref mt]))) (by decide) G3_3
        generalize hws4 : (ws_3.set 11 (mo, .inr (8, [.int 0, .int (nI nf), .ref mf, .int (nI nr), .ref md, .ref mi, .int lim, .int sup, .int (off + ((hsS stg sup ((hgS fa (-1) nf).1) ((hgS fa (-1) nf).2) wd sn du9).1)), .int plo, .int hrs, .ref ms9, .ref mk, .ref mt]))) = ws_4 at J hk G4_0 G4_1 G4_2 G4_3
        refine lv_aload_n hx hb dX7_blow_70 rfl (lv_at hl 1 rfl) ?_
        refine lv_dup hx hb dX7_blow_71 rfl ?_
        refine z_get (C := RX7) (T := TX7) (N := 14) (ci := 8) (v := .int hrs) X J hi_X7 11 G4_0 rfl 10 (by decide) (by decide +kernel) rfl dX7_blow_72 ?_
        refine lv_iload_n hx hb dX7_blow_75 rfl (lv_at hl 4 rfl) ?_
        refine lv_iadd hx hb dX7_blow_76 ?_
        refine z_put (C := RX7) (T := TX7) (N := 14) (ci := 8) (v := .int (hrs + (nI du9))) X J hi_X7 tyX7 tyX7_ok nmX7 11 G4_0 rfl 10 (by decide) (by decide +kernel) rfl rfl rfl (Nat.le_of_ble_eq_true rfl) dX7_blow_77 (fun H locs J => ?_)
        have J : zJ E (ws_4.set 11 (mo, .inr (8, [.int 0, .int (nI nf), .ref mf, .int (nI nr), .ref md, .ref mi, .int lim, .int sup, .int (off + ((hsS stg sup ((hgS fa (-1) nf).1) ((hgS fa (-1) nf).2) wd sn du9).1)), .int plo, .int (hrs + (nI du9)), .ref ms9, .ref mk, .ref mt]))) s H locs := J
        have hk := hk.trans (zK.set (ws := ws_4) (q := 11) (e := (mo, .inr (8, [.int 0, .int (nI nf), .ref mf, .int (nI nr), .ref md, .ref mi, .int lim, .int sup, .int (off + ((hsS stg sup ((hgS fa (-1) nf).1) ((hgS fa (-1) nf).2) wd sn du9).1)), .int plo, .int (hrs + (nI du9)), .ref ms9, .ref mk, .ref mt]))) (by simp))
        have G5_0 := zset_eq (e' := (mo, .inr (8, [.int 0, .int (nI nf), .ref mf, .int (nI nr), .ref md, .ref mi, .int lim, .int sup, .int (off + ((hsS stg sup ((hgS fa (-1) nf).1) ((hgS fa (-1) nf).2) wd sn du9).1)), .int plo, .int (hrs + (nI du9)), .ref ms9, .ref mk, .ref mt]))) G4_0
        have G5_1 := zset_ne (q := 11) (e' := (mo, .inr (8, [.int 0, .int (nI nf), .ref mf, .int (nI nr), .ref md, .ref mi, .int lim, .int sup, .int (off + ((hsS stg sup ((hgS fa (-1) nf).1) ((hgS fa (-1) nf).2) wd sn du9).1)), .int plo, .int (hrs + (nI du9)), .ref ms9, .ref mk, .ref mt]))) (by decide) G4_1
        have G5_2 := zset_ne (q := 11) (e' := (mo, .inr (8, [.int 0, .int (nI nf), .ref mf, .int (nI nr), .ref md, .ref mi, .int lim, .int sup, .int (off + ((hsS stg sup ((hgS fa (-1) nf).1) ((hgS fa (-1) nf).2) wd sn du9).1)), .int plo, .int (hrs + (nI du9)), .ref ms9, .ref mk, .ref mt]))) (by decide) G4_2
        have G5_3 := zset_ne (q := 11) (e' := (mo, .inr (8, [.int 0, .int (nI nf), .ref mf, .int (nI nr), .ref md, .ref mi, .int lim, .int sup, .int (off + ((hsS stg sup ((hgS fa (-1) nf).1) ((hgS fa (-1) nf).2) wd sn du9).1)), .int plo, .int (hrs + (nI du9)), .ref ms9, .ref mk, .ref mt]))) (by decide) G4_3
        generalize hws5 : (ws_4.set 11 (mo, .inr (8, [.int 0, .int (nI nf), .ref mf, .int (nI nr), .ref md, .ref mi, .int lim, .int sup, .int (off + ((hsS stg sup ((hgS fa (-1) nf).1) ((hgS fa (-1) nf).2) wd sn du9).1)), .int plo, .int (hrs + (nI du9)), .ref ms9, .ref mk, .ref mt]))) = ws_5 at J hk G5_0 G5_1 G5_2 G5_3
        refine lv_iload hx hb dX7_blow_80 (lv_at hl 0 rfl) ?_
        have hk0 : (kBlow wd stg du) = 0 := (if_neg (fun q => q (isInS_y cz9))).trans (if_neg (not_or_e (isInS_y cz22) (isInS_y cz32)))
        subst hQ
        exact W.iret (v := (hsS stg sup ((hgS fa (-1) nf).1) ((hgS fa (-1) nf).2) wd sn du9).1) hx hb hr (fun t ht hW => ⟨⟨(hsS stg sup ((hgS fa (-1) nf).1) ((hgS fa (-1) nf).2) wd sn du9).1, ws_5, rfl, ⟨hk, ⟨tq_2, (by simp only [hk0, sel0, sel1, sel2, sel3]; (try rw [eydu9]); (try rw [ekdu9]); exact G5_0), (by simp only [hk0, sel0, sel1, sel2, sel3]; (try rw [eydu9]); exact G5_2), G5_3, (by simp only [hk0, sel0, sel1, sel2, sel3]; (try rw [eydu9]); try rfl)⟩⟩, J.I X ht hW.alike⟩, J.F ht⟩) J.locs dX7_blow_82
      · refine lv_aload_n hx hb dX7_blow_35 rfl (lv_at hl 0 rfl) ?_
        refine lv_iconst (v := 2) hx hb dX7_blow_36 (by decide) ?_
        refine z_ci J (z_rV (As := [.int 2]) (rest := []) (ci := 8) (q0 := 11) X J (cX7_no_ok l E G1_0) (cwV 1 hts gX7_blow_X7_no rfl rfl rfl (by decide +kernel) ⟨Nat.le_of_ble_eq_true rfl, Nat.le_of_ble_eq_true rfl⟩) G1_0 rfl rfl rfl hl.1 rfl (Nat.le_of_ble_eq_true rfl) dX7_blow_37 ⟨Nat.le_of_ble_eq_true rfl, Nat.le_of_ble_eq_true rfl⟩) (fun r37 ws_2 H locs hp9 J => ?_)
        obtain ⟨k2, hl9_2, G2_a0, e_r37⟩ := hp9
        have hk := hk.trans (k2.mono (by decide))
        have G2_1 := k2.2 12 _ (by decide) G1_1
        have G2_2 := k2.2 15 _ (by decide) G1_2
        have G2_3 := k2.2 17 _ (by decide) G1_3
        subst e_r37
        have hk0 : (kBlow wd stg du) = 2 := (if_neg (fun q => q (isInS_y cz9))).trans (if_pos (Or.inr (isInS_n cz32)))
        subst hQ
        exact W.iret (v := 0) hx hb hr (fun t ht hW => ⟨⟨0, ws_2, rfl, ⟨hk, ⟨tp, (by simp only [hk0, sel0, sel1, sel2, sel3]; (try rw [eydu9]); (try rw [ekdu9]); exact G2_a0), (by simp only [hk0, sel0, sel1, sel2, sel3]; (try rw [eydu9]); exact G2_2), G2_3, (by simp only [hk0, sel0, sel1, sel2, sel3]; (try rw [eydu9]); try rfl)⟩⟩, J.I X ht hW.alike⟩, J.F ht⟩) J.locs dX7_blow_40
  · refine lv_aload_n hx hb dX7_blow_12 rfl (lv_at hl 0 rfl) ?_
    refine lv_iconst (v := 1) hx hb dX7_blow_13 (by decide) ?_
    refine z_ci J (z_rV (As := [.int 1]) (rest := []) (ci := 8) (q0 := 11) X J (cX7_no_ok l E G1_0) (cwV 1 hts gX7_blow_X7_no rfl rfl rfl (by decide +kernel) ⟨Nat.le_of_ble_eq_true rfl, Nat.le_of_ble_eq_true rfl⟩) G1_0 rfl rfl rfl hl.1 rfl (Nat.le_of_ble_eq_true rfl) dX7_blow_14 ⟨Nat.le_of_ble_eq_true rfl, Nat.le_of_ble_eq_true rfl⟩) (fun r14 ws_2 H locs hp9 J => ?_)
    obtain ⟨k2, hl9_2, G2_a0, e_r14⟩ := hp9
    have hk := hk.trans (k2.mono (by decide))
    have G2_1 := k2.2 12 _ (by decide) G1_1
    have G2_2 := k2.2 15 _ (by decide) G1_2
    have G2_3 := k2.2 17 _ (by decide) G1_3
    subst e_r14
    have hk0 : (kBlow wd stg du) = 1 := if_pos (isInS_n cz9)
    subst hQ
    exact W.iret (v := 0) hx hb hr (fun t ht hW => ⟨⟨0, ws_2, rfl, ⟨hk, ⟨tp, (by simp only [hk0, sel0, sel1, sel2, sel3]; (try rw [eydu9]); (try rw [ekdu9]); exact G2_a0), (by simp only [hk0, sel0, sel1, sel2, sel3]; (try rw [eydu9]); exact G2_2), G2_3, (by simp only [hk0, sel0, sel1, sel2, sel3]; (try rw [eydu9]); try rfl)⟩⟩, J.I X ht hW.alike⟩, J.F ht⟩) J.locs dX7_blow_17
set_option maxHeartbeats 400000 in
set_option maxRecDepth 100000 in
theorem cX7_would_ok (l : Launch) (E : zG) {ws : va_W} {mo mf md mi ms9 mk mt nf nr : Nat} {th lim sup off plo hrs : Int32} {fa rd ri sn kp tp : Nat → Int32} {wd stg du ix : Int32} (Fa0 : ws[11]? = some (mo, .inr (8, [.int th, .int (nI nf), .ref mf, .int (nI nr), .ref md, .ref mi, .int lim, .int sup, .int off, .int plo, .int hrs, .ref ms9, .ref mk, .ref mt]))) (Fa1 : ws[12]? = some (mf, zI4 E 66 fa)) (Fa2 : ws[13]? = some (md, zI4 E 4 rd)) (Fa3 : ws[14]? = some (mi, zI4 E 4 ri)) (Fa4 : ws[15]? = some (ms9, zI4 E 400 sn)) (Fa5 : ws[16]? = some (mk, zI4 E 400 kp)) (Fa6 : ws[17]? = some (mt, zI4 E 400 tp)) (hnf : nf ≤ 10) (hok : ∀ j, j < nf → okF fa j) (hnr : nr ≤ 4) (hor : ∀ q, q < nr → okR rd ri q) : Met l yX7_would wsX7_would ({ frames := 4, cells := 0, slots := 0, locals := 106 } : Room) (va_Pc [.ref mo, .int wd, .int stg, .int du, .int ix] (zI E ws)) (va_Qi (fun (r : Int32) (ws' : va_W) => (zK [11, 15, 16, 17] ws ws') ∧ (∃ (kq : Nat → Int32) (tq : Nat → Int32), (ws'[11]? = some (mo, .inr (8, [.int (kWould wd stg du ix (nI nr)), .int (nI nf), .ref mf, .int (nI nr), .ref md, .ref mi, .int lim, .int sup, .int off, .int plo, .int hrs, .ref ms9, .ref mk, .ref mt]))) ∧ (ws'[15]? = some (ms9, zI4 E 400 sn)) ∧ (ws'[16]? = some (mk, zI4 E 400 kq)) ∧ (ws'[17]? = some (mt, zI4 E 400 tq)) ∧ (r = sel (kWould wd stg du ix (nI nr)) (blkG (hsS stg sup (hgS fa (-1) nf).1 (hgS fa (-1) nf).2 wd sn du.toNatClampNeg).2.1 (rfi (rd ix.toNatClampNeg) (ri ix.toNatClampNeg)) (rd ix.toNatClampNeg) lim 20) 0))) (zI E) (zA E)) 0 0 (zA E) := by
  refine Met.ofW (cc := cX7_would) (maxL := 6) (ret := (some .int)) (by decide) rfl ?_
  intro p e s m args below meth c s₁ B hml hv
  obtain ⟨hargs9, hI⟩ := hv
  have hx := B.exec
  have hb := B.bytes
  have hr := B.returns
  have hlocks := B.notSynchronized
  have X : zC E p m c cX7_would 6 s args wsX7_would RX7 := z_open B hml hI
  have hown := X.1.2.2.2.1
  have hts := X.1.2.2.2.2
  have J := hI.J
  have hi_X7 : ∀ w ∈ wsX70, w ∈ wsX7_would := by decide +kernel
  have hk : zK [11, 15, 16, 17] ws ws := zK.rf
  have hl := lv_entry ([.ref mo, .int wd, .int stg, .int du, .int ix]) (n := 6) (Nat.le_of_ble_eq_true rfl)
  rw [show entryFrame m args 6 = entryFrame m ([.ref mo, .int wd, .int stg, .int du, .int ix] : List Value).toArray 6 from by rw [hargs9], lg_entry_eq]
  generalize (lg_sl ([.ref mo, .int wd, .int stg, .int du, .int ix]) ++ List.replicate (6 - (lg_sl ([.ref mo, .int wd, .int stg, .int du, .int ix])).length) Slot.unset).toArray = ls at hl ⊢
  have hl : lv_has ls 6 [(0, .ref mo), (1, .int wd), (2, .int stg), (3, .int du), (4, .int ix)] := hl
  generalize hQ : (MQ below (va_Qi (fun (r : Int32) (ws' : va_W) => (zK [11, 15, 16, 17] ws ws') ∧ (∃ (kq : Nat → Int32) (tq : Nat → Int32), (ws'[11]? = some (mo, .inr (8, [.int (kWould wd stg du ix (nI nr)), .int (nI nf), .ref mf, .int (nI nr), .ref md, .ref mi, .int lim, .int sup, .int off, .int plo, .int hrs, .ref ms9, .ref mk, .ref mt]))) ∧ (ws'[15]? = some (ms9, zI4 E 400 sn)) ∧ (ws'[16]? = some (mk, zI4 E 400 kq)) ∧ (ws'[17]? = some (mt, zI4 E 400 tq)) ∧ (r = sel (kWould wd stg du ix (nI nr)) (blkG (hsS stg sup (hgS fa (-1) nf).1 (hgS fa (-1) nf).2 wd sn du.toNatClampNeg).2.1 (rfi (rd ix.toNatClampNeg) (ri ix.toNatClampNeg)) (rd ix.toNatClampNeg) lim 20) 0))) (zI E) (zA E)) args s 0 0 (zA E)) = QQ
  refine lv_aload_n hx hb dX7_would_0 rfl (lv_at hl 0 rfl) ?_
  refine lv_iconst (v := 0) hx hb dX7_would_1 (by decide) ?_
  refine z_put (C := RX7) (T := TX7) (N := 14) (ci := 8) (v := .int 0) X J hi_X7 tyX7 tyX7_ok nmX7 11 Fa0 rfl 0 (by decide) (by decide +kernel) rfl rfl rfl (Nat.le_of_ble_eq_true rfl) dX7_would_2 (fun H locs J => ?_)
  have J : zJ E (ws.set 11 (mo, .inr (8, [.int 0, .int (nI nf), .ref mf, .int (nI nr), .ref md, .ref mi, .int lim, .int sup, .int off, .int plo, .int hrs, .ref ms9, .ref mk, .ref mt]))) s H locs := J
  have hk := hk.trans (zK.set (ws := ws) (q := 11) (e := (mo, .inr (8, [.int 0, .int (nI nf), .ref mf, .int (nI nr), .ref md, .ref mi, .int lim, .int sup, .int off, .int plo, .int hrs, .ref ms9, .ref mk, .ref mt]))) (by simp))
  have G1_0 := zset_eq (e' := (mo, .inr (8, [.int 0, .int (nI nf), .ref mf, .int (nI nr), .ref md, .ref mi, .int lim, .int sup, .int off, .int plo, .int hrs, .ref ms9, .ref mk, .ref mt]))) Fa0
  have G1_1 := zset_ne (q := 11) (e' := (mo, .inr (8, [.int 0, .int (nI nf), .ref mf, .int (nI nr), .ref md, .ref mi, .int lim, .int sup, .int off, .int plo, .int hrs, .ref ms9, .ref mk, .ref mt]))) (by decide) Fa1
  have G1_2 := zset_ne (q := 11) (e' := (mo, .inr (8, [.int 0, .int (nI nf), .ref mf, .int (nI nr), .ref md, .ref mi, .int lim, .int sup, .int off, .int plo, .int hrs, .ref ms9, .ref mk, .ref mt]))) (by decide) Fa2
  have G1_3 := zset_ne (q := 11) (e' := (mo, .inr (8, [.int 0, .int (nI nf), .ref mf, .int (nI nr), .ref md, .ref mi, .int lim, .int sup, .int off, .int plo, .int hrs, .ref ms9, .ref mk, .ref mt]))) (by decide) Fa3
  have G1_4 := zset_ne (q := 11) (e' := (mo, .inr (8, [.int 0, .int (nI nf), .ref mf, .int (nI nr), .ref md, .ref mi, .int lim, .int sup, .int off, .int plo, .int hrs, .ref ms9, .ref mk, .ref mt]))) (by decide) Fa4
  have G1_5 := zset_ne (q := 11) (e' := (mo, .inr (8, [.int 0, .int (nI nf), .ref mf, .int (nI nr), .ref md, .ref mi, .int lim, .int sup, .int off, .int plo, .int hrs, .ref ms9, .ref mk, .ref mt]))) (by decide) Fa5
  have G1_6 := zset_ne (q := 11) (e' := (mo, .inr (8, [.int 0, .int (nI nf), .ref mf, .int (nI nr), .ref md, .ref mi, .int lim, .int sup, .int off, .int plo, .int hrs, .ref ms9, .ref mk, .ref mt]))) (by decide) Fa6
  generalize hws1 : (ws.set 11 (mo, .inr (8, [.int 0, .int (nI nf), .ref mf, .int (nI nr), .ref md, .ref mi, .int lim, .int sup, .int off, .int plo, .int hrs, .ref ms9, .ref mk, .ref mt]))) = ws_1 at J hk G1_0 G1_1 G1_2 G1_3 G1_4 G1_5 G1_6
  refine lv_iload_n hx hb dX7_would_5 rfl (lv_at hl 1 rfl) ?_
  refine z_cr (z_rS (As := [.int wd]) (rest := []) X J (cX7_isWind_ok l E) (va_cwS 1 hts gX7_would_X7_isWind rfl rfl rfl (by decide +kernel) ⟨Nat.le_of_ble_eq_true rfl, Nat.le_of_ble_eq_true rfl⟩) rfl hl.1 rfl (Nat.le_of_ble_eq_true rfl) dX7_would_6 ⟨Nat.le_of_ble_eq_true rfl, Nat.le_of_ble_eq_true rfl⟩) (fun r6 e_r6 => ?_)
  subst e_r6
  refine lv_if_eq (tgt := 21) hx hb dX7_would_9 (by decide) (fun cz9 => ?_) (fun cz9 => ?_)
  · refine lv_aload_n hx hb dX7_would_21 rfl (lv_at hl 0 rfl) ?_
    refine lv_iconst (v := 1) hx hb dX7_would_22 (by decide) ?_
    refine z_ci J (z_rV (As := [.int 1]) (rest := []) (ci := 8) (q0 := 11) X J (cX7_no_ok l E G1_0) (cwV 1 hts gX7_would_X7_no rfl rfl rfl (by decide +kernel) ⟨Nat.le_of_ble_eq_true rfl, Nat.le_of_ble_eq_true rfl⟩) G1_0 rfl rfl rfl hl.1 rfl (Nat.le_of_ble_eq_true rfl) dX7_would_23 ⟨Nat.le_of_ble_eq_true rfl, Nat.le_of_ble_eq_true rfl⟩) (fun r23 ws_2 H locs hp9 J => ?_)
    obtain ⟨k2, hl9_2, G2_a0, e_r23⟩ := hp9
    have hk := hk.trans (k2.mono (by decide))
    have G2_1 := k2.2 12 _ (by decide) G1_1
    have G2_2 := k2.2 13 _ (by decide) G1_2
    have G2_3 := k2.2 14 _ (by decide) G1_3
    have G2_4 := k2.2 15 _ (by decide) G1_4
    have G2_5 := k2.2 16 _ (by decide) G1_5
    have G2_6 := k2.2 17 _ (by decide) G1_6
    subst e_r23
    have hk0 : (kWould wd stg du ix (nI nr)) = 1 := if_pos (Or.inl (isInS_n cz9))
    subst hQ
    exact W.iret (v := 0) hx hb hr (fun t ht hW => ⟨⟨0, ws_2, rfl, ⟨hk, ⟨kp, tp, (by simp only [hk0, sel0, sel1, sel2, sel3]; exact G2_a0), G2_4, G2_5, G2_6, (by simp only [hk0, sel0, sel1, sel2, sel3]; (try rw [eydu9]); (try rw [eyq9]); try rfl)⟩⟩, J.I X ht hW.alike⟩, J.F ht⟩) J.locs dX7_would_26
  · refine lv_aload_n hx hb dX7_would_12 rfl (lv_at hl 0 rfl) ?_
    refine lv_iload hx hb dX7_would_13 (lv_at hl 4 rfl) ?_
    refine z_cr (z_rV (As := [.int ix]) (rest := []) (ci := 8) (q0 := 11) X J (cX7_isRoad_ok l E G1_0) (cwV 1 hts gX7_would_X7_isRoad rfl rfl rfl (by decide +kernel) ⟨Nat.le_of_ble_eq_true rfl, Nat.le_of_ble_eq_true rfl⟩) G1_0 rfl rfl rfl hl.1 rfl (Nat.le_of_ble_eq_true rfl) dX7_would_15 ⟨Nat.le_of_ble_eq_true rfl, Nat.le_of_ble_eq_true rfl⟩) (fun r15 e_r15 => ?_)
    subst e_r15
    refine lv_if_ne (tgt := 27) hx hb dX7_would_18 (by decide) (fun cz18 => ?_) (fun cz18 => ?_)
    · refine lv_iload_n hx hb dX7_would_27 rfl (lv_at hl 2 rfl) ?_
      refine z_cr (z_rS (As := [.int stg]) (rest := []) X J (cX7_isStrength_ok l E) (va_cwS 1 hts gX7_would_X7_isStrength rfl rfl rfl (by decide +kernel) ⟨Nat.le_of_ble_eq_true rfl, Nat.le_of_ble_eq_true rfl⟩) rfl hl.1 rfl (Nat.le_of_ble_eq_true rfl) dX7_would_28 ⟨Nat.le_of_ble_eq_true rfl, Nat.le_of_ble_eq_true rfl⟩) (fun r28 e_r28 => ?_)
      subst e_r28
      refine lv_if_eq (tgt := 44) hx hb dX7_would_31 (by decide) (fun cz31 => ?_) (fun cz31 => ?_)
      · refine lv_aload_n hx hb dX7_would_44 rfl (lv_at hl 0 rfl) ?_
        refine lv_iconst (v := 2) hx hb dX7_would_45 (by decide) ?_
        refine z_ci J (z_rV (As := [.int 2]) (rest := []) (ci := 8) (q0 := 11) X J (cX7_no_ok l E G1_0) (cwV 1 hts gX7_would_X7_no rfl rfl rfl (by decide +kernel) ⟨Nat.le_of_ble_eq_true rfl, Nat.le_of_ble_eq_true rfl⟩) G1_0 rfl rfl rfl hl.1 rfl (Nat.le_of_ble_eq_true rfl) dX7_would_46 ⟨Nat.le_of_ble_eq_true rfl, Nat.le_of_ble_eq_true rfl⟩) (fun r46 ws_2 H locs hp9 J => ?_)
        obtain ⟨k2, hl9_2, G2_a0, e_r46⟩ := hp9
        have hk := hk.trans (k2.mono (by decide))
        have G2_1 := k2.2 12 _ (by decide) G1_1
        have G2_2 := k2.2 13 _ (by decide) G1_2
        have G2_3 := k2.2 14 _ (by decide) G1_3
        have G2_4 := k2.2 15 _ (by decide) G1_4
        have G2_5 := k2.2 16 _ (by decide) G1_5
        have G2_6 := k2.2 17 _ (by decide) G1_6
        subst e_r46
        have hk0 : (kWould wd stg du ix (nI nr)) = 2 := (if_neg (not_or_e (isInS_y cz9) (isInS_y cz18))).trans (if_pos (Or.inl (isInS_n cz31)))
        subst hQ
        exact W.iret (v := 0) hx hb hr (fun t ht hW => ⟨⟨0, ws_2, rfl, ⟨hk, ⟨kp, tp, (by simp only [hk0, sel0, sel1, sel2, sel3]; exact G2_a0), G2_4, G2_5, G2_6, (by simp only [hk0, sel0, sel1, sel2, sel3]; (try rw [eydu9]); (try rw [eyq9]); try rfl)⟩⟩, J.I X ht hW.alike⟩, J.F ht⟩) J.locs dX7_would_49
      · refine lv_iload_n hx hb dX7_would_34 rfl (lv_at hl 3 rfl) ?_
        refine lv_iconst (v := 1) hx hb dX7_would_35 (by decide) ?_
        refine lv_bipush (v := 24) hx hb dX7_would_36 (by decide) ?_
        refine z_cr (z_rS (As := [.int du, .int 1, .int 24]) (rest := []) X J (cX7_isIn_ok l E) (va_cwS 3 hts gX7_would_X7_isIn rfl rfl rfl (by decide +kernel) ⟨Nat.le_of_ble_eq_true rfl, Nat.le_of_ble_eq_true rfl⟩) rfl hl.1 rfl (Nat.le_of_ble_eq_true rfl) dX7_would_38 ⟨Nat.le_of_ble_eq_true rfl, Nat.le_of_ble_eq_true rfl⟩) (fun r38 e_r38 => ?_)
        subst e_r38
        refine lv_if_ne (tgt := 50) hx hb dX7_would_41 (by decide) (fun cz41 => ?_) (fun cz41 => ?_)
        · have hwd9 := inR03 (isInS_y cz9)
          obtain ⟨du9, hdu9, hdv9, ekdu9⟩ := inR_1n (b := 24) (by decide) (isInS_y cz41)
          have hl : lv_has ls 6 [(0, .ref mo), (1, .int wd), (2, .int stg), (3, .int (nI du9)), (4, .int ix)] := lv_repl hl (congrArg (fun z9 : Int32 => ([(0, .ref mo), (1, .int wd), (2, .int stg), (3, .int z9), (4, .int ix)] : List (Nat × Value))) (show du = nI du9 from ekdu9))
          have eydu9 : du.toNatClampNeg = du9 := by rw [ekdu9, nI_clamp (by omega)]
          obtain ⟨q9, hq9, ekq9⟩ := inR_nI (n := nr) (by omega) (isInS_y cz18)
          have hl : lv_has ls 6 [(0, .ref mo), (1, .int wd), (2, .int stg), (3, .int (nI du9)), (4, .int (nI q9))] := lv_repl hl (congrArg (fun z9 : Int32 => ([(0, .ref mo), (1, .int wd), (2, .int stg), (3, .int (nI du9)), (4, .int z9)] : List (Nat × Value))) (show ix = nI q9 from ekq9))
          have eyq9 : ix.toNatClampNeg = q9 := by rw [ekq9, nI_clamp (by omega)]
          refine lv_aload_n hx hb dX7_would_50 rfl (lv_at hl 0 rfl) ?_
          refine lv_aload_n hx hb dX7_would_51 rfl (lv_at hl 0 rfl) ?_
          refine z_get (C := RX7) (T := TX7) (N := 14) (ci := 8) (v := .int (nI nf)) X J hi_X7 11 G1_0 rfl 1 (by decide) (by decide +kernel) rfl dX7_would_52 ?_
          refine lv_iconst (v := (-1)) hx hb dX7_would_55 (by decide) ?_
          refine z_cv J (z_rV (As := [.int (nI nf), .int (-1)]) (rest := []) (ci := 8) (q0 := 11) X J (cX7_stand_ok l E G1_0 G1_1 G1_6 (by omega) hok) (cwV 2 hts gX7_would_X7_stand rfl rfl rfl (by decide +kernel) ⟨Nat.le_of_ble_eq_true rfl, Nat.le_of_ble_eq_true rfl⟩) G1_0 rfl rfl rfl hl.1 rfl (Nat.le_of_ble_eq_true rfl) dX7_would_56 ⟨Nat.le_of_ble_eq_true rfl, Nat.le_of_ble_eq_true rfl⟩) (fun ws_2 H locs hp9 J => ?_)
          obtain ⟨k2, ⟨tq_2, G2_a0, e_r56⟩⟩ := hp9
          have hk := hk.trans (k2.mono (by decide))
          have G2_0 := k2.2 11 _ (by decide) G1_0
          have G2_1 := k2.2 12 _ (by decide) G1_1
          have G2_2 := k2.2 13 _ (by decide) G1_2
          have G2_3 := k2.2 14 _ (by decide) G1_3
          have G2_4 := k2.2 15 _ (by decide) G1_4
          have G2_5 := k2.2 16 _ (by decide) G1_5
          refine lv_aload_n hx hb dX7_would_59 rfl (lv_at hl 0 rfl) ?_
          refine z_cv J (z_rV (As := []) (rest := []) (ci := 8) (q0 := 11) X J (cX7_keep_ok l E G2_0 G2_4 G2_5) (cwV 0 hts gX7_would_X7_keep rfl rfl rfl (by decide +kernel) ⟨Nat.le_of_ble_eq_true rfl, Nat.le_of_ble_eq_true rfl⟩) G2_0 rfl rfl rfl hl.1 rfl (Nat.le_of_ble_eq_true rfl) dX7_would_60 ⟨Nat.le_of_ble_eq_true rfl, Nat.le_of_ble_eq_true rfl⟩) (fun ws_3 H locs hp9 J => ?_)
          obtain ⟨k3, G3_a0⟩ := hp9
          have hk := hk.trans (k3.mono (by decide))
          have G3_0 := k3.2 11 _ (by decide) G2_0
          have G3_1 := k3.2 12 _ (by decide) G2_1
          have G3_2 := k3.2 13 _ (by decide) G2_2
          have G3_3 := k3.2 14 _ (by decide) G2_3
          have G3_4 := k3.2 15 _ (by decide) G2_4
          have G3_6 := k3.2 17 _ (by decide) G2_a0
          refine lv_aload_n hx hb dX7_would_63 rfl (lv_at hl 0 rfl) ?_
          refine lv_iload_n hx hb dX7_would_64 rfl (lv_at hl 1 rfl) ?_
          refine lv_iload_n hx hb dX7_would_65 rfl (lv_at hl 2 rfl) ?_
          refine lv_iload_n hx hb dX7_would_66 rfl (lv_at hl 3 rfl) ?_
          refine z_ci J (z_rV (As := [.int wd, .int stg, .int (nI du9)]) (rest := []) (ci := 8) (q0 := 11) X J (cX7_blown_ok l E G3_0 G3_1 G3_4 G3_6 e_r56 (by omega) hok hwd9 (by omega)) (cwV 3 hts gX7_would_X7_blown rfl rfl rfl (by decide +kernel) ⟨Nat.le_of_ble_eq_true rfl, Nat.le_of_ble_eq_true rfl⟩) G3_0 rfl rfl rfl hl.1 rfl (Nat.le_of_ble_eq_true rfl) dX7_would_67 ⟨Nat.le_of_ble_eq_true rfl, Nat.le_of_ble_eq_true rfl⟩) (fun r67 ws_4 H locs hp9 J => ?_)
          obtain ⟨k4, G4_a0, e_r67⟩ := hp9
          have hk := hk.trans (k4.mono (by decide))
          have G4_0 := k4.2 11 _ (by decide) G3_0
          have G4_1 := k4.2 12 _ (by decide) G3_1
          have G4_2 := k4.2 13 _ (by decide) G3_2
          have G4_3 := k4.2 14 _ (by decide) G3_3
          have G4_5 := k4.2 16 _ (by decide) G3_a0
          have G4_6 := k4.2 17 _ (by decide) G3_6
          subst e_r67
          refine lv_pop hx hb dX7_would_70 rfl ?_
          refine lv_aload_n hx hb dX7_would_71 rfl (lv_at hl 0 rfl) ?_
          refine lv_iload hx hb dX7_would_72 (lv_at hl 4 rfl) ?_
          refine z_cr (z_rV (As := [.int (nI q9)]) (rest := []) (ci := 8) (q0 := 11) X J (cX7_blocked_ok l E G4_0 G4_2 G4_3 G4_a0 (by omega) (hor q9 hq9)) (cwV 1 hts gX7_would_X7_blocked rfl rfl rfl (by decide +kernel) ⟨Nat.le_of_ble_eq_true rfl, Nat.le_of_ble_eq_true rfl⟩) G4_0 rfl rfl rfl hl.1 rfl (Nat.le_of_ble_eq_true rfl) dX7_would_74 ⟨Nat.le_of_ble_eq_true rfl, Nat.le_of_ble_eq_true rfl⟩) (fun r74 e_r74 => ?_)
          subst e_r74
          refine lv_istore (lv' := [(5, .int (blkG ((hsS stg sup ((hgS fa (-1) nf).1) ((hgS fa (-1) nf).2) wd sn du9).2.1) (rfi (rd q9) (ri q9)) (rd q9) lim 20)), (0, .ref mo), (1, .int wd), (2, .int stg), (3, .int (nI du9)), (4, .int (nI q9))]) hx hb dX7_would_77 hl (by decide) rfl (fun ls hl => ?_)
          refine lv_aload_n hx hb dX7_would_79 rfl (lv_at hl 1 rfl) ?_
          refine z_cv J (z_rV (As := []) (rest := []) (ci := 8) (q0 := 11) X J (cX7_bringBack_ok l E G4_0 G4_a0 G4_5) (cwV 0 hts gX7_would_X7_bringBack rfl rfl rfl (by decide +kernel) ⟨Nat.le_of_ble_eq_true rfl, Nat.le_of_ble_eq_true rfl⟩) G4_0 rfl rfl rfl hl.1 rfl (Nat.le_of_ble_eq_true rfl) dX7_would_80 ⟨Nat.le_of_ble_eq_true rfl, Nat.le_of_ble_eq_true rfl⟩) (fun ws_5 H locs hp9 J => ?_)
          obtain ⟨k5, G5_a0⟩ := hp9
          have hk := hk.trans (k5.mono (by decide))
          have G5_0 := k5.2 11 _ (by decide) G4_0
          have G5_1 := k5.2 12 _ (by decide) G4_1
          have G5_2 := k5.2 13 _ (by decide) G4_2
          have G5_3 := k5.2 14 _ (by decide) G4_3
          have G5_5 := k5.2 16 _ (by decide) G4_5
          have G5_6 := k5.2 17 _ (by decide) G4_6
          refine lv_iload hx hb dX7_would_83 (lv_at hl 0 rfl) ?_
          have hk0 : (kWould wd stg du ix (nI nr)) = 0 := (if_neg (not_or_e (isInS_y cz9) (isInS_y cz18))).trans (if_neg (not_or_e (isInS_y cz31) (isInS_y cz41)))
          subst hQ
          exact W.iret (v := blkG ((hsS stg sup ((hgS fa (-1) nf).1) ((hgS fa (-1) nf).2) wd sn du9).2.1) (rfi (rd q9) (ri q9)) (rd q9) lim 20) hx hb hr (fun t ht hW => ⟨⟨blkG ((hsS stg sup ((hgS fa (-1) nf).1) ((hgS fa (-1) nf).2) wd sn du9).2.1) (rfi (rd q9) (ri q9)) (rd q9) lim 20, ws_5, rfl, ⟨hk, ⟨sn, tq_2, (by simp only [hk0, sel0, sel1, sel2, sel3]; exact G5_0), G5_a0, G5_5, G5_6, (by simp only [hk0, sel0, sel1, sel2, sel3]; (try rw [eydu9]); (try rw [eyq9]); try rfl)⟩⟩, J.I X ht hW.alike⟩, J.F ht⟩) J.locs dX7_would_85
        · refine lv_aload_n hx hb dX7_would_44 rfl (lv_at hl 0 rfl) ?_
          refine lv_iconst (v := 2) hx hb dX7_would_45 (by decide) ?_
          refine z_ci J (z_rV (As := [.int 2]) (rest := []) (ci := 8) (q0 := 11) X J (cX7_no_ok l E G1_0) (cwV 1 hts gX7_would_X7_no rfl rfl rfl (by decide +kernel) ⟨Nat.le_of_ble_eq_true rfl, Nat.le_of_ble_eq_true rfl⟩) G1_0 rfl rfl rfl hl.1 rfl (Nat.le_of_ble_eq_true rfl) dX7_would_46 ⟨Nat.le_of_ble_eq_true rfl, Nat.le_of_ble_eq_true rfl⟩) (fun r46 ws_2 H locs hp9 J => ?_)
          obtain ⟨k2, hl9_2, G2_a0, e_r46⟩ := hp9
          have hk := hk.trans (k2.mono (by decide))
          have G2_1 := k2.2 12 _ (by decide) G1_1
          have G2_2 := k2.2 13 _ (by decide) G1_2
          have G2_3 := k2.2 14 _ (by decide) G1_3
          have G2_4 := k2.2 15 _ (by decide) G1_4
          have G2_5 := k2.2 16 _ (by decide) G1_5
          have G2_6 := k2.2 17 _ (by decide) G1_6
          subst e_r46
          have hk0 : (kWould wd stg du ix (nI nr)) = 2 := (if_neg (not_or_e (isInS_y cz9) (isInS_y cz18))).trans (if_pos (Or.inr (isInS_n cz41)))
          subst hQ
          exact W.iret (v := 0) hx hb hr (fun t ht hW => ⟨⟨0, ws_2, rfl, ⟨hk, ⟨kp, tp, (by simp only [hk0, sel0, sel1, sel2, sel3]; exact G2_a0), G2_4, G2_5, G2_6, (by simp only [hk0, sel0, sel1, sel2, sel3]; (try rw [eydu9]); (try rw [eyq9]); try rfl)⟩⟩, J.I X ht hW.alike⟩, J.F ht⟩) J.locs dX7_would_49
    · refine lv_aload_n hx hb dX7_would_21 rfl (lv_at hl 0 rfl) ?_
      refine lv_iconst (v := 1) hx hb dX7_would_22 (by decide) ?_
      refine z_ci J (z_rV (As := [.int 1]) (rest := []) (ci := 8) (q0 := 11) X J (cX7_no_ok l E G1_0) (cwV 1 hts gX7_would_X7_no rfl rfl rfl (by decide +kernel) ⟨Nat.le_of_ble_eq_true rfl, Nat.le_of_ble_eq_true rfl⟩) G1_0 rfl rfl rfl hl.1 rfl (Nat.le_of_ble_eq_true rfl) dX7_would_23 ⟨Nat.le_of_ble_eq_true rfl, Nat.le_of_ble_eq_true rfl⟩) (fun r23 ws_2 H locs hp9 J => ?_)
      obtain ⟨k2, hl9_2, G2_a0, e_r23⟩ := hp9
      have hk := hk.trans (k2.mono (by decide))
      have G2_1 := k2.2 12 _ (by decide) G1_1
      have G2_2 := k2.2 13 _ (by decide) G1_2
      have G2_3 := k2.2 14 _ (by decide) G1_3
      have G2_4 := k2.2 15 _ (by decide) G1_4
      have G2_5 := k2.2 16 _ (by decide) G1_5
      have G2_6 := k2.2 17 _ (by decide) G1_6
      subst e_r23
      have hk0 : (kWould wd stg du ix (nI nr)) = 1 := if_pos (Or.inr (isInS_n cz18))
      subst hQ
      exact W.iret (v := 0) hx hb hr (fun t ht hW => ⟨⟨0, ws_2, rfl, ⟨hk, ⟨kp, tp, (by simp only [hk0, sel0, sel1, sel2, sel3]; exact G2_a0), G2_4, G2_5, G2_6, (by simp only [hk0, sel0, sel1, sel2, sel3]; (try rw [eydu9]); (try rw [eyq9]); try rfl)⟩⟩, J.I X ht hW.alike⟩, J.F ht⟩) J.locs dX7_would_26
set_option maxHeartbeats 400000 in
set_option maxRecDepth 100000 in
theorem cX7_until_ok (l : Launch) (E : zG) {ws : va_W} {mo mf md mi ms9 mk mt nf nr : Nat} {th lim sup off plo hrs : Int32} {fa rd ri sn kp tp : Nat → Int32} {wd stg ix : Int32} (Fa0 : ws[11]? = some (mo, .inr (8, [.int th, .int (nI nf), .ref mf, .int (nI nr), .ref md, .ref mi, .int lim, .int sup, .int off, .int plo, .int hrs, .ref ms9, .ref mk, .ref mt]))) (Fa1 : ws[12]? = some (mf, zI4 E 66 fa)) (Fa2 : ws[13]? = some (md, zI4 E 4 rd)) (Fa3 : ws[14]? = some (mi, zI4 E 4 ri)) (Fa4 : ws[15]? = some (ms9, zI4 E 400 sn)) (Fa5 : ws[16]? = some (mk, zI4 E 400 kp)) (Fa6 : ws[17]? = some (mt, zI4 E 400 tp)) (hnf : nf ≤ 10) (hok : ∀ j, j < nf → okF fa j) (hnr : nr ≤ 4) (hor : ∀ q, q < nr → okR rd ri q) : Met l yX7_until wsX7_until ({ frames := 3, cells := 0, slots := 0, locals := 81 } : Room) (va_Pc [.ref mo, .int wd, .int stg, .int ix] (zI E ws)) (va_Qi (fun (r : Int32) (ws' : va_W) => (zK [11, 15, 16, 17] ws ws') ∧ (∃ (kq : Nat → Int32) (tq : Nat → Int32), (ws'[11]? = some (mo, .inr (8, [.int (kUntil wd stg ix (nI nr)), .int (nI nf), .ref mf, .int (nI nr), .ref md, .ref mi, .int lim, .int sup, .int off, .int plo, .int hrs, .ref ms9, .ref mk, .ref mt]))) ∧ (ws'[15]? = some (ms9, zI4 E 400 sn)) ∧ (ws'[16]? = some (mk, zI4 E 400 kq)) ∧ (ws'[17]? = some (mt, zI4 E 400 tq)) ∧ (r = sel (kUntil wd stg ix (nI nr)) (untF (untB stg sup (hgS fa (-1) nf).1 (hgS fa (-1) nf).2 wd sn rd ri lim ix.toNatClampNeg) 49 0) 0))) (zI E) (zA E)) 0 0 (zA E) := by
  refine Met.ofW (cc := cX7_until) (maxL := 5) (ret := (some .int)) (by decide) rfl ?_
  intro p e s m args below meth c s₁ B hml hv
  obtain ⟨hargs9, hI⟩ := hv
  have hx := B.exec
  have hb := B.bytes
  have hr := B.returns
  have hlocks := B.notSynchronized
  have X : zC E p m c cX7_until 5 s args wsX7_until RX7 := z_open B hml hI
  have hown := X.1.2.2.2.1
  have hts := X.1.2.2.2.2
  have J := hI.J
  have hi_X7 : ∀ w ∈ wsX70, w ∈ wsX7_until := by decide +kernel
  have hk : zK [11, 15, 16, 17] ws ws := zK.rf
  have hl := lv_entry ([.ref mo, .int wd, .int stg, .int ix]) (n := 5) (Nat.le_of_ble_eq_true rfl)
  rw [show entryFrame m args 5 = entryFrame m ([.ref mo, .int wd, .int stg, .int ix] : List Value).toArray 5 from by rw [hargs9], lg_entry_eq]
  generalize (lg_sl ([.ref mo, .int wd, .int stg, .int ix]) ++ List.replicate (5 - (lg_sl ([.ref mo, .int wd, .int stg, .int ix])).length) Slot.unset).toArray = ls at hl ⊢
  have hl : lv_has ls 5 [(0, .ref mo), (1, .int wd), (2, .int stg), (3, .int ix)] := hl
  generalize hQ : (MQ below (va_Qi (fun (r : Int32) (ws' : va_W) => (zK [11, 15, 16, 17] ws ws') ∧ (∃ (kq : Nat → Int32) (tq : Nat → Int32), (ws'[11]? = some (mo, .inr (8, [.int (kUntil wd stg ix (nI nr)), .int (nI nf), .ref mf, .int (nI nr), .ref md, .ref mi, .int lim, .int sup, .int off, .int plo, .int hrs, .ref ms9, .ref mk, .ref mt]))) ∧ (ws'[15]? = some (ms9, zI4 E 400 sn)) ∧ (ws'[16]? = some (mk, zI4 E 400 kq)) ∧ (ws'[17]? = some (mt, zI4 E 400 tq)) ∧ (r = sel (kUntil wd stg ix (nI nr)) (untF (untB stg sup (hgS fa (-1) nf).1 (hgS fa (-1) nf).2 wd sn rd ri lim ix.toNatClampNeg) 49 0) 0))) (zI E) (zA E)) args s 0 0 (zA E)) = QQ
  refine lv_aload_n hx hb dX7_until_0 rfl (lv_at hl 0 rfl) ?_
  refine lv_iconst (v := 0) hx hb dX7_until_1 (by decide) ?_
  refine z_put (C := RX7) (T := TX7) (N := 14) (ci := 8) (v := .int 0) X J hi_X7 tyX7 tyX7_ok nmX7 11 Fa0 rfl 0 (by decide) (by decide +kernel) rfl rfl rfl (Nat.le_of_ble_eq_true rfl) dX7_until_2 (fun H locs J => ?_)
  have J : zJ E (ws.set 11 (mo, .inr (8, [.int 0, .int (nI nf), .ref mf, .int (nI nr), .ref md, .ref mi, .int lim, .int sup, .int off, .int plo, .int hrs, .ref ms9, .ref mk, .ref mt]))) s H locs := J
  have hk := hk.trans (zK.set (ws := ws) (q := 11) (e := (mo, .inr (8, [.int 0, .int (nI nf), .ref mf, .int (nI nr), .ref md, .ref mi, .int lim, .int sup, .int off, .int plo, .int hrs, .ref ms9, .ref mk, .ref mt]))) (by simp))
  have G1_0 := zset_eq (e' := (mo, .inr (8, [.int 0, .int (nI nf), .ref mf, .int (nI nr), .ref md, .ref mi, .int lim, .int sup, .int off, .int plo, .int hrs, .ref ms9, .ref mk, .ref mt]))) Fa0
  have G1_1 := zset_ne (q := 11) (e' := (mo, .inr (8, [.int 0, .int (nI nf), .ref mf, .int (nI nr), .ref md, .ref mi, .int lim, .int sup, .int off, .int plo, .int hrs, .ref ms9, .ref mk, .ref mt]))) (by decide) Fa1
  have G1_2 := zset_ne (q := 11) (e' := (mo, .inr (8, [.int 0, .int (nI nf), .ref mf, .int (nI nr), .ref md, .ref mi, .int lim, .int sup, .int off, .int plo, .int hrs, .ref ms9, .ref mk, .ref mt]))) (by decide) Fa2
  have G1_3 := zset_ne (q := 11) (e' := (mo, .inr (8, [.int 0, .int (nI nf), .ref mf, .int (nI nr), .ref md, .ref mi, .int lim, .int sup, .int off, .int plo, .int hrs, .ref ms9, .ref mk, .ref mt]))) (by decide) Fa3
  have G1_4 := zset_ne (q := 11) (e' := (mo, .inr (8, [.int 0, .int (nI nf), .ref mf, .int (nI nr), .ref md, .ref mi, .int lim, .int sup, .int off, .int plo, .int hrs, .ref ms9, .ref mk, .ref mt]))) (by decide) Fa4
  have G1_5 := zset_ne (q := 11) (e' := (mo, .inr (8, [.int 0, .int (nI nf), .ref mf, .int (nI nr), .ref md, .ref mi, .int lim, .int sup, .int off, .int plo, .int hrs, .ref ms9, .ref mk, .ref mt]))) (by decide) Fa5
  have G1_6 := zset_ne (q := 11) (e' := (mo, .inr (8, [.int 0, .int (nI nf), .ref mf, .int (nI nr), .ref md, .ref mi, .int lim, .int sup, .int off, .int plo, .int hrs, .ref ms9, .ref mk, .ref mt]))) (by decide) Fa6
  generalize hws1 : (ws.set 11 (mo, .inr (8, [.int 0, .int (nI nf), .ref mf, .int (nI nr), .ref md, .ref mi, .int lim, .int sup, .int off, .int plo, .int hrs, .ref ms9, .ref mk, .ref mt]))) = ws_1 at J hk G1_0 G1_1 G1_2 G1_3 G1_4 G1_5 G1_6
  refine lv_iload_n hx hb dX7_until_5 rfl (lv_at hl 1 rfl) ?_
  refine z_cr (z_rS (As := [.int wd]) (rest := []) X J (cX7_isWind_ok l E) (va_cwS 1 hts gX7_until_X7_isWind rfl rfl rfl (by decide +kernel) ⟨Nat.le_of_ble_eq_true rfl, Nat.le_of_ble_eq_true rfl⟩) rfl hl.1 rfl (Nat.le_of_ble_eq_true rfl) dX7_until_6 ⟨Nat.le_of_ble_eq_true rfl, Nat.le_of_ble_eq_true rfl⟩) (fun r6 e_r6 => ?_)
  subst e_r6
  refine lv_if_eq (tgt := 20) hx hb dX7_until_9 (by decide) (fun cz9 => ?_) (fun cz9 => ?_)
  · refine lv_aload_n hx hb dX7_until_20 rfl (lv_at hl 0 rfl) ?_
    refine lv_iconst (v := 1) hx hb dX7_until_21 (by decide) ?_
    refine z_ci J (z_rV (As := [.int 1]) (rest := []) (ci := 8) (q0 := 11) X J (cX7_no_ok l E G1_0) (cwV 1 hts gX7_until_X7_no rfl rfl rfl (by decide +kernel) ⟨Nat.le_of_ble_eq_true rfl, Nat.le_of_ble_eq_true rfl⟩) G1_0 rfl rfl rfl hl.1 rfl (Nat.le_of_ble_eq_true rfl) dX7_until_22 ⟨Nat.le_of_ble_eq_true rfl, Nat.le_of_ble_eq_true rfl⟩) (fun r22 ws_2 H locs hp9 J => ?_)
    obtain ⟨k2, hl9_2, G2_a0, e_r22⟩ := hp9
    have hk := hk.trans (k2.mono (by decide))
    have G2_1 := k2.2 12 _ (by decide) G1_1
    have G2_2 := k2.2 13 _ (by decide) G1_2
    have G2_3 := k2.2 14 _ (by decide) G1_3
    have G2_4 := k2.2 15 _ (by decide) G1_4
    have G2_5 := k2.2 16 _ (by decide) G1_5
    have G2_6 := k2.2 17 _ (by decide) G1_6
    subst e_r22
    have hk0 : (kUntil wd stg ix (nI nr)) = 1 := if_pos (Or.inl (isInS_n cz9))
    subst hQ
    exact W.iret (v := 0) hx hb hr (fun t ht hW => ⟨⟨0, ws_2, rfl, ⟨hk, ⟨kp, tp, (by simp only [hk0, sel0, sel1, sel2, sel3]; exact G2_a0), G2_4, G2_5, G2_6, (by simp only [hk0, sel0, sel1, sel2, sel3])⟩⟩, J.I X ht hW.alike⟩, J.F ht⟩) J.locs dX7_until_25
  · refine lv_aload_n hx hb dX7_until_12 rfl (lv_at hl 0 rfl) ?_
    refine lv_iload_n hx hb dX7_until_13 rfl (lv_at hl 3 rfl) ?_
    refine z_cr (z_rV (As := [.int ix]) (rest := []) (ci := 8) (q0 := 11) X J (cX7_isRoad_ok l E G1_0) (cwV 1 hts gX7_until_X7_isRoad rfl rfl rfl (by decide +kernel) ⟨Nat.le_of_ble_eq_true rfl, Nat.le_of_ble_eq_true rfl⟩) G1_0 rfl rfl rfl hl.1 rfl (Nat.le_of_ble_eq_true rfl) dX7_until_14 ⟨Nat.le_of_ble_eq_true rfl, Nat.le_of_ble_eq_true rfl⟩) (fun r14 e_r14 => ?_)
    subst e_r14
    refine lv_if_ne (tgt := 26) hx hb dX7_until_17 (by decide) (fun cz17 => ?_) (fun cz17 => ?_)
    · refine lv_iload_n hx hb dX7_until_26 rfl (lv_at hl 2 rfl) ?_
      refine z_cr (z_rS (As := [.int stg]) (rest := []) X J (cX7_isStrength_ok l E) (va_cwS 1 hts gX7_until_X7_isStrength rfl rfl rfl (by decide +kernel) ⟨Nat.le_of_ble_eq_true rfl, Nat.le_of_ble_eq_true rfl⟩) rfl hl.1 rfl (Nat.le_of_ble_eq_true rfl) dX7_until_27 ⟨Nat.le_of_ble_eq_true rfl, Nat.le_of_ble_eq_true rfl⟩) (fun r27 e_r27 => ?_)
      subst e_r27
      refine lv_if_ne (tgt := 39) hx hb dX7_until_30 (by decide) (fun cz30 => ?_) (fun cz30 => ?_)
      · have hwd9 := inR03 (isInS_y cz9)
        obtain ⟨q9, hq9, ekq9⟩ := inR_nI (n := nr) (by omega) (isInS_y cz17)
        have hl : lv_has ls 5 [(0, .ref mo), (1, .int wd), (2, .int stg), (3, .int (nI q9))] := lv_repl hl (congrArg (fun z9 : Int32 => ([(0, .ref mo), (1, .int wd), (2, .int stg), (3, .int z9)] : List (Nat × Value))) (show ix = nI q9 from ekq9))
        have eyq9 : ix.toNatClampNeg = q9 := by rw [ekq9, nI_clamp (by omega)]
        refine lv_aload_n hx hb dX7_until_39 rfl (lv_at hl 0 rfl) ?_
        refine lv_aload_n hx hb dX7_until_40 rfl (lv_at hl 0 rfl) ?_
        refine z_get (C := RX7) (T := TX7) (N := 14) (ci := 8) (v := .int (nI nf)) X J hi_X7 11 G1_0 rfl 1 (by decide) (by decide +kernel) rfl dX7_until_41 ?_
        refine lv_iconst (v := (-1)) hx hb dX7_until_44 (by decide) ?_
        refine z_cv J (z_rV (As := [.int (nI nf), .int (-1)]) (rest := []) (ci := 8) (q0 := 11) X J (cX7_stand_ok l E G1_0 G1_1 G1_6 (by omega) hok) (cwV 2 hts gX7_until_X7_stand rfl rfl rfl (by decide +kernel) ⟨Nat.le_of_ble_eq_true rfl, Nat.le_of_ble_eq_true rfl⟩) G1_0 rfl rfl rfl hl.1 rfl (Nat.le_of_ble_eq_true rfl) dX7_until_45 ⟨Nat.le_of_ble_eq_true rfl, Nat.le_of_ble_eq_true rfl⟩) (fun ws_2 H locs hp9 J => ?_)
        obtain ⟨k2, ⟨tq_2, G2_a0, e_r45⟩⟩ := hp9
        have hk := hk.trans (k2.mono (by decide))
        have G2_0 := k2.2 11 _ (by decide) G1_0
        have G2_1 := k2.2 12 _ (by decide) G1_1
        have G2_2 := k2.2 13 _ (by decide) G1_2
        have G2_3 := k2.2 14 _ (by decide) G1_3
        have G2_4 := k2.2 15 _ (by decide) G1_4
        have G2_5 := k2.2 16 _ (by decide) G1_5
        refine lv_aload_n hx hb dX7_until_48 rfl (lv_at hl 0 rfl) ?_
        refine z_cv J (z_rV (As := []) (rest := []) (ci := 8) (q0 := 11) X J (cX7_keep_ok l E G2_0 G2_4 G2_5) (cwV 0 hts gX7_until_X7_keep rfl rfl rfl (by decide +kernel) ⟨Nat.le_of_ble_eq_true rfl, Nat.le_of_ble_eq_true rfl⟩) G2_0 rfl rfl rfl hl.1 rfl (Nat.le_of_ble_eq_true rfl) dX7_until_49 ⟨Nat.le_of_ble_eq_true rfl, Nat.le_of_ble_eq_true rfl⟩) (fun ws_3 H locs hp9 J => ?_)
        obtain ⟨k3, G3_a0⟩ := hp9
        have hk := hk.trans (k3.mono (by decide))
        have G3_0 := k3.2 11 _ (by decide) G2_0
        have G3_1 := k3.2 12 _ (by decide) G2_1
        have G3_2 := k3.2 13 _ (by decide) G2_2
        have G3_3 := k3.2 14 _ (by decide) G2_3
        have G3_4 := k3.2 15 _ (by decide) G2_4
        have G3_6 := k3.2 17 _ (by decide) G2_a0
        refine lv_iconst (v := nI 0) hx hb dX7_until_52 rfl ?_
        refine lv_istore (lv' := [(4, .int (nI 0)), (0, .ref mo), (1, .int wd), (2, .int stg), (3, .int (nI q9))]) hx hb dX7_until_53 hl (by decide) rfl (fun ls hl => ?_)
        have loop_55 : ∀ (k9 i : Nat), i + k9 = 49 → untF (untB stg sup (hgS fa (-1) nf).1 (hgS fa (-1) nf).2 wd sn rd ri lim q9) 49 0 = untF (untB stg sup (hgS fa (-1) nf).1 (hgS fa (-1) nf).2 wd sn rd ri lim q9) k9 i → ∀ (wl55 : va_W) (H : Heap) (locs : List Loc) (ls : Array Slot), zK [11, 15, 16, 17] ws wl55 → wl55[11]? = some (mo, .inr (8, [.int 0, .int (nI nf), .ref mf, .int (nI nr), .ref md, .ref mi, .int lim, .int sup, .int off, .int plo, .int hrs, .ref ms9, .ref mk, .ref mt])) → wl55[12]? = some (mf, zI4 E 66 fa) → wl55[13]? = some (md, zI4 E 4 rd) → wl55[14]? = some (mi, zI4 E 4 ri) → wl55[15]? = some (ms9, zI4 E 400 ((hsS stg sup (hgS fa (-1) nf).1 (hgS fa (-1) nf).2 wd sn i).2.1)) → wl55[16]? = some (mk, zI4 E 400 sn) → wl55[17]? = some (mt, zI4 E 400 tq_2) → zJ E wl55 s H locs → lv_has ls 5 [(4, .int (nI i)), (0, .ref mo), (1, .int wd), (2, .int stg), (3, .int (nI q9))] → W p l e (headSpec wsX7_until ({ frames := 3, cells := 0, slots := 0, locals := 81 } : Room)).room s m args below meth c H locs 0 0 QQ (F0 m 55 ls []) := by
          intro k9
          induction k9 with
          | zero =>
            intro i hik hu9 wl55 H locs ls hk L55_0 L55_1 L55_2 L55_3 L55_4 L55_5 L55_6 J hl
            obtain rfl : 49 = i := by omega
            refine lv_iload hx hb dX7_until_55 (lv_at hl 0 rfl) ?_
            refine lv_bipush (v := nI 48) hx hb dX7_until_57 (by decide) ?_
            refine lv_icmp_gt (tgt := 83) hx hb dX7_until_59 (by decide) (fun cz59 => ?_) (fun cz59 => by exact (cz59 (by decide)).elim)
            refine lv_aload_n hx hb dX7_until_83 rfl (lv_at hl 1 rfl) ?_
            refine z_cv J (z_rV (As := []) (rest := []) (ci := 8) (q0 := 11) X J (cX7_bringBack_ok l E L55_0 L55_4 L55_5) (cwV 0 hts gX7_until_X7_bringBack rfl rfl rfl (by decide +kernel) ⟨Nat.le_of_ble_eq_true rfl, Nat.le_of_ble_eq_true rfl⟩) L55_0 rfl rfl rfl hl.1 rfl (Nat.le_of_ble_eq_true rfl) dX7_until_84 ⟨Nat.le_of_ble_eq_true rfl, Nat.le_of_ble_eq_true rfl⟩) (fun ws_4 H locs hp9 J => ?_)
            obtain ⟨k4, G4_a0⟩ := hp9
            have hk := hk.trans (k4.mono (by decide))
            have G4_0 := k4.2 11 _ (by decide) L55_0
            have G4_1 := k4.2 12 _ (by decide) L55_1
            have G4_2 := k4.2 13 _ (by decide) L55_2
            have G4_3 := k4.2 14 _ (by decide) L55_3
            have G4_5 := k4.2 16 _ (by decide) L55_5
            have G4_6 := k4.2 17 _ (by decide) L55_6
            refine lv_iload hx hb dX7_until_87 (lv_at hl 0 rfl) ?_
            refine lv_bipush (v := nI 48) hx hb dX7_until_89 (by decide) ?_
            refine lv_icmp_le (tgt := 98) hx hb dX7_until_91 (by decide) (fun cz91 => by exact absurd cz91 (by decide)) (fun cz91 => ?_)
            refine lv_iconst (v := (-1)) hx hb dX7_until_94 (by decide) ?_
            refine lv_goto (tgt := 100) hx hb dX7_until_95 (by decide) ?_
            have hk0 : (kUntil wd stg ix (nI nr)) = 0 := (if_neg (not_or_e (isInS_y cz9) (isInS_y cz17))).trans (if_neg (fun q => q (isInS_y cz30)))
            subst hQ
            exact W.iret (v := (-1)) hx hb hr (fun t ht hW => ⟨⟨(-1), ws_4, rfl, ⟨hk, ⟨sn, tq_2, (by simp only [hk0, sel0, sel1, sel2, sel3]; exact G4_0), G4_a0, G4_5, G4_6, (by simp only [hk0, sel0]; rw [eyq9]; exact (hu9).symm)⟩⟩, J.I X ht hW.alike⟩, J.F ht⟩) J.locs dX7_until_100
          | succ k9 ih_55 =>
            intro i hik hu9 wl55 H locs ls hk L55_0 L55_1 L55_2 L55_3 L55_4 L55_5 L55_6 J hl
            refine lv_iload hx hb dX7_until_55 (lv_at hl 0 rfl) ?_
            refine lv_bipush (v := nI 48) hx hb dX7_until_57 (by decide) ?_
            refine lv_icmp_gt (tgt := 83) hx hb dX7_until_59 (by decide) (fun cz59 => by exact (nI_ngt (by omega) (by decide) cz59).elim) (fun cz59 => ?_)
            refine lv_aload_n hx hb dX7_until_62 rfl (lv_at hl 1 rfl) ?_
            refine lv_iload_n hx hb dX7_until_63 rfl (lv_at hl 4 rfl) ?_
            refine z_cr (z_rV (As := [.int (nI q9)]) (rest := []) (ci := 8) (q0 := 11) X J (cX7_blocked_ok l E L55_0 L55_2 L55_3 L55_4 (by omega) (hor q9 hq9)) (cwV 1 hts gX7_until_X7_blocked rfl rfl rfl (by decide +kernel) ⟨Nat.le_of_ble_eq_true rfl, Nat.le_of_ble_eq_true rfl⟩) L55_0 rfl rfl rfl hl.1 rfl (Nat.le_of_ble_eq_true rfl) dX7_until_64 ⟨Nat.le_of_ble_eq_true rfl, Nat.le_of_ble_eq_true rfl⟩) (fun r64 e_r64 => ?_)
            subst e_r64
            refine lv_if_ne (tgt := 83) hx hb dX7_until_67 (by decide) (fun cz67 => ?_) (fun cz67 => ?_)
            · refine lv_aload_n hx hb dX7_until_83 rfl (lv_at hl 1 rfl) ?_
              refine z_cv J (z_rV (As := []) (rest := []) (ci := 8) (q0 := 11) X J (cX7_bringBack_ok l E L55_0 L55_4 L55_5) (cwV 0 hts gX7_until_X7_bringBack rfl rfl rfl (by decide +kernel) ⟨Nat.le_of_ble_eq_true rfl, Nat.le_of_ble_eq_true rfl⟩) L55_0 rfl rfl rfl hl.1 rfl (Nat.le_of_ble_eq_true rfl) dX7_until_84 ⟨Nat.le_of_ble_eq_true rfl, Nat.le_of_ble_eq_true rfl⟩) (fun ws_4 H locs hp9 J => ?_)
              obtain ⟨k4, G4_a0⟩ := hp9
              have hk := hk.trans (k4.mono (by decide))
              have G4_0 := k4.2 11 _ (by decide) L55_0
              have G4_1 := k4.2 12 _ (by decide) L55_1
              have G4_2 := k4.2 13 _ (by decide) L55_2
              have G4_3 := k4.2 14 _ (by decide) L55_3
              have G4_5 := k4.2 16 _ (by decide) L55_5
              have G4_6 := k4.2 17 _ (by decide) L55_6
              refine lv_iload hx hb dX7_until_87 (lv_at hl 0 rfl) ?_
              refine lv_bipush (v := nI 48) hx hb dX7_until_89 (by decide) ?_
              refine lv_icmp_le (tgt := 98) hx hb dX7_until_91 (by decide) (fun cz91 => ?_) (fun cz91 => by exact (cz91 (nI_le (by omega) (by omega))).elim)
              refine lv_iload hx hb dX7_until_98 (lv_at hl 0 rfl) ?_
              have hk0 : (kUntil wd stg ix (nI nr)) = 0 := (if_neg (not_or_e (isInS_y cz9) (isInS_y cz17))).trans (if_neg (fun q => q (isInS_y cz30)))
              subst hQ
              exact W.iret (v := nI i) hx hb hr (fun t ht hW => ⟨⟨nI i, ws_4, rfl, ⟨hk, ⟨sn, tq_2, (by simp only [hk0, sel0, sel1, sel2, sel3]; exact G4_0), G4_a0, G4_5, G4_6, (by simp only [hk0, sel0]; rw [eyq9]; exact (hu9.trans (untF_e cz67)).symm)⟩⟩, J.I X ht hW.alike⟩, J.F ht⟩) J.locs dX7_until_100
            · refine lv_aload_n hx hb dX7_until_70 rfl (lv_at hl 1 rfl) ?_
              refine lv_iload_n hx hb dX7_until_71 rfl (lv_at hl 2 rfl) ?_
              refine lv_iload_n hx hb dX7_until_72 rfl (lv_at hl 3 rfl) ?_
              refine z_ci J (z_rV (As := [.int wd, .int stg]) (rest := []) (ci := 8) (q0 := 11) X J (cX7_hour_ok l E L55_0 L55_1 L55_4 L55_6 e_r45 (by omega) hok hwd9) (cwV 2 hts gX7_until_X7_hour rfl rfl rfl (by decide +kernel) ⟨Nat.le_of_ble_eq_true rfl, Nat.le_of_ble_eq_true rfl⟩) L55_0 rfl rfl rfl hl.1 rfl (Nat.le_of_ble_eq_true rfl) dX7_until_73 ⟨Nat.le_of_ble_eq_true rfl, Nat.le_of_ble_eq_true rfl⟩) (fun r73 ws_4 H locs hp9 J => ?_)
              obtain ⟨k4, G4_a0, e_r73⟩ := hp9
              have hk := hk.trans (k4.mono (by decide))
              have G4_0 := k4.2 11 _ (by decide) L55_0
              have G4_1 := k4.2 12 _ (by decide) L55_1
              have G4_2 := k4.2 13 _ (by decide) L55_2
              have G4_3 := k4.2 14 _ (by decide) L55_3
              have G4_5 := k4.2 16 _ (by decide) L55_5
              have G4_6 := k4.2 17 _ (by decide) L55_6
              subst e_r73
              refine lv_pop hx hb dX7_until_76 rfl ?_
              refine lv_iinc (v := nI (i + 1)) (lv' := [(4, .int (nI (i + 1))), (0, .ref mo), (1, .int wd), (2, .int stg), (3, .int (nI q9))]) hx hb dX7_until_77 hl (k := 0) rfl (nI_1 i) (by decide) rfl (fun ls hl => ?_)
              refine lv_goto (tgt := 55) hx hb dX7_until_80 (by decide) ?_
              exact ih_55 (i + 1) (by omega) (hu9.trans (untF_s cz67)) _ _ _ _ hk G4_0 G4_1 G4_2 G4_3 (by rw [← hsS_2]; exact G4_a0) G4_5 G4_6 J (lv_sub hl [0, 1, 2, 3, 4] rfl)
        exact loop_55 49 0 (by omega) rfl _ _ _ _ hk G3_0 G3_1 G3_2 G3_3 G3_4 G3_a0 G3_6 J (lv_sub hl [0, 1, 2, 3, 4] rfl)
      · refine lv_aload_n hx hb dX7_until_33 rfl (lv_at hl 0 rfl) ?_
        refine lv_iconst (v := 2) hx hb dX7_until_34 (by decide) ?_
        refine z_ci J (z_rV (As := [.int 2]) (rest := []) (ci := 8) (q0 := 11) X J (cX7_no_ok l E G1_0) (cwV 1 hts gX7_until_X7_no rfl rfl rfl (by decide +kernel) ⟨Nat.le_of_ble_eq_true rfl, Nat.le_of_ble_eq_true rfl⟩) G1_0 rfl rfl rfl hl.1 rfl (Nat.le_of_ble_eq_true rfl) dX7_until_35 ⟨Nat.le_of_ble_eq_true rfl, Nat.le_of_ble_eq_true rfl⟩) (fun r35 ws_2 H locs hp9 J => ?_)
        obtain ⟨k2, hl9_2, G2_a0, e_r35⟩ := hp9
        have hk := hk.trans (k2.mono (by decide))
        have G2_1 := k2.2 12 _ (by decide) G1_1
        have G2_2 := k2.2 13 _ (by decide) G1_2
        have G2_3 := k2.2 14 _ (by decide) G1_3
        have G2_4 := k2.2 15 _ (by decide) G1_4
        have G2_5 := k2.2 16 _ (by decide) G1_5
        have G2_6 := k2.2 17 _ (by decide) G1_6
        subst e_r35
        have hk0 : (kUntil wd stg ix (nI nr)) = 2 := (if_neg (not_or_e (isInS_y cz9) (isInS_y cz17))).trans (if_pos (isInS_n cz30))
        subst hQ
        exact W.iret (v := 0) hx hb hr (fun t ht hW => ⟨⟨0, ws_2, rfl, ⟨hk, ⟨kp, tp, (by simp only [hk0, sel0, sel1, sel2, sel3]; exact G2_a0), G2_4, G2_5, G2_6, (by simp only [hk0, sel0, sel1, sel2, sel3])⟩⟩, J.I X ht hW.alike⟩, J.F ht⟩) J.locs dX7_until_38
    · refine lv_aload_n hx hb dX7_until_20 rfl (lv_at hl 0 rfl) ?_
      refine lv_iconst (v := 1) hx hb dX7_until_21 (by decide) ?_
      refine z_ci J (z_rV (As := [.int 1]) (rest := []) (ci := 8) (q0 := 11) X J (cX7_no_ok l E G1_0) (cwV 1 hts gX7_until_X7_no rfl rfl rfl (by decide +kernel) ⟨Nat.le_of_ble_eq_true rfl, Nat.le_of_ble_eq_true rfl⟩) G1_0 rfl rfl rfl hl.1 rfl (Nat.le_of_ble_eq_true rfl) dX7_until_22 ⟨Nat.le_of_ble_eq_true rfl, Nat.le_of_ble_eq_true rfl⟩) (fun r22 ws_2 H locs hp9 J => ?_)
      obtain ⟨k2, hl9_2, G2_a0, e_r22⟩ := hp9
      have hk := hk.trans (k2.mono (by decide))
      have G2_1 := k2.2 12 _ (by decide) G1_1
      have G2_2 := k2.2 13 _ (by decide) G1_2
      have G2_3 := k2.2 14 _ (by decide) G1_3
      have G2_4 := k2.2 15 _ (by decide) G1_4
      have G2_5 := k2.2 16 _ (by decide) G1_5
      have G2_6 := k2.2 17 _ (by decide) G1_6
      subst e_r22
      have hk0 : (kUntil wd stg ix (nI nr)) = 1 := if_pos (Or.inr (isInS_n cz17))
      subst hQ
      exact W.iret (v := 0) hx hb hr (fun t ht hW => ⟨⟨0, ws_2, rfl, ⟨hk, ⟨kp, tp, (by simp only [hk0, sel0, sel1, sel2, sel3]; exact G2_a0), G2_4, G2_5, G2_6, (by simp only [hk0, sel0, sel1, sel2, sel3])⟩⟩, J.I X ht hW.alike⟩, J.F ht⟩) J.locs dX7_until_25
set_option maxHeartbeats 400000 in
set_option maxRecDepth 100000 in
theorem cX7_harmful_ok (l : Launch) (E : zG) {ws : va_W} {mo mf md mi ms9 mk mt nf nr : Nat} {th lim sup off plo hrs : Int32} {fa rd ri sn kp tp : Nat → Int32} {wd stg : Int32} (Fa0 : ws[11]? = some (mo, .inr (8, [.int th, .int (nI nf), .ref mf, .int (nI nr), .ref md, .ref mi, .int lim, .int sup, .int off, .int plo, .int hrs, .ref ms9, .ref mk, .ref mt]))) (Fa1 : ws[12]? = some (mf, zI4 E 66 fa)) (Fa2 : ws[13]? = some (md, zI4 E 4 rd)) (Fa3 : ws[14]? = some (mi, zI4 E 4 ri)) (Fa4 : ws[15]? = some (ms9, zI4 E 400 sn)) (Fa5 : ws[16]? = some (mk, zI4 E 400 kp)) (Fa6 : ws[17]? = some (mt, zI4 E 400 tp)) (hnf : nf ≤ 10) (hok : ∀ j, j < nf → okF fa j) (hnr : nr ≤ 4) (hor : ∀ q, q < nr → okR rd ri q) : Met l yX7_harmful wsX7_harmful ({ frames := 5, cells := 0, slots := 0, locals := 129 } : Room) (va_Pc [.ref mo, .int wd, .int stg] (zI E ws)) (va_Qi (fun (r : Int32) (ws' : va_W) => (zK [11, 15, 16, 17] ws ws') ∧ (∃ (kq : Nat → Int32) (tq : Nat → Int32), (ws'[11]? = some (mo, .inr (8, [.int (kHarm wd stg), .int (nI nf), .ref mf, .int (nI nr), .ref md, .ref mi, .int lim, .int sup, .int off, .int plo, .int hrs, .ref ms9, .ref mk, .ref mt]))) ∧ (ws'[15]? = some (ms9, zI4 E 400 sn)) ∧ (ws'[16]? = some (mk, zI4 E 400 kq)) ∧ (ws'[17]? = some (mt, zI4 E 400 tq)) ∧ (r = sel (kHarm wd stg) (harS fa nf stg sup wd sn rd ri lim nr nf).1 0))) (zI E) (zA E)) 0 0 (zA E) := by
  refine Met.ofW (cc := cX7_harmful) (maxL := 7) (ret := (some .int)) (by decide) rfl ?_
  intro p e s m args below meth c s₁ B hml hv
  obtain ⟨hargs9, hI⟩ := hv
  have hx := B.exec
  have hb := B.bytes
  have hr := B.returns
  have hlocks := B.notSynchronized
  have X : zC E p m c cX7_harmful 7 s args wsX7_harmful RX7 := z_open B hml hI
  have hown := X.1.2.2.2.1
  have hts := X.1.2.2.2.2
  have J := hI.J
  have hi_X7 : ∀ w ∈ wsX70, w ∈ wsX7_harmful := by decide +kernel
  have hk : zK [11, 15, 16, 17] ws ws := zK.rf
  have hl := lv_entry ([.ref mo, .int wd, .int stg]) (n := 7) (Nat.le_of_ble_eq_true rfl)
  rw [show entryFrame m args 7 = entryFrame m ([.ref mo, .int wd, .int stg] : List Value).toArray 7 from by rw [hargs9], lg_entry_eq]
  generalize (lg_sl ([.ref mo, .int wd, .int stg]) ++ List.replicate (7 - (lg_sl ([.ref mo, .int wd, .int stg])).length) Slot.unset).toArray = ls at hl ⊢
  have hl : lv_has ls 7 [(0, .ref mo), (1, .int wd), (2, .int stg)] := hl
  generalize hQ : (MQ below (va_Qi (fun (r : Int32) (ws' : va_W) => (zK [11, 15, 16, 17] ws ws') ∧ (∃ (kq : Nat → Int32) (tq : Nat → Int32), (ws'[11]? = some (mo, .inr (8, [.int (kHarm wd stg), .int (nI nf), .ref mf, .int (nI nr), .ref md, .ref mi, .int lim, .int sup, .int off, .int plo, .int hrs, .ref ms9, .ref mk, .ref mt]))) ∧ (ws'[15]? = some (ms9, zI4 E 400 sn)) ∧ (ws'[16]? = some (mk, zI4 E 400 kq)) ∧ (ws'[17]? = some (mt, zI4 E 400 tq)) ∧ (r = sel (kHarm wd stg) (harS fa nf stg sup wd sn rd ri lim nr nf).1 0))) (zI E) (zA E)) args s 0 0 (zA E)) = QQ
  refine lv_aload_n hx hb dX7_harmful_0 rfl (lv_at hl 0 rfl) ?_
  refine lv_iconst (v := 0) hx hb dX7_harmful_1 (by decide) ?_
  refine z_put (C := RX7) (T := TX7) (N := 14) (ci := 8) (v := .int 0) X J hi_X7 tyX7 tyX7_ok nmX7 11 Fa0 rfl 0 (by decide) (by decide +kernel) rfl rfl rfl (Nat.le_of_ble_eq_true rfl) dX7_harmful_2 (fun H locs J => ?_)
  have J : zJ E (ws.set 11 (mo, .inr (8, [.int 0, .int (nI nf), .ref mf, .int (nI nr), .ref md, .ref mi, .int lim, .int sup, .int off, .int plo, .int hrs, .ref ms9, .ref mk, .ref mt]))) s H locs := J
  have hk := hk.trans (zK.set (ws := ws) (q := 11) (e := (mo, .inr (8, [.int 0, .int (nI nf), .ref mf, .int (nI nr), .ref md, .ref mi, .int lim, .int sup, .int off, .int plo, .int hrs, .ref ms9, .ref mk, .ref mt]))) (by simp))
  have G1_0 := zset_eq (e' := (mo, .inr (8, [.int 0, .int (nI nf), .ref mf, .int (nI nr), .ref md, .ref mi, .int lim, .int sup, .int off, .int plo, .int hrs, .ref ms9, .ref mk, .ref mt]))) Fa0
  have G1_1 := zset_ne (q := 11) (e' := (mo, .inr (8, [.int 0, .int (nI nf), .ref mf, .int (nI nr), .ref md, .ref mi, .int lim, .int sup, .int off, .int plo, .int hrs, .ref ms9, .ref mk, .ref mt]))) (by decide) Fa1
  have G1_2 := zset_ne (q := 11) (e' := (mo, .inr (8, [.int 0, .int (nI nf), .ref mf, .int (nI nr), .ref md, .ref mi, .int lim, .int sup, .int off, .int plo, .int hrs, .ref ms9, .ref mk, .ref mt]))) (by decide) Fa2
  have G1_3 := zset_ne (q := 11) (e' := (mo, .inr (8, [.int 0, .int (nI nf), .ref mf, .int (nI nr), .ref md, .ref mi, .int lim, .int sup, .int off, .int plo, .int hrs, .ref ms9, .ref mk, .ref mt]))) (by decide) Fa3
  have G1_4 := zset_ne (q := 11) (e' := (mo, .inr (8, [.int 0, .int (nI nf), .ref mf, .int (nI nr), .ref md, .ref mi, .int lim, .int sup, .int off, .int plo, .int hrs, .ref ms9, .ref mk, .ref mt]))) (by decide) Fa4
  have G1_5 := zset_ne (q := 11) (e' := (mo, .inr (8, [.int 0, .int (nI nf), .ref mf, .int (nI nr), .ref md, .ref mi, .int lim, .int sup, .int off, .int plo, .int hrs, .ref ms9, .ref mk, .ref mt]))) (by decide) Fa5
  have G1_6 := zset_ne (q := 11) (e' := (mo, .inr (8, [.int 0, .int (nI nf), .ref mf, .int (nI nr), .ref md, .ref mi, .int lim, .int sup, .int off, .int plo, .int hrs, .ref ms9, .ref mk, .ref mt]))) (by decide) Fa6
  generalize hws1 : (ws.set 11 (mo, .inr (8, [.int 0, .int (nI nf), .ref mf, .int (nI nr), .ref md, .ref mi, .int lim, .int sup, .int off, .int plo, .int hrs, .ref ms9, .ref mk, .ref mt]))) = ws_1 at J hk G1_0 G1_1 G1_2 G1_3 G1_4 G1_5 G1_6
  refine lv_iload_n hx hb dX7_harmful_5 rfl (lv_at hl 1 rfl) ?_
  refine z_cr (z_rS (As := [.int wd]) (rest := []) X J (cX7_isWind_ok l E) (va_cwS 1 hts gX7_harmful_X7_isWind rfl rfl rfl (by decide +kernel) ⟨Nat.le_of_ble_eq_true rfl, Nat.le_of_ble_eq_true rfl⟩) rfl hl.1 rfl (Nat.le_of_ble_eq_true rfl) dX7_harmful_6 ⟨Nat.le_of_ble_eq_true rfl, Nat.le_of_ble_eq_true rfl⟩) (fun r6 e_r6 => ?_)
  subst e_r6
  refine lv_if_ne (tgt := 18) hx hb dX7_harmful_9 (by decide) (fun cz9 => ?_) (fun cz9 => ?_)
  · refine lv_iload_n hx hb dX7_harmful_18 rfl (lv_at hl 2 rfl) ?_
    refine z_cr (z_rS (As := [.int stg]) (rest := []) X J (cX7_isStrength_ok l E) (va_cwS 1 hts gX7_harmful_X7_isStrength rfl rfl rfl (by decide +kernel) ⟨Nat.le_of_ble_eq_true rfl, Nat.le_of_ble_eq_true rfl⟩) rfl hl.1 rfl (Nat.le_of_ble_eq_true rfl) dX7_harmful_19 ⟨Nat.le_of_ble_eq_true rfl, Nat.le_of_ble_eq_true rfl⟩) (fun r19 e_r19 => ?_)
    subst e_r19
    refine lv_if_ne (tgt := 31) hx hb dX7_harmful_22 (by decide) (fun cz22 => ?_) (fun cz22 => ?_)
    · have hwd9 := inR03 (isInS_y cz9)
      refine lv_aload_n hx hb dX7_harmful_31 rfl (lv_at hl 0 rfl) ?_
      refine lv_aload_n hx hb dX7_harmful_32 rfl (lv_at hl 0 rfl) ?_
      refine z_get (C := RX7) (T := TX7) (N := 14) (ci := 8) (v := .int (nI nf)) X J hi_X7 11 G1_0 rfl 1 (by decide) (by decide +kernel) rfl dX7_harmful_33 ?_
      refine lv_iconst (v := (-1)) hx hb dX7_harmful_36 (by decide) ?_
      refine z_cv J (z_rV (As := [.int (nI nf), .int (-1)]) (rest := []) (ci := 8) (q0 := 11) X J (cX7_stand_ok l E G1_0 G1_1 G1_6 (by omega) hok) (cwV 2 hts gX7_harmful_X7_stand rfl rfl rfl (by decide +kernel) ⟨Nat.le_of_ble_eq_true rfl, Nat.le_of_ble_eq_true rfl⟩) G1_0 rfl rfl rfl hl.1 rfl (Nat.le_of_ble_eq_true rfl) dX7_harmful_37 ⟨Nat.le_of_ble_eq_true rfl, Nat.le_of_ble_eq_true rfl⟩) (fun ws_2 H locs hp9 J => ?_)
      obtain ⟨k2, ⟨tq_2, G2_a0, e_r37⟩⟩ := hp9
      have hk := hk.trans (k2.mono (by decide))
      have G2_0 := k2.2 11 _ (by decide) G1_0
      have G2_1 := k2.2 12 _ (by decide) G1_1
      have G2_2 := k2.2 13 _ (by decide) G1_2
      have G2_3 := k2.2 14 _ (by decide) G1_3
      have G2_4 := k2.2 15 _ (by decide) G1_4
      have G2_5 := k2.2 16 _ (by decide) G1_5
      refine lv_iconst (v := (harS fa nf stg sup wd sn rd ri lim nr 0).1) hx hb dX7_harmful_40 rfl ?_
      refine lv_istore_n (lv' := [(3, .int ((harS fa nf stg sup wd sn rd ri lim nr 0).1)), (0, .ref mo), (1, .int wd), (2, .int stg)]) hx hb dX7_harmful_41 rfl hl (by decide) rfl (fun ls hl => ?_)
      refine lv_aload_n hx hb dX7_harmful_42 rfl (lv_at hl 1 rfl) ?_
      refine lv_iload_n hx hb dX7_harmful_43 rfl (lv_at hl 2 rfl) ?_
      refine lv_iload_n hx hb dX7_harmful_44 rfl (lv_at hl 3 rfl) ?_
      refine z_ci J (z_rV (As := [.int wd, .int stg]) (rest := []) (ci := 8) (q0 := 11) X J (cX7_tried_ok l E G2_0 G2_1 G2_2 G2_3 G2_4 G2_5 G2_a0 e_r37 (by omega) hok hwd9 hnr hor) (cwV 2 hts gX7_harmful_X7_tried rfl rfl rfl (by decide +kernel) ⟨Nat.le_of_ble_eq_true rfl, Nat.le_of_ble_eq_true rfl⟩) G2_0 rfl rfl rfl hl.1 rfl (Nat.le_of_ble_eq_true rfl) dX7_harmful_45 ⟨Nat.le_of_ble_eq_true rfl, Nat.le_of_ble_eq_true rfl⟩) (fun r45 ws_3 H locs hp9 J => ?_)
      obtain ⟨k3, G3_a0, G3_a1, e_r45⟩ := hp9
      have hk := hk.trans (k3.mono (by decide))
      have G3_0 := k3.2 11 _ (by decide) G2_0
      have G3_1 := k3.2 12 _ (by decide) G2_1
      have G3_2 := k3.2 13 _ (by decide) G2_2
      have G3_3 := k3.2 14 _ (by decide) G2_3
      have G3_6 := k3.2 17 _ (by decide) G2_a0
      subst e_r45
      refine W.eq (g2 := F0 m 48 ls [.int ((harS fa nf stg sup wd sn rd ri lim nr 0).2)]) (congrArg (fun z9 : Int32 => F0 m 48 ls [.int z9]) (show (allB (hsS stg sup ((hgS fa (-1) nf).1) ((hgS fa (-1) nf).2) wd sn 4).2.1 rd ri lim nr : Int32) = (harS fa nf stg sup wd sn rd ri lim nr 0).2 from rfl)) ?_
      refine lv_istore (lv' := [(4, .int ((harS fa nf stg sup wd sn rd ri lim nr 0).2)), (3, .int ((harS fa nf stg sup wd sn rd ri lim nr 0).1)), (0, .ref mo), (1, .int wd), (2, .int stg)]) hx hb dX7_harmful_48 hl (by decide) rfl (fun ls hl => ?_)
      refine lv_iconst (v := nI 0) hx hb dX7_harmful_50 rfl ?_
      refine lv_istore (lv' := [(5, .int (nI 0)), (4, .int ((harS fa nf stg sup wd sn rd ri lim nr 0).2)), (3, .int ((harS fa nf stg sup wd sn rd ri lim nr 0).1)), (0, .ref mo), (1, .int wd), (2, .int stg)]) hx hb dX7_harmful_51 hl (by decide) rfl (fun ls hl => ?_)
      have loop_53 : ∀ (k9 i : Nat) (k0 : Nat → Int32) (t0 : Nat → Int32), i + k9 = nf → ∀ (wl53 : va_W) (H : Heap) (locs : List Loc) (ls : Array Slot), zK [11, 15, 16, 17] ws wl53 → wl53[11]? = some (mo, .inr (8, [.int 0, .int (nI nf), .ref mf, .int (nI nr), .ref md, .ref mi, .int lim, .int sup, .int off, .int plo, .int hrs, .ref ms9, .ref mk, .ref mt])) → wl53[12]? = some (mf, zI4 E 66 fa) → wl53[13]? = some (md, zI4 E 4 rd) → wl53[14]? = some (mi, zI4 E 4 ri) → wl53[15]? = some (ms9, zI4 E 400 sn) → wl53[16]? = some (mk, zI4 E 400 k0) → wl53[17]? = some (mt, zI4 E 400 t0) → zJ E wl53 s H locs → lv_has ls 7 [(5, .int (nI i)), (4, .int ((harS fa nf stg sup wd sn rd ri lim nr i).2)), (3, .int ((harS fa nf stg sup wd sn rd ri lim nr i).1)), (0, .ref mo), (1, .int wd), (2, .int stg)] → W p l e (headSpec wsX7_harmful ({ frames := 5, cells := 0, slots := 0, locals := 129 } : Room)).room s m args below meth c H locs 0 0 QQ (F0 m 53 ls []) := by
        intro k9
        induction k9 with
        | zero =>
          intro i k0 t0 hik wl53 H locs ls hk L53_0 L53_1 L53_2 L53_3 L53_4 L53_5 L53_6 J hl
          obtain rfl : nf = i := by omega
          refine lv_iload hx hb dX7_harmful_53 (lv_at hl 0 rfl) ?_
          refine lv_aload_n hx hb dX7_harmful_55 rfl (lv_at hl 3 rfl) ?_
          refine z_get (C := RX7) (T := TX7) (N := 14) (ci := 8) (v := .int (nI nf)) X J hi_X7 11 L53_0 rfl 1 (by decide) (by decide +kernel) rfl dX7_harmful_56 ?_
          refine lv_icmp_ge (tgt := 103) hx hb dX7_harmful_59 (by decide) (fun cz59 => ?_) (fun cz59 => by exact (cz59 (nI_le (Nat.le_refl _) (by omega))).elim)
          refine lv_iload_n hx hb dX7_harmful_103 rfl (lv_at hl 2 rfl) ?_
          have hk0 : (kHarm wd stg) = 0 := (if_neg (fun q => q (isInS_y cz9))).trans (if_neg (fun q => q (isInS_y cz22)))
          subst hQ
          exact W.iret (v := (harS fa nf stg sup wd sn rd ri lim nr nf).1) hx hb hr (fun t ht hW => ⟨⟨(harS fa nf stg sup wd sn rd ri lim nr nf).1, wl53, rfl, ⟨hk, ⟨k0, t0, (by simp only [hk0, sel0, sel1, sel2, sel3]; exact L53_0), L53_4, L53_5, L53_6, (by simp only [hk0, sel0, sel1, sel2, sel3])⟩⟩, J.I X ht hW.alike⟩, J.F ht⟩) J.locs dX7_harmful_104
        | succ k9 ih_53 =>
          intro i k0 t0 hik wl53 H locs ls hk L53_0 L53_1 L53_2 L53_3 L53_4 L53_5 L53_6 J hl
          refine lv_iload hx hb dX7_harmful_53 (lv_at hl 0 rfl) ?_
          refine lv_aload_n hx hb dX7_harmful_55 rfl (lv_at hl 3 rfl) ?_
          refine z_get (C := RX7) (T := TX7) (N := 14) (ci := 8) (v := .int (nI nf)) X J hi_X7 11 L53_0 rfl 1 (by decide) (by decide +kernel) rfl dX7_harmful_56 ?_
          refine lv_icmp_ge (tgt := 103) hx hb dX7_harmful_59 (by decide) (fun cz59 => by exact (nI_ge (by omega) (by omega) cz59).elim) (fun cz59 => ?_)
          refine lv_aload_n hx hb dX7_harmful_62 rfl (lv_at hl 3 rfl) ?_
          refine lv_aload_n hx hb dX7_harmful_63 rfl (lv_at hl 3 rfl) ?_
          refine z_get (C := RX7) (T := TX7) (N := 14) (ci := 8) (v := .int (nI nf)) X J hi_X7 11 L53_0 rfl 1 (by decide) (by decide +kernel) rfl dX7_harmful_64 ?_
          refine lv_iload hx hb dX7_harmful_67 (lv_at hl 0 rfl) ?_
          refine z_cv J (z_rV (As := [.int (nI nf), .int (nI i)]) (rest := []) (ci := 8) (q0 := 11) X J (cX7_stand_ok l E L53_0 L53_1 L53_6 (by omega) hok) (cwV 2 hts gX7_harmful_X7_stand rfl rfl rfl (by decide +kernel) ⟨Nat.le_of_ble_eq_true rfl, Nat.le_of_ble_eq_true rfl⟩) L53_0 rfl rfl rfl hl.1 rfl (Nat.le_of_ble_eq_true rfl) dX7_harmful_69 ⟨Nat.le_of_ble_eq_true rfl, Nat.le_of_ble_eq_true rfl⟩) (fun ws_4 H locs hp9 J => ?_)
          obtain ⟨k4, ⟨tq_4, G4_a0, e_r69⟩⟩ := hp9
          have hk := hk.trans (k4.mono (by decide))
          have G4_0 := k4.2 11 _ (by decide) L53_0
          have G4_1 := k4.2 12 _ (by decide) L53_1
          have G4_2 := k4.2 13 _ (by decide) L53_2
          have G4_3 := k4.2 14 _ (by decide) L53_3
          have G4_4 := k4.2 15 _ (by decide) L53_4
          have G4_5 := k4.2 16 _ (by decide) L53_5
          refine lv_aload_n hx hb dX7_harmful_72 rfl (lv_at hl 3 rfl) ?_
          refine lv_iload_n hx hb dX7_harmful_73 rfl (lv_at hl 4 rfl) ?_
          refine lv_iload_n hx hb dX7_harmful_74 rfl (lv_at hl 5 rfl) ?_
          refine z_ci J (z_rV (As := [.int wd, .int stg]) (rest := []) (ci := 8) (q0 := 11) X J (cX7_tried_ok l E G4_0 G4_1 G4_2 G4_3 G4_4 G4_5 G4_a0 e_r69 (by omega) hok hwd9 hnr hor) (cwV 2 hts gX7_harmful_X7_tried rfl rfl rfl (by decide +kernel) ⟨Nat.le_of_ble_eq_true rfl, Nat.le_of_ble_eq_true rfl⟩) G4_0 rfl rfl rfl hl.1 rfl (Nat.le_of_ble_eq_true rfl) dX7_harmful_75 ⟨Nat.le_of_ble_eq_true rfl, Nat.le_of_ble_eq_true rfl⟩) (fun r75 ws_5 H locs hp9 J => ?_)
          obtain ⟨k5, G5_a0, G5_a1, e_r75⟩ := hp9
          have hk := hk.trans (k5.mono (by decide))
          have G5_0 := k5.2 11 _ (by decide) G4_0
          have G5_1 := k5.2 12 _ (by decide) G4_1
          have G5_2 := k5.2 13 _ (by decide) G4_2
          have G5_3 := k5.2 14 _ (by decide) G4_3
          have G5_6 := k5.2 17 _ (by decide) G4_a0
          subst e_r75
          refine W.eq (g2 := F0 m 78 ls [.int (harF fa nf stg sup wd sn rd ri lim nr i)]) (congrArg (fun z9 : Int32 => F0 m 78 ls [.int z9]) (show (allB (hsS stg sup ((hgS fa (nI i) nf).1) ((hgS fa (nI i) nf).2) wd sn 4).2.1 rd ri lim nr : Int32) = harF fa nf stg sup wd sn rd ri lim nr i from rfl)) ?_
          refine lv_istore (lv' := [(6, .int (harF fa nf stg sup wd sn rd ri lim nr i)), (5, .int (nI i)), (4, .int ((harS fa nf stg sup wd sn rd ri lim nr i).2)), (3, .int ((harS fa nf stg sup wd sn rd ri lim nr i).1)), (0, .ref mo), (1, .int wd), (2, .int stg)]) hx hb dX7_harmful_78 hl (by decide) rfl (fun ls hl => ?_)
          refine lv_iload hx hb dX7_harmful_80 (lv_at hl 0 rfl) ?_
          refine lv_iload hx hb dX7_harmful_82 (lv_at hl 2 rfl) ?_
          refine lv_icmp_lt (tgt := 90) hx hb dX7_harmful_84 (by decide) (fun cz84 => ?_) (fun cz84 => ?_)
          · refine lv_iload hx hb dX7_harmful_90 (lv_at hl 1 rfl) ?_
            refine lv_istore_n (lv' := [(3, .int (nI i)), (6, .int (harF fa nf stg sup wd sn rd ri lim nr i)), (5, .int (nI i)), (4, .int ((harS fa nf stg sup wd sn rd ri lim nr i).2)), (0, .ref mo), (1, .int wd), (2, .int stg)]) hx hb dX7_harmful_92 rfl hl (by decide) rfl (fun ls hl => ?_)
            refine lv_iload hx hb dX7_harmful_93 (lv_at hl 1 rfl) ?_
            refine lv_istore (lv' := [(4, .int (harF fa nf stg sup wd sn rd ri lim nr i)), (3, .int (nI i)), (6, .int (harF fa nf stg sup wd sn rd ri lim nr i)), (5, .int (nI i)), (0, .ref mo), (1, .int wd), (2, .int stg)]) hx hb dX7_harmful_95 hl (by decide) rfl (fun ls hl => ?_)
            refine lv_iinc (v := nI (i + 1)) (lv' := [(5, .int (nI (i + 1))), (4, .int (harF fa nf stg sup wd sn rd ri lim nr i)), (3, .int (nI i)), (6, .int (harF fa nf stg sup wd sn rd ri lim nr i)), (0, .ref mo), (1, .int wd), (2, .int stg)]) hx hb dX7_harmful_97 hl (k := 3) rfl (nI_1 i) (by decide) rfl (fun ls hl => ?_)
            refine lv_goto (tgt := 53) hx hb dX7_harmful_100 (by decide) ?_
            have hl : lv_has ls 7 [(5, .int (nI (i + 1))), (4, .int ((harS fa nf stg sup wd sn rd ri lim nr (i + 1)).2)), (3, .int (nI i)), (6, .int (harF fa nf stg sup wd sn rd ri lim nr i)), (0, .ref mo), (1, .int wd), (2, .int stg)] := lv_repl hl (congrArg (fun z9 : Int32 => ([(5, .int (nI (i + 1))), (4, .int z9), (3, .int (nI i)), (6, .int (harF fa nf stg sup wd sn rd ri lim nr i)), (0, .ref mo), (1, .int wd), (2, .int stg)] : List (Nat × Value))) (show (harF fa nf stg sup wd sn rd ri lim nr i : Int32) = (harS fa nf stg sup wd sn rd ri lim nr (i + 1)).2 from (congrArg Prod.snd (harG_t (F := harF fa nf stg sup wd sn rd ri lim nr) cz84)).symm))
            have hl : lv_has ls 7 [(5, .int (nI (i + 1))), (4, .int ((harS fa nf stg sup wd sn rd ri lim nr (i + 1)).2)), (3, .int ((harS fa nf stg sup wd sn rd ri lim nr (i + 1)).1)), (6, .int (harF fa nf stg sup wd sn rd ri lim nr i)), (0, .ref mo), (1, .int wd), (2, .int stg)] := lv_repl hl (congrArg (fun z9 : Int32 => ([(5, .int (nI (i + 1))), (4, .int ((harS fa nf stg sup wd sn rd ri lim nr (i + 1)).2)), (3, .int z9), (6, .int (harF fa nf stg sup wd sn rd ri lim nr i)), (0, .ref mo), (1, .int wd), (2, .int stg)] : List (Nat × Value))) (show (nI i : Int32) = (harS fa nf stg sup wd sn rd ri lim nr (i + 1)).1 from (congrArg Prod.fst (harG_t (F := harF fa nf stg sup wd sn rd ri lim nr) cz84)).symm))
            exact ih_53 (i + 1) _ _ (by omega) _ _ _ _ hk G5_0 G5_1 G5_2 G5_3 G5_a0 G5_a1 G5_6 J (lv_sub hl [0, 1, 2, 4, 5, 6] rfl)
          · refine lv_goto (tgt := 97) hx hb dX7_harmful_87 (by decide) ?_
            refine lv_iinc (v := nI (i + 1)) (lv' := [(5, .int (nI (i + 1))), (6, .int (harF fa nf stg sup wd sn rd ri lim nr i)), (4, .int ((harS fa nf stg sup wd sn rd ri lim nr i).2)), (3, .int ((harS fa nf stg sup wd sn rd ri lim nr i).1)), (0, .ref mo), (1, .int wd), (2, .int stg)]) hx hb dX7_harmful_97 hl (k := 1) rfl (nI_1 i) (by decide) rfl (fun ls hl => ?_)
            refine lv_goto (tgt := 53) hx hb dX7_harmful_100 (by decide) ?_
            have hl : lv_has ls 7 [(5, .int (nI (i + 1))), (6, .int (harF fa nf stg sup wd sn rd ri lim nr i)), (4, .int ((harS fa nf stg sup wd sn rd ri lim nr (i + 1)).2)), (3, .int ((harS fa nf stg sup wd sn rd ri lim nr i).1)), (0, .ref mo), (1, .int wd), (2, .int stg)] := lv_repl hl (congrArg (fun z9 : Int32 => ([(5, .int (nI (i + 1))), (6, .int (harF fa nf stg sup wd sn rd ri lim nr i)), (4, .int z9), (3, .int ((harS fa nf stg sup wd sn rd ri lim nr i).1)), (0, .ref mo), (1, .int wd), (2, .int stg)] : List (Nat × Value))) (show ((harS fa nf stg sup wd sn rd ri lim nr i).2 : Int32) = (harS fa nf stg sup wd sn rd ri lim nr (i + 1)).2 from (congrArg Prod.snd (harG_f (F := harF fa nf stg sup wd sn rd ri lim nr) cz84)).symm))
            have hl : lv_has ls 7 [(5, .int (nI (i + 1))), (6, .int (harF fa nf stg sup wd sn rd ri lim nr i)), (4, .int ((harS fa nf stg sup wd sn rd ri lim nr (i + 1)).2)), (3, .int ((harS fa nf stg sup wd sn rd ri lim nr (i + 1)).1)), (0, .ref mo), (1, .int wd), (2, .int stg)] := lv_repl hl (congrArg (fun z9 : Int32 => ([(5, .int (nI (i + 1))), (6, .int (harF fa nf stg sup wd sn rd ri lim nr i)), (4, .int ((harS fa nf stg sup wd sn rd ri lim nr (i + 1)).2)), (3, .int z9), (0, .ref mo), (1, .int wd), (2, .int stg)] : List (Nat × Value))) (show ((harS fa nf stg sup wd sn rd ri lim nr i).1 : Int32) = (harS fa nf stg sup wd sn rd ri lim nr (i + 1)).1 from (congrArg Prod.fst (harG_f (F := harF fa nf stg sup wd sn rd ri lim nr) cz84)).symm))
            exact ih_53 (i + 1) _ _ (by omega) _ _ _ _ hk G5_0 G5_1 G5_2 G5_3 G5_a0 G5_a1 G5_6 J (lv_sub hl [0, 2, 3, 4, 5, 6] rfl)
      exact loop_53 nf 0 _ _ (by omega) _ _ _ _ hk G3_0 G3_1 G3_2 G3_3 G3_a0 G3_a1 G3_6 J (lv_sub hl [0, 1, 2, 3, 4, 5] rfl)
    · refine lv_aload_n hx hb dX7_harmful_25 rfl (lv_at hl 0 rfl) ?_
      refine lv_iconst (v := 2) hx hb dX7_harmful_26 (by decide) ?_
      refine z_ci J (z_rV (As := [.int 2]) (rest := []) (ci := 8) (q0 := 11) X J (cX7_no_ok l E G1_0) (cwV 1 hts gX7_harmful_X7_no rfl rfl rfl (by decide +kernel) ⟨Nat.le_of_ble_eq_true rfl, Nat.le_of_ble_eq_true rfl⟩) G1_0 rfl rfl rfl hl.1 rfl (Nat.le_of_ble_eq_true rfl) dX7_harmful_27 ⟨Nat.le_of_ble_eq_true rfl, Nat.le_of_ble_eq_true rfl⟩) (fun r27 ws_2 H locs hp9 J => ?_)
      obtain ⟨k2, hl9_2, G2_a0, e_r27⟩ := hp9
      have hk := hk.trans (k2.mono (by decide))
      have G2_1 := k2.2 12 _ (by decide) G1_1
      have G2_2 := k2.2 13 _ (by decide) G1_2
      have G2_3 := k2.2 14 _ (by decide) G1_3
      have G2_4 := k2.2 15 _ (by decide) G1_4
      have G2_5 := k2.2 16 _ (by decide) G1_5
      have G2_6 := k2.2 17 _ (by decide) G1_6
      subst e_r27
      have hk0 : (kHarm wd stg) = 2 := (if_neg (fun q => q (isInS_y cz9))).trans (if_pos (isInS_n cz22))
      subst hQ
      exact W.iret (v := 0) hx hb hr (fun t ht hW => ⟨⟨0, ws_2, rfl, ⟨hk, ⟨kp, tp, (by simp only [hk0, sel0, sel1, sel2, sel3]; exact G2_a0), G2_4, G2_5, G2_6, (by simp only [hk0, sel0, sel1, sel2, sel3])⟩⟩, J.I X ht hW.alike⟩, J.F ht⟩) J.locs dX7_harmful_30
  · refine lv_aload_n hx hb dX7_harmful_12 rfl (lv_at hl 0 rfl) ?_
    refine lv_iconst (v := 1) hx hb dX7_harmful_13 (by decide) ?_
    refine z_ci J (z_rV (As := [.int 1]) (rest := []) (ci := 8) (q0 := 11) X J (cX7_no_ok l E G1_0) (cwV 1 hts gX7_harmful_X7_no rfl rfl rfl (by decide +kernel) ⟨Nat.le_of_ble_eq_true rfl, Nat.le_of_ble_eq_true rfl⟩) G1_0 rfl rfl rfl hl.1 rfl (Nat.le_of_ble_eq_true rfl) dX7_harmful_14 ⟨Nat.le_of_ble_eq_true rfl, Nat.le_of_ble_eq_true rfl⟩) (fun r14 ws_2 H locs hp9 J => ?_)
    obtain ⟨k2, hl9_2, G2_a0, e_r14⟩ := hp9
    have hk := hk.trans (k2.mono (by decide))
    have G2_1 := k2.2 12 _ (by decide) G1_1
    have G2_2 := k2.2 13 _ (by decide) G1_2
    have G2_3 := k2.2 14 _ (by decide) G1_3
    have G2_4 := k2.2 15 _ (by decide) G1_4
    have G2_5 := k2.2 16 _ (by decide) G1_5
    have G2_6 := k2.2 17 _ (by decide) G1_6
    subst e_r14
    have hk0 : (kHarm wd stg) = 1 := if_pos (isInS_n cz9)
    subst hQ
    exact W.iret (v := 0) hx hb hr (fun t ht hW => ⟨⟨0, ws_2, rfl, ⟨hk, ⟨kp, tp, (by simp only [hk0, sel0, sel1, sel2, sel3]; exact G2_a0), G2_4, G2_5, G2_6, (by simp only [hk0, sel0, sel1, sel2, sel3])⟩⟩, J.I X ht hW.alike⟩, J.F ht⟩) J.locs dX7_harmful_17
