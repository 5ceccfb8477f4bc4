set_option maxHeartbeats 400000 in
set_option maxRecDepth 100000 in
theorem cX6_blow_ok (l : Launch) (hflags : l.flags = flags0) (E : zG) {ws : va_W} {x fl rl wh gr gra tr sc ha va ea nf : Nat} {mc1 lim sup off plo hrs : Int32} {fa sn hf gf : Nat → Int32} {wd stg du : Int32} (Fa0 : ws[0]? = some (x, .inr (7, [.ref fl, .ref rl, .ref wh, .ref gr, .ref tr, .ref sc, .int lim, .int sup, .int off, .int plo, .int hrs]))) (Fa1 : ws[1]? = some (fl, .inr (0, [.int mc1, .ref ea, .int (nI nf)]))) (Fa2 : ws[4]? = some (gr, .inr (2, [.ref gra]))) (Fa3 : ws[5]? = some (gra, zI4 E 400 sn)) (Fa4 : ws[8]? = some (sc, .inr (4, [.ref ha, .ref va]))) (Fa5 : ws[9]? = some (ha, zI4 E 400 hf)) (Fa6 : ws[10]? = some (va, zI4 E 400 gf)) (hF : FS E ws fa ea nf) (hnf : nf ≤ 10) (hok : ∀ j, j < nf → okF fa j) : vx_Met l yX6_blow wsX6_blow ({ frames := 8, cells := 12, slots := 80, locals := 133 } : Room) (va_Pc [.ref x, .int wd, .int stg, .int du] (zY E ws)) (va_Qi (fun (r : Int32) (ws' : va_W) => (zK [0, 5, 9, 10] ws ws') ∧ (ws'[0]? = some (x, .inr (7, [.ref fl, .ref rl, .ref wh, .ref gr, .ref tr, .ref sc, .int lim, .int sup, .int (off + (hsS stg sup (hgS fa (-1) nf).1 (hgS fa (-1) nf).2 wd sn du.toNatClampNeg).1), .int plo, .int (hrs + du)]))) ∧ (ws'[5]? = some (gra, zI4 E 400 ((hsS stg sup (hgS fa (-1) nf).1 (hgS fa (-1) nf).2 wd sn du.toNatClampNeg).2.1))) ∧ (ws'[9]? = some (ha, zI4 E 400 ((hgS fa (-1) nf).1))) ∧ (ws'[10]? = some (va, zI4 E 400 ((hgS fa (-1) nf).2))) ∧ ((kBlow wd stg du) = 0 ∧ r = (hsS stg sup (hgS fa (-1) nf).1 (hgS fa (-1) nf).2 wd sn du.toNatClampNeg).1)) (zI E) (zA E)) (zX E ws (fun nm => ((kBlow wd stg du) = 1 ∧ nm = "java/lang/IndexOutOfBoundsException") ∨ ((kBlow wd stg du) = 2 ∧ nm = "java/lang/IllegalArgumentException"))) 12 80 (zA E) := by
  refine vx_ofW (cc := cX6_blow) (maxL := 5) (ret := (some .int)) (by decide) rfl ?_
  intro p e s m args below meth c s₁ B hml htab hv
  obtain ⟨hargs9, hI, hRz⟩ := hv
  have hx := B.exec
  have hb := B.bytes
  have hr := B.returns
  have hlocks := B.notSynchronized
  have X : zC E p m c cX6_blow 5 s args wsX6_blow RX6 := z_open B hml hI
  have hown := X.1.2.2.2.1
  have hts := X.1.2.2.2.2
  have J := hI.J
  have hi_X5 : ∀ w ∈ wsX50, w ∈ wsX6_blow := by decide +kernel
  have hi_X6 : ∀ w ∈ wsX60, w ∈ wsX6_blow := by decide +kernel
  have hk : zK [0, 5, 9, 10] ws ws := zK.rf
  have hl := lv_entry ([.ref x, .int wd, .int stg, .int du]) (n := 5) (Nat.le_of_ble_eq_true rfl)
  rw [show entryFrame m args 5 = entryFrame m ([.ref x, .int wd, .int stg, .int du] : List Value).toArray 5 from by rw [hargs9], lg_entry_eq]
  generalize (lg_sl ([.ref x, .int wd, .int stg, .int du]) ++ List.replicate (5 - (lg_sl ([.ref x, .int wd, .int stg, .int du])).length) Slot.unset).toArray = ls at hl ⊢
  have hl : lv_has ls 5 [(0, .ref x), (1, .int wd), (2, .int stg), (3, .int du)] := hl
  generalize hQ : (vx_MQ below (va_Qi (fun (r : Int32) (ws' : va_W) => (zK [0, 5, 9, 10] ws ws') ∧ (ws'[0]? = some (x, .inr (7, [.ref fl, .ref rl, .ref wh, .ref gr, .ref tr, .ref sc, .int lim, .int sup, .int (off + (hsS stg sup (hgS fa (-1) nf).1 (hgS fa (-1) nf).2 wd sn du.toNatClampNeg).1), .int plo, .int (hrs + du)]))) ∧ (ws'[5]? = some (gra, zI4 E 400 ((hsS stg sup (hgS fa (-1) nf).1 (hgS fa (-1) nf).2 wd sn du.toNatClampNeg).2.1))) ∧ (ws'[9]? = some (ha, zI4 E 400 ((hgS fa (-1) nf).1))) ∧ (ws'[10]? = some (va, zI4 E 400 ((hgS fa (-1) nf).2))) ∧ ((kBlow wd stg du) = 0 ∧ r = (hsS stg sup (hgS fa (-1) nf).1 (hgS fa (-1) nf).2 wd sn du.toNatClampNeg).1)) (zI E) (zA E)) (zX E ws (fun nm => ((kBlow wd stg du) = 1 ∧ nm = "java/lang/IndexOutOfBoundsException") ∨ ((kBlow wd stg du) = 2 ∧ nm = "java/lang/IllegalArgumentException"))) args s 12 80 (zA E)) = QQ
  refine lv_iload_n hx hb dX6_blow_0 rfl (lv_at hl 1 rfl) ?_
  refine z_xv J (z_yS (As := [.int wd]) (rest := []) X hRz J (cX6_needWind_ok l hflags E) (va_cwS 1 hts gX6_blow_X6_needWind rfl rfl rfl (by decide +kernel) ⟨Nat.le_of_ble_eq_true rfl, Nat.le_of_ble_eq_true rfl⟩) rfl hl.1 rfl (Nat.le_of_ble_eq_true rfl) dX6_blow_1 ⟨Nat.le_of_ble_eq_true rfl, Nat.le_of_ble_eq_true rfl⟩) (fun nm ce q9 H locs hp9 J h1 h2 h3 => ?_) (fun ws_1 H locs hp9 J => ?_)
  · subst hQ
    exact z_out X J htab hlocks h1 h2 h3 (by exact Or.inl ⟨if_pos hp9.1, hp9.2⟩) (Nat.le_of_ble_eq_true rfl) (Nat.le_of_ble_eq_true rfl)
  obtain ⟨rfl, e_r1⟩ := hp9
  refine lv_iload_n hx hb dX6_blow_4 rfl (lv_at hl 2 rfl) ?_
  refine z_xv J (z_yS (As := [.int stg]) (rest := []) X hRz J (cX6_needStrength_ok l hflags E) (va_cwS 1 hts gX6_blow_X6_needStrength rfl rfl rfl (by decide +kernel) ⟨Nat.le_of_ble_eq_true rfl, Nat.le_of_ble_eq_true rfl⟩) rfl hl.1 rfl (Nat.le_of_ble_eq_true rfl) dX6_blow_5 ⟨Nat.le_of_ble_eq_true rfl, Nat.le_of_ble_eq_true rfl⟩) (fun nm ce q9 H locs hp9 J h1 h2 h3 => ?_) (fun ws_2 H locs hp9 J => ?_)
  · subst hQ
    exact z_out X J htab hlocks h1 h2 h3 (by exact Or.inr ⟨(if_neg (fun q => q e_r1)).trans (if_pos (Or.inl hp9.1)), hp9.2⟩) (Nat.le_of_ble_eq_true rfl) (Nat.le_of_ble_eq_true rfl)
  obtain ⟨rfl, e_r5⟩ := hp9
  refine lv_iload_n hx hb dX6_blow_8 rfl (lv_at hl 3 rfl) ?_
  refine z_xv J (z_yS (As := [.int du]) (rest := []) X hRz J (cX6_needHours_ok l hflags E) (va_cwS 1 hts gX6_blow_X6_needHours rfl rfl rfl (by decide +kernel) ⟨Nat.le_of_ble_eq_true rfl, Nat.le_of_ble_eq_true rfl⟩) rfl hl.1 rfl (Nat.le_of_ble_eq_true rfl) dX6_blow_9 ⟨Nat.le_of_ble_eq_true rfl, Nat.le_of_ble_eq_true rfl⟩) (fun nm ce q9 H locs hp9 J h1 h2 h3 => ?_) (fun ws_3 H locs hp9 J => ?_)
  · subst hQ
    exact z_out X J htab hlocks h1 h2 h3 (by exact Or.inr ⟨(if_neg (fun q => q e_r1)).trans (if_pos (Or.inr hp9.1)), hp9.2⟩) (Nat.le_of_ble_eq_true rfl) (Nat.le_of_ble_eq_true rfl)
  obtain ⟨rfl, e_r9⟩ := hp9
  have hwd9 := inR03 e_r1
  obtain ⟨du9, hdu9, hdv9, ekdu9⟩ := inR_1n (b := 24) (by decide) e_r9
  have hl : lv_has ls 5 [(0, .ref x), (1, .int wd), (2, .int stg), (3, .int (nI du9))] := lv_repl hl (congrArg (fun z9 : Int32 => ([(0, .ref x), (1, .int wd), (2, .int stg), (3, .int z9)] : List (Nat × Value))) (show du = nI du9 from ekdu9))
  have eydu9 : du.toNatClampNeg = du9 := by rw [ekdu9, nI_clamp (by omega)]
  refine lv_aload_n hx hb dX6_blow_12 rfl (lv_at hl 0 rfl) ?_
  refine lv_iconst (v := (-1)) hx hb dX6_blow_13 (by decide) ?_
  refine z_cv J (z_rV (As := [.int (-1)]) (rest := []) (ci := 7) (q0 := 0) X J (cX6_screenAllBut_ok l E Fa0 Fa1 Fa4 Fa5 Fa6 (by first | assumption | omega | decide) (by first | assumption | omega | decide) (by first | assumption | omega | decide)) (cwV 1 hts gX6_blow_X6_screenAllBut rfl rfl rfl (by decide +kernel) ⟨Nat.le_of_ble_eq_true rfl, Nat.le_of_ble_eq_true rfl⟩) Fa0 rfl rfl rfl hl.1 rfl (Nat.le_of_ble_eq_true rfl) dX6_blow_14 ⟨Nat.le_of_ble_eq_true rfl, Nat.le_of_ble_eq_true rfl⟩) (fun ws_4 H locs hp9 J => ?_)
  obtain ⟨k4, G4_a0, G4_a1⟩ := hp9
  have hk := hk.trans (k4.mono (by decide))
  have G4_0 := k4.2 0 _ (by decide) Fa0
  have G4_1 := k4.2 1 _ (by decide) Fa1
  have G4_2 := k4.2 4 _ (by decide) Fa2
  have G4_3 := k4.2 5 _ (by decide) Fa3
  have G4_4 := k4.2 8 _ (by decide) Fa4
  refine lv_aload_n hx hb dX6_blow_17 rfl (lv_at hl 0 rfl) ?_
  refine lv_aload_n hx hb dX6_blow_18 rfl (lv_at hl 0 rfl) ?_
  refine z_get (C := RX6) (T := TX6) (N := 11) (ci := 7) (v := .ref gr) X J hi_X6 0 G4_0 rfl 3 (by decide) (by decide +kernel) rfl dX6_blow_19 ?_
  refine z_new (C := RX5) (T := TX5) (N := 10) (ci := 6) (fs := [.int 0, .int 0, .int 0, .int 0, .int 0, .int 0, .int 0, .int 0, .int 0, .int 0]) X J hi_X5 tyX5 tyX5_ok (by decide +kernel) (by decide +kernel) (by decide +kernel) rfl (fun j hj => by rcases (show j = 0 ∨ j = 1 ∨ j = 2 ∨ j = 3 ∨ j = 4 ∨ j = 5 ∨ j = 6 ∨ j = 7 ∨ j = 8 ∨ j = 9 by omega) with rfl | rfl | rfl | rfl | rfl | rfl | rfl | rfl | rfl | rfl <;> rfl) (Nat.le_of_ble_eq_true rfl) (Nat.le_of_ble_eq_true rfl) dX6_blow_22 (fun q22 H J => ?_)
  have lp5 := hk.1
  have hk := hk.trans (zK.app (more := [(q22, .inr (6, [.int 0, .int 0, .int 0, .int 0, .int 0, .int 0, .int 0, .int 0, .int 0, .int 0]))]))
  have bG5_0 := zlt G4_0
  have G5_0 := zapp (x := (q22, .inr (6, [.int 0, .int 0, .int 0, .int 0, .int 0, .int 0, .int 0, .int 0, .int 0, .int 0]))) G4_0
  have bG5_1 := zlt G4_1
  have G5_1 := zapp (x := (q22, .inr (6, [.int 0, .int 0, .int 0, .int 0, .int 0, .int 0, .int 0, .int 0, .int 0, .int 0]))) G4_1
  have bG5_2 := zlt G4_2
  have G5_2 := zapp (x := (q22, .inr (6, [.int 0, .int 0, .int 0, .int 0, .int 0, .int 0, .int 0, .int 0, .int 0, .int 0]))) G4_2
  have bG5_3 := zlt G4_3
  have G5_3 := zapp (x := (q22, .inr (6, [.int 0, .int 0, .int 0, .int 0, .int 0, .int 0, .int 0, .int 0, .int 0, .int 0]))) G4_3
  have bG5_4 := zlt G4_4
  have G5_4 := zapp (x := (q22, .inr (6, [.int 0, .int 0, .int 0, .int 0, .int 0, .int 0, .int 0, .int 0, .int 0, .int 0]))) G4_4
  have bG5_5 := zlt G4_a0
  have G5_5 := zapp (x := (q22, .inr (6, [.int 0, .int 0, .int 0, .int 0, .int 0, .int 0, .int 0, .int 0, .int 0, .int 0]))) G4_a0
  have bG5_6 := zlt G4_a1
  have G5_6 := zapp (x := (q22, .inr (6, [.int 0, .int 0, .int 0, .int 0, .int 0, .int 0, .int 0, .int 0, .int 0, .int 0]))) G4_a1
  have G5_n := zapp_new (ws := ws_4) (x := (q22, .inr (6, [.int 0, .int 0, .int 0, .int 0, .int 0, .int 0, .int 0, .int 0, .int 0, .int 0])))
  generalize hws5 : ws_4 ++ [(q22, .inr (6, [.int 0, .int 0, .int 0, .int 0, .int 0, .int 0, .int 0, .int 0, .int 0, .int 0]))] = ws_5 at J hk G5_0 G5_1 G5_2 G5_3 G5_4 G5_5 G5_6 G5_n
  generalize hpn5 : ws_4.length = pn_5 at G5_n lp5 bG5_0 bG5_1 bG5_2 bG5_3 bG5_4 bG5_5 bG5_6
  refine lv_dup hx hb dX6_blow_25 rfl ?_
  refine lv_iload_n hx hb dX6_blow_26 rfl (lv_at hl 1 rfl) ?_
  refine lv_iload_n hx hb dX6_blow_27 rfl (lv_at hl 2 rfl) ?_
  refine lv_aload_n hx hb dX6_blow_28 rfl (lv_at hl 0 rfl) ?_
  refine z_get (C := RX6) (T := TX6) (N := 11) (ci := 7) (v := .int sup) X J hi_X6 0 G5_0 rfl 7 (by decide) (by decide +kernel) rfl dX6_blow_29 ?_
  refine z_cv J (z_rI (As := [.int wd, .int stg, .int sup]) (rest := [.ref q22, .ref gr, .ref x]) X J (cX5_init_ok l E G5_n hwd9) (cwI 3 hts gX6_blow_X5_init rfl rfl rfl (hts (.initialized RX5) (by decide +kernel)) (hts (.methodLink RX6 149 yX5_init) (by decide +kernel)) (hts (.instanceMethod yX5_init) (by decide +kernel)) rfl (by decide +kernel) ⟨Nat.le_of_ble_eq_true rfl, Nat.le_of_ble_eq_true rfl⟩) rfl hl.1 rfl (Nat.le_of_ble_eq_true rfl) dX6_blow_32 ⟨Nat.le_of_ble_eq_true rfl, Nat.le_of_ble_eq_true rfl⟩) (fun ws_6 H locs hp9 J => ?_)
  obtain ⟨k6, hl9_6, G6_a0⟩ := hp9
  have hk := hk.transN k6 (by intro q9 hq9; simp only [List.mem_cons, List.not_mem_nil, or_false] at hq9 ⊢; omega)
  have G6_0 := k6.2 0 _ (by simp only [List.mem_cons, List.not_mem_nil, or_false]; omega) G5_0
  have G6_1 := k6.2 1 _ (by simp only [List.mem_cons, List.not_mem_nil, or_false]; omega) G5_1
  have G6_2 := k6.2 4 _ (by simp only [List.mem_cons, List.not_mem_nil, or_false]; omega) G5_2
  have G6_3 := k6.2 5 _ (by simp only [List.mem_cons, List.not_mem_nil, or_false]; omega) G5_3
  have G6_4 := k6.2 8 _ (by simp only [List.mem_cons, List.not_mem_nil, or_false]; omega) G5_4
  have G6_5 := k6.2 9 _ (by simp only [List.mem_cons, List.not_mem_nil, or_false]; omega) G5_5
  have G6_6 := k6.2 10 _ (by simp only [List.mem_cons, List.not_mem_nil, or_false]; omega) G5_6
  refine lv_iload_n hx hb dX6_blow_35 rfl (lv_at hl 3 rfl) ?_
  refine z_ci J (z_rV (As := [.ref gr, .ref q22, .int (nI du9)]) (rest := []) (ci := 7) (q0 := 0) X J (cX6_blowOver_ok l E G6_0 G6_4 G6_5 G6_6 G6_2 G6_3 G6_a0 (by first | assumption | omega | decide) (by first | assumption | omega | decide) (by first | assumption | omega | decide)) (cwV 3 hts gX6_blow_X6_blowOver rfl rfl rfl (by decide +kernel) ⟨Nat.le_of_ble_eq_true rfl, Nat.le_of_ble_eq_true rfl⟩) G6_0 rfl rfl rfl hl.1 rfl (Nat.le_of_ble_eq_true rfl) dX6_blow_36 ⟨Nat.le_of_ble_eq_true rfl, Nat.le_of_ble_eq_true rfl⟩) (fun r36 ws_7 H locs hp9 J => ?_)
  obtain ⟨k7, G7_a0, G7_a1, e_r36⟩ := hp9
  have hk := hk.transN k7 (by intro q9 hq9; simp only [List.mem_cons, List.not_mem_nil, or_false] at hq9 ⊢; omega)
  have G7_0 := k7.2 0 _ (by simp only [List.mem_cons, List.not_mem_nil, or_false]; omega) G6_0
  have G7_1 := k7.2 1 _ (by simp only [List.mem_cons, List.not_mem_nil, or_false]; omega) G6_1
  have G7_2 := k7.2 4 _ (by simp only [List.mem_cons, List.not_mem_nil, or_false]; omega) G6_2
  have G7_4 := k7.2 8 _ (by simp only [List.mem_cons, List.not_mem_nil, or_false]; omega) G6_4
  have G7_5 := k7.2 9 _ (by simp only [List.mem_cons, List.not_mem_nil, or_false]; omega) G6_5
  have G7_6 := k7.2 10 _ (by simp only [List.mem_cons, List.not_mem_nil, or_false]; omega) G6_6
  subst e_r36
  refine lv_istore (lv' := [(4, .int ((boS stg sup ((hgS fa (-1) nf).1) ((hgS fa (-1) nf).2) (wfc wd) (wnc wd) (wnl wd) (sn, 0, 0, 0, 0) du9).1)), (0, .ref x), (1, .int wd), (2, .int stg), (3, .int (nI du9))]) hx hb dX6_blow_39 hl (by decide) rfl (fun ls hl => ?_)
  refine lv_aload_n hx hb dX6_blow_41 rfl (lv_at hl 1 rfl) ?_
  refine lv_dup hx hb dX6_blow_42 rfl ?_
  refine z_get (C := RX6) (T := TX6) (N := 11) (ci := 7) (v := .int off) X J hi_X6 0 G7_0 rfl 8 (by decide) (by decide +kernel) rfl dX6_blow_43 ?_
  refine lv_iload hx hb dX6_blow_46 (lv_at hl 0 rfl) ?_
  refine lv_iadd hx hb dX6_blow_48 ?_
  refine z_put (C := RX6) (T := TX6) (N := 11) (ci := 7) (v := .int (off + ((boS stg sup ((hgS fa (-1) nf).1) ((hgS fa (-1) nf).2) (wfc wd) (wnc wd) (wnl wd) (sn, 0, 0, 0, 0) du9).1))) X J hi_X6 tyX6 tyX6_ok nmX6 0 G7_0 rfl 8 (by decide) (by decide +kernel) rfl rfl rfl (Nat.le_of_ble_eq_true rfl) dX6_blow_49 (fun H locs J => ?_)
  have J : zJ E (ws_7.set 0 (x, .inr (7, [.ref fl, .ref rl, .ref wh, .ref gr, .ref tr, .ref sc, .int lim, .int sup, .int (off + ((boS stg sup ((hgS fa (-1) nf).1) ((hgS fa (-1) nf).2) (wfc wd) (wnc wd) (wnl wd) (sn, 0, 0, 0, 0) du9).1)), .int plo, .int hrs]))) s H locs := J
  have hk := hk.trans (zK.set (ws := ws_7) (q := 0) (e := (x, .inr (7, [.ref fl, .ref rl, .ref wh, .ref gr, .ref tr, .ref sc, .int lim, .int sup, .int (off + ((boS stg sup ((hgS fa (-1) nf).1) ((hgS fa (-1) nf).2) (wfc wd) (wnc wd) (wnl wd) (sn, 0, 0, 0, 0) du9).1)), .int plo, .int hrs]))) (by simp))
  have G8_0 := zset_eq (e' := (x, .inr (7, [.ref fl, .ref rl, .ref wh, .ref gr, .ref tr, .ref sc, .int lim, .int sup, .int (off + ((boS stg sup ((hgS fa (-1) nf).1) ((hgS fa (-1) nf).2) (wfc wd) (wnc wd) (wnl wd) (sn, 0, 0, 0, 0) du9).1)), .int plo, .int hrs]))) G7_0
  have G8_1 := zset_ne (q := 0) (e' := (x, .inr (7, [.ref fl, .ref rl, .ref wh, .ref gr, .ref tr, .ref sc, .int lim, .int sup, .int (off + ((boS stg sup ((hgS fa (-1) nf).1) ((hgS fa (-1) nf).2) (wfc wd) (wnc wd) (wnl wd) (sn, 0, 0, 0, 0) du9).1)), .int plo, .int hrs]))) (by decide) G7_1
  have G8_2 := zset_ne (q := 0) (e' := (x, .inr (7, [.ref fl, .ref rl, .ref wh, .ref gr, .ref tr, .ref sc, .int lim, .int sup, .int (off + ((boS stg sup ((hgS fa (-1) nf).1) ((hgS fa (-1) nf).2) (wfc wd) (wnc wd) (wnl wd) (sn, 0, 0, 0, 0) du9).1)), .int plo, .int hrs]))) (by decide) G7_2
  have G8_3 := zset_ne (q := 0) (e' := (x, .inr (7, [.ref fl, .ref rl, .ref wh, .ref gr, .ref tr, .ref sc, .int lim, .int sup, .int (off + ((boS stg sup ((hgS fa (-1) nf).1) ((hgS fa (-1) nf).2) (wfc wd) (wnc wd) (wnl wd) (sn, 0, 0, 0, 0) du9).1)), .int plo, .int hrs]))) (by decide) G7_a1
  have G8_4 := zset_ne (q := 0) (e' := (x, .inr (7, [.ref fl, .ref rl, .ref wh, .ref gr, .ref tr, .ref sc, .int lim, .int sup, .int (off + ((boS stg sup ((hgS fa (-1) nf).1) ((hgS fa (-1) nf).2) (wfc wd) (wnc wd) (wnl wd) (sn, 0, 0, 0, 0) du9).1)), .int plo, .int hrs]))) (by decide) G7_4
  have G8_5 := zset_ne (q := 0) (e' := (x, .inr (7, [.ref fl, .ref rl, .ref wh, .ref gr, .ref tr, .ref sc, .int lim, .int sup, .int (off + ((boS stg sup ((hgS fa (-1) nf).1) ((hgS fa (-1) nf).2) (wfc wd) (wnc wd) (wnl wd) (sn, 0, 0, 0, 0) du9).1)), .int plo, .int hrs]))) (by decide) G7_5
  have G8_6 := zset_ne (q := 0) (e' := (x, .inr (7, [.ref fl, .ref rl, .ref wh, .ref gr, .ref tr, .ref sc, .int lim, .int sup, .int (off + ((boS stg sup ((hgS fa (-1) nf).1) ((hgS fa (-1) nf).2) (wfc wd) (wnc wd) (wnl wd) (sn, 0, 0, 0, 0) du9).1)), .int plo, .int hrs]))) (by decide) G7_6
  have G8_7 := zset_ne (q := 0) (e' := (x, .inr (7, [.ref fl, .ref rl, .ref wh, .ref gr, .ref tr, .ref sc, .int lim, .int sup, .int (off + ((boS stg sup ((hgS fa (-1) nf).1) ((hgS fa (-1) nf).2) (wfc wd) (wnc wd) (wnl wd) (sn, 0, 0, 0, 0) du9).1)), .int plo, .int hrs]))) (by omega) G7_a0
  generalize hws8 : (ws_7.set 0 (x, .inr (7, [.ref fl, .ref rl, .ref wh, .ref gr, .ref tr, .ref sc, .int lim, .int sup, .int (off + ((boS stg sup ((hgS fa (-1) nf).1) ((hgS fa (-1) nf).2) (wfc wd) (wnc wd) (wnl wd) (sn, 0, 0, 0, 0) du9).1)), .int plo, .int hrs]))) = ws_8 at J hk G8_0 G8_1 G8_2 G8_3 G8_4 G8_5 G8_6 G8_7
  refine lv_aload_n hx hb dX6_blow_52 rfl (lv_at hl 1 rfl) ?_
  refine lv_dup hx hb dX6_blow_53 rfl ?_
  refine z_get (C := RX6) (T := TX6) (N := 11) (ci := 7) (v := .int hrs) X J hi_X6 0 G8_0 rfl 10 (by decide) (by decide +kernel) rfl dX6_blow_54 ?_
  refine lv_iload_n hx hb dX6_blow_57 rfl (lv_at hl 4 rfl) ?_
  refine lv_iadd hx hb dX6_blow_58 ?_
  refine z_put (C := RX6) (T := TX6) (N := 11) (ci := 7) (v := .int (hrs + (nI du9))) X J hi_X6 tyX6 tyX6_ok nmX6 0 G8_0 rfl 10 (by decide) (by decide +kernel) rfl rfl rfl (Nat.le_of_ble_eq_true rfl) dX6_blow_59 (fun H locs J => ?_)
  have J : zJ E (ws_8.set 0 (x, .inr (7, [.ref fl, .ref rl, .ref wh, .ref gr, .ref tr, .ref sc, .int lim, .int sup, .int (off + ((boS stg sup ((hgS fa (-1) nf).1) ((hgS fa (-1) nf).2) (wfc wd) (wnc wd) (wnl wd) (sn, 0, 0, 0, 0) du9).1)), .int plo, .int (hrs + (nI du9))]))) s H locs := J
  have hk := hk.trans (zK.set (ws := ws_8) (q := 0) (e := (x, .inr (7, [.ref fl, .ref rl, .ref wh, .ref gr, .ref tr, .ref sc, .int lim, .int sup, .int (off + ((boS stg sup ((hgS fa (-1) nf).1) ((hgS fa (-1) nf).2) (wfc wd) (wnc wd) (wnl wd) (sn, 0, 0, 0, 0) du9).1)), .int plo, .int (hrs + (nI du9))]))) (by simp))
  have G9_0 := zset_eq (e' := (x, .inr (7, [.ref fl, .ref rl, .ref wh, .ref gr, .ref tr, .ref sc, .int lim, .int sup, .int (off + ((boS stg sup ((hgS fa (-1) nf).1) ((hgS fa (-1) nf).2) (wfc wd) (wnc wd) (wnl wd) (sn, 0, 0, 0, 0) du9).1)), .int plo, .int (hrs + (nI du9))]))) G8_0
  have G9_1 := zset_ne (q := 0) (e' := (x, .inr (7, [.ref fl, .ref rl, .ref wh, .ref gr, .ref tr, .ref sc, .int lim, .int sup, .int (off + ((boS stg sup ((hgS fa (-1) nf).1) ((hgS fa (-1) nf).2) (wfc wd) (wnc wd) (wnl wd) (sn, 0, 0, 0, 0) du9).1)), .int plo, .int (hrs + (nI du9))]))) (by decide) G8_1
  have G9_2 := zset_ne (q := 0) (e' := (x, .inr (7, [.ref fl, .ref rl, .ref wh, .ref gr, .ref tr, .ref sc, .int lim, .int sup, .int (off + ((boS stg sup ((hgS fa (-1) nf).1) ((hgS fa (-1) nf).2) (wfc wd) (wnc wd) (wnl wd) (sn, 0, 0, 0, 0) du9).1)), .int plo, .int (hrs + (nI du9))]))) (by decide) G8_2
  have G9_3 := zset_ne (q := 0) (e' := (x, .inr (7, [.ref fl, .ref rl, .ref wh, .ref gr, .ref tr, .ref sc, .int lim, .int sup, .int (off + ((boS stg sup ((hgS fa (-1) nf).1) ((hgS fa (-1) nf).2) (wfc wd) (wnc wd) (wnl wd) (sn, 0, 0, 0, 0) du9).1)), .int plo, .int (hrs + (nI du9))]))) (by decide) G8_3
  have G9_4 := zset_ne (q := 0) (e' := (x, .inr (7, [.ref fl, .ref rl, .ref wh, .ref gr, .ref tr, .ref sc, .int lim, .int sup, .int (off + ((boS stg sup ((hgS fa (-1) nf).1) ((hgS fa (-1) nf).2) (wfc wd) (wnc wd) (wnl wd) (sn, 0, 0, 0, 0) du9).1)), .int plo, .int (hrs + (nI du9))]))) (by decide) G8_4
  have G9_5 := zset_ne (q := 0) (e' := (x, .inr (7, [.ref fl, .ref rl, .ref wh, .ref gr, .ref tr, .ref sc, .int lim, .int sup, .int (off + ((boS stg sup ((hgS fa (-1) nf).1) ((hgS fa (-1) nf).2) (wfc wd) (wnc wd) (wnl wd) (sn, 0, 0, 0, 0) du9).1)), .int plo, .int (hrs + (nI du9))]))) (by decide) G8_5
  have G9_6 := zset_ne (q := 0) (e' := (x, .inr (7, [.ref fl, .ref rl, .ref wh, .ref gr, .ref tr, .ref sc, .int lim, .int sup, .int (off + ((boS stg sup ((hgS fa (-1) nf).1) ((hgS fa (-1) nf).2) (wfc wd) (wnc wd) (wnl wd) (sn, 0, 0, 0, 0) du9).1)), .int plo, .int (hrs + (nI du9))]))) (by decide) G8_6
  have G9_7 := zset_ne (q := 0) (e' := (x, .inr (7, [.ref fl, .ref rl, .ref wh, .ref gr, .ref tr, .ref sc, .int lim, .int sup, .int (off + ((boS stg sup ((hgS fa (-1) nf).1) ((hgS fa (-1) nf).2) (wfc wd) (wnc wd) (wnl wd) (sn, 0, 0, 0, 0) du9).1)), .int plo, .int (hrs + (nI du9))]))) (by omega) G8_7
  generalize hws9 : (ws_8.set 0 (x, .inr (7, [.ref fl, .ref rl, .ref wh, .ref gr, .ref tr, .ref sc, .int lim, .int sup, .int (off + ((boS stg sup ((hgS fa (-1) nf).1) ((hgS fa (-1) nf).2) (wfc wd) (wnc wd) (wnl wd) (sn, 0, 0, 0, 0) du9).1)), .int plo, .int (hrs + (nI du9))]))) = ws_9 at J hk G9_0 G9_1 G9_2 G9_3 G9_4 G9_5 G9_6 G9_7
  refine lv_iload hx hb dX6_blow_62 (lv_at hl 0 rfl) ?_
  refine W.widen (k := 12) (n := 80) (by omega) (by omega) ?_
  subst hQ
  refine vx_ret ?_
  exact W.iret (v := (boS stg sup ((hgS fa (-1) nf).1) ((hgS fa (-1) nf).2) (wfc wd) (wnc wd) (wnl wd) (sn, 0, 0, 0, 0) du9).1) hx hb hr (fun t ht hW => ⟨⟨(boS stg sup ((hgS fa (-1) nf).1) ((hgS fa (-1) nf).2) (wfc wd) (wnc wd) (wnl wd) (sn, 0, 0, 0, 0) du9).1, ws_9, rfl, ⟨hk, (by rw [ekdu9, nI_clamp (by omega)]; exact G9_0), (by rw [ekdu9, nI_clamp (by omega)]; exact G9_3), G9_5, G9_6, (by refine ⟨(if_neg (fun q => q e_r1)).trans (if_neg (not_or_e e_r5 e_r9)), ?_⟩; rw [ekdu9, nI_clamp (by omega)]; rfl)⟩, J.I X ht hW.alike⟩, J.F ht⟩) J.locs dX6_blow_64
set_option maxHeartbeats 400000 in
set_option maxRecDepth 100000 in
theorem cX6_would_ok (l : Launch) (hflags : l.flags = flags0) (E : zG) {ws : va_W} {x fl rl wh gr gra tr tra sc ha va ea eb nf nr : Nat} {mc1 mc2 lim sup off plo hrs : Int32} {fa rd ri sn t9 hf gf : Nat → Int32} {wd stg du ix : Int32} (Fa0 : ws[0]? = some (x, .inr (7, [.ref fl, .ref rl, .ref wh, .ref gr, .ref tr, .ref sc, .int lim, .int sup, .int off, .int plo, .int hrs]))) (Fa1 : ws[1]? = some (fl, .inr (0, [.int mc1, .ref ea, .int (nI nf)]))) (Fa2 : ws[2]? = some (rl, .inr (0, [.int mc2, .ref eb, .int (nI nr)]))) (Fa3 : ws[4]? = some (gr, .inr (2, [.ref gra]))) (Fa4 : ws[5]? = some (gra, zI4 E 400 sn)) (Fa5 : ws[6]? = some (tr, .inr (2, [.ref tra]))) (Fa6 : ws[7]? = some (tra, zI4 E 400 t9)) (Fa7 : ws[8]? = some (sc, .inr (4, [.ref ha, .ref va]))) (Fa8 : ws[9]? = some (ha, zI4 E 400 hf)) (Fa9 : ws[10]? = some (va, zI4 E 400 gf)) (hF : FS E ws fa ea nf) (hnf : nf ≤ 10) (hok : ∀ j, j < nf → okF fa j) (hR : RS E ws rd ri eb nr) (hnr : nr ≤ 4) : vx_Met l yX6_would wsX6_would ({ frames := 8, cells := 14, slots := 90, locals := 133 } : Room) (va_Pc [.ref x, .int wd, .int stg, .int du, .int ix] (zY E ws)) (va_Qi (fun (r : Int32) (ws' : va_W) => (zK [7, 9, 10] ws ws') ∧ (∃ (t2 : Nat → Int32) (h2 : Nat → Int32) (g2 : Nat → Int32), (ws'[7]? = some (tra, zI4 E 400 t2)) ∧ (ws'[9]? = some (ha, zI4 E 400 h2)) ∧ (ws'[10]? = some (va, zI4 E 400 g2)) ∧ ((kWould wd stg du ix (nI nr)) = 0 ∧ r = (blkG (hsS stg sup (hgS fa (-1) nf).1 (hgS fa (-1) nf).2 wd sn du.toNatClampNeg).2.1 (rfi (rd ix.toNatClampNeg) (ri ix.toNatClampNeg)) (rd ix.toNatClampNeg) lim 20)))) (zI E) (zA E)) (zX E ws (fun nm => ((kWould wd stg du ix (nI nr)) = 1 ∧ nm = "java/lang/IndexOutOfBoundsException") ∨ ((kWould wd stg du ix (nI nr)) = 2 ∧ nm = "java/lang/IllegalArgumentException"))) 14 90 (zA E) := by
  refine vx_ofW (cc := cX6_would) (maxL := 5) (ret := (some .int)) (by decide) rfl ?_
  intro p e s m args below meth c s₁ B hml htab hv
  obtain ⟨hargs9, hI, hRz⟩ := hv
  have hx := B.exec
  have hb := B.bytes
  have hr := B.returns
  have hlocks := B.notSynchronized
  have X : zC E p m c cX6_would 5 s args wsX6_would RX6 := z_open B hml hI
  have hown := X.1.2.2.2.1
  have hts := X.1.2.2.2.2
  have J := hI.J
  have hi_X2 : ∀ w ∈ wsX20, w ∈ wsX6_would := by decide +kernel
  have hi_X5 : ∀ w ∈ wsX50, w ∈ wsX6_would := by decide +kernel
  have hi_X6 : ∀ w ∈ wsX60, w ∈ wsX6_would := by decide +kernel
  have hk : zK [7, 9, 10] ws ws := zK.rf
  have hl := lv_entry ([.ref x, .int wd, .int stg, .int du, .int ix]) (n := 5) (Nat.le_of_ble_eq_true rfl)
  rw [show entryFrame m args 5 = entryFrame m ([.ref x, .int wd, .int stg, .int du, .int ix] : List Value).toArray 5 from by rw [hargs9], lg_entry_eq]
  generalize (lg_sl ([.ref x, .int wd, .int stg, .int du, .int ix]) ++ List.replicate (5 - (lg_sl ([.ref x, .int wd, .int stg, .int du, .int ix])).length) Slot.unset).toArray = ls at hl ⊢
  have hl : lv_has ls 5 [(0, .ref x), (1, .int wd), (2, .int stg), (3, .int du), (4, .int ix)] := hl
  generalize hQ : (vx_MQ below (va_Qi (fun (r : Int32) (ws' : va_W) => (zK [7, 9, 10] ws ws') ∧ (∃ (t2 : Nat → Int32) (h2 : Nat → Int32) (g2 : Nat → Int32), (ws'[7]? = some (tra, zI4 E 400 t2)) ∧ (ws'[9]? = some (ha, zI4 E 400 h2)) ∧ (ws'[10]? = some (va, zI4 E 400 g2)) ∧ ((kWould wd stg du ix (nI nr)) = 0 ∧ r = (blkG (hsS stg sup (hgS fa (-1) nf).1 (hgS fa (-1) nf).2 wd sn du.toNatClampNeg).2.1 (rfi (rd ix.toNatClampNeg) (ri ix.toNatClampNeg)) (rd ix.toNatClampNeg) lim 20)))) (zI E) (zA E)) (zX E ws (fun nm => ((kWould wd stg du ix (nI nr)) = 1 ∧ nm = "java/lang/IndexOutOfBoundsException") ∨ ((kWould wd stg du ix (nI nr)) = 2 ∧ nm = "java/lang/IllegalArgumentException"))) args s 14 90 (zA E)) = QQ
  refine lv_iload_n hx hb dX6_would_0 rfl (lv_at hl 1 rfl) ?_
  refine z_xv J (z_yS (As := [.int wd]) (rest := []) X hRz J (cX6_needWind_ok l hflags E) (va_cwS 1 hts gX6_would_X6_needWind rfl rfl rfl (by decide +kernel) ⟨Nat.le_of_ble_eq_true rfl, Nat.le_of_ble_eq_true rfl⟩) rfl hl.1 rfl (Nat.le_of_ble_eq_true rfl) dX6_would_1 ⟨Nat.le_of_ble_eq_true rfl, Nat.le_of_ble_eq_true rfl⟩) (fun nm ce q9 H locs hp9 J h1 h2 h3 => ?_) (fun ws_1 H locs hp9 J => ?_)
  · subst hQ
    exact z_out X J htab hlocks h1 h2 h3 (by exact Or.inl ⟨if_pos (Or.inl hp9.1), hp9.2⟩) (Nat.le_of_ble_eq_true rfl) (Nat.le_of_ble_eq_true rfl)
  obtain ⟨rfl, e_r1⟩ := hp9
  refine lv_iload hx hb dX6_would_4 (lv_at hl 4 rfl) ?_
  refine lv_aload_n hx hb dX6_would_6 rfl (lv_at hl 0 rfl) ?_
  refine z_get (C := RX6) (T := TX6) (N := 11) (ci := 7) (v := .ref rl) X J hi_X6 0 Fa0 rfl 1 (by decide) (by decide +kernel) rfl dX6_would_7 ?_
  refine z_cr (z_rV (As := []) (rest := [.int ix]) (ci := 0) (q0 := 2) X J (cJx4a65c_size_8abf5_ok l E Fa2) (cwV 0 hts gX6_would_Jx4a65c_size_8abf5 rfl rfl rfl (by decide +kernel) ⟨Nat.le_of_ble_eq_true rfl, Nat.le_of_ble_eq_true rfl⟩) Fa2 rfl rfl rfl hl.1 rfl (Nat.le_of_ble_eq_true rfl) dX6_would_10 ⟨Nat.le_of_ble_eq_true rfl, Nat.le_of_ble_eq_true rfl⟩) (fun r10 e_r10 => ?_)
  subst e_r10
  refine z_xv J (z_yS (As := [.int ix, .int (nI nr)]) (rest := []) X hRz J (cX6_needIndex_ok l hflags E (by omega)) (va_cwS 2 hts gX6_would_X6_needIndex rfl rfl rfl (by decide +kernel) ⟨Nat.le_of_ble_eq_true rfl, Nat.le_of_ble_eq_true rfl⟩) rfl hl.1 rfl (Nat.le_of_ble_eq_true rfl) dX6_would_13 ⟨Nat.le_of_ble_eq_true rfl, Nat.le_of_ble_eq_true rfl⟩) (fun nm ce q9 H locs hp9 J h1 h2 h3 => ?_) (fun ws_2 H locs hp9 J => ?_)
  · subst hQ
    exact z_out X J htab hlocks h1 h2 h3 (by exact Or.inl ⟨if_pos (Or.inr hp9.1), hp9.2⟩) (Nat.le_of_ble_eq_true rfl) (Nat.le_of_ble_eq_true rfl)
  obtain ⟨rfl, e_r13⟩ := hp9
  refine lv_iload_n hx hb dX6_would_16 rfl (lv_at hl 2 rfl) ?_
  refine z_xv J (z_yS (As := [.int stg]) (rest := []) X hRz J (cX6_needStrength_ok l hflags E) (va_cwS 1 hts gX6_would_X6_needStrength rfl rfl rfl (by decide +kernel) ⟨Nat.le_of_ble_eq_true rfl, Nat.le_of_ble_eq_true rfl⟩) rfl hl.1 rfl (Nat.le_of_ble_eq_true rfl) dX6_would_17 ⟨Nat.le_of_ble_eq_true rfl, Nat.le_of_ble_eq_true rfl⟩) (fun nm ce q9 H locs hp9 J h1 h2 h3 => ?_) (fun ws_3 H locs hp9 J => ?_)
  · subst hQ
    exact z_out X J htab hlocks h1 h2 h3 (by exact Or.inr ⟨(if_neg (not_or_e e_r1 e_r13)).trans (if_pos (Or.inl hp9.1)), hp9.2⟩) (Nat.le_of_ble_eq_true rfl) (Nat.le_of_ble_eq_true rfl)
  obtain ⟨rfl, e_r17⟩ := hp9
  refine lv_iload_n hx hb dX6_would_20 rfl (lv_at hl 3 rfl) ?_
  refine z_xv J (z_yS (As := [.int du]) (rest := []) X hRz J (cX6_needHours_ok l hflags E) (va_cwS 1 hts gX6_would_X6_needHours rfl rfl rfl (by decide +kernel) ⟨Nat.le_of_ble_eq_true rfl, Nat.le_of_ble_eq_true rfl⟩) rfl hl.1 rfl (Nat.le_of_ble_eq_true rfl) dX6_would_21 ⟨Nat.le_of_ble_eq_true rfl, Nat.le_of_ble_eq_true rfl⟩) (fun nm ce q9 H locs hp9 J h1 h2 h3 => ?_) (fun ws_4 H locs hp9 J => ?_)
  · subst hQ
    exact z_out X J htab hlocks h1 h2 h3 (by exact Or.inr ⟨(if_neg (not_or_e e_r1 e_r13)).trans (if_pos (Or.inr hp9.1)), hp9.2⟩) (Nat.le_of_ble_eq_true rfl) (Nat.le_of_ble_eq_true rfl)
  obtain ⟨rfl, e_r21⟩ := hp9
  have hwd9 := inR03 e_r1
  obtain ⟨du9, hdu9, hdv9, ekdu9⟩ := inR_1n (b := 24) (by decide) e_r21
  have hl : lv_has ls 5 [(0, .ref x), (1, .int wd), (2, .int stg), (3, .int (nI du9)), (4, .int ix)] := lv_repl hl (congrArg (fun z9 : Int32 => ([(0, .ref x), (1, .int wd), (2, .int stg), (3, .int z9), (4, .int ix)] : List (Nat × Value))) (show du = nI du9 from ekdu9))
  have eydu9 : du.toNatClampNeg = du9 := by rw [ekdu9, nI_clamp (by omega)]
  obtain ⟨q9, hq9, ekq9⟩ := inR_nI (n := nr) (by omega) e_r13
  have hl : lv_has ls 5 [(0, .ref x), (1, .int wd), (2, .int stg), (3, .int (nI du9)), (4, .int (nI q9))] := lv_repl hl (congrArg (fun z9 : Int32 => ([(0, .ref x), (1, .int wd), (2, .int stg), (3, .int (nI du9)), (4, .int z9)] : List (Nat × Value))) (show ix = nI q9 from ekq9))
  have eyq9 : ix.toNatClampNeg = q9 := by rw [ekq9, nI_clamp (by omega)]
  refine lv_aload_n hx hb dX6_would_24 rfl (lv_at hl 0 rfl) ?_
  refine lv_iconst (v := (-1)) hx hb dX6_would_25 (by decide) ?_
  refine z_cv J (z_rV (As := [.int (-1)]) (rest := []) (ci := 7) (q0 := 0) X J (cX6_screenAllBut_ok l E Fa0 Fa1 Fa7 Fa8 Fa9 (by first | assumption | omega | decide) (by first | assumption | omega | decide) (by first | assumption | omega | decide)) (cwV 1 hts gX6_would_X6_screenAllBut rfl rfl rfl (by decide +kernel) ⟨Nat.le_of_ble_eq_true rfl, Nat.le_of_ble_eq_true rfl⟩) Fa0 rfl rfl rfl hl.1 rfl (Nat.le_of_ble_eq_true rfl) dX6_would_26 ⟨Nat.le_of_ble_eq_true rfl, Nat.le_of_ble_eq_true rfl⟩) (fun ws_5 H locs hp9 J => ?_)
  obtain ⟨k5, G5_a0, G5_a1⟩ := hp9
  have hk := hk.trans (k5.mono (by decide))
  have G5_0 := k5.2 0 _ (by decide) Fa0
  have G5_1 := k5.2 1 _ (by decide) Fa1
  have G5_2 := k5.2 2 _ (by decide) Fa2
  have G5_3 := k5.2 4 _ (by decide) Fa3
  have G5_4 := k5.2 5 _ (by decide) Fa4
  have G5_5 := k5.2 6 _ (by decide) Fa5
  have G5_6 := k5.2 7 _ (by decide) Fa6
  have G5_7 := k5.2 8 _ (by decide) Fa7
  refine lv_aload_n hx hb dX6_would_29 rfl (lv_at hl 0 rfl) ?_
  refine z_get (C := RX6) (T := TX6) (N := 11) (ci := 7) (v := .ref tr) X J hi_X6 0 G5_0 rfl 4 (by decide) (by decide +kernel) rfl dX6_would_30 ?_
  refine lv_aload_n hx hb dX6_would_33 rfl (lv_at hl 0 rfl) ?_
  refine z_get (C := RX6) (T := TX6) (N := 11) (ci := 7) (v := .ref gr) X J hi_X6 0 G5_0 rfl 3 (by decide) (by decide +kernel) rfl dX6_would_34 ?_
  refine z_cv J (z_rV (As := [.ref gr]) (rest := []) (ci := 2) (q0 := 6) X J (cX1_becomeLike_ok l E G5_5 G5_6 G5_3 G5_4 (by first | assumption | omega | decide)) (cwV 1 hts gX6_would_X1_becomeLike rfl rfl rfl (by decide +kernel) ⟨Nat.le_of_ble_eq_true rfl, Nat.le_of_ble_eq_true rfl⟩) G5_5 rfl rfl rfl hl.1 rfl (Nat.le_of_ble_eq_true rfl) dX6_would_37 ⟨Nat.le_of_ble_eq_true rfl, Nat.le_of_ble_eq_true rfl⟩) (fun ws_6 H locs hp9 J => ?_)
  obtain ⟨k6, G6_a0⟩ := hp9
  have hk := hk.trans (k6.mono (by decide))
  have G6_0 := k6.2 0 _ (by decide) G5_0
  have G6_1 := k6.2 1 _ (by decide) G5_1
  have G6_2 := k6.2 2 _ (by decide) G5_2
  have G6_3 := k6.2 4 _ (by decide) G5_3
  have G6_4 := k6.2 5 _ (by decide) G5_4
  have G6_5 := k6.2 6 _ (by decide) G5_5
  have G6_7 := k6.2 8 _ (by decide) G5_7
  have G6_8 := k6.2 9 _ (by decide) G5_a0
  have G6_9 := k6.2 10 _ (by decide) G5_a1
  refine lv_aload_n hx hb dX6_would_40 rfl (lv_at hl 0 rfl) ?_
  refine lv_aload_n hx hb dX6_would_41 rfl (lv_at hl 0 rfl) ?_
  refine z_get (C := RX6) (T := TX6) (N := 11) (ci := 7) (v := .ref tr) X J hi_X6 0 G6_0 rfl 4 (by decide) (by decide +kernel) rfl dX6_would_42 ?_
  refine z_new (C := RX5) (T := TX5) (N := 10) (ci := 6) (fs := [.int 0, .int 0, .int 0, .int 0, .int 0, .int 0, .int 0, .int 0, .int 0, .int 0]) X J hi_X5 tyX5 tyX5_ok (by decide +kernel) (by decide +kernel) (by decide +kernel) rfl (fun j hj => by rcases (show j = 0 ∨ j = 1 ∨ j = 2 ∨ j = 3 ∨ j = 4 ∨ j = 5 ∨ j = 6 ∨ j = 7 ∨ j = 8 ∨ j = 9 by omega) with rfl | rfl | rfl | rfl | rfl | rfl | rfl | rfl | rfl | rfl <;> rfl) (Nat.le_of_ble_eq_true rfl) (Nat.le_of_ble_eq_true rfl) dX6_would_45 (fun q45 H J => ?_)
  have lp7 := hk.1
  have hk := hk.trans (zK.app (more := [(q45, .inr (6, [.int 0, .int 0, .int 0, .int 0, .int 0, .int 0, .int 0, .int 0, .int 0, .int 0]))]))
  have bG7_0 := zlt G6_0
  have G7_0 := zapp (x := (q45, .inr (6, [.int 0, .int 0, .int 0, .int 0, .int 0, .int 0, .int 0, .int 0, .int 0, .int 0]))) G6_0
  have bG7_1 := zlt G6_1
  have G7_1 := zapp (x := (q45, .inr (6, [.int 0, .int 0, .int 0, .int 0, .int 0, .int 0, .int 0, .int 0, .int 0, .int 0]))) G6_1
  have bG7_2 := zlt G6_2
  have G7_2 := zapp (x := (q45, .inr (6, [.int 0, .int 0, .int 0, .int 0, .int 0, .int 0, .int 0, .int 0, .int 0, .int 0]))) G6_2
  have bG7_3 := zlt G6_3
  have G7_3 := zapp (x := (q45, .inr (6, [.int 0, .int 0, .int 0, .int 0, .int 0, .int 0, .int 0, .int 0, .int 0, .int 0]))) G6_3
  have bG7_4 := zlt G6_4
  have G7_4 := zapp (x := (q45, .inr (6, [.int 0, .int 0, .int 0, .int 0, .int 0, .int 0, .int 0, .int 0, .int 0, .int 0]))) G6_4
  have bG7_5 := zlt G6_5
  have G7_5 := zapp (x := (q45, .inr (6, [.int 0, .int 0, .int 0, .int 0, .int 0, .int 0, .int 0, .int 0, .int 0, .int 0]))) G6_5
  have bG7_6 := zlt G6_a0
  have G7_6 := zapp (x := (q45, .inr (6, [.int 0, .int 0, .int 0, .int 0, .int 0, .int 0, .int 0, .int 0, .int 0, .int 0]))) G6_a0
  have bG7_7 := zlt G6_7
  have G7_7 := zapp (x := (q45, .inr (6, [.int 0, .int 0, .int 0, .int 0, .int 0, .int 0, .int 0, .int 0, .int 0, .int 0]))) G6_7
  have bG7_8 := zlt G6_8
  have G7_8 := zapp (x := (q45, .inr (6, [.int 0, .int 0, .int 0, .int 0, .int 0, .int 0, .int 0, .int 0, .int 0, .int 0]))) G6_8
  have bG7_9 := zlt G6_9
  have G7_9 := zapp (x := (q45, .inr (6, [.int 0, .int 0, .int 0, .int 0, .int 0, .int 0, .int 0, .int 0, .int 0, .int 0]))) G6_9
  have G7_n := zapp_new (ws := ws_6) (x := (q45, .inr (6, [.int 0, .int 0, .int 0, .int 0, .int 0, .int 0, .int 0, .int 0, .int 0, .int 0])))
  generalize hws7 : ws_6 ++ [(q45, .inr (6, [.int 0, .int 0, .int 0, .int 0, .int 0, .int 0, .int 0, .int 0, .int 0, .int 0]))] = ws_7 at J hk G7_0 G7_1 G7_2 G7_3 G7_4 G7_5 G7_6 G7_7 G7_8 G7_9 G7_n
  generalize hpn7 : ws_6.length = pn_7 at G7_n lp7 bG7_0 bG7_1 bG7_2 bG7_3 bG7_4 bG7_5 bG7_6 bG7_7 bG7_8 bG7_9
  refine lv_dup hx hb dX6_would_48 rfl ?_
  refine lv_iload_n hx hb dX6_would_49 rfl (lv_at hl 1 rfl) ?_
  refine lv_iload_n hx hb dX6_would_50 rfl (lv_at hl 2 rfl) ?_
  refine lv_aload_n hx hb dX6_would_51 rfl (lv_at hl 0 rfl) ?_
  refine z_get (C := RX6) (T := TX6) (N := 11) (ci := 7) (v := .int sup) X J hi_X6 0 G7_0 rfl 7 (by decide) (by decide +kernel) rfl dX6_would_52 ?_
  refine z_cv J (z_rI (As := [.int wd, .int stg, .int sup]) (rest := [.ref q45, .ref tr, .ref x]) X J (cX5_init_ok l E G7_n hwd9) (cwI 3 hts gX6_would_X5_init rfl rfl rfl (hts (.initialized RX5) (by decide +kernel)) (hts (.methodLink RX6 149 yX5_init) (by decide +kernel)) (hts (.instanceMethod yX5_init) (by decide +kernel)) rfl (by decide +kernel) ⟨Nat.le_of_ble_eq_true rfl, Nat.le_of_ble_eq_true rfl⟩) rfl hl.1 rfl (Nat.le_of_ble_eq_true rfl) dX6_would_55 ⟨Nat.le_of_ble_eq_true rfl, Nat.le_of_ble_eq_true rfl⟩) (fun ws_8 H locs hp9 J => ?_)
  obtain ⟨k8, hl9_8, G8_a0⟩ := hp9
  have hk := hk.transN k8 (by intro q9 hq9; simp only [List.mem_cons, List.not_mem_nil, or_false] at hq9 ⊢; omega)
  have G8_0 := k8.2 0 _ (by simp only [List.mem_cons, List.not_mem_nil, or_false]; omega) G7_0
  have G8_1 := k8.2 1 _ (by simp only [List.mem_cons, List.not_mem_nil, or_false]; omega) G7_1
  have G8_2 := k8.2 2 _ (by simp only [List.mem_cons, List.not_mem_nil, or_false]; omega) G7_2
  have G8_3 := k8.2 4 _ (by simp only [List.mem_cons, List.not_mem_nil, or_false]; omega) G7_3
  have G8_4 := k8.2 5 _ (by simp only [List.mem_cons, List.not_mem_nil, or_false]; omega) G7_4
  have G8_5 := k8.2 6 _ (by simp only [List.mem_cons, List.not_mem_nil, or_false]; omega) G7_5
  have G8_6 := k8.2 7 _ (by simp only [List.mem_cons, List.not_mem_nil, or_false]; omega) G7_6
  have G8_7 := k8.2 8 _ (by simp only [List.mem_cons, List.not_mem_nil, or_false]; omega) G7_7
  have G8_8 := k8.2 9 _ (by simp only [List.mem_cons, List.not_mem_nil, or_false]; omega) G7_8
  have G8_9 := k8.2 10 _ (by simp only [List.mem_cons, List.not_mem_nil, or_false]; omega) G7_9
  refine lv_iload_n hx hb dX6_would_58 rfl (lv_at hl 3 rfl) ?_
  refine z_ci J (z_rV (As := [.ref tr, .ref q45, .int (nI du9)]) (rest := []) (ci := 7) (q0 := 0) X J (cX6_blowOver_ok l E G8_0 G8_7 G8_8 G8_9 G8_5 G8_6 G8_a0 (by first | assumption | omega | decide) (by first | assumption | omega | decide) (by first | assumption | omega | decide)) (cwV 3 hts gX6_would_X6_blowOver rfl rfl rfl (by decide +kernel) ⟨Nat.le_of_ble_eq_true rfl, Nat.le_of_ble_eq_true rfl⟩) G8_0 rfl rfl rfl hl.1 rfl (Nat.le_of_ble_eq_true rfl) dX6_would_59 ⟨Nat.le_of_ble_eq_true rfl, Nat.le_of_ble_eq_true rfl⟩) (fun r59 ws_9 H locs hp9 J => ?_)
  obtain ⟨k9, G9_a0, G9_a1, e_r59⟩ := hp9
  have hk := hk.transN k9 (by intro q9 hq9; simp only [List.mem_cons, List.not_mem_nil, or_false] at hq9 ⊢; omega)
  have G9_0 := k9.2 0 _ (by simp only [List.mem_cons, List.not_mem_nil, or_false]; omega) G8_0
  have G9_1 := k9.2 1 _ (by simp only [List.mem_cons, List.not_mem_nil, or_false]; omega) G8_1
  have G9_2 := k9.2 2 _ (by simp only [List.mem_cons, List.not_mem_nil, or_false]; omega) G8_2
  have G9_3 := k9.2 4 _ (by simp only [List.mem_cons, List.not_mem_nil, or_false]; omega) G8_3
  have G9_4 := k9.2 5 _ (by simp only [List.mem_cons, List.not_mem_nil, or_false]; omega) G8_4
  have G9_5 := k9.2 6 _ (by simp only [List.mem_cons, List.not_mem_nil, or_false]; omega) G8_5
  have G9_7 := k9.2 8 _ (by simp only [List.mem_cons, List.not_mem_nil, or_false]; omega) G8_7
  have G9_8 := k9.2 9 _ (by simp only [List.mem_cons, List.not_mem_nil, or_false]; omega) G8_8
  have G9_9 := k9.2 10 _ (by simp only [List.mem_cons, List.not_mem_nil, or_false]; omega) G8_9
  subst e_r59
  refine lv_pop hx hb dX6_would_62 rfl ?_
  obtain ⟨qe9, g9, fo9, qf9, sp9, qs9, hqe9, hqf9, hqs9, he9, hg9, hfc9, hsc9⟩ := (hR.keep hk (by decide)).at (i := q9) (by omega)
  refine lv_aload_n hx hb dX6_would_63 rfl (lv_at hl 0 rfl) ?_
  refine z_get (C := RX6) (T := TX6) (N := 11) (ci := 7) (v := .ref tr) X J hi_X6 0 G9_0 rfl 4 (by decide) (by decide +kernel) rfl dX6_would_64 ?_
  refine lv_aload_n hx hb dX6_would_67 rfl (lv_at hl 0 rfl) ?_
  refine z_get (C := RX6) (T := TX6) (N := 11) (ci := 7) (v := .ref rl) X J hi_X6 0 G9_0 rfl 1 (by decide) (by decide +kernel) rfl dX6_would_68 ?_
  refine lv_iload hx hb dX6_would_71 (lv_at hl 4 rfl) ?_
  refine z_crq (z_rV (As := [.int (nI q9)]) (rest := [.ref tr]) (ci := 0) (q0 := 2) X J (cJx4a65c_get_915e3_ok l E G9_2 he9 (by omega) (by omega)) (cwV 1 hts gX6_would_Jx4a65c_get_915e3 rfl rfl rfl (by decide +kernel) ⟨Nat.le_of_ble_eq_true rfl, Nat.le_of_ble_eq_true rfl⟩) G9_2 rfl rfl rfl hl.1 rfl (Nat.le_of_ble_eq_true rfl) dX6_would_73 ⟨Nat.le_of_ble_eq_true rfl, Nat.le_of_ble_eq_true rfl⟩) (fun r73 e_r73 => ?_)
  subst e_r73
  refine W.eq (g2 := F0 m 76 ls [.ref fo9, .ref tr]) (by rw [show g9 q9 = some fo9 from hg9]; rfl) ?_
  refine z_cast (own := RX6) (q := (RX2, TX2, 2)) X J qf9 hfc9 (ci := 3) rfl (hts (.classLink RX6 100 RX2) (by decide +kernel)) dX6_would_76 ?_
  refine z_get (C := RX2) (T := TX2) (N := 2) (ci := 3) (v := .ref sp9) X J hi_X2 qf9 hfc9 rfl 1 (by decide) (by decide +kernel) rfl dX6_would_79 ?_
  refine lv_aload_n hx hb dX6_would_82 rfl (lv_at hl 0 rfl) ?_
  refine z_get (C := RX6) (T := TX6) (N := 11) (ci := 7) (v := .int lim) X J hi_X6 0 G9_0 rfl 6 (by decide) (by decide +kernel) rfl dX6_would_83 ?_
  refine z_cr (z_rV (As := [.ref sp9, .int lim]) (rest := []) (ci := 2) (q0 := 6) X J (cX1_blocked_ok l E G9_5 G9_a1 hsc9 (by decide)) (cwV 2 hts gX6_would_X1_blocked rfl rfl rfl (by decide +kernel) ⟨Nat.le_of_ble_eq_true rfl, Nat.le_of_ble_eq_true rfl⟩) G9_5 rfl rfl rfl hl.1 rfl (Nat.le_of_ble_eq_true rfl) dX6_would_86 ⟨Nat.le_of_ble_eq_true rfl, Nat.le_of_ble_eq_true rfl⟩) (fun r86 e_r86 => ?_)
  subst e_r86
  refine W.widen (k := 14) (n := 90) (by omega) (by omega) ?_
  subst hQ
  refine vx_ret ?_
  exact W.iret (v := blkG ((boS stg sup ((hgS fa (-1) nf).1) ((hgS fa (-1) nf).2) (wfc wd) (wnc wd) (wnl wd) (sn, 0, 0, 0, 0) du9).2.1) (rfi (rd q9) (ri q9)) (rd q9) lim 20) hx hb hr (fun t ht hW => ⟨⟨blkG ((boS stg sup ((hgS fa (-1) nf).1) ((hgS fa (-1) nf).2) (wfc wd) (wnc wd) (wnl wd) (sn, 0, 0, 0, 0) du9).2.1) (rfi (rd q9) (ri q9)) (rd q9) lim 20, ws_9, rfl, ⟨hk, ⟨(boS stg sup ((hgS fa (-1) nf).1) ((hgS fa (-1) nf).2) (wfc wd) (wnc wd) (wnl wd) (sn, 0, 0, 0, 0) du9).2.1, (hgS fa (-1) nf).1, (hgS fa (-1) nf).2, G9_a1, G9_8, G9_9, (by refine ⟨(if_neg (not_or_e e_r1 e_r13)).trans (if_neg (not_or_e e_r17 e_r21)), ?_⟩; rw [eydu9, eyq9]; rfl)⟩⟩, J.I X ht hW.alike⟩, J.F ht⟩) J.locs dX6_would_89
set_option maxHeartbeats 400000 in
set_option maxRecDepth 100000 in
theorem cX6_until_ok (l : Launch) (hflags : l.flags = flags0) (E : zG) {ws : va_W} {x fl rl wh gr gra tr tra sc ha va ea eb nf nr : Nat} {mc1 mc2 lim sup off plo hrs : Int32} {fa rd ri sn t9 hf gf : Nat → Int32} {wd stg ix : Int32} (Fa0 : ws[0]? = some (x, .inr (7, [.ref fl, .ref rl, .ref wh, .ref gr, .ref tr, .ref sc, .int lim, .int sup, .int off, .int plo, .int hrs]))) (Fa1 : ws[1]? = some (fl, .inr (0, [.int mc1, .ref ea, .int (nI nf)]))) (Fa2 : ws[2]? = some (rl, .inr (0, [.int mc2, .ref eb, .int (nI nr)]))) (Fa3 : ws[4]? = some (gr, .inr (2, [.ref gra]))) (Fa4 : ws[5]? = some (gra, zI4 E 400 sn)) (Fa5 : ws[6]? = some (tr, .inr (2, [.ref tra]))) (Fa6 : ws[7]? = some (tra, zI4 E 400 t9)) (Fa7 : ws[8]? = some (sc, .inr (4, [.ref ha, .ref va]))) (Fa8 : ws[9]? = some (ha, zI4 E 400 hf)) (Fa9 : ws[10]? = some (va, zI4 E 400 gf)) (hF : FS E ws fa ea nf) (hnf : nf ≤ 10) (hok : ∀ j, j < nf → okF fa j) (hR : RS E ws rd ri eb nr) (hnr : nr ≤ 4) : vx_Met l yX6_until wsX6_until ({ frames := 8, cells := 14, slots := 90, locals := 133 } : Room) (va_Pc [.ref x, .int wd, .int stg, .int ix] (zY E ws)) (va_Qi (fun (r : Int32) (ws' : va_W) => (zK [7, 9, 10] ws ws') ∧ (∃ (t2 : Nat → Int32) (h2 : Nat → Int32) (g2 : Nat → Int32), (ws'[7]? = some (tra, zI4 E 400 t2)) ∧ (ws'[9]? = some (ha, zI4 E 400 h2)) ∧ (ws'[10]? = some (va, zI4 E 400 g2)) ∧ ((kUntil wd stg ix (nI nr)) = 0 ∧ r = untF (untB stg sup (hgS fa (-1) nf).1 (hgS fa (-1) nf).2 wd sn rd ri lim ix.toNatClampNeg) 49 0))) (zI E) (zA E)) (zX E ws (fun nm => ((kUntil wd stg ix (nI nr)) = 1 ∧ nm = "java/lang/IndexOutOfBoundsException") ∨ ((kUntil wd stg ix (nI nr)) = 2 ∧ nm = "java/lang/IllegalArgumentException"))) 14 90 (zA E) := by
  refine vx_ofW (cc := cX6_until) (maxL := 7) (ret := (some .int)) (by decide) rfl ?_
  intro p e s m args below meth c s₁ B hml htab hv
  obtain ⟨hargs9, hI, hRz⟩ := hv
  have hx := B.exec
  have hb := B.bytes
  have hr := B.returns
  have hlocks := B.notSynchronized
  have X : zC E p m c cX6_until 7 s args wsX6_until RX6 := z_open B hml hI
  have hown := X.1.2.2.2.1
  have hts := X.1.2.2.2.2
  have J := hI.J
  have hi_X2 : ∀ w ∈ wsX20, w ∈ wsX6_until := by decide +kernel
  have hi_X5 : ∀ w ∈ wsX50, w ∈ wsX6_until := by decide +kernel
  have hi_X6 : ∀ w ∈ wsX60, w ∈ wsX6_until := by decide +kernel
  have hk : zK [7, 9, 10] ws ws := zK.rf
  have hl := lv_entry ([.ref x, .int wd, .int stg, .int ix]) (n := 7) (Nat.le_of_ble_eq_true rfl)
  rw [show entryFrame m args 7 = entryFrame m ([.ref x, .int wd, .int stg, .int ix] : List Value).toArray 7 from by rw [hargs9], lg_entry_eq]
  generalize (lg_sl ([.ref x, .int wd, .int stg, .int ix]) ++ List.replicate (7 - (lg_sl ([.ref x, .int wd, .int stg, .int ix])).length) Slot.unset).toArray = ls at hl ⊢
  have hl : lv_has ls 7 [(0, .ref x), (1, .int wd), (2, .int stg), (3, .int ix)] := hl
  generalize hQ : (vx_MQ below (va_Qi (fun (r : Int32) (ws' : va_W) => (zK [7, 9, 10] ws ws') ∧ (∃ (t2 : Nat → Int32) (h2 : Nat → Int32) (g2 : Nat → Int32), (ws'[7]? = some (tra, zI4 E 400 t2)) ∧ (ws'[9]? = some (ha, zI4 E 400 h2)) ∧ (ws'[10]? = some (va, zI4 E 400 g2)) ∧ ((kUntil wd stg ix (nI nr)) = 0 ∧ r = untF (untB stg sup (hgS fa (-1) nf).1 (hgS fa (-1) nf).2 wd sn rd ri lim ix.toNatClampNeg) 49 0))) (zI E) (zA E)) (zX E ws (fun nm => ((kUntil wd stg ix (nI nr)) = 1 ∧ nm = "java/lang/IndexOutOfBoundsException") ∨ ((kUntil wd stg ix (nI nr)) = 2 ∧ nm = "java/lang/IllegalArgumentException"))) args s 14 90 (zA E)) = QQ
  refine lv_iload_n hx hb dX6_until_0 rfl (lv_at hl 1 rfl) ?_
  refine z_xv J (z_yS (As := [.int wd]) (rest := []) X hRz J (cX6_needWind_ok l hflags E) (va_cwS 1 hts gX6_until_X6_needWind rfl rfl rfl (by decide +kernel) ⟨Nat.le_of_ble_eq_true rfl, Nat.le_of_ble_eq_true rfl⟩) rfl hl.1 rfl (Nat.le_of_ble_eq_true rfl) dX6_until_1 ⟨Nat.le_of_ble_eq_true rfl, Nat.le_of_ble_eq_true rfl⟩) (fun nm ce q9 H locs hp9 J h1 h2 h3 => ?_) (fun ws_1 H locs hp9 J => ?_)
  · subst hQ
    exact z_out X J htab hlocks h1 h2 h3 (by exact Or.inl ⟨if_pos (Or.inl hp9.1), hp9.2⟩) (Nat.le_of_ble_eq_true rfl) (Nat.le_of_ble_eq_true rfl)
  obtain ⟨rfl, e_r1⟩ := hp9
  refine lv_iload_n hx hb dX6_until_4 rfl (lv_at hl 3 rfl) ?_
  refine lv_aload_n hx hb dX6_until_5 rfl (lv_at hl 0 rfl) ?_
  refine z_get (C := RX6) (T := TX6) (N := 11) (ci := 7) (v := .ref rl) X J hi_X6 0 Fa0 rfl 1 (by decide) (by decide +kernel) rfl dX6_until_6 ?_
  refine z_cr (z_rV (As := []) (rest := [.int ix]) (ci := 0) (q0 := 2) X J (cJx4a65c_size_8abf5_ok l E Fa2) (cwV 0 hts gX6_until_Jx4a65c_size_8abf5 rfl rfl rfl (by decide +kernel) ⟨Nat.le_of_ble_eq_true rfl, Nat.le_of_ble_eq_true rfl⟩) Fa2 rfl rfl rfl hl.1 rfl (Nat.le_of_ble_eq_true rfl) dX6_until_9 ⟨Nat.le_of_ble_eq_true rfl, Nat.le_of_ble_eq_true rfl⟩) (fun r9 e_r9 => ?_)
  subst e_r9
  refine z_xv J (z_yS (As := [.int ix, .int (nI nr)]) (rest := []) X hRz J (cX6_needIndex_ok l hflags E (by omega)) (va_cwS 2 hts gX6_until_X6_needIndex rfl rfl rfl (by decide +kernel) ⟨Nat.le_of_ble_eq_true rfl, Nat.le_of_ble_eq_true rfl⟩) rfl hl.1 rfl (Nat.le_of_ble_eq_true rfl) dX6_until_12 ⟨Nat.le_of_ble_eq_true rfl, Nat.le_of_ble_eq_true rfl⟩) (fun nm ce q9 H locs hp9 J h1 h2 h3 => ?_) (fun ws_2 H locs hp9 J => ?_)
  · subst hQ
    exact z_out X J htab hlocks h1 h2 h3 (by exact Or.inl ⟨if_pos (Or.inr hp9.1), hp9.2⟩) (Nat.le_of_ble_eq_true rfl) (Nat.le_of_ble_eq_true rfl)
  obtain ⟨rfl, e_r12⟩ := hp9
  refine lv_iload_n hx hb dX6_until_15 rfl (lv_at hl 2 rfl) ?_
  refine z_xv J (z_yS (As := [.int stg]) (rest := []) X hRz J (cX6_needStrength_ok l hflags E) (va_cwS 1 hts gX6_until_X6_needStrength rfl rfl rfl (by decide +kernel) ⟨Nat.le_of_ble_eq_true rfl, Nat.le_of_ble_eq_true rfl⟩) rfl hl.1 rfl (Nat.le_of_ble_eq_true rfl) dX6_until_16 ⟨Nat.le_of_ble_eq_true rfl, Nat.le_of_ble_eq_true rfl⟩) (fun nm ce q9 H locs hp9 J h1 h2 h3 => ?_) (fun ws_3 H locs hp9 J => ?_)
  · subst hQ
    exact z_out X J htab hlocks h1 h2 h3 (by exact Or.inr ⟨(if_neg (not_or_e e_r1 e_r12)).trans (if_pos (hp9.1)), hp9.2⟩) (Nat.le_of_ble_eq_true rfl) (Nat.le_of_ble_eq_true rfl)
  obtain ⟨rfl, e_r16⟩ := hp9
  have hwd9 := inR03 e_r1
  obtain ⟨q9, hq9, ekq9⟩ := inR_nI (n := nr) (by omega) e_r12
  have hl : lv_has ls 7 [(0, .ref x), (1, .int wd), (2, .int stg), (3, .int (nI q9))] := lv_repl hl (congrArg (fun z9 : Int32 => ([(0, .ref x), (1, .int wd), (2, .int stg), (3, .int z9)] : List (Nat × Value))) (show ix = nI q9 from ekq9))
  have eyq9 : ix.toNatClampNeg = q9 := by rw [ekq9, nI_clamp (by omega)]
  obtain ⟨qe9, g9, fo9, qf9, sp9, qs9, hqe9, hqf9, hqs9, he9, hg9, hfc9, hsc9⟩ := (hR).at (i := q9) (by omega)
  refine lv_aload_n hx hb dX6_until_19 rfl (lv_at hl 0 rfl) ?_
  refine z_get (C := RX6) (T := TX6) (N := 11) (ci := 7) (v := .ref rl) X J hi_X6 0 Fa0 rfl 1 (by decide) (by decide +kernel) rfl dX6_until_20 ?_
  refine lv_iload_n hx hb dX6_until_23 rfl (lv_at hl 3 rfl) ?_
  refine z_crq (z_rV (As := [.int (nI q9)]) (rest := []) (ci := 0) (q0 := 2) X J (cJx4a65c_get_915e3_ok l E Fa2 he9 (by omega) (by omega)) (cwV 1 hts gX6_until_Jx4a65c_get_915e3 rfl rfl rfl (by decide +kernel) ⟨Nat.le_of_ble_eq_true rfl, Nat.le_of_ble_eq_true rfl⟩) Fa2 rfl rfl rfl hl.1 rfl (Nat.le_of_ble_eq_true rfl) dX6_until_24 ⟨Nat.le_of_ble_eq_true rfl, Nat.le_of_ble_eq_true rfl⟩) (fun r24 e_r24 => ?_)
  subst e_r24
  refine W.eq (g2 := F0 m 27 ls [.ref fo9]) (by rw [show g9 q9 = some fo9 from hg9]; rfl) ?_
  refine z_cast (own := RX6) (q := (RX2, TX2, 2)) X J qf9 hfc9 (ci := 3) rfl (hts (.classLink RX6 100 RX2) (by decide +kernel)) dX6_until_27 ?_
  refine z_get (C := RX2) (T := TX2) (N := 2) (ci := 3) (v := .ref sp9) X J hi_X2 qf9 hfc9 rfl 1 (by decide) (by decide +kernel) rfl dX6_until_30 ?_
  refine lv_astore (lv' := [(4, .ref sp9), (0, .ref x), (1, .int wd), (2, .int stg), (3, .int (nI q9))]) hx hb dX6_until_33 hl (by decide) rfl (fun ls hl => ?_)
  refine z_new (C := RX5) (T := TX5) (N := 10) (ci := 6) (fs := [.int 0, .int 0, .int 0, .int 0, .int 0, .int 0, .int 0, .int 0, .int 0, .int 0]) X J hi_X5 tyX5 tyX5_ok (by decide +kernel) (by decide +kernel) (by decide +kernel) rfl (fun j hj => by rcases (show j = 0 ∨ j = 1 ∨ j = 2 ∨ j = 3 ∨ j = 4 ∨ j = 5 ∨ j = 6 ∨ j = 7 ∨ j = 8 ∨ j = 9 by omega) with rfl | rfl | rfl | rfl | rfl | rfl | rfl | rfl | rfl | rfl <;> rfl) (Nat.le_of_ble_eq_true rfl) (Nat.le_of_ble_eq_true rfl) dX6_until_35 (fun q35 H J => ?_)
  have lp4 := hk.1
  have hk := hk.trans (zK.app (more := [(q35, .inr (6, [.int 0, .int 0, .int 0, .int 0, .int 0, .int 0, .int 0, .int 0, .int 0, .int 0]))]))
  have bG4_0 := zlt Fa0
  have G4_0 := zapp (x := (q35, .inr (6, [.int 0, .int 0, .int 0, .int 0, .int 0, .int 0, .int 0, .int 0, .int 0, .int 0]))) Fa0
  have bG4_1 := zlt Fa1
  have G4_1 := zapp (x := (q35, .inr (6, [.int 0, .int 0, .int 0, .int 0, .int 0, .int 0, .int 0, .int 0, .int 0, .int 0]))) Fa1
  have bG4_2 := zlt Fa2
  have G4_2 := zapp (x := (q35, .inr (6, [.int 0, .int 0, .int 0, .int 0, .int 0, .int 0, .int 0, .int 0, .int 0, .int 0]))) Fa2
  have bG4_3 := zlt Fa3
  have G4_3 := zapp (x := (q35, .inr (6, [.int 0, .int 0, .int 0, .int 0, .int 0, .int 0, .int 0, .int 0, .int 0, .int 0]))) Fa3
  have bG4_4 := zlt Fa4
  have G4_4 := zapp (x := (q35, .inr (6, [.int 0, .int 0, .int 0, .int 0, .int 0, .int 0, .int 0, .int 0, .int 0, .int 0]))) Fa4
  have bG4_5 := zlt Fa5
  have G4_5 := zapp (x := (q35, .inr (6, [.int 0, .int 0, .int 0, .int 0, .int 0, .int 0, .int 0, .int 0, .int 0, .int 0]))) Fa5
  have bG4_6 := zlt Fa6
  have G4_6 := zapp (x := (q35, .inr (6, [.int 0, .int 0, .int 0, .int 0, .int 0, .int 0, .int 0, .int 0, .int 0, .int 0]))) Fa6
  have bG4_7 := zlt Fa7
  have G4_7 := zapp (x := (q35, .inr (6, [.int 0, .int 0, .int 0, .int 0, .int 0, .int 0, .int 0, .int 0, .int 0, .int 0]))) Fa7
  have bG4_8 := zlt Fa8
  have G4_8 := zapp (x := (q35, .inr (6, [.int 0, .int 0, .int 0, .int 0, .int 0, .int 0, .int 0, .int 0, .int 0, .int 0]))) Fa8
  have bG4_9 := zlt Fa9
  have G4_9 := zapp (x := (q35, .inr (6, [.int 0, .int 0, .int 0, .int 0, .int 0, .int 0, .int 0, .int 0, .int 0, .int 0]))) Fa9
  have bG4_10 := zlt he9
  have G4_10 := zapp (x := (q35, .inr (6, [.int 0, .int 0, .int 0, .int 0, .int 0, .int 0, .int 0, .int 0, .int 0, .int 0]))) he9
  have bG4_11 := zlt hfc9
  have G4_11 := zapp (x := (q35, .inr (6, [.int 0, .int 0, .int 0, .int 0, .int 0, .int 0, .int 0, .int 0, .int 0, .int 0]))) hfc9
  have bG4_12 := zlt hsc9
  have G4_12 := zapp (x := (q35, .inr (6, [.int 0, .int 0, .int 0, .int 0, .int 0, .int 0, .int 0, .int 0, .int 0, .int 0]))) hsc9
  have G4_n := zapp_new (ws := ws) (x := (q35, .inr (6, [.int 0, .int 0, .int 0, .int 0, .int 0, .int 0, .int 0, .int 0, .int 0, .int 0])))
  generalize hws4 : ws ++ [(q35, .inr (6, [.int 0, .int 0, .int 0, .int 0, .int 0, .int 0, .int 0, .int 0, .int 0, .int 0]))] = ws_4 at J hk G4_0 G4_1 G4_2 G4_3 G4_4 G4_5 G4_6 G4_7 G4_8 G4_9 G4_10 G4_11 G4_12 G4_n
  generalize hpn4 : ws.length = pn_4 at G4_n lp4 bG4_0 bG4_1 bG4_2 bG4_3 bG4_4 bG4_5 bG4_6 bG4_7 bG4_8 bG4_9 bG4_10 bG4_11 bG4_12
  refine lv_dup hx hb dX6_until_38 rfl ?_
  refine lv_iload_n hx hb dX6_until_39 rfl (lv_at hl 2 rfl) ?_
  refine lv_iload_n hx hb dX6_until_40 rfl (lv_at hl 3 rfl) ?_
  refine lv_aload_n hx hb dX6_until_41 rfl (lv_at hl 1 rfl) ?_
  refine z_get (C := RX6) (T := TX6) (N := 11) (ci := 7) (v := .int sup) X J hi_X6 0 G4_0 rfl 7 (by decide) (by decide +kernel) rfl dX6_until_42 ?_
  refine z_cv J (z_rI (As := [.int wd, .int stg, .int sup]) (rest := [.ref q35]) X J (cX5_init_ok l E G4_n hwd9) (cwI 3 hts gX6_until_X5_init rfl rfl rfl (hts (.initialized RX5) (by decide +kernel)) (hts (.methodLink RX6 149 yX5_init) (by decide +kernel)) (hts (.instanceMethod yX5_init) (by decide +kernel)) rfl (by decide +kernel) ⟨Nat.le_of_ble_eq_true rfl, Nat.le_of_ble_eq_true rfl⟩) rfl hl.1 rfl (Nat.le_of_ble_eq_true rfl) dX6_until_45 ⟨Nat.le_of_ble_eq_true rfl, Nat.le_of_ble_eq_true rfl⟩) (fun ws_5 H locs hp9 J => ?_)
  obtain ⟨k5, hl9_5, G5_a0⟩ := hp9
  have hk := hk.transN k5 (by intro q9 hq9; simp only [List.mem_cons, List.not_mem_nil, or_false] at hq9 ⊢; omega)
  have G5_0 := k5.2 0 _ (by simp only [List.mem_cons, List.not_mem_nil, or_false]; omega) G4_0
  have G5_1 := k5.2 1 _ (by simp only [List.mem_cons, List.not_mem_nil, or_false]; omega) G4_1
  have G5_2 := k5.2 2 _ (by simp only [List.mem_cons, List.not_mem_nil, or_false]; omega) G4_2
  have G5_3 := k5.2 4 _ (by simp only [List.mem_cons, List.not_mem_nil, or_false]; omega) G4_3
  have G5_4 := k5.2 5 _ (by simp only [List.mem_cons, List.not_mem_nil, or_false]; omega) G4_4
  have G5_5 := k5.2 6 _ (by simp only [List.mem_cons, List.not_mem_nil, or_false]; omega) G4_5
  have G5_6 := k5.2 7 _ (by simp only [List.mem_cons, List.not_mem_nil, or_false]; omega) G4_6
  have G5_7 := k5.2 8 _ (by simp only [List.mem_cons, List.not_mem_nil, or_false]; omega) G4_7
  have G5_8 := k5.2 9 _ (by simp only [List.mem_cons, List.not_mem_nil, or_false]; omega) G4_8
  have G5_9 := k5.2 10 _ (by simp only [List.mem_cons, List.not_mem_nil, or_false]; omega) G4_9
  have G5_10 := k5.2 qe9 _ (by simp only [List.mem_cons, List.not_mem_nil, or_false]; omega) G4_10
  have G5_11 := k5.2 qf9 _ (by simp only [List.mem_cons, List.not_mem_nil, or_false]; omega) G4_11
  have G5_12 := k5.2 qs9 _ (by simp only [List.mem_cons, List.not_mem_nil, or_false]; omega) G4_12
  refine lv_astore (lv' := [(5, .ref q35), (4, .ref sp9), (0, .ref x), (1, .int wd), (2, .int stg), (3, .int (nI q9))]) hx hb dX6_until_48 hl (by decide) rfl (fun ls hl => ?_)
  refine lv_aload_n hx hb dX6_until_50 rfl (lv_at hl 2 rfl) ?_
  refine lv_iconst (v := (-1)) hx hb dX6_until_51 (by decide) ?_
  refine z_cv J (z_rV (As := [.int (-1)]) (rest := []) (ci := 7) (q0 := 0) X J (cX6_screenAllBut_ok l E G5_0 G5_1 G5_7 G5_8 G5_9 (hF.keep hk (by decide)) (by first | assumption | omega | decide) (by first | assumption | omega | decide)) (cwV 1 hts gX6_until_X6_screenAllBut rfl rfl rfl (by decide +kernel) ⟨Nat.le_of_ble_eq_true rfl, Nat.le_of_ble_eq_true rfl⟩) G5_0 rfl rfl rfl hl.1 rfl (Nat.le_of_ble_eq_true rfl) dX6_until_52 ⟨Nat.le_of_ble_eq_true rfl, Nat.le_of_ble_eq_true rfl⟩) (fun ws_6 H locs hp9 J => ?_)
  obtain ⟨k6, G6_a0, G6_a1⟩ := hp9
  have hk := hk.trans (k6.mono (by decide))
  have G6_0 := k6.2 0 _ (by decide) G5_0
  have G6_1 := k6.2 1 _ (by decide) G5_1
  have G6_2 := k6.2 2 _ (by decide) G5_2
  have G6_3 := k6.2 4 _ (by decide) G5_3
  have G6_4 := k6.2 5 _ (by decide) G5_4
  have G6_5 := k6.2 6 _ (by decide) G5_5
  have G6_6 := k6.2 7 _ (by decide) G5_6
  have G6_7 := k6.2 8 _ (by decide) G5_7
  have G6_10 := k6.2 qe9 _ (by simp only [List.mem_cons, List.not_mem_nil, or_false]; omega) G5_10
  have G6_11 := k6.2 qf9 _ (by simp only [List.mem_cons, List.not_mem_nil, or_false]; omega) G5_11
  have G6_12 := k6.2 qs9 _ (by simp only [List.mem_cons, List.not_mem_nil, or_false]; omega) G5_12
  have G6_13 := k6.2 pn_4 _ (by simp only [List.mem_cons, List.not_mem_nil, or_false]; omega) G5_a0
  refine lv_aload_n hx hb dX6_until_55 rfl (lv_at hl 2 rfl) ?_
  refine z_get (C := RX6) (T := TX6) (N := 11) (ci := 7) (v := .ref tr) X J hi_X6 0 G6_0 rfl 4 (by decide) (by decide +kernel) rfl dX6_until_56 ?_
  refine lv_aload_n hx hb dX6_until_59 rfl (lv_at hl 2 rfl) ?_
  refine z_get (C := RX6) (T := TX6) (N := 11) (ci := 7) (v := .ref gr) X J hi_X6 0 G6_0 rfl 3 (by decide) (by decide +kernel) rfl dX6_until_60 ?_
  refine z_cv J (z_rV (As := [.ref gr]) (rest := []) (ci := 2) (q0 := 6) X J (cX1_becomeLike_ok l E G6_5 G6_6 G6_3 G6_4 (by first | assumption | omega | decide)) (cwV 1 hts gX6_until_X1_becomeLike rfl rfl rfl (by decide +kernel) ⟨Nat.le_of_ble_eq_true rfl, Nat.le_of_ble_eq_true rfl⟩) G6_5 rfl rfl rfl hl.1 rfl (Nat.le_of_ble_eq_true rfl) dX6_until_63 ⟨Nat.le_of_ble_eq_true rfl, Nat.le_of_ble_eq_true rfl⟩) (fun ws_7 H locs hp9 J => ?_)
  obtain ⟨k7, G7_a0⟩ := hp9
  have hk := hk.trans (k7.mono (by decide))
  have G7_0 := k7.2 0 _ (by decide) G6_0
  have G7_1 := k7.2 1 _ (by decide) G6_1
  have G7_2 := k7.2 2 _ (by decide) G6_2
  have G7_3 := k7.2 4 _ (by decide) G6_3
  have G7_4 := k7.2 5 _ (by decide) G6_4
  have G7_5 := k7.2 6 _ (by decide) G6_5
  have G7_7 := k7.2 8 _ (by decide) G6_7
  have G7_8 := k7.2 9 _ (by decide) G6_a0
  have G7_9 := k7.2 10 _ (by decide) G6_a1
  have G7_10 := k7.2 qe9 _ (by simp only [List.mem_cons, List.not_mem_nil, or_false]; omega) G6_10
  have G7_11 := k7.2 qf9 _ (by simp only [List.mem_cons, List.not_mem_nil, or_false]; omega) G6_11
  have G7_12 := k7.2 qs9 _ (by simp only [List.mem_cons, List.not_mem_nil, or_false]; omega) G6_12
  have G7_13 := k7.2 pn_4 _ (by simp only [List.mem_cons, List.not_mem_nil, or_false]; omega) G6_13
  refine lv_iconst (v := nI 0) hx hb dX6_until_66 rfl ?_
  refine lv_istore (lv' := [(6, .int (nI 0)), (5, .ref q35), (4, .ref sp9), (0, .ref x), (1, .int wd), (2, .int stg), (3, .int (nI q9))]) hx hb dX6_until_67 hl (by decide) rfl (fun ls hl => ?_)
  have loop_69 : ∀ (k9 i : Nat), i + k9 = 49 → untF (untB stg sup (hgS fa (-1) nf).1 (hgS fa (-1) nf).2 wd sn rd ri lim q9) 49 0 = untF (untB stg sup (hgS fa (-1) nf).1 (hgS fa (-1) nf).2 wd sn rd ri lim q9) k9 i → ∀ (wl69 : va_W) (H : Heap) (locs : List Loc) (ls : Array Slot), zK [7, 9, 10] ws wl69 → wl69[0]? = some (x, .inr (7, [.ref fl, .ref rl, .ref wh, .ref gr, .ref tr, .ref sc, .int lim, .int sup, .int off, .int plo, .int hrs])) → wl69[1]? = some (fl, .inr (0, [.int mc1, .ref ea, .int (nI nf)])) → wl69[2]? = some (rl, .inr (0, [.int mc2, .ref eb, .int (nI nr)])) → wl69[4]? = some (gr, .inr (2, [.ref gra])) → wl69[5]? = some (gra, zI4 E 400 sn) → wl69[6]? = some (tr, .inr (2, [.ref tra])) → wl69[7]? = some (tra, zI4 E 400 ((hsS stg sup (hgS fa (-1) nf).1 (hgS fa (-1) nf).2 wd sn i).2.1)) → wl69[8]? = some (sc, .inr (4, [.ref ha, .ref va])) → wl69[9]? = some (ha, zI4 E 400 ((hgS fa (-1) nf).1)) → wl69[10]? = some (va, zI4 E 400 ((hgS fa (-1) nf).2)) → wl69[qe9]? = some (eb, zO4 E 10 g9) → wl69[qf9]? = some (fo9, .inr (3, [.int (ri q9), .ref sp9])) → wl69[qs9]? = some (sp9, .inr (5, [.int (rfi (rd q9) (ri q9)), .int (nI 20), .int (rd q9)])) → wl69[pn_4]? = some (q35, .inr (6, [.int (wdn wd), .int stg, .int sup, .int (wfc wd), .int (wnc wd), .int (wnl wd), .int ((hsS stg sup (hgS fa (-1) nf).1 (hgS fa (-1) nf).2 wd sn i).2.2.1), .int ((hsS stg sup (hgS fa (-1) nf).1 (hgS fa (-1) nf).2 wd sn i).2.2.2.1), .int ((hsS stg sup (hgS fa (-1) nf).1 (hgS fa (-1) nf).2 wd sn i).2.2.2.2.1), .int ((hsS stg sup (hgS fa (-1) nf).1 (hgS fa (-1) nf).2 wd sn i).2.2.2.2.2)])) → zJ E wl69 s H locs → lv_has ls 7 [(6, .int (nI i)), (5, .ref q35), (4, .ref sp9), (0, .ref x), (1, .int wd), (2, .int stg), (3, .int (nI q9))] → W p l e (headSpec wsX6_until ({ frames := 8, cells := 14, slots := 90, locals := 133 } : Room)).room s m args below meth c H locs 4 28 QQ (F0 m 69 ls []) := by
    intro k9
    induction k9 with
    | zero =>
      intro i hik hu9 wl69 H locs ls hk L69_0 L69_1 L69_2 L69_3 L69_4 L69_5 L69_6 L69_7 L69_8 L69_9 L69_10 L69_11 L69_12 L69_13 J hl
      obtain rfl : 49 = i := by omega
      refine lv_iload hx hb dX6_until_69 (lv_at hl 0 rfl) ?_
      refine lv_bipush (v := nI 48) hx hb dX6_until_71 (by decide) ?_
      refine lv_icmp_gt (tgt := 113) hx hb dX6_until_73 (by decide) (fun cz73 => ?_) (fun cz73 => by exact (cz73 (by decide)).elim)
      refine lv_iconst (v := (-1)) hx hb dX6_until_113 (by decide) ?_
      refine W.widen (k := 14) (n := 90) (by omega) (by omega) ?_
      subst hQ
      refine vx_ret ?_
      exact W.iret (v := (-1)) hx hb hr (fun t ht hW => ⟨⟨(-1), wl69, rfl, ⟨hk, ⟨(hsS stg sup (hgS fa (-1) nf).1 (hgS fa (-1) nf).2 wd sn 49).2.1, (hgS fa (-1) nf).1, (hgS fa (-1) nf).2, L69_6, L69_8, L69_9, (by refine ⟨(if_neg (not_or_e e_r1 e_r12)).trans (if_neg (fun q => q e_r16)), ?_⟩; rw [eyq9]; exact (hu9).symm)⟩⟩, J.I X ht hW.alike⟩, J.F ht⟩) J.locs dX6_until_114
    | succ k9 ih_69 =>
      intro i hik hu9 wl69 H locs ls hk L69_0 L69_1 L69_2 L69_3 L69_4 L69_5 L69_6 L69_7 L69_8 L69_9 L69_10 L69_11 L69_12 L69_13 J hl
      refine lv_iload hx hb dX6_until_69 (lv_at hl 0 rfl) ?_
      refine lv_bipush (v := nI 48) hx hb dX6_until_71 (by decide) ?_
      refine lv_icmp_gt (tgt := 113) hx hb dX6_until_73 (by decide) (fun cz73 => by exact (nI_ngt (by omega) (by decide) cz73).elim) (fun cz73 => ?_)
      refine lv_aload_n hx hb dX6_until_76 rfl (lv_at hl 3 rfl) ?_
      refine z_get (C := RX6) (T := TX6) (N := 11) (ci := 7) (v := .ref tr) X J hi_X6 0 L69_0 rfl 4 (by decide) (by decide +kernel) rfl dX6_until_77 ?_
      refine lv_aload hx hb dX6_until_80 (lv_at hl 2 rfl) ?_
      refine lv_aload_n hx hb dX6_until_82 rfl (lv_at hl 3 rfl) ?_
      refine z_get (C := RX6) (T := TX6) (N := 11) (ci := 7) (v := .int lim) X J hi_X6 0 L69_0 rfl 6 (by decide) (by decide +kernel) rfl dX6_until_83 ?_
      refine z_cr (z_rV (As := [.ref sp9, .int lim]) (rest := []) (ci := 2) (q0 := 6) X J (cX1_blocked_ok l E L69_5 L69_6 L69_12 (by decide)) (cwV 2 hts gX6_until_X1_blocked rfl rfl rfl (by decide +kernel) ⟨Nat.le_of_ble_eq_true rfl, Nat.le_of_ble_eq_true rfl⟩) L69_5 rfl rfl rfl hl.1 rfl (Nat.le_of_ble_eq_true rfl) dX6_until_86 ⟨Nat.le_of_ble_eq_true rfl, Nat.le_of_ble_eq_true rfl⟩) (fun r86 e_r86 => ?_)
      subst e_r86
      refine lv_if_le (tgt := 95) hx hb dX6_until_89 (by decide) (fun cz89 => ?_) (fun cz89 => ?_)
      · refine lv_aload_n hx hb dX6_until_95 rfl (lv_at hl 3 rfl) ?_
        refine lv_aload_n hx hb dX6_until_96 rfl (lv_at hl 3 rfl) ?_
        refine z_get (C := RX6) (T := TX6) (N := 11) (ci := 7) (v := .ref tr) X J hi_X6 0 L69_0 rfl 4 (by decide) (by decide +kernel) rfl dX6_until_97 ?_
        refine lv_aload hx hb dX6_until_100 (lv_at hl 1 rfl) ?_
        refine lv_iconst (v := 1) hx hb dX6_until_102 (by decide) ?_
        refine z_ci J (z_rV (As := [.ref tr, .ref q35, .int 1]) (rest := []) (ci := 7) (q0 := 0) X J (cX6_blowOver_ok l E (n := 1) L69_0 L69_7 L69_8 L69_9 L69_5 L69_6 L69_13 (by first | assumption | omega | decide) (by first | assumption | omega | decide) (by first | assumption | omega | decide)) (cwV 3 hts gX6_until_X6_blowOver rfl rfl rfl (by decide +kernel) ⟨Nat.le_of_ble_eq_true rfl, Nat.le_of_ble_eq_true rfl⟩) L69_0 rfl rfl rfl hl.1 rfl (Nat.le_of_ble_eq_true rfl) dX6_until_103 ⟨Nat.le_of_ble_eq_true rfl, Nat.le_of_ble_eq_true rfl⟩) (fun r103 ws_8 H locs hp9 J => ?_)
        obtain ⟨k8, G8_a0, G8_a1, e_r103⟩ := hp9
        have hk := hk.transN k8 (by intro q9 hq9; simp only [List.mem_cons, List.not_mem_nil, or_false] at hq9 ⊢; omega)
        have G8_0 := k8.2 0 _ (by simp only [List.mem_cons, List.not_mem_nil, or_false]; omega) L69_0
        have G8_1 := k8.2 1 _ (by simp only [List.mem_cons, List.not_mem_nil, or_false]; omega) L69_1
        have G8_2 := k8.2 2 _ (by simp only [List.mem_cons, List.not_mem_nil, or_false]; omega) L69_2
        have G8_3 := k8.2 4 _ (by simp only [List.mem_cons, List.not_mem_nil, or_false]; omega) L69_3
        have G8_4 := k8.2 5 _ (by simp only [List.mem_cons, List.not_mem_nil, or_false]; omega) L69_4
        have G8_5 := k8.2 6 _ (by simp only [List.mem_cons, List.not_mem_nil, or_false]; omega) L69_5
        have G8_7 := k8.2 8 _ (by simp only [List.mem_cons, List.not_mem_nil, or_false]; omega) L69_7
        have G8_8 := k8.2 9 _ (by simp only [List.mem_cons, List.not_mem_nil, or_false]; omega) L69_8
        have G8_9 := k8.2 10 _ (by simp only [List.mem_cons, List.not_mem_nil, or_false]; omega) L69_9
        have G8_10 := k8.2 qe9 _ (by simp only [List.mem_cons, List.not_mem_nil, or_false]; omega) L69_10
        have G8_11 := k8.2 qf9 _ (by simp only [List.mem_cons, List.not_mem_nil, or_false]; omega) L69_11
        have G8_12 := k8.2 qs9 _ (by simp only [List.mem_cons, List.not_mem_nil, or_false]; omega) L69_12
        subst e_r103
        refine lv_pop hx hb dX6_until_106 rfl ?_
        refine lv_iinc (v := nI (i + 1)) (lv' := [(6, .int (nI (i + 1))), (5, .ref q35), (4, .ref sp9), (0, .ref x), (1, .int wd), (2, .int stg), (3, .int (nI q9))]) hx hb dX6_until_107 hl (k := 0) rfl (nI_1 i) (by decide) rfl (fun ls hl => ?_)
        refine lv_goto (tgt := 69) hx hb dX6_until_110 (by decide) ?_
        exact ih_69 (i + 1) (by omega) (hu9.trans (untF_s (blk_le0 cz89))) _ _ _ _ hk G8_0 G8_1 G8_2 G8_3 G8_4 G8_5 (by rw [hsS_s]; exact G8_a1) G8_7 G8_8 G8_9 G8_10 G8_11 G8_12 (by rw [hsS_s]; exact G8_a0) J (lv_sub hl [0, 1, 2, 3, 4, 5, 6] rfl)
      · refine lv_iload hx hb dX6_until_92 (lv_at hl 0 rfl) ?_
        refine W.widen (k := 14) (n := 90) (by omega) (by omega) ?_
        subst hQ
        refine vx_ret ?_
        exact W.iret (v := nI i) hx hb hr (fun t ht hW => ⟨⟨nI i, wl69, rfl, ⟨hk, ⟨(hsS stg sup (hgS fa (-1) nf).1 (hgS fa (-1) nf).2 wd sn i).2.1, (hgS fa (-1) nf).1, (hgS fa (-1) nf).2, L69_6, L69_8, L69_9, (by refine ⟨(if_neg (not_or_e e_r1 e_r12)).trans (if_neg (fun q => q e_r16)), ?_⟩; rw [eyq9]; exact (hu9.trans (untF_e (blk_ne0 cz89))).symm)⟩⟩, J.I X ht hW.alike⟩, J.F ht⟩) J.locs dX6_until_94
  exact loop_69 49 0 (by omega) rfl _ _ _ _ hk G7_0 G7_1 G7_2 G7_3 G7_4 G7_5 G7_a0 G7_7 G7_8 G7_9 G7_10 G7_11 G7_12 G7_13 J (lv_sub hl [0, 1, 2, 3, 4, 5, 6] rfl)
set_option maxHeartbeats 400000 in
set_option maxRecDepth 100000 in
theorem cX6_harmful_ok (l : Launch) (hflags : l.flags = flags0) (E : zG) {ws : va_W} {x fl rl wh gr gra tr tra sc ha va ea eb nf nr : Nat} {mc1 mc2 lim sup off plo hrs : Int32} {fa rd ri sn t9 hf gf : Nat → Int32} {wd stg : Int32} (Fa0 : ws[0]? = some (x, .inr (7, [.ref fl, .ref rl, .ref wh, .ref gr, .ref tr, .ref sc, .int lim, .int sup, .int off, .int plo, .int hrs]))) (Fa1 : ws[1]? = some (fl, .inr (0, [.int mc1, .ref ea, .int (nI nf)]))) (Fa2 : ws[2]? = some (rl, .inr (0, [.int mc2, .ref eb, .int (nI nr)]))) (Fa3 : ws[4]? = some (gr, .inr (2, [.ref gra]))) (Fa4 : ws[5]? = some (gra, zI4 E 400 sn)) (Fa5 : ws[6]? = some (tr, .inr (2, [.ref tra]))) (Fa6 : ws[7]? = some (tra, zI4 E 400 t9)) (Fa7 : ws[8]? = some (sc, .inr (4, [.ref ha, .ref va]))) (Fa8 : ws[9]? = some (ha, zI4 E 400 hf)) (Fa9 : ws[10]? = some (va, zI4 E 400 gf)) (hF : FS E ws fa ea nf) (hnf : nf ≤ 10) (hok : ∀ j, j < nf → okF fa j) (hR : RS E ws rd ri eb nr) (hnr : nr ≤ 4) : vx_Met l yX6_harmful wsX6_harmful ({ frames := 8, cells := 14, slots := 90, locals := 154 } : Room) (va_Pc [.ref x, .int wd, .int stg] (zY E ws)) (va_Qi (fun (r : Int32) (ws' : va_W) => (zK [7, 9, 10] ws ws') ∧ (∃ (t2 : Nat → Int32) (h2 : Nat → Int32) (g2 : Nat → Int32), (ws'[7]? = some (tra, zI4 E 400 t2)) ∧ (ws'[9]? = some (ha, zI4 E 400 h2)) ∧ (ws'[10]? = some (va, zI4 E 400 g2)) ∧ ((kHarm wd stg) = 0 ∧ r = (harS fa nf stg sup wd sn rd ri lim nr nf).1))) (zI E) (zA E)) (zX E ws (fun nm => ((kHarm wd stg) = 1 ∧ nm = "java/lang/IndexOutOfBoundsException") ∨ ((kHarm wd stg) = 2 ∧ nm = "java/lang/IllegalArgumentException"))) 14 90 (zA E) := by
  refine vx_ofW (cc := cX6_harmful) (maxL := 8) (ret := (some .int)) (by decide) rfl ?_
  intro p e s m args below meth c s₁ B hml htab hv
  obtain ⟨hargs9, hI, hRz⟩ := hv
  have hx := B.exec
  have hb := B.bytes
  have hr := B.returns
  have hlocks := B.notSynchronized
  have X : zC E p m c cX6_harmful 8 s args wsX6_harmful RX6 := z_open B hml hI
  have hown := X.1.2.2.2.1
  have hts := X.1.2.2.2.2
  have J := hI.J
  have hi_X5 : ∀ w ∈ wsX50, w ∈ wsX6_harmful := by decide +kernel
  have hi_X6 : ∀ w ∈ wsX60, w ∈ wsX6_harmful := by decide +kernel
  have hk : zK [7, 9, 10] ws ws := zK.rf
  have hl := lv_entry ([.ref x, .int wd, .int stg]) (n := 8) (Nat.le_of_ble_eq_true rfl)
  rw [show entryFrame m args 8 = entryFrame m ([.ref x, .int wd, .int stg] : List Value).toArray 8 from by rw [hargs9], lg_entry_eq]
  generalize (lg_sl ([.ref x, .int wd, .int stg]) ++ List.replicate (8 - (lg_sl ([.ref x, .int wd, .int stg])).length) Slot.unset).toArray = ls at hl ⊢
  have hl : lv_has ls 8 [(0, .ref x), (1, .int wd), (2, .int stg)] := hl
  generalize hQ : (vx_MQ below (va_Qi (fun (r : Int32) (ws' : va_W) => (zK [7, 9, 10] ws ws') ∧ (∃ (t2 : Nat → Int32) (h2 : Nat → Int32) (g2 : Nat → Int32), (ws'[7]? = some (tra, zI4 E 400 t2)) ∧ (ws'[9]? = some (ha, zI4 E 400 h2)) ∧ (ws'[10]? = some (va, zI4 E 400 g2)) ∧ ((kHarm wd stg) = 0 ∧ r = (harS fa nf stg sup wd sn rd ri lim nr nf).1))) (zI E) (zA E)) (zX E ws (fun nm => ((kHarm wd stg) = 1 ∧ nm = "java/lang/IndexOutOfBoundsException") ∨ ((kHarm wd stg) = 2 ∧ nm = "java/lang/IllegalArgumentException"))) args s 14 90 (zA E)) = QQ
  refine lv_iload_n hx hb dX6_harmful_0 rfl (lv_at hl 1 rfl) ?_
  refine z_xv J (z_yS (As := [.int wd]) (rest := []) X hRz J (cX6_needWind_ok l hflags E) (va_cwS 1 hts gX6_harmful_X6_needWind rfl rfl rfl (by decide +kernel) ⟨Nat.le_of_ble_eq_true rfl, Nat.le_of_ble_eq_true rfl⟩) rfl hl.1 rfl (Nat.le_of_ble_eq_true rfl) dX6_harmful_1 ⟨Nat.le_of_ble_eq_true rfl, Nat.le_of_ble_eq_true rfl⟩) (fun nm ce q9 H locs hp9 J h1 h2 h3 => ?_) (fun ws_1 H locs hp9 J => ?_)
  · subst hQ
    exact z_out X J htab hlocks h1 h2 h3 (by exact Or.inl ⟨if_pos hp9.1, hp9.2⟩) (Nat.le_of_ble_eq_true rfl) (Nat.le_of_ble_eq_true rfl)
  obtain ⟨rfl, e_r1⟩ := hp9
  refine lv_iload_n hx hb dX6_harmful_4 rfl (lv_at hl 2 rfl) ?_
  refine z_xv J (z_yS (As := [.int stg]) (rest := []) X hRz J (cX6_needStrength_ok l hflags E) (va_cwS 1 hts gX6_harmful_X6_needStrength rfl rfl rfl (by decide +kernel) ⟨Nat.le_of_ble_eq_true rfl, Nat.le_of_ble_eq_true rfl⟩) rfl hl.1 rfl (Nat.le_of_ble_eq_true rfl) dX6_harmful_5 ⟨Nat.le_of_ble_eq_true rfl, Nat.le_of_ble_eq_true rfl⟩) (fun nm ce q9 H locs hp9 J h1 h2 h3 => ?_) (fun ws_2 H locs hp9 J => ?_)
  · subst hQ
    exact z_out X J htab hlocks h1 h2 h3 (by exact Or.inr ⟨(if_neg (fun q => q e_r1)).trans (if_pos hp9.1), hp9.2⟩) (Nat.le_of_ble_eq_true rfl) (Nat.le_of_ble_eq_true rfl)
  obtain ⟨rfl, e_r5⟩ := hp9
  have hwd9 := inR03 e_r1
  refine z_new (C := RX5) (T := TX5) (N := 10) (ci := 6) (fs := [.int 0, .int 0, .int 0, .int 0, .int 0, .int 0, .int 0, .int 0, .int 0, .int 0]) X J hi_X5 tyX5 tyX5_ok (by decide +kernel) (by decide +kernel) (by decide +kernel) rfl (fun j hj => by rcases (show j = 0 ∨ j = 1 ∨ j = 2 ∨ j = 3 ∨ j = 4 ∨ j = 5 ∨ j = 6 ∨ j = 7 ∨ j = 8 ∨ j = 9 by omega) with rfl | rfl | rfl | rfl | rfl | rfl | rfl | rfl | rfl | rfl <;> rfl) (Nat.le_of_ble_eq_true rfl) (Nat.le_of_ble_eq_true rfl) dX6_harmful_8 (fun q8 H J => ?_)
  have lp3 := hk.1
  have hk := hk.trans (zK.app (more := [(q8, .inr (6, [.int 0, .int 0, .int 0, .int 0, .int 0, .int 0, .int 0, .int 0, .int 0, .int 0]))]))
  have bG3_0 := zlt Fa0
  have G3_0 := zapp (x := (q8, .inr (6, [.int 0, .int 0, .int 0, .int 0, .int 0, .int 0, .int 0, .int 0, .int 0, .int 0]))) Fa0
  have bG3_1 := zlt Fa1
  have G3_1 := zapp (x := (q8, .inr (6, [.int 0, .int 0, .int 0, .int 0, .int 0, .int 0, .int 0, .int 0, .int 0, .int 0]))) Fa1
  have bG3_2 := zlt Fa2
  have G3_2 := zapp (x := (q8, .inr (6, [.int 0, .int 0, .int 0, .int 0, .int 0, .int 0, .int 0, .int 0, .int 0, .int 0]))) Fa2
  have bG3_3 := zlt Fa3
  have G3_3 := zapp (x := (q8, .inr (6, [.int 0, .int 0, .int 0, .int 0, .int 0, .int 0, .int 0, .int 0, .int 0, .int 0]))) Fa3
  have bG3_4 := zlt Fa4
  have G3_4 := zapp (x := (q8, .inr (6, [.int 0, .int 0, .int 0, .int 0, .int 0, .int 0, .int 0, .int 0, .int 0, .int 0]))) Fa4
  have bG3_5 := zlt Fa5
  have G3_5 := zapp (x := (q8, .inr (6, [.int 0, .int 0, .int 0, .int 0, .int 0, .int 0, .int 0, .int 0, .int 0, .int 0]))) Fa5
  have bG3_6 := zlt Fa6
  have G3_6 := zapp (x := (q8, .inr (6, [.int 0, .int 0, .int 0, .int 0, .int 0, .int 0, .int 0, .int 0, .int 0, .int 0]))) Fa6
  have bG3_7 := zlt Fa7
  have G3_7 := zapp (x := (q8, .inr (6, [.int 0, .int 0, .int 0, .int 0, .int 0, .int 0, .int 0, .int 0, .int 0, .int 0]))) Fa7
  have bG3_8 := zlt Fa8
  have G3_8 := zapp (x := (q8, .inr (6, [.int 0, .int 0, .int 0, .int 0, .int 0, .int 0, .int 0, .int 0, .int 0, .int 0]))) Fa8
  have bG3_9 := zlt Fa9
  have G3_9 := zapp (x := (q8, .inr (6, [.int 0, .int 0, .int 0, .int 0, .int 0, .int 0, .int 0, .int 0, .int 0, .int 0]))) Fa9
  have G3_n := zapp_new (ws := ws) (x := (q8, .inr (6, [.int 0, .int 0, .int 0, .int 0, .int 0, .int 0, .int 0, .int 0, .int 0, .int 0])))
  generalize hws3 : ws ++ [(q8, .inr (6, [.int 0, .int 0, .int 0, .int 0, .int 0, .int 0, .int 0, .int 0, .int 0, .int 0]))] = ws_3 at J hk G3_0 G3_1 G3_2 G3_3 G3_4 G3_5 G3_6 G3_7 G3_8 G3_9 G3_n
  generalize hpn3 : ws.length = pn_3 at G3_n lp3 bG3_0 bG3_1 bG3_2 bG3_3 bG3_4 bG3_5 bG3_6 bG3_7 bG3_8 bG3_9
  refine lv_dup hx hb dX6_harmful_11 rfl ?_
  refine lv_iload_n hx hb dX6_harmful_12 rfl (lv_at hl 1 rfl) ?_
  refine lv_iload_n hx hb dX6_harmful_13 rfl (lv_at hl 2 rfl) ?_
  refine lv_aload_n hx hb dX6_harmful_14 rfl (lv_at hl 0 rfl) ?_
  refine z_get (C := RX6) (T := TX6) (N := 11) (ci := 7) (v := .int sup) X J hi_X6 0 G3_0 rfl 7 (by decide) (by decide +kernel) rfl dX6_harmful_15 ?_
  refine z_cv J (z_rI (As := [.int wd, .int stg, .int sup]) (rest := [.ref q8]) X J (cX5_init_ok l E G3_n hwd9) (cwI 3 hts gX6_harmful_X5_init rfl rfl rfl (hts (.initialized RX5) (by decide +kernel)) (hts (.methodLink RX6 149 yX5_init) (by decide +kernel)) (hts (.instanceMethod yX5_init) (by decide +kernel)) rfl (by decide +kernel) ⟨Nat.le_of_ble_eq_true rfl, Nat.le_of_ble_eq_true rfl⟩) rfl hl.1 rfl (Nat.le_of_ble_eq_true rfl) dX6_harmful_18 ⟨Nat.le_of_ble_eq_true rfl, Nat.le_of_ble_eq_true rfl⟩) (fun ws_4 H locs hp9 J => ?_)
  obtain ⟨k4, hl9_4, G4_a0⟩ := hp9
  have hk := hk.transN k4 (by intro q9 hq9; simp only [List.mem_cons, List.not_mem_nil, or_false] at hq9 ⊢; omega)
  have G4_0 := k4.2 0 _ (by simp only [List.mem_cons, List.not_mem_nil, or_false]; omega) G3_0
  have G4_1 := k4.2 1 _ (by simp only [List.mem_cons, List.not_mem_nil, or_false]; omega) G3_1
  have G4_2 := k4.2 2 _ (by simp only [List.mem_cons, List.not_mem_nil, or_false]; omega) G3_2
  have G4_3 := k4.2 4 _ (by simp only [List.mem_cons, List.not_mem_nil, or_false]; omega) G3_3
  have G4_4 := k4.2 5 _ (by simp only [List.mem_cons, List.not_mem_nil, or_false]; omega) G3_4
  have G4_5 := k4.2 6 _ (by simp only [List.mem_cons, List.not_mem_nil, or_false]; omega) G3_5
  have G4_6 := k4.2 7 _ (by simp only [List.mem_cons, List.not_mem_nil, or_false]; omega) G3_6
  have G4_7 := k4.2 8 _ (by simp only [List.mem_cons, List.not_mem_nil, or_false]; omega) G3_7
  have G4_8 := k4.2 9 _ (by simp only [List.mem_cons, List.not_mem_nil, or_false]; omega) G3_8
  have G4_9 := k4.2 10 _ (by simp only [List.mem_cons, List.not_mem_nil, or_false]; omega) G3_9
  refine lv_astore_n (lv' := [(3, .ref q8), (0, .ref x), (1, .int wd), (2, .int stg)]) hx hb dX6_harmful_21 rfl hl (by decide) rfl (fun ls hl => ?_)
  refine lv_aload_n hx hb dX6_harmful_22 rfl (lv_at hl 1 rfl) ?_
  refine lv_iconst (v := (-1)) hx hb dX6_harmful_23 (by decide) ?_
  refine z_cv J (z_rV (As := [.int (-1)]) (rest := []) (ci := 7) (q0 := 0) X J (cX6_screenAllBut_ok l E G4_0 G4_1 G4_7 G4_8 G4_9 (hF.keep hk (by decide)) (by first | assumption | omega | decide) (by first | assumption | omega | decide)) (cwV 1 hts gX6_harmful_X6_screenAllBut rfl rfl rfl (by decide +kernel) ⟨Nat.le_of_ble_eq_true rfl, Nat.le_of_ble_eq_true rfl⟩) G4_0 rfl rfl rfl hl.1 rfl (Nat.le_of_ble_eq_true rfl) dX6_harmful_24 ⟨Nat.le_of_ble_eq_true rfl, Nat.le_of_ble_eq_true rfl⟩) (fun ws_5 H locs hp9 J => ?_)
  obtain ⟨k5, G5_a0, G5_a1⟩ := hp9
  have hk := hk.trans (k5.mono (by decide))
  have G5_0 := k5.2 0 _ (by decide) G4_0
  have G5_1 := k5.2 1 _ (by decide) G4_1
  have G5_2 := k5.2 2 _ (by decide) G4_2
  have G5_3 := k5.2 4 _ (by decide) G4_3
  have G5_4 := k5.2 5 _ (by decide) G4_4
  have G5_5 := k5.2 6 _ (by decide) G4_5
  have G5_6 := k5.2 7 _ (by decide) G4_6
  have G5_7 := k5.2 8 _ (by decide) G4_7
  have G5_10 := k5.2 pn_3 _ (by simp only [List.mem_cons, List.not_mem_nil, or_false]; omega) G4_a0
  refine lv_iconst (v := (harS fa nf stg sup wd sn rd ri lim nr 0).1) hx hb dX6_harmful_27 rfl ?_
  refine lv_istore (lv' := [(4, .int ((harS fa nf stg sup wd sn rd ri lim nr 0).1)), (3, .ref q8), (0, .ref x), (1, .int wd), (2, .int stg)]) hx hb dX6_harmful_28 hl (by decide) rfl (fun ls hl => ?_)
  refine lv_aload_n hx hb dX6_harmful_30 rfl (lv_at hl 2 rfl) ?_
  refine lv_aload_n hx hb dX6_harmful_31 rfl (lv_at hl 1 rfl) ?_
  refine z_ci J (z_rV (As := [.ref q8]) (rest := []) (ci := 7) (q0 := 0) X J (cX6_blockedAfterAdvice_ok l E G5_0 G5_2 G5_3 G5_4 G5_5 G5_6 G5_7 G5_a0 G5_a1 G5_10 (hR.keep hk (by decide)) (by first | assumption | omega | decide)) (cwV 1 hts gX6_harmful_X6_blockedAfterAdvice rfl rfl rfl (by decide +kernel) ⟨Nat.le_of_ble_eq_true rfl, Nat.le_of_ble_eq_true rfl⟩) G5_0 rfl rfl rfl hl.1 rfl (Nat.le_of_ble_eq_true rfl) dX6_harmful_32 ⟨Nat.le_of_ble_eq_true rfl, Nat.le_of_ble_eq_true rfl⟩) (fun r32 ws_6 H locs hp9 J => ?_)
  obtain ⟨k6, G6_a0, G6_a1, e_r32⟩ := hp9
  have hk := hk.transN k6 (by intro q9 hq9; simp only [List.mem_cons, List.not_mem_nil, or_false] at hq9 ⊢; omega)
  have G6_0 := k6.2 0 _ (by simp only [List.mem_cons, List.not_mem_nil, or_false]; omega) G5_0
  have G6_1 := k6.2 1 _ (by simp only [List.mem_cons, List.not_mem_nil, or_false]; omega) G5_1
  have G6_2 := k6.2 2 _ (by simp only [List.mem_cons, List.not_mem_nil, or_false]; omega) G5_2
  have G6_3 := k6.2 4 _ (by simp only [List.mem_cons, List.not_mem_nil, or_false]; omega) G5_3
  have G6_4 := k6.2 5 _ (by simp only [List.mem_cons, List.not_mem_nil, or_false]; omega) G5_4
  have G6_5 := k6.2 6 _ (by simp only [List.mem_cons, List.not_mem_nil, or_false]; omega) G5_5
  have G6_7 := k6.2 8 _ (by simp only [List.mem_cons, List.not_mem_nil, or_false]; omega) G5_7
  have G6_8 := k6.2 9 _ (by simp only [List.mem_cons, List.not_mem_nil, or_false]; omega) G5_a0
  have G6_9 := k6.2 10 _ (by simp only [List.mem_cons, List.not_mem_nil, or_false]; omega) G5_a1
  subst e_r32
  refine W.eq (g2 := F0 m 35 ls [.int ((harS fa nf stg sup wd sn rd ri lim nr 0).2)]) (congrArg (fun z9 : Int32 => F0 m 35 ls [.int z9]) (show (allB (boS stg sup ((hgS fa (-1) nf).1) ((hgS fa (-1) nf).2) (wfc wd) (wnc wd) (wnl wd) (sn, 0, 0, 0, 0) 4).2.1 rd ri lim nr : Int32) = (harS fa nf stg sup wd sn rd ri lim nr 0).2 from harA_of)) ?_
  refine lv_istore (lv' := [(5, .int ((harS fa nf stg sup wd sn rd ri lim nr 0).2)), (4, .int ((harS fa nf stg sup wd sn rd ri lim nr 0).1)), (3, .ref q8), (0, .ref x), (1, .int wd), (2, .int stg)]) hx hb dX6_harmful_35 hl (by decide) rfl (fun ls hl => ?_)
  refine lv_iconst (v := nI 0) hx hb dX6_harmful_37 rfl ?_
  refine lv_istore (lv' := [(6, .int (nI 0)), (5, .int ((harS fa nf stg sup wd sn rd ri lim nr 0).2)), (4, .int ((harS fa nf stg sup wd sn rd ri lim nr 0).1)), (3, .ref q8), (0, .ref x), (1, .int wd), (2, .int stg)]) hx hb dX6_harmful_38 hl (by decide) rfl (fun ls hl => ?_)
  have loop_40 : ∀ (k9 i : Nat) (t0 : Nat → Int32) (h0 : Nat → Int32) (g0 : Nat → Int32) (ca0 : Int32) (sh0 : Int32) (sw0 : Int32) (ho0 : Int32), i + k9 = nf → ∀ (wl40 : va_W) (H : Heap) (locs : List Loc) (ls : Array Slot), zK [7, 9, 10] ws wl40 → wl40[0]? = some (x, .inr (7, [.ref fl, .ref rl, .ref wh, .ref gr, .ref tr, .ref sc, .int lim, .int sup, .int off, .int plo, .int hrs])) → wl40[1]? = some (fl, .inr (0, [.int mc1, .ref ea, .int (nI nf)])) → wl40[2]? = some (rl, .inr (0, [.int mc2, .ref eb, .int (nI nr)])) → wl40[4]? = some (gr, .inr (2, [.ref gra])) → wl40[5]? = some (gra, zI4 E 400 sn) → wl40[6]? = some (tr, .inr (2, [.ref tra])) → wl40[7]? = some (tra, zI4 E 400 t0) → wl40[8]? = some (sc, .inr (4, [.ref ha, .ref va])) → wl40[9]? = some (ha, zI4 E 400 h0) → wl40[10]? = some (va, zI4 E 400 g0) → wl40[pn_3]? = some (q8, .inr (6, [.int (wdn wd), .int stg, .int sup, .int (wfc wd), .int (wnc wd), .int (wnl wd), .int ca0, .int sh0, .int sw0, .int ho0])) → zJ E wl40 s H locs → lv_has ls 8 [(6, .int (nI i)), (5, .int ((harS fa nf stg sup wd sn rd ri lim nr i).2)), (4, .int ((harS fa nf stg sup wd sn rd ri lim nr i).1)), (3, .ref q8), (0, .ref x), (1, .int wd), (2, .int stg)] → W p l e (headSpec wsX6_harmful ({ frames := 8, cells := 14, slots := 90, locals := 154 } : Room)).room s m args below meth c H locs 3 22 QQ (F0 m 40 ls []) := by
    intro k9
    induction k9 with
    | zero =>
      intro i t0 h0 g0 ca0 sh0 sw0 ho0 hik wl40 H locs ls hk L40_0 L40_1 L40_2 L40_3 L40_4 L40_5 L40_6 L40_7 L40_8 L40_9 L40_10 J hl
      obtain rfl : nf = i := by omega
      refine lv_iload hx hb dX6_harmful_40 (lv_at hl 0 rfl) ?_
      refine lv_aload_n hx hb dX6_harmful_42 rfl (lv_at hl 4 rfl) ?_
      refine z_get (C := RX6) (T := TX6) (N := 11) (ci := 7) (v := .ref fl) X J hi_X6 0 L40_0 rfl 0 (by decide) (by decide +kernel) rfl dX6_harmful_43 ?_
      refine z_cr (z_rV (As := []) (rest := [.int (nI nf)]) (ci := 0) (q0 := 1) X J (cJx4a65c_size_8abf5_ok l E L40_1) (cwV 0 hts gX6_harmful_Jx4a65c_size_8abf5 rfl rfl rfl (by decide +kernel) ⟨Nat.le_of_ble_eq_true rfl, Nat.le_of_ble_eq_true rfl⟩) L40_1 rfl rfl rfl hl.1 rfl (Nat.le_of_ble_eq_true rfl) dX6_harmful_46 ⟨Nat.le_of_ble_eq_true rfl, Nat.le_of_ble_eq_true rfl⟩) (fun r46 e_r46 => ?_)
      subst e_r46
      refine lv_icmp_ge (tgt := 86) hx hb dX6_harmful_49 (by decide) (fun cz49 => ?_) (fun cz49 => by exact (cz49 (nI_le (Nat.le_refl _) (by omega))).elim)
      refine lv_iload hx hb dX6_harmful_86 (lv_at hl 2 rfl) ?_
      refine W.widen (k := 14) (n := 90) (by omega) (by omega) ?_
      subst hQ
      refine vx_ret ?_
      exact W.iret (v := (harS fa nf stg sup wd sn rd ri lim nr nf).1) hx hb hr (fun t ht hW => ⟨⟨(harS fa nf stg sup wd sn rd ri lim nr nf).1, wl40, rfl, ⟨hk, ⟨t0, h0, g0, L40_6, L40_8, L40_9, (by exact ⟨(if_neg (fun q => q e_r1)).trans (if_neg (fun q => q e_r5)), rfl⟩)⟩⟩, J.I X ht hW.alike⟩, J.F ht⟩) J.locs dX6_harmful_88
    | succ k9 ih_40 =>
      intro i t0 h0 g0 ca0 sh0 sw0 ho0 hik wl40 H locs ls hk L40_0 L40_1 L40_2 L40_3 L40_4 L40_5 L40_6 L40_7 L40_8 L40_9 L40_10 J hl
      refine lv_iload hx hb dX6_harmful_40 (lv_at hl 0 rfl) ?_
      refine lv_aload_n hx hb dX6_harmful_42 rfl (lv_at hl 4 rfl) ?_
      refine z_get (C := RX6) (T := TX6) (N := 11) (ci := 7) (v := .ref fl) X J hi_X6 0 L40_0 rfl 0 (by decide) (by decide +kernel) rfl dX6_harmful_43 ?_
      refine z_cr (z_rV (As := []) (rest := [.int (nI i)]) (ci := 0) (q0 := 1) X J (cJx4a65c_size_8abf5_ok l E L40_1) (cwV 0 hts gX6_harmful_Jx4a65c_size_8abf5 rfl rfl rfl (by decide +kernel) ⟨Nat.le_of_ble_eq_true rfl, Nat.le_of_ble_eq_true rfl⟩) L40_1 rfl rfl rfl hl.1 rfl (Nat.le_of_ble_eq_true rfl) dX6_harmful_46 ⟨Nat.le_of_ble_eq_true rfl, Nat.le_of_ble_eq_true rfl⟩) (fun r46 e_r46 => ?_)
      subst e_r46
      refine lv_icmp_ge (tgt := 86) hx hb dX6_harmful_49 (by decide) (fun cz49 => by exact (nI_ge (by omega) (by omega) cz49).elim) (fun cz49 => ?_)
      refine lv_aload_n hx hb dX6_harmful_52 rfl (lv_at hl 4 rfl) ?_
      refine lv_iload hx hb dX6_harmful_53 (lv_at hl 0 rfl) ?_
      refine z_cv J (z_rV (As := [.int (nI i)]) (rest := []) (ci := 7) (q0 := 0) X J (cX6_screenAllBut_ok l E L40_0 L40_1 L40_7 L40_8 L40_9 (hF.keep hk (by decide)) (by first | assumption | omega | decide) (by first | assumption | omega | decide)) (cwV 1 hts gX6_harmful_X6_screenAllBut rfl rfl rfl (by decide +kernel) ⟨Nat.le_of_ble_eq_true rfl, Nat.le_of_ble_eq_true rfl⟩) L40_0 rfl rfl rfl hl.1 rfl (Nat.le_of_ble_eq_true rfl) dX6_harmful_55 ⟨Nat.le_of_ble_eq_true rfl, Nat.le_of_ble_eq_true rfl⟩) (fun ws_7 H locs hp9 J => ?_)
      obtain ⟨k7, G7_a0, G7_a1⟩ := hp9
      have hk := hk.trans (k7.mono (by decide))
      have G7_0 := k7.2 0 _ (by decide) L40_0
      have G7_1 := k7.2 1 _ (by decide) L40_1
      have G7_2 := k7.2 2 _ (by decide) L40_2
      have G7_3 := k7.2 4 _ (by decide) L40_3
      have G7_4 := k7.2 5 _ (by decide) L40_4
      have G7_5 := k7.2 6 _ (by decide) L40_5
      have G7_6 := k7.2 7 _ (by decide) L40_6
      have G7_7 := k7.2 8 _ (by decide) L40_7
      have G7_10 := k7.2 pn_3 _ (by simp only [List.mem_cons, List.not_mem_nil, or_false]; omega) L40_10
      refine lv_aload_n hx hb dX6_harmful_58 rfl (lv_at hl 4 rfl) ?_
      refine lv_aload_n hx hb dX6_harmful_59 rfl (lv_at hl 3 rfl) ?_
      refine z_ci J (z_rV (As := [.ref q8]) (rest := []) (ci := 7) (q0 := 0) X J (cX6_blockedAfterAdvice_ok l E G7_0 G7_2 G7_3 G7_4 G7_5 G7_6 G7_7 G7_a0 G7_a1 G7_10 (hR.keep hk (by decide)) (by first | assumption | omega | decide)) (cwV 1 hts gX6_harmful_X6_blockedAfterAdvice rfl rfl rfl (by decide +kernel) ⟨Nat.le_of_ble_eq_true rfl, Nat.le_of_ble_eq_true rfl⟩) G7_0 rfl rfl rfl hl.1 rfl (Nat.le_of_ble_eq_true rfl) dX6_harmful_60 ⟨Nat.le_of_ble_eq_true rfl, Nat.le_of_ble_eq_true rfl⟩) (fun r60 ws_8 H locs hp9 J => ?_)
      obtain ⟨k8, G8_a0, G8_a1, e_r60⟩ := hp9
      have hk := hk.transN k8 (by intro q9 hq9; simp only [List.mem_cons, List.not_mem_nil, or_false] at hq9 ⊢; omega)
      have G8_0 := k8.2 0 _ (by simp only [List.mem_cons, List.not_mem_nil, or_false]; omega) G7_0
      have G8_1 := k8.2 1 _ (by simp only [List.mem_cons, List.not_mem_nil, or_false]; omega) G7_1
      have G8_2 := k8.2 2 _ (by simp only [List.mem_cons, List.not_mem_nil, or_false]; omega) G7_2
      have G8_3 := k8.2 4 _ (by simp only [List.mem_cons, List.not_mem_nil, or_false]; omega) G7_3
      have G8_4 := k8.2 5 _ (by simp only [List.mem_cons, List.not_mem_nil, or_false]; omega) G7_4
      have G8_5 := k8.2 6 _ (by simp only [List.mem_cons, List.not_mem_nil, or_false]; omega) G7_5
      have G8_7 := k8.2 8 _ (by simp only [List.mem_cons, List.not_mem_nil, or_false]; omega) G7_7
      have G8_8 := k8.2 9 _ (by simp only [List.mem_cons, List.not_mem_nil, or_false]; omega) G7_a0
      have G8_9 := k8.2 10 _ (by simp only [List.mem_cons, List.not_mem_nil, or_false]; omega) G7_a1
      subst e_r60
      refine W.eq (g2 := F0 m 63 ls [.int (harF fa nf stg sup wd sn rd ri lim nr i)]) (congrArg (fun z9 : Int32 => F0 m 63 ls [.int z9]) (show (allB (boS stg sup ((hgS fa (nI i) nf).1) ((hgS fa (nI i) nf).2) (wfc wd) (wnc wd) (wnl wd) (sn, ca0, sh0, sw0, ho0) 4).2.1 rd ri lim nr : Int32) = harF fa nf stg sup wd sn rd ri lim nr i from harA_of)) ?_
      refine lv_istore (lv' := [(7, .int (harF fa nf stg sup wd sn rd ri lim nr i)), (6, .int (nI i)), (5, .int ((harS fa nf stg sup wd sn rd ri lim nr i).2)), (4, .int ((harS fa nf stg sup wd sn rd ri lim nr i).1)), (3, .ref q8), (0, .ref x), (1, .int wd), (2, .int stg)]) hx hb dX6_harmful_63 hl (by decide) rfl (fun ls hl => ?_)
      refine lv_iload hx hb dX6_harmful_65 (lv_at hl 0 rfl) ?_
      refine lv_iload hx hb dX6_harmful_67 (lv_at hl 2 rfl) ?_
      refine lv_icmp_ge (tgt := 80) hx hb dX6_harmful_69 (by decide) (fun cz69 => ?_) (fun cz69 => ?_)
      · refine lv_iinc (v := nI (i + 1)) (lv' := [(6, .int (nI (i + 1))), (7, .int (harF fa nf stg sup wd sn rd ri lim nr i)), (5, .int ((harS fa nf stg sup wd sn rd ri lim nr i).2)), (4, .int ((harS fa nf stg sup wd sn rd ri lim nr i).1)), (3, .ref q8), (0, .ref x), (1, .int wd), (2, .int stg)]) hx hb dX6_harmful_80 hl (k := 1) rfl (nI_1 i) (by decide) rfl (fun ls hl => ?_)
        refine lv_goto (tgt := 40) hx hb dX6_harmful_83 (by decide) ?_
        have hl : lv_has ls 8 [(6, .int (nI (i + 1))), (7, .int (harF fa nf stg sup wd sn rd ri lim nr i)), (5, .int ((harS fa nf stg sup wd sn rd ri lim nr (i + 1)).2)), (4, .int ((harS fa nf stg sup wd sn rd ri lim nr i).1)), (3, .ref q8), (0, .ref x), (1, .int wd), (2, .int stg)] := lv_repl hl (congrArg (fun z9 : Int32 => ([(6, .int (nI (i + 1))), (7, .int (harF fa nf stg sup wd sn rd ri lim nr i)), (5, .int z9), (4, .int ((harS fa nf stg sup wd sn rd ri lim nr i).1)), (3, .ref q8), (0, .ref x), (1, .int wd), (2, .int stg)] : List (Nat × Value))) (show ((harS fa nf stg sup wd sn rd ri lim nr i).2 : Int32) = (harS fa nf stg sup wd sn rd ri lim nr (i + 1)).2 from (congrArg Prod.snd (harG_f (F := harF fa nf stg sup wd sn rd ri lim nr) (Int32.not_lt.mpr cz69))).symm))
        have hl : lv_has ls 8 [(6, .int (nI (i + 1))), (7, .int (harF fa nf stg sup wd sn rd ri lim nr i)), (5, .int ((harS fa nf stg sup wd sn rd ri lim nr (i + 1)).2)), (4, .int ((harS fa nf stg sup wd sn rd ri lim nr (i + 1)).1)), (3, .ref q8), (0, .ref x), (1, .int wd), (2, .int stg)] := lv_repl hl (congrArg (fun z9 : Int32 => ([(6, .int (nI (i + 1))), (7, .int (harF fa nf stg sup wd sn rd ri lim nr i)), (5, .int ((harS fa nf stg sup wd sn rd ri lim nr (i + 1)).2)), (4, .int z9), (3, .ref q8), (0, .ref x), (1, .int wd), (2, .int stg)] : List (Nat × Value))) (show ((harS fa nf stg sup wd sn rd ri lim nr i).1 : Int32) = (harS fa nf stg sup wd sn rd ri lim nr (i + 1)).1 from (congrArg Prod.fst (harG_f (F := harF fa nf stg sup wd sn rd ri lim nr) (Int32.not_lt.mpr cz69))).symm))
        exact ih_40 (i + 1) _ _ _ _ _ _ _ (by omega) _ _ _ _ hk G8_0 G8_1 G8_2 G8_3 G8_4 G8_5 G8_a1 G8_7 G8_8 G8_9 G8_a0 J (lv_sub hl [0, 2, 3, 4, 5, 6, 7] rfl)
      · refine lv_iload hx hb dX6_harmful_72 (lv_at hl 0 rfl) ?_
        refine lv_istore (lv' := [(5, .int (harF fa nf stg sup wd sn rd ri lim nr i)), (7, .int (harF fa nf stg sup wd sn rd ri lim nr i)), (6, .int (nI i)), (4, .int ((harS fa nf stg sup wd sn rd ri lim nr i).1)), (3, .ref q8), (0, .ref x), (1, .int wd), (2, .int stg)]) hx hb dX6_harmful_74 hl (by decide) rfl (fun ls hl => ?_)
        refine lv_iload hx hb dX6_harmful_76 (lv_at hl 2 rfl) ?_
        refine lv_istore (lv' := [(4, .int (nI i)), (5, .int (harF fa nf stg sup wd sn rd ri lim nr i)), (7, .int (harF fa nf stg sup wd sn rd ri lim nr i)), (6, .int (nI i)), (3, .ref q8), (0, .ref x), (1, .int wd), (2, .int stg)]) hx hb dX6_harmful_78 hl (by decide) rfl (fun ls hl => ?_)
        refine lv_iinc (v := nI (i + 1)) (lv' := [(6, .int (nI (i + 1))), (4, .int (nI i)), (5, .int (harF fa nf stg sup wd sn rd ri lim nr i)), (7, .int (harF fa nf stg sup wd sn rd ri lim nr i)), (3, .ref q8), (0, .ref x), (1, .int wd), (2, .int stg)]) hx hb dX6_harmful_80 hl (k := 3) rfl (nI_1 i) (by decide) rfl (fun ls hl => ?_)
        refine lv_goto (tgt := 40) hx hb dX6_harmful_83 (by decide) ?_
        have hl : lv_has ls 8 [(6, .int (nI (i + 1))), (4, .int ((harS fa nf stg sup wd sn rd ri lim nr (i + 1)).1)), (5, .int (harF fa nf stg sup wd sn rd ri lim nr i)), (7, .int (harF fa nf stg sup wd sn rd ri lim nr i)), (3, .ref q8), (0, .ref x), (1, .int wd), (2, .int stg)] := lv_repl hl (congrArg (fun z9 : Int32 => ([(6, .int (nI (i + 1))), (4, .int z9), (5, .int (harF fa nf stg sup wd sn rd ri lim nr i)), (7, .int (harF fa nf stg sup wd sn rd ri lim nr i)), (3, .ref q8), (0, .ref x), (1, .int wd), (2, .int stg)] : List (Nat × Value))) (show (nI i : Int32) = (harS fa nf stg sup wd sn rd ri lim nr (i + 1)).1 from (congrArg Prod.fst (harG_t (F := harF fa nf stg sup wd sn rd ri lim nr) (Int32.not_le.mp cz69))).symm))
        have hl : lv_has ls 8 [(6, .int (nI (i + 1))), (4, .int ((harS fa nf stg sup wd sn rd ri lim nr (i + 1)).1)), (5, .int ((harS fa nf stg sup wd sn rd ri lim nr (i + 1)).2)), (7, .int (harF fa nf stg sup wd sn rd ri lim nr i)), (3, .ref q8), (0, .ref x), (1, .int wd), (2, .int stg)] := lv_repl hl (congrArg (fun z9 : Int32 => ([(6, .int (nI (i + 1))), (4, .int ((harS fa nf stg sup wd sn rd ri lim nr (i + 1)).1)), (5, .int z9), (7, .int (harF fa nf stg sup wd sn rd ri lim nr i)), (3, .ref q8), (0, .ref x), (1, .int wd), (2, .int stg)] : List (Nat × Value))) (show (harF fa nf stg sup wd sn rd ri lim nr i : Int32) = (harS fa nf stg sup wd sn rd ri lim nr (i + 1)).2 from (congrArg Prod.snd (harG_t (F := harF fa nf stg sup wd sn rd ri lim nr) (Int32.not_le.mp cz69))).symm))
        exact ih_40 (i + 1) _ _ _ _ _ _ _ (by omega) _ _ _ _ hk G8_0 G8_1 G8_2 G8_3 G8_4 G8_5 G8_a1 G8_7 G8_8 G8_9 G8_a0 J (lv_sub hl [0, 2, 1, 4, 5, 6, 7] rfl)
  exact loop_40 nf 0 _ _ _ _ _ _ _ (by omega) _ _ _ _ hk G6_0 G6_1 G6_2 G6_3 G6_4 G6_5 G6_a1 G6_7 G6_8 G6_9 G6_a0 J (lv_sub hl [0, 1, 2, 3, 4, 5, 6] rfl)
set_option maxHeartbeats 400000 in
set_option maxRecDepth 100000 in
theorem cX6_advise_ok (l : Launch) (hflags : l.flags = flags0) (E : zG) {ws : va_W} {x fl rl wh gr gra tr tra sc ha va ea eb nf nr : Nat} {mc1 mc2 lim sup off plo hrs : Int32} {fa rd ri sn t9 hf gf : Nat → Int32} {wd stg he : Int32} (Fa0 : ws[0]? = some (x, .inr (7, [.ref fl, .ref rl, .ref wh, .ref gr, .ref tr, .ref sc, .int lim, .int sup, .int off, .int plo, .int hrs]))) (Fa1 : ws[1]? = some (fl, .inr (0, [.int mc1, .ref ea, .int (nI nf)]))) (Fa2 : ws[2]? = some (rl, .inr (0, [.int mc2, .ref eb, .int (nI nr)]))) (Fa3 : ws[4]? = some (gr, .inr (2, [.ref gra]))) (Fa4 : ws[5]? = some (gra, zI4 E 400 sn)) (Fa5 : ws[6]? = some (tr, .inr (2, [.ref tra]))) (Fa6 : ws[7]? = some (tra, zI4 E 400 t9)) (Fa7 : ws[8]? = some (sc, .inr (4, [.ref ha, .ref va]))) (Fa8 : ws[9]? = some (ha, zI4 E 400 hf)) (Fa9 : ws[10]? = some (va, zI4 E 400 gf)) (hF : FS E ws fa ea nf) (hnf : nf ≤ 10) (hok : ∀ j, j < nf → okF fa j) (hR : RS E ws rd ri eb nr) (hnr : nr ≤ 4) : vx_Met l yX6_advise wsX6_advise ({ frames := 8, cells := 30, slots := 120, locals := 154 } : Room) (va_Pc [.ref x, .int wd, .int stg, .int he] (zY E ws)) (va_Qi (fun (r : Int32) (ws' : va_W) => (zK [7, 9, 10] ws ws') ∧ (∃ (t2 : Nat → Int32) (h2 : Nat → Int32) (g2 : Nat → Int32), (ws'[7]? = some (tra, zI4 E 400 t2)) ∧ (ws'[9]? = some (ha, zI4 E 400 h2)) ∧ (ws'[10]? = some (va, zI4 E 400 g2)) ∧ ((kAdvise wd stg he) = 0 ∧ r = (advC (advK (advD wd) fa nf he stg sup wd sn rd ri lim nr) 20).1))) (zI E) (zA E)) (zX E ws (fun nm => ((kAdvise wd stg he) = 1 ∧ nm = "java/lang/IndexOutOfBoundsException") ∨ ((kAdvise wd stg he) = 2 ∧ nm = "java/lang/IllegalArgumentException"))) 30 120 (zA E) := by
  refine vx_ofW (cc := cX6_advise) (maxL := 9) (ret := (some .int)) (by decide) rfl ?_
  intro p e s m args below meth c s₁ B hml htab hv
  obtain ⟨hargs9, hI, hRz⟩ := hv
  have hx := B.exec
  have hb := B.bytes
  have hr := B.returns
  have hlocks := B.notSynchronized
  have X : zC E p m c cX6_advise 9 s args wsX6_advise RX6 := z_open B hml hI
  have hown := X.1.2.2.2.1
  have hts := X.1.2.2.2.2
  have J := hI.J
  have hi_X5 : ∀ w ∈ wsX50, w ∈ wsX6_advise := by decide +kernel
  have hi_X6 : ∀ w ∈ wsX60, w ∈ wsX6_advise := by decide +kernel
  have hk : zK [7, 9, 10] ws ws := zK.rf
  have hl := lv_entry ([.ref x, .int wd, .int stg, .int he]) (n := 9) (Nat.le_of_ble_eq_true rfl)
  rw [show entryFrame m args 9 = entryFrame m ([.ref x, .int wd, .int stg, .int he] : List Value).toArray 9 from by rw [hargs9], lg_entry_eq]
  generalize (lg_sl ([.ref x, .int wd, .int stg, .int he]) ++ List.replicate (9 - (lg_sl ([.ref x, .int wd, .int stg, .int he])).length) Slot.unset).toArray = ls at hl ⊢
  have hl : lv_has ls 9 [(0, .ref x), (1, .int wd), (2, .int stg), (3, .int he)] := hl
  generalize hQ : (vx_MQ below (va_Qi (fun (r : Int32) (ws' : va_W) => (zK [7, 9, 10] ws ws') ∧ (∃ (t2 : Nat → Int32) (h2 : Nat → Int32) (g2 : Nat → Int32), (ws'[7]? = some (tra, zI4 E 400 t2)) ∧ (ws'[9]? = some (ha, zI4 E 400 h2)) ∧ (ws'[10]? = some (va, zI4 E 400 g2)) ∧ ((kAdvise wd stg he) = 0 ∧ r = (advC (advK (advD wd) fa nf he stg sup wd sn rd ri lim nr) 20).1))) (zI E) (zA E)) (zX E ws (fun nm => ((kAdvise wd stg he) = 1 ∧ nm = "java/lang/IndexOutOfBoundsException") ∨ ((kAdvise wd stg he) = 2 ∧ nm = "java/lang/IllegalArgumentException"))) args s 30 120 (zA E)) = QQ
  refine lv_iload_n hx hb dX6_advise_0 rfl (lv_at hl 1 rfl) ?_
  refine z_xv J (z_yS (As := [.int wd]) (rest := []) X hRz J (cX6_needWind_ok l hflags E) (va_cwS 1 hts gX6_advise_X6_needWind rfl rfl rfl (by decide +kernel) ⟨Nat.le_of_ble_eq_true rfl, Nat.le_of_ble_eq_true rfl⟩) rfl hl.1 rfl (Nat.le_of_ble_eq_true rfl) dX6_advise_1 ⟨Nat.le_of_ble_eq_true rfl, Nat.le_of_ble_eq_true rfl⟩) (fun nm ce q9 H locs hp9 J h1 h2 h3 => ?_) (fun ws_1 H locs hp9 J => ?_)
  · subst hQ
    exact z_out X J htab hlocks h1 h2 h3 (by exact Or.inl ⟨if_pos hp9.1, hp9.2⟩) (Nat.le_of_ble_eq_true rfl) (Nat.le_of_ble_eq_true rfl)
  obtain ⟨rfl, e_r1⟩ := hp9
  refine lv_iload_n hx hb dX6_advise_4 rfl (lv_at hl 2 rfl) ?_
  refine z_xv J (z_yS (As := [.int stg]) (rest := []) X hRz J (cX6_needStrength_ok l hflags E) (va_cwS 1 hts gX6_advise_X6_needStrength rfl rfl rfl (by decide +kernel) ⟨Nat.le_of_ble_eq_true rfl, Nat.le_of_ble_eq_true rfl⟩) rfl hl.1 rfl (Nat.le_of_ble_eq_true rfl) dX6_advise_5 ⟨Nat.le_of_ble_eq_true rfl, Nat.le_of_ble_eq_true rfl⟩) (fun nm ce q9 H locs hp9 J h1 h2 h3 => ?_) (fun ws_2 H locs hp9 J => ?_)
  · subst hQ
    exact z_out X J htab hlocks h1 h2 h3 (by exact Or.inr ⟨(if_neg (fun q => q e_r1)).trans (if_pos (Or.inl hp9.1)), hp9.2⟩) (Nat.le_of_ble_eq_true rfl) (Nat.le_of_ble_eq_true rfl)
  obtain ⟨rfl, e_r5⟩ := hp9
  refine lv_iload_n hx hb dX6_advise_8 rfl (lv_at hl 3 rfl) ?_
  refine z_xv J (z_yS (As := [.int he]) (rest := []) X hRz J (cX6_needHeight_ok l hflags E) (va_cwS 1 hts gX6_advise_X6_needHeight rfl rfl rfl (by decide +kernel) ⟨Nat.le_of_ble_eq_true rfl, Nat.le_of_ble_eq_true rfl⟩) rfl hl.1 rfl (Nat.le_of_ble_eq_true rfl) dX6_advise_9 ⟨Nat.le_of_ble_eq_true rfl, Nat.le_of_ble_eq_true rfl⟩) (fun nm ce q9 H locs hp9 J h1 h2 h3 => ?_) (fun ws_3 H locs hp9 J => ?_)
  · subst hQ
    exact z_out X J htab hlocks h1 h2 h3 (by exact Or.inr ⟨(if_neg (fun q => q e_r1)).trans (if_pos (Or.inr hp9.1)), hp9.2⟩) (Nat.le_of_ble_eq_true rfl) (Nat.le_of_ble_eq_true rfl)
  obtain ⟨rfl, e_r9⟩ := hp9
  have hwd9 := inR03 e_r1
  refine z_new (C := RX5) (T := TX5) (N := 10) (ci := 6) (fs := [.int 0, .int 0, .int 0, .int 0, .int 0, .int 0, .int 0, .int 0, .int 0, .int 0]) X J hi_X5 tyX5 tyX5_ok (by decide +kernel) (by decide +kernel) (by decide +kernel) rfl (fun j hj => by rcases (show j = 0 ∨ j = 1 ∨ j = 2 ∨ j = 3 ∨ j = 4 ∨ j = 5 ∨ j = 6 ∨ j = 7 ∨ j = 8 ∨ j = 9 by omega) with rfl | rfl | rfl | rfl | rfl | rfl | rfl | rfl | rfl | rfl <;> rfl) (Nat.le_of_ble_eq_true rfl) (Nat.le_of_ble_eq_true rfl) dX6_advise_12 (fun q12 H J => ?_)
  have lp4 := hk.1
  have hk := hk.trans (zK.app (more := [(q12, .inr (6, [.int 0, .int 0, .int 0, .int 0, .int 0, .int 0, .int 0, .int 0, .int 0, .int 0]))]))
  have bG4_0 := zlt Fa0
  have G4_0 := zapp (x := (q12, .inr (6, [.int 0, .int 0, .int 0, .int 0, .int 0, .int 0, .int 0, .int 0, .int 0, .int 0]))) Fa0
  have bG4_1 := zlt Fa1
  have G4_1 := zapp (x := (q12, .inr (6, [.int 0, .int 0, .int 0, .int 0, .int 0, .int 0, .int 0, .int 0, .int 0, .int 0]))) Fa1
  have bG4_2 := zlt Fa2
  have G4_2 := zapp (x := (q12, .inr (6, [.int 0, .int 0, .int 0, .int 0, .int 0, .int 0, .int 0, .int 0, .int 0, .int 0]))) Fa2
  have bG4_3 := zlt Fa3
  have G4_3 := zapp (x := (q12, .inr (6, [.int 0, .int 0, .int 0, .int 0, .int 0, .int 0, .int 0, .int 0, .int 0, .int 0]))) Fa3
  have bG4_4 := zlt Fa4
  have G4_4 := zapp (x := (q12, .inr (6, [.int 0, .int 0, .int 0, .int 0, .int 0, .int 0, .int 0, .int 0, .int 0, .int 0]))) Fa4
  have bG4_5 := zlt Fa5
  have G4_5 := zapp (x := (q12, .inr (6, [.int 0, .int 0, .int 0, .int 0, .int 0, .int 0, .int 0, .int 0, .int 0, .int 0]))) Fa5
  have bG4_6 := zlt Fa6
  have G4_6 := zapp (x := (q12, .inr (6, [.int 0, .int 0, .int 0, .int 0, .int 0, .int 0, .int 0, .int 0, .int 0, .int 0]))) Fa6
  have bG4_7 := zlt Fa7
  have G4_7 := zapp (x := (q12, .inr (6, [.int 0, .int 0, .int 0, .int 0, .int 0, .int 0, .int 0, .int 0, .int 0, .int 0]))) Fa7
  have bG4_8 := zlt Fa8
  have G4_8 := zapp (x := (q12, .inr (6, [.int 0, .int 0, .int 0, .int 0, .int 0, .int 0, .int 0, .int 0, .int 0, .int 0]))) Fa8
  have bG4_9 := zlt Fa9
  have G4_9 := zapp (x := (q12, .inr (6, [.int 0, .int 0, .int 0, .int 0, .int 0, .int 0, .int 0, .int 0, .int 0, .int 0]))) Fa9
  have G4_n := zapp_new (ws := ws) (x := (q12, .inr (6, [.int 0, .int 0, .int 0, .int 0, .int 0, .int 0, .int 0, .int 0, .int 0, .int 0])))
  generalize hws4 : ws ++ [(q12, .inr (6, [.int 0, .int 0, .int 0, .int 0, .int 0, .int 0, .int 0, .int 0, .int 0, .int 0]))] = ws_4 at J hk G4_0 G4_1 G4_2 G4_3 G4_4 G4_5 G4_6 G4_7 G4_8 G4_9 G4_n
  generalize hpn4 : ws.length = pn_4 at G4_n lp4 bG4_0 bG4_1 bG4_2 bG4_3 bG4_4 bG4_5 bG4_6 bG4_7 bG4_8 bG4_9
  refine lv_dup hx hb dX6_advise_15 rfl ?_
  refine lv_iload_n hx hb dX6_advise_16 rfl (lv_at hl 1 rfl) ?_
  refine lv_iload_n hx hb dX6_advise_17 rfl (lv_at hl 2 rfl) ?_
  refine lv_aload_n hx hb dX6_advise_18 rfl (lv_at hl 0 rfl) ?_
  refine z_get (C := RX6) (T := TX6) (N := 11) (ci := 7) (v := .int sup) X J hi_X6 0 G4_0 rfl 7 (by decide) (by decide +kernel) rfl dX6_advise_19 ?_
  refine z_cv J (z_rI (As := [.int wd, .int stg, .int sup]) (rest := [.ref q12]) X J (cX5_init_ok l E G4_n hwd9) (cwI 3 hts gX6_advise_X5_init rfl rfl rfl (hts (.initialized RX5) (by decide +kernel)) (hts (.methodLink RX6 149 yX5_init) (by decide +kernel)) (hts (.instanceMethod yX5_init) (by decide +kernel)) rfl (by decide +kernel) ⟨Nat.le_of_ble_eq_true rfl, Nat.le_of_ble_eq_true rfl⟩) rfl hl.1 rfl (Nat.le_of_ble_eq_true rfl) dX6_advise_22 ⟨Nat.le_of_ble_eq_true rfl, Nat.le_of_ble_eq_true rfl⟩) (fun ws_5 H locs hp9 J => ?_)
  obtain ⟨k5, hl9_5, G5_a0⟩ := hp9
  have hk := hk.transN k5 (by intro q9 hq9; simp only [List.mem_cons, List.not_mem_nil, or_false] at hq9 ⊢; omega)
  have G5_0 := k5.2 0 _ (by simp only [List.mem_cons, List.not_mem_nil, or_false]; omega) G4_0
  have G5_1 := k5.2 1 _ (by simp only [List.mem_cons, List.not_mem_nil, or_false]; omega) G4_1
  have G5_2 := k5.2 2 _ (by simp only [List.mem_cons, List.not_mem_nil, or_false]; omega) G4_2
  have G5_3 := k5.2 4 _ (by simp only [List.mem_cons, List.not_mem_nil, or_false]; omega) G4_3
  have G5_4 := k5.2 5 _ (by simp only [List.mem_cons, List.not_mem_nil, or_false]; omega) G4_4
  have G5_5 := k5.2 6 _ (by simp only [List.mem_cons, List.not_mem_nil, or_false]; omega) G4_5
  have G5_6 := k5.2 7 _ (by simp only [List.mem_cons, List.not_mem_nil, or_false]; omega) G4_6
  have G5_7 := k5.2 8 _ (by simp only [List.mem_cons, List.not_mem_nil, or_false]; omega) G4_7
  have G5_8 := k5.2 9 _ (by simp only [List.mem_cons, List.not_mem_nil, or_false]; omega) G4_8
  have G5_9 := k5.2 10 _ (by simp only [List.mem_cons, List.not_mem_nil, or_false]; omega) G4_9
  refine lv_astore (lv' := [(4, .ref q12), (0, .ref x), (1, .int wd), (2, .int stg), (3, .int he)]) hx hb dX6_advise_25 hl (by decide) rfl (fun ls hl => ?_)
  refine lv_iconst (v := (advC (advK (advD wd) fa nf he stg sup wd sn rd ri lim nr) 0).1) hx hb dX6_advise_27 rfl ?_
  refine lv_istore (lv' := [(5, .int ((advC (advK (advD wd) fa nf he stg sup wd sn rd ri lim nr) 0).1)), (4, .ref q12), (0, .ref x), (1, .int wd), (2, .int stg), (3, .int he)]) hx hb dX6_advise_28 hl (by decide) rfl (fun ls hl => ?_)
  refine lv_bipush (v := (advC (advK (advD wd) fa nf he stg sup wd sn rd ri lim nr) 0).2) hx hb dX6_advise_30 rfl ?_
  refine lv_istore (lv' := [(6, .int ((advC (advK (advD wd) fa nf he stg sup wd sn rd ri lim nr) 0).2)), (5, .int ((advC (advK (advD wd) fa nf he stg sup wd sn rd ri lim nr) 0).1)), (4, .ref q12), (0, .ref x), (1, .int wd), (2, .int stg), (3, .int he)]) hx hb dX6_advise_32 hl (by decide) rfl (fun ls hl => ?_)
  by_cases hwn : wdn wd = 0
  · have hD : advD wd = 1 := if_pos hwn
    refine lv_iconst (v := nI 0) hx hb dX6_advise_34 rfl ?_
    refine lv_istore (lv' := [(7, .int (nI 0)), (6, .int ((advC (advK (advD wd) fa nf he stg sup wd sn rd ri lim nr) 0).2)), (5, .int ((advC (advK (advD wd) fa nf he stg sup wd sn rd ri lim nr) 0).1)), (4, .ref q12), (0, .ref x), (1, .int wd), (2, .int stg), (3, .int he)]) hx hb dX6_advise_35 hl (by decide) rfl (fun ls hl => ?_)
    have loop_37 : ∀ (k9 i : Nat) (t0 : Nat → Int32) (h0 : Nat → Int32) (g0 : Nat → Int32) (ca0 : Int32) (sh0 : Int32) (sw0 : Int32) (ho0 : Int32), i + k9 = 20 → ∀ (wl37 : va_W) (H : Heap) (locs : List Loc) (ls : Array Slot), zK [7, 9, 10] ws wl37 → wl37[0]? = some (x, .inr (7, [.ref fl, .ref rl, .ref wh, .ref gr, .ref tr, .ref sc, .int lim, .int sup, .int off, .int plo, .int hrs])) → wl37[1]? = some (fl, .inr (0, [.int mc1, .ref ea, .int (nI nf)])) → wl37[2]? = some (rl, .inr (0, [.int mc2, .ref eb, .int (nI nr)])) → wl37[4]? = some (gr, .inr (2, [.ref gra])) → wl37[5]? = some (gra, zI4 E 400 sn) → wl37[6]? = some (tr, .inr (2, [.ref tra])) → wl37[7]? = some (tra, zI4 E 400 t0) → wl37[8]? = some (sc, .inr (4, [.ref ha, .ref va])) → wl37[9]? = some (ha, zI4 E 400 h0) → wl37[10]? = some (va, zI4 E 400 g0) → wl37[pn_4]? = some (q12, .inr (6, [.int (wdn wd), .int stg, .int sup, .int (wfc wd), .int (wnc wd), .int (wnl wd), .int ca0, .int sh0, .int sw0, .int ho0])) → zJ E wl37 s H locs → lv_has ls 9 [(7, .int (nI i)), (6, .int ((advC (advK (advD wd) fa nf he stg sup wd sn rd ri lim nr) i).2)), (5, .int ((advC (advK (advD wd) fa nf he stg sup wd sn rd ri lim nr) i).1)), (4, .ref q12), (0, .ref x), (1, .int wd), (2, .int stg), (3, .int he)] → W p l e (headSpec wsX6_advise ({ frames := 8, cells := 30, slots := 120, locals := 154 } : Room)).room s m args below meth c H locs (4 + i) (28 + 3 * i) QQ (F0 m 37 ls []) := by
      intro k9
      induction k9 with
      | zero =>
        intro i t0 h0 g0 ca0 sh0 sw0 ho0 hik wl37 H locs ls hk L37_0 L37_1 L37_2 L37_3 L37_4 L37_5 L37_6 L37_7 L37_8 L37_9 L37_10 J hl
        obtain rfl : 20 = i := by omega
        refine lv_iload hx hb dX6_advise_37 (lv_at hl 0 rfl) ?_
        refine lv_bipush (v := nI 20) hx hb dX6_advise_39 (by decide) ?_
        refine lv_icmp_ge (tgt := 105) hx hb dX6_advise_41 (by decide) (fun cz41 => ?_) (fun cz41 => by exact (cz41 (nI_le (Nat.le_refl _) (by omega))).elim)
        refine lv_iload hx hb dX6_advise_105 (lv_at hl 2 rfl) ?_
        refine W.widen (k := 30) (n := 120) (by omega) (by omega) ?_
        subst hQ
        refine vx_ret ?_
        exact W.iret (v := (advC (advK (advD wd) fa nf he stg sup wd sn rd ri lim nr) 20).1) hx hb hr (fun t ht hW => ⟨⟨(advC (advK (advD wd) fa nf he stg sup wd sn rd ri lim nr) 20).1, wl37, rfl, ⟨hk, ⟨t0, h0, g0, L37_6, L37_8, L37_9, (by exact ⟨(if_neg (fun q => q e_r1)).trans (if_neg (not_or_e e_r5 e_r9)), rfl⟩)⟩⟩, J.I X ht hW.alike⟩, J.F ht⟩) J.locs dX6_advise_107
      | succ k9 ih_37 =>
        intro i t0 h0 g0 ca0 sh0 sw0 ho0 hik wl37 H locs ls hk L37_0 L37_1 L37_2 L37_3 L37_4 L37_5 L37_6 L37_7 L37_8 L37_9 L37_10 J hl
        refine lv_iload hx hb dX6_advise_37 (lv_at hl 0 rfl) ?_
        refine lv_bipush (v := nI 20) hx hb dX6_advise_39 (by decide) ?_
        refine lv_icmp_ge (tgt := 105) hx hb dX6_advise_41 (by decide) (fun cz41 => by exact (nI_ge (by omega) (by omega) cz41).elim) (fun cz41 => ?_)
        refine lv_aload_n hx hb dX6_advise_44 rfl (lv_at hl 4 rfl) ?_
        refine lv_iconst (v := (-1)) hx hb dX6_advise_45 (by decide) ?_
        refine z_cv J (z_rV (As := [.int (-1)]) (rest := []) (ci := 7) (q0 := 0) X J (cX6_screenAllBut_ok l E L37_0 L37_1 L37_7 L37_8 L37_9 (hF.keep hk (by decide)) (by first | assumption | omega | decide) (by first | assumption | omega | decide)) (cwV 1 hts gX6_advise_X6_screenAllBut rfl rfl rfl (by decide +kernel) ⟨Nat.le_of_ble_eq_true rfl, Nat.le_of_ble_eq_true rfl⟩) L37_0 rfl rfl rfl hl.1 rfl (Nat.le_of_ble_eq_true rfl) dX6_advise_46 ⟨by show _ ≤ 30; omega, by show _ ≤ 120; omega⟩) (fun ws_6 H locs hp9 J => ?_)
        obtain ⟨k6, G6_a0, G6_a1⟩ := hp9
        have hk := hk.trans (k6.mono (by decide))
        have G6_0 := k6.2 0 _ (by decide) L37_0
        have G6_1 := k6.2 1 _ (by decide) L37_1
        have G6_2 := k6.2 2 _ (by decide) L37_2
        have G6_3 := k6.2 4 _ (by decide) L37_3
        have G6_4 := k6.2 5 _ (by decide) L37_4
        have G6_5 := k6.2 6 _ (by decide) L37_5
        have G6_6 := k6.2 7 _ (by decide) L37_6
        have G6_7 := k6.2 8 _ (by decide) L37_7
        have G6_10 := k6.2 pn_4 _ (by simp only [List.mem_cons, List.not_mem_nil, or_false]; omega) L37_10
        refine lv_aload_n hx hb dX6_advise_49 rfl (lv_at hl 4 rfl) ?_
        refine z_get (C := RX6) (T := TX6) (N := 11) (ci := 7) (v := .ref sc) X J hi_X6 0 G6_0 rfl 5 (by decide) (by decide +kernel) rfl dX6_advise_50 ?_
        refine lv_aload hx hb dX6_advise_53 (lv_at hl 3 rfl) ?_
        refine z_get (C := RX5) (T := TX5) (N := 10) (ci := 6) (v := .int (wdn wd)) X J hi_X5 pn_4 G6_10 rfl 0 (by decide) (by decide +kernel) rfl dX6_advise_55 ?_
        refine lv_if_ne (tgt := 65) hx hb dX6_advise_58 (by decide) (fun cz58 => by exact (cz58 hwn).elim) (fun cz58 => ?_)
        refine lv_iconst (v := 1) hx hb dX6_advise_61 (by decide) ?_
        refine lv_goto (tgt := 66) hx hb dX6_advise_62 (by decide) ?_
        refine lv_iload hx hb dX6_advise_66 (lv_at hl 0 rfl) ?_
        refine z_cq J (z_rS (As := [.int 1, .int (nI i)]) (rest := [.ref sc]) X J (cX6_straight_ok l E (Or.inr rfl)) (va_cwS 2 hts gX6_advise_X6_straight rfl rfl rfl (by decide +kernel) ⟨Nat.le_of_ble_eq_true rfl, Nat.le_of_ble_eq_true rfl⟩) rfl hl.1 rfl (Nat.le_of_ble_eq_true rfl) dX6_advise_68 ⟨by show _ ≤ 30; omega, by show _ ≤ 120; omega⟩) (fun r68 ws_7 H locs hp9 J => ?_)
        obtain ⟨k7, ⟨sp_7, hlen7, N7_0, e_r68⟩⟩ := hp9
        have lp7 := hk.1
        have b_7_0 := zlt G6_0
        have b_7_1 := zlt G6_1
        have b_7_2 := zlt G6_2
        have b_7_3 := zlt G6_3
        have b_7_4 := zlt G6_4
        have b_7_5 := zlt G6_5
        have b_7_6 := zlt G6_6
        have b_7_7 := zlt G6_7
        have b_7_8 := zlt G6_a0
        have b_7_9 := zlt G6_a1
        have b_7_10 := zlt G6_10
        have hk := hk.trans (k7.mono (fun q9 hq9 => absurd hq9 List.not_mem_nil))
        have G7_0 := k7.2 0 _ List.not_mem_nil G6_0
        have G7_1 := k7.2 1 _ List.not_mem_nil G6_1
        have G7_2 := k7.2 2 _ List.not_mem_nil G6_2
        have G7_3 := k7.2 4 _ List.not_mem_nil G6_3
        have G7_4 := k7.2 5 _ List.not_mem_nil G6_4
        have G7_5 := k7.2 6 _ List.not_mem_nil G6_5
        have G7_6 := k7.2 7 _ List.not_mem_nil G6_6
        have G7_7 := k7.2 8 _ List.not_mem_nil G6_7
        have G7_8 := k7.2 9 _ List.not_mem_nil G6_a0
        have G7_9 := k7.2 10 _ List.not_mem_nil G6_a1
        have G7_10 := k7.2 pn_4 _ List.not_mem_nil G6_10
        obtain ⟨pn_7_0, hpn_7_0⟩ : ∃ z : Nat, z = ws_6.length + 0 := ⟨_, rfl⟩
        rw [← hpn_7_0] at N7_0
        subst e_r68
        refine W.eq (g2 := F0 m 71 ls [.ref sp_7, .ref sc]) rfl ?_
        refine lv_iload_n hx hb dX6_advise_71 rfl (lv_at hl 7 rfl) ?_
        refine lv_iconst (v := 0) hx hb dX6_advise_72 (by decide) ?_
        refine z_cv J (z_rV (As := [.ref sp_7, .int he, .int 0]) (rest := []) (ci := 4) (q0 := 8) X J (cX3_add_ok l E G7_7 G7_8 G7_9 N7_0 (by first | assumption | omega | decide) (by decide)) (cwV 3 hts gX6_advise_X3_add rfl rfl rfl (by decide +kernel) ⟨Nat.le_of_ble_eq_true rfl, Nat.le_of_ble_eq_true rfl⟩) G7_7 rfl rfl rfl hl.1 rfl (Nat.le_of_ble_eq_true rfl) dX6_advise_73 ⟨by show _ ≤ 30; omega, by show _ ≤ 120; omega⟩) (fun ws_8 H locs hp9 J => ?_)
        obtain ⟨k8, G8_a0, G8_a1⟩ := hp9
        have hk := hk.trans (k8.mono (by decide))
        have G8_0 := k8.2 0 _ (by decide) G7_0
        have G8_1 := k8.2 1 _ (by decide) G7_1
        have G8_2 := k8.2 2 _ (by decide) G7_2
        have G8_3 := k8.2 4 _ (by decide) G7_3
        have G8_4 := k8.2 5 _ (by decide) G7_4
        have G8_5 := k8.2 6 _ (by decide) G7_5
        have G8_6 := k8.2 7 _ (by decide) G7_6
        have G8_7 := k8.2 8 _ (by decide) G7_7
        have G8_10 := k8.2 pn_4 _ (by simp only [List.mem_cons, List.not_mem_nil, or_false]; omega) G7_10
        have G8_11 := k8.2 pn_7_0 _ (by simp only [List.mem_cons, List.not_mem_nil, or_false]; omega) N7_0
        refine lv_aload_n hx hb dX6_advise_76 rfl (lv_at hl 4 rfl) ?_
        refine lv_aload hx hb dX6_advise_77 (lv_at hl 3 rfl) ?_
        refine z_ci J (z_rV (As := [.ref q12]) (rest := []) (ci := 7) (q0 := 0) X J (cX6_blockedAfterAdvice_ok l E G8_0 G8_2 G8_3 G8_4 G8_5 G8_6 G8_7 G8_a0 G8_a1 G8_10 (hR.keep hk (by decide)) (by first | assumption | omega | decide)) (cwV 1 hts gX6_advise_X6_blockedAfterAdvice rfl rfl rfl (by decide +kernel) ⟨Nat.le_of_ble_eq_true rfl, Nat.le_of_ble_eq_true rfl⟩) G8_0 rfl rfl rfl hl.1 rfl (Nat.le_of_ble_eq_true rfl) dX6_advise_79 ⟨by show _ ≤ 30; omega, by show _ ≤ 120; omega⟩) (fun r79 ws_9 H locs hp9 J => ?_)
        obtain ⟨k9, G9_a0, G9_a1, e_r79⟩ := hp9
        have hk := hk.transN k9 (by intro q9 hq9; simp only [List.mem_cons, List.not_mem_nil, or_false] at hq9 ⊢; omega)
        have G9_0 := k9.2 0 _ (by simp only [List.mem_cons, List.not_mem_nil, or_false]; omega) G8_0
        have G9_1 := k9.2 1 _ (by simp only [List.mem_cons, List.not_mem_nil, or_false]; omega) G8_1
        have G9_2 := k9.2 2 _ (by simp only [List.mem_cons, List.not_mem_nil, or_false]; omega) G8_2
        have G9_3 := k9.2 4 _ (by simp only [List.mem_cons, List.not_mem_nil, or_false]; omega) G8_3
        have G9_4 := k9.2 5 _ (by simp only [List.mem_cons, List.not_mem_nil, or_false]; omega) G8_4
        have G9_5 := k9.2 6 _ (by simp only [List.mem_cons, List.not_mem_nil, or_false]; omega) G8_5
        have G9_7 := k9.2 8 _ (by simp only [List.mem_cons, List.not_mem_nil, or_false]; omega) G8_7
        have G9_8 := k9.2 9 _ (by simp only [List.mem_cons, List.not_mem_nil, or_false]; omega) G8_a0
        have G9_9 := k9.2 10 _ (by simp only [List.mem_cons, List.not_mem_nil, or_false]; omega) G8_a1
        have G9_11 := k9.2 pn_7_0 _ (by simp only [List.mem_cons, List.not_mem_nil, or_false]; omega) G8_11
        subst e_r79
        refine W.eq (g2 := F0 m 82 ls [.int (advK (advD wd) fa nf he stg sup wd sn rd ri lim nr i)]) (congrArg (fun z9 : Int32 => F0 m 82 ls [.int z9]) (show (allB (boS stg sup (scH ((hgS fa (-1) nf).1) (rfi 1 (nI i)) 1 he 20) (scV ((hgS fa (-1) nf).1) ((hgS fa (-1) nf).2) (rfi 1 (nI i)) 1 he 0 20) (wfc wd) (wnc wd) (wnl wd) (sn, ca0, sh0, sw0, ho0) 4).2.1 rd ri lim nr : Int32) = advK (advD wd) fa nf he stg sup wd sn rd ri lim nr i from (by rw [hD]; exact advK_of))) ?_
        refine lv_istore (lv' := [(8, .int (advK (advD wd) fa nf he stg sup wd sn rd ri lim nr i)), (7, .int (nI i)), (6, .int ((advC (advK (advD wd) fa nf he stg sup wd sn rd ri lim nr) i).2)), (5, .int ((advC (advK (advD wd) fa nf he stg sup wd sn rd ri lim nr) i).1)), (4, .ref q12), (0, .ref x), (1, .int wd), (2, .int stg), (3, .int he)]) hx hb dX6_advise_82 hl (by decide) rfl (fun ls hl => ?_)
        refine lv_iload hx hb dX6_advise_84 (lv_at hl 0 rfl) ?_
        refine lv_iload hx hb dX6_advise_86 (lv_at hl 2 rfl) ?_
        refine lv_icmp_ge (tgt := 99) hx hb dX6_advise_88 (by decide) (fun cz88 => ?_) (fun cz88 => ?_)
        · refine lv_iinc (v := nI (i + 1)) (lv' := [(7, .int (nI (i + 1))), (8, .int (advK (advD wd) fa nf he stg sup wd sn rd ri lim nr i)), (6, .int ((advC (advK (advD wd) fa nf he stg sup wd sn rd ri lim nr) i).2)), (5, .int ((advC (advK (advD wd) fa nf he stg sup wd sn rd ri lim nr) i).1)), (4, .ref q12), (0, .ref x), (1, .int wd), (2, .int stg), (3, .int he)]) hx hb dX6_advise_99 hl (k := 1) rfl (nI_1 i) (by decide) rfl (fun ls hl => ?_)
          refine lv_goto (tgt := 37) hx hb dX6_advise_102 (by decide) ?_
          have hl : lv_has ls 9 [(7, .int (nI (i + 1))), (8, .int (advK (advD wd) fa nf he stg sup wd sn rd ri lim nr i)), (6, .int ((advC (advK (advD wd) fa nf he stg sup wd sn rd ri lim nr) (i + 1)).2)), (5, .int ((advC (advK (advD wd) fa nf he stg sup wd sn rd ri lim nr) i).1)), (4, .ref q12), (0, .ref x), (1, .int wd), (2, .int stg), (3, .int he)] := lv_repl hl (congrArg (fun z9 : Int32 => ([(7, .int (nI (i + 1))), (8, .int (advK (advD wd) fa nf he stg sup wd sn rd ri lim nr i)), (6, .int z9), (5, .int ((advC (advK (advD wd) fa nf he stg sup wd sn rd ri lim nr) i).1)), (4, .ref q12), (0, .ref x), (1, .int wd), (2, .int stg), (3, .int he)] : List (Nat × Value))) (show ((advC (advK (advD wd) fa nf he stg sup wd sn rd ri lim nr) i).2 : Int32) = (advC (advK (advD wd) fa nf he stg sup wd sn rd ri lim nr) (i + 1)).2 from (congrArg Prod.snd (advC_f (F := advK (advD wd) fa nf he stg sup wd sn rd ri lim nr) (Int32.not_lt.mpr cz88))).symm))
          have hl : lv_has ls 9 [(7, .int (nI (i + 1))), (8, .int (advK (advD wd) fa nf he stg sup wd sn rd ri lim nr i)), (6, .int ((advC (advK (advD wd) fa nf he stg sup wd sn rd ri lim nr) (i + 1)).2)), (5, .int ((advC (advK (advD wd) fa nf he stg sup wd sn rd ri lim nr) (i + 1)).1)), (4, .ref q12), (0, .ref x), (1, .int wd), (2, .int stg), (3, .int he)] := lv_repl hl (congrArg (fun z9 : Int32 => ([(7, .int (nI (i + 1))), (8, .int (advK (advD wd) fa nf he stg sup wd sn rd ri lim nr i)), (6, .int ((advC (advK (advD wd) fa nf he stg sup wd sn rd ri lim nr) (i + 1)).2)), (5, .int z9), (4, .ref q12), (0, .ref x), (1, .int wd), (2, .int stg), (3, .int he)] : List (Nat × Value))) (show ((advC (advK (advD wd) fa nf he stg sup wd sn rd ri lim nr) i).1 : Int32) = (advC (advK (advD wd) fa nf he stg sup wd sn rd ri lim nr) (i + 1)).1 from (congrArg Prod.fst (advC_f (F := advK (advD wd) fa nf he stg sup wd sn rd ri lim nr) (Int32.not_lt.mpr cz88))).symm))
          refine W.widen (k := (4 + (i + 1))) (n := (28 + 3 * (i + 1))) (by omega) (by omega) ?_
          exact ih_37 (i + 1) _ _ _ _ _ _ _ (by omega) _ _ _ _ hk G9_0 G9_1 G9_2 G9_3 G9_4 G9_5 G9_a1 G9_7 G9_8 G9_9 G9_a0 J (lv_sub hl [0, 2, 3, 4, 5, 6, 7, 8] rfl)
        · refine lv_iload hx hb dX6_advise_91 (lv_at hl 0 rfl) ?_
          refine lv_istore (lv' := [(6, .int (advK (advD wd) fa nf he stg sup wd sn rd ri lim nr i)), (8, .int (advK (advD wd) fa nf he stg sup wd sn rd ri lim nr i)), (7, .int (nI i)), (5, .int ((advC (advK (advD wd) fa nf he stg sup wd sn rd ri lim nr) i).1)), (4, .ref q12), (0, .ref x), (1, .int wd), (2, .int stg), (3, .int he)]) hx hb dX6_advise_93 hl (by decide) rfl (fun ls hl => ?_)
          refine lv_iload hx hb dX6_advise_95 (lv_at hl 2 rfl) ?_
          refine lv_istore (lv' := [(5, .int (nI i)), (6, .int (advK (advD wd) fa nf he stg sup wd sn rd ri lim nr i)), (8, .int (advK (advD wd) fa nf he stg sup wd sn rd ri lim nr i)), (7, .int (nI i)), (4, .ref q12), (0, .ref x), (1, .int wd), (2, .int stg), (3, .int he)]) hx hb dX6_advise_97 hl (by decide) rfl (fun ls hl => ?_)
          refine lv_iinc (v := nI (i + 1)) (lv' := [(7, .int (nI (i + 1))), (5, .int (nI i)), (6, .int (advK (advD wd) fa nf he stg sup wd sn rd ri lim nr i)), (8, .int (advK (advD wd) fa nf he stg sup wd sn rd ri lim nr i)), (4, .ref q12), (0, .ref x), (1, .int wd), (2, .int stg), (3, .int he)]) hx hb dX6_advise_99 hl (k := 3) rfl (nI_1 i) (by decide) rfl (fun ls hl => ?_)
          refine lv_goto (tgt := 37) hx hb dX6_advise_102 (by decide) ?_
          have hl : lv_has ls 9 [(7, .int (nI (i + 1))), (5, .int ((advC (advK (advD wd) fa nf he stg sup wd sn rd ri lim nr) (i + 1)).1)), (6, .int (advK (advD wd) fa nf he stg sup wd sn rd ri lim nr i)), (8, .int (advK (advD wd) fa nf he stg sup wd sn rd ri lim nr i)), (4, .ref q12), (0, .ref x), (1, .int wd), (2, .int stg), (3, .int he)] := lv_repl hl (congrArg (fun z9 : Int32 => ([(7, .int (nI (i + 1))), (5, .int z9), (6, .int (advK (advD wd) fa nf he stg sup wd sn rd ri lim nr i)), (8, .int (advK (advD wd) fa nf he stg sup wd sn rd ri lim nr i)), (4, .ref q12), (0, .ref x), (1, .int wd), (2, .int stg), (3, .int he)] : List (Nat × Value))) (show (nI i : Int32) = (advC (advK (advD wd) fa nf he stg sup wd sn rd ri lim nr) (i + 1)).1 from (congrArg Prod.fst (advC_t (F := advK (advD wd) fa nf he stg sup wd sn rd ri lim nr) (Int32.not_le.mp cz88))).symm))
          have hl : lv_has ls 9 [(7, .int (nI (i + 1))), (5, .int ((advC (advK (advD wd) fa nf he stg sup wd sn rd ri lim nr) (i + 1)).1)), (6, .int ((advC (advK (advD wd) fa nf he stg sup wd sn rd ri lim nr) (i + 1)).2)), (8, .int (advK (advD wd) fa nf he stg sup wd sn rd ri lim nr i)), (4, .ref q12), (0, .ref x), (1, .int wd), (2, .int stg), (3, .int he)] := lv_repl hl (congrArg (fun z9 : Int32 => ([(7, .int (nI (i + 1))), (5, .int ((advC (advK (advD wd) fa nf he stg sup wd sn rd ri lim nr) (i + 1)).1)), (6, .int z9), (8, .int (advK (advD wd) fa nf he stg sup wd sn rd ri lim nr i)), (4, .ref q12), (0, .ref x), (1, .int wd), (2, .int stg), (3, .int he)] : List (Nat × Value))) (show (advK (advD wd) fa nf he stg sup wd sn rd ri lim nr i : Int32) = (advC (advK (advD wd) fa nf he stg sup wd sn rd ri lim nr) (i + 1)).2 from (congrArg Prod.snd (advC_t (F := advK (advD wd) fa nf he stg sup wd sn rd ri lim nr) (Int32.not_le.mp cz88))).symm))
          refine W.widen (k := (4 + (i + 1))) (n := (28 + 3 * (i + 1))) (by omega) (by omega) ?_
          exact ih_37 (i + 1) _ _ _ _ _ _ _ (by omega) _ _ _ _ hk G9_0 G9_1 G9_2 G9_3 G9_4 G9_5 G9_a1 G9_7 G9_8 G9_9 G9_a0 J (lv_sub hl [0, 2, 1, 4, 5, 6, 7, 8] rfl)
    exact loop_37 20 0 _ _ _ _ _ _ _ (by omega) _ _ _ _ hk G5_0 G5_1 G5_2 G5_3 G5_4 G5_5 G5_6 G5_7 G5_8 G5_9 G5_a0 J (lv_sub hl [0, 1, 2, 3, 4, 5, 6, 7] rfl)
  · have hD : advD wd = 0 := if_neg hwn
    refine lv_iconst (v := nI 0) hx hb dX6_advise_34 rfl ?_
    refine lv_istore (lv' := [(7, .int (nI 0)), (6, .int ((advC (advK (advD wd) fa nf he stg sup wd sn rd ri lim nr) 0).2)), (5, .int ((advC (advK (advD wd) fa nf he stg sup wd sn rd ri lim nr) 0).1)), (4, .ref q12), (0, .ref x), (1, .int wd), (2, .int stg), (3, .int he)]) hx hb dX6_advise_35 hl (by decide) rfl (fun ls hl => ?_)
    have loop_37 : ∀ (k9 i : Nat) (t0 : Nat → Int32) (h0 : Nat → Int32) (g0 : Nat → Int32) (ca0 : Int32) (sh0 : Int32) (sw0 : Int32) (ho0 : Int32), i + k9 = 20 → ∀ (wl37 : va_W) (H : Heap) (locs : List Loc) (ls : Array Slot), zK [7, 9, 10] ws wl37 → wl37[0]? = some (x, .inr (7, [.ref fl, .ref rl, .ref wh, .ref gr, .ref tr, .ref sc, .int lim, .int sup, .int off, .int plo, .int hrs])) → wl37[1]? = some (fl, .inr (0, [.int mc1, .ref ea, .int (nI nf)])) → wl37[2]? = some (rl, .inr (0, [.int mc2, .ref eb, .int (nI nr)])) → wl37[4]? = some (gr, .inr (2, [.ref gra])) → wl37[5]? = some (gra, zI4 E 400 sn) → wl37[6]? = some (tr, .inr (2, [.ref tra])) → wl37[7]? = some (tra, zI4 E 400 t0) → wl37[8]? = some (sc, .inr (4, [.ref ha, .ref va])) → wl37[9]? = some (ha, zI4 E 400 h0) → wl37[10]? = some (va, zI4 E 400 g0) → wl37[pn_4]? = some (q12, .inr (6, [.int (wdn wd), .int stg, .int sup, .int (wfc wd), .int (wnc wd), .int (wnl wd), .int ca0, .int sh0, .int sw0, .int ho0])) → zJ E wl37 s H locs → lv_has ls 9 [(7, .int (nI i)), (6, .int ((advC (advK (advD wd) fa nf he stg sup wd sn rd ri lim nr) i).2)), (5, .int ((advC (advK (advD wd) fa nf he stg sup wd sn rd ri lim nr) i).1)), (4, .ref q12), (0, .ref x), (1, .int wd), (2, .int stg), (3, .int he)] → W p l e (headSpec wsX6_advise ({ frames := 8, cells := 30, slots := 120, locals := 154 } : Room)).room s m args below meth c H locs (4 + i) (28 + 3 * i) QQ (F0 m 37 ls []) := by
      intro k9
      induction k9 with
      | zero =>
        intro i t0 h0 g0 ca0 sh0 sw0 ho0 hik wl37 H locs ls hk L37_0 L37_1 L37_2 L37_3 L37_4 L37_5 L37_6 L37_7 L37_8 L37_9 L37_10 J hl
        obtain rfl : 20 = i := by omega
        refine lv_iload hx hb dX6_advise_37 (lv_at hl 0 rfl) ?_
        refine lv_bipush (v := nI 20) hx hb dX6_advise_39 (by decide) ?_
        refine lv_icmp_ge (tgt := 105) hx hb dX6_advise_41 (by decide) (fun cz41 => ?_) (fun cz41 => by exact (cz41 (nI_le (Nat.le_refl _) (by omega))).elim)
        refine lv_iload hx hb dX6_advise_105 (lv_at hl 2 rfl) ?_
        refine W.widen (k := 30) (n := 120) (by omega) (by omega) ?_
        subst hQ
        refine vx_ret ?_
        exact W.iret (v := (advC (advK (advD wd) fa nf he stg sup wd sn rd ri lim nr) 20).1) hx hb hr (fun t ht hW => ⟨⟨(advC (advK (advD wd) fa nf he stg sup wd sn rd ri lim nr) 20).1, wl37, rfl, ⟨hk, ⟨t0, h0, g0, L37_6, L37_8, L37_9, (by exact ⟨(if_neg (fun q => q e_r1)).trans (if_neg (not_or_e e_r5 e_r9)), rfl⟩)⟩⟩, J.I X ht hW.alike⟩, J.F ht⟩) J.locs dX6_advise_107
      | succ k9 ih_37 =>
        intro i t0 h0 g0 ca0 sh0 sw0 ho0 hik wl37 H locs ls hk L37_0 L37_1 L37_2 L37_3 L37_4 L37_5 L37_6 L37_7 L37_8 L37_9 L37_10 J hl
        refine lv_iload hx hb dX6_advise_37 (lv_at hl 0 rfl) ?_
        refine lv_bipush (v := nI 20) hx hb dX6_advise_39 (by decide) ?_
        refine lv_icmp_ge (tgt := 105) hx hb dX6_advise_41 (by decide) (fun cz41 => by exact (nI_ge (by omega) (by omega) cz41).elim) (fun cz41 => ?_)
        refine lv_aload_n hx hb dX6_advise_44 rfl (lv_at hl 4 rfl) ?_
        refine lv_iconst (v := (-1)) hx hb dX6_advise_45 (by decide) ?_
        refine z_cv J (z_rV (As := [.int (-1)]) (rest := []) (ci := 7) (q0 := 0) X J (cX6_screenAllBut_ok l E L37_0 L37_1 L37_7 L37_8 L37_9 (hF.keep hk (by decide)) (by first | assumption | omega | decide) (by first | assumption | omega | decide)) (cwV 1 hts gX6_advise_X6_screenAllBut rfl rfl rfl (by decide +kernel) ⟨Nat.le_of_ble_eq_true rfl, Nat.le_of_ble_eq_true rfl⟩) L37_0 rfl rfl rfl hl.1 rfl (Nat.le_of_ble_eq_true rfl) dX6_advise_46 ⟨by show _ ≤ 30; omega, by show _ ≤ 120; omega⟩) (fun ws_6 H locs hp9 J => ?_)
        obtain ⟨k6, G6_a0, G6_a1⟩ := hp9
        have hk := hk.trans (k6.mono (by decide))
        have G6_0 := k6.2 0 _ (by decide) L37_0
        have G6_1 := k6.2 1 _ (by decide) L37_1
        have G6_2 := k6.2 2 _ (by decide) L37_2
        have G6_3 := k6.2 4 _ (by decide) L37_3
        have G6_4 := k6.2 5 _ (by decide) L37_4
        have G6_5 := k6.2 6 _ (by decide) L37_5
        have G6_6 := k6.2 7 _ (by decide) L37_6
        have G6_7 := k6.2 8 _ (by decide) L37_7
        have G6_10 := k6.2 pn_4 _ (by simp only [List.mem_cons, List.not_mem_nil, or_false]; omega) L37_10
        refine lv_aload_n hx hb dX6_advise_49 rfl (lv_at hl 4 rfl) ?_
        refine z_get (C := RX6) (T := TX6) (N := 11) (ci := 7) (v := .ref sc) X J hi_X6 0 G6_0 rfl 5 (by decide) (by decide +kernel) rfl dX6_advise_50 ?_
        refine lv_aload hx hb dX6_advise_53 (lv_at hl 3 rfl) ?_
        refine z_get (C := RX5) (T := TX5) (N := 10) (ci := 6) (v := .int (wdn wd)) X J hi_X5 pn_4 G6_10 rfl 0 (by decide) (by decide +kernel) rfl dX6_advise_55 ?_
        refine lv_if_ne (tgt := 65) hx hb dX6_advise_58 (by decide) (fun cz58 => ?_) (fun cz58 => by exact (hwn cz58).elim)
        refine lv_iconst (v := 0) hx hb dX6_advise_65 (by decide) ?_
        refine lv_iload hx hb dX6_advise_66 (lv_at hl 0 rfl) ?_
        refine z_cq J (z_rS (As := [.int 0, .int (nI i)]) (rest := [.ref sc]) X J (cX6_straight_ok l E (Or.inl rfl)) (va_cwS 2 hts gX6_advise_X6_straight rfl rfl rfl (by decide +kernel) ⟨Nat.le_of_ble_eq_true rfl, Nat.le_of_ble_eq_true rfl⟩) rfl hl.1 rfl (Nat.le_of_ble_eq_true rfl) dX6_advise_68 ⟨by show _ ≤ 30; omega, by show _ ≤ 120; omega⟩) (fun r68 ws_7 H locs hp9 J => ?_)
        obtain ⟨k7, ⟨sp_7, hlen7, N7_0, e_r68⟩⟩ := hp9
        have lp7 := hk.1
        have b_7_0 := zlt G6_0
        have b_7_1 := zlt G6_1
        have b_7_2 := zlt G6_2
        have b_7_3 := zlt G6_3
        have b_7_4 := zlt G6_4
        have b_7_5 := zlt G6_5
        have b_7_6 := zlt G6_6
        have b_7_7 := zlt G6_7
        have b_7_8 := zlt G6_a0
        have b_7_9 := zlt G6_a1
        have b_7_10 := zlt G6_10
        have hk := hk.trans (k7.mono (fun q9 hq9 => absurd hq9 List.not_mem_nil))
        have G7_0 := k7.2 0 _ List.not_mem_nil G6_0
        have G7_1 := k7.2 1 _ List.not_mem_nil G6_1
        have G7_2 := k7.2 2 _ List.not_mem_nil G6_2
        have G7_3 := k7.2 4 _ List.not_mem_nil G6_3
        have G7_4 := k7.2 5 _ List.not_mem_nil G6_4
        have G7_5 := k7.2 6 _ List.not_mem_nil G6_5
        have G7_6 := k7.2 7 _ List.not_mem_nil G6_6
        have G7_7 := k7.2 8 _ List.not_mem_nil G6_7
        have G7_8 := k7.2 9 _ List.not_mem_nil G6_a0
        have G7_9 := k7.2 10 _ List.not_mem_nil G6_a1
        have G7_10 := k7.2 pn_4 _ List.not_mem_nil G6_10
        obtain ⟨pn_7_0, hpn_7_0⟩ : ∃ z : Nat, z = ws_6.length + 0 := ⟨_, rfl⟩
        rw [← hpn_7_0] at N7_0
        subst e_r68
        refine W.eq (g2 := F0 m 71 ls [.ref sp_7, .ref sc]) rfl ?_
        refine lv_iload_n hx hb dX6_advise_71 rfl (lv_at hl 7 rfl) ?_
        refine lv_iconst (v := 0) hx hb dX6_advise_72 (by decide) ?_
        refine z_cv J (z_rV (As := [.ref sp_7, .int he, .int 0]) (rest := []) (ci := 4) (q0 := 8) X J (cX3_add_ok l E G7_7 G7_8 G7_9 N7_0 (by first | assumption | omega | decide) (by decide)) (cwV 3 hts gX6_advise_X3_add rfl rfl rfl (by decide +kernel) ⟨Nat.le_of_ble_eq_true rfl, Nat.le_of_ble_eq_true rfl⟩) G7_7 rfl rfl rfl hl.1 rfl (Nat.le_of_ble_eq_true rfl) dX6_advise_73 ⟨by show _ ≤ 30; omega, by show _ ≤ 120; omega⟩) (fun ws_8 H locs hp9 J => ?_)
        obtain ⟨k8, G8_a0, G8_a1⟩ := hp9
        have hk := hk.trans (k8.mono (by decide))
        have G8_0 := k8.2 0 _ (by decide) G7_0
        have G8_1 := k8.2 1 _ (by decide) G7_1
        have G8_2 := k8.2 2 _ (by decide) G7_2
        have G8_3 := k8.2 4 _ (by decide) G7_3
        have G8_4 := k8.2 5 _ (by decide) G7_4
        have G8_5 := k8.2 6 _ (by decide) G7_5
        have G8_6 := k8.2 7 _ (by decide) G7_6
        have G8_7 := k8.2 8 _ (by decide) G7_7
        have G8_10 := k8.2 pn_4 _ (by simp only [List.mem_cons, List.not_mem_nil, or_false]; omega) G7_10
        have G8_11 := k8.2 pn_7_0 _ (by simp only [List.mem_cons, List.not_mem_nil, or_false]; omega) N7_0
        refine lv_aload_n hx hb dX6_advise_76 rfl (lv_at hl 4 rfl) ?_
        refine lv_aload hx hb dX6_advise_77 (lv_at hl 3 rfl) ?_
        refine z_ci J (z_rV (As := [.ref q12]) (rest := []) (ci := 7) (q0 := 0) X J (cX6_blockedAfterAdvice_ok l E G8_0 G8_2 G8_3 G8_4 G8_5 G8_6 G8_7 G8_a0 G8_a1 G8_10 (hR.keep hk (by decide)) (by first | assumption | omega | decide)) (cwV 1 hts gX6_advise_X6_blockedAfterAdvice rfl rfl rfl (by decide +kernel) ⟨Nat.le_of_ble_eq_true rfl, Nat.le_of_ble_eq_true rfl⟩) G8_0 rfl rfl rfl hl.1 rfl (Nat.le_of_ble_eq_true rfl) dX6_advise_79 ⟨by show _ ≤ 30; omega, by show _ ≤ 120; omega⟩) (fun r79 ws_9 H locs hp9 J => ?_)
        obtain ⟨k9, G9_a0, G9_a1, e_r79⟩ := hp9
        have hk := hk.transN k9 (by intro q9 hq9; simp only [List.mem_cons, List.not_mem_nil, or_false] at hq9 ⊢; omega)
        have G9_0 := k9.2 0 _ (by simp only [List.mem_cons, List.not_mem_nil, or_false]; omega) G8_0
        have G9_1 := k9.2 1 _ (by simp only [List.mem_cons, List.not_mem_nil, or_false]; omega) G8_1
        have G9_2 := k9.2 2 _ (by simp only [List.mem_cons, List.not_mem_nil, or_false]; omega) G8_2
        have G9_3 := k9.2 4 _ (by simp only [List.mem_cons, List.not_mem_nil, or_false]; omega) G8_3
        have G9_4 := k9.2 5 _ (by simp only [List.mem_cons, List.not_mem_nil, or_false]; omega) G8_4
        have G9_5 := k9.2 6 _ (by simp only [List.mem_cons, List.not_mem_nil, or_false]; omega) G8_5
        have G9_7 := k9.2 8 _ (by simp only [List.mem_cons, List.not_mem_nil, or_false]; omega) G8_7
        have G9_8 := k9.2 9 _ (by simp only [List.mem_cons, List.not_mem_nil, or_false]; omega) G8_a0
        have G9_9 := k9.2 10 _ (by simp only [List.mem_cons, List.not_mem_nil, or_false]; omega) G8_a1
        have G9_11 := k9.2 pn_7_0 _ (by simp only [List.mem_cons, List.not_mem_nil, or_false]; omega) G8_11
        subst e_r79
        refine W.eq (g2 := F0 m 82 ls [.int (advK (advD wd) fa nf he stg sup wd sn rd ri lim nr i)]) (congrArg (fun z9 : Int32 => F0 m 82 ls [.int z9]) (show (allB (boS stg sup (scH ((hgS fa (-1) nf).1) (rfi 0 (nI i)) 0 he 20) (scV ((hgS fa (-1) nf).1) ((hgS fa (-1) nf).2) (rfi 0 (nI i)) 0 he 0 20) (wfc wd) (wnc wd) (wnl wd) (sn, ca0, sh0, sw0, ho0) 4).2.1 rd ri lim nr : Int32) = advK (advD wd) fa nf he stg sup wd sn rd ri lim nr i from (by rw [hD]; exact advK_of))) ?_
        refine lv_istore (lv' := [(8, .int (advK (advD wd) fa nf he stg sup wd sn rd ri lim nr i)), (7, .int (nI i)), (6, .int ((advC (advK (advD wd) fa nf he stg sup wd sn rd ri lim nr) i).2)), (5, .int ((advC (advK (advD wd) fa nf he stg sup wd sn rd ri lim nr) i).1)), (4, .ref q12), (0, .ref x), (1, .int wd), (2, .int stg), (3, .int he)]) hx hb dX6_advise_82 hl (by decide) rfl (fun ls hl => ?_)
        refine lv_iload hx hb dX6_advise_84 (lv_at hl 0 rfl) ?_
        refine lv_iload hx hb dX6_advise_86 (lv_at hl 2 rfl) ?_
        refine lv_icmp_ge (tgt := 99) hx hb dX6_advise_88 (by decide) (fun cz88 => ?_) (fun cz88 => ?_)
        · refine lv_iinc (v := nI (i + 1)) (lv' := [(7, .int (nI (i + 1))), (8, .int (advK (advD wd) fa nf he stg sup wd sn rd ri lim nr i)), (6, .int ((advC (advK (advD wd) fa nf he stg sup wd sn rd ri lim nr) i).2)), (5, .int ((advC (advK (advD wd) fa nf he stg sup wd sn rd ri lim nr) i).1)), (4, .ref q12), (0, .ref x), (1, .int wd), (2, .int stg), (3, .int he)]) hx hb dX6_advise_99 hl (k := 1) rfl (nI_1 i) (by decide) rfl (fun ls hl => ?_)
          refine lv_goto (tgt := 37) hx hb dX6_advise_102 (by decide) ?_
          have hl : lv_has ls 9 [(7, .int (nI (i + 1))), (8, .int (advK (advD wd) fa nf he stg sup wd sn rd ri lim nr i)), (6, .int ((advC (advK (advD wd) fa nf he stg sup wd sn rd ri lim nr) (i + 1)).2)), (5, .int ((advC (advK (advD wd) fa nf he stg sup wd sn rd ri lim nr) i).1)), (4, .ref q12), (0, .ref x), (1, .int wd), (2, .int stg), (3, .int he)] := lv_repl hl (congrArg (fun z9 : Int32 => ([(7, .int (nI (i + 1))), (8, .int (advK (advD wd) fa nf he stg sup wd sn rd ri lim nr i)), (6, .int z9), (5, .int ((advC (advK (advD wd) fa nf he stg sup wd sn rd ri lim nr) i).1)), (4, .ref q12), (0, .ref x), (1, .int wd), (2, .int stg), (3, .int he)] : List (Nat × Value))) (show ((advC (advK (advD wd) fa nf he stg sup wd sn rd ri lim nr) i).2 : Int32) = (advC (advK (advD wd) fa nf he stg sup wd sn rd ri lim nr) (i + 1)).2 from (congrArg Prod.snd (advC_f (F := advK (advD wd) fa nf he stg sup wd sn rd ri lim nr) (Int32.not_lt.mpr cz88))).symm))
          have hl : lv_has ls 9 [(7, .int (nI (i + 1))), (8, .int (advK (advD wd) fa nf he stg sup wd sn rd ri lim nr i)), (6, .int ((advC (advK (advD wd) fa nf he stg sup wd sn rd ri lim nr) (i + 1)).2)), (5, .int ((advC (advK (advD wd) fa nf he stg sup wd sn rd ri lim nr) (i + 1)).1)), (4, .ref q12), (0, .ref x), (1, .int wd), (2, .int stg), (3, .int he)] := lv_repl hl (congrArg (fun z9 : Int32 => ([(7, .int (nI (i + 1))), (8, .int (advK (advD wd) fa nf he stg sup wd sn rd ri lim nr i)), (6, .int ((advC (advK (advD wd) fa nf he stg sup wd sn rd ri lim nr) (i + 1)).2)), (5, .int z9), (4, .ref q12), (0, .ref x), (1, .int wd), (2, .int stg), (3, .int he)] : List (Nat × Value))) (show ((advC (advK (advD wd) fa nf he stg sup wd sn rd ri lim nr) i).1 : Int32) = (advC (advK (advD wd) fa nf he stg sup wd sn rd ri lim nr) (i + 1)).1 from (congrArg Prod.fst (advC_f (F := advK (advD wd) fa nf he stg sup wd sn rd ri lim nr) (Int32.not_lt.mpr cz88))).symm))
          refine W.widen (k := (4 + (i + 1))) (n := (28 + 3 * (i + 1))) (by omega) (by omega) ?_
          exact ih_37 (i + 1) _ _ _ _ _ _ _ (by omega) _ _ _ _ hk G9_0 G9_1 G9_2 G9_3 G9_4 G9_5 G9_a1 G9_7 G9_8 G9_9 G9_a0 J (lv_sub hl [0, 2, 3, 4, 5, 6, 7, 8] rfl)
        · refine lv_iload hx hb dX6_advise_91 (lv_at hl 0 rfl) ?_
          refine lv_istore (lv' := [(6, .int (advK (advD wd) fa nf he stg sup wd sn rd ri lim nr i)), (8, .int (advK (advD wd) fa nf he stg sup wd sn rd ri lim nr i)), (7, .int (nI i)), (5, .int ((advC (advK (advD wd) fa nf he stg sup wd sn rd ri lim nr) i).1)), (4, .ref q12), (0, .ref x), (1, .int wd), (2, .int stg), (3, .int he)]) hx hb dX6_advise_93 hl (by decide) rfl (fun ls hl => ?_)
          refine lv_iload hx hb dX6_advise_95 (lv_at hl 2 rfl) ?_
          refine lv_istore (lv' := [(5, .int (nI i)), (6, .int (advK (advD wd) fa nf he stg sup wd sn rd ri lim nr i)), (8, .int (advK (advD wd) fa nf he stg sup wd sn rd ri lim nr i)), (7, .int (nI i)), (4, .ref q12), (0, .ref x), (1, .int wd), (2, .int stg), (3, .int he)]) hx hb dX6_advise_97 hl (by decide) rfl (fun ls hl => ?_)
          refine lv_iinc (v := nI (i + 1)) (lv' := [(7, .int (nI (i + 1))), (5, .int (nI i)), (6, .int (advK (advD wd) fa nf he stg sup wd sn rd ri lim nr i)), (8, .int (advK (advD wd) fa nf he stg sup wd sn rd ri lim nr i)), (4, .ref q12), (0, .ref x), (1, .int wd), (2, .int stg), (3, .int he)]) hx hb dX6_advise_99 hl (k := 3) rfl (nI_1 i) (by decide) rfl (fun ls hl => ?_)
          refine lv_goto (tgt := 37) hx hb dX6_advise_102 (by decide) ?_
          have hl : lv_has ls 9 [(7, .int (nI (i + 1))), (5, .int ((advC (advK (advD wd) fa nf he stg sup wd sn rd ri lim nr) (i + 1)).1)), (6, .int (advK (advD wd) fa nf he stg sup wd sn rd ri lim nr i)), (8, .int (advK (advD wd) fa nf he stg sup wd sn rd ri lim nr i)), (4, .ref q12), (0, .ref x), (1, .int wd), (2, .int stg), (3, .int he)] := lv_repl hl (congrArg (fun z9 : Int32 => ([(7, .int (nI (i + 1))), (5, .int z9), (6, .int (advK (advD wd) fa nf he stg sup wd sn rd ri lim nr i)), (8, .int (advK (advD wd) fa nf he stg sup wd sn rd ri lim nr i)), (4, .ref q12), (0, .ref x), (1, .int wd), (2, .int stg), (3, .int he)] : List (Nat × Value))) (show (nI i : Int32) = (advC (advK (advD wd) fa nf he stg sup wd sn rd ri lim nr) (i + 1)).1 from (congrArg Prod.fst (advC_t (F := advK (advD wd) fa nf he stg sup wd sn rd ri lim nr) (Int32.not_le.mp cz88))).symm))
          have hl : lv_has ls 9 [(7, .int (nI (i + 1))), (5, .int ((advC (advK (advD wd) fa nf he stg sup wd sn rd ri lim nr) (i + 1)).1)), (6, .int ((advC (advK (advD wd) fa nf he stg sup wd sn rd ri lim nr) (i + 1)).2)), (8, .int (advK (advD wd) fa nf he stg sup wd sn rd ri lim nr i)), (4, .ref q12), (0, .ref x), (1, .int wd), (2, .int stg), (3, .int he)] := lv_repl hl (congrArg (fun z9 : Int32 => ([(7, .int (nI (i + 1))), (5, .int ((advC (advK (advD wd) fa nf he stg sup wd sn rd ri lim nr) (i + 1)).1)), (6, .int z9), (8, .int (advK (advD wd) fa nf he stg sup wd sn rd ri lim nr i)), (4, .ref q12), (0, .ref x), (1, .int wd), (2, .int stg), (3, .int he)] : List (Nat × Value))) (show (advK (advD wd) fa nf he stg sup wd sn rd ri lim nr i : Int32) = (advC (advK (advD wd) fa nf he stg sup wd sn rd ri lim nr) (i + 1)).2 from (congrArg Prod.snd (advC_t (F := advK (advD wd) fa nf he stg sup wd sn rd ri lim nr) (Int32.not_le.mp cz88))).symm))
          refine W.widen (k := (4 + (i + 1))) (n := (28 + 3 * (i + 1))) (by omega) (by omega) ?_
          exact ih_37 (i + 1) _ _ _ _ _ _ _ (by omega) _ _ _ _ hk G9_0 G9_1 G9_2 G9_3 G9_4 G9_5 G9_a1 G9_7 G9_8 G9_9 G9_a0 J (lv_sub hl [0, 2, 1, 4, 5, 6, 7, 8] rfl)
    exact loop_37 20 0 _ _ _ _ _ _ _ (by omega) _ _ _ _ hk G5_0 G5_1 G5_2 G5_3 G5_4 G5_5 G5_6 G5_7 G5_8 G5_9 G5_a0 J (lv_sub hl [0, 1, 2, 3, 4, 5, 6, 7] rfl)
