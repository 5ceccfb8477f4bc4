set_option maxHeartbeats 4000000 in
set_option maxRecDepth 100000 in
theorem cX7_all_ok (l : Launch) (E : zG) {ws : va_W} {mo mf md mi ms9 mk mt nf nr : Nat} {th lim sup off plo hrs : Int32} {sn : Nat → Int32} {b : Int32} (Fa0 : ws[11]? = some (mo, .inr (8, [.int th, .int (nI nf), .ref mf, .int (nI nr), .ref md, .ref mi, .int lim, .int sup, .int off, .int plo, .int hrs, .ref ms9, .ref mk, .ref mt]))) (Fa1 : ws[15]? = some (ms9, zI4 E 400 sn))  : Met l yX7_all wsX7_all ({ frames := 1, cells := 0, slots := 0, locals := 13 } : Room) (va_Pc [.ref mo, .int b] (zI E ws)) (vp_Si (fun r : Int32 => r = allS b sn)) 0 0 (fun _ => False) := by
  refine Met.ofW (cc := cX7_all) (maxL := 8) (ret := (some .int)) (by decide) rfl ?_
  intro p e s m args below meth c s₁ B hml hv
  obtain ⟨hargs9, hI⟩ := hv
  have hx := B.exec
  have hb := B.bytes
  have hr := B.returns
  have hlocks := B.notSynchronized
  have X : zC E p m c cX7_all 8 s args wsX7_all RX7 := z_open B hml hI
  have hown := X.1.2.2.2.1
  have hts := X.1.2.2.2.2
  have J := hI.J
  have hi_X7 : ∀ w ∈ wsX70, w ∈ wsX7_all := by decide +kernel
  have hl := lv_entry ([.ref mo, .int b]) (n := 8) (Nat.le_of_ble_eq_true rfl)
  rw [show entryFrame m args 8 = entryFrame m ([.ref mo, .int b] : List Value).toArray 8 from by rw [hargs9], lg_entry_eq]
  generalize (lg_sl ([.ref mo, .int b]) ++ List.replicate (8 - (lg_sl ([.ref mo, .int b])).length) Slot.unset).toArray = ls at hl ⊢
  have hl : lv_has ls 8 [(0, .ref mo), (1, .int b)] := hl
  generalize hQ : (MQ below (vp_Si (fun r : Int32 => r = allS b sn)) args s 0 0 (fun _ => False)) = QQ
  refine lv_iconst (v := sumG sn (0 * 20 + 0) 0 0) hx hb dX7_all_0 rfl ?_
  refine lv_istore_n (lv' := [(2, .int (sumG sn (0 * 20 + 0) 0 0)), (0, .ref mo), (1, .int b)]) hx hb dX7_all_1 rfl hl (by decide) rfl (fun ls hl => ?_)
  refine lv_iconst (v := mostG sn (0 * 20 + 0) 0 0) hx hb dX7_all_2 rfl ?_
  refine lv_istore_n (lv' := [(3, .int (mostG sn (0 * 20 + 0) 0 0)), (2, .int (sumG sn (0 * 20 + 0) 0 0)), (0, .ref mo), (1, .int b)]) hx hb dX7_all_3 rfl hl (by decide) rfl (fun ls hl => ?_)
  refine lv_aload_n hx hb dX7_all_4 rfl (lv_at hl 2 rfl) ?_
  refine z_get (C := RX7) (T := TX7) (N := 14) (ci := 8) (v := .ref ms9) X J hi_X7 11 Fa0 rfl 11 (by decide) (by decide +kernel) rfl dX7_all_5 ?_
  refine lv_astore (lv' := [(4, .ref ms9), (3, .int (mostG sn (0 * 20 + 0) 0 0)), (2, .int (sumG sn (0 * 20 + 0) 0 0)), (0, .ref mo), (1, .int b)]) hx hb dX7_all_8 hl (by decide) rfl (fun ls hl => ?_)
  refine lv_aload hx hb dX7_all_10 (lv_at hl 0 rfl) ?_
  refine z_alenI (v := nI 400) X J 15 Fa1 rfl dX7_all_12 ?_
  refine lv_istore (lv' := [(5, .int (nI 400)), (4, .ref ms9), (3, .int (mostG sn (0 * 20 + 0) 0 0)), (2, .int (sumG sn (0 * 20 + 0) 0 0)), (0, .ref mo), (1, .int b)]) hx hb dX7_all_13 hl (by decide) rfl (fun ls hl => ?_)
  refine lv_iconst (v := nI 0) hx hb dX7_all_15 rfl ?_
  refine lv_istore (lv' := [(6, .int (nI 0)), (5, .int (nI 400)), (4, .ref ms9), (3, .int (mostG sn (0 * 20 + 0) 0 0)), (2, .int (sumG sn (0 * 20 + 0) 0 0)), (0, .ref mo), (1, .int b)]) hx hb dX7_all_16 hl (by decide) rfl (fun ls hl => ?_)
  have loop_18 : ∀ (k9 i : Nat), i + k9 = 400 → ∀ (ls : Array Slot), lv_has ls 8 [(6, .int (nI i)), (5, .int (nI 400)), (4, .ref ms9), (3, .int (mostG sn (0 * 20 + 0) 0 i)), (2, .int (sumG sn (0 * 20 + 0) 0 i)), (0, .ref mo), (1, .int b)] → W p l e (headSpec wsX7_all ({ frames := 1, cells := 0, slots := 0, locals := 13 } : Room)).room s m args below meth c s.heap [] 0 0 QQ (F0 m 18 ls []) := by
    intro k9
    induction k9 with
    | zero =>
      intro i hik ls hl
      obtain rfl : 400 = i := by omega
      refine lv_iload hx hb dX7_all_18 (lv_at hl 0 rfl) ?_
      refine lv_iload hx hb dX7_all_20 (lv_at hl 1 rfl) ?_
      refine lv_icmp_ge (tgt := 50) hx hb dX7_all_22 (by decide) (fun cz22 => ?_) (fun cz22 => by exact (cz22 (nI_le (Nat.le_refl _) (by omega))).elim)
      refine lv_iload_n hx hb dX7_all_50 rfl (lv_at hl 6 rfl) ?_
      refine lv_if_eq (tgt := 58) hx hb dX7_all_51 (by decide) (fun cz51 => ?_) (fun cz51 => ?_)
      · refine lv_iload_n hx hb dX7_all_58 rfl (lv_at hl 4 rfl) ?_
        subst hQ
        exact W.iret (v := sumG sn (0 * 20 + 0) 0 400) hx hb hr (fun t ht hW => ⟨sumG sn (0 * 20 + 0) 0 400, rfl, (by first | exact (if_pos cz51).symm | exact (if_neg cz51).symm), ht⟩) (fun q hq => absurd hq List.not_mem_nil) dX7_all_59
      · refine lv_iload_n hx hb dX7_all_54 rfl (lv_at hl 3 rfl) ?_
        refine lv_goto (tgt := 59) hx hb dX7_all_55 (by decide) ?_
        subst hQ
        exact W.iret (v := mostG sn (0 * 20 + 0) 0 400) hx hb hr (fun t ht hW => ⟨mostG sn (0 * 20 + 0) 0 400, rfl, (by first | exact (if_pos cz51).symm | exact (if_neg cz51).symm), ht⟩) (fun q hq => absurd hq List.not_mem_nil) dX7_all_59
    | succ k9 ih_18 =>
      intro i hik ls hl
      refine lv_iload hx hb dX7_all_18 (lv_at hl 0 rfl) ?_
      refine lv_iload hx hb dX7_all_20 (lv_at hl 1 rfl) ?_
      refine lv_icmp_ge (tgt := 50) hx hb dX7_all_22 (by decide) (fun cz22 => by exact (nI_ge (by omega) (by omega) cz22).elim) (fun cz22 => ?_)
      refine lv_aload hx hb dX7_all_25 (lv_at hl 2 rfl) ?_
      refine lv_iload hx hb dX7_all_27 (lv_at hl 0 rfl) ?_
      refine z_iald X J 15 Fa1 (vp_in_nI (by omega) (by decide)) dX7_all_29 ?_
      refine W.eq (g2 := F0 m 30 ls [.int (gd sn (cellAt (0 * 20 + 0) 0 i))]) (congrArg (fun z9 : Int32 => F0 m 30 ls [.int z9]) (show (sn (nI i).toNatClampNeg : Int32) = gd sn (cellAt (0 * 20 + 0) 0 i) from (by rw [cellAt_whole, gd_nI (by omega), nI_clamp (by omega)]))) ?_
      refine lv_istore (lv' := [(7, .int (gd sn (cellAt (0 * 20 + 0) 0 i))), (6, .int (nI i)), (5, .int (nI 400)), (4, .ref ms9), (3, .int (mostG sn (0 * 20 + 0) 0 i)), (2, .int (sumG sn (0 * 20 + 0) 0 i)), (0, .ref mo), (1, .int b)]) hx hb dX7_all_30 hl (by decide) rfl (fun ls hl => ?_)
      refine lv_iload_n hx hb dX7_all_32 rfl (lv_at hl 5 rfl) ?_
      refine lv_iload hx hb dX7_all_33 (lv_at hl 0 rfl) ?_
      refine lv_iadd hx hb dX7_all_35 ?_
      refine lv_istore_n (lv' := [(2, .int ((sumG sn (0 * 20 + 0) 0 i) + (gd sn (cellAt (0 * 20 + 0) 0 i)))), (7, .int (gd sn (cellAt (0 * 20 + 0) 0 i))), (6, .int (nI i)), (5, .int (nI 400)), (4, .ref ms9), (3, .int (mostG sn (0 * 20 + 0) 0 i)), (0, .ref mo), (1, .int b)]) hx hb dX7_all_36 rfl hl (by decide) rfl (fun ls hl => ?_)
      refine lv_iload_n hx hb dX7_all_37 rfl (lv_at hl 5 rfl) ?_
      refine lv_iload hx hb dX7_all_38 (lv_at hl 1 rfl) ?_
      refine va_mmax hx hb (X.1.2.2.1.trans hl.1.symm) hown (hts (.methodLink RX7 60 Lib.Math.max.name) (by decide +kernel)) (hts (.static Lib.Math.max.name) (by decide +kernel)) (hts (.initialized "java/lang/Math") (by decide +kernel)) (hts (.code Lib.Math.max.name Lib.Math.max.code 2 (some .int)) (by decide +kernel)) (Nat.le_of_ble_eq_true rfl) (Nat.le_of_ble_eq_true rfl) (Nat.le_of_ble_eq_true rfl) (Nat.le_of_ble_eq_true rfl) dX7_all_40 ?_
      refine W.eq (g2 := F0 m 43 ls [.int (mx (mostG sn (0 * 20 + 0) 0 i) (gd sn (cellAt (0 * 20 + 0) 0 i)))]) rfl ?_
      refine lv_istore_n (lv' := [(3, .int (mx (mostG sn (0 * 20 + 0) 0 i) (gd sn (cellAt (0 * 20 + 0) 0 i)))), (2, .int ((sumG sn (0 * 20 + 0) 0 i) + (gd sn (cellAt (0 * 20 + 0) 0 i)))), (7, .int (gd sn (cellAt (0 * 20 + 0) 0 i))), (6, .int (nI i)), (5, .int (nI 400)), (4, .ref ms9), (0, .ref mo), (1, .int b)]) hx hb dX7_all_43 rfl hl (by decide) rfl (fun ls hl => ?_)
      refine lv_iinc (v := nI (i + 1)) (lv' := [(6, .int (nI (i + 1))), (3, .int (mx (mostG sn (0 * 20 + 0) 0 i) (gd sn (cellAt (0 * 20 + 0) 0 i)))), (2, .int ((sumG sn (0 * 20 + 0) 0 i) + (gd sn (cellAt (0 * 20 + 0) 0 i)))), (7, .int (gd sn (cellAt (0 * 20 + 0) 0 i))), (5, .int (nI 400)), (4, .ref ms9), (0, .ref mo), (1, .int b)]) hx hb dX7_all_44 hl (k := 3) rfl (nI_1 i) (by decide) rfl (fun ls hl => ?_)
      refine lv_goto (tgt := 18) hx hb dX7_all_47 (by decide) ?_
      exact ih_18 (i + 1) (by omega) _ (lv_sub hl [0, 4, 5, 1, 2, 6, 7] rfl)
  exact loop_18 400 0 (by omega) _ (lv_sub hl [0, 1, 2, 3, 4, 5, 6] rfl)
set_option maxHeartbeats 4000000 in
set_option maxRecDepth 100000 in
theorem cX7_counted_ok (l : Launch) (E : zG) {ws : va_W} {mo mf md mi ms9 mk mt nf nr : Nat} {th lim sup off plo hrs : Int32} {rd ri sn : Nat → Int32} {w : Int32} (Fa0 : ws[11]? = some (mo, .inr (8, [.int th, .int (nI nf), .ref mf, .int (nI nr), .ref md, .ref mi, .int lim, .int sup, .int off, .int plo, .int hrs, .ref ms9, .ref mk, .ref mt]))) (Fa1 : ws[13]? = some (md, zI4 E 4 rd)) (Fa2 : ws[14]? = some (mi, zI4 E 4 ri)) (Fa3 : ws[15]? = some (ms9, zI4 E 400 sn)) (hnr : nr ≤ 4) (hor : ∀ q, q < nr → okR rd ri q) : Met l yX7_counted wsX7_counted ({ frames := 3, cells := 0, slots := 0, locals := 67 } : Room) (va_Pc [.ref mo, .int w] (zI E ws)) (vp_Si (fun r : Int32 => r = countS (nI nf) (nI nr) lim sup off plo hrs sn rd ri nr w)) 0 0 (fun _ => False) := by
  refine Met.ofW (cc := cX7_counted) (maxL := 2) (ret := (some .int)) (by decide) rfl ?_
  intro p e s m args below meth c s₁ B hml hv
  obtain ⟨hargs9, hI⟩ := hv
  have hx := B.exec
  have hb := B.bytes
  have hr := B.returns
  have hlocks := B.notSynchronized
  have X : zC E p m c cX7_counted 2 s args wsX7_counted RX7 := z_open B hml hI
  have hown := X.1.2.2.2.1
  have hts := X.1.2.2.2.2
  have J := hI.J
  have hi_X7 : ∀ w ∈ wsX70, w ∈ wsX7_counted := by decide +kernel
  have hl := lv_entry ([.ref mo, .int w]) (n := 2) (Nat.le_of_ble_eq_true rfl)
  rw [show entryFrame m args 2 = entryFrame m ([.ref mo, .int w] : List Value).toArray 2 from by rw [hargs9], lg_entry_eq]
  generalize (lg_sl ([.ref mo, .int w]) ++ List.replicate (2 - (lg_sl ([.ref mo, .int w])).length) Slot.unset).toArray = ls at hl ⊢
  have hl : lv_has ls 2 [(0, .ref mo), (1, .int w)] := hl
  generalize hQ : (MQ below (vp_Si (fun r : Int32 => r = countS (nI nf) (nI nr) lim sup off plo hrs sn rd ri nr w)) args s 0 0 (fun _ => False)) = QQ
  refine lv_iload_n hx hb dX7_counted_0 rfl (lv_at hl 1 rfl) ?_
  by_cases hs0 : w = 0
  · refine lv_tableIn (off := 51) (tgt := 52) hx hb dX7_counted_1 (by rw [hs0]; decide) (by rw [hs0]; decide) (by rw [hs0]; decide) (by decide) ?_
    refine lv_aload_n hx hb dX7_counted_52 rfl (lv_at hl 0 rfl) ?_
    refine z_get (C := RX7) (T := TX7) (N := 14) (ci := 8) (v := .int (nI nf)) X J hi_X7 11 Fa0 rfl 1 (by decide) (by decide +kernel) rfl dX7_counted_53 ?_
    subst hQ
    exact W.iret (v := nI nf) hx hb hr (fun t ht hW => ⟨nI nf, rfl, (by rw [hs0]; unfold countS; rw [if_pos rfl]), ht⟩) (fun q hq => absurd hq List.not_mem_nil) dX7_counted_56
  by_cases hs1 : w = 1
  · refine lv_tableIn (off := 56) (tgt := 57) hx hb dX7_counted_1 (by rw [hs1]; decide) (by rw [hs1]; decide) (by rw [hs1]; decide) (by decide) ?_
    refine lv_aload_n hx hb dX7_counted_57 rfl (lv_at hl 0 rfl) ?_
    refine z_get (C := RX7) (T := TX7) (N := 14) (ci := 8) (v := .int (nI nr)) X J hi_X7 11 Fa0 rfl 3 (by decide) (by decide +kernel) rfl dX7_counted_58 ?_
    subst hQ
    exact W.iret (v := nI nr) hx hb hr (fun t ht hW => ⟨nI nr, rfl, (by rw [hs1]; unfold countS; rw [if_neg (by decide), if_pos rfl]), ht⟩) (fun q hq => absurd hq List.not_mem_nil) dX7_counted_61
  by_cases hs2 : w = 2
  · refine lv_tableIn (off := 61) (tgt := 62) hx hb dX7_counted_1 (by rw [hs2]; decide) (by rw [hs2]; decide) (by rw [hs2]; decide) (by decide) ?_
    refine lv_aload_n hx hb dX7_counted_62 rfl (lv_at hl 0 rfl) ?_
    refine lv_iconst (v := 0) hx hb dX7_counted_63 (by decide) ?_
    refine z_cr (z_rV (As := [.int 0]) (rest := []) (ci := 8) (q0 := 11) X J (cX7_all_ok l E Fa0 Fa3) (cwV 1 hts gX7_counted_X7_all rfl rfl rfl (by decide +kernel) ⟨Nat.le_of_ble_eq_true rfl, Nat.le_of_ble_eq_true rfl⟩) Fa0 rfl rfl rfl hl.1 rfl (Nat.le_of_ble_eq_true rfl) dX7_counted_64 ⟨Nat.le_of_ble_eq_true rfl, Nat.le_of_ble_eq_true rfl⟩) (fun r64 e_r64 => ?_)
    subst e_r64
    subst hQ
    exact W.iret (v := allS 0 sn) hx hb hr (fun t ht hW => ⟨allS 0 sn, rfl, (by rw [hs2]; unfold countS; rw [if_neg (by decide), if_neg (by decide), if_pos rfl]; exact if_pos rfl), ht⟩) (fun q hq => absurd hq List.not_mem_nil) dX7_counted_67
  by_cases hs3 : w = 3
  · refine lv_tableIn (off := 67) (tgt := 68) hx hb dX7_counted_1 (by rw [hs3]; decide) (by rw [hs3]; decide) (by rw [hs3]; decide) (by decide) ?_
    refine lv_aload_n hx hb dX7_counted_68 rfl (lv_at hl 0 rfl) ?_
    refine lv_iconst (v := 1) hx hb dX7_counted_69 (by decide) ?_
    refine z_cr (z_rV (As := [.int 1]) (rest := []) (ci := 8) (q0 := 11) X J (cX7_all_ok l E Fa0 Fa3) (cwV 1 hts gX7_counted_X7_all rfl rfl rfl (by decide +kernel) ⟨Nat.le_of_ble_eq_true rfl, Nat.le_of_ble_eq_true rfl⟩) Fa0 rfl rfl rfl hl.1 rfl (Nat.le_of_ble_eq_true rfl) dX7_counted_70 ⟨Nat.le_of_ble_eq_true rfl, Nat.le_of_ble_eq_true rfl⟩) (fun r70 e_r70 => ?_)
    subst e_r70
    subst hQ
    exact W.iret (v := allS 1 sn) hx hb hr (fun t ht hW => ⟨allS 1 sn, rfl, (by rw [hs3]; unfold countS; rw [if_neg (by decide), if_neg (by decide), if_neg (by decide), if_pos rfl]; exact if_neg (by decide)), ht⟩) (fun q hq => absurd hq List.not_mem_nil) dX7_counted_73
  by_cases hs4 : w = 4
  · refine lv_tableIn (off := 73) (tgt := 74) hx hb dX7_counted_1 (by rw [hs4]; decide) (by rw [hs4]; decide) (by rw [hs4]; decide) (by decide) ?_
    refine lv_aload_n hx hb dX7_counted_74 rfl (lv_at hl 0 rfl) ?_
    refine z_cr (z_rV (As := []) (rest := []) (ci := 8) (q0 := 11) X J (cX7_allBlocked_ok l E Fa0 Fa1 Fa2 Fa3 hnr hor) (cwV 0 hts gX7_counted_X7_allBlocked rfl rfl rfl (by decide +kernel) ⟨Nat.le_of_ble_eq_true rfl, Nat.le_of_ble_eq_true rfl⟩) Fa0 rfl rfl rfl hl.1 rfl (Nat.le_of_ble_eq_true rfl) dX7_counted_75 ⟨Nat.le_of_ble_eq_true rfl, Nat.le_of_ble_eq_true rfl⟩) (fun r75 e_r75 => ?_)
    subst e_r75
    subst hQ
    exact W.iret (v := allB sn rd ri lim nr) hx hb hr (fun t ht hW => ⟨allB sn rd ri lim nr, rfl, (by rw [hs4]; unfold countS; rw [if_neg (by decide), if_neg (by decide), if_neg (by decide), if_neg (by decide), if_pos rfl]), ht⟩) (fun q hq => absurd hq List.not_mem_nil) dX7_counted_78
  by_cases hs5 : w = 5
  · refine lv_tableIn (off := 78) (tgt := 79) hx hb dX7_counted_1 (by rw [hs5]; decide) (by rw [hs5]; decide) (by rw [hs5]; decide) (by decide) ?_
    refine lv_aload_n hx hb dX7_counted_79 rfl (lv_at hl 0 rfl) ?_
    refine z_get (C := RX7) (T := TX7) (N := 14) (ci := 8) (v := .int off) X J hi_X7 11 Fa0 rfl 8 (by decide) (by decide +kernel) rfl dX7_counted_80 ?_
    subst hQ
    exact W.iret (v := off) hx hb hr (fun t ht hW => ⟨off, rfl, (by rw [hs5]; unfold countS; rw [if_neg (by decide), if_neg (by decide), if_neg (by decide), if_neg (by decide), if_neg (by decide), if_pos rfl]), ht⟩) (fun q hq => absurd hq List.not_mem_nil) dX7_counted_83
  by_cases hs6 : w = 6
  · refine lv_tableIn (off := 83) (tgt := 84) hx hb dX7_counted_1 (by rw [hs6]; decide) (by rw [hs6]; decide) (by rw [hs6]; decide) (by decide) ?_
    refine lv_aload_n hx hb dX7_counted_84 rfl (lv_at hl 0 rfl) ?_
    refine z_get (C := RX7) (T := TX7) (N := 14) (ci := 8) (v := .int plo) X J hi_X7 11 Fa0 rfl 9 (by decide) (by decide +kernel) rfl dX7_counted_85 ?_
    subst hQ
    exact W.iret (v := plo) hx hb hr (fun t ht hW => ⟨plo, rfl, (by rw [hs6]; unfold countS; rw [if_neg (by decide), if_neg (by decide), if_neg (by decide), if_neg (by decide), if_neg (by decide), if_neg (by decide), if_pos rfl]), ht⟩) (fun q hq => absurd hq List.not_mem_nil) dX7_counted_88
  by_cases hs7 : w = 7
  · refine lv_tableIn (off := 88) (tgt := 89) hx hb dX7_counted_1 (by rw [hs7]; decide) (by rw [hs7]; decide) (by rw [hs7]; decide) (by decide) ?_
    refine lv_aload_n hx hb dX7_counted_89 rfl (lv_at hl 0 rfl) ?_
    refine z_get (C := RX7) (T := TX7) (N := 14) (ci := 8) (v := .int hrs) X J hi_X7 11 Fa0 rfl 10 (by decide) (by decide +kernel) rfl dX7_counted_90 ?_
    subst hQ
    exact W.iret (v := hrs) hx hb hr (fun t ht hW => ⟨hrs, rfl, (by rw [hs7]; unfold countS; rw [if_neg (by decide), if_neg (by decide), if_neg (by decide), if_neg (by decide), if_neg (by decide), if_neg (by decide), if_neg (by decide), if_pos rfl]), ht⟩) (fun q hq => absurd hq List.not_mem_nil) dX7_counted_93
  by_cases hs8 : w = 8
  · refine lv_tableIn (off := 93) (tgt := 94) hx hb dX7_counted_1 (by rw [hs8]; decide) (by rw [hs8]; decide) (by rw [hs8]; decide) (by decide) ?_
    refine lv_aload_n hx hb dX7_counted_94 rfl (lv_at hl 0 rfl) ?_
    refine z_get (C := RX7) (T := TX7) (N := 14) (ci := 8) (v := .int lim) X J hi_X7 11 Fa0 rfl 6 (by decide) (by decide +kernel) rfl dX7_counted_95 ?_
    subst hQ
    exact W.iret (v := lim) hx hb hr (fun t ht hW => ⟨lim, rfl, (by rw [hs8]; unfold countS; rw [if_neg (by decide), if_neg (by decide), if_neg (by decide), if_neg (by decide), if_neg (by decide), if_neg (by decide), if_neg (by decide), if_neg (by decide), if_pos rfl]), ht⟩) (fun q hq => absurd hq List.not_mem_nil) dX7_counted_98
  refine lv_tableOut (tgt := 99) hx hb dX7_counted_1 (by have q0 := lv_neT hs0 (a := 0) rfl; have q1 := lv_neT hs1 (a := 1) rfl; have q2 := lv_neT hs2 (a := 2) rfl; have q3 := lv_neT hs3 (a := 3) rfl; have q4 := lv_neT hs4 (a := 4) rfl; have q5 := lv_neT hs5 (a := 5) rfl; have q6 := lv_neT hs6 (a := 6) rfl; have q7 := lv_neT hs7 (a := 7) rfl; have q8 := lv_neT hs8 (a := 8) rfl; omega) (by decide) ?_
  refine lv_aload_n hx hb dX7_counted_99 rfl (lv_at hl 0 rfl) ?_
  refine z_get (C := RX7) (T := TX7) (N := 14) (ci := 8) (v := .int sup) X J hi_X7 11 Fa0 rfl 7 (by decide) (by decide +kernel) rfl dX7_counted_100 ?_
  subst hQ
  exact W.iret (v := sup) hx hb hr (fun t ht hW => ⟨sup, rfl, (by unfold countS; rw [if_neg hs0, if_neg hs1, if_neg hs2, if_neg hs3, if_neg hs4, if_neg hs5, if_neg hs6, if_neg hs7, if_neg hs8]), ht⟩) (fun q hq => absurd hq List.not_mem_nil) dX7_counted_103
set_option maxHeartbeats 4000000 in
set_option maxRecDepth 100000 in
theorem cX7_fenceTold_ok (l : Launch) (E : zG) {ws : va_W} {mo mf md mi ms9 mk mt nf nr : Nat} {th lim sup off plo hrs : Int32} {fa sn : Nat → Int32} {f j : Nat} (Fa0 : ws[11]? = some (mo, .inr (8, [.int th, .int (nI nf), .ref mf, .int (nI nr), .ref md, .ref mi, .int lim, .int sup, .int off, .int plo, .int hrs, .ref ms9, .ref mk, .ref mt]))) (Fa1 : ws[12]? = some (mf, zI4 E 66 fa)) (Fa2 : ws[15]? = some (ms9, zI4 E 400 sn)) (hf9 : f ≤ 10) (hj6 : j ≤ 6) (hfok : okF fa f) : Met l yX7_fenceTold wsX7_fenceTold ({ frames := 2, cells := 0, slots := 0, locals := 44 } : Room) (va_Pc [.ref mo, .int (nI f), .int (nI j)] (zI E ws)) (vp_Si (fun r : Int32 => r = aboutS fa sn f j)) 0 0 (fun _ => False) := by
  refine Met.ofW (cc := cX7_fenceTold) (maxL := 5) (ret := (some .int)) (by decide) rfl ?_
  intro p e s m args below meth c s₁ B hml hv
  obtain ⟨hargs9, hI⟩ := hv
  have hx := B.exec
  have hb := B.bytes
  have hr := B.returns
  have hlocks := B.notSynchronized
  have X : zC E p m c cX7_fenceTold 5 s args wsX7_fenceTold RX7 := z_open B hml hI
  have hown := X.1.2.2.2.1
  have hts := X.1.2.2.2.2
  have J := hI.J
  have hi_X7 : ∀ w ∈ wsX70, w ∈ wsX7_fenceTold := by decide +kernel
  have hl := lv_entry ([.ref mo, .int (nI f), .int (nI j)]) (n := 5) (Nat.le_of_ble_eq_true rfl)
  rw [show entryFrame m args 5 = entryFrame m ([.ref mo, .int (nI f), .int (nI j)] : List Value).toArray 5 from by rw [hargs9], lg_entry_eq]
  generalize (lg_sl ([.ref mo, .int (nI f), .int (nI j)]) ++ List.replicate (5 - (lg_sl ([.ref mo, .int (nI f), .int (nI j)])).length) Slot.unset).toArray = ls at hl ⊢
  have hl : lv_has ls 5 [(0, .ref mo), (1, .int (nI f)), (2, .int (nI j))] := hl
  have hle9 := hfok.le.2
  generalize hQ : (MQ below (vp_Si (fun r : Int32 => r = aboutS fa sn f j)) args s 0 0 (fun _ => False)) = QQ
  refine lv_iload_n hx hb dX7_fenceTold_0 rfl (lv_at hl 2 rfl) ?_
  refine lv_bipush (v := nI 6) hx hb dX7_fenceTold_1 (by decide) ?_
  refine lv_icmp_ge (tgt := 13) hx hb dX7_fenceTold_3 (by decide) (fun cz3 => ?_) (fun cz3 => ?_)
  · refine lv_iconst (v := sumG sn (ffi fa f) (fa (6 * f + 3)) 0) hx hb dX7_fenceTold_13 rfl ?_
    refine lv_istore_n (lv' := [(3, .int (sumG sn (ffi fa f) (fa (6 * f + 3)) 0)), (0, .ref mo), (1, .int (nI f)), (2, .int (nI j))]) hx hb dX7_fenceTold_14 rfl hl (by decide) rfl (fun ls hl => ?_)
    refine lv_iconst (v := nI 0) hx hb dX7_fenceTold_15 rfl ?_
    refine lv_istore (lv' := [(4, .int (nI 0)), (3, .int (sumG sn (ffi fa f) (fa (6 * f + 3)) 0)), (0, .ref mo), (1, .int (nI f)), (2, .int (nI j))]) hx hb dX7_fenceTold_16 hl (by decide) rfl (fun ls hl => ?_)
    have loop_18 : ∀ (k9 i : Nat), i + k9 = (fle fa f) → ∀ (ls : Array Slot), lv_has ls 5 [(4, .int (nI i)), (3, .int (sumG sn (ffi fa f) (fa (6 * f + 3)) i)), (0, .ref mo), (1, .int (nI f)), (2, .int (nI j))] → W p l e (headSpec wsX7_fenceTold ({ frames := 2, cells := 0, slots := 0, locals := 44 } : Room)).room s m args below meth c s.heap [] 0 0 QQ (F0 m 18 ls []) := by
      intro k9
      induction k9 with
      | zero =>
        intro i hik ls hl
        obtain rfl : (fle fa f) = i := by omega
        refine lv_iload hx hb dX7_fenceTold_18 (lv_at hl 0 rfl) ?_
        refine lv_aload_n hx hb dX7_fenceTold_20 rfl (lv_at hl 2 rfl) ?_
        refine lv_iload_n hx hb dX7_fenceTold_21 rfl (lv_at hl 3 rfl) ?_
        refine lv_iconst (v := 2) hx hb dX7_fenceTold_22 (by decide) ?_
        refine z_cr (z_rV (As := [.int (nI f), .int 2]) (rest := [.int (nI (fle fa f))]) (ci := 8) (q0 := 11) X J (cX7_of_ok l E (j := 2) Fa0 Fa1 (by omega) (by first | assumption | omega | decide)) (cwV 2 hts gX7_fenceTold_X7_of rfl rfl rfl (by decide +kernel) ⟨Nat.le_of_ble_eq_true rfl, Nat.le_of_ble_eq_true rfl⟩) Fa0 rfl rfl rfl hl.1 rfl (Nat.le_of_ble_eq_true rfl) dX7_fenceTold_23 ⟨Nat.le_of_ble_eq_true rfl, Nat.le_of_ble_eq_true rfl⟩) (fun r23 e_r23 => ?_)
        subst e_r23
        refine W.eq (g2 := F0 m 26 ls [.int (nI (fle fa f)), .int (nI (fle fa f))]) (congrArg (fun z9 : Int32 => F0 m 26 ls [.int z9, .int (nI (fle fa f))]) (show (fa (6 * f + 2) : Int32) = nI (fle fa f) from hfok.le.1)) ?_
        refine lv_icmp_ge (tgt := 50) hx hb dX7_fenceTold_26 (by decide) (fun cz26 => ?_) (fun cz26 => by exact (cz26 (nI_le (Nat.le_refl _) (by omega))).elim)
        refine lv_iload_n hx hb dX7_fenceTold_50 rfl (lv_at hl 1 rfl) ?_
        subst hQ
        exact W.iret (v := sumG sn (ffi fa f) (fa (6 * f + 3)) (fle fa f)) hx hb hr (fun t ht hW => ⟨sumG sn (ffi fa f) (fa (6 * f + 3)) (fle fa f), rfl, (by exact (if_neg (fun q => nI_ge (b := 6) q (by decide) cz3)).symm), ht⟩) (fun q hq => absurd hq List.not_mem_nil) dX7_fenceTold_51
      | succ k9 ih_18 =>
        intro i hik ls hl
        refine lv_iload hx hb dX7_fenceTold_18 (lv_at hl 0 rfl) ?_
        refine lv_aload_n hx hb dX7_fenceTold_20 rfl (lv_at hl 2 rfl) ?_
        refine lv_iload_n hx hb dX7_fenceTold_21 rfl (lv_at hl 3 rfl) ?_
        refine lv_iconst (v := 2) hx hb dX7_fenceTold_22 (by decide) ?_
        refine z_cr (z_rV (As := [.int (nI f), .int 2]) (rest := [.int (nI i)]) (ci := 8) (q0 := 11) X J (cX7_of_ok l E (j := 2) Fa0 Fa1 (by omega) (by first | assumption | omega | decide)) (cwV 2 hts gX7_fenceTold_X7_of rfl rfl rfl (by decide +kernel) ⟨Nat.le_of_ble_eq_true rfl, Nat.le_of_ble_eq_true rfl⟩) Fa0 rfl rfl rfl hl.1 rfl (Nat.le_of_ble_eq_true rfl) dX7_fenceTold_23 ⟨Nat.le_of_ble_eq_true rfl, Nat.le_of_ble_eq_true rfl⟩) (fun r23 e_r23 => ?_)
        subst e_r23
        refine W.eq (g2 := F0 m 26 ls [.int (nI (fle fa f)), .int (nI i)]) (congrArg (fun z9 : Int32 => F0 m 26 ls [.int z9, .int (nI i)]) (show (fa (6 * f + 2) : Int32) = nI (fle fa f) from hfok.le.1)) ?_
        refine lv_icmp_ge (tgt := 50) hx hb dX7_fenceTold_26 (by decide) (fun cz26 => by exact (nI_ge (by omega) (by omega) cz26).elim) (fun cz26 => ?_)
        refine lv_iload_n hx hb dX7_fenceTold_29 rfl (lv_at hl 1 rfl) ?_
        refine lv_aload_n hx hb dX7_fenceTold_30 rfl (lv_at hl 2 rfl) ?_
        refine z_get (C := RX7) (T := TX7) (N := 14) (ci := 8) (v := .ref ms9) X J hi_X7 11 Fa0 rfl 11 (by decide) (by decide +kernel) rfl dX7_fenceTold_31 ?_
        refine lv_aload_n hx hb dX7_fenceTold_34 rfl (lv_at hl 2 rfl) ?_
        refine lv_iload_n hx hb dX7_fenceTold_35 rfl (lv_at hl 3 rfl) ?_
        refine lv_iload hx hb dX7_fenceTold_36 (lv_at hl 0 rfl) ?_
        refine z_cr (z_rV (As := [.int (nI f), .int (nI i)]) (rest := [.ref ms9, .int (sumG sn (ffi fa f) (fa (6 * f + 3)) i)]) (ci := 8) (q0 := 11) X J (cX7_cell_ok l E Fa0 Fa1 (by omega) hfok.dn) (cwV 2 hts gX7_fenceTold_X7_cell rfl rfl rfl (by decide +kernel) ⟨Nat.le_of_ble_eq_true rfl, Nat.le_of_ble_eq_true rfl⟩) Fa0 rfl rfl rfl hl.1 rfl (Nat.le_of_ble_eq_true rfl) dX7_fenceTold_38 ⟨Nat.le_of_ble_eq_true rfl, Nat.le_of_ble_eq_true rfl⟩) (fun r38 e_r38 => ?_)
        subst e_r38
        refine z_iald X J 15 Fa2 (hfok.vp (by omega)) dX7_fenceTold_41 ?_
        refine W.eq (g2 := F0 m 42 ls [.int (gd sn (cellAt (ffi fa f) (fa (6 * f + 3)) i)), .int (sumG sn (ffi fa f) (fa (6 * f + 3)) i)]) (congrArg (fun z9 : Int32 => F0 m 42 ls [.int z9, .int (sumG sn (ffi fa f) (fa (6 * f + 3)) i)]) (show (sn (cellAt (ffi fa f) (fa (6 * f + 3)) i).toNatClampNeg : Int32) = gd sn (cellAt (ffi fa f) (fa (6 * f + 3)) i) from (gd_vp (hfok.vp (by omega))))) ?_
        refine lv_iadd hx hb dX7_fenceTold_42 ?_
        refine lv_istore_n (lv' := [(3, .int ((sumG sn (ffi fa f) (fa (6 * f + 3)) i) + (gd sn (cellAt (ffi fa f) (fa (6 * f + 3)) i)))), (4, .int (nI i)), (0, .ref mo), (1, .int (nI f)), (2, .int (nI j))]) hx hb dX7_fenceTold_43 rfl hl (by decide) rfl (fun ls hl => ?_)
        refine lv_iinc (v := nI (i + 1)) (lv' := [(4, .int (nI (i + 1))), (3, .int ((sumG sn (ffi fa f) (fa (6 * f + 3)) i) + (gd sn (cellAt (ffi fa f) (fa (6 * f + 3)) i)))), (0, .ref mo), (1, .int (nI f)), (2, .int (nI j))]) hx hb dX7_fenceTold_44 hl (k := 1) rfl (nI_1 i) (by decide) rfl (fun ls hl => ?_)
        refine lv_goto (tgt := 18) hx hb dX7_fenceTold_47 (by decide) ?_
        exact ih_18 (i + 1) (by omega) _ (lv_sub hl [0, 1, 2, 3, 4] rfl)
    exact loop_18 (fle fa f) 0 (by omega) _ (lv_sub hl [0, 1, 2, 3, 4] rfl)
  · refine lv_aload_n hx hb dX7_fenceTold_6 rfl (lv_at hl 0 rfl) ?_
    refine lv_iload_n hx hb dX7_fenceTold_7 rfl (lv_at hl 1 rfl) ?_
    refine lv_iload_n hx hb dX7_fenceTold_8 rfl (lv_at hl 2 rfl) ?_
    refine z_cr (z_rV (As := [.int (nI f), .int (nI j)]) (rest := []) (ci := 8) (q0 := 11) X J (cX7_of_ok l E Fa0 Fa1 (by omega) (Nat.lt_of_not_le (fun q => cz3 (nI_le (a := 6) q (by omega))))) (cwV 2 hts gX7_fenceTold_X7_of rfl rfl rfl (by decide +kernel) ⟨Nat.le_of_ble_eq_true rfl, Nat.le_of_ble_eq_true rfl⟩) Fa0 rfl rfl rfl hl.1 rfl (Nat.le_of_ble_eq_true rfl) dX7_fenceTold_9 ⟨Nat.le_of_ble_eq_true rfl, Nat.le_of_ble_eq_true rfl⟩) (fun r9 e_r9 => ?_)
    subst e_r9
    subst hQ
    exact W.iret (v := fa (6 * f + j)) hx hb hr (fun t ht hW => ⟨fa (6 * f + j), rfl, (by exact (if_pos (Nat.lt_of_not_le (fun q => cz3 (nI_le (a := 6) q (by omega))))).symm), ht⟩) (fun q hq => absurd hq List.not_mem_nil) dX7_fenceTold_12
set_option maxHeartbeats 4000000 in
set_option maxRecDepth 100000 in
theorem cX7_roadTold_ok (l : Launch) (E : zG) {ws : va_W} {mo mf md mi ms9 mk mt nf nr : Nat} {th lim sup off plo hrs : Int32} {rd ri sn : Nat → Int32} {q : Nat} {w : Int32} (Fa0 : ws[11]? = some (mo, .inr (8, [.int th, .int (nI nf), .ref mf, .int (nI nr), .ref md, .ref mi, .int lim, .int sup, .int off, .int plo, .int hrs, .ref ms9, .ref mk, .ref mt]))) (Fa1 : ws[13]? = some (md, zI4 E 4 rd)) (Fa2 : ws[14]? = some (mi, zI4 E 4 ri)) (Fa3 : ws[15]? = some (ms9, zI4 E 400 sn)) (hq9 : q < 4) (hokr : okR rd ri q) : Met l yX7_roadTold wsX7_roadTold ({ frames := 2, cells := 0, slots := 0, locals := 45 } : Room) (va_Pc [.ref mo, .int (nI q), .int w] (zI E ws)) (vp_Si (fun r : Int32 => r = toldS sn rd ri lim q w)) 0 0 (fun _ => False) := by
  refine Met.ofW (cc := cX7_roadTold) (maxL := 3) (ret := (some .int)) (by decide) rfl ?_
  intro p e s m args below meth c s₁ B hml hv
  obtain ⟨hargs9, hI⟩ := hv
  have hx := B.exec
  have hb := B.bytes
  have hr := B.returns
  have hlocks := B.notSynchronized
  have X : zC E p m c cX7_roadTold 3 s args wsX7_roadTold RX7 := z_open B hml hI
  have hown := X.1.2.2.2.1
  have hts := X.1.2.2.2.2
  have J := hI.J
  have hi_X7 : ∀ w ∈ wsX70, w ∈ wsX7_roadTold := by decide +kernel
  have hl := lv_entry ([.ref mo, .int (nI q), .int w]) (n := 3) (Nat.le_of_ble_eq_true rfl)
  rw [show entryFrame m args 3 = entryFrame m ([.ref mo, .int (nI q), .int w] : List Value).toArray 3 from by rw [hargs9], lg_entry_eq]
  generalize (lg_sl ([.ref mo, .int (nI q), .int w]) ++ List.replicate (3 - (lg_sl ([.ref mo, .int (nI q), .int w])).length) Slot.unset).toArray = ls at hl ⊢
  have hl : lv_has ls 3 [(0, .ref mo), (1, .int (nI q)), (2, .int w)] := hl
  generalize hQ : (MQ below (vp_Si (fun r : Int32 => r = toldS sn rd ri lim q w)) args s 0 0 (fun _ => False)) = QQ
  refine lv_iload_n hx hb dX7_roadTold_0 rfl (lv_at hl 2 rfl) ?_
  by_cases hs0 : w = 0
  · refine lv_tableIn (off := 31) (tgt := 32) hx hb dX7_roadTold_1 (by rw [hs0]; decide) (by rw [hs0]; decide) (by rw [hs0]; decide) (by decide) ?_
    refine lv_aload_n hx hb dX7_roadTold_32 rfl (lv_at hl 0 rfl) ?_
    refine z_get (C := RX7) (T := TX7) (N := 14) (ci := 8) (v := .ref md) X J hi_X7 11 Fa0 rfl 4 (by decide) (by decide +kernel) rfl dX7_roadTold_33 ?_
    refine lv_iload_n hx hb dX7_roadTold_36 rfl (lv_at hl 1 rfl) ?_
    refine z_iald X J 13 Fa1 (vp_in_nI (by omega) (by decide)) dX7_roadTold_37 ?_
    refine W.eq (g2 := F0 m 38 ls [.int (rd q)]) (congrArg (fun z9 : Int32 => F0 m 38 ls [.int z9]) (show (rd (nI q).toNatClampNeg : Int32) = rd q from (congrArg _ (nI_clamp (by omega))))) ?_
    subst hQ
    exact W.iret (v := rd q) hx hb hr (fun t ht hW => ⟨rd q, rfl, (by rw [hs0]; rfl), ht⟩) (fun q hq => absurd hq List.not_mem_nil) dX7_roadTold_38
  by_cases hs1 : w = 1
  · refine lv_tableIn (off := 38) (tgt := 39) hx hb dX7_roadTold_1 (by rw [hs1]; decide) (by rw [hs1]; decide) (by rw [hs1]; decide) (by decide) ?_
    refine lv_aload_n hx hb dX7_roadTold_39 rfl (lv_at hl 0 rfl) ?_
    refine z_get (C := RX7) (T := TX7) (N := 14) (ci := 8) (v := .ref mi) X J hi_X7 11 Fa0 rfl 5 (by decide) (by decide +kernel) rfl dX7_roadTold_40 ?_
    refine lv_iload_n hx hb dX7_roadTold_43 rfl (lv_at hl 1 rfl) ?_
    refine z_iald X J 14 Fa2 (vp_in_nI (by omega) (by decide)) dX7_roadTold_44 ?_
    refine W.eq (g2 := F0 m 45 ls [.int (ri q)]) (congrArg (fun z9 : Int32 => F0 m 45 ls [.int z9]) (show (ri (nI q).toNatClampNeg : Int32) = ri q from (congrArg _ (nI_clamp (by omega))))) ?_
    subst hQ
    exact W.iret (v := ri q) hx hb hr (fun t ht hW => ⟨ri q, rfl, (by rw [hs1]; rfl), ht⟩) (fun q hq => absurd hq List.not_mem_nil) dX7_roadTold_45
  by_cases hs2 : w = 2
  · refine lv_tableIn (off := 45) (tgt := 46) hx hb dX7_roadTold_1 (by rw [hs2]; decide) (by rw [hs2]; decide) (by rw [hs2]; decide) (by decide) ?_
    refine lv_aload_n hx hb dX7_roadTold_46 rfl (lv_at hl 0 rfl) ?_
    refine lv_iload_n hx hb dX7_roadTold_47 rfl (lv_at hl 1 rfl) ?_
    refine z_cr (z_rV (As := [.int (nI q)]) (rest := []) (ci := 8) (q0 := 11) X J (cX7_blocked_ok l E Fa0 Fa1 Fa2 Fa3 (by omega) hokr) (cwV 1 hts gX7_roadTold_X7_blocked rfl rfl rfl (by decide +kernel) ⟨Nat.le_of_ble_eq_true rfl, Nat.le_of_ble_eq_true rfl⟩) Fa0 rfl rfl rfl hl.1 rfl (Nat.le_of_ble_eq_true rfl) dX7_roadTold_48 ⟨Nat.le_of_ble_eq_true rfl, Nat.le_of_ble_eq_true rfl⟩) (fun r48 e_r48 => ?_)
    subst e_r48
    subst hQ
    exact W.iret (v := blkG sn (rfi (rd q) (ri q)) (rd q) lim 20) hx hb hr (fun t ht hW => ⟨blkG sn (rfi (rd q) (ri q)) (rd q) lim 20, rfl, (by rw [hs2]; rfl), ht⟩) (fun q hq => absurd hq List.not_mem_nil) dX7_roadTold_51
  by_cases hs3 : w = 3
  · refine lv_tableIn (off := 51) (tgt := 52) hx hb dX7_roadTold_1 (by rw [hs3]; decide) (by rw [hs3]; decide) (by rw [hs3]; decide) (by decide) ?_
    refine lv_aload_n hx hb dX7_roadTold_52 rfl (lv_at hl 0 rfl) ?_
    refine lv_iload_n hx hb dX7_roadTold_53 rfl (lv_at hl 1 rfl) ?_
    refine z_cr (z_rV (As := [.int (nI q)]) (rest := []) (ci := 8) (q0 := 11) X J (cX7_onRoad_ok l E Fa0 Fa1 Fa2 Fa3 (by omega) hokr) (cwV 1 hts gX7_roadTold_X7_onRoad rfl rfl rfl (by decide +kernel) ⟨Nat.le_of_ble_eq_true rfl, Nat.le_of_ble_eq_true rfl⟩) Fa0 rfl rfl rfl hl.1 rfl (Nat.le_of_ble_eq_true rfl) dX7_roadTold_54 ⟨Nat.le_of_ble_eq_true rfl, Nat.le_of_ble_eq_true rfl⟩) (fun r54 e_r54 => ?_)
    subst e_r54
    subst hQ
    exact W.iret (v := sumG sn (rfi (rd q) (ri q)) (rd q) 20) hx hb hr (fun t ht hW => ⟨sumG sn (rfi (rd q) (ri q)) (rd q) 20, rfl, (by rw [hs3]; rfl), ht⟩) (fun q hq => absurd hq List.not_mem_nil) dX7_roadTold_57
  refine lv_tableOut (tgt := 58) hx hb dX7_roadTold_1 (by have q0 := lv_neT hs0 (a := 0) rfl; have q1 := lv_neT hs1 (a := 1) rfl; have q2 := lv_neT hs2 (a := 2) rfl; have q3 := lv_neT hs3 (a := 3) rfl; omega) (by decide) ?_
  refine lv_aload_n hx hb dX7_roadTold_58 rfl (lv_at hl 0 rfl) ?_
  refine lv_iload_n hx hb dX7_roadTold_59 rfl (lv_at hl 1 rfl) ?_
  refine z_cr (z_rV (As := [.int (nI q)]) (rest := []) (ci := 8) (q0 := 11) X J (cX7_deepest_ok l E Fa0 Fa1 Fa2 Fa3 (by omega) hokr) (cwV 1 hts gX7_roadTold_X7_deepest rfl rfl rfl (by decide +kernel) ⟨Nat.le_of_ble_eq_true rfl, Nat.le_of_ble_eq_true rfl⟩) Fa0 rfl rfl rfl hl.1 rfl (Nat.le_of_ble_eq_true rfl) dX7_roadTold_60 ⟨Nat.le_of_ble_eq_true rfl, Nat.le_of_ble_eq_true rfl⟩) (fun r60 e_r60 => ?_)
  subst e_r60
  subst hQ
  exact W.iret (v := mostG sn (rfi (rd q) (ri q)) (rd q) 20) hx hb hr (fun t ht hW => ⟨mostG sn (rfi (rd q) (ri q)) (rd q) 20, rfl, (by unfold toldS; rw [if_neg hs0, if_neg hs1, if_neg hs2, if_neg hs3]), ht⟩) (fun q hq => absurd hq List.not_mem_nil) dX7_roadTold_63
set_option maxHeartbeats 4000000 in
set_option maxRecDepth 100000 in
theorem cX7_setUp_ok (l : Launch) (E : zG) {ws : va_W} {mo mf md mi ms9 mk mt nf nr : Nat} {th lim sup off plo hrs : Int32} {fa : Nat → Int32} {i : Nat} {co ro le dn he ga : Int32} (Fa0 : ws[11]? = some (mo, .inr (8, [.int th, .int (nI nf), .ref mf, .int (nI nr), .ref md, .ref mi, .int lim, .int sup, .int off, .int plo, .int hrs, .ref ms9, .ref mk, .ref mt]))) (Fa1 : ws[12]? = some (mf, zI4 E 66 fa)) (hi9 : i ≤ 10) (hb11 : 11 < ws.length) (hb12 : 12 < ws.length) : Met l yX7_setUp wsX7_setUp ({ frames := 1, cells := 1, slots := 6, locals := 60 } : Room) (va_Pc [.ref mo, .int (nI i), .int co, .int ro, .int le, .int dn, .int he, .int ga] (zI E ws)) (va_Qv (fun (ws' : va_W) => (zK [12] ws ws') ∧ (ws'[12]? = some (mf, zI4 E 66 (fput fa i co ro le (b01 dn) he ga)))) (zI E) (zA E)) 1 6 (zA E) := by
  refine Met.ofW (cc := cX7_setUp) (maxL := 9) (ret := none) (by decide) rfl ?_
  intro p e s m args below meth c s₁ B hml hv
  obtain ⟨hargs9, hI⟩ := hv
  have hx := B.exec
  have hb := B.bytes
  have hr := B.returns
  have hlocks := B.notSynchronized
  have X : zC E p m c cX7_setUp 9 s args wsX7_setUp RX7 := z_open B hml hI
  have hown := X.1.2.2.2.1
  have hts := X.1.2.2.2.2
  have J := hI.J
  have hi_X7 : ∀ w ∈ wsX70, w ∈ wsX7_setUp := by decide +kernel
  have hk : zK [12] ws ws := zK.rf
  have hl := lv_entry ([.ref mo, .int (nI i), .int co, .int ro, .int le, .int dn, .int he, .int ga]) (n := 9) (Nat.le_of_ble_eq_true rfl)
  rw [show entryFrame m args 9 = entryFrame m ([.ref mo, .int (nI i), .int co, .int ro, .int le, .int dn, .int he, .int ga] : List Value).toArray 9 from by rw [hargs9], lg_entry_eq]
  generalize (lg_sl ([.ref mo, .int (nI i), .int co, .int ro, .int le, .int dn, .int he, .int ga]) ++ List.replicate (9 - (lg_sl ([.ref mo, .int (nI i), .int co, .int ro, .int le, .int dn, .int he, .int ga])).length) Slot.unset).toArray = ls at hl ⊢
  have hl : lv_has ls 9 [(0, .ref mo), (1, .int (nI i)), (2, .int co), (3, .int ro), (4, .int le), (5, .int dn), (6, .int he), (7, .int ga)] := hl
  generalize hQ : (MQ below (va_Qv (fun (ws' : va_W) => (zK [12] ws ws') ∧ (ws'[12]? = some (mf, zI4 E 66 (fput fa i co ro le (b01 dn) he ga)))) (zI E) (zA E)) args s 1 6 (zA E)) = QQ
  refine lv_bipush (v := 6) hx hb dX7_setUp_0 (by decide) ?_
  refine z_newa (N' := 6) X J (by decide +kernel) (by decide) (by decide) (Nat.le_of_ble_eq_true rfl) (Nat.le_of_ble_eq_true rfl) (Nat.le_of_ble_eq_true rfl) dX7_setUp_2 (fun q2 H J => ?_)
  have lp1 := hk.1
  have hk := hk.trans (zK.app (more := [(q2, zI4 E 6 (fun _ => 0))]))
  have bG1_0 := zlt Fa0
  have G1_0 := zapp (x := (q2, zI4 E 6 (fun _ => 0))) Fa0
  have bG1_1 := zlt Fa1
  have G1_1 := zapp (x := (q2, zI4 E 6 (fun _ => 0))) Fa1
  have G1_n := zapp_new (ws := ws) (x := (q2, zI4 E 6 (fun _ => 0)))
  generalize hws1 : ws ++ [(q2, zI4 E 6 (fun _ => 0))] = ws_1 at J hk G1_0 G1_1 G1_n
  generalize hpn1 : ws.length = pn_1 at G1_n lp1 bG1_0 bG1_1
  refine lv_dup hx hb dX7_setUp_4 rfl ?_
  refine lv_iconst (v := 0) hx hb dX7_setUp_5 (by decide) ?_
  refine lv_iload_n hx hb dX7_setUp_6 rfl (lv_at hl 2 rfl) ?_
  refine z_iast X J pn_1 G1_n (by unfold vp_in; decide) dX7_setUp_7 (fun H locs J => ?_)
  rw [show upd (fun _ => 0) (0 : Int32).toNatClampNeg co = upd (fun _ => 0) 0 co from rfl] at J
  have hk := hk.setNew (q := pn_1) (e := (q2, zI4 E 6 (upd (fun _ => 0) 0 co))) (by omega)
  have G2_0 := zset_ne (q := pn_1) (e' := (q2, zI4 E 6 (upd (fun _ => 0) 0 co))) (by omega) G1_0
  have G2_1 := zset_ne (q := pn_1) (e' := (q2, zI4 E 6 (upd (fun _ => 0) 0 co))) (by omega) G1_1
  have G2_2 := zset_eq (e' := (q2, zI4 E 6 (upd (fun _ => 0) 0 co))) G1_n
  generalize hws2 : (ws_1.set pn_1 (q2, zI4 E 6 (upd (fun _ => 0) 0 co))) = ws_2 at J hk G2_0 G2_1 G2_2
  refine lv_dup hx hb dX7_setUp_8 rfl ?_
  refine lv_iconst (v := 1) hx hb dX7_setUp_9 (by decide) ?_
  refine lv_iload_n hx hb dX7_setUp_10 rfl (lv_at hl 3 rfl) ?_
  refine z_iast X J pn_1 G2_2 (by unfold vp_in; decide) dX7_setUp_11 (fun H locs J => ?_)
  rw [show upd (upd (fun _ => 0) 0 co) (1 : Int32).toNatClampNeg ro = upd (upd (fun _ => 0) 0 co) 1 ro from rfl] at J
  have hk := hk.setNew (q := pn_1) (e := (q2, zI4 E 6 (upd (upd (fun _ => 0) 0 co) 1 ro))) (by omega)
  have G3_0 := zset_ne (q := pn_1) (e' := (q2, zI4 E 6 (upd (upd (fun _ => 0) 0 co) 1 ro))) (by omega) G2_0
  have G3_1 := zset_ne (q := pn_1) (e' := (q2, zI4 E 6 (upd (upd (fun _ => 0) 0 co) 1 ro))) (by omega) G2_1
  have G3_2 := zset_eq (e' := (q2, zI4 E 6 (upd (upd (fun _ => 0) 0 co) 1 ro))) G2_2
  generalize hws3 : (ws_2.set pn_1 (q2, zI4 E 6 (upd (upd (fun _ => 0) 0 co) 1 ro))) = ws_3 at J hk G3_0 G3_1 G3_2
  refine lv_dup hx hb dX7_setUp_12 rfl ?_
  refine lv_iconst (v := 2) hx hb dX7_setUp_13 (by decide) ?_
  refine lv_iload hx hb dX7_setUp_14 (lv_at hl 4 rfl) ?_
  refine z_iast X J pn_1 G3_2 (by unfold vp_in; decide) dX7_setUp_16 (fun H locs J => ?_)
  rw [show upd (upd (upd (fun _ => 0) 0 co) 1 ro) (2 : Int32).toNatClampNeg le = upd (upd (upd (fun _ => 0) 0 co) 1 ro) 2 le from rfl] at J
  have hk := hk.setNew (q := pn_1) (e := (q2, zI4 E 6 (upd (upd (upd (fun _ => 0) 0 co) 1 ro) 2 le))) (by omega)
  have G4_0 := zset_ne (q := pn_1) (e' := (q2, zI4 E 6 (upd (upd (upd (fun _ => 0) 0 co) 1 ro) 2 le))) (by omega) G3_0
  have G4_1 := zset_ne (q := pn_1) (e' := (q2, zI4 E 6 (upd (upd (upd (fun _ => 0) 0 co) 1 ro) 2 le))) (by omega) G3_1
  have G4_2 := zset_eq (e' := (q2, zI4 E 6 (upd (upd (upd (fun _ => 0) 0 co) 1 ro) 2 le))) G3_2
  generalize hws4 : (ws_3.set pn_1 (q2, zI4 E 6 (upd (upd (upd (fun _ => 0) 0 co) 1 ro) 2 le))) = ws_4 at J hk G4_0 G4_1 G4_2
  refine lv_dup hx hb dX7_setUp_17 rfl ?_
  refine lv_iconst (v := 3) hx hb dX7_setUp_18 (by decide) ?_
  refine lv_iload hx hb dX7_setUp_19 (lv_at hl 5 rfl) ?_
  refine lv_if_eq (tgt := 28) hx hb dX7_setUp_21 (by decide) (fun cz21 => ?_) (fun cz21 => ?_)
  · refine lv_iconst (v := 0) hx hb dX7_setUp_28 (by decide) ?_
    refine z_iast X J pn_1 G4_2 (by unfold vp_in; decide) dX7_setUp_29 (fun H locs J => ?_)
    rw [show upd (upd (upd (upd (fun _ => 0) 0 co) 1 ro) 2 le) (3 : Int32).toNatClampNeg 0 = upd (upd (upd (upd (fun _ => 0) 0 co) 1 ro) 2 le) 3 0 from rfl] at J
    have hk := hk.setNew (q := pn_1) (e := (q2, zI4 E 6 (upd (upd (upd (upd (fun _ => 0) 0 co) 1 ro) 2 le) 3 0))) (by omega)
    have G5_0 := zset_ne (q := pn_1) (e' := (q2, zI4 E 6 (upd (upd (upd (upd (fun _ => 0) 0 co) 1 ro) 2 le) 3 0))) (by omega) G4_0
    have G5_1 := zset_ne (q := pn_1) (e' := (q2, zI4 E 6 (upd (upd (upd (upd (fun _ => 0) 0 co) 1 ro) 2 le) 3 0))) (by omega) G4_1
    have G5_2 := zset_eq (e' := (q2, zI4 E 6 (upd (upd (upd (upd (fun _ => 0) 0 co) 1 ro) 2 le) 3 0))) G4_2
    generalize hws5 : (ws_4.set pn_1 (q2, zI4 E 6 (upd (upd (upd (upd (fun _ => 0) 0 co) 1 ro) 2 le) 3 0))) = ws_5 at J hk G5_0 G5_1 G5_2
    refine lv_dup hx hb dX7_setUp_30 rfl ?_
    refine lv_iconst (v := 4) hx hb dX7_setUp_31 (by decide) ?_
    refine lv_iload hx hb dX7_setUp_32 (lv_at hl 6 rfl) ?_
    refine z_iast X J pn_1 G5_2 (by unfold vp_in; decide) dX7_setUp_34 (fun H locs J => ?_)
    rw [show upd (upd (upd (upd (upd (fun _ => 0) 0 co) 1 ro) 2 le) 3 0) (4 : Int32).toNatClampNeg he = upd (upd (upd (upd (upd (fun _ => 0) 0 co) 1 ro) 2 le) 3 0) 4 he from rfl] at J
    have hk := hk.setNew (q := pn_1) (e := (q2, zI4 E 6 (upd (upd (upd (upd (upd (fun _ => 0) 0 co) 1 ro) 2 le) 3 0) 4 he))) (by omega)
    have G6_0 := zset_ne (q := pn_1) (e' := (q2, zI4 E 6 (upd (upd (upd (upd (upd (fun _ => 0) 0 co) 1 ro) 2 le) 3 0) 4 he))) (by omega) G5_0
    have G6_1 := zset_ne (q := pn_1) (e' := (q2, zI4 E 6 (upd (upd (upd (upd (upd (fun _ => 0) 0 co) 1 ro) 2 le) 3 0) 4 he))) (by omega) G5_1
    have G6_2 := zset_eq (e' := (q2, zI4 E 6 (upd (upd (upd (upd (upd (fun _ => 0) 0 co) 1 ro) 2 le) 3 0) 4 he))) G5_2
    generalize hws6 : (ws_5.set pn_1 (q2, zI4 E 6 (upd (upd (upd (upd (upd (fun _ => 0) 0 co) 1 ro) 2 le) 3 0) 4 he))) = ws_6 at J hk G6_0 G6_1 G6_2
    refine lv_dup hx hb dX7_setUp_35 rfl ?_
    refine lv_iconst (v := 5) hx hb dX7_setUp_36 (by decide) ?_
    refine lv_iload hx hb dX7_setUp_37 (lv_at hl 7 rfl) ?_
    refine z_iast X J pn_1 G6_2 (by unfold vp_in; decide) dX7_setUp_39 (fun H locs J => ?_)
    rw [show upd (upd (upd (upd (upd (upd (fun _ => 0) 0 co) 1 ro) 2 le) 3 0) 4 he) (5 : Int32).toNatClampNeg ga = upd (upd (upd (upd (upd (upd (fun _ => 0) 0 co) 1 ro) 2 le) 3 0) 4 he) 5 ga from rfl] at J
    have hk := hk.setNew (q := pn_1) (e := (q2, zI4 E 6 (upd (upd (upd (upd (upd (upd (fun _ => 0) 0 co) 1 ro) 2 le) 3 0) 4 he) 5 ga))) (by omega)
    have G7_0 := zset_ne (q := pn_1) (e' := (q2, zI4 E 6 (upd (upd (upd (upd (upd (upd (fun _ => 0) 0 co) 1 ro) 2 le) 3 0) 4 he) 5 ga))) (by omega) G6_0
    have G7_1 := zset_ne (q := pn_1) (e' := (q2, zI4 E 6 (upd (upd (upd (upd (upd (upd (fun _ => 0) 0 co) 1 ro) 2 le) 3 0) 4 he) 5 ga))) (by omega) G6_1
    have G7_2 := zset_eq (e' := (q2, zI4 E 6 (upd (upd (upd (upd (upd (upd (fun _ => 0) 0 co) 1 ro) 2 le) 3 0) 4 he) 5 ga))) G6_2
    generalize hws7 : (ws_6.set pn_1 (q2, zI4 E 6 (upd (upd (upd (upd (upd (upd (fun _ => 0) 0 co) 1 ro) 2 le) 3 0) 4 he) 5 ga))) = ws_7 at J hk G7_0 G7_1 G7_2
    refine lv_astore (lv' := [(8, .ref q2), (0, .ref mo), (1, .int (nI i)), (2, .int co), (3, .int ro), (4, .int le), (5, .int dn), (6, .int he), (7, .int ga)]) hx hb dX7_setUp_40 hl (by decide) rfl (fun ls hl => ?_)
    refine lv_aload hx hb dX7_setUp_42 (lv_at hl 0 rfl) ?_
    refine lv_iconst (v := 0) hx hb dX7_setUp_44 (by decide) ?_
    refine lv_aload_n hx hb dX7_setUp_45 rfl (lv_at hl 1 rfl) ?_
    refine z_get (C := RX7) (T := TX7) (N := 14) (ci := 8) (v := .ref mf) X J hi_X7 11 G7_0 rfl 2 (by decide) (by decide +kernel) rfl dX7_setUp_46 ?_
    refine lv_bipush (v := 6) hx hb dX7_setUp_49 (by decide) ?_
    refine lv_iload_n hx hb dX7_setUp_51 rfl (lv_at hl 2 rfl) ?_
    refine lv_imul hx hb dX7_setUp_52 ?_
    refine lv_bipush (v := 6) hx hb dX7_setUp_53 (by decide) ?_
    refine z_copyI X J hl.1 (index := 70) (by decide +kernel) (by decide +kernel) (by decide +kernel) (by decide +kernel) pn_1 12 G7_2 G7_1 (by decide) (by rw [nI_6]; exact nI_pos (by omega)) (by decide) (by decide) (by rw [six_clamp hi9]; show 6 * i + 6 ≤ 66; omega) (Nat.le_of_ble_eq_true rfl) (Nat.le_of_ble_eq_true (by decide +kernel)) dX7_setUp_55 (fun H locs J => ?_)
    have hk := hk.trans (zK.set (ws := ws_7) (q := 12) (e := (mf, zI4 E 66 (va_cpy (upd (upd (upd (upd (upd (upd (fun _ => 0) 0 co) 1 ro) 2 le) 3 0) 4 he) 5 ga) fa (0 : Int32).toNatClampNeg (6 * (nI i) : Int32).toNatClampNeg (6 : Int32).toNatClampNeg))) (by simp))
    have G8_0 := zset_ne (q := 12) (e' := (mf, zI4 E 66 (va_cpy (upd (upd (upd (upd (upd (upd (fun _ => 0) 0 co) 1 ro) 2 le) 3 0) 4 he) 5 ga) fa (0 : Int32).toNatClampNeg (6 * (nI i) : Int32).toNatClampNeg (6 : Int32).toNatClampNeg))) (by decide) G7_0
    have G8_1 := zset_eq (e' := (mf, zI4 E 66 (va_cpy (upd (upd (upd (upd (upd (upd (fun _ => 0) 0 co) 1 ro) 2 le) 3 0) 4 he) 5 ga) fa (0 : Int32).toNatClampNeg (6 * (nI i) : Int32).toNatClampNeg (6 : Int32).toNatClampNeg))) G7_1
    have G8_2 := zset_ne (q := 12) (e' := (mf, zI4 E 66 (va_cpy (upd (upd (upd (upd (upd (upd (fun _ => 0) 0 co) 1 ro) 2 le) 3 0) 4 he) 5 ga) fa (0 : Int32).toNatClampNeg (6 * (nI i) : Int32).toNatClampNeg (6 : Int32).toNatClampNeg))) (by omega) G7_2
    generalize hws8 : (ws_7.set 12 (mf, zI4 E 66 (va_cpy (upd (upd (upd (upd (upd (upd (fun _ => 0) 0 co) 1 ro) 2 le) 3 0) 4 he) 5 ga) fa (0 : Int32).toNatClampNeg (6 * (nI i) : Int32).toNatClampNeg (6 : Int32).toNatClampNeg))) = ws_8 at J hk G8_0 G8_1 G8_2
    have eb9 : b01 dn = 0 := b01_0 cz21
    have J := J.congr 12 (g := (fput fa i co ro le (b01 dn) he ga)) G8_1 (fun j hj => by rw [eb9, ← setUp_cpy j, six_clamp hi9]; rfl)
    have hk := hk.trans (zK.set (ws := ws_8) (q := 12) (e := (mf, zI4 E 66 (fput fa i co ro le (b01 dn) he ga))) (by simp))
    have G9_0 := zset_ne (q := 12) (e' := (mf, zI4 E 66 (fput fa i co ro le (b01 dn) he ga))) (by decide) G8_0
    have G9_1 := zset_eq (e' := (mf, zI4 E 66 (fput fa i co ro le (b01 dn) he ga))) G8_1
    have G9_2 := zset_ne (q := 12) (e' := (mf, zI4 E 66 (fput fa i co ro le (b01 dn) he ga))) (by omega) G8_2
    generalize hws9 : (ws_8.set 12 (mf, zI4 E 66 (fput fa i co ro le (b01 dn) he ga))) = ws_9 at J hk G9_0 G9_1 G9_2
    subst hQ
    exact W.vret hx hb hr (fun t ht hW => ⟨⟨ws_9, rfl, ⟨hk, G9_1⟩, J.I X ht hW.alike⟩, J.F ht⟩) J.locs dX7_setUp_58
  · refine lv_iconst (v := 1) hx hb dX7_setUp_24 (by decide) ?_
    refine lv_goto (tgt := 29) hx hb dX7_setUp_25 (by decide) ?_
    refine z_iast X J pn_1 G4_2 (by unfold vp_in; decide) dX7_setUp_29 (fun H locs J => ?_)
    rw [show upd (upd (upd (upd (fun _ => 0) 0 co) 1 ro) 2 le) (3 : Int32).toNatClampNeg 1 = upd (upd (upd (upd (fun _ => 0) 0 co) 1 ro) 2 le) 3 1 from rfl] at J
    have hk := hk.setNew (q := pn_1) (e := (q2, zI4 E 6 (upd (upd (upd (upd (fun _ => 0) 0 co) 1 ro) 2 le) 3 1))) (by omega)
    have G5_0 := zset_ne (q := pn_1) (e' := (q2, zI4 E 6 (upd (upd (upd (upd (fun _ => 0) 0 co) 1 ro) 2 le) 3 1))) (by omega) G4_0
    have G5_1 := zset_ne (q := pn_1) (e' := (q2, zI4 E 6 (upd (upd (upd (upd (fun _ => 0) 0 co) 1 ro) 2 le) 3 1))) (by omega) G4_1
    have G5_2 := zset_eq (e' := (q2, zI4 E 6 (upd (upd (upd (upd (fun _ => 0) 0 co) 1 ro) 2 le) 3 1))) G4_2
    generalize hws5 : (ws_4.set pn_1 (q2, zI4 E 6 (upd (upd (upd (upd (fun _ => 0) 0 co) 1 ro) 2 le) 3 1))) = ws_5 at J hk G5_0 G5_1 G5_2
    refine lv_dup hx hb dX7_setUp_30 rfl ?_
    refine lv_iconst (v := 4) hx hb dX7_setUp_31 (by decide) ?_
    refine lv_iload hx hb dX7_setUp_32 (lv_at hl 6 rfl) ?_
    refine z_iast X J pn_1 G5_2 (by unfold vp_in; decide) dX7_setUp_34 (fun H locs J => ?_)
    rw [show upd (upd (upd (upd (upd (fun _ => 0) 0 co) 1 ro) 2 le) 3 1) (4 : Int32).toNatClampNeg he = upd (upd (upd (upd (upd (fun _ => 0) 0 co) 1 ro) 2 le) 3 1) 4 he from rfl] at J
    have hk := hk.setNew (q := pn_1) (e := (q2, zI4 E 6 (upd (upd (upd (upd (upd (fun _ => 0) 0 co) 1 ro) 2 le) 3 1) 4 he))) (by omega)
    have G6_0 := zset_ne (q := pn_1) (e' := (q2, zI4 E 6 (upd (upd (upd (upd (upd (fun _ => 0) 0 co) 1 ro) 2 le) 3 1) 4 he))) (by omega) G5_0
    have G6_1 := zset_ne (q := pn_1) (e' := (q2, zI4 E 6 (upd (upd (upd (upd (upd (fun _ => 0) 0 co) 1 ro) 2 le) 3 1) 4 he))) (by omega) G5_1
    have G6_2 := zset_eq (e' := (q2, zI4 E 6 (upd (upd (upd (upd (upd (fun _ => 0) 0 co) 1 ro) 2 le) 3 1) 4 he))) G5_2
    generalize hws6 : (ws_5.set pn_1 (q2, zI4 E 6 (upd (upd (upd (upd (upd (fun _ => 0) 0 co) 1 ro) 2 le) 3 1) 4 he))) = ws_6 at J hk G6_0 G6_1 G6_2
    refine lv_dup hx hb dX7_setUp_35 rfl ?_
    refine lv_iconst (v := 5) hx hb dX7_setUp_36 (by decide) ?_
    refine lv_iload hx hb dX7_setUp_37 (lv_at hl 7 rfl) ?_
    refine z_iast X J pn_1 G6_2 (by unfold vp_in; decide) dX7_setUp_39 (fun H locs J => ?_)
    rw [show upd (upd (upd (upd (upd (upd (fun _ => 0) 0 co) 1 ro) 2 le) 3 1) 4 he) (5 : Int32).toNatClampNeg ga = upd (upd (upd (upd (upd (upd (fun _ => 0) 0 co) 1 ro) 2 le) 3 1) 4 he) 5 ga from rfl] at J
    have hk := hk.setNew (q := pn_1) (e := (q2, zI4 E 6 (upd (upd (upd (upd (upd (upd (fun _ => 0) 0 co) 1 ro) 2 le) 3 1) 4 he) 5 ga))) (by omega)
    have G7_0 := zset_ne (q := pn_1) (e' := (q2, zI4 E 6 (upd (upd (upd (upd (upd (upd (fun _ => 0) 0 co) 1 ro) 2 le) 3 1) 4 he) 5 ga))) (by omega) G6_0
    have G7_1 := zset_ne (q := pn_1) (e' := (q2, zI4 E 6 (upd (upd (upd (upd (upd (upd (fun _ => 0) 0 co) 1 ro) 2 le) 3 1) 4 he) 5 ga))) (by omega) G6_1
    have G7_2 := zset_eq (e' := (q2, zI4 E 6 (upd (upd (upd (upd (upd (upd (fun _ => 0) 0 co) 1 ro) 2 le) 3 1) 4 he) 5 ga))) G6_2
    generalize hws7 : (ws_6.set pn_1 (q2, zI4 E 6 (upd (upd (upd (upd (upd (upd (fun _ => 0) 0 co) 1 ro) 2 le) 3 1) 4 he) 5 ga))) = ws_7 at J hk G7_0 G7_1 G7_2
    refine lv_astore (lv' := [(8, .ref q2), (0, .ref mo), (1, .int (nI i)), (2, .int co), (3, .int ro), (4, .int le), (5, .int dn), (6, .int he), (7, .int ga)]) hx hb dX7_setUp_40 hl (by decide) rfl (fun ls hl => ?_)
    refine lv_aload hx hb dX7_setUp_42 (lv_at hl 0 rfl) ?_
    refine lv_iconst (v := 0) hx hb dX7_setUp_44 (by decide) ?_
    refine lv_aload_n hx hb dX7_setUp_45 rfl (lv_at hl 1 rfl) ?_
    refine z_get (C := RX7) (T := TX7) (N := 14) (ci := 8) (v := .ref mf) X J hi_X7 11 G7_0 rfl 2 (by decide) (by decide +kernel) rfl dX7_setUp_46 ?_
    refine lv_bipush (v := 6) hx hb dX7_setUp_49 (by decide) ?_
    refine lv_iload_n hx hb dX7_setUp_51 rfl (lv_at hl 2 rfl) ?_
    refine lv_imul hx hb dX7_setUp_52 ?_
    refine lv_bipush (v := 6) hx hb dX7_setUp_53 (by decide) ?_
    refine z_copyI X J hl.1 (index := 70) (by decide +kernel) (by decide +kernel) (by decide +kernel) (by decide +kernel) pn_1 12 G7_2 G7_1 (by decide) (by rw [nI_6]; exact nI_pos (by omega)) (by decide) (by decide) (by rw [six_clamp hi9]; show 6 * i + 6 ≤ 66; omega) (Nat.le_of_ble_eq_true rfl) (Nat.le_of_ble_eq_true (by decide +kernel)) dX7_setUp_55 (fun H locs J => ?_)
    have hk := hk.trans (zK.set (ws := ws_7) (q := 12) (e := (mf, zI4 E 66 (va_cpy (upd (upd (upd (upd (upd (upd (fun _ => 0) 0 co) 1 ro) 2 le) 3 1) 4 he) 5 ga) fa (0 : Int32).toNatClampNeg (6 * (nI i) : Int32).toNatClampNeg (6 : Int32).toNatClampNeg))) (by simp))
    have G8_0 := zset_ne (q := 12) (e' := (mf, zI4 E 66 (va_cpy (upd (upd (upd (upd (upd (upd (fun _ => 0) 0 co) 1 ro) 2 le) 3 1) 4 he) 5 ga) fa (0 : Int32).toNatClampNeg (6 * (nI i) : Int32).toNatClampNeg (6 : Int32).toNatClampNeg))) (by decide) G7_0
    have G8_1 := zset_eq (e' := (mf, zI4 E 66 (va_cpy (upd (upd (upd (upd (upd (upd (fun _ => 0) 0 co) 1 ro) 2 le) 3 1) 4 he) 5 ga) fa (0 : Int32).toNatClampNeg (6 * (nI i) : Int32).toNatClampNeg (6 : Int32).toNatClampNeg))) G7_1
    have G8_2 := zset_ne (q := 12) (e' := (mf, zI4 E 66 (va_cpy (upd (upd (upd (upd (upd (upd (fun _ => 0) 0 co) 1 ro) 2 le) 3 1) 4 he) 5 ga) fa (0 : Int32).toNatClampNeg (6 * (nI i) : Int32).toNatClampNeg (6 : Int32).toNatClampNeg))) (by omega) G7_2
    generalize hws8 : (ws_7.set 12 (mf, zI4 E 66 (va_cpy (upd (upd (upd (upd (upd (upd (fun _ => 0) 0 co) 1 ro) 2 le) 3 1) 4 he) 5 ga) fa (0 : Int32).toNatClampNeg (6 * (nI i) : Int32).toNatClampNeg (6 : Int32).toNatClampNeg))) = ws_8 at J hk G8_0 G8_1 G8_2
    have eb9 : b01 dn = 1 := b01_1 cz21
    have J := J.congr 12 (g := (fput fa i co ro le (b01 dn) he ga)) G8_1 (fun j hj => by rw [eb9, ← setUp_cpy j, six_clamp hi9]; rfl)
    have hk := hk.trans (zK.set (ws := ws_8) (q := 12) (e := (mf, zI4 E 66 (fput fa i co ro le (b01 dn) he ga))) (by simp))
    have G9_0 := zset_ne (q := 12) (e' := (mf, zI4 E 66 (fput fa i co ro le (b01 dn) he ga))) (by decide) G8_0
    have G9_1 := zset_eq (e' := (mf, zI4 E 66 (fput fa i co ro le (b01 dn) he ga))) G8_1
    have G9_2 := zset_ne (q := 12) (e' := (mf, zI4 E 66 (fput fa i co ro le (b01 dn) he ga))) (by omega) G8_2
    generalize hws9 : (ws_8.set 12 (mf, zI4 E 66 (fput fa i co ro le (b01 dn) he ga))) = ws_9 at J hk G9_0 G9_1 G9_2
    subst hQ
    exact W.vret hx hb hr (fun t ht hW => ⟨⟨ws_9, rfl, ⟨hk, G9_1⟩, J.I X ht hW.alike⟩, J.F ht⟩) J.locs dX7_setUp_58
set_option maxHeartbeats 4000000 in
set_option maxRecDepth 100000 in
theorem cX7_setLimit_ok (l : Launch) (E : zG) {ws : va_W} {mo mf md mi ms9 mk mt nf nr : Nat} {th lim sup off plo hrs : Int32} {x : Int32} (Fa0 : ws[11]? = some (mo, .inr (8, [.int th, .int (nI nf), .ref mf, .int (nI nr), .ref md, .ref mi, .int lim, .int sup, .int off, .int plo, .int hrs, .ref ms9, .ref mk, .ref mt])))  : Met l yX7_setLimit wsX7_setLimit ({ frames := 1, cells := 0, slots := 0, locals := 22 } : Room) (va_Pc [.ref mo, .int x] (zI E ws)) (va_Qi (fun (r : Int32) (ws' : va_W) => (zK [11] ws ws') ∧ (ws'[11]? = some (mo, .inr (8, [.int (kLim x), .int (nI nf), .ref mf, .int (nI nr), .ref md, .ref mi, .int (sel (kLim x) x lim), .int sup, .int off, .int plo, .int hrs, .ref ms9, .ref mk, .ref mt]))) ∧ (r = sel (kLim x) lim 0)) (zI E) (zA E)) 0 0 (zA E) := by
  refine Met.ofW (cc := cX7_setLimit) (maxL := 3) (ret := (some .int)) (by decide) rfl ?_
  intro p e s m args below meth c s₁ B hml hv
  obtain ⟨hargs9, hI⟩ := hv
  have hx := B.exec
  have hb := B.bytes
  have hr := B.returns
  have hlocks := B.notSynchronized
  have X : zC E p m c cX7_setLimit 3 s args wsX7_setLimit RX7 := z_open B hml hI
  have hown := X.1.2.2.2.1
  have hts := X.1.2.2.2.2
  have J := hI.J
  have hi_X7 : ∀ w ∈ wsX70, w ∈ wsX7_setLimit := by decide +kernel
  have hk : zK [11] ws ws := zK.rf
  have hl := lv_entry ([.ref mo, .int x]) (n := 3) (Nat.le_of_ble_eq_true rfl)
  rw [show entryFrame m args 3 = entryFrame m ([.ref mo, .int x] : List Value).toArray 3 from by rw [hargs9], lg_entry_eq]
  generalize (lg_sl ([.ref mo, .int x]) ++ List.replicate (3 - (lg_sl ([.ref mo, .int x])).length) Slot.unset).toArray = ls at hl ⊢
  have hl : lv_has ls 3 [(0, .ref mo), (1, .int x)] := hl
  generalize hQ : (MQ below (va_Qi (fun (r : Int32) (ws' : va_W) => (zK [11] ws ws') ∧ (ws'[11]? = some (mo, .inr (8, [.int (kLim x), .int (nI nf), .ref mf, .int (nI nr), .ref md, .ref mi, .int (sel (kLim x) x lim), .int sup, .int off, .int plo, .int hrs, .ref ms9, .ref mk, .ref mt]))) ∧ (r = sel (kLim x) lim 0)) (zI E) (zA E)) args s 0 0 (zA E)) = QQ
  refine lv_aload_n hx hb dX7_setLimit_0 rfl (lv_at hl 0 rfl) ?_
  refine lv_iconst (v := 0) hx hb dX7_setLimit_1 (by decide) ?_
  refine z_put (C := RX7) (T := TX7) (N := 14) (ci := 8) (v := .int 0) X J hi_X7 tyX7 tyX7_ok nmX7 11 Fa0 rfl 0 (by decide) (by decide +kernel) rfl rfl rfl (Nat.le_of_ble_eq_true rfl) dX7_setLimit_2 (fun H locs J => ?_)
  have J : zJ E (ws.set 11 (mo, .inr (8, [.int 0, .int (nI nf), .ref mf, .int (nI nr), .ref md, .ref mi, .int lim, .int sup, .int off, .int plo, .int hrs, .ref ms9, .ref mk, .ref mt]))) s H locs := J
  have hk := hk.trans (zK.set (ws := ws) (q := 11) (e := (mo, .inr (8, [.int 0, .int (nI nf), .ref mf, .int (nI nr), .ref md, .ref mi, .int lim, .int sup, .int off, .int plo, .int hrs, .ref ms9, .ref mk, .ref mt]))) (by simp))
  have G1_0 := zset_eq (e' := (mo, .inr (8, [.int 0, .int (nI nf), .ref mf, .int (nI nr), .ref md, .ref mi, .int lim, .int sup, .int off, .int plo, .int hrs, .ref ms9, .ref mk, .ref mt]))) Fa0
  generalize hws1 : (ws.set 11 (mo, .inr (8, [.int 0, .int (nI nf), .ref mf, .int (nI nr), .ref md, .ref mi, .int lim, .int sup, .int off, .int plo, .int hrs, .ref ms9, .ref mk, .ref mt]))) = ws_1 at J hk G1_0
  refine lv_iload_n hx hb dX7_setLimit_5 rfl (lv_at hl 1 rfl) ?_
  refine lv_iconst (v := 1) hx hb dX7_setLimit_6 (by decide) ?_
  refine lv_bipush (v := 60) hx hb dX7_setLimit_7 (by decide) ?_
  refine z_cr (z_rS (As := [.int x, .int 1, .int 60]) (rest := []) X J (cX7_isIn_ok l E) (va_cwS 3 hts gX7_setLimit_X7_isIn rfl rfl rfl (by decide +kernel) ⟨Nat.le_of_ble_eq_true rfl, Nat.le_of_ble_eq_true rfl⟩) rfl hl.1 rfl (Nat.le_of_ble_eq_true rfl) dX7_setLimit_9 ⟨Nat.le_of_ble_eq_true rfl, Nat.le_of_ble_eq_true rfl⟩) (fun r9 e_r9 => ?_)
  subst e_r9
  refine lv_if_ne (tgt := 21) hx hb dX7_setLimit_12 (by decide) (fun cz12 => ?_) (fun cz12 => ?_)
  · refine lv_aload_n hx hb dX7_setLimit_21 rfl (lv_at hl 0 rfl) ?_
    refine z_get (C := RX7) (T := TX7) (N := 14) (ci := 8) (v := .int lim) X J hi_X7 11 G1_0 rfl 6 (by decide) (by decide +kernel) rfl dX7_setLimit_22 ?_
    refine lv_istore_n (lv' := [(2, .int lim), (0, .ref mo), (1, .int x)]) hx hb dX7_setLimit_25 rfl hl (by decide) rfl (fun ls hl => ?_)
    refine lv_aload_n hx hb dX7_setLimit_26 rfl (lv_at hl 1 rfl) ?_
    refine lv_iload_n hx hb dX7_setLimit_27 rfl (lv_at hl 2 rfl) ?_
    refine z_put (C := RX7) (T := TX7) (N := 14) (ci := 8) (v := .int x) X J hi_X7 tyX7 tyX7_ok nmX7 11 G1_0 rfl 6 (by decide) (by decide +kernel) rfl rfl rfl (Nat.le_of_ble_eq_true rfl) dX7_setLimit_28 (fun H locs J => ?_)
    have J : zJ E (ws_1.set 11 (mo, .inr (8, [.int 0, .int (nI nf), .ref mf, .int (nI nr), .ref md, .ref mi, .int x, .int sup, .int off, .int plo, .int hrs, .ref ms9, .ref mk, .ref mt]))) s H locs := J
    have hk := hk.trans (zK.set (ws := ws_1) (q := 11) (e := (mo, .inr (8, [.int 0, .int (nI nf), .ref mf, .int (nI nr), .ref md, .ref mi, .int x, .int sup, .int off, .int plo, .int hrs, .ref ms9, .ref mk, .ref mt]))) (by simp))
    have G2_0 := zset_eq (e' := (mo, .inr (8, [.int 0, .int (nI nf), .ref mf, .int (nI nr), .ref md, .ref mi, .int x, .int sup, .int off, .int plo, .int hrs, .ref ms9, .ref mk, .ref mt]))) G1_0
    generalize hws2 : (ws_1.set 11 (mo, .inr (8, [.int 0, .int (nI nf), .ref mf, .int (nI nr), .ref md, .ref mi, .int x, .int sup, .int off, .int plo, .int hrs, .ref ms9, .ref mk, .ref mt]))) = ws_2 at J hk G2_0
    refine lv_iload_n hx hb dX7_setLimit_31 rfl (lv_at hl 0 rfl) ?_
    have hk0 : (kLim x) = 0 := if_pos (isInS_y cz12)
    subst hQ
    exact W.iret (v := lim) hx hb hr (fun t ht hW => ⟨⟨lim, ws_2, rfl, ⟨hk, (by simp only [hk0, sel0, sel1, sel2, sel3]; exact G2_0), (by simp only [hk0, sel0, sel1, sel2, sel3])⟩, J.I X ht hW.alike⟩, J.F ht⟩) J.locs dX7_setLimit_32
  · refine lv_aload_n hx hb dX7_setLimit_15 rfl (lv_at hl 0 rfl) ?_
    refine lv_iconst (v := 1) hx hb dX7_setLimit_16 (by decide) ?_
    refine z_ci J (z_rV (As := [.int 1]) (rest := []) (ci := 8) (q0 := 11) X J (cX7_no_ok l E G1_0) (cwV 1 hts gX7_setLimit_X7_no rfl rfl rfl (by decide +kernel) ⟨Nat.le_of_ble_eq_true rfl, Nat.le_of_ble_eq_true rfl⟩) G1_0 rfl rfl rfl hl.1 rfl (Nat.le_of_ble_eq_true rfl) dX7_setLimit_17 ⟨Nat.le_of_ble_eq_true rfl, Nat.le_of_ble_eq_true rfl⟩) (fun r17 ws_2 H locs hp9 J => ?_)
    obtain ⟨k2, hl9_2, G2_a0, e_r17⟩ := hp9
    have hk := hk.trans (k2.mono (by decide))
    subst e_r17
    have hk0 : (kLim x) = 1 := if_neg (isInS_n cz12)
    subst hQ
    exact W.iret (v := 0) hx hb hr (fun t ht hW => ⟨⟨0, ws_2, rfl, ⟨hk, (by simp only [hk0, sel0, sel1, sel2, sel3]; exact G2_a0), (by simp only [hk0, sel0, sel1, sel2, sel3])⟩, J.I X ht hW.alike⟩, J.F ht⟩) J.locs dX7_setLimit_20
set_option maxHeartbeats 4000000 in
set_option maxRecDepth 100000 in
theorem cX7_setSupply_ok (l : Launch) (E : zG) {ws : va_W} {mo mf md mi ms9 mk mt nf nr : Nat} {th lim sup off plo hrs : Int32} {x : Int32} (Fa0 : ws[11]? = some (mo, .inr (8, [.int th, .int (nI nf), .ref mf, .int (nI nr), .ref md, .ref mi, .int lim, .int sup, .int off, .int plo, .int hrs, .ref ms9, .ref mk, .ref mt])))  : Met l yX7_setSupply wsX7_setSupply ({ frames := 1, cells := 0, slots := 0, locals := 22 } : Room) (va_Pc [.ref mo, .int x] (zI E ws)) (va_Qi (fun (r : Int32) (ws' : va_W) => (zK [11] ws ws') ∧ (ws'[11]? = some (mo, .inr (8, [.int (kSup x), .int (nI nf), .ref mf, .int (nI nr), .ref md, .ref mi, .int lim, .int (sel (kSup x) x sup), .int off, .int plo, .int hrs, .ref ms9, .ref mk, .ref mt]))) ∧ (r = sel (kSup x) sup 0)) (zI E) (zA E)) 0 0 (zA E) := by
  refine Met.ofW (cc := cX7_setSupply) (maxL := 3) (ret := (some .int)) (by decide) rfl ?_
  intro p e s m args below meth c s₁ B hml hv
  obtain ⟨hargs9, hI⟩ := hv
  have hx := B.exec
  have hb := B.bytes
  have hr := B.returns
  have hlocks := B.notSynchronized
  have X : zC E p m c cX7_setSupply 3 s args wsX7_setSupply RX7 := z_open B hml hI
  have hown := X.1.2.2.2.1
  have hts := X.1.2.2.2.2
  have J := hI.J
  have hi_X7 : ∀ w ∈ wsX70, w ∈ wsX7_setSupply := by decide +kernel
  have hk : zK [11] ws ws := zK.rf
  have hl := lv_entry ([.ref mo, .int x]) (n := 3) (Nat.le_of_ble_eq_true rfl)
  rw [show entryFrame m args 3 = entryFrame m ([.ref mo, .int x] : List Value).toArray 3 from by rw [hargs9], lg_entry_eq]
  generalize (lg_sl ([.ref mo, .int x]) ++ List.replicate (3 - (lg_sl ([.ref mo, .int x])).length) Slot.unset).toArray = ls at hl ⊢
  have hl : lv_has ls 3 [(0, .ref mo), (1, .int x)] := hl
  generalize hQ : (MQ below (va_Qi (fun (r : Int32) (ws' : va_W) => (zK [11] ws ws') ∧ (ws'[11]? = some (mo, .inr (8, [.int (kSup x), .int (nI nf), .ref mf, .int (nI nr), .ref md, .ref mi, .int lim, .int (sel (kSup x) x sup), .int off, .int plo, .int hrs, .ref ms9, .ref mk, .ref mt]))) ∧ (r = sel (kSup x) sup 0)) (zI E) (zA E)) args s 0 0 (zA E)) = QQ
  refine lv_aload_n hx hb dX7_setSupply_0 rfl (lv_at hl 0 rfl) ?_
  refine lv_iconst (v := 0) hx hb dX7_setSupply_1 (by decide) ?_
  refine z_put (C := RX7) (T := TX7) (N := 14) (ci := 8) (v := .int 0) X J hi_X7 tyX7 tyX7_ok nmX7 11 Fa0 rfl 0 (by decide) (by decide +kernel) rfl rfl rfl (Nat.le_of_ble_eq_true rfl) dX7_setSupply_2 (fun H locs J => ?_)
  have J : zJ E (ws.set 11 (mo, .inr (8, [.int 0, .int (nI nf), .ref mf, .int (nI nr), .ref md, .ref mi, .int lim, .int sup, .int off, .int plo, .int hrs, .ref ms9, .ref mk, .ref mt]))) s H locs := J
  have hk := hk.trans (zK.set (ws := ws) (q := 11) (e := (mo, .inr (8, [.int 0, .int (nI nf), .ref mf, .int (nI nr), .ref md, .ref mi, .int lim, .int sup, .int off, .int plo, .int hrs, .ref ms9, .ref mk, .ref mt]))) (by simp))
  have G1_0 := zset_eq (e' := (mo, .inr (8, [.int 0, .int (nI nf), .ref mf, .int (nI nr), .ref md, .ref mi, .int lim, .int sup, .int off, .int plo, .int hrs, .ref ms9, .ref mk, .ref mt]))) Fa0
  generalize hws1 : (ws.set 11 (mo, .inr (8, [.int 0, .int (nI nf), .ref mf, .int (nI nr), .ref md, .ref mi, .int lim, .int sup, .int off, .int plo, .int hrs, .ref ms9, .ref mk, .ref mt]))) = ws_1 at J hk G1_0
  refine lv_iload_n hx hb dX7_setSupply_5 rfl (lv_at hl 1 rfl) ?_
  refine lv_iconst (v := 0) hx hb dX7_setSupply_6 (by decide) ?_
  refine lv_bipush (v := 40) hx hb dX7_setSupply_7 (by decide) ?_
  refine z_cr (z_rS (As := [.int x, .int 0, .int 40]) (rest := []) X J (cX7_isIn_ok l E) (va_cwS 3 hts gX7_setSupply_X7_isIn rfl rfl rfl (by decide +kernel) ⟨Nat.le_of_ble_eq_true rfl, Nat.le_of_ble_eq_true rfl⟩) rfl hl.1 rfl (Nat.le_of_ble_eq_true rfl) dX7_setSupply_9 ⟨Nat.le_of_ble_eq_true rfl, Nat.le_of_ble_eq_true rfl⟩) (fun r9 e_r9 => ?_)
  subst e_r9
  refine lv_if_ne (tgt := 21) hx hb dX7_setSupply_12 (by decide) (fun cz12 => ?_) (fun cz12 => ?_)
  · refine lv_aload_n hx hb dX7_setSupply_21 rfl (lv_at hl 0 rfl) ?_
    refine z_get (C := RX7) (T := TX7) (N := 14) (ci := 8) (v := .int sup) X J hi_X7 11 G1_0 rfl 7 (by decide) (by decide +kernel) rfl dX7_setSupply_22 ?_
    refine lv_istore_n (lv' := [(2, .int sup), (0, .ref mo), (1, .int x)]) hx hb dX7_setSupply_25 rfl hl (by decide) rfl (fun ls hl => ?_)
    refine lv_aload_n hx hb dX7_setSupply_26 rfl (lv_at hl 1 rfl) ?_
    refine lv_iload_n hx hb dX7_setSupply_27 rfl (lv_at hl 2 rfl) ?_
    refine z_put (C := RX7) (T := TX7) (N := 14) (ci := 8) (v := .int x) X J hi_X7 tyX7 tyX7_ok nmX7 11 G1_0 rfl 7 (by decide) (by decide +kernel) rfl rfl rfl (Nat.le_of_ble_eq_true rfl) dX7_setSupply_28 (fun H locs J => ?_)
    have J : zJ E (ws_1.set 11 (mo, .inr (8, [.int 0, .int (nI nf), .ref mf, .int (nI nr), .ref md, .ref mi, .int lim, .int x, .int off, .int plo, .int hrs, .ref ms9, .ref mk, .ref mt]))) s H locs := J
    have hk := hk.trans (zK.set (ws := ws_1) (q := 11) (e := (mo, .inr (8, [.int 0, .int (nI nf), .ref mf, .int (nI nr), .ref md, .ref mi, .int lim, .int x, .int off, .int plo, .int hrs, .ref ms9, .ref mk, .ref mt]))) (by simp))
    have G2_0 := zset_eq (e' := (mo, .inr (8, [.int 0, .int (nI nf), .ref mf, .int (nI nr), .ref md, .ref mi, .int lim, .int x, .int off, .int plo, .int hrs, .ref ms9, .ref mk, .ref mt]))) G1_0
    generalize hws2 : (ws_1.set 11 (mo, .inr (8, [.int 0, .int (nI nf), .ref mf, .int (nI nr), .ref md, .ref mi, .int lim, .int x, .int off, .int plo, .int hrs, .ref ms9, .ref mk, .ref mt]))) = ws_2 at J hk G2_0
    refine lv_iload_n hx hb dX7_setSupply_31 rfl (lv_at hl 0 rfl) ?_
    have hk0 : (kSup x) = 0 := if_pos (isInS_y cz12)
    subst hQ
    exact W.iret (v := sup) hx hb hr (fun t ht hW => ⟨⟨sup, ws_2, rfl, ⟨hk, (by simp only [hk0, sel0, sel1, sel2, sel3]; exact G2_0), (by simp only [hk0, sel0, sel1, sel2, sel3])⟩, J.I X ht hW.alike⟩, J.F ht⟩) J.locs dX7_setSupply_32
  · refine lv_aload_n hx hb dX7_setSupply_15 rfl (lv_at hl 0 rfl) ?_
    refine lv_iconst (v := 1) hx hb dX7_setSupply_16 (by decide) ?_
    refine z_ci J (z_rV (As := [.int 1]) (rest := []) (ci := 8) (q0 := 11) X J (cX7_no_ok l E G1_0) (cwV 1 hts gX7_setSupply_X7_no rfl rfl rfl (by decide +kernel) ⟨Nat.le_of_ble_eq_true rfl, Nat.le_of_ble_eq_true rfl⟩) G1_0 rfl rfl rfl hl.1 rfl (Nat.le_of_ble_eq_true rfl) dX7_setSupply_17 ⟨Nat.le_of_ble_eq_true rfl, Nat.le_of_ble_eq_true rfl⟩) (fun r17 ws_2 H locs hp9 J => ?_)
    obtain ⟨k2, hl9_2, G2_a0, e_r17⟩ := hp9
    have hk := hk.trans (k2.mono (by decide))
    subst e_r17
    have hk0 : (kSup x) = 1 := if_neg (isInS_n cz12)
    subst hQ
    exact W.iret (v := 0) hx hb hr (fun t ht hW => ⟨⟨0, ws_2, rfl, ⟨hk, (by simp only [hk0, sel0, sel1, sel2, sel3]; exact G2_a0), (by simp only [hk0, sel0, sel1, sel2, sel3])⟩, J.I X ht hW.alike⟩, J.F ht⟩) J.locs dX7_setSupply_20
set_option maxHeartbeats 4000000 in
set_option maxRecDepth 100000 in
theorem cX7_change_ok (l : Launch) (E : zG) {ws : va_W} {mo mf md mi ms9 mk mt nf nr : Nat} {th lim sup off plo hrs : Int32} {fa : Nat → Int32} {x he ga : Int32} (Fa0 : ws[11]? = some (mo, .inr (8, [.int th, .int (nI nf), .ref mf, .int (nI nr), .ref md, .ref mi, .int lim, .int sup, .int off, .int plo, .int hrs, .ref ms9, .ref mk, .ref mt]))) (Fa1 : ws[12]? = some (mf, zI4 E 66 fa)) (hnf : nf ≤ 10) : Met l yX7_change wsX7_change ({ frames := 2, cells := 0, slots := 0, locals := 43 } : Room) (va_Pc [.ref mo, .int x, .int he, .int ga] (zI E ws)) (va_Qi (fun (r : Int32) (ws' : va_W) => (zK [11, 12] ws ws') ∧ (ws'[11]? = some (mo, .inr (8, [.int (kChange x (nI nf) he ga), .int (nI nf), .ref mf, .int (nI nr), .ref md, .ref mi, .int lim, .int sup, .int off, .int plo, .int hrs, .ref ms9, .ref mk, .ref mt]))) ∧ (ws'[12]? = some (mf, zI4 E 66 (sel (kChange x (nI nf) he ga) (upd (upd fa (6 * x.toNatClampNeg + 4) he) (6 * x.toNatClampNeg + 5) ga) fa))) ∧ (r = sel (kChange x (nI nf) he ga) (10 * fa (6 * x.toNatClampNeg + 4) + fa (6 * x.toNatClampNeg + 5)) 0)) (zI E) (zA E)) 0 0 (zA E) := by
  refine Met.ofW (cc := cX7_change) (maxL := 5) (ret := (some .int)) (by decide) rfl ?_
  intro p e s m args below meth c s₁ B hml hv
  obtain ⟨hargs9, hI⟩ := hv
  have hx := B.exec
  have hb := B.bytes
  have hr := B.returns
  have hlocks := B.notSynchronized
  have X : zC E p m c cX7_change 5 s args wsX7_change RX7 := z_open B hml hI
  have hown := X.1.2.2.2.1
  have hts := X.1.2.2.2.2
  have J := hI.J
  have hi_X7 : ∀ w ∈ wsX70, w ∈ wsX7_change := by decide +kernel
  have hk : zK [11, 12] ws ws := zK.rf
  have hl := lv_entry ([.ref mo, .int x, .int he, .int ga]) (n := 5) (Nat.le_of_ble_eq_true rfl)
  rw [show entryFrame m args 5 = entryFrame m ([.ref mo, .int x, .int he, .int ga] : List Value).toArray 5 from by rw [hargs9], lg_entry_eq]
  generalize (lg_sl ([.ref mo, .int x, .int he, .int ga]) ++ List.replicate (5 - (lg_sl ([.ref mo, .int x, .int he, .int ga])).length) Slot.unset).toArray = ls at hl ⊢
  have hl : lv_has ls 5 [(0, .ref mo), (1, .int x), (2, .int he), (3, .int ga)] := hl
  generalize hQ : (MQ below (va_Qi (fun (r : Int32) (ws' : va_W) => (zK [11, 12] ws ws') ∧ (ws'[11]? = some (mo, .inr (8, [.int (kChange x (nI nf) he ga), .int (nI nf), .ref mf, .int (nI nr), .ref md, .ref mi, .int lim, .int sup, .int off, .int plo, .int hrs, .ref ms9, .ref mk, .ref mt]))) ∧ (ws'[12]? = some (mf, zI4 E 66 (sel (kChange x (nI nf) he ga) (upd (upd fa (6 * x.toNatClampNeg + 4) he) (6 * x.toNatClampNeg + 5) ga) fa))) ∧ (r = sel (kChange x (nI nf) he ga) (10 * fa (6 * x.toNatClampNeg + 4) + fa (6 * x.toNatClampNeg + 5)) 0)) (zI E) (zA E)) args s 0 0 (zA E)) = QQ
  refine lv_aload_n hx hb dX7_change_0 rfl (lv_at hl 0 rfl) ?_
  refine lv_iconst (v := 0) hx hb dX7_change_1 (by decide) ?_
  refine z_put (C := RX7) (T := TX7) (N := 14) (ci := 8) (v := .int 0) X J hi_X7 tyX7 tyX7_ok nmX7 11 Fa0 rfl 0 (by decide) (by decide +kernel) rfl rfl rfl (Nat.le_of_ble_eq_true rfl) dX7_change_2 (fun H locs J => ?_)
  have J : zJ E (ws.set 11 (mo, .inr (8, [.int 0, .int (nI nf), .ref mf, .int (nI nr), .ref md, .ref mi, .int lim, .int sup, .int off, .int plo, .int hrs, .ref ms9, .ref mk, .ref mt]))) s H locs := J
  have hk := hk.trans (zK.set (ws := ws) (q := 11) (e := (mo, .inr (8, [.int 0, .int (nI nf), .ref mf, .int (nI nr), .ref md, .ref mi, .int lim, .int sup, .int off, .int plo, .int hrs, .ref ms9, .ref mk, .ref mt]))) (by simp))
  have G1_0 := zset_eq (e' := (mo, .inr (8, [.int 0, .int (nI nf), .ref mf, .int (nI nr), .ref md, .ref mi, .int lim, .int sup, .int off, .int plo, .int hrs, .ref ms9, .ref mk, .ref mt]))) Fa0
  have G1_1 := zset_ne (q := 11) (e' := (mo, .inr (8, [.int 0, .int (nI nf), .ref mf, .int (nI nr), .ref md, .ref mi, .int lim, .int sup, .int off, .int plo, .int hrs, .ref ms9, .ref mk, .ref mt]))) (by decide) Fa1
  generalize hws1 : (ws.set 11 (mo, .inr (8, [.int 0, .int (nI nf), .ref mf, .int (nI nr), .ref md, .ref mi, .int lim, .int sup, .int off, .int plo, .int hrs, .ref ms9, .ref mk, .ref mt]))) = ws_1 at J hk G1_0 G1_1
  refine lv_aload_n hx hb dX7_change_5 rfl (lv_at hl 0 rfl) ?_
  refine lv_iload_n hx hb dX7_change_6 rfl (lv_at hl 1 rfl) ?_
  refine z_cr (z_rV (As := [.int x]) (rest := []) (ci := 8) (q0 := 11) X J (cX7_isFence_ok l E G1_0) (cwV 1 hts gX7_change_X7_isFence rfl rfl rfl (by decide +kernel) ⟨Nat.le_of_ble_eq_true rfl, Nat.le_of_ble_eq_true rfl⟩) G1_0 rfl rfl rfl hl.1 rfl (Nat.le_of_ble_eq_true rfl) dX7_change_7 ⟨Nat.le_of_ble_eq_true rfl, Nat.le_of_ble_eq_true rfl⟩) (fun r7 e_r7 => ?_)
  subst e_r7
  refine lv_if_ne (tgt := 19) hx hb dX7_change_10 (by decide) (fun cz10 => ?_) (fun cz10 => ?_)
  · refine lv_iload_n hx hb dX7_change_19 rfl (lv_at hl 2 rfl) ?_
    refine lv_iconst (v := 1) hx hb dX7_change_20 (by decide) ?_
    refine lv_bipush (v := 9) hx hb dX7_change_21 (by decide) ?_
    refine z_cr (z_rS (As := [.int he, .int 1, .int 9]) (rest := []) X J (cX7_isIn_ok l E) (va_cwS 3 hts gX7_change_X7_isIn rfl rfl rfl (by decide +kernel) ⟨Nat.le_of_ble_eq_true rfl, Nat.le_of_ble_eq_true rfl⟩) rfl hl.1 rfl (Nat.le_of_ble_eq_true rfl) dX7_change_23 ⟨Nat.le_of_ble_eq_true rfl, Nat.le_of_ble_eq_true rfl⟩) (fun r23 e_r23 => ?_)
    subst e_r23
    refine lv_if_eq (tgt := 38) hx hb dX7_change_26 (by decide) (fun cz26 => ?_) (fun cz26 => ?_)
    · refine lv_aload_n hx hb dX7_change_38 rfl (lv_at hl 0 rfl) ?_
      refine lv_iconst (v := 2) hx hb dX7_change_39 (by decide) ?_
      refine z_ci J (z_rV (As := [.int 2]) (rest := []) (ci := 8) (q0 := 11) X J (cX7_no_ok l E G1_0) (cwV 1 hts gX7_change_X7_no rfl rfl rfl (by decide +kernel) ⟨Nat.le_of_ble_eq_true rfl, Nat.le_of_ble_eq_true rfl⟩) G1_0 rfl rfl rfl hl.1 rfl (Nat.le_of_ble_eq_true rfl) dX7_change_40 ⟨Nat.le_of_ble_eq_true rfl, Nat.le_of_ble_eq_true rfl⟩) (fun r40 ws_2 H locs hp9 J => ?_)
      obtain ⟨k2, hl9_2, G2_a0, e_r40⟩ := hp9
      have hk := hk.trans (k2.mono (by decide))
      have G2_1 := k2.2 12 _ (by decide) G1_1
      subst e_r40
      have hk0 : (kChange x (nI nf) he ga) = 2 := (if_neg (fun q => q (isInS_y cz10))).trans (if_pos (Or.inl (isInS_n cz26)))
      subst hQ
      exact W.iret (v := 0) hx hb hr (fun t ht hW => ⟨⟨0, ws_2, rfl, ⟨hk, (by simp only [hk0, sel0, sel1, sel2, sel3]; exact G2_a0), (by simp only [hk0, sel0, sel1, sel2]; first | exact G2_1 | (rw [ex9]; exact G2_1)), (by simp only [hk0, sel0, sel1, sel2]; try rw [ex9])⟩, J.I X ht hW.alike⟩, J.F ht⟩) J.locs dX7_change_43
    · refine lv_iload_n hx hb dX7_change_29 rfl (lv_at hl 3 rfl) ?_
      refine lv_iconst (v := 0) hx hb dX7_change_30 (by decide) ?_
      refine lv_iconst (v := 3) hx hb dX7_change_31 (by decide) ?_
      refine z_cr (z_rS (As := [.int ga, .int 0, .int 3]) (rest := []) X J (cX7_isIn_ok l E) (va_cwS 3 hts gX7_change_X7_isIn rfl rfl rfl (by decide +kernel) ⟨Nat.le_of_ble_eq_true rfl, Nat.le_of_ble_eq_true rfl⟩) rfl hl.1 rfl (Nat.le_of_ble_eq_true rfl) dX7_change_32 ⟨Nat.le_of_ble_eq_true rfl, Nat.le_of_ble_eq_true rfl⟩) (fun r32 e_r32 => ?_)
      subst e_r32
      refine lv_if_ne (tgt := 44) hx hb dX7_change_35 (by decide) (fun cz35 => ?_) (fun cz35 => ?_)
      · obtain ⟨fk, hfk, ek9⟩ := inR_nI (n := nf) (by omega) (isInS_y cz10)
        have hl : lv_has ls 5 [(0, .ref mo), (1, .int (nI fk)), (2, .int he), (3, .int ga)] := lv_repl hl (congrArg (fun z9 : Int32 => ([(0, .ref mo), (1, .int z9), (2, .int he), (3, .int ga)] : List (Nat × Value))) (show x = nI fk from ek9))
        have ex9 : x.toNatClampNeg = fk := by rw [ek9, nI_clamp (by omega)]
        refine lv_bipush (v := 10) hx hb dX7_change_44 (by decide) ?_
        refine lv_aload_n hx hb dX7_change_46 rfl (lv_at hl 0 rfl) ?_
        refine lv_iload_n hx hb dX7_change_47 rfl (lv_at hl 1 rfl) ?_
        refine lv_iconst (v := 4) hx hb dX7_change_48 (by decide) ?_
        refine z_cr (z_rV (As := [.int (nI fk), .int 4]) (rest := [.int 10]) (ci := 8) (q0 := 11) X J (cX7_of_ok l E (j := 4) G1_0 G1_1 (by omega) (by first | assumption | omega | decide)) (cwV 2 hts gX7_change_X7_of rfl rfl rfl (by decide +kernel) ⟨Nat.le_of_ble_eq_true rfl, Nat.le_of_ble_eq_true rfl⟩) G1_0 rfl rfl rfl hl.1 rfl (Nat.le_of_ble_eq_true rfl) dX7_change_49 ⟨Nat.le_of_ble_eq_true rfl, Nat.le_of_ble_eq_true rfl⟩) (fun r49 e_r49 => ?_)
        subst e_r49
        refine lv_imul hx hb dX7_change_52 ?_
        refine lv_aload_n hx hb dX7_change_53 rfl (lv_at hl 0 rfl) ?_
        refine lv_iload_n hx hb dX7_change_54 rfl (lv_at hl 1 rfl) ?_
        refine lv_iconst (v := 5) hx hb dX7_change_55 (by decide) ?_
        refine z_cr (z_rV (As := [.int (nI fk), .int 5]) (rest := [.int (10 * (fa (6 * fk + 4)))]) (ci := 8) (q0 := 11) X J (cX7_of_ok l E (j := 5) G1_0 G1_1 (by omega) (by first | assumption | omega | decide)) (cwV 2 hts gX7_change_X7_of rfl rfl rfl (by decide +kernel) ⟨Nat.le_of_ble_eq_true rfl, Nat.le_of_ble_eq_true rfl⟩) G1_0 rfl rfl rfl hl.1 rfl (Nat.le_of_ble_eq_true rfl) dX7_change_56 ⟨Nat.le_of_ble_eq_true rfl, Nat.le_of_ble_eq_true rfl⟩) (fun r56 e_r56 => ?_)
        subst e_r56
        refine lv_iadd hx hb dX7_change_59 ?_
        refine lv_istore (lv' := [(4, .int ((10 * (fa (6 * fk + 4))) + (fa (6 * fk + 5)))), (0, .ref mo), (1, .int (nI fk)), (2, .int he), (3, .int ga)]) hx hb dX7_change_60 hl (by decide) rfl (fun ls hl => ?_)
        refine lv_aload_n hx hb dX7_change_62 rfl (lv_at hl 1 rfl) ?_
        refine lv_iload_n hx hb dX7_change_63 rfl (lv_at hl 2 rfl) ?_
        refine lv_iconst (v := 4) hx hb dX7_change_64 (by decide) ?_
        refine lv_iload_n hx hb dX7_change_65 rfl (lv_at hl 3 rfl) ?_
        refine z_cv J (z_rV (As := [.int (nI fk), .int 4, .int he]) (rest := []) (ci := 8) (q0 := 11) X J (cX7_let_ok l E (j := 4) G1_0 G1_1 (by omega) (by first | assumption | omega | decide)) (cwV 3 hts gX7_change_X7_let rfl rfl rfl (by decide +kernel) ⟨Nat.le_of_ble_eq_true rfl, Nat.le_of_ble_eq_true rfl⟩) G1_0 rfl rfl rfl hl.1 rfl (Nat.le_of_ble_eq_true rfl) dX7_change_66 ⟨Nat.le_of_ble_eq_true rfl, Nat.le_of_ble_eq_true rfl⟩) (fun ws_2 H locs hp9 J => ?_)
        obtain ⟨k2, hl9_2, G2_a0⟩ := hp9
        have hk := hk.trans (k2.mono (by decide))
        have G2_0 := k2.2 11 _ (by decide) G1_0
        refine lv_aload_n hx hb dX7_change_69 rfl (lv_at hl 1 rfl) ?_
        refine lv_iload_n hx hb dX7_change_70 rfl (lv_at hl 2 rfl) ?_
        refine lv_iconst (v := 5) hx hb dX7_change_71 (by decide) ?_
        refine lv_iload_n hx hb dX7_change_72 rfl (lv_at hl 4 rfl) ?_
        refine z_cv J (z_rV (As := [.int (nI fk), .int 5, .int ga]) (rest := []) (ci := 8) (q0 := 11) X J (cX7_let_ok l E (j := 5) G2_0 G2_a0 (by omega) (by first | assumption | omega | decide)) (cwV 3 hts gX7_change_X7_let rfl rfl rfl (by decide +kernel) ⟨Nat.le_of_ble_eq_true rfl, Nat.le_of_ble_eq_true rfl⟩) G2_0 rfl rfl rfl hl.1 rfl (Nat.le_of_ble_eq_true rfl) dX7_change_73 ⟨Nat.le_of_ble_eq_true rfl, Nat.le_of_ble_eq_true rfl⟩) (fun ws_3 H locs hp9 J => ?_)
        obtain ⟨k3, hl9_3, G3_a0⟩ := hp9
        have hk := hk.trans (k3.mono (by decide))
        have G3_0 := k3.2 11 _ (by decide) G2_0
        refine lv_iload hx hb dX7_change_76 (lv_at hl 0 rfl) ?_
        have hk0 : (kChange x (nI nf) he ga) = 0 := (if_neg (fun q => q (isInS_y cz10))).trans (if_neg (fun q => q.elim (fun z => z (isInS_y cz26)) (fun z => z (isInS_y cz35))))
        subst hQ
        exact W.iret (v := (10 * (fa (6 * fk + 4))) + (fa (6 * fk + 5))) hx hb hr (fun t ht hW => ⟨⟨(10 * (fa (6 * fk + 4))) + (fa (6 * fk + 5)), ws_3, rfl, ⟨hk, (by simp only [hk0, sel0, sel1, sel2, sel3]; exact G3_0), (by simp only [hk0, sel0, sel1, sel2]; first | exact G3_a0 | (rw [ex9]; exact G3_a0)), (by simp only [hk0, sel0, sel1, sel2]; try rw [ex9])⟩, J.I X ht hW.alike⟩, J.F ht⟩) J.locs dX7_change_78
      · refine lv_aload_n hx hb dX7_change_38 rfl (lv_at hl 0 rfl) ?_
        refine lv_iconst (v := 2) hx hb dX7_change_39 (by decide) ?_
        refine z_ci J (z_rV (As := [.int 2]) (rest := []) (ci := 8) (q0 := 11) X J (cX7_no_ok l E G1_0) (cwV 1 hts gX7_change_X7_no rfl rfl rfl (by decide +kernel) ⟨Nat.le_of_ble_eq_true rfl, Nat.le_of_ble_eq_true rfl⟩) G1_0 rfl rfl rfl hl.1 rfl (Nat.le_of_ble_eq_true rfl) dX7_change_40 ⟨Nat.le_of_ble_eq_true rfl, Nat.le_of_ble_eq_true rfl⟩) (fun r40 ws_2 H locs hp9 J => ?_)
        obtain ⟨k2, hl9_2, G2_a0, e_r40⟩ := hp9
        have hk := hk.trans (k2.mono (by decide))
        have G2_1 := k2.2 12 _ (by decide) G1_1
        subst e_r40
        have hk0 : (kChange x (nI nf) he ga) = 2 := (if_neg (fun q => q (isInS_y cz10))).trans (if_pos (Or.inr (isInS_n cz35)))
        subst hQ
        exact W.iret (v := 0) hx hb hr (fun t ht hW => ⟨⟨0, ws_2, rfl, ⟨hk, (by simp only [hk0, sel0, sel1, sel2, sel3]; exact G2_a0), (by simp only [hk0, sel0, sel1, sel2]; first | exact G2_1 | (rw [ex9]; exact G2_1)), (by simp only [hk0, sel0, sel1, sel2]; try rw [ex9])⟩, J.I X ht hW.alike⟩, J.F ht⟩) J.locs dX7_change_43
  · refine lv_aload_n hx hb dX7_change_13 rfl (lv_at hl 0 rfl) ?_
    refine lv_iconst (v := 1) hx hb dX7_change_14 (by decide) ?_
    refine z_ci J (z_rV (As := [.int 1]) (rest := []) (ci := 8) (q0 := 11) X J (cX7_no_ok l E G1_0) (cwV 1 hts gX7_change_X7_no rfl rfl rfl (by decide +kernel) ⟨Nat.le_of_ble_eq_true rfl, Nat.le_of_ble_eq_true rfl⟩) G1_0 rfl rfl rfl hl.1 rfl (Nat.le_of_ble_eq_true rfl) dX7_change_15 ⟨Nat.le_of_ble_eq_true rfl, Nat.le_of_ble_eq_true rfl⟩) (fun r15 ws_2 H locs hp9 J => ?_)
    obtain ⟨k2, hl9_2, G2_a0, e_r15⟩ := hp9
    have hk := hk.trans (k2.mono (by decide))
    have G2_1 := k2.2 12 _ (by decide) G1_1
    subst e_r15
    have hk0 : (kChange x (nI nf) he ga) = 1 := if_pos (isInS_n cz10)
    subst hQ
    exact W.iret (v := 0) hx hb hr (fun t ht hW => ⟨⟨0, ws_2, rfl, ⟨hk, (by simp only [hk0, sel0, sel1, sel2, sel3]; exact G2_a0), (by simp only [hk0, sel0, sel1, sel2]; first | exact G2_1 | (rw [ex9]; exact G2_1)), (by simp only [hk0, sel0, sel1, sel2]; try rw [ex9])⟩, J.I X ht hW.alike⟩, J.F ht⟩) J.locs dX7_change_18
set_option maxHeartbeats 4000000 in
set_option maxRecDepth 100000 in
theorem cX7_take_ok (l : Launch) (E : zG) {ws : va_W} {mo mf md mi ms9 mk mt nf nr : Nat} {th lim sup off plo hrs : Int32} {fa : Nat → Int32} {x : Int32} (Fa0 : ws[11]? = some (mo, .inr (8, [.int th, .int (nI nf), .ref mf, .int (nI nr), .ref md, .ref mi, .int lim, .int sup, .int off, .int plo, .int hrs, .ref ms9, .ref mk, .ref mt]))) (Fa1 : ws[12]? = some (mf, zI4 E 66 fa)) (hnf : nf ≤ 10) : Met l yX7_take wsX7_take ({ frames := 2, cells := 0, slots := 0, locals := 43 } : Room) (va_Pc [.ref mo, .int x] (zI E ws)) (va_Qi (fun (r : Int32) (ws' : va_W) => (zK [11, 12] ws ws') ∧ (ws'[11]? = some (mo, .inr (8, [.int (kIdx x (nI nf)), .int (sel (kIdx x (nI nf)) (nI (nf - 1)) (nI nf)), .ref mf, .int (nI nr), .ref md, .ref mi, .int lim, .int sup, .int off, .int plo, .int hrs, .ref ms9, .ref mk, .ref mt]))) ∧ (ws'[12]? = some (mf, zI4 E 66 (sel (kIdx x (nI nf)) (ftake fa x.toNatClampNeg (nf - 1)) fa))) ∧ (r = sel (kIdx x (nI nf)) (nI (nf - 1)) 0)) (zI E) (zA E)) 0 0 (zA E) := by
  refine Met.ofW (cc := cX7_take) (maxL := 3) (ret := (some .int)) (by decide) rfl ?_
  intro p e s m args below meth c s₁ B hml hv
  obtain ⟨hargs9, hI⟩ := hv
  have hx := B.exec
  have hb := B.bytes
  have hr := B.returns
  have hlocks := B.notSynchronized
  have X : zC E p m c cX7_take 3 s args wsX7_take RX7 := z_open B hml hI
  have hown := X.1.2.2.2.1
  have hts := X.1.2.2.2.2
  have J := hI.J
  have hi_X7 : ∀ w ∈ wsX70, w ∈ wsX7_take := by decide +kernel
  have hk : zK [11, 12] ws ws := zK.rf
  have hl := lv_entry ([.ref mo, .int x]) (n := 3) (Nat.le_of_ble_eq_true rfl)
  rw [show entryFrame m args 3 = entryFrame m ([.ref mo, .int x] : List Value).toArray 3 from by rw [hargs9], lg_entry_eq]
  generalize (lg_sl ([.ref mo, .int x]) ++ List.replicate (3 - (lg_sl ([.ref mo, .int x])).length) Slot.unset).toArray = ls at hl ⊢
  have hl : lv_has ls 3 [(0, .ref mo), (1, .int x)] := hl
  generalize hQ : (MQ below (va_Qi (fun (r : Int32) (ws' : va_W) => (zK [11, 12] ws ws') ∧ (ws'[11]? = some (mo, .inr (8, [.int (kIdx x (nI nf)), .int (sel (kIdx x (nI nf)) (nI (nf - 1)) (nI nf)), .ref mf, .int (nI nr), .ref md, .ref mi, .int lim, .int sup, .int off, .int plo, .int hrs, .ref ms9, .ref mk, .ref mt]))) ∧ (ws'[12]? = some (mf, zI4 E 66 (sel (kIdx x (nI nf)) (ftake fa x.toNatClampNeg (nf - 1)) fa))) ∧ (r = sel (kIdx x (nI nf)) (nI (nf - 1)) 0)) (zI E) (zA E)) args s 0 0 (zA E)) = QQ
  refine lv_aload_n hx hb dX7_take_0 rfl (lv_at hl 0 rfl) ?_
  refine lv_iconst (v := 0) hx hb dX7_take_1 (by decide) ?_
  refine z_put (C := RX7) (T := TX7) (N := 14) (ci := 8) (v := .int 0) X J hi_X7 tyX7 tyX7_ok nmX7 11 Fa0 rfl 0 (by decide) (by decide +kernel) rfl rfl rfl (Nat.le_of_ble_eq_true rfl) dX7_take_2 (fun H locs J => ?_)
  have J : zJ E (ws.set 11 (mo, .inr (8, [.int 0, .int (nI nf), .ref mf, .int (nI nr), .ref md, .ref mi, .int lim, .int sup, .int off, .int plo, .int hrs, .ref ms9, .ref mk, .ref mt]))) s H locs := J
  have hk := hk.trans (zK.set (ws := ws) (q := 11) (e := (mo, .inr (8, [.int 0, .int (nI nf), .ref mf, .int (nI nr), .ref md, .ref mi, .int lim, .int sup, .int off, .int plo, .int hrs, .ref ms9, .ref mk, .ref mt]))) (by simp))
  have G1_0 := zset_eq (e' := (mo, .inr (8, [.int 0, .int (nI nf), .ref mf, .int (nI nr), .ref md, .ref mi, .int lim, .int sup, .int off, .int plo, .int hrs, .ref ms9, .ref mk, .ref mt]))) Fa0
  have G1_1 := zset_ne (q := 11) (e' := (mo, .inr (8, [.int 0, .int (nI nf), .ref mf, .int (nI nr), .ref md, .ref mi, .int lim, .int sup, .int off, .int plo, .int hrs, .ref ms9, .ref mk, .ref mt]))) (by decide) Fa1
  generalize hws1 : (ws.set 11 (mo, .inr (8, [.int 0, .int (nI nf), .ref mf, .int (nI nr), .ref md, .ref mi, .int lim, .int sup, .int off, .int plo, .int hrs, .ref ms9, .ref mk, .ref mt]))) = ws_1 at J hk G1_0 G1_1
  refine lv_aload_n hx hb dX7_take_5 rfl (lv_at hl 0 rfl) ?_
  refine lv_iload_n hx hb dX7_take_6 rfl (lv_at hl 1 rfl) ?_
  refine z_cr (z_rV (As := [.int x]) (rest := []) (ci := 8) (q0 := 11) X J (cX7_isFence_ok l E G1_0) (cwV 1 hts gX7_take_X7_isFence rfl rfl rfl (by decide +kernel) ⟨Nat.le_of_ble_eq_true rfl, Nat.le_of_ble_eq_true rfl⟩) G1_0 rfl rfl rfl hl.1 rfl (Nat.le_of_ble_eq_true rfl) dX7_take_7 ⟨Nat.le_of_ble_eq_true rfl, Nat.le_of_ble_eq_true rfl⟩) (fun r7 e_r7 => ?_)
  subst e_r7
  refine lv_if_ne (tgt := 19) hx hb dX7_take_10 (by decide) (fun cz10 => ?_) (fun cz10 => ?_)
  · obtain ⟨fk, hfk, ek9⟩ := inR_nI (n := nf) (by omega) (isInS_y cz10)
    have hl : lv_has ls 3 [(0, .ref mo), (1, .int (nI fk))] := lv_repl hl (congrArg (fun z9 : Int32 => ([(0, .ref mo), (1, .int z9)] : List (Nat × Value))) (show x = nI fk from ek9))
    have ex9 : x.toNatClampNeg = fk := by rw [ek9, nI_clamp (by omega)]
    refine lv_aload_n hx hb dX7_take_19 rfl (lv_at hl 0 rfl) ?_
    refine lv_dup hx hb dX7_take_20 rfl ?_
    refine z_get (C := RX7) (T := TX7) (N := 14) (ci := 8) (v := .int (nI nf)) X J hi_X7 11 G1_0 rfl 1 (by decide) (by decide +kernel) rfl dX7_take_21 ?_
    refine lv_iconst (v := 1) hx hb dX7_take_24 (by decide) ?_
    refine lv_isub hx hb dX7_take_25 ?_
    refine W.eq (g2 := F0 m 26 ls [.int (nI (nf - 1)), .ref mo]) (congrArg (fun z9 : Int32 => F0 m 26 ls [.int z9, .ref mo]) (show ((nI nf) - 1 : Int32) = nI (nf - 1) from (nI_sub1 (by omega)))) ?_
    refine z_put (C := RX7) (T := TX7) (N := 14) (ci := 8) (v := .int (nI (nf - 1))) X J hi_X7 tyX7 tyX7_ok nmX7 11 G1_0 rfl 1 (by decide) (by decide +kernel) rfl rfl rfl (Nat.le_of_ble_eq_true rfl) dX7_take_26 (fun H locs J => ?_)
    have J : zJ E (ws_1.set 11 (mo, .inr (8, [.int 0, .int (nI (nf - 1)), .ref mf, .int (nI nr), .ref md, .ref mi, .int lim, .int sup, .int off, .int plo, .int hrs, .ref ms9, .ref mk, .ref mt]))) s H locs := J
    have hk := hk.trans (zK.set (ws := ws_1) (q := 11) (e := (mo, .inr (8, [.int 0, .int (nI (nf - 1)), .ref mf, .int (nI nr), .ref md, .ref mi, .int lim, .int sup, .int off, .int plo, .int hrs, .ref ms9, .ref mk, .ref mt]))) (by simp))
    have G2_0 := zset_eq (e' := (mo, .inr (8, [.int 0, .int (nI (nf - 1)), .ref mf, .int (nI nr), .ref md, .ref mi, .int lim, .int sup, .int off, .int plo, .int hrs, .ref ms9, .ref mk, .ref mt]))) G1_0
    have G2_1 := zset_ne (q := 11) (e' := (mo, .inr (8, [.int 0, .int (nI (nf - 1)), .ref mf, .int (nI nr), .ref md, .ref mi, .int lim, .int sup, .int off, .int plo, .int hrs, .ref ms9, .ref mk, .ref mt]))) (by decide) G1_1
    generalize hws2 : (ws_1.set 11 (mo, .inr (8, [.int 0, .int (nI (nf - 1)), .ref mf, .int (nI nr), .ref md, .ref mi, .int lim, .int sup, .int off, .int plo, .int hrs, .ref ms9, .ref mk, .ref mt]))) = ws_2 at J hk G2_0 G2_1
    refine lv_bipush (v := 6) hx hb dX7_take_29 (by decide) ?_
    refine lv_iload_n hx hb dX7_take_31 rfl (lv_at hl 1 rfl) ?_
    refine lv_imul hx hb dX7_take_32 ?_
    refine W.eq (g2 := F0 m 33 ls [.int (nI (6 * fk))]) (congrArg (fun z9 : Int32 => F0 m 33 ls [.int z9]) (show (6 * (nI fk) : Int32) = nI (6 * fk) from (nI_6 fk))) ?_
    refine lv_istore_n (lv' := [(2, .int (nI (6 * fk))), (0, .ref mo), (1, .int (nI fk))]) hx hb dX7_take_33 rfl hl (by decide) rfl (fun ls hl => ?_)
    have loop_34 : ∀ (k9 i : Nat), i + k9 = (6 * (nf - 1) - 6 * fk) → ∀ (wl34 : va_W) (H : Heap) (locs : List Loc) (ls : Array Slot), zK [11, 12] ws wl34 → wl34[11]? = some (mo, .inr (8, [.int 0, .int (nI (nf - 1)), .ref mf, .int (nI nr), .ref md, .ref mi, .int lim, .int sup, .int off, .int plo, .int hrs, .ref ms9, .ref mk, .ref mt])) → wl34[12]? = some (mf, zI4 E 66 (tkS fa fk i)) → zJ E wl34 s H locs → lv_has ls 3 [(2, .int (nI (6 * fk + i))), (0, .ref mo), (1, .int (nI fk))] → W p l e (headSpec wsX7_take ({ frames := 2, cells := 0, slots := 0, locals := 43 } : Room)).room s m args below meth c H locs 0 0 QQ (F0 m 34 ls []) := by
      intro k9
      induction k9 with
      | zero =>
        intro i hik wl34 H locs ls hk L34_0 L34_1 J hl
        obtain rfl : (6 * (nf - 1) - 6 * fk) = i := by omega
        refine lv_iload_n hx hb dX7_take_34 rfl (lv_at hl 0 rfl) ?_
        refine lv_bipush (v := 6) hx hb dX7_take_35 (by decide) ?_
        refine lv_aload_n hx hb dX7_take_37 rfl (lv_at hl 1 rfl) ?_
        refine z_get (C := RX7) (T := TX7) (N := 14) (ci := 8) (v := .int (nI (nf - 1))) X J hi_X7 11 L34_0 rfl 1 (by decide) (by decide +kernel) rfl dX7_take_38 ?_
        refine lv_imul hx hb dX7_take_41 ?_
        refine W.eq (g2 := F0 m 42 ls [.int (nI (6 * (nf - 1))), .int (nI (6 * fk + (6 * (nf - 1) - 6 * fk)))]) (congrArg (fun z9 : Int32 => F0 m 42 ls [.int z9, .int (nI (6 * fk + (6 * (nf - 1) - 6 * fk)))]) (show (6 * (nI (nf - 1)) : Int32) = nI (6 * (nf - 1)) from (nI_6 (nf - 1)))) ?_
        refine lv_icmp_ge (tgt := 66) hx hb dX7_take_42 (by decide) (fun cz42 => ?_) (fun cz42 => by exact (cz42 (nI_le (by omega) (by omega))).elim)
        refine lv_aload_n hx hb dX7_take_66 rfl (lv_at hl 1 rfl) ?_
        refine z_get (C := RX7) (T := TX7) (N := 14) (ci := 8) (v := .int (nI (nf - 1))) X J hi_X7 11 L34_0 rfl 1 (by decide) (by decide +kernel) rfl dX7_take_67 ?_
        have hk0 : (kIdx x (nI nf)) = 0 := if_pos (isInS_y cz10)
        subst hQ
        exact W.iret (v := nI (nf - 1)) hx hb hr (fun t ht hW => ⟨⟨nI (nf - 1), wl34, rfl, ⟨hk, (by simp only [hk0, sel0, sel1, sel2, sel3]; exact L34_0), (by simp only [hk0, sel0, sel1]; first | exact L34_1 | (rw [ex9, ← tkS_end (by omega)]; exact L34_1)), (by simp only [hk0, sel0, sel1, sel2, sel3])⟩, J.I X ht hW.alike⟩, J.F ht⟩) J.locs dX7_take_70
      | succ k9 ih_34 =>
        intro i hik wl34 H locs ls hk L34_0 L34_1 J hl
        refine lv_iload_n hx hb dX7_take_34 rfl (lv_at hl 0 rfl) ?_
        refine lv_bipush (v := 6) hx hb dX7_take_35 (by decide) ?_
        refine lv_aload_n hx hb dX7_take_37 rfl (lv_at hl 1 rfl) ?_
        refine z_get (C := RX7) (T := TX7) (N := 14) (ci := 8) (v := .int (nI (nf - 1))) X J hi_X7 11 L34_0 rfl 1 (by decide) (by decide +kernel) rfl dX7_take_38 ?_
        refine lv_imul hx hb dX7_take_41 ?_
        refine W.eq (g2 := F0 m 42 ls [.int (nI (6 * (nf - 1))), .int (nI (6 * fk + i))]) (congrArg (fun z9 : Int32 => F0 m 42 ls [.int z9, .int (nI (6 * fk + i))]) (show (6 * (nI (nf - 1)) : Int32) = nI (6 * (nf - 1)) from (nI_6 (nf - 1)))) ?_
        refine lv_icmp_ge (tgt := 66) hx hb dX7_take_42 (by decide) (fun cz42 => by exact (nI_ge (by omega) (by omega) cz42).elim) (fun cz42 => ?_)
        refine lv_aload_n hx hb dX7_take_45 rfl (lv_at hl 1 rfl) ?_
        refine z_get (C := RX7) (T := TX7) (N := 14) (ci := 8) (v := .ref mf) X J hi_X7 11 L34_0 rfl 2 (by decide) (by decide +kernel) rfl dX7_take_46 ?_
        refine lv_iload_n hx hb dX7_take_49 rfl (lv_at hl 0 rfl) ?_
        refine lv_aload_n hx hb dX7_take_50 rfl (lv_at hl 1 rfl) ?_
        refine z_get (C := RX7) (T := TX7) (N := 14) (ci := 8) (v := .ref mf) X J hi_X7 11 L34_0 rfl 2 (by decide) (by decide +kernel) rfl dX7_take_51 ?_
        refine lv_iload_n hx hb dX7_take_54 rfl (lv_at hl 0 rfl) ?_
        refine lv_bipush (v := 6) hx hb dX7_take_55 (by decide) ?_
        refine lv_iadd hx hb dX7_take_57 ?_
        refine W.eq (g2 := F0 m 58 ls [.int (nI (6 * fk + i + 6)), .ref mf, .int (nI (6 * fk + i)), .ref mf]) (congrArg (fun z9 : Int32 => F0 m 58 ls [.int z9, .ref mf, .int (nI (6 * fk + i)), .ref mf]) (show ((nI (6 * fk + i)) + 6 : Int32) = nI (6 * fk + i + 6) from (nI_add (6 * fk + i) 6))) ?_
        refine z_iald X J 12 L34_1 (vp_in_nI (by omega) (by decide)) dX7_take_58 ?_
        refine W.eq (g2 := F0 m 59 ls [.int ((tkS fa fk i) (6 * fk + i + 6)), .int (nI (6 * fk + i)), .ref mf]) (congrArg (fun z9 : Int32 => F0 m 59 ls [.int z9, .int (nI (6 * fk + i)), .ref mf]) (show ((tkS fa fk i) (nI (6 * fk + i + 6)).toNatClampNeg : Int32) = (tkS fa fk i) (6 * fk + i + 6) from (congrArg _ (nI_clamp (by omega))))) ?_
        refine z_iast X J 12 L34_1 (vp_in_nI (by omega) (by decide)) dX7_take_59 (fun H locs J => ?_)
        rw [show upd (tkS fa fk i) (nI (6 * fk + i)).toNatClampNeg ((tkS fa fk i) (6 * fk + i + 6)) = tkS fa fk (i + 1) from (by rw [nI_clamp (by omega)]; exact tkS_step)] at J
        have hk := hk.trans (zK.set (ws := wl34) (q := 12) (e := (mf, zI4 E 66 (tkS fa fk (i + 1)))) (by simp))
        have G3_0 := zset_ne (q := 12) (e' := (mf, zI4 E 66 (tkS fa fk (i + 1)))) (by decide) L34_0
        have G3_1 := zset_eq (e' := (mf, zI4 E 66 (tkS fa fk (i + 1)))) L34_1
        generalize hws3 : (wl34.set 12 (mf, zI4 E 66 (tkS fa fk (i + 1)))) = ws_3 at J hk G3_0 G3_1
        refine lv_iinc (v := nI (6 * fk + (i + 1))) (lv' := [(2, .int (nI (6 * fk + (i + 1)))), (0, .ref mo), (1, .int (nI fk))]) hx hb dX7_take_60 hl (k := 0) rfl (nI_1 (6 * fk + i)) (by decide) rfl (fun ls hl => ?_)
        refine lv_goto (tgt := 34) hx hb dX7_take_63 (by decide) ?_
        exact ih_34 (i + 1) (by omega) _ _ _ _ hk G3_0 G3_1 J (lv_sub hl [0, 1, 2] rfl)
    exact loop_34 (6 * (nf - 1) - 6 * fk) 0 (by omega) _ _ _ _ hk G2_0 (by rw [tkS_0]; exact G2_1) J (lv_sub hl [0, 1, 2] rfl)
  · refine lv_aload_n hx hb dX7_take_13 rfl (lv_at hl 0 rfl) ?_
    refine lv_iconst (v := 1) hx hb dX7_take_14 (by decide) ?_
    refine z_ci J (z_rV (As := [.int 1]) (rest := []) (ci := 8) (q0 := 11) X J (cX7_no_ok l E G1_0) (cwV 1 hts gX7_take_X7_no rfl rfl rfl (by decide +kernel) ⟨Nat.le_of_ble_eq_true rfl, Nat.le_of_ble_eq_true rfl⟩) G1_0 rfl rfl rfl hl.1 rfl (Nat.le_of_ble_eq_true rfl) dX7_take_15 ⟨Nat.le_of_ble_eq_true rfl, Nat.le_of_ble_eq_true rfl⟩) (fun r15 ws_2 H locs hp9 J => ?_)
    obtain ⟨k2, hl9_2, G2_a0, e_r15⟩ := hp9
    have hk := hk.trans (k2.mono (by decide))
    have G2_1 := k2.2 12 _ (by decide) G1_1
    subst e_r15
    have hk0 : (kIdx x (nI nf)) = 1 := if_neg (isInS_n cz10)
    subst hQ
    exact W.iret (v := 0) hx hb hr (fun t ht hW => ⟨⟨0, ws_2, rfl, ⟨hk, (by simp only [hk0, sel0, sel1, sel2, sel3]; exact G2_a0), (by simp only [hk0, sel0, sel1]; first | exact G2_1 | (rw [ex9, ← tkS_end (by omega)]; exact G2_1)), (by simp only [hk0, sel0, sel1, sel2, sel3])⟩, J.I X ht hW.alike⟩, J.F ht⟩) J.locs dX7_take_18
set_option maxHeartbeats 4000000 in
set_option maxRecDepth 100000 in
theorem cX7_road_ok (l : Launch) (E : zG) {ws : va_W} {mo mf md mi ms9 mk mt nf nr : Nat} {th lim sup off plo hrs : Int32} {rd ri : Nat → Int32} {dn ix : Int32} (Fa0 : ws[11]? = some (mo, .inr (8, [.int th, .int (nI nf), .ref mf, .int (nI nr), .ref md, .ref mi, .int lim, .int sup, .int off, .int plo, .int hrs, .ref ms9, .ref mk, .ref mt]))) (Fa1 : ws[13]? = some (md, zI4 E 4 rd)) (Fa2 : ws[14]? = some (mi, zI4 E 4 ri)) (hnr : nr ≤ 4) : Met l yX7_road wsX7_road ({ frames := 1, cells := 0, slots := 0, locals := 22 } : Room) (va_Pc [.ref mo, .int dn, .int ix] (zI E ws)) (va_Qi (fun (r : Int32) (ws' : va_W) => (zK [11, 13, 14] ws ws') ∧ (ws'[11]? = some (mo, .inr (8, [.int (kRoad ix (nI nr)), .int (nI nf), .ref mf, .int (sel (kRoad ix (nI nr)) (nI (nr + 1)) (nI nr)), .ref md, .ref mi, .int lim, .int sup, .int off, .int plo, .int hrs, .ref ms9, .ref mk, .ref mt]))) ∧ (ws'[13]? = some (md, zI4 E 4 (sel (kRoad ix (nI nr)) (upd rd nr (b01 dn)) rd))) ∧ (ws'[14]? = some (mi, zI4 E 4 (sel (kRoad ix (nI nr)) (upd ri nr ix) ri))) ∧ (r = sel (kRoad ix (nI nr)) (nI nr) 0)) (zI E) (zA E)) 0 0 (zA E) := by
  refine Met.ofW (cc := cX7_road) (maxL := 3) (ret := (some .int)) (by decide) rfl ?_
  intro p e s m args below meth c s₁ B hml hv
  obtain ⟨hargs9, hI⟩ := hv
  have hx := B.exec
  have hb := B.bytes
  have hr := B.returns
  have hlocks := B.notSynchronized
  have X : zC E p m c cX7_road 3 s args wsX7_road RX7 := z_open B hml hI
  have hown := X.1.2.2.2.1
  have hts := X.1.2.2.2.2
  have J := hI.J
  have hi_X7 : ∀ w ∈ wsX70, w ∈ wsX7_road := by decide +kernel
  have hk : zK [11, 13, 14] ws ws := zK.rf
  have hl := lv_entry ([.ref mo, .int dn, .int ix]) (n := 3) (Nat.le_of_ble_eq_true rfl)
  rw [show entryFrame m args 3 = entryFrame m ([.ref mo, .int dn, .int ix] : List Value).toArray 3 from by rw [hargs9], lg_entry_eq]
  generalize (lg_sl ([.ref mo, .int dn, .int ix]) ++ List.replicate (3 - (lg_sl ([.ref mo, .int dn, .int ix])).length) Slot.unset).toArray = ls at hl ⊢
  have hl : lv_has ls 3 [(0, .ref mo), (1, .int dn), (2, .int ix)] := hl
  generalize hQ : (MQ below (va_Qi (fun (r : Int32) (ws' : va_W) => (zK [11, 13, 14] ws ws') ∧ (ws'[11]? = some (mo, .inr (8, [.int (kRoad ix (nI nr)), .int (nI nf), .ref mf, .int (sel (kRoad ix (nI nr)) (nI (nr + 1)) (nI nr)), .ref md, .ref mi, .int lim, .int sup, .int off, .int plo, .int hrs, .ref ms9, .ref mk, .ref mt]))) ∧ (ws'[13]? = some (md, zI4 E 4 (sel (kRoad ix (nI nr)) (upd rd nr (b01 dn)) rd))) ∧ (ws'[14]? = some (mi, zI4 E 4 (sel (kRoad ix (nI nr)) (upd ri nr ix) ri))) ∧ (r = sel (kRoad ix (nI nr)) (nI nr) 0)) (zI E) (zA E)) args s 0 0 (zA E)) = QQ
  refine lv_aload_n hx hb dX7_road_0 rfl (lv_at hl 0 rfl) ?_
  refine lv_iconst (v := 0) hx hb dX7_road_1 (by decide) ?_
  refine z_put (C := RX7) (T := TX7) (N := 14) (ci := 8) (v := .int 0) X J hi_X7 tyX7 tyX7_ok nmX7 11 Fa0 rfl 0 (by decide) (by decide +kernel) rfl rfl rfl (Nat.le_of_ble_eq_true rfl) dX7_road_2 (fun H locs J => ?_)
  have J : zJ E (ws.set 11 (mo, .inr (8, [.int 0, .int (nI nf), .ref mf, .int (nI nr), .ref md, .ref mi, .int lim, .int sup, .int off, .int plo, .int hrs, .ref ms9, .ref mk, .ref mt]))) s H locs := J
  have hk := hk.trans (zK.set (ws := ws) (q := 11) (e := (mo, .inr (8, [.int 0, .int (nI nf), .ref mf, .int (nI nr), .ref md, .ref mi, .int lim, .int sup, .int off, .int plo, .int hrs, .ref ms9, .ref mk, .ref mt]))) (by simp))
  have G1_0 := zset_eq (e' := (mo, .inr (8, [.int 0, .int (nI nf), .ref mf, .int (nI nr), .ref md, .ref mi, .int lim, .int sup, .int off, .int plo, .int hrs, .ref ms9, .ref mk, .ref mt]))) Fa0
  have G1_1 := zset_ne (q := 11) (e' := (mo, .inr (8, [.int 0, .int (nI nf), .ref mf, .int (nI nr), .ref md, .ref mi, .int lim, .int sup, .int off, .int plo, .int hrs, .ref ms9, .ref mk, .ref mt]))) (by decide) Fa1
  have G1_2 := zset_ne (q := 11) (e' := (mo, .inr (8, [.int 0, .int (nI nf), .ref mf, .int (nI nr), .ref md, .ref mi, .int lim, .int sup, .int off, .int plo, .int hrs, .ref ms9, .ref mk, .ref mt]))) (by decide) Fa2
  generalize hws1 : (ws.set 11 (mo, .inr (8, [.int 0, .int (nI nf), .ref mf, .int (nI nr), .ref md, .ref mi, .int lim, .int sup, .int off, .int plo, .int hrs, .ref ms9, .ref mk, .ref mt]))) = ws_1 at J hk G1_0 G1_1 G1_2
  refine lv_iload_n hx hb dX7_road_5 rfl (lv_at hl 2 rfl) ?_
  refine lv_iconst (v := 0) hx hb dX7_road_6 (by decide) ?_
  refine lv_bipush (v := 19) hx hb dX7_road_7 (by decide) ?_
  refine z_cr (z_rS (As := [.int ix, .int 0, .int 19]) (rest := []) X J (cX7_isIn_ok l E) (va_cwS 3 hts gX7_road_X7_isIn rfl rfl rfl (by decide +kernel) ⟨Nat.le_of_ble_eq_true rfl, Nat.le_of_ble_eq_true rfl⟩) rfl hl.1 rfl (Nat.le_of_ble_eq_true rfl) dX7_road_9 ⟨Nat.le_of_ble_eq_true rfl, Nat.le_of_ble_eq_true rfl⟩) (fun r9 e_r9 => ?_)
  subst e_r9
  refine lv_if_ne (tgt := 21) hx hb dX7_road_12 (by decide) (fun cz12 => ?_) (fun cz12 => ?_)
  · refine lv_aload_n hx hb dX7_road_21 rfl (lv_at hl 0 rfl) ?_
    refine z_get (C := RX7) (T := TX7) (N := 14) (ci := 8) (v := .int (nI nr)) X J hi_X7 11 G1_0 rfl 3 (by decide) (by decide +kernel) rfl dX7_road_22 ?_
    refine lv_iconst (v := 4) hx hb dX7_road_25 (by decide) ?_
    refine lv_icmp_ne (tgt := 35) hx hb dX7_road_26 (by decide) (fun cz26 => ?_) (fun cz26 => ?_)
    · have hnr4 : nr < 4 := Nat.lt_of_le_of_ne hnr (fun q => cz26 (by rw [q]; rfl))
      refine lv_aload_n hx hb dX7_road_35 rfl (lv_at hl 0 rfl) ?_
      refine z_get (C := RX7) (T := TX7) (N := 14) (ci := 8) (v := .ref md) X J hi_X7 11 G1_0 rfl 4 (by decide) (by decide +kernel) rfl dX7_road_36 ?_
      refine lv_aload_n hx hb dX7_road_39 rfl (lv_at hl 0 rfl) ?_
      refine z_get (C := RX7) (T := TX7) (N := 14) (ci := 8) (v := .int (nI nr)) X J hi_X7 11 G1_0 rfl 3 (by decide) (by decide +kernel) rfl dX7_road_40 ?_
      refine lv_iload_n hx hb dX7_road_43 rfl (lv_at hl 1 rfl) ?_
      refine lv_if_eq (tgt := 51) hx hb dX7_road_44 (by decide) (fun cz44 => ?_) (fun cz44 => ?_)
      · refine lv_iconst (v := 0) hx hb dX7_road_51 (by decide) ?_
        refine z_iast X J 13 G1_1 (vp_in_nI hnr4 (by decide)) dX7_road_52 (fun H locs J => ?_)
        rw [show upd rd (nI nr).toNatClampNeg 0 = upd rd nr 0 from (by rw [nI_clamp (by omega)])] at J
        have hk := hk.trans (zK.set (ws := ws_1) (q := 13) (e := (md, zI4 E 4 (upd rd nr 0))) (by simp))
        have G2_0 := zset_ne (q := 13) (e' := (md, zI4 E 4 (upd rd nr 0))) (by decide) G1_0
        have G2_1 := zset_eq (e' := (md, zI4 E 4 (upd rd nr 0))) G1_1
        have G2_2 := zset_ne (q := 13) (e' := (md, zI4 E 4 (upd rd nr 0))) (by decide) G1_2
        generalize hws2 : (ws_1.set 13 (md, zI4 E 4 (upd rd nr 0))) = ws_2 at J hk G2_0 G2_1 G2_2
        refine lv_aload_n hx hb dX7_road_53 rfl (lv_at hl 0 rfl) ?_
        refine z_get (C := RX7) (T := TX7) (N := 14) (ci := 8) (v := .ref mi) X J hi_X7 11 G2_0 rfl 5 (by decide) (by decide +kernel) rfl dX7_road_54 ?_
        refine lv_aload_n hx hb dX7_road_57 rfl (lv_at hl 0 rfl) ?_
        refine z_get (C := RX7) (T := TX7) (N := 14) (ci := 8) (v := .int (nI nr)) X J hi_X7 11 G2_0 rfl 3 (by decide) (by decide +kernel) rfl dX7_road_58 ?_
        refine lv_iload_n hx hb dX7_road_61 rfl (lv_at hl 2 rfl) ?_
        refine z_iast X J 14 G2_2 (vp_in_nI hnr4 (by decide)) dX7_road_62 (fun H locs J => ?_)
        rw [show upd ri (nI nr).toNatClampNeg ix = upd ri nr ix from (by rw [nI_clamp (by omega)])] at J
        have hk := hk.trans (zK.set (ws := ws_2) (q := 14) (e := (mi, zI4 E 4 (upd ri nr ix))) (by simp))
        have G3_0 := zset_ne (q := 14) (e' := (mi, zI4 E 4 (upd ri nr ix))) (by decide) G2_0
        have G3_1 := zset_ne (q := 14) (e' := (mi, zI4 E 4 (upd ri nr ix))) (by decide) G2_1
        have G3_2 := zset_eq (e' := (mi, zI4 E 4 (upd ri nr ix))) G2_2
        generalize hws3 : (ws_2.set 14 (mi, zI4 E 4 (upd ri nr ix))) = ws_3 at J hk G3_0 G3_1 G3_2
        refine lv_aload_n hx hb dX7_road_63 rfl (lv_at hl 0 rfl) ?_
        refine lv_dup hx hb dX7_road_64 rfl ?_
        refine z_get (C := RX7) (T := TX7) (N := 14) (ci := 8) (v := .int (nI nr)) X J hi_X7 11 G3_0 rfl 3 (by decide) (by decide +kernel) rfl dX7_road_65 ?_
        refine lv_iconst (v := 1) hx hb dX7_road_68 (by decide) ?_
        refine lv_iadd hx hb dX7_road_69 ?_
        refine W.eq (g2 := F0 m 70 ls [.int (nI (nr + 1)), .ref mo]) (congrArg (fun z9 : Int32 => F0 m 70 ls [.int z9, .ref mo]) (show ((nI nr) + 1 : Int32) = nI (nr + 1) from (nI_1 nr))) ?_
        refine z_put (C := RX7) (T := TX7) (N := 14) (ci := 8) (v := .int (nI (nr + 1))) X J hi_X7 tyX7 tyX7_ok nmX7 11 G3_0 rfl 3 (by decide) (by decide +kernel) rfl rfl rfl (Nat.le_of_ble_eq_true rfl) dX7_road_70 (fun H locs J => ?_)
        have J : zJ E (ws_3.set 11 (mo, .inr (8, [.int 0, .int (nI nf), .ref mf, .int (nI (nr + 1)), .ref md, .ref mi, .int lim, .int sup, .int off, .int plo, .int hrs, .ref ms9, .ref mk, .ref mt]))) s H locs := J
        have hk := hk.trans (zK.set (ws := ws_3) (q := 11) (e := (mo, .inr (8, [.int 0, .int (nI nf), .ref mf, .int (nI (nr + 1)), .ref md, .ref mi, .int lim, .int sup, .int off, .int plo, .int hrs, .ref ms9, .ref mk, .ref mt]))) (by simp))
        have G4_0 := zset_eq (e' := (mo, .inr (8, [.int 0, .int (nI nf), .ref mf, .int (nI (nr + 1)), .ref md, .ref mi, .int lim, .int sup, .int off, .int plo, .int hrs, .ref ms9, .ref mk, .ref mt]))) G3_0
        have G4_1 := zset_ne (q := 11) (e' := (mo, .inr (8, [.int 0, .int (nI nf), .ref mf, .int (nI (nr + 1)), .ref md, .ref mi, .int lim, .int sup, .int off, .int plo, .int hrs, .ref ms9, .ref mk, .ref mt]))) (by decide) G3_1
        have G4_2 := zset_ne (q := 11) (e' := (mo, .inr (8, [.int 0, .int (nI nf), .ref mf, .int (nI (nr + 1)), .ref md, .ref mi, .int lim, .int sup, .int off, .int plo, .int hrs, .ref ms9, .ref mk, .ref mt]))) (by decide) G3_2
        generalize hws4 : (ws_3.set 11 (mo, .inr (8, [.int 0, .int (nI nf), .ref mf, .int (nI (nr + 1)), .ref md, .ref mi, .int lim, .int sup, .int off, .int plo, .int hrs, .ref ms9, .ref mk, .ref mt]))) = ws_4 at J hk G4_0 G4_1 G4_2
        refine lv_aload_n hx hb dX7_road_73 rfl (lv_at hl 0 rfl) ?_
        refine z_get (C := RX7) (T := TX7) (N := 14) (ci := 8) (v := .int (nI (nr + 1))) X J hi_X7 11 G4_0 rfl 3 (by decide) (by decide +kernel) rfl dX7_road_74 ?_
        refine lv_iconst (v := 1) hx hb dX7_road_77 (by decide) ?_
        refine lv_isub hx hb dX7_road_78 ?_
        refine W.eq (g2 := F0 m 79 ls [.int (nI nr)]) (congrArg (fun z9 : Int32 => F0 m 79 ls [.int z9]) (show ((nI (nr + 1)) - 1 : Int32) = nI nr from (nI_pred nr))) ?_
        have hk0 : (kRoad ix (nI nr)) = 0 := (if_neg (fun q => q (isInS_y cz12))).trans (if_neg cz26)
        subst hQ
        exact W.iret (v := nI nr) hx hb hr (fun t ht hW => ⟨⟨nI nr, ws_4, rfl, ⟨hk, (by simp only [hk0, sel0, sel1, sel2, sel3]; exact G4_0), (by simp only [hk0, sel0, sel1, sel2]; first | exact G4_1 | (rw [b01_0 cz44]; exact G4_1) | (rw [b01_1 cz44]; exact G4_1)), (by simp only [hk0, sel0, sel1, sel2, sel3]; exact G4_2), (by simp only [hk0, sel0, sel1, sel2, sel3])⟩, J.I X ht hW.alike⟩, J.F ht⟩) J.locs dX7_road_79
      · refine lv_iconst (v := 1) hx hb dX7_road_47 (by decide) ?_
        refine lv_goto (tgt := 52) hx hb dX7_road_48 (by decide) ?_
        refine z_iast X J 13 G1_1 (vp_in_nI hnr4 (by decide)) dX7_road_52 (fun H locs J => ?_)
        rw [show upd rd (nI nr).toNatClampNeg 1 = upd rd nr 1 from (by rw [nI_clamp (by omega)])] at J
        have hk := hk.trans (zK.set (ws := ws_1) (q := 13) (e := (md, zI4 E 4 (upd rd nr 1))) (by simp))
        have G2_0 := zset_ne (q := 13) (e' := (md, zI4 E 4 (upd rd nr 1))) (by decide) G1_0
        have G2_1 := zset_eq (e' := (md, zI4 E 4 (upd rd nr 1))) G1_1
        have G2_2 := zset_ne (q := 13) (e' := (md, zI4 E 4 (upd rd nr 1))) (by decide) G1_2
        generalize hws2 : (ws_1.set 13 (md, zI4 E 4 (upd rd nr 1))) = ws_2 at J hk G2_0 G2_1 G2_2
        refine lv_aload_n hx hb dX7_road_53 rfl (lv_at hl 0 rfl) ?_
        refine z_get (C := RX7) (T := TX7) (N := 14) (ci := 8) (v := .ref mi) X J hi_X7 11 G2_0 rfl 5 (by decide) (by decide +kernel) rfl dX7_road_54 ?_
        refine lv_aload_n hx hb dX7_road_57 rfl (lv_at hl 0 rfl) ?_
        refine z_get (C := RX7) (T := TX7) (N := 14) (ci := 8) (v := .int (nI nr)) X J hi_X7 11 G2_0 rfl 3 (by decide) (by decide +kernel) rfl dX7_road_58 ?_
        refine lv_iload_n hx hb dX7_road_61 rfl (lv_at hl 2 rfl) ?_
        refine z_iast X J 14 G2_2 (vp_in_nI hnr4 (by decide)) dX7_road_62 (fun H locs J => ?_)
        rw [show upd ri (nI nr).toNatClampNeg ix = upd ri nr ix from (by rw [nI_clamp (by omega)])] at J
        have hk := hk.trans (zK.set (ws := ws_2) (q := 14) (e := (mi, zI4 E 4 (upd ri nr ix))) (by simp))
        have G3_0 := zset_ne (q := 14) (e' := (mi, zI4 E 4 (upd ri nr ix))) (by decide) G2_0
        have G3_1 := zset_ne (q := 14) (e' := (mi, zI4 E 4 (upd ri nr ix))) (by decide) G2_1
        have G3_2 := zset_eq (e' := (mi, zI4 E 4 (upd ri nr ix))) G2_2
        generalize hws3 : (ws_2.set 14 (mi, zI4 E 4 (upd ri nr ix))) = ws_3 at J hk G3_0 G3_1 G3_2
        refine lv_aload_n hx hb dX7_road_63 rfl (lv_at hl 0 rfl) ?_
        refine lv_dup hx hb dX7_road_64 rfl ?_
        refine z_get (C := RX7) (T := TX7) (N := 14) (ci := 8) (v := .int (nI nr)) X J hi_X7 11 G3_0 rfl 3 (by decide) (by decide +kernel) rfl dX7_road_65 ?_
        refine lv_iconst (v := 1) hx hb dX7_road_68 (by decide) ?_
        refine lv_iadd hx hb dX7_road_69 ?_
        refine W.eq (g2 := F0 m 70 ls [.int (nI (nr + 1)), .ref mo]) (congrArg (fun z9 : Int32 => F0 m 70 ls [.int z9, .ref mo]) (show ((nI nr) + 1 : Int32) = nI (nr + 1) from (nI_1 nr))) ?_
        refine z_put (C := RX7) (T := TX7) (N := 14) (ci := 8) (v := .int (nI (nr + 1))) X J hi_X7 tyX7 tyX7_ok nmX7 11 G3_0 rfl 3 (by decide) (by decide +kernel) rfl rfl rfl (Nat.le_of_ble_eq_true rfl) dX7_road_70 (fun H locs J => ?_)
        have J : zJ E (ws_3.set 11 (mo, .inr (8, [.int 0, .int (nI nf), .ref mf, .int (nI (nr + 1)), .ref md, .ref mi, .int lim, .int sup, .int off, .int plo, .int hrs, .ref ms9, .ref mk, .ref mt]))) s H locs := J
        have hk := hk.trans (zK.set (ws := ws_3) (q := 11) (e := (mo, .inr (8, [.int 0, .int (nI nf), .ref mf, .int (nI (nr + 1)), .ref md, .ref mi, .int lim, .int sup, .int off, .int plo, .int hrs, .ref ms9, .ref mk, .ref mt]))) (by simp))
        have G4_0 := zset_eq (e' := (mo, .inr (8, [.int 0, .int (nI nf), .ref mf, .int (nI (nr + 1)), .ref md, .ref mi, .int lim, .int sup, .int off, .int plo, .int hrs, .ref ms9, .ref mk, .ref mt]))) G3_0
        have G4_1 := zset_ne (q := 11) (e' := (mo, .inr (8, [.int 0, .int (nI nf), .ref mf, .int (nI (nr + 1)), .ref md, .ref mi, .int lim, .int sup, .int off, .int plo, .int hrs, .ref ms9, .ref mk, .ref mt]))) (by decide) G3_1
        have G4_2 := zset_ne (q := 11) (e' := (mo, .inr (8, [.int 0, .int (nI nf), .ref mf, .int (nI (nr + 1)), .ref md, .ref mi, .int lim, .int sup, .int off, .int plo, .int hrs, .ref ms9, .ref mk, .ref mt]))) (by decide) G3_2
        generalize hws4 : (ws_3.set 11 (mo, .inr (8, [.int 0, .int (nI nf), .ref mf, .int (nI (nr + 1)), .ref md, .ref mi, .int lim, .int sup, .int off, .int plo, .int hrs, .ref ms9, .ref mk, .ref mt]))) = ws_4 at J hk G4_0 G4_1 G4_2
        refine lv_aload_n hx hb dX7_road_73 rfl (lv_at hl 0 rfl) ?_
        refine z_get (C := RX7) (T := TX7) (N := 14) (ci := 8) (v := .int (nI (nr + 1))) X J hi_X7 11 G4_0 rfl 3 (by decide) (by decide +kernel) rfl dX7_road_74 ?_
        refine lv_iconst (v := 1) hx hb dX7_road_77 (by decide) ?_
        refine lv_isub hx hb dX7_road_78 ?_
        refine W.eq (g2 := F0 m 79 ls [.int (nI nr)]) (congrArg (fun z9 : Int32 => F0 m 79 ls [.int z9]) (show ((nI (nr + 1)) - 1 : Int32) = nI nr from (nI_pred nr))) ?_
        have hk0 : (kRoad ix (nI nr)) = 0 := (if_neg (fun q => q (isInS_y cz12))).trans (if_neg cz26)
        subst hQ
        exact W.iret (v := nI nr) hx hb hr (fun t ht hW => ⟨⟨nI nr, ws_4, rfl, ⟨hk, (by simp only [hk0, sel0, sel1, sel2, sel3]; exact G4_0), (by simp only [hk0, sel0, sel1, sel2]; first | exact G4_1 | (rw [b01_0 cz44]; exact G4_1) | (rw [b01_1 cz44]; exact G4_1)), (by simp only [hk0, sel0, sel1, sel2, sel3]; exact G4_2), (by simp only [hk0, sel0, sel1, sel2, sel3])⟩, J.I X ht hW.alike⟩, J.F ht⟩) J.locs dX7_road_79
    · refine lv_aload_n hx hb dX7_road_29 rfl (lv_at hl 0 rfl) ?_
      refine lv_iconst (v := 2) hx hb dX7_road_30 (by decide) ?_
      refine z_ci J (z_rV (As := [.int 2]) (rest := []) (ci := 8) (q0 := 11) X J (cX7_no_ok l E G1_0) (cwV 1 hts gX7_road_X7_no rfl rfl rfl (by decide +kernel) ⟨Nat.le_of_ble_eq_true rfl, Nat.le_of_ble_eq_true rfl⟩) G1_0 rfl rfl rfl hl.1 rfl (Nat.le_of_ble_eq_true rfl) dX7_road_31 ⟨Nat.le_of_ble_eq_true rfl, Nat.le_of_ble_eq_true rfl⟩) (fun r31 ws_2 H locs hp9 J => ?_)
      obtain ⟨k2, hl9_2, G2_a0, e_r31⟩ := hp9
      have hk := hk.trans (k2.mono (by decide))
      have G2_1 := k2.2 13 _ (by decide) G1_1
      have G2_2 := k2.2 14 _ (by decide) G1_2
      subst e_r31
      have hk0 : (kRoad ix (nI nr)) = 2 := (if_neg (fun q => q (isInS_y cz12))).trans (if_pos cz26)
      subst hQ
      exact W.iret (v := 0) hx hb hr (fun t ht hW => ⟨⟨0, ws_2, rfl, ⟨hk, (by simp only [hk0, sel0, sel1, sel2, sel3]; exact G2_a0), (by simp only [hk0, sel0, sel1, sel2]; first | exact G2_1 | (rw [b01_0 cz44]; exact G2_1) | (rw [b01_1 cz44]; exact G2_1)), (by simp only [hk0, sel0, sel1, sel2, sel3]; exact G2_2), (by simp only [hk0, sel0, sel1, sel2, sel3])⟩, J.I X ht hW.alike⟩, J.F ht⟩) J.locs dX7_road_34
  · refine lv_aload_n hx hb dX7_road_15 rfl (lv_at hl 0 rfl) ?_
    refine lv_iconst (v := 1) hx hb dX7_road_16 (by decide) ?_
    refine z_ci J (z_rV (As := [.int 1]) (rest := []) (ci := 8) (q0 := 11) X J (cX7_no_ok l E G1_0) (cwV 1 hts gX7_road_X7_no rfl rfl rfl (by decide +kernel) ⟨Nat.le_of_ble_eq_true rfl, Nat.le_of_ble_eq_true rfl⟩) G1_0 rfl rfl rfl hl.1 rfl (Nat.le_of_ble_eq_true rfl) dX7_road_17 ⟨Nat.le_of_ble_eq_true rfl, Nat.le_of_ble_eq_true rfl⟩) (fun r17 ws_2 H locs hp9 J => ?_)
    obtain ⟨k2, hl9_2, G2_a0, e_r17⟩ := hp9
    have hk := hk.trans (k2.mono (by decide))
    have G2_1 := k2.2 13 _ (by decide) G1_1
    have G2_2 := k2.2 14 _ (by decide) G1_2
    subst e_r17
    have hk0 : (kRoad ix (nI nr)) = 1 := if_pos (isInS_n cz12)
    subst hQ
    exact W.iret (v := 0) hx hb hr (fun t ht hW => ⟨⟨0, ws_2, rfl, ⟨hk, (by simp only [hk0, sel0, sel1, sel2, sel3]; exact G2_a0), (by simp only [hk0, sel0, sel1, sel2]; first | exact G2_1 | (rw [b01_0 cz44]; exact G2_1) | (rw [b01_1 cz44]; exact G2_1)), (by simp only [hk0, sel0, sel1, sel2, sel3]; exact G2_2), (by simp only [hk0, sel0, sel1, sel2, sel3])⟩, J.I X ht hW.alike⟩, J.F ht⟩) J.locs dX7_road_20
set_option maxHeartbeats 4000000 in
set_option maxRecDepth 100000 in
theorem cX7_fall_ok (l : Launch) (E : zG) {ws : va_W} {mo mf md mi ms9 mk mt nf nr : Nat} {th lim sup off plo hrs : Int32} {sn : Nat → Int32} {x : Int32} (Fa0 : ws[11]? = some (mo, .inr (8, [.int th, .int (nI nf), .ref mf, .int (nI nr), .ref md, .ref mi, .int lim, .int sup, .int off, .int plo, .int hrs, .ref ms9, .ref mk, .ref mt]))) (Fa1 : ws[15]? = some (ms9, zI4 E 400 sn))  : Met l yX7_fall wsX7_fall ({ frames := 1, cells := 0, slots := 0, locals := 22 } : Room) (va_Pc [.ref mo, .int x] (zI E ws)) (va_Qi (fun (r : Int32) (ws' : va_W) => (zK [11, 15] ws ws') ∧ (ws'[11]? = some (mo, .inr (8, [.int (kFall x), .int (nI nf), .ref mf, .int (nI nr), .ref md, .ref mi, .int lim, .int sup, .int off, .int plo, .int hrs, .ref ms9, .ref mk, .ref mt]))) ∧ (ws'[15]? = some (ms9, zI4 E 400 (sel (kFall x) (fallS sn x 400) sn))) ∧ (r = sel (kFall x) (moreS sn x 400) 0)) (zI E) (zA E)) 0 0 (zA E) := by
  refine Met.ofW (cc := cX7_fall) (maxL := 5) (ret := (some .int)) (by decide) rfl ?_
  intro p e s m args below meth c s₁ B hml hv
  obtain ⟨hargs9, hI⟩ := hv
  have hx := B.exec
  have hb := B.bytes
  have hr := B.returns
  have hlocks := B.notSynchronized
  have X : zC E p m c cX7_fall 5 s args wsX7_fall RX7 := z_open B hml hI
  have hown := X.1.2.2.2.1
  have hts := X.1.2.2.2.2
  have J := hI.J
  have hi_X7 : ∀ w ∈ wsX70, w ∈ wsX7_fall := by decide +kernel
  have hk : zK [11, 15] ws ws := zK.rf
  have hl := lv_entry ([.ref mo, .int x]) (n := 5) (Nat.le_of_ble_eq_true rfl)
  rw [show entryFrame m args 5 = entryFrame m ([.ref mo, .int x] : List Value).toArray 5 from by rw [hargs9], lg_entry_eq]
  generalize (lg_sl ([.ref mo, .int x]) ++ List.replicate (5 - (lg_sl ([.ref mo, .int x])).length) Slot.unset).toArray = ls at hl ⊢
  have hl : lv_has ls 5 [(0, .ref mo), (1, .int x)] := hl
  generalize hQ : (MQ below (va_Qi (fun (r : Int32) (ws' : va_W) => (zK [11, 15] ws ws') ∧ (ws'[11]? = some (mo, .inr (8, [.int (kFall x), .int (nI nf), .ref mf, .int (nI nr), .ref md, .ref mi, .int lim, .int sup, .int off, .int plo, .int hrs, .ref ms9, .ref mk, .ref mt]))) ∧ (ws'[15]? = some (ms9, zI4 E 400 (sel (kFall x) (fallS sn x 400) sn))) ∧ (r = sel (kFall x) (moreS sn x 400) 0)) (zI E) (zA E)) args s 0 0 (zA E)) = QQ
  refine lv_aload_n hx hb dX7_fall_0 rfl (lv_at hl 0 rfl) ?_
  refine lv_iconst (v := 0) hx hb dX7_fall_1 (by decide) ?_
  refine z_put (C := RX7) (T := TX7) (N := 14) (ci := 8) (v := .int 0) X J hi_X7 tyX7 tyX7_ok nmX7 11 Fa0 rfl 0 (by decide) (by decide +kernel) rfl rfl rfl (Nat.le_of_ble_eq_true rfl) dX7_fall_2 (fun H locs J => ?_)
  have J : zJ E (ws.set 11 (mo, .inr (8, [.int 0, .int (nI nf), .ref mf, .int (nI nr), .ref md, .ref mi, .int lim, .int sup, .int off, .int plo, .int hrs, .ref ms9, .ref mk, .ref mt]))) s H locs := J
  have hk := hk.trans (zK.set (ws := ws) (q := 11) (e := (mo, .inr (8, [.int 0, .int (nI nf), .ref mf, .int (nI nr), .ref md, .ref mi, .int lim, .int sup, .int off, .int plo, .int hrs, .ref ms9, .ref mk, .ref mt]))) (by simp))
  have G1_0 := zset_eq (e' := (mo, .inr (8, [.int 0, .int (nI nf), .ref mf, .int (nI nr), .ref md, .ref mi, .int lim, .int sup, .int off, .int plo, .int hrs, .ref ms9, .ref mk, .ref mt]))) Fa0
  have G1_1 := zset_ne (q := 11) (e' := (mo, .inr (8, [.int 0, .int (nI nf), .ref mf, .int (nI nr), .ref md, .ref mi, .int lim, .int sup, .int off, .int plo, .int hrs, .ref ms9, .ref mk, .ref mt]))) (by decide) Fa1
  generalize hws1 : (ws.set 11 (mo, .inr (8, [.int 0, .int (nI nf), .ref mf, .int (nI nr), .ref md, .ref mi, .int lim, .int sup, .int off, .int plo, .int hrs, .ref ms9, .ref mk, .ref mt]))) = ws_1 at J hk G1_0 G1_1
  refine lv_iload_n hx hb dX7_fall_5 rfl (lv_at hl 1 rfl) ?_
  refine lv_iconst (v := 1) hx hb dX7_fall_6 (by decide) ?_
  refine lv_bipush (v := 30) hx hb dX7_fall_7 (by decide) ?_
  refine z_cr (z_rS (As := [.int x, .int 1, .int 30]) (rest := []) X J (cX7_isIn_ok l E) (va_cwS 3 hts gX7_fall_X7_isIn rfl rfl rfl (by decide +kernel) ⟨Nat.le_of_ble_eq_true rfl, Nat.le_of_ble_eq_true rfl⟩) rfl hl.1 rfl (Nat.le_of_ble_eq_true rfl) dX7_fall_9 ⟨Nat.le_of_ble_eq_true rfl, Nat.le_of_ble_eq_true rfl⟩) (fun r9 e_r9 => ?_)
  subst e_r9
  refine lv_if_ne (tgt := 21) hx hb dX7_fall_12 (by decide) (fun cz12 => ?_) (fun cz12 => ?_)
  · refine lv_iconst (v := moreS sn x 0) hx hb dX7_fall_21 rfl ?_
    refine lv_istore_n (lv' := [(2, .int (moreS sn x 0)), (0, .ref mo), (1, .int x)]) hx hb dX7_fall_22 rfl hl (by decide) rfl (fun ls hl => ?_)
    refine lv_iconst (v := nI 0) hx hb dX7_fall_23 rfl ?_
    refine lv_istore_n (lv' := [(3, .int (nI 0)), (2, .int (moreS sn x 0)), (0, .ref mo), (1, .int x)]) hx hb dX7_fall_24 rfl hl (by decide) rfl (fun ls hl => ?_)
    have loop_25 : ∀ (k9 i : Nat), i + k9 = 400 → ∀ (wl25 : va_W) (H : Heap) (locs : List Loc) (ls : Array Slot), zK [11, 15] ws wl25 → wl25[11]? = some (mo, .inr (8, [.int 0, .int (nI nf), .ref mf, .int (nI nr), .ref md, .ref mi, .int lim, .int sup, .int off, .int plo, .int hrs, .ref ms9, .ref mk, .ref mt])) → wl25[15]? = some (ms9, zI4 E 400 (fallS sn x i)) → zJ E wl25 s H locs → lv_has ls 5 [(3, .int (nI i)), (2, .int (moreS sn x i)), (0, .ref mo), (1, .int x)] → W p l e (headSpec wsX7_fall ({ frames := 1, cells := 0, slots := 0, locals := 22 } : Room)).room s m args below meth c H locs 0 0 QQ (F0 m 25 ls []) := by
      intro k9
      induction k9 with
      | zero =>
        intro i hik wl25 H locs ls hk L25_0 L25_1 J hl
        obtain rfl : 400 = i := by omega
        refine lv_iload_n hx hb dX7_fall_25 rfl (lv_at hl 0 rfl) ?_
        refine lv_sipush (v := nI 400) hx hb dX7_fall_26 (by decide) ?_
        refine lv_icmp_ge (tgt := 70) hx hb dX7_fall_29 (by decide) (fun cz29 => ?_) (fun cz29 => by exact (cz29 (nI_le (Nat.le_refl _) (by omega))).elim)
        refine lv_iload_n hx hb dX7_fall_70 rfl (lv_at hl 1 rfl) ?_
        have hk0 : (kFall x) = 0 := if_pos (isInS_y cz12)
        subst hQ
        exact W.iret (v := moreS sn x 400) hx hb hr (fun t ht hW => ⟨⟨moreS sn x 400, wl25, rfl, ⟨hk, (by simp only [hk0, sel0, sel1, sel2, sel3]; exact L25_0), (by simp only [hk0, sel0, sel1, sel2, sel3]; exact L25_1), (by simp only [hk0, sel0, sel1, sel2, sel3])⟩, J.I X ht hW.alike⟩, J.F ht⟩) J.locs dX7_fall_71
      | succ k9 ih_25 =>
        intro i hik wl25 H locs ls hk L25_0 L25_1 J hl
        refine lv_iload_n hx hb dX7_fall_25 rfl (lv_at hl 0 rfl) ?_
        refine lv_sipush (v := nI 400) hx hb dX7_fall_26 (by decide) ?_
        refine lv_icmp_ge (tgt := 70) hx hb dX7_fall_29 (by decide) (fun cz29 => by exact (nI_ge (by omega) (by omega) cz29).elim) (fun cz29 => ?_)
        refine lv_iload_n hx hb dX7_fall_32 rfl (lv_at hl 3 rfl) ?_
        refine lv_sipush (v := 200) hx hb dX7_fall_33 (by decide) ?_
        refine lv_aload_n hx hb dX7_fall_36 rfl (lv_at hl 2 rfl) ?_
        refine z_get (C := RX7) (T := TX7) (N := 14) (ci := 8) (v := .ref ms9) X J hi_X7 11 L25_0 rfl 11 (by decide) (by decide +kernel) rfl dX7_fall_37 ?_
        refine lv_iload_n hx hb dX7_fall_40 rfl (lv_at hl 0 rfl) ?_
        refine z_iald X J 15 L25_1 (vp_in_nI (by omega) (by decide)) dX7_fall_41 ?_
        refine W.eq (g2 := F0 m 42 ls [.int (sn i), .int 200, .int x]) (congrArg (fun z9 : Int32 => F0 m 42 ls [.int z9, .int 200, .int x]) (show ((fallS sn x i) (nI i).toNatClampNeg : Int32) = sn i from (by rw [nI_clamp (by omega)]; exact fallS_at))) ?_
        refine lv_isub hx hb dX7_fall_42 ?_
        refine va_mmin hx hb (X.1.2.2.1.trans hl.1.symm) hown (hts (.methodLink RX7 55 Lib.Math.min.name) (by decide +kernel)) (hts (.static Lib.Math.min.name) (by decide +kernel)) (hts (.initialized "java/lang/Math") (by decide +kernel)) (hts (.code Lib.Math.min.name Lib.Math.min.code 2 (some .int)) (by decide +kernel)) (Nat.le_of_ble_eq_true rfl) (Nat.le_of_ble_eq_true rfl) (Nat.le_of_ble_eq_true rfl) (Nat.le_of_ble_eq_true rfl) dX7_fall_43 ?_
        refine W.eq (g2 := F0 m 46 ls [.int (mn x (200 - (sn i)))]) rfl ?_
        refine lv_istore (lv' := [(4, .int (mn x (200 - (sn i)))), (3, .int (nI i)), (2, .int (moreS sn x i)), (0, .ref mo), (1, .int x)]) hx hb dX7_fall_46 hl (by decide) rfl (fun ls hl => ?_)
        refine lv_aload_n hx hb dX7_fall_48 rfl (lv_at hl 3 rfl) ?_
        refine z_get (C := RX7) (T := TX7) (N := 14) (ci := 8) (v := .ref ms9) X J hi_X7 11 L25_0 rfl 11 (by decide) (by decide +kernel) rfl dX7_fall_49 ?_
        refine lv_iload_n hx hb dX7_fall_52 rfl (lv_at hl 1 rfl) ?_
        refine lv_dup2_11 hx hb dX7_fall_53 rfl rfl ?_
        refine z_iald X J 15 L25_1 (vp_in_nI (by omega) (by decide)) dX7_fall_54 ?_
        refine W.eq (g2 := F0 m 55 ls [.int (sn i), .int (nI i), .ref ms9]) (congrArg (fun z9 : Int32 => F0 m 55 ls [.int z9, .int (nI i), .ref ms9]) (show ((fallS sn x i) (nI i).toNatClampNeg : Int32) = sn i from (by rw [nI_clamp (by omega)]; exact fallS_at))) ?_
        refine lv_iload hx hb dX7_fall_55 (lv_at hl 0 rfl) ?_
        refine lv_iadd hx hb dX7_fall_57 ?_
        refine z_iast X J 15 L25_1 (vp_in_nI (by omega) (by decide)) dX7_fall_58 (fun H locs J => ?_)
        rw [show upd (fallS sn x i) (nI i).toNatClampNeg ((sn i) + (mn x (200 - (sn i)))) = fallS sn x (i + 1) from (by rw [nI_clamp (by omega)]; exact fallS_step)] at J
        have hk := hk.trans (zK.set (ws := wl25) (q := 15) (e := (ms9, zI4 E 400 (fallS sn x (i + 1)))) (by simp))
        have G2_0 := zset_ne (q := 15) (e' := (ms9, zI4 E 400 (fallS sn x (i + 1)))) (by decide) L25_0
        have G2_1 := zset_eq (e' := (ms9, zI4 E 400 (fallS sn x (i + 1)))) L25_1
        generalize hws2 : (wl25.set 15 (ms9, zI4 E 400 (fallS sn x (i + 1)))) = ws_2 at J hk G2_0 G2_1
        refine lv_iload_n hx hb dX7_fall_59 rfl (lv_at hl 2 rfl) ?_
        refine lv_iload hx hb dX7_fall_60 (lv_at hl 0 rfl) ?_
        refine lv_iadd hx hb dX7_fall_62 ?_
        refine lv_istore_n (lv' := [(2, .int ((moreS sn x i) + (mn x (200 - (sn i))))), (4, .int (mn x (200 - (sn i)))), (3, .int (nI i)), (0, .ref mo), (1, .int x)]) hx hb dX7_fall_63 rfl hl (by decide) rfl (fun ls hl => ?_)
        refine lv_iinc (v := nI (i + 1)) (lv' := [(3, .int (nI (i + 1))), (2, .int ((moreS sn x i) + (mn x (200 - (sn i))))), (4, .int (mn x (200 - (sn i)))), (0, .ref mo), (1, .int x)]) hx hb dX7_fall_64 hl (k := 2) rfl (nI_1 i) (by decide) rfl (fun ls hl => ?_)
        refine lv_goto (tgt := 25) hx hb dX7_fall_67 (by decide) ?_
        exact ih_25 (i + 1) (by omega) _ _ _ _ hk G2_0 G2_1 J (lv_sub hl [0, 1, 3, 4] rfl)
    exact loop_25 400 0 (by omega) _ _ _ _ hk G1_0 (by rw [fallS_0]; exact G1_1) J (lv_sub hl [0, 1, 2, 3] rfl)
  · refine lv_aload_n hx hb dX7_fall_15 rfl (lv_at hl 0 rfl) ?_
    refine lv_iconst (v := 1) hx hb dX7_fall_16 (by decide) ?_
    refine z_ci J (z_rV (As := [.int 1]) (rest := []) (ci := 8) (q0 := 11) X J (cX7_no_ok l E G1_0) (cwV 1 hts gX7_fall_X7_no rfl rfl rfl (by decide +kernel) ⟨Nat.le_of_ble_eq_true rfl, Nat.le_of_ble_eq_true rfl⟩) G1_0 rfl rfl rfl hl.1 rfl (Nat.le_of_ble_eq_true rfl) dX7_fall_17 ⟨Nat.le_of_ble_eq_true rfl, Nat.le_of_ble_eq_true rfl⟩) (fun r17 ws_2 H locs hp9 J => ?_)
    obtain ⟨k2, hl9_2, G2_a0, e_r17⟩ := hp9
    have hk := hk.trans (k2.mono (by decide))
    have G2_1 := k2.2 15 _ (by decide) G1_1
    subst e_r17
    have hk0 : (kFall x) = 1 := if_neg (isInS_n cz12)
    subst hQ
    exact W.iret (v := 0) hx hb hr (fun t ht hW => ⟨⟨0, ws_2, rfl, ⟨hk, (by simp only [hk0, sel0, sel1, sel2, sel3]; exact G2_a0), (by simp only [hk0, sel0, sel1, sel2, sel3]; exact G2_1), (by simp only [hk0, sel0, sel1, sel2, sel3])⟩, J.I X ht hW.alike⟩, J.F ht⟩) J.locs dX7_fall_20
