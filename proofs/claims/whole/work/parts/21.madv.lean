set_option maxHeartbeats 400000 in
set_option maxRecDepth 100000 in
theorem cX7_advise_ok (l : Launch) (E : zG) {ws : va_W} {mo mf md mi ms9 mk mt nf nr : Nat} {th lim sup off plo hrs : Int32} {fa rd ri sn kp tp : Nat → Int32} {wd stg he : Int32} (Fa0 : ws[11]? = some (mo, .inr (8, [.int th, .int (nI nf), .ref mf, .int (nI nr), .ref md, .ref mi, .int lim, .int sup, .int off, .int plo, .int hrs, .ref ms9, .ref mk, .ref mt]))) (Fa1 : ws[12]? = some (mf, zI4 E 66 fa)) (Fa2 : ws[13]? = some (md, zI4 E 4 rd)) (Fa3 : ws[14]? = some (mi, zI4 E 4 ri)) (Fa4 : ws[15]? = some (ms9, zI4 E 400 sn)) (Fa5 : ws[16]? = some (mk, zI4 E 400 kp)) (Fa6 : ws[17]? = some (mt, zI4 E 400 tp)) (hnf : nf ≤ 10) (hok : ∀ j, j < nf → okF fa j) (hnr : nr ≤ 4) (hor : ∀ q, q < nr → okR rd ri q) (hb12 : 12 < ws.length) : Met l yX7_advise wsX7_advise ({ frames := 5, cells := 20, slots := 120, locals := 129 } : Room) (va_Pc [.ref mo, .int wd, .int stg, .int he] (zI E ws)) (va_Qi (fun (r : Int32) (ws' : va_W) => (zK [11, 12, 15, 16, 17] ws ws') ∧ (∃ (fq : Nat → Int32) (kq : Nat → Int32) (tq : Nat → Int32), (ws'[11]? = some (mo, .inr (8, [.int (kAdvise wd stg he), .int (nI nf), .ref mf, .int (nI nr), .ref md, .ref mi, .int lim, .int sup, .int off, .int plo, .int hrs, .ref ms9, .ref mk, .ref mt]))) ∧ (ws'[12]? = some (mf, zI4 E 66 fq)) ∧ (ws'[15]? = some (ms9, zI4 E 400 sn)) ∧ (ws'[16]? = some (mk, zI4 E 400 kq)) ∧ (ws'[17]? = some (mt, zI4 E 400 tq)) ∧ ((∀ j, j < 6 * nf → fq j = fa j) ∧ r = sel (kAdvise wd stg he) (advS fa nf he stg sup wd sn rd ri lim nr) 0))) (zI E) (zA E)) 20 120 (zA E) := by
  refine Met.ofW (cc := cX7_advise) (maxL := 9) (ret := (some .int)) (by decide) rfl ?_
  intro p e s m args below meth c s₁ B hml hv
  obtain ⟨hargs9, hI⟩ := hv
  have hx := B.exec
  have hb := B.bytes
  have hr := B.returns
  have hlocks := B.notSynchronized
  have X : zC E p m c cX7_advise 9 s args wsX7_advise RX7 := z_open B hml hI
  have hown := X.1.2.2.2.1
  have hts := X.1.2.2.2.2
  have J := hI.J
  have hi_X7 : ∀ w ∈ wsX70, w ∈ wsX7_advise := by decide +kernel
  have hk : zK [11, 12, 15, 16, 17] ws ws := zK.rf
  have hl := lv_entry ([.ref mo, .int wd, .int stg, .int he]) (n := 9) (Nat.le_of_ble_eq_true rfl)
  rw [show entryFrame m args 9 = entryFrame m ([.ref mo, .int wd, .int stg, .int he] : List Value).toArray 9 from by rw [hargs9], lg_entry_eq]
  generalize (lg_sl ([.ref mo, .int wd, .int stg, .int he]) ++ List.replicate (9 - (lg_sl ([.ref mo, .int wd, .int stg, .int he])).length) Slot.unset).toArray = ls at hl ⊢
  have hl : lv_has ls 9 [(0, .ref mo), (1, .int wd), (2, .int stg), (3, .int he)] := hl
  generalize hQ : (MQ below (va_Qi (fun (r : Int32) (ws' : va_W) => (zK [11, 12, 15, 16, 17] ws ws') ∧ (∃ (fq : Nat → Int32) (kq : Nat → Int32) (tq : Nat → Int32), (ws'[11]? = some (mo, .inr (8, [.int (kAdvise wd stg he), .int (nI nf), .ref mf, .int (nI nr), .ref md, .ref mi, .int lim, .int sup, .int off, .int plo, .int hrs, .ref ms9, .ref mk, .ref mt]))) ∧ (ws'[12]? = some (mf, zI4 E 66 fq)) ∧ (ws'[15]? = some (ms9, zI4 E 400 sn)) ∧ (ws'[16]? = some (mk, zI4 E 400 kq)) ∧ (ws'[17]? = some (mt, zI4 E 400 tq)) ∧ ((∀ j, j < 6 * nf → fq j = fa j) ∧ r = sel (kAdvise wd stg he) (advS fa nf he stg sup wd sn rd ri lim nr) 0))) (zI E) (zA E)) args s 20 120 (zA E)) = QQ
  refine lv_aload_n hx hb dX7_advise_0 rfl (lv_at hl 0 rfl) ?_
  refine lv_iconst (v := 0) hx hb dX7_advise_1 (by decide) ?_
  refine z_put (C := RX7) (T := TX7) (N := 14) (ci := 8) (v := .int 0) X J hi_X7 tyX7 tyX7_ok nmX7 11 Fa0 rfl 0 (by decide) (by decide +kernel) rfl rfl rfl (Nat.le_of_ble_eq_true rfl) dX7_advise_2 (fun H locs J => ?_)
  have J : zJ E (ws.set 11 (mo, .inr (8, [.int 0, .int (nI nf), .ref mf, .int (nI nr), .ref md, .ref mi, .int lim, .int sup, .int off, .int plo, .int hrs, .ref ms9, .ref mk, .ref mt]))) s H locs := J
  have hk := hk.trans (zK.set (ws := ws) (q := 11) (e := (mo, .inr (8, [.int 0, .int (nI nf), .ref mf, .int (nI nr), .ref md, .ref mi, .int lim, .int sup, .int off, .int plo, .int hrs, .ref ms9, .ref mk, .ref mt]))) (by simp))
  have G1_0 := zset_eq (e' := (mo, .inr (8, [.int 0, .int (nI nf), .ref mf, .int (nI nr), .ref md, .ref mi, .int lim, .int sup, .int off, .int plo, .int hrs, .ref ms9, .ref mk, .ref mt]))) Fa0
  have G1_1 := zset_ne (q := 11) (e' := (mo, .inr (8, [.int 0, .int (nI nf), .ref mf, .int (nI nr), .ref md, .ref mi, .int lim, .int sup, .int off, .int plo, .int hrs, .ref ms9, .ref mk, .ref mt]))) (by decide) Fa1
  have G1_2 := zset_ne (q := 11) (e' := (mo, .inr (8, [.int 0, .int (nI nf), .ref mf, .int (nI nr), .ref md, .ref mi, .int lim, .int sup, .int off, .int plo, .int hrs, .ref ms9, .ref mk, .ref mt]))) (by decide) Fa2
  have G1_3 := zset_ne (q := 11) (e' := (mo, .inr (8, [.int 0, .int (nI nf), .ref mf, .int (nI nr), .ref md, .ref mi, .int lim, .int sup, .int off, .int plo, .int hrs, .ref ms9, .ref mk, .ref mt]))) (by decide) Fa3
  have G1_4 := zset_ne (q := 11) (e' := (mo, .inr (8, [.int 0, .int (nI nf), .ref mf, .int (nI nr), .ref md, .ref mi, .int lim, .int sup, .int off, .int plo, .int hrs, .ref ms9, .ref mk, .ref mt]))) (by decide) Fa4
  have G1_5 := zset_ne (q := 11) (e' := (mo, .inr (8, [.int 0, .int (nI nf), .ref mf, .int (nI nr), .ref md, .ref mi, .int lim, .int sup, .int off, .int plo, .int hrs, .ref ms9, .ref mk, .ref mt]))) (by decide) Fa5
  have G1_6 := zset_ne (q := 11) (e' := (mo, .inr (8, [.int 0, .int (nI nf), .ref mf, .int (nI nr), .ref md, .ref mi, .int lim, .int sup, .int off, .int plo, .int hrs, .ref ms9, .ref mk, .ref mt]))) (by decide) Fa6
  generalize hws1 : (ws.set 11 (mo, .inr (8, [.int 0, .int (nI nf), .ref mf, .int (nI nr), .ref md, .ref mi, .int lim, .int sup, .int off, .int plo, .int hrs, .ref ms9, .ref mk, .ref mt]))) = ws_1 at J hk G1_0 G1_1 G1_2 G1_3 G1_4 G1_5 G1_6
  refine lv_iload_n hx hb dX7_advise_5 rfl (lv_at hl 1 rfl) ?_
  refine z_cr (z_rS (As := [.int wd]) (rest := []) X J (cX7_isWind_ok l E) (va_cwS 1 hts gX7_advise_X7_isWind rfl rfl rfl (by decide +kernel) ⟨Nat.le_of_ble_eq_true rfl, Nat.le_of_ble_eq_true rfl⟩) rfl hl.1 rfl (Nat.le_of_ble_eq_true rfl) dX7_advise_6 ⟨Nat.le_of_ble_eq_true rfl, Nat.le_of_ble_eq_true rfl⟩) (fun r6 e_r6 => ?_)
  subst e_r6
  refine lv_if_ne (tgt := 18) hx hb dX7_advise_9 (by decide) (fun cz9 => ?_) (fun cz9 => ?_)
  · refine lv_iload_n hx hb dX7_advise_18 rfl (lv_at hl 2 rfl) ?_
    refine z_cr (z_rS (As := [.int stg]) (rest := []) X J (cX7_isStrength_ok l E) (va_cwS 1 hts gX7_advise_X7_isStrength rfl rfl rfl (by decide +kernel) ⟨Nat.le_of_ble_eq_true rfl, Nat.le_of_ble_eq_true rfl⟩) rfl hl.1 rfl (Nat.le_of_ble_eq_true rfl) dX7_advise_19 ⟨Nat.le_of_ble_eq_true rfl, Nat.le_of_ble_eq_true rfl⟩) (fun r19 e_r19 => ?_)
    subst e_r19
    refine lv_if_eq (tgt := 35) hx hb dX7_advise_22 (by decide) (fun cz22 => ?_) (fun cz22 => ?_)
    · refine lv_aload_n hx hb dX7_advise_35 rfl (lv_at hl 0 rfl) ?_
      refine lv_iconst (v := 2) hx hb dX7_advise_36 (by decide) ?_
      refine z_ci J (z_rV (As := [.int 2]) (rest := []) (ci := 8) (q0 := 11) X J (cX7_no_ok l E G1_0) (cwV 1 hts gX7_advise_X7_no rfl rfl rfl (by decide +kernel) ⟨Nat.le_of_ble_eq_true rfl, Nat.le_of_ble_eq_true rfl⟩) G1_0 rfl rfl rfl hl.1 rfl (Nat.le_of_ble_eq_true rfl) dX7_advise_37 ⟨Nat.le_of_ble_eq_true rfl, Nat.le_of_ble_eq_true rfl⟩) (fun r37 ws_2 H locs hp9 J => ?_)
      obtain ⟨k2, hl9_2, G2_a0, e_r37⟩ := hp9
      have hk := hk.trans (k2.mono (by decide))
      have G2_1 := k2.2 12 _ (by decide) G1_1
      have G2_2 := k2.2 13 _ (by decide) G1_2
      have G2_3 := k2.2 14 _ (by decide) G1_3
      have G2_4 := k2.2 15 _ (by decide) G1_4
      have G2_5 := k2.2 16 _ (by decide) G1_5
      have G2_6 := k2.2 17 _ (by decide) G1_6
      subst e_r37
      have hk0 : (kAdvise wd stg he) = 2 := (if_neg (fun q => q (isInS_y cz9))).trans (if_pos (Or.inl (isInS_n cz22)))
      refine W.widen (k := 20) (n := 120) (by omega) (by omega) ?_
      subst hQ
      exact W.iret (v := 0) hx hb hr (fun t ht hW => ⟨⟨0, ws_2, rfl, ⟨hk, ⟨fa, kp, tp, (by simp only [hk0, sel0, sel1, sel2, sel3]; exact G2_a0), G2_1, G2_4, G2_5, G2_6, (by refine ⟨fun _ _ => rfl, ?_⟩; simp only [hk0, sel0, sel1, sel2, sel3])⟩⟩, J.I X ht hW.alike⟩, J.F ht⟩) J.locs dX7_advise_40
    · refine lv_iload_n hx hb dX7_advise_25 rfl (lv_at hl 3 rfl) ?_
      refine lv_iconst (v := 1) hx hb dX7_advise_26 (by decide) ?_
      refine lv_bipush (v := 9) hx hb dX7_advise_27 (by decide) ?_
      refine z_cr (z_rS (As := [.int he, .int 1, .int 9]) (rest := []) X J (cX7_isIn_ok l E) (va_cwS 3 hts gX7_advise_X7_isIn rfl rfl rfl (by decide +kernel) ⟨Nat.le_of_ble_eq_true rfl, Nat.le_of_ble_eq_true rfl⟩) rfl hl.1 rfl (Nat.le_of_ble_eq_true rfl) dX7_advise_29 ⟨Nat.le_of_ble_eq_true rfl, Nat.le_of_ble_eq_true rfl⟩) (fun r29 e_r29 => ?_)
      subst e_r29
      refine lv_if_ne (tgt := 41) hx hb dX7_advise_32 (by decide) (fun cz32 => ?_) (fun cz32 => ?_)
      · have hwd9 := inR03 (isInS_y cz9)
        obtain ⟨he9, hhe9, hhv9, ekhe9⟩ := inR_1n (b := 9) (by decide) (isInS_y cz32)
        have hl : lv_has ls 9 [(0, .ref mo), (1, .int wd), (2, .int stg), (3, .int (nI he9))] := lv_repl hl (congrArg (fun z9 : Int32 => ([(0, .ref mo), (1, .int wd), (2, .int stg), (3, .int z9)] : List (Nat × Value))) (show he = nI he9 from ekhe9))
        have eyhe9 : he.toNatClampNeg = he9 := by rw [ekhe9, nI_clamp (by omega)]
        refine lv_iload_n hx hb dX7_advise_41 rfl (lv_at hl 1 rfl) ?_
        refine lv_iconst (v := 2) hx hb dX7_advise_42 (by decide) ?_
        refine lv_irem hx hb dX7_advise_43 (by decide) ?_
        refine lv_if_ne (tgt := 51) hx hb dX7_advise_44 (by decide) (fun cz44 => ?_) (fun cz44 => ?_)
        · refine lv_iconst (v := 0) hx hb dX7_advise_51 (by decide) ?_
          refine lv_istore (lv' := [(4, .int 0), (0, .ref mo), (1, .int wd), (2, .int stg), (3, .int (nI he9))]) hx hb dX7_advise_52 hl (by decide) rfl (fun ls hl => ?_)
          refine lv_iconst (v := (advG (advF0 fa nf (nI he9) stg sup wd sn rd ri lim nr) 0).1) hx hb dX7_advise_54 rfl ?_
          refine lv_istore (lv' := [(5, .int ((advG (advF0 fa nf (nI he9) stg sup wd sn rd ri lim nr) 0).1)), (4, .int 0), (0, .ref mo), (1, .int wd), (2, .int stg), (3, .int (nI he9))]) hx hb dX7_advise_55 hl (by decide) rfl (fun ls hl => ?_)
          refine lv_iconst (v := (advG (advF0 fa nf (nI he9) stg sup wd sn rd ri lim nr) 0).2) hx hb dX7_advise_57 rfl ?_
          refine lv_istore (lv' := [(6, .int ((advG (advF0 fa nf (nI he9) stg sup wd sn rd ri lim nr) 0).2)), (5, .int ((advG (advF0 fa nf (nI he9) stg sup wd sn rd ri lim nr) 0).1)), (4, .int 0), (0, .ref mo), (1, .int wd), (2, .int stg), (3, .int (nI he9))]) hx hb dX7_advise_58 hl (by decide) rfl (fun ls hl => ?_)
          refine lv_iconst (v := nI 0) hx hb dX7_advise_60 rfl ?_
          refine lv_istore (lv' := [(7, .int (nI 0)), (6, .int ((advG (advF0 fa nf (nI he9) stg sup wd sn rd ri lim nr) 0).2)), (5, .int ((advG (advF0 fa nf (nI he9) stg sup wd sn rd ri lim nr) 0).1)), (4, .int 0), (0, .ref mo), (1, .int wd), (2, .int stg), (3, .int (nI he9))]) hx hb dX7_advise_61 hl (by decide) rfl (fun ls hl => ?_)
          have loop_63 : ∀ (k9 i : Nat) (f9 : Nat → Int32) (k0 : Nat → Int32) (t0 : Nat → Int32), i + k9 = 20 → (∀ a b1 c1 d1 e1 g1, fput f9 nf a b1 c1 d1 e1 g1 = fput fa nf a b1 c1 d1 e1 g1) → (∀ j, j < 6 * nf → f9 j = fa j) → ∀ (wl63 : va_W) (H : Heap) (locs : List Loc) (ls : Array Slot), zK [11, 12, 15, 16, 17] ws wl63 → wl63[11]? = some (mo, .inr (8, [.int 0, .int (nI nf), .ref mf, .int (nI nr), .ref md, .ref mi, .int lim, .int sup, .int off, .int plo, .int hrs, .ref ms9, .ref mk, .ref mt])) → wl63[12]? = some (mf, zI4 E 66 f9) → wl63[13]? = some (md, zI4 E 4 rd) → wl63[14]? = some (mi, zI4 E 4 ri) → wl63[15]? = some (ms9, zI4 E 400 sn) → wl63[16]? = some (mk, zI4 E 400 k0) → wl63[17]? = some (mt, zI4 E 400 t0) → zJ E wl63 s H locs → lv_has ls 9 [(7, .int (nI i)), (6, .int ((advG (advF0 fa nf (nI he9) stg sup wd sn rd ri lim nr) i).2)), (5, .int ((advG (advF0 fa nf (nI he9) stg sup wd sn rd ri lim nr) i).1)), (4, .int 0), (0, .ref mo), (1, .int wd), (2, .int stg), (3, .int (nI he9))] → W p l e (headSpec wsX7_advise ({ frames := 5, cells := 20, slots := 120, locals := 129 } : Room)).room s m args below meth c H locs i (6 * i) QQ (F0 m 63 ls []) := by
            intro k9
            induction k9 with
            | zero =>
              intro i f9 k0 t0 hik hq9 hz9 wl63 H locs ls hk L63_0 L63_1 L63_2 L63_3 L63_4 L63_5 L63_6 J hl
              obtain rfl : 20 = i := by omega
              refine lv_iload hx hb dX7_advise_63 (lv_at hl 0 rfl) ?_
              refine lv_bipush (v := nI 20) hx hb dX7_advise_65 (by decide) ?_
              refine lv_icmp_ge (tgt := 155) hx hb dX7_advise_67 (by decide) (fun cz67 => ?_) (fun cz67 => by exact (cz67 (nI_le (Nat.le_refl _) (by omega))).elim)
              refine lv_iload hx hb dX7_advise_155 (lv_at hl 2 rfl) ?_
              have hk0 : (kAdvise wd stg he) = 0 := (if_neg (fun q => q (isInS_y cz9))).trans (if_neg (not_or_e (isInS_y cz22) (isInS_y cz32)))
              refine W.widen (k := 20) (n := 120) (by omega) (by omega) ?_
              subst hQ
              exact W.iret (v := (advG (advF0 fa nf (nI he9) stg sup wd sn rd ri lim nr) 20).1) hx hb hr (fun t ht hW => ⟨⟨(advG (advF0 fa nf (nI he9) stg sup wd sn rd ri lim nr) 20).1, wl63, rfl, ⟨hk, ⟨f9, k0, t0, (by simp only [hk0, sel0, sel1, sel2, sel3]; exact L63_0), L63_1, L63_4, L63_5, L63_6, (by refine ⟨hz9, ?_⟩; rw [hk0, sel0, ekhe9]; exact (if_neg cz44).symm)⟩⟩, J.I X ht hW.alike⟩, J.F ht⟩) J.locs dX7_advise_157
            | succ k9 ih_63 =>
              intro i f9 k0 t0 hik hq9 hz9 wl63 H locs ls hk L63_0 L63_1 L63_2 L63_3 L63_4 L63_5 L63_6 J hl
              refine lv_iload hx hb dX7_advise_63 (lv_at hl 0 rfl) ?_
              refine lv_bipush (v := nI 20) hx hb dX7_advise_65 (by decide) ?_
              refine lv_icmp_ge (tgt := 155) hx hb dX7_advise_67 (by decide) (fun cz67 => by exact (nI_ge (by omega) (by omega) cz67).elim) (fun cz67 => ?_)
              refine lv_aload_n hx hb dX7_advise_70 rfl (lv_at hl 4 rfl) ?_
              refine lv_aload_n hx hb dX7_advise_71 rfl (lv_at hl 4 rfl) ?_
              refine z_get (C := RX7) (T := TX7) (N := 14) (ci := 8) (v := .int (nI nf)) X J hi_X7 11 L63_0 rfl 1 (by decide) (by decide +kernel) rfl dX7_advise_72 ?_
              refine lv_iload hx hb dX7_advise_75 (lv_at hl 3 rfl) ?_
              refine lv_if_eq (tgt := 85) hx hb dX7_advise_77 (by decide) (fun cz77 => ?_) (fun cz77 => by exact absurd cz77 (by decide))
              refine lv_iconst (v := 0) hx hb dX7_advise_85 (by decide) ?_
              refine lv_iload hx hb dX7_advise_86 (lv_at hl 3 rfl) ?_
              refine lv_if_eq (tgt := 95) hx hb dX7_advise_88 (by decide) (fun cz88 => ?_) (fun cz88 => by exact absurd cz88 (by decide))
              refine lv_iload hx hb dX7_advise_95 (lv_at hl 0 rfl) ?_
              refine lv_bipush (v := 20) hx hb dX7_advise_97 (by decide) ?_
              refine lv_iload hx hb dX7_advise_99 (lv_at hl 3 rfl) ?_
              refine lv_iload_n hx hb dX7_advise_101 rfl (lv_at hl 7 rfl) ?_
              refine lv_iconst (v := 0) hx hb dX7_advise_102 (by decide) ?_
              have hb99 := hk.1
              refine z_cv J (z_rV (As := [.int (nI nf), .int 0, .int (nI i), .int 20, .int 0, .int (nI he9), .int 0]) (rest := []) (ci := 8) (q0 := 11) X J (cX7_setUp_ok l E L63_0 L63_1 (by omega) (by omega) (by omega)) (cwV 7 hts gX7_advise_X7_setUp rfl rfl rfl (by decide +kernel) ⟨Nat.le_of_ble_eq_true rfl, Nat.le_of_ble_eq_true rfl⟩) L63_0 rfl rfl rfl hl.1 rfl (Nat.le_of_ble_eq_true rfl) dX7_advise_103 ⟨by show _ ≤ 20; omega, by show _ ≤ 120; omega⟩) (fun ws_2 H locs hp9 J => ?_)
              obtain ⟨k2, G2_a0⟩ := hp9
              have hk := hk.trans (k2.mono (by decide))
              have G2_0 := k2.2 11 _ (by decide) L63_0
              have G2_2 := k2.2 13 _ (by decide) L63_2
              have G2_3 := k2.2 14 _ (by decide) L63_3
              have G2_4 := k2.2 15 _ (by decide) L63_4
              have G2_5 := k2.2 16 _ (by decide) L63_5
              have G2_6 := k2.2 17 _ (by decide) L63_6
              have J := J.congr 12 (g := (fput fa nf 0 (nI i) 20 (b01 0) (nI he9) 0)) G2_a0 (fun j _ => congrFun (hq9 _ _ _ _ _ _) j)
              have hk := hk.trans (zK.set (ws := ws_2) (q := 12) (e := (mf, zI4 E 66 (fput fa nf 0 (nI i) 20 (b01 0) (nI he9) 0))) (by simp))
              have G3_0 := zset_ne (q := 12) (e' := (mf, zI4 E 66 (fput fa nf 0 (nI i) 20 (b01 0) (nI he9) 0))) (by decide) G2_0
              have G3_1 := zset_eq (e' := (mf, zI4 E 66 (fput fa nf 0 (nI i) 20 (b01 0) (nI he9) 0))) G2_a0
              have G3_2 := zset_ne (q := 12) (e' := (mf, zI4 E 66 (fput fa nf 0 (nI i) 20 (b01 0) (nI he9) 0))) (by decide) G2_2
              have G3_3 := zset_ne (q := 12) (e' := (mf, zI4 E 66 (fput fa nf 0 (nI i) 20 (b01 0) (nI he9) 0))) (by decide) G2_3
              have G3_4 := zset_ne (q := 12) (e' := (mf, zI4 E 66 (fput fa nf 0 (nI i) 20 (b01 0) (nI he9) 0))) (by decide) G2_4
              have G3_5 := zset_ne (q := 12) (e' := (mf, zI4 E 66 (fput fa nf 0 (nI i) 20 (b01 0) (nI he9) 0))) (by decide) G2_5
              have G3_6 := zset_ne (q := 12) (e' := (mf, zI4 E 66 (fput fa nf 0 (nI i) 20 (b01 0) (nI he9) 0))) (by decide) G2_6
              generalize hws3 : (ws_2.set 12 (mf, zI4 E 66 (fput fa nf 0 (nI i) 20 (b01 0) (nI he9) 0))) = ws_3 at J hk G3_0 G3_1 G3_2 G3_3 G3_4 G3_5 G3_6
              have hok9 : ∀ j, j < nf + 1 → okF (fput fa nf 0 (nI i) 20 (b01 0) (nI he9) 0) j := okF_put (co := 0) (ro := i) (le := 20) (he := he9) (ga := 0) hok (by first | rfl | decide) (by first | rfl | decide) (by first | rfl | decide) rfl (by first | rfl | decide) (by decide) hhe9 hhv9 (by decide) (Or.inl ⟨rfl, by omega, by omega⟩)
              refine lv_aload_n hx hb dX7_advise_106 rfl (lv_at hl 4 rfl) ?_
              refine lv_aload_n hx hb dX7_advise_107 rfl (lv_at hl 4 rfl) ?_
              refine z_get (C := RX7) (T := TX7) (N := 14) (ci := 8) (v := .int (nI nf)) X J hi_X7 11 G3_0 rfl 1 (by decide) (by decide +kernel) rfl dX7_advise_108 ?_
              refine lv_iconst (v := 1) hx hb dX7_advise_111 (by decide) ?_
              refine lv_iadd hx hb dX7_advise_112 ?_
              refine W.eq (g2 := F0 m 113 ls [.int (nI (nf + 1)), .ref mo]) (congrArg (fun z9 : Int32 => F0 m 113 ls [.int z9, .ref mo]) (show ((nI nf) + 1 : Int32) = nI (nf + 1) from (nI_1 nf))) ?_
              refine lv_iconst (v := (-1)) hx hb dX7_advise_113 (by decide) ?_
              refine z_cv J (z_rV (As := [.int (nI (nf + 1)), .int (-1)]) (rest := []) (ci := 8) (q0 := 11) X J (cX7_stand_ok l E G3_0 G3_1 G3_6 (by omega) hok9) (cwV 2 hts gX7_advise_X7_stand rfl rfl rfl (by decide +kernel) ⟨Nat.le_of_ble_eq_true rfl, Nat.le_of_ble_eq_true rfl⟩) G3_0 rfl rfl rfl hl.1 rfl (Nat.le_of_ble_eq_true rfl) dX7_advise_114 ⟨by show _ ≤ 20; omega, by show _ ≤ 120; omega⟩) (fun ws_4 H locs hp9 J => ?_)
              obtain ⟨k4, ⟨tq_4, G4_a0, e_r114⟩⟩ := hp9
              have hk := hk.trans (k4.mono (by decide))
              have G4_0 := k4.2 11 _ (by decide) G3_0
              have G4_1 := k4.2 12 _ (by decide) G3_1
              have G4_2 := k4.2 13 _ (by decide) G3_2
              have G4_3 := k4.2 14 _ (by decide) G3_3
              have G4_4 := k4.2 15 _ (by decide) G3_4
              have G4_5 := k4.2 16 _ (by decide) G3_5
              refine lv_aload_n hx hb dX7_advise_117 rfl (lv_at hl 4 rfl) ?_
              refine lv_iload_n hx hb dX7_advise_118 rfl (lv_at hl 5 rfl) ?_
              refine lv_iload_n hx hb dX7_advise_119 rfl (lv_at hl 6 rfl) ?_
              refine z_ci J (z_rV (As := [.int wd, .int stg]) (rest := []) (ci := 8) (q0 := 11) X J (cX7_tried_ok l E G4_0 G4_1 G4_2 G4_3 G4_4 G4_5 G4_a0 e_r114 (by omega) hok9 hwd9 hnr hor) (cwV 2 hts gX7_advise_X7_tried rfl rfl rfl (by decide +kernel) ⟨Nat.le_of_ble_eq_true rfl, Nat.le_of_ble_eq_true rfl⟩) G4_0 rfl rfl rfl hl.1 rfl (Nat.le_of_ble_eq_true rfl) dX7_advise_120 ⟨by show _ ≤ 20; omega, by show _ ≤ 120; omega⟩) (fun r120 ws_5 H locs hp9 J => ?_)
              obtain ⟨k5, G5_a0, G5_a1, e_r120⟩ := hp9
              have hk := hk.trans (k5.mono (by decide))
              have G5_0 := k5.2 11 _ (by decide) G4_0
              have G5_1 := k5.2 12 _ (by decide) G4_1
              have G5_2 := k5.2 13 _ (by decide) G4_2
              have G5_3 := k5.2 14 _ (by decide) G4_3
              have G5_6 := k5.2 17 _ (by decide) G4_a0
              subst e_r120
              refine W.eq (g2 := F0 m 123 ls [.int (advF0 fa nf (nI he9) stg sup wd sn rd ri lim nr i)]) (congrArg (fun z9 : Int32 => F0 m 123 ls [.int z9]) (show (allB (hsS stg sup ((hgS (fput fa nf 0 (nI i) 20 (b01 0) (nI he9) 0) (-1) (nf + 1)).1) ((hgS (fput fa nf 0 (nI i) 20 (b01 0) (nI he9) 0) (-1) (nf + 1)).2) wd sn 4).2.1 rd ri lim nr : Int32) = advF0 fa nf (nI he9) stg sup wd sn rd ri lim nr i from rfl)) ?_
              refine lv_istore (lv' := [(8, .int (advF0 fa nf (nI he9) stg sup wd sn rd ri lim nr i)), (7, .int (nI i)), (6, .int ((advG (advF0 fa nf (nI he9) stg sup wd sn rd ri lim nr) i).2)), (5, .int ((advG (advF0 fa nf (nI he9) stg sup wd sn rd ri lim nr) i).1)), (4, .int 0), (0, .ref mo), (1, .int wd), (2, .int stg), (3, .int (nI he9))]) hx hb dX7_advise_123 hl (by decide) rfl (fun ls hl => ?_)
              refine lv_iload hx hb dX7_advise_125 (lv_at hl 3 rfl) ?_
              refine lv_iconst (v := (-1)) hx hb dX7_advise_127 (by decide) ?_
              refine lv_icmp_eq (tgt := 141) hx hb dX7_advise_128 (by decide) (fun cz128 => ?_) (fun cz128 => ?_)
              · refine lv_iload hx hb dX7_advise_141 (lv_at hl 1 rfl) ?_
                refine lv_istore (lv' := [(5, .int (nI i)), (8, .int (advF0 fa nf (nI he9) stg sup wd sn rd ri lim nr i)), (7, .int (nI i)), (6, .int ((advG (advF0 fa nf (nI he9) stg sup wd sn rd ri lim nr) i).2)), (4, .int 0), (0, .ref mo), (1, .int wd), (2, .int stg), (3, .int (nI he9))]) hx hb dX7_advise_143 hl (by decide) rfl (fun ls hl => ?_)
                refine lv_iload hx hb dX7_advise_145 (lv_at hl 1 rfl) ?_
                refine lv_istore (lv' := [(6, .int (advF0 fa nf (nI he9) stg sup wd sn rd ri lim nr i)), (5, .int (nI i)), (8, .int (advF0 fa nf (nI he9) stg sup wd sn rd ri lim nr i)), (7, .int (nI i)), (4, .int 0), (0, .ref mo), (1, .int wd), (2, .int stg), (3, .int (nI he9))]) hx hb dX7_advise_147 hl (by decide) rfl (fun ls hl => ?_)
                refine lv_iinc (v := nI (i + 1)) (lv' := [(7, .int (nI (i + 1))), (6, .int (advF0 fa nf (nI he9) stg sup wd sn rd ri lim nr i)), (5, .int (nI i)), (8, .int (advF0 fa nf (nI he9) stg sup wd sn rd ri lim nr i)), (4, .int 0), (0, .ref mo), (1, .int wd), (2, .int stg), (3, .int (nI he9))]) hx hb dX7_advise_149 hl (k := 3) rfl (nI_1 i) (by decide) rfl (fun ls hl => ?_)
                refine lv_goto (tgt := 63) hx hb dX7_advise_152 (by decide) ?_
                have hl : lv_has ls 9 [(7, .int (nI (i + 1))), (6, .int ((advG (advF0 fa nf (nI he9) stg sup wd sn rd ri lim nr) (i + 1)).2)), (5, .int (nI i)), (8, .int (advF0 fa nf (nI he9) stg sup wd sn rd ri lim nr i)), (4, .int 0), (0, .ref mo), (1, .int wd), (2, .int stg), (3, .int (nI he9))] := lv_repl hl (congrArg (fun z9 : Int32 => ([(7, .int (nI (i + 1))), (6, .int z9), (5, .int (nI i)), (8, .int (advF0 fa nf (nI he9) stg sup wd sn rd ri lim nr i)), (4, .int 0), (0, .ref mo), (1, .int wd), (2, .int stg), (3, .int (nI he9))] : List (Nat × Value))) (show (advF0 fa nf (nI he9) stg sup wd sn rd ri lim nr i : Int32) = (advG (advF0 fa nf (nI he9) stg sup wd sn rd ri lim nr) (i + 1)).2 from (congrArg Prod.snd (advG_t (F := advF0 fa nf (nI he9) stg sup wd sn rd ri lim nr) (Or.inl cz128))).symm))
                have hl : lv_has ls 9 [(7, .int (nI (i + 1))), (6, .int ((advG (advF0 fa nf (nI he9) stg sup wd sn rd ri lim nr) (i + 1)).2)), (5, .int ((advG (advF0 fa nf (nI he9) stg sup wd sn rd ri lim nr) (i + 1)).1)), (8, .int (advF0 fa nf (nI he9) stg sup wd sn rd ri lim nr i)), (4, .int 0), (0, .ref mo), (1, .int wd), (2, .int stg), (3, .int (nI he9))] := lv_repl hl (congrArg (fun z9 : Int32 => ([(7, .int (nI (i + 1))), (6, .int ((advG (advF0 fa nf (nI he9) stg sup wd sn rd ri lim nr) (i + 1)).2)), (5, .int z9), (8, .int (advF0 fa nf (nI he9) stg sup wd sn rd ri lim nr i)), (4, .int 0), (0, .ref mo), (1, .int wd), (2, .int stg), (3, .int (nI he9))] : List (Nat × Value))) (show (nI i : Int32) = (advG (advF0 fa nf (nI he9) stg sup wd sn rd ri lim nr) (i + 1)).1 from (congrArg Prod.fst (advG_t (F := advF0 fa nf (nI he9) stg sup wd sn rd ri lim nr) (Or.inl cz128))).symm))
                refine W.widen (k := (i + 1)) (n := (6 * (i + 1))) (by omega) (by omega) ?_
                exact ih_63 (i + 1) _ _ _ (by omega) (by exact fun _ _ _ _ _ _ => fput_2) (by exact fun j hj => if_pos (Or.inl hj)) _ _ _ _ hk G5_0 G5_1 G5_2 G5_3 G5_a0 G5_a1 G5_6 J (lv_sub hl [0, 1, 2, 4, 5, 6, 7, 8] rfl)
              · refine lv_iload hx hb dX7_advise_131 (lv_at hl 0 rfl) ?_
                refine lv_iload hx hb dX7_advise_133 (lv_at hl 2 rfl) ?_
                refine lv_icmp_lt (tgt := 141) hx hb dX7_advise_135 (by decide) (fun cz135 => ?_) (fun cz135 => ?_)
                · refine lv_iload hx hb dX7_advise_141 (lv_at hl 1 rfl) ?_
                  refine lv_istore (lv' := [(5, .int (nI i)), (8, .int (advF0 fa nf (nI he9) stg sup wd sn rd ri lim nr i)), (7, .int (nI i)), (6, .int ((advG (advF0 fa nf (nI he9) stg sup wd sn rd ri lim nr) i).2)), (4, .int 0), (0, .ref mo), (1, .int wd), (2, .int stg), (3, .int (nI he9))]) hx hb dX7_advise_143 hl (by decide) rfl (fun ls hl => ?_)
                  refine lv_iload hx hb dX7_advise_145 (lv_at hl 1 rfl) ?_
                  refine lv_istore (lv' := [(6, .int (advF0 fa nf (nI he9) stg sup wd sn rd ri lim nr i)), (5, .int (nI i)), (8, .int (advF0 fa nf (nI he9) stg sup wd sn rd ri lim nr i)), (7, .int (nI i)), (4, .int 0), (0, .ref mo), (1, .int wd), (2, .int stg), (3, .int (nI he9))]) hx hb dX7_advise_147 hl (by decide) rfl (fun ls hl => ?_)
                  refine lv_iinc (v := nI (i + 1)) (lv' := [(7, .int (nI (i + 1))), (6, .int (advF0 fa nf (nI he9) stg sup wd sn rd ri lim nr i)), (5, .int (nI i)), (8, .int (advF0 fa nf (nI he9) stg sup wd sn rd ri lim nr i)), (4, .int 0), (0, .ref mo), (1, .int wd), (2, .int stg), (3, .int (nI he9))]) hx hb dX7_advise_149 hl (k := 3) rfl (nI_1 i) (by decide) rfl (fun ls hl => ?_)
                  refine lv_goto (tgt := 63) hx hb dX7_advise_152 (by decide) ?_
                  have hl : lv_has ls 9 [(7, .int (nI (i + 1))), (6, .int ((advG (advF0 fa nf (nI he9) stg sup wd sn rd ri lim nr) (i + 1)).2)), (5, .int (nI i)), (8, .int (advF0 fa nf (nI he9) stg sup wd sn rd ri lim nr i)), (4, .int 0), (0, .ref mo), (1, .int wd), (2, .int stg), (3, .int (nI he9))] := lv_repl hl (congrArg (fun z9 : Int32 => ([(7, .int (nI (i + 1))), (6, .int z9), (5, .int (nI i)), (8, .int (advF0 fa nf (nI he9) stg sup wd sn rd ri lim nr i)), (4, .int 0), (0, .ref mo), (1, .int wd), (2, .int stg), (3, .int (nI he9))] : List (Nat × Value))) (show (advF0 fa nf (nI he9) stg sup wd sn rd ri lim nr i : Int32) = (advG (advF0 fa nf (nI he9) stg sup wd sn rd ri lim nr) (i + 1)).2 from (congrArg Prod.snd (advG_t (F := advF0 fa nf (nI he9) stg sup wd sn rd ri lim nr) (Or.inr cz135))).symm))
                  have hl : lv_has ls 9 [(7, .int (nI (i + 1))), (6, .int ((advG (advF0 fa nf (nI he9) stg sup wd sn rd ri lim nr) (i + 1)).2)), (5, .int ((advG (advF0 fa nf (nI he9) stg sup wd sn rd ri lim nr) (i + 1)).1)), (8, .int (advF0 fa nf (nI he9) stg sup wd sn rd ri lim nr i)), (4, .int 0), (0, .ref mo), (1, .int wd), (2, .int stg), (3, .int (nI he9))] := lv_repl hl (congrArg (fun z9 : Int32 => ([(7, .int (nI (i + 1))), (6, .int ((advG (advF0 fa nf (nI he9) stg sup wd sn rd ri lim nr) (i + 1)).2)), (5, .int z9), (8, .int (advF0 fa nf (nI he9) stg sup wd sn rd ri lim nr i)), (4, .int 0), (0, .ref mo), (1, .int wd), (2, .int stg), (3, .int (nI he9))] : List (Nat × Value))) (show (nI i : Int32) = (advG (advF0 fa nf (nI he9) stg sup wd sn rd ri lim nr) (i + 1)).1 from (congrArg Prod.fst (advG_t (F := advF0 fa nf (nI he9) stg sup wd sn rd ri lim nr) (Or.inr cz135))).symm))
                  refine W.widen (k := (i + 1)) (n := (6 * (i + 1))) (by omega) (by omega) ?_
                  exact ih_63 (i + 1) _ _ _ (by omega) (by exact fun _ _ _ _ _ _ => fput_2) (by exact fun j hj => if_pos (Or.inl hj)) _ _ _ _ hk G5_0 G5_1 G5_2 G5_3 G5_a0 G5_a1 G5_6 J (lv_sub hl [0, 1, 2, 4, 5, 6, 7, 8] rfl)
                · refine lv_goto (tgt := 149) hx hb dX7_advise_138 (by decide) ?_
                  refine lv_iinc (v := nI (i + 1)) (lv' := [(7, .int (nI (i + 1))), (8, .int (advF0 fa nf (nI he9) stg sup wd sn rd ri lim nr i)), (6, .int ((advG (advF0 fa nf (nI he9) stg sup wd sn rd ri lim nr) i).2)), (5, .int ((advG (advF0 fa nf (nI he9) stg sup wd sn rd ri lim nr) i).1)), (4, .int 0), (0, .ref mo), (1, .int wd), (2, .int stg), (3, .int (nI he9))]) hx hb dX7_advise_149 hl (k := 1) rfl (nI_1 i) (by decide) rfl (fun ls hl => ?_)
                  refine lv_goto (tgt := 63) hx hb dX7_advise_152 (by decide) ?_
                  have hl : lv_has ls 9 [(7, .int (nI (i + 1))), (8, .int (advF0 fa nf (nI he9) stg sup wd sn rd ri lim nr i)), (6, .int ((advG (advF0 fa nf (nI he9) stg sup wd sn rd ri lim nr) (i + 1)).2)), (5, .int ((advG (advF0 fa nf (nI he9) stg sup wd sn rd ri lim nr) i).1)), (4, .int 0), (0, .ref mo), (1, .int wd), (2, .int stg), (3, .int (nI he9))] := lv_repl hl (congrArg (fun z9 : Int32 => ([(7, .int (nI (i + 1))), (8, .int (advF0 fa nf (nI he9) stg sup wd sn rd ri lim nr i)), (6, .int z9), (5, .int ((advG (advF0 fa nf (nI he9) stg sup wd sn rd ri lim nr) i).1)), (4, .int 0), (0, .ref mo), (1, .int wd), (2, .int stg), (3, .int (nI he9))] : List (Nat × Value))) (show ((advG (advF0 fa nf (nI he9) stg sup wd sn rd ri lim nr) i).2 : Int32) = (advG (advF0 fa nf (nI he9) stg sup wd sn rd ri lim nr) (i + 1)).2 from (congrArg Prod.snd (advG_f (F := advF0 fa nf (nI he9) stg sup wd sn rd ri lim nr) cz128 cz135)).symm))
                  have hl : lv_has ls 9 [(7, .int (nI (i + 1))), (8, .int (advF0 fa nf (nI he9) stg sup wd sn rd ri lim nr i)), (6, .int ((advG (advF0 fa nf (nI he9) stg sup wd sn rd ri lim nr) (i + 1)).2)), (5, .int ((advG (advF0 fa nf (nI he9) stg sup wd sn rd ri lim nr) (i + 1)).1)), (4, .int 0), (0, .ref mo), (1, .int wd), (2, .int stg), (3, .int (nI he9))] := lv_repl hl (congrArg (fun z9 : Int32 => ([(7, .int (nI (i + 1))), (8, .int (advF0 fa nf (nI he9) stg sup wd sn rd ri lim nr i)), (6, .int ((advG (advF0 fa nf (nI he9) stg sup wd sn rd ri lim nr) (i + 1)).2)), (5, .int z9), (4, .int 0), (0, .ref mo), (1, .int wd), (2, .int stg), (3, .int (nI he9))] : List (Nat × Value))) (show ((advG (advF0 fa nf (nI he9) stg sup wd sn rd ri lim nr) i).1 : Int32) = (advG (advF0 fa nf (nI he9) stg sup wd sn rd ri lim nr) (i + 1)).1 from (congrArg Prod.fst (advG_f (F := advF0 fa nf (nI he9) stg sup wd sn rd ri lim nr) cz128 cz135)).symm))
                  refine W.widen (k := (i + 1)) (n := (6 * (i + 1))) (by omega) (by omega) ?_
                  exact ih_63 (i + 1) _ _ _ (by omega) (by exact fun _ _ _ _ _ _ => fput_2) (by exact fun j hj => if_pos (Or.inl hj)) _ _ _ _ hk G5_0 G5_1 G5_2 G5_3 G5_a0 G5_a1 G5_6 J (lv_sub hl [0, 2, 3, 4, 5, 6, 7, 8] rfl)
          exact loop_63 20 0 _ _ _ (by omega) (by exact fun _ _ _ _ _ _ => rfl) (by exact fun _ _ => rfl) _ _ _ _ hk G1_0 G1_1 G1_2 G1_3 G1_4 G1_5 G1_6 J (lv_sub hl [0, 1, 2, 3, 4, 5, 6, 7] rfl)
        · refine lv_iconst (v := 1) hx hb dX7_advise_47 (by decide) ?_
          refine lv_goto (tgt := 52) hx hb dX7_advise_48 (by decide) ?_
          refine lv_istore (lv' := [(4, .int 1), (0, .ref mo), (1, .int wd), (2, .int stg), (3, .int (nI he9))]) hx hb dX7_advise_52 hl (by decide) rfl (fun ls hl => ?_)
          refine lv_iconst (v := (advG (advF1 fa nf (nI he9) stg sup wd sn rd ri lim nr) 0).1) hx hb dX7_advise_54 rfl ?_
          refine lv_istore (lv' := [(5, .int ((advG (advF1 fa nf (nI he9) stg sup wd sn rd ri lim nr) 0).1)), (4, .int 1), (0, .ref mo), (1, .int wd), (2, .int stg), (3, .int (nI he9))]) hx hb dX7_advise_55 hl (by decide) rfl (fun ls hl => ?_)
          refine lv_iconst (v := (advG (advF1 fa nf (nI he9) stg sup wd sn rd ri lim nr) 0).2) hx hb dX7_advise_57 rfl ?_
          refine lv_istore (lv' := [(6, .int ((advG (advF1 fa nf (nI he9) stg sup wd sn rd ri lim nr) 0).2)), (5, .int ((advG (advF1 fa nf (nI he9) stg sup wd sn rd ri lim nr) 0).1)), (4, .int 1), (0, .ref mo), (1, .int wd), (2, .int stg), (3, .int (nI he9))]) hx hb dX7_advise_58 hl (by decide) rfl (fun ls hl => ?_)
          refine lv_iconst (v := nI 0) hx hb dX7_advise_60 rfl ?_
          refine lv_istore (lv' := [(7, .int (nI 0)), (6, .int ((advG (advF1 fa nf (nI he9) stg sup wd sn rd ri lim nr) 0).2)), (5, .int ((advG (advF1 fa nf (nI he9) stg sup wd sn rd ri lim nr) 0).1)), (4, .int 1), (0, .ref mo), (1, .int wd), (2, .int stg), (3, .int (nI he9))]) hx hb dX7_advise_61 hl (by decide) rfl (fun ls hl => ?_)
          have loop_63 : ∀ (k9 i : Nat) (f9 : Nat → Int32) (k0 : Nat → Int32) (t0 : Nat → Int32), i + k9 = 20 → (∀ a b1 c1 d1 e1 g1, fput f9 nf a b1 c1 d1 e1 g1 = fput fa nf a b1 c1 d1 e1 g1) → (∀ j, j < 6 * nf → f9 j = fa j) → ∀ (wl63 : va_W) (H : Heap) (locs : List Loc) (ls : Array Slot), zK [11, 12, 15, 16, 17] ws wl63 → wl63[11]? = some (mo, .inr (8, [.int 0, .int (nI nf), .ref mf, .int (nI nr), .ref md, .ref mi, .int lim, .int sup, .int off, .int plo, .int hrs, .ref ms9, .ref mk, .ref mt])) → wl63[12]? = some (mf, zI4 E 66 f9) → wl63[13]? = some (md, zI4 E 4 rd) → wl63[14]? = some (mi, zI4 E 4 ri) → wl63[15]? = some (ms9, zI4 E 400 sn) → wl63[16]? = some (mk, zI4 E 400 k0) → wl63[17]? = some (mt, zI4 E 400 t0) → zJ E wl63 s H locs → lv_has ls 9 [(7, .int (nI i)), (6, .int ((advG (advF1 fa nf (nI he9) stg sup wd sn rd ri lim nr) i).2)), (5, .int ((advG (advF1 fa nf (nI he9) stg sup wd sn rd ri lim nr) i).1)), (4, .int 1), (0, .ref mo), (1, .int wd), (2, .int stg), (3, .int (nI he9))] → W p l e (headSpec wsX7_advise ({ frames := 5, cells := 20, slots := 120, locals := 129 } : Room)).room s m args below meth c H locs i (6 * i) QQ (F0 m 63 ls []) := by
            intro k9
            induction k9 with
            | zero =>
              intro i f9 k0 t0 hik hq9 hz9 wl63 H locs ls hk L63_0 L63_1 L63_2 L63_3 L63_4 L63_5 L63_6 J hl
              obtain rfl : 20 = i := by omega
              refine lv_iload hx hb dX7_advise_63 (lv_at hl 0 rfl) ?_
              refine lv_bipush (v := nI 20) hx hb dX7_advise_65 (by decide) ?_
              refine lv_icmp_ge (tgt := 155) hx hb dX7_advise_67 (by decide) (fun cz67 => ?_) (fun cz67 => by exact (cz67 (nI_le (Nat.le_refl _) (by omega))).elim)
              refine lv_iload hx hb dX7_advise_155 (lv_at hl 2 rfl) ?_
              have hk0 : (kAdvise wd stg he) = 0 := (if_neg (fun q => q (isInS_y cz9))).trans (if_neg (not_or_e (isInS_y cz22) (isInS_y cz32)))
              refine W.widen (k := 20) (n := 120) (by omega) (by omega) ?_
              subst hQ
              exact W.iret (v := (advG (advF1 fa nf (nI he9) stg sup wd sn rd ri lim nr) 20).1) hx hb hr (fun t ht hW => ⟨⟨(advG (advF1 fa nf (nI he9) stg sup wd sn rd ri lim nr) 20).1, wl63, rfl, ⟨hk, ⟨f9, k0, t0, (by simp only [hk0, sel0, sel1, sel2, sel3]; exact L63_0), L63_1, L63_4, L63_5, L63_6, (by refine ⟨hz9, ?_⟩; rw [hk0, sel0, ekhe9]; exact (if_pos cz44).symm)⟩⟩, J.I X ht hW.alike⟩, J.F ht⟩) J.locs dX7_advise_157
            | succ k9 ih_63 =>
              intro i f9 k0 t0 hik hq9 hz9 wl63 H locs ls hk L63_0 L63_1 L63_2 L63_3 L63_4 L63_5 L63_6 J hl
              refine lv_iload hx hb dX7_advise_63 (lv_at hl 0 rfl) ?_
              refine lv_bipush (v := nI 20) hx hb dX7_advise_65 (by decide) ?_
              refine lv_icmp_ge (tgt := 155) hx hb dX7_advise_67 (by decide) (fun cz67 => by exact (nI_ge (by omega) (by omega) cz67).elim) (fun cz67 => ?_)
              refine lv_aload_n hx hb dX7_advise_70 rfl (lv_at hl 4 rfl) ?_
              refine lv_aload_n hx hb dX7_advise_71 rfl (lv_at hl 4 rfl) ?_
              refine z_get (C := RX7) (T := TX7) (N := 14) (ci := 8) (v := .int (nI nf)) X J hi_X7 11 L63_0 rfl 1 (by decide) (by decide +kernel) rfl dX7_advise_72 ?_
              refine lv_iload hx hb dX7_advise_75 (lv_at hl 3 rfl) ?_
              refine lv_if_eq (tgt := 85) hx hb dX7_advise_77 (by decide) (fun cz77 => by exact absurd cz77 (by decide)) (fun cz77 => ?_)
              refine lv_iload hx hb dX7_advise_80 (lv_at hl 0 rfl) ?_
              refine lv_goto (tgt := 86) hx hb dX7_advise_82 (by decide) ?_
              refine lv_iload hx hb dX7_advise_86 (lv_at hl 3 rfl) ?_
              refine lv_if_eq (tgt := 95) hx hb dX7_advise_88 (by decide) (fun cz88 => by exact absurd cz88 (by decide)) (fun cz88 => ?_)
              refine lv_iconst (v := 0) hx hb dX7_advise_91 (by decide) ?_
              refine lv_goto (tgt := 97) hx hb dX7_advise_92 (by decide) ?_
              refine lv_bipush (v := 20) hx hb dX7_advise_97 (by decide) ?_
              refine lv_iload hx hb dX7_advise_99 (lv_at hl 3 rfl) ?_
              refine lv_iload_n hx hb dX7_advise_101 rfl (lv_at hl 7 rfl) ?_
              refine lv_iconst (v := 0) hx hb dX7_advise_102 (by decide) ?_
              have hb99 := hk.1
              refine z_cv J (z_rV (As := [.int (nI nf), .int (nI i), .int 0, .int 20, .int 1, .int (nI he9), .int 0]) (rest := []) (ci := 8) (q0 := 11) X J (cX7_setUp_ok l E L63_0 L63_1 (by omega) (by omega) (by omega)) (cwV 7 hts gX7_advise_X7_setUp rfl rfl rfl (by decide +kernel) ⟨Nat.le_of_ble_eq_true rfl, Nat.le_of_ble_eq_true rfl⟩) L63_0 rfl rfl rfl hl.1 rfl (Nat.le_of_ble_eq_true rfl) dX7_advise_103 ⟨by show _ ≤ 20; omega, by show _ ≤ 120; omega⟩) (fun ws_2 H locs hp9 J => ?_)
              obtain ⟨k2, G2_a0⟩ := hp9
              have hk := hk.trans (k2.mono (by decide))
              have G2_0 := k2.2 11 _ (by decide) L63_0
              have G2_2 := k2.2 13 _ (by decide) L63_2
              have G2_3 := k2.2 14 _ (by decide) L63_3
              have G2_4 := k2.2 15 _ (by decide) L63_4
              have G2_5 := k2.2 16 _ (by decide) L63_5
              have G2_6 := k2.2 17 _ (by decide) L63_6
              have J := J.congr 12 (g := (fput fa nf (nI i) 0 20 (b01 1) (nI he9) 0)) G2_a0 (fun j _ => congrFun (hq9 _ _ _ _ _ _) j)
              have hk := hk.trans (zK.set (ws := ws_2) (q := 12) (e := (mf, zI4 E 66 (fput fa nf (nI i) 0 20 (b01 1) (nI he9) 0))) (by simp))
              have G3_0 := zset_ne (q := 12) (e' := (mf, zI4 E 66 (fput fa nf (nI i) 0 20 (b01 1) (nI he9) 0))) (by decide) G2_0
              have G3_1 := zset_eq (e' := (mf, zI4 E 66 (fput fa nf (nI i) 0 20 (b01 1) (nI he9) 0))) G2_a0
              have G3_2 := zset_ne (q := 12) (e' := (mf, zI4 E 66 (fput fa nf (nI i) 0 20 (b01 1) (nI he9) 0))) (by decide) G2_2
              have G3_3 := zset_ne (q := 12) (e' := (mf, zI4 E 66 (fput fa nf (nI i) 0 20 (b01 1) (nI he9) 0))) (by decide) G2_3
              have G3_4 := zset_ne (q := 12) (e' := (mf, zI4 E 66 (fput fa nf (nI i) 0 20 (b01 1) (nI he9) 0))) (by decide) G2_4
              have G3_5 := zset_ne (q := 12) (e' := (mf, zI4 E 66 (fput fa nf (nI i) 0 20 (b01 1) (nI he9) 0))) (by decide) G2_5
              have G3_6 := zset_ne (q := 12) (e' := (mf, zI4 E 66 (fput fa nf (nI i) 0 20 (b01 1) (nI he9) 0))) (by decide) G2_6
              generalize hws3 : (ws_2.set 12 (mf, zI4 E 66 (fput fa nf (nI i) 0 20 (b01 1) (nI he9) 0))) = ws_3 at J hk G3_0 G3_1 G3_2 G3_3 G3_4 G3_5 G3_6
              have hok9 : ∀ j, j < nf + 1 → okF (fput fa nf (nI i) 0 20 (b01 1) (nI he9) 0) j := okF_put (co := i) (ro := 0) (le := 20) (he := he9) (ga := 0) hok (by first | rfl | decide) (by first | rfl | decide) (by first | rfl | decide) rfl (by first | rfl | decide) (by decide) hhe9 hhv9 (by decide) (Or.inr ⟨rfl, by omega, by omega⟩)
              refine lv_aload_n hx hb dX7_advise_106 rfl (lv_at hl 4 rfl) ?_
              refine lv_aload_n hx hb dX7_advise_107 rfl (lv_at hl 4 rfl) ?_
              refine z_get (C := RX7) (T := TX7) (N := 14) (ci := 8) (v := .int (nI nf)) X J hi_X7 11 G3_0 rfl 1 (by decide) (by decide +kernel) rfl dX7_advise_108 ?_
              refine lv_iconst (v := 1) hx hb dX7_advise_111 (by decide) ?_
              refine lv_iadd hx hb dX7_advise_112 ?_
              refine W.eq (g2 := F0 m 113 ls [.int (nI (nf + 1)), .ref mo]) (congrArg (fun z9 : Int32 => F0 m 113 ls [.int z9, .ref mo]) (show ((nI nf) + 1 : Int32) = nI (nf + 1) from (nI_1 nf))) ?_
              refine lv_iconst (v := (-1)) hx hb dX7_advise_113 (by decide) ?_
              refine z_cv J (z_rV (As := [.int (nI (nf + 1)), .int (-1)]) (rest := []) (ci := 8) (q0 := 11) X J (cX7_stand_ok l E G3_0 G3_1 G3_6 (by omega) hok9) (cwV 2 hts gX7_advise_X7_stand rfl rfl rfl (by decide +kernel) ⟨Nat.le_of_ble_eq_true rfl, Nat.le_of_ble_eq_true rfl⟩) G3_0 rfl rfl rfl hl.1 rfl (Nat.le_of_ble_eq_true rfl) dX7_advise_114 ⟨by show _ ≤ 20; omega, by show _ ≤ 120; omega⟩) (fun ws_4 H locs hp9 J => ?_)
              obtain ⟨k4, ⟨tq_4, G4_a0, e_r114⟩⟩ := hp9
              have hk := hk.trans (k4.mono (by decide))
              have G4_0 := k4.2 11 _ (by decide) G3_0
              have G4_1 := k4.2 12 _ (by decide) G3_1
              have G4_2 := k4.2 13 _ (by decide) G3_2
              have G4_3 := k4.2 14 _ (by decide) G3_3
              have G4_4 := k4.2 15 _ (by decide) G3_4
              have G4_5 := k4.2 16 _ (by decide) G3_5
              refine lv_aload_n hx hb dX7_advise_117 rfl (lv_at hl 4 rfl) ?_
              refine lv_iload_n hx hb dX7_advise_118 rfl (lv_at hl 5 rfl) ?_
              refine lv_iload_n hx hb dX7_advise_119 rfl (lv_at hl 6 rfl) ?_
              refine z_ci J (z_rV (As := [.int wd, .int stg]) (rest := []) (ci := 8) (q0 := 11) X J (cX7_tried_ok l E G4_0 G4_1 G4_2 G4_3 G4_4 G4_5 G4_a0 e_r114 (by omega) hok9 hwd9 hnr hor) (cwV 2 hts gX7_advise_X7_tried rfl rfl rfl (by decide +kernel) ⟨Nat.le_of_ble_eq_true rfl, Nat.le_of_ble_eq_true rfl⟩) G4_0 rfl rfl rfl hl.1 rfl (Nat.le_of_ble_eq_true rfl) dX7_advise_120 ⟨by show _ ≤ 20; omega, by show _ ≤ 120; omega⟩) (fun r120 ws_5 H locs hp9 J => ?_)
              obtain ⟨k5, G5_a0, G5_a1, e_r120⟩ := hp9
              have hk := hk.trans (k5.mono (by decide))
              have G5_0 := k5.2 11 _ (by decide) G4_0
              have G5_1 := k5.2 12 _ (by decide) G4_1
              have G5_2 := k5.2 13 _ (by decide) G4_2
              have G5_3 := k5.2 14 _ (by decide) G4_3
              have G5_6 := k5.2 17 _ (by decide) G4_a0
              subst e_r120
              refine W.eq (g2 := F0 m 123 ls [.int (advF1 fa nf (nI he9) stg sup wd sn rd ri lim nr i)]) (congrArg (fun z9 : Int32 => F0 m 123 ls [.int z9]) (show (allB (hsS stg sup ((hgS (fput fa nf (nI i) 0 20 (b01 1) (nI he9) 0) (-1) (nf + 1)).1) ((hgS (fput fa nf (nI i) 0 20 (b01 1) (nI he9) 0) (-1) (nf + 1)).2) wd sn 4).2.1 rd ri lim nr : Int32) = advF1 fa nf (nI he9) stg sup wd sn rd ri lim nr i from rfl)) ?_
              refine lv_istore (lv' := [(8, .int (advF1 fa nf (nI he9) stg sup wd sn rd ri lim nr i)), (7, .int (nI i)), (6, .int ((advG (advF1 fa nf (nI he9) stg sup wd sn rd ri lim nr) i).2)), (5, .int ((advG (advF1 fa nf (nI he9) stg sup wd sn rd ri lim nr) i).1)), (4, .int 1), (0, .ref mo), (1, .int wd), (2, .int stg), (3, .int (nI he9))]) hx hb dX7_advise_123 hl (by decide) rfl (fun ls hl => ?_)
              refine lv_iload hx hb dX7_advise_125 (lv_at hl 3 rfl) ?_
              refine lv_iconst (v := (-1)) hx hb dX7_advise_127 (by decide) ?_
              refine lv_icmp_eq (tgt := 141) hx hb dX7_advise_128 (by decide) (fun cz128 => ?_) (fun cz128 => ?_)
              · refine lv_iload hx hb dX7_advise_141 (lv_at hl 1 rfl) ?_
                refine lv_istore (lv' := [(5, .int (nI i)), (8, .int (advF1 fa nf (nI he9) stg sup wd sn rd ri lim nr i)), (7, .int (nI i)), (6, .int ((advG (advF1 fa nf (nI he9) stg sup wd sn rd ri lim nr) i).2)), (4, .int 1), (0, .ref mo), (1, .int wd), (2, .int stg), (3, .int (nI he9))]) hx hb dX7_advise_143 hl (by decide) rfl (fun ls hl => ?_)
                refine lv_iload hx hb dX7_advise_145 (lv_at hl 1 rfl) ?_
                refine lv_istore (lv' := [(6, .int (advF1 fa nf (nI he9) stg sup wd sn rd ri lim nr i)), (5, .int (nI i)), (8, .int (advF1 fa nf (nI he9) stg sup wd sn rd ri lim nr i)), (7, .int (nI i)), (4, .int 1), (0, .ref mo), (1, .int wd), (2, .int stg), (3, .int (nI he9))]) hx hb dX7_advise_147 hl (by decide) rfl (fun ls hl => ?_)
                refine lv_iinc (v := nI (i + 1)) (lv' := [(7, .int (nI (i + 1))), (6, .int (advF1 fa nf (nI he9) stg sup wd sn rd ri lim nr i)), (5, .int (nI i)), (8, .int (advF1 fa nf (nI he9) stg sup wd sn rd ri lim nr i)), (4, .int 1), (0, .ref mo), (1, .int wd), (2, .int stg), (3, .int (nI he9))]) hx hb dX7_advise_149 hl (k := 3) rfl (nI_1 i) (by decide) rfl (fun ls hl => ?_)
                refine lv_goto (tgt := 63) hx hb dX7_advise_152 (by decide) ?_
                have hl : lv_has ls 9 [(7, .int (nI (i + 1))), (6, .int ((advG (advF1 fa nf (nI he9) stg sup wd sn rd ri lim nr) (i + 1)).2)), (5, .int (nI i)), (8, .int (advF1 fa nf (nI he9) stg sup wd sn rd ri lim nr i)), (4, .int 1), (0, .ref mo), (1, .int wd), (2, .int stg), (3, .int (nI he9))] := lv_repl hl (congrArg (fun z9 : Int32 => ([(7, .int (nI (i + 1))), (6, .int z9), (5, .int (nI i)), (8, .int (advF1 fa nf (nI he9) stg sup wd sn rd ri lim nr i)), (4, .int 1), (0, .ref mo), (1, .int wd), (2, .int stg), (3, .int (nI he9))] : List (Nat × Value))) (show (advF1 fa nf (nI he9) stg sup wd sn rd ri lim nr i : Int32) = (advG (advF1 fa nf (nI he9) stg sup wd sn rd ri lim nr) (i + 1)).2 from (congrArg Prod.snd (advG_t (F := advF1 fa nf (nI he9) stg sup wd sn rd ri lim nr) (Or.inl cz128))).symm))
                have hl : lv_has ls 9 [(7, .int (nI (i + 1))), (6, .int ((advG (advF1 fa nf (nI he9) stg sup wd sn rd ri lim nr) (i + 1)).2)), (5, .int ((advG (advF1 fa nf (nI he9) stg sup wd sn rd ri lim nr) (i + 1)).1)), (8, .int (advF1 fa nf (nI he9) stg sup wd sn rd ri lim nr i)), (4, .int 1), (0, .ref mo), (1, .int wd), (2, .int stg), (3, .int (nI he9))] := lv_repl hl (congrArg (fun z9 : Int32 => ([(7, .int (nI (i + 1))), (6, .int ((advG (advF1 fa nf (nI he9) stg sup wd sn rd ri lim nr) (i + 1)).2)), (5, .int z9), (8, .int (advF1 fa nf (nI he9) stg sup wd sn rd ri lim nr i)), (4, .int 1), (0, .ref mo), (1, .int wd), (2, .int stg), (3, .int (nI he9))] : List (Nat × Value))) (show (nI i : Int32) = (advG (advF1 fa nf (nI he9) stg sup wd sn rd ri lim nr) (i + 1)).1 from (congrArg Prod.fst (advG_t (F := advF1 fa nf (nI he9) stg sup wd sn rd ri lim nr) (Or.inl cz128))).symm))
                refine W.widen (k := (i + 1)) (n := (6 * (i + 1))) (by omega) (by omega) ?_
                exact ih_63 (i + 1) _ _ _ (by omega) (by exact fun _ _ _ _ _ _ => fput_2) (by exact fun j hj => if_pos (Or.inl hj)) _ _ _ _ hk G5_0 G5_1 G5_2 G5_3 G5_a0 G5_a1 G5_6 J (lv_sub hl [0, 1, 2, 4, 5, 6, 7, 8] rfl)
              · refine lv_iload hx hb dX7_advise_131 (lv_at hl 0 rfl) ?_
                refine lv_iload hx hb dX7_advise_133 (lv_at hl 2 rfl) ?_
                refine lv_icmp_lt (tgt := 141) hx hb dX7_advise_135 (by decide) (fun cz135 => ?_) (fun cz135 => ?_)
                · refine lv_iload hx hb dX7_advise_141 (lv_at hl 1 rfl) ?_
                  refine lv_istore (lv' := [(5, .int (nI i)), (8, .int (advF1 fa nf (nI he9) stg sup wd sn rd ri lim nr i)), (7, .int (nI i)), (6, .int ((advG (advF1 fa nf (nI he9) stg sup wd sn rd ri lim nr) i).2)), (4, .int 1), (0, .ref mo), (1, .int wd), (2, .int stg), (3, .int (nI he9))]) hx hb dX7_advise_143 hl (by decide) rfl (fun ls hl => ?_)
                  refine lv_iload hx hb dX7_advise_145 (lv_at hl 1 rfl) ?_
                  refine lv_istore (lv' := [(6, .int (advF1 fa nf (nI he9) stg sup wd sn rd ri lim nr i)), (5, .int (nI i)), (8, .int (advF1 fa nf (nI he9) stg sup wd sn rd ri lim nr i)), (7, .int (nI i)), (4, .int 1), (0, .ref mo), (1, .int wd), (2, .int stg), (3, .int (nI he9))]) hx hb dX7_advise_147 hl (by decide) rfl (fun ls hl => ?_)
                  refine lv_iinc (v := nI (i + 1)) (lv' := [(7, .int (nI (i + 1))), (6, .int (advF1 fa nf (nI he9) stg sup wd sn rd ri lim nr i)), (5, .int (nI i)), (8, .int (advF1 fa nf (nI he9) stg sup wd sn rd ri lim nr i)), (4, .int 1), (0, .ref mo), (1, .int wd), (2, .int stg), (3, .int (nI he9))]) hx hb dX7_advise_149 hl (k := 3) rfl (nI_1 i) (by decide) rfl (fun ls hl => ?_)
                  refine lv_goto (tgt := 63) hx hb dX7_advise_152 (by decide) ?_
                  have hl : lv_has ls 9 [(7, .int (nI (i + 1))), (6, .int ((advG (advF1 fa nf (nI he9) stg sup wd sn rd ri lim nr) (i + 1)).2)), (5, .int (nI i)), (8, .int (advF1 fa nf (nI he9) stg sup wd sn rd ri lim nr i)), (4, .int 1), (0, .ref mo), (1, .int wd), (2, .int stg), (3, .int (nI he9))] := lv_repl hl (congrArg (fun z9 : Int32 => ([(7, .int (nI (i + 1))), (6, .int z9), (5, .int (nI i)), (8, .int (advF1 fa nf (nI he9) stg sup wd sn rd ri lim nr i)), (4, .int 1), (0, .ref mo), (1, .int wd), (2, .int stg), (3, .int (nI he9))] : List (Nat × Value))) (show (advF1 fa nf (nI he9) stg sup wd sn rd ri lim nr i : Int32) = (advG (advF1 fa nf (nI he9) stg sup wd sn rd ri lim nr) (i + 1)).2 from (congrArg Prod.snd (advG_t (F := advF1 fa nf (nI he9) stg sup wd sn rd ri lim nr) (Or.inr cz135))).symm))
                  have hl : lv_has ls 9 [(7, .int (nI (i + 1))), (6, .int ((advG (advF1 fa nf (nI he9) stg sup wd sn rd ri lim nr) (i + 1)).2)), (5, .int ((advG (advF1 fa nf (nI he9) stg sup wd sn rd ri lim nr) (i + 1)).1)), (8, .int (advF1 fa nf (nI he9) stg sup wd sn rd ri lim nr i)), (4, .int 1), (0, .ref mo), (1, .int wd), (2, .int stg), (3, .int (nI he9))] := lv_repl hl (congrArg (fun z9 : Int32 => ([(7, .int (nI (i + 1))), (6, .int ((advG (advF1 fa nf (nI he9) stg sup wd sn rd ri lim nr) (i + 1)).2)), (5, .int z9), (8, .int (advF1 fa nf (nI he9) stg sup wd sn rd ri lim nr i)), (4, .int 1), (0, .ref mo), (1, .int wd), (2, .int stg), (3, .int (nI he9))] : List (Nat × Value))) (show (nI i : Int32) = (advG (advF1 fa nf (nI he9) stg sup wd sn rd ri lim nr) (i + 1)).1 from (congrArg Prod.fst (advG_t (F := advF1 fa nf (nI he9) stg sup wd sn rd ri lim nr) (Or.inr cz135))).symm))
                  refine W.widen (k := (i + 1)) (n := (6 * (i + 1))) (by omega) (by omega) ?_
                  exact ih_63 (i + 1) _ _ _ (by omega) (by exact fun _ _ _ _ _ _ => fput_2) (by exact fun j hj => if_pos (Or.inl hj)) _ _ _ _ hk G5_0 G5_1 G5_2 G5_3 G5_a0 G5_a1 G5_6 J (lv_sub hl [0, 1, 2, 4, 5, 6, 7, 8] rfl)
                · refine lv_goto (tgt := 149) hx hb dX7_advise_138 (by decide) ?_
                  refine lv_iinc (v := nI (i + 1)) (lv' := [(7, .int (nI (i + 1))), (8, .int (advF1 fa nf (nI he9) stg sup wd sn rd ri lim nr i)), (6, .int ((advG (advF1 fa nf (nI he9) stg sup wd sn rd ri lim nr) i).2)), (5, .int ((advG (advF1 fa nf (nI he9) stg sup wd sn rd ri lim nr) i).1)), (4, .int 1), (0, .ref mo), (1, .int wd), (2, .int stg), (3, .int (nI he9))]) hx hb dX7_advise_149 hl (k := 1) rfl (nI_1 i) (by decide) rfl (fun ls hl => ?_)
                  refine lv_goto (tgt := 63) hx hb dX7_advise_152 (by decide) ?_
                  have hl : lv_has ls 9 [(7, .int (nI (i + 1))), (8, .int (advF1 fa nf (nI he9) stg sup wd sn rd ri lim nr i)), (6, .int ((advG (advF1 fa nf (nI he9) stg sup wd sn rd ri lim nr) (i + 1)).2)), (5, .int ((advG (advF1 fa nf (nI he9) stg sup wd sn rd ri lim nr) i).1)), (4, .int 1), (0, .ref mo), (1, .int wd), (2, .int stg), (3, .int (nI he9))] := lv_repl hl (congrArg (fun z9 : Int32 => ([(7, .int (nI (i + 1))), (8, .int (advF1 fa nf (nI he9) stg sup wd sn rd ri lim nr i)), (6, .int z9), (5, .int ((advG (advF1 fa nf (nI he9) stg sup wd sn rd ri lim nr) i).1)), (4, .int 1), (0, .ref mo), (1, .int wd), (2, .int stg), (3, .int (nI he9))] : List (Nat × Value))) (show ((advG (advF1 fa nf (nI he9) stg sup wd sn rd ri lim nr) i).2 : Int32) = (advG (advF1 fa nf (nI he9) stg sup wd sn rd ri lim nr) (i + 1)).2 from (congrArg Prod.snd (advG_f (F := advF1 fa nf (nI he9) stg sup wd sn rd ri lim nr) cz128 cz135)).symm))
                  have hl : lv_has ls 9 [(7, .int (nI (i + 1))), (8, .int (advF1 fa nf (nI he9) stg sup wd sn rd ri lim nr i)), (6, .int ((advG (advF1 fa nf (nI he9) stg sup wd sn rd ri lim nr) (i + 1)).2)), (5, .int ((advG (advF1 fa nf (nI he9) stg sup wd sn rd ri lim nr) (i + 1)).1)), (4, .int 1), (0, .ref mo), (1, .int wd), (2, .int stg), (3, .int (nI he9))] := lv_repl hl (congrArg (fun z9 : Int32 => ([(7, .int (nI (i + 1))), (8, .int (advF1 fa nf (nI he9) stg sup wd sn rd ri lim nr i)), (6, .int ((advG (advF1 fa nf (nI he9) stg sup wd sn rd ri lim nr) (i + 1)).2)), (5, .int z9), (4, .int 1), (0, .ref mo), (1, .int wd), (2, .int stg), (3, .int (nI he9))] : List (Nat × Value))) (show ((advG (advF1 fa nf (nI he9) stg sup wd sn rd ri lim nr) i).1 : Int32) = (advG (advF1 fa nf (nI he9) stg sup wd sn rd ri lim nr) (i + 1)).1 from (congrArg Prod.fst (advG_f (F := advF1 fa nf (nI he9) stg sup wd sn rd ri lim nr) cz128 cz135)).symm))
                  refine W.widen (k := (i + 1)) (n := (6 * (i + 1))) (by omega) (by omega) ?_
                  exact ih_63 (i + 1) _ _ _ (by omega) (by exact fun _ _ _ _ _ _ => fput_2) (by exact fun j hj => if_pos (Or.inl hj)) _ _ _ _ hk G5_0 G5_1 G5_2 G5_3 G5_a0 G5_a1 G5_6 J (lv_sub hl [0, 2, 3, 4, 5, 6, 7, 8] rfl)
          exact loop_63 20 0 _ _ _ (by omega) (by exact fun _ _ _ _ _ _ => rfl) (by exact fun _ _ => rfl) _ _ _ _ hk G1_0 G1_1 G1_2 G1_3 G1_4 G1_5 G1_6 J (lv_sub hl [0, 1, 2, 3, 4, 5, 6, 7] rfl)
      · refine lv_aload_n hx hb dX7_advise_35 rfl (lv_at hl 0 rfl) ?_
        refine lv_iconst (v := 2) hx hb dX7_advise_36 (by decide) ?_
        refine z_ci J (z_rV (As := [.int 2]) (rest := []) (ci := 8) (q0 := 11) X J (cX7_no_ok l E G1_0) (cwV 1 hts gX7_advise_X7_no rfl rfl rfl (by decide +kernel) ⟨Nat.le_of_ble_eq_true rfl, Nat.le_of_ble_eq_true rfl⟩) G1_0 rfl rfl rfl hl.1 rfl (Nat.le_of_ble_eq_true rfl) dX7_advise_37 ⟨Nat.le_of_ble_eq_true rfl, Nat.le_of_ble_eq_true rfl⟩) (fun r37 ws_2 H locs hp9 J => ?_)
        obtain ⟨k2, hl9_2, G2_a0, e_r37⟩ := hp9
        have hk := hk.trans (k2.mono (by decide))
        have G2_1 := k2.2 12 _ (by decide) G1_1
        have G2_2 := k2.2 13 _ (by decide) G1_2
        have G2_3 := k2.2 14 _ (by decide) G1_3
        have G2_4 := k2.2 15 _ (by decide) G1_4
        have G2_5 := k2.2 16 _ (by decide) G1_5
        have G2_6 := k2.2 17 _ (by decide) G1_6
        subst e_r37
        have hk0 : (kAdvise wd stg he) = 2 := (if_neg (fun q => q (isInS_y cz9))).trans (if_pos (Or.inr (isInS_n cz32)))
        refine W.widen (k := 20) (n := 120) (by omega) (by omega) ?_
        subst hQ
        exact W.iret (v := 0) hx hb hr (fun t ht hW => ⟨⟨0, ws_2, rfl, ⟨hk, ⟨fa, kp, tp, (by simp only [hk0, sel0, sel1, sel2, sel3]; exact G2_a0), G2_1, G2_4, G2_5, G2_6, (by refine ⟨fun _ _ => rfl, ?_⟩; simp only [hk0, sel0, sel1, sel2, sel3])⟩⟩, J.I X ht hW.alike⟩, J.F ht⟩) J.locs dX7_advise_40
  · refine lv_aload_n hx hb dX7_advise_12 rfl (lv_at hl 0 rfl) ?_
    refine lv_iconst (v := 1) hx hb dX7_advise_13 (by decide) ?_
    refine z_ci J (z_rV (As := [.int 1]) (rest := []) (ci := 8) (q0 := 11) X J (cX7_no_ok l E G1_0) (cwV 1 hts gX7_advise_X7_no rfl rfl rfl (by decide +kernel) ⟨Nat.le_of_ble_eq_true rfl, Nat.le_of_ble_eq_true rfl⟩) G1_0 rfl rfl rfl hl.1 rfl (Nat.le_of_ble_eq_true rfl) dX7_advise_14 ⟨Nat.le_of_ble_eq_true rfl, Nat.le_of_ble_eq_true rfl⟩) (fun r14 ws_2 H locs hp9 J => ?_)
    obtain ⟨k2, hl9_2, G2_a0, e_r14⟩ := hp9
    have hk := hk.trans (k2.mono (by decide))
    have G2_1 := k2.2 12 _ (by decide) G1_1
    have G2_2 := k2.2 13 _ (by decide) G1_2
    have G2_3 := k2.2 14 _ (by decide) G1_3
    have G2_4 := k2.2 15 _ (by decide) G1_4
    have G2_5 := k2.2 16 _ (by decide) G1_5
    have G2_6 := k2.2 17 _ (by decide) G1_6
    subst e_r14
    have hk0 : (kAdvise wd stg he) = 1 := if_pos (isInS_n cz9)
    refine W.widen (k := 20) (n := 120) (by omega) (by omega) ?_
    subst hQ
    exact W.iret (v := 0) hx hb hr (fun t ht hW => ⟨⟨0, ws_2, rfl, ⟨hk, ⟨fa, kp, tp, (by simp only [hk0, sel0, sel1, sel2, sel3]; exact G2_a0), G2_1, G2_4, G2_5, G2_6, (by refine ⟨fun _ _ => rfl, ?_⟩; simp only [hk0, sel0, sel1, sel2, sel3])⟩⟩, J.I X ht hW.alike⟩, J.F ht⟩) J.locs dX7_advise_17
