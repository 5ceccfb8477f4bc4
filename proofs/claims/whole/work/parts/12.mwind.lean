set_option maxHeartbeats 4000000 in
set_option maxRecDepth 100000 in
theorem cX7_hour_ok (l : Launch) (E : zG) {ws : va_W} {mo mf md mi ms9 mk mt nf nr : Nat} {th lim sup off plo hrs : Int32} {fa sn tp : Nat → Int32} {many : Nat} {hf gf : Nat → Int32} {wd stg : Int32} (Fa0 : ws[11]? = some (mo, .inr (8, [.int th, .int (nI nf), .ref mf, .int (nI nr), .ref md, .ref mi, .int lim, .int sup, .int off, .int plo, .int hrs, .ref ms9, .ref mk, .ref mt]))) (Fa1 : ws[12]? = some (mf, zI4 E 66 fa)) (Fa2 : ws[15]? = some (ms9, zI4 E 400 sn)) (Fa3 : ws[17]? = some (mt, zI4 E 400 tp)) (htop : topR fa many tp hf gf) (hm9 : many ≤ 11) (hok : ∀ j, j < many → okF fa j) (hwd : wd = 0 ∨ wd = 1 ∨ wd = 2 ∨ wd = 3) : Met l yX7_hour wsX7_hour ({ frames := 2, cells := 0, slots := 0, locals := 55 } : Room) (va_Pc [.ref mo, .int wd, .int stg] (zI E ws)) (va_Qi (fun (r : Int32) (ws' : va_W) => (zK [15] ws ws') ∧ (ws'[15]? = some (ms9, zI4 E 400 ((hrS stg sup hf gf wd sn 20).2.1))) ∧ (r = (hrS stg sup hf gf wd sn 20).1)) (zI E) (zA E)) 0 0 (zA E) := by
  refine Met.ofW (cc := cX7_hour) (maxL := 7) (ret := (some .int)) (by decide) rfl ?_
  intro p e s m args below meth c s₁ B hml hv
  obtain ⟨hargs9, hI⟩ := hv
  have hx := B.exec
  have hb := B.bytes
  have hr := B.returns
  have hlocks := B.notSynchronized
  have X : zC E p m c cX7_hour 7 s args wsX7_hour RX7 := z_open B hml hI
  have hown := X.1.2.2.2.1
  have hts := X.1.2.2.2.2
  have J := hI.J
  have hk : zK [15] ws ws := zK.rf
  have hl := lv_entry ([.ref mo, .int wd, .int stg]) (n := 7) (Nat.le_of_ble_eq_true rfl)
  rw [show entryFrame m args 7 = entryFrame m ([.ref mo, .int wd, .int stg] : List Value).toArray 7 from by rw [hargs9], lg_entry_eq]
  generalize (lg_sl ([.ref mo, .int wd, .int stg]) ++ List.replicate (7 - (lg_sl ([.ref mo, .int wd, .int stg])).length) Slot.unset).toArray = ls at hl ⊢
  have hl : lv_has ls 7 [(0, .ref mo), (1, .int wd), (2, .int stg)] := hl
  generalize hQ : (MQ below (va_Qi (fun (r : Int32) (ws' : va_W) => (zK [15] ws ws') ∧ (ws'[15]? = some (ms9, zI4 E 400 ((hrS stg sup hf gf wd sn 20).2.1))) ∧ (r = (hrS stg sup hf gf wd sn 20).1)) (zI E) (zA E)) args s 0 0 (zA E)) = QQ
  rcases hwd with rfl | rfl | rfl | rfl
  · refine lv_iconst (v := (hrS stg sup hf gf 0 sn 0).1) hx hb dX7_hour_0 rfl ?_
    refine lv_istore_n (lv' := [(3, .int ((hrS stg sup hf gf 0 sn 0).1)), (0, .ref mo), (1, .int 0), (2, .int stg)]) hx hb dX7_hour_1 rfl hl (by decide) rfl (fun ls hl => ?_)
    refine lv_iconst (v := nI 0) hx hb dX7_hour_2 rfl ?_
    refine lv_istore (lv' := [(4, .int (nI 0)), (3, .int ((hrS stg sup hf gf 0 sn 0).1)), (0, .ref mo), (1, .int 0), (2, .int stg)]) hx hb dX7_hour_3 hl (by decide) rfl (fun ls hl => ?_)
    have loop_5 : ∀ (k9 i : Nat), i + k9 = 20 → ∀ (wl5 : va_W) (H : Heap) (locs : List Loc) (ls : Array Slot), zK [15] ws wl5 → wl5[11]? = some (mo, .inr (8, [.int th, .int (nI nf), .ref mf, .int (nI nr), .ref md, .ref mi, .int lim, .int sup, .int off, .int plo, .int hrs, .ref ms9, .ref mk, .ref mt])) → wl5[12]? = some (mf, zI4 E 66 fa) → wl5[15]? = some (ms9, zI4 E 400 ((hrS stg sup hf gf 0 sn i).2.1)) → wl5[17]? = some (mt, zI4 E 400 tp) → zJ E wl5 s H locs → lv_has ls 7 [(4, .int (nI i)), (3, .int ((hrS stg sup hf gf 0 sn i).1)), (0, .ref mo), (1, .int 0), (2, .int stg)] → W p l e (headSpec wsX7_hour ({ frames := 2, cells := 0, slots := 0, locals := 55 } : Room)).room s m args below meth c H locs 0 0 QQ (F0 m 5 ls []) := by
      intro k9
      induction k9 with
      | zero =>
        intro i hik wl5 H locs ls hk L5_0 L5_1 L5_2 L5_3 J hl
        obtain rfl : 20 = i := by omega
        refine lv_iload hx hb dX7_hour_5 (lv_at hl 0 rfl) ?_
        refine lv_bipush (v := nI 20) hx hb dX7_hour_7 (by decide) ?_
        refine lv_icmp_ge (tgt := 86) hx hb dX7_hour_9 (by decide) (fun cz9 => ?_) (fun cz9 => by exact (cz9 (nI_le (Nat.le_refl _) (by omega))).elim)
        refine lv_iload_n hx hb dX7_hour_86 rfl (lv_at hl 1 rfl) ?_
        subst hQ
        exact W.iret (v := (hrS stg sup hf gf 0 sn 20).1) hx hb hr (fun t ht hW => ⟨⟨(hrS stg sup hf gf 0 sn 20).1, wl5, rfl, ⟨hk, L5_2, rfl⟩, J.I X ht hW.alike⟩, J.F ht⟩) J.locs dX7_hour_87
      | succ k9 ih_5 =>
        intro i hik wl5 H locs ls hk L5_0 L5_1 L5_2 L5_3 J hl
        refine lv_iload hx hb dX7_hour_5 (lv_at hl 0 rfl) ?_
        refine lv_bipush (v := nI 20) hx hb dX7_hour_7 (by decide) ?_
        refine lv_icmp_ge (tgt := 86) hx hb dX7_hour_9 (by decide) (fun cz9 => by exact (nI_ge (by omega) (by omega) cz9).elim) (fun cz9 => ?_)
        refine lv_iload_n hx hb dX7_hour_12 rfl (lv_at hl 3 rfl) ?_
        refine lv_iconst (v := 2) hx hb dX7_hour_13 (by decide) ?_
        refine lv_irem hx hb dX7_hour_14 (by decide) ?_
        refine W.eq (g2 := F0 m 15 ls [.int 0]) (congrArg (fun z9 : Int32 => F0 m 15 ls [.int z9]) (show (0 - 0 / 2 * 2 : Int32) = 0 from (by decide))) ?_
        refine lv_if_ne (tgt := 26) hx hb dX7_hour_15 (by decide) (fun cz15 => by exact absurd cz15 (by decide)) (fun cz15 => ?_)
        refine lv_bipush (v := 20) hx hb dX7_hour_18 (by decide) ?_
        refine lv_iload hx hb dX7_hour_20 (lv_at hl 0 rfl) ?_
        refine lv_imul hx hb dX7_hour_22 ?_
        refine W.eq (g2 := F0 m 23 ls [.int (wfc 0 + nI i * wnl 0)]) (congrArg (fun z9 : Int32 => F0 m 23 ls [.int z9]) (show (20 * (nI i) : Int32) = (wfc 0 + nI i * wnl 0) from (by rw [show wfc 0 = 0 from by decide, show wnl 0 = 20 from by decide]; grind))) ?_
        refine lv_goto (tgt := 28) hx hb dX7_hour_23 (by decide) ?_
        refine lv_istore (lv' := [(5, .int (wfc 0 + nI i * wnl 0)), (4, .int (nI i)), (3, .int ((hrS stg sup hf gf 0 sn i).1)), (0, .ref mo), (1, .int 0), (2, .int stg)]) hx hb dX7_hour_28 hl (by decide) rfl (fun ls hl => ?_)
        refine lv_iload_n hx hb dX7_hour_30 rfl (lv_at hl 4 rfl) ?_
        refine lv_iconst (v := 2) hx hb dX7_hour_31 (by decide) ?_
        refine lv_irem hx hb dX7_hour_32 (by decide) ?_
        refine W.eq (g2 := F0 m 33 ls [.int 0]) (congrArg (fun z9 : Int32 => F0 m 33 ls [.int z9]) (show (0 - 0 / 2 * 2 : Int32) = 0 from (by decide))) ?_
        refine lv_if_ne (tgt := 40) hx hb dX7_hour_33 (by decide) (fun cz33 => by exact absurd cz33 (by decide)) (fun cz33 => ?_)
        refine lv_iconst (v := 1) hx hb dX7_hour_36 (by decide) ?_
        refine W.eq (g2 := F0 m 37 ls [.int (wnc 0)]) (congrArg (fun z9 : Int32 => F0 m 37 ls [.int z9]) (show (1 : Int32) = wnc 0 from (by decide))) ?_
        refine lv_goto (tgt := 42) hx hb dX7_hour_37 (by decide) ?_
        refine lv_istore (lv' := [(6, .int (wnc 0)), (5, .int (wfc 0 + nI i * wnl 0)), (4, .int (nI i)), (3, .int ((hrS stg sup hf gf 0 sn i).1)), (0, .ref mo), (1, .int 0), (2, .int stg)]) hx hb dX7_hour_42 hl (by decide) rfl (fun ls hl => ?_)
        refine lv_iload_n hx hb dX7_hour_44 rfl (lv_at hl 3 rfl) ?_
        refine lv_iload_n hx hb dX7_hour_45 rfl (lv_at hl 5 rfl) ?_
        refine lv_iconst (v := 2) hx hb dX7_hour_46 (by decide) ?_
        refine lv_icmp_ge (tgt := 62) hx hb dX7_hour_47 (by decide) (fun cz47 => by exact absurd cz47 (by decide)) (fun cz47 => ?_)
        refine lv_aload_n hx hb dX7_hour_50 rfl (lv_at hl 4 rfl) ?_
        refine lv_iload hx hb dX7_hour_51 (lv_at hl 1 rfl) ?_
        refine lv_iload hx hb dX7_hour_53 (lv_at hl 0 rfl) ?_
        refine lv_iload_n hx hb dX7_hour_55 rfl (lv_at hl 6 rfl) ?_
        refine z_ci J (z_rV (As := [.int (wfc 0 + nI i * wnl 0), .int (wnc 0), .int stg]) (rest := [.int ((hrS stg sup hf gf 0 sn i).1)]) (ci := 8) (q0 := 11) X J (cX7_line_ok l E L5_0 L5_1 L5_2 L5_3 (win_ok (w := 0) (by decide) i (by omega)) htop hm9 hok) (cwV 3 hts gX7_hour_X7_line rfl rfl rfl (by decide +kernel) ⟨Nat.le_of_ble_eq_true rfl, Nat.le_of_ble_eq_true rfl⟩) L5_0 rfl rfl rfl hl.1 rfl (Nat.le_of_ble_eq_true rfl) dX7_hour_56 ⟨Nat.le_of_ble_eq_true rfl, Nat.le_of_ble_eq_true rfl⟩) (fun r56 ws_1 H locs hp9 J => ?_)
        obtain ⟨k1, G1_a0, e_r56⟩ := hp9
        have hk := hk.trans (k1.mono (by decide))
        have G1_0 := k1.2 11 _ (by decide) L5_0
        have G1_1 := k1.2 12 _ (by decide) L5_1
        have G1_3 := k1.2 17 _ (by decide) L5_3
        rw [e_r56]
        refine lv_goto (tgt := 78) hx hb dX7_hour_59 (by decide) ?_
        refine lv_iadd hx hb dX7_hour_78 ?_
        refine lv_istore_n (lv' := [(3, .int (((hrS stg sup hf gf 0 sn i).1) + ((plS stg hf gf (wfc 0 + nI i * wnl 0) (wnc 0) (((hrS stg sup hf gf 0 sn i).2.1), sup, 0, 0, 0) 20).2.1))), (6, .int (wnc 0)), (5, .int (wfc 0 + nI i * wnl 0)), (4, .int (nI i)), (0, .ref mo), (1, .int 0), (2, .int stg)]) hx hb dX7_hour_79 rfl hl (by decide) rfl (fun ls hl => ?_)
        refine lv_iinc (v := nI (i + 1)) (lv' := [(4, .int (nI (i + 1))), (3, .int (((hrS stg sup hf gf 0 sn i).1) + ((plS stg hf gf (wfc 0 + nI i * wnl 0) (wnc 0) (((hrS stg sup hf gf 0 sn i).2.1), sup, 0, 0, 0) 20).2.1))), (6, .int (wnc 0)), (5, .int (wfc 0 + nI i * wnl 0)), (0, .ref mo), (1, .int 0), (2, .int stg)]) hx hb dX7_hour_80 hl (k := 3) rfl (nI_1 i) (by decide) rfl (fun ls hl => ?_)
        refine lv_goto (tgt := 5) hx hb dX7_hour_83 (by decide) ?_
        have hl : lv_has ls 7 [(4, .int (nI (i + 1))), (3, .int ((hrS stg sup hf gf 0 sn (i + 1)).1)), (6, .int (wnc 0)), (5, .int (wfc 0 + nI i * wnl 0)), (0, .ref mo), (1, .int 0), (2, .int stg)] := lv_repl hl (congrArg (fun z9 : Int32 => ([(4, .int (nI (i + 1))), (3, .int z9), (6, .int (wnc 0)), (5, .int (wfc 0 + nI i * wnl 0)), (0, .ref mo), (1, .int 0), (2, .int stg)] : List (Nat × Value))) (show (((hrS stg sup hf gf 0 sn i).1) + ((plS stg hf gf (wfc 0 + nI i * wnl 0) (wnc 0) (((hrS stg sup hf gf 0 sn i).2.1), sup, 0, 0, 0) 20).2.1) : Int32) = (hrS stg sup hf gf 0 sn (i + 1)).1 from hrS_1))
        exact ih_5 (i + 1) (by omega) _ _ _ _ hk G1_0 G1_1 (by rw [← hrS_2]; exact G1_a0) G1_3 J (lv_sub hl [0, 1, 4, 5, 6] rfl)
    exact loop_5 20 0 (by omega) _ _ _ _ hk Fa0 Fa1 Fa2 Fa3 J (lv_sub hl [0, 1, 2, 3, 4] rfl)
  · refine lv_iconst (v := (hrS stg sup hf gf 1 sn 0).1) hx hb dX7_hour_0 rfl ?_
    refine lv_istore_n (lv' := [(3, .int ((hrS stg sup hf gf 1 sn 0).1)), (0, .ref mo), (1, .int 1), (2, .int stg)]) hx hb dX7_hour_1 rfl hl (by decide) rfl (fun ls hl => ?_)
    refine lv_iconst (v := nI 0) hx hb dX7_hour_2 rfl ?_
    refine lv_istore (lv' := [(4, .int (nI 0)), (3, .int ((hrS stg sup hf gf 1 sn 0).1)), (0, .ref mo), (1, .int 1), (2, .int stg)]) hx hb dX7_hour_3 hl (by decide) rfl (fun ls hl => ?_)
    have loop_5 : ∀ (k9 i : Nat), i + k9 = 20 → ∀ (wl5 : va_W) (H : Heap) (locs : List Loc) (ls : Array Slot), zK [15] ws wl5 → wl5[11]? = some (mo, .inr (8, [.int th, .int (nI nf), .ref mf, .int (nI nr), .ref md, .ref mi, .int lim, .int sup, .int off, .int plo, .int hrs, .ref ms9, .ref mk, .ref mt])) → wl5[12]? = some (mf, zI4 E 66 fa) → wl5[15]? = some (ms9, zI4 E 400 ((hrS stg sup hf gf 1 sn i).2.1)) → wl5[17]? = some (mt, zI4 E 400 tp) → zJ E wl5 s H locs → lv_has ls 7 [(4, .int (nI i)), (3, .int ((hrS stg sup hf gf 1 sn i).1)), (0, .ref mo), (1, .int 1), (2, .int stg)] → W p l e (headSpec wsX7_hour ({ frames := 2, cells := 0, slots := 0, locals := 55 } : Room)).room s m args below meth c H locs 0 0 QQ (F0 m 5 ls []) := by
      intro k9
      induction k9 with
      | zero =>
        intro i hik wl5 H locs ls hk L5_0 L5_1 L5_2 L5_3 J hl
        obtain rfl : 20 = i := by omega
        refine lv_iload hx hb dX7_hour_5 (lv_at hl 0 rfl) ?_
        refine lv_bipush (v := nI 20) hx hb dX7_hour_7 (by decide) ?_
        refine lv_icmp_ge (tgt := 86) hx hb dX7_hour_9 (by decide) (fun cz9 => ?_) (fun cz9 => by exact (cz9 (nI_le (Nat.le_refl _) (by omega))).elim)
        refine lv_iload_n hx hb dX7_hour_86 rfl (lv_at hl 1 rfl) ?_
        subst hQ
        exact W.iret (v := (hrS stg sup hf gf 1 sn 20).1) hx hb hr (fun t ht hW => ⟨⟨(hrS stg sup hf gf 1 sn 20).1, wl5, rfl, ⟨hk, L5_2, rfl⟩, J.I X ht hW.alike⟩, J.F ht⟩) J.locs dX7_hour_87
      | succ k9 ih_5 =>
        intro i hik wl5 H locs ls hk L5_0 L5_1 L5_2 L5_3 J hl
        refine lv_iload hx hb dX7_hour_5 (lv_at hl 0 rfl) ?_
        refine lv_bipush (v := nI 20) hx hb dX7_hour_7 (by decide) ?_
        refine lv_icmp_ge (tgt := 86) hx hb dX7_hour_9 (by decide) (fun cz9 => by exact (nI_ge (by omega) (by omega) cz9).elim) (fun cz9 => ?_)
        refine lv_iload_n hx hb dX7_hour_12 rfl (lv_at hl 3 rfl) ?_
        refine lv_iconst (v := 2) hx hb dX7_hour_13 (by decide) ?_
        refine lv_irem hx hb dX7_hour_14 (by decide) ?_
        refine W.eq (g2 := F0 m 15 ls [.int 1]) (congrArg (fun z9 : Int32 => F0 m 15 ls [.int z9]) (show (1 - 1 / 2 * 2 : Int32) = 1 from (by decide))) ?_
        refine lv_if_ne (tgt := 26) hx hb dX7_hour_15 (by decide) (fun cz15 => ?_) (fun cz15 => by exact absurd cz15 (by decide))
        refine lv_iload hx hb dX7_hour_26 (lv_at hl 0 rfl) ?_
        refine W.eq (g2 := F0 m 28 ls [.int (wfc 1 + nI i * wnl 1)]) (congrArg (fun z9 : Int32 => F0 m 28 ls [.int z9]) (show (nI i : Int32) = (wfc 1 + nI i * wnl 1) from (by rw [show wfc 1 = 0 from by decide, show wnl 1 = 1 from by decide]; grind))) ?_
        refine lv_istore (lv' := [(5, .int (wfc 1 + nI i * wnl 1)), (4, .int (nI i)), (3, .int ((hrS stg sup hf gf 1 sn i).1)), (0, .ref mo), (1, .int 1), (2, .int stg)]) hx hb dX7_hour_28 hl (by decide) rfl (fun ls hl => ?_)
        refine lv_iload_n hx hb dX7_hour_30 rfl (lv_at hl 4 rfl) ?_
        refine lv_iconst (v := 2) hx hb dX7_hour_31 (by decide) ?_
        refine lv_irem hx hb dX7_hour_32 (by decide) ?_
        refine W.eq (g2 := F0 m 33 ls [.int 1]) (congrArg (fun z9 : Int32 => F0 m 33 ls [.int z9]) (show (1 - 1 / 2 * 2 : Int32) = 1 from (by decide))) ?_
        refine lv_if_ne (tgt := 40) hx hb dX7_hour_33 (by decide) (fun cz33 => ?_) (fun cz33 => by exact absurd cz33 (by decide))
        refine lv_bipush (v := 20) hx hb dX7_hour_40 (by decide) ?_
        refine W.eq (g2 := F0 m 42 ls [.int (wnc 1)]) (congrArg (fun z9 : Int32 => F0 m 42 ls [.int z9]) (show (20 : Int32) = wnc 1 from (by decide))) ?_
        refine lv_istore (lv' := [(6, .int (wnc 1)), (5, .int (wfc 1 + nI i * wnl 1)), (4, .int (nI i)), (3, .int ((hrS stg sup hf gf 1 sn i).1)), (0, .ref mo), (1, .int 1), (2, .int stg)]) hx hb dX7_hour_42 hl (by decide) rfl (fun ls hl => ?_)
        refine lv_iload_n hx hb dX7_hour_44 rfl (lv_at hl 3 rfl) ?_
        refine lv_iload_n hx hb dX7_hour_45 rfl (lv_at hl 5 rfl) ?_
        refine lv_iconst (v := 2) hx hb dX7_hour_46 (by decide) ?_
        refine lv_icmp_ge (tgt := 62) hx hb dX7_hour_47 (by decide) (fun cz47 => by exact absurd cz47 (by decide)) (fun cz47 => ?_)
        refine lv_aload_n hx hb dX7_hour_50 rfl (lv_at hl 4 rfl) ?_
        refine lv_iload hx hb dX7_hour_51 (lv_at hl 1 rfl) ?_
        refine lv_iload hx hb dX7_hour_53 (lv_at hl 0 rfl) ?_
        refine lv_iload_n hx hb dX7_hour_55 rfl (lv_at hl 6 rfl) ?_
        refine z_ci J (z_rV (As := [.int (wfc 1 + nI i * wnl 1), .int (wnc 1), .int stg]) (rest := [.int ((hrS stg sup hf gf 1 sn i).1)]) (ci := 8) (q0 := 11) X J (cX7_line_ok l E L5_0 L5_1 L5_2 L5_3 (win_ok (w := 1) (by decide) i (by omega)) htop hm9 hok) (cwV 3 hts gX7_hour_X7_line rfl rfl rfl (by decide +kernel) ⟨Nat.le_of_ble_eq_true rfl, Nat.le_of_ble_eq_true rfl⟩) L5_0 rfl rfl rfl hl.1 rfl (Nat.le_of_ble_eq_true rfl) dX7_hour_56 ⟨Nat.le_of_ble_eq_true rfl, Nat.le_of_ble_eq_true rfl⟩) (fun r56 ws_1 H locs hp9 J => ?_)
        obtain ⟨k1, G1_a0, e_r56⟩ := hp9
        have hk := hk.trans (k1.mono (by decide))
        have G1_0 := k1.2 11 _ (by decide) L5_0
        have G1_1 := k1.2 12 _ (by decide) L5_1
        have G1_3 := k1.2 17 _ (by decide) L5_3
        rw [e_r56]
        refine lv_goto (tgt := 78) hx hb dX7_hour_59 (by decide) ?_
        refine lv_iadd hx hb dX7_hour_78 ?_
        refine lv_istore_n (lv' := [(3, .int (((hrS stg sup hf gf 1 sn i).1) + ((plS stg hf gf (wfc 1 + nI i * wnl 1) (wnc 1) (((hrS stg sup hf gf 1 sn i).2.1), sup, 0, 0, 0) 20).2.1))), (6, .int (wnc 1)), (5, .int (wfc 1 + nI i * wnl 1)), (4, .int (nI i)), (0, .ref mo), (1, .int 1), (2, .int stg)]) hx hb dX7_hour_79 rfl hl (by decide) rfl (fun ls hl => ?_)
        refine lv_iinc (v := nI (i + 1)) (lv' := [(4, .int (nI (i + 1))), (3, .int (((hrS stg sup hf gf 1 sn i).1) + ((plS stg hf gf (wfc 1 + nI i * wnl 1) (wnc 1) (((hrS stg sup hf gf 1 sn i).2.1), sup, 0, 0, 0) 20).2.1))), (6, .int (wnc 1)), (5, .int (wfc 1 + nI i * wnl 1)), (0, .ref mo), (1, .int 1), (2, .int stg)]) hx hb dX7_hour_80 hl (k := 3) rfl (nI_1 i) (by decide) rfl (fun ls hl => ?_)
        refine lv_goto (tgt := 5) hx hb dX7_hour_83 (by decide) ?_
        have hl : lv_has ls 7 [(4, .int (nI (i + 1))), (3, .int ((hrS stg sup hf gf 1 sn (i + 1)).1)), (6, .int (wnc 1)), (5, .int (wfc 1 + nI i * wnl 1)), (0, .ref mo), (1, .int 1), (2, .int stg)] := lv_repl hl (congrArg (fun z9 : Int32 => ([(4, .int (nI (i + 1))), (3, .int z9), (6, .int (wnc 1)), (5, .int (wfc 1 + nI i * wnl 1)), (0, .ref mo), (1, .int 1), (2, .int stg)] : List (Nat × Value))) (show (((hrS stg sup hf gf 1 sn i).1) + ((plS stg hf gf (wfc 1 + nI i * wnl 1) (wnc 1) (((hrS stg sup hf gf 1 sn i).2.1), sup, 0, 0, 0) 20).2.1) : Int32) = (hrS stg sup hf gf 1 sn (i + 1)).1 from hrS_1))
        exact ih_5 (i + 1) (by omega) _ _ _ _ hk G1_0 G1_1 (by rw [← hrS_2]; exact G1_a0) G1_3 J (lv_sub hl [0, 1, 4, 5, 6] rfl)
    exact loop_5 20 0 (by omega) _ _ _ _ hk Fa0 Fa1 Fa2 Fa3 J (lv_sub hl [0, 1, 2, 3, 4] rfl)
  · refine lv_iconst (v := (hrS stg sup hf gf 2 sn 0).1) hx hb dX7_hour_0 rfl ?_
    refine lv_istore_n (lv' := [(3, .int ((hrS stg sup hf gf 2 sn 0).1)), (0, .ref mo), (1, .int 2), (2, .int stg)]) hx hb dX7_hour_1 rfl hl (by decide) rfl (fun ls hl => ?_)
    refine lv_iconst (v := nI 0) hx hb dX7_hour_2 rfl ?_
    refine lv_istore (lv' := [(4, .int (nI 0)), (3, .int ((hrS stg sup hf gf 2 sn 0).1)), (0, .ref mo), (1, .int 2), (2, .int stg)]) hx hb dX7_hour_3 hl (by decide) rfl (fun ls hl => ?_)
    have loop_5 : ∀ (k9 i : Nat), i + k9 = 20 → ∀ (wl5 : va_W) (H : Heap) (locs : List Loc) (ls : Array Slot), zK [15] ws wl5 → wl5[11]? = some (mo, .inr (8, [.int th, .int (nI nf), .ref mf, .int (nI nr), .ref md, .ref mi, .int lim, .int sup, .int off, .int plo, .int hrs, .ref ms9, .ref mk, .ref mt])) → wl5[12]? = some (mf, zI4 E 66 fa) → wl5[15]? = some (ms9, zI4 E 400 ((hrS stg sup hf gf 2 sn i).2.1)) → wl5[17]? = some (mt, zI4 E 400 tp) → zJ E wl5 s H locs → lv_has ls 7 [(4, .int (nI i)), (3, .int ((hrS stg sup hf gf 2 sn i).1)), (0, .ref mo), (1, .int 2), (2, .int stg)] → W p l e (headSpec wsX7_hour ({ frames := 2, cells := 0, slots := 0, locals := 55 } : Room)).room s m args below meth c H locs 0 0 QQ (F0 m 5 ls []) := by
      intro k9
      induction k9 with
      | zero =>
        intro i hik wl5 H locs ls hk L5_0 L5_1 L5_2 L5_3 J hl
        obtain rfl : 20 = i := by omega
        refine lv_iload hx hb dX7_hour_5 (lv_at hl 0 rfl) ?_
        refine lv_bipush (v := nI 20) hx hb dX7_hour_7 (by decide) ?_
        refine lv_icmp_ge (tgt := 86) hx hb dX7_hour_9 (by decide) (fun cz9 => ?_) (fun cz9 => by exact (cz9 (nI_le (Nat.le_refl _) (by omega))).elim)
        refine lv_iload_n hx hb dX7_hour_86 rfl (lv_at hl 1 rfl) ?_
        subst hQ
        exact W.iret (v := (hrS stg sup hf gf 2 sn 20).1) hx hb hr (fun t ht hW => ⟨⟨(hrS stg sup hf gf 2 sn 20).1, wl5, rfl, ⟨hk, L5_2, rfl⟩, J.I X ht hW.alike⟩, J.F ht⟩) J.locs dX7_hour_87
      | succ k9 ih_5 =>
        intro i hik wl5 H locs ls hk L5_0 L5_1 L5_2 L5_3 J hl
        refine lv_iload hx hb dX7_hour_5 (lv_at hl 0 rfl) ?_
        refine lv_bipush (v := nI 20) hx hb dX7_hour_7 (by decide) ?_
        refine lv_icmp_ge (tgt := 86) hx hb dX7_hour_9 (by decide) (fun cz9 => by exact (nI_ge (by omega) (by omega) cz9).elim) (fun cz9 => ?_)
        refine lv_iload_n hx hb dX7_hour_12 rfl (lv_at hl 3 rfl) ?_
        refine lv_iconst (v := 2) hx hb dX7_hour_13 (by decide) ?_
        refine lv_irem hx hb dX7_hour_14 (by decide) ?_
        refine W.eq (g2 := F0 m 15 ls [.int 0]) (congrArg (fun z9 : Int32 => F0 m 15 ls [.int z9]) (show (2 - 2 / 2 * 2 : Int32) = 0 from (by decide))) ?_
        refine lv_if_ne (tgt := 26) hx hb dX7_hour_15 (by decide) (fun cz15 => by exact absurd cz15 (by decide)) (fun cz15 => ?_)
        refine lv_bipush (v := 20) hx hb dX7_hour_18 (by decide) ?_
        refine lv_iload hx hb dX7_hour_20 (lv_at hl 0 rfl) ?_
        refine lv_imul hx hb dX7_hour_22 ?_
        refine lv_goto (tgt := 28) hx hb dX7_hour_23 (by decide) ?_
        refine lv_istore (lv' := [(5, .int (20 * (nI i))), (4, .int (nI i)), (3, .int ((hrS stg sup hf gf 2 sn i).1)), (0, .ref mo), (1, .int 2), (2, .int stg)]) hx hb dX7_hour_28 hl (by decide) rfl (fun ls hl => ?_)
        refine lv_iload_n hx hb dX7_hour_30 rfl (lv_at hl 4 rfl) ?_
        refine lv_iconst (v := 2) hx hb dX7_hour_31 (by decide) ?_
        refine lv_irem hx hb dX7_hour_32 (by decide) ?_
        refine W.eq (g2 := F0 m 33 ls [.int 0]) (congrArg (fun z9 : Int32 => F0 m 33 ls [.int z9]) (show (2 - 2 / 2 * 2 : Int32) = 0 from (by decide))) ?_
        refine lv_if_ne (tgt := 40) hx hb dX7_hour_33 (by decide) (fun cz33 => by exact absurd cz33 (by decide)) (fun cz33 => ?_)
        refine lv_iconst (v := 1) hx hb dX7_hour_36 (by decide) ?_
        refine lv_goto (tgt := 42) hx hb dX7_hour_37 (by decide) ?_
        refine lv_istore (lv' := [(6, .int 1), (5, .int (20 * (nI i))), (4, .int (nI i)), (3, .int ((hrS stg sup hf gf 2 sn i).1)), (0, .ref mo), (1, .int 2), (2, .int stg)]) hx hb dX7_hour_42 hl (by decide) rfl (fun ls hl => ?_)
        refine lv_iload_n hx hb dX7_hour_44 rfl (lv_at hl 3 rfl) ?_
        refine lv_iload_n hx hb dX7_hour_45 rfl (lv_at hl 5 rfl) ?_
        refine lv_iconst (v := 2) hx hb dX7_hour_46 (by decide) ?_
        refine lv_icmp_ge (tgt := 62) hx hb dX7_hour_47 (by decide) (fun cz47 => ?_) (fun cz47 => by exact absurd cz47 (by decide))
        refine lv_aload_n hx hb dX7_hour_62 rfl (lv_at hl 4 rfl) ?_
        refine lv_iload hx hb dX7_hour_63 (lv_at hl 1 rfl) ?_
        refine lv_iload hx hb dX7_hour_65 (lv_at hl 0 rfl) ?_
        refine lv_bipush (v := 19) hx hb dX7_hour_67 (by decide) ?_
        refine lv_imul hx hb dX7_hour_69 ?_
        refine lv_iadd hx hb dX7_hour_70 ?_
        refine W.eq (g2 := F0 m 71 ls [.int (wfc 2 + nI i * wnl 2), .ref mo, .int ((hrS stg sup hf gf 2 sn i).1)]) (congrArg (fun z9 : Int32 => F0 m 71 ls [.int z9, .ref mo, .int ((hrS stg sup hf gf 2 sn i).1)]) (show ((20 * (nI i)) + (1 * 19) : Int32) = (wfc 2 + nI i * wnl 2) from (by rw [show wfc 2 = 19 from by decide, show wnl 2 = 20 from by decide]; grind))) ?_
        refine lv_iload hx hb dX7_hour_71 (lv_at hl 0 rfl) ?_
        refine lv_ineg hx hb dX7_hour_73 ?_
        refine W.eq (g2 := F0 m 74 ls [.int (wnc 2), .int (wfc 2 + nI i * wnl 2), .ref mo, .int ((hrS stg sup hf gf 2 sn i).1)]) (congrArg (fun z9 : Int32 => F0 m 74 ls [.int z9, .int (wfc 2 + nI i * wnl 2), .ref mo, .int ((hrS stg sup hf gf 2 sn i).1)]) (show (-1 : Int32) = wnc 2 from (by decide))) ?_
        refine lv_iload_n hx hb dX7_hour_74 rfl (lv_at hl 6 rfl) ?_
        refine z_ci J (z_rV (As := [.int (wfc 2 + nI i * wnl 2), .int (wnc 2), .int stg]) (rest := [.int ((hrS stg sup hf gf 2 sn i).1)]) (ci := 8) (q0 := 11) X J (cX7_line_ok l E L5_0 L5_1 L5_2 L5_3 (win_ok (w := 2) (by decide) i (by omega)) htop hm9 hok) (cwV 3 hts gX7_hour_X7_line rfl rfl rfl (by decide +kernel) ⟨Nat.le_of_ble_eq_true rfl, Nat.le_of_ble_eq_true rfl⟩) L5_0 rfl rfl rfl hl.1 rfl (Nat.le_of_ble_eq_true rfl) dX7_hour_75 ⟨Nat.le_of_ble_eq_true rfl, Nat.le_of_ble_eq_true rfl⟩) (fun r75 ws_1 H locs hp9 J => ?_)
        obtain ⟨k1, G1_a0, e_r75⟩ := hp9
        have hk := hk.trans (k1.mono (by decide))
        have G1_0 := k1.2 11 _ (by decide) L5_0
        have G1_1 := k1.2 12 _ (by decide) L5_1
        have G1_3 := k1.2 17 _ (by decide) L5_3
        rw [e_r75]
        refine lv_iadd hx hb dX7_hour_78 ?_
        refine lv_istore_n (lv' := [(3, .int (((hrS stg sup hf gf 2 sn i).1) + ((plS stg hf gf (wfc 2 + nI i * wnl 2) (wnc 2) (((hrS stg sup hf gf 2 sn i).2.1), sup, 0, 0, 0) 20).2.1))), (6, .int 1), (5, .int (20 * (nI i))), (4, .int (nI i)), (0, .ref mo), (1, .int 2), (2, .int stg)]) hx hb dX7_hour_79 rfl hl (by decide) rfl (fun ls hl => ?_)
        refine lv_iinc (v := nI (i + 1)) (lv' := [(4, .int (nI (i + 1))), (3, .int (((hrS stg sup hf gf 2 sn i).1) + ((plS stg hf gf (wfc 2 + nI i * wnl 2) (wnc 2) (((hrS stg sup hf gf 2 sn i).2.1), sup, 0, 0, 0) 20).2.1))), (6, .int 1), (5, .int (20 * (nI i))), (0, .ref mo), (1, .int 2), (2, .int stg)]) hx hb dX7_hour_80 hl (k := 3) rfl (nI_1 i) (by decide) rfl (fun ls hl => ?_)
        refine lv_goto (tgt := 5) hx hb dX7_hour_83 (by decide) ?_
        have hl : lv_has ls 7 [(4, .int (nI (i + 1))), (3, .int ((hrS stg sup hf gf 2 sn (i + 1)).1)), (6, .int 1), (5, .int (20 * (nI i))), (0, .ref mo), (1, .int 2), (2, .int stg)] := lv_repl hl (congrArg (fun z9 : Int32 => ([(4, .int (nI (i + 1))), (3, .int z9), (6, .int 1), (5, .int (20 * (nI i))), (0, .ref mo), (1, .int 2), (2, .int stg)] : List (Nat × Value))) (show (((hrS stg sup hf gf 2 sn i).1) + ((plS stg hf gf (wfc 2 + nI i * wnl 2) (wnc 2) (((hrS stg sup hf gf 2 sn i).2.1), sup, 0, 0, 0) 20).2.1) : Int32) = (hrS stg sup hf gf 2 sn (i + 1)).1 from hrS_1))
        exact ih_5 (i + 1) (by omega) _ _ _ _ hk G1_0 G1_1 (by rw [← hrS_2]; exact G1_a0) G1_3 J (lv_sub hl [0, 1, 4, 5, 6] rfl)
    exact loop_5 20 0 (by omega) _ _ _ _ hk Fa0 Fa1 Fa2 Fa3 J (lv_sub hl [0, 1, 2, 3, 4] rfl)
  · refine lv_iconst (v := (hrS stg sup hf gf 3 sn 0).1) hx hb dX7_hour_0 rfl ?_
    refine lv_istore_n (lv' := [(3, .int ((hrS stg sup hf gf 3 sn 0).1)), (0, .ref mo), (1, .int 3), (2, .int stg)]) hx hb dX7_hour_1 rfl hl (by decide) rfl (fun ls hl => ?_)
    refine lv_iconst (v := nI 0) hx hb dX7_hour_2 rfl ?_
    refine lv_istore (lv' := [(4, .int (nI 0)), (3, .int ((hrS stg sup hf gf 3 sn 0).1)), (0, .ref mo), (1, .int 3), (2, .int stg)]) hx hb dX7_hour_3 hl (by decide) rfl (fun ls hl => ?_)
    have loop_5 : ∀ (k9 i : Nat), i + k9 = 20 → ∀ (wl5 : va_W) (H : Heap) (locs : List Loc) (ls : Array Slot), zK [15] ws wl5 → wl5[11]? = some (mo, .inr (8, [.int th, .int (nI nf), .ref mf, .int (nI nr), .ref md, .ref mi, .int lim, .int sup, .int off, .int plo, .int hrs, .ref ms9, .ref mk, .ref mt])) → wl5[12]? = some (mf, zI4 E 66 fa) → wl5[15]? = some (ms9, zI4 E 400 ((hrS stg sup hf gf 3 sn i).2.1)) → wl5[17]? = some (mt, zI4 E 400 tp) → zJ E wl5 s H locs → lv_has ls 7 [(4, .int (nI i)), (3, .int ((hrS stg sup hf gf 3 sn i).1)), (0, .ref mo), (1, .int 3), (2, .int stg)] → W p l e (headSpec wsX7_hour ({ frames := 2, cells := 0, slots := 0, locals := 55 } : Room)).room s m args below meth c H locs 0 0 QQ (F0 m 5 ls []) := by
      intro k9
      induction k9 with
      | zero =>
        intro i hik wl5 H locs ls hk L5_0 L5_1 L5_2 L5_3 J hl
        obtain rfl : 20 = i := by omega
        refine lv_iload hx hb dX7_hour_5 (lv_at hl 0 rfl) ?_
        refine lv_bipush (v := nI 20) hx hb dX7_hour_7 (by decide) ?_
        refine lv_icmp_ge (tgt := 86) hx hb dX7_hour_9 (by decide) (fun cz9 => ?_) (fun cz9 => by exact (cz9 (nI_le (Nat.le_refl _) (by omega))).elim)
        refine lv_iload_n hx hb dX7_hour_86 rfl (lv_at hl 1 rfl) ?_
        subst hQ
        exact W.iret (v := (hrS stg sup hf gf 3 sn 20).1) hx hb hr (fun t ht hW => ⟨⟨(hrS stg sup hf gf 3 sn 20).1, wl5, rfl, ⟨hk, L5_2, rfl⟩, J.I X ht hW.alike⟩, J.F ht⟩) J.locs dX7_hour_87
      | succ k9 ih_5 =>
        intro i hik wl5 H locs ls hk L5_0 L5_1 L5_2 L5_3 J hl
        refine lv_iload hx hb dX7_hour_5 (lv_at hl 0 rfl) ?_
        refine lv_bipush (v := nI 20) hx hb dX7_hour_7 (by decide) ?_
        refine lv_icmp_ge (tgt := 86) hx hb dX7_hour_9 (by decide) (fun cz9 => by exact (nI_ge (by omega) (by omega) cz9).elim) (fun cz9 => ?_)
        refine lv_iload_n hx hb dX7_hour_12 rfl (lv_at hl 3 rfl) ?_
        refine lv_iconst (v := 2) hx hb dX7_hour_13 (by decide) ?_
        refine lv_irem hx hb dX7_hour_14 (by decide) ?_
        refine W.eq (g2 := F0 m 15 ls [.int 1]) (congrArg (fun z9 : Int32 => F0 m 15 ls [.int z9]) (show (3 - 3 / 2 * 2 : Int32) = 1 from (by decide))) ?_
        refine lv_if_ne (tgt := 26) hx hb dX7_hour_15 (by decide) (fun cz15 => ?_) (fun cz15 => by exact absurd cz15 (by decide))
        refine lv_iload hx hb dX7_hour_26 (lv_at hl 0 rfl) ?_
        refine lv_istore (lv' := [(5, .int (nI i)), (4, .int (nI i)), (3, .int ((hrS stg sup hf gf 3 sn i).1)), (0, .ref mo), (1, .int 3), (2, .int stg)]) hx hb dX7_hour_28 hl (by decide) rfl (fun ls hl => ?_)
        refine lv_iload_n hx hb dX7_hour_30 rfl (lv_at hl 4 rfl) ?_
        refine lv_iconst (v := 2) hx hb dX7_hour_31 (by decide) ?_
        refine lv_irem hx hb dX7_hour_32 (by decide) ?_
        refine W.eq (g2 := F0 m 33 ls [.int 1]) (congrArg (fun z9 : Int32 => F0 m 33 ls [.int z9]) (show (3 - 3 / 2 * 2 : Int32) = 1 from (by decide))) ?_
        refine lv_if_ne (tgt := 40) hx hb dX7_hour_33 (by decide) (fun cz33 => ?_) (fun cz33 => by exact absurd cz33 (by decide))
        refine lv_bipush (v := 20) hx hb dX7_hour_40 (by decide) ?_
        refine lv_istore (lv' := [(6, .int 20), (5, .int (nI i)), (4, .int (nI i)), (3, .int ((hrS stg sup hf gf 3 sn i).1)), (0, .ref mo), (1, .int 3), (2, .int stg)]) hx hb dX7_hour_42 hl (by decide) rfl (fun ls hl => ?_)
        refine lv_iload_n hx hb dX7_hour_44 rfl (lv_at hl 3 rfl) ?_
        refine lv_iload_n hx hb dX7_hour_45 rfl (lv_at hl 5 rfl) ?_
        refine lv_iconst (v := 2) hx hb dX7_hour_46 (by decide) ?_
        refine lv_icmp_ge (tgt := 62) hx hb dX7_hour_47 (by decide) (fun cz47 => ?_) (fun cz47 => by exact absurd cz47 (by decide))
        refine lv_aload_n hx hb dX7_hour_62 rfl (lv_at hl 4 rfl) ?_
        refine lv_iload hx hb dX7_hour_63 (lv_at hl 1 rfl) ?_
        refine lv_iload hx hb dX7_hour_65 (lv_at hl 0 rfl) ?_
        refine lv_bipush (v := 19) hx hb dX7_hour_67 (by decide) ?_
        refine lv_imul hx hb dX7_hour_69 ?_
        refine lv_iadd hx hb dX7_hour_70 ?_
        refine W.eq (g2 := F0 m 71 ls [.int (wfc 3 + nI i * wnl 3), .ref mo, .int ((hrS stg sup hf gf 3 sn i).1)]) (congrArg (fun z9 : Int32 => F0 m 71 ls [.int z9, .ref mo, .int ((hrS stg sup hf gf 3 sn i).1)]) (show ((nI i) + (20 * 19) : Int32) = (wfc 3 + nI i * wnl 3) from (by rw [show wfc 3 = 380 from by decide, show wnl 3 = 1 from by decide]; grind))) ?_
        refine lv_iload hx hb dX7_hour_71 (lv_at hl 0 rfl) ?_
        refine lv_ineg hx hb dX7_hour_73 ?_
        refine W.eq (g2 := F0 m 74 ls [.int (wnc 3), .int (wfc 3 + nI i * wnl 3), .ref mo, .int ((hrS stg sup hf gf 3 sn i).1)]) (congrArg (fun z9 : Int32 => F0 m 74 ls [.int z9, .int (wfc 3 + nI i * wnl 3), .ref mo, .int ((hrS stg sup hf gf 3 sn i).1)]) (show (-20 : Int32) = wnc 3 from (by decide))) ?_
        refine lv_iload_n hx hb dX7_hour_74 rfl (lv_at hl 6 rfl) ?_
        refine z_ci J (z_rV (As := [.int (wfc 3 + nI i * wnl 3), .int (wnc 3), .int stg]) (rest := [.int ((hrS stg sup hf gf 3 sn i).1)]) (ci := 8) (q0 := 11) X J (cX7_line_ok l E L5_0 L5_1 L5_2 L5_3 (win_ok (w := 3) (by decide) i (by omega)) htop hm9 hok) (cwV 3 hts gX7_hour_X7_line rfl rfl rfl (by decide +kernel) ⟨Nat.le_of_ble_eq_true rfl, Nat.le_of_ble_eq_true rfl⟩) L5_0 rfl rfl rfl hl.1 rfl (Nat.le_of_ble_eq_true rfl) dX7_hour_75 ⟨Nat.le_of_ble_eq_true rfl, Nat.le_of_ble_eq_true rfl⟩) (fun r75 ws_1 H locs hp9 J => ?_)
        obtain ⟨k1, G1_a0, e_r75⟩ := hp9
        have hk := hk.trans (k1.mono (by decide))
        have G1_0 := k1.2 11 _ (by decide) L5_0
        have G1_1 := k1.2 12 _ (by decide) L5_1
        have G1_3 := k1.2 17 _ (by decide) L5_3
        rw [e_r75]
        refine lv_iadd hx hb dX7_hour_78 ?_
        refine lv_istore_n (lv' := [(3, .int (((hrS stg sup hf gf 3 sn i).1) + ((plS stg hf gf (wfc 3 + nI i * wnl 3) (wnc 3) (((hrS stg sup hf gf 3 sn i).2.1), sup, 0, 0, 0) 20).2.1))), (6, .int 20), (5, .int (nI i)), (4, .int (nI i)), (0, .ref mo), (1, .int 3), (2, .int stg)]) hx hb dX7_hour_79 rfl hl (by decide) rfl (fun ls hl => ?_)
        refine lv_iinc (v := nI (i + 1)) (lv' := [(4, .int (nI (i + 1))), (3, .int (((hrS stg sup hf gf 3 sn i).1) + ((plS stg hf gf (wfc 3 + nI i * wnl 3) (wnc 3) (((hrS stg sup hf gf 3 sn i).2.1), sup, 0, 0, 0) 20).2.1))), (6, .int 20), (5, .int (nI i)), (0, .ref mo), (1, .int 3), (2, .int stg)]) hx hb dX7_hour_80 hl (k := 3) rfl (nI_1 i) (by decide) rfl (fun ls hl => ?_)
        refine lv_goto (tgt := 5) hx hb dX7_hour_83 (by decide) ?_
        have hl : lv_has ls 7 [(4, .int (nI (i + 1))), (3, .int ((hrS stg sup hf gf 3 sn (i + 1)).1)), (6, .int 20), (5, .int (nI i)), (0, .ref mo), (1, .int 3), (2, .int stg)] := lv_repl hl (congrArg (fun z9 : Int32 => ([(4, .int (nI (i + 1))), (3, .int z9), (6, .int 20), (5, .int (nI i)), (0, .ref mo), (1, .int 3), (2, .int stg)] : List (Nat × Value))) (show (((hrS stg sup hf gf 3 sn i).1) + ((plS stg hf gf (wfc 3 + nI i * wnl 3) (wnc 3) (((hrS stg sup hf gf 3 sn i).2.1), sup, 0, 0, 0) 20).2.1) : Int32) = (hrS stg sup hf gf 3 sn (i + 1)).1 from hrS_1))
        exact ih_5 (i + 1) (by omega) _ _ _ _ hk G1_0 G1_1 (by rw [← hrS_2]; exact G1_a0) G1_3 J (lv_sub hl [0, 1, 4, 5, 6] rfl)
    exact loop_5 20 0 (by omega) _ _ _ _ hk Fa0 Fa1 Fa2 Fa3 J (lv_sub hl [0, 1, 2, 3, 4] rfl)
set_option maxHeartbeats 4000000 in
set_option maxRecDepth 100000 in
theorem cX7_blown_ok (l : Launch) (E : zG) {ws : va_W} {mo mf md mi ms9 mk mt nf nr : Nat} {th lim sup off plo hrs : Int32} {fa sn tp : Nat → Int32} {many n : Nat} {hf gf : Nat → Int32} {wd stg : Int32} (Fa0 : ws[11]? = some (mo, .inr (8, [.int th, .int (nI nf), .ref mf, .int (nI nr), .ref md, .ref mi, .int lim, .int sup, .int off, .int plo, .int hrs, .ref ms9, .ref mk, .ref mt]))) (Fa1 : ws[12]? = some (mf, zI4 E 66 fa)) (Fa2 : ws[15]? = some (ms9, zI4 E 400 sn)) (Fa3 : ws[17]? = some (mt, zI4 E 400 tp)) (htop : topR fa many tp hf gf) (hm9 : many ≤ 11) (hok : ∀ j, j < many → okF fa j) (hwd : wd = 0 ∨ wd = 1 ∨ wd = 2 ∨ wd = 3) (hn9 : n ≤ 100) : Met l yX7_blown wsX7_blown ({ frames := 3, cells := 0, slots := 0, locals := 81 } : Room) (va_Pc [.ref mo, .int wd, .int stg, .int (nI n)] (zI E ws)) (va_Qi (fun (r : Int32) (ws' : va_W) => (zK [15] ws ws') ∧ (ws'[15]? = some (ms9, zI4 E 400 ((hsS stg sup hf gf wd sn n).2.1))) ∧ (r = (hsS stg sup hf gf wd sn n).1)) (zI E) (zA E)) 0 0 (zA E) := by
  refine Met.ofW (cc := cX7_blown) (maxL := 6) (ret := (some .int)) (by decide) rfl ?_
  intro p e s m args below meth c s₁ B hml hv
  obtain ⟨hargs9, hI⟩ := hv
  have hx := B.exec
  have hb := B.bytes
  have hr := B.returns
  have hlocks := B.notSynchronized
  have X : zC E p m c cX7_blown 6 s args wsX7_blown RX7 := z_open B hml hI
  have hown := X.1.2.2.2.1
  have hts := X.1.2.2.2.2
  have J := hI.J
  have hk : zK [15] ws ws := zK.rf
  have hl := lv_entry ([.ref mo, .int wd, .int stg, .int (nI n)]) (n := 6) (Nat.le_of_ble_eq_true rfl)
  rw [show entryFrame m args 6 = entryFrame m ([.ref mo, .int wd, .int stg, .int (nI n)] : List Value).toArray 6 from by rw [hargs9], lg_entry_eq]
  generalize (lg_sl ([.ref mo, .int wd, .int stg, .int (nI n)]) ++ List.replicate (6 - (lg_sl ([.ref mo, .int wd, .int stg, .int (nI n)])).length) Slot.unset).toArray = ls at hl ⊢
  have hl : lv_has ls 6 [(0, .ref mo), (1, .int wd), (2, .int stg), (3, .int (nI n))] := hl
  generalize hQ : (MQ below (va_Qi (fun (r : Int32) (ws' : va_W) => (zK [15] ws ws') ∧ (ws'[15]? = some (ms9, zI4 E 400 ((hsS stg sup hf gf wd sn n).2.1))) ∧ (r = (hsS stg sup hf gf wd sn n).1)) (zI E) (zA E)) args s 0 0 (zA E)) = QQ
  refine lv_iconst (v := (hsS stg sup hf gf wd sn 0).1) hx hb dX7_blown_0 rfl ?_
  refine lv_istore (lv' := [(4, .int ((hsS stg sup hf gf wd sn 0).1)), (0, .ref mo), (1, .int wd), (2, .int stg), (3, .int (nI n))]) hx hb dX7_blown_1 hl (by decide) rfl (fun ls hl => ?_)
  refine lv_iconst (v := nI 0) hx hb dX7_blown_3 rfl ?_
  refine lv_istore (lv' := [(5, .int (nI 0)), (4, .int ((hsS stg sup hf gf wd sn 0).1)), (0, .ref mo), (1, .int wd), (2, .int stg), (3, .int (nI n))]) hx hb dX7_blown_4 hl (by decide) rfl (fun ls hl => ?_)
  have loop_6 : ∀ (k9 i : Nat), i + k9 = n → ∀ (wl6 : va_W) (H : Heap) (locs : List Loc) (ls : Array Slot), zK [15] ws wl6 → wl6[11]? = some (mo, .inr (8, [.int th, .int (nI nf), .ref mf, .int (nI nr), .ref md, .ref mi, .int lim, .int sup, .int off, .int plo, .int hrs, .ref ms9, .ref mk, .ref mt])) → wl6[12]? = some (mf, zI4 E 66 fa) → wl6[15]? = some (ms9, zI4 E 400 ((hsS stg sup hf gf wd sn i).2.1)) → wl6[17]? = some (mt, zI4 E 400 tp) → zJ E wl6 s H locs → lv_has ls 6 [(5, .int (nI i)), (4, .int ((hsS stg sup hf gf wd sn i).1)), (0, .ref mo), (1, .int wd), (2, .int stg), (3, .int (nI n))] → W p l e (headSpec wsX7_blown ({ frames := 3, cells := 0, slots := 0, locals := 81 } : Room)).room s m args below meth c H locs 0 0 QQ (F0 m 6 ls []) := by
    intro k9
    induction k9 with
    | zero =>
      intro i hik wl6 H locs ls hk L6_0 L6_1 L6_2 L6_3 J hl
      obtain rfl : n = i := by omega
      refine lv_iload hx hb dX7_blown_6 (lv_at hl 0 rfl) ?_
      refine lv_iload_n hx hb dX7_blown_8 rfl (lv_at hl 5 rfl) ?_
      refine lv_icmp_ge (tgt := 29) hx hb dX7_blown_9 (by decide) (fun cz9 => ?_) (fun cz9 => by exact (cz9 (nI_le (Nat.le_refl _) (by omega))).elim)
      refine lv_iload hx hb dX7_blown_29 (lv_at hl 1 rfl) ?_
      subst hQ
      exact W.iret (v := (hsS stg sup hf gf wd sn n).1) hx hb hr (fun t ht hW => ⟨⟨(hsS stg sup hf gf wd sn n).1, wl6, rfl, ⟨hk, L6_2, rfl⟩, J.I X ht hW.alike⟩, J.F ht⟩) J.locs dX7_blown_31
    | succ k9 ih_6 =>
      intro i hik wl6 H locs ls hk L6_0 L6_1 L6_2 L6_3 J hl
      refine lv_iload hx hb dX7_blown_6 (lv_at hl 0 rfl) ?_
      refine lv_iload_n hx hb dX7_blown_8 rfl (lv_at hl 5 rfl) ?_
      refine lv_icmp_ge (tgt := 29) hx hb dX7_blown_9 (by decide) (fun cz9 => by exact (nI_ge (by omega) (by omega) cz9).elim) (fun cz9 => ?_)
      refine lv_iload hx hb dX7_blown_12 (lv_at hl 1 rfl) ?_
      refine lv_aload_n hx hb dX7_blown_14 rfl (lv_at hl 2 rfl) ?_
      refine lv_iload_n hx hb dX7_blown_15 rfl (lv_at hl 3 rfl) ?_
      refine lv_iload_n hx hb dX7_blown_16 rfl (lv_at hl 4 rfl) ?_
      refine z_ci J (z_rV (As := [.int wd, .int stg]) (rest := [.int ((hsS stg sup hf gf wd sn i).1)]) (ci := 8) (q0 := 11) X J (cX7_hour_ok l E L6_0 L6_1 L6_2 L6_3 htop hm9 hok hwd) (cwV 2 hts gX7_blown_X7_hour rfl rfl rfl (by decide +kernel) ⟨Nat.le_of_ble_eq_true rfl, Nat.le_of_ble_eq_true rfl⟩) L6_0 rfl rfl rfl hl.1 rfl (Nat.le_of_ble_eq_true rfl) dX7_blown_17 ⟨Nat.le_of_ble_eq_true rfl, Nat.le_of_ble_eq_true rfl⟩) (fun r17 ws_1 H locs hp9 J => ?_)
      obtain ⟨k1, G1_a0, e_r17⟩ := hp9
      have hk := hk.trans (k1.mono (by decide))
      have G1_0 := k1.2 11 _ (by decide) L6_0
      have G1_1 := k1.2 12 _ (by decide) L6_1
      have G1_3 := k1.2 17 _ (by decide) L6_3
      subst e_r17
      refine lv_iadd hx hb dX7_blown_20 ?_
      refine lv_istore (lv' := [(4, .int (((hsS stg sup hf gf wd sn i).1) + ((hrS stg sup hf gf wd ((hsS stg sup hf gf wd sn i).2.1) 20).1))), (5, .int (nI i)), (0, .ref mo), (1, .int wd), (2, .int stg), (3, .int (nI n))]) hx hb dX7_blown_21 hl (by decide) rfl (fun ls hl => ?_)
      refine lv_iinc (v := nI (i + 1)) (lv' := [(5, .int (nI (i + 1))), (4, .int (((hsS stg sup hf gf wd sn i).1) + ((hrS stg sup hf gf wd ((hsS stg sup hf gf wd sn i).2.1) 20).1))), (0, .ref mo), (1, .int wd), (2, .int stg), (3, .int (nI n))]) hx hb dX7_blown_23 hl (k := 1) rfl (nI_1 i) (by decide) rfl (fun ls hl => ?_)
      refine lv_goto (tgt := 6) hx hb dX7_blown_26 (by decide) ?_
      have hl : lv_has ls 6 [(5, .int (nI (i + 1))), (4, .int ((hsS stg sup hf gf wd sn (i + 1)).1)), (0, .ref mo), (1, .int wd), (2, .int stg), (3, .int (nI n))] := lv_repl hl (congrArg (fun z9 : Int32 => ([(5, .int (nI (i + 1))), (4, .int z9), (0, .ref mo), (1, .int wd), (2, .int stg), (3, .int (nI n))] : List (Nat × Value))) (show (((hsS stg sup hf gf wd sn i).1) + ((hrS stg sup hf gf wd ((hsS stg sup hf gf wd sn i).2.1) 20).1) : Int32) = (hsS stg sup hf gf wd sn (i + 1)).1 from hsS_1))
      exact ih_6 (i + 1) (by omega) _ _ _ _ hk G1_0 G1_1 (by rw [← hsS_2]; exact G1_a0) G1_3 J (lv_sub hl [0, 1, 2, 3, 4, 5] rfl)
  exact loop_6 n 0 (by omega) _ _ _ _ hk Fa0 Fa1 Fa2 Fa3 J (lv_sub hl [0, 1, 2, 3, 4, 5] rfl)
set_option maxHeartbeats 4000000 in
set_option maxRecDepth 100000 in
theorem cX7_keep_ok (l : Launch) (E : zG) {ws : va_W} {mo mf md mi ms9 mk mt nf nr : Nat} {th lim sup off plo hrs : Int32} {sn kp : Nat → Int32} (Fa0 : ws[11]? = some (mo, .inr (8, [.int th, .int (nI nf), .ref mf, .int (nI nr), .ref md, .ref mi, .int lim, .int sup, .int off, .int plo, .int hrs, .ref ms9, .ref mk, .ref mt]))) (Fa1 : ws[15]? = some (ms9, zI4 E 400 sn)) (Fa2 : ws[16]? = some (mk, zI4 E 400 kp))  : Met l yX7_keep wsX7_keep ({ frames := 1, cells := 0, slots := 0, locals := 60 } : Room) (va_Pc [.ref mo] (zI E ws)) (va_Qv (fun (ws' : va_W) => (zK [16] ws ws') ∧ (ws'[16]? = some (mk, zI4 E 400 sn))) (zI E) (zA E)) 0 0 (zA E) := by
  refine Met.ofW (cc := cX7_keep) (maxL := 1) (ret := none) (by decide) rfl ?_
  intro p e s m args below meth c s₁ B hml hv
  obtain ⟨hargs9, hI⟩ := hv
  have hx := B.exec
  have hb := B.bytes
  have hr := B.returns
  have hlocks := B.notSynchronized
  have X : zC E p m c cX7_keep 1 s args wsX7_keep RX7 := z_open B hml hI
  have hown := X.1.2.2.2.1
  have hts := X.1.2.2.2.2
  have J := hI.J
  have hi_X7 : ∀ w ∈ wsX70, w ∈ wsX7_keep := by decide +kernel
  have hk : zK [16] ws ws := zK.rf
  have hl := lv_entry ([.ref mo]) (n := 1) (Nat.le_of_ble_eq_true rfl)
  rw [show entryFrame m args 1 = entryFrame m ([.ref mo] : List Value).toArray 1 from by rw [hargs9], lg_entry_eq]
  generalize (lg_sl ([.ref mo]) ++ List.replicate (1 - (lg_sl ([.ref mo])).length) Slot.unset).toArray = ls at hl ⊢
  have hl : lv_has ls 1 [(0, .ref mo)] := hl
  generalize hQ : (MQ below (va_Qv (fun (ws' : va_W) => (zK [16] ws ws') ∧ (ws'[16]? = some (mk, zI4 E 400 sn))) (zI E) (zA E)) args s 0 0 (zA E)) = QQ
  refine lv_aload_n hx hb dX7_keep_0 rfl (lv_at hl 0 rfl) ?_
  refine z_get (C := RX7) (T := TX7) (N := 14) (ci := 8) (v := .ref ms9) X J hi_X7 11 Fa0 rfl 11 (by decide) (by decide +kernel) rfl dX7_keep_1 ?_
  refine lv_iconst (v := 0) hx hb dX7_keep_4 (by decide) ?_
  refine lv_aload_n hx hb dX7_keep_5 rfl (lv_at hl 0 rfl) ?_
  refine z_get (C := RX7) (T := TX7) (N := 14) (ci := 8) (v := .ref mk) X J hi_X7 11 Fa0 rfl 12 (by decide) (by decide +kernel) rfl dX7_keep_6 ?_
  refine lv_iconst (v := 0) hx hb dX7_keep_9 (by decide) ?_
  refine lv_sipush (v := 400) hx hb dX7_keep_10 (by decide) ?_
  refine z_copyI X J hl.1 (index := 70) (by decide +kernel) (by decide +kernel) (by decide +kernel) (by decide +kernel) 15 16 Fa1 Fa2 (by decide) (by decide) (by decide) (by decide) (by decide) (Nat.le_of_ble_eq_true rfl) (Nat.le_of_ble_eq_true (by decide +kernel)) dX7_keep_13 (fun H locs J => ?_)
  have hk := hk.trans (zK.set (ws := ws) (q := 16) (e := (mk, zI4 E 400 (va_cpy sn kp (0 : Int32).toNatClampNeg (0 : Int32).toNatClampNeg (400 : Int32).toNatClampNeg))) (by simp))
  have G1_0 := zset_ne (q := 16) (e' := (mk, zI4 E 400 (va_cpy sn kp (0 : Int32).toNatClampNeg (0 : Int32).toNatClampNeg (400 : Int32).toNatClampNeg))) (by decide) Fa0
  have G1_1 := zset_ne (q := 16) (e' := (mk, zI4 E 400 (va_cpy sn kp (0 : Int32).toNatClampNeg (0 : Int32).toNatClampNeg (400 : Int32).toNatClampNeg))) (by decide) Fa1
  have G1_2 := zset_eq (e' := (mk, zI4 E 400 (va_cpy sn kp (0 : Int32).toNatClampNeg (0 : Int32).toNatClampNeg (400 : Int32).toNatClampNeg))) Fa2
  generalize hws1 : (ws.set 16 (mk, zI4 E 400 (va_cpy sn kp (0 : Int32).toNatClampNeg (0 : Int32).toNatClampNeg (400 : Int32).toNatClampNeg))) = ws_1 at J hk G1_0 G1_1 G1_2
  have J := J.congr 16 (g := sn) G1_2 (fun j hj => by simp only [va_cpy]; rw [if_pos ⟨Nat.zero_le _, by have := hj; simpa using this⟩]; simp)
  have hk := hk.trans (zK.set (ws := ws_1) (q := 16) (e := (mk, zI4 E 400 sn)) (by simp))
  have G2_0 := zset_ne (q := 16) (e' := (mk, zI4 E 400 sn)) (by decide) G1_0
  have G2_1 := zset_ne (q := 16) (e' := (mk, zI4 E 400 sn)) (by decide) G1_1
  have G2_2 := zset_eq (e' := (mk, zI4 E 400 sn)) G1_2
  generalize hws2 : (ws_1.set 16 (mk, zI4 E 400 sn)) = ws_2 at J hk G2_0 G2_1 G2_2
  subst hQ
  exact W.vret hx hb hr (fun t ht hW => ⟨⟨ws_2, rfl, ⟨hk, G2_2⟩, J.I X ht hW.alike⟩, J.F ht⟩) J.locs dX7_keep_16
set_option maxHeartbeats 4000000 in
set_option maxRecDepth 100000 in
theorem cX7_bringBack_ok (l : Launch) (E : zG) {ws : va_W} {mo mf md mi ms9 mk mt nf nr : Nat} {th lim sup off plo hrs : Int32} {sn kp : Nat → Int32} (Fa0 : ws[11]? = some (mo, .inr (8, [.int th, .int (nI nf), .ref mf, .int (nI nr), .ref md, .ref mi, .int lim, .int sup, .int off, .int plo, .int hrs, .ref ms9, .ref mk, .ref mt]))) (Fa1 : ws[15]? = some (ms9, zI4 E 400 sn)) (Fa2 : ws[16]? = some (mk, zI4 E 400 kp))  : Met l yX7_bringBack wsX7_bringBack ({ frames := 1, cells := 0, slots := 0, locals := 60 } : Room) (va_Pc [.ref mo] (zI E ws)) (va_Qv (fun (ws' : va_W) => (zK [15] ws ws') ∧ (ws'[15]? = some (ms9, zI4 E 400 kp))) (zI E) (zA E)) 0 0 (zA E) := by
  refine Met.ofW (cc := cX7_bringBack) (maxL := 1) (ret := none) (by decide) rfl ?_
  intro p e s m args below meth c s₁ B hml hv
  obtain ⟨hargs9, hI⟩ := hv
  have hx := B.exec
  have hb := B.bytes
  have hr := B.returns
  have hlocks := B.notSynchronized
  have X : zC E p m c cX7_bringBack 1 s args wsX7_bringBack RX7 := z_open B hml hI
  have hown := X.1.2.2.2.1
  have hts := X.1.2.2.2.2
  have J := hI.J
  have hi_X7 : ∀ w ∈ wsX70, w ∈ wsX7_bringBack := by decide +kernel
  have hk : zK [15] ws ws := zK.rf
  have hl := lv_entry ([.ref mo]) (n := 1) (Nat.le_of_ble_eq_true rfl)
  rw [show entryFrame m args 1 = entryFrame m ([.ref mo] : List Value).toArray 1 from by rw [hargs9], lg_entry_eq]
  generalize (lg_sl ([.ref mo]) ++ List.replicate (1 - (lg_sl ([.ref mo])).length) Slot.unset).toArray = ls at hl ⊢
  have hl : lv_has ls 1 [(0, .ref mo)] := hl
  generalize hQ : (MQ below (va_Qv (fun (ws' : va_W) => (zK [15] ws ws') ∧ (ws'[15]? = some (ms9, zI4 E 400 kp))) (zI E) (zA E)) args s 0 0 (zA E)) = QQ
  refine lv_aload_n hx hb dX7_bringBack_0 rfl (lv_at hl 0 rfl) ?_
  refine z_get (C := RX7) (T := TX7) (N := 14) (ci := 8) (v := .ref mk) X J hi_X7 11 Fa0 rfl 12 (by decide) (by decide +kernel) rfl dX7_bringBack_1 ?_
  refine lv_iconst (v := 0) hx hb dX7_bringBack_4 (by decide) ?_
  refine lv_aload_n hx hb dX7_bringBack_5 rfl (lv_at hl 0 rfl) ?_
  refine z_get (C := RX7) (T := TX7) (N := 14) (ci := 8) (v := .ref ms9) X J hi_X7 11 Fa0 rfl 11 (by decide) (by decide +kernel) rfl dX7_bringBack_6 ?_
  refine lv_iconst (v := 0) hx hb dX7_bringBack_9 (by decide) ?_
  refine lv_sipush (v := 400) hx hb dX7_bringBack_10 (by decide) ?_
  refine z_copyI X J hl.1 (index := 70) (by decide +kernel) (by decide +kernel) (by decide +kernel) (by decide +kernel) 16 15 Fa2 Fa1 (by decide) (by decide) (by decide) (by decide) (by decide) (Nat.le_of_ble_eq_true rfl) (Nat.le_of_ble_eq_true (by decide +kernel)) dX7_bringBack_13 (fun H locs J => ?_)
  have hk := hk.trans (zK.set (ws := ws) (q := 15) (e := (ms9, zI4 E 400 (va_cpy kp sn (0 : Int32).toNatClampNeg (0 : Int32).toNatClampNeg (400 : Int32).toNatClampNeg))) (by simp))
  have G1_0 := zset_ne (q := 15) (e' := (ms9, zI4 E 400 (va_cpy kp sn (0 : Int32).toNatClampNeg (0 : Int32).toNatClampNeg (400 : Int32).toNatClampNeg))) (by decide) Fa0
  have G1_1 := zset_eq (e' := (ms9, zI4 E 400 (va_cpy kp sn (0 : Int32).toNatClampNeg (0 : Int32).toNatClampNeg (400 : Int32).toNatClampNeg))) Fa1
  have G1_2 := zset_ne (q := 15) (e' := (ms9, zI4 E 400 (va_cpy kp sn (0 : Int32).toNatClampNeg (0 : Int32).toNatClampNeg (400 : Int32).toNatClampNeg))) (by decide) Fa2
  generalize hws1 : (ws.set 15 (ms9, zI4 E 400 (va_cpy kp sn (0 : Int32).toNatClampNeg (0 : Int32).toNatClampNeg (400 : Int32).toNatClampNeg))) = ws_1 at J hk G1_0 G1_1 G1_2
  have J := J.congr 15 (g := kp) G1_1 (fun j hj => by simp only [va_cpy]; rw [if_pos ⟨Nat.zero_le _, by have := hj; simpa using this⟩]; simp)
  have hk := hk.trans (zK.set (ws := ws_1) (q := 15) (e := (ms9, zI4 E 400 kp)) (by simp))
  have G2_0 := zset_ne (q := 15) (e' := (ms9, zI4 E 400 kp)) (by decide) G1_0
  have G2_1 := zset_eq (e' := (ms9, zI4 E 400 kp)) G1_1
  have G2_2 := zset_ne (q := 15) (e' := (ms9, zI4 E 400 kp)) (by decide) G1_2
  generalize hws2 : (ws_1.set 15 (ms9, zI4 E 400 kp)) = ws_2 at J hk G2_0 G2_1 G2_2
  subst hQ
  exact W.vret hx hb hr (fun t ht hW => ⟨⟨ws_2, rfl, ⟨hk, G2_1⟩, J.I X ht hW.alike⟩, J.F ht⟩) J.locs dX7_bringBack_16
set_option maxHeartbeats 4000000 in
set_option maxRecDepth 100000 in
theorem cX7_blocked_ok (l : Launch) (E : zG) {ws : va_W} {mo mf md mi ms9 mk mt nf nr : Nat} {th lim sup off plo hrs : Int32} {rd ri sn : Nat → Int32} {q : Nat} (Fa0 : ws[11]? = some (mo, .inr (8, [.int th, .int (nI nf), .ref mf, .int (nI nr), .ref md, .ref mi, .int lim, .int sup, .int off, .int plo, .int hrs, .ref ms9, .ref mk, .ref mt]))) (Fa1 : ws[13]? = some (md, zI4 E 4 rd)) (Fa2 : ws[14]? = some (mi, zI4 E 4 ri)) (Fa3 : ws[15]? = some (ms9, zI4 E 400 sn)) (hq9 : q < 4) (hokr : okR rd ri q) : Met l yX7_blocked wsX7_blocked ({ frames := 1, cells := 0, slots := 0, locals := 22 } : Room) (va_Pc [.ref mo, .int (nI q)] (zI E ws)) (vp_Si (fun r : Int32 => r = blkG sn (rfi (rd q) (ri q)) (rd q) lim 20)) 0 0 (fun _ => False) := by
  refine Met.ofW (cc := cX7_blocked) (maxL := 4) (ret := (some .int)) (by decide) rfl ?_
  intro p e s m args below meth c s₁ B hml hv
  obtain ⟨hargs9, hI⟩ := hv
  have hx := B.exec
  have hb := B.bytes
  have hr := B.returns
  have hlocks := B.notSynchronized
  have X : zC E p m c cX7_blocked 4 s args wsX7_blocked RX7 := z_open B hml hI
  have hown := X.1.2.2.2.1
  have hts := X.1.2.2.2.2
  have J := hI.J
  have hi_X7 : ∀ w ∈ wsX70, w ∈ wsX7_blocked := by decide +kernel
  have hl := lv_entry ([.ref mo, .int (nI q)]) (n := 4) (Nat.le_of_ble_eq_true rfl)
  rw [show entryFrame m args 4 = entryFrame m ([.ref mo, .int (nI q)] : List Value).toArray 4 from by rw [hargs9], lg_entry_eq]
  generalize (lg_sl ([.ref mo, .int (nI q)]) ++ List.replicate (4 - (lg_sl ([.ref mo, .int (nI q)])).length) Slot.unset).toArray = ls at hl ⊢
  have hl : lv_has ls 4 [(0, .ref mo), (1, .int (nI q))] := hl
  generalize hQ : (MQ below (vp_Si (fun r : Int32 => r = blkG sn (rfi (rd q) (ri q)) (rd q) lim 20)) args s 0 0 (fun _ => False)) = QQ
  refine lv_iconst (v := blkG sn (rfi (rd q) (ri q)) (rd q) lim 0) hx hb dX7_blocked_0 rfl ?_
  refine lv_istore_n (lv' := [(2, .int (blkG sn (rfi (rd q) (ri q)) (rd q) lim 0)), (0, .ref mo), (1, .int (nI q))]) hx hb dX7_blocked_1 rfl hl (by decide) rfl (fun ls hl => ?_)
  refine lv_iconst (v := nI 0) hx hb dX7_blocked_2 rfl ?_
  refine lv_istore_n (lv' := [(3, .int (nI 0)), (2, .int (blkG sn (rfi (rd q) (ri q)) (rd q) lim 0)), (0, .ref mo), (1, .int (nI q))]) hx hb dX7_blocked_3 rfl hl (by decide) rfl (fun ls hl => ?_)
  have loop_4 : ∀ (k9 i : Nat), i + k9 = 20 → ∀ (ls : Array Slot), lv_has ls 4 [(3, .int (nI i)), (2, .int (blkG sn (rfi (rd q) (ri q)) (rd q) lim i)), (0, .ref mo), (1, .int (nI q))] → W p l e (headSpec wsX7_blocked ({ frames := 1, cells := 0, slots := 0, locals := 22 } : Room)).room s m args below meth c s.heap [] 0 0 QQ (F0 m 4 ls []) := by
    intro k9
    induction k9 with
    | zero =>
      intro i hik ls hl
      obtain rfl : 20 = i := by omega
      refine lv_iload_n hx hb dX7_blocked_4 rfl (lv_at hl 0 rfl) ?_
      refine lv_bipush (v := nI 20) hx hb dX7_blocked_5 (by decide) ?_
      refine lv_icmp_ge (tgt := 42) hx hb dX7_blocked_7 (by decide) (fun cz7 => ?_) (fun cz7 => by exact (cz7 (nI_le (Nat.le_refl _) (by omega))).elim)
      refine lv_iload_n hx hb dX7_blocked_42 rfl (lv_at hl 1 rfl) ?_
      subst hQ
      exact W.iret (v := blkG sn (rfi (rd q) (ri q)) (rd q) lim 20) hx hb hr (fun t ht hW => ⟨blkG sn (rfi (rd q) (ri q)) (rd q) lim 20, rfl, rfl, ht⟩) (fun q hq => absurd hq List.not_mem_nil) dX7_blocked_43
    | succ k9 ih_4 =>
      intro i hik ls hl
      refine lv_iload_n hx hb dX7_blocked_4 rfl (lv_at hl 0 rfl) ?_
      refine lv_bipush (v := nI 20) hx hb dX7_blocked_5 (by decide) ?_
      refine lv_icmp_ge (tgt := 42) hx hb dX7_blocked_7 (by decide) (fun cz7 => by exact (nI_ge (by omega) (by omega) cz7).elim) (fun cz7 => ?_)
      refine lv_iload_n hx hb dX7_blocked_10 rfl (lv_at hl 1 rfl) ?_
      refine lv_aload_n hx hb dX7_blocked_11 rfl (lv_at hl 2 rfl) ?_
      refine z_get (C := RX7) (T := TX7) (N := 14) (ci := 8) (v := .ref ms9) X J hi_X7 11 Fa0 rfl 11 (by decide) (by decide +kernel) rfl dX7_blocked_12 ?_
      refine lv_aload_n hx hb dX7_blocked_15 rfl (lv_at hl 2 rfl) ?_
      refine lv_iload_n hx hb dX7_blocked_16 rfl (lv_at hl 3 rfl) ?_
      refine lv_iload_n hx hb dX7_blocked_17 rfl (lv_at hl 0 rfl) ?_
      refine z_cr (z_rV (As := [.int (nI q), .int (nI i)]) (rest := [.ref ms9, .int (blkG sn (rfi (rd q) (ri q)) (rd q) lim i)]) (ci := 8) (q0 := 11) X J (cX7_cellOf_ok l E Fa0 Fa1 Fa2 (by omega) hokr.1) (cwV 2 hts gX7_blocked_X7_cellOf rfl rfl rfl (by decide +kernel) ⟨Nat.le_of_ble_eq_true rfl, Nat.le_of_ble_eq_true rfl⟩) Fa0 rfl rfl rfl hl.1 rfl (Nat.le_of_ble_eq_true rfl) dX7_blocked_18 ⟨Nat.le_of_ble_eq_true rfl, Nat.le_of_ble_eq_true rfl⟩) (fun r18 e_r18 => ?_)
      subst e_r18
      refine z_iald X J 15 Fa3 (hokr.vp (by omega)) dX7_blocked_21 ?_
      refine W.eq (g2 := F0 m 22 ls [.int (gd sn (cellAt (rfi (rd q) (ri q)) (rd q) i)), .int (blkG sn (rfi (rd q) (ri q)) (rd q) lim i)]) (congrArg (fun z9 : Int32 => F0 m 22 ls [.int z9, .int (blkG sn (rfi (rd q) (ri q)) (rd q) lim i)]) (show (sn (cellAt (rfi (rd q) (ri q)) (rd q) i).toNatClampNeg : Int32) = gd sn (cellAt (rfi (rd q) (ri q)) (rd q) i) from (gd_vp (hokr.vp (by omega))))) ?_
      refine lv_aload_n hx hb dX7_blocked_22 rfl (lv_at hl 2 rfl) ?_
      refine z_get (C := RX7) (T := TX7) (N := 14) (ci := 8) (v := .int lim) X J hi_X7 11 Fa0 rfl 6 (by decide) (by decide +kernel) rfl dX7_blocked_23 ?_
      refine lv_icmp_lt (tgt := 33) hx hb dX7_blocked_26 (by decide) (fun cz26 => ?_) (fun cz26 => ?_)
      · refine lv_iconst (v := 0) hx hb dX7_blocked_33 (by decide) ?_
        refine lv_iadd hx hb dX7_blocked_34 ?_
        refine lv_istore_n (lv' := [(2, .int ((blkG sn (rfi (rd q) (ri q)) (rd q) lim i) + 0)), (3, .int (nI i)), (0, .ref mo), (1, .int (nI q))]) hx hb dX7_blocked_35 rfl hl (by decide) rfl (fun ls hl => ?_)
        refine lv_iinc (v := nI (i + 1)) (lv' := [(3, .int (nI (i + 1))), (2, .int ((blkG sn (rfi (rd q) (ri q)) (rd q) lim i) + 0)), (0, .ref mo), (1, .int (nI q))]) hx hb dX7_blocked_36 hl (k := 1) rfl (nI_1 i) (by decide) rfl (fun ls hl => ?_)
        refine lv_goto (tgt := 4) hx hb dX7_blocked_39 (by decide) ?_
        have hl : lv_has ls 4 [(3, .int (nI (i + 1))), (2, .int (blkG sn (rfi (rd q) (ri q)) (rd q) lim (i + 1))), (0, .ref mo), (1, .int (nI q))] := lv_repl hl (congrArg (fun z9 : Int32 => ([(3, .int (nI (i + 1))), (2, .int z9), (0, .ref mo), (1, .int (nI q))] : List (Nat × Value))) (show ((blkG sn (rfi (rd q) (ri q)) (rd q) lim i) + 0 : Int32) = blkG sn (rfi (rd q) (ri q)) (rd q) lim (i + 1) from (by rw [show blkG sn (rfi (rd q) (ri q)) (rd q) lim (i + 1) = _ from if_pos cz26]; exact Int32.add_zero _)))
        exact ih_4 (i + 1) (by omega) _ (lv_sub hl [0, 1, 2, 3] rfl)
      · refine lv_iconst (v := 1) hx hb dX7_blocked_29 (by decide) ?_
        refine lv_goto (tgt := 34) hx hb dX7_blocked_30 (by decide) ?_
        refine lv_iadd hx hb dX7_blocked_34 ?_
        refine lv_istore_n (lv' := [(2, .int ((blkG sn (rfi (rd q) (ri q)) (rd q) lim i) + 1)), (3, .int (nI i)), (0, .ref mo), (1, .int (nI q))]) hx hb dX7_blocked_35 rfl hl (by decide) rfl (fun ls hl => ?_)
        refine lv_iinc (v := nI (i + 1)) (lv' := [(3, .int (nI (i + 1))), (2, .int ((blkG sn (rfi (rd q) (ri q)) (rd q) lim i) + 1)), (0, .ref mo), (1, .int (nI q))]) hx hb dX7_blocked_36 hl (k := 1) rfl (nI_1 i) (by decide) rfl (fun ls hl => ?_)
        refine lv_goto (tgt := 4) hx hb dX7_blocked_39 (by decide) ?_
        have hl : lv_has ls 4 [(3, .int (nI (i + 1))), (2, .int (blkG sn (rfi (rd q) (ri q)) (rd q) lim (i + 1))), (0, .ref mo), (1, .int (nI q))] := lv_repl hl (congrArg (fun z9 : Int32 => ([(3, .int (nI (i + 1))), (2, .int z9), (0, .ref mo), (1, .int (nI q))] : List (Nat × Value))) (show ((blkG sn (rfi (rd q) (ri q)) (rd q) lim i) + 1 : Int32) = blkG sn (rfi (rd q) (ri q)) (rd q) lim (i + 1) from (by rw [show blkG sn (rfi (rd q) (ri q)) (rd q) lim (i + 1) = _ from if_neg cz26])))
        exact ih_4 (i + 1) (by omega) _ (lv_sub hl [0, 1, 2, 3] rfl)
  exact loop_4 20 0 (by omega) _ (lv_sub hl [0, 1, 2, 3] rfl)
set_option maxHeartbeats 4000000 in
set_option maxRecDepth 100000 in
theorem cX7_onRoad_ok (l : Launch) (E : zG) {ws : va_W} {mo mf md mi ms9 mk mt nf nr : Nat} {th lim sup off plo hrs : Int32} {rd ri sn : Nat → Int32} {q : Nat} (Fa0 : ws[11]? = some (mo, .inr (8, [.int th, .int (nI nf), .ref mf, .int (nI nr), .ref md, .ref mi, .int lim, .int sup, .int off, .int plo, .int hrs, .ref ms9, .ref mk, .ref mt]))) (Fa1 : ws[13]? = some (md, zI4 E 4 rd)) (Fa2 : ws[14]? = some (mi, zI4 E 4 ri)) (Fa3 : ws[15]? = some (ms9, zI4 E 400 sn)) (hq9 : q < 4) (hokr : okR rd ri q) : Met l yX7_onRoad wsX7_onRoad ({ frames := 1, cells := 0, slots := 0, locals := 22 } : Room) (va_Pc [.ref mo, .int (nI q)] (zI E ws)) (vp_Si (fun r : Int32 => r = sumG sn (rfi (rd q) (ri q)) (rd q) 20)) 0 0 (fun _ => False) := by
  refine Met.ofW (cc := cX7_onRoad) (maxL := 4) (ret := (some .int)) (by decide) rfl ?_
  intro p e s m args below meth c s₁ B hml hv
  obtain ⟨hargs9, hI⟩ := hv
  have hx := B.exec
  have hb := B.bytes
  have hr := B.returns
  have hlocks := B.notSynchronized
  have X : zC E p m c cX7_onRoad 4 s args wsX7_onRoad RX7 := z_open B hml hI
  have hown := X.1.2.2.2.1
  have hts := X.1.2.2.2.2
  have J := hI.J
  have hi_X7 : ∀ w ∈ wsX70, w ∈ wsX7_onRoad := by decide +kernel
  have hl := lv_entry ([.ref mo, .int (nI q)]) (n := 4) (Nat.le_of_ble_eq_true rfl)
  rw [show entryFrame m args 4 = entryFrame m ([.ref mo, .int (nI q)] : List Value).toArray 4 from by rw [hargs9], lg_entry_eq]
  generalize (lg_sl ([.ref mo, .int (nI q)]) ++ List.replicate (4 - (lg_sl ([.ref mo, .int (nI q)])).length) Slot.unset).toArray = ls at hl ⊢
  have hl : lv_has ls 4 [(0, .ref mo), (1, .int (nI q))] := hl
  generalize hQ : (MQ below (vp_Si (fun r : Int32 => r = sumG sn (rfi (rd q) (ri q)) (rd q) 20)) args s 0 0 (fun _ => False)) = QQ
  refine lv_iconst (v := sumG sn (rfi (rd q) (ri q)) (rd q) 0) hx hb dX7_onRoad_0 rfl ?_
  refine lv_istore_n (lv' := [(2, .int (sumG sn (rfi (rd q) (ri q)) (rd q) 0)), (0, .ref mo), (1, .int (nI q))]) hx hb dX7_onRoad_1 rfl hl (by decide) rfl (fun ls hl => ?_)
  refine lv_iconst (v := nI 0) hx hb dX7_onRoad_2 rfl ?_
  refine lv_istore_n (lv' := [(3, .int (nI 0)), (2, .int (sumG sn (rfi (rd q) (ri q)) (rd q) 0)), (0, .ref mo), (1, .int (nI q))]) hx hb dX7_onRoad_3 rfl hl (by decide) rfl (fun ls hl => ?_)
  have loop_4 : ∀ (k9 i : Nat), i + k9 = 20 → ∀ (ls : Array Slot), lv_has ls 4 [(3, .int (nI i)), (2, .int (sumG sn (rfi (rd q) (ri q)) (rd q) i)), (0, .ref mo), (1, .int (nI q))] → W p l e (headSpec wsX7_onRoad ({ frames := 1, cells := 0, slots := 0, locals := 22 } : Room)).room s m args below meth c s.heap [] 0 0 QQ (F0 m 4 ls []) := by
    intro k9
    induction k9 with
    | zero =>
      intro i hik ls hl
      obtain rfl : 20 = i := by omega
      refine lv_iload_n hx hb dX7_onRoad_4 rfl (lv_at hl 0 rfl) ?_
      refine lv_bipush (v := nI 20) hx hb dX7_onRoad_5 (by decide) ?_
      refine lv_icmp_ge (tgt := 30) hx hb dX7_onRoad_7 (by decide) (fun cz7 => ?_) (fun cz7 => by exact (cz7 (nI_le (Nat.le_refl _) (by omega))).elim)
      refine lv_iload_n hx hb dX7_onRoad_30 rfl (lv_at hl 1 rfl) ?_
      subst hQ
      exact W.iret (v := sumG sn (rfi (rd q) (ri q)) (rd q) 20) hx hb hr (fun t ht hW => ⟨sumG sn (rfi (rd q) (ri q)) (rd q) 20, rfl, rfl, ht⟩) (fun q hq => absurd hq List.not_mem_nil) dX7_onRoad_31
    | succ k9 ih_4 =>
      intro i hik ls hl
      refine lv_iload_n hx hb dX7_onRoad_4 rfl (lv_at hl 0 rfl) ?_
      refine lv_bipush (v := nI 20) hx hb dX7_onRoad_5 (by decide) ?_
      refine lv_icmp_ge (tgt := 30) hx hb dX7_onRoad_7 (by decide) (fun cz7 => by exact (nI_ge (by omega) (by omega) cz7).elim) (fun cz7 => ?_)
      refine lv_iload_n hx hb dX7_onRoad_10 rfl (lv_at hl 1 rfl) ?_
      refine lv_aload_n hx hb dX7_onRoad_11 rfl (lv_at hl 2 rfl) ?_
      refine z_get (C := RX7) (T := TX7) (N := 14) (ci := 8) (v := .ref ms9) X J hi_X7 11 Fa0 rfl 11 (by decide) (by decide +kernel) rfl dX7_onRoad_12 ?_
      refine lv_aload_n hx hb dX7_onRoad_15 rfl (lv_at hl 2 rfl) ?_
      refine lv_iload_n hx hb dX7_onRoad_16 rfl (lv_at hl 3 rfl) ?_
      refine lv_iload_n hx hb dX7_onRoad_17 rfl (lv_at hl 0 rfl) ?_
      refine z_cr (z_rV (As := [.int (nI q), .int (nI i)]) (rest := [.ref ms9, .int (sumG sn (rfi (rd q) (ri q)) (rd q) i)]) (ci := 8) (q0 := 11) X J (cX7_cellOf_ok l E Fa0 Fa1 Fa2 (by omega) hokr.1) (cwV 2 hts gX7_onRoad_X7_cellOf rfl rfl rfl (by decide +kernel) ⟨Nat.le_of_ble_eq_true rfl, Nat.le_of_ble_eq_true rfl⟩) Fa0 rfl rfl rfl hl.1 rfl (Nat.le_of_ble_eq_true rfl) dX7_onRoad_18 ⟨Nat.le_of_ble_eq_true rfl, Nat.le_of_ble_eq_true rfl⟩) (fun r18 e_r18 => ?_)
      subst e_r18
      refine z_iald X J 15 Fa3 (hokr.vp (by omega)) dX7_onRoad_21 ?_
      refine W.eq (g2 := F0 m 22 ls [.int (gd sn (cellAt (rfi (rd q) (ri q)) (rd q) i)), .int (sumG sn (rfi (rd q) (ri q)) (rd q) i)]) (congrArg (fun z9 : Int32 => F0 m 22 ls [.int z9, .int (sumG sn (rfi (rd q) (ri q)) (rd q) i)]) (show (sn (cellAt (rfi (rd q) (ri q)) (rd q) i).toNatClampNeg : Int32) = gd sn (cellAt (rfi (rd q) (ri q)) (rd q) i) from (gd_vp (hokr.vp (by omega))))) ?_
      refine lv_iadd hx hb dX7_onRoad_22 ?_
      refine lv_istore_n (lv' := [(2, .int ((sumG sn (rfi (rd q) (ri q)) (rd q) i) + (gd sn (cellAt (rfi (rd q) (ri q)) (rd q) i)))), (3, .int (nI i)), (0, .ref mo), (1, .int (nI q))]) hx hb dX7_onRoad_23 rfl hl (by decide) rfl (fun ls hl => ?_)
      refine lv_iinc (v := nI (i + 1)) (lv' := [(3, .int (nI (i + 1))), (2, .int ((sumG sn (rfi (rd q) (ri q)) (rd q) i) + (gd sn (cellAt (rfi (rd q) (ri q)) (rd q) i)))), (0, .ref mo), (1, .int (nI q))]) hx hb dX7_onRoad_24 hl (k := 1) rfl (nI_1 i) (by decide) rfl (fun ls hl => ?_)
      refine lv_goto (tgt := 4) hx hb dX7_onRoad_27 (by decide) ?_
      exact ih_4 (i + 1) (by omega) _ (lv_sub hl [0, 1, 2, 3] rfl)
  exact loop_4 20 0 (by omega) _ (lv_sub hl [0, 1, 2, 3] rfl)
set_option maxHeartbeats 4000000 in
set_option maxRecDepth 100000 in
theorem cX7_deepest_ok (l : Launch) (E : zG) {ws : va_W} {mo mf md mi ms9 mk mt nf nr : Nat} {th lim sup off plo hrs : Int32} {rd ri sn : Nat → Int32} {q : Nat} (Fa0 : ws[11]? = some (mo, .inr (8, [.int th, .int (nI nf), .ref mf, .int (nI nr), .ref md, .ref mi, .int lim, .int sup, .int off, .int plo, .int hrs, .ref ms9, .ref mk, .ref mt]))) (Fa1 : ws[13]? = some (md, zI4 E 4 rd)) (Fa2 : ws[14]? = some (mi, zI4 E 4 ri)) (Fa3 : ws[15]? = some (ms9, zI4 E 400 sn)) (hq9 : q < 4) (hokr : okR rd ri q) : Met l yX7_deepest wsX7_deepest ({ frames := 1, cells := 0, slots := 0, locals := 22 } : Room) (va_Pc [.ref mo, .int (nI q)] (zI E ws)) (vp_Si (fun r : Int32 => r = mostG sn (rfi (rd q) (ri q)) (rd q) 20)) 0 0 (fun _ => False) := by
  refine Met.ofW (cc := cX7_deepest) (maxL := 4) (ret := (some .int)) (by decide) rfl ?_
  intro p e s m args below meth c s₁ B hml hv
  obtain ⟨hargs9, hI⟩ := hv
  have hx := B.exec
  have hb := B.bytes
  have hr := B.returns
  have hlocks := B.notSynchronized
  have X : zC E p m c cX7_deepest 4 s args wsX7_deepest RX7 := z_open B hml hI
  have hown := X.1.2.2.2.1
  have hts := X.1.2.2.2.2
  have J := hI.J
  have hi_X7 : ∀ w ∈ wsX70, w ∈ wsX7_deepest := by decide +kernel
  have hl := lv_entry ([.ref mo, .int (nI q)]) (n := 4) (Nat.le_of_ble_eq_true rfl)
  rw [show entryFrame m args 4 = entryFrame m ([.ref mo, .int (nI q)] : List Value).toArray 4 from by rw [hargs9], lg_entry_eq]
  generalize (lg_sl ([.ref mo, .int (nI q)]) ++ List.replicate (4 - (lg_sl ([.ref mo, .int (nI q)])).length) Slot.unset).toArray = ls at hl ⊢
  have hl : lv_has ls 4 [(0, .ref mo), (1, .int (nI q))] := hl
  generalize hQ : (MQ below (vp_Si (fun r : Int32 => r = mostG sn (rfi (rd q) (ri q)) (rd q) 20)) args s 0 0 (fun _ => False)) = QQ
  refine lv_iconst (v := mostG sn (rfi (rd q) (ri q)) (rd q) 0) hx hb dX7_deepest_0 rfl ?_
  refine lv_istore_n (lv' := [(2, .int (mostG sn (rfi (rd q) (ri q)) (rd q) 0)), (0, .ref mo), (1, .int (nI q))]) hx hb dX7_deepest_1 rfl hl (by decide) rfl (fun ls hl => ?_)
  refine lv_iconst (v := nI 0) hx hb dX7_deepest_2 rfl ?_
  refine lv_istore_n (lv' := [(3, .int (nI 0)), (2, .int (mostG sn (rfi (rd q) (ri q)) (rd q) 0)), (0, .ref mo), (1, .int (nI q))]) hx hb dX7_deepest_3 rfl hl (by decide) rfl (fun ls hl => ?_)
  have loop_4 : ∀ (k9 i : Nat), i + k9 = 20 → ∀ (ls : Array Slot), lv_has ls 4 [(3, .int (nI i)), (2, .int (mostG sn (rfi (rd q) (ri q)) (rd q) i)), (0, .ref mo), (1, .int (nI q))] → W p l e (headSpec wsX7_deepest ({ frames := 1, cells := 0, slots := 0, locals := 22 } : Room)).room s m args below meth c s.heap [] 0 0 QQ (F0 m 4 ls []) := by
    intro k9
    induction k9 with
    | zero =>
      intro i hik ls hl
      obtain rfl : 20 = i := by omega
      refine lv_iload_n hx hb dX7_deepest_4 rfl (lv_at hl 0 rfl) ?_
      refine lv_bipush (v := nI 20) hx hb dX7_deepest_5 (by decide) ?_
      refine lv_icmp_ge (tgt := 32) hx hb dX7_deepest_7 (by decide) (fun cz7 => ?_) (fun cz7 => by exact (cz7 (nI_le (Nat.le_refl _) (by omega))).elim)
      refine lv_iload_n hx hb dX7_deepest_32 rfl (lv_at hl 1 rfl) ?_
      subst hQ
      exact W.iret (v := mostG sn (rfi (rd q) (ri q)) (rd q) 20) hx hb hr (fun t ht hW => ⟨mostG sn (rfi (rd q) (ri q)) (rd q) 20, rfl, rfl, ht⟩) (fun q hq => absurd hq List.not_mem_nil) dX7_deepest_33
    | succ k9 ih_4 =>
      intro i hik ls hl
      refine lv_iload_n hx hb dX7_deepest_4 rfl (lv_at hl 0 rfl) ?_
      refine lv_bipush (v := nI 20) hx hb dX7_deepest_5 (by decide) ?_
      refine lv_icmp_ge (tgt := 32) hx hb dX7_deepest_7 (by decide) (fun cz7 => by exact (nI_ge (by omega) (by omega) cz7).elim) (fun cz7 => ?_)
      refine lv_iload_n hx hb dX7_deepest_10 rfl (lv_at hl 1 rfl) ?_
      refine lv_aload_n hx hb dX7_deepest_11 rfl (lv_at hl 2 rfl) ?_
      refine z_get (C := RX7) (T := TX7) (N := 14) (ci := 8) (v := .ref ms9) X J hi_X7 11 Fa0 rfl 11 (by decide) (by decide +kernel) rfl dX7_deepest_12 ?_
      refine lv_aload_n hx hb dX7_deepest_15 rfl (lv_at hl 2 rfl) ?_
      refine lv_iload_n hx hb dX7_deepest_16 rfl (lv_at hl 3 rfl) ?_
      refine lv_iload_n hx hb dX7_deepest_17 rfl (lv_at hl 0 rfl) ?_
      refine z_cr (z_rV (As := [.int (nI q), .int (nI i)]) (rest := [.ref ms9, .int (mostG sn (rfi (rd q) (ri q)) (rd q) i)]) (ci := 8) (q0 := 11) X J (cX7_cellOf_ok l E Fa0 Fa1 Fa2 (by omega) hokr.1) (cwV 2 hts gX7_deepest_X7_cellOf rfl rfl rfl (by decide +kernel) ⟨Nat.le_of_ble_eq_true rfl, Nat.le_of_ble_eq_true rfl⟩) Fa0 rfl rfl rfl hl.1 rfl (Nat.le_of_ble_eq_true rfl) dX7_deepest_18 ⟨Nat.le_of_ble_eq_true rfl, Nat.le_of_ble_eq_true rfl⟩) (fun r18 e_r18 => ?_)
      subst e_r18
      refine z_iald X J 15 Fa3 (hokr.vp (by omega)) dX7_deepest_21 ?_
      refine W.eq (g2 := F0 m 22 ls [.int (gd sn (cellAt (rfi (rd q) (ri q)) (rd q) i)), .int (mostG sn (rfi (rd q) (ri q)) (rd q) i)]) (congrArg (fun z9 : Int32 => F0 m 22 ls [.int z9, .int (mostG sn (rfi (rd q) (ri q)) (rd q) i)]) (show (sn (cellAt (rfi (rd q) (ri q)) (rd q) i).toNatClampNeg : Int32) = gd sn (cellAt (rfi (rd q) (ri q)) (rd q) i) from (gd_vp (hokr.vp (by omega))))) ?_
      refine va_mmax hx hb (X.1.2.2.1.trans hl.1.symm) hown (hts (.methodLink RX7 60 Lib.Math.max.name) (by decide +kernel)) (hts (.static Lib.Math.max.name) (by decide +kernel)) (hts (.initialized "java/lang/Math") (by decide +kernel)) (hts (.code Lib.Math.max.name Lib.Math.max.code 2 (some .int)) (by decide +kernel)) (Nat.le_of_ble_eq_true rfl) (Nat.le_of_ble_eq_true rfl) (Nat.le_of_ble_eq_true rfl) (Nat.le_of_ble_eq_true rfl) dX7_deepest_22 ?_
      refine W.eq (g2 := F0 m 25 ls [.int (mx (mostG sn (rfi (rd q) (ri q)) (rd q) i) (gd sn (cellAt (rfi (rd q) (ri q)) (rd q) i)))]) rfl ?_
      refine lv_istore_n (lv' := [(2, .int (mx (mostG sn (rfi (rd q) (ri q)) (rd q) i) (gd sn (cellAt (rfi (rd q) (ri q)) (rd q) i)))), (3, .int (nI i)), (0, .ref mo), (1, .int (nI q))]) hx hb dX7_deepest_25 rfl hl (by decide) rfl (fun ls hl => ?_)
      refine lv_iinc (v := nI (i + 1)) (lv' := [(3, .int (nI (i + 1))), (2, .int (mx (mostG sn (rfi (rd q) (ri q)) (rd q) i) (gd sn (cellAt (rfi (rd q) (ri q)) (rd q) i)))), (0, .ref mo), (1, .int (nI q))]) hx hb dX7_deepest_26 hl (k := 1) rfl (nI_1 i) (by decide) rfl (fun ls hl => ?_)
      refine lv_goto (tgt := 4) hx hb dX7_deepest_29 (by decide) ?_
      exact ih_4 (i + 1) (by omega) _ (lv_sub hl [0, 1, 2, 3] rfl)
  exact loop_4 20 0 (by omega) _ (lv_sub hl [0, 1, 2, 3] rfl)
set_option maxHeartbeats 4000000 in
set_option maxRecDepth 100000 in
theorem cX7_allBlocked_ok (l : Launch) (E : zG) {ws : va_W} {mo mf md mi ms9 mk mt nf nr : Nat} {th lim sup off plo hrs : Int32} {rd ri sn : Nat → Int32} (Fa0 : ws[11]? = some (mo, .inr (8, [.int th, .int (nI nf), .ref mf, .int (nI nr), .ref md, .ref mi, .int lim, .int sup, .int off, .int plo, .int hrs, .ref ms9, .ref mk, .ref mt]))) (Fa1 : ws[13]? = some (md, zI4 E 4 rd)) (Fa2 : ws[14]? = some (mi, zI4 E 4 ri)) (Fa3 : ws[15]? = some (ms9, zI4 E 400 sn)) (hnr : nr ≤ 4) (hor : ∀ q, q < nr → okR rd ri q) : Met l yX7_allBlocked wsX7_allBlocked ({ frames := 2, cells := 0, slots := 0, locals := 45 } : Room) (va_Pc [.ref mo] (zI E ws)) (vp_Si (fun r : Int32 => r = allB sn rd ri lim nr)) 0 0 (fun _ => False) := by
  refine Met.ofW (cc := cX7_allBlocked) (maxL := 3) (ret := (some .int)) (by decide) rfl ?_
  intro p e s m args below meth c s₁ B hml hv
  obtain ⟨hargs9, hI⟩ := hv
  have hx := B.exec
  have hb := B.bytes
  have hr := B.returns
  have hlocks := B.notSynchronized
  have X : zC E p m c cX7_allBlocked 3 s args wsX7_allBlocked RX7 := z_open B hml hI
  have hown := X.1.2.2.2.1
  have hts := X.1.2.2.2.2
  have J := hI.J
  have hi_X7 : ∀ w ∈ wsX70, w ∈ wsX7_allBlocked := by decide +kernel
  have hl := lv_entry ([.ref mo]) (n := 3) (Nat.le_of_ble_eq_true rfl)
  rw [show entryFrame m args 3 = entryFrame m ([.ref mo] : List Value).toArray 3 from by rw [hargs9], lg_entry_eq]
  generalize (lg_sl ([.ref mo]) ++ List.replicate (3 - (lg_sl ([.ref mo])).length) Slot.unset).toArray = ls at hl ⊢
  have hl : lv_has ls 3 [(0, .ref mo)] := hl
  generalize hQ : (MQ below (vp_Si (fun r : Int32 => r = allB sn rd ri lim nr)) args s 0 0 (fun _ => False)) = QQ
  refine lv_iconst (v := allB sn rd ri lim 0) hx hb dX7_allBlocked_0 rfl ?_
  refine lv_istore_n (lv' := [(1, .int (allB sn rd ri lim 0)), (0, .ref mo)]) hx hb dX7_allBlocked_1 rfl hl (by decide) rfl (fun ls hl => ?_)
  refine lv_iconst (v := nI 0) hx hb dX7_allBlocked_2 rfl ?_
  refine lv_istore_n (lv' := [(2, .int (nI 0)), (1, .int (allB sn rd ri lim 0)), (0, .ref mo)]) hx hb dX7_allBlocked_3 rfl hl (by decide) rfl (fun ls hl => ?_)
  have loop_4 : ∀ (k9 i : Nat), i + k9 = nr → ∀ (ls : Array Slot), lv_has ls 3 [(2, .int (nI i)), (1, .int (allB sn rd ri lim i)), (0, .ref mo)] → W p l e (headSpec wsX7_allBlocked ({ frames := 2, cells := 0, slots := 0, locals := 45 } : Room)).room s m args below meth c s.heap [] 0 0 QQ (F0 m 4 ls []) := by
    intro k9
    induction k9 with
    | zero =>
      intro i hik ls hl
      obtain rfl : nr = i := by omega
      refine lv_iload_n hx hb dX7_allBlocked_4 rfl (lv_at hl 0 rfl) ?_
      refine lv_aload_n hx hb dX7_allBlocked_5 rfl (lv_at hl 2 rfl) ?_
      refine z_get (C := RX7) (T := TX7) (N := 14) (ci := 8) (v := .int (nI nr)) X J hi_X7 11 Fa0 rfl 3 (by decide) (by decide +kernel) rfl dX7_allBlocked_6 ?_
      refine lv_icmp_ge (tgt := 26) hx hb dX7_allBlocked_9 (by decide) (fun cz9 => ?_) (fun cz9 => by exact (cz9 (nI_le (Nat.le_refl _) (by omega))).elim)
      refine lv_iload_n hx hb dX7_allBlocked_26 rfl (lv_at hl 1 rfl) ?_
      subst hQ
      exact W.iret (v := allB sn rd ri lim nr) hx hb hr (fun t ht hW => ⟨allB sn rd ri lim nr, rfl, rfl, ht⟩) (fun q hq => absurd hq List.not_mem_nil) dX7_allBlocked_27
    | succ k9 ih_4 =>
      intro i hik ls hl
      refine lv_iload_n hx hb dX7_allBlocked_4 rfl (lv_at hl 0 rfl) ?_
      refine lv_aload_n hx hb dX7_allBlocked_5 rfl (lv_at hl 2 rfl) ?_
      refine z_get (C := RX7) (T := TX7) (N := 14) (ci := 8) (v := .int (nI nr)) X J hi_X7 11 Fa0 rfl 3 (by decide) (by decide +kernel) rfl dX7_allBlocked_6 ?_
      refine lv_icmp_ge (tgt := 26) hx hb dX7_allBlocked_9 (by decide) (fun cz9 => by exact (nI_ge (by omega) (by omega) cz9).elim) (fun cz9 => ?_)
      refine lv_iload_n hx hb dX7_allBlocked_12 rfl (lv_at hl 1 rfl) ?_
      refine lv_aload_n hx hb dX7_allBlocked_13 rfl (lv_at hl 2 rfl) ?_
      refine lv_iload_n hx hb dX7_allBlocked_14 rfl (lv_at hl 0 rfl) ?_
      refine z_cr (z_rV (As := [.int (nI i)]) (rest := [.int (allB sn rd ri lim i)]) (ci := 8) (q0 := 11) X J (cX7_blocked_ok l E Fa0 Fa1 Fa2 Fa3 (by omega) (hor i (by omega))) (cwV 1 hts gX7_allBlocked_X7_blocked rfl rfl rfl (by decide +kernel) ⟨Nat.le_of_ble_eq_true rfl, Nat.le_of_ble_eq_true rfl⟩) Fa0 rfl rfl rfl hl.1 rfl (Nat.le_of_ble_eq_true rfl) dX7_allBlocked_15 ⟨Nat.le_of_ble_eq_true rfl, Nat.le_of_ble_eq_true rfl⟩) (fun r15 e_r15 => ?_)
      subst e_r15
      refine lv_iadd hx hb dX7_allBlocked_18 ?_
      refine lv_istore_n (lv' := [(1, .int ((allB sn rd ri lim i) + (blkG sn (rfi (rd i) (ri i)) (rd i) lim 20))), (2, .int (nI i)), (0, .ref mo)]) hx hb dX7_allBlocked_19 rfl hl (by decide) rfl (fun ls hl => ?_)
      refine lv_iinc (v := nI (i + 1)) (lv' := [(2, .int (nI (i + 1))), (1, .int ((allB sn rd ri lim i) + (blkG sn (rfi (rd i) (ri i)) (rd i) lim 20))), (0, .ref mo)]) hx hb dX7_allBlocked_20 hl (k := 1) rfl (nI_1 i) (by decide) rfl (fun ls hl => ?_)
      refine lv_goto (tgt := 4) hx hb dX7_allBlocked_23 (by decide) ?_
      exact ih_4 (i + 1) (by omega) _ (lv_sub hl [0, 1, 2] rfl)
  exact loop_4 nr 0 (by omega) _ (lv_sub hl [0, 1, 2] rfl)
set_option maxHeartbeats 4000000 in
set_option maxRecDepth 100000 in
theorem cX7_tried_ok (l : Launch) (E : zG) {ws : va_W} {mo mf md mi ms9 mk mt nf nr : Nat} {th lim sup off plo hrs : Int32} {fa rd ri sn kp tp : Nat → Int32} {many : Nat} {hf gf : Nat → Int32} {wd stg : Int32} (Fa0 : ws[11]? = some (mo, .inr (8, [.int th, .int (nI nf), .ref mf, .int (nI nr), .ref md, .ref mi, .int lim, .int sup, .int off, .int plo, .int hrs, .ref ms9, .ref mk, .ref mt]))) (Fa1 : ws[12]? = some (mf, zI4 E 66 fa)) (Fa2 : ws[13]? = some (md, zI4 E 4 rd)) (Fa3 : ws[14]? = some (mi, zI4 E 4 ri)) (Fa4 : ws[15]? = some (ms9, zI4 E 400 sn)) (Fa5 : ws[16]? = some (mk, zI4 E 400 kp)) (Fa6 : ws[17]? = some (mt, zI4 E 400 tp)) (htop : topR fa many tp hf gf) (hm9 : many ≤ 11) (hok : ∀ j, j < many → okF fa j) (hwd : wd = 0 ∨ wd = 1 ∨ wd = 2 ∨ wd = 3) (hnr : nr ≤ 4) (hor : ∀ q, q < nr → okR rd ri q) : Met l yX7_tried wsX7_tried ({ frames := 4, cells := 0, slots := 0, locals := 106 } : Room) (va_Pc [.ref mo, .int wd, .int stg] (zI E ws)) (va_Qi (fun (r : Int32) (ws' : va_W) => (zK [15, 16] ws ws') ∧ (ws'[15]? = some (ms9, zI4 E 400 sn)) ∧ (ws'[16]? = some (mk, zI4 E 400 sn)) ∧ (r = allB (hsS stg sup hf gf wd sn 4).2.1 rd ri lim nr)) (zI E) (zA E)) 0 0 (zA E) := by
  refine Met.ofW (cc := cX7_tried) (maxL := 4) (ret := (some .int)) (by decide) rfl ?_
  intro p e s m args below meth c s₁ B hml hv
  obtain ⟨hargs9, hI⟩ := hv
  have hx := B.exec
  have hb := B.bytes
  have hr := B.returns
  have hlocks := B.notSynchronized
  have X : zC E p m c cX7_tried 4 s args wsX7_tried RX7 := z_open B hml hI
  have hown := X.1.2.2.2.1
  have hts := X.1.2.2.2.2
  have J := hI.J
  have hk : zK [15, 16] ws ws := zK.rf
  have hl := lv_entry ([.ref mo, .int wd, .int stg]) (n := 4) (Nat.le_of_ble_eq_true rfl)
  rw [show entryFrame m args 4 = entryFrame m ([.ref mo, .int wd, .int stg] : List Value).toArray 4 from by rw [hargs9], lg_entry_eq]
  generalize (lg_sl ([.ref mo, .int wd, .int stg]) ++ List.replicate (4 - (lg_sl ([.ref mo, .int wd, .int stg])).length) Slot.unset).toArray = ls at hl ⊢
  have hl : lv_has ls 4 [(0, .ref mo), (1, .int wd), (2, .int stg)] := hl
  generalize hQ : (MQ below (va_Qi (fun (r : Int32) (ws' : va_W) => (zK [15, 16] ws ws') ∧ (ws'[15]? = some (ms9, zI4 E 400 sn)) ∧ (ws'[16]? = some (mk, zI4 E 400 sn)) ∧ (r = allB (hsS stg sup hf gf wd sn 4).2.1 rd ri lim nr)) (zI E) (zA E)) args s 0 0 (zA E)) = QQ
  refine lv_aload_n hx hb dX7_tried_0 rfl (lv_at hl 0 rfl) ?_
  refine z_cv J (z_rV (As := []) (rest := []) (ci := 8) (q0 := 11) X J (cX7_keep_ok l E Fa0 Fa4 Fa5) (cwV 0 hts gX7_tried_X7_keep rfl rfl rfl (by decide +kernel) ⟨Nat.le_of_ble_eq_true rfl, Nat.le_of_ble_eq_true rfl⟩) Fa0 rfl rfl rfl hl.1 rfl (Nat.le_of_ble_eq_true rfl) dX7_tried_1 ⟨Nat.le_of_ble_eq_true rfl, Nat.le_of_ble_eq_true rfl⟩) (fun ws_1 H locs hp9 J => ?_)
  obtain ⟨k1, G1_a0⟩ := hp9
  have hk := hk.trans (k1.mono (by decide))
  have G1_0 := k1.2 11 _ (by decide) Fa0
  have G1_1 := k1.2 12 _ (by decide) Fa1
  have G1_2 := k1.2 13 _ (by decide) Fa2
  have G1_3 := k1.2 14 _ (by decide) Fa3
  have G1_4 := k1.2 15 _ (by decide) Fa4
  have G1_6 := k1.2 17 _ (by decide) Fa6
  refine lv_aload_n hx hb dX7_tried_4 rfl (lv_at hl 0 rfl) ?_
  refine lv_iload_n hx hb dX7_tried_5 rfl (lv_at hl 1 rfl) ?_
  refine lv_iload_n hx hb dX7_tried_6 rfl (lv_at hl 2 rfl) ?_
  refine lv_iconst (v := nI 4) hx hb dX7_tried_7 rfl ?_
  refine z_ci J (z_rV (As := [.int wd, .int stg, .int (nI 4)]) (rest := []) (ci := 8) (q0 := 11) X J (cX7_blown_ok l E G1_0 G1_1 G1_4 G1_6 htop hm9 hok hwd (by decide)) (cwV 3 hts gX7_tried_X7_blown rfl rfl rfl (by decide +kernel) ⟨Nat.le_of_ble_eq_true rfl, Nat.le_of_ble_eq_true rfl⟩) G1_0 rfl rfl rfl hl.1 rfl (Nat.le_of_ble_eq_true rfl) dX7_tried_8 ⟨Nat.le_of_ble_eq_true rfl, Nat.le_of_ble_eq_true rfl⟩) (fun r8 ws_2 H locs hp9 J => ?_)
  obtain ⟨k2, G2_a0, e_r8⟩ := hp9
  have hk := hk.trans (k2.mono (by decide))
  have G2_0 := k2.2 11 _ (by decide) G1_0
  have G2_1 := k2.2 12 _ (by decide) G1_1
  have G2_2 := k2.2 13 _ (by decide) G1_2
  have G2_3 := k2.2 14 _ (by decide) G1_3
  have G2_5 := k2.2 16 _ (by decide) G1_a0
  have G2_6 := k2.2 17 _ (by decide) G1_6
  subst e_r8
  refine lv_pop hx hb dX7_tried_11 rfl ?_
  refine lv_aload_n hx hb dX7_tried_12 rfl (lv_at hl 0 rfl) ?_
  refine z_cr (z_rV (As := []) (rest := []) (ci := 8) (q0 := 11) X J (cX7_allBlocked_ok l E G2_0 G2_2 G2_3 G2_a0 hnr hor) (cwV 0 hts gX7_tried_X7_allBlocked rfl rfl rfl (by decide +kernel) ⟨Nat.le_of_ble_eq_true rfl, Nat.le_of_ble_eq_true rfl⟩) G2_0 rfl rfl rfl hl.1 rfl (Nat.le_of_ble_eq_true rfl) dX7_tried_13 ⟨Nat.le_of_ble_eq_true rfl, Nat.le_of_ble_eq_true rfl⟩) (fun r13 e_r13 => ?_)
  subst e_r13
  refine lv_istore_n (lv' := [(3, .int (allB ((hsS stg sup hf gf wd sn 4).2.1) rd ri lim nr)), (0, .ref mo), (1, .int wd), (2, .int stg)]) hx hb dX7_tried_16 rfl hl (by decide) rfl (fun ls hl => ?_)
  refine lv_aload_n hx hb dX7_tried_17 rfl (lv_at hl 1 rfl) ?_
  refine z_cv J (z_rV (As := []) (rest := []) (ci := 8) (q0 := 11) X J (cX7_bringBack_ok l E G2_0 G2_a0 G2_5) (cwV 0 hts gX7_tried_X7_bringBack rfl rfl rfl (by decide +kernel) ⟨Nat.le_of_ble_eq_true rfl, Nat.le_of_ble_eq_true rfl⟩) G2_0 rfl rfl rfl hl.1 rfl (Nat.le_of_ble_eq_true rfl) dX7_tried_18 ⟨Nat.le_of_ble_eq_true rfl, Nat.le_of_ble_eq_true rfl⟩) (fun ws_3 H locs hp9 J => ?_)
  obtain ⟨k3, G3_a0⟩ := hp9
  have hk := hk.trans (k3.mono (by decide))
  have G3_0 := k3.2 11 _ (by decide) G2_0
  have G3_1 := k3.2 12 _ (by decide) G2_1
  have G3_2 := k3.2 13 _ (by decide) G2_2
  have G3_3 := k3.2 14 _ (by decide) G2_3
  have G3_5 := k3.2 16 _ (by decide) G2_5
  have G3_6 := k3.2 17 _ (by decide) G2_6
  refine lv_iload_n hx hb dX7_tried_21 rfl (lv_at hl 0 rfl) ?_
  subst hQ
  exact W.iret (v := allB ((hsS stg sup hf gf wd sn 4).2.1) rd ri lim nr) hx hb hr (fun t ht hW => ⟨⟨allB ((hsS stg sup hf gf wd sn 4).2.1) rd ri lim nr, ws_3, rfl, ⟨hk, G3_a0, G3_5, rfl⟩, J.I X ht hW.alike⟩, J.F ht⟩) J.locs dX7_tried_22
