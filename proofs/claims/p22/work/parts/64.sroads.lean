set_option maxHeartbeats 400000 in
set_option maxRecDepth 100000 in
theorem cX7_on_ok (l : Launch) (E : zG) {ws : va_W} {qz z fe ro sa : Nat} {lim sup off plo hrs : Int32} {qs b : Nat} {gs : Nat → Option Nat} {sn : Nat → Int32} {qr r1 x : Nat} {fr : Nat → Int32} {k : Nat} (Fa0 : ws[qz]? = some (z, .inr (8, [.ref fe, .ref ro, .ref sa, .int lim, .int sup, .int off, .int plo, .int hrs]))) (Fa1 : ws[qs]? = some (sa, zA4 E 20 gs)) (Fa2 : ws[qr]? = some (r1, zI4 E 2 fr)) (hSN : SN E ws b gs sn) (h01 : is01 (fr 0)) (hix : fr 1 = nI x) (hx2 : x < 20) (hk9 : k < 20) : Met l yX7_on wsX7_on ({ frames := 0, cells := 0, slots := 0, locals := 0 } : Room) (va_Pc [.ref z, .ref r1, .int (nI k)] (zI E ws)) (vp_Si (fun r : Int32 => r = gd sn (cellAt (rfi (fr 0) (fr 1)) (fr 0) k))) 0 0 (fun _ => False) := by
  refine Met.ofW (cc := cX7_on) (maxL := 3) (ret := (some .int)) (by decide) rfl ?_
  intro p e s m args below meth c s₁ B hml hv
  obtain ⟨hargs9, hI⟩ := hv
  have hx := B.exec
  have hb := B.bytes
  have hr := B.returns
  have hlocks := B.notSynchronized
  have X : zC E p m c cX7_on 3 s args wsX7_on RX7 := z_open B hml hI
  have hown := X.1.2.2.2.1
  have hts := X.1.2.2.2.2
  have J := hI.J
  have hi_X7 : ∀ w ∈ wsX70, w ∈ wsX7_on := by decide +kernel
  have n0_1 : qz ≠ qs := zneK Fa0 Fa1 rfl
  have n0_2 : qz ≠ qr := zneK Fa0 Fa2 rfl
  have n1_2 : qs ≠ qr := zneK Fa1 Fa2 rfl
  have hl := lv_entry ([.ref z, .ref r1, .int (nI k)]) (n := 3) (Nat.le_of_ble_eq_true rfl)
  rw [show entryFrame m args 3 = entryFrame m ([.ref z, .ref r1, .int (nI k)] : List Value).toArray 3 from by rw [hargs9], lg_entry_eq]
  generalize (lg_sl ([.ref z, .ref r1, .int (nI k)]) ++ List.replicate (3 - (lg_sl ([.ref z, .ref r1, .int (nI k)])).length) Slot.unset).toArray = ls at hl ⊢
  have hl : lv_has ls 3 [(0, .ref z), (1, .ref r1), (2, .int (nI k))] := hl
  generalize hQ : (MQ below (vp_Si (fun r : Int32 => r = gd sn (cellAt (rfi (fr 0) (fr 1)) (fr 0) k))) args s 0 0 (fun _ => False)) = QQ
  refine lv_aload_n hx hb dX7_on_0 rfl (lv_at hl 1 rfl) ?_
  refine lv_iconst (v := nI 0) hx hb dX7_on_1 rfl ?_
  refine z_iald X J qr Fa2 (vp_in_nI (by omega) (by first | decide | omega)) dX7_on_2 ?_
  refine W.eq (g2 := F0 m 3 ls [.int (fr 0)]) (congrArg (fun z9 : Int32 => F0 m 3 ls [.int z9]) (show (fr (nI 0).toNatClampNeg : Int32) = fr 0 from (congrArg _ (nI_clamp (by omega))))) ?_
  refine lv_iconst (v := 1) hx hb dX7_on_3 (by decide) ?_
  refine lv_icmp_ne (tgt := 20) hx hb dX7_on_4 (by decide) (fun cz4 => ?_) (fun cz4 => ?_)
  · obtain ⟨ra, rf, hra, hrc, hrf⟩ := hSN x (by omega)
    refine lv_aload_n hx hb dX7_on_20 rfl (lv_at hl 0 rfl) ?_
    refine z_get (C := RX7) (T := TX7) (N := 8) (ci := 8) (v := .ref sa) X J hi_X7 qz Fa0 rfl 2 (by decide) (by decide +kernel) rfl dX7_on_21 ?_
    refine lv_aload_n hx hb dX7_on_24 rfl (lv_at hl 1 rfl) ?_
    refine lv_iconst (v := nI 1) hx hb dX7_on_25 rfl ?_
    refine z_iald X J qr Fa2 (vp_in_nI (by omega) (by first | decide | omega)) dX7_on_26 ?_
    refine W.eq (g2 := F0 m 27 ls [.int (nI x), .ref sa]) (congrArg (fun z9 : Int32 => F0 m 27 ls [.int z9, .ref sa]) (show (fr (nI 1).toNatClampNeg : Int32) = nI x from ((congrArg fr (nI_clamp (by omega))).trans hix))) ?_
    refine z_aaldA X J qs Fa1 (vp_in_nI (by omega) (by first | decide | omega)) dX7_on_27 ?_
    refine W.eq (g2 := F0 m 28 ls [va_rf (gs x)]) (congrArg (fun z9 : Option Nat => F0 m 28 ls [va_rf z9]) (show (gs (nI x).toNatClampNeg : Option Nat) = gs x from (congrArg _ (nI_clamp (by omega))))) ?_
    refine W.eq (g2 := F0 m 28 ls [.ref ra]) (by rw [show gs x = some ra from hra]; rfl) ?_
    refine lv_iload_n hx hb dX7_on_28 rfl (lv_at hl 2 rfl) ?_
    refine z_iald X J (b + x) hrc (vp_in_nI (by omega) (by first | decide | omega)) dX7_on_29 ?_
    refine W.eq (g2 := F0 m 30 ls [.int (gd sn (cellAt (rfi (fr 0) (fr 1)) (fr 0) k))]) (congrArg (fun z9 : Int32 => F0 m 30 ls [.int z9]) (show (rf (nI k).toNatClampNeg : Int32) = gd sn (cellAt (rfi (fr 0) (fr 1)) (fr 0) k) from (by rw [nI_clamp (by omega), hrf k (by omega), on_a h01 cz4 hix hx2 hk9]))) ?_
    subst hQ
    exact W.iret (v := gd sn (cellAt (rfi (fr 0) (fr 1)) (fr 0) k)) hx hb hr (fun t ht hW => ⟨gd sn (cellAt (rfi (fr 0) (fr 1)) (fr 0) k), rfl, rfl, ht⟩) (fun q hq => absurd hq List.not_mem_nil) dX7_on_30
  · obtain ⟨ra, rf, hra, hrc, hrf⟩ := hSN k (by omega)
    refine lv_aload_n hx hb dX7_on_7 rfl (lv_at hl 0 rfl) ?_
    refine z_get (C := RX7) (T := TX7) (N := 8) (ci := 8) (v := .ref sa) X J hi_X7 qz Fa0 rfl 2 (by decide) (by decide +kernel) rfl dX7_on_8 ?_
    refine lv_iload_n hx hb dX7_on_11 rfl (lv_at hl 2 rfl) ?_
    refine z_aaldA X J qs Fa1 (vp_in_nI (by omega) (by first | decide | omega)) dX7_on_12 ?_
    refine W.eq (g2 := F0 m 13 ls [va_rf (gs k)]) (congrArg (fun z9 : Option Nat => F0 m 13 ls [va_rf z9]) (show (gs (nI k).toNatClampNeg : Option Nat) = gs k from (congrArg _ (nI_clamp (by omega))))) ?_
    refine W.eq (g2 := F0 m 13 ls [.ref ra]) (by rw [show gs k = some ra from hra]; rfl) ?_
    refine lv_aload_n hx hb dX7_on_13 rfl (lv_at hl 1 rfl) ?_
    refine lv_iconst (v := nI 1) hx hb dX7_on_14 rfl ?_
    refine z_iald X J qr Fa2 (vp_in_nI (by omega) (by first | decide | omega)) dX7_on_15 ?_
    refine W.eq (g2 := F0 m 16 ls [.int (nI x), .ref ra]) (congrArg (fun z9 : Int32 => F0 m 16 ls [.int z9, .ref ra]) (show (fr (nI 1).toNatClampNeg : Int32) = nI x from ((congrArg fr (nI_clamp (by omega))).trans hix))) ?_
    refine z_iald X J (b + k) hrc (vp_in_nI (by omega) (by first | decide | omega)) dX7_on_16 ?_
    refine W.eq (g2 := F0 m 17 ls [.int (gd sn (cellAt (rfi (fr 0) (fr 1)) (fr 0) k))]) (congrArg (fun z9 : Int32 => F0 m 17 ls [.int z9]) (show (rf (nI x).toNatClampNeg : Int32) = gd sn (cellAt (rfi (fr 0) (fr 1)) (fr 0) k) from (by rw [nI_clamp (by omega), hrf x (by omega), on_d cz4 hix hx2 hk9]))) ?_
    refine lv_goto (tgt := 30) hx hb dX7_on_17 (by decide) ?_
    subst hQ
    exact W.iret (v := gd sn (cellAt (rfi (fr 0) (fr 1)) (fr 0) k)) hx hb hr (fun t ht hW => ⟨gd sn (cellAt (rfi (fr 0) (fr 1)) (fr 0) k), rfl, rfl, ht⟩) (fun q hq => absurd hq List.not_mem_nil) dX7_on_30
set_option maxHeartbeats 400000 in
set_option maxRecDepth 100000 in
theorem cX7_blocked_ok (l : Launch) (E : zG) {ws : va_W} {qz z fe ro sa : Nat} {lim sup off plo hrs : Int32} {qs b : Nat} {gs : Nat → Option Nat} {sn : Nat → Int32} {qr r1 x : Nat} {fr : Nat → Int32} (Fa0 : ws[qz]? = some (z, .inr (8, [.ref fe, .ref ro, .ref sa, .int lim, .int sup, .int off, .int plo, .int hrs]))) (Fa1 : ws[qs]? = some (sa, zA4 E 20 gs)) (Fa2 : ws[qr]? = some (r1, zI4 E 2 fr)) (hSN : SN E ws b gs sn) (h01 : is01 (fr 0)) (hix : fr 1 = nI x) (hx2 : x < 20) : Met l yX7_blocked wsX7_blocked ({ frames := 1, cells := 0, slots := 0, locals := 22 } : Room) (va_Pc [.ref z, .ref r1] (zI E ws)) (vp_Si (fun r : Int32 => r = blkG sn (rfi (fr 0) (fr 1)) (fr 0) lim 20)) 0 0 (fun _ => False) := by
  refine Met.ofW (cc := cX7_blocked) (maxL := 4) (ret := (some .int)) (by decide) rfl ?_
  intro p e s m args below meth c s₁ B hml hv
  obtain ⟨hargs9, hI⟩ := hv
  have hx := B.exec
  have hb := B.bytes
  have hr := B.returns
  have hlocks := B.notSynchronized
  have X : zC E p m c cX7_blocked 4 s args wsX7_blocked RX7 := z_open B hml hI
  have hown := X.1.2.2.2.1
  have hts := X.1.2.2.2.2
  have J := hI.J
  have hi_X7 : ∀ w ∈ wsX70, w ∈ wsX7_blocked := by decide +kernel
  have n0_1 : qz ≠ qs := zneK Fa0 Fa1 rfl
  have n0_2 : qz ≠ qr := zneK Fa0 Fa2 rfl
  have n1_2 : qs ≠ qr := zneK Fa1 Fa2 rfl
  have hl := lv_entry ([.ref z, .ref r1]) (n := 4) (Nat.le_of_ble_eq_true rfl)
  rw [show entryFrame m args 4 = entryFrame m ([.ref z, .ref r1] : List Value).toArray 4 from by rw [hargs9], lg_entry_eq]
  generalize (lg_sl ([.ref z, .ref r1]) ++ List.replicate (4 - (lg_sl ([.ref z, .ref r1])).length) Slot.unset).toArray = ls at hl ⊢
  have hl : lv_has ls 4 [(0, .ref z), (1, .ref r1)] := hl
  generalize hQ : (MQ below (vp_Si (fun r : Int32 => r = blkG sn (rfi (fr 0) (fr 1)) (fr 0) lim 20)) args s 0 0 (fun _ => False)) = QQ
  refine lv_iconst (v := blkG sn (rfi (fr 0) (fr 1)) (fr 0) lim 0) hx hb dX7_blocked_0 rfl ?_
  refine lv_istore_n (lv' := [(2, .int (blkG sn (rfi (fr 0) (fr 1)) (fr 0) lim 0)), (0, .ref z), (1, .ref r1)]) hx hb dX7_blocked_1 rfl hl (by decide) rfl (fun ls hl => ?_)
  refine lv_iconst (v := nI 0) hx hb dX7_blocked_2 rfl ?_
  refine lv_istore_n (lv' := [(3, .int (nI 0)), (2, .int (blkG sn (rfi (fr 0) (fr 1)) (fr 0) lim 0)), (0, .ref z), (1, .ref r1)]) hx hb dX7_blocked_3 rfl hl (by decide) rfl (fun ls hl => ?_)
  have loop_4 : ∀ (k9 i : Nat), i + k9 = 20 → ∀ (ls : Array Slot), lv_has ls 4 [(3, .int (nI i)), (2, .int (blkG sn (rfi (fr 0) (fr 1)) (fr 0) lim i)), (0, .ref z), (1, .ref r1)] → W p l e (headSpec wsX7_blocked ({ frames := 1, cells := 0, slots := 0, locals := 22 } : Room)).room s m args below meth c s.heap [] 0 0 QQ (F0 m 4 ls []) := by
    intro k9
    induction k9 with
    | zero =>
      intro i hik ls hl
      obtain rfl : 20 = i := by omega
      refine lv_iload_n hx hb dX7_blocked_4 rfl (lv_at hl 0 rfl) ?_
      refine lv_bipush (v := nI 20) hx hb dX7_blocked_5 (by decide) ?_
      refine lv_icmp_ge (tgt := 37) hx hb dX7_blocked_7 (by decide) (fun cz7 => ?_) (fun cz7 => by exact (cz7 (nI_le (Nat.le_refl _) (by omega))).elim)
      refine lv_iload_n hx hb dX7_blocked_37 rfl (lv_at hl 1 rfl) ?_
      subst hQ
      exact W.iret (v := blkG sn (rfi (fr 0) (fr 1)) (fr 0) lim 20) hx hb hr (fun t ht hW => ⟨blkG sn (rfi (fr 0) (fr 1)) (fr 0) lim 20, rfl, rfl, ht⟩) (fun q hq => absurd hq List.not_mem_nil) dX7_blocked_38
    | succ k9 ih_4 =>
      intro i hik ls hl
      refine lv_iload_n hx hb dX7_blocked_4 rfl (lv_at hl 0 rfl) ?_
      refine lv_bipush (v := nI 20) hx hb dX7_blocked_5 (by decide) ?_
      refine lv_icmp_ge (tgt := 37) hx hb dX7_blocked_7 (by decide) (fun cz7 => by exact (nI_ge (by omega) (by omega) cz7).elim) (fun cz7 => ?_)
      refine lv_iload_n hx hb dX7_blocked_10 rfl (lv_at hl 1 rfl) ?_
      refine lv_aload_n hx hb dX7_blocked_11 rfl (lv_at hl 2 rfl) ?_
      refine lv_aload_n hx hb dX7_blocked_12 rfl (lv_at hl 3 rfl) ?_
      refine lv_iload_n hx hb dX7_blocked_13 rfl (lv_at hl 0 rfl) ?_
      refine z_cr (z_rV (As := [.ref r1, .int (nI i)]) (rest := [.int (blkG sn (rfi (fr 0) (fr 1)) (fr 0) lim i)]) (ci := 8) (q0 := qz) X J (cX7_on_ok l E Fa0 Fa1 Fa2 hSN h01 hix (by first | assumption | omega | decide) (by first | assumption | omega | decide)) (cwV 2 hts gX7_blocked_X7_on rfl rfl rfl (by decide +kernel) ⟨Nat.le_of_ble_eq_true rfl, Nat.le_of_ble_eq_true rfl⟩) Fa0 rfl rfl rfl hl.1 rfl (Nat.le_of_ble_eq_true rfl) dX7_blocked_14 ⟨Nat.le_of_ble_eq_true rfl, Nat.le_of_ble_eq_true rfl⟩) (fun r14 e_r14 => ?_)
      subst e_r14
      refine lv_aload_n hx hb dX7_blocked_17 rfl (lv_at hl 2 rfl) ?_
      refine z_get (C := RX7) (T := TX7) (N := 8) (ci := 8) (v := .int lim) X J hi_X7 qz Fa0 rfl 3 (by decide) (by decide +kernel) rfl dX7_blocked_18 ?_
      refine lv_icmp_lt (tgt := 28) hx hb dX7_blocked_21 (by decide) (fun cz21 => ?_) (fun cz21 => ?_)
      · refine lv_iconst (v := 0) hx hb dX7_blocked_28 (by decide) ?_
        refine lv_iadd hx hb dX7_blocked_29 ?_
        refine lv_istore_n (lv' := [(2, .int ((blkG sn (rfi (fr 0) (fr 1)) (fr 0) lim i) + 0)), (3, .int (nI i)), (0, .ref z), (1, .ref r1)]) hx hb dX7_blocked_30 rfl hl (by decide) rfl (fun ls hl => ?_)
        refine lv_iinc (v := nI (i + 1)) (lv' := [(3, .int (nI (i + 1))), (2, .int ((blkG sn (rfi (fr 0) (fr 1)) (fr 0) lim i) + 0)), (0, .ref z), (1, .ref r1)]) hx hb dX7_blocked_31 hl (k := 1) rfl (nI_1 i) (by decide) rfl (fun ls hl => ?_)
        refine lv_goto (tgt := 4) hx hb dX7_blocked_34 (by decide) ?_
        have hl : lv_has ls 4 [(3, .int (nI (i + 1))), (2, .int (blkG sn (rfi (fr 0) (fr 1)) (fr 0) lim (i + 1))), (0, .ref z), (1, .ref r1)] := lv_repl hl (congrArg (fun z9 : Int32 => ([(3, .int (nI (i + 1))), (2, .int z9), (0, .ref z), (1, .ref r1)] : List (Nat × Value))) (show ((blkG sn (rfi (fr 0) (fr 1)) (fr 0) lim i) + 0 : Int32) = blkG sn (rfi (fr 0) (fr 1)) (fr 0) lim (i + 1) from (by rw [show blkG sn (rfi (fr 0) (fr 1)) (fr 0) lim (i + 1) = _ from if_pos cz21]; exact Int32.add_zero _)))
        exact ih_4 (i + 1) (by omega) _ (lv_sub hl [0, 1, 2, 3] rfl)
      · refine lv_iconst (v := 1) hx hb dX7_blocked_24 (by decide) ?_
        refine lv_goto (tgt := 29) hx hb dX7_blocked_25 (by decide) ?_
        refine lv_iadd hx hb dX7_blocked_29 ?_
        refine lv_istore_n (lv' := [(2, .int ((blkG sn (rfi (fr 0) (fr 1)) (fr 0) lim i) + 1)), (3, .int (nI i)), (0, .ref z), (1, .ref r1)]) hx hb dX7_blocked_30 rfl hl (by decide) rfl (fun ls hl => ?_)
        refine lv_iinc (v := nI (i + 1)) (lv' := [(3, .int (nI (i + 1))), (2, .int ((blkG sn (rfi (fr 0) (fr 1)) (fr 0) lim i) + 1)), (0, .ref z), (1, .ref r1)]) hx hb dX7_blocked_31 hl (k := 1) rfl (nI_1 i) (by decide) rfl (fun ls hl => ?_)
        refine lv_goto (tgt := 4) hx hb dX7_blocked_34 (by decide) ?_
        have hl : lv_has ls 4 [(3, .int (nI (i + 1))), (2, .int (blkG sn (rfi (fr 0) (fr 1)) (fr 0) lim (i + 1))), (0, .ref z), (1, .ref r1)] := lv_repl hl (congrArg (fun z9 : Int32 => ([(3, .int (nI (i + 1))), (2, .int z9), (0, .ref z), (1, .ref r1)] : List (Nat × Value))) (show ((blkG sn (rfi (fr 0) (fr 1)) (fr 0) lim i) + 1 : Int32) = blkG sn (rfi (fr 0) (fr 1)) (fr 0) lim (i + 1) from (by rw [show blkG sn (rfi (fr 0) (fr 1)) (fr 0) lim (i + 1) = _ from if_neg cz21])))
        exact ih_4 (i + 1) (by omega) _ (lv_sub hl [0, 1, 2, 3] rfl)
  exact loop_4 20 0 (by omega) _ (lv_sub hl [0, 1, 2, 3] rfl)
set_option maxHeartbeats 400000 in
set_option maxRecDepth 100000 in
theorem cX7_allBlocked_ok (l : Launch) (E : zG) {ws : va_W} {qz z fe ro sa : Nat} {lim sup off plo hrs : Int32} {qs b : Nat} {gs : Nat → Option Nat} {sn : Nat → Int32} {qr nr : Nat} {gr : Nat → Option Nat} {rd ri : Nat → Int32} (Fa0 : ws[qz]? = some (z, .inr (8, [.ref fe, .ref ro, .ref sa, .int lim, .int sup, .int off, .int plo, .int hrs]))) (Fa1 : ws[qs]? = some (sa, zA4 E 20 gs)) (Fa2 : ws[qr]? = some (ro, zA4 E nr gr)) (hSN : SN E ws b gs sn) (hSR : SR E ws gr nr rd ri) (hnr : nr ≤ 4) (hor : ∀ q, q < nr → okR rd ri q) : Met l yX7_allBlocked wsX7_allBlocked ({ frames := 2, cells := 0, slots := 0, locals := 45 } : Room) (va_Pc [.ref z] (zI E ws)) (vp_Si (fun r : Int32 => r = allB sn rd ri lim nr)) 0 0 (fun _ => False) := by
  refine Met.ofW (cc := cX7_allBlocked) (maxL := 6) (ret := (some .int)) (by decide) rfl ?_
  intro p e s m args below meth c s₁ B hml hv
  obtain ⟨hargs9, hI⟩ := hv
  have hx := B.exec
  have hb := B.bytes
  have hr := B.returns
  have hlocks := B.notSynchronized
  have X : zC E p m c cX7_allBlocked 6 s args wsX7_allBlocked RX7 := z_open B hml hI
  have hown := X.1.2.2.2.1
  have hts := X.1.2.2.2.2
  have J := hI.J
  have hi_X7 : ∀ w ∈ wsX70, w ∈ wsX7_allBlocked := by decide +kernel
  have n0_1 : qz ≠ qs := zneK Fa0 Fa1 rfl
  have n0_2 : qz ≠ qr := zneK Fa0 Fa2 rfl
  have hl := lv_entry ([.ref z]) (n := 6) (Nat.le_of_ble_eq_true rfl)
  rw [show entryFrame m args 6 = entryFrame m ([.ref z] : List Value).toArray 6 from by rw [hargs9], lg_entry_eq]
  generalize (lg_sl ([.ref z]) ++ List.replicate (6 - (lg_sl ([.ref z])).length) Slot.unset).toArray = ls at hl ⊢
  have hl : lv_has ls 6 [(0, .ref z)] := hl
  generalize hQ : (MQ below (vp_Si (fun r : Int32 => r = allB sn rd ri lim nr)) args s 0 0 (fun _ => False)) = QQ
  refine lv_iconst (v := allB sn rd ri lim 0) hx hb dX7_allBlocked_0 rfl ?_
  refine lv_istore_n (lv' := [(1, .int (allB sn rd ri lim 0)), (0, .ref z)]) hx hb dX7_allBlocked_1 rfl hl (by decide) rfl (fun ls hl => ?_)
  refine lv_aload_n hx hb dX7_allBlocked_2 rfl (lv_at hl 1 rfl) ?_
  refine z_get (C := RX7) (T := TX7) (N := 8) (ci := 8) (v := .ref ro) X J hi_X7 qz Fa0 rfl 1 (by decide) (by decide +kernel) rfl dX7_allBlocked_3 ?_
  refine lv_astore_n (lv' := [(2, .ref ro), (1, .int (allB sn rd ri lim 0)), (0, .ref z)]) hx hb dX7_allBlocked_6 rfl hl (by decide) rfl (fun ls hl => ?_)
  refine lv_aload_n hx hb dX7_allBlocked_7 rfl (lv_at hl 0 rfl) ?_
  refine z_alenA (v := nI nr) X J qr Fa2 rfl dX7_allBlocked_8 ?_
  refine lv_istore_n (lv' := [(3, .int (nI nr)), (2, .ref ro), (1, .int (allB sn rd ri lim 0)), (0, .ref z)]) hx hb dX7_allBlocked_9 rfl hl (by decide) rfl (fun ls hl => ?_)
  refine lv_iconst (v := nI 0) hx hb dX7_allBlocked_10 rfl ?_
  refine lv_istore (lv' := [(4, .int (nI 0)), (3, .int (nI nr)), (2, .ref ro), (1, .int (allB sn rd ri lim 0)), (0, .ref z)]) hx hb dX7_allBlocked_11 hl (by decide) rfl (fun ls hl => ?_)
  have loop_13 : ∀ (k9 i : Nat), i + k9 = nr → ∀ (ls : Array Slot), lv_has ls 6 [(4, .int (nI i)), (3, .int (nI nr)), (2, .ref ro), (1, .int (allB sn rd ri lim i)), (0, .ref z)] → W p l e (headSpec wsX7_allBlocked ({ frames := 2, cells := 0, slots := 0, locals := 45 } : Room)).room s m args below meth c s.heap [] 0 0 QQ (F0 m 13 ls []) := by
    intro k9
    induction k9 with
    | zero =>
      intro i hik ls hl
      obtain rfl : nr = i := by omega
      refine lv_iload hx hb dX7_allBlocked_13 (lv_at hl 0 rfl) ?_
      refine lv_iload_n hx hb dX7_allBlocked_15 rfl (lv_at hl 1 rfl) ?_
      refine lv_icmp_ge (tgt := 40) hx hb dX7_allBlocked_16 (by decide) (fun cz16 => ?_) (fun cz16 => by exact (cz16 (nI_le (Nat.le_refl _) (by omega))).elim)
      refine lv_iload_n hx hb dX7_allBlocked_40 rfl (lv_at hl 3 rfl) ?_
      subst hQ
      exact W.iret (v := allB sn rd ri lim nr) hx hb hr (fun t ht hW => ⟨allB sn rd ri lim nr, rfl, rfl, ht⟩) (fun q hq => absurd hq List.not_mem_nil) dX7_allBlocked_41
    | succ k9 ih_13 =>
      intro i hik ls hl
      refine lv_iload hx hb dX7_allBlocked_13 (lv_at hl 0 rfl) ?_
      refine lv_iload_n hx hb dX7_allBlocked_15 rfl (lv_at hl 1 rfl) ?_
      refine lv_icmp_ge (tgt := 40) hx hb dX7_allBlocked_16 (by decide) (fun cz16 => by exact (nI_ge (by omega) (by omega) cz16).elim) (fun cz16 => ?_)
      obtain ⟨ja, jq, jf, hgj, hjq, hjf, hj0, hj1⟩ := hSR i (by omega)
      obtain ⟨jd, jx, hjx, hjy⟩ := hor i (by omega)
      refine lv_aload_n hx hb dX7_allBlocked_19 rfl (lv_at hl 2 rfl) ?_
      refine lv_iload hx hb dX7_allBlocked_20 (lv_at hl 0 rfl) ?_
      refine z_aaldA X J qr Fa2 (vp_in_nI (by omega) (by first | decide | omega)) dX7_allBlocked_22 ?_
      refine W.eq (g2 := F0 m 23 ls [va_rf (gr i)]) (congrArg (fun z9 : Option Nat => F0 m 23 ls [va_rf z9]) (show (gr (nI i).toNatClampNeg : Option Nat) = gr i from (congrArg _ (nI_clamp (by omega))))) ?_
      refine W.eq (g2 := F0 m 23 ls [.ref ja]) (by rw [show gr i = some ja from hgj]; rfl) ?_
      refine lv_astore (lv' := [(5, .ref ja), (4, .int (nI i)), (3, .int (nI nr)), (2, .ref ro), (1, .int (allB sn rd ri lim i)), (0, .ref z)]) hx hb dX7_allBlocked_23 hl (by decide) rfl (fun ls hl => ?_)
      refine lv_iload_n hx hb dX7_allBlocked_25 rfl (lv_at hl 4 rfl) ?_
      refine lv_aload_n hx hb dX7_allBlocked_26 rfl (lv_at hl 5 rfl) ?_
      refine lv_aload hx hb dX7_allBlocked_27 (lv_at hl 0 rfl) ?_
      refine z_cr (z_rV (As := [.ref ja]) (rest := [.int (allB sn rd ri lim i)]) (ci := 8) (q0 := qz) X J (cX7_blocked_ok l E Fa0 Fa1 hjf hSN (by rw [hj0]; exact jd) (hj1.trans hjy) hjx) (cwV 1 hts gX7_allBlocked_X7_blocked rfl rfl rfl (by decide +kernel) ⟨Nat.le_of_ble_eq_true rfl, Nat.le_of_ble_eq_true rfl⟩) Fa0 rfl rfl rfl hl.1 rfl (Nat.le_of_ble_eq_true rfl) dX7_allBlocked_29 ⟨Nat.le_of_ble_eq_true rfl, Nat.le_of_ble_eq_true rfl⟩) (fun r29 e_r29 => ?_)
      subst e_r29
      refine W.eq (g2 := F0 m 32 ls [.int (blkG sn (rfi (rd i) (ri i)) (rd i) lim 20), .int (allB sn rd ri lim i)]) (congrArg (fun z9 : Int32 => F0 m 32 ls [.int z9, .int (allB sn rd ri lim i)]) (show (blkG sn (rfi (jf 0) (jf 1)) (jf 0) lim 20 : Int32) = blkG sn (rfi (rd i) (ri i)) (rd i) lim 20 from (by rw [hj0, hj1]))) ?_
      refine lv_iadd hx hb dX7_allBlocked_32 ?_
      refine lv_istore_n (lv' := [(1, .int ((allB sn rd ri lim i) + (blkG sn (rfi (rd i) (ri i)) (rd i) lim 20))), (5, .ref ja), (4, .int (nI i)), (3, .int (nI nr)), (2, .ref ro), (0, .ref z)]) hx hb dX7_allBlocked_33 rfl hl (by decide) rfl (fun ls hl => ?_)
      refine lv_iinc (v := nI (i + 1)) (lv' := [(4, .int (nI (i + 1))), (1, .int ((allB sn rd ri lim i) + (blkG sn (rfi (rd i) (ri i)) (rd i) lim 20))), (5, .ref ja), (3, .int (nI nr)), (2, .ref ro), (0, .ref z)]) hx hb dX7_allBlocked_34 hl (k := 2) rfl (nI_1 i) (by decide) rfl (fun ls hl => ?_)
      refine lv_goto (tgt := 13) hx hb dX7_allBlocked_37 (by decide) ?_
      exact ih_13 (i + 1) (by omega) _ (lv_sub hl [0, 3, 4, 1, 5] rfl)
  exact loop_13 nr 0 (by omega) _ (lv_sub hl [0, 1, 2, 3, 4] rfl)
set_option maxHeartbeats 400000 in
set_option maxRecDepth 100000 in
theorem cX7_with_ok (l : Launch) (E : zG) {ws : va_W} {qf fe ql la n m9 : Nat} {g : Nat → Option Nat} {fl : Nat → Int32} (Fa0 : ws[qf]? = some (fe, zA4 E n g)) (Fa1 : ws[ql]? = some (la, zI4 E m9 fl)) (hel : ∀ j : Nat, j < n → ∃ (a q m : Nat) (f : Nat → Int32), g j = some a ∧ ws[q]? = some (a, zI4 E m f)) (hn9 : n ≤ 10) : Met l yX7_with wsX7_with ({ frames := 0, cells := 1, slots := 12, locals := 0 } : Room) (va_Pc [.ref fe, .ref la] (zI E ws)) (va_Qq (fun (r : Option Nat) (ws' : va_W) => (zK [] ws ws') ∧ (∃ nq : Nat, ws'.length = ws.length + 1 ∧ (ws'[(ws.length + 0)]? = some (nq, zA4 E (n + 1) (wO g n la))) ∧ (r = some nq))) (zI E) (zA E)) 1 12 (zA E) := by
  refine Met.ofW (cc := cX7_with) (maxL := 4) (ret := (some (.array (.array .int)))) (by decide) rfl ?_
  intro p e s m args below meth c s₁ B hml hv
  obtain ⟨hargs9, hI⟩ := hv
  have hx := B.exec
  have hb := B.bytes
  have hr := B.returns
  have hlocks := B.notSynchronized
  have X : zC E p m c cX7_with 4 s args wsX7_with RX7 := z_open B hml hI
  have hown := X.1.2.2.2.1
  have hts := X.1.2.2.2.2
  have J := hI.J
  have n0_1 : qf ≠ ql := zneK Fa0 Fa1 rfl
  have hk : zK [] ws ws := zK.rf
  have hlen : ws.length = ws.length + 0 := rfl
  have bFa0 := zlt Fa0
  have bFa1 := zlt Fa1
  have hl := lv_entry ([.ref fe, .ref la]) (n := 4) (Nat.le_of_ble_eq_true rfl)
  rw [show entryFrame m args 4 = entryFrame m ([.ref fe, .ref la] : List Value).toArray 4 from by rw [hargs9], lg_entry_eq]
  generalize (lg_sl ([.ref fe, .ref la]) ++ List.replicate (4 - (lg_sl ([.ref fe, .ref la])).length) Slot.unset).toArray = ls at hl ⊢
  have hl : lv_has ls 4 [(0, .ref fe), (1, .ref la)] := hl
  generalize hQ : (MQ below (va_Qq (fun (r : Option Nat) (ws' : va_W) => (zK [] ws ws') ∧ (∃ nq : Nat, ws'.length = ws.length + 1 ∧ (ws'[(ws.length + 0)]? = some (nq, zA4 E (n + 1) (wO g n la))) ∧ (r = some nq))) (zI E) (zA E)) args s 1 12 (zA E)) = QQ
  refine lv_aload_n hx hb dX7_with_0 rfl (lv_at hl 0 rfl) ?_
  refine z_alenA (v := nI n) X J qf Fa0 rfl dX7_with_1 ?_
  refine lv_iconst (v := 1) hx hb dX7_with_2 (by decide) ?_
  refine lv_iadd hx hb dX7_with_3 ?_
  refine W.eq (g2 := F0 m 4 ls [.int (nI (n + 1))]) (congrArg (fun z9 : Int32 => F0 m 4 ls [.int z9]) (show ((nI n) + 1 : Int32) = nI (n + 1) from (nI_1 n))) ?_
  refine z_newqA (N' := n + 1) X J (by decide +kernel) (nI_pos (by omega)) (nI_clamp (by omega)) (by omega) (Nat.le_of_ble_eq_true rfl) (by show _ ≤ 12; omega) dX7_with_4 (fun nq H J => ?_)
  have lp1 := hk.1
  have hk := hk.trans (zK.app (more := [(nq, zA4 E (n + 1) (fun _ => none))]))
  have hpn1 := hlen
  have hlen : (ws ++ ([(nq, zA4 E (n + 1) (fun _ => none))] : va_W)).length = ws.length + 1 := by rw [List.length_append, hlen]; rfl
  have bG1_0 := zlt Fa0
  have G1_0 := zapp (x := (nq, zA4 E (n + 1) (fun _ => none))) Fa0
  have bG1_1 := zlt Fa1
  have G1_1 := zapp (x := (nq, zA4 E (n + 1) (fun _ => none))) Fa1
  have G1_n := zapp_new (ws := ws) (x := (nq, zA4 E (n + 1) (fun _ => none)))
  generalize hws1 : ws ++ [(nq, zA4 E (n + 1) (fun _ => none))] = ws_1 at J hk hlen G1_0 G1_1 G1_n
  rw [hpn1] at lp1 G1_n bG1_0 bG1_1
  refine lv_astore_n (lv' := [(2, .ref nq), (0, .ref fe), (1, .ref la)]) hx hb dX7_with_7 rfl hl (by decide) rfl (fun ls hl => ?_)
  refine lv_iconst (v := nI 0) hx hb dX7_with_8 rfl ?_
  refine lv_istore_n (lv' := [(3, .int (nI 0)), (2, .ref nq), (0, .ref fe), (1, .ref la)]) hx hb dX7_with_9 rfl hl (by decide) rfl (fun ls hl => ?_)
  have loop_10 : ∀ (k9 i : Nat), i + k9 = n → ∀ (wl10 : va_W) (H : Heap) (locs : List Loc) (ls : Array Slot), zK [] ws wl10 → wl10[qf]? = some (fe, zA4 E n g) → wl10[ql]? = some (la, zI4 E m9 fl) → wl10[(ws.length + 0)]? = some (nq, zA4 E (n + 1) (cpO g i)) → wl10.length = ws.length + 1 → zJ E wl10 s H locs → lv_has ls 4 [(3, .int (nI i)), (2, .ref nq), (0, .ref fe), (1, .ref la)] → W p l e (headSpec wsX7_with ({ frames := 0, cells := 1, slots := 12, locals := 0 } : Room)).room s m args below meth c H locs 1 (0 + (n + 1)) QQ (F0 m 10 ls []) := by
    intro k9
    induction k9 with
    | zero =>
      intro i hik wl10 H locs ls hk L10_0 L10_1 L10_2 hlen J hl
      obtain rfl : n = i := by omega
      refine lv_iload_n hx hb dX7_with_10 rfl (lv_at hl 0 rfl) ?_
      refine lv_aload_n hx hb dX7_with_11 rfl (lv_at hl 2 rfl) ?_
      refine z_alenA (v := nI n) X J qf L10_0 rfl dX7_with_12 ?_
      refine lv_icmp_ge (tgt := 28) hx hb dX7_with_13 (by decide) (fun cz13 => ?_) (fun cz13 => by exact (cz13 (nI_le (Nat.le_refl _) (by omega))).elim)
      refine lv_aload_n hx hb dX7_with_28 rfl (lv_at hl 1 rfl) ?_
      refine lv_aload_n hx hb dX7_with_29 rfl (lv_at hl 2 rfl) ?_
      refine z_alenA (v := nI n) X J qf L10_0 rfl dX7_with_30 ?_
      refine lv_aload_n hx hb dX7_with_31 rfl (lv_at hl 3 rfl) ?_
      refine z_aastA X J (ws.length + 0) ql L10_2 L10_1 (vp_in_nI (by omega) (by first | decide | omega)) dX7_with_32 (fun H locs J => ?_)
      rw [show va_up (cpO g n) (nI n).toNatClampNeg (some la) = wO g n la from (by rw [nI_clamp (by omega)]; rfl)] at J
      have hk := hk.setNew (q := (ws.length + 0)) (e := (nq, zA4 E (n + 1) (wO g n la))) (Nat.le_add_right _ _)
      have hlen : (wl10.set (ws.length + 0) (nq, zA4 E (n + 1) (wO g n la))).length = ws.length + 1 := (List.length_set ..).trans hlen
      have G2_0 := zset_ne (q := (ws.length + 0)) (e' := (nq, zA4 E (n + 1) (wO g n la))) (Nat.ne_of_gt (Nat.lt_of_lt_of_le bFa0 (Nat.le_add_right _ _))) L10_0
      have G2_1 := zset_ne (q := (ws.length + 0)) (e' := (nq, zA4 E (n + 1) (wO g n la))) (Nat.ne_of_gt (Nat.lt_of_lt_of_le bFa1 (Nat.le_add_right _ _))) L10_1
      have G2_2 := zset_eq (e' := (nq, zA4 E (n + 1) (wO g n la))) L10_2
      generalize hws2 : (wl10.set (ws.length + 0) (nq, zA4 E (n + 1) (wO g n la))) = ws_2 at J hlen hk G2_0 G2_1 G2_2
      refine lv_aload_n hx hb dX7_with_33 rfl (lv_at hl 1 rfl) ?_
      refine W.widen (k := 1) (n := 12) (by omega) (by omega) ?_
      subst hQ
      exact W.aret (v := .ref nq) hx hb hr (by first | exact Or.inl ⟨_, rfl⟩ | exact Or.inr ⟨_, rfl⟩) (Or.inr ⟨_, rfl⟩) (fun t ht hW => ⟨⟨some nq, ws_2, rfl, ⟨hk, ⟨nq, hlen, G2_2, rfl⟩⟩, J.I X ht hW.alike⟩, J.F ht⟩) J.locs dX7_with_34
    | succ k9 ih_10 =>
      intro i hik wl10 H locs ls hk L10_0 L10_1 L10_2 hlen J hl
      refine lv_iload_n hx hb dX7_with_10 rfl (lv_at hl 0 rfl) ?_
      refine lv_aload_n hx hb dX7_with_11 rfl (lv_at hl 2 rfl) ?_
      refine z_alenA (v := nI n) X J qf L10_0 rfl dX7_with_12 ?_
      refine lv_icmp_ge (tgt := 28) hx hb dX7_with_13 (by decide) (fun cz13 => by exact (nI_ge (by omega) (by omega) cz13).elim) (fun cz13 => ?_)
      obtain ⟨ja, jq, jm, jf, hgj, hjf⟩ := hel i (by omega)
      have bjq := zlt hjf
      have hjf := hk.2 jq _ List.not_mem_nil hjf
      refine lv_aload_n hx hb dX7_with_16 rfl (lv_at hl 1 rfl) ?_
      refine lv_iload_n hx hb dX7_with_17 rfl (lv_at hl 0 rfl) ?_
      refine lv_aload_n hx hb dX7_with_18 rfl (lv_at hl 2 rfl) ?_
      refine lv_iload_n hx hb dX7_with_19 rfl (lv_at hl 0 rfl) ?_
      refine z_aaldA X J qf L10_0 (vp_in_nI (by omega) (by first | decide | omega)) dX7_with_20 ?_
      refine W.eq (g2 := F0 m 21 ls [va_rf (g i), .int (nI i), .ref nq]) (congrArg (fun z9 : Option Nat => F0 m 21 ls [va_rf z9, .int (nI i), .ref nq]) (show (g (nI i).toNatClampNeg : Option Nat) = g i from (congrArg _ (nI_clamp (by omega))))) ?_
      refine W.eq (g2 := F0 m 21 ls [.ref ja, .int (nI i), .ref nq]) (by rw [show g i = some ja from hgj]; rfl) ?_
      refine z_aastA X J (ws.length + 0) jq L10_2 hjf (vp_in_nI (by omega) (by first | decide | omega)) dX7_with_21 (fun H locs J => ?_)
      rw [show va_up (cpO g i) (nI i).toNatClampNeg (some ja) = cpO g (i + 1) from (by rw [nI_clamp (by omega)]; exact cpO_s hgj)] at J
      have hk := hk.setNew (q := (ws.length + 0)) (e := (nq, zA4 E (n + 1) (cpO g (i + 1)))) (Nat.le_add_right _ _)
      have hlen : (wl10.set (ws.length + 0) (nq, zA4 E (n + 1) (cpO g (i + 1)))).length = ws.length + 1 := (List.length_set ..).trans hlen
      have G2_0 := zset_ne (q := (ws.length + 0)) (e' := (nq, zA4 E (n + 1) (cpO g (i + 1)))) (Nat.ne_of_gt (Nat.lt_of_lt_of_le bFa0 (Nat.le_add_right _ _))) L10_0
      have G2_1 := zset_ne (q := (ws.length + 0)) (e' := (nq, zA4 E (n + 1) (cpO g (i + 1)))) (Nat.ne_of_gt (Nat.lt_of_lt_of_le bFa1 (Nat.le_add_right _ _))) L10_1
      have G2_2 := zset_eq (e' := (nq, zA4 E (n + 1) (cpO g (i + 1)))) L10_2
      have G2_3 := zset_ne (q := (ws.length + 0)) (e' := (nq, zA4 E (n + 1) (cpO g (i + 1)))) (by omega) hjf
      generalize hws2 : (wl10.set (ws.length + 0) (nq, zA4 E (n + 1) (cpO g (i + 1)))) = ws_2 at J hlen hk G2_0 G2_1 G2_2 G2_3
      refine lv_iinc (v := nI (i + 1)) (lv' := [(3, .int (nI (i + 1))), (2, .ref nq), (0, .ref fe), (1, .ref la)]) hx hb dX7_with_22 hl (k := 0) rfl (nI_1 i) (by decide) rfl (fun ls hl => ?_)
      refine lv_goto (tgt := 10) hx hb dX7_with_25 (by decide) ?_
      exact ih_10 (i + 1) (by omega) _ _ _ _ hk G2_0 G2_1 G2_2 hlen J (lv_sub hl [0, 1, 2, 3] rfl)
  exact loop_10 n 0 (by omega) _ _ _ _ hk G1_0 G1_1 (by rw [← cpO_0]; exact G1_n) hlen J (lv_sub hl [0, 1, 2, 3] rfl)
set_option maxHeartbeats 400000 in
set_option maxRecDepth 100000 in
theorem cX7_without_ok (l : Launch) (E : zG) {ws : va_W} {qf fe n w : Nat} {g : Nat → Option Nat} (Fa0 : ws[qf]? = some (fe, zA4 E n g)) (hel : ∀ j : Nat, j < n → ∃ (a q m : Nat) (f : Nat → Int32), g j = some a ∧ ws[q]? = some (a, zI4 E m f)) (hn9 : n ≤ 10) (hw9 : w < n) : Met l yX7_without wsX7_without ({ frames := 0, cells := 1, slots := 12, locals := 0 } : Room) (va_Pc [.ref fe, .int (nI w)] (zI E ws)) (va_Qq (fun (r : Option Nat) (ws' : va_W) => (zK [] ws ws') ∧ (∃ nq : Nat, ws'.length = ws.length + 1 ∧ (ws'[(ws.length + 0)]? = some (nq, zA4 E (n - 1) (oO g w (n - 1)))) ∧ (r = some nq))) (zI E) (zA E)) 1 12 (zA E) := by
  refine Met.ofW (cc := cX7_without) (maxL := 4) (ret := (some (.array (.array .int)))) (by decide) rfl ?_
  intro p e s m args below meth c s₁ B hml hv
  obtain ⟨hargs9, hI⟩ := hv
  have hx := B.exec
  have hb := B.bytes
  have hr := B.returns
  have hlocks := B.notSynchronized
  have X : zC E p m c cX7_without 4 s args wsX7_without RX7 := z_open B hml hI
  have hown := X.1.2.2.2.1
  have hts := X.1.2.2.2.2
  have J := hI.J
  have hk : zK [] ws ws := zK.rf
  have hlen : ws.length = ws.length + 0 := rfl
  have bFa0 := zlt Fa0
  have hl := lv_entry ([.ref fe, .int (nI w)]) (n := 4) (Nat.le_of_ble_eq_true rfl)
  rw [show entryFrame m args 4 = entryFrame m ([.ref fe, .int (nI w)] : List Value).toArray 4 from by rw [hargs9], lg_entry_eq]
  generalize (lg_sl ([.ref fe, .int (nI w)]) ++ List.replicate (4 - (lg_sl ([.ref fe, .int (nI w)])).length) Slot.unset).toArray = ls at hl ⊢
  have hl : lv_has ls 4 [(0, .ref fe), (1, .int (nI w))] := hl
  generalize hQ : (MQ below (va_Qq (fun (r : Option Nat) (ws' : va_W) => (zK [] ws ws') ∧ (∃ nq : Nat, ws'.length = ws.length + 1 ∧ (ws'[(ws.length + 0)]? = some (nq, zA4 E (n - 1) (oO g w (n - 1)))) ∧ (r = some nq))) (zI E) (zA E)) args s 1 12 (zA E)) = QQ
  refine lv_aload_n hx hb dX7_without_0 rfl (lv_at hl 0 rfl) ?_
  refine z_alenA (v := nI n) X J qf Fa0 rfl dX7_without_1 ?_
  refine lv_iconst (v := 1) hx hb dX7_without_2 (by decide) ?_
  refine lv_isub hx hb dX7_without_3 ?_
  refine W.eq (g2 := F0 m 4 ls [.int (nI (n - 1))]) (congrArg (fun z9 : Int32 => F0 m 4 ls [.int z9]) (show ((nI n) - 1 : Int32) = nI (n - 1) from (nI_sub1 (by omega)))) ?_
  refine z_newqA (N' := n - 1) X J (by decide +kernel) (nI_pos (by omega)) (nI_clamp (by omega)) (by omega) (Nat.le_of_ble_eq_true rfl) (by show _ ≤ 12; omega) dX7_without_4 (fun nq H J => ?_)
  have lp1 := hk.1
  have hk := hk.trans (zK.app (more := [(nq, zA4 E (n - 1) (fun _ => none))]))
  have hpn1 := hlen
  have hlen : (ws ++ ([(nq, zA4 E (n - 1) (fun _ => none))] : va_W)).length = ws.length + 1 := by rw [List.length_append, hlen]; rfl
  have bG1_0 := zlt Fa0
  have G1_0 := zapp (x := (nq, zA4 E (n - 1) (fun _ => none))) Fa0
  have G1_n := zapp_new (ws := ws) (x := (nq, zA4 E (n - 1) (fun _ => none)))
  generalize hws1 : ws ++ [(nq, zA4 E (n - 1) (fun _ => none))] = ws_1 at J hk hlen G1_0 G1_n
  rw [hpn1] at lp1 G1_n bG1_0
  refine lv_astore_n (lv' := [(2, .ref nq), (0, .ref fe), (1, .int (nI w))]) hx hb dX7_without_7 rfl hl (by decide) rfl (fun ls hl => ?_)
  refine lv_iconst (v := nI 0) hx hb dX7_without_8 rfl ?_
  refine lv_istore_n (lv' := [(3, .int (nI 0)), (2, .ref nq), (0, .ref fe), (1, .int (nI w))]) hx hb dX7_without_9 rfl hl (by decide) rfl (fun ls hl => ?_)
  have loop_10 : ∀ (k9 i : Nat), i + k9 = (n - 1) → ∀ (wl10 : va_W) (H : Heap) (locs : List Loc) (ls : Array Slot), zK [] ws wl10 → wl10[qf]? = some (fe, zA4 E n g) → wl10[(ws.length + 0)]? = some (nq, zA4 E (n - 1) (cpO (oG g w) i)) → wl10.length = ws.length + 1 → zJ E wl10 s H locs → lv_has ls 4 [(3, .int (nI i)), (2, .ref nq), (0, .ref fe), (1, .int (nI w))] → W p l e (headSpec wsX7_without ({ frames := 0, cells := 1, slots := 12, locals := 0 } : Room)).room s m args below meth c H locs 1 (0 + (n - 1)) QQ (F0 m 10 ls []) := by
    intro k9
    induction k9 with
    | zero =>
      intro i hik wl10 H locs ls hk L10_0 L10_1 hlen J hl
      obtain rfl : (n - 1) = i := by omega
      refine lv_iload_n hx hb dX7_without_10 rfl (lv_at hl 0 rfl) ?_
      refine lv_aload_n hx hb dX7_without_11 rfl (lv_at hl 1 rfl) ?_
      refine z_alenA (v := nI (n - 1)) X J (ws.length + 0) L10_1 rfl dX7_without_12 ?_
      refine lv_icmp_ge (tgt := 39) hx hb dX7_without_13 (by decide) (fun cz13 => ?_) (fun cz13 => by exact (cz13 (nI_le (Nat.le_refl _) (by omega))).elim)
      refine lv_aload_n hx hb dX7_without_39 rfl (lv_at hl 1 rfl) ?_
      refine W.widen (k := 1) (n := 12) (by omega) (by omega) ?_
      subst hQ
      exact W.aret (v := .ref nq) hx hb hr (by first | exact Or.inl ⟨_, rfl⟩ | exact Or.inr ⟨_, rfl⟩) (Or.inr ⟨_, rfl⟩) (fun t ht hW => ⟨⟨some nq, wl10, rfl, ⟨hk, ⟨nq, hlen, L10_1, rfl⟩⟩, J.I X ht hW.alike⟩, J.F ht⟩) J.locs dX7_without_40
    | succ k9 ih_10 =>
      intro i hik wl10 H locs ls hk L10_0 L10_1 hlen J hl
      refine lv_iload_n hx hb dX7_without_10 rfl (lv_at hl 0 rfl) ?_
      refine lv_aload_n hx hb dX7_without_11 rfl (lv_at hl 1 rfl) ?_
      refine z_alenA (v := nI (n - 1)) X J (ws.length + 0) L10_1 rfl dX7_without_12 ?_
      refine lv_icmp_ge (tgt := 39) hx hb dX7_without_13 (by decide) (fun cz13 => by exact (nI_ge (by omega) (by omega) cz13).elim) (fun cz13 => ?_)
      refine lv_aload_n hx hb dX7_without_16 rfl (lv_at hl 1 rfl) ?_
      refine lv_iload_n hx hb dX7_without_17 rfl (lv_at hl 0 rfl) ?_
      refine lv_aload_n hx hb dX7_without_18 rfl (lv_at hl 2 rfl) ?_
      refine lv_iload_n hx hb dX7_without_19 rfl (lv_at hl 0 rfl) ?_
      refine lv_iload_n hx hb dX7_without_20 rfl (lv_at hl 3 rfl) ?_
      refine lv_icmp_ge (tgt := 28) hx hb dX7_without_21 (by decide) (fun cz21 => ?_) (fun cz21 => ?_)
      · obtain ⟨ja, jq, jm, jf, hgj, hjf⟩ := hel (i + 1) (by omega)
        have bjq := zlt hjf
        have hjf := hk.2 jq _ List.not_mem_nil hjf
        refine lv_iload_n hx hb dX7_without_28 rfl (lv_at hl 0 rfl) ?_
        refine lv_iconst (v := 1) hx hb dX7_without_29 (by decide) ?_
        refine lv_iadd hx hb dX7_without_30 ?_
        refine W.eq (g2 := F0 m 31 ls [.int (nI (i + 1)), .ref fe, .int (nI i), .ref nq]) (congrArg (fun z9 : Int32 => F0 m 31 ls [.int z9, .ref fe, .int (nI i), .ref nq]) (show ((nI i) + 1 : Int32) = nI (i + 1) from (nI_1 i))) ?_
        refine z_aaldA X J qf L10_0 (vp_in_nI (by omega) (by first | decide | omega)) dX7_without_31 ?_
        refine W.eq (g2 := F0 m 32 ls [va_rf (g (i + 1)), .int (nI i), .ref nq]) (congrArg (fun z9 : Option Nat => F0 m 32 ls [va_rf z9, .int (nI i), .ref nq]) (show (g (nI (i + 1)).toNatClampNeg : Option Nat) = g (i + 1) from (congrArg _ (nI_clamp (by omega))))) ?_
        refine W.eq (g2 := F0 m 32 ls [.ref ja, .int (nI i), .ref nq]) (by rw [show g (i + 1) = some ja from hgj]; rfl) ?_
        refine z_aastA X J (ws.length + 0) jq L10_1 hjf (vp_in_nI (by omega) (by first | decide | omega)) dX7_without_32 (fun H locs J => ?_)
        rw [show va_up (cpO (oG g w) i) (nI i).toNatClampNeg (some ja) = cpO (oG g w) (i + 1) from (by rw [nI_clamp (by omega)]; exact cpO_s (show oG g w i = some ja from (if_neg (fun q9 => absurd (nI_lt q9 (by omega)) (Int32.not_lt.mpr cz21))).trans hgj))] at J
        have hk := hk.setNew (q := (ws.length + 0)) (e := (nq, zA4 E (n - 1) (cpO (oG g w) (i + 1)))) (Nat.le_add_right _ _)
        have hlen : (wl10.set (ws.length + 0) (nq, zA4 E (n - 1) (cpO (oG g w) (i + 1)))).length = ws.length + 1 := (List.length_set ..).trans hlen
        have G2_0 := zset_ne (q := (ws.length + 0)) (e' := (nq, zA4 E (n - 1) (cpO (oG g w) (i + 1)))) (Nat.ne_of_gt (Nat.lt_of_lt_of_le bFa0 (Nat.le_add_right _ _))) L10_0
        have G2_1 := zset_eq (e' := (nq, zA4 E (n - 1) (cpO (oG g w) (i + 1)))) L10_1
        have G2_2 := zset_ne (q := (ws.length + 0)) (e' := (nq, zA4 E (n - 1) (cpO (oG g w) (i + 1)))) (by omega) hjf
        generalize hws2 : (wl10.set (ws.length + 0) (nq, zA4 E (n - 1) (cpO (oG g w) (i + 1)))) = ws_2 at J hlen hk G2_0 G2_1 G2_2
        refine lv_iinc (v := nI (i + 1)) (lv' := [(3, .int (nI (i + 1))), (2, .ref nq), (0, .ref fe), (1, .int (nI w))]) hx hb dX7_without_33 hl (k := 0) rfl (nI_1 i) (by decide) rfl (fun ls hl => ?_)
        refine lv_goto (tgt := 10) hx hb dX7_without_36 (by decide) ?_
        exact ih_10 (i + 1) (by omega) _ _ _ _ hk G2_0 G2_1 hlen J (lv_sub hl [0, 1, 2, 3] rfl)
      · obtain ⟨ja, jq, jm, jf, hgj, hjf⟩ := hel i (by omega)
        have bjq := zlt hjf
        have hjf := hk.2 jq _ List.not_mem_nil hjf
        refine lv_iload_n hx hb dX7_without_24 rfl (lv_at hl 0 rfl) ?_
        refine lv_goto (tgt := 31) hx hb dX7_without_25 (by decide) ?_
        refine z_aaldA X J qf L10_0 (vp_in_nI (by omega) (by first | decide | omega)) dX7_without_31 ?_
        refine W.eq (g2 := F0 m 32 ls [va_rf (g i), .int (nI i), .ref nq]) (congrArg (fun z9 : Option Nat => F0 m 32 ls [va_rf z9, .int (nI i), .ref nq]) (show (g (nI i).toNatClampNeg : Option Nat) = g i from (congrArg _ (nI_clamp (by omega))))) ?_
        refine W.eq (g2 := F0 m 32 ls [.ref ja, .int (nI i), .ref nq]) (by rw [show g i = some ja from hgj]; rfl) ?_
        refine z_aastA X J (ws.length + 0) jq L10_1 hjf (vp_in_nI (by omega) (by first | decide | omega)) dX7_without_32 (fun H locs J => ?_)
        rw [show va_up (cpO (oG g w) i) (nI i).toNatClampNeg (some ja) = cpO (oG g w) (i + 1) from (by rw [nI_clamp (by omega)]; exact cpO_s (show oG g w i = some ja from (if_pos (Nat.lt_of_not_le (fun q9 => cz21 (nI_le q9 (by omega))))).trans hgj))] at J
        have hk := hk.setNew (q := (ws.length + 0)) (e := (nq, zA4 E (n - 1) (cpO (oG g w) (i + 1)))) (Nat.le_add_right _ _)
        have hlen : (wl10.set (ws.length + 0) (nq, zA4 E (n - 1) (cpO (oG g w) (i + 1)))).length = ws.length + 1 := (List.length_set ..).trans hlen
        have G2_0 := zset_ne (q := (ws.length + 0)) (e' := (nq, zA4 E (n - 1) (cpO (oG g w) (i + 1)))) (Nat.ne_of_gt (Nat.lt_of_lt_of_le bFa0 (Nat.le_add_right _ _))) L10_0
        have G2_1 := zset_eq (e' := (nq, zA4 E (n - 1) (cpO (oG g w) (i + 1)))) L10_1
        have G2_2 := zset_ne (q := (ws.length + 0)) (e' := (nq, zA4 E (n - 1) (cpO (oG g w) (i + 1)))) (by omega) hjf
        generalize hws2 : (wl10.set (ws.length + 0) (nq, zA4 E (n - 1) (cpO (oG g w) (i + 1)))) = ws_2 at J hlen hk G2_0 G2_1 G2_2
        refine lv_iinc (v := nI (i + 1)) (lv' := [(3, .int (nI (i + 1))), (2, .ref nq), (0, .ref fe), (1, .int (nI w))]) hx hb dX7_without_33 hl (k := 0) rfl (nI_1 i) (by decide) rfl (fun ls hl => ?_)
        refine lv_goto (tgt := 10) hx hb dX7_without_36 (by decide) ?_
        exact ih_10 (i + 1) (by omega) _ _ _ _ hk G2_0 G2_1 hlen J (lv_sub hl [0, 1, 2, 3] rfl)
  exact loop_10 (n - 1) 0 (by omega) _ _ _ _ hk G1_0 (by rw [← cpO_0]; exact G1_n) hlen J (lv_sub hl [0, 1, 2, 3] rfl)
