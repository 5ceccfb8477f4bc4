set_option maxHeartbeats 4000000 in
set_option maxRecDepth 100000 in
theorem cX6_digest_ok (l : Launch) (hflags : l.flags = flags0) (E : zG) {ws : va_W} {x fl rl wh gr gra tr sc ea eb nf nr : Nat} {mc1 mc2 lim sup off plo hrs : Int32} {fa rd ri sn : Nat → Int32} (Fa0 : ws[0]? = some (x, .inr (7, [.ref fl, .ref rl, .ref wh, .ref gr, .ref tr, .ref sc, .int lim, .int sup, .int off, .int plo, .int hrs]))) (Fa1 : ws[1]? = some (fl, .inr (0, [.int mc1, .ref ea, .int (nI nf)]))) (Fa2 : ws[2]? = some (rl, .inr (0, [.int mc2, .ref eb, .int (nI nr)]))) (Fa3 : ws[3]? = some (wh, .inr (5, [.int (0 * 20 + 0), .int (nI 400), .int 0]))) (Fa4 : ws[4]? = some (gr, .inr (2, [.ref gra]))) (Fa5 : ws[5]? = some (gra, zI4 E 400 sn)) (hF : FS E ws fa ea nf) (hnf : nf ≤ 10) (hok : ∀ j, j < nf → okF fa j) (hR : RS E ws rd ri eb nr) (hnr : nr ≤ 4) (hor : ∀ q, q < nr → okR rd ri q) : Met l yX6_digest wsX6_digest ({ frames := 8, cells := 600, slots := 4000, locals := 126 } : Room) (va_Pc [.ref x] (zY E ws)) (va_Ql (fun (r : Int64) (ws' : va_W) => (zK [] ws ws') ∧ (r = dgF sn (dg2 (dgR sn rd ri lim) 5 (dg2 (aboutS fa sn) 7 (dgF (dgC nf nr lim sup off plo hrs sn rd ri) 1777 10) nf) nr) 400)) (zI E) (zA E)) 600 4000 (zA E) := by
  refine Met.ofW (cc := cX6_digest) (maxL := 5) (ret := (some .long)) (by decide) rfl ?_
  intro p e s m args below meth c s₁ B hml hv
  obtain ⟨hargs9, hI, hRz⟩ := hv
  have hx := B.exec
  have hb := B.bytes
  have hr := B.returns
  have hlocks := B.notSynchronized
  have X : zC E p m c cX6_digest 5 s args wsX6_digest RX6 := z_open B hml hI
  have hown := X.1.2.2.2.1
  have hts := X.1.2.2.2.2
  have J := hI.J
  have hi_X6 : ∀ w ∈ wsX60, w ∈ wsX6_digest := by decide +kernel
  have hk : zK [] ws ws := zK.rf
  have hl := lv_entry ([.ref x]) (n := 5) (Nat.le_of_ble_eq_true rfl)
  rw [show entryFrame m args 5 = entryFrame m ([.ref x] : List Value).toArray 5 from by rw [hargs9], lg_entry_eq]
  generalize (lg_sl ([.ref x]) ++ List.replicate (5 - (lg_sl ([.ref x])).length) Slot.unset).toArray = ls at hl ⊢
  have hl : lv_has ls 5 [(0, .ref x)] := hl
  generalize hQ : (MQ below (va_Ql (fun (r : Int64) (ws' : va_W) => (zK [] ws ws') ∧ (r = dgF sn (dg2 (dgR sn rd ri lim) 5 (dg2 (aboutS fa sn) 7 (dgF (dgC nf nr lim sup off plo hrs sn rd ri) 1777 10) nf) nr) 400)) (zI E) (zA E)) args s 600 4000 (zA E)) = QQ
  refine lv_ldc2 (v := 1777) hx hb hown (hts (.constantLong RX6 214 1777) (by decide +kernel)) dX6_digest_0 ?_
  refine W.eq (g2 := F0 m 3 ls [.long (dgF (dgC nf nr lim sup off plo hrs sn rd ri) 1777 0)]) (congrArg (fun z9 : Int64 => F0 m 3 ls [.long z9]) (show (1777 : Int64) = dgF (dgC nf nr lim sup off plo hrs sn rd ri) 1777 0 from rfl)) ?_
  refine lv_lstore_n (lv' := [(1, .long (dgF (dgC nf nr lim sup off plo hrs sn rd ri) 1777 0)), (0, .ref x)]) hx hb dX6_digest_3 rfl hl (by decide) rfl (fun ls hl => ?_)
  refine lv_iconst (v := nI 0) hx hb dX6_digest_4 rfl ?_
  refine lv_istore_n (lv' := [(3, .int (nI 0)), (1, .long (dgF (dgC nf nr lim sup off plo hrs sn rd ri) 1777 0)), (0, .ref x)]) hx hb dX6_digest_5 rfl hl (by decide) rfl (fun ls hl => ?_)
  have loop_6 : ∀ (k9 i : Nat), i + k9 = 10 → ∀ (wl6 : va_W) (H : Heap) (locs : List Loc) (ls : Array Slot), zK [] ws wl6 → wl6[0]? = some (x, .inr (7, [.ref fl, .ref rl, .ref wh, .ref gr, .ref tr, .ref sc, .int lim, .int sup, .int off, .int plo, .int hrs])) → wl6[1]? = some (fl, .inr (0, [.int mc1, .ref ea, .int (nI nf)])) → wl6[2]? = some (rl, .inr (0, [.int mc2, .ref eb, .int (nI nr)])) → wl6[3]? = some (wh, .inr (5, [.int (0 * 20 + 0), .int (nI 400), .int 0])) → wl6[4]? = some (gr, .inr (2, [.ref gra])) → wl6[5]? = some (gra, zI4 E 400 sn) → zJ E wl6 s H locs → lv_has ls 5 [(3, .int (nI i)), (1, .long (dgF (dgC nf nr lim sup off plo hrs sn rd ri) 1777 i)), (0, .ref x)] → W p l e (headSpec wsX6_digest ({ frames := 8, cells := 600, slots := 4000, locals := 126 } : Room)).room s m args below meth c H locs (6 * i) (40 * i) QQ (F0 m 6 ls []) := by
    intro k9
    induction k9 with
    | zero =>
      intro i hik wl6 H locs ls hk L6_0 L6_1 L6_2 L6_3 L6_4 L6_5 J hl
      obtain rfl : 10 = i := by omega
      refine lv_iload_n hx hb dX6_digest_6 rfl (lv_at hl 0 rfl) ?_
      refine lv_bipush (v := nI 10) hx hb dX6_digest_7 (by decide) ?_
      refine lv_icmp_ge (tgt := 31) hx hb dX6_digest_9 (by decide) (fun cz9 => ?_) (fun cz9 => by exact (cz9 (nI_le (Nat.le_refl _) (by omega))).elim)
      refine lv_iconst (v := nI 0) hx hb dX6_digest_31 rfl ?_
      refine lv_istore_n (lv' := [(3, .int (nI 0)), (1, .long (dgF (dgC nf nr lim sup off plo hrs sn rd ri) 1777 10)), (0, .ref x)]) hx hb dX6_digest_32 rfl hl (by decide) rfl (fun ls hl => ?_)
      have loop_33 : ∀ (k9 i : Nat), i + k9 = nf → ∀ (wl33 : va_W) (H : Heap) (locs : List Loc) (ls : Array Slot), zK [] ws wl33 → wl33[0]? = some (x, .inr (7, [.ref fl, .ref rl, .ref wh, .ref gr, .ref tr, .ref sc, .int lim, .int sup, .int off, .int plo, .int hrs])) → wl33[1]? = some (fl, .inr (0, [.int mc1, .ref ea, .int (nI nf)])) → wl33[2]? = some (rl, .inr (0, [.int mc2, .ref eb, .int (nI nr)])) → wl33[3]? = some (wh, .inr (5, [.int (0 * 20 + 0), .int (nI 400), .int 0])) → wl33[4]? = some (gr, .inr (2, [.ref gra])) → wl33[5]? = some (gra, zI4 E 400 sn) → zJ E wl33 s H locs → lv_has ls 5 [(3, .int (nI i)), (1, .long (dg2 (aboutS fa sn) 7 (dgF (dgC nf nr lim sup off plo hrs sn rd ri) 1777 10) i)), (0, .ref x)] → W p l e (headSpec wsX6_digest ({ frames := 8, cells := 600, slots := 4000, locals := 126 } : Room)).room s m args below meth c H locs (60 + 42 * i) (400 + 280 * i) QQ (F0 m 33 ls []) := by
        intro k9
        induction k9 with
        | zero =>
          intro i hik wl33 H locs ls hk L33_0 L33_1 L33_2 L33_3 L33_4 L33_5 J hl
          obtain rfl : nf = i := by omega
          refine lv_iload_n hx hb dX6_digest_33 rfl (lv_at hl 0 rfl) ?_
          refine lv_aload_n hx hb dX6_digest_34 rfl (lv_at hl 2 rfl) ?_
          refine z_get (C := RX6) (T := TX6) (N := 11) (ci := 7) (v := .ref fl) X J hi_X6 0 L33_0 rfl 0 (by decide) (by decide +kernel) rfl dX6_digest_35 ?_
          refine z_cr (z_rV (As := []) (rest := [.int (nI nf)]) (ci := 0) (q0 := 1) X J (cJx4a65c_size_8abf5_ok l E L33_1) (cwV 0 hts gX6_digest_Jx4a65c_size_8abf5 rfl rfl rfl (by decide +kernel) ⟨Nat.le_of_ble_eq_true rfl, Nat.le_of_ble_eq_true rfl⟩) L33_1 rfl rfl rfl hl.1 rfl (Nat.le_of_ble_eq_true rfl) dX6_digest_38 ⟨by show _ ≤ 600; omega, by show _ ≤ 4000; omega⟩) (fun r38 e_r38 => ?_)
          subst e_r38
          refine lv_icmp_ge (tgt := 81) hx hb dX6_digest_41 (by decide) (fun cz41 => ?_) (fun cz41 => by exact (cz41 (nI_le (Nat.le_refl _) (by omega))).elim)
          refine lv_iconst (v := nI 0) hx hb dX6_digest_81 rfl ?_
          refine lv_istore_n (lv' := [(3, .int (nI 0)), (1, .long (dg2 (aboutS fa sn) 7 (dgF (dgC nf nr lim sup off plo hrs sn rd ri) 1777 10) nf)), (0, .ref x)]) hx hb dX6_digest_82 rfl hl (by decide) rfl (fun ls hl => ?_)
          refine W.widen (k := 480 + 30 * 0) (n := 3200 + 200 * 0) (by omega) (by omega) ?_
          have loop_83 : ∀ (k9 i : Nat), i + k9 = nr → ∀ (wl83 : va_W) (H : Heap) (locs : List Loc) (ls : Array Slot), zK [] ws wl83 → wl83[0]? = some (x, .inr (7, [.ref fl, .ref rl, .ref wh, .ref gr, .ref tr, .ref sc, .int lim, .int sup, .int off, .int plo, .int hrs])) → wl83[1]? = some (fl, .inr (0, [.int mc1, .ref ea, .int (nI nf)])) → wl83[2]? = some (rl, .inr (0, [.int mc2, .ref eb, .int (nI nr)])) → wl83[3]? = some (wh, .inr (5, [.int (0 * 20 + 0), .int (nI 400), .int 0])) → wl83[4]? = some (gr, .inr (2, [.ref gra])) → wl83[5]? = some (gra, zI4 E 400 sn) → zJ E wl83 s H locs → lv_has ls 5 [(3, .int (nI i)), (1, .long (dg2 (dgR sn rd ri lim) 5 (dg2 (aboutS fa sn) 7 (dgF (dgC nf nr lim sup off plo hrs sn rd ri) 1777 10) nf) i)), (0, .ref x)] → W p l e (headSpec wsX6_digest ({ frames := 8, cells := 600, slots := 4000, locals := 126 } : Room)).room s m args below meth c H locs (480 + 30 * i) (3200 + 200 * i) QQ (F0 m 83 ls []) := by
            intro k9
            induction k9 with
            | zero =>
              intro i hik wl83 H locs ls hk L83_0 L83_1 L83_2 L83_3 L83_4 L83_5 J hl
              obtain rfl : nr = i := by omega
              refine lv_iload_n hx hb dX6_digest_83 rfl (lv_at hl 0 rfl) ?_
              refine lv_aload_n hx hb dX6_digest_84 rfl (lv_at hl 2 rfl) ?_
              refine z_get (C := RX6) (T := TX6) (N := 11) (ci := 7) (v := .ref rl) X J hi_X6 0 L83_0 rfl 1 (by decide) (by decide +kernel) rfl dX6_digest_85 ?_
              refine z_cr (z_rV (As := []) (rest := [.int (nI nr)]) (ci := 0) (q0 := 2) X J (cJx4a65c_size_8abf5_ok l E L83_2) (cwV 0 hts gX6_digest_Jx4a65c_size_8abf5 rfl rfl rfl (by decide +kernel) ⟨Nat.le_of_ble_eq_true rfl, Nat.le_of_ble_eq_true rfl⟩) L83_2 rfl rfl rfl hl.1 rfl (Nat.le_of_ble_eq_true rfl) dX6_digest_88 ⟨by show _ ≤ 600; omega, by show _ ≤ 4000; omega⟩) (fun r88 e_r88 => ?_)
              subst e_r88
              refine lv_icmp_ge (tgt := 130) hx hb dX6_digest_91 (by decide) (fun cz91 => ?_) (fun cz91 => by exact (cz91 (nI_le (Nat.le_refl _) (by omega))).elim)
              refine lv_iconst (v := nI 0) hx hb dX6_digest_130 rfl ?_
              refine lv_istore_n (lv' := [(3, .int (nI 0)), (1, .long (dg2 (dgR sn rd ri lim) 5 (dg2 (aboutS fa sn) 7 (dgF (dgC nf nr lim sup off plo hrs sn rd ri) 1777 10) nf) nr)), (0, .ref x)]) hx hb dX6_digest_131 rfl hl (by decide) rfl (fun ls hl => ?_)
              refine W.widen (k := 600) (n := 4000) (by omega) (by omega) ?_
              have loop_132 : ∀ (k9 i : Nat), i + k9 = 400 → ∀ (wl132 : va_W) (H : Heap) (locs : List Loc) (ls : Array Slot), zK [] ws wl132 → wl132[0]? = some (x, .inr (7, [.ref fl, .ref rl, .ref wh, .ref gr, .ref tr, .ref sc, .int lim, .int sup, .int off, .int plo, .int hrs])) → wl132[1]? = some (fl, .inr (0, [.int mc1, .ref ea, .int (nI nf)])) → wl132[2]? = some (rl, .inr (0, [.int mc2, .ref eb, .int (nI nr)])) → wl132[3]? = some (wh, .inr (5, [.int (0 * 20 + 0), .int (nI 400), .int 0])) → wl132[4]? = some (gr, .inr (2, [.ref gra])) → wl132[5]? = some (gra, zI4 E 400 sn) → zJ E wl132 s H locs → lv_has ls 5 [(3, .int (nI i)), (1, .long (dgF sn (dg2 (dgR sn rd ri lim) 5 (dg2 (aboutS fa sn) 7 (dgF (dgC nf nr lim sup off plo hrs sn rd ri) 1777 10) nf) nr) i)), (0, .ref x)] → W p l e (headSpec wsX6_digest ({ frames := 8, cells := 600, slots := 4000, locals := 126 } : Room)).room s m args below meth c H locs 600 4000 QQ (F0 m 132 ls []) := by
                intro k9
                induction k9 with
                | zero =>
                  intro i hik wl132 H locs ls hk L132_0 L132_1 L132_2 L132_3 L132_4 L132_5 J hl
                  obtain rfl : 400 = i := by omega
                  refine lv_iload_n hx hb dX6_digest_132 rfl (lv_at hl 0 rfl) ?_
                  refine lv_sipush (v := nI 400) hx hb dX6_digest_133 (by decide) ?_
                  refine lv_icmp_ge (tgt := 161) hx hb dX6_digest_136 (by decide) (fun cz136 => ?_) (fun cz136 => by exact (cz136 (nI_le (Nat.le_refl _) (by omega))).elim)
                  refine lv_lload_n hx hb dX6_digest_161 rfl (lv_at hl 1 rfl) ?_
                  subst hQ
                  exact W.lret (v := dgF sn (dg2 (dgR sn rd ri lim) 5 (dg2 (aboutS fa sn) 7 (dgF (dgC nf nr lim sup off plo hrs sn rd ri) 1777 10) nf) nr) 400) hx hb hr (fun t ht hW => ⟨⟨dgF sn (dg2 (dgR sn rd ri lim) 5 (dg2 (aboutS fa sn) 7 (dgF (dgC nf nr lim sup off plo hrs sn rd ri) 1777 10) nf) nr) 400, wl132, rfl, ⟨hk, rfl⟩, J.I X ht hW.alike⟩, J.F ht⟩) J.locs dX6_digest_162
                | succ k9 ih_132 =>
                  intro i hik wl132 H locs ls hk L132_0 L132_1 L132_2 L132_3 L132_4 L132_5 J hl
                  refine lv_iload_n hx hb dX6_digest_132 rfl (lv_at hl 0 rfl) ?_
                  refine lv_sipush (v := nI 400) hx hb dX6_digest_133 (by decide) ?_
                  refine lv_icmp_ge (tgt := 161) hx hb dX6_digest_136 (by decide) (fun cz136 => by exact (nI_ge (by omega) (by omega) cz136).elim) (fun cz136 => ?_)
                  refine lv_lload_n hx hb dX6_digest_139 rfl (lv_at hl 1 rfl) ?_
                  refine lv_ldc2 (v := 31) hx hb hown (hts (.constantLong RX6 216 31) (by decide +kernel)) dX6_digest_140 ?_
                  refine lv_lmul hx hb dX6_digest_143 ?_
                  refine lv_aload_n hx hb dX6_digest_144 rfl (lv_at hl 2 rfl) ?_
                  refine z_get (C := RX6) (T := TX6) (N := 11) (ci := 7) (v := .ref gr) X J hi_X6 0 L132_0 rfl 3 (by decide) (by decide +kernel) rfl dX6_digest_145 ?_
                  refine lv_iload_n hx hb dX6_digest_148 rfl (lv_at hl 0 rfl) ?_
                  refine z_cr (z_rV (As := [.int (nI i)]) (rest := [.long ((dgF sn (dg2 (dgR sn rd ri lim) 5 (dg2 (aboutS fa sn) 7 (dgF (dgC nf nr lim sup off plo hrs sn rd ri) 1777 10) nf) nr) i) * 31)]) (ci := 2) (q0 := 4) X J (cX1_depth_ok l E L132_4 L132_5) (cwV 1 hts gX6_digest_X1_depth rfl rfl rfl (by decide +kernel) ⟨Nat.le_of_ble_eq_true rfl, Nat.le_of_ble_eq_true rfl⟩) L132_4 rfl rfl rfl hl.1 rfl (Nat.le_of_ble_eq_true rfl) dX6_digest_149 ⟨by show _ ≤ 600; omega, by show _ ≤ 4000; omega⟩) (fun r149 e_r149 => ?_)
                  subst e_r149
                  refine W.eq (g2 := F0 m 152 ls [.int (sn i), .long ((dgF sn (dg2 (dgR sn rd ri lim) 5 (dg2 (aboutS fa sn) 7 (dgF (dgC nf nr lim sup off plo hrs sn rd ri) 1777 10) nf) nr) i) * 31)]) (congrArg (fun z9 : Int32 => F0 m 152 ls [.int z9, .long ((dgF sn (dg2 (dgR sn rd ri lim) 5 (dg2 (aboutS fa sn) 7 (dgF (dgC nf nr lim sup off plo hrs sn rd ri) 1777 10) nf) nr) i) * 31)]) (show (gd sn (nI i) : Int32) = sn i from (gd_nI (by omega)))) ?_
                  refine lv_i2l (v := (sn i).toInt64) hx hb dX6_digest_152 rfl ?_
                  refine lv_ladd hx hb dX6_digest_153 ?_
                  refine W.eq (g2 := F0 m 154 ls [.long (dgF sn (dg2 (dgR sn rd ri lim) 5 (dg2 (aboutS fa sn) 7 (dgF (dgC nf nr lim sup off plo hrs sn rd ri) 1777 10) nf) nr) (i + 1))]) (congrArg (fun z9 : Int64 => F0 m 154 ls [.long z9]) (show (((dgF sn (dg2 (dgR sn rd ri lim) 5 (dg2 (aboutS fa sn) 7 (dgF (dgC nf nr lim sup off plo hrs sn rd ri) 1777 10) nf) nr) i) * 31) + ((sn i).toInt64) : Int64) = dgF sn (dg2 (dgR sn rd ri lim) 5 (dg2 (aboutS fa sn) 7 (dgF (dgC nf nr lim sup off plo hrs sn rd ri) 1777 10) nf) nr) (i + 1) from rfl)) ?_
                  refine lv_lstore_n (lv' := [(1, .long (dgF sn (dg2 (dgR sn rd ri lim) 5 (dg2 (aboutS fa sn) 7 (dgF (dgC nf nr lim sup off plo hrs sn rd ri) 1777 10) nf) nr) (i + 1))), (3, .int (nI i)), (0, .ref x)]) hx hb dX6_digest_154 rfl hl (by decide) rfl (fun ls hl => ?_)
                  refine lv_iinc (v := nI (i + 1)) (lv' := [(3, .int (nI (i + 1))), (1, .long (dgF sn (dg2 (dgR sn rd ri lim) 5 (dg2 (aboutS fa sn) 7 (dgF (dgC nf nr lim sup off plo hrs sn rd ri) 1777 10) nf) nr) (i + 1))), (0, .ref x)]) hx hb dX6_digest_155 hl (k := 1) rfl (nI_1 i) (by decide) rfl (fun ls hl => ?_)
                  refine lv_goto (tgt := 132) hx hb dX6_digest_158 (by decide) ?_
                  exact ih_132 (i + 1) (by omega) _ _ _ _ hk L132_0 L132_1 L132_2 L132_3 L132_4 L132_5 J (lv_sub hl [0, 1, 2] rfl)
              exact loop_132 400 0 (by omega) _ _ _ _ hk L83_0 L83_1 L83_2 L83_3 L83_4 L83_5 J (lv_sub hl [0, 1, 2] rfl)
            | succ k9 ih_83 =>
              intro i hik wl83 H locs ls hk L83_0 L83_1 L83_2 L83_3 L83_4 L83_5 J hl
              refine lv_iload_n hx hb dX6_digest_83 rfl (lv_at hl 0 rfl) ?_
              refine lv_aload_n hx hb dX6_digest_84 rfl (lv_at hl 2 rfl) ?_
              refine z_get (C := RX6) (T := TX6) (N := 11) (ci := 7) (v := .ref rl) X J hi_X6 0 L83_0 rfl 1 (by decide) (by decide +kernel) rfl dX6_digest_85 ?_
              refine z_cr (z_rV (As := []) (rest := [.int (nI i)]) (ci := 0) (q0 := 2) X J (cJx4a65c_size_8abf5_ok l E L83_2) (cwV 0 hts gX6_digest_Jx4a65c_size_8abf5 rfl rfl rfl (by decide +kernel) ⟨Nat.le_of_ble_eq_true rfl, Nat.le_of_ble_eq_true rfl⟩) L83_2 rfl rfl rfl hl.1 rfl (Nat.le_of_ble_eq_true rfl) dX6_digest_88 ⟨by show _ ≤ 600; omega, by show _ ≤ 4000; omega⟩) (fun r88 e_r88 => ?_)
              subst e_r88
              refine lv_icmp_ge (tgt := 130) hx hb dX6_digest_91 (by decide) (fun cz91 => by exact (nI_ge (by omega) (by omega) cz91).elim) (fun cz91 => ?_)
              refine lv_iconst (v := nI 0) hx hb dX6_digest_94 rfl ?_
              refine lv_istore (lv' := [(4, .int (nI 0)), (3, .int (nI i)), (1, .long (dg2 (dgR sn rd ri lim) 5 (dg2 (aboutS fa sn) 7 (dgF (dgC nf nr lim sup off plo hrs sn rd ri) 1777 10) nf) i)), (0, .ref x)]) hx hb dX6_digest_95 hl (by decide) rfl (fun ls hl => ?_)
              have loop_97 : ∀ (k9 u : Nat), u + k9 = 5 → ∀ (wl97 : va_W) (H : Heap) (locs : List Loc) (ls : Array Slot), zK [] ws wl97 → wl97[0]? = some (x, .inr (7, [.ref fl, .ref rl, .ref wh, .ref gr, .ref tr, .ref sc, .int lim, .int sup, .int off, .int plo, .int hrs])) → wl97[1]? = some (fl, .inr (0, [.int mc1, .ref ea, .int (nI nf)])) → wl97[2]? = some (rl, .inr (0, [.int mc2, .ref eb, .int (nI nr)])) → wl97[3]? = some (wh, .inr (5, [.int (0 * 20 + 0), .int (nI 400), .int 0])) → wl97[4]? = some (gr, .inr (2, [.ref gra])) → wl97[5]? = some (gra, zI4 E 400 sn) → zJ E wl97 s H locs → lv_has ls 5 [(4, .int (nI u)), (3, .int (nI i)), (1, .long (dgF (dgR sn rd ri lim i) (dg2 (dgR sn rd ri lim) 5 (dg2 (aboutS fa sn) 7 (dgF (dgC nf nr lim sup off plo hrs sn rd ri) 1777 10) nf) i) u)), (0, .ref x)] → W p l e (headSpec wsX6_digest ({ frames := 8, cells := 600, slots := 4000, locals := 126 } : Room)).room s m args below meth c H locs (480 + 30 * i + 6 * u) (3200 + 200 * i + 40 * u) QQ (F0 m 97 ls []) := by
                intro k9
                induction k9 with
                | zero =>
                  intro u hik wl97 H locs ls hk L97_0 L97_1 L97_2 L97_3 L97_4 L97_5 J hl
                  obtain rfl : 5 = u := by omega
                  refine lv_iload hx hb dX6_digest_97 (lv_at hl 0 rfl) ?_
                  refine lv_iconst (v := nI 5) hx hb dX6_digest_99 rfl ?_
                  refine lv_icmp_ge (tgt := 124) hx hb dX6_digest_100 (by decide) (fun cz100 => ?_) (fun cz100 => by exact (cz100 (nI_le (Nat.le_refl _) (by omega))).elim)
                  refine lv_iinc (v := nI (i + 1)) (lv' := [(3, .int (nI (i + 1))), (4, .int (nI 5)), (1, .long (dgF (dgR sn rd ri lim i) (dg2 (dgR sn rd ri lim) 5 (dg2 (aboutS fa sn) 7 (dgF (dgC nf nr lim sup off plo hrs sn rd ri) 1777 10) nf) i) 5)), (0, .ref x)]) hx hb dX6_digest_124 hl (k := 1) rfl (nI_1 i) (by decide) rfl (fun ls hl => ?_)
                  refine lv_goto (tgt := 83) hx hb dX6_digest_127 (by decide) ?_
                  have hl : lv_has ls 5 [(3, .int (nI (i + 1))), (4, .int (nI 5)), (1, .long (dg2 (dgR sn rd ri lim) 5 (dg2 (aboutS fa sn) 7 (dgF (dgC nf nr lim sup off plo hrs sn rd ri) 1777 10) nf) (i + 1))), (0, .ref x)] := lv_repl hl (congrArg (fun z9 : Int64 => ([(3, .int (nI (i + 1))), (4, .int (nI 5)), (1, .long z9), (0, .ref x)] : List (Nat × Value))) (show (dgF (dgR sn rd ri lim i) (dg2 (dgR sn rd ri lim) 5 (dg2 (aboutS fa sn) 7 (dgF (dgC nf nr lim sup off plo hrs sn rd ri) 1777 10) nf) i) 5 : Int64) = dg2 (dgR sn rd ri lim) 5 (dg2 (aboutS fa sn) 7 (dgF (dgC nf nr lim sup off plo hrs sn rd ri) 1777 10) nf) (i + 1) from rfl))
                  refine W.widen (k := (480 + 30 * (i + 1))) (n := (3200 + 200 * (i + 1))) (by omega) (by omega) ?_
                  exact ih_83 (i + 1) (by omega) _ _ _ _ hk L97_0 L97_1 L97_2 L97_3 L97_4 L97_5 J (lv_sub hl [0, 2, 3] rfl)
                | succ k9 ih_97 =>
                  intro u hik wl97 H locs ls hk L97_0 L97_1 L97_2 L97_3 L97_4 L97_5 J hl
                  refine lv_iload hx hb dX6_digest_97 (lv_at hl 0 rfl) ?_
                  refine lv_iconst (v := nI 5) hx hb dX6_digest_99 rfl ?_
                  refine lv_icmp_ge (tgt := 124) hx hb dX6_digest_100 (by decide) (fun cz100 => by exact (nI_ge (by omega) (by omega) cz100).elim) (fun cz100 => ?_)
                  refine lv_lload_n hx hb dX6_digest_103 rfl (lv_at hl 2 rfl) ?_
                  refine lv_ldc2 (v := 31) hx hb hown (hts (.constantLong RX6 216 31) (by decide +kernel)) dX6_digest_104 ?_
                  refine lv_lmul hx hb dX6_digest_107 ?_
                  refine lv_aload_n hx hb dX6_digest_108 rfl (lv_at hl 3 rfl) ?_
                  refine lv_iload_n hx hb dX6_digest_109 rfl (lv_at hl 1 rfl) ?_
                  refine lv_iload hx hb dX6_digest_110 (lv_at hl 0 rfl) ?_
                  refine z_xi J (z_yV (As := [.int (nI i), .int (nI u)]) (rest := [.long ((dgF (dgR sn rd ri lim i) (dg2 (dgR sn rd ri lim) 5 (dg2 (aboutS fa sn) 7 (dgF (dgC nf nr lim sup off plo hrs sn rd ri) 1777 10) nf) i) u) * 31)]) (ci := 7) (q0 := 0) X hRz J (cX6_told_ok l hflags E L97_0 L97_2 L97_4 L97_5 (hR.keep hk (by decide)) (by first | assumption | omega | decide) (by first | assumption | omega | decide)) (cwV 2 hts gX6_digest_X6_told rfl rfl rfl (by decide +kernel) ⟨Nat.le_of_ble_eq_true rfl, Nat.le_of_ble_eq_true rfl⟩) L97_0 rfl rfl rfl hl.1 rfl (Nat.le_of_ble_eq_true rfl) dX6_digest_112 ⟨by show _ ≤ 600; omega, by show _ ≤ 4000; omega⟩) (fun nm ce q9 H locs hp9 J h1 h2 h3 => ?_) (fun r112 ws_1 H locs hp9 J => ?_)
                  · exact False.elim (by exact absurd hp9.1 (by rw [show kAsk (nI i) (nI nr) (nI u) 4 = 0 from if_pos ⟨inR_mk (by omega) (by omega), inR_mk (n := 5) (by omega) (by decide)⟩]; decide))
                  obtain ⟨rfl, e_r112⟩ := hp9
                  refine W.eq (g2 := F0 m 115 ls [.int (dgR sn rd ri lim i u), .long ((dgF (dgR sn rd ri lim i) (dg2 (dgR sn rd ri lim) 5 (dg2 (aboutS fa sn) 7 (dgF (dgC nf nr lim sup off plo hrs sn rd ri) 1777 10) nf) i) u) * 31)]) (congrArg (fun z9 : Int32 => F0 m 115 ls [.int z9, .long ((dgF (dgR sn rd ri lim i) (dg2 (dgR sn rd ri lim) 5 (dg2 (aboutS fa sn) 7 (dgF (dgC nf nr lim sup off plo hrs sn rd ri) 1777 10) nf) i) u) * 31)]) (show (r112 : Int32) = dgR sn rd ri lim i u from (by rw [e_r112.2, nI_clamp (by omega)]; rfl))) ?_
                  refine lv_i2l (v := (dgR sn rd ri lim i u).toInt64) hx hb dX6_digest_115 rfl ?_
                  refine lv_ladd hx hb dX6_digest_116 ?_
                  refine W.eq (g2 := F0 m 117 ls [.long (dgF (dgR sn rd ri lim i) (dg2 (dgR sn rd ri lim) 5 (dg2 (aboutS fa sn) 7 (dgF (dgC nf nr lim sup off plo hrs sn rd ri) 1777 10) nf) i) (u + 1))]) (congrArg (fun z9 : Int64 => F0 m 117 ls [.long z9]) (show (((dgF (dgR sn rd ri lim i) (dg2 (dgR sn rd ri lim) 5 (dg2 (aboutS fa sn) 7 (dgF (dgC nf nr lim sup off plo hrs sn rd ri) 1777 10) nf) i) u) * 31) + ((dgR sn rd ri lim i u).toInt64) : Int64) = dgF (dgR sn rd ri lim i) (dg2 (dgR sn rd ri lim) 5 (dg2 (aboutS fa sn) 7 (dgF (dgC nf nr lim sup off plo hrs sn rd ri) 1777 10) nf) i) (u + 1) from rfl)) ?_
                  refine lv_lstore_n (lv' := [(1, .long (dgF (dgR sn rd ri lim i) (dg2 (dgR sn rd ri lim) 5 (dg2 (aboutS fa sn) 7 (dgF (dgC nf nr lim sup off plo hrs sn rd ri) 1777 10) nf) i) (u + 1))), (4, .int (nI u)), (3, .int (nI i)), (0, .ref x)]) hx hb dX6_digest_117 rfl hl (by decide) rfl (fun ls hl => ?_)
                  refine lv_iinc (v := nI (u + 1)) (lv' := [(4, .int (nI (u + 1))), (1, .long (dgF (dgR sn rd ri lim i) (dg2 (dgR sn rd ri lim) 5 (dg2 (aboutS fa sn) 7 (dgF (dgC nf nr lim sup off plo hrs sn rd ri) 1777 10) nf) i) (u + 1))), (3, .int (nI i)), (0, .ref x)]) hx hb dX6_digest_118 hl (k := 1) rfl (nI_1 u) (by decide) rfl (fun ls hl => ?_)
                  refine lv_goto (tgt := 97) hx hb dX6_digest_121 (by decide) ?_
                  refine W.widen (k := (480 + 30 * i + 6 * (u + 1))) (n := (3200 + 200 * i + 40 * (u + 1))) (by omega) (by omega) ?_
                  exact ih_97 (u + 1) (by omega) _ _ _ _ hk L97_0 L97_1 L97_2 L97_3 L97_4 L97_5 J (lv_sub hl [0, 2, 1, 3] rfl)
              exact loop_97 5 0 (by omega) _ _ _ _ hk L83_0 L83_1 L83_2 L83_3 L83_4 L83_5 J (lv_sub hl [0, 1, 2, 3] rfl)
          exact loop_83 nr 0 (by omega) _ _ _ _ hk L33_0 L33_1 L33_2 L33_3 L33_4 L33_5 J (lv_sub hl [0, 1, 2] rfl)
        | succ k9 ih_33 =>
          intro i hik wl33 H locs ls hk L33_0 L33_1 L33_2 L33_3 L33_4 L33_5 J hl
          refine lv_iload_n hx hb dX6_digest_33 rfl (lv_at hl 0 rfl) ?_
          refine lv_aload_n hx hb dX6_digest_34 rfl (lv_at hl 2 rfl) ?_
          refine z_get (C := RX6) (T := TX6) (N := 11) (ci := 7) (v := .ref fl) X J hi_X6 0 L33_0 rfl 0 (by decide) (by decide +kernel) rfl dX6_digest_35 ?_
          refine z_cr (z_rV (As := []) (rest := [.int (nI i)]) (ci := 0) (q0 := 1) X J (cJx4a65c_size_8abf5_ok l E L33_1) (cwV 0 hts gX6_digest_Jx4a65c_size_8abf5 rfl rfl rfl (by decide +kernel) ⟨Nat.le_of_ble_eq_true rfl, Nat.le_of_ble_eq_true rfl⟩) L33_1 rfl rfl rfl hl.1 rfl (Nat.le_of_ble_eq_true rfl) dX6_digest_38 ⟨by show _ ≤ 600; omega, by show _ ≤ 4000; omega⟩) (fun r38 e_r38 => ?_)
          subst e_r38
          refine lv_icmp_ge (tgt := 81) hx hb dX6_digest_41 (by decide) (fun cz41 => by exact (nI_ge (by omega) (by omega) cz41).elim) (fun cz41 => ?_)
          refine lv_iconst (v := nI 0) hx hb dX6_digest_44 rfl ?_
          refine lv_istore (lv' := [(4, .int (nI 0)), (3, .int (nI i)), (1, .long (dg2 (aboutS fa sn) 7 (dgF (dgC nf nr lim sup off plo hrs sn rd ri) 1777 10) i)), (0, .ref x)]) hx hb dX6_digest_45 hl (by decide) rfl (fun ls hl => ?_)
          have loop_47 : ∀ (k9 u : Nat), u + k9 = 7 → ∀ (wl47 : va_W) (H : Heap) (locs : List Loc) (ls : Array Slot), zK [] ws wl47 → wl47[0]? = some (x, .inr (7, [.ref fl, .ref rl, .ref wh, .ref gr, .ref tr, .ref sc, .int lim, .int sup, .int off, .int plo, .int hrs])) → wl47[1]? = some (fl, .inr (0, [.int mc1, .ref ea, .int (nI nf)])) → wl47[2]? = some (rl, .inr (0, [.int mc2, .ref eb, .int (nI nr)])) → wl47[3]? = some (wh, .inr (5, [.int (0 * 20 + 0), .int (nI 400), .int 0])) → wl47[4]? = some (gr, .inr (2, [.ref gra])) → wl47[5]? = some (gra, zI4 E 400 sn) → zJ E wl47 s H locs → lv_has ls 5 [(4, .int (nI u)), (3, .int (nI i)), (1, .long (dgF (aboutS fa sn i) (dg2 (aboutS fa sn) 7 (dgF (dgC nf nr lim sup off plo hrs sn rd ri) 1777 10) i) u)), (0, .ref x)] → W p l e (headSpec wsX6_digest ({ frames := 8, cells := 600, slots := 4000, locals := 126 } : Room)).room s m args below meth c H locs (60 + 42 * i + 6 * u) (400 + 280 * i + 40 * u) QQ (F0 m 47 ls []) := by
            intro k9
            induction k9 with
            | zero =>
              intro u hik wl47 H locs ls hk L47_0 L47_1 L47_2 L47_3 L47_4 L47_5 J hl
              obtain rfl : 7 = u := by omega
              refine lv_iload hx hb dX6_digest_47 (lv_at hl 0 rfl) ?_
              refine lv_bipush (v := nI 7) hx hb dX6_digest_49 (by decide) ?_
              refine lv_icmp_ge (tgt := 75) hx hb dX6_digest_51 (by decide) (fun cz51 => ?_) (fun cz51 => by exact (cz51 (nI_le (Nat.le_refl _) (by omega))).elim)
              refine lv_iinc (v := nI (i + 1)) (lv' := [(3, .int (nI (i + 1))), (4, .int (nI 7)), (1, .long (dgF (aboutS fa sn i) (dg2 (aboutS fa sn) 7 (dgF (dgC nf nr lim sup off plo hrs sn rd ri) 1777 10) i) 7)), (0, .ref x)]) hx hb dX6_digest_75 hl (k := 1) rfl (nI_1 i) (by decide) rfl (fun ls hl => ?_)
              refine lv_goto (tgt := 33) hx hb dX6_digest_78 (by decide) ?_
              have hl : lv_has ls 5 [(3, .int (nI (i + 1))), (4, .int (nI 7)), (1, .long (dg2 (aboutS fa sn) 7 (dgF (dgC nf nr lim sup off plo hrs sn rd ri) 1777 10) (i + 1))), (0, .ref x)] := lv_repl hl (congrArg (fun z9 : Int64 => ([(3, .int (nI (i + 1))), (4, .int (nI 7)), (1, .long z9), (0, .ref x)] : List (Nat × Value))) (show (dgF (aboutS fa sn i) (dg2 (aboutS fa sn) 7 (dgF (dgC nf nr lim sup off plo hrs sn rd ri) 1777 10) i) 7 : Int64) = dg2 (aboutS fa sn) 7 (dgF (dgC nf nr lim sup off plo hrs sn rd ri) 1777 10) (i + 1) from rfl))
              refine W.widen (k := (60 + 42 * (i + 1))) (n := (400 + 280 * (i + 1))) (by omega) (by omega) ?_
              exact ih_33 (i + 1) (by omega) _ _ _ _ hk L47_0 L47_1 L47_2 L47_3 L47_4 L47_5 J (lv_sub hl [0, 2, 3] rfl)
            | succ k9 ih_47 =>
              intro u hik wl47 H locs ls hk L47_0 L47_1 L47_2 L47_3 L47_4 L47_5 J hl
              refine lv_iload hx hb dX6_digest_47 (lv_at hl 0 rfl) ?_
              refine lv_bipush (v := nI 7) hx hb dX6_digest_49 (by decide) ?_
              refine lv_icmp_ge (tgt := 75) hx hb dX6_digest_51 (by decide) (fun cz51 => by exact (nI_ge (by omega) (by omega) cz51).elim) (fun cz51 => ?_)
              refine lv_lload_n hx hb dX6_digest_54 rfl (lv_at hl 2 rfl) ?_
              refine lv_ldc2 (v := 31) hx hb hown (hts (.constantLong RX6 216 31) (by decide +kernel)) dX6_digest_55 ?_
              refine lv_lmul hx hb dX6_digest_58 ?_
              refine lv_aload_n hx hb dX6_digest_59 rfl (lv_at hl 3 rfl) ?_
              refine lv_iload_n hx hb dX6_digest_60 rfl (lv_at hl 1 rfl) ?_
              refine lv_iload hx hb dX6_digest_61 (lv_at hl 0 rfl) ?_
              refine z_xi J (z_yV (As := [.int (nI i), .int (nI u)]) (rest := [.long ((dgF (aboutS fa sn i) (dg2 (aboutS fa sn) 7 (dgF (dgC nf nr lim sup off plo hrs sn rd ri) 1777 10) i) u) * 31)]) (ci := 7) (q0 := 0) X hRz J (cX6_about_ok l hflags E L47_0 L47_1 L47_4 L47_5 (hF.keep hk (by decide)) (by first | assumption | omega | decide) (by first | assumption | omega | decide)) (cwV 2 hts gX6_digest_X6_about rfl rfl rfl (by decide +kernel) ⟨Nat.le_of_ble_eq_true rfl, Nat.le_of_ble_eq_true rfl⟩) L47_0 rfl rfl rfl hl.1 rfl (Nat.le_of_ble_eq_true rfl) dX6_digest_63 ⟨by show _ ≤ 600; omega, by show _ ≤ 4000; omega⟩) (fun nm ce q9 H locs hp9 J h1 h2 h3 => ?_) (fun r63 ws_1 H locs hp9 J => ?_)
              · exact False.elim (by exact absurd hp9.1 (by rw [show kAsk (nI i) (nI nf) (nI u) 6 = 0 from if_pos ⟨inR_mk (by omega) (by omega), inR_mk (n := 7) (by omega) (by decide)⟩]; decide))
              obtain ⟨rfl, e_r63⟩ := hp9
              refine W.eq (g2 := F0 m 66 ls [.int (aboutS fa sn i u), .long ((dgF (aboutS fa sn i) (dg2 (aboutS fa sn) 7 (dgF (dgC nf nr lim sup off plo hrs sn rd ri) 1777 10) i) u) * 31)]) (congrArg (fun z9 : Int32 => F0 m 66 ls [.int z9, .long ((dgF (aboutS fa sn i) (dg2 (aboutS fa sn) 7 (dgF (dgC nf nr lim sup off plo hrs sn rd ri) 1777 10) i) u) * 31)]) (show (r63 : Int32) = aboutS fa sn i u from (by rw [e_r63.2, nI_clamp (by omega), nI_clamp (by omega)]))) ?_
              refine lv_i2l (v := (aboutS fa sn i u).toInt64) hx hb dX6_digest_66 rfl ?_
              refine lv_ladd hx hb dX6_digest_67 ?_
              refine W.eq (g2 := F0 m 68 ls [.long (dgF (aboutS fa sn i) (dg2 (aboutS fa sn) 7 (dgF (dgC nf nr lim sup off plo hrs sn rd ri) 1777 10) i) (u + 1))]) (congrArg (fun z9 : Int64 => F0 m 68 ls [.long z9]) (show (((dgF (aboutS fa sn i) (dg2 (aboutS fa sn) 7 (dgF (dgC nf nr lim sup off plo hrs sn rd ri) 1777 10) i) u) * 31) + ((aboutS fa sn i u).toInt64) : Int64) = dgF (aboutS fa sn i) (dg2 (aboutS fa sn) 7 (dgF (dgC nf nr lim sup off plo hrs sn rd ri) 1777 10) i) (u + 1) from rfl)) ?_
              refine lv_lstore_n (lv' := [(1, .long (dgF (aboutS fa sn i) (dg2 (aboutS fa sn) 7 (dgF (dgC nf nr lim sup off plo hrs sn rd ri) 1777 10) i) (u + 1))), (4, .int (nI u)), (3, .int (nI i)), (0, .ref x)]) hx hb dX6_digest_68 rfl hl (by decide) rfl (fun ls hl => ?_)
              refine lv_iinc (v := nI (u + 1)) (lv' := [(4, .int (nI (u + 1))), (1, .long (dgF (aboutS fa sn i) (dg2 (aboutS fa sn) 7 (dgF (dgC nf nr lim sup off plo hrs sn rd ri) 1777 10) i) (u + 1))), (3, .int (nI i)), (0, .ref x)]) hx hb dX6_digest_69 hl (k := 1) rfl (nI_1 u) (by decide) rfl (fun ls hl => ?_)
              refine lv_goto (tgt := 47) hx hb dX6_digest_72 (by decide) ?_
              refine W.widen (k := (60 + 42 * i + 6 * (u + 1))) (n := (400 + 280 * i + 40 * (u + 1))) (by omega) (by omega) ?_
              exact ih_47 (u + 1) (by omega) _ _ _ _ hk L47_0 L47_1 L47_2 L47_3 L47_4 L47_5 J (lv_sub hl [0, 2, 1, 3] rfl)
          exact loop_47 7 0 (by omega) _ _ _ _ hk L33_0 L33_1 L33_2 L33_3 L33_4 L33_5 J (lv_sub hl [0, 1, 2, 3] rfl)
      exact loop_33 nf 0 (by omega) _ _ _ _ hk L6_0 L6_1 L6_2 L6_3 L6_4 L6_5 J (lv_sub hl [0, 1, 2] rfl)
    | succ k9 ih_6 =>
      intro i hik wl6 H locs ls hk L6_0 L6_1 L6_2 L6_3 L6_4 L6_5 J hl
      refine lv_iload_n hx hb dX6_digest_6 rfl (lv_at hl 0 rfl) ?_
      refine lv_bipush (v := nI 10) hx hb dX6_digest_7 (by decide) ?_
      refine lv_icmp_ge (tgt := 31) hx hb dX6_digest_9 (by decide) (fun cz9 => by exact (nI_ge (by omega) (by omega) cz9).elim) (fun cz9 => ?_)
      refine lv_lload_n hx hb dX6_digest_12 rfl (lv_at hl 1 rfl) ?_
      refine lv_ldc2 (v := 31) hx hb hown (hts (.constantLong RX6 216 31) (by decide +kernel)) dX6_digest_13 ?_
      refine lv_lmul hx hb dX6_digest_16 ?_
      refine lv_aload_n hx hb dX6_digest_17 rfl (lv_at hl 2 rfl) ?_
      refine lv_iload_n hx hb dX6_digest_18 rfl (lv_at hl 0 rfl) ?_
      refine z_xi J (z_yV (As := [.int (nI i)]) (rest := [.long ((dgF (dgC nf nr lim sup off plo hrs sn rd ri) 1777 i) * 31)]) (ci := 7) (q0 := 0) X hRz J (cX6_count_ok l hflags E L6_0 L6_1 L6_2 L6_3 L6_4 L6_5 (hR.keep hk (by decide)) (by first | assumption | omega | decide)) (cwV 1 hts gX6_digest_X6_count rfl rfl rfl (by decide +kernel) ⟨Nat.le_of_ble_eq_true rfl, Nat.le_of_ble_eq_true rfl⟩) L6_0 rfl rfl rfl hl.1 rfl (Nat.le_of_ble_eq_true rfl) dX6_digest_19 ⟨by show _ ≤ 600; omega, by show _ ≤ 4000; omega⟩) (fun nm ce q9 H locs hp9 J h1 h2 h3 => ?_) (fun r19 ws_1 H locs hp9 J => ?_)
      · exact False.elim (by exact absurd hp9.1 (by rw [show kCount (nI i) = 0 from if_pos (inR_mk (n := 10) (by omega) (by decide))]; decide))
      obtain ⟨rfl, e_r19⟩ := hp9
      refine W.eq (g2 := F0 m 22 ls [.int (dgC nf nr lim sup off plo hrs sn rd ri i), .long ((dgF (dgC nf nr lim sup off plo hrs sn rd ri) 1777 i) * 31)]) (congrArg (fun z9 : Int32 => F0 m 22 ls [.int z9, .long ((dgF (dgC nf nr lim sup off plo hrs sn rd ri) 1777 i) * 31)]) (show (r19 : Int32) = dgC nf nr lim sup off plo hrs sn rd ri i from e_r19.2)) ?_
      refine lv_i2l (v := (dgC nf nr lim sup off plo hrs sn rd ri i).toInt64) hx hb dX6_digest_22 rfl ?_
      refine lv_ladd hx hb dX6_digest_23 ?_
      refine W.eq (g2 := F0 m 24 ls [.long (dgF (dgC nf nr lim sup off plo hrs sn rd ri) 1777 (i + 1))]) (congrArg (fun z9 : Int64 => F0 m 24 ls [.long z9]) (show (((dgF (dgC nf nr lim sup off plo hrs sn rd ri) 1777 i) * 31) + ((dgC nf nr lim sup off plo hrs sn rd ri i).toInt64) : Int64) = dgF (dgC nf nr lim sup off plo hrs sn rd ri) 1777 (i + 1) from rfl)) ?_
      refine lv_lstore_n (lv' := [(1, .long (dgF (dgC nf nr lim sup off plo hrs sn rd ri) 1777 (i + 1))), (3, .int (nI i)), (0, .ref x)]) hx hb dX6_digest_24 rfl hl (by decide) rfl (fun ls hl => ?_)
      refine lv_iinc (v := nI (i + 1)) (lv' := [(3, .int (nI (i + 1))), (1, .long (dgF (dgC nf nr lim sup off plo hrs sn rd ri) 1777 (i + 1))), (0, .ref x)]) hx hb dX6_digest_25 hl (k := 1) rfl (nI_1 i) (by decide) rfl (fun ls hl => ?_)
      refine lv_goto (tgt := 6) hx hb dX6_digest_28 (by decide) ?_
      refine W.widen (k := (6 * (i + 1))) (n := (40 * (i + 1))) (by omega) (by omega) ?_
      exact ih_6 (i + 1) (by omega) _ _ _ _ hk L6_0 L6_1 L6_2 L6_3 L6_4 L6_5 J (lv_sub hl [0, 1, 2] rfl)
  exact loop_6 10 0 (by omega) _ _ _ _ hk Fa0 Fa1 Fa2 Fa3 Fa4 Fa5 J (lv_sub hl [0, 1, 2] rfl)
set_option maxHeartbeats 4000000 in
set_option maxRecDepth 100000 in
theorem cX6_init_ok (l : Launch) (hflags : l.flags = flags0) (E : zG) {ws : va_W} {qx x : Nat} (Fa0 : ws[qx]? = some (x, .inr (7, [.null, .null, .null, .null, .null, .null, .int 0, .int 0, .int 0, .int 0, .int 0])))  : Met l yX6_init wsX6_init ({ frames := 4, cells := 10, slots := 1620, locals := 72 } : Room) (va_Pc [.ref x] (zY E ws)) (va_Qv (fun (ws' : va_W) => (zK [qx] ws ws') ∧ (∃ fl rl wh gr gra tr tra sc ha va : Nat, ws'.length = ws.length + 10 ∧ (ws'[qx]? = some (x, .inr (7, [.ref fl, .ref rl, .ref wh, .ref gr, .ref tr, .ref sc, .int 15, .int 0, .int 0, .int 0, .int 0]))) ∧ (ws'[(ws.length + 0)]? = some (fl, .inr (0, [.int 0, .ref E.2.2.1, .int 0]))) ∧ (ws'[(ws.length + 1)]? = some (rl, .inr (0, [.int 0, .ref E.2.2.1, .int 0]))) ∧ (ws'[(ws.length + 2)]? = some (wh, .inr (5, [.int (0 * 20 + 0), .int 400, .int 0]))) ∧ (ws'[(ws.length + 3)]? = some (gr, .inr (2, [.ref gra]))) ∧ (ws'[(ws.length + 4)]? = some (gra, zI4 E 400 (fun _ => 0))) ∧ (ws'[(ws.length + 5)]? = some (tr, .inr (2, [.ref tra]))) ∧ (ws'[(ws.length + 6)]? = some (tra, zI4 E 400 (fun _ => 0))) ∧ (ws'[(ws.length + 7)]? = some (sc, .inr (4, [.ref ha, .ref va]))) ∧ (ws'[(ws.length + 8)]? = some (ha, zI4 E 400 (fun _ => 0))) ∧ (ws'[(ws.length + 9)]? = some (va, zI4 E 400 (fun _ => 0))))) (zI E) (zA E)) 10 1620 (zA E) := by
  refine Met.ofW (cc := cX6_init) (maxL := 1) (ret := none) (by decide) rfl ?_
  intro p e s m args below meth c s₁ B hml hv
  obtain ⟨hargs9, hI, hRz⟩ := hv
  have hx := B.exec
  have hb := B.bytes
  have hr := B.returns
  have hlocks := B.notSynchronized
  have X : zC E p m c cX6_init 1 s args wsX6_init RX6 := z_open B hml hI
  have hin9 : meth.name = "<init>" := (name_of_methodNamed B.named B.method).1
  have hown := X.1.2.2.2.1
  have hts := X.1.2.2.2.2
  have J := hI.J
  have hi_Jx4a65c : ∀ w ∈ wsJx4a65c0, w ∈ wsX6_init := by decide +kernel
  have hi_X1 : ∀ w ∈ wsX10, w ∈ wsX6_init := by decide +kernel
  have hi_X3 : ∀ w ∈ wsX30, w ∈ wsX6_init := by decide +kernel
  have hi_X4 : ∀ w ∈ wsX40, w ∈ wsX6_init := by decide +kernel
  have hi_X6 : ∀ w ∈ wsX60, w ∈ wsX6_init := by decide +kernel
  have hk : zK [qx] ws ws := zK.rf
  have hlen : ws.length = ws.length + 0 := rfl
  have bFa0 := zlt Fa0
  have hl := lv_entry ([.ref x]) (n := 1) (Nat.le_of_ble_eq_true rfl)
  rw [show entryFrame m args 1 = entryFrame m ([.ref x] : List Value).toArray 1 from by rw [hargs9], lg_entry_eq]
  generalize (lg_sl ([.ref x]) ++ List.replicate (1 - (lg_sl ([.ref x])).length) Slot.unset).toArray = ls at hl ⊢
  have hl : lv_has ls 1 [(0, .ref x)] := hl
  generalize hQ : (MQ below (va_Qv (fun (ws' : va_W) => (zK [qx] ws ws') ∧ (∃ fl rl wh gr gra tr tra sc ha va : Nat, ws'.length = ws.length + 10 ∧ (ws'[qx]? = some (x, .inr (7, [.ref fl, .ref rl, .ref wh, .ref gr, .ref tr, .ref sc, .int 15, .int 0, .int 0, .int 0, .int 0]))) ∧ (ws'[(ws.length + 0)]? = some (fl, .inr (0, [.int 0, .ref E.2.2.1, .int 0]))) ∧ (ws'[(ws.length + 1)]? = some (rl, .inr (0, [.int 0, .ref E.2.2.1, .int 0]))) ∧ (ws'[(ws.length + 2)]? = some (wh, .inr (5, [.int (0 * 20 + 0), .int 400, .int 0]))) ∧ (ws'[(ws.length + 3)]? = some (gr, .inr (2, [.ref gra]))) ∧ (ws'[(ws.length + 4)]? = some (gra, zI4 E 400 (fun _ => 0))) ∧ (ws'[(ws.length + 5)]? = some (tr, .inr (2, [.ref tra]))) ∧ (ws'[(ws.length + 6)]? = some (tra, zI4 E 400 (fun _ => 0))) ∧ (ws'[(ws.length + 7)]? = some (sc, .inr (4, [.ref ha, .ref va]))) ∧ (ws'[(ws.length + 8)]? = some (ha, zI4 E 400 (fun _ => 0))) ∧ (ws'[(ws.length + 9)]? = some (va, zI4 E 400 (fun _ => 0))))) (zI E) (zA E)) args s 10 1620 (zA E)) = QQ
  refine lv_aload_n hx hb dX6_init_0 rfl (lv_at hl 0 rfl) ?_
  refine W.objInit hx hb hown (hts (.methodLink RX6 1 objectInit) (by decide +kernel)) (hts (.instanceMethod objectInit) (by decide +kernel)) (hts (.code objectInit ⟨#[0xb1]⟩ 1 none) (by decide +kernel)) rfl (by rw [X.1.2.2.1]; exact hl.1) rfl dX6_init_1 (Nat.le_of_ble_eq_true rfl) (Nat.le_of_ble_eq_true rfl) ?_
  refine W.eq (g2 := F0 m 4 ls []) rfl ?_
  refine lv_aload_n hx hb dX6_init_4 rfl (lv_at hl 0 rfl) ?_
  refine z_new (C := RJx4a65c) (T := TJx4a65c) (N := 3) (ci := 0) (fs := [.int 0, .null, .int 0]) X J hi_Jx4a65c tyJx4a65c tyJx4a65c_ok (by decide +kernel) (by decide +kernel) (by decide +kernel) rfl (fun j hj => by rcases (show j = 0 ∨ j = 1 ∨ j = 2 by omega) with rfl | rfl | rfl <;> rfl) (Nat.le_of_ble_eq_true rfl) (Nat.le_of_ble_eq_true rfl) dX6_init_5 (fun q5 H J => ?_)
  have lp1 := hk.1
  have hk := hk.trans (zK.app (more := [(q5, .inr (0, [.int 0, .null, .int 0]))]))
  have hpn1 := hlen
  have hlen : (ws ++ ([(q5, .inr (0, [.int 0, .null, .int 0]))] : va_W)).length = ws.length + 1 := by rw [List.length_append, hlen]; rfl
  have bG1_0 := zlt Fa0
  have G1_0 := zapp (x := (q5, .inr (0, [.int 0, .null, .int 0]))) Fa0
  have G1_n := zapp_new (ws := ws) (x := (q5, .inr (0, [.int 0, .null, .int 0])))
  generalize hws1 : ws ++ [(q5, .inr (0, [.int 0, .null, .int 0]))] = ws_1 at J hk hlen G1_0 G1_n
  rw [hpn1] at lp1 G1_n bG1_0
  refine lv_dup hx hb dX6_init_8 rfl ?_
  refine z_cv J (z_rI (As := []) (rest := [.ref q5, .ref x]) X J (cJx4a65c_init_da8c8_ok l E G1_n) (cwI 0 hts gX6_init_Jx4a65c_init_da8c8 rfl rfl rfl (hts (.initialized RJx4a65c) (by decide +kernel)) (hts (.methodLink RX6 9 yJx4a65c_init_da8c8) (by decide +kernel)) (hts (.instanceMethod yJx4a65c_init_da8c8) (by decide +kernel)) rfl (by decide +kernel) ⟨Nat.le_of_ble_eq_true rfl, Nat.le_of_ble_eq_true rfl⟩) rfl hl.1 rfl (Nat.le_of_ble_eq_true rfl) dX6_init_9 ⟨Nat.le_of_ble_eq_true rfl, Nat.le_of_ble_eq_true rfl⟩) (fun ws_2 H locs hp9 J => ?_)
  obtain ⟨k2, hl9_2, G2_a0⟩ := hp9
  have hk := hk.transN k2 (fun q9 h9 => Or.inr (by rw [List.mem_singleton.mp h9]; exact Nat.le_add_right _ _))
  have G2_0 := k2.2 qx _ (fun h8 => absurd (List.mem_singleton.mp h8) (Nat.ne_of_lt (Nat.lt_of_lt_of_le bFa0 (Nat.le_add_right _ _)))) G1_0
  have hlen : ws_2.length = ws.length + 1 := by rw [hl9_2, hlen]
  refine z_putF (C := RX6) (T := TX6) (N := 11) (ci := 7) (v := .ref q5) X J hi_X6 tyX6 tyX6_ok nmX6 qx G2_0 rfl 0 (by decide) (by decide +kernel) rfl hin9 rfl rfl rfl (Nat.le_of_ble_eq_true rfl) dX6_init_12 (fun H locs J => ?_)
  have J : zJ E (ws_2.set qx (x, .inr (7, [.ref q5, .null, .null, .null, .null, .null, .int 0, .int 0, .int 0, .int 0, .int 0]))) s H locs := J
  have hk := hk.trans (zK.set (ws := ws_2) (q := qx) (e := (x, .inr (7, [.ref q5, .null, .null, .null, .null, .null, .int 0, .int 0, .int 0, .int 0, .int 0]))) (by simp))
  have hlen : (ws_2.set qx (x, .inr (7, [.ref q5, .null, .null, .null, .null, .null, .int 0, .int 0, .int 0, .int 0, .int 0]))).length = ws.length + 1 := (List.length_set ..).trans hlen
  have G3_0 := zset_eq (e' := (x, .inr (7, [.ref q5, .null, .null, .null, .null, .null, .int 0, .int 0, .int 0, .int 0, .int 0]))) G2_0
  have G3_1 := zset_ne (q := qx) (e' := (x, .inr (7, [.ref q5, .null, .null, .null, .null, .null, .int 0, .int 0, .int 0, .int 0, .int 0]))) (Nat.ne_of_lt (Nat.lt_of_lt_of_le bFa0 (Nat.le_add_right _ _))) G2_a0
  generalize hws3 : (ws_2.set qx (x, .inr (7, [.ref q5, .null, .null, .null, .null, .null, .int 0, .int 0, .int 0, .int 0, .int 0]))) = ws_3 at J hlen hk G3_0 G3_1
  refine lv_aload_n hx hb dX6_init_15 rfl (lv_at hl 0 rfl) ?_
  refine z_new (C := RJx4a65c) (T := TJx4a65c) (N := 3) (ci := 0) (fs := [.int 0, .null, .int 0]) X J hi_Jx4a65c tyJx4a65c tyJx4a65c_ok (by decide +kernel) (by decide +kernel) (by decide +kernel) rfl (fun j hj => by rcases (show j = 0 ∨ j = 1 ∨ j = 2 by omega) with rfl | rfl | rfl <;> rfl) (Nat.le_of_ble_eq_true rfl) (Nat.le_of_ble_eq_true rfl) dX6_init_16 (fun q16 H J => ?_)
  have lp4 := hk.1
  have hk := hk.trans (zK.app (more := [(q16, .inr (0, [.int 0, .null, .int 0]))]))
  have hpn4 := hlen
  have hlen : (ws_3 ++ ([(q16, .inr (0, [.int 0, .null, .int 0]))] : va_W)).length = ws.length + 2 := by rw [List.length_append, hlen]; rfl
  have bG4_0 := zlt G3_0
  have G4_0 := zapp (x := (q16, .inr (0, [.int 0, .null, .int 0]))) G3_0
  have bG4_1 := zlt G3_1
  have G4_1 := zapp (x := (q16, .inr (0, [.int 0, .null, .int 0]))) G3_1
  have G4_n := zapp_new (ws := ws_3) (x := (q16, .inr (0, [.int 0, .null, .int 0])))
  generalize hws4 : ws_3 ++ [(q16, .inr (0, [.int 0, .null, .int 0]))] = ws_4 at J hk hlen G4_0 G4_1 G4_n
  rw [hpn4] at lp4 G4_n bG4_0 bG4_1
  refine lv_dup hx hb dX6_init_19 rfl ?_
  refine z_cv J (z_rI (As := []) (rest := [.ref q16, .ref x]) X J (cJx4a65c_init_da8c8_ok l E G4_n) (cwI 0 hts gX6_init_Jx4a65c_init_da8c8 rfl rfl rfl (hts (.initialized RJx4a65c) (by decide +kernel)) (hts (.methodLink RX6 9 yJx4a65c_init_da8c8) (by decide +kernel)) (hts (.instanceMethod yJx4a65c_init_da8c8) (by decide +kernel)) rfl (by decide +kernel) ⟨Nat.le_of_ble_eq_true rfl, Nat.le_of_ble_eq_true rfl⟩) rfl hl.1 rfl (Nat.le_of_ble_eq_true rfl) dX6_init_20 ⟨Nat.le_of_ble_eq_true rfl, Nat.le_of_ble_eq_true rfl⟩) (fun ws_5 H locs hp9 J => ?_)
  obtain ⟨k5, hl9_5, G5_a0⟩ := hp9
  have hk := hk.transN k5 (fun q9 h9 => Or.inr (by rw [List.mem_singleton.mp h9]; exact Nat.le_add_right _ _))
  have G5_0 := k5.2 qx _ (fun h8 => absurd (List.mem_singleton.mp h8) (Nat.ne_of_lt (Nat.lt_of_lt_of_le bFa0 (Nat.le_add_right _ _)))) G4_0
  have G5_1 := k5.2 (ws.length + 0) _ (fun h8 => absurd (List.mem_singleton.mp h8) (fun h9 => absurd (Nat.add_left_cancel h9) (by decide))) G4_1
  have hlen : ws_5.length = ws.length + 2 := by rw [hl9_5, hlen]
  refine z_putF (C := RX6) (T := TX6) (N := 11) (ci := 7) (v := .ref q16) X J hi_X6 tyX6 tyX6_ok nmX6 qx G5_0 rfl 1 (by decide) (by decide +kernel) rfl hin9 rfl rfl rfl (Nat.le_of_ble_eq_true rfl) dX6_init_23 (fun H locs J => ?_)
  have J : zJ E (ws_5.set qx (x, .inr (7, [.ref q5, .ref q16, .null, .null, .null, .null, .int 0, .int 0, .int 0, .int 0, .int 0]))) s H locs := J
  have hk := hk.trans (zK.set (ws := ws_5) (q := qx) (e := (x, .inr (7, [.ref q5, .ref q16, .null, .null, .null, .null, .int 0, .int 0, .int 0, .int 0, .int 0]))) (by simp))
  have hlen : (ws_5.set qx (x, .inr (7, [.ref q5, .ref q16, .null, .null, .null, .null, .int 0, .int 0, .int 0, .int 0, .int 0]))).length = ws.length + 2 := (List.length_set ..).trans hlen
  have G6_0 := zset_eq (e' := (x, .inr (7, [.ref q5, .ref q16, .null, .null, .null, .null, .int 0, .int 0, .int 0, .int 0, .int 0]))) G5_0
  have G6_1 := zset_ne (q := qx) (e' := (x, .inr (7, [.ref q5, .ref q16, .null, .null, .null, .null, .int 0, .int 0, .int 0, .int 0, .int 0]))) (Nat.ne_of_lt (Nat.lt_of_lt_of_le bFa0 (Nat.le_add_right _ _))) G5_1
  have G6_2 := zset_ne (q := qx) (e' := (x, .inr (7, [.ref q5, .ref q16, .null, .null, .null, .null, .int 0, .int 0, .int 0, .int 0, .int 0]))) (Nat.ne_of_lt (Nat.lt_of_lt_of_le bFa0 (Nat.le_add_right _ _))) G5_a0
  generalize hws6 : (ws_5.set qx (x, .inr (7, [.ref q5, .ref q16, .null, .null, .null, .null, .int 0, .int 0, .int 0, .int 0, .int 0]))) = ws_6 at J hlen hk G6_0 G6_1 G6_2
  refine lv_aload_n hx hb dX6_init_26 rfl (lv_at hl 0 rfl) ?_
  refine z_new (C := RX4) (T := TX4) (N := 3) (ci := 5) (fs := [.int 0, .int 0, .int 0]) X J hi_X4 tyX4 tyX4_ok (by decide +kernel) (by decide +kernel) (by decide +kernel) rfl (fun j hj => by rcases (show j = 0 ∨ j = 1 ∨ j = 2 by omega) with rfl | rfl | rfl <;> rfl) (Nat.le_of_ble_eq_true rfl) (Nat.le_of_ble_eq_true rfl) dX6_init_27 (fun q27 H J => ?_)
  have lp7 := hk.1
  have hk := hk.trans (zK.app (more := [(q27, .inr (5, [.int 0, .int 0, .int 0]))]))
  have hpn7 := hlen
  have hlen : (ws_6 ++ ([(q27, .inr (5, [.int 0, .int 0, .int 0]))] : va_W)).length = ws.length + 3 := by rw [List.length_append, hlen]; rfl
  have bG7_0 := zlt G6_0
  have G7_0 := zapp (x := (q27, .inr (5, [.int 0, .int 0, .int 0]))) G6_0
  have bG7_1 := zlt G6_1
  have G7_1 := zapp (x := (q27, .inr (5, [.int 0, .int 0, .int 0]))) G6_1
  have bG7_2 := zlt G6_2
  have G7_2 := zapp (x := (q27, .inr (5, [.int 0, .int 0, .int 0]))) G6_2
  have G7_n := zapp_new (ws := ws_6) (x := (q27, .inr (5, [.int 0, .int 0, .int 0])))
  generalize hws7 : ws_6 ++ [(q27, .inr (5, [.int 0, .int 0, .int 0]))] = ws_7 at J hk hlen G7_0 G7_1 G7_2 G7_n
  rw [hpn7] at lp7 G7_n bG7_0 bG7_1 bG7_2
  refine lv_dup hx hb dX6_init_30 rfl ?_
  refine lv_iconst (v := 0) hx hb dX6_init_31 (by decide) ?_
  refine lv_iconst (v := 0) hx hb dX6_init_32 (by decide) ?_
  refine lv_sipush (v := 400) hx hb dX6_init_33 (by decide) ?_
  refine lv_iconst (v := 0) hx hb dX6_init_36 (by decide) ?_
  refine z_cv J (z_rI (As := [.int 0, .int 0, .int 400, .int 0]) (rest := [.ref q27, .ref x]) X J (cX4_init_ok l E G7_n (by decide)) (cwI 4 hts gX6_init_X4_init rfl rfl rfl (hts (.initialized RX4) (by decide +kernel)) (hts (.methodLink RX6 21 yX4_init) (by decide +kernel)) (hts (.instanceMethod yX4_init) (by decide +kernel)) rfl (by decide +kernel) ⟨Nat.le_of_ble_eq_true rfl, Nat.le_of_ble_eq_true rfl⟩) rfl hl.1 rfl (Nat.le_of_ble_eq_true rfl) dX6_init_37 ⟨Nat.le_of_ble_eq_true rfl, Nat.le_of_ble_eq_true rfl⟩) (fun ws_8 H locs hp9 J => ?_)
  obtain ⟨k8, hl9_8, G8_a0⟩ := hp9
  have hk := hk.transN k8 (fun q9 h9 => Or.inr (by rw [List.mem_singleton.mp h9]; exact Nat.le_add_right _ _))
  have G8_0 := k8.2 qx _ (fun h8 => absurd (List.mem_singleton.mp h8) (Nat.ne_of_lt (Nat.lt_of_lt_of_le bFa0 (Nat.le_add_right _ _)))) G7_0
  have G8_1 := k8.2 (ws.length + 0) _ (fun h8 => absurd (List.mem_singleton.mp h8) (fun h9 => absurd (Nat.add_left_cancel h9) (by decide))) G7_1
  have G8_2 := k8.2 (ws.length + 1) _ (fun h8 => absurd (List.mem_singleton.mp h8) (fun h9 => absurd (Nat.add_left_cancel h9) (by decide))) G7_2
  have hlen : ws_8.length = ws.length + 3 := by rw [hl9_8, hlen]
  refine z_putF (C := RX6) (T := TX6) (N := 11) (ci := 7) (v := .ref q27) X J hi_X6 tyX6 tyX6_ok nmX6 qx G8_0 rfl 2 (by decide) (by decide +kernel) rfl hin9 rfl rfl rfl (Nat.le_of_ble_eq_true rfl) dX6_init_40 (fun H locs J => ?_)
  have J : zJ E (ws_8.set qx (x, .inr (7, [.ref q5, .ref q16, .ref q27, .null, .null, .null, .int 0, .int 0, .int 0, .int 0, .int 0]))) s H locs := J
  have hk := hk.trans (zK.set (ws := ws_8) (q := qx) (e := (x, .inr (7, [.ref q5, .ref q16, .ref q27, .null, .null, .null, .int 0, .int 0, .int 0, .int 0, .int 0]))) (by simp))
  have hlen : (ws_8.set qx (x, .inr (7, [.ref q5, .ref q16, .ref q27, .null, .null, .null, .int 0, .int 0, .int 0, .int 0, .int 0]))).length = ws.length + 3 := (List.length_set ..).trans hlen
  have G9_0 := zset_eq (e' := (x, .inr (7, [.ref q5, .ref q16, .ref q27, .null, .null, .null, .int 0, .int 0, .int 0, .int 0, .int 0]))) G8_0
  have G9_1 := zset_ne (q := qx) (e' := (x, .inr (7, [.ref q5, .ref q16, .ref q27, .null, .null, .null, .int 0, .int 0, .int 0, .int 0, .int 0]))) (Nat.ne_of_lt (Nat.lt_of_lt_of_le bFa0 (Nat.le_add_right _ _))) G8_1
  have G9_2 := zset_ne (q := qx) (e' := (x, .inr (7, [.ref q5, .ref q16, .ref q27, .null, .null, .null, .int 0, .int 0, .int 0, .int 0, .int 0]))) (Nat.ne_of_lt (Nat.lt_of_lt_of_le bFa0 (Nat.le_add_right _ _))) G8_2
  have G9_3 := zset_ne (q := qx) (e' := (x, .inr (7, [.ref q5, .ref q16, .ref q27, .null, .null, .null, .int 0, .int 0, .int 0, .int 0, .int 0]))) (Nat.ne_of_lt (Nat.lt_of_lt_of_le bFa0 (Nat.le_add_right _ _))) G8_a0
  generalize hws9 : (ws_8.set qx (x, .inr (7, [.ref q5, .ref q16, .ref q27, .null, .null, .null, .int 0, .int 0, .int 0, .int 0, .int 0]))) = ws_9 at J hlen hk G9_0 G9_1 G9_2 G9_3
  refine lv_aload_n hx hb dX6_init_43 rfl (lv_at hl 0 rfl) ?_
  refine z_new (C := RX1) (T := TX1) (N := 1) (ci := 2) (fs := [.null]) X J hi_X1 tyX1 tyX1_ok (by decide +kernel) (by decide +kernel) (by decide +kernel) rfl (fun j hj => by rcases (show j = 0 by omega) with rfl <;> rfl) (Nat.le_of_ble_eq_true rfl) (Nat.le_of_ble_eq_true rfl) dX6_init_44 (fun q44 H J => ?_)
  have lp10 := hk.1
  have hk := hk.trans (zK.app (more := [(q44, .inr (2, [.null]))]))
  have hpn10 := hlen
  have hlen : (ws_9 ++ ([(q44, .inr (2, [.null]))] : va_W)).length = ws.length + 4 := by rw [List.length_append, hlen]; rfl
  have bG10_0 := zlt G9_0
  have G10_0 := zapp (x := (q44, .inr (2, [.null]))) G9_0
  have bG10_1 := zlt G9_1
  have G10_1 := zapp (x := (q44, .inr (2, [.null]))) G9_1
  have bG10_2 := zlt G9_2
  have G10_2 := zapp (x := (q44, .inr (2, [.null]))) G9_2
  have bG10_3 := zlt G9_3
  have G10_3 := zapp (x := (q44, .inr (2, [.null]))) G9_3
  have G10_n := zapp_new (ws := ws_9) (x := (q44, .inr (2, [.null])))
  generalize hws10 : ws_9 ++ [(q44, .inr (2, [.null]))] = ws_10 at J hk hlen G10_0 G10_1 G10_2 G10_3 G10_n
  rw [hpn10] at lp10 G10_n bG10_0 bG10_1 bG10_2 bG10_3
  refine lv_dup hx hb dX6_init_47 rfl ?_
  refine z_cv J (z_rIN (As := []) (rest := [.ref q44, .ref x]) X J (cX1_init_ok l E G10_n) ⟨va_cnB 0 hts gX6_init_X1_init_n30 rfl rfl rfl hRz.2.2.2.2.2.2.2.1 (hts (.initialized RX1) (by decide +kernel)) (by decide +kernel) ⟨Nat.le_of_ble_eq_true rfl, Nat.le_of_ble_eq_true rfl⟩, rfl, hts (.instanceMethod yX1_init) (by decide +kernel)⟩ rfl hl.1 rfl (Nat.le_of_ble_eq_true rfl) dX6_init_48 ⟨Nat.le_of_ble_eq_true rfl, Nat.le_of_ble_eq_true rfl⟩) (fun ws_11 H locs hp9 J => ?_)
  obtain ⟨k11, ⟨ga_11, hlen11, G11_a0, N11_0⟩⟩ := hp9
  have hk := hk.transN k11 (fun q9 h9 => Or.inr (by rw [List.mem_singleton.mp h9]; exact Nat.le_add_right _ _))
  have G11_0 := k11.2 qx _ (fun h8 => absurd (List.mem_singleton.mp h8) (Nat.ne_of_lt (Nat.lt_of_lt_of_le bFa0 (Nat.le_add_right _ _)))) G10_0
  have G11_1 := k11.2 (ws.length + 0) _ (fun h8 => absurd (List.mem_singleton.mp h8) (fun h9 => absurd (Nat.add_left_cancel h9) (by decide))) G10_1
  have G11_2 := k11.2 (ws.length + 1) _ (fun h8 => absurd (List.mem_singleton.mp h8) (fun h9 => absurd (Nat.add_left_cancel h9) (by decide))) G10_2
  have G11_3 := k11.2 (ws.length + 2) _ (fun h8 => absurd (List.mem_singleton.mp h8) (fun h9 => absurd (Nat.add_left_cancel h9) (by decide))) G10_3
  rw [hlen, Nat.add_assoc] at N11_0
  have hlen : ws_11.length = ws.length + 5 := by rw [hlen11, hlen]
  refine z_putF (C := RX6) (T := TX6) (N := 11) (ci := 7) (v := .ref q44) X J hi_X6 tyX6 tyX6_ok nmX6 qx G11_0 rfl 3 (by decide) (by decide +kernel) rfl hin9 rfl rfl rfl (Nat.le_of_ble_eq_true rfl) dX6_init_51 (fun H locs J => ?_)
  have J : zJ E (ws_11.set qx (x, .inr (7, [.ref q5, .ref q16, .ref q27, .ref q44, .null, .null, .int 0, .int 0, .int 0, .int 0, .int 0]))) s H locs := J
  have hk := hk.trans (zK.set (ws := ws_11) (q := qx) (e := (x, .inr (7, [.ref q5, .ref q16, .ref q27, .ref q44, .null, .null, .int 0, .int 0, .int 0, .int 0, .int 0]))) (by simp))
  have hlen : (ws_11.set qx (x, .inr (7, [.ref q5, .ref q16, .ref q27, .ref q44, .null, .null, .int 0, .int 0, .int 0, .int 0, .int 0]))).length = ws.length + 5 := (List.length_set ..).trans hlen
  have G12_0 := zset_eq (e' := (x, .inr (7, [.ref q5, .ref q16, .ref q27, .ref q44, .null, .null, .int 0, .int 0, .int 0, .int 0, .int 0]))) G11_0
  have G12_1 := zset_ne (q := qx) (e' := (x, .inr (7, [.ref q5, .ref q16, .ref q27, .ref q44, .null, .null, .int 0, .int 0, .int 0, .int 0, .int 0]))) (Nat.ne_of_lt (Nat.lt_of_lt_of_le bFa0 (Nat.le_add_right _ _))) G11_1
  have G12_2 := zset_ne (q := qx) (e' := (x, .inr (7, [.ref q5, .ref q16, .ref q27, .ref q44, .null, .null, .int 0, .int 0, .int 0, .int 0, .int 0]))) (Nat.ne_of_lt (Nat.lt_of_lt_of_le bFa0 (Nat.le_add_right _ _))) G11_2
  have G12_3 := zset_ne (q := qx) (e' := (x, .inr (7, [.ref q5, .ref q16, .ref q27, .ref q44, .null, .null, .int 0, .int 0, .int 0, .int 0, .int 0]))) (Nat.ne_of_lt (Nat.lt_of_lt_of_le bFa0 (Nat.le_add_right _ _))) G11_3
  have G12_4 := zset_ne (q := qx) (e' := (x, .inr (7, [.ref q5, .ref q16, .ref q27, .ref q44, .null, .null, .int 0, .int 0, .int 0, .int 0, .int 0]))) (Nat.ne_of_lt (Nat.lt_of_lt_of_le bFa0 (Nat.le_add_right _ _))) G11_a0
  have G12_5 := zset_ne (q := qx) (e' := (x, .inr (7, [.ref q5, .ref q16, .ref q27, .ref q44, .null, .null, .int 0, .int 0, .int 0, .int 0, .int 0]))) (Nat.ne_of_lt (Nat.lt_of_lt_of_le bFa0 (Nat.le_add_right _ _))) N11_0
  generalize hws12 : (ws_11.set qx (x, .inr (7, [.ref q5, .ref q16, .ref q27, .ref q44, .null, .null, .int 0, .int 0, .int 0, .int 0, .int 0]))) = ws_12 at J hlen hk G12_0 G12_1 G12_2 G12_3 G12_4 G12_5
  refine lv_aload_n hx hb dX6_init_54 rfl (lv_at hl 0 rfl) ?_
  refine z_new (C := RX1) (T := TX1) (N := 1) (ci := 2) (fs := [.null]) X J hi_X1 tyX1 tyX1_ok (by decide +kernel) (by decide +kernel) (by decide +kernel) rfl (fun j hj => by rcases (show j = 0 by omega) with rfl <;> rfl) (Nat.le_of_ble_eq_true rfl) (Nat.le_of_ble_eq_true rfl) dX6_init_55 (fun q55 H J => ?_)
  have lp13 := hk.1
  have hk := hk.trans (zK.app (more := [(q55, .inr (2, [.null]))]))
  have hpn13 := hlen
  have hlen : (ws_12 ++ ([(q55, .inr (2, [.null]))] : va_W)).length = ws.length + 6 := by rw [List.length_append, hlen]; rfl
  have bG13_0 := zlt G12_0
  have G13_0 := zapp (x := (q55, .inr (2, [.null]))) G12_0
  have bG13_1 := zlt G12_1
  have G13_1 := zapp (x := (q55, .inr (2, [.null]))) G12_1
  have bG13_2 := zlt G12_2
  have G13_2 := zapp (x := (q55, .inr (2, [.null]))) G12_2
  have bG13_3 := zlt G12_3
  have G13_3 := zapp (x := (q55, .inr (2, [.null]))) G12_3
  have bG13_4 := zlt G12_4
  have G13_4 := zapp (x := (q55, .inr (2, [.null]))) G12_4
  have bG13_5 := zlt G12_5
  have G13_5 := zapp (x := (q55, .inr (2, [.null]))) G12_5
  have G13_n := zapp_new (ws := ws_12) (x := (q55, .inr (2, [.null])))
  generalize hws13 : ws_12 ++ [(q55, .inr (2, [.null]))] = ws_13 at J hk hlen G13_0 G13_1 G13_2 G13_3 G13_4 G13_5 G13_n
  rw [hpn13] at lp13 G13_n bG13_0 bG13_1 bG13_2 bG13_3 bG13_4 bG13_5
  refine lv_dup hx hb dX6_init_58 rfl ?_
  refine z_cv J (z_rIN (As := []) (rest := [.ref q55, .ref x]) X J (cX1_init_ok l E G13_n) ⟨va_cnB 0 hts gX6_init_X1_init_n30 rfl rfl rfl hRz.2.2.2.2.2.2.2.1 (hts (.initialized RX1) (by decide +kernel)) (by decide +kernel) ⟨Nat.le_of_ble_eq_true rfl, Nat.le_of_ble_eq_true rfl⟩, rfl, hts (.instanceMethod yX1_init) (by decide +kernel)⟩ rfl hl.1 rfl (Nat.le_of_ble_eq_true rfl) dX6_init_59 ⟨Nat.le_of_ble_eq_true rfl, Nat.le_of_ble_eq_true rfl⟩) (fun ws_14 H locs hp9 J => ?_)
  obtain ⟨k14, ⟨ga_14, hlen14, G14_a0, N14_0⟩⟩ := hp9
  have hk := hk.transN k14 (fun q9 h9 => Or.inr (by rw [List.mem_singleton.mp h9]; exact Nat.le_add_right _ _))
  have G14_0 := k14.2 qx _ (fun h8 => absurd (List.mem_singleton.mp h8) (Nat.ne_of_lt (Nat.lt_of_lt_of_le bFa0 (Nat.le_add_right _ _)))) G13_0
  have G14_1 := k14.2 (ws.length + 0) _ (fun h8 => absurd (List.mem_singleton.mp h8) (fun h9 => absurd (Nat.add_left_cancel h9) (by decide))) G13_1
  have G14_2 := k14.2 (ws.length + 1) _ (fun h8 => absurd (List.mem_singleton.mp h8) (fun h9 => absurd (Nat.add_left_cancel h9) (by decide))) G13_2
  have G14_3 := k14.2 (ws.length + 2) _ (fun h8 => absurd (List.mem_singleton.mp h8) (fun h9 => absurd (Nat.add_left_cancel h9) (by decide))) G13_3
  have G14_4 := k14.2 (ws.length + 3) _ (fun h8 => absurd (List.mem_singleton.mp h8) (fun h9 => absurd (Nat.add_left_cancel h9) (by decide))) G13_4
  have G14_5 := k14.2 (ws.length + 4) _ (fun h8 => absurd (List.mem_singleton.mp h8) (fun h9 => absurd (Nat.add_left_cancel h9) (by decide))) G13_5
  rw [hlen, Nat.add_assoc] at N14_0
  have hlen : ws_14.length = ws.length + 7 := by rw [hlen14, hlen]
  refine z_putF (C := RX6) (T := TX6) (N := 11) (ci := 7) (v := .ref q55) X J hi_X6 tyX6 tyX6_ok nmX6 qx G14_0 rfl 4 (by decide) (by decide +kernel) rfl hin9 rfl rfl rfl (Nat.le_of_ble_eq_true rfl) dX6_init_62 (fun H locs J => ?_)
  have J : zJ E (ws_14.set qx (x, .inr (7, [.ref q5, .ref q16, .ref q27, .ref q44, .ref q55, .null, .int 0, .int 0, .int 0, .int 0, .int 0]))) s H locs := J
  have hk := hk.trans (zK.set (ws := ws_14) (q := qx) (e := (x, .inr (7, [.ref q5, .ref q16, .ref q27, .ref q44, .ref q55, .null, .int 0, .int 0, .int 0, .int 0, .int 0]))) (by simp))
  have hlen : (ws_14.set qx (x, .inr (7, [.ref q5, .ref q16, .ref q27, .ref q44, .ref q55, .null, .int 0, .int 0, .int 0, .int 0, .int 0]))).length = ws.length + 7 := (List.length_set ..).trans hlen
  have G15_0 := zset_eq (e' := (x, .inr (7, [.ref q5, .ref q16, .ref q27, .ref q44, .ref q55, .null, .int 0, .int 0, .int 0, .int 0, .int 0]))) G14_0
  have G15_1 := zset_ne (q := qx) (e' := (x, .inr (7, [.ref q5, .ref q16, .ref q27, .ref q44, .ref q55, .null, .int 0, .int 0, .int 0, .int 0, .int 0]))) (Nat.ne_of_lt (Nat.lt_of_lt_of_le bFa0 (Nat.le_add_right _ _))) G14_1
  have G15_2 := zset_ne (q := qx) (e' := (x, .inr (7, [.ref q5, .ref q16, .ref q27, .ref q44, .ref q55, .null, .int 0, .int 0, .int 0, .int 0, .int 0]))) (Nat.ne_of_lt (Nat.lt_of_lt_of_le bFa0 (Nat.le_add_right _ _))) G14_2
  have G15_3 := zset_ne (q := qx) (e' := (x, .inr (7, [.ref q5, .ref q16, .ref q27, .ref q44, .ref q55, .null, .int 0, .int 0, .int 0, .int 0, .int 0]))) (Nat.ne_of_lt (Nat.lt_of_lt_of_le bFa0 (Nat.le_add_right _ _))) G14_3
  have G15_4 := zset_ne (q := qx) (e' := (x, .inr (7, [.ref q5, .ref q16, .ref q27, .ref q44, .ref q55, .null, .int 0, .int 0, .int 0, .int 0, .int 0]))) (Nat.ne_of_lt (Nat.lt_of_lt_of_le bFa0 (Nat.le_add_right _ _))) G14_4
  have G15_5 := zset_ne (q := qx) (e' := (x, .inr (7, [.ref q5, .ref q16, .ref q27, .ref q44, .ref q55, .null, .int 0, .int 0, .int 0, .int 0, .int 0]))) (Nat.ne_of_lt (Nat.lt_of_lt_of_le bFa0 (Nat.le_add_right _ _))) G14_5
  have G15_6 := zset_ne (q := qx) (e' := (x, .inr (7, [.ref q5, .ref q16, .ref q27, .ref q44, .ref q55, .null, .int 0, .int 0, .int 0, .int 0, .int 0]))) (Nat.ne_of_lt (Nat.lt_of_lt_of_le bFa0 (Nat.le_add_right _ _))) G14_a0
  have G15_7 := zset_ne (q := qx) (e' := (x, .inr (7, [.ref q5, .ref q16, .ref q27, .ref q44, .ref q55, .null, .int 0, .int 0, .int 0, .int 0, .int 0]))) (Nat.ne_of_lt (Nat.lt_of_lt_of_le bFa0 (Nat.le_add_right _ _))) N14_0
  generalize hws15 : (ws_14.set qx (x, .inr (7, [.ref q5, .ref q16, .ref q27, .ref q44, .ref q55, .null, .int 0, .int 0, .int 0, .int 0, .int 0]))) = ws_15 at J hlen hk G15_0 G15_1 G15_2 G15_3 G15_4 G15_5 G15_6 G15_7
  refine lv_aload_n hx hb dX6_init_65 rfl (lv_at hl 0 rfl) ?_
  refine z_new (C := RX3) (T := TX3) (N := 2) (ci := 4) (fs := [.null, .null]) X J hi_X3 tyX3 tyX3_ok (by decide +kernel) (by decide +kernel) (by decide +kernel) rfl (fun j hj => by rcases (show j = 0 ∨ j = 1 by omega) with rfl | rfl <;> rfl) (Nat.le_of_ble_eq_true rfl) (Nat.le_of_ble_eq_true rfl) dX6_init_66 (fun q66 H J => ?_)
  have lp16 := hk.1
  have hk := hk.trans (zK.app (more := [(q66, .inr (4, [.null, .null]))]))
  have hpn16 := hlen
  have hlen : (ws_15 ++ ([(q66, .inr (4, [.null, .null]))] : va_W)).length = ws.length + 8 := by rw [List.length_append, hlen]; rfl
  have bG16_0 := zlt G15_0
  have G16_0 := zapp (x := (q66, .inr (4, [.null, .null]))) G15_0
  have bG16_1 := zlt G15_1
  have G16_1 := zapp (x := (q66, .inr (4, [.null, .null]))) G15_1
  have bG16_2 := zlt G15_2
  have G16_2 := zapp (x := (q66, .inr (4, [.null, .null]))) G15_2
  have bG16_3 := zlt G15_3
  have G16_3 := zapp (x := (q66, .inr (4, [.null, .null]))) G15_3
  have bG16_4 := zlt G15_4
  have G16_4 := zapp (x := (q66, .inr (4, [.null, .null]))) G15_4
  have bG16_5 := zlt G15_5
  have G16_5 := zapp (x := (q66, .inr (4, [.null, .null]))) G15_5
  have bG16_6 := zlt G15_6
  have G16_6 := zapp (x := (q66, .inr (4, [.null, .null]))) G15_6
  have bG16_7 := zlt G15_7
  have G16_7 := zapp (x := (q66, .inr (4, [.null, .null]))) G15_7
  have G16_n := zapp_new (ws := ws_15) (x := (q66, .inr (4, [.null, .null])))
  generalize hws16 : ws_15 ++ [(q66, .inr (4, [.null, .null]))] = ws_16 at J hk hlen G16_0 G16_1 G16_2 G16_3 G16_4 G16_5 G16_6 G16_7 G16_n
  rw [hpn16] at lp16 G16_n bG16_0 bG16_1 bG16_2 bG16_3 bG16_4 bG16_5 bG16_6 bG16_7
  refine lv_dup hx hb dX6_init_69 rfl ?_
  refine z_cv J (z_rIN (As := []) (rest := [.ref q66, .ref x]) X J (cX3_init_ok l E G16_n) ⟨va_cnB 0 hts gX6_init_X3_init_n40 rfl rfl rfl hRz.2.2.2.2.2.2.2.2.1 (hts (.initialized RX3) (by decide +kernel)) (by decide +kernel) ⟨Nat.le_of_ble_eq_true rfl, Nat.le_of_ble_eq_true rfl⟩, rfl, hts (.instanceMethod yX3_init) (by decide +kernel)⟩ rfl hl.1 rfl (Nat.le_of_ble_eq_true rfl) dX6_init_70 ⟨Nat.le_of_ble_eq_true rfl, Nat.le_of_ble_eq_true rfl⟩) (fun ws_17 H locs hp9 J => ?_)
  obtain ⟨k17, ⟨ha_17, va_17, hlen17, G17_a0, N17_0, N17_1⟩⟩ := hp9
  have hk := hk.transN k17 (fun q9 h9 => Or.inr (by rw [List.mem_singleton.mp h9]; exact Nat.le_add_right _ _))
  have G17_0 := k17.2 qx _ (fun h8 => absurd (List.mem_singleton.mp h8) (Nat.ne_of_lt (Nat.lt_of_lt_of_le bFa0 (Nat.le_add_right _ _)))) G16_0
  have G17_1 := k17.2 (ws.length + 0) _ (fun h8 => absurd (List.mem_singleton.mp h8) (fun h9 => absurd (Nat.add_left_cancel h9) (by decide))) G16_1
  have G17_2 := k17.2 (ws.length + 1) _ (fun h8 => absurd (List.mem_singleton.mp h8) (fun h9 => absurd (Nat.add_left_cancel h9) (by decide))) G16_2
  have G17_3 := k17.2 (ws.length + 2) _ (fun h8 => absurd (List.mem_singleton.mp h8) (fun h9 => absurd (Nat.add_left_cancel h9) (by decide))) G16_3
  have G17_4 := k17.2 (ws.length + 3) _ (fun h8 => absurd (List.mem_singleton.mp h8) (fun h9 => absurd (Nat.add_left_cancel h9) (by decide))) G16_4
  have G17_5 := k17.2 (ws.length + 4) _ (fun h8 => absurd (List.mem_singleton.mp h8) (fun h9 => absurd (Nat.add_left_cancel h9) (by decide))) G16_5
  have G17_6 := k17.2 (ws.length + 5) _ (fun h8 => absurd (List.mem_singleton.mp h8) (fun h9 => absurd (Nat.add_left_cancel h9) (by decide))) G16_6
  have G17_7 := k17.2 (ws.length + 6) _ (fun h8 => absurd (List.mem_singleton.mp h8) (fun h9 => absurd (Nat.add_left_cancel h9) (by decide))) G16_7
  rw [hlen, Nat.add_assoc] at N17_0
  rw [hlen, Nat.add_assoc] at N17_1
  have hlen : ws_17.length = ws.length + 10 := by rw [hlen17, hlen]
  refine z_putF (C := RX6) (T := TX6) (N := 11) (ci := 7) (v := .ref q66) X J hi_X6 tyX6 tyX6_ok nmX6 qx G17_0 rfl 5 (by decide) (by decide +kernel) rfl hin9 rfl rfl rfl (Nat.le_of_ble_eq_true rfl) dX6_init_73 (fun H locs J => ?_)
  have J : zJ E (ws_17.set qx (x, .inr (7, [.ref q5, .ref q16, .ref q27, .ref q44, .ref q55, .ref q66, .int 0, .int 0, .int 0, .int 0, .int 0]))) s H locs := J
  have hk := hk.trans (zK.set (ws := ws_17) (q := qx) (e := (x, .inr (7, [.ref q5, .ref q16, .ref q27, .ref q44, .ref q55, .ref q66, .int 0, .int 0, .int 0, .int 0, .int 0]))) (by simp))
  have hlen : (ws_17.set qx (x, .inr (7, [.ref q5, .ref q16, .ref q27, .ref q44, .ref q55, .ref q66, .int 0, .int 0, .int 0, .int 0, .int 0]))).length = ws.length + 10 := (List.length_set ..).trans hlen
  have G18_0 := zset_eq (e' := (x, .inr (7, [.ref q5, .ref q16, .ref q27, .ref q44, .ref q55, .ref q66, .int 0, .int 0, .int 0, .int 0, .int 0]))) G17_0
  have G18_1 := zset_ne (q := qx) (e' := (x, .inr (7, [.ref q5, .ref q16, .ref q27, .ref q44, .ref q55, .ref q66, .int 0, .int 0, .int 0, .int 0, .int 0]))) (Nat.ne_of_lt (Nat.lt_of_lt_of_le bFa0 (Nat.le_add_right _ _))) G17_1
  have G18_2 := zset_ne (q := qx) (e' := (x, .inr (7, [.ref q5, .ref q16, .ref q27, .ref q44, .ref q55, .ref q66, .int 0, .int 0, .int 0, .int 0, .int 0]))) (Nat.ne_of_lt (Nat.lt_of_lt_of_le bFa0 (Nat.le_add_right _ _))) G17_2
  have G18_3 := zset_ne (q := qx) (e' := (x, .inr (7, [.ref q5, .ref q16, .ref q27, .ref q44, .ref q55, .ref q66, .int 0, .int 0, .int 0, .int 0, .int 0]))) (Nat.ne_of_lt (Nat.lt_of_lt_of_le bFa0 (Nat.le_add_right _ _))) G17_3
  have G18_4 := zset_ne (q := qx) (e' := (x, .inr (7, [.ref q5, .ref q16, .ref q27, .ref q44, .ref q55, .ref q66, .int 0, .int 0, .int 0, .int 0, .int 0]))) (Nat.ne_of_lt (Nat.lt_of_lt_of_le bFa0 (Nat.le_add_right _ _))) G17_4
  have G18_5 := zset_ne (q := qx) (e' := (x, .inr (7, [.ref q5, .ref q16, .ref q27, .ref q44, .ref q55, .ref q66, .int 0, .int 0, .int 0, .int 0, .int 0]))) (Nat.ne_of_lt (Nat.lt_of_lt_of_le bFa0 (Nat.le_add_right _ _))) G17_5
  have G18_6 := zset_ne (q := qx) (e' := (x, .inr (7, [.ref q5, .ref q16, .ref q27, .ref q44, .ref q55, .ref q66, .int 0, .int 0, .int 0, .int 0, .int 0]))) (Nat.ne_of_lt (Nat.lt_of_lt_of_le bFa0 (Nat.le_add_right _ _))) G17_6
  have G18_7 := zset_ne (q := qx) (e' := (x, .inr (7, [.ref q5, .ref q16, .ref q27, .ref q44, .ref q55, .ref q66, .int 0, .int 0, .int 0, .int 0, .int 0]))) (Nat.ne_of_lt (Nat.lt_of_lt_of_le bFa0 (Nat.le_add_right _ _))) G17_7
  have G18_8 := zset_ne (q := qx) (e' := (x, .inr (7, [.ref q5, .ref q16, .ref q27, .ref q44, .ref q55, .ref q66, .int 0, .int 0, .int 0, .int 0, .int 0]))) (Nat.ne_of_lt (Nat.lt_of_lt_of_le bFa0 (Nat.le_add_right _ _))) G17_a0
  have G18_9 := zset_ne (q := qx) (e' := (x, .inr (7, [.ref q5, .ref q16, .ref q27, .ref q44, .ref q55, .ref q66, .int 0, .int 0, .int 0, .int 0, .int 0]))) (Nat.ne_of_lt (Nat.lt_of_lt_of_le bFa0 (Nat.le_add_right _ _))) N17_0
  have G18_10 := zset_ne (q := qx) (e' := (x, .inr (7, [.ref q5, .ref q16, .ref q27, .ref q44, .ref q55, .ref q66, .int 0, .int 0, .int 0, .int 0, .int 0]))) (Nat.ne_of_lt (Nat.lt_of_lt_of_le bFa0 (Nat.le_add_right _ _))) N17_1
  generalize hws18 : (ws_17.set qx (x, .inr (7, [.ref q5, .ref q16, .ref q27, .ref q44, .ref q55, .ref q66, .int 0, .int 0, .int 0, .int 0, .int 0]))) = ws_18 at J hlen hk G18_0 G18_1 G18_2 G18_3 G18_4 G18_5 G18_6 G18_7 G18_8 G18_9 G18_10
  refine lv_aload_n hx hb dX6_init_76 rfl (lv_at hl 0 rfl) ?_
  refine lv_bipush (v := 15) hx hb dX6_init_77 (by decide) ?_
  refine z_put (C := RX6) (T := TX6) (N := 11) (ci := 7) (v := .int 15) X J hi_X6 tyX6 tyX6_ok nmX6 qx G18_0 rfl 6 (by decide) (by decide +kernel) rfl rfl rfl (Nat.le_of_ble_eq_true rfl) dX6_init_79 (fun H locs J => ?_)
  have J : zJ E (ws_18.set qx (x, .inr (7, [.ref q5, .ref q16, .ref q27, .ref q44, .ref q55, .ref q66, .int 15, .int 0, .int 0, .int 0, .int 0]))) s H locs := J
  have hk := hk.trans (zK.set (ws := ws_18) (q := qx) (e := (x, .inr (7, [.ref q5, .ref q16, .ref q27, .ref q44, .ref q55, .ref q66, .int 15, .int 0, .int 0, .int 0, .int 0]))) (by simp))
  have hlen : (ws_18.set qx (x, .inr (7, [.ref q5, .ref q16, .ref q27, .ref q44, .ref q55, .ref q66, .int 15, .int 0, .int 0, .int 0, .int 0]))).length = ws.length + 10 := (List.length_set ..).trans hlen
  have G19_0 := zset_eq (e' := (x, .inr (7, [.ref q5, .ref q16, .ref q27, .ref q44, .ref q55, .ref q66, .int 15, .int 0, .int 0, .int 0, .int 0]))) G18_0
  have G19_1 := zset_ne (q := qx) (e' := (x, .inr (7, [.ref q5, .ref q16, .ref q27, .ref q44, .ref q55, .ref q66, .int 15, .int 0, .int 0, .int 0, .int 0]))) (Nat.ne_of_lt (Nat.lt_of_lt_of_le bFa0 (Nat.le_add_right _ _))) G18_1
  have G19_2 := zset_ne (q := qx) (e' := (x, .inr (7, [.ref q5, .ref q16, .ref q27, .ref q44, .ref q55, .ref q66, .int 15, .int 0, .int 0, .int 0, .int 0]))) (Nat.ne_of_lt (Nat.lt_of_lt_of_le bFa0 (Nat.le_add_right _ _))) G18_2
  have G19_3 := zset_ne (q := qx) (e' := (x, .inr (7, [.ref q5, .ref q16, .ref q27, .ref q44, .ref q55, .ref q66, .int 15, .int 0, .int 0, .int 0, .int 0]))) (Nat.ne_of_lt (Nat.lt_of_lt_of_le bFa0 (Nat.le_add_right _ _))) G18_3
  have G19_4 := zset_ne (q := qx) (e' := (x, .inr (7, [.ref q5, .ref q16, .ref q27, .ref q44, .ref q55, .ref q66, .int 15, .int 0, .int 0, .int 0, .int 0]))) (Nat.ne_of_lt (Nat.lt_of_lt_of_le bFa0 (Nat.le_add_right _ _))) G18_4
  have G19_5 := zset_ne (q := qx) (e' := (x, .inr (7, [.ref q5, .ref q16, .ref q27, .ref q44, .ref q55, .ref q66, .int 15, .int 0, .int 0, .int 0, .int 0]))) (Nat.ne_of_lt (Nat.lt_of_lt_of_le bFa0 (Nat.le_add_right _ _))) G18_5
  have G19_6 := zset_ne (q := qx) (e' := (x, .inr (7, [.ref q5, .ref q16, .ref q27, .ref q44, .ref q55, .ref q66, .int 15, .int 0, .int 0, .int 0, .int 0]))) (Nat.ne_of_lt (Nat.lt_of_lt_of_le bFa0 (Nat.le_add_right _ _))) G18_6
  have G19_7 := zset_ne (q := qx) (e' := (x, .inr (7, [.ref q5, .ref q16, .ref q27, .ref q44, .ref q55, .ref q66, .int 15, .int 0, .int 0, .int 0, .int 0]))) (Nat.ne_of_lt (Nat.lt_of_lt_of_le bFa0 (Nat.le_add_right _ _))) G18_7
  have G19_8 := zset_ne (q := qx) (e' := (x, .inr (7, [.ref q5, .ref q16, .ref q27, .ref q44, .ref q55, .ref q66, .int 15, .int 0, .int 0, .int 0, .int 0]))) (Nat.ne_of_lt (Nat.lt_of_lt_of_le bFa0 (Nat.le_add_right _ _))) G18_8
  have G19_9 := zset_ne (q := qx) (e' := (x, .inr (7, [.ref q5, .ref q16, .ref q27, .ref q44, .ref q55, .ref q66, .int 15, .int 0, .int 0, .int 0, .int 0]))) (Nat.ne_of_lt (Nat.lt_of_lt_of_le bFa0 (Nat.le_add_right _ _))) G18_9
  have G19_10 := zset_ne (q := qx) (e' := (x, .inr (7, [.ref q5, .ref q16, .ref q27, .ref q44, .ref q55, .ref q66, .int 15, .int 0, .int 0, .int 0, .int 0]))) (Nat.ne_of_lt (Nat.lt_of_lt_of_le bFa0 (Nat.le_add_right _ _))) G18_10
  generalize hws19 : (ws_18.set qx (x, .inr (7, [.ref q5, .ref q16, .ref q27, .ref q44, .ref q55, .ref q66, .int 15, .int 0, .int 0, .int 0, .int 0]))) = ws_19 at J hlen hk G19_0 G19_1 G19_2 G19_3 G19_4 G19_5 G19_6 G19_7 G19_8 G19_9 G19_10
  refine W.widen (k := 10) (n := 1620) (by omega) (by omega) ?_
  subst hQ
  exact W.vret hx hb hr (fun t ht hW => ⟨⟨ws_19, rfl, ⟨hk, ⟨q5, q16, q27, q44, ga_11, q55, ga_14, q66, ha_17, va_17, hlen, G19_0, G19_1, G19_2, G19_3, G19_4, G19_5, G19_6, G19_7, G19_8, G19_9, G19_10⟩⟩, J.I X ht hW.alike⟩, J.F ht⟩) J.locs dX6_init_82
