set_option maxHeartbeats 400000 in
set_option maxRecDepth 100000 in
theorem cX7_mean_ok (l : Launch) (E : zG) {ws : va_W} {mo mf md mi ms9 mk mt nf nr : Nat} {th lim sup off plo hrs : Int32} {sn : Nat → Int32} (Fa0 : ws[11]? = some (mo, .inr (8, [.int th, .int (nI nf), .ref mf, .int (nI nr), .ref md, .ref mi, .int lim, .int sup, .int off, .int plo, .int hrs, .ref ms9, .ref mk, .ref mt]))) (Fa1 : ws[15]? = some (ms9, zI4 E 400 sn))  : Met l yX7_mean wsX7_mean ({ frames := 2, cells := 0, slots := 0, locals := 40 } : Room) (va_Pc [.ref mo] (zI E ws)) (va_Qd (fun (r : UInt64) (ws' : va_W) => (zK [11] ws ws') ∧ (ws'[11]? = some (mo, .inr (8, [.int 0, .int (nI nf), .ref mf, .int (nI nr), .ref md, .ref mi, .int lim, .int sup, .int off, .int plo, .int hrs, .ref ms9, .ref mk, .ref mt]))) ∧ (r = FP.ddiv (FP.i2d (allS 0 sn)) 4645744490609377280)) (zI E) (zA E)) 0 0 (zA E) := by
  refine Met.ofW (cc := cX7_mean) (maxL := 1) (ret := (some .double)) (by decide) rfl ?_
  intro p e s m args below meth c s₁ B hml hv
  obtain ⟨hargs9, hI⟩ := hv
  have hx := B.exec
  have hb := B.bytes
  have hr := B.returns
  have hlocks := B.notSynchronized
  have X : zC E p m c cX7_mean 1 s args wsX7_mean RX7 := z_open B hml hI
  have hown := X.1.2.2.2.1
  have hts := X.1.2.2.2.2
  have J := hI.J
  have hi_X7 : ∀ w ∈ wsX70, w ∈ wsX7_mean := by decide +kernel
  have hk : zK [11] ws ws := zK.rf
  have hl := lv_entry ([.ref mo]) (n := 1) (Nat.le_of_ble_eq_true rfl)
  rw [show entryFrame m args 1 = entryFrame m ([.ref mo] : List Value).toArray 1 from by rw [hargs9], lg_entry_eq]
  generalize (lg_sl ([.ref mo]) ++ List.replicate (1 - (lg_sl ([.ref mo])).length) Slot.unset).toArray = ls at hl ⊢
  have hl : lv_has ls 1 [(0, .ref mo)] := hl
  generalize hQ : (MQ below (va_Qd (fun (r : UInt64) (ws' : va_W) => (zK [11] ws ws') ∧ (ws'[11]? = some (mo, .inr (8, [.int 0, .int (nI nf), .ref mf, .int (nI nr), .ref md, .ref mi, .int lim, .int sup, .int off, .int plo, .int hrs, .ref ms9, .ref mk, .ref mt]))) ∧ (r = FP.ddiv (FP.i2d (allS 0 sn)) 4645744490609377280)) (zI E) (zA E)) args s 0 0 (zA E)) = QQ
  refine lv_aload_n hx hb dX7_mean_0 rfl (lv_at hl 0 rfl) ?_
  refine lv_iconst (v := 0) hx hb dX7_mean_1 (by decide) ?_
  refine z_put (C := RX7) (T := TX7) (N := 14) (ci := 8) (v := .int 0) X J hi_X7 tyX7 tyX7_ok nmX7 11 Fa0 rfl 0 (by decide) (by decide +kernel) rfl rfl rfl (Nat.le_of_ble_eq_true rfl) dX7_mean_2 (fun H locs J => ?_)
  have J : zJ E (ws.set 11 (mo, .inr (8, [.int 0, .int (nI nf), .ref mf, .int (nI nr), .ref md, .ref mi, .int lim, .int sup, .int off, .int plo, .int hrs, .ref ms9, .ref mk, .ref mt]))) s H locs := J
  have hk := hk.trans (zK.set (ws := ws) (q := 11) (e := (mo, .inr (8, [.int 0, .int (nI nf), .ref mf, .int (nI nr), .ref md, .ref mi, .int lim, .int sup, .int off, .int plo, .int hrs, .ref ms9, .ref mk, .ref mt]))) (by simp))
  have G1_0 := zset_eq (e' := (mo, .inr (8, [.int 0, .int (nI nf), .ref mf, .int (nI nr), .ref md, .ref mi, .int lim, .int sup, .int off, .int plo, .int hrs, .ref ms9, .ref mk, .ref mt]))) Fa0
  have G1_1 := zset_ne (q := 11) (e' := (mo, .inr (8, [.int 0, .int (nI nf), .ref mf, .int (nI nr), .ref md, .ref mi, .int lim, .int sup, .int off, .int plo, .int hrs, .ref ms9, .ref mk, .ref mt]))) (by decide) Fa1
  generalize hws1 : (ws.set 11 (mo, .inr (8, [.int 0, .int (nI nf), .ref mf, .int (nI nr), .ref md, .ref mi, .int lim, .int sup, .int off, .int plo, .int hrs, .ref ms9, .ref mk, .ref mt]))) = ws_1 at J hk G1_0 G1_1
  refine lv_aload_n hx hb dX7_mean_5 rfl (lv_at hl 0 rfl) ?_
  refine lv_iconst (v := 0) hx hb dX7_mean_6 (by decide) ?_
  refine z_cr (z_rV (As := [.int 0]) (rest := []) (ci := 8) (q0 := 11) X J (cX7_all_ok l E G1_0 G1_1) (cwV 1 hts gX7_mean_X7_all rfl rfl rfl (by decide +kernel) ⟨Nat.le_of_ble_eq_true rfl, Nat.le_of_ble_eq_true rfl⟩) G1_0 rfl rfl rfl hl.1 rfl (Nat.le_of_ble_eq_true rfl) dX7_mean_7 ⟨Nat.le_of_ble_eq_true rfl, Nat.le_of_ble_eq_true rfl⟩) (fun r7 e_r7 => ?_)
  subst e_r7
  refine lv_i2d hx hb dX7_mean_10 ?_
  refine lv_ldc2d (v := 4645744490609377280) hx hb hown (hts (.constantDouble RX7 155 4645744490609377280) (by decide +kernel)) dX7_mean_11 ?_
  refine lv_ddiv hx hb dX7_mean_14 (mean_n64 _) ?_
  subst hQ
  exact W.dret (v := FP.ddiv (FP.i2d (allS 0 sn)) 4645744490609377280) hx hb hr (fun t ht hW => ⟨⟨FP.ddiv (FP.i2d (allS 0 sn)) 4645744490609377280, ws_1, rfl, ⟨hk, G1_0, rfl⟩, J.I X ht hW.alike⟩, J.F ht⟩) J.locs dX7_mean_15
set_option maxHeartbeats 400000 in
set_option maxRecDepth 100000 in
theorem cX7_digest_ok (l : Launch) (E : zG) {ws : va_W} {mo mf md mi ms9 mk mt nf nr : Nat} {th lim sup off plo hrs : Int32} {fa rd ri sn : Nat → Int32} (Fa0 : ws[11]? = some (mo, .inr (8, [.int th, .int (nI nf), .ref mf, .int (nI nr), .ref md, .ref mi, .int lim, .int sup, .int off, .int plo, .int hrs, .ref ms9, .ref mk, .ref mt]))) (Fa1 : ws[12]? = some (mf, zI4 E 66 fa)) (Fa2 : ws[13]? = some (md, zI4 E 4 rd)) (Fa3 : ws[14]? = some (mi, zI4 E 4 ri)) (Fa4 : ws[15]? = some (ms9, zI4 E 400 sn)) (hnf : nf ≤ 10) (hok : ∀ j, j < nf → okF fa j) (hnr : nr ≤ 4) (hor : ∀ q, q < nr → okR rd ri q) : Met l yX7_digest wsX7_digest ({ frames := 4, cells := 0, slots := 0, locals := 88 } : Room) (va_Pc [.ref mo] (zI E ws)) (va_Ql (fun (r : Int64) (ws' : va_W) => (zK [11] ws ws') ∧ (ws'[11]? = some (mo, .inr (8, [.int 0, .int (nI nf), .ref mf, .int (nI nr), .ref md, .ref mi, .int lim, .int sup, .int off, .int plo, .int hrs, .ref ms9, .ref mk, .ref mt]))) ∧ (r = dgF sn (dg2 (dgR sn rd ri lim) 5 (dg2 (aboutS fa sn) 7 (dgF (dgC nf nr lim sup off plo hrs sn rd ri) 1777 10) nf) nr) 400)) (zI E) (zA E)) 0 0 (zA E) := by
  refine Met.ofW (cc := cX7_digest) (maxL := 7) (ret := (some .long)) (by decide) rfl ?_
  intro p e s m args below meth c s₁ B hml hv
  obtain ⟨hargs9, hI⟩ := hv
  have hx := B.exec
  have hb := B.bytes
  have hr := B.returns
  have hlocks := B.notSynchronized
  have X : zC E p m c cX7_digest 7 s args wsX7_digest RX7 := z_open B hml hI
  have hown := X.1.2.2.2.1
  have hts := X.1.2.2.2.2
  have J := hI.J
  have hi_X7 : ∀ w ∈ wsX70, w ∈ wsX7_digest := by decide +kernel
  have hk : zK [11] ws ws := zK.rf
  have hl := lv_entry ([.ref mo]) (n := 7) (Nat.le_of_ble_eq_true rfl)
  rw [show entryFrame m args 7 = entryFrame m ([.ref mo] : List Value).toArray 7 from by rw [hargs9], lg_entry_eq]
  generalize (lg_sl ([.ref mo]) ++ List.replicate (7 - (lg_sl ([.ref mo])).length) Slot.unset).toArray = ls at hl ⊢
  have hl : lv_has ls 7 [(0, .ref mo)] := hl
  generalize hQ : (MQ below (va_Ql (fun (r : Int64) (ws' : va_W) => (zK [11] ws ws') ∧ (ws'[11]? = some (mo, .inr (8, [.int 0, .int (nI nf), .ref mf, .int (nI nr), .ref md, .ref mi, .int lim, .int sup, .int off, .int plo, .int hrs, .ref ms9, .ref mk, .ref mt]))) ∧ (r = dgF sn (dg2 (dgR sn rd ri lim) 5 (dg2 (aboutS fa sn) 7 (dgF (dgC nf nr lim sup off plo hrs sn rd ri) 1777 10) nf) nr) 400)) (zI E) (zA E)) args s 0 0 (zA E)) = QQ
  refine lv_aload_n hx hb dX7_digest_0 rfl (lv_at hl 0 rfl) ?_
  refine lv_iconst (v := 0) hx hb dX7_digest_1 (by decide) ?_
  refine z_put (C := RX7) (T := TX7) (N := 14) (ci := 8) (v := .int 0) X J hi_X7 tyX7 tyX7_ok nmX7 11 Fa0 rfl 0 (by decide) (by decide +kernel) rfl rfl rfl (Nat.le_of_ble_eq_true rfl) dX7_digest_2 (fun H locs J => ?_)
  have J : zJ E (ws.set 11 (mo, .inr (8, [.int 0, .int (nI nf), .ref mf, .int (nI nr), .ref md, .ref mi, .int lim, .int sup, .int off, .int plo, .int hrs, .ref ms9, .ref mk, .ref mt]))) s H locs := J
  have hk := hk.trans (zK.set (ws := ws) (q := 11) (e := (mo, .inr (8, [.int 0, .int (nI nf), .ref mf, .int (nI nr), .ref md, .ref mi, .int lim, .int sup, .int off, .int plo, .int hrs, .ref ms9, .ref mk, .ref mt]))) (by simp))
  have G1_0 := zset_eq (e' := (mo, .inr (8, [.int 0, .int (nI nf), .ref mf, .int (nI nr), .ref md, .ref mi, .int lim, .int sup, .int off, .int plo, .int hrs, .ref ms9, .ref mk, .ref mt]))) Fa0
  have G1_1 := zset_ne (q := 11) (e' := (mo, .inr (8, [.int 0, .int (nI nf), .ref mf, .int (nI nr), .ref md, .ref mi, .int lim, .int sup, .int off, .int plo, .int hrs, .ref ms9, .ref mk, .ref mt]))) (by decide) Fa1
  have G1_2 := zset_ne (q := 11) (e' := (mo, .inr (8, [.int 0, .int (nI nf), .ref mf, .int (nI nr), .ref md, .ref mi, .int lim, .int sup, .int off, .int plo, .int hrs, .ref ms9, .ref mk, .ref mt]))) (by decide) Fa2
  have G1_3 := zset_ne (q := 11) (e' := (mo, .inr (8, [.int 0, .int (nI nf), .ref mf, .int (nI nr), .ref md, .ref mi, .int lim, .int sup, .int off, .int plo, .int hrs, .ref ms9, .ref mk, .ref mt]))) (by decide) Fa3
  have G1_4 := zset_ne (q := 11) (e' := (mo, .inr (8, [.int 0, .int (nI nf), .ref mf, .int (nI nr), .ref md, .ref mi, .int lim, .int sup, .int off, .int plo, .int hrs, .ref ms9, .ref mk, .ref mt]))) (by decide) Fa4
  generalize hws1 : (ws.set 11 (mo, .inr (8, [.int 0, .int (nI nf), .ref mf, .int (nI nr), .ref md, .ref mi, .int lim, .int sup, .int off, .int plo, .int hrs, .ref ms9, .ref mk, .ref mt]))) = ws_1 at J hk G1_0 G1_1 G1_2 G1_3 G1_4
  refine lv_ldc2 (v := 1777) hx hb hown (hts (.constantLong RX7 157 1777) (by decide +kernel)) dX7_digest_5 ?_
  refine W.eq (g2 := F0 m 8 ls [.long (dgF (dgC nf nr lim sup off plo hrs sn rd ri) 1777 0)]) (congrArg (fun z9 : Int64 => F0 m 8 ls [.long z9]) (show (1777 : Int64) = dgF (dgC nf nr lim sup off plo hrs sn rd ri) 1777 0 from rfl)) ?_
  refine lv_lstore_n (lv' := [(1, .long (dgF (dgC nf nr lim sup off plo hrs sn rd ri) 1777 0)), (0, .ref mo)]) hx hb dX7_digest_8 rfl hl (by decide) rfl (fun ls hl => ?_)
  refine lv_iconst (v := nI 0) hx hb dX7_digest_9 rfl ?_
  refine lv_istore_n (lv' := [(3, .int (nI 0)), (1, .long (dgF (dgC nf nr lim sup off plo hrs sn rd ri) 1777 0)), (0, .ref mo)]) hx hb dX7_digest_10 rfl hl (by decide) rfl (fun ls hl => ?_)
  have loop_11 : ∀ (k9 i : Nat), i + k9 = 10 → ∀ (wl11 : va_W) (H : Heap) (locs : List Loc) (ls : Array Slot), zK [11] ws wl11 → wl11[11]? = some (mo, .inr (8, [.int 0, .int (nI nf), .ref mf, .int (nI nr), .ref md, .ref mi, .int lim, .int sup, .int off, .int plo, .int hrs, .ref ms9, .ref mk, .ref mt])) → wl11[12]? = some (mf, zI4 E 66 fa) → wl11[13]? = some (md, zI4 E 4 rd) → wl11[14]? = some (mi, zI4 E 4 ri) → wl11[15]? = some (ms9, zI4 E 400 sn) → zJ E wl11 s H locs → lv_has ls 7 [(3, .int (nI i)), (1, .long (dgF (dgC nf nr lim sup off plo hrs sn rd ri) 1777 i)), (0, .ref mo)] → W p l e (headSpec wsX7_digest ({ frames := 4, cells := 0, slots := 0, locals := 88 } : Room)).room s m args below meth c H locs 0 0 QQ (F0 m 11 ls []) := by
    intro k9
    induction k9 with
    | zero =>
      intro i hik wl11 H locs ls hk L11_0 L11_1 L11_2 L11_3 L11_4 J hl
      obtain rfl : 10 = i := by omega
      refine lv_iload_n hx hb dX7_digest_11 rfl (lv_at hl 0 rfl) ?_
      refine lv_bipush (v := nI 9) hx hb dX7_digest_12 (by decide) ?_
      refine lv_icmp_gt (tgt := 36) hx hb dX7_digest_14 (by decide) (fun cz14 => ?_) (fun cz14 => by exact (cz14 (by decide)).elim)
      refine lv_iconst (v := nI 0) hx hb dX7_digest_36 rfl ?_
      refine lv_istore_n (lv' := [(3, .int (nI 0)), (1, .long (dgF (dgC nf nr lim sup off plo hrs sn rd ri) 1777 10)), (0, .ref mo)]) hx hb dX7_digest_37 rfl hl (by decide) rfl (fun ls hl => ?_)
      have loop_38 : ∀ (k9 i : Nat), i + k9 = nf → ∀ (wl38 : va_W) (H : Heap) (locs : List Loc) (ls : Array Slot), zK [11] ws wl38 → wl38[11]? = some (mo, .inr (8, [.int 0, .int (nI nf), .ref mf, .int (nI nr), .ref md, .ref mi, .int lim, .int sup, .int off, .int plo, .int hrs, .ref ms9, .ref mk, .ref mt])) → wl38[12]? = some (mf, zI4 E 66 fa) → wl38[13]? = some (md, zI4 E 4 rd) → wl38[14]? = some (mi, zI4 E 4 ri) → wl38[15]? = some (ms9, zI4 E 400 sn) → zJ E wl38 s H locs → lv_has ls 7 [(3, .int (nI i)), (1, .long (dg2 (aboutS fa sn) 7 (dgF (dgC nf nr lim sup off plo hrs sn rd ri) 1777 10) i)), (0, .ref mo)] → W p l e (headSpec wsX7_digest ({ frames := 4, cells := 0, slots := 0, locals := 88 } : Room)).room s m args below meth c H locs 0 0 QQ (F0 m 38 ls []) := by
        intro k9
        induction k9 with
        | zero =>
          intro i hik wl38 H locs ls hk L38_0 L38_1 L38_2 L38_3 L38_4 J hl
          obtain rfl : nf = i := by omega
          refine lv_iload_n hx hb dX7_digest_38 rfl (lv_at hl 0 rfl) ?_
          refine lv_aload_n hx hb dX7_digest_39 rfl (lv_at hl 2 rfl) ?_
          refine z_get (C := RX7) (T := TX7) (N := 14) (ci := 8) (v := .int (nI nf)) X J hi_X7 11 L38_0 rfl 1 (by decide) (by decide +kernel) rfl dX7_digest_40 ?_
          refine lv_icmp_ge (tgt := 83) hx hb dX7_digest_43 (by decide) (fun cz43 => ?_) (fun cz43 => by exact (cz43 (nI_le (Nat.le_refl _) (by omega))).elim)
          refine lv_iconst (v := nI 0) hx hb dX7_digest_83 rfl ?_
          refine lv_istore_n (lv' := [(3, .int (nI 0)), (1, .long (dg2 (aboutS fa sn) 7 (dgF (dgC nf nr lim sup off plo hrs sn rd ri) 1777 10) nf)), (0, .ref mo)]) hx hb dX7_digest_84 rfl hl (by decide) rfl (fun ls hl => ?_)
          have loop_85 : ∀ (k9 i : Nat), i + k9 = nr → ∀ (wl85 : va_W) (H : Heap) (locs : List Loc) (ls : Array Slot), zK [11] ws wl85 → wl85[11]? = some (mo, .inr (8, [.int 0, .int (nI nf), .ref mf, .int (nI nr), .ref md, .ref mi, .int lim, .int sup, .int off, .int plo, .int hrs, .ref ms9, .ref mk, .ref mt])) → wl85[12]? = some (mf, zI4 E 66 fa) → wl85[13]? = some (md, zI4 E 4 rd) → wl85[14]? = some (mi, zI4 E 4 ri) → wl85[15]? = some (ms9, zI4 E 400 sn) → zJ E wl85 s H locs → lv_has ls 7 [(3, .int (nI i)), (1, .long (dg2 (dgR sn rd ri lim) 5 (dg2 (aboutS fa sn) 7 (dgF (dgC nf nr lim sup off plo hrs sn rd ri) 1777 10) nf) i)), (0, .ref mo)] → W p l e (headSpec wsX7_digest ({ frames := 4, cells := 0, slots := 0, locals := 88 } : Room)).room s m args below meth c H locs 0 0 QQ (F0 m 85 ls []) := by
            intro k9
            induction k9 with
            | zero =>
              intro i hik wl85 H locs ls hk L85_0 L85_1 L85_2 L85_3 L85_4 J hl
              obtain rfl : nr = i := by omega
              refine lv_iload_n hx hb dX7_digest_85 rfl (lv_at hl 0 rfl) ?_
              refine lv_aload_n hx hb dX7_digest_86 rfl (lv_at hl 2 rfl) ?_
              refine z_get (C := RX7) (T := TX7) (N := 14) (ci := 8) (v := .int (nI nr)) X J hi_X7 11 L85_0 rfl 3 (by decide) (by decide +kernel) rfl dX7_digest_87 ?_
              refine lv_icmp_ge (tgt := 129) hx hb dX7_digest_90 (by decide) (fun cz90 => ?_) (fun cz90 => by exact (cz90 (nI_le (Nat.le_refl _) (by omega))).elim)
              refine lv_aload_n hx hb dX7_digest_129 rfl (lv_at hl 2 rfl) ?_
              refine z_get (C := RX7) (T := TX7) (N := 14) (ci := 8) (v := .ref ms9) X J hi_X7 11 L85_0 rfl 11 (by decide) (by decide +kernel) rfl dX7_digest_130 ?_
              refine lv_astore_n (lv' := [(3, .ref ms9), (1, .long (dg2 (dgR sn rd ri lim) 5 (dg2 (aboutS fa sn) 7 (dgF (dgC nf nr lim sup off plo hrs sn rd ri) 1777 10) nf) nr)), (0, .ref mo)]) hx hb dX7_digest_133 rfl hl (by decide) rfl (fun ls hl => ?_)
              refine lv_aload_n hx hb dX7_digest_134 rfl (lv_at hl 0 rfl) ?_
              refine z_alenI (v := nI 400) X J 15 L85_4 rfl dX7_digest_135 ?_
              refine lv_istore (lv' := [(4, .int (nI 400)), (3, .ref ms9), (1, .long (dg2 (dgR sn rd ri lim) 5 (dg2 (aboutS fa sn) 7 (dgF (dgC nf nr lim sup off plo hrs sn rd ri) 1777 10) nf) nr)), (0, .ref mo)]) hx hb dX7_digest_136 hl (by decide) rfl (fun ls hl => ?_)
              refine lv_iconst (v := nI 0) hx hb dX7_digest_138 rfl ?_
              refine lv_istore (lv' := [(5, .int (nI 0)), (4, .int (nI 400)), (3, .ref ms9), (1, .long (dg2 (dgR sn rd ri lim) 5 (dg2 (aboutS fa sn) 7 (dgF (dgC nf nr lim sup off plo hrs sn rd ri) 1777 10) nf) nr)), (0, .ref mo)]) hx hb dX7_digest_139 hl (by decide) rfl (fun ls hl => ?_)
              have loop_141 : ∀ (k9 i : Nat), i + k9 = 400 → ∀ (wl141 : va_W) (H : Heap) (locs : List Loc) (ls : Array Slot), zK [11] ws wl141 → wl141[11]? = some (mo, .inr (8, [.int 0, .int (nI nf), .ref mf, .int (nI nr), .ref md, .ref mi, .int lim, .int sup, .int off, .int plo, .int hrs, .ref ms9, .ref mk, .ref mt])) → wl141[12]? = some (mf, zI4 E 66 fa) → wl141[13]? = some (md, zI4 E 4 rd) → wl141[14]? = some (mi, zI4 E 4 ri) → wl141[15]? = some (ms9, zI4 E 400 sn) → zJ E wl141 s H locs → lv_has ls 7 [(5, .int (nI i)), (4, .int (nI 400)), (3, .ref ms9), (1, .long (dgF sn (dg2 (dgR sn rd ri lim) 5 (dg2 (aboutS fa sn) 7 (dgF (dgC nf nr lim sup off plo hrs sn rd ri) 1777 10) nf) nr) i)), (0, .ref mo)] → W p l e (headSpec wsX7_digest ({ frames := 4, cells := 0, slots := 0, locals := 88 } : Room)).room s m args below meth c H locs 0 0 QQ (F0 m 141 ls []) := by
                intro k9
                induction k9 with
                | zero =>
                  intro i hik wl141 H locs ls hk L141_0 L141_1 L141_2 L141_3 L141_4 J hl
                  obtain rfl : 400 = i := by omega
                  refine lv_iload hx hb dX7_digest_141 (lv_at hl 0 rfl) ?_
                  refine lv_iload hx hb dX7_digest_143 (lv_at hl 1 rfl) ?_
                  refine lv_icmp_ge (tgt := 170) hx hb dX7_digest_145 (by decide) (fun cz145 => ?_) (fun cz145 => by exact (cz145 (nI_le (Nat.le_refl _) (by omega))).elim)
                  refine lv_lload_n hx hb dX7_digest_170 rfl (lv_at hl 3 rfl) ?_
                  subst hQ
                  exact W.lret (v := dgF sn (dg2 (dgR sn rd ri lim) 5 (dg2 (aboutS fa sn) 7 (dgF (dgC nf nr lim sup off plo hrs sn rd ri) 1777 10) nf) nr) 400) hx hb hr (fun t ht hW => ⟨⟨dgF sn (dg2 (dgR sn rd ri lim) 5 (dg2 (aboutS fa sn) 7 (dgF (dgC nf nr lim sup off plo hrs sn rd ri) 1777 10) nf) nr) 400, wl141, rfl, ⟨hk, L141_0, rfl⟩, J.I X ht hW.alike⟩, J.F ht⟩) J.locs dX7_digest_171
                | succ k9 ih_141 =>
                  intro i hik wl141 H locs ls hk L141_0 L141_1 L141_2 L141_3 L141_4 J hl
                  refine lv_iload hx hb dX7_digest_141 (lv_at hl 0 rfl) ?_
                  refine lv_iload hx hb dX7_digest_143 (lv_at hl 1 rfl) ?_
                  refine lv_icmp_ge (tgt := 170) hx hb dX7_digest_145 (by decide) (fun cz145 => by exact (nI_ge (by omega) (by omega) cz145).elim) (fun cz145 => ?_)
                  refine lv_aload_n hx hb dX7_digest_148 rfl (lv_at hl 2 rfl) ?_
                  refine lv_iload hx hb dX7_digest_149 (lv_at hl 0 rfl) ?_
                  refine z_iald X J 15 L141_4 (vp_in_nI (by omega) (by decide)) dX7_digest_151 ?_
                  refine W.eq (g2 := F0 m 152 ls [.int (sn i)]) (congrArg (fun z9 : Int32 => F0 m 152 ls [.int z9]) (show (sn (nI i).toNatClampNeg : Int32) = sn i from (congrArg _ (nI_clamp (by omega))))) ?_
                  refine lv_istore (lv' := [(6, .int (sn i)), (5, .int (nI i)), (4, .int (nI 400)), (3, .ref ms9), (1, .long (dgF sn (dg2 (dgR sn rd ri lim) 5 (dg2 (aboutS fa sn) 7 (dgF (dgC nf nr lim sup off plo hrs sn rd ri) 1777 10) nf) nr) i)), (0, .ref mo)]) hx hb dX7_digest_152 hl (by decide) rfl (fun ls hl => ?_)
                  refine lv_lload_n hx hb dX7_digest_154 rfl (lv_at hl 4 rfl) ?_
                  refine lv_ldc2 (v := 31) hx hb hown (hts (.constantLong RX7 159 31) (by decide +kernel)) dX7_digest_155 ?_
                  refine lv_lmul hx hb dX7_digest_158 ?_
                  refine lv_iload hx hb dX7_digest_159 (lv_at hl 0 rfl) ?_
                  refine lv_i2l (v := (sn i).toInt64) hx hb dX7_digest_161 rfl ?_
                  refine lv_ladd hx hb dX7_digest_162 ?_
                  refine W.eq (g2 := F0 m 163 ls [.long (dgF sn (dg2 (dgR sn rd ri lim) 5 (dg2 (aboutS fa sn) 7 (dgF (dgC nf nr lim sup off plo hrs sn rd ri) 1777 10) nf) nr) (i + 1))]) (congrArg (fun z9 : Int64 => F0 m 163 ls [.long z9]) (show (((dgF sn (dg2 (dgR sn rd ri lim) 5 (dg2 (aboutS fa sn) 7 (dgF (dgC nf nr lim sup off plo hrs sn rd ri) 1777 10) nf) nr) i) * 31) + ((sn i).toInt64) : Int64) = dgF sn (dg2 (dgR sn rd ri lim) 5 (dg2 (aboutS fa sn) 7 (dgF (dgC nf nr lim sup off plo hrs sn rd ri) 1777 10) nf) nr) (i + 1) from rfl)) ?_
                  refine lv_lstore_n (lv' := [(1, .long (dgF sn (dg2 (dgR sn rd ri lim) 5 (dg2 (aboutS fa sn) 7 (dgF (dgC nf nr lim sup off plo hrs sn rd ri) 1777 10) nf) nr) (i + 1))), (6, .int (sn i)), (5, .int (nI i)), (4, .int (nI 400)), (3, .ref ms9), (0, .ref mo)]) hx hb dX7_digest_163 rfl hl (by decide) rfl (fun ls hl => ?_)
                  refine lv_iinc (v := nI (i + 1)) (lv' := [(5, .int (nI (i + 1))), (1, .long (dgF sn (dg2 (dgR sn rd ri lim) 5 (dg2 (aboutS fa sn) 7 (dgF (dgC nf nr lim sup off plo hrs sn rd ri) 1777 10) nf) nr) (i + 1))), (6, .int (sn i)), (4, .int (nI 400)), (3, .ref ms9), (0, .ref mo)]) hx hb dX7_digest_164 hl (k := 2) rfl (nI_1 i) (by decide) rfl (fun ls hl => ?_)
                  refine lv_goto (tgt := 141) hx hb dX7_digest_167 (by decide) ?_
                  exact ih_141 (i + 1) (by omega) _ _ _ _ hk L141_0 L141_1 L141_2 L141_3 L141_4 J (lv_sub hl [0, 3, 4, 1, 5] rfl)
              exact loop_141 400 0 (by omega) _ _ _ _ hk L85_0 L85_1 L85_2 L85_3 L85_4 J (lv_sub hl [0, 1, 2, 3, 4] rfl)
            | succ k9 ih_85 =>
              intro i hik wl85 H locs ls hk L85_0 L85_1 L85_2 L85_3 L85_4 J hl
              refine lv_iload_n hx hb dX7_digest_85 rfl (lv_at hl 0 rfl) ?_
              refine lv_aload_n hx hb dX7_digest_86 rfl (lv_at hl 2 rfl) ?_
              refine z_get (C := RX7) (T := TX7) (N := 14) (ci := 8) (v := .int (nI nr)) X J hi_X7 11 L85_0 rfl 3 (by decide) (by decide +kernel) rfl dX7_digest_87 ?_
              refine lv_icmp_ge (tgt := 129) hx hb dX7_digest_90 (by decide) (fun cz90 => by exact (nI_ge (by omega) (by omega) cz90).elim) (fun cz90 => ?_)
              refine lv_iconst (v := nI 0) hx hb dX7_digest_93 rfl ?_
              refine lv_istore (lv' := [(4, .int (nI 0)), (3, .int (nI i)), (1, .long (dg2 (dgR sn rd ri lim) 5 (dg2 (aboutS fa sn) 7 (dgF (dgC nf nr lim sup off plo hrs sn rd ri) 1777 10) nf) i)), (0, .ref mo)]) hx hb dX7_digest_94 hl (by decide) rfl (fun ls hl => ?_)
              have loop_96 : ∀ (k9 u : Nat), u + k9 = 5 → ∀ (wl96 : va_W) (H : Heap) (locs : List Loc) (ls : Array Slot), zK [11] ws wl96 → wl96[11]? = some (mo, .inr (8, [.int 0, .int (nI nf), .ref mf, .int (nI nr), .ref md, .ref mi, .int lim, .int sup, .int off, .int plo, .int hrs, .ref ms9, .ref mk, .ref mt])) → wl96[12]? = some (mf, zI4 E 66 fa) → wl96[13]? = some (md, zI4 E 4 rd) → wl96[14]? = some (mi, zI4 E 4 ri) → wl96[15]? = some (ms9, zI4 E 400 sn) → zJ E wl96 s H locs → lv_has ls 7 [(4, .int (nI u)), (3, .int (nI i)), (1, .long (dgF (dgR sn rd ri lim i) (dg2 (dgR sn rd ri lim) 5 (dg2 (aboutS fa sn) 7 (dgF (dgC nf nr lim sup off plo hrs sn rd ri) 1777 10) nf) i) u)), (0, .ref mo)] → W p l e (headSpec wsX7_digest ({ frames := 4, cells := 0, slots := 0, locals := 88 } : Room)).room s m args below meth c H locs 0 0 QQ (F0 m 96 ls []) := by
                intro k9
                induction k9 with
                | zero =>
                  intro u hik wl96 H locs ls hk L96_0 L96_1 L96_2 L96_3 L96_4 J hl
                  obtain rfl : 5 = u := by omega
                  refine lv_iload hx hb dX7_digest_96 (lv_at hl 0 rfl) ?_
                  refine lv_iconst (v := nI 4) hx hb dX7_digest_98 rfl ?_
                  refine lv_icmp_gt (tgt := 123) hx hb dX7_digest_99 (by decide) (fun cz99 => ?_) (fun cz99 => by exact (cz99 (by decide)).elim)
                  refine lv_iinc (v := nI (i + 1)) (lv' := [(3, .int (nI (i + 1))), (4, .int (nI 5)), (1, .long (dgF (dgR sn rd ri lim i) (dg2 (dgR sn rd ri lim) 5 (dg2 (aboutS fa sn) 7 (dgF (dgC nf nr lim sup off plo hrs sn rd ri) 1777 10) nf) i) 5)), (0, .ref mo)]) hx hb dX7_digest_123 hl (k := 1) rfl (nI_1 i) (by decide) rfl (fun ls hl => ?_)
                  refine lv_goto (tgt := 85) hx hb dX7_digest_126 (by decide) ?_
                  have hl : lv_has ls 7 [(3, .int (nI (i + 1))), (4, .int (nI 5)), (1, .long (dg2 (dgR sn rd ri lim) 5 (dg2 (aboutS fa sn) 7 (dgF (dgC nf nr lim sup off plo hrs sn rd ri) 1777 10) nf) (i + 1))), (0, .ref mo)] := lv_repl hl (congrArg (fun z9 : Int64 => ([(3, .int (nI (i + 1))), (4, .int (nI 5)), (1, .long z9), (0, .ref mo)] : List (Nat × Value))) (show (dgF (dgR sn rd ri lim i) (dg2 (dgR sn rd ri lim) 5 (dg2 (aboutS fa sn) 7 (dgF (dgC nf nr lim sup off plo hrs sn rd ri) 1777 10) nf) i) 5 : Int64) = dg2 (dgR sn rd ri lim) 5 (dg2 (aboutS fa sn) 7 (dgF (dgC nf nr lim sup off plo hrs sn rd ri) 1777 10) nf) (i + 1) from rfl))
                  exact ih_85 (i + 1) (by omega) _ _ _ _ hk L96_0 L96_1 L96_2 L96_3 L96_4 J (lv_sub hl [0, 2, 3] rfl)
                | succ k9 ih_96 =>
                  intro u hik wl96 H locs ls hk L96_0 L96_1 L96_2 L96_3 L96_4 J hl
                  refine lv_iload hx hb dX7_digest_96 (lv_at hl 0 rfl) ?_
                  refine lv_iconst (v := nI 4) hx hb dX7_digest_98 rfl ?_
                  refine lv_icmp_gt (tgt := 123) hx hb dX7_digest_99 (by decide) (fun cz99 => by exact (nI_ngt (by omega) (by decide) cz99).elim) (fun cz99 => ?_)
                  refine lv_lload_n hx hb dX7_digest_102 rfl (lv_at hl 2 rfl) ?_
                  refine lv_ldc2 (v := 31) hx hb hown (hts (.constantLong RX7 159 31) (by decide +kernel)) dX7_digest_103 ?_
                  refine lv_lmul hx hb dX7_digest_106 ?_
                  refine lv_aload_n hx hb dX7_digest_107 rfl (lv_at hl 3 rfl) ?_
                  refine lv_iload_n hx hb dX7_digest_108 rfl (lv_at hl 1 rfl) ?_
                  refine lv_iload hx hb dX7_digest_109 (lv_at hl 0 rfl) ?_
                  refine z_cr (z_rV (As := [.int (nI i), .int (nI u)]) (rest := [.long ((dgF (dgR sn rd ri lim i) (dg2 (dgR sn rd ri lim) 5 (dg2 (aboutS fa sn) 7 (dgF (dgC nf nr lim sup off plo hrs sn rd ri) 1777 10) nf) i) u) * 31)]) (ci := 8) (q0 := 11) X J (cX7_roadTold_ok l E L96_0 L96_2 L96_3 L96_4 (by omega) (hor i (by omega))) (cwV 2 hts gX7_digest_X7_roadTold rfl rfl rfl (by decide +kernel) ⟨Nat.le_of_ble_eq_true rfl, Nat.le_of_ble_eq_true rfl⟩) L96_0 rfl rfl rfl hl.1 rfl (Nat.le_of_ble_eq_true rfl) dX7_digest_111 ⟨Nat.le_of_ble_eq_true rfl, Nat.le_of_ble_eq_true rfl⟩) (fun r111 e_r111 => ?_)
                  subst e_r111
                  refine lv_i2l (v := (toldS sn rd ri lim i (nI u)).toInt64) hx hb dX7_digest_114 rfl ?_
                  refine lv_ladd hx hb dX7_digest_115 ?_
                  refine W.eq (g2 := F0 m 116 ls [.long (dgF (dgR sn rd ri lim i) (dg2 (dgR sn rd ri lim) 5 (dg2 (aboutS fa sn) 7 (dgF (dgC nf nr lim sup off plo hrs sn rd ri) 1777 10) nf) i) (u + 1))]) (congrArg (fun z9 : Int64 => F0 m 116 ls [.long z9]) (show (((dgF (dgR sn rd ri lim i) (dg2 (dgR sn rd ri lim) 5 (dg2 (aboutS fa sn) 7 (dgF (dgC nf nr lim sup off plo hrs sn rd ri) 1777 10) nf) i) u) * 31) + ((toldS sn rd ri lim i (nI u)).toInt64) : Int64) = dgF (dgR sn rd ri lim i) (dg2 (dgR sn rd ri lim) 5 (dg2 (aboutS fa sn) 7 (dgF (dgC nf nr lim sup off plo hrs sn rd ri) 1777 10) nf) i) (u + 1) from rfl)) ?_
                  refine lv_lstore_n (lv' := [(1, .long (dgF (dgR sn rd ri lim i) (dg2 (dgR sn rd ri lim) 5 (dg2 (aboutS fa sn) 7 (dgF (dgC nf nr lim sup off plo hrs sn rd ri) 1777 10) nf) i) (u + 1))), (4, .int (nI u)), (3, .int (nI i)), (0, .ref mo)]) hx hb dX7_digest_116 rfl hl (by decide) rfl (fun ls hl => ?_)
                  refine lv_iinc (v := nI (u + 1)) (lv' := [(4, .int (nI (u + 1))), (1, .long (dgF (dgR sn rd ri lim i) (dg2 (dgR sn rd ri lim) 5 (dg2 (aboutS fa sn) 7 (dgF (dgC nf nr lim sup off plo hrs sn rd ri) 1777 10) nf) i) (u + 1))), (3, .int (nI i)), (0, .ref mo)]) hx hb dX7_digest_117 hl (k := 1) rfl (nI_1 u) (by decide) rfl (fun ls hl => ?_)
                  refine lv_goto (tgt := 96) hx hb dX7_digest_120 (by decide) ?_
                  exact ih_96 (u + 1) (by omega) _ _ _ _ hk L96_0 L96_1 L96_2 L96_3 L96_4 J (lv_sub hl [0, 2, 1, 3] rfl)
              exact loop_96 5 0 (by omega) _ _ _ _ hk L85_0 L85_1 L85_2 L85_3 L85_4 J (lv_sub hl [0, 1, 2, 3] rfl)
          exact loop_85 nr 0 (by omega) _ _ _ _ hk L38_0 L38_1 L38_2 L38_3 L38_4 J (lv_sub hl [0, 1, 2] rfl)
        | succ k9 ih_38 =>
          intro i hik wl38 H locs ls hk L38_0 L38_1 L38_2 L38_3 L38_4 J hl
          refine lv_iload_n hx hb dX7_digest_38 rfl (lv_at hl 0 rfl) ?_
          refine lv_aload_n hx hb dX7_digest_39 rfl (lv_at hl 2 rfl) ?_
          refine z_get (C := RX7) (T := TX7) (N := 14) (ci := 8) (v := .int (nI nf)) X J hi_X7 11 L38_0 rfl 1 (by decide) (by decide +kernel) rfl dX7_digest_40 ?_
          refine lv_icmp_ge (tgt := 83) hx hb dX7_digest_43 (by decide) (fun cz43 => by exact (nI_ge (by omega) (by omega) cz43).elim) (fun cz43 => ?_)
          refine lv_iconst (v := nI 0) hx hb dX7_digest_46 rfl ?_
          refine lv_istore (lv' := [(4, .int (nI 0)), (3, .int (nI i)), (1, .long (dg2 (aboutS fa sn) 7 (dgF (dgC nf nr lim sup off plo hrs sn rd ri) 1777 10) i)), (0, .ref mo)]) hx hb dX7_digest_47 hl (by decide) rfl (fun ls hl => ?_)
          have loop_49 : ∀ (k9 u : Nat), u + k9 = 7 → ∀ (wl49 : va_W) (H : Heap) (locs : List Loc) (ls : Array Slot), zK [11] ws wl49 → wl49[11]? = some (mo, .inr (8, [.int 0, .int (nI nf), .ref mf, .int (nI nr), .ref md, .ref mi, .int lim, .int sup, .int off, .int plo, .int hrs, .ref ms9, .ref mk, .ref mt])) → wl49[12]? = some (mf, zI4 E 66 fa) → wl49[13]? = some (md, zI4 E 4 rd) → wl49[14]? = some (mi, zI4 E 4 ri) → wl49[15]? = some (ms9, zI4 E 400 sn) → zJ E wl49 s H locs → lv_has ls 7 [(4, .int (nI u)), (3, .int (nI i)), (1, .long (dgF (aboutS fa sn i) (dg2 (aboutS fa sn) 7 (dgF (dgC nf nr lim sup off plo hrs sn rd ri) 1777 10) i) u)), (0, .ref mo)] → W p l e (headSpec wsX7_digest ({ frames := 4, cells := 0, slots := 0, locals := 88 } : Room)).room s m args below meth c H locs 0 0 QQ (F0 m 49 ls []) := by
            intro k9
            induction k9 with
            | zero =>
              intro u hik wl49 H locs ls hk L49_0 L49_1 L49_2 L49_3 L49_4 J hl
              obtain rfl : 7 = u := by omega
              refine lv_iload hx hb dX7_digest_49 (lv_at hl 0 rfl) ?_
              refine lv_bipush (v := nI 6) hx hb dX7_digest_51 (by decide) ?_
              refine lv_icmp_gt (tgt := 77) hx hb dX7_digest_53 (by decide) (fun cz53 => ?_) (fun cz53 => by exact (cz53 (by decide)).elim)
              refine lv_iinc (v := nI (i + 1)) (lv' := [(3, .int (nI (i + 1))), (4, .int (nI 7)), (1, .long (dgF (aboutS fa sn i) (dg2 (aboutS fa sn) 7 (dgF (dgC nf nr lim sup off plo hrs sn rd ri) 1777 10) i) 7)), (0, .ref mo)]) hx hb dX7_digest_77 hl (k := 1) rfl (nI_1 i) (by decide) rfl (fun ls hl => ?_)
              refine lv_goto (tgt := 38) hx hb dX7_digest_80 (by decide) ?_
              have hl : lv_has ls 7 [(3, .int (nI (i + 1))), (4, .int (nI 7)), (1, .long (dg2 (aboutS fa sn) 7 (dgF (dgC nf nr lim sup off plo hrs sn rd ri) 1777 10) (i + 1))), (0, .ref mo)] := lv_repl hl (congrArg (fun z9 : Int64 => ([(3, .int (nI (i + 1))), (4, .int (nI 7)), (1, .long z9), (0, .ref mo)] : List (Nat × Value))) (show (dgF (aboutS fa sn i) (dg2 (aboutS fa sn) 7 (dgF (dgC nf nr lim sup off plo hrs sn rd ri) 1777 10) i) 7 : Int64) = dg2 (aboutS fa sn) 7 (dgF (dgC nf nr lim sup off plo hrs sn rd ri) 1777 10) (i + 1) from rfl))
              exact ih_38 (i + 1) (by omega) _ _ _ _ hk L49_0 L49_1 L49_2 L49_3 L49_4 J (lv_sub hl [0, 2, 3] rfl)
            | succ k9 ih_49 =>
              intro u hik wl49 H locs ls hk L49_0 L49_1 L49_2 L49_3 L49_4 J hl
              refine lv_iload hx hb dX7_digest_49 (lv_at hl 0 rfl) ?_
              refine lv_bipush (v := nI 6) hx hb dX7_digest_51 (by decide) ?_
              refine lv_icmp_gt (tgt := 77) hx hb dX7_digest_53 (by decide) (fun cz53 => by exact (nI_ngt (by omega) (by decide) cz53).elim) (fun cz53 => ?_)
              refine lv_lload_n hx hb dX7_digest_56 rfl (lv_at hl 2 rfl) ?_
              refine lv_ldc2 (v := 31) hx hb hown (hts (.constantLong RX7 159 31) (by decide +kernel)) dX7_digest_57 ?_
              refine lv_lmul hx hb dX7_digest_60 ?_
              refine lv_aload_n hx hb dX7_digest_61 rfl (lv_at hl 3 rfl) ?_
              refine lv_iload_n hx hb dX7_digest_62 rfl (lv_at hl 1 rfl) ?_
              refine lv_iload hx hb dX7_digest_63 (lv_at hl 0 rfl) ?_
              refine z_cr (z_rV (As := [.int (nI i), .int (nI u)]) (rest := [.long ((dgF (aboutS fa sn i) (dg2 (aboutS fa sn) 7 (dgF (dgC nf nr lim sup off plo hrs sn rd ri) 1777 10) i) u) * 31)]) (ci := 8) (q0 := 11) X J (cX7_fenceTold_ok l E L49_0 L49_1 L49_4 (by omega) (by omega) (hok i (by omega))) (cwV 2 hts gX7_digest_X7_fenceTold rfl rfl rfl (by decide +kernel) ⟨Nat.le_of_ble_eq_true rfl, Nat.le_of_ble_eq_true rfl⟩) L49_0 rfl rfl rfl hl.1 rfl (Nat.le_of_ble_eq_true rfl) dX7_digest_65 ⟨Nat.le_of_ble_eq_true rfl, Nat.le_of_ble_eq_true rfl⟩) (fun r65 e_r65 => ?_)
              subst e_r65
              refine lv_i2l (v := (aboutS fa sn i u).toInt64) hx hb dX7_digest_68 rfl ?_
              refine lv_ladd hx hb dX7_digest_69 ?_
              refine W.eq (g2 := F0 m 70 ls [.long (dgF (aboutS fa sn i) (dg2 (aboutS fa sn) 7 (dgF (dgC nf nr lim sup off plo hrs sn rd ri) 1777 10) i) (u + 1))]) (congrArg (fun z9 : Int64 => F0 m 70 ls [.long z9]) (show (((dgF (aboutS fa sn i) (dg2 (aboutS fa sn) 7 (dgF (dgC nf nr lim sup off plo hrs sn rd ri) 1777 10) i) u) * 31) + ((aboutS fa sn i u).toInt64) : Int64) = dgF (aboutS fa sn i) (dg2 (aboutS fa sn) 7 (dgF (dgC nf nr lim sup off plo hrs sn rd ri) 1777 10) i) (u + 1) from rfl)) ?_
              refine lv_lstore_n (lv' := [(1, .long (dgF (aboutS fa sn i) (dg2 (aboutS fa sn) 7 (dgF (dgC nf nr lim sup off plo hrs sn rd ri) 1777 10) i) (u + 1))), (4, .int (nI u)), (3, .int (nI i)), (0, .ref mo)]) hx hb dX7_digest_70 rfl hl (by decide) rfl (fun ls hl => ?_)
              refine lv_iinc (v := nI (u + 1)) (lv' := [(4, .int (nI (u + 1))), (1, .long (dgF (aboutS fa sn i) (dg2 (aboutS fa sn) 7 (dgF (dgC nf nr lim sup off plo hrs sn rd ri) 1777 10) i) (u + 1))), (3, .int (nI i)), (0, .ref mo)]) hx hb dX7_digest_71 hl (k := 1) rfl (nI_1 u) (by decide) rfl (fun ls hl => ?_)
              refine lv_goto (tgt := 49) hx hb dX7_digest_74 (by decide) ?_
              exact ih_49 (u + 1) (by omega) _ _ _ _ hk L49_0 L49_1 L49_2 L49_3 L49_4 J (lv_sub hl [0, 2, 1, 3] rfl)
          exact loop_49 7 0 (by omega) _ _ _ _ hk L38_0 L38_1 L38_2 L38_3 L38_4 J (lv_sub hl [0, 1, 2, 3] rfl)
      exact loop_38 nf 0 (by omega) _ _ _ _ hk L11_0 L11_1 L11_2 L11_3 L11_4 J (lv_sub hl [0, 1, 2] rfl)
    | succ k9 ih_11 =>
      intro i hik wl11 H locs ls hk L11_0 L11_1 L11_2 L11_3 L11_4 J hl
      refine lv_iload_n hx hb dX7_digest_11 rfl (lv_at hl 0 rfl) ?_
      refine lv_bipush (v := nI 9) hx hb dX7_digest_12 (by decide) ?_
      refine lv_icmp_gt (tgt := 36) hx hb dX7_digest_14 (by decide) (fun cz14 => by exact (nI_ngt (by omega) (by decide) cz14).elim) (fun cz14 => ?_)
      refine lv_lload_n hx hb dX7_digest_17 rfl (lv_at hl 1 rfl) ?_
      refine lv_ldc2 (v := 31) hx hb hown (hts (.constantLong RX7 159 31) (by decide +kernel)) dX7_digest_18 ?_
      refine lv_lmul hx hb dX7_digest_21 ?_
      refine lv_aload_n hx hb dX7_digest_22 rfl (lv_at hl 2 rfl) ?_
      refine lv_iload_n hx hb dX7_digest_23 rfl (lv_at hl 0 rfl) ?_
      refine z_cr (z_rV (As := [.int (nI i)]) (rest := [.long ((dgF (dgC nf nr lim sup off plo hrs sn rd ri) 1777 i) * 31)]) (ci := 8) (q0 := 11) X J (cX7_counted_ok l E L11_0 L11_2 L11_3 L11_4 hnr hor) (cwV 1 hts gX7_digest_X7_counted rfl rfl rfl (by decide +kernel) ⟨Nat.le_of_ble_eq_true rfl, Nat.le_of_ble_eq_true rfl⟩) L11_0 rfl rfl rfl hl.1 rfl (Nat.le_of_ble_eq_true rfl) dX7_digest_24 ⟨Nat.le_of_ble_eq_true rfl, Nat.le_of_ble_eq_true rfl⟩) (fun r24 e_r24 => ?_)
      subst e_r24
      refine lv_i2l (v := (countS (nI nf) (nI nr) lim sup off plo hrs sn rd ri nr (nI i)).toInt64) hx hb dX7_digest_27 rfl ?_
      refine lv_ladd hx hb dX7_digest_28 ?_
      refine W.eq (g2 := F0 m 29 ls [.long (dgF (dgC nf nr lim sup off plo hrs sn rd ri) 1777 (i + 1))]) (congrArg (fun z9 : Int64 => F0 m 29 ls [.long z9]) (show (((dgF (dgC nf nr lim sup off plo hrs sn rd ri) 1777 i) * 31) + ((countS (nI nf) (nI nr) lim sup off plo hrs sn rd ri nr (nI i)).toInt64) : Int64) = dgF (dgC nf nr lim sup off plo hrs sn rd ri) 1777 (i + 1) from rfl)) ?_
      refine lv_lstore_n (lv' := [(1, .long (dgF (dgC nf nr lim sup off plo hrs sn rd ri) 1777 (i + 1))), (3, .int (nI i)), (0, .ref mo)]) hx hb dX7_digest_29 rfl hl (by decide) rfl (fun ls hl => ?_)
      refine lv_iinc (v := nI (i + 1)) (lv' := [(3, .int (nI (i + 1))), (1, .long (dgF (dgC nf nr lim sup off plo hrs sn rd ri) 1777 (i + 1))), (0, .ref mo)]) hx hb dX7_digest_30 hl (k := 1) rfl (nI_1 i) (by decide) rfl (fun ls hl => ?_)
      refine lv_goto (tgt := 11) hx hb dX7_digest_33 (by decide) ?_
      exact ih_11 (i + 1) (by omega) _ _ _ _ hk L11_0 L11_1 L11_2 L11_3 L11_4 J (lv_sub hl [0, 1, 2] rfl)
  exact loop_11 10 0 (by omega) _ _ _ _ hk G1_0 G1_1 G1_2 G1_3 G1_4 J (lv_sub hl [0, 1, 2] rfl)
