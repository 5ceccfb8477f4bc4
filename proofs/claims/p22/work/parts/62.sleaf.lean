set_option maxHeartbeats 400000 in
set_option maxRecDepth 100000 in
theorem cX7_isOn_ok (l : Launch) (E : zG) {ws : va_W} {qo o : Nat} {f : Nat → Int32} {cx rx : Int32} (Fa0 : ws[qo]? = some (o, zI4 E 6 f))  : Met l yX7_isOn wsX7_isOn ({ frames := 0, cells := 0, slots := 0, locals := 0 } : Room) (va_Pc [.ref o, .int cx, .int rx] (zI E ws)) (vp_Si (fun r : Int32 => r = onI f cx rx)) 0 0 (fun _ => False) := by
  refine Met.ofW (cc := cX7_isOn) (maxL := 4) (ret := (some .boolean)) (by decide) rfl ?_
  intro p e s m args below meth c s₁ B hml hv
  obtain ⟨hargs9, hI⟩ := hv
  have hx := B.exec
  have hb := B.bytes
  have hr := B.returns
  have hlocks := B.notSynchronized
  have X : zC E p m c cX7_isOn 4 s args wsX7_isOn RX7 := z_open B hml hI
  have hown := X.1.2.2.2.1
  have hts := X.1.2.2.2.2
  have J := hI.J
  have hl := lv_entry ([.ref o, .int cx, .int rx]) (n := 4) (Nat.le_of_ble_eq_true rfl)
  rw [show entryFrame m args 4 = entryFrame m ([.ref o, .int cx, .int rx] : List Value).toArray 4 from by rw [hargs9], lg_entry_eq]
  generalize (lg_sl ([.ref o, .int cx, .int rx]) ++ List.replicate (4 - (lg_sl ([.ref o, .int cx, .int rx])).length) Slot.unset).toArray = ls at hl ⊢
  have hl : lv_has ls 4 [(0, .ref o), (1, .int cx), (2, .int rx)] := hl
  generalize hQ : (MQ below (vp_Si (fun r : Int32 => r = onI f cx rx)) args s 0 0 (fun _ => False)) = QQ
  refine lv_aload_n hx hb dX7_isOn_0 rfl (lv_at hl 0 rfl) ?_
  refine lv_iconst (v := nI 3) hx hb dX7_isOn_1 rfl ?_
  refine z_iald X J qo Fa0 (vp_in_nI (by omega) (by first | decide | omega)) dX7_isOn_2 ?_
  refine W.eq (g2 := F0 m 3 ls [.int (f 3)]) (congrArg (fun z9 : Int32 => F0 m 3 ls [.int z9]) (show (f (nI 3).toNatClampNeg : Int32) = f 3 from (congrArg _ (nI_clamp (by omega))))) ?_
  refine lv_iconst (v := 1) hx hb dX7_isOn_3 (by decide) ?_
  refine lv_icmp_ne (tgt := 15) hx hb dX7_isOn_4 (by decide) (fun cz4 => ?_) (fun cz4 => ?_)
  · refine lv_iload_n hx hb dX7_isOn_15 rfl (lv_at hl 1 rfl) ?_
    refine lv_aload_n hx hb dX7_isOn_16 rfl (lv_at hl 0 rfl) ?_
    refine lv_iconst (v := nI 0) hx hb dX7_isOn_17 rfl ?_
    refine z_iald X J qo Fa0 (vp_in_nI (by omega) (by first | decide | omega)) dX7_isOn_18 ?_
    refine W.eq (g2 := F0 m 19 ls [.int (f 0), .int cx]) (congrArg (fun z9 : Int32 => F0 m 19 ls [.int z9, .int cx]) (show (f (nI 0).toNatClampNeg : Int32) = f 0 from (congrArg _ (nI_clamp (by omega))))) ?_
    refine lv_isub hx hb dX7_isOn_19 ?_
    refine lv_istore_n (lv' := [(3, .int (cx - (f 0))), (0, .ref o), (1, .int cx), (2, .int rx)]) hx hb dX7_isOn_20 rfl hl (by decide) rfl (fun ls hl => ?_)
    refine lv_iload_n hx hb dX7_isOn_21 rfl (lv_at hl 0 rfl) ?_
    refine lv_if_lt (tgt := 60) hx hb dX7_isOn_22 (by decide) (fun cz22 => ?_) (fun cz22 => ?_)
    · refine lv_iconst (v := 0) hx hb dX7_isOn_60 (by decide) ?_
      subst hQ
      exact W.zret (v := 0) hx hb hr rfl (fun t ht hW => ⟨0, rfl, (by rw [onI_h cz4]; exact (if_neg (fun q9 => q9.1 cz22)).symm), ht⟩) (fun q hq => absurd hq List.not_mem_nil) dX7_isOn_61
    · refine lv_iload_n hx hb dX7_isOn_25 rfl (lv_at hl 0 rfl) ?_
      refine lv_aload_n hx hb dX7_isOn_26 rfl (lv_at hl 1 rfl) ?_
      refine lv_iconst (v := nI 2) hx hb dX7_isOn_27 rfl ?_
      refine z_iald X J qo Fa0 (vp_in_nI (by omega) (by first | decide | omega)) dX7_isOn_28 ?_
      refine W.eq (g2 := F0 m 29 ls [.int (f 2), .int (cx - (f 0))]) (congrArg (fun z9 : Int32 => F0 m 29 ls [.int z9, .int (cx - (f 0))]) (show (f (nI 2).toNatClampNeg : Int32) = f 2 from (congrArg _ (nI_clamp (by omega))))) ?_
      refine lv_icmp_ge (tgt := 60) hx hb dX7_isOn_29 (by decide) (fun cz29 => ?_) (fun cz29 => ?_)
      · refine lv_iconst (v := 0) hx hb dX7_isOn_60 (by decide) ?_
        subst hQ
        exact W.zret (v := 0) hx hb hr rfl (fun t ht hW => ⟨0, rfl, (by rw [onI_h cz4]; exact (if_neg (fun q9 => absurd q9.2.1 (Int32.not_lt.mpr cz29))).symm), ht⟩) (fun q hq => absurd hq List.not_mem_nil) dX7_isOn_61
      · refine lv_aload_n hx hb dX7_isOn_32 rfl (lv_at hl 1 rfl) ?_
        refine lv_iconst (v := nI 3) hx hb dX7_isOn_33 rfl ?_
        refine z_iald X J qo Fa0 (vp_in_nI (by omega) (by first | decide | omega)) dX7_isOn_34 ?_
        refine W.eq (g2 := F0 m 35 ls [.int (f 3)]) (congrArg (fun z9 : Int32 => F0 m 35 ls [.int z9]) (show (f (nI 3).toNatClampNeg : Int32) = f 3 from (congrArg _ (nI_clamp (by omega))))) ?_
        refine lv_iconst (v := 1) hx hb dX7_isOn_35 (by decide) ?_
        refine lv_icmp_ne (tgt := 49) hx hb dX7_isOn_36 (by decide) (fun cz36 => ?_) (fun cz36 => by exact absurd cz36 cz4)
        refine lv_iload_n hx hb dX7_isOn_49 rfl (lv_at hl 3 rfl) ?_
        refine lv_aload_n hx hb dX7_isOn_50 rfl (lv_at hl 1 rfl) ?_
        refine lv_iconst (v := nI 1) hx hb dX7_isOn_51 rfl ?_
        refine z_iald X J qo Fa0 (vp_in_nI (by omega) (by first | decide | omega)) dX7_isOn_52 ?_
        refine W.eq (g2 := F0 m 53 ls [.int (f 1), .int rx]) (congrArg (fun z9 : Int32 => F0 m 53 ls [.int z9, .int rx]) (show (f (nI 1).toNatClampNeg : Int32) = f 1 from (congrArg _ (nI_clamp (by omega))))) ?_
        refine lv_icmp_ne (tgt := 60) hx hb dX7_isOn_53 (by decide) (fun cz53 => ?_) (fun cz53 => ?_)
        · refine lv_iconst (v := 0) hx hb dX7_isOn_60 (by decide) ?_
          subst hQ
          exact W.zret (v := 0) hx hb hr rfl (fun t ht hW => ⟨0, rfl, (by rw [onI_h cz4]; exact (if_neg (fun q9 => cz53 q9.2.2)).symm), ht⟩) (fun q hq => absurd hq List.not_mem_nil) dX7_isOn_61
        · refine lv_iconst (v := 1) hx hb dX7_isOn_56 (by decide) ?_
          refine lv_goto (tgt := 61) hx hb dX7_isOn_57 (by decide) ?_
          subst hQ
          exact W.zret (v := 1) hx hb hr rfl (fun t ht hW => ⟨1, rfl, (by rw [onI_h cz4]; exact (if_pos ⟨cz22, Int32.not_le.mp cz29, cz53⟩).symm), ht⟩) (fun q hq => absurd hq List.not_mem_nil) dX7_isOn_61
  · refine lv_iload_n hx hb dX7_isOn_7 rfl (lv_at hl 2 rfl) ?_
    refine lv_aload_n hx hb dX7_isOn_8 rfl (lv_at hl 0 rfl) ?_
    refine lv_iconst (v := nI 1) hx hb dX7_isOn_9 rfl ?_
    refine z_iald X J qo Fa0 (vp_in_nI (by omega) (by first | decide | omega)) dX7_isOn_10 ?_
    refine W.eq (g2 := F0 m 11 ls [.int (f 1), .int rx]) (congrArg (fun z9 : Int32 => F0 m 11 ls [.int z9, .int rx]) (show (f (nI 1).toNatClampNeg : Int32) = f 1 from (congrArg _ (nI_clamp (by omega))))) ?_
    refine lv_isub hx hb dX7_isOn_11 ?_
    refine lv_goto (tgt := 20) hx hb dX7_isOn_12 (by decide) ?_
    refine lv_istore_n (lv' := [(3, .int (rx - (f 1))), (0, .ref o), (1, .int cx), (2, .int rx)]) hx hb dX7_isOn_20 rfl hl (by decide) rfl (fun ls hl => ?_)
    refine lv_iload_n hx hb dX7_isOn_21 rfl (lv_at hl 0 rfl) ?_
    refine lv_if_lt (tgt := 60) hx hb dX7_isOn_22 (by decide) (fun cz22 => ?_) (fun cz22 => ?_)
    · refine lv_iconst (v := 0) hx hb dX7_isOn_60 (by decide) ?_
      subst hQ
      exact W.zret (v := 0) hx hb hr rfl (fun t ht hW => ⟨0, rfl, (by rw [onI_v cz4]; exact (if_neg (fun q9 => q9.1 cz22)).symm), ht⟩) (fun q hq => absurd hq List.not_mem_nil) dX7_isOn_61
    · refine lv_iload_n hx hb dX7_isOn_25 rfl (lv_at hl 0 rfl) ?_
      refine lv_aload_n hx hb dX7_isOn_26 rfl (lv_at hl 1 rfl) ?_
      refine lv_iconst (v := nI 2) hx hb dX7_isOn_27 rfl ?_
      refine z_iald X J qo Fa0 (vp_in_nI (by omega) (by first | decide | omega)) dX7_isOn_28 ?_
      refine W.eq (g2 := F0 m 29 ls [.int (f 2), .int (rx - (f 1))]) (congrArg (fun z9 : Int32 => F0 m 29 ls [.int z9, .int (rx - (f 1))]) (show (f (nI 2).toNatClampNeg : Int32) = f 2 from (congrArg _ (nI_clamp (by omega))))) ?_
      refine lv_icmp_ge (tgt := 60) hx hb dX7_isOn_29 (by decide) (fun cz29 => ?_) (fun cz29 => ?_)
      · refine lv_iconst (v := 0) hx hb dX7_isOn_60 (by decide) ?_
        subst hQ
        exact W.zret (v := 0) hx hb hr rfl (fun t ht hW => ⟨0, rfl, (by rw [onI_v cz4]; exact (if_neg (fun q9 => absurd q9.2.1 (Int32.not_lt.mpr cz29))).symm), ht⟩) (fun q hq => absurd hq List.not_mem_nil) dX7_isOn_61
      · refine lv_aload_n hx hb dX7_isOn_32 rfl (lv_at hl 1 rfl) ?_
        refine lv_iconst (v := nI 3) hx hb dX7_isOn_33 rfl ?_
        refine z_iald X J qo Fa0 (vp_in_nI (by omega) (by first | decide | omega)) dX7_isOn_34 ?_
        refine W.eq (g2 := F0 m 35 ls [.int (f 3)]) (congrArg (fun z9 : Int32 => F0 m 35 ls [.int z9]) (show (f (nI 3).toNatClampNeg : Int32) = f 3 from (congrArg _ (nI_clamp (by omega))))) ?_
        refine lv_iconst (v := 1) hx hb dX7_isOn_35 (by decide) ?_
        refine lv_icmp_ne (tgt := 49) hx hb dX7_isOn_36 (by decide) (fun cz36 => by exact absurd cz4 cz36) (fun cz36 => ?_)
        refine lv_iload_n hx hb dX7_isOn_39 rfl (lv_at hl 2 rfl) ?_
        refine lv_aload_n hx hb dX7_isOn_40 rfl (lv_at hl 1 rfl) ?_
        refine lv_iconst (v := nI 0) hx hb dX7_isOn_41 rfl ?_
        refine z_iald X J qo Fa0 (vp_in_nI (by omega) (by first | decide | omega)) dX7_isOn_42 ?_
        refine W.eq (g2 := F0 m 43 ls [.int (f 0), .int cx]) (congrArg (fun z9 : Int32 => F0 m 43 ls [.int z9, .int cx]) (show (f (nI 0).toNatClampNeg : Int32) = f 0 from (congrArg _ (nI_clamp (by omega))))) ?_
        refine lv_icmp_ne (tgt := 60) hx hb dX7_isOn_43 (by decide) (fun cz43 => ?_) (fun cz43 => ?_)
        · refine lv_iconst (v := 0) hx hb dX7_isOn_60 (by decide) ?_
          subst hQ
          exact W.zret (v := 0) hx hb hr rfl (fun t ht hW => ⟨0, rfl, (by rw [onI_v cz4]; exact (if_neg (fun q9 => cz43 q9.2.2)).symm), ht⟩) (fun q hq => absurd hq List.not_mem_nil) dX7_isOn_61
        · refine lv_goto (tgt := 56) hx hb dX7_isOn_46 (by decide) ?_
          refine lv_iconst (v := 1) hx hb dX7_isOn_56 (by decide) ?_
          refine lv_goto (tgt := 61) hx hb dX7_isOn_57 (by decide) ?_
          subst hQ
          exact W.zret (v := 1) hx hb hr rfl (fun t ht hW => ⟨1, rfl, (by rw [onI_v cz4]; exact (if_pos ⟨cz22, Int32.not_le.mp cz29, cz43⟩).symm), ht⟩) (fun q hq => absurd hq List.not_mem_nil) dX7_isOn_61
set_option maxHeartbeats 400000 in
set_option maxRecDepth 100000 in
theorem cX7_spot_ok (l : Launch) (E : zG) {ws : va_W} {wd : Int32} {i k : Nat}  (hwd : wd = 0 ∨ wd = 1 ∨ wd = 2 ∨ wd = 3) (hi9 : i < 20) (hk9 : k < 20) : Met l yX7_spot wsX7_spot ({ frames := 0, cells := 1, slots := 2, locals := 0 } : Room) (va_Pc [.int wd, .int (nI i), .int (nI k)] (zI E ws)) (va_Qq (fun (r : Option Nat) (ws' : va_W) => (zK [] ws ws') ∧ (∃ sp : Nat, ws'.length = ws.length + 1 ∧ (ws'[(ws.length + 0)]? = some (sp, zI4 E 2 (spF (colN wd i k) (rowN wd i k)))) ∧ (r = some sp))) (zI E) (zA E)) 1 2 (zA E) := by
  refine Met.ofW (cc := cX7_spot) (maxL := 4) (ret := (some (.array .int))) (by decide) rfl ?_
  intro p e s m args below meth c s₁ B hml hv
  obtain ⟨hargs9, hI⟩ := hv
  have hx := B.exec
  have hb := B.bytes
  have hr := B.returns
  have hlocks := B.notSynchronized
  have X : zC E p m c cX7_spot 4 s args wsX7_spot RX7 := z_open B hml hI
  have hown := X.1.2.2.2.1
  have hts := X.1.2.2.2.2
  have J := hI.J
  have hk : zK [] ws ws := zK.rf
  have hlen : ws.length = ws.length + 0 := rfl
  have hl := lv_entry ([.int wd, .int (nI i), .int (nI k)]) (n := 4) (Nat.le_of_ble_eq_true rfl)
  rw [show entryFrame m args 4 = entryFrame m ([.int wd, .int (nI i), .int (nI k)] : List Value).toArray 4 from by rw [hargs9], lg_entry_eq]
  generalize (lg_sl ([.int wd, .int (nI i), .int (nI k)]) ++ List.replicate (4 - (lg_sl ([.int wd, .int (nI i), .int (nI k)])).length) Slot.unset).toArray = ls at hl ⊢
  have hl : lv_has ls 4 [(0, .int wd), (1, .int (nI i)), (2, .int (nI k))] := hl
  generalize hQ : (MQ below (va_Qq (fun (r : Option Nat) (ws' : va_W) => (zK [] ws ws') ∧ (∃ sp : Nat, ws'.length = ws.length + 1 ∧ (ws'[(ws.length + 0)]? = some (sp, zI4 E 2 (spF (colN wd i k) (rowN wd i k)))) ∧ (r = some sp))) (zI E) (zA E)) args s 1 2 (zA E)) = QQ
  rcases hwd with rfl | rfl | rfl | rfl
  · refine lv_iload_n hx hb dX7_spot_0 rfl (lv_at hl 0 rfl) ?_
    refine lv_iconst (v := 2) hx hb dX7_spot_1 (by decide) ?_
    refine lv_icmp_ge (tgt := 9) hx hb dX7_spot_2 (by decide) (fun cz2 => by exact absurd cz2 (by decide)) (fun cz2 => ?_)
    refine lv_iload_n hx hb dX7_spot_5 rfl (lv_at hl 2 rfl) ?_
    refine lv_goto (tgt := 13) hx hb dX7_spot_6 (by decide) ?_
    refine lv_istore_n (lv' := [(3, .int (nI k)), (0, .int 0), (1, .int (nI i)), (2, .int (nI k))]) hx hb dX7_spot_13 rfl hl (by decide) rfl (fun ls hl => ?_)
    refine lv_iload_n hx hb dX7_spot_14 rfl (lv_at hl 1 rfl) ?_
    refine lv_if_eq (tgt := 23) hx hb dX7_spot_15 (by decide) (fun cz15 => ?_) (fun cz15 => by exact absurd cz15 (by decide))
    refine lv_iconst (v := 2) hx hb dX7_spot_23 (by decide) ?_
    refine z_newa (N' := 2) X J (by decide +kernel) (by decide) (by decide) (Nat.le_of_ble_eq_true rfl) (Nat.le_of_ble_eq_true rfl) (Nat.le_of_ble_eq_true rfl) dX7_spot_24 (fun q24 H J => ?_)
    have lp1 := hk.1
    have hk := hk.trans (zK.app (more := [(q24, zI4 E 2 (fun _ => 0))]))
    have hpn1 := hlen
    have hlen : (ws ++ ([(q24, zI4 E 2 (fun _ => 0))] : va_W)).length = ws.length + 1 := by rw [List.length_append, hlen]; rfl
    have G1_n := zapp_new (ws := ws) (x := (q24, zI4 E 2 (fun _ => 0)))
    generalize hws1 : ws ++ [(q24, zI4 E 2 (fun _ => 0))] = ws_1 at J hk hlen G1_n
    rw [hpn1] at lp1 G1_n
    refine lv_dup hx hb dX7_spot_26 rfl ?_
    refine lv_iconst (v := nI 0) hx hb dX7_spot_27 rfl ?_
    refine lv_iload_n hx hb dX7_spot_28 rfl (lv_at hl 0 rfl) ?_
    refine z_iast X J (ws.length + 0) G1_n (vp_in_nI (by omega) (by first | decide | omega)) dX7_spot_29 (fun H locs J => ?_)
    rw [show upd (fun _ => 0) (nI 0).toNatClampNeg (nI k) = upd (fun _ => 0) 0 (nI k) from (by rw [nI_clamp (by omega)])] at J
    have hk := hk.setNew (q := (ws.length + 0)) (e := (q24, zI4 E 2 (upd (fun _ => 0) 0 (nI k)))) (Nat.le_add_right _ _)
    have hlen : (ws_1.set (ws.length + 0) (q24, zI4 E 2 (upd (fun _ => 0) 0 (nI k)))).length = ws.length + 1 := (List.length_set ..).trans hlen
    have G2_0 := zset_eq (e' := (q24, zI4 E 2 (upd (fun _ => 0) 0 (nI k)))) G1_n
    generalize hws2 : (ws_1.set (ws.length + 0) (q24, zI4 E 2 (upd (fun _ => 0) 0 (nI k)))) = ws_2 at J hlen hk G2_0
    refine lv_dup hx hb dX7_spot_30 rfl ?_
    refine lv_iconst (v := nI 1) hx hb dX7_spot_31 rfl ?_
    refine lv_iload_n hx hb dX7_spot_32 rfl (lv_at hl 2 rfl) ?_
    refine z_iast X J (ws.length + 0) G2_0 (vp_in_nI (by omega) (by first | decide | omega)) dX7_spot_33 (fun H locs J => ?_)
    rw [show upd (upd (fun _ => 0) 0 (nI k)) (nI 1).toNatClampNeg (nI i) = upd (upd (fun _ => 0) 0 (nI k)) 1 (nI i) from (by rw [nI_clamp (by omega)])] at J
    have hk := hk.setNew (q := (ws.length + 0)) (e := (q24, zI4 E 2 (upd (upd (fun _ => 0) 0 (nI k)) 1 (nI i)))) (Nat.le_add_right _ _)
    have hlen : (ws_2.set (ws.length + 0) (q24, zI4 E 2 (upd (upd (fun _ => 0) 0 (nI k)) 1 (nI i)))).length = ws.length + 1 := (List.length_set ..).trans hlen
    have G3_0 := zset_eq (e' := (q24, zI4 E 2 (upd (upd (fun _ => 0) 0 (nI k)) 1 (nI i)))) G2_0
    generalize hws3 : (ws_2.set (ws.length + 0) (q24, zI4 E 2 (upd (upd (fun _ => 0) 0 (nI k)) 1 (nI i)))) = ws_3 at J hlen hk G3_0
    refine lv_goto (tgt := 48) hx hb dX7_spot_34 (by decide) ?_
    subst hQ
    exact W.aret (v := .ref q24) hx hb hr (by first | exact Or.inl ⟨_, rfl⟩ | exact Or.inr ⟨_, rfl⟩) (Or.inr ⟨_, rfl⟩) (fun t ht hW => ⟨⟨some q24, ws_3, rfl, ⟨hk, ⟨q24, hlen, (by rw [colN_0, rowN_0]; exact G3_0), rfl⟩⟩, J.I X ht hW.alike⟩, J.F ht⟩) J.locs dX7_spot_48
  · refine lv_iload_n hx hb dX7_spot_0 rfl (lv_at hl 0 rfl) ?_
    refine lv_iconst (v := 2) hx hb dX7_spot_1 (by decide) ?_
    refine lv_icmp_ge (tgt := 9) hx hb dX7_spot_2 (by decide) (fun cz2 => by exact absurd cz2 (by decide)) (fun cz2 => ?_)
    refine lv_iload_n hx hb dX7_spot_5 rfl (lv_at hl 2 rfl) ?_
    refine lv_goto (tgt := 13) hx hb dX7_spot_6 (by decide) ?_
    refine lv_istore_n (lv' := [(3, .int (nI k)), (0, .int 1), (1, .int (nI i)), (2, .int (nI k))]) hx hb dX7_spot_13 rfl hl (by decide) rfl (fun ls hl => ?_)
    refine lv_iload_n hx hb dX7_spot_14 rfl (lv_at hl 1 rfl) ?_
    refine lv_if_eq (tgt := 23) hx hb dX7_spot_15 (by decide) (fun cz15 => by exact absurd cz15 (by decide)) (fun cz15 => ?_)
    refine lv_iload_n hx hb dX7_spot_18 rfl (lv_at hl 1 rfl) ?_
    refine lv_iconst (v := 2) hx hb dX7_spot_19 (by decide) ?_
    refine lv_icmp_ne (tgt := 37) hx hb dX7_spot_20 (by decide) (fun cz20 => ?_) (fun cz20 => by exact absurd cz20 (by decide))
    refine lv_iconst (v := 2) hx hb dX7_spot_37 (by decide) ?_
    refine z_newa (N' := 2) X J (by decide +kernel) (by decide) (by decide) (Nat.le_of_ble_eq_true rfl) (Nat.le_of_ble_eq_true rfl) (Nat.le_of_ble_eq_true rfl) dX7_spot_38 (fun q38 H J => ?_)
    have lp1 := hk.1
    have hk := hk.trans (zK.app (more := [(q38, zI4 E 2 (fun _ => 0))]))
    have hpn1 := hlen
    have hlen : (ws ++ ([(q38, zI4 E 2 (fun _ => 0))] : va_W)).length = ws.length + 1 := by rw [List.length_append, hlen]; rfl
    have G1_n := zapp_new (ws := ws) (x := (q38, zI4 E 2 (fun _ => 0)))
    generalize hws1 : ws ++ [(q38, zI4 E 2 (fun _ => 0))] = ws_1 at J hk hlen G1_n
    rw [hpn1] at lp1 G1_n
    refine lv_dup hx hb dX7_spot_40 rfl ?_
    refine lv_iconst (v := nI 0) hx hb dX7_spot_41 rfl ?_
    refine lv_iload_n hx hb dX7_spot_42 rfl (lv_at hl 2 rfl) ?_
    refine z_iast X J (ws.length + 0) G1_n (vp_in_nI (by omega) (by first | decide | omega)) dX7_spot_43 (fun H locs J => ?_)
    rw [show upd (fun _ => 0) (nI 0).toNatClampNeg (nI i) = upd (fun _ => 0) 0 (nI i) from (by rw [nI_clamp (by omega)])] at J
    have hk := hk.setNew (q := (ws.length + 0)) (e := (q38, zI4 E 2 (upd (fun _ => 0) 0 (nI i)))) (Nat.le_add_right _ _)
    have hlen : (ws_1.set (ws.length + 0) (q38, zI4 E 2 (upd (fun _ => 0) 0 (nI i)))).length = ws.length + 1 := (List.length_set ..).trans hlen
    have G2_0 := zset_eq (e' := (q38, zI4 E 2 (upd (fun _ => 0) 0 (nI i)))) G1_n
    generalize hws2 : (ws_1.set (ws.length + 0) (q38, zI4 E 2 (upd (fun _ => 0) 0 (nI i)))) = ws_2 at J hlen hk G2_0
    refine lv_dup hx hb dX7_spot_44 rfl ?_
    refine lv_iconst (v := nI 1) hx hb dX7_spot_45 rfl ?_
    refine lv_iload_n hx hb dX7_spot_46 rfl (lv_at hl 0 rfl) ?_
    refine z_iast X J (ws.length + 0) G2_0 (vp_in_nI (by omega) (by first | decide | omega)) dX7_spot_47 (fun H locs J => ?_)
    rw [show upd (upd (fun _ => 0) 0 (nI i)) (nI 1).toNatClampNeg (nI k) = upd (upd (fun _ => 0) 0 (nI i)) 1 (nI k) from (by rw [nI_clamp (by omega)])] at J
    have hk := hk.setNew (q := (ws.length + 0)) (e := (q38, zI4 E 2 (upd (upd (fun _ => 0) 0 (nI i)) 1 (nI k)))) (Nat.le_add_right _ _)
    have hlen : (ws_2.set (ws.length + 0) (q38, zI4 E 2 (upd (upd (fun _ => 0) 0 (nI i)) 1 (nI k)))).length = ws.length + 1 := (List.length_set ..).trans hlen
    have G3_0 := zset_eq (e' := (q38, zI4 E 2 (upd (upd (fun _ => 0) 0 (nI i)) 1 (nI k)))) G2_0
    generalize hws3 : (ws_2.set (ws.length + 0) (q38, zI4 E 2 (upd (upd (fun _ => 0) 0 (nI i)) 1 (nI k)))) = ws_3 at J hlen hk G3_0
    subst hQ
    exact W.aret (v := .ref q38) hx hb hr (by first | exact Or.inl ⟨_, rfl⟩ | exact Or.inr ⟨_, rfl⟩) (Or.inr ⟨_, rfl⟩) (fun t ht hW => ⟨⟨some q38, ws_3, rfl, ⟨hk, ⟨q38, hlen, (by rw [colN_1, rowN_1]; exact G3_0), rfl⟩⟩, J.I X ht hW.alike⟩, J.F ht⟩) J.locs dX7_spot_48
  · refine lv_iload_n hx hb dX7_spot_0 rfl (lv_at hl 0 rfl) ?_
    refine lv_iconst (v := 2) hx hb dX7_spot_1 (by decide) ?_
    refine lv_icmp_ge (tgt := 9) hx hb dX7_spot_2 (by decide) (fun cz2 => ?_) (fun cz2 => by exact absurd cz2 (by decide))
    refine lv_bipush (v := 19) hx hb dX7_spot_9 (by decide) ?_
    refine lv_iload_n hx hb dX7_spot_11 rfl (lv_at hl 2 rfl) ?_
    refine lv_isub hx hb dX7_spot_12 ?_
    refine W.eq (g2 := F0 m 13 ls [.int (nI (19 - k))]) (congrArg (fun z9 : Int32 => F0 m 13 ls [.int z9]) (show (19 - (nI k) : Int32) = nI (19 - k) from (pk_sub (a := 19) (b := k) (by omega)))) ?_
    refine lv_istore_n (lv' := [(3, .int (nI (19 - k))), (0, .int 2), (1, .int (nI i)), (2, .int (nI k))]) hx hb dX7_spot_13 rfl hl (by decide) rfl (fun ls hl => ?_)
    refine lv_iload_n hx hb dX7_spot_14 rfl (lv_at hl 1 rfl) ?_
    refine lv_if_eq (tgt := 23) hx hb dX7_spot_15 (by decide) (fun cz15 => by exact absurd cz15 (by decide)) (fun cz15 => ?_)
    refine lv_iload_n hx hb dX7_spot_18 rfl (lv_at hl 1 rfl) ?_
    refine lv_iconst (v := 2) hx hb dX7_spot_19 (by decide) ?_
    refine lv_icmp_ne (tgt := 37) hx hb dX7_spot_20 (by decide) (fun cz20 => by exact absurd cz20 (by decide)) (fun cz20 => ?_)
    refine lv_iconst (v := 2) hx hb dX7_spot_23 (by decide) ?_
    refine z_newa (N' := 2) X J (by decide +kernel) (by decide) (by decide) (Nat.le_of_ble_eq_true rfl) (Nat.le_of_ble_eq_true rfl) (Nat.le_of_ble_eq_true rfl) dX7_spot_24 (fun q24 H J => ?_)
    have lp1 := hk.1
    have hk := hk.trans (zK.app (more := [(q24, zI4 E 2 (fun _ => 0))]))
    have hpn1 := hlen
    have hlen : (ws ++ ([(q24, zI4 E 2 (fun _ => 0))] : va_W)).length = ws.length + 1 := by rw [List.length_append, hlen]; rfl
    have G1_n := zapp_new (ws := ws) (x := (q24, zI4 E 2 (fun _ => 0)))
    generalize hws1 : ws ++ [(q24, zI4 E 2 (fun _ => 0))] = ws_1 at J hk hlen G1_n
    rw [hpn1] at lp1 G1_n
    refine lv_dup hx hb dX7_spot_26 rfl ?_
    refine lv_iconst (v := nI 0) hx hb dX7_spot_27 rfl ?_
    refine lv_iload_n hx hb dX7_spot_28 rfl (lv_at hl 0 rfl) ?_
    refine z_iast X J (ws.length + 0) G1_n (vp_in_nI (by omega) (by first | decide | omega)) dX7_spot_29 (fun H locs J => ?_)
    rw [show upd (fun _ => 0) (nI 0).toNatClampNeg (nI (19 - k)) = upd (fun _ => 0) 0 (nI (19 - k)) from (by rw [nI_clamp (by omega)])] at J
    have hk := hk.setNew (q := (ws.length + 0)) (e := (q24, zI4 E 2 (upd (fun _ => 0) 0 (nI (19 - k))))) (Nat.le_add_right _ _)
    have hlen : (ws_1.set (ws.length + 0) (q24, zI4 E 2 (upd (fun _ => 0) 0 (nI (19 - k))))).length = ws.length + 1 := (List.length_set ..).trans hlen
    have G2_0 := zset_eq (e' := (q24, zI4 E 2 (upd (fun _ => 0) 0 (nI (19 - k))))) G1_n
    generalize hws2 : (ws_1.set (ws.length + 0) (q24, zI4 E 2 (upd (fun _ => 0) 0 (nI (19 - k))))) = ws_2 at J hlen hk G2_0
    refine lv_dup hx hb dX7_spot_30 rfl ?_
    refine lv_iconst (v := nI 1) hx hb dX7_spot_31 rfl ?_
    refine lv_iload_n hx hb dX7_spot_32 rfl (lv_at hl 2 rfl) ?_
    refine z_iast X J (ws.length + 0) G2_0 (vp_in_nI (by omega) (by first | decide | omega)) dX7_spot_33 (fun H locs J => ?_)
    rw [show upd (upd (fun _ => 0) 0 (nI (19 - k))) (nI 1).toNatClampNeg (nI i) = upd (upd (fun _ => 0) 0 (nI (19 - k))) 1 (nI i) from (by rw [nI_clamp (by omega)])] at J
    have hk := hk.setNew (q := (ws.length + 0)) (e := (q24, zI4 E 2 (upd (upd (fun _ => 0) 0 (nI (19 - k))) 1 (nI i)))) (Nat.le_add_right _ _)
    have hlen : (ws_2.set (ws.length + 0) (q24, zI4 E 2 (upd (upd (fun _ => 0) 0 (nI (19 - k))) 1 (nI i)))).length = ws.length + 1 := (List.length_set ..).trans hlen
    have G3_0 := zset_eq (e' := (q24, zI4 E 2 (upd (upd (fun _ => 0) 0 (nI (19 - k))) 1 (nI i)))) G2_0
    generalize hws3 : (ws_2.set (ws.length + 0) (q24, zI4 E 2 (upd (upd (fun _ => 0) 0 (nI (19 - k))) 1 (nI i)))) = ws_3 at J hlen hk G3_0
    refine lv_goto (tgt := 48) hx hb dX7_spot_34 (by decide) ?_
    subst hQ
    exact W.aret (v := .ref q24) hx hb hr (by first | exact Or.inl ⟨_, rfl⟩ | exact Or.inr ⟨_, rfl⟩) (Or.inr ⟨_, rfl⟩) (fun t ht hW => ⟨⟨some q24, ws_3, rfl, ⟨hk, ⟨q24, hlen, (by rw [colN_2, rowN_2]; exact G3_0), rfl⟩⟩, J.I X ht hW.alike⟩, J.F ht⟩) J.locs dX7_spot_48
  · refine lv_iload_n hx hb dX7_spot_0 rfl (lv_at hl 0 rfl) ?_
    refine lv_iconst (v := 2) hx hb dX7_spot_1 (by decide) ?_
    refine lv_icmp_ge (tgt := 9) hx hb dX7_spot_2 (by decide) (fun cz2 => ?_) (fun cz2 => by exact absurd cz2 (by decide))
    refine lv_bipush (v := 19) hx hb dX7_spot_9 (by decide) ?_
    refine lv_iload_n hx hb dX7_spot_11 rfl (lv_at hl 2 rfl) ?_
    refine lv_isub hx hb dX7_spot_12 ?_
    refine W.eq (g2 := F0 m 13 ls [.int (nI (19 - k))]) (congrArg (fun z9 : Int32 => F0 m 13 ls [.int z9]) (show (19 - (nI k) : Int32) = nI (19 - k) from (pk_sub (a := 19) (b := k) (by omega)))) ?_
    refine lv_istore_n (lv' := [(3, .int (nI (19 - k))), (0, .int 3), (1, .int (nI i)), (2, .int (nI k))]) hx hb dX7_spot_13 rfl hl (by decide) rfl (fun ls hl => ?_)
    refine lv_iload_n hx hb dX7_spot_14 rfl (lv_at hl 1 rfl) ?_
    refine lv_if_eq (tgt := 23) hx hb dX7_spot_15 (by decide) (fun cz15 => by exact absurd cz15 (by decide)) (fun cz15 => ?_)
    refine lv_iload_n hx hb dX7_spot_18 rfl (lv_at hl 1 rfl) ?_
    refine lv_iconst (v := 2) hx hb dX7_spot_19 (by decide) ?_
    refine lv_icmp_ne (tgt := 37) hx hb dX7_spot_20 (by decide) (fun cz20 => ?_) (fun cz20 => by exact absurd cz20 (by decide))
    refine lv_iconst (v := 2) hx hb dX7_spot_37 (by decide) ?_
    refine z_newa (N' := 2) X J (by decide +kernel) (by decide) (by decide) (Nat.le_of_ble_eq_true rfl) (Nat.le_of_ble_eq_true rfl) (Nat.le_of_ble_eq_true rfl) dX7_spot_38 (fun q38 H J => ?_)
    have lp1 := hk.1
    have hk := hk.trans (zK.app (more := [(q38, zI4 E 2 (fun _ => 0))]))
    have hpn1 := hlen
    have hlen : (ws ++ ([(q38, zI4 E 2 (fun _ => 0))] : va_W)).length = ws.length + 1 := by rw [List.length_append, hlen]; rfl
    have G1_n := zapp_new (ws := ws) (x := (q38, zI4 E 2 (fun _ => 0)))
    generalize hws1 : ws ++ [(q38, zI4 E 2 (fun _ => 0))] = ws_1 at J hk hlen G1_n
    rw [hpn1] at lp1 G1_n
    refine lv_dup hx hb dX7_spot_40 rfl ?_
    refine lv_iconst (v := nI 0) hx hb dX7_spot_41 rfl ?_
    refine lv_iload_n hx hb dX7_spot_42 rfl (lv_at hl 2 rfl) ?_
    refine z_iast X J (ws.length + 0) G1_n (vp_in_nI (by omega) (by first | decide | omega)) dX7_spot_43 (fun H locs J => ?_)
    rw [show upd (fun _ => 0) (nI 0).toNatClampNeg (nI i) = upd (fun _ => 0) 0 (nI i) from (by rw [nI_clamp (by omega)])] at J
    have hk := hk.setNew (q := (ws.length + 0)) (e := (q38, zI4 E 2 (upd (fun _ => 0) 0 (nI i)))) (Nat.le_add_right _ _)
    have hlen : (ws_1.set (ws.length + 0) (q38, zI4 E 2 (upd (fun _ => 0) 0 (nI i)))).length = ws.length + 1 := (List.length_set ..).trans hlen
    have G2_0 := zset_eq (e' := (q38, zI4 E 2 (upd (fun _ => 0) 0 (nI i)))) G1_n
    generalize hws2 : (ws_1.set (ws.length + 0) (q38, zI4 E 2 (upd (fun _ => 0) 0 (nI i)))) = ws_2 at J hlen hk G2_0
    refine lv_dup hx hb dX7_spot_44 rfl ?_
    refine lv_iconst (v := nI 1) hx hb dX7_spot_45 rfl ?_
    refine lv_iload_n hx hb dX7_spot_46 rfl (lv_at hl 0 rfl) ?_
    refine z_iast X J (ws.length + 0) G2_0 (vp_in_nI (by omega) (by first | decide | omega)) dX7_spot_47 (fun H locs J => ?_)
    rw [show upd (upd (fun _ => 0) 0 (nI i)) (nI 1).toNatClampNeg (nI (19 - k)) = upd (upd (fun _ => 0) 0 (nI i)) 1 (nI (19 - k)) from (by rw [nI_clamp (by omega)])] at J
    have hk := hk.setNew (q := (ws.length + 0)) (e := (q38, zI4 E 2 (upd (upd (fun _ => 0) 0 (nI i)) 1 (nI (19 - k))))) (Nat.le_add_right _ _)
    have hlen : (ws_2.set (ws.length + 0) (q38, zI4 E 2 (upd (upd (fun _ => 0) 0 (nI i)) 1 (nI (19 - k))))).length = ws.length + 1 := (List.length_set ..).trans hlen
    have G3_0 := zset_eq (e' := (q38, zI4 E 2 (upd (upd (fun _ => 0) 0 (nI i)) 1 (nI (19 - k))))) G2_0
    generalize hws3 : (ws_2.set (ws.length + 0) (q38, zI4 E 2 (upd (upd (fun _ => 0) 0 (nI i)) 1 (nI (19 - k))))) = ws_3 at J hlen hk G3_0
    subst hQ
    exact W.aret (v := .ref q38) hx hb hr (by first | exact Or.inl ⟨_, rfl⟩ | exact Or.inr ⟨_, rfl⟩) (Or.inr ⟨_, rfl⟩) (fun t ht hW => ⟨⟨some q38, ws_3, rfl, ⟨hk, ⟨q38, hlen, (by rw [colN_3, rowN_3]; exact G3_0), rfl⟩⟩, J.I X ht hW.alike⟩, J.F ht⟩) J.locs dX7_spot_48
set_option maxHeartbeats 400000 in
set_option maxRecDepth 100000 in
theorem cX7_highest_ok (l : Launch) (E : zG) {ws : va_W} {qz z fe ro sa : Nat} {lim sup off plo hrs : Int32} {qf n : Nat} {g : Nat → Option Nat} {fa : Nat → Int32} {cx rx : Int32} (Fa0 : ws[qz]? = some (z, .inr (8, [.ref fe, .ref ro, .ref sa, .int lim, .int sup, .int off, .int plo, .int hrs]))) (Fa1 : ws[qf]? = some (fe, zA4 E n g)) (hSE : SE E ws g n fa) (hn9 : n ≤ 11) : Met l yX7_highest wsX7_highest ({ frames := 1, cells := 1, slots := 0, locals := 23 } : Room) (va_Pc [.ref z, .int cx, .int rx] (zI E ws)) (va_Qq (fun (r : Option Nat) (ws' : va_W) => (zK [] ws ws') ∧ (∃ (ba9 : Nat) (pb9 : Nat) (nb9 : Nat) (fb9 : Nat → Int32), (ws'[pb9]? = some (ba9, zI4 E nb9 fb9)) ∧ (bsI fa n cx rx 0 nb9 fb9) ∧ (r = some ba9))) (zI E) (zA E)) 1 0 (zA E) := by
  refine Met.ofW (cc := cX7_highest) (maxL := 5) (ret := (some (.array .int))) (by decide) rfl ?_
  intro p e s m args below meth c s₁ B hml hv
  obtain ⟨hargs9, hI⟩ := hv
  have hx := B.exec
  have hb := B.bytes
  have hr := B.returns
  have hlocks := B.notSynchronized
  have X : zC E p m c cX7_highest 5 s args wsX7_highest RX7 := z_open B hml hI
  have hown := X.1.2.2.2.1
  have hts := X.1.2.2.2.2
  have J := hI.J
  have hi_X7 : ∀ w ∈ wsX70, w ∈ wsX7_highest := by decide +kernel
  have n0_1 : qz ≠ qf := zneK Fa0 Fa1 rfl
  have hk : zK [] ws ws := zK.rf
  have hlen : ws.length = ws.length + 0 := rfl
  have bFa0 := zlt Fa0
  have bFa1 := zlt Fa1
  have hl := lv_entry ([.ref z, .int cx, .int rx]) (n := 5) (Nat.le_of_ble_eq_true rfl)
  rw [show entryFrame m args 5 = entryFrame m ([.ref z, .int cx, .int rx] : List Value).toArray 5 from by rw [hargs9], lg_entry_eq]
  generalize (lg_sl ([.ref z, .int cx, .int rx]) ++ List.replicate (5 - (lg_sl ([.ref z, .int cx, .int rx])).length) Slot.unset).toArray = ls at hl ⊢
  have hl : lv_has ls 5 [(0, .ref z), (1, .int cx), (2, .int rx)] := hl
  generalize hQ : (MQ below (va_Qq (fun (r : Option Nat) (ws' : va_W) => (zK [] ws ws') ∧ (∃ (ba9 : Nat) (pb9 : Nat) (nb9 : Nat) (fb9 : Nat → Int32), (ws'[pb9]? = some (ba9, zI4 E nb9 fb9)) ∧ (bsI fa n cx rx 0 nb9 fb9) ∧ (r = some ba9))) (zI E) (zA E)) args s 1 0 (zA E)) = QQ
  refine lv_iconst (v := 0) hx hb dX7_highest_0 (by decide) ?_
  refine z_newa (N' := 0) X J (by decide +kernel) (by decide) (by decide) (Nat.le_of_ble_eq_true rfl) (Nat.le_of_ble_eq_true rfl) (Nat.le_of_ble_eq_true rfl) dX7_highest_1 (fun q1 H J => ?_)
  have lp1 := hk.1
  have hk := hk.trans (zK.app (more := [(q1, zI4 E 0 (fun _ => 0))]))
  have hpn1 := hlen
  have hlen : (ws ++ ([(q1, zI4 E 0 (fun _ => 0))] : va_W)).length = ws.length + 1 := by rw [List.length_append, hlen]; rfl
  have bG1_0 := zlt Fa0
  have G1_0 := zapp (x := (q1, zI4 E 0 (fun _ => 0))) Fa0
  have bG1_1 := zlt Fa1
  have G1_1 := zapp (x := (q1, zI4 E 0 (fun _ => 0))) Fa1
  have G1_n := zapp_new (ws := ws) (x := (q1, zI4 E 0 (fun _ => 0)))
  generalize hws1 : ws ++ [(q1, zI4 E 0 (fun _ => 0))] = ws_1 at J hk hlen G1_0 G1_1 G1_n
  rw [hpn1] at lp1 G1_n bG1_0 bG1_1
  refine lv_astore_n (lv' := [(3, .ref q1), (0, .ref z), (1, .int cx), (2, .int rx)]) hx hb dX7_highest_3 rfl hl (by decide) rfl (fun ls hl => ?_)
  refine lv_aload_n hx hb dX7_highest_4 rfl (lv_at hl 1 rfl) ?_
  refine z_get (C := RX7) (T := TX7) (N := 8) (ci := 8) (v := .ref fe) X J hi_X7 qz G1_0 rfl 0 (by decide) (by decide +kernel) rfl dX7_highest_5 ?_
  refine z_alenA (v := nI n) X J qf G1_1 rfl dX7_highest_8 ?_
  refine lv_iconst (v := 1) hx hb dX7_highest_9 (by decide) ?_
  refine lv_isub hx hb dX7_highest_10 ?_
  refine W.eq (g2 := F0 m 11 ls [.int (nI (n - 0) - 1)]) (congrArg (fun z9 : Int32 => F0 m 11 ls [.int z9]) (show ((nI n) - 1 : Int32) = nI (n - 0) - 1 from rfl)) ?_
  refine lv_istore (lv' := [(4, .int (nI (n - 0) - 1)), (3, .ref q1), (0, .ref z), (1, .int cx), (2, .int rx)]) hx hb dX7_highest_11 hl (by decide) rfl (fun ls hl => ?_)
  have loop_13 : ∀ (k9 d : Nat) (ba : Nat) (pb : Nat) (nb : Nat) (fb : Nat → Int32), d + k9 = n → bsI fa n cx rx (n - d) nb fb → ∀ (wl13 : va_W) (H : Heap) (locs : List Loc) (ls : Array Slot), zK [] ws wl13 → wl13[qz]? = some (z, .inr (8, [.ref fe, .ref ro, .ref sa, .int lim, .int sup, .int off, .int plo, .int hrs])) → wl13[qf]? = some (fe, zA4 E n g) → wl13[(ws.length + 0)]? = some (q1, zI4 E 0 (fun _ => 0)) → wl13[pb]? = some (ba, zI4 E nb fb) → wl13.length = ws.length + 1 → zJ E wl13 s H locs → lv_has ls 5 [(4, .int (nI (n - d) - 1)), (3, .ref ba), (0, .ref z), (1, .int cx), (2, .int rx)] → W p l e (headSpec wsX7_highest ({ frames := 1, cells := 1, slots := 0, locals := 23 } : Room)).room s m args below meth c H locs 1 0 QQ (F0 m 13 ls []) := by
    intro k9
    induction k9 with
    | zero =>
      intro d ba pb nb fb hik hinv wl13 H locs ls hk L13_0 L13_1 L13_2 hbest hlen J hl
      obtain rfl : n = d := by omega
      refine lv_iload hx hb dX7_highest_13 (lv_at hl 0 rfl) ?_
      refine lv_if_lt (tgt := 67) hx hb dX7_highest_15 (by decide) (fun cz15 => ?_) (fun cz15 => by exact (cz15 (by rw [Nat.sub_self]; decide)).elim)
      refine lv_aload_n hx hb dX7_highest_67 rfl (lv_at hl 1 rfl) ?_
      subst hQ
      exact W.aret (v := .ref ba) hx hb hr (by first | exact Or.inl ⟨_, rfl⟩ | exact Or.inr ⟨_, rfl⟩) (Or.inr ⟨_, rfl⟩) (fun t ht hW => ⟨⟨some ba, wl13, rfl, ⟨hk, ⟨ba, pb, nb, fb, hbest, (by rw [Nat.sub_self] at hinv; exact hinv), rfl⟩⟩, J.I X ht hW.alike⟩, J.F ht⟩) J.locs dX7_highest_68
    | succ k9 ih_13 =>
      intro d ba pb nb fb hik hinv wl13 H locs ls hk L13_0 L13_1 L13_2 hbest hlen J hl
      refine lv_iload hx hb dX7_highest_13 (lv_at hl 0 rfl) ?_
      refine lv_if_lt (tgt := 67) hx hb dX7_highest_15 (by decide) (fun cz15 => by exact absurd (show nI (n - d) - 1 < 0 from cz15) (by rw [nI_sub1 (by omega)]; exact nI_pos (by omega))) (fun cz15 => ?_)
      obtain ⟨ja, jq, jf, hgj, hjq, hjf, hje⟩ := hSE (n - d - 1) (by omega)
      have hjf := hk.2 jq _ List.not_mem_nil hjf
      have hl : lv_has ls 5 [(4, .int (nI (n - d - 1))), (3, .ref ba), (0, .ref z), (1, .int cx), (2, .int rx)] := lv_repl hl (congrArg (fun z9 : Int32 => ([(4, .int z9), (3, .ref ba), (0, .ref z), (1, .int cx), (2, .int rx)] : List (Nat × Value))) (show nI (n - d) - 1 = nI (n - d - 1) from nI_sub1 (by omega)))
      refine lv_aload_n hx hb dX7_highest_18 rfl (lv_at hl 2 rfl) ?_
      refine z_get (C := RX7) (T := TX7) (N := 8) (ci := 8) (v := .ref fe) X J hi_X7 qz L13_0 rfl 0 (by decide) (by decide +kernel) rfl dX7_highest_19 ?_
      refine lv_iload hx hb dX7_highest_22 (lv_at hl 0 rfl) ?_
      refine z_aaldA X J qf L13_1 (vp_in_nI (by omega) (by first | decide | omega)) dX7_highest_24 ?_
      refine W.eq (g2 := F0 m 25 ls [va_rf (g (n - d - 1))]) (congrArg (fun z9 : Option Nat => F0 m 25 ls [va_rf z9]) (show (g (nI (n - d - 1)).toNatClampNeg : Option Nat) = g (n - d - 1) from (congrArg _ (nI_clamp (by omega))))) ?_
      refine W.eq (g2 := F0 m 25 ls [.ref ja]) (by rw [show g (n - d - 1) = some ja from hgj]; rfl) ?_
      refine lv_iload_n hx hb dX7_highest_25 rfl (lv_at hl 3 rfl) ?_
      refine lv_iload_n hx hb dX7_highest_26 rfl (lv_at hl 4 rfl) ?_
      refine z_cr (z_rS (As := [.ref ja, .int cx, .int rx]) (rest := []) X J (cX7_isOn_ok l E hjf) (va_cwS 3 hts gX7_highest_X7_isOn rfl rfl rfl (by decide +kernel) ⟨Nat.le_of_ble_eq_true rfl, Nat.le_of_ble_eq_true rfl⟩) rfl hl.1 rfl (Nat.le_of_ble_eq_true rfl) dX7_highest_27 ⟨Nat.le_of_ble_eq_true rfl, Nat.le_of_ble_eq_true rfl⟩) (fun r27 e_r27 => ?_)
      subst e_r27
      refine W.eq (g2 := F0 m 30 ls [.int (onI (fw fa (n - d - 1)) cx rx)]) (congrArg (fun z9 : Int32 => F0 m 30 ls [.int z9]) (show (onI jf cx rx : Int32) = onI (fw fa (n - d - 1)) cx rx from (onI_c hje))) ?_
      refine lv_if_eq (tgt := 61) hx hb dX7_highest_30 (by decide) (fun cz30 => ?_) (fun cz30 => ?_)
      · refine lv_iinc (v := nI (n - d - 1) + -1) (lv' := [(4, .int (nI (n - d - 1) + -1)), (3, .ref ba), (0, .ref z), (1, .int cx), (2, .int rx)]) hx hb dX7_highest_61 hl (k := 0) rfl rfl (by decide) rfl (fun ls hl => ?_)
        refine lv_goto (tgt := 13) hx hb dX7_highest_64 (by decide) ?_
        have hl : lv_has ls 5 [(4, .int (nI (n - (d + 1)) - 1)), (3, .ref ba), (0, .ref z), (1, .int cx), (2, .int rx)] := lv_repl hl (congrArg (fun z9 : Int32 => ([(4, .int z9), (3, .ref ba), (0, .ref z), (1, .int cx), (2, .int rx)] : List (Nat × Value))) (show (nI (n - d - 1) + -1 : Int32) = nI (n - (d + 1)) - 1 from (by rw [show n - (d + 1) = n - d - 1 by omega, Int32.sub_eq_add_neg])))
        exact ih_13 (d + 1) ba pb nb fb (by omega) (bsI_skip (lo := n - d - 1) (by rw [show n - d - 1 + 1 = n - d by omega]; exact hinv) cz30) _ _ _ _ hk L13_0 L13_1 L13_2 hbest hlen J (lv_sub hl [0, 1, 2, 3, 4] rfl)
      · refine lv_aload_n hx hb dX7_highest_33 rfl (lv_at hl 1 rfl) ?_
        refine z_alenI (v := nI nb) X J pb hbest rfl dX7_highest_34 ?_
        refine lv_if_eq (tgt := 53) hx hb dX7_highest_35 (by decide) (fun cz35 => ?_) (fun cz35 => ?_)
        · refine lv_aload_n hx hb dX7_highest_53 rfl (lv_at hl 2 rfl) ?_
          refine z_get (C := RX7) (T := TX7) (N := 8) (ci := 8) (v := .ref fe) X J hi_X7 qz L13_0 rfl 0 (by decide) (by decide +kernel) rfl dX7_highest_54 ?_
          refine lv_iload hx hb dX7_highest_57 (lv_at hl 0 rfl) ?_
          refine z_aaldA X J qf L13_1 (vp_in_nI (by omega) (by first | decide | omega)) dX7_highest_59 ?_
          refine W.eq (g2 := F0 m 60 ls [va_rf (g (n - d - 1))]) (congrArg (fun z9 : Option Nat => F0 m 60 ls [va_rf z9]) (show (g (nI (n - d - 1)).toNatClampNeg : Option Nat) = g (n - d - 1) from (congrArg _ (nI_clamp (by omega))))) ?_
          refine W.eq (g2 := F0 m 60 ls [.ref ja]) (by rw [show g (n - d - 1) = some ja from hgj]; rfl) ?_
          refine lv_astore_n (lv' := [(3, .ref ja), (4, .int (nI (n - d - 1))), (0, .ref z), (1, .int cx), (2, .int rx)]) hx hb dX7_highest_60 rfl hl (by decide) rfl (fun ls hl => ?_)
          refine lv_iinc (v := nI (n - d - 1) + -1) (lv' := [(4, .int (nI (n - d - 1) + -1)), (3, .ref ja), (0, .ref z), (1, .int cx), (2, .int rx)]) hx hb dX7_highest_61 hl (k := 1) rfl rfl (by decide) rfl (fun ls hl => ?_)
          refine lv_goto (tgt := 13) hx hb dX7_highest_64 (by decide) ?_
          have hl : lv_has ls 5 [(4, .int (nI (n - (d + 1)) - 1)), (3, .ref ja), (0, .ref z), (1, .int cx), (2, .int rx)] := lv_repl hl (congrArg (fun z9 : Int32 => ([(4, .int z9), (3, .ref ja), (0, .ref z), (1, .int cx), (2, .int rx)] : List (Nat × Value))) (show (nI (n - d - 1) + -1 : Int32) = nI (n - (d + 1)) - 1 from (by rw [show n - (d + 1) = n - d - 1 by omega, Int32.sub_eq_add_neg])))
          exact ih_13 (d + 1) ja jq 6 jf (by omega) (bsI_win (lo := n - d - 1) (by rw [show n - d - 1 + 1 = n - d by omega]; exact hinv) hje (by omega) cz30 (Or.inl cz35)) _ _ _ _ hk L13_0 L13_1 L13_2 hjf hlen J (lv_sub hl [0, 1, 2, 3, 4] rfl)
        · refine lv_aload_n hx hb dX7_highest_38 rfl (lv_at hl 2 rfl) ?_
          refine z_get (C := RX7) (T := TX7) (N := 8) (ci := 8) (v := .ref fe) X J hi_X7 qz L13_0 rfl 0 (by decide) (by decide +kernel) rfl dX7_highest_39 ?_
          refine lv_iload hx hb dX7_highest_42 (lv_at hl 0 rfl) ?_
          refine z_aaldA X J qf L13_1 (vp_in_nI (by omega) (by first | decide | omega)) dX7_highest_44 ?_
          refine W.eq (g2 := F0 m 45 ls [va_rf (g (n - d - 1))]) (congrArg (fun z9 : Option Nat => F0 m 45 ls [va_rf z9]) (show (g (nI (n - d - 1)).toNatClampNeg : Option Nat) = g (n - d - 1) from (congrArg _ (nI_clamp (by omega))))) ?_
          refine W.eq (g2 := F0 m 45 ls [.ref ja]) (by rw [show g (n - d - 1) = some ja from hgj]; rfl) ?_
          refine lv_iconst (v := nI 4) hx hb dX7_highest_45 rfl ?_
          refine z_iald X J jq hjf (vp_in_nI (by omega) (by first | decide | omega)) dX7_highest_46 ?_
          refine W.eq (g2 := F0 m 47 ls [.int (fa (6 * (n - d - 1) + 4))]) (congrArg (fun z9 : Int32 => F0 m 47 ls [.int z9]) (show (jf (nI 4).toNatClampNeg : Int32) = fa (6 * (n - d - 1) + 4) from ((congrArg jf (nI_clamp (by omega))).trans (hje 4 (by decide))))) ?_
          refine lv_aload_n hx hb dX7_highest_47 rfl (lv_at hl 1 rfl) ?_
          refine lv_iconst (v := nI 4) hx hb dX7_highest_48 rfl ?_
          have hnb6 := bsI_6 hinv cz35
          refine z_iald X J pb hbest (vp_in_nI (by omega) (by omega)) dX7_highest_49 ?_
          refine W.eq (g2 := F0 m 50 ls [.int (fb 4), .int (fa (6 * (n - d - 1) + 4))]) (congrArg (fun z9 : Int32 => F0 m 50 ls [.int z9, .int (fa (6 * (n - d - 1) + 4))]) (show (fb (nI 4).toNatClampNeg : Int32) = fb 4 from (congrArg _ (nI_clamp (by omega))))) ?_
          refine lv_icmp_lt (tgt := 61) hx hb dX7_highest_50 (by decide) (fun cz50 => ?_) (fun cz50 => ?_)
          · refine lv_iinc (v := nI (n - d - 1) + -1) (lv' := [(4, .int (nI (n - d - 1) + -1)), (3, .ref ba), (0, .ref z), (1, .int cx), (2, .int rx)]) hx hb dX7_highest_61 hl (k := 0) rfl rfl (by decide) rfl (fun ls hl => ?_)
            refine lv_goto (tgt := 13) hx hb dX7_highest_64 (by decide) ?_
            have hl : lv_has ls 5 [(4, .int (nI (n - (d + 1)) - 1)), (3, .ref ba), (0, .ref z), (1, .int cx), (2, .int rx)] := lv_repl hl (congrArg (fun z9 : Int32 => ([(4, .int z9), (3, .ref ba), (0, .ref z), (1, .int cx), (2, .int rx)] : List (Nat × Value))) (show (nI (n - d - 1) + -1 : Int32) = nI (n - (d + 1)) - 1 from (by rw [show n - (d + 1) = n - d - 1 by omega, Int32.sub_eq_add_neg])))
            exact ih_13 (d + 1) ba pb nb fb (by omega) (bsI_lose (lo := n - d - 1) (by rw [show n - d - 1 + 1 = n - d by omega]; exact hinv) cz35 cz50) _ _ _ _ hk L13_0 L13_1 L13_2 hbest hlen J (lv_sub hl [0, 1, 2, 3, 4] rfl)
          · refine lv_aload_n hx hb dX7_highest_53 rfl (lv_at hl 2 rfl) ?_
            refine z_get (C := RX7) (T := TX7) (N := 8) (ci := 8) (v := .ref fe) X J hi_X7 qz L13_0 rfl 0 (by decide) (by decide +kernel) rfl dX7_highest_54 ?_
            refine lv_iload hx hb dX7_highest_57 (lv_at hl 0 rfl) ?_
            refine z_aaldA X J qf L13_1 (vp_in_nI (by omega) (by first | decide | omega)) dX7_highest_59 ?_
            refine W.eq (g2 := F0 m 60 ls [va_rf (g (n - d - 1))]) (congrArg (fun z9 : Option Nat => F0 m 60 ls [va_rf z9]) (show (g (nI (n - d - 1)).toNatClampNeg : Option Nat) = g (n - d - 1) from (congrArg _ (nI_clamp (by omega))))) ?_
            refine W.eq (g2 := F0 m 60 ls [.ref ja]) (by rw [show g (n - d - 1) = some ja from hgj]; rfl) ?_
            refine lv_astore_n (lv' := [(3, .ref ja), (4, .int (nI (n - d - 1))), (0, .ref z), (1, .int cx), (2, .int rx)]) hx hb dX7_highest_60 rfl hl (by decide) rfl (fun ls hl => ?_)
            refine lv_iinc (v := nI (n - d - 1) + -1) (lv' := [(4, .int (nI (n - d - 1) + -1)), (3, .ref ja), (0, .ref z), (1, .int cx), (2, .int rx)]) hx hb dX7_highest_61 hl (k := 1) rfl rfl (by decide) rfl (fun ls hl => ?_)
            refine lv_goto (tgt := 13) hx hb dX7_highest_64 (by decide) ?_
            have hl : lv_has ls 5 [(4, .int (nI (n - (d + 1)) - 1)), (3, .ref ja), (0, .ref z), (1, .int cx), (2, .int rx)] := lv_repl hl (congrArg (fun z9 : Int32 => ([(4, .int z9), (3, .ref ja), (0, .ref z), (1, .int cx), (2, .int rx)] : List (Nat × Value))) (show (nI (n - d - 1) + -1 : Int32) = nI (n - (d + 1)) - 1 from (by rw [show n - (d + 1) = n - d - 1 by omega, Int32.sub_eq_add_neg])))
            exact ih_13 (d + 1) ja jq 6 jf (by omega) (bsI_win (lo := n - d - 1) (by rw [show n - d - 1 + 1 = n - d by omega]; exact hinv) hje (by omega) cz30 (Or.inr cz50)) _ _ _ _ hk L13_0 L13_1 L13_2 hjf hlen J (lv_sub hl [0, 1, 2, 3, 4] rfl)
  exact loop_13 n 0 q1 (ws.length + 0) 0 (fun _ => 0) (by omega) bsI_0 _ _ _ _ hk G1_0 G1_1 G1_n G1_n hlen J (lv_sub hl [0, 1, 2, 3, 4] rfl)
