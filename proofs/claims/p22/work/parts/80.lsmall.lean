set_option maxHeartbeats 400000 in
set_option maxRecDepth 100000 in
theorem cL_below_ok (l : Launch) (E : zG) {ws : va_W} {v : Int32} {n : Nat}  (hn0 : 0 < n) (hn9 : n < 2 ^ 30) : Met l yL_below wsL_below ({ frames := 0, cells := 0, slots := 0, locals := 0 } : Room) (va_Pc [.int v, .int (nI n)] (zI E ws)) (vp_Si (fun r : Int32 => r = nI (bln v n))) 0 0 (fun _ => False) := by
  refine Met.ofW (cc := cL_below) (maxL := 2) (ret := (some .int)) (by decide) rfl ?_
  intro p e s m args below meth c s₁ B hml hv
  obtain ⟨hargs9, hI⟩ := hv
  have hx := B.exec
  have hb := B.bytes
  have hr := B.returns
  have hlocks := B.notSynchronized
  have X : zC E p m c cL_below 2 s args wsL_below RL := z_open B hml hI
  have hown := X.1.2.2.2.1
  have hts := X.1.2.2.2.2
  have J := hI.J
  have hl := lv_entry ([.int v, .int (nI n)]) (n := 2) (Nat.le_of_ble_eq_true rfl)
  rw [show entryFrame m args 2 = entryFrame m ([.int v, .int (nI n)] : List Value).toArray 2 from by rw [hargs9], lg_entry_eq]
  generalize (lg_sl ([.int v, .int (nI n)]) ++ List.replicate (2 - (lg_sl ([.int v, .int (nI n)])).length) Slot.unset).toArray = ls at hl ⊢
  have hl : lv_has ls 2 [(0, .int v), (1, .int (nI n))] := hl
  generalize hQ : (MQ below (vp_Si (fun r : Int32 => r = nI (bln v n))) args s 0 0 (fun _ => False)) = QQ
  refine lv_iload_n hx hb dL_below_0 rfl (lv_at hl 0 rfl) ?_
  refine lv_ldc (v := 2147483647) hx hb hown (hts (.constant RL 7 2147483647) (by decide +kernel)) dL_below_1 ?_
  refine lv_iand hx hb dL_below_3 ?_
  refine W.eq (g2 := F0 m 4 ls [.int (nI (v.toBitVec.toNat % 2 ^ 31))]) (congrArg (fun z9 : Int32 => F0 m 4 ls [.int z9]) (show (v &&& 2147483647 : Int32) = nI (v.toBitVec.toNat % 2 ^ 31) from (pk_and v 31 (by decide)))) ?_
  refine lv_iload_n hx hb dL_below_4 rfl (lv_at hl 1 rfl) ?_
  refine lv_irem hx hb dL_below_5 (nI_ne0 hn0 (by omega)) ?_
  refine W.eq (g2 := F0 m 6 ls [.int (nI (bln v n))]) (congrArg (fun z9 : Int32 => F0 m 6 ls [.int z9]) (show ((nI (v.toBitVec.toNat % 2 ^ 31)) - (nI (v.toBitVec.toNat % 2 ^ 31)) / (nI n) * (nI n) : Int32) = nI (bln v n) from (pk_rem (Nat.mod_lt _ (by decide)) hn0 (by omega)))) ?_
  subst hQ
  exact W.iret (v := nI (bln v n)) hx hb hr (fun t ht hW => ⟨nI (bln v n), rfl, rfl, ht⟩) (fun q hq => absurd hq List.not_mem_nil) dL_below_6
set_option maxHeartbeats 400000 in
set_option maxRecDepth 100000 in
theorem cL_cell_ok (l : Launch) (E : zG) {ws : va_W} {k : Nat}  (hL : E.2.2.2.2.2.1 ≤ 260) (hk9 : k ≤ 100) : Met l yL_cell wsL_cell ({ frames := 0, cells := 0, slots := 0, locals := 0 } : Room) (va_Pc [.ref E.2.2.2.2.1, .int (nI k)] (zI E ws)) (vp_Si (fun r : Int32 => r = celS E.2.2.2.2.2.1 E.2.2.2.2.2.2 k)) 0 0 (fun _ => False) := by
  refine Met.ofW (cc := cL_cell) (maxL := 2) (ret := (some .int)) (by decide) rfl ?_
  intro p e s m args below meth c s₁ B hml hv
  obtain ⟨hargs9, hI⟩ := hv
  have hx := B.exec
  have hb := B.bytes
  have hr := B.returns
  have hlocks := B.notSynchronized
  have X : zC E p m c cL_cell 2 s args wsL_cell RL := z_open B hml hI
  have hown := X.1.2.2.2.1
  have hts := X.1.2.2.2.2
  have J := hI.J
  have hl := lv_entry ([.ref E.2.2.2.2.1, .int (nI k)]) (n := 2) (Nat.le_of_ble_eq_true rfl)
  rw [show entryFrame m args 2 = entryFrame m ([.ref E.2.2.2.2.1, .int (nI k)] : List Value).toArray 2 from by rw [hargs9], lg_entry_eq]
  generalize (lg_sl ([.ref E.2.2.2.2.1, .int (nI k)]) ++ List.replicate (2 - (lg_sl ([.ref E.2.2.2.2.1, .int (nI k)])).length) Slot.unset).toArray = ls at hl ⊢
  have hl : lv_has ls 2 [(0, .ref E.2.2.2.2.1), (1, .int (nI k))] := hl
  generalize hQ : (MQ below (vp_Si (fun r : Int32 => r = celS E.2.2.2.2.2.1 E.2.2.2.2.2.2 k)) args s 0 0 (fun _ => False)) = QQ
  refine lv_iload_n hx hb dL_cell_0 rfl (lv_at hl 1 rfl) ?_
  refine lv_aload_n hx hb dL_cell_1 rfl (lv_at hl 0 rfl) ?_
  refine va_tlen (v := nI E.2.2.2.2.2.1) hx hb X.2.2.1.2.2.2.2.2.2.2.2.2.2 J.2.2 rfl dL_cell_2 ?_
  refine lv_icmp_ge (tgt := 12) hx hb dL_cell_3 (by decide) (fun cz3 => ?_) (fun cz3 => ?_)
  · refine lv_ldc (v := 790386105) hx hb hown (hts (.constant RL 8 790386105) (by decide +kernel)) dL_cell_12 ?_
    refine lv_iload_n hx hb dL_cell_14 rfl (lv_at hl 1 rfl) ?_
    refine lv_iconst (v := 3) hx hb dL_cell_15 (by decide) ?_
    refine lv_iadd hx hb dL_cell_16 ?_
    refine lv_imul hx hb dL_cell_17 ?_
    refine W.eq (g2 := F0 m 18 ls [.int (celS E.2.2.2.2.2.1 E.2.2.2.2.2.2 k)]) (congrArg (fun z9 : Int32 => F0 m 18 ls [.int z9]) (show (790386105 * ((nI k) + 3) : Int32) = celS E.2.2.2.2.2.1 E.2.2.2.2.2.2 k from (if_neg (fun q9 => absurd (nI_lt q9 (by omega)) (Int32.not_lt.mpr cz3))).symm)) ?_
    subst hQ
    exact W.iret (v := celS E.2.2.2.2.2.1 E.2.2.2.2.2.2 k) hx hb hr (fun t ht hW => ⟨celS E.2.2.2.2.2.1 E.2.2.2.2.2.2 k, rfl, rfl, ht⟩) (fun q hq => absurd hq List.not_mem_nil) dL_cell_18
  · refine lv_aload_n hx hb dL_cell_6 rfl (lv_at hl 0 rfl) ?_
    refine lv_iload_n hx hb dL_cell_7 rfl (lv_at hl 1 rfl) ?_
    refine va_ti (v := .int (E.2.2.2.2.2.2 k)) hx hb X.2.2.1.2.2.2.2.2.2.2.2.2.2 J.2.2 (vp_in_nI (Nat.lt_of_not_le (fun q9 => cz3 (nI_le q9 (by omega)))) (by omega)) (by rw [nI_clamp (by omega)]) dL_cell_8 ?_
    refine W.eq (g2 := F0 m 9 ls [.int (celS E.2.2.2.2.2.1 E.2.2.2.2.2.2 k)]) (congrArg (fun z9 : Int32 => F0 m 9 ls [.int z9]) (show (E.2.2.2.2.2.2 k : Int32) = celS E.2.2.2.2.2.1 E.2.2.2.2.2.2 k from (if_pos (Nat.lt_of_not_le (fun q9 => cz3 (nI_le q9 (by omega))))).symm)) ?_
    refine lv_goto (tgt := 18) hx hb dL_cell_9 (by decide) ?_
    subst hQ
    exact W.iret (v := celS E.2.2.2.2.2.1 E.2.2.2.2.2.2 k) hx hb hr (fun t ht hW => ⟨celS E.2.2.2.2.2.1 E.2.2.2.2.2.2 k, rfl, rfl, ht⟩) (fun q hq => absurd hq List.not_mem_nil) dL_cell_18
