set_option maxHeartbeats 400000 in
set_option maxRecDepth 100000 in
theorem cX7_over_ok (l : Launch) (E : zG) {ws : va_W} {ql ll qt ss : Nat} {gt : Nat → Option Nat} {lv hf gf : Nat → Int32} {sup stg : Int32} (Fa0 : ws[ql]? = some (ll, zI4 E 20 lv)) (Fa1 : ws[qt]? = some (ss, zA4 E 20 gt)) (hT : ∀ k : Nat, k < 20 → ∃ (a q m : Nat) (f : Nat → Int32), gt k = some a ∧ ws[q]? = some (a, zI4 E m f) ∧ q ≠ ql ∧ ((m = 0 ∧ hf k = 0) ∨ (m = 6 ∧ hf k = f 4 ∧ gf k = f 5 ∧ ∃ he ga : Nat, f 4 = nI he ∧ f 5 = nI ga ∧ 1 ≤ he ∧ he ≤ 9 ∧ ga ≤ 3))) (hRB : RB 200 lv) (hhl : RB 9 hf) (hs9 : BI 1 9 stg) (hu9 : BI 0 40 sup) : Met l yX7_over wsX7_over ({ frames := 1, cells := 1, slots := 0, locals := 13 } : Room) (va_Pc [.ref ll, .ref ss, .int sup, .int stg] (zI E ws)) (va_Qi (fun (r : Int32) (ws' : va_W) => (zK [ql] ws ws') ∧ (ws'[ql]? = some (ll, zI4 E 20 ((ovP stg hf gf lv sup 20).1))) ∧ (r = (ovP stg hf gf lv sup 20).2.1)) (zI E) (zA E)) 1 0 (zA E) := by
  refine Met.ofW (cc := cX7_over) (maxL := 12) (ret := (some .int)) (by decide) rfl ?_
  intro p e s m args below meth c s₁ B hml hv
  obtain ⟨hargs9, hI⟩ := hv
  have hx := B.exec
  have hb := B.bytes
  have hr := B.returns
  have hlocks := B.notSynchronized
  have X : zC E p m c cX7_over 12 s args wsX7_over RX7 := z_open B hml hI
  have hown := X.1.2.2.2.1
  have hts := X.1.2.2.2.2
  have J := hI.J
  have n0_1 : ql ≠ qt := zneK Fa0 Fa1 rfl
  have hk : zK [ql] ws ws := zK.rf
  have hl := lv_entry ([.ref ll, .ref ss, .int sup, .int stg]) (n := 12) (Nat.le_of_ble_eq_true rfl)
  rw [show entryFrame m args 12 = entryFrame m ([.ref ll, .ref ss, .int sup, .int stg] : List Value).toArray 12 from by rw [hargs9], lg_entry_eq]
  generalize (lg_sl ([.ref ll, .ref ss, .int sup, .int stg]) ++ List.replicate (12 - (lg_sl ([.ref ll, .ref ss, .int sup, .int stg])).length) Slot.unset).toArray = ls at hl ⊢
  have hl : lv_has ls 12 [(0, .ref ll), (1, .ref ss), (2, .int sup), (3, .int stg)] := hl
  generalize hQ : (MQ below (va_Qi (fun (r : Int32) (ws' : va_W) => (zK [ql] ws ws') ∧ (ws'[ql]? = some (ll, zI4 E 20 ((ovP stg hf gf lv sup 20).1))) ∧ (r = (ovP stg hf gf lv sup 20).2.1)) (zI E) (zA E)) args s 1 0 (zA E)) = QQ
  refine lv_iload_n hx hb dX7_over_0 rfl (lv_at hl 2 rfl) ?_
  refine W.eq (g2 := F0 m 1 ls [.int ((ovP stg hf gf lv sup 0).2.1)]) (congrArg (fun z9 : Int32 => F0 m 1 ls [.int z9]) (show (sup : Int32) = (ovP stg hf gf lv sup 0).2.1 from rfl)) ?_
  refine lv_istore (lv' := [(4, .int ((ovP stg hf gf lv sup 0).2.1)), (0, .ref ll), (1, .ref ss), (2, .int sup), (3, .int stg)]) hx hb dX7_over_1 hl (by decide) rfl (fun ls hl => ?_)
  refine lv_iconst (v := 0) hx hb dX7_over_3 (by decide) ?_
  refine z_newa (N' := 0) X J (by decide +kernel) (by decide) (by decide) (Nat.le_of_ble_eq_true rfl) (Nat.le_of_ble_eq_true rfl) (Nat.le_of_ble_eq_true rfl) dX7_over_4 (fun q4 H J => ?_)
  have lp1 := hk.1
  have hk := hk.trans (zK.app (more := [(q4, zI4 E 0 (fun _ => 0))]))
  have bG1_0 := zlt Fa0
  have G1_0 := zapp (x := (q4, zI4 E 0 (fun _ => 0))) Fa0
  have bG1_1 := zlt Fa1
  have G1_1 := zapp (x := (q4, zI4 E 0 (fun _ => 0))) Fa1
  have G1_n := zapp_new (ws := ws) (x := (q4, zI4 E 0 (fun _ => 0)))
  generalize hws1 : ws ++ [(q4, zI4 E 0 (fun _ => 0))] = ws_1 at J hk G1_0 G1_1 G1_n
  generalize hpn1 : ws.length = pn_1 at G1_n lp1 bG1_0 bG1_1
  refine lv_astore (lv' := [(5, .ref q4), (4, .int ((ovP stg hf gf lv sup 0).2.1)), (0, .ref ll), (1, .ref ss), (2, .int sup), (3, .int stg)]) hx hb dX7_over_6 hl (by decide) rfl (fun ls hl => ?_)
  refine lv_iconst (v := nI 0) hx hb dX7_over_8 rfl ?_
  refine lv_istore (lv' := [(6, .int (nI 0)), (5, .ref q4), (4, .int ((ovP stg hf gf lv sup 0).2.1)), (0, .ref ll), (1, .ref ss), (2, .int sup), (3, .int stg)]) hx hb dX7_over_9 hl (by decide) rfl (fun ls hl => ?_)
  refine lv_iconst (v := nI 0) hx hb dX7_over_11 rfl ?_
  refine lv_istore (lv' := [(7, .int (nI 0)), (6, .int (nI 0)), (5, .ref q4), (4, .int ((ovP stg hf gf lv sup 0).2.1)), (0, .ref ll), (1, .ref ss), (2, .int sup), (3, .int stg)]) hx hb dX7_over_12 hl (by decide) rfl (fun ls hl => ?_)
  have loop_14 : ∀ (k9 k : Nat) (la : Nat) (pl : Nat) (nl : Nat) (fl : Nat → Int32) (a0 : Nat), k + k9 = 20 → ovR (ovP stg hf gf lv sup k) k a0 nl fl → ql ≠ pl → ∀ (wl14 : va_W) (H : Heap) (locs : List Loc) (ls : Array Slot), zK [ql] ws wl14 → wl14[ql]? = some (ll, zI4 E 20 ((ovP stg hf gf lv sup k).1)) → wl14[qt]? = some (ss, zA4 E 20 gt) → wl14[pn_1]? = some (q4, zI4 E 0 (fun _ => 0)) → wl14[pl]? = some (la, zI4 E nl fl) → zJ E wl14 s H locs → lv_has ls 12 [(7, .int (nI k)), (6, .int (nI a0)), (5, .ref la), (4, .int ((ovP stg hf gf lv sup k).2.1)), (0, .ref ll), (1, .ref ss), (2, .int sup), (3, .int stg)] → W p l e (headSpec wsX7_over ({ frames := 1, cells := 1, slots := 0, locals := 13 } : Room)).room s m args below meth c H locs 1 0 QQ (F0 m 14 ls []) := by
    intro k9
    induction k9 with
    | zero =>
      intro k la pl nl fl a0 hik hR hpl wl14 H locs ls hk L14_0 L14_1 L14_2 hla J hl
      obtain rfl : 20 = k := by omega
      refine lv_iload hx hb dX7_over_14 (lv_at hl 0 rfl) ?_
      refine lv_bipush (v := nI 20) hx hb dX7_over_16 (by decide) ?_
      refine lv_icmp_ge (tgt := 239) hx hb dX7_over_18 (by decide) (fun cz18 => ?_) (fun cz18 => by exact (cz18 (nI_le (Nat.le_refl _) (by omega))).elim)
      refine lv_iload hx hb dX7_over_239 (lv_at hl 3 rfl) ?_
      subst hQ
      exact W.iret (v := (ovP stg hf gf lv sup 20).2.1) hx hb hr (fun t ht hW => ⟨⟨(ovP stg hf gf lv sup 20).2.1, wl14, rfl, ⟨hk, L14_0, rfl⟩, J.I X ht hW.alike⟩, J.F ht⟩) J.locs dX7_over_241
    | succ k9 ih_14 =>
      intro k la pl nl fl a0 hik hR hpl wl14 H locs ls hk L14_0 L14_1 L14_2 hla J hl
      refine lv_iload hx hb dX7_over_14 (lv_at hl 0 rfl) ?_
      refine lv_bipush (v := nI 20) hx hb dX7_over_16 (by decide) ?_
      refine lv_icmp_ge (tgt := 239) hx hb dX7_over_18 (by decide) (fun cz18 => by exact (nI_ge (by omega) (by omega) cz18).elim) (fun cz18 => ?_)
      have hB := ovP_I (gl := gf) hs9 hu9 hhl hRB k
      refine lv_iload hx hb dX7_over_21 (lv_at hl 0 rfl) ?_
      refine lv_iload hx hb dX7_over_23 (lv_at hl 1 rfl) ?_
      refine lv_isub hx hb dX7_over_25 ?_
      refine W.eq (g2 := F0 m 26 ls [.int (nI (k - a0))]) (congrArg (fun z9 : Int32 => F0 m 26 ls [.int z9]) (show ((nI k) - (nI a0) : Int32) = nI (k - a0) from (pk_sub (ovR_at hR)))) ?_
      refine lv_istore (lv' := [(8, .int (nI (k - a0))), (7, .int (nI k)), (6, .int (nI a0)), (5, .ref la), (4, .int ((ovP stg hf gf lv sup k).2.1)), (0, .ref ll), (1, .ref ss), (2, .int sup), (3, .int stg)]) hx hb dX7_over_26 hl (by decide) rfl (fun ls hl => ?_)
      have join_53 : ∀ (ls : Array Slot), lv_has ls 12 [(8, .int (nI (k - a0))), (7, .int (nI k)), (6, .int (nI a0)), (5, .ref la), (4, .int ((ovP stg hf gf lv sup k).2.1)), (0, .ref ll), (1, .ref ss), (2, .int sup), (3, .int stg)] → W p l e (headSpec wsX7_over ({ frames := 1, cells := 1, slots := 0, locals := 13 } : Room)).room s m args below meth c H locs 1 0 QQ (F0 m 53 ls [.int ((ovP stg hf gf lv sup k).2.2.1)]) := by
        intro ls hl
        refine lv_istore (lv' := [(9, .int ((ovP stg hf gf lv sup k).2.2.1)), (8, .int (nI (k - a0))), (7, .int (nI k)), (6, .int (nI a0)), (5, .ref la), (4, .int ((ovP stg hf gf lv sup k).2.1)), (0, .ref ll), (1, .ref ss), (2, .int sup), (3, .int stg)]) hx hb dX7_over_53 hl (by decide) rfl (fun ls hl => ?_)
        obtain ⟨ja, jq, jm, jf, hgj, hjf, hjn, hjc⟩ := hT k (by omega)
        have hjf := hk.2 jq _ (fun z9 => hjn (List.mem_singleton.mp z9)) hjf
        have join_89 : ∀ (ls : Array Slot) (hpass : gd hf (nI k) ≤ 0 ∨ 2 * gd hf (nI k) < (ovP stg hf gf lv sup k).2.2.1), lv_has ls 12 [(9, .int ((ovP stg hf gf lv sup k).2.2.1)), (8, .int (nI (k - a0))), (7, .int (nI k)), (6, .int (nI a0)), (5, .ref la), (4, .int ((ovP stg hf gf lv sup k).2.1)), (0, .ref ll), (1, .ref ss), (2, .int sup), (3, .int stg)] → W p l e (headSpec wsX7_over ({ frames := 1, cells := 1, slots := 0, locals := 13 } : Room)).room s m args below meth c H locs 1 0 QQ (F0 m 89 ls []) := by
          intro ls hpass hl
          have join_170 : ∀ (ls : Array Slot) (hpk : (ovP stg hf gf lv sup k).2.2.1 ≤ 0 ∨ ¬ (ovP stg hf gf lv sup k).2.2.2.1 = 0), lv_has ls 12 [(9, .int ((ovP stg hf gf lv sup k).2.2.1)), (8, .int (nI (k - a0))), (7, .int (nI k)), (6, .int (nI a0)), (5, .ref la), (4, .int ((ovP stg hf gf lv sup k).2.1)), (0, .ref ll), (1, .ref ss), (2, .int sup), (3, .int stg)] → W p l e (headSpec wsX7_over ({ frames := 1, cells := 1, slots := 0, locals := 13 } : Room)).room s m args below meth c H locs 1 0 QQ (F0 m 170 ls []) := by
            intro ls hpk hl
            refine lv_iconst (v := 0) hx hb dX7_over_170 (by decide) ?_
            refine lv_bipush (v := 10) hx hb dX7_over_171 (by decide) ?_
            refine lv_iload_n hx hb dX7_over_173 rfl (lv_at hl 9 rfl) ?_
            refine lv_imul hx hb dX7_over_174 ?_
            refine lv_iload hx hb dX7_over_175 (lv_at hl 5 rfl) ?_
            refine lv_isub hx hb dX7_over_177 ?_
            refine va_mmax hx hb (X.1.2.2.1.trans hl.1.symm) hown (hts (.methodLink RX7 38 Lib.Math.max.name) (by decide +kernel)) (hts (.static Lib.Math.max.name) (by decide +kernel)) (hts (.initialized "java/lang/Math") (by decide +kernel)) (hts (.code Lib.Math.max.name Lib.Math.max.code 2 (some .int)) (by decide +kernel)) (Nat.le_of_ble_eq_true rfl) (Nat.le_of_ble_eq_true rfl) (Nat.le_of_ble_eq_true rfl) (Nat.le_of_ble_eq_true rfl) dX7_over_178 ?_
            refine W.eq (g2 := F0 m 181 ls [.int (mx 0 ((10 * stg) - ((ovP stg hf gf lv sup k).2.1)))]) rfl ?_
            refine lv_istore (lv' := [(10, .int (mx 0 ((10 * stg) - ((ovP stg hf gf lv sup k).2.1)))), (9, .int ((ovP stg hf gf lv sup k).2.2.1)), (8, .int (nI (k - a0))), (7, .int (nI k)), (6, .int (nI a0)), (5, .ref la), (4, .int ((ovP stg hf gf lv sup k).2.1)), (0, .ref ll), (1, .ref ss), (2, .int sup), (3, .int stg)]) hx hb dX7_over_181 hl (by decide) rfl (fun ls hl => ?_)
            have join_215 : ∀ (ls : Array Slot), lv_has ls 12 [(10, .int (mx 0 ((10 * stg) - ((ovP stg hf gf lv sup k).2.1)))), (9, .int ((ovP stg hf gf lv sup k).2.2.1)), (8, .int (nI (k - a0))), (7, .int (nI k)), (6, .int (nI a0)), (5, .ref la), (4, .int ((ovP stg hf gf lv sup k).2.1)), (0, .ref ll), (1, .ref ss), (2, .int sup), (3, .int stg)] → W p l e (headSpec wsX7_over ({ frames := 1, cells := 1, slots := 0, locals := 13 } : Room)).room s m args below meth c H locs 1 0 QQ (F0 m 215 ls [.int (pickS stg (gd (ovP stg hf gf lv sup k).1 (nI k)) (ovP stg hf gf lv sup k).2.1)]) := by
              intro ls hl
              refine lv_istore (lv' := [(11, .int (pickS stg (gd (ovP stg hf gf lv sup k).1 (nI k)) (ovP stg hf gf lv sup k).2.1)), (10, .int (mx 0 ((10 * stg) - ((ovP stg hf gf lv sup k).2.1)))), (9, .int ((ovP stg hf gf lv sup k).2.2.1)), (8, .int (nI (k - a0))), (7, .int (nI k)), (6, .int (nI a0)), (5, .ref la), (4, .int ((ovP stg hf gf lv sup k).2.1)), (0, .ref ll), (1, .ref ss), (2, .int sup), (3, .int stg)]) hx hb dX7_over_215 hl (by decide) rfl (fun ls hl => ?_)
              refine lv_aload_n hx hb dX7_over_217 rfl (lv_at hl 8 rfl) ?_
              refine lv_iload hx hb dX7_over_218 (lv_at hl 4 rfl) ?_
              refine lv_dup2_11 hx hb dX7_over_220 rfl rfl ?_
              refine z_iald X J ql L14_0 (vp_in_nI (by omega) (by first | decide | omega)) dX7_over_221 ?_
              refine W.eq (g2 := F0 m 222 ls [.int (gd (ovP stg hf gf lv sup k).1 (nI k)), .int (nI k), .ref ll]) (congrArg (fun z9 : Int32 => F0 m 222 ls [.int z9, .int (nI k), .ref ll]) (show (((ovP stg hf gf lv sup k).1) (nI k).toNatClampNeg : Int32) = (gd (ovP stg hf gf lv sup k).1 (nI k)) from (by rw [nI_clamp (by omega), gd_nI (by omega)]))) ?_
              refine lv_iload hx hb dX7_over_222 (lv_at hl 0 rfl) ?_
              refine lv_isub hx hb dX7_over_224 ?_
              refine z_iast X J ql L14_0 (vp_in_nI (by omega) (by first | decide | omega)) dX7_over_225 (fun H locs J => ?_)
              rw [show upd ((ovP stg hf gf lv sup k).1) (nI k).toNatClampNeg ((gd (ovP stg hf gf lv sup k).1 (nI k)) - (pickS stg (gd (ovP stg hf gf lv sup k).1 (nI k)) (ovP stg hf gf lv sup k).2.1)) = gp (ovP stg hf gf lv sup k).1 (nI k) (gd (ovP stg hf gf lv sup k).1 (nI k) - pickS stg (gd (ovP stg hf gf lv sup k).1 (nI k)) (ovP stg hf gf lv sup k).2.1) from (by rw [nI_clamp (by omega), gp_nI (by omega)])] at J
              have hk := hk.trans (zK.set (ws := wl14) (q := ql) (e := (ll, zI4 E 20 (gp (ovP stg hf gf lv sup k).1 (nI k) (gd (ovP stg hf gf lv sup k).1 (nI k) - pickS stg (gd (ovP stg hf gf lv sup k).1 (nI k)) (ovP stg hf gf lv sup k).2.1)))) (by simp))
              have G2_0 := zset_eq (e' := (ll, zI4 E 20 (gp (ovP stg hf gf lv sup k).1 (nI k) (gd (ovP stg hf gf lv sup k).1 (nI k) - pickS stg (gd (ovP stg hf gf lv sup k).1 (nI k)) (ovP stg hf gf lv sup k).2.1)))) L14_0
              have G2_1 := zset_ne (q := ql) (e' := (ll, zI4 E 20 (gp (ovP stg hf gf lv sup k).1 (nI k) (gd (ovP stg hf gf lv sup k).1 (nI k) - pickS stg (gd (ovP stg hf gf lv sup k).1 (nI k)) (ovP stg hf gf lv sup k).2.1)))) (by omega) L14_1
              have G2_2 := zset_ne (q := ql) (e' := (ll, zI4 E 20 (gp (ovP stg hf gf lv sup k).1 (nI k) (gd (ovP stg hf gf lv sup k).1 (nI k) - pickS stg (gd (ovP stg hf gf lv sup k).1 (nI k)) (ovP stg hf gf lv sup k).2.1)))) (by omega) L14_2
              have G2_3 := zset_ne (q := ql) (e' := (ll, zI4 E 20 (gp (ovP stg hf gf lv sup k).1 (nI k) (gd (ovP stg hf gf lv sup k).1 (nI k) - pickS stg (gd (ovP stg hf gf lv sup k).1 (nI k)) (ovP stg hf gf lv sup k).2.1)))) (by omega) hla
              have G2_4 := zset_ne (q := ql) (e' := (ll, zI4 E 20 (gp (ovP stg hf gf lv sup k).1 (nI k) (gd (ovP stg hf gf lv sup k).1 (nI k) - pickS stg (gd (ovP stg hf gf lv sup k).1 (nI k)) (ovP stg hf gf lv sup k).2.1)))) (by omega) hjf
              generalize hws2 : (wl14.set ql (ll, zI4 E 20 (gp (ovP stg hf gf lv sup k).1 (nI k) (gd (ovP stg hf gf lv sup k).1 (nI k) - pickS stg (gd (ovP stg hf gf lv sup k).1 (nI k)) (ovP stg hf gf lv sup k).2.1)))) = ws_2 at J hk G2_0 G2_1 G2_2 G2_3 G2_4
              refine lv_iload hx hb dX7_over_226 (lv_at hl 7 rfl) ?_
              refine lv_iload hx hb dX7_over_228 (lv_at hl 0 rfl) ?_
              refine lv_iadd hx hb dX7_over_230 ?_
              refine lv_istore (lv' := [(4, .int (((ovP stg hf gf lv sup k).2.1) + (pickS stg (gd (ovP stg hf gf lv sup k).1 (nI k)) (ovP stg hf gf lv sup k).2.1))), (11, .int (pickS stg (gd (ovP stg hf gf lv sup k).1 (nI k)) (ovP stg hf gf lv sup k).2.1)), (10, .int (mx 0 ((10 * stg) - ((ovP stg hf gf lv sup k).2.1)))), (9, .int ((ovP stg hf gf lv sup k).2.2.1)), (8, .int (nI (k - a0))), (7, .int (nI k)), (6, .int (nI a0)), (5, .ref la), (0, .ref ll), (1, .ref ss), (2, .int sup), (3, .int stg)]) hx hb dX7_over_231 hl (by decide) rfl (fun ls hl => ?_)
              refine lv_iinc (v := nI (k + 1)) (lv' := [(7, .int (nI (k + 1))), (4, .int (((ovP stg hf gf lv sup k).2.1) + (pickS stg (gd (ovP stg hf gf lv sup k).1 (nI k)) (ovP stg hf gf lv sup k).2.1))), (11, .int (pickS stg (gd (ovP stg hf gf lv sup k).1 (nI k)) (ovP stg hf gf lv sup k).2.1)), (10, .int (mx 0 ((10 * stg) - ((ovP stg hf gf lv sup k).2.1)))), (9, .int ((ovP stg hf gf lv sup k).2.2.1)), (8, .int (nI (k - a0))), (6, .int (nI a0)), (5, .ref la), (0, .ref ll), (1, .ref ss), (2, .int sup), (3, .int stg)]) hx hb dX7_over_233 hl (k := 5) rfl (nI_1 k) (by decide) rfl (fun ls hl => ?_)
              refine lv_goto (tgt := 14) hx hb dX7_over_236 (by decide) ?_
              have ez9 := (ovP_s (stg := stg) (hl := hf) (gl := gf) (lv := lv) (sup := sup) (k := k)).trans (pcS_pick hpass hpk)
              have hl : lv_has ls 12 [(7, .int (nI (k + 1))), (4, .int ((ovP stg hf gf lv sup (k + 1)).2.1)), (11, .int (pickS stg (gd (ovP stg hf gf lv sup k).1 (nI k)) (ovP stg hf gf lv sup k).2.1)), (10, .int (mx 0 ((10 * stg) - ((ovP stg hf gf lv sup k).2.1)))), (9, .int ((ovP stg hf gf lv sup k).2.2.1)), (8, .int (nI (k - a0))), (6, .int (nI a0)), (5, .ref la), (0, .ref ll), (1, .ref ss), (2, .int sup), (3, .int stg)] := lv_repl hl (congrArg (fun z9 : Int32 => ([(7, .int (nI (k + 1))), (4, .int z9), (11, .int (pickS stg (gd (ovP stg hf gf lv sup k).1 (nI k)) (ovP stg hf gf lv sup k).2.1)), (10, .int (mx 0 ((10 * stg) - ((ovP stg hf gf lv sup k).2.1)))), (9, .int ((ovP stg hf gf lv sup k).2.2.1)), (8, .int (nI (k - a0))), (6, .int (nI a0)), (5, .ref la), (0, .ref ll), (1, .ref ss), (2, .int sup), (3, .int stg)] : List (Nat × Value))) (show (((ovP stg hf gf lv sup k).2.1) + (pickS stg (gd (ovP stg hf gf lv sup k).1 (nI k)) (ovP stg hf gf lv sup k).2.1) : Int32) = (ovP stg hf gf lv sup (k + 1)).2.1 from (by rw [show (ovP stg hf gf lv sup (k + 1)) = _ from ez9])))
              exact ih_14 (k + 1) la pl nl fl a0 (by omega) (by rw [show (ovP stg hf gf lv sup (k + 1)) = _ from ez9]; exact ovR_pass hR (by omega) rfl rfl rfl) hpl _ _ _ _ hk (by rw [show (ovP stg hf gf lv sup (k + 1)) = _ from ez9]; exact G2_0) G2_1 G2_2 G2_3 J (lv_sub hl [0, 6, 7, 1, 8, 9, 10, 11] rfl)
            refine lv_aload_n hx hb dX7_over_183 rfl (lv_at hl 7 rfl) ?_
            refine lv_iload hx hb dX7_over_184 (lv_at hl 3 rfl) ?_
            refine z_iald X J ql L14_0 (vp_in_nI (by omega) (by first | decide | omega)) dX7_over_186 ?_
            refine W.eq (g2 := F0 m 187 ls [.int (gd (ovP stg hf gf lv sup k).1 (nI k))]) (congrArg (fun z9 : Int32 => F0 m 187 ls [.int z9]) (show (((ovP stg hf gf lv sup k).1) (nI k).toNatClampNeg : Int32) = (gd (ovP stg hf gf lv sup k).1 (nI k)) from (by rw [nI_clamp (by omega), gd_nI (by omega)]))) ?_
            refine lv_iload_n hx hb dX7_over_187 rfl (lv_at hl 10 rfl) ?_
            refine lv_icmp_ge (tgt := 198) hx hb dX7_over_188 (by decide) (fun cz188 => ?_) (fun cz188 => ?_)
            · refine lv_iload_n hx hb dX7_over_198 rfl (lv_at hl 10 rfl) ?_
              refine lv_istore (lv' := [(11, .int stg), (10, .int (mx 0 ((10 * stg) - ((ovP stg hf gf lv sup k).2.1)))), (9, .int ((ovP stg hf gf lv sup k).2.2.1)), (8, .int (nI (k - a0))), (7, .int (nI k)), (6, .int (nI a0)), (5, .ref la), (4, .int ((ovP stg hf gf lv sup k).2.1)), (0, .ref ll), (1, .ref ss), (2, .int sup), (3, .int stg)]) hx hb dX7_over_199 hl (by decide) rfl (fun ls hl => ?_)
              refine lv_iload hx hb dX7_over_201 (lv_at hl 0 rfl) ?_
              refine lv_iload hx hb dX7_over_203 (lv_at hl 1 rfl) ?_
              refine lv_icmp_ge (tgt := 213) hx hb dX7_over_205 (by decide) (fun cz205 => ?_) (fun cz205 => ?_)
              · refine lv_iload hx hb dX7_over_213 (lv_at hl 1 rfl) ?_
                refine W.eq (g2 := F0 m 215 ls [.int (pickS stg (gd (ovP stg hf gf lv sup k).1 (nI k)) (ovP stg hf gf lv sup k).2.1)]) (congrArg (fun z9 : Int32 => F0 m 215 ls [.int z9]) (show (mx 0 ((10 * stg) - ((ovP stg hf gf lv sup k).2.1)) : Int32) = pickS stg (gd (ovP stg hf gf lv sup k).1 (nI k)) (ovP stg hf gf lv sup k).2.1 from (by have h9 := ov_pick (th := gd (ovP stg hf gf lv sup k).1 (nI k)) (RBgd hB.1 (by decide) (nI k)) hB.2.1 hs9; dsimp only at h9; rw [if_neg (Int32.not_lt.mpr cz188), if_neg (Int32.not_lt.mpr cz205)] at h9; exact h9))) ?_
                exact join_215 _ (lv_sub hl [1, 2, 3, 4, 5, 6, 7, 8, 9, 10, 11] rfl)
              · refine lv_iload hx hb dX7_over_208 (lv_at hl 0 rfl) ?_
                refine W.eq (g2 := F0 m 210 ls [.int (pickS stg (gd (ovP stg hf gf lv sup k).1 (nI k)) (ovP stg hf gf lv sup k).2.1)]) (congrArg (fun z9 : Int32 => F0 m 210 ls [.int z9]) (show (stg : Int32) = pickS stg (gd (ovP stg hf gf lv sup k).1 (nI k)) (ovP stg hf gf lv sup k).2.1 from (by have h9 := ov_pick (th := gd (ovP stg hf gf lv sup k).1 (nI k)) (RBgd hB.1 (by decide) (nI k)) hB.2.1 hs9; dsimp only at h9; rw [if_neg (Int32.not_lt.mpr cz188), if_pos (Int32.not_le.mp cz205)] at h9; exact h9))) ?_
                refine lv_goto (tgt := 215) hx hb dX7_over_210 (by decide) ?_
                exact join_215 _ (lv_sub hl [1, 2, 3, 4, 5, 6, 7, 8, 9, 10, 11] rfl)
            · refine lv_aload_n hx hb dX7_over_191 rfl (lv_at hl 7 rfl) ?_
              refine lv_iload hx hb dX7_over_192 (lv_at hl 3 rfl) ?_
              refine z_iald X J ql L14_0 (vp_in_nI (by omega) (by first | decide | omega)) dX7_over_194 ?_
              refine W.eq (g2 := F0 m 195 ls [.int (gd (ovP stg hf gf lv sup k).1 (nI k))]) (congrArg (fun z9 : Int32 => F0 m 195 ls [.int z9]) (show (((ovP stg hf gf lv sup k).1) (nI k).toNatClampNeg : Int32) = (gd (ovP stg hf gf lv sup k).1 (nI k)) from (by rw [nI_clamp (by omega), gd_nI (by omega)]))) ?_
              refine lv_goto (tgt := 199) hx hb dX7_over_195 (by decide) ?_
              refine lv_istore (lv' := [(11, .int (gd (ovP stg hf gf lv sup k).1 (nI k))), (10, .int (mx 0 ((10 * stg) - ((ovP stg hf gf lv sup k).2.1)))), (9, .int ((ovP stg hf gf lv sup k).2.2.1)), (8, .int (nI (k - a0))), (7, .int (nI k)), (6, .int (nI a0)), (5, .ref la), (4, .int ((ovP stg hf gf lv sup k).2.1)), (0, .ref ll), (1, .ref ss), (2, .int sup), (3, .int stg)]) hx hb dX7_over_199 hl (by decide) rfl (fun ls hl => ?_)
              refine lv_iload hx hb dX7_over_201 (lv_at hl 0 rfl) ?_
              refine lv_iload hx hb dX7_over_203 (lv_at hl 1 rfl) ?_
              refine lv_icmp_ge (tgt := 213) hx hb dX7_over_205 (by decide) (fun cz205 => ?_) (fun cz205 => ?_)
              · refine lv_iload hx hb dX7_over_213 (lv_at hl 1 rfl) ?_
                refine W.eq (g2 := F0 m 215 ls [.int (pickS stg (gd (ovP stg hf gf lv sup k).1 (nI k)) (ovP stg hf gf lv sup k).2.1)]) (congrArg (fun z9 : Int32 => F0 m 215 ls [.int z9]) (show (mx 0 ((10 * stg) - ((ovP stg hf gf lv sup k).2.1)) : Int32) = pickS stg (gd (ovP stg hf gf lv sup k).1 (nI k)) (ovP stg hf gf lv sup k).2.1 from (by have h9 := ov_pick (th := gd (ovP stg hf gf lv sup k).1 (nI k)) (RBgd hB.1 (by decide) (nI k)) hB.2.1 hs9; dsimp only at h9; rw [if_pos (Int32.not_le.mp cz188), if_neg (Int32.not_lt.mpr cz205)] at h9; exact h9))) ?_
                exact join_215 _ (lv_sub hl [1, 2, 3, 4, 5, 6, 7, 8, 9, 10, 11] rfl)
              · refine lv_iload hx hb dX7_over_208 (lv_at hl 0 rfl) ?_
                refine W.eq (g2 := F0 m 210 ls [.int (pickS stg (gd (ovP stg hf gf lv sup k).1 (nI k)) (ovP stg hf gf lv sup k).2.1)]) (congrArg (fun z9 : Int32 => F0 m 210 ls [.int z9]) (show ((gd (ovP stg hf gf lv sup k).1 (nI k)) : Int32) = pickS stg (gd (ovP stg hf gf lv sup k).1 (nI k)) (ovP stg hf gf lv sup k).2.1 from (by have h9 := ov_pick (th := gd (ovP stg hf gf lv sup k).1 (nI k)) (RBgd hB.1 (by decide) (nI k)) hB.2.1 hs9; dsimp only at h9; rw [if_pos (Int32.not_le.mp cz188), if_pos (Int32.not_le.mp cz205)] at h9; exact h9))) ?_
                refine lv_goto (tgt := 215) hx hb dX7_over_210 (by decide) ?_
                exact join_215 _ (lv_sub hl [1, 2, 3, 4, 5, 6, 7, 8, 9, 10, 11] rfl)
          refine lv_iload hx hb dX7_over_89 (lv_at hl 0 rfl) ?_
          refine lv_if_le (tgt := 170) hx hb dX7_over_91 (by decide) (fun cz91 => ?_) (fun cz91 => ?_)
          · exact join_170 _ (Or.inl cz91) (lv_sub hl [0, 1, 2, 3, 4, 5, 6, 7, 8, 9] rfl)
          · have hn6 := ovR_p hR cz91
            refine lv_iload hx hb dX7_over_94 (lv_at hl 1 rfl) ?_
            refine lv_aload hx hb dX7_over_96 (lv_at hl 4 rfl) ?_
            refine lv_iconst (v := nI 5) hx hb dX7_over_98 rfl ?_
            refine z_iald X J pl hla (vp_in_nI (by omega) (by omega)) dX7_over_99 ?_
            refine W.eq (g2 := F0 m 100 ls [.int (fl 5), .int (nI (k - a0))]) (congrArg (fun z9 : Int32 => F0 m 100 ls [.int z9, .int (nI (k - a0))]) (show (fl (nI 5).toNatClampNeg : Int32) = fl 5 from (congrArg _ (nI_clamp (by omega))))) ?_
            refine lv_icmp_le (tgt := 170) hx hb dX7_over_100 (by decide) (fun cz100 => ?_) (fun cz100 => ?_)
            · exact join_170 _ (Or.inr ((ovR_sw hR hn6 (by omega)).2 (Int32.not_lt.mpr cz100))) (lv_sub hl [0, 1, 2, 3, 4, 5, 6, 7, 8, 9] rfl)
            · refine lv_iconst (v := 0) hx hb dX7_over_103 (by decide) ?_
              refine lv_bipush (v := 10) hx hb dX7_over_104 (by decide) ?_
              refine lv_aload hx hb dX7_over_106 (lv_at hl 4 rfl) ?_
              refine lv_iconst (v := nI 4) hx hb dX7_over_108 rfl ?_
              refine z_iald X J pl hla (vp_in_nI (by omega) (by omega)) dX7_over_109 ?_
              refine W.eq (g2 := F0 m 110 ls [.int (fl 4), .int 10, .int 0]) (congrArg (fun z9 : Int32 => F0 m 110 ls [.int z9, .int 10, .int 0]) (show (fl (nI 4).toNatClampNeg : Int32) = fl 4 from (congrArg _ (nI_clamp (by omega))))) ?_
              refine lv_imul hx hb dX7_over_110 ?_
              refine W.eq (g2 := F0 m 111 ls [.int ((ovP stg hf gf lv sup k).2.2.2.2), .int 0]) (congrArg (fun z9 : Int32 => F0 m 111 ls [.int z9, .int 0]) (show (10 * (fl 4) : Int32) = (ovP stg hf gf lv sup k).2.2.2.2 from (ovR_ho hR hn6))) ?_
              refine lv_aload_n hx hb dX7_over_111 rfl (lv_at hl 6 rfl) ?_
              refine lv_iload hx hb dX7_over_112 (lv_at hl 2 rfl) ?_
              refine z_iald X J ql L14_0 (vp_in_nI (by omega) (by first | decide | omega)) dX7_over_114 ?_
              refine W.eq (g2 := F0 m 115 ls [.int (gd (ovP stg hf gf lv sup k).1 (nI k)), .int ((ovP stg hf gf lv sup k).2.2.2.2), .int 0]) (congrArg (fun z9 : Int32 => F0 m 115 ls [.int z9, .int ((ovP stg hf gf lv sup k).2.2.2.2), .int 0]) (show (((ovP stg hf gf lv sup k).1) (nI k).toNatClampNeg : Int32) = (gd (ovP stg hf gf lv sup k).1 (nI k)) from (by rw [nI_clamp (by omega), gd_nI (by omega)]))) ?_
              refine lv_isub hx hb dX7_over_115 ?_
              refine va_mmax hx hb (X.1.2.2.1.trans hl.1.symm) hown (hts (.methodLink RX7 38 Lib.Math.max.name) (by decide +kernel)) (hts (.static Lib.Math.max.name) (by decide +kernel)) (hts (.initialized "java/lang/Math") (by decide +kernel)) (hts (.code Lib.Math.max.name Lib.Math.max.code 2 (some .int)) (by decide +kernel)) (Nat.le_of_ble_eq_true rfl) (Nat.le_of_ble_eq_true rfl) (Nat.le_of_ble_eq_true rfl) (Nat.le_of_ble_eq_true rfl) dX7_over_116 ?_
              refine W.eq (g2 := F0 m 119 ls [.int (mx 0 (((ovP stg hf gf lv sup k).2.2.2.2) - (gd (ovP stg hf gf lv sup k).1 (nI k))))]) rfl ?_
              refine lv_istore (lv' := [(10, .int (mx 0 (((ovP stg hf gf lv sup k).2.2.2.2) - (gd (ovP stg hf gf lv sup k).1 (nI k))))), (9, .int ((ovP stg hf gf lv sup k).2.2.1)), (8, .int (nI (k - a0))), (7, .int (nI k)), (6, .int (nI a0)), (5, .ref la), (4, .int ((ovP stg hf gf lv sup k).2.1)), (0, .ref ll), (1, .ref ss), (2, .int sup), (3, .int stg)]) hx hb dX7_over_119 hl (by decide) rfl (fun ls hl => ?_)
              have join_149 : ∀ (ls : Array Slot), lv_has ls 12 [(10, .int (mx 0 (((ovP stg hf gf lv sup k).2.2.2.2) - (gd (ovP stg hf gf lv sup k).1 (nI k))))), (9, .int ((ovP stg hf gf lv sup k).2.2.1)), (8, .int (nI (k - a0))), (7, .int (nI k)), (6, .int (nI a0)), (5, .ref la), (4, .int ((ovP stg hf gf lv sup k).2.1)), (0, .ref ll), (1, .ref ss), (2, .int sup), (3, .int stg)] → W p l e (headSpec wsX7_over ({ frames := 1, cells := 1, slots := 0, locals := 13 } : Room)).room s m args below meth c H locs 1 0 QQ (F0 m 149 ls [.int (dropS (gd (ovP stg hf gf lv sup k).1 (nI k)) (ovP stg hf gf lv sup k).2.1 (ovP stg hf gf lv sup k).2.2.2.2)]) := by
                intro ls hl
                refine lv_istore (lv' := [(11, .int (dropS (gd (ovP stg hf gf lv sup k).1 (nI k)) (ovP stg hf gf lv sup k).2.1 (ovP stg hf gf lv sup k).2.2.2.2)), (10, .int (mx 0 (((ovP stg hf gf lv sup k).2.2.2.2) - (gd (ovP stg hf gf lv sup k).1 (nI k))))), (9, .int ((ovP stg hf gf lv sup k).2.2.1)), (8, .int (nI (k - a0))), (7, .int (nI k)), (6, .int (nI a0)), (5, .ref la), (4, .int ((ovP stg hf gf lv sup k).2.1)), (0, .ref ll), (1, .ref ss), (2, .int sup), (3, .int stg)]) hx hb dX7_over_149 hl (by decide) rfl (fun ls hl => ?_)
                refine lv_aload_n hx hb dX7_over_151 rfl (lv_at hl 8 rfl) ?_
                refine lv_iload hx hb dX7_over_152 (lv_at hl 4 rfl) ?_
                refine lv_dup2_11 hx hb dX7_over_154 rfl rfl ?_
                refine z_iald X J ql L14_0 (vp_in_nI (by omega) (by first | decide | omega)) dX7_over_155 ?_
                refine W.eq (g2 := F0 m 156 ls [.int (gd (ovP stg hf gf lv sup k).1 (nI k)), .int (nI k), .ref ll]) (congrArg (fun z9 : Int32 => F0 m 156 ls [.int z9, .int (nI k), .ref ll]) (show (((ovP stg hf gf lv sup k).1) (nI k).toNatClampNeg : Int32) = (gd (ovP stg hf gf lv sup k).1 (nI k)) from (by rw [nI_clamp (by omega), gd_nI (by omega)]))) ?_
                refine lv_iload hx hb dX7_over_156 (lv_at hl 0 rfl) ?_
                refine lv_iadd hx hb dX7_over_158 ?_
                refine W.eq (g2 := F0 m 159 ls [.int (gd (ovP stg hf gf lv sup k).1 (nI k) - -(dropS (gd (ovP stg hf gf lv sup k).1 (nI k)) (ovP stg hf gf lv sup k).2.1 (ovP stg hf gf lv sup k).2.2.2.2)), .int (nI k), .ref ll]) (congrArg (fun z9 : Int32 => F0 m 159 ls [.int z9, .int (nI k), .ref ll]) (show ((gd (ovP stg hf gf lv sup k).1 (nI k)) + (dropS (gd (ovP stg hf gf lv sup k).1 (nI k)) (ovP stg hf gf lv sup k).2.1 (ovP stg hf gf lv sup k).2.2.2.2) : Int32) = gd (ovP stg hf gf lv sup k).1 (nI k) - -(dropS (gd (ovP stg hf gf lv sup k).1 (nI k)) (ovP stg hf gf lv sup k).2.1 (ovP stg hf gf lv sup k).2.2.2.2) from (by grind))) ?_
                refine z_iast X J ql L14_0 (vp_in_nI (by omega) (by first | decide | omega)) dX7_over_159 (fun H locs J => ?_)
                rw [show upd ((ovP stg hf gf lv sup k).1) (nI k).toNatClampNeg (gd (ovP stg hf gf lv sup k).1 (nI k) - -(dropS (gd (ovP stg hf gf lv sup k).1 (nI k)) (ovP stg hf gf lv sup k).2.1 (ovP stg hf gf lv sup k).2.2.2.2)) = gp (ovP stg hf gf lv sup k).1 (nI k) (gd (ovP stg hf gf lv sup k).1 (nI k) - -(dropS (gd (ovP stg hf gf lv sup k).1 (nI k)) (ovP stg hf gf lv sup k).2.1 (ovP stg hf gf lv sup k).2.2.2.2)) from (by rw [nI_clamp (by omega), gp_nI (by omega)])] at J
                have hk := hk.trans (zK.set (ws := wl14) (q := ql) (e := (ll, zI4 E 20 (gp (ovP stg hf gf lv sup k).1 (nI k) (gd (ovP stg hf gf lv sup k).1 (nI k) - -(dropS (gd (ovP stg hf gf lv sup k).1 (nI k)) (ovP stg hf gf lv sup k).2.1 (ovP stg hf gf lv sup k).2.2.2.2))))) (by simp))
                have G2_0 := zset_eq (e' := (ll, zI4 E 20 (gp (ovP stg hf gf lv sup k).1 (nI k) (gd (ovP stg hf gf lv sup k).1 (nI k) - -(dropS (gd (ovP stg hf gf lv sup k).1 (nI k)) (ovP stg hf gf lv sup k).2.1 (ovP stg hf gf lv sup k).2.2.2.2))))) L14_0
                have G2_1 := zset_ne (q := ql) (e' := (ll, zI4 E 20 (gp (ovP stg hf gf lv sup k).1 (nI k) (gd (ovP stg hf gf lv sup k).1 (nI k) - -(dropS (gd (ovP stg hf gf lv sup k).1 (nI k)) (ovP stg hf gf lv sup k).2.1 (ovP stg hf gf lv sup k).2.2.2.2))))) (by omega) L14_1
                have G2_2 := zset_ne (q := ql) (e' := (ll, zI4 E 20 (gp (ovP stg hf gf lv sup k).1 (nI k) (gd (ovP stg hf gf lv sup k).1 (nI k) - -(dropS (gd (ovP stg hf gf lv sup k).1 (nI k)) (ovP stg hf gf lv sup k).2.1 (ovP stg hf gf lv sup k).2.2.2.2))))) (by omega) L14_2
                have G2_3 := zset_ne (q := ql) (e' := (ll, zI4 E 20 (gp (ovP stg hf gf lv sup k).1 (nI k) (gd (ovP stg hf gf lv sup k).1 (nI k) - -(dropS (gd (ovP stg hf gf lv sup k).1 (nI k)) (ovP stg hf gf lv sup k).2.1 (ovP stg hf gf lv sup k).2.2.2.2))))) (by omega) hla
                have G2_4 := zset_ne (q := ql) (e' := (ll, zI4 E 20 (gp (ovP stg hf gf lv sup k).1 (nI k) (gd (ovP stg hf gf lv sup k).1 (nI k) - -(dropS (gd (ovP stg hf gf lv sup k).1 (nI k)) (ovP stg hf gf lv sup k).2.1 (ovP stg hf gf lv sup k).2.2.2.2))))) (by omega) hjf
                generalize hws2 : (wl14.set ql (ll, zI4 E 20 (gp (ovP stg hf gf lv sup k).1 (nI k) (gd (ovP stg hf gf lv sup k).1 (nI k) - -(dropS (gd (ovP stg hf gf lv sup k).1 (nI k)) (ovP stg hf gf lv sup k).2.1 (ovP stg hf gf lv sup k).2.2.2.2))))) = ws_2 at J hk G2_0 G2_1 G2_2 G2_3 G2_4
                refine lv_iload hx hb dX7_over_160 (lv_at hl 7 rfl) ?_
                refine lv_iload hx hb dX7_over_162 (lv_at hl 0 rfl) ?_
                refine lv_isub hx hb dX7_over_164 ?_
                refine W.eq (g2 := F0 m 165 ls [.int ((ovP stg hf gf lv sup k).2.1 + -(dropS (gd (ovP stg hf gf lv sup k).1 (nI k)) (ovP stg hf gf lv sup k).2.1 (ovP stg hf gf lv sup k).2.2.2.2))]) (congrArg (fun z9 : Int32 => F0 m 165 ls [.int z9]) (show (((ovP stg hf gf lv sup k).2.1) - (dropS (gd (ovP stg hf gf lv sup k).1 (nI k)) (ovP stg hf gf lv sup k).2.1 (ovP stg hf gf lv sup k).2.2.2.2) : Int32) = (ovP stg hf gf lv sup k).2.1 + -(dropS (gd (ovP stg hf gf lv sup k).1 (nI k)) (ovP stg hf gf lv sup k).2.1 (ovP stg hf gf lv sup k).2.2.2.2) from (by grind))) ?_
                refine lv_istore (lv' := [(4, .int ((ovP stg hf gf lv sup k).2.1 + -(dropS (gd (ovP stg hf gf lv sup k).1 (nI k)) (ovP stg hf gf lv sup k).2.1 (ovP stg hf gf lv sup k).2.2.2.2))), (11, .int (dropS (gd (ovP stg hf gf lv sup k).1 (nI k)) (ovP stg hf gf lv sup k).2.1 (ovP stg hf gf lv sup k).2.2.2.2)), (10, .int (mx 0 (((ovP stg hf gf lv sup k).2.2.2.2) - (gd (ovP stg hf gf lv sup k).1 (nI k))))), (9, .int ((ovP stg hf gf lv sup k).2.2.1)), (8, .int (nI (k - a0))), (7, .int (nI k)), (6, .int (nI a0)), (5, .ref la), (0, .ref ll), (1, .ref ss), (2, .int sup), (3, .int stg)]) hx hb dX7_over_165 hl (by decide) rfl (fun ls hl => ?_)
                refine lv_goto (tgt := 233) hx hb dX7_over_167 (by decide) ?_
                refine lv_iinc (v := nI (k + 1)) (lv' := [(7, .int (nI (k + 1))), (4, .int ((ovP stg hf gf lv sup k).2.1 + -(dropS (gd (ovP stg hf gf lv sup k).1 (nI k)) (ovP stg hf gf lv sup k).2.1 (ovP stg hf gf lv sup k).2.2.2.2))), (11, .int (dropS (gd (ovP stg hf gf lv sup k).1 (nI k)) (ovP stg hf gf lv sup k).2.1 (ovP stg hf gf lv sup k).2.2.2.2)), (10, .int (mx 0 (((ovP stg hf gf lv sup k).2.2.2.2) - (gd (ovP stg hf gf lv sup k).1 (nI k))))), (9, .int ((ovP stg hf gf lv sup k).2.2.1)), (8, .int (nI (k - a0))), (6, .int (nI a0)), (5, .ref la), (0, .ref ll), (1, .ref ss), (2, .int sup), (3, .int stg)]) hx hb dX7_over_233 hl (k := 5) rfl (nI_1 k) (by decide) rfl (fun ls hl => ?_)
                refine lv_goto (tgt := 14) hx hb dX7_over_236 (by decide) ?_
                have ez9 := (ovP_s (stg := stg) (hl := hf) (gl := gf) (lv := lv) (sup := sup) (k := k)).trans (pcS_drop hpass cz91 ((ovR_sw hR hn6 (by omega)).1 (Int32.not_le.mp cz100)))
                have hl : lv_has ls 12 [(7, .int (nI (k + 1))), (4, .int ((ovP stg hf gf lv sup (k + 1)).2.1)), (11, .int (dropS (gd (ovP stg hf gf lv sup k).1 (nI k)) (ovP stg hf gf lv sup k).2.1 (ovP stg hf gf lv sup k).2.2.2.2)), (10, .int (mx 0 (((ovP stg hf gf lv sup k).2.2.2.2) - (gd (ovP stg hf gf lv sup k).1 (nI k))))), (9, .int ((ovP stg hf gf lv sup k).2.2.1)), (8, .int (nI (k - a0))), (6, .int (nI a0)), (5, .ref la), (0, .ref ll), (1, .ref ss), (2, .int sup), (3, .int stg)] := lv_repl hl (congrArg (fun z9 : Int32 => ([(7, .int (nI (k + 1))), (4, .int z9), (11, .int (dropS (gd (ovP stg hf gf lv sup k).1 (nI k)) (ovP stg hf gf lv sup k).2.1 (ovP stg hf gf lv sup k).2.2.2.2)), (10, .int (mx 0 (((ovP stg hf gf lv sup k).2.2.2.2) - (gd (ovP stg hf gf lv sup k).1 (nI k))))), (9, .int ((ovP stg hf gf lv sup k).2.2.1)), (8, .int (nI (k - a0))), (6, .int (nI a0)), (5, .ref la), (0, .ref ll), (1, .ref ss), (2, .int sup), (3, .int stg)] : List (Nat × Value))) (show ((ovP stg hf gf lv sup k).2.1 + -(dropS (gd (ovP stg hf gf lv sup k).1 (nI k)) (ovP stg hf gf lv sup k).2.1 (ovP stg hf gf lv sup k).2.2.2.2) : Int32) = (ovP stg hf gf lv sup (k + 1)).2.1 from (by rw [show (ovP stg hf gf lv sup (k + 1)) = _ from ez9])))
                exact ih_14 (k + 1) la pl nl fl a0 (by omega) (by rw [show (ovP stg hf gf lv sup (k + 1)) = _ from ez9]; exact ovR_pass hR (by omega) rfl rfl rfl) hpl _ _ _ _ hk (by rw [show (ovP stg hf gf lv sup (k + 1)) = _ from ez9]; exact G2_0) G2_1 G2_2 G2_3 J (lv_sub hl [0, 6, 7, 1, 8, 9, 10, 11] rfl)
              refine lv_iload hx hb dX7_over_121 (lv_at hl 6 rfl) ?_
              refine lv_iconst (v := 4) hx hb dX7_over_123 (by decide) ?_
              refine lv_icmp_ge (tgt := 132) hx hb dX7_over_124 (by decide) (fun cz124 => ?_) (fun cz124 => ?_)
              · refine lv_iconst (v := 4) hx hb dX7_over_132 (by decide) ?_
                refine lv_istore (lv' := [(11, .int 4), (10, .int (mx 0 (((ovP stg hf gf lv sup k).2.2.2.2) - (gd (ovP stg hf gf lv sup k).1 (nI k))))), (9, .int ((ovP stg hf gf lv sup k).2.2.1)), (8, .int (nI (k - a0))), (7, .int (nI k)), (6, .int (nI a0)), (5, .ref la), (4, .int ((ovP stg hf gf lv sup k).2.1)), (0, .ref ll), (1, .ref ss), (2, .int sup), (3, .int stg)]) hx hb dX7_over_133 hl (by decide) rfl (fun ls hl => ?_)
                refine lv_iload hx hb dX7_over_135 (lv_at hl 0 rfl) ?_
                refine lv_iload hx hb dX7_over_137 (lv_at hl 1 rfl) ?_
                refine lv_icmp_ge (tgt := 147) hx hb dX7_over_139 (by decide) (fun cz139 => ?_) (fun cz139 => ?_)
                · refine lv_iload hx hb dX7_over_147 (lv_at hl 1 rfl) ?_
                  refine W.eq (g2 := F0 m 149 ls [.int (dropS (gd (ovP stg hf gf lv sup k).1 (nI k)) (ovP stg hf gf lv sup k).2.1 (ovP stg hf gf lv sup k).2.2.2.2)]) (congrArg (fun z9 : Int32 => F0 m 149 ls [.int z9]) (show (mx 0 (((ovP stg hf gf lv sup k).2.2.2.2) - (gd (ovP stg hf gf lv sup k).1 (nI k))) : Int32) = dropS (gd (ovP stg hf gf lv sup k).1 (nI k)) (ovP stg hf gf lv sup k).2.1 (ovP stg hf gf lv sup k).2.2.2.2 from (by have h9 := ov_drop (th := gd (ovP stg hf gf lv sup k).1 (nI k)) (RBgd hB.1 (by decide) (nI k)) hB.2.1 hB.2.2; dsimp only at h9; rw [if_neg (Int32.not_lt.mpr cz124), if_neg (Int32.not_lt.mpr cz139)] at h9; exact h9))) ?_
                  exact join_149 _ (lv_sub hl [1, 2, 3, 4, 5, 6, 7, 8, 9, 10, 11] rfl)
                · refine lv_iload hx hb dX7_over_142 (lv_at hl 0 rfl) ?_
                  refine W.eq (g2 := F0 m 144 ls [.int (dropS (gd (ovP stg hf gf lv sup k).1 (nI k)) (ovP stg hf gf lv sup k).2.1 (ovP stg hf gf lv sup k).2.2.2.2)]) (congrArg (fun z9 : Int32 => F0 m 144 ls [.int z9]) (show (4 : Int32) = dropS (gd (ovP stg hf gf lv sup k).1 (nI k)) (ovP stg hf gf lv sup k).2.1 (ovP stg hf gf lv sup k).2.2.2.2 from (by have h9 := ov_drop (th := gd (ovP stg hf gf lv sup k).1 (nI k)) (RBgd hB.1 (by decide) (nI k)) hB.2.1 hB.2.2; dsimp only at h9; rw [if_neg (Int32.not_lt.mpr cz124), if_pos (Int32.not_le.mp cz139)] at h9; exact h9))) ?_
                  refine lv_goto (tgt := 149) hx hb dX7_over_144 (by decide) ?_
                  exact join_149 _ (lv_sub hl [1, 2, 3, 4, 5, 6, 7, 8, 9, 10, 11] rfl)
              · refine lv_iload hx hb dX7_over_127 (lv_at hl 6 rfl) ?_
                refine lv_goto (tgt := 133) hx hb dX7_over_129 (by decide) ?_
                refine lv_istore (lv' := [(11, .int ((ovP stg hf gf lv sup k).2.1)), (10, .int (mx 0 (((ovP stg hf gf lv sup k).2.2.2.2) - (gd (ovP stg hf gf lv sup k).1 (nI k))))), (9, .int ((ovP stg hf gf lv sup k).2.2.1)), (8, .int (nI (k - a0))), (7, .int (nI k)), (6, .int (nI a0)), (5, .ref la), (4, .int ((ovP stg hf gf lv sup k).2.1)), (0, .ref ll), (1, .ref ss), (2, .int sup), (3, .int stg)]) hx hb dX7_over_133 hl (by decide) rfl (fun ls hl => ?_)
                refine lv_iload hx hb dX7_over_135 (lv_at hl 0 rfl) ?_
                refine lv_iload hx hb dX7_over_137 (lv_at hl 1 rfl) ?_
                refine lv_icmp_ge (tgt := 147) hx hb dX7_over_139 (by decide) (fun cz139 => ?_) (fun cz139 => ?_)
                · refine lv_iload hx hb dX7_over_147 (lv_at hl 1 rfl) ?_
                  refine W.eq (g2 := F0 m 149 ls [.int (dropS (gd (ovP stg hf gf lv sup k).1 (nI k)) (ovP stg hf gf lv sup k).2.1 (ovP stg hf gf lv sup k).2.2.2.2)]) (congrArg (fun z9 : Int32 => F0 m 149 ls [.int z9]) (show (mx 0 (((ovP stg hf gf lv sup k).2.2.2.2) - (gd (ovP stg hf gf lv sup k).1 (nI k))) : Int32) = dropS (gd (ovP stg hf gf lv sup k).1 (nI k)) (ovP stg hf gf lv sup k).2.1 (ovP stg hf gf lv sup k).2.2.2.2 from (by have h9 := ov_drop (th := gd (ovP stg hf gf lv sup k).1 (nI k)) (RBgd hB.1 (by decide) (nI k)) hB.2.1 hB.2.2; dsimp only at h9; rw [if_pos (Int32.not_le.mp cz124), if_neg (Int32.not_lt.mpr cz139)] at h9; exact h9))) ?_
                  exact join_149 _ (lv_sub hl [1, 2, 3, 4, 5, 6, 7, 8, 9, 10, 11] rfl)
                · refine lv_iload hx hb dX7_over_142 (lv_at hl 0 rfl) ?_
                  refine W.eq (g2 := F0 m 144 ls [.int (dropS (gd (ovP stg hf gf lv sup k).1 (nI k)) (ovP stg hf gf lv sup k).2.1 (ovP stg hf gf lv sup k).2.2.2.2)]) (congrArg (fun z9 : Int32 => F0 m 144 ls [.int z9]) (show ((ovP stg hf gf lv sup k).2.1 : Int32) = dropS (gd (ovP stg hf gf lv sup k).1 (nI k)) (ovP stg hf gf lv sup k).2.1 (ovP stg hf gf lv sup k).2.2.2.2 from (by have h9 := ov_drop (th := gd (ovP stg hf gf lv sup k).1 (nI k)) (RBgd hB.1 (by decide) (nI k)) hB.2.1 hB.2.2; dsimp only at h9; rw [if_pos (Int32.not_le.mp cz124), if_pos (Int32.not_le.mp cz139)] at h9; exact h9))) ?_
                  refine lv_goto (tgt := 149) hx hb dX7_over_144 (by decide) ?_
                  exact join_149 _ (lv_sub hl [1, 2, 3, 4, 5, 6, 7, 8, 9, 10, 11] rfl)
        refine lv_aload_n hx hb dX7_over_55 rfl (lv_at hl 7 rfl) ?_
        refine lv_iload hx hb dX7_over_56 (lv_at hl 2 rfl) ?_
        refine z_aaldA X J qt L14_1 (vp_in_nI (by omega) (by first | decide | omega)) dX7_over_58 ?_
        refine W.eq (g2 := F0 m 59 ls [va_rf (gt k)]) (congrArg (fun z9 : Option Nat => F0 m 59 ls [va_rf z9]) (show (gt (nI k).toNatClampNeg : Option Nat) = gt k from (congrArg _ (nI_clamp (by omega))))) ?_
        refine W.eq (g2 := F0 m 59 ls [.ref ja]) (by rw [show gt k = some ja from hgj]; rfl) ?_
        refine z_alenI (v := nI jm) X J jq hjf rfl dX7_over_59 ?_
        refine lv_if_le (tgt := 89) hx hb dX7_over_60 (by decide) (fun cz60 => ?_) (fun cz60 => ?_)
        · exact join_89 _ (Or.inl (by rw [gd_nI (by omega)]; exact hjc.elim (fun z9 => by rw [z9.2]; decide) (fun z9 => absurd cz60 (by rw [z9.1]; decide)))) (lv_sub hl [0, 1, 2, 3, 4, 5, 6, 7, 8, 9] rfl)
        · obtain ⟨hj6, hj4, hj5, jh, jg, hjh, hjg, hb1, hb2, hb3⟩ := hjc.resolve_left (fun z9 => cz60 (by rw [z9.1]; decide))
          refine lv_iconst (v := 2) hx hb dX7_over_63 (by decide) ?_
          refine lv_aload_n hx hb dX7_over_64 rfl (lv_at hl 7 rfl) ?_
          refine lv_iload hx hb dX7_over_65 (lv_at hl 2 rfl) ?_
          refine z_aaldA X J qt L14_1 (vp_in_nI (by omega) (by first | decide | omega)) dX7_over_67 ?_
          refine W.eq (g2 := F0 m 68 ls [va_rf (gt k), .int 2]) (congrArg (fun z9 : Option Nat => F0 m 68 ls [va_rf z9, .int 2]) (show (gt (nI k).toNatClampNeg : Option Nat) = gt k from (congrArg _ (nI_clamp (by omega))))) ?_
          refine W.eq (g2 := F0 m 68 ls [.ref ja, .int 2]) (by rw [show gt k = some ja from hgj]; rfl) ?_
          refine lv_iconst (v := nI 4) hx hb dX7_over_68 rfl ?_
          refine z_iald X J jq hjf (vp_in_nI (by omega) (by omega)) dX7_over_69 ?_
          refine W.eq (g2 := F0 m 70 ls [.int (jf 4), .int 2]) (congrArg (fun z9 : Int32 => F0 m 70 ls [.int z9, .int 2]) (show (jf (nI 4).toNatClampNeg : Int32) = jf 4 from (congrArg _ (nI_clamp (by omega))))) ?_
          refine lv_imul hx hb dX7_over_70 ?_
          refine lv_iload hx hb dX7_over_71 (lv_at hl 0 rfl) ?_
          refine lv_icmp_lt (tgt := 89) hx hb dX7_over_73 (by decide) (fun cz73 => ?_) (fun cz73 => ?_)
          · exact join_89 _ (Or.inr (by rw [gd_nI (by omega), hj4]; exact cz73)) (lv_sub hl [0, 1, 2, 3, 4, 5, 6, 7, 8, 9] rfl)
          · refine lv_aload_n hx hb dX7_over_76 rfl (lv_at hl 7 rfl) ?_
            refine lv_iload hx hb dX7_over_77 (lv_at hl 2 rfl) ?_
            refine z_aaldA X J qt L14_1 (vp_in_nI (by omega) (by first | decide | omega)) dX7_over_79 ?_
            refine W.eq (g2 := F0 m 80 ls [va_rf (gt k)]) (congrArg (fun z9 : Option Nat => F0 m 80 ls [va_rf z9]) (show (gt (nI k).toNatClampNeg : Option Nat) = gt k from (congrArg _ (nI_clamp (by omega))))) ?_
            refine W.eq (g2 := F0 m 80 ls [.ref ja]) (by rw [show gt k = some ja from hgj]; rfl) ?_
            refine lv_astore (lv' := [(5, .ref ja), (9, .int ((ovP stg hf gf lv sup k).2.2.1)), (8, .int (nI (k - a0))), (7, .int (nI k)), (6, .int (nI a0)), (4, .int ((ovP stg hf gf lv sup k).2.1)), (0, .ref ll), (1, .ref ss), (2, .int sup), (3, .int stg)]) hx hb dX7_over_80 hl (by decide) rfl (fun ls hl => ?_)
            refine lv_iload hx hb dX7_over_82 (lv_at hl 3 rfl) ?_
            refine lv_istore (lv' := [(6, .int (nI k)), (5, .ref ja), (9, .int ((ovP stg hf gf lv sup k).2.2.1)), (8, .int (nI (k - a0))), (7, .int (nI k)), (4, .int ((ovP stg hf gf lv sup k).2.1)), (0, .ref ll), (1, .ref ss), (2, .int sup), (3, .int stg)]) hx hb dX7_over_84 hl (by decide) rfl (fun ls hl => ?_)
            refine lv_goto (tgt := 233) hx hb dX7_over_86 (by decide) ?_
            refine lv_iinc (v := nI (k + 1)) (lv' := [(7, .int (nI (k + 1))), (6, .int (nI k)), (5, .ref ja), (9, .int ((ovP stg hf gf lv sup k).2.2.1)), (8, .int (nI (k - a0))), (4, .int ((ovP stg hf gf lv sup k).2.1)), (0, .ref ll), (1, .ref ss), (2, .int sup), (3, .int stg)]) hx hb dX7_over_233 hl (k := 4) rfl (nI_1 k) (by decide) rfl (fun ls hl => ?_)
            refine lv_goto (tgt := 14) hx hb dX7_over_236 (by decide) ?_
            have hgd4 : gd hf (nI k) = jf 4 := by rw [gd_nI (by omega)]; exact hj4
            have hgd5 : gd gf (nI k) = jf 5 := by rw [gd_nI (by omega)]; exact hj5
            have ez9 := (ovP_s (stg := stg) (hl := hf) (gl := gf) (lv := lv) (sup := sup) (k := k)).trans (pcS_fence (by rw [hgd4, hjh]; exact nI_nle (by omega) (by omega)) (by rw [hgd4]; exact cz73))
            have hl : lv_has ls 12 [(7, .int (nI (k + 1))), (6, .int (nI k)), (5, .ref ja), (9, .int ((ovP stg hf gf lv sup k).2.2.1)), (8, .int (nI (k - a0))), (4, .int ((ovP stg hf gf lv sup (k + 1)).2.1)), (0, .ref ll), (1, .ref ss), (2, .int sup), (3, .int stg)] := lv_repl hl (congrArg (fun z9 : Int32 => ([(7, .int (nI (k + 1))), (6, .int (nI k)), (5, .ref ja), (9, .int ((ovP stg hf gf lv sup k).2.2.1)), (8, .int (nI (k - a0))), (4, .int z9), (0, .ref ll), (1, .ref ss), (2, .int sup), (3, .int stg)] : List (Nat × Value))) (show ((ovP stg hf gf lv sup k).2.1 : Int32) = (ovP stg hf gf lv sup (k + 1)).2.1 from (by rw [show (ovP stg hf gf lv sup (k + 1)) = _ from ez9])))
            exact ih_14 (k + 1) ja jq 6 jf k (by omega) (by rw [show (ovP stg hf gf lv sup (k + 1)) = _ from ez9, hgd4, hgd5]; exact ovR_fence hjh hjg hb1 hb2 hb3) (by omega) _ _ _ _ hk (by rw [show (ovP stg hf gf lv sup (k + 1)) = _ from ez9]; exact L14_0) L14_1 L14_2 (by rw [← hj6]; exact hjf) J (lv_sub hl [0, 1, 2, 5, 6, 7, 8, 9] rfl)
      refine lv_aload hx hb dX7_over_28 (lv_at hl 3 rfl) ?_
      refine z_alenI (v := nI nl) X J pl hla rfl dX7_over_30 ?_
      refine lv_if_ne (tgt := 38) hx hb dX7_over_31 (by decide) (fun cz31 => ?_) (fun cz31 => ?_)
      · refine lv_iconst (v := 0) hx hb dX7_over_38 (by decide) ?_
        refine lv_iconst (v := 2) hx hb dX7_over_39 (by decide) ?_
        refine lv_aload hx hb dX7_over_40 (lv_at hl 3 rfl) ?_
        refine lv_iconst (v := nI 4) hx hb dX7_over_42 rfl ?_
        have hn6 := ovR_6 hR cz31
        refine z_iald X J pl hla (vp_in_nI (by omega) (by omega)) dX7_over_43 ?_
        refine W.eq (g2 := F0 m 44 ls [.int (fl 4), .int 2, .int 0]) (congrArg (fun z9 : Int32 => F0 m 44 ls [.int z9, .int 2, .int 0]) (show (fl (nI 4).toNatClampNeg : Int32) = fl 4 from (congrArg _ (nI_clamp (by omega))))) ?_
        refine lv_imul hx hb dX7_over_44 ?_
        refine lv_iload hx hb dX7_over_45 (lv_at hl 0 rfl) ?_
        refine lv_isub hx hb dX7_over_47 ?_
        refine lv_iconst (v := 1) hx hb dX7_over_48 (by decide) ?_
        refine lv_iadd hx hb dX7_over_49 ?_
        refine va_mmax hx hb (X.1.2.2.1.trans hl.1.symm) hown (hts (.methodLink RX7 38 Lib.Math.max.name) (by decide +kernel)) (hts (.static Lib.Math.max.name) (by decide +kernel)) (hts (.initialized "java/lang/Math") (by decide +kernel)) (hts (.code Lib.Math.max.name Lib.Math.max.code 2 (some .int)) (by decide +kernel)) (Nat.le_of_ble_eq_true rfl) (Nat.le_of_ble_eq_true rfl) (Nat.le_of_ble_eq_true rfl) (Nat.le_of_ble_eq_true rfl) dX7_over_50 ?_
        refine W.eq (g2 := F0 m 53 ls [.int (mx 0 (((2 * (fl 4)) - (nI (k - a0))) + 1))]) rfl ?_
        refine W.eq (g2 := F0 m 53 ls [.int ((ovP stg hf gf lv sup k).2.2.1)]) (congrArg (fun z9 : Int32 => F0 m 53 ls [.int z9]) (show (mx 0 (((2 * (fl 4)) - (nI (k - a0))) + 1) : Int32) = (ovP stg hf gf lv sup k).2.2.1 from (ovR_sh hR (by omega) hn6))) ?_
        exact join_53 _ (lv_sub hl [0, 1, 2, 3, 4, 5, 6, 7, 8] rfl)
      · refine lv_iconst (v := 0) hx hb dX7_over_34 (by decide) ?_
        refine W.eq (g2 := F0 m 35 ls [.int ((ovP stg hf gf lv sup k).2.2.1)]) (congrArg (fun z9 : Int32 => F0 m 35 ls [.int z9]) (show (0 : Int32) = (ovP stg hf gf lv sup k).2.2.1 from (ovR_n0 hR cz31))) ?_
        refine lv_goto (tgt := 53) hx hb dX7_over_35 (by decide) ?_
        exact join_53 _ (lv_sub hl [0, 1, 2, 3, 4, 5, 6, 7, 8] rfl)
  exact loop_14 20 0 q4 pn_1 0 (fun _ => 0) 0 (by omega) (Or.inl ⟨rfl, Nat.le_refl _, rfl⟩) (by omega) _ _ _ _ hk G1_0 G1_1 G1_n G1_n J (lv_sub hl [0, 1, 2, 3, 4, 5, 6, 7] rfl)
set_option maxHeartbeats 400000 in
set_option maxRecDepth 100000 in
theorem cX7_init_ok (l : Launch) (E : zG) {ws : va_W} {qz z : Nat} (Fa0 : ws[qz]? = some (z, .inr (8, [.null, .null, .null, .int 0, .int 0, .int 0, .int 0, .int 0])))  : Met l yX7_init wsX7_init ({ frames := 1, cells := 23, slots := 420, locals := 12 } : Room) (va_Pc [.ref z] (zI E ws)) (va_Qv (fun (ws' : va_W) => (zK [qz] ws ws') ∧ (∃ fe ro sa : Nat, ∃ ra : Nat → Nat, ws'.length = ws.length + 23 ∧ (ws'[qz]? = some (z, .inr (8, [.ref fe, .ref ro, .ref sa, .int 15, .int 0, .int 0, .int 0, .int 0]))) ∧ (ws'[(ws.length + 0)]? = some (fe, zA4 E 0 (fun _ => none))) ∧ (ws'[(ws.length + 1)]? = some (ro, zA4 E 0 (fun _ => none))) ∧ (ws'[(ws.length + 2)]? = some (sa, zA4 E 20 (fun j => if j < 20 then some (ra j) else none))) ∧ (SN E ws' (ws.length + 3) (fun j => if j < 20 then some (ra j) else none) (fun _ => 0)))) (zI E) (zA E)) 23 420 (zA E) := by
  refine Met.ofW (cc := cX7_init) (maxL := 1) (ret := none) (by decide) rfl ?_
  intro p e s m args below meth c s₁ B hml hv
  obtain ⟨hargs9, hI⟩ := hv
  have hx := B.exec
  have hb := B.bytes
  have hr := B.returns
  have hlocks := B.notSynchronized
  have X : zC E p m c cX7_init 1 s args wsX7_init RX7 := z_open B hml hI
  have hin9 : meth.name = "<init>" := (name_of_methodNamed B.named B.method).1
  have hown := X.1.2.2.2.1
  have hts := X.1.2.2.2.2
  have J := hI.J
  have hi_X7 : ∀ w ∈ wsX70, w ∈ wsX7_init := by decide +kernel
  have hk : zK [qz] ws ws := zK.rf
  have hlen : ws.length = ws.length + 0 := rfl
  have bFa0 := zlt Fa0
  have hl := lv_entry ([.ref z]) (n := 1) (Nat.le_of_ble_eq_true rfl)
  rw [show entryFrame m args 1 = entryFrame m ([.ref z] : List Value).toArray 1 from by rw [hargs9], lg_entry_eq]
  generalize (lg_sl ([.ref z]) ++ List.replicate (1 - (lg_sl ([.ref z])).length) Slot.unset).toArray = ls at hl ⊢
  have hl : lv_has ls 1 [(0, .ref z)] := hl
  generalize hQ : (MQ below (va_Qv (fun (ws' : va_W) => (zK [qz] ws ws') ∧ (∃ fe ro sa : Nat, ∃ ra : Nat → Nat, ws'.length = ws.length + 23 ∧ (ws'[qz]? = some (z, .inr (8, [.ref fe, .ref ro, .ref sa, .int 15, .int 0, .int 0, .int 0, .int 0]))) ∧ (ws'[(ws.length + 0)]? = some (fe, zA4 E 0 (fun _ => none))) ∧ (ws'[(ws.length + 1)]? = some (ro, zA4 E 0 (fun _ => none))) ∧ (ws'[(ws.length + 2)]? = some (sa, zA4 E 20 (fun j => if j < 20 then some (ra j) else none))) ∧ (SN E ws' (ws.length + 3) (fun j => if j < 20 then some (ra j) else none) (fun _ => 0)))) (zI E) (zA E)) args s 23 420 (zA E)) = QQ
  refine lv_aload_n hx hb dX7_init_0 rfl (lv_at hl 0 rfl) ?_
  refine W.objInit hx hb hown (hts (.methodLink RX7 1 objectInit) (by decide +kernel)) (hts (.instanceMethod objectInit) (by decide +kernel)) (hts (.code objectInit ⟨#[0xb1]⟩ 1 none) (by decide +kernel)) rfl (by rw [X.1.2.2.1]; exact hl.1) rfl dX7_init_1 (Nat.le_of_ble_eq_true rfl) (Nat.le_of_ble_eq_true rfl) ?_
  refine W.eq (g2 := F0 m 4 ls []) rfl ?_
  refine lv_aload_n hx hb dX7_init_4 rfl (lv_at hl 0 rfl) ?_
  refine lv_iconst (v := 0) hx hb dX7_init_5 (by decide) ?_
  refine z_newqA (N' := 0) X J (by decide +kernel) (by decide) (by decide) (Nat.le_of_ble_eq_true rfl) (Nat.le_of_ble_eq_true rfl) (Nat.le_of_ble_eq_true rfl) dX7_init_6 (fun q6 H J => ?_)
  have lp1 := hk.1
  have hk := hk.trans (zK.app (more := [(q6, zA4 E 0 (fun _ => none))]))
  have hpn1 := hlen
  have hlen : (ws ++ ([(q6, zA4 E 0 (fun _ => none))] : va_W)).length = ws.length + 1 := by rw [List.length_append, hlen]; rfl
  have bG1_0 := zlt Fa0
  have G1_0 := zapp (x := (q6, zA4 E 0 (fun _ => none))) Fa0
  have G1_n := zapp_new (ws := ws) (x := (q6, zA4 E 0 (fun _ => none)))
  generalize hws1 : ws ++ [(q6, zA4 E 0 (fun _ => none))] = ws_1 at J hk hlen G1_0 G1_n
  rw [hpn1] at lp1 G1_n bG1_0
  refine z_put (C := RX7) (T := TX7) (N := 8) (ci := 8) (v := .ref q6) X J hi_X7 tyX7 tyX7_ok nmX7 qz G1_0 rfl 0 (by decide) (by decide +kernel) rfl rfl rfl (Nat.le_of_ble_eq_true rfl) dX7_init_9 (fun H locs J => ?_)
  have J : zJ E (ws_1.set qz (z, .inr (8, [.ref q6, .null, .null, .int 0, .int 0, .int 0, .int 0, .int 0]))) s H locs := J
  have hk := hk.trans (zK.set (ws := ws_1) (q := qz) (e := (z, .inr (8, [.ref q6, .null, .null, .int 0, .int 0, .int 0, .int 0, .int 0]))) (by simp))
  have hlen : (ws_1.set qz (z, .inr (8, [.ref q6, .null, .null, .int 0, .int 0, .int 0, .int 0, .int 0]))).length = ws.length + 1 := (List.length_set ..).trans hlen
  have G2_0 := zset_eq (e' := (z, .inr (8, [.ref q6, .null, .null, .int 0, .int 0, .int 0, .int 0, .int 0]))) G1_0
  have G2_1 := zset_ne (q := qz) (e' := (z, .inr (8, [.ref q6, .null, .null, .int 0, .int 0, .int 0, .int 0, .int 0]))) (Nat.ne_of_lt (Nat.lt_of_lt_of_le bFa0 (Nat.le_add_right _ _))) G1_n
  generalize hws2 : (ws_1.set qz (z, .inr (8, [.ref q6, .null, .null, .int 0, .int 0, .int 0, .int 0, .int 0]))) = ws_2 at J hlen hk G2_0 G2_1
  refine lv_aload_n hx hb dX7_init_12 rfl (lv_at hl 0 rfl) ?_
  refine lv_iconst (v := 0) hx hb dX7_init_13 (by decide) ?_
  refine z_newqA (N' := 0) X J (by decide +kernel) (by decide) (by decide) (Nat.le_of_ble_eq_true rfl) (Nat.le_of_ble_eq_true rfl) (Nat.le_of_ble_eq_true rfl) dX7_init_14 (fun q14 H J => ?_)
  have lp3 := hk.1
  have hk := hk.trans (zK.app (more := [(q14, zA4 E 0 (fun _ => none))]))
  have hpn3 := hlen
  have hlen : (ws_2 ++ ([(q14, zA4 E 0 (fun _ => none))] : va_W)).length = ws.length + 2 := by rw [List.length_append, hlen]; rfl
  have bG3_0 := zlt G2_0
  have G3_0 := zapp (x := (q14, zA4 E 0 (fun _ => none))) G2_0
  have bG3_1 := zlt G2_1
  have G3_1 := zapp (x := (q14, zA4 E 0 (fun _ => none))) G2_1
  have G3_n := zapp_new (ws := ws_2) (x := (q14, zA4 E 0 (fun _ => none)))
  generalize hws3 : ws_2 ++ [(q14, zA4 E 0 (fun _ => none))] = ws_3 at J hk hlen G3_0 G3_1 G3_n
  rw [hpn3] at lp3 G3_n bG3_0 bG3_1
  refine z_put (C := RX7) (T := TX7) (N := 8) (ci := 8) (v := .ref q14) X J hi_X7 tyX7 tyX7_ok nmX7 qz G3_0 rfl 1 (by decide) (by decide +kernel) rfl rfl rfl (Nat.le_of_ble_eq_true rfl) dX7_init_17 (fun H locs J => ?_)
  have J : zJ E (ws_3.set qz (z, .inr (8, [.ref q6, .ref q14, .null, .int 0, .int 0, .int 0, .int 0, .int 0]))) s H locs := J
  have hk := hk.trans (zK.set (ws := ws_3) (q := qz) (e := (z, .inr (8, [.ref q6, .ref q14, .null, .int 0, .int 0, .int 0, .int 0, .int 0]))) (by simp))
  have hlen : (ws_3.set qz (z, .inr (8, [.ref q6, .ref q14, .null, .int 0, .int 0, .int 0, .int 0, .int 0]))).length = ws.length + 2 := (List.length_set ..).trans hlen
  have G4_0 := zset_eq (e' := (z, .inr (8, [.ref q6, .ref q14, .null, .int 0, .int 0, .int 0, .int 0, .int 0]))) G3_0
  have G4_1 := zset_ne (q := qz) (e' := (z, .inr (8, [.ref q6, .ref q14, .null, .int 0, .int 0, .int 0, .int 0, .int 0]))) (Nat.ne_of_lt (Nat.lt_of_lt_of_le bFa0 (Nat.le_add_right _ _))) G3_1
  have G4_2 := zset_ne (q := qz) (e' := (z, .inr (8, [.ref q6, .ref q14, .null, .int 0, .int 0, .int 0, .int 0, .int 0]))) (Nat.ne_of_lt (Nat.lt_of_lt_of_le bFa0 (Nat.le_add_right _ _))) G3_n
  generalize hws4 : (ws_3.set qz (z, .inr (8, [.ref q6, .ref q14, .null, .int 0, .int 0, .int 0, .int 0, .int 0]))) = ws_4 at J hlen hk G4_0 G4_1 G4_2
  refine lv_aload_n hx hb dX7_init_20 rfl (lv_at hl 0 rfl) ?_
  refine lv_bipush (v := 20) hx hb dX7_init_21 (by decide) ?_
  refine lv_bipush (v := 20) hx hb dX7_init_23 (by decide) ?_
  refine z_multi X J (by decide +kernel) (by decide +kernel) (Nat.le_of_ble_eq_true rfl) (Nat.le_of_ble_eq_true rfl) dX7_init_25 (fun q25 ra25 ws_5 H hlen9 k9 hq9 hr9 J => ?_)
  have hk := hk.trans (k9.mono (fun q9 hq9 => absurd hq9 List.not_mem_nil))
  have G5_0 := k9.2 qz _ List.not_mem_nil G4_0
  have G5_1 := k9.2 (ws.length + 0) _ List.not_mem_nil G4_1
  have G5_2 := k9.2 (ws.length + 1) _ List.not_mem_nil G4_2
  rw [hlen] at hq9 hr9 hlen9
  have hlen : ws_5.length = ws.length + 23 := by rw [hlen9]
  have hq5 := hq9
  have hr5 := hr9
  have hSN : SN E ws_5 (ws.length + 3) (fun j => if j < 20 then some (ra25 j) else none) (fun _ => 0) := SN.of (fun r9 hr8 => hr9 r9 hr8)
  refine z_put (C := RX7) (T := TX7) (N := 8) (ci := 8) (v := .ref q25) X J hi_X7 tyX7 tyX7_ok nmX7 qz G5_0 rfl 2 (by decide) (by decide +kernel) rfl rfl rfl (Nat.le_of_ble_eq_true rfl) dX7_init_29 (fun H locs J => ?_)
  have J : zJ E (ws_5.set qz (z, .inr (8, [.ref q6, .ref q14, .ref q25, .int 0, .int 0, .int 0, .int 0, .int 0]))) s H locs := J
  have hSN := hSN.keep (zK.set (S := [qz]) (ws := ws_5) (q := qz) (e := (z, .inr (8, [.ref q6, .ref q14, .ref q25, .int 0, .int 0, .int 0, .int 0, .int 0]))) (List.mem_singleton.mpr rfl)) (fun r9 hr9 => by simp only [List.mem_cons, rg_mem, List.not_mem_nil, or_false, not_or]; omega)
  have hk := hk.trans (zK.set (ws := ws_5) (q := qz) (e := (z, .inr (8, [.ref q6, .ref q14, .ref q25, .int 0, .int 0, .int 0, .int 0, .int 0]))) (by simp))
  have hlen : (ws_5.set qz (z, .inr (8, [.ref q6, .ref q14, .ref q25, .int 0, .int 0, .int 0, .int 0, .int 0]))).length = ws.length + 23 := (List.length_set ..).trans hlen
  have G6_0 := zset_eq (e' := (z, .inr (8, [.ref q6, .ref q14, .ref q25, .int 0, .int 0, .int 0, .int 0, .int 0]))) G5_0
  have G6_1 := zset_ne (q := qz) (e' := (z, .inr (8, [.ref q6, .ref q14, .ref q25, .int 0, .int 0, .int 0, .int 0, .int 0]))) (Nat.ne_of_lt (Nat.lt_of_lt_of_le bFa0 (Nat.le_add_right _ _))) G5_1
  have G6_2 := zset_ne (q := qz) (e' := (z, .inr (8, [.ref q6, .ref q14, .ref q25, .int 0, .int 0, .int 0, .int 0, .int 0]))) (Nat.ne_of_lt (Nat.lt_of_lt_of_le bFa0 (Nat.le_add_right _ _))) G5_2
  have G6_3 := zset_ne (q := qz) (e' := (z, .inr (8, [.ref q6, .ref q14, .ref q25, .int 0, .int 0, .int 0, .int 0, .int 0]))) (Nat.ne_of_lt (Nat.lt_of_lt_of_le bFa0 (Nat.le_add_right _ _))) hq5
  generalize hws6 : (ws_5.set qz (z, .inr (8, [.ref q6, .ref q14, .ref q25, .int 0, .int 0, .int 0, .int 0, .int 0]))) = ws_6 at J hlen hk G6_0 G6_1 G6_2 G6_3 hSN
  refine lv_aload_n hx hb dX7_init_32 rfl (lv_at hl 0 rfl) ?_
  refine lv_bipush (v := 15) hx hb dX7_init_33 (by decide) ?_
  refine z_put (C := RX7) (T := TX7) (N := 8) (ci := 8) (v := .int 15) X J hi_X7 tyX7 tyX7_ok nmX7 qz G6_0 rfl 3 (by decide) (by decide +kernel) rfl rfl rfl (Nat.le_of_ble_eq_true rfl) dX7_init_35 (fun H locs J => ?_)
  have J : zJ E (ws_6.set qz (z, .inr (8, [.ref q6, .ref q14, .ref q25, .int 15, .int 0, .int 0, .int 0, .int 0]))) s H locs := J
  have hSN := hSN.keep (zK.set (S := [qz]) (ws := ws_6) (q := qz) (e := (z, .inr (8, [.ref q6, .ref q14, .ref q25, .int 15, .int 0, .int 0, .int 0, .int 0]))) (List.mem_singleton.mpr rfl)) (fun r9 hr9 => by simp only [List.mem_cons, rg_mem, List.not_mem_nil, or_false, not_or]; omega)
  have hk := hk.trans (zK.set (ws := ws_6) (q := qz) (e := (z, .inr (8, [.ref q6, .ref q14, .ref q25, .int 15, .int 0, .int 0, .int 0, .int 0]))) (by simp))
  have hlen : (ws_6.set qz (z, .inr (8, [.ref q6, .ref q14, .ref q25, .int 15, .int 0, .int 0, .int 0, .int 0]))).length = ws.length + 23 := (List.length_set ..).trans hlen
  have G7_0 := zset_eq (e' := (z, .inr (8, [.ref q6, .ref q14, .ref q25, .int 15, .int 0, .int 0, .int 0, .int 0]))) G6_0
  have G7_1 := zset_ne (q := qz) (e' := (z, .inr (8, [.ref q6, .ref q14, .ref q25, .int 15, .int 0, .int 0, .int 0, .int 0]))) (Nat.ne_of_lt (Nat.lt_of_lt_of_le bFa0 (Nat.le_add_right _ _))) G6_1
  have G7_2 := zset_ne (q := qz) (e' := (z, .inr (8, [.ref q6, .ref q14, .ref q25, .int 15, .int 0, .int 0, .int 0, .int 0]))) (Nat.ne_of_lt (Nat.lt_of_lt_of_le bFa0 (Nat.le_add_right _ _))) G6_2
  have G7_3 := zset_ne (q := qz) (e' := (z, .inr (8, [.ref q6, .ref q14, .ref q25, .int 15, .int 0, .int 0, .int 0, .int 0]))) (Nat.ne_of_lt (Nat.lt_of_lt_of_le bFa0 (Nat.le_add_right _ _))) G6_3
  generalize hws7 : (ws_6.set qz (z, .inr (8, [.ref q6, .ref q14, .ref q25, .int 15, .int 0, .int 0, .int 0, .int 0]))) = ws_7 at J hlen hk G7_0 G7_1 G7_2 G7_3 hSN
  subst hQ
  exact W.vret hx hb hr (fun t ht hW => ⟨⟨ws_7, rfl, ⟨hk, ⟨q6, q14, q25, ra25, hlen, G7_0, G7_1, G7_2, G7_3, hSN⟩⟩, J.I X ht hW.alike⟩, J.F ht⟩) J.locs dX7_init_38
