set_option maxHeartbeats 400000 in
set_option maxRecDepth 100000 in
theorem cX7_blow_4_ok (l : Launch) (E : zG) {ws : va_W} {qz z fe ro sa : Nat} {lim sup off plo hrs : Int32} {qs b : Nat} {gs : Nat → Option Nat} {sn : Nat → Int32} {qf nf : Nat} {g : Nat → Option Nat} {fa : Nat → Int32} {wd stg : Int32} {n : Nat} (Fa0 : ws[qz]? = some (z, .inr (8, [.ref fe, .ref ro, .ref sa, .int lim, .int sup, .int off, .int plo, .int hrs]))) (Fa1 : ws[qs]? = some (sa, zA4 E 20 gs)) (Fa2 : ws[qf]? = some (fe, zA4 E nf g)) (hSN : SN E ws b gs sn) (hSE : SE E ws g nf fa) (hnf : nf ≤ 11) (hok : ∀ j, j < nf → okF fa j) (hwd : wd = 0 ∨ wd = 1 ∨ wd = 2 ∨ wd = 3) (hRB : RB 200 sn) (hs9 : BI 1 9 stg) (hu9 : BI 0 40 sup) (hn9 : n ≤ 4) : Met l yX7_blow wsX7_blow ({ frames := 3, cells := 6640, slots := 12800, locals := 75 } : Room) (va_Pc [.ref z, .int wd, .int stg, .int (nI n)] (zI E ws)) (va_Qi (fun (r : Int32) (ws' : va_W) => (zK (qz :: rg b) ws ws') ∧ (ws'[qz]? = some (z, .inr (8, [.ref fe, .ref ro, .ref sa, .int lim, .int sup, .int (off + (hsS stg sup (hgS fa (-1) nf).1 (hgS fa (-1) nf).2 wd sn n).1), .int plo, .int (hrs + nI n)]))) ∧ (SN E ws' b gs (hsS stg sup (hgS fa (-1) nf).1 (hgS fa (-1) nf).2 wd sn n).2.1) ∧ (r = (hsS stg sup (hgS fa (-1) nf).1 (hgS fa (-1) nf).2 wd sn n).1)) (zI E) (zA E)) 6640 12800 (zA E) := by
  refine Met.ofW (cc := cX7_blow) (maxL := 6) (ret := (some .int)) (by decide) rfl ?_
  intro p e s m args below meth c s₁ B hml hv
  obtain ⟨hargs9, hI⟩ := hv
  have hx := B.exec
  have hb := B.bytes
  have hr := B.returns
  have hlocks := B.notSynchronized
  have X : zC E p m c cX7_blow 6 s args wsX7_blow RX7 := z_open B hml hI
  have hown := X.1.2.2.2.1
  have hts := X.1.2.2.2.2
  have J := hI.J
  have hi_X7 : ∀ w ∈ wsX70, w ∈ wsX7_blow := by decide +kernel
  have n0_1 : qz ≠ qs := zneK Fa0 Fa1 rfl
  have n0_2 : qz ≠ qf := zneK Fa0 Fa2 rfl
  have hk : zK (qz :: rg b) ws ws := zK.rf
  have hl := lv_entry ([.ref z, .int wd, .int stg, .int (nI n)]) (n := 6) (Nat.le_of_ble_eq_true rfl)
  rw [show entryFrame m args 6 = entryFrame m ([.ref z, .int wd, .int stg, .int (nI n)] : List Value).toArray 6 from by rw [hargs9], lg_entry_eq]
  generalize (lg_sl ([.ref z, .int wd, .int stg, .int (nI n)]) ++ List.replicate (6 - (lg_sl ([.ref z, .int wd, .int stg, .int (nI n)])).length) Slot.unset).toArray = ls at hl ⊢
  have hl : lv_has ls 6 [(0, .ref z), (1, .int wd), (2, .int stg), (3, .int (nI n))] := hl
  have hbl := hSN.len
  have hb0 := hSN.no Fa0 rfl
  have hb1 := hSN.no Fa1 rfl
  have hb2 := hSN.no Fa2 rfl
  have hhR := hgS_RB (wo := -1) nf hok
  generalize hQ : (MQ below (va_Qi (fun (r : Int32) (ws' : va_W) => (zK (qz :: rg b) ws ws') ∧ (ws'[qz]? = some (z, .inr (8, [.ref fe, .ref ro, .ref sa, .int lim, .int sup, .int (off + (hsS stg sup (hgS fa (-1) nf).1 (hgS fa (-1) nf).2 wd sn n).1), .int plo, .int (hrs + nI n)]))) ∧ (SN E ws' b gs (hsS stg sup (hgS fa (-1) nf).1 (hgS fa (-1) nf).2 wd sn n).2.1) ∧ (r = (hsS stg sup (hgS fa (-1) nf).1 (hgS fa (-1) nf).2 wd sn n).1)) (zI E) (zA E)) args s 6640 12800 (zA E)) = QQ
  refine lv_iconst (v := (hsS stg sup (hgS fa (-1) nf).1 (hgS fa (-1) nf).2 wd sn 0).1) hx hb dX7_blow_0 rfl ?_
  refine lv_istore (lv' := [(4, .int ((hsS stg sup (hgS fa (-1) nf).1 (hgS fa (-1) nf).2 wd sn 0).1)), (0, .ref z), (1, .int wd), (2, .int stg), (3, .int (nI n))]) hx hb dX7_blow_1 hl (by decide) rfl (fun ls hl => ?_)
  refine lv_iconst (v := nI 0) hx hb dX7_blow_3 rfl ?_
  refine lv_istore (lv' := [(5, .int (nI 0)), (4, .int ((hsS stg sup (hgS fa (-1) nf).1 (hgS fa (-1) nf).2 wd sn 0).1)), (0, .ref z), (1, .int wd), (2, .int stg), (3, .int (nI n))]) hx hb dX7_blow_4 hl (by decide) rfl (fun ls hl => ?_)
  have loop_6 : ∀ (k9 i : Nat), i + k9 = n → ∀ (wl6 : va_W) (H : Heap) (locs : List Loc) (ls : Array Slot), zK (qz :: rg b) ws wl6 → wl6[qz]? = some (z, .inr (8, [.ref fe, .ref ro, .ref sa, .int lim, .int sup, .int off, .int plo, .int hrs])) → wl6[qs]? = some (sa, zA4 E 20 gs) → wl6[qf]? = some (fe, zA4 E nf g) → SE E wl6 g nf fa → SN E wl6 b gs (hsS stg sup (hgS fa (-1) nf).1 (hgS fa (-1) nf).2 wd sn i).2.1 → zJ E wl6 s H locs → lv_has ls 6 [(5, .int (nI i)), (4, .int ((hsS stg sup (hgS fa (-1) nf).1 (hgS fa (-1) nf).2 wd sn i).1)), (0, .ref z), (1, .int wd), (2, .int stg), (3, .int (nI n))] → W p l e (headSpec wsX7_blow ({ frames := 3, cells := 6640, slots := 12800, locals := 75 } : Room)).room s m args below meth c H locs (1660 * i) (3200 * i) QQ (F0 m 6 ls []) := by
    intro k9
    induction k9 with
    | zero =>
      intro i hik wl6 H locs ls hk L6_0 L6_1 L6_2 hSE hSN J hl
      obtain rfl : n = i := by omega
      refine lv_iload hx hb dX7_blow_6 (lv_at hl 0 rfl) ?_
      refine lv_iload_n hx hb dX7_blow_8 rfl (lv_at hl 5 rfl) ?_
      refine lv_icmp_ge (tgt := 29) hx hb dX7_blow_9 (by decide) (fun cz9 => ?_) (fun cz9 => by exact (cz9 (nI_le (Nat.le_refl _) (by omega))).elim)
      refine lv_aload_n hx hb dX7_blow_29 rfl (lv_at hl 2 rfl) ?_
      refine lv_dup hx hb dX7_blow_30 rfl ?_
      refine z_get (C := RX7) (T := TX7) (N := 8) (ci := 8) (v := .int off) X J hi_X7 qz L6_0 rfl 5 (by decide) (by decide +kernel) rfl dX7_blow_31 ?_
      refine lv_iload hx hb dX7_blow_34 (lv_at hl 1 rfl) ?_
      refine lv_iadd hx hb dX7_blow_36 ?_
      refine z_put (C := RX7) (T := TX7) (N := 8) (ci := 8) (v := .int (off + ((hsS stg sup (hgS fa (-1) nf).1 (hgS fa (-1) nf).2 wd sn n).1))) X J hi_X7 tyX7 tyX7_ok nmX7 qz L6_0 rfl 5 (by decide) (by decide +kernel) rfl rfl rfl (Nat.le_of_ble_eq_true rfl) dX7_blow_37 (fun H locs J => ?_)
      have J : zJ E (wl6.set qz (z, .inr (8, [.ref fe, .ref ro, .ref sa, .int lim, .int sup, .int (off + ((hsS stg sup (hgS fa (-1) nf).1 (hgS fa (-1) nf).2 wd sn n).1)), .int plo, .int hrs]))) s H locs := J
      have hSE := hSE.keep (zK.set (S := [qz]) (ws := wl6) (q := qz) (e := (z, .inr (8, [.ref fe, .ref ro, .ref sa, .int lim, .int sup, .int (off + ((hsS stg sup (hgS fa (-1) nf).1 (hgS fa (-1) nf).2 wd sn n).1)), .int plo, .int hrs]))) (List.mem_singleton.mpr rfl)) (fun q9 a9 f9 h8 h9 => by have z9_0 := zneK h9 L6_0 rfl; simp only [List.mem_cons, rg_mem, List.not_mem_nil, or_false, not_or]; omega)
      have hSN := hSN.keep (zK.set (S := [qz]) (ws := wl6) (q := qz) (e := (z, .inr (8, [.ref fe, .ref ro, .ref sa, .int lim, .int sup, .int (off + ((hsS stg sup (hgS fa (-1) nf).1 (hgS fa (-1) nf).2 wd sn n).1)), .int plo, .int hrs]))) (List.mem_singleton.mpr rfl)) (fun r9 hr9 => by simp only [List.mem_cons, rg_mem, List.not_mem_nil, or_false, not_or]; omega)
      have hk := hk.trans (zK.set (ws := wl6) (q := qz) (e := (z, .inr (8, [.ref fe, .ref ro, .ref sa, .int lim, .int sup, .int (off + ((hsS stg sup (hgS fa (-1) nf).1 (hgS fa (-1) nf).2 wd sn n).1)), .int plo, .int hrs]))) (by simp))
      have G1_0 := zset_eq (e' := (z, .inr (8, [.ref fe, .ref ro, .ref sa, .int lim, .int sup, .int (off + ((hsS stg sup (hgS fa (-1) nf).1 (hgS fa (-1) nf).2 wd sn n).1)), .int plo, .int hrs]))) L6_0
      have G1_1 := zset_ne (q := qz) (e' := (z, .inr (8, [.ref fe, .ref ro, .ref sa, .int lim, .int sup, .int (off + ((hsS stg sup (hgS fa (-1) nf).1 (hgS fa (-1) nf).2 wd sn n).1)), .int plo, .int hrs]))) (by omega) L6_1
      have G1_2 := zset_ne (q := qz) (e' := (z, .inr (8, [.ref fe, .ref ro, .ref sa, .int lim, .int sup, .int (off + ((hsS stg sup (hgS fa (-1) nf).1 (hgS fa (-1) nf).2 wd sn n).1)), .int plo, .int hrs]))) (by omega) L6_2
      generalize hws1 : (wl6.set qz (z, .inr (8, [.ref fe, .ref ro, .ref sa, .int lim, .int sup, .int (off + ((hsS stg sup (hgS fa (-1) nf).1 (hgS fa (-1) nf).2 wd sn n).1)), .int plo, .int hrs]))) = ws_1 at J hk G1_0 G1_1 G1_2 hSE hSN
      refine lv_aload_n hx hb dX7_blow_40 rfl (lv_at hl 2 rfl) ?_
      refine lv_dup hx hb dX7_blow_41 rfl ?_
      refine z_get (C := RX7) (T := TX7) (N := 8) (ci := 8) (v := .int hrs) X J hi_X7 qz G1_0 rfl 7 (by decide) (by decide +kernel) rfl dX7_blow_42 ?_
      refine lv_iload_n hx hb dX7_blow_45 rfl (lv_at hl 5 rfl) ?_
      refine lv_iadd hx hb dX7_blow_46 ?_
      refine z_put (C := RX7) (T := TX7) (N := 8) (ci := 8) (v := .int (hrs + (nI n))) X J hi_X7 tyX7 tyX7_ok nmX7 qz G1_0 rfl 7 (by decide) (by decide +kernel) rfl rfl rfl (Nat.le_of_ble_eq_true rfl) dX7_blow_47 (fun H locs J => ?_)
      have J : zJ E (ws_1.set qz (z, .inr (8, [.ref fe, .ref ro, .ref sa, .int lim, .int sup, .int (off + ((hsS stg sup (hgS fa (-1) nf).1 (hgS fa (-1) nf).2 wd sn n).1)), .int plo, .int (hrs + (nI n))]))) s H locs := J
      have hSE := hSE.keep (zK.set (S := [qz]) (ws := ws_1) (q := qz) (e := (z, .inr (8, [.ref fe, .ref ro, .ref sa, .int lim, .int sup, .int (off + ((hsS stg sup (hgS fa (-1) nf).1 (hgS fa (-1) nf).2 wd sn n).1)), .int plo, .int (hrs + (nI n))]))) (List.mem_singleton.mpr rfl)) (fun q9 a9 f9 h8 h9 => by have z9_0 := zneK h9 G1_0 rfl; simp only [List.mem_cons, rg_mem, List.not_mem_nil, or_false, not_or]; omega)
      have hSN := hSN.keep (zK.set (S := [qz]) (ws := ws_1) (q := qz) (e := (z, .inr (8, [.ref fe, .ref ro, .ref sa, .int lim, .int sup, .int (off + ((hsS stg sup (hgS fa (-1) nf).1 (hgS fa (-1) nf).2 wd sn n).1)), .int plo, .int (hrs + (nI n))]))) (List.mem_singleton.mpr rfl)) (fun r9 hr9 => by simp only [List.mem_cons, rg_mem, List.not_mem_nil, or_false, not_or]; omega)
      have hk := hk.trans (zK.set (ws := ws_1) (q := qz) (e := (z, .inr (8, [.ref fe, .ref ro, .ref sa, .int lim, .int sup, .int (off + ((hsS stg sup (hgS fa (-1) nf).1 (hgS fa (-1) nf).2 wd sn n).1)), .int plo, .int (hrs + (nI n))]))) (by simp))
      have G2_0 := zset_eq (e' := (z, .inr (8, [.ref fe, .ref ro, .ref sa, .int lim, .int sup, .int (off + ((hsS stg sup (hgS fa (-1) nf).1 (hgS fa (-1) nf).2 wd sn n).1)), .int plo, .int (hrs + (nI n))]))) G1_0
      have G2_1 := zset_ne (q := qz) (e' := (z, .inr (8, [.ref fe, .ref ro, .ref sa, .int lim, .int sup, .int (off + ((hsS stg sup (hgS fa (-1) nf).1 (hgS fa (-1) nf).2 wd sn n).1)), .int plo, .int (hrs + (nI n))]))) (by omega) G1_1
      have G2_2 := zset_ne (q := qz) (e' := (z, .inr (8, [.ref fe, .ref ro, .ref sa, .int lim, .int sup, .int (off + ((hsS stg sup (hgS fa (-1) nf).1 (hgS fa (-1) nf).2 wd sn n).1)), .int plo, .int (hrs + (nI n))]))) (by omega) G1_2
      generalize hws2 : (ws_1.set qz (z, .inr (8, [.ref fe, .ref ro, .ref sa, .int lim, .int sup, .int (off + ((hsS stg sup (hgS fa (-1) nf).1 (hgS fa (-1) nf).2 wd sn n).1)), .int plo, .int (hrs + (nI n))]))) = ws_2 at J hk G2_0 G2_1 G2_2 hSE hSN
      refine lv_iload hx hb dX7_blow_50 (lv_at hl 1 rfl) ?_
      refine W.widen (k := 6640) (n := 12800) (by omega) (by omega) ?_
      subst hQ
      exact W.iret (v := (hsS stg sup (hgS fa (-1) nf).1 (hgS fa (-1) nf).2 wd sn n).1) hx hb hr (fun t ht hW => ⟨⟨(hsS stg sup (hgS fa (-1) nf).1 (hgS fa (-1) nf).2 wd sn n).1, ws_2, rfl, ⟨hk, G2_0, hSN, rfl⟩, J.I X ht hW.alike⟩, J.F ht⟩) J.locs dX7_blow_52
    | succ k9 ih_6 =>
      intro i hik wl6 H locs ls hk L6_0 L6_1 L6_2 hSE hSN J hl
      refine lv_iload hx hb dX7_blow_6 (lv_at hl 0 rfl) ?_
      refine lv_iload_n hx hb dX7_blow_8 rfl (lv_at hl 5 rfl) ?_
      refine lv_icmp_ge (tgt := 29) hx hb dX7_blow_9 (by decide) (fun cz9 => by exact (nI_ge (by omega) (by omega) cz9).elim) (fun cz9 => ?_)
      refine lv_iload hx hb dX7_blow_12 (lv_at hl 1 rfl) ?_
      refine lv_aload_n hx hb dX7_blow_14 rfl (lv_at hl 2 rfl) ?_
      refine lv_iload_n hx hb dX7_blow_15 rfl (lv_at hl 3 rfl) ?_
      refine lv_iload_n hx hb dX7_blow_16 rfl (lv_at hl 4 rfl) ?_
      refine z_ci J (z_rV (As := [.int wd, .int stg]) (rest := [.int ((hsS stg sup (hgS fa (-1) nf).1 (hgS fa (-1) nf).2 wd sn i).1)]) (ci := 8) (q0 := qz) X J (cX7_hour_ok l E L6_0 L6_1 L6_2 hSN hSE (by first | assumption | omega | decide) (by first | assumption | omega | decide) (by first | assumption | omega | decide) (hsS_I hs9 hu9 hhR hRB i) (by first | assumption | omega | decide) (by first | assumption | omega | decide)) (cwV 2 hts gX7_blow_X7_hour rfl rfl rfl (by decide +kernel) ⟨Nat.le_of_ble_eq_true rfl, Nat.le_of_ble_eq_true rfl⟩) L6_0 rfl rfl rfl hl.1 rfl (Nat.le_of_ble_eq_true rfl) dX7_blow_17 ⟨by show _ ≤ 6640; omega, by show _ ≤ 12800; omega⟩) (fun r17 ws_1 H locs hp9 J => ?_)
      obtain ⟨k1, hSN_1, e_r17⟩ := hp9
      have hSE := hSE.keep k1 (fun q9 a9 f9 h8 h9 => by have z9_0 := hSN.noL h9 (by decide); simp only [List.mem_cons, rg_mem, List.not_mem_nil, or_false, not_or]; omega)
      have hSN := hSN_1
      have hk := hk.trans (k1.mono (by intro q9 hq9; simp only [List.mem_cons, rg_mem, List.not_mem_nil, or_false, not_or] at hq9 ⊢; omega))
      have G1_0 := k1.2 qz _ (by simp only [List.mem_cons, rg_mem, List.not_mem_nil, or_false, not_or]; omega) L6_0
      have G1_1 := k1.2 qs _ (by simp only [List.mem_cons, rg_mem, List.not_mem_nil, or_false, not_or]; omega) L6_1
      have G1_2 := k1.2 qf _ (by simp only [List.mem_cons, rg_mem, List.not_mem_nil, or_false, not_or]; omega) L6_2
      subst e_r17
      refine lv_iadd hx hb dX7_blow_20 ?_
      refine W.eq (g2 := F0 m 21 ls [.int ((hsS stg sup (hgS fa (-1) nf).1 (hgS fa (-1) nf).2 wd sn (i + 1)).1)]) (congrArg (fun z9 : Int32 => F0 m 21 ls [.int z9]) (show (((hsS stg sup (hgS fa (-1) nf).1 (hgS fa (-1) nf).2 wd sn i).1) + ((hrS stg sup (hgS fa (-1) nf).1 (hgS fa (-1) nf).2 wd ((hsS stg sup (hgS fa (-1) nf).1 (hgS fa (-1) nf).2 wd sn i).2.1) 20).1) : Int32) = (hsS stg sup (hgS fa (-1) nf).1 (hgS fa (-1) nf).2 wd sn (i + 1)).1 from hsS_1)) ?_
      refine lv_istore (lv' := [(4, .int ((hsS stg sup (hgS fa (-1) nf).1 (hgS fa (-1) nf).2 wd sn (i + 1)).1)), (5, .int (nI i)), (0, .ref z), (1, .int wd), (2, .int stg), (3, .int (nI n))]) hx hb dX7_blow_21 hl (by decide) rfl (fun ls hl => ?_)
      refine lv_iinc (v := nI (i + 1)) (lv' := [(5, .int (nI (i + 1))), (4, .int ((hsS stg sup (hgS fa (-1) nf).1 (hgS fa (-1) nf).2 wd sn (i + 1)).1)), (0, .ref z), (1, .int wd), (2, .int stg), (3, .int (nI n))]) hx hb dX7_blow_23 hl (k := 1) rfl (nI_1 i) (by decide) rfl (fun ls hl => ?_)
      refine lv_goto (tgt := 6) hx hb dX7_blow_26 (by decide) ?_
      refine W.widen (k := (1660 * (i + 1))) (n := (3200 * (i + 1))) (by omega) (by omega) ?_
      exact ih_6 (i + 1) (by omega) _ _ _ _ hk G1_0 G1_1 G1_2 hSE (hSN.congr (fun j9 hj9 => congrFun hsS_2 j9)) J (lv_sub hl [0, 1, 2, 3, 4, 5] rfl)
  exact loop_6 n 0 (by omega) _ _ _ _ hk Fa0 Fa1 Fa2 hSE hSN J (lv_sub hl [0, 1, 2, 3, 4, 5] rfl)
set_option maxHeartbeats 400000 in
set_option maxRecDepth 100000 in
theorem cX7_blow_6_ok (l : Launch) (E : zG) {ws : va_W} {qz z fe ro sa : Nat} {lim sup off plo hrs : Int32} {qs b : Nat} {gs : Nat → Option Nat} {sn : Nat → Int32} {qf nf : Nat} {g : Nat → Option Nat} {fa : Nat → Int32} {wd stg : Int32} {n : Nat} (Fa0 : ws[qz]? = some (z, .inr (8, [.ref fe, .ref ro, .ref sa, .int lim, .int sup, .int off, .int plo, .int hrs]))) (Fa1 : ws[qs]? = some (sa, zA4 E 20 gs)) (Fa2 : ws[qf]? = some (fe, zA4 E nf g)) (hSN : SN E ws b gs sn) (hSE : SE E ws g nf fa) (hnf : nf ≤ 11) (hok : ∀ j, j < nf → okF fa j) (hwd : wd = 0 ∨ wd = 1 ∨ wd = 2 ∨ wd = 3) (hRB : RB 200 sn) (hs9 : BI 1 9 stg) (hu9 : BI 0 40 sup) (hn9 : n ≤ 6) : Met l yX7_blow wsX7_blow ({ frames := 3, cells := 9960, slots := 19200, locals := 75 } : Room) (va_Pc [.ref z, .int wd, .int stg, .int (nI n)] (zI E ws)) (va_Qi (fun (r : Int32) (ws' : va_W) => (zK (qz :: rg b) ws ws') ∧ (ws'[qz]? = some (z, .inr (8, [.ref fe, .ref ro, .ref sa, .int lim, .int sup, .int (off + (hsS stg sup (hgS fa (-1) nf).1 (hgS fa (-1) nf).2 wd sn n).1), .int plo, .int (hrs + nI n)]))) ∧ (SN E ws' b gs (hsS stg sup (hgS fa (-1) nf).1 (hgS fa (-1) nf).2 wd sn n).2.1) ∧ (r = (hsS stg sup (hgS fa (-1) nf).1 (hgS fa (-1) nf).2 wd sn n).1)) (zI E) (zA E)) 9960 19200 (zA E) := by
  refine Met.ofW (cc := cX7_blow) (maxL := 6) (ret := (some .int)) (by decide) rfl ?_
  intro p e s m args below meth c s₁ B hml hv
  obtain ⟨hargs9, hI⟩ := hv
  have hx := B.exec
  have hb := B.bytes
  have hr := B.returns
  have hlocks := B.notSynchronized
  have X : zC E p m c cX7_blow 6 s args wsX7_blow RX7 := z_open B hml hI
  have hown := X.1.2.2.2.1
  have hts := X.1.2.2.2.2
  have J := hI.J
  have hi_X7 : ∀ w ∈ wsX70, w ∈ wsX7_blow := by decide +kernel
  have n0_1 : qz ≠ qs := zneK Fa0 Fa1 rfl
  have n0_2 : qz ≠ qf := zneK Fa0 Fa2 rfl
  have hk : zK (qz :: rg b) ws ws := zK.rf
  have hl := lv_entry ([.ref z, .int wd, .int stg, .int (nI n)]) (n := 6) (Nat.le_of_ble_eq_true rfl)
  rw [show entryFrame m args 6 = entryFrame m ([.ref z, .int wd, .int stg, .int (nI n)] : List Value).toArray 6 from by rw [hargs9], lg_entry_eq]
  generalize (lg_sl ([.ref z, .int wd, .int stg, .int (nI n)]) ++ List.replicate (6 - (lg_sl ([.ref z, .int wd, .int stg, .int (nI n)])).length) Slot.unset).toArray = ls at hl ⊢
  have hl : lv_has ls 6 [(0, .ref z), (1, .int wd), (2, .int stg), (3, .int (nI n))] := hl
  have hbl := hSN.len
  have hb0 := hSN.no Fa0 rfl
  have hb1 := hSN.no Fa1 rfl
  have hb2 := hSN.no Fa2 rfl
  have hhR := hgS_RB (wo := -1) nf hok
  generalize hQ : (MQ below (va_Qi (fun (r : Int32) (ws' : va_W) => (zK (qz :: rg b) ws ws') ∧ (ws'[qz]? = some (z, .inr (8, [.ref fe, .ref ro, .ref sa, .int lim, .int sup, .int (off + (hsS stg sup (hgS fa (-1) nf).1 (hgS fa (-1) nf).2 wd sn n).1), .int plo, .int (hrs + nI n)]))) ∧ (SN E ws' b gs (hsS stg sup (hgS fa (-1) nf).1 (hgS fa (-1) nf).2 wd sn n).2.1) ∧ (r = (hsS stg sup (hgS fa (-1) nf).1 (hgS fa (-1) nf).2 wd sn n).1)) (zI E) (zA E)) args s 9960 19200 (zA E)) = QQ
  refine lv_iconst (v := (hsS stg sup (hgS fa (-1) nf).1 (hgS fa (-1) nf).2 wd sn 0).1) hx hb dX7_blow_0 rfl ?_
  refine lv_istore (lv' := [(4, .int ((hsS stg sup (hgS fa (-1) nf).1 (hgS fa (-1) nf).2 wd sn 0).1)), (0, .ref z), (1, .int wd), (2, .int stg), (3, .int (nI n))]) hx hb dX7_blow_1 hl (by decide) rfl (fun ls hl => ?_)
  refine lv_iconst (v := nI 0) hx hb dX7_blow_3 rfl ?_
  refine lv_istore (lv' := [(5, .int (nI 0)), (4, .int ((hsS stg sup (hgS fa (-1) nf).1 (hgS fa (-1) nf).2 wd sn 0).1)), (0, .ref z), (1, .int wd), (2, .int stg), (3, .int (nI n))]) hx hb dX7_blow_4 hl (by decide) rfl (fun ls hl => ?_)
  have loop_6 : ∀ (k9 i : Nat), i + k9 = n → ∀ (wl6 : va_W) (H : Heap) (locs : List Loc) (ls : Array Slot), zK (qz :: rg b) ws wl6 → wl6[qz]? = some (z, .inr (8, [.ref fe, .ref ro, .ref sa, .int lim, .int sup, .int off, .int plo, .int hrs])) → wl6[qs]? = some (sa, zA4 E 20 gs) → wl6[qf]? = some (fe, zA4 E nf g) → SE E wl6 g nf fa → SN E wl6 b gs (hsS stg sup (hgS fa (-1) nf).1 (hgS fa (-1) nf).2 wd sn i).2.1 → zJ E wl6 s H locs → lv_has ls 6 [(5, .int (nI i)), (4, .int ((hsS stg sup (hgS fa (-1) nf).1 (hgS fa (-1) nf).2 wd sn i).1)), (0, .ref z), (1, .int wd), (2, .int stg), (3, .int (nI n))] → W p l e (headSpec wsX7_blow ({ frames := 3, cells := 9960, slots := 19200, locals := 75 } : Room)).room s m args below meth c H locs (1660 * i) (3200 * i) QQ (F0 m 6 ls []) := by
    intro k9
    induction k9 with
    | zero =>
      intro i hik wl6 H locs ls hk L6_0 L6_1 L6_2 hSE hSN J hl
      obtain rfl : n = i := by omega
      refine lv_iload hx hb dX7_blow_6 (lv_at hl 0 rfl) ?_
      refine lv_iload_n hx hb dX7_blow_8 rfl (lv_at hl 5 rfl) ?_
      refine lv_icmp_ge (tgt := 29) hx hb dX7_blow_9 (by decide) (fun cz9 => ?_) (fun cz9 => by exact (cz9 (nI_le (Nat.le_refl _) (by omega))).elim)
      refine lv_aload_n hx hb dX7_blow_29 rfl (lv_at hl 2 rfl) ?_
      refine lv_dup hx hb dX7_blow_30 rfl ?_
      refine z_get (C := RX7) (T := TX7) (N := 8) (ci := 8) (v := .int off) X J hi_X7 qz L6_0 rfl 5 (by decide) (by decide +kernel) rfl dX7_blow_31 ?_
      refine lv_iload hx hb dX7_blow_34 (lv_at hl 1 rfl) ?_
      refine lv_iadd hx hb dX7_blow_36 ?_
      refine z_put (C := RX7) (T := TX7) (N := 8) (ci := 8) (v := .int (off + ((hsS stg sup (hgS fa (-1) nf).1 (hgS fa (-1) nf).2 wd sn n).1))) X J hi_X7 tyX7 tyX7_ok nmX7 qz L6_0 rfl 5 (by decide) (by decide +kernel) rfl rfl rfl (Nat.le_of_ble_eq_true rfl) dX7_blow_37 (fun H locs J => ?_)
      have J : zJ E (wl6.set qz (z, .inr (8, [.ref fe, .ref ro, .ref sa, .int lim, .int sup, .int (off + ((hsS stg sup (hgS fa (-1) nf).1 (hgS fa (-1) nf).2 wd sn n).1)), .int plo, .int hrs]))) s H locs := J
      have hSE := hSE.keep (zK.set (S := [qz]) (ws := wl6) (q := qz) (e := (z, .inr (8, [.ref fe, .ref ro, .ref sa, .int lim, .int sup, .int (off + ((hsS stg sup (hgS fa (-1) nf).1 (hgS fa (-1) nf).2 wd sn n).1)), .int plo, .int hrs]))) (List.mem_singleton.mpr rfl)) (fun q9 a9 f9 h8 h9 => by have z9_0 := zneK h9 L6_0 rfl; simp only [List.mem_cons, rg_mem, List.not_mem_nil, or_false, not_or]; omega)
      have hSN := hSN.keep (zK.set (S := [qz]) (ws := wl6) (q := qz) (e := (z, .inr (8, [.ref fe, .ref ro, .ref sa, .int lim, .int sup, .int (off + ((hsS stg sup (hgS fa (-1) nf).1 (hgS fa (-1) nf).2 wd sn n).1)), .int plo, .int hrs]))) (List.mem_singleton.mpr rfl)) (fun r9 hr9 => by simp only [List.mem_cons, rg_mem, List.not_mem_nil, or_false, not_or]; omega)
      have hk := hk.trans (zK.set (ws := wl6) (q := qz) (e := (z, .inr (8, [.ref fe, .ref ro, .ref sa, .int lim, .int sup, .int (off + ((hsS stg sup (hgS fa (-1) nf).1 (hgS fa (-1) nf).2 wd sn n).1)), .int plo, .int hrs]))) (by simp))
      have G1_0 := zset_eq (e' := (z, .inr (8, [.ref fe, .ref ro, .ref sa, .int lim, .int sup, .int (off + ((hsS stg sup (hgS fa (-1) nf).1 (hgS fa (-1) nf).2 wd sn n).1)), .int plo, .int hrs]))) L6_0
      have G1_1 := zset_ne (q := qz) (e' := (z, .inr (8, [.ref fe, .ref ro, .ref sa, .int lim, .int sup, .int (off + ((hsS stg sup (hgS fa (-1) nf).1 (hgS fa (-1) nf).2 wd sn n).1)), .int plo, .int hrs]))) (by omega) L6_1
      have G1_2 := zset_ne (q := qz) (e' := (z, .inr (8, [.ref fe, .ref ro, .ref sa, .int lim, .int sup, .int (off + ((hsS stg sup (hgS fa (-1) nf).1 (hgS fa (-1) nf).2 wd sn n).1)), .int plo, .int hrs]))) (by omega) L6_2
      generalize hws1 : (wl6.set qz (z, .inr (8, [.ref fe, .ref ro, .ref sa, .int lim, .int sup, .int (off + ((hsS stg sup (hgS fa (-1) nf).1 (hgS fa (-1) nf).2 wd sn n).1)), .int plo, .int hrs]))) = ws_1 at J hk G1_0 G1_1 G1_2 hSE hSN
      refine lv_aload_n hx hb dX7_blow_40 rfl (lv_at hl 2 rfl) ?_
      refine lv_dup hx hb dX7_blow_41 rfl ?_
      refine z_get (C := RX7) (T := TX7) (N := 8) (ci := 8) (v := .int hrs) X J hi_X7 qz G1_0 rfl 7 (by decide) (by decide +kernel) rfl dX7_blow_42 ?_
      refine lv_iload_n hx hb dX7_blow_45 rfl (lv_at hl 5 rfl) ?_
      refine lv_iadd hx hb dX7_blow_46 ?_
      refine z_put (C := RX7) (T := TX7) (N := 8) (ci := 8) (v := .int (hrs + (nI n))) X J hi_X7 tyX7 tyX7_ok nmX7 qz G1_0 rfl 7 (by decide) (by decide +kernel) rfl rfl rfl (Nat.le_of_ble_eq_true rfl) dX7_blow_47 (fun H locs J => ?_)
      have J : zJ E (ws_1.set qz (z, .inr (8, [.ref fe, .ref ro, .ref sa, .int lim, .int sup, .int (off + ((hsS stg sup (hgS fa (-1) nf).1 (hgS fa (-1) nf).2 wd sn n).1)), .int plo, .int (hrs + (nI n))]))) s H locs := J
      have hSE := hSE.keep (zK.set (S := [qz]) (ws := ws_1) (q := qz) (e := (z, .inr (8, [.ref fe, .ref ro, .ref sa, .int lim, .int sup, .int (off + ((hsS stg sup (hgS fa (-1) nf).1 (hgS fa (-1) nf).2 wd sn n).1)), .int plo, .int (hrs + (nI n))]))) (List.mem_singleton.mpr rfl)) (fun q9 a9 f9 h8 h9 => by have z9_0 := zneK h9 G1_0 rfl; simp only [List.mem_cons, rg_mem, List.not_mem_nil, or_false, not_or]; omega)
      have hSN := hSN.keep (zK.set (S := [qz]) (ws := ws_1) (q := qz) (e := (z, .inr (8, [.ref fe, .ref ro, .ref sa, .int lim, .int sup, .int (off + ((hsS stg sup (hgS fa (-1) nf).1 (hgS fa (-1) nf).2 wd sn n).1)), .int plo, .int (hrs + (nI n))]))) (List.mem_singleton.mpr rfl)) (fun r9 hr9 => by simp only [List.mem_cons, rg_mem, List.not_mem_nil, or_false, not_or]; omega)
      have hk := hk.trans (zK.set (ws := ws_1) (q := qz) (e := (z, .inr (8, [.ref fe, .ref ro, .ref sa, .int lim, .int sup, .int (off + ((hsS stg sup (hgS fa (-1) nf).1 (hgS fa (-1) nf).2 wd sn n).1)), .int plo, .int (hrs + (nI n))]))) (by simp))
      have G2_0 := zset_eq (e' := (z, .inr (8, [.ref fe, .ref ro, .ref sa, .int lim, .int sup, .int (off + ((hsS stg sup (hgS fa (-1) nf).1 (hgS fa (-1) nf).2 wd sn n).1)), .int plo, .int (hrs + (nI n))]))) G1_0
      have G2_1 := zset_ne (q := qz) (e' := (z, .inr (8, [.ref fe, .ref ro, .ref sa, .int lim, .int sup, .int (off + ((hsS stg sup (hgS fa (-1) nf).1 (hgS fa (-1) nf).2 wd sn n).1)), .int plo, .int (hrs + (nI n))]))) (by omega) G1_1
      have G2_2 := zset_ne (q := qz) (e' := (z, .inr (8, [.ref fe, .ref ro, .ref sa, .int lim, .int sup, .int (off + ((hsS stg sup (hgS fa (-1) nf).1 (hgS fa (-1) nf).2 wd sn n).1)), .int plo, .int (hrs + (nI n))]))) (by omega) G1_2
      generalize hws2 : (ws_1.set qz (z, .inr (8, [.ref fe, .ref ro, .ref sa, .int lim, .int sup, .int (off + ((hsS stg sup (hgS fa (-1) nf).1 (hgS fa (-1) nf).2 wd sn n).1)), .int plo, .int (hrs + (nI n))]))) = ws_2 at J hk G2_0 G2_1 G2_2 hSE hSN
      refine lv_iload hx hb dX7_blow_50 (lv_at hl 1 rfl) ?_
      refine W.widen (k := 9960) (n := 19200) (by omega) (by omega) ?_
      subst hQ
      exact W.iret (v := (hsS stg sup (hgS fa (-1) nf).1 (hgS fa (-1) nf).2 wd sn n).1) hx hb hr (fun t ht hW => ⟨⟨(hsS stg sup (hgS fa (-1) nf).1 (hgS fa (-1) nf).2 wd sn n).1, ws_2, rfl, ⟨hk, G2_0, hSN, rfl⟩, J.I X ht hW.alike⟩, J.F ht⟩) J.locs dX7_blow_52
    | succ k9 ih_6 =>
      intro i hik wl6 H locs ls hk L6_0 L6_1 L6_2 hSE hSN J hl
      refine lv_iload hx hb dX7_blow_6 (lv_at hl 0 rfl) ?_
      refine lv_iload_n hx hb dX7_blow_8 rfl (lv_at hl 5 rfl) ?_
      refine lv_icmp_ge (tgt := 29) hx hb dX7_blow_9 (by decide) (fun cz9 => by exact (nI_ge (by omega) (by omega) cz9).elim) (fun cz9 => ?_)
      refine lv_iload hx hb dX7_blow_12 (lv_at hl 1 rfl) ?_
      refine lv_aload_n hx hb dX7_blow_14 rfl (lv_at hl 2 rfl) ?_
      refine lv_iload_n hx hb dX7_blow_15 rfl (lv_at hl 3 rfl) ?_
      refine lv_iload_n hx hb dX7_blow_16 rfl (lv_at hl 4 rfl) ?_
      refine z_ci J (z_rV (As := [.int wd, .int stg]) (rest := [.int ((hsS stg sup (hgS fa (-1) nf).1 (hgS fa (-1) nf).2 wd sn i).1)]) (ci := 8) (q0 := qz) X J (cX7_hour_ok l E L6_0 L6_1 L6_2 hSN hSE (by first | assumption | omega | decide) (by first | assumption | omega | decide) (by first | assumption | omega | decide) (hsS_I hs9 hu9 hhR hRB i) (by first | assumption | omega | decide) (by first | assumption | omega | decide)) (cwV 2 hts gX7_blow_X7_hour rfl rfl rfl (by decide +kernel) ⟨Nat.le_of_ble_eq_true rfl, Nat.le_of_ble_eq_true rfl⟩) L6_0 rfl rfl rfl hl.1 rfl (Nat.le_of_ble_eq_true rfl) dX7_blow_17 ⟨by show _ ≤ 9960; omega, by show _ ≤ 19200; omega⟩) (fun r17 ws_1 H locs hp9 J => ?_)
      obtain ⟨k1, hSN_1, e_r17⟩ := hp9
      have hSE := hSE.keep k1 (fun q9 a9 f9 h8 h9 => by have z9_0 := hSN.noL h9 (by decide); simp only [List.mem_cons, rg_mem, List.not_mem_nil, or_false, not_or]; omega)
      have hSN := hSN_1
      have hk := hk.trans (k1.mono (by intro q9 hq9; simp only [List.mem_cons, rg_mem, List.not_mem_nil, or_false, not_or] at hq9 ⊢; omega))
      have G1_0 := k1.2 qz _ (by simp only [List.mem_cons, rg_mem, List.not_mem_nil, or_false, not_or]; omega) L6_0
      have G1_1 := k1.2 qs _ (by simp only [List.mem_cons, rg_mem, List.not_mem_nil, or_false, not_or]; omega) L6_1
      have G1_2 := k1.2 qf _ (by simp only [List.mem_cons, rg_mem, List.not_mem_nil, or_false, not_or]; omega) L6_2
      subst e_r17
      refine lv_iadd hx hb dX7_blow_20 ?_
      refine W.eq (g2 := F0 m 21 ls [.int ((hsS stg sup (hgS fa (-1) nf).1 (hgS fa (-1) nf).2 wd sn (i + 1)).1)]) (congrArg (fun z9 : Int32 => F0 m 21 ls [.int z9]) (show (((hsS stg sup (hgS fa (-1) nf).1 (hgS fa (-1) nf).2 wd sn i).1) + ((hrS stg sup (hgS fa (-1) nf).1 (hgS fa (-1) nf).2 wd ((hsS stg sup (hgS fa (-1) nf).1 (hgS fa (-1) nf).2 wd sn i).2.1) 20).1) : Int32) = (hsS stg sup (hgS fa (-1) nf).1 (hgS fa (-1) nf).2 wd sn (i + 1)).1 from hsS_1)) ?_
      refine lv_istore (lv' := [(4, .int ((hsS stg sup (hgS fa (-1) nf).1 (hgS fa (-1) nf).2 wd sn (i + 1)).1)), (5, .int (nI i)), (0, .ref z), (1, .int wd), (2, .int stg), (3, .int (nI n))]) hx hb dX7_blow_21 hl (by decide) rfl (fun ls hl => ?_)
      refine lv_iinc (v := nI (i + 1)) (lv' := [(5, .int (nI (i + 1))), (4, .int ((hsS stg sup (hgS fa (-1) nf).1 (hgS fa (-1) nf).2 wd sn (i + 1)).1)), (0, .ref z), (1, .int wd), (2, .int stg), (3, .int (nI n))]) hx hb dX7_blow_23 hl (k := 1) rfl (nI_1 i) (by decide) rfl (fun ls hl => ?_)
      refine lv_goto (tgt := 6) hx hb dX7_blow_26 (by decide) ?_
      refine W.widen (k := (1660 * (i + 1))) (n := (3200 * (i + 1))) (by omega) (by omega) ?_
      exact ih_6 (i + 1) (by omega) _ _ _ _ hk G1_0 G1_1 G1_2 hSE (hSN.congr (fun j9 hj9 => congrFun hsS_2 j9)) J (lv_sub hl [0, 1, 2, 3, 4, 5] rfl)
  exact loop_6 n 0 (by omega) _ _ _ _ hk Fa0 Fa1 Fa2 hSE hSN J (lv_sub hl [0, 1, 2, 3, 4, 5] rfl)
set_option maxHeartbeats 400000 in
set_option maxRecDepth 100000 in
theorem cX7_blow_24_ok (l : Launch) (E : zG) {ws : va_W} {qz z fe ro sa : Nat} {lim sup off plo hrs : Int32} {qs b : Nat} {gs : Nat → Option Nat} {sn : Nat → Int32} {qf nf : Nat} {g : Nat → Option Nat} {fa : Nat → Int32} {wd stg : Int32} {n : Nat} (Fa0 : ws[qz]? = some (z, .inr (8, [.ref fe, .ref ro, .ref sa, .int lim, .int sup, .int off, .int plo, .int hrs]))) (Fa1 : ws[qs]? = some (sa, zA4 E 20 gs)) (Fa2 : ws[qf]? = some (fe, zA4 E nf g)) (hSN : SN E ws b gs sn) (hSE : SE E ws g nf fa) (hnf : nf ≤ 11) (hok : ∀ j, j < nf → okF fa j) (hwd : wd = 0 ∨ wd = 1 ∨ wd = 2 ∨ wd = 3) (hRB : RB 200 sn) (hs9 : BI 1 9 stg) (hu9 : BI 0 40 sup) (hn9 : n ≤ 24) : Met l yX7_blow wsX7_blow ({ frames := 3, cells := 39840, slots := 76800, locals := 75 } : Room) (va_Pc [.ref z, .int wd, .int stg, .int (nI n)] (zI E ws)) (va_Qi (fun (r : Int32) (ws' : va_W) => (zK (qz :: rg b) ws ws') ∧ (ws'[qz]? = some (z, .inr (8, [.ref fe, .ref ro, .ref sa, .int lim, .int sup, .int (off + (hsS stg sup (hgS fa (-1) nf).1 (hgS fa (-1) nf).2 wd sn n).1), .int plo, .int (hrs + nI n)]))) ∧ (SN E ws' b gs (hsS stg sup (hgS fa (-1) nf).1 (hgS fa (-1) nf).2 wd sn n).2.1) ∧ (r = (hsS stg sup (hgS fa (-1) nf).1 (hgS fa (-1) nf).2 wd sn n).1)) (zI E) (zA E)) 39840 76800 (zA E) := by
  refine Met.ofW (cc := cX7_blow) (maxL := 6) (ret := (some .int)) (by decide) rfl ?_
  intro p e s m args below meth c s₁ B hml hv
  obtain ⟨hargs9, hI⟩ := hv
  have hx := B.exec
  have hb := B.bytes
  have hr := B.returns
  have hlocks := B.notSynchronized
  have X : zC E p m c cX7_blow 6 s args wsX7_blow RX7 := z_open B hml hI
  have hown := X.1.2.2.2.1
  have hts := X.1.2.2.2.2
  have J := hI.J
  have hi_X7 : ∀ w ∈ wsX70, w ∈ wsX7_blow := by decide +kernel
  have n0_1 : qz ≠ qs := zneK Fa0 Fa1 rfl
  have n0_2 : qz ≠ qf := zneK Fa0 Fa2 rfl
  have hk : zK (qz :: rg b) ws ws := zK.rf
  have hl := lv_entry ([.ref z, .int wd, .int stg, .int (nI n)]) (n := 6) (Nat.le_of_ble_eq_true rfl)
  rw [show entryFrame m args 6 = entryFrame m ([.ref z, .int wd, .int stg, .int (nI n)] : List Value).toArray 6 from by rw [hargs9], lg_entry_eq]
  generalize (lg_sl ([.ref z, .int wd, .int stg, .int (nI n)]) ++ List.replicate (6 - (lg_sl ([.ref z, .int wd, .int stg, .int (nI n)])).length) Slot.unset).toArray = ls at hl ⊢
  have hl : lv_has ls 6 [(0, .ref z), (1, .int wd), (2, .int stg), (3, .int (nI n))] := hl
  have hbl := hSN.len
  have hb0 := hSN.no Fa0 rfl
  have hb1 := hSN.no Fa1 rfl
  have hb2 := hSN.no Fa2 rfl
  have hhR := hgS_RB (wo := -1) nf hok
  generalize hQ : (MQ below (va_Qi (fun (r : Int32) (ws' : va_W) => (zK (qz :: rg b) ws ws') ∧ (ws'[qz]? = some (z, .inr (8, [.ref fe, .ref ro, .ref sa, .int lim, .int sup, .int (off + (hsS stg sup (hgS fa (-1) nf).1 (hgS fa (-1) nf).2 wd sn n).1), .int plo, .int (hrs + nI n)]))) ∧ (SN E ws' b gs (hsS stg sup (hgS fa (-1) nf).1 (hgS fa (-1) nf).2 wd sn n).2.1) ∧ (r = (hsS stg sup (hgS fa (-1) nf).1 (hgS fa (-1) nf).2 wd sn n).1)) (zI E) (zA E)) args s 39840 76800 (zA E)) = QQ
  refine lv_iconst (v := (hsS stg sup (hgS fa (-1) nf).1 (hgS fa (-1) nf).2 wd sn 0).1) hx hb dX7_blow_0 rfl ?_
  refine lv_istore (lv' := [(4, .int ((hsS stg sup (hgS fa (-1) nf).1 (hgS fa (-1) nf).2 wd sn 0).1)), (0, .ref z), (1, .int wd), (2, .int stg), (3, .int (nI n))]) hx hb dX7_blow_1 hl (by decide) rfl (fun ls hl => ?_)
  refine lv_iconst (v := nI 0) hx hb dX7_blow_3 rfl ?_
  refine lv_istore (lv' := [(5, .int (nI 0)), (4, .int ((hsS stg sup (hgS fa (-1) nf).1 (hgS fa (-1) nf).2 wd sn 0).1)), (0, .ref z), (1, .int wd), (2, .int stg), (3, .int (nI n))]) hx hb dX7_blow_4 hl (by decide) rfl (fun ls hl => ?_)
  have loop_6 : ∀ (k9 i : Nat), i + k9 = n → ∀ (wl6 : va_W) (H : Heap) (locs : List Loc) (ls : Array Slot), zK (qz :: rg b) ws wl6 → wl6[qz]? = some (z, .inr (8, [.ref fe, .ref ro, .ref sa, .int lim, .int sup, .int off, .int plo, .int hrs])) → wl6[qs]? = some (sa, zA4 E 20 gs) → wl6[qf]? = some (fe, zA4 E nf g) → SE E wl6 g nf fa → SN E wl6 b gs (hsS stg sup (hgS fa (-1) nf).1 (hgS fa (-1) nf).2 wd sn i).2.1 → zJ E wl6 s H locs → lv_has ls 6 [(5, .int (nI i)), (4, .int ((hsS stg sup (hgS fa (-1) nf).1 (hgS fa (-1) nf).2 wd sn i).1)), (0, .ref z), (1, .int wd), (2, .int stg), (3, .int (nI n))] → W p l e (headSpec wsX7_blow ({ frames := 3, cells := 39840, slots := 76800, locals := 75 } : Room)).room s m args below meth c H locs (1660 * i) (3200 * i) QQ (F0 m 6 ls []) := by
    intro k9
    induction k9 with
    | zero =>
      intro i hik wl6 H locs ls hk L6_0 L6_1 L6_2 hSE hSN J hl
      obtain rfl : n = i := by omega
      refine lv_iload hx hb dX7_blow_6 (lv_at hl 0 rfl) ?_
      refine lv_iload_n hx hb dX7_blow_8 rfl (lv_at hl 5 rfl) ?_
      refine lv_icmp_ge (tgt := 29) hx hb dX7_blow_9 (by decide) (fun cz9 => ?_) (fun cz9 => by exact (cz9 (nI_le (Nat.le_refl _) (by omega))).elim)
      refine lv_aload_n hx hb dX7_blow_29 rfl (lv_at hl 2 rfl) ?_
      refine lv_dup hx hb dX7_blow_30 rfl ?_
      refine z_get (C := RX7) (T := TX7) (N := 8) (ci := 8) (v := .int off) X J hi_X7 qz L6_0 rfl 5 (by decide) (by decide +kernel) rfl dX7_blow_31 ?_
      refine lv_iload hx hb dX7_blow_34 (lv_at hl 1 rfl) ?_
      refine lv_iadd hx hb dX7_blow_36 ?_
      refine z_put (C := RX7) (T := TX7) (N := 8) (ci := 8) (v := .int (off + ((hsS stg sup (hgS fa (-1) nf).1 (hgS fa (-1) nf).2 wd sn n).1))) X J hi_X7 tyX7 tyX7_ok nmX7 qz L6_0 rfl 5 (by decide) (by decide +kernel) rfl rfl rfl (Nat.le_of_ble_eq_true rfl) dX7_blow_37 (fun H locs J => ?_)
      have J : zJ E (wl6.set qz (z, .inr (8, [.ref fe, .ref ro, .ref sa, .int lim, .int sup, .int (off + ((hsS stg sup (hgS fa (-1) nf).1 (hgS fa (-1) nf).2 wd sn n).1)), .int plo, .int hrs]))) s H locs := J
      have hSE := hSE.keep (zK.set (S := [qz]) (ws := wl6) (q := qz) (e := (z, .inr (8, [.ref fe, .ref ro, .ref sa, .int lim, .int sup, .int (off + ((hsS stg sup (hgS fa (-1) nf).1 (hgS fa (-1) nf).2 wd sn n).1)), .int plo, .int hrs]))) (List.mem_singleton.mpr rfl)) (fun q9 a9 f9 h8 h9 => by have z9_0 := zneK h9 L6_0 rfl; simp only [List.mem_cons, rg_mem, List.not_mem_nil, or_false, not_or]; omega)
      have hSN := hSN.keep (zK.set (S := [qz]) (ws := wl6) (q := qz) (e := (z, .inr (8, [.ref fe, .ref ro, .ref sa, .int lim, .int sup, .int (off + ((hsS stg sup (hgS fa (-1) nf).1 (hgS fa (-1) nf).2 wd sn n).1)), .int plo, .int hrs]))) (List.mem_singleton.mpr rfl)) (fun r9 hr9 => by simp only [List.mem_cons, rg_mem, List.not_mem_nil, or_false, not_or]; omega)
      have hk := hk.trans (zK.set (ws := wl6) (q := qz) (e := (z, .inr (8, [.ref fe, .ref ro, .ref sa, .int lim, .int sup, .int (off + ((hsS stg sup (hgS fa (-1) nf).1 (hgS fa (-1) nf).2 wd sn n).1)), .int plo, .int hrs]))) (by simp))
      have G1_0 := zset_eq (e' := (z, .inr (8, [.ref fe, .ref ro, .ref sa, .int lim, .int sup, .int (off + ((hsS stg sup (hgS fa (-1) nf).1 (hgS fa (-1) nf).2 wd sn n).1)), .int plo, .int hrs]))) L6_0
      have G1_1 := zset_ne (q := qz) (e' := (z, .inr (8, [.ref fe, .ref ro, .ref sa, .int lim, .int sup, .int (off + ((hsS stg sup (hgS fa (-1) nf).1 (hgS fa (-1) nf).2 wd sn n).1)), .int plo, .int hrs]))) (by omega) L6_1
      have G1_2 := zset_ne (q := qz) (e' := (z, .inr (8, [.ref fe, .ref ro, .ref sa, .int lim, .int sup, .int (off + ((hsS stg sup (hgS fa (-1) nf).1 (hgS fa (-1) nf).2 wd sn n).1)), .int plo, .int hrs]))) (by omega) L6_2
      generalize hws1 : (wl6.set qz (z, .inr (8, [.ref fe, .ref ro, .ref sa, .int lim, .int sup, .int (off + ((hsS stg sup (hgS fa (-1) nf).1 (hgS fa (-1) nf).2 wd sn n).1)), .int plo, .int hrs]))) = ws_1 at J hk G1_0 G1_1 G1_2 hSE hSN
      refine lv_aload_n hx hb dX7_blow_40 rfl (lv_at hl 2 rfl) ?_
      refine lv_dup hx hb dX7_blow_41 rfl ?_
      refine z_get (C := RX7) (T := TX7) (N := 8) (ci := 8) (v := .int hrs) X J hi_X7 qz G1_0 rfl 7 (by decide) (by decide +kernel) rfl dX7_blow_42 ?_
      refine lv_iload_n hx hb dX7_blow_45 rfl (lv_at hl 5 rfl) ?_
      refine lv_iadd hx hb dX7_blow_46 ?_
      refine z_put (C := RX7) (T := TX7) (N := 8) (ci := 8) (v := .int (hrs + (nI n))) X J hi_X7 tyX7 tyX7_ok nmX7 qz G1_0 rfl 7 (by decide) (by decide +kernel) rfl rfl rfl (Nat.le_of_ble_eq_true rfl) dX7_blow_47 (fun H locs J => ?_)
      have J : zJ E (ws_1.set qz (z, .inr (8, [.ref fe, .ref ro, .ref sa, .int lim, .int sup, .int (off + ((hsS stg sup (hgS fa (-1) nf).1 (hgS fa (-1) nf).2 wd sn n).1)), .int plo, .int (hrs + (nI n))]))) s H locs := J
      have hSE := hSE.keep (zK.set (S := [qz]) (ws := ws_1) (q := qz) (e := (z, .inr (8, [.ref fe, .ref ro, .ref sa, .int lim, .int sup, .int (off + ((hsS stg sup (hgS fa (-1) nf).1 (hgS fa (-1) nf).2 wd sn n).1)), .int plo, .int (hrs + (nI n))]))) (List.mem_singleton.mpr rfl)) (fun q9 a9 f9 h8 h9 => by have z9_0 := zneK h9 G1_0 rfl; simp only [List.mem_cons, rg_mem, List.not_mem_nil, or_false, not_or]; omega)
      have hSN := hSN.keep (zK.set (S := [qz]) (ws := ws_1) (q := qz) (e := (z, .inr (8, [.ref fe, .ref ro, .ref sa, .int lim, .int sup, .int (off + ((hsS stg sup (hgS fa (-1) nf).1 (hgS fa (-1) nf).2 wd sn n).1)), .int plo, .int (hrs + (nI n))]))) (List.mem_singleton.mpr rfl)) (fun r9 hr9 => by simp only [List.mem_cons, rg_mem, List.not_mem_nil, or_false, not_or]; omega)
      have hk := hk.trans (zK.set (ws := ws_1) (q := qz) (e := (z, .inr (8, [.ref fe, .ref ro, .ref sa, .int lim, .int sup, .int (off + ((hsS stg sup (hgS fa (-1) nf).1 (hgS fa (-1) nf).2 wd sn n).1)), .int plo, .int (hrs + (nI n))]))) (by simp))
      have G2_0 := zset_eq (e' := (z, .inr (8, [.ref fe, .ref ro, .ref sa, .int lim, .int sup, .int (off + ((hsS stg sup (hgS fa (-1) nf).1 (hgS fa (-1) nf).2 wd sn n).1)), .int plo, .int (hrs + (nI n))]))) G1_0
      have G2_1 := zset_ne (q := qz) (e' := (z, .inr (8, [.ref fe, .ref ro, .ref sa, .int lim, .int sup, .int (off + ((hsS stg sup (hgS fa (-1) nf).1 (hgS fa (-1) nf).2 wd sn n).1)), .int plo, .int (hrs + (nI n))]))) (by omega) G1_1
      have G2_2 := zset_ne (q := qz) (e' := (z, .inr (8, [.ref fe, .ref ro, .ref sa, .int lim, .int sup, .int (off + ((hsS stg sup (hgS fa (-1) nf).1 (hgS fa (-1) nf).2 wd sn n).1)), .int plo, .int (hrs + (nI n))]))) (by omega) G1_2
      generalize hws2 : (ws_1.set qz (z, .inr (8, [.ref fe, .ref ro, .ref sa, .int lim, .int sup, .int (off + ((hsS stg sup (hgS fa (-1) nf).1 (hgS fa (-1) nf).2 wd sn n).1)), .int plo, .int (hrs + (nI n))]))) = ws_2 at J hk G2_0 G2_1 G2_2 hSE hSN
      refine lv_iload hx hb dX7_blow_50 (lv_at hl 1 rfl) ?_
      refine W.widen (k := 39840) (n := 76800) (by omega) (by omega) ?_
      subst hQ
      exact W.iret (v := (hsS stg sup (hgS fa (-1) nf).1 (hgS fa (-1) nf).2 wd sn n).1) hx hb hr (fun t ht hW => ⟨⟨(hsS stg sup (hgS fa (-1) nf).1 (hgS fa (-1) nf).2 wd sn n).1, ws_2, rfl, ⟨hk, G2_0, hSN, rfl⟩, J.I X ht hW.alike⟩, J.F ht⟩) J.locs dX7_blow_52
    | succ k9 ih_6 =>
      intro i hik wl6 H locs ls hk L6_0 L6_1 L6_2 hSE hSN J hl
      refine lv_iload hx hb dX7_blow_6 (lv_at hl 0 rfl) ?_
      refine lv_iload_n hx hb dX7_blow_8 rfl (lv_at hl 5 rfl) ?_
      refine lv_icmp_ge (tgt := 29) hx hb dX7_blow_9 (by decide) (fun cz9 => by exact (nI_ge (by omega) (by omega) cz9).elim) (fun cz9 => ?_)
      refine lv_iload hx hb dX7_blow_12 (lv_at hl 1 rfl) ?_
      refine lv_aload_n hx hb dX7_blow_14 rfl (lv_at hl 2 rfl) ?_
      refine lv_iload_n hx hb dX7_blow_15 rfl (lv_at hl 3 rfl) ?_
      refine lv_iload_n hx hb dX7_blow_16 rfl (lv_at hl 4 rfl) ?_
      refine z_ci J (z_rV (As := [.int wd, .int stg]) (rest := [.int ((hsS stg sup (hgS fa (-1) nf).1 (hgS fa (-1) nf).2 wd sn i).1)]) (ci := 8) (q0 := qz) X J (cX7_hour_ok l E L6_0 L6_1 L6_2 hSN hSE (by first | assumption | omega | decide) (by first | assumption | omega | decide) (by first | assumption | omega | decide) (hsS_I hs9 hu9 hhR hRB i) (by first | assumption | omega | decide) (by first | assumption | omega | decide)) (cwV 2 hts gX7_blow_X7_hour rfl rfl rfl (by decide +kernel) ⟨Nat.le_of_ble_eq_true rfl, Nat.le_of_ble_eq_true rfl⟩) L6_0 rfl rfl rfl hl.1 rfl (Nat.le_of_ble_eq_true rfl) dX7_blow_17 ⟨by show _ ≤ 39840; omega, by show _ ≤ 76800; omega⟩) (fun r17 ws_1 H locs hp9 J => ?_)
      obtain ⟨k1, hSN_1, e_r17⟩ := hp9
      have hSE := hSE.keep k1 (fun q9 a9 f9 h8 h9 => by have z9_0 := hSN.noL h9 (by decide); simp only [List.mem_cons, rg_mem, List.not_mem_nil, or_false, not_or]; omega)
      have hSN := hSN_1
      have hk := hk.trans (k1.mono (by intro q9 hq9; simp only [List.mem_cons, rg_mem, List.not_mem_nil, or_false, not_or] at hq9 ⊢; omega))
      have G1_0 := k1.2 qz _ (by simp only [List.mem_cons, rg_mem, List.not_mem_nil, or_false, not_or]; omega) L6_0
      have G1_1 := k1.2 qs _ (by simp only [List.mem_cons, rg_mem, List.not_mem_nil, or_false, not_or]; omega) L6_1
      have G1_2 := k1.2 qf _ (by simp only [List.mem_cons, rg_mem, List.not_mem_nil, or_false, not_or]; omega) L6_2
      subst e_r17
      refine lv_iadd hx hb dX7_blow_20 ?_
      refine W.eq (g2 := F0 m 21 ls [.int ((hsS stg sup (hgS fa (-1) nf).1 (hgS fa (-1) nf).2 wd sn (i + 1)).1)]) (congrArg (fun z9 : Int32 => F0 m 21 ls [.int z9]) (show (((hsS stg sup (hgS fa (-1) nf).1 (hgS fa (-1) nf).2 wd sn i).1) + ((hrS stg sup (hgS fa (-1) nf).1 (hgS fa (-1) nf).2 wd ((hsS stg sup (hgS fa (-1) nf).1 (hgS fa (-1) nf).2 wd sn i).2.1) 20).1) : Int32) = (hsS stg sup (hgS fa (-1) nf).1 (hgS fa (-1) nf).2 wd sn (i + 1)).1 from hsS_1)) ?_
      refine lv_istore (lv' := [(4, .int ((hsS stg sup (hgS fa (-1) nf).1 (hgS fa (-1) nf).2 wd sn (i + 1)).1)), (5, .int (nI i)), (0, .ref z), (1, .int wd), (2, .int stg), (3, .int (nI n))]) hx hb dX7_blow_21 hl (by decide) rfl (fun ls hl => ?_)
      refine lv_iinc (v := nI (i + 1)) (lv' := [(5, .int (nI (i + 1))), (4, .int ((hsS stg sup (hgS fa (-1) nf).1 (hgS fa (-1) nf).2 wd sn (i + 1)).1)), (0, .ref z), (1, .int wd), (2, .int stg), (3, .int (nI n))]) hx hb dX7_blow_23 hl (k := 1) rfl (nI_1 i) (by decide) rfl (fun ls hl => ?_)
      refine lv_goto (tgt := 6) hx hb dX7_blow_26 (by decide) ?_
      refine W.widen (k := (1660 * (i + 1))) (n := (3200 * (i + 1))) (by omega) (by omega) ?_
      exact ih_6 (i + 1) (by omega) _ _ _ _ hk G1_0 G1_1 G1_2 hSE (hSN.congr (fun j9 hj9 => congrFun hsS_2 j9)) J (lv_sub hl [0, 1, 2, 3, 4, 5] rfl)
  exact loop_6 n 0 (by omega) _ _ _ _ hk Fa0 Fa1 Fa2 hSE hSN J (lv_sub hl [0, 1, 2, 3, 4, 5] rfl)
