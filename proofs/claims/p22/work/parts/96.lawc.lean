set_option maxHeartbeats 4000000 in
set_option maxRecDepth 100000 in
theorem law_c {p : Program} {l : Launch} (hflags : l.flags = flags0) {e : Env} {s : State} {m : MethodId} {below : List Frame} {meth : Method} {c : Code} (E : zG) (X : zC E p m c cL_law 30 s #[.ref E.2.2.2.2.1] wsL_law2 RL) (hRz : zR s) (hE1 : ¬ zA E E.2.2.1) (hL : E.2.2.2.2.2.1 ≤ 260) {QQ : State → Prop} {ws : va_W} {x fl rl wh gr gra tr tra sc ha va z sa : Nat} {gs : Nat → Option Nat} {mc1 mc2 lim sup off plo hrs : Int32} {ea eb nf nr fe qf ro qr : Nat} {fa rd ri sn t9 hf gf : Nat → Int32} {g gq : Nat → Option Nat} {t : Nat} {xv : Int32} {wd sg hh : Nat} {cells slots : Nat} {H : Heap} {locs : List Loc} {ls : Array Slot} (hwd4 : wd < 4) (hsg1 : 1 ≤ sg) (hsg9 : sg ≤ 9) (hhh1 : 1 ≤ hh) (hhh6 : hh ≤ 6) (hX : LX E x fl rl wh gr gra tr tra sc ha va z sa gs mc1 mc2 lim sup off plo hrs ea eb nf nr fe qf ro qr fa rd ri sn t9 hf gf g gq ws) (J : zJ E ws s H locs) (hl : lv_has ls 30 [(0, .ref E.2.2.2.2.1), (1, .ref x), (2, .ref z), (3, .int (nI t)), (4, .int xv), (5, .int (nI wd)), (6, .int (nI sg)), (7, .int (nI hh)), (8, .int sup), (9, .int (sumA sn)), (10, .int off), (11, .int (hmS fa nf))]) (hc9 : cells + 2430 ≤ 1106048) (hs9 : slots + 16500 ≤ 5783625)
    (kk : ∀ (ba : Nat) (pb : Nat) (gb : Nat → Option Nat) (ws' : va_W) (H' : Heap) (locs' : List Loc) (ls' : Array Slot), LX E x fl rl wh gr gra tr tra sc ha va z sa gs mc1 mc2 lim sup off plo hrs ea eb nf nr fe qf ro qr fa rd ri sn t9 hf gf g gq ws' → (35 ≤ pb) → (ws'[pb]? = some (ba, zA4 E 20 gb)) → (SN E ws' (pb + 1) gb (fun j => sn (colC j))) → zJ E ws' s H' locs' → lv_has ls' 30 [(0, .ref E.2.2.2.2.1), (1, .ref x), (2, .ref z), (3, .int (nI t)), (4, .int xv), (5, .int (nI wd)), (6, .int (nI sg)), (7, .int (nI hh)), (8, .int sup), (9, .int (sumA sn)), (10, .int off), (11, .int (hmS fa nf)), (12, .ref ba)] → W p l e room_1 s m #[.ref E.2.2.2.2.1] below meth c H' locs' (cells + 2430) (slots + 16500) QQ (F0 m 208 ls' [])) :
    W p l e room_1 s m #[.ref E.2.2.2.2.1] below meth c H locs cells slots QQ (F0 m 150 ls []) := by
  obtain ⟨Fa0, Fa1, Fa2, Fa3, Fa4, Fa5, Fa6, Fa7, Fa8, Fa9, Fa10, Fa11, Fa12, Fa13, Fa14, hql, hF, hR, hSep, hSE, hSR, hSN, hnf, hnr, hok, hor, hRB, hu9, hlm, hln⟩ := hX
  obtain ⟨hqf, hqr⟩ := hql
  have hbl := hSN.len
  have bq13 := zlt Fa13
  have bq14 := zlt Fa14
  have nr13 := hSN.no Fa13 rfl
  have nr14 := hSN.no Fa14 rfl
  have hhR := hgS_RB (wo := -1) nf hok
  have hx := X.1.1
  have hb := X.1.2.1
  have hown := X.1.2.2.2.1
  have hts := X.1.2.2.2.2
  have hk : zKi E ws ws := zKi.rf
  refine lv_bipush (v := 20) hx hb dL_law_150 (by decide) ?_
  refine lv_bipush (v := 20) hx hb dL_law_152 (by decide) ?_
  refine z_multi X J (by decide +kernel) (by decide +kernel) (by show _ ≤ 1106048; omega) (by show _ ≤ 5783625; omega) dL_law_154 (fun q154 ra154 ws_1 H hlen9 k9 hq9 hr9 J => ?_)
  have hF := hF.keepS k9 (fun q9 hq9 => absurd hq9 List.not_mem_nil)
  have hR := hR.keepS k9 (fun q9 hq9 => absurd hq9 List.not_mem_nil)
  have hSN := hSN.keep k9 (fun _ _ => List.not_mem_nil)
  have hk := hk.step k9 (fun _ _ _ _ _ _ _ => List.not_mem_nil)
  have G1_0 := k9.2 0 _ List.not_mem_nil Fa0
  have G1_1 := k9.2 1 _ List.not_mem_nil Fa1
  have G1_2 := k9.2 2 _ List.not_mem_nil Fa2
  have G1_3 := k9.2 3 _ List.not_mem_nil Fa3
  have G1_4 := k9.2 4 _ List.not_mem_nil Fa4
  have G1_5 := k9.2 5 _ List.not_mem_nil Fa5
  have G1_6 := k9.2 6 _ List.not_mem_nil Fa6
  have G1_7 := k9.2 7 _ List.not_mem_nil Fa7
  have G1_8 := k9.2 8 _ List.not_mem_nil Fa8
  have G1_9 := k9.2 9 _ List.not_mem_nil Fa9
  have G1_10 := k9.2 10 _ List.not_mem_nil Fa10
  have G1_11 := k9.2 11 _ List.not_mem_nil Fa11
  have G1_12 := k9.2 14 _ List.not_mem_nil Fa12
  have G1_13 := k9.2 qf _ List.not_mem_nil Fa13
  have G1_14 := k9.2 qr _ List.not_mem_nil Fa14
  have lp1 := hk.1
  have bw1_0 := zlt (ws := ws_1) G1_0
  have bw1_1 := zlt (ws := ws_1) G1_1
  have bw1_2 := zlt (ws := ws_1) G1_2
  have bw1_3 := zlt (ws := ws_1) G1_3
  have bw1_4 := zlt (ws := ws_1) G1_4
  have bw1_5 := zlt (ws := ws_1) G1_5
  have bw1_6 := zlt (ws := ws_1) G1_6
  have bw1_7 := zlt (ws := ws_1) G1_7
  have bw1_8 := zlt (ws := ws_1) G1_8
  have bw1_9 := zlt (ws := ws_1) G1_9
  have bw1_10 := zlt (ws := ws_1) G1_10
  have bw1_11 := zlt (ws := ws_1) G1_11
  have bw1_12 := zlt (ws := ws_1) G1_12
  have bw1_13 := zlt (ws := ws_1) G1_13
  have bw1_14 := zlt (ws := ws_1) G1_14
  generalize hpn1 : ws.length = pn_1 at hq9 hr9 hlen9
  have hq1 := hq9
  have hr1 := hr9
  have hpb35 : 35 ≤ pn_1 := by omega
  have hB : SN E ws_1 (pn_1 + 1) (fun j => if j < 20 then some (ra154 j) else none) (bfC sn (20 * 0)) := (SN.of (fun r9 hr8 => hr1 r9 hr8)).congr (fun j9 hj9 => bfC_0)
  refine lv_astore (lv' := [(12, .ref q154), (0, .ref E.2.2.2.2.1), (1, .ref x), (2, .ref z), (3, .int (nI t)), (4, .int xv), (5, .int (nI wd)), (6, .int (nI sg)), (7, .int (nI hh)), (8, .int sup), (9, .int (sumA sn)), (10, .int off), (11, .int (hmS fa nf))]) hx hb dL_law_158 hl (by decide) rfl (fun ls hl => ?_)
  refine lv_iconst (v := nI 0) hx hb dL_law_160 rfl ?_
  refine lv_istore (lv' := [(13, .int (nI 0)), (12, .ref q154), (0, .ref E.2.2.2.2.1), (1, .ref x), (2, .ref z), (3, .int (nI t)), (4, .int xv), (5, .int (nI wd)), (6, .int (nI sg)), (7, .int (nI hh)), (8, .int sup), (9, .int (sumA sn)), (10, .int off), (11, .int (hmS fa nf))]) hx hb dL_law_161 hl (by decide) rfl (fun ls hl => ?_)
  have loop_163 : ∀ (k9 cu : Nat), cu + k9 = 20 → ∀ (wl163 : va_W) (H : Heap) (locs : List Loc) (ls : Array Slot), zKi E ws wl163 → wl163[0]? = some (x, .inr (7, [.ref fl, .ref rl, .ref wh, .ref gr, .ref tr, .ref sc, .int lim, .int sup, .int off, .int plo, .int hrs])) → wl163[1]? = some (fl, .inr (0, [.int mc1, .ref ea, .int (nI nf)])) → wl163[2]? = some (rl, .inr (0, [.int mc2, .ref eb, .int (nI nr)])) → wl163[3]? = some (wh, .inr (5, [.int (0 * 20 + 0), .int (nI 400), .int 0])) → wl163[4]? = some (gr, .inr (2, [.ref gra])) → wl163[5]? = some (gra, zI4 E 400 sn) → wl163[6]? = some (tr, .inr (2, [.ref tra])) → wl163[7]? = some (tra, zI4 E 400 t9) → wl163[8]? = some (sc, .inr (4, [.ref ha, .ref va])) → wl163[9]? = some (ha, zI4 E 400 hf) → wl163[10]? = some (va, zI4 E 400 gf) → wl163[11]? = some (z, .inr (8, [.ref fe, .ref ro, .ref sa, .int lim, .int sup, .int off, .int plo, .int hrs])) → wl163[14]? = some (sa, zA4 E 20 gs) → wl163[qf]? = some (fe, zA4 E nf g) → wl163[qr]? = some (ro, zA4 E nr gq) → wl163[pn_1]? = some (q154, zA4 E 20 (fun j => if j < 20 then some (ra154 j) else none)) → FS E wl163 fa ea nf → RS E wl163 rd ri eb nr → SN E wl163 15 gs sn → SN E wl163 (pn_1 + 1) (fun j => if j < 20 then some (ra154 j) else none) (bfC sn (20 * cu)) → zJ E wl163 s H locs → lv_has ls 30 [(13, .int (nI cu)), (12, .ref q154), (0, .ref E.2.2.2.2.1), (1, .ref x), (2, .ref z), (3, .int (nI t)), (4, .int xv), (5, .int (nI wd)), (6, .int (nI sg)), (7, .int (nI hh)), (8, .int sup), (9, .int (sumA sn)), (10, .int off), (11, .int (hmS fa nf))] → W p l e room_1 s m #[.ref E.2.2.2.2.1] below meth c H locs (cells + 21 + 120 * cu) (slots + 420 + 800 * cu) QQ (F0 m 163 ls []) := by
    intro k9
    induction k9 with
    | zero =>
      intro cu hik wl163 H locs ls hk L163_0 L163_1 L163_2 L163_3 L163_4 L163_5 L163_6 L163_7 L163_8 L163_9 L163_10 L163_11 L163_12 L163_13 L163_14 L163_15 hF hR hSN hB J hl
      obtain rfl : 20 = cu := by omega
      refine lv_iload hx hb dL_law_163 (lv_at hl 0 rfl) ?_
      refine lv_bipush (v := nI 20) hx hb dL_law_165 (by decide) ?_
      refine lv_icmp_ge (tgt := 208) hx hb dL_law_167 (by decide) (fun cz167 => ?_) (fun cz167 => by exact (cz167 (nI_le (Nat.le_refl _) (by omega))).elim)
      refine W.widen (k := cells + 2430) (n := slots + 16500) (by omega) (by omega) ?_
      exact kk q154 pn_1 (fun j => if j < 20 then some (ra154 j) else none) _ H locs _ ⟨L163_0, L163_1, L163_2, L163_3, L163_4, L163_5, L163_6, L163_7, L163_8, L163_9, L163_10, L163_11, L163_12, L163_13, L163_14, ⟨by omega, by omega⟩, hF, hR, hSep, (hSE.keepI hk), (hSR.keepI hk), hSN, hnf, hnr, hok, hor, hRB, hu9, hlm, (Nat.le_trans hln hk.1)⟩ hpb35 L163_15 (hB.congr (fun j9 hj9 => bfC_e hj9)) J (lv_sub hl [2, 3, 4, 5, 6, 7, 8, 9, 10, 11, 12, 13, 1] rfl)
    | succ k9 ih_163 =>
      intro cu hik wl163 H locs ls hk L163_0 L163_1 L163_2 L163_3 L163_4 L163_5 L163_6 L163_7 L163_8 L163_9 L163_10 L163_11 L163_12 L163_13 L163_14 L163_15 hF hR hSN hB J hl
      refine lv_iload hx hb dL_law_163 (lv_at hl 0 rfl) ?_
      refine lv_bipush (v := nI 20) hx hb dL_law_165 (by decide) ?_
      refine lv_icmp_ge (tgt := 208) hx hb dL_law_167 (by decide) (fun cz167 => by exact (nI_ge (by omega) (by omega) cz167).elim) (fun cz167 => ?_)
      refine lv_iconst (v := nI 0) hx hb dL_law_170 rfl ?_
      refine lv_istore (lv' := [(14, .int (nI 0)), (13, .int (nI cu)), (12, .ref q154), (0, .ref E.2.2.2.2.1), (1, .ref x), (2, .ref z), (3, .int (nI t)), (4, .int xv), (5, .int (nI wd)), (6, .int (nI sg)), (7, .int (nI hh)), (8, .int sup), (9, .int (sumA sn)), (10, .int off), (11, .int (hmS fa nf))]) hx hb dL_law_171 hl (by decide) rfl (fun ls hl => ?_)
      have loop_173 : ∀ (k9 rv : Nat), rv + k9 = 20 → ∀ (wl173 : va_W) (H : Heap) (locs : List Loc) (ls : Array Slot), zKi E ws wl173 → wl173[0]? = some (x, .inr (7, [.ref fl, .ref rl, .ref wh, .ref gr, .ref tr, .ref sc, .int lim, .int sup, .int off, .int plo, .int hrs])) → wl173[1]? = some (fl, .inr (0, [.int mc1, .ref ea, .int (nI nf)])) → wl173[2]? = some (rl, .inr (0, [.int mc2, .ref eb, .int (nI nr)])) → wl173[3]? = some (wh, .inr (5, [.int (0 * 20 + 0), .int (nI 400), .int 0])) → wl173[4]? = some (gr, .inr (2, [.ref gra])) → wl173[5]? = some (gra, zI4 E 400 sn) → wl173[6]? = some (tr, .inr (2, [.ref tra])) → wl173[7]? = some (tra, zI4 E 400 t9) → wl173[8]? = some (sc, .inr (4, [.ref ha, .ref va])) → wl173[9]? = some (ha, zI4 E 400 hf) → wl173[10]? = some (va, zI4 E 400 gf) → wl173[11]? = some (z, .inr (8, [.ref fe, .ref ro, .ref sa, .int lim, .int sup, .int off, .int plo, .int hrs])) → wl173[14]? = some (sa, zA4 E 20 gs) → wl173[qf]? = some (fe, zA4 E nf g) → wl173[qr]? = some (ro, zA4 E nr gq) → wl173[pn_1]? = some (q154, zA4 E 20 (fun j => if j < 20 then some (ra154 j) else none)) → FS E wl173 fa ea nf → RS E wl173 rd ri eb nr → SN E wl173 15 gs sn → SN E wl173 (pn_1 + 1) (fun j => if j < 20 then some (ra154 j) else none) (bfC sn (20 * cu + rv)) → zJ E wl173 s H locs → lv_has ls 30 [(14, .int (nI rv)), (13, .int (nI cu)), (12, .ref q154), (0, .ref E.2.2.2.2.1), (1, .ref x), (2, .ref z), (3, .int (nI t)), (4, .int xv), (5, .int (nI wd)), (6, .int (nI sg)), (7, .int (nI hh)), (8, .int sup), (9, .int (sumA sn)), (10, .int off), (11, .int (hmS fa nf))] → W p l e room_1 s m #[.ref E.2.2.2.2.1] below meth c H locs (cells + 21 + 120 * cu + 6 * rv) (slots + 420 + 800 * cu + 40 * rv) QQ (F0 m 173 ls []) := by
        intro k9
        induction k9 with
        | zero =>
          intro rv hik wl173 H locs ls hk L173_0 L173_1 L173_2 L173_3 L173_4 L173_5 L173_6 L173_7 L173_8 L173_9 L173_10 L173_11 L173_12 L173_13 L173_14 L173_15 hF hR hSN hB J hl
          obtain rfl : 20 = rv := by omega
          refine lv_iload hx hb dL_law_173 (lv_at hl 0 rfl) ?_
          refine lv_bipush (v := nI 20) hx hb dL_law_175 (by decide) ?_
          refine lv_icmp_ge (tgt := 202) hx hb dL_law_177 (by decide) (fun cz177 => ?_) (fun cz177 => by exact (cz177 (nI_le (Nat.le_refl _) (by omega))).elim)
          refine lv_iinc (v := nI (cu + 1)) (lv' := [(13, .int (nI (cu + 1))), (14, .int (nI 20)), (12, .ref q154), (0, .ref E.2.2.2.2.1), (1, .ref x), (2, .ref z), (3, .int (nI t)), (4, .int xv), (5, .int (nI wd)), (6, .int (nI sg)), (7, .int (nI hh)), (8, .int sup), (9, .int (sumA sn)), (10, .int off), (11, .int (hmS fa nf))]) hx hb dL_law_202 hl (k := 1) rfl (nI_1 cu) (by decide) rfl (fun ls hl => ?_)
          refine lv_goto (tgt := 163) hx hb dL_law_205 (by decide) ?_
          refine W.widen (k := (cells + 21 + 120 * (cu + 1))) (n := (slots + 420 + 800 * (cu + 1))) (by omega) (by omega) ?_
          exact ih_163 (cu + 1) (by omega) _ _ _ _ hk L173_0 L173_1 L173_2 L173_3 L173_4 L173_5 L173_6 L173_7 L173_8 L173_9 L173_10 L173_11 L173_12 L173_13 L173_14 L173_15 hF hR hSN hB J (lv_sub hl [0, 2, 3, 4, 5, 6, 7, 8, 9, 10, 11, 12, 13, 14] rfl)
        | succ k9 ih_173 =>
          intro rv hik wl173 H locs ls hk L173_0 L173_1 L173_2 L173_3 L173_4 L173_5 L173_6 L173_7 L173_8 L173_9 L173_10 L173_11 L173_12 L173_13 L173_14 L173_15 hF hR hSN hB J hl
          refine lv_iload hx hb dL_law_173 (lv_at hl 0 rfl) ?_
          refine lv_bipush (v := nI 20) hx hb dL_law_175 (by decide) ?_
          refine lv_icmp_ge (tgt := 202) hx hb dL_law_177 (by decide) (fun cz177 => by exact (nI_ge (by omega) (by omega) cz177).elim) (fun cz177 => ?_)
          refine lv_aload hx hb dL_law_180 (lv_at hl 2 rfl) ?_
          refine lv_iload hx hb dL_law_182 (lv_at hl 1 rfl) ?_
          obtain ⟨ra, rf, hra, hrc, hrf⟩ := hB cu (by omega)
          refine z_aaldA X J pn_1 L173_15 (vp_in_nI (by omega) (by first | decide | omega)) dL_law_184 ?_
          refine W.eq (g2 := F0 m 185 ls [va_rf ((fun j => if j < 20 then some (ra154 j) else none) cu)]) (congrArg (fun z9 : Option Nat => F0 m 185 ls [va_rf z9]) (show ((fun j => if j < 20 then some (ra154 j) else none) (nI cu).toNatClampNeg : Option Nat) = (fun j => if j < 20 then some (ra154 j) else none) cu from (congrArg (fun j => if j < 20 then some (ra154 j) else none) (nI_clamp (by omega))))) ?_
          refine W.eq (g2 := F0 m 185 ls [.ref ra]) (by rw [show (fun j => if j < 20 then some (ra154 j) else none) cu = some ra from hra]; rfl) ?_
          refine lv_iload hx hb dL_law_185 (lv_at hl 0 rfl) ?_
          refine lv_aload_n hx hb dL_law_187 rfl (lv_at hl 4 rfl) ?_
          refine lv_iload hx hb dL_law_188 (lv_at hl 1 rfl) ?_
          refine lv_iload hx hb dL_law_190 (lv_at hl 0 rfl) ?_
          refine z_xi J (z_yV (As := [.int (nI cu), .int (nI rv)]) (rest := [.int (nI rv), .ref ra]) (ci := 7) (q0 := 0) X hRz J (cX6_snow_ok l hflags E L173_0 L173_4 L173_5) (cwV 2 hts (goodIn_ext3 gL_law_X6_snow) rfl rfl rfl (by decide +kernel) ⟨Nat.le_of_ble_eq_true rfl, Nat.le_of_ble_eq_true rfl⟩) L173_0 rfl rfl rfl hl.1 rfl (Nat.le_of_ble_eq_true rfl) dL_law_192 ⟨by show _ ≤ 1106048; omega, by show _ ≤ 5783625; omega⟩) (fun nm ce q9 H locs hp9 J h1 h2 h3 => ?_) (fun r192 ws_2 H locs hp9 J => ?_)
          · exact False.elim (by exact absurd hp9.1 (by rw [show kSnow (nI cu) (nI rv) = 0 from kSnow_ok (by omega) (by omega)]; decide))
          obtain ⟨rfl, e_r192⟩ := hp9
          refine W.eq (g2 := F0 m 195 ls [.int (sn (colC (20 * cu + rv))), .int (nI rv), .ref ra]) (congrArg (fun z9 : Int32 => F0 m 195 ls [.int z9, .int (nI rv), .ref ra]) (show (r192 : Int32) = sn (colC (20 * cu + rv)) from (e_r192.2.trans ((snow_at (by omega) (by omega)).trans (congrArg sn (colC_at (by omega)).symm))))) ?_
          refine z_iast X J (pn_1 + 1 + cu) hrc (vp_in_nI (by omega) (by first | decide | omega)) dL_law_195 (fun H locs J => ?_)
          rw [show upd rf (nI rv).toNatClampNeg (sn (colC (20 * cu + rv))) = upd rf rv (sn (colC (20 * cu + rv))) from (by rw [nI_clamp (by omega)])] at J
          have hF := hF.keepS (zK.set (S := [(pn_1 + 1 + cu)]) (ws := wl173) (q := (pn_1 + 1 + cu)) (e := (ra, zI4 E 20 (upd rf rv (sn (colC (20 * cu + rv)))))) (List.mem_singleton.mpr rfl)) (fun q9 hq9 => Or.inr ⟨_, _, (List.mem_singleton.mp hq9).symm ▸ hrc, noL_I⟩)
          have hR := hR.keepS (zK.set (S := [(pn_1 + 1 + cu)]) (ws := wl173) (q := (pn_1 + 1 + cu)) (e := (ra, zI4 E 20 (upd rf rv (sn (colC (20 * cu + rv)))))) (List.mem_singleton.mpr rfl)) (fun q9 hq9 => Or.inr ⟨_, _, (List.mem_singleton.mp hq9).symm ▸ hrc, noL_I⟩)
          have hSN := hSN.keep (zK.set (S := [(pn_1 + 1 + cu)]) (ws := wl173) (q := (pn_1 + 1 + cu)) (e := (ra, zI4 E 20 (upd rf rv (sn (colC (20 * cu + rv)))))) (List.mem_singleton.mpr rfl)) (fun r9 hr9 => by simp only [List.mem_cons, rg_mem, List.not_mem_nil, or_false, not_or]; omega)
          have hB := hB.set (r := cu) (c := rv) (v := sn (colC (20 * cu + rv))) (by omega) (by omega) hra hrf
          have hk := hk.step (zK.set (S := [(pn_1 + 1 + cu)]) (ws := wl173) (q := (pn_1 + 1 + cu)) (e := (ra, zI4 E 20 (upd rf rv (sn (colC (20 * cu + rv)))))) (List.mem_singleton.mpr rfl)) (fun q9 a9 n9 f9 h8 h7 h9 => by simp only [List.mem_cons, rg_mem, List.not_mem_nil, or_false, not_or]; omega)
          have G3_0 := zset_ne (q := (pn_1 + 1 + cu)) (e' := (ra, zI4 E 20 (upd rf rv (sn (colC (20 * cu + rv)))))) (by omega) L173_0
          have G3_1 := zset_ne (q := (pn_1 + 1 + cu)) (e' := (ra, zI4 E 20 (upd rf rv (sn (colC (20 * cu + rv)))))) (by omega) L173_1
          have G3_2 := zset_ne (q := (pn_1 + 1 + cu)) (e' := (ra, zI4 E 20 (upd rf rv (sn (colC (20 * cu + rv)))))) (by omega) L173_2
          have G3_3 := zset_ne (q := (pn_1 + 1 + cu)) (e' := (ra, zI4 E 20 (upd rf rv (sn (colC (20 * cu + rv)))))) (by omega) L173_3
          have G3_4 := zset_ne (q := (pn_1 + 1 + cu)) (e' := (ra, zI4 E 20 (upd rf rv (sn (colC (20 * cu + rv)))))) (by omega) L173_4
          have G3_5 := zset_ne (q := (pn_1 + 1 + cu)) (e' := (ra, zI4 E 20 (upd rf rv (sn (colC (20 * cu + rv)))))) (by omega) L173_5
          have G3_6 := zset_ne (q := (pn_1 + 1 + cu)) (e' := (ra, zI4 E 20 (upd rf rv (sn (colC (20 * cu + rv)))))) (by omega) L173_6
          have G3_7 := zset_ne (q := (pn_1 + 1 + cu)) (e' := (ra, zI4 E 20 (upd rf rv (sn (colC (20 * cu + rv)))))) (by omega) L173_7
          have G3_8 := zset_ne (q := (pn_1 + 1 + cu)) (e' := (ra, zI4 E 20 (upd rf rv (sn (colC (20 * cu + rv)))))) (by omega) L173_8
          have G3_9 := zset_ne (q := (pn_1 + 1 + cu)) (e' := (ra, zI4 E 20 (upd rf rv (sn (colC (20 * cu + rv)))))) (by omega) L173_9
          have G3_10 := zset_ne (q := (pn_1 + 1 + cu)) (e' := (ra, zI4 E 20 (upd rf rv (sn (colC (20 * cu + rv)))))) (by omega) L173_10
          have G3_11 := zset_ne (q := (pn_1 + 1 + cu)) (e' := (ra, zI4 E 20 (upd rf rv (sn (colC (20 * cu + rv)))))) (by omega) L173_11
          have G3_12 := zset_ne (q := (pn_1 + 1 + cu)) (e' := (ra, zI4 E 20 (upd rf rv (sn (colC (20 * cu + rv)))))) (by omega) L173_12
          have G3_13 := zset_ne (q := (pn_1 + 1 + cu)) (e' := (ra, zI4 E 20 (upd rf rv (sn (colC (20 * cu + rv)))))) (by omega) L173_13
          have G3_14 := zset_ne (q := (pn_1 + 1 + cu)) (e' := (ra, zI4 E 20 (upd rf rv (sn (colC (20 * cu + rv)))))) (by omega) L173_14
          have G3_15 := zset_ne (q := (pn_1 + 1 + cu)) (e' := (ra, zI4 E 20 (upd rf rv (sn (colC (20 * cu + rv)))))) (by omega) L173_15
          have G3_16 := zset_eq (e' := (ra, zI4 E 20 (upd rf rv (sn (colC (20 * cu + rv)))))) hrc
          generalize hws3 : (wl173.set (pn_1 + 1 + cu) (ra, zI4 E 20 (upd rf rv (sn (colC (20 * cu + rv)))))) = ws_3 at J hk G3_0 G3_1 G3_2 G3_3 G3_4 G3_5 G3_6 G3_7 G3_8 G3_9 G3_10 G3_11 G3_12 G3_13 G3_14 G3_15 G3_16 hF hR hSN hB
          refine lv_iinc (v := nI (rv + 1)) (lv' := [(14, .int (nI (rv + 1))), (13, .int (nI cu)), (12, .ref q154), (0, .ref E.2.2.2.2.1), (1, .ref x), (2, .ref z), (3, .int (nI t)), (4, .int xv), (5, .int (nI wd)), (6, .int (nI sg)), (7, .int (nI hh)), (8, .int sup), (9, .int (sumA sn)), (10, .int off), (11, .int (hmS fa nf))]) hx hb dL_law_196 hl (k := 0) rfl (nI_1 rv) (by decide) rfl (fun ls hl => ?_)
          refine lv_goto (tgt := 173) hx hb dL_law_199 (by decide) ?_
          refine W.widen (k := (cells + 21 + 120 * cu + 6 * (rv + 1))) (n := (slots + 420 + 800 * cu + 40 * (rv + 1))) (by omega) (by omega) ?_
          exact ih_173 (rv + 1) (by omega) _ _ _ _ hk G3_0 G3_1 G3_2 G3_3 G3_4 G3_5 G3_6 G3_7 G3_8 G3_9 G3_10 G3_11 G3_12 G3_13 G3_14 G3_15 hF hR hSN (hB.congr (fun j9 hj9 => congrFun bfC_s j9)) J (lv_sub hl [0, 1, 2, 3, 4, 5, 6, 7, 8, 9, 10, 11, 12, 13, 14] rfl)
      exact loop_173 20 0 (by omega) _ _ _ _ hk L163_0 L163_1 L163_2 L163_3 L163_4 L163_5 L163_6 L163_7 L163_8 L163_9 L163_10 L163_11 L163_12 L163_13 L163_14 L163_15 hF hR hSN hB J (lv_sub hl [0, 1, 2, 3, 4, 5, 6, 7, 8, 9, 10, 11, 12, 13, 14] rfl)
  exact loop_163 20 0 (by omega) _ _ _ _ hk G1_0 G1_1 G1_2 G1_3 G1_4 G1_5 G1_6 G1_7 G1_8 G1_9 G1_10 G1_11 G1_12 G1_13 G1_14 hq1 hF hR hSN hB J (lv_sub hl [0, 1, 2, 3, 4, 5, 6, 7, 8, 9, 10, 11, 12, 13] rfl)
