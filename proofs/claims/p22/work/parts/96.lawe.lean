set_option maxHeartbeats 4000000 in
set_option maxRecDepth 100000 in
theorem law_e {p : Program} {l : Launch} (hflags : l.flags = flags0) {e : Env} {s : State} {m : MethodId} {below : List Frame} {meth : Method} {c : Code} (E : zG) (X : zC E p m c cL_law 30 s #[.ref E.2.2.2.2.1] wsL_law2 RL) (hRz : zR s) (hE1 : ¬ zA E E.2.2.1) (hL : E.2.2.2.2.2.1 ≤ 260) {QQ : State → Prop} {ws : va_W} {x fl rl wh gr gra tr tra sc ha va z sa : Nat} {gs : Nat → Option Nat} {mc1 mc2 lim sup off plo hrs : Int32} {ea eb nf nr fe qf ro qr : Nat} {fa rd ri sn t9 hf gf : Nat → Int32} {g gq : Nat → Option Nat} {t : Nat} {xv : Int32} {wd sg hh : Nat} {ba pb : Nat} {gb : Nat → Option Nat} {s0 : Nat → Int32} {cells slots : Nat} {H : Heap} {locs : List Loc} {ls : Array Slot} (hwd4 : wd < 4) (hsg1 : 1 ≤ sg) (hsg9 : sg ≤ 9) (hhh1 : 1 ≤ hh) (hhh6 : hh ≤ 6) (hpb35 : 35 ≤ pb) (hcell : ∀ y, y < 400 → ¬ sn y < 0 ∧ ¬ sn y > 200 ∧ ¬ sn y > mx (s0 y) (10 * hmS fa nf) ∧ ¬ sn y < s0 y - nI sg * nI hh ∧ ¬ sn y > s0 y + 4 * nI hh) (hba : ws[pb]? = some (ba, zA4 E 20 gb)) (hB : SN E ws (pb + 1) gb (fun j => s0 (colC j))) (hX : LX E x fl rl wh gr gra tr tra sc ha va z sa gs mc1 mc2 lim sup off plo hrs ea eb nf nr fe qf ro qr fa rd ri sn t9 hf gf g gq ws) (J : zJ E ws s H locs) (hl : lv_has ls 30 [(0, .ref E.2.2.2.2.1), (1, .ref x), (2, .ref z), (3, .int (nI t)), (4, .int xv), (5, .int (nI wd)), (6, .int (nI sg)), (7, .int (nI hh)), (11, .int (hmS fa nf)), (12, .ref ba)]) (hc9 : cells + 2420 ≤ 1106048) (hs9 : slots + 16100 ≤ 5783625)
    (kk : ∀ (ws' : va_W) (H' : Heap) (locs' : List Loc) (ls' : Array Slot), LX E x fl rl wh gr gra tr tra sc ha va z sa gs mc1 mc2 lim sup off plo hrs ea eb nf nr fe qf ro qr fa rd ri sn t9 hf gf g gq ws' → zJ E ws' s H' locs' → lv_has ls' 30 [(0, .ref E.2.2.2.2.1), (1, .ref x), (2, .ref z), (3, .int (nI t)), (4, .int xv), (5, .int (nI wd)), (6, .int (nI sg)), (7, .int (nI hh)), (15, .int (mostA sn))] → W p l e room_1 s m #[.ref E.2.2.2.2.1] below meth c H' locs' (cells + 2420) (slots + 16100) QQ (F0 m 451 ls' [])) :
    W p l e room_1 s m #[.ref E.2.2.2.2.1] below meth c H locs cells slots QQ (F0 m 277 ls []) := by
  obtain ⟨Fa0, Fa1, Fa2, Fa3, Fa4, Fa5, Fa6, Fa7, Fa8, Fa9, Fa10, Fa11, Fa12, Fa13, Fa14, hql, hF, hR, hSep, hSE, hSR, hSN, hnf, hnr, hok, hor, hRB, hu9, hlm, hln⟩ := hX
  obtain ⟨hqf, hqr⟩ := hql
  have hbl := hSN.len
  have bq13 := zlt Fa13
  have bq14 := zlt Fa14
  have nr13 := hSN.no Fa13 rfl
  have nr14 := hSN.no Fa14 rfl
  have hhR := hgS_RB (wo := -1) nf hok
  have hx := X.1.1
  have hb := X.1.2.1
  have hown := X.1.2.2.2.1
  have hts := X.1.2.2.2.2
  have hk : zKi E ws ws := zKi.rf
  refine lv_iconst (v := sumN (fun j => sn (colC j)) (20 * 0)) hx hb dL_law_277 rfl ?_
  refine lv_istore (lv' := [(14, .int (sumN (fun j => sn (colC j)) (20 * 0))), (0, .ref E.2.2.2.2.1), (1, .ref x), (2, .ref z), (3, .int (nI t)), (4, .int xv), (5, .int (nI wd)), (6, .int (nI sg)), (7, .int (nI hh)), (11, .int (hmS fa nf)), (12, .ref ba)]) hx hb dL_law_278 hl (by decide) rfl (fun ls hl => ?_)
  refine lv_iconst (v := mostN (fun j => sn (colC j)) (20 * 0)) hx hb dL_law_280 rfl ?_
  refine lv_istore (lv' := [(15, .int (mostN (fun j => sn (colC j)) (20 * 0))), (14, .int (sumN (fun j => sn (colC j)) (20 * 0))), (0, .ref E.2.2.2.2.1), (1, .ref x), (2, .ref z), (3, .int (nI t)), (4, .int xv), (5, .int (nI wd)), (6, .int (nI sg)), (7, .int (nI hh)), (11, .int (hmS fa nf)), (12, .ref ba)]) hx hb dL_law_281 hl (by decide) rfl (fun ls hl => ?_)
  refine lv_iconst (v := nI 0) hx hb dL_law_283 rfl ?_
  refine lv_istore (lv' := [(16, .int (nI 0)), (15, .int (mostN (fun j => sn (colC j)) (20 * 0))), (14, .int (sumN (fun j => sn (colC j)) (20 * 0))), (0, .ref E.2.2.2.2.1), (1, .ref x), (2, .ref z), (3, .int (nI t)), (4, .int xv), (5, .int (nI wd)), (6, .int (nI sg)), (7, .int (nI hh)), (11, .int (hmS fa nf)), (12, .ref ba)]) hx hb dL_law_284 hl (by decide) rfl (fun ls hl => ?_)
  have loop_286 : ∀ (k9 cu : Nat), cu + k9 = 20 → ∀ (wl286 : va_W) (H : Heap) (locs : List Loc) (ls : Array Slot), zKi E ws wl286 → wl286[0]? = some (x, .inr (7, [.ref fl, .ref rl, .ref wh, .ref gr, .ref tr, .ref sc, .int lim, .int sup, .int off, .int plo, .int hrs])) → wl286[1]? = some (fl, .inr (0, [.int mc1, .ref ea, .int (nI nf)])) → wl286[2]? = some (rl, .inr (0, [.int mc2, .ref eb, .int (nI nr)])) → wl286[3]? = some (wh, .inr (5, [.int (0 * 20 + 0), .int (nI 400), .int 0])) → wl286[4]? = some (gr, .inr (2, [.ref gra])) → wl286[5]? = some (gra, zI4 E 400 sn) → wl286[6]? = some (tr, .inr (2, [.ref tra])) → wl286[7]? = some (tra, zI4 E 400 t9) → wl286[8]? = some (sc, .inr (4, [.ref ha, .ref va])) → wl286[9]? = some (ha, zI4 E 400 hf) → wl286[10]? = some (va, zI4 E 400 gf) → wl286[11]? = some (z, .inr (8, [.ref fe, .ref ro, .ref sa, .int lim, .int sup, .int off, .int plo, .int hrs])) → wl286[14]? = some (sa, zA4 E 20 gs) → wl286[qf]? = some (fe, zA4 E nf g) → wl286[qr]? = some (ro, zA4 E nr gq) → wl286[pb]? = some (ba, zA4 E 20 gb) → FS E wl286 fa ea nf → RS E wl286 rd ri eb nr → SN E wl286 15 gs sn → SN E wl286 (pb + 1) gb (fun j => s0 (colC j)) → zJ E wl286 s H locs → lv_has ls 30 [(16, .int (nI cu)), (15, .int (mostN (fun j => sn (colC j)) (20 * cu))), (14, .int (sumN (fun j => sn (colC j)) (20 * cu))), (0, .ref E.2.2.2.2.1), (1, .ref x), (2, .ref z), (3, .int (nI t)), (4, .int xv), (5, .int (nI wd)), (6, .int (nI sg)), (7, .int (nI hh)), (11, .int (hmS fa nf)), (12, .ref ba)] → W p l e room_1 s m #[.ref E.2.2.2.2.1] below meth c H locs (cells + 120 * cu) (slots + 800 * cu) QQ (F0 m 286 ls []) := by
    intro k9
    induction k9 with
    | zero =>
      intro cu hik wl286 H locs ls hk L286_0 L286_1 L286_2 L286_3 L286_4 L286_5 L286_6 L286_7 L286_8 L286_9 L286_10 L286_11 L286_12 L286_13 L286_14 L286_15 hF hR hSN hB J hl
      obtain rfl : 20 = cu := by omega
      refine lv_iload hx hb dL_law_286 (lv_at hl 0 rfl) ?_
      refine lv_bipush (v := nI 20) hx hb dL_law_288 (by decide) ?_
      refine lv_icmp_ge (tgt := 414) hx hb dL_law_290 (by decide) (fun cz290 => ?_) (fun cz290 => by exact (cz290 (nI_le (Nat.le_refl _) (by omega))).elim)
      refine lv_iload hx hb dL_law_414 (lv_at hl 2 rfl) ?_
      refine lv_aload_n hx hb dL_law_416 rfl (lv_at hl 4 rfl) ?_
      refine lv_iconst (v := nI 2) hx hb dL_law_417 rfl ?_
      refine z_xi J (z_yV (As := [.int (nI 2)]) (rest := [.int (sumN (fun j => sn (colC j)) (20 * 20))]) (ci := 7) (q0 := 0) X hRz J (cX6_count_ok l hflags E L286_0 L286_1 L286_2 L286_3 L286_4 L286_5 hR (by first | assumption | omega | decide)) (cwV 1 hts (goodIn_ext3 gL_law_X6_count) rfl rfl rfl (by decide +kernel) ⟨Nat.le_of_ble_eq_true rfl, Nat.le_of_ble_eq_true rfl⟩) L286_0 rfl rfl rfl hl.1 rfl (Nat.le_of_ble_eq_true rfl) dL_law_418 ⟨by show _ ≤ 1106048; omega, by show _ ≤ 5783625; omega⟩) (fun nm ce q9 H locs hp9 J h1 h2 h3 => ?_) (fun r418 ws_1 H locs hp9 J => ?_)
      · exact False.elim (by exact absurd hp9.1 (by rw [show kCount (nI 2) = 0 from kCount_ok (by decide)]; decide))
      obtain ⟨rfl, e_r418⟩ := hp9
      refine W.eq (g2 := F0 m 421 ls [.int (sumA sn), .int (sumN (fun j => sn (colC j)) (20 * 20))]) (congrArg (fun z9 : Int32 => F0 m 421 ls [.int z9, .int (sumN (fun j => sn (colC j)) (20 * 20))]) (show (r418 : Int32) = sumA sn from (e_r418.2.trans cnt_2))) ?_
      refine lv_icmp_ne (tgt := 449) hx hb dL_law_421 (by decide) (fun cz421 => by exact (cz421 sum_col).elim) (fun cz421 => ?_)
      refine lv_iload hx hb dL_law_424 (lv_at hl 1 rfl) ?_
      refine W.eq (g2 := F0 m 426 ls [.int (mostA sn)]) (congrArg (fun z9 : Int32 => F0 m 426 ls [.int z9]) (show (mostN (fun j => sn (colC j)) (20 * 20) : Int32) = mostA sn from most_col)) ?_
      refine lv_aload_n hx hb dL_law_426 rfl (lv_at hl 4 rfl) ?_
      refine lv_iconst (v := nI 3) hx hb dL_law_427 rfl ?_
      refine z_xi J (z_yV (As := [.int (nI 3)]) (rest := [.int (mostA sn)]) (ci := 7) (q0 := 0) X hRz J (cX6_count_ok l hflags E L286_0 L286_1 L286_2 L286_3 L286_4 L286_5 hR (by first | assumption | omega | decide)) (cwV 1 hts (goodIn_ext3 gL_law_X6_count) rfl rfl rfl (by decide +kernel) ⟨Nat.le_of_ble_eq_true rfl, Nat.le_of_ble_eq_true rfl⟩) L286_0 rfl rfl rfl hl.1 rfl (Nat.le_of_ble_eq_true rfl) dL_law_428 ⟨by show _ ≤ 1106048; omega, by show _ ≤ 5783625; omega⟩) (fun nm ce q9 H locs hp9 J h1 h2 h3 => ?_) (fun r428 ws_2 H locs hp9 J => ?_)
      · exact False.elim (by exact absurd hp9.1 (by rw [show kCount (nI 3) = 0 from kCount_ok (by decide)]; decide))
      obtain ⟨rfl, e_r428⟩ := hp9
      refine W.eq (g2 := F0 m 431 ls [.int (mostA sn), .int (mostA sn)]) (congrArg (fun z9 : Int32 => F0 m 431 ls [.int z9, .int (mostA sn)]) (show (r428 : Int32) = mostA sn from (e_r428.2.trans cnt_3))) ?_
      refine lv_icmp_ne (tgt := 449) hx hb dL_law_431 (by decide) (fun cz431 => by exact (cz431 rfl).elim) (fun cz431 => ?_)
      refine lv_aload_n hx hb dL_law_434 rfl (lv_at hl 4 rfl) ?_
      refine z_crd (z_rV (As := []) (rest := []) (ci := 7) (q0 := 0) X J (cX6_mean_ok l E L286_0 L286_3 L286_4 L286_5) (cwV 0 hts (goodIn_ext3 gL_law_X6_mean) rfl rfl rfl (by decide +kernel) ⟨Nat.le_of_ble_eq_true rfl, Nat.le_of_ble_eq_true rfl⟩) L286_0 rfl rfl rfl hl.1 rfl (Nat.le_of_ble_eq_true rfl) dL_law_435 ⟨by show _ ≤ 1106048; omega, by show _ ≤ 5783625; omega⟩) (fun r435 e_r435 => ?_)
      refine W.eq (g2 := F0 m 438 ls [.double (FP.ddiv (FP.i2d (sumA sn)) 4645744490609377280)]) (congrArg (fun z9 : UInt64 => F0 m 438 ls [.double z9]) (show (r435 : UInt64) = FP.ddiv (FP.i2d (sumA sn)) 4645744490609377280 from e_r435)) ?_
      refine lv_iload hx hb dL_law_438 (lv_at hl 2 rfl) ?_
      refine W.eq (g2 := F0 m 440 ls [.int (sumA sn), .double (FP.ddiv (FP.i2d (sumA sn)) 4645744490609377280)]) (congrArg (fun z9 : Int32 => F0 m 440 ls [.int z9, .double (FP.ddiv (FP.i2d (sumA sn)) 4645744490609377280)]) (show (sumN (fun j => sn (colC j)) (20 * 20) : Int32) = sumA sn from sum_col)) ?_
      refine lv_i2d hx hb dL_law_440 ?_
      refine lv_ldc2d (v := 4645744490609377280) hx hb hown (hts (.constantDouble RL 125 4645744490609377280) (by decide +kernel)) dL_law_441 ?_
      refine lv_ddiv hx hb dL_law_444 (mean_n64 _) ?_
      refine lv_dcmp hx hb dL_law_445 ?_
      refine W.eq (g2 := F0 m 446 ls [.int 0]) (congrArg (fun z9 : Int32 => F0 m 446 ls [.int z9]) (show (Op.cmpValue (FP.dcmp (FP.ddiv (FP.i2d (sumA sn)) 4645744490609377280) (FP.ddiv (FP.i2d (sumA sn)) 4645744490609377280)) .l : Int32) = 0 from (cmp_self (mean_n64 _)))) ?_
      refine lv_if_eq (tgt := 451) hx hb dL_law_446 (by decide) (fun cz446 => ?_) (fun cz446 => by exact absurd cz446 (by decide))
      have hl : lv_has ls 30 [(16, .int (nI 20)), (15, .int (mostA sn)), (14, .int (sumN (fun j => sn (colC j)) (20 * 20))), (0, .ref E.2.2.2.2.1), (1, .ref x), (2, .ref z), (3, .int (nI t)), (4, .int xv), (5, .int (nI wd)), (6, .int (nI sg)), (7, .int (nI hh)), (11, .int (hmS fa nf)), (12, .ref ba)] := lv_repl hl (congrArg (fun z9 : Int32 => ([(16, .int (nI 20)), (15, .int z9), (14, .int (sumN (fun j => sn (colC j)) (20 * 20))), (0, .ref E.2.2.2.2.1), (1, .ref x), (2, .ref z), (3, .int (nI t)), (4, .int xv), (5, .int (nI wd)), (6, .int (nI sg)), (7, .int (nI hh)), (11, .int (hmS fa nf)), (12, .ref ba)] : List (Nat × Value))) (show (mostN (fun j => sn (colC j)) (20 * 20) : Int32) = mostA sn from most_col))
      refine W.widen (k := cells + 2420) (n := slots + 16100) (by omega) (by omega) ?_
      exact kk _ H locs _ ⟨L286_0, L286_1, L286_2, L286_3, L286_4, L286_5, L286_6, L286_7, L286_8, L286_9, L286_10, L286_11, L286_12, L286_13, L286_14, ⟨by omega, by omega⟩, hF, hR, hSep, (hSE.keepI hk), (hSR.keepI hk), hSN, hnf, hnr, hok, hor, hRB, hu9, hlm, (Nat.le_trans hln hk.1)⟩ J (lv_sub hl [3, 4, 5, 6, 7, 8, 9, 10, 1] rfl)
    | succ k9 ih_286 =>
      intro cu hik wl286 H locs ls hk L286_0 L286_1 L286_2 L286_3 L286_4 L286_5 L286_6 L286_7 L286_8 L286_9 L286_10 L286_11 L286_12 L286_13 L286_14 L286_15 hF hR hSN hB J hl
      refine lv_iload hx hb dL_law_286 (lv_at hl 0 rfl) ?_
      refine lv_bipush (v := nI 20) hx hb dL_law_288 (by decide) ?_
      refine lv_icmp_ge (tgt := 414) hx hb dL_law_290 (by decide) (fun cz290 => by exact (nI_ge (by omega) (by omega) cz290).elim) (fun cz290 => ?_)
      refine lv_iconst (v := nI 0) hx hb dL_law_293 rfl ?_
      refine lv_istore (lv' := [(17, .int (nI 0)), (16, .int (nI cu)), (15, .int (mostN (fun j => sn (colC j)) (20 * cu))), (14, .int (sumN (fun j => sn (colC j)) (20 * cu))), (0, .ref E.2.2.2.2.1), (1, .ref x), (2, .ref z), (3, .int (nI t)), (4, .int xv), (5, .int (nI wd)), (6, .int (nI sg)), (7, .int (nI hh)), (11, .int (hmS fa nf)), (12, .ref ba)]) hx hb dL_law_294 hl (by decide) rfl (fun ls hl => ?_)
      have loop_296 : ∀ (k9 rv : Nat), rv + k9 = 20 → ∀ (wl296 : va_W) (H : Heap) (locs : List Loc) (ls : Array Slot), zKi E ws wl296 → wl296[0]? = some (x, .inr (7, [.ref fl, .ref rl, .ref wh, .ref gr, .ref tr, .ref sc, .int lim, .int sup, .int off, .int plo, .int hrs])) → wl296[1]? = some (fl, .inr (0, [.int mc1, .ref ea, .int (nI nf)])) → wl296[2]? = some (rl, .inr (0, [.int mc2, .ref eb, .int (nI nr)])) → wl296[3]? = some (wh, .inr (5, [.int (0 * 20 + 0), .int (nI 400), .int 0])) → wl296[4]? = some (gr, .inr (2, [.ref gra])) → wl296[5]? = some (gra, zI4 E 400 sn) → wl296[6]? = some (tr, .inr (2, [.ref tra])) → wl296[7]? = some (tra, zI4 E 400 t9) → wl296[8]? = some (sc, .inr (4, [.ref ha, .ref va])) → wl296[9]? = some (ha, zI4 E 400 hf) → wl296[10]? = some (va, zI4 E 400 gf) → wl296[11]? = some (z, .inr (8, [.ref fe, .ref ro, .ref sa, .int lim, .int sup, .int off, .int plo, .int hrs])) → wl296[14]? = some (sa, zA4 E 20 gs) → wl296[qf]? = some (fe, zA4 E nf g) → wl296[qr]? = some (ro, zA4 E nr gq) → wl296[pb]? = some (ba, zA4 E 20 gb) → FS E wl296 fa ea nf → RS E wl296 rd ri eb nr → SN E wl296 15 gs sn → SN E wl296 (pb + 1) gb (fun j => s0 (colC j)) → zJ E wl296 s H locs → lv_has ls 30 [(17, .int (nI rv)), (16, .int (nI cu)), (15, .int (mostN (fun j => sn (colC j)) (20 * cu + rv))), (14, .int (sumN (fun j => sn (colC j)) (20 * cu + rv))), (0, .ref E.2.2.2.2.1), (1, .ref x), (2, .ref z), (3, .int (nI t)), (4, .int xv), (5, .int (nI wd)), (6, .int (nI sg)), (7, .int (nI hh)), (11, .int (hmS fa nf)), (12, .ref ba)] → W p l e room_1 s m #[.ref E.2.2.2.2.1] below meth c H locs (cells + 120 * cu + 6 * rv) (slots + 800 * cu + 40 * rv) QQ (F0 m 296 ls []) := by
        intro k9
        induction k9 with
        | zero =>
          intro rv hik wl296 H locs ls hk L296_0 L296_1 L296_2 L296_3 L296_4 L296_5 L296_6 L296_7 L296_8 L296_9 L296_10 L296_11 L296_12 L296_13 L296_14 L296_15 hF hR hSN hB J hl
          obtain rfl : 20 = rv := by omega
          refine lv_iload hx hb dL_law_296 (lv_at hl 0 rfl) ?_
          refine lv_bipush (v := nI 20) hx hb dL_law_298 (by decide) ?_
          refine lv_icmp_ge (tgt := 408) hx hb dL_law_300 (by decide) (fun cz300 => ?_) (fun cz300 => by exact (cz300 (nI_le (Nat.le_refl _) (by omega))).elim)
          refine lv_iinc (v := nI (cu + 1)) (lv' := [(16, .int (nI (cu + 1))), (17, .int (nI 20)), (15, .int (mostN (fun j => sn (colC j)) (20 * cu + 20))), (14, .int (sumN (fun j => sn (colC j)) (20 * cu + 20))), (0, .ref E.2.2.2.2.1), (1, .ref x), (2, .ref z), (3, .int (nI t)), (4, .int xv), (5, .int (nI wd)), (6, .int (nI sg)), (7, .int (nI hh)), (11, .int (hmS fa nf)), (12, .ref ba)]) hx hb dL_law_408 hl (k := 1) rfl (nI_1 cu) (by decide) rfl (fun ls hl => ?_)
          refine lv_goto (tgt := 286) hx hb dL_law_411 (by decide) ?_
          refine W.widen (k := (cells + 120 * (cu + 1))) (n := (slots + 800 * (cu + 1))) (by omega) (by omega) ?_
          exact ih_286 (cu + 1) (by omega) _ _ _ _ hk L296_0 L296_1 L296_2 L296_3 L296_4 L296_5 L296_6 L296_7 L296_8 L296_9 L296_10 L296_11 L296_12 L296_13 L296_14 L296_15 hF hR hSN hB J (lv_sub hl [0, 2, 3, 4, 5, 6, 7, 8, 9, 10, 11, 12, 13] rfl)
        | succ k9 ih_296 =>
          intro rv hik wl296 H locs ls hk L296_0 L296_1 L296_2 L296_3 L296_4 L296_5 L296_6 L296_7 L296_8 L296_9 L296_10 L296_11 L296_12 L296_13 L296_14 L296_15 hF hR hSN hB J hl
          refine lv_iload hx hb dL_law_296 (lv_at hl 0 rfl) ?_
          refine lv_bipush (v := nI 20) hx hb dL_law_298 (by decide) ?_
          refine lv_icmp_ge (tgt := 408) hx hb dL_law_300 (by decide) (fun cz300 => by exact (nI_ge (by omega) (by omega) cz300).elim) (fun cz300 => ?_)
          refine lv_aload_n hx hb dL_law_303 rfl (lv_at hl 5 rfl) ?_
          refine lv_iload hx hb dL_law_304 (lv_at hl 1 rfl) ?_
          refine lv_iload hx hb dL_law_306 (lv_at hl 0 rfl) ?_
          refine z_xi J (z_yV (As := [.int (nI cu), .int (nI rv)]) (rest := []) (ci := 7) (q0 := 0) X hRz J (cX6_snow_ok l hflags E L296_0 L296_4 L296_5) (cwV 2 hts (goodIn_ext3 gL_law_X6_snow) rfl rfl rfl (by decide +kernel) ⟨Nat.le_of_ble_eq_true rfl, Nat.le_of_ble_eq_true rfl⟩) L296_0 rfl rfl rfl hl.1 rfl (Nat.le_of_ble_eq_true rfl) dL_law_308 ⟨by show _ ≤ 1106048; omega, by show _ ≤ 5783625; omega⟩) (fun nm ce q9 H locs hp9 J h1 h2 h3 => ?_) (fun r308 ws_1 H locs hp9 J => ?_)
          · exact False.elim (by exact absurd hp9.1 (by rw [show kSnow (nI cu) (nI rv) = 0 from kSnow_ok (by omega) (by omega)]; decide))
          obtain ⟨rfl, e_r308⟩ := hp9
          refine W.eq (g2 := F0 m 311 ls [.int (sn (20 * rv + cu))]) (congrArg (fun z9 : Int32 => F0 m 311 ls [.int z9]) (show (r308 : Int32) = sn (20 * rv + cu) from (e_r308.2.trans (snow_at (by omega) (by omega))))) ?_
          obtain ⟨hq1, hq2, hq3, hq4, hq5⟩ := hcell (20 * rv + cu) (by omega)
          have hcc : sn (20 * rv + cu) = sn (colC (20 * cu + rv)) := (congrArg sn (colC_at (by omega))).symm
          refine lv_istore (lv' := [(18, .int (sn (20 * rv + cu))), (17, .int (nI rv)), (16, .int (nI cu)), (15, .int (mostN (fun j => sn (colC j)) (20 * cu + rv))), (14, .int (sumN (fun j => sn (colC j)) (20 * cu + rv))), (0, .ref E.2.2.2.2.1), (1, .ref x), (2, .ref z), (3, .int (nI t)), (4, .int xv), (5, .int (nI wd)), (6, .int (nI sg)), (7, .int (nI hh)), (11, .int (hmS fa nf)), (12, .ref ba)]) hx hb dL_law_311 hl (by decide) rfl (fun ls hl => ?_)
          refine lv_iload hx hb dL_law_313 (lv_at hl 4 rfl) ?_
          refine lv_iload hx hb dL_law_315 (lv_at hl 0 rfl) ?_
          refine lv_iadd hx hb dL_law_317 ?_
          refine W.eq (g2 := F0 m 318 ls [.int (sumN (fun j => sn (colC j)) (20 * cu + (rv + 1)))]) (congrArg (fun z9 : Int32 => F0 m 318 ls [.int z9]) (show ((sumN (fun j => sn (colC j)) (20 * cu + rv)) + (sn (20 * rv + cu)) : Int32) = sumN (fun j => sn (colC j)) (20 * cu + (rv + 1)) from (by rw [hcc]; rfl))) ?_
          refine lv_istore (lv' := [(14, .int (sumN (fun j => sn (colC j)) (20 * cu + (rv + 1)))), (18, .int (sn (20 * rv + cu))), (17, .int (nI rv)), (16, .int (nI cu)), (15, .int (mostN (fun j => sn (colC j)) (20 * cu + rv))), (0, .ref E.2.2.2.2.1), (1, .ref x), (2, .ref z), (3, .int (nI t)), (4, .int xv), (5, .int (nI wd)), (6, .int (nI sg)), (7, .int (nI hh)), (11, .int (hmS fa nf)), (12, .ref ba)]) hx hb dL_law_318 hl (by decide) rfl (fun ls hl => ?_)
          refine lv_iload hx hb dL_law_320 (lv_at hl 4 rfl) ?_
          refine lv_iload hx hb dL_law_322 (lv_at hl 1 rfl) ?_
          refine va_mmax hx hb (X.1.2.2.1.trans hl.1.symm) hown (hts (.methodLink RL 116 Lib.Math.max.name) (by decide +kernel)) (hts (.static Lib.Math.max.name) (by decide +kernel)) (hts (.initialized "java/lang/Math") (by decide +kernel)) (hts (.code Lib.Math.max.name Lib.Math.max.code 2 (some .int)) (by decide +kernel)) (Nat.le_of_ble_eq_true rfl) (Nat.le_of_ble_eq_true rfl) (by show _ ≤ 1106048; omega) (by show _ ≤ 5783625; omega) dL_law_324 ?_
          refine W.eq (g2 := F0 m 327 ls [.int (mx (mostN (fun j => sn (colC j)) (20 * cu + rv)) (sn (20 * rv + cu)))]) rfl ?_
          refine W.eq (g2 := F0 m 327 ls [.int (mostN (fun j => sn (colC j)) (20 * cu + (rv + 1)))]) (congrArg (fun z9 : Int32 => F0 m 327 ls [.int z9]) (show (mx (mostN (fun j => sn (colC j)) (20 * cu + rv)) (sn (20 * rv + cu)) : Int32) = mostN (fun j => sn (colC j)) (20 * cu + (rv + 1)) from (by rw [hcc]; rfl))) ?_
          refine lv_istore (lv' := [(15, .int (mostN (fun j => sn (colC j)) (20 * cu + (rv + 1)))), (14, .int (sumN (fun j => sn (colC j)) (20 * cu + (rv + 1)))), (18, .int (sn (20 * rv + cu))), (17, .int (nI rv)), (16, .int (nI cu)), (0, .ref E.2.2.2.2.1), (1, .ref x), (2, .ref z), (3, .int (nI t)), (4, .int xv), (5, .int (nI wd)), (6, .int (nI sg)), (7, .int (nI hh)), (11, .int (hmS fa nf)), (12, .ref ba)]) hx hb dL_law_327 hl (by decide) rfl (fun ls hl => ?_)
          refine lv_iload hx hb dL_law_329 (lv_at hl 2 rfl) ?_
          refine lv_if_lt (tgt := 400) hx hb dL_law_331 (by decide) (fun cz331 => by exact (hq1 cz331).elim) (fun cz331 => ?_)
          refine lv_iload hx hb dL_law_334 (lv_at hl 2 rfl) ?_
          refine lv_sipush (v := 200) hx hb dL_law_336 (by decide) ?_
          refine lv_icmp_gt (tgt := 400) hx hb dL_law_339 (by decide) (fun cz339 => by exact (hq2 cz339).elim) (fun cz339 => ?_)
          refine lv_iload hx hb dL_law_342 (lv_at hl 2 rfl) ?_
          refine lv_aload hx hb dL_law_344 (lv_at hl 14 rfl) ?_
          refine lv_iload hx hb dL_law_346 (lv_at hl 4 rfl) ?_
          obtain ⟨ra, rf, hra, hrc, hrf⟩ := hB cu (by omega)
          refine z_aaldA X J pb L296_15 (vp_in_nI (by omega) (by first | decide | omega)) dL_law_348 ?_
          refine W.eq (g2 := F0 m 349 ls [va_rf (gb cu), .int (sn (20 * rv + cu))]) (congrArg (fun z9 : Option Nat => F0 m 349 ls [va_rf z9, .int (sn (20 * rv + cu))]) (show (gb (nI cu).toNatClampNeg : Option Nat) = gb cu from (congrArg _ (nI_clamp (by omega))))) ?_
          refine W.eq (g2 := F0 m 349 ls [.ref ra, .int (sn (20 * rv + cu))]) (by rw [show gb cu = some ra from hra]; rfl) ?_
          refine lv_iload hx hb dL_law_349 (lv_at hl 3 rfl) ?_
          refine z_iald X J (pb + 1 + cu) hrc (vp_in_nI (by omega) (by first | decide | omega)) dL_law_351 ?_
          refine W.eq (g2 := F0 m 352 ls [.int (s0 (20 * rv + cu)), .int (sn (20 * rv + cu))]) (congrArg (fun z9 : Int32 => F0 m 352 ls [.int z9, .int (sn (20 * rv + cu))]) (show (rf (nI rv).toNatClampNeg : Int32) = s0 (20 * rv + cu) from (by rw [nI_clamp (by omega)]; exact (hrf rv (by omega)).trans (congrArg s0 (colC_at (by omega)))))) ?_
          refine lv_bipush (v := 10) hx hb dL_law_352 (by decide) ?_
          refine lv_iload hx hb dL_law_354 (lv_at hl 13 rfl) ?_
          refine lv_imul hx hb dL_law_356 ?_
          refine va_mmax hx hb (X.1.2.2.1.trans hl.1.symm) hown (hts (.methodLink RL 116 Lib.Math.max.name) (by decide +kernel)) (hts (.static Lib.Math.max.name) (by decide +kernel)) (hts (.initialized "java/lang/Math") (by decide +kernel)) (hts (.code Lib.Math.max.name Lib.Math.max.code 2 (some .int)) (by decide +kernel)) (Nat.le_of_ble_eq_true rfl) (Nat.le_of_ble_eq_true rfl) (by show _ ≤ 1106048; omega) (by show _ ≤ 5783625; omega) dL_law_357 ?_
          refine W.eq (g2 := F0 m 360 ls [.int (mx (s0 (20 * rv + cu)) (10 * (hmS fa nf))), .int (sn (20 * rv + cu))]) rfl ?_
          refine lv_icmp_gt (tgt := 400) hx hb dL_law_360 (by decide) (fun cz360 => by exact (hq3 cz360).elim) (fun cz360 => ?_)
          refine lv_iload hx hb dL_law_363 (lv_at hl 2 rfl) ?_
          refine lv_aload hx hb dL_law_365 (lv_at hl 14 rfl) ?_
          refine lv_iload hx hb dL_law_367 (lv_at hl 4 rfl) ?_
          refine z_aaldA X J pb L296_15 (vp_in_nI (by omega) (by first | decide | omega)) dL_law_369 ?_
          refine W.eq (g2 := F0 m 370 ls [va_rf (gb cu), .int (sn (20 * rv + cu))]) (congrArg (fun z9 : Option Nat => F0 m 370 ls [va_rf z9, .int (sn (20 * rv + cu))]) (show (gb (nI cu).toNatClampNeg : Option Nat) = gb cu from (congrArg _ (nI_clamp (by omega))))) ?_
          refine W.eq (g2 := F0 m 370 ls [.ref ra, .int (sn (20 * rv + cu))]) (by rw [show gb cu = some ra from hra]; rfl) ?_
          refine lv_iload hx hb dL_law_370 (lv_at hl 3 rfl) ?_
          refine z_iald X J (pb + 1 + cu) hrc (vp_in_nI (by omega) (by first | decide | omega)) dL_law_372 ?_
          refine W.eq (g2 := F0 m 373 ls [.int (s0 (20 * rv + cu)), .int (sn (20 * rv + cu))]) (congrArg (fun z9 : Int32 => F0 m 373 ls [.int z9, .int (sn (20 * rv + cu))]) (show (rf (nI rv).toNatClampNeg : Int32) = s0 (20 * rv + cu) from (by rw [nI_clamp (by omega)]; exact (hrf rv (by omega)).trans (congrArg s0 (colC_at (by omega)))))) ?_
          refine lv_iload hx hb dL_law_373 (lv_at hl 11 rfl) ?_
          refine lv_iload hx hb dL_law_375 (lv_at hl 12 rfl) ?_
          refine lv_imul hx hb dL_law_377 ?_
          refine lv_isub hx hb dL_law_378 ?_
          refine lv_icmp_lt (tgt := 400) hx hb dL_law_379 (by decide) (fun cz379 => by exact (hq4 cz379).elim) (fun cz379 => ?_)
          refine lv_iload hx hb dL_law_382 (lv_at hl 2 rfl) ?_
          refine lv_aload hx hb dL_law_384 (lv_at hl 14 rfl) ?_
          refine lv_iload hx hb dL_law_386 (lv_at hl 4 rfl) ?_
          refine z_aaldA X J pb L296_15 (vp_in_nI (by omega) (by first | decide | omega)) dL_law_388 ?_
          refine W.eq (g2 := F0 m 389 ls [va_rf (gb cu), .int (sn (20 * rv + cu))]) (congrArg (fun z9 : Option Nat => F0 m 389 ls [va_rf z9, .int (sn (20 * rv + cu))]) (show (gb (nI cu).toNatClampNeg : Option Nat) = gb cu from (congrArg _ (nI_clamp (by omega))))) ?_
          refine W.eq (g2 := F0 m 389 ls [.ref ra, .int (sn (20 * rv + cu))]) (by rw [show gb cu = some ra from hra]; rfl) ?_
          refine lv_iload hx hb dL_law_389 (lv_at hl 3 rfl) ?_
          refine z_iald X J (pb + 1 + cu) hrc (vp_in_nI (by omega) (by first | decide | omega)) dL_law_391 ?_
          refine W.eq (g2 := F0 m 392 ls [.int (s0 (20 * rv + cu)), .int (sn (20 * rv + cu))]) (congrArg (fun z9 : Int32 => F0 m 392 ls [.int z9, .int (sn (20 * rv + cu))]) (show (rf (nI rv).toNatClampNeg : Int32) = s0 (20 * rv + cu) from (by rw [nI_clamp (by omega)]; exact (hrf rv (by omega)).trans (congrArg s0 (colC_at (by omega)))))) ?_
          refine lv_iconst (v := 4) hx hb dL_law_392 (by decide) ?_
          refine lv_iload hx hb dL_law_393 (lv_at hl 12 rfl) ?_
          refine lv_imul hx hb dL_law_395 ?_
          refine lv_iadd hx hb dL_law_396 ?_
          refine lv_icmp_le (tgt := 402) hx hb dL_law_397 (by decide) (fun cz397 => ?_) (fun cz397 => by exact (cz397 (Int32.not_lt.mp hq5)).elim)
          refine lv_iinc (v := nI (rv + 1)) (lv' := [(17, .int (nI (rv + 1))), (15, .int (mostN (fun j => sn (colC j)) (20 * cu + (rv + 1)))), (14, .int (sumN (fun j => sn (colC j)) (20 * cu + (rv + 1)))), (18, .int (sn (20 * rv + cu))), (16, .int (nI cu)), (0, .ref E.2.2.2.2.1), (1, .ref x), (2, .ref z), (3, .int (nI t)), (4, .int xv), (5, .int (nI wd)), (6, .int (nI sg)), (7, .int (nI hh)), (11, .int (hmS fa nf)), (12, .ref ba)]) hx hb dL_law_402 hl (k := 3) rfl (nI_1 rv) (by decide) rfl (fun ls hl => ?_)
          refine lv_goto (tgt := 296) hx hb dL_law_405 (by decide) ?_
          refine W.widen (k := (cells + 120 * cu + 6 * (rv + 1))) (n := (slots + 800 * cu + 40 * (rv + 1))) (by omega) (by omega) ?_
          exact ih_296 (rv + 1) (by omega) _ _ _ _ hk L296_0 L296_1 L296_2 L296_3 L296_4 L296_5 L296_6 L296_7 L296_8 L296_9 L296_10 L296_11 L296_12 L296_13 L296_14 L296_15 hF hR hSN hB J (lv_sub hl [0, 4, 1, 2, 5, 6, 7, 8, 9, 10, 11, 12, 13, 14] rfl)
      exact loop_296 20 0 (by omega) _ _ _ _ hk L286_0 L286_1 L286_2 L286_3 L286_4 L286_5 L286_6 L286_7 L286_8 L286_9 L286_10 L286_11 L286_12 L286_13 L286_14 L286_15 hF hR hSN hB J (lv_sub hl [0, 1, 2, 3, 4, 5, 6, 7, 8, 9, 10, 11, 12, 13] rfl)
  exact loop_286 20 0 (by omega) _ _ _ _ hk Fa0 Fa1 Fa2 Fa3 Fa4 Fa5 Fa6 Fa7 Fa8 Fa9 Fa10 Fa11 Fa12 Fa13 Fa14 hba hF hR hSN hB J (lv_sub hl [0, 1, 2, 3, 4, 5, 6, 7, 8, 9, 10, 11, 12] rfl)
