section ZLD
variable {p : Program} {l : Launch} {e : Env} {R : Room} {s : State} {m : MethodId} {args : Array Value} {below : List Frame} {meth : Method} {c : Code} {H : Heap} {locs : List Loc} {cells slots : Nat} {Q : State → Prop}
variable {cc : ByteArray} {pc nL mc ms : Nat} {ls : Array Slot} {rest st0 : List Value} {ws : va_W} {own : String} {Ts : List Cond} {E : zG} {a : Array Value}
theorem z_cl (J : zJ E ws s H locs) {post : Int64 → va_W → Prop} (ru : va_Run p l e R s m args below meth c H locs cells slots mc ms (F0 m pc ls st0) rest (va_Ql post (zI E) (zA E) a) (zA E))
    (kk : ∀ (r : Int64) (ws1 : va_W) (H1 : Heap) (locs1 : List Loc), post r ws1 → zJ E ws1 s H1 locs1 → W p l e R s m args below meth c H1 locs1 (cells + mc) (slots + ms) Q (F0 m (pc + 3) ls (.long r :: rest))) : W p l e R s m args below meth c H locs cells slots Q (F0 m pc ls st0) :=
  va_calll ru J.2.2 (fun _ _ h => h) (fun _ h => h) (fun r u t H1 locs1 ht _ hw hB _ _ hS => kk r u H1 locs1 hw (zJ.of ht hS hB))
theorem z_cd (J : zJ E ws s H locs) {post : UInt64 → va_W → Prop} (ru : va_Run p l e R s m args below meth c H locs cells slots mc ms (F0 m pc ls st0) rest (va_Qd post (zI E) (zA E) a) (zA E))
    (kk : ∀ (r : UInt64) (ws1 : va_W) (H1 : Heap) (locs1 : List Loc), post r ws1 → zJ E ws1 s H1 locs1 → W p l e R s m args below meth c H1 locs1 (cells + mc) (slots + ms) Q (F0 m (pc + 3) ls (.double r :: rest))) : W p l e R s m args below meth c H locs cells slots Q (F0 m pc ls st0) :=
  va_calld ru J.2.2 (fun _ _ h => h) (fun _ h => h) (fun r u t H1 locs1 ht _ hw hB _ _ hS => kk r u H1 locs1 hw (zJ.of ht hS hB))
end ZLD
theorem nI_m1lt {k : Nat} (h : k < 2 ^ 31) : ¬ nI k < -1 := by
  rw [Int32.lt_iff_toInt_lt, nI_toInt h, show (-1 : Int32).toInt = -1 from by decide]
  omega
theorem told_0 {sn rd ri : Nat → Int32} {lim : Int32} {q : Nat} : toldS sn rd ri lim q (nI 0) = rd q := if_pos (by decide)
theorem told_1 {sn rd ri : Nat → Int32} {lim : Int32} {q : Nat} : toldS sn rd ri lim q (nI 1) = ri q := (if_neg (by decide)).trans (if_pos (by decide))
theorem told_2 {sn rd ri : Nat → Int32} {lim : Int32} {q : Nat} : toldS sn rd ri lim q (nI 2) = blkG sn (rfi (rd q) (ri q)) (rd q) lim 20 := (if_neg (by decide)).trans ((if_neg (by decide)).trans (if_pos (by decide)))
theorem told_3 {sn rd ri : Nat → Int32} {lim : Int32} {q : Nat} : toldS sn rd ri lim q (nI 3) = sumG sn (rfi (rd q) (ri q)) (rd q) 20 := (if_neg (by decide)).trans ((if_neg (by decide)).trans ((if_neg (by decide)).trans (if_pos (by decide))))
theorem told_4 {sn rd ri : Nat → Int32} {lim : Int32} {q : Nat} : toldS sn rd ri lim q (nI 4) = mostG sn (rfi (rd q) (ri q)) (rd q) 20 := (if_neg (by decide)).trans ((if_neg (by decide)).trans ((if_neg (by decide)).trans (if_neg (by decide))))
/-- behind no hour at all -/
theorem untB_0 {stg sup : Int32} {hf gf : Nat → Int32} {wd : Int32} {sn rd ri : Nat → Int32} {lim : Int32} {q : Nat} : untB stg sup hf gf wd sn rd ri lim q 0 = blkG sn (rfi (rd q) (ri q)) (rd q) lim 20 := by
  unfold untB
  rw [show (hsS stg sup hf gf wd sn 0).2.1 = sn from rfl]
theorem untB_u {stg sup : Int32} {hf gf : Nat → Int32} {wd : Int32} {sn rd ri : Nat → Int32} {lim : Int32} {q n : Nat} : blkG (hsS stg sup hf gf wd sn n).2.1 (rfi (rd q) (ri q)) (rd q) lim 20 = untB stg sup hf gf wd sn rd ri lim q n := by
  unfold untB
  rfl
theorem kWould_ok {w s h q n : Nat} (h1 : w < 4) (h2 : 1 ≤ s) (h3 : s ≤ 9) (h4 : 1 ≤ h) (h5 : h ≤ 24) (h6 : q < n) (h7 : n < 2 ^ 30) : kWould (nI w) (nI s) (nI h) (nI q) (nI n) = 0 := (if_neg (not_or_e (inRk (a := 0) (b := 3) (Nat.zero_le _) (by omega) (by decide)) (inR_mk h6 h7))).trans (if_neg (not_or_e (inRk (a := 1) (b := 9) h2 h3 (by decide)) (inRk (a := 1) (b := 24) h4 h5 (by decide))))
theorem kUntil_ok {w s q n : Nat} (h1 : w < 4) (h2 : 1 ≤ s) (h3 : s ≤ 9) (h6 : q < n) (h7 : n < 2 ^ 30) : kUntil (nI w) (nI s) (nI q) (nI n) = 0 := (if_neg (not_or_e (inRk (a := 0) (b := 3) (Nat.zero_le _) (by omega) (by decide)) (inR_mk h6 h7))).trans (if_neg (fun z => z (inRk (a := 1) (b := 9) h2 h3 (by decide))))
theorem kAdvise_ok {w s h : Nat} (h1 : w < 4) (h2 : 1 ≤ s) (h3 : s ≤ 9) (h4 : 1 ≤ h) (h5 : h ≤ 9) : kAdvise (nI w) (nI s) (nI h) = 0 := (if_neg (fun z => z (inRk (a := 0) (b := 3) (Nat.zero_le _) (by omega) (by decide)))).trans (if_neg (not_or_e (inRk (a := 1) (b := 9) h2 h3 (by decide)) (inRk (a := 1) (b := 9) h4 h5 (by decide))))
theorem kHarm_ok {w s : Nat} (h1 : w < 4) (h2 : 1 ≤ s) (h3 : s ≤ 9) : kHarm (nI w) (nI s) = 0 := (if_neg (fun z => z (inRk (a := 0) (b := 3) (Nat.zero_le _) (by omega) (by decide)))).trans (if_neg (fun z => z (inRk (a := 1) (b := 9) h2 h3 (by decide))))
set_option maxHeartbeats 4000000 in
set_option maxRecDepth 100000 in
theorem law_f {p : Program} {l : Launch} (hflags : l.flags = flags0) {e : Env} {s : State} {m : MethodId} {below : List Frame} {meth : Method} {c : Code} (E : zG) (X : zC E p m c cL_law 30 s #[.ref E.2.2.2.2.1] wsL_law2 RL) (hRz : zR s) (hE1 : ¬ zA E E.2.2.1) (hL : E.2.2.2.2.2.1 ≤ 260) {QQ : State → Prop} {ws : va_W} {x fl rl wh gr gra tr tra sc ha va z sa : Nat} {gs : Nat → Option Nat} {mc1 mc2 lim sup off plo hrs : Int32} {ea eb nf nr fe qf ro qr : Nat} {fa rd ri sn t9 hf gf : Nat → Int32} {g gq : Nat → Option Nat} {t : Nat} {xv : Int32} {wd sg hh : Nat} {cells slots : Nat} {H : Heap} {locs : List Loc} {ls : Array Slot} (hwd4 : wd < 4) (hsg1 : 1 ≤ sg) (hsg9 : sg ≤ 9) (hhh1 : 1 ≤ hh) (hhh6 : hh ≤ 6) (hX : LX E x fl rl wh gr gra tr tra sc ha va z sa gs mc1 mc2 lim sup off plo hrs ea eb nf nr fe qf ro qr fa rd ri sn t9 hf gf g gq ws) (J : zJ E ws s H locs) (hl : lv_has ls 30 [(0, .ref E.2.2.2.2.1), (1, .ref x), (2, .ref z), (3, .int (nI t)), (4, .int xv), (5, .int (nI wd)), (6, .int (nI sg)), (7, .int (nI hh)), (15, .int (mostA sn))]) (hc9 : cells + 2400 ≤ 1106048) (hs9 : slots + 16500 ≤ 5783625)
    (kk : ∀ (t2 : Nat → Int32) (h2 : Nat → Int32) (g2 : Nat → Int32) (ws' : va_W) (H' : Heap) (locs' : List Loc) (ls' : Array Slot), LX E x fl rl wh gr gra tr tra sc ha va z sa gs mc1 mc2 lim sup off plo hrs ea eb nf nr fe qf ro qr fa rd ri sn t2 h2 g2 g gq ws' → zJ E ws' s H' locs' → lv_has ls' 30 [(0, .ref E.2.2.2.2.1), (1, .ref x), (2, .ref z), (3, .int (nI t)), (4, .int xv), (5, .int (nI wd)), (6, .int (nI sg)), (7, .int (nI hh)), (16, .long (dgF sn (dg2 (dgR sn rd ri lim) 5 (dg2 (aboutS fa sn) 7 (dgF (dgC nf nr lim sup off plo hrs sn rd ri) 1777 10) nf) nr) 400)), (18, .int (allB sn rd ri lim nr)), (19, .int lim)] → W p l e room_1 s m #[.ref E.2.2.2.2.1] below meth c H' locs' (cells + 2400) (slots + 16500) QQ (F0 m 755 ls' [])) :
    W p l e room_1 s m #[.ref E.2.2.2.2.1] below meth c H locs cells slots QQ (F0 m 451 ls []) := by
  obtain ⟨Fa0, Fa1, Fa2, Fa3, Fa4, Fa5, Fa6, Fa7, Fa8, Fa9, Fa10, Fa11, Fa12, Fa13, Fa14, hql, hF, hR, hSep, hSE, hSR, hSN, hnf, hnr, hok, hor, hRB, hu9, hlm, hln⟩ := hX
  obtain ⟨hqf, hqr⟩ := hql
  have hbl := hSN.len
  have bq13 := zlt Fa13
  have bq14 := zlt Fa14
  have nr13 := hSN.no Fa13 rfl
  have nr14 := hSN.no Fa14 rfl
  have hhR := hgS_RB (wo := -1) nf hok
  have hx := X.1.1
  have hb := X.1.2.1
  have hown := X.1.2.2.2.1
  have hts := X.1.2.2.2.2
  have hk : zKi E ws ws := zKi.rf
  refine lv_aload_n hx hb dL_law_451 rfl (lv_at hl 1 rfl) ?_
  refine z_cl J (z_rVY (As := []) (rest := []) (ci := 7) (q0 := 0) X hRz J (cX6_digest_ok l hflags E Fa0 Fa1 Fa2 Fa3 Fa4 Fa5 hF hnf hok hR hnr hor) (cwV 0 hts (goodIn_ext3 gL_law_X6_digest) rfl rfl rfl (by decide +kernel) ⟨Nat.le_of_ble_eq_true rfl, Nat.le_of_ble_eq_true rfl⟩) Fa0 rfl rfl rfl hl.1 rfl (Nat.le_of_ble_eq_true rfl) dL_law_452 ⟨by show _ ≤ 1106048; omega, by show _ ≤ 5783625; omega⟩) (fun r452 ws_1 H locs hp9 J => ?_)
  obtain ⟨k1, e_r452⟩ := hp9
  have hF := hF.keepS k1 (fun q9 hq9 => absurd hq9 List.not_mem_nil)
  have hR := hR.keepS k1 (fun q9 hq9 => absurd hq9 List.not_mem_nil)
  have hSN := hSN.keep k1 (fun _ _ => List.not_mem_nil)
  have hk := hk.step k1 (fun _ _ _ _ _ _ _ => List.not_mem_nil)
  have G1_0 := k1.2 0 _ List.not_mem_nil Fa0
  have G1_1 := k1.2 1 _ List.not_mem_nil Fa1
  have G1_2 := k1.2 2 _ List.not_mem_nil Fa2
  have G1_3 := k1.2 3 _ List.not_mem_nil Fa3
  have G1_4 := k1.2 4 _ List.not_mem_nil Fa4
  have G1_5 := k1.2 5 _ List.not_mem_nil Fa5
  have G1_6 := k1.2 6 _ List.not_mem_nil Fa6
  have G1_7 := k1.2 7 _ List.not_mem_nil Fa7
  have G1_8 := k1.2 8 _ List.not_mem_nil Fa8
  have G1_9 := k1.2 9 _ List.not_mem_nil Fa9
  have G1_10 := k1.2 10 _ List.not_mem_nil Fa10
  have G1_11 := k1.2 11 _ List.not_mem_nil Fa11
  have G1_12 := k1.2 14 _ List.not_mem_nil Fa12
  have G1_13 := k1.2 qf _ List.not_mem_nil Fa13
  have G1_14 := k1.2 qr _ List.not_mem_nil Fa14
  refine W.eq (g2 := F0 m 455 ls [.long (dgF sn (dg2 (dgR sn rd ri lim) 5 (dg2 (aboutS fa sn) 7 (dgF (dgC nf nr lim sup off plo hrs sn rd ri) 1777 10) nf) nr) 400)]) (congrArg (fun z9 : Int64 => F0 m 455 ls [.long z9]) (show (r452 : Int64) = dgF sn (dg2 (dgR sn rd ri lim) 5 (dg2 (aboutS fa sn) 7 (dgF (dgC nf nr lim sup off plo hrs sn rd ri) 1777 10) nf) nr) 400 from e_r452)) ?_
  refine lv_lstore (lv' := [(16, .long (dgF sn (dg2 (dgR sn rd ri lim) 5 (dg2 (aboutS fa sn) 7 (dgF (dgC nf nr lim sup off plo hrs sn rd ri) 1777 10) nf) nr) 400)), (0, .ref E.2.2.2.2.1), (1, .ref x), (2, .ref z), (3, .int (nI t)), (4, .int xv), (5, .int (nI wd)), (6, .int (nI sg)), (7, .int (nI hh)), (15, .int (mostA sn))]) hx hb dL_law_455 hl (by decide) rfl (fun ls hl => ?_)
  refine lv_iconst (v := allB sn rd ri lim 0) hx hb dL_law_457 rfl ?_
  refine lv_istore (lv' := [(18, .int (allB sn rd ri lim 0)), (16, .long (dgF sn (dg2 (dgR sn rd ri lim) 5 (dg2 (aboutS fa sn) 7 (dgF (dgC nf nr lim sup off plo hrs sn rd ri) 1777 10) nf) nr) 400)), (0, .ref E.2.2.2.2.1), (1, .ref x), (2, .ref z), (3, .int (nI t)), (4, .int xv), (5, .int (nI wd)), (6, .int (nI sg)), (7, .int (nI hh)), (15, .int (mostA sn))]) hx hb dL_law_458 hl (by decide) rfl (fun ls hl => ?_)
  refine lv_aload_n hx hb dL_law_460 rfl (lv_at hl 3 rfl) ?_
  refine lv_bipush (v := nI 8) hx hb dL_law_461 (by decide) ?_
  refine z_xi J (z_yV (As := [.int (nI 8)]) (rest := []) (ci := 7) (q0 := 0) X hRz J (cX6_count_ok l hflags E G1_0 G1_1 G1_2 G1_3 G1_4 G1_5 hR (by first | assumption | omega | decide)) (cwV 1 hts (goodIn_ext3 gL_law_X6_count) rfl rfl rfl (by decide +kernel) ⟨Nat.le_of_ble_eq_true rfl, Nat.le_of_ble_eq_true rfl⟩) G1_0 rfl rfl rfl hl.1 rfl (Nat.le_of_ble_eq_true rfl) dL_law_463 ⟨by show _ ≤ 1106048; omega, by show _ ≤ 5783625; omega⟩) (fun nm ce q9 H locs hp9 J h1 h2 h3 => ?_) (fun r463 ws_2 H locs hp9 J => ?_)
  · exact False.elim (by exact absurd hp9.1 (by rw [show kCount (nI 8) = 0 from kCount_ok (by decide)]; decide))
  obtain ⟨rfl, e_r463⟩ := hp9
  refine W.eq (g2 := F0 m 466 ls [.int lim]) (congrArg (fun z9 : Int32 => F0 m 466 ls [.int z9]) (show (r463 : Int32) = lim from (e_r463.2.trans cnt_8))) ?_
  refine lv_istore (lv' := [(19, .int lim), (18, .int (allB sn rd ri lim 0)), (16, .long (dgF sn (dg2 (dgR sn rd ri lim) 5 (dg2 (aboutS fa sn) 7 (dgF (dgC nf nr lim sup off plo hrs sn rd ri) 1777 10) nf) nr) 400)), (0, .ref E.2.2.2.2.1), (1, .ref x), (2, .ref z), (3, .int (nI t)), (4, .int xv), (5, .int (nI wd)), (6, .int (nI sg)), (7, .int (nI hh)), (15, .int (mostA sn))]) hx hb dL_law_466 hl (by decide) rfl (fun ls hl => ?_)
  refine lv_iconst (v := nI 0) hx hb dL_law_468 rfl ?_
  refine lv_istore (lv' := [(20, .int (nI 0)), (19, .int lim), (18, .int (allB sn rd ri lim 0)), (16, .long (dgF sn (dg2 (dgR sn rd ri lim) 5 (dg2 (aboutS fa sn) 7 (dgF (dgC nf nr lim sup off plo hrs sn rd ri) 1777 10) nf) nr) 400)), (0, .ref E.2.2.2.2.1), (1, .ref x), (2, .ref z), (3, .int (nI t)), (4, .int xv), (5, .int (nI wd)), (6, .int (nI sg)), (7, .int (nI hh)), (15, .int (mostA sn))]) hx hb dL_law_469 hl (by decide) rfl (fun ls hl => ?_)
  have loop_471 : ∀ (k9 q : Nat) (t0 : Nat → Int32) (h0 : Nat → Int32) (g0 : Nat → Int32), q + k9 = nr → ∀ (wl471 : va_W) (H : Heap) (locs : List Loc) (ls : Array Slot), zKi E ws wl471 → wl471[0]? = some (x, .inr (7, [.ref fl, .ref rl, .ref wh, .ref gr, .ref tr, .ref sc, .int lim, .int sup, .int off, .int plo, .int hrs])) → wl471[1]? = some (fl, .inr (0, [.int mc1, .ref ea, .int (nI nf)])) → wl471[2]? = some (rl, .inr (0, [.int mc2, .ref eb, .int (nI nr)])) → wl471[3]? = some (wh, .inr (5, [.int (0 * 20 + 0), .int (nI 400), .int 0])) → wl471[4]? = some (gr, .inr (2, [.ref gra])) → wl471[5]? = some (gra, zI4 E 400 sn) → wl471[6]? = some (tr, .inr (2, [.ref tra])) → wl471[7]? = some (tra, zI4 E 400 t0) → wl471[8]? = some (sc, .inr (4, [.ref ha, .ref va])) → wl471[9]? = some (ha, zI4 E 400 h0) → wl471[10]? = some (va, zI4 E 400 g0) → wl471[11]? = some (z, .inr (8, [.ref fe, .ref ro, .ref sa, .int lim, .int sup, .int off, .int plo, .int hrs])) → wl471[14]? = some (sa, zA4 E 20 gs) → wl471[qf]? = some (fe, zA4 E nf g) → wl471[qr]? = some (ro, zA4 E nr gq) → FS E wl471 fa ea nf → RS E wl471 rd ri eb nr → SN E wl471 15 gs sn → zJ E wl471 s H locs → lv_has ls 30 [(20, .int (nI q)), (19, .int lim), (18, .int (allB sn rd ri lim q)), (16, .long (dgF sn (dg2 (dgR sn rd ri lim) 5 (dg2 (aboutS fa sn) 7 (dgF (dgC nf nr lim sup off plo hrs sn rd ri) 1777 10) nf) nr) 400)), (0, .ref E.2.2.2.2.1), (1, .ref x), (2, .ref z), (3, .int (nI t)), (4, .int xv), (5, .int (nI wd)), (6, .int (nI sg)), (7, .int (nI hh)), (15, .int (mostA sn))] → W p l e room_1 s m #[.ref E.2.2.2.2.1] below meth c H locs (cells + 606 + 438 * q) (slots + 4040 + 2910 * q) QQ (F0 m 471 ls []) := by
    intro k9
    induction k9 with
    | zero =>
      intro q t0 h0 g0 hik wl471 H locs ls hk L471_0 L471_1 L471_2 L471_3 L471_4 L471_5 L471_6 L471_7 L471_8 L471_9 L471_10 L471_11 L471_12 L471_13 L471_14 hF hR hSN J hl
      obtain rfl : nr = q := by omega
      refine lv_iload hx hb dL_law_471 (lv_at hl 0 rfl) ?_
      refine lv_aload_n hx hb dL_law_473 rfl (lv_at hl 5 rfl) ?_
      refine lv_iconst (v := nI 1) hx hb dL_law_474 rfl ?_
      refine z_xi J (z_yV (As := [.int (nI 1)]) (rest := [.int (nI nr)]) (ci := 7) (q0 := 0) X hRz J (cX6_count_ok l hflags E L471_0 L471_1 L471_2 L471_3 L471_4 L471_5 hR (by first | assumption | omega | decide)) (cwV 1 hts (goodIn_ext3 gL_law_X6_count) rfl rfl rfl (by decide +kernel) ⟨Nat.le_of_ble_eq_true rfl, Nat.le_of_ble_eq_true rfl⟩) L471_0 rfl rfl rfl hl.1 rfl (Nat.le_of_ble_eq_true rfl) dL_law_475 ⟨by show _ ≤ 1106048; omega, by show _ ≤ 5783625; omega⟩) (fun nm ce q9 H locs hp9 J h1 h2 h3 => ?_) (fun r475 ws_3 H locs hp9 J => ?_)
      · exact False.elim (by exact absurd hp9.1 (by rw [show kCount (nI 1) = 0 from kCount_ok (by decide)]; decide))
      obtain ⟨rfl, e_r475⟩ := hp9
      refine W.eq (g2 := F0 m 478 ls [.int (nI nr), .int (nI nr)]) (congrArg (fun z9 : Int32 => F0 m 478 ls [.int z9, .int (nI nr)]) (show (r475 : Int32) = nI nr from (e_r475.2.trans cnt_1))) ?_
      refine lv_icmp_ge (tgt := 755) hx hb dL_law_478 (by decide) (fun cz478 => ?_) (fun cz478 => by exact (cz478 (nI_le (Nat.le_refl _) (by omega))).elim)
      refine W.widen (k := cells + 2400) (n := slots + 16500) (by omega) (by omega) ?_
      exact kk t0 h0 g0 _ H locs _ ⟨L471_0, L471_1, L471_2, L471_3, L471_4, L471_5, L471_6, L471_7, L471_8, L471_9, L471_10, L471_11, L471_12, L471_13, L471_14, ⟨by omega, by omega⟩, hF, hR, hSep, (hSE.keepI hk), (hSR.keepI hk), hSN, hnf, hnr, hok, hor, hRB, hu9, hlm, (Nat.le_trans hln hk.1)⟩ J (lv_sub hl [4, 5, 6, 7, 8, 9, 10, 11, 3, 2, 1] rfl)
    | succ k9 ih_471 =>
      intro q t0 h0 g0 hik wl471 H locs ls hk L471_0 L471_1 L471_2 L471_3 L471_4 L471_5 L471_6 L471_7 L471_8 L471_9 L471_10 L471_11 L471_12 L471_13 L471_14 hF hR hSN J hl
      refine lv_iload hx hb dL_law_471 (lv_at hl 0 rfl) ?_
      refine lv_aload_n hx hb dL_law_473 rfl (lv_at hl 5 rfl) ?_
      refine lv_iconst (v := nI 1) hx hb dL_law_474 rfl ?_
      refine z_xi J (z_yV (As := [.int (nI 1)]) (rest := [.int (nI q)]) (ci := 7) (q0 := 0) X hRz J (cX6_count_ok l hflags E L471_0 L471_1 L471_2 L471_3 L471_4 L471_5 hR (by first | assumption | omega | decide)) (cwV 1 hts (goodIn_ext3 gL_law_X6_count) rfl rfl rfl (by decide +kernel) ⟨Nat.le_of_ble_eq_true rfl, Nat.le_of_ble_eq_true rfl⟩) L471_0 rfl rfl rfl hl.1 rfl (Nat.le_of_ble_eq_true rfl) dL_law_475 ⟨by show _ ≤ 1106048; omega, by show _ ≤ 5783625; omega⟩) (fun nm ce q9 H locs hp9 J h1 h2 h3 => ?_) (fun r475 ws_3 H locs hp9 J => ?_)
      · exact False.elim (by exact absurd hp9.1 (by rw [show kCount (nI 1) = 0 from kCount_ok (by decide)]; decide))
      obtain ⟨rfl, e_r475⟩ := hp9
      refine W.eq (g2 := F0 m 478 ls [.int (nI nr), .int (nI q)]) (congrArg (fun z9 : Int32 => F0 m 478 ls [.int z9, .int (nI q)]) (show (r475 : Int32) = nI nr from (e_r475.2.trans cnt_1))) ?_
      refine lv_icmp_ge (tgt := 755) hx hb dL_law_478 (by decide) (fun cz478 => by exact (nI_ge (by omega) (by omega) cz478).elim) (fun cz478 => ?_)
      obtain ⟨jd, jx, hjx, hjy⟩ := hor q (by omega)
      refine lv_iconst (v := blkG sn (rfi (rd q) (ri q)) (rd q) lim 0) hx hb dL_law_481 rfl ?_
      refine lv_istore (lv' := [(21, .int (blkG sn (rfi (rd q) (ri q)) (rd q) lim 0)), (20, .int (nI q)), (19, .int lim), (18, .int (allB sn rd ri lim q)), (16, .long (dgF sn (dg2 (dgR sn rd ri lim) 5 (dg2 (aboutS fa sn) 7 (dgF (dgC nf nr lim sup off plo hrs sn rd ri) 1777 10) nf) nr) 400)), (0, .ref E.2.2.2.2.1), (1, .ref x), (2, .ref z), (3, .int (nI t)), (4, .int xv), (5, .int (nI wd)), (6, .int (nI sg)), (7, .int (nI hh)), (15, .int (mostA sn))]) hx hb dL_law_482 hl (by decide) rfl (fun ls hl => ?_)
      refine lv_iconst (v := sumG sn (rfi (rd q) (ri q)) (rd q) 0) hx hb dL_law_484 rfl ?_
      refine lv_istore (lv' := [(22, .int (sumG sn (rfi (rd q) (ri q)) (rd q) 0)), (21, .int (blkG sn (rfi (rd q) (ri q)) (rd q) lim 0)), (20, .int (nI q)), (19, .int lim), (18, .int (allB sn rd ri lim q)), (16, .long (dgF sn (dg2 (dgR sn rd ri lim) 5 (dg2 (aboutS fa sn) 7 (dgF (dgC nf nr lim sup off plo hrs sn rd ri) 1777 10) nf) nr) 400)), (0, .ref E.2.2.2.2.1), (1, .ref x), (2, .ref z), (3, .int (nI t)), (4, .int xv), (5, .int (nI wd)), (6, .int (nI sg)), (7, .int (nI hh)), (15, .int (mostA sn))]) hx hb dL_law_485 hl (by decide) rfl (fun ls hl => ?_)
      refine lv_iconst (v := nI 0) hx hb dL_law_487 rfl ?_
      refine lv_istore (lv' := [(23, .int (nI 0)), (22, .int (sumG sn (rfi (rd q) (ri q)) (rd q) 0)), (21, .int (blkG sn (rfi (rd q) (ri q)) (rd q) lim 0)), (20, .int (nI q)), (19, .int lim), (18, .int (allB sn rd ri lim q)), (16, .long (dgF sn (dg2 (dgR sn rd ri lim) 5 (dg2 (aboutS fa sn) 7 (dgF (dgC nf nr lim sup off plo hrs sn rd ri) 1777 10) nf) nr) 400)), (0, .ref E.2.2.2.2.1), (1, .ref x), (2, .ref z), (3, .int (nI t)), (4, .int xv), (5, .int (nI wd)), (6, .int (nI sg)), (7, .int (nI hh)), (15, .int (mostA sn))]) hx hb dL_law_488 hl (by decide) rfl (fun ls hl => ?_)
      refine W.widen (k := cells + 612 + 438 * q + 18 * 0) (n := slots + 4080 + 2910 * q + 120 * 0) (by omega) (by omega) ?_
      have loop_490 : ∀ (k9 k : Nat), k + k9 = 20 → ∀ (wl490 : va_W) (H : Heap) (locs : List Loc) (ls : Array Slot), zKi E ws wl490 → wl490[0]? = some (x, .inr (7, [.ref fl, .ref rl, .ref wh, .ref gr, .ref tr, .ref sc, .int lim, .int sup, .int off, .int plo, .int hrs])) → wl490[1]? = some (fl, .inr (0, [.int mc1, .ref ea, .int (nI nf)])) → wl490[2]? = some (rl, .inr (0, [.int mc2, .ref eb, .int (nI nr)])) → wl490[3]? = some (wh, .inr (5, [.int (0 * 20 + 0), .int (nI 400), .int 0])) → wl490[4]? = some (gr, .inr (2, [.ref gra])) → wl490[5]? = some (gra, zI4 E 400 sn) → wl490[6]? = some (tr, .inr (2, [.ref tra])) → wl490[7]? = some (tra, zI4 E 400 t0) → wl490[8]? = some (sc, .inr (4, [.ref ha, .ref va])) → wl490[9]? = some (ha, zI4 E 400 h0) → wl490[10]? = some (va, zI4 E 400 g0) → wl490[11]? = some (z, .inr (8, [.ref fe, .ref ro, .ref sa, .int lim, .int sup, .int off, .int plo, .int hrs])) → wl490[14]? = some (sa, zA4 E 20 gs) → wl490[qf]? = some (fe, zA4 E nf g) → wl490[qr]? = some (ro, zA4 E nr gq) → FS E wl490 fa ea nf → RS E wl490 rd ri eb nr → SN E wl490 15 gs sn → zJ E wl490 s H locs → lv_has ls 30 [(23, .int (nI k)), (22, .int (sumG sn (rfi (rd q) (ri q)) (rd q) k)), (21, .int (blkG sn (rfi (rd q) (ri q)) (rd q) lim k)), (20, .int (nI q)), (19, .int lim), (18, .int (allB sn rd ri lim q)), (16, .long (dgF sn (dg2 (dgR sn rd ri lim) 5 (dg2 (aboutS fa sn) 7 (dgF (dgC nf nr lim sup off plo hrs sn rd ri) 1777 10) nf) nr) 400)), (0, .ref E.2.2.2.2.1), (1, .ref x), (2, .ref z), (3, .int (nI t)), (4, .int xv), (5, .int (nI wd)), (6, .int (nI sg)), (7, .int (nI hh)), (15, .int (mostA sn))] → W p l e room_1 s m #[.ref E.2.2.2.2.1] below meth c H locs (cells + 612 + 438 * q + 18 * k) (slots + 4080 + 2910 * q + 120 * k) QQ (F0 m 490 ls []) := by
        intro k9
        induction k9 with
        | zero =>
          intro k hik wl490 H locs ls hk L490_0 L490_1 L490_2 L490_3 L490_4 L490_5 L490_6 L490_7 L490_8 L490_9 L490_10 L490_11 L490_12 L490_13 L490_14 hF hR hSN J hl
          obtain rfl : 20 = k := by omega
          refine lv_iload hx hb dL_law_490 (lv_at hl 0 rfl) ?_
          refine lv_bipush (v := nI 20) hx hb dL_law_492 (by decide) ?_
          refine lv_icmp_ge (tgt := 569) hx hb dL_law_494 (by decide) (fun cz494 => ?_) (fun cz494 => by exact (cz494 (nI_le (Nat.le_refl _) (by omega))).elim)
          refine lv_aload_n hx hb dL_law_569 rfl (lv_at hl 8 rfl) ?_
          refine lv_iload hx hb dL_law_570 (lv_at hl 3 rfl) ?_
          refine lv_iconst (v := nI 2) hx hb dL_law_572 rfl ?_
          refine z_xi J (z_yV (As := [.int (nI q), .int (nI 2)]) (rest := []) (ci := 7) (q0 := 0) X hRz J (cX6_told_ok l hflags E L490_0 L490_2 L490_4 L490_5 hR hnr hor) (cwV 2 hts (goodIn_ext3 gL_law_X6_told) rfl rfl rfl (by decide +kernel) ⟨Nat.le_of_ble_eq_true rfl, Nat.le_of_ble_eq_true rfl⟩) L490_0 rfl rfl rfl hl.1 rfl (Nat.le_of_ble_eq_true rfl) dL_law_573 ⟨by show _ ≤ 1106048; omega, by show _ ≤ 5783625; omega⟩) (fun nm ce q9 H locs hp9 J h1 h2 h3 => ?_) (fun r573 ws_4 H locs hp9 J => ?_)
          · exact False.elim (by exact absurd hp9.1 (by rw [show kAsk (nI q) (nI nr) (nI 2) 4 = 0 from kAsk_ok (h := 4) (by omega) (by omega) (by decide) (by decide)]; decide))
          obtain ⟨rfl, e_r573⟩ := hp9
          refine W.eq (g2 := F0 m 576 ls [.int (blkG sn (rfi (rd q) (ri q)) (rd q) lim 20)]) (congrArg (fun z9 : Int32 => F0 m 576 ls [.int z9]) (show (r573 : Int32) = blkG sn (rfi (rd q) (ri q)) (rd q) lim 20 from (by rw [e_r573.2, nI_clamp (by omega)]; exact told_2))) ?_
          refine lv_iload hx hb dL_law_576 (lv_at hl 2 rfl) ?_
          refine lv_icmp_ne (tgt := 640) hx hb dL_law_578 (by decide) (fun cz578 => by exact (cz578 rfl).elim) (fun cz578 => ?_)
          refine lv_aload_n hx hb dL_law_581 rfl (lv_at hl 8 rfl) ?_
          refine lv_iload hx hb dL_law_582 (lv_at hl 3 rfl) ?_
          refine lv_iconst (v := nI 3) hx hb dL_law_584 rfl ?_
          refine z_xi J (z_yV (As := [.int (nI q), .int (nI 3)]) (rest := []) (ci := 7) (q0 := 0) X hRz J (cX6_told_ok l hflags E L490_0 L490_2 L490_4 L490_5 hR hnr hor) (cwV 2 hts (goodIn_ext3 gL_law_X6_told) rfl rfl rfl (by decide +kernel) ⟨Nat.le_of_ble_eq_true rfl, Nat.le_of_ble_eq_true rfl⟩) L490_0 rfl rfl rfl hl.1 rfl (Nat.le_of_ble_eq_true rfl) dL_law_585 ⟨by show _ ≤ 1106048; omega, by show _ ≤ 5783625; omega⟩) (fun nm ce q9 H locs hp9 J h1 h2 h3 => ?_) (fun r585 ws_5 H locs hp9 J => ?_)
          · exact False.elim (by exact absurd hp9.1 (by rw [show kAsk (nI q) (nI nr) (nI 3) 4 = 0 from kAsk_ok (h := 4) (by omega) (by omega) (by decide) (by decide)]; decide))
          obtain ⟨rfl, e_r585⟩ := hp9
          refine W.eq (g2 := F0 m 588 ls [.int (sumG sn (rfi (rd q) (ri q)) (rd q) 20)]) (congrArg (fun z9 : Int32 => F0 m 588 ls [.int z9]) (show (r585 : Int32) = sumG sn (rfi (rd q) (ri q)) (rd q) 20 from (by rw [e_r585.2, nI_clamp (by omega)]; exact told_3))) ?_
          refine lv_iload hx hb dL_law_588 (lv_at hl 1 rfl) ?_
          refine lv_icmp_ne (tgt := 640) hx hb dL_law_590 (by decide) (fun cz590 => by exact (cz590 rfl).elim) (fun cz590 => ?_)
          refine lv_aload_n hx hb dL_law_593 rfl (lv_at hl 8 rfl) ?_
          refine lv_iload hx hb dL_law_594 (lv_at hl 3 rfl) ?_
          refine lv_iconst (v := nI 4) hx hb dL_law_596 rfl ?_
          refine z_xi J (z_yV (As := [.int (nI q), .int (nI 4)]) (rest := []) (ci := 7) (q0 := 0) X hRz J (cX6_told_ok l hflags E L490_0 L490_2 L490_4 L490_5 hR hnr hor) (cwV 2 hts (goodIn_ext3 gL_law_X6_told) rfl rfl rfl (by decide +kernel) ⟨Nat.le_of_ble_eq_true rfl, Nat.le_of_ble_eq_true rfl⟩) L490_0 rfl rfl rfl hl.1 rfl (Nat.le_of_ble_eq_true rfl) dL_law_597 ⟨by show _ ≤ 1106048; omega, by show _ ≤ 5783625; omega⟩) (fun nm ce q9 H locs hp9 J h1 h2 h3 => ?_) (fun r597 ws_6 H locs hp9 J => ?_)
          · exact False.elim (by exact absurd hp9.1 (by rw [show kAsk (nI q) (nI nr) (nI 4) 4 = 0 from kAsk_ok (h := 4) (by omega) (by omega) (by decide) (by decide)]; decide))
          obtain ⟨rfl, e_r597⟩ := hp9
          refine W.eq (g2 := F0 m 600 ls [.int (mostG sn (rfi (rd q) (ri q)) (rd q) 20)]) (congrArg (fun z9 : Int32 => F0 m 600 ls [.int z9]) (show (r597 : Int32) = mostG sn (rfi (rd q) (ri q)) (rd q) 20 from (by rw [e_r597.2, nI_clamp (by omega)]; exact told_4))) ?_
          refine lv_iload hx hb dL_law_600 (lv_at hl 15 rfl) ?_
          refine lv_icmp_gt (tgt := 640) hx hb dL_law_602 (by decide) (fun cz602 => by exact (mostG_ngt cz602).elim) (fun cz602 => ?_)
          refine lv_aload_n hx hb dL_law_605 rfl (lv_at hl 8 rfl) ?_
          refine lv_iload hx hb dL_law_606 (lv_at hl 3 rfl) ?_
          refine lv_iconst (v := nI 2) hx hb dL_law_608 rfl ?_
          refine z_xi J (z_yV (As := [.int (nI q), .int (nI 2)]) (rest := []) (ci := 7) (q0 := 0) X hRz J (cX6_told_ok l hflags E L490_0 L490_2 L490_4 L490_5 hR hnr hor) (cwV 2 hts (goodIn_ext3 gL_law_X6_told) rfl rfl rfl (by decide +kernel) ⟨Nat.le_of_ble_eq_true rfl, Nat.le_of_ble_eq_true rfl⟩) L490_0 rfl rfl rfl hl.1 rfl (Nat.le_of_ble_eq_true rfl) dL_law_609 ⟨by show _ ≤ 1106048; omega, by show _ ≤ 5783625; omega⟩) (fun nm ce q9 H locs hp9 J h1 h2 h3 => ?_) (fun r609 ws_7 H locs hp9 J => ?_)
          · exact False.elim (by exact absurd hp9.1 (by rw [show kAsk (nI q) (nI nr) (nI 2) 4 = 0 from kAsk_ok (h := 4) (by omega) (by omega) (by decide) (by decide)]; decide))
          obtain ⟨rfl, e_r609⟩ := hp9
          refine W.eq (g2 := F0 m 612 ls [.int (blkG sn (rfi (rd q) (ri q)) (rd q) lim 20)]) (congrArg (fun z9 : Int32 => F0 m 612 ls [.int z9]) (show (r609 : Int32) = blkG sn (rfi (rd q) (ri q)) (rd q) lim 20 from (by rw [e_r609.2, nI_clamp (by omega)]; exact told_2))) ?_
          refine lv_if_le (tgt := 619) hx hb dL_law_612 (by decide) (fun cz612 => ?_) (fun cz612 => ?_)
          · refine lv_iconst (v := 0) hx hb dL_law_619 (by decide) ?_
            refine lv_aload_n hx hb dL_law_620 rfl (lv_at hl 8 rfl) ?_
            refine lv_iload hx hb dL_law_621 (lv_at hl 3 rfl) ?_
            refine lv_iconst (v := nI 4) hx hb dL_law_623 rfl ?_
            refine z_xi J (z_yV (As := [.int (nI q), .int (nI 4)]) (rest := [.int 0]) (ci := 7) (q0 := 0) X hRz J (cX6_told_ok l hflags E L490_0 L490_2 L490_4 L490_5 hR hnr hor) (cwV 2 hts (goodIn_ext3 gL_law_X6_told) rfl rfl rfl (by decide +kernel) ⟨Nat.le_of_ble_eq_true rfl, Nat.le_of_ble_eq_true rfl⟩) L490_0 rfl rfl rfl hl.1 rfl (Nat.le_of_ble_eq_true rfl) dL_law_624 ⟨by show _ ≤ 1106048; omega, by show _ ≤ 5783625; omega⟩) (fun nm ce q9 H locs hp9 J h1 h2 h3 => ?_) (fun r624 ws_8 H locs hp9 J => ?_)
            · exact False.elim (by exact absurd hp9.1 (by rw [show kAsk (nI q) (nI nr) (nI 4) 4 = 0 from kAsk_ok (h := 4) (by omega) (by omega) (by decide) (by decide)]; decide))
            obtain ⟨rfl, e_r624⟩ := hp9
            refine W.eq (g2 := F0 m 627 ls [.int (mostG sn (rfi (rd q) (ri q)) (rd q) 20), .int 0]) (congrArg (fun z9 : Int32 => F0 m 627 ls [.int z9, .int 0]) (show (r624 : Int32) = mostG sn (rfi (rd q) (ri q)) (rd q) 20 from (by rw [e_r624.2, nI_clamp (by omega)]; exact told_4))) ?_
            refine lv_iload hx hb dL_law_627 (lv_at hl 4 rfl) ?_
            refine lv_icmp_lt (tgt := 636) hx hb dL_law_629 (by decide) (fun cz629 => ?_) (fun cz629 => by exact (cz629 ((blk_most hlm 20 (Nat.le_refl _)).mp (blk_pos.mp cz612))).elim)
            refine lv_iconst (v := 0) hx hb dL_law_636 (by decide) ?_
            refine lv_icmp_eq (tgt := 642) hx hb dL_law_637 (by decide) (fun cz637 => ?_) (fun cz637 => by exact absurd cz637 (by decide))
            refine lv_iload hx hb dL_law_642 (lv_at hl 5 rfl) ?_
            refine lv_iload hx hb dL_law_644 (lv_at hl 2 rfl) ?_
            refine lv_iadd hx hb dL_law_646 ?_
            refine W.eq (g2 := F0 m 647 ls [.int (allB sn rd ri lim (q + 1))]) (congrArg (fun z9 : Int32 => F0 m 647 ls [.int z9]) (show ((allB sn rd ri lim q) + (blkG sn (rfi (rd q) (ri q)) (rd q) lim 20) : Int32) = allB sn rd ri lim (q + 1) from rfl)) ?_
            refine lv_istore (lv' := [(18, .int (allB sn rd ri lim (q + 1))), (23, .int (nI 20)), (22, .int (sumG sn (rfi (rd q) (ri q)) (rd q) 20)), (21, .int (blkG sn (rfi (rd q) (ri q)) (rd q) lim 20)), (20, .int (nI q)), (19, .int lim), (16, .long (dgF sn (dg2 (dgR sn rd ri lim) 5 (dg2 (aboutS fa sn) 7 (dgF (dgC nf nr lim sup off plo hrs sn rd ri) 1777 10) nf) nr) 400)), (0, .ref E.2.2.2.2.1), (1, .ref x), (2, .ref z), (3, .int (nI t)), (4, .int xv), (5, .int (nI wd)), (6, .int (nI sg)), (7, .int (nI hh)), (15, .int (mostA sn))]) hx hb dL_law_647 hl (by decide) rfl (fun ls hl => ?_)
            refine lv_aload_n hx hb dL_law_649 rfl (lv_at hl 8 rfl) ?_
            refine lv_iload hx hb dL_law_650 (lv_at hl 12 rfl) ?_
            refine lv_iload hx hb dL_law_652 (lv_at hl 13 rfl) ?_
            refine lv_iload hx hb dL_law_654 (lv_at hl 4 rfl) ?_
            refine z_xi J (z_yV (As := [.int (nI wd), .int (nI sg), .int (nI q)]) (rest := []) (ci := 7) (q0 := 0) X hRz J (cX6_until_ok l hflags E L490_0 L490_1 L490_2 L490_4 L490_5 L490_6 L490_7 L490_8 L490_9 L490_10 hF hnf hok hR hnr) (cwV 3 hts (goodIn_ext3 gL_law_X6_until) rfl rfl rfl (by decide +kernel) ⟨Nat.le_of_ble_eq_true rfl, Nat.le_of_ble_eq_true rfl⟩) L490_0 rfl rfl rfl hl.1 rfl (Nat.le_of_ble_eq_true rfl) dL_law_656 ⟨by show _ ≤ 1106048; omega, by show _ ≤ 5783625; omega⟩) (fun nm ce q9 H locs hp9 J h1 h2 h3 => ?_) (fun r656 ws_9 H locs hp9 J => ?_)
            · exact False.elim (by rcases hp9 with h9 | h9 <;> exact absurd (h9.1.symm.trans (kUntil_ok (q := q) (n := nr) hwd4 hsg1 hsg9 (by omega) (by omega))) (by decide))
            obtain ⟨k9, ⟨t2_9, h2_9, g2_9, G9_a0, G9_a1, G9_a2, e_r656⟩⟩ := hp9
            have hF := hF.keepS k9 (fun q9 hq9 => Or.inl (by simp only [List.mem_cons, rg_mem, List.not_mem_nil, or_false, not_or] at hq9; omega))
            have hR := hR.keepS k9 (fun q9 hq9 => Or.inl (by simp only [List.mem_cons, rg_mem, List.not_mem_nil, or_false, not_or] at hq9; omega))
            have hSN := hSN.keep k9 (fun r9 hr9 => by simp only [List.mem_cons, rg_mem, List.not_mem_nil, or_false, not_or]; omega)
            have hk := hk.step k9 (fun q9 a9 n9 f9 h8 h7 h9 => by simp only [List.mem_cons, rg_mem, List.not_mem_nil, or_false, not_or]; omega)
            have G9_0 := k9.2 0 _ (by decide) L490_0
            have G9_1 := k9.2 1 _ (by decide) L490_1
            have G9_2 := k9.2 2 _ (by decide) L490_2
            have G9_3 := k9.2 3 _ (by decide) L490_3
            have G9_4 := k9.2 4 _ (by decide) L490_4
            have G9_5 := k9.2 5 _ (by decide) L490_5
            have G9_6 := k9.2 6 _ (by decide) L490_6
            have G9_8 := k9.2 8 _ (by decide) L490_8
            have G9_11 := k9.2 11 _ (by decide) L490_11
            have G9_12 := k9.2 14 _ (by decide) L490_12
            have G9_13 := k9.2 qf _ (by simp only [List.mem_cons, List.not_mem_nil, or_false]; omega) L490_13
            have G9_14 := k9.2 qr _ (by simp only [List.mem_cons, List.not_mem_nil, or_false]; omega) L490_14
            refine W.eq (g2 := F0 m 659 ls [.int (untF (untB (nI sg) sup (hgS fa (-1) nf).1 (hgS fa (-1) nf).2 (nI wd) sn rd ri lim q) 49 0)]) (congrArg (fun z9 : Int32 => F0 m 659 ls [.int z9]) (show (r656 : Int32) = untF (untB (nI sg) sup (hgS fa (-1) nf).1 (hgS fa (-1) nf).2 (nI wd) sn rd ri lim q) 49 0 from (by rw [e_r656.2, nI_clamp (by omega)]))) ?_
            rcases untF_sp (F := (untB (nI sg) sup (hgS fa (-1) nf).1 (hgS fa (-1) nf).2 (nI wd) sn rd ri lim q)) 49 0 with ⟨hu1, hu2⟩ | ⟨u, hu1, hu2, hu3, hu4, hu5⟩
            · refine W.eq (g2 := F0 m 659 ls [.int (-1)]) (congrArg (fun z9 : Int32 => F0 m 659 ls [.int z9]) (show (untF (untB (nI sg) sup (hgS fa (-1) nf).1 (hgS fa (-1) nf).2 (nI wd) sn rd ri lim q) 49 0 : Int32) = (-1) from hu1)) ?_
              have hu0 : blkG sn (rfi (rd q) (ri q)) (rd q) lim 20 = 0 := untB_0.symm.trans (hu2 0 (Nat.le_refl _) (by decide))
              refine lv_istore (lv' := [(23, .int (-1)), (18, .int (allB sn rd ri lim (q + 1))), (22, .int (sumG sn (rfi (rd q) (ri q)) (rd q) 20)), (21, .int (blkG sn (rfi (rd q) (ri q)) (rd q) lim 20)), (20, .int (nI q)), (19, .int lim), (16, .long (dgF sn (dg2 (dgR sn rd ri lim) 5 (dg2 (aboutS fa sn) 7 (dgF (dgC nf nr lim sup off plo hrs sn rd ri) 1777 10) nf) nr) 400)), (0, .ref E.2.2.2.2.1), (1, .ref x), (2, .ref z), (3, .int (nI t)), (4, .int xv), (5, .int (nI wd)), (6, .int (nI sg)), (7, .int (nI hh)), (15, .int (mostA sn))]) hx hb dL_law_659 hl (by decide) rfl (fun ls hl => ?_)
              refine lv_iload hx hb dL_law_661 (lv_at hl 0 rfl) ?_
              refine lv_iconst (v := (-1)) hx hb dL_law_663 (by decide) ?_
              refine lv_icmp_lt (tgt := 747) hx hb dL_law_664 (by decide) (fun cz664 => by exact absurd cz664 (by decide)) (fun cz664 => ?_)
              refine lv_iload hx hb dL_law_667 (lv_at hl 0 rfl) ?_
              refine lv_bipush (v := 48) hx hb dL_law_669 (by decide) ?_
              refine lv_icmp_gt (tgt := 747) hx hb dL_law_671 (by decide) (fun cz671 => by exact absurd cz671 (by decide)) (fun cz671 => ?_)
              refine lv_iload hx hb dL_law_674 (lv_at hl 0 rfl) ?_
              refine lv_if_ne (tgt := 683) hx hb dL_law_676 (by decide) (fun cz676 => ?_) (fun cz676 => by exact absurd cz676 (by decide))
              refine lv_iconst (v := 0) hx hb dL_law_683 (by decide) ?_
              refine lv_iload hx hb dL_law_684 (lv_at hl 3 rfl) ?_
              refine lv_if_le (tgt := 693) hx hb dL_law_686 (by decide) (fun cz686 => ?_) (fun cz686 => by exact (cz686 (blk_pos.mpr hu0)).elim)
              refine lv_iconst (v := 0) hx hb dL_law_693 (by decide) ?_
              refine lv_icmp_ne (tgt := 747) hx hb dL_law_694 (by decide) (fun cz694 => by exact absurd cz694 (by decide)) (fun cz694 => ?_)
              refine lv_iload hx hb dL_law_697 (lv_at hl 0 rfl) ?_
              refine lv_if_le (tgt := 749) hx hb dL_law_699 (by decide) (fun cz699 => ?_) (fun cz699 => by exact absurd cz699 (by decide))
              refine lv_iinc (v := nI (q + 1)) (lv' := [(20, .int (nI (q + 1))), (23, .int (-1)), (18, .int (allB sn rd ri lim (q + 1))), (22, .int (sumG sn (rfi (rd q) (ri q)) (rd q) 20)), (21, .int (blkG sn (rfi (rd q) (ri q)) (rd q) lim 20)), (19, .int lim), (16, .long (dgF sn (dg2 (dgR sn rd ri lim) 5 (dg2 (aboutS fa sn) 7 (dgF (dgC nf nr lim sup off plo hrs sn rd ri) 1777 10) nf) nr) 400)), (0, .ref E.2.2.2.2.1), (1, .ref x), (2, .ref z), (3, .int (nI t)), (4, .int xv), (5, .int (nI wd)), (6, .int (nI sg)), (7, .int (nI hh)), (15, .int (mostA sn))]) hx hb dL_law_749 hl (k := 4) rfl (nI_1 q) (by decide) rfl (fun ls hl => ?_)
              refine lv_goto (tgt := 471) hx hb dL_law_752 (by decide) ?_
              refine W.widen (k := (cells + 606 + 438 * (q + 1))) (n := (slots + 4040 + 2910 * (q + 1))) (by omega) (by omega) ?_
              exact ih_471 (q + 1) _ _ _ (by omega) _ _ _ _ hk G9_0 G9_1 G9_2 G9_3 G9_4 G9_5 G9_6 G9_a0 G9_8 G9_a1 G9_a2 G9_11 G9_12 G9_13 G9_14 hF hR hSN J (lv_sub hl [0, 5, 2, 6, 7, 8, 9, 10, 11, 12, 13, 14, 15] rfl)
            · rcases Nat.eq_zero_or_pos u with hu0 | hu0
              · subst hu0
                refine W.eq (g2 := F0 m 659 ls [.int 0]) (congrArg (fun z9 : Int32 => F0 m 659 ls [.int z9]) (show (untF (untB (nI sg) sup (hgS fa (-1) nf).1 (hgS fa (-1) nf).2 (nI wd) sn rd ri lim q) 49 0 : Int32) = 0 from hu3)) ?_
                refine lv_istore (lv' := [(23, .int 0), (18, .int (allB sn rd ri lim (q + 1))), (22, .int (sumG sn (rfi (rd q) (ri q)) (rd q) 20)), (21, .int (blkG sn (rfi (rd q) (ri q)) (rd q) lim 20)), (20, .int (nI q)), (19, .int lim), (16, .long (dgF sn (dg2 (dgR sn rd ri lim) 5 (dg2 (aboutS fa sn) 7 (dgF (dgC nf nr lim sup off plo hrs sn rd ri) 1777 10) nf) nr) 400)), (0, .ref E.2.2.2.2.1), (1, .ref x), (2, .ref z), (3, .int (nI t)), (4, .int xv), (5, .int (nI wd)), (6, .int (nI sg)), (7, .int (nI hh)), (15, .int (mostA sn))]) hx hb dL_law_659 hl (by decide) rfl (fun ls hl => ?_)
                refine lv_iload hx hb dL_law_661 (lv_at hl 0 rfl) ?_
                refine lv_iconst (v := (-1)) hx hb dL_law_663 (by decide) ?_
                refine lv_icmp_lt (tgt := 747) hx hb dL_law_664 (by decide) (fun cz664 => by exact absurd cz664 (by decide)) (fun cz664 => ?_)
                refine lv_iload hx hb dL_law_667 (lv_at hl 0 rfl) ?_
                refine lv_bipush (v := 48) hx hb dL_law_669 (by decide) ?_
                refine lv_icmp_gt (tgt := 747) hx hb dL_law_671 (by decide) (fun cz671 => by exact absurd cz671 (by decide)) (fun cz671 => ?_)
                refine lv_iload hx hb dL_law_674 (lv_at hl 0 rfl) ?_
                refine lv_if_ne (tgt := 683) hx hb dL_law_676 (by decide) (fun cz676 => by exact absurd cz676 (by decide)) (fun cz676 => ?_)
                refine lv_iconst (v := 1) hx hb dL_law_679 (by decide) ?_
                refine lv_goto (tgt := 684) hx hb dL_law_680 (by decide) ?_
                refine lv_iload hx hb dL_law_684 (lv_at hl 3 rfl) ?_
                refine lv_if_le (tgt := 693) hx hb dL_law_686 (by decide) (fun cz686 => by exact (hu4 (untB_0.trans (blk_pos.mp cz686))).elim) (fun cz686 => ?_)
                refine lv_iconst (v := 1) hx hb dL_law_689 (by decide) ?_
                refine lv_goto (tgt := 694) hx hb dL_law_690 (by decide) ?_
                refine lv_icmp_ne (tgt := 747) hx hb dL_law_694 (by decide) (fun cz694 => by exact absurd cz694 (by decide)) (fun cz694 => ?_)
                refine lv_iload hx hb dL_law_697 (lv_at hl 0 rfl) ?_
                refine lv_if_le (tgt := 749) hx hb dL_law_699 (by decide) (fun cz699 => ?_) (fun cz699 => by exact absurd cz699 (by decide))
                refine lv_iinc (v := nI (q + 1)) (lv' := [(20, .int (nI (q + 1))), (23, .int 0), (18, .int (allB sn rd ri lim (q + 1))), (22, .int (sumG sn (rfi (rd q) (ri q)) (rd q) 20)), (21, .int (blkG sn (rfi (rd q) (ri q)) (rd q) lim 20)), (19, .int lim), (16, .long (dgF sn (dg2 (dgR sn rd ri lim) 5 (dg2 (aboutS fa sn) 7 (dgF (dgC nf nr lim sup off plo hrs sn rd ri) 1777 10) nf) nr) 400)), (0, .ref E.2.2.2.2.1), (1, .ref x), (2, .ref z), (3, .int (nI t)), (4, .int xv), (5, .int (nI wd)), (6, .int (nI sg)), (7, .int (nI hh)), (15, .int (mostA sn))]) hx hb dL_law_749 hl (k := 4) rfl (nI_1 q) (by decide) rfl (fun ls hl => ?_)
                refine lv_goto (tgt := 471) hx hb dL_law_752 (by decide) ?_
                refine W.widen (k := (cells + 606 + 438 * (q + 1))) (n := (slots + 4040 + 2910 * (q + 1))) (by omega) (by omega) ?_
                exact ih_471 (q + 1) _ _ _ (by omega) _ _ _ _ hk G9_0 G9_1 G9_2 G9_3 G9_4 G9_5 G9_6 G9_a0 G9_8 G9_a1 G9_a2 G9_11 G9_12 G9_13 G9_14 hF hR hSN J (lv_sub hl [0, 5, 2, 6, 7, 8, 9, 10, 11, 12, 13, 14, 15] rfl)
              · refine W.eq (g2 := F0 m 659 ls [.int (nI u)]) (congrArg (fun z9 : Int32 => F0 m 659 ls [.int z9]) (show (untF (untB (nI sg) sup (hgS fa (-1) nf).1 (hgS fa (-1) nf).2 (nI wd) sn rd ri lim q) 49 0 : Int32) = nI u from hu3)) ?_
                have hu6 : blkG sn (rfi (rd q) (ri q)) (rd q) lim 20 = 0 := untB_0.symm.trans (hu5 0 (Nat.le_refl _) hu0)
                refine lv_istore (lv' := [(23, .int (nI u)), (18, .int (allB sn rd ri lim (q + 1))), (22, .int (sumG sn (rfi (rd q) (ri q)) (rd q) 20)), (21, .int (blkG sn (rfi (rd q) (ri q)) (rd q) lim 20)), (20, .int (nI q)), (19, .int lim), (16, .long (dgF sn (dg2 (dgR sn rd ri lim) 5 (dg2 (aboutS fa sn) 7 (dgF (dgC nf nr lim sup off plo hrs sn rd ri) 1777 10) nf) nr) 400)), (0, .ref E.2.2.2.2.1), (1, .ref x), (2, .ref z), (3, .int (nI t)), (4, .int xv), (5, .int (nI wd)), (6, .int (nI sg)), (7, .int (nI hh)), (15, .int (mostA sn))]) hx hb dL_law_659 hl (by decide) rfl (fun ls hl => ?_)
                refine lv_iload hx hb dL_law_661 (lv_at hl 0 rfl) ?_
                refine lv_iconst (v := (-1)) hx hb dL_law_663 (by decide) ?_
                refine lv_icmp_lt (tgt := 747) hx hb dL_law_664 (by decide) (fun cz664 => by exact (nI_m1lt (by omega) cz664).elim) (fun cz664 => ?_)
                refine lv_iload hx hb dL_law_667 (lv_at hl 0 rfl) ?_
                refine lv_bipush (v := nI 48) hx hb dL_law_669 (by decide) ?_
                refine lv_icmp_gt (tgt := 747) hx hb dL_law_671 (by decide) (fun cz671 => by exact (nI_ngt (by omega) (by decide) cz671).elim) (fun cz671 => ?_)
                refine lv_iload hx hb dL_law_674 (lv_at hl 0 rfl) ?_
                refine lv_if_ne (tgt := 683) hx hb dL_law_676 (by decide) (fun cz676 => ?_) (fun cz676 => by exact absurd ((nI_eq (a := u) (b := 0) (by omega) (by decide)).mp cz676) (by omega))
                refine lv_iconst (v := 0) hx hb dL_law_683 (by decide) ?_
                refine lv_iload hx hb dL_law_684 (lv_at hl 3 rfl) ?_
                refine lv_if_le (tgt := 693) hx hb dL_law_686 (by decide) (fun cz686 => ?_) (fun cz686 => by exact (cz686 (blk_pos.mpr hu6)).elim)
                refine lv_iconst (v := 0) hx hb dL_law_693 (by decide) ?_
                refine lv_icmp_ne (tgt := 747) hx hb dL_law_694 (by decide) (fun cz694 => by exact absurd cz694 (by decide)) (fun cz694 => ?_)
                refine lv_iload hx hb dL_law_697 (lv_at hl 0 rfl) ?_
                refine lv_if_le (tgt := 749) hx hb dL_law_699 (by decide) (fun cz699 => by exact (nI_nle hu0 (by omega) cz699).elim) (fun cz699 => ?_)
                refine lv_iload hx hb dL_law_702 (lv_at hl 0 rfl) ?_
                refine lv_bipush (v := nI 25) hx hb dL_law_704 (by decide) ?_
                refine lv_icmp_ge (tgt := 749) hx hb dL_law_706 (by decide) (fun cz706 => ?_) (fun cz706 => ?_)
                · refine lv_iinc (v := nI (q + 1)) (lv' := [(20, .int (nI (q + 1))), (23, .int (nI u)), (18, .int (allB sn rd ri lim (q + 1))), (22, .int (sumG sn (rfi (rd q) (ri q)) (rd q) 20)), (21, .int (blkG sn (rfi (rd q) (ri q)) (rd q) lim 20)), (19, .int lim), (16, .long (dgF sn (dg2 (dgR sn rd ri lim) 5 (dg2 (aboutS fa sn) 7 (dgF (dgC nf nr lim sup off plo hrs sn rd ri) 1777 10) nf) nr) 400)), (0, .ref E.2.2.2.2.1), (1, .ref x), (2, .ref z), (3, .int (nI t)), (4, .int xv), (5, .int (nI wd)), (6, .int (nI sg)), (7, .int (nI hh)), (15, .int (mostA sn))]) hx hb dL_law_749 hl (k := 4) rfl (nI_1 q) (by decide) rfl (fun ls hl => ?_)
                  refine lv_goto (tgt := 471) hx hb dL_law_752 (by decide) ?_
                  refine W.widen (k := (cells + 606 + 438 * (q + 1))) (n := (slots + 4040 + 2910 * (q + 1))) (by omega) (by omega) ?_
                  exact ih_471 (q + 1) _ _ _ (by omega) _ _ _ _ hk G9_0 G9_1 G9_2 G9_3 G9_4 G9_5 G9_6 G9_a0 G9_8 G9_a1 G9_a2 G9_11 G9_12 G9_13 G9_14 hF hR hSN J (lv_sub hl [0, 5, 2, 6, 7, 8, 9, 10, 11, 12, 13, 14, 15] rfl)
                · have hu25 : u < 25 := Nat.lt_of_not_le (fun q9 => cz706 (nI_le q9 (by omega)))
                  refine lv_aload_n hx hb dL_law_709 rfl (lv_at hl 8 rfl) ?_
                  refine lv_iload hx hb dL_law_710 (lv_at hl 12 rfl) ?_
                  refine lv_iload hx hb dL_law_712 (lv_at hl 13 rfl) ?_
                  refine lv_iload hx hb dL_law_714 (lv_at hl 0 rfl) ?_
                  refine lv_iload hx hb dL_law_716 (lv_at hl 4 rfl) ?_
                  refine z_xi J (z_yV (As := [.int (nI wd), .int (nI sg), .int (nI u), .int (nI q)]) (rest := []) (ci := 7) (q0 := 0) X hRz J (cX6_would_ok l hflags E G9_0 G9_1 G9_2 G9_4 G9_5 G9_6 G9_a0 G9_8 G9_a1 G9_a2 hF hnf hok hR hnr) (cwV 4 hts (goodIn_ext3 gL_law_X6_would) rfl rfl rfl (by decide +kernel) ⟨Nat.le_of_ble_eq_true rfl, Nat.le_of_ble_eq_true rfl⟩) G9_0 rfl rfl rfl hl.1 rfl (Nat.le_of_ble_eq_true rfl) dL_law_718 ⟨by show _ ≤ 1106048; omega, by show _ ≤ 5783625; omega⟩) (fun nm ce q9 H locs hp9 J h1 h2 h3 => ?_) (fun r718 ws_10 H locs hp9 J => ?_)
                  · exact False.elim (by rcases hp9 with h9 | h9 <;> exact absurd (h9.1.symm.trans (kWould_ok (q := q) (n := nr) hwd4 hsg1 hsg9 (h := u) (by omega) (by omega) (by omega) (by omega))) (by decide))
                  obtain ⟨k10, ⟨t2_10, h2_10, g2_10, G10_a0, G10_a1, G10_a2, e_r718⟩⟩ := hp9
                  have hF := hF.keepS k10 (fun q9 hq9 => Or.inl (by simp only [List.mem_cons, rg_mem, List.not_mem_nil, or_false, not_or] at hq9; omega))
                  have hR := hR.keepS k10 (fun q9 hq9 => Or.inl (by simp only [List.mem_cons, rg_mem, List.not_mem_nil, or_false, not_or] at hq9; omega))
                  have hSN := hSN.keep k10 (fun r9 hr9 => by simp only [List.mem_cons, rg_mem, List.not_mem_nil, or_false, not_or]; omega)
                  have hk := hk.step k10 (fun q9 a9 n9 f9 h8 h7 h9 => by simp only [List.mem_cons, rg_mem, List.not_mem_nil, or_false, not_or]; omega)
                  have G10_0 := k10.2 0 _ (by decide) G9_0
                  have G10_1 := k10.2 1 _ (by decide) G9_1
                  have G10_2 := k10.2 2 _ (by decide) G9_2
                  have G10_3 := k10.2 3 _ (by decide) G9_3
                  have G10_4 := k10.2 4 _ (by decide) G9_4
                  have G10_5 := k10.2 5 _ (by decide) G9_5
                  have G10_6 := k10.2 6 _ (by decide) G9_6
                  have G10_8 := k10.2 8 _ (by decide) G9_8
                  have G10_11 := k10.2 11 _ (by decide) G9_11
                  have G10_12 := k10.2 14 _ (by decide) G9_12
                  have G10_13 := k10.2 qf _ (by simp only [List.mem_cons, List.not_mem_nil, or_false]; omega) G9_13
                  have G10_14 := k10.2 qr _ (by simp only [List.mem_cons, List.not_mem_nil, or_false]; omega) G9_14
                  refine W.eq (g2 := F0 m 721 ls [.int ((untB (nI sg) sup (hgS fa (-1) nf).1 (hgS fa (-1) nf).2 (nI wd) sn rd ri lim q) u)]) (congrArg (fun z9 : Int32 => F0 m 721 ls [.int z9]) (show (r718 : Int32) = (untB (nI sg) sup (hgS fa (-1) nf).1 (hgS fa (-1) nf).2 (nI wd) sn rd ri lim q) u from (by rw [e_r718.2, nI_clamp (by omega), nI_clamp (by omega)]; exact untB_u))) ?_
                  refine lv_if_eq (tgt := 747) hx hb dL_law_721 (by decide) (fun cz721 => by exact (hu4 cz721).elim) (fun cz721 => ?_)
                  refine lv_iload hx hb dL_law_724 (lv_at hl 0 rfl) ?_
                  refine lv_iconst (v := nI 1) hx hb dL_law_726 rfl ?_
                  refine lv_icmp_le (tgt := 749) hx hb dL_law_727 (by decide) (fun cz727 => ?_) (fun cz727 => ?_)
                  · refine lv_iinc (v := nI (q + 1)) (lv' := [(20, .int (nI (q + 1))), (23, .int (nI u)), (18, .int (allB sn rd ri lim (q + 1))), (22, .int (sumG sn (rfi (rd q) (ri q)) (rd q) 20)), (21, .int (blkG sn (rfi (rd q) (ri q)) (rd q) lim 20)), (19, .int lim), (16, .long (dgF sn (dg2 (dgR sn rd ri lim) 5 (dg2 (aboutS fa sn) 7 (dgF (dgC nf nr lim sup off plo hrs sn rd ri) 1777 10) nf) nr) 400)), (0, .ref E.2.2.2.2.1), (1, .ref x), (2, .ref z), (3, .int (nI t)), (4, .int xv), (5, .int (nI wd)), (6, .int (nI sg)), (7, .int (nI hh)), (15, .int (mostA sn))]) hx hb dL_law_749 hl (k := 4) rfl (nI_1 q) (by decide) rfl (fun ls hl => ?_)
                    refine lv_goto (tgt := 471) hx hb dL_law_752 (by decide) ?_
                    refine W.widen (k := (cells + 606 + 438 * (q + 1))) (n := (slots + 4040 + 2910 * (q + 1))) (by omega) (by omega) ?_
                    exact ih_471 (q + 1) _ _ _ (by omega) _ _ _ _ hk G10_0 G10_1 G10_2 G10_3 G10_4 G10_5 G10_6 G10_a0 G10_8 G10_a1 G10_a2 G10_11 G10_12 G10_13 G10_14 hF hR hSN J (lv_sub hl [0, 5, 2, 6, 7, 8, 9, 10, 11, 12, 13, 14, 15] rfl)
                  · have hu7 : 1 < u := Nat.lt_of_not_le (fun q9 => cz727 (nI_le q9 (by decide)))
                    refine lv_aload_n hx hb dL_law_730 rfl (lv_at hl 8 rfl) ?_
                    refine lv_iload hx hb dL_law_731 (lv_at hl 12 rfl) ?_
                    refine lv_iload hx hb dL_law_733 (lv_at hl 13 rfl) ?_
                    refine lv_iload hx hb dL_law_735 (lv_at hl 0 rfl) ?_
                    refine lv_iconst (v := 1) hx hb dL_law_737 (by decide) ?_
                    refine lv_isub hx hb dL_law_738 ?_
                    refine W.eq (g2 := F0 m 739 ls [.int (nI (u - 1)), .int (nI sg), .int (nI wd), .ref x]) (congrArg (fun z9 : Int32 => F0 m 739 ls [.int z9, .int (nI sg), .int (nI wd), .ref x]) (show ((nI u) - 1 : Int32) = nI (u - 1) from (nI_sub1 (by omega)))) ?_
                    refine lv_iload hx hb dL_law_739 (lv_at hl 4 rfl) ?_
                    refine z_xi J (z_yV (As := [.int (nI wd), .int (nI sg), .int (nI (u - 1)), .int (nI q)]) (rest := []) (ci := 7) (q0 := 0) X hRz J (cX6_would_ok l hflags E G10_0 G10_1 G10_2 G10_4 G10_5 G10_6 G10_a0 G10_8 G10_a1 G10_a2 hF hnf hok hR hnr) (cwV 4 hts (goodIn_ext3 gL_law_X6_would) rfl rfl rfl (by decide +kernel) ⟨Nat.le_of_ble_eq_true rfl, Nat.le_of_ble_eq_true rfl⟩) G10_0 rfl rfl rfl hl.1 rfl (Nat.le_of_ble_eq_true rfl) dL_law_741 ⟨by show _ ≤ 1106048; omega, by show _ ≤ 5783625; omega⟩) (fun nm ce q9 H locs hp9 J h1 h2 h3 => ?_) (fun r741 ws_11 H locs hp9 J => ?_)
                    · exact False.elim (by rcases hp9 with h9 | h9 <;> exact absurd (h9.1.symm.trans (kWould_ok (q := q) (n := nr) hwd4 hsg1 hsg9 (h := u - 1) (by omega) (by omega) (by omega) (by omega))) (by decide))
                    obtain ⟨k11, ⟨t2_11, h2_11, g2_11, G11_a0, G11_a1, G11_a2, e_r741⟩⟩ := hp9
                    have hF := hF.keepS k11 (fun q9 hq9 => Or.inl (by simp only [List.mem_cons, rg_mem, List.not_mem_nil, or_false, not_or] at hq9; omega))
                    have hR := hR.keepS k11 (fun q9 hq9 => Or.inl (by simp only [List.mem_cons, rg_mem, List.not_mem_nil, or_false, not_or] at hq9; omega))
                    have hSN := hSN.keep k11 (fun r9 hr9 => by simp only [List.mem_cons, rg_mem, List.not_mem_nil, or_false, not_or]; omega)
                    have hk := hk.step k11 (fun q9 a9 n9 f9 h8 h7 h9 => by simp only [List.mem_cons, rg_mem, List.not_mem_nil, or_false, not_or]; omega)
                    have G11_0 := k11.2 0 _ (by decide) G10_0
                    have G11_1 := k11.2 1 _ (by decide) G10_1
                    have G11_2 := k11.2 2 _ (by decide) G10_2
                    have G11_3 := k11.2 3 _ (by decide) G10_3
                    have G11_4 := k11.2 4 _ (by decide) G10_4
                    have G11_5 := k11.2 5 _ (by decide) G10_5
                    have G11_6 := k11.2 6 _ (by decide) G10_6
                    have G11_8 := k11.2 8 _ (by decide) G10_8
                    have G11_11 := k11.2 11 _ (by decide) G10_11
                    have G11_12 := k11.2 14 _ (by decide) G10_12
                    have G11_13 := k11.2 qf _ (by simp only [List.mem_cons, List.not_mem_nil, or_false]; omega) G10_13
                    have G11_14 := k11.2 qr _ (by simp only [List.mem_cons, List.not_mem_nil, or_false]; omega) G10_14
                    refine W.eq (g2 := F0 m 744 ls [.int ((untB (nI sg) sup (hgS fa (-1) nf).1 (hgS fa (-1) nf).2 (nI wd) sn rd ri lim q) (u - 1))]) (congrArg (fun z9 : Int32 => F0 m 744 ls [.int z9]) (show (r741 : Int32) = (untB (nI sg) sup (hgS fa (-1) nf).1 (hgS fa (-1) nf).2 (nI wd) sn rd ri lim q) (u - 1) from (by rw [e_r741.2, nI_clamp (by omega), nI_clamp (by omega)]; exact untB_u))) ?_
                    refine lv_if_le (tgt := 749) hx hb dL_law_744 (by decide) (fun cz744 => ?_) (fun cz744 => by exact (cz744 (by rw [hu5 (u - 1) (by omega) (by omega)]; decide)).elim)
                    refine lv_iinc (v := nI (q + 1)) (lv' := [(20, .int (nI (q + 1))), (23, .int (nI u)), (18, .int (allB sn rd ri lim (q + 1))), (22, .int (sumG sn (rfi (rd q) (ri q)) (rd q) 20)), (21, .int (blkG sn (rfi (rd q) (ri q)) (rd q) lim 20)), (19, .int lim), (16, .long (dgF sn (dg2 (dgR sn rd ri lim) 5 (dg2 (aboutS fa sn) 7 (dgF (dgC nf nr lim sup off plo hrs sn rd ri) 1777 10) nf) nr) 400)), (0, .ref E.2.2.2.2.1), (1, .ref x), (2, .ref z), (3, .int (nI t)), (4, .int xv), (5, .int (nI wd)), (6, .int (nI sg)), (7, .int (nI hh)), (15, .int (mostA sn))]) hx hb dL_law_749 hl (k := 4) rfl (nI_1 q) (by decide) rfl (fun ls hl => ?_)
                    refine lv_goto (tgt := 471) hx hb dL_law_752 (by decide) ?_
                    refine W.widen (k := (cells + 606 + 438 * (q + 1))) (n := (slots + 4040 + 2910 * (q + 1))) (by omega) (by omega) ?_
                    exact ih_471 (q + 1) _ _ _ (by omega) _ _ _ _ hk G11_0 G11_1 G11_2 G11_3 G11_4 G11_5 G11_6 G11_a0 G11_8 G11_a1 G11_a2 G11_11 G11_12 G11_13 G11_14 hF hR hSN J (lv_sub hl [0, 5, 2, 6, 7, 8, 9, 10, 11, 12, 13, 14, 15] rfl)
          · refine lv_iconst (v := 1) hx hb dL_law_615 (by decide) ?_
            refine lv_goto (tgt := 620) hx hb dL_law_616 (by decide) ?_
            refine lv_aload_n hx hb dL_law_620 rfl (lv_at hl 8 rfl) ?_
            refine lv_iload hx hb dL_law_621 (lv_at hl 3 rfl) ?_
            refine lv_iconst (v := nI 4) hx hb dL_law_623 rfl ?_
            refine z_xi J (z_yV (As := [.int (nI q), .int (nI 4)]) (rest := [.int 1]) (ci := 7) (q0 := 0) X hRz J (cX6_told_ok l hflags E L490_0 L490_2 L490_4 L490_5 hR hnr hor) (cwV 2 hts (goodIn_ext3 gL_law_X6_told) rfl rfl rfl (by decide +kernel) ⟨Nat.le_of_ble_eq_true rfl, Nat.le_of_ble_eq_true rfl⟩) L490_0 rfl rfl rfl hl.1 rfl (Nat.le_of_ble_eq_true rfl) dL_law_624 ⟨by show _ ≤ 1106048; omega, by show _ ≤ 5783625; omega⟩) (fun nm ce q9 H locs hp9 J h1 h2 h3 => ?_) (fun r624 ws_8 H locs hp9 J => ?_)
            · exact False.elim (by exact absurd hp9.1 (by rw [show kAsk (nI q) (nI nr) (nI 4) 4 = 0 from kAsk_ok (h := 4) (by omega) (by omega) (by decide) (by decide)]; decide))
            obtain ⟨rfl, e_r624⟩ := hp9
            refine W.eq (g2 := F0 m 627 ls [.int (mostG sn (rfi (rd q) (ri q)) (rd q) 20), .int 1]) (congrArg (fun z9 : Int32 => F0 m 627 ls [.int z9, .int 1]) (show (r624 : Int32) = mostG sn (rfi (rd q) (ri q)) (rd q) 20 from (by rw [e_r624.2, nI_clamp (by omega)]; exact told_4))) ?_
            refine lv_iload hx hb dL_law_627 (lv_at hl 4 rfl) ?_
            refine lv_icmp_lt (tgt := 636) hx hb dL_law_629 (by decide) (fun cz629 => by exact (cz612 (blk_pos.mpr ((blk_most hlm 20 (Nat.le_refl _)).mpr cz629))).elim) (fun cz629 => ?_)
            refine lv_iconst (v := 1) hx hb dL_law_632 (by decide) ?_
            refine lv_goto (tgt := 637) hx hb dL_law_633 (by decide) ?_
            refine lv_icmp_eq (tgt := 642) hx hb dL_law_637 (by decide) (fun cz637 => ?_) (fun cz637 => by exact absurd cz637 (by decide))
            refine lv_iload hx hb dL_law_642 (lv_at hl 5 rfl) ?_
            refine lv_iload hx hb dL_law_644 (lv_at hl 2 rfl) ?_
            refine lv_iadd hx hb dL_law_646 ?_
            refine W.eq (g2 := F0 m 647 ls [.int (allB sn rd ri lim (q + 1))]) (congrArg (fun z9 : Int32 => F0 m 647 ls [.int z9]) (show ((allB sn rd ri lim q) + (blkG sn (rfi (rd q) (ri q)) (rd q) lim 20) : Int32) = allB sn rd ri lim (q + 1) from rfl)) ?_
            refine lv_istore (lv' := [(18, .int (allB sn rd ri lim (q + 1))), (23, .int (nI 20)), (22, .int (sumG sn (rfi (rd q) (ri q)) (rd q) 20)), (21, .int (blkG sn (rfi (rd q) (ri q)) (rd q) lim 20)), (20, .int (nI q)), (19, .int lim), (16, .long (dgF sn (dg2 (dgR sn rd ri lim) 5 (dg2 (aboutS fa sn) 7 (dgF (dgC nf nr lim sup off plo hrs sn rd ri) 1777 10) nf) nr) 400)), (0, .ref E.2.2.2.2.1), (1, .ref x), (2, .ref z), (3, .int (nI t)), (4, .int xv), (5, .int (nI wd)), (6, .int (nI sg)), (7, .int (nI hh)), (15, .int (mostA sn))]) hx hb dL_law_647 hl (by decide) rfl (fun ls hl => ?_)
            refine lv_aload_n hx hb dL_law_649 rfl (lv_at hl 8 rfl) ?_
            refine lv_iload hx hb dL_law_650 (lv_at hl 12 rfl) ?_
            refine lv_iload hx hb dL_law_652 (lv_at hl 13 rfl) ?_
            refine lv_iload hx hb dL_law_654 (lv_at hl 4 rfl) ?_
            refine z_xi J (z_yV (As := [.int (nI wd), .int (nI sg), .int (nI q)]) (rest := []) (ci := 7) (q0 := 0) X hRz J (cX6_until_ok l hflags E L490_0 L490_1 L490_2 L490_4 L490_5 L490_6 L490_7 L490_8 L490_9 L490_10 hF hnf hok hR hnr) (cwV 3 hts (goodIn_ext3 gL_law_X6_until) rfl rfl rfl (by decide +kernel) ⟨Nat.le_of_ble_eq_true rfl, Nat.le_of_ble_eq_true rfl⟩) L490_0 rfl rfl rfl hl.1 rfl (Nat.le_of_ble_eq_true rfl) dL_law_656 ⟨by show _ ≤ 1106048; omega, by show _ ≤ 5783625; omega⟩) (fun nm ce q9 H locs hp9 J h1 h2 h3 => ?_) (fun r656 ws_9 H locs hp9 J => ?_)
            · exact False.elim (by rcases hp9 with h9 | h9 <;> exact absurd (h9.1.symm.trans (kUntil_ok (q := q) (n := nr) hwd4 hsg1 hsg9 (by omega) (by omega))) (by decide))
            obtain ⟨k9, ⟨t2_9, h2_9, g2_9, G9_a0, G9_a1, G9_a2, e_r656⟩⟩ := hp9
            have hF := hF.keepS k9 (fun q9 hq9 => Or.inl (by simp only [List.mem_cons, rg_mem, List.not_mem_nil, or_false, not_or] at hq9; omega))
            have hR := hR.keepS k9 (fun q9 hq9 => Or.inl (by simp only [List.mem_cons, rg_mem, List.not_mem_nil, or_false, not_or] at hq9; omega))
            have hSN := hSN.keep k9 (fun r9 hr9 => by simp only [List.mem_cons, rg_mem, List.not_mem_nil, or_false, not_or]; omega)
            have hk := hk.step k9 (fun q9 a9 n9 f9 h8 h7 h9 => by simp only [List.mem_cons, rg_mem, List.not_mem_nil, or_false, not_or]; omega)
            have G9_0 := k9.2 0 _ (by decide) L490_0
            have G9_1 := k9.2 1 _ (by decide) L490_1
            have G9_2 := k9.2 2 _ (by decide) L490_2
            have G9_3 := k9.2 3 _ (by decide) L490_3
            have G9_4 := k9.2 4 _ (by decide) L490_4
            have G9_5 := k9.2 5 _ (by decide) L490_5
            have G9_6 := k9.2 6 _ (by decide) L490_6
            have G9_8 := k9.2 8 _ (by decide) L490_8
            have G9_11 := k9.2 11 _ (by decide) L490_11
            have G9_12 := k9.2 14 _ (by decide) L490_12
            have G9_13 := k9.2 qf _ (by simp only [List.mem_cons, List.not_mem_nil, or_false]; omega) L490_13
            have G9_14 := k9.2 qr _ (by simp only [List.mem_cons, List.not_mem_nil, or_false]; omega) L490_14
            refine W.eq (g2 := F0 m 659 ls [.int (untF (untB (nI sg) sup (hgS fa (-1) nf).1 (hgS fa (-1) nf).2 (nI wd) sn rd ri lim q) 49 0)]) (congrArg (fun z9 : Int32 => F0 m 659 ls [.int z9]) (show (r656 : Int32) = untF (untB (nI sg) sup (hgS fa (-1) nf).1 (hgS fa (-1) nf).2 (nI wd) sn rd ri lim q) 49 0 from (by rw [e_r656.2, nI_clamp (by omega)]))) ?_
            rcases untF_sp (F := (untB (nI sg) sup (hgS fa (-1) nf).1 (hgS fa (-1) nf).2 (nI wd) sn rd ri lim q)) 49 0 with ⟨hu1, hu2⟩ | ⟨u, hu1, hu2, hu3, hu4, hu5⟩
            · refine W.eq (g2 := F0 m 659 ls [.int (-1)]) (congrArg (fun z9 : Int32 => F0 m 659 ls [.int z9]) (show (untF (untB (nI sg) sup (hgS fa (-1) nf).1 (hgS fa (-1) nf).2 (nI wd) sn rd ri lim q) 49 0 : Int32) = (-1) from hu1)) ?_
              have hu0 : blkG sn (rfi (rd q) (ri q)) (rd q) lim 20 = 0 := untB_0.symm.trans (hu2 0 (Nat.le_refl _) (by decide))
              refine lv_istore (lv' := [(23, .int (-1)), (18, .int (allB sn rd ri lim (q + 1))), (22, .int (sumG sn (rfi (rd q) (ri q)) (rd q) 20)), (21, .int (blkG sn (rfi (rd q) (ri q)) (rd q) lim 20)), (20, .int (nI q)), (19, .int lim), (16, .long (dgF sn (dg2 (dgR sn rd ri lim) 5 (dg2 (aboutS fa sn) 7 (dgF (dgC nf nr lim sup off plo hrs sn rd ri) 1777 10) nf) nr) 400)), (0, .ref E.2.2.2.2.1), (1, .ref x), (2, .ref z), (3, .int (nI t)), (4, .int xv), (5, .int (nI wd)), (6, .int (nI sg)), (7, .int (nI hh)), (15, .int (mostA sn))]) hx hb dL_law_659 hl (by decide) rfl (fun ls hl => ?_)
              refine lv_iload hx hb dL_law_661 (lv_at hl 0 rfl) ?_
              refine lv_iconst (v := (-1)) hx hb dL_law_663 (by decide) ?_
              refine lv_icmp_lt (tgt := 747) hx hb dL_law_664 (by decide) (fun cz664 => by exact absurd cz664 (by decide)) (fun cz664 => ?_)
              refine lv_iload hx hb dL_law_667 (lv_at hl 0 rfl) ?_
              refine lv_bipush (v := 48) hx hb dL_law_669 (by decide) ?_
              refine lv_icmp_gt (tgt := 747) hx hb dL_law_671 (by decide) (fun cz671 => by exact absurd cz671 (by decide)) (fun cz671 => ?_)
              refine lv_iload hx hb dL_law_674 (lv_at hl 0 rfl) ?_
              refine lv_if_ne (tgt := 683) hx hb dL_law_676 (by decide) (fun cz676 => ?_) (fun cz676 => by exact absurd cz676 (by decide))
              refine lv_iconst (v := 0) hx hb dL_law_683 (by decide) ?_
              refine lv_iload hx hb dL_law_684 (lv_at hl 3 rfl) ?_
              refine lv_if_le (tgt := 693) hx hb dL_law_686 (by decide) (fun cz686 => ?_) (fun cz686 => by exact (cz686 (blk_pos.mpr hu0)).elim)
              refine lv_iconst (v := 0) hx hb dL_law_693 (by decide) ?_
              refine lv_icmp_ne (tgt := 747) hx hb dL_law_694 (by decide) (fun cz694 => by exact absurd cz694 (by decide)) (fun cz694 => ?_)
              refine lv_iload hx hb dL_law_697 (lv_at hl 0 rfl) ?_
              refine lv_if_le (tgt := 749) hx hb dL_law_699 (by decide) (fun cz699 => ?_) (fun cz699 => by exact absurd cz699 (by decide))
              refine lv_iinc (v := nI (q + 1)) (lv' := [(20, .int (nI (q + 1))), (23, .int (-1)), (18, .int (allB sn rd ri lim (q + 1))), (22, .int (sumG sn (rfi (rd q) (ri q)) (rd q) 20)), (21, .int (blkG sn (rfi (rd q) (ri q)) (rd q) lim 20)), (19, .int lim), (16, .long (dgF sn (dg2 (dgR sn rd ri lim) 5 (dg2 (aboutS fa sn) 7 (dgF (dgC nf nr lim sup off plo hrs sn rd ri) 1777 10) nf) nr) 400)), (0, .ref E.2.2.2.2.1), (1, .ref x), (2, .ref z), (3, .int (nI t)), (4, .int xv), (5, .int (nI wd)), (6, .int (nI sg)), (7, .int (nI hh)), (15, .int (mostA sn))]) hx hb dL_law_749 hl (k := 4) rfl (nI_1 q) (by decide) rfl (fun ls hl => ?_)
              refine lv_goto (tgt := 471) hx hb dL_law_752 (by decide) ?_
              refine W.widen (k := (cells + 606 + 438 * (q + 1))) (n := (slots + 4040 + 2910 * (q + 1))) (by omega) (by omega) ?_
              exact ih_471 (q + 1) _ _ _ (by omega) _ _ _ _ hk G9_0 G9_1 G9_2 G9_3 G9_4 G9_5 G9_6 G9_a0 G9_8 G9_a1 G9_a2 G9_11 G9_12 G9_13 G9_14 hF hR hSN J (lv_sub hl [0, 5, 2, 6, 7, 8, 9, 10, 11, 12, 13, 14, 15] rfl)
            · rcases Nat.eq_zero_or_pos u with hu0 | hu0
              · subst hu0
                refine W.eq (g2 := F0 m 659 ls [.int 0]) (congrArg (fun z9 : Int32 => F0 m 659 ls [.int z9]) (show (untF (untB (nI sg) sup (hgS fa (-1) nf).1 (hgS fa (-1) nf).2 (nI wd) sn rd ri lim q) 49 0 : Int32) = 0 from hu3)) ?_
                refine lv_istore (lv' := [(23, .int 0), (18, .int (allB sn rd ri lim (q + 1))), (22, .int (sumG sn (rfi (rd q) (ri q)) (rd q) 20)), (21, .int (blkG sn (rfi (rd q) (ri q)) (rd q) lim 20)), (20, .int (nI q)), (19, .int lim), (16, .long (dgF sn (dg2 (dgR sn rd ri lim) 5 (dg2 (aboutS fa sn) 7 (dgF (dgC nf nr lim sup off plo hrs sn rd ri) 1777 10) nf) nr) 400)), (0, .ref E.2.2.2.2.1), (1, .ref x), (2, .ref z), (3, .int (nI t)), (4, .int xv), (5, .int (nI wd)), (6, .int (nI sg)), (7, .int (nI hh)), (15, .int (mostA sn))]) hx hb dL_law_659 hl (by decide) rfl (fun ls hl => ?_)
                refine lv_iload hx hb dL_law_661 (lv_at hl 0 rfl) ?_
                refine lv_iconst (v := (-1)) hx hb dL_law_663 (by decide) ?_
                refine lv_icmp_lt (tgt := 747) hx hb dL_law_664 (by decide) (fun cz664 => by exact absurd cz664 (by decide)) (fun cz664 => ?_)
                refine lv_iload hx hb dL_law_667 (lv_at hl 0 rfl) ?_
                refine lv_bipush (v := 48) hx hb dL_law_669 (by decide) ?_
                refine lv_icmp_gt (tgt := 747) hx hb dL_law_671 (by decide) (fun cz671 => by exact absurd cz671 (by decide)) (fun cz671 => ?_)
                refine lv_iload hx hb dL_law_674 (lv_at hl 0 rfl) ?_
                refine lv_if_ne (tgt := 683) hx hb dL_law_676 (by decide) (fun cz676 => by exact absurd cz676 (by decide)) (fun cz676 => ?_)
                refine lv_iconst (v := 1) hx hb dL_law_679 (by decide) ?_
                refine lv_goto (tgt := 684) hx hb dL_law_680 (by decide) ?_
                refine lv_iload hx hb dL_law_684 (lv_at hl 3 rfl) ?_
                refine lv_if_le (tgt := 693) hx hb dL_law_686 (by decide) (fun cz686 => by exact (hu4 (untB_0.trans (blk_pos.mp cz686))).elim) (fun cz686 => ?_)
                refine lv_iconst (v := 1) hx hb dL_law_689 (by decide) ?_
                refine lv_goto (tgt := 694) hx hb dL_law_690 (by decide) ?_
                refine lv_icmp_ne (tgt := 747) hx hb dL_law_694 (by decide) (fun cz694 => by exact absurd cz694 (by decide)) (fun cz694 => ?_)
                refine lv_iload hx hb dL_law_697 (lv_at hl 0 rfl) ?_
                refine lv_if_le (tgt := 749) hx hb dL_law_699 (by decide) (fun cz699 => ?_) (fun cz699 => by exact absurd cz699 (by decide))
                refine lv_iinc (v := nI (q + 1)) (lv' := [(20, .int (nI (q + 1))), (23, .int 0), (18, .int (allB sn rd ri lim (q + 1))), (22, .int (sumG sn (rfi (rd q) (ri q)) (rd q) 20)), (21, .int (blkG sn (rfi (rd q) (ri q)) (rd q) lim 20)), (19, .int lim), (16, .long (dgF sn (dg2 (dgR sn rd ri lim) 5 (dg2 (aboutS fa sn) 7 (dgF (dgC nf nr lim sup off plo hrs sn rd ri) 1777 10) nf) nr) 400)), (0, .ref E.2.2.2.2.1), (1, .ref x), (2, .ref z), (3, .int (nI t)), (4, .int xv), (5, .int (nI wd)), (6, .int (nI sg)), (7, .int (nI hh)), (15, .int (mostA sn))]) hx hb dL_law_749 hl (k := 4) rfl (nI_1 q) (by decide) rfl (fun ls hl => ?_)
                refine lv_goto (tgt := 471) hx hb dL_law_752 (by decide) ?_
                refine W.widen (k := (cells + 606 + 438 * (q + 1))) (n := (slots + 4040 + 2910 * (q + 1))) (by omega) (by omega) ?_
                exact ih_471 (q + 1) _ _ _ (by omega) _ _ _ _ hk G9_0 G9_1 G9_2 G9_3 G9_4 G9_5 G9_6 G9_a0 G9_8 G9_a1 G9_a2 G9_11 G9_12 G9_13 G9_14 hF hR hSN J (lv_sub hl [0, 5, 2, 6, 7, 8, 9, 10, 11, 12, 13, 14, 15] rfl)
              · refine W.eq (g2 := F0 m 659 ls [.int (nI u)]) (congrArg (fun z9 : Int32 => F0 m 659 ls [.int z9]) (show (untF (untB (nI sg) sup (hgS fa (-1) nf).1 (hgS fa (-1) nf).2 (nI wd) sn rd ri lim q) 49 0 : Int32) = nI u from hu3)) ?_
                have hu6 : blkG sn (rfi (rd q) (ri q)) (rd q) lim 20 = 0 := untB_0.symm.trans (hu5 0 (Nat.le_refl _) hu0)
                refine lv_istore (lv' := [(23, .int (nI u)), (18, .int (allB sn rd ri lim (q + 1))), (22, .int (sumG sn (rfi (rd q) (ri q)) (rd q) 20)), (21, .int (blkG sn (rfi (rd q) (ri q)) (rd q) lim 20)), (20, .int (nI q)), (19, .int lim), (16, .long (dgF sn (dg2 (dgR sn rd ri lim) 5 (dg2 (aboutS fa sn) 7 (dgF (dgC nf nr lim sup off plo hrs sn rd ri) 1777 10) nf) nr) 400)), (0, .ref E.2.2.2.2.1), (1, .ref x), (2, .ref z), (3, .int (nI t)), (4, .int xv), (5, .int (nI wd)), (6, .int (nI sg)), (7, .int (nI hh)), (15, .int (mostA sn))]) hx hb dL_law_659 hl (by decide) rfl (fun ls hl => ?_)
                refine lv_iload hx hb dL_law_661 (lv_at hl 0 rfl) ?_
                refine lv_iconst (v := (-1)) hx hb dL_law_663 (by decide) ?_
                refine lv_icmp_lt (tgt := 747) hx hb dL_law_664 (by decide) (fun cz664 => by exact (nI_m1lt (by omega) cz664).elim) (fun cz664 => ?_)
                refine lv_iload hx hb dL_law_667 (lv_at hl 0 rfl) ?_
                refine lv_bipush (v := nI 48) hx hb dL_law_669 (by decide) ?_
                refine lv_icmp_gt (tgt := 747) hx hb dL_law_671 (by decide) (fun cz671 => by exact (nI_ngt (by omega) (by decide) cz671).elim) (fun cz671 => ?_)
                refine lv_iload hx hb dL_law_674 (lv_at hl 0 rfl) ?_
                refine lv_if_ne (tgt := 683) hx hb dL_law_676 (by decide) (fun cz676 => ?_) (fun cz676 => by exact absurd ((nI_eq (a := u) (b := 0) (by omega) (by decide)).mp cz676) (by omega))
                refine lv_iconst (v := 0) hx hb dL_law_683 (by decide) ?_
                refine lv_iload hx hb dL_law_684 (lv_at hl 3 rfl) ?_
                refine lv_if_le (tgt := 693) hx hb dL_law_686 (by decide) (fun cz686 => ?_) (fun cz686 => by exact (cz686 (blk_pos.mpr hu6)).elim)
                refine lv_iconst (v := 0) hx hb dL_law_693 (by decide) ?_
                refine lv_icmp_ne (tgt := 747) hx hb dL_law_694 (by decide) (fun cz694 => by exact absurd cz694 (by decide)) (fun cz694 => ?_)
                refine lv_iload hx hb dL_law_697 (lv_at hl 0 rfl) ?_
                refine lv_if_le (tgt := 749) hx hb dL_law_699 (by decide) (fun cz699 => by exact (nI_nle hu0 (by omega) cz699).elim) (fun cz699 => ?_)
                refine lv_iload hx hb dL_law_702 (lv_at hl 0 rfl) ?_
                refine lv_bipush (v := nI 25) hx hb dL_law_704 (by decide) ?_
                refine lv_icmp_ge (tgt := 749) hx hb dL_law_706 (by decide) (fun cz706 => ?_) (fun cz706 => ?_)
                · refine lv_iinc (v := nI (q + 1)) (lv' := [(20, .int (nI (q + 1))), (23, .int (nI u)), (18, .int (allB sn rd ri lim (q + 1))), (22, .int (sumG sn (rfi (rd q) (ri q)) (rd q) 20)), (21, .int (blkG sn (rfi (rd q) (ri q)) (rd q) lim 20)), (19, .int lim), (16, .long (dgF sn (dg2 (dgR sn rd ri lim) 5 (dg2 (aboutS fa sn) 7 (dgF (dgC nf nr lim sup off plo hrs sn rd ri) 1777 10) nf) nr) 400)), (0, .ref E.2.2.2.2.1), (1, .ref x), (2, .ref z), (3, .int (nI t)), (4, .int xv), (5, .int (nI wd)), (6, .int (nI sg)), (7, .int (nI hh)), (15, .int (mostA sn))]) hx hb dL_law_749 hl (k := 4) rfl (nI_1 q) (by decide) rfl (fun ls hl => ?_)
                  refine lv_goto (tgt := 471) hx hb dL_law_752 (by decide) ?_
                  refine W.widen (k := (cells + 606 + 438 * (q + 1))) (n := (slots + 4040 + 2910 * (q + 1))) (by omega) (by omega) ?_
                  exact ih_471 (q + 1) _ _ _ (by omega) _ _ _ _ hk G9_0 G9_1 G9_2 G9_3 G9_4 G9_5 G9_6 G9_a0 G9_8 G9_a1 G9_a2 G9_11 G9_12 G9_13 G9_14 hF hR hSN J (lv_sub hl [0, 5, 2, 6, 7, 8, 9, 10, 11, 12, 13, 14, 15] rfl)
                · have hu25 : u < 25 := Nat.lt_of_not_le (fun q9 => cz706 (nI_le q9 (by omega)))
                  refine lv_aload_n hx hb dL_law_709 rfl (lv_at hl 8 rfl) ?_
                  refine lv_iload hx hb dL_law_710 (lv_at hl 12 rfl) ?_
                  refine lv_iload hx hb dL_law_712 (lv_at hl 13 rfl) ?_
                  refine lv_iload hx hb dL_law_714 (lv_at hl 0 rfl) ?_
                  refine lv_iload hx hb dL_law_716 (lv_at hl 4 rfl) ?_
                  refine z_xi J (z_yV (As := [.int (nI wd), .int (nI sg), .int (nI u), .int (nI q)]) (rest := []) (ci := 7) (q0 := 0) X hRz J (cX6_would_ok l hflags E G9_0 G9_1 G9_2 G9_4 G9_5 G9_6 G9_a0 G9_8 G9_a1 G9_a2 hF hnf hok hR hnr) (cwV 4 hts (goodIn_ext3 gL_law_X6_would) rfl rfl rfl (by decide +kernel) ⟨Nat.le_of_ble_eq_true rfl, Nat.le_of_ble_eq_true rfl⟩) G9_0 rfl rfl rfl hl.1 rfl (Nat.le_of_ble_eq_true rfl) dL_law_718 ⟨by show _ ≤ 1106048; omega, by show _ ≤ 5783625; omega⟩) (fun nm ce q9 H locs hp9 J h1 h2 h3 => ?_) (fun r718 ws_10 H locs hp9 J => ?_)
                  · exact False.elim (by rcases hp9 with h9 | h9 <;> exact absurd (h9.1.symm.trans (kWould_ok (q := q) (n := nr) hwd4 hsg1 hsg9 (h := u) (by omega) (by omega) (by omega) (by omega))) (by decide))
                  obtain ⟨k10, ⟨t2_10, h2_10, g2_10, G10_a0, G10_a1, G10_a2, e_r718⟩⟩ := hp9
                  have hF := hF.keepS k10 (fun q9 hq9 => Or.inl (by simp only [List.mem_cons, rg_mem, List.not_mem_nil, or_false, not_or] at hq9; omega))
                  have hR := hR.keepS k10 (fun q9 hq9 => Or.inl (by simp only [List.mem_cons, rg_mem, List.not_mem_nil, or_false, not_or] at hq9; omega))
                  have hSN := hSN.keep k10 (fun r9 hr9 => by simp only [List.mem_cons, rg_mem, List.not_mem_nil, or_false, not_or]; omega)
                  have hk := hk.step k10 (fun q9 a9 n9 f9 h8 h7 h9 => by simp only [List.mem_cons, rg_mem, List.not_mem_nil, or_false, not_or]; omega)
                  have G10_0 := k10.2 0 _ (by decide) G9_0
                  have G10_1 := k10.2 1 _ (by decide) G9_1
                  have G10_2 := k10.2 2 _ (by decide) G9_2
                  have G10_3 := k10.2 3 _ (by decide) G9_3
                  have G10_4 := k10.2 4 _ (by decide) G9_4
                  have G10_5 := k10.2 5 _ (by decide) G9_5
                  have G10_6 := k10.2 6 _ (by decide) G9_6
                  have G10_8 := k10.2 8 _ (by decide) G9_8
                  have G10_11 := k10.2 11 _ (by decide) G9_11
                  have G10_12 := k10.2 14 _ (by decide) G9_12
                  have G10_13 := k10.2 qf _ (by simp only [List.mem_cons, List.not_mem_nil, or_false]; omega) G9_13
                  have G10_14 := k10.2 qr _ (by simp only [List.mem_cons, List.not_mem_nil, or_false]; omega) G9_14
                  refine W.eq (g2 := F0 m 721 ls [.int ((untB (nI sg) sup (hgS fa (-1) nf).1 (hgS fa (-1) nf).2 (nI wd) sn rd ri lim q) u)]) (congrArg (fun z9 : Int32 => F0 m 721 ls [.int z9]) (show (r718 : Int32) = (untB (nI sg) sup (hgS fa (-1) nf).1 (hgS fa (-1) nf).2 (nI wd) sn rd ri lim q) u from (by rw [e_r718.2, nI_clamp (by omega), nI_clamp (by omega)]; exact untB_u))) ?_
                  refine lv_if_eq (tgt := 747) hx hb dL_law_721 (by decide) (fun cz721 => by exact (hu4 cz721).elim) (fun cz721 => ?_)
                  refine lv_iload hx hb dL_law_724 (lv_at hl 0 rfl) ?_
                  refine lv_iconst (v := nI 1) hx hb dL_law_726 rfl ?_
                  refine lv_icmp_le (tgt := 749) hx hb dL_law_727 (by decide) (fun cz727 => ?_) (fun cz727 => ?_)
                  · refine lv_iinc (v := nI (q + 1)) (lv' := [(20, .int (nI (q + 1))), (23, .int (nI u)), (18, .int (allB sn rd ri lim (q + 1))), (22, .int (sumG sn (rfi (rd q) (ri q)) (rd q) 20)), (21, .int (blkG sn (rfi (rd q) (ri q)) (rd q) lim 20)), (19, .int lim), (16, .long (dgF sn (dg2 (dgR sn rd ri lim) 5 (dg2 (aboutS fa sn) 7 (dgF (dgC nf nr lim sup off plo hrs sn rd ri) 1777 10) nf) nr) 400)), (0, .ref E.2.2.2.2.1), (1, .ref x), (2, .ref z), (3, .int (nI t)), (4, .int xv), (5, .int (nI wd)), (6, .int (nI sg)), (7, .int (nI hh)), (15, .int (mostA sn))]) hx hb dL_law_749 hl (k := 4) rfl (nI_1 q) (by decide) rfl (fun ls hl => ?_)
                    refine lv_goto (tgt := 471) hx hb dL_law_752 (by decide) ?_
                    refine W.widen (k := (cells + 606 + 438 * (q + 1))) (n := (slots + 4040 + 2910 * (q + 1))) (by omega) (by omega) ?_
                    exact ih_471 (q + 1) _ _ _ (by omega) _ _ _ _ hk G10_0 G10_1 G10_2 G10_3 G10_4 G10_5 G10_6 G10_a0 G10_8 G10_a1 G10_a2 G10_11 G10_12 G10_13 G10_14 hF hR hSN J (lv_sub hl [0, 5, 2, 6, 7, 8, 9, 10, 11, 12, 13, 14, 15] rfl)
                  · have hu7 : 1 < u := Nat.lt_of_not_le (fun q9 => cz727 (nI_le q9 (by decide)))
                    refine lv_aload_n hx hb dL_law_730 rfl (lv_at hl 8 rfl) ?_
                    refine lv_iload hx hb dL_law_731 (lv_at hl 12 rfl) ?_
                    refine lv_iload hx hb dL_law_733 (lv_at hl 13 rfl) ?_
                    refine lv_iload hx hb dL_law_735 (lv_at hl 0 rfl) ?_
                    refine lv_iconst (v := 1) hx hb dL_law_737 (by decide) ?_
                    refine lv_isub hx hb dL_law_738 ?_
                    refine W.eq (g2 := F0 m 739 ls [.int (nI (u - 1)), .int (nI sg), .int (nI wd), .ref x]) (congrArg (fun z9 : Int32 => F0 m 739 ls [.int z9, .int (nI sg), .int (nI wd), .ref x]) (show ((nI u) - 1 : Int32) = nI (u - 1) from (nI_sub1 (by omega)))) ?_
                    refine lv_iload hx hb dL_law_739 (lv_at hl 4 rfl) ?_
                    refine z_xi J (z_yV (As := [.int (nI wd), .int (nI sg), .int (nI (u - 1)), .int (nI q)]) (rest := []) (ci := 7) (q0 := 0) X hRz J (cX6_would_ok l hflags E G10_0 G10_1 G10_2 G10_4 G10_5 G10_6 G10_a0 G10_8 G10_a1 G10_a2 hF hnf hok hR hnr) (cwV 4 hts (goodIn_ext3 gL_law_X6_would) rfl rfl rfl (by decide +kernel) ⟨Nat.le_of_ble_eq_true rfl, Nat.le_of_ble_eq_true rfl⟩) G10_0 rfl rfl rfl hl.1 rfl (Nat.le_of_ble_eq_true rfl) dL_law_741 ⟨by show _ ≤ 1106048; omega, by show _ ≤ 5783625; omega⟩) (fun nm ce q9 H locs hp9 J h1 h2 h3 => ?_) (fun r741 ws_11 H locs hp9 J => ?_)
                    · exact False.elim (by rcases hp9 with h9 | h9 <;> exact absurd (h9.1.symm.trans (kWould_ok (q := q) (n := nr) hwd4 hsg1 hsg9 (h := u - 1) (by omega) (by omega) (by omega) (by omega))) (by decide))
                    obtain ⟨k11, ⟨t2_11, h2_11, g2_11, G11_a0, G11_a1, G11_a2, e_r741⟩⟩ := hp9
                    have hF := hF.keepS k11 (fun q9 hq9 => Or.inl (by simp only [List.mem_cons, rg_mem, List.not_mem_nil, or_false, not_or] at hq9; omega))
                    have hR := hR.keepS k11 (fun q9 hq9 => Or.inl (by simp only [List.mem_cons, rg_mem, List.not_mem_nil, or_false, not_or] at hq9; omega))
                    have hSN := hSN.keep k11 (fun r9 hr9 => by simp only [List.mem_cons, rg_mem, List.not_mem_nil, or_false, not_or]; omega)
                    have hk := hk.step k11 (fun q9 a9 n9 f9 h8 h7 h9 => by simp only [List.mem_cons, rg_mem, List.not_mem_nil, or_false, not_or]; omega)
                    have G11_0 := k11.2 0 _ (by decide) G10_0
                    have G11_1 := k11.2 1 _ (by decide) G10_1
                    have G11_2 := k11.2 2 _ (by decide) G10_2
                    have G11_3 := k11.2 3 _ (by decide) G10_3
                    have G11_4 := k11.2 4 _ (by decide) G10_4
                    have G11_5 := k11.2 5 _ (by decide) G10_5
                    have G11_6 := k11.2 6 _ (by decide) G10_6
                    have G11_8 := k11.2 8 _ (by decide) G10_8
                    have G11_11 := k11.2 11 _ (by decide) G10_11
                    have G11_12 := k11.2 14 _ (by decide) G10_12
                    have G11_13 := k11.2 qf _ (by simp only [List.mem_cons, List.not_mem_nil, or_false]; omega) G10_13
                    have G11_14 := k11.2 qr _ (by simp only [List.mem_cons, List.not_mem_nil, or_false]; omega) G10_14
                    refine W.eq (g2 := F0 m 744 ls [.int ((untB (nI sg) sup (hgS fa (-1) nf).1 (hgS fa (-1) nf).2 (nI wd) sn rd ri lim q) (u - 1))]) (congrArg (fun z9 : Int32 => F0 m 744 ls [.int z9]) (show (r741 : Int32) = (untB (nI sg) sup (hgS fa (-1) nf).1 (hgS fa (-1) nf).2 (nI wd) sn rd ri lim q) (u - 1) from (by rw [e_r741.2, nI_clamp (by omega), nI_clamp (by omega)]; exact untB_u))) ?_
                    refine lv_if_le (tgt := 749) hx hb dL_law_744 (by decide) (fun cz744 => ?_) (fun cz744 => by exact (cz744 (by rw [hu5 (u - 1) (by omega) (by omega)]; decide)).elim)
                    refine lv_iinc (v := nI (q + 1)) (lv' := [(20, .int (nI (q + 1))), (23, .int (nI u)), (18, .int (allB sn rd ri lim (q + 1))), (22, .int (sumG sn (rfi (rd q) (ri q)) (rd q) 20)), (21, .int (blkG sn (rfi (rd q) (ri q)) (rd q) lim 20)), (19, .int lim), (16, .long (dgF sn (dg2 (dgR sn rd ri lim) 5 (dg2 (aboutS fa sn) 7 (dgF (dgC nf nr lim sup off plo hrs sn rd ri) 1777 10) nf) nr) 400)), (0, .ref E.2.2.2.2.1), (1, .ref x), (2, .ref z), (3, .int (nI t)), (4, .int xv), (5, .int (nI wd)), (6, .int (nI sg)), (7, .int (nI hh)), (15, .int (mostA sn))]) hx hb dL_law_749 hl (k := 4) rfl (nI_1 q) (by decide) rfl (fun ls hl => ?_)
                    refine lv_goto (tgt := 471) hx hb dL_law_752 (by decide) ?_
                    refine W.widen (k := (cells + 606 + 438 * (q + 1))) (n := (slots + 4040 + 2910 * (q + 1))) (by omega) (by omega) ?_
                    exact ih_471 (q + 1) _ _ _ (by omega) _ _ _ _ hk G11_0 G11_1 G11_2 G11_3 G11_4 G11_5 G11_6 G11_a0 G11_8 G11_a1 G11_a2 G11_11 G11_12 G11_13 G11_14 hF hR hSN J (lv_sub hl [0, 5, 2, 6, 7, 8, 9, 10, 11, 12, 13, 14, 15] rfl)
        | succ k9 ih_490 =>
          intro k hik wl490 H locs ls hk L490_0 L490_1 L490_2 L490_3 L490_4 L490_5 L490_6 L490_7 L490_8 L490_9 L490_10 L490_11 L490_12 L490_13 L490_14 hF hR hSN J hl
          refine lv_iload hx hb dL_law_490 (lv_at hl 0 rfl) ?_
          refine lv_bipush (v := nI 20) hx hb dL_law_492 (by decide) ?_
          refine lv_icmp_ge (tgt := 569) hx hb dL_law_494 (by decide) (fun cz494 => by exact (nI_ge (by omega) (by omega) cz494).elim) (fun cz494 => ?_)
          refine lv_aload_n hx hb dL_law_497 rfl (lv_at hl 8 rfl) ?_
          refine lv_iload hx hb dL_law_498 (lv_at hl 3 rfl) ?_
          refine lv_iconst (v := nI 0) hx hb dL_law_500 rfl ?_
          refine z_xi J (z_yV (As := [.int (nI q), .int (nI 0)]) (rest := []) (ci := 7) (q0 := 0) X hRz J (cX6_told_ok l hflags E L490_0 L490_2 L490_4 L490_5 hR hnr hor) (cwV 2 hts (goodIn_ext3 gL_law_X6_told) rfl rfl rfl (by decide +kernel) ⟨Nat.le_of_ble_eq_true rfl, Nat.le_of_ble_eq_true rfl⟩) L490_0 rfl rfl rfl hl.1 rfl (Nat.le_of_ble_eq_true rfl) dL_law_501 ⟨by show _ ≤ 1106048; omega, by show _ ≤ 5783625; omega⟩) (fun nm ce q9 H locs hp9 J h1 h2 h3 => ?_) (fun r501 ws_4 H locs hp9 J => ?_)
          · exact False.elim (by exact absurd hp9.1 (by rw [show kAsk (nI q) (nI nr) (nI 0) 4 = 0 from kAsk_ok (h := 4) (by omega) (by omega) (by decide) (by decide)]; decide))
          obtain ⟨rfl, e_r501⟩ := hp9
          refine W.eq (g2 := F0 m 504 ls [.int (rd q)]) (congrArg (fun z9 : Int32 => F0 m 504 ls [.int z9]) (show (r501 : Int32) = rd q from (by rw [e_r501.2, nI_clamp (by omega)]; exact told_0))) ?_
          refine lv_iconst (v := 1) hx hb dL_law_504 (by decide) ?_
          refine lv_icmp_ne (tgt := 524) hx hb dL_law_505 (by decide) (fun cz505 => ?_) (fun cz505 => ?_)
          · refine lv_aload_n hx hb dL_law_524 rfl (lv_at hl 8 rfl) ?_
            refine lv_iload hx hb dL_law_525 (lv_at hl 0 rfl) ?_
            refine lv_aload_n hx hb dL_law_527 rfl (lv_at hl 8 rfl) ?_
            refine lv_iload hx hb dL_law_528 (lv_at hl 3 rfl) ?_
            refine lv_iconst (v := nI 1) hx hb dL_law_530 rfl ?_
            refine z_xi J (z_yV (As := [.int (nI q), .int (nI 1)]) (rest := [.int (nI k), .ref x]) (ci := 7) (q0 := 0) X hRz J (cX6_told_ok l hflags E L490_0 L490_2 L490_4 L490_5 hR hnr hor) (cwV 2 hts (goodIn_ext3 gL_law_X6_told) rfl rfl rfl (by decide +kernel) ⟨Nat.le_of_ble_eq_true rfl, Nat.le_of_ble_eq_true rfl⟩) L490_0 rfl rfl rfl hl.1 rfl (Nat.le_of_ble_eq_true rfl) dL_law_531 ⟨by show _ ≤ 1106048; omega, by show _ ≤ 5783625; omega⟩) (fun nm ce q9 H locs hp9 J h1 h2 h3 => ?_) (fun r531 ws_5 H locs hp9 J => ?_)
            · exact False.elim (by exact absurd hp9.1 (by rw [show kAsk (nI q) (nI nr) (nI 1) 4 = 0 from kAsk_ok (h := 4) (by omega) (by omega) (by decide) (by decide)]; decide))
            obtain ⟨rfl, e_r531⟩ := hp9
            refine W.eq (g2 := F0 m 534 ls [.int (nI jx), .int (nI k), .ref x]) (congrArg (fun z9 : Int32 => F0 m 534 ls [.int z9, .int (nI k), .ref x]) (show (r531 : Int32) = nI jx from (by rw [e_r531.2, nI_clamp (by omega)]; exact told_1.trans hjy))) ?_
            refine z_xi J (z_yV (As := [.int (nI k), .int (nI jx)]) (rest := []) (ci := 7) (q0 := 0) X hRz J (cX6_snow_ok l hflags E L490_0 L490_4 L490_5) (cwV 2 hts (goodIn_ext3 gL_law_X6_snow) rfl rfl rfl (by decide +kernel) ⟨Nat.le_of_ble_eq_true rfl, Nat.le_of_ble_eq_true rfl⟩) L490_0 rfl rfl rfl hl.1 rfl (Nat.le_of_ble_eq_true rfl) dL_law_534 ⟨by show _ ≤ 1106048; omega, by show _ ≤ 5783625; omega⟩) (fun nm ce q9 H locs hp9 J h1 h2 h3 => ?_) (fun r534 ws_6 H locs hp9 J => ?_)
            · exact False.elim (by exact absurd hp9.1 (by rw [show kSnow (nI k) (nI jx) = 0 from kSnow_ok (by omega) (by omega)]; decide))
            obtain ⟨rfl, e_r534⟩ := hp9
            refine W.eq (g2 := F0 m 537 ls [.int (gd sn (cellAt (rfi (rd q) (ri q)) (rd q) k))]) (congrArg (fun z9 : Int32 => F0 m 537 ls [.int z9]) (show (r534 : Int32) = gd sn (cellAt (rfi (rd q) (ri q)) (rd q) k) from (e_r534.2.trans ((snow_at (by omega) (by omega)).trans (on_a jd cz505 hjy hjx (by omega)).symm)))) ?_
            refine lv_istore (lv' := [(24, .int (gd sn (cellAt (rfi (rd q) (ri q)) (rd q) k))), (23, .int (nI k)), (22, .int (sumG sn (rfi (rd q) (ri q)) (rd q) k)), (21, .int (blkG sn (rfi (rd q) (ri q)) (rd q) lim k)), (20, .int (nI q)), (19, .int lim), (18, .int (allB sn rd ri lim q)), (16, .long (dgF sn (dg2 (dgR sn rd ri lim) 5 (dg2 (aboutS fa sn) 7 (dgF (dgC nf nr lim sup off plo hrs sn rd ri) 1777 10) nf) nr) 400)), (0, .ref E.2.2.2.2.1), (1, .ref x), (2, .ref z), (3, .int (nI t)), (4, .int xv), (5, .int (nI wd)), (6, .int (nI sg)), (7, .int (nI hh)), (15, .int (mostA sn))]) hx hb dL_law_537 hl (by decide) rfl (fun ls hl => ?_)
            refine lv_iload hx hb dL_law_539 (lv_at hl 3 rfl) ?_
            refine lv_iload hx hb dL_law_541 (lv_at hl 0 rfl) ?_
            refine lv_iload hx hb dL_law_543 (lv_at hl 5 rfl) ?_
            refine lv_icmp_lt (tgt := 552) hx hb dL_law_545 (by decide) (fun cz545 => ?_) (fun cz545 => ?_)
            · refine lv_iconst (v := 0) hx hb dL_law_552 (by decide) ?_
              refine lv_iadd hx hb dL_law_553 ?_
              refine W.eq (g2 := F0 m 554 ls [.int (blkG sn (rfi (rd q) (ri q)) (rd q) lim (k + 1))]) (congrArg (fun z9 : Int32 => F0 m 554 ls [.int z9]) (show ((blkG sn (rfi (rd q) (ri q)) (rd q) lim k) + 0 : Int32) = blkG sn (rfi (rd q) (ri q)) (rd q) lim (k + 1) from (by rw [show blkG sn (rfi (rd q) (ri q)) (rd q) lim (k + 1) = _ from if_pos cz545]; exact Int32.add_zero _))) ?_
              refine lv_istore (lv' := [(21, .int (blkG sn (rfi (rd q) (ri q)) (rd q) lim (k + 1))), (24, .int (gd sn (cellAt (rfi (rd q) (ri q)) (rd q) k))), (23, .int (nI k)), (22, .int (sumG sn (rfi (rd q) (ri q)) (rd q) k)), (20, .int (nI q)), (19, .int lim), (18, .int (allB sn rd ri lim q)), (16, .long (dgF sn (dg2 (dgR sn rd ri lim) 5 (dg2 (aboutS fa sn) 7 (dgF (dgC nf nr lim sup off plo hrs sn rd ri) 1777 10) nf) nr) 400)), (0, .ref E.2.2.2.2.1), (1, .ref x), (2, .ref z), (3, .int (nI t)), (4, .int xv), (5, .int (nI wd)), (6, .int (nI sg)), (7, .int (nI hh)), (15, .int (mostA sn))]) hx hb dL_law_554 hl (by decide) rfl (fun ls hl => ?_)
              refine lv_iload hx hb dL_law_556 (lv_at hl 3 rfl) ?_
              refine lv_iload hx hb dL_law_558 (lv_at hl 1 rfl) ?_
              refine lv_iadd hx hb dL_law_560 ?_
              refine W.eq (g2 := F0 m 561 ls [.int (sumG sn (rfi (rd q) (ri q)) (rd q) (k + 1))]) (congrArg (fun z9 : Int32 => F0 m 561 ls [.int z9]) (show ((sumG sn (rfi (rd q) (ri q)) (rd q) k) + (gd sn (cellAt (rfi (rd q) (ri q)) (rd q) k)) : Int32) = sumG sn (rfi (rd q) (ri q)) (rd q) (k + 1) from rfl)) ?_
              refine lv_istore (lv' := [(22, .int (sumG sn (rfi (rd q) (ri q)) (rd q) (k + 1))), (21, .int (blkG sn (rfi (rd q) (ri q)) (rd q) lim (k + 1))), (24, .int (gd sn (cellAt (rfi (rd q) (ri q)) (rd q) k))), (23, .int (nI k)), (20, .int (nI q)), (19, .int lim), (18, .int (allB sn rd ri lim q)), (16, .long (dgF sn (dg2 (dgR sn rd ri lim) 5 (dg2 (aboutS fa sn) 7 (dgF (dgC nf nr lim sup off plo hrs sn rd ri) 1777 10) nf) nr) 400)), (0, .ref E.2.2.2.2.1), (1, .ref x), (2, .ref z), (3, .int (nI t)), (4, .int xv), (5, .int (nI wd)), (6, .int (nI sg)), (7, .int (nI hh)), (15, .int (mostA sn))]) hx hb dL_law_561 hl (by decide) rfl (fun ls hl => ?_)
              refine lv_iinc (v := nI (k + 1)) (lv' := [(23, .int (nI (k + 1))), (22, .int (sumG sn (rfi (rd q) (ri q)) (rd q) (k + 1))), (21, .int (blkG sn (rfi (rd q) (ri q)) (rd q) lim (k + 1))), (24, .int (gd sn (cellAt (rfi (rd q) (ri q)) (rd q) k))), (20, .int (nI q)), (19, .int lim), (18, .int (allB sn rd ri lim q)), (16, .long (dgF sn (dg2 (dgR sn rd ri lim) 5 (dg2 (aboutS fa sn) 7 (dgF (dgC nf nr lim sup off plo hrs sn rd ri) 1777 10) nf) nr) 400)), (0, .ref E.2.2.2.2.1), (1, .ref x), (2, .ref z), (3, .int (nI t)), (4, .int xv), (5, .int (nI wd)), (6, .int (nI sg)), (7, .int (nI hh)), (15, .int (mostA sn))]) hx hb dL_law_563 hl (k := 3) rfl (nI_1 k) (by decide) rfl (fun ls hl => ?_)
              refine lv_goto (tgt := 490) hx hb dL_law_566 (by decide) ?_
              refine W.widen (k := (cells + 612 + 438 * q + 18 * (k + 1))) (n := (slots + 4080 + 2910 * q + 120 * (k + 1))) (by omega) (by omega) ?_
              exact ih_490 (k + 1) (by omega) _ _ _ _ hk L490_0 L490_1 L490_2 L490_3 L490_4 L490_5 L490_6 L490_7 L490_8 L490_9 L490_10 L490_11 L490_12 L490_13 L490_14 hF hR hSN J (lv_sub hl [0, 1, 2, 4, 5, 6, 7, 8, 9, 10, 11, 12, 13, 14, 15, 16] rfl)
            · refine lv_iconst (v := 1) hx hb dL_law_548 (by decide) ?_
              refine lv_goto (tgt := 553) hx hb dL_law_549 (by decide) ?_
              refine lv_iadd hx hb dL_law_553 ?_
              refine W.eq (g2 := F0 m 554 ls [.int (blkG sn (rfi (rd q) (ri q)) (rd q) lim (k + 1))]) (congrArg (fun z9 : Int32 => F0 m 554 ls [.int z9]) (show ((blkG sn (rfi (rd q) (ri q)) (rd q) lim k) + 1 : Int32) = blkG sn (rfi (rd q) (ri q)) (rd q) lim (k + 1) from (by rw [show blkG sn (rfi (rd q) (ri q)) (rd q) lim (k + 1) = _ from if_neg cz545]))) ?_
              refine lv_istore (lv' := [(21, .int (blkG sn (rfi (rd q) (ri q)) (rd q) lim (k + 1))), (24, .int (gd sn (cellAt (rfi (rd q) (ri q)) (rd q) k))), (23, .int (nI k)), (22, .int (sumG sn (rfi (rd q) (ri q)) (rd q) k)), (20, .int (nI q)), (19, .int lim), (18, .int (allB sn rd ri lim q)), (16, .long (dgF sn (dg2 (dgR sn rd ri lim) 5 (dg2 (aboutS fa sn) 7 (dgF (dgC nf nr lim sup off plo hrs sn rd ri) 1777 10) nf) nr) 400)), (0, .ref E.2.2.2.2.1), (1, .ref x), (2, .ref z), (3, .int (nI t)), (4, .int xv), (5, .int (nI wd)), (6, .int (nI sg)), (7, .int (nI hh)), (15, .int (mostA sn))]) hx hb dL_law_554 hl (by decide) rfl (fun ls hl => ?_)
              refine lv_iload hx hb dL_law_556 (lv_at hl 3 rfl) ?_
              refine lv_iload hx hb dL_law_558 (lv_at hl 1 rfl) ?_
              refine lv_iadd hx hb dL_law_560 ?_
              refine W.eq (g2 := F0 m 561 ls [.int (sumG sn (rfi (rd q) (ri q)) (rd q) (k + 1))]) (congrArg (fun z9 : Int32 => F0 m 561 ls [.int z9]) (show ((sumG sn (rfi (rd q) (ri q)) (rd q) k) + (gd sn (cellAt (rfi (rd q) (ri q)) (rd q) k)) : Int32) = sumG sn (rfi (rd q) (ri q)) (rd q) (k + 1) from rfl)) ?_
              refine lv_istore (lv' := [(22, .int (sumG sn (rfi (rd q) (ri q)) (rd q) (k + 1))), (21, .int (blkG sn (rfi (rd q) (ri q)) (rd q) lim (k + 1))), (24, .int (gd sn (cellAt (rfi (rd q) (ri q)) (rd q) k))), (23, .int (nI k)), (20, .int (nI q)), (19, .int lim), (18, .int (allB sn rd ri lim q)), (16, .long (dgF sn (dg2 (dgR sn rd ri lim) 5 (dg2 (aboutS fa sn) 7 (dgF (dgC nf nr lim sup off plo hrs sn rd ri) 1777 10) nf) nr) 400)), (0, .ref E.2.2.2.2.1), (1, .ref x), (2, .ref z), (3, .int (nI t)), (4, .int xv), (5, .int (nI wd)), (6, .int (nI sg)), (7, .int (nI hh)), (15, .int (mostA sn))]) hx hb dL_law_561 hl (by decide) rfl (fun ls hl => ?_)
              refine lv_iinc (v := nI (k + 1)) (lv' := [(23, .int (nI (k + 1))), (22, .int (sumG sn (rfi (rd q) (ri q)) (rd q) (k + 1))), (21, .int (blkG sn (rfi (rd q) (ri q)) (rd q) lim (k + 1))), (24, .int (gd sn (cellAt (rfi (rd q) (ri q)) (rd q) k))), (20, .int (nI q)), (19, .int lim), (18, .int (allB sn rd ri lim q)), (16, .long (dgF sn (dg2 (dgR sn rd ri lim) 5 (dg2 (aboutS fa sn) 7 (dgF (dgC nf nr lim sup off plo hrs sn rd ri) 1777 10) nf) nr) 400)), (0, .ref E.2.2.2.2.1), (1, .ref x), (2, .ref z), (3, .int (nI t)), (4, .int xv), (5, .int (nI wd)), (6, .int (nI sg)), (7, .int (nI hh)), (15, .int (mostA sn))]) hx hb dL_law_563 hl (k := 3) rfl (nI_1 k) (by decide) rfl (fun ls hl => ?_)
              refine lv_goto (tgt := 490) hx hb dL_law_566 (by decide) ?_
              refine W.widen (k := (cells + 612 + 438 * q + 18 * (k + 1))) (n := (slots + 4080 + 2910 * q + 120 * (k + 1))) (by omega) (by omega) ?_
              exact ih_490 (k + 1) (by omega) _ _ _ _ hk L490_0 L490_1 L490_2 L490_3 L490_4 L490_5 L490_6 L490_7 L490_8 L490_9 L490_10 L490_11 L490_12 L490_13 L490_14 hF hR hSN J (lv_sub hl [0, 1, 2, 4, 5, 6, 7, 8, 9, 10, 11, 12, 13, 14, 15, 16] rfl)
          · refine lv_aload_n hx hb dL_law_508 rfl (lv_at hl 8 rfl) ?_
            refine lv_aload_n hx hb dL_law_509 rfl (lv_at hl 8 rfl) ?_
            refine lv_iload hx hb dL_law_510 (lv_at hl 3 rfl) ?_
            refine lv_iconst (v := nI 1) hx hb dL_law_512 rfl ?_
            refine z_xi J (z_yV (As := [.int (nI q), .int (nI 1)]) (rest := [.ref x]) (ci := 7) (q0 := 0) X hRz J (cX6_told_ok l hflags E L490_0 L490_2 L490_4 L490_5 hR hnr hor) (cwV 2 hts (goodIn_ext3 gL_law_X6_told) rfl rfl rfl (by decide +kernel) ⟨Nat.le_of_ble_eq_true rfl, Nat.le_of_ble_eq_true rfl⟩) L490_0 rfl rfl rfl hl.1 rfl (Nat.le_of_ble_eq_true rfl) dL_law_513 ⟨by show _ ≤ 1106048; omega, by show _ ≤ 5783625; omega⟩) (fun nm ce q9 H locs hp9 J h1 h2 h3 => ?_) (fun r513 ws_5 H locs hp9 J => ?_)
            · exact False.elim (by exact absurd hp9.1 (by rw [show kAsk (nI q) (nI nr) (nI 1) 4 = 0 from kAsk_ok (h := 4) (by omega) (by omega) (by decide) (by decide)]; decide))
            obtain ⟨rfl, e_r513⟩ := hp9
            refine W.eq (g2 := F0 m 516 ls [.int (nI jx), .ref x]) (congrArg (fun z9 : Int32 => F0 m 516 ls [.int z9, .ref x]) (show (r513 : Int32) = nI jx from (by rw [e_r513.2, nI_clamp (by omega)]; exact told_1.trans hjy))) ?_
            refine lv_iload hx hb dL_law_516 (lv_at hl 0 rfl) ?_
            refine z_xi J (z_yV (As := [.int (nI jx), .int (nI k)]) (rest := []) (ci := 7) (q0 := 0) X hRz J (cX6_snow_ok l hflags E L490_0 L490_4 L490_5) (cwV 2 hts (goodIn_ext3 gL_law_X6_snow) rfl rfl rfl (by decide +kernel) ⟨Nat.le_of_ble_eq_true rfl, Nat.le_of_ble_eq_true rfl⟩) L490_0 rfl rfl rfl hl.1 rfl (Nat.le_of_ble_eq_true rfl) dL_law_518 ⟨by show _ ≤ 1106048; omega, by show _ ≤ 5783625; omega⟩) (fun nm ce q9 H locs hp9 J h1 h2 h3 => ?_) (fun r518 ws_6 H locs hp9 J => ?_)
            · exact False.elim (by exact absurd hp9.1 (by rw [show kSnow (nI jx) (nI k) = 0 from kSnow_ok (by omega) (by omega)]; decide))
            obtain ⟨rfl, e_r518⟩ := hp9
            refine W.eq (g2 := F0 m 521 ls [.int (gd sn (cellAt (rfi (rd q) (ri q)) (rd q) k))]) (congrArg (fun z9 : Int32 => F0 m 521 ls [.int z9]) (show (r518 : Int32) = gd sn (cellAt (rfi (rd q) (ri q)) (rd q) k) from (e_r518.2.trans ((snow_at (by omega) (by omega)).trans (on_d cz505 hjy hjx (by omega)).symm)))) ?_
            refine lv_goto (tgt := 537) hx hb dL_law_521 (by decide) ?_
            refine lv_istore (lv' := [(24, .int (gd sn (cellAt (rfi (rd q) (ri q)) (rd q) k))), (23, .int (nI k)), (22, .int (sumG sn (rfi (rd q) (ri q)) (rd q) k)), (21, .int (blkG sn (rfi (rd q) (ri q)) (rd q) lim k)), (20, .int (nI q)), (19, .int lim), (18, .int (allB sn rd ri lim q)), (16, .long (dgF sn (dg2 (dgR sn rd ri lim) 5 (dg2 (aboutS fa sn) 7 (dgF (dgC nf nr lim sup off plo hrs sn rd ri) 1777 10) nf) nr) 400)), (0, .ref E.2.2.2.2.1), (1, .ref x), (2, .ref z), (3, .int (nI t)), (4, .int xv), (5, .int (nI wd)), (6, .int (nI sg)), (7, .int (nI hh)), (15, .int (mostA sn))]) hx hb dL_law_537 hl (by decide) rfl (fun ls hl => ?_)
            refine lv_iload hx hb dL_law_539 (lv_at hl 3 rfl) ?_
            refine lv_iload hx hb dL_law_541 (lv_at hl 0 rfl) ?_
            refine lv_iload hx hb dL_law_543 (lv_at hl 5 rfl) ?_
            refine lv_icmp_lt (tgt := 552) hx hb dL_law_545 (by decide) (fun cz545 => ?_) (fun cz545 => ?_)
            · refine lv_iconst (v := 0) hx hb dL_law_552 (by decide) ?_
              refine lv_iadd hx hb dL_law_553 ?_
              refine W.eq (g2 := F0 m 554 ls [.int (blkG sn (rfi (rd q) (ri q)) (rd q) lim (k + 1))]) (congrArg (fun z9 : Int32 => F0 m 554 ls [.int z9]) (show ((blkG sn (rfi (rd q) (ri q)) (rd q) lim k) + 0 : Int32) = blkG sn (rfi (rd q) (ri q)) (rd q) lim (k + 1) from (by rw [show blkG sn (rfi (rd q) (ri q)) (rd q) lim (k + 1) = _ from if_pos cz545]; exact Int32.add_zero _))) ?_
              refine lv_istore (lv' := [(21, .int (blkG sn (rfi (rd q) (ri q)) (rd q) lim (k + 1))), (24, .int (gd sn (cellAt (rfi (rd q) (ri q)) (rd q) k))), (23, .int (nI k)), (22, .int (sumG sn (rfi (rd q) (ri q)) (rd q) k)), (20, .int (nI q)), (19, .int lim), (18, .int (allB sn rd ri lim q)), (16, .long (dgF sn (dg2 (dgR sn rd ri lim) 5 (dg2 (aboutS fa sn) 7 (dgF (dgC nf nr lim sup off plo hrs sn rd ri) 1777 10) nf) nr) 400)), (0, .ref E.2.2.2.2.1), (1, .ref x), (2, .ref z), (3, .int (nI t)), (4, .int xv), (5, .int (nI wd)), (6, .int (nI sg)), (7, .int (nI hh)), (15, .int (mostA sn))]) hx hb dL_law_554 hl (by decide) rfl (fun ls hl => ?_)
              refine lv_iload hx hb dL_law_556 (lv_at hl 3 rfl) ?_
              refine lv_iload hx hb dL_law_558 (lv_at hl 1 rfl) ?_
              refine lv_iadd hx hb dL_law_560 ?_
              refine W.eq (g2 := F0 m 561 ls [.int (sumG sn (rfi (rd q) (ri q)) (rd q) (k + 1))]) (congrArg (fun z9 : Int32 => F0 m 561 ls [.int z9]) (show ((sumG sn (rfi (rd q) (ri q)) (rd q) k) + (gd sn (cellAt (rfi (rd q) (ri q)) (rd q) k)) : Int32) = sumG sn (rfi (rd q) (ri q)) (rd q) (k + 1) from rfl)) ?_
              refine lv_istore (lv' := [(22, .int (sumG sn (rfi (rd q) (ri q)) (rd q) (k + 1))), (21, .int (blkG sn (rfi (rd q) (ri q)) (rd q) lim (k + 1))), (24, .int (gd sn (cellAt (rfi (rd q) (ri q)) (rd q) k))), (23, .int (nI k)), (20, .int (nI q)), (19, .int lim), (18, .int (allB sn rd ri lim q)), (16, .long (dgF sn (dg2 (dgR sn rd ri lim) 5 (dg2 (aboutS fa sn) 7 (dgF (dgC nf nr lim sup off plo hrs sn rd ri) 1777 10) nf) nr) 400)), (0, .ref E.2.2.2.2.1), (1, .ref x), (2, .ref z), (3, .int (nI t)), (4, .int xv), (5, .int (nI wd)), (6, .int (nI sg)), (7, .int (nI hh)), (15, .int (mostA sn))]) hx hb dL_law_561 hl (by decide) rfl (fun ls hl => ?_)
              refine lv_iinc (v := nI (k + 1)) (lv' := [(23, .int (nI (k + 1))), (22, .int (sumG sn (rfi (rd q) (ri q)) (rd q) (k + 1))), (21, .int (blkG sn (rfi (rd q) (ri q)) (rd q) lim (k + 1))), (24, .int (gd sn (cellAt (rfi (rd q) (ri q)) (rd q) k))), (20, .int (nI q)), (19, .int lim), (18, .int (allB sn rd ri lim q)), (16, .long (dgF sn (dg2 (dgR sn rd ri lim) 5 (dg2 (aboutS fa sn) 7 (dgF (dgC nf nr lim sup off plo hrs sn rd ri) 1777 10) nf) nr) 400)), (0, .ref E.2.2.2.2.1), (1, .ref x), (2, .ref z), (3, .int (nI t)), (4, .int xv), (5, .int (nI wd)), (6, .int (nI sg)), (7, .int (nI hh)), (15, .int (mostA sn))]) hx hb dL_law_563 hl (k := 3) rfl (nI_1 k) (by decide) rfl (fun ls hl => ?_)
              refine lv_goto (tgt := 490) hx hb dL_law_566 (by decide) ?_
              refine W.widen (k := (cells + 612 + 438 * q + 18 * (k + 1))) (n := (slots + 4080 + 2910 * q + 120 * (k + 1))) (by omega) (by omega) ?_
              exact ih_490 (k + 1) (by omega) _ _ _ _ hk L490_0 L490_1 L490_2 L490_3 L490_4 L490_5 L490_6 L490_7 L490_8 L490_9 L490_10 L490_11 L490_12 L490_13 L490_14 hF hR hSN J (lv_sub hl [0, 1, 2, 4, 5, 6, 7, 8, 9, 10, 11, 12, 13, 14, 15, 16] rfl)
            · refine lv_iconst (v := 1) hx hb dL_law_548 (by decide) ?_
              refine lv_goto (tgt := 553) hx hb dL_law_549 (by decide) ?_
              refine lv_iadd hx hb dL_law_553 ?_
              refine W.eq (g2 := F0 m 554 ls [.int (blkG sn (rfi (rd q) (ri q)) (rd q) lim (k + 1))]) (congrArg (fun z9 : Int32 => F0 m 554 ls [.int z9]) (show ((blkG sn (rfi (rd q) (ri q)) (rd q) lim k) + 1 : Int32) = blkG sn (rfi (rd q) (ri q)) (rd q) lim (k + 1) from (by rw [show blkG sn (rfi (rd q) (ri q)) (rd q) lim (k + 1) = _ from if_neg cz545]))) ?_
              refine lv_istore (lv' := [(21, .int (blkG sn (rfi (rd q) (ri q)) (rd q) lim (k + 1))), (24, .int (gd sn (cellAt (rfi (rd q) (ri q)) (rd q) k))), (23, .int (nI k)), (22, .int (sumG sn (rfi (rd q) (ri q)) (rd q) k)), (20, .int (nI q)), (19, .int lim), (18, .int (allB sn rd ri lim q)), (16, .long (dgF sn (dg2 (dgR sn rd ri lim) 5 (dg2 (aboutS fa sn) 7 (dgF (dgC nf nr lim sup off plo hrs sn rd ri) 1777 10) nf) nr) 400)), (0, .ref E.2.2.2.2.1), (1, .ref x), (2, .ref z), (3, .int (nI t)), (4, .int xv), (5, .int (nI wd)), (6, .int (nI sg)), (7, .int (nI hh)), (15, .int (mostA sn))]) hx hb dL_law_554 hl (by decide) rfl (fun ls hl => ?_)
              refine lv_iload hx hb dL_law_556 (lv_at hl 3 rfl) ?_
              refine lv_iload hx hb dL_law_558 (lv_at hl 1 rfl) ?_
              refine lv_iadd hx hb dL_law_560 ?_
              refine W.eq (g2 := F0 m 561 ls [.int (sumG sn (rfi (rd q) (ri q)) (rd q) (k + 1))]) (congrArg (fun z9 : Int32 => F0 m 561 ls [.int z9]) (show ((sumG sn (rfi (rd q) (ri q)) (rd q) k) + (gd sn (cellAt (rfi (rd q) (ri q)) (rd q) k)) : Int32) = sumG sn (rfi (rd q) (ri q)) (rd q) (k + 1) from rfl)) ?_
              refine lv_istore (lv' := [(22, .int (sumG sn (rfi (rd q) (ri q)) (rd q) (k + 1))), (21, .int (blkG sn (rfi (rd q) (ri q)) (rd q) lim (k + 1))), (24, .int (gd sn (cellAt (rfi (rd q) (ri q)) (rd q) k))), (23, .int (nI k)), (20, .int (nI q)), (19, .int lim), (18, .int (allB sn rd ri lim q)), (16, .long (dgF sn (dg2 (dgR sn rd ri lim) 5 (dg2 (aboutS fa sn) 7 (dgF (dgC nf nr lim sup off plo hrs sn rd ri) 1777 10) nf) nr) 400)), (0, .ref E.2.2.2.2.1), (1, .ref x), (2, .ref z), (3, .int (nI t)), (4, .int xv), (5, .int (nI wd)), (6, .int (nI sg)), (7, .int (nI hh)), (15, .int (mostA sn))]) hx hb dL_law_561 hl (by decide) rfl (fun ls hl => ?_)
              refine lv_iinc (v := nI (k + 1)) (lv' := [(23, .int (nI (k + 1))), (22, .int (sumG sn (rfi (rd q) (ri q)) (rd q) (k + 1))), (21, .int (blkG sn (rfi (rd q) (ri q)) (rd q) lim (k + 1))), (24, .int (gd sn (cellAt (rfi (rd q) (ri q)) (rd q) k))), (20, .int (nI q)), (19, .int lim), (18, .int (allB sn rd ri lim q)), (16, .long (dgF sn (dg2 (dgR sn rd ri lim) 5 (dg2 (aboutS fa sn) 7 (dgF (dgC nf nr lim sup off plo hrs sn rd ri) 1777 10) nf) nr) 400)), (0, .ref E.2.2.2.2.1), (1, .ref x), (2, .ref z), (3, .int (nI t)), (4, .int xv), (5, .int (nI wd)), (6, .int (nI sg)), (7, .int (nI hh)), (15, .int (mostA sn))]) hx hb dL_law_563 hl (k := 3) rfl (nI_1 k) (by decide) rfl (fun ls hl => ?_)
              refine lv_goto (tgt := 490) hx hb dL_law_566 (by decide) ?_
              refine W.widen (k := (cells + 612 + 438 * q + 18 * (k + 1))) (n := (slots + 4080 + 2910 * q + 120 * (k + 1))) (by omega) (by omega) ?_
              exact ih_490 (k + 1) (by omega) _ _ _ _ hk L490_0 L490_1 L490_2 L490_3 L490_4 L490_5 L490_6 L490_7 L490_8 L490_9 L490_10 L490_11 L490_12 L490_13 L490_14 hF hR hSN J (lv_sub hl [0, 1, 2, 4, 5, 6, 7, 8, 9, 10, 11, 12, 13, 14, 15, 16] rfl)
      exact loop_490 20 0 (by omega) _ _ _ _ hk L471_0 L471_1 L471_2 L471_3 L471_4 L471_5 L471_6 L471_7 L471_8 L471_9 L471_10 L471_11 L471_12 L471_13 L471_14 hF hR hSN J (lv_sub hl [0, 1, 2, 3, 4, 5, 6, 7, 8, 9, 10, 11, 12, 13, 14, 15] rfl)
  exact loop_471 nr 0 _ _ _ (by omega) _ _ _ _ hk G1_0 G1_1 G1_2 G1_3 G1_4 G1_5 G1_6 G1_7 G1_8 G1_9 G1_10 G1_11 G1_12 G1_13 G1_14 hF hR hSN J (lv_sub hl [0, 1, 2, 3, 4, 5, 6, 7, 8, 9, 10, 11, 12] rfl)
