/-! ===== the law: one time, five times ===== -/
set_option maxHeartbeats 4000000 in
set_option maxRecDepth 100000 in
theorem law_turn {p : Program} {l : Launch} (hflags : l.flags = flags0) {e : Env} {s : State} {m : MethodId} {below : List Frame} {meth : Method} {c : Code} (E : zG) (X : zC E p m c cL_law 30 s #[.ref E.2.2.2.2.1] wsL_law2 RL) (hRz : zR s) (hE1 : ¬ zA E E.2.2.1) (hL : E.2.2.2.2.2.1 ≤ 260) {QQ : State → Prop} {ws : va_W} {x fl rl wh gr gra tr tra sc ha va z sa : Nat} {gs : Nat → Option Nat} {t cells slots : Nat} {H : Heap} {locs : List Loc} {ls : Array Slot} (ht5 : t < 5) (hX : LW E x fl rl wh gr gra tr tra sc ha va z sa gs ws) (J : zJ E ws s H locs) (hl : lv_has ls 30 [(0, .ref E.2.2.2.2.1), (1, .ref x), (2, .ref z), (3, .int (nI t))]) (hc9 : cells + 152250 ≤ 1106048) (hs9 : slots + 346350 ≤ 5783625)
    (kk : ∀ (ws' : va_W) (H' : Heap) (locs' : List Loc) (ls' : Array Slot), LW E x fl rl wh gr gra tr tra sc ha va z sa gs ws' → zJ E ws' s H' locs' → lv_has ls' 30 [(0, .ref E.2.2.2.2.1), (1, .ref x), (2, .ref z), (3, .int (nI t))] → W p l e room_1 s m #[.ref E.2.2.2.2.1] below meth c H' locs' (cells + 152250) (slots + 346350) QQ (F0 m 1214 ls' [])) :
    W p l e room_1 s m #[.ref E.2.2.2.2.1] below meth c H locs cells slots QQ (F0 m 27 ls []) := by
  refine law_a hflags E X hRz hE1 hL ht5 hX J hl (by omega) (by omega) (fun xv ws1 H1 locs1 ls1 hW1 J1 hl1 => ?_)
  obtain ⟨mc1, mc2, lim, sup, off, plo, hrs, ea, eb, nf, nr, fe, qf, ro, qr, fa, rd, ri, sn, t9, hf, gf, g, gq, hX1⟩ := hW1
  have hX1 : LX E x fl rl wh gr gra tr tra sc ha va z sa gs mc1 mc2 lim sup off plo hrs ea eb nf nr fe qf ro qr fa rd ri sn t9 hf gf g gq ws1 := hX1
  refine law_b hflags E X hRz hE1 hL hX1 J1 hl1 (by omega) (by omega) (fun wd sg hh ws2 H2 locs2 ls2 hX2 p2_0 p2_1 p2_2 p2_3 p2_4 J2 hl2 => ?_)
  refine law_c hflags E X hRz hE1 hL p2_0 p2_1 p2_2 p2_3 p2_4 hX2 J2 hl2 (by omega) (by omega) (fun ba pb gb ws3 H3 locs3 ls3 hX3 p3_0 p3_1 p3_2 J3 hl3 => ?_)
  refine law_d hflags E X hRz hE1 hL p2_0 p2_1 p2_2 p2_3 p2_4 p3_0 p3_1 p3_2 hX3 J3 hl3 (by omega) (by omega) (fun ws4 H4 locs4 ls4 hX4 p4_0 p4_1 p4_2 J4 hl4 => ?_)
  refine law_e hflags E X hRz hE1 hL p2_0 p2_1 p2_2 p2_3 p2_4 p3_0 p4_2 p4_0 p4_1 hX4 J4 hl4 (by omega) (by omega) (fun ws5 H5 locs5 ls5 hX5 J5 hl5 => ?_)
  refine law_f hflags E X hRz hE1 hL p2_0 p2_1 p2_2 p2_3 p2_4 hX5 J5 hl5 (by omega) (by omega) (fun t2_6 h2_6 g2_6 ws6 H6 locs6 ls6 hX6 J6 hl6 => ?_)
  refine law_g hflags E X hRz hE1 hL hX6 J6 hl6 (by omega) (by omega) (fun ws7 H7 locs7 ls7 hX7 J7 hl7 => ?_)
  refine law_h hflags E X hRz hE1 hL p2_0 p2_1 p2_2 p2_3 p2_4 hX7 J7 hl7 (by omega) (by omega) (fun he ad hv dn t2_8 h2_8 g2_8 ws8 H8 locs8 ls8 hX8 p8_0 p8_1 p8_2 p8_3 p8_4 p8_5 J8 hl8 => ?_)
  refine law_i hflags E X hRz hE1 hL p2_0 p2_1 p2_2 p2_3 p2_4 p8_0 p8_1 p8_2 p8_3 p8_5 hX8 J8 hl8 (by omega) (by omega) (fun ws9 H9 locs9 ls9 hX9 J9 hl9 => ?_)
  refine law_j hflags E X hRz hE1 hL p2_0 p2_1 p2_2 p2_3 p2_4 p8_4 hX9 J9 hl9 (by omega) (by omega) (fun ws10 H10 locs10 ls10 hX10 J10 hl10 => ?_)
  refine W.widen (k := cells + 152250) (n := slots + 346350) (by omega) (by omega) ?_
  exact kk ws10 H10 locs10 ls10 ⟨_, _, _, _, _, _, _, _, _, _, _, _, _, _, _, _, _, _, _, _, _, _, _, _, hX10⟩ J10 hl10
set_option maxHeartbeats 4000000 in
set_option maxRecDepth 100000 in
theorem law_loop {p : Program} {l : Launch} (hflags : l.flags = flags0) {e : Env} {s : State} {m : MethodId} {below : List Frame} {meth : Method} {c : Code} (E : zG) (X : zC E p m c cL_law 30 s #[.ref E.2.2.2.2.1] wsL_law2 RL) (hRz : zR s) (hE1 : ¬ zA E E.2.2.1) (hL : E.2.2.2.2.2.1 ≤ 260) {QQ : State → Prop} {x fl rl wh gr gra tr tra sc ha va z sa : Nat} {gs : Nat → Option Nat} {c0 s0 : Nat} (hc0 : c0 + 761250 ≤ 1106048) (hs0 : s0 + 1731750 ≤ 5783625)
    (kE : ∀ (ws' : va_W) (H' : Heap) (locs' : List Loc) (ls' : Array Slot), LW E x fl rl wh gr gra tr tra sc ha va z sa gs ws' → zJ E ws' s H' locs' → lv_has ls' 30 [(0, .ref E.2.2.2.2.1), (1, .ref x), (2, .ref z), (3, .int (nI 5))] → W p l e room_1 s m #[.ref E.2.2.2.2.1] below meth c H' locs' (c0 + 152250 * 5) (s0 + 346350 * 5) QQ (F0 m 1220 ls' [])) :
    ∀ (k9 t : Nat), t + k9 = 5 → ∀ (ws : va_W) (H : Heap) (locs : List Loc) (ls : Array Slot), LW E x fl rl wh gr gra tr tra sc ha va z sa gs ws → zJ E ws s H locs → lv_has ls 30 [(0, .ref E.2.2.2.2.1), (1, .ref x), (2, .ref z), (3, .int (nI t))] → W p l e room_1 s m #[.ref E.2.2.2.2.1] below meth c H locs (c0 + 152250 * t) (s0 + 346350 * t) QQ (F0 m 22 ls []) := by
  have hx := X.1.1
  have hb := X.1.2.1
  intro k9
  induction k9 with
  | zero =>
    intro t ht ws H locs ls hW J hl
    refine lv_iload_n hx hb dL_law_22 rfl (lv_at hl 3 rfl) ?_
    refine lv_iconst (v := nI 5) hx hb dL_law_23 rfl ?_
    obtain rfl : t = 5 := by omega
    refine lv_icmp_ge (tgt := 1220) hx hb dL_law_24 (by decide) (fun cz => ?_) (fun cz => (cz (nI_le (Nat.le_refl _) (by decide))).elim)
    exact kE ws H locs ls hW J hl
  | succ k9 ih =>
    intro t ht ws H locs ls hW J hl
    refine lv_iload_n hx hb dL_law_22 rfl (lv_at hl 3 rfl) ?_
    refine lv_iconst (v := nI 5) hx hb dL_law_23 rfl ?_
    refine lv_icmp_ge (tgt := 1220) hx hb dL_law_24 (by decide) (fun cz => (nI_ge (by omega) (by decide) cz).elim) (fun cz => ?_)
    refine law_turn hflags E X hRz hE1 hL (by omega) hW J hl (by omega) (by omega) (fun ws' H' locs' ls' hW' J' hl' => ?_)
    refine lv_iinc (v := nI (t + 1)) (lv' := [(3, .int (nI (t + 1))), (0, .ref E.2.2.2.2.1), (1, .ref x), (2, .ref z)]) hx hb dL_law_1214 hl' (k := 3) rfl (nI_add t 1) (by decide) rfl (fun ls hl => ?_)
    refine lv_goto (tgt := 22) hx hb dL_law_1217 (by decide) ?_
    refine W.widen (k := c0 + 152250 * (t + 1)) (n := s0 + 346350 * (t + 1)) (by omega) (by omega) ?_
    exact ih (t + 1) (by omega) ws' H' locs' ls hW' J' (lv_sub hl [1, 2, 3, 0] rfl)
