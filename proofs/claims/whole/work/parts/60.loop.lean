/-! ===== the law's loop ===== -/
theorem law_ge {i L : Nat} (hi : i < 2 ^ 31) (hL : L ≤ 3584) : (nI i > nI L - 7) ↔ ¬ (i + 7 ≤ L) := by
  have e1 : (nI L).toInt = L := nI_toInt (by omega)
  have e2 : (nI i).toInt = i := nI_toInt hi
  have e7 : (7 : Int32).toInt = 7 := by decide
  have e3 : (nI L - 7).toInt = (L : Int) - 7 := by rw [i32s (by rw [e1, e7]; omega) (by rw [e1, e7]; omega), e1, e7]
  rw [gt_iff_lt, Int32.lt_iff_toInt_lt, e3, e2]
  omega
set_option maxHeartbeats 2000000 in
set_option maxRecDepth 100000 in
theorem law_turn {p : Program} {l : Launch} (hflags : l.flags = flags0) {e : Env} {s : State} {m : MethodId} {below : List Frame} {meth : Method} {c : Code} {b L : Nat} {xs : Nat → Int32} (E : zG) (X : zC E p m c cL_law 9 s #[.ref b] wsL_law RL) (hRz : zR s) (hNz : zNc s) (hXs : va_X b L xs s s.heap) (hbl : b < s.heap.size) (hbA : ¬ zA E b) (hE1 : ¬ zA E E.2.2.1) (hL9 : L ≤ 3584) {QQ : State → Prop} {ws : va_W} {x mo ou i cells slots : Nat} {H : Heap} {locs : List Loc} {ls : Array Slot} (hi : i + 7 ≤ L) (hW : LW E ws x mo ou) (J : zJ E ws s H locs) (hl : lv_has ls 9 [(4, .int (nI i)), (3, .ref ou), (2, .ref mo), (1, .ref x), (0, .ref b)]) (hc9 : cells + 700 ≤ 601024) (hs9 : slots + 4500 ≤ 7293034)
    (kk : ∀ (ws' : va_W) (H' : Heap) (locs' : List Loc) (ls' : Array Slot), LW E ws' x mo ou → zJ E ws' s H' locs' → lv_has ls' 9 [(4, .int (nI i)), (3, .ref ou), (2, .ref mo), (1, .ref x), (0, .ref b)] → W p l e room_1 s m #[.ref b] below meth c H' locs' (cells + 700) (slots + 4500) QQ (F0 m 1425 ls' [])) :
    W p l e room_1 s m #[.ref b] below meth c H locs cells slots QQ (F0 m 33 ls []) := by
  have hx := X.1.1
  have hb := X.1.2.1
  refine lv_aload_n hx hb dL_law_33 rfl (lv_at hl 4 rfl) ?_
  refine lv_iload hx hb dL_law_34 (lv_at hl 0 rfl) ?_
  refine va_sld hx hb hXs hbl hbA J.2.2 (vp_in_nI (by omega) (by omega)) dL_law_36 ?_
  refine lv_bipush (v := 31) hx hb dL_law_37 (by decide) ?_
  refine lv_iand hx hb dL_law_39 ?_
  generalize xs (nI i).toNatClampNeg &&& 31 = v1
  by_cases hv0 : v1 = 0
  · refine lv_tableIn (off := 92) (tgt := 132) hx hb dL_law_40 (by rw [hv0]; decide) (by rw [hv0]; decide) (by rw [hv0]; decide) (by decide) ?_
    exact turn_fence hflags E X hRz hNz hXs hbl hbA hE1 hL9 hi hW J hl hc9 hs9 kk
  by_cases hv1 : v1 = 1
  · refine lv_tableIn (off := 226) (tgt := 266) hx hb dL_law_40 (by rw [hv1]; decide) (by rw [hv1]; decide) (by rw [hv1]; decide) (by decide) ?_
    exact turn_change hflags E X hRz hNz hXs hbl hbA hE1 hL9 hi hW J hl hc9 hs9 kk
  by_cases hv2 : v1 = 2
  · refine lv_tableIn (off := 306) (tgt := 346) hx hb dL_law_40 (by rw [hv2]; decide) (by rw [hv2]; decide) (by rw [hv2]; decide) (by decide) ?_
    exact turn_take hflags E X hRz hNz hXs hbl hbA hE1 hL9 hi hW J hl hc9 hs9 kk
  by_cases hv3 : v1 = 3
  · refine lv_tableIn (off := 362) (tgt := 402) hx hb dL_law_40 (by rw [hv3]; decide) (by rw [hv3]; decide) (by rw [hv3]; decide) (by decide) ?_
    exact turn_road hflags E X hRz hNz hXs hbl hbA hE1 hL9 hi hW J hl hc9 hs9 kk
  by_cases hv4 : v1 = 4
  · refine lv_tableIn (off := 446) (tgt := 486) hx hb dL_law_40 (by rw [hv4]; decide) (by rw [hv4]; decide) (by rw [hv4]; decide) (by decide) ?_
    exact turn_setLimit hflags E X hRz hNz hXs hbl hbA hE1 hL9 hi hW J hl hc9 hs9 kk
  by_cases hv5 : v1 = 5
  · refine lv_tableIn (off := 502) (tgt := 542) hx hb dL_law_40 (by rw [hv5]; decide) (by rw [hv5]; decide) (by rw [hv5]; decide) (by decide) ?_
    exact turn_setSupply hflags E X hRz hNz hXs hbl hbA hE1 hL9 hi hW J hl hc9 hs9 kk
  by_cases hv6 : v1 = 6
  · refine lv_tableIn (off := 558) (tgt := 598) hx hb dL_law_40 (by rw [hv6]; decide) (by rw [hv6]; decide) (by rw [hv6]; decide) (by decide) ?_
    exact turn_fall hflags E X hRz hNz hXs hbl hbA hE1 hL9 hi hW J hl hc9 hs9 kk
  by_cases hv7 : v1 = 7
  · refine lv_tableIn (off := 614) (tgt := 654) hx hb dL_law_40 (by rw [hv7]; decide) (by rw [hv7]; decide) (by rw [hv7]; decide) (by decide) ?_
    exact turn_blow hflags E X hRz hNz hXs hbl hbA hE1 hL9 hi hW J hl hc9 hs9 kk
  by_cases hv8 : v1 = 8
  · refine lv_tableIn (off := 694) (tgt := 734) hx hb dL_law_40 (by rw [hv8]; decide) (by rw [hv8]; decide) (by rw [hv8]; decide) (by decide) ?_
    exact turn_plough hflags E X hRz hNz hXs hbl hbA hE1 hL9 hi hW J hl hc9 hs9 kk
  by_cases hv9 : v1 = 9
  · refine lv_tableIn (off := 750) (tgt := 790) hx hb dL_law_40 (by rw [hv9]; decide) (by rw [hv9]; decide) (by rw [hv9]; decide) (by decide) ?_
    exact turn_snow hflags E X hRz hNz hXs hbl hbA hE1 hL9 hi hW J hl hc9 hs9 kk
  by_cases hv10 : v1 = 10
  · refine lv_tableIn (off := 818) (tgt := 858) hx hb dL_law_40 (by rw [hv10]; decide) (by rw [hv10]; decide) (by rw [hv10]; decide) (by decide) ?_
    exact turn_about hflags E X hRz hNz hXs hbl hbA hE1 hL9 hi hW J hl hc9 hs9 kk
  by_cases hv11 : v1 = 11
  · refine lv_tableIn (off := 886) (tgt := 926) hx hb dL_law_40 (by rw [hv11]; decide) (by rw [hv11]; decide) (by rw [hv11]; decide) (by decide) ?_
    exact turn_told hflags E X hRz hNz hXs hbl hbA hE1 hL9 hi hW J hl hc9 hs9 kk
  by_cases hv12 : v1 = 12
  · refine lv_tableIn (off := 954) (tgt := 994) hx hb dL_law_40 (by rw [hv12]; decide) (by rw [hv12]; decide) (by rw [hv12]; decide) (by decide) ?_
    exact turn_count hflags E X hRz hNz hXs hbl hbA hE1 hL9 hi hW J hl hc9 hs9 kk
  by_cases hv13 : v1 = 13
  · refine lv_tableIn (off := 1010) (tgt := 1050) hx hb dL_law_40 (by rw [hv13]; decide) (by rw [hv13]; decide) (by rw [hv13]; decide) (by decide) ?_
    exact turn_would hflags E X hRz hNz hXs hbl hbA hE1 hL9 hi hW J hl hc9 hs9 kk
  by_cases hv14 : v1 = 14
  · refine lv_tableIn (off := 1102) (tgt := 1142) hx hb dL_law_40 (by rw [hv14]; decide) (by rw [hv14]; decide) (by rw [hv14]; decide) (by decide) ?_
    exact turn_until hflags E X hRz hNz hXs hbl hbA hE1 hL9 hi hW J hl hc9 hs9 kk
  by_cases hv15 : v1 = 15
  · refine lv_tableIn (off := 1182) (tgt := 1222) hx hb dL_law_40 (by rw [hv15]; decide) (by rw [hv15]; decide) (by rw [hv15]; decide) (by decide) ?_
    exact turn_advise hflags E X hRz hNz hXs hbl hbA hE1 hL9 hi hW J hl hc9 hs9 kk
  by_cases hv16 : v1 = 16
  · refine lv_tableIn (off := 1262) (tgt := 1302) hx hb dL_law_40 (by rw [hv16]; decide) (by rw [hv16]; decide) (by rw [hv16]; decide) (by decide) ?_
    exact turn_harmful hflags E X hRz hNz hXs hbl hbA hE1 hL9 hi hW J hl hc9 hs9 kk
  by_cases hv17 : v1 = 17
  · refine lv_tableIn (off := 1330) (tgt := 1370) hx hb dL_law_40 (by rw [hv17]; decide) (by rw [hv17]; decide) (by rw [hv17]; decide) (by decide) ?_
    exact turn_mean hflags E X hRz hNz hXs hbl hbA hE1 hL9 hi hW J hl hc9 hs9 kk
  by_cases hv18 : v1 = 18
  · refine lv_tableIn (off := 1371) (tgt := 1411) hx hb dL_law_40 (by rw [hv18]; decide) (by rw [hv18]; decide) (by rw [hv18]; decide) (by decide) ?_
    exact turn_digest hflags E X hRz hNz hXs hbl hbA hE1 hL9 hi hW J hl hc9 hs9 kk
  refine lv_tableOut (tgt := 1425) hx hb dL_law_40 (by have q0 := lv_neT hv0 (a := 0) rfl; have q1 := lv_neT hv1 (a := 1) rfl; have q2 := lv_neT hv2 (a := 2) rfl; have q3 := lv_neT hv3 (a := 3) rfl; have q4 := lv_neT hv4 (a := 4) rfl; have q5 := lv_neT hv5 (a := 5) rfl; have q6 := lv_neT hv6 (a := 6) rfl; have q7 := lv_neT hv7 (a := 7) rfl; have q8 := lv_neT hv8 (a := 8) rfl; have q9 := lv_neT hv9 (a := 9) rfl; have q10 := lv_neT hv10 (a := 10) rfl; have q11 := lv_neT hv11 (a := 11) rfl; have q12 := lv_neT hv12 (a := 12) rfl; have q13 := lv_neT hv13 (a := 13) rfl; have q14 := lv_neT hv14 (a := 14) rfl; have q15 := lv_neT hv15 (a := 15) rfl; have q16 := lv_neT hv16 (a := 16) rfl; have q17 := lv_neT hv17 (a := 17) rfl; have q18 := lv_neT hv18 (a := 18) rfl; omega) (by decide) ?_
  refine W.widen (k := cells + 700) (n := slots + 4500) (by omega) (by omega) ?_
  exact kk ws H locs ls hW J hl
set_option maxHeartbeats 2000000 in
set_option maxRecDepth 100000 in
theorem law_loop {p : Program} {l : Launch} (hflags : l.flags = flags0) {e : Env} {s : State} {m : MethodId} {below : List Frame} {meth : Method} {c : Code} {b L : Nat} {xs : Nat → Int32} (E : zG) (X : zC E p m c cL_law 9 s #[.ref b] wsL_law RL) (hRz : zR s) (hNz : zNc s) (hXs : va_X b L xs s s.heap) (hbl : b < s.heap.size) (hbA : ¬ zA E b) (hE1 : ¬ zA E E.2.2.1) (hL9 : L ≤ 3584) {QQ : State → Prop} {x mo ou c0 s0 : Nat} (hc0 : c0 ≤ 2000) (hs0 : s0 ≤ 20000)
    (kE : ∀ (ws' : va_W) (H' : Heap) (locs' : List Loc) (ls' : Array Slot), zJ E ws' s H' locs' → W p l e room_1 s m #[.ref b] below meth c H' locs' (c0 + 700 * 512) (s0 + 4500 * 512) QQ (F0 m 1431 ls' [])) :
    ∀ (k9 t : Nat), t + k9 = 512 → ∀ (ws : va_W) (H : Heap) (locs : List Loc) (ls : Array Slot), LW E ws x mo ou → zJ E ws s H locs → lv_has ls 9 [(4, .int (nI (7 * t))), (3, .ref ou), (2, .ref mo), (1, .ref x), (0, .ref b)] → W p l e room_1 s m #[.ref b] below meth c H locs (c0 + 700 * t) (s0 + 4500 * t) QQ (F0 m 23 ls []) := by
  have hx := X.1.1
  have hb := X.1.2.1
  intro k9
  induction k9 with
  | zero =>
    intro t ht ws H locs ls hW J hl
    refine lv_iload hx hb dL_law_23 (lv_at hl 0 rfl) ?_
    refine lv_aload_n hx hb dL_law_25 rfl (lv_at hl 4 rfl) ?_
    refine va_slen hx hb hXs hbl hbA J.2.2 dL_law_26 ?_
    refine lv_bipush (v := 7) hx hb dL_law_27 (by decide) ?_
    refine lv_isub hx hb dL_law_29 ?_
    refine lv_icmp_gt (tgt := 1431) hx hb dL_law_30 (by decide) (fun cz => ?_) (fun cz => ?_)
    · refine W.widen (k := c0 + 700 * 512) (n := s0 + 4500 * 512) (by omega) (by omega) ?_
      exact kE ws H locs ls J
    · have hi : 7 * t + 7 ≤ L := Classical.byContradiction fun q => cz ((law_ge (i := 7 * t) (by omega) hL9).mpr q)
      omega
  | succ k9 ih =>
    intro t ht ws H locs ls hW J hl
    refine lv_iload hx hb dL_law_23 (lv_at hl 0 rfl) ?_
    refine lv_aload_n hx hb dL_law_25 rfl (lv_at hl 4 rfl) ?_
    refine va_slen hx hb hXs hbl hbA J.2.2 dL_law_26 ?_
    refine lv_bipush (v := 7) hx hb dL_law_27 (by decide) ?_
    refine lv_isub hx hb dL_law_29 ?_
    refine lv_icmp_gt (tgt := 1431) hx hb dL_law_30 (by decide) (fun cz => ?_) (fun cz => ?_)
    · refine W.widen (k := c0 + 700 * 512) (n := s0 + 4500 * 512) (by omega) (by omega) ?_
      exact kE ws H locs ls J
    · have hi : 7 * t + 7 ≤ L := Classical.byContradiction fun q => cz ((law_ge (i := 7 * t) (by omega) hL9).mpr q)
      refine law_turn hflags E X hRz hNz hXs hbl hbA hE1 hL9 hi hW J hl (by omega) (by omega) (fun ws' H' locs' ls' hW' J' hl' => ?_)
      refine lv_iinc (v := nI (7 * (t + 1))) (lv' := [(4, .int (nI (7 * (t + 1)))), (3, .ref ou), (2, .ref mo), (1, .ref x), (0, .ref b)]) hx hb dL_law_1425 hl' (k := 0) rfl (nI_add (7 * t) 7) (by decide) rfl (fun ls hl => ?_)
      refine lv_goto (tgt := 23) hx hb dL_law_1428 (by decide) ?_
      refine W.widen (k := c0 + 700 * (t + 1)) (n := s0 + 4500 * (t + 1)) (by omega) (by omega) ?_
      exact ih (t + 1) (by omega) ws' H' locs' ls hW' J' hl
