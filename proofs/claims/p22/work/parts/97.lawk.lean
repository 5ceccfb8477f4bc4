set_option maxHeartbeats 4000000 in
set_option maxRecDepth 100000 in
theorem law_k {p : Program} {l : Launch} (hflags : l.flags = flags0) {e : Env} {s : State} {m : MethodId} {below : List Frame} {meth : Method} {c : Code} (E : zG) (X : zC E p m c cL_law 30 s #[.ref E.2.2.2.2.1] wsL_law2 RL) (hRz : zR s) (hE1 : ¬ zA E E.2.2.1) (hL : E.2.2.2.2.2.1 ≤ 260) {QQ : State → Prop} {ws : va_W} {x fl rl wh gr gra tr tra sc ha va z sa : Nat} {gs : Nat → Option Nat} {mc1 mc2 lim sup off plo hrs : Int32} {ea eb nf nr fe qf ro qr : Nat} {fa rd ri sn t9 hf gf : Nat → Int32} {g gq : Nat → Option Nat} {t : Nat} {cells slots : Nat} {H : Heap} {locs : List Loc} {ls : Array Slot} (hX : LX E x fl rl wh gr gra tr tra sc ha va z sa gs mc1 mc2 lim sup off plo hrs ea eb nf nr fe qf ro qr fa rd ri sn t9 hf gf g gq ws) (J : zJ E ws s H locs) (hl : lv_has ls 30 [(0, .ref E.2.2.2.2.1), (1, .ref x), (2, .ref z), (3, .int (nI t))]) (hc9 : cells + 3010 ≤ 1106048) (hs9 : slots + 20100 ≤ 5783625)
    (kk : ∀ (ws' : va_W) (H' : Heap) (locs' : List Loc) (ls' : Array Slot), zJ E ws' s H' locs' → W p l e room_1 s m #[.ref E.2.2.2.2.1] below meth c H' locs' (cells + 3010) (slots + 20100) QQ (F0 m 1225 ls' [.int 1])) :
    W p l e room_1 s m #[.ref E.2.2.2.2.1] below meth c H locs cells slots QQ (F0 m 1220 ls []) := by
  obtain ⟨Fa0, Fa1, Fa2, Fa3, Fa4, Fa5, Fa6, Fa7, Fa8, Fa9, Fa10, Fa11, Fa12, Fa13, Fa14, hql, hF, hR, hSep, hSE, hSR, hSN, hnf, hnr, hok, hor, hRB, hu9, hlm, hln⟩ := hX
  obtain ⟨hqf, hqr⟩ := hql
  have hbl := hSN.len
  have bq13 := zlt Fa13
  have bq14 := zlt Fa14
  have nr13 := hSN.no Fa13 rfl
  have nr14 := hSN.no Fa14 rfl
  have hhR := hgS_RB (wo := -1) nf hok
  have hx := X.1.1
  have hb := X.1.2.1
  have hown := X.1.2.2.2.1
  have hts := X.1.2.2.2.2
  have hk : zKi E ws ws := zKi.rf
  refine lv_aload_n hx hb dL_law_1220 rfl (lv_at hl 2 rfl) ?_
  refine lv_aload_n hx hb dL_law_1221 rfl (lv_at hl 1 rfl) ?_
  refine z_ci J (z_rVY (As := [.ref x]) (rest := []) (ci := 8) (q0 := 11) X hRz J (cX7_isSame_ok l hflags E Fa0 Fa1 Fa2 Fa3 Fa4 Fa5 Fa6 Fa7 Fa8 Fa9 Fa10 Fa11 Fa12 Fa13 Fa14 (⟨hqf, hqr⟩) hF hR hSep (hSE.keepI hk) (hSR.keepI hk) hSN hnf hnr hok hor hRB hu9 hlm (Nat.le_trans hln hk.1) hE1) (cwV 1 hts (goodIn_ext3 gL_law_X7_isSame) rfl rfl rfl (by decide +kernel) ⟨Nat.le_of_ble_eq_true rfl, Nat.le_of_ble_eq_true rfl⟩) Fa11 rfl rfl rfl hl.1 rfl (Nat.le_of_ble_eq_true rfl) dL_law_1222 ⟨by show _ ≤ 1106048; omega, by show _ ≤ 5783625; omega⟩) (fun r1222 ws_1 H locs hp9 J => ?_)
  obtain ⟨k1, e_r1222⟩ := hp9
  have hk := hk.tr k1
  subst e_r1222
  refine W.widen (k := cells + 3010) (n := slots + 20100) (by omega) (by omega) ?_
  exact kk _ H locs _ J
