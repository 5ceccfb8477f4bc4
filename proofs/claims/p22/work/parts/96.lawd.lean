set_option maxHeartbeats 4000000 in
set_option maxRecDepth 100000 in
theorem law_d {p : Program} {l : Launch} (hflags : l.flags = flags0) {e : Env} {s : State} {m : MethodId} {below : List Frame} {meth : Method} {c : Code} (E : zG) (X : zC E p m c cL_law 30 s #[.ref E.2.2.2.2.1] wsL_law2 RL) (hRz : zR s) (hE1 : ¬ zA E E.2.2.1) (hL : E.2.2.2.2.2.1 ≤ 260) {QQ : State → Prop} {ws : va_W} {x fl rl wh gr gra tr tra sc ha va z sa : Nat} {gs : Nat → Option Nat} {mc1 mc2 lim sup off plo hrs : Int32} {ea eb nf nr fe qf ro qr : Nat} {fa rd ri sn t9 hf gf : Nat → Int32} {g gq : Nat → Option Nat} {t : Nat} {xv : Int32} {wd sg hh : Nat} {ba pb : Nat} {gb : Nat → Option Nat} {cells slots : Nat} {H : Heap} {locs : List Loc} {ls : Array Slot} (hwd4 : wd < 4) (hsg1 : 1 ≤ sg) (hsg9 : sg ≤ 9) (hhh1 : 1 ≤ hh) (hhh6 : hh ≤ 6) (hpb35 : 35 ≤ pb) (hba : ws[pb]? = some (ba, zA4 E 20 gb)) (hB : SN E ws (pb + 1) gb (fun j => sn (colC j))) (hX : LX E x fl rl wh gr gra tr tra sc ha va z sa gs mc1 mc2 lim sup off plo hrs ea eb nf nr fe qf ro qr fa rd ri sn t9 hf gf g gq ws) (J : zJ E ws s H locs) (hl : lv_has ls 30 [(0, .ref E.2.2.2.2.1), (1, .ref x), (2, .ref z), (3, .int (nI t)), (4, .int xv), (5, .int (nI wd)), (6, .int (nI sg)), (7, .int (nI hh)), (8, .int sup), (9, .int (sumA sn)), (10, .int off), (11, .int (hmS fa nf)), (12, .ref ba)]) (hc9 : cells + 9990 ≤ 1106048) (hs9 : slots + 19400 ≤ 5783625)
    (kk : ∀ (ws' : va_W) (H' : Heap) (locs' : List Loc) (ls' : Array Slot), LX E x fl rl wh gr gra tr tra sc ha va z sa gs mc1 mc2 lim sup (off + (hsS (nI sg) sup (hgS fa (-1) nf).1 (hgS fa (-1) nf).2 (nI wd) sn hh).1) plo (hrs + nI hh) ea eb nf nr fe qf ro qr fa rd ri ((hsS (nI sg) sup (hgS fa (-1) nf).1 (hgS fa (-1) nf).2 (nI wd) sn hh).2.1) t9 ((hgS fa (-1) nf).1) ((hgS fa (-1) nf).2) g gq ws' → (ws'[pb]? = some (ba, zA4 E 20 gb)) → (SN E ws' (pb + 1) gb (fun j => sn (colC j))) → (∀ y, y < 400 → ¬ (hsS (nI sg) sup (hgS fa (-1) nf).1 (hgS fa (-1) nf).2 (nI wd) sn hh).2.1 y < 0 ∧ ¬ (hsS (nI sg) sup (hgS fa (-1) nf).1 (hgS fa (-1) nf).2 (nI wd) sn hh).2.1 y > 200 ∧ ¬ (hsS (nI sg) sup (hgS fa (-1) nf).1 (hgS fa (-1) nf).2 (nI wd) sn hh).2.1 y > mx (sn y) (10 * hmS fa nf) ∧ ¬ (hsS (nI sg) sup (hgS fa (-1) nf).1 (hgS fa (-1) nf).2 (nI wd) sn hh).2.1 y < sn y - nI sg * nI hh ∧ ¬ (hsS (nI sg) sup (hgS fa (-1) nf).1 (hgS fa (-1) nf).2 (nI wd) sn hh).2.1 y > sn y + 4 * nI hh) → zJ E ws' s H' locs' → lv_has ls' 30 [(0, .ref E.2.2.2.2.1), (1, .ref x), (2, .ref z), (3, .int (nI t)), (4, .int xv), (5, .int (nI wd)), (6, .int (nI sg)), (7, .int (nI hh)), (11, .int (hmS fa nf)), (12, .ref ba)] → W p l e room_1 s m #[.ref E.2.2.2.2.1] below meth c H' locs' (cells + 9990) (slots + 19400) QQ (F0 m 277 ls' [])) :
    W p l e room_1 s m #[.ref E.2.2.2.2.1] below meth c H locs cells slots QQ (F0 m 208 ls []) := by
  obtain ⟨Fa0, Fa1, Fa2, Fa3, Fa4, Fa5, Fa6, Fa7, Fa8, Fa9, Fa10, Fa11, Fa12, Fa13, Fa14, hql, hF, hR, hSep, hSE, hSR, hSN, hnf, hnr, hok, hor, hRB, hu9, hlm, hln⟩ := hX
  obtain ⟨hqf, hqr⟩ := hql
  have hbl := hSN.len
  have bq13 := zlt Fa13
  have bq14 := zlt Fa14
  have nr13 := hSN.no Fa13 rfl
  have nr14 := hSN.no Fa14 rfl
  have hhR := hgS_RB (wo := -1) nf hok
  have hx := X.1.1
  have hb := X.1.2.1
  have hown := X.1.2.2.2.1
  have hts := X.1.2.2.2.2
  have hk : zKi E ws ws := zKi.rf
  have hk0 : kBlow (nI wd) (nI sg) (nI hh) = 0 := kBlow_ok hwd4 hsg1 hsg9 hhh1 (by omega)
  have hw4 := nI_w4 hwd4
  refine lv_aload_n hx hb dL_law_208 rfl (lv_at hl 1 rfl) ?_
  refine lv_iload hx hb dL_law_209 (lv_at hl 5 rfl) ?_
  refine lv_iload hx hb dL_law_211 (lv_at hl 6 rfl) ?_
  refine lv_iload hx hb dL_law_213 (lv_at hl 7 rfl) ?_
  refine z_xi J (z_yV (As := [.int (nI wd), .int (nI sg), .int (nI hh)]) (rest := []) (ci := 7) (q0 := 0) X hRz J (cX6_blow_ok l hflags E Fa0 Fa1 Fa4 Fa5 Fa8 Fa9 Fa10 hF hnf hok) (cwV 3 hts (goodIn_ext3 gL_law_X6_blow) rfl rfl rfl (by decide +kernel) ⟨Nat.le_of_ble_eq_true rfl, Nat.le_of_ble_eq_true rfl⟩) Fa0 rfl rfl rfl hl.1 rfl (Nat.le_of_ble_eq_true rfl) dL_law_215 ⟨by show _ ≤ 1106048; omega, by show _ ≤ 5783625; omega⟩) (fun nm ce q9 H locs hp9 J h1 h2 h3 => ?_) (fun r215 ws_1 H locs hp9 J => ?_)
  · exact False.elim (by rcases hp9 with h9 | h9 <;> exact absurd (h9.1.symm.trans hk0) (by decide))
  obtain ⟨k1, G1_a0, G1_a1, G1_a2, G1_a3, e_r215⟩ := hp9
  have hF := hF.keepS k1 (fun q9 hq9 => Or.inl (by simp only [List.mem_cons, rg_mem, List.not_mem_nil, or_false, not_or] at hq9; omega))
  have hR := hR.keepS k1 (fun q9 hq9 => Or.inl (by simp only [List.mem_cons, rg_mem, List.not_mem_nil, or_false, not_or] at hq9; omega))
  have hSN := hSN.keep k1 (fun r9 hr9 => by simp only [List.mem_cons, rg_mem, List.not_mem_nil, or_false, not_or]; omega)
  have hB := hB.keep k1 (fun r9 hr9 => by simp only [List.mem_cons, rg_mem, List.not_mem_nil, or_false, not_or]; omega)
  have hk := hk.step k1 (fun q9 a9 n9 f9 h8 h7 h9 => by simp only [List.mem_cons, rg_mem, List.not_mem_nil, or_false, not_or]; omega)
  have G1_1 := k1.2 1 _ (by decide) Fa1
  have G1_2 := k1.2 2 _ (by decide) Fa2
  have G1_3 := k1.2 3 _ (by decide) Fa3
  have G1_4 := k1.2 4 _ (by decide) Fa4
  have G1_6 := k1.2 6 _ (by decide) Fa6
  have G1_7 := k1.2 7 _ (by decide) Fa7
  have G1_8 := k1.2 8 _ (by decide) Fa8
  have G1_11 := k1.2 11 _ (by decide) Fa11
  have G1_12 := k1.2 14 _ (by decide) Fa12
  have G1_13 := k1.2 qf _ (by simp only [List.mem_cons, List.not_mem_nil, or_false]; omega) Fa13
  have G1_14 := k1.2 qr _ (by simp only [List.mem_cons, List.not_mem_nil, or_false]; omega) Fa14
  have G1_15 := k1.2 pb _ (by simp only [List.mem_cons, List.not_mem_nil, or_false]; omega) hba
  refine W.eq (g2 := F0 m 218 ls [.int ((hsS (nI sg) sup (hgS fa (-1) nf).1 (hgS fa (-1) nf).2 (nI wd) sn hh).1)]) (congrArg (fun z9 : Int32 => F0 m 218 ls [.int z9]) (show (r215 : Int32) = (hsS (nI sg) sup (hgS fa (-1) nf).1 (hgS fa (-1) nf).2 (nI wd) sn hh).1 from (by rw [e_r215.2, nI_clamp (by omega)]))) ?_
  have HC0 : ws_1[0]? = some (x, .inr (7, [.ref fl, .ref rl, .ref wh, .ref gr, .ref tr, .ref sc, .int lim, .int sup, .int (off + (hsS (nI sg) sup (hgS fa (-1) nf).1 (hgS fa (-1) nf).2 (nI wd) sn hh).1), .int plo, .int (hrs + (nI hh))])) := by have h9 := G1_a0; rw [nI_clamp (show hh < 2 ^ 31 by omega)] at h9; exact h9
  have HC5 : ws_1[5]? = some (gra, zI4 E 400 ((hsS (nI sg) sup (hgS fa (-1) nf).1 (hgS fa (-1) nf).2 (nI wd) sn hh).2.1)) := by have h9 := G1_a1; rw [nI_clamp (show hh < 2 ^ 31 by omega)] at h9; exact h9
  refine lv_istore (lv' := [(13, .int ((hsS (nI sg) sup (hgS fa (-1) nf).1 (hgS fa (-1) nf).2 (nI wd) sn hh).1)), (0, .ref E.2.2.2.2.1), (1, .ref x), (2, .ref z), (3, .int (nI t)), (4, .int xv), (5, .int (nI wd)), (6, .int (nI sg)), (7, .int (nI hh)), (8, .int sup), (9, .int (sumA sn)), (10, .int off), (11, .int (hmS fa nf)), (12, .ref ba)]) hx hb dL_law_218 hl (by decide) rfl (fun ls hl => ?_)
  refine lv_aload_n hx hb dL_law_220 rfl (lv_at hl 3 rfl) ?_
  refine lv_iload hx hb dL_law_221 (lv_at hl 6 rfl) ?_
  refine lv_iload hx hb dL_law_223 (lv_at hl 7 rfl) ?_
  refine lv_iload hx hb dL_law_225 (lv_at hl 8 rfl) ?_
  refine z_ci J (z_rV (As := [.int (nI wd), .int (nI sg), .int (nI hh)]) (rest := []) (ci := 8) (q0 := 11) X J (cX7_blow_6_ok l E G1_11 G1_12 G1_13 hSN (hSE.keepI hk) (by omega) hok hw4 hRB (nI_BI2 (lo := 1) (hi := 9) (by omega) (by omega) (by omega)) hu9 hhh6) (cwV 3 hts (goodIn_ext3 gL_law_X7_blow) rfl rfl rfl (by decide +kernel) ⟨Nat.le_of_ble_eq_true rfl, Nat.le_of_ble_eq_true rfl⟩) G1_11 rfl rfl rfl hl.1 rfl (Nat.le_of_ble_eq_true rfl) dL_law_227 ⟨by show _ ≤ 1106048; omega, by show _ ≤ 5783625; omega⟩) (fun r227 ws_2 H locs hp9 J => ?_)
  obtain ⟨k2, G2_a0, hSN_2, e_r227⟩ := hp9
  have hF := hF.keepS k2 (fun q9 hq9 => Or.inl (by simp only [List.mem_cons, rg_mem, List.not_mem_nil, or_false, not_or] at hq9; omega))
  have hR := hR.keepS k2 (fun q9 hq9 => Or.inl (by simp only [List.mem_cons, rg_mem, List.not_mem_nil, or_false, not_or] at hq9; omega))
  have hB := hB.keep k2 (fun r9 hr9 => by simp only [List.mem_cons, rg_mem, List.not_mem_nil, or_false, not_or]; omega)
  have hSN := hSN_2
  have hk := hk.step k2 (fun q9 a9 n9 f9 h8 h7 h9 => by simp only [List.mem_cons, rg_mem, List.not_mem_nil, or_false, not_or]; omega)
  have G2_0 := k2.2 0 _ (by simp only [List.mem_cons, rg_mem, List.not_mem_nil, or_false, not_or]; omega) HC0
  have G2_1 := k2.2 1 _ (by simp only [List.mem_cons, rg_mem, List.not_mem_nil, or_false, not_or]; omega) G1_1
  have G2_2 := k2.2 2 _ (by simp only [List.mem_cons, rg_mem, List.not_mem_nil, or_false, not_or]; omega) G1_2
  have G2_3 := k2.2 3 _ (by simp only [List.mem_cons, rg_mem, List.not_mem_nil, or_false, not_or]; omega) G1_3
  have G2_4 := k2.2 4 _ (by simp only [List.mem_cons, rg_mem, List.not_mem_nil, or_false, not_or]; omega) G1_4
  have G2_5 := k2.2 5 _ (by simp only [List.mem_cons, rg_mem, List.not_mem_nil, or_false, not_or]; omega) HC5
  have G2_6 := k2.2 6 _ (by simp only [List.mem_cons, rg_mem, List.not_mem_nil, or_false, not_or]; omega) G1_6
  have G2_7 := k2.2 7 _ (by simp only [List.mem_cons, rg_mem, List.not_mem_nil, or_false, not_or]; omega) G1_7
  have G2_8 := k2.2 8 _ (by simp only [List.mem_cons, rg_mem, List.not_mem_nil, or_false, not_or]; omega) G1_8
  have G2_9 := k2.2 9 _ (by simp only [List.mem_cons, rg_mem, List.not_mem_nil, or_false, not_or]; omega) G1_a2
  have G2_10 := k2.2 10 _ (by simp only [List.mem_cons, rg_mem, List.not_mem_nil, or_false, not_or]; omega) G1_a3
  have G2_12 := k2.2 14 _ (by simp only [List.mem_cons, rg_mem, List.not_mem_nil, or_false, not_or]; omega) G1_12
  have G2_13 := k2.2 qf _ (by simp only [List.mem_cons, rg_mem, List.not_mem_nil, or_false, not_or]; omega) G1_13
  have G2_14 := k2.2 qr _ (by simp only [List.mem_cons, rg_mem, List.not_mem_nil, or_false, not_or]; omega) G1_14
  have G2_15 := k2.2 pb _ (by simp only [List.mem_cons, rg_mem, List.not_mem_nil, or_false, not_or]; omega) G1_15
  subst e_r227
  refine lv_iload hx hb dL_law_230 (lv_at hl 0 rfl) ?_
  refine lv_icmp_ne (tgt := 275) hx hb dL_law_232 (by decide) (fun cz232 => by exact (cz232 rfl).elim) (fun cz232 => ?_)
  refine lv_iload hx hb dL_law_235 (lv_at hl 0 rfl) ?_
  refine lv_if_lt (tgt := 275) hx hb dL_law_237 (by decide) (fun cz237 => by exact (gone_nn (nI_BI2 (lo := 1) (hi := 9) (by omega) (by omega) (by omega)) hu9 hhR hRB (by omega) cz237).elim) (fun cz237 => ?_)
  refine lv_iload hx hb dL_law_240 (lv_at hl 10 rfl) ?_
  refine lv_bipush (v := 20) hx hb dL_law_242 (by decide) ?_
  refine lv_iload hx hb dL_law_244 (lv_at hl 9 rfl) ?_
  refine lv_imul hx hb dL_law_246 ?_
  refine lv_iload hx hb dL_law_247 (lv_at hl 8 rfl) ?_
  refine lv_imul hx hb dL_law_249 ?_
  refine lv_iadd hx hb dL_law_250 ?_
  refine lv_aload_n hx hb dL_law_251 rfl (lv_at hl 2 rfl) ?_
  refine lv_iconst (v := nI 2) hx hb dL_law_252 rfl ?_
  refine z_xi J (z_yV (As := [.int (nI 2)]) (rest := [.int ((sumA sn) + ((20 * sup) * (nI hh)))]) (ci := 7) (q0 := 0) X hRz J (cX6_count_ok l hflags E G2_0 G2_1 G2_2 G2_3 G2_4 G2_5 hR (by first | assumption | omega | decide)) (cwV 1 hts (goodIn_ext3 gL_law_X6_count) rfl rfl rfl (by decide +kernel) ⟨Nat.le_of_ble_eq_true rfl, Nat.le_of_ble_eq_true rfl⟩) G2_0 rfl rfl rfl hl.1 rfl (Nat.le_of_ble_eq_true rfl) dL_law_253 ⟨by show _ ≤ 1106048; omega, by show _ ≤ 5783625; omega⟩) (fun nm ce q9 H locs hp9 J h1 h2 h3 => ?_) (fun r253 ws_3 H locs hp9 J => ?_)
  · exact False.elim (by exact absurd hp9.1 (by rw [show kCount (nI 2) = 0 from kCount_ok (by decide)]; decide))
  obtain ⟨rfl, e_r253⟩ := hp9
  refine W.eq (g2 := F0 m 256 ls [.int (sumA (hsS (nI sg) sup (hgS fa (-1) nf).1 (hgS fa (-1) nf).2 (nI wd) sn hh).2.1), .int ((sumA sn) + ((20 * sup) * (nI hh)))]) (congrArg (fun z9 : Int32 => F0 m 256 ls [.int z9, .int ((sumA sn) + ((20 * sup) * (nI hh)))]) (show (r253 : Int32) = sumA (hsS (nI sg) sup (hgS fa (-1) nf).1 (hgS fa (-1) nf).2 (nI wd) sn hh).2.1 from (e_r253.2.trans cnt_2))) ?_
  refine lv_iload hx hb dL_law_256 (lv_at hl 0 rfl) ?_
  refine lv_iadd hx hb dL_law_258 ?_
  refine lv_icmp_ne (tgt := 275) hx hb dL_law_259 (by decide) (fun cz259 => by exact (cz259 (kept hw4)).elim) (fun cz259 => ?_)
  refine lv_aload_n hx hb dL_law_262 rfl (lv_at hl 2 rfl) ?_
  refine lv_iconst (v := nI 5) hx hb dL_law_263 rfl ?_
  refine z_xi J (z_yV (As := [.int (nI 5)]) (rest := []) (ci := 7) (q0 := 0) X hRz J (cX6_count_ok l hflags E G2_0 G2_1 G2_2 G2_3 G2_4 G2_5 hR (by first | assumption | omega | decide)) (cwV 1 hts (goodIn_ext3 gL_law_X6_count) rfl rfl rfl (by decide +kernel) ⟨Nat.le_of_ble_eq_true rfl, Nat.le_of_ble_eq_true rfl⟩) G2_0 rfl rfl rfl hl.1 rfl (Nat.le_of_ble_eq_true rfl) dL_law_264 ⟨by show _ ≤ 1106048; omega, by show _ ≤ 5783625; omega⟩) (fun nm ce q9 H locs hp9 J h1 h2 h3 => ?_) (fun r264 ws_4 H locs hp9 J => ?_)
  · exact False.elim (by exact absurd hp9.1 (by rw [show kCount (nI 5) = 0 from kCount_ok (by decide)]; decide))
  obtain ⟨rfl, e_r264⟩ := hp9
  refine W.eq (g2 := F0 m 267 ls [.int (off + (hsS (nI sg) sup (hgS fa (-1) nf).1 (hgS fa (-1) nf).2 (nI wd) sn hh).1)]) (congrArg (fun z9 : Int32 => F0 m 267 ls [.int z9]) (show (r264 : Int32) = off + (hsS (nI sg) sup (hgS fa (-1) nf).1 (hgS fa (-1) nf).2 (nI wd) sn hh).1 from (e_r264.2.trans cnt_5))) ?_
  refine lv_iload hx hb dL_law_267 (lv_at hl 11 rfl) ?_
  refine lv_iload hx hb dL_law_269 (lv_at hl 0 rfl) ?_
  refine lv_iadd hx hb dL_law_271 ?_
  refine lv_icmp_eq (tgt := 277) hx hb dL_law_272 (by decide) (fun cz272 => ?_) (fun cz272 => by exact (cz272 rfl).elim)
  refine W.widen (k := cells + 9990) (n := slots + 19400) (by omega) (by omega) ?_
  exact kk _ H locs _ ⟨G2_0, G2_1, G2_2, G2_3, G2_4, G2_5, G2_6, G2_7, G2_8, G2_9, G2_10, G2_a0, G2_12, G2_13, G2_14, ⟨by omega, by omega⟩, hF, hR, hSep, (hSE.keepI hk), (hSR.keepI hk), hSN, hnf, hnr, hok, hor, (hsS_I (nI_BI2 (lo := 1) (hi := 9) (by omega) (by omega) (by omega)) hu9 hhR hRB hh), hu9, hlm, (Nat.le_trans hln hk.1)⟩ G2_15 hB (fun y9 hy9 => cell_ok hw4 hsg1 hsg9 hu9 hok hRB hhh6 hy9 _ rfl) J (lv_sub hl [1, 2, 3, 4, 5, 6, 7, 8, 12, 13] rfl)
