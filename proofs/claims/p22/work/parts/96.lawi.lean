theorem i32lteq {a b c : Int32} (h : a < b) (e : b = c) : a < c := e ▸ h
theorem adv_t1 {fa : Nat → Int32} {nf : Nat} {he stg sup wd : Int32} {sn rd ri : Nat → Int32} {lim : Int32} {nr k : Nat} (hn : nf ≤ 10) (hD : advD wd = 1) : allB (hsS stg sup (hgS (fput fa nf (nI k) 0 20 1 he 0) (-1) (nf + 1)).1 (hgS (fput fa nf (nI k) 0 20 1 he 0) (-1) (nf + 1)).2 wd sn 4).2.1 rd ri lim nr = advK (advD wd) fa nf he stg sup wd sn rd ri lim nr k := by
  rw [hD]
  exact advK_1 hn
theorem adv_t0 {fa : Nat → Int32} {nf : Nat} {he stg sup wd : Int32} {sn rd ri : Nat → Int32} {lim : Int32} {nr k : Nat} (hn : nf ≤ 10) (hD : advD wd = 0) : allB (hsS stg sup (hgS (fput fa nf 0 (nI k) 20 0 he 0) (-1) (nf + 1)).1 (hgS (fput fa nf 0 (nI k) 20 0 he 0) (-1) (nf + 1)).2 wd sn 4).2.1 rd ri lim nr = advK (advD wd) fa nf he stg sup wd sn rd ri lim nr k := by
  rw [hD]
  exact advK_0 hn
set_option maxHeartbeats 4000000 in
set_option maxRecDepth 100000 in
theorem law_i {p : Program} {l : Launch} (hflags : l.flags = flags0) {e : Env} {s : State} {m : MethodId} {below : List Frame} {meth : Method} {c : Code} (E : zG) (X : zC E p m c cL_law 30 s #[.ref E.2.2.2.2.1] wsL_law2 RL) (hRz : zR s) (hE1 : ¬ zA E E.2.2.1) (hL : E.2.2.2.2.2.1 ≤ 260) {QQ : State → Prop} {ws : va_W} {x fl rl wh gr gra tr tra sc ha va z sa : Nat} {gs : Nat → Option Nat} {mc1 mc2 lim sup off plo hrs : Int32} {ea eb nf nr fe qf ro qr : Nat} {fa rd ri sn t9 hf gf : Nat → Int32} {g gq : Nat → Option Nat} {t : Nat} {xv : Int32} {wd sg hh : Nat} {he ad : Nat} {hv dn : Int32} {cells slots : Nat} {H : Heap} {locs : List Loc} {ls : Array Slot} (hwd4 : wd < 4) (hsg1 : 1 ≤ sg) (hsg9 : sg ≤ 9) (hhh1 : 1 ≤ hh) (hhh6 : hh ≤ 6) (he1 : 1 ≤ he) (he9 : he ≤ 9) (had : ad < 20) (hadv : (∀ j, j < 20 → ¬ (advK (advD (nI wd)) fa nf (nI he) (nI sg) sup (nI wd) sn rd ri lim nr) j < (advK (advD (nI wd)) fa nf (nI he) (nI sg) sup (nI wd) sn rd ri lim nr) ad) ∧ ∀ j, j < ad → (advK (advD (nI wd)) fa nf (nI he) (nI sg) sup (nI wd) sn rd ri lim nr) ad < (advK (advD (nI wd)) fa nf (nI he) (nI sg) sup (nI wd) sn rd ri lim nr) j) (hdn : (dn = 1 ∧ advD (nI wd) = 1) ∨ (dn = 0 ∧ advD (nI wd) = 0)) (hX : LX E x fl rl wh gr gra tr tra sc ha va z sa gs mc1 mc2 lim sup off plo hrs ea eb nf nr fe qf ro qr fa rd ri sn t9 hf gf g gq ws) (J : zJ E ws s H locs) (hl : lv_has ls 30 [(0, .ref E.2.2.2.2.1), (1, .ref x), (2, .ref z), (3, .int (nI t)), (4, .int xv), (5, .int (nI wd)), (6, .int (nI sg)), (7, .int (nI hh)), (20, .int (nI he)), (21, .int (nI ad)), (22, .int hv), (23, .int dn)]) (hc9 : cells + 13400 ≤ 1106048) (hs9 : slots + 27400 ≤ 5783625)
    (kk : ∀ (ws' : va_W) (H' : Heap) (locs' : List Loc) (ls' : Array Slot), LX E x fl rl wh gr gra tr tra sc ha va z sa gs mc1 mc2 lim sup off plo hrs ea eb nf nr fe qf ro qr fa rd ri sn t9 hf gf g gq ws' → zJ E ws' s H' locs' → lv_has ls' 30 [(0, .ref E.2.2.2.2.1), (1, .ref x), (2, .ref z), (3, .int (nI t)), (4, .int xv), (5, .int (nI wd)), (6, .int (nI sg)), (7, .int (nI hh)), (22, .int hv)] → W p l e room_1 s m #[.ref E.2.2.2.2.1] below meth c H' locs' (cells + 13400) (slots + 27400) QQ (F0 m 1091 ls' [])) :
    W p l e room_1 s m #[.ref E.2.2.2.2.1] below meth c H locs cells slots QQ (F0 m 904 ls []) := by
  obtain ⟨Fa0, Fa1, Fa2, Fa3, Fa4, Fa5, Fa6, Fa7, Fa8, Fa9, Fa10, Fa11, Fa12, Fa13, Fa14, hql, hF, hR, hSep, hSE, hSR, hSN, hnf, hnr, hok, hor, hRB, hu9, hlm, hln⟩ := hX
  obtain ⟨hqf, hqr⟩ := hql
  have hbl := hSN.len
  have bq13 := zlt Fa13
  have bq14 := zlt Fa14
  have nr13 := hSN.no Fa13 rfl
  have nr14 := hSN.no Fa14 rfl
  have hhR := hgS_RB (wo := -1) nf hok
  have hx := X.1.1
  have hb := X.1.2.1
  have hown := X.1.2.2.2.1
  have hts := X.1.2.2.2.2
  have hi_X7 : ∀ w ∈ wsX70, w ∈ wsL_law2 := fun w h => List.mem_append_left _ (inlX7 w h)
  have hk : zKi E ws ws := zKi.rf
  have hw4 := nI_w4 hwd4
  rcases hdn with ⟨hd1, hD⟩ | ⟨hd1, hD⟩
  · subst hd1
    refine lv_aload_n hx hb dL_law_904 rfl (lv_at hl 2 rfl) ?_
    refine lv_aload_n hx hb dL_law_905 rfl (lv_at hl 2 rfl) ?_
    refine z_get (C := RX7) (T := TX7) (N := 8) (ci := 8) (v := .ref fe) X J hi_X7 11 Fa11 rfl 0 (by decide) (by decide +kernel) rfl dL_law_906 ?_
    refine lv_bipush (v := 6) hx hb dL_law_909 (by decide) ?_
    refine z_newa (N' := 6) X J (by decide +kernel) (by decide) (by decide) (Nat.le_of_ble_eq_true rfl) (by show _ ≤ 1106048; omega) (by show _ ≤ 5783625; omega) dL_law_911 (fun q911 H J => ?_)
    have hF := hF.keepS (zK.app (S := []) (ws := ws) (more := [(q911, zI4 E 6 (fun _ => 0))])) (fun q9 hq9 => absurd hq9 List.not_mem_nil)
    have hR := hR.keepS (zK.app (S := []) (ws := ws) (more := [(q911, zI4 E 6 (fun _ => 0))])) (fun q9 hq9 => absurd hq9 List.not_mem_nil)
    have hSN := hSN.keep (zK.app (S := []) (ws := ws) (more := [(q911, zI4 E 6 (fun _ => 0))])) (fun _ _ => List.not_mem_nil)
    have lp1 := hk.1
    have hk := hk.step (zK.app (S := []) (ws := ws) (more := [(q911, zI4 E 6 (fun _ => 0))])) (fun _ _ _ _ _ _ _ => List.not_mem_nil)
    have bG1_0 := zlt Fa0
    have G1_0 := zapp (x := (q911, zI4 E 6 (fun _ => 0))) Fa0
    have bG1_1 := zlt Fa1
    have G1_1 := zapp (x := (q911, zI4 E 6 (fun _ => 0))) Fa1
    have bG1_2 := zlt Fa2
    have G1_2 := zapp (x := (q911, zI4 E 6 (fun _ => 0))) Fa2
    have bG1_3 := zlt Fa3
    have G1_3 := zapp (x := (q911, zI4 E 6 (fun _ => 0))) Fa3
    have bG1_4 := zlt Fa4
    have G1_4 := zapp (x := (q911, zI4 E 6 (fun _ => 0))) Fa4
    have bG1_5 := zlt Fa5
    have G1_5 := zapp (x := (q911, zI4 E 6 (fun _ => 0))) Fa5
    have bG1_6 := zlt Fa6
    have G1_6 := zapp (x := (q911, zI4 E 6 (fun _ => 0))) Fa6
    have bG1_7 := zlt Fa7
    have G1_7 := zapp (x := (q911, zI4 E 6 (fun _ => 0))) Fa7
    have bG1_8 := zlt Fa8
    have G1_8 := zapp (x := (q911, zI4 E 6 (fun _ => 0))) Fa8
    have bG1_9 := zlt Fa9
    have G1_9 := zapp (x := (q911, zI4 E 6 (fun _ => 0))) Fa9
    have bG1_10 := zlt Fa10
    have G1_10 := zapp (x := (q911, zI4 E 6 (fun _ => 0))) Fa10
    have bG1_11 := zlt Fa11
    have G1_11 := zapp (x := (q911, zI4 E 6 (fun _ => 0))) Fa11
    have bG1_12 := zlt Fa12
    have G1_12 := zapp (x := (q911, zI4 E 6 (fun _ => 0))) Fa12
    have bG1_13 := zlt Fa13
    have G1_13 := zapp (x := (q911, zI4 E 6 (fun _ => 0))) Fa13
    have bG1_14 := zlt Fa14
    have G1_14 := zapp (x := (q911, zI4 E 6 (fun _ => 0))) Fa14
    have G1_n := zapp_new (ws := ws) (x := (q911, zI4 E 6 (fun _ => 0)))
    generalize hws1 : ws ++ [(q911, zI4 E 6 (fun _ => 0))] = ws_1 at J hk G1_0 G1_1 G1_2 G1_3 G1_4 G1_5 G1_6 G1_7 G1_8 G1_9 G1_10 G1_11 G1_12 G1_13 G1_14 hF hR hSN G1_n
    generalize hpn1 : ws.length = pn_1 at G1_n lp1 bG1_0 bG1_1 bG1_2 bG1_3 bG1_4 bG1_5 bG1_6 bG1_7 bG1_8 bG1_9 bG1_10 bG1_11 bG1_12 bG1_13 bG1_14
    refine lv_dup hx hb dL_law_913 rfl ?_
    refine lv_iconst (v := nI 0) hx hb dL_law_914 rfl ?_
    refine lv_iload hx hb dL_law_915 (lv_at hl 11 rfl) ?_
    refine lv_if_eq (tgt := 925) hx hb dL_law_917 (by decide) (fun cz917 => by exact absurd cz917 (by decide)) (fun cz917 => ?_)
    refine lv_iload hx hb dL_law_920 (lv_at hl 9 rfl) ?_
    refine lv_goto (tgt := 926) hx hb dL_law_922 (by decide) ?_
    refine z_iast X J pn_1 G1_n (vp_in_nI (by omega) (by first | decide | omega)) dL_law_926 (fun H locs J => ?_)
    rw [show upd (fun _ => 0) (nI 0).toNatClampNeg (nI ad) = upd (fun _ => 0) 0 (nI ad) from (by rw [nI_clamp (by omega)])] at J
    have hF := hF.keepS (zK.set (S := [pn_1]) (ws := ws_1) (q := pn_1) (e := (q911, zI4 E 6 (upd (fun _ => 0) 0 (nI ad)))) (List.mem_singleton.mpr rfl)) (fun q9 hq9 => Or.inr ⟨_, _, (List.mem_singleton.mp hq9).symm ▸ G1_n, noL_I⟩)
    have hR := hR.keepS (zK.set (S := [pn_1]) (ws := ws_1) (q := pn_1) (e := (q911, zI4 E 6 (upd (fun _ => 0) 0 (nI ad)))) (List.mem_singleton.mpr rfl)) (fun q9 hq9 => Or.inr ⟨_, _, (List.mem_singleton.mp hq9).symm ▸ G1_n, noL_I⟩)
    have hSN := hSN.keep (zK.set (S := [pn_1]) (ws := ws_1) (q := pn_1) (e := (q911, zI4 E 6 (upd (fun _ => 0) 0 (nI ad)))) (List.mem_singleton.mpr rfl)) (fun r9 hr9 => by simp only [List.mem_cons, rg_mem, List.not_mem_nil, or_false, not_or]; omega)
    have hk := hk.step (zK.set (S := [pn_1]) (ws := ws_1) (q := pn_1) (e := (q911, zI4 E 6 (upd (fun _ => 0) 0 (nI ad)))) (List.mem_singleton.mpr rfl)) (fun q9 a9 n9 f9 h8 h7 h9 => by simp only [List.mem_cons, rg_mem, List.not_mem_nil, or_false, not_or]; omega)
    have G2_0 := zset_ne (q := pn_1) (e' := (q911, zI4 E 6 (upd (fun _ => 0) 0 (nI ad)))) (by omega) G1_0
    have G2_1 := zset_ne (q := pn_1) (e' := (q911, zI4 E 6 (upd (fun _ => 0) 0 (nI ad)))) (by omega) G1_1
    have G2_2 := zset_ne (q := pn_1) (e' := (q911, zI4 E 6 (upd (fun _ => 0) 0 (nI ad)))) (by omega) G1_2
    have G2_3 := zset_ne (q := pn_1) (e' := (q911, zI4 E 6 (upd (fun _ => 0) 0 (nI ad)))) (by omega) G1_3
    have G2_4 := zset_ne (q := pn_1) (e' := (q911, zI4 E 6 (upd (fun _ => 0) 0 (nI ad)))) (by omega) G1_4
    have G2_5 := zset_ne (q := pn_1) (e' := (q911, zI4 E 6 (upd (fun _ => 0) 0 (nI ad)))) (by omega) G1_5
    have G2_6 := zset_ne (q := pn_1) (e' := (q911, zI4 E 6 (upd (fun _ => 0) 0 (nI ad)))) (by omega) G1_6
    have G2_7 := zset_ne (q := pn_1) (e' := (q911, zI4 E 6 (upd (fun _ => 0) 0 (nI ad)))) (by omega) G1_7
    have G2_8 := zset_ne (q := pn_1) (e' := (q911, zI4 E 6 (upd (fun _ => 0) 0 (nI ad)))) (by omega) G1_8
    have G2_9 := zset_ne (q := pn_1) (e' := (q911, zI4 E 6 (upd (fun _ => 0) 0 (nI ad)))) (by omega) G1_9
    have G2_10 := zset_ne (q := pn_1) (e' := (q911, zI4 E 6 (upd (fun _ => 0) 0 (nI ad)))) (by omega) G1_10
    have G2_11 := zset_ne (q := pn_1) (e' := (q911, zI4 E 6 (upd (fun _ => 0) 0 (nI ad)))) (by omega) G1_11
    have G2_12 := zset_ne (q := pn_1) (e' := (q911, zI4 E 6 (upd (fun _ => 0) 0 (nI ad)))) (by omega) G1_12
    have G2_13 := zset_ne (q := pn_1) (e' := (q911, zI4 E 6 (upd (fun _ => 0) 0 (nI ad)))) (by omega) G1_13
    have G2_14 := zset_ne (q := pn_1) (e' := (q911, zI4 E 6 (upd (fun _ => 0) 0 (nI ad)))) (by omega) G1_14
    have G2_15 := zset_eq (e' := (q911, zI4 E 6 (upd (fun _ => 0) 0 (nI ad)))) G1_n
    generalize hws2 : (ws_1.set pn_1 (q911, zI4 E 6 (upd (fun _ => 0) 0 (nI ad)))) = ws_2 at J hk G2_0 G2_1 G2_2 G2_3 G2_4 G2_5 G2_6 G2_7 G2_8 G2_9 G2_10 G2_11 G2_12 G2_13 G2_14 G2_15 hF hR hSN
    refine lv_dup hx hb dL_law_927 rfl ?_
    refine lv_iconst (v := nI 1) hx hb dL_law_928 rfl ?_
    refine lv_iload hx hb dL_law_929 (lv_at hl 11 rfl) ?_
    refine lv_if_eq (tgt := 938) hx hb dL_law_931 (by decide) (fun cz931 => by exact absurd cz931 (by decide)) (fun cz931 => ?_)
    refine lv_iconst (v := 0) hx hb dL_law_934 (by decide) ?_
    refine lv_goto (tgt := 940) hx hb dL_law_935 (by decide) ?_
    refine z_iast X J pn_1 G2_15 (vp_in_nI (by omega) (by first | decide | omega)) dL_law_940 (fun H locs J => ?_)
    rw [show upd (upd (fun _ => 0) 0 (nI ad)) (nI 1).toNatClampNeg 0 = upd (upd (fun _ => 0) 0 (nI ad)) 1 0 from (by rw [nI_clamp (by omega)])] at J
    have hF := hF.keepS (zK.set (S := [pn_1]) (ws := ws_2) (q := pn_1) (e := (q911, zI4 E 6 (upd (upd (fun _ => 0) 0 (nI ad)) 1 0))) (List.mem_singleton.mpr rfl)) (fun q9 hq9 => Or.inr ⟨_, _, (List.mem_singleton.mp hq9).symm ▸ G2_15, noL_I⟩)
    have hR := hR.keepS (zK.set (S := [pn_1]) (ws := ws_2) (q := pn_1) (e := (q911, zI4 E 6 (upd (upd (fun _ => 0) 0 (nI ad)) 1 0))) (List.mem_singleton.mpr rfl)) (fun q9 hq9 => Or.inr ⟨_, _, (List.mem_singleton.mp hq9).symm ▸ G2_15, noL_I⟩)
    have hSN := hSN.keep (zK.set (S := [pn_1]) (ws := ws_2) (q := pn_1) (e := (q911, zI4 E 6 (upd (upd (fun _ => 0) 0 (nI ad)) 1 0))) (List.mem_singleton.mpr rfl)) (fun r9 hr9 => by simp only [List.mem_cons, rg_mem, List.not_mem_nil, or_false, not_or]; omega)
    have hk := hk.step (zK.set (S := [pn_1]) (ws := ws_2) (q := pn_1) (e := (q911, zI4 E 6 (upd (upd (fun _ => 0) 0 (nI ad)) 1 0))) (List.mem_singleton.mpr rfl)) (fun q9 a9 n9 f9 h8 h7 h9 => by simp only [List.mem_cons, rg_mem, List.not_mem_nil, or_false, not_or]; omega)
    have G3_0 := zset_ne (q := pn_1) (e' := (q911, zI4 E 6 (upd (upd (fun _ => 0) 0 (nI ad)) 1 0))) (by omega) G2_0
    have G3_1 := zset_ne (q := pn_1) (e' := (q911, zI4 E 6 (upd (upd (fun _ => 0) 0 (nI ad)) 1 0))) (by omega) G2_1
    have G3_2 := zset_ne (q := pn_1) (e' := (q911, zI4 E 6 (upd (upd (fun _ => 0) 0 (nI ad)) 1 0))) (by omega) G2_2
    have G3_3 := zset_ne (q := pn_1) (e' := (q911, zI4 E 6 (upd (upd (fun _ => 0) 0 (nI ad)) 1 0))) (by omega) G2_3
    have G3_4 := zset_ne (q := pn_1) (e' := (q911, zI4 E 6 (upd (upd (fun _ => 0) 0 (nI ad)) 1 0))) (by omega) G2_4
    have G3_5 := zset_ne (q := pn_1) (e' := (q911, zI4 E 6 (upd (upd (fun _ => 0) 0 (nI ad)) 1 0))) (by omega) G2_5
    have G3_6 := zset_ne (q := pn_1) (e' := (q911, zI4 E 6 (upd (upd (fun _ => 0) 0 (nI ad)) 1 0))) (by omega) G2_6
    have G3_7 := zset_ne (q := pn_1) (e' := (q911, zI4 E 6 (upd (upd (fun _ => 0) 0 (nI ad)) 1 0))) (by omega) G2_7
    have G3_8 := zset_ne (q := pn_1) (e' := (q911, zI4 E 6 (upd (upd (fun _ => 0) 0 (nI ad)) 1 0))) (by omega) G2_8
    have G3_9 := zset_ne (q := pn_1) (e' := (q911, zI4 E 6 (upd (upd (fun _ => 0) 0 (nI ad)) 1 0))) (by omega) G2_9
    have G3_10 := zset_ne (q := pn_1) (e' := (q911, zI4 E 6 (upd (upd (fun _ => 0) 0 (nI ad)) 1 0))) (by omega) G2_10
    have G3_11 := zset_ne (q := pn_1) (e' := (q911, zI4 E 6 (upd (upd (fun _ => 0) 0 (nI ad)) 1 0))) (by omega) G2_11
    have G3_12 := zset_ne (q := pn_1) (e' := (q911, zI4 E 6 (upd (upd (fun _ => 0) 0 (nI ad)) 1 0))) (by omega) G2_12
    have G3_13 := zset_ne (q := pn_1) (e' := (q911, zI4 E 6 (upd (upd (fun _ => 0) 0 (nI ad)) 1 0))) (by omega) G2_13
    have G3_14 := zset_ne (q := pn_1) (e' := (q911, zI4 E 6 (upd (upd (fun _ => 0) 0 (nI ad)) 1 0))) (by omega) G2_14
    have G3_15 := zset_eq (e' := (q911, zI4 E 6 (upd (upd (fun _ => 0) 0 (nI ad)) 1 0))) G2_15
    generalize hws3 : (ws_2.set pn_1 (q911, zI4 E 6 (upd (upd (fun _ => 0) 0 (nI ad)) 1 0))) = ws_3 at J hk G3_0 G3_1 G3_2 G3_3 G3_4 G3_5 G3_6 G3_7 G3_8 G3_9 G3_10 G3_11 G3_12 G3_13 G3_14 G3_15 hF hR hSN
    refine lv_dup hx hb dL_law_941 rfl ?_
    refine lv_iconst (v := nI 2) hx hb dL_law_942 rfl ?_
    refine lv_bipush (v := 20) hx hb dL_law_943 (by decide) ?_
    refine z_iast X J pn_1 G3_15 (vp_in_nI (by omega) (by first | decide | omega)) dL_law_945 (fun H locs J => ?_)
    rw [show upd (upd (upd (fun _ => 0) 0 (nI ad)) 1 0) (nI 2).toNatClampNeg 20 = upd (upd (upd (fun _ => 0) 0 (nI ad)) 1 0) 2 20 from (by rw [nI_clamp (by omega)])] at J
    have hF := hF.keepS (zK.set (S := [pn_1]) (ws := ws_3) (q := pn_1) (e := (q911, zI4 E 6 (upd (upd (upd (fun _ => 0) 0 (nI ad)) 1 0) 2 20))) (List.mem_singleton.mpr rfl)) (fun q9 hq9 => Or.inr ⟨_, _, (List.mem_singleton.mp hq9).symm ▸ G3_15, noL_I⟩)
    have hR := hR.keepS (zK.set (S := [pn_1]) (ws := ws_3) (q := pn_1) (e := (q911, zI4 E 6 (upd (upd (upd (fun _ => 0) 0 (nI ad)) 1 0) 2 20))) (List.mem_singleton.mpr rfl)) (fun q9 hq9 => Or.inr ⟨_, _, (List.mem_singleton.mp hq9).symm ▸ G3_15, noL_I⟩)
    have hSN := hSN.keep (zK.set (S := [pn_1]) (ws := ws_3) (q := pn_1) (e := (q911, zI4 E 6 (upd (upd (upd (fun _ => 0) 0 (nI ad)) 1 0) 2 20))) (List.mem_singleton.mpr rfl)) (fun r9 hr9 => by simp only [List.mem_cons, rg_mem, List.not_mem_nil, or_false, not_or]; omega)
    have hk := hk.step (zK.set (S := [pn_1]) (ws := ws_3) (q := pn_1) (e := (q911, zI4 E 6 (upd (upd (upd (fun _ => 0) 0 (nI ad)) 1 0) 2 20))) (List.mem_singleton.mpr rfl)) (fun q9 a9 n9 f9 h8 h7 h9 => by simp only [List.mem_cons, rg_mem, List.not_mem_nil, or_false, not_or]; omega)
    have G4_0 := zset_ne (q := pn_1) (e' := (q911, zI4 E 6 (upd (upd (upd (fun _ => 0) 0 (nI ad)) 1 0) 2 20))) (by omega) G3_0
    have G4_1 := zset_ne (q := pn_1) (e' := (q911, zI4 E 6 (upd (upd (upd (fun _ => 0) 0 (nI ad)) 1 0) 2 20))) (by omega) G3_1
    have G4_2 := zset_ne (q := pn_1) (e' := (q911, zI4 E 6 (upd (upd (upd (fun _ => 0) 0 (nI ad)) 1 0) 2 20))) (by omega) G3_2
    have G4_3 := zset_ne (q := pn_1) (e' := (q911, zI4 E 6 (upd (upd (upd (fun _ => 0) 0 (nI ad)) 1 0) 2 20))) (by omega) G3_3
    have G4_4 := zset_ne (q := pn_1) (e' := (q911, zI4 E 6 (upd (upd (upd (fun _ => 0) 0 (nI ad)) 1 0) 2 20))) (by omega) G3_4
    have G4_5 := zset_ne (q := pn_1) (e' := (q911, zI4 E 6 (upd (upd (upd (fun _ => 0) 0 (nI ad)) 1 0) 2 20))) (by omega) G3_5
    have G4_6 := zset_ne (q := pn_1) (e' := (q911, zI4 E 6 (upd (upd (upd (fun _ => 0) 0 (nI ad)) 1 0) 2 20))) (by omega) G3_6
    have G4_7 := zset_ne (q := pn_1) (e' := (q911, zI4 E 6 (upd (upd (upd (fun _ => 0) 0 (nI ad)) 1 0) 2 20))) (by omega) G3_7
    have G4_8 := zset_ne (q := pn_1) (e' := (q911, zI4 E 6 (upd (upd (upd (fun _ => 0) 0 (nI ad)) 1 0) 2 20))) (by omega) G3_8
    have G4_9 := zset_ne (q := pn_1) (e' := (q911, zI4 E 6 (upd (upd (upd (fun _ => 0) 0 (nI ad)) 1 0) 2 20))) (by omega) G3_9
    have G4_10 := zset_ne (q := pn_1) (e' := (q911, zI4 E 6 (upd (upd (upd (fun _ => 0) 0 (nI ad)) 1 0) 2 20))) (by omega) G3_10
    have G4_11 := zset_ne (q := pn_1) (e' := (q911, zI4 E 6 (upd (upd (upd (fun _ => 0) 0 (nI ad)) 1 0) 2 20))) (by omega) G3_11
    have G4_12 := zset_ne (q := pn_1) (e' := (q911, zI4 E 6 (upd (upd (upd (fun _ => 0) 0 (nI ad)) 1 0) 2 20))) (by omega) G3_12
    have G4_13 := zset_ne (q := pn_1) (e' := (q911, zI4 E 6 (upd (upd (upd (fun _ => 0) 0 (nI ad)) 1 0) 2 20))) (by omega) G3_13
    have G4_14 := zset_ne (q := pn_1) (e' := (q911, zI4 E 6 (upd (upd (upd (fun _ => 0) 0 (nI ad)) 1 0) 2 20))) (by omega) G3_14
    have G4_15 := zset_eq (e' := (q911, zI4 E 6 (upd (upd (upd (fun _ => 0) 0 (nI ad)) 1 0) 2 20))) G3_15
    generalize hws4 : (ws_3.set pn_1 (q911, zI4 E 6 (upd (upd (upd (fun _ => 0) 0 (nI ad)) 1 0) 2 20))) = ws_4 at J hk G4_0 G4_1 G4_2 G4_3 G4_4 G4_5 G4_6 G4_7 G4_8 G4_9 G4_10 G4_11 G4_12 G4_13 G4_14 G4_15 hF hR hSN
    refine lv_dup hx hb dL_law_946 rfl ?_
    refine lv_iconst (v := nI 3) hx hb dL_law_947 rfl ?_
    refine lv_iload hx hb dL_law_948 (lv_at hl 11 rfl) ?_
    refine lv_if_eq (tgt := 957) hx hb dL_law_950 (by decide) (fun cz950 => by exact absurd cz950 (by decide)) (fun cz950 => ?_)
    refine lv_iconst (v := 1) hx hb dL_law_953 (by decide) ?_
    refine lv_goto (tgt := 958) hx hb dL_law_954 (by decide) ?_
    refine z_iast X J pn_1 G4_15 (vp_in_nI (by omega) (by first | decide | omega)) dL_law_958 (fun H locs J => ?_)
    rw [show upd (upd (upd (upd (fun _ => 0) 0 (nI ad)) 1 0) 2 20) (nI 3).toNatClampNeg 1 = upd (upd (upd (upd (fun _ => 0) 0 (nI ad)) 1 0) 2 20) 3 1 from (by rw [nI_clamp (by omega)])] at J
    have hF := hF.keepS (zK.set (S := [pn_1]) (ws := ws_4) (q := pn_1) (e := (q911, zI4 E 6 (upd (upd (upd (upd (fun _ => 0) 0 (nI ad)) 1 0) 2 20) 3 1))) (List.mem_singleton.mpr rfl)) (fun q9 hq9 => Or.inr ⟨_, _, (List.mem_singleton.mp hq9).symm ▸ G4_15, noL_I⟩)
    have hR := hR.keepS (zK.set (S := [pn_1]) (ws := ws_4) (q := pn_1) (e := (q911, zI4 E 6 (upd (upd (upd (upd (fun _ => 0) 0 (nI ad)) 1 0) 2 20) 3 1))) (List.mem_singleton.mpr rfl)) (fun q9 hq9 => Or.inr ⟨_, _, (List.mem_singleton.mp hq9).symm ▸ G4_15, noL_I⟩)
    have hSN := hSN.keep (zK.set (S := [pn_1]) (ws := ws_4) (q := pn_1) (e := (q911, zI4 E 6 (upd (upd (upd (upd (fun _ => 0) 0 (nI ad)) 1 0) 2 20) 3 1))) (List.mem_singleton.mpr rfl)) (fun r9 hr9 => by simp only [List.mem_cons, rg_mem, List.not_mem_nil, or_false, not_or]; omega)
    have hk := hk.step (zK.set (S := [pn_1]) (ws := ws_4) (q := pn_1) (e := (q911, zI4 E 6 (upd (upd (upd (upd (fun _ => 0) 0 (nI ad)) 1 0) 2 20) 3 1))) (List.mem_singleton.mpr rfl)) (fun q9 a9 n9 f9 h8 h7 h9 => by simp only [List.mem_cons, rg_mem, List.not_mem_nil, or_false, not_or]; omega)
    have G5_0 := zset_ne (q := pn_1) (e' := (q911, zI4 E 6 (upd (upd (upd (upd (fun _ => 0) 0 (nI ad)) 1 0) 2 20) 3 1))) (by omega) G4_0
    have G5_1 := zset_ne (q := pn_1) (e' := (q911, zI4 E 6 (upd (upd (upd (upd (fun _ => 0) 0 (nI ad)) 1 0) 2 20) 3 1))) (by omega) G4_1
    have G5_2 := zset_ne (q := pn_1) (e' := (q911, zI4 E 6 (upd (upd (upd (upd (fun _ => 0) 0 (nI ad)) 1 0) 2 20) 3 1))) (by omega) G4_2
    have G5_3 := zset_ne (q := pn_1) (e' := (q911, zI4 E 6 (upd (upd (upd (upd (fun _ => 0) 0 (nI ad)) 1 0) 2 20) 3 1))) (by omega) G4_3
    have G5_4 := zset_ne (q := pn_1) (e' := (q911, zI4 E 6 (upd (upd (upd (upd (fun _ => 0) 0 (nI ad)) 1 0) 2 20) 3 1))) (by omega) G4_4
    have G5_5 := zset_ne (q := pn_1) (e' := (q911, zI4 E 6 (upd (upd (upd (upd (fun _ => 0) 0 (nI ad)) 1 0) 2 20) 3 1))) (by omega) G4_5
    have G5_6 := zset_ne (q := pn_1) (e' := (q911, zI4 E 6 (upd (upd (upd (upd (fun _ => 0) 0 (nI ad)) 1 0) 2 20) 3 1))) (by omega) G4_6
    have G5_7 := zset_ne (q := pn_1) (e' := (q911, zI4 E 6 (upd (upd (upd (upd (fun _ => 0) 0 (nI ad)) 1 0) 2 20) 3 1))) (by omega) G4_7
    have G5_8 := zset_ne (q := pn_1) (e' := (q911, zI4 E 6 (upd (upd (upd (upd (fun _ => 0) 0 (nI ad)) 1 0) 2 20) 3 1))) (by omega) G4_8
    have G5_9 := zset_ne (q := pn_1) (e' := (q911, zI4 E 6 (upd (upd (upd (upd (fun _ => 0) 0 (nI ad)) 1 0) 2 20) 3 1))) (by omega) G4_9
    have G5_10 := zset_ne (q := pn_1) (e' := (q911, zI4 E 6 (upd (upd (upd (upd (fun _ => 0) 0 (nI ad)) 1 0) 2 20) 3 1))) (by omega) G4_10
    have G5_11 := zset_ne (q := pn_1) (e' := (q911, zI4 E 6 (upd (upd (upd (upd (fun _ => 0) 0 (nI ad)) 1 0) 2 20) 3 1))) (by omega) G4_11
    have G5_12 := zset_ne (q := pn_1) (e' := (q911, zI4 E 6 (upd (upd (upd (upd (fun _ => 0) 0 (nI ad)) 1 0) 2 20) 3 1))) (by omega) G4_12
    have G5_13 := zset_ne (q := pn_1) (e' := (q911, zI4 E 6 (upd (upd (upd (upd (fun _ => 0) 0 (nI ad)) 1 0) 2 20) 3 1))) (by omega) G4_13
    have G5_14 := zset_ne (q := pn_1) (e' := (q911, zI4 E 6 (upd (upd (upd (upd (fun _ => 0) 0 (nI ad)) 1 0) 2 20) 3 1))) (by omega) G4_14
    have G5_15 := zset_eq (e' := (q911, zI4 E 6 (upd (upd (upd (upd (fun _ => 0) 0 (nI ad)) 1 0) 2 20) 3 1))) G4_15
    generalize hws5 : (ws_4.set pn_1 (q911, zI4 E 6 (upd (upd (upd (upd (fun _ => 0) 0 (nI ad)) 1 0) 2 20) 3 1))) = ws_5 at J hk G5_0 G5_1 G5_2 G5_3 G5_4 G5_5 G5_6 G5_7 G5_8 G5_9 G5_10 G5_11 G5_12 G5_13 G5_14 G5_15 hF hR hSN
    refine lv_dup hx hb dL_law_959 rfl ?_
    refine lv_iconst (v := nI 4) hx hb dL_law_960 rfl ?_
    refine lv_iload hx hb dL_law_961 (lv_at hl 8 rfl) ?_
    refine z_iast X J pn_1 G5_15 (vp_in_nI (by omega) (by first | decide | omega)) dL_law_963 (fun H locs J => ?_)
    rw [show upd (upd (upd (upd (upd (fun _ => 0) 0 (nI ad)) 1 0) 2 20) 3 1) (nI 4).toNatClampNeg (nI he) = upd (upd (upd (upd (upd (fun _ => 0) 0 (nI ad)) 1 0) 2 20) 3 1) 4 (nI he) from (by rw [nI_clamp (by omega)])] at J
    have hF := hF.keepS (zK.set (S := [pn_1]) (ws := ws_5) (q := pn_1) (e := (q911, zI4 E 6 (upd (upd (upd (upd (upd (fun _ => 0) 0 (nI ad)) 1 0) 2 20) 3 1) 4 (nI he)))) (List.mem_singleton.mpr rfl)) (fun q9 hq9 => Or.inr ⟨_, _, (List.mem_singleton.mp hq9).symm ▸ G5_15, noL_I⟩)
    have hR := hR.keepS (zK.set (S := [pn_1]) (ws := ws_5) (q := pn_1) (e := (q911, zI4 E 6 (upd (upd (upd (upd (upd (fun _ => 0) 0 (nI ad)) 1 0) 2 20) 3 1) 4 (nI he)))) (List.mem_singleton.mpr rfl)) (fun q9 hq9 => Or.inr ⟨_, _, (List.mem_singleton.mp hq9).symm ▸ G5_15, noL_I⟩)
    have hSN := hSN.keep (zK.set (S := [pn_1]) (ws := ws_5) (q := pn_1) (e := (q911, zI4 E 6 (upd (upd (upd (upd (upd (fun _ => 0) 0 (nI ad)) 1 0) 2 20) 3 1) 4 (nI he)))) (List.mem_singleton.mpr rfl)) (fun r9 hr9 => by simp only [List.mem_cons, rg_mem, List.not_mem_nil, or_false, not_or]; omega)
    have hk := hk.step (zK.set (S := [pn_1]) (ws := ws_5) (q := pn_1) (e := (q911, zI4 E 6 (upd (upd (upd (upd (upd (fun _ => 0) 0 (nI ad)) 1 0) 2 20) 3 1) 4 (nI he)))) (List.mem_singleton.mpr rfl)) (fun q9 a9 n9 f9 h8 h7 h9 => by simp only [List.mem_cons, rg_mem, List.not_mem_nil, or_false, not_or]; omega)
    have G6_0 := zset_ne (q := pn_1) (e' := (q911, zI4 E 6 (upd (upd (upd (upd (upd (fun _ => 0) 0 (nI ad)) 1 0) 2 20) 3 1) 4 (nI he)))) (by omega) G5_0
    have G6_1 := zset_ne (q := pn_1) (e' := (q911, zI4 E 6 (upd (upd (upd (upd (upd (fun _ => 0) 0 (nI ad)) 1 0) 2 20) 3 1) 4 (nI he)))) (by omega) G5_1
    have G6_2 := zset_ne (q := pn_1) (e' := (q911, zI4 E 6 (upd (upd (upd (upd (upd (fun _ => 0) 0 (nI ad)) 1 0) 2 20) 3 1) 4 (nI he)))) (by omega) G5_2
    have G6_3 := zset_ne (q := pn_1) (e' := (q911, zI4 E 6 (upd (upd (upd (upd (upd (fun _ => 0) 0 (nI ad)) 1 0) 2 20) 3 1) 4 (nI he)))) (by omega) G5_3
    have G6_4 := zset_ne (q := pn_1) (e' := (q911, zI4 E 6 (upd (upd (upd (upd (upd (fun _ => 0) 0 (nI ad)) 1 0) 2 20) 3 1) 4 (nI he)))) (by omega) G5_4
    have G6_5 := zset_ne (q := pn_1) (e' := (q911, zI4 E 6 (upd (upd (upd (upd (upd (fun _ => 0) 0 (nI ad)) 1 0) 2 20) 3 1) 4 (nI he)))) (by omega) G5_5
    have G6_6 := zset_ne (q := pn_1) (e' := (q911, zI4 E 6 (upd (upd (upd (upd (upd (fun _ => 0) 0 (nI ad)) 1 0) 2 20) 3 1) 4 (nI he)))) (by omega) G5_6
    have G6_7 := zset_ne (q := pn_1) (e' := (q911, zI4 E 6 (upd (upd (upd (upd (upd (fun _ => 0) 0 (nI ad)) 1 0) 2 20) 3 1) 4 (nI he)))) (by omega) G5_7
    have G6_8 := zset_ne (q := pn_1) (e' := (q911, zI4 E 6 (upd (upd (upd (upd (upd (fun _ => 0) 0 (nI ad)) 1 0) 2 20) 3 1) 4 (nI he)))) (by omega) G5_8
    have G6_9 := zset_ne (q := pn_1) (e' := (q911, zI4 E 6 (upd (upd (upd (upd (upd (fun _ => 0) 0 (nI ad)) 1 0) 2 20) 3 1) 4 (nI he)))) (by omega) G5_9
    have G6_10 := zset_ne (q := pn_1) (e' := (q911, zI4 E 6 (upd (upd (upd (upd (upd (fun _ => 0) 0 (nI ad)) 1 0) 2 20) 3 1) 4 (nI he)))) (by omega) G5_10
    have G6_11 := zset_ne (q := pn_1) (e' := (q911, zI4 E 6 (upd (upd (upd (upd (upd (fun _ => 0) 0 (nI ad)) 1 0) 2 20) 3 1) 4 (nI he)))) (by omega) G5_11
    have G6_12 := zset_ne (q := pn_1) (e' := (q911, zI4 E 6 (upd (upd (upd (upd (upd (fun _ => 0) 0 (nI ad)) 1 0) 2 20) 3 1) 4 (nI he)))) (by omega) G5_12
    have G6_13 := zset_ne (q := pn_1) (e' := (q911, zI4 E 6 (upd (upd (upd (upd (upd (fun _ => 0) 0 (nI ad)) 1 0) 2 20) 3 1) 4 (nI he)))) (by omega) G5_13
    have G6_14 := zset_ne (q := pn_1) (e' := (q911, zI4 E 6 (upd (upd (upd (upd (upd (fun _ => 0) 0 (nI ad)) 1 0) 2 20) 3 1) 4 (nI he)))) (by omega) G5_14
    have G6_15 := zset_eq (e' := (q911, zI4 E 6 (upd (upd (upd (upd (upd (fun _ => 0) 0 (nI ad)) 1 0) 2 20) 3 1) 4 (nI he)))) G5_15
    generalize hws6 : (ws_5.set pn_1 (q911, zI4 E 6 (upd (upd (upd (upd (upd (fun _ => 0) 0 (nI ad)) 1 0) 2 20) 3 1) 4 (nI he)))) = ws_6 at J hk G6_0 G6_1 G6_2 G6_3 G6_4 G6_5 G6_6 G6_7 G6_8 G6_9 G6_10 G6_11 G6_12 G6_13 G6_14 G6_15 hF hR hSN
    refine lv_dup hx hb dL_law_964 rfl ?_
    refine lv_iconst (v := nI 5) hx hb dL_law_965 rfl ?_
    refine lv_iconst (v := 0) hx hb dL_law_966 (by decide) ?_
    refine z_iast X J pn_1 G6_15 (vp_in_nI (by omega) (by first | decide | omega)) dL_law_967 (fun H locs J => ?_)
    rw [show upd (upd (upd (upd (upd (upd (fun _ => 0) 0 (nI ad)) 1 0) 2 20) 3 1) 4 (nI he)) (nI 5).toNatClampNeg 0 = upd (upd (upd (upd (upd (upd (fun _ => 0) 0 (nI ad)) 1 0) 2 20) 3 1) 4 (nI he)) 5 0 from (by rw [nI_clamp (by omega)])] at J
    have hF := hF.keepS (zK.set (S := [pn_1]) (ws := ws_6) (q := pn_1) (e := (q911, zI4 E 6 (upd (upd (upd (upd (upd (upd (fun _ => 0) 0 (nI ad)) 1 0) 2 20) 3 1) 4 (nI he)) 5 0))) (List.mem_singleton.mpr rfl)) (fun q9 hq9 => Or.inr ⟨_, _, (List.mem_singleton.mp hq9).symm ▸ G6_15, noL_I⟩)
    have hR := hR.keepS (zK.set (S := [pn_1]) (ws := ws_6) (q := pn_1) (e := (q911, zI4 E 6 (upd (upd (upd (upd (upd (upd (fun _ => 0) 0 (nI ad)) 1 0) 2 20) 3 1) 4 (nI he)) 5 0))) (List.mem_singleton.mpr rfl)) (fun q9 hq9 => Or.inr ⟨_, _, (List.mem_singleton.mp hq9).symm ▸ G6_15, noL_I⟩)
    have hSN := hSN.keep (zK.set (S := [pn_1]) (ws := ws_6) (q := pn_1) (e := (q911, zI4 E 6 (upd (upd (upd (upd (upd (upd (fun _ => 0) 0 (nI ad)) 1 0) 2 20) 3 1) 4 (nI he)) 5 0))) (List.mem_singleton.mpr rfl)) (fun r9 hr9 => by simp only [List.mem_cons, rg_mem, List.not_mem_nil, or_false, not_or]; omega)
    have hk := hk.step (zK.set (S := [pn_1]) (ws := ws_6) (q := pn_1) (e := (q911, zI4 E 6 (upd (upd (upd (upd (upd (upd (fun _ => 0) 0 (nI ad)) 1 0) 2 20) 3 1) 4 (nI he)) 5 0))) (List.mem_singleton.mpr rfl)) (fun q9 a9 n9 f9 h8 h7 h9 => by simp only [List.mem_cons, rg_mem, List.not_mem_nil, or_false, not_or]; omega)
    have G7_0 := zset_ne (q := pn_1) (e' := (q911, zI4 E 6 (upd (upd (upd (upd (upd (upd (fun _ => 0) 0 (nI ad)) 1 0) 2 20) 3 1) 4 (nI he)) 5 0))) (by omega) G6_0
    have G7_1 := zset_ne (q := pn_1) (e' := (q911, zI4 E 6 (upd (upd (upd (upd (upd (upd (fun _ => 0) 0 (nI ad)) 1 0) 2 20) 3 1) 4 (nI he)) 5 0))) (by omega) G6_1
    have G7_2 := zset_ne (q := pn_1) (e' := (q911, zI4 E 6 (upd (upd (upd (upd (upd (upd (fun _ => 0) 0 (nI ad)) 1 0) 2 20) 3 1) 4 (nI he)) 5 0))) (by omega) G6_2
    have G7_3 := zset_ne (q := pn_1) (e' := (q911, zI4 E 6 (upd (upd (upd (upd (upd (upd (fun _ => 0) 0 (nI ad)) 1 0) 2 20) 3 1) 4 (nI he)) 5 0))) (by omega) G6_3
    have G7_4 := zset_ne (q := pn_1) (e' := (q911, zI4 E 6 (upd (upd (upd (upd (upd (upd (fun _ => 0) 0 (nI ad)) 1 0) 2 20) 3 1) 4 (nI he)) 5 0))) (by omega) G6_4
    have G7_5 := zset_ne (q := pn_1) (e' := (q911, zI4 E 6 (upd (upd (upd (upd (upd (upd (fun _ => 0) 0 (nI ad)) 1 0) 2 20) 3 1) 4 (nI he)) 5 0))) (by omega) G6_5
    have G7_6 := zset_ne (q := pn_1) (e' := (q911, zI4 E 6 (upd (upd (upd (upd (upd (upd (fun _ => 0) 0 (nI ad)) 1 0) 2 20) 3 1) 4 (nI he)) 5 0))) (by omega) G6_6
    have G7_7 := zset_ne (q := pn_1) (e' := (q911, zI4 E 6 (upd (upd (upd (upd (upd (upd (fun _ => 0) 0 (nI ad)) 1 0) 2 20) 3 1) 4 (nI he)) 5 0))) (by omega) G6_7
    have G7_8 := zset_ne (q := pn_1) (e' := (q911, zI4 E 6 (upd (upd (upd (upd (upd (upd (fun _ => 0) 0 (nI ad)) 1 0) 2 20) 3 1) 4 (nI he)) 5 0))) (by omega) G6_8
    have G7_9 := zset_ne (q := pn_1) (e' := (q911, zI4 E 6 (upd (upd (upd (upd (upd (upd (fun _ => 0) 0 (nI ad)) 1 0) 2 20) 3 1) 4 (nI he)) 5 0))) (by omega) G6_9
    have G7_10 := zset_ne (q := pn_1) (e' := (q911, zI4 E 6 (upd (upd (upd (upd (upd (upd (fun _ => 0) 0 (nI ad)) 1 0) 2 20) 3 1) 4 (nI he)) 5 0))) (by omega) G6_10
    have G7_11 := zset_ne (q := pn_1) (e' := (q911, zI4 E 6 (upd (upd (upd (upd (upd (upd (fun _ => 0) 0 (nI ad)) 1 0) 2 20) 3 1) 4 (nI he)) 5 0))) (by omega) G6_11
    have G7_12 := zset_ne (q := pn_1) (e' := (q911, zI4 E 6 (upd (upd (upd (upd (upd (upd (fun _ => 0) 0 (nI ad)) 1 0) 2 20) 3 1) 4 (nI he)) 5 0))) (by omega) G6_12
    have G7_13 := zset_ne (q := pn_1) (e' := (q911, zI4 E 6 (upd (upd (upd (upd (upd (upd (fun _ => 0) 0 (nI ad)) 1 0) 2 20) 3 1) 4 (nI he)) 5 0))) (by omega) G6_13
    have G7_14 := zset_ne (q := pn_1) (e' := (q911, zI4 E 6 (upd (upd (upd (upd (upd (upd (fun _ => 0) 0 (nI ad)) 1 0) 2 20) 3 1) 4 (nI he)) 5 0))) (by omega) G6_14
    have G7_15 := zset_eq (e' := (q911, zI4 E 6 (upd (upd (upd (upd (upd (upd (fun _ => 0) 0 (nI ad)) 1 0) 2 20) 3 1) 4 (nI he)) 5 0))) G6_15
    generalize hws7 : (ws_6.set pn_1 (q911, zI4 E 6 (upd (upd (upd (upd (upd (upd (fun _ => 0) 0 (nI ad)) 1 0) 2 20) 3 1) 4 (nI he)) 5 0))) = ws_7 at J hk G7_0 G7_1 G7_2 G7_3 G7_4 G7_5 G7_6 G7_7 G7_8 G7_9 G7_10 G7_11 G7_12 G7_13 G7_14 G7_15 hF hR hSN
    refine z_cq J (z_rS (As := [.ref fe, .ref q911]) (rest := [.ref z]) X J (cX7_with_ok l E G7_13 G7_15 (fun j9 hj9 => (hSE.keepI hk j9 hj9).elim (fun a9 h9 => h9.elim (fun q9 h9 => h9.elim (fun f9 h9 => ⟨a9, q9, 6, f9, h9.1, h9.2.2.1⟩)))) hnf) (va_cwS 2 hts (goodIn_ext3 gL_law_X7_with) rfl rfl rfl (by decide +kernel) ⟨Nat.le_of_ble_eq_true rfl, Nat.le_of_ble_eq_true rfl⟩) rfl hl.1 rfl (Nat.le_of_ble_eq_true rfl) dL_law_968 ⟨by show _ ≤ 1106048; omega, by show _ ≤ 5783625; omega⟩) (fun r968 ws_8 H locs hp9 J => ?_)
    obtain ⟨k8, ⟨nq_8, hlen8, N8_0, e_r968⟩⟩ := hp9
    have hF := hF.keepS k8 (fun q9 hq9 => absurd hq9 List.not_mem_nil)
    have hR := hR.keepS k8 (fun q9 hq9 => absurd hq9 List.not_mem_nil)
    have hSN := hSN.keep k8 (fun _ _ => List.not_mem_nil)
    have lp8 := hk.1
    have b_8_0 := zlt G7_0
    have b_8_1 := zlt G7_1
    have b_8_2 := zlt G7_2
    have b_8_3 := zlt G7_3
    have b_8_4 := zlt G7_4
    have b_8_5 := zlt G7_5
    have b_8_6 := zlt G7_6
    have b_8_7 := zlt G7_7
    have b_8_8 := zlt G7_8
    have b_8_9 := zlt G7_9
    have b_8_10 := zlt G7_10
    have b_8_11 := zlt G7_11
    have b_8_12 := zlt G7_12
    have b_8_13 := zlt G7_13
    have b_8_14 := zlt G7_14
    have b_8_15 := zlt G7_15
    have hk := hk.step k8 (fun _ _ _ _ _ _ _ => List.not_mem_nil)
    have G8_0 := k8.2 0 _ List.not_mem_nil G7_0
    have G8_1 := k8.2 1 _ List.not_mem_nil G7_1
    have G8_2 := k8.2 2 _ List.not_mem_nil G7_2
    have G8_3 := k8.2 3 _ List.not_mem_nil G7_3
    have G8_4 := k8.2 4 _ List.not_mem_nil G7_4
    have G8_5 := k8.2 5 _ List.not_mem_nil G7_5
    have G8_6 := k8.2 6 _ List.not_mem_nil G7_6
    have G8_7 := k8.2 7 _ List.not_mem_nil G7_7
    have G8_8 := k8.2 8 _ List.not_mem_nil G7_8
    have G8_9 := k8.2 9 _ List.not_mem_nil G7_9
    have G8_10 := k8.2 10 _ List.not_mem_nil G7_10
    have G8_11 := k8.2 11 _ List.not_mem_nil G7_11
    have G8_12 := k8.2 14 _ List.not_mem_nil G7_12
    have G8_13 := k8.2 qf _ List.not_mem_nil G7_13
    have G8_14 := k8.2 qr _ List.not_mem_nil G7_14
    have G8_15 := k8.2 pn_1 _ List.not_mem_nil G7_15
    obtain ⟨pn_8_0, hpn_8_0⟩ : ∃ z : Nat, z = ws_7.length + 0 := ⟨_, rfl⟩
    rw [← hpn_8_0] at N8_0
    subst e_r968
    refine W.eq (g2 := F0 m 971 ls [.ref nq_8, .ref z]) rfl ?_
    refine lv_iload hx hb dL_law_971 (lv_at hl 5 rfl) ?_
    refine lv_iload hx hb dL_law_973 (lv_at hl 6 rfl) ?_
    refine z_ci J (z_rV (As := [.ref nq_8, .int (nI wd), .int (nI sg)]) (rest := []) (ci := 8) (q0 := 11) X J (cX7_tried_ok l E (fa := (fput fa nf (nI ad) 0 20 1 (nI he) 0)) G8_11 G8_12 N8_0 G8_14 hSN ((hSE.keepI hk).add (fb := fput fa nf (nI ad) 0 20 1 (nI he) 0) G8_15 (by omega) (fun t9 ht9 => f6_put t9 ht9) (fun j9 hj9 => fput_lo hj9)) (by omega) (okF_put hok (co := ad) (ro := 0) (le := 20) (he := he) (ga := 0) rfl rfl rfl rfl rfl (by decide) (by omega) (by omega) (by decide) (Or.inr ⟨rfl, by omega, by omega⟩)) (hSR.keepI hk) hnr hor hw4 hRB (nI_BI2 (lo := 1) (hi := 9) (by omega) (by omega) (by omega)) hu9) (cwV 3 hts (goodIn_ext3 gL_law_X7_tried) rfl rfl rfl (by decide +kernel) ⟨Nat.le_of_ble_eq_true rfl, Nat.le_of_ble_eq_true rfl⟩) G8_11 rfl rfl rfl hl.1 rfl (Nat.le_of_ble_eq_true rfl) dL_law_975 ⟨by show _ ≤ 1106048; omega, by show _ ≤ 5783625; omega⟩) (fun r975 ws_9 H locs hp9 J => ?_)
    obtain ⟨k9, e_r975⟩ := hp9
    have hF := hF.keepS k9 (fun q9 hq9 => absurd hq9 List.not_mem_nil)
    have hR := hR.keepS k9 (fun q9 hq9 => absurd hq9 List.not_mem_nil)
    have hSN := hSN.keep k9 (fun _ _ => List.not_mem_nil)
    have hk := hk.step k9 (fun _ _ _ _ _ _ _ => List.not_mem_nil)
    have G9_0 := k9.2 0 _ List.not_mem_nil G8_0
    have G9_1 := k9.2 1 _ List.not_mem_nil G8_1
    have G9_2 := k9.2 2 _ List.not_mem_nil G8_2
    have G9_3 := k9.2 3 _ List.not_mem_nil G8_3
    have G9_4 := k9.2 4 _ List.not_mem_nil G8_4
    have G9_5 := k9.2 5 _ List.not_mem_nil G8_5
    have G9_6 := k9.2 6 _ List.not_mem_nil G8_6
    have G9_7 := k9.2 7 _ List.not_mem_nil G8_7
    have G9_8 := k9.2 8 _ List.not_mem_nil G8_8
    have G9_9 := k9.2 9 _ List.not_mem_nil G8_9
    have G9_10 := k9.2 10 _ List.not_mem_nil G8_10
    have G9_11 := k9.2 11 _ List.not_mem_nil G8_11
    have G9_12 := k9.2 14 _ List.not_mem_nil G8_12
    have G9_13 := k9.2 qf _ List.not_mem_nil G8_13
    have G9_14 := k9.2 qr _ List.not_mem_nil G8_14
    have G9_15 := k9.2 pn_1 _ List.not_mem_nil G8_15
    have G9_16 := k9.2 pn_8_0 _ List.not_mem_nil N8_0
    subst e_r975
    refine W.eq (g2 := F0 m 978 ls [.int (advK (advD (nI wd)) fa nf (nI he) (nI sg) sup (nI wd) sn rd ri lim nr ad)]) (congrArg (fun z9 : Int32 => F0 m 978 ls [.int z9]) (show (allB (hsS (nI sg) sup (hgS (fput fa nf (nI ad) 0 20 1 (nI he) 0) (-1) (nf + 1)).1 (hgS (fput fa nf (nI ad) 0 20 1 (nI he) 0) (-1) (nf + 1)).2 (nI wd) sn 4).2.1 rd ri lim nr : Int32) = advK (advD (nI wd)) fa nf (nI he) (nI sg) sup (nI wd) sn rd ri lim nr ad from (adv_t1 hnf hD))) ?_
    refine lv_istore (lv' := [(24, .int (advK (advD (nI wd)) fa nf (nI he) (nI sg) sup (nI wd) sn rd ri lim nr ad)), (0, .ref E.2.2.2.2.1), (1, .ref x), (2, .ref z), (3, .int (nI t)), (4, .int xv), (5, .int (nI wd)), (6, .int (nI sg)), (7, .int (nI hh)), (20, .int (nI he)), (21, .int (nI ad)), (22, .int hv), (23, .int 1)]) hx hb dL_law_978 hl (by decide) rfl (fun ls hl => ?_)
    refine lv_iload hx hb dL_law_980 (lv_at hl 5 rfl) ?_
    refine lv_bipush (v := 7) hx hb dL_law_982 (by decide) ?_
    refine lv_ishr hx hb dL_law_984 ?_
    refine lv_bipush (v := nI 20) hx hb dL_law_985 (by decide) ?_
    obtain ⟨an, han⟩ : ∃ q9 : Nat, q9 = bln (xv >>> (7 &&& 31)) (20) := ⟨_, rfl⟩
    have ban := bln_lt (v := xv >>> (7 &&& 31)) (n := 20) (by omega)
    refine z_cr (z_rS (As := [.int (xv >>> (7 &&& 31)), .int (nI 20)]) (rest := []) X J (cL_below_ok l E (by first | assumption | omega | decide) (by first | assumption | omega | decide)) (va_cwS 2 hts (goodIn_ext3 gL_law_L_below) rfl rfl rfl (by decide +kernel) ⟨Nat.le_of_ble_eq_true rfl, Nat.le_of_ble_eq_true rfl⟩) rfl hl.1 rfl (Nat.le_of_ble_eq_true rfl) dL_law_987 ⟨by show _ ≤ 1106048; omega, by show _ ≤ 5783625; omega⟩) (fun r987 e_r987 => ?_)
    subst e_r987
    refine W.eq (g2 := F0 m 990 ls [.int (nI an)]) (congrArg (fun z9 : Int32 => F0 m 990 ls [.int z9]) (show (nI (bln (xv >>> (7 &&& 31)) 20) : Int32) = nI an from (by rw [han]))) ?_
    refine lv_istore (lv' := [(25, .int (nI an)), (24, .int (advK (advD (nI wd)) fa nf (nI he) (nI sg) sup (nI wd) sn rd ri lim nr ad)), (0, .ref E.2.2.2.2.1), (1, .ref x), (2, .ref z), (3, .int (nI t)), (4, .int xv), (5, .int (nI wd)), (6, .int (nI sg)), (7, .int (nI hh)), (20, .int (nI he)), (21, .int (nI ad)), (22, .int hv), (23, .int 1)]) hx hb dL_law_990 hl (by decide) rfl (fun ls hl => ?_)
    refine lv_aload_n hx hb dL_law_992 rfl (lv_at hl 4 rfl) ?_
    refine lv_aload_n hx hb dL_law_993 rfl (lv_at hl 4 rfl) ?_
    refine z_get (C := RX7) (T := TX7) (N := 8) (ci := 8) (v := .ref fe) X J hi_X7 11 G9_11 rfl 0 (by decide) (by decide +kernel) rfl dL_law_994 ?_
    refine lv_bipush (v := 6) hx hb dL_law_997 (by decide) ?_
    refine z_newa (N' := 6) X J (by decide +kernel) (by decide) (by decide) (Nat.le_of_ble_eq_true rfl) (by show _ ≤ 1106048; omega) (by show _ ≤ 5783625; omega) dL_law_999 (fun q999 H J => ?_)
    have hF := hF.keepS (zK.app (S := []) (ws := ws_9) (more := [(q999, zI4 E 6 (fun _ => 0))])) (fun q9 hq9 => absurd hq9 List.not_mem_nil)
    have hR := hR.keepS (zK.app (S := []) (ws := ws_9) (more := [(q999, zI4 E 6 (fun _ => 0))])) (fun q9 hq9 => absurd hq9 List.not_mem_nil)
    have hSN := hSN.keep (zK.app (S := []) (ws := ws_9) (more := [(q999, zI4 E 6 (fun _ => 0))])) (fun _ _ => List.not_mem_nil)
    have lp10 := hk.1
    have hk := hk.step (zK.app (S := []) (ws := ws_9) (more := [(q999, zI4 E 6 (fun _ => 0))])) (fun _ _ _ _ _ _ _ => List.not_mem_nil)
    have bG10_0 := zlt G9_0
    have G10_0 := zapp (x := (q999, zI4 E 6 (fun _ => 0))) G9_0
    have bG10_1 := zlt G9_1
    have G10_1 := zapp (x := (q999, zI4 E 6 (fun _ => 0))) G9_1
    have bG10_2 := zlt G9_2
    have G10_2 := zapp (x := (q999, zI4 E 6 (fun _ => 0))) G9_2
    have bG10_3 := zlt G9_3
    have G10_3 := zapp (x := (q999, zI4 E 6 (fun _ => 0))) G9_3
    have bG10_4 := zlt G9_4
    have G10_4 := zapp (x := (q999, zI4 E 6 (fun _ => 0))) G9_4
    have bG10_5 := zlt G9_5
    have G10_5 := zapp (x := (q999, zI4 E 6 (fun _ => 0))) G9_5
    have bG10_6 := zlt G9_6
    have G10_6 := zapp (x := (q999, zI4 E 6 (fun _ => 0))) G9_6
    have bG10_7 := zlt G9_7
    have G10_7 := zapp (x := (q999, zI4 E 6 (fun _ => 0))) G9_7
    have bG10_8 := zlt G9_8
    have G10_8 := zapp (x := (q999, zI4 E 6 (fun _ => 0))) G9_8
    have bG10_9 := zlt G9_9
    have G10_9 := zapp (x := (q999, zI4 E 6 (fun _ => 0))) G9_9
    have bG10_10 := zlt G9_10
    have G10_10 := zapp (x := (q999, zI4 E 6 (fun _ => 0))) G9_10
    have bG10_11 := zlt G9_11
    have G10_11 := zapp (x := (q999, zI4 E 6 (fun _ => 0))) G9_11
    have bG10_12 := zlt G9_12
    have G10_12 := zapp (x := (q999, zI4 E 6 (fun _ => 0))) G9_12
    have bG10_13 := zlt G9_13
    have G10_13 := zapp (x := (q999, zI4 E 6 (fun _ => 0))) G9_13
    have bG10_14 := zlt G9_14
    have G10_14 := zapp (x := (q999, zI4 E 6 (fun _ => 0))) G9_14
    have bG10_15 := zlt G9_15
    have G10_15 := zapp (x := (q999, zI4 E 6 (fun _ => 0))) G9_15
    have bG10_16 := zlt G9_16
    have G10_16 := zapp (x := (q999, zI4 E 6 (fun _ => 0))) G9_16
    have G10_n := zapp_new (ws := ws_9) (x := (q999, zI4 E 6 (fun _ => 0)))
    generalize hws10 : ws_9 ++ [(q999, zI4 E 6 (fun _ => 0))] = ws_10 at J hk G10_0 G10_1 G10_2 G10_3 G10_4 G10_5 G10_6 G10_7 G10_8 G10_9 G10_10 G10_11 G10_12 G10_13 G10_14 G10_15 G10_16 hF hR hSN G10_n
    generalize hpn10 : ws_9.length = pn_10 at G10_n lp10 bG10_0 bG10_1 bG10_2 bG10_3 bG10_4 bG10_5 bG10_6 bG10_7 bG10_8 bG10_9 bG10_10 bG10_11 bG10_12 bG10_13 bG10_14 bG10_15 bG10_16
    refine lv_dup hx hb dL_law_1001 rfl ?_
    refine lv_iconst (v := nI 0) hx hb dL_law_1002 rfl ?_
    refine lv_iload hx hb dL_law_1003 (lv_at hl 13 rfl) ?_
    refine lv_if_eq (tgt := 1013) hx hb dL_law_1005 (by decide) (fun cz1005 => by exact absurd cz1005 (by decide)) (fun cz1005 => ?_)
    refine lv_iload hx hb dL_law_1008 (lv_at hl 0 rfl) ?_
    refine lv_goto (tgt := 1014) hx hb dL_law_1010 (by decide) ?_
    refine z_iast X J pn_10 G10_n (vp_in_nI (by omega) (by first | decide | omega)) dL_law_1014 (fun H locs J => ?_)
    rw [show upd (fun _ => 0) (nI 0).toNatClampNeg (nI an) = upd (fun _ => 0) 0 (nI an) from (by rw [nI_clamp (by omega)])] at J
    have hF := hF.keepS (zK.set (S := [pn_10]) (ws := ws_10) (q := pn_10) (e := (q999, zI4 E 6 (upd (fun _ => 0) 0 (nI an)))) (List.mem_singleton.mpr rfl)) (fun q9 hq9 => Or.inr ⟨_, _, (List.mem_singleton.mp hq9).symm ▸ G10_n, noL_I⟩)
    have hR := hR.keepS (zK.set (S := [pn_10]) (ws := ws_10) (q := pn_10) (e := (q999, zI4 E 6 (upd (fun _ => 0) 0 (nI an)))) (List.mem_singleton.mpr rfl)) (fun q9 hq9 => Or.inr ⟨_, _, (List.mem_singleton.mp hq9).symm ▸ G10_n, noL_I⟩)
    have hSN := hSN.keep (zK.set (S := [pn_10]) (ws := ws_10) (q := pn_10) (e := (q999, zI4 E 6 (upd (fun _ => 0) 0 (nI an)))) (List.mem_singleton.mpr rfl)) (fun r9 hr9 => by simp only [List.mem_cons, rg_mem, List.not_mem_nil, or_false, not_or]; omega)
    have hk := hk.step (zK.set (S := [pn_10]) (ws := ws_10) (q := pn_10) (e := (q999, zI4 E 6 (upd (fun _ => 0) 0 (nI an)))) (List.mem_singleton.mpr rfl)) (fun q9 a9 n9 f9 h8 h7 h9 => by simp only [List.mem_cons, rg_mem, List.not_mem_nil, or_false, not_or]; omega)
    have G11_0 := zset_ne (q := pn_10) (e' := (q999, zI4 E 6 (upd (fun _ => 0) 0 (nI an)))) (by omega) G10_0
    have G11_1 := zset_ne (q := pn_10) (e' := (q999, zI4 E 6 (upd (fun _ => 0) 0 (nI an)))) (by omega) G10_1
    have G11_2 := zset_ne (q := pn_10) (e' := (q999, zI4 E 6 (upd (fun _ => 0) 0 (nI an)))) (by omega) G10_2
    have G11_3 := zset_ne (q := pn_10) (e' := (q999, zI4 E 6 (upd (fun _ => 0) 0 (nI an)))) (by omega) G10_3
    have G11_4 := zset_ne (q := pn_10) (e' := (q999, zI4 E 6 (upd (fun _ => 0) 0 (nI an)))) (by omega) G10_4
    have G11_5 := zset_ne (q := pn_10) (e' := (q999, zI4 E 6 (upd (fun _ => 0) 0 (nI an)))) (by omega) G10_5
    have G11_6 := zset_ne (q := pn_10) (e' := (q999, zI4 E 6 (upd (fun _ => 0) 0 (nI an)))) (by omega) G10_6
    have G11_7 := zset_ne (q := pn_10) (e' := (q999, zI4 E 6 (upd (fun _ => 0) 0 (nI an)))) (by omega) G10_7
    have G11_8 := zset_ne (q := pn_10) (e' := (q999, zI4 E 6 (upd (fun _ => 0) 0 (nI an)))) (by omega) G10_8
    have G11_9 := zset_ne (q := pn_10) (e' := (q999, zI4 E 6 (upd (fun _ => 0) 0 (nI an)))) (by omega) G10_9
    have G11_10 := zset_ne (q := pn_10) (e' := (q999, zI4 E 6 (upd (fun _ => 0) 0 (nI an)))) (by omega) G10_10
    have G11_11 := zset_ne (q := pn_10) (e' := (q999, zI4 E 6 (upd (fun _ => 0) 0 (nI an)))) (by omega) G10_11
    have G11_12 := zset_ne (q := pn_10) (e' := (q999, zI4 E 6 (upd (fun _ => 0) 0 (nI an)))) (by omega) G10_12
    have G11_13 := zset_ne (q := pn_10) (e' := (q999, zI4 E 6 (upd (fun _ => 0) 0 (nI an)))) (by omega) G10_13
    have G11_14 := zset_ne (q := pn_10) (e' := (q999, zI4 E 6 (upd (fun _ => 0) 0 (nI an)))) (by omega) G10_14
    have G11_15 := zset_ne (q := pn_10) (e' := (q999, zI4 E 6 (upd (fun _ => 0) 0 (nI an)))) (by omega) G10_15
    have G11_16 := zset_ne (q := pn_10) (e' := (q999, zI4 E 6 (upd (fun _ => 0) 0 (nI an)))) (by omega) G10_16
    have G11_17 := zset_eq (e' := (q999, zI4 E 6 (upd (fun _ => 0) 0 (nI an)))) G10_n
    generalize hws11 : (ws_10.set pn_10 (q999, zI4 E 6 (upd (fun _ => 0) 0 (nI an)))) = ws_11 at J hk G11_0 G11_1 G11_2 G11_3 G11_4 G11_5 G11_6 G11_7 G11_8 G11_9 G11_10 G11_11 G11_12 G11_13 G11_14 G11_15 G11_16 G11_17 hF hR hSN
    refine lv_dup hx hb dL_law_1015 rfl ?_
    refine lv_iconst (v := nI 1) hx hb dL_law_1016 rfl ?_
    refine lv_iload hx hb dL_law_1017 (lv_at hl 13 rfl) ?_
    refine lv_if_eq (tgt := 1026) hx hb dL_law_1019 (by decide) (fun cz1019 => by exact absurd cz1019 (by decide)) (fun cz1019 => ?_)
    refine lv_iconst (v := 0) hx hb dL_law_1022 (by decide) ?_
    refine lv_goto (tgt := 1028) hx hb dL_law_1023 (by decide) ?_
    refine z_iast X J pn_10 G11_17 (vp_in_nI (by omega) (by first | decide | omega)) dL_law_1028 (fun H locs J => ?_)
    rw [show upd (upd (fun _ => 0) 0 (nI an)) (nI 1).toNatClampNeg 0 = upd (upd (fun _ => 0) 0 (nI an)) 1 0 from (by rw [nI_clamp (by omega)])] at J
    have hF := hF.keepS (zK.set (S := [pn_10]) (ws := ws_11) (q := pn_10) (e := (q999, zI4 E 6 (upd (upd (fun _ => 0) 0 (nI an)) 1 0))) (List.mem_singleton.mpr rfl)) (fun q9 hq9 => Or.inr ⟨_, _, (List.mem_singleton.mp hq9).symm ▸ G11_17, noL_I⟩)
    have hR := hR.keepS (zK.set (S := [pn_10]) (ws := ws_11) (q := pn_10) (e := (q999, zI4 E 6 (upd (upd (fun _ => 0) 0 (nI an)) 1 0))) (List.mem_singleton.mpr rfl)) (fun q9 hq9 => Or.inr ⟨_, _, (List.mem_singleton.mp hq9).symm ▸ G11_17, noL_I⟩)
    have hSN := hSN.keep (zK.set (S := [pn_10]) (ws := ws_11) (q := pn_10) (e := (q999, zI4 E 6 (upd (upd (fun _ => 0) 0 (nI an)) 1 0))) (List.mem_singleton.mpr rfl)) (fun r9 hr9 => by simp only [List.mem_cons, rg_mem, List.not_mem_nil, or_false, not_or]; omega)
    have hk := hk.step (zK.set (S := [pn_10]) (ws := ws_11) (q := pn_10) (e := (q999, zI4 E 6 (upd (upd (fun _ => 0) 0 (nI an)) 1 0))) (List.mem_singleton.mpr rfl)) (fun q9 a9 n9 f9 h8 h7 h9 => by simp only [List.mem_cons, rg_mem, List.not_mem_nil, or_false, not_or]; omega)
    have G12_0 := zset_ne (q := pn_10) (e' := (q999, zI4 E 6 (upd (upd (fun _ => 0) 0 (nI an)) 1 0))) (by omega) G11_0
    have G12_1 := zset_ne (q := pn_10) (e' := (q999, zI4 E 6 (upd (upd (fun _ => 0) 0 (nI an)) 1 0))) (by omega) G11_1
    have G12_2 := zset_ne (q := pn_10) (e' := (q999, zI4 E 6 (upd (upd (fun _ => 0) 0 (nI an)) 1 0))) (by omega) G11_2
    have G12_3 := zset_ne (q := pn_10) (e' := (q999, zI4 E 6 (upd (upd (fun _ => 0) 0 (nI an)) 1 0))) (by omega) G11_3
    have G12_4 := zset_ne (q := pn_10) (e' := (q999, zI4 E 6 (upd (upd (fun _ => 0) 0 (nI an)) 1 0))) (by omega) G11_4
    have G12_5 := zset_ne (q := pn_10) (e' := (q999, zI4 E 6 (upd (upd (fun _ => 0) 0 (nI an)) 1 0))) (by omega) G11_5
    have G12_6 := zset_ne (q := pn_10) (e' := (q999, zI4 E 6 (upd (upd (fun _ => 0) 0 (nI an)) 1 0))) (by omega) G11_6
    have G12_7 := zset_ne (q := pn_10) (e' := (q999, zI4 E 6 (upd (upd (fun _ => 0) 0 (nI an)) 1 0))) (by omega) G11_7
    have G12_8 := zset_ne (q := pn_10) (e' := (q999, zI4 E 6 (upd (upd (fun _ => 0) 0 (nI an)) 1 0))) (by omega) G11_8
    have G12_9 := zset_ne (q := pn_10) (e' := (q999, zI4 E 6 (upd (upd (fun _ => 0) 0 (nI an)) 1 0))) (by omega) G11_9
    have G12_10 := zset_ne (q := pn_10) (e' := (q999, zI4 E 6 (upd (upd (fun _ => 0) 0 (nI an)) 1 0))) (by omega) G11_10
    have G12_11 := zset_ne (q := pn_10) (e' := (q999, zI4 E 6 (upd (upd (fun _ => 0) 0 (nI an)) 1 0))) (by omega) G11_11
    have G12_12 := zset_ne (q := pn_10) (e' := (q999, zI4 E 6 (upd (upd (fun _ => 0) 0 (nI an)) 1 0))) (by omega) G11_12
    have G12_13 := zset_ne (q := pn_10) (e' := (q999, zI4 E 6 (upd (upd (fun _ => 0) 0 (nI an)) 1 0))) (by omega) G11_13
    have G12_14 := zset_ne (q := pn_10) (e' := (q999, zI4 E 6 (upd (upd (fun _ => 0) 0 (nI an)) 1 0))) (by omega) G11_14
    have G12_15 := zset_ne (q := pn_10) (e' := (q999, zI4 E 6 (upd (upd (fun _ => 0) 0 (nI an)) 1 0))) (by omega) G11_15
    have G12_16 := zset_ne (q := pn_10) (e' := (q999, zI4 E 6 (upd (upd (fun _ => 0) 0 (nI an)) 1 0))) (by omega) G11_16
    have G12_17 := zset_eq (e' := (q999, zI4 E 6 (upd (upd (fun _ => 0) 0 (nI an)) 1 0))) G11_17
    generalize hws12 : (ws_11.set pn_10 (q999, zI4 E 6 (upd (upd (fun _ => 0) 0 (nI an)) 1 0))) = ws_12 at J hk G12_0 G12_1 G12_2 G12_3 G12_4 G12_5 G12_6 G12_7 G12_8 G12_9 G12_10 G12_11 G12_12 G12_13 G12_14 G12_15 G12_16 G12_17 hF hR hSN
    refine lv_dup hx hb dL_law_1029 rfl ?_
    refine lv_iconst (v := nI 2) hx hb dL_law_1030 rfl ?_
    refine lv_bipush (v := 20) hx hb dL_law_1031 (by decide) ?_
    refine z_iast X J pn_10 G12_17 (vp_in_nI (by omega) (by first | decide | omega)) dL_law_1033 (fun H locs J => ?_)
    rw [show upd (upd (upd (fun _ => 0) 0 (nI an)) 1 0) (nI 2).toNatClampNeg 20 = upd (upd (upd (fun _ => 0) 0 (nI an)) 1 0) 2 20 from (by rw [nI_clamp (by omega)])] at J
    have hF := hF.keepS (zK.set (S := [pn_10]) (ws := ws_12) (q := pn_10) (e := (q999, zI4 E 6 (upd (upd (upd (fun _ => 0) 0 (nI an)) 1 0) 2 20))) (List.mem_singleton.mpr rfl)) (fun q9 hq9 => Or.inr ⟨_, _, (List.mem_singleton.mp hq9).symm ▸ G12_17, noL_I⟩)
    have hR := hR.keepS (zK.set (S := [pn_10]) (ws := ws_12) (q := pn_10) (e := (q999, zI4 E 6 (upd (upd (upd (fun _ => 0) 0 (nI an)) 1 0) 2 20))) (List.mem_singleton.mpr rfl)) (fun q9 hq9 => Or.inr ⟨_, _, (List.mem_singleton.mp hq9).symm ▸ G12_17, noL_I⟩)
    have hSN := hSN.keep (zK.set (S := [pn_10]) (ws := ws_12) (q := pn_10) (e := (q999, zI4 E 6 (upd (upd (upd (fun _ => 0) 0 (nI an)) 1 0) 2 20))) (List.mem_singleton.mpr rfl)) (fun r9 hr9 => by simp only [List.mem_cons, rg_mem, List.not_mem_nil, or_false, not_or]; omega)
    have hk := hk.step (zK.set (S := [pn_10]) (ws := ws_12) (q := pn_10) (e := (q999, zI4 E 6 (upd (upd (upd (fun _ => 0) 0 (nI an)) 1 0) 2 20))) (List.mem_singleton.mpr rfl)) (fun q9 a9 n9 f9 h8 h7 h9 => by simp only [List.mem_cons, rg_mem, List.not_mem_nil, or_false, not_or]; omega)
    have G13_0 := zset_ne (q := pn_10) (e' := (q999, zI4 E 6 (upd (upd (upd (fun _ => 0) 0 (nI an)) 1 0) 2 20))) (by omega) G12_0
    have G13_1 := zset_ne (q := pn_10) (e' := (q999, zI4 E 6 (upd (upd (upd (fun _ => 0) 0 (nI an)) 1 0) 2 20))) (by omega) G12_1
    have G13_2 := zset_ne (q := pn_10) (e' := (q999, zI4 E 6 (upd (upd (upd (fun _ => 0) 0 (nI an)) 1 0) 2 20))) (by omega) G12_2
    have G13_3 := zset_ne (q := pn_10) (e' := (q999, zI4 E 6 (upd (upd (upd (fun _ => 0) 0 (nI an)) 1 0) 2 20))) (by omega) G12_3
    have G13_4 := zset_ne (q := pn_10) (e' := (q999, zI4 E 6 (upd (upd (upd (fun _ => 0) 0 (nI an)) 1 0) 2 20))) (by omega) G12_4
    have G13_5 := zset_ne (q := pn_10) (e' := (q999, zI4 E 6 (upd (upd (upd (fun _ => 0) 0 (nI an)) 1 0) 2 20))) (by omega) G12_5
    have G13_6 := zset_ne (q := pn_10) (e' := (q999, zI4 E 6 (upd (upd (upd (fun _ => 0) 0 (nI an)) 1 0) 2 20))) (by omega) G12_6
    have G13_7 := zset_ne (q := pn_10) (e' := (q999, zI4 E 6 (upd (upd (upd (fun _ => 0) 0 (nI an)) 1 0) 2 20))) (by omega) G12_7
    have G13_8 := zset_ne (q := pn_10) (e' := (q999, zI4 E 6 (upd (upd (upd (fun _ => 0) 0 (nI an)) 1 0) 2 20))) (by omega) G12_8
    have G13_9 := zset_ne (q := pn_10) (e' := (q999, zI4 E 6 (upd (upd (upd (fun _ => 0) 0 (nI an)) 1 0) 2 20))) (by omega) G12_9
    have G13_10 := zset_ne (q := pn_10) (e' := (q999, zI4 E 6 (upd (upd (upd (fun _ => 0) 0 (nI an)) 1 0) 2 20))) (by omega) G12_10
    have G13_11 := zset_ne (q := pn_10) (e' := (q999, zI4 E 6 (upd (upd (upd (fun _ => 0) 0 (nI an)) 1 0) 2 20))) (by omega) G12_11
    have G13_12 := zset_ne (q := pn_10) (e' := (q999, zI4 E 6 (upd (upd (upd (fun _ => 0) 0 (nI an)) 1 0) 2 20))) (by omega) G12_12
    have G13_13 := zset_ne (q := pn_10) (e' := (q999, zI4 E 6 (upd (upd (upd (fun _ => 0) 0 (nI an)) 1 0) 2 20))) (by omega) G12_13
    have G13_14 := zset_ne (q := pn_10) (e' := (q999, zI4 E 6 (upd (upd (upd (fun _ => 0) 0 (nI an)) 1 0) 2 20))) (by omega) G12_14
    have G13_15 := zset_ne (q := pn_10) (e' := (q999, zI4 E 6 (upd (upd (upd (fun _ => 0) 0 (nI an)) 1 0) 2 20))) (by omega) G12_15
    have G13_16 := zset_ne (q := pn_10) (e' := (q999, zI4 E 6 (upd (upd (upd (fun _ => 0) 0 (nI an)) 1 0) 2 20))) (by omega) G12_16
    have G13_17 := zset_eq (e' := (q999, zI4 E 6 (upd (upd (upd (fun _ => 0) 0 (nI an)) 1 0) 2 20))) G12_17
    generalize hws13 : (ws_12.set pn_10 (q999, zI4 E 6 (upd (upd (upd (fun _ => 0) 0 (nI an)) 1 0) 2 20))) = ws_13 at J hk G13_0 G13_1 G13_2 G13_3 G13_4 G13_5 G13_6 G13_7 G13_8 G13_9 G13_10 G13_11 G13_12 G13_13 G13_14 G13_15 G13_16 G13_17 hF hR hSN
    refine lv_dup hx hb dL_law_1034 rfl ?_
    refine lv_iconst (v := nI 3) hx hb dL_law_1035 rfl ?_
    refine lv_iload hx hb dL_law_1036 (lv_at hl 13 rfl) ?_
    refine lv_if_eq (tgt := 1045) hx hb dL_law_1038 (by decide) (fun cz1038 => by exact absurd cz1038 (by decide)) (fun cz1038 => ?_)
    refine lv_iconst (v := 1) hx hb dL_law_1041 (by decide) ?_
    refine lv_goto (tgt := 1046) hx hb dL_law_1042 (by decide) ?_
    refine z_iast X J pn_10 G13_17 (vp_in_nI (by omega) (by first | decide | omega)) dL_law_1046 (fun H locs J => ?_)
    rw [show upd (upd (upd (upd (fun _ => 0) 0 (nI an)) 1 0) 2 20) (nI 3).toNatClampNeg 1 = upd (upd (upd (upd (fun _ => 0) 0 (nI an)) 1 0) 2 20) 3 1 from (by rw [nI_clamp (by omega)])] at J
    have hF := hF.keepS (zK.set (S := [pn_10]) (ws := ws_13) (q := pn_10) (e := (q999, zI4 E 6 (upd (upd (upd (upd (fun _ => 0) 0 (nI an)) 1 0) 2 20) 3 1))) (List.mem_singleton.mpr rfl)) (fun q9 hq9 => Or.inr ⟨_, _, (List.mem_singleton.mp hq9).symm ▸ G13_17, noL_I⟩)
    have hR := hR.keepS (zK.set (S := [pn_10]) (ws := ws_13) (q := pn_10) (e := (q999, zI4 E 6 (upd (upd (upd (upd (fun _ => 0) 0 (nI an)) 1 0) 2 20) 3 1))) (List.mem_singleton.mpr rfl)) (fun q9 hq9 => Or.inr ⟨_, _, (List.mem_singleton.mp hq9).symm ▸ G13_17, noL_I⟩)
    have hSN := hSN.keep (zK.set (S := [pn_10]) (ws := ws_13) (q := pn_10) (e := (q999, zI4 E 6 (upd (upd (upd (upd (fun _ => 0) 0 (nI an)) 1 0) 2 20) 3 1))) (List.mem_singleton.mpr rfl)) (fun r9 hr9 => by simp only [List.mem_cons, rg_mem, List.not_mem_nil, or_false, not_or]; omega)
    have hk := hk.step (zK.set (S := [pn_10]) (ws := ws_13) (q := pn_10) (e := (q999, zI4 E 6 (upd (upd (upd (upd (fun _ => 0) 0 (nI an)) 1 0) 2 20) 3 1))) (List.mem_singleton.mpr rfl)) (fun q9 a9 n9 f9 h8 h7 h9 => by simp only [List.mem_cons, rg_mem, List.not_mem_nil, or_false, not_or]; omega)
    have G14_0 := zset_ne (q := pn_10) (e' := (q999, zI4 E 6 (upd (upd (upd (upd (fun _ => 0) 0 (nI an)) 1 0) 2 20) 3 1))) (by omega) G13_0
    have G14_1 := zset_ne (q := pn_10) (e' := (q999, zI4 E 6 (upd (upd (upd (upd (fun _ => 0) 0 (nI an)) 1 0) 2 20) 3 1))) (by omega) G13_1
    have G14_2 := zset_ne (q := pn_10) (e' := (q999, zI4 E 6 (upd (upd (upd (upd (fun _ => 0) 0 (nI an)) 1 0) 2 20) 3 1))) (by omega) G13_2
    have G14_3 := zset_ne (q := pn_10) (e' := (q999, zI4 E 6 (upd (upd (upd (upd (fun _ => 0) 0 (nI an)) 1 0) 2 20) 3 1))) (by omega) G13_3
    have G14_4 := zset_ne (q := pn_10) (e' := (q999, zI4 E 6 (upd (upd (upd (upd (fun _ => 0) 0 (nI an)) 1 0) 2 20) 3 1))) (by omega) G13_4
    have G14_5 := zset_ne (q := pn_10) (e' := (q999, zI4 E 6 (upd (upd (upd (upd (fun _ => 0) 0 (nI an)) 1 0) 2 20) 3 1))) (by omega) G13_5
    have G14_6 := zset_ne (q := pn_10) (e' := (q999, zI4 E 6 (upd (upd (upd (upd (fun _ => 0) 0 (nI an)) 1 0) 2 20) 3 1))) (by omega) G13_6
    have G14_7 := zset_ne (q := pn_10) (e' := (q999, zI4 E 6 (upd (upd (upd (upd (fun _ => 0) 0 (nI an)) 1 0) 2 20) 3 1))) (by omega) G13_7
    have G14_8 := zset_ne (q := pn_10) (e' := (q999, zI4 E 6 (upd (upd (upd (upd (fun _ => 0) 0 (nI an)) 1 0) 2 20) 3 1))) (by omega) G13_8
    have G14_9 := zset_ne (q := pn_10) (e' := (q999, zI4 E 6 (upd (upd (upd (upd (fun _ => 0) 0 (nI an)) 1 0) 2 20) 3 1))) (by omega) G13_9
    have G14_10 := zset_ne (q := pn_10) (e' := (q999, zI4 E 6 (upd (upd (upd (upd (fun _ => 0) 0 (nI an)) 1 0) 2 20) 3 1))) (by omega) G13_10
    have G14_11 := zset_ne (q := pn_10) (e' := (q999, zI4 E 6 (upd (upd (upd (upd (fun _ => 0) 0 (nI an)) 1 0) 2 20) 3 1))) (by omega) G13_11
    have G14_12 := zset_ne (q := pn_10) (e' := (q999, zI4 E 6 (upd (upd (upd (upd (fun _ => 0) 0 (nI an)) 1 0) 2 20) 3 1))) (by omega) G13_12
    have G14_13 := zset_ne (q := pn_10) (e' := (q999, zI4 E 6 (upd (upd (upd (upd (fun _ => 0) 0 (nI an)) 1 0) 2 20) 3 1))) (by omega) G13_13
    have G14_14 := zset_ne (q := pn_10) (e' := (q999, zI4 E 6 (upd (upd (upd (upd (fun _ => 0) 0 (nI an)) 1 0) 2 20) 3 1))) (by omega) G13_14
    have G14_15 := zset_ne (q := pn_10) (e' := (q999, zI4 E 6 (upd (upd (upd (upd (fun _ => 0) 0 (nI an)) 1 0) 2 20) 3 1))) (by omega) G13_15
    have G14_16 := zset_ne (q := pn_10) (e' := (q999, zI4 E 6 (upd (upd (upd (upd (fun _ => 0) 0 (nI an)) 1 0) 2 20) 3 1))) (by omega) G13_16
    have G14_17 := zset_eq (e' := (q999, zI4 E 6 (upd (upd (upd (upd (fun _ => 0) 0 (nI an)) 1 0) 2 20) 3 1))) G13_17
    generalize hws14 : (ws_13.set pn_10 (q999, zI4 E 6 (upd (upd (upd (upd (fun _ => 0) 0 (nI an)) 1 0) 2 20) 3 1))) = ws_14 at J hk G14_0 G14_1 G14_2 G14_3 G14_4 G14_5 G14_6 G14_7 G14_8 G14_9 G14_10 G14_11 G14_12 G14_13 G14_14 G14_15 G14_16 G14_17 hF hR hSN
    refine lv_dup hx hb dL_law_1047 rfl ?_
    refine lv_iconst (v := nI 4) hx hb dL_law_1048 rfl ?_
    refine lv_iload hx hb dL_law_1049 (lv_at hl 10 rfl) ?_
    refine z_iast X J pn_10 G14_17 (vp_in_nI (by omega) (by first | decide | omega)) dL_law_1051 (fun H locs J => ?_)
    rw [show upd (upd (upd (upd (upd (fun _ => 0) 0 (nI an)) 1 0) 2 20) 3 1) (nI 4).toNatClampNeg (nI he) = upd (upd (upd (upd (upd (fun _ => 0) 0 (nI an)) 1 0) 2 20) 3 1) 4 (nI he) from (by rw [nI_clamp (by omega)])] at J
    have hF := hF.keepS (zK.set (S := [pn_10]) (ws := ws_14) (q := pn_10) (e := (q999, zI4 E 6 (upd (upd (upd (upd (upd (fun _ => 0) 0 (nI an)) 1 0) 2 20) 3 1) 4 (nI he)))) (List.mem_singleton.mpr rfl)) (fun q9 hq9 => Or.inr ⟨_, _, (List.mem_singleton.mp hq9).symm ▸ G14_17, noL_I⟩)
    have hR := hR.keepS (zK.set (S := [pn_10]) (ws := ws_14) (q := pn_10) (e := (q999, zI4 E 6 (upd (upd (upd (upd (upd (fun _ => 0) 0 (nI an)) 1 0) 2 20) 3 1) 4 (nI he)))) (List.mem_singleton.mpr rfl)) (fun q9 hq9 => Or.inr ⟨_, _, (List.mem_singleton.mp hq9).symm ▸ G14_17, noL_I⟩)
    have hSN := hSN.keep (zK.set (S := [pn_10]) (ws := ws_14) (q := pn_10) (e := (q999, zI4 E 6 (upd (upd (upd (upd (upd (fun _ => 0) 0 (nI an)) 1 0) 2 20) 3 1) 4 (nI he)))) (List.mem_singleton.mpr rfl)) (fun r9 hr9 => by simp only [List.mem_cons, rg_mem, List.not_mem_nil, or_false, not_or]; omega)
    have hk := hk.step (zK.set (S := [pn_10]) (ws := ws_14) (q := pn_10) (e := (q999, zI4 E 6 (upd (upd (upd (upd (upd (fun _ => 0) 0 (nI an)) 1 0) 2 20) 3 1) 4 (nI he)))) (List.mem_singleton.mpr rfl)) (fun q9 a9 n9 f9 h8 h7 h9 => by simp only [List.mem_cons, rg_mem, List.not_mem_nil, or_false, not_or]; omega)
    have G15_0 := zset_ne (q := pn_10) (e' := (q999, zI4 E 6 (upd (upd (upd (upd (upd (fun _ => 0) 0 (nI an)) 1 0) 2 20) 3 1) 4 (nI he)))) (by omega) G14_0
    have G15_1 := zset_ne (q := pn_10) (e' := (q999, zI4 E 6 (upd (upd (upd (upd (upd (fun _ => 0) 0 (nI an)) 1 0) 2 20) 3 1) 4 (nI he)))) (by omega) G14_1
    have G15_2 := zset_ne (q := pn_10) (e' := (q999, zI4 E 6 (upd (upd (upd (upd (upd (fun _ => 0) 0 (nI an)) 1 0) 2 20) 3 1) 4 (nI he)))) (by omega) G14_2
    have G15_3 := zset_ne (q := pn_10) (e' := (q999, zI4 E 6 (upd (upd (upd (upd (upd (fun _ => 0) 0 (nI an)) 1 0) 2 20) 3 1) 4 (nI he)))) (by omega) G14_3
    have G15_4 := zset_ne (q := pn_10) (e' := (q999, zI4 E 6 (upd (upd (upd (upd (upd (fun _ => 0) 0 (nI an)) 1 0) 2 20) 3 1) 4 (nI he)))) (by omega) G14_4
    have G15_5 := zset_ne (q := pn_10) (e' := (q999, zI4 E 6 (upd (upd (upd (upd (upd (fun _ => 0) 0 (nI an)) 1 0) 2 20) 3 1) 4 (nI he)))) (by omega) G14_5
    have G15_6 := zset_ne (q := pn_10) (e' := (q999, zI4 E 6 (upd (upd (upd (upd (upd (fun _ => 0) 0 (nI an)) 1 0) 2 20) 3 1) 4 (nI he)))) (by omega) G14_6
    have G15_7 := zset_ne (q := pn_10) (e' := (q999, zI4 E 6 (upd (upd (upd (upd (upd (fun _ => 0) 0 (nI an)) 1 0) 2 20) 3 1) 4 (nI he)))) (by omega) G14_7
    have G15_8 := zset_ne (q := pn_10) (e' := (q999, zI4 E 6 (upd (upd (upd (upd (upd (fun _ => 0) 0 (nI an)) 1 0) 2 20) 3 1) 4 (nI he)))) (by omega) G14_8
    have G15_9 := zset_ne (q := pn_10) (e' := (q999, zI4 E 6 (upd (upd (upd (upd (upd (fun _ => 0) 0 (nI an)) 1 0) 2 20) 3 1) 4 (nI he)))) (by omega) G14_9
    have G15_10 := zset_ne (q := pn_10) (e' := (q999, zI4 E 6 (upd (upd (upd (upd (upd (fun _ => 0) 0 (nI an)) 1 0) 2 20) 3 1) 4 (nI he)))) (by omega) G14_10
    have G15_11 := zset_ne (q := pn_10) (e' := (q999, zI4 E 6 (upd (upd (upd (upd (upd (fun _ => 0) 0 (nI an)) 1 0) 2 20) 3 1) 4 (nI he)))) (by omega) G14_11
    have G15_12 := zset_ne (q := pn_10) (e' := (q999, zI4 E 6 (upd (upd (upd (upd (upd (fun _ => 0) 0 (nI an)) 1 0) 2 20) 3 1) 4 (nI he)))) (by omega) G14_12
    have G15_13 := zset_ne (q := pn_10) (e' := (q999, zI4 E 6 (upd (upd (upd (upd (upd (fun _ => 0) 0 (nI an)) 1 0) 2 20) 3 1) 4 (nI he)))) (by omega) G14_13
    have G15_14 := zset_ne (q := pn_10) (e' := (q999, zI4 E 6 (upd (upd (upd (upd (upd (fun _ => 0) 0 (nI an)) 1 0) 2 20) 3 1) 4 (nI he)))) (by omega) G14_14
    have G15_15 := zset_ne (q := pn_10) (e' := (q999, zI4 E 6 (upd (upd (upd (upd (upd (fun _ => 0) 0 (nI an)) 1 0) 2 20) 3 1) 4 (nI he)))) (by omega) G14_15
    have G15_16 := zset_ne (q := pn_10) (e' := (q999, zI4 E 6 (upd (upd (upd (upd (upd (fun _ => 0) 0 (nI an)) 1 0) 2 20) 3 1) 4 (nI he)))) (by omega) G14_16
    have G15_17 := zset_eq (e' := (q999, zI4 E 6 (upd (upd (upd (upd (upd (fun _ => 0) 0 (nI an)) 1 0) 2 20) 3 1) 4 (nI he)))) G14_17
    generalize hws15 : (ws_14.set pn_10 (q999, zI4 E 6 (upd (upd (upd (upd (upd (fun _ => 0) 0 (nI an)) 1 0) 2 20) 3 1) 4 (nI he)))) = ws_15 at J hk G15_0 G15_1 G15_2 G15_3 G15_4 G15_5 G15_6 G15_7 G15_8 G15_9 G15_10 G15_11 G15_12 G15_13 G15_14 G15_15 G15_16 G15_17 hF hR hSN
    refine lv_dup hx hb dL_law_1052 rfl ?_
    refine lv_iconst (v := nI 5) hx hb dL_law_1053 rfl ?_
    refine lv_iconst (v := 0) hx hb dL_law_1054 (by decide) ?_
    refine z_iast X J pn_10 G15_17 (vp_in_nI (by omega) (by first | decide | omega)) dL_law_1055 (fun H locs J => ?_)
    rw [show upd (upd (upd (upd (upd (upd (fun _ => 0) 0 (nI an)) 1 0) 2 20) 3 1) 4 (nI he)) (nI 5).toNatClampNeg 0 = upd (upd (upd (upd (upd (upd (fun _ => 0) 0 (nI an)) 1 0) 2 20) 3 1) 4 (nI he)) 5 0 from (by rw [nI_clamp (by omega)])] at J
    have hF := hF.keepS (zK.set (S := [pn_10]) (ws := ws_15) (q := pn_10) (e := (q999, zI4 E 6 (upd (upd (upd (upd (upd (upd (fun _ => 0) 0 (nI an)) 1 0) 2 20) 3 1) 4 (nI he)) 5 0))) (List.mem_singleton.mpr rfl)) (fun q9 hq9 => Or.inr ⟨_, _, (List.mem_singleton.mp hq9).symm ▸ G15_17, noL_I⟩)
    have hR := hR.keepS (zK.set (S := [pn_10]) (ws := ws_15) (q := pn_10) (e := (q999, zI4 E 6 (upd (upd (upd (upd (upd (upd (fun _ => 0) 0 (nI an)) 1 0) 2 20) 3 1) 4 (nI he)) 5 0))) (List.mem_singleton.mpr rfl)) (fun q9 hq9 => Or.inr ⟨_, _, (List.mem_singleton.mp hq9).symm ▸ G15_17, noL_I⟩)
    have hSN := hSN.keep (zK.set (S := [pn_10]) (ws := ws_15) (q := pn_10) (e := (q999, zI4 E 6 (upd (upd (upd (upd (upd (upd (fun _ => 0) 0 (nI an)) 1 0) 2 20) 3 1) 4 (nI he)) 5 0))) (List.mem_singleton.mpr rfl)) (fun r9 hr9 => by simp only [List.mem_cons, rg_mem, List.not_mem_nil, or_false, not_or]; omega)
    have hk := hk.step (zK.set (S := [pn_10]) (ws := ws_15) (q := pn_10) (e := (q999, zI4 E 6 (upd (upd (upd (upd (upd (upd (fun _ => 0) 0 (nI an)) 1 0) 2 20) 3 1) 4 (nI he)) 5 0))) (List.mem_singleton.mpr rfl)) (fun q9 a9 n9 f9 h8 h7 h9 => by simp only [List.mem_cons, rg_mem, List.not_mem_nil, or_false, not_or]; omega)
    have G16_0 := zset_ne (q := pn_10) (e' := (q999, zI4 E 6 (upd (upd (upd (upd (upd (upd (fun _ => 0) 0 (nI an)) 1 0) 2 20) 3 1) 4 (nI he)) 5 0))) (by omega) G15_0
    have G16_1 := zset_ne (q := pn_10) (e' := (q999, zI4 E 6 (upd (upd (upd (upd (upd (upd (fun _ => 0) 0 (nI an)) 1 0) 2 20) 3 1) 4 (nI he)) 5 0))) (by omega) G15_1
    have G16_2 := zset_ne (q := pn_10) (e' := (q999, zI4 E 6 (upd (upd (upd (upd (upd (upd (fun _ => 0) 0 (nI an)) 1 0) 2 20) 3 1) 4 (nI he)) 5 0))) (by omega) G15_2
    have G16_3 := zset_ne (q := pn_10) (e' := (q999, zI4 E 6 (upd (upd (upd (upd (upd (upd (fun _ => 0) 0 (nI an)) 1 0) 2 20) 3 1) 4 (nI he)) 5 0))) (by omega) G15_3
    have G16_4 := zset_ne (q := pn_10) (e' := (q999, zI4 E 6 (upd (upd (upd (upd (upd (upd (fun _ => 0) 0 (nI an)) 1 0) 2 20) 3 1) 4 (nI he)) 5 0))) (by omega) G15_4
    have G16_5 := zset_ne (q := pn_10) (e' := (q999, zI4 E 6 (upd (upd (upd (upd (upd (upd (fun _ => 0) 0 (nI an)) 1 0) 2 20) 3 1) 4 (nI he)) 5 0))) (by omega) G15_5
    have G16_6 := zset_ne (q := pn_10) (e' := (q999, zI4 E 6 (upd (upd (upd (upd (upd (upd (fun _ => 0) 0 (nI an)) 1 0) 2 20) 3 1) 4 (nI he)) 5 0))) (by omega) G15_6
    have G16_7 := zset_ne (q := pn_10) (e' := (q999, zI4 E 6 (upd (upd (upd (upd (upd (upd (fun _ => 0) 0 (nI an)) 1 0) 2 20) 3 1) 4 (nI he)) 5 0))) (by omega) G15_7
    have G16_8 := zset_ne (q := pn_10) (e' := (q999, zI4 E 6 (upd (upd (upd (upd (upd (upd (fun _ => 0) 0 (nI an)) 1 0) 2 20) 3 1) 4 (nI he)) 5 0))) (by omega) G15_8
    have G16_9 := zset_ne (q := pn_10) (e' := (q999, zI4 E 6 (upd (upd (upd (upd (upd (upd (fun _ => 0) 0 (nI an)) 1 0) 2 20) 3 1) 4 (nI he)) 5 0))) (by omega) G15_9
    have G16_10 := zset_ne (q := pn_10) (e' := (q999, zI4 E 6 (upd (upd (upd (upd (upd (upd (fun _ => 0) 0 (nI an)) 1 0) 2 20) 3 1) 4 (nI he)) 5 0))) (by omega) G15_10
    have G16_11 := zset_ne (q := pn_10) (e' := (q999, zI4 E 6 (upd (upd (upd (upd (upd (upd (fun _ => 0) 0 (nI an)) 1 0) 2 20) 3 1) 4 (nI he)) 5 0))) (by omega) G15_11
    have G16_12 := zset_ne (q := pn_10) (e' := (q999, zI4 E 6 (upd (upd (upd (upd (upd (upd (fun _ => 0) 0 (nI an)) 1 0) 2 20) 3 1) 4 (nI he)) 5 0))) (by omega) G15_12
    have G16_13 := zset_ne (q := pn_10) (e' := (q999, zI4 E 6 (upd (upd (upd (upd (upd (upd (fun _ => 0) 0 (nI an)) 1 0) 2 20) 3 1) 4 (nI he)) 5 0))) (by omega) G15_13
    have G16_14 := zset_ne (q := pn_10) (e' := (q999, zI4 E 6 (upd (upd (upd (upd (upd (upd (fun _ => 0) 0 (nI an)) 1 0) 2 20) 3 1) 4 (nI he)) 5 0))) (by omega) G15_14
    have G16_15 := zset_ne (q := pn_10) (e' := (q999, zI4 E 6 (upd (upd (upd (upd (upd (upd (fun _ => 0) 0 (nI an)) 1 0) 2 20) 3 1) 4 (nI he)) 5 0))) (by omega) G15_15
    have G16_16 := zset_ne (q := pn_10) (e' := (q999, zI4 E 6 (upd (upd (upd (upd (upd (upd (fun _ => 0) 0 (nI an)) 1 0) 2 20) 3 1) 4 (nI he)) 5 0))) (by omega) G15_16
    have G16_17 := zset_eq (e' := (q999, zI4 E 6 (upd (upd (upd (upd (upd (upd (fun _ => 0) 0 (nI an)) 1 0) 2 20) 3 1) 4 (nI he)) 5 0))) G15_17
    generalize hws16 : (ws_15.set pn_10 (q999, zI4 E 6 (upd (upd (upd (upd (upd (upd (fun _ => 0) 0 (nI an)) 1 0) 2 20) 3 1) 4 (nI he)) 5 0))) = ws_16 at J hk G16_0 G16_1 G16_2 G16_3 G16_4 G16_5 G16_6 G16_7 G16_8 G16_9 G16_10 G16_11 G16_12 G16_13 G16_14 G16_15 G16_16 G16_17 hF hR hSN
    refine z_cq J (z_rS (As := [.ref fe, .ref q999]) (rest := [.ref z]) X J (cX7_with_ok l E G16_13 G16_17 (fun j9 hj9 => (hSE.keepI hk j9 hj9).elim (fun a9 h9 => h9.elim (fun q9 h9 => h9.elim (fun f9 h9 => ⟨a9, q9, 6, f9, h9.1, h9.2.2.1⟩)))) hnf) (va_cwS 2 hts (goodIn_ext3 gL_law_X7_with) rfl rfl rfl (by decide +kernel) ⟨Nat.le_of_ble_eq_true rfl, Nat.le_of_ble_eq_true rfl⟩) rfl hl.1 rfl (Nat.le_of_ble_eq_true rfl) dL_law_1056 ⟨by show _ ≤ 1106048; omega, by show _ ≤ 5783625; omega⟩) (fun r1056 ws_17 H locs hp9 J => ?_)
    obtain ⟨k17, ⟨nq_17, hlen17, N17_0, e_r1056⟩⟩ := hp9
    have hF := hF.keepS k17 (fun q9 hq9 => absurd hq9 List.not_mem_nil)
    have hR := hR.keepS k17 (fun q9 hq9 => absurd hq9 List.not_mem_nil)
    have hSN := hSN.keep k17 (fun _ _ => List.not_mem_nil)
    have lp17 := hk.1
    have b_17_0 := zlt G16_0
    have b_17_1 := zlt G16_1
    have b_17_2 := zlt G16_2
    have b_17_3 := zlt G16_3
    have b_17_4 := zlt G16_4
    have b_17_5 := zlt G16_5
    have b_17_6 := zlt G16_6
    have b_17_7 := zlt G16_7
    have b_17_8 := zlt G16_8
    have b_17_9 := zlt G16_9
    have b_17_10 := zlt G16_10
    have b_17_11 := zlt G16_11
    have b_17_12 := zlt G16_12
    have b_17_13 := zlt G16_13
    have b_17_14 := zlt G16_14
    have b_17_15 := zlt G16_15
    have b_17_16 := zlt G16_16
    have b_17_17 := zlt G16_17
    have hk := hk.step k17 (fun _ _ _ _ _ _ _ => List.not_mem_nil)
    have G17_0 := k17.2 0 _ List.not_mem_nil G16_0
    have G17_1 := k17.2 1 _ List.not_mem_nil G16_1
    have G17_2 := k17.2 2 _ List.not_mem_nil G16_2
    have G17_3 := k17.2 3 _ List.not_mem_nil G16_3
    have G17_4 := k17.2 4 _ List.not_mem_nil G16_4
    have G17_5 := k17.2 5 _ List.not_mem_nil G16_5
    have G17_6 := k17.2 6 _ List.not_mem_nil G16_6
    have G17_7 := k17.2 7 _ List.not_mem_nil G16_7
    have G17_8 := k17.2 8 _ List.not_mem_nil G16_8
    have G17_9 := k17.2 9 _ List.not_mem_nil G16_9
    have G17_10 := k17.2 10 _ List.not_mem_nil G16_10
    have G17_11 := k17.2 11 _ List.not_mem_nil G16_11
    have G17_12 := k17.2 14 _ List.not_mem_nil G16_12
    have G17_13 := k17.2 qf _ List.not_mem_nil G16_13
    have G17_14 := k17.2 qr _ List.not_mem_nil G16_14
    have G17_15 := k17.2 pn_1 _ List.not_mem_nil G16_15
    have G17_16 := k17.2 pn_8_0 _ List.not_mem_nil G16_16
    have G17_17 := k17.2 pn_10 _ List.not_mem_nil G16_17
    obtain ⟨pn_17_0, hpn_17_0⟩ : ∃ z : Nat, z = ws_16.length + 0 := ⟨_, rfl⟩
    rw [← hpn_17_0] at N17_0
    subst e_r1056
    refine W.eq (g2 := F0 m 1059 ls [.ref nq_17, .ref z]) rfl ?_
    refine lv_iload hx hb dL_law_1059 (lv_at hl 7 rfl) ?_
    refine lv_iload hx hb dL_law_1061 (lv_at hl 8 rfl) ?_
    refine z_ci J (z_rV (As := [.ref nq_17, .int (nI wd), .int (nI sg)]) (rest := []) (ci := 8) (q0 := 11) X J (cX7_tried_ok l E (fa := (fput fa nf (nI an) 0 20 1 (nI he) 0)) G17_11 G17_12 N17_0 G17_14 hSN ((hSE.keepI hk).add (fb := fput fa nf (nI an) 0 20 1 (nI he) 0) G17_17 (by omega) (fun t9 ht9 => f6_put t9 ht9) (fun j9 hj9 => fput_lo hj9)) (by omega) (okF_put hok (co := an) (ro := 0) (le := 20) (he := he) (ga := 0) rfl rfl rfl rfl rfl (by decide) (by omega) (by omega) (by decide) (Or.inr ⟨rfl, by omega, by omega⟩)) (hSR.keepI hk) hnr hor hw4 hRB (nI_BI2 (lo := 1) (hi := 9) (by omega) (by omega) (by omega)) hu9) (cwV 3 hts (goodIn_ext3 gL_law_X7_tried) rfl rfl rfl (by decide +kernel) ⟨Nat.le_of_ble_eq_true rfl, Nat.le_of_ble_eq_true rfl⟩) G17_11 rfl rfl rfl hl.1 rfl (Nat.le_of_ble_eq_true rfl) dL_law_1063 ⟨by show _ ≤ 1106048; omega, by show _ ≤ 5783625; omega⟩) (fun r1063 ws_18 H locs hp9 J => ?_)
    obtain ⟨k18, e_r1063⟩ := hp9
    have hF := hF.keepS k18 (fun q9 hq9 => absurd hq9 List.not_mem_nil)
    have hR := hR.keepS k18 (fun q9 hq9 => absurd hq9 List.not_mem_nil)
    have hSN := hSN.keep k18 (fun _ _ => List.not_mem_nil)
    have hk := hk.step k18 (fun _ _ _ _ _ _ _ => List.not_mem_nil)
    have G18_0 := k18.2 0 _ List.not_mem_nil G17_0
    have G18_1 := k18.2 1 _ List.not_mem_nil G17_1
    have G18_2 := k18.2 2 _ List.not_mem_nil G17_2
    have G18_3 := k18.2 3 _ List.not_mem_nil G17_3
    have G18_4 := k18.2 4 _ List.not_mem_nil G17_4
    have G18_5 := k18.2 5 _ List.not_mem_nil G17_5
    have G18_6 := k18.2 6 _ List.not_mem_nil G17_6
    have G18_7 := k18.2 7 _ List.not_mem_nil G17_7
    have G18_8 := k18.2 8 _ List.not_mem_nil G17_8
    have G18_9 := k18.2 9 _ List.not_mem_nil G17_9
    have G18_10 := k18.2 10 _ List.not_mem_nil G17_10
    have G18_11 := k18.2 11 _ List.not_mem_nil G17_11
    have G18_12 := k18.2 14 _ List.not_mem_nil G17_12
    have G18_13 := k18.2 qf _ List.not_mem_nil G17_13
    have G18_14 := k18.2 qr _ List.not_mem_nil G17_14
    have G18_15 := k18.2 pn_1 _ List.not_mem_nil G17_15
    have G18_16 := k18.2 pn_8_0 _ List.not_mem_nil G17_16
    have G18_17 := k18.2 pn_10 _ List.not_mem_nil G17_17
    have G18_18 := k18.2 pn_17_0 _ List.not_mem_nil N17_0
    subst e_r1063
    refine W.eq (g2 := F0 m 1066 ls [.int (advK (advD (nI wd)) fa nf (nI he) (nI sg) sup (nI wd) sn rd ri lim nr an)]) (congrArg (fun z9 : Int32 => F0 m 1066 ls [.int z9]) (show (allB (hsS (nI sg) sup (hgS (fput fa nf (nI an) 0 20 1 (nI he) 0) (-1) (nf + 1)).1 (hgS (fput fa nf (nI an) 0 20 1 (nI he) 0) (-1) (nf + 1)).2 (nI wd) sn 4).2.1 rd ri lim nr : Int32) = advK (advD (nI wd)) fa nf (nI he) (nI sg) sup (nI wd) sn rd ri lim nr an from (adv_t1 hnf hD))) ?_
    refine lv_istore (lv' := [(26, .int (advK (advD (nI wd)) fa nf (nI he) (nI sg) sup (nI wd) sn rd ri lim nr an)), (25, .int (nI an)), (24, .int (advK (advD (nI wd)) fa nf (nI he) (nI sg) sup (nI wd) sn rd ri lim nr ad)), (0, .ref E.2.2.2.2.1), (1, .ref x), (2, .ref z), (3, .int (nI t)), (4, .int xv), (5, .int (nI wd)), (6, .int (nI sg)), (7, .int (nI hh)), (20, .int (nI he)), (21, .int (nI ad)), (22, .int hv), (23, .int 1)]) hx hb dL_law_1066 hl (by decide) rfl (fun ls hl => ?_)
    refine lv_iload hx hb dL_law_1068 (lv_at hl 0 rfl) ?_
    refine lv_iload hx hb dL_law_1070 (lv_at hl 2 rfl) ?_
    refine lv_icmp_lt (tgt := 1089) hx hb dL_law_1072 (by decide) (fun cz1072 => by exact (hadv.1 an (by omega) cz1072).elim) (fun cz1072 => ?_)
    refine lv_iload hx hb dL_law_1075 (lv_at hl 0 rfl) ?_
    refine lv_iload hx hb dL_law_1077 (lv_at hl 2 rfl) ?_
    refine lv_icmp_ne (tgt := 1091) hx hb dL_law_1079 (by decide) (fun cz1079 => ?_) (fun cz1079 => ?_)
    · refine W.widen (k := cells + 13400) (n := slots + 27400) (by omega) (by omega) ?_
      exact kk _ H locs _ ⟨G18_0, G18_1, G18_2, G18_3, G18_4, G18_5, G18_6, G18_7, G18_8, G18_9, G18_10, G18_11, G18_12, G18_13, G18_14, ⟨by omega, by omega⟩, hF, hR, hSep, (hSE.keepI hk), (hSR.keepI hk), hSN, hnf, hnr, hok, hor, hRB, hu9, hlm, (Nat.le_trans hln hk.1)⟩ J (lv_sub hl [3, 4, 5, 6, 7, 8, 9, 10, 13] rfl)
    · refine lv_iload hx hb dL_law_1082 (lv_at hl 1 rfl) ?_
      refine lv_iload hx hb dL_law_1084 (lv_at hl 12 rfl) ?_
      refine lv_icmp_ge (tgt := 1091) hx hb dL_law_1086 (by decide) (fun cz1086 => ?_) (fun cz1086 => by exact (Int32.lt_irrefl (i32lteq (hadv.2 an (Nat.lt_of_not_le (fun q9 => cz1086 (nI_le q9 (by omega))))) cz1079)).elim)
      refine W.widen (k := cells + 13400) (n := slots + 27400) (by omega) (by omega) ?_
      exact kk _ H locs _ ⟨G18_0, G18_1, G18_2, G18_3, G18_4, G18_5, G18_6, G18_7, G18_8, G18_9, G18_10, G18_11, G18_12, G18_13, G18_14, ⟨by omega, by omega⟩, hF, hR, hSep, (hSE.keepI hk), (hSR.keepI hk), hSN, hnf, hnr, hok, hor, hRB, hu9, hlm, (Nat.le_trans hln hk.1)⟩ J (lv_sub hl [3, 4, 5, 6, 7, 8, 9, 10, 13] rfl)
  · subst hd1
    refine lv_aload_n hx hb dL_law_904 rfl (lv_at hl 2 rfl) ?_
    refine lv_aload_n hx hb dL_law_905 rfl (lv_at hl 2 rfl) ?_
    refine z_get (C := RX7) (T := TX7) (N := 8) (ci := 8) (v := .ref fe) X J hi_X7 11 Fa11 rfl 0 (by decide) (by decide +kernel) rfl dL_law_906 ?_
    refine lv_bipush (v := 6) hx hb dL_law_909 (by decide) ?_
    refine z_newa (N' := 6) X J (by decide +kernel) (by decide) (by decide) (Nat.le_of_ble_eq_true rfl) (by show _ ≤ 1106048; omega) (by show _ ≤ 5783625; omega) dL_law_911 (fun q911 H J => ?_)
    have hF := hF.keepS (zK.app (S := []) (ws := ws) (more := [(q911, zI4 E 6 (fun _ => 0))])) (fun q9 hq9 => absurd hq9 List.not_mem_nil)
    have hR := hR.keepS (zK.app (S := []) (ws := ws) (more := [(q911, zI4 E 6 (fun _ => 0))])) (fun q9 hq9 => absurd hq9 List.not_mem_nil)
    have hSN := hSN.keep (zK.app (S := []) (ws := ws) (more := [(q911, zI4 E 6 (fun _ => 0))])) (fun _ _ => List.not_mem_nil)
    have lp1 := hk.1
    have hk := hk.step (zK.app (S := []) (ws := ws) (more := [(q911, zI4 E 6 (fun _ => 0))])) (fun _ _ _ _ _ _ _ => List.not_mem_nil)
    have bG1_0 := zlt Fa0
    have G1_0 := zapp (x := (q911, zI4 E 6 (fun _ => 0))) Fa0
    have bG1_1 := zlt Fa1
    have G1_1 := zapp (x := (q911, zI4 E 6 (fun _ => 0))) Fa1
    have bG1_2 := zlt Fa2
    have G1_2 := zapp (x := (q911, zI4 E 6 (fun _ => 0))) Fa2
    have bG1_3 := zlt Fa3
    have G1_3 := zapp (x := (q911, zI4 E 6 (fun _ => 0))) Fa3
    have bG1_4 := zlt Fa4
    have G1_4 := zapp (x := (q911, zI4 E 6 (fun _ => 0))) Fa4
    have bG1_5 := zlt Fa5
    have G1_5 := zapp (x := (q911, zI4 E 6 (fun _ => 0))) Fa5
    have bG1_6 := zlt Fa6
    have G1_6 := zapp (x := (q911, zI4 E 6 (fun _ => 0))) Fa6
    have bG1_7 := zlt Fa7
    have G1_7 := zapp (x := (q911, zI4 E 6 (fun _ => 0))) Fa7
    have bG1_8 := zlt Fa8
    have G1_8 := zapp (x := (q911, zI4 E 6 (fun _ => 0))) Fa8
    have bG1_9 := zlt Fa9
    have G1_9 := zapp (x := (q911, zI4 E 6 (fun _ => 0))) Fa9
    have bG1_10 := zlt Fa10
    have G1_10 := zapp (x := (q911, zI4 E 6 (fun _ => 0))) Fa10
    have bG1_11 := zlt Fa11
    have G1_11 := zapp (x := (q911, zI4 E 6 (fun _ => 0))) Fa11
    have bG1_12 := zlt Fa12
    have G1_12 := zapp (x := (q911, zI4 E 6 (fun _ => 0))) Fa12
    have bG1_13 := zlt Fa13
    have G1_13 := zapp (x := (q911, zI4 E 6 (fun _ => 0))) Fa13
    have bG1_14 := zlt Fa14
    have G1_14 := zapp (x := (q911, zI4 E 6 (fun _ => 0))) Fa14
    have G1_n := zapp_new (ws := ws) (x := (q911, zI4 E 6 (fun _ => 0)))
    generalize hws1 : ws ++ [(q911, zI4 E 6 (fun _ => 0))] = ws_1 at J hk G1_0 G1_1 G1_2 G1_3 G1_4 G1_5 G1_6 G1_7 G1_8 G1_9 G1_10 G1_11 G1_12 G1_13 G1_14 hF hR hSN G1_n
    generalize hpn1 : ws.length = pn_1 at G1_n lp1 bG1_0 bG1_1 bG1_2 bG1_3 bG1_4 bG1_5 bG1_6 bG1_7 bG1_8 bG1_9 bG1_10 bG1_11 bG1_12 bG1_13 bG1_14
    refine lv_dup hx hb dL_law_913 rfl ?_
    refine lv_iconst (v := nI 0) hx hb dL_law_914 rfl ?_
    refine lv_iload hx hb dL_law_915 (lv_at hl 11 rfl) ?_
    refine lv_if_eq (tgt := 925) hx hb dL_law_917 (by decide) (fun cz917 => ?_) (fun cz917 => by exact absurd cz917 (by decide))
    refine lv_iconst (v := 0) hx hb dL_law_925 (by decide) ?_
    refine z_iast X J pn_1 G1_n (vp_in_nI (by omega) (by first | decide | omega)) dL_law_926 (fun H locs J => ?_)
    rw [show upd (fun _ => 0) (nI 0).toNatClampNeg 0 = upd (fun _ => 0) 0 0 from (by rw [nI_clamp (by omega)])] at J
    have hF := hF.keepS (zK.set (S := [pn_1]) (ws := ws_1) (q := pn_1) (e := (q911, zI4 E 6 (upd (fun _ => 0) 0 0))) (List.mem_singleton.mpr rfl)) (fun q9 hq9 => Or.inr ⟨_, _, (List.mem_singleton.mp hq9).symm ▸ G1_n, noL_I⟩)
    have hR := hR.keepS (zK.set (S := [pn_1]) (ws := ws_1) (q := pn_1) (e := (q911, zI4 E 6 (upd (fun _ => 0) 0 0))) (List.mem_singleton.mpr rfl)) (fun q9 hq9 => Or.inr ⟨_, _, (List.mem_singleton.mp hq9).symm ▸ G1_n, noL_I⟩)
    have hSN := hSN.keep (zK.set (S := [pn_1]) (ws := ws_1) (q := pn_1) (e := (q911, zI4 E 6 (upd (fun _ => 0) 0 0))) (List.mem_singleton.mpr rfl)) (fun r9 hr9 => by simp only [List.mem_cons, rg_mem, List.not_mem_nil, or_false, not_or]; omega)
    have hk := hk.step (zK.set (S := [pn_1]) (ws := ws_1) (q := pn_1) (e := (q911, zI4 E 6 (upd (fun _ => 0) 0 0))) (List.mem_singleton.mpr rfl)) (fun q9 a9 n9 f9 h8 h7 h9 => by simp only [List.mem_cons, rg_mem, List.not_mem_nil, or_false, not_or]; omega)
    have G2_0 := zset_ne (q := pn_1) (e' := (q911, zI4 E 6 (upd (fun _ => 0) 0 0))) (by omega) G1_0
    have G2_1 := zset_ne (q := pn_1) (e' := (q911, zI4 E 6 (upd (fun _ => 0) 0 0))) (by omega) G1_1
    have G2_2 := zset_ne (q := pn_1) (e' := (q911, zI4 E 6 (upd (fun _ => 0) 0 0))) (by omega) G1_2
    have G2_3 := zset_ne (q := pn_1) (e' := (q911, zI4 E 6 (upd (fun _ => 0) 0 0))) (by omega) G1_3
    have G2_4 := zset_ne (q := pn_1) (e' := (q911, zI4 E 6 (upd (fun _ => 0) 0 0))) (by omega) G1_4
    have G2_5 := zset_ne (q := pn_1) (e' := (q911, zI4 E 6 (upd (fun _ => 0) 0 0))) (by omega) G1_5
    have G2_6 := zset_ne (q := pn_1) (e' := (q911, zI4 E 6 (upd (fun _ => 0) 0 0))) (by omega) G1_6
    have G2_7 := zset_ne (q := pn_1) (e' := (q911, zI4 E 6 (upd (fun _ => 0) 0 0))) (by omega) G1_7
    have G2_8 := zset_ne (q := pn_1) (e' := (q911, zI4 E 6 (upd (fun _ => 0) 0 0))) (by omega) G1_8
    have G2_9 := zset_ne (q := pn_1) (e' := (q911, zI4 E 6 (upd (fun _ => 0) 0 0))) (by omega) G1_9
    have G2_10 := zset_ne (q := pn_1) (e' := (q911, zI4 E 6 (upd (fun _ => 0) 0 0))) (by omega) G1_10
    have G2_11 := zset_ne (q := pn_1) (e' := (q911, zI4 E 6 (upd (fun _ => 0) 0 0))) (by omega) G1_11
    have G2_12 := zset_ne (q := pn_1) (e' := (q911, zI4 E 6 (upd (fun _ => 0) 0 0))) (by omega) G1_12
    have G2_13 := zset_ne (q := pn_1) (e' := (q911, zI4 E 6 (upd (fun _ => 0) 0 0))) (by omega) G1_13
    have G2_14 := zset_ne (q := pn_1) (e' := (q911, zI4 E 6 (upd (fun _ => 0) 0 0))) (by omega) G1_14
    have G2_15 := zset_eq (e' := (q911, zI4 E 6 (upd (fun _ => 0) 0 0))) G1_n
    generalize hws2 : (ws_1.set pn_1 (q911, zI4 E 6 (upd (fun _ => 0) 0 0))) = ws_2 at J hk G2_0 G2_1 G2_2 G2_3 G2_4 G2_5 G2_6 G2_7 G2_8 G2_9 G2_10 G2_11 G2_12 G2_13 G2_14 G2_15 hF hR hSN
    refine lv_dup hx hb dL_law_927 rfl ?_
    refine lv_iconst (v := nI 1) hx hb dL_law_928 rfl ?_
    refine lv_iload hx hb dL_law_929 (lv_at hl 11 rfl) ?_
    refine lv_if_eq (tgt := 938) hx hb dL_law_931 (by decide) (fun cz931 => ?_) (fun cz931 => by exact absurd cz931 (by decide))
    refine lv_iload hx hb dL_law_938 (lv_at hl 9 rfl) ?_
    refine z_iast X J pn_1 G2_15 (vp_in_nI (by omega) (by first | decide | omega)) dL_law_940 (fun H locs J => ?_)
    rw [show upd (upd (fun _ => 0) 0 0) (nI 1).toNatClampNeg (nI ad) = upd (upd (fun _ => 0) 0 0) 1 (nI ad) from (by rw [nI_clamp (by omega)])] at J
    have hF := hF.keepS (zK.set (S := [pn_1]) (ws := ws_2) (q := pn_1) (e := (q911, zI4 E 6 (upd (upd (fun _ => 0) 0 0) 1 (nI ad)))) (List.mem_singleton.mpr rfl)) (fun q9 hq9 => Or.inr ⟨_, _, (List.mem_singleton.mp hq9).symm ▸ G2_15, noL_I⟩)
    have hR := hR.keepS (zK.set (S := [pn_1]) (ws := ws_2) (q := pn_1) (e := (q911, zI4 E 6 (upd (upd (fun _ => 0) 0 0) 1 (nI ad)))) (List.mem_singleton.mpr rfl)) (fun q9 hq9 => Or.inr ⟨_, _, (List.mem_singleton.mp hq9).symm ▸ G2_15, noL_I⟩)
    have hSN := hSN.keep (zK.set (S := [pn_1]) (ws := ws_2) (q := pn_1) (e := (q911, zI4 E 6 (upd (upd (fun _ => 0) 0 0) 1 (nI ad)))) (List.mem_singleton.mpr rfl)) (fun r9 hr9 => by simp only [List.mem_cons, rg_mem, List.not_mem_nil, or_false, not_or]; omega)
    have hk := hk.step (zK.set (S := [pn_1]) (ws := ws_2) (q := pn_1) (e := (q911, zI4 E 6 (upd (upd (fun _ => 0) 0 0) 1 (nI ad)))) (List.mem_singleton.mpr rfl)) (fun q9 a9 n9 f9 h8 h7 h9 => by simp only [List.mem_cons, rg_mem, List.not_mem_nil, or_false, not_or]; omega)
    have G3_0 := zset_ne (q := pn_1) (e' := (q911, zI4 E 6 (upd (upd (fun _ => 0) 0 0) 1 (nI ad)))) (by omega) G2_0
    have G3_1 := zset_ne (q := pn_1) (e' := (q911, zI4 E 6 (upd (upd (fun _ => 0) 0 0) 1 (nI ad)))) (by omega) G2_1
    have G3_2 := zset_ne (q := pn_1) (e' := (q911, zI4 E 6 (upd (upd (fun _ => 0) 0 0) 1 (nI ad)))) (by omega) G2_2
    have G3_3 := zset_ne (q := pn_1) (e' := (q911, zI4 E 6 (upd (upd (fun _ => 0) 0 0) 1 (nI ad)))) (by omega) G2_3
    have G3_4 := zset_ne (q := pn_1) (e' := (q911, zI4 E 6 (upd (upd (fun _ => 0) 0 0) 1 (nI ad)))) (by omega) G2_4
    have G3_5 := zset_ne (q := pn_1) (e' := (q911, zI4 E 6 (upd (upd (fun _ => 0) 0 0) 1 (nI ad)))) (by omega) G2_5
    have G3_6 := zset_ne (q := pn_1) (e' := (q911, zI4 E 6 (upd (upd (fun _ => 0) 0 0) 1 (nI ad)))) (by omega) G2_6
    have G3_7 := zset_ne (q := pn_1) (e' := (q911, zI4 E 6 (upd (upd (fun _ => 0) 0 0) 1 (nI ad)))) (by omega) G2_7
    have G3_8 := zset_ne (q := pn_1) (e' := (q911, zI4 E 6 (upd (upd (fun _ => 0) 0 0) 1 (nI ad)))) (by omega) G2_8
    have G3_9 := zset_ne (q := pn_1) (e' := (q911, zI4 E 6 (upd (upd (fun _ => 0) 0 0) 1 (nI ad)))) (by omega) G2_9
    have G3_10 := zset_ne (q := pn_1) (e' := (q911, zI4 E 6 (upd (upd (fun _ => 0) 0 0) 1 (nI ad)))) (by omega) G2_10
    have G3_11 := zset_ne (q := pn_1) (e' := (q911, zI4 E 6 (upd (upd (fun _ => 0) 0 0) 1 (nI ad)))) (by omega) G2_11
    have G3_12 := zset_ne (q := pn_1) (e' := (q911, zI4 E 6 (upd (upd (fun _ => 0) 0 0) 1 (nI ad)))) (by omega) G2_12
    have G3_13 := zset_ne (q := pn_1) (e' := (q911, zI4 E 6 (upd (upd (fun _ => 0) 0 0) 1 (nI ad)))) (by omega) G2_13
    have G3_14 := zset_ne (q := pn_1) (e' := (q911, zI4 E 6 (upd (upd (fun _ => 0) 0 0) 1 (nI ad)))) (by omega) G2_14
    have G3_15 := zset_eq (e' := (q911, zI4 E 6 (upd (upd (fun _ => 0) 0 0) 1 (nI ad)))) G2_15
    generalize hws3 : (ws_2.set pn_1 (q911, zI4 E 6 (upd (upd (fun _ => 0) 0 0) 1 (nI ad)))) = ws_3 at J hk G3_0 G3_1 G3_2 G3_3 G3_4 G3_5 G3_6 G3_7 G3_8 G3_9 G3_10 G3_11 G3_12 G3_13 G3_14 G3_15 hF hR hSN
    refine lv_dup hx hb dL_law_941 rfl ?_
    refine lv_iconst (v := nI 2) hx hb dL_law_942 rfl ?_
    refine lv_bipush (v := 20) hx hb dL_law_943 (by decide) ?_
    refine z_iast X J pn_1 G3_15 (vp_in_nI (by omega) (by first | decide | omega)) dL_law_945 (fun H locs J => ?_)
    rw [show upd (upd (upd (fun _ => 0) 0 0) 1 (nI ad)) (nI 2).toNatClampNeg 20 = upd (upd (upd (fun _ => 0) 0 0) 1 (nI ad)) 2 20 from (by rw [nI_clamp (by omega)])] at J
    have hF := hF.keepS (zK.set (S := [pn_1]) (ws := ws_3) (q := pn_1) (e := (q911, zI4 E 6 (upd (upd (upd (fun _ => 0) 0 0) 1 (nI ad)) 2 20))) (List.mem_singleton.mpr rfl)) (fun q9 hq9 => Or.inr ⟨_, _, (List.mem_singleton.mp hq9).symm ▸ G3_15, noL_I⟩)
    have hR := hR.keepS (zK.set (S := [pn_1]) (ws := ws_3) (q := pn_1) (e := (q911, zI4 E 6 (upd (upd (upd (fun _ => 0) 0 0) 1 (nI ad)) 2 20))) (List.mem_singleton.mpr rfl)) (fun q9 hq9 => Or.inr ⟨_, _, (List.mem_singleton.mp hq9).symm ▸ G3_15, noL_I⟩)
    have hSN := hSN.keep (zK.set (S := [pn_1]) (ws := ws_3) (q := pn_1) (e := (q911, zI4 E 6 (upd (upd (upd (fun _ => 0) 0 0) 1 (nI ad)) 2 20))) (List.mem_singleton.mpr rfl)) (fun r9 hr9 => by simp only [List.mem_cons, rg_mem, List.not_mem_nil, or_false, not_or]; omega)
    have hk := hk.step (zK.set (S := [pn_1]) (ws := ws_3) (q := pn_1) (e := (q911, zI4 E 6 (upd (upd (upd (fun _ => 0) 0 0) 1 (nI ad)) 2 20))) (List.mem_singleton.mpr rfl)) (fun q9 a9 n9 f9 h8 h7 h9 => by simp only [List.mem_cons, rg_mem, List.not_mem_nil, or_false, not_or]; omega)
    have G4_0 := zset_ne (q := pn_1) (e' := (q911, zI4 E 6 (upd (upd (upd (fun _ => 0) 0 0) 1 (nI ad)) 2 20))) (by omega) G3_0
    have G4_1 := zset_ne (q := pn_1) (e' := (q911, zI4 E 6 (upd (upd (upd (fun _ => 0) 0 0) 1 (nI ad)) 2 20))) (by omega) G3_1
    have G4_2 := zset_ne (q := pn_1) (e' := (q911, zI4 E 6 (upd (upd (upd (fun _ => 0) 0 0) 1 (nI ad)) 2 20))) (by omega) G3_2
    have G4_3 := zset_ne (q := pn_1) (e' := (q911, zI4 E 6 (upd (upd (upd (fun _ => 0) 0 0) 1 (nI ad)) 2 20))) (by omega) G3_3
    have G4_4 := zset_ne (q := pn_1) (e' := (q911, zI4 E 6 (upd (upd (upd (fun _ => 0) 0 0) 1 (nI ad)) 2 20))) (by omega) G3_4
    have G4_5 := zset_ne (q := pn_1) (e' := (q911, zI4 E 6 (upd (upd (upd (fun _ => 0) 0 0) 1 (nI ad)) 2 20))) (by omega) G3_5
    have G4_6 := zset_ne (q := pn_1) (e' := (q911, zI4 E 6 (upd (upd (upd (fun _ => 0) 0 0) 1 (nI ad)) 2 20))) (by omega) G3_6
    have G4_7 := zset_ne (q := pn_1) (e' := (q911, zI4 E 6 (upd (upd (upd (fun _ => 0) 0 0) 1 (nI ad)) 2 20))) (by omega) G3_7
    have G4_8 := zset_ne (q := pn_1) (e' := (q911, zI4 E 6 (upd (upd (upd (fun _ => 0) 0 0) 1 (nI ad)) 2 20))) (by omega) G3_8
    have G4_9 := zset_ne (q := pn_1) (e' := (q911, zI4 E 6 (upd (upd (upd (fun _ => 0) 0 0) 1 (nI ad)) 2 20))) (by omega) G3_9
    have G4_10 := zset_ne (q := pn_1) (e' := (q911, zI4 E 6 (upd (upd (upd (fun _ => 0) 0 0) 1 (nI ad)) 2 20))) (by omega) G3_10
    have G4_11 := zset_ne (q := pn_1) (e' := (q911, zI4 E 6 (upd (upd (upd (fun _ => 0) 0 0) 1 (nI ad)) 2 20))) (by omega) G3_11
    have G4_12 := zset_ne (q := pn_1) (e' := (q911, zI4 E 6 (upd (upd (upd (fun _ => 0) 0 0) 1 (nI ad)) 2 20))) (by omega) G3_12
    have G4_13 := zset_ne (q := pn_1) (e' := (q911, zI4 E 6 (upd (upd (upd (fun _ => 0) 0 0) 1 (nI ad)) 2 20))) (by omega) G3_13
    have G4_14 := zset_ne (q := pn_1) (e' := (q911, zI4 E 6 (upd (upd (upd (fun _ => 0) 0 0) 1 (nI ad)) 2 20))) (by omega) G3_14
    have G4_15 := zset_eq (e' := (q911, zI4 E 6 (upd (upd (upd (fun _ => 0) 0 0) 1 (nI ad)) 2 20))) G3_15
    generalize hws4 : (ws_3.set pn_1 (q911, zI4 E 6 (upd (upd (upd (fun _ => 0) 0 0) 1 (nI ad)) 2 20))) = ws_4 at J hk G4_0 G4_1 G4_2 G4_3 G4_4 G4_5 G4_6 G4_7 G4_8 G4_9 G4_10 G4_11 G4_12 G4_13 G4_14 G4_15 hF hR hSN
    refine lv_dup hx hb dL_law_946 rfl ?_
    refine lv_iconst (v := nI 3) hx hb dL_law_947 rfl ?_
    refine lv_iload hx hb dL_law_948 (lv_at hl 11 rfl) ?_
    refine lv_if_eq (tgt := 957) hx hb dL_law_950 (by decide) (fun cz950 => ?_) (fun cz950 => by exact absurd cz950 (by decide))
    refine lv_iconst (v := 0) hx hb dL_law_957 (by decide) ?_
    refine z_iast X J pn_1 G4_15 (vp_in_nI (by omega) (by first | decide | omega)) dL_law_958 (fun H locs J => ?_)
    rw [show upd (upd (upd (upd (fun _ => 0) 0 0) 1 (nI ad)) 2 20) (nI 3).toNatClampNeg 0 = upd (upd (upd (upd (fun _ => 0) 0 0) 1 (nI ad)) 2 20) 3 0 from (by rw [nI_clamp (by omega)])] at J
    have hF := hF.keepS (zK.set (S := [pn_1]) (ws := ws_4) (q := pn_1) (e := (q911, zI4 E 6 (upd (upd (upd (upd (fun _ => 0) 0 0) 1 (nI ad)) 2 20) 3 0))) (List.mem_singleton.mpr rfl)) (fun q9 hq9 => Or.inr ⟨_, _, (List.mem_singleton.mp hq9).symm ▸ G4_15, noL_I⟩)
    have hR := hR.keepS (zK.set (S := [pn_1]) (ws := ws_4) (q := pn_1) (e := (q911, zI4 E 6 (upd (upd (upd (upd (fun _ => 0) 0 0) 1 (nI ad)) 2 20) 3 0))) (List.mem_singleton.mpr rfl)) (fun q9 hq9 => Or.inr ⟨_, _, (List.mem_singleton.mp hq9).symm ▸ G4_15, noL_I⟩)
    have hSN := hSN.keep (zK.set (S := [pn_1]) (ws := ws_4) (q := pn_1) (e := (q911, zI4 E 6 (upd (upd (upd (upd (fun _ => 0) 0 0) 1 (nI ad)) 2 20) 3 0))) (List.mem_singleton.mpr rfl)) (fun r9 hr9 => by simp only [List.mem_cons, rg_mem, List.not_mem_nil, or_false, not_or]; omega)
    have hk := hk.step (zK.set (S := [pn_1]) (ws := ws_4) (q := pn_1) (e := (q911, zI4 E 6 (upd (upd (upd (upd (fun _ => 0) 0 0) 1 (nI ad)) 2 20) 3 0))) (List.mem_singleton.mpr rfl)) (fun q9 a9 n9 f9 h8 h7 h9 => by simp only [List.mem_cons, rg_mem, List.not_mem_nil, or_false, not_or]; omega)
    have G5_0 := zset_ne (q := pn_1) (e' := (q911, zI4 E 6 (upd (upd (upd (upd (fun _ => 0) 0 0) 1 (nI ad)) 2 20) 3 0))) (by omega) G4_0
    have G5_1 := zset_ne (q := pn_1) (e' := (q911, zI4 E 6 (upd (upd (upd (upd (fun _ => 0) 0 0) 1 (nI ad)) 2 20) 3 0))) (by omega) G4_1
    have G5_2 := zset_ne (q := pn_1) (e' := (q911, zI4 E 6 (upd (upd (upd (upd (fun _ => 0) 0 0) 1 (nI ad)) 2 20) 3 0))) (by omega) G4_2
    have G5_3 := zset_ne (q := pn_1) (e' := (q911, zI4 E 6 (upd (upd (upd (upd (fun _ => 0) 0 0) 1 (nI ad)) 2 20) 3 0))) (by omega) G4_3
    have G5_4 := zset_ne (q := pn_1) (e' := (q911, zI4 E 6 (upd (upd (upd (upd (fun _ => 0) 0 0) 1 (nI ad)) 2 20) 3 0))) (by omega) G4_4
    have G5_5 := zset_ne (q := pn_1) (e' := (q911, zI4 E 6 (upd (upd (upd (upd (fun _ => 0) 0 0) 1 (nI ad)) 2 20) 3 0))) (by omega) G4_5
    have G5_6 := zset_ne (q := pn_1) (e' := (q911, zI4 E 6 (upd (upd (upd (upd (fun _ => 0) 0 0) 1 (nI ad)) 2 20) 3 0))) (by omega) G4_6
    have G5_7 := zset_ne (q := pn_1) (e' := (q911, zI4 E 6 (upd (upd (upd (upd (fun _ => 0) 0 0) 1 (nI ad)) 2 20) 3 0))) (by omega) G4_7
    have G5_8 := zset_ne (q := pn_1) (e' := (q911, zI4 E 6 (upd (upd (upd (upd (fun _ => 0) 0 0) 1 (nI ad)) 2 20) 3 0))) (by omega) G4_8
    have G5_9 := zset_ne (q := pn_1) (e' := (q911, zI4 E 6 (upd (upd (upd (upd (fun _ => 0) 0 0) 1 (nI ad)) 2 20) 3 0))) (by omega) G4_9
    have G5_10 := zset_ne (q := pn_1) (e' := (q911, zI4 E 6 (upd (upd (upd (upd (fun _ => 0) 0 0) 1 (nI ad)) 2 20) 3 0))) (by omega) G4_10
    have G5_11 := zset_ne (q := pn_1) (e' := (q911, zI4 E 6 (upd (upd (upd (upd (fun _ => 0) 0 0) 1 (nI ad)) 2 20) 3 0))) (by omega) G4_11
    have G5_12 := zset_ne (q := pn_1) (e' := (q911, zI4 E 6 (upd (upd (upd (upd (fun _ => 0) 0 0) 1 (nI ad)) 2 20) 3 0))) (by omega) G4_12
    have G5_13 := zset_ne (q := pn_1) (e' := (q911, zI4 E 6 (upd (upd (upd (upd (fun _ => 0) 0 0) 1 (nI ad)) 2 20) 3 0))) (by omega) G4_13
    have G5_14 := zset_ne (q := pn_1) (e' := (q911, zI4 E 6 (upd (upd (upd (upd (fun _ => 0) 0 0) 1 (nI ad)) 2 20) 3 0))) (by omega) G4_14
    have G5_15 := zset_eq (e' := (q911, zI4 E 6 (upd (upd (upd (upd (fun _ => 0) 0 0) 1 (nI ad)) 2 20) 3 0))) G4_15
    generalize hws5 : (ws_4.set pn_1 (q911, zI4 E 6 (upd (upd (upd (upd (fun _ => 0) 0 0) 1 (nI ad)) 2 20) 3 0))) = ws_5 at J hk G5_0 G5_1 G5_2 G5_3 G5_4 G5_5 G5_6 G5_7 G5_8 G5_9 G5_10 G5_11 G5_12 G5_13 G5_14 G5_15 hF hR hSN
    refine lv_dup hx hb dL_law_959 rfl ?_
    refine lv_iconst (v := nI 4) hx hb dL_law_960 rfl ?_
    refine lv_iload hx hb dL_law_961 (lv_at hl 8 rfl) ?_
    refine z_iast X J pn_1 G5_15 (vp_in_nI (by omega) (by first | decide | omega)) dL_law_963 (fun H locs J => ?_)
    rw [show upd (upd (upd (upd (upd (fun _ => 0) 0 0) 1 (nI ad)) 2 20) 3 0) (nI 4).toNatClampNeg (nI he) = upd (upd (upd (upd (upd (fun _ => 0) 0 0) 1 (nI ad)) 2 20) 3 0) 4 (nI he) from (by rw [nI_clamp (by omega)])] at J
    have hF := hF.keepS (zK.set (S := [pn_1]) (ws := ws_5) (q := pn_1) (e := (q911, zI4 E 6 (upd (upd (upd (upd (upd (fun _ => 0) 0 0) 1 (nI ad)) 2 20) 3 0) 4 (nI he)))) (List.mem_singleton.mpr rfl)) (fun q9 hq9 => Or.inr ⟨_, _, (List.mem_singleton.mp hq9).symm ▸ G5_15, noL_I⟩)
    have hR := hR.keepS (zK.set (S := [pn_1]) (ws := ws_5) (q := pn_1) (e := (q911, zI4 E 6 (upd (upd (upd (upd (upd (fun _ => 0) 0 0) 1 (nI ad)) 2 20) 3 0) 4 (nI he)))) (List.mem_singleton.mpr rfl)) (fun q9 hq9 => Or.inr ⟨_, _, (List.mem_singleton.mp hq9).symm ▸ G5_15, noL_I⟩)
    have hSN := hSN.keep (zK.set (S := [pn_1]) (ws := ws_5) (q := pn_1) (e := (q911, zI4 E 6 (upd (upd (upd (upd (upd (fun _ => 0) 0 0) 1 (nI ad)) 2 20) 3 0) 4 (nI he)))) (List.mem_singleton.mpr rfl)) (fun r9 hr9 => by simp only [List.mem_cons, rg_mem, List.not_mem_nil, or_false, not_or]; omega)
    have hk := hk.step (zK.set (S := [pn_1]) (ws := ws_5) (q := pn_1) (e := (q911, zI4 E 6 (upd (upd (upd (upd (upd (fun _ => 0) 0 0) 1 (nI ad)) 2 20) 3 0) 4 (nI he)))) (List.mem_singleton.mpr rfl)) (fun q9 a9 n9 f9 h8 h7 h9 => by simp only [List.mem_cons, rg_mem, List.not_mem_nil, or_false, not_or]; omega)
    have G6_0 := zset_ne (q := pn_1) (e' := (q911, zI4 E 6 (upd (upd (upd (upd (upd (fun _ => 0) 0 0) 1 (nI ad)) 2 20) 3 0) 4 (nI he)))) (by omega) G5_0
    have G6_1 := zset_ne (q := pn_1) (e' := (q911, zI4 E 6 (upd (upd (upd (upd (upd (fun _ => 0) 0 0) 1 (nI ad)) 2 20) 3 0) 4 (nI he)))) (by omega) G5_1
    have G6_2 := zset_ne (q := pn_1) (e' := (q911, zI4 E 6 (upd (upd (upd (upd (upd (fun _ => 0) 0 0) 1 (nI ad)) 2 20) 3 0) 4 (nI he)))) (by omega) G5_2
    have G6_3 := zset_ne (q := pn_1) (e' := (q911, zI4 E 6 (upd (upd (upd (upd (upd (fun _ => 0) 0 0) 1 (nI ad)) 2 20) 3 0) 4 (nI he)))) (by omega) G5_3
    have G6_4 := zset_ne (q := pn_1) (e' := (q911, zI4 E 6 (upd (upd (upd (upd (upd (fun _ => 0) 0 0) 1 (nI ad)) 2 20) 3 0) 4 (nI he)))) (by omega) G5_4
    have G6_5 := zset_ne (q := pn_1) (e' := (q911, zI4 E 6 (upd (upd (upd (upd (upd (fun _ => 0) 0 0) 1 (nI ad)) 2 20) 3 0) 4 (nI he)))) (by omega) G5_5
    have G6_6 := zset_ne (q := pn_1) (e' := (q911, zI4 E 6 (upd (upd (upd (upd (upd (fun _ => 0) 0 0) 1 (nI ad)) 2 20) 3 0) 4 (nI he)))) (by omega) G5_6
    have G6_7 := zset_ne (q := pn_1) (e' := (q911, zI4 E 6 (upd (upd (upd (upd (upd (fun _ => 0) 0 0) 1 (nI ad)) 2 20) 3 0) 4 (nI he)))) (by omega) G5_7
    have G6_8 := zset_ne (q := pn_1) (e' := (q911, zI4 E 6 (upd (upd (upd (upd (upd (fun _ => 0) 0 0) 1 (nI ad)) 2 20) 3 0) 4 (nI he)))) (by omega) G5_8
    have G6_9 := zset_ne (q := pn_1) (e' := (q911, zI4 E 6 (upd (upd (upd (upd (upd (fun _ => 0) 0 0) 1 (nI ad)) 2 20) 3 0) 4 (nI he)))) (by omega) G5_9
    have G6_10 := zset_ne (q := pn_1) (e' := (q911, zI4 E 6 (upd (upd (upd (upd (upd (fun _ => 0) 0 0) 1 (nI ad)) 2 20) 3 0) 4 (nI he)))) (by omega) G5_10
    have G6_11 := zset_ne (q := pn_1) (e' := (q911, zI4 E 6 (upd (upd (upd (upd (upd (fun _ => 0) 0 0) 1 (nI ad)) 2 20) 3 0) 4 (nI he)))) (by omega) G5_11
    have G6_12 := zset_ne (q := pn_1) (e' := (q911, zI4 E 6 (upd (upd (upd (upd (upd (fun _ => 0) 0 0) 1 (nI ad)) 2 20) 3 0) 4 (nI he)))) (by omega) G5_12
    have G6_13 := zset_ne (q := pn_1) (e' := (q911, zI4 E 6 (upd (upd (upd (upd (upd (fun _ => 0) 0 0) 1 (nI ad)) 2 20) 3 0) 4 (nI he)))) (by omega) G5_13
    have G6_14 := zset_ne (q := pn_1) (e' := (q911, zI4 E 6 (upd (upd (upd (upd (upd (fun _ => 0) 0 0) 1 (nI ad)) 2 20) 3 0) 4 (nI he)))) (by omega) G5_14
    have G6_15 := zset_eq (e' := (q911, zI4 E 6 (upd (upd (upd (upd (upd (fun _ => 0) 0 0) 1 (nI ad)) 2 20) 3 0) 4 (nI he)))) G5_15
    generalize hws6 : (ws_5.set pn_1 (q911, zI4 E 6 (upd (upd (upd (upd (upd (fun _ => 0) 0 0) 1 (nI ad)) 2 20) 3 0) 4 (nI he)))) = ws_6 at J hk G6_0 G6_1 G6_2 G6_3 G6_4 G6_5 G6_6 G6_7 G6_8 G6_9 G6_10 G6_11 G6_12 G6_13 G6_14 G6_15 hF hR hSN
    refine lv_dup hx hb dL_law_964 rfl ?_
    refine lv_iconst (v := nI 5) hx hb dL_law_965 rfl ?_
    refine lv_iconst (v := 0) hx hb dL_law_966 (by decide) ?_
    refine z_iast X J pn_1 G6_15 (vp_in_nI (by omega) (by first | decide | omega)) dL_law_967 (fun H locs J => ?_)
    rw [show upd (upd (upd (upd (upd (upd (fun _ => 0) 0 0) 1 (nI ad)) 2 20) 3 0) 4 (nI he)) (nI 5).toNatClampNeg 0 = upd (upd (upd (upd (upd (upd (fun _ => 0) 0 0) 1 (nI ad)) 2 20) 3 0) 4 (nI he)) 5 0 from (by rw [nI_clamp (by omega)])] at J
    have hF := hF.keepS (zK.set (S := [pn_1]) (ws := ws_6) (q := pn_1) (e := (q911, zI4 E 6 (upd (upd (upd (upd (upd (upd (fun _ => 0) 0 0) 1 (nI ad)) 2 20) 3 0) 4 (nI he)) 5 0))) (List.mem_singleton.mpr rfl)) (fun q9 hq9 => Or.inr ⟨_, _, (List.mem_singleton.mp hq9).symm ▸ G6_15, noL_I⟩)
    have hR := hR.keepS (zK.set (S := [pn_1]) (ws := ws_6) (q := pn_1) (e := (q911, zI4 E 6 (upd (upd (upd (upd (upd (upd (fun _ => 0) 0 0) 1 (nI ad)) 2 20) 3 0) 4 (nI he)) 5 0))) (List.mem_singleton.mpr rfl)) (fun q9 hq9 => Or.inr ⟨_, _, (List.mem_singleton.mp hq9).symm ▸ G6_15, noL_I⟩)
    have hSN := hSN.keep (zK.set (S := [pn_1]) (ws := ws_6) (q := pn_1) (e := (q911, zI4 E 6 (upd (upd (upd (upd (upd (upd (fun _ => 0) 0 0) 1 (nI ad)) 2 20) 3 0) 4 (nI he)) 5 0))) (List.mem_singleton.mpr rfl)) (fun r9 hr9 => by simp only [List.mem_cons, rg_mem, List.not_mem_nil, or_false, not_or]; omega)
    have hk := hk.step (zK.set (S := [pn_1]) (ws := ws_6) (q := pn_1) (e := (q911, zI4 E 6 (upd (upd (upd (upd (upd (upd (fun _ => 0) 0 0) 1 (nI ad)) 2 20) 3 0) 4 (nI he)) 5 0))) (List.mem_singleton.mpr rfl)) (fun q9 a9 n9 f9 h8 h7 h9 => by simp only [List.mem_cons, rg_mem, List.not_mem_nil, or_false, not_or]; omega)
    have G7_0 := zset_ne (q := pn_1) (e' := (q911, zI4 E 6 (upd (upd (upd (upd (upd (upd (fun _ => 0) 0 0) 1 (nI ad)) 2 20) 3 0) 4 (nI he)) 5 0))) (by omega) G6_0
    have G7_1 := zset_ne (q := pn_1) (e' := (q911, zI4 E 6 (upd (upd (upd (upd (upd (upd (fun _ => 0) 0 0) 1 (nI ad)) 2 20) 3 0) 4 (nI he)) 5 0))) (by omega) G6_1
    have G7_2 := zset_ne (q := pn_1) (e' := (q911, zI4 E 6 (upd (upd (upd (upd (upd (upd (fun _ => 0) 0 0) 1 (nI ad)) 2 20) 3 0) 4 (nI he)) 5 0))) (by omega) G6_2
    have G7_3 := zset_ne (q := pn_1) (e' := (q911, zI4 E 6 (upd (upd (upd (upd (upd (upd (fun _ => 0) 0 0) 1 (nI ad)) 2 20) 3 0) 4 (nI he)) 5 0))) (by omega) G6_3
    have G7_4 := zset_ne (q := pn_1) (e' := (q911, zI4 E 6 (upd (upd (upd (upd (upd (upd (fun _ => 0) 0 0) 1 (nI ad)) 2 20) 3 0) 4 (nI he)) 5 0))) (by omega) G6_4
    have G7_5 := zset_ne (q := pn_1) (e' := (q911, zI4 E 6 (upd (upd (upd (upd (upd (upd (fun _ => 0) 0 0) 1 (nI ad)) 2 20) 3 0) 4 (nI he)) 5 0))) (by omega) G6_5
    have G7_6 := zset_ne (q := pn_1) (e' := (q911, zI4 E 6 (upd (upd (upd (upd (upd (upd (fun _ => 0) 0 0) 1 (nI ad)) 2 20) 3 0) 4 (nI he)) 5 0))) (by omega) G6_6
    have G7_7 := zset_ne (q := pn_1) (e' := (q911, zI4 E 6 (upd (upd (upd (upd (upd (upd (fun _ => 0) 0 0) 1 (nI ad)) 2 20) 3 0) 4 (nI he)) 5 0))) (by omega) G6_7
    have G7_8 := zset_ne (q := pn_1) (e' := (q911, zI4 E 6 (upd (upd (upd (upd (upd (upd (fun _ => 0) 0 0) 1 (nI ad)) 2 20) 3 0) 4 (nI he)) 5 0))) (by omega) G6_8
    have G7_9 := zset_ne (q := pn_1) (e' := (q911, zI4 E 6 (upd (upd (upd (upd (upd (upd (fun _ => 0) 0 0) 1 (nI ad)) 2 20) 3 0) 4 (nI he)) 5 0))) (by omega) G6_9
    have G7_10 := zset_ne (q := pn_1) (e' := (q911, zI4 E 6 (upd (upd (upd (upd (upd (upd (fun _ => 0) 0 0) 1 (nI ad)) 2 20) 3 0) 4 (nI he)) 5 0))) (by omega) G6_10
    have G7_11 := zset_ne (q := pn_1) (e' := (q911, zI4 E 6 (upd (upd (upd (upd (upd (upd (fun _ => 0) 0 0) 1 (nI ad)) 2 20) 3 0) 4 (nI he)) 5 0))) (by omega) G6_11
    have G7_12 := zset_ne (q := pn_1) (e' := (q911, zI4 E 6 (upd (upd (upd (upd (upd (upd (fun _ => 0) 0 0) 1 (nI ad)) 2 20) 3 0) 4 (nI he)) 5 0))) (by omega) G6_12
    have G7_13 := zset_ne (q := pn_1) (e' := (q911, zI4 E 6 (upd (upd (upd (upd (upd (upd (fun _ => 0) 0 0) 1 (nI ad)) 2 20) 3 0) 4 (nI he)) 5 0))) (by omega) G6_13
    have G7_14 := zset_ne (q := pn_1) (e' := (q911, zI4 E 6 (upd (upd (upd (upd (upd (upd (fun _ => 0) 0 0) 1 (nI ad)) 2 20) 3 0) 4 (nI he)) 5 0))) (by omega) G6_14
    have G7_15 := zset_eq (e' := (q911, zI4 E 6 (upd (upd (upd (upd (upd (upd (fun _ => 0) 0 0) 1 (nI ad)) 2 20) 3 0) 4 (nI he)) 5 0))) G6_15
    generalize hws7 : (ws_6.set pn_1 (q911, zI4 E 6 (upd (upd (upd (upd (upd (upd (fun _ => 0) 0 0) 1 (nI ad)) 2 20) 3 0) 4 (nI he)) 5 0))) = ws_7 at J hk G7_0 G7_1 G7_2 G7_3 G7_4 G7_5 G7_6 G7_7 G7_8 G7_9 G7_10 G7_11 G7_12 G7_13 G7_14 G7_15 hF hR hSN
    refine z_cq J (z_rS (As := [.ref fe, .ref q911]) (rest := [.ref z]) X J (cX7_with_ok l E G7_13 G7_15 (fun j9 hj9 => (hSE.keepI hk j9 hj9).elim (fun a9 h9 => h9.elim (fun q9 h9 => h9.elim (fun f9 h9 => ⟨a9, q9, 6, f9, h9.1, h9.2.2.1⟩)))) hnf) (va_cwS 2 hts (goodIn_ext3 gL_law_X7_with) rfl rfl rfl (by decide +kernel) ⟨Nat.le_of_ble_eq_true rfl, Nat.le_of_ble_eq_true rfl⟩) rfl hl.1 rfl (Nat.le_of_ble_eq_true rfl) dL_law_968 ⟨by show _ ≤ 1106048; omega, by show _ ≤ 5783625; omega⟩) (fun r968 ws_8 H locs hp9 J => ?_)
    obtain ⟨k8, ⟨nq_8, hlen8, N8_0, e_r968⟩⟩ := hp9
    have hF := hF.keepS k8 (fun q9 hq9 => absurd hq9 List.not_mem_nil)
    have hR := hR.keepS k8 (fun q9 hq9 => absurd hq9 List.not_mem_nil)
    have hSN := hSN.keep k8 (fun _ _ => List.not_mem_nil)
    have lp8 := hk.1
    have b_8_0 := zlt G7_0
    have b_8_1 := zlt G7_1
    have b_8_2 := zlt G7_2
    have b_8_3 := zlt G7_3
    have b_8_4 := zlt G7_4
    have b_8_5 := zlt G7_5
    have b_8_6 := zlt G7_6
    have b_8_7 := zlt G7_7
    have b_8_8 := zlt G7_8
    have b_8_9 := zlt G7_9
    have b_8_10 := zlt G7_10
    have b_8_11 := zlt G7_11
    have b_8_12 := zlt G7_12
    have b_8_13 := zlt G7_13
    have b_8_14 := zlt G7_14
    have b_8_15 := zlt G7_15
    have hk := hk.step k8 (fun _ _ _ _ _ _ _ => List.not_mem_nil)
    have G8_0 := k8.2 0 _ List.not_mem_nil G7_0
    have G8_1 := k8.2 1 _ List.not_mem_nil G7_1
    have G8_2 := k8.2 2 _ List.not_mem_nil G7_2
    have G8_3 := k8.2 3 _ List.not_mem_nil G7_3
    have G8_4 := k8.2 4 _ List.not_mem_nil G7_4
    have G8_5 := k8.2 5 _ List.not_mem_nil G7_5
    have G8_6 := k8.2 6 _ List.not_mem_nil G7_6
    have G8_7 := k8.2 7 _ List.not_mem_nil G7_7
    have G8_8 := k8.2 8 _ List.not_mem_nil G7_8
    have G8_9 := k8.2 9 _ List.not_mem_nil G7_9
    have G8_10 := k8.2 10 _ List.not_mem_nil G7_10
    have G8_11 := k8.2 11 _ List.not_mem_nil G7_11
    have G8_12 := k8.2 14 _ List.not_mem_nil G7_12
    have G8_13 := k8.2 qf _ List.not_mem_nil G7_13
    have G8_14 := k8.2 qr _ List.not_mem_nil G7_14
    have G8_15 := k8.2 pn_1 _ List.not_mem_nil G7_15
    obtain ⟨pn_8_0, hpn_8_0⟩ : ∃ z : Nat, z = ws_7.length + 0 := ⟨_, rfl⟩
    rw [← hpn_8_0] at N8_0
    subst e_r968
    refine W.eq (g2 := F0 m 971 ls [.ref nq_8, .ref z]) rfl ?_
    refine lv_iload hx hb dL_law_971 (lv_at hl 5 rfl) ?_
    refine lv_iload hx hb dL_law_973 (lv_at hl 6 rfl) ?_
    refine z_ci J (z_rV (As := [.ref nq_8, .int (nI wd), .int (nI sg)]) (rest := []) (ci := 8) (q0 := 11) X J (cX7_tried_ok l E (fa := (fput fa nf 0 (nI ad) 20 0 (nI he) 0)) G8_11 G8_12 N8_0 G8_14 hSN ((hSE.keepI hk).add (fb := fput fa nf 0 (nI ad) 20 0 (nI he) 0) G8_15 (by omega) (fun t9 ht9 => f6_put t9 ht9) (fun j9 hj9 => fput_lo hj9)) (by omega) (okF_put hok (co := 0) (ro := ad) (le := 20) (he := he) (ga := 0) rfl rfl rfl rfl rfl (by decide) (by omega) (by omega) (by decide) (Or.inl ⟨rfl, by omega, by omega⟩)) (hSR.keepI hk) hnr hor hw4 hRB (nI_BI2 (lo := 1) (hi := 9) (by omega) (by omega) (by omega)) hu9) (cwV 3 hts (goodIn_ext3 gL_law_X7_tried) rfl rfl rfl (by decide +kernel) ⟨Nat.le_of_ble_eq_true rfl, Nat.le_of_ble_eq_true rfl⟩) G8_11 rfl rfl rfl hl.1 rfl (Nat.le_of_ble_eq_true rfl) dL_law_975 ⟨by show _ ≤ 1106048; omega, by show _ ≤ 5783625; omega⟩) (fun r975 ws_9 H locs hp9 J => ?_)
    obtain ⟨k9, e_r975⟩ := hp9
    have hF := hF.keepS k9 (fun q9 hq9 => absurd hq9 List.not_mem_nil)
    have hR := hR.keepS k9 (fun q9 hq9 => absurd hq9 List.not_mem_nil)
    have hSN := hSN.keep k9 (fun _ _ => List.not_mem_nil)
    have hk := hk.step k9 (fun _ _ _ _ _ _ _ => List.not_mem_nil)
    have G9_0 := k9.2 0 _ List.not_mem_nil G8_0
    have G9_1 := k9.2 1 _ List.not_mem_nil G8_1
    have G9_2 := k9.2 2 _ List.not_mem_nil G8_2
    have G9_3 := k9.2 3 _ List.not_mem_nil G8_3
    have G9_4 := k9.2 4 _ List.not_mem_nil G8_4
    have G9_5 := k9.2 5 _ List.not_mem_nil G8_5
    have G9_6 := k9.2 6 _ List.not_mem_nil G8_6
    have G9_7 := k9.2 7 _ List.not_mem_nil G8_7
    have G9_8 := k9.2 8 _ List.not_mem_nil G8_8
    have G9_9 := k9.2 9 _ List.not_mem_nil G8_9
    have G9_10 := k9.2 10 _ List.not_mem_nil G8_10
    have G9_11 := k9.2 11 _ List.not_mem_nil G8_11
    have G9_12 := k9.2 14 _ List.not_mem_nil G8_12
    have G9_13 := k9.2 qf _ List.not_mem_nil G8_13
    have G9_14 := k9.2 qr _ List.not_mem_nil G8_14
    have G9_15 := k9.2 pn_1 _ List.not_mem_nil G8_15
    have G9_16 := k9.2 pn_8_0 _ List.not_mem_nil N8_0
    subst e_r975
    refine W.eq (g2 := F0 m 978 ls [.int (advK (advD (nI wd)) fa nf (nI he) (nI sg) sup (nI wd) sn rd ri lim nr ad)]) (congrArg (fun z9 : Int32 => F0 m 978 ls [.int z9]) (show (allB (hsS (nI sg) sup (hgS (fput fa nf 0 (nI ad) 20 0 (nI he) 0) (-1) (nf + 1)).1 (hgS (fput fa nf 0 (nI ad) 20 0 (nI he) 0) (-1) (nf + 1)).2 (nI wd) sn 4).2.1 rd ri lim nr : Int32) = advK (advD (nI wd)) fa nf (nI he) (nI sg) sup (nI wd) sn rd ri lim nr ad from (adv_t0 hnf hD))) ?_
    refine lv_istore (lv' := [(24, .int (advK (advD (nI wd)) fa nf (nI he) (nI sg) sup (nI wd) sn rd ri lim nr ad)), (0, .ref E.2.2.2.2.1), (1, .ref x), (2, .ref z), (3, .int (nI t)), (4, .int xv), (5, .int (nI wd)), (6, .int (nI sg)), (7, .int (nI hh)), (20, .int (nI he)), (21, .int (nI ad)), (22, .int hv), (23, .int 0)]) hx hb dL_law_978 hl (by decide) rfl (fun ls hl => ?_)
    refine lv_iload hx hb dL_law_980 (lv_at hl 5 rfl) ?_
    refine lv_bipush (v := 7) hx hb dL_law_982 (by decide) ?_
    refine lv_ishr hx hb dL_law_984 ?_
    refine lv_bipush (v := nI 20) hx hb dL_law_985 (by decide) ?_
    obtain ⟨an, han⟩ : ∃ q9 : Nat, q9 = bln (xv >>> (7 &&& 31)) (20) := ⟨_, rfl⟩
    have ban := bln_lt (v := xv >>> (7 &&& 31)) (n := 20) (by omega)
    refine z_cr (z_rS (As := [.int (xv >>> (7 &&& 31)), .int (nI 20)]) (rest := []) X J (cL_below_ok l E (by first | assumption | omega | decide) (by first | assumption | omega | decide)) (va_cwS 2 hts (goodIn_ext3 gL_law_L_below) rfl rfl rfl (by decide +kernel) ⟨Nat.le_of_ble_eq_true rfl, Nat.le_of_ble_eq_true rfl⟩) rfl hl.1 rfl (Nat.le_of_ble_eq_true rfl) dL_law_987 ⟨by show _ ≤ 1106048; omega, by show _ ≤ 5783625; omega⟩) (fun r987 e_r987 => ?_)
    subst e_r987
    refine W.eq (g2 := F0 m 990 ls [.int (nI an)]) (congrArg (fun z9 : Int32 => F0 m 990 ls [.int z9]) (show (nI (bln (xv >>> (7 &&& 31)) 20) : Int32) = nI an from (by rw [han]))) ?_
    refine lv_istore (lv' := [(25, .int (nI an)), (24, .int (advK (advD (nI wd)) fa nf (nI he) (nI sg) sup (nI wd) sn rd ri lim nr ad)), (0, .ref E.2.2.2.2.1), (1, .ref x), (2, .ref z), (3, .int (nI t)), (4, .int xv), (5, .int (nI wd)), (6, .int (nI sg)), (7, .int (nI hh)), (20, .int (nI he)), (21, .int (nI ad)), (22, .int hv), (23, .int 0)]) hx hb dL_law_990 hl (by decide) rfl (fun ls hl => ?_)
    refine lv_aload_n hx hb dL_law_992 rfl (lv_at hl 4 rfl) ?_
    refine lv_aload_n hx hb dL_law_993 rfl (lv_at hl 4 rfl) ?_
    refine z_get (C := RX7) (T := TX7) (N := 8) (ci := 8) (v := .ref fe) X J hi_X7 11 G9_11 rfl 0 (by decide) (by decide +kernel) rfl dL_law_994 ?_
    refine lv_bipush (v := 6) hx hb dL_law_997 (by decide) ?_
    refine z_newa (N' := 6) X J (by decide +kernel) (by decide) (by decide) (Nat.le_of_ble_eq_true rfl) (by show _ ≤ 1106048; omega) (by show _ ≤ 5783625; omega) dL_law_999 (fun q999 H J => ?_)
    have hF := hF.keepS (zK.app (S := []) (ws := ws_9) (more := [(q999, zI4 E 6 (fun _ => 0))])) (fun q9 hq9 => absurd hq9 List.not_mem_nil)
    have hR := hR.keepS (zK.app (S := []) (ws := ws_9) (more := [(q999, zI4 E 6 (fun _ => 0))])) (fun q9 hq9 => absurd hq9 List.not_mem_nil)
    have hSN := hSN.keep (zK.app (S := []) (ws := ws_9) (more := [(q999, zI4 E 6 (fun _ => 0))])) (fun _ _ => List.not_mem_nil)
    have lp10 := hk.1
    have hk := hk.step (zK.app (S := []) (ws := ws_9) (more := [(q999, zI4 E 6 (fun _ => 0))])) (fun _ _ _ _ _ _ _ => List.not_mem_nil)
    have bG10_0 := zlt G9_0
    have G10_0 := zapp (x := (q999, zI4 E 6 (fun _ => 0))) G9_0
    have bG10_1 := zlt G9_1
    have G10_1 := zapp (x := (q999, zI4 E 6 (fun _ => 0))) G9_1
    have bG10_2 := zlt G9_2
    have G10_2 := zapp (x := (q999, zI4 E 6 (fun _ => 0))) G9_2
    have bG10_3 := zlt G9_3
    have G10_3 := zapp (x := (q999, zI4 E 6 (fun _ => 0))) G9_3
    have bG10_4 := zlt G9_4
    have G10_4 := zapp (x := (q999, zI4 E 6 (fun _ => 0))) G9_4
    have bG10_5 := zlt G9_5
    have G10_5 := zapp (x := (q999, zI4 E 6 (fun _ => 0))) G9_5
    have bG10_6 := zlt G9_6
    have G10_6 := zapp (x := (q999, zI4 E 6 (fun _ => 0))) G9_6
    have bG10_7 := zlt G9_7
    have G10_7 := zapp (x := (q999, zI4 E 6 (fun _ => 0))) G9_7
    have bG10_8 := zlt G9_8
    have G10_8 := zapp (x := (q999, zI4 E 6 (fun _ => 0))) G9_8
    have bG10_9 := zlt G9_9
    have G10_9 := zapp (x := (q999, zI4 E 6 (fun _ => 0))) G9_9
    have bG10_10 := zlt G9_10
    have G10_10 := zapp (x := (q999, zI4 E 6 (fun _ => 0))) G9_10
    have bG10_11 := zlt G9_11
    have G10_11 := zapp (x := (q999, zI4 E 6 (fun _ => 0))) G9_11
    have bG10_12 := zlt G9_12
    have G10_12 := zapp (x := (q999, zI4 E 6 (fun _ => 0))) G9_12
    have bG10_13 := zlt G9_13
    have G10_13 := zapp (x := (q999, zI4 E 6 (fun _ => 0))) G9_13
    have bG10_14 := zlt G9_14
    have G10_14 := zapp (x := (q999, zI4 E 6 (fun _ => 0))) G9_14
    have bG10_15 := zlt G9_15
    have G10_15 := zapp (x := (q999, zI4 E 6 (fun _ => 0))) G9_15
    have bG10_16 := zlt G9_16
    have G10_16 := zapp (x := (q999, zI4 E 6 (fun _ => 0))) G9_16
    have G10_n := zapp_new (ws := ws_9) (x := (q999, zI4 E 6 (fun _ => 0)))
    generalize hws10 : ws_9 ++ [(q999, zI4 E 6 (fun _ => 0))] = ws_10 at J hk G10_0 G10_1 G10_2 G10_3 G10_4 G10_5 G10_6 G10_7 G10_8 G10_9 G10_10 G10_11 G10_12 G10_13 G10_14 G10_15 G10_16 hF hR hSN G10_n
    generalize hpn10 : ws_9.length = pn_10 at G10_n lp10 bG10_0 bG10_1 bG10_2 bG10_3 bG10_4 bG10_5 bG10_6 bG10_7 bG10_8 bG10_9 bG10_10 bG10_11 bG10_12 bG10_13 bG10_14 bG10_15 bG10_16
    refine lv_dup hx hb dL_law_1001 rfl ?_
    refine lv_iconst (v := nI 0) hx hb dL_law_1002 rfl ?_
    refine lv_iload hx hb dL_law_1003 (lv_at hl 13 rfl) ?_
    refine lv_if_eq (tgt := 1013) hx hb dL_law_1005 (by decide) (fun cz1005 => ?_) (fun cz1005 => by exact absurd cz1005 (by decide))
    refine lv_iconst (v := 0) hx hb dL_law_1013 (by decide) ?_
    refine z_iast X J pn_10 G10_n (vp_in_nI (by omega) (by first | decide | omega)) dL_law_1014 (fun H locs J => ?_)
    rw [show upd (fun _ => 0) (nI 0).toNatClampNeg 0 = upd (fun _ => 0) 0 0 from (by rw [nI_clamp (by omega)])] at J
    have hF := hF.keepS (zK.set (S := [pn_10]) (ws := ws_10) (q := pn_10) (e := (q999, zI4 E 6 (upd (fun _ => 0) 0 0))) (List.mem_singleton.mpr rfl)) (fun q9 hq9 => Or.inr ⟨_, _, (List.mem_singleton.mp hq9).symm ▸ G10_n, noL_I⟩)
    have hR := hR.keepS (zK.set (S := [pn_10]) (ws := ws_10) (q := pn_10) (e := (q999, zI4 E 6 (upd (fun _ => 0) 0 0))) (List.mem_singleton.mpr rfl)) (fun q9 hq9 => Or.inr ⟨_, _, (List.mem_singleton.mp hq9).symm ▸ G10_n, noL_I⟩)
    have hSN := hSN.keep (zK.set (S := [pn_10]) (ws := ws_10) (q := pn_10) (e := (q999, zI4 E 6 (upd (fun _ => 0) 0 0))) (List.mem_singleton.mpr rfl)) (fun r9 hr9 => by simp only [List.mem_cons, rg_mem, List.not_mem_nil, or_false, not_or]; omega)
    have hk := hk.step (zK.set (S := [pn_10]) (ws := ws_10) (q := pn_10) (e := (q999, zI4 E 6 (upd (fun _ => 0) 0 0))) (List.mem_singleton.mpr rfl)) (fun q9 a9 n9 f9 h8 h7 h9 => by simp only [List.mem_cons, rg_mem, List.not_mem_nil, or_false, not_or]; omega)
    have G11_0 := zset_ne (q := pn_10) (e' := (q999, zI4 E 6 (upd (fun _ => 0) 0 0))) (by omega) G10_0
    have G11_1 := zset_ne (q := pn_10) (e' := (q999, zI4 E 6 (upd (fun _ => 0) 0 0))) (by omega) G10_1
    have G11_2 := zset_ne (q := pn_10) (e' := (q999, zI4 E 6 (upd (fun _ => 0) 0 0))) (by omega) G10_2
    have G11_3 := zset_ne (q := pn_10) (e' := (q999, zI4 E 6 (upd (fun _ => 0) 0 0))) (by omega) G10_3
    have G11_4 := zset_ne (q := pn_10) (e' := (q999, zI4 E 6 (upd (fun _ => 0) 0 0))) (by omega) G10_4
    have G11_5 := zset_ne (q := pn_10) (e' := (q999, zI4 E 6 (upd (fun _ => 0) 0 0))) (by omega) G10_5
    have G11_6 := zset_ne (q := pn_10) (e' := (q999, zI4 E 6 (upd (fun _ => 0) 0 0))) (by omega) G10_6
    have G11_7 := zset_ne (q := pn_10) (e' := (q999, zI4 E 6 (upd (fun _ => 0) 0 0))) (by omega) G10_7
    have G11_8 := zset_ne (q := pn_10) (e' := (q999, zI4 E 6 (upd (fun _ => 0) 0 0))) (by omega) G10_8
    have G11_9 := zset_ne (q := pn_10) (e' := (q999, zI4 E 6 (upd (fun _ => 0) 0 0))) (by omega) G10_9
    have G11_10 := zset_ne (q := pn_10) (e' := (q999, zI4 E 6 (upd (fun _ => 0) 0 0))) (by omega) G10_10
    have G11_11 := zset_ne (q := pn_10) (e' := (q999, zI4 E 6 (upd (fun _ => 0) 0 0))) (by omega) G10_11
    have G11_12 := zset_ne (q := pn_10) (e' := (q999, zI4 E 6 (upd (fun _ => 0) 0 0))) (by omega) G10_12
    have G11_13 := zset_ne (q := pn_10) (e' := (q999, zI4 E 6 (upd (fun _ => 0) 0 0))) (by omega) G10_13
    have G11_14 := zset_ne (q := pn_10) (e' := (q999, zI4 E 6 (upd (fun _ => 0) 0 0))) (by omega) G10_14
    have G11_15 := zset_ne (q := pn_10) (e' := (q999, zI4 E 6 (upd (fun _ => 0) 0 0))) (by omega) G10_15
    have G11_16 := zset_ne (q := pn_10) (e' := (q999, zI4 E 6 (upd (fun _ => 0) 0 0))) (by omega) G10_16
    have G11_17 := zset_eq (e' := (q999, zI4 E 6 (upd (fun _ => 0) 0 0))) G10_n
    generalize hws11 : (ws_10.set pn_10 (q999, zI4 E 6 (upd (fun _ => 0) 0 0))) = ws_11 at J hk G11_0 G11_1 G11_2 G11_3 G11_4 G11_5 G11_6 G11_7 G11_8 G11_9 G11_10 G11_11 G11_12 G11_13 G11_14 G11_15 G11_16 G11_17 hF hR hSN
    refine lv_dup hx hb dL_law_1015 rfl ?_
    refine lv_iconst (v := nI 1) hx hb dL_law_1016 rfl ?_
    refine lv_iload hx hb dL_law_1017 (lv_at hl 13 rfl) ?_
    refine lv_if_eq (tgt := 1026) hx hb dL_law_1019 (by decide) (fun cz1019 => ?_) (fun cz1019 => by exact absurd cz1019 (by decide))
    refine lv_iload hx hb dL_law_1026 (lv_at hl 0 rfl) ?_
    refine z_iast X J pn_10 G11_17 (vp_in_nI (by omega) (by first | decide | omega)) dL_law_1028 (fun H locs J => ?_)
    rw [show upd (upd (fun _ => 0) 0 0) (nI 1).toNatClampNeg (nI an) = upd (upd (fun _ => 0) 0 0) 1 (nI an) from (by rw [nI_clamp (by omega)])] at J
    have hF := hF.keepS (zK.set (S := [pn_10]) (ws := ws_11) (q := pn_10) (e := (q999, zI4 E 6 (upd (upd (fun _ => 0) 0 0) 1 (nI an)))) (List.mem_singleton.mpr rfl)) (fun q9 hq9 => Or.inr ⟨_, _, (List.mem_singleton.mp hq9).symm ▸ G11_17, noL_I⟩)
    have hR := hR.keepS (zK.set (S := [pn_10]) (ws := ws_11) (q := pn_10) (e := (q999, zI4 E 6 (upd (upd (fun _ => 0) 0 0) 1 (nI an)))) (List.mem_singleton.mpr rfl)) (fun q9 hq9 => Or.inr ⟨_, _, (List.mem_singleton.mp hq9).symm ▸ G11_17, noL_I⟩)
    have hSN := hSN.keep (zK.set (S := [pn_10]) (ws := ws_11) (q := pn_10) (e := (q999, zI4 E 6 (upd (upd (fun _ => 0) 0 0) 1 (nI an)))) (List.mem_singleton.mpr rfl)) (fun r9 hr9 => by simp only [List.mem_cons, rg_mem, List.not_mem_nil, or_false, not_or]; omega)
    have hk := hk.step (zK.set (S := [pn_10]) (ws := ws_11) (q := pn_10) (e := (q999, zI4 E 6 (upd (upd (fun _ => 0) 0 0) 1 (nI an)))) (List.mem_singleton.mpr rfl)) (fun q9 a9 n9 f9 h8 h7 h9 => by simp only [List.mem_cons, rg_mem, List.not_mem_nil, or_false, not_or]; omega)
    have G12_0 := zset_ne (q := pn_10) (e' := (q999, zI4 E 6 (upd (upd (fun _ => 0) 0 0) 1 (nI an)))) (by omega) G11_0
    have G12_1 := zset_ne (q := pn_10) (e' := (q999, zI4 E 6 (upd (upd (fun _ => 0) 0 0) 1 (nI an)))) (by omega) G11_1
    have G12_2 := zset_ne (q := pn_10) (e' := (q999, zI4 E 6 (upd (upd (fun _ => 0) 0 0) 1 (nI an)))) (by omega) G11_2
    have G12_3 := zset_ne (q := pn_10) (e' := (q999, zI4 E 6 (upd (upd (fun _ => 0) 0 0) 1 (nI an)))) (by omega) G11_3
    have G12_4 := zset_ne (q := pn_10) (e' := (q999, zI4 E 6 (upd (upd (fun _ => 0) 0 0) 1 (nI an)))) (by omega) G11_4
    have G12_5 := zset_ne (q := pn_10) (e' := (q999, zI4 E 6 (upd (upd (fun _ => 0) 0 0) 1 (nI an)))) (by omega) G11_5
    have G12_6 := zset_ne (q := pn_10) (e' := (q999, zI4 E 6 (upd (upd (fun _ => 0) 0 0) 1 (nI an)))) (by omega) G11_6
    have G12_7 := zset_ne (q := pn_10) (e' := (q999, zI4 E 6 (upd (upd (fun _ => 0) 0 0) 1 (nI an)))) (by omega) G11_7
    have G12_8 := zset_ne (q := pn_10) (e' := (q999, zI4 E 6 (upd (upd (fun _ => 0) 0 0) 1 (nI an)))) (by omega) G11_8
    have G12_9 := zset_ne (q := pn_10) (e' := (q999, zI4 E 6 (upd (upd (fun _ => 0) 0 0) 1 (nI an)))) (by omega) G11_9
    have G12_10 := zset_ne (q := pn_10) (e' := (q999, zI4 E 6 (upd (upd (fun _ => 0) 0 0) 1 (nI an)))) (by omega) G11_10
    have G12_11 := zset_ne (q := pn_10) (e' := (q999, zI4 E 6 (upd (upd (fun _ => 0) 0 0) 1 (nI an)))) (by omega) G11_11
    have G12_12 := zset_ne (q := pn_10) (e' := (q999, zI4 E 6 (upd (upd (fun _ => 0) 0 0) 1 (nI an)))) (by omega) G11_12
    have G12_13 := zset_ne (q := pn_10) (e' := (q999, zI4 E 6 (upd (upd (fun _ => 0) 0 0) 1 (nI an)))) (by omega) G11_13
    have G12_14 := zset_ne (q := pn_10) (e' := (q999, zI4 E 6 (upd (upd (fun _ => 0) 0 0) 1 (nI an)))) (by omega) G11_14
    have G12_15 := zset_ne (q := pn_10) (e' := (q999, zI4 E 6 (upd (upd (fun _ => 0) 0 0) 1 (nI an)))) (by omega) G11_15
    have G12_16 := zset_ne (q := pn_10) (e' := (q999, zI4 E 6 (upd (upd (fun _ => 0) 0 0) 1 (nI an)))) (by omega) G11_16
    have G12_17 := zset_eq (e' := (q999, zI4 E 6 (upd (upd (fun _ => 0) 0 0) 1 (nI an)))) G11_17
    generalize hws12 : (ws_11.set pn_10 (q999, zI4 E 6 (upd (upd (fun _ => 0) 0 0) 1 (nI an)))) = ws_12 at J hk G12_0 G12_1 G12_2 G12_3 G12_4 G12_5 G12_6 G12_7 G12_8 G12_9 G12_10 G12_11 G12_12 G12_13 G12_14 G12_15 G12_16 G12_17 hF hR hSN
    refine lv_dup hx hb dL_law_1029 rfl ?_
    refine lv_iconst (v := nI 2) hx hb dL_law_1030 rfl ?_
    refine lv_bipush (v := 20) hx hb dL_law_1031 (by decide) ?_
    refine z_iast X J pn_10 G12_17 (vp_in_nI (by omega) (by first | decide | omega)) dL_law_1033 (fun H locs J => ?_)
    rw [show upd (upd (upd (fun _ => 0) 0 0) 1 (nI an)) (nI 2).toNatClampNeg 20 = upd (upd (upd (fun _ => 0) 0 0) 1 (nI an)) 2 20 from (by rw [nI_clamp (by omega)])] at J
    have hF := hF.keepS (zK.set (S := [pn_10]) (ws := ws_12) (q := pn_10) (e := (q999, zI4 E 6 (upd (upd (upd (fun _ => 0) 0 0) 1 (nI an)) 2 20))) (List.mem_singleton.mpr rfl)) (fun q9 hq9 => Or.inr ⟨_, _, (List.mem_singleton.mp hq9).symm ▸ G12_17, noL_I⟩)
    have hR := hR.keepS (zK.set (S := [pn_10]) (ws := ws_12) (q := pn_10) (e := (q999, zI4 E 6 (upd (upd (upd (fun _ => 0) 0 0) 1 (nI an)) 2 20))) (List.mem_singleton.mpr rfl)) (fun q9 hq9 => Or.inr ⟨_, _, (List.mem_singleton.mp hq9).symm ▸ G12_17, noL_I⟩)
    have hSN := hSN.keep (zK.set (S := [pn_10]) (ws := ws_12) (q := pn_10) (e := (q999, zI4 E 6 (upd (upd (upd (fun _ => 0) 0 0) 1 (nI an)) 2 20))) (List.mem_singleton.mpr rfl)) (fun r9 hr9 => by simp only [List.mem_cons, rg_mem, List.not_mem_nil, or_false, not_or]; omega)
    have hk := hk.step (zK.set (S := [pn_10]) (ws := ws_12) (q := pn_10) (e := (q999, zI4 E 6 (upd (upd (upd (fun _ => 0) 0 0) 1 (nI an)) 2 20))) (List.mem_singleton.mpr rfl)) (fun q9 a9 n9 f9 h8 h7 h9 => by simp only [List.mem_cons, rg_mem, List.not_mem_nil, or_false, not_or]; omega)
    have G13_0 := zset_ne (q := pn_10) (e' := (q999, zI4 E 6 (upd (upd (upd (fun _ => 0) 0 0) 1 (nI an)) 2 20))) (by omega) G12_0
    have G13_1 := zset_ne (q := pn_10) (e' := (q999, zI4 E 6 (upd (upd (upd (fun _ => 0) 0 0) 1 (nI an)) 2 20))) (by omega) G12_1
    have G13_2 := zset_ne (q := pn_10) (e' := (q999, zI4 E 6 (upd (upd (upd (fun _ => 0) 0 0) 1 (nI an)) 2 20))) (by omega) G12_2
    have G13_3 := zset_ne (q := pn_10) (e' := (q999, zI4 E 6 (upd (upd (upd (fun _ => 0) 0 0) 1 (nI an)) 2 20))) (by omega) G12_3
    have G13_4 := zset_ne (q := pn_10) (e' := (q999, zI4 E 6 (upd (upd (upd (fun _ => 0) 0 0) 1 (nI an)) 2 20))) (by omega) G12_4
    have G13_5 := zset_ne (q := pn_10) (e' := (q999, zI4 E 6 (upd (upd (upd (fun _ => 0) 0 0) 1 (nI an)) 2 20))) (by omega) G12_5
    have G13_6 := zset_ne (q := pn_10) (e' := (q999, zI4 E 6 (upd (upd (upd (fun _ => 0) 0 0) 1 (nI an)) 2 20))) (by omega) G12_6
    have G13_7 := zset_ne (q := pn_10) (e' := (q999, zI4 E 6 (upd (upd (upd (fun _ => 0) 0 0) 1 (nI an)) 2 20))) (by omega) G12_7
    have G13_8 := zset_ne (q := pn_10) (e' := (q999, zI4 E 6 (upd (upd (upd (fun _ => 0) 0 0) 1 (nI an)) 2 20))) (by omega) G12_8
    have G13_9 := zset_ne (q := pn_10) (e' := (q999, zI4 E 6 (upd (upd (upd (fun _ => 0) 0 0) 1 (nI an)) 2 20))) (by omega) G12_9
    have G13_10 := zset_ne (q := pn_10) (e' := (q999, zI4 E 6 (upd (upd (upd (fun _ => 0) 0 0) 1 (nI an)) 2 20))) (by omega) G12_10
    have G13_11 := zset_ne (q := pn_10) (e' := (q999, zI4 E 6 (upd (upd (upd (fun _ => 0) 0 0) 1 (nI an)) 2 20))) (by omega) G12_11
    have G13_12 := zset_ne (q := pn_10) (e' := (q999, zI4 E 6 (upd (upd (upd (fun _ => 0) 0 0) 1 (nI an)) 2 20))) (by omega) G12_12
    have G13_13 := zset_ne (q := pn_10) (e' := (q999, zI4 E 6 (upd (upd (upd (fun _ => 0) 0 0) 1 (nI an)) 2 20))) (by omega) G12_13
    have G13_14 := zset_ne (q := pn_10) (e' := (q999, zI4 E 6 (upd (upd (upd (fun _ => 0) 0 0) 1 (nI an)) 2 20))) (by omega) G12_14
    have G13_15 := zset_ne (q := pn_10) (e' := (q999, zI4 E 6 (upd (upd (upd (fun _ => 0) 0 0) 1 (nI an)) 2 20))) (by omega) G12_15
    have G13_16 := zset_ne (q := pn_10) (e' := (q999, zI4 E 6 (upd (upd (upd (fun _ => 0) 0 0) 1 (nI an)) 2 20))) (by omega) G12_16
    have G13_17 := zset_eq (e' := (q999, zI4 E 6 (upd (upd (upd (fun _ => 0) 0 0) 1 (nI an)) 2 20))) G12_17
    generalize hws13 : (ws_12.set pn_10 (q999, zI4 E 6 (upd (upd (upd (fun _ => 0) 0 0) 1 (nI an)) 2 20))) = ws_13 at J hk G13_0 G13_1 G13_2 G13_3 G13_4 G13_5 G13_6 G13_7 G13_8 G13_9 G13_10 G13_11 G13_12 G13_13 G13_14 G13_15 G13_16 G13_17 hF hR hSN
    refine lv_dup hx hb dL_law_1034 rfl ?_
    refine lv_iconst (v := nI 3) hx hb dL_law_1035 rfl ?_
    refine lv_iload hx hb dL_law_1036 (lv_at hl 13 rfl) ?_
    refine lv_if_eq (tgt := 1045) hx hb dL_law_1038 (by decide) (fun cz1038 => ?_) (fun cz1038 => by exact absurd cz1038 (by decide))
    refine lv_iconst (v := 0) hx hb dL_law_1045 (by decide) ?_
    refine z_iast X J pn_10 G13_17 (vp_in_nI (by omega) (by first | decide | omega)) dL_law_1046 (fun H locs J => ?_)
    rw [show upd (upd (upd (upd (fun _ => 0) 0 0) 1 (nI an)) 2 20) (nI 3).toNatClampNeg 0 = upd (upd (upd (upd (fun _ => 0) 0 0) 1 (nI an)) 2 20) 3 0 from (by rw [nI_clamp (by omega)])] at J
    have hF := hF.keepS (zK.set (S := [pn_10]) (ws := ws_13) (q := pn_10) (e := (q999, zI4 E 6 (upd (upd (upd (upd (fun _ => 0) 0 0) 1 (nI an)) 2 20) 3 0))) (List.mem_singleton.mpr rfl)) (fun q9 hq9 => Or.inr ⟨_, _, (List.mem_singleton.mp hq9).symm ▸ G13_17, noL_I⟩)
    have hR := hR.keepS (zK.set (S := [pn_10]) (ws := ws_13) (q := pn_10) (e := (q999, zI4 E 6 (upd (upd (upd (upd (fun _ => 0) 0 0) 1 (nI an)) 2 20) 3 0))) (List.mem_singleton.mpr rfl)) (fun q9 hq9 => Or.inr ⟨_, _, (List.mem_singleton.mp hq9).symm ▸ G13_17, noL_I⟩)
    have hSN := hSN.keep (zK.set (S := [pn_10]) (ws := ws_13) (q := pn_10) (e := (q999, zI4 E 6 (upd (upd (upd (upd (fun _ => 0) 0 0) 1 (nI an)) 2 20) 3 0))) (List.mem_singleton.mpr rfl)) (fun r9 hr9 => by simp only [List.mem_cons, rg_mem, List.not_mem_nil, or_false, not_or]; omega)
    have hk := hk.step (zK.set (S := [pn_10]) (ws := ws_13) (q := pn_10) (e := (q999, zI4 E 6 (upd (upd (upd (upd (fun _ => 0) 0 0) 1 (nI an)) 2 20) 3 0))) (List.mem_singleton.mpr rfl)) (fun q9 a9 n9 f9 h8 h7 h9 => by simp only [List.mem_cons, rg_mem, List.not_mem_nil, or_false, not_or]; omega)
    have G14_0 := zset_ne (q := pn_10) (e' := (q999, zI4 E 6 (upd (upd (upd (upd (fun _ => 0) 0 0) 1 (nI an)) 2 20) 3 0))) (by omega) G13_0
    have G14_1 := zset_ne (q := pn_10) (e' := (q999, zI4 E 6 (upd (upd (upd (upd (fun _ => 0) 0 0) 1 (nI an)) 2 20) 3 0))) (by omega) G13_1
    have G14_2 := zset_ne (q := pn_10) (e' := (q999, zI4 E 6 (upd (upd (upd (upd (fun _ => 0) 0 0) 1 (nI an)) 2 20) 3 0))) (by omega) G13_2
    have G14_3 := zset_ne (q := pn_10) (e' := (q999, zI4 E 6 (upd (upd (upd (upd (fun _ => 0) 0 0) 1 (nI an)) 2 20) 3 0))) (by omega) G13_3
    have G14_4 := zset_ne (q := pn_10) (e' := (q999, zI4 E 6 (upd (upd (upd (upd (fun _ => 0) 0 0) 1 (nI an)) 2 20) 3 0))) (by omega) G13_4
    have G14_5 := zset_ne (q := pn_10) (e' := (q999, zI4 E 6 (upd (upd (upd (upd (fun _ => 0) 0 0) 1 (nI an)) 2 20) 3 0))) (by omega) G13_5
    have G14_6 := zset_ne (q := pn_10) (e' := (q999, zI4 E 6 (upd (upd (upd (upd (fun _ => 0) 0 0) 1 (nI an)) 2 20) 3 0))) (by omega) G13_6
    have G14_7 := zset_ne (q := pn_10) (e' := (q999, zI4 E 6 (upd (upd (upd (upd (fun _ => 0) 0 0) 1 (nI an)) 2 20) 3 0))) (by omega) G13_7
    have G14_8 := zset_ne (q := pn_10) (e' := (q999, zI4 E 6 (upd (upd (upd (upd (fun _ => 0) 0 0) 1 (nI an)) 2 20) 3 0))) (by omega) G13_8
    have G14_9 := zset_ne (q := pn_10) (e' := (q999, zI4 E 6 (upd (upd (upd (upd (fun _ => 0) 0 0) 1 (nI an)) 2 20) 3 0))) (by omega) G13_9
    have G14_10 := zset_ne (q := pn_10) (e' := (q999, zI4 E 6 (upd (upd (upd (upd (fun _ => 0) 0 0) 1 (nI an)) 2 20) 3 0))) (by omega) G13_10
    have G14_11 := zset_ne (q := pn_10) (e' := (q999, zI4 E 6 (upd (upd (upd (upd (fun _ => 0) 0 0) 1 (nI an)) 2 20) 3 0))) (by omega) G13_11
    have G14_12 := zset_ne (q := pn_10) (e' := (q999, zI4 E 6 (upd (upd (upd (upd (fun _ => 0) 0 0) 1 (nI an)) 2 20) 3 0))) (by omega) G13_12
    have G14_13 := zset_ne (q := pn_10) (e' := (q999, zI4 E 6 (upd (upd (upd (upd (fun _ => 0) 0 0) 1 (nI an)) 2 20) 3 0))) (by omega) G13_13
    have G14_14 := zset_ne (q := pn_10) (e' := (q999, zI4 E 6 (upd (upd (upd (upd (fun _ => 0) 0 0) 1 (nI an)) 2 20) 3 0))) (by omega) G13_14
    have G14_15 := zset_ne (q := pn_10) (e' := (q999, zI4 E 6 (upd (upd (upd (upd (fun _ => 0) 0 0) 1 (nI an)) 2 20) 3 0))) (by omega) G13_15
    have G14_16 := zset_ne (q := pn_10) (e' := (q999, zI4 E 6 (upd (upd (upd (upd (fun _ => 0) 0 0) 1 (nI an)) 2 20) 3 0))) (by omega) G13_16
    have G14_17 := zset_eq (e' := (q999, zI4 E 6 (upd (upd (upd (upd (fun _ => 0) 0 0) 1 (nI an)) 2 20) 3 0))) G13_17
    generalize hws14 : (ws_13.set pn_10 (q999, zI4 E 6 (upd (upd (upd (upd (fun _ => 0) 0 0) 1 (nI an)) 2 20) 3 0))) = ws_14 at J hk G14_0 G14_1 G14_2 G14_3 G14_4 G14_5 G14_6 G14_7 G14_8 G14_9 G14_10 G14_11 G14_12 G14_13 G14_14 G14_15 G14_16 G14_17 hF hR hSN
    refine lv_dup hx hb dL_law_1047 rfl ?_
    refine lv_iconst (v := nI 4) hx hb dL_law_1048 rfl ?_
    refine lv_iload hx hb dL_law_1049 (lv_at hl 10 rfl) ?_
    refine z_iast X J pn_10 G14_17 (vp_in_nI (by omega) (by first | decide | omega)) dL_law_1051 (fun H locs J => ?_)
    rw [show upd (upd (upd (upd (upd (fun _ => 0) 0 0) 1 (nI an)) 2 20) 3 0) (nI 4).toNatClampNeg (nI he) = upd (upd (upd (upd (upd (fun _ => 0) 0 0) 1 (nI an)) 2 20) 3 0) 4 (nI he) from (by rw [nI_clamp (by omega)])] at J
    have hF := hF.keepS (zK.set (S := [pn_10]) (ws := ws_14) (q := pn_10) (e := (q999, zI4 E 6 (upd (upd (upd (upd (upd (fun _ => 0) 0 0) 1 (nI an)) 2 20) 3 0) 4 (nI he)))) (List.mem_singleton.mpr rfl)) (fun q9 hq9 => Or.inr ⟨_, _, (List.mem_singleton.mp hq9).symm ▸ G14_17, noL_I⟩)
    have hR := hR.keepS (zK.set (S := [pn_10]) (ws := ws_14) (q := pn_10) (e := (q999, zI4 E 6 (upd (upd (upd (upd (upd (fun _ => 0) 0 0) 1 (nI an)) 2 20) 3 0) 4 (nI he)))) (List.mem_singleton.mpr rfl)) (fun q9 hq9 => Or.inr ⟨_, _, (List.mem_singleton.mp hq9).symm ▸ G14_17, noL_I⟩)
    have hSN := hSN.keep (zK.set (S := [pn_10]) (ws := ws_14) (q := pn_10) (e := (q999, zI4 E 6 (upd (upd (upd (upd (upd (fun _ => 0) 0 0) 1 (nI an)) 2 20) 3 0) 4 (nI he)))) (List.mem_singleton.mpr rfl)) (fun r9 hr9 => by simp only [List.mem_cons, rg_mem, List.not_mem_nil, or_false, not_or]; omega)
    have hk := hk.step (zK.set (S := [pn_10]) (ws := ws_14) (q := pn_10) (e := (q999, zI4 E 6 (upd (upd (upd (upd (upd (fun _ => 0) 0 0) 1 (nI an)) 2 20) 3 0) 4 (nI he)))) (List.mem_singleton.mpr rfl)) (fun q9 a9 n9 f9 h8 h7 h9 => by simp only [List.mem_cons, rg_mem, List.not_mem_nil, or_false, not_or]; omega)
    have G15_0 := zset_ne (q := pn_10) (e' := (q999, zI4 E 6 (upd (upd (upd (upd (upd (fun _ => 0) 0 0) 1 (nI an)) 2 20) 3 0) 4 (nI he)))) (by omega) G14_0
    have G15_1 := zset_ne (q := pn_10) (e' := (q999, zI4 E 6 (upd (upd (upd (upd (upd (fun _ => 0) 0 0) 1 (nI an)) 2 20) 3 0) 4 (nI he)))) (by omega) G14_1
    have G15_2 := zset_ne (q := pn_10) (e' := (q999, zI4 E 6 (upd (upd (upd (upd (upd (fun _ => 0) 0 0) 1 (nI an)) 2 20) 3 0) 4 (nI he)))) (by omega) G14_2
    have G15_3 := zset_ne (q := pn_10) (e' := (q999, zI4 E 6 (upd (upd (upd (upd (upd (fun _ => 0) 0 0) 1 (nI an)) 2 20) 3 0) 4 (nI he)))) (by omega) G14_3
    have G15_4 := zset_ne (q := pn_10) (e' := (q999, zI4 E 6 (upd (upd (upd (upd (upd (fun _ => 0) 0 0) 1 (nI an)) 2 20) 3 0) 4 (nI he)))) (by omega) G14_4
    have G15_5 := zset_ne (q := pn_10) (e' := (q999, zI4 E 6 (upd (upd (upd (upd (upd (fun _ => 0) 0 0) 1 (nI an)) 2 20) 3 0) 4 (nI he)))) (by omega) G14_5
    have G15_6 := zset_ne (q := pn_10) (e' := (q999, zI4 E 6 (upd (upd (upd (upd (upd (fun _ => 0) 0 0) 1 (nI an)) 2 20) 3 0) 4 (nI he)))) (by omega) G14_6
    have G15_7 := zset_ne (q := pn_10) (e' := (q999, zI4 E 6 (upd (upd (upd (upd (upd (fun _ => 0) 0 0) 1 (nI an)) 2 20) 3 0) 4 (nI he)))) (by omega) G14_7
    have G15_8 := zset_ne (q := pn_10) (e' := (q999, zI4 E 6 (upd (upd (upd (upd (upd (fun _ => 0) 0 0) 1 (nI an)) 2 20) 3 0) 4 (nI he)))) (by omega) G14_8
    have G15_9 := zset_ne (q := pn_10) (e' := (q999, zI4 E 6 (upd (upd (upd (upd (upd (fun _ => 0) 0 0) 1 (nI an)) 2 20) 3 0) 4 (nI he)))) (by omega) G14_9
    have G15_10 := zset_ne (q := pn_10) (e' := (q999, zI4 E 6 (upd (upd (upd (upd (upd (fun _ => 0) 0 0) 1 (nI an)) 2 20) 3 0) 4 (nI he)))) (by omega) G14_10
    have G15_11 := zset_ne (q := pn_10) (e' := (q999, zI4 E 6 (upd (upd (upd (upd (upd (fun _ => 0) 0 0) 1 (nI an)) 2 20) 3 0) 4 (nI he)))) (by omega) G14_11
    have G15_12 := zset_ne (q := pn_10) (e' := (q999, zI4 E 6 (upd (upd (upd (upd (upd (fun _ => 0) 0 0) 1 (nI an)) 2 20) 3 0) 4 (nI he)))) (by omega) G14_12
    have G15_13 := zset_ne (q := pn_10) (e' := (q999, zI4 E 6 (upd (upd (upd (upd (upd (fun _ => 0) 0 0) 1 (nI an)) 2 20) 3 0) 4 (nI he)))) (by omega) G14_13
    have G15_14 := zset_ne (q := pn_10) (e' := (q999, zI4 E 6 (upd (upd (upd (upd (upd (fun _ => 0) 0 0) 1 (nI an)) 2 20) 3 0) 4 (nI he)))) (by omega) G14_14
    have G15_15 := zset_ne (q := pn_10) (e' := (q999, zI4 E 6 (upd (upd (upd (upd (upd (fun _ => 0) 0 0) 1 (nI an)) 2 20) 3 0) 4 (nI he)))) (by omega) G14_15
    have G15_16 := zset_ne (q := pn_10) (e' := (q999, zI4 E 6 (upd (upd (upd (upd (upd (fun _ => 0) 0 0) 1 (nI an)) 2 20) 3 0) 4 (nI he)))) (by omega) G14_16
    have G15_17 := zset_eq (e' := (q999, zI4 E 6 (upd (upd (upd (upd (upd (fun _ => 0) 0 0) 1 (nI an)) 2 20) 3 0) 4 (nI he)))) G14_17
    generalize hws15 : (ws_14.set pn_10 (q999, zI4 E 6 (upd (upd (upd (upd (upd (fun _ => 0) 0 0) 1 (nI an)) 2 20) 3 0) 4 (nI he)))) = ws_15 at J hk G15_0 G15_1 G15_2 G15_3 G15_4 G15_5 G15_6 G15_7 G15_8 G15_9 G15_10 G15_11 G15_12 G15_13 G15_14 G15_15 G15_16 G15_17 hF hR hSN
    refine lv_dup hx hb dL_law_1052 rfl ?_
    refine lv_iconst (v := nI 5) hx hb dL_law_1053 rfl ?_
    refine lv_iconst (v := 0) hx hb dL_law_1054 (by decide) ?_
    refine z_iast X J pn_10 G15_17 (vp_in_nI (by omega) (by first | decide | omega)) dL_law_1055 (fun H locs J => ?_)
    rw [show upd (upd (upd (upd (upd (upd (fun _ => 0) 0 0) 1 (nI an)) 2 20) 3 0) 4 (nI he)) (nI 5).toNatClampNeg 0 = upd (upd (upd (upd (upd (upd (fun _ => 0) 0 0) 1 (nI an)) 2 20) 3 0) 4 (nI he)) 5 0 from (by rw [nI_clamp (by omega)])] at J
    have hF := hF.keepS (zK.set (S := [pn_10]) (ws := ws_15) (q := pn_10) (e := (q999, zI4 E 6 (upd (upd (upd (upd (upd (upd (fun _ => 0) 0 0) 1 (nI an)) 2 20) 3 0) 4 (nI he)) 5 0))) (List.mem_singleton.mpr rfl)) (fun q9 hq9 => Or.inr ⟨_, _, (List.mem_singleton.mp hq9).symm ▸ G15_17, noL_I⟩)
    have hR := hR.keepS (zK.set (S := [pn_10]) (ws := ws_15) (q := pn_10) (e := (q999, zI4 E 6 (upd (upd (upd (upd (upd (upd (fun _ => 0) 0 0) 1 (nI an)) 2 20) 3 0) 4 (nI he)) 5 0))) (List.mem_singleton.mpr rfl)) (fun q9 hq9 => Or.inr ⟨_, _, (List.mem_singleton.mp hq9).symm ▸ G15_17, noL_I⟩)
    have hSN := hSN.keep (zK.set (S := [pn_10]) (ws := ws_15) (q := pn_10) (e := (q999, zI4 E 6 (upd (upd (upd (upd (upd (upd (fun _ => 0) 0 0) 1 (nI an)) 2 20) 3 0) 4 (nI he)) 5 0))) (List.mem_singleton.mpr rfl)) (fun r9 hr9 => by simp only [List.mem_cons, rg_mem, List.not_mem_nil, or_false, not_or]; omega)
    have hk := hk.step (zK.set (S := [pn_10]) (ws := ws_15) (q := pn_10) (e := (q999, zI4 E 6 (upd (upd (upd (upd (upd (upd (fun _ => 0) 0 0) 1 (nI an)) 2 20) 3 0) 4 (nI he)) 5 0))) (List.mem_singleton.mpr rfl)) (fun q9 a9 n9 f9 h8 h7 h9 => by simp only [List.mem_cons, rg_mem, List.not_mem_nil, or_false, not_or]; omega)
    have G16_0 := zset_ne (q := pn_10) (e' := (q999, zI4 E 6 (upd (upd (upd (upd (upd (upd (fun _ => 0) 0 0) 1 (nI an)) 2 20) 3 0) 4 (nI he)) 5 0))) (by omega) G15_0
    have G16_1 := zset_ne (q := pn_10) (e' := (q999, zI4 E 6 (upd (upd (upd (upd (upd (upd (fun _ => 0) 0 0) 1 (nI an)) 2 20) 3 0) 4 (nI he)) 5 0))) (by omega) G15_1
    have G16_2 := zset_ne (q := pn_10) (e' := (q999, zI4 E 6 (upd (upd (upd (upd (upd (upd (fun _ => 0) 0 0) 1 (nI an)) 2 20) 3 0) 4 (nI he)) 5 0))) (by omega) G15_2
    have G16_3 := zset_ne (q := pn_10) (e' := (q999, zI4 E 6 (upd (upd (upd (upd (upd (upd (fun _ => 0) 0 0) 1 (nI an)) 2 20) 3 0) 4 (nI he)) 5 0))) (by omega) G15_3
    have G16_4 := zset_ne (q := pn_10) (e' := (q999, zI4 E 6 (upd (upd (upd (upd (upd (upd (fun _ => 0) 0 0) 1 (nI an)) 2 20) 3 0) 4 (nI he)) 5 0))) (by omega) G15_4
    have G16_5 := zset_ne (q := pn_10) (e' := (q999, zI4 E 6 (upd (upd (upd (upd (upd (upd (fun _ => 0) 0 0) 1 (nI an)) 2 20) 3 0) 4 (nI he)) 5 0))) (by omega) G15_5
    have G16_6 := zset_ne (q := pn_10) (e' := (q999, zI4 E 6 (upd (upd (upd (upd (upd (upd (fun _ => 0) 0 0) 1 (nI an)) 2 20) 3 0) 4 (nI he)) 5 0))) (by omega) G15_6
    have G16_7 := zset_ne (q := pn_10) (e' := (q999, zI4 E 6 (upd (upd (upd (upd (upd (upd (fun _ => 0) 0 0) 1 (nI an)) 2 20) 3 0) 4 (nI he)) 5 0))) (by omega) G15_7
    have G16_8 := zset_ne (q := pn_10) (e' := (q999, zI4 E 6 (upd (upd (upd (upd (upd (upd (fun _ => 0) 0 0) 1 (nI an)) 2 20) 3 0) 4 (nI he)) 5 0))) (by omega) G15_8
    have G16_9 := zset_ne (q := pn_10) (e' := (q999, zI4 E 6 (upd (upd (upd (upd (upd (upd (fun _ => 0) 0 0) 1 (nI an)) 2 20) 3 0) 4 (nI he)) 5 0))) (by omega) G15_9
    have G16_10 := zset_ne (q := pn_10) (e' := (q999, zI4 E 6 (upd (upd (upd (upd (upd (upd (fun _ => 0) 0 0) 1 (nI an)) 2 20) 3 0) 4 (nI he)) 5 0))) (by omega) G15_10
    have G16_11 := zset_ne (q := pn_10) (e' := (q999, zI4 E 6 (upd (upd (upd (upd (upd (upd (fun _ => 0) 0 0) 1 (nI an)) 2 20) 3 0) 4 (nI he)) 5 0))) (by omega) G15_11
    have G16_12 := zset_ne (q := pn_10) (e' := (q999, zI4 E 6 (upd (upd (upd (upd (upd (upd (fun _ => 0) 0 0) 1 (nI an)) 2 20) 3 0) 4 (nI he)) 5 0))) (by omega) G15_12
    have G16_13 := zset_ne (q := pn_10) (e' := (q999, zI4 E 6 (upd (upd (upd (upd (upd (upd (fun _ => 0) 0 0) 1 (nI an)) 2 20) 3 0) 4 (nI he)) 5 0))) (by omega) G15_13
    have G16_14 := zset_ne (q := pn_10) (e' := (q999, zI4 E 6 (upd (upd (upd (upd (upd (upd (fun _ => 0) 0 0) 1 (nI an)) 2 20) 3 0) 4 (nI he)) 5 0))) (by omega) G15_14
    have G16_15 := zset_ne (q := pn_10) (e' := (q999, zI4 E 6 (upd (upd (upd (upd (upd (upd (fun _ => 0) 0 0) 1 (nI an)) 2 20) 3 0) 4 (nI he)) 5 0))) (by omega) G15_15
    have G16_16 := zset_ne (q := pn_10) (e' := (q999, zI4 E 6 (upd (upd (upd (upd (upd (upd (fun _ => 0) 0 0) 1 (nI an)) 2 20) 3 0) 4 (nI he)) 5 0))) (by omega) G15_16
    have G16_17 := zset_eq (e' := (q999, zI4 E 6 (upd (upd (upd (upd (upd (upd (fun _ => 0) 0 0) 1 (nI an)) 2 20) 3 0) 4 (nI he)) 5 0))) G15_17
    generalize hws16 : (ws_15.set pn_10 (q999, zI4 E 6 (upd (upd (upd (upd (upd (upd (fun _ => 0) 0 0) 1 (nI an)) 2 20) 3 0) 4 (nI he)) 5 0))) = ws_16 at J hk G16_0 G16_1 G16_2 G16_3 G16_4 G16_5 G16_6 G16_7 G16_8 G16_9 G16_10 G16_11 G16_12 G16_13 G16_14 G16_15 G16_16 G16_17 hF hR hSN
    refine z_cq J (z_rS (As := [.ref fe, .ref q999]) (rest := [.ref z]) X J (cX7_with_ok l E G16_13 G16_17 (fun j9 hj9 => (hSE.keepI hk j9 hj9).elim (fun a9 h9 => h9.elim (fun q9 h9 => h9.elim (fun f9 h9 => ⟨a9, q9, 6, f9, h9.1, h9.2.2.1⟩)))) hnf) (va_cwS 2 hts (goodIn_ext3 gL_law_X7_with) rfl rfl rfl (by decide +kernel) ⟨Nat.le_of_ble_eq_true rfl, Nat.le_of_ble_eq_true rfl⟩) rfl hl.1 rfl (Nat.le_of_ble_eq_true rfl) dL_law_1056 ⟨by show _ ≤ 1106048; omega, by show _ ≤ 5783625; omega⟩) (fun r1056 ws_17 H locs hp9 J => ?_)
    obtain ⟨k17, ⟨nq_17, hlen17, N17_0, e_r1056⟩⟩ := hp9
    have hF := hF.keepS k17 (fun q9 hq9 => absurd hq9 List.not_mem_nil)
    have hR := hR.keepS k17 (fun q9 hq9 => absurd hq9 List.not_mem_nil)
    have hSN := hSN.keep k17 (fun _ _ => List.not_mem_nil)
    have lp17 := hk.1
    have b_17_0 := zlt G16_0
    have b_17_1 := zlt G16_1
    have b_17_2 := zlt G16_2
    have b_17_3 := zlt G16_3
    have b_17_4 := zlt G16_4
    have b_17_5 := zlt G16_5
    have b_17_6 := zlt G16_6
    have b_17_7 := zlt G16_7
    have b_17_8 := zlt G16_8
    have b_17_9 := zlt G16_9
    have b_17_10 := zlt G16_10
    have b_17_11 := zlt G16_11
    have b_17_12 := zlt G16_12
    have b_17_13 := zlt G16_13
    have b_17_14 := zlt G16_14
    have b_17_15 := zlt G16_15
    have b_17_16 := zlt G16_16
    have b_17_17 := zlt G16_17
    have hk := hk.step k17 (fun _ _ _ _ _ _ _ => List.not_mem_nil)
    have G17_0 := k17.2 0 _ List.not_mem_nil G16_0
    have G17_1 := k17.2 1 _ List.not_mem_nil G16_1
    have G17_2 := k17.2 2 _ List.not_mem_nil G16_2
    have G17_3 := k17.2 3 _ List.not_mem_nil G16_3
    have G17_4 := k17.2 4 _ List.not_mem_nil G16_4
    have G17_5 := k17.2 5 _ List.not_mem_nil G16_5
    have G17_6 := k17.2 6 _ List.not_mem_nil G16_6
    have G17_7 := k17.2 7 _ List.not_mem_nil G16_7
    have G17_8 := k17.2 8 _ List.not_mem_nil G16_8
    have G17_9 := k17.2 9 _ List.not_mem_nil G16_9
    have G17_10 := k17.2 10 _ List.not_mem_nil G16_10
    have G17_11 := k17.2 11 _ List.not_mem_nil G16_11
    have G17_12 := k17.2 14 _ List.not_mem_nil G16_12
    have G17_13 := k17.2 qf _ List.not_mem_nil G16_13
    have G17_14 := k17.2 qr _ List.not_mem_nil G16_14
    have G17_15 := k17.2 pn_1 _ List.not_mem_nil G16_15
    have G17_16 := k17.2 pn_8_0 _ List.not_mem_nil G16_16
    have G17_17 := k17.2 pn_10 _ List.not_mem_nil G16_17
    obtain ⟨pn_17_0, hpn_17_0⟩ : ∃ z : Nat, z = ws_16.length + 0 := ⟨_, rfl⟩
    rw [← hpn_17_0] at N17_0
    subst e_r1056
    refine W.eq (g2 := F0 m 1059 ls [.ref nq_17, .ref z]) rfl ?_
    refine lv_iload hx hb dL_law_1059 (lv_at hl 7 rfl) ?_
    refine lv_iload hx hb dL_law_1061 (lv_at hl 8 rfl) ?_
    refine z_ci J (z_rV (As := [.ref nq_17, .int (nI wd), .int (nI sg)]) (rest := []) (ci := 8) (q0 := 11) X J (cX7_tried_ok l E (fa := (fput fa nf 0 (nI an) 20 0 (nI he) 0)) G17_11 G17_12 N17_0 G17_14 hSN ((hSE.keepI hk).add (fb := fput fa nf 0 (nI an) 20 0 (nI he) 0) G17_17 (by omega) (fun t9 ht9 => f6_put t9 ht9) (fun j9 hj9 => fput_lo hj9)) (by omega) (okF_put hok (co := 0) (ro := an) (le := 20) (he := he) (ga := 0) rfl rfl rfl rfl rfl (by decide) (by omega) (by omega) (by decide) (Or.inl ⟨rfl, by omega, by omega⟩)) (hSR.keepI hk) hnr hor hw4 hRB (nI_BI2 (lo := 1) (hi := 9) (by omega) (by omega) (by omega)) hu9) (cwV 3 hts (goodIn_ext3 gL_law_X7_tried) rfl rfl rfl (by decide +kernel) ⟨Nat.le_of_ble_eq_true rfl, Nat.le_of_ble_eq_true rfl⟩) G17_11 rfl rfl rfl hl.1 rfl (Nat.le_of_ble_eq_true rfl) dL_law_1063 ⟨by show _ ≤ 1106048; omega, by show _ ≤ 5783625; omega⟩) (fun r1063 ws_18 H locs hp9 J => ?_)
    obtain ⟨k18, e_r1063⟩ := hp9
    have hF := hF.keepS k18 (fun q9 hq9 => absurd hq9 List.not_mem_nil)
    have hR := hR.keepS k18 (fun q9 hq9 => absurd hq9 List.not_mem_nil)
    have hSN := hSN.keep k18 (fun _ _ => List.not_mem_nil)
    have hk := hk.step k18 (fun _ _ _ _ _ _ _ => List.not_mem_nil)
    have G18_0 := k18.2 0 _ List.not_mem_nil G17_0
    have G18_1 := k18.2 1 _ List.not_mem_nil G17_1
    have G18_2 := k18.2 2 _ List.not_mem_nil G17_2
    have G18_3 := k18.2 3 _ List.not_mem_nil G17_3
    have G18_4 := k18.2 4 _ List.not_mem_nil G17_4
    have G18_5 := k18.2 5 _ List.not_mem_nil G17_5
    have G18_6 := k18.2 6 _ List.not_mem_nil G17_6
    have G18_7 := k18.2 7 _ List.not_mem_nil G17_7
    have G18_8 := k18.2 8 _ List.not_mem_nil G17_8
    have G18_9 := k18.2 9 _ List.not_mem_nil G17_9
    have G18_10 := k18.2 10 _ List.not_mem_nil G17_10
    have G18_11 := k18.2 11 _ List.not_mem_nil G17_11
    have G18_12 := k18.2 14 _ List.not_mem_nil G17_12
    have G18_13 := k18.2 qf _ List.not_mem_nil G17_13
    have G18_14 := k18.2 qr _ List.not_mem_nil G17_14
    have G18_15 := k18.2 pn_1 _ List.not_mem_nil G17_15
    have G18_16 := k18.2 pn_8_0 _ List.not_mem_nil G17_16
    have G18_17 := k18.2 pn_10 _ List.not_mem_nil G17_17
    have G18_18 := k18.2 pn_17_0 _ List.not_mem_nil N17_0
    subst e_r1063
    refine W.eq (g2 := F0 m 1066 ls [.int (advK (advD (nI wd)) fa nf (nI he) (nI sg) sup (nI wd) sn rd ri lim nr an)]) (congrArg (fun z9 : Int32 => F0 m 1066 ls [.int z9]) (show (allB (hsS (nI sg) sup (hgS (fput fa nf 0 (nI an) 20 0 (nI he) 0) (-1) (nf + 1)).1 (hgS (fput fa nf 0 (nI an) 20 0 (nI he) 0) (-1) (nf + 1)).2 (nI wd) sn 4).2.1 rd ri lim nr : Int32) = advK (advD (nI wd)) fa nf (nI he) (nI sg) sup (nI wd) sn rd ri lim nr an from (adv_t0 hnf hD))) ?_
    refine lv_istore (lv' := [(26, .int (advK (advD (nI wd)) fa nf (nI he) (nI sg) sup (nI wd) sn rd ri lim nr an)), (25, .int (nI an)), (24, .int (advK (advD (nI wd)) fa nf (nI he) (nI sg) sup (nI wd) sn rd ri lim nr ad)), (0, .ref E.2.2.2.2.1), (1, .ref x), (2, .ref z), (3, .int (nI t)), (4, .int xv), (5, .int (nI wd)), (6, .int (nI sg)), (7, .int (nI hh)), (20, .int (nI he)), (21, .int (nI ad)), (22, .int hv), (23, .int 0)]) hx hb dL_law_1066 hl (by decide) rfl (fun ls hl => ?_)
    refine lv_iload hx hb dL_law_1068 (lv_at hl 0 rfl) ?_
    refine lv_iload hx hb dL_law_1070 (lv_at hl 2 rfl) ?_
    refine lv_icmp_lt (tgt := 1089) hx hb dL_law_1072 (by decide) (fun cz1072 => by exact (hadv.1 an (by omega) cz1072).elim) (fun cz1072 => ?_)
    refine lv_iload hx hb dL_law_1075 (lv_at hl 0 rfl) ?_
    refine lv_iload hx hb dL_law_1077 (lv_at hl 2 rfl) ?_
    refine lv_icmp_ne (tgt := 1091) hx hb dL_law_1079 (by decide) (fun cz1079 => ?_) (fun cz1079 => ?_)
    · refine W.widen (k := cells + 13400) (n := slots + 27400) (by omega) (by omega) ?_
      exact kk _ H locs _ ⟨G18_0, G18_1, G18_2, G18_3, G18_4, G18_5, G18_6, G18_7, G18_8, G18_9, G18_10, G18_11, G18_12, G18_13, G18_14, ⟨by omega, by omega⟩, hF, hR, hSep, (hSE.keepI hk), (hSR.keepI hk), hSN, hnf, hnr, hok, hor, hRB, hu9, hlm, (Nat.le_trans hln hk.1)⟩ J (lv_sub hl [3, 4, 5, 6, 7, 8, 9, 10, 13] rfl)
    · refine lv_iload hx hb dL_law_1082 (lv_at hl 1 rfl) ?_
      refine lv_iload hx hb dL_law_1084 (lv_at hl 12 rfl) ?_
      refine lv_icmp_ge (tgt := 1091) hx hb dL_law_1086 (by decide) (fun cz1086 => ?_) (fun cz1086 => by exact (Int32.lt_irrefl (i32lteq (hadv.2 an (Nat.lt_of_not_le (fun q9 => cz1086 (nI_le q9 (by omega))))) cz1079)).elim)
      refine W.widen (k := cells + 13400) (n := slots + 27400) (by omega) (by omega) ?_
      exact kk _ H locs _ ⟨G18_0, G18_1, G18_2, G18_3, G18_4, G18_5, G18_6, G18_7, G18_8, G18_9, G18_10, G18_11, G18_12, G18_13, G18_14, ⟨by omega, by omega⟩, hF, hR, hSep, (hSE.keepI hk), (hSR.keepI hk), hSN, hnf, hnr, hok, hor, hRB, hu9, hlm, (Nat.le_trans hln hk.1)⟩ J (lv_sub hl [3, 4, 5, 6, 7, 8, 9, 10, 13] rfl)
