set_option maxHeartbeats 4000000 in
set_option maxRecDepth 100000 in
theorem law_a {p : Program} {l : Launch} (hflags : l.flags = flags0) {e : Env} {s : State} {m : MethodId} {below : List Frame} {meth : Method} {c : Code} (E : zG) (X : zC E p m c cL_law 30 s #[.ref E.2.2.2.2.1] wsL_law2 RL) (hRz : zR s) (hE1 : ¬ zA E E.2.2.1) (hL : E.2.2.2.2.2.1 ≤ 260) {QQ : State → Prop} {ws : va_W} {x fl rl wh gr gra tr tra sc ha va z sa : Nat} {gs : Nat → Option Nat} {t : Nat} {cells slots : Nat} {H : Heap} {locs : List Loc} {ls : Array Slot} (ht5 : t < 5) (hX : LW E x fl rl wh gr gra tr tra sc ha va z sa gs ws) (J : zJ E ws s H locs) (hl : lv_has ls 30 [(0, .ref E.2.2.2.2.1), (1, .ref x), (2, .ref z), (3, .int (nI t))]) (hc9 : cells + 39860 ≤ 1106048) (hs9 : slots + 76900 ≤ 5783625)
    (kk : ∀ (xv : Int32) (ws' : va_W) (H' : Heap) (locs' : List Loc) (ls' : Array Slot), LW E x fl rl wh gr gra tr tra sc ha va z sa gs ws' → zJ E ws' s H' locs' → lv_has ls' 30 [(0, .ref E.2.2.2.2.1), (1, .ref x), (2, .ref z), (3, .int (nI t)), (4, .int xv)] → W p l e room_1 s m #[.ref E.2.2.2.2.1] below meth c H' locs' (cells + 39860) (slots + 76900) QQ (F0 m 55 ls' [])) :
    W p l e room_1 s m #[.ref E.2.2.2.2.1] below meth c H locs cells slots QQ (F0 m 27 ls []) := by
  have hLW := hX
  have hx := X.1.1
  have hb := X.1.2.1
  have hown := X.1.2.2.2.1
  have hts := X.1.2.2.2.2
  have hk : zKi E ws ws := zKi.rf
  refine lv_aload_n hx hb dL_law_27 rfl (lv_at hl 0 rfl) ?_
  refine lv_iload_n hx hb dL_law_28 rfl (lv_at hl 3 rfl) ?_
  refine lv_iconst (v := nI 3) hx hb dL_law_29 rfl ?_
  refine lv_iadd hx hb dL_law_30 ?_
  refine W.eq (g2 := F0 m 31 ls [.int (nI (t + 3)), .ref E.2.2.2.2.1]) (congrArg (fun z9 : Int32 => F0 m 31 ls [.int z9, .ref E.2.2.2.2.1]) (show ((nI t) + (nI 3) : Int32) = nI (t + 3) from (nI_add t 3))) ?_
  refine z_cr (z_rS (As := [.ref E.2.2.2.2.1, .int (nI (t + 3))]) (rest := []) X J (cL_cell_ok l E (by first | assumption | omega | decide) (by first | assumption | omega | decide)) (va_cwS 2 hts (goodIn_ext3 gL_law_L_cell) rfl rfl rfl (by decide +kernel) ⟨Nat.le_of_ble_eq_true rfl, Nat.le_of_ble_eq_true rfl⟩) rfl hl.1 rfl (Nat.le_of_ble_eq_true rfl) dL_law_31 ⟨by show _ ≤ 1106048; omega, by show _ ≤ 5783625; omega⟩) (fun r31 e_r31 => ?_)
  subst e_r31
  refine lv_iconst (v := 1) hx hb dL_law_34 (by decide) ?_
  refine lv_ishr hx hb dL_law_35 ?_
  refine lv_bipush (v := 47) hx hb dL_law_36 (by decide) ?_
  refine lv_iload_n hx hb dL_law_38 rfl (lv_at hl 3 rfl) ?_
  refine lv_imul hx hb dL_law_39 ?_
  refine lv_iadd hx hb dL_law_40 ?_
  refine lv_topi (fun xv e_xv => ?_)
  refine lv_istore (lv' := [(4, .int xv), (0, .ref E.2.2.2.2.1), (1, .ref x), (2, .ref z), (3, .int (nI t))]) hx hb dL_law_41 hl (by decide) rfl (fun ls hl => ?_)
  refine lv_aload_n hx hb dL_law_43 rfl (lv_at hl 2 rfl) ?_
  refine lv_aload_n hx hb dL_law_44 rfl (lv_at hl 3 rfl) ?_
  refine lv_iload hx hb dL_law_45 (lv_at hl 0 rfl) ?_
  refine z_ci J (z_rYS (As := [.ref x, .ref z, .int xv]) (rest := []) X hRz J (cL_act_ok l hflags E hLW hE1) (va_cwS 3 hts gL_law2_act2 rfl rfl rfl (by decide +kernel) ⟨Nat.le_of_ble_eq_true rfl, Nat.le_of_ble_eq_true rfl⟩) rfl hl.1 rfl (Nat.le_of_ble_eq_true rfl) dL_law_47 ⟨by show _ ≤ 1106048; omega, by show _ ≤ 5783625; omega⟩) (fun r47 ws_1 H locs hp9 J => ?_)
  obtain ⟨k1, hLW_1, e_r47⟩ := hp9
  have hk := hk.tr k1
  have hLW := hLW_1
  subst e_r47
  refine lv_if_ne (tgt := 55) hx hb dL_law_50 (by decide) (fun cz50 => ?_) (fun cz50 => by exact absurd cz50 (by decide))
  refine W.widen (k := cells + 39860) (n := slots + 76900) (by omega) (by omega) ?_
  exact kk xv _ H locs _ hLW J (lv_sub hl [1, 2, 3, 4, 0] rfl)
set_option maxHeartbeats 4000000 in
set_option maxRecDepth 100000 in
theorem law_b {p : Program} {l : Launch} (hflags : l.flags = flags0) {e : Env} {s : State} {m : MethodId} {below : List Frame} {meth : Method} {c : Code} (E : zG) (X : zC E p m c cL_law 30 s #[.ref E.2.2.2.2.1] wsL_law2 RL) (hRz : zR s) (hE1 : ¬ zA E E.2.2.1) (hL : E.2.2.2.2.2.1 ≤ 260) {QQ : State → Prop} {ws : va_W} {x fl rl wh gr gra tr tra sc ha va z sa : Nat} {gs : Nat → Option Nat} {mc1 mc2 lim sup off plo hrs : Int32} {ea eb nf nr fe qf ro qr : Nat} {fa rd ri sn t9 hf gf : Nat → Int32} {g gq : Nat → Option Nat} {t : Nat} {xv : Int32} {cells slots : Nat} {H : Heap} {locs : List Loc} {ls : Array Slot} (hX : LX E x fl rl wh gr gra tr tra sc ha va z sa gs mc1 mc2 lim sup off plo hrs ea eb nf nr fe qf ro qr fa rd ri sn t9 hf gf g gq ws) (J : zJ E ws s H locs) (hl : lv_has ls 30 [(0, .ref E.2.2.2.2.1), (1, .ref x), (2, .ref z), (3, .int (nI t)), (4, .int xv)]) (hc9 : cells + 150 ≤ 1106048) (hs9 : slots + 1000 ≤ 5783625)
    (kk : ∀ (wd : Nat) (sg : Nat) (hh : Nat) (ws' : va_W) (H' : Heap) (locs' : List Loc) (ls' : Array Slot), LX E x fl rl wh gr gra tr tra sc ha va z sa gs mc1 mc2 lim sup off plo hrs ea eb nf nr fe qf ro qr fa rd ri sn t9 hf gf g gq ws' → (wd < 4) → (1 ≤ sg) → (sg ≤ 9) → (1 ≤ hh) → (hh ≤ 6) → zJ E ws' s H' locs' → lv_has ls' 30 [(0, .ref E.2.2.2.2.1), (1, .ref x), (2, .ref z), (3, .int (nI t)), (4, .int xv), (5, .int (nI wd)), (6, .int (nI sg)), (7, .int (nI hh)), (8, .int sup), (9, .int (sumA sn)), (10, .int off), (11, .int (hmS fa nf))] → W p l e room_1 s m #[.ref E.2.2.2.2.1] below meth c H' locs' (cells + 150) (slots + 1000) QQ (F0 m 150 ls' [])) :
    W p l e room_1 s m #[.ref E.2.2.2.2.1] below meth c H locs cells slots QQ (F0 m 55 ls []) := by
  obtain ⟨Fa0, Fa1, Fa2, Fa3, Fa4, Fa5, Fa6, Fa7, Fa8, Fa9, Fa10, Fa11, Fa12, Fa13, Fa14, hql, hF, hR, hSep, hSE, hSR, hSN, hnf, hnr, hok, hor, hRB, hu9, hlm, hln⟩ := hX
  obtain ⟨hqf, hqr⟩ := hql
  have hbl := hSN.len
  have bq13 := zlt Fa13
  have bq14 := zlt Fa14
  have nr13 := hSN.no Fa13 rfl
  have nr14 := hSN.no Fa14 rfl
  have hhR := hgS_RB (wo := -1) nf hok
  have hx := X.1.1
  have hb := X.1.2.1
  have hown := X.1.2.2.2.1
  have hts := X.1.2.2.2.2
  have hk : zKi E ws ws := zKi.rf
  refine lv_iload hx hb dL_law_55 (lv_at hl 4 rfl) ?_
  refine lv_iconst (v := 3) hx hb dL_law_57 (by decide) ?_
  refine lv_ishr hx hb dL_law_58 ?_
  refine lv_iconst (v := nI 4) hx hb dL_law_59 rfl ?_
  obtain ⟨wd, hwd⟩ : ∃ q9 : Nat, q9 = bln (xv >>> (3 &&& 31)) (4) := ⟨_, rfl⟩
  have bwd := bln_lt (v := xv >>> (3 &&& 31)) (n := 4) (by omega)
  refine z_cr (z_rS (As := [.int (xv >>> (3 &&& 31)), .int (nI 4)]) (rest := []) X J (cL_below_ok l E (by first | assumption | omega | decide) (by first | assumption | omega | decide)) (va_cwS 2 hts (goodIn_ext3 gL_law_L_below) rfl rfl rfl (by decide +kernel) ⟨Nat.le_of_ble_eq_true rfl, Nat.le_of_ble_eq_true rfl⟩) rfl hl.1 rfl (Nat.le_of_ble_eq_true rfl) dL_law_60 ⟨by show _ ≤ 1106048; omega, by show _ ≤ 5783625; omega⟩) (fun r60 e_r60 => ?_)
  subst e_r60
  refine W.eq (g2 := F0 m 63 ls [.int (nI wd)]) (congrArg (fun z9 : Int32 => F0 m 63 ls [.int z9]) (show (nI (bln (xv >>> (3 &&& 31)) 4) : Int32) = nI wd from (by rw [hwd]))) ?_
  refine lv_istore (lv' := [(5, .int (nI wd)), (0, .ref E.2.2.2.2.1), (1, .ref x), (2, .ref z), (3, .int (nI t)), (4, .int xv)]) hx hb dL_law_63 hl (by decide) rfl (fun ls hl => ?_)
  refine lv_iconst (v := nI 1) hx hb dL_law_65 rfl ?_
  refine lv_iload hx hb dL_law_66 (lv_at hl 5 rfl) ?_
  refine lv_iconst (v := 5) hx hb dL_law_68 (by decide) ?_
  refine lv_ishr hx hb dL_law_69 ?_
  refine lv_bipush (v := nI 9) hx hb dL_law_70 (by decide) ?_
  refine z_cr (z_rS (As := [.int (xv >>> (5 &&& 31)), .int (nI 9)]) (rest := [.int (nI 1)]) X J (cL_below_ok l E (by first | assumption | omega | decide) (by first | assumption | omega | decide)) (va_cwS 2 hts (goodIn_ext3 gL_law_L_below) rfl rfl rfl (by decide +kernel) ⟨Nat.le_of_ble_eq_true rfl, Nat.le_of_ble_eq_true rfl⟩) rfl hl.1 rfl (Nat.le_of_ble_eq_true rfl) dL_law_72 ⟨by show _ ≤ 1106048; omega, by show _ ≤ 5783625; omega⟩) (fun r72 e_r72 => ?_)
  subst e_r72
  obtain ⟨sg, hsg⟩ : ∃ q9 : Nat, q9 = 1 + bln (xv >>> (5 &&& 31)) 9 := ⟨_, rfl⟩
  have bsg := bln_lt (v := xv >>> (5 &&& 31)) (n := 9) (by decide)
  refine lv_iadd hx hb dL_law_75 ?_
  refine W.eq (g2 := F0 m 76 ls [.int (nI sg)]) (congrArg (fun z9 : Int32 => F0 m 76 ls [.int z9]) (show ((nI 1) + (nI (bln (xv >>> (5 &&& 31)) 9)) : Int32) = nI sg from (by rw [nI_add, hsg]))) ?_
  refine lv_istore (lv' := [(6, .int (nI sg)), (5, .int (nI wd)), (0, .ref E.2.2.2.2.1), (1, .ref x), (2, .ref z), (3, .int (nI t)), (4, .int xv)]) hx hb dL_law_76 hl (by decide) rfl (fun ls hl => ?_)
  refine lv_iconst (v := nI 1) hx hb dL_law_78 rfl ?_
  refine lv_iload hx hb dL_law_79 (lv_at hl 6 rfl) ?_
  refine lv_bipush (v := 6) hx hb dL_law_81 (by decide) ?_
  refine lv_ishr hx hb dL_law_83 ?_
  refine lv_bipush (v := nI 6) hx hb dL_law_84 (by decide) ?_
  refine z_cr (z_rS (As := [.int (xv >>> (6 &&& 31)), .int (nI 6)]) (rest := [.int (nI 1)]) X J (cL_below_ok l E (by first | assumption | omega | decide) (by first | assumption | omega | decide)) (va_cwS 2 hts (goodIn_ext3 gL_law_L_below) rfl rfl rfl (by decide +kernel) ⟨Nat.le_of_ble_eq_true rfl, Nat.le_of_ble_eq_true rfl⟩) rfl hl.1 rfl (Nat.le_of_ble_eq_true rfl) dL_law_86 ⟨by show _ ≤ 1106048; omega, by show _ ≤ 5783625; omega⟩) (fun r86 e_r86 => ?_)
  subst e_r86
  obtain ⟨hh, hhh⟩ : ∃ q9 : Nat, q9 = 1 + bln (xv >>> (6 &&& 31)) 6 := ⟨_, rfl⟩
  have bhh := bln_lt (v := xv >>> (6 &&& 31)) (n := 6) (by decide)
  refine lv_iadd hx hb dL_law_89 ?_
  refine W.eq (g2 := F0 m 90 ls [.int (nI hh)]) (congrArg (fun z9 : Int32 => F0 m 90 ls [.int z9]) (show ((nI 1) + (nI (bln (xv >>> (6 &&& 31)) 6)) : Int32) = nI hh from (by rw [nI_add, hhh]))) ?_
  refine lv_istore (lv' := [(7, .int (nI hh)), (6, .int (nI sg)), (5, .int (nI wd)), (0, .ref E.2.2.2.2.1), (1, .ref x), (2, .ref z), (3, .int (nI t)), (4, .int xv)]) hx hb dL_law_90 hl (by decide) rfl (fun ls hl => ?_)
  refine lv_aload_n hx hb dL_law_92 rfl (lv_at hl 4 rfl) ?_
  refine lv_bipush (v := nI 9) hx hb dL_law_93 (by decide) ?_
  refine z_xi J (z_yV (As := [.int (nI 9)]) (rest := []) (ci := 7) (q0 := 0) X hRz J (cX6_count_ok l hflags E Fa0 Fa1 Fa2 Fa3 Fa4 Fa5 hR (by first | assumption | omega | decide)) (cwV 1 hts (goodIn_ext3 gL_law_X6_count) rfl rfl rfl (by decide +kernel) ⟨Nat.le_of_ble_eq_true rfl, Nat.le_of_ble_eq_true rfl⟩) Fa0 rfl rfl rfl hl.1 rfl (Nat.le_of_ble_eq_true rfl) dL_law_95 ⟨by show _ ≤ 1106048; omega, by show _ ≤ 5783625; omega⟩) (fun nm ce q9 H locs hp9 J h1 h2 h3 => ?_) (fun r95 ws_1 H locs hp9 J => ?_)
  · exact False.elim (by exact absurd hp9.1 (by rw [show kCount (nI 9) = 0 from kCount_ok (by decide)]; decide))
  obtain ⟨rfl, e_r95⟩ := hp9
  refine W.eq (g2 := F0 m 98 ls [.int sup]) (congrArg (fun z9 : Int32 => F0 m 98 ls [.int z9]) (show (r95 : Int32) = sup from (e_r95.2.trans cnt_9))) ?_
  refine lv_istore (lv' := [(8, .int sup), (7, .int (nI hh)), (6, .int (nI sg)), (5, .int (nI wd)), (0, .ref E.2.2.2.2.1), (1, .ref x), (2, .ref z), (3, .int (nI t)), (4, .int xv)]) hx hb dL_law_98 hl (by decide) rfl (fun ls hl => ?_)
  refine lv_aload_n hx hb dL_law_100 rfl (lv_at hl 5 rfl) ?_
  refine lv_iconst (v := nI 2) hx hb dL_law_101 rfl ?_
  refine z_xi J (z_yV (As := [.int (nI 2)]) (rest := []) (ci := 7) (q0 := 0) X hRz J (cX6_count_ok l hflags E Fa0 Fa1 Fa2 Fa3 Fa4 Fa5 hR (by first | assumption | omega | decide)) (cwV 1 hts (goodIn_ext3 gL_law_X6_count) rfl rfl rfl (by decide +kernel) ⟨Nat.le_of_ble_eq_true rfl, Nat.le_of_ble_eq_true rfl⟩) Fa0 rfl rfl rfl hl.1 rfl (Nat.le_of_ble_eq_true rfl) dL_law_102 ⟨by show _ ≤ 1106048; omega, by show _ ≤ 5783625; omega⟩) (fun nm ce q9 H locs hp9 J h1 h2 h3 => ?_) (fun r102 ws_2 H locs hp9 J => ?_)
  · exact False.elim (by exact absurd hp9.1 (by rw [show kCount (nI 2) = 0 from kCount_ok (by decide)]; decide))
  obtain ⟨rfl, e_r102⟩ := hp9
  refine W.eq (g2 := F0 m 105 ls [.int (sumA sn)]) (congrArg (fun z9 : Int32 => F0 m 105 ls [.int z9]) (show (r102 : Int32) = sumA sn from (e_r102.2.trans cnt_2))) ?_
  refine lv_istore (lv' := [(9, .int (sumA sn)), (8, .int sup), (7, .int (nI hh)), (6, .int (nI sg)), (5, .int (nI wd)), (0, .ref E.2.2.2.2.1), (1, .ref x), (2, .ref z), (3, .int (nI t)), (4, .int xv)]) hx hb dL_law_105 hl (by decide) rfl (fun ls hl => ?_)
  refine lv_aload_n hx hb dL_law_107 rfl (lv_at hl 6 rfl) ?_
  refine lv_iconst (v := nI 5) hx hb dL_law_108 rfl ?_
  refine z_xi J (z_yV (As := [.int (nI 5)]) (rest := []) (ci := 7) (q0 := 0) X hRz J (cX6_count_ok l hflags E Fa0 Fa1 Fa2 Fa3 Fa4 Fa5 hR (by first | assumption | omega | decide)) (cwV 1 hts (goodIn_ext3 gL_law_X6_count) rfl rfl rfl (by decide +kernel) ⟨Nat.le_of_ble_eq_true rfl, Nat.le_of_ble_eq_true rfl⟩) Fa0 rfl rfl rfl hl.1 rfl (Nat.le_of_ble_eq_true rfl) dL_law_109 ⟨by show _ ≤ 1106048; omega, by show _ ≤ 5783625; omega⟩) (fun nm ce q9 H locs hp9 J h1 h2 h3 => ?_) (fun r109 ws_3 H locs hp9 J => ?_)
  · exact False.elim (by exact absurd hp9.1 (by rw [show kCount (nI 5) = 0 from kCount_ok (by decide)]; decide))
  obtain ⟨rfl, e_r109⟩ := hp9
  refine W.eq (g2 := F0 m 112 ls [.int off]) (congrArg (fun z9 : Int32 => F0 m 112 ls [.int z9]) (show (r109 : Int32) = off from (e_r109.2.trans cnt_5))) ?_
  refine lv_istore (lv' := [(10, .int off), (9, .int (sumA sn)), (8, .int sup), (7, .int (nI hh)), (6, .int (nI sg)), (5, .int (nI wd)), (0, .ref E.2.2.2.2.1), (1, .ref x), (2, .ref z), (3, .int (nI t)), (4, .int xv)]) hx hb dL_law_112 hl (by decide) rfl (fun ls hl => ?_)
  refine lv_iconst (v := hmS fa 0) hx hb dL_law_114 rfl ?_
  refine lv_istore (lv' := [(11, .int (hmS fa 0)), (10, .int off), (9, .int (sumA sn)), (8, .int sup), (7, .int (nI hh)), (6, .int (nI sg)), (5, .int (nI wd)), (0, .ref E.2.2.2.2.1), (1, .ref x), (2, .ref z), (3, .int (nI t)), (4, .int xv)]) hx hb dL_law_115 hl (by decide) rfl (fun ls hl => ?_)
  refine lv_iconst (v := nI 0) hx hb dL_law_117 rfl ?_
  refine lv_istore (lv' := [(12, .int (nI 0)), (11, .int (hmS fa 0)), (10, .int off), (9, .int (sumA sn)), (8, .int sup), (7, .int (nI hh)), (6, .int (nI sg)), (5, .int (nI wd)), (0, .ref E.2.2.2.2.1), (1, .ref x), (2, .ref z), (3, .int (nI t)), (4, .int xv)]) hx hb dL_law_118 hl (by decide) rfl (fun ls hl => ?_)
  have loop_120 : ∀ (k9 f : Nat), f + k9 = nf → ∀ (wl120 : va_W) (H : Heap) (locs : List Loc) (ls : Array Slot), zKi E ws wl120 → wl120[0]? = some (x, .inr (7, [.ref fl, .ref rl, .ref wh, .ref gr, .ref tr, .ref sc, .int lim, .int sup, .int off, .int plo, .int hrs])) → wl120[1]? = some (fl, .inr (0, [.int mc1, .ref ea, .int (nI nf)])) → wl120[2]? = some (rl, .inr (0, [.int mc2, .ref eb, .int (nI nr)])) → wl120[3]? = some (wh, .inr (5, [.int (0 * 20 + 0), .int (nI 400), .int 0])) → wl120[4]? = some (gr, .inr (2, [.ref gra])) → wl120[5]? = some (gra, zI4 E 400 sn) → wl120[6]? = some (tr, .inr (2, [.ref tra])) → wl120[7]? = some (tra, zI4 E 400 t9) → wl120[8]? = some (sc, .inr (4, [.ref ha, .ref va])) → wl120[9]? = some (ha, zI4 E 400 hf) → wl120[10]? = some (va, zI4 E 400 gf) → wl120[11]? = some (z, .inr (8, [.ref fe, .ref ro, .ref sa, .int lim, .int sup, .int off, .int plo, .int hrs])) → wl120[14]? = some (sa, zA4 E 20 gs) → wl120[qf]? = some (fe, zA4 E nf g) → wl120[qr]? = some (ro, zA4 E nr gq) → FS E wl120 fa ea nf → RS E wl120 rd ri eb nr → SN E wl120 15 gs sn → zJ E wl120 s H locs → lv_has ls 30 [(12, .int (nI f)), (11, .int (hmS fa f)), (10, .int off), (9, .int (sumA sn)), (8, .int sup), (7, .int (nI hh)), (6, .int (nI sg)), (5, .int (nI wd)), (0, .ref E.2.2.2.2.1), (1, .ref x), (2, .ref z), (3, .int (nI t)), (4, .int xv)] → W p l e room_1 s m #[.ref E.2.2.2.2.1] below meth c H locs (cells + 18 + 12 * f) (slots + 120 + 80 * f) QQ (F0 m 120 ls []) := by
    intro k9
    induction k9 with
    | zero =>
      intro f hik wl120 H locs ls hk L120_0 L120_1 L120_2 L120_3 L120_4 L120_5 L120_6 L120_7 L120_8 L120_9 L120_10 L120_11 L120_12 L120_13 L120_14 hF hR hSN J hl
      obtain rfl : nf = f := by omega
      refine lv_iload hx hb dL_law_120 (lv_at hl 0 rfl) ?_
      refine lv_aload_n hx hb dL_law_122 rfl (lv_at hl 9 rfl) ?_
      refine lv_iconst (v := nI 0) hx hb dL_law_123 rfl ?_
      refine z_xi J (z_yV (As := [.int (nI 0)]) (rest := [.int (nI nf)]) (ci := 7) (q0 := 0) X hRz J (cX6_count_ok l hflags E L120_0 L120_1 L120_2 L120_3 L120_4 L120_5 hR (by first | assumption | omega | decide)) (cwV 1 hts (goodIn_ext3 gL_law_X6_count) rfl rfl rfl (by decide +kernel) ⟨Nat.le_of_ble_eq_true rfl, Nat.le_of_ble_eq_true rfl⟩) L120_0 rfl rfl rfl hl.1 rfl (Nat.le_of_ble_eq_true rfl) dL_law_124 ⟨by show _ ≤ 1106048; omega, by show _ ≤ 5783625; omega⟩) (fun nm ce q9 H locs hp9 J h1 h2 h3 => ?_) (fun r124 ws_4 H locs hp9 J => ?_)
      · exact False.elim (by exact absurd hp9.1 (by rw [show kCount (nI 0) = 0 from kCount_ok (by decide)]; decide))
      obtain ⟨rfl, e_r124⟩ := hp9
      refine W.eq (g2 := F0 m 127 ls [.int (nI nf), .int (nI nf)]) (congrArg (fun z9 : Int32 => F0 m 127 ls [.int z9, .int (nI nf)]) (show (r124 : Int32) = nI nf from (e_r124.2.trans cnt_0))) ?_
      refine lv_icmp_ge (tgt := 150) hx hb dL_law_127 (by decide) (fun cz127 => ?_) (fun cz127 => by exact (cz127 (nI_le (Nat.le_refl _) (by omega))).elim)
      refine W.widen (k := cells + 150) (n := slots + 1000) (by omega) (by omega) ?_
      exact kk wd sg hh _ H locs _ ⟨L120_0, L120_1, L120_2, L120_3, L120_4, L120_5, L120_6, L120_7, L120_8, L120_9, L120_10, L120_11, L120_12, L120_13, L120_14, ⟨by omega, by omega⟩, hF, hR, hSep, (hSE.keepI hk), (hSR.keepI hk), hSN, hnf, hnr, hok, hor, hRB, hu9, hlm, (Nat.le_trans hln hk.1)⟩ (by omega) (by omega) (by omega) (by omega) (by omega) J (lv_sub hl [8, 9, 10, 11, 12, 7, 6, 5, 4, 3, 2, 1] rfl)
    | succ k9 ih_120 =>
      intro f hik wl120 H locs ls hk L120_0 L120_1 L120_2 L120_3 L120_4 L120_5 L120_6 L120_7 L120_8 L120_9 L120_10 L120_11 L120_12 L120_13 L120_14 hF hR hSN J hl
      refine lv_iload hx hb dL_law_120 (lv_at hl 0 rfl) ?_
      refine lv_aload_n hx hb dL_law_122 rfl (lv_at hl 9 rfl) ?_
      refine lv_iconst (v := nI 0) hx hb dL_law_123 rfl ?_
      refine z_xi J (z_yV (As := [.int (nI 0)]) (rest := [.int (nI f)]) (ci := 7) (q0 := 0) X hRz J (cX6_count_ok l hflags E L120_0 L120_1 L120_2 L120_3 L120_4 L120_5 hR (by first | assumption | omega | decide)) (cwV 1 hts (goodIn_ext3 gL_law_X6_count) rfl rfl rfl (by decide +kernel) ⟨Nat.le_of_ble_eq_true rfl, Nat.le_of_ble_eq_true rfl⟩) L120_0 rfl rfl rfl hl.1 rfl (Nat.le_of_ble_eq_true rfl) dL_law_124 ⟨by show _ ≤ 1106048; omega, by show _ ≤ 5783625; omega⟩) (fun nm ce q9 H locs hp9 J h1 h2 h3 => ?_) (fun r124 ws_4 H locs hp9 J => ?_)
      · exact False.elim (by exact absurd hp9.1 (by rw [show kCount (nI 0) = 0 from kCount_ok (by decide)]; decide))
      obtain ⟨rfl, e_r124⟩ := hp9
      refine W.eq (g2 := F0 m 127 ls [.int (nI nf), .int (nI f)]) (congrArg (fun z9 : Int32 => F0 m 127 ls [.int z9, .int (nI f)]) (show (r124 : Int32) = nI nf from (e_r124.2.trans cnt_0))) ?_
      refine lv_icmp_ge (tgt := 150) hx hb dL_law_127 (by decide) (fun cz127 => by exact (nI_ge (by omega) (by omega) cz127).elim) (fun cz127 => ?_)
      refine lv_iload hx hb dL_law_130 (lv_at hl 1 rfl) ?_
      refine lv_aload_n hx hb dL_law_132 rfl (lv_at hl 9 rfl) ?_
      refine lv_iload hx hb dL_law_133 (lv_at hl 0 rfl) ?_
      refine lv_iconst (v := nI 4) hx hb dL_law_135 rfl ?_
      refine z_xi J (z_yV (As := [.int (nI f), .int (nI 4)]) (rest := [.int (hmS fa f)]) (ci := 7) (q0 := 0) X hRz J (cX6_about_ok l hflags E L120_0 L120_1 L120_4 L120_5 (by first | assumption | omega | decide) (by first | assumption | omega | decide) (by first | assumption | omega | decide)) (cwV 2 hts (goodIn_ext3 gL_law_X6_about) rfl rfl rfl (by decide +kernel) ⟨Nat.le_of_ble_eq_true rfl, Nat.le_of_ble_eq_true rfl⟩) L120_0 rfl rfl rfl hl.1 rfl (Nat.le_of_ble_eq_true rfl) dL_law_136 ⟨by show _ ≤ 1106048; omega, by show _ ≤ 5783625; omega⟩) (fun nm ce q9 H locs hp9 J h1 h2 h3 => ?_) (fun r136 ws_5 H locs hp9 J => ?_)
      · exact False.elim (by exact absurd hp9.1 (by rw [show kAsk (nI f) (nI nf) (nI 4) 6 = 0 from kAsk_ok (h := 6) (by omega) (by omega) (by omega) (by decide)]; decide))
      obtain ⟨rfl, e_r136⟩ := hp9
      refine W.eq (g2 := F0 m 139 ls [.int (fa (6 * f + 4)), .int (hmS fa f)]) (congrArg (fun z9 : Int32 => F0 m 139 ls [.int z9, .int (hmS fa f)]) (show (r136 : Int32) = fa (6 * f + 4) from (by rw [e_r136.2, nI_clamp (by omega), nI_clamp (by omega)]; exact about_6 (by decide)))) ?_
      refine va_mmax hx hb (X.1.2.2.1.trans hl.1.symm) hown (hts (.methodLink RL 116 Lib.Math.max.name) (by decide +kernel)) (hts (.static Lib.Math.max.name) (by decide +kernel)) (hts (.initialized "java/lang/Math") (by decide +kernel)) (hts (.code Lib.Math.max.name Lib.Math.max.code 2 (some .int)) (by decide +kernel)) (Nat.le_of_ble_eq_true rfl) (Nat.le_of_ble_eq_true rfl) (by show _ ≤ 1106048; omega) (by show _ ≤ 5783625; omega) dL_law_139 ?_
      refine W.eq (g2 := F0 m 142 ls [.int (mx (hmS fa f) (fa (6 * f + 4)))]) rfl ?_
      refine W.eq (g2 := F0 m 142 ls [.int (hmS fa (f + 1))]) (congrArg (fun z9 : Int32 => F0 m 142 ls [.int z9]) (show (mx (hmS fa f) (fa (6 * f + 4)) : Int32) = hmS fa (f + 1) from rfl)) ?_
      refine lv_istore (lv' := [(11, .int (hmS fa (f + 1))), (12, .int (nI f)), (10, .int off), (9, .int (sumA sn)), (8, .int sup), (7, .int (nI hh)), (6, .int (nI sg)), (5, .int (nI wd)), (0, .ref E.2.2.2.2.1), (1, .ref x), (2, .ref z), (3, .int (nI t)), (4, .int xv)]) hx hb dL_law_142 hl (by decide) rfl (fun ls hl => ?_)
      refine lv_iinc (v := nI (f + 1)) (lv' := [(12, .int (nI (f + 1))), (11, .int (hmS fa (f + 1))), (10, .int off), (9, .int (sumA sn)), (8, .int sup), (7, .int (nI hh)), (6, .int (nI sg)), (5, .int (nI wd)), (0, .ref E.2.2.2.2.1), (1, .ref x), (2, .ref z), (3, .int (nI t)), (4, .int xv)]) hx hb dL_law_144 hl (k := 1) rfl (nI_1 f) (by decide) rfl (fun ls hl => ?_)
      refine lv_goto (tgt := 120) hx hb dL_law_147 (by decide) ?_
      refine W.widen (k := (cells + 18 + 12 * (f + 1))) (n := (slots + 120 + 80 * (f + 1))) (by omega) (by omega) ?_
      exact ih_120 (f + 1) (by omega) _ _ _ _ hk L120_0 L120_1 L120_2 L120_3 L120_4 L120_5 L120_6 L120_7 L120_8 L120_9 L120_10 L120_11 L120_12 L120_13 L120_14 hF hR hSN J (lv_sub hl [0, 1, 2, 3, 4, 5, 6, 7, 8, 9, 10, 11, 12] rfl)
  exact loop_120 nf 0 (by omega) _ _ _ _ hk Fa0 Fa1 Fa2 Fa3 Fa4 Fa5 Fa6 Fa7 Fa8 Fa9 Fa10 Fa11 Fa12 Fa13 Fa14 hF hR hSN J (lv_sub hl [0, 1, 2, 3, 4, 5, 6, 7, 8, 9, 10, 11, 12] rfl)
