set_option maxHeartbeats 4000000 in
set_option maxRecDepth 100000 in
theorem whole_start {p : Program} {e : Env} {s : State} {m : MethodId} {below : List Frame} {meth : Method} {c : Code} (l : Launch) (hflags : l.flags = flags0) {b L : Nat} {xs : Nat → Int32} (hL : L ≤ 260) (C0 : lw_At p s m meth c b L xs) : W p l e room_1 s m #[Value.ref b] below meth c s.heap [] 0 0 (lw_Z below #[Value.ref b] s) (entryFrame m ([Value.ref b] : List Value).toArray 30) := by
  obtain ⟨E, hEs, hEb, hEL, X, hRz, hE1, J⟩ := law_env C0
  obtain ⟨hx, hb, hr, hml, hown, hts9, hXs, hbl, hlocks, hgv⟩ := C0
  subst hEb
  subst hEL
  have kE : ∀ (x fl rl wh gr gra tr tra sc ha va z sa : Nat) (gs : Nat → Option Nat) (ws' : va_W) (H' : Heap) (locs' : List Loc) (ls' : Array Slot), LW E x fl rl wh gr gra tr tra sc ha va z sa gs ws' → zJ E ws' s H' locs' → lv_has ls' 30 [(0, .ref E.2.2.2.2.1), (1, .ref x), (2, .ref z), (3, .int (nI 5))] → W p l e room_1 s m #[.ref E.2.2.2.2.1] below meth c H' locs' (239400 + 152250 * 5) (464500 + 346350 * 5) (lw_Z below #[Value.ref E.2.2.2.2.1] s) (F0 m 1220 ls' []) := by
    intro x fl rl wh gr gra tr tra sc ha va z sa gs ws' H' locs' ls' hW J' hl'
    obtain ⟨mc1, mc2, lim, sup, off, plo, hrs, ea, eb, nf, nr, fe, qf, ro, qr, fa, rd, ri, sn, t9, hf, gf, g, gq, hX1⟩ := hW
    have hX1 : LX E x fl rl wh gr gra tr tra sc ha va z sa gs mc1 mc2 lim sup off plo hrs ea eb nf nr fe qf ro qr fa rd ri sn t9 hf gf g gq ws' := hX1
    refine law_k hflags E X hRz hE1 hL hX1 J' hl' (by decide) (by decide) (fun ws2 H2 locs2 ls2 J2 => ?_)
    refine va_forget (fun q hq => by have h9 := J2.locs q hq; rw [← hEs]; exact h9) ?_
    refine W.widen (k := 1106048) (n := 5783625) (by decide) (by decide) ?_
    exact W.base (lw_ret (Drawn.sameBut.refl s.drawn lw_cs) hx hb hr hlocks dL_law_1225)
  have hts := X.1.2.2.2.2
  have hown := X.1.2.2.2.1
  have hi_X6 : ∀ w ∈ wsX60, w ∈ wsL_law2 := fun w h => List.mem_append_left _ (inlX6 w h)
  have hl := lv_entry ([.ref E.2.2.2.2.1]) (n := 30) (Nat.le_of_ble_eq_true rfl)
  rw [lg_entry_eq]
  generalize (lg_sl ([.ref E.2.2.2.2.1]) ++ List.replicate (30 - (lg_sl ([.ref E.2.2.2.2.1])).length) Slot.unset).toArray = ls at hl ⊢
  have hl : lv_has ls 30 [(0, .ref E.2.2.2.2.1)] := hl
  generalize hws0 : ([] : va_W) = ws at J
  have hk : zKi E ws ws := zKi.rf
  have hlen : ws.length = ws.length + 0 := rfl
  refine z_new (C := RX6) (T := TX6) (N := 11) (ci := 7) (fs := [.null, .null, .null, .null, .null, .null, .int 0, .int 0, .int 0, .int 0, .int 0]) X J hi_X6 tyX6 tyX6_ok (by decide +kernel) (by decide +kernel) (by decide +kernel) rfl (fun j hj => by rcases (show j = 0 ∨ j = 1 ∨ j = 2 ∨ j = 3 ∨ j = 4 ∨ j = 5 ∨ j = 6 ∨ j = 7 ∨ j = 8 ∨ j = 9 ∨ j = 10 by omega) with rfl | rfl | rfl | rfl | rfl | rfl | rfl | rfl | rfl | rfl | rfl <;> rfl) (Nat.le_of_ble_eq_true rfl) (Nat.le_of_ble_eq_true rfl) dL_law_0 (fun q0 H J => ?_)
  have lp1 := hk.1
  have hk := hk.step (zK.app (S := []) (ws := ws) (more := [(q0, .inr (7, [.null, .null, .null, .null, .null, .null, .int 0, .int 0, .int 0, .int 0, .int 0]))])) (fun _ _ _ _ _ _ _ => List.not_mem_nil)
  have hpn1 := hlen
  have hlen : (ws ++ ([(q0, .inr (7, [.null, .null, .null, .null, .null, .null, .int 0, .int 0, .int 0, .int 0, .int 0]))] : va_W)).length = ws.length + 1 := by rw [List.length_append, hlen]; rfl
  have G1_n := zapp_new (ws := ws) (x := (q0, .inr (7, [.null, .null, .null, .null, .null, .null, .int 0, .int 0, .int 0, .int 0, .int 0])))
  generalize hws1 : ws ++ [(q0, .inr (7, [.null, .null, .null, .null, .null, .null, .int 0, .int 0, .int 0, .int 0, .int 0]))] = ws_1 at J hk hlen G1_n
  rw [hpn1] at lp1 G1_n
  refine lv_dup hx hb dL_law_3 rfl ?_
  refine z_cv J (z_rIY (As := []) (rest := [.ref q0]) X hRz J (cX6_init_ok l hflags E G1_n) (cwI 0 hts (goodIn_ext3 gL_law_X6_init) rfl rfl rfl (hts (.initialized RX6) (by decide +kernel)) (hts (.methodLink RL 105 yX6_init) (by decide +kernel)) (hts (.instanceMethod yX6_init) (by decide +kernel)) rfl (by decide +kernel) ⟨Nat.le_of_ble_eq_true rfl, Nat.le_of_ble_eq_true rfl⟩) rfl hl.1 rfl (Nat.le_of_ble_eq_true rfl) dL_law_4 ⟨by show _ ≤ 1106048; omega, by show _ ≤ 5783625; omega⟩) (fun ws_2 H locs hp9 J => ?_)
  obtain ⟨k2, ⟨fl_2, rl_2, wh_2, gr_2, gra_2, tr_2, tra_2, sc_2, ha_2, va_2, hlen2, G2_a0, N2_0, N2_1, N2_2, N2_3, N2_4, N2_5, N2_6, N2_7, N2_8, N2_9⟩⟩ := hp9
  have hk := hk.step k2 (fun q9 a9 n9 f9 h8 h7 h9 => by have z9_0 := zneK h9 G1_n rfl; simp only [List.mem_cons, rg_mem, List.not_mem_nil, or_false, not_or]; omega)
  rw [hlen, Nat.add_assoc] at N2_0
  rw [hlen, Nat.add_assoc] at N2_1
  rw [hlen, Nat.add_assoc] at N2_2
  rw [hlen, Nat.add_assoc] at N2_3
  rw [hlen, Nat.add_assoc] at N2_4
  rw [hlen, Nat.add_assoc] at N2_5
  rw [hlen, Nat.add_assoc] at N2_6
  rw [hlen, Nat.add_assoc] at N2_7
  rw [hlen, Nat.add_assoc] at N2_8
  rw [hlen, Nat.add_assoc] at N2_9
  have hlen : ws_2.length = ws.length + 11 := by rw [hlen2, hlen]
  refine lv_astore_n (lv' := [(1, .ref q0), (0, .ref E.2.2.2.2.1)]) hx hb dL_law_7 rfl hl (by decide) rfl (fun ls hl => ?_)
  have Jn9 := J
  have hln9 := hlen
  have hkn9 := hk
  have hl9 := hl
  subst hws0
  have J := Jn9
  have hlen := hln9
  have hk := hkn9
  have hl := hl9
  have hz0 : ws_2[0]? = some (q0, .inr (7, [.ref fl_2, .ref rl_2, .ref wh_2, .ref gr_2, .ref tr_2, .ref sc_2, .int 15, .int 0, .int 0, .int 0, .int 0])) := G2_a0
  have hz1 : ws_2[1]? = some (fl_2, .inr (0, [.int 0, .ref E.2.2.1, .int 0])) := N2_0
  have hz2 : ws_2[2]? = some (rl_2, .inr (0, [.int 0, .ref E.2.2.1, .int 0])) := N2_1
  have hz3 : ws_2[3]? = some (wh_2, .inr (5, [.int (0 * 20 + 0), .int 400, .int 0])) := N2_2
  have hz4 : ws_2[4]? = some (gr_2, .inr (2, [.ref gra_2])) := N2_3
  have hz5 : ws_2[5]? = some (gra_2, zI4 E 400 (fun _ => 0)) := N2_4
  have hz6 : ws_2[6]? = some (tr_2, .inr (2, [.ref tra_2])) := N2_5
  have hz7 : ws_2[7]? = some (tra_2, zI4 E 400 (fun _ => 0)) := N2_6
  have hz8 : ws_2[8]? = some (sc_2, .inr (4, [.ref ha_2, .ref va_2])) := N2_7
  have hz9 : ws_2[9]? = some (ha_2, zI4 E 400 (fun _ => 0)) := N2_8
  have hz10 : ws_2[10]? = some (va_2, zI4 E 400 (fun _ => 0)) := N2_9
  have hw11 : ws_2.length = 11 := hlen
  refine lv_aload_n hx hb dL_law_8 rfl (lv_at hl 0 rfl) ?_
  refine lv_aload_n hx hb dL_law_9 rfl (lv_at hl 1 rfl) ?_
  refine z_cq J (z_rYS (As := [.ref q0, .ref E.2.2.2.2.1]) (rest := []) X hRz J (cL_build_ok l hflags E hz0 hz1 hz2 hz3 hz4 hz5 hz6 hz7 hz8 hz9 hz10 hw11 hL hE1) (va_cwS 2 hts gL_law2_build2 rfl rfl rfl (by decide +kernel) ⟨Nat.le_of_ble_eq_true rfl, Nat.le_of_ble_eq_true rfl⟩) rfl hl.1 rfl (Nat.le_of_ble_eq_true rfl) dL_law_10 ⟨by show _ ≤ 1106048; omega, by show _ ≤ 5783625; omega⟩) (fun r10 ws_3 H locs hp9 J => ?_)
  obtain ⟨k3, ⟨z9_3, sa9_3, gs9_3, e_r10⟩⟩ := hp9
  have hk := hk.tr k3
  refine W.eq (g2 := F0 m 13 ls [.ref z9_3]) (by rw [show r10 = some z9_3 from e_r10.1]; rfl) ?_
  refine lv_astore_n (lv' := [(2, .ref z9_3), (1, .ref q0), (0, .ref E.2.2.2.2.1)]) hx hb dL_law_13 rfl hl (by decide) rfl (fun ls hl => ?_)
  refine lv_aload_n hx hb dL_law_14 rfl (lv_at hl 0 rfl) ?_
  refine lv_ifnonnull (tgt := 20) hx hb dL_law_15 (by decide) ?_
  refine lv_iconst (v := nI 0) hx hb dL_law_20 rfl ?_
  refine lv_istore_n (lv' := [(3, .int (nI 0)), (2, .ref z9_3), (1, .ref q0), (0, .ref E.2.2.2.2.1)]) hx hb dL_law_21 rfl hl (by decide) rfl (fun ls hl => ?_)
  refine W.widen (k := 239400 + 152250 * 0) (n := 464500 + 346350 * 0) (by decide) (by decide) ?_
  exact law_loop hflags E X hRz hE1 hL (c0 := 239400) (s0 := 464500) (by decide) (by decide) (fun ws' H' locs' ls' hW' J' hl' => kE _ _ _ _ _ _ _ _ _ _ _ _ _ _ ws' H' locs' ls' hW' J' hl') 5 0 rfl _ _ _ _ e_r10.2 J (lv_sub hl [3, 2, 1, 0] rfl)
set_option maxHeartbeats 4000000 in
theorem lw_walk (l : Launch) (hflags : l.flags = flags0) (b : Addr) (xs : List Int32) : MetFree l x (headSpec (Jvm.Cond.code x code maxLocals ret :: tables_1) room_1) (lw_P b xs) (fun _ _ _ _ _ => True) lw_Q := by
  refine MetFree.of_bodyS (code := code) (maxLocals := maxLocals) (ret := ret) (by decide) ?_ ?_
  · intro args s m h hn
    obtain ⟨meth, c, h1, h2, h3, h4, h5, h6, -, -⟩ := Cond.code_spec hn (atoms_spec (ws := Jvm.Cond.code x code maxLocals ret :: tables_1) h _ List.mem_cons_self)
    exact ⟨meth, c, h1, h2, h3, h4, h5, h6⟩
  · intro p e s m args below meth c s₁ B hml0 hP _
    obtain ⟨rfl, hx, hbd, hgv⟩ := hP
    obtain ⟨scr, harrAt, hlist, hof, hsmall⟩ := hx
    obtain ⟨hcb, hkn, -, -⟩ := State.arrayAt?_spec harrAt
    have hown : s.vm.findClass R_law = some m.cls := findClass_of_methodNamed B.named
    have hts0 : ∀ c ∈ (Jvm.Cond.code x code maxLocals ret :: tables_1), c.before #[Value.ref b] s = true := atoms_spec (ws := Jvm.Cond.code x code maxLocals ret :: tables_1) B.pre
    have hts : ∀ w ∈ lw_tbl, w.before #[Value.ref b] s = true := k2_hts_sels lw_privs (fun w hw => hts0 w (List.mem_cons_of_mem _ hw)) lw_privs_ok
    have hml : c.maxLocals = 30 := B.maxLocals_eq (hts0 _ List.mem_cons_self)
    have X₀ : Stand p l e room_1 s m #[Value.ref b] below meth c s₁ [] 0 0 := Stand.of_body B
    have hh0 : s₁.heap = s.heap := by rw [B.state]; rfl
    have hsz : scr.slots.size = xs.length := by rw [← Array.length_toList, hlist, List.length_map]
    have hval : ∀ j : Nat, j < xs.length → scr.slots[j]? = some (.int (xs.getD j 0)) := fun j hj => by
      rw [← Array.getElem?_toList, hlist]
      simp [hj]
    have hbl : b < s.heap.size := (Array.getElem?_eq_some_iff.mp hcb).1
    have hX : va_X b xs.length (fun j => xs.getD j 0) s s.heap := ⟨scr, hcb, hof, hkn, hsz, hval⟩
    have K : W p l e room_1 s m #[Value.ref b] below meth c s₁.heap [] 0 0 (lw_Z below #[Value.ref b] s) (entryFrame m ([Value.ref b] : List Value).toArray 30) := by
      rw [hh0]
      exact whole_start l hflags hbd ⟨B.exec, B.bytes, B.returns, hml, hown, hts, hX, hbl, B.notSynchronized, hgv⟩
    obtain ⟨t, a1, o, b1, b2, b3⟩ := K s₁ rfl X₀
    exact ⟨t, o, a1, b1, b2, b3⟩
theorem lw_pre_spec {args : Array Value} {s : State} (h : (Jvm.Cond.and given_1 narrow_1).before args s = true) (hr : rest_1_c.before args s = true) : ∃ (b : Addr) (xs : List Int32), lw_P b xs args s := by
  have hs := flat_of_before _ h
  have hq := flat_of_before _ hr
  have hc : (Cond.count 1).before args s = true := hs _ (by decide +kernel)
  have harr : (Cond.arrayOf (.arg 0) .int).before args s = true := hs _ (by decide +kernel)
  have hle : (Cond.le (.length (.arg 0)) (.int 260)).before args s = true := hs _ (by decide +kernel)
  have hlen : (Cond.isInt (.length (.arg 0))).before args s = true := hq _ (by decide +kernel)
  have hall : (Cond.all (.arg 0) (.isInt (.elem (.arg 0) (.index 0)))).before args s = true := hq _ (by decide +kernel)
  obtain ⟨b, xs, hb, hx⟩ := State.ints_of_pre rfl harr hlen hall
  have hsm : xs.length < 2 ^ 31 := hx.choose_spec.2.2.2
  have hev : (Term.length (.arg 0)).eval args s none [] s = some (.int xs.length.toInt32) := hx.length_eval hb
  have hv := Cond.le_ints hev (show (Term.int 260).eval args s none [] s = some (.int 260) from rfl)
  have hd : xs.length.toInt32 ≤ 260 := by
    simpa [Cond.before, Cond.holds, hv] using hle
  have hN : xs.length ≤ 260 := (Int32.ofNat_le_ofNat hsm (by decide)).mp (show Int32.ofNat xs.length ≤ Int32.ofNat 260 from hd)
  exact ⟨b, xs, Cond.one_arg hc (show args[0]? = some (.ref b) from hb), hx, hN, h⟩
theorem lw_comes (l : Launch) (hflags : l.flags = flags0) : Comes l x (Jvm.Cond.code x code maxLocals ret :: tables_1) room_1 (fun tb e args s => Calls_1 tb e args s ∧ rest_1 tb e args s ∧ Pre_1 tb e args s)
    (fun _ _ args s o t => lw_Q args s o t) := by
  intro p e ha hc hk s m args below hf hfit hheap happ hpre
  obtain ⟨b, xs, hP⟩ := lw_pre_spec hpre.2.2 hpre.2.1
  obtain ⟨k, o, h1, h2, h3, hQ⟩ := lw_walk l hflags b xs p e ha hc hk s m args below hf ((Spec.applies_iff_loose hf).mp happ).1 hP trivial
  exact ⟨k, o, h1, h2, h3, hQ⟩
theorem lw_frame {s t : State} {o : Outcome} {args : Array Value} (h : State.butDraws s t lw_cs (fun t1 => Framed s o t1 [] 1106048 5783625)) :
    State.butDraws s t [Jvm.Choice.named "NaN.bits"] (fun t1 => Framed s o t1 (fieldLocs frame_1_writes args s ++ arrayLocs frame_1_arrays args s ++ staticLocs frame_1_statics s) 1106048 5783625) := h
theorem lw_limb (L : Cond) (hL : ∀ (args : Array Value) (s t : State), L.after args s (.returned (some (.int 1))) t = true) :
    ArmFor flags0 classFile x code maxLocals ret World_1 tables_1 room_1 Calls_1 rest_1 Pre_1
      (fun tb e a s o t => postC L tb e a s o t ∧ State.butDraws s t [Jvm.Choice.named "NaN.bits"] (fun t1 => Framed s o t1 (fieldLocs frame_1_writes a s ++ arrayLocs frame_1_arrays a s ++ staticLocs frame_1_statics s) 1106048 5783625)) := by
  intro l hflags _ _ p e ha hc hk s m args below hf hfit hheap happ hpre
  obtain ⟨k, o, h1, h2, h3, rfl, hF⟩ := lw_comes l hflags p e ha hc hk s m args below hf hfit hheap happ hpre
  exact ⟨k, _, h1, h2, h3, hL args s _, lw_frame hF⟩
theorem i_vc : Claimed_1_1 ∧ Claimed_1_2 := ⟨lw_limb limb_1_1 (fun args s t => by simp [limb_1_1, Cond.after, Cond.holds, Cond.value]), lw_limb limb_1_2 (fun args s t => Cond.after_iff.mpr (by
  first | (rw [show limb_1_2 = Cond.eq .result (.int 1) from rfl, Cond.eq_ints (x := 1) (y := 1) rfl rfl]; simp; done) | (simp [limb_1_2, Cond.value, Term.eval]; done)))⟩
