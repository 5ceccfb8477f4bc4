/-! ===== the law's field is built ===== -/
section ZSY
variable {p : Program} {l : Launch} {e : Env} {R : Room} {s : State} {m : MethodId} {args : Array Value} {below : List Frame} {meth : Method} {c : Code} {H : Heap} {locs : List Loc} {cells slots : Nat}
variable {cc : ByteArray} {pc nL : Nat} {ls : Array Slot} {rest st0 : List Value} {ws : va_W} {own : String} {Ts : List Cond} {E : zG}
variable {y : MethodName} {bytes : ByteArray} {maxL mc ms n index : Nat} {ret : Option FieldType} {wsm : List Cond} {rm : Room} {Qc : Array Value → State → Outcome → State → Prop} {free : Addr → Prop} {As : List Value}
/-- a static method that wants the texts -/
theorem z_rYS (X : zC E p m c cc nL s args Ts own) (hR : zR s) (J : zJ E ws s H locs) (hM : Met l y wsm rm (va_Pc As (zY E ws)) Qc mc ms free) (cw : CallB R s args own index y bytes maxL ret wsm rm mc ms n ∧ (Cond.static y).before args s = true)
    (hn : As.length = n) (hls : ls.size = nL) (hst : st0 = As.reverse ++ rest) (hcat : (rest.map fun v => v.category).sum ≤ 8) (hdg : decode cc pc = .ok (.invokestatic index, 3)) (hf : cells + mc ≤ R.cells ∧ slots + ms ≤ R.slots) :
    va_Run p l e R s m args below meth c H locs cells slots mc ms (F0 m pc ls st0) rest (Qc As.toArray) free :=
  va_runS X.1 hM cw (z_preSY X hR J) rfl hn hls hst (lv_room hcat) hdg hf
end ZSY
theorem gL_build2_act2 : GoodIn wsL_build2 (va_wsS RL 101 yL_act wsL_act2) := goodIn_app (goodIn_ext2 (goodIn_of _ (by decide +kernel))) ggL_build2_act2
theorem zKi.tr {E : zG} {a b c : va_W} (h : zKi E a b) (k : zKi E b c) : zKi E a c := ⟨Nat.le_trans h.1 k.1, fun p q n f hp h1 => k.2 p q n f hp (h.2 p q n f hp h1)⟩
/-- the kinds of the first eight acts -/
def fst8 (k : Nat) : Nat := if k = 0 then 0 else if k = 1 then 1 else if k = 2 then 5 else if k = 3 then 8 else if k = 4 then 0 else if k = 5 then 5 else if k = 6 then 7 else 8
theorem fst8_lt {k : Nat} : fst8 k < 11 := by
  unfold fst8
  repeat' split
  all_goals decide
theorem fst8_ok {k : Nat} (h : k < 8) : ((upd (upd (upd (upd (upd (upd (upd (upd (fun _ => 0) 0 0) 1 1) 2 5) 3 8) 4 0) 5 5) 6 7) 7 8) : Nat → Int32) k = nI (fst8 k) := by
  rcases (show k = 0 ∨ k = 1 ∨ k = 2 ∨ k = 3 ∨ k = 4 ∨ k = 5 ∨ k = 6 ∨ k = 7 by omega) with rfl | rfl | rfl | rfl | rfl | rfl | rfl | rfl <;> rfl
theorem bln_13 {b k : Nat} (hb : b < 1000000) : bln (nI (13 * b + fst8 k)) 13 < 11 := by
  have h := fst8_lt (k := k)
  unfold bln
  have e : (nI (13 * b + fst8 k)).toBitVec.toNat = (13 * b + fst8 k) % 2 ^ 32 := BitVec.toNat_ofNat _ _
  rw [e, Nat.mod_eq_of_lt (show 13 * b + fst8 k < 2 ^ 32 by omega), Nat.mod_eq_of_lt (show 13 * b + fst8 k < 2 ^ 31 by omega), Nat.mul_add_mod]
  exact Nat.lt_of_le_of_lt (Nat.mod_le _ _) h
set_option maxHeartbeats 2000000 in
set_option maxRecDepth 100000 in
theorem cL_build_ok (l : Launch) (hflags : l.flags = flags0) (E : zG) {ws : va_W} {x fl rl wh gr gra tr tra sc ha va : Nat} (Fa0 : ws[0]? = some (x, .inr (7, [.ref fl, .ref rl, .ref wh, .ref gr, .ref tr, .ref sc, .int 15, .int 0, .int 0, .int 0, .int 0]))) (Fa1 : ws[1]? = some (fl, .inr (0, [.int 0, .ref E.2.2.1, .int 0]))) (Fa2 : ws[2]? = some (rl, .inr (0, [.int 0, .ref E.2.2.1, .int 0]))) (Fa3 : ws[3]? = some (wh, .inr (5, [.int (0 * 20 + 0), .int 400, .int 0]))) (Fa4 : ws[4]? = some (gr, .inr (2, [.ref gra]))) (Fa5 : ws[5]? = some (gra, zI4 E 400 (fun _ => 0))) (Fa6 : ws[6]? = some (tr, .inr (2, [.ref tra]))) (Fa7 : ws[7]? = some (tra, zI4 E 400 (fun _ => 0))) (Fa8 : ws[8]? = some (sc, .inr (4, [.ref ha, .ref va]))) (Fa9 : ws[9]? = some (ha, zI4 E 400 (fun _ => 0))) (Fa10 : ws[10]? = some (va, zI4 E 400 (fun _ => 0))) (hw11 : ws.length = 11) (hL : E.2.2.2.2.2.1 ≤ 260) (hE1 : ¬ zA E E.2.2.1) : Met l yL_build wsL_build2 ({ frames := 10, cells := 239345, slots := 462796, locals := 188 } : Room) (va_Pc [.ref x, .ref E.2.2.2.2.1] (zY E ws)) (va_Qq (fun (r : Option Nat) (ws' : va_W) => (zKi E ws ws') ∧ (∃ (z9 : Nat) (sa9 : Nat) (gs9 : Nat → Option Nat), (r = some z9 ∧ LW E x fl rl wh gr gra tr tra sc ha va z9 sa9 gs9 ws'))) (zI E) (zA E)) 239345 462796 (zA E) := by
  refine Met.ofW (cc := cL_build) (maxL := 5) (ret := (some (.object "SnowFencesLaw$Sim"))) (by decide) rfl ?_
  intro p e s m args below meth c s₁ B hml hv
  obtain ⟨hargs9, hI, hRz⟩ := hv
  have hx := B.exec
  have hb := B.bytes
  have hr := B.returns
  have hlocks := B.notSynchronized
  have X : zC E p m c cL_build 5 s args wsL_build2 RL := z_open B hml hI
  have hown := X.1.2.2.2.1
  have hts := X.1.2.2.2.2
  have J := hI.J
  have hi_X7 : ∀ w ∈ wsX70, w ∈ wsL_build2 := by decide +kernel
  have hk : zKi E ws ws := zKi.rf
  have hlen : ws.length = ws.length + 0 := rfl
  have bFa0 := zlt Fa0
  have bFa1 := zlt Fa1
  have bFa2 := zlt Fa2
  have bFa3 := zlt Fa3
  have bFa4 := zlt Fa4
  have bFa5 := zlt Fa5
  have bFa6 := zlt Fa6
  have bFa7 := zlt Fa7
  have bFa8 := zlt Fa8
  have bFa9 := zlt Fa9
  have bFa10 := zlt Fa10
  have hl := lv_entry ([.ref x, .ref E.2.2.2.2.1]) (n := 5) (Nat.le_of_ble_eq_true rfl)
  rw [show entryFrame m args 5 = entryFrame m ([.ref x, .ref E.2.2.2.2.1] : List Value).toArray 5 from by rw [hargs9], lg_entry_eq]
  generalize (lg_sl ([.ref x, .ref E.2.2.2.2.1]) ++ List.replicate (5 - (lg_sl ([.ref x, .ref E.2.2.2.2.1])).length) Slot.unset).toArray = ls at hl ⊢
  have hl : lv_has ls 5 [(0, .ref x), (1, .ref E.2.2.2.2.1)] := hl
  generalize hQ : (MQ below (va_Qq (fun (r : Option Nat) (ws' : va_W) => (zKi E ws ws') ∧ (∃ (z9 : Nat) (sa9 : Nat) (gs9 : Nat → Option Nat), (r = some z9 ∧ LW E x fl rl wh gr gra tr tra sc ha va z9 sa9 gs9 ws'))) (zI E) (zA E)) args s 239345 462796 (zA E)) = QQ
  refine z_new (C := RX7) (T := TX7) (N := 8) (ci := 8) (fs := [.null, .null, .null, .int 0, .int 0, .int 0, .int 0, .int 0]) X J hi_X7 tyX7 tyX7_ok (by decide +kernel) (by decide +kernel) (by decide +kernel) rfl (fun j hj => by rcases (show j = 0 ∨ j = 1 ∨ j = 2 ∨ j = 3 ∨ j = 4 ∨ j = 5 ∨ j = 6 ∨ j = 7 by omega) with rfl | rfl | rfl | rfl | rfl | rfl | rfl | rfl <;> rfl) (Nat.le_of_ble_eq_true rfl) (Nat.le_of_ble_eq_true rfl) dL_build_0 (fun q0 H J => ?_)
  have lp1 := hk.1
  have hk := hk.step (zK.app (S := []) (ws := ws) (more := [(q0, .inr (8, [.null, .null, .null, .int 0, .int 0, .int 0, .int 0, .int 0]))])) (fun _ _ _ _ _ _ _ => List.not_mem_nil)
  have hpn1 := hlen
  have hlen : (ws ++ ([(q0, .inr (8, [.null, .null, .null, .int 0, .int 0, .int 0, .int 0, .int 0]))] : va_W)).length = ws.length + 1 := by rw [List.length_append, hlen]; rfl
  have bG1_0 := zlt Fa0
  have G1_0 := zapp (x := (q0, .inr (8, [.null, .null, .null, .int 0, .int 0, .int 0, .int 0, .int 0]))) Fa0
  have bG1_1 := zlt Fa1
  have G1_1 := zapp (x := (q0, .inr (8, [.null, .null, .null, .int 0, .int 0, .int 0, .int 0, .int 0]))) Fa1
  have bG1_2 := zlt Fa2
  have G1_2 := zapp (x := (q0, .inr (8, [.null, .null, .null, .int 0, .int 0, .int 0, .int 0, .int 0]))) Fa2
  have bG1_3 := zlt Fa3
  have G1_3 := zapp (x := (q0, .inr (8, [.null, .null, .null, .int 0, .int 0, .int 0, .int 0, .int 0]))) Fa3
  have bG1_4 := zlt Fa4
  have G1_4 := zapp (x := (q0, .inr (8, [.null, .null, .null, .int 0, .int 0, .int 0, .int 0, .int 0]))) Fa4
  have bG1_5 := zlt Fa5
  have G1_5 := zapp (x := (q0, .inr (8, [.null, .null, .null, .int 0, .int 0, .int 0, .int 0, .int 0]))) Fa5
  have bG1_6 := zlt Fa6
  have G1_6 := zapp (x := (q0, .inr (8, [.null, .null, .null, .int 0, .int 0, .int 0, .int 0, .int 0]))) Fa6
  have bG1_7 := zlt Fa7
  have G1_7 := zapp (x := (q0, .inr (8, [.null, .null, .null, .int 0, .int 0, .int 0, .int 0, .int 0]))) Fa7
  have bG1_8 := zlt Fa8
  have G1_8 := zapp (x := (q0, .inr (8, [.null, .null, .null, .int 0, .int 0, .int 0, .int 0, .int 0]))) Fa8
  have bG1_9 := zlt Fa9
  have G1_9 := zapp (x := (q0, .inr (8, [.null, .null, .null, .int 0, .int 0, .int 0, .int 0, .int 0]))) Fa9
  have bG1_10 := zlt Fa10
  have G1_10 := zapp (x := (q0, .inr (8, [.null, .null, .null, .int 0, .int 0, .int 0, .int 0, .int 0]))) Fa10
  have G1_n := zapp_new (ws := ws) (x := (q0, .inr (8, [.null, .null, .null, .int 0, .int 0, .int 0, .int 0, .int 0])))
  generalize hws1 : ws ++ [(q0, .inr (8, [.null, .null, .null, .int 0, .int 0, .int 0, .int 0, .int 0]))] = ws_1 at J hk hlen G1_0 G1_1 G1_2 G1_3 G1_4 G1_5 G1_6 G1_7 G1_8 G1_9 G1_10 G1_n
  rw [hpn1] at lp1 G1_n bG1_0 bG1_1 bG1_2 bG1_3 bG1_4 bG1_5 bG1_6 bG1_7 bG1_8 bG1_9 bG1_10
  refine lv_dup hx hb dL_build_3 rfl ?_
  have hl11 : ws_1.length = 12 := by rw [hlen, hw11]
  refine z_cv J (z_rIN (As := []) (rest := [.ref q0]) X J (cX7_init_ok l E G1_n) ⟨va_cnB 0 hts (goodIn_ext2 gL_build_X7_init_n96) rfl rfl rfl hRz.2.2.2.2.2.2.2.2.2 (hts (.initialized RX7) (by decide +kernel)) (by decide +kernel) ⟨Nat.le_of_ble_eq_true rfl, Nat.le_of_ble_eq_true rfl⟩, rfl, hts (.instanceMethod yX7_init) (by decide +kernel)⟩ rfl hl.1 rfl (Nat.le_of_ble_eq_true rfl) dL_build_4 ⟨Nat.le_of_ble_eq_true rfl, Nat.le_of_ble_eq_true rfl⟩) (fun ws_2 H locs hp9 J => ?_)
  obtain ⟨k2, ⟨fe_2, ro_2, sa_2, ra_2, hlen2, G2_a0, N2_0, N2_1, N2_2, hSN_2⟩⟩ := hp9
  have hSN := hSN_2
  have hk := hk.step k2 (fun q9 a9 n9 f9 h8 h7 h9 => by have z9_0 := zneK h9 G1_n rfl; simp only [List.mem_cons, rg_mem, List.not_mem_nil, or_false, not_or]; omega)
  have G2_0 := k2.2 0 _ (fun h8 => absurd (List.mem_singleton.mp h8) (Nat.ne_of_lt (Nat.lt_of_lt_of_le bFa0 (Nat.le_add_right _ _)))) G1_0
  have G2_1 := k2.2 1 _ (fun h8 => absurd (List.mem_singleton.mp h8) (Nat.ne_of_lt (Nat.lt_of_lt_of_le bFa1 (Nat.le_add_right _ _)))) G1_1
  have G2_2 := k2.2 2 _ (fun h8 => absurd (List.mem_singleton.mp h8) (Nat.ne_of_lt (Nat.lt_of_lt_of_le bFa2 (Nat.le_add_right _ _)))) G1_2
  have G2_3 := k2.2 3 _ (fun h8 => absurd (List.mem_singleton.mp h8) (Nat.ne_of_lt (Nat.lt_of_lt_of_le bFa3 (Nat.le_add_right _ _)))) G1_3
  have G2_4 := k2.2 4 _ (fun h8 => absurd (List.mem_singleton.mp h8) (Nat.ne_of_lt (Nat.lt_of_lt_of_le bFa4 (Nat.le_add_right _ _)))) G1_4
  have G2_5 := k2.2 5 _ (fun h8 => absurd (List.mem_singleton.mp h8) (Nat.ne_of_lt (Nat.lt_of_lt_of_le bFa5 (Nat.le_add_right _ _)))) G1_5
  have G2_6 := k2.2 6 _ (fun h8 => absurd (List.mem_singleton.mp h8) (Nat.ne_of_lt (Nat.lt_of_lt_of_le bFa6 (Nat.le_add_right _ _)))) G1_6
  have G2_7 := k2.2 7 _ (fun h8 => absurd (List.mem_singleton.mp h8) (Nat.ne_of_lt (Nat.lt_of_lt_of_le bFa7 (Nat.le_add_right _ _)))) G1_7
  have G2_8 := k2.2 8 _ (fun h8 => absurd (List.mem_singleton.mp h8) (Nat.ne_of_lt (Nat.lt_of_lt_of_le bFa8 (Nat.le_add_right _ _)))) G1_8
  have G2_9 := k2.2 9 _ (fun h8 => absurd (List.mem_singleton.mp h8) (Nat.ne_of_lt (Nat.lt_of_lt_of_le bFa9 (Nat.le_add_right _ _)))) G1_9
  have G2_10 := k2.2 10 _ (fun h8 => absurd (List.mem_singleton.mp h8) (Nat.ne_of_lt (Nat.lt_of_lt_of_le bFa10 (Nat.le_add_right _ _)))) G1_10
  rw [hlen, Nat.add_assoc] at N2_0
  rw [hlen, Nat.add_assoc] at N2_1
  rw [hlen, Nat.add_assoc] at N2_2
  have hlen : ws_2.length = ws.length + 24 := by rw [hlen2, hlen]
  rw [hl11] at hSN
  refine lv_astore_n (lv' := [(2, .ref q0), (0, .ref x), (1, .ref E.2.2.2.2.1)]) hx hb dL_build_7 rfl hl (by decide) rfl (fun ls hl => ?_)
  refine lv_bipush (v := 8) hx hb dL_build_8 (by decide) ?_
  refine z_newa (N' := 8) X J (by decide +kernel) (by decide) (by decide) (Nat.le_of_ble_eq_true rfl) (Nat.le_of_ble_eq_true rfl) (Nat.le_of_ble_eq_true rfl) dL_build_10 (fun q10 H J => ?_)
  have hSN := hSN.keep (zK.app (S := []) (ws := ws_2) (more := [(q10, zI4 E 8 (fun _ => 0))])) (fun _ _ => List.not_mem_nil)
  have lp3 := hk.1
  have hk := hk.step (zK.app (S := []) (ws := ws_2) (more := [(q10, zI4 E 8 (fun _ => 0))])) (fun _ _ _ _ _ _ _ => List.not_mem_nil)
  have hpn3 := hlen
  have hlen : (ws_2 ++ ([(q10, zI4 E 8 (fun _ => 0))] : va_W)).length = ws.length + 25 := by rw [List.length_append, hlen]; rfl
  have bG3_0 := zlt G2_0
  have G3_0 := zapp (x := (q10, zI4 E 8 (fun _ => 0))) G2_0
  have bG3_1 := zlt G2_1
  have G3_1 := zapp (x := (q10, zI4 E 8 (fun _ => 0))) G2_1
  have bG3_2 := zlt G2_2
  have G3_2 := zapp (x := (q10, zI4 E 8 (fun _ => 0))) G2_2
  have bG3_3 := zlt G2_3
  have G3_3 := zapp (x := (q10, zI4 E 8 (fun _ => 0))) G2_3
  have bG3_4 := zlt G2_4
  have G3_4 := zapp (x := (q10, zI4 E 8 (fun _ => 0))) G2_4
  have bG3_5 := zlt G2_5
  have G3_5 := zapp (x := (q10, zI4 E 8 (fun _ => 0))) G2_5
  have bG3_6 := zlt G2_6
  have G3_6 := zapp (x := (q10, zI4 E 8 (fun _ => 0))) G2_6
  have bG3_7 := zlt G2_7
  have G3_7 := zapp (x := (q10, zI4 E 8 (fun _ => 0))) G2_7
  have bG3_8 := zlt G2_8
  have G3_8 := zapp (x := (q10, zI4 E 8 (fun _ => 0))) G2_8
  have bG3_9 := zlt G2_9
  have G3_9 := zapp (x := (q10, zI4 E 8 (fun _ => 0))) G2_9
  have bG3_10 := zlt G2_10
  have G3_10 := zapp (x := (q10, zI4 E 8 (fun _ => 0))) G2_10
  have bG3_11 := zlt G2_a0
  have G3_11 := zapp (x := (q10, zI4 E 8 (fun _ => 0))) G2_a0
  have bG3_12 := zlt N2_0
  have G3_12 := zapp (x := (q10, zI4 E 8 (fun _ => 0))) N2_0
  have bG3_13 := zlt N2_1
  have G3_13 := zapp (x := (q10, zI4 E 8 (fun _ => 0))) N2_1
  have bG3_14 := zlt N2_2
  have G3_14 := zapp (x := (q10, zI4 E 8 (fun _ => 0))) N2_2
  have G3_n := zapp_new (ws := ws_2) (x := (q10, zI4 E 8 (fun _ => 0)))
  generalize hws3 : ws_2 ++ [(q10, zI4 E 8 (fun _ => 0))] = ws_3 at J hk hlen G3_0 G3_1 G3_2 G3_3 G3_4 G3_5 G3_6 G3_7 G3_8 G3_9 G3_10 G3_11 G3_12 G3_13 G3_14 hSN G3_n
  rw [hpn3] at lp3 G3_n bG3_0 bG3_1 bG3_2 bG3_3 bG3_4 bG3_5 bG3_6 bG3_7 bG3_8 bG3_9 bG3_10 bG3_11 bG3_12 bG3_13 bG3_14
  refine lv_dup hx hb dL_build_12 rfl ?_
  refine lv_iconst (v := nI 0) hx hb dL_build_13 rfl ?_
  refine lv_iconst (v := 0) hx hb dL_build_14 (by decide) ?_
  refine z_iast X J (ws.length + 24) G3_n (vp_in_nI (by omega) (by first | decide | omega)) dL_build_15 (fun H locs J => ?_)
  rw [show upd (fun _ => 0) (nI 0).toNatClampNeg 0 = upd (fun _ => 0) 0 0 from (by rw [nI_clamp (by omega)])] at J
  have hSN := hSN.keep (zK.set (S := [(ws.length + 24)]) (ws := ws_3) (q := (ws.length + 24)) (e := (q10, zI4 E 8 (upd (fun _ => 0) 0 0))) (List.mem_singleton.mpr rfl)) (fun r9 hr9 => by simp only [List.mem_cons, rg_mem, List.not_mem_nil, or_false, not_or]; omega)
  have hk := hk.step (zK.set (S := [(ws.length + 24)]) (ws := ws_3) (q := (ws.length + 24)) (e := (q10, zI4 E 8 (upd (fun _ => 0) 0 0))) (List.mem_singleton.mpr rfl)) (fun q9 a9 n9 f9 h8 h7 h9 => by simp only [List.mem_cons, rg_mem, List.not_mem_nil, or_false, not_or]; omega)
  have hlen : (ws_3.set (ws.length + 24) (q10, zI4 E 8 (upd (fun _ => 0) 0 0))).length = ws.length + 25 := (List.length_set ..).trans hlen
  have G4_0 := zset_ne (q := (ws.length + 24)) (e' := (q10, zI4 E 8 (upd (fun _ => 0) 0 0))) (Nat.ne_of_gt (Nat.lt_of_lt_of_le bFa0 (Nat.le_add_right _ _))) G3_0
  have G4_1 := zset_ne (q := (ws.length + 24)) (e' := (q10, zI4 E 8 (upd (fun _ => 0) 0 0))) (Nat.ne_of_gt (Nat.lt_of_lt_of_le bFa1 (Nat.le_add_right _ _))) G3_1
  have G4_2 := zset_ne (q := (ws.length + 24)) (e' := (q10, zI4 E 8 (upd (fun _ => 0) 0 0))) (Nat.ne_of_gt (Nat.lt_of_lt_of_le bFa2 (Nat.le_add_right _ _))) G3_2
  have G4_3 := zset_ne (q := (ws.length + 24)) (e' := (q10, zI4 E 8 (upd (fun _ => 0) 0 0))) (Nat.ne_of_gt (Nat.lt_of_lt_of_le bFa3 (Nat.le_add_right _ _))) G3_3
  have G4_4 := zset_ne (q := (ws.length + 24)) (e' := (q10, zI4 E 8 (upd (fun _ => 0) 0 0))) (Nat.ne_of_gt (Nat.lt_of_lt_of_le bFa4 (Nat.le_add_right _ _))) G3_4
  have G4_5 := zset_ne (q := (ws.length + 24)) (e' := (q10, zI4 E 8 (upd (fun _ => 0) 0 0))) (Nat.ne_of_gt (Nat.lt_of_lt_of_le bFa5 (Nat.le_add_right _ _))) G3_5
  have G4_6 := zset_ne (q := (ws.length + 24)) (e' := (q10, zI4 E 8 (upd (fun _ => 0) 0 0))) (Nat.ne_of_gt (Nat.lt_of_lt_of_le bFa6 (Nat.le_add_right _ _))) G3_6
  have G4_7 := zset_ne (q := (ws.length + 24)) (e' := (q10, zI4 E 8 (upd (fun _ => 0) 0 0))) (Nat.ne_of_gt (Nat.lt_of_lt_of_le bFa7 (Nat.le_add_right _ _))) G3_7
  have G4_8 := zset_ne (q := (ws.length + 24)) (e' := (q10, zI4 E 8 (upd (fun _ => 0) 0 0))) (Nat.ne_of_gt (Nat.lt_of_lt_of_le bFa8 (Nat.le_add_right _ _))) G3_8
  have G4_9 := zset_ne (q := (ws.length + 24)) (e' := (q10, zI4 E 8 (upd (fun _ => 0) 0 0))) (Nat.ne_of_gt (Nat.lt_of_lt_of_le bFa9 (Nat.le_add_right _ _))) G3_9
  have G4_10 := zset_ne (q := (ws.length + 24)) (e' := (q10, zI4 E 8 (upd (fun _ => 0) 0 0))) (Nat.ne_of_gt (Nat.lt_of_lt_of_le bFa10 (Nat.le_add_right _ _))) G3_10
  have G4_11 := zset_ne (q := (ws.length + 24)) (e' := (q10, zI4 E 8 (upd (fun _ => 0) 0 0))) (fun h9 => absurd (Nat.add_left_cancel h9) (by decide)) G3_11
  have G4_12 := zset_ne (q := (ws.length + 24)) (e' := (q10, zI4 E 8 (upd (fun _ => 0) 0 0))) (fun h9 => absurd (Nat.add_left_cancel h9) (by decide)) G3_12
  have G4_13 := zset_ne (q := (ws.length + 24)) (e' := (q10, zI4 E 8 (upd (fun _ => 0) 0 0))) (fun h9 => absurd (Nat.add_left_cancel h9) (by decide)) G3_13
  have G4_14 := zset_ne (q := (ws.length + 24)) (e' := (q10, zI4 E 8 (upd (fun _ => 0) 0 0))) (fun h9 => absurd (Nat.add_left_cancel h9) (by decide)) G3_14
  have G4_15 := zset_eq (e' := (q10, zI4 E 8 (upd (fun _ => 0) 0 0))) G3_n
  generalize hws4 : (ws_3.set (ws.length + 24) (q10, zI4 E 8 (upd (fun _ => 0) 0 0))) = ws_4 at J hlen hk G4_0 G4_1 G4_2 G4_3 G4_4 G4_5 G4_6 G4_7 G4_8 G4_9 G4_10 G4_11 G4_12 G4_13 G4_14 G4_15 hSN
  refine lv_dup hx hb dL_build_16 rfl ?_
  refine lv_iconst (v := nI 1) hx hb dL_build_17 rfl ?_
  refine lv_iconst (v := 1) hx hb dL_build_18 (by decide) ?_
  refine z_iast X J (ws.length + 24) G4_15 (vp_in_nI (by omega) (by first | decide | omega)) dL_build_19 (fun H locs J => ?_)
  rw [show upd (upd (fun _ => 0) 0 0) (nI 1).toNatClampNeg 1 = upd (upd (fun _ => 0) 0 0) 1 1 from (by rw [nI_clamp (by omega)])] at J
  have hSN := hSN.keep (zK.set (S := [(ws.length + 24)]) (ws := ws_4) (q := (ws.length + 24)) (e := (q10, zI4 E 8 (upd (upd (fun _ => 0) 0 0) 1 1))) (List.mem_singleton.mpr rfl)) (fun r9 hr9 => by simp only [List.mem_cons, rg_mem, List.not_mem_nil, or_false, not_or]; omega)
  have hk := hk.step (zK.set (S := [(ws.length + 24)]) (ws := ws_4) (q := (ws.length + 24)) (e := (q10, zI4 E 8 (upd (upd (fun _ => 0) 0 0) 1 1))) (List.mem_singleton.mpr rfl)) (fun q9 a9 n9 f9 h8 h7 h9 => by simp only [List.mem_cons, rg_mem, List.not_mem_nil, or_false, not_or]; omega)
  have hlen : (ws_4.set (ws.length + 24) (q10, zI4 E 8 (upd (upd (fun _ => 0) 0 0) 1 1))).length = ws.length + 25 := (List.length_set ..).trans hlen
  have G5_0 := zset_ne (q := (ws.length + 24)) (e' := (q10, zI4 E 8 (upd (upd (fun _ => 0) 0 0) 1 1))) (Nat.ne_of_gt (Nat.lt_of_lt_of_le bFa0 (Nat.le_add_right _ _))) G4_0
  have G5_1 := zset_ne (q := (ws.length + 24)) (e' := (q10, zI4 E 8 (upd (upd (fun _ => 0) 0 0) 1 1))) (Nat.ne_of_gt (Nat.lt_of_lt_of_le bFa1 (Nat.le_add_right _ _))) G4_1
  have G5_2 := zset_ne (q := (ws.length + 24)) (e' := (q10, zI4 E 8 (upd (upd (fun _ => 0) 0 0) 1 1))) (Nat.ne_of_gt (Nat.lt_of_lt_of_le bFa2 (Nat.le_add_right _ _))) G4_2
  have G5_3 := zset_ne (q := (ws.length + 24)) (e' := (q10, zI4 E 8 (upd (upd (fun _ => 0) 0 0) 1 1))) (Nat.ne_of_gt (Nat.lt_of_lt_of_le bFa3 (Nat.le_add_right _ _))) G4_3
  have G5_4 := zset_ne (q := (ws.length + 24)) (e' := (q10, zI4 E 8 (upd (upd (fun _ => 0) 0 0) 1 1))) (Nat.ne_of_gt (Nat.lt_of_lt_of_le bFa4 (Nat.le_add_right _ _))) G4_4
  have G5_5 := zset_ne (q := (ws.length + 24)) (e' := (q10, zI4 E 8 (upd (upd (fun _ => 0) 0 0) 1 1))) (Nat.ne_of_gt (Nat.lt_of_lt_of_le bFa5 (Nat.le_add_right _ _))) G4_5
  have G5_6 := zset_ne (q := (ws.length + 24)) (e' := (q10, zI4 E 8 (upd (upd (fun _ => 0) 0 0) 1 1))) (Nat.ne_of_gt (Nat.lt_of_lt_of_le bFa6 (Nat.le_add_right _ _))) G4_6
  have G5_7 := zset_ne (q := (ws.length + 24)) (e' := (q10, zI4 E 8 (upd (upd (fun _ => 0) 0 0) 1 1))) (Nat.ne_of_gt (Nat.lt_of_lt_of_le bFa7 (Nat.le_add_right _ _))) G4_7
  have G5_8 := zset_ne (q := (ws.length + 24)) (e' := (q10, zI4 E 8 (upd (upd (fun _ => 0) 0 0) 1 1))) (Nat.ne_of_gt (Nat.lt_of_lt_of_le bFa8 (Nat.le_add_right _ _))) G4_8
  have G5_9 := zset_ne (q := (ws.length + 24)) (e' := (q10, zI4 E 8 (upd (upd (fun _ => 0) 0 0) 1 1))) (Nat.ne_of_gt (Nat.lt_of_lt_of_le bFa9 (Nat.le_add_right _ _))) G4_9
  have G5_10 := zset_ne (q := (ws.length + 24)) (e' := (q10, zI4 E 8 (upd (upd (fun _ => 0) 0 0) 1 1))) (Nat.ne_of_gt (Nat.lt_of_lt_of_le bFa10 (Nat.le_add_right _ _))) G4_10
  have G5_11 := zset_ne (q := (ws.length + 24)) (e' := (q10, zI4 E 8 (upd (upd (fun _ => 0) 0 0) 1 1))) (fun h9 => absurd (Nat.add_left_cancel h9) (by decide)) G4_11
  have G5_12 := zset_ne (q := (ws.length + 24)) (e' := (q10, zI4 E 8 (upd (upd (fun _ => 0) 0 0) 1 1))) (fun h9 => absurd (Nat.add_left_cancel h9) (by decide)) G4_12
  have G5_13 := zset_ne (q := (ws.length + 24)) (e' := (q10, zI4 E 8 (upd (upd (fun _ => 0) 0 0) 1 1))) (fun h9 => absurd (Nat.add_left_cancel h9) (by decide)) G4_13
  have G5_14 := zset_ne (q := (ws.length + 24)) (e' := (q10, zI4 E 8 (upd (upd (fun _ => 0) 0 0) 1 1))) (fun h9 => absurd (Nat.add_left_cancel h9) (by decide)) G4_14
  have G5_15 := zset_eq (e' := (q10, zI4 E 8 (upd (upd (fun _ => 0) 0 0) 1 1))) G4_15
  generalize hws5 : (ws_4.set (ws.length + 24) (q10, zI4 E 8 (upd (upd (fun _ => 0) 0 0) 1 1))) = ws_5 at J hlen hk G5_0 G5_1 G5_2 G5_3 G5_4 G5_5 G5_6 G5_7 G5_8 G5_9 G5_10 G5_11 G5_12 G5_13 G5_14 G5_15 hSN
  refine lv_dup hx hb dL_build_20 rfl ?_
  refine lv_iconst (v := nI 2) hx hb dL_build_21 rfl ?_
  refine lv_iconst (v := 5) hx hb dL_build_22 (by decide) ?_
  refine z_iast X J (ws.length + 24) G5_15 (vp_in_nI (by omega) (by first | decide | omega)) dL_build_23 (fun H locs J => ?_)
  rw [show upd (upd (upd (fun _ => 0) 0 0) 1 1) (nI 2).toNatClampNeg 5 = upd (upd (upd (fun _ => 0) 0 0) 1 1) 2 5 from (by rw [nI_clamp (by omega)])] at J
  have hSN := hSN.keep (zK.set (S := [(ws.length + 24)]) (ws := ws_5) (q := (ws.length + 24)) (e := (q10, zI4 E 8 (upd (upd (upd (fun _ => 0) 0 0) 1 1) 2 5))) (List.mem_singleton.mpr rfl)) (fun r9 hr9 => by simp only [List.mem_cons, rg_mem, List.not_mem_nil, or_false, not_or]; omega)
  have hk := hk.step (zK.set (S := [(ws.length + 24)]) (ws := ws_5) (q := (ws.length + 24)) (e := (q10, zI4 E 8 (upd (upd (upd (fun _ => 0) 0 0) 1 1) 2 5))) (List.mem_singleton.mpr rfl)) (fun q9 a9 n9 f9 h8 h7 h9 => by simp only [List.mem_cons, rg_mem, List.not_mem_nil, or_false, not_or]; omega)
  have hlen : (ws_5.set (ws.length + 24) (q10, zI4 E 8 (upd (upd (upd (fun _ => 0) 0 0) 1 1) 2 5))).length = ws.length + 25 := (List.length_set ..).trans hlen
  have G6_0 := zset_ne (q := (ws.length + 24)) (e' := (q10, zI4 E 8 (upd (upd (upd (fun _ => 0) 0 0) 1 1) 2 5))) (Nat.ne_of_gt (Nat.lt_of_lt_of_le bFa0 (Nat.le_add_right _ _))) G5_0
  have G6_1 := zset_ne (q := (ws.length + 24)) (e' := (q10, zI4 E 8 (upd (upd (upd (fun _ => 0) 0 0) 1 1) 2 5))) (Nat.ne_of_gt (Nat.lt_of_lt_of_le bFa1 (Nat.le_add_right _ _))) G5_1
  have G6_2 := zset_ne (q := (ws.length + 24)) (e' := (q10, zI4 E 8 (upd (upd (upd (fun _ => 0) 0 0) 1 1) 2 5))) (Nat.ne_of_gt (Nat.lt_of_lt_of_le bFa2 (Nat.le_add_right _ _))) G5_2
  have G6_3 := zset_ne (q := (ws.length + 24)) (e' := (q10, zI4 E 8 (upd (upd (upd (fun _ => 0) 0 0) 1 1) 2 5))) (Nat.ne_of_gt (Nat.lt_of_lt_of_le bFa3 (Nat.le_add_right _ _))) G5_3
  have G6_4 := zset_ne (q := (ws.length + 24)) (e' := (q10, zI4 E 8 (upd (upd (upd (fun _ => 0) 0 0) 1 1) 2 5))) (Nat.ne_of_gt (Nat.lt_of_lt_of_le bFa4 (Nat.le_add_right _ _))) G5_4
  have G6_5 := zset_ne (q := (ws.length + 24)) (e' := (q10, zI4 E 8 (upd (upd (upd (fun _ => 0) 0 0) 1 1) 2 5))) (Nat.ne_of_gt (Nat.lt_of_lt_of_le bFa5 (Nat.le_add_right _ _))) G5_5
  have G6_6 := zset_ne (q := (ws.length + 24)) (e' := (q10, zI4 E 8 (upd (upd (upd (fun _ => 0) 0 0) 1 1) 2 5))) (Nat.ne_of_gt (Nat.lt_of_lt_of_le bFa6 (Nat.le_add_right _ _))) G5_6
  have G6_7 := zset_ne (q := (ws.length + 24)) (e' := (q10, zI4 E 8 (upd (upd (upd (fun _ => 0) 0 0) 1 1) 2 5))) (Nat.ne_of_gt (Nat.lt_of_lt_of_le bFa7 (Nat.le_add_right _ _))) G5_7
  have G6_8 := zset_ne (q := (ws.length + 24)) (e' := (q10, zI4 E 8 (upd (upd (upd (fun _ => 0) 0 0) 1 1) 2 5))) (Nat.ne_of_gt (Nat.lt_of_lt_of_le bFa8 (Nat.le_add_right _ _))) G5_8
  have G6_9 := zset_ne (q := (ws.length + 24)) (e' := (q10, zI4 E 8 (upd (upd (upd (fun _ => 0) 0 0) 1 1) 2 5))) (Nat.ne_of_gt (Nat.lt_of_lt_of_le bFa9 (Nat.le_add_right _ _))) G5_9
  have G6_10 := zset_ne (q := (ws.length + 24)) (e' := (q10, zI4 E 8 (upd (upd (upd (fun _ => 0) 0 0) 1 1) 2 5))) (Nat.ne_of_gt (Nat.lt_of_lt_of_le bFa10 (Nat.le_add_right _ _))) G5_10
  have G6_11 := zset_ne (q := (ws.length + 24)) (e' := (q10, zI4 E 8 (upd (upd (upd (fun _ => 0) 0 0) 1 1) 2 5))) (fun h9 => absurd (Nat.add_left_cancel h9) (by decide)) G5_11
  have G6_12 := zset_ne (q := (ws.length + 24)) (e' := (q10, zI4 E 8 (upd (upd (upd (fun _ => 0) 0 0) 1 1) 2 5))) (fun h9 => absurd (Nat.add_left_cancel h9) (by decide)) G5_12
  have G6_13 := zset_ne (q := (ws.length + 24)) (e' := (q10, zI4 E 8 (upd (upd (upd (fun _ => 0) 0 0) 1 1) 2 5))) (fun h9 => absurd (Nat.add_left_cancel h9) (by decide)) G5_13
  have G6_14 := zset_ne (q := (ws.length + 24)) (e' := (q10, zI4 E 8 (upd (upd (upd (fun _ => 0) 0 0) 1 1) 2 5))) (fun h9 => absurd (Nat.add_left_cancel h9) (by decide)) G5_14
  have G6_15 := zset_eq (e' := (q10, zI4 E 8 (upd (upd (upd (fun _ => 0) 0 0) 1 1) 2 5))) G5_15
  generalize hws6 : (ws_5.set (ws.length + 24) (q10, zI4 E 8 (upd (upd (upd (fun _ => 0) 0 0) 1 1) 2 5))) = ws_6 at J hlen hk G6_0 G6_1 G6_2 G6_3 G6_4 G6_5 G6_6 G6_7 G6_8 G6_9 G6_10 G6_11 G6_12 G6_13 G6_14 G6_15 hSN
  refine lv_dup hx hb dL_build_24 rfl ?_
  refine lv_iconst (v := nI 3) hx hb dL_build_25 rfl ?_
  refine lv_bipush (v := 8) hx hb dL_build_26 (by decide) ?_
  refine z_iast X J (ws.length + 24) G6_15 (vp_in_nI (by omega) (by first | decide | omega)) dL_build_28 (fun H locs J => ?_)
  rw [show upd (upd (upd (upd (fun _ => 0) 0 0) 1 1) 2 5) (nI 3).toNatClampNeg 8 = upd (upd (upd (upd (fun _ => 0) 0 0) 1 1) 2 5) 3 8 from (by rw [nI_clamp (by omega)])] at J
  have hSN := hSN.keep (zK.set (S := [(ws.length + 24)]) (ws := ws_6) (q := (ws.length + 24)) (e := (q10, zI4 E 8 (upd (upd (upd (upd (fun _ => 0) 0 0) 1 1) 2 5) 3 8))) (List.mem_singleton.mpr rfl)) (fun r9 hr9 => by simp only [List.mem_cons, rg_mem, List.not_mem_nil, or_false, not_or]; omega)
  have hk := hk.step (zK.set (S := [(ws.length + 24)]) (ws := ws_6) (q := (ws.length + 24)) (e := (q10, zI4 E 8 (upd (upd (upd (upd (fun _ => 0) 0 0) 1 1) 2 5) 3 8))) (List.mem_singleton.mpr rfl)) (fun q9 a9 n9 f9 h8 h7 h9 => by simp only [List.mem_cons, rg_mem, List.not_mem_nil, or_false, not_or]; omega)
  have hlen : (ws_6.set (ws.length + 24) (q10, zI4 E 8 (upd (upd (upd (upd (fun _ => 0) 0 0) 1 1) 2 5) 3 8))).length = ws.length + 25 := (List.length_set ..).trans hlen
  have G7_0 := zset_ne (q := (ws.length + 24)) (e' := (q10, zI4 E 8 (upd (upd (upd (upd (fun _ => 0) 0 0) 1 1) 2 5) 3 8))) (Nat.ne_of_gt (Nat.lt_of_lt_of_le bFa0 (Nat.le_add_right _ _))) G6_0
  have G7_1 := zset_ne (q := (ws.length + 24)) (e' := (q10, zI4 E 8 (upd (upd (upd (upd (fun _ => 0) 0 0) 1 1) 2 5) 3 8))) (Nat.ne_of_gt (Nat.lt_of_lt_of_le bFa1 (Nat.le_add_right _ _))) G6_1
  have G7_2 := zset_ne (q := (ws.length + 24)) (e' := (q10, zI4 E 8 (upd (upd (upd (upd (fun _ => 0) 0 0) 1 1) 2 5) 3 8))) (Nat.ne_of_gt (Nat.lt_of_lt_of_le bFa2 (Nat.le_add_right _ _))) G6_2
  have G7_3 := zset_ne (q := (ws.length + 24)) (e' := (q10, zI4 E 8 (upd (upd (upd (upd (fun _ => 0) 0 0) 1 1) 2 5) 3 8))) (Nat.ne_of_gt (Nat.lt_of_lt_of_le bFa3 (Nat.le_add_right _ _))) G6_3
  have G7_4 := zset_ne (q := (ws.length + 24)) (e' := (q10, zI4 E 8 (upd (upd (upd (upd (fun _ => 0) 0 0) 1 1) 2 5) 3 8))) (Nat.ne_of_gt (Nat.lt_of_lt_of_le bFa4 (Nat.le_add_right _ _))) G6_4
  have G7_5 := zset_ne (q := (ws.length + 24)) (e' := (q10, zI4 E 8 (upd (upd (upd (upd (fun _ => 0) 0 0) 1 1) 2 5) 3 8))) (Nat.ne_of_gt (Nat.lt_of_lt_of_le bFa5 (Nat.le_add_right _ _))) G6_5
  have G7_6 := zset_ne (q := (ws.length + 24)) (e' := (q10, zI4 E 8 (upd (upd (upd (upd (fun _ => 0) 0 0) 1 1) 2 5) 3 8))) (Nat.ne_of_gt (Nat.lt_of_lt_of_le bFa6 (Nat.le_add_right _ _))) G6_6
  have G7_7 := zset_ne (q := (ws.length + 24)) (e' := (q10, zI4 E 8 (upd (upd (upd (upd (fun _ => 0) 0 0) 1 1) 2 5) 3 8))) (Nat.ne_of_gt (Nat.lt_of_lt_of_le bFa7 (Nat.le_add_right _ _))) G6_7
  have G7_8 := zset_ne (q := (ws.length + 24)) (e' := (q10, zI4 E 8 (upd (upd (upd (upd (fun _ => 0) 0 0) 1 1) 2 5) 3 8))) (Nat.ne_of_gt (Nat.lt_of_lt_of_le bFa8 (Nat.le_add_right _ _))) G6_8
  have G7_9 := zset_ne (q := (ws.length + 24)) (e' := (q10, zI4 E 8 (upd (upd (upd (upd (fun _ => 0) 0 0) 1 1) 2 5) 3 8))) (Nat.ne_of_gt (Nat.lt_of_lt_of_le bFa9 (Nat.le_add_right _ _))) G6_9
  have G7_10 := zset_ne (q := (ws.length + 24)) (e' := (q10, zI4 E 8 (upd (upd (upd (upd (fun _ => 0) 0 0) 1 1) 2 5) 3 8))) (Nat.ne_of_gt (Nat.lt_of_lt_of_le bFa10 (Nat.le_add_right _ _))) G6_10
  have G7_11 := zset_ne (q := (ws.length + 24)) (e' := (q10, zI4 E 8 (upd (upd (upd (upd (fun _ => 0) 0 0) 1 1) 2 5) 3 8))) (fun h9 => absurd (Nat.add_left_cancel h9) (by decide)) G6_11
  have G7_12 := zset_ne (q := (ws.length + 24)) (e' := (q10, zI4 E 8 (upd (upd (upd (upd (fun _ => 0) 0 0) 1 1) 2 5) 3 8))) (fun h9 => absurd (Nat.add_left_cancel h9) (by decide)) G6_12
  have G7_13 := zset_ne (q := (ws.length + 24)) (e' := (q10, zI4 E 8 (upd (upd (upd (upd (fun _ => 0) 0 0) 1 1) 2 5) 3 8))) (fun h9 => absurd (Nat.add_left_cancel h9) (by decide)) G6_13
  have G7_14 := zset_ne (q := (ws.length + 24)) (e' := (q10, zI4 E 8 (upd (upd (upd (upd (fun _ => 0) 0 0) 1 1) 2 5) 3 8))) (fun h9 => absurd (Nat.add_left_cancel h9) (by decide)) G6_14
  have G7_15 := zset_eq (e' := (q10, zI4 E 8 (upd (upd (upd (upd (fun _ => 0) 0 0) 1 1) 2 5) 3 8))) G6_15
  generalize hws7 : (ws_6.set (ws.length + 24) (q10, zI4 E 8 (upd (upd (upd (upd (fun _ => 0) 0 0) 1 1) 2 5) 3 8))) = ws_7 at J hlen hk G7_0 G7_1 G7_2 G7_3 G7_4 G7_5 G7_6 G7_7 G7_8 G7_9 G7_10 G7_11 G7_12 G7_13 G7_14 G7_15 hSN
  refine lv_dup hx hb dL_build_29 rfl ?_
  refine lv_iconst (v := nI 4) hx hb dL_build_30 rfl ?_
  refine lv_iconst (v := 0) hx hb dL_build_31 (by decide) ?_
  refine z_iast X J (ws.length + 24) G7_15 (vp_in_nI (by omega) (by first | decide | omega)) dL_build_32 (fun H locs J => ?_)
  rw [show upd (upd (upd (upd (upd (fun _ => 0) 0 0) 1 1) 2 5) 3 8) (nI 4).toNatClampNeg 0 = upd (upd (upd (upd (upd (fun _ => 0) 0 0) 1 1) 2 5) 3 8) 4 0 from (by rw [nI_clamp (by omega)])] at J
  have hSN := hSN.keep (zK.set (S := [(ws.length + 24)]) (ws := ws_7) (q := (ws.length + 24)) (e := (q10, zI4 E 8 (upd (upd (upd (upd (upd (fun _ => 0) 0 0) 1 1) 2 5) 3 8) 4 0))) (List.mem_singleton.mpr rfl)) (fun r9 hr9 => by simp only [List.mem_cons, rg_mem, List.not_mem_nil, or_false, not_or]; omega)
  have hk := hk.step (zK.set (S := [(ws.length + 24)]) (ws := ws_7) (q := (ws.length + 24)) (e := (q10, zI4 E 8 (upd (upd (upd (upd (upd (fun _ => 0) 0 0) 1 1) 2 5) 3 8) 4 0))) (List.mem_singleton.mpr rfl)) (fun q9 a9 n9 f9 h8 h7 h9 => by simp only [List.mem_cons, rg_mem, List.not_mem_nil, or_false, not_or]; omega)
  have hlen : (ws_7.set (ws.length + 24) (q10, zI4 E 8 (upd (upd (upd (upd (upd (fun _ => 0) 0 0) 1 1) 2 5) 3 8) 4 0))).length = ws.length + 25 := (List.length_set ..).trans hlen
  have G8_0 := zset_ne (q := (ws.length + 24)) (e' := (q10, zI4 E 8 (upd (upd (upd (upd (upd (fun _ => 0) 0 0) 1 1) 2 5) 3 8) 4 0))) (Nat.ne_of_gt (Nat.lt_of_lt_of_le bFa0 (Nat.le_add_right _ _))) G7_0
  have G8_1 := zset_ne (q := (ws.length + 24)) (e' := (q10, zI4 E 8 (upd (upd (upd (upd (upd (fun _ => 0) 0 0) 1 1) 2 5) 3 8) 4 0))) (Nat.ne_of_gt (Nat.lt_of_lt_of_le bFa1 (Nat.le_add_right _ _))) G7_1
  have G8_2 := zset_ne (q := (ws.length + 24)) (e' := (q10, zI4 E 8 (upd (upd (upd (upd (upd (fun _ => 0) 0 0) 1 1) 2 5) 3 8) 4 0))) (Nat.ne_of_gt (Nat.lt_of_lt_of_le bFa2 (Nat.le_add_right _ _))) G7_2
  have G8_3 := zset_ne (q := (ws.length + 24)) (e' := (q10, zI4 E 8 (upd (upd (upd (upd (upd (fun _ => 0) 0 0) 1 1) 2 5) 3 8) 4 0))) (Nat.ne_of_gt (Nat.lt_of_lt_of_le bFa3 (Nat.le_add_right _ _))) G7_3
  have G8_4 := zset_ne (q := (ws.length + 24)) (e' := (q10, zI4 E 8 (upd (upd (upd (upd (upd (fun _ => 0) 0 0) 1 1) 2 5) 3 8) 4 0))) (Nat.ne_of_gt (Nat.lt_of_lt_of_le bFa4 (Nat.le_add_right _ _))) G7_4
  have G8_5 := zset_ne (q := (ws.length + 24)) (e' := (q10, zI4 E 8 (upd (upd (upd (upd (upd (fun _ => 0) 0 0) 1 1) 2 5) 3 8) 4 0))) (Nat.ne_of_gt (Nat.lt_of_lt_of_le bFa5 (Nat.le_add_right _ _))) G7_5
  have G8_6 := zset_ne (q := (ws.length + 24)) (e' := (q10, zI4 E 8 (upd (upd (upd (upd (upd (fun _ => 0) 0 0) 1 1) 2 5) 3 8) 4 0))) (Nat.ne_of_gt (Nat.lt_of_lt_of_le bFa6 (Nat.le_add_right _ _))) G7_6
  have G8_7 := zset_ne (q := (ws.length + 24)) (e' := (q10, zI4 E 8 (upd (upd (upd (upd (upd (fun _ => 0) 0 0) 1 1) 2 5) 3 8) 4 0))) (Nat.ne_of_gt (Nat.lt_of_lt_of_le bFa7 (Nat.le_add_right _ _))) G7_7
  have G8_8 := zset_ne (q := (ws.length + 24)) (e' := (q10, zI4 E 8 (upd (upd (upd (upd (upd (fun _ => 0) 0 0) 1 1) 2 5) 3 8) 4 0))) (Nat.ne_of_gt (Nat.lt_of_lt_of_le bFa8 (Nat.le_add_right _ _))) G7_8
  have G8_9 := zset_ne (q := (ws.length + 24)) (e' := (q10, zI4 E 8 (upd (upd (upd (upd (upd (fun _ => 0) 0 0) 1 1) 2 5) 3 8) 4 0))) (Nat.ne_of_gt (Nat.lt_of_lt_of_le bFa9 (Nat.le_add_right _ _))) G7_9
  have G8_10 := zset_ne (q := (ws.length + 24)) (e' := (q10, zI4 E 8 (upd (upd (upd (upd (upd (fun _ => 0) 0 0) 1 1) 2 5) 3 8) 4 0))) (Nat.ne_of_gt (Nat.lt_of_lt_of_le bFa10 (Nat.le_add_right _ _))) G7_10
  have G8_11 := zset_ne (q := (ws.length + 24)) (e' := (q10, zI4 E 8 (upd (upd (upd (upd (upd (fun _ => 0) 0 0) 1 1) 2 5) 3 8) 4 0))) (fun h9 => absurd (Nat.add_left_cancel h9) (by decide)) G7_11
  have G8_12 := zset_ne (q := (ws.length + 24)) (e' := (q10, zI4 E 8 (upd (upd (upd (upd (upd (fun _ => 0) 0 0) 1 1) 2 5) 3 8) 4 0))) (fun h9 => absurd (Nat.add_left_cancel h9) (by decide)) G7_12
  have G8_13 := zset_ne (q := (ws.length + 24)) (e' := (q10, zI4 E 8 (upd (upd (upd (upd (upd (fun _ => 0) 0 0) 1 1) 2 5) 3 8) 4 0))) (fun h9 => absurd (Nat.add_left_cancel h9) (by decide)) G7_13
  have G8_14 := zset_ne (q := (ws.length + 24)) (e' := (q10, zI4 E 8 (upd (upd (upd (upd (upd (fun _ => 0) 0 0) 1 1) 2 5) 3 8) 4 0))) (fun h9 => absurd (Nat.add_left_cancel h9) (by decide)) G7_14
  have G8_15 := zset_eq (e' := (q10, zI4 E 8 (upd (upd (upd (upd (upd (fun _ => 0) 0 0) 1 1) 2 5) 3 8) 4 0))) G7_15
  generalize hws8 : (ws_7.set (ws.length + 24) (q10, zI4 E 8 (upd (upd (upd (upd (upd (fun _ => 0) 0 0) 1 1) 2 5) 3 8) 4 0))) = ws_8 at J hlen hk G8_0 G8_1 G8_2 G8_3 G8_4 G8_5 G8_6 G8_7 G8_8 G8_9 G8_10 G8_11 G8_12 G8_13 G8_14 G8_15 hSN
  refine lv_dup hx hb dL_build_33 rfl ?_
  refine lv_iconst (v := nI 5) hx hb dL_build_34 rfl ?_
  refine lv_iconst (v := 5) hx hb dL_build_35 (by decide) ?_
  refine z_iast X J (ws.length + 24) G8_15 (vp_in_nI (by omega) (by first | decide | omega)) dL_build_36 (fun H locs J => ?_)
  rw [show upd (upd (upd (upd (upd (upd (fun _ => 0) 0 0) 1 1) 2 5) 3 8) 4 0) (nI 5).toNatClampNeg 5 = upd (upd (upd (upd (upd (upd (fun _ => 0) 0 0) 1 1) 2 5) 3 8) 4 0) 5 5 from (by rw [nI_clamp (by omega)])] at J
  have hSN := hSN.keep (zK.set (S := [(ws.length + 24)]) (ws := ws_8) (q := (ws.length + 24)) (e := (q10, zI4 E 8 (upd (upd (upd (upd (upd (upd (fun _ => 0) 0 0) 1 1) 2 5) 3 8) 4 0) 5 5))) (List.mem_singleton.mpr rfl)) (fun r9 hr9 => by simp only [List.mem_cons, rg_mem, List.not_mem_nil, or_false, not_or]; omega)
  have hk := hk.step (zK.set (S := [(ws.length + 24)]) (ws := ws_8) (q := (ws.length + 24)) (e := (q10, zI4 E 8 (upd (upd (upd (upd (upd (upd (fun _ => 0) 0 0) 1 1) 2 5) 3 8) 4 0) 5 5))) (List.mem_singleton.mpr rfl)) (fun q9 a9 n9 f9 h8 h7 h9 => by simp only [List.mem_cons, rg_mem, List.not_mem_nil, or_false, not_or]; omega)
  have hlen : (ws_8.set (ws.length + 24) (q10, zI4 E 8 (upd (upd (upd (upd (upd (upd (fun _ => 0) 0 0) 1 1) 2 5) 3 8) 4 0) 5 5))).length = ws.length + 25 := (List.length_set ..).trans hlen
  have G9_0 := zset_ne (q := (ws.length + 24)) (e' := (q10, zI4 E 8 (upd (upd (upd (upd (upd (upd (fun _ => 0) 0 0) 1 1) 2 5) 3 8) 4 0) 5 5))) (Nat.ne_of_gt (Nat.lt_of_lt_of_le bFa0 (Nat.le_add_right _ _))) G8_0
  have G9_1 := zset_ne (q := (ws.length + 24)) (e' := (q10, zI4 E 8 (upd (upd (upd (upd (upd (upd (fun _ => 0) 0 0) 1 1) 2 5) 3 8) 4 0) 5 5))) (Nat.ne_of_gt (Nat.lt_of_lt_of_le bFa1 (Nat.le_add_right _ _))) G8_1
  have G9_2 := zset_ne (q := (ws.length + 24)) (e' := (q10, zI4 E 8 (upd (upd (upd (upd (upd (upd (fun _ => 0) 0 0) 1 1) 2 5) 3 8) 4 0) 5 5))) (Nat.ne_of_gt (Nat.lt_of_lt_of_le bFa2 (Nat.le_add_right _ _))) G8_2
  have G9_3 := zset_ne (q := (ws.length + 24)) (e' := (q10, zI4 E 8 (upd (upd (upd (upd (upd (upd (fun _ => 0) 0 0) 1 1) 2 5) 3 8) 4 0) 5 5))) (Nat.ne_of_gt (Nat.lt_of_lt_of_le bFa3 (Nat.le_add_right _ _))) G8_3
  have G9_4 := zset_ne (q := (ws.length + 24)) (e' := (q10, zI4 E 8 (upd (upd (upd (upd (upd (upd (fun _ => 0) 0 0) 1 1) 2 5) 3 8) 4 0) 5 5))) (Nat.ne_of_gt (Nat.lt_of_lt_of_le bFa4 (Nat.le_add_right _ _))) G8_4
  have G9_5 := zset_ne (q := (ws.length + 24)) (e' := (q10, zI4 E 8 (upd (upd (upd (upd (upd (upd (fun _ => 0) 0 0) 1 1) 2 5) 3 8) 4 0) 5 5))) (Nat.ne_of_gt (Nat.lt_of_lt_of_le bFa5 (Nat.le_add_right _ _))) G8_5
  have G9_6 := zset_ne (q := (ws.length + 24)) (e' := (q10, zI4 E 8 (upd (upd (upd (upd (upd (upd (fun _ => 0) 0 0) 1 1) 2 5) 3 8) 4 0) 5 5))) (Nat.ne_of_gt (Nat.lt_of_lt_of_le bFa6 (Nat.le_add_right _ _))) G8_6
  have G9_7 := zset_ne (q := (ws.length + 24)) (e' := (q10, zI4 E 8 (upd (upd (upd (upd (upd (upd (fun _ => 0) 0 0) 1 1) 2 5) 3 8) 4 0) 5 5))) (Nat.ne_of_gt (Nat.lt_of_lt_of_le bFa7 (Nat.le_add_right _ _))) G8_7
  have G9_8 := zset_ne (q := (ws.length + 24)) (e' := (q10, zI4 E 8 (upd (upd (upd (upd (upd (upd (fun _ => 0) 0 0) 1 1) 2 5) 3 8) 4 0) 5 5))) (Nat.ne_of_gt (Nat.lt_of_lt_of_le bFa8 (Nat.le_add_right _ _))) G8_8
  have G9_9 := zset_ne (q := (ws.length + 24)) (e' := (q10, zI4 E 8 (upd (upd (upd (upd (upd (upd (fun _ => 0) 0 0) 1 1) 2 5) 3 8) 4 0) 5 5))) (Nat.ne_of_gt (Nat.lt_of_lt_of_le bFa9 (Nat.le_add_right _ _))) G8_9
  have G9_10 := zset_ne (q := (ws.length + 24)) (e' := (q10, zI4 E 8 (upd (upd (upd (upd (upd (upd (fun _ => 0) 0 0) 1 1) 2 5) 3 8) 4 0) 5 5))) (Nat.ne_of_gt (Nat.lt_of_lt_of_le bFa10 (Nat.le_add_right _ _))) G8_10
  have G9_11 := zset_ne (q := (ws.length + 24)) (e' := (q10, zI4 E 8 (upd (upd (upd (upd (upd (upd (fun _ => 0) 0 0) 1 1) 2 5) 3 8) 4 0) 5 5))) (fun h9 => absurd (Nat.add_left_cancel h9) (by decide)) G8_11
  have G9_12 := zset_ne (q := (ws.length + 24)) (e' := (q10, zI4 E 8 (upd (upd (upd (upd (upd (upd (fun _ => 0) 0 0) 1 1) 2 5) 3 8) 4 0) 5 5))) (fun h9 => absurd (Nat.add_left_cancel h9) (by decide)) G8_12
  have G9_13 := zset_ne (q := (ws.length + 24)) (e' := (q10, zI4 E 8 (upd (upd (upd (upd (upd (upd (fun _ => 0) 0 0) 1 1) 2 5) 3 8) 4 0) 5 5))) (fun h9 => absurd (Nat.add_left_cancel h9) (by decide)) G8_13
  have G9_14 := zset_ne (q := (ws.length + 24)) (e' := (q10, zI4 E 8 (upd (upd (upd (upd (upd (upd (fun _ => 0) 0 0) 1 1) 2 5) 3 8) 4 0) 5 5))) (fun h9 => absurd (Nat.add_left_cancel h9) (by decide)) G8_14
  have G9_15 := zset_eq (e' := (q10, zI4 E 8 (upd (upd (upd (upd (upd (upd (fun _ => 0) 0 0) 1 1) 2 5) 3 8) 4 0) 5 5))) G8_15
  generalize hws9 : (ws_8.set (ws.length + 24) (q10, zI4 E 8 (upd (upd (upd (upd (upd (upd (fun _ => 0) 0 0) 1 1) 2 5) 3 8) 4 0) 5 5))) = ws_9 at J hlen hk G9_0 G9_1 G9_2 G9_3 G9_4 G9_5 G9_6 G9_7 G9_8 G9_9 G9_10 G9_11 G9_12 G9_13 G9_14 G9_15 hSN
  refine lv_dup hx hb dL_build_37 rfl ?_
  refine lv_bipush (v := nI 6) hx hb dL_build_38 (by decide) ?_
  refine lv_bipush (v := 7) hx hb dL_build_40 (by decide) ?_
  refine z_iast X J (ws.length + 24) G9_15 (vp_in_nI (by omega) (by first | decide | omega)) dL_build_42 (fun H locs J => ?_)
  rw [show upd (upd (upd (upd (upd (upd (upd (fun _ => 0) 0 0) 1 1) 2 5) 3 8) 4 0) 5 5) (nI 6).toNatClampNeg 7 = upd (upd (upd (upd (upd (upd (upd (fun _ => 0) 0 0) 1 1) 2 5) 3 8) 4 0) 5 5) 6 7 from (by rw [nI_clamp (by omega)])] at J
  have hSN := hSN.keep (zK.set (S := [(ws.length + 24)]) (ws := ws_9) (q := (ws.length + 24)) (e := (q10, zI4 E 8 (upd (upd (upd (upd (upd (upd (upd (fun _ => 0) 0 0) 1 1) 2 5) 3 8) 4 0) 5 5) 6 7))) (List.mem_singleton.mpr rfl)) (fun r9 hr9 => by simp only [List.mem_cons, rg_mem, List.not_mem_nil, or_false, not_or]; omega)
  have hk := hk.step (zK.set (S := [(ws.length + 24)]) (ws := ws_9) (q := (ws.length + 24)) (e := (q10, zI4 E 8 (upd (upd (upd (upd (upd (upd (upd (fun _ => 0) 0 0) 1 1) 2 5) 3 8) 4 0) 5 5) 6 7))) (List.mem_singleton.mpr rfl)) (fun q9 a9 n9 f9 h8 h7 h9 => by simp only [List.mem_cons, rg_mem, List.not_mem_nil, or_false, not_or]; omega)
  have hlen : (ws_9.set (ws.length + 24) (q10, zI4 E 8 (upd (upd (upd (upd (upd (upd (upd (fun _ => 0) 0 0) 1 1) 2 5) 3 8) 4 0) 5 5) 6 7))).length = ws.length + 25 := (List.length_set ..).trans hlen
  have G10_0 := zset_ne (q := (ws.length + 24)) (e' := (q10, zI4 E 8 (upd (upd (upd (upd (upd (upd (upd (fun _ => 0) 0 0) 1 1) 2 5) 3 8) 4 0) 5 5) 6 7))) (Nat.ne_of_gt (Nat.lt_of_lt_of_le bFa0 (Nat.le_add_right _ _))) G9_0
  have G10_1 := zset_ne (q := (ws.length + 24)) (e' := (q10, zI4 E 8 (upd (upd (upd (upd (upd (upd (upd (fun _ => 0) 0 0) 1 1) 2 5) 3 8) 4 0) 5 5) 6 7))) (Nat.ne_of_gt (Nat.lt_of_lt_of_le bFa1 (Nat.le_add_right _ _))) G9_1
  have G10_2 := zset_ne (q := (ws.length + 24)) (e' := (q10, zI4 E 8 (upd (upd (upd (upd (upd (upd (upd (fun _ => 0) 0 0) 1 1) 2 5) 3 8) 4 0) 5 5) 6 7))) (Nat.ne_of_gt (Nat.lt_of_lt_of_le bFa2 (Nat.le_add_right _ _))) G9_2
  have G10_3 := zset_ne (q := (ws.length + 24)) (e' := (q10, zI4 E 8 (upd (upd (upd (upd (upd (upd (upd (fun _ => 0) 0 0) 1 1) 2 5) 3 8) 4 0) 5 5) 6 7))) (Nat.ne_of_gt (Nat.lt_of_lt_of_le bFa3 (Nat.le_add_right _ _))) G9_3
  have G10_4 := zset_ne (q := (ws.length + 24)) (e' := (q10, zI4 E 8 (upd (upd (upd (upd (upd (upd (upd (fun _ => 0) 0 0) 1 1) 2 5) 3 8) 4 0) 5 5) 6 7))) (Nat.ne_of_gt (Nat.lt_of_lt_of_le bFa4 (Nat.le_add_right _ _))) G9_4
  have G10_5 := zset_ne (q := (ws.length + 24)) (e' := (q10, zI4 E 8 (upd (upd (upd (upd (upd (upd (upd (fun _ => 0) 0 0) 1 1) 2 5) 3 8) 4 0) 5 5) 6 7))) (Nat.ne_of_gt (Nat.lt_of_lt_of_le bFa5 (Nat.le_add_right _ _))) G9_5
  have G10_6 := zset_ne (q := (ws.length + 24)) (e' := (q10, zI4 E 8 (upd (upd (upd (upd (upd (upd (upd (fun _ => 0) 0 0) 1 1) 2 5) 3 8) 4 0) 5 5) 6 7))) (Nat.ne_of_gt (Nat.lt_of_lt_of_le bFa6 (Nat.le_add_right _ _))) G9_6
  have G10_7 := zset_ne (q := (ws.length + 24)) (e' := (q10, zI4 E 8 (upd (upd (upd (upd (upd (upd (upd (fun _ => 0) 0 0) 1 1) 2 5) 3 8) 4 0) 5 5) 6 7))) (Nat.ne_of_gt (Nat.lt_of_lt_of_le bFa7 (Nat.le_add_right _ _))) G9_7
  have G10_8 := zset_ne (q := (ws.length + 24)) (e' := (q10, zI4 E 8 (upd (upd (upd (upd (upd (upd (upd (fun _ => 0) 0 0) 1 1) 2 5) 3 8) 4 0) 5 5) 6 7))) (Nat.ne_of_gt (Nat.lt_of_lt_of_le bFa8 (Nat.le_add_right _ _))) G9_8
  have G10_9 := zset_ne (q := (ws.length + 24)) (e' := (q10, zI4 E 8 (upd (upd (upd (upd (upd (upd (upd (fun _ => 0) 0 0) 1 1) 2 5) 3 8) 4 0) 5 5) 6 7))) (Nat.ne_of_gt (Nat.lt_of_lt_of_le bFa9 (Nat.le_add_right _ _))) G9_9
  have G10_10 := zset_ne (q := (ws.length + 24)) (e' := (q10, zI4 E 8 (upd (upd (upd (upd (upd (upd (upd (fun _ => 0) 0 0) 1 1) 2 5) 3 8) 4 0) 5 5) 6 7))) (Nat.ne_of_gt (Nat.lt_of_lt_of_le bFa10 (Nat.le_add_right _ _))) G9_10
  have G10_11 := zset_ne (q := (ws.length + 24)) (e' := (q10, zI4 E 8 (upd (upd (upd (upd (upd (upd (upd (fun _ => 0) 0 0) 1 1) 2 5) 3 8) 4 0) 5 5) 6 7))) (fun h9 => absurd (Nat.add_left_cancel h9) (by decide)) G9_11
  have G10_12 := zset_ne (q := (ws.length + 24)) (e' := (q10, zI4 E 8 (upd (upd (upd (upd (upd (upd (upd (fun _ => 0) 0 0) 1 1) 2 5) 3 8) 4 0) 5 5) 6 7))) (fun h9 => absurd (Nat.add_left_cancel h9) (by decide)) G9_12
  have G10_13 := zset_ne (q := (ws.length + 24)) (e' := (q10, zI4 E 8 (upd (upd (upd (upd (upd (upd (upd (fun _ => 0) 0 0) 1 1) 2 5) 3 8) 4 0) 5 5) 6 7))) (fun h9 => absurd (Nat.add_left_cancel h9) (by decide)) G9_13
  have G10_14 := zset_ne (q := (ws.length + 24)) (e' := (q10, zI4 E 8 (upd (upd (upd (upd (upd (upd (upd (fun _ => 0) 0 0) 1 1) 2 5) 3 8) 4 0) 5 5) 6 7))) (fun h9 => absurd (Nat.add_left_cancel h9) (by decide)) G9_14
  have G10_15 := zset_eq (e' := (q10, zI4 E 8 (upd (upd (upd (upd (upd (upd (upd (fun _ => 0) 0 0) 1 1) 2 5) 3 8) 4 0) 5 5) 6 7))) G9_15
  generalize hws10 : (ws_9.set (ws.length + 24) (q10, zI4 E 8 (upd (upd (upd (upd (upd (upd (upd (fun _ => 0) 0 0) 1 1) 2 5) 3 8) 4 0) 5 5) 6 7))) = ws_10 at J hlen hk G10_0 G10_1 G10_2 G10_3 G10_4 G10_5 G10_6 G10_7 G10_8 G10_9 G10_10 G10_11 G10_12 G10_13 G10_14 G10_15 hSN
  refine lv_dup hx hb dL_build_43 rfl ?_
  refine lv_bipush (v := nI 7) hx hb dL_build_44 (by decide) ?_
  refine lv_bipush (v := 8) hx hb dL_build_46 (by decide) ?_
  refine z_iast X J (ws.length + 24) G10_15 (vp_in_nI (by omega) (by first | decide | omega)) dL_build_48 (fun H locs J => ?_)
  rw [show upd (upd (upd (upd (upd (upd (upd (upd (fun _ => 0) 0 0) 1 1) 2 5) 3 8) 4 0) 5 5) 6 7) (nI 7).toNatClampNeg 8 = upd (upd (upd (upd (upd (upd (upd (upd (fun _ => 0) 0 0) 1 1) 2 5) 3 8) 4 0) 5 5) 6 7) 7 8 from (by rw [nI_clamp (by omega)])] at J
  have hSN := hSN.keep (zK.set (S := [(ws.length + 24)]) (ws := ws_10) (q := (ws.length + 24)) (e := (q10, zI4 E 8 (upd (upd (upd (upd (upd (upd (upd (upd (fun _ => 0) 0 0) 1 1) 2 5) 3 8) 4 0) 5 5) 6 7) 7 8))) (List.mem_singleton.mpr rfl)) (fun r9 hr9 => by simp only [List.mem_cons, rg_mem, List.not_mem_nil, or_false, not_or]; omega)
  have hk := hk.step (zK.set (S := [(ws.length + 24)]) (ws := ws_10) (q := (ws.length + 24)) (e := (q10, zI4 E 8 (upd (upd (upd (upd (upd (upd (upd (upd (fun _ => 0) 0 0) 1 1) 2 5) 3 8) 4 0) 5 5) 6 7) 7 8))) (List.mem_singleton.mpr rfl)) (fun q9 a9 n9 f9 h8 h7 h9 => by simp only [List.mem_cons, rg_mem, List.not_mem_nil, or_false, not_or]; omega)
  have hlen : (ws_10.set (ws.length + 24) (q10, zI4 E 8 (upd (upd (upd (upd (upd (upd (upd (upd (fun _ => 0) 0 0) 1 1) 2 5) 3 8) 4 0) 5 5) 6 7) 7 8))).length = ws.length + 25 := (List.length_set ..).trans hlen
  have G11_0 := zset_ne (q := (ws.length + 24)) (e' := (q10, zI4 E 8 (upd (upd (upd (upd (upd (upd (upd (upd (fun _ => 0) 0 0) 1 1) 2 5) 3 8) 4 0) 5 5) 6 7) 7 8))) (Nat.ne_of_gt (Nat.lt_of_lt_of_le bFa0 (Nat.le_add_right _ _))) G10_0
  have G11_1 := zset_ne (q := (ws.length + 24)) (e' := (q10, zI4 E 8 (upd (upd (upd (upd (upd (upd (upd (upd (fun _ => 0) 0 0) 1 1) 2 5) 3 8) 4 0) 5 5) 6 7) 7 8))) (Nat.ne_of_gt (Nat.lt_of_lt_of_le bFa1 (Nat.le_add_right _ _))) G10_1
  have G11_2 := zset_ne (q := (ws.length + 24)) (e' := (q10, zI4 E 8 (upd (upd (upd (upd (upd (upd (upd (upd (fun _ => 0) 0 0) 1 1) 2 5) 3 8) 4 0) 5 5) 6 7) 7 8))) (Nat.ne_of_gt (Nat.lt_of_lt_of_le bFa2 (Nat.le_add_right _ _))) G10_2
  have G11_3 := zset_ne (q := (ws.length + 24)) (e' := (q10, zI4 E 8 (upd (upd (upd (upd (upd (upd (upd (upd (fun _ => 0) 0 0) 1 1) 2 5) 3 8) 4 0) 5 5) 6 7) 7 8))) (Nat.ne_of_gt (Nat.lt_of_lt_of_le bFa3 (Nat.le_add_right _ _))) G10_3
  have G11_4 := zset_ne (q := (ws.length + 24)) (e' := (q10, zI4 E 8 (upd (upd (upd (upd (upd (upd (upd (upd (fun _ => 0) 0 0) 1 1) 2 5) 3 8) 4 0) 5 5) 6 7) 7 8))) (Nat.ne_of_gt (Nat.lt_of_lt_of_le bFa4 (Nat.le_add_right _ _))) G10_4
  have G11_5 := zset_ne (q := (ws.length + 24)) (e' := (q10, zI4 E 8 (upd (upd (upd (upd (upd (upd (upd (upd (fun _ => 0) 0 0) 1 1) 2 5) 3 8) 4 0) 5 5) 6 7) 7 8))) (Nat.ne_of_gt (Nat.lt_of_lt_of_le bFa5 (Nat.le_add_right _ _))) G10_5
  have G11_6 := zset_ne (q := (ws.length + 24)) (e' := (q10, zI4 E 8 (upd (upd (upd (upd (upd (upd (upd (upd (fun _ => 0) 0 0) 1 1) 2 5) 3 8) 4 0) 5 5) 6 7) 7 8))) (Nat.ne_of_gt (Nat.lt_of_lt_of_le bFa6 (Nat.le_add_right _ _))) G10_6
  have G11_7 := zset_ne (q := (ws.length + 24)) (e' := (q10, zI4 E 8 (upd (upd (upd (upd (upd (upd (upd (upd (fun _ => 0) 0 0) 1 1) 2 5) 3 8) 4 0) 5 5) 6 7) 7 8))) (Nat.ne_of_gt (Nat.lt_of_lt_of_le bFa7 (Nat.le_add_right _ _))) G10_7
  have G11_8 := zset_ne (q := (ws.length + 24)) (e' := (q10, zI4 E 8 (upd (upd (upd (upd (upd (upd (upd (upd (fun _ => 0) 0 0) 1 1) 2 5) 3 8) 4 0) 5 5) 6 7) 7 8))) (Nat.ne_of_gt (Nat.lt_of_lt_of_le bFa8 (Nat.le_add_right _ _))) G10_8
  have G11_9 := zset_ne (q := (ws.length + 24)) (e' := (q10, zI4 E 8 (upd (upd (upd (upd (upd (upd (upd (upd (fun _ => 0) 0 0) 1 1) 2 5) 3 8) 4 0) 5 5) 6 7) 7 8))) (Nat.ne_of_gt (Nat.lt_of_lt_of_le bFa9 (Nat.le_add_right _ _))) G10_9
  have G11_10 := zset_ne (q := (ws.length + 24)) (e' := (q10, zI4 E 8 (upd (upd (upd (upd (upd (upd (upd (upd (fun _ => 0) 0 0) 1 1) 2 5) 3 8) 4 0) 5 5) 6 7) 7 8))) (Nat.ne_of_gt (Nat.lt_of_lt_of_le bFa10 (Nat.le_add_right _ _))) G10_10
  have G11_11 := zset_ne (q := (ws.length + 24)) (e' := (q10, zI4 E 8 (upd (upd (upd (upd (upd (upd (upd (upd (fun _ => 0) 0 0) 1 1) 2 5) 3 8) 4 0) 5 5) 6 7) 7 8))) (fun h9 => absurd (Nat.add_left_cancel h9) (by decide)) G10_11
  have G11_12 := zset_ne (q := (ws.length + 24)) (e' := (q10, zI4 E 8 (upd (upd (upd (upd (upd (upd (upd (upd (fun _ => 0) 0 0) 1 1) 2 5) 3 8) 4 0) 5 5) 6 7) 7 8))) (fun h9 => absurd (Nat.add_left_cancel h9) (by decide)) G10_12
  have G11_13 := zset_ne (q := (ws.length + 24)) (e' := (q10, zI4 E 8 (upd (upd (upd (upd (upd (upd (upd (upd (fun _ => 0) 0 0) 1 1) 2 5) 3 8) 4 0) 5 5) 6 7) 7 8))) (fun h9 => absurd (Nat.add_left_cancel h9) (by decide)) G10_13
  have G11_14 := zset_ne (q := (ws.length + 24)) (e' := (q10, zI4 E 8 (upd (upd (upd (upd (upd (upd (upd (upd (fun _ => 0) 0 0) 1 1) 2 5) 3 8) 4 0) 5 5) 6 7) 7 8))) (fun h9 => absurd (Nat.add_left_cancel h9) (by decide)) G10_14
  have G11_15 := zset_eq (e' := (q10, zI4 E 8 (upd (upd (upd (upd (upd (upd (upd (upd (fun _ => 0) 0 0) 1 1) 2 5) 3 8) 4 0) 5 5) 6 7) 7 8))) G10_15
  generalize hws11 : (ws_10.set (ws.length + 24) (q10, zI4 E 8 (upd (upd (upd (upd (upd (upd (upd (upd (fun _ => 0) 0 0) 1 1) 2 5) 3 8) 4 0) 5 5) 6 7) 7 8))) = ws_11 at J hlen hk G11_0 G11_1 G11_2 G11_3 G11_4 G11_5 G11_6 G11_7 G11_8 G11_9 G11_10 G11_11 G11_12 G11_13 G11_14 G11_15 hSN
  refine lv_astore_n (lv' := [(3, .ref q10), (2, .ref q0), (0, .ref x), (1, .ref E.2.2.2.2.1)]) hx hb dL_build_49 rfl hl (by decide) rfl (fun ls hl => ?_)
  have hLW : LW E x fl rl wh gr gra tr tra sc ha va q0 sa_2 (fun j => if j < 20 then some (ra_2 j) else none) ws_11 := ⟨0, 0, 15, 0, 0, 0, 0, E.2.2.1, E.2.2.1, 0, 0, fe_2, 12, ro_2, 13, (fun _ => 0), (fun _ => 0), (fun _ => 0), (fun _ => 0), (fun _ => 0), (fun _ => 0), (fun _ => 0), (fun _ => none), (fun _ => none), G11_0, G11_1, G11_2, G11_3, G11_4, G11_5, G11_6, G11_7, G11_8, G11_9, G11_10, (by have h9 := G11_11; rw [hw11] at h9; exact h9), (by have h9 := G11_14; rw [hw11] at h9; exact h9), (by have h9 := G11_12; rw [hw11] at h9; exact h9), (by have h9 := G11_13; rw [hw11] at h9; exact h9), ⟨by decide, by decide⟩, (Or.inl ⟨rfl, rfl⟩), (Or.inl ⟨rfl, rfl⟩), (Or.inr ⟨rfl, rfl⟩), (fun j hj => absurd hj (Nat.not_lt_zero _)), (fun j hj => absurd hj (Nat.not_lt_zero _)), hSN, (Nat.zero_le _), (Nat.zero_le _), (fun j hj => absurd hj (Nat.not_lt_zero _)), (fun j hj => absurd hj (Nat.not_lt_zero _)), (fun j _ => (⟨by decide, by decide⟩ : BI 0 200 (0 : Int32))), (⟨by decide, by decide⟩ : BI 0 40 (0 : Int32)), (⟨by decide, by decide⟩ : BI 1 60 (15 : Int32)), (by rw [hlen, hw11]; decide)⟩
  have hfi : ws_11[35]? = some (q10, zI4 E 8 (upd (upd (upd (upd (upd (upd (upd (upd (fun _ => 0) 0 0) 1 1) 2 5) 3 8) 4 0) 5 5) 6 7) 7 8)) := by have h9 := G11_15; rw [hw11] at h9; exact h9
  refine lv_iconst (v := nI 0) hx hb dL_build_50 rfl ?_
  refine lv_istore (lv' := [(4, .int (nI 0)), (3, .ref q10), (2, .ref q0), (0, .ref x), (1, .ref E.2.2.2.2.1)]) hx hb dL_build_51 hl (by decide) rfl (fun ls hl => ?_)
  have loop_53 : ∀ (k9 k : Nat), k + k9 = 14 → ∀ (wl53 : va_W) (H : Heap) (locs : List Loc) (ls : Array Slot), zKi E ws wl53 → wl53[35]? = some (q10, zI4 E 8 (upd (upd (upd (upd (upd (upd (upd (upd (fun _ => 0) 0 0) 1 1) 2 5) 3 8) 4 0) 5 5) 6 7) 7 8)) → LW E x fl rl wh gr gra tr tra sc ha va q0 sa_2 (fun j => if j < 20 then some (ra_2 j) else none) wl53 → zJ E wl53 s H locs → lv_has ls 5 [(4, .int (nI k)), (3, .ref q10), (2, .ref q0), (0, .ref x), (1, .ref E.2.2.2.2.1)] → W p l e (headSpec wsL_build2 ({ frames := 10, cells := 239345, slots := 462796, locals := 188 } : Room)).room s m args below meth c H locs (25 + 20 * k + 39840 * (k - 8)) (436 + 120 * k + 76780 * (k - 8)) QQ (F0 m 53 ls []) := by
    intro k9
    induction k9 with
    | zero =>
      intro k hik wl53 H locs ls hk L53_0 hLW J hl
      obtain rfl : 14 = k := by omega
      refine lv_iload hx hb dL_build_53 (lv_at hl 0 rfl) ?_
      refine lv_bipush (v := nI 14) hx hb dL_build_55 (by decide) ?_
      refine lv_icmp_ge (tgt := 119) hx hb dL_build_57 (by decide) (fun cz57 => ?_) (fun cz57 => by exact (cz57 (nI_le (Nat.le_refl _) (by omega))).elim)
      refine lv_aload_n hx hb dL_build_119 rfl (lv_at hl 2 rfl) ?_
      refine W.widen (k := 239345) (n := 462796) (by omega) (by omega) ?_
      subst hQ
      exact W.aret (v := .ref q0) hx hb hr (by first | exact Or.inl ⟨_, rfl⟩ | exact Or.inr ⟨_, rfl⟩) (Or.inr ⟨_, rfl⟩) (fun t ht hW => ⟨⟨some q0, wl53, rfl, ⟨hk, ⟨q0, sa_2, (fun j => if j < 20 then some (ra_2 j) else none), (by exact ⟨rfl, hLW⟩)⟩⟩, J.I X ht hW.alike⟩, J.F ht⟩) J.locs dL_build_120
    | succ k9 ih_53 =>
      intro k hik wl53 H locs ls hk L53_0 hLW J hl
      refine lv_iload hx hb dL_build_53 (lv_at hl 0 rfl) ?_
      refine lv_bipush (v := nI 14) hx hb dL_build_55 (by decide) ?_
      refine lv_icmp_ge (tgt := 119) hx hb dL_build_57 (by decide) (fun cz57 => by exact (nI_ge (by omega) (by omega) cz57).elim) (fun cz57 => ?_)
      refine lv_aload_n hx hb dL_build_60 rfl (lv_at hl 3 rfl) ?_
      refine lv_aload_n hx hb dL_build_61 rfl (lv_at hl 2 rfl) ?_
      refine lv_iload hx hb dL_build_62 (lv_at hl 0 rfl) ?_
      refine lv_bipush (v := nI 8) hx hb dL_build_64 (by decide) ?_
      refine lv_icmp_ge (tgt := 93) hx hb dL_build_66 (by decide) (fun cz66 => ?_) (fun cz66 => ?_)
      · have hk8 : 8 ≤ k := Nat.le_of_not_lt (fun q => nI_ge q (by omega) cz66)
        refine lv_aload_n hx hb dL_build_93 rfl (lv_at hl 4 rfl) ?_
        refine lv_iload hx hb dL_build_94 (lv_at hl 0 rfl) ?_
        refine z_cr (z_rS (As := [.ref E.2.2.2.2.1, .int (nI k)]) (rest := [.ref q0, .ref x]) X J (cL_cell_ok l E (by first | assumption | omega | decide) (by first | assumption | omega | decide)) (va_cwS 2 hts (goodIn_ext2 gL_build_L_cell) rfl rfl rfl (by decide +kernel) ⟨Nat.le_of_ble_eq_true rfl, Nat.le_of_ble_eq_true rfl⟩) rfl hl.1 rfl (Nat.le_of_ble_eq_true rfl) dL_build_96 ⟨by show _ ≤ 239345; omega, by show _ ≤ 462796; omega⟩) (fun r96 e_r96 => ?_)
        subst e_r96
        refine lv_bipush (v := 71) hx hb dL_build_99 (by decide) ?_
        refine lv_iload hx hb dL_build_101 (lv_at hl 0 rfl) ?_
        refine lv_imul hx hb dL_build_103 ?_
        refine lv_iadd hx hb dL_build_104 ?_
        refine z_ci J (z_rYS (As := [.ref x, .ref q0, .int ((celS E.2.2.2.2.2.1 E.2.2.2.2.2.2 k) + (71 * (nI k)))]) (rest := []) X hRz J (cL_act_ok l hflags E hLW hE1) (va_cwS 3 hts gL_build2_act2 rfl rfl rfl (by decide +kernel) ⟨Nat.le_of_ble_eq_true rfl, Nat.le_of_ble_eq_true rfl⟩) rfl hl.1 rfl (Nat.le_of_ble_eq_true rfl) dL_build_105 ⟨by show _ ≤ 239345; omega, by show _ ≤ 462796; omega⟩) (fun r105 ws_12 H locs hp9 J => ?_)
        obtain ⟨k12, hLW_12, e_r105⟩ := hp9
        have hk := hk.tr k12
        have G12_0 := k12.2 35 _ _ _ (by omega) L53_0
        have hLW := hLW_12
        subst e_r105
        refine lv_if_ne (tgt := 113) hx hb dL_build_108 (by decide) (fun cz108 => ?_) (fun cz108 => by exact absurd cz108 (by decide))
        refine lv_iinc (v := nI (k + 1)) (lv' := [(4, .int (nI (k + 1))), (3, .ref q10), (2, .ref q0), (0, .ref x), (1, .ref E.2.2.2.2.1)]) hx hb dL_build_113 hl (k := 0) rfl (nI_1 k) (by decide) rfl (fun ls hl => ?_)
        refine lv_goto (tgt := 53) hx hb dL_build_116 (by decide) ?_
        refine W.widen (k := (25 + 20 * (k + 1) + 39840 * (k + 1 - 8))) (n := (436 + 120 * (k + 1) + 76780 * (k + 1 - 8))) (by omega) (by omega) ?_
        exact ih_53 (k + 1) (by omega) _ _ _ _ hk G12_0 hLW J (lv_sub hl [0, 1, 2, 3, 4] rfl)
      · have hk8 : k < 8 := Nat.lt_of_not_le (fun q => cz66 (nI_le q (by omega)))
        refine lv_bipush (v := nI 13) hx hb dL_build_69 (by decide) ?_
        refine lv_aload_n hx hb dL_build_71 rfl (lv_at hl 4 rfl) ?_
        refine lv_iload hx hb dL_build_72 (lv_at hl 0 rfl) ?_
        refine z_cr (z_rS (As := [.ref E.2.2.2.2.1, .int (nI k)]) (rest := [.int (nI 13), .ref q0, .ref x]) X J (cL_cell_ok l E (by first | assumption | omega | decide) (by first | assumption | omega | decide)) (va_cwS 2 hts (goodIn_ext2 gL_build_L_cell) rfl rfl rfl (by decide +kernel) ⟨Nat.le_of_ble_eq_true rfl, Nat.le_of_ble_eq_true rfl⟩) rfl hl.1 rfl (Nat.le_of_ble_eq_true rfl) dL_build_74 ⟨by show _ ≤ 239345; omega, by show _ ≤ 462796; omega⟩) (fun r74 e_r74 => ?_)
        subst e_r74
        refine lv_iconst (v := 4) hx hb dL_build_77 (by decide) ?_
        refine lv_ishr hx hb dL_build_78 ?_
        refine lv_ldc (v := 1000000) hx hb hown (hts (.constant RL 100 1000000) (by decide +kernel)) dL_build_79 ?_
        refine W.eq (g2 := F0 m 81 ls [.int (nI 1000000), .int ((celS E.2.2.2.2.2.1 E.2.2.2.2.2.2 k) >>> (4 &&& 31)), .int (nI 13), .ref q0, .ref x]) (congrArg (fun z9 : Int32 => F0 m 81 ls [.int z9, .int ((celS E.2.2.2.2.2.1 E.2.2.2.2.2.2 k) >>> (4 &&& 31)), .int (nI 13), .ref q0, .ref x]) (show (1000000 : Int32) = nI 1000000 from rfl)) ?_
        obtain ⟨bk, hbk⟩ : ∃ q9 : Nat, q9 = bln (celS E.2.2.2.2.2.1 E.2.2.2.2.2.2 k >>> (4 &&& 31)) (1000000) := ⟨_, rfl⟩
        have bbk := bln_lt (v := celS E.2.2.2.2.2.1 E.2.2.2.2.2.2 k >>> (4 &&& 31)) (n := 1000000) (by decide)
        refine z_cr (z_rS (As := [.int ((celS E.2.2.2.2.2.1 E.2.2.2.2.2.2 k) >>> (4 &&& 31)), .int (nI 1000000)]) (rest := [.int (nI 13), .ref q0, .ref x]) X J (cL_below_ok l E (by first | assumption | omega | decide) (by first | assumption | omega | decide)) (va_cwS 2 hts (goodIn_ext2 gL_build_L_below) rfl rfl rfl (by decide +kernel) ⟨Nat.le_of_ble_eq_true rfl, Nat.le_of_ble_eq_true rfl⟩) rfl hl.1 rfl (Nat.le_of_ble_eq_true rfl) dL_build_81 ⟨by show _ ≤ 239345; omega, by show _ ≤ 462796; omega⟩) (fun r81 e_r81 => ?_)
        subst e_r81
        refine W.eq (g2 := F0 m 84 ls [.int (nI bk), .int (nI 13), .ref q0, .ref x]) (congrArg (fun z9 : Int32 => F0 m 84 ls [.int z9, .int (nI 13), .ref q0, .ref x]) (show (nI (bln ((celS E.2.2.2.2.2.1 E.2.2.2.2.2.2 k) >>> (4 &&& 31)) 1000000) : Int32) = nI bk from (by rw [hbk]))) ?_
        refine lv_imul hx hb dL_build_84 ?_
        refine W.eq (g2 := F0 m 85 ls [.int (nI (13 * bk)), .ref q0, .ref x]) (congrArg (fun z9 : Int32 => F0 m 85 ls [.int z9, .ref q0, .ref x]) (show ((nI 13) * (nI bk) : Int32) = nI (13 * bk) from (by rw [pk_mul]))) ?_
        refine lv_aload_n hx hb dL_build_85 rfl (lv_at hl 1 rfl) ?_
        refine lv_iload hx hb dL_build_86 (lv_at hl 0 rfl) ?_
        refine z_iald X J 35 L53_0 (vp_in_nI (by omega) (by first | decide | omega)) dL_build_88 ?_
        refine W.eq (g2 := F0 m 89 ls [.int (nI (fst8 k)), .int (nI (13 * bk)), .ref q0, .ref x]) (congrArg (fun z9 : Int32 => F0 m 89 ls [.int z9, .int (nI (13 * bk)), .ref q0, .ref x]) (show ((upd (upd (upd (upd (upd (upd (upd (upd (fun _ => 0) 0 0) 1 1) 2 5) 3 8) 4 0) 5 5) 6 7) 7 8) (nI k).toNatClampNeg : Int32) = nI (fst8 k) from (by rw [nI_clamp (by omega)]; exact fst8_ok hk8))) ?_
        refine lv_iadd hx hb dL_build_89 ?_
        refine W.eq (g2 := F0 m 90 ls [.int (nI (13 * bk + fst8 k)), .ref q0, .ref x]) (congrArg (fun z9 : Int32 => F0 m 90 ls [.int z9, .ref q0, .ref x]) (show ((nI (13 * bk)) + (nI (fst8 k)) : Int32) = nI (13 * bk + fst8 k) from (nI_add _ _))) ?_
        refine lv_goto (tgt := 105) hx hb dL_build_90 (by decide) ?_
        refine z_ci J (z_rYS (As := [.ref x, .ref q0, .int (nI (13 * bk + fst8 k))]) (rest := []) X hRz J (cL_act_0_ok l hflags E hLW hE1 (bln_13 (by omega))) (va_cwS 3 hts gL_build2_act2 rfl rfl rfl (by decide +kernel) ⟨Nat.le_of_ble_eq_true rfl, Nat.le_of_ble_eq_true rfl⟩) rfl hl.1 rfl (Nat.le_of_ble_eq_true rfl) dL_build_105 ⟨by show _ ≤ 239345; omega, by show _ ≤ 462796; omega⟩) (fun r105 ws_12 H locs hp9 J => ?_)
        obtain ⟨k12, hLW_12, e_r105⟩ := hp9
        have hk := hk.tr k12
        have G12_0 := k12.2 35 _ _ _ (by omega) L53_0
        have hLW := hLW_12
        subst e_r105
        refine lv_if_ne (tgt := 113) hx hb dL_build_108 (by decide) (fun cz108 => ?_) (fun cz108 => by exact absurd cz108 (by decide))
        refine lv_iinc (v := nI (k + 1)) (lv' := [(4, .int (nI (k + 1))), (3, .ref q10), (2, .ref q0), (0, .ref x), (1, .ref E.2.2.2.2.1)]) hx hb dL_build_113 hl (k := 0) rfl (nI_1 k) (by decide) rfl (fun ls hl => ?_)
        refine lv_goto (tgt := 53) hx hb dL_build_116 (by decide) ?_
        refine W.widen (k := (25 + 20 * (k + 1) + 39840 * (k + 1 - 8))) (n := (436 + 120 * (k + 1) + 76780 * (k + 1 - 8))) (by omega) (by omega) ?_
        exact ih_53 (k + 1) (by omega) _ _ _ _ hk G12_0 hLW J (lv_sub hl [0, 1, 2, 3, 4] rfl)
  exact loop_53 14 0 (by omega) _ _ _ _ hk hfi hLW J (lv_sub hl [0, 1, 2, 3, 4] rfl)
