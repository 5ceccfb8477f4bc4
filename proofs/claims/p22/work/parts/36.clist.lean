set_option maxHeartbeats 400000 in
set_option maxRecDepth 100000 in
theorem cX6_fence_e_ok (l : Launch) (hflags : l.flags = flags0) (E : zG) {ws : va_W} {x fl rl wh gr tr sc : Nat} {mc1 lim sup off plo hrs : Int32} {co ro le dn he ga : Int32} (Fa0 : ws[0]? = some (x, .inr (7, [.ref fl, .ref rl, .ref wh, .ref gr, .ref tr, .ref sc, .int lim, .int sup, .int off, .int plo, .int hrs]))) (Fa1 : ws[1]? = some (fl, .inr (0, [.int mc1, .ref E.2.2.1, .int 0]))) (hdn : dn = 0 ∨ dn = 1) : vx_Met l yX6_fence wsX6_fence ({ frames := 7, cells := 12, slots := 80, locals := 103 } : Room) (va_Pc [.ref x, .int co, .int ro, .int le, .int dn, .int he, .int ga] (zY E ws)) (va_Qi (fun (r : Int32) (ws' : va_W) => (zK [1] ws ws') ∧ (∃ fo sp nq : Nat, ws'.length = ws.length + 3 ∧ (ws'[1]? = some (fl, .inr (0, [.int (mc1 + 1), .ref nq, .int 1]))) ∧ (ws'[(ws.length + 0)]? = some (fo, .inr (1, [.int co, .int ro, .ref sp, .int he, .int ga]))) ∧ (ws'[(ws.length + 1)]? = some (sp, .inr (5, [.int (ro * 20 + co), .int le, .int dn]))) ∧ (ws'[(ws.length + 2)]? = some (nq, zO4 E 10 (va_up (fun _ => none) 0 (some fo)))) ∧ ((kFence co ro le dn he ga (nI 0)) = 0 ∧ r = nI 0))) (zI E) (zA E)) (zX E ws (fun nm => ((kFence co ro le dn he ga (nI 0)) = 1 ∧ nm = "java/lang/IllegalArgumentException") ∨ ((kFence co ro le dn he ga (nI 0)) = 2 ∧ nm = "java/lang/IndexOutOfBoundsException") ∨ ((kFence co ro le dn he ga (nI 0)) = 3 ∧ nm = "java/lang/IllegalStateException"))) 12 80 (zA E) := by
  refine vx_ofW (cc := cX6_fence) (maxL := 7) (ret := (some .int)) (by decide) rfl ?_
  intro p e s m args below meth c s₁ B hml htab hv
  obtain ⟨hargs9, hI, hRz⟩ := hv
  have hx := B.exec
  have hb := B.bytes
  have hr := B.returns
  have hlocks := B.notSynchronized
  have X : zC E p m c cX6_fence 7 s args wsX6_fence RX6 := z_open B hml hI
  have hown := X.1.2.2.2.1
  have hts := X.1.2.2.2.2
  have J := hI.J
  have hi_X0 : ∀ w ∈ wsX00, w ∈ wsX6_fence := by decide +kernel
  have hi_X4 : ∀ w ∈ wsX40, w ∈ wsX6_fence := by decide +kernel
  have hi_X6 : ∀ w ∈ wsX60, w ∈ wsX6_fence := by decide +kernel
  have hk : zK [1] ws ws := zK.rf
  have hlen : ws.length = ws.length + 0 := rfl
  have bFa0 := zlt Fa0
  have bFa1 := zlt Fa1
  have hl := lv_entry ([.ref x, .int co, .int ro, .int le, .int dn, .int he, .int ga]) (n := 7) (Nat.le_of_ble_eq_true rfl)
  rw [show entryFrame m args 7 = entryFrame m ([.ref x, .int co, .int ro, .int le, .int dn, .int he, .int ga] : List Value).toArray 7 from by rw [hargs9], lg_entry_eq]
  generalize (lg_sl ([.ref x, .int co, .int ro, .int le, .int dn, .int he, .int ga]) ++ List.replicate (7 - (lg_sl ([.ref x, .int co, .int ro, .int le, .int dn, .int he, .int ga])).length) Slot.unset).toArray = ls at hl ⊢
  have hl : lv_has ls 7 [(0, .ref x), (1, .int co), (2, .int ro), (3, .int le), (4, .int dn), (5, .int he), (6, .int ga)] := hl
  generalize hQ : (vx_MQ below (va_Qi (fun (r : Int32) (ws' : va_W) => (zK [1] ws ws') ∧ (∃ fo sp nq : Nat, ws'.length = ws.length + 3 ∧ (ws'[1]? = some (fl, .inr (0, [.int (mc1 + 1), .ref nq, .int 1]))) ∧ (ws'[(ws.length + 0)]? = some (fo, .inr (1, [.int co, .int ro, .ref sp, .int he, .int ga]))) ∧ (ws'[(ws.length + 1)]? = some (sp, .inr (5, [.int (ro * 20 + co), .int le, .int dn]))) ∧ (ws'[(ws.length + 2)]? = some (nq, zO4 E 10 (va_up (fun _ => none) 0 (some fo)))) ∧ ((kFence co ro le dn he ga (nI 0)) = 0 ∧ r = nI 0))) (zI E) (zA E)) (zX E ws (fun nm => ((kFence co ro le dn he ga (nI 0)) = 1 ∧ nm = "java/lang/IllegalArgumentException") ∨ ((kFence co ro le dn he ga (nI 0)) = 2 ∧ nm = "java/lang/IndexOutOfBoundsException") ∨ ((kFence co ro le dn he ga (nI 0)) = 3 ∧ nm = "java/lang/IllegalStateException"))) args s 12 80 (zA E)) = QQ
  refine lv_iload_n hx hb dX6_fence_0 rfl (lv_at hl 3 rfl) ?_
  refine lv_iconst (v := 1) hx hb dX6_fence_1 (by decide) ?_
  refine lv_icmp_lt (tgt := 11) hx hb dX6_fence_2 (by decide) (fun cz2 => ?_) (fun cz2 => ?_)
  · subst hQ
    exact z_throw (ik := 49) (is := 51) (ic := 53) (cls := "java/lang/IllegalArgumentException") hflags X hRz J htab hlocks hl.1 zfitA (by decide +kernel) (by decide +kernel) (List.mem_of_getElem? (i := 0) rfl) (fun w9 h9 => List.mem_cons_of_mem _ (List.mem_append_left _ (List.mem_append_left _ (List.mem_append_right _ h9)))) zbadA hRz.2.1 zgoodA dX6_fence_11 dX6_fence_14 dX6_fence_15 dX6_fence_17 dX6_fence_20 (Nat.le_of_ble_eq_true rfl) (Nat.le_of_ble_eq_true rfl) (Nat.le_of_ble_eq_true rfl) (Nat.le_of_ble_eq_true rfl) (by exact Or.inl ⟨kF1 (Or.inl (fun q9 => q9.1 cz2)), rfl⟩) (Nat.le_of_ble_eq_true rfl) (Nat.le_of_ble_eq_true rfl)
  · refine lv_iload_n hx hb dX6_fence_5 rfl (lv_at hl 3 rfl) ?_
    refine lv_bipush (v := 20) hx hb dX6_fence_6 (by decide) ?_
    refine lv_icmp_le (tgt := 21) hx hb dX6_fence_8 (by decide) (fun cz8 => ?_) (fun cz8 => ?_)
    · refine lv_iload hx hb dX6_fence_21 (lv_at hl 5 rfl) ?_
      refine z_xv J (z_yS (As := [.int he]) (rest := []) X hRz J (cX6_needHeight_ok l hflags E) (va_cwS 1 hts gX6_fence_X6_needHeight rfl rfl rfl (by decide +kernel) ⟨Nat.le_of_ble_eq_true rfl, Nat.le_of_ble_eq_true rfl⟩) rfl hl.1 rfl (Nat.le_of_ble_eq_true rfl) dX6_fence_23 ⟨Nat.le_of_ble_eq_true rfl, Nat.le_of_ble_eq_true rfl⟩) (fun nm ce q9 H locs hp9 J h1 h2 h3 => ?_) (fun ws_1 H locs hp9 J => ?_)
      · subst hQ
        exact z_out X J htab hlocks h1 h2 h3 (by exact Or.inl ⟨kF1 (Or.inr (Or.inl hp9.1)), hp9.2⟩) (Nat.le_of_ble_eq_true rfl) (Nat.le_of_ble_eq_true rfl)
      obtain ⟨rfl, e_r23⟩ := hp9
      refine lv_iload hx hb dX6_fence_26 (lv_at hl 6 rfl) ?_
      refine z_xv J (z_yS (As := [.int ga]) (rest := []) X hRz J (cX6_needGap_ok l hflags E) (va_cwS 1 hts gX6_fence_X6_needGap rfl rfl rfl (by decide +kernel) ⟨Nat.le_of_ble_eq_true rfl, Nat.le_of_ble_eq_true rfl⟩) rfl hl.1 rfl (Nat.le_of_ble_eq_true rfl) dX6_fence_28 ⟨Nat.le_of_ble_eq_true rfl, Nat.le_of_ble_eq_true rfl⟩) (fun nm ce q9 H locs hp9 J h1 h2 h3 => ?_) (fun ws_2 H locs hp9 J => ?_)
      · subst hQ
        exact z_out X J htab hlocks h1 h2 h3 (by exact Or.inl ⟨kF1 (Or.inr (Or.inr hp9.1)), hp9.2⟩) (Nat.le_of_ble_eq_true rfl) (Nat.le_of_ble_eq_true rfl)
      obtain ⟨rfl, e_r28⟩ := hp9
      refine lv_iload_n hx hb dX6_fence_31 rfl (lv_at hl 1 rfl) ?_
      refine lv_bipush (v := 20) hx hb dX6_fence_32 (by decide) ?_
      refine z_xv J (z_yS (As := [.int co, .int 20]) (rest := []) X hRz J (cX6_needIndex_ok l hflags E (n := 20) (by decide)) (va_cwS 2 hts gX6_fence_X6_needIndex rfl rfl rfl (by decide +kernel) ⟨Nat.le_of_ble_eq_true rfl, Nat.le_of_ble_eq_true rfl⟩) rfl hl.1 rfl (Nat.le_of_ble_eq_true rfl) dX6_fence_34 ⟨Nat.le_of_ble_eq_true rfl, Nat.le_of_ble_eq_true rfl⟩) (fun nm ce q9 H locs hp9 J h1 h2 h3 => ?_) (fun ws_3 H locs hp9 J => ?_)
      · subst hQ
        exact z_out X J htab hlocks h1 h2 h3 (by exact Or.inr (Or.inl ⟨kF2 ⟨cz2, Int32.not_lt.mpr cz8⟩ e_r23 e_r28 (Or.inl hp9.1), hp9.2⟩)) (Nat.le_of_ble_eq_true rfl) (Nat.le_of_ble_eq_true rfl)
      obtain ⟨rfl, e_r34⟩ := hp9
      refine lv_iload_n hx hb dX6_fence_37 rfl (lv_at hl 2 rfl) ?_
      refine lv_bipush (v := 20) hx hb dX6_fence_38 (by decide) ?_
      refine z_xv J (z_yS (As := [.int ro, .int 20]) (rest := []) X hRz J (cX6_needIndex_ok l hflags E (n := 20) (by decide)) (va_cwS 2 hts gX6_fence_X6_needIndex rfl rfl rfl (by decide +kernel) ⟨Nat.le_of_ble_eq_true rfl, Nat.le_of_ble_eq_true rfl⟩) rfl hl.1 rfl (Nat.le_of_ble_eq_true rfl) dX6_fence_40 ⟨Nat.le_of_ble_eq_true rfl, Nat.le_of_ble_eq_true rfl⟩) (fun nm ce q9 H locs hp9 J h1 h2 h3 => ?_) (fun ws_4 H locs hp9 J => ?_)
      · subst hQ
        exact z_out X J htab hlocks h1 h2 h3 (by exact Or.inr (Or.inl ⟨kF2 ⟨cz2, Int32.not_lt.mpr cz8⟩ e_r23 e_r28 (Or.inr (Or.inl hp9.1)), hp9.2⟩)) (Nat.le_of_ble_eq_true rfl) (Nat.le_of_ble_eq_true rfl)
      obtain ⟨rfl, e_r40⟩ := hp9
      refine lv_iload hx hb dX6_fence_43 (lv_at hl 4 rfl) ?_
      refine lv_if_eq (tgt := 52) hx hb dX6_fence_45 (by decide) (fun cz45 => ?_) (fun cz45 => ?_)
      · refine lv_iload_n hx hb dX6_fence_52 rfl (lv_at hl 1 rfl) ?_
        refine lv_iload_n hx hb dX6_fence_53 rfl (lv_at hl 3 rfl) ?_
        refine lv_iadd hx hb dX6_fence_54 ?_
        refine lv_iconst (v := 1) hx hb dX6_fence_55 (by decide) ?_
        refine lv_isub hx hb dX6_fence_56 ?_
        refine lv_bipush (v := 20) hx hb dX6_fence_57 (by decide) ?_
        refine z_xv J (z_yS (As := [.int ((co + le) - 1), .int 20]) (rest := []) X hRz J (cX6_needIndex_ok l hflags E (n := 20) (by decide)) (va_cwS 2 hts gX6_fence_X6_needIndex rfl rfl rfl (by decide +kernel) ⟨Nat.le_of_ble_eq_true rfl, Nat.le_of_ble_eq_true rfl⟩) rfl hl.1 rfl (Nat.le_of_ble_eq_true rfl) dX6_fence_59 ⟨Nat.le_of_ble_eq_true rfl, Nat.le_of_ble_eq_true rfl⟩) (fun nm ce q9 H locs hp9 J h1 h2 h3 => ?_) (fun ws_5 H locs hp9 J => ?_)
        · subst hQ
          exact z_out X J htab hlocks h1 h2 h3 (by exact Or.inr (Or.inl ⟨kF2 ⟨cz2, Int32.not_lt.mpr cz8⟩ e_r23 e_r28 (Or.inr (Or.inr (Or.inl ⟨cz45, hp9.1⟩))), hp9.2⟩)) (Nat.le_of_ble_eq_true rfl) (Nat.le_of_ble_eq_true rfl)
        obtain ⟨rfl, e_r59⟩ := hp9
        refine lv_aload_n hx hb dX6_fence_62 rfl (lv_at hl 0 rfl) ?_
        refine z_get (C := RX6) (T := TX6) (N := 11) (ci := 7) (v := .ref fl) X J hi_X6 0 Fa0 rfl 0 (by decide) (by decide +kernel) rfl dX6_fence_63 ?_
        refine z_cr (z_rV (As := []) (rest := []) (ci := 0) (q0 := 1) X J (cJx4a65c_size_8abf5_ok l E (n := 0) Fa1) (cwV 0 hts gX6_fence_Jx4a65c_size_8abf5 rfl rfl rfl (by decide +kernel) ⟨Nat.le_of_ble_eq_true rfl, Nat.le_of_ble_eq_true rfl⟩) Fa1 rfl rfl rfl hl.1 rfl (Nat.le_of_ble_eq_true rfl) dX6_fence_66 ⟨Nat.le_of_ble_eq_true rfl, Nat.le_of_ble_eq_true rfl⟩) (fun r66 e_r66 => ?_)
        subst e_r66
        refine lv_bipush (v := 10) hx hb dX6_fence_69 (by decide) ?_
        refine lv_icmp_lt (tgt := 84) hx hb dX6_fence_71 (by decide) (fun cz71 => ?_) (fun cz71 => by exact (cz71 (by decide)).elim)
        refine lv_aload_n hx hb dX6_fence_84 rfl (lv_at hl 0 rfl) ?_
        refine z_get (C := RX6) (T := TX6) (N := 11) (ci := 7) (v := .ref fl) X J hi_X6 0 Fa0 rfl 0 (by decide) (by decide +kernel) rfl dX6_fence_85 ?_
        refine z_new (C := RX0) (T := TX0) (N := 5) (ci := 1) (fs := [.int 0, .int 0, .null, .int 0, .int 0]) X J hi_X0 tyX0 tyX0_ok (by decide +kernel) (by decide +kernel) (by decide +kernel) rfl (fun j hj => by rcases (show j = 0 ∨ j = 1 ∨ j = 2 ∨ j = 3 ∨ j = 4 by omega) with rfl | rfl | rfl | rfl | rfl <;> rfl) (Nat.le_of_ble_eq_true rfl) (Nat.le_of_ble_eq_true rfl) dX6_fence_88 (fun q88 H J => ?_)
        have lp6 := hk.1
        have hk := hk.trans (zK.app (more := [(q88, .inr (1, [.int 0, .int 0, .null, .int 0, .int 0]))]))
        have hpn6 := hlen
        have hlen : (ws ++ ([(q88, .inr (1, [.int 0, .int 0, .null, .int 0, .int 0]))] : va_W)).length = ws.length + 1 := by rw [List.length_append, hlen]; rfl
        have bG6_0 := zlt Fa0
        have G6_0 := zapp (x := (q88, .inr (1, [.int 0, .int 0, .null, .int 0, .int 0]))) Fa0
        have bG6_1 := zlt Fa1
        have G6_1 := zapp (x := (q88, .inr (1, [.int 0, .int 0, .null, .int 0, .int 0]))) Fa1
        have G6_n := zapp_new (ws := ws) (x := (q88, .inr (1, [.int 0, .int 0, .null, .int 0, .int 0])))
        generalize hws6 : ws ++ [(q88, .inr (1, [.int 0, .int 0, .null, .int 0, .int 0]))] = ws_6 at J hk hlen G6_0 G6_1 G6_n
        rw [hpn6] at lp6 G6_n bG6_0 bG6_1
        refine lv_dup hx hb dX6_fence_91 rfl ?_
        refine lv_iload_n hx hb dX6_fence_92 rfl (lv_at hl 1 rfl) ?_
        refine lv_iload_n hx hb dX6_fence_93 rfl (lv_at hl 2 rfl) ?_
        refine z_new (C := RX4) (T := TX4) (N := 3) (ci := 5) (fs := [.int 0, .int 0, .int 0]) X J hi_X4 tyX4 tyX4_ok (by decide +kernel) (by decide +kernel) (by decide +kernel) rfl (fun j hj => by rcases (show j = 0 ∨ j = 1 ∨ j = 2 by omega) with rfl | rfl | rfl <;> rfl) (Nat.le_of_ble_eq_true rfl) (Nat.le_of_ble_eq_true rfl) dX6_fence_94 (fun q94 H J => ?_)
        have lp7 := hk.1
        have hk := hk.trans (zK.app (more := [(q94, .inr (5, [.int 0, .int 0, .int 0]))]))
        have hpn7 := hlen
        have hlen : (ws_6 ++ ([(q94, .inr (5, [.int 0, .int 0, .int 0]))] : va_W)).length = ws.length + 2 := by rw [List.length_append, hlen]; rfl
        have bG7_0 := zlt G6_0
        have G7_0 := zapp (x := (q94, .inr (5, [.int 0, .int 0, .int 0]))) G6_0
        have bG7_1 := zlt G6_1
        have G7_1 := zapp (x := (q94, .inr (5, [.int 0, .int 0, .int 0]))) G6_1
        have bG7_2 := zlt G6_n
        have G7_2 := zapp (x := (q94, .inr (5, [.int 0, .int 0, .int 0]))) G6_n
        have G7_n := zapp_new (ws := ws_6) (x := (q94, .inr (5, [.int 0, .int 0, .int 0])))
        generalize hws7 : ws_6 ++ [(q94, .inr (5, [.int 0, .int 0, .int 0]))] = ws_7 at J hk hlen G7_0 G7_1 G7_2 G7_n
        rw [hpn7] at lp7 G7_n bG7_0 bG7_1 bG7_2
        refine lv_dup hx hb dX6_fence_97 rfl ?_
        refine lv_iload_n hx hb dX6_fence_98 rfl (lv_at hl 1 rfl) ?_
        refine lv_iload_n hx hb dX6_fence_99 rfl (lv_at hl 2 rfl) ?_
        refine lv_iload_n hx hb dX6_fence_100 rfl (lv_at hl 3 rfl) ?_
        refine lv_iload hx hb dX6_fence_101 (lv_at hl 4 rfl) ?_
        refine z_cv J (z_rI (As := [.int co, .int ro, .int le, .int dn]) (rest := [.ref q94, .int ro, .int co, .ref q88, .ref q88, .ref fl]) X J (cX4_init_ok l E G7_n hdn) (cwI 4 hts gX6_fence_X4_init rfl rfl rfl (hts (.initialized RX4) (by decide +kernel)) (hts (.methodLink RX6 21 yX4_init) (by decide +kernel)) (hts (.instanceMethod yX4_init) (by decide +kernel)) rfl (by decide +kernel) ⟨Nat.le_of_ble_eq_true rfl, Nat.le_of_ble_eq_true rfl⟩) rfl hl.1 rfl (Nat.le_of_ble_eq_true rfl) dX6_fence_103 ⟨Nat.le_of_ble_eq_true rfl, Nat.le_of_ble_eq_true rfl⟩) (fun ws_8 H locs hp9 J => ?_)
        obtain ⟨k8, hl9_8, G8_a0⟩ := hp9
        have hk := hk.transN k8 (by intro q9 hq9; simp only [List.mem_cons, List.not_mem_nil, or_false] at hq9 ⊢; omega)
        have G8_0 := k8.2 0 _ (by simp only [List.mem_cons, List.not_mem_nil, or_false]; omega) G7_0
        have G8_1 := k8.2 1 _ (by simp only [List.mem_cons, List.not_mem_nil, or_false]; omega) G7_1
        have G8_2 := k8.2 (ws.length + 0) _ (by simp only [List.mem_cons, List.not_mem_nil, or_false]; omega) G7_2
        have hlen : ws_8.length = ws.length + 2 := by rw [hl9_8, hlen]
        refine lv_iload hx hb dX6_fence_106 (lv_at hl 5 rfl) ?_
        refine lv_iload hx hb dX6_fence_108 (lv_at hl 6 rfl) ?_
        refine z_cv J (z_rI (As := [.int co, .int ro, .ref q94, .int he, .int ga]) (rest := [.ref q88, .ref fl]) X J (cX0_init_ok l E G8_2) (cwI 5 hts gX6_fence_X0_init rfl rfl rfl (hts (.initialized RX0) (by decide +kernel)) (hts (.methodLink RX6 78 yX0_init) (by decide +kernel)) (hts (.instanceMethod yX0_init) (by decide +kernel)) rfl (by decide +kernel) ⟨Nat.le_of_ble_eq_true rfl, Nat.le_of_ble_eq_true rfl⟩) rfl hl.1 rfl (Nat.le_of_ble_eq_true rfl) dX6_fence_110 ⟨Nat.le_of_ble_eq_true rfl, Nat.le_of_ble_eq_true rfl⟩) (fun ws_9 H locs hp9 J => ?_)
        obtain ⟨k9, hl9_9, G9_a0⟩ := hp9
        have hk := hk.transN k9 (by intro q9 hq9; simp only [List.mem_cons, List.not_mem_nil, or_false] at hq9 ⊢; omega)
        have G9_0 := k9.2 0 _ (by simp only [List.mem_cons, List.not_mem_nil, or_false]; omega) G8_0
        have G9_1 := k9.2 1 _ (by simp only [List.mem_cons, List.not_mem_nil, or_false]; omega) G8_1
        have G9_3 := k9.2 (ws.length + 1) _ (by simp only [List.mem_cons, List.not_mem_nil, or_false]; omega) G8_a0
        have hlen : ws_9.length = ws.length + 2 := by rw [hl9_9, hlen]
        refine z_ci J (z_rV (As := [.ref q88]) (rest := []) (ci := 0) (q0 := 1) X J (cJx4a65c_add_9ea2d_ef_ok l E G9_1 G9_a0) (cwV 1 hts gX6_fence_Jx4a65c_add_9ea2d rfl rfl rfl (by decide +kernel) ⟨Nat.le_of_ble_eq_true rfl, Nat.le_of_ble_eq_true rfl⟩) G9_1 rfl rfl rfl hl.1 rfl (Nat.le_of_ble_eq_true rfl) dX6_fence_113 ⟨Nat.le_of_ble_eq_true rfl, Nat.le_of_ble_eq_true rfl⟩) (fun r113 ws_10 H locs hp9 J => ?_)
        obtain ⟨k10, ⟨nq_10, hlen10, G10_a0, N10_0, e_r113⟩⟩ := hp9
        have hk := hk.trans (k10.mono (by decide))
        have G10_0 := k10.2 0 _ (by decide) G9_0
        have G10_2 := k10.2 (ws.length + 0) _ (by simp only [List.mem_cons, List.not_mem_nil, or_false]; omega) G9_a0
        have G10_3 := k10.2 (ws.length + 1) _ (by simp only [List.mem_cons, List.not_mem_nil, or_false]; omega) G9_3
        rw [hlen, Nat.add_assoc] at N10_0
        have hlen : ws_10.length = ws.length + 3 := by rw [hlen10, hlen]
        subst e_r113
        refine lv_pop hx hb dX6_fence_116 rfl ?_
        refine lv_aload_n hx hb dX6_fence_117 rfl (lv_at hl 0 rfl) ?_
        refine z_get (C := RX6) (T := TX6) (N := 11) (ci := 7) (v := .ref fl) X J hi_X6 0 G10_0 rfl 0 (by decide) (by decide +kernel) rfl dX6_fence_118 ?_
        refine z_cr (z_rV (As := []) (rest := []) (ci := 0) (q0 := 1) X J (cJx4a65c_size_8abf5_ok l E (n := 1) G10_a0) (cwV 0 hts gX6_fence_Jx4a65c_size_8abf5 rfl rfl rfl (by decide +kernel) ⟨Nat.le_of_ble_eq_true rfl, Nat.le_of_ble_eq_true rfl⟩) G10_a0 rfl rfl rfl hl.1 rfl (Nat.le_of_ble_eq_true rfl) dX6_fence_121 ⟨Nat.le_of_ble_eq_true rfl, Nat.le_of_ble_eq_true rfl⟩) (fun r121 e_r121 => ?_)
        subst e_r121
        refine lv_iconst (v := 1) hx hb dX6_fence_124 (by decide) ?_
        refine lv_isub hx hb dX6_fence_125 ?_
        refine W.eq (g2 := F0 m 126 ls [.int (nI 0)]) (congrArg (fun z9 : Int32 => F0 m 126 ls [.int z9]) (show ((nI 1) - 1 : Int32) = nI 0 from (by decide))) ?_
        refine W.widen (k := 12) (n := 80) (by omega) (by omega) ?_
        subst hQ
        refine vx_ret ?_
        exact W.iret (v := nI 0) hx hb hr (fun t ht hW => ⟨⟨nI 0, ws_10, rfl, ⟨hk, ⟨q88, q94, nq_10, hlen, G10_a0, G10_2, G10_3, N10_0, (by exact ⟨(kF0 ⟨cz2, Int32.not_lt.mpr cz8⟩ e_r23 e_r28 e_r34 e_r40 (Or.inl ⟨cz45, e_r59⟩)).trans (if_neg (by decide)), rfl⟩)⟩⟩, J.I X ht hW.alike⟩, J.F ht⟩) J.locs dX6_fence_126
      · refine lv_iload_n hx hb dX6_fence_48 rfl (lv_at hl 2 rfl) ?_
        refine lv_goto (tgt := 53) hx hb dX6_fence_49 (by decide) ?_
        refine lv_iload_n hx hb dX6_fence_53 rfl (lv_at hl 3 rfl) ?_
        refine lv_iadd hx hb dX6_fence_54 ?_
        refine lv_iconst (v := 1) hx hb dX6_fence_55 (by decide) ?_
        refine lv_isub hx hb dX6_fence_56 ?_
        refine lv_bipush (v := 20) hx hb dX6_fence_57 (by decide) ?_
        refine z_xv J (z_yS (As := [.int ((ro + le) - 1), .int 20]) (rest := []) X hRz J (cX6_needIndex_ok l hflags E (n := 20) (by decide)) (va_cwS 2 hts gX6_fence_X6_needIndex rfl rfl rfl (by decide +kernel) ⟨Nat.le_of_ble_eq_true rfl, Nat.le_of_ble_eq_true rfl⟩) rfl hl.1 rfl (Nat.le_of_ble_eq_true rfl) dX6_fence_59 ⟨Nat.le_of_ble_eq_true rfl, Nat.le_of_ble_eq_true rfl⟩) (fun nm ce q9 H locs hp9 J h1 h2 h3 => ?_) (fun ws_5 H locs hp9 J => ?_)
        · subst hQ
          exact z_out X J htab hlocks h1 h2 h3 (by exact Or.inr (Or.inl ⟨kF2 ⟨cz2, Int32.not_lt.mpr cz8⟩ e_r23 e_r28 (Or.inr (Or.inr (Or.inr ⟨cz45, hp9.1⟩))), hp9.2⟩)) (Nat.le_of_ble_eq_true rfl) (Nat.le_of_ble_eq_true rfl)
        obtain ⟨rfl, e_r59⟩ := hp9
        refine lv_aload_n hx hb dX6_fence_62 rfl (lv_at hl 0 rfl) ?_
        refine z_get (C := RX6) (T := TX6) (N := 11) (ci := 7) (v := .ref fl) X J hi_X6 0 Fa0 rfl 0 (by decide) (by decide +kernel) rfl dX6_fence_63 ?_
        refine z_cr (z_rV (As := []) (rest := []) (ci := 0) (q0 := 1) X J (cJx4a65c_size_8abf5_ok l E (n := 0) Fa1) (cwV 0 hts gX6_fence_Jx4a65c_size_8abf5 rfl rfl rfl (by decide +kernel) ⟨Nat.le_of_ble_eq_true rfl, Nat.le_of_ble_eq_true rfl⟩) Fa1 rfl rfl rfl hl.1 rfl (Nat.le_of_ble_eq_true rfl) dX6_fence_66 ⟨Nat.le_of_ble_eq_true rfl, Nat.le_of_ble_eq_true rfl⟩) (fun r66 e_r66 => ?_)
        subst e_r66
        refine lv_bipush (v := 10) hx hb dX6_fence_69 (by decide) ?_
        refine lv_icmp_lt (tgt := 84) hx hb dX6_fence_71 (by decide) (fun cz71 => ?_) (fun cz71 => by exact (cz71 (by decide)).elim)
        refine lv_aload_n hx hb dX6_fence_84 rfl (lv_at hl 0 rfl) ?_
        refine z_get (C := RX6) (T := TX6) (N := 11) (ci := 7) (v := .ref fl) X J hi_X6 0 Fa0 rfl 0 (by decide) (by decide +kernel) rfl dX6_fence_85 ?_
        refine z_new (C := RX0) (T := TX0) (N := 5) (ci := 1) (fs := [.int 0, .int 0, .null, .int 0, .int 0]) X J hi_X0 tyX0 tyX0_ok (by decide +kernel) (by decide +kernel) (by decide +kernel) rfl (fun j hj => by rcases (show j = 0 ∨ j = 1 ∨ j = 2 ∨ j = 3 ∨ j = 4 by omega) with rfl | rfl | rfl | rfl | rfl <;> rfl) (Nat.le_of_ble_eq_true rfl) (Nat.le_of_ble_eq_true rfl) dX6_fence_88 (fun q88 H J => ?_)
        have lp6 := hk.1
        have hk := hk.trans (zK.app (more := [(q88, .inr (1, [.int 0, .int 0, .null, .int 0, .int 0]))]))
        have hpn6 := hlen
        have hlen : (ws ++ ([(q88, .inr (1, [.int 0, .int 0, .null, .int 0, .int 0]))] : va_W)).length = ws.length + 1 := by rw [List.length_append, hlen]; rfl
        have bG6_0 := zlt Fa0
        have G6_0 := zapp (x := (q88, .inr (1, [.int 0, .int 0, .null, .int 0, .int 0]))) Fa0
        have bG6_1 := zlt Fa1
        have G6_1 := zapp (x := (q88, .inr (1, [.int 0, .int 0, .null, .int 0, .int 0]))) Fa1
        have G6_n := zapp_new (ws := ws) (x := (q88, .inr (1, [.int 0, .int 0, .null, .int 0, .int 0])))
        generalize hws6 : ws ++ [(q88, .inr (1, [.int 0, .int 0, .null, .int 0, .int 0]))] = ws_6 at J hk hlen G6_0 G6_1 G6_n
        rw [hpn6] at lp6 G6_n bG6_0 bG6_1
        refine lv_dup hx hb dX6_fence_91 rfl ?_
        refine lv_iload_n hx hb dX6_fence_92 rfl (lv_at hl 1 rfl) ?_
        refine lv_iload_n hx hb dX6_fence_93 rfl (lv_at hl 2 rfl) ?_
        refine z_new (C := RX4) (T := TX4) (N := 3) (ci := 5) (fs := [.int 0, .int 0, .int 0]) X J hi_X4 tyX4 tyX4_ok (by decide +kernel) (by decide +kernel) (by decide +kernel) rfl (fun j hj => by rcases (show j = 0 ∨ j = 1 ∨ j = 2 by omega) with rfl | rfl | rfl <;> rfl) (Nat.le_of_ble_eq_true rfl) (Nat.le_of_ble_eq_true rfl) dX6_fence_94 (fun q94 H J => ?_)
        have lp7 := hk.1
        have hk := hk.trans (zK.app (more := [(q94, .inr (5, [.int 0, .int 0, .int 0]))]))
        have hpn7 := hlen
        have hlen : (ws_6 ++ ([(q94, .inr (5, [.int 0, .int 0, .int 0]))] : va_W)).length = ws.length + 2 := by rw [List.length_append, hlen]; rfl
        have bG7_0 := zlt G6_0
        have G7_0 := zapp (x := (q94, .inr (5, [.int 0, .int 0, .int 0]))) G6_0
        have bG7_1 := zlt G6_1
        have G7_1 := zapp (x := (q94, .inr (5, [.int 0, .int 0, .int 0]))) G6_1
        have bG7_2 := zlt G6_n
        have G7_2 := zapp (x := (q94, .inr (5, [.int 0, .int 0, .int 0]))) G6_n
        have G7_n := zapp_new (ws := ws_6) (x := (q94, .inr (5, [.int 0, .int 0, .int 0])))
        generalize hws7 : ws_6 ++ [(q94, .inr (5, [.int 0, .int 0, .int 0]))] = ws_7 at J hk hlen G7_0 G7_1 G7_2 G7_n
        rw [hpn7] at lp7 G7_n bG7_0 bG7_1 bG7_2
        refine lv_dup hx hb dX6_fence_97 rfl ?_
        refine lv_iload_n hx hb dX6_fence_98 rfl (lv_at hl 1 rfl) ?_
        refine lv_iload_n hx hb dX6_fence_99 rfl (lv_at hl 2 rfl) ?_
        refine lv_iload_n hx hb dX6_fence_100 rfl (lv_at hl 3 rfl) ?_
        refine lv_iload hx hb dX6_fence_101 (lv_at hl 4 rfl) ?_
        refine z_cv J (z_rI (As := [.int co, .int ro, .int le, .int dn]) (rest := [.ref q94, .int ro, .int co, .ref q88, .ref q88, .ref fl]) X J (cX4_init_ok l E G7_n hdn) (cwI 4 hts gX6_fence_X4_init rfl rfl rfl (hts (.initialized RX4) (by decide +kernel)) (hts (.methodLink RX6 21 yX4_init) (by decide +kernel)) (hts (.instanceMethod yX4_init) (by decide +kernel)) rfl (by decide +kernel) ⟨Nat.le_of_ble_eq_true rfl, Nat.le_of_ble_eq_true rfl⟩) rfl hl.1 rfl (Nat.le_of_ble_eq_true rfl) dX6_fence_103 ⟨Nat.le_of_ble_eq_true rfl, Nat.le_of_ble_eq_true rfl⟩) (fun ws_8 H locs hp9 J => ?_)
        obtain ⟨k8, hl9_8, G8_a0⟩ := hp9
        have hk := hk.transN k8 (by intro q9 hq9; simp only [List.mem_cons, List.not_mem_nil, or_false] at hq9 ⊢; omega)
        have G8_0 := k8.2 0 _ (by simp only [List.mem_cons, List.not_mem_nil, or_false]; omega) G7_0
        have G8_1 := k8.2 1 _ (by simp only [List.mem_cons, List.not_mem_nil, or_false]; omega) G7_1
        have G8_2 := k8.2 (ws.length + 0) _ (by simp only [List.mem_cons, List.not_mem_nil, or_false]; omega) G7_2
        have hlen : ws_8.length = ws.length + 2 := by rw [hl9_8, hlen]
        refine lv_iload hx hb dX6_fence_106 (lv_at hl 5 rfl) ?_
        refine lv_iload hx hb dX6_fence_108 (lv_at hl 6 rfl) ?_
        refine z_cv J (z_rI (As := [.int co, .int ro, .ref q94, .int he, .int ga]) (rest := [.ref q88, .ref fl]) X J (cX0_init_ok l E G8_2) (cwI 5 hts gX6_fence_X0_init rfl rfl rfl (hts (.initialized RX0) (by decide +kernel)) (hts (.methodLink RX6 78 yX0_init) (by decide +kernel)) (hts (.instanceMethod yX0_init) (by decide +kernel)) rfl (by decide +kernel) ⟨Nat.le_of_ble_eq_true rfl, Nat.le_of_ble_eq_true rfl⟩) rfl hl.1 rfl (Nat.le_of_ble_eq_true rfl) dX6_fence_110 ⟨Nat.le_of_ble_eq_true rfl, Nat.le_of_ble_eq_true rfl⟩) (fun ws_9 H locs hp9 J => ?_)
        obtain ⟨k9, hl9_9, G9_a0⟩ := hp9
        have hk := hk.transN k9 (by intro q9 hq9; simp only [List.mem_cons, List.not_mem_nil, or_false] at hq9 ⊢; omega)
        have G9_0 := k9.2 0 _ (by simp only [List.mem_cons, List.not_mem_nil, or_false]; omega) G8_0
        have G9_1 := k9.2 1 _ (by simp only [List.mem_cons, List.not_mem_nil, or_false]; omega) G8_1
        have G9_3 := k9.2 (ws.length + 1) _ (by simp only [List.mem_cons, List.not_mem_nil, or_false]; omega) G8_a0
        have hlen : ws_9.length = ws.length + 2 := by rw [hl9_9, hlen]
        refine z_ci J (z_rV (As := [.ref q88]) (rest := []) (ci := 0) (q0 := 1) X J (cJx4a65c_add_9ea2d_ef_ok l E G9_1 G9_a0) (cwV 1 hts gX6_fence_Jx4a65c_add_9ea2d rfl rfl rfl (by decide +kernel) ⟨Nat.le_of_ble_eq_true rfl, Nat.le_of_ble_eq_true rfl⟩) G9_1 rfl rfl rfl hl.1 rfl (Nat.le_of_ble_eq_true rfl) dX6_fence_113 ⟨Nat.le_of_ble_eq_true rfl, Nat.le_of_ble_eq_true rfl⟩) (fun r113 ws_10 H locs hp9 J => ?_)
        obtain ⟨k10, ⟨nq_10, hlen10, G10_a0, N10_0, e_r113⟩⟩ := hp9
        have hk := hk.trans (k10.mono (by decide))
        have G10_0 := k10.2 0 _ (by decide) G9_0
        have G10_2 := k10.2 (ws.length + 0) _ (by simp only [List.mem_cons, List.not_mem_nil, or_false]; omega) G9_a0
        have G10_3 := k10.2 (ws.length + 1) _ (by simp only [List.mem_cons, List.not_mem_nil, or_false]; omega) G9_3
        rw [hlen, Nat.add_assoc] at N10_0
        have hlen : ws_10.length = ws.length + 3 := by rw [hlen10, hlen]
        subst e_r113
        refine lv_pop hx hb dX6_fence_116 rfl ?_
        refine lv_aload_n hx hb dX6_fence_117 rfl (lv_at hl 0 rfl) ?_
        refine z_get (C := RX6) (T := TX6) (N := 11) (ci := 7) (v := .ref fl) X J hi_X6 0 G10_0 rfl 0 (by decide) (by decide +kernel) rfl dX6_fence_118 ?_
        refine z_cr (z_rV (As := []) (rest := []) (ci := 0) (q0 := 1) X J (cJx4a65c_size_8abf5_ok l E (n := 1) G10_a0) (cwV 0 hts gX6_fence_Jx4a65c_size_8abf5 rfl rfl rfl (by decide +kernel) ⟨Nat.le_of_ble_eq_true rfl, Nat.le_of_ble_eq_true rfl⟩) G10_a0 rfl rfl rfl hl.1 rfl (Nat.le_of_ble_eq_true rfl) dX6_fence_121 ⟨Nat.le_of_ble_eq_true rfl, Nat.le_of_ble_eq_true rfl⟩) (fun r121 e_r121 => ?_)
        subst e_r121
        refine lv_iconst (v := 1) hx hb dX6_fence_124 (by decide) ?_
        refine lv_isub hx hb dX6_fence_125 ?_
        refine W.eq (g2 := F0 m 126 ls [.int (nI 0)]) (congrArg (fun z9 : Int32 => F0 m 126 ls [.int z9]) (show ((nI 1) - 1 : Int32) = nI 0 from (by decide))) ?_
        refine W.widen (k := 12) (n := 80) (by omega) (by omega) ?_
        subst hQ
        refine vx_ret ?_
        exact W.iret (v := nI 0) hx hb hr (fun t ht hW => ⟨⟨nI 0, ws_10, rfl, ⟨hk, ⟨q88, q94, nq_10, hlen, G10_a0, G10_2, G10_3, N10_0, (by exact ⟨(kF0 ⟨cz2, Int32.not_lt.mpr cz8⟩ e_r23 e_r28 e_r34 e_r40 (Or.inr ⟨cz45, e_r59⟩)).trans (if_neg (by decide)), rfl⟩)⟩⟩, J.I X ht hW.alike⟩, J.F ht⟩) J.locs dX6_fence_126
    · subst hQ
      exact z_throw (ik := 49) (is := 51) (ic := 53) (cls := "java/lang/IllegalArgumentException") hflags X hRz J htab hlocks hl.1 zfitA (by decide +kernel) (by decide +kernel) (List.mem_of_getElem? (i := 0) rfl) (fun w9 h9 => List.mem_cons_of_mem _ (List.mem_append_left _ (List.mem_append_left _ (List.mem_append_right _ h9)))) zbadA hRz.2.1 zgoodA dX6_fence_11 dX6_fence_14 dX6_fence_15 dX6_fence_17 dX6_fence_20 (Nat.le_of_ble_eq_true rfl) (Nat.le_of_ble_eq_true rfl) (Nat.le_of_ble_eq_true rfl) (Nat.le_of_ble_eq_true rfl) (by exact Or.inl ⟨kF1 (Or.inl (fun q9 => q9.2 (Int32.not_le.mp cz8))), rfl⟩) (Nat.le_of_ble_eq_true rfl) (Nat.le_of_ble_eq_true rfl)
set_option maxHeartbeats 400000 in
set_option maxRecDepth 100000 in
theorem cX6_fence_n_ok (l : Launch) (hflags : l.flags = flags0) (E : zG) {ws : va_W} {x fl rl wh gr tr sc ea nf : Nat} {mc1 lim sup off plo hrs : Int32} {qe : Nat} {g : Nat → Option Nat} {co ro le dn he ga : Int32} (Fa0 : ws[0]? = some (x, .inr (7, [.ref fl, .ref rl, .ref wh, .ref gr, .ref tr, .ref sc, .int lim, .int sup, .int off, .int plo, .int hrs]))) (Fa1 : ws[1]? = some (fl, .inr (0, [.int mc1, .ref ea, .int (nI nf)]))) (Fa2 : ws[qe]? = some (ea, zO4 E 10 g)) (hdn : dn = 0 ∨ dn = 1) (hn9 : nf ≤ 10) : vx_Met l yX6_fence wsX6_fence ({ frames := 7, cells := 12, slots := 80, locals := 103 } : Room) (va_Pc [.ref x, .int co, .int ro, .int le, .int dn, .int he, .int ga] (zY E ws)) (va_Qi (fun (r : Int32) (ws' : va_W) => (zK [1, qe] ws ws') ∧ (∃ fo sp : Nat, ws'.length = ws.length + 2 ∧ (ws'[1]? = some (fl, .inr (0, [.int (mc1 + 1), .ref ea, .int (nI (nf + 1))]))) ∧ (ws'[qe]? = some (ea, zO4 E 10 (va_up g nf (some fo)))) ∧ (ws'[(ws.length + 0)]? = some (fo, .inr (1, [.int co, .int ro, .ref sp, .int he, .int ga]))) ∧ (ws'[(ws.length + 1)]? = some (sp, .inr (5, [.int (ro * 20 + co), .int le, .int dn]))) ∧ ((kFence co ro le dn he ga (nI nf)) = 0 ∧ r = nI nf))) (zI E) (zA E)) (zX E ws (fun nm => ((kFence co ro le dn he ga (nI nf)) = 1 ∧ nm = "java/lang/IllegalArgumentException") ∨ ((kFence co ro le dn he ga (nI nf)) = 2 ∧ nm = "java/lang/IndexOutOfBoundsException") ∨ ((kFence co ro le dn he ga (nI nf)) = 3 ∧ nm = "java/lang/IllegalStateException"))) 12 80 (zA E) := by
  refine vx_ofW (cc := cX6_fence) (maxL := 7) (ret := (some .int)) (by decide) rfl ?_
  intro p e s m args below meth c s₁ B hml htab hv
  obtain ⟨hargs9, hI, hRz⟩ := hv
  have hx := B.exec
  have hb := B.bytes
  have hr := B.returns
  have hlocks := B.notSynchronized
  have X : zC E p m c cX6_fence 7 s args wsX6_fence RX6 := z_open B hml hI
  have hown := X.1.2.2.2.1
  have hts := X.1.2.2.2.2
  have J := hI.J
  have hi_X0 : ∀ w ∈ wsX00, w ∈ wsX6_fence := by decide +kernel
  have hi_X4 : ∀ w ∈ wsX40, w ∈ wsX6_fence := by decide +kernel
  have hi_X6 : ∀ w ∈ wsX60, w ∈ wsX6_fence := by decide +kernel
  have n0_2 : 0 ≠ qe := zneK Fa0 Fa2 rfl
  have n1_2 : 1 ≠ qe := zneK Fa1 Fa2 rfl
  have hk : zK [1, qe] ws ws := zK.rf
  have hlen : ws.length = ws.length + 0 := rfl
  have bFa0 := zlt Fa0
  have bFa1 := zlt Fa1
  have bFa2 := zlt Fa2
  have hl := lv_entry ([.ref x, .int co, .int ro, .int le, .int dn, .int he, .int ga]) (n := 7) (Nat.le_of_ble_eq_true rfl)
  rw [show entryFrame m args 7 = entryFrame m ([.ref x, .int co, .int ro, .int le, .int dn, .int he, .int ga] : List Value).toArray 7 from by rw [hargs9], lg_entry_eq]
  generalize (lg_sl ([.ref x, .int co, .int ro, .int le, .int dn, .int he, .int ga]) ++ List.replicate (7 - (lg_sl ([.ref x, .int co, .int ro, .int le, .int dn, .int he, .int ga])).length) Slot.unset).toArray = ls at hl ⊢
  have hl : lv_has ls 7 [(0, .ref x), (1, .int co), (2, .int ro), (3, .int le), (4, .int dn), (5, .int he), (6, .int ga)] := hl
  generalize hQ : (vx_MQ below (va_Qi (fun (r : Int32) (ws' : va_W) => (zK [1, qe] ws ws') ∧ (∃ fo sp : Nat, ws'.length = ws.length + 2 ∧ (ws'[1]? = some (fl, .inr (0, [.int (mc1 + 1), .ref ea, .int (nI (nf + 1))]))) ∧ (ws'[qe]? = some (ea, zO4 E 10 (va_up g nf (some fo)))) ∧ (ws'[(ws.length + 0)]? = some (fo, .inr (1, [.int co, .int ro, .ref sp, .int he, .int ga]))) ∧ (ws'[(ws.length + 1)]? = some (sp, .inr (5, [.int (ro * 20 + co), .int le, .int dn]))) ∧ ((kFence co ro le dn he ga (nI nf)) = 0 ∧ r = nI nf))) (zI E) (zA E)) (zX E ws (fun nm => ((kFence co ro le dn he ga (nI nf)) = 1 ∧ nm = "java/lang/IllegalArgumentException") ∨ ((kFence co ro le dn he ga (nI nf)) = 2 ∧ nm = "java/lang/IndexOutOfBoundsException") ∨ ((kFence co ro le dn he ga (nI nf)) = 3 ∧ nm = "java/lang/IllegalStateException"))) args s 12 80 (zA E)) = QQ
  refine lv_iload_n hx hb dX6_fence_0 rfl (lv_at hl 3 rfl) ?_
  refine lv_iconst (v := 1) hx hb dX6_fence_1 (by decide) ?_
  refine lv_icmp_lt (tgt := 11) hx hb dX6_fence_2 (by decide) (fun cz2 => ?_) (fun cz2 => ?_)
  · subst hQ
    exact z_throw (ik := 49) (is := 51) (ic := 53) (cls := "java/lang/IllegalArgumentException") hflags X hRz J htab hlocks hl.1 zfitA (by decide +kernel) (by decide +kernel) (List.mem_of_getElem? (i := 0) rfl) (fun w9 h9 => List.mem_cons_of_mem _ (List.mem_append_left _ (List.mem_append_left _ (List.mem_append_right _ h9)))) zbadA hRz.2.1 zgoodA dX6_fence_11 dX6_fence_14 dX6_fence_15 dX6_fence_17 dX6_fence_20 (Nat.le_of_ble_eq_true rfl) (Nat.le_of_ble_eq_true rfl) (Nat.le_of_ble_eq_true rfl) (Nat.le_of_ble_eq_true rfl) (by exact Or.inl ⟨kF1 (Or.inl (fun q9 => q9.1 cz2)), rfl⟩) (Nat.le_of_ble_eq_true rfl) (Nat.le_of_ble_eq_true rfl)
  · refine lv_iload_n hx hb dX6_fence_5 rfl (lv_at hl 3 rfl) ?_
    refine lv_bipush (v := 20) hx hb dX6_fence_6 (by decide) ?_
    refine lv_icmp_le (tgt := 21) hx hb dX6_fence_8 (by decide) (fun cz8 => ?_) (fun cz8 => ?_)
    · refine lv_iload hx hb dX6_fence_21 (lv_at hl 5 rfl) ?_
      refine z_xv J (z_yS (As := [.int he]) (rest := []) X hRz J (cX6_needHeight_ok l hflags E) (va_cwS 1 hts gX6_fence_X6_needHeight rfl rfl rfl (by decide +kernel) ⟨Nat.le_of_ble_eq_true rfl, Nat.le_of_ble_eq_true rfl⟩) rfl hl.1 rfl (Nat.le_of_ble_eq_true rfl) dX6_fence_23 ⟨Nat.le_of_ble_eq_true rfl, Nat.le_of_ble_eq_true rfl⟩) (fun nm ce q9 H locs hp9 J h1 h2 h3 => ?_) (fun ws_1 H locs hp9 J => ?_)
      · subst hQ
        exact z_out X J htab hlocks h1 h2 h3 (by exact Or.inl ⟨kF1 (Or.inr (Or.inl hp9.1)), hp9.2⟩) (Nat.le_of_ble_eq_true rfl) (Nat.le_of_ble_eq_true rfl)
      obtain ⟨rfl, e_r23⟩ := hp9
      refine lv_iload hx hb dX6_fence_26 (lv_at hl 6 rfl) ?_
      refine z_xv J (z_yS (As := [.int ga]) (rest := []) X hRz J (cX6_needGap_ok l hflags E) (va_cwS 1 hts gX6_fence_X6_needGap rfl rfl rfl (by decide +kernel) ⟨Nat.le_of_ble_eq_true rfl, Nat.le_of_ble_eq_true rfl⟩) rfl hl.1 rfl (Nat.le_of_ble_eq_true rfl) dX6_fence_28 ⟨Nat.le_of_ble_eq_true rfl, Nat.le_of_ble_eq_true rfl⟩) (fun nm ce q9 H locs hp9 J h1 h2 h3 => ?_) (fun ws_2 H locs hp9 J => ?_)
      · subst hQ
        exact z_out X J htab hlocks h1 h2 h3 (by exact Or.inl ⟨kF1 (Or.inr (Or.inr hp9.1)), hp9.2⟩) (Nat.le_of_ble_eq_true rfl) (Nat.le_of_ble_eq_true rfl)
      obtain ⟨rfl, e_r28⟩ := hp9
      refine lv_iload_n hx hb dX6_fence_31 rfl (lv_at hl 1 rfl) ?_
      refine lv_bipush (v := 20) hx hb dX6_fence_32 (by decide) ?_
      refine z_xv J (z_yS (As := [.int co, .int 20]) (rest := []) X hRz J (cX6_needIndex_ok l hflags E (n := 20) (by decide)) (va_cwS 2 hts gX6_fence_X6_needIndex rfl rfl rfl (by decide +kernel) ⟨Nat.le_of_ble_eq_true rfl, Nat.le_of_ble_eq_true rfl⟩) rfl hl.1 rfl (Nat.le_of_ble_eq_true rfl) dX6_fence_34 ⟨Nat.le_of_ble_eq_true rfl, Nat.le_of_ble_eq_true rfl⟩) (fun nm ce q9 H locs hp9 J h1 h2 h3 => ?_) (fun ws_3 H locs hp9 J => ?_)
      · subst hQ
        exact z_out X J htab hlocks h1 h2 h3 (by exact Or.inr (Or.inl ⟨kF2 ⟨cz2, Int32.not_lt.mpr cz8⟩ e_r23 e_r28 (Or.inl hp9.1), hp9.2⟩)) (Nat.le_of_ble_eq_true rfl) (Nat.le_of_ble_eq_true rfl)
      obtain ⟨rfl, e_r34⟩ := hp9
      refine lv_iload_n hx hb dX6_fence_37 rfl (lv_at hl 2 rfl) ?_
      refine lv_bipush (v := 20) hx hb dX6_fence_38 (by decide) ?_
      refine z_xv J (z_yS (As := [.int ro, .int 20]) (rest := []) X hRz J (cX6_needIndex_ok l hflags E (n := 20) (by decide)) (va_cwS 2 hts gX6_fence_X6_needIndex rfl rfl rfl (by decide +kernel) ⟨Nat.le_of_ble_eq_true rfl, Nat.le_of_ble_eq_true rfl⟩) rfl hl.1 rfl (Nat.le_of_ble_eq_true rfl) dX6_fence_40 ⟨Nat.le_of_ble_eq_true rfl, Nat.le_of_ble_eq_true rfl⟩) (fun nm ce q9 H locs hp9 J h1 h2 h3 => ?_) (fun ws_4 H locs hp9 J => ?_)
      · subst hQ
        exact z_out X J htab hlocks h1 h2 h3 (by exact Or.inr (Or.inl ⟨kF2 ⟨cz2, Int32.not_lt.mpr cz8⟩ e_r23 e_r28 (Or.inr (Or.inl hp9.1)), hp9.2⟩)) (Nat.le_of_ble_eq_true rfl) (Nat.le_of_ble_eq_true rfl)
      obtain ⟨rfl, e_r40⟩ := hp9
      refine lv_iload hx hb dX6_fence_43 (lv_at hl 4 rfl) ?_
      refine lv_if_eq (tgt := 52) hx hb dX6_fence_45 (by decide) (fun cz45 => ?_) (fun cz45 => ?_)
      · refine lv_iload_n hx hb dX6_fence_52 rfl (lv_at hl 1 rfl) ?_
        refine lv_iload_n hx hb dX6_fence_53 rfl (lv_at hl 3 rfl) ?_
        refine lv_iadd hx hb dX6_fence_54 ?_
        refine lv_iconst (v := 1) hx hb dX6_fence_55 (by decide) ?_
        refine lv_isub hx hb dX6_fence_56 ?_
        refine lv_bipush (v := 20) hx hb dX6_fence_57 (by decide) ?_
        refine z_xv J (z_yS (As := [.int ((co + le) - 1), .int 20]) (rest := []) X hRz J (cX6_needIndex_ok l hflags E (n := 20) (by decide)) (va_cwS 2 hts gX6_fence_X6_needIndex rfl rfl rfl (by decide +kernel) ⟨Nat.le_of_ble_eq_true rfl, Nat.le_of_ble_eq_true rfl⟩) rfl hl.1 rfl (Nat.le_of_ble_eq_true rfl) dX6_fence_59 ⟨Nat.le_of_ble_eq_true rfl, Nat.le_of_ble_eq_true rfl⟩) (fun nm ce q9 H locs hp9 J h1 h2 h3 => ?_) (fun ws_5 H locs hp9 J => ?_)
        · subst hQ
          exact z_out X J htab hlocks h1 h2 h3 (by exact Or.inr (Or.inl ⟨kF2 ⟨cz2, Int32.not_lt.mpr cz8⟩ e_r23 e_r28 (Or.inr (Or.inr (Or.inl ⟨cz45, hp9.1⟩))), hp9.2⟩)) (Nat.le_of_ble_eq_true rfl) (Nat.le_of_ble_eq_true rfl)
        obtain ⟨rfl, e_r59⟩ := hp9
        refine lv_aload_n hx hb dX6_fence_62 rfl (lv_at hl 0 rfl) ?_
        refine z_get (C := RX6) (T := TX6) (N := 11) (ci := 7) (v := .ref fl) X J hi_X6 0 Fa0 rfl 0 (by decide) (by decide +kernel) rfl dX6_fence_63 ?_
        refine z_cr (z_rV (As := []) (rest := []) (ci := 0) (q0 := 1) X J (cJx4a65c_size_8abf5_ok l E Fa1) (cwV 0 hts gX6_fence_Jx4a65c_size_8abf5 rfl rfl rfl (by decide +kernel) ⟨Nat.le_of_ble_eq_true rfl, Nat.le_of_ble_eq_true rfl⟩) Fa1 rfl rfl rfl hl.1 rfl (Nat.le_of_ble_eq_true rfl) dX6_fence_66 ⟨Nat.le_of_ble_eq_true rfl, Nat.le_of_ble_eq_true rfl⟩) (fun r66 e_r66 => ?_)
        subst e_r66
        refine lv_bipush (v := 10) hx hb dX6_fence_69 (by decide) ?_
        refine lv_icmp_lt (tgt := 84) hx hb dX6_fence_71 (by decide) (fun cz71 => ?_) (fun cz71 => ?_)
        · have hnf10 := n10_lt hn9 cz71
          refine lv_aload_n hx hb dX6_fence_84 rfl (lv_at hl 0 rfl) ?_
          refine z_get (C := RX6) (T := TX6) (N := 11) (ci := 7) (v := .ref fl) X J hi_X6 0 Fa0 rfl 0 (by decide) (by decide +kernel) rfl dX6_fence_85 ?_
          refine z_new (C := RX0) (T := TX0) (N := 5) (ci := 1) (fs := [.int 0, .int 0, .null, .int 0, .int 0]) X J hi_X0 tyX0 tyX0_ok (by decide +kernel) (by decide +kernel) (by decide +kernel) rfl (fun j hj => by rcases (show j = 0 ∨ j = 1 ∨ j = 2 ∨ j = 3 ∨ j = 4 by omega) with rfl | rfl | rfl | rfl | rfl <;> rfl) (Nat.le_of_ble_eq_true rfl) (Nat.le_of_ble_eq_true rfl) dX6_fence_88 (fun q88 H J => ?_)
          have lp6 := hk.1
          have hk := hk.trans (zK.app (more := [(q88, .inr (1, [.int 0, .int 0, .null, .int 0, .int 0]))]))
          have hpn6 := hlen
          have hlen : (ws ++ ([(q88, .inr (1, [.int 0, .int 0, .null, .int 0, .int 0]))] : va_W)).length = ws.length + 1 := by rw [List.length_append, hlen]; rfl
          have bG6_0 := zlt Fa0
          have G6_0 := zapp (x := (q88, .inr (1, [.int 0, .int 0, .null, .int 0, .int 0]))) Fa0
          have bG6_1 := zlt Fa1
          have G6_1 := zapp (x := (q88, .inr (1, [.int 0, .int 0, .null, .int 0, .int 0]))) Fa1
          have bG6_2 := zlt Fa2
          have G6_2 := zapp (x := (q88, .inr (1, [.int 0, .int 0, .null, .int 0, .int 0]))) Fa2
          have G6_n := zapp_new (ws := ws) (x := (q88, .inr (1, [.int 0, .int 0, .null, .int 0, .int 0])))
          generalize hws6 : ws ++ [(q88, .inr (1, [.int 0, .int 0, .null, .int 0, .int 0]))] = ws_6 at J hk hlen G6_0 G6_1 G6_2 G6_n
          rw [hpn6] at lp6 G6_n bG6_0 bG6_1 bG6_2
          refine lv_dup hx hb dX6_fence_91 rfl ?_
          refine lv_iload_n hx hb dX6_fence_92 rfl (lv_at hl 1 rfl) ?_
          refine lv_iload_n hx hb dX6_fence_93 rfl (lv_at hl 2 rfl) ?_
          refine z_new (C := RX4) (T := TX4) (N := 3) (ci := 5) (fs := [.int 0, .int 0, .int 0]) X J hi_X4 tyX4 tyX4_ok (by decide +kernel) (by decide +kernel) (by decide +kernel) rfl (fun j hj => by rcases (show j = 0 ∨ j = 1 ∨ j = 2 by omega) with rfl | rfl | rfl <;> rfl) (Nat.le_of_ble_eq_true rfl) (Nat.le_of_ble_eq_true rfl) dX6_fence_94 (fun q94 H J => ?_)
          have lp7 := hk.1
          have hk := hk.trans (zK.app (more := [(q94, .inr (5, [.int 0, .int 0, .int 0]))]))
          have hpn7 := hlen
          have hlen : (ws_6 ++ ([(q94, .inr (5, [.int 0, .int 0, .int 0]))] : va_W)).length = ws.length + 2 := by rw [List.length_append, hlen]; rfl
          have bG7_0 := zlt G6_0
          have G7_0 := zapp (x := (q94, .inr (5, [.int 0, .int 0, .int 0]))) G6_0
          have bG7_1 := zlt G6_1
          have G7_1 := zapp (x := (q94, .inr (5, [.int 0, .int 0, .int 0]))) G6_1
          have bG7_2 := zlt G6_2
          have G7_2 := zapp (x := (q94, .inr (5, [.int 0, .int 0, .int 0]))) G6_2
          have bG7_3 := zlt G6_n
          have G7_3 := zapp (x := (q94, .inr (5, [.int 0, .int 0, .int 0]))) G6_n
          have G7_n := zapp_new (ws := ws_6) (x := (q94, .inr (5, [.int 0, .int 0, .int 0])))
          generalize hws7 : ws_6 ++ [(q94, .inr (5, [.int 0, .int 0, .int 0]))] = ws_7 at J hk hlen G7_0 G7_1 G7_2 G7_3 G7_n
          rw [hpn7] at lp7 G7_n bG7_0 bG7_1 bG7_2 bG7_3
          refine lv_dup hx hb dX6_fence_97 rfl ?_
          refine lv_iload_n hx hb dX6_fence_98 rfl (lv_at hl 1 rfl) ?_
          refine lv_iload_n hx hb dX6_fence_99 rfl (lv_at hl 2 rfl) ?_
          refine lv_iload_n hx hb dX6_fence_100 rfl (lv_at hl 3 rfl) ?_
          refine lv_iload hx hb dX6_fence_101 (lv_at hl 4 rfl) ?_
          refine z_cv J (z_rI (As := [.int co, .int ro, .int le, .int dn]) (rest := [.ref q94, .int ro, .int co, .ref q88, .ref q88, .ref fl]) X J (cX4_init_ok l E G7_n hdn) (cwI 4 hts gX6_fence_X4_init rfl rfl rfl (hts (.initialized RX4) (by decide +kernel)) (hts (.methodLink RX6 21 yX4_init) (by decide +kernel)) (hts (.instanceMethod yX4_init) (by decide +kernel)) rfl (by decide +kernel) ⟨Nat.le_of_ble_eq_true rfl, Nat.le_of_ble_eq_true rfl⟩) rfl hl.1 rfl (Nat.le_of_ble_eq_true rfl) dX6_fence_103 ⟨Nat.le_of_ble_eq_true rfl, Nat.le_of_ble_eq_true rfl⟩) (fun ws_8 H locs hp9 J => ?_)
          obtain ⟨k8, hl9_8, G8_a0⟩ := hp9
          have hk := hk.transN k8 (by intro q9 hq9; simp only [List.mem_cons, List.not_mem_nil, or_false] at hq9 ⊢; omega)
          have G8_0 := k8.2 0 _ (by simp only [List.mem_cons, List.not_mem_nil, or_false]; omega) G7_0
          have G8_1 := k8.2 1 _ (by simp only [List.mem_cons, List.not_mem_nil, or_false]; omega) G7_1
          have G8_2 := k8.2 qe _ (by simp only [List.mem_cons, List.not_mem_nil, or_false]; omega) G7_2
          have G8_3 := k8.2 (ws.length + 0) _ (by simp only [List.mem_cons, List.not_mem_nil, or_false]; omega) G7_3
          have hlen : ws_8.length = ws.length + 2 := by rw [hl9_8, hlen]
          refine lv_iload hx hb dX6_fence_106 (lv_at hl 5 rfl) ?_
          refine lv_iload hx hb dX6_fence_108 (lv_at hl 6 rfl) ?_
          refine z_cv J (z_rI (As := [.int co, .int ro, .ref q94, .int he, .int ga]) (rest := [.ref q88, .ref fl]) X J (cX0_init_ok l E G8_3) (cwI 5 hts gX6_fence_X0_init rfl rfl rfl (hts (.initialized RX0) (by decide +kernel)) (hts (.methodLink RX6 78 yX0_init) (by decide +kernel)) (hts (.instanceMethod yX0_init) (by decide +kernel)) rfl (by decide +kernel) ⟨Nat.le_of_ble_eq_true rfl, Nat.le_of_ble_eq_true rfl⟩) rfl hl.1 rfl (Nat.le_of_ble_eq_true rfl) dX6_fence_110 ⟨Nat.le_of_ble_eq_true rfl, Nat.le_of_ble_eq_true rfl⟩) (fun ws_9 H locs hp9 J => ?_)
          obtain ⟨k9, hl9_9, G9_a0⟩ := hp9
          have hk := hk.transN k9 (by intro q9 hq9; simp only [List.mem_cons, List.not_mem_nil, or_false] at hq9 ⊢; omega)
          have G9_0 := k9.2 0 _ (by simp only [List.mem_cons, List.not_mem_nil, or_false]; omega) G8_0
          have G9_1 := k9.2 1 _ (by simp only [List.mem_cons, List.not_mem_nil, or_false]; omega) G8_1
          have G9_2 := k9.2 qe _ (by simp only [List.mem_cons, List.not_mem_nil, or_false]; omega) G8_2
          have G9_4 := k9.2 (ws.length + 1) _ (by simp only [List.mem_cons, List.not_mem_nil, or_false]; omega) G8_a0
          have hlen : ws_9.length = ws.length + 2 := by rw [hl9_9, hlen]
          refine z_ci J (z_rV (As := [.ref q88]) (rest := []) (ci := 0) (q0 := 1) X J (cJx4a65c_add_9ea2d_nf_ok l E G9_1 G9_2 G9_a0 hnf10) (cwV 1 hts gX6_fence_Jx4a65c_add_9ea2d rfl rfl rfl (by decide +kernel) ⟨Nat.le_of_ble_eq_true rfl, Nat.le_of_ble_eq_true rfl⟩) G9_1 rfl rfl rfl hl.1 rfl (Nat.le_of_ble_eq_true rfl) dX6_fence_113 ⟨Nat.le_of_ble_eq_true rfl, Nat.le_of_ble_eq_true rfl⟩) (fun r113 ws_10 H locs hp9 J => ?_)
          obtain ⟨k10, hl9_10, G10_a0, G10_a1, e_r113⟩ := hp9
          have hk := hk.trans (k10.mono (by intro q9 hq9; simp only [List.mem_cons, List.not_mem_nil, or_false] at hq9 ⊢; omega))
          have G10_0 := k10.2 0 _ (by simp only [List.mem_cons, List.not_mem_nil, or_false]; omega) G9_0
          have G10_3 := k10.2 (ws.length + 0) _ (by simp only [List.mem_cons, List.not_mem_nil, or_false]; omega) G9_a0
          have G10_4 := k10.2 (ws.length + 1) _ (by simp only [List.mem_cons, List.not_mem_nil, or_false]; omega) G9_4
          have hlen : ws_10.length = ws.length + 2 := by rw [hl9_10, hlen]
          subst e_r113
          refine lv_pop hx hb dX6_fence_116 rfl ?_
          refine lv_aload_n hx hb dX6_fence_117 rfl (lv_at hl 0 rfl) ?_
          refine z_get (C := RX6) (T := TX6) (N := 11) (ci := 7) (v := .ref fl) X J hi_X6 0 G10_0 rfl 0 (by decide) (by decide +kernel) rfl dX6_fence_118 ?_
          refine z_cr (z_rV (As := []) (rest := []) (ci := 0) (q0 := 1) X J (cJx4a65c_size_8abf5_ok l E G10_a0) (cwV 0 hts gX6_fence_Jx4a65c_size_8abf5 rfl rfl rfl (by decide +kernel) ⟨Nat.le_of_ble_eq_true rfl, Nat.le_of_ble_eq_true rfl⟩) G10_a0 rfl rfl rfl hl.1 rfl (Nat.le_of_ble_eq_true rfl) dX6_fence_121 ⟨Nat.le_of_ble_eq_true rfl, Nat.le_of_ble_eq_true rfl⟩) (fun r121 e_r121 => ?_)
          subst e_r121
          refine lv_iconst (v := 1) hx hb dX6_fence_124 (by decide) ?_
          refine lv_isub hx hb dX6_fence_125 ?_
          refine W.eq (g2 := F0 m 126 ls [.int (nI nf)]) (congrArg (fun z9 : Int32 => F0 m 126 ls [.int z9]) (show ((nI (nf + 1)) - 1 : Int32) = nI nf from (nI_pred nf))) ?_
          refine W.widen (k := 12) (n := 80) (by omega) (by omega) ?_
          subst hQ
          refine vx_ret ?_
          exact W.iret (v := nI nf) hx hb hr (fun t ht hW => ⟨⟨nI nf, ws_10, rfl, ⟨hk, ⟨q88, q94, hlen, G10_a0, G10_a1, G10_3, G10_4, (by exact ⟨(kF0 ⟨cz2, Int32.not_lt.mpr cz8⟩ e_r23 e_r28 e_r34 e_r40 (Or.inl ⟨cz45, e_r59⟩)).trans (if_neg (n10_ne cz71)), rfl⟩)⟩⟩, J.I X ht hW.alike⟩, J.F ht⟩) J.locs dX6_fence_126
        · subst hQ
          exact z_throw (ik := 71) (is := 73) (ic := 75) (cls := "java/lang/IllegalStateException") hflags X hRz J htab hlocks hl.1 zfitS (by decide +kernel) (by decide +kernel) (List.mem_of_getElem? (i := 1) rfl) (fun w9 h9 => List.mem_cons_of_mem _ (List.mem_append_left _ (List.mem_append_right _ h9))) zbadS hRz.2.2.2.1 zgoodS dX6_fence_74 dX6_fence_77 dX6_fence_78 dX6_fence_80 dX6_fence_83 (Nat.le_of_ble_eq_true rfl) (Nat.le_of_ble_eq_true rfl) (Nat.le_of_ble_eq_true rfl) (Nat.le_of_ble_eq_true rfl) (by exact Or.inr (Or.inr ⟨(kF0 ⟨cz2, Int32.not_lt.mpr cz8⟩ e_r23 e_r28 e_r34 e_r40 (Or.inl ⟨cz45, e_r59⟩)).trans (if_pos (n10_of hn9 cz71)), rfl⟩)) (Nat.le_of_ble_eq_true rfl) (Nat.le_of_ble_eq_true rfl)
      · refine lv_iload_n hx hb dX6_fence_48 rfl (lv_at hl 2 rfl) ?_
        refine lv_goto (tgt := 53) hx hb dX6_fence_49 (by decide) ?_
        refine lv_iload_n hx hb dX6_fence_53 rfl (lv_at hl 3 rfl) ?_
        refine lv_iadd hx hb dX6_fence_54 ?_
        refine lv_iconst (v := 1) hx hb dX6_fence_55 (by decide) ?_
        refine lv_isub hx hb dX6_fence_56 ?_
        refine lv_bipush (v := 20) hx hb dX6_fence_57 (by decide) ?_
        refine z_xv J (z_yS (As := [.int ((ro + le) - 1), .int 20]) (rest := []) X hRz J (cX6_needIndex_ok l hflags E (n := 20) (by decide)) (va_cwS 2 hts gX6_fence_X6_needIndex rfl rfl rfl (by decide +kernel) ⟨Nat.le_of_ble_eq_true rfl, Nat.le_of_ble_eq_true rfl⟩) rfl hl.1 rfl (Nat.le_of_ble_eq_true rfl) dX6_fence_59 ⟨Nat.le_of_ble_eq_true rfl, Nat.le_of_ble_eq_true rfl⟩) (fun nm ce q9 H locs hp9 J h1 h2 h3 => ?_) (fun ws_5 H locs hp9 J => ?_)
        · subst hQ
          exact z_out X J htab hlocks h1 h2 h3 (by exact Or.inr (Or.inl ⟨kF2 ⟨cz2, Int32.not_lt.mpr cz8⟩ e_r23 e_r28 (Or.inr (Or.inr (Or.inr ⟨cz45, hp9.1⟩))), hp9.2⟩)) (Nat.le_of_ble_eq_true rfl) (Nat.le_of_ble_eq_true rfl)
        obtain ⟨rfl, e_r59⟩ := hp9
        refine lv_aload_n hx hb dX6_fence_62 rfl (lv_at hl 0 rfl) ?_
        refine z_get (C := RX6) (T := TX6) (N := 11) (ci := 7) (v := .ref fl) X J hi_X6 0 Fa0 rfl 0 (by decide) (by decide +kernel) rfl dX6_fence_63 ?_
        refine z_cr (z_rV (As := []) (rest := []) (ci := 0) (q0 := 1) X J (cJx4a65c_size_8abf5_ok l E Fa1) (cwV 0 hts gX6_fence_Jx4a65c_size_8abf5 rfl rfl rfl (by decide +kernel) ⟨Nat.le_of_ble_eq_true rfl, Nat.le_of_ble_eq_true rfl⟩) Fa1 rfl rfl rfl hl.1 rfl (Nat.le_of_ble_eq_true rfl) dX6_fence_66 ⟨Nat.le_of_ble_eq_true rfl, Nat.le_of_ble_eq_true rfl⟩) (fun r66 e_r66 => ?_)
        subst e_r66
        refine lv_bipush (v := 10) hx hb dX6_fence_69 (by decide) ?_
        refine lv_icmp_lt (tgt := 84) hx hb dX6_fence_71 (by decide) (fun cz71 => ?_) (fun cz71 => ?_)
        · have hnf10 := n10_lt hn9 cz71
          refine lv_aload_n hx hb dX6_fence_84 rfl (lv_at hl 0 rfl) ?_
          refine z_get (C := RX6) (T := TX6) (N := 11) (ci := 7) (v := .ref fl) X J hi_X6 0 Fa0 rfl 0 (by decide) (by decide +kernel) rfl dX6_fence_85 ?_
          refine z_new (C := RX0) (T := TX0) (N := 5) (ci := 1) (fs := [.int 0, .int 0, .null, .int 0, .int 0]) X J hi_X0 tyX0 tyX0_ok (by decide +kernel) (by decide +kernel) (by decide +kernel) rfl (fun j hj => by rcases (show j = 0 ∨ j = 1 ∨ j = 2 ∨ j = 3 ∨ j = 4 by omega) with rfl | rfl | rfl | rfl | rfl <;> rfl) (Nat.le_of_ble_eq_true rfl) (Nat.le_of_ble_eq_true rfl) dX6_fence_88 (fun q88 H J => ?_)
          have lp6 := hk.1
          have hk := hk.trans (zK.app (more := [(q88, .inr (1, [.int 0, .int 0, .null, .int 0, .int 0]))]))
          have hpn6 := hlen
          have hlen : (ws ++ ([(q88, .inr (1, [.int 0, .int 0, .null, .int 0, .int 0]))] : va_W)).length = ws.length + 1 := by rw [List.length_append, hlen]; rfl
          have bG6_0 := zlt Fa0
          have G6_0 := zapp (x := (q88, .inr (1, [.int 0, .int 0, .null, .int 0, .int 0]))) Fa0
          have bG6_1 := zlt Fa1
          have G6_1 := zapp (x := (q88, .inr (1, [.int 0, .int 0, .null, .int 0, .int 0]))) Fa1
          have bG6_2 := zlt Fa2
          have G6_2 := zapp (x := (q88, .inr (1, [.int 0, .int 0, .null, .int 0, .int 0]))) Fa2
          have G6_n := zapp_new (ws := ws) (x := (q88, .inr (1, [.int 0, .int 0, .null, .int 0, .int 0])))
          generalize hws6 : ws ++ [(q88, .inr (1, [.int 0, .int 0, .null, .int 0, .int 0]))] = ws_6 at J hk hlen G6_0 G6_1 G6_2 G6_n
          rw [hpn6] at lp6 G6_n bG6_0 bG6_1 bG6_2
          refine lv_dup hx hb dX6_fence_91 rfl ?_
          refine lv_iload_n hx hb dX6_fence_92 rfl (lv_at hl 1 rfl) ?_
          refine lv_iload_n hx hb dX6_fence_93 rfl (lv_at hl 2 rfl) ?_
          refine z_new (C := RX4) (T := TX4) (N := 3) (ci := 5) (fs := [.int 0, .int 0, .int 0]) X J hi_X4 tyX4 tyX4_ok (by decide +kernel) (by decide +kernel) (by decide +kernel) rfl (fun j hj => by rcases (show j = 0 ∨ j = 1 ∨ j = 2 by omega) with rfl | rfl | rfl <;> rfl) (Nat.le_of_ble_eq_true rfl) (Nat.le_of_ble_eq_true rfl) dX6_fence_94 (fun q94 H J => ?_)
          have lp7 := hk.1
          have hk := hk.trans (zK.app (more := [(q94, .inr (5, [.int 0, .int 0, .int 0]))]))
          have hpn7 := hlen
          have hlen : (ws_6 ++ ([(q94, .inr (5, [.int 0, .int 0, .int 0]))] : va_W)).length = ws.length + 2 := by rw [List.length_append, hlen]; rfl
          have bG7_0 := zlt G6_0
          have G7_0 := zapp (x := (q94, .inr (5, [.int 0, .int 0, .int 0]))) G6_0
          have bG7_1 := zlt G6_1
          have G7_1 := zapp (x := (q94, .inr (5, [.int 0, .int 0, .int 0]))) G6_1
          have bG7_2 := zlt G6_2
          have G7_2 := zapp (x := (q94, .inr (5, [.int 0, .int 0, .int 0]))) G6_2
          have bG7_3 := zlt G6_n
          have G7_3 := zapp (x := (q94, .inr (5, [.int 0, .int 0, .int 0]))) G6_n
          have G7_n := zapp_new (ws := ws_6) (x := (q94, .inr (5, [.int 0, .int 0, .int 0])))
          generalize hws7 : ws_6 ++ [(q94, .inr (5, [.int 0, .int 0, .int 0]))] = ws_7 at J hk hlen G7_0 G7_1 G7_2 G7_3 G7_n
          rw [hpn7] at lp7 G7_n bG7_0 bG7_1 bG7_2 bG7_3
          refine lv_dup hx hb dX6_fence_97 rfl ?_
          refine lv_iload_n hx hb dX6_fence_98 rfl (lv_at hl 1 rfl) ?_
          refine lv_iload_n hx hb dX6_fence_99 rfl (lv_at hl 2 rfl) ?_
          refine lv_iload_n hx hb dX6_fence_100 rfl (lv_at hl 3 rfl) ?_
          refine lv_iload hx hb dX6_fence_101 (lv_at hl 4 rfl) ?_
          refine z_cv J (z_rI (As := [.int co, .int ro, .int le, .int dn]) (rest := [.ref q94, .int ro, .int co, .ref q88, .ref q88, .ref fl]) X J (cX4_init_ok l E G7_n hdn) (cwI 4 hts gX6_fence_X4_init rfl rfl rfl (hts (.initialized RX4) (by decide +kernel)) (hts (.methodLink RX6 21 yX4_init) (by decide +kernel)) (hts (.instanceMethod yX4_init) (by decide +kernel)) rfl (by decide +kernel) ⟨Nat.le_of_ble_eq_true rfl, Nat.le_of_ble_eq_true rfl⟩) rfl hl.1 rfl (Nat.le_of_ble_eq_true rfl) dX6_fence_103 ⟨Nat.le_of_ble_eq_true rfl, Nat.le_of_ble_eq_true rfl⟩) (fun ws_8 H locs hp9 J => ?_)
          obtain ⟨k8, hl9_8, G8_a0⟩ := hp9
          have hk := hk.transN k8 (by intro q9 hq9; simp only [List.mem_cons, List.not_mem_nil, or_false] at hq9 ⊢; omega)
          have G8_0 := k8.2 0 _ (by simp only [List.mem_cons, List.not_mem_nil, or_false]; omega) G7_0
          have G8_1 := k8.2 1 _ (by simp only [List.mem_cons, List.not_mem_nil, or_false]; omega) G7_1
          have G8_2 := k8.2 qe _ (by simp only [List.mem_cons, List.not_mem_nil, or_false]; omega) G7_2
          have G8_3 := k8.2 (ws.length + 0) _ (by simp only [List.mem_cons, List.not_mem_nil, or_false]; omega) G7_3
          have hlen : ws_8.length = ws.length + 2 := by rw [hl9_8, hlen]
          refine lv_iload hx hb dX6_fence_106 (lv_at hl 5 rfl) ?_
          refine lv_iload hx hb dX6_fence_108 (lv_at hl 6 rfl) ?_
          refine z_cv J (z_rI (As := [.int co, .int ro, .ref q94, .int he, .int ga]) (rest := [.ref q88, .ref fl]) X J (cX0_init_ok l E G8_3) (cwI 5 hts gX6_fence_X0_init rfl rfl rfl (hts (.initialized RX0) (by decide +kernel)) (hts (.methodLink RX6 78 yX0_init) (by decide +kernel)) (hts (.instanceMethod yX0_init) (by decide +kernel)) rfl (by decide +kernel) ⟨Nat.le_of_ble_eq_true rfl, Nat.le_of_ble_eq_true rfl⟩) rfl hl.1 rfl (Nat.le_of_ble_eq_true rfl) dX6_fence_110 ⟨Nat.le_of_ble_eq_true rfl, Nat.le_of_ble_eq_true rfl⟩) (fun ws_9 H locs hp9 J => ?_)
          obtain ⟨k9, hl9_9, G9_a0⟩ := hp9
          have hk := hk.transN k9 (by intro q9 hq9; simp only [List.mem_cons, List.not_mem_nil, or_false] at hq9 ⊢; omega)
          have G9_0 := k9.2 0 _ (by simp only [List.mem_cons, List.not_mem_nil, or_false]; omega) G8_0
          have G9_1 := k9.2 1 _ (by simp only [List.mem_cons, List.not_mem_nil, or_false]; omega) G8_1
          have G9_2 := k9.2 qe _ (by simp only [List.mem_cons, List.not_mem_nil, or_false]; omega) G8_2
          have G9_4 := k9.2 (ws.length + 1) _ (by simp only [List.mem_cons, List.not_mem_nil, or_false]; omega) G8_a0
          have hlen : ws_9.length = ws.length + 2 := by rw [hl9_9, hlen]
          refine z_ci J (z_rV (As := [.ref q88]) (rest := []) (ci := 0) (q0 := 1) X J (cJx4a65c_add_9ea2d_nf_ok l E G9_1 G9_2 G9_a0 hnf10) (cwV 1 hts gX6_fence_Jx4a65c_add_9ea2d rfl rfl rfl (by decide +kernel) ⟨Nat.le_of_ble_eq_true rfl, Nat.le_of_ble_eq_true rfl⟩) G9_1 rfl rfl rfl hl.1 rfl (Nat.le_of_ble_eq_true rfl) dX6_fence_113 ⟨Nat.le_of_ble_eq_true rfl, Nat.le_of_ble_eq_true rfl⟩) (fun r113 ws_10 H locs hp9 J => ?_)
          obtain ⟨k10, hl9_10, G10_a0, G10_a1, e_r113⟩ := hp9
          have hk := hk.trans (k10.mono (by intro q9 hq9; simp only [List.mem_cons, List.not_mem_nil, or_false] at hq9 ⊢; omega))
          have G10_0 := k10.2 0 _ (by simp only [List.mem_cons, List.not_mem_nil, or_false]; omega) G9_0
          have G10_3 := k10.2 (ws.length + 0) _ (by simp only [List.mem_cons, List.not_mem_nil, or_false]; omega) G9_a0
          have G10_4 := k10.2 (ws.length + 1) _ (by simp only [List.mem_cons, List.not_mem_nil, or_false]; omega) G9_4
          have hlen : ws_10.length = ws.length + 2 := by rw [hl9_10, hlen]
          subst e_r113
          refine lv_pop hx hb dX6_fence_116 rfl ?_
          refine lv_aload_n hx hb dX6_fence_117 rfl (lv_at hl 0 rfl) ?_
          refine z_get (C := RX6) (T := TX6) (N := 11) (ci := 7) (v := .ref fl) X J hi_X6 0 G10_0 rfl 0 (by decide) (by decide +kernel) rfl dX6_fence_118 ?_
          refine z_cr (z_rV (As := []) (rest := []) (ci := 0) (q0 := 1) X J (cJx4a65c_size_8abf5_ok l E G10_a0) (cwV 0 hts gX6_fence_Jx4a65c_size_8abf5 rfl rfl rfl (by decide +kernel) ⟨Nat.le_of_ble_eq_true rfl, Nat.le_of_ble_eq_true rfl⟩) G10_a0 rfl rfl rfl hl.1 rfl (Nat.le_of_ble_eq_true rfl) dX6_fence_121 ⟨Nat.le_of_ble_eq_true rfl, Nat.le_of_ble_eq_true rfl⟩) (fun r121 e_r121 => ?_)
          subst e_r121
          refine lv_iconst (v := 1) hx hb dX6_fence_124 (by decide) ?_
          refine lv_isub hx hb dX6_fence_125 ?_
          refine W.eq (g2 := F0 m 126 ls [.int (nI nf)]) (congrArg (fun z9 : Int32 => F0 m 126 ls [.int z9]) (show ((nI (nf + 1)) - 1 : Int32) = nI nf from (nI_pred nf))) ?_
          refine W.widen (k := 12) (n := 80) (by omega) (by omega) ?_
          subst hQ
          refine vx_ret ?_
          exact W.iret (v := nI nf) hx hb hr (fun t ht hW => ⟨⟨nI nf, ws_10, rfl, ⟨hk, ⟨q88, q94, hlen, G10_a0, G10_a1, G10_3, G10_4, (by exact ⟨(kF0 ⟨cz2, Int32.not_lt.mpr cz8⟩ e_r23 e_r28 e_r34 e_r40 (Or.inr ⟨cz45, e_r59⟩)).trans (if_neg (n10_ne cz71)), rfl⟩)⟩⟩, J.I X ht hW.alike⟩, J.F ht⟩) J.locs dX6_fence_126
        · subst hQ
          exact z_throw (ik := 71) (is := 73) (ic := 75) (cls := "java/lang/IllegalStateException") hflags X hRz J htab hlocks hl.1 zfitS (by decide +kernel) (by decide +kernel) (List.mem_of_getElem? (i := 1) rfl) (fun w9 h9 => List.mem_cons_of_mem _ (List.mem_append_left _ (List.mem_append_right _ h9))) zbadS hRz.2.2.2.1 zgoodS dX6_fence_74 dX6_fence_77 dX6_fence_78 dX6_fence_80 dX6_fence_83 (Nat.le_of_ble_eq_true rfl) (Nat.le_of_ble_eq_true rfl) (Nat.le_of_ble_eq_true rfl) (Nat.le_of_ble_eq_true rfl) (by exact Or.inr (Or.inr ⟨(kF0 ⟨cz2, Int32.not_lt.mpr cz8⟩ e_r23 e_r28 e_r34 e_r40 (Or.inr ⟨cz45, e_r59⟩)).trans (if_pos (n10_of hn9 cz71)), rfl⟩)) (Nat.le_of_ble_eq_true rfl) (Nat.le_of_ble_eq_true rfl)
    · subst hQ
      exact z_throw (ik := 49) (is := 51) (ic := 53) (cls := "java/lang/IllegalArgumentException") hflags X hRz J htab hlocks hl.1 zfitA (by decide +kernel) (by decide +kernel) (List.mem_of_getElem? (i := 0) rfl) (fun w9 h9 => List.mem_cons_of_mem _ (List.mem_append_left _ (List.mem_append_left _ (List.mem_append_right _ h9)))) zbadA hRz.2.1 zgoodA dX6_fence_11 dX6_fence_14 dX6_fence_15 dX6_fence_17 dX6_fence_20 (Nat.le_of_ble_eq_true rfl) (Nat.le_of_ble_eq_true rfl) (Nat.le_of_ble_eq_true rfl) (Nat.le_of_ble_eq_true rfl) (by exact Or.inl ⟨kF1 (Or.inl (fun q9 => q9.2 (Int32.not_le.mp cz8))), rfl⟩) (Nat.le_of_ble_eq_true rfl) (Nat.le_of_ble_eq_true rfl)
set_option maxHeartbeats 400000 in
set_option maxRecDepth 100000 in
theorem cX6_road_e_ok (l : Launch) (hflags : l.flags = flags0) (E : zG) {ws : va_W} {x fl rl wh gr tr sc : Nat} {mc2 lim sup off plo hrs : Int32} {dn ix : Int32} (Fa0 : ws[0]? = some (x, .inr (7, [.ref fl, .ref rl, .ref wh, .ref gr, .ref tr, .ref sc, .int lim, .int sup, .int off, .int plo, .int hrs]))) (Fa1 : ws[2]? = some (rl, .inr (0, [.int mc2, .ref E.2.2.1, .int 0]))) (h01 : is01 dn) : vx_Met l yX6_road wsX6_road ({ frames := 7, cells := 12, slots := 80, locals := 103 } : Room) (va_Pc [.ref x, .int dn, .int ix] (zY E ws)) (va_Qi (fun (r : Int32) (ws' : va_W) => (zK [2] ws ws') ∧ (∃ fo sp nq : Nat, ws'.length = ws.length + 3 ∧ (ws'[2]? = some (rl, .inr (0, [.int (mc2 + 1), .ref nq, .int 1]))) ∧ (ws'[(ws.length + 0)]? = some (fo, .inr (3, [.int ix, .ref sp]))) ∧ (ws'[(ws.length + 1)]? = some (sp, .inr (5, [.int (rfi dn ix), .int (nI 20), .int dn]))) ∧ (ws'[(ws.length + 2)]? = some (nq, zO4 E 10 (va_up (fun _ => none) 0 (some fo)))) ∧ ((kRoad ix (nI 0)) = 0 ∧ r = nI 0))) (zI E) (zA E)) (zX E ws (fun nm => ((kRoad ix (nI 0)) = 1 ∧ nm = "java/lang/IndexOutOfBoundsException") ∨ ((kRoad ix (nI 0)) = 2 ∧ nm = "java/lang/IllegalStateException"))) 12 80 (zA E) := by
  refine vx_ofW (cc := cX6_road) (maxL := 3) (ret := (some .int)) (by decide) rfl ?_
  intro p e s m args below meth c s₁ B hml htab hv
  obtain ⟨hargs9, hI, hRz⟩ := hv
  have hx := B.exec
  have hb := B.bytes
  have hr := B.returns
  have hlocks := B.notSynchronized
  have X : zC E p m c cX6_road 3 s args wsX6_road RX6 := z_open B hml hI
  have hown := X.1.2.2.2.1
  have hts := X.1.2.2.2.2
  have J := hI.J
  have hi_X2 : ∀ w ∈ wsX20, w ∈ wsX6_road := by decide +kernel
  have hi_X6 : ∀ w ∈ wsX60, w ∈ wsX6_road := by decide +kernel
  have hk : zK [2] ws ws := zK.rf
  have hlen : ws.length = ws.length + 0 := rfl
  have bFa0 := zlt Fa0
  have bFa1 := zlt Fa1
  have hl := lv_entry ([.ref x, .int dn, .int ix]) (n := 3) (Nat.le_of_ble_eq_true rfl)
  rw [show entryFrame m args 3 = entryFrame m ([.ref x, .int dn, .int ix] : List Value).toArray 3 from by rw [hargs9], lg_entry_eq]
  generalize (lg_sl ([.ref x, .int dn, .int ix]) ++ List.replicate (3 - (lg_sl ([.ref x, .int dn, .int ix])).length) Slot.unset).toArray = ls at hl ⊢
  have hl : lv_has ls 3 [(0, .ref x), (1, .int dn), (2, .int ix)] := hl
  generalize hQ : (vx_MQ below (va_Qi (fun (r : Int32) (ws' : va_W) => (zK [2] ws ws') ∧ (∃ fo sp nq : Nat, ws'.length = ws.length + 3 ∧ (ws'[2]? = some (rl, .inr (0, [.int (mc2 + 1), .ref nq, .int 1]))) ∧ (ws'[(ws.length + 0)]? = some (fo, .inr (3, [.int ix, .ref sp]))) ∧ (ws'[(ws.length + 1)]? = some (sp, .inr (5, [.int (rfi dn ix), .int (nI 20), .int dn]))) ∧ (ws'[(ws.length + 2)]? = some (nq, zO4 E 10 (va_up (fun _ => none) 0 (some fo)))) ∧ ((kRoad ix (nI 0)) = 0 ∧ r = nI 0))) (zI E) (zA E)) (zX E ws (fun nm => ((kRoad ix (nI 0)) = 1 ∧ nm = "java/lang/IndexOutOfBoundsException") ∨ ((kRoad ix (nI 0)) = 2 ∧ nm = "java/lang/IllegalStateException"))) args s 12 80 (zA E)) = QQ
  refine lv_iload_n hx hb dX6_road_0 rfl (lv_at hl 2 rfl) ?_
  refine lv_bipush (v := 20) hx hb dX6_road_1 (by decide) ?_
  refine z_xv J (z_yS (As := [.int ix, .int 20]) (rest := []) X hRz J (cX6_needIndex_ok l hflags E (n := 20) (by decide)) (va_cwS 2 hts gX6_road_X6_needIndex rfl rfl rfl (by decide +kernel) ⟨Nat.le_of_ble_eq_true rfl, Nat.le_of_ble_eq_true rfl⟩) rfl hl.1 rfl (Nat.le_of_ble_eq_true rfl) dX6_road_3 ⟨Nat.le_of_ble_eq_true rfl, Nat.le_of_ble_eq_true rfl⟩) (fun nm ce q9 H locs hp9 J h1 h2 h3 => ?_) (fun ws_1 H locs hp9 J => ?_)
  · subst hQ
    exact z_out X J htab hlocks h1 h2 h3 (by exact Or.inl ⟨if_pos hp9.1, hp9.2⟩) (Nat.le_of_ble_eq_true rfl) (Nat.le_of_ble_eq_true rfl)
  obtain ⟨rfl, e_r3⟩ := hp9
  refine lv_aload_n hx hb dX6_road_6 rfl (lv_at hl 0 rfl) ?_
  refine z_get (C := RX6) (T := TX6) (N := 11) (ci := 7) (v := .ref rl) X J hi_X6 0 Fa0 rfl 1 (by decide) (by decide +kernel) rfl dX6_road_7 ?_
  refine z_cr (z_rV (As := []) (rest := []) (ci := 0) (q0 := 2) X J (cJx4a65c_size_8abf5_ok l E (n := 0) Fa1) (cwV 0 hts gX6_road_Jx4a65c_size_8abf5 rfl rfl rfl (by decide +kernel) ⟨Nat.le_of_ble_eq_true rfl, Nat.le_of_ble_eq_true rfl⟩) Fa1 rfl rfl rfl hl.1 rfl (Nat.le_of_ble_eq_true rfl) dX6_road_10 ⟨Nat.le_of_ble_eq_true rfl, Nat.le_of_ble_eq_true rfl⟩) (fun r10 e_r10 => ?_)
  subst e_r10
  refine lv_iconst (v := 4) hx hb dX6_road_13 (by decide) ?_
  refine lv_icmp_lt (tgt := 27) hx hb dX6_road_14 (by decide) (fun cz14 => ?_) (fun cz14 => by exact (cz14 (by decide)).elim)
  refine lv_aload_n hx hb dX6_road_27 rfl (lv_at hl 0 rfl) ?_
  refine z_get (C := RX6) (T := TX6) (N := 11) (ci := 7) (v := .ref rl) X J hi_X6 0 Fa0 rfl 1 (by decide) (by decide +kernel) rfl dX6_road_28 ?_
  refine z_new (C := RX2) (T := TX2) (N := 2) (ci := 3) (fs := [.int 0, .null]) X J hi_X2 tyX2 tyX2_ok (by decide +kernel) (by decide +kernel) (by decide +kernel) rfl (fun j hj => by rcases (show j = 0 ∨ j = 1 by omega) with rfl | rfl <;> rfl) (Nat.le_of_ble_eq_true rfl) (Nat.le_of_ble_eq_true rfl) dX6_road_31 (fun q31 H J => ?_)
  have lp2 := hk.1
  have hk := hk.trans (zK.app (more := [(q31, .inr (3, [.int 0, .null]))]))
  have hpn2 := hlen
  have hlen : (ws ++ ([(q31, .inr (3, [.int 0, .null]))] : va_W)).length = ws.length + 1 := by rw [List.length_append, hlen]; rfl
  have bG2_0 := zlt Fa0
  have G2_0 := zapp (x := (q31, .inr (3, [.int 0, .null]))) Fa0
  have bG2_1 := zlt Fa1
  have G2_1 := zapp (x := (q31, .inr (3, [.int 0, .null]))) Fa1
  have G2_n := zapp_new (ws := ws) (x := (q31, .inr (3, [.int 0, .null])))
  generalize hws2 : ws ++ [(q31, .inr (3, [.int 0, .null]))] = ws_2 at J hk hlen G2_0 G2_1 G2_n
  rw [hpn2] at lp2 G2_n bG2_0 bG2_1
  refine lv_dup hx hb dX6_road_34 rfl ?_
  refine lv_iload_n hx hb dX6_road_35 rfl (lv_at hl 2 rfl) ?_
  refine lv_iload_n hx hb dX6_road_36 rfl (lv_at hl 1 rfl) ?_
  refine lv_iload_n hx hb dX6_road_37 rfl (lv_at hl 2 rfl) ?_
  refine z_cq J (z_rS (As := [.int dn, .int ix]) (rest := [.int ix, .ref q31, .ref q31, .ref rl]) X J (cX6_straight_ok l E (by first | assumption | omega | decide)) (va_cwS 2 hts gX6_road_X6_straight rfl rfl rfl (by decide +kernel) ⟨Nat.le_of_ble_eq_true rfl, Nat.le_of_ble_eq_true rfl⟩) rfl hl.1 rfl (Nat.le_of_ble_eq_true rfl) dX6_road_38 ⟨Nat.le_of_ble_eq_true rfl, Nat.le_of_ble_eq_true rfl⟩) (fun r38 ws_3 H locs hp9 J => ?_)
  obtain ⟨k3, ⟨sp_3, hlen3, N3_0, e_r38⟩⟩ := hp9
  have hk := hk.trans (k3.mono (fun q9 hq9 => absurd hq9 List.not_mem_nil))
  have G3_0 := k3.2 0 _ List.not_mem_nil G2_0
  have G3_1 := k3.2 2 _ List.not_mem_nil G2_1
  have G3_2 := k3.2 (ws.length + 0) _ List.not_mem_nil G2_n
  rw [hlen, Nat.add_assoc] at N3_0
  have hlen : ws_3.length = ws.length + 2 := by rw [hlen3, hlen]
  subst e_r38
  refine W.eq (g2 := F0 m 41 ls [.ref sp_3, .int ix, .ref q31, .ref q31, .ref rl]) rfl ?_
  refine z_cv J (z_rI (As := [.int ix, .ref sp_3]) (rest := [.ref q31, .ref rl]) X J (cX2_init_ok l E G3_2) (cwI 2 hts gX6_road_X2_init rfl rfl rfl (hts (.initialized RX2) (by decide +kernel)) (hts (.methodLink RX6 106 yX2_init) (by decide +kernel)) (hts (.instanceMethod yX2_init) (by decide +kernel)) rfl (by decide +kernel) ⟨Nat.le_of_ble_eq_true rfl, Nat.le_of_ble_eq_true rfl⟩) rfl hl.1 rfl (Nat.le_of_ble_eq_true rfl) dX6_road_41 ⟨Nat.le_of_ble_eq_true rfl, Nat.le_of_ble_eq_true rfl⟩) (fun ws_4 H locs hp9 J => ?_)
  obtain ⟨k4, hl9_4, G4_a0⟩ := hp9
  have hk := hk.transN k4 (by intro q9 hq9; simp only [List.mem_cons, List.not_mem_nil, or_false] at hq9 ⊢; omega)
  have G4_0 := k4.2 0 _ (by simp only [List.mem_cons, List.not_mem_nil, or_false]; omega) G3_0
  have G4_1 := k4.2 2 _ (by simp only [List.mem_cons, List.not_mem_nil, or_false]; omega) G3_1
  have G4_3 := k4.2 (ws.length + 1) _ (by simp only [List.mem_cons, List.not_mem_nil, or_false]; omega) N3_0
  have hlen : ws_4.length = ws.length + 2 := by rw [hl9_4, hlen]
  refine z_ci J (z_rV (As := [.ref q31]) (rest := []) (ci := 0) (q0 := 2) X J (cJx4a65c_add_9ea2d_er_ok l E G4_1 G4_a0) (cwV 1 hts gX6_road_Jx4a65c_add_9ea2d rfl rfl rfl (by decide +kernel) ⟨Nat.le_of_ble_eq_true rfl, Nat.le_of_ble_eq_true rfl⟩) G4_1 rfl rfl rfl hl.1 rfl (Nat.le_of_ble_eq_true rfl) dX6_road_44 ⟨Nat.le_of_ble_eq_true rfl, Nat.le_of_ble_eq_true rfl⟩) (fun r44 ws_5 H locs hp9 J => ?_)
  obtain ⟨k5, ⟨nq_5, hlen5, G5_a0, N5_0, e_r44⟩⟩ := hp9
  have hk := hk.trans (k5.mono (by decide))
  have G5_0 := k5.2 0 _ (by decide) G4_0
  have G5_2 := k5.2 (ws.length + 0) _ (by simp only [List.mem_cons, List.not_mem_nil, or_false]; omega) G4_a0
  have G5_3 := k5.2 (ws.length + 1) _ (by simp only [List.mem_cons, List.not_mem_nil, or_false]; omega) G4_3
  rw [hlen, Nat.add_assoc] at N5_0
  have hlen : ws_5.length = ws.length + 3 := by rw [hlen5, hlen]
  subst e_r44
  refine lv_pop hx hb dX6_road_47 rfl ?_
  refine lv_aload_n hx hb dX6_road_48 rfl (lv_at hl 0 rfl) ?_
  refine z_get (C := RX6) (T := TX6) (N := 11) (ci := 7) (v := .ref rl) X J hi_X6 0 G5_0 rfl 1 (by decide) (by decide +kernel) rfl dX6_road_49 ?_
  refine z_cr (z_rV (As := []) (rest := []) (ci := 0) (q0 := 2) X J (cJx4a65c_size_8abf5_ok l E (n := 1) G5_a0) (cwV 0 hts gX6_road_Jx4a65c_size_8abf5 rfl rfl rfl (by decide +kernel) ⟨Nat.le_of_ble_eq_true rfl, Nat.le_of_ble_eq_true rfl⟩) G5_a0 rfl rfl rfl hl.1 rfl (Nat.le_of_ble_eq_true rfl) dX6_road_52 ⟨Nat.le_of_ble_eq_true rfl, Nat.le_of_ble_eq_true rfl⟩) (fun r52 e_r52 => ?_)
  subst e_r52
  refine lv_iconst (v := 1) hx hb dX6_road_55 (by decide) ?_
  refine lv_isub hx hb dX6_road_56 ?_
  refine W.eq (g2 := F0 m 57 ls [.int (nI 0)]) (congrArg (fun z9 : Int32 => F0 m 57 ls [.int z9]) (show ((nI 1) - 1 : Int32) = nI 0 from (by decide))) ?_
  refine W.widen (k := 12) (n := 80) (by omega) (by omega) ?_
  subst hQ
  refine vx_ret ?_
  exact W.iret (v := nI 0) hx hb hr (fun t ht hW => ⟨⟨nI 0, ws_5, rfl, ⟨hk, ⟨q31, sp_3, nq_5, hlen, G5_a0, G5_2, G5_3, N5_0, (by exact ⟨(if_neg (fun q => q e_r3)).trans (if_neg (by decide)), rfl⟩)⟩⟩, J.I X ht hW.alike⟩, J.F ht⟩) J.locs dX6_road_57
set_option maxHeartbeats 400000 in
set_option maxRecDepth 100000 in
theorem cX6_road_n_ok (l : Launch) (hflags : l.flags = flags0) (E : zG) {ws : va_W} {x fl rl wh gr tr sc eb nr : Nat} {mc2 lim sup off plo hrs : Int32} {qe : Nat} {g : Nat → Option Nat} {dn ix : Int32} (Fa0 : ws[0]? = some (x, .inr (7, [.ref fl, .ref rl, .ref wh, .ref gr, .ref tr, .ref sc, .int lim, .int sup, .int off, .int plo, .int hrs]))) (Fa1 : ws[2]? = some (rl, .inr (0, [.int mc2, .ref eb, .int (nI nr)]))) (Fa2 : ws[qe]? = some (eb, zO4 E 10 g)) (h01 : is01 dn) (hn9 : nr ≤ 4) : vx_Met l yX6_road wsX6_road ({ frames := 7, cells := 12, slots := 80, locals := 103 } : Room) (va_Pc [.ref x, .int dn, .int ix] (zY E ws)) (va_Qi (fun (r : Int32) (ws' : va_W) => (zK [2, qe] ws ws') ∧ (∃ fo sp : Nat, ws'.length = ws.length + 2 ∧ (ws'[2]? = some (rl, .inr (0, [.int (mc2 + 1), .ref eb, .int (nI (nr + 1))]))) ∧ (ws'[qe]? = some (eb, zO4 E 10 (va_up g nr (some fo)))) ∧ (ws'[(ws.length + 0)]? = some (fo, .inr (3, [.int ix, .ref sp]))) ∧ (ws'[(ws.length + 1)]? = some (sp, .inr (5, [.int (rfi dn ix), .int (nI 20), .int dn]))) ∧ ((kRoad ix (nI nr)) = 0 ∧ r = nI nr))) (zI E) (zA E)) (zX E ws (fun nm => ((kRoad ix (nI nr)) = 1 ∧ nm = "java/lang/IndexOutOfBoundsException") ∨ ((kRoad ix (nI nr)) = 2 ∧ nm = "java/lang/IllegalStateException"))) 12 80 (zA E) := by
  refine vx_ofW (cc := cX6_road) (maxL := 3) (ret := (some .int)) (by decide) rfl ?_
  intro p e s m args below meth c s₁ B hml htab hv
  obtain ⟨hargs9, hI, hRz⟩ := hv
  have hx := B.exec
  have hb := B.bytes
  have hr := B.returns
  have hlocks := B.notSynchronized
  have X : zC E p m c cX6_road 3 s args wsX6_road RX6 := z_open B hml hI
  have hown := X.1.2.2.2.1
  have hts := X.1.2.2.2.2
  have J := hI.J
  have hi_X2 : ∀ w ∈ wsX20, w ∈ wsX6_road := by decide +kernel
  have hi_X6 : ∀ w ∈ wsX60, w ∈ wsX6_road := by decide +kernel
  have n0_2 : 0 ≠ qe := zneK Fa0 Fa2 rfl
  have n1_2 : 2 ≠ qe := zneK Fa1 Fa2 rfl
  have hk : zK [2, qe] ws ws := zK.rf
  have hlen : ws.length = ws.length + 0 := rfl
  have bFa0 := zlt Fa0
  have bFa1 := zlt Fa1
  have bFa2 := zlt Fa2
  have hl := lv_entry ([.ref x, .int dn, .int ix]) (n := 3) (Nat.le_of_ble_eq_true rfl)
  rw [show entryFrame m args 3 = entryFrame m ([.ref x, .int dn, .int ix] : List Value).toArray 3 from by rw [hargs9], lg_entry_eq]
  generalize (lg_sl ([.ref x, .int dn, .int ix]) ++ List.replicate (3 - (lg_sl ([.ref x, .int dn, .int ix])).length) Slot.unset).toArray = ls at hl ⊢
  have hl : lv_has ls 3 [(0, .ref x), (1, .int dn), (2, .int ix)] := hl
  generalize hQ : (vx_MQ below (va_Qi (fun (r : Int32) (ws' : va_W) => (zK [2, qe] ws ws') ∧ (∃ fo sp : Nat, ws'.length = ws.length + 2 ∧ (ws'[2]? = some (rl, .inr (0, [.int (mc2 + 1), .ref eb, .int (nI (nr + 1))]))) ∧ (ws'[qe]? = some (eb, zO4 E 10 (va_up g nr (some fo)))) ∧ (ws'[(ws.length + 0)]? = some (fo, .inr (3, [.int ix, .ref sp]))) ∧ (ws'[(ws.length + 1)]? = some (sp, .inr (5, [.int (rfi dn ix), .int (nI 20), .int dn]))) ∧ ((kRoad ix (nI nr)) = 0 ∧ r = nI nr))) (zI E) (zA E)) (zX E ws (fun nm => ((kRoad ix (nI nr)) = 1 ∧ nm = "java/lang/IndexOutOfBoundsException") ∨ ((kRoad ix (nI nr)) = 2 ∧ nm = "java/lang/IllegalStateException"))) args s 12 80 (zA E)) = QQ
  refine lv_iload_n hx hb dX6_road_0 rfl (lv_at hl 2 rfl) ?_
  refine lv_bipush (v := 20) hx hb dX6_road_1 (by decide) ?_
  refine z_xv J (z_yS (As := [.int ix, .int 20]) (rest := []) X hRz J (cX6_needIndex_ok l hflags E (n := 20) (by decide)) (va_cwS 2 hts gX6_road_X6_needIndex rfl rfl rfl (by decide +kernel) ⟨Nat.le_of_ble_eq_true rfl, Nat.le_of_ble_eq_true rfl⟩) rfl hl.1 rfl (Nat.le_of_ble_eq_true rfl) dX6_road_3 ⟨Nat.le_of_ble_eq_true rfl, Nat.le_of_ble_eq_true rfl⟩) (fun nm ce q9 H locs hp9 J h1 h2 h3 => ?_) (fun ws_1 H locs hp9 J => ?_)
  · subst hQ
    exact z_out X J htab hlocks h1 h2 h3 (by exact Or.inl ⟨if_pos hp9.1, hp9.2⟩) (Nat.le_of_ble_eq_true rfl) (Nat.le_of_ble_eq_true rfl)
  obtain ⟨rfl, e_r3⟩ := hp9
  refine lv_aload_n hx hb dX6_road_6 rfl (lv_at hl 0 rfl) ?_
  refine z_get (C := RX6) (T := TX6) (N := 11) (ci := 7) (v := .ref rl) X J hi_X6 0 Fa0 rfl 1 (by decide) (by decide +kernel) rfl dX6_road_7 ?_
  refine z_cr (z_rV (As := []) (rest := []) (ci := 0) (q0 := 2) X J (cJx4a65c_size_8abf5_ok l E Fa1) (cwV 0 hts gX6_road_Jx4a65c_size_8abf5 rfl rfl rfl (by decide +kernel) ⟨Nat.le_of_ble_eq_true rfl, Nat.le_of_ble_eq_true rfl⟩) Fa1 rfl rfl rfl hl.1 rfl (Nat.le_of_ble_eq_true rfl) dX6_road_10 ⟨Nat.le_of_ble_eq_true rfl, Nat.le_of_ble_eq_true rfl⟩) (fun r10 e_r10 => ?_)
  subst e_r10
  refine lv_iconst (v := 4) hx hb dX6_road_13 (by decide) ?_
  refine lv_icmp_lt (tgt := 27) hx hb dX6_road_14 (by decide) (fun cz14 => ?_) (fun cz14 => ?_)
  · have hnr4 := n4_lt hn9 cz14
    refine lv_aload_n hx hb dX6_road_27 rfl (lv_at hl 0 rfl) ?_
    refine z_get (C := RX6) (T := TX6) (N := 11) (ci := 7) (v := .ref rl) X J hi_X6 0 Fa0 rfl 1 (by decide) (by decide +kernel) rfl dX6_road_28 ?_
    refine z_new (C := RX2) (T := TX2) (N := 2) (ci := 3) (fs := [.int 0, .null]) X J hi_X2 tyX2 tyX2_ok (by decide +kernel) (by decide +kernel) (by decide +kernel) rfl (fun j hj => by rcases (show j = 0 ∨ j = 1 by omega) with rfl | rfl <;> rfl) (Nat.le_of_ble_eq_true rfl) (Nat.le_of_ble_eq_true rfl) dX6_road_31 (fun q31 H J => ?_)
    have lp2 := hk.1
    have hk := hk.trans (zK.app (more := [(q31, .inr (3, [.int 0, .null]))]))
    have hpn2 := hlen
    have hlen : (ws ++ ([(q31, .inr (3, [.int 0, .null]))] : va_W)).length = ws.length + 1 := by rw [List.length_append, hlen]; rfl
    have bG2_0 := zlt Fa0
    have G2_0 := zapp (x := (q31, .inr (3, [.int 0, .null]))) Fa0
    have bG2_1 := zlt Fa1
    have G2_1 := zapp (x := (q31, .inr (3, [.int 0, .null]))) Fa1
    have bG2_2 := zlt Fa2
    have G2_2 := zapp (x := (q31, .inr (3, [.int 0, .null]))) Fa2
    have G2_n := zapp_new (ws := ws) (x := (q31, .inr (3, [.int 0, .null])))
    generalize hws2 : ws ++ [(q31, .inr (3, [.int 0, .null]))] = ws_2 at J hk hlen G2_0 G2_1 G2_2 G2_n
    rw [hpn2] at lp2 G2_n bG2_0 bG2_1 bG2_2
    refine lv_dup hx hb dX6_road_34 rfl ?_
    refine lv_iload_n hx hb dX6_road_35 rfl (lv_at hl 2 rfl) ?_
    refine lv_iload_n hx hb dX6_road_36 rfl (lv_at hl 1 rfl) ?_
    refine lv_iload_n hx hb dX6_road_37 rfl (lv_at hl 2 rfl) ?_
    refine z_cq J (z_rS (As := [.int dn, .int ix]) (rest := [.int ix, .ref q31, .ref q31, .ref rl]) X J (cX6_straight_ok l E (by first | assumption | omega | decide)) (va_cwS 2 hts gX6_road_X6_straight rfl rfl rfl (by decide +kernel) ⟨Nat.le_of_ble_eq_true rfl, Nat.le_of_ble_eq_true rfl⟩) rfl hl.1 rfl (Nat.le_of_ble_eq_true rfl) dX6_road_38 ⟨Nat.le_of_ble_eq_true rfl, Nat.le_of_ble_eq_true rfl⟩) (fun r38 ws_3 H locs hp9 J => ?_)
    obtain ⟨k3, ⟨sp_3, hlen3, N3_0, e_r38⟩⟩ := hp9
    have hk := hk.trans (k3.mono (fun q9 hq9 => absurd hq9 List.not_mem_nil))
    have G3_0 := k3.2 0 _ List.not_mem_nil G2_0
    have G3_1 := k3.2 2 _ List.not_mem_nil G2_1
    have G3_2 := k3.2 qe _ List.not_mem_nil G2_2
    have G3_3 := k3.2 (ws.length + 0) _ List.not_mem_nil G2_n
    rw [hlen, Nat.add_assoc] at N3_0
    have hlen : ws_3.length = ws.length + 2 := by rw [hlen3, hlen]
    subst e_r38
    refine W.eq (g2 := F0 m 41 ls [.ref sp_3, .int ix, .ref q31, .ref q31, .ref rl]) rfl ?_
    refine z_cv J (z_rI (As := [.int ix, .ref sp_3]) (rest := [.ref q31, .ref rl]) X J (cX2_init_ok l E G3_3) (cwI 2 hts gX6_road_X2_init rfl rfl rfl (hts (.initialized RX2) (by decide +kernel)) (hts (.methodLink RX6 106 yX2_init) (by decide +kernel)) (hts (.instanceMethod yX2_init) (by decide +kernel)) rfl (by decide +kernel) ⟨Nat.le_of_ble_eq_true rfl, Nat.le_of_ble_eq_true rfl⟩) rfl hl.1 rfl (Nat.le_of_ble_eq_true rfl) dX6_road_41 ⟨Nat.le_of_ble_eq_true rfl, Nat.le_of_ble_eq_true rfl⟩) (fun ws_4 H locs hp9 J => ?_)
    obtain ⟨k4, hl9_4, G4_a0⟩ := hp9
    have hk := hk.transN k4 (by intro q9 hq9; simp only [List.mem_cons, List.not_mem_nil, or_false] at hq9 ⊢; omega)
    have G4_0 := k4.2 0 _ (by simp only [List.mem_cons, List.not_mem_nil, or_false]; omega) G3_0
    have G4_1 := k4.2 2 _ (by simp only [List.mem_cons, List.not_mem_nil, or_false]; omega) G3_1
    have G4_2 := k4.2 qe _ (by simp only [List.mem_cons, List.not_mem_nil, or_false]; omega) G3_2
    have G4_4 := k4.2 (ws.length + 1) _ (by simp only [List.mem_cons, List.not_mem_nil, or_false]; omega) N3_0
    have hlen : ws_4.length = ws.length + 2 := by rw [hl9_4, hlen]
    refine z_ci J (z_rV (As := [.ref q31]) (rest := []) (ci := 0) (q0 := 2) X J (cJx4a65c_add_9ea2d_nr_ok l E G4_1 G4_2 G4_a0 (by omega)) (cwV 1 hts gX6_road_Jx4a65c_add_9ea2d rfl rfl rfl (by decide +kernel) ⟨Nat.le_of_ble_eq_true rfl, Nat.le_of_ble_eq_true rfl⟩) G4_1 rfl rfl rfl hl.1 rfl (Nat.le_of_ble_eq_true rfl) dX6_road_44 ⟨Nat.le_of_ble_eq_true rfl, Nat.le_of_ble_eq_true rfl⟩) (fun r44 ws_5 H locs hp9 J => ?_)
    obtain ⟨k5, hl9_5, G5_a0, G5_a1, e_r44⟩ := hp9
    have hk := hk.trans (k5.mono (by intro q9 hq9; simp only [List.mem_cons, List.not_mem_nil, or_false] at hq9 ⊢; omega))
    have G5_0 := k5.2 0 _ (by simp only [List.mem_cons, List.not_mem_nil, or_false]; omega) G4_0
    have G5_3 := k5.2 (ws.length + 0) _ (by simp only [List.mem_cons, List.not_mem_nil, or_false]; omega) G4_a0
    have G5_4 := k5.2 (ws.length + 1) _ (by simp only [List.mem_cons, List.not_mem_nil, or_false]; omega) G4_4
    have hlen : ws_5.length = ws.length + 2 := by rw [hl9_5, hlen]
    subst e_r44
    refine lv_pop hx hb dX6_road_47 rfl ?_
    refine lv_aload_n hx hb dX6_road_48 rfl (lv_at hl 0 rfl) ?_
    refine z_get (C := RX6) (T := TX6) (N := 11) (ci := 7) (v := .ref rl) X J hi_X6 0 G5_0 rfl 1 (by decide) (by decide +kernel) rfl dX6_road_49 ?_
    refine z_cr (z_rV (As := []) (rest := []) (ci := 0) (q0 := 2) X J (cJx4a65c_size_8abf5_ok l E G5_a0) (cwV 0 hts gX6_road_Jx4a65c_size_8abf5 rfl rfl rfl (by decide +kernel) ⟨Nat.le_of_ble_eq_true rfl, Nat.le_of_ble_eq_true rfl⟩) G5_a0 rfl rfl rfl hl.1 rfl (Nat.le_of_ble_eq_true rfl) dX6_road_52 ⟨Nat.le_of_ble_eq_true rfl, Nat.le_of_ble_eq_true rfl⟩) (fun r52 e_r52 => ?_)
    subst e_r52
    refine lv_iconst (v := 1) hx hb dX6_road_55 (by decide) ?_
    refine lv_isub hx hb dX6_road_56 ?_
    refine W.eq (g2 := F0 m 57 ls [.int (nI nr)]) (congrArg (fun z9 : Int32 => F0 m 57 ls [.int z9]) (show ((nI (nr + 1)) - 1 : Int32) = nI nr from (nI_pred nr))) ?_
    refine W.widen (k := 12) (n := 80) (by omega) (by omega) ?_
    subst hQ
    refine vx_ret ?_
    exact W.iret (v := nI nr) hx hb hr (fun t ht hW => ⟨⟨nI nr, ws_5, rfl, ⟨hk, ⟨q31, sp_3, hlen, G5_a0, G5_a1, G5_3, G5_4, (by exact ⟨(if_neg (fun q => q e_r3)).trans (if_neg (n4_ne cz14)), rfl⟩)⟩⟩, J.I X ht hW.alike⟩, J.F ht⟩) J.locs dX6_road_57
  · subst hQ
    exact z_throw (ik := 71) (is := 98) (ic := 75) (cls := "java/lang/IllegalStateException") hflags X hRz J htab hlocks hl.1 zfitS (by decide +kernel) (by decide +kernel) (List.mem_of_getElem? (i := 2) rfl) (fun w9 h9 => List.mem_cons_of_mem _ (List.mem_append_left _ (List.mem_append_right _ h9))) zbadS hRz.2.2.2.1 zgoodS dX6_road_17 dX6_road_20 dX6_road_21 dX6_road_23 dX6_road_26 (Nat.le_of_ble_eq_true rfl) (Nat.le_of_ble_eq_true rfl) (Nat.le_of_ble_eq_true rfl) (Nat.le_of_ble_eq_true rfl) (by exact Or.inr ⟨(if_neg (fun q => q e_r3)).trans (if_pos (n4_of hn9 cz14)), rfl⟩) (Nat.le_of_ble_eq_true rfl) (Nat.le_of_ble_eq_true rfl)
set_option maxHeartbeats 400000 in
set_option maxRecDepth 100000 in
theorem cX6_change_v_ok (l : Launch) (hflags : l.flags = flags0) (E : zG) {ws : va_W} {x fl rl wh gr tr sc ea nf : Nat} {mc1 lim sup off plo hrs : Int32} {qe : Nat} {g : Nat → Option Nat} {qf fo sp k : Nat} {co ro h0 g0 he ga : Int32} (Fa0 : ws[0]? = some (x, .inr (7, [.ref fl, .ref rl, .ref wh, .ref gr, .ref tr, .ref sc, .int lim, .int sup, .int off, .int plo, .int hrs]))) (Fa1 : ws[1]? = some (fl, .inr (0, [.int mc1, .ref ea, .int (nI nf)]))) (Fa2 : ws[qe]? = some (ea, zO4 E 10 g)) (Fa3 : ws[qf]? = some (fo, .inr (1, [.int co, .int ro, .ref sp, .int h0, .int g0]))) (hn9 : nf ≤ 10) (hk9 : k < nf) (hg9 : g k = some fo) : vx_Met l yX6_change wsX6_change ({ frames := 7, cells := 6, slots := 40, locals := 103 } : Room) (va_Pc [.ref x, .int (nI k), .int he, .int ga] (zY E ws)) (va_Qi (fun (r : Int32) (ws' : va_W) => (zK [qf] ws ws') ∧ (ws'.length = ws.length) ∧ (ws'[qf]? = some (fo, .inr (1, [.int co, .int ro, .ref sp, .int he, .int ga]))) ∧ ((kChange (nI k) (nI nf) he ga) = 0 ∧ r = 10 * h0 + g0)) (zI E) (zA E)) (zX E ws (fun nm => (kChange (nI k) (nI nf) he ga) = 2 ∧ nm = "java/lang/IllegalArgumentException")) 6 40 (zA E) := by
  refine vx_ofW (cc := cX6_change) (maxL := 6) (ret := (some .int)) (by decide) rfl ?_
  intro p e s m args below meth c s₁ B hml htab hv
  obtain ⟨hargs9, hI, hRz⟩ := hv
  have hx := B.exec
  have hb := B.bytes
  have hr := B.returns
  have hlocks := B.notSynchronized
  have X : zC E p m c cX6_change 6 s args wsX6_change RX6 := z_open B hml hI
  have hown := X.1.2.2.2.1
  have hts := X.1.2.2.2.2
  have J := hI.J
  have hi_X0 : ∀ w ∈ wsX00, w ∈ wsX6_change := by decide +kernel
  have hi_X6 : ∀ w ∈ wsX60, w ∈ wsX6_change := by decide +kernel
  have n0_2 : 0 ≠ qe := zneK Fa0 Fa2 rfl
  have n0_3 : 0 ≠ qf := zneK Fa0 Fa3 rfl
  have n1_2 : 1 ≠ qe := zneK Fa1 Fa2 rfl
  have n1_3 : 1 ≠ qf := zneK Fa1 Fa3 rfl
  have n2_3 : qe ≠ qf := zneK Fa2 Fa3 rfl
  have hk : zK [qf] ws ws := zK.rf
  have hlen : ws.length = ws.length + 0 := rfl
  have bFa0 := zlt Fa0
  have bFa1 := zlt Fa1
  have bFa2 := zlt Fa2
  have bFa3 := zlt Fa3
  have hl := lv_entry ([.ref x, .int (nI k), .int he, .int ga]) (n := 6) (Nat.le_of_ble_eq_true rfl)
  rw [show entryFrame m args 6 = entryFrame m ([.ref x, .int (nI k), .int he, .int ga] : List Value).toArray 6 from by rw [hargs9], lg_entry_eq]
  generalize (lg_sl ([.ref x, .int (nI k), .int he, .int ga]) ++ List.replicate (6 - (lg_sl ([.ref x, .int (nI k), .int he, .int ga])).length) Slot.unset).toArray = ls at hl ⊢
  have hl : lv_has ls 6 [(0, .ref x), (1, .int (nI k)), (2, .int he), (3, .int ga)] := hl
  generalize hQ : (vx_MQ below (va_Qi (fun (r : Int32) (ws' : va_W) => (zK [qf] ws ws') ∧ (ws'.length = ws.length) ∧ (ws'[qf]? = some (fo, .inr (1, [.int co, .int ro, .ref sp, .int he, .int ga]))) ∧ ((kChange (nI k) (nI nf) he ga) = 0 ∧ r = 10 * h0 + g0)) (zI E) (zA E)) (zX E ws (fun nm => (kChange (nI k) (nI nf) he ga) = 2 ∧ nm = "java/lang/IllegalArgumentException")) args s 6 40 (zA E)) = QQ
  refine lv_iload_n hx hb dX6_change_0 rfl (lv_at hl 1 rfl) ?_
  refine lv_aload_n hx hb dX6_change_1 rfl (lv_at hl 0 rfl) ?_
  refine z_get (C := RX6) (T := TX6) (N := 11) (ci := 7) (v := .ref fl) X J hi_X6 0 Fa0 rfl 0 (by decide) (by decide +kernel) rfl dX6_change_2 ?_
  refine z_cr (z_rV (As := []) (rest := [.int (nI k)]) (ci := 0) (q0 := 1) X J (cJx4a65c_size_8abf5_ok l E Fa1) (cwV 0 hts gX6_change_Jx4a65c_size_8abf5 rfl rfl rfl (by decide +kernel) ⟨Nat.le_of_ble_eq_true rfl, Nat.le_of_ble_eq_true rfl⟩) Fa1 rfl rfl rfl hl.1 rfl (Nat.le_of_ble_eq_true rfl) dX6_change_5 ⟨Nat.le_of_ble_eq_true rfl, Nat.le_of_ble_eq_true rfl⟩) (fun r5 e_r5 => ?_)
  subst e_r5
  refine z_xv J (z_yS (As := [.int (nI k), .int (nI nf)]) (rest := []) X hRz J (cX6_needIndex_ok l hflags E (by omega)) (va_cwS 2 hts gX6_change_X6_needIndex rfl rfl rfl (by decide +kernel) ⟨Nat.le_of_ble_eq_true rfl, Nat.le_of_ble_eq_true rfl⟩) rfl hl.1 rfl (Nat.le_of_ble_eq_true rfl) dX6_change_8 ⟨Nat.le_of_ble_eq_true rfl, Nat.le_of_ble_eq_true rfl⟩) (fun nm ce q9 H locs hp9 J h1 h2 h3 => ?_) (fun ws_1 H locs hp9 J => ?_)
  · exact False.elim (by exact hp9.1 (inR_mk hk9 (by omega)))
  obtain ⟨rfl, e_r8⟩ := hp9
  refine lv_iload_n hx hb dX6_change_11 rfl (lv_at hl 2 rfl) ?_
  refine z_xv J (z_yS (As := [.int he]) (rest := []) X hRz J (cX6_needHeight_ok l hflags E) (va_cwS 1 hts gX6_change_X6_needHeight rfl rfl rfl (by decide +kernel) ⟨Nat.le_of_ble_eq_true rfl, Nat.le_of_ble_eq_true rfl⟩) rfl hl.1 rfl (Nat.le_of_ble_eq_true rfl) dX6_change_12 ⟨Nat.le_of_ble_eq_true rfl, Nat.le_of_ble_eq_true rfl⟩) (fun nm ce q9 H locs hp9 J h1 h2 h3 => ?_) (fun ws_2 H locs hp9 J => ?_)
  · subst hQ
    exact z_out X J htab hlocks h1 h2 h3 (by exact ⟨(if_neg (fun q => q e_r8)).trans (if_pos (Or.inl hp9.1)), hp9.2⟩) (Nat.le_of_ble_eq_true rfl) (Nat.le_of_ble_eq_true rfl)
  obtain ⟨rfl, e_r12⟩ := hp9
  refine lv_iload_n hx hb dX6_change_15 rfl (lv_at hl 3 rfl) ?_
  refine z_xv J (z_yS (As := [.int ga]) (rest := []) X hRz J (cX6_needGap_ok l hflags E) (va_cwS 1 hts gX6_change_X6_needGap rfl rfl rfl (by decide +kernel) ⟨Nat.le_of_ble_eq_true rfl, Nat.le_of_ble_eq_true rfl⟩) rfl hl.1 rfl (Nat.le_of_ble_eq_true rfl) dX6_change_16 ⟨Nat.le_of_ble_eq_true rfl, Nat.le_of_ble_eq_true rfl⟩) (fun nm ce q9 H locs hp9 J h1 h2 h3 => ?_) (fun ws_3 H locs hp9 J => ?_)
  · subst hQ
    exact z_out X J htab hlocks h1 h2 h3 (by exact ⟨(if_neg (fun q => q e_r8)).trans (if_pos (Or.inr hp9.1)), hp9.2⟩) (Nat.le_of_ble_eq_true rfl) (Nat.le_of_ble_eq_true rfl)
  obtain ⟨rfl, e_r16⟩ := hp9
  refine lv_aload_n hx hb dX6_change_19 rfl (lv_at hl 0 rfl) ?_
  refine z_get (C := RX6) (T := TX6) (N := 11) (ci := 7) (v := .ref fl) X J hi_X6 0 Fa0 rfl 0 (by decide) (by decide +kernel) rfl dX6_change_20 ?_
  refine lv_iload_n hx hb dX6_change_23 rfl (lv_at hl 1 rfl) ?_
  refine z_crq (z_rV (As := [.int (nI k)]) (rest := []) (ci := 0) (q0 := 1) X J (cJx4a65c_get_915e3_ok l E Fa1 Fa2 hk9 hn9) (cwV 1 hts gX6_change_Jx4a65c_get_915e3 rfl rfl rfl (by decide +kernel) ⟨Nat.le_of_ble_eq_true rfl, Nat.le_of_ble_eq_true rfl⟩) Fa1 rfl rfl rfl hl.1 rfl (Nat.le_of_ble_eq_true rfl) dX6_change_24 ⟨Nat.le_of_ble_eq_true rfl, Nat.le_of_ble_eq_true rfl⟩) (fun r24 e_r24 => ?_)
  subst e_r24
  refine W.eq (g2 := F0 m 27 ls [.ref fo]) (by rw [show g k = some fo from hg9]; rfl) ?_
  refine z_cast (own := RX6) (q := (RX0, TX0, 5)) X J qf Fa3 (ci := 1) rfl (hts (.classLink RX6 76 RX0) (by decide +kernel)) dX6_change_27 ?_
  refine lv_astore (lv' := [(4, .ref fo), (0, .ref x), (1, .int (nI k)), (2, .int he), (3, .int ga)]) hx hb dX6_change_30 hl (by decide) rfl (fun ls hl => ?_)
  refine lv_bipush (v := 10) hx hb dX6_change_32 (by decide) ?_
  refine lv_aload hx hb dX6_change_34 (lv_at hl 0 rfl) ?_
  refine z_get (C := RX0) (T := TX0) (N := 5) (ci := 1) (v := .int h0) X J hi_X0 qf Fa3 rfl 3 (by decide) (by decide +kernel) rfl dX6_change_36 ?_
  refine lv_imul hx hb dX6_change_39 ?_
  refine lv_aload hx hb dX6_change_40 (lv_at hl 0 rfl) ?_
  refine z_get (C := RX0) (T := TX0) (N := 5) (ci := 1) (v := .int g0) X J hi_X0 qf Fa3 rfl 4 (by decide) (by decide +kernel) rfl dX6_change_42 ?_
  refine lv_iadd hx hb dX6_change_45 ?_
  refine lv_istore (lv' := [(5, .int ((10 * h0) + g0)), (4, .ref fo), (0, .ref x), (1, .int (nI k)), (2, .int he), (3, .int ga)]) hx hb dX6_change_46 hl (by decide) rfl (fun ls hl => ?_)
  refine lv_aload hx hb dX6_change_48 (lv_at hl 1 rfl) ?_
  refine lv_iload_n hx hb dX6_change_50 rfl (lv_at hl 4 rfl) ?_
  refine z_put (C := RX0) (T := TX0) (N := 5) (ci := 1) (v := .int he) X J hi_X0 tyX0 tyX0_ok nmX0 qf Fa3 rfl 3 (by decide) (by decide +kernel) rfl rfl rfl (Nat.le_of_ble_eq_true rfl) dX6_change_51 (fun H locs J => ?_)
  have J : zJ E (ws.set qf (fo, .inr (1, [.int co, .int ro, .ref sp, .int he, .int g0]))) s H locs := J
  have hk := hk.trans (zK.set (ws := ws) (q := qf) (e := (fo, .inr (1, [.int co, .int ro, .ref sp, .int he, .int g0]))) (by simp))
  have hlen : (ws.set qf (fo, .inr (1, [.int co, .int ro, .ref sp, .int he, .int g0]))).length = ws.length + 0 := (List.length_set ..).trans hlen
  have G4_0 := zset_ne (q := qf) (e' := (fo, .inr (1, [.int co, .int ro, .ref sp, .int he, .int g0]))) (by omega) Fa0
  have G4_1 := zset_ne (q := qf) (e' := (fo, .inr (1, [.int co, .int ro, .ref sp, .int he, .int g0]))) (by omega) Fa1
  have G4_2 := zset_ne (q := qf) (e' := (fo, .inr (1, [.int co, .int ro, .ref sp, .int he, .int g0]))) (by omega) Fa2
  have G4_3 := zset_eq (e' := (fo, .inr (1, [.int co, .int ro, .ref sp, .int he, .int g0]))) Fa3
  generalize hws4 : (ws.set qf (fo, .inr (1, [.int co, .int ro, .ref sp, .int he, .int g0]))) = ws_4 at J hlen hk G4_0 G4_1 G4_2 G4_3
  refine lv_aload hx hb dX6_change_54 (lv_at hl 1 rfl) ?_
  refine lv_iload_n hx hb dX6_change_56 rfl (lv_at hl 5 rfl) ?_
  refine z_put (C := RX0) (T := TX0) (N := 5) (ci := 1) (v := .int ga) X J hi_X0 tyX0 tyX0_ok nmX0 qf G4_3 rfl 4 (by decide) (by decide +kernel) rfl rfl rfl (Nat.le_of_ble_eq_true rfl) dX6_change_57 (fun H locs J => ?_)
  have J : zJ E (ws_4.set qf (fo, .inr (1, [.int co, .int ro, .ref sp, .int he, .int ga]))) s H locs := J
  have hk := hk.trans (zK.set (ws := ws_4) (q := qf) (e := (fo, .inr (1, [.int co, .int ro, .ref sp, .int he, .int ga]))) (by simp))
  have hlen : (ws_4.set qf (fo, .inr (1, [.int co, .int ro, .ref sp, .int he, .int ga]))).length = ws.length + 0 := (List.length_set ..).trans hlen
  have G5_0 := zset_ne (q := qf) (e' := (fo, .inr (1, [.int co, .int ro, .ref sp, .int he, .int ga]))) (by omega) G4_0
  have G5_1 := zset_ne (q := qf) (e' := (fo, .inr (1, [.int co, .int ro, .ref sp, .int he, .int ga]))) (by omega) G4_1
  have G5_2 := zset_ne (q := qf) (e' := (fo, .inr (1, [.int co, .int ro, .ref sp, .int he, .int ga]))) (by omega) G4_2
  have G5_3 := zset_eq (e' := (fo, .inr (1, [.int co, .int ro, .ref sp, .int he, .int ga]))) G4_3
  generalize hws5 : (ws_4.set qf (fo, .inr (1, [.int co, .int ro, .ref sp, .int he, .int ga]))) = ws_5 at J hlen hk G5_0 G5_1 G5_2 G5_3
  refine lv_iload hx hb dX6_change_60 (lv_at hl 0 rfl) ?_
  refine W.widen (k := 6) (n := 40) (by omega) (by omega) ?_
  subst hQ
  refine vx_ret ?_
  exact W.iret (v := (10 * h0) + g0) hx hb hr (fun t ht hW => ⟨⟨(10 * h0) + g0, ws_5, rfl, ⟨hk, hlen, G5_3, (by exact ⟨(if_neg (fun q => q e_r8)).trans (if_neg (not_or_e e_r12 e_r16)), rfl⟩)⟩, J.I X ht hW.alike⟩, J.F ht⟩) J.locs dX6_change_62
set_option maxHeartbeats 400000 in
set_option maxRecDepth 100000 in
theorem cX6_change_x_ok (l : Launch) (hflags : l.flags = flags0) (E : zG) {ws : va_W} {x fl rl wh gr tr sc ea nf : Nat} {mc1 lim sup off plo hrs : Int32} {v he ga : Int32} (Fa0 : ws[0]? = some (x, .inr (7, [.ref fl, .ref rl, .ref wh, .ref gr, .ref tr, .ref sc, .int lim, .int sup, .int off, .int plo, .int hrs]))) (Fa1 : ws[1]? = some (fl, .inr (0, [.int mc1, .ref ea, .int (nI nf)]))) (hn9 : nf ≤ 10) (hx9 : ¬ inR v 0 (nI nf - 1)) : vx_Met l yX6_change wsX6_change ({ frames := 7, cells := 6, slots := 40, locals := 103 } : Room) (va_Pc [.ref x, .int v, .int he, .int ga] (zY E ws)) (va_Qi (fun (r : Int32) (ws' : va_W) => (ws = ws') ∧ (False)) (zI E) (zA E)) (zX E ws (fun nm => (kChange v (nI nf) he ga) = 1 ∧ nm = "java/lang/IndexOutOfBoundsException")) 6 40 (zA E) := by
  refine vx_ofW (cc := cX6_change) (maxL := 6) (ret := (some .int)) (by decide) rfl ?_
  intro p e s m args below meth c s₁ B hml htab hv
  obtain ⟨hargs9, hI, hRz⟩ := hv
  have hx := B.exec
  have hb := B.bytes
  have hr := B.returns
  have hlocks := B.notSynchronized
  have X : zC E p m c cX6_change 6 s args wsX6_change RX6 := z_open B hml hI
  have hown := X.1.2.2.2.1
  have hts := X.1.2.2.2.2
  have J := hI.J
  have hi_X6 : ∀ w ∈ wsX60, w ∈ wsX6_change := by decide +kernel
  have hk : zK [] ws ws := zK.rf
  have hl := lv_entry ([.ref x, .int v, .int he, .int ga]) (n := 6) (Nat.le_of_ble_eq_true rfl)
  rw [show entryFrame m args 6 = entryFrame m ([.ref x, .int v, .int he, .int ga] : List Value).toArray 6 from by rw [hargs9], lg_entry_eq]
  generalize (lg_sl ([.ref x, .int v, .int he, .int ga]) ++ List.replicate (6 - (lg_sl ([.ref x, .int v, .int he, .int ga])).length) Slot.unset).toArray = ls at hl ⊢
  have hl : lv_has ls 6 [(0, .ref x), (1, .int v), (2, .int he), (3, .int ga)] := hl
  generalize hQ : (vx_MQ below (va_Qi (fun (r : Int32) (ws' : va_W) => (ws = ws') ∧ (False)) (zI E) (zA E)) (zX E ws (fun nm => (kChange v (nI nf) he ga) = 1 ∧ nm = "java/lang/IndexOutOfBoundsException")) args s 6 40 (zA E)) = QQ
  refine lv_iload_n hx hb dX6_change_0 rfl (lv_at hl 1 rfl) ?_
  refine lv_aload_n hx hb dX6_change_1 rfl (lv_at hl 0 rfl) ?_
  refine z_get (C := RX6) (T := TX6) (N := 11) (ci := 7) (v := .ref fl) X J hi_X6 0 Fa0 rfl 0 (by decide) (by decide +kernel) rfl dX6_change_2 ?_
  refine z_cr (z_rV (As := []) (rest := [.int v]) (ci := 0) (q0 := 1) X J (cJx4a65c_size_8abf5_ok l E Fa1) (cwV 0 hts gX6_change_Jx4a65c_size_8abf5 rfl rfl rfl (by decide +kernel) ⟨Nat.le_of_ble_eq_true rfl, Nat.le_of_ble_eq_true rfl⟩) Fa1 rfl rfl rfl hl.1 rfl (Nat.le_of_ble_eq_true rfl) dX6_change_5 ⟨Nat.le_of_ble_eq_true rfl, Nat.le_of_ble_eq_true rfl⟩) (fun r5 e_r5 => ?_)
  subst e_r5
  refine z_xv J (z_yS (As := [.int v, .int (nI nf)]) (rest := []) X hRz J (cX6_needIndex_ok l hflags E (by omega)) (va_cwS 2 hts gX6_change_X6_needIndex rfl rfl rfl (by decide +kernel) ⟨Nat.le_of_ble_eq_true rfl, Nat.le_of_ble_eq_true rfl⟩) rfl hl.1 rfl (Nat.le_of_ble_eq_true rfl) dX6_change_8 ⟨Nat.le_of_ble_eq_true rfl, Nat.le_of_ble_eq_true rfl⟩) (fun nm ce q9 H locs hp9 J h1 h2 h3 => ?_) (fun ws_1 H locs hp9 J => ?_)
  · subst hQ
    exact z_out X J htab hlocks h1 h2 h3 (by exact ⟨if_pos hp9.1, hp9.2⟩) (Nat.le_of_ble_eq_true rfl) (Nat.le_of_ble_eq_true rfl)
  obtain ⟨rfl, e_r8⟩ := hp9
  exact absurd e_r8 hx9
set_option maxHeartbeats 400000 in
set_option maxRecDepth 100000 in
theorem cX6_take_v_ok (l : Launch) (hflags : l.flags = flags0) (E : zG) {ws : va_W} {x fl rl wh gr tr sc ea nf : Nat} {mc1 lim sup off plo hrs : Int32} {qe : Nat} {g : Nat → Option Nat} {k : Nat} (Fa0 : ws[0]? = some (x, .inr (7, [.ref fl, .ref rl, .ref wh, .ref gr, .ref tr, .ref sc, .int lim, .int sup, .int off, .int plo, .int hrs]))) (Fa1 : ws[1]? = some (fl, .inr (0, [.int mc1, .ref ea, .int (nI nf)]))) (Fa2 : ws[qe]? = some (ea, zO4 E 10 g)) (hn9 : nf ≤ 10) (hk9 : k < nf) (hel : ∀ j : Nat, j < nf → ∃ (y qk : Nat) (vs : List Value), g j = some y ∧ ws[qk]? = some (y, .inr (1, vs))) : vx_Met l yX6_take wsX6_take ({ frames := 7, cells := 6, slots := 40, locals := 106 } : Room) (va_Pc [.ref x, .int (nI k)] (zY E ws)) (va_Qi (fun (r : Int32) (ws' : va_W) => (zK [1, qe] ws ws') ∧ (∃ (g2 : Nat → Option Nat), (ws'[1]? = some (fl, .inr (0, [.int (mc1 + 1), .ref ea, .int (nI (nf - 1))]))) ∧ (ws'[qe]? = some (ea, zO4 E 10 g2)) ∧ ((kIdx (nI k) (nI nf)) = 0 ∧ r = nI (nf - 1) ∧ ∀ j : Nat, j < nf - 1 → g2 j = if j < k then g j else g (j + 1)))) (zI E) (zA E)) (zX E ws (fun nm => False)) 6 40 (zA E) := by
  refine vx_ofW (cc := cX6_take) (maxL := 2) (ret := (some .int)) (by decide) rfl ?_
  intro p e s m args below meth c s₁ B hml htab hv
  obtain ⟨hargs9, hI, hRz⟩ := hv
  have hx := B.exec
  have hb := B.bytes
  have hr := B.returns
  have hlocks := B.notSynchronized
  have X : zC E p m c cX6_take 2 s args wsX6_take RX6 := z_open B hml hI
  have hown := X.1.2.2.2.1
  have hts := X.1.2.2.2.2
  have J := hI.J
  have hi_X6 : ∀ w ∈ wsX60, w ∈ wsX6_take := by decide +kernel
  have n0_2 : 0 ≠ qe := zneK Fa0 Fa2 rfl
  have n1_2 : 1 ≠ qe := zneK Fa1 Fa2 rfl
  have hk : zK [1, qe] ws ws := zK.rf
  have hl := lv_entry ([.ref x, .int (nI k)]) (n := 2) (Nat.le_of_ble_eq_true rfl)
  rw [show entryFrame m args 2 = entryFrame m ([.ref x, .int (nI k)] : List Value).toArray 2 from by rw [hargs9], lg_entry_eq]
  generalize (lg_sl ([.ref x, .int (nI k)]) ++ List.replicate (2 - (lg_sl ([.ref x, .int (nI k)])).length) Slot.unset).toArray = ls at hl ⊢
  have hl : lv_has ls 2 [(0, .ref x), (1, .int (nI k))] := hl
  generalize hQ : (vx_MQ below (va_Qi (fun (r : Int32) (ws' : va_W) => (zK [1, qe] ws ws') ∧ (∃ (g2 : Nat → Option Nat), (ws'[1]? = some (fl, .inr (0, [.int (mc1 + 1), .ref ea, .int (nI (nf - 1))]))) ∧ (ws'[qe]? = some (ea, zO4 E 10 g2)) ∧ ((kIdx (nI k) (nI nf)) = 0 ∧ r = nI (nf - 1) ∧ ∀ j : Nat, j < nf - 1 → g2 j = if j < k then g j else g (j + 1)))) (zI E) (zA E)) (zX E ws (fun nm => False)) args s 6 40 (zA E)) = QQ
  refine lv_iload_n hx hb dX6_take_0 rfl (lv_at hl 1 rfl) ?_
  refine lv_aload_n hx hb dX6_take_1 rfl (lv_at hl 0 rfl) ?_
  refine z_get (C := RX6) (T := TX6) (N := 11) (ci := 7) (v := .ref fl) X J hi_X6 0 Fa0 rfl 0 (by decide) (by decide +kernel) rfl dX6_take_2 ?_
  refine z_cr (z_rV (As := []) (rest := [.int (nI k)]) (ci := 0) (q0 := 1) X J (cJx4a65c_size_8abf5_ok l E Fa1) (cwV 0 hts gX6_take_Jx4a65c_size_8abf5 rfl rfl rfl (by decide +kernel) ⟨Nat.le_of_ble_eq_true rfl, Nat.le_of_ble_eq_true rfl⟩) Fa1 rfl rfl rfl hl.1 rfl (Nat.le_of_ble_eq_true rfl) dX6_take_5 ⟨Nat.le_of_ble_eq_true rfl, Nat.le_of_ble_eq_true rfl⟩) (fun r5 e_r5 => ?_)
  subst e_r5
  refine z_xv J (z_yS (As := [.int (nI k), .int (nI nf)]) (rest := []) X hRz J (cX6_needIndex_ok l hflags E (by omega)) (va_cwS 2 hts gX6_take_X6_needIndex rfl rfl rfl (by decide +kernel) ⟨Nat.le_of_ble_eq_true rfl, Nat.le_of_ble_eq_true rfl⟩) rfl hl.1 rfl (Nat.le_of_ble_eq_true rfl) dX6_take_8 ⟨Nat.le_of_ble_eq_true rfl, Nat.le_of_ble_eq_true rfl⟩) (fun nm ce q9 H locs hp9 J h1 h2 h3 => ?_) (fun ws_1 H locs hp9 J => ?_)
  · subst hQ
    exact z_out X J htab hlocks h1 h2 h3 (by exact hp9.1 (inR_mk hk9 (by omega))) (Nat.le_of_ble_eq_true rfl) (Nat.le_of_ble_eq_true rfl)
  obtain ⟨rfl, e_r8⟩ := hp9
  refine lv_aload_n hx hb dX6_take_11 rfl (lv_at hl 0 rfl) ?_
  refine z_get (C := RX6) (T := TX6) (N := 11) (ci := 7) (v := .ref fl) X J hi_X6 0 Fa0 rfl 0 (by decide) (by decide +kernel) rfl dX6_take_12 ?_
  refine lv_iload_n hx hb dX6_take_15 rfl (lv_at hl 1 rfl) ?_
  refine z_cq J (z_rV (As := [.int (nI k)]) (rest := []) (ci := 0) (q0 := 1) X J (cJx4a65c_remove_915e3_ok l E Fa1 Fa2 hk9 hn9 hel) (cwV 1 hts gX6_take_Jx4a65c_remove_915e3 rfl rfl rfl (by decide +kernel) ⟨Nat.le_of_ble_eq_true rfl, Nat.le_of_ble_eq_true rfl⟩) Fa1 rfl rfl rfl hl.1 rfl (Nat.le_of_ble_eq_true rfl) dX6_take_16 ⟨Nat.le_of_ble_eq_true rfl, Nat.le_of_ble_eq_true rfl⟩) (fun r16 ws_2 H locs hp9 J => ?_)
  obtain ⟨k2, ⟨g2_2, G2_a0, G2_a1, e_r16⟩⟩ := hp9
  have hk := hk.trans (k2.mono (by intro q9 hq9; simp only [List.mem_cons, List.not_mem_nil, or_false] at hq9 ⊢; omega))
  have G2_0 := k2.2 0 _ (by simp only [List.mem_cons, List.not_mem_nil, or_false]; omega) Fa0
  refine lv_pop hx hb dX6_take_19 (by cases r16 <;> rfl) ?_
  refine lv_aload_n hx hb dX6_take_20 rfl (lv_at hl 0 rfl) ?_
  refine z_get (C := RX6) (T := TX6) (N := 11) (ci := 7) (v := .ref fl) X J hi_X6 0 G2_0 rfl 0 (by decide) (by decide +kernel) rfl dX6_take_21 ?_
  refine z_cr (z_rV (As := []) (rest := []) (ci := 0) (q0 := 1) X J (cJx4a65c_size_8abf5_ok l E G2_a0) (cwV 0 hts gX6_take_Jx4a65c_size_8abf5 rfl rfl rfl (by decide +kernel) ⟨Nat.le_of_ble_eq_true rfl, Nat.le_of_ble_eq_true rfl⟩) G2_a0 rfl rfl rfl hl.1 rfl (Nat.le_of_ble_eq_true rfl) dX6_take_24 ⟨Nat.le_of_ble_eq_true rfl, Nat.le_of_ble_eq_true rfl⟩) (fun r24 e_r24 => ?_)
  subst e_r24
  refine W.widen (k := 6) (n := 40) (by omega) (by omega) ?_
  subst hQ
  refine vx_ret ?_
  exact W.iret (v := nI (nf - 1)) hx hb hr (fun t ht hW => ⟨⟨nI (nf - 1), ws_2, rfl, ⟨hk, ⟨g2_2, G2_a0, G2_a1, (by exact ⟨if_pos e_r8, rfl, e_r16⟩)⟩⟩, J.I X ht hW.alike⟩, J.F ht⟩) J.locs dX6_take_27
set_option maxHeartbeats 400000 in
set_option maxRecDepth 100000 in
theorem cX6_take_x_ok (l : Launch) (hflags : l.flags = flags0) (E : zG) {ws : va_W} {x fl rl wh gr tr sc ea nf : Nat} {mc1 lim sup off plo hrs : Int32} {v : Int32} (Fa0 : ws[0]? = some (x, .inr (7, [.ref fl, .ref rl, .ref wh, .ref gr, .ref tr, .ref sc, .int lim, .int sup, .int off, .int plo, .int hrs]))) (Fa1 : ws[1]? = some (fl, .inr (0, [.int mc1, .ref ea, .int (nI nf)]))) (hn9 : nf ≤ 10) (hx9 : ¬ inR v 0 (nI nf - 1)) : vx_Met l yX6_take wsX6_take ({ frames := 7, cells := 6, slots := 40, locals := 103 } : Room) (va_Pc [.ref x, .int v] (zY E ws)) (va_Qi (fun (r : Int32) (ws' : va_W) => (ws = ws') ∧ (False)) (zI E) (zA E)) (zX E ws (fun nm => (kIdx v (nI nf)) = 1 ∧ nm = "java/lang/IndexOutOfBoundsException")) 6 40 (zA E) := by
  refine vx_ofW (cc := cX6_take) (maxL := 2) (ret := (some .int)) (by decide) rfl ?_
  intro p e s m args below meth c s₁ B hml htab hv
  obtain ⟨hargs9, hI, hRz⟩ := hv
  have hx := B.exec
  have hb := B.bytes
  have hr := B.returns
  have hlocks := B.notSynchronized
  have X : zC E p m c cX6_take 2 s args wsX6_take RX6 := z_open B hml hI
  have hown := X.1.2.2.2.1
  have hts := X.1.2.2.2.2
  have J := hI.J
  have hi_X6 : ∀ w ∈ wsX60, w ∈ wsX6_take := by decide +kernel
  have hk : zK [] ws ws := zK.rf
  have hl := lv_entry ([.ref x, .int v]) (n := 2) (Nat.le_of_ble_eq_true rfl)
  rw [show entryFrame m args 2 = entryFrame m ([.ref x, .int v] : List Value).toArray 2 from by rw [hargs9], lg_entry_eq]
  generalize (lg_sl ([.ref x, .int v]) ++ List.replicate (2 - (lg_sl ([.ref x, .int v])).length) Slot.unset).toArray = ls at hl ⊢
  have hl : lv_has ls 2 [(0, .ref x), (1, .int v)] := hl
  generalize hQ : (vx_MQ below (va_Qi (fun (r : Int32) (ws' : va_W) => (ws = ws') ∧ (False)) (zI E) (zA E)) (zX E ws (fun nm => (kIdx v (nI nf)) = 1 ∧ nm = "java/lang/IndexOutOfBoundsException")) args s 6 40 (zA E)) = QQ
  refine lv_iload_n hx hb dX6_take_0 rfl (lv_at hl 1 rfl) ?_
  refine lv_aload_n hx hb dX6_take_1 rfl (lv_at hl 0 rfl) ?_
  refine z_get (C := RX6) (T := TX6) (N := 11) (ci := 7) (v := .ref fl) X J hi_X6 0 Fa0 rfl 0 (by decide) (by decide +kernel) rfl dX6_take_2 ?_
  refine z_cr (z_rV (As := []) (rest := [.int v]) (ci := 0) (q0 := 1) X J (cJx4a65c_size_8abf5_ok l E Fa1) (cwV 0 hts gX6_take_Jx4a65c_size_8abf5 rfl rfl rfl (by decide +kernel) ⟨Nat.le_of_ble_eq_true rfl, Nat.le_of_ble_eq_true rfl⟩) Fa1 rfl rfl rfl hl.1 rfl (Nat.le_of_ble_eq_true rfl) dX6_take_5 ⟨Nat.le_of_ble_eq_true rfl, Nat.le_of_ble_eq_true rfl⟩) (fun r5 e_r5 => ?_)
  subst e_r5
  refine z_xv J (z_yS (As := [.int v, .int (nI nf)]) (rest := []) X hRz J (cX6_needIndex_ok l hflags E (by omega)) (va_cwS 2 hts gX6_take_X6_needIndex rfl rfl rfl (by decide +kernel) ⟨Nat.le_of_ble_eq_true rfl, Nat.le_of_ble_eq_true rfl⟩) rfl hl.1 rfl (Nat.le_of_ble_eq_true rfl) dX6_take_8 ⟨Nat.le_of_ble_eq_true rfl, Nat.le_of_ble_eq_true rfl⟩) (fun nm ce q9 H locs hp9 J h1 h2 h3 => ?_) (fun ws_1 H locs hp9 J => ?_)
  · subst hQ
    exact z_out X J htab hlocks h1 h2 h3 (by exact ⟨if_neg hp9.1, hp9.2⟩) (Nat.le_of_ble_eq_true rfl) (Nat.le_of_ble_eq_true rfl)
  obtain ⟨rfl, e_r8⟩ := hp9
  exact absurd e_r8 hx9
