/-! ===== throws of the class itself: its texts, its three classes; a walk that may throw ===== -/
def zRl : List (Nat × String) := [(51, "length is not 1 to 20"), (73, "there are 10 fences"), (98, "there are 4 roads"), (109, "limit is not 1 to 60"), (111, "supply is not 0 to 40"), (116, "many is not 1 to 30"), (229, "there is none of this number"), (232, "height is not 1 to 9"), (234, "gap is not 0 to 3"), (236, "strength is not 1 to 9"), (238, "hours is not 1 to 24")]
def zR (U : State) : Prop := (∀ q ∈ zRl, ∃ a : Nat, vk_R RX6 q.1 q.2 a U) ∧ va_Nw (.castable "java/lang/IllegalArgumentException" "java/lang/IllegalArgumentException") U ∧ va_Nw (.castable "java/lang/IndexOutOfBoundsException" "java/lang/IndexOutOfBoundsException") U ∧ va_Nw (.castable "java/lang/IllegalStateException" "java/lang/IllegalStateException") U ∧ va_Nw (.declares (Bundle.initS "java/lang/RuntimeException")) U ∧ va_Nw (.declares (Bundle.initS "java/lang/Exception")) U ∧ va_Nw (.declares (Bundle.initS "java/lang/Throwable")) U ∧ va_Nw (.methodLinkNest RX6 30 yX1_init RX6) U ∧ va_Nw (.methodLinkNest RX6 40 yX3_init RX6) U ∧ va_Nw (.methodLinkNest "SnowFencesLaw" 96 yX7_init "SnowFencesLaw") U
theorem zR.warm {s U : State} (hW : s.WarmedH U.vm) (h : zR s) : zR U :=
  ⟨fun q hq => (h.1 q hq).elim (fun a ha => ⟨a, vk_R.warm hW ha⟩), va_Nw.warmC hW h.2.1, va_Nw.warmC hW h.2.2.1, va_Nw.warmC hW h.2.2.2.1, va_Nw.warmD hW h.2.2.2.2.1, va_Nw.warmD hW h.2.2.2.2.2.1, va_Nw.warmD hW h.2.2.2.2.2.2.1, va_Nw.warmM hW h.2.2.2.2.2.2.2.1, va_Nw.warmM hW h.2.2.2.2.2.2.2.2.1, va_Nw.warmM hW h.2.2.2.2.2.2.2.2.2⟩
theorem zR.blind {U : State} {g : JFrame} {mk : MethodId} {a : Array Value} (h : zR U) : zR (U.calling g mk a) := zR.warm (U := U.calling g mk a) (State.WarmedH.refl U) h
abbrev zY (E : zG) (ws : va_W) (U : State) : Prop := zI E ws U ∧ zR U
theorem zYc.blind {E : zG} {ws : va_W} {av : List Value} : FrameBlind (va_Pc av (zY E ws)) := fun _ _ _ _ q => ⟨q.1, q.2.1.blind, q.2.2.blind⟩
abbrev zNs : List String := ["java/lang/RuntimeException", "java/lang/Exception"]
/-- the words of the chain of constructors that no list of a method holds -/
abbrev zDs : List Cond := [Cond.declares (Bundle.initS "java/lang/RuntimeException"), Cond.declares (Bundle.initS "java/lang/Exception"), Cond.declares (Bundle.initS "java/lang/Throwable")]
theorem zfitA : Bundle.fit "java/lang/IllegalArgumentException" = true := by decide +kernel
theorem zfitX : Bundle.fit "java/lang/IndexOutOfBoundsException" = true := by decide +kernel
theorem zfitS : Bundle.fit "java/lang/IllegalStateException" = true := by decide +kernel
theorem zfitN : ∀ n ∈ zNs, Bundle.fit n = true := by decide +kernel
theorem zbadA : ∀ w ∈ (vx_atS RX6 53 "java/lang/IllegalArgumentException" zNs).filter (fun w => !goodWord w), w ∈ Cond.castable "java/lang/IllegalArgumentException" "java/lang/IllegalArgumentException" :: zDs := by decide +kernel
theorem zbadX : ∀ w ∈ (vx_atS RX6 231 "java/lang/IndexOutOfBoundsException" zNs).filter (fun w => !goodWord w), w ∈ Cond.castable "java/lang/IndexOutOfBoundsException" "java/lang/IndexOutOfBoundsException" :: zDs := by decide +kernel
theorem zbadS : ∀ w ∈ (vx_atS RX6 75 "java/lang/IllegalStateException" zNs).filter (fun w => !goodWord w), w ∈ Cond.castable "java/lang/IllegalStateException" "java/lang/IllegalStateException" :: zDs := by decide +kernel
theorem zgoodA : ∀ w ∈ Cond.classLink RX6 49 "java/lang/IllegalArgumentException" :: Cond.initialized "java/lang/IllegalArgumentException" :: vx_atS RX6 53 "java/lang/IllegalArgumentException" zNs, vx_ot w = true := by decide +kernel
theorem zgoodX : ∀ w ∈ Cond.classLink RX6 227 "java/lang/IndexOutOfBoundsException" :: Cond.initialized "java/lang/IndexOutOfBoundsException" :: vx_atS RX6 231 "java/lang/IndexOutOfBoundsException" zNs, vx_ot w = true := by decide +kernel
theorem zgoodS : ∀ w ∈ Cond.classLink RX6 71 "java/lang/IllegalStateException" :: Cond.initialized "java/lang/IllegalStateException" :: vx_atS RX6 75 "java/lang/IllegalStateException" zNs, vx_ot w = true := by decide +kernel
theorem ztraces {l : Launch} (hf : l.flags = flags0) : l.stackTraces = false := by
  unfold Launch.stackTraces; rw [hf]; decide +kernel
section ZTH
variable {p : Program} {l : Launch} {e : Env} {R : Room} {s : State} {m : MethodId} {args : Array Value} {below : List Frame} {meth : Method} {c : Code} {H : Heap} {locs : List Loc} {cells slots : Nat} {Q : State → Prop}
variable {cc : ByteArray} {pc nL : Nat} {ls : Array Slot} {rest st0 : List Value} {ws : va_W} {own : String} {Ts : List Cond} {E : zG}
/-- the world behind a heap that has grown -/
theorem zJ.grown (X : zC E p m c cc nL s args Ts own) (J : zJ E ws s H locs) {t : State} (hvm : s.vm.Alike t.vm) (hz : H.size ≤ t.heap.size) (hq : ∀ q : Nat, q < H.size → t.heap[q]? = H[q]?) : zI E ws t ∧ va_F (zA E) s t := by
  obtain ⟨-, hK, hZ, hb⟩ := X
  obtain ⟨hP, hD, hS⟩ := J
  exact ⟨⟨Nat.le_trans hb (Nat.le_trans hS.1 hz), hP.kept (fun k q h => hq _ (vx_lt hP h)), va_K.moved hvm hK, hD, zS.moved hvm (hZ.kept (fun a ha hA => (hq a (Nat.lt_of_lt_of_le ha hS.1)).trans (hS.2.1 a ha hA)))⟩,
    ⟨Nat.le_trans hS.1 hz, fun q h1 h2 => (hq q (Nat.lt_of_lt_of_le h1 hS.1)).trans (hS.2.1 q h1 h2)⟩⟩
theorem z_throw {cls text : String} {ik is ic mc ms : Nat} {Qc : Array Value → State → Outcome → State → Prop} {px : String → Prop} (hflags : l.flags = flags0) (X : zC E p m c cc nL s args Ts RX6) (hR : zR s) (J : zJ E ws s H locs) (htab : ∀ x ∈ c.exceptionTable.toList, False) (hlocks : meth.locks = false) (hls : ls.size = nL)
    (hcls : Bundle.fit cls = true) (hk : Cond.classLink RX6 ik cls ∈ Ts) (hini : Cond.initialized cls ∈ Ts) (hstr : (is, text) ∈ zRl) (hgw : ∀ w ∈ (vx_atS RX6 ic cls zNs).filter goodWord, w ∈ Ts)
    (hbad : ∀ w ∈ (vx_atS RX6 ic cls zNs).filter (fun w => !goodWord w), w ∈ Cond.castable cls cls :: zDs) (hcas : va_Nw (.castable cls cls) s) (hgood : ∀ w ∈ Cond.classLink RX6 ik cls :: Cond.initialized cls :: vx_atS RX6 ic cls zNs, vx_ot w = true)
    (d0 : decode cc pc = .ok (.new ik, 3)) (d3 : decode cc (pc + 3) = .ok (.dup, 1)) (d4 : decode cc (pc + 4) = .ok (.ldc is, 2)) (d6 : decode cc (pc + 6) = .ok (.invokespecial ic, 3)) (d9 : decode cc (pc + 9) = .ok (.athrow, 1))
    (hfr : 5 < R.frames) (hlo : (rest.map fun v => v.category).sum + 82 ≤ R.locals) (hce : cells + 1 ≤ R.cells) (hsl : slots + 6 ≤ R.slots) (hpx : px cls) (hmc : cells + 1 ≤ mc) (hms : slots + 6 ≤ ms) :
    W p l e R s m args below meth c H locs cells slots (vx_MQ below Qc (zX E ws px) args s mc ms (zA E)) (F0 m pc ls rest) := by
  obtain ⟨sa, hsa⟩ := hR.1 _ hstr
  have hts := X.1.2.2.2.2
  refine vx_throwS (A := zA E) (names := zNs) X.1.1 X.1.2.1 (ztraces hflags) X.1.2.2.2.1 hcls zfitN (hts _ hk) (hts _ hini) hsa (vx_hat (fun w hw => hts w (hgw w hw)) hbad (vx_c (va_Nw.use rfl hcas) (vx_c (va_Nw.use rfl hR.2.2.2.2.1) (vx_c (va_Nw.use rfl hR.2.2.2.2.2.1) (vx_c (va_Nw.use rfl hR.2.2.2.2.2.2.1) vx_n))))) hgood X.2.2.1.2.2.1 X.2.2.1.2.2.2.1 J.2.2 (hls.trans X.1.2.2.1.symm) d0 d3 d4 d6 d9 (fun x hx => (htab x hx).elim) hfr hlo hce hsl hlocks (fun t hvm hz hq => ?_) J.locs hmc hms
  obtain ⟨h1, h2⟩ := J.grown X hvm hz hq
  exact ⟨cls, hpx, ⟨rfl, h1⟩, h2⟩
theorem z_preVY (X : zC E p m c cc nL s args Ts own) (hR : zR s) (J : zJ E ws s H locs) {C : String} {b ci q0 : Nat} {q : vw_C} {fs : List Value} {As : List Value} (he : ws[q0]? = some (b, .inr (ci, fs))) (hc : vwCl[ci]? = some q) (hC : q.1 = C) : PreV s H C b (va_Pc (.ref b :: As) (zY E ws)) As :=
  ⟨zYc.blind, hC ▸ va_recv X.2.1 J.1 hc he, fun U hU hW => ⟨rfl, J.I X hU hW.alike, hR.warm hW⟩⟩
theorem z_preSY (X : zC E p m c cc nL s args Ts own) (hR : zR s) (J : zJ E ws s H locs) {As : List Value} : PreS s H (va_Pc As (zY E ws)) As :=
  ⟨zYc.blind, fun U hU hW => ⟨rfl, J.I X hU hW.alike, hR.warm hW⟩⟩
section ZCallY
variable {y : MethodName} {bytes : ByteArray} {maxL mc ms n index : Nat} {ret : Option FieldType} {wsm : List Cond} {rm : Room} {Qc : Array Value → State → Outcome → State → Prop} {XC : String → State → State → Prop} {free : Addr → Prop} {C : String} {b : Addr} {As : List Value} {a : Array Value}
theorem z_yV (X : zC E p m c cc nL s args Ts own) (hR : zR s) (J : zJ E ws s H locs) (hM : vx_Met l y wsm rm (va_Pc (.ref b :: As) (zY E ws)) Qc XC mc ms free) (cw : CallW R s args own C index y bytes maxL ret wsm rm mc ms n) {ci q0 : Nat} {q : vw_C} {fs : List Value} (he : ws[q0]? = some (b, .inr (ci, fs))) (hc : vwCl[ci]? = some q) (hC : q.1 = C)
    (hn : As.length = n) (hls : ls.size = nL) (hst : st0 = As.reverse ++ .ref b :: rest) (hcat : (rest.map fun v => v.category).sum ≤ 8) (hdg : decode cc pc = .ok (.invokevirtual index, 3)) (hf : cells + mc ≤ R.cells ∧ slots + ms ≤ R.slots) :
    vx_Run p l e R s m args below meth c H locs cells slots mc ms (F0 m pc ls st0) rest (Qc (Value.ref b :: As).toArray) XC free :=
  vx_runV X.1 hM cw (z_preVY X hR J he hc hC) rfl hn hls hst (lv_room hcat) hdg hf
theorem z_yS (X : zC E p m c cc nL s args Ts own) (hR : zR s) (J : zJ E ws s H locs) (hM : vx_Met l y wsm rm (va_Pc As (zY E ws)) Qc XC mc ms free) (cw : CallB R s args own index y bytes maxL ret wsm rm mc ms n ∧ (Cond.static y).before args s = true)
    (hn : As.length = n) (hls : ls.size = nL) (hst : st0 = As.reverse ++ rest) (hcat : (rest.map fun v => v.category).sum ≤ 8) (hdg : decode cc pc = .ok (.invokestatic index, 3)) (hf : cells + mc ≤ R.cells ∧ slots + ms ≤ R.slots) :
    vx_Run p l e R s m args below meth c H locs cells slots mc ms (F0 m pc ls st0) rest (Qc As.toArray) XC free :=
  vx_runS X.1 hM cw (z_preSY X hR J) rfl hn hls hst (lv_room hcat) hdg hf
/-- a non-throwing method that wants the texts (it calls such as throw) -/
theorem z_rVY (X : zC E p m c cc nL s args Ts own) (hR : zR s) (J : zJ E ws s H locs) (hM : Met l y wsm rm (va_Pc (.ref b :: As) (zY E ws)) Qc mc ms free) (cw : CallW R s args own C index y bytes maxL ret wsm rm mc ms n) {ci q0 : Nat} {q : vw_C} {fs : List Value} (he : ws[q0]? = some (b, .inr (ci, fs))) (hc : vwCl[ci]? = some q) (hC : q.1 = C)
    (hn : As.length = n) (hls : ls.size = nL) (hst : st0 = As.reverse ++ .ref b :: rest) (hcat : (rest.map fun v => v.category).sum ≤ 8) (hdg : decode cc pc = .ok (.invokevirtual index, 3)) (hf : cells + mc ≤ R.cells ∧ slots + ms ≤ R.slots) :
    va_Run p l e R s m args below meth c H locs cells slots mc ms (F0 m pc ls st0) rest (Qc (Value.ref b :: As).toArray) free :=
  va_runV X.1 hM cw (z_preVY X hR J he hc hC) rfl hn hls hst (lv_room hcat) hdg hf
/-- a private constructor of a class in the same nest -/
theorem z_rIN {host : String} (X : zC E p m c cc nL s args Ts own) (J : zJ E ws s H locs) (hM : Met l y wsm rm (va_Pc (.ref b :: As) (zI E ws)) Qc mc ms free) (cw : va_CN R s args own index y host bytes maxL none wsm rm mc ms n ∧ y.name = "<init>" ∧ (Cond.instanceMethod y).before args s = true)
    (hn : As.length = n) (hls : ls.size = nL) (hst : st0 = As.reverse ++ .ref b :: rest) (hcat : (rest.map fun v => v.category).sum ≤ 8) (hdg : decode cc pc = .ok (.invokespecial index, 3)) (hf : cells + mc ≤ R.cells ∧ slots + ms ≤ R.slots) :
    va_Run p l e R s m args below meth c H locs cells slots mc ms (F0 m pc ls st0) rest (Qc (Value.ref b :: As).toArray) free :=
  va_runIN X.1 hM cw (z_preS X J) rfl hn hls hst (lv_room hcat) hdg hf
theorem z_rIY (X : zC E p m c cc nL s args Ts own) (hR : zR s) (J : zJ E ws s H locs) (hM : Met l y wsm rm (va_Pc (.ref b :: As) (zY E ws)) Qc mc ms free) (cw : CallB R s args own index y bytes maxL none wsm rm mc ms n ∧ y.name = "<init>" ∧ (Cond.instanceMethod y).before args s = true)
    (hn : As.length = n) (hls : ls.size = nL) (hst : st0 = As.reverse ++ .ref b :: rest) (hcat : (rest.map fun v => v.category).sum ≤ 8) (hdg : decode cc pc = .ok (.invokespecial index, 3)) (hf : cells + mc ≤ R.cells ∧ slots + ms ≤ R.slots) :
    va_Run p l e R s m args below meth c H locs cells slots mc ms (F0 m pc ls st0) rest (Qc (Value.ref b :: As).toArray) free :=
  va_runI X.1 hM cw (z_preSY X hR J) rfl hn hls hst (lv_room hcat) hdg hf
end ZCallY
end ZTH
