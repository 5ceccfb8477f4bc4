section
-- ===== PART A: goes FIRST, ahead of the names: the tables' words, and 'selects' of the private methods out of them =====
/-- a private method of a class that the tables say can be made, by its rows of tables_1 -/
def lw_okq (q : MethodName × Nat) : Prop := (q.1.cls ≠ "java/lang/invoke/MethodHandle" ∧ q.1.cls ≠ "java/lang/invoke/VarHandle") ∧ Cond.instantiable q.1.cls q.2 ∈ tables_1 ∧ Cond.privateMethod q.1 ∈ tables_1 ∧ Cond.instanceMethod q.1 ∈ tables_1
theorem lw_p0 : lw_okq (⟨"java/lang/Throwable", "fillInStackTrace", "(I)Ljava/lang/Throwable;"⟩, 6) := ⟨⟨by decide +kernel, by decide +kernel⟩, List.mem_of_getElem? (i := 179) (by decide +kernel), List.mem_of_getElem? (i := 177) (by decide +kernel), List.mem_of_getElem? (i := 178) (by decide +kernel)⟩
theorem lw_p1 : lw_okq (⟨"SnowFences", "screenAllBut", "(I)V"⟩, 11) := ⟨⟨by decide +kernel, by decide +kernel⟩, List.mem_of_getElem? (i := 25) (by decide +kernel), List.mem_of_getElem? (i := 243) (by decide +kernel), List.mem_of_getElem? (i := 244) (by decide +kernel)⟩
theorem lw_p2 : lw_okq (⟨"SnowFences$Screens", "stand", "(III)V"⟩, 2) := ⟨⟨by decide +kernel, by decide +kernel⟩, List.mem_of_getElem? (i := 90) (by decide +kernel), List.mem_of_getElem? (i := 251) (by decide +kernel), List.mem_of_getElem? (i := 252) (by decide +kernel)⟩
theorem lw_p3 : lw_okq (⟨"SnowFences", "blowOver", "(LSnowFences$Ground;LSnowFences$Wind;I)I"⟩, 11) := ⟨⟨by decide +kernel, by decide +kernel⟩, List.mem_of_getElem? (i := 25) (by decide +kernel), List.mem_of_getElem? (i := 324) (by decide +kernel), List.mem_of_getElem? (i := 325) (by decide +kernel)⟩
theorem lw_p4 : lw_okq (⟨"SnowFences$Wind", "passLine", "(LSnowFences$Ground;LSnowFences$Screens;I)I"⟩, 10) := ⟨⟨by decide +kernel, by decide +kernel⟩, List.mem_of_getElem? (i := 286) (by decide +kernel), List.mem_of_getElem? (i := 332) (by decide +kernel), List.mem_of_getElem? (i := 333) (by decide +kernel)⟩
theorem lw_p5 : lw_okq (⟨"SnowFences$Wind", "passCell", "(LSnowFences$Ground;LSnowFences$Screens;I)V"⟩, 10) := ⟨⟨by decide +kernel, by decide +kernel⟩, List.mem_of_getElem? (i := 286) (by decide +kernel), List.mem_of_getElem? (i := 336) (by decide +kernel), List.mem_of_getElem? (i := 337) (by decide +kernel)⟩
theorem lw_p6 : lw_okq (⟨"SnowFences$Wind", "dropped", "(I)I"⟩, 10) := ⟨⟨by decide +kernel, by decide +kernel⟩, List.mem_of_getElem? (i := 286) (by decide +kernel), List.mem_of_getElem? (i := 349) (by decide +kernel), List.mem_of_getElem? (i := 350) (by decide +kernel)⟩
theorem lw_p7 : lw_okq (⟨"SnowFences$Wind", "pickedUp", "(I)I"⟩, 10) := ⟨⟨by decide +kernel, by decide +kernel⟩, List.mem_of_getElem? (i := 286) (by decide +kernel), List.mem_of_getElem? (i := 359) (by decide +kernel), List.mem_of_getElem? (i := 360) (by decide +kernel)⟩
theorem lw_p8 : lw_okq (⟨"SnowFences", "blockedOnRoads", "(LSnowFences$Ground;)I"⟩, 11) := ⟨⟨by decide +kernel, by decide +kernel⟩, List.mem_of_getElem? (i := 25) (by decide +kernel), List.mem_of_getElem? (i := 400) (by decide +kernel), List.mem_of_getElem? (i := 401) (by decide +kernel)⟩
theorem lw_p9 : lw_okq (⟨"SnowFences", "blockedAfterAdvice", "(LSnowFences$Wind;)I"⟩, 11) := ⟨⟨by decide +kernel, by decide +kernel⟩, List.mem_of_getElem? (i := 25) (by decide +kernel), List.mem_of_getElem? (i := 428) (by decide +kernel), List.mem_of_getElem? (i := 429) (by decide +kernel)⟩
theorem lw_p10 : lw_okq (⟨"SnowFencesLaw$Sim", "highest", "(II)[I"⟩, 8) := ⟨⟨by decide +kernel, by decide +kernel⟩, List.mem_of_getElem? (i := 471) (by decide +kernel), List.mem_of_getElem? (i := 469) (by decide +kernel), List.mem_of_getElem? (i := 470) (by decide +kernel)⟩
theorem lw_p11 : lw_okq (⟨"java/util/ArrayList", "add", "(Ljava/lang/Object;[Ljava/lang/Object;I)V"⟩, 3) := ⟨⟨by decide +kernel, by decide +kernel⟩, List.mem_of_getElem? (i := 33) (by decide +kernel), List.mem_of_getElem? (i := 621) (by decide +kernel), List.mem_of_getElem? (i := 622) (by decide +kernel)⟩
theorem lw_p12 : lw_okq (⟨"java/util/ArrayList", "grow", "()[Ljava/lang/Object;"⟩, 3) := ⟨⟨by decide +kernel, by decide +kernel⟩, List.mem_of_getElem? (i := 33) (by decide +kernel), List.mem_of_getElem? (i := 625) (by decide +kernel), List.mem_of_getElem? (i := 626) (by decide +kernel)⟩
theorem lw_p13 : lw_okq (⟨"java/util/ArrayList", "grow", "(I)[Ljava/lang/Object;"⟩, 3) := ⟨⟨by decide +kernel, by decide +kernel⟩, List.mem_of_getElem? (i := 33) (by decide +kernel), List.mem_of_getElem? (i := 629) (by decide +kernel), List.mem_of_getElem? (i := 630) (by decide +kernel)⟩
theorem lw_p14 : lw_okq (⟨"java/util/ArrayList", "fastRemove", "([Ljava/lang/Object;I)V"⟩, 3) := ⟨⟨by decide +kernel, by decide +kernel⟩, List.mem_of_getElem? (i := 33) (by decide +kernel), List.mem_of_getElem? (i := 691) (by decide +kernel), List.mem_of_getElem? (i := 692) (by decide +kernel)⟩
def lw_privs_1 : List (MethodName × Nat) := [(⟨"java/lang/Throwable", "fillInStackTrace", "(I)Ljava/lang/Throwable;"⟩, 6), (⟨"SnowFences", "screenAllBut", "(I)V"⟩, 11), (⟨"SnowFences$Screens", "stand", "(III)V"⟩, 2), (⟨"SnowFences", "blowOver", "(LSnowFences$Ground;LSnowFences$Wind;I)I"⟩, 11), (⟨"SnowFences$Wind", "passLine", "(LSnowFences$Ground;LSnowFences$Screens;I)I"⟩, 10), (⟨"SnowFences$Wind", "passCell", "(LSnowFences$Ground;LSnowFences$Screens;I)V"⟩, 10), (⟨"SnowFences$Wind", "dropped", "(I)I"⟩, 10), (⟨"SnowFences$Wind", "pickedUp", "(I)I"⟩, 10), (⟨"SnowFences", "blockedOnRoads", "(LSnowFences$Ground;)I"⟩, 11), (⟨"SnowFences", "blockedAfterAdvice", "(LSnowFences$Wind;)I"⟩, 11), (⟨"SnowFencesLaw$Sim", "highest", "(II)[I"⟩, 8), (⟨"java/util/ArrayList", "add", "(Ljava/lang/Object;[Ljava/lang/Object;I)V"⟩, 3), (⟨"java/util/ArrayList", "grow", "()[Ljava/lang/Object;"⟩, 3), (⟨"java/util/ArrayList", "grow", "(I)[Ljava/lang/Object;"⟩, 3), (⟨"java/util/ArrayList", "fastRemove", "([Ljava/lang/Object;I)V"⟩, 3)]
theorem lw_r1 : ∀ q ∈ lw_privs_1, lw_okq q := List.forall_mem_cons.mpr ⟨lw_p0, List.forall_mem_cons.mpr ⟨lw_p1, List.forall_mem_cons.mpr ⟨lw_p2, List.forall_mem_cons.mpr ⟨lw_p3, List.forall_mem_cons.mpr ⟨lw_p4, List.forall_mem_cons.mpr ⟨lw_p5, List.forall_mem_cons.mpr ⟨lw_p6, List.forall_mem_cons.mpr ⟨lw_p7, List.forall_mem_cons.mpr ⟨lw_p8, List.forall_mem_cons.mpr ⟨lw_p9, List.forall_mem_cons.mpr ⟨lw_p10, List.forall_mem_cons.mpr ⟨lw_p11, List.forall_mem_cons.mpr ⟨lw_p12, List.forall_mem_cons.mpr ⟨lw_p13, List.forall_mem_cons.mpr ⟨lw_p14, fun _ h => absurd h List.not_mem_nil⟩⟩⟩⟩⟩⟩⟩⟩⟩⟩⟩⟩⟩⟩⟩
def lw_privs : List (MethodName × Nat) := lw_privs_1
def lw_tbl : List Cond := k2_sels lw_privs ++ tables_1
theorem lw_privs_ok : ∀ q ∈ lw_privs, lw_okq q := lw_r1
/-- the streams that the claim lets the run draw from -/
abbrev lw_cs : List Choice := [Jvm.Choice.named "NaN.bits"]
theorem lw_bits : nanBits ∈ lw_cs := by first | decide | exact List.mem_cons_self | simp [lw_cs, nanBits]
-- ===== end of PART A; then your names; then what follows =====
/-! ===== BEGIN words of one list among another's, by their places ===== -/
theorem goodIn_r {big : List Cond} (ws : List Cond) (ps : List Nat) (hp : ws = ps.filterMap (fun i => big[i]?)) (h : ws.all goodWord = true) : GoodIn big ws := by
  intro w hw
  have h1 := List.all_eq_true.mp h w hw
  rw [hp] at hw
  obtain ⟨i, -, hi⟩ := List.mem_filterMap.mp hw
  have hm : w ∈ big := by first | exact List.mem_of_getElem? hi | exact List.getElem?_mem hi
  exact ⟨hm, good_of_word h1⟩
theorem goodIn_app {big a b : List Cond} (ha : GoodIn big a) (hb : GoodIn big b) : GoodIn big (a ++ b) := fun w h => (List.mem_append.mp h).elim (ha w) (hb w)
theorem goodIn_ca {big a b : List Cond} {c : Cond} (ha : GoodIn big (c :: a)) (hb : GoodIn big b) : GoodIn big (c :: (a ++ b)) := fun w h => (List.mem_cons.mp h).elim (fun e => ha w (List.mem_cons.mpr (Or.inl e))) (fun h => (List.mem_append.mp h).elim (fun h => ha w (List.mem_cons.mpr (Or.inr h))) (hb w))
theorem goodIn_sub {big ws : List Cond} (hm : ∀ w ∈ ws, w ∈ big) (h : ws.all goodWord = true) : GoodIn big ws := fun w hw => ⟨hm w hw, good_of_word (List.all_eq_true.mp h w hw)⟩
/-! ===== END ===== -/
/-! ===== BEGIN exceptions that leave a method, and their catching by the caller (launches without stack traces) ===== -/
section VXA
/-! The laws vx_back, vx_callV, vx_callS, vx_callSW, vx_throw0, vx_throwS follow proofs of the library, with one case more: JvmDerived/Free/Laws.lean (Back.of_free), Shelf42/LK1.lean (callV, callS), Shelf/KitTraced.lean (throwNew0V, throwNewS). -/
/-- where a method has thrown q: the class by its name, the cell, what was written, the world -/
def vx_T (XC : String → State → State → Prop) (st : State) (q : Addr) (t : State) (mc ms : Nat) (free : Addr → Prop) : Prop :=
  ∃ (E : String) (ce : Cell) (L : List Loc), XC E st t ∧ t.heap[q]? = some ce ∧ ce.vm = .none ∧ st.vm.findClass E = some ce.cls ∧ st.WarmedH t.vm ∧ st.sameButNew ({ t with vm := st.vm } : State) L mc ms ∧ ∀ z ∈ L, free z.base
def vx_Q (Qc : Array Value → State → Outcome → State → Prop) (XC : String → State → State → Prop) (mc ms : Nat) (free : Addr → Prop) : Array Value → State → Outcome → State → Prop := fun a st o t =>
  (Qc a st o t ∧ ∃ L, FrameEnd st o t L mc ms ∧ ∀ q ∈ L, free q.base) ∨ ∃ q, o = .threw q ∧ vx_T XC st q t mc ms free
/-- a callee that returns or throws -/
def vx_Met (l : Launch) (y : MethodName) (ws : List Cond) (rm : Room) (Pc : Array Value → State → Prop) (Qc : Array Value → State → Outcome → State → Prop) (XC : String → State → State → Prop) (mc ms : Nat) (free : Addr → Prop) : Prop :=
  MetFree l y (headSpec ws rm) Pc (fun _ _ _ _ _ => True) (vx_Q Qc XC mc ms free)
def vx_Post (XC : String → State → State → Prop) (mc ms : Nat) (free : Addr → Prop) : Pt → Array Value → Addr → Pt → Prop := fun A a q B =>
  ∃ (g : JFrame) (mk : MethodId) (t : State) (L : List Loc) (E : String) (ce : Cell), B.U.heap = t.heap ∧ B.U.vm = t.vm ∧ XC E (A.U.calling g mk a) t ∧ t.heap[q]? = some ce ∧ ce.vm = .none ∧ A.U.vm.findClass E = some ce.cls ∧ B.locs = A.locs ++ L ∧ (∀ z ∈ L, free z.base) ∧ B.cells = A.cells + mc ∧ B.slots = A.slots + ms
def vx_Back (l : Launch) (R : Room) (p : Program) (e : Env) (below : List Frame) (s : State) (sargs : Array Value) (y : MethodName) (len W9 : Nat)
    (Pre : Pt → Array Value → Prop) (Post : Pt → Array Value → Option Value → Pt → Prop) (PostX : Pt → Array Value → Addr → Pt → Prop) : Prop :=
  ∀ (m : MethodId) (meth : Method) (c : Code) (A : Pt) (g : JFrame) (ig : Instr) (mk : MethodId) (a : Array Value),
    Stand p l e R s m sargs below meth c A.U A.locs A.cells A.slots → g.method = m → g.locals.size = c.maxLocals → decode c.code g.pc = .ok (ig, len) →
    2 * g.monitorRoom + (g.stack.map fun v => v.category).sum ≤ W9 → A.U.methodNamed? y = some mk → Pre A a →
    (∃ (v : Option Value) (B : Pt), Stand p l e R s m sargs below meth c B.U B.locs B.cells B.slots ∧ Post A a v B ∧
      Steps p.tables e below (doInvoke e (A.U.setTop g) [] mk a).1 (B.U.setTop { g with pc := g.pc + len, stack := v.toList ++ g.stack })) ∨
    (∃ (q : Addr) (B : Pt), Stand p l e R s m sargs below meth c B.U B.locs B.cells B.slots ∧ PostX A a q B ∧
      Steps p.tables e below (doInvoke e (A.U.setTop g) [] mk a).1 ((B.U.setTop g).pushFrame (.throwing q)))
section Payer
variable {l : Launch} {R : Room} {p : Program} {e : Env} {below : List Frame} {s : State} {sargs : Array Value} {y : MethodName} {len W9 : Nat}
theorem vx_back {ws : List Cond} {rm : Room} {Pc : Array Value → State → Prop} {Qc : Array Value → State → Outcome → State → Prop} {XC : String → State → State → Prop} {mc ms : Nat} {free : Addr → Prop} {bytes : ByteArray} {maxL : Nat} {ret : Option FieldType}
    (hM : vx_Met l y ws rm Pc Qc XC mc ms free) (hblind : FrameBlind Pc) (hrc : rm.cells = mc) (hrs : rm.slots = ms)
    (hframes : rm.frames + 1 ≤ R.frames) (hlocals : W9 + (maxL + 11) + rm.locals ≤ R.locals)
    (hws : ∀ w ∈ ws, ∀ a' U, s.WarmedH U.vm → w.before a' U = true) (hcode : Cond.code y bytes maxL ret ∈ ws) (hinit : ∀ a' U, s.WarmedH U.vm → (Cond.initialized y.cls).before a' U = true) :
    vx_Back l R p e below s sargs y len W9 (PreOf R mc ms Pc) (PostOf Qc mc ms free) (vx_Post XC mc ms free) := by
  intro m meth c A g ig mk a X hg hsize hdg hW hn hp
  have h1 : (headSpec ws rm).pre.before a A.U = true := atoms_intro fun w hw => hws w hw _ _ X.warmed
  have h2 : (Cond.code y bytes maxL ret).before a A.U = true := hws _ hcode _ _ X.warmed
  have h3 : (Cond.initialized y.cls).before a A.U = true := hinit _ _ X.warmed
  have h4 : A.cells + (headSpec ws rm).room.cells ≤ R.cells := by rw [show (headSpec ws rm).room.cells = mc from hrc]; exact hp.1
  have h5 : A.slots + (headSpec ws rm).room.slots ≤ R.slots := by rw [show (headSpec ws rm).room.slots = ms from hrs]; exact hp.2.1
  have hPc : Pc a (A.U.calling g mk a) := hblind _ _ _ _ hp.2.2
  obtain ⟨U, Ls, c0, s0⟩ := A
  dsimp only [Pt.U, Pt.locs, Pt.cells, Pt.slots] at h1 h2 h3 h4 h5 X hn hPc ⊢
  obtain ⟨methY, cY, hmY, hcY, -, hlY, -, -, -, -⟩ := Cond.code_spec hn h2
  obtain ⟨kY, hkY, -⟩ := className_of_methodNamed hn
  have hinitY : kY.init = .initialized := Cond.initialized_spec (findClass_of_methodNamed hn) hkY h3
  have h : At U g.method c below := by rw [hg]; exact X.here
  have hlocals9 : W9 + (maxL + 11) + (headSpec ws rm).room.locals ≤ R.locals := hlocals
  have happ : (headSpec ws rm).appliesLoose y e.platform (U.calling g mk a) = true :=
    Spec.appliesLoose_calling (g := g) h hdg hn hkY hinitY
      (X.room_calling (g := g) (R' := (headSpec ws rm).room) hsize hmY hcY hframes (by rw [hlY]; omega) h4 h5) h1
  obtain ⟨mid, hmid⟩ := h.above
  have hfr : (U.setTop g).frames = (.java g :: mid) ++ below := by rw [State.frames_setTop' g h.top, hmid]; rfl
  obtain ⟨o, s₂, hsteps, -, hend, hq⟩ := Steps.callFree hM p X.admits X.cas X.clock (acts := []) hfr happ hPc trivial
  have hq' : vx_Q Qc XC mc ms free a (U.calling g mk a) o s₂ := hq
  rw [State.frames_setTop' g h.top] at hend
  obtain ⟨g₀, hg0⟩ := Option.isSome_iff_exists.mp h.top
  obtain ⟨r, hr⟩ := State.topJava?_eq_some.mp hg0
  have hr' : (({ U with heap := s₂.heap, slotsUsed := s₂.slotsUsed } : State).setVm s₂.vm).frames = .java g₀ :: r := hr
  rcases hq' with ⟨hqc, L, hfe, hL⟩ | ⟨q, rfl, E, ce, L, hx, hce, hcv, hcl, hW₂, hsm, hL⟩
  · obtain ⟨⟨v, rfl⟩, hW₂, e2, q2, q3, q4, q5, q6⟩ := id hfe
    have e3 : s₂ = ({ (U.calling g mk a).setFrames s₂.frames with heap := s₂.heap, slotsUsed := s₂.slotsUsed } : State).setVm s₂.vm := by
      have : s₂ = ({ s₂ with vm := (U.calling g mk a).vm } : State).setVm s₂.vm := rfl
      rw [e2] at this
      exact this
    obtain ⟨c₂, i₂, len₂, hc₂, hd₂, hf₂⟩ := hend
    have hW' : U.WarmedH s₂.vm := hW₂
    have hcc : c₂ = c := by
      have h1 : s₂.code? g.method = U.code? g.method := by
        rw [State.code?_eq, State.code?_eq, hW'.alike.method?]
      exact Option.some.inj (hc₂.symm.trans (h1.trans h.code))
    subst hcc
    have hlen : len₂ = len := by rw [hdg] at hd₂; cases hd₂; rfl
    subst hlen
    have hs₂ : s₂ = (({ U with heap := s₂.heap, slotsUsed := s₂.slotsUsed } : State).setVm s₂.vm).setTop { g with pc := g.pc + len₂, stack := v.toList ++ g.stack } := by
      refine e3.trans ?_
      rw [hf₂, State.calling_eq h.top, State.setFrames_setFrames, State.setTop_of_frames _ hr', hr]
      rfl
    have hsame : U.sameButNew ({ U with heap := s₂.heap, slotsUsed := s₂.slotsUsed } : State) L mc ms := by
      refine ⟨?_, q2, q3, q4, q5, q6⟩
      obtain ⟨t, ht, -⟩ := State.frames_cons hr
      show ({ U with heap := s₂.heap, slotsUsed := s₂.slotsUsed } : State) = { U.setFrames U.frames with heap := s₂.heap, slotsUsed := s₂.slotsUsed }
      rw [State.setFrames_self ht]
    subst hg
    refine Or.inl ⟨v, ⟨(({ U with heap := s₂.heap, slotsUsed := s₂.slotsUsed } : State).setVm s₂.vm), Ls ++ L, c0 + mc, s0 + ms⟩,
      ⟨X.admits, X.cas, X.clock, X.frames, X.room, X.hears, X.method, X.code, (X.here.setHeapUsed s₂.heap s₂.slotsUsed).setVm hW'.alike, X.tail, State.WarmedH.trans X.warmed hW', X.limits, X.bytes, X.same.trans (hsame.setVm s.vm)⟩,
      ⟨g, mk, s₂, L, rfl, rfl, hqc, rfl, hL, rfl, rfl⟩, ?_⟩
    show Steps p.tables e below _ ((({ U with heap := s₂.heap, slotsUsed := s₂.slotsUsed } : State).setVm s₂.vm).setTop { g with pc := g.pc + len₂, stack := v.toList ++ g.stack })
    rw [← hs₂]
    exact hsteps
  · obtain ⟨e2, q2, q3, q4, q5, q6⟩ := id hsm
    have e3 : s₂ = ({ (U.calling g mk a).setFrames s₂.frames with heap := s₂.heap, slotsUsed := s₂.slotsUsed } : State).setVm s₂.vm := by
      have : s₂ = ({ s₂ with vm := (U.calling g mk a).vm } : State).setVm s₂.vm := rfl
      rw [e2] at this
      exact this
    have hf₂ : s₂.frames = .throwing q :: .java g :: U.frames.tail := hend
    have hW' : U.WarmedH s₂.vm := hW₂
    have hs₂ : s₂ = ((({ U with heap := s₂.heap, slotsUsed := s₂.slotsUsed } : State).setVm s₂.vm).setTop g).pushFrame (.throwing q) := by
      refine e3.trans ?_
      rw [hf₂, State.calling_eq h.top, State.setFrames_setFrames, State.pushFrame, State.frames_setTop _ hr', State.setTop_of_frames _ hr', State.setFrames_setFrames, hr]
      rfl
    have hsame : U.sameButNew ({ U with heap := s₂.heap, slotsUsed := s₂.slotsUsed } : State) L mc ms := by
      refine ⟨?_, q2, q3, q4, q5, q6⟩
      obtain ⟨t, ht, -⟩ := State.frames_cons hr
      show ({ U with heap := s₂.heap, slotsUsed := s₂.slotsUsed } : State) = { U.setFrames U.frames with heap := s₂.heap, slotsUsed := s₂.slotsUsed }
      rw [State.setFrames_self ht]
    subst hg
    refine Or.inr ⟨q, ⟨(({ U with heap := s₂.heap, slotsUsed := s₂.slotsUsed } : State).setVm s₂.vm), Ls ++ L, c0 + mc, s0 + ms⟩,
      ⟨X.admits, X.cas, X.clock, X.frames, X.room, X.hears, X.method, X.code, (X.here.setHeapUsed s₂.heap s₂.slotsUsed).setVm hW'.alike, X.tail, State.WarmedH.trans X.warmed hW', X.limits, X.bytes, X.same.trans (hsame.setVm s.vm)⟩,
      ⟨g, mk, s₂, L, E, ce, rfl, rfl, hx, hce, hcv, hcl, rfl, hL, rfl, rfl⟩, ?_⟩
    show Steps p.tables e below _ (((({ U with heap := s₂.heap, slotsUsed := s₂.slotsUsed } : State).setVm s₂.vm).setTop g).pushFrame (.throwing q))
    rw [← hs₂]
    exact hsteps
end Payer
section Calls
variable {p : Program} {l : Launch} {e : Env} {R : Room} {s : State} {m : MethodId} {args : Array Value} {below : List Frame} {meth : Method} {c : Code} {T : State} {locs : List Loc} {cells slots : Nat}
theorem vx_callV (X : Stand p l e R s m args below meth c T locs cells slots) (hexec : p.tables.exec = Jvm.exec) {own C : String} {index : Nat} {y : MethodName} {bytes : ByteArray} {maxL : Nat} {ret : Option FieldType}
    (hown : s.vm.findClass own = some m.cls) (hlink : (Cond.methodLink own index y).before args s = true) (hinst : (Cond.instanceMethod y).before args s = true) (hsel : (Cond.selects C y y).before args s = true)
    (hcode : (Cond.code y bytes maxL ret).before args s = true) (hy : y.cls ≠ "java/lang/invoke/MethodHandle" ∧ y.cls ≠ "java/lang/invoke/VarHandle")
    {W9 : Nat} {Pre : Pt → Array Value → Prop} {Post : Pt → Array Value → Option Value → Pt → Prop} {PostX : Pt → Array Value → Addr → Pt → Prop} (hK : vx_Back l R p e below s args y 3 W9 Pre Post PostX)
    {b : Addr} {cellB : Cell} (hcell : T.heap[b]? = some cellB) (hobj : cellB.vm.isStatics = false) (hcls : s.vm.findClass C = some cellB.cls)
    {g : JFrame} (hg : g.method = m) (hsize : g.locals.size = c.maxLocals) {argsL rest : List Value} (hlen : ∀ sig, parseMethodDescriptor y.desc = some sig → argsL.length = sig.parameters.length)
    (hstack : g.stack = argsL.reverse ++ .ref b :: rest) (hW : 2 * g.monitorRoom + (rest.map fun v => v.category).sum ≤ W9) (hdg : decode c.code g.pc = .ok (.invokevirtual index, 3))
    (hpre : ∀ vm₁, s.WarmedH vm₁ → Pre ⟨T.setVm vm₁, locs, cells, slots⟩ (Value.ref b :: argsL).toArray) :
    (∃ (v : Option Value) (vm₁ : Vm) (B : Pt), s.WarmedH vm₁ ∧ Stand p l e R s m args below meth c B.U B.locs B.cells B.slots ∧ Post ⟨T.setVm vm₁, locs, cells, slots⟩ (Value.ref b :: argsL).toArray v B ∧
      ∀ target, Steps p.tables e below (B.U.setTop { g with pc := g.pc + 3, stack := v.toList ++ rest }) target → Steps p.tables e below (T.setTop g) target) ∨
    (∃ (q : Addr) (vm₁ : Vm) (B : Pt), s.WarmedH vm₁ ∧ Stand p l e R s m args below meth c B.U B.locs B.cells B.slots ∧ PostX ⟨T.setVm vm₁, locs, cells, slots⟩ (Value.ref b :: argsL).toArray q B ∧
      Steps p.tables e below (T.setTop g) ((B.U.setTop { g with stack := rest }).pushFrame (.throwing q))) := by
  obtain ⟨mk, methM, hnamed, hmethM, hstM, habM⟩ := Cond.instanceMethod_spec hinst
  obtain ⟨methM', cM, hmethM', -, -, -, -, -, -, hsigM⟩ := Cond.code_spec hnamed hcode
  cases hmethM.symm.trans hmethM'
  obtain ⟨c2, r2, m2, q1, q2, q3, q4, kP, hkP, hkPi⟩ := Cond.selects_spec hsel
  cases hcls.symm.trans q1
  cases (State.methodFound?_of_named hnamed hy).symm.trans q2
  cases hnamed.symm.trans q3
  have hselP : selectMethod e.platform s.vm cellB.cls mk = .method mk := by rw [Launch.admits_selectMethod X.admits]; exact q4
  obtain ⟨vm₁, X₁, hstep₁⟩ := X.invokevirtual hexec hown hlink hnamed hmethM hstM hkP hkPi hy (a := b) (cell := cellB) hcell
    (fun z h => by rw [h] at hobj; cases hobj) hselP hmethM habM hkP hkPi (g := g) hg (argsL := argsL) (rest := rest) (hlen _ hsigM) hstack hdg
  rcases hK m meth c ⟨T.setVm vm₁, locs, cells, slots⟩ { g with stack := rest } (.invokevirtual index) mk (Value.ref b :: argsL).toArray X₁ hg hsize hdg hW (X₁.named hnamed) (hpre vm₁ X₁.warmed) with ⟨v, B, X', hpost, hsteps⟩ | ⟨q, B, X', hpost, hsteps⟩
  · exact Or.inl ⟨v, vm₁, B, X₁.warmed, X', hpost, fun target h => hstep₁ _ fun acts => by rw [doInvoke_state]; exact hsteps.trans h⟩
  · exact Or.inr ⟨q, vm₁, B, X₁.warmed, X', hpost, hstep₁ _ fun acts => by rw [doInvoke_state]; exact hsteps⟩
theorem vx_callS (X : Stand p l e R s m args below meth c T locs cells slots) (hexec : p.tables.exec = Jvm.exec) {own : String} {index : Nat} {y : MethodName} {bytes : ByteArray} {maxL : Nat} {ret : Option FieldType}
    (hown : s.vm.findClass own = some m.cls) (hlink : (Cond.methodLink own index y).before args s = true) (hstat : (Cond.static y).before args s = true) (hinit : (Cond.initialized y.cls).before args s = true)
    (hcode : (Cond.code y bytes maxL ret).before args s = true) (hy : y.cls ≠ "java/lang/invoke/MethodHandle" ∧ y.cls ≠ "java/lang/invoke/VarHandle")
    {W9 : Nat} {Pre : Pt → Array Value → Prop} {Post : Pt → Array Value → Option Value → Pt → Prop} {PostX : Pt → Array Value → Addr → Pt → Prop} (hK : vx_Back l R p e below s args y 3 W9 Pre Post PostX)
    {g : JFrame} (hg : g.method = m) (hsize : g.locals.size = c.maxLocals) {argsL rest : List Value} (hlen : ∀ sig, parseMethodDescriptor y.desc = some sig → argsL.length = sig.parameters.length)
    (hstack : g.stack = argsL.reverse ++ rest) (hW : 2 * g.monitorRoom + (rest.map fun v => v.category).sum ≤ W9) (hdg : decode c.code g.pc = .ok (.invokestatic index, 3))
    (hpre : ∀ vm₁, s.WarmedH vm₁ → Pre ⟨T.setVm vm₁, locs, cells, slots⟩ argsL.toArray) :
    (∃ (v : Option Value) (vm₁ : Vm) (B : Pt), s.WarmedH vm₁ ∧ Stand p l e R s m args below meth c B.U B.locs B.cells B.slots ∧ Post ⟨T.setVm vm₁, locs, cells, slots⟩ argsL.toArray v B ∧
      ∀ target, Steps p.tables e below (B.U.setTop { g with pc := g.pc + 3, stack := v.toList ++ rest }) target → Steps p.tables e below (T.setTop g) target) ∨
    (∃ (q : Addr) (vm₁ : Vm) (B : Pt), s.WarmedH vm₁ ∧ Stand p l e R s m args below meth c B.U B.locs B.cells B.slots ∧ PostX ⟨T.setVm vm₁, locs, cells, slots⟩ argsL.toArray q B ∧
      Steps p.tables e below (T.setTop g) ((B.U.setTop { g with stack := rest }).pushFrame (.throwing q))) := by
  obtain ⟨mk, hnamed⟩ := Cond.code_named hcode
  obtain ⟨methM, cM, hmethM, -, -, -, -, -, -, hsigM⟩ := Cond.code_spec hnamed hcode
  have hstatic : methM.isStatic = true := Cond.static_spec hnamed hmethM hstat
  obtain ⟨kP, hkP, -⟩ := className_of_methodNamed hnamed
  have hinitP : kP.init = .initialized := Cond.initialized_spec (findClass_of_methodNamed hnamed) hkP hinit
  obtain ⟨vm₁, X₁, hstep₁⟩ := X.invokestatic hexec hown hlink hnamed hmethM hstatic hkP hinitP hy (g := g) hg (argsL := argsL) (rest := rest) (hlen _ hsigM) hstack hdg
  rcases hK m meth c ⟨T.setVm vm₁, locs, cells, slots⟩ { g with stack := rest } (.invokestatic index) mk argsL.toArray X₁ hg hsize hdg hW (X₁.named hnamed) (hpre vm₁ X₁.warmed) with ⟨v, B, X', hpost, hsteps⟩ | ⟨q, B, X', hpost, hsteps⟩
  · exact Or.inl ⟨v, vm₁, B, X₁.warmed, X', hpost, fun target h => hstep₁ _ fun acts => by rw [doInvoke_state]; exact hsteps.trans h⟩
  · exact Or.inr ⟨q, vm₁, B, X₁.warmed, X', hpost, hstep₁ _ fun acts => by rw [doInvoke_state]; exact hsteps⟩
end Calls
theorem vx_cls {s : State} {T : State} {vm₁ : Vm} {E : String} {k : ClassId} (hW : s.WarmedH vm₁) (h : (T.setVm vm₁).vm.findClass E = some k) : s.vm.findClass E = some k := by
  have h1 : vm₁.findClass E = some k := h
  rw [hW.alike.findClass] at h1
  exact h1
/-- the method's frame g, with q thrown over it -/
def vx_W (p : Program) (l : Launch) (e : Env) (R : Room) (s : State) (m : MethodId) (args : Array Value) (below : List Frame) (meth : Method) (c : Code) (H : Heap) (locs : List Loc) (cells slots : Nat) (Q : State → Prop) (g : JFrame) (q : Addr) : Prop :=
  ∀ T : State, T.heap = H → Stand p l e R s m args below meth c T locs cells slots → ∃ t, Steps p.tables e below ((T.setTop g).pushFrame (.throwing q)) t ∧ Q t
def vx_Run (p : Program) (l : Launch) (e : Env) (R : Room) (s : State) (m : MethodId) (args : Array Value) (below : List Frame) (meth : Method) (c : Code) (H : Heap) (locs : List Loc) (cells slots mc ms : Nat) (g : JFrame) (rest : List Value) (Qa : State → Outcome → State → Prop) (XC : String → State → State → Prop) (free : Addr → Prop) : Prop :=
  ∀ T : State, T.heap = H → Stand p l e R s m args below meth c T locs cells slots →
    (∃ (v : Option Value) (st₀ t T' : State) (L : List Loc), st₀.heap = H ∧ Stand p l e R s m args below meth c T' (locs ++ L) (cells + mc) (slots + ms) ∧ (∀ q ∈ L, free q.base) ∧ T'.heap = t.heap ∧ T'.vm = t.vm ∧ Qa st₀ (.returned v) t ∧
      Goes p e below T g T' { g with pc := g.pc + 3, stack := v.toList ++ rest }) ∨
    (∃ (q : Addr) (st₀ t T' : State) (L : List Loc) (E : String) (ce : Cell), st₀.heap = H ∧ Stand p l e R s m args below meth c T' (locs ++ L) (cells + mc) (slots + ms) ∧ (∀ z ∈ L, free z.base) ∧ T'.heap = t.heap ∧ T'.vm = t.vm ∧ XC E st₀ t ∧ t.heap[q]? = some ce ∧ ce.vm = .none ∧ s.vm.findClass E = some ce.cls ∧
      Steps p.tables e below (T.setTop g) ((T'.setTop { g with stack := rest }).pushFrame (.throwing q)))
def vx_X {S : Type} (px : S → Prop) (B : String → S → State → Prop) (A : Nat → Prop) : String → State → State → Prop := fun E st t => ∃ u : S, px u ∧ B E u t ∧ va_F A st t
section Runs
variable {p : Program} {l : Launch} {e : Env} {R : Room} {s : State} {m : MethodId} {args : Array Value} {below : List Frame} {meth : Method} {c : Code} {H : Heap} {locs : List Loc} {cells slots : Nat}
variable {y : MethodName} {bytes cc : ByteArray} {maxL nL mc ms n index : Nat} {ret : Option FieldType} {ws : List Cond} {rm : Room} {Pc : Array Value → State → Prop} {Qc : Array Value → State → Outcome → State → Prop} {XC : String → State → State → Prop} {free : Addr → Prop} {Ts : List Cond} {own C : String} {b : Addr} {As rest : List Value} {g : JFrame}
theorem vx_callBack (cb : CallB R s args own index y bytes maxL ret ws rm mc ms n) (hM : vx_Met l y ws rm Pc Qc XC mc ms free) (hbl : FrameBlind Pc) : vx_Back l R p e below s args y 3 8 (PreOf R mc ms Pc) (PostOf Qc mc ms free) (vx_Post XC mc ms free) := by
  obtain ⟨hrc, hrs, hfr, hlo, hws, hcw, -, hini, -⟩ := cb
  exact vx_back (bytes := bytes) (maxL := maxL) (ret := ret) hM hbl hrc hrs hfr hlo hws hcw (fun a' U hW => word_at hW (Or.inl (by first | rfl | simp [Cond.onTables, Cond.keeps, Cond.steady])) hini)
theorem vx_runV (S : CallFix p m c cc nL s args Ts own) (hM : vx_Met l y ws rm Pc Qc XC mc ms free) (cw : CallW R s args own C index y bytes maxL ret ws rm mc ms n) (hp : PreV s H C b Pc As)
    (hg : g.method = m) (hn : As.length = n) (hsize : g.locals.size = nL) (hstack : g.stack = As.reverse ++ .ref b :: rest) (hW : 2 * g.monitorRoom + (rest.map fun v => v.category).sum ≤ 8) (hdg : decode cc g.pc = .ok (.invokevirtual index, 3)) (hf : cells + mc ≤ R.cells ∧ slots + ms ≤ R.slots) :
    vx_Run p l e R s m args below meth c H locs cells slots mc ms g rest (Qc (Value.ref b :: As).toArray) XC free := by
  have hK : vx_Back l R p e below s args y 3 8 (PreOf R mc ms Pc) (PostOf Qc mc ms free) (vx_Post XC mc ms free) := vx_callBack cw.1 hM hp.1
  obtain ⟨⟨-, -, -, -, -, -, hcode, -, hy, hlen, hl⟩, hin, hse⟩ := cw
  obtain ⟨hx, hb, hml, ho, -⟩ := S
  obtain ⟨-, ⟨cellB, hcB, hoB, hclB⟩, hPc⟩ := hp
  intro T hT X
  rcases vx_callV X hx (C := C) (bytes := bytes) (maxL := maxL) (ret := ret) ho hl hin hse hcode hy hK (by rw [hT]; exact hcB) hoB hclB hg (hsize.trans hml.symm) (argsL := As) (rest := rest) (fun sig h => hn.trans (hlen sig h)) hstack hW (by rw [hb]; exact hdg)
    (fun vm₁ hW₁ => ⟨hf.1, hf.2, hPc (T.setVm vm₁) hT hW₁⟩) with ⟨v, vm₁, ⟨U', l2, c2, s2⟩, hW₁, X', ⟨g', mk, t, L, e1, e2, hq, h1, hL, h2, h3⟩, st⟩ | ⟨q, vm₁, ⟨U', l2, c2, s2⟩, hW₁, X', ⟨g', mk, t, L, E, ce, e1, e2, hq, hce, hcv, hcl, h1, hL, h2, h3⟩, st⟩
  · dsimp only [Pt.U, Pt.locs, Pt.cells, Pt.slots] at X' e1 e2 h1 h2 h3 st
    subst h1; subst h2; subst h3
    exact Or.inl ⟨v, (T.setVm vm₁).calling g' mk (Value.ref b :: As).toArray, t, U', L, hT, X', hL, e1, e2, hq, st⟩
  · dsimp only [Pt.U, Pt.locs, Pt.cells, Pt.slots] at X' e1 e2 h1 h2 h3 st hcl
    subst h1; subst h2; subst h3
    exact Or.inr ⟨q, (T.setVm vm₁).calling g' mk (Value.ref b :: As).toArray, t, U', L, E, ce, hT, X', hL, e1, e2, hq, hce, hcv, vx_cls hW₁ hcl, st⟩
theorem vx_runS (S : CallFix p m c cc nL s args Ts own) (hM : vx_Met l y ws rm Pc Qc XC mc ms free) (cw : CallB R s args own index y bytes maxL ret ws rm mc ms n ∧ (Cond.static y).before args s = true) (hp : PreS s H Pc As)
    (hg : g.method = m) (hn : As.length = n) (hsize : g.locals.size = nL) (hstack : g.stack = As.reverse ++ rest) (hW : 2 * g.monitorRoom + (rest.map fun v => v.category).sum ≤ 8) (hdg : decode cc g.pc = .ok (.invokestatic index, 3)) (hf : cells + mc ≤ R.cells ∧ slots + ms ≤ R.slots) :
    vx_Run p l e R s m args below meth c H locs cells slots mc ms g rest (Qc As.toArray) XC free := by
  have hK : vx_Back l R p e below s args y 3 8 (PreOf R mc ms Pc) (PostOf Qc mc ms free) (vx_Post XC mc ms free) := vx_callBack cw.1 hM hp.1
  obtain ⟨⟨-, -, -, -, -, -, hcode, hini, hy, hlen, hl⟩, hstt⟩ := cw
  obtain ⟨hx, hb, hml, ho, -⟩ := S
  intro T hT X
  rcases vx_callS X hx (bytes := bytes) (maxL := maxL) (ret := ret) ho hl hstt hini hcode hy hK hg (hsize.trans hml.symm) (argsL := As) (rest := rest) (fun sig h => hn.trans (hlen sig h)) hstack hW (by rw [hb]; exact hdg)
    (fun vm₁ hW₁ => ⟨hf.1, hf.2, hp.2 (T.setVm vm₁) hT hW₁⟩) with ⟨v, vm₁, ⟨U', l2, c2, s2⟩, hW₁, X', ⟨g', mk, t, L, e1, e2, hq, h1, hL, h2, h3⟩, st⟩ | ⟨q, vm₁, ⟨U', l2, c2, s2⟩, hW₁, X', ⟨g', mk, t, L, E, ce, e1, e2, hq, hce, hcv, hcl, h1, hL, h2, h3⟩, st⟩
  · dsimp only [Pt.U, Pt.locs, Pt.cells, Pt.slots] at X' e1 e2 h1 h2 h3 st
    subst h1; subst h2; subst h3
    exact Or.inl ⟨v, (T.setVm vm₁).calling g' mk As.toArray, t, U', L, hT, X', hL, e1, e2, hq, st⟩
  · dsimp only [Pt.U, Pt.locs, Pt.cells, Pt.slots] at X' e1 e2 h1 h2 h3 st hcl
    subst h1; subst h2; subst h3
    exact Or.inr ⟨q, (T.setVm vm₁).calling g' mk As.toArray, t, U', L, E, ce, hT, X', hL, e1, e2, hq, hce, hcv, vx_cls hW₁ hcl, st⟩
end Runs
section Rows
variable {p : Program} {l : Launch} {e : Env} {R : Room} {s : State} {m : MethodId} {args : Array Value} {below : List Frame} {meth : Method} {c : Code} {H : Heap} {locs : List Loc} {cells slots : Nat} {Q : State → Prop}
variable {mc ms : Nat} {free : Addr → Prop} {A0 A1 : Nat → Prop} {H0 : Heap} {a : Array Value} {pc : Nat} {ls : Array Slot} {st0 rest : List Value}
theorem vx_keep {st₀ t T' : State} {L : List Loc} (h0 : st₀.heap = H) (e1 : T'.heap = t.heap) (hS : va_S A0 H0 H locs) (hA : ∀ q, q < H.size → A1 q → A0 q) (hf : ∀ q, free q → A0 q) (hL : ∀ q ∈ L, free q.base) (hF : va_F A1 st₀ t) :
    H.size ≤ T'.heap.size ∧ (∀ q : Nat, q < H.size → ¬ A1 q → T'.heap[q]? = H[q]?) ∧ va_S A0 H0 T'.heap (locs ++ L) := by
  obtain ⟨hz, hk⟩ := hF
  rw [h0] at hz hk
  exact ⟨by rw [e1]; exact hz, fun q h1 h2 => by rw [e1]; exact hk q h1 h2,
    ⟨Nat.le_trans hS.1 (by rw [e1]; exact hz), fun q h1 h2 => by rw [e1, hk q (Nat.lt_of_lt_of_le h1 hS.1) (fun z => h2 (hA q (Nat.lt_of_lt_of_le h1 hS.1) z))]; exact hS.2.1 q h1 h2, fun q hq => by
      rcases List.mem_append.mp hq with h | h
      · exact hS.2.2 q h
      · exact hf _ (hL q h)⟩⟩
theorem vx_calli {S SX : Type} {post : Int32 → S → Prop} {px : SX → Prop} {B : S → State → Prop} {BX : String → SX → State → Prop} {AX : Nat → Prop} (hr : vx_Run p l e R s m args below meth c H locs cells slots mc ms (F0 m pc ls st0) rest (va_Qi post B A1 a) (vx_X px BX AX) free) (hS : va_S A0 H0 H locs) (hA : ∀ q, q < H.size → A1 q → A0 q) (hf : ∀ q, free q → A0 q) (hAX : ∀ q, q < H.size → AX q → A0 q)
    (kx : ∀ (E : String) (ce : Cell) (q9 : Addr) (u : SX) (t : State) (H1 : Heap) (locs1 : List Loc), t.heap = H1 → s.vm.Alike t.vm → px u → BX E u t → H.size ≤ H1.size → (∀ q : Nat, q < H.size → ¬ AX q → H1[q]? = H[q]?) → va_S A0 H0 H1 locs1 → H1[q9]? = some ce → ce.vm = .none → s.vm.findClass E = some ce.cls → vx_W p l e R s m args below meth c H1 locs1 (cells + mc) (slots + ms) Q (F0 m pc ls rest) q9)
    (kk : ∀ (r : Int32) (u : S) (t : State) (H1 : Heap) (locs1 : List Loc), t.heap = H1 → s.vm.Alike t.vm → post r u → B u t → H.size ≤ H1.size → (∀ q : Nat, q < H.size → ¬ A1 q → H1[q]? = H[q]?) → va_S A0 H0 H1 locs1 → W p l e R s m args below meth c H1 locs1 (cells + mc) (slots + ms) Q (F0 m (pc + 3) ls (.int r :: rest))) : W p l e R s m args below meth c H locs cells slots Q (F0 m pc ls st0) := by
  intro T hT X
  rcases hr T hT X with ⟨v, st₀, t, T', L, h0, X', hL, e1, e2, ⟨⟨r, u, hv, hp, hb⟩, hF⟩, st⟩ | ⟨q, st₀, t, T', L, E, ce, h0, X', hL, e1, e2, ⟨u, hp, hb, hF⟩, hce, hcv, hcl, st⟩
  · cases hv
    obtain ⟨k1, k2, k3⟩ := vx_keep h0 e1 hS hA hf hL hF
    obtain ⟨t2, a1, b1⟩ := kk r u t T'.heap (locs ++ L) e1.symm (by rw [← e2]; exact X'.warmed.alike) hp hb k1 k2 k3 T' rfl X'
    exact ⟨t2, st t2 a1, b1⟩
  · obtain ⟨k1, k2, k3⟩ := vx_keep h0 e1 hS hAX hf hL hF
    obtain ⟨t2, a1, b1⟩ := kx E ce q u t T'.heap (locs ++ L) e1.symm (by rw [← e2]; exact X'.warmed.alike) hp hb k1 k2 k3 (by rw [e1]; exact hce) hcv hcl T' rfl X'
    exact ⟨t2, st.trans a1, b1⟩
theorem vx_calll {S SX : Type} {post : Int64 → S → Prop} {px : SX → Prop} {B : S → State → Prop} {BX : String → SX → State → Prop} {AX : Nat → Prop} (hr : vx_Run p l e R s m args below meth c H locs cells slots mc ms (F0 m pc ls st0) rest (va_Ql post B A1 a) (vx_X px BX AX) free) (hS : va_S A0 H0 H locs) (hA : ∀ q, q < H.size → A1 q → A0 q) (hf : ∀ q, free q → A0 q) (hAX : ∀ q, q < H.size → AX q → A0 q)
    (kx : ∀ (E : String) (ce : Cell) (q9 : Addr) (u : SX) (t : State) (H1 : Heap) (locs1 : List Loc), t.heap = H1 → s.vm.Alike t.vm → px u → BX E u t → H.size ≤ H1.size → (∀ q : Nat, q < H.size → ¬ AX q → H1[q]? = H[q]?) → va_S A0 H0 H1 locs1 → H1[q9]? = some ce → ce.vm = .none → s.vm.findClass E = some ce.cls → vx_W p l e R s m args below meth c H1 locs1 (cells + mc) (slots + ms) Q (F0 m pc ls rest) q9)
    (kk : ∀ (r : Int64) (u : S) (t : State) (H1 : Heap) (locs1 : List Loc), t.heap = H1 → s.vm.Alike t.vm → post r u → B u t → H.size ≤ H1.size → (∀ q : Nat, q < H.size → ¬ A1 q → H1[q]? = H[q]?) → va_S A0 H0 H1 locs1 → W p l e R s m args below meth c H1 locs1 (cells + mc) (slots + ms) Q (F0 m (pc + 3) ls (.long r :: rest))) : W p l e R s m args below meth c H locs cells slots Q (F0 m pc ls st0) := by
  intro T hT X
  rcases hr T hT X with ⟨v, st₀, t, T', L, h0, X', hL, e1, e2, ⟨⟨r, u, hv, hp, hb⟩, hF⟩, st⟩ | ⟨q, st₀, t, T', L, E, ce, h0, X', hL, e1, e2, ⟨u, hp, hb, hF⟩, hce, hcv, hcl, st⟩
  · cases hv
    obtain ⟨k1, k2, k3⟩ := vx_keep h0 e1 hS hA hf hL hF
    obtain ⟨t2, a1, b1⟩ := kk r u t T'.heap (locs ++ L) e1.symm (by rw [← e2]; exact X'.warmed.alike) hp hb k1 k2 k3 T' rfl X'
    exact ⟨t2, st t2 a1, b1⟩
  · obtain ⟨k1, k2, k3⟩ := vx_keep h0 e1 hS hAX hf hL hF
    obtain ⟨t2, a1, b1⟩ := kx E ce q u t T'.heap (locs ++ L) e1.symm (by rw [← e2]; exact X'.warmed.alike) hp hb k1 k2 k3 (by rw [e1]; exact hce) hcv hcl T' rfl X'
    exact ⟨t2, st.trans a1, b1⟩
theorem vx_callf {S SX : Type} {post : UInt32 → S → Prop} {px : SX → Prop} {B : S → State → Prop} {BX : String → SX → State → Prop} {AX : Nat → Prop} (hr : vx_Run p l e R s m args below meth c H locs cells slots mc ms (F0 m pc ls st0) rest (va_Qf post B A1 a) (vx_X px BX AX) free) (hS : va_S A0 H0 H locs) (hA : ∀ q, q < H.size → A1 q → A0 q) (hf : ∀ q, free q → A0 q) (hAX : ∀ q, q < H.size → AX q → A0 q)
    (kx : ∀ (E : String) (ce : Cell) (q9 : Addr) (u : SX) (t : State) (H1 : Heap) (locs1 : List Loc), t.heap = H1 → s.vm.Alike t.vm → px u → BX E u t → H.size ≤ H1.size → (∀ q : Nat, q < H.size → ¬ AX q → H1[q]? = H[q]?) → va_S A0 H0 H1 locs1 → H1[q9]? = some ce → ce.vm = .none → s.vm.findClass E = some ce.cls → vx_W p l e R s m args below meth c H1 locs1 (cells + mc) (slots + ms) Q (F0 m pc ls rest) q9)
    (kk : ∀ (r : UInt32) (u : S) (t : State) (H1 : Heap) (locs1 : List Loc), t.heap = H1 → s.vm.Alike t.vm → post r u → B u t → H.size ≤ H1.size → (∀ q : Nat, q < H.size → ¬ A1 q → H1[q]? = H[q]?) → va_S A0 H0 H1 locs1 → W p l e R s m args below meth c H1 locs1 (cells + mc) (slots + ms) Q (F0 m (pc + 3) ls (.float r :: rest))) : W p l e R s m args below meth c H locs cells slots Q (F0 m pc ls st0) := by
  intro T hT X
  rcases hr T hT X with ⟨v, st₀, t, T', L, h0, X', hL, e1, e2, ⟨⟨r, u, hv, hp, hb⟩, hF⟩, st⟩ | ⟨q, st₀, t, T', L, E, ce, h0, X', hL, e1, e2, ⟨u, hp, hb, hF⟩, hce, hcv, hcl, st⟩
  · cases hv
    obtain ⟨k1, k2, k3⟩ := vx_keep h0 e1 hS hA hf hL hF
    obtain ⟨t2, a1, b1⟩ := kk r u t T'.heap (locs ++ L) e1.symm (by rw [← e2]; exact X'.warmed.alike) hp hb k1 k2 k3 T' rfl X'
    exact ⟨t2, st t2 a1, b1⟩
  · obtain ⟨k1, k2, k3⟩ := vx_keep h0 e1 hS hAX hf hL hF
    obtain ⟨t2, a1, b1⟩ := kx E ce q u t T'.heap (locs ++ L) e1.symm (by rw [← e2]; exact X'.warmed.alike) hp hb k1 k2 k3 (by rw [e1]; exact hce) hcv hcl T' rfl X'
    exact ⟨t2, st.trans a1, b1⟩
theorem vx_calld {S SX : Type} {post : UInt64 → S → Prop} {px : SX → Prop} {B : S → State → Prop} {BX : String → SX → State → Prop} {AX : Nat → Prop} (hr : vx_Run p l e R s m args below meth c H locs cells slots mc ms (F0 m pc ls st0) rest (va_Qd post B A1 a) (vx_X px BX AX) free) (hS : va_S A0 H0 H locs) (hA : ∀ q, q < H.size → A1 q → A0 q) (hf : ∀ q, free q → A0 q) (hAX : ∀ q, q < H.size → AX q → A0 q)
    (kx : ∀ (E : String) (ce : Cell) (q9 : Addr) (u : SX) (t : State) (H1 : Heap) (locs1 : List Loc), t.heap = H1 → s.vm.Alike t.vm → px u → BX E u t → H.size ≤ H1.size → (∀ q : Nat, q < H.size → ¬ AX q → H1[q]? = H[q]?) → va_S A0 H0 H1 locs1 → H1[q9]? = some ce → ce.vm = .none → s.vm.findClass E = some ce.cls → vx_W p l e R s m args below meth c H1 locs1 (cells + mc) (slots + ms) Q (F0 m pc ls rest) q9)
    (kk : ∀ (r : UInt64) (u : S) (t : State) (H1 : Heap) (locs1 : List Loc), t.heap = H1 → s.vm.Alike t.vm → post r u → B u t → H.size ≤ H1.size → (∀ q : Nat, q < H.size → ¬ A1 q → H1[q]? = H[q]?) → va_S A0 H0 H1 locs1 → W p l e R s m args below meth c H1 locs1 (cells + mc) (slots + ms) Q (F0 m (pc + 3) ls (.double r :: rest))) : W p l e R s m args below meth c H locs cells slots Q (F0 m pc ls st0) := by
  intro T hT X
  rcases hr T hT X with ⟨v, st₀, t, T', L, h0, X', hL, e1, e2, ⟨⟨r, u, hv, hp, hb⟩, hF⟩, st⟩ | ⟨q, st₀, t, T', L, E, ce, h0, X', hL, e1, e2, ⟨u, hp, hb, hF⟩, hce, hcv, hcl, st⟩
  · cases hv
    obtain ⟨k1, k2, k3⟩ := vx_keep h0 e1 hS hA hf hL hF
    obtain ⟨t2, a1, b1⟩ := kk r u t T'.heap (locs ++ L) e1.symm (by rw [← e2]; exact X'.warmed.alike) hp hb k1 k2 k3 T' rfl X'
    exact ⟨t2, st t2 a1, b1⟩
  · obtain ⟨k1, k2, k3⟩ := vx_keep h0 e1 hS hAX hf hL hF
    obtain ⟨t2, a1, b1⟩ := kx E ce q u t T'.heap (locs ++ L) e1.symm (by rw [← e2]; exact X'.warmed.alike) hp hb k1 k2 k3 (by rw [e1]; exact hce) hcv hcl T' rfl X'
    exact ⟨t2, st.trans a1, b1⟩
theorem vx_callv {S SX : Type} {post : S → Prop} {px : SX → Prop} {B : S → State → Prop} {BX : String → SX → State → Prop} {AX : Nat → Prop} (hr : vx_Run p l e R s m args below meth c H locs cells slots mc ms (F0 m pc ls st0) rest (va_Qv post B A1 a) (vx_X px BX AX) free) (hS : va_S A0 H0 H locs) (hA : ∀ q, q < H.size → A1 q → A0 q) (hf : ∀ q, free q → A0 q) (hAX : ∀ q, q < H.size → AX q → A0 q)
    (kx : ∀ (E : String) (ce : Cell) (q9 : Addr) (u : SX) (t : State) (H1 : Heap) (locs1 : List Loc), t.heap = H1 → s.vm.Alike t.vm → px u → BX E u t → H.size ≤ H1.size → (∀ q : Nat, q < H.size → ¬ AX q → H1[q]? = H[q]?) → va_S A0 H0 H1 locs1 → H1[q9]? = some ce → ce.vm = .none → s.vm.findClass E = some ce.cls → vx_W p l e R s m args below meth c H1 locs1 (cells + mc) (slots + ms) Q (F0 m pc ls rest) q9)
    (kk : ∀ (u : S) (t : State) (H1 : Heap) (locs1 : List Loc), t.heap = H1 → s.vm.Alike t.vm → post u → B u t → H.size ≤ H1.size → (∀ q : Nat, q < H.size → ¬ A1 q → H1[q]? = H[q]?) → va_S A0 H0 H1 locs1 → W p l e R s m args below meth c H1 locs1 (cells + mc) (slots + ms) Q (F0 m (pc + 3) ls (rest))) : W p l e R s m args below meth c H locs cells slots Q (F0 m pc ls st0) := by
  intro T hT X
  rcases hr T hT X with ⟨v, st₀, t, T', L, h0, X', hL, e1, e2, ⟨⟨u, hv, hp, hb⟩, hF⟩, st⟩ | ⟨q, st₀, t, T', L, E, ce, h0, X', hL, e1, e2, ⟨u, hp, hb, hF⟩, hce, hcv, hcl, st⟩
  · cases hv
    obtain ⟨k1, k2, k3⟩ := vx_keep h0 e1 hS hA hf hL hF
    obtain ⟨t2, a1, b1⟩ := kk u t T'.heap (locs ++ L) e1.symm (by rw [← e2]; exact X'.warmed.alike) hp hb k1 k2 k3 T' rfl X'
    exact ⟨t2, st t2 a1, b1⟩
  · obtain ⟨k1, k2, k3⟩ := vx_keep h0 e1 hS hAX hf hL hF
    obtain ⟨t2, a1, b1⟩ := kx E ce q u t T'.heap (locs ++ L) e1.symm (by rw [← e2]; exact X'.warmed.alike) hp hb k1 k2 k3 (by rw [e1]; exact hce) hcv hcl T' rfl X'
    exact ⟨t2, st.trans a1, b1⟩
/-- caught by the row x of this method's table; the rows ahead don't take it -/
theorem vx_catch {own name : String} {E : String} {ce : Cell} {q : Addr} (hown : s.vm.findClass own = some m.cls) (pre : List ExceptionTableEntry) (x : ExceptionTableEntry) (suf : List ExceptionTableEntry) (hsplit : c.exceptionTable.toList = pre ++ x :: suf)
    (hpass : ∀ z ∈ pre, covers z pc = false ∨ (z.catchType ≠ 0 ∧ ∃ nm : String, (Cond.classLink own z.catchType nm).before args s = true ∧ va_Nc E nm s)) (hx : covers x pc = true) (h0 : x.catchType ≠ 0)
    (hlink : (Cond.classLink own x.catchType name).before args s = true) (hcast : (Cond.castable E name).before args s = true) (hcell : H[q]? = some ce) (hv : ce.vm = .none) (hcl : s.vm.findClass E = some ce.cls)
    (kk : W p l e R s m args below meth c H locs cells slots Q (F0 m x.handlerPc ls [.ref q])) : vx_W p l e R s m args below meth c H locs cells slots Q (F0 m pc ls rest) q := by
  intro T hT X
  have hpl : e.platform.magicAccessors = ({} : Platform).magicAccessors := by rw [X.admits.platform]
  obtain ⟨c3, c4, hc3, hc4, hasg⟩ := Cond.castable_spec hcast
  cases Option.some.inj (hc3.symm.trans hcl)
  obtain ⟨c5, hc5, hcl5⟩ := Cond.classLink_spec hown hlink e.platform hpl
  cases Option.some.inj (hc4.symm.trans hc5)
  obtain ⟨vm', X', st⟩ := X.thenCaughtThrough q (g := F0 m pc ls rest) rfl (Steps.refl _) (by rw [hT]; exact hcell) (by rw [hv]; rfl) (by obtain ⟨k9, h9, -⟩ := Vm.findClass_spec hcl; exact ⟨k9, h9⟩) pre x suf hsplit
    (fun z hz => by
      rcases hpass z hz with h | ⟨hz0, nm, hl1, hn1⟩
      · exact Or.inl h
      · obtain ⟨c6, hc6, hcl6⟩ := Cond.classLink_spec hown hl1 e.platform hpl
        obtain ⟨a8, b8, h1, h2, h3⟩ := hn1
        cases Option.some.inj (h1.symm.trans hcl)
        cases Option.some.inj (h2.symm.trans hc6)
        exact Or.inr ⟨hz0, _, hcl6, h3⟩) hx (Or.inr ⟨h0, c4, hcl5, hasg⟩)
  obtain ⟨t, a1, b1⟩ := kk (T.setVm vm') hT X'
  exact ⟨t, st.trans a1, b1⟩
end Rows
section Ends
variable {p : Program} {l : Launch} {e : Env} {R : Room} {s : State} {m : MethodId} {args : Array Value} {below : List Frame} {meth : Method} {c : Code} {H : Heap} {locs : List Loc} {cells slots : Nat} {Q : State → Prop}
variable {mc ms : Nat} {free : Addr → Prop} {A0 A1 : Nat → Prop} {H0 : Heap} {a : Array Value} {ls : Array Slot} {st0 rest : List Value}
variable {Qc : Array Value → State → Outcome → State → Prop} {XC : String → State → State → Prop}
/-- what a body that may throw owes at its end -/
def vx_MQ (below : List Frame) (Qc : Array Value → State → Outcome → State → Prop) (XC : String → State → State → Prop) (a : Array Value) (s : State) (mc ms : Nat) (free : Addr → Prop) : State → Prop := fun t =>
  ∃ o, t.status = .running ∧ Ended t below o ∧ vx_Q Qc XC mc ms free a s o t
theorem vx_ret {g : JFrame} {mc ms : Nat} (k : W p l e R s m args below meth c H locs cells slots (MQ below Qc args s mc ms free) g) : W p l e R s m args below meth c H locs cells slots (vx_MQ below Qc XC args s mc ms free) g := by
  intro T hT X
  obtain ⟨t, a1, o, b1, b2, b3, b4⟩ := k T hT X
  exact ⟨t, a1, o, b1, b2, Or.inl ⟨b3, b4⟩⟩
/-- not caught here: it goes on to the caller -/
theorem vx_widen {g : JFrame} {q : Addr} {k n : Nat} (h1 : cells ≤ k) (h2 : slots ≤ n) (kk : vx_W p l e R s m args below meth c H locs k n Q g q) : vx_W p l e R s m args below meth c H locs cells slots Q g q := fun T hT X => kk T hT (stand_widen X h1 h2)
theorem vx_out {pc : Nat} {E : String} {ce : Cell} {q : Addr} {mc ms : Nat} (hout : ∀ x ∈ c.exceptionTable.toList, covers x pc = false) (hlocks : meth.locks = false) (hcell : H[q]? = some ce) (hv : ce.vm = .none) (hcl : s.vm.findClass E = some ce.cls)
    (hx : ∀ t : State, t.heap = H → s.vm.Alike t.vm → XC E s t) (hf : ∀ z ∈ locs, free z.base) (hc : cells ≤ mc) (hs : slots ≤ ms) :
    vx_W p l e R s m args below meth c H locs cells slots (vx_MQ below Qc XC args s mc ms free) (F0 m pc ls rest) q := by
  intro T hT X
  obtain ⟨st1, hrun, hend, hW, hsm⟩ := X.leaveThrown q (g := F0 m pc ls rest) rfl rfl rfl hout hlocks
  have hcell9 : (T.setFrames (.throwing q :: below)).heap[q]? = some ce := by
    show T.heap[q]? = some ce
    rw [hT]; exact hcell
  exact ⟨_, st1, .threw q, hrun, hend, Or.inr ⟨q, rfl, E, ce, locs, hx _ hT hW.alike, hcell9, hv, hcl, hW, hsm.mono hc hs, hf⟩⟩
theorem vx_frame {U : State} {k n : Nat} (h : s.sameButNew ({ U with vm := s.vm } : State) locs k n) : s.heap.size ≤ U.heap.size ∧ ∀ q : Nat, q < s.heap.size → (∀ z ∈ locs, z.base ≠ q) → U.heap[q]? = s.heap[q]? := by
  obtain ⟨-, h2, -, -, -, h6⟩ := h
  refine ⟨h2, fun q hq hz => ?_⟩
  obtain ⟨c9, e1, e2, e3, e4⟩ := h6 q _ (Array.getElem?_eq_getElem hq)
  have hs : c9.slots = (s.heap[q]).slots := Array.ext_getElem? fun i => e4 i fun hm => hz _ hm rfl
  have h9 : c9 = s.heap[q] := by
    rw [hs] at e2
    exact e2
  have e5 : U.heap[q]? = some c9 := e1
  rw [e5, h9, Array.getElem?_eq_getElem hq]
/-- the words of a throw but the four that speak of the heap -/
def vx_no (w : Cond) : Bool := decide (w ≠ .isRef (.static Bundle.tN "UNASSIGNED_STACK" Bundle.steD)) && decide (w ≠ .isRef (.static Bundle.tN "SUPPRESSED_SENTINEL" Bundle.listD)) && decide (w ≠ .laysStatic Bundle.tN "UNASSIGNED_STACK" Bundle.steD) && decide (w ≠ .laysStatic Bundle.tN "SUPPRESSED_SENTINEL" Bundle.listD)
def vx_at0 (own : String) (ic : Nat) (X : String) (names : List String) : List Cond := (Bundle.ownAtoms0 own ic X names).filter vx_no
def vx_atS (own : String) (ic : Nat) (X : String) (names : List String) : List Cond := (Bundle.ownAtoms own ic X names).filter vx_no
/-- a word that the tables alone decide, or a good one -/
def vx_ot (w : Cond) : Bool := w.onTables || goodWord w
theorem vx_ot_at {args a' : Array Value} {s U : State} {w : Cond} (hW : s.WarmedH U.vm) (hvm : s.vm = U.vm) (hg : vx_ot w = true) (h : w.before args s = true) : w.before a' U = true := by
  simp only [vx_ot, Bool.or_eq_true] at hg
  rcases hg with hg | hg
  · exact va_tabs hg hvm h
  · exact word_at hW (good_of_word hg) h
/-- a list's words: the good ones out of the method's own list, the others by premises of their own -/
theorem vx_hat {args : Array Value} {s : State} {L B : List Cond} (h1 : ∀ w ∈ L.filter goodWord, w.before args s = true) (h2 : ∀ w ∈ L.filter (fun w => !goodWord w), w ∈ B) (h3 : ∀ w ∈ B, w.before args s = true) : ∀ w ∈ L, w.before args s = true := by
  intro w hw
  by_cases g : goodWord w = true
  · exact h1 w (List.mem_filter.mpr ⟨hw, g⟩)
  · refine h3 w (h2 w (List.mem_filter.mpr ⟨hw, ?_⟩))
    show (!goodWord w) = true
    cases hgw : goodWord w
    · rfl
    · exact absurd hgw g
theorem vx_c {args : Array Value} {s : State} {w : Cond} {B : List Cond} (h : w.before args s = true) (t : ∀ w ∈ B, w.before args s = true) : ∀ w' ∈ w :: B, w'.before args s = true := fun w' h' => (List.mem_cons.mp h').elim (fun e => by rw [e]; exact h) (t w')
theorem vx_n {args : Array Value} {s : State} : ∀ w ∈ ([] : List Cond), w.before args s = true := fun _ h => nomatch h
theorem vx_own {args : Array Value} {s : State} {L : List Cond} (h1 : ∀ w ∈ L.filter vx_no, w.before args s = true)
    (hU : (Cond.isRef (.static Bundle.tN "UNASSIGNED_STACK" Bundle.steD)).before args s = true) (hN : (Cond.isRef (.static Bundle.tN "SUPPRESSED_SENTINEL" Bundle.listD)).before args s = true)
    (lU : (Cond.laysStatic Bundle.tN "UNASSIGNED_STACK" Bundle.steD).before args s = true) (lN : (Cond.laysStatic Bundle.tN "SUPPRESSED_SENTINEL" Bundle.listD).before args s = true) : ∀ w ∈ L, w.before args s = true := by
  intro w hw
  by_cases e1 : w = .isRef (.static Bundle.tN "UNASSIGNED_STACK" Bundle.steD)
  · rw [e1]; exact hU
  · by_cases e2 : w = .isRef (.static Bundle.tN "SUPPRESSED_SENTINEL" Bundle.listD)
    · rw [e2]; exact hN
    · by_cases e3 : w = .laysStatic Bundle.tN "UNASSIGNED_STACK" Bundle.steD
      · rw [e3]; exact lU
      · by_cases e4 : w = .laysStatic Bundle.tN "SUPPRESSED_SENTINEL" Bundle.listD
        · rw [e4]; exact lN
        · exact h1 w (List.mem_filter.mpr ⟨hw, by unfold vx_no; rw [decide_eq_true e1, decide_eq_true e2, decide_eq_true e3, decide_eq_true e4]; rfl⟩)
/-- where a static field lies, its class's statics cell in H -/
def vx_L (C n d : String) (A : Nat → Prop) (U : State) (H : Heap) : Prop := ∃ (c : ClassId) (k : Class) (i : Nat) (f : Field) (a : Nat) (cell : Cell), U.vm.findClass C = some c ∧ U.fieldFound? C n d = some (c, k, i, f) ∧ f.isStatic = true ∧ k.statics = some a ∧ H[a]? = some cell ∧ cell.vm.isStatics = true ∧ cell.cls = c ∧ f.slot < cell.slots.size ∧ k.staticTypes[f.slot]? = some f.type ∧ ¬ A a
theorem vx_L.moved {C n d : String} {A : Nat → Prop} {u U : State} {H : Heap} (hvm : u.vm.Alike U.vm) (h : vx_L C n d A u H) : vx_L C n d A U H := by
  obtain ⟨c, k, i, f, a, cell, h1, h2, h3, h4, h5, h6, h7, h8, h9, h10⟩ := h
  obtain ⟨k', hi', he⟩ := State.fieldFound?_setVm hvm h2
  exact ⟨c, k', i, f, a, cell, by rw [hvm.findClass]; exact h1, hi', h3, by rw [he]; exact h4, h5, h6, h7, h8, by rw [he]; exact h9, h10⟩
theorem vx_L.kept {C n d : String} {A : Nat → Prop} {U : State} {H H1 : Heap} (h : vx_L C n d A U H) (hq : ∀ a : Nat, a < H.size → ¬ A a → H1[a]? = H[a]?) : vx_L C n d A U H1 := by
  obtain ⟨c, k, i, f, a, cell, h1, h2, h3, h4, h5, h6, h7, h8, h9, h10⟩ := h
  exact ⟨c, k, i, f, a, cell, h1, h2, h3, h4, by rw [hq a (Array.getElem?_eq_some_iff.mp h5).1 h10]; exact h5, h6, h7, h8, h9, h10⟩
theorem vx_L.narrow {C n d : String} {A B : Nat → Prop} {U : State} {H : Heap} (h : vx_L C n d A U H) (hAB : ∀ q, B q → A q) : vx_L C n d B U H := by
  obtain ⟨c, k, i, f, a, cell, h1, h2, h3, h4, h5, h6, h7, h8, h9, h10⟩ := h
  exact ⟨c, k, i, f, a, cell, h1, h2, h3, h4, h5, h6, h7, h8, h9, fun z => h10 (hAB _ z)⟩
theorem vx_L.word {C n d : String} {A : Nat → Prop} {s : State} {args : Array Value} (h : vx_L C n d A s s.heap) : (Cond.laysStatic C n d).before args s = true := by
  obtain ⟨c, k, i, f, a, cell, h1, h2, h3, h4, h5, h6, h7, h8, h9, -⟩ := h
  show (Cond.laysStatic C n d).holds args s none s [] = true
  exact Cond.laysStatic_of h1 h2 h3 h4 h5 h6 h7 h8 h9
/-- .. and what it holds: null or some reference -/
def vx_Zq (C n d : String) (A : Nat → Prop) (U : State) (H : Heap) : Prop := va_Zq C n d A U H ∧ vx_L C n d A U H
theorem vx_Zq.moved {C n d : String} {A : Nat → Prop} {u U : State} {H : Heap} (hvm : u.vm.Alike U.vm) (h : vx_Zq C n d A u H) : vx_Zq C n d A U H := ⟨va_Zq.moved hvm h.1, vx_L.moved hvm h.2⟩
theorem vx_Zq.kept {C n d : String} {A : Nat → Prop} {U : State} {H H1 : Heap} (h : vx_Zq C n d A U H) (hq : ∀ a : Nat, a < H.size → ¬ A a → H1[a]? = H[a]?) : vx_Zq C n d A U H1 := ⟨va_Zq.kept h.1 hq, vx_L.kept h.2 hq⟩
theorem vx_Zq.narrow {C n d : String} {A B : Nat → Prop} {U : State} {H : Heap} (h : vx_Zq C n d A U H) (hAB : ∀ q, B q → A q) : vx_Zq C n d B U H := ⟨va_Zq.narrow h.1 hAB, vx_L.narrow h.2 hAB⟩
theorem vx_Zqof {args : Array Value} {s : State} {C n d : String} {A : Nat → Prop} (hl : (Cond.laysStatic C n d).before args s = true) (hini : (Cond.initialized C).before args s = true) (h : (Cond.isRef (.static C n d)).before args s = true) (hA : ∀ a : Nat, a < s.heap.size → ¬ A a) : vx_Zq C n d A s s.heap := by
  refine ⟨va_Zqof hl hini h hA, ?_⟩
  obtain ⟨c, k, i, f, a, cell, h1, h2, h3, h4, h5, h6, h7, h8, h9⟩ := Cond.laysStatic_spec hl
  exact ⟨c, k, i, f, a, cell, h1, h2, h3, h4, h5, h6, h7, h8, h9, hA a (Array.getElem?_eq_some_iff.mp h5).1⟩
theorem vx_isRef {C n d : String} {v : Value} {A : Nat → Prop} {s : State} {args : Array Value} (h : va_Z C n d v A s s.heap) (hv : v.isRef = true) : (Cond.isRef (.static C n d)).before args s = true := by
  obtain ⟨cf, kf, fi, f, a, cell, h1, h2, h3, h4, h5, h6, h7, -⟩ := h
  have he : (Term.static C n d).eval args s none [] s = some v := by
    simp [Term.eval, State.fieldNamed?, h1, h2, h4, h5, h6, h7]
  simp only [Cond.before, Cond.holds, Cond.value, he]
  cases v <;> simp_all [Value.isRef]
theorem vx_isRefq {C n d : String} {A : Nat → Prop} {s : State} {args : Array Value} (h : va_Zq C n d A s s.heap) : (Cond.isRef (.static C n d)).before args s = true := by
  rcases h with h | ⟨t, h⟩
  · exact vx_isRef h rfl
  · exact vx_isRef h rfl
/-- the same frame, seen from here: as if the method were called anew in this heap -/
theorem vx_rebase {T : State} (X : Stand p l e R s m args below meth c T locs cells slots) {R' : Room} (hf : R'.frames ≤ R.frames) (hl : R'.locals ≤ R.locals) (hc : cells + R'.cells ≤ R.cells) (hs : slots + R'.slots ≤ R.slots) :
    Stand p l e R' ((T.setVm s.vm).setFrames (.invoking m args :: below)) m args below meth c T [] 0 0 := by
  have htop : (T.setVm s.vm).topJava?.isSome := X.here.top
  have hF : ((T.setVm s.vm).setFrames (.invoking m args :: below)).frames = .invoking m args :: below := State.frames_setFrames _ (State.cur_lt_of_top htop)
  obtain ⟨g₀, hg0⟩ := Option.isSome_iff_exists.mp htop
  obtain ⟨r, hr⟩ := State.topJava?_eq_some.mp hg0
  have hl9 : e.platform.stackLimits (T.setVm s.vm).me = e.platform.stackLimits s.me := X.limits
  have hb9 : (T.setVm s.vm).me.stackBytes = s.me.stackBytes := X.bytes
  refine ⟨X.admits, X.cas, X.clock, hF, ?_, X.hears, X.method, X.code, X.here, X.tail, X.warmed, ?_, ?_, ?_⟩
  · have h := X.room
    have hU : ((T.setVm s.vm).setFrames (.invoking m args :: below)).localsInUse = s.localsInUse := by
      rw [State.localsInUse_invoking hF (meth := meth) (c := c) X.method X.code, State.localsInUse_invoking X.frames X.method X.code]
    simp only [State.hasRoom, Bool.and_eq_true, decide_eq_true_eq] at h ⊢
    obtain ⟨⟨⟨⟨h1, h2, h3, h4, h5, h6⟩, h7⟩, h8⟩, h9⟩ := h
    rw [X.frames, List.length_cons] at h2 h3
    have q1 := X.heapSize
    have q2 := X.used
    simp only [hF, hU, List.length_cons, State.stackLimits_setFrames, State.stackBytes_setFrames, hl9, hb9]
    refine ⟨⟨⟨⟨by omega, by omega, by omega, by omega, by omega, h6⟩, ?_⟩, ?_⟩, X.book⟩
    · show T.heap.size + R'.cells ≤ e.platform.maxCells
      omega
    · show T.slotsUsed + R'.slots ≤ e.platform.maxSlots
      omega
  · rw [State.stackLimits_setFrames]; rfl
  · rw [State.stackBytes_setFrames]; rfl
  · refine ⟨?_, Nat.le_refl _, Nat.le_refl _, ?_, ?_, fun a c9 h9 => ⟨c9, h9, rfl, rfl, fun _ _ => rfl⟩⟩
    · obtain ⟨t, ht, -⟩ := State.frames_cons hr
      show T.setVm s.vm = { ((T.setVm s.vm).setFrames (.invoking m args :: below)).setFrames (T.setVm s.vm).frames with heap := T.heap, slotsUsed := T.slotsUsed }
      rw [State.setFrames_setFrames, State.setFrames_self ht]
      rfl
    · show T.slotsUsed = T.slotsUsed + ((T.heap.toList.drop T.heap.size).map (·.slots.size)).sum
      rw [List.drop_eq_nil_of_le (Nat.le_of_eq Array.length_toList)]
      rfl
    · show ((T.heap.toList.drop T.heap.size).map (·.slots.size)).sum ≤ 0
      rw [List.drop_eq_nil_of_le (Nat.le_of_eq Array.length_toList)]
      exact Nat.le_refl _
/-- 'throw new E()': new; dup; invokespecial; athrow -/
theorem vx_throw0 {cc : ByteArray} {pc : Nat} (hexec : p.tables.exec = Jvm.exec) (hb : c.code = cc) (hl : l.stackTraces = false) {own cls : String} {names : List String} {ik ic mc ms : Nat} {A : Nat → Prop}
    (hown : s.vm.findClass own = some m.cls) (hcls : Bundle.fit cls = true) (hnames : ∀ n ∈ names, Bundle.fit n = true)
    (hk : (Cond.classLink own ik cls).before args s = true) (hini : (Cond.initialized cls).before args s = true) (hat : ∀ w ∈ vx_at0 own ic cls names, w.before args s = true)
    (hgood : ∀ w ∈ Cond.classLink own ik cls :: Cond.initialized cls :: vx_at0 own ic cls names, vx_ot w = true)
    (hU : vx_Zq Bundle.tN "UNASSIGNED_STACK" Bundle.steD A s s.heap) (hN : vx_Zq Bundle.tN "SUPPRESSED_SENTINEL" Bundle.listD A s s.heap) (hS : va_S A s.heap H locs) (hsize : ls.size = c.maxLocals)
    (d0 : decode cc pc = .ok (.new ik, 3)) (d3 : decode cc (pc + 3) = .ok (.dup, 1)) (d4 : decode cc (pc + 4) = .ok (.invokespecial ic, 3)) (d7 : decode cc (pc + 7) = .ok (.athrow, 1))
    (hout : ∀ x ∈ c.exceptionTable.toList, covers x (pc + 7) = false)
    (hRframes : names.length + 3 < R.frames) (hRlocals : (rest.map fun v => v.category).sum + (13 * (names.length + 1) + 42) ≤ R.locals) (hRcells : cells + 1 ≤ R.cells) (hRslots : slots + 6 ≤ R.slots) (hlocks : meth.locks = false)
    (hx : ∀ t : State, s.vm.Alike t.vm → H.size ≤ t.heap.size → (∀ q : Nat, q < H.size → t.heap[q]? = H[q]?) → XC cls s t)
    (hf : ∀ z ∈ locs, free z.base) (hc : cells + 1 ≤ mc) (hs : slots + 6 ≤ ms) :
    W p l e R s m args below meth c H locs cells slots (vx_MQ below Qc XC args s mc ms free) (F0 m pc ls rest) := by
  intro T hT X
  have htr : e.platform.stackTraces = false := (show e.platform.stackTraces = l.stackTraces by rw [X.admits.platform]).trans hl
  have Y := vx_rebase X (R' := { frames := R.frames, locals := R.locals, cells := 1, slots := 6 }) (Nat.le_refl _) (Nat.le_refl _) hRcells hRslots
  obtain ⟨s', hA⟩ : ∃ z, z = (T.setVm s.vm).setFrames (.invoking m args :: below) := ⟨_, rfl⟩
  rw [← hA] at Y
  have hvm : s'.vm = s.vm := by rw [hA]; rfl
  have hhp : s'.heap = H := by rw [hA]; exact hT
  have hW0 : s.WarmedH s'.vm := by rw [hvm]; exact State.WarmedH.refl s
  have hat' : ∀ w ∈ vx_at0 own ic cls names, w.before args s' = true := fun w hw => vx_ot_at hW0 hvm.symm (hgood w (List.mem_cons_of_mem _ (List.mem_cons_of_mem _ hw))) (hat w hw)
  have hk' : (Cond.classLink own ik cls).before args s' = true := vx_ot_at hW0 hvm.symm (hgood _ List.mem_cons_self) hk
  have hini' : (Cond.initialized cls).before args s' = true := vx_ot_at hW0 hvm.symm (hgood _ (List.mem_cons_of_mem _ List.mem_cons_self)) hini
  have hU' : vx_Zq Bundle.tN "UNASSIGNED_STACK" Bundle.steD A s' s'.heap := by rw [hhp]; exact vx_Zq.moved hW0.alike (hU.kept hS.2.1)
  have hN' : vx_Zq Bundle.tN "SUPPRESSED_SENTINEL" Bundle.listD A s' s'.heap := by rw [hhp]; exact vx_Zq.moved hW0.alike (hN.kept hS.2.1)
  have h : ∀ w ∈ Bundle.ownAtoms0 own ic cls names, w.before args s' = true := vx_own hat' (vx_isRefq hU'.1) (vx_isRefq hN'.1) hU'.2.word hN'.2.word
  have hown' : s'.vm.findClass own = some m.cls := by rw [hvm]; exact hown
  have hins : (Cond.instantiable cls 6).before args s' = true := h _ (by simp [Bundle.ownAtoms0])
  obtain ⟨vm₁, cX, kX, hfX, hkX, -, -, X₁, st1⟩ := Y.newCold hexec (own := own) (C := cls) (index := ik) (n := 6) hown' hk' hins hini'
    (g := F0 m pc ls rest) rfl (by rw [hb]; exact d0) (Nat.le_refl _) (Nat.le_refl _)
  generalize hT1 : (T.setVm vm₁).pushCell { cls := cX, slots := kX.instanceTypes.map defaultValue, vm := .none } = T1 at X₁ st1
  have hcat : (Value.ref T.heap.size).category = 1 := rfl
  have hcellA : T1.heap[T.heap.size]? = some (freshCell cX kX) := by rw [← hT1]; exact State.heap_pushCell_size _ _
  have d3' : decode c.code (pc + 3) = .ok (.dup, 1) := by rw [hb]; exact d3
  obtain ⟨U, hsteps, hrun, hend, hW, hsame, ce, hce, hO⟩ := X₁.ctorThrow0 hexec htr (own := own) (cls := cls) (names := names) (ic := ic) hown' hcls hnames h (fun x hx => nomatch hx) hfX hkX hcellA (by rw [hhp, hT]; exact Nat.le_refl _)
    (g := { method := m, pc := pc + 4, locals := ls, stack := .ref T.heap.size :: .ref T.heap.size :: rest, locked := none }) rfl hsize rfl rfl (rest := rest) rfl
    (by rw [hb]; exact d4) (by rw [hb]; exact d7) hout hRframes (by simp only [List.map_cons, List.sum_cons, hcat]; omega) hlocks
  obtain ⟨f1, f2⟩ := vx_frame hsame
  rw [hhp] at f1 f2
  have hWs : s.WarmedH U.vm := State.WarmedH.trans hW0 hW
  have hcl : s.vm.findClass cls = some ce.cls := by
    have h9 := hO.cls
    rw [hvm] at h9
    exact h9
  have hall : s.sameButNew ({ U with vm := s.vm } : State) locs mc ms := by
    subst hA
    obtain ⟨e1, e2⟩ := hsame
    rw [State.setFrames_setFrames] at e1
    have h2 : (T.setVm s.vm).sameButNew ({ U with vm := s.vm } : State) [] (0 + 1) (0 + 6) := ⟨e1, e2⟩
    have h3 := X.same.trans h2
    rw [List.append_nil] at h3
    exact h3.mono hc hs
  refine ⟨U, ?_, .threw T.heap.size, hrun, hend, Or.inr ⟨T.heap.size, rfl, cls, ce, locs, hx U hWs.alike f1 (fun q hq => f2 q hq (fun z hz => nomatch hz)), hce, hO.vm, hcl, hWs, hall, hf⟩⟩
  refine st1 _ ?_
  show Steps p.tables e below (T1.setTop { method := m, pc := pc + 3, locals := ls, stack := .ref T.heap.size :: rest, locked := none }) _
  jvm_step X₁.here [X₁.here.top, hexec, d3', Value.category]
  exact hsteps
/-- 'throw new E("text")': new; dup; ldc; invokespecial; athrow -/
theorem vx_throwS {cc : ByteArray} {pc : Nat} (hexec : p.tables.exec = Jvm.exec) (hb : c.code = cc) (hl : l.stackTraces = false) {own cls text : String} {names : List String} {ik is ic mc ms sa : Nat} {A : Nat → Prop}
    (hown : s.vm.findClass own = some m.cls) (hcls : Bundle.fit cls = true) (hnames : ∀ n ∈ names, Bundle.fit n = true)
    (hk : (Cond.classLink own ik cls).before args s = true) (hini : (Cond.initialized cls).before args s = true) (hstr : vk_R own is text sa s) (hat : ∀ w ∈ vx_atS own ic cls names, w.before args s = true)
    (hgood : ∀ w ∈ Cond.classLink own ik cls :: Cond.initialized cls :: vx_atS own ic cls names, vx_ot w = true)
    (hU : vx_Zq Bundle.tN "UNASSIGNED_STACK" Bundle.steD A s s.heap) (hN : vx_Zq Bundle.tN "SUPPRESSED_SENTINEL" Bundle.listD A s s.heap) (hS : va_S A s.heap H locs) (hsize : ls.size = c.maxLocals)
    (d0 : decode cc pc = .ok (.new ik, 3)) (d3 : decode cc (pc + 3) = .ok (.dup, 1)) (d4 : decode cc (pc + 4) = .ok (.ldc is, 2)) (d6 : decode cc (pc + 6) = .ok (.invokespecial ic, 3)) (d9 : decode cc (pc + 9) = .ok (.athrow, 1))
    (hout : ∀ x ∈ c.exceptionTable.toList, covers x (pc + 9) = false)
    (hRframes : names.length + 3 < R.frames) (hRlocals : (rest.map fun v => v.category).sum + (13 * (names.length + 1) + 43) ≤ R.locals) (hRcells : cells + 1 ≤ R.cells) (hRslots : slots + 6 ≤ R.slots) (hlocks : meth.locks = false)
    (hx : ∀ t : State, s.vm.Alike t.vm → H.size ≤ t.heap.size → (∀ q : Nat, q < H.size → t.heap[q]? = H[q]?) → XC cls s t)
    (hf : ∀ z ∈ locs, free z.base) (hc : cells + 1 ≤ mc) (hs : slots + 6 ≤ ms) :
    W p l e R s m args below meth c H locs cells slots (vx_MQ below Qc XC args s mc ms free) (F0 m pc ls rest) := by
  intro T hT X
  have htr : e.platform.stackTraces = false := (show e.platform.stackTraces = l.stackTraces by rw [X.admits.platform]).trans hl
  have Y := vx_rebase X (R' := { frames := R.frames, locals := R.locals, cells := 1, slots := 6 }) (Nat.le_refl _) (Nat.le_refl _) hRcells hRslots
  obtain ⟨s', hA⟩ : ∃ z, z = (T.setVm s.vm).setFrames (.invoking m args :: below) := ⟨_, rfl⟩
  rw [← hA] at Y
  have hvm : s'.vm = s.vm := by rw [hA]; rfl
  have hhp : s'.heap = H := by rw [hA]; exact hT
  have hW0 : s.WarmedH s'.vm := by rw [hvm]; exact State.WarmedH.refl s
  have hat' : ∀ w ∈ vx_atS own ic cls names, w.before args s' = true := fun w hw => vx_ot_at hW0 hvm.symm (hgood w (List.mem_cons_of_mem _ (List.mem_cons_of_mem _ hw))) (hat w hw)
  have hk' : (Cond.classLink own ik cls).before args s' = true := vx_ot_at hW0 hvm.symm (hgood _ List.mem_cons_self) hk
  have hini' : (Cond.initialized cls).before args s' = true := vx_ot_at hW0 hvm.symm (hgood _ (List.mem_cons_of_mem _ List.mem_cons_self)) hini
  have hU' : vx_Zq Bundle.tN "UNASSIGNED_STACK" Bundle.steD A s' s'.heap := by rw [hhp]; exact vx_Zq.moved hW0.alike (hU.kept hS.2.1)
  have hN' : vx_Zq Bundle.tN "SUPPRESSED_SENTINEL" Bundle.listD A s' s'.heap := by rw [hhp]; exact vx_Zq.moved hW0.alike (hN.kept hS.2.1)
  have h : ∀ w ∈ Bundle.ownAtoms own ic cls names, w.before args s' = true := vx_own hat' (vx_isRefq hU'.1) (vx_isRefq hN'.1) hU'.2.word hN'.2.word
  have hown' : s'.vm.findClass own = some m.cls := by rw [hvm]; exact hown
  have hins : (Cond.instantiable cls 6).before args s' = true := h _ (by simp [Bundle.ownAtoms])
  obtain ⟨vm₁, cX, kX, hfX, hkX, -, -, X₁, st1⟩ := Y.newCold hexec (own := own) (C := cls) (index := ik) (n := 6) hown' hk' hins hini'
    (g := F0 m pc ls rest) rfl (by rw [hb]; exact d0) (Nat.le_refl _) (Nat.le_refl _)
  generalize hT1 : (T.setVm vm₁).pushCell { cls := cX, slots := kX.instanceTypes.map defaultValue, vm := .none } = T1 at X₁ st1
  have hcat : (Value.ref T.heap.size).category = 1 := rfl
  have hcellA : T1.heap[T.heap.size]? = some (freshCell cX kX) := by rw [← hT1]; exact State.heap_pushCell_size _ _
  have d3' : decode c.code (pc + 3) = .ok (.dup, 1) := by rw [hb]; exact d3
  have d4' : decode c.code (pc + 4) = .ok (.ldc is, 2) := by rw [hb]; exact d4
  have hstr' : vk_R own is text sa s' := vk_R.warm hW0 hstr
  obtain ⟨U, hsteps, hrun, hend, hW, hsame, ce, hce, hO⟩ := X₁.ctorThrowS hexec htr (own := own) (cls := cls) (names := names) (ic := ic) hown' hcls hnames h (fun x hx => nomatch hx) hfX hkX hcellA (by rw [hhp, hT]; exact Nat.le_refl _) (msg := .ref sa) rfl
    (g := { method := m, pc := pc + 6, locals := ls, stack := .ref sa :: .ref T.heap.size :: .ref T.heap.size :: rest, locked := none }) rfl hsize rfl rfl (rest := rest) rfl
    (by rw [hb]; exact d6) (by rw [hb]; exact d9) hout hRframes (by simp only [List.map_cons, List.sum_cons, hcat]; omega) hlocks
  obtain ⟨f1, f2⟩ := vx_frame hsame
  rw [hhp] at f1 f2
  have hWs : s.WarmedH U.vm := State.WarmedH.trans hW0 hW
  have hcl : s.vm.findClass cls = some ce.cls := by
    have h9 := hO.cls
    rw [hvm] at h9
    exact h9
  have hall : s.sameButNew ({ U with vm := s.vm } : State) locs mc ms := by
    subst hA
    obtain ⟨e1, e2⟩ := hsame
    rw [State.setFrames_setFrames] at e1
    have h2 : (T.setVm s.vm).sameButNew ({ U with vm := s.vm } : State) [] (0 + 1) (0 + 6) := ⟨e1, e2⟩
    have h3 := X.same.trans h2
    rw [List.append_nil] at h3
    exact h3.mono hc hs
  refine ⟨U, ?_, .threw T.heap.size, hrun, hend, Or.inr ⟨T.heap.size, rfl, cls, ce, locs, hx U hWs.alike f1 (fun q hq => f2 q hq (fun z hz => nomatch hz)), hce, hO.vm, hcl, hWs, hall, hf⟩⟩
  refine st1 _ ?_
  show Steps p.tables e below (T1.setTop { method := m, pc := pc + 3, locals := ls, stack := .ref T.heap.size :: rest, locked := none }) _
  jvm_step X₁.here [X₁.here.top, hexec, d3', Value.category]
  exact X₁.ldcString hexec (own := own) (text := text) (index := is) (a := sa) hown' hstr'.1 hstr'.2
    (g := { method := m, pc := pc + 4, locals := ls, stack := .ref T.heap.size :: .ref T.heap.size :: rest, locked := none }) rfl d4' _ hsteps
/-- 'throw new E("text")', the text by a wide index -/
theorem vx_throwSW {cc : ByteArray} {pc : Nat} (hexec : p.tables.exec = Jvm.exec) (hb : c.code = cc) (hl : l.stackTraces = false) {own cls text : String} {names : List String} {ik is ic mc ms sa : Nat} {A : Nat → Prop}
    (hown : s.vm.findClass own = some m.cls) (hcls : Bundle.fit cls = true) (hnames : ∀ n ∈ names, Bundle.fit n = true)
    (hk : (Cond.classLink own ik cls).before args s = true) (hini : (Cond.initialized cls).before args s = true) (hstr : vk_R own is text sa s) (hat : ∀ w ∈ vx_atS own ic cls names, w.before args s = true)
    (hgood : ∀ w ∈ Cond.classLink own ik cls :: Cond.initialized cls :: vx_atS own ic cls names, vx_ot w = true)
    (hU : vx_Zq Bundle.tN "UNASSIGNED_STACK" Bundle.steD A s s.heap) (hN : vx_Zq Bundle.tN "SUPPRESSED_SENTINEL" Bundle.listD A s s.heap) (hS : va_S A s.heap H locs) (hsize : ls.size = c.maxLocals)
    (d0 : decode cc pc = .ok (.new ik, 3)) (d3 : decode cc (pc + 3) = .ok (.dup, 1)) (d4 : decode cc (pc + 4) = .ok (.ldc_w is, 3)) (d7 : decode cc (pc + 7) = .ok (.invokespecial ic, 3)) (d10 : decode cc (pc + 10) = .ok (.athrow, 1))
    (hout : ∀ x ∈ c.exceptionTable.toList, covers x (pc + 10) = false)
    (hRframes : names.length + 3 < R.frames) (hRlocals : (rest.map fun v => v.category).sum + (13 * (names.length + 1) + 43) ≤ R.locals) (hRcells : cells + 1 ≤ R.cells) (hRslots : slots + 6 ≤ R.slots) (hlocks : meth.locks = false)
    (hx : ∀ t : State, s.vm.Alike t.vm → H.size ≤ t.heap.size → (∀ q : Nat, q < H.size → t.heap[q]? = H[q]?) → XC cls s t)
    (hf : ∀ z ∈ locs, free z.base) (hc : cells + 1 ≤ mc) (hs : slots + 6 ≤ ms) :
    W p l e R s m args below meth c H locs cells slots (vx_MQ below Qc XC args s mc ms free) (F0 m pc ls rest) := by
  intro T hT X
  have htr : e.platform.stackTraces = false := (show e.platform.stackTraces = l.stackTraces by rw [X.admits.platform]).trans hl
  have Y := vx_rebase X (R' := { frames := R.frames, locals := R.locals, cells := 1, slots := 6 }) (Nat.le_refl _) (Nat.le_refl _) hRcells hRslots
  obtain ⟨s', hA⟩ : ∃ z, z = (T.setVm s.vm).setFrames (.invoking m args :: below) := ⟨_, rfl⟩
  rw [← hA] at Y
  have hvm : s'.vm = s.vm := by rw [hA]; rfl
  have hhp : s'.heap = H := by rw [hA]; exact hT
  have hW0 : s.WarmedH s'.vm := by rw [hvm]; exact State.WarmedH.refl s
  have hat' : ∀ w ∈ vx_atS own ic cls names, w.before args s' = true := fun w hw => vx_ot_at hW0 hvm.symm (hgood w (List.mem_cons_of_mem _ (List.mem_cons_of_mem _ hw))) (hat w hw)
  have hk' : (Cond.classLink own ik cls).before args s' = true := vx_ot_at hW0 hvm.symm (hgood _ List.mem_cons_self) hk
  have hini' : (Cond.initialized cls).before args s' = true := vx_ot_at hW0 hvm.symm (hgood _ (List.mem_cons_of_mem _ List.mem_cons_self)) hini
  have hU' : vx_Zq Bundle.tN "UNASSIGNED_STACK" Bundle.steD A s' s'.heap := by rw [hhp]; exact vx_Zq.moved hW0.alike (hU.kept hS.2.1)
  have hN' : vx_Zq Bundle.tN "SUPPRESSED_SENTINEL" Bundle.listD A s' s'.heap := by rw [hhp]; exact vx_Zq.moved hW0.alike (hN.kept hS.2.1)
  have h : ∀ w ∈ Bundle.ownAtoms own ic cls names, w.before args s' = true := vx_own hat' (vx_isRefq hU'.1) (vx_isRefq hN'.1) hU'.2.word hN'.2.word
  have hown' : s'.vm.findClass own = some m.cls := by rw [hvm]; exact hown
  have hins : (Cond.instantiable cls 6).before args s' = true := h _ (by simp [Bundle.ownAtoms])
  obtain ⟨vm₁, cX, kX, hfX, hkX, -, -, X₁, st1⟩ := Y.newCold hexec (own := own) (C := cls) (index := ik) (n := 6) hown' hk' hins hini'
    (g := F0 m pc ls rest) rfl (by rw [hb]; exact d0) (Nat.le_refl _) (Nat.le_refl _)
  generalize hT1 : (T.setVm vm₁).pushCell { cls := cX, slots := kX.instanceTypes.map defaultValue, vm := .none } = T1 at X₁ st1
  have hcat : (Value.ref T.heap.size).category = 1 := rfl
  have hcellA : T1.heap[T.heap.size]? = some (freshCell cX kX) := by rw [← hT1]; exact State.heap_pushCell_size _ _
  have d3' : decode c.code (pc + 3) = .ok (.dup, 1) := by rw [hb]; exact d3
  have d4' : decode c.code (pc + 4) = .ok (.ldc_w is, 3) := by rw [hb]; exact d4
  have hstr' : vk_R own is text sa s' := vk_R.warm hW0 hstr
  obtain ⟨U, hsteps, hrun, hend, hW, hsame, ce, hce, hO⟩ := X₁.ctorThrowS hexec htr (own := own) (cls := cls) (names := names) (ic := ic) hown' hcls hnames h (fun x hx => nomatch hx) hfX hkX hcellA (by rw [hhp, hT]; exact Nat.le_refl _) (msg := .ref sa) rfl
    (g := { method := m, pc := pc + 7, locals := ls, stack := .ref sa :: .ref T.heap.size :: .ref T.heap.size :: rest, locked := none }) rfl hsize rfl rfl (rest := rest) rfl
    (by rw [hb]; exact d7) (by rw [hb]; exact d10) hout hRframes (by simp only [List.map_cons, List.sum_cons, hcat]; omega) hlocks
  obtain ⟨f1, f2⟩ := vx_frame hsame
  rw [hhp] at f1 f2
  have hWs : s.WarmedH U.vm := State.WarmedH.trans hW0 hW
  have hcl : s.vm.findClass cls = some ce.cls := by
    have h9 := hO.cls
    rw [hvm] at h9
    exact h9
  have hall : s.sameButNew ({ U with vm := s.vm } : State) locs mc ms := by
    subst hA
    obtain ⟨e1, e2⟩ := hsame
    rw [State.setFrames_setFrames] at e1
    have h2 : (T.setVm s.vm).sameButNew ({ U with vm := s.vm } : State) [] (0 + 1) (0 + 6) := ⟨e1, e2⟩
    have h3 := X.same.trans h2
    rw [List.append_nil] at h3
    exact h3.mono hc hs
  refine ⟨U, ?_, .threw T.heap.size, hrun, hend, Or.inr ⟨T.heap.size, rfl, cls, ce, locs, hx U hWs.alike f1 (fun q hq => f2 q hq (fun z hz => nomatch hz)), hce, hO.vm, hcl, hWs, hall, hf⟩⟩
  refine st1 _ ?_
  show Steps p.tables e below (T1.setTop { method := m, pc := pc + 3, locals := ls, stack := .ref T.heap.size :: rest, locked := none }) _
  jvm_step X₁.here [X₁.here.top, hexec, d3', Value.category]
  exact X₁.ldcStringW hexec (own := own) (text := text) (index := is) (a := sa) hown' hstr'.1 hstr'.2
    (g := { method := m, pc := pc + 4, locals := ls, stack := .ref T.heap.size :: .ref T.heap.size :: rest, locked := none }) rfl d4' _ hsteps
end Ends
section Bodies
variable {l : Launch}
theorem vx_ofW {y : MethodName} {ws ws' : List Cond} {rm : Room} {Pc : Array Value → State → Prop} {Qc : Array Value → State → Outcome → State → Prop} {XC : String → State → State → Prop} {mc ms : Nat} {free : Addr → Prop} {cc : ByteArray} {maxL : Nat} {ret : Option FieldType}
    (hy : plainName y.cls = true) (hw : ws = Cond.code y cc maxL ret :: ws')
    (body : ∀ p e s m args below meth c s₁, BodyLoose p l y (headSpec ws rm) cc maxL ret e s m args below meth c s₁ → c.maxLocals = maxL → (∀ x ∈ c.exceptionTable.toList, False) → Pc args s →
      W p l e (headSpec ws rm).room s m args below meth c s.heap [] 0 0 (vx_MQ below Qc XC args s mc ms free) (entryFrame m args maxL)) : vx_Met l y ws rm Pc Qc XC mc ms free := by
  refine MetFree.of_bodyS (code := cc) (maxLocals := maxL) (ret := ret) hy ?_ ?_
  · intro args s m h hn
    obtain ⟨meth, c, h1, h2, h3, h4, h5, h6, -, -⟩ := Cond.code_spec hn (atoms_spec (ws := ws) h _ (by rw [hw]; exact List.mem_cons_self))
    exact ⟨meth, c, h1, h2, h3, h4, h5, h6⟩
  · intro p e s m args below meth c s₁ B hml hP _
    have hh0 : s₁.heap = s.heap := by rw [B.state]; rfl
    have ht : ∀ x ∈ c.exceptionTable.toList, False := by
      obtain ⟨meth9, c9, h1, h2, -, -, -, -, h7, -⟩ := Cond.code_spec B.named (atoms_spec (ws := ws) B.pre _ (by rw [hw]; exact List.mem_cons_self))
      cases Option.some.inj (h1.symm.trans B.method)
      cases Option.some.inj (h2.symm.trans (Stand.of_body B).code)
      intro x hx
      rw [Array.isEmpty_iff.mp h7] at hx
      cases hx
    obtain ⟨t, a1, o, b1, b2, b3⟩ := body p e s m args below meth c s₁ B hml ht hP s₁ hh0 (Stand.of_body B)
    exact ⟨t, o, a1, b1, b2, b3⟩
/-- the table of a body with handlers -/
theorem vx_table {p : Program} {x y : MethodName} {S : Spec} {cc bytes : ByteArray} {maxL maxL' : Nat} {ret ret' : Option FieldType} {e : Env} {s s₁ : State} {m : MethodId} {args : Array Value} {below : List Frame} {meth : Method} {c : Code} {hh : List (Nat × Nat × Nat × Nat)}
    (B : BodyLoose p l y S cc maxL ret e s m args below meth c s₁) (h : (Cond.codeWith y bytes maxL' ret' hh).before args s = true) : c.exceptionTable.toList = tableOf hh := by
  obtain ⟨m9, meth9, c9, hn9, h1, h2, -, -, h6, -⟩ := Cond.codeWith_spec h
  cases Option.some.inj (hn9.symm.trans B.named)
  cases Option.some.inj (h1.symm.trans B.method)
  cases Option.some.inj (h2.symm.trans (Stand.of_body B).code)
  rw [← h6, table_eq]
end Bodies
end VXA
/-! ===== END ===== -/
/-! ===== BEGIN a static call of a method with an exception table ===== -/
section VXS
variable {p : Program} {l : Launch} {e : Env} {R : Room} {s : State} {m : MethodId} {args : Array Value} {below : List Frame} {meth : Method} {c : Code} {T : State} {H : Heap} {locs : List Loc} {cells slots : Nat}
abbrev vx_CSW (R : Room) (s : State) (args : Array Value) (own : String) (index : Nat) (y : MethodName) (bytes : ByteArray) (maxL : Nat) (ret : Option FieldType) (hh : List (Nat × Nat × Nat × Nat)) (ws : List Cond) (rm : Room) (mc ms n : Nat) : Prop :=
  (rm.cells = mc ∧ rm.slots = ms ∧ rm.frames + 1 ≤ R.frames ∧ 8 + (maxL + 11) + rm.locals ≤ R.locals ∧ (∀ w ∈ ws, ∀ (a' : Array Value) (U : State), s.WarmedH U.vm → w.before a' U = true) ∧ Cond.codeWith y bytes maxL ret hh ∈ ws) ∧
  (Cond.codeWith y bytes maxL ret hh).before args s = true ∧ (Cond.initialized y.cls).before args s = true ∧ (y.cls ≠ "java/lang/invoke/MethodHandle" ∧ y.cls ≠ "java/lang/invoke/VarHandle") ∧
  (∀ sig, parseMethodDescriptor y.desc = some sig → n = sig.parameters.length) ∧ (Cond.methodLink own index y).before args s = true ∧ (Cond.static y).before args s = true
theorem vx_cwSW {own : String} {index maxL mc ms : Nat} {y : MethodName} {bytes : ByteArray} {ret : Option FieldType} {hh : List (Nat × Nat × Nat × Nat)} {Ts ws ws' : List Cond} {rm : Room} (n : Nat) (ht : ∀ w ∈ Ts, w.before args s = true) (hT : GoodIn Ts (va_wsS own index y ws)) (hw : ws = Cond.codeWith y bytes maxL ret hh :: ws') (hrc : rm.cells = mc) (hrs : rm.slots = ms)
    (hd : y.cls ≠ "java/lang/invoke/MethodHandle" ∧ y.cls ≠ "java/lang/invoke/VarHandle" ∧ (parseMethodDescriptor y.desc).map (fun d => d.parameters.length) = some n) (hR : rm.frames + 1 ≤ R.frames ∧ 8 + (maxL + 11) + rm.locals ≤ R.locals) :
    vx_CSW R s args own index y bytes maxL ret hh ws rm mc ms n := by
  have ok : ∀ w ∈ va_wsS own index y ws, w.before args s = true := fun w h => ht w (hT w h).1
  have hG : GoodIn Ts ws := fun w h => hT w (by unfold va_wsS; exact List.mem_append_right _ h)
  have hc : Cond.codeWith y bytes maxL ret hh ∈ ws := by rw [hw]; exact List.mem_cons_self
  refine ⟨⟨hrc, hrs, hR.1, hR.2, pay_in ht hG, hc⟩, ht _ (hG _ hc).1, ok _ (by simp [va_wsS]), ⟨hd.1, hd.2.1⟩, fun sig h => ?_, ok _ (by simp [va_wsS]), ok _ (by simp [va_wsS])⟩
  have h2 := hd.2.2
  rw [h] at h2
  exact (Option.some.inj h2).symm
theorem vx_callSW (X : Stand p l e R s m args below meth c T locs cells slots) (hexec : p.tables.exec = Jvm.exec) {own : String} {index : Nat} {y : MethodName} {bytes : ByteArray} {maxL : Nat} {ret : Option FieldType} {hh : List (Nat × Nat × Nat × Nat)}
    (hown : s.vm.findClass own = some m.cls) (hlink : (Cond.methodLink own index y).before args s = true) (hstat : (Cond.static y).before args s = true) (hinit : (Cond.initialized y.cls).before args s = true)
    (hcode : (Cond.codeWith y bytes maxL ret hh).before args s = true) (hy : y.cls ≠ "java/lang/invoke/MethodHandle" ∧ y.cls ≠ "java/lang/invoke/VarHandle")
    {W9 : Nat} {Pre : Pt → Array Value → Prop} {Post : Pt → Array Value → Option Value → Pt → Prop} (hK : Back l R p e below s args y 3 W9 Pre Post)
    {g : JFrame} (hg : g.method = m) (hsize : g.locals.size = c.maxLocals) {argsL rest : List Value} (hlen : ∀ sig, parseMethodDescriptor y.desc = some sig → argsL.length = sig.parameters.length)
    (hstack : g.stack = argsL.reverse ++ rest) (hW : 2 * g.monitorRoom + (rest.map fun v => v.category).sum ≤ W9) (hdg : decode c.code g.pc = .ok (.invokestatic index, 3))
    (hpre : ∀ vm₁, s.WarmedH vm₁ → Pre ⟨T.setVm vm₁, locs, cells, slots⟩ argsL.toArray) :
    ∃ (v : Option Value) (vm₁ : Vm) (B : Pt), s.WarmedH vm₁ ∧ Stand p l e R s m args below meth c B.U B.locs B.cells B.slots ∧ Post ⟨T.setVm vm₁, locs, cells, slots⟩ argsL.toArray v B ∧
      ∀ target, Steps p.tables e below (B.U.setTop { g with pc := g.pc + 3, stack := v.toList ++ rest }) target → Steps p.tables e below (T.setTop g) target := by
  obtain ⟨mk, methM, cM, hnamed, hmethM, -, -, -, -, -, -, hsigM⟩ := Cond.codeWith_spec hcode
  have hstatic : methM.isStatic = true := Cond.static_spec hnamed hmethM hstat
  obtain ⟨kP, hkP, -⟩ := className_of_methodNamed hnamed
  have hinitP : kP.init = .initialized := Cond.initialized_spec (findClass_of_methodNamed hnamed) hkP hinit
  obtain ⟨vm₁, X₁, hstep₁⟩ := X.invokestatic hexec hown hlink hnamed hmethM hstatic hkP hinitP hy (g := g) hg (argsL := argsL) (rest := rest) (hlen _ hsigM) hstack hdg
  obtain ⟨v, B, X', hpost, hsteps⟩ := hK m meth c ⟨T.setVm vm₁, locs, cells, slots⟩ { g with stack := rest } (.invokestatic index) mk argsL.toArray X₁ hg hsize hdg hW (X₁.named hnamed) (hpre vm₁ X₁.warmed)
  exact ⟨v, vm₁, B, X₁.warmed, X', hpost, fun target h => hstep₁ _ fun acts => by rw [doInvoke_state]; exact hsteps.trans h⟩
theorem vx_runSW {y : MethodName} {bytes cc : ByteArray} {maxL nL mc ms n index : Nat} {ret : Option FieldType} {hh : List (Nat × Nat × Nat × Nat)} {ws : List Cond} {rm : Room} {Pc : Array Value → State → Prop} {Qc : Array Value → State → Outcome → State → Prop} {free : Addr → Prop} {Ts : List Cond} {own : String} {As rest : List Value} {g : JFrame}
    (S : CallFix p m c cc nL s args Ts own) (hM : Met l y ws rm Pc Qc mc ms free) (cw : vx_CSW R s args own index y bytes maxL ret hh ws rm mc ms n) (hp : PreS s H Pc As)
    (hg : g.method = m) (hn : As.length = n) (hsize : g.locals.size = nL) (hstack : g.stack = As.reverse ++ rest) (hW : 2 * g.monitorRoom + (rest.map fun v => v.category).sum ≤ 8) (hdg : decode cc g.pc = .ok (.invokestatic index, 3)) (hf : cells + mc ≤ R.cells ∧ slots + ms ≤ R.slots) :
    va_Run p l e R s m args below meth c H locs cells slots mc ms g rest (Qc As.toArray) (free) := by
  obtain ⟨⟨hrc, hrs, hfr, hlo, hws, hcw⟩, hcode, hini, hy, hlen, hl, hstt⟩ := cw
  have hK : Back l R p e below s args y 3 8 (PreOf R mc ms Pc) (PostOf Qc mc ms free) := va_backW (hh := hh) (bytes := bytes) (maxL := maxL) (ret := ret) hM hp.1 hrc hrs hfr hlo hws hcw (fun a' U hW => word_at hW (Or.inl (by first | rfl | simp [Cond.onTables, Cond.keeps, Cond.steady])) hini)
  obtain ⟨hx, hb, hml, ho, -⟩ := S
  intro T hT X
  obtain ⟨v, vm₁, ⟨U', l2, c2, s2⟩, hW₁, X', ⟨g', mk, t, L, e1, e2, hq, h1, hL, h2, h3⟩, st⟩ := vx_callSW X hx (hh := hh) (bytes := bytes) (maxL := maxL) (ret := ret) ho hl hstt hini hcode hy hK hg (hsize.trans hml.symm) (argsL := As) (rest := rest) (fun sig h => hn.trans (hlen sig h)) hstack hW (by rw [hb]; exact hdg)
    (fun vm₁ hW₁ => ⟨hf.1, hf.2, hp.2 (T.setVm vm₁) hT hW₁⟩)
  dsimp only [Pt.U, Pt.locs, Pt.cells, Pt.slots] at X' e1 e2 h1 h2 h3 st
  subst h1; subst h2; subst h3
  exact ⟨v, (T.setVm vm₁).calling g' mk As.toArray, t, U', L, hT, X', hL, e1, e2, hq, st⟩
/-- not caught here, past rows that name other classes: it goes on to the caller -/
theorem vx_outP {p : Program} {l : Launch} {e : Env} {R : Room} {s : State} {m : MethodId} {args : Array Value} {below : List Frame} {meth : Method} {c : Code} {H : Heap} {locs : List Loc} {cells slots : Nat} {free : Addr → Prop} {ls : Array Slot} {rest : List Value} {Qc : Array Value → State → Outcome → State → Prop} {XC : String → State → State → Prop}
    {pc : Nat} {own E : String} {ce : Cell} {q : Addr} {mc ms : Nat} (hown : s.vm.findClass own = some m.cls) (hlocks : meth.locks = false)
    (hpass : ∀ z ∈ c.exceptionTable.toList, covers z pc = false ∨ (z.catchType ≠ 0 ∧ ∃ nm : String, (Cond.classLink own z.catchType nm).before args s = true ∧ va_Nc E nm s)) (hcell : H[q]? = some ce) (hv : ce.vm = .none) (hcl : s.vm.findClass E = some ce.cls)
    (hx : ∀ t : State, t.heap = H → s.vm.Alike t.vm → XC E s t) (hf : ∀ z ∈ locs, free z.base) (hc : cells ≤ mc) (hs : slots ≤ ms) :
    vx_W p l e R s m args below meth c H locs cells slots (vx_MQ below Qc XC args s mc ms free) (F0 m pc ls rest) q := by
  intro T hT X
  have hpl : e.platform.magicAccessors = ({} : Platform).magicAccessors := by rw [X.admits.platform]
  obtain ⟨vm', hW', X', st⟩ := X.outThrough hlocks q (g := F0 m pc ls rest) rfl rfl rfl (cell := ce) (by rw [hT]; exact hcell) (by rw [hv]; rfl)
    (by obtain ⟨k9, h9, -⟩ := Vm.findClass_spec hcl; exact ⟨k9, h9⟩) (fun z hz => by
      rcases hpass z hz with h | ⟨hz0, nm, hl1, hn1⟩
      · exact Or.inl h
      · obtain ⟨c6, hc6, hcl6⟩ := Cond.classLink_spec hown hl1 e.platform hpl
        obtain ⟨a8, b8, h1, h2, h3⟩ := hn1
        cases Option.some.inj (h1.symm.trans hcl)
        cases Option.some.inj (h2.symm.trans hc6)
        exact Or.inr ⟨hz0, _, hcl6, h3⟩)
  obtain ⟨g₀, hfr⟩ := X'.frames_eq
  have hcell9 : ((T.setVm vm').setFrames (.throwing q :: below)).heap[q]? = some ce := by
    show T.heap[q]? = some ce
    rw [hT]; exact hcell
  have hend : Ended ((T.setVm vm').setFrames (.throwing q :: below)) below (.threw q) := State.frames_setFrames _ (State.cur_lt_of_frames hfr)
  refine ⟨(T.setVm vm').setFrames (.throwing q :: below), ?_, .threw q, X'.here.running, hend, Or.inr ⟨q, rfl, E, ce, locs, hx _ hT (X'.ends _).1.alike, hcell9, hv, hcl, (X'.ends _).1, (X'.ends _).2.mono hc hs, hf⟩⟩
  rw [X.pushThrowing_eq]
  exact st
/-- a thing of a world lies in the heap -/
theorem vx_lt {D : va_G} {cl : List vw_C} {ws : va_W} {H1 : Heap} (h : va_P D cl ws H1) {k : Nat} {q : Nat × va_E} (hk : ws[k]? = some q) : q.1 < H1.size := (h k q hk).lt
end VXS
/-! ===== END ===== -/
/-! ===== BEGIN methods with a table of their own: called by a name, returning or throwing ===== -/
section VXH
/-! vx_backW, vx_callVX, vx_callSX, vx_callVW, vx_runVW, vx_runVX, vx_runSX, vx_ofWH follow the same proofs as their sisters above (Free/Laws.lean, Shelf42/LK1.lean); vx_outP calls Shelf42/NT130.lean (outThrough). -/
section
variable {l : Launch} {R : Room} {p : Program} {e : Env} {below : List Frame} {s : State} {sargs : Array Value} {y : MethodName} {len W9 : Nat}
theorem vx_backW {ws : List Cond} {rm : Room} {Pc : Array Value → State → Prop} {Qc : Array Value → State → Outcome → State → Prop} {XC : String → State → State → Prop} {mc ms : Nat} {free : Addr → Prop} {bytes : ByteArray} {maxL : Nat} {ret : Option FieldType} {hh : List (Nat × Nat × Nat × Nat)}
    (hM : vx_Met l y ws rm Pc Qc XC mc ms free) (hblind : FrameBlind Pc) (hrc : rm.cells = mc) (hrs : rm.slots = ms)
    (hframes : rm.frames + 1 ≤ R.frames) (hlocals : W9 + (maxL + 11) + rm.locals ≤ R.locals)
    (hws : ∀ w ∈ ws, ∀ a' U, s.WarmedH U.vm → w.before a' U = true) (hcode : Cond.codeWith y bytes maxL ret hh ∈ ws) (hinit : ∀ a' U, s.WarmedH U.vm → (Cond.initialized y.cls).before a' U = true) :
    vx_Back l R p e below s sargs y len W9 (PreOf R mc ms Pc) (PostOf Qc mc ms free) (vx_Post XC mc ms free) := by
  intro m meth c A g ig mk a X hg hsize hdg hW hn hp
  have h1 : (headSpec ws rm).pre.before a A.U = true := atoms_intro fun w hw => hws w hw _ _ X.warmed
  have h2 : (Cond.codeWith y bytes maxL ret hh).before a A.U = true := hws _ hcode _ _ X.warmed
  have h3 : (Cond.initialized y.cls).before a A.U = true := hinit _ _ X.warmed
  have h4 : A.cells + (headSpec ws rm).room.cells ≤ R.cells := by rw [show (headSpec ws rm).room.cells = mc from hrc]; exact hp.1
  have h5 : A.slots + (headSpec ws rm).room.slots ≤ R.slots := by rw [show (headSpec ws rm).room.slots = ms from hrs]; exact hp.2.1
  have hPc : Pc a (A.U.calling g mk a) := hblind _ _ _ _ hp.2.2
  obtain ⟨U, Ls, c0, s0⟩ := A
  dsimp only [Pt.U, Pt.locs, Pt.cells, Pt.slots] at h1 h2 h3 h4 h5 X hn hPc ⊢
  obtain ⟨m9, methY, cY, hn9, hmY, hcY, -, hlY, -⟩ := Cond.codeWith_spec h2
  cases Option.some.inj (hn9.symm.trans hn)
  obtain ⟨kY, hkY, -⟩ := className_of_methodNamed hn
  have hinitY : kY.init = .initialized := Cond.initialized_spec (findClass_of_methodNamed hn) hkY h3
  have h : At U g.method c below := by rw [hg]; exact X.here
  have hlocals9 : W9 + (maxL + 11) + (headSpec ws rm).room.locals ≤ R.locals := hlocals
  have happ : (headSpec ws rm).appliesLoose y e.platform (U.calling g mk a) = true :=
    Spec.appliesLoose_calling (g := g) h hdg hn hkY hinitY
      (X.room_calling (g := g) (R' := (headSpec ws rm).room) hsize hmY hcY hframes (by rw [hlY]; omega) h4 h5) h1
  obtain ⟨mid, hmid⟩ := h.above
  have hfr : (U.setTop g).frames = (.java g :: mid) ++ below := by rw [State.frames_setTop' g h.top, hmid]; rfl
  obtain ⟨o, s₂, hsteps, -, hend, hq⟩ := Steps.callFree hM p X.admits X.cas X.clock (acts := []) hfr happ hPc trivial
  have hq' : vx_Q Qc XC mc ms free a (U.calling g mk a) o s₂ := hq
  rw [State.frames_setTop' g h.top] at hend
  obtain ⟨g₀, hg0⟩ := Option.isSome_iff_exists.mp h.top
  obtain ⟨r, hr⟩ := State.topJava?_eq_some.mp hg0
  have hr' : (({ U with heap := s₂.heap, slotsUsed := s₂.slotsUsed } : State).setVm s₂.vm).frames = .java g₀ :: r := hr
  rcases hq' with ⟨hqc, L, hfe, hL⟩ | ⟨q, rfl, E, ce, L, hx, hce, hcv, hcl, hW₂, hsm, hL⟩
  · obtain ⟨⟨v, rfl⟩, hW₂, e2, q2, q3, q4, q5, q6⟩ := id hfe
    have e3 : s₂ = ({ (U.calling g mk a).setFrames s₂.frames with heap := s₂.heap, slotsUsed := s₂.slotsUsed } : State).setVm s₂.vm := by
      have : s₂ = ({ s₂ with vm := (U.calling g mk a).vm } : State).setVm s₂.vm := rfl
      rw [e2] at this
      exact this
    obtain ⟨c₂, i₂, len₂, hc₂, hd₂, hf₂⟩ := hend
    have hW' : U.WarmedH s₂.vm := hW₂
    have hcc : c₂ = c := by
      have h1 : s₂.code? g.method = U.code? g.method := by
        rw [State.code?_eq, State.code?_eq, hW'.alike.method?]
      exact Option.some.inj (hc₂.symm.trans (h1.trans h.code))
    subst hcc
    have hlen : len₂ = len := by rw [hdg] at hd₂; cases hd₂; rfl
    subst hlen
    have hs₂ : s₂ = (({ U with heap := s₂.heap, slotsUsed := s₂.slotsUsed } : State).setVm s₂.vm).setTop { g with pc := g.pc + len₂, stack := v.toList ++ g.stack } := by
      refine e3.trans ?_
      rw [hf₂, State.calling_eq h.top, State.setFrames_setFrames, State.setTop_of_frames _ hr', hr]
      rfl
    have hsame : U.sameButNew ({ U with heap := s₂.heap, slotsUsed := s₂.slotsUsed } : State) L mc ms := by
      refine ⟨?_, q2, q3, q4, q5, q6⟩
      obtain ⟨t, ht, -⟩ := State.frames_cons hr
      show ({ U with heap := s₂.heap, slotsUsed := s₂.slotsUsed } : State) = { U.setFrames U.frames with heap := s₂.heap, slotsUsed := s₂.slotsUsed }
      rw [State.setFrames_self ht]
    subst hg
    refine Or.inl ⟨v, ⟨(({ U with heap := s₂.heap, slotsUsed := s₂.slotsUsed } : State).setVm s₂.vm), Ls ++ L, c0 + mc, s0 + ms⟩,
      ⟨X.admits, X.cas, X.clock, X.frames, X.room, X.hears, X.method, X.code, (X.here.setHeapUsed s₂.heap s₂.slotsUsed).setVm hW'.alike, X.tail, State.WarmedH.trans X.warmed hW', X.limits, X.bytes, X.same.trans (hsame.setVm s.vm)⟩,
      ⟨g, mk, s₂, L, rfl, rfl, hqc, rfl, hL, rfl, rfl⟩, ?_⟩
    show Steps p.tables e below _ ((({ U with heap := s₂.heap, slotsUsed := s₂.slotsUsed } : State).setVm s₂.vm).setTop { g with pc := g.pc + len₂, stack := v.toList ++ g.stack })
    rw [← hs₂]
    exact hsteps
  · obtain ⟨e2, q2, q3, q4, q5, q6⟩ := id hsm
    have e3 : s₂ = ({ (U.calling g mk a).setFrames s₂.frames with heap := s₂.heap, slotsUsed := s₂.slotsUsed } : State).setVm s₂.vm := by
      have : s₂ = ({ s₂ with vm := (U.calling g mk a).vm } : State).setVm s₂.vm := rfl
      rw [e2] at this
      exact this
    have hf₂ : s₂.frames = .throwing q :: .java g :: U.frames.tail := hend
    have hW' : U.WarmedH s₂.vm := hW₂
    have hs₂ : s₂ = ((({ U with heap := s₂.heap, slotsUsed := s₂.slotsUsed } : State).setVm s₂.vm).setTop g).pushFrame (.throwing q) := by
      refine e3.trans ?_
      rw [hf₂, State.calling_eq h.top, State.setFrames_setFrames, State.pushFrame, State.frames_setTop _ hr', State.setTop_of_frames _ hr', State.setFrames_setFrames, hr]
      rfl
    have hsame : U.sameButNew ({ U with heap := s₂.heap, slotsUsed := s₂.slotsUsed } : State) L mc ms := by
      refine ⟨?_, q2, q3, q4, q5, q6⟩
      obtain ⟨t, ht, -⟩ := State.frames_cons hr
      show ({ U with heap := s₂.heap, slotsUsed := s₂.slotsUsed } : State) = { U.setFrames U.frames with heap := s₂.heap, slotsUsed := s₂.slotsUsed }
      rw [State.setFrames_self ht]
    subst hg
    refine Or.inr ⟨q, ⟨(({ U with heap := s₂.heap, slotsUsed := s₂.slotsUsed } : State).setVm s₂.vm), Ls ++ L, c0 + mc, s0 + ms⟩,
      ⟨X.admits, X.cas, X.clock, X.frames, X.room, X.hears, X.method, X.code, (X.here.setHeapUsed s₂.heap s₂.slotsUsed).setVm hW'.alike, X.tail, State.WarmedH.trans X.warmed hW', X.limits, X.bytes, X.same.trans (hsame.setVm s.vm)⟩,
      ⟨g, mk, s₂, L, E, ce, rfl, rfl, hx, hce, hcv, hcl, rfl, hL, rfl, rfl⟩, ?_⟩
    show Steps p.tables e below _ (((({ U with heap := s₂.heap, slotsUsed := s₂.slotsUsed } : State).setVm s₂.vm).setTop g).pushFrame (.throwing q))
    rw [← hs₂]
    exact hsteps
end
variable {p : Program} {l : Launch} {e : Env} {R : Room} {s : State} {m : MethodId} {args : Array Value} {below : List Frame} {meth : Method} {c : Code} {T : State} {H : Heap} {locs : List Loc} {cells slots : Nat}
theorem vx_callVX (X : Stand p l e R s m args below meth c T locs cells slots) (hexec : p.tables.exec = Jvm.exec) {own C : String} {index : Nat} {y : MethodName} {bytes : ByteArray} {maxL : Nat} {ret : Option FieldType} {hh : List (Nat × Nat × Nat × Nat)}
    (hown : s.vm.findClass own = some m.cls) (hlink : (Cond.methodLink own index y).before args s = true) (hinst : (Cond.instanceMethod y).before args s = true) (hsel : (Cond.selects C y y).before args s = true)
    (hcode : (Cond.codeWith y bytes maxL ret hh).before args s = true) (hy : y.cls ≠ "java/lang/invoke/MethodHandle" ∧ y.cls ≠ "java/lang/invoke/VarHandle")
    {W9 : Nat} {Pre : Pt → Array Value → Prop} {Post : Pt → Array Value → Option Value → Pt → Prop} {PostX : Pt → Array Value → Addr → Pt → Prop} (hK : vx_Back l R p e below s args y 3 W9 Pre Post PostX)
    {b : Addr} {cellB : Cell} (hcell : T.heap[b]? = some cellB) (hobj : cellB.vm.isStatics = false) (hcls : s.vm.findClass C = some cellB.cls)
    {g : JFrame} (hg : g.method = m) (hsize : g.locals.size = c.maxLocals) {argsL rest : List Value} (hlen : ∀ sig, parseMethodDescriptor y.desc = some sig → argsL.length = sig.parameters.length)
    (hstack : g.stack = argsL.reverse ++ .ref b :: rest) (hW : 2 * g.monitorRoom + (rest.map fun v => v.category).sum ≤ W9) (hdg : decode c.code g.pc = .ok (.invokevirtual index, 3))
    (hpre : ∀ vm₁, s.WarmedH vm₁ → Pre ⟨T.setVm vm₁, locs, cells, slots⟩ (Value.ref b :: argsL).toArray) :
    (∃ (v : Option Value) (vm₁ : Vm) (B : Pt), s.WarmedH vm₁ ∧ Stand p l e R s m args below meth c B.U B.locs B.cells B.slots ∧ Post ⟨T.setVm vm₁, locs, cells, slots⟩ (Value.ref b :: argsL).toArray v B ∧
      ∀ target, Steps p.tables e below (B.U.setTop { g with pc := g.pc + 3, stack := v.toList ++ rest }) target → Steps p.tables e below (T.setTop g) target) ∨
    (∃ (q : Addr) (vm₁ : Vm) (B : Pt), s.WarmedH vm₁ ∧ Stand p l e R s m args below meth c B.U B.locs B.cells B.slots ∧ PostX ⟨T.setVm vm₁, locs, cells, slots⟩ (Value.ref b :: argsL).toArray q B ∧
      Steps p.tables e below (T.setTop g) ((B.U.setTop { g with stack := rest }).pushFrame (.throwing q))) := by
  obtain ⟨mk, methM, hnamed, hmethM, hstM, habM⟩ := Cond.instanceMethod_spec hinst
  obtain ⟨m8, methM', cM, hn8, hmethM', -, -, -, -, -, -, hsigM⟩ := Cond.codeWith_spec hcode
  cases Option.some.inj (hn8.symm.trans hnamed)
  cases hmethM.symm.trans hmethM'
  obtain ⟨c2, r2, m2, q1, q2, q3, q4, kP, hkP, hkPi⟩ := Cond.selects_spec hsel
  cases hcls.symm.trans q1
  cases (State.methodFound?_of_named hnamed hy).symm.trans q2
  cases hnamed.symm.trans q3
  have hselP : selectMethod e.platform s.vm cellB.cls mk = .method mk := by rw [Launch.admits_selectMethod X.admits]; exact q4
  obtain ⟨vm₁, X₁, hstep₁⟩ := X.invokevirtual hexec hown hlink hnamed hmethM hstM hkP hkPi hy (a := b) (cell := cellB) hcell
    (fun z h => by rw [h] at hobj; cases hobj) hselP hmethM habM hkP hkPi (g := g) hg (argsL := argsL) (rest := rest) (hlen _ hsigM) hstack hdg
  rcases hK m meth c ⟨T.setVm vm₁, locs, cells, slots⟩ { g with stack := rest } (.invokevirtual index) mk (Value.ref b :: argsL).toArray X₁ hg hsize hdg hW (X₁.named hnamed) (hpre vm₁ X₁.warmed) with ⟨v, B, X', hpost, hsteps⟩ | ⟨q, B, X', hpost, hsteps⟩
  · exact Or.inl ⟨v, vm₁, B, X₁.warmed, X', hpost, fun target h => hstep₁ _ fun acts => by rw [doInvoke_state]; exact hsteps.trans h⟩
  · exact Or.inr ⟨q, vm₁, B, X₁.warmed, X', hpost, hstep₁ _ fun acts => by rw [doInvoke_state]; exact hsteps⟩
theorem vx_callSX (X : Stand p l e R s m args below meth c T locs cells slots) (hexec : p.tables.exec = Jvm.exec) {own : String} {index : Nat} {y : MethodName} {bytes : ByteArray} {maxL : Nat} {ret : Option FieldType} {hh : List (Nat × Nat × Nat × Nat)}
    (hown : s.vm.findClass own = some m.cls) (hlink : (Cond.methodLink own index y).before args s = true) (hstat : (Cond.static y).before args s = true) (hinit : (Cond.initialized y.cls).before args s = true)
    (hcode : (Cond.codeWith y bytes maxL ret hh).before args s = true) (hy : y.cls ≠ "java/lang/invoke/MethodHandle" ∧ y.cls ≠ "java/lang/invoke/VarHandle")
    {W9 : Nat} {Pre : Pt → Array Value → Prop} {Post : Pt → Array Value → Option Value → Pt → Prop} {PostX : Pt → Array Value → Addr → Pt → Prop} (hK : vx_Back l R p e below s args y 3 W9 Pre Post PostX)
    {g : JFrame} (hg : g.method = m) (hsize : g.locals.size = c.maxLocals) {argsL rest : List Value} (hlen : ∀ sig, parseMethodDescriptor y.desc = some sig → argsL.length = sig.parameters.length)
    (hstack : g.stack = argsL.reverse ++ rest) (hW : 2 * g.monitorRoom + (rest.map fun v => v.category).sum ≤ W9) (hdg : decode c.code g.pc = .ok (.invokestatic index, 3))
    (hpre : ∀ vm₁, s.WarmedH vm₁ → Pre ⟨T.setVm vm₁, locs, cells, slots⟩ argsL.toArray) :
    (∃ (v : Option Value) (vm₁ : Vm) (B : Pt), s.WarmedH vm₁ ∧ Stand p l e R s m args below meth c B.U B.locs B.cells B.slots ∧ Post ⟨T.setVm vm₁, locs, cells, slots⟩ argsL.toArray v B ∧
      ∀ target, Steps p.tables e below (B.U.setTop { g with pc := g.pc + 3, stack := v.toList ++ rest }) target → Steps p.tables e below (T.setTop g) target) ∨
    (∃ (q : Addr) (vm₁ : Vm) (B : Pt), s.WarmedH vm₁ ∧ Stand p l e R s m args below meth c B.U B.locs B.cells B.slots ∧ PostX ⟨T.setVm vm₁, locs, cells, slots⟩ argsL.toArray q B ∧
      Steps p.tables e below (T.setTop g) ((B.U.setTop { g with stack := rest }).pushFrame (.throwing q))) := by
  obtain ⟨mk, methM, cM, hnamed, hmethM, -, -, -, -, -, -, hsigM⟩ := Cond.codeWith_spec hcode
  have hstatic : methM.isStatic = true := Cond.static_spec hnamed hmethM hstat
  obtain ⟨kP, hkP, -⟩ := className_of_methodNamed hnamed
  have hinitP : kP.init = .initialized := Cond.initialized_spec (findClass_of_methodNamed hnamed) hkP hinit
  obtain ⟨vm₁, X₁, hstep₁⟩ := X.invokestatic hexec hown hlink hnamed hmethM hstatic hkP hinitP hy (g := g) hg (argsL := argsL) (rest := rest) (hlen _ hsigM) hstack hdg
  rcases hK m meth c ⟨T.setVm vm₁, locs, cells, slots⟩ { g with stack := rest } (.invokestatic index) mk argsL.toArray X₁ hg hsize hdg hW (X₁.named hnamed) (hpre vm₁ X₁.warmed) with ⟨v, B, X', hpost, hsteps⟩ | ⟨q, B, X', hpost, hsteps⟩
  · exact Or.inl ⟨v, vm₁, B, X₁.warmed, X', hpost, fun target h => hstep₁ _ fun acts => by rw [doInvoke_state]; exact hsteps.trans h⟩
  · exact Or.inr ⟨q, vm₁, B, X₁.warmed, X', hpost, hstep₁ _ fun acts => by rw [doInvoke_state]; exact hsteps⟩
theorem vx_callVW (X : Stand p l e R s m args below meth c T locs cells slots) (hexec : p.tables.exec = Jvm.exec) {own C : String} {index : Nat} {y : MethodName} {bytes : ByteArray} {maxL : Nat} {ret : Option FieldType} {hh : List (Nat × Nat × Nat × Nat)}
    (hown : s.vm.findClass own = some m.cls) (hlink : (Cond.methodLink own index y).before args s = true) (hinst : (Cond.instanceMethod y).before args s = true) (hsel : (Cond.selects C y y).before args s = true)
    (hcode : (Cond.codeWith y bytes maxL ret hh).before args s = true) (hy : y.cls ≠ "java/lang/invoke/MethodHandle" ∧ y.cls ≠ "java/lang/invoke/VarHandle")
    {W9 : Nat} {Pre : Pt → Array Value → Prop} {Post : Pt → Array Value → Option Value → Pt → Prop} (hK : Back l R p e below s args y 3 W9 Pre Post)
    {b : Addr} {cellB : Cell} (hcell : T.heap[b]? = some cellB) (hobj : cellB.vm.isStatics = false) (hcls : s.vm.findClass C = some cellB.cls)
    {g : JFrame} (hg : g.method = m) (hsize : g.locals.size = c.maxLocals) {argsL rest : List Value} (hlen : ∀ sig, parseMethodDescriptor y.desc = some sig → argsL.length = sig.parameters.length)
    (hstack : g.stack = argsL.reverse ++ .ref b :: rest) (hW : 2 * g.monitorRoom + (rest.map fun v => v.category).sum ≤ W9) (hdg : decode c.code g.pc = .ok (.invokevirtual index, 3))
    (hpre : ∀ vm₁, s.WarmedH vm₁ → Pre ⟨T.setVm vm₁, locs, cells, slots⟩ (Value.ref b :: argsL).toArray) :
    ∃ (v : Option Value) (vm₁ : Vm) (B : Pt), s.WarmedH vm₁ ∧ Stand p l e R s m args below meth c B.U B.locs B.cells B.slots ∧ Post ⟨T.setVm vm₁, locs, cells, slots⟩ (Value.ref b :: argsL).toArray v B ∧
      ∀ target, Steps p.tables e below (B.U.setTop { g with pc := g.pc + 3, stack := v.toList ++ rest }) target → Steps p.tables e below (T.setTop g) target := by
  obtain ⟨mk, methM, hnamed, hmethM, hstM, habM⟩ := Cond.instanceMethod_spec hinst
  obtain ⟨m8, methM', cM, hn8, hmethM', -, -, -, -, -, -, hsigM⟩ := Cond.codeWith_spec hcode
  cases Option.some.inj (hn8.symm.trans hnamed)
  cases hmethM.symm.trans hmethM'
  obtain ⟨c2, r2, m2, q1, q2, q3, q4, kP, hkP, hkPi⟩ := Cond.selects_spec hsel
  cases hcls.symm.trans q1
  cases (State.methodFound?_of_named hnamed hy).symm.trans q2
  cases hnamed.symm.trans q3
  have hselP : selectMethod e.platform s.vm cellB.cls mk = .method mk := by rw [Launch.admits_selectMethod X.admits]; exact q4
  obtain ⟨vm₁, X₁, hstep₁⟩ := X.invokevirtual hexec hown hlink hnamed hmethM hstM hkP hkPi hy (a := b) (cell := cellB) hcell
    (fun z h => by rw [h] at hobj; cases hobj) hselP hmethM habM hkP hkPi (g := g) hg (argsL := argsL) (rest := rest) (hlen _ hsigM) hstack hdg
  obtain ⟨v, B, X', hpost, hsteps⟩ := hK m meth c ⟨T.setVm vm₁, locs, cells, slots⟩ { g with stack := rest } (.invokevirtual index) mk (Value.ref b :: argsL).toArray X₁ hg hsize hdg hW (X₁.named hnamed) (hpre vm₁ X₁.warmed)
  exact ⟨v, vm₁, B, X₁.warmed, X', hpost, fun target h => hstep₁ _ fun acts => by rw [doInvoke_state]; exact hsteps.trans h⟩
abbrev vx_CVW (R : Room) (s : State) (args : Array Value) (own C : String) (index : Nat) (y : MethodName) (bytes : ByteArray) (maxL : Nat) (ret : Option FieldType) (hh : List (Nat × Nat × Nat × Nat)) (ws : List Cond) (rm : Room) (mc ms n : Nat) : Prop :=
  (rm.cells = mc ∧ rm.slots = ms ∧ rm.frames + 1 ≤ R.frames ∧ 8 + (maxL + 11) + rm.locals ≤ R.locals ∧ (∀ w ∈ ws, ∀ (a' : Array Value) (U : State), s.WarmedH U.vm → w.before a' U = true) ∧ Cond.codeWith y bytes maxL ret hh ∈ ws) ∧
  (Cond.codeWith y bytes maxL ret hh).before args s = true ∧ (Cond.initialized y.cls).before args s = true ∧ (y.cls ≠ "java/lang/invoke/MethodHandle" ∧ y.cls ≠ "java/lang/invoke/VarHandle") ∧
  (∀ sig, parseMethodDescriptor y.desc = some sig → n = sig.parameters.length) ∧ (Cond.methodLink own index y).before args s = true ∧ (Cond.instanceMethod y).before args s = true ∧ (Cond.selects C y y).before args s = true
theorem vx_cwVW {own C : String} {index maxL mc ms : Nat} {y : MethodName} {bytes : ByteArray} {ret : Option FieldType} {hh : List (Nat × Nat × Nat × Nat)} {Ts ws ws' : List Cond} {rm : Room} (n : Nat) (ht : ∀ w ∈ Ts, w.before args s = true) (hT : GoodIn Ts (wsV own index C y ws)) (hw : ws = Cond.codeWith y bytes maxL ret hh :: ws') (hrc : rm.cells = mc) (hrs : rm.slots = ms)
    (hd : y.cls = C ∧ y.cls ≠ "java/lang/invoke/MethodHandle" ∧ y.cls ≠ "java/lang/invoke/VarHandle" ∧ (parseMethodDescriptor y.desc).map (fun d => d.parameters.length) = some n) (hR : rm.frames + 1 ≤ R.frames ∧ 8 + (maxL + 11) + rm.locals ≤ R.locals) :
    vx_CVW R s args own C index y bytes maxL ret hh ws rm mc ms n := by
  obtain ⟨hC, hd⟩ := hd
  subst hC
  have ok : ∀ w ∈ wsV own index y.cls y ws, w.before args s = true := fun w h => ht w (hT w h).1
  have hG : GoodIn Ts ws := fun w h => hT w (by unfold wsV; exact List.mem_append_right _ h)
  have hc : Cond.codeWith y bytes maxL ret hh ∈ ws := by rw [hw]; exact List.mem_cons_self
  refine ⟨⟨hrc, hrs, hR.1, hR.2, pay_in ht hG, hc⟩, ht _ (hG _ hc).1, ok _ (by simp [wsV]), ⟨hd.1, hd.2.1⟩, fun sig h => ?_, ok _ (by simp [wsV]), ok _ (by simp [wsV]), ok _ (by simp [wsV])⟩
  have h2 := hd.2.2
  rw [h] at h2
  exact (Option.some.inj h2).symm
theorem vx_runVW {y : MethodName} {bytes cc : ByteArray} {maxL nL mc ms n index : Nat} {ret : Option FieldType} {hh : List (Nat × Nat × Nat × Nat)} {ws : List Cond} {rm : Room} {Pc : Array Value → State → Prop} {Qc : Array Value → State → Outcome → State → Prop} {free : Addr → Prop} {Ts : List Cond} {own C : String} {b : Addr} {As rest : List Value} {g : JFrame}
    (S : CallFix p m c cc nL s args Ts own) (hM : Met l y ws rm Pc Qc mc ms free) (cw : vx_CVW R s args own C index y bytes maxL ret hh ws rm mc ms n) (hp : PreV s H C b Pc As)
    (hg : g.method = m) (hn : As.length = n) (hsize : g.locals.size = nL) (hstack : g.stack = As.reverse ++ .ref b :: rest) (hW : 2 * g.monitorRoom + (rest.map fun v => v.category).sum ≤ 8) (hdg : decode cc g.pc = .ok (.invokevirtual index, 3)) (hf : cells + mc ≤ R.cells ∧ slots + ms ≤ R.slots) :
    va_Run p l e R s m args below meth c H locs cells slots mc ms g rest (Qc (Value.ref b :: As).toArray) free := by
  obtain ⟨⟨hrc, hrs, hfr, hlo, hws, hcw⟩, hcode, hini, hy, hlen, hl, hin, hse⟩ := cw
  have hK : Back l R p e below s args y 3 8 (PreOf R mc ms Pc) (PostOf Qc mc ms free) := va_backW (hh := hh) (bytes := bytes) (maxL := maxL) (ret := ret) hM hp.1 hrc hrs hfr hlo hws hcw (fun a' U hW => word_at hW (Or.inl (by first | rfl | simp [Cond.onTables, Cond.keeps, Cond.steady])) hini)
  obtain ⟨hx, hb, hml, ho, -⟩ := S
  obtain ⟨-, ⟨cellB, hcB, hoB, hclB⟩, hPc⟩ := hp
  intro T hT X
  obtain ⟨v, vm₁, ⟨U', l2, c2, s2⟩, hW₁, X', ⟨g', mk, t, L, e1, e2, hq, h1, hL, h2, h3⟩, st⟩ := vx_callVW X hx (C := C) (hh := hh) (bytes := bytes) (maxL := maxL) (ret := ret) ho hl hin hse hcode hy hK (by rw [hT]; exact hcB) hoB hclB hg (hsize.trans hml.symm) (argsL := As) (rest := rest) (fun sig h => hn.trans (hlen sig h)) hstack hW (by rw [hb]; exact hdg)
    (fun vm₁ hW₁ => ⟨hf.1, hf.2, hPc (T.setVm vm₁) hT hW₁⟩)
  dsimp only [Pt.U, Pt.locs, Pt.cells, Pt.slots] at X' e1 e2 h1 h2 h3 st
  subst h1; subst h2; subst h3
  exact ⟨v, (T.setVm vm₁).calling g' mk (Value.ref b :: As).toArray, t, U', L, hT, X', hL, e1, e2, hq, st⟩
section
variable {y : MethodName} {bytes cc : ByteArray} {maxL nL mc ms n index : Nat} {ret : Option FieldType} {ws : List Cond} {rm : Room} {Pc : Array Value → State → Prop} {Qc : Array Value → State → Outcome → State → Prop} {XC : String → State → State → Prop} {free : Addr → Prop} {Ts : List Cond} {own C : String} {b : Addr} {As rest : List Value} {g : JFrame}
theorem vx_runVX {hh : List (Nat × Nat × Nat × Nat)} (S : CallFix p m c cc nL s args Ts own) (hM : vx_Met l y ws rm Pc Qc XC mc ms free) (cw : vx_CVW R s args own C index y bytes maxL ret hh ws rm mc ms n) (hp : PreV s H C b Pc As)
    (hg : g.method = m) (hn : As.length = n) (hsize : g.locals.size = nL) (hstack : g.stack = As.reverse ++ .ref b :: rest) (hW : 2 * g.monitorRoom + (rest.map fun v => v.category).sum ≤ 8) (hdg : decode cc g.pc = .ok (.invokevirtual index, 3)) (hf : cells + mc ≤ R.cells ∧ slots + ms ≤ R.slots) :
    vx_Run p l e R s m args below meth c H locs cells slots mc ms g rest (Qc (Value.ref b :: As).toArray) XC free := by
  obtain ⟨⟨hrc, hrs, hfr, hlo, hws, hcw⟩, hcode, hini, hy, hlen, hl, hin, hse⟩ := cw
  have hK : vx_Back l R p e below s args y 3 8 (PreOf R mc ms Pc) (PostOf Qc mc ms free) (vx_Post XC mc ms free) := vx_backW (hh := hh) (bytes := bytes) (maxL := maxL) (ret := ret) hM hp.1 hrc hrs hfr hlo hws hcw (fun a' U hW => word_at hW (Or.inl (by first | rfl | simp [Cond.onTables, Cond.keeps, Cond.steady])) hini)
  obtain ⟨hx, hb, hml, ho, -⟩ := S
  obtain ⟨-, ⟨cellB, hcB, hoB, hclB⟩, hPc⟩ := hp
  intro T hT X
  rcases vx_callVX X hx (C := C) (hh := hh) (bytes := bytes) (maxL := maxL) (ret := ret) ho hl hin hse hcode hy hK (by rw [hT]; exact hcB) hoB hclB hg (hsize.trans hml.symm) (argsL := As) (rest := rest) (fun sig h => hn.trans (hlen sig h)) hstack hW (by rw [hb]; exact hdg)
    (fun vm₁ hW₁ => ⟨hf.1, hf.2, hPc (T.setVm vm₁) hT hW₁⟩) with ⟨v, vm₁, ⟨U', l2, c2, s2⟩, hW₁, X', ⟨g', mk, t, L, e1, e2, hq, h1, hL, h2, h3⟩, st⟩ | ⟨q, vm₁, ⟨U', l2, c2, s2⟩, hW₁, X', ⟨g', mk, t, L, E, ce, e1, e2, hq, hce, hcv, hcl, h1, hL, h2, h3⟩, st⟩
  · dsimp only [Pt.U, Pt.locs, Pt.cells, Pt.slots] at X' e1 e2 h1 h2 h3 st
    subst h1; subst h2; subst h3
    exact Or.inl ⟨v, (T.setVm vm₁).calling g' mk (Value.ref b :: As).toArray, t, U', L, hT, X', hL, e1, e2, hq, st⟩
  · dsimp only [Pt.U, Pt.locs, Pt.cells, Pt.slots] at X' e1 e2 h1 h2 h3 st hcl
    subst h1; subst h2; subst h3
    exact Or.inr ⟨q, (T.setVm vm₁).calling g' mk (Value.ref b :: As).toArray, t, U', L, E, ce, hT, X', hL, e1, e2, hq, hce, hcv, vx_cls hW₁ hcl, st⟩
theorem vx_runSX {hh : List (Nat × Nat × Nat × Nat)} (S : CallFix p m c cc nL s args Ts own) (hM : vx_Met l y ws rm Pc Qc XC mc ms free) (cw : vx_CSW R s args own index y bytes maxL ret hh ws rm mc ms n) (hp : PreS s H Pc As)
    (hg : g.method = m) (hn : As.length = n) (hsize : g.locals.size = nL) (hstack : g.stack = As.reverse ++ rest) (hW : 2 * g.monitorRoom + (rest.map fun v => v.category).sum ≤ 8) (hdg : decode cc g.pc = .ok (.invokestatic index, 3)) (hf : cells + mc ≤ R.cells ∧ slots + ms ≤ R.slots) :
    vx_Run p l e R s m args below meth c H locs cells slots mc ms g rest (Qc As.toArray) XC free := by
  obtain ⟨⟨hrc, hrs, hfr, hlo, hws, hcw⟩, hcode, hini, hy, hlen, hl, hstt⟩ := cw
  have hK : vx_Back l R p e below s args y 3 8 (PreOf R mc ms Pc) (PostOf Qc mc ms free) (vx_Post XC mc ms free) := vx_backW (hh := hh) (bytes := bytes) (maxL := maxL) (ret := ret) hM hp.1 hrc hrs hfr hlo hws hcw (fun a' U hW => word_at hW (Or.inl (by first | rfl | simp [Cond.onTables, Cond.keeps, Cond.steady])) hini)
  obtain ⟨hx, hb, hml, ho, -⟩ := S
  intro T hT X
  rcases vx_callSX X hx (hh := hh) (bytes := bytes) (maxL := maxL) (ret := ret) ho hl hstt hini hcode hy hK hg (hsize.trans hml.symm) (argsL := As) (rest := rest) (fun sig h => hn.trans (hlen sig h)) hstack hW (by rw [hb]; exact hdg)
    (fun vm₁ hW₁ => ⟨hf.1, hf.2, hp.2 (T.setVm vm₁) hT hW₁⟩) with ⟨v, vm₁, ⟨U', l2, c2, s2⟩, hW₁, X', ⟨g', mk, t, L, e1, e2, hq, h1, hL, h2, h3⟩, st⟩ | ⟨q, vm₁, ⟨U', l2, c2, s2⟩, hW₁, X', ⟨g', mk, t, L, E, ce, e1, e2, hq, hce, hcv, hcl, h1, hL, h2, h3⟩, st⟩
  · dsimp only [Pt.U, Pt.locs, Pt.cells, Pt.slots] at X' e1 e2 h1 h2 h3 st
    subst h1; subst h2; subst h3
    exact Or.inl ⟨v, (T.setVm vm₁).calling g' mk As.toArray, t, U', L, hT, X', hL, e1, e2, hq, st⟩
  · dsimp only [Pt.U, Pt.locs, Pt.cells, Pt.slots] at X' e1 e2 h1 h2 h3 st hcl
    subst h1; subst h2; subst h3
    exact Or.inr ⟨q, (T.setVm vm₁).calling g' mk As.toArray, t, U', L, E, ce, hT, X', hL, e1, e2, hq, hce, hcv, vx_cls hW₁ hcl, st⟩
end
end VXH
theorem vx_ofWH {l : Launch} {y : MethodName} {ws ws' : List Cond} {rm : Room} {Pc : Array Value → State → Prop} {Qc : Array Value → State → Outcome → State → Prop} {XC : String → State → State → Prop} {mc ms : Nat} {free : Addr → Prop} {cc : ByteArray} {maxL : Nat} {ret : Option FieldType} {hh : List (Nat × Nat × Nat × Nat)}
    (hy : plainName y.cls = true) (hw : ws = Cond.codeWith y cc maxL ret hh :: ws')
    (body : ∀ p e s m args below meth c s₁, BodyLoose p l y (headSpec ws rm) cc maxL ret e s m args below meth c s₁ → c.maxLocals = maxL → Pc args s →
      W p l e (headSpec ws rm).room s m args below meth c s.heap [] 0 0 (vx_MQ below Qc XC args s mc ms free) (entryFrame m args maxL)) : vx_Met l y ws rm Pc Qc XC mc ms free := by
  refine MetFree.of_bodyS (code := cc) (maxLocals := maxL) (ret := ret) hy ?_ ?_
  · intro args s m h hn
    obtain ⟨m9, meth, c, hn9, h1, h2, h3, h4, -, h5, h6, -⟩ := Cond.codeWith_spec (atoms_spec (ws := ws) h _ (by rw [hw]; exact List.mem_cons_self))
    cases hn.symm.trans hn9
    exact ⟨meth, c, h1, h2, h3, h4, h5, h6⟩
  · intro p e s m args below meth c s₁ B hml hP _
    have hh0 : s₁.heap = s.heap := by rw [B.state]; rfl
    obtain ⟨t, a1, o, b1, b2, b3⟩ := body p e s m args below meth c s₁ B hml hP s₁ hh0 (Stand.of_body B)
    exact ⟨t, o, a1, b1, b2, b3⟩
/-! ===== END ===== -/
end
section
/-! ===== BEGIN printed: names, fields, word lists, decode rows ===== -/
def RX0 : String := "SnowFences$Fence"
def TX0 : u_T := fun k => match k with
  | 0 => ("SnowFences$Fence", "column", "I", true)
  | 1 => ("SnowFences$Fence", "row", "I", true)
  | 2 => ("SnowFences$Fence", "strip", "LSnowFences$Strip;", true)
  | 3 => ("SnowFences$Fence", "height", "I", false)
  | _ => ("SnowFences$Fence", "gap", "I", false)
def tyX0 : Nat → FieldType := fun k => match k with
  | 0 => .int
  | 1 => .int
  | 2 => .object "SnowFences$Strip"
  | 3 => .int
  | _ => .int
abbrev wsX00 : List Cond := u_ws RX0 TX0 5
theorem nmX0 : ∀ a, a < 5 → ∀ b, b < 5 → a ≠ b → (TX0 a).2.1 ≠ (TX0 b).2.1 := by decide +kernel
theorem tyX0_ok : ∀ k, k < 5 → parseFieldDescriptor (TX0 k).2.2.1 = some (tyX0 k) := by decide +kernel
abbrev cX0_init : ByteArray := prog_2_method_1_code
def yX0_init : MethodName := ⟨RX0, "<init>", "(IILSnowFences$Strip;II)V"⟩
def RX1 : String := "SnowFences$Ground"
def TX1 : u_T := fun k => match k with
  | _ => ("SnowFences$Ground", "depths", "[I", true)
def tyX1 : Nat → FieldType := fun k => match k with
  | _ => .array .int
abbrev wsX10 : List Cond := u_ws RX1 TX1 1
theorem nmX1 : ∀ a, a < 1 → ∀ b, b < 1 → a ≠ b → (TX1 a).2.1 ≠ (TX1 b).2.1 := by decide +kernel
theorem tyX1_ok : ∀ k, k < 1 → parseFieldDescriptor (TX1 k).2.2.1 = some (tyX1 k) := by decide +kernel
abbrev cX1_init : ByteArray := prog_3_method_1_code
def yX1_init : MethodName := ⟨RX1, "<init>", "()V"⟩
abbrev cX1_depth : ByteArray := prog_3_method_2_code
def yX1_depth : MethodName := ⟨RX1, "depth", "(I)I"⟩
abbrev cX1_put : ByteArray := prog_3_method_3_code
def yX1_put : MethodName := ⟨RX1, "put", "(II)V"⟩
abbrev cX1_becomeLike : ByteArray := prog_3_method_4_code
def yX1_becomeLike : MethodName := ⟨RX1, "becomeLike", "(LSnowFences$Ground;)V"⟩
abbrev cX1_clear : ByteArray := prog_3_method_5_code
def yX1_clear : MethodName := ⟨RX1, "clear", "(LSnowFences$Strip;)V"⟩
abbrev cX1_sum : ByteArray := prog_3_method_6_code
def yX1_sum : MethodName := ⟨RX1, "sum", "(LSnowFences$Strip;)I"⟩
abbrev cX1_most : ByteArray := prog_3_method_7_code
def yX1_most : MethodName := ⟨RX1, "most", "(LSnowFences$Strip;)I"⟩
abbrev cX1_blocked : ByteArray := prog_3_method_8_code
def yX1_blocked : MethodName := ⟨RX1, "blocked", "(LSnowFences$Strip;I)I"⟩
def RX2 : String := "SnowFences$Road"
def TX2 : u_T := fun k => match k with
  | 0 => ("SnowFences$Road", "index", "I", true)
  | _ => ("SnowFences$Road", "strip", "LSnowFences$Strip;", true)
def tyX2 : Nat → FieldType := fun k => match k with
  | 0 => .int
  | _ => .object "SnowFences$Strip"
abbrev wsX20 : List Cond := u_ws RX2 TX2 2
theorem nmX2 : ∀ a, a < 2 → ∀ b, b < 2 → a ≠ b → (TX2 a).2.1 ≠ (TX2 b).2.1 := by decide +kernel
theorem tyX2_ok : ∀ k, k < 2 → parseFieldDescriptor (TX2 k).2.2.1 = some (tyX2 k) := by decide +kernel
abbrev cX2_init : ByteArray := prog_4_method_1_code
def yX2_init : MethodName := ⟨RX2, "<init>", "(ILSnowFences$Strip;)V"⟩
def RX3 : String := "SnowFences$Screens"
def TX3 : u_T := fun k => match k with
  | 0 => ("SnowFences$Screens", "heights", "[I", true)
  | _ => ("SnowFences$Screens", "gaps", "[I", true)
def tyX3 : Nat → FieldType := fun k => match k with
  | 0 => .array .int
  | _ => .array .int
abbrev wsX30 : List Cond := u_ws RX3 TX3 2
theorem nmX3 : ∀ a, a < 2 → ∀ b, b < 2 → a ≠ b → (TX3 a).2.1 ≠ (TX3 b).2.1 := by decide +kernel
theorem tyX3_ok : ∀ k, k < 2 → parseFieldDescriptor (TX3 k).2.2.1 = some (tyX3 k) := by decide +kernel
abbrev cX3_init : ByteArray := prog_5_method_1_code
def yX3_init : MethodName := ⟨RX3, "<init>", "()V"⟩
abbrev cX3_height : ByteArray := prog_5_method_2_code
def yX3_height : MethodName := ⟨RX3, "height", "(I)I"⟩
abbrev cX3_gap : ByteArray := prog_5_method_3_code
def yX3_gap : MethodName := ⟨RX3, "gap", "(I)I"⟩
abbrev cX3_clear : ByteArray := prog_5_method_4_code
def yX3_clear : MethodName := ⟨RX3, "clear", "()V"⟩
abbrev cX3_add : ByteArray := prog_5_method_5_code
def yX3_add : MethodName := ⟨RX3, "add", "(LSnowFences$Strip;II)V"⟩
abbrev cX3_stand : ByteArray := prog_5_method_6_code
def yX3_stand : MethodName := ⟨RX3, "stand", "(III)V"⟩
def RX4 : String := "SnowFences$Strip"
def TX4 : u_T := fun k => match k with
  | 0 => ("SnowFences$Strip", "first", "I", true)
  | 1 => ("SnowFences$Strip", "length", "I", true)
  | _ => ("SnowFences$Strip", "down", "Z", true)
def tyX4 : Nat → FieldType := fun k => match k with
  | 0 => .int
  | 1 => .int
  | _ => .boolean
abbrev wsX40 : List Cond := u_ws RX4 TX4 3
theorem nmX4 : ∀ a, a < 3 → ∀ b, b < 3 → a ≠ b → (TX4 a).2.1 ≠ (TX4 b).2.1 := by decide +kernel
theorem tyX4_ok : ∀ k, k < 3 → parseFieldDescriptor (TX4 k).2.2.1 = some (tyX4 k) := by decide +kernel
abbrev cX4_init : ByteArray := prog_6_method_1_code
def yX4_init : MethodName := ⟨RX4, "<init>", "(IIIZ)V"⟩
abbrev cX4_cell : ByteArray := prog_6_method_2_code
def yX4_cell : MethodName := ⟨RX4, "cell", "(I)I"⟩
def RX5 : String := "SnowFences$Wind"
def TX5 : u_T := fun k => match k with
  | 0 => ("SnowFences$Wind", "down", "Z", true)
  | 1 => ("SnowFences$Wind", "strength", "I", true)
  | 2 => ("SnowFences$Wind", "supply", "I", true)
  | 3 => ("SnowFences$Wind", "firstCell", "I", true)
  | 4 => ("SnowFences$Wind", "nextCell", "I", true)
  | 5 => ("SnowFences$Wind", "nextLine", "I", true)
  | 6 => ("SnowFences$Wind", "carried", "I", false)
  | 7 => ("SnowFences$Wind", "shelter", "I", false)
  | 8 => ("SnowFences$Wind", "sweep", "I", false)
  | _ => ("SnowFences$Wind", "holds", "I", false)
def tyX5 : Nat → FieldType := fun k => match k with
  | 0 => .boolean
  | 1 => .int
  | 2 => .int
  | 3 => .int
  | 4 => .int
  | 5 => .int
  | 6 => .int
  | 7 => .int
  | 8 => .int
  | _ => .int
abbrev wsX50 : List Cond := u_ws RX5 TX5 10
theorem nmX5 : ∀ a, a < 10 → ∀ b, b < 10 → a ≠ b → (TX5 a).2.1 ≠ (TX5 b).2.1 := by decide +kernel
theorem tyX5_ok : ∀ k, k < 10 → parseFieldDescriptor (TX5 k).2.2.1 = some (tyX5 k) := by decide +kernel
abbrev cX5_init : ByteArray := prog_7_method_1_code
def yX5_init : MethodName := ⟨RX5, "<init>", "(III)V"⟩
abbrev cX5_crossField : ByteArray := prog_7_method_2_code
def yX5_crossField : MethodName := ⟨RX5, "crossField", "(LSnowFences$Ground;LSnowFences$Screens;)I"⟩
abbrev cX5_passLine : ByteArray := prog_7_method_3_code
def yX5_passLine : MethodName := ⟨RX5, "passLine", "(LSnowFences$Ground;LSnowFences$Screens;I)I"⟩
abbrev cX5_passCell : ByteArray := prog_7_method_4_code
def yX5_passCell : MethodName := ⟨RX5, "passCell", "(LSnowFences$Ground;LSnowFences$Screens;I)V"⟩
abbrev cX5_dropped : ByteArray := prog_7_method_5_code
def yX5_dropped : MethodName := ⟨RX5, "dropped", "(I)I"⟩
abbrev cX5_pickedUp : ByteArray := prog_7_method_6_code
def yX5_pickedUp : MethodName := ⟨RX5, "pickedUp", "(I)I"⟩
def RX6 : String := "SnowFences"
def TX6 : u_T := fun k => match k with
  | 0 => ("SnowFences", "fences", "Ljava/util/ArrayList;", true)
  | 1 => ("SnowFences", "roads", "Ljava/util/ArrayList;", true)
  | 2 => ("SnowFences", "whole", "LSnowFences$Strip;", true)
  | 3 => ("SnowFences", "ground", "LSnowFences$Ground;", true)
  | 4 => ("SnowFences", "trial", "LSnowFences$Ground;", true)
  | 5 => ("SnowFences", "screens", "LSnowFences$Screens;", true)
  | 6 => ("SnowFences", "limit", "I", false)
  | 7 => ("SnowFences", "supply", "I", false)
  | 8 => ("SnowFences", "carriedOff", "I", false)
  | 9 => ("SnowFences", "ploughed", "I", false)
  | _ => ("SnowFences", "windHours", "I", false)
def tyX6 : Nat → FieldType := fun k => match k with
  | 0 => .object "java/util/ArrayList"
  | 1 => .object "java/util/ArrayList"
  | 2 => .object "SnowFences$Strip"
  | 3 => .object "SnowFences$Ground"
  | 4 => .object "SnowFences$Ground"
  | 5 => .object "SnowFences$Screens"
  | 6 => .int
  | 7 => .int
  | 8 => .int
  | 9 => .int
  | _ => .int
abbrev wsX60 : List Cond := u_ws RX6 TX6 11
theorem nmX6 : ∀ a, a < 11 → ∀ b, b < 11 → a ≠ b → (TX6 a).2.1 ≠ (TX6 b).2.1 := by decide +kernel
theorem tyX6_ok : ∀ k, k < 11 → parseFieldDescriptor (TX6 k).2.2.1 = some (tyX6 k) := by decide +kernel
abbrev cX6_init : ByteArray := prog_1_method_1_code
def yX6_init : MethodName := ⟨RX6, "<init>", "()V"⟩
abbrev cX6_fence : ByteArray := prog_1_method_2_code
def yX6_fence : MethodName := ⟨RX6, "fence", "(IIIZII)I"⟩
abbrev cX6_change : ByteArray := prog_1_method_3_code
def yX6_change : MethodName := ⟨RX6, "change", "(III)I"⟩
abbrev cX6_take : ByteArray := prog_1_method_4_code
def yX6_take : MethodName := ⟨RX6, "take", "(I)I"⟩
abbrev cX6_road : ByteArray := prog_1_method_5_code
def yX6_road : MethodName := ⟨RX6, "road", "(ZI)I"⟩
abbrev cX6_setLimit : ByteArray := prog_1_method_6_code
def yX6_setLimit : MethodName := ⟨RX6, "setLimit", "(I)I"⟩
abbrev cX6_setSupply : ByteArray := prog_1_method_7_code
def yX6_setSupply : MethodName := ⟨RX6, "setSupply", "(I)I"⟩
abbrev cX6_fall : ByteArray := prog_1_method_8_code
def yX6_fall : MethodName := ⟨RX6, "fall", "(I)I"⟩
abbrev cX6_blow : ByteArray := prog_1_method_9_code
def yX6_blow : MethodName := ⟨RX6, "blow", "(III)I"⟩
abbrev cX6_plough : ByteArray := prog_1_method_10_code
def yX6_plough : MethodName := ⟨RX6, "plough", "(I)I"⟩
abbrev cX6_snow : ByteArray := prog_1_method_11_code
def yX6_snow : MethodName := ⟨RX6, "snow", "(II)I"⟩
abbrev cX6_about : ByteArray := prog_1_method_12_code
def yX6_about : MethodName := ⟨RX6, "about", "(II)I"⟩
abbrev cX6_told : ByteArray := prog_1_method_13_code
def yX6_told : MethodName := ⟨RX6, "told", "(II)I"⟩
abbrev cX6_count : ByteArray := prog_1_method_14_code
def yX6_count : MethodName := ⟨RX6, "count", "(I)I"⟩
abbrev cX6_would : ByteArray := prog_1_method_15_code
def yX6_would : MethodName := ⟨RX6, "would", "(IIII)I"⟩
abbrev cX6_until : ByteArray := prog_1_method_16_code
def yX6_until : MethodName := ⟨RX6, "until", "(III)I"⟩
abbrev cX6_advise : ByteArray := prog_1_method_17_code
def yX6_advise : MethodName := ⟨RX6, "advise", "(III)I"⟩
abbrev cX6_harmful : ByteArray := prog_1_method_18_code
def yX6_harmful : MethodName := ⟨RX6, "harmful", "(II)I"⟩
abbrev cX6_mean : ByteArray := prog_1_method_19_code
def yX6_mean : MethodName := ⟨RX6, "mean", "()D"⟩
abbrev cX6_digest : ByteArray := prog_1_method_20_code
def yX6_digest : MethodName := ⟨RX6, "digest", "()J"⟩
abbrev cX6_needIndex : ByteArray := prog_1_method_21_code
def yX6_needIndex : MethodName := ⟨RX6, "needIndex", "(II)V"⟩
abbrev cX6_needWind : ByteArray := prog_1_method_22_code
def yX6_needWind : MethodName := ⟨RX6, "needWind", "(I)V"⟩
abbrev cX6_needHeight : ByteArray := prog_1_method_23_code
def yX6_needHeight : MethodName := ⟨RX6, "needHeight", "(I)V"⟩
abbrev cX6_needGap : ByteArray := prog_1_method_24_code
def yX6_needGap : MethodName := ⟨RX6, "needGap", "(I)V"⟩
abbrev cX6_needStrength : ByteArray := prog_1_method_25_code
def yX6_needStrength : MethodName := ⟨RX6, "needStrength", "(I)V"⟩
abbrev cX6_needHours : ByteArray := prog_1_method_26_code
def yX6_needHours : MethodName := ⟨RX6, "needHours", "(I)V"⟩
abbrev cX6_straight : ByteArray := prog_1_method_27_code
def yX6_straight : MethodName := ⟨RX6, "straight", "(ZI)LSnowFences$Strip;"⟩
abbrev cX6_screenAllBut : ByteArray := prog_1_method_28_code
def yX6_screenAllBut : MethodName := ⟨RX6, "screenAllBut", "(I)V"⟩
abbrev cX6_blowOver : ByteArray := prog_1_method_29_code
def yX6_blowOver : MethodName := ⟨RX6, "blowOver", "(LSnowFences$Ground;LSnowFences$Wind;I)I"⟩
abbrev cX6_blockedAfterAdvice : ByteArray := prog_1_method_30_code
def yX6_blockedAfterAdvice : MethodName := ⟨RX6, "blockedAfterAdvice", "(LSnowFences$Wind;)I"⟩
abbrev cX6_blockedOnRoads : ByteArray := prog_1_method_31_code
def yX6_blockedOnRoads : MethodName := ⟨RX6, "blockedOnRoads", "(LSnowFences$Ground;)I"⟩
def RX7 : String := "SnowFencesLaw$Sim"
def TX7 : u_T := fun k => match k with
  | 0 => ("SnowFencesLaw$Sim", "fences", "[[I", false)
  | 1 => ("SnowFencesLaw$Sim", "roads", "[[I", false)
  | 2 => ("SnowFencesLaw$Sim", "snow", "[[I", false)
  | 3 => ("SnowFencesLaw$Sim", "limit", "I", false)
  | 4 => ("SnowFencesLaw$Sim", "supply", "I", false)
  | 5 => ("SnowFencesLaw$Sim", "off", "I", false)
  | 6 => ("SnowFencesLaw$Sim", "ploughed", "I", false)
  | _ => ("SnowFencesLaw$Sim", "hours", "I", false)
def tyX7 : Nat → FieldType := fun k => match k with
  | 0 => .array (.array .int)
  | 1 => .array (.array .int)
  | 2 => .array (.array .int)
  | 3 => .int
  | 4 => .int
  | 5 => .int
  | 6 => .int
  | _ => .int
abbrev wsX70 : List Cond := u_ws RX7 TX7 8
theorem nmX7 : ∀ a, a < 8 → ∀ b, b < 8 → a ≠ b → (TX7 a).2.1 ≠ (TX7 b).2.1 := by decide +kernel
theorem tyX7_ok : ∀ k, k < 8 → parseFieldDescriptor (TX7 k).2.2.1 = some (tyX7 k) := by decide +kernel
abbrev cX7_init : ByteArray := prog_9_method_1_code
def yX7_init : MethodName := ⟨RX7, "<init>", "()V"⟩
abbrev cX7_copy : ByteArray := prog_9_method_2_code
def yX7_copy : MethodName := ⟨RX7, "copy", "()LSnowFencesLaw$Sim;"⟩
abbrev cX7_with : ByteArray := prog_9_method_3_code
def yX7_with : MethodName := ⟨RX7, "with", "([[I[I)[[I"⟩
abbrev cX7_without : ByteArray := prog_9_method_4_code
def yX7_without : MethodName := ⟨RX7, "without", "([[II)[[I"⟩
abbrev cX7_isOn : ByteArray := prog_9_method_5_code
def yX7_isOn : MethodName := ⟨RX7, "isOn", "([III)Z"⟩
abbrev cX7_highest : ByteArray := prog_9_method_6_code
def yX7_highest : MethodName := ⟨RX7, "highest", "(II)[I"⟩
abbrev cX7_over : ByteArray := prog_9_method_7_code
def yX7_over : MethodName := ⟨RX7, "over", "([I[[III)I"⟩
abbrev cX7_spot : ByteArray := prog_9_method_8_code
def yX7_spot : MethodName := ⟨RX7, "spot", "(III)[I"⟩
abbrev cX7_hour : ByteArray := prog_9_method_9_code
def yX7_hour : MethodName := ⟨RX7, "hour", "(II)I"⟩
abbrev cX7_blow : ByteArray := prog_9_method_10_code
def yX7_blow : MethodName := ⟨RX7, "blow", "(III)I"⟩
abbrev cX7_on : ByteArray := prog_9_method_11_code
def yX7_on : MethodName := ⟨RX7, "on", "([II)I"⟩
abbrev cX7_blocked : ByteArray := prog_9_method_12_code
def yX7_blocked : MethodName := ⟨RX7, "blocked", "([I)I"⟩
abbrev cX7_allBlocked : ByteArray := prog_9_method_13_code
def yX7_allBlocked : MethodName := ⟨RX7, "allBlocked", "()I"⟩
abbrev cX7_tried : ByteArray := prog_9_method_14_code
def yX7_tried : MethodName := ⟨RX7, "tried", "([[III)I"⟩
abbrev cX7_isSame : ByteArray := prog_9_method_15_code
def yX7_isSame : MethodName := ⟨RX7, "isSame", "(LSnowFences;)Z"⟩
def RX8 : String := "SnowFencesModel"
def TX8 : u_T := fun k => match k with
  | _ => ("", "", "", false)
def tyX8 : Nat → FieldType := fun k => match k with
  | _ => .int
abbrev wsX80 : List Cond := u_ws RX8 TX8 0
theorem nmX8 : ∀ a, a < 0 → ∀ b, b < 0 → a ≠ b → (TX8 a).2.1 ≠ (TX8 b).2.1 := by decide +kernel
theorem tyX8_ok : ∀ k, k < 0 → parseFieldDescriptor (TX8 k).2.2.1 = some (tyX8 k) := by decide +kernel
def RJx145de : String := "java/io/Serializable"
def TJx145de : u_T := fun k => match k with
  | _ => ("", "", "", false)
def tyJx145de : Nat → FieldType := fun k => match k with
  | _ => .int
abbrev wsJx145de0 : List Cond := u_ws RJx145de TJx145de 0
theorem nmJx145de : ∀ a, a < 0 → ∀ b, b < 0 → a ≠ b → (TJx145de a).2.1 ≠ (TJx145de b).2.1 := by decide +kernel
theorem tyJx145de_ok : ∀ k, k < 0 → parseFieldDescriptor (TJx145de k).2.2.1 = some (tyJx145de k) := by decide +kernel
def RJx8e188 : String := "java/lang/Cloneable"
def TJx8e188 : u_T := fun k => match k with
  | _ => ("", "", "", false)
def tyJx8e188 : Nat → FieldType := fun k => match k with
  | _ => .int
abbrev wsJx8e1880 : List Cond := u_ws RJx8e188 TJx8e188 0
theorem nmJx8e188 : ∀ a, a < 0 → ∀ b, b < 0 → a ≠ b → (TJx8e188 a).2.1 ≠ (TJx8e188 b).2.1 := by decide +kernel
theorem tyJx8e188_ok : ∀ k, k < 0 → parseFieldDescriptor (TJx8e188 k).2.2.1 = some (tyJx8e188 k) := by decide +kernel
def RJxab1ab : String := "java/lang/Iterable"
def TJxab1ab : u_T := fun k => match k with
  | _ => ("", "", "", false)
def tyJxab1ab : Nat → FieldType := fun k => match k with
  | _ => .int
abbrev wsJxab1ab0 : List Cond := u_ws RJxab1ab TJxab1ab 0
theorem nmJxab1ab : ∀ a, a < 0 → ∀ b, b < 0 → a ≠ b → (TJxab1ab a).2.1 ≠ (TJxab1ab b).2.1 := by decide +kernel
theorem tyJxab1ab_ok : ∀ k, k < 0 → parseFieldDescriptor (TJxab1ab k).2.2.1 = some (tyJxab1ab k) := by decide +kernel
def RJ9 : String := "java/lang/Math"
def TJ9 : u_T := fun k => match k with
  | _ => ("", "", "", false)
def tyJ9 : Nat → FieldType := fun k => match k with
  | _ => .int
abbrev wsJ90 : List Cond := u_ws RJ9 TJ9 0
theorem nmJ9 : ∀ a, a < 0 → ∀ b, b < 0 → a ≠ b → (TJ9 a).2.1 ≠ (TJ9 b).2.1 := by decide +kernel
theorem tyJ9_ok : ∀ k, k < 0 → parseFieldDescriptor (TJ9 k).2.2.1 = some (tyJ9 k) := by decide +kernel
abbrev cJ9_max_7cf53 : ByteArray := prog_18_method_65_code
def yJ9_max_7cf53 : MethodName := ⟨RJ9, "max", "(II)I"⟩
abbrev cJ9_min_7cf53 : ByteArray := prog_18_method_69_code
def yJ9_min_7cf53 : MethodName := ⟨RJ9, "min", "(II)I"⟩
def RJ0 : String := "java/lang/String"
def TJ0 : u_T := fun k => match k with
  | _ => ("", "", "", false)
def tyJ0 : Nat → FieldType := fun k => match k with
  | _ => .int
abbrev wsJ00 : List Cond := u_ws RJ0 TJ0 0
theorem nmJ0 : ∀ a, a < 0 → ∀ b, b < 0 → a ≠ b → (TJ0 a).2.1 ≠ (TJ0 b).2.1 := by decide +kernel
theorem tyJ0_ok : ∀ k, k < 0 → parseFieldDescriptor (TJ0 k).2.2.1 = some (tyJ0 k) := by decide +kernel
def RJ10 : String := "java/lang/System"
def TJ10 : u_T := fun k => match k with
  | _ => ("", "", "", false)
def tyJ10 : Nat → FieldType := fun k => match k with
  | _ => .int
abbrev wsJ100 : List Cond := u_ws RJ10 TJ10 0
theorem nmJ10 : ∀ a, a < 0 → ∀ b, b < 0 → a ≠ b → (TJ10 a).2.1 ≠ (TJ10 b).2.1 := by decide +kernel
theorem tyJ10_ok : ∀ k, k < 0 → parseFieldDescriptor (TJ10 k).2.2.1 = some (tyJ10 k) := by decide +kernel
def RJxa1e45 : String := "java/util/AbstractCollection"
def TJxa1e45 : u_T := fun k => match k with
  | _ => ("", "", "", false)
def tyJxa1e45 : Nat → FieldType := fun k => match k with
  | _ => .int
abbrev wsJxa1e450 : List Cond := u_ws RJxa1e45 TJxa1e45 0
theorem nmJxa1e45 : ∀ a, a < 0 → ∀ b, b < 0 → a ≠ b → (TJxa1e45 a).2.1 ≠ (TJxa1e45 b).2.1 := by decide +kernel
theorem tyJxa1e45_ok : ∀ k, k < 0 → parseFieldDescriptor (TJxa1e45 k).2.2.1 = some (tyJxa1e45 k) := by decide +kernel
abbrev cJxa1e45_init_da8c8 : ByteArray := prog_23_method_1_code
def yJxa1e45_init_da8c8 : MethodName := ⟨RJxa1e45, "<init>", "()V"⟩
def RJxc12de : String := "java/util/AbstractList"
def TJxc12de : u_T := fun k => match k with
  | _ => ("", "", "", false)
def tyJxc12de : Nat → FieldType := fun k => match k with
  | _ => .int
abbrev wsJxc12de0 : List Cond := u_ws RJxc12de TJxc12de 0
theorem nmJxc12de : ∀ a, a < 0 → ∀ b, b < 0 → a ≠ b → (TJxc12de a).2.1 ≠ (TJxc12de b).2.1 := by decide +kernel
theorem tyJxc12de_ok : ∀ k, k < 0 → parseFieldDescriptor (TJxc12de k).2.2.1 = some (tyJxc12de k) := by decide +kernel
abbrev cJxc12de_init_da8c8 : ByteArray := prog_24_method_1_code
def yJxc12de_init_da8c8 : MethodName := ⟨RJxc12de, "<init>", "()V"⟩
def RJx4a65c : String := "java/util/ArrayList"
def TJx4a65c : u_T := fun k => match k with
  | 0 => ("java/util/AbstractList", "modCount", "I", false)
  | 1 => ("java/util/ArrayList", "elementData", "[Ljava/lang/Object;", false)
  | _ => ("java/util/ArrayList", "size", "I", false)
def tyJx4a65c : Nat → FieldType := fun k => match k with
  | 0 => .int
  | 1 => .array (.object "java/lang/Object")
  | _ => .int
abbrev wsJx4a65c0 : List Cond := u_ws RJx4a65c TJx4a65c 3
theorem nmJx4a65c : ∀ a, a < 3 → ∀ b, b < 3 → a ≠ b → (TJx4a65c a).2.1 ≠ (TJx4a65c b).2.1 := by decide +kernel
theorem tyJx4a65c_ok : ∀ k, k < 3 → parseFieldDescriptor (TJx4a65c k).2.2.1 = some (tyJx4a65c k) := by decide +kernel
abbrev cJx4a65c_init_da8c8 : ByteArray := prog_25_method_2_code
def yJx4a65c_init_da8c8 : MethodName := ⟨RJx4a65c, "<init>", "()V"⟩
abbrev cJx4a65c_grow_92f84 : ByteArray := prog_25_method_6_code
def yJx4a65c_grow_92f84 : MethodName := ⟨RJx4a65c, "grow", "(I)[Ljava/lang/Object;"⟩
abbrev cJx4a65c_grow_d5877 : ByteArray := prog_25_method_7_code
def yJx4a65c_grow_d5877 : MethodName := ⟨RJx4a65c, "grow", "()[Ljava/lang/Object;"⟩
abbrev cJx4a65c_size_8abf5 : ByteArray := prog_25_method_8_code
def yJx4a65c_size_8abf5 : MethodName := ⟨RJx4a65c, "size", "()I"⟩
abbrev cJx4a65c_elementData_915e3 : ByteArray := prog_25_method_18_code
def yJx4a65c_elementData_915e3 : MethodName := ⟨RJx4a65c, "elementData", "(I)Ljava/lang/Object;"⟩
abbrev cJx4a65c_get_915e3 : ByteArray := prog_25_method_20_code
def yJx4a65c_get_915e3 : MethodName := ⟨RJx4a65c, "get", "(I)Ljava/lang/Object;"⟩
abbrev cJx4a65c_add_72be8 : ByteArray := prog_25_method_24_code
def yJx4a65c_add_72be8 : MethodName := ⟨RJx4a65c, "add", "(Ljava/lang/Object;[Ljava/lang/Object;I)V"⟩
abbrev cJx4a65c_add_9ea2d : ByteArray := prog_25_method_25_code
def yJx4a65c_add_9ea2d : MethodName := ⟨RJx4a65c, "add", "(Ljava/lang/Object;)Z"⟩
abbrev cJx4a65c_remove_915e3 : ByteArray := prog_25_method_29_code
def yJx4a65c_remove_915e3 : MethodName := ⟨RJx4a65c, "remove", "(I)Ljava/lang/Object;"⟩
abbrev cJx4a65c_fastRemove_b59b0 : ByteArray := prog_25_method_39_code
def yJx4a65c_fastRemove_b59b0 : MethodName := ⟨RJx4a65c, "fastRemove", "([Ljava/lang/Object;I)V"⟩
def RJ7 : String := "java/util/Arrays"
def TJ7 : u_T := fun k => match k with
  | _ => ("", "", "", false)
def tyJ7 : Nat → FieldType := fun k => match k with
  | _ => .int
abbrev wsJ70 : List Cond := u_ws RJ7 TJ7 0
theorem nmJ7 : ∀ a, a < 0 → ∀ b, b < 0 → a ≠ b → (TJ7 a).2.1 ≠ (TJ7 b).2.1 := by decide +kernel
theorem tyJ7_ok : ∀ k, k < 0 → parseFieldDescriptor (TJ7 k).2.2.1 = some (tyJ7 k) := by decide +kernel
abbrev cJ7_copyOf_1904c : ByteArray := prog_26_method_119_code
def yJ7_copyOf_1904c : MethodName := ⟨RJ7, "copyOf", "([Ljava/lang/Object;I)[Ljava/lang/Object;"⟩
abbrev cJ7_copyOf_6403c : ByteArray := prog_26_method_120_code
def yJ7_copyOf_6403c : MethodName := ⟨RJ7, "copyOf", "([Ljava/lang/Object;ILjava/lang/Class;)[Ljava/lang/Object;"⟩
def RJx5ef63 : String := "java/util/Collection"
def TJx5ef63 : u_T := fun k => match k with
  | _ => ("", "", "", false)
def tyJx5ef63 : Nat → FieldType := fun k => match k with
  | _ => .int
abbrev wsJx5ef630 : List Cond := u_ws RJx5ef63 TJx5ef63 0
theorem nmJx5ef63 : ∀ a, a < 0 → ∀ b, b < 0 → a ≠ b → (TJx5ef63 a).2.1 ≠ (TJx5ef63 b).2.1 := by decide +kernel
theorem tyJx5ef63_ok : ∀ k, k < 0 → parseFieldDescriptor (TJx5ef63 k).2.2.1 = some (tyJx5ef63 k) := by decide +kernel
def RJxbd725 : String := "java/util/List"
def TJxbd725 : u_T := fun k => match k with
  | _ => ("", "", "", false)
def tyJxbd725 : Nat → FieldType := fun k => match k with
  | _ => .int
abbrev wsJxbd7250 : List Cond := u_ws RJxbd725 TJxbd725 0
theorem nmJxbd725 : ∀ a, a < 0 → ∀ b, b < 0 → a ≠ b → (TJxbd725 a).2.1 ≠ (TJxbd725 b).2.1 := by decide +kernel
theorem tyJxbd725_ok : ∀ k, k < 0 → parseFieldDescriptor (TJxbd725 k).2.2.1 = some (tyJxbd725 k) := by decide +kernel
def RJ15 : String := "java/util/Objects"
def TJ15 : u_T := fun k => match k with
  | _ => ("", "", "", false)
def tyJ15 : Nat → FieldType := fun k => match k with
  | _ => .int
abbrev wsJ150 : List Cond := u_ws RJ15 TJ15 0
theorem nmJ15 : ∀ a, a < 0 → ∀ b, b < 0 → a ≠ b → (TJ15 a).2.1 ≠ (TJ15 b).2.1 := by decide +kernel
theorem tyJ15_ok : ∀ k, k < 0 → parseFieldDescriptor (TJ15 k).2.2.1 = some (tyJ15 k) := by decide +kernel
abbrev cJ15_checkIndex_7cf53 : ByteArray := prog_29_method_17_code
def yJ15_checkIndex_7cf53 : MethodName := ⟨RJ15, "checkIndex", "(II)I"⟩
def RJxf0a74 : String := "java/util/RandomAccess"
def TJxf0a74 : u_T := fun k => match k with
  | _ => ("", "", "", false)
def tyJxf0a74 : Nat → FieldType := fun k => match k with
  | _ => .int
abbrev wsJxf0a740 : List Cond := u_ws RJxf0a74 TJxf0a74 0
theorem nmJxf0a74 : ∀ a, a < 0 → ∀ b, b < 0 → a ≠ b → (TJxf0a74 a).2.1 ≠ (TJxf0a74 b).2.1 := by decide +kernel
theorem tyJxf0a74_ok : ∀ k, k < 0 → parseFieldDescriptor (TJxf0a74 k).2.2.1 = some (tyJxf0a74 k) := by decide +kernel
def RJxa66e6 : String := "java/util/SequencedCollection"
def TJxa66e6 : u_T := fun k => match k with
  | _ => ("", "", "", false)
def tyJxa66e6 : Nat → FieldType := fun k => match k with
  | _ => .int
abbrev wsJxa66e60 : List Cond := u_ws RJxa66e6 TJxa66e6 0
theorem nmJxa66e6 : ∀ a, a < 0 → ∀ b, b < 0 → a ≠ b → (TJxa66e6 a).2.1 ≠ (TJxa66e6 b).2.1 := by decide +kernel
theorem tyJxa66e6_ok : ∀ k, k < 0 → parseFieldDescriptor (TJxa66e6 k).2.2.1 = some (tyJxa66e6 k) := by decide +kernel
def RJ8 : String := "jdk/internal/util/ArraysSupport"
def TJ8 : u_T := fun k => match k with
  | _ => ("", "", "", false)
def tyJ8 : Nat → FieldType := fun k => match k with
  | _ => .int
abbrev wsJ80 : List Cond := u_ws RJ8 TJ8 0
theorem nmJ8 : ∀ a, a < 0 → ∀ b, b < 0 → a ≠ b → (TJ8 a).2.1 ≠ (TJ8 b).2.1 := by decide +kernel
theorem tyJ8_ok : ∀ k, k < 0 → parseFieldDescriptor (TJ8 k).2.2.1 = some (tyJ8 k) := by decide +kernel
abbrev cJ8_newLength_cabcc : ByteArray := prog_32_method_27_code
def yJ8_newLength_cabcc : MethodName := ⟨RJ8, "newLength", "(III)I"⟩
abbrev cJ8_hugeLength_7cf53 : ByteArray := prog_32_method_28_code
def yJ8_hugeLength_7cf53 : MethodName := ⟨RJ8, "hugeLength", "(II)I"⟩
def RJ3 : String := "jdk/internal/util/Preconditions"
def TJ3 : u_T := fun k => match k with
  | _ => ("", "", "", false)
def tyJ3 : Nat → FieldType := fun k => match k with
  | _ => .int
abbrev wsJ30 : List Cond := u_ws RJ3 TJ3 0
theorem nmJ3 : ∀ a, a < 0 → ∀ b, b < 0 → a ≠ b → (TJ3 a).2.1 ≠ (TJ3 b).2.1 := by decide +kernel
theorem tyJ3_ok : ∀ k, k < 0 → parseFieldDescriptor (TJ3 k).2.2.1 = some (tyJ3 k) := by decide +kernel
abbrev cJ3_checkIndex_8e157 : ByteArray := prog_33_method_11_code
def yJ3_checkIndex_8e157 : MethodName := ⟨RJ3, "checkIndex", "(IILjava/util/function/BiFunction;)I"⟩
def wsX0_init : List Cond := .code yX0_init cX0_init 6 none :: ([.methodLink RX0 1 objectInit, .instanceMethod objectInit, .code objectInit ⟨#[0xb1]⟩ 1 none, .fieldLink RX0 7 "SnowFences$Fence" "column" "I", .fieldLink RX0 13 "SnowFences$Fence" "row" "I", .fieldLink RX0 16 "SnowFences$Fence" "strip" "LSnowFences$Strip;", .fieldLink RX0 20 "SnowFences$Fence" "height" "I", .fieldLink RX0 23 "SnowFences$Fence" "gap" "I"] ++ wsX00)
def wsX1_init : List Cond := .code yX1_init cX1_init 1 none :: ([.methodLink RX1 3 objectInit, .instanceMethod objectInit, .code objectInit ⟨#[0xb1]⟩ 1 none, .arrayClass .int, .fieldLink RX1 9 "SnowFences$Ground" "depths" "[I"] ++ wsX10)
def wsX1_depth : List Cond := .code yX1_depth cX1_depth 2 (some .int) :: ([.fieldLink RX1 9 "SnowFences$Ground" "depths" "[I"] ++ wsX10)
def wsX1_put : List Cond := .code yX1_put cX1_put 3 none :: ([.fieldLink RX1 9 "SnowFences$Ground" "depths" "[I"] ++ wsX10)
def wsX1_becomeLike : List Cond := .code yX1_becomeLike cX1_becomeLike 3 none :: ([.methodLink RX1 15 yX1_depth, .instanceMethod yX1_depth, .selects RX1 yX1_depth yX1_depth, .initialized RX1, .code yX1_depth cX1_depth 2 (some .int), .fieldLink RX1 9 "SnowFences$Ground" "depths" "[I", .methodLink RX1 19 yX1_put, .instanceMethod yX1_put, .selects RX1 yX1_put yX1_put, .code yX1_put cX1_put 3 none] ++ wsX10)
def wsX4_cell : List Cond := .code yX4_cell cX4_cell 2 (some .int) :: ([.fieldLink RX4 9 "SnowFences$Strip" "first" "I", .fieldLink RX4 18 "SnowFences$Strip" "down" "Z"] ++ wsX40)
def wsX1_clear : List Cond := .code yX1_clear cX1_clear 3 none :: ([.fieldLink RX1 23 "SnowFences$Strip" "length" "I", .methodLink RX1 29 yX4_cell, .instanceMethod yX4_cell, .selects RX4 yX4_cell yX4_cell, .initialized RX4, .code yX4_cell cX4_cell 2 (some .int), .fieldLink RX4 9 "SnowFences$Strip" "first" "I", .fieldLink RX4 18 "SnowFences$Strip" "down" "Z", .methodLink RX1 19 yX1_put, .instanceMethod yX1_put, .selects RX1 yX1_put yX1_put, .initialized RX1, .code yX1_put cX1_put 3 none, .fieldLink RX1 9 "SnowFences$Ground" "depths" "[I"] ++ wsX40 ++ wsX10)
def wsX1_sum : List Cond := .code yX1_sum cX1_sum 4 (some .int) :: ([.fieldLink RX1 23 "SnowFences$Strip" "length" "I", .methodLink RX1 29 yX4_cell, .instanceMethod yX4_cell, .selects RX4 yX4_cell yX4_cell, .initialized RX4, .code yX4_cell cX4_cell 2 (some .int), .fieldLink RX4 9 "SnowFences$Strip" "first" "I", .fieldLink RX4 18 "SnowFences$Strip" "down" "Z", .methodLink RX1 15 yX1_depth, .instanceMethod yX1_depth, .selects RX1 yX1_depth yX1_depth, .initialized RX1, .code yX1_depth cX1_depth 2 (some .int), .fieldLink RX1 9 "SnowFences$Ground" "depths" "[I"] ++ wsX40 ++ wsX10)
def wsX1_most : List Cond := .code yX1_most cX1_most 4 (some .int) :: ([.fieldLink RX1 23 "SnowFences$Strip" "length" "I", .methodLink RX1 32 Lib.Math.max.name, .static Lib.Math.max.name, .initialized "java/lang/Math", .code Lib.Math.max.name Lib.Math.max.code 2 (some .int), .methodLink RX1 29 yX4_cell, .instanceMethod yX4_cell, .selects RX4 yX4_cell yX4_cell, .initialized RX4, .code yX4_cell cX4_cell 2 (some .int), .fieldLink RX4 9 "SnowFences$Strip" "first" "I", .fieldLink RX4 18 "SnowFences$Strip" "down" "Z", .methodLink RX1 15 yX1_depth, .instanceMethod yX1_depth, .selects RX1 yX1_depth yX1_depth, .initialized RX1, .code yX1_depth cX1_depth 2 (some .int), .fieldLink RX1 9 "SnowFences$Ground" "depths" "[I"] ++ wsX40 ++ wsX10)
def wsX1_blocked : List Cond := .code yX1_blocked cX1_blocked 5 (some .int) :: ([.fieldLink RX1 23 "SnowFences$Strip" "length" "I", .methodLink RX1 29 yX4_cell, .instanceMethod yX4_cell, .selects RX4 yX4_cell yX4_cell, .initialized RX4, .code yX4_cell cX4_cell 2 (some .int), .fieldLink RX4 9 "SnowFences$Strip" "first" "I", .fieldLink RX4 18 "SnowFences$Strip" "down" "Z", .methodLink RX1 15 yX1_depth, .instanceMethod yX1_depth, .selects RX1 yX1_depth yX1_depth, .initialized RX1, .code yX1_depth cX1_depth 2 (some .int), .fieldLink RX1 9 "SnowFences$Ground" "depths" "[I"] ++ wsX40 ++ wsX10)
def wsX2_init : List Cond := .code yX2_init cX2_init 3 none :: ([.methodLink RX2 1 objectInit, .instanceMethod objectInit, .code objectInit ⟨#[0xb1]⟩ 1 none, .fieldLink RX2 7 "SnowFences$Road" "index" "I", .fieldLink RX2 13 "SnowFences$Road" "strip" "LSnowFences$Strip;"] ++ wsX20)
def wsX3_init : List Cond := .code yX3_init cX3_init 1 none :: ([.methodLink RX3 3 objectInit, .instanceMethod objectInit, .code objectInit ⟨#[0xb1]⟩ 1 none, .arrayClass .int, .fieldLink RX3 9 "SnowFences$Screens" "heights" "[I", .fieldLink RX3 15 "SnowFences$Screens" "gaps" "[I"] ++ wsX30)
def wsX3_height : List Cond := .code yX3_height cX3_height 2 (some .int) :: ([.fieldLink RX3 9 "SnowFences$Screens" "heights" "[I"] ++ wsX30)
def wsX3_gap : List Cond := .code yX3_gap cX3_gap 2 (some .int) :: ([.fieldLink RX3 15 "SnowFences$Screens" "gaps" "[I"] ++ wsX30)
def wsX3_stand : List Cond := .code yX3_stand cX3_stand 4 none :: ([.fieldLink RX3 9 "SnowFences$Screens" "heights" "[I", .fieldLink RX3 15 "SnowFences$Screens" "gaps" "[I"] ++ wsX30)
def wsX3_clear : List Cond := .code yX3_clear cX3_clear 2 none :: ([.methodLink RX3 18 yX3_stand, .instanceMethod yX3_stand, .selects RX3 yX3_stand yX3_stand, .initialized RX3, .code yX3_stand cX3_stand 4 none, .fieldLink RX3 9 "SnowFences$Screens" "heights" "[I", .fieldLink RX3 15 "SnowFences$Screens" "gaps" "[I"] ++ wsX30)
def wsX3_add : List Cond := .code yX3_add cX3_add 6 none :: ([.fieldLink RX3 22 "SnowFences$Strip" "length" "I", .methodLink RX3 28 yX4_cell, .instanceMethod yX4_cell, .selects RX4 yX4_cell yX4_cell, .initialized RX4, .code yX4_cell cX4_cell 2 (some .int), .fieldLink RX4 9 "SnowFences$Strip" "first" "I", .fieldLink RX4 18 "SnowFences$Strip" "down" "Z", .methodLink RX3 32 yX3_height, .instanceMethod yX3_height, .selects RX3 yX3_height yX3_height, .initialized RX3, .code yX3_height cX3_height 2 (some .int), .fieldLink RX3 9 "SnowFences$Screens" "heights" "[I", .methodLink RX3 18 yX3_stand, .instanceMethod yX3_stand, .selects RX3 yX3_stand yX3_stand, .code yX3_stand cX3_stand 4 none, .fieldLink RX3 15 "SnowFences$Screens" "gaps" "[I"] ++ wsX40 ++ wsX30)
def wsX4_init : List Cond := .code yX4_init cX4_init 5 none :: ([.methodLink RX4 3 objectInit, .instanceMethod objectInit, .code objectInit ⟨#[0xb1]⟩ 1 none, .fieldLink RX4 9 "SnowFences$Strip" "first" "I", .fieldLink RX4 15 "SnowFences$Strip" "length" "I", .fieldLink RX4 18 "SnowFences$Strip" "down" "Z"] ++ wsX40)
def wsX5_init : List Cond := .code yX5_init cX5_init 6 none :: ([.methodLink RX5 3 objectInit, .instanceMethod objectInit, .code objectInit ⟨#[0xb1]⟩ 1 none, .fieldLink RX5 9 "SnowFences$Wind" "strength" "I", .fieldLink RX5 15 "SnowFences$Wind" "supply" "I", .fieldLink RX5 18 "SnowFences$Wind" "down" "Z", .fieldLink RX5 22 "SnowFences$Wind" "firstCell" "I", .fieldLink RX5 25 "SnowFences$Wind" "nextCell" "I", .fieldLink RX5 28 "SnowFences$Wind" "nextLine" "I"] ++ wsX50)
def wsX5_dropped : List Cond := .code yX5_dropped cX5_dropped 2 (some .int) :: ([.fieldLink RX5 35 "SnowFences$Wind" "carried" "I", .methodLink RX5 81 Lib.Math.min.name, .static Lib.Math.min.name, .initialized "java/lang/Math", .code Lib.Math.min.name Lib.Math.min.code 2 (some .int), .fieldLink RX5 57 "SnowFences$Wind" "holds" "I", .methodLink RX5 75 Lib.Math.max.name, .static Lib.Math.max.name, .code Lib.Math.max.name Lib.Math.max.code 2 (some .int)] ++ wsX50)
def wsX5_pickedUp : List Cond := .code yX5_pickedUp cX5_pickedUp 2 (some .int) :: ([.fieldLink RX5 9 "SnowFences$Wind" "strength" "I", .methodLink RX5 81 Lib.Math.min.name, .static Lib.Math.min.name, .initialized "java/lang/Math", .code Lib.Math.min.name Lib.Math.min.code 2 (some .int), .fieldLink RX5 35 "SnowFences$Wind" "carried" "I", .methodLink RX5 75 Lib.Math.max.name, .static Lib.Math.max.name, .code Lib.Math.max.name Lib.Math.max.code 2 (some .int)] ++ wsX50)
def wsX5_passCell_r1 : List Cond := [Cond.fieldLink RX5 38 "SnowFences$Wind" "shelter" "I", Cond.fieldLink RX5 41 "SnowFences$Wind" "sweep" "I", Cond.fieldLink RX5 57 "SnowFences$Wind" "holds" "I", Cond.fieldLink RX5 35 "SnowFences$Wind" "carried" "I", Cond.methodLink RX5 75 Lib.Math.max.name, Cond.static Lib.Math.max.name, Cond.initialized "java/lang/Math", Cond.code Lib.Math.max.name Lib.Math.max.code 2 (some .int), Cond.methodLink RX5 48 yX3_height, Cond.instanceMethod yX3_height, Cond.selects RX3 yX3_height yX3_height, Cond.initialized RX3, Cond.code yX3_height cX3_height 2 (some .int), Cond.fieldLink RX3 9 "SnowFences$Screens" "heights" "[I", Cond.methodLink RX5 54 yX3_gap, Cond.instanceMethod yX3_gap, Cond.selects RX3 yX3_gap yX3_gap, Cond.code yX3_gap cX3_gap 2 (some .int), Cond.fieldLink RX3 15 "SnowFences$Screens" "gaps" "[I", Cond.methodLink RX5 60 yX1_depth, Cond.instanceMethod yX1_depth, Cond.selects RX1 yX1_depth yX1_depth, Cond.initialized RX1, Cond.code yX1_depth cX1_depth 2 (some .int)]
def wsX5_passCell_r2 : List Cond := [Cond.fieldLink RX1 9 "SnowFences$Ground" "depths" "[I", Cond.methodLink RX5 65 yX5_dropped, Cond.instanceMethod yX5_dropped, Cond.selects RX5 yX5_dropped yX5_dropped, Cond.initialized RX5, Cond.code yX5_dropped cX5_dropped 2 (some .int), Cond.methodLink RX5 81 Lib.Math.min.name, Cond.static Lib.Math.min.name, Cond.code Lib.Math.min.name Lib.Math.min.code 2 (some .int), Cond.methodLink RX5 68 yX5_pickedUp, Cond.instanceMethod yX5_pickedUp, Cond.selects RX5 yX5_pickedUp yX5_pickedUp, Cond.code yX5_pickedUp cX5_pickedUp 2 (some .int), Cond.fieldLink RX5 9 "SnowFences$Wind" "strength" "I", Cond.methodLink RX5 71 yX1_put, Cond.instanceMethod yX1_put, Cond.selects RX1 yX1_put yX1_put, Cond.code yX1_put cX1_put 3 none]
def wsX5_passCell : List Cond := .code yX5_passCell cX5_passCell 7 none :: ((wsX5_passCell_r1 ++ wsX5_passCell_r2) ++ wsX50 ++ wsX30 ++ wsX10)
def wsX5_passLine_r1 : List Cond := [Cond.fieldLink RX5 15 "SnowFences$Wind" "supply" "I", Cond.fieldLink RX5 35 "SnowFences$Wind" "carried" "I", Cond.fieldLink RX5 38 "SnowFences$Wind" "shelter" "I", Cond.fieldLink RX5 41 "SnowFences$Wind" "sweep" "I", Cond.fieldLink RX5 25 "SnowFences$Wind" "nextCell" "I", Cond.methodLink RX5 44 yX5_passCell, Cond.instanceMethod yX5_passCell, Cond.selects RX5 yX5_passCell yX5_passCell, Cond.initialized RX5, Cond.code yX5_passCell cX5_passCell 7 none, Cond.fieldLink RX5 57 "SnowFences$Wind" "holds" "I", Cond.methodLink RX5 75 Lib.Math.max.name, Cond.static Lib.Math.max.name, Cond.initialized "java/lang/Math", Cond.code Lib.Math.max.name Lib.Math.max.code 2 (some .int), Cond.methodLink RX5 48 yX3_height, Cond.instanceMethod yX3_height, Cond.selects RX3 yX3_height yX3_height, Cond.initialized RX3, Cond.code yX3_height cX3_height 2 (some .int), Cond.fieldLink RX3 9 "SnowFences$Screens" "heights" "[I", Cond.methodLink RX5 54 yX3_gap, Cond.instanceMethod yX3_gap, Cond.selects RX3 yX3_gap yX3_gap]
def wsX5_passLine_r2 : List Cond := [Cond.code yX3_gap cX3_gap 2 (some .int), Cond.fieldLink RX3 15 "SnowFences$Screens" "gaps" "[I", Cond.methodLink RX5 60 yX1_depth, Cond.instanceMethod yX1_depth, Cond.selects RX1 yX1_depth yX1_depth, Cond.initialized RX1, Cond.code yX1_depth cX1_depth 2 (some .int), Cond.fieldLink RX1 9 "SnowFences$Ground" "depths" "[I", Cond.methodLink RX5 65 yX5_dropped, Cond.instanceMethod yX5_dropped, Cond.selects RX5 yX5_dropped yX5_dropped, Cond.code yX5_dropped cX5_dropped 2 (some .int), Cond.methodLink RX5 81 Lib.Math.min.name, Cond.static Lib.Math.min.name, Cond.code Lib.Math.min.name Lib.Math.min.code 2 (some .int), Cond.methodLink RX5 68 yX5_pickedUp, Cond.instanceMethod yX5_pickedUp, Cond.selects RX5 yX5_pickedUp yX5_pickedUp, Cond.code yX5_pickedUp cX5_pickedUp 2 (some .int), Cond.fieldLink RX5 9 "SnowFences$Wind" "strength" "I", Cond.methodLink RX5 71 yX1_put, Cond.instanceMethod yX1_put, Cond.selects RX1 yX1_put yX1_put, Cond.code yX1_put cX1_put 3 none]
def wsX5_passLine : List Cond := .code yX5_passLine cX5_passLine 5 (some .int) :: ((wsX5_passLine_r1 ++ wsX5_passLine_r2) ++ wsX50 ++ wsX30 ++ wsX10)
def wsX5_crossField_r1 : List Cond := [Cond.fieldLink RX5 22 "SnowFences$Wind" "firstCell" "I", Cond.fieldLink RX5 28 "SnowFences$Wind" "nextLine" "I", Cond.methodLink RX5 31 yX5_passLine, Cond.instanceMethod yX5_passLine, Cond.selects RX5 yX5_passLine yX5_passLine, Cond.initialized RX5, Cond.code yX5_passLine cX5_passLine 5 (some .int), Cond.fieldLink RX5 15 "SnowFences$Wind" "supply" "I", Cond.fieldLink RX5 35 "SnowFences$Wind" "carried" "I", Cond.fieldLink RX5 38 "SnowFences$Wind" "shelter" "I", Cond.fieldLink RX5 41 "SnowFences$Wind" "sweep" "I", Cond.fieldLink RX5 25 "SnowFences$Wind" "nextCell" "I", Cond.methodLink RX5 44 yX5_passCell, Cond.instanceMethod yX5_passCell, Cond.selects RX5 yX5_passCell yX5_passCell, Cond.code yX5_passCell cX5_passCell 7 none, Cond.fieldLink RX5 57 "SnowFences$Wind" "holds" "I", Cond.methodLink RX5 75 Lib.Math.max.name, Cond.static Lib.Math.max.name, Cond.initialized "java/lang/Math", Cond.code Lib.Math.max.name Lib.Math.max.code 2 (some .int), Cond.methodLink RX5 48 yX3_height, Cond.instanceMethod yX3_height, Cond.selects RX3 yX3_height yX3_height]
def wsX5_crossField_r2 : List Cond := [Cond.initialized RX3, Cond.code yX3_height cX3_height 2 (some .int), Cond.fieldLink RX3 9 "SnowFences$Screens" "heights" "[I", Cond.methodLink RX5 54 yX3_gap, Cond.instanceMethod yX3_gap, Cond.selects RX3 yX3_gap yX3_gap, Cond.code yX3_gap cX3_gap 2 (some .int), Cond.fieldLink RX3 15 "SnowFences$Screens" "gaps" "[I", Cond.methodLink RX5 60 yX1_depth, Cond.instanceMethod yX1_depth, Cond.selects RX1 yX1_depth yX1_depth, Cond.initialized RX1, Cond.code yX1_depth cX1_depth 2 (some .int), Cond.fieldLink RX1 9 "SnowFences$Ground" "depths" "[I", Cond.methodLink RX5 65 yX5_dropped, Cond.instanceMethod yX5_dropped, Cond.selects RX5 yX5_dropped yX5_dropped, Cond.code yX5_dropped cX5_dropped 2 (some .int), Cond.methodLink RX5 81 Lib.Math.min.name, Cond.static Lib.Math.min.name, Cond.code Lib.Math.min.name Lib.Math.min.code 2 (some .int), Cond.methodLink RX5 68 yX5_pickedUp, Cond.instanceMethod yX5_pickedUp, Cond.selects RX5 yX5_pickedUp yX5_pickedUp]
def wsX5_crossField_r3 : List Cond := [Cond.code yX5_pickedUp cX5_pickedUp 2 (some .int), Cond.fieldLink RX5 9 "SnowFences$Wind" "strength" "I", Cond.methodLink RX5 71 yX1_put, Cond.instanceMethod yX1_put, Cond.selects RX1 yX1_put yX1_put, Cond.code yX1_put cX1_put 3 none]
def wsX5_crossField : List Cond := .code yX5_crossField cX5_crossField 5 (some .int) :: ((wsX5_crossField_r1 ++ (wsX5_crossField_r2 ++ wsX5_crossField_r3)) ++ wsX50 ++ wsX30 ++ wsX10)
def wsJxa1e45_init_da8c8 : List Cond := .code yJxa1e45_init_da8c8 cJxa1e45_init_da8c8 1 none :: ([.methodLink RJxa1e45 1 objectInit, .instanceMethod objectInit, .code objectInit ⟨#[0xb1]⟩ 1 none])
def wsJxc12de_init_da8c8 : List Cond := .code yJxc12de_init_da8c8 cJxc12de_init_da8c8 1 none :: ([.fieldLink RJxc12de 7 "java/util/AbstractList" "modCount" "I", .methodLink RJxc12de 1 yJxa1e45_init_da8c8, .instanceMethod yJxa1e45_init_da8c8, .initialized RJxa1e45, .code yJxa1e45_init_da8c8 cJxa1e45_init_da8c8 1 none, .methodLink RJxa1e45 1 objectInit, .instanceMethod objectInit, .code objectInit ⟨#[0xb1]⟩ 1 none] ++ wsJx4a65c0)
def wsJx4a65c_init_da8c8 : List Cond := .code yJx4a65c_init_da8c8 cJx4a65c_init_da8c8 1 none :: ([.fieldLink RJx4a65c 39 "java/util/ArrayList" "DEFAULTCAPACITY_EMPTY_ELEMENTDATA" "[Ljava/lang/Object;", .fieldLink RJx4a65c 9 "java/util/ArrayList" "elementData" "[Ljava/lang/Object;", .methodLink RJx4a65c 1 yJxc12de_init_da8c8, .instanceMethod yJxc12de_init_da8c8, .initialized RJxc12de, .code yJxc12de_init_da8c8 cJxc12de_init_da8c8 1 none, .fieldLink RJxc12de 7 "java/util/AbstractList" "modCount" "I", .methodLink RJxc12de 1 yJxa1e45_init_da8c8, .instanceMethod yJxa1e45_init_da8c8, .initialized RJxa1e45, .code yJxa1e45_init_da8c8 cJxa1e45_init_da8c8 1 none, .methodLink RJxa1e45 1 objectInit, .instanceMethod objectInit, .code objectInit ⟨#[0xb1]⟩ 1 none] ++ wsJx4a65c0)
def wsX6_init_r1 : List Cond := [Cond.methodLink RX6 1 objectInit, Cond.instanceMethod objectInit, Cond.code objectInit ⟨#[0xb1]⟩ 1 none, Cond.classLink RX6 7 RJx4a65c, Cond.instantiable RJx4a65c 3, Cond.initialized RJx4a65c, Cond.fieldLink RX6 10 "SnowFences" "fences" "Ljava/util/ArrayList;", Cond.fieldLink RX6 16 "SnowFences" "roads" "Ljava/util/ArrayList;", Cond.classLink RX6 19 RX4, Cond.instantiable RX4 3, Cond.initialized RX4, Cond.fieldLink RX6 24 "SnowFences" "whole" "LSnowFences$Strip;", Cond.classLink RX6 28 RX1, Cond.instantiable RX1 1, Cond.initialized RX1, Cond.fieldLink RX6 31 "SnowFences" "ground" "LSnowFences$Ground;", Cond.fieldLink RX6 35 "SnowFences" "trial" "LSnowFences$Ground;", Cond.classLink RX6 38 RX3, Cond.instantiable RX3 2, Cond.initialized RX3, Cond.fieldLink RX6 41 "SnowFences" "screens" "LSnowFences$Screens;", Cond.fieldLink RX6 45 "SnowFences" "limit" "I", Cond.methodLink RX6 9 yJx4a65c_init_da8c8, Cond.instanceMethod yJx4a65c_init_da8c8]
def wsX6_init_r2 : List Cond := [Cond.code yJx4a65c_init_da8c8 cJx4a65c_init_da8c8 1 none, Cond.fieldLink RJx4a65c 39 "java/util/ArrayList" "DEFAULTCAPACITY_EMPTY_ELEMENTDATA" "[Ljava/lang/Object;", Cond.fieldLink RJx4a65c 9 "java/util/ArrayList" "elementData" "[Ljava/lang/Object;", Cond.methodLink RJx4a65c 1 yJxc12de_init_da8c8, Cond.instanceMethod yJxc12de_init_da8c8, Cond.initialized RJxc12de, Cond.code yJxc12de_init_da8c8 cJxc12de_init_da8c8 1 none, Cond.fieldLink RJxc12de 7 "java/util/AbstractList" "modCount" "I", Cond.methodLink RJxc12de 1 yJxa1e45_init_da8c8, Cond.instanceMethod yJxa1e45_init_da8c8, Cond.initialized RJxa1e45, Cond.code yJxa1e45_init_da8c8 cJxa1e45_init_da8c8 1 none, Cond.methodLink RJxa1e45 1 objectInit, Cond.methodLink RX6 21 yX4_init, Cond.instanceMethod yX4_init, Cond.code yX4_init cX4_init 5 none, Cond.methodLink RX4 3 objectInit, Cond.fieldLink RX4 9 "SnowFences$Strip" "first" "I", Cond.fieldLink RX4 15 "SnowFences$Strip" "length" "I", Cond.fieldLink RX4 18 "SnowFences$Strip" "down" "Z", Cond.instanceMethod yX1_init, Cond.code yX1_init cX1_init 1 none, Cond.methodLink RX1 3 objectInit, Cond.arrayClass .int]
def wsX6_init_r3 : List Cond := [Cond.fieldLink RX1 9 "SnowFences$Ground" "depths" "[I", Cond.instanceMethod yX3_init, Cond.code yX3_init cX3_init 1 none, Cond.methodLink RX3 3 objectInit, Cond.fieldLink RX3 9 "SnowFences$Screens" "heights" "[I", Cond.fieldLink RX3 15 "SnowFences$Screens" "gaps" "[I"]
def wsX6_init : List Cond := .code yX6_init cX6_init 1 none :: ((wsX6_init_r1 ++ (wsX6_init_r2 ++ wsX6_init_r3)) ++ wsJx4a65c0 ++ wsX60 ++ wsX40 ++ wsX10 ++ wsX30)
def wsX6_needHeight : List Cond := .code yX6_needHeight cX6_needHeight 1 none :: ([.classLink RX6 49 "java/lang/IllegalArgumentException", .initialized "java/lang/IllegalArgumentException"] ++ (vx_atS RX6 53 "java/lang/IllegalArgumentException" ["java/lang/RuntimeException", "java/lang/Exception"]).filter goodWord)
def wsX6_needGap : List Cond := .code yX6_needGap cX6_needGap 1 none :: ([.classLink RX6 49 "java/lang/IllegalArgumentException", .initialized "java/lang/IllegalArgumentException"] ++ (vx_atS RX6 53 "java/lang/IllegalArgumentException" ["java/lang/RuntimeException", "java/lang/Exception"]).filter goodWord)
def wsX6_needIndex : List Cond := .code yX6_needIndex cX6_needIndex 2 none :: ([.classLink RX6 227 "java/lang/IndexOutOfBoundsException", .initialized "java/lang/IndexOutOfBoundsException"] ++ (vx_atS RX6 231 "java/lang/IndexOutOfBoundsException" ["java/lang/RuntimeException", "java/lang/Exception"]).filter goodWord)
def wsJx4a65c_size_8abf5 : List Cond := .code yJx4a65c_size_8abf5 cJx4a65c_size_8abf5 1 (some .int) :: ([.fieldLink RJx4a65c 48 "java/util/ArrayList" "size" "I"] ++ wsJx4a65c0)
def wsJ8_hugeLength_7cf53 : List Cond := .code yJ8_hugeLength_7cf53 cJ8_hugeLength_7cf53 3 (some .int) :: ([.constant RJ8 200 (2147483639)])
def wsJ8_newLength_cabcc : List Cond := .code yJ8_newLength_cabcc cJ8_newLength_cabcc 4 (some .int) :: ([.methodLink RJ8 194 Lib.Math.max.name, .static Lib.Math.max.name, .initialized "java/lang/Math", .code Lib.Math.max.name Lib.Math.max.code 2 (some .int), .constant RJ8 200 (2147483639), .methodLink RJ8 201 yJ8_hugeLength_7cf53, .static yJ8_hugeLength_7cf53, .initialized RJ8, .code yJ8_hugeLength_7cf53 cJ8_hugeLength_7cf53 3 (some .int)])
end
section
def wsJ7_copyOf_6403c : List Cond := .code yJ7_copyOf_6403c cJ7_copyOf_6403c 4 (some (.array (.object "java/lang/Object"))) :: ([.classLink RJ7 110 "[Ljava/lang/Object;", .classLink RJ7 2 "java/lang/Object", .methodLink RJ7 304 Lib.Math.min.name, .static Lib.Math.min.name, .initialized "java/lang/Math", .code Lib.Math.min.name Lib.Math.min.code 2 (some .int), .methodLink RJ7 150 arraycopyName, .native arraycopyName, .static arraycopyName, .initialized "java/lang/System"])
def wsJ7_copyOf_1904c : List Cond := .code yJ7_copyOf_1904c cJ7_copyOf_1904c 2 (some (.array (.object "java/lang/Object"))) :: ([.methodLink RJ7 86 ⟨"java/lang/Object", "getClass", "()Ljava/lang/Class;"⟩, .selects "[Ljava/lang/Object;" ⟨"java/lang/Object", "getClass", "()Ljava/lang/Class;"⟩ ⟨"java/lang/Object", "getClass", "()Ljava/lang/Class;"⟩, .instanceMethod ⟨"java/lang/Object", "getClass", "()Ljava/lang/Class;"⟩, .native ⟨"java/lang/Object", "getClass", "()Ljava/lang/Class;"⟩, .methodLink RJ7 300 yJ7_copyOf_6403c, .static yJ7_copyOf_6403c, .initialized RJ7, .code yJ7_copyOf_6403c cJ7_copyOf_6403c 4 (some (.array (.object "java/lang/Object"))), .classLink RJ7 110 "[Ljava/lang/Object;", .classLink RJ7 2 "java/lang/Object", .methodLink RJ7 304 Lib.Math.min.name, .static Lib.Math.min.name, .initialized "java/lang/Math", .code Lib.Math.min.name Lib.Math.min.code 2 (some .int), .methodLink RJ7 150 arraycopyName, .native arraycopyName, .static arraycopyName, .initialized "java/lang/System"])
def wsJx4a65c_grow_92f84_r1 : List Cond := [Cond.fieldLink RJx4a65c 9 "java/util/ArrayList" "elementData" "[Ljava/lang/Object;", Cond.fieldLink RJx4a65c 39 "java/util/ArrayList" "DEFAULTCAPACITY_EMPTY_ELEMENTDATA" "[Ljava/lang/Object;", Cond.methodLink RJx4a65c 79 Lib.Math.max.name, Cond.static Lib.Math.max.name, Cond.initialized "java/lang/Math", Cond.code Lib.Math.max.name Lib.Math.max.code 2 (some .int), Cond.classLink RJx4a65c 7 "java/lang/Object", Cond.methodLink RJx4a65c 73 yJ8_newLength_cabcc, Cond.static yJ8_newLength_cabcc, Cond.initialized RJ8, Cond.code yJ8_newLength_cabcc cJ8_newLength_cabcc 4 (some .int), Cond.methodLink RJ8 194 Lib.Math.max.name, Cond.constant RJ8 200 (2147483639), Cond.methodLink RJ8 201 yJ8_hugeLength_7cf53, Cond.static yJ8_hugeLength_7cf53, Cond.code yJ8_hugeLength_7cf53 cJ8_hugeLength_7cf53 3 (some .int), Cond.methodLink RJx4a65c 66 yJ7_copyOf_1904c, Cond.static yJ7_copyOf_1904c, Cond.initialized RJ7, Cond.code yJ7_copyOf_1904c cJ7_copyOf_1904c 2 (some (.array (.object "java/lang/Object"))), Cond.methodLink RJ7 86 ⟨"java/lang/Object", "getClass", "()Ljava/lang/Class;"⟩, Cond.selects "[Ljava/lang/Object;" ⟨"java/lang/Object", "getClass", "()Ljava/lang/Class;"⟩ ⟨"java/lang/Object", "getClass", "()Ljava/lang/Class;"⟩, Cond.instanceMethod ⟨"java/lang/Object", "getClass", "()Ljava/lang/Class;"⟩, Cond.native ⟨"java/lang/Object", "getClass", "()Ljava/lang/Class;"⟩]
def wsJx4a65c_grow_92f84_r2 : List Cond := [Cond.methodLink RJ7 300 yJ7_copyOf_6403c, Cond.static yJ7_copyOf_6403c, Cond.code yJ7_copyOf_6403c cJ7_copyOf_6403c 4 (some (.array (.object "java/lang/Object"))), Cond.classLink RJ7 110 "[Ljava/lang/Object;", Cond.classLink RJ7 2 "java/lang/Object", Cond.methodLink RJ7 304 Lib.Math.min.name, Cond.static Lib.Math.min.name, Cond.code Lib.Math.min.name Lib.Math.min.code 2 (some .int), Cond.methodLink RJ7 150 arraycopyName, Cond.native arraycopyName, Cond.static arraycopyName, Cond.initialized "java/lang/System"]
def wsJx4a65c_grow_92f84 : List Cond := .code yJx4a65c_grow_92f84 cJx4a65c_grow_92f84 4 (some (.array (.object "java/lang/Object"))) :: ((wsJx4a65c_grow_92f84_r1 ++ wsJx4a65c_grow_92f84_r2) ++ wsJx4a65c0)
def wsJx4a65c_grow_d5877_r1 : List Cond := [Cond.fieldLink RJx4a65c 48 "java/util/ArrayList" "size" "I", Cond.methodLink RJx4a65c 69 yJx4a65c_grow_92f84, Cond.instanceMethod yJx4a65c_grow_92f84, Cond.selects RJx4a65c yJx4a65c_grow_92f84 yJx4a65c_grow_92f84, Cond.initialized RJx4a65c, Cond.code yJx4a65c_grow_92f84 cJx4a65c_grow_92f84 4 (some (.array (.object "java/lang/Object"))), Cond.fieldLink RJx4a65c 9 "java/util/ArrayList" "elementData" "[Ljava/lang/Object;", Cond.fieldLink RJx4a65c 39 "java/util/ArrayList" "DEFAULTCAPACITY_EMPTY_ELEMENTDATA" "[Ljava/lang/Object;", Cond.methodLink RJx4a65c 79 Lib.Math.max.name, Cond.static Lib.Math.max.name, Cond.initialized "java/lang/Math", Cond.code Lib.Math.max.name Lib.Math.max.code 2 (some .int), Cond.classLink RJx4a65c 7 "java/lang/Object", Cond.methodLink RJx4a65c 73 yJ8_newLength_cabcc, Cond.static yJ8_newLength_cabcc, Cond.initialized RJ8, Cond.code yJ8_newLength_cabcc cJ8_newLength_cabcc 4 (some .int), Cond.methodLink RJ8 194 Lib.Math.max.name, Cond.constant RJ8 200 (2147483639), Cond.methodLink RJ8 201 yJ8_hugeLength_7cf53, Cond.static yJ8_hugeLength_7cf53, Cond.code yJ8_hugeLength_7cf53 cJ8_hugeLength_7cf53 3 (some .int), Cond.methodLink RJx4a65c 66 yJ7_copyOf_1904c, Cond.static yJ7_copyOf_1904c]
def wsJx4a65c_grow_d5877_r2 : List Cond := [Cond.initialized RJ7, Cond.code yJ7_copyOf_1904c cJ7_copyOf_1904c 2 (some (.array (.object "java/lang/Object"))), Cond.methodLink RJ7 86 ⟨"java/lang/Object", "getClass", "()Ljava/lang/Class;"⟩, Cond.selects "[Ljava/lang/Object;" ⟨"java/lang/Object", "getClass", "()Ljava/lang/Class;"⟩ ⟨"java/lang/Object", "getClass", "()Ljava/lang/Class;"⟩, Cond.instanceMethod ⟨"java/lang/Object", "getClass", "()Ljava/lang/Class;"⟩, Cond.native ⟨"java/lang/Object", "getClass", "()Ljava/lang/Class;"⟩, Cond.methodLink RJ7 300 yJ7_copyOf_6403c, Cond.static yJ7_copyOf_6403c, Cond.code yJ7_copyOf_6403c cJ7_copyOf_6403c 4 (some (.array (.object "java/lang/Object"))), Cond.classLink RJ7 110 "[Ljava/lang/Object;", Cond.classLink RJ7 2 "java/lang/Object", Cond.methodLink RJ7 304 Lib.Math.min.name, Cond.static Lib.Math.min.name, Cond.code Lib.Math.min.name Lib.Math.min.code 2 (some .int), Cond.methodLink RJ7 150 arraycopyName, Cond.native arraycopyName, Cond.static arraycopyName, Cond.initialized "java/lang/System"]
def wsJx4a65c_grow_d5877 : List Cond := .code yJx4a65c_grow_d5877 cJx4a65c_grow_d5877 1 (some (.array (.object "java/lang/Object"))) :: ((wsJx4a65c_grow_d5877_r1 ++ wsJx4a65c_grow_d5877_r2) ++ wsJx4a65c0)
def wsJx4a65c_add_72be8_r1 : List Cond := [Cond.fieldLink RJx4a65c 48 "java/util/ArrayList" "size" "I", Cond.methodLink RJx4a65c 129 yJx4a65c_grow_d5877, Cond.instanceMethod yJx4a65c_grow_d5877, Cond.selects RJx4a65c yJx4a65c_grow_d5877 yJx4a65c_grow_d5877, Cond.initialized RJx4a65c, Cond.code yJx4a65c_grow_d5877 cJx4a65c_grow_d5877 1 (some (.array (.object "java/lang/Object"))), Cond.methodLink RJx4a65c 69 yJx4a65c_grow_92f84, Cond.instanceMethod yJx4a65c_grow_92f84, Cond.selects RJx4a65c yJx4a65c_grow_92f84 yJx4a65c_grow_92f84, Cond.code yJx4a65c_grow_92f84 cJx4a65c_grow_92f84 4 (some (.array (.object "java/lang/Object"))), Cond.fieldLink RJx4a65c 9 "java/util/ArrayList" "elementData" "[Ljava/lang/Object;", Cond.fieldLink RJx4a65c 39 "java/util/ArrayList" "DEFAULTCAPACITY_EMPTY_ELEMENTDATA" "[Ljava/lang/Object;", Cond.methodLink RJx4a65c 79 Lib.Math.max.name, Cond.static Lib.Math.max.name, Cond.initialized "java/lang/Math", Cond.code Lib.Math.max.name Lib.Math.max.code 2 (some .int), Cond.classLink RJx4a65c 7 "java/lang/Object", Cond.methodLink RJx4a65c 73 yJ8_newLength_cabcc, Cond.static yJ8_newLength_cabcc, Cond.initialized RJ8, Cond.code yJ8_newLength_cabcc cJ8_newLength_cabcc 4 (some .int), Cond.methodLink RJ8 194 Lib.Math.max.name, Cond.constant RJ8 200 (2147483639), Cond.methodLink RJ8 201 yJ8_hugeLength_7cf53]
def wsJx4a65c_add_72be8_r2 : List Cond := [Cond.static yJ8_hugeLength_7cf53, Cond.code yJ8_hugeLength_7cf53 cJ8_hugeLength_7cf53 3 (some .int), Cond.methodLink RJx4a65c 66 yJ7_copyOf_1904c, Cond.static yJ7_copyOf_1904c, Cond.initialized RJ7, Cond.code yJ7_copyOf_1904c cJ7_copyOf_1904c 2 (some (.array (.object "java/lang/Object"))), Cond.methodLink RJ7 86 ⟨"java/lang/Object", "getClass", "()Ljava/lang/Class;"⟩, Cond.selects "[Ljava/lang/Object;" ⟨"java/lang/Object", "getClass", "()Ljava/lang/Class;"⟩ ⟨"java/lang/Object", "getClass", "()Ljava/lang/Class;"⟩, Cond.instanceMethod ⟨"java/lang/Object", "getClass", "()Ljava/lang/Class;"⟩, Cond.native ⟨"java/lang/Object", "getClass", "()Ljava/lang/Class;"⟩, Cond.methodLink RJ7 300 yJ7_copyOf_6403c, Cond.static yJ7_copyOf_6403c, Cond.code yJ7_copyOf_6403c cJ7_copyOf_6403c 4 (some (.array (.object "java/lang/Object"))), Cond.classLink RJ7 110 "[Ljava/lang/Object;", Cond.classLink RJ7 2 "java/lang/Object", Cond.methodLink RJ7 304 Lib.Math.min.name, Cond.static Lib.Math.min.name, Cond.code Lib.Math.min.name Lib.Math.min.code 2 (some .int), Cond.methodLink RJ7 150 arraycopyName, Cond.native arraycopyName, Cond.static arraycopyName, Cond.initialized "java/lang/System"]
def wsJx4a65c_add_72be8 : List Cond := .code yJx4a65c_add_72be8 cJx4a65c_add_72be8 4 none :: ((wsJx4a65c_add_72be8_r1 ++ wsJx4a65c_add_72be8_r2) ++ wsJx4a65c0)
def wsJx4a65c_add_9ea2d_r1 : List Cond := [Cond.fieldLink RJx4a65c 63 "java/util/ArrayList" "modCount" "I", Cond.sameField "java/util/ArrayList" "java/util/AbstractList" "modCount" "I", Cond.fieldLink RJx4a65c 9 "java/util/ArrayList" "elementData" "[Ljava/lang/Object;", Cond.fieldLink RJx4a65c 48 "java/util/ArrayList" "size" "I", Cond.methodLink RJx4a65c 131 yJx4a65c_add_72be8, Cond.instanceMethod yJx4a65c_add_72be8, Cond.selects RJx4a65c yJx4a65c_add_72be8 yJx4a65c_add_72be8, Cond.initialized RJx4a65c, Cond.code yJx4a65c_add_72be8 cJx4a65c_add_72be8 4 none, Cond.methodLink RJx4a65c 129 yJx4a65c_grow_d5877, Cond.instanceMethod yJx4a65c_grow_d5877, Cond.selects RJx4a65c yJx4a65c_grow_d5877 yJx4a65c_grow_d5877, Cond.code yJx4a65c_grow_d5877 cJx4a65c_grow_d5877 1 (some (.array (.object "java/lang/Object"))), Cond.methodLink RJx4a65c 69 yJx4a65c_grow_92f84, Cond.instanceMethod yJx4a65c_grow_92f84, Cond.selects RJx4a65c yJx4a65c_grow_92f84 yJx4a65c_grow_92f84, Cond.code yJx4a65c_grow_92f84 cJx4a65c_grow_92f84 4 (some (.array (.object "java/lang/Object"))), Cond.fieldLink RJx4a65c 39 "java/util/ArrayList" "DEFAULTCAPACITY_EMPTY_ELEMENTDATA" "[Ljava/lang/Object;", Cond.methodLink RJx4a65c 79 Lib.Math.max.name, Cond.static Lib.Math.max.name, Cond.initialized "java/lang/Math", Cond.code Lib.Math.max.name Lib.Math.max.code 2 (some .int), Cond.classLink RJx4a65c 7 "java/lang/Object", Cond.methodLink RJx4a65c 73 yJ8_newLength_cabcc]
def wsJx4a65c_add_9ea2d_r2 : List Cond := [Cond.static yJ8_newLength_cabcc, Cond.initialized RJ8, Cond.code yJ8_newLength_cabcc cJ8_newLength_cabcc 4 (some .int), Cond.methodLink RJ8 194 Lib.Math.max.name, Cond.constant RJ8 200 (2147483639), Cond.methodLink RJ8 201 yJ8_hugeLength_7cf53, Cond.static yJ8_hugeLength_7cf53, Cond.code yJ8_hugeLength_7cf53 cJ8_hugeLength_7cf53 3 (some .int), Cond.methodLink RJx4a65c 66 yJ7_copyOf_1904c, Cond.static yJ7_copyOf_1904c, Cond.initialized RJ7, Cond.code yJ7_copyOf_1904c cJ7_copyOf_1904c 2 (some (.array (.object "java/lang/Object"))), Cond.methodLink RJ7 86 ⟨"java/lang/Object", "getClass", "()Ljava/lang/Class;"⟩, Cond.selects "[Ljava/lang/Object;" ⟨"java/lang/Object", "getClass", "()Ljava/lang/Class;"⟩ ⟨"java/lang/Object", "getClass", "()Ljava/lang/Class;"⟩, Cond.instanceMethod ⟨"java/lang/Object", "getClass", "()Ljava/lang/Class;"⟩, Cond.native ⟨"java/lang/Object", "getClass", "()Ljava/lang/Class;"⟩, Cond.methodLink RJ7 300 yJ7_copyOf_6403c, Cond.static yJ7_copyOf_6403c, Cond.code yJ7_copyOf_6403c cJ7_copyOf_6403c 4 (some (.array (.object "java/lang/Object"))), Cond.classLink RJ7 110 "[Ljava/lang/Object;", Cond.classLink RJ7 2 "java/lang/Object", Cond.methodLink RJ7 304 Lib.Math.min.name, Cond.static Lib.Math.min.name, Cond.code Lib.Math.min.name Lib.Math.min.code 2 (some .int)]
def wsJx4a65c_add_9ea2d_r3 : List Cond := [Cond.methodLink RJ7 150 arraycopyName, Cond.native arraycopyName, Cond.static arraycopyName, Cond.initialized "java/lang/System"]
def wsJx4a65c_add_9ea2d : List Cond := .code yJx4a65c_add_9ea2d cJx4a65c_add_9ea2d 2 (some .boolean) :: ((wsJx4a65c_add_9ea2d_r1 ++ (wsJx4a65c_add_9ea2d_r2 ++ wsJx4a65c_add_9ea2d_r3)) ++ wsJx4a65c0)
def wsX6_fence_r1 : List Cond := [Cond.classLink RX6 49 "java/lang/IllegalArgumentException", Cond.initialized "java/lang/IllegalArgumentException", Cond.classLink RX6 71 "java/lang/IllegalStateException", Cond.initialized "java/lang/IllegalStateException", Cond.fieldLink RX6 10 "SnowFences" "fences" "Ljava/util/ArrayList;", Cond.classLink RX6 76 RX0, Cond.instantiable RX0 5, Cond.initialized RX0, Cond.classLink RX6 19 RX4, Cond.instantiable RX4 3, Cond.initialized RX4, Cond.methodLink RX6 56 yX6_needHeight, Cond.static yX6_needHeight, Cond.initialized RX6, Cond.code yX6_needHeight cX6_needHeight 1 none, Cond.methodLink RX6 60 yX6_needGap, Cond.static yX6_needGap, Cond.code yX6_needGap cX6_needGap 1 none, Cond.methodLink RX6 63 yX6_needIndex, Cond.static yX6_needIndex, Cond.code yX6_needIndex cX6_needIndex 2 none, Cond.classLink RX6 227 "java/lang/IndexOutOfBoundsException", Cond.initialized "java/lang/IndexOutOfBoundsException", Cond.methodLink RX6 67 yJx4a65c_size_8abf5]
def wsX6_fence_r2 : List Cond := [Cond.instanceMethod yJx4a65c_size_8abf5, Cond.selects RJx4a65c yJx4a65c_size_8abf5 yJx4a65c_size_8abf5, Cond.initialized RJx4a65c, Cond.code yJx4a65c_size_8abf5 cJx4a65c_size_8abf5 1 (some .int), Cond.fieldLink RJx4a65c 48 "java/util/ArrayList" "size" "I", Cond.methodLink RX6 21 yX4_init, Cond.instanceMethod yX4_init, Cond.code yX4_init cX4_init 5 none, Cond.methodLink RX4 3 objectInit, Cond.instanceMethod objectInit, Cond.code objectInit ⟨#[0xb1]⟩ 1 none, Cond.fieldLink RX4 9 "SnowFences$Strip" "first" "I", Cond.fieldLink RX4 15 "SnowFences$Strip" "length" "I", Cond.fieldLink RX4 18 "SnowFences$Strip" "down" "Z", Cond.methodLink RX6 78 yX0_init, Cond.instanceMethod yX0_init, Cond.code yX0_init cX0_init 6 none, Cond.methodLink RX0 1 objectInit, Cond.fieldLink RX0 7 "SnowFences$Fence" "column" "I", Cond.fieldLink RX0 13 "SnowFences$Fence" "row" "I", Cond.fieldLink RX0 16 "SnowFences$Fence" "strip" "LSnowFences$Strip;", Cond.fieldLink RX0 20 "SnowFences$Fence" "height" "I", Cond.fieldLink RX0 23 "SnowFences$Fence" "gap" "I", Cond.methodLink RX6 81 yJx4a65c_add_9ea2d]
def wsX6_fence_r3 : List Cond := [Cond.instanceMethod yJx4a65c_add_9ea2d, Cond.selects RJx4a65c yJx4a65c_add_9ea2d yJx4a65c_add_9ea2d, Cond.code yJx4a65c_add_9ea2d cJx4a65c_add_9ea2d 2 (some .boolean), Cond.fieldLink RJx4a65c 63 "java/util/ArrayList" "modCount" "I", Cond.sameField "java/util/ArrayList" "java/util/AbstractList" "modCount" "I", Cond.fieldLink RJx4a65c 9 "java/util/ArrayList" "elementData" "[Ljava/lang/Object;", Cond.methodLink RJx4a65c 131 yJx4a65c_add_72be8, Cond.instanceMethod yJx4a65c_add_72be8, Cond.selects RJx4a65c yJx4a65c_add_72be8 yJx4a65c_add_72be8, Cond.code yJx4a65c_add_72be8 cJx4a65c_add_72be8 4 none, Cond.methodLink RJx4a65c 129 yJx4a65c_grow_d5877, Cond.instanceMethod yJx4a65c_grow_d5877, Cond.selects RJx4a65c yJx4a65c_grow_d5877 yJx4a65c_grow_d5877, Cond.code yJx4a65c_grow_d5877 cJx4a65c_grow_d5877 1 (some (.array (.object "java/lang/Object"))), Cond.methodLink RJx4a65c 69 yJx4a65c_grow_92f84, Cond.instanceMethod yJx4a65c_grow_92f84, Cond.selects RJx4a65c yJx4a65c_grow_92f84 yJx4a65c_grow_92f84, Cond.code yJx4a65c_grow_92f84 cJx4a65c_grow_92f84 4 (some (.array (.object "java/lang/Object"))), Cond.fieldLink RJx4a65c 39 "java/util/ArrayList" "DEFAULTCAPACITY_EMPTY_ELEMENTDATA" "[Ljava/lang/Object;", Cond.methodLink RJx4a65c 79 Lib.Math.max.name, Cond.static Lib.Math.max.name, Cond.initialized "java/lang/Math", Cond.code Lib.Math.max.name Lib.Math.max.code 2 (some .int), Cond.classLink RJx4a65c 7 "java/lang/Object"]
def wsX6_fence_r4 : List Cond := [Cond.methodLink RJx4a65c 73 yJ8_newLength_cabcc, Cond.static yJ8_newLength_cabcc, Cond.initialized RJ8, Cond.code yJ8_newLength_cabcc cJ8_newLength_cabcc 4 (some .int), Cond.methodLink RJ8 194 Lib.Math.max.name, Cond.constant RJ8 200 (2147483639), Cond.methodLink RJ8 201 yJ8_hugeLength_7cf53, Cond.static yJ8_hugeLength_7cf53, Cond.code yJ8_hugeLength_7cf53 cJ8_hugeLength_7cf53 3 (some .int), Cond.methodLink RJx4a65c 66 yJ7_copyOf_1904c, Cond.static yJ7_copyOf_1904c, Cond.initialized RJ7, Cond.code yJ7_copyOf_1904c cJ7_copyOf_1904c 2 (some (.array (.object "java/lang/Object"))), Cond.methodLink RJ7 86 ⟨"java/lang/Object", "getClass", "()Ljava/lang/Class;"⟩, Cond.selects "[Ljava/lang/Object;" ⟨"java/lang/Object", "getClass", "()Ljava/lang/Class;"⟩ ⟨"java/lang/Object", "getClass", "()Ljava/lang/Class;"⟩, Cond.instanceMethod ⟨"java/lang/Object", "getClass", "()Ljava/lang/Class;"⟩, Cond.native ⟨"java/lang/Object", "getClass", "()Ljava/lang/Class;"⟩, Cond.methodLink RJ7 300 yJ7_copyOf_6403c, Cond.static yJ7_copyOf_6403c, Cond.code yJ7_copyOf_6403c cJ7_copyOf_6403c 4 (some (.array (.object "java/lang/Object"))), Cond.classLink RJ7 110 "[Ljava/lang/Object;", Cond.classLink RJ7 2 "java/lang/Object", Cond.methodLink RJ7 304 Lib.Math.min.name, Cond.static Lib.Math.min.name]
def wsX6_fence_r5 : List Cond := [Cond.code Lib.Math.min.name Lib.Math.min.code 2 (some .int), Cond.methodLink RJ7 150 arraycopyName, Cond.native arraycopyName, Cond.static arraycopyName, Cond.initialized "java/lang/System"]
def wsX6_fence : List Cond := .code yX6_fence cX6_fence 7 (some .int) :: ((wsX6_fence_r1 ++ (wsX6_fence_r2 ++ (wsX6_fence_r3 ++ (wsX6_fence_r4 ++ wsX6_fence_r5)))) ++ wsX60 ++ wsX00 ++ wsX40 ++ wsJx4a65c0 ++ (vx_atS RX6 53 "java/lang/IllegalArgumentException" ["java/lang/RuntimeException", "java/lang/Exception"]).filter goodWord ++ (vx_atS RX6 75 "java/lang/IllegalStateException" ["java/lang/RuntimeException", "java/lang/Exception"]).filter goodWord ++ (vx_atS RX6 231 "java/lang/IndexOutOfBoundsException" ["java/lang/RuntimeException", "java/lang/Exception"]).filter goodWord)
def wsJ3_checkIndex_8e157 : List Cond := .code yJ3_checkIndex_8e157 cJ3_checkIndex_8e157 3 (some .int) :: ([])
def wsJ15_checkIndex_7cf53 : List Cond := .code yJ15_checkIndex_7cf53 cJ15_checkIndex_7cf53 2 (some .int) :: ([.methodLink RJ15 105 yJ3_checkIndex_8e157, .static yJ3_checkIndex_8e157, .initialized RJ3, .code yJ3_checkIndex_8e157 cJ3_checkIndex_8e157 3 (some .int)])
def wsJx4a65c_elementData_915e3 : List Cond := .code yJx4a65c_elementData_915e3 cJx4a65c_elementData_915e3 2 (some (.object "java/lang/Object")) :: ([.fieldLink RJx4a65c 9 "java/util/ArrayList" "elementData" "[Ljava/lang/Object;"] ++ wsJx4a65c0)
def wsJx4a65c_get_915e3 : List Cond := .code yJx4a65c_get_915e3 cJx4a65c_get_915e3 2 (some (.object "java/lang/Object")) :: ([.fieldLink RJx4a65c 48 "java/util/ArrayList" "size" "I", .methodLink RJx4a65c 118 yJ15_checkIndex_7cf53, .static yJ15_checkIndex_7cf53, .initialized RJ15, .code yJ15_checkIndex_7cf53 cJ15_checkIndex_7cf53 2 (some .int), .methodLink RJ15 105 yJ3_checkIndex_8e157, .static yJ3_checkIndex_8e157, .initialized RJ3, .code yJ3_checkIndex_8e157 cJ3_checkIndex_8e157 3 (some .int), .methodLink RJx4a65c 123 yJx4a65c_elementData_915e3, .instanceMethod yJx4a65c_elementData_915e3, .selects RJx4a65c yJx4a65c_elementData_915e3 yJx4a65c_elementData_915e3, .initialized RJx4a65c, .code yJx4a65c_elementData_915e3 cJx4a65c_elementData_915e3 2 (some (.object "java/lang/Object")), .fieldLink RJx4a65c 9 "java/util/ArrayList" "elementData" "[Ljava/lang/Object;"] ++ wsJx4a65c0)
def wsX6_change_r1 : List Cond := [Cond.fieldLink RX6 10 "SnowFences" "fences" "Ljava/util/ArrayList;", Cond.classLink RX6 76 "SnowFences$Fence", Cond.fieldLink RX6 89 "SnowFences$Fence" "height" "I", Cond.fieldLink RX6 92 "SnowFences$Fence" "gap" "I", Cond.methodLink RX6 67 yJx4a65c_size_8abf5, Cond.instanceMethod yJx4a65c_size_8abf5, Cond.selects RJx4a65c yJx4a65c_size_8abf5 yJx4a65c_size_8abf5, Cond.initialized RJx4a65c, Cond.code yJx4a65c_size_8abf5 cJx4a65c_size_8abf5 1 (some .int), Cond.fieldLink RJx4a65c 48 "java/util/ArrayList" "size" "I", Cond.methodLink RX6 63 yX6_needIndex, Cond.static yX6_needIndex, Cond.initialized RX6, Cond.code yX6_needIndex cX6_needIndex 2 none, Cond.classLink RX6 227 "java/lang/IndexOutOfBoundsException", Cond.initialized "java/lang/IndexOutOfBoundsException", Cond.methodLink RX6 56 yX6_needHeight, Cond.static yX6_needHeight, Cond.code yX6_needHeight cX6_needHeight 1 none, Cond.classLink RX6 49 "java/lang/IllegalArgumentException", Cond.initialized "java/lang/IllegalArgumentException", Cond.methodLink RX6 60 yX6_needGap, Cond.static yX6_needGap, Cond.code yX6_needGap cX6_needGap 1 none]
def wsX6_change_r2 : List Cond := [Cond.methodLink RX6 85 yJx4a65c_get_915e3, Cond.instanceMethod yJx4a65c_get_915e3, Cond.selects RJx4a65c yJx4a65c_get_915e3 yJx4a65c_get_915e3, Cond.code yJx4a65c_get_915e3 cJx4a65c_get_915e3 2 (some (.object "java/lang/Object")), Cond.methodLink RJx4a65c 118 yJ15_checkIndex_7cf53, Cond.static yJ15_checkIndex_7cf53, Cond.initialized RJ15, Cond.code yJ15_checkIndex_7cf53 cJ15_checkIndex_7cf53 2 (some .int), Cond.methodLink RJ15 105 yJ3_checkIndex_8e157, Cond.static yJ3_checkIndex_8e157, Cond.initialized RJ3, Cond.code yJ3_checkIndex_8e157 cJ3_checkIndex_8e157 3 (some .int), Cond.methodLink RJx4a65c 123 yJx4a65c_elementData_915e3, Cond.instanceMethod yJx4a65c_elementData_915e3, Cond.selects RJx4a65c yJx4a65c_elementData_915e3 yJx4a65c_elementData_915e3, Cond.code yJx4a65c_elementData_915e3 cJx4a65c_elementData_915e3 2 (some (.object "java/lang/Object")), Cond.fieldLink RJx4a65c 9 "java/util/ArrayList" "elementData" "[Ljava/lang/Object;"]
def wsX6_change : List Cond := .code yX6_change cX6_change 6 (some .int) :: ((wsX6_change_r1 ++ wsX6_change_r2) ++ wsX60 ++ wsX00 ++ wsJx4a65c0 ++ (vx_atS RX6 231 "java/lang/IndexOutOfBoundsException" ["java/lang/RuntimeException", "java/lang/Exception"]).filter goodWord ++ (vx_atS RX6 53 "java/lang/IllegalArgumentException" ["java/lang/RuntimeException", "java/lang/Exception"]).filter goodWord)
def wsJx4a65c_fastRemove_b59b0 : List Cond := .code yJx4a65c_fastRemove_b59b0 cJx4a65c_fastRemove_b59b0 4 none :: ([.fieldLink RJx4a65c 63 "java/util/ArrayList" "modCount" "I", .sameField "java/util/ArrayList" "java/util/AbstractList" "modCount" "I", .fieldLink RJx4a65c 48 "java/util/ArrayList" "size" "I", .methodLink RJx4a65c 112 arraycopyName, .native arraycopyName, .static arraycopyName, .initialized "java/lang/System"] ++ wsJx4a65c0)
def wsJx4a65c_remove_915e3 : List Cond := .code yJx4a65c_remove_915e3 cJx4a65c_remove_915e3 4 (some (.object "java/lang/Object")) :: ([.fieldLink RJx4a65c 48 "java/util/ArrayList" "size" "I", .fieldLink RJx4a65c 9 "java/util/ArrayList" "elementData" "[Ljava/lang/Object;", .methodLink RJx4a65c 118 yJ15_checkIndex_7cf53, .static yJ15_checkIndex_7cf53, .initialized RJ15, .code yJ15_checkIndex_7cf53 cJ15_checkIndex_7cf53 2 (some .int), .methodLink RJ15 105 yJ3_checkIndex_8e157, .static yJ3_checkIndex_8e157, .initialized RJ3, .code yJ3_checkIndex_8e157 cJ3_checkIndex_8e157 3 (some .int), .methodLink RJx4a65c 144 yJx4a65c_fastRemove_b59b0, .instanceMethod yJx4a65c_fastRemove_b59b0, .selects RJx4a65c yJx4a65c_fastRemove_b59b0 yJx4a65c_fastRemove_b59b0, .initialized RJx4a65c, .code yJx4a65c_fastRemove_b59b0 cJx4a65c_fastRemove_b59b0 4 none, .fieldLink RJx4a65c 63 "java/util/ArrayList" "modCount" "I", .sameField "java/util/ArrayList" "java/util/AbstractList" "modCount" "I", .methodLink RJx4a65c 112 arraycopyName, .native arraycopyName, .static arraycopyName, .initialized "java/lang/System"] ++ wsJx4a65c0)
def wsX6_take_r1 : List Cond := [Cond.fieldLink RX6 10 "SnowFences" "fences" "Ljava/util/ArrayList;", Cond.methodLink RX6 67 yJx4a65c_size_8abf5, Cond.instanceMethod yJx4a65c_size_8abf5, Cond.selects RJx4a65c yJx4a65c_size_8abf5 yJx4a65c_size_8abf5, Cond.initialized RJx4a65c, Cond.code yJx4a65c_size_8abf5 cJx4a65c_size_8abf5 1 (some .int), Cond.fieldLink RJx4a65c 48 "java/util/ArrayList" "size" "I", Cond.methodLink RX6 63 yX6_needIndex, Cond.static yX6_needIndex, Cond.initialized RX6, Cond.code yX6_needIndex cX6_needIndex 2 none, Cond.classLink RX6 227 "java/lang/IndexOutOfBoundsException", Cond.initialized "java/lang/IndexOutOfBoundsException", Cond.methodLink RX6 95 yJx4a65c_remove_915e3, Cond.instanceMethod yJx4a65c_remove_915e3, Cond.selects RJx4a65c yJx4a65c_remove_915e3 yJx4a65c_remove_915e3, Cond.code yJx4a65c_remove_915e3 cJx4a65c_remove_915e3 4 (some (.object "java/lang/Object")), Cond.fieldLink RJx4a65c 9 "java/util/ArrayList" "elementData" "[Ljava/lang/Object;", Cond.methodLink RJx4a65c 118 yJ15_checkIndex_7cf53, Cond.static yJ15_checkIndex_7cf53, Cond.initialized RJ15, Cond.code yJ15_checkIndex_7cf53 cJ15_checkIndex_7cf53 2 (some .int), Cond.methodLink RJ15 105 yJ3_checkIndex_8e157, Cond.static yJ3_checkIndex_8e157]
def wsX6_take_r2 : List Cond := [Cond.initialized RJ3, Cond.code yJ3_checkIndex_8e157 cJ3_checkIndex_8e157 3 (some .int), Cond.methodLink RJx4a65c 144 yJx4a65c_fastRemove_b59b0, Cond.instanceMethod yJx4a65c_fastRemove_b59b0, Cond.selects RJx4a65c yJx4a65c_fastRemove_b59b0 yJx4a65c_fastRemove_b59b0, Cond.code yJx4a65c_fastRemove_b59b0 cJx4a65c_fastRemove_b59b0 4 none, Cond.fieldLink RJx4a65c 63 "java/util/ArrayList" "modCount" "I", Cond.sameField "java/util/ArrayList" "java/util/AbstractList" "modCount" "I", Cond.methodLink RJx4a65c 112 arraycopyName, Cond.native arraycopyName, Cond.static arraycopyName, Cond.initialized "java/lang/System"]
def wsX6_take : List Cond := .code yX6_take cX6_take 2 (some .int) :: ((wsX6_take_r1 ++ wsX6_take_r2) ++ wsX60 ++ wsJx4a65c0 ++ (vx_atS RX6 231 "java/lang/IndexOutOfBoundsException" ["java/lang/RuntimeException", "java/lang/Exception"]).filter goodWord)
def wsX6_straight : List Cond := .code yX6_straight cX6_straight 2 (some (.object "SnowFences$Strip")) :: ([.classLink RX6 19 RX4, .instantiable RX4 3, .initialized RX4, .methodLink RX6 21 yX4_init, .instanceMethod yX4_init, .code yX4_init cX4_init 5 none, .methodLink RX4 3 objectInit, .instanceMethod objectInit, .code objectInit ⟨#[0xb1]⟩ 1 none, .fieldLink RX4 9 "SnowFences$Strip" "first" "I", .fieldLink RX4 15 "SnowFences$Strip" "length" "I", .fieldLink RX4 18 "SnowFences$Strip" "down" "Z"] ++ wsX40)
def wsX6_road_r1 : List Cond := [Cond.classLink RX6 71 "java/lang/IllegalStateException", Cond.initialized "java/lang/IllegalStateException", Cond.fieldLink RX6 16 "SnowFences" "roads" "Ljava/util/ArrayList;", Cond.classLink RX6 100 RX2, Cond.instantiable RX2 2, Cond.initialized RX2, Cond.methodLink RX6 63 yX6_needIndex, Cond.static yX6_needIndex, Cond.initialized RX6, Cond.code yX6_needIndex cX6_needIndex 2 none, Cond.classLink RX6 227 "java/lang/IndexOutOfBoundsException", Cond.initialized "java/lang/IndexOutOfBoundsException", Cond.methodLink RX6 67 yJx4a65c_size_8abf5, Cond.instanceMethod yJx4a65c_size_8abf5, Cond.selects RJx4a65c yJx4a65c_size_8abf5 yJx4a65c_size_8abf5, Cond.initialized RJx4a65c, Cond.code yJx4a65c_size_8abf5 cJx4a65c_size_8abf5 1 (some .int), Cond.fieldLink RJx4a65c 48 "java/util/ArrayList" "size" "I", Cond.methodLink RX6 102 yX6_straight, Cond.static yX6_straight, Cond.code yX6_straight cX6_straight 2 (some (.object "SnowFences$Strip")), Cond.classLink RX6 19 RX4, Cond.instantiable RX4 3, Cond.initialized RX4]
def wsX6_road_r2 : List Cond := [Cond.methodLink RX6 21 yX4_init, Cond.instanceMethod yX4_init, Cond.code yX4_init cX4_init 5 none, Cond.methodLink RX4 3 objectInit, Cond.instanceMethod objectInit, Cond.code objectInit ⟨#[0xb1]⟩ 1 none, Cond.fieldLink RX4 9 "SnowFences$Strip" "first" "I", Cond.fieldLink RX4 15 "SnowFences$Strip" "length" "I", Cond.fieldLink RX4 18 "SnowFences$Strip" "down" "Z", Cond.methodLink RX6 106 yX2_init, Cond.instanceMethod yX2_init, Cond.code yX2_init cX2_init 3 none, Cond.methodLink RX2 1 objectInit, Cond.fieldLink RX2 7 "SnowFences$Road" "index" "I", Cond.fieldLink RX2 13 "SnowFences$Road" "strip" "LSnowFences$Strip;", Cond.methodLink RX6 81 yJx4a65c_add_9ea2d, Cond.instanceMethod yJx4a65c_add_9ea2d, Cond.selects RJx4a65c yJx4a65c_add_9ea2d yJx4a65c_add_9ea2d, Cond.code yJx4a65c_add_9ea2d cJx4a65c_add_9ea2d 2 (some .boolean), Cond.fieldLink RJx4a65c 63 "java/util/ArrayList" "modCount" "I", Cond.sameField "java/util/ArrayList" "java/util/AbstractList" "modCount" "I", Cond.fieldLink RJx4a65c 9 "java/util/ArrayList" "elementData" "[Ljava/lang/Object;", Cond.methodLink RJx4a65c 131 yJx4a65c_add_72be8, Cond.instanceMethod yJx4a65c_add_72be8]
def wsX6_road_r3 : List Cond := [Cond.selects RJx4a65c yJx4a65c_add_72be8 yJx4a65c_add_72be8, Cond.code yJx4a65c_add_72be8 cJx4a65c_add_72be8 4 none, Cond.methodLink RJx4a65c 129 yJx4a65c_grow_d5877, Cond.instanceMethod yJx4a65c_grow_d5877, Cond.selects RJx4a65c yJx4a65c_grow_d5877 yJx4a65c_grow_d5877, Cond.code yJx4a65c_grow_d5877 cJx4a65c_grow_d5877 1 (some (.array (.object "java/lang/Object"))), Cond.methodLink RJx4a65c 69 yJx4a65c_grow_92f84, Cond.instanceMethod yJx4a65c_grow_92f84, Cond.selects RJx4a65c yJx4a65c_grow_92f84 yJx4a65c_grow_92f84, Cond.code yJx4a65c_grow_92f84 cJx4a65c_grow_92f84 4 (some (.array (.object "java/lang/Object"))), Cond.fieldLink RJx4a65c 39 "java/util/ArrayList" "DEFAULTCAPACITY_EMPTY_ELEMENTDATA" "[Ljava/lang/Object;", Cond.methodLink RJx4a65c 79 Lib.Math.max.name, Cond.static Lib.Math.max.name, Cond.initialized "java/lang/Math", Cond.code Lib.Math.max.name Lib.Math.max.code 2 (some .int), Cond.classLink RJx4a65c 7 "java/lang/Object", Cond.methodLink RJx4a65c 73 yJ8_newLength_cabcc, Cond.static yJ8_newLength_cabcc, Cond.initialized RJ8, Cond.code yJ8_newLength_cabcc cJ8_newLength_cabcc 4 (some .int), Cond.methodLink RJ8 194 Lib.Math.max.name, Cond.constant RJ8 200 (2147483639), Cond.methodLink RJ8 201 yJ8_hugeLength_7cf53, Cond.static yJ8_hugeLength_7cf53]
def wsX6_road_r4 : List Cond := [Cond.code yJ8_hugeLength_7cf53 cJ8_hugeLength_7cf53 3 (some .int), Cond.methodLink RJx4a65c 66 yJ7_copyOf_1904c, Cond.static yJ7_copyOf_1904c, Cond.initialized RJ7, Cond.code yJ7_copyOf_1904c cJ7_copyOf_1904c 2 (some (.array (.object "java/lang/Object"))), Cond.methodLink RJ7 86 ⟨"java/lang/Object", "getClass", "()Ljava/lang/Class;"⟩, Cond.selects "[Ljava/lang/Object;" ⟨"java/lang/Object", "getClass", "()Ljava/lang/Class;"⟩ ⟨"java/lang/Object", "getClass", "()Ljava/lang/Class;"⟩, Cond.instanceMethod ⟨"java/lang/Object", "getClass", "()Ljava/lang/Class;"⟩, Cond.native ⟨"java/lang/Object", "getClass", "()Ljava/lang/Class;"⟩, Cond.methodLink RJ7 300 yJ7_copyOf_6403c, Cond.static yJ7_copyOf_6403c, Cond.code yJ7_copyOf_6403c cJ7_copyOf_6403c 4 (some (.array (.object "java/lang/Object"))), Cond.classLink RJ7 110 "[Ljava/lang/Object;", Cond.classLink RJ7 2 "java/lang/Object", Cond.methodLink RJ7 304 Lib.Math.min.name, Cond.static Lib.Math.min.name, Cond.code Lib.Math.min.name Lib.Math.min.code 2 (some .int), Cond.methodLink RJ7 150 arraycopyName, Cond.native arraycopyName, Cond.static arraycopyName, Cond.initialized "java/lang/System"]
def wsX6_road : List Cond := .code yX6_road cX6_road 3 (some .int) :: ((wsX6_road_r1 ++ (wsX6_road_r2 ++ (wsX6_road_r3 ++ wsX6_road_r4))) ++ wsX60 ++ wsX20 ++ wsJx4a65c0 ++ wsX40 ++ (vx_atS RX6 75 "java/lang/IllegalStateException" ["java/lang/RuntimeException", "java/lang/Exception"]).filter goodWord ++ (vx_atS RX6 231 "java/lang/IndexOutOfBoundsException" ["java/lang/RuntimeException", "java/lang/Exception"]).filter goodWord)
def wsX6_setLimit : List Cond := .code yX6_setLimit cX6_setLimit 3 (some .int) :: ([.classLink RX6 49 "java/lang/IllegalArgumentException", .initialized "java/lang/IllegalArgumentException", .fieldLink RX6 45 "SnowFences" "limit" "I"] ++ wsX60 ++ (vx_atS RX6 53 "java/lang/IllegalArgumentException" ["java/lang/RuntimeException", "java/lang/Exception"]).filter goodWord)
def wsX6_setSupply : List Cond := .code yX6_setSupply cX6_setSupply 3 (some .int) :: ([.classLink RX6 49 "java/lang/IllegalArgumentException", .initialized "java/lang/IllegalArgumentException", .fieldLink RX6 113 "SnowFences" "supply" "I"] ++ wsX60 ++ (vx_atS RX6 53 "java/lang/IllegalArgumentException" ["java/lang/RuntimeException", "java/lang/Exception"]).filter goodWord)
def wsX6_fall_r1 : List Cond := [Cond.classLink RX6 49 "java/lang/IllegalArgumentException", Cond.initialized "java/lang/IllegalArgumentException", Cond.fieldLink RX6 31 "SnowFences" "ground" "LSnowFences$Ground;", Cond.fieldLink RX6 24 "SnowFences" "whole" "LSnowFences$Strip;", Cond.methodLink RX6 126 Lib.Math.min.name, Cond.static Lib.Math.min.name, Cond.initialized "java/lang/Math", Cond.code Lib.Math.min.name Lib.Math.min.code 2 (some .int), Cond.methodLink RX6 118 yX1_sum, Cond.instanceMethod yX1_sum, Cond.selects RX1 yX1_sum yX1_sum, Cond.initialized RX1, Cond.code yX1_sum cX1_sum 4 (some .int), Cond.fieldLink RX1 23 "SnowFences$Strip" "length" "I", Cond.methodLink RX1 29 yX4_cell, Cond.instanceMethod yX4_cell, Cond.selects RX4 yX4_cell yX4_cell, Cond.initialized RX4, Cond.code yX4_cell cX4_cell 2 (some .int), Cond.fieldLink RX4 9 "SnowFences$Strip" "first" "I", Cond.fieldLink RX4 18 "SnowFences$Strip" "down" "Z", Cond.methodLink RX1 15 yX1_depth, Cond.instanceMethod yX1_depth, Cond.selects RX1 yX1_depth yX1_depth]
def wsX6_fall_r2 : List Cond := [Cond.code yX1_depth cX1_depth 2 (some .int), Cond.fieldLink RX1 9 "SnowFences$Ground" "depths" "[I", Cond.methodLink RX6 122 yX1_depth, Cond.methodLink RX6 132 yX1_put, Cond.instanceMethod yX1_put, Cond.selects RX1 yX1_put yX1_put, Cond.code yX1_put cX1_put 3 none]
def wsX6_fall : List Cond := .code yX6_fall cX6_fall 4 (some .int) :: ((wsX6_fall_r1 ++ wsX6_fall_r2) ++ wsX60 ++ wsX40 ++ wsX10 ++ (vx_atS RX6 53 "java/lang/IllegalArgumentException" ["java/lang/RuntimeException", "java/lang/Exception"]).filter goodWord)
def wsX6_needWind : List Cond := .code yX6_needWind cX6_needWind 1 none :: ([.methodLink RX6 63 yX6_needIndex, .static yX6_needIndex, .initialized RX6, .code yX6_needIndex cX6_needIndex 2 none, .classLink RX6 227 "java/lang/IndexOutOfBoundsException", .initialized "java/lang/IndexOutOfBoundsException"] ++ (vx_atS RX6 231 "java/lang/IndexOutOfBoundsException" ["java/lang/RuntimeException", "java/lang/Exception"]).filter goodWord)
def wsX6_needStrength : List Cond := .code yX6_needStrength cX6_needStrength 1 none :: ([.classLink RX6 49 "java/lang/IllegalArgumentException", .initialized "java/lang/IllegalArgumentException"] ++ (vx_atS RX6 53 "java/lang/IllegalArgumentException" ["java/lang/RuntimeException", "java/lang/Exception"]).filter goodWord)
def wsX6_needHours : List Cond := .code yX6_needHours cX6_needHours 1 none :: ([.classLink RX6 49 "java/lang/IllegalArgumentException", .initialized "java/lang/IllegalArgumentException"] ++ (vx_atS RX6 53 "java/lang/IllegalArgumentException" ["java/lang/RuntimeException", "java/lang/Exception"]).filter goodWord)
def wsX6_screenAllBut_r1 : List Cond := [Cond.fieldLink RX6 41 "SnowFences" "screens" "LSnowFences$Screens;", Cond.fieldLink RX6 10 "SnowFences" "fences" "Ljava/util/ArrayList;", Cond.classLink RX6 76 "SnowFences$Fence", Cond.fieldLink RX6 178 "SnowFences$Fence" "strip" "LSnowFences$Strip;", Cond.fieldLink RX6 89 "SnowFences$Fence" "height" "I", Cond.fieldLink RX6 92 "SnowFences$Fence" "gap" "I", Cond.methodLink RX6 240 yX3_clear, Cond.instanceMethod yX3_clear, Cond.selects RX3 yX3_clear yX3_clear, Cond.initialized RX3, Cond.code yX3_clear cX3_clear 2 none, Cond.methodLink RX3 18 yX3_stand, Cond.instanceMethod yX3_stand, Cond.selects RX3 yX3_stand yX3_stand, Cond.code yX3_stand cX3_stand 4 none, Cond.fieldLink RX3 9 "SnowFences$Screens" "heights" "[I", Cond.fieldLink RX3 15 "SnowFences$Screens" "gaps" "[I", Cond.methodLink RX6 67 yJx4a65c_size_8abf5, Cond.instanceMethod yJx4a65c_size_8abf5, Cond.selects RJx4a65c yJx4a65c_size_8abf5 yJx4a65c_size_8abf5, Cond.initialized RJx4a65c, Cond.code yJx4a65c_size_8abf5 cJx4a65c_size_8abf5 1 (some .int), Cond.fieldLink RJx4a65c 48 "java/util/ArrayList" "size" "I", Cond.methodLink RX6 85 yJx4a65c_get_915e3]
def wsX6_screenAllBut_r2 : List Cond := [Cond.instanceMethod yJx4a65c_get_915e3, Cond.selects RJx4a65c yJx4a65c_get_915e3 yJx4a65c_get_915e3, Cond.code yJx4a65c_get_915e3 cJx4a65c_get_915e3 2 (some (.object "java/lang/Object")), Cond.methodLink RJx4a65c 118 yJ15_checkIndex_7cf53, Cond.static yJ15_checkIndex_7cf53, Cond.initialized RJ15, Cond.code yJ15_checkIndex_7cf53 cJ15_checkIndex_7cf53 2 (some .int), Cond.methodLink RJ15 105 yJ3_checkIndex_8e157, Cond.static yJ3_checkIndex_8e157, Cond.initialized RJ3, Cond.code yJ3_checkIndex_8e157 cJ3_checkIndex_8e157 3 (some .int), Cond.methodLink RJx4a65c 123 yJx4a65c_elementData_915e3, Cond.instanceMethod yJx4a65c_elementData_915e3, Cond.selects RJx4a65c yJx4a65c_elementData_915e3 yJx4a65c_elementData_915e3, Cond.code yJx4a65c_elementData_915e3 cJx4a65c_elementData_915e3 2 (some (.object "java/lang/Object")), Cond.fieldLink RJx4a65c 9 "java/util/ArrayList" "elementData" "[Ljava/lang/Object;", Cond.methodLink RX6 205 yX3_add, Cond.instanceMethod yX3_add, Cond.selects RX3 yX3_add yX3_add, Cond.code yX3_add cX3_add 6 none, Cond.fieldLink RX3 22 "SnowFences$Strip" "length" "I", Cond.methodLink RX3 28 yX4_cell, Cond.instanceMethod yX4_cell, Cond.selects RX4 yX4_cell yX4_cell]
def wsX6_screenAllBut_r3 : List Cond := [Cond.initialized RX4, Cond.code yX4_cell cX4_cell 2 (some .int), Cond.fieldLink RX4 9 "SnowFences$Strip" "first" "I", Cond.fieldLink RX4 18 "SnowFences$Strip" "down" "Z", Cond.methodLink RX3 32 yX3_height, Cond.instanceMethod yX3_height, Cond.selects RX3 yX3_height yX3_height, Cond.code yX3_height cX3_height 2 (some .int)]
def wsX6_screenAllBut : List Cond := .code yX6_screenAllBut cX6_screenAllBut 4 none :: ((wsX6_screenAllBut_r1 ++ (wsX6_screenAllBut_r2 ++ wsX6_screenAllBut_r3)) ++ wsX60 ++ wsX00 ++ wsX30 ++ wsJx4a65c0 ++ wsX40)
def wsX6_blowOver_r1 : List Cond := [Cond.fieldLink RX6 41 "SnowFences" "screens" "LSnowFences$Screens;", Cond.methodLink RX6 242 yX5_crossField, Cond.instanceMethod yX5_crossField, Cond.selects RX5 yX5_crossField yX5_crossField, Cond.initialized RX5, Cond.code yX5_crossField cX5_crossField 5 (some .int), Cond.fieldLink RX5 22 "SnowFences$Wind" "firstCell" "I", Cond.fieldLink RX5 28 "SnowFences$Wind" "nextLine" "I", Cond.methodLink RX5 31 yX5_passLine, Cond.instanceMethod yX5_passLine, Cond.selects RX5 yX5_passLine yX5_passLine, Cond.code yX5_passLine cX5_passLine 5 (some .int), Cond.fieldLink RX5 15 "SnowFences$Wind" "supply" "I", Cond.fieldLink RX5 35 "SnowFences$Wind" "carried" "I", Cond.fieldLink RX5 38 "SnowFences$Wind" "shelter" "I", Cond.fieldLink RX5 41 "SnowFences$Wind" "sweep" "I", Cond.fieldLink RX5 25 "SnowFences$Wind" "nextCell" "I", Cond.methodLink RX5 44 yX5_passCell, Cond.instanceMethod yX5_passCell, Cond.selects RX5 yX5_passCell yX5_passCell, Cond.code yX5_passCell cX5_passCell 7 none, Cond.fieldLink RX5 57 "SnowFences$Wind" "holds" "I", Cond.methodLink RX5 75 Lib.Math.max.name, Cond.static Lib.Math.max.name]
def wsX6_blowOver_r2 : List Cond := [Cond.initialized "java/lang/Math", Cond.code Lib.Math.max.name Lib.Math.max.code 2 (some .int), Cond.methodLink RX5 48 yX3_height, Cond.instanceMethod yX3_height, Cond.selects RX3 yX3_height yX3_height, Cond.initialized RX3, Cond.code yX3_height cX3_height 2 (some .int), Cond.fieldLink RX3 9 "SnowFences$Screens" "heights" "[I", Cond.methodLink RX5 54 yX3_gap, Cond.instanceMethod yX3_gap, Cond.selects RX3 yX3_gap yX3_gap, Cond.code yX3_gap cX3_gap 2 (some .int), Cond.fieldLink RX3 15 "SnowFences$Screens" "gaps" "[I", Cond.methodLink RX5 60 yX1_depth, Cond.instanceMethod yX1_depth, Cond.selects RX1 yX1_depth yX1_depth, Cond.initialized RX1, Cond.code yX1_depth cX1_depth 2 (some .int), Cond.fieldLink RX1 9 "SnowFences$Ground" "depths" "[I", Cond.methodLink RX5 65 yX5_dropped, Cond.instanceMethod yX5_dropped, Cond.selects RX5 yX5_dropped yX5_dropped, Cond.code yX5_dropped cX5_dropped 2 (some .int), Cond.methodLink RX5 81 Lib.Math.min.name]
def wsX6_blowOver_r3 : List Cond := [Cond.static Lib.Math.min.name, Cond.code Lib.Math.min.name Lib.Math.min.code 2 (some .int), Cond.methodLink RX5 68 yX5_pickedUp, Cond.instanceMethod yX5_pickedUp, Cond.selects RX5 yX5_pickedUp yX5_pickedUp, Cond.code yX5_pickedUp cX5_pickedUp 2 (some .int), Cond.fieldLink RX5 9 "SnowFences$Wind" "strength" "I", Cond.methodLink RX5 71 yX1_put, Cond.instanceMethod yX1_put, Cond.selects RX1 yX1_put yX1_put, Cond.code yX1_put cX1_put 3 none]
def wsX6_blowOver : List Cond := .code yX6_blowOver cX6_blowOver 6 (some .int) :: ((wsX6_blowOver_r1 ++ (wsX6_blowOver_r2 ++ wsX6_blowOver_r3)) ++ wsX60 ++ wsX50 ++ wsX30 ++ wsX10)
def wsX6_blow_r1 : List Cond := [Cond.fieldLink RX6 31 "SnowFences" "ground" "LSnowFences$Ground;", Cond.classLink RX6 147 RX5, Cond.instantiable RX5 10, Cond.initialized RX5, Cond.fieldLink RX6 113 "SnowFences" "supply" "I", Cond.fieldLink RX6 156 "SnowFences" "carriedOff" "I", Cond.fieldLink RX6 159 "SnowFences" "windHours" "I", Cond.methodLink RX6 135 yX6_needWind, Cond.static yX6_needWind, Cond.initialized RX6, Cond.code yX6_needWind cX6_needWind 1 none, Cond.methodLink RX6 63 yX6_needIndex, Cond.static yX6_needIndex, Cond.code yX6_needIndex cX6_needIndex 2 none, Cond.classLink RX6 227 "java/lang/IndexOutOfBoundsException", Cond.initialized "java/lang/IndexOutOfBoundsException", Cond.methodLink RX6 138 yX6_needStrength, Cond.static yX6_needStrength, Cond.code yX6_needStrength cX6_needStrength 1 none, Cond.classLink RX6 49 "java/lang/IllegalArgumentException", Cond.initialized "java/lang/IllegalArgumentException", Cond.methodLink RX6 141 yX6_needHours, Cond.static yX6_needHours, Cond.code yX6_needHours cX6_needHours 1 none]
def wsX6_blow_r2 : List Cond := [Cond.methodLink RX6 144 yX6_screenAllBut, Cond.instanceMethod yX6_screenAllBut, Cond.selects RX6 yX6_screenAllBut yX6_screenAllBut, Cond.code yX6_screenAllBut cX6_screenAllBut 4 none, Cond.fieldLink RX6 41 "SnowFences" "screens" "LSnowFences$Screens;", Cond.fieldLink RX6 10 "SnowFences" "fences" "Ljava/util/ArrayList;", Cond.classLink RX6 76 "SnowFences$Fence", Cond.fieldLink RX6 178 "SnowFences$Fence" "strip" "LSnowFences$Strip;", Cond.fieldLink RX6 89 "SnowFences$Fence" "height" "I", Cond.fieldLink RX6 92 "SnowFences$Fence" "gap" "I", Cond.methodLink RX6 240 yX3_clear, Cond.instanceMethod yX3_clear, Cond.selects RX3 yX3_clear yX3_clear, Cond.initialized RX3, Cond.code yX3_clear cX3_clear 2 none, Cond.methodLink RX3 18 yX3_stand, Cond.instanceMethod yX3_stand, Cond.selects RX3 yX3_stand yX3_stand, Cond.code yX3_stand cX3_stand 4 none, Cond.fieldLink RX3 9 "SnowFences$Screens" "heights" "[I", Cond.fieldLink RX3 15 "SnowFences$Screens" "gaps" "[I", Cond.methodLink RX6 67 yJx4a65c_size_8abf5, Cond.instanceMethod yJx4a65c_size_8abf5, Cond.selects RJx4a65c yJx4a65c_size_8abf5 yJx4a65c_size_8abf5]
def wsX6_blow_r3 : List Cond := [Cond.initialized RJx4a65c, Cond.code yJx4a65c_size_8abf5 cJx4a65c_size_8abf5 1 (some .int), Cond.fieldLink RJx4a65c 48 "java/util/ArrayList" "size" "I", Cond.methodLink RX6 85 yJx4a65c_get_915e3, Cond.instanceMethod yJx4a65c_get_915e3, Cond.selects RJx4a65c yJx4a65c_get_915e3 yJx4a65c_get_915e3, Cond.code yJx4a65c_get_915e3 cJx4a65c_get_915e3 2 (some (.object "java/lang/Object")), Cond.methodLink RJx4a65c 118 yJ15_checkIndex_7cf53, Cond.static yJ15_checkIndex_7cf53, Cond.initialized RJ15, Cond.code yJ15_checkIndex_7cf53 cJ15_checkIndex_7cf53 2 (some .int), Cond.methodLink RJ15 105 yJ3_checkIndex_8e157, Cond.static yJ3_checkIndex_8e157, Cond.initialized RJ3, Cond.code yJ3_checkIndex_8e157 cJ3_checkIndex_8e157 3 (some .int), Cond.methodLink RJx4a65c 123 yJx4a65c_elementData_915e3, Cond.instanceMethod yJx4a65c_elementData_915e3, Cond.selects RJx4a65c yJx4a65c_elementData_915e3 yJx4a65c_elementData_915e3, Cond.code yJx4a65c_elementData_915e3 cJx4a65c_elementData_915e3 2 (some (.object "java/lang/Object")), Cond.fieldLink RJx4a65c 9 "java/util/ArrayList" "elementData" "[Ljava/lang/Object;", Cond.methodLink RX6 205 yX3_add, Cond.instanceMethod yX3_add, Cond.selects RX3 yX3_add yX3_add, Cond.code yX3_add cX3_add 6 none]
def wsX6_blow_r4 : List Cond := [Cond.fieldLink RX3 22 "SnowFences$Strip" "length" "I", Cond.methodLink RX3 28 yX4_cell, Cond.instanceMethod yX4_cell, Cond.selects RX4 yX4_cell yX4_cell, Cond.initialized RX4, Cond.code yX4_cell cX4_cell 2 (some .int), Cond.fieldLink RX4 9 "SnowFences$Strip" "first" "I", Cond.fieldLink RX4 18 "SnowFences$Strip" "down" "Z", Cond.methodLink RX3 32 yX3_height, Cond.instanceMethod yX3_height, Cond.selects RX3 yX3_height yX3_height, Cond.code yX3_height cX3_height 2 (some .int), Cond.methodLink RX6 149 yX5_init, Cond.instanceMethod yX5_init, Cond.code yX5_init cX5_init 6 none, Cond.methodLink RX5 3 objectInit, Cond.instanceMethod objectInit, Cond.code objectInit ⟨#[0xb1]⟩ 1 none, Cond.fieldLink RX5 9 "SnowFences$Wind" "strength" "I", Cond.fieldLink RX5 15 "SnowFences$Wind" "supply" "I", Cond.fieldLink RX5 18 "SnowFences$Wind" "down" "Z", Cond.fieldLink RX5 22 "SnowFences$Wind" "firstCell" "I", Cond.fieldLink RX5 25 "SnowFences$Wind" "nextCell" "I", Cond.fieldLink RX5 28 "SnowFences$Wind" "nextLine" "I"]
def wsX6_blow_r5 : List Cond := [Cond.methodLink RX6 152 yX6_blowOver, Cond.instanceMethod yX6_blowOver, Cond.selects RX6 yX6_blowOver yX6_blowOver, Cond.code yX6_blowOver cX6_blowOver 6 (some .int), Cond.methodLink RX6 242 yX5_crossField, Cond.instanceMethod yX5_crossField, Cond.selects RX5 yX5_crossField yX5_crossField, Cond.code yX5_crossField cX5_crossField 5 (some .int), Cond.methodLink RX5 31 yX5_passLine, Cond.instanceMethod yX5_passLine, Cond.selects RX5 yX5_passLine yX5_passLine, Cond.code yX5_passLine cX5_passLine 5 (some .int), Cond.fieldLink RX5 35 "SnowFences$Wind" "carried" "I", Cond.fieldLink RX5 38 "SnowFences$Wind" "shelter" "I", Cond.fieldLink RX5 41 "SnowFences$Wind" "sweep" "I", Cond.methodLink RX5 44 yX5_passCell, Cond.instanceMethod yX5_passCell, Cond.selects RX5 yX5_passCell yX5_passCell, Cond.code yX5_passCell cX5_passCell 7 none, Cond.fieldLink RX5 57 "SnowFences$Wind" "holds" "I", Cond.methodLink RX5 75 Lib.Math.max.name, Cond.static Lib.Math.max.name, Cond.initialized "java/lang/Math", Cond.code Lib.Math.max.name Lib.Math.max.code 2 (some .int)]
end
section
def wsX6_blow_r6 : List Cond := [Cond.methodLink RX5 48 yX3_height, Cond.methodLink RX5 54 yX3_gap, Cond.instanceMethod yX3_gap, Cond.selects RX3 yX3_gap yX3_gap, Cond.code yX3_gap cX3_gap 2 (some .int), Cond.methodLink RX5 60 yX1_depth, Cond.instanceMethod yX1_depth, Cond.selects RX1 yX1_depth yX1_depth, Cond.initialized RX1, Cond.code yX1_depth cX1_depth 2 (some .int), Cond.fieldLink RX1 9 "SnowFences$Ground" "depths" "[I", Cond.methodLink RX5 65 yX5_dropped, Cond.instanceMethod yX5_dropped, Cond.selects RX5 yX5_dropped yX5_dropped, Cond.code yX5_dropped cX5_dropped 2 (some .int), Cond.methodLink RX5 81 Lib.Math.min.name, Cond.static Lib.Math.min.name, Cond.code Lib.Math.min.name Lib.Math.min.code 2 (some .int), Cond.methodLink RX5 68 yX5_pickedUp, Cond.instanceMethod yX5_pickedUp, Cond.selects RX5 yX5_pickedUp yX5_pickedUp, Cond.code yX5_pickedUp cX5_pickedUp 2 (some .int), Cond.methodLink RX5 71 yX1_put, Cond.instanceMethod yX1_put]
def wsX6_blow_r7 : List Cond := [Cond.selects RX1 yX1_put yX1_put, Cond.code yX1_put cX1_put 3 none]
def wsX6_blow : List Cond := .code yX6_blow cX6_blow 5 (some .int) :: ((wsX6_blow_r1 ++ (wsX6_blow_r2 ++ (wsX6_blow_r3 ++ (wsX6_blow_r4 ++ (wsX6_blow_r5 ++ (wsX6_blow_r6 ++ wsX6_blow_r7)))))) ++ wsX60 ++ wsX50 ++ wsX00 ++ wsX30 ++ wsJx4a65c0 ++ wsX40 ++ wsX10 ++ (vx_atS RX6 231 "java/lang/IndexOutOfBoundsException" ["java/lang/RuntimeException", "java/lang/Exception"]).filter goodWord ++ (vx_atS RX6 53 "java/lang/IllegalArgumentException" ["java/lang/RuntimeException", "java/lang/Exception"]).filter goodWord)
def wsX6_plough_r1 : List Cond := [Cond.fieldLink RX6 16 "SnowFences" "roads" "Ljava/util/ArrayList;", Cond.classLink RX6 100 "SnowFences$Road", Cond.fieldLink RX6 162 "SnowFences$Road" "strip" "LSnowFences$Strip;", Cond.fieldLink RX6 31 "SnowFences" "ground" "LSnowFences$Ground;", Cond.fieldLink RX6 169 "SnowFences" "ploughed" "I", Cond.methodLink RX6 67 yJx4a65c_size_8abf5, Cond.instanceMethod yJx4a65c_size_8abf5, Cond.selects RJx4a65c yJx4a65c_size_8abf5 yJx4a65c_size_8abf5, Cond.initialized RJx4a65c, Cond.code yJx4a65c_size_8abf5 cJx4a65c_size_8abf5 1 (some .int), Cond.fieldLink RJx4a65c 48 "java/util/ArrayList" "size" "I", Cond.methodLink RX6 63 yX6_needIndex, Cond.static yX6_needIndex, Cond.initialized RX6, Cond.code yX6_needIndex cX6_needIndex 2 none, Cond.classLink RX6 227 "java/lang/IndexOutOfBoundsException", Cond.initialized "java/lang/IndexOutOfBoundsException", Cond.methodLink RX6 85 yJx4a65c_get_915e3, Cond.instanceMethod yJx4a65c_get_915e3, Cond.selects RJx4a65c yJx4a65c_get_915e3 yJx4a65c_get_915e3, Cond.code yJx4a65c_get_915e3 cJx4a65c_get_915e3 2 (some (.object "java/lang/Object")), Cond.methodLink RJx4a65c 118 yJ15_checkIndex_7cf53, Cond.static yJ15_checkIndex_7cf53, Cond.initialized RJ15]
def wsX6_plough_r2 : List Cond := [Cond.code yJ15_checkIndex_7cf53 cJ15_checkIndex_7cf53 2 (some .int), Cond.methodLink RJ15 105 yJ3_checkIndex_8e157, Cond.static yJ3_checkIndex_8e157, Cond.initialized RJ3, Cond.code yJ3_checkIndex_8e157 cJ3_checkIndex_8e157 3 (some .int), Cond.methodLink RJx4a65c 123 yJx4a65c_elementData_915e3, Cond.instanceMethod yJx4a65c_elementData_915e3, Cond.selects RJx4a65c yJx4a65c_elementData_915e3 yJx4a65c_elementData_915e3, Cond.code yJx4a65c_elementData_915e3 cJx4a65c_elementData_915e3 2 (some (.object "java/lang/Object")), Cond.fieldLink RJx4a65c 9 "java/util/ArrayList" "elementData" "[Ljava/lang/Object;", Cond.methodLink RX6 118 yX1_sum, Cond.instanceMethod yX1_sum, Cond.selects RX1 yX1_sum yX1_sum, Cond.initialized RX1, Cond.code yX1_sum cX1_sum 4 (some .int), Cond.fieldLink RX1 23 "SnowFences$Strip" "length" "I", Cond.methodLink RX1 29 yX4_cell, Cond.instanceMethod yX4_cell, Cond.selects RX4 yX4_cell yX4_cell, Cond.initialized RX4, Cond.code yX4_cell cX4_cell 2 (some .int), Cond.fieldLink RX4 9 "SnowFences$Strip" "first" "I", Cond.fieldLink RX4 18 "SnowFences$Strip" "down" "Z", Cond.methodLink RX1 15 yX1_depth]
def wsX6_plough_r3 : List Cond := [Cond.instanceMethod yX1_depth, Cond.selects RX1 yX1_depth yX1_depth, Cond.code yX1_depth cX1_depth 2 (some .int), Cond.fieldLink RX1 9 "SnowFences$Ground" "depths" "[I", Cond.methodLink RX6 165 yX1_clear, Cond.instanceMethod yX1_clear, Cond.selects RX1 yX1_clear yX1_clear, Cond.code yX1_clear cX1_clear 3 none, Cond.methodLink RX1 19 yX1_put, Cond.instanceMethod yX1_put, Cond.selects RX1 yX1_put yX1_put, Cond.code yX1_put cX1_put 3 none]
def wsX6_plough : List Cond := .code yX6_plough cX6_plough 4 (some .int) :: ((wsX6_plough_r1 ++ (wsX6_plough_r2 ++ wsX6_plough_r3)) ++ wsX60 ++ wsX20 ++ wsJx4a65c0 ++ wsX40 ++ wsX10 ++ (vx_atS RX6 231 "java/lang/IndexOutOfBoundsException" ["java/lang/RuntimeException", "java/lang/Exception"]).filter goodWord)
def wsX6_snow : List Cond := .code yX6_snow cX6_snow 3 (some .int) :: ([.fieldLink RX6 31 "SnowFences" "ground" "LSnowFences$Ground;", .methodLink RX6 63 yX6_needIndex, .static yX6_needIndex, .initialized RX6, .code yX6_needIndex cX6_needIndex 2 none, .classLink RX6 227 "java/lang/IndexOutOfBoundsException", .initialized "java/lang/IndexOutOfBoundsException", .methodLink RX6 122 yX1_depth, .instanceMethod yX1_depth, .selects RX1 yX1_depth yX1_depth, .initialized RX1, .code yX1_depth cX1_depth 2 (some .int), .fieldLink RX1 9 "SnowFences$Ground" "depths" "[I"] ++ wsX60 ++ wsX10 ++ (vx_atS RX6 231 "java/lang/IndexOutOfBoundsException" ["java/lang/RuntimeException", "java/lang/Exception"]).filter goodWord)
def wsX6_about_r1 : List Cond := [Cond.fieldLink RX6 10 "SnowFences" "fences" "Ljava/util/ArrayList;", Cond.classLink RX6 76 "SnowFences$Fence", Cond.fieldLink RX6 172 "SnowFences$Fence" "column" "I", Cond.fieldLink RX6 175 "SnowFences$Fence" "row" "I", Cond.fieldLink RX6 178 "SnowFences$Fence" "strip" "LSnowFences$Strip;", Cond.fieldLink RX6 179 "SnowFences$Strip" "length" "I", Cond.fieldLink RX6 182 "SnowFences$Strip" "down" "Z", Cond.fieldLink RX6 89 "SnowFences$Fence" "height" "I", Cond.fieldLink RX6 92 "SnowFences$Fence" "gap" "I", Cond.fieldLink RX6 31 "SnowFences" "ground" "LSnowFences$Ground;", Cond.methodLink RX6 67 yJx4a65c_size_8abf5, Cond.instanceMethod yJx4a65c_size_8abf5, Cond.selects RJx4a65c yJx4a65c_size_8abf5 yJx4a65c_size_8abf5, Cond.initialized RJx4a65c, Cond.code yJx4a65c_size_8abf5 cJx4a65c_size_8abf5 1 (some .int), Cond.fieldLink RJx4a65c 48 "java/util/ArrayList" "size" "I", Cond.methodLink RX6 63 yX6_needIndex, Cond.static yX6_needIndex, Cond.initialized RX6, Cond.code yX6_needIndex cX6_needIndex 2 none, Cond.classLink RX6 227 "java/lang/IndexOutOfBoundsException", Cond.initialized "java/lang/IndexOutOfBoundsException", Cond.methodLink RX6 85 yJx4a65c_get_915e3, Cond.instanceMethod yJx4a65c_get_915e3]
def wsX6_about_r2 : List Cond := [Cond.selects RJx4a65c yJx4a65c_get_915e3 yJx4a65c_get_915e3, Cond.code yJx4a65c_get_915e3 cJx4a65c_get_915e3 2 (some (.object "java/lang/Object")), Cond.methodLink RJx4a65c 118 yJ15_checkIndex_7cf53, Cond.static yJ15_checkIndex_7cf53, Cond.initialized RJ15, Cond.code yJ15_checkIndex_7cf53 cJ15_checkIndex_7cf53 2 (some .int), Cond.methodLink RJ15 105 yJ3_checkIndex_8e157, Cond.static yJ3_checkIndex_8e157, Cond.initialized RJ3, Cond.code yJ3_checkIndex_8e157 cJ3_checkIndex_8e157 3 (some .int), Cond.methodLink RJx4a65c 123 yJx4a65c_elementData_915e3, Cond.instanceMethod yJx4a65c_elementData_915e3, Cond.selects RJx4a65c yJx4a65c_elementData_915e3 yJx4a65c_elementData_915e3, Cond.code yJx4a65c_elementData_915e3 cJx4a65c_elementData_915e3 2 (some (.object "java/lang/Object")), Cond.fieldLink RJx4a65c 9 "java/util/ArrayList" "elementData" "[Ljava/lang/Object;", Cond.methodLink RX6 118 yX1_sum, Cond.instanceMethod yX1_sum, Cond.selects RX1 yX1_sum yX1_sum, Cond.initialized RX1, Cond.code yX1_sum cX1_sum 4 (some .int), Cond.fieldLink RX1 23 "SnowFences$Strip" "length" "I", Cond.methodLink RX1 29 yX4_cell, Cond.instanceMethod yX4_cell, Cond.selects RX4 yX4_cell yX4_cell]
def wsX6_about_r3 : List Cond := [Cond.initialized RX4, Cond.code yX4_cell cX4_cell 2 (some .int), Cond.fieldLink RX4 9 "SnowFences$Strip" "first" "I", Cond.fieldLink RX4 18 "SnowFences$Strip" "down" "Z", Cond.methodLink RX1 15 yX1_depth, Cond.instanceMethod yX1_depth, Cond.selects RX1 yX1_depth yX1_depth, Cond.code yX1_depth cX1_depth 2 (some .int), Cond.fieldLink RX1 9 "SnowFences$Ground" "depths" "[I"]
def wsX6_about : List Cond := .code yX6_about cX6_about 4 (some .int) :: ((wsX6_about_r1 ++ (wsX6_about_r2 ++ wsX6_about_r3)) ++ wsX60 ++ wsX00 ++ wsX40 ++ wsJx4a65c0 ++ wsX10 ++ (vx_atS RX6 231 "java/lang/IndexOutOfBoundsException" ["java/lang/RuntimeException", "java/lang/Exception"]).filter goodWord)
def wsX6_told_r1 : List Cond := [Cond.fieldLink RX6 16 "SnowFences" "roads" "Ljava/util/ArrayList;", Cond.classLink RX6 100 "SnowFences$Road", Cond.fieldLink RX6 162 "SnowFences$Road" "strip" "LSnowFences$Strip;", Cond.fieldLink RX6 182 "SnowFences$Strip" "down" "Z", Cond.fieldLink RX6 186 "SnowFences$Road" "index" "I", Cond.fieldLink RX6 31 "SnowFences" "ground" "LSnowFences$Ground;", Cond.fieldLink RX6 45 "SnowFences" "limit" "I", Cond.methodLink RX6 67 yJx4a65c_size_8abf5, Cond.instanceMethod yJx4a65c_size_8abf5, Cond.selects RJx4a65c yJx4a65c_size_8abf5 yJx4a65c_size_8abf5, Cond.initialized RJx4a65c, Cond.code yJx4a65c_size_8abf5 cJx4a65c_size_8abf5 1 (some .int), Cond.fieldLink RJx4a65c 48 "java/util/ArrayList" "size" "I", Cond.methodLink RX6 63 yX6_needIndex, Cond.static yX6_needIndex, Cond.initialized RX6, Cond.code yX6_needIndex cX6_needIndex 2 none, Cond.classLink RX6 227 "java/lang/IndexOutOfBoundsException", Cond.initialized "java/lang/IndexOutOfBoundsException", Cond.methodLink RX6 85 yJx4a65c_get_915e3, Cond.instanceMethod yJx4a65c_get_915e3, Cond.selects RJx4a65c yJx4a65c_get_915e3 yJx4a65c_get_915e3, Cond.code yJx4a65c_get_915e3 cJx4a65c_get_915e3 2 (some (.object "java/lang/Object")), Cond.methodLink RJx4a65c 118 yJ15_checkIndex_7cf53]
def wsX6_told_r2 : List Cond := [Cond.static yJ15_checkIndex_7cf53, Cond.initialized RJ15, Cond.code yJ15_checkIndex_7cf53 cJ15_checkIndex_7cf53 2 (some .int), Cond.methodLink RJ15 105 yJ3_checkIndex_8e157, Cond.static yJ3_checkIndex_8e157, Cond.initialized RJ3, Cond.code yJ3_checkIndex_8e157 cJ3_checkIndex_8e157 3 (some .int), Cond.methodLink RJx4a65c 123 yJx4a65c_elementData_915e3, Cond.instanceMethod yJx4a65c_elementData_915e3, Cond.selects RJx4a65c yJx4a65c_elementData_915e3 yJx4a65c_elementData_915e3, Cond.code yJx4a65c_elementData_915e3 cJx4a65c_elementData_915e3 2 (some (.object "java/lang/Object")), Cond.fieldLink RJx4a65c 9 "java/util/ArrayList" "elementData" "[Ljava/lang/Object;", Cond.methodLink RX6 189 yX1_blocked, Cond.instanceMethod yX1_blocked, Cond.selects RX1 yX1_blocked yX1_blocked, Cond.initialized RX1, Cond.code yX1_blocked cX1_blocked 5 (some .int), Cond.fieldLink RX1 23 "SnowFences$Strip" "length" "I", Cond.methodLink RX1 29 yX4_cell, Cond.instanceMethod yX4_cell, Cond.selects RX4 yX4_cell yX4_cell, Cond.initialized RX4, Cond.code yX4_cell cX4_cell 2 (some .int), Cond.fieldLink RX4 9 "SnowFences$Strip" "first" "I"]
def wsX6_told_r3 : List Cond := [Cond.fieldLink RX4 18 "SnowFences$Strip" "down" "Z", Cond.methodLink RX1 15 yX1_depth, Cond.instanceMethod yX1_depth, Cond.selects RX1 yX1_depth yX1_depth, Cond.code yX1_depth cX1_depth 2 (some .int), Cond.fieldLink RX1 9 "SnowFences$Ground" "depths" "[I", Cond.methodLink RX6 118 yX1_sum, Cond.instanceMethod yX1_sum, Cond.selects RX1 yX1_sum yX1_sum, Cond.code yX1_sum cX1_sum 4 (some .int), Cond.methodLink RX6 193 yX1_most, Cond.instanceMethod yX1_most, Cond.selects RX1 yX1_most yX1_most, Cond.code yX1_most cX1_most 4 (some .int), Cond.methodLink RX1 32 Lib.Math.max.name, Cond.static Lib.Math.max.name, Cond.initialized "java/lang/Math", Cond.code Lib.Math.max.name Lib.Math.max.code 2 (some .int)]
def wsX6_told : List Cond := .code yX6_told cX6_told 4 (some .int) :: ((wsX6_told_r1 ++ (wsX6_told_r2 ++ wsX6_told_r3)) ++ wsX60 ++ wsX20 ++ wsX40 ++ wsJx4a65c0 ++ wsX10 ++ (vx_atS RX6 231 "java/lang/IndexOutOfBoundsException" ["java/lang/RuntimeException", "java/lang/Exception"]).filter goodWord)
def wsX6_blockedOnRoads_r1 : List Cond := [Cond.fieldLink RX6 16 "SnowFences" "roads" "Ljava/util/ArrayList;", Cond.classLink RX6 100 "SnowFences$Road", Cond.fieldLink RX6 162 "SnowFences$Road" "strip" "LSnowFences$Strip;", Cond.fieldLink RX6 45 "SnowFences" "limit" "I", Cond.methodLink RX6 67 yJx4a65c_size_8abf5, Cond.instanceMethod yJx4a65c_size_8abf5, Cond.selects RJx4a65c yJx4a65c_size_8abf5 yJx4a65c_size_8abf5, Cond.initialized RJx4a65c, Cond.code yJx4a65c_size_8abf5 cJx4a65c_size_8abf5 1 (some .int), Cond.fieldLink RJx4a65c 48 "java/util/ArrayList" "size" "I", Cond.methodLink RX6 85 yJx4a65c_get_915e3, Cond.instanceMethod yJx4a65c_get_915e3, Cond.selects RJx4a65c yJx4a65c_get_915e3 yJx4a65c_get_915e3, Cond.code yJx4a65c_get_915e3 cJx4a65c_get_915e3 2 (some (.object "java/lang/Object")), Cond.methodLink RJx4a65c 118 yJ15_checkIndex_7cf53, Cond.static yJ15_checkIndex_7cf53, Cond.initialized RJ15, Cond.code yJ15_checkIndex_7cf53 cJ15_checkIndex_7cf53 2 (some .int), Cond.methodLink RJ15 105 yJ3_checkIndex_8e157, Cond.static yJ3_checkIndex_8e157, Cond.initialized RJ3, Cond.code yJ3_checkIndex_8e157 cJ3_checkIndex_8e157 3 (some .int), Cond.methodLink RJx4a65c 123 yJx4a65c_elementData_915e3, Cond.instanceMethod yJx4a65c_elementData_915e3]
def wsX6_blockedOnRoads_r2 : List Cond := [Cond.selects RJx4a65c yJx4a65c_elementData_915e3 yJx4a65c_elementData_915e3, Cond.code yJx4a65c_elementData_915e3 cJx4a65c_elementData_915e3 2 (some (.object "java/lang/Object")), Cond.fieldLink RJx4a65c 9 "java/util/ArrayList" "elementData" "[Ljava/lang/Object;", Cond.methodLink RX6 189 yX1_blocked, Cond.instanceMethod yX1_blocked, Cond.selects RX1 yX1_blocked yX1_blocked, Cond.initialized RX1, Cond.code yX1_blocked cX1_blocked 5 (some .int), Cond.fieldLink RX1 23 "SnowFences$Strip" "length" "I", Cond.methodLink RX1 29 yX4_cell, Cond.instanceMethod yX4_cell, Cond.selects RX4 yX4_cell yX4_cell, Cond.initialized RX4, Cond.code yX4_cell cX4_cell 2 (some .int), Cond.fieldLink RX4 9 "SnowFences$Strip" "first" "I", Cond.fieldLink RX4 18 "SnowFences$Strip" "down" "Z", Cond.methodLink RX1 15 yX1_depth, Cond.instanceMethod yX1_depth, Cond.selects RX1 yX1_depth yX1_depth, Cond.code yX1_depth cX1_depth 2 (some .int), Cond.fieldLink RX1 9 "SnowFences$Ground" "depths" "[I"]
def wsX6_blockedOnRoads : List Cond := .code yX6_blockedOnRoads cX6_blockedOnRoads 4 (some .int) :: ((wsX6_blockedOnRoads_r1 ++ wsX6_blockedOnRoads_r2) ++ wsX60 ++ wsX20 ++ wsJx4a65c0 ++ wsX40 ++ wsX10)
def wsX6_count_r1 : List Cond := [Cond.fieldLink RX6 10 "SnowFences" "fences" "Ljava/util/ArrayList;", Cond.fieldLink RX6 16 "SnowFences" "roads" "Ljava/util/ArrayList;", Cond.fieldLink RX6 31 "SnowFences" "ground" "LSnowFences$Ground;", Cond.fieldLink RX6 24 "SnowFences" "whole" "LSnowFences$Strip;", Cond.fieldLink RX6 156 "SnowFences" "carriedOff" "I", Cond.fieldLink RX6 169 "SnowFences" "ploughed" "I", Cond.fieldLink RX6 159 "SnowFences" "windHours" "I", Cond.fieldLink RX6 45 "SnowFences" "limit" "I", Cond.fieldLink RX6 113 "SnowFences" "supply" "I", Cond.methodLink RX6 63 yX6_needIndex, Cond.static yX6_needIndex, Cond.initialized RX6, Cond.code yX6_needIndex cX6_needIndex 2 none, Cond.classLink RX6 227 "java/lang/IndexOutOfBoundsException", Cond.initialized "java/lang/IndexOutOfBoundsException", Cond.methodLink RX6 67 yJx4a65c_size_8abf5, Cond.instanceMethod yJx4a65c_size_8abf5, Cond.selects RJx4a65c yJx4a65c_size_8abf5 yJx4a65c_size_8abf5, Cond.initialized RJx4a65c, Cond.code yJx4a65c_size_8abf5 cJx4a65c_size_8abf5 1 (some .int), Cond.fieldLink RJx4a65c 48 "java/util/ArrayList" "size" "I", Cond.methodLink RX6 118 yX1_sum, Cond.instanceMethod yX1_sum, Cond.selects RX1 yX1_sum yX1_sum]
def wsX6_count_r2 : List Cond := [Cond.initialized RX1, Cond.code yX1_sum cX1_sum 4 (some .int), Cond.fieldLink RX1 23 "SnowFences$Strip" "length" "I", Cond.methodLink RX1 29 yX4_cell, Cond.instanceMethod yX4_cell, Cond.selects RX4 yX4_cell yX4_cell, Cond.initialized RX4, Cond.code yX4_cell cX4_cell 2 (some .int), Cond.fieldLink RX4 9 "SnowFences$Strip" "first" "I", Cond.fieldLink RX4 18 "SnowFences$Strip" "down" "Z", Cond.methodLink RX1 15 yX1_depth, Cond.instanceMethod yX1_depth, Cond.selects RX1 yX1_depth yX1_depth, Cond.code yX1_depth cX1_depth 2 (some .int), Cond.fieldLink RX1 9 "SnowFences$Ground" "depths" "[I", Cond.methodLink RX6 193 yX1_most, Cond.instanceMethod yX1_most, Cond.selects RX1 yX1_most yX1_most, Cond.code yX1_most cX1_most 4 (some .int), Cond.methodLink RX1 32 Lib.Math.max.name, Cond.static Lib.Math.max.name, Cond.initialized "java/lang/Math", Cond.code Lib.Math.max.name Lib.Math.max.code 2 (some .int), Cond.methodLink RX6 196 yX6_blockedOnRoads]
def wsX6_count_r3 : List Cond := [Cond.instanceMethod yX6_blockedOnRoads, Cond.selects RX6 yX6_blockedOnRoads yX6_blockedOnRoads, Cond.code yX6_blockedOnRoads cX6_blockedOnRoads 4 (some .int), Cond.classLink RX6 100 "SnowFences$Road", Cond.fieldLink RX6 162 "SnowFences$Road" "strip" "LSnowFences$Strip;", Cond.methodLink RX6 85 yJx4a65c_get_915e3, Cond.instanceMethod yJx4a65c_get_915e3, Cond.selects RJx4a65c yJx4a65c_get_915e3 yJx4a65c_get_915e3, Cond.code yJx4a65c_get_915e3 cJx4a65c_get_915e3 2 (some (.object "java/lang/Object")), Cond.methodLink RJx4a65c 118 yJ15_checkIndex_7cf53, Cond.static yJ15_checkIndex_7cf53, Cond.initialized RJ15, Cond.code yJ15_checkIndex_7cf53 cJ15_checkIndex_7cf53 2 (some .int), Cond.methodLink RJ15 105 yJ3_checkIndex_8e157, Cond.static yJ3_checkIndex_8e157, Cond.initialized RJ3, Cond.code yJ3_checkIndex_8e157 cJ3_checkIndex_8e157 3 (some .int), Cond.methodLink RJx4a65c 123 yJx4a65c_elementData_915e3, Cond.instanceMethod yJx4a65c_elementData_915e3, Cond.selects RJx4a65c yJx4a65c_elementData_915e3 yJx4a65c_elementData_915e3, Cond.code yJx4a65c_elementData_915e3 cJx4a65c_elementData_915e3 2 (some (.object "java/lang/Object")), Cond.fieldLink RJx4a65c 9 "java/util/ArrayList" "elementData" "[Ljava/lang/Object;", Cond.methodLink RX6 189 yX1_blocked, Cond.instanceMethod yX1_blocked]
def wsX6_count_r4 : List Cond := [Cond.selects RX1 yX1_blocked yX1_blocked, Cond.code yX1_blocked cX1_blocked 5 (some .int)]
def wsX6_count : List Cond := .code yX6_count cX6_count 2 (some .int) :: ((wsX6_count_r1 ++ (wsX6_count_r2 ++ (wsX6_count_r3 ++ wsX6_count_r4))) ++ wsX60 ++ wsJx4a65c0 ++ wsX40 ++ wsX10 ++ wsX20 ++ (vx_atS RX6 231 "java/lang/IndexOutOfBoundsException" ["java/lang/RuntimeException", "java/lang/Exception"]).filter goodWord)
def wsX6_would_r1 : List Cond := [Cond.fieldLink RX6 16 "SnowFences" "roads" "Ljava/util/ArrayList;", Cond.fieldLink RX6 35 "SnowFences" "trial" "LSnowFences$Ground;", Cond.fieldLink RX6 31 "SnowFences" "ground" "LSnowFences$Ground;", Cond.classLink RX6 147 RX5, Cond.instantiable RX5 10, Cond.initialized RX5, Cond.fieldLink RX6 113 "SnowFences" "supply" "I", Cond.classLink RX6 100 "SnowFences$Road", Cond.fieldLink RX6 162 "SnowFences$Road" "strip" "LSnowFences$Strip;", Cond.fieldLink RX6 45 "SnowFences" "limit" "I", Cond.methodLink RX6 135 yX6_needWind, Cond.static yX6_needWind, Cond.initialized RX6, Cond.code yX6_needWind cX6_needWind 1 none, Cond.methodLink RX6 63 yX6_needIndex, Cond.static yX6_needIndex, Cond.code yX6_needIndex cX6_needIndex 2 none, Cond.classLink RX6 227 "java/lang/IndexOutOfBoundsException", Cond.initialized "java/lang/IndexOutOfBoundsException", Cond.methodLink RX6 67 yJx4a65c_size_8abf5, Cond.instanceMethod yJx4a65c_size_8abf5, Cond.selects RJx4a65c yJx4a65c_size_8abf5 yJx4a65c_size_8abf5, Cond.initialized RJx4a65c, Cond.code yJx4a65c_size_8abf5 cJx4a65c_size_8abf5 1 (some .int)]
def wsX6_would_r2 : List Cond := [Cond.fieldLink RJx4a65c 48 "java/util/ArrayList" "size" "I", Cond.methodLink RX6 138 yX6_needStrength, Cond.static yX6_needStrength, Cond.code yX6_needStrength cX6_needStrength 1 none, Cond.classLink RX6 49 "java/lang/IllegalArgumentException", Cond.initialized "java/lang/IllegalArgumentException", Cond.methodLink RX6 141 yX6_needHours, Cond.static yX6_needHours, Cond.code yX6_needHours cX6_needHours 1 none, Cond.methodLink RX6 144 yX6_screenAllBut, Cond.instanceMethod yX6_screenAllBut, Cond.selects RX6 yX6_screenAllBut yX6_screenAllBut, Cond.code yX6_screenAllBut cX6_screenAllBut 4 none, Cond.fieldLink RX6 41 "SnowFences" "screens" "LSnowFences$Screens;", Cond.fieldLink RX6 10 "SnowFences" "fences" "Ljava/util/ArrayList;", Cond.classLink RX6 76 "SnowFences$Fence", Cond.fieldLink RX6 178 "SnowFences$Fence" "strip" "LSnowFences$Strip;", Cond.fieldLink RX6 89 "SnowFences$Fence" "height" "I", Cond.fieldLink RX6 92 "SnowFences$Fence" "gap" "I", Cond.methodLink RX6 240 yX3_clear, Cond.instanceMethod yX3_clear, Cond.selects RX3 yX3_clear yX3_clear, Cond.initialized RX3, Cond.code yX3_clear cX3_clear 2 none]
def wsX6_would_r3 : List Cond := [Cond.methodLink RX3 18 yX3_stand, Cond.instanceMethod yX3_stand, Cond.selects RX3 yX3_stand yX3_stand, Cond.code yX3_stand cX3_stand 4 none, Cond.fieldLink RX3 9 "SnowFences$Screens" "heights" "[I", Cond.fieldLink RX3 15 "SnowFences$Screens" "gaps" "[I", Cond.methodLink RX6 85 yJx4a65c_get_915e3, Cond.instanceMethod yJx4a65c_get_915e3, Cond.selects RJx4a65c yJx4a65c_get_915e3 yJx4a65c_get_915e3, Cond.code yJx4a65c_get_915e3 cJx4a65c_get_915e3 2 (some (.object "java/lang/Object")), Cond.methodLink RJx4a65c 118 yJ15_checkIndex_7cf53, Cond.static yJ15_checkIndex_7cf53, Cond.initialized RJ15, Cond.code yJ15_checkIndex_7cf53 cJ15_checkIndex_7cf53 2 (some .int), Cond.methodLink RJ15 105 yJ3_checkIndex_8e157, Cond.static yJ3_checkIndex_8e157, Cond.initialized RJ3, Cond.code yJ3_checkIndex_8e157 cJ3_checkIndex_8e157 3 (some .int), Cond.methodLink RJx4a65c 123 yJx4a65c_elementData_915e3, Cond.instanceMethod yJx4a65c_elementData_915e3, Cond.selects RJx4a65c yJx4a65c_elementData_915e3 yJx4a65c_elementData_915e3, Cond.code yJx4a65c_elementData_915e3 cJx4a65c_elementData_915e3 2 (some (.object "java/lang/Object")), Cond.fieldLink RJx4a65c 9 "java/util/ArrayList" "elementData" "[Ljava/lang/Object;", Cond.methodLink RX6 205 yX3_add]
def wsX6_would_r4 : List Cond := [Cond.instanceMethod yX3_add, Cond.selects RX3 yX3_add yX3_add, Cond.code yX3_add cX3_add 6 none, Cond.fieldLink RX3 22 "SnowFences$Strip" "length" "I", Cond.methodLink RX3 28 yX4_cell, Cond.instanceMethod yX4_cell, Cond.selects RX4 yX4_cell yX4_cell, Cond.initialized RX4, Cond.code yX4_cell cX4_cell 2 (some .int), Cond.fieldLink RX4 9 "SnowFences$Strip" "first" "I", Cond.fieldLink RX4 18 "SnowFences$Strip" "down" "Z", Cond.methodLink RX3 32 yX3_height, Cond.instanceMethod yX3_height, Cond.selects RX3 yX3_height yX3_height, Cond.code yX3_height cX3_height 2 (some .int), Cond.methodLink RX6 200 yX1_becomeLike, Cond.instanceMethod yX1_becomeLike, Cond.selects RX1 yX1_becomeLike yX1_becomeLike, Cond.initialized RX1, Cond.code yX1_becomeLike cX1_becomeLike 3 none, Cond.methodLink RX1 15 yX1_depth, Cond.instanceMethod yX1_depth, Cond.selects RX1 yX1_depth yX1_depth, Cond.code yX1_depth cX1_depth 2 (some .int)]
def wsX6_would_r5 : List Cond := [Cond.fieldLink RX1 9 "SnowFences$Ground" "depths" "[I", Cond.methodLink RX1 19 yX1_put, Cond.instanceMethod yX1_put, Cond.selects RX1 yX1_put yX1_put, Cond.code yX1_put cX1_put 3 none, Cond.methodLink RX6 149 yX5_init, Cond.instanceMethod yX5_init, Cond.code yX5_init cX5_init 6 none, Cond.methodLink RX5 3 objectInit, Cond.instanceMethod objectInit, Cond.code objectInit ⟨#[0xb1]⟩ 1 none, Cond.fieldLink RX5 9 "SnowFences$Wind" "strength" "I", Cond.fieldLink RX5 15 "SnowFences$Wind" "supply" "I", Cond.fieldLink RX5 18 "SnowFences$Wind" "down" "Z", Cond.fieldLink RX5 22 "SnowFences$Wind" "firstCell" "I", Cond.fieldLink RX5 25 "SnowFences$Wind" "nextCell" "I", Cond.fieldLink RX5 28 "SnowFences$Wind" "nextLine" "I", Cond.methodLink RX6 152 yX6_blowOver, Cond.instanceMethod yX6_blowOver, Cond.selects RX6 yX6_blowOver yX6_blowOver, Cond.code yX6_blowOver cX6_blowOver 6 (some .int), Cond.methodLink RX6 242 yX5_crossField, Cond.instanceMethod yX5_crossField, Cond.selects RX5 yX5_crossField yX5_crossField]
def wsX6_would_r6 : List Cond := [Cond.code yX5_crossField cX5_crossField 5 (some .int), Cond.methodLink RX5 31 yX5_passLine, Cond.instanceMethod yX5_passLine, Cond.selects RX5 yX5_passLine yX5_passLine, Cond.code yX5_passLine cX5_passLine 5 (some .int), Cond.fieldLink RX5 35 "SnowFences$Wind" "carried" "I", Cond.fieldLink RX5 38 "SnowFences$Wind" "shelter" "I", Cond.fieldLink RX5 41 "SnowFences$Wind" "sweep" "I", Cond.methodLink RX5 44 yX5_passCell, Cond.instanceMethod yX5_passCell, Cond.selects RX5 yX5_passCell yX5_passCell, Cond.code yX5_passCell cX5_passCell 7 none, Cond.fieldLink RX5 57 "SnowFences$Wind" "holds" "I", Cond.methodLink RX5 75 Lib.Math.max.name, Cond.static Lib.Math.max.name, Cond.initialized "java/lang/Math", Cond.code Lib.Math.max.name Lib.Math.max.code 2 (some .int), Cond.methodLink RX5 48 yX3_height, Cond.methodLink RX5 54 yX3_gap, Cond.instanceMethod yX3_gap, Cond.selects RX3 yX3_gap yX3_gap, Cond.code yX3_gap cX3_gap 2 (some .int), Cond.methodLink RX5 60 yX1_depth, Cond.methodLink RX5 65 yX5_dropped]
def wsX6_would_r7 : List Cond := [Cond.instanceMethod yX5_dropped, Cond.selects RX5 yX5_dropped yX5_dropped, Cond.code yX5_dropped cX5_dropped 2 (some .int), Cond.methodLink RX5 81 Lib.Math.min.name, Cond.static Lib.Math.min.name, Cond.code Lib.Math.min.name Lib.Math.min.code 2 (some .int), Cond.methodLink RX5 68 yX5_pickedUp, Cond.instanceMethod yX5_pickedUp, Cond.selects RX5 yX5_pickedUp yX5_pickedUp, Cond.code yX5_pickedUp cX5_pickedUp 2 (some .int), Cond.methodLink RX5 71 yX1_put, Cond.methodLink RX6 189 yX1_blocked, Cond.instanceMethod yX1_blocked, Cond.selects RX1 yX1_blocked yX1_blocked, Cond.code yX1_blocked cX1_blocked 5 (some .int), Cond.fieldLink RX1 23 "SnowFences$Strip" "length" "I", Cond.methodLink RX1 29 yX4_cell]
def wsX6_would : List Cond := .code yX6_would cX6_would 5 (some .int) :: ((wsX6_would_r1 ++ (wsX6_would_r2 ++ (wsX6_would_r3 ++ (wsX6_would_r4 ++ (wsX6_would_r5 ++ (wsX6_would_r6 ++ wsX6_would_r7)))))) ++ wsX60 ++ wsX50 ++ wsX20 ++ wsJx4a65c0 ++ wsX00 ++ wsX30 ++ wsX40 ++ wsX10 ++ (vx_atS RX6 231 "java/lang/IndexOutOfBoundsException" ["java/lang/RuntimeException", "java/lang/Exception"]).filter goodWord ++ (vx_atS RX6 53 "java/lang/IllegalArgumentException" ["java/lang/RuntimeException", "java/lang/Exception"]).filter goodWord)
def wsX6_until_r1 : List Cond := [Cond.fieldLink RX6 16 "SnowFences" "roads" "Ljava/util/ArrayList;", Cond.classLink RX6 100 "SnowFences$Road", Cond.fieldLink RX6 162 "SnowFences$Road" "strip" "LSnowFences$Strip;", Cond.classLink RX6 147 RX5, Cond.instantiable RX5 10, Cond.initialized RX5, Cond.fieldLink RX6 113 "SnowFences" "supply" "I", Cond.fieldLink RX6 35 "SnowFences" "trial" "LSnowFences$Ground;", Cond.fieldLink RX6 31 "SnowFences" "ground" "LSnowFences$Ground;", Cond.fieldLink RX6 45 "SnowFences" "limit" "I", Cond.methodLink RX6 135 yX6_needWind, Cond.static yX6_needWind, Cond.initialized RX6, Cond.code yX6_needWind cX6_needWind 1 none, Cond.methodLink RX6 63 yX6_needIndex, Cond.static yX6_needIndex, Cond.code yX6_needIndex cX6_needIndex 2 none, Cond.classLink RX6 227 "java/lang/IndexOutOfBoundsException", Cond.initialized "java/lang/IndexOutOfBoundsException", Cond.methodLink RX6 67 yJx4a65c_size_8abf5, Cond.instanceMethod yJx4a65c_size_8abf5, Cond.selects RJx4a65c yJx4a65c_size_8abf5 yJx4a65c_size_8abf5, Cond.initialized RJx4a65c, Cond.code yJx4a65c_size_8abf5 cJx4a65c_size_8abf5 1 (some .int)]
def wsX6_until_r2 : List Cond := [Cond.fieldLink RJx4a65c 48 "java/util/ArrayList" "size" "I", Cond.methodLink RX6 138 yX6_needStrength, Cond.static yX6_needStrength, Cond.code yX6_needStrength cX6_needStrength 1 none, Cond.classLink RX6 49 "java/lang/IllegalArgumentException", Cond.initialized "java/lang/IllegalArgumentException", Cond.methodLink RX6 85 yJx4a65c_get_915e3, Cond.instanceMethod yJx4a65c_get_915e3, Cond.selects RJx4a65c yJx4a65c_get_915e3 yJx4a65c_get_915e3, Cond.code yJx4a65c_get_915e3 cJx4a65c_get_915e3 2 (some (.object "java/lang/Object")), Cond.methodLink RJx4a65c 118 yJ15_checkIndex_7cf53, Cond.static yJ15_checkIndex_7cf53, Cond.initialized RJ15, Cond.code yJ15_checkIndex_7cf53 cJ15_checkIndex_7cf53 2 (some .int), Cond.methodLink RJ15 105 yJ3_checkIndex_8e157, Cond.static yJ3_checkIndex_8e157, Cond.initialized RJ3, Cond.code yJ3_checkIndex_8e157 cJ3_checkIndex_8e157 3 (some .int), Cond.methodLink RJx4a65c 123 yJx4a65c_elementData_915e3, Cond.instanceMethod yJx4a65c_elementData_915e3, Cond.selects RJx4a65c yJx4a65c_elementData_915e3 yJx4a65c_elementData_915e3, Cond.code yJx4a65c_elementData_915e3 cJx4a65c_elementData_915e3 2 (some (.object "java/lang/Object")), Cond.fieldLink RJx4a65c 9 "java/util/ArrayList" "elementData" "[Ljava/lang/Object;", Cond.methodLink RX6 149 yX5_init]
def wsX6_until_r3 : List Cond := [Cond.instanceMethod yX5_init, Cond.code yX5_init cX5_init 6 none, Cond.methodLink RX5 3 objectInit, Cond.instanceMethod objectInit, Cond.code objectInit ⟨#[0xb1]⟩ 1 none, Cond.fieldLink RX5 9 "SnowFences$Wind" "strength" "I", Cond.fieldLink RX5 15 "SnowFences$Wind" "supply" "I", Cond.fieldLink RX5 18 "SnowFences$Wind" "down" "Z", Cond.fieldLink RX5 22 "SnowFences$Wind" "firstCell" "I", Cond.fieldLink RX5 25 "SnowFences$Wind" "nextCell" "I", Cond.fieldLink RX5 28 "SnowFences$Wind" "nextLine" "I", Cond.methodLink RX6 144 yX6_screenAllBut, Cond.instanceMethod yX6_screenAllBut, Cond.selects RX6 yX6_screenAllBut yX6_screenAllBut, Cond.code yX6_screenAllBut cX6_screenAllBut 4 none, Cond.fieldLink RX6 41 "SnowFences" "screens" "LSnowFences$Screens;", Cond.fieldLink RX6 10 "SnowFences" "fences" "Ljava/util/ArrayList;", Cond.classLink RX6 76 "SnowFences$Fence", Cond.fieldLink RX6 178 "SnowFences$Fence" "strip" "LSnowFences$Strip;", Cond.fieldLink RX6 89 "SnowFences$Fence" "height" "I", Cond.fieldLink RX6 92 "SnowFences$Fence" "gap" "I", Cond.methodLink RX6 240 yX3_clear, Cond.instanceMethod yX3_clear, Cond.selects RX3 yX3_clear yX3_clear]
def wsX6_until_r4 : List Cond := [Cond.initialized RX3, Cond.code yX3_clear cX3_clear 2 none, Cond.methodLink RX3 18 yX3_stand, Cond.instanceMethod yX3_stand, Cond.selects RX3 yX3_stand yX3_stand, Cond.code yX3_stand cX3_stand 4 none, Cond.fieldLink RX3 9 "SnowFences$Screens" "heights" "[I", Cond.fieldLink RX3 15 "SnowFences$Screens" "gaps" "[I", Cond.methodLink RX6 205 yX3_add, Cond.instanceMethod yX3_add, Cond.selects RX3 yX3_add yX3_add, Cond.code yX3_add cX3_add 6 none, Cond.fieldLink RX3 22 "SnowFences$Strip" "length" "I", Cond.methodLink RX3 28 yX4_cell, Cond.instanceMethod yX4_cell, Cond.selects RX4 yX4_cell yX4_cell, Cond.initialized RX4, Cond.code yX4_cell cX4_cell 2 (some .int), Cond.fieldLink RX4 9 "SnowFences$Strip" "first" "I", Cond.fieldLink RX4 18 "SnowFences$Strip" "down" "Z", Cond.methodLink RX3 32 yX3_height, Cond.instanceMethod yX3_height, Cond.selects RX3 yX3_height yX3_height, Cond.code yX3_height cX3_height 2 (some .int)]
def wsX6_until_r5 : List Cond := [Cond.methodLink RX6 200 yX1_becomeLike, Cond.instanceMethod yX1_becomeLike, Cond.selects RX1 yX1_becomeLike yX1_becomeLike, Cond.initialized RX1, Cond.code yX1_becomeLike cX1_becomeLike 3 none, Cond.methodLink RX1 15 yX1_depth, Cond.instanceMethod yX1_depth, Cond.selects RX1 yX1_depth yX1_depth, Cond.code yX1_depth cX1_depth 2 (some .int), Cond.fieldLink RX1 9 "SnowFences$Ground" "depths" "[I", Cond.methodLink RX1 19 yX1_put, Cond.instanceMethod yX1_put, Cond.selects RX1 yX1_put yX1_put, Cond.code yX1_put cX1_put 3 none, Cond.methodLink RX6 189 yX1_blocked, Cond.instanceMethod yX1_blocked, Cond.selects RX1 yX1_blocked yX1_blocked, Cond.code yX1_blocked cX1_blocked 5 (some .int), Cond.fieldLink RX1 23 "SnowFences$Strip" "length" "I", Cond.methodLink RX1 29 yX4_cell, Cond.methodLink RX6 152 yX6_blowOver, Cond.instanceMethod yX6_blowOver, Cond.selects RX6 yX6_blowOver yX6_blowOver, Cond.code yX6_blowOver cX6_blowOver 6 (some .int)]
def wsX6_until_r6 : List Cond := [Cond.methodLink RX6 242 yX5_crossField, Cond.instanceMethod yX5_crossField, Cond.selects RX5 yX5_crossField yX5_crossField, Cond.code yX5_crossField cX5_crossField 5 (some .int), Cond.methodLink RX5 31 yX5_passLine, Cond.instanceMethod yX5_passLine, Cond.selects RX5 yX5_passLine yX5_passLine, Cond.code yX5_passLine cX5_passLine 5 (some .int), Cond.fieldLink RX5 35 "SnowFences$Wind" "carried" "I", Cond.fieldLink RX5 38 "SnowFences$Wind" "shelter" "I", Cond.fieldLink RX5 41 "SnowFences$Wind" "sweep" "I", Cond.methodLink RX5 44 yX5_passCell, Cond.instanceMethod yX5_passCell, Cond.selects RX5 yX5_passCell yX5_passCell, Cond.code yX5_passCell cX5_passCell 7 none, Cond.fieldLink RX5 57 "SnowFences$Wind" "holds" "I", Cond.methodLink RX5 75 Lib.Math.max.name, Cond.static Lib.Math.max.name, Cond.initialized "java/lang/Math", Cond.code Lib.Math.max.name Lib.Math.max.code 2 (some .int), Cond.methodLink RX5 48 yX3_height, Cond.methodLink RX5 54 yX3_gap, Cond.instanceMethod yX3_gap, Cond.selects RX3 yX3_gap yX3_gap]
def wsX6_until_r7 : List Cond := [Cond.code yX3_gap cX3_gap 2 (some .int), Cond.methodLink RX5 60 yX1_depth, Cond.methodLink RX5 65 yX5_dropped, Cond.instanceMethod yX5_dropped, Cond.selects RX5 yX5_dropped yX5_dropped, Cond.code yX5_dropped cX5_dropped 2 (some .int), Cond.methodLink RX5 81 Lib.Math.min.name, Cond.static Lib.Math.min.name, Cond.code Lib.Math.min.name Lib.Math.min.code 2 (some .int), Cond.methodLink RX5 68 yX5_pickedUp, Cond.instanceMethod yX5_pickedUp, Cond.selects RX5 yX5_pickedUp yX5_pickedUp, Cond.code yX5_pickedUp cX5_pickedUp 2 (some .int), Cond.methodLink RX5 71 yX1_put]
def wsX6_until : List Cond := .code yX6_until cX6_until 7 (some .int) :: ((wsX6_until_r1 ++ (wsX6_until_r2 ++ (wsX6_until_r3 ++ (wsX6_until_r4 ++ (wsX6_until_r5 ++ (wsX6_until_r6 ++ wsX6_until_r7)))))) ++ wsX60 ++ wsX20 ++ wsX50 ++ wsJx4a65c0 ++ wsX00 ++ wsX30 ++ wsX40 ++ wsX10 ++ (vx_atS RX6 231 "java/lang/IndexOutOfBoundsException" ["java/lang/RuntimeException", "java/lang/Exception"]).filter goodWord ++ (vx_atS RX6 53 "java/lang/IllegalArgumentException" ["java/lang/RuntimeException", "java/lang/Exception"]).filter goodWord)
def wsX6_blockedAfterAdvice_r1 : List Cond := [Cond.fieldLink RX6 35 "SnowFences" "trial" "LSnowFences$Ground;", Cond.fieldLink RX6 31 "SnowFences" "ground" "LSnowFences$Ground;", Cond.methodLink RX6 200 yX1_becomeLike, Cond.instanceMethod yX1_becomeLike, Cond.selects RX1 yX1_becomeLike yX1_becomeLike, Cond.initialized RX1, Cond.code yX1_becomeLike cX1_becomeLike 3 none, Cond.methodLink RX1 15 yX1_depth, Cond.instanceMethod yX1_depth, Cond.selects RX1 yX1_depth yX1_depth, Cond.code yX1_depth cX1_depth 2 (some .int), Cond.fieldLink RX1 9 "SnowFences$Ground" "depths" "[I", Cond.methodLink RX1 19 yX1_put, Cond.instanceMethod yX1_put, Cond.selects RX1 yX1_put yX1_put, Cond.code yX1_put cX1_put 3 none, Cond.methodLink RX6 152 yX6_blowOver, Cond.instanceMethod yX6_blowOver, Cond.selects RX6 yX6_blowOver yX6_blowOver, Cond.initialized RX6, Cond.code yX6_blowOver cX6_blowOver 6 (some .int), Cond.fieldLink RX6 41 "SnowFences" "screens" "LSnowFences$Screens;", Cond.methodLink RX6 242 yX5_crossField, Cond.instanceMethod yX5_crossField]
def wsX6_blockedAfterAdvice_r2 : List Cond := [Cond.selects RX5 yX5_crossField yX5_crossField, Cond.initialized RX5, Cond.code yX5_crossField cX5_crossField 5 (some .int), Cond.fieldLink RX5 22 "SnowFences$Wind" "firstCell" "I", Cond.fieldLink RX5 28 "SnowFences$Wind" "nextLine" "I", Cond.methodLink RX5 31 yX5_passLine, Cond.instanceMethod yX5_passLine, Cond.selects RX5 yX5_passLine yX5_passLine, Cond.code yX5_passLine cX5_passLine 5 (some .int), Cond.fieldLink RX5 15 "SnowFences$Wind" "supply" "I", Cond.fieldLink RX5 35 "SnowFences$Wind" "carried" "I", Cond.fieldLink RX5 38 "SnowFences$Wind" "shelter" "I", Cond.fieldLink RX5 41 "SnowFences$Wind" "sweep" "I", Cond.fieldLink RX5 25 "SnowFences$Wind" "nextCell" "I", Cond.methodLink RX5 44 yX5_passCell, Cond.instanceMethod yX5_passCell, Cond.selects RX5 yX5_passCell yX5_passCell, Cond.code yX5_passCell cX5_passCell 7 none, Cond.fieldLink RX5 57 "SnowFences$Wind" "holds" "I", Cond.methodLink RX5 75 Lib.Math.max.name, Cond.static Lib.Math.max.name, Cond.initialized "java/lang/Math", Cond.code Lib.Math.max.name Lib.Math.max.code 2 (some .int), Cond.methodLink RX5 48 yX3_height]
def wsX6_blockedAfterAdvice_r3 : List Cond := [Cond.instanceMethod yX3_height, Cond.selects RX3 yX3_height yX3_height, Cond.initialized RX3, Cond.code yX3_height cX3_height 2 (some .int), Cond.fieldLink RX3 9 "SnowFences$Screens" "heights" "[I", Cond.methodLink RX5 54 yX3_gap, Cond.instanceMethod yX3_gap, Cond.selects RX3 yX3_gap yX3_gap, Cond.code yX3_gap cX3_gap 2 (some .int), Cond.fieldLink RX3 15 "SnowFences$Screens" "gaps" "[I", Cond.methodLink RX5 60 yX1_depth, Cond.methodLink RX5 65 yX5_dropped, Cond.instanceMethod yX5_dropped, Cond.selects RX5 yX5_dropped yX5_dropped, Cond.code yX5_dropped cX5_dropped 2 (some .int), Cond.methodLink RX5 81 Lib.Math.min.name, Cond.static Lib.Math.min.name, Cond.code Lib.Math.min.name Lib.Math.min.code 2 (some .int), Cond.methodLink RX5 68 yX5_pickedUp, Cond.instanceMethod yX5_pickedUp, Cond.selects RX5 yX5_pickedUp yX5_pickedUp, Cond.code yX5_pickedUp cX5_pickedUp 2 (some .int), Cond.fieldLink RX5 9 "SnowFences$Wind" "strength" "I", Cond.methodLink RX5 71 yX1_put]
def wsX6_blockedAfterAdvice_r4 : List Cond := [Cond.methodLink RX6 196 yX6_blockedOnRoads, Cond.instanceMethod yX6_blockedOnRoads, Cond.selects RX6 yX6_blockedOnRoads yX6_blockedOnRoads, Cond.code yX6_blockedOnRoads cX6_blockedOnRoads 4 (some .int), Cond.fieldLink RX6 16 "SnowFences" "roads" "Ljava/util/ArrayList;", Cond.classLink RX6 100 "SnowFences$Road", Cond.fieldLink RX6 162 "SnowFences$Road" "strip" "LSnowFences$Strip;", Cond.fieldLink RX6 45 "SnowFences" "limit" "I", Cond.methodLink RX6 67 yJx4a65c_size_8abf5, Cond.instanceMethod yJx4a65c_size_8abf5, Cond.selects RJx4a65c yJx4a65c_size_8abf5 yJx4a65c_size_8abf5, Cond.initialized RJx4a65c, Cond.code yJx4a65c_size_8abf5 cJx4a65c_size_8abf5 1 (some .int), Cond.fieldLink RJx4a65c 48 "java/util/ArrayList" "size" "I", Cond.methodLink RX6 85 yJx4a65c_get_915e3, Cond.instanceMethod yJx4a65c_get_915e3, Cond.selects RJx4a65c yJx4a65c_get_915e3 yJx4a65c_get_915e3, Cond.code yJx4a65c_get_915e3 cJx4a65c_get_915e3 2 (some (.object "java/lang/Object")), Cond.methodLink RJx4a65c 118 yJ15_checkIndex_7cf53, Cond.static yJ15_checkIndex_7cf53, Cond.initialized RJ15, Cond.code yJ15_checkIndex_7cf53 cJ15_checkIndex_7cf53 2 (some .int), Cond.methodLink RJ15 105 yJ3_checkIndex_8e157, Cond.static yJ3_checkIndex_8e157]
def wsX6_blockedAfterAdvice_r5 : List Cond := [Cond.initialized RJ3, Cond.code yJ3_checkIndex_8e157 cJ3_checkIndex_8e157 3 (some .int), Cond.methodLink RJx4a65c 123 yJx4a65c_elementData_915e3, Cond.instanceMethod yJx4a65c_elementData_915e3, Cond.selects RJx4a65c yJx4a65c_elementData_915e3 yJx4a65c_elementData_915e3, Cond.code yJx4a65c_elementData_915e3 cJx4a65c_elementData_915e3 2 (some (.object "java/lang/Object")), Cond.fieldLink RJx4a65c 9 "java/util/ArrayList" "elementData" "[Ljava/lang/Object;", Cond.methodLink RX6 189 yX1_blocked, Cond.instanceMethod yX1_blocked, Cond.selects RX1 yX1_blocked yX1_blocked, Cond.code yX1_blocked cX1_blocked 5 (some .int), Cond.fieldLink RX1 23 "SnowFences$Strip" "length" "I", Cond.methodLink RX1 29 yX4_cell, Cond.instanceMethod yX4_cell, Cond.selects RX4 yX4_cell yX4_cell, Cond.initialized RX4, Cond.code yX4_cell cX4_cell 2 (some .int), Cond.fieldLink RX4 9 "SnowFences$Strip" "first" "I", Cond.fieldLink RX4 18 "SnowFences$Strip" "down" "Z"]
def wsX6_blockedAfterAdvice : List Cond := .code yX6_blockedAfterAdvice cX6_blockedAfterAdvice 2 (some .int) :: ((wsX6_blockedAfterAdvice_r1 ++ (wsX6_blockedAfterAdvice_r2 ++ (wsX6_blockedAfterAdvice_r3 ++ (wsX6_blockedAfterAdvice_r4 ++ wsX6_blockedAfterAdvice_r5)))) ++ wsX60 ++ wsX10 ++ wsX50 ++ wsX30 ++ wsX20 ++ wsJx4a65c0 ++ wsX40)
def wsX6_advise_r1 : List Cond := [Cond.classLink RX6 147 RX5, Cond.instantiable RX5 10, Cond.initialized RX5, Cond.fieldLink RX6 113 "SnowFences" "supply" "I", Cond.fieldLink RX6 41 "SnowFences" "screens" "LSnowFences$Screens;", Cond.fieldLink RX6 204 "SnowFences$Wind" "down" "Z", Cond.methodLink RX6 135 yX6_needWind, Cond.static yX6_needWind, Cond.initialized RX6, Cond.code yX6_needWind cX6_needWind 1 none, Cond.methodLink RX6 63 yX6_needIndex, Cond.static yX6_needIndex, Cond.code yX6_needIndex cX6_needIndex 2 none, Cond.classLink RX6 227 "java/lang/IndexOutOfBoundsException", Cond.initialized "java/lang/IndexOutOfBoundsException", Cond.methodLink RX6 138 yX6_needStrength, Cond.static yX6_needStrength, Cond.code yX6_needStrength cX6_needStrength 1 none, Cond.classLink RX6 49 "java/lang/IllegalArgumentException", Cond.initialized "java/lang/IllegalArgumentException", Cond.methodLink RX6 56 yX6_needHeight, Cond.static yX6_needHeight, Cond.code yX6_needHeight cX6_needHeight 1 none, Cond.methodLink RX6 149 yX5_init]
def wsX6_advise_r2 : List Cond := [Cond.instanceMethod yX5_init, Cond.code yX5_init cX5_init 6 none, Cond.methodLink RX5 3 objectInit, Cond.instanceMethod objectInit, Cond.code objectInit ⟨#[0xb1]⟩ 1 none, Cond.fieldLink RX5 9 "SnowFences$Wind" "strength" "I", Cond.fieldLink RX5 15 "SnowFences$Wind" "supply" "I", Cond.fieldLink RX5 18 "SnowFences$Wind" "down" "Z", Cond.fieldLink RX5 22 "SnowFences$Wind" "firstCell" "I", Cond.fieldLink RX5 25 "SnowFences$Wind" "nextCell" "I", Cond.fieldLink RX5 28 "SnowFences$Wind" "nextLine" "I", Cond.methodLink RX6 144 yX6_screenAllBut, Cond.instanceMethod yX6_screenAllBut, Cond.selects RX6 yX6_screenAllBut yX6_screenAllBut, Cond.code yX6_screenAllBut cX6_screenAllBut 4 none, Cond.fieldLink RX6 10 "SnowFences" "fences" "Ljava/util/ArrayList;", Cond.classLink RX6 76 "SnowFences$Fence", Cond.fieldLink RX6 178 "SnowFences$Fence" "strip" "LSnowFences$Strip;", Cond.fieldLink RX6 89 "SnowFences$Fence" "height" "I", Cond.fieldLink RX6 92 "SnowFences$Fence" "gap" "I", Cond.methodLink RX6 240 yX3_clear, Cond.instanceMethod yX3_clear, Cond.selects RX3 yX3_clear yX3_clear, Cond.initialized RX3]
def wsX6_advise_r3 : List Cond := [Cond.code yX3_clear cX3_clear 2 none, Cond.methodLink RX3 18 yX3_stand, Cond.instanceMethod yX3_stand, Cond.selects RX3 yX3_stand yX3_stand, Cond.code yX3_stand cX3_stand 4 none, Cond.fieldLink RX3 9 "SnowFences$Screens" "heights" "[I", Cond.fieldLink RX3 15 "SnowFences$Screens" "gaps" "[I", Cond.methodLink RX6 67 yJx4a65c_size_8abf5, Cond.instanceMethod yJx4a65c_size_8abf5, Cond.selects RJx4a65c yJx4a65c_size_8abf5 yJx4a65c_size_8abf5, Cond.initialized RJx4a65c, Cond.code yJx4a65c_size_8abf5 cJx4a65c_size_8abf5 1 (some .int), Cond.fieldLink RJx4a65c 48 "java/util/ArrayList" "size" "I", Cond.methodLink RX6 85 yJx4a65c_get_915e3, Cond.instanceMethod yJx4a65c_get_915e3, Cond.selects RJx4a65c yJx4a65c_get_915e3 yJx4a65c_get_915e3, Cond.code yJx4a65c_get_915e3 cJx4a65c_get_915e3 2 (some (.object "java/lang/Object")), Cond.methodLink RJx4a65c 118 yJ15_checkIndex_7cf53, Cond.static yJ15_checkIndex_7cf53, Cond.initialized RJ15, Cond.code yJ15_checkIndex_7cf53 cJ15_checkIndex_7cf53 2 (some .int), Cond.methodLink RJ15 105 yJ3_checkIndex_8e157, Cond.static yJ3_checkIndex_8e157, Cond.initialized RJ3]
def wsX6_advise_r4 : List Cond := [Cond.code yJ3_checkIndex_8e157 cJ3_checkIndex_8e157 3 (some .int), Cond.methodLink RJx4a65c 123 yJx4a65c_elementData_915e3, Cond.instanceMethod yJx4a65c_elementData_915e3, Cond.selects RJx4a65c yJx4a65c_elementData_915e3 yJx4a65c_elementData_915e3, Cond.code yJx4a65c_elementData_915e3 cJx4a65c_elementData_915e3 2 (some (.object "java/lang/Object")), Cond.fieldLink RJx4a65c 9 "java/util/ArrayList" "elementData" "[Ljava/lang/Object;", Cond.methodLink RX6 205 yX3_add, Cond.instanceMethod yX3_add, Cond.selects RX3 yX3_add yX3_add, Cond.code yX3_add cX3_add 6 none, Cond.fieldLink RX3 22 "SnowFences$Strip" "length" "I", Cond.methodLink RX3 28 yX4_cell, Cond.instanceMethod yX4_cell, Cond.selects RX4 yX4_cell yX4_cell, Cond.initialized RX4, Cond.code yX4_cell cX4_cell 2 (some .int), Cond.fieldLink RX4 9 "SnowFences$Strip" "first" "I", Cond.fieldLink RX4 18 "SnowFences$Strip" "down" "Z", Cond.methodLink RX3 32 yX3_height, Cond.instanceMethod yX3_height, Cond.selects RX3 yX3_height yX3_height, Cond.code yX3_height cX3_height 2 (some .int), Cond.methodLink RX6 102 yX6_straight, Cond.static yX6_straight]
def wsX6_advise_r5 : List Cond := [Cond.code yX6_straight cX6_straight 2 (some (.object "SnowFences$Strip")), Cond.classLink RX6 19 RX4, Cond.instantiable RX4 3, Cond.methodLink RX6 21 yX4_init, Cond.instanceMethod yX4_init, Cond.code yX4_init cX4_init 5 none, Cond.methodLink RX4 3 objectInit, Cond.fieldLink RX4 15 "SnowFences$Strip" "length" "I", Cond.methodLink RX6 208 yX6_blockedAfterAdvice, Cond.instanceMethod yX6_blockedAfterAdvice, Cond.selects RX6 yX6_blockedAfterAdvice yX6_blockedAfterAdvice, Cond.code yX6_blockedAfterAdvice cX6_blockedAfterAdvice 2 (some .int), Cond.fieldLink RX6 35 "SnowFences" "trial" "LSnowFences$Ground;", Cond.fieldLink RX6 31 "SnowFences" "ground" "LSnowFences$Ground;", Cond.methodLink RX6 200 yX1_becomeLike, Cond.instanceMethod yX1_becomeLike, Cond.selects RX1 yX1_becomeLike yX1_becomeLike, Cond.initialized RX1, Cond.code yX1_becomeLike cX1_becomeLike 3 none, Cond.methodLink RX1 15 yX1_depth, Cond.instanceMethod yX1_depth, Cond.selects RX1 yX1_depth yX1_depth, Cond.code yX1_depth cX1_depth 2 (some .int), Cond.fieldLink RX1 9 "SnowFences$Ground" "depths" "[I"]
end
section
def wsX6_advise_r6 : List Cond := [Cond.methodLink RX1 19 yX1_put, Cond.instanceMethod yX1_put, Cond.selects RX1 yX1_put yX1_put, Cond.code yX1_put cX1_put 3 none, Cond.methodLink RX6 152 yX6_blowOver, Cond.instanceMethod yX6_blowOver, Cond.selects RX6 yX6_blowOver yX6_blowOver, Cond.code yX6_blowOver cX6_blowOver 6 (some .int), Cond.methodLink RX6 242 yX5_crossField, Cond.instanceMethod yX5_crossField, Cond.selects RX5 yX5_crossField yX5_crossField, Cond.code yX5_crossField cX5_crossField 5 (some .int), Cond.methodLink RX5 31 yX5_passLine, Cond.instanceMethod yX5_passLine, Cond.selects RX5 yX5_passLine yX5_passLine, Cond.code yX5_passLine cX5_passLine 5 (some .int), Cond.fieldLink RX5 35 "SnowFences$Wind" "carried" "I", Cond.fieldLink RX5 38 "SnowFences$Wind" "shelter" "I", Cond.fieldLink RX5 41 "SnowFences$Wind" "sweep" "I", Cond.methodLink RX5 44 yX5_passCell, Cond.instanceMethod yX5_passCell, Cond.selects RX5 yX5_passCell yX5_passCell, Cond.code yX5_passCell cX5_passCell 7 none, Cond.fieldLink RX5 57 "SnowFences$Wind" "holds" "I"]
def wsX6_advise_r7 : List Cond := [Cond.methodLink RX5 75 Lib.Math.max.name, Cond.static Lib.Math.max.name, Cond.initialized "java/lang/Math", Cond.code Lib.Math.max.name Lib.Math.max.code 2 (some .int), Cond.methodLink RX5 48 yX3_height, Cond.methodLink RX5 54 yX3_gap, Cond.instanceMethod yX3_gap, Cond.selects RX3 yX3_gap yX3_gap, Cond.code yX3_gap cX3_gap 2 (some .int), Cond.methodLink RX5 60 yX1_depth, Cond.methodLink RX5 65 yX5_dropped, Cond.instanceMethod yX5_dropped, Cond.selects RX5 yX5_dropped yX5_dropped, Cond.code yX5_dropped cX5_dropped 2 (some .int), Cond.methodLink RX5 81 Lib.Math.min.name, Cond.static Lib.Math.min.name, Cond.code Lib.Math.min.name Lib.Math.min.code 2 (some .int), Cond.methodLink RX5 68 yX5_pickedUp, Cond.instanceMethod yX5_pickedUp, Cond.selects RX5 yX5_pickedUp yX5_pickedUp, Cond.code yX5_pickedUp cX5_pickedUp 2 (some .int), Cond.methodLink RX5 71 yX1_put, Cond.methodLink RX6 196 yX6_blockedOnRoads, Cond.instanceMethod yX6_blockedOnRoads]
def wsX6_advise_r8 : List Cond := [Cond.selects RX6 yX6_blockedOnRoads yX6_blockedOnRoads, Cond.code yX6_blockedOnRoads cX6_blockedOnRoads 4 (some .int), Cond.fieldLink RX6 16 "SnowFences" "roads" "Ljava/util/ArrayList;", Cond.classLink RX6 100 "SnowFences$Road", Cond.fieldLink RX6 162 "SnowFences$Road" "strip" "LSnowFences$Strip;", Cond.fieldLink RX6 45 "SnowFences" "limit" "I", Cond.methodLink RX6 189 yX1_blocked, Cond.instanceMethod yX1_blocked, Cond.selects RX1 yX1_blocked yX1_blocked, Cond.code yX1_blocked cX1_blocked 5 (some .int), Cond.fieldLink RX1 23 "SnowFences$Strip" "length" "I", Cond.methodLink RX1 29 yX4_cell]
def wsX6_advise : List Cond := .code yX6_advise cX6_advise 9 (some .int) :: ((wsX6_advise_r1 ++ (wsX6_advise_r2 ++ (wsX6_advise_r3 ++ (wsX6_advise_r4 ++ (wsX6_advise_r5 ++ (wsX6_advise_r6 ++ (wsX6_advise_r7 ++ wsX6_advise_r8))))))) ++ wsX50 ++ wsX60 ++ wsX00 ++ wsX30 ++ wsJx4a65c0 ++ wsX40 ++ wsX10 ++ wsX20 ++ (vx_atS RX6 231 "java/lang/IndexOutOfBoundsException" ["java/lang/RuntimeException", "java/lang/Exception"]).filter goodWord ++ (vx_atS RX6 53 "java/lang/IllegalArgumentException" ["java/lang/RuntimeException", "java/lang/Exception"]).filter goodWord)
def wsX6_harmful_r1 : List Cond := [Cond.classLink RX6 147 RX5, Cond.instantiable RX5 10, Cond.initialized RX5, Cond.fieldLink RX6 113 "SnowFences" "supply" "I", Cond.fieldLink RX6 10 "SnowFences" "fences" "Ljava/util/ArrayList;", Cond.methodLink RX6 135 yX6_needWind, Cond.static yX6_needWind, Cond.initialized RX6, Cond.code yX6_needWind cX6_needWind 1 none, Cond.methodLink RX6 63 yX6_needIndex, Cond.static yX6_needIndex, Cond.code yX6_needIndex cX6_needIndex 2 none, Cond.classLink RX6 227 "java/lang/IndexOutOfBoundsException", Cond.initialized "java/lang/IndexOutOfBoundsException", Cond.methodLink RX6 138 yX6_needStrength, Cond.static yX6_needStrength, Cond.code yX6_needStrength cX6_needStrength 1 none, Cond.classLink RX6 49 "java/lang/IllegalArgumentException", Cond.initialized "java/lang/IllegalArgumentException", Cond.methodLink RX6 149 yX5_init, Cond.instanceMethod yX5_init, Cond.code yX5_init cX5_init 6 none, Cond.methodLink RX5 3 objectInit, Cond.instanceMethod objectInit]
def wsX6_harmful_r2 : List Cond := [Cond.code objectInit ⟨#[0xb1]⟩ 1 none, Cond.fieldLink RX5 9 "SnowFences$Wind" "strength" "I", Cond.fieldLink RX5 15 "SnowFences$Wind" "supply" "I", Cond.fieldLink RX5 18 "SnowFences$Wind" "down" "Z", Cond.fieldLink RX5 22 "SnowFences$Wind" "firstCell" "I", Cond.fieldLink RX5 25 "SnowFences$Wind" "nextCell" "I", Cond.fieldLink RX5 28 "SnowFences$Wind" "nextLine" "I", Cond.methodLink RX6 144 yX6_screenAllBut, Cond.instanceMethod yX6_screenAllBut, Cond.selects RX6 yX6_screenAllBut yX6_screenAllBut, Cond.code yX6_screenAllBut cX6_screenAllBut 4 none, Cond.fieldLink RX6 41 "SnowFences" "screens" "LSnowFences$Screens;", Cond.classLink RX6 76 "SnowFences$Fence", Cond.fieldLink RX6 178 "SnowFences$Fence" "strip" "LSnowFences$Strip;", Cond.fieldLink RX6 89 "SnowFences$Fence" "height" "I", Cond.fieldLink RX6 92 "SnowFences$Fence" "gap" "I", Cond.methodLink RX6 240 yX3_clear, Cond.instanceMethod yX3_clear, Cond.selects RX3 yX3_clear yX3_clear, Cond.initialized RX3, Cond.code yX3_clear cX3_clear 2 none, Cond.methodLink RX3 18 yX3_stand, Cond.instanceMethod yX3_stand, Cond.selects RX3 yX3_stand yX3_stand]
def wsX6_harmful_r3 : List Cond := [Cond.code yX3_stand cX3_stand 4 none, Cond.fieldLink RX3 9 "SnowFences$Screens" "heights" "[I", Cond.fieldLink RX3 15 "SnowFences$Screens" "gaps" "[I", Cond.methodLink RX6 67 yJx4a65c_size_8abf5, Cond.instanceMethod yJx4a65c_size_8abf5, Cond.selects RJx4a65c yJx4a65c_size_8abf5 yJx4a65c_size_8abf5, Cond.initialized RJx4a65c, Cond.code yJx4a65c_size_8abf5 cJx4a65c_size_8abf5 1 (some .int), Cond.fieldLink RJx4a65c 48 "java/util/ArrayList" "size" "I", Cond.methodLink RX6 85 yJx4a65c_get_915e3, Cond.instanceMethod yJx4a65c_get_915e3, Cond.selects RJx4a65c yJx4a65c_get_915e3 yJx4a65c_get_915e3, Cond.code yJx4a65c_get_915e3 cJx4a65c_get_915e3 2 (some (.object "java/lang/Object")), Cond.methodLink RJx4a65c 118 yJ15_checkIndex_7cf53, Cond.static yJ15_checkIndex_7cf53, Cond.initialized RJ15, Cond.code yJ15_checkIndex_7cf53 cJ15_checkIndex_7cf53 2 (some .int), Cond.methodLink RJ15 105 yJ3_checkIndex_8e157, Cond.static yJ3_checkIndex_8e157, Cond.initialized RJ3, Cond.code yJ3_checkIndex_8e157 cJ3_checkIndex_8e157 3 (some .int), Cond.methodLink RJx4a65c 123 yJx4a65c_elementData_915e3, Cond.instanceMethod yJx4a65c_elementData_915e3, Cond.selects RJx4a65c yJx4a65c_elementData_915e3 yJx4a65c_elementData_915e3]
def wsX6_harmful_r4 : List Cond := [Cond.code yJx4a65c_elementData_915e3 cJx4a65c_elementData_915e3 2 (some (.object "java/lang/Object")), Cond.fieldLink RJx4a65c 9 "java/util/ArrayList" "elementData" "[Ljava/lang/Object;", Cond.methodLink RX6 205 yX3_add, Cond.instanceMethod yX3_add, Cond.selects RX3 yX3_add yX3_add, Cond.code yX3_add cX3_add 6 none, Cond.fieldLink RX3 22 "SnowFences$Strip" "length" "I", Cond.methodLink RX3 28 yX4_cell, Cond.instanceMethod yX4_cell, Cond.selects RX4 yX4_cell yX4_cell, Cond.initialized RX4, Cond.code yX4_cell cX4_cell 2 (some .int), Cond.fieldLink RX4 9 "SnowFences$Strip" "first" "I", Cond.fieldLink RX4 18 "SnowFences$Strip" "down" "Z", Cond.methodLink RX3 32 yX3_height, Cond.instanceMethod yX3_height, Cond.selects RX3 yX3_height yX3_height, Cond.code yX3_height cX3_height 2 (some .int), Cond.methodLink RX6 208 yX6_blockedAfterAdvice, Cond.instanceMethod yX6_blockedAfterAdvice, Cond.selects RX6 yX6_blockedAfterAdvice yX6_blockedAfterAdvice, Cond.code yX6_blockedAfterAdvice cX6_blockedAfterAdvice 2 (some .int), Cond.fieldLink RX6 35 "SnowFences" "trial" "LSnowFences$Ground;", Cond.fieldLink RX6 31 "SnowFences" "ground" "LSnowFences$Ground;"]
def wsX6_harmful_r5 : List Cond := [Cond.methodLink RX6 200 yX1_becomeLike, Cond.instanceMethod yX1_becomeLike, Cond.selects RX1 yX1_becomeLike yX1_becomeLike, Cond.initialized RX1, Cond.code yX1_becomeLike cX1_becomeLike 3 none, Cond.methodLink RX1 15 yX1_depth, Cond.instanceMethod yX1_depth, Cond.selects RX1 yX1_depth yX1_depth, Cond.code yX1_depth cX1_depth 2 (some .int), Cond.fieldLink RX1 9 "SnowFences$Ground" "depths" "[I", Cond.methodLink RX1 19 yX1_put, Cond.instanceMethod yX1_put, Cond.selects RX1 yX1_put yX1_put, Cond.code yX1_put cX1_put 3 none, Cond.methodLink RX6 152 yX6_blowOver, Cond.instanceMethod yX6_blowOver, Cond.selects RX6 yX6_blowOver yX6_blowOver, Cond.code yX6_blowOver cX6_blowOver 6 (some .int), Cond.methodLink RX6 242 yX5_crossField, Cond.instanceMethod yX5_crossField, Cond.selects RX5 yX5_crossField yX5_crossField, Cond.code yX5_crossField cX5_crossField 5 (some .int), Cond.methodLink RX5 31 yX5_passLine, Cond.instanceMethod yX5_passLine]
def wsX6_harmful_r6 : List Cond := [Cond.selects RX5 yX5_passLine yX5_passLine, Cond.code yX5_passLine cX5_passLine 5 (some .int), Cond.fieldLink RX5 35 "SnowFences$Wind" "carried" "I", Cond.fieldLink RX5 38 "SnowFences$Wind" "shelter" "I", Cond.fieldLink RX5 41 "SnowFences$Wind" "sweep" "I", Cond.methodLink RX5 44 yX5_passCell, Cond.instanceMethod yX5_passCell, Cond.selects RX5 yX5_passCell yX5_passCell, Cond.code yX5_passCell cX5_passCell 7 none, Cond.fieldLink RX5 57 "SnowFences$Wind" "holds" "I", Cond.methodLink RX5 75 Lib.Math.max.name, Cond.static Lib.Math.max.name, Cond.initialized "java/lang/Math", Cond.code Lib.Math.max.name Lib.Math.max.code 2 (some .int), Cond.methodLink RX5 48 yX3_height, Cond.methodLink RX5 54 yX3_gap, Cond.instanceMethod yX3_gap, Cond.selects RX3 yX3_gap yX3_gap, Cond.code yX3_gap cX3_gap 2 (some .int), Cond.methodLink RX5 60 yX1_depth, Cond.methodLink RX5 65 yX5_dropped, Cond.instanceMethod yX5_dropped, Cond.selects RX5 yX5_dropped yX5_dropped, Cond.code yX5_dropped cX5_dropped 2 (some .int)]
def wsX6_harmful_r7 : List Cond := [Cond.methodLink RX5 81 Lib.Math.min.name, Cond.static Lib.Math.min.name, Cond.code Lib.Math.min.name Lib.Math.min.code 2 (some .int), Cond.methodLink RX5 68 yX5_pickedUp, Cond.instanceMethod yX5_pickedUp, Cond.selects RX5 yX5_pickedUp yX5_pickedUp, Cond.code yX5_pickedUp cX5_pickedUp 2 (some .int), Cond.methodLink RX5 71 yX1_put, Cond.methodLink RX6 196 yX6_blockedOnRoads, Cond.instanceMethod yX6_blockedOnRoads, Cond.selects RX6 yX6_blockedOnRoads yX6_blockedOnRoads, Cond.code yX6_blockedOnRoads cX6_blockedOnRoads 4 (some .int), Cond.fieldLink RX6 16 "SnowFences" "roads" "Ljava/util/ArrayList;", Cond.classLink RX6 100 "SnowFences$Road", Cond.fieldLink RX6 162 "SnowFences$Road" "strip" "LSnowFences$Strip;", Cond.fieldLink RX6 45 "SnowFences" "limit" "I", Cond.methodLink RX6 189 yX1_blocked, Cond.instanceMethod yX1_blocked, Cond.selects RX1 yX1_blocked yX1_blocked, Cond.code yX1_blocked cX1_blocked 5 (some .int), Cond.fieldLink RX1 23 "SnowFences$Strip" "length" "I", Cond.methodLink RX1 29 yX4_cell]
def wsX6_harmful : List Cond := .code yX6_harmful cX6_harmful 8 (some .int) :: ((wsX6_harmful_r1 ++ (wsX6_harmful_r2 ++ (wsX6_harmful_r3 ++ (wsX6_harmful_r4 ++ (wsX6_harmful_r5 ++ (wsX6_harmful_r6 ++ wsX6_harmful_r7)))))) ++ wsX50 ++ wsX60 ++ wsX00 ++ wsX30 ++ wsJx4a65c0 ++ wsX40 ++ wsX10 ++ wsX20 ++ (vx_atS RX6 231 "java/lang/IndexOutOfBoundsException" ["java/lang/RuntimeException", "java/lang/Exception"]).filter goodWord ++ (vx_atS RX6 53 "java/lang/IllegalArgumentException" ["java/lang/RuntimeException", "java/lang/Exception"]).filter goodWord)
def wsX6_mean : List Cond := .code yX6_mean cX6_mean 1 (some .double) :: ([.fieldLink RX6 31 "SnowFences" "ground" "LSnowFences$Ground;", .fieldLink RX6 24 "SnowFences" "whole" "LSnowFences$Strip;", .constantDouble RX6 212 (4645744490609377280), .methodLink RX6 118 yX1_sum, .instanceMethod yX1_sum, .selects RX1 yX1_sum yX1_sum, .initialized RX1, .code yX1_sum cX1_sum 4 (some .int), .fieldLink RX1 23 "SnowFences$Strip" "length" "I", .methodLink RX1 29 yX4_cell, .instanceMethod yX4_cell, .selects RX4 yX4_cell yX4_cell, .initialized RX4, .code yX4_cell cX4_cell 2 (some .int), .fieldLink RX4 9 "SnowFences$Strip" "first" "I", .fieldLink RX4 18 "SnowFences$Strip" "down" "Z", .methodLink RX1 15 yX1_depth, .instanceMethod yX1_depth, .selects RX1 yX1_depth yX1_depth, .code yX1_depth cX1_depth 2 (some .int), .fieldLink RX1 9 "SnowFences$Ground" "depths" "[I"] ++ wsX60 ++ wsX40 ++ wsX10)
def wsX6_digest_r1 : List Cond := [Cond.constantLong RX6 214 (1777), Cond.constantLong RX6 216 (31), Cond.fieldLink RX6 10 "SnowFences" "fences" "Ljava/util/ArrayList;", Cond.fieldLink RX6 16 "SnowFences" "roads" "Ljava/util/ArrayList;", Cond.fieldLink RX6 31 "SnowFences" "ground" "LSnowFences$Ground;", Cond.methodLink RX6 218 yX6_count, Cond.instanceMethod yX6_count, Cond.selects RX6 yX6_count yX6_count, Cond.initialized RX6, Cond.code yX6_count cX6_count 2 (some .int), Cond.fieldLink RX6 24 "SnowFences" "whole" "LSnowFences$Strip;", Cond.fieldLink RX6 156 "SnowFences" "carriedOff" "I", Cond.fieldLink RX6 169 "SnowFences" "ploughed" "I", Cond.fieldLink RX6 159 "SnowFences" "windHours" "I", Cond.fieldLink RX6 45 "SnowFences" "limit" "I", Cond.fieldLink RX6 113 "SnowFences" "supply" "I", Cond.methodLink RX6 63 yX6_needIndex, Cond.static yX6_needIndex, Cond.code yX6_needIndex cX6_needIndex 2 none, Cond.classLink RX6 227 "java/lang/IndexOutOfBoundsException", Cond.initialized "java/lang/IndexOutOfBoundsException", Cond.methodLink RX6 67 yJx4a65c_size_8abf5, Cond.instanceMethod yJx4a65c_size_8abf5, Cond.selects RJx4a65c yJx4a65c_size_8abf5 yJx4a65c_size_8abf5]
def wsX6_digest_r2 : List Cond := [Cond.initialized RJx4a65c, Cond.code yJx4a65c_size_8abf5 cJx4a65c_size_8abf5 1 (some .int), Cond.fieldLink RJx4a65c 48 "java/util/ArrayList" "size" "I", Cond.methodLink RX6 118 yX1_sum, Cond.instanceMethod yX1_sum, Cond.selects RX1 yX1_sum yX1_sum, Cond.initialized RX1, Cond.code yX1_sum cX1_sum 4 (some .int), Cond.fieldLink RX1 23 "SnowFences$Strip" "length" "I", Cond.methodLink RX1 29 yX4_cell, Cond.instanceMethod yX4_cell, Cond.selects RX4 yX4_cell yX4_cell, Cond.initialized RX4, Cond.code yX4_cell cX4_cell 2 (some .int), Cond.fieldLink RX4 9 "SnowFences$Strip" "first" "I", Cond.fieldLink RX4 18 "SnowFences$Strip" "down" "Z", Cond.methodLink RX1 15 yX1_depth, Cond.instanceMethod yX1_depth, Cond.selects RX1 yX1_depth yX1_depth, Cond.code yX1_depth cX1_depth 2 (some .int), Cond.fieldLink RX1 9 "SnowFences$Ground" "depths" "[I", Cond.methodLink RX6 193 yX1_most, Cond.instanceMethod yX1_most, Cond.selects RX1 yX1_most yX1_most]
def wsX6_digest_r3 : List Cond := [Cond.code yX1_most cX1_most 4 (some .int), Cond.methodLink RX1 32 Lib.Math.max.name, Cond.static Lib.Math.max.name, Cond.initialized "java/lang/Math", Cond.code Lib.Math.max.name Lib.Math.max.code 2 (some .int), Cond.methodLink RX6 196 yX6_blockedOnRoads, Cond.instanceMethod yX6_blockedOnRoads, Cond.selects RX6 yX6_blockedOnRoads yX6_blockedOnRoads, Cond.code yX6_blockedOnRoads cX6_blockedOnRoads 4 (some .int), Cond.classLink RX6 100 "SnowFences$Road", Cond.fieldLink RX6 162 "SnowFences$Road" "strip" "LSnowFences$Strip;", Cond.methodLink RX6 85 yJx4a65c_get_915e3, Cond.instanceMethod yJx4a65c_get_915e3, Cond.selects RJx4a65c yJx4a65c_get_915e3 yJx4a65c_get_915e3, Cond.code yJx4a65c_get_915e3 cJx4a65c_get_915e3 2 (some (.object "java/lang/Object")), Cond.methodLink RJx4a65c 118 yJ15_checkIndex_7cf53, Cond.static yJ15_checkIndex_7cf53, Cond.initialized RJ15, Cond.code yJ15_checkIndex_7cf53 cJ15_checkIndex_7cf53 2 (some .int), Cond.methodLink RJ15 105 yJ3_checkIndex_8e157, Cond.static yJ3_checkIndex_8e157, Cond.initialized RJ3, Cond.code yJ3_checkIndex_8e157 cJ3_checkIndex_8e157 3 (some .int), Cond.methodLink RJx4a65c 123 yJx4a65c_elementData_915e3]
def wsX6_digest_r4 : List Cond := [Cond.instanceMethod yJx4a65c_elementData_915e3, Cond.selects RJx4a65c yJx4a65c_elementData_915e3 yJx4a65c_elementData_915e3, Cond.code yJx4a65c_elementData_915e3 cJx4a65c_elementData_915e3 2 (some (.object "java/lang/Object")), Cond.fieldLink RJx4a65c 9 "java/util/ArrayList" "elementData" "[Ljava/lang/Object;", Cond.methodLink RX6 189 yX1_blocked, Cond.instanceMethod yX1_blocked, Cond.selects RX1 yX1_blocked yX1_blocked, Cond.code yX1_blocked cX1_blocked 5 (some .int), Cond.methodLink RX6 221 yX6_about, Cond.instanceMethod yX6_about, Cond.selects RX6 yX6_about yX6_about, Cond.code yX6_about cX6_about 4 (some .int), Cond.classLink RX6 76 "SnowFences$Fence", Cond.fieldLink RX6 172 "SnowFences$Fence" "column" "I", Cond.fieldLink RX6 175 "SnowFences$Fence" "row" "I", Cond.fieldLink RX6 178 "SnowFences$Fence" "strip" "LSnowFences$Strip;", Cond.fieldLink RX6 179 "SnowFences$Strip" "length" "I", Cond.fieldLink RX6 182 "SnowFences$Strip" "down" "Z", Cond.fieldLink RX6 89 "SnowFences$Fence" "height" "I", Cond.fieldLink RX6 92 "SnowFences$Fence" "gap" "I", Cond.methodLink RX6 224 yX6_told, Cond.instanceMethod yX6_told, Cond.selects RX6 yX6_told yX6_told, Cond.code yX6_told cX6_told 4 (some .int)]
def wsX6_digest_r5 : List Cond := [Cond.fieldLink RX6 186 "SnowFences$Road" "index" "I", Cond.methodLink RX6 122 yX1_depth]
def wsX6_digest : List Cond := .code yX6_digest cX6_digest 5 (some .long) :: ((wsX6_digest_r1 ++ (wsX6_digest_r2 ++ (wsX6_digest_r3 ++ (wsX6_digest_r4 ++ wsX6_digest_r5)))) ++ wsX60 ++ wsJx4a65c0 ++ wsX40 ++ wsX10 ++ wsX20 ++ wsX00 ++ (vx_atS RX6 231 "java/lang/IndexOutOfBoundsException" ["java/lang/RuntimeException", "java/lang/Exception"]).filter goodWord)
def wsX7_init : List Cond := .code yX7_init cX7_init 1 none :: ([.methodLink RX7 1 objectInit, .instanceMethod objectInit, .code objectInit ⟨#[0xb1]⟩ 1 none, .classLink RX7 7 "[I", .fieldLink RX7 9 "SnowFencesLaw$Sim" "fences" "[[I", .fieldLink RX7 15 "SnowFencesLaw$Sim" "roads" "[[I", .classLink RX7 18 "[[I", .arrayClass .int, .fieldLink RX7 19 "SnowFencesLaw$Sim" "snow" "[[I", .fieldLink RX7 22 "SnowFencesLaw$Sim" "limit" "I"] ++ wsX70)
def wsX7_copy : List Cond := .code yX7_copy cX7_copy 3 (some (.object "SnowFencesLaw$Sim")) :: ([.classLink RX7 10 RX7, .instantiable RX7 8, .initialized RX7, .fieldLink RX7 9 "SnowFencesLaw$Sim" "fences" "[[I", .fieldLink RX7 15 "SnowFencesLaw$Sim" "roads" "[[I", .fieldLink RX7 19 "SnowFencesLaw$Sim" "snow" "[[I", .methodLink RX7 27 ⟨"[I", "clone", "()Ljava/lang/Object;"⟩, .sameMethod "[I" "java/lang/Object" "clone" "()Ljava/lang/Object;", .native ⟨"java/lang/Object", "clone", "()Ljava/lang/Object;"⟩, .instanceMethod ⟨"java/lang/Object", "clone", "()Ljava/lang/Object;"⟩, .selects "[I" ⟨"[I", "clone", "()Ljava/lang/Object;"⟩ ⟨"java/lang/Object", "clone", "()Ljava/lang/Object;"⟩, .classLink RX7 7 "[I", .fieldLink RX7 22 "SnowFencesLaw$Sim" "limit" "I", .fieldLink RX7 31 "SnowFencesLaw$Sim" "supply" "I", .methodLink RX7 26 yX7_init, .instanceMethod yX7_init, .code yX7_init cX7_init 1 none, .methodLink RX7 1 objectInit, .instanceMethod objectInit, .code objectInit ⟨#[0xb1]⟩ 1 none, .classLink RX7 18 "[[I", .arrayClass .int] ++ wsX70)
def wsX7_with : List Cond := .code yX7_with cX7_with 4 (some (.array (.array .int))) :: ([.classLink RX7 7 "[I"])
def wsX7_without : List Cond := .code yX7_without cX7_without 4 (some (.array (.array .int))) :: ([.classLink RX7 7 "[I"])
def wsX7_isOn : List Cond := .code yX7_isOn cX7_isOn 4 (some .boolean) :: ([])
def wsX7_highest : List Cond := .code yX7_highest cX7_highest 5 (some (.array .int)) :: ([.arrayClass .int, .fieldLink RX7 9 "SnowFencesLaw$Sim" "fences" "[[I", .methodLink RX7 34 yX7_isOn, .static yX7_isOn, .initialized RX7, .code yX7_isOn cX7_isOn 4 (some .boolean)] ++ wsX70)
def wsX7_over : List Cond := .code yX7_over cX7_over 12 (some .int) :: ([.arrayClass .int, .methodLink RX7 38 Lib.Math.max.name, .static Lib.Math.max.name, .initialized "java/lang/Math", .code Lib.Math.max.name Lib.Math.max.code 2 (some .int)])
def wsX7_spot : List Cond := .code yX7_spot cX7_spot 4 (some (.array .int)) :: ([.arrayClass .int])
def wsX7_hour : List Cond := .code yX7_hour cX7_hour 9 (some .int) :: ([.arrayClass .int, .classLink RX7 7 "[I", .fieldLink RX7 19 "SnowFencesLaw$Sim" "snow" "[[I", .fieldLink RX7 31 "SnowFencesLaw$Sim" "supply" "I", .methodLink RX7 44 yX7_spot, .static yX7_spot, .initialized RX7, .code yX7_spot cX7_spot 4 (some (.array .int)), .methodLink RX7 48 yX7_highest, .instanceMethod yX7_highest, .selects RX7 yX7_highest yX7_highest, .code yX7_highest cX7_highest 5 (some (.array .int)), .fieldLink RX7 9 "SnowFencesLaw$Sim" "fences" "[[I", .methodLink RX7 34 yX7_isOn, .static yX7_isOn, .code yX7_isOn cX7_isOn 4 (some .boolean), .methodLink RX7 52 yX7_over, .static yX7_over, .code yX7_over cX7_over 12 (some .int), .methodLink RX7 38 Lib.Math.max.name, .static Lib.Math.max.name, .initialized "java/lang/Math", .code Lib.Math.max.name Lib.Math.max.code 2 (some .int)] ++ wsX70)
def wsX7_blow_r1 : List Cond := [Cond.fieldLink RX7 59 "SnowFencesLaw$Sim" "off" "I", Cond.fieldLink RX7 62 "SnowFencesLaw$Sim" "hours" "I", Cond.methodLink RX7 56 yX7_hour, Cond.instanceMethod yX7_hour, Cond.selects RX7 yX7_hour yX7_hour, Cond.initialized RX7, Cond.code yX7_hour cX7_hour 9 (some .int), Cond.arrayClass .int, Cond.classLink RX7 7 "[I", Cond.fieldLink RX7 19 "SnowFencesLaw$Sim" "snow" "[[I", Cond.fieldLink RX7 31 "SnowFencesLaw$Sim" "supply" "I", Cond.methodLink RX7 44 yX7_spot, Cond.static yX7_spot, Cond.code yX7_spot cX7_spot 4 (some (.array .int)), Cond.methodLink RX7 48 yX7_highest, Cond.instanceMethod yX7_highest, Cond.selects RX7 yX7_highest yX7_highest, Cond.code yX7_highest cX7_highest 5 (some (.array .int)), Cond.fieldLink RX7 9 "SnowFencesLaw$Sim" "fences" "[[I", Cond.methodLink RX7 34 yX7_isOn, Cond.static yX7_isOn, Cond.code yX7_isOn cX7_isOn 4 (some .boolean), Cond.methodLink RX7 52 yX7_over, Cond.static yX7_over]
def wsX7_blow_r2 : List Cond := [Cond.code yX7_over cX7_over 12 (some .int), Cond.methodLink RX7 38 Lib.Math.max.name, Cond.static Lib.Math.max.name, Cond.initialized "java/lang/Math", Cond.code Lib.Math.max.name Lib.Math.max.code 2 (some .int)]
def wsX7_blow : List Cond := .code yX7_blow cX7_blow 6 (some .int) :: ((wsX7_blow_r1 ++ wsX7_blow_r2) ++ wsX70)
def wsX7_on : List Cond := .code yX7_on cX7_on 3 (some .int) :: ([.fieldLink RX7 19 "SnowFencesLaw$Sim" "snow" "[[I"] ++ wsX70)
def wsX7_blocked : List Cond := .code yX7_blocked cX7_blocked 4 (some .int) :: ([.fieldLink RX7 22 "SnowFencesLaw$Sim" "limit" "I", .methodLink RX7 65 yX7_on, .instanceMethod yX7_on, .selects RX7 yX7_on yX7_on, .initialized RX7, .code yX7_on cX7_on 3 (some .int), .fieldLink RX7 19 "SnowFencesLaw$Sim" "snow" "[[I"] ++ wsX70)
def wsX7_allBlocked : List Cond := .code yX7_allBlocked cX7_allBlocked 6 (some .int) :: ([.fieldLink RX7 15 "SnowFencesLaw$Sim" "roads" "[[I", .methodLink RX7 69 yX7_blocked, .instanceMethod yX7_blocked, .selects RX7 yX7_blocked yX7_blocked, .initialized RX7, .code yX7_blocked cX7_blocked 4 (some .int), .fieldLink RX7 22 "SnowFencesLaw$Sim" "limit" "I", .methodLink RX7 65 yX7_on, .instanceMethod yX7_on, .selects RX7 yX7_on yX7_on, .code yX7_on cX7_on 3 (some .int), .fieldLink RX7 19 "SnowFencesLaw$Sim" "snow" "[[I"] ++ wsX70)
def wsX7_tried_r1 : List Cond := [Cond.fieldLink RX7 9 "SnowFencesLaw$Sim" "fences" "[[I", Cond.methodLink RX7 73 yX7_copy, Cond.instanceMethod yX7_copy, Cond.selects RX7 yX7_copy yX7_copy, Cond.initialized RX7, Cond.code yX7_copy cX7_copy 3 (some (.object "SnowFencesLaw$Sim")), Cond.classLink RX7 10 RX7, Cond.instantiable RX7 8, Cond.fieldLink RX7 15 "SnowFencesLaw$Sim" "roads" "[[I", Cond.fieldLink RX7 19 "SnowFencesLaw$Sim" "snow" "[[I", Cond.methodLink RX7 27 ⟨"[I", "clone", "()Ljava/lang/Object;"⟩, Cond.sameMethod "[I" "java/lang/Object" "clone" "()Ljava/lang/Object;", Cond.native ⟨"java/lang/Object", "clone", "()Ljava/lang/Object;"⟩, Cond.instanceMethod ⟨"java/lang/Object", "clone", "()Ljava/lang/Object;"⟩, Cond.selects "[I" ⟨"[I", "clone", "()Ljava/lang/Object;"⟩ ⟨"java/lang/Object", "clone", "()Ljava/lang/Object;"⟩, Cond.classLink RX7 7 "[I", Cond.fieldLink RX7 22 "SnowFencesLaw$Sim" "limit" "I", Cond.fieldLink RX7 31 "SnowFencesLaw$Sim" "supply" "I", Cond.methodLink RX7 26 yX7_init, Cond.instanceMethod yX7_init, Cond.code yX7_init cX7_init 1 none, Cond.methodLink RX7 1 objectInit, Cond.instanceMethod objectInit, Cond.code objectInit ⟨#[0xb1]⟩ 1 none]
def wsX7_tried_r2 : List Cond := [Cond.classLink RX7 18 "[[I", Cond.arrayClass .int, Cond.methodLink RX7 77 yX7_blow, Cond.instanceMethod yX7_blow, Cond.selects RX7 yX7_blow yX7_blow, Cond.code yX7_blow cX7_blow 6 (some .int), Cond.fieldLink RX7 59 "SnowFencesLaw$Sim" "off" "I", Cond.fieldLink RX7 62 "SnowFencesLaw$Sim" "hours" "I", Cond.methodLink RX7 56 yX7_hour, Cond.instanceMethod yX7_hour, Cond.selects RX7 yX7_hour yX7_hour, Cond.code yX7_hour cX7_hour 9 (some .int), Cond.methodLink RX7 44 yX7_spot, Cond.static yX7_spot, Cond.code yX7_spot cX7_spot 4 (some (.array .int)), Cond.methodLink RX7 48 yX7_highest, Cond.instanceMethod yX7_highest, Cond.selects RX7 yX7_highest yX7_highest, Cond.code yX7_highest cX7_highest 5 (some (.array .int)), Cond.methodLink RX7 34 yX7_isOn, Cond.static yX7_isOn, Cond.code yX7_isOn cX7_isOn 4 (some .boolean), Cond.methodLink RX7 52 yX7_over, Cond.static yX7_over]
def wsX7_tried_r3 : List Cond := [Cond.code yX7_over cX7_over 12 (some .int), Cond.methodLink RX7 38 Lib.Math.max.name, Cond.static Lib.Math.max.name, Cond.initialized "java/lang/Math", Cond.code Lib.Math.max.name Lib.Math.max.code 2 (some .int), Cond.methodLink RX7 81 yX7_allBlocked, Cond.instanceMethod yX7_allBlocked, Cond.selects RX7 yX7_allBlocked yX7_allBlocked, Cond.code yX7_allBlocked cX7_allBlocked 6 (some .int), Cond.methodLink RX7 69 yX7_blocked, Cond.instanceMethod yX7_blocked, Cond.selects RX7 yX7_blocked yX7_blocked, Cond.code yX7_blocked cX7_blocked 4 (some .int), Cond.methodLink RX7 65 yX7_on, Cond.instanceMethod yX7_on, Cond.selects RX7 yX7_on yX7_on, Cond.code yX7_on cX7_on 3 (some .int)]
def wsX7_tried : List Cond := .code yX7_tried cX7_tried 5 (some .int) :: ((wsX7_tried_r1 ++ (wsX7_tried_r2 ++ wsX7_tried_r3)) ++ wsX70)
def wsX7_isSame_r1 : List Cond := [Cond.fieldLink RX7 19 "SnowFencesLaw$Sim" "snow" "[[I", Cond.methodLink RX7 38 Lib.Math.max.name, Cond.static Lib.Math.max.name, Cond.initialized "java/lang/Math", Cond.code Lib.Math.max.name Lib.Math.max.code 2 (some .int), Cond.fieldLink RX7 9 "SnowFencesLaw$Sim" "fences" "[[I", Cond.fieldLink RX7 15 "SnowFencesLaw$Sim" "roads" "[[I", Cond.arrayClass .int, Cond.fieldLink RX7 59 "SnowFencesLaw$Sim" "off" "I", Cond.fieldLink RX7 95 "SnowFencesLaw$Sim" "ploughed" "I", Cond.fieldLink RX7 62 "SnowFencesLaw$Sim" "hours" "I", Cond.fieldLink RX7 22 "SnowFencesLaw$Sim" "limit" "I", Cond.fieldLink RX7 31 "SnowFencesLaw$Sim" "supply" "I", Cond.constantDouble RX7 106 (4645744490609377280), Cond.methodLink RX7 85 yX6_snow, Cond.instanceMethod yX6_snow, Cond.selects RX6 yX6_snow yX6_snow, Cond.initialized RX6, Cond.code yX6_snow cX6_snow 3 (some .int), Cond.fieldLink RX6 31 "SnowFences" "ground" "LSnowFences$Ground;", Cond.methodLink RX6 63 yX6_needIndex, Cond.static yX6_needIndex, Cond.code yX6_needIndex cX6_needIndex 2 none, Cond.classLink RX6 227 "java/lang/IndexOutOfBoundsException"]
def wsX7_isSame_r2 : List Cond := [Cond.initialized "java/lang/IndexOutOfBoundsException", Cond.methodLink RX6 122 yX1_depth, Cond.instanceMethod yX1_depth, Cond.selects RX1 yX1_depth yX1_depth, Cond.initialized RX1, Cond.code yX1_depth cX1_depth 2 (some .int), Cond.fieldLink RX1 9 "SnowFences$Ground" "depths" "[I", Cond.methodLink RX7 34 yX7_isOn, Cond.static yX7_isOn, Cond.initialized RX7, Cond.code yX7_isOn cX7_isOn 4 (some .boolean), Cond.methodLink RX7 89 yX6_about, Cond.instanceMethod yX6_about, Cond.selects RX6 yX6_about yX6_about, Cond.code yX6_about cX6_about 4 (some .int), Cond.fieldLink RX6 10 "SnowFences" "fences" "Ljava/util/ArrayList;", Cond.classLink RX6 76 "SnowFences$Fence", Cond.fieldLink RX6 172 "SnowFences$Fence" "column" "I", Cond.fieldLink RX6 175 "SnowFences$Fence" "row" "I", Cond.fieldLink RX6 178 "SnowFences$Fence" "strip" "LSnowFences$Strip;", Cond.fieldLink RX6 179 "SnowFences$Strip" "length" "I", Cond.fieldLink RX6 182 "SnowFences$Strip" "down" "Z", Cond.fieldLink RX6 89 "SnowFences$Fence" "height" "I", Cond.fieldLink RX6 92 "SnowFences$Fence" "gap" "I"]
def wsX7_isSame_r3 : List Cond := [Cond.methodLink RX6 67 yJx4a65c_size_8abf5, Cond.instanceMethod yJx4a65c_size_8abf5, Cond.selects RJx4a65c yJx4a65c_size_8abf5 yJx4a65c_size_8abf5, Cond.initialized RJx4a65c, Cond.code yJx4a65c_size_8abf5 cJx4a65c_size_8abf5 1 (some .int), Cond.fieldLink RJx4a65c 48 "java/util/ArrayList" "size" "I", Cond.methodLink RX6 85 yJx4a65c_get_915e3, Cond.instanceMethod yJx4a65c_get_915e3, Cond.selects RJx4a65c yJx4a65c_get_915e3 yJx4a65c_get_915e3, Cond.code yJx4a65c_get_915e3 cJx4a65c_get_915e3 2 (some (.object "java/lang/Object")), Cond.methodLink RJx4a65c 118 yJ15_checkIndex_7cf53, Cond.static yJ15_checkIndex_7cf53, Cond.initialized RJ15, Cond.code yJ15_checkIndex_7cf53 cJ15_checkIndex_7cf53 2 (some .int), Cond.methodLink RJ15 105 yJ3_checkIndex_8e157, Cond.static yJ3_checkIndex_8e157, Cond.initialized RJ3, Cond.code yJ3_checkIndex_8e157 cJ3_checkIndex_8e157 3 (some .int), Cond.methodLink RJx4a65c 123 yJx4a65c_elementData_915e3, Cond.instanceMethod yJx4a65c_elementData_915e3, Cond.selects RJx4a65c yJx4a65c_elementData_915e3 yJx4a65c_elementData_915e3, Cond.code yJx4a65c_elementData_915e3 cJx4a65c_elementData_915e3 2 (some (.object "java/lang/Object")), Cond.fieldLink RJx4a65c 9 "java/util/ArrayList" "elementData" "[Ljava/lang/Object;", Cond.methodLink RX6 118 yX1_sum]
def wsX7_isSame_r4 : List Cond := [Cond.instanceMethod yX1_sum, Cond.selects RX1 yX1_sum yX1_sum, Cond.code yX1_sum cX1_sum 4 (some .int), Cond.fieldLink RX1 23 "SnowFences$Strip" "length" "I", Cond.methodLink RX1 29 yX4_cell, Cond.instanceMethod yX4_cell, Cond.selects RX4 yX4_cell yX4_cell, Cond.initialized RX4, Cond.code yX4_cell cX4_cell 2 (some .int), Cond.fieldLink RX4 9 "SnowFences$Strip" "first" "I", Cond.fieldLink RX4 18 "SnowFences$Strip" "down" "Z", Cond.methodLink RX1 15 yX1_depth, Cond.methodLink RX7 65 yX7_on, Cond.instanceMethod yX7_on, Cond.selects RX7 yX7_on yX7_on, Cond.code yX7_on cX7_on 3 (some .int), Cond.methodLink RX7 69 yX7_blocked, Cond.instanceMethod yX7_blocked, Cond.selects RX7 yX7_blocked yX7_blocked, Cond.code yX7_blocked cX7_blocked 4 (some .int), Cond.methodLink RX7 92 yX6_told, Cond.instanceMethod yX6_told, Cond.selects RX6 yX6_told yX6_told, Cond.code yX6_told cX6_told 4 (some .int)]
def wsX7_isSame_r5 : List Cond := [Cond.fieldLink RX6 16 "SnowFences" "roads" "Ljava/util/ArrayList;", Cond.classLink RX6 100 "SnowFences$Road", Cond.fieldLink RX6 162 "SnowFences$Road" "strip" "LSnowFences$Strip;", Cond.fieldLink RX6 186 "SnowFences$Road" "index" "I", Cond.fieldLink RX6 45 "SnowFences" "limit" "I", Cond.methodLink RX6 189 yX1_blocked, Cond.instanceMethod yX1_blocked, Cond.selects RX1 yX1_blocked yX1_blocked, Cond.code yX1_blocked cX1_blocked 5 (some .int), Cond.methodLink RX6 193 yX1_most, Cond.instanceMethod yX1_most, Cond.selects RX1 yX1_most yX1_most, Cond.code yX1_most cX1_most 4 (some .int), Cond.methodLink RX1 32 Lib.Math.max.name, Cond.methodLink RX7 81 yX7_allBlocked, Cond.instanceMethod yX7_allBlocked, Cond.selects RX7 yX7_allBlocked yX7_allBlocked, Cond.code yX7_allBlocked cX7_allBlocked 6 (some .int), Cond.methodLink RX7 98 yX6_count, Cond.instanceMethod yX6_count, Cond.selects RX6 yX6_count yX6_count, Cond.code yX6_count cX6_count 2 (some .int), Cond.fieldLink RX6 24 "SnowFences" "whole" "LSnowFences$Strip;", Cond.fieldLink RX6 156 "SnowFences" "carriedOff" "I"]
def wsX7_isSame_r6 : List Cond := [Cond.fieldLink RX6 169 "SnowFences" "ploughed" "I", Cond.fieldLink RX6 159 "SnowFences" "windHours" "I", Cond.fieldLink RX6 113 "SnowFences" "supply" "I", Cond.methodLink RX6 196 yX6_blockedOnRoads, Cond.instanceMethod yX6_blockedOnRoads, Cond.selects RX6 yX6_blockedOnRoads yX6_blockedOnRoads, Cond.code yX6_blockedOnRoads cX6_blockedOnRoads 4 (some .int), Cond.methodLink RX7 102 yX6_mean, Cond.instanceMethod yX6_mean, Cond.selects RX6 yX6_mean yX6_mean, Cond.code yX6_mean cX6_mean 1 (some .double), Cond.constantDouble RX6 212 (4645744490609377280)]
def wsX7_isSame : List Cond := .code yX7_isSame cX7_isSame 9 (some .boolean) :: ((wsX7_isSame_r1 ++ (wsX7_isSame_r2 ++ (wsX7_isSame_r3 ++ (wsX7_isSame_r4 ++ (wsX7_isSame_r5 ++ wsX7_isSame_r6))))) ++ wsX70 ++ wsX60 ++ wsX10 ++ wsX00 ++ wsX40 ++ wsJx4a65c0 ++ wsX20 ++ (vx_atS RX6 231 "java/lang/IndexOutOfBoundsException" ["java/lang/RuntimeException", "java/lang/Exception"]).filter goodWord)
def wsJ9_max_7cf53 : List Cond := .code yJ9_max_7cf53 cJ9_max_7cf53 2 (some .int) :: ([])
def wsJ9_min_7cf53 : List Cond := .code yJ9_min_7cf53 cJ9_min_7cf53 2 (some .int) :: ([])
set_option maxRecDepth 20000 in
theorem ggX1_becomeLike_X1_depth : GoodIn wsX1_becomeLike wsX1_depth := goodIn_r _ [5, 6, 11] (by decide +kernel) (by decide +kernel)
set_option maxRecDepth 20000 in
theorem gX1_becomeLike_X1_depth : GoodIn wsX1_becomeLike (wsV RX1 15 RX1 yX1_depth wsX1_depth) := goodIn_app (goodIn_of _ (by decide +kernel)) ggX1_becomeLike_X1_depth
set_option maxRecDepth 20000 in
theorem ggX1_becomeLike_X1_put : GoodIn wsX1_becomeLike wsX1_put := goodIn_r _ [10, 6, 11] (by decide +kernel) (by decide +kernel)
set_option maxRecDepth 20000 in
theorem gX1_becomeLike_X1_put : GoodIn wsX1_becomeLike (wsV RX1 19 RX1 yX1_put wsX1_put) := goodIn_app (goodIn_of _ (by decide +kernel)) ggX1_becomeLike_X1_put
set_option maxRecDepth 20000 in
theorem ggX1_clear_X4_cell : GoodIn wsX1_clear wsX4_cell := goodIn_r _ [6, 7, 8, 15, 16, 17] (by decide +kernel) (by decide +kernel)
set_option maxRecDepth 20000 in
theorem gX1_clear_X4_cell : GoodIn wsX1_clear (wsV RX1 29 RX4 yX4_cell wsX4_cell) := goodIn_app (goodIn_of _ (by decide +kernel)) ggX1_clear_X4_cell
set_option maxRecDepth 20000 in
theorem ggX1_clear_X1_put : GoodIn wsX1_clear wsX1_put := goodIn_r _ [13, 14, 18] (by decide +kernel) (by decide +kernel)
set_option maxRecDepth 20000 in
theorem gX1_clear_X1_put : GoodIn wsX1_clear (wsV RX1 19 RX1 yX1_put wsX1_put) := goodIn_app (goodIn_of _ (by decide +kernel)) ggX1_clear_X1_put
set_option maxRecDepth 20000 in
theorem ggX1_sum_X4_cell : GoodIn wsX1_sum wsX4_cell := goodIn_r _ [6, 7, 8, 15, 16, 17] (by decide +kernel) (by decide +kernel)
set_option maxRecDepth 20000 in
theorem gX1_sum_X4_cell : GoodIn wsX1_sum (wsV RX1 29 RX4 yX4_cell wsX4_cell) := goodIn_app (goodIn_of _ (by decide +kernel)) ggX1_sum_X4_cell
set_option maxRecDepth 20000 in
theorem ggX1_sum_X1_depth : GoodIn wsX1_sum wsX1_depth := goodIn_r _ [13, 14, 18] (by decide +kernel) (by decide +kernel)
set_option maxRecDepth 20000 in
theorem gX1_sum_X1_depth : GoodIn wsX1_sum (wsV RX1 15 RX1 yX1_depth wsX1_depth) := goodIn_app (goodIn_of _ (by decide +kernel)) ggX1_sum_X1_depth
set_option maxRecDepth 20000 in
theorem ggX1_most_X4_cell : GoodIn wsX1_most wsX4_cell := goodIn_r _ [10, 11, 12, 19, 20, 21] (by decide +kernel) (by decide +kernel)
set_option maxRecDepth 20000 in
theorem gX1_most_X4_cell : GoodIn wsX1_most (wsV RX1 29 RX4 yX4_cell wsX4_cell) := goodIn_app (goodIn_of _ (by decide +kernel)) ggX1_most_X4_cell
set_option maxRecDepth 20000 in
theorem ggX1_most_X1_depth : GoodIn wsX1_most wsX1_depth := goodIn_r _ [17, 18, 22] (by decide +kernel) (by decide +kernel)
set_option maxRecDepth 20000 in
theorem gX1_most_X1_depth : GoodIn wsX1_most (wsV RX1 15 RX1 yX1_depth wsX1_depth) := goodIn_app (goodIn_of _ (by decide +kernel)) ggX1_most_X1_depth
set_option maxRecDepth 20000 in
theorem ggX1_blocked_X4_cell : GoodIn wsX1_blocked wsX4_cell := goodIn_r _ [6, 7, 8, 15, 16, 17] (by decide +kernel) (by decide +kernel)
set_option maxRecDepth 20000 in
theorem gX1_blocked_X4_cell : GoodIn wsX1_blocked (wsV RX1 29 RX4 yX4_cell wsX4_cell) := goodIn_app (goodIn_of _ (by decide +kernel)) ggX1_blocked_X4_cell
set_option maxRecDepth 20000 in
theorem ggX1_blocked_X1_depth : GoodIn wsX1_blocked wsX1_depth := goodIn_r _ [13, 14, 18] (by decide +kernel) (by decide +kernel)
set_option maxRecDepth 20000 in
theorem gX1_blocked_X1_depth : GoodIn wsX1_blocked (wsV RX1 15 RX1 yX1_depth wsX1_depth) := goodIn_app (goodIn_of _ (by decide +kernel)) ggX1_blocked_X1_depth
set_option maxRecDepth 20000 in
theorem ggX3_clear_X3_stand : GoodIn wsX3_clear wsX3_stand := goodIn_r _ [5, 6, 7, 8, 9] (by decide +kernel) (by decide +kernel)
set_option maxRecDepth 20000 in
theorem gX3_clear_X3_stand : GoodIn wsX3_clear (wsV RX3 18 RX3 yX3_stand wsX3_stand) := goodIn_app (goodIn_of _ (by decide +kernel)) ggX3_clear_X3_stand
set_option maxRecDepth 20000 in
theorem ggX3_add_X4_cell : GoodIn wsX3_add wsX4_cell := goodIn_r _ [6, 7, 8, 20, 21, 22] (by decide +kernel) (by decide +kernel)
set_option maxRecDepth 20000 in
theorem gX3_add_X4_cell : GoodIn wsX3_add (wsV RX3 28 RX4 yX4_cell wsX4_cell) := goodIn_app (goodIn_of _ (by decide +kernel)) ggX3_add_X4_cell
set_option maxRecDepth 20000 in
theorem ggX3_add_X3_height : GoodIn wsX3_add wsX3_height := goodIn_r _ [13, 14, 23, 24] (by decide +kernel) (by decide +kernel)
set_option maxRecDepth 20000 in
theorem gX3_add_X3_height : GoodIn wsX3_add (wsV RX3 32 RX3 yX3_height wsX3_height) := goodIn_app (goodIn_of _ (by decide +kernel)) ggX3_add_X3_height
set_option maxRecDepth 20000 in
theorem ggX3_add_X3_stand : GoodIn wsX3_add wsX3_stand := goodIn_r _ [18, 14, 19, 23, 24] (by decide +kernel) (by decide +kernel)
set_option maxRecDepth 20000 in
theorem gX3_add_X3_stand : GoodIn wsX3_add (wsV RX3 18 RX3 yX3_stand wsX3_stand) := goodIn_app (goodIn_of _ (by decide +kernel)) ggX3_add_X3_stand
set_option maxRecDepth 20000 in
theorem ggX5_crossField_X5_passLine : GoodIn wsX5_crossField wsX5_passLine := goodIn_r _ [7, 8, 9, 10, 11, 12, 13, 14, 15, 6, 16, 17, 18, 19, 20, 21, 22, 23, 24, 25, 26, 27, 28, 29, 30, 31, 32, 33, 34, 35, 36, 37, 38, 39, 40, 41, 42, 43, 44, 45, 46, 47, 48, 49, 50, 51, 52, 53, 54, 55, 56, 57, 58, 59, 60, 61, 62, 63, 64, 65, 66, 67] (by decide +kernel) (by decide +kernel)
set_option maxRecDepth 20000 in
theorem gX5_crossField_X5_passLine : GoodIn wsX5_crossField (wsV RX5 31 RX5 yX5_passLine wsX5_passLine) := goodIn_app (goodIn_of _ (by decide +kernel)) ggX5_crossField_X5_passLine
set_option maxRecDepth 20000 in
theorem ggX5_passLine_X5_passCell : GoodIn wsX5_passLine wsX5_passCell := goodIn_r _ [10, 3, 4, 11, 2, 12, 13, 14, 15, 16, 17, 18, 19, 20, 21, 22, 23, 24, 25, 26, 27, 28, 29, 30, 31, 32, 33, 34, 35, 9, 36, 37, 38, 39, 40, 41, 42, 43, 44, 45, 46, 47, 48, 49, 50, 51, 52, 53, 54, 55, 56, 57, 58, 59, 60, 61] (by decide +kernel) (by decide +kernel)
set_option maxRecDepth 20000 in
theorem gX5_passLine_X5_passCell : GoodIn wsX5_passLine (wsV RX5 44 RX5 yX5_passCell wsX5_passCell) := goodIn_app (goodIn_of _ (by decide +kernel)) ggX5_passLine_X5_passCell
set_option maxRecDepth 20000 in
theorem ggX5_passCell_X3_height : GoodIn wsX5_passCell wsX3_height := goodIn_r _ [13, 14, 53, 54] (by decide +kernel) (by decide +kernel)
set_option maxRecDepth 20000 in
theorem gX5_passCell_X3_height : GoodIn wsX5_passCell (wsV RX5 48 RX3 yX3_height wsX3_height) := goodIn_app (goodIn_of _ (by decide +kernel)) ggX5_passCell_X3_height
set_option maxRecDepth 20000 in
theorem ggX5_passCell_X3_gap : GoodIn wsX5_passCell wsX3_gap := goodIn_r _ [18, 19, 53, 54] (by decide +kernel) (by decide +kernel)
set_option maxRecDepth 20000 in
theorem gX5_passCell_X3_gap : GoodIn wsX5_passCell (wsV RX5 54 RX3 yX3_gap wsX3_gap) := goodIn_app (goodIn_of _ (by decide +kernel)) ggX5_passCell_X3_gap
set_option maxRecDepth 20000 in
theorem ggX5_passCell_X1_depth : GoodIn wsX5_passCell wsX1_depth := goodIn_r _ [24, 25, 55] (by decide +kernel) (by decide +kernel)
set_option maxRecDepth 20000 in
theorem gX5_passCell_X1_depth : GoodIn wsX5_passCell (wsV RX5 60 RX1 yX1_depth wsX1_depth) := goodIn_app (goodIn_of _ (by decide +kernel)) ggX5_passCell_X1_depth
set_option maxRecDepth 20000 in
theorem ggX5_passCell_X5_dropped : GoodIn wsX5_passCell wsX5_dropped := goodIn_r _ [30, 4, 31, 32, 7, 33, 3, 5, 6, 8, 43, 44, 45, 46, 47, 48, 49, 50, 51, 52] (by decide +kernel) (by decide +kernel)
set_option maxRecDepth 20000 in
theorem gX5_passCell_X5_dropped : GoodIn wsX5_passCell (wsV RX5 65 RX5 yX5_dropped wsX5_dropped) := goodIn_app (goodIn_of _ (by decide +kernel)) ggX5_passCell_X5_dropped
set_option maxRecDepth 20000 in
theorem ggX5_passCell_X5_pickedUp : GoodIn wsX5_passCell wsX5_pickedUp := goodIn_r _ [37, 38, 31, 32, 7, 33, 4, 5, 6, 8, 43, 44, 45, 46, 47, 48, 49, 50, 51, 52] (by decide +kernel) (by decide +kernel)
set_option maxRecDepth 20000 in
theorem gX5_passCell_X5_pickedUp : GoodIn wsX5_passCell (wsV RX5 68 RX5 yX5_pickedUp wsX5_pickedUp) := goodIn_app (goodIn_of _ (by decide +kernel)) ggX5_passCell_X5_pickedUp
set_option maxRecDepth 20000 in
theorem ggX5_passCell_X1_put : GoodIn wsX5_passCell wsX1_put := goodIn_r _ [42, 25, 55] (by decide +kernel) (by decide +kernel)
set_option maxRecDepth 20000 in
theorem gX5_passCell_X1_put : GoodIn wsX5_passCell (wsV RX5 71 RX1 yX1_put wsX1_put) := goodIn_app (goodIn_of _ (by decide +kernel)) ggX5_passCell_X1_put
set_option maxRecDepth 20000 in
theorem ggX6_init_Jx4a65c_init_da8c8 : GoodIn wsX6_init wsJx4a65c_init_da8c8 := goodIn_r _ [25, 26, 27, 28, 29, 30, 31, 32, 33, 34, 35, 36, 37, 2, 3, 55, 56, 57] (by decide +kernel) (by decide +kernel)
set_option maxRecDepth 20000 in
theorem gX6_init_Jx4a65c_init_da8c8 : GoodIn wsX6_init (wsJx4a65c_init_da8c8) := ggX6_init_Jx4a65c_init_da8c8
set_option maxRecDepth 20000 in
theorem ggX6_init_X4_init : GoodIn wsX6_init wsX4_init := goodIn_r _ [40, 41, 2, 3, 42, 43, 44, 69, 70, 71] (by decide +kernel) (by decide +kernel)
set_option maxRecDepth 20000 in
theorem gX6_init_X4_init : GoodIn wsX6_init (wsX4_init) := ggX6_init_X4_init
set_option maxRecDepth 20000 in
theorem ggX6_init_X1_init : GoodIn wsX6_init wsX1_init := goodIn_r _ [46, 47, 2, 3, 48, 49, 72] (by decide +kernel) (by decide +kernel)
set_option maxRecDepth 20000 in
theorem gX6_init_X1_init_n30 : GoodIn wsX6_init (wsX1_init) := ggX6_init_X1_init
set_option maxRecDepth 20000 in
theorem ggX6_init_X3_init : GoodIn wsX6_init wsX3_init := goodIn_r _ [51, 52, 2, 3, 48, 53, 54, 73, 74] (by decide +kernel) (by decide +kernel)
set_option maxRecDepth 20000 in
theorem gX6_init_X3_init_n40 : GoodIn wsX6_init (wsX3_init) := ggX6_init_X3_init
set_option maxRecDepth 20000 in
theorem ggX6_fence_X6_needHeight : GoodIn wsX6_fence wsX6_needHeight := goodIn_ca (goodIn_r _ [15, 1, 2] (by decide +kernel) (by decide +kernel)) (goodIn_sub (fun _ h => List.mem_cons_of_mem _ (List.mem_append_left _ (List.mem_append_left _ (List.mem_append_right _ h)))) (by decide +kernel))
set_option maxRecDepth 20000 in
theorem gX6_fence_X6_needHeight : GoodIn wsX6_fence (va_wsS RX6 56 yX6_needHeight wsX6_needHeight) := goodIn_app (goodIn_of _ (by decide +kernel)) ggX6_fence_X6_needHeight
set_option maxRecDepth 20000 in
theorem ggX6_fence_X6_needGap : GoodIn wsX6_fence wsX6_needGap := goodIn_ca (goodIn_r _ [18, 1, 2] (by decide +kernel) (by decide +kernel)) (goodIn_sub (fun _ h => List.mem_cons_of_mem _ (List.mem_append_left _ (List.mem_append_left _ (List.mem_append_right _ h)))) (by decide +kernel))
set_option maxRecDepth 20000 in
theorem gX6_fence_X6_needGap : GoodIn wsX6_fence (va_wsS RX6 60 yX6_needGap wsX6_needGap) := goodIn_app (goodIn_of _ (by decide +kernel)) ggX6_fence_X6_needGap
set_option maxRecDepth 20000 in
theorem ggX6_fence_X6_needIndex : GoodIn wsX6_fence wsX6_needIndex := goodIn_ca (goodIn_r _ [21, 22, 23] (by decide +kernel) (by decide +kernel)) (goodIn_sub (fun _ h => List.mem_cons_of_mem _ (List.mem_append_right _ h)) (by decide +kernel))
set_option maxRecDepth 20000 in
theorem gX6_fence_X6_needIndex : GoodIn wsX6_fence (va_wsS RX6 63 yX6_needIndex wsX6_needIndex) := goodIn_app (goodIn_of _ (by decide +kernel)) ggX6_fence_X6_needIndex
set_option maxRecDepth 20000 in
theorem ggX6_fence_Jx4a65c_size_8abf5 : GoodIn wsX6_fence wsJx4a65c_size_8abf5 := goodIn_r _ [28, 29, 121, 122, 123] (by decide +kernel) (by decide +kernel)
set_option maxRecDepth 20000 in
theorem gX6_fence_Jx4a65c_size_8abf5 : GoodIn wsX6_fence (wsV RX6 67 RJx4a65c yJx4a65c_size_8abf5 wsJx4a65c_size_8abf5) := goodIn_app (goodIn_of _ (by decide +kernel)) ggX6_fence_Jx4a65c_size_8abf5
set_option maxRecDepth 20000 in
theorem ggX6_fence_X4_init : GoodIn wsX6_fence wsX4_init := goodIn_r _ [32, 33, 34, 35, 36, 37, 38, 118, 119, 120] (by decide +kernel) (by decide +kernel)
set_option maxRecDepth 20000 in
theorem gX6_fence_X4_init : GoodIn wsX6_fence (wsX4_init) := ggX6_fence_X4_init
set_option maxRecDepth 20000 in
theorem ggX6_fence_X0_init : GoodIn wsX6_fence wsX0_init := goodIn_r _ [41, 42, 34, 35, 43, 44, 45, 46, 47, 113, 114, 115, 116, 117] (by decide +kernel) (by decide +kernel)
set_option maxRecDepth 20000 in
theorem gX6_fence_X0_init : GoodIn wsX6_fence (wsX0_init) := ggX6_fence_X0_init
set_option maxRecDepth 20000 in
theorem ggX6_fence_Jx4a65c_add_9ea2d : GoodIn wsX6_fence wsJx4a65c_add_9ea2d := goodIn_r _ [51, 52, 53, 54, 29, 55, 56, 57, 27, 58, 59, 60, 61, 62, 63, 64, 65, 66, 67, 68, 69, 70, 71, 72, 73, 74, 75, 76, 77, 78, 79, 80, 81, 82, 83, 84, 85, 86, 87, 88, 89, 90, 91, 92, 93, 94, 95, 96, 97, 98, 99, 100, 101, 121, 122, 123] (by decide +kernel) (by decide +kernel)
end
section
set_option maxRecDepth 20000 in
theorem gX6_fence_Jx4a65c_add_9ea2d : GoodIn wsX6_fence (wsV RX6 81 RJx4a65c yJx4a65c_add_9ea2d wsJx4a65c_add_9ea2d) := goodIn_app (goodIn_of _ (by decide +kernel)) ggX6_fence_Jx4a65c_add_9ea2d
set_option maxRecDepth 20000 in
theorem ggX6_change_Jx4a65c_size_8abf5 : GoodIn wsX6_change wsJx4a65c_size_8abf5 := goodIn_r _ [9, 10, 58, 59, 60] (by decide +kernel) (by decide +kernel)
set_option maxRecDepth 20000 in
theorem gX6_change_Jx4a65c_size_8abf5 : GoodIn wsX6_change (wsV RX6 67 RJx4a65c yJx4a65c_size_8abf5 wsJx4a65c_size_8abf5) := goodIn_app (goodIn_of _ (by decide +kernel)) ggX6_change_Jx4a65c_size_8abf5
set_option maxRecDepth 20000 in
theorem ggX6_change_X6_needIndex : GoodIn wsX6_change wsX6_needIndex := goodIn_ca (goodIn_r _ [14, 15, 16] (by decide +kernel) (by decide +kernel)) (goodIn_sub (fun _ h => List.mem_cons_of_mem _ (List.mem_append_left _ (List.mem_append_right _ h))) (by decide +kernel))
set_option maxRecDepth 20000 in
theorem gX6_change_X6_needIndex : GoodIn wsX6_change (va_wsS RX6 63 yX6_needIndex wsX6_needIndex) := goodIn_app (goodIn_of _ (by decide +kernel)) ggX6_change_X6_needIndex
set_option maxRecDepth 20000 in
theorem ggX6_change_X6_needHeight : GoodIn wsX6_change wsX6_needHeight := goodIn_ca (goodIn_r _ [19, 20, 21] (by decide +kernel) (by decide +kernel)) (goodIn_sub (fun _ h => List.mem_cons_of_mem _ (List.mem_append_right _ h)) (by decide +kernel))
set_option maxRecDepth 20000 in
theorem gX6_change_X6_needHeight : GoodIn wsX6_change (va_wsS RX6 56 yX6_needHeight wsX6_needHeight) := goodIn_app (goodIn_of _ (by decide +kernel)) ggX6_change_X6_needHeight
set_option maxRecDepth 20000 in
theorem ggX6_change_X6_needGap : GoodIn wsX6_change wsX6_needGap := goodIn_ca (goodIn_r _ [24, 20, 21] (by decide +kernel) (by decide +kernel)) (goodIn_sub (fun _ h => List.mem_cons_of_mem _ (List.mem_append_right _ h)) (by decide +kernel))
set_option maxRecDepth 20000 in
theorem gX6_change_X6_needGap : GoodIn wsX6_change (va_wsS RX6 60 yX6_needGap wsX6_needGap) := goodIn_app (goodIn_of _ (by decide +kernel)) ggX6_change_X6_needGap
set_option maxRecDepth 20000 in
theorem ggX6_change_Jx4a65c_get_915e3 : GoodIn wsX6_change wsJx4a65c_get_915e3 := goodIn_r _ [28, 10, 29, 30, 31, 32, 33, 34, 35, 36, 37, 38, 39, 8, 40, 41, 58, 59, 60] (by decide +kernel) (by decide +kernel)
set_option maxRecDepth 20000 in
theorem gX6_change_Jx4a65c_get_915e3 : GoodIn wsX6_change (wsV RX6 85 RJx4a65c yJx4a65c_get_915e3 wsJx4a65c_get_915e3) := goodIn_app (goodIn_of _ (by decide +kernel)) ggX6_change_Jx4a65c_get_915e3
set_option maxRecDepth 20000 in
theorem ggX6_take_Jx4a65c_size_8abf5 : GoodIn wsX6_take wsJx4a65c_size_8abf5 := goodIn_r _ [6, 7, 48, 49, 50] (by decide +kernel) (by decide +kernel)
set_option maxRecDepth 20000 in
theorem gX6_take_Jx4a65c_size_8abf5 : GoodIn wsX6_take (wsV RX6 67 RJx4a65c yJx4a65c_size_8abf5 wsJx4a65c_size_8abf5) := goodIn_app (goodIn_of _ (by decide +kernel)) ggX6_take_Jx4a65c_size_8abf5
set_option maxRecDepth 20000 in
theorem ggX6_take_X6_needIndex : GoodIn wsX6_take wsX6_needIndex := goodIn_ca (goodIn_r _ [11, 12, 13] (by decide +kernel) (by decide +kernel)) (goodIn_sub (fun _ h => List.mem_cons_of_mem _ (List.mem_append_right _ h)) (by decide +kernel))
set_option maxRecDepth 20000 in
theorem gX6_take_X6_needIndex : GoodIn wsX6_take (va_wsS RX6 63 yX6_needIndex wsX6_needIndex) := goodIn_app (goodIn_of _ (by decide +kernel)) ggX6_take_X6_needIndex
set_option maxRecDepth 20000 in
theorem ggX6_take_Jx4a65c_remove_915e3 : GoodIn wsX6_take wsJx4a65c_remove_915e3 := goodIn_r _ [17, 7, 18, 19, 20, 21, 22, 23, 24, 25, 26, 27, 28, 29, 5, 30, 31, 32, 33, 34, 35, 36, 48, 49, 50] (by decide +kernel) (by decide +kernel)
set_option maxRecDepth 20000 in
theorem gX6_take_Jx4a65c_remove_915e3 : GoodIn wsX6_take (wsV RX6 95 RJx4a65c yJx4a65c_remove_915e3 wsJx4a65c_remove_915e3) := goodIn_app (goodIn_of _ (by decide +kernel)) ggX6_take_Jx4a65c_remove_915e3
set_option maxRecDepth 20000 in
theorem ggX6_road_X6_needIndex : GoodIn wsX6_road wsX6_needIndex := goodIn_ca (goodIn_r _ [10, 11, 12] (by decide +kernel) (by decide +kernel)) (goodIn_sub (fun _ h => List.mem_cons_of_mem _ (List.mem_append_right _ h)) (by decide +kernel))
set_option maxRecDepth 20000 in
theorem gX6_road_X6_needIndex : GoodIn wsX6_road (va_wsS RX6 63 yX6_needIndex wsX6_needIndex) := goodIn_app (goodIn_of _ (by decide +kernel)) ggX6_road_X6_needIndex
set_option maxRecDepth 20000 in
theorem ggX6_road_Jx4a65c_size_8abf5 : GoodIn wsX6_road wsJx4a65c_size_8abf5 := goodIn_r _ [17, 18, 107, 108, 109] (by decide +kernel) (by decide +kernel)
set_option maxRecDepth 20000 in
theorem gX6_road_Jx4a65c_size_8abf5 : GoodIn wsX6_road (wsV RX6 67 RJx4a65c yJx4a65c_size_8abf5 wsJx4a65c_size_8abf5) := goodIn_app (goodIn_of _ (by decide +kernel)) ggX6_road_Jx4a65c_size_8abf5
set_option maxRecDepth 20000 in
theorem ggX6_road_X6_straight : GoodIn wsX6_road wsX6_straight := goodIn_r _ [21, 22, 23, 24, 25, 26, 27, 28, 29, 30, 31, 32, 33, 110, 111, 112] (by decide +kernel) (by decide +kernel)
set_option maxRecDepth 20000 in
theorem gX6_road_X6_straight : GoodIn wsX6_road (va_wsS RX6 102 yX6_straight wsX6_straight) := goodIn_app (goodIn_of _ (by decide +kernel)) ggX6_road_X6_straight
set_option maxRecDepth 20000 in
theorem ggX6_road_X2_init : GoodIn wsX6_road wsX2_init := goodIn_r _ [36, 37, 29, 30, 38, 39, 105, 106] (by decide +kernel) (by decide +kernel)
set_option maxRecDepth 20000 in
theorem gX6_road_X2_init : GoodIn wsX6_road (wsX2_init) := ggX6_road_X2_init
set_option maxRecDepth 20000 in
theorem ggX6_road_Jx4a65c_add_9ea2d : GoodIn wsX6_road wsJx4a65c_add_9ea2d := goodIn_r _ [43, 44, 45, 46, 18, 47, 48, 49, 16, 50, 51, 52, 53, 54, 55, 56, 57, 58, 59, 60, 61, 62, 63, 64, 65, 66, 67, 68, 69, 70, 71, 72, 73, 74, 75, 76, 77, 78, 79, 80, 81, 82, 83, 84, 85, 86, 87, 88, 89, 90, 91, 92, 93, 107, 108, 109] (by decide +kernel) (by decide +kernel)
set_option maxRecDepth 20000 in
theorem gX6_road_Jx4a65c_add_9ea2d : GoodIn wsX6_road (wsV RX6 81 RJx4a65c yJx4a65c_add_9ea2d wsJx4a65c_add_9ea2d) := goodIn_app (goodIn_of _ (by decide +kernel)) ggX6_road_Jx4a65c_add_9ea2d
set_option maxRecDepth 20000 in
theorem ggX6_fall_X1_sum : GoodIn wsX6_fall wsX1_sum := goodIn_r _ [13, 14, 15, 16, 17, 18, 19, 20, 21, 22, 23, 24, 12, 25, 26, 43, 44, 45, 46] (by decide +kernel) (by decide +kernel)
set_option maxRecDepth 20000 in
theorem gX6_fall_X1_sum : GoodIn wsX6_fall (wsV RX6 118 RX1 yX1_sum wsX1_sum) := goodIn_app (goodIn_of _ (by decide +kernel)) ggX6_fall_X1_sum
set_option maxRecDepth 20000 in
theorem ggX6_fall_X1_depth : GoodIn wsX6_fall wsX1_depth := goodIn_r _ [25, 26, 46] (by decide +kernel) (by decide +kernel)
set_option maxRecDepth 20000 in
theorem gX6_fall_X1_depth : GoodIn wsX6_fall (wsV RX6 122 RX1 yX1_depth wsX1_depth) := goodIn_app (goodIn_of _ (by decide +kernel)) ggX6_fall_X1_depth
set_option maxRecDepth 20000 in
theorem ggX6_fall_X1_put : GoodIn wsX6_fall wsX1_put := goodIn_r _ [31, 26, 46] (by decide +kernel) (by decide +kernel)
set_option maxRecDepth 20000 in
theorem gX6_fall_X1_put : GoodIn wsX6_fall (wsV RX6 132 RX1 yX1_put wsX1_put) := goodIn_app (goodIn_of _ (by decide +kernel)) ggX6_fall_X1_put
set_option maxRecDepth 20000 in
theorem ggX6_blow_X6_needWind : GoodIn wsX6_blow wsX6_needWind := goodIn_ca (goodIn_r _ [11, 12, 13, 10, 14, 15, 16] (by decide +kernel) (by decide +kernel)) (goodIn_sub (fun _ h => List.mem_cons_of_mem _ (List.mem_append_left _ (List.mem_append_right _ h))) (by decide +kernel))
set_option maxRecDepth 20000 in
theorem gX6_blow_X6_needWind : GoodIn wsX6_blow (va_wsS RX6 135 yX6_needWind wsX6_needWind) := goodIn_app (goodIn_of _ (by decide +kernel)) ggX6_blow_X6_needWind
set_option maxRecDepth 20000 in
theorem ggX6_blow_X6_needStrength : GoodIn wsX6_blow wsX6_needStrength := goodIn_ca (goodIn_r _ [19, 20, 21] (by decide +kernel) (by decide +kernel)) (goodIn_sub (fun _ h => List.mem_cons_of_mem _ (List.mem_append_right _ h)) (by decide +kernel))
set_option maxRecDepth 20000 in
theorem gX6_blow_X6_needStrength : GoodIn wsX6_blow (va_wsS RX6 138 yX6_needStrength wsX6_needStrength) := goodIn_app (goodIn_of _ (by decide +kernel)) ggX6_blow_X6_needStrength
set_option maxRecDepth 20000 in
theorem ggX6_blow_X6_needHours : GoodIn wsX6_blow wsX6_needHours := goodIn_ca (goodIn_r _ [24, 20, 21] (by decide +kernel) (by decide +kernel)) (goodIn_sub (fun _ h => List.mem_cons_of_mem _ (List.mem_append_right _ h)) (by decide +kernel))
set_option maxRecDepth 20000 in
theorem gX6_blow_X6_needHours : GoodIn wsX6_blow (va_wsS RX6 141 yX6_needHours wsX6_needHours) := goodIn_app (goodIn_of _ (by decide +kernel)) ggX6_blow_X6_needHours
set_option maxRecDepth 20000 in
theorem ggX6_blow_X6_screenAllBut : GoodIn wsX6_blow wsX6_screenAllBut := goodIn_r _ [28, 29, 30, 31, 32, 33, 34, 35, 36, 37, 38, 39, 40, 41, 42, 43, 44, 45, 46, 47, 48, 49, 50, 51, 52, 53, 54, 55, 56, 57, 58, 59, 60, 61, 62, 63, 64, 65, 66, 67, 68, 69, 70, 71, 72, 73, 74, 75, 76, 77, 78, 79, 80, 81, 82, 83, 84, 147, 148, 149, 150, 151, 152, 153, 154, 155, 156, 157, 168, 169, 170, 171, 172, 173, 174, 175, 176, 177, 178, 179, 180] (by decide +kernel) (by decide +kernel)
set_option maxRecDepth 20000 in
theorem gX6_blow_X6_screenAllBut : GoodIn wsX6_blow (wsV RX6 144 RX6 yX6_screenAllBut wsX6_screenAllBut) := goodIn_app (goodIn_of _ (by decide +kernel)) ggX6_blow_X6_screenAllBut
set_option maxRecDepth 20000 in
theorem ggX6_blow_X5_init : GoodIn wsX6_blow wsX5_init := goodIn_r _ [87, 88, 89, 90, 91, 92, 93, 94, 95, 96, 158, 159, 160, 161, 162, 163, 164, 165, 166, 167] (by decide +kernel) (by decide +kernel)
set_option maxRecDepth 20000 in
theorem gX6_blow_X5_init : GoodIn wsX6_blow (wsX5_init) := ggX6_blow_X5_init
set_option maxRecDepth 20000 in
theorem ggX6_blow_X6_blowOver : GoodIn wsX6_blow wsX6_blowOver := goodIn_r _ [100, 29, 101, 102, 103, 4, 104, 94, 96, 105, 106, 107, 108, 92, 109, 110, 111, 95, 112, 113, 114, 115, 116, 117, 118, 119, 120, 121, 82, 83, 38, 84, 44, 122, 123, 124, 125, 45, 126, 127, 128, 129, 130, 131, 132, 133, 134, 135, 136, 137, 138, 139, 140, 141, 142, 91, 143, 144, 145, 146, 147, 148, 149, 150, 151, 152, 153, 154, 155, 156, 157, 158, 159, 160, 161, 162, 163, 164, 165, 166, 167, 173, 174, 181] (by decide +kernel) (by decide +kernel)
set_option maxRecDepth 20000 in
theorem gX6_blow_X6_blowOver : GoodIn wsX6_blow (wsV RX6 152 RX6 yX6_blowOver wsX6_blowOver) := goodIn_app (goodIn_of _ (by decide +kernel)) ggX6_blow_X6_blowOver
set_option maxRecDepth 20000 in
theorem ggX6_plough_Jx4a65c_size_8abf5 : GoodIn wsX6_plough wsJx4a65c_size_8abf5 := goodIn_r _ [10, 11, 74, 75, 76] (by decide +kernel) (by decide +kernel)
set_option maxRecDepth 20000 in
theorem gX6_plough_Jx4a65c_size_8abf5 : GoodIn wsX6_plough (wsV RX6 67 RJx4a65c yJx4a65c_size_8abf5 wsJx4a65c_size_8abf5) := goodIn_app (goodIn_of _ (by decide +kernel)) ggX6_plough_Jx4a65c_size_8abf5
set_option maxRecDepth 20000 in
theorem ggX6_plough_X6_needIndex : GoodIn wsX6_plough wsX6_needIndex := goodIn_ca (goodIn_r _ [15, 16, 17] (by decide +kernel) (by decide +kernel)) (goodIn_sub (fun _ h => List.mem_cons_of_mem _ (List.mem_append_right _ h)) (by decide +kernel))
set_option maxRecDepth 20000 in
theorem gX6_plough_X6_needIndex : GoodIn wsX6_plough (va_wsS RX6 63 yX6_needIndex wsX6_needIndex) := goodIn_app (goodIn_of _ (by decide +kernel)) ggX6_plough_X6_needIndex
set_option maxRecDepth 20000 in
theorem ggX6_plough_Jx4a65c_get_915e3 : GoodIn wsX6_plough wsJx4a65c_get_915e3 := goodIn_r _ [21, 11, 22, 23, 24, 25, 26, 27, 28, 29, 30, 31, 32, 9, 33, 34, 74, 75, 76] (by decide +kernel) (by decide +kernel)
set_option maxRecDepth 20000 in
theorem gX6_plough_Jx4a65c_get_915e3 : GoodIn wsX6_plough (wsV RX6 85 RJx4a65c yJx4a65c_get_915e3 wsJx4a65c_get_915e3) := goodIn_app (goodIn_of _ (by decide +kernel)) ggX6_plough_Jx4a65c_get_915e3
set_option maxRecDepth 20000 in
theorem ggX6_plough_X1_sum : GoodIn wsX6_plough wsX1_sum := goodIn_r _ [39, 40, 41, 42, 43, 44, 45, 46, 47, 48, 49, 50, 38, 51, 52, 77, 78, 79, 80] (by decide +kernel) (by decide +kernel)
set_option maxRecDepth 20000 in
theorem gX6_plough_X1_sum : GoodIn wsX6_plough (wsV RX6 118 RX1 yX1_sum wsX1_sum) := goodIn_app (goodIn_of _ (by decide +kernel)) ggX6_plough_X1_sum
set_option maxRecDepth 20000 in
theorem ggX6_plough_X1_clear : GoodIn wsX6_plough wsX1_clear := goodIn_r _ [56, 40, 41, 42, 43, 44, 45, 46, 47, 57, 58, 59, 38, 60, 52, 77, 78, 79, 80] (by decide +kernel) (by decide +kernel)
set_option maxRecDepth 20000 in
theorem gX6_plough_X1_clear : GoodIn wsX6_plough (wsV RX6 165 RX1 yX1_clear wsX1_clear) := goodIn_app (goodIn_of _ (by decide +kernel)) ggX6_plough_X1_clear
set_option maxRecDepth 20000 in
theorem ggX6_snow_X6_needIndex : GoodIn wsX6_snow wsX6_needIndex := goodIn_ca (goodIn_r _ [5, 6, 7] (by decide +kernel) (by decide +kernel)) (goodIn_sub (fun _ h => List.mem_cons_of_mem _ (List.mem_append_right _ h)) (by decide +kernel))
set_option maxRecDepth 20000 in
theorem gX6_snow_X6_needIndex : GoodIn wsX6_snow (va_wsS RX6 63 yX6_needIndex wsX6_needIndex) := goodIn_app (goodIn_of _ (by decide +kernel)) ggX6_snow_X6_needIndex
set_option maxRecDepth 20000 in
theorem ggX6_snow_X1_depth : GoodIn wsX6_snow wsX1_depth := goodIn_r _ [12, 13, 25] (by decide +kernel) (by decide +kernel)
set_option maxRecDepth 20000 in
theorem gX6_snow_X1_depth : GoodIn wsX6_snow (wsV RX6 122 RX1 yX1_depth wsX1_depth) := goodIn_app (goodIn_of _ (by decide +kernel)) ggX6_snow_X1_depth
set_option maxRecDepth 20000 in
theorem ggX6_about_Jx4a65c_size_8abf5 : GoodIn wsX6_about wsJx4a65c_size_8abf5 := goodIn_r _ [15, 16, 77, 78, 79] (by decide +kernel) (by decide +kernel)
set_option maxRecDepth 20000 in
theorem gX6_about_Jx4a65c_size_8abf5 : GoodIn wsX6_about (wsV RX6 67 RJx4a65c yJx4a65c_size_8abf5 wsJx4a65c_size_8abf5) := goodIn_app (goodIn_of _ (by decide +kernel)) ggX6_about_Jx4a65c_size_8abf5
set_option maxRecDepth 20000 in
theorem ggX6_about_X6_needIndex : GoodIn wsX6_about wsX6_needIndex := goodIn_ca (goodIn_r _ [20, 21, 22] (by decide +kernel) (by decide +kernel)) (goodIn_sub (fun _ h => List.mem_cons_of_mem _ (List.mem_append_right _ h)) (by decide +kernel))
set_option maxRecDepth 20000 in
theorem gX6_about_X6_needIndex : GoodIn wsX6_about (va_wsS RX6 63 yX6_needIndex wsX6_needIndex) := goodIn_app (goodIn_of _ (by decide +kernel)) ggX6_about_X6_needIndex
set_option maxRecDepth 20000 in
theorem ggX6_about_Jx4a65c_get_915e3 : GoodIn wsX6_about wsJx4a65c_get_915e3 := goodIn_r _ [26, 16, 27, 28, 29, 30, 31, 32, 33, 34, 35, 36, 37, 14, 38, 39, 77, 78, 79] (by decide +kernel) (by decide +kernel)
set_option maxRecDepth 20000 in
theorem gX6_about_Jx4a65c_get_915e3 : GoodIn wsX6_about (wsV RX6 85 RJx4a65c yJx4a65c_get_915e3 wsJx4a65c_get_915e3) := goodIn_app (goodIn_of _ (by decide +kernel)) ggX6_about_Jx4a65c_get_915e3
set_option maxRecDepth 20000 in
theorem ggX6_about_X1_sum : GoodIn wsX6_about wsX1_sum := goodIn_r _ [44, 45, 46, 47, 48, 49, 50, 51, 52, 53, 54, 55, 43, 56, 57, 74, 75, 76, 80] (by decide +kernel) (by decide +kernel)
set_option maxRecDepth 20000 in
theorem gX6_about_X1_sum : GoodIn wsX6_about (wsV RX6 118 RX1 yX1_sum wsX1_sum) := goodIn_app (goodIn_of _ (by decide +kernel)) ggX6_about_X1_sum
set_option maxRecDepth 20000 in
theorem ggX6_told_Jx4a65c_size_8abf5 : GoodIn wsX6_told wsJx4a65c_size_8abf5 := goodIn_r _ [12, 13, 83, 84, 85] (by decide +kernel) (by decide +kernel)
set_option maxRecDepth 20000 in
theorem gX6_told_Jx4a65c_size_8abf5 : GoodIn wsX6_told (wsV RX6 67 RJx4a65c yJx4a65c_size_8abf5 wsJx4a65c_size_8abf5) := goodIn_app (goodIn_of _ (by decide +kernel)) ggX6_told_Jx4a65c_size_8abf5
set_option maxRecDepth 20000 in
theorem ggX6_told_X6_needIndex : GoodIn wsX6_told wsX6_needIndex := goodIn_ca (goodIn_r _ [17, 18, 19] (by decide +kernel) (by decide +kernel)) (goodIn_sub (fun _ h => List.mem_cons_of_mem _ (List.mem_append_right _ h)) (by decide +kernel))
set_option maxRecDepth 20000 in
theorem gX6_told_X6_needIndex : GoodIn wsX6_told (va_wsS RX6 63 yX6_needIndex wsX6_needIndex) := goodIn_app (goodIn_of _ (by decide +kernel)) ggX6_told_X6_needIndex
set_option maxRecDepth 20000 in
theorem ggX6_told_Jx4a65c_get_915e3 : GoodIn wsX6_told wsJx4a65c_get_915e3 := goodIn_r _ [23, 13, 24, 25, 26, 27, 28, 29, 30, 31, 32, 33, 34, 11, 35, 36, 83, 84, 85] (by decide +kernel) (by decide +kernel)
set_option maxRecDepth 20000 in
theorem gX6_told_Jx4a65c_get_915e3 : GoodIn wsX6_told (wsV RX6 85 RJx4a65c yJx4a65c_get_915e3 wsJx4a65c_get_915e3) := goodIn_app (goodIn_of _ (by decide +kernel)) ggX6_told_Jx4a65c_get_915e3
set_option maxRecDepth 20000 in
theorem ggX6_told_X1_blocked : GoodIn wsX6_told wsX1_blocked := goodIn_r _ [41, 42, 43, 44, 45, 46, 47, 48, 49, 50, 51, 52, 40, 53, 54, 80, 81, 82, 86] (by decide +kernel) (by decide +kernel)
set_option maxRecDepth 20000 in
theorem gX6_told_X1_blocked : GoodIn wsX6_told (wsV RX6 189 RX1 yX1_blocked wsX1_blocked) := goodIn_app (goodIn_of _ (by decide +kernel)) ggX6_told_X1_blocked
set_option maxRecDepth 20000 in
theorem ggX6_told_X1_sum : GoodIn wsX6_told wsX1_sum := goodIn_r _ [58, 42, 43, 44, 45, 46, 47, 48, 49, 50, 51, 52, 40, 53, 54, 80, 81, 82, 86] (by decide +kernel) (by decide +kernel)
set_option maxRecDepth 20000 in
theorem gX6_told_X1_sum : GoodIn wsX6_told (wsV RX6 118 RX1 yX1_sum wsX1_sum) := goodIn_app (goodIn_of _ (by decide +kernel)) ggX6_told_X1_sum
set_option maxRecDepth 20000 in
theorem ggX6_told_X1_most : GoodIn wsX6_told wsX1_most := goodIn_r _ [62, 42, 63, 64, 65, 66, 43, 44, 45, 46, 47, 48, 49, 50, 51, 52, 40, 53, 54, 80, 81, 82, 86] (by decide +kernel) (by decide +kernel)
set_option maxRecDepth 20000 in
theorem gX6_told_X1_most : GoodIn wsX6_told (wsV RX6 193 RX1 yX1_most wsX1_most) := goodIn_app (goodIn_of _ (by decide +kernel)) ggX6_told_X1_most
set_option maxRecDepth 20000 in
theorem ggX6_count_X6_needIndex : GoodIn wsX6_count wsX6_needIndex := goodIn_ca (goodIn_r _ [13, 14, 15] (by decide +kernel) (by decide +kernel)) (goodIn_sub (fun _ h => List.mem_cons_of_mem _ (List.mem_append_right _ h)) (by decide +kernel))
set_option maxRecDepth 20000 in
theorem gX6_count_X6_needIndex : GoodIn wsX6_count (va_wsS RX6 63 yX6_needIndex wsX6_needIndex) := goodIn_app (goodIn_of _ (by decide +kernel)) ggX6_count_X6_needIndex
set_option maxRecDepth 20000 in
theorem ggX6_count_Jx4a65c_size_8abf5 : GoodIn wsX6_count wsJx4a65c_size_8abf5 := goodIn_r _ [20, 21, 86, 87, 88] (by decide +kernel) (by decide +kernel)
set_option maxRecDepth 20000 in
theorem gX6_count_Jx4a65c_size_8abf5 : GoodIn wsX6_count (wsV RX6 67 RJx4a65c yJx4a65c_size_8abf5 wsJx4a65c_size_8abf5) := goodIn_app (goodIn_of _ (by decide +kernel)) ggX6_count_Jx4a65c_size_8abf5
set_option maxRecDepth 20000 in
theorem ggX6_count_X1_sum : GoodIn wsX6_count wsX1_sum := goodIn_r _ [26, 27, 28, 29, 30, 31, 32, 33, 34, 35, 36, 37, 25, 38, 39, 89, 90, 91, 92] (by decide +kernel) (by decide +kernel)
set_option maxRecDepth 20000 in
theorem gX6_count_X1_sum : GoodIn wsX6_count (wsV RX6 118 RX1 yX1_sum wsX1_sum) := goodIn_app (goodIn_of _ (by decide +kernel)) ggX6_count_X1_sum
set_option maxRecDepth 20000 in
theorem ggX6_count_X1_most : GoodIn wsX6_count wsX1_most := goodIn_r _ [43, 27, 44, 45, 46, 47, 28, 29, 30, 31, 32, 33, 34, 35, 36, 37, 25, 38, 39, 89, 90, 91, 92] (by decide +kernel) (by decide +kernel)
set_option maxRecDepth 20000 in
theorem gX6_count_X1_most : GoodIn wsX6_count (wsV RX6 193 RX1 yX1_most wsX1_most) := goodIn_app (goodIn_of _ (by decide +kernel)) ggX6_count_X1_most
set_option maxRecDepth 20000 in
theorem ggX6_count_X6_blockedOnRoads : GoodIn wsX6_count wsX6_blockedOnRoads := goodIn_r _ [51, 2, 52, 53, 8, 16, 17, 18, 19, 20, 21, 54, 55, 56, 57, 58, 59, 60, 61, 62, 63, 64, 65, 66, 67, 68, 69, 70, 71, 72, 73, 25, 74, 27, 28, 29, 30, 31, 32, 33, 34, 35, 36, 37, 38, 39, 75, 76, 77, 78, 79, 80, 81, 82, 83, 84, 85, 93, 94, 86, 87, 88, 89, 90, 91, 92] (by decide +kernel) (by decide +kernel)
set_option maxRecDepth 20000 in
theorem gX6_count_X6_blockedOnRoads : GoodIn wsX6_count (wsV RX6 196 RX6 yX6_blockedOnRoads wsX6_blockedOnRoads) := goodIn_app (goodIn_of _ (by decide +kernel)) ggX6_count_X6_blockedOnRoads
set_option maxRecDepth 20000 in
theorem ggX6_would_X6_needWind : GoodIn wsX6_would wsX6_needWind := goodIn_ca (goodIn_r _ [14, 15, 16, 13, 17, 18, 19] (by decide +kernel) (by decide +kernel)) (goodIn_sub (fun _ h => List.mem_cons_of_mem _ (List.mem_append_left _ (List.mem_append_right _ h))) (by decide +kernel))
set_option maxRecDepth 20000 in
theorem gX6_would_X6_needWind : GoodIn wsX6_would (va_wsS RX6 135 yX6_needWind wsX6_needWind) := goodIn_app (goodIn_of _ (by decide +kernel)) ggX6_would_X6_needWind
set_option maxRecDepth 20000 in
theorem ggX6_would_Jx4a65c_size_8abf5 : GoodIn wsX6_would wsJx4a65c_size_8abf5 := goodIn_r _ [24, 25, 185, 186, 187] (by decide +kernel) (by decide +kernel)
set_option maxRecDepth 20000 in
theorem gX6_would_Jx4a65c_size_8abf5 : GoodIn wsX6_would (wsV RX6 67 RJx4a65c yJx4a65c_size_8abf5 wsJx4a65c_size_8abf5) := goodIn_app (goodIn_of _ (by decide +kernel)) ggX6_would_Jx4a65c_size_8abf5
set_option maxRecDepth 20000 in
theorem ggX6_would_X6_needIndex : GoodIn wsX6_would wsX6_needIndex := goodIn_ca (goodIn_r _ [17, 18, 19] (by decide +kernel) (by decide +kernel)) (goodIn_sub (fun _ h => List.mem_cons_of_mem _ (List.mem_append_left _ (List.mem_append_right _ h))) (by decide +kernel))
set_option maxRecDepth 20000 in
theorem gX6_would_X6_needIndex : GoodIn wsX6_would (va_wsS RX6 63 yX6_needIndex wsX6_needIndex) := goodIn_app (goodIn_of _ (by decide +kernel)) ggX6_would_X6_needIndex
set_option maxRecDepth 20000 in
theorem ggX6_would_X6_needStrength : GoodIn wsX6_would wsX6_needStrength := goodIn_ca (goodIn_r _ [28, 29, 30] (by decide +kernel) (by decide +kernel)) (goodIn_sub (fun _ h => List.mem_cons_of_mem _ (List.mem_append_right _ h)) (by decide +kernel))
set_option maxRecDepth 20000 in
theorem gX6_would_X6_needStrength : GoodIn wsX6_would (va_wsS RX6 138 yX6_needStrength wsX6_needStrength) := goodIn_app (goodIn_of _ (by decide +kernel)) ggX6_would_X6_needStrength
set_option maxRecDepth 20000 in
theorem ggX6_would_X6_needHours : GoodIn wsX6_would wsX6_needHours := goodIn_ca (goodIn_r _ [33, 29, 30] (by decide +kernel) (by decide +kernel)) (goodIn_sub (fun _ h => List.mem_cons_of_mem _ (List.mem_append_right _ h)) (by decide +kernel))
set_option maxRecDepth 20000 in
theorem gX6_would_X6_needHours : GoodIn wsX6_would (va_wsS RX6 141 yX6_needHours wsX6_needHours) := goodIn_app (goodIn_of _ (by decide +kernel)) ggX6_would_X6_needHours
set_option maxRecDepth 20000 in
theorem ggX6_would_X6_screenAllBut : GoodIn wsX6_would wsX6_screenAllBut := goodIn_r _ [37, 38, 39, 40, 41, 42, 43, 44, 45, 46, 47, 48, 49, 50, 51, 52, 53, 54, 20, 21, 22, 23, 24, 25, 55, 56, 57, 58, 59, 60, 61, 62, 63, 64, 65, 66, 67, 68, 69, 70, 71, 72, 73, 74, 75, 76, 77, 78, 79, 80, 81, 82, 83, 84, 85, 86, 87, 162, 163, 164, 165, 166, 167, 168, 169, 170, 171, 172, 188, 189, 190, 191, 192, 193, 194, 185, 186, 187, 195, 196, 197] (by decide +kernel) (by decide +kernel)
set_option maxRecDepth 20000 in
theorem gX6_would_X6_screenAllBut : GoodIn wsX6_would (wsV RX6 144 RX6 yX6_screenAllBut wsX6_screenAllBut) := goodIn_app (goodIn_of _ (by decide +kernel)) ggX6_would_X6_screenAllBut
set_option maxRecDepth 20000 in
theorem ggX6_would_X1_becomeLike : GoodIn wsX6_would wsX1_becomeLike := goodIn_r _ [92, 93, 94, 95, 91, 96, 97, 98, 99, 100, 101, 198] (by decide +kernel) (by decide +kernel)
set_option maxRecDepth 20000 in
theorem gX6_would_X1_becomeLike : GoodIn wsX6_would (wsV RX6 200 RX1 yX1_becomeLike wsX1_becomeLike) := goodIn_app (goodIn_of _ (by decide +kernel)) ggX6_would_X1_becomeLike
set_option maxRecDepth 20000 in
theorem ggX6_would_X5_init : GoodIn wsX6_would wsX5_init := goodIn_r _ [104, 105, 106, 107, 108, 109, 110, 111, 112, 113, 173, 174, 175, 176, 177, 178, 179, 180, 181, 182] (by decide +kernel) (by decide +kernel)
set_option maxRecDepth 20000 in
theorem gX6_would_X5_init : GoodIn wsX6_would (wsX5_init) := ggX6_would_X5_init
set_option maxRecDepth 20000 in
theorem ggX6_would_X6_blowOver : GoodIn wsX6_would wsX6_blowOver := goodIn_r _ [117, 38, 118, 119, 120, 6, 121, 111, 113, 122, 123, 124, 125, 109, 126, 127, 128, 112, 129, 130, 131, 132, 133, 134, 135, 136, 137, 138, 85, 86, 47, 87, 53, 139, 140, 141, 142, 54, 143, 94, 95, 91, 96, 97, 144, 145, 146, 147, 148, 149, 150, 151, 152, 153, 154, 108, 155, 99, 100, 101, 162, 163, 164, 165, 166, 167, 168, 169, 170, 171, 172, 173, 174, 175, 176, 177, 178, 179, 180, 181, 182, 193, 194, 198] (by decide +kernel) (by decide +kernel)
set_option maxRecDepth 20000 in
theorem gX6_would_X6_blowOver : GoodIn wsX6_would (wsV RX6 152 RX6 yX6_blowOver wsX6_blowOver) := goodIn_app (goodIn_of _ (by decide +kernel)) ggX6_would_X6_blowOver
set_option maxRecDepth 20000 in
theorem ggX6_would_Jx4a65c_get_915e3 : GoodIn wsX6_would wsJx4a65c_get_915e3 := goodIn_r _ [58, 25, 59, 60, 61, 62, 63, 64, 65, 66, 67, 68, 69, 23, 70, 71, 185, 186, 187] (by decide +kernel) (by decide +kernel)
set_option maxRecDepth 20000 in
theorem gX6_would_Jx4a65c_get_915e3 : GoodIn wsX6_would (wsV RX6 85 RJx4a65c yJx4a65c_get_915e3 wsJx4a65c_get_915e3) := goodIn_app (goodIn_of _ (by decide +kernel)) ggX6_would_Jx4a65c_get_915e3
set_option maxRecDepth 20000 in
theorem ggX6_would_X1_blocked : GoodIn wsX6_would wsX1_blocked := goodIn_r _ [159, 160, 161, 78, 79, 80, 81, 82, 83, 93, 94, 95, 91, 96, 97, 195, 196, 197, 198] (by decide +kernel) (by decide +kernel)
set_option maxRecDepth 20000 in
theorem gX6_would_X1_blocked : GoodIn wsX6_would (wsV RX6 189 RX1 yX1_blocked wsX1_blocked) := goodIn_app (goodIn_of _ (by decide +kernel)) ggX6_would_X1_blocked
set_option maxRecDepth 20000 in
theorem ggX6_until_X6_needWind : GoodIn wsX6_until wsX6_needWind := goodIn_ca (goodIn_r _ [14, 15, 16, 13, 17, 18, 19] (by decide +kernel) (by decide +kernel)) (goodIn_sub (fun _ h => List.mem_cons_of_mem _ (List.mem_append_left _ (List.mem_append_right _ h))) (by decide +kernel))
set_option maxRecDepth 20000 in
theorem gX6_until_X6_needWind : GoodIn wsX6_until (va_wsS RX6 135 yX6_needWind wsX6_needWind) := goodIn_app (goodIn_of _ (by decide +kernel)) ggX6_until_X6_needWind
set_option maxRecDepth 20000 in
theorem ggX6_until_Jx4a65c_size_8abf5 : GoodIn wsX6_until wsJx4a65c_size_8abf5 := goodIn_r _ [24, 25, 182, 183, 184] (by decide +kernel) (by decide +kernel)
set_option maxRecDepth 20000 in
theorem gX6_until_Jx4a65c_size_8abf5 : GoodIn wsX6_until (wsV RX6 67 RJx4a65c yJx4a65c_size_8abf5 wsJx4a65c_size_8abf5) := goodIn_app (goodIn_of _ (by decide +kernel)) ggX6_until_Jx4a65c_size_8abf5
set_option maxRecDepth 20000 in
theorem ggX6_until_X6_needIndex : GoodIn wsX6_until wsX6_needIndex := goodIn_ca (goodIn_r _ [17, 18, 19] (by decide +kernel) (by decide +kernel)) (goodIn_sub (fun _ h => List.mem_cons_of_mem _ (List.mem_append_left _ (List.mem_append_right _ h))) (by decide +kernel))
set_option maxRecDepth 20000 in
theorem gX6_until_X6_needIndex : GoodIn wsX6_until (va_wsS RX6 63 yX6_needIndex wsX6_needIndex) := goodIn_app (goodIn_of _ (by decide +kernel)) ggX6_until_X6_needIndex
set_option maxRecDepth 20000 in
theorem ggX6_until_X6_needStrength : GoodIn wsX6_until wsX6_needStrength := goodIn_ca (goodIn_r _ [28, 29, 30] (by decide +kernel) (by decide +kernel)) (goodIn_sub (fun _ h => List.mem_cons_of_mem _ (List.mem_append_right _ h)) (by decide +kernel))
set_option maxRecDepth 20000 in
theorem gX6_until_X6_needStrength : GoodIn wsX6_until (va_wsS RX6 138 yX6_needStrength wsX6_needStrength) := goodIn_app (goodIn_of _ (by decide +kernel)) ggX6_until_X6_needStrength
set_option maxRecDepth 20000 in
theorem ggX6_until_Jx4a65c_get_915e3 : GoodIn wsX6_until wsJx4a65c_get_915e3 := goodIn_r _ [34, 25, 35, 36, 37, 38, 39, 40, 41, 42, 43, 44, 45, 23, 46, 47, 182, 183, 184] (by decide +kernel) (by decide +kernel)
set_option maxRecDepth 20000 in
theorem gX6_until_Jx4a65c_get_915e3 : GoodIn wsX6_until (wsV RX6 85 RJx4a65c yJx4a65c_get_915e3 wsJx4a65c_get_915e3) := goodIn_app (goodIn_of _ (by decide +kernel)) ggX6_until_Jx4a65c_get_915e3
set_option maxRecDepth 20000 in
theorem ggX6_until_X5_init : GoodIn wsX6_until wsX5_init := goodIn_r _ [50, 51, 52, 53, 54, 55, 56, 57, 58, 59, 172, 173, 174, 175, 176, 177, 178, 179, 180, 181] (by decide +kernel) (by decide +kernel)
set_option maxRecDepth 20000 in
theorem gX6_until_X5_init : GoodIn wsX6_until (wsX5_init) := ggX6_until_X5_init
set_option maxRecDepth 20000 in
theorem ggX6_until_X6_screenAllBut : GoodIn wsX6_until wsX6_screenAllBut := goodIn_r _ [63, 64, 65, 66, 67, 68, 69, 70, 71, 72, 73, 74, 75, 76, 77, 78, 79, 80, 20, 21, 22, 23, 24, 25, 31, 32, 33, 34, 35, 36, 37, 38, 39, 40, 41, 42, 43, 44, 45, 46, 47, 81, 82, 83, 84, 85, 86, 87, 88, 89, 90, 91, 92, 93, 94, 95, 96, 159, 160, 161, 162, 163, 164, 165, 166, 167, 168, 169, 185, 186, 187, 188, 189, 190, 191, 182, 183, 184, 192, 193, 194] (by decide +kernel) (by decide +kernel)
set_option maxRecDepth 20000 in
theorem gX6_until_X6_screenAllBut : GoodIn wsX6_until (wsV RX6 144 RX6 yX6_screenAllBut wsX6_screenAllBut) := goodIn_app (goodIn_of _ (by decide +kernel)) ggX6_until_X6_screenAllBut
set_option maxRecDepth 20000 in
theorem ggX6_until_X1_becomeLike : GoodIn wsX6_until wsX1_becomeLike := goodIn_r _ [101, 102, 103, 104, 100, 105, 106, 107, 108, 109, 110, 195] (by decide +kernel) (by decide +kernel)
set_option maxRecDepth 20000 in
theorem gX6_until_X1_becomeLike : GoodIn wsX6_until (wsV RX6 200 RX1 yX1_becomeLike wsX1_becomeLike) := goodIn_app (goodIn_of _ (by decide +kernel)) ggX6_until_X1_becomeLike
set_option maxRecDepth 20000 in
theorem ggX6_until_X1_blocked : GoodIn wsX6_until wsX1_blocked := goodIn_r _ [114, 115, 116, 87, 88, 89, 90, 91, 92, 102, 103, 104, 100, 105, 106, 192, 193, 194, 195] (by decide +kernel) (by decide +kernel)
set_option maxRecDepth 20000 in
theorem gX6_until_X1_blocked : GoodIn wsX6_until (wsV RX6 189 RX1 yX1_blocked wsX1_blocked) := goodIn_app (goodIn_of _ (by decide +kernel)) ggX6_until_X1_blocked
set_option maxRecDepth 20000 in
theorem ggX6_until_X6_blowOver : GoodIn wsX6_until wsX6_blowOver := goodIn_r _ [120, 64, 121, 122, 123, 6, 124, 57, 59, 125, 126, 127, 128, 55, 129, 130, 131, 58, 132, 133, 134, 135, 136, 137, 138, 139, 140, 141, 94, 95, 73, 96, 79, 142, 143, 144, 145, 80, 146, 103, 104, 100, 105, 106, 147, 148, 149, 150, 151, 152, 153, 154, 155, 156, 157, 54, 158, 108, 109, 110, 159, 160, 161, 162, 163, 164, 165, 166, 167, 168, 169, 172, 173, 174, 175, 176, 177, 178, 179, 180, 181, 190, 191, 195] (by decide +kernel) (by decide +kernel)
set_option maxRecDepth 20000 in
theorem gX6_until_X6_blowOver : GoodIn wsX6_until (wsV RX6 152 RX6 yX6_blowOver wsX6_blowOver) := goodIn_app (goodIn_of _ (by decide +kernel)) ggX6_until_X6_blowOver
set_option maxRecDepth 20000 in
theorem ggX6_advise_X6_needWind : GoodIn wsX6_advise wsX6_needWind := goodIn_ca (goodIn_r _ [10, 11, 12, 9, 13, 14, 15] (by decide +kernel) (by decide +kernel)) (goodIn_sub (fun _ h => List.mem_cons_of_mem _ (List.mem_append_left _ (List.mem_append_right _ h))) (by decide +kernel))
set_option maxRecDepth 20000 in
theorem gX6_advise_X6_needWind : GoodIn wsX6_advise (va_wsS RX6 135 yX6_needWind wsX6_needWind) := goodIn_app (goodIn_of _ (by decide +kernel)) ggX6_advise_X6_needWind
set_option maxRecDepth 20000 in
theorem ggX6_advise_X6_needStrength : GoodIn wsX6_advise wsX6_needStrength := goodIn_ca (goodIn_r _ [18, 19, 20] (by decide +kernel) (by decide +kernel)) (goodIn_sub (fun _ h => List.mem_cons_of_mem _ (List.mem_append_right _ h)) (by decide +kernel))
set_option maxRecDepth 20000 in
theorem gX6_advise_X6_needStrength : GoodIn wsX6_advise (va_wsS RX6 138 yX6_needStrength wsX6_needStrength) := goodIn_app (goodIn_of _ (by decide +kernel)) ggX6_advise_X6_needStrength
set_option maxRecDepth 20000 in
theorem ggX6_advise_X6_needHeight : GoodIn wsX6_advise wsX6_needHeight := goodIn_ca (goodIn_r _ [23, 19, 20] (by decide +kernel) (by decide +kernel)) (goodIn_sub (fun _ h => List.mem_cons_of_mem _ (List.mem_append_right _ h)) (by decide +kernel))
set_option maxRecDepth 20000 in
theorem gX6_advise_X6_needHeight : GoodIn wsX6_advise (va_wsS RX6 56 yX6_needHeight wsX6_needHeight) := goodIn_app (goodIn_of _ (by decide +kernel)) ggX6_advise_X6_needHeight
set_option maxRecDepth 20000 in
theorem ggX6_advise_X5_init : GoodIn wsX6_advise wsX5_init := goodIn_r _ [26, 27, 28, 29, 30, 31, 32, 33, 34, 35, 181, 182, 183, 184, 185, 186, 187, 188, 189, 190] (by decide +kernel) (by decide +kernel)
set_option maxRecDepth 20000 in
theorem gX6_advise_X5_init : GoodIn wsX6_advise (wsX5_init) := ggX6_advise_X5_init
set_option maxRecDepth 20000 in
theorem ggX6_advise_X6_screenAllBut : GoodIn wsX6_advise wsX6_screenAllBut := goodIn_r _ [39, 5, 40, 41, 42, 43, 44, 45, 46, 47, 48, 49, 50, 51, 52, 53, 54, 55, 56, 57, 58, 59, 60, 61, 62, 63, 64, 65, 66, 67, 68, 69, 70, 71, 72, 73, 74, 75, 76, 77, 78, 79, 80, 81, 82, 83, 84, 85, 86, 87, 88, 89, 90, 91, 92, 93, 94, 191, 192, 193, 194, 195, 196, 197, 198, 199, 200, 201, 202, 203, 204, 205, 206, 207, 208, 209, 210, 211, 212, 213, 214] (by decide +kernel) (by decide +kernel)
set_option maxRecDepth 20000 in
theorem gX6_advise_X6_screenAllBut : GoodIn wsX6_advise (wsV RX6 144 RX6 yX6_screenAllBut wsX6_screenAllBut) := goodIn_app (goodIn_of _ (by decide +kernel)) ggX6_advise_X6_screenAllBut
set_option maxRecDepth 20000 in
theorem ggX6_advise_X6_straight : GoodIn wsX6_advise wsX6_straight := goodIn_r _ [97, 98, 99, 87, 100, 101, 102, 103, 28, 29, 89, 104, 90, 212, 213, 214] (by decide +kernel) (by decide +kernel)
set_option maxRecDepth 20000 in
theorem gX6_advise_X6_straight : GoodIn wsX6_advise (va_wsS RX6 102 yX6_straight wsX6_straight) := goodIn_app (goodIn_of _ (by decide +kernel)) ggX6_advise_X6_straight
set_option maxRecDepth 20000 in
theorem ggX6_advise_X3_add : GoodIn wsX6_advise wsX3_add := goodIn_r _ [82, 83, 84, 85, 86, 87, 88, 89, 90, 91, 92, 93, 48, 94, 54, 50, 51, 52, 53, 55, 212, 213, 214, 207, 208] (by decide +kernel) (by decide +kernel)
set_option maxRecDepth 20000 in
theorem gX6_advise_X3_add : GoodIn wsX6_advise (wsV RX6 205 RX3 yX3_add wsX3_add) := goodIn_app (goodIn_of _ (by decide +kernel)) ggX6_advise_X3_add
set_option maxRecDepth 20000 in
theorem ggX6_advise_X6_blockedAfterAdvice : GoodIn wsX6_advise wsX6_blockedAfterAdvice := goodIn_r _ [108, 109, 110, 111, 112, 113, 114, 115, 116, 117, 118, 119, 120, 121, 122, 123, 124, 125, 126, 127, 9, 128, 5, 129, 130, 131, 3, 132, 33, 35, 133, 134, 135, 136, 31, 137, 138, 139, 34, 140, 141, 142, 143, 144, 145, 146, 147, 148, 149, 92, 93, 48, 94, 54, 150, 151, 152, 153, 55, 154, 155, 156, 157, 158, 159, 160, 161, 162, 163, 164, 165, 30, 166, 167, 168, 169, 170, 171, 172, 173, 174, 56, 57, 58, 59, 60, 61, 62, 63, 64, 65, 66, 67, 68, 69, 70, 71, 72, 73, 74, 75, 76, 77, 78, 175, 176, 177, 178, 179, 180, 85, 86, 87, 88, 89, 90, 191, 192, 193, 194, 195, 196, 197, 198, 199, 200, 201, 215, 181, 182, 183, 184, 185, 186, 187, 188, 189, 190, 207, 208, 216, 217, 209, 210, 211, 212, 213, 214] (by decide +kernel) (by decide +kernel)
set_option maxRecDepth 20000 in
theorem gX6_advise_X6_blockedAfterAdvice : GoodIn wsX6_advise (wsV RX6 208 RX6 yX6_blockedAfterAdvice wsX6_blockedAfterAdvice) := goodIn_app (goodIn_of _ (by decide +kernel)) ggX6_advise_X6_blockedAfterAdvice
set_option maxRecDepth 20000 in
theorem ggX6_harmful_X6_needWind : GoodIn wsX6_harmful wsX6_needWind := goodIn_ca (goodIn_r _ [9, 10, 11, 8, 12, 13, 14] (by decide +kernel) (by decide +kernel)) (goodIn_sub (fun _ h => List.mem_cons_of_mem _ (List.mem_append_left _ (List.mem_append_right _ h))) (by decide +kernel))
set_option maxRecDepth 20000 in
theorem gX6_harmful_X6_needWind : GoodIn wsX6_harmful (va_wsS RX6 135 yX6_needWind wsX6_needWind) := goodIn_app (goodIn_of _ (by decide +kernel)) ggX6_harmful_X6_needWind
set_option maxRecDepth 20000 in
theorem ggX6_harmful_X6_needStrength : GoodIn wsX6_harmful wsX6_needStrength := goodIn_ca (goodIn_r _ [17, 18, 19] (by decide +kernel) (by decide +kernel)) (goodIn_sub (fun _ h => List.mem_cons_of_mem _ (List.mem_append_right _ h)) (by decide +kernel))
set_option maxRecDepth 20000 in
theorem gX6_harmful_X6_needStrength : GoodIn wsX6_harmful (va_wsS RX6 138 yX6_needStrength wsX6_needStrength) := goodIn_app (goodIn_of _ (by decide +kernel)) ggX6_harmful_X6_needStrength
set_option maxRecDepth 20000 in
theorem ggX6_harmful_X5_init : GoodIn wsX6_harmful wsX5_init := goodIn_r _ [22, 23, 24, 25, 26, 27, 28, 29, 30, 31, 167, 168, 169, 170, 171, 172, 173, 174, 175, 176] (by decide +kernel) (by decide +kernel)
set_option maxRecDepth 20000 in
theorem gX6_harmful_X5_init : GoodIn wsX6_harmful (wsX5_init) := ggX6_harmful_X5_init
set_option maxRecDepth 20000 in
theorem ggX6_harmful_X6_screenAllBut : GoodIn wsX6_harmful wsX6_screenAllBut := goodIn_r _ [35, 36, 5, 37, 38, 39, 40, 41, 42, 43, 44, 45, 46, 47, 48, 49, 50, 51, 52, 53, 54, 55, 56, 57, 58, 59, 60, 61, 62, 63, 64, 65, 66, 67, 68, 69, 70, 71, 72, 73, 74, 75, 76, 77, 78, 79, 80, 81, 82, 83, 84, 85, 86, 87, 88, 89, 90, 177, 178, 179, 180, 181, 182, 183, 184, 185, 186, 187, 188, 189, 190, 191, 192, 193, 194, 195, 196, 197, 198, 199, 200] (by decide +kernel) (by decide +kernel)
set_option maxRecDepth 20000 in
theorem gX6_harmful_X6_screenAllBut : GoodIn wsX6_harmful (wsV RX6 144 RX6 yX6_screenAllBut wsX6_screenAllBut) := goodIn_app (goodIn_of _ (by decide +kernel)) ggX6_harmful_X6_screenAllBut
set_option maxRecDepth 20000 in
theorem ggX6_harmful_X6_blockedAfterAdvice : GoodIn wsX6_harmful wsX6_blockedAfterAdvice := goodIn_r _ [94, 95, 96, 97, 98, 99, 100, 101, 102, 103, 104, 105, 106, 107, 108, 109, 110, 111, 112, 113, 8, 114, 36, 115, 116, 117, 3, 118, 29, 31, 119, 120, 121, 122, 27, 123, 124, 125, 30, 126, 127, 128, 129, 130, 131, 132, 133, 134, 135, 88, 89, 44, 90, 50, 136, 137, 138, 139, 51, 140, 141, 142, 143, 144, 145, 146, 147, 148, 149, 150, 151, 26, 152, 153, 154, 155, 156, 157, 158, 159, 160, 52, 53, 54, 55, 56, 57, 58, 59, 60, 61, 62, 63, 64, 65, 66, 67, 68, 69, 70, 71, 72, 73, 74, 161, 162, 163, 164, 165, 166, 81, 82, 83, 84, 85, 86, 177, 178, 179, 180, 181, 182, 183, 184, 185, 186, 187, 201, 167, 168, 169, 170, 171, 172, 173, 174, 175, 176, 193, 194, 202, 203, 195, 196, 197, 198, 199, 200] (by decide +kernel) (by decide +kernel)
set_option maxRecDepth 20000 in
theorem gX6_harmful_X6_blockedAfterAdvice : GoodIn wsX6_harmful (wsV RX6 208 RX6 yX6_blockedAfterAdvice wsX6_blockedAfterAdvice) := goodIn_app (goodIn_of _ (by decide +kernel)) ggX6_harmful_X6_blockedAfterAdvice
set_option maxRecDepth 20000 in
theorem ggX6_harmful_Jx4a65c_size_8abf5 : GoodIn wsX6_harmful wsJx4a65c_size_8abf5 := goodIn_r _ [56, 57, 195, 196, 197] (by decide +kernel) (by decide +kernel)
set_option maxRecDepth 20000 in
theorem gX6_harmful_Jx4a65c_size_8abf5 : GoodIn wsX6_harmful (wsV RX6 67 RJx4a65c yJx4a65c_size_8abf5 wsJx4a65c_size_8abf5) := goodIn_app (goodIn_of _ (by decide +kernel)) ggX6_harmful_Jx4a65c_size_8abf5
set_option maxRecDepth 20000 in
theorem ggX6_mean_X1_sum : GoodIn wsX6_mean wsX1_sum := goodIn_r _ [8, 9, 10, 11, 12, 13, 14, 15, 16, 17, 18, 19, 7, 20, 21, 33, 34, 35, 36] (by decide +kernel) (by decide +kernel)
set_option maxRecDepth 20000 in
theorem gX6_mean_X1_sum : GoodIn wsX6_mean (wsV RX6 118 RX1 yX1_sum wsX1_sum) := goodIn_app (goodIn_of _ (by decide +kernel)) ggX6_mean_X1_sum
set_option maxRecDepth 20000 in
theorem ggX6_digest_X6_count : GoodIn wsX6_digest wsX6_count := goodIn_ca (goodIn_r _ [10, 3, 4, 5, 11, 12, 13, 14, 15, 16, 17, 18, 9, 19, 20, 21, 22, 23, 24, 25, 26, 27, 28, 29, 30, 31, 32, 33, 34, 35, 36, 37, 38, 39, 40, 41, 42, 43, 44, 45, 46, 47, 48, 49, 50, 51, 52, 53, 54, 55, 56, 57, 58, 59, 60, 61, 62, 63, 64, 65, 66, 67, 68, 69, 70, 71, 72, 73, 74, 75, 76, 77, 78, 79, 80, 99, 100, 101, 102, 103, 104, 105, 106, 107, 108, 109, 110, 111, 112, 113, 114, 115, 116, 117, 118] (by decide +kernel) (by decide +kernel)) (goodIn_sub (fun _ h => List.mem_cons_of_mem _ (List.mem_append_right _ h)) (by decide +kernel))
set_option maxRecDepth 20000 in
theorem gX6_digest_X6_count : GoodIn wsX6_digest (wsV RX6 218 RX6 yX6_count wsX6_count) := goodIn_app (goodIn_of _ (by decide +kernel)) ggX6_digest_X6_count
set_option maxRecDepth 20000 in
theorem ggX6_digest_Jx4a65c_size_8abf5 : GoodIn wsX6_digest wsJx4a65c_size_8abf5 := goodIn_r _ [26, 27, 110, 111, 112] (by decide +kernel) (by decide +kernel)
set_option maxRecDepth 20000 in
theorem gX6_digest_Jx4a65c_size_8abf5 : GoodIn wsX6_digest (wsV RX6 67 RJx4a65c yJx4a65c_size_8abf5 wsJx4a65c_size_8abf5) := goodIn_app (goodIn_of _ (by decide +kernel)) ggX6_digest_Jx4a65c_size_8abf5
set_option maxRecDepth 20000 in
theorem ggX6_digest_X6_about : GoodIn wsX6_digest wsX6_about := goodIn_ca (goodIn_r _ [84, 3, 85, 86, 87, 88, 89, 90, 91, 92, 5, 22, 23, 24, 25, 26, 27, 17, 18, 9, 19, 20, 21, 60, 61, 62, 63, 64, 65, 66, 67, 68, 69, 70, 71, 72, 73, 74, 75, 76, 28, 29, 30, 31, 32, 33, 34, 35, 36, 37, 38, 39, 40, 41, 42, 43, 44, 45, 99, 100, 101, 102, 103, 104, 105, 106, 107, 108, 109, 119, 120, 121, 122, 123, 113, 114, 115, 110, 111, 112, 116] (by decide +kernel) (by decide +kernel)) (goodIn_sub (fun _ h => List.mem_cons_of_mem _ (List.mem_append_right _ h)) (by decide +kernel))
set_option maxRecDepth 20000 in
theorem gX6_digest_X6_about : GoodIn wsX6_digest (wsV RX6 221 RX6 yX6_about wsX6_about) := goodIn_app (goodIn_of _ (by decide +kernel)) ggX6_digest_X6_about
set_option maxRecDepth 20000 in
theorem ggX6_digest_X6_told : GoodIn wsX6_digest wsX6_told := goodIn_ca (goodIn_r _ [96, 4, 58, 59, 90, 97, 5, 15, 22, 23, 24, 25, 26, 27, 17, 18, 9, 19, 20, 21, 60, 61, 62, 63, 64, 65, 66, 67, 68, 69, 70, 71, 72, 73, 74, 75, 76, 77, 78, 79, 31, 80, 33, 34, 35, 36, 37, 38, 39, 40, 41, 42, 43, 44, 45, 28, 29, 30, 32, 46, 47, 48, 49, 50, 51, 52, 53, 99, 100, 101, 102, 103, 104, 105, 106, 107, 108, 109, 117, 118, 113, 114, 115, 110, 111, 112, 116] (by decide +kernel) (by decide +kernel)) (goodIn_sub (fun _ h => List.mem_cons_of_mem _ (List.mem_append_right _ h)) (by decide +kernel))
set_option maxRecDepth 20000 in
theorem gX6_digest_X6_told : GoodIn wsX6_digest (wsV RX6 224 RX6 yX6_told wsX6_told) := goodIn_app (goodIn_of _ (by decide +kernel)) ggX6_digest_X6_told
set_option maxRecDepth 20000 in
theorem ggX6_digest_X1_depth : GoodIn wsX6_digest wsX1_depth := goodIn_r _ [44, 45, 116] (by decide +kernel) (by decide +kernel)
set_option maxRecDepth 20000 in
theorem gX6_digest_X1_depth : GoodIn wsX6_digest (wsV RX6 122 RX1 yX1_depth wsX1_depth) := goodIn_app (goodIn_of _ (by decide +kernel)) ggX6_digest_X1_depth
set_option maxRecDepth 20000 in
theorem ggX6_needWind_X6_needIndex : GoodIn wsX6_needWind wsX6_needIndex := goodIn_ca (goodIn_r _ [4, 5, 6] (by decide +kernel) (by decide +kernel)) (goodIn_sub (fun _ h => List.mem_cons_of_mem _ (List.mem_append_right _ h)) (by decide +kernel))
set_option maxRecDepth 20000 in
theorem gX6_needWind_X6_needIndex : GoodIn wsX6_needWind (va_wsS RX6 63 yX6_needIndex wsX6_needIndex) := goodIn_app (goodIn_of _ (by decide +kernel)) ggX6_needWind_X6_needIndex
set_option maxRecDepth 20000 in
theorem ggX6_straight_X4_init : GoodIn wsX6_straight wsX4_init := goodIn_r _ [6, 7, 8, 9, 10, 11, 12, 13, 14, 15] (by decide +kernel) (by decide +kernel)
set_option maxRecDepth 20000 in
theorem gX6_straight_X4_init : GoodIn wsX6_straight (wsX4_init) := ggX6_straight_X4_init
set_option maxRecDepth 20000 in
theorem ggX6_screenAllBut_X3_clear : GoodIn wsX6_screenAllBut wsX3_clear := goodIn_r _ [11, 12, 13, 14, 10, 15, 16, 17, 73, 74] (by decide +kernel) (by decide +kernel)
set_option maxRecDepth 20000 in
theorem gX6_screenAllBut_X3_clear : GoodIn wsX6_screenAllBut (wsV RX6 240 RX3 yX3_clear wsX3_clear) := goodIn_app (goodIn_of _ (by decide +kernel)) ggX6_screenAllBut_X3_clear
set_option maxRecDepth 20000 in
theorem ggX6_screenAllBut_Jx4a65c_size_8abf5 : GoodIn wsX6_screenAllBut wsJx4a65c_size_8abf5 := goodIn_r _ [22, 23, 75, 76, 77] (by decide +kernel) (by decide +kernel)
set_option maxRecDepth 20000 in
theorem gX6_screenAllBut_Jx4a65c_size_8abf5 : GoodIn wsX6_screenAllBut (wsV RX6 67 RJx4a65c yJx4a65c_size_8abf5 wsJx4a65c_size_8abf5) := goodIn_app (goodIn_of _ (by decide +kernel)) ggX6_screenAllBut_Jx4a65c_size_8abf5
set_option maxRecDepth 20000 in
theorem ggX6_screenAllBut_Jx4a65c_get_915e3 : GoodIn wsX6_screenAllBut wsJx4a65c_get_915e3 := goodIn_r _ [27, 23, 28, 29, 30, 31, 32, 33, 34, 35, 36, 37, 38, 21, 39, 40, 75, 76, 77] (by decide +kernel) (by decide +kernel)
set_option maxRecDepth 20000 in
theorem gX6_screenAllBut_Jx4a65c_get_915e3 : GoodIn wsX6_screenAllBut (wsV RX6 85 RJx4a65c yJx4a65c_get_915e3 wsJx4a65c_get_915e3) := goodIn_app (goodIn_of _ (by decide +kernel)) ggX6_screenAllBut_Jx4a65c_get_915e3
set_option maxRecDepth 20000 in
theorem ggX6_screenAllBut_X3_add : GoodIn wsX6_screenAllBut wsX3_add := goodIn_r _ [44, 45, 46, 47, 48, 49, 50, 51, 52, 53, 54, 55, 10, 56, 16, 12, 13, 14, 15, 17, 78, 79, 80, 73, 74] (by decide +kernel) (by decide +kernel)
set_option maxRecDepth 20000 in
theorem gX6_screenAllBut_X3_add : GoodIn wsX6_screenAllBut (wsV RX6 205 RX3 yX3_add wsX3_add) := goodIn_app (goodIn_of _ (by decide +kernel)) ggX6_screenAllBut_X3_add
set_option maxRecDepth 20000 in
theorem ggX6_blowOver_X5_crossField : GoodIn wsX6_blowOver wsX5_crossField := goodIn_r _ [6, 7, 8, 9, 10, 11, 5, 12, 13, 14, 15, 16, 17, 18, 19, 20, 21, 22, 23, 24, 25, 26, 27, 28, 29, 30, 31, 32, 33, 34, 35, 36, 37, 38, 39, 40, 41, 42, 43, 44, 45, 46, 47, 48, 49, 50, 51, 52, 53, 54, 55, 56, 57, 58, 59, 71, 72, 73, 74, 75, 76, 77, 78, 79, 80, 81, 82, 83] (by decide +kernel) (by decide +kernel)
end
section
set_option maxRecDepth 20000 in
theorem gX6_blowOver_X5_crossField : GoodIn wsX6_blowOver (wsV RX6 242 RX5 yX5_crossField wsX5_crossField) := goodIn_app (goodIn_of _ (by decide +kernel)) ggX6_blowOver_X5_crossField
set_option maxRecDepth 20000 in
theorem ggX6_blockedAfterAdvice_X1_becomeLike : GoodIn wsX6_blockedAfterAdvice wsX1_becomeLike := goodIn_r _ [7, 8, 9, 10, 6, 11, 12, 13, 14, 15, 16, 127] (by decide +kernel) (by decide +kernel)
set_option maxRecDepth 20000 in
theorem gX6_blockedAfterAdvice_X1_becomeLike : GoodIn wsX6_blockedAfterAdvice (wsV RX6 200 RX1 yX1_becomeLike wsX1_becomeLike) := goodIn_app (goodIn_of _ (by decide +kernel)) ggX6_blockedAfterAdvice_X1_becomeLike
set_option maxRecDepth 20000 in
theorem ggX6_blockedAfterAdvice_X6_blowOver : GoodIn wsX6_blockedAfterAdvice wsX6_blowOver := goodIn_r _ [21, 22, 23, 24, 25, 26, 27, 28, 29, 30, 31, 32, 33, 34, 35, 36, 37, 38, 39, 40, 41, 42, 43, 44, 45, 46, 47, 48, 49, 50, 51, 52, 53, 54, 55, 56, 57, 58, 59, 9, 10, 6, 11, 12, 60, 61, 62, 63, 64, 65, 66, 67, 68, 69, 70, 71, 72, 14, 15, 16, 116, 117, 118, 119, 120, 121, 122, 123, 124, 125, 126, 128, 129, 130, 131, 132, 133, 134, 135, 136, 137, 138, 139, 127] (by decide +kernel) (by decide +kernel)
set_option maxRecDepth 20000 in
theorem gX6_blockedAfterAdvice_X6_blowOver : GoodIn wsX6_blockedAfterAdvice (wsV RX6 152 RX6 yX6_blowOver wsX6_blowOver) := goodIn_app (goodIn_of _ (by decide +kernel)) ggX6_blockedAfterAdvice_X6_blowOver
set_option maxRecDepth 20000 in
theorem ggX6_blockedAfterAdvice_X6_blockedOnRoads : GoodIn wsX6_blockedAfterAdvice wsX6_blockedOnRoads := goodIn_r _ [76, 77, 78, 79, 80, 81, 82, 83, 84, 85, 86, 87, 88, 89, 90, 91, 92, 93, 94, 95, 96, 97, 98, 99, 100, 101, 102, 103, 104, 105, 106, 6, 107, 108, 109, 110, 111, 112, 113, 114, 115, 8, 9, 10, 11, 12, 116, 117, 118, 119, 120, 121, 122, 123, 124, 125, 126, 140, 141, 142, 143, 144, 145, 146, 147, 127] (by decide +kernel) (by decide +kernel)
set_option maxRecDepth 20000 in
theorem gX6_blockedAfterAdvice_X6_blockedOnRoads : GoodIn wsX6_blockedAfterAdvice (wsV RX6 196 RX6 yX6_blockedOnRoads wsX6_blockedOnRoads) := goodIn_app (goodIn_of _ (by decide +kernel)) ggX6_blockedAfterAdvice_X6_blockedOnRoads
set_option maxRecDepth 20000 in
theorem ggX6_blockedOnRoads_Jx4a65c_size_8abf5 : GoodIn wsX6_blockedOnRoads wsJx4a65c_size_8abf5 := goodIn_r _ [9, 10, 59, 60, 61] (by decide +kernel) (by decide +kernel)
set_option maxRecDepth 20000 in
theorem gX6_blockedOnRoads_Jx4a65c_size_8abf5 : GoodIn wsX6_blockedOnRoads (wsV RX6 67 RJx4a65c yJx4a65c_size_8abf5 wsJx4a65c_size_8abf5) := goodIn_app (goodIn_of _ (by decide +kernel)) ggX6_blockedOnRoads_Jx4a65c_size_8abf5
set_option maxRecDepth 20000 in
theorem ggX6_blockedOnRoads_Jx4a65c_get_915e3 : GoodIn wsX6_blockedOnRoads wsJx4a65c_get_915e3 := goodIn_r _ [14, 10, 15, 16, 17, 18, 19, 20, 21, 22, 23, 24, 25, 8, 26, 27, 59, 60, 61] (by decide +kernel) (by decide +kernel)
set_option maxRecDepth 20000 in
theorem gX6_blockedOnRoads_Jx4a65c_get_915e3 : GoodIn wsX6_blockedOnRoads (wsV RX6 85 RJx4a65c yJx4a65c_get_915e3 wsJx4a65c_get_915e3) := goodIn_app (goodIn_of _ (by decide +kernel)) ggX6_blockedOnRoads_Jx4a65c_get_915e3
set_option maxRecDepth 20000 in
theorem ggX6_blockedOnRoads_X1_blocked : GoodIn wsX6_blockedOnRoads wsX1_blocked := goodIn_r _ [32, 33, 34, 35, 36, 37, 38, 39, 40, 41, 42, 43, 31, 44, 45, 62, 63, 64, 65] (by decide +kernel) (by decide +kernel)
set_option maxRecDepth 20000 in
theorem gX6_blockedOnRoads_X1_blocked : GoodIn wsX6_blockedOnRoads (wsV RX6 189 RX1 yX1_blocked wsX1_blocked) := goodIn_app (goodIn_of _ (by decide +kernel)) ggX6_blockedOnRoads_X1_blocked
set_option maxRecDepth 20000 in
theorem ggX7_copy_X7_init : GoodIn wsX7_copy wsX7_init := goodIn_r _ [17, 18, 19, 20, 12, 4, 5, 21, 22, 6, 13, 23, 24, 25, 26, 27, 28, 29, 30] (by decide +kernel) (by decide +kernel)
set_option maxRecDepth 20000 in
theorem gX7_copy_X7_init : GoodIn wsX7_copy (wsX7_init) := ggX7_copy_X7_init
set_option maxRecDepth 20000 in
theorem ggX7_highest_X7_isOn : GoodIn wsX7_highest wsX7_isOn := goodIn_r _ [6] (by decide +kernel) (by decide +kernel)
set_option maxRecDepth 20000 in
theorem gX7_highest_X7_isOn : GoodIn wsX7_highest (va_wsS RX7 34 yX7_isOn wsX7_isOn) := goodIn_app (goodIn_of _ (by decide +kernel)) ggX7_highest_X7_isOn
set_option maxRecDepth 20000 in
theorem ggX7_hour_X7_spot : GoodIn wsX7_hour wsX7_spot := goodIn_r _ [8, 1] (by decide +kernel) (by decide +kernel)
set_option maxRecDepth 20000 in
theorem gX7_hour_X7_spot : GoodIn wsX7_hour (va_wsS RX7 44 yX7_spot wsX7_spot) := goodIn_app (goodIn_of _ (by decide +kernel)) ggX7_hour_X7_spot
set_option maxRecDepth 20000 in
theorem ggX7_hour_X7_highest : GoodIn wsX7_hour wsX7_highest := goodIn_r _ [12, 1, 13, 14, 15, 7, 16, 24, 25, 26, 27, 28, 29, 30, 31] (by decide +kernel) (by decide +kernel)
set_option maxRecDepth 20000 in
theorem gX7_hour_X7_highest : GoodIn wsX7_hour (wsV RX7 48 RX7 yX7_highest wsX7_highest) := goodIn_app (goodIn_of _ (by decide +kernel)) ggX7_hour_X7_highest
set_option maxRecDepth 20000 in
theorem ggX7_hour_X7_over : GoodIn wsX7_hour wsX7_over := goodIn_r _ [19, 1, 20, 21, 22, 23] (by decide +kernel) (by decide +kernel)
set_option maxRecDepth 20000 in
theorem gX7_hour_X7_over : GoodIn wsX7_hour (va_wsS RX7 52 yX7_over wsX7_over) := goodIn_app (goodIn_of _ (by decide +kernel)) ggX7_hour_X7_over
set_option maxRecDepth 20000 in
theorem ggX7_blow_X7_hour : GoodIn wsX7_blow wsX7_hour := goodIn_r _ [7, 8, 9, 10, 11, 12, 13, 6, 14, 15, 16, 17, 18, 19, 20, 21, 22, 23, 24, 25, 26, 27, 28, 29, 30, 31, 32, 33, 34, 35, 36, 37] (by decide +kernel) (by decide +kernel)
set_option maxRecDepth 20000 in
theorem gX7_blow_X7_hour : GoodIn wsX7_blow (wsV RX7 56 RX7 yX7_hour wsX7_hour) := goodIn_app (goodIn_of _ (by decide +kernel)) ggX7_blow_X7_hour
set_option maxRecDepth 20000 in
theorem ggX7_blocked_X7_on : GoodIn wsX7_blocked wsX7_on := goodIn_r _ [6, 7, 8, 9, 10, 11, 12, 13, 14, 15] (by decide +kernel) (by decide +kernel)
set_option maxRecDepth 20000 in
theorem gX7_blocked_X7_on : GoodIn wsX7_blocked (wsV RX7 65 RX7 yX7_on wsX7_on) := goodIn_app (goodIn_of _ (by decide +kernel)) ggX7_blocked_X7_on
set_option maxRecDepth 20000 in
theorem ggX7_allBlocked_X7_blocked : GoodIn wsX7_allBlocked wsX7_blocked := goodIn_r _ [6, 7, 8, 9, 10, 5, 11, 12, 13, 14, 15, 16, 17, 18, 19, 20] (by decide +kernel) (by decide +kernel)
set_option maxRecDepth 20000 in
theorem gX7_allBlocked_X7_blocked : GoodIn wsX7_allBlocked (wsV RX7 69 RX7 yX7_blocked wsX7_blocked) := goodIn_app (goodIn_of _ (by decide +kernel)) ggX7_allBlocked_X7_blocked
set_option maxRecDepth 20000 in
theorem ggX7_tried_X7_copy : GoodIn wsX7_tried wsX7_copy := goodIn_r _ [6, 7, 8, 5, 1, 9, 10, 11, 12, 13, 14, 15, 16, 17, 18, 19, 20, 21, 22, 23, 24, 25, 26, 66, 67, 68, 69, 70, 71, 72, 73] (by decide +kernel) (by decide +kernel)
set_option maxRecDepth 20000 in
theorem gX7_tried_X7_copy : GoodIn wsX7_tried (wsV RX7 73 RX7 yX7_copy wsX7_copy) := goodIn_app (goodIn_of _ (by decide +kernel)) ggX7_tried_X7_copy
set_option maxRecDepth 20000 in
theorem ggX7_tried_X7_blow : GoodIn wsX7_tried wsX7_blow := goodIn_r _ [30, 31, 32, 33, 34, 35, 5, 36, 26, 16, 10, 18, 37, 38, 39, 40, 41, 42, 43, 1, 44, 45, 46, 47, 48, 49, 50, 51, 52, 53, 66, 67, 68, 69, 70, 71, 72, 73] (by decide +kernel) (by decide +kernel)
set_option maxRecDepth 20000 in
theorem gX7_tried_X7_blow : GoodIn wsX7_tried (wsV RX7 77 RX7 yX7_blow wsX7_blow) := goodIn_app (goodIn_of _ (by decide +kernel)) ggX7_tried_X7_blow
set_option maxRecDepth 20000 in
theorem ggX7_tried_X7_allBlocked : GoodIn wsX7_tried wsX7_allBlocked := goodIn_r _ [57, 9, 58, 59, 60, 5, 61, 17, 62, 63, 64, 65, 10, 66, 67, 68, 69, 70, 71, 72, 73] (by decide +kernel) (by decide +kernel)
set_option maxRecDepth 20000 in
theorem gX7_tried_X7_allBlocked : GoodIn wsX7_tried (wsV RX7 81 RX7 yX7_allBlocked wsX7_allBlocked) := goodIn_app (goodIn_of _ (by decide +kernel)) ggX7_tried_X7_allBlocked
set_option maxRecDepth 20000 in
theorem ggX7_isSame_X6_snow : GoodIn wsX7_isSame wsX6_snow := goodIn_ca (goodIn_r _ [19, 20, 21, 22, 18, 23, 24, 25, 26, 27, 28, 29, 30, 31, 141, 142, 143, 144, 145, 146, 147, 148, 149, 150, 151, 152] (by decide +kernel) (by decide +kernel)) (goodIn_sub (fun _ h => List.mem_cons_of_mem _ (List.mem_append_right _ h)) (by decide +kernel))
set_option maxRecDepth 20000 in
theorem gX7_isSame_X6_snow : GoodIn wsX7_isSame (wsV RX7 85 RX6 yX6_snow wsX6_snow) := goodIn_app (goodIn_of _ (by decide +kernel)) ggX7_isSame_X6_snow
set_option maxRecDepth 20000 in
theorem ggX7_isSame_X7_isOn : GoodIn wsX7_isSame wsX7_isOn := goodIn_r _ [35] (by decide +kernel) (by decide +kernel)
set_option maxRecDepth 20000 in
theorem gX7_isSame_X7_isOn : GoodIn wsX7_isSame (va_wsS RX7 34 yX7_isOn wsX7_isOn) := goodIn_app (goodIn_of _ (by decide +kernel)) ggX7_isSame_X7_isOn
set_option maxRecDepth 20000 in
theorem ggX7_isSame_X6_about : GoodIn wsX7_isSame wsX6_about := goodIn_ca (goodIn_r _ [39, 40, 41, 42, 43, 44, 45, 46, 47, 48, 20, 49, 50, 51, 52, 53, 54, 21, 22, 18, 23, 24, 25, 55, 56, 57, 58, 59, 60, 61, 62, 63, 64, 65, 66, 67, 68, 69, 70, 71, 72, 73, 74, 29, 75, 76, 77, 78, 79, 80, 81, 82, 83, 84, 27, 28, 30, 31, 141, 142, 143, 144, 145, 146, 147, 148, 149, 150, 151, 153, 154, 155, 156, 157, 158, 159, 160, 161, 162, 163, 152] (by decide +kernel) (by decide +kernel)) (goodIn_sub (fun _ h => List.mem_cons_of_mem _ (List.mem_append_right _ h)) (by decide +kernel))
set_option maxRecDepth 20000 in
theorem gX7_isSame_X6_about : GoodIn wsX7_isSame (wsV RX7 89 RX6 yX6_about wsX6_about) := goodIn_app (goodIn_of _ (by decide +kernel)) ggX7_isSame_X6_about
set_option maxRecDepth 20000 in
theorem ggX7_isSame_X7_on : GoodIn wsX7_isSame wsX7_on := goodIn_r _ [88, 1, 133, 134, 135, 136, 137, 138, 139, 140] (by decide +kernel) (by decide +kernel)
set_option maxRecDepth 20000 in
theorem gX7_isSame_X7_on : GoodIn wsX7_isSame (wsV RX7 65 RX7 yX7_on wsX7_on) := goodIn_app (goodIn_of _ (by decide +kernel)) ggX7_isSame_X7_on
set_option maxRecDepth 20000 in
theorem ggX7_isSame_X7_blocked : GoodIn wsX7_isSame wsX7_blocked := goodIn_r _ [92, 12, 85, 86, 87, 34, 88, 1, 133, 134, 135, 136, 137, 138, 139, 140] (by decide +kernel) (by decide +kernel)
set_option maxRecDepth 20000 in
theorem gX7_isSame_X7_blocked : GoodIn wsX7_isSame (wsV RX7 69 RX7 yX7_blocked wsX7_blocked) := goodIn_app (goodIn_of _ (by decide +kernel)) ggX7_isSame_X7_blocked
set_option maxRecDepth 20000 in
theorem ggX7_isSame_X6_told : GoodIn wsX7_isSame wsX6_told := goodIn_ca (goodIn_r _ [96, 97, 98, 99, 46, 100, 20, 101, 49, 50, 51, 52, 53, 54, 21, 22, 18, 23, 24, 25, 55, 56, 57, 58, 59, 60, 61, 62, 63, 64, 65, 66, 67, 68, 69, 70, 71, 102, 103, 104, 29, 105, 76, 77, 78, 79, 80, 81, 82, 83, 84, 27, 28, 30, 31, 72, 73, 74, 75, 106, 107, 108, 109, 110, 3, 4, 5, 141, 142, 143, 144, 145, 146, 147, 148, 149, 150, 151, 164, 165, 158, 159, 160, 161, 162, 163, 152] (by decide +kernel) (by decide +kernel)) (goodIn_sub (fun _ h => List.mem_cons_of_mem _ (List.mem_append_right _ h)) (by decide +kernel))
set_option maxRecDepth 20000 in
theorem gX7_isSame_X6_told : GoodIn wsX7_isSame (wsV RX7 92 RX6 yX6_told wsX6_told) := goodIn_app (goodIn_of _ (by decide +kernel)) ggX7_isSame_X6_told
set_option maxRecDepth 20000 in
theorem ggX7_isSame_X7_allBlocked : GoodIn wsX7_isSame wsX7_allBlocked := goodIn_r _ [114, 7, 89, 90, 91, 34, 92, 12, 85, 86, 87, 88, 1, 133, 134, 135, 136, 137, 138, 139, 140] (by decide +kernel) (by decide +kernel)
set_option maxRecDepth 20000 in
theorem gX7_isSame_X7_allBlocked : GoodIn wsX7_isSame (wsV RX7 81 RX7 yX7_allBlocked wsX7_allBlocked) := goodIn_app (goodIn_of _ (by decide +kernel)) ggX7_isSame_X7_allBlocked
set_option maxRecDepth 20000 in
theorem ggX7_isSame_X6_count : GoodIn wsX7_isSame wsX6_count := goodIn_ca (goodIn_r _ [118, 40, 97, 20, 119, 120, 121, 122, 101, 123, 21, 22, 18, 23, 24, 25, 49, 50, 51, 52, 53, 54, 72, 73, 74, 29, 75, 76, 77, 78, 79, 80, 81, 82, 83, 84, 27, 28, 30, 31, 106, 107, 108, 109, 110, 3, 4, 5, 124, 125, 126, 127, 98, 99, 55, 56, 57, 58, 59, 60, 61, 62, 63, 64, 65, 66, 67, 68, 69, 70, 71, 102, 103, 104, 105, 141, 142, 143, 144, 145, 146, 147, 148, 149, 150, 151, 161, 162, 163, 158, 159, 160, 152, 164, 165] (by decide +kernel) (by decide +kernel)) (goodIn_sub (fun _ h => List.mem_cons_of_mem _ (List.mem_append_right _ h)) (by decide +kernel))
set_option maxRecDepth 20000 in
theorem gX7_isSame_X6_count : GoodIn wsX7_isSame (wsV RX7 98 RX6 yX6_count wsX6_count) := goodIn_app (goodIn_of _ (by decide +kernel)) ggX7_isSame_X6_count
set_option maxRecDepth 20000 in
theorem ggX7_isSame_X6_mean : GoodIn wsX7_isSame wsX6_mean := goodIn_r _ [131, 20, 119, 132, 72, 73, 74, 29, 75, 76, 77, 78, 79, 80, 81, 82, 83, 84, 27, 28, 30, 31, 141, 142, 143, 144, 145, 146, 147, 148, 149, 150, 151, 158, 159, 160, 152] (by decide +kernel) (by decide +kernel)
set_option maxRecDepth 20000 in
theorem gX7_isSame_X6_mean : GoodIn wsX7_isSame (wsV RX7 102 RX6 yX6_mean wsX6_mean) := goodIn_app (goodIn_of _ (by decide +kernel)) ggX7_isSame_X6_mean
set_option maxRecDepth 20000 in
theorem ggJxc12de_init_da8c8_Jxa1e45_init_da8c8 : GoodIn wsJxc12de_init_da8c8 wsJxa1e45_init_da8c8 := goodIn_r _ [5, 6, 7, 8] (by decide +kernel) (by decide +kernel)
set_option maxRecDepth 20000 in
theorem gJxc12de_init_da8c8_Jxa1e45_init_da8c8 : GoodIn wsJxc12de_init_da8c8 (wsJxa1e45_init_da8c8) := ggJxc12de_init_da8c8_Jxa1e45_init_da8c8
set_option maxRecDepth 20000 in
theorem ggJx4a65c_init_da8c8_Jxc12de_init_da8c8 : GoodIn wsJx4a65c_init_da8c8 wsJxc12de_init_da8c8 := goodIn_r _ [6, 7, 8, 9, 10, 11, 12, 13, 14, 15, 16, 17] (by decide +kernel) (by decide +kernel)
set_option maxRecDepth 20000 in
theorem gJx4a65c_init_da8c8_Jxc12de_init_da8c8 : GoodIn wsJx4a65c_init_da8c8 (wsJxc12de_init_da8c8) := ggJx4a65c_init_da8c8_Jxc12de_init_da8c8
set_option maxRecDepth 20000 in
theorem ggJx4a65c_grow_92f84_J8_newLength_cabcc : GoodIn wsJx4a65c_grow_92f84 wsJ8_newLength_cabcc := goodIn_r _ [11, 12, 4, 5, 6, 13, 14, 15, 10, 16] (by decide +kernel) (by decide +kernel)
set_option maxRecDepth 20000 in
theorem gJx4a65c_grow_92f84_J8_newLength_cabcc : GoodIn wsJx4a65c_grow_92f84 (va_wsS RJx4a65c 73 yJ8_newLength_cabcc wsJ8_newLength_cabcc) := goodIn_app (goodIn_of _ (by decide +kernel)) ggJx4a65c_grow_92f84_J8_newLength_cabcc
set_option maxRecDepth 20000 in
theorem ggJx4a65c_grow_92f84_J7_copyOf_1904c : GoodIn wsJx4a65c_grow_92f84 wsJ7_copyOf_1904c := goodIn_r _ [20, 21, 22, 23, 24, 25, 26, 19, 27, 28, 29, 30, 31, 5, 32, 33, 34, 35, 36] (by decide +kernel) (by decide +kernel)
set_option maxRecDepth 20000 in
theorem gJx4a65c_grow_92f84_J7_copyOf_1904c : GoodIn wsJx4a65c_grow_92f84 (va_wsS RJx4a65c 66 yJ7_copyOf_1904c wsJ7_copyOf_1904c) := goodIn_app (goodIn_of _ (by decide +kernel)) ggJx4a65c_grow_92f84_J7_copyOf_1904c
set_option maxRecDepth 20000 in
theorem ggJx4a65c_grow_d5877_Jx4a65c_grow_92f84 : GoodIn wsJx4a65c_grow_d5877 wsJx4a65c_grow_92f84 := goodIn_r _ [6, 7, 8, 9, 10, 11, 12, 13, 14, 15, 16, 17, 18, 19, 20, 21, 22, 23, 24, 25, 26, 27, 28, 29, 30, 31, 32, 33, 34, 35, 36, 37, 38, 39, 40, 41, 42, 43, 44, 45] (by decide +kernel) (by decide +kernel)
set_option maxRecDepth 20000 in
theorem gJx4a65c_grow_d5877_Jx4a65c_grow_92f84 : GoodIn wsJx4a65c_grow_d5877 (wsV RJx4a65c 69 RJx4a65c yJx4a65c_grow_92f84 wsJx4a65c_grow_92f84) := goodIn_app (goodIn_of _ (by decide +kernel)) ggJx4a65c_grow_d5877_Jx4a65c_grow_92f84
set_option maxRecDepth 20000 in
theorem ggJx4a65c_get_915e3_J15_checkIndex_7cf53 : GoodIn wsJx4a65c_get_915e3 wsJ15_checkIndex_7cf53 := goodIn_r _ [5, 6, 7, 8, 9] (by decide +kernel) (by decide +kernel)
set_option maxRecDepth 20000 in
theorem gJx4a65c_get_915e3_J15_checkIndex_7cf53 : GoodIn wsJx4a65c_get_915e3 (va_wsS RJx4a65c 118 yJ15_checkIndex_7cf53 wsJ15_checkIndex_7cf53) := goodIn_app (goodIn_of _ (by decide +kernel)) ggJx4a65c_get_915e3_J15_checkIndex_7cf53
set_option maxRecDepth 20000 in
theorem ggJx4a65c_get_915e3_Jx4a65c_elementData_915e3 : GoodIn wsJx4a65c_get_915e3 wsJx4a65c_elementData_915e3 := goodIn_r _ [14, 15, 16, 17, 18] (by decide +kernel) (by decide +kernel)
set_option maxRecDepth 20000 in
theorem gJx4a65c_get_915e3_Jx4a65c_elementData_915e3 : GoodIn wsJx4a65c_get_915e3 (wsV RJx4a65c 123 RJx4a65c yJx4a65c_elementData_915e3 wsJx4a65c_elementData_915e3) := goodIn_app (goodIn_of _ (by decide +kernel)) ggJx4a65c_get_915e3_Jx4a65c_elementData_915e3
set_option maxRecDepth 20000 in
theorem ggJx4a65c_add_72be8_Jx4a65c_grow_d5877 : GoodIn wsJx4a65c_add_72be8 wsJx4a65c_grow_d5877 := goodIn_r _ [6, 1, 7, 8, 9, 5, 10, 11, 12, 13, 14, 15, 16, 17, 18, 19, 20, 21, 22, 23, 24, 25, 26, 27, 28, 29, 30, 31, 32, 33, 34, 35, 36, 37, 38, 39, 40, 41, 42, 43, 44, 45, 46, 47, 48, 49] (by decide +kernel) (by decide +kernel)
set_option maxRecDepth 20000 in
theorem gJx4a65c_add_72be8_Jx4a65c_grow_d5877 : GoodIn wsJx4a65c_add_72be8 (wsV RJx4a65c 129 RJx4a65c yJx4a65c_grow_d5877 wsJx4a65c_grow_d5877) := goodIn_app (goodIn_of _ (by decide +kernel)) ggJx4a65c_add_72be8_Jx4a65c_grow_d5877
set_option maxRecDepth 20000 in
theorem ggJx4a65c_add_9ea2d_Jx4a65c_add_72be8 : GoodIn wsJx4a65c_add_9ea2d wsJx4a65c_add_72be8 := goodIn_r _ [9, 4, 10, 11, 12, 8, 13, 14, 15, 16, 17, 3, 18, 19, 20, 21, 22, 23, 24, 25, 26, 27, 28, 29, 30, 31, 32, 33, 34, 35, 36, 37, 38, 39, 40, 41, 42, 43, 44, 45, 46, 47, 48, 49, 50, 51, 52, 53, 54, 55] (by decide +kernel) (by decide +kernel)
set_option maxRecDepth 20000 in
theorem gJx4a65c_add_9ea2d_Jx4a65c_add_72be8 : GoodIn wsJx4a65c_add_9ea2d (wsV RJx4a65c 131 RJx4a65c yJx4a65c_add_72be8 wsJx4a65c_add_72be8) := goodIn_app (goodIn_of _ (by decide +kernel)) ggJx4a65c_add_9ea2d_Jx4a65c_add_72be8
set_option maxRecDepth 20000 in
theorem ggJx4a65c_remove_915e3_J15_checkIndex_7cf53 : GoodIn wsJx4a65c_remove_915e3 wsJ15_checkIndex_7cf53 := goodIn_r _ [6, 7, 8, 9, 10] (by decide +kernel) (by decide +kernel)
set_option maxRecDepth 20000 in
theorem gJx4a65c_remove_915e3_J15_checkIndex_7cf53 : GoodIn wsJx4a65c_remove_915e3 (va_wsS RJx4a65c 118 yJ15_checkIndex_7cf53 wsJ15_checkIndex_7cf53) := goodIn_app (goodIn_of _ (by decide +kernel)) ggJx4a65c_remove_915e3_J15_checkIndex_7cf53
set_option maxRecDepth 20000 in
theorem ggJx4a65c_remove_915e3_Jx4a65c_fastRemove_b59b0 : GoodIn wsJx4a65c_remove_915e3 wsJx4a65c_fastRemove_b59b0 := goodIn_r _ [15, 16, 17, 1, 18, 19, 20, 21, 22, 23, 24] (by decide +kernel) (by decide +kernel)
set_option maxRecDepth 20000 in
theorem gJx4a65c_remove_915e3_Jx4a65c_fastRemove_b59b0 : GoodIn wsJx4a65c_remove_915e3 (wsV RJx4a65c 144 RJx4a65c yJx4a65c_fastRemove_b59b0 wsJx4a65c_fastRemove_b59b0) := goodIn_app (goodIn_of _ (by decide +kernel)) ggJx4a65c_remove_915e3_Jx4a65c_fastRemove_b59b0
set_option maxRecDepth 20000 in
theorem ggJ7_copyOf_1904c_J7_copyOf_6403c : GoodIn wsJ7_copyOf_1904c wsJ7_copyOf_6403c := goodIn_r _ [8, 9, 10, 11, 12, 13, 14, 15, 16, 17, 18] (by decide +kernel) (by decide +kernel)
set_option maxRecDepth 20000 in
theorem gJ7_copyOf_1904c_J7_copyOf_6403c : GoodIn wsJ7_copyOf_1904c (va_wsS RJ7 300 yJ7_copyOf_6403c wsJ7_copyOf_6403c) := goodIn_app (goodIn_of _ (by decide +kernel)) ggJ7_copyOf_1904c_J7_copyOf_6403c
set_option maxRecDepth 20000 in
theorem ggJ15_checkIndex_7cf53_J3_checkIndex_8e157 : GoodIn wsJ15_checkIndex_7cf53 wsJ3_checkIndex_8e157 := goodIn_r _ [4] (by decide +kernel) (by decide +kernel)
set_option maxRecDepth 20000 in
theorem gJ15_checkIndex_7cf53_J3_checkIndex_8e157 : GoodIn wsJ15_checkIndex_7cf53 (va_wsS RJ15 105 yJ3_checkIndex_8e157 wsJ3_checkIndex_8e157) := goodIn_app (goodIn_of _ (by decide +kernel)) ggJ15_checkIndex_7cf53_J3_checkIndex_8e157
set_option maxRecDepth 20000 in
theorem ggJ8_newLength_cabcc_J8_hugeLength_7cf53 : GoodIn wsJ8_newLength_cabcc wsJ8_hugeLength_7cf53 := goodIn_r _ [9, 5] (by decide +kernel) (by decide +kernel)
set_option maxRecDepth 20000 in
theorem gJ8_newLength_cabcc_J8_hugeLength_7cf53 : GoodIn wsJ8_newLength_cabcc (va_wsS RJ8 201 yJ8_hugeLength_7cf53 wsJ8_hugeLength_7cf53) := goodIn_app (goodIn_of _ (by decide +kernel)) ggJ8_newLength_cabcc_J8_hugeLength_7cf53
abbrev vwCl : List vw_C := [(RJx4a65c, TJx4a65c, 3), (RX0, TX0, 5), (RX1, TX1, 1), (RX2, TX2, 2), (RX3, TX3, 2), (RX4, TX4, 3), (RX5, TX5, 10), (RX6, TX6, 11), (RX7, TX7, 8)]
end
section
theorem dX0_init_0 : decode cX0_init 0 = .ok (.aload_n 0, 1) := by decide +kernel
theorem dX0_init_1 : decode cX0_init 1 = .ok (.invokespecial 1, 3) := by decide +kernel
theorem dX0_init_4 : decode cX0_init 4 = .ok (.aload_n 0, 1) := by decide +kernel
theorem dX0_init_5 : decode cX0_init 5 = .ok (.iload_n 1, 1) := by decide +kernel
theorem dX0_init_6 : decode cX0_init 6 = .ok (.putfield 7, 3) := by decide +kernel
theorem dX0_init_9 : decode cX0_init 9 = .ok (.aload_n 0, 1) := by decide +kernel
theorem dX0_init_10 : decode cX0_init 10 = .ok (.iload_n 2, 1) := by decide +kernel
theorem dX0_init_11 : decode cX0_init 11 = .ok (.putfield 13, 3) := by decide +kernel
theorem dX0_init_14 : decode cX0_init 14 = .ok (.aload_n 0, 1) := by decide +kernel
theorem dX0_init_15 : decode cX0_init 15 = .ok (.aload_n 3, 1) := by decide +kernel
theorem dX0_init_16 : decode cX0_init 16 = .ok (.putfield 16, 3) := by decide +kernel
theorem dX0_init_19 : decode cX0_init 19 = .ok (.aload_n 0, 1) := by decide +kernel
theorem dX0_init_20 : decode cX0_init 20 = .ok (.iload 4, 2) := by decide +kernel
theorem dX0_init_22 : decode cX0_init 22 = .ok (.putfield 20, 3) := by decide +kernel
theorem dX0_init_25 : decode cX0_init 25 = .ok (.aload_n 0, 1) := by decide +kernel
theorem dX0_init_26 : decode cX0_init 26 = .ok (.iload 5, 2) := by decide +kernel
theorem dX0_init_28 : decode cX0_init 28 = .ok (.putfield 23, 3) := by decide +kernel
theorem dX0_init_31 : decode cX0_init 31 = .ok (.return_, 1) := by decide +kernel
theorem dX1_init_0 : decode cX1_init 0 = .ok (.aload_n 0, 1) := by decide +kernel
theorem dX1_init_1 : decode cX1_init 1 = .ok (.invokespecial 3, 3) := by decide +kernel
theorem dX1_init_4 : decode cX1_init 4 = .ok (.aload_n 0, 1) := by decide +kernel
theorem dX1_init_5 : decode cX1_init 5 = .ok (.sipush 400, 3) := by decide +kernel
theorem dX1_init_8 : decode cX1_init 8 = .ok (.newarray .int, 2) := by decide +kernel
theorem dX1_init_10 : decode cX1_init 10 = .ok (.putfield 9, 3) := by decide +kernel
theorem dX1_init_13 : decode cX1_init 13 = .ok (.return_, 1) := by decide +kernel
theorem dX1_depth_0 : decode cX1_depth 0 = .ok (.iload_n 1, 1) := by decide +kernel
theorem dX1_depth_1 : decode cX1_depth 1 = .ok (.ifCond .lt 21, 3) := by decide +kernel
theorem dX1_depth_4 : decode cX1_depth 4 = .ok (.iload_n 1, 1) := by decide +kernel
theorem dX1_depth_5 : decode cX1_depth 5 = .ok (.aload_n 0, 1) := by decide +kernel
theorem dX1_depth_6 : decode cX1_depth 6 = .ok (.getfield 9, 3) := by decide +kernel
theorem dX1_depth_9 : decode cX1_depth 9 = .ok (.arraylength, 1) := by decide +kernel
theorem dX1_depth_10 : decode cX1_depth 10 = .ok (.if_icmp .ge 12, 3) := by decide +kernel
theorem dX1_depth_13 : decode cX1_depth 13 = .ok (.aload_n 0, 1) := by decide +kernel
theorem dX1_depth_14 : decode cX1_depth 14 = .ok (.getfield 9, 3) := by decide +kernel
theorem dX1_depth_17 : decode cX1_depth 17 = .ok (.iload_n 1, 1) := by decide +kernel
theorem dX1_depth_18 : decode cX1_depth 18 = .ok (.iaload, 1) := by decide +kernel
theorem dX1_depth_19 : decode cX1_depth 19 = .ok (.goto 4, 3) := by decide +kernel
theorem dX1_depth_22 : decode cX1_depth 22 = .ok (.iconst 0, 1) := by decide +kernel
theorem dX1_depth_23 : decode cX1_depth 23 = .ok (.ireturn, 1) := by decide +kernel
theorem dX1_put_0 : decode cX1_put 0 = .ok (.iload_n 1, 1) := by decide +kernel
theorem dX1_put_1 : decode cX1_put 1 = .ok (.ifCond .lt 19, 3) := by decide +kernel
theorem dX1_put_4 : decode cX1_put 4 = .ok (.iload_n 1, 1) := by decide +kernel
theorem dX1_put_5 : decode cX1_put 5 = .ok (.aload_n 0, 1) := by decide +kernel
theorem dX1_put_6 : decode cX1_put 6 = .ok (.getfield 9, 3) := by decide +kernel
theorem dX1_put_9 : decode cX1_put 9 = .ok (.arraylength, 1) := by decide +kernel
theorem dX1_put_10 : decode cX1_put 10 = .ok (.if_icmp .ge 10, 3) := by decide +kernel
theorem dX1_put_13 : decode cX1_put 13 = .ok (.aload_n 0, 1) := by decide +kernel
theorem dX1_put_14 : decode cX1_put 14 = .ok (.getfield 9, 3) := by decide +kernel
theorem dX1_put_17 : decode cX1_put 17 = .ok (.iload_n 1, 1) := by decide +kernel
theorem dX1_put_18 : decode cX1_put 18 = .ok (.iload_n 2, 1) := by decide +kernel
theorem dX1_put_19 : decode cX1_put 19 = .ok (.iastore, 1) := by decide +kernel
theorem dX1_put_20 : decode cX1_put 20 = .ok (.return_, 1) := by decide +kernel
theorem dX1_becomeLike_0 : decode cX1_becomeLike 0 = .ok (.iconst 0, 1) := by decide +kernel
theorem dX1_becomeLike_1 : decode cX1_becomeLike 1 = .ok (.istore_n 2, 1) := by decide +kernel
theorem dX1_becomeLike_2 : decode cX1_becomeLike 2 = .ok (.iload_n 2, 1) := by decide +kernel
theorem dX1_becomeLike_3 : decode cX1_becomeLike 3 = .ok (.sipush 400, 3) := by decide +kernel
theorem dX1_becomeLike_6 : decode cX1_becomeLike 6 = .ok (.if_icmp .ge 19, 3) := by decide +kernel
theorem dX1_becomeLike_9 : decode cX1_becomeLike 9 = .ok (.aload_n 0, 1) := by decide +kernel
theorem dX1_becomeLike_10 : decode cX1_becomeLike 10 = .ok (.iload_n 2, 1) := by decide +kernel
theorem dX1_becomeLike_11 : decode cX1_becomeLike 11 = .ok (.aload_n 1, 1) := by decide +kernel
theorem dX1_becomeLike_12 : decode cX1_becomeLike 12 = .ok (.iload_n 2, 1) := by decide +kernel
theorem dX1_becomeLike_13 : decode cX1_becomeLike 13 = .ok (.invokevirtual 15, 3) := by decide +kernel
theorem dX1_becomeLike_16 : decode cX1_becomeLike 16 = .ok (.invokevirtual 19, 3) := by decide +kernel
theorem dX1_becomeLike_19 : decode cX1_becomeLike 19 = .ok (.iinc 2 1, 3) := by decide +kernel
theorem dX1_becomeLike_22 : decode cX1_becomeLike 22 = .ok (.goto (-20), 3) := by decide +kernel
theorem dX1_becomeLike_25 : decode cX1_becomeLike 25 = .ok (.return_, 1) := by decide +kernel
theorem dX1_clear_0 : decode cX1_clear 0 = .ok (.iconst 0, 1) := by decide +kernel
theorem dX1_clear_1 : decode cX1_clear 1 = .ok (.istore_n 2, 1) := by decide +kernel
theorem dX1_clear_2 : decode cX1_clear 2 = .ok (.iload_n 2, 1) := by decide +kernel
theorem dX1_clear_3 : decode cX1_clear 3 = .ok (.aload_n 1, 1) := by decide +kernel
theorem dX1_clear_4 : decode cX1_clear 4 = .ok (.getfield 23, 3) := by decide +kernel
theorem dX1_clear_7 : decode cX1_clear 7 = .ok (.if_icmp .ge 19, 3) := by decide +kernel
theorem dX1_clear_10 : decode cX1_clear 10 = .ok (.aload_n 0, 1) := by decide +kernel
theorem dX1_clear_11 : decode cX1_clear 11 = .ok (.aload_n 1, 1) := by decide +kernel
theorem dX1_clear_12 : decode cX1_clear 12 = .ok (.iload_n 2, 1) := by decide +kernel
theorem dX1_clear_13 : decode cX1_clear 13 = .ok (.invokevirtual 29, 3) := by decide +kernel
theorem dX1_clear_16 : decode cX1_clear 16 = .ok (.iconst 0, 1) := by decide +kernel
theorem dX1_clear_17 : decode cX1_clear 17 = .ok (.invokevirtual 19, 3) := by decide +kernel
theorem dX1_clear_20 : decode cX1_clear 20 = .ok (.iinc 2 1, 3) := by decide +kernel
theorem dX1_clear_23 : decode cX1_clear 23 = .ok (.goto (-21), 3) := by decide +kernel
theorem dX1_clear_26 : decode cX1_clear 26 = .ok (.return_, 1) := by decide +kernel
theorem dX1_sum_0 : decode cX1_sum 0 = .ok (.iconst 0, 1) := by decide +kernel
theorem dX1_sum_1 : decode cX1_sum 1 = .ok (.istore_n 2, 1) := by decide +kernel
theorem dX1_sum_2 : decode cX1_sum 2 = .ok (.iconst 0, 1) := by decide +kernel
theorem dX1_sum_3 : decode cX1_sum 3 = .ok (.istore_n 3, 1) := by decide +kernel
theorem dX1_sum_4 : decode cX1_sum 4 = .ok (.iload_n 3, 1) := by decide +kernel
theorem dX1_sum_5 : decode cX1_sum 5 = .ok (.aload_n 1, 1) := by decide +kernel
theorem dX1_sum_6 : decode cX1_sum 6 = .ok (.getfield 23, 3) := by decide +kernel
theorem dX1_sum_9 : decode cX1_sum 9 = .ok (.if_icmp .ge 21, 3) := by decide +kernel
theorem dX1_sum_12 : decode cX1_sum 12 = .ok (.iload_n 2, 1) := by decide +kernel
theorem dX1_sum_13 : decode cX1_sum 13 = .ok (.aload_n 0, 1) := by decide +kernel
theorem dX1_sum_14 : decode cX1_sum 14 = .ok (.aload_n 1, 1) := by decide +kernel
theorem dX1_sum_15 : decode cX1_sum 15 = .ok (.iload_n 3, 1) := by decide +kernel
theorem dX1_sum_16 : decode cX1_sum 16 = .ok (.invokevirtual 29, 3) := by decide +kernel
theorem dX1_sum_19 : decode cX1_sum 19 = .ok (.invokevirtual 15, 3) := by decide +kernel
theorem dX1_sum_22 : decode cX1_sum 22 = .ok (.iadd, 1) := by decide +kernel
theorem dX1_sum_23 : decode cX1_sum 23 = .ok (.istore_n 2, 1) := by decide +kernel
theorem dX1_sum_24 : decode cX1_sum 24 = .ok (.iinc 3 1, 3) := by decide +kernel
theorem dX1_sum_27 : decode cX1_sum 27 = .ok (.goto (-23), 3) := by decide +kernel
theorem dX1_sum_30 : decode cX1_sum 30 = .ok (.iload_n 2, 1) := by decide +kernel
theorem dX1_sum_31 : decode cX1_sum 31 = .ok (.ireturn, 1) := by decide +kernel
theorem dX1_most_0 : decode cX1_most 0 = .ok (.iconst 0, 1) := by decide +kernel
theorem dX1_most_1 : decode cX1_most 1 = .ok (.istore_n 2, 1) := by decide +kernel
theorem dX1_most_2 : decode cX1_most 2 = .ok (.iconst 0, 1) := by decide +kernel
theorem dX1_most_3 : decode cX1_most 3 = .ok (.istore_n 3, 1) := by decide +kernel
theorem dX1_most_4 : decode cX1_most 4 = .ok (.iload_n 3, 1) := by decide +kernel
theorem dX1_most_5 : decode cX1_most 5 = .ok (.aload_n 1, 1) := by decide +kernel
theorem dX1_most_6 : decode cX1_most 6 = .ok (.getfield 23, 3) := by decide +kernel
theorem dX1_most_9 : decode cX1_most 9 = .ok (.if_icmp .ge 23, 3) := by decide +kernel
theorem dX1_most_12 : decode cX1_most 12 = .ok (.iload_n 2, 1) := by decide +kernel
theorem dX1_most_13 : decode cX1_most 13 = .ok (.aload_n 0, 1) := by decide +kernel
theorem dX1_most_14 : decode cX1_most 14 = .ok (.aload_n 1, 1) := by decide +kernel
theorem dX1_most_15 : decode cX1_most 15 = .ok (.iload_n 3, 1) := by decide +kernel
theorem dX1_most_16 : decode cX1_most 16 = .ok (.invokevirtual 29, 3) := by decide +kernel
theorem dX1_most_19 : decode cX1_most 19 = .ok (.invokevirtual 15, 3) := by decide +kernel
theorem dX1_most_22 : decode cX1_most 22 = .ok (.invokestatic 32, 3) := by decide +kernel
theorem dX1_most_25 : decode cX1_most 25 = .ok (.istore_n 2, 1) := by decide +kernel
theorem dX1_most_26 : decode cX1_most 26 = .ok (.iinc 3 1, 3) := by decide +kernel
theorem dX1_most_29 : decode cX1_most 29 = .ok (.goto (-25), 3) := by decide +kernel
theorem dX1_most_32 : decode cX1_most 32 = .ok (.iload_n 2, 1) := by decide +kernel
theorem dX1_most_33 : decode cX1_most 33 = .ok (.ireturn, 1) := by decide +kernel
theorem dX1_blocked_0 : decode cX1_blocked 0 = .ok (.iconst 0, 1) := by decide +kernel
theorem dX1_blocked_1 : decode cX1_blocked 1 = .ok (.istore_n 3, 1) := by decide +kernel
theorem dX1_blocked_2 : decode cX1_blocked 2 = .ok (.iconst 0, 1) := by decide +kernel
theorem dX1_blocked_3 : decode cX1_blocked 3 = .ok (.istore 4, 2) := by decide +kernel
theorem dX1_blocked_5 : decode cX1_blocked 5 = .ok (.iload 4, 2) := by decide +kernel
theorem dX1_blocked_7 : decode cX1_blocked 7 = .ok (.aload_n 1, 1) := by decide +kernel
theorem dX1_blocked_8 : decode cX1_blocked 8 = .ok (.getfield 23, 3) := by decide +kernel
theorem dX1_blocked_11 : decode cX1_blocked 11 = .ok (.if_icmp .ge 26, 3) := by decide +kernel
theorem dX1_blocked_14 : decode cX1_blocked 14 = .ok (.aload_n 0, 1) := by decide +kernel
theorem dX1_blocked_15 : decode cX1_blocked 15 = .ok (.aload_n 1, 1) := by decide +kernel
theorem dX1_blocked_16 : decode cX1_blocked 16 = .ok (.iload 4, 2) := by decide +kernel
theorem dX1_blocked_18 : decode cX1_blocked 18 = .ok (.invokevirtual 29, 3) := by decide +kernel
theorem dX1_blocked_21 : decode cX1_blocked 21 = .ok (.invokevirtual 15, 3) := by decide +kernel
theorem dX1_blocked_24 : decode cX1_blocked 24 = .ok (.iload_n 2, 1) := by decide +kernel
theorem dX1_blocked_25 : decode cX1_blocked 25 = .ok (.if_icmp .lt 6, 3) := by decide +kernel
theorem dX1_blocked_28 : decode cX1_blocked 28 = .ok (.iinc 3 1, 3) := by decide +kernel
theorem dX1_blocked_31 : decode cX1_blocked 31 = .ok (.iinc 4 1, 3) := by decide +kernel
theorem dX1_blocked_34 : decode cX1_blocked 34 = .ok (.goto (-29), 3) := by decide +kernel
theorem dX1_blocked_37 : decode cX1_blocked 37 = .ok (.iload_n 3, 1) := by decide +kernel
theorem dX1_blocked_38 : decode cX1_blocked 38 = .ok (.ireturn, 1) := by decide +kernel
theorem dX2_init_0 : decode cX2_init 0 = .ok (.aload_n 0, 1) := by decide +kernel
theorem dX2_init_1 : decode cX2_init 1 = .ok (.invokespecial 1, 3) := by decide +kernel
theorem dX2_init_4 : decode cX2_init 4 = .ok (.aload_n 0, 1) := by decide +kernel
theorem dX2_init_5 : decode cX2_init 5 = .ok (.iload_n 1, 1) := by decide +kernel
theorem dX2_init_6 : decode cX2_init 6 = .ok (.putfield 7, 3) := by decide +kernel
theorem dX2_init_9 : decode cX2_init 9 = .ok (.aload_n 0, 1) := by decide +kernel
theorem dX2_init_10 : decode cX2_init 10 = .ok (.aload_n 2, 1) := by decide +kernel
theorem dX2_init_11 : decode cX2_init 11 = .ok (.putfield 13, 3) := by decide +kernel
theorem dX2_init_14 : decode cX2_init 14 = .ok (.return_, 1) := by decide +kernel
theorem dX3_init_0 : decode cX3_init 0 = .ok (.aload_n 0, 1) := by decide +kernel
theorem dX3_init_1 : decode cX3_init 1 = .ok (.invokespecial 3, 3) := by decide +kernel
theorem dX3_init_4 : decode cX3_init 4 = .ok (.aload_n 0, 1) := by decide +kernel
theorem dX3_init_5 : decode cX3_init 5 = .ok (.sipush 400, 3) := by decide +kernel
theorem dX3_init_8 : decode cX3_init 8 = .ok (.newarray .int, 2) := by decide +kernel
theorem dX3_init_10 : decode cX3_init 10 = .ok (.putfield 9, 3) := by decide +kernel
theorem dX3_init_13 : decode cX3_init 13 = .ok (.aload_n 0, 1) := by decide +kernel
theorem dX3_init_14 : decode cX3_init 14 = .ok (.sipush 400, 3) := by decide +kernel
theorem dX3_init_17 : decode cX3_init 17 = .ok (.newarray .int, 2) := by decide +kernel
theorem dX3_init_19 : decode cX3_init 19 = .ok (.putfield 15, 3) := by decide +kernel
theorem dX3_init_22 : decode cX3_init 22 = .ok (.return_, 1) := by decide +kernel
theorem dX3_height_0 : decode cX3_height 0 = .ok (.iload_n 1, 1) := by decide +kernel
theorem dX3_height_1 : decode cX3_height 1 = .ok (.ifCond .lt 21, 3) := by decide +kernel
theorem dX3_height_4 : decode cX3_height 4 = .ok (.iload_n 1, 1) := by decide +kernel
theorem dX3_height_5 : decode cX3_height 5 = .ok (.aload_n 0, 1) := by decide +kernel
theorem dX3_height_6 : decode cX3_height 6 = .ok (.getfield 9, 3) := by decide +kernel
theorem dX3_height_9 : decode cX3_height 9 = .ok (.arraylength, 1) := by decide +kernel
theorem dX3_height_10 : decode cX3_height 10 = .ok (.if_icmp .ge 12, 3) := by decide +kernel
theorem dX3_height_13 : decode cX3_height 13 = .ok (.aload_n 0, 1) := by decide +kernel
theorem dX3_height_14 : decode cX3_height 14 = .ok (.getfield 9, 3) := by decide +kernel
theorem dX3_height_17 : decode cX3_height 17 = .ok (.iload_n 1, 1) := by decide +kernel
theorem dX3_height_18 : decode cX3_height 18 = .ok (.iaload, 1) := by decide +kernel
theorem dX3_height_19 : decode cX3_height 19 = .ok (.goto 4, 3) := by decide +kernel
theorem dX3_height_22 : decode cX3_height 22 = .ok (.iconst 0, 1) := by decide +kernel
theorem dX3_height_23 : decode cX3_height 23 = .ok (.ireturn, 1) := by decide +kernel
theorem dX3_gap_0 : decode cX3_gap 0 = .ok (.iload_n 1, 1) := by decide +kernel
theorem dX3_gap_1 : decode cX3_gap 1 = .ok (.ifCond .lt 21, 3) := by decide +kernel
theorem dX3_gap_4 : decode cX3_gap 4 = .ok (.iload_n 1, 1) := by decide +kernel
theorem dX3_gap_5 : decode cX3_gap 5 = .ok (.aload_n 0, 1) := by decide +kernel
theorem dX3_gap_6 : decode cX3_gap 6 = .ok (.getfield 15, 3) := by decide +kernel
theorem dX3_gap_9 : decode cX3_gap 9 = .ok (.arraylength, 1) := by decide +kernel
theorem dX3_gap_10 : decode cX3_gap 10 = .ok (.if_icmp .ge 12, 3) := by decide +kernel
theorem dX3_gap_13 : decode cX3_gap 13 = .ok (.aload_n 0, 1) := by decide +kernel
theorem dX3_gap_14 : decode cX3_gap 14 = .ok (.getfield 15, 3) := by decide +kernel
theorem dX3_gap_17 : decode cX3_gap 17 = .ok (.iload_n 1, 1) := by decide +kernel
theorem dX3_gap_18 : decode cX3_gap 18 = .ok (.iaload, 1) := by decide +kernel
theorem dX3_gap_19 : decode cX3_gap 19 = .ok (.goto 4, 3) := by decide +kernel
theorem dX3_gap_22 : decode cX3_gap 22 = .ok (.iconst 0, 1) := by decide +kernel
theorem dX3_gap_23 : decode cX3_gap 23 = .ok (.ireturn, 1) := by decide +kernel
theorem dX3_clear_0 : decode cX3_clear 0 = .ok (.iconst 0, 1) := by decide +kernel
theorem dX3_clear_1 : decode cX3_clear 1 = .ok (.istore_n 1, 1) := by decide +kernel
theorem dX3_clear_2 : decode cX3_clear 2 = .ok (.iload_n 1, 1) := by decide +kernel
theorem dX3_clear_3 : decode cX3_clear 3 = .ok (.sipush 400, 3) := by decide +kernel
theorem dX3_clear_6 : decode cX3_clear 6 = .ok (.if_icmp .ge 16, 3) := by decide +kernel
theorem dX3_clear_9 : decode cX3_clear 9 = .ok (.aload_n 0, 1) := by decide +kernel
theorem dX3_clear_10 : decode cX3_clear 10 = .ok (.iload_n 1, 1) := by decide +kernel
theorem dX3_clear_11 : decode cX3_clear 11 = .ok (.iconst 0, 1) := by decide +kernel
theorem dX3_clear_12 : decode cX3_clear 12 = .ok (.iconst 0, 1) := by decide +kernel
theorem dX3_clear_13 : decode cX3_clear 13 = .ok (.invokevirtual 18, 3) := by decide +kernel
theorem dX3_clear_16 : decode cX3_clear 16 = .ok (.iinc 1 1, 3) := by decide +kernel
theorem dX3_clear_19 : decode cX3_clear 19 = .ok (.goto (-17), 3) := by decide +kernel
theorem dX3_clear_22 : decode cX3_clear 22 = .ok (.return_, 1) := by decide +kernel
theorem dX3_add_0 : decode cX3_add 0 = .ok (.iconst 0, 1) := by decide +kernel
theorem dX3_add_1 : decode cX3_add 1 = .ok (.istore 4, 2) := by decide +kernel
theorem dX3_add_3 : decode cX3_add 3 = .ok (.iload 4, 2) := by decide +kernel
theorem dX3_add_5 : decode cX3_add 5 = .ok (.aload_n 1, 1) := by decide +kernel
theorem dX3_add_6 : decode cX3_add 6 = .ok (.getfield 22, 3) := by decide +kernel
theorem dX3_add_9 : decode cX3_add 9 = .ok (.if_icmp .ge 35, 3) := by decide +kernel
theorem dX3_add_12 : decode cX3_add 12 = .ok (.aload_n 1, 1) := by decide +kernel
theorem dX3_add_13 : decode cX3_add 13 = .ok (.iload 4, 2) := by decide +kernel
theorem dX3_add_15 : decode cX3_add 15 = .ok (.invokevirtual 28, 3) := by decide +kernel
theorem dX3_add_18 : decode cX3_add 18 = .ok (.istore 5, 2) := by decide +kernel
theorem dX3_add_20 : decode cX3_add 20 = .ok (.iload_n 2, 1) := by decide +kernel
theorem dX3_add_21 : decode cX3_add 21 = .ok (.aload_n 0, 1) := by decide +kernel
theorem dX3_add_22 : decode cX3_add 22 = .ok (.iload 5, 2) := by decide +kernel
theorem dX3_add_24 : decode cX3_add 24 = .ok (.invokevirtual 32, 3) := by decide +kernel
theorem dX3_add_27 : decode cX3_add 27 = .ok (.if_icmp .le 11, 3) := by decide +kernel
theorem dX3_add_30 : decode cX3_add 30 = .ok (.aload_n 0, 1) := by decide +kernel
theorem dX3_add_31 : decode cX3_add 31 = .ok (.iload 5, 2) := by decide +kernel
theorem dX3_add_33 : decode cX3_add 33 = .ok (.iload_n 2, 1) := by decide +kernel
theorem dX3_add_34 : decode cX3_add 34 = .ok (.iload_n 3, 1) := by decide +kernel
theorem dX3_add_35 : decode cX3_add 35 = .ok (.invokevirtual 18, 3) := by decide +kernel
theorem dX3_add_38 : decode cX3_add 38 = .ok (.iinc 4 1, 3) := by decide +kernel
theorem dX3_add_41 : decode cX3_add 41 = .ok (.goto (-38), 3) := by decide +kernel
theorem dX3_add_44 : decode cX3_add 44 = .ok (.return_, 1) := by decide +kernel
theorem dX3_stand_0 : decode cX3_stand 0 = .ok (.iload_n 1, 1) := by decide +kernel
theorem dX3_stand_1 : decode cX3_stand 1 = .ok (.ifCond .lt 35, 3) := by decide +kernel
theorem dX3_stand_4 : decode cX3_stand 4 = .ok (.iload_n 1, 1) := by decide +kernel
theorem dX3_stand_5 : decode cX3_stand 5 = .ok (.aload_n 0, 1) := by decide +kernel
theorem dX3_stand_6 : decode cX3_stand 6 = .ok (.getfield 9, 3) := by decide +kernel
theorem dX3_stand_9 : decode cX3_stand 9 = .ok (.arraylength, 1) := by decide +kernel
theorem dX3_stand_10 : decode cX3_stand 10 = .ok (.if_icmp .ge 26, 3) := by decide +kernel
theorem dX3_stand_13 : decode cX3_stand 13 = .ok (.iload_n 1, 1) := by decide +kernel
theorem dX3_stand_14 : decode cX3_stand 14 = .ok (.aload_n 0, 1) := by decide +kernel
theorem dX3_stand_15 : decode cX3_stand 15 = .ok (.getfield 15, 3) := by decide +kernel
theorem dX3_stand_18 : decode cX3_stand 18 = .ok (.arraylength, 1) := by decide +kernel
theorem dX3_stand_19 : decode cX3_stand 19 = .ok (.if_icmp .ge 17, 3) := by decide +kernel
theorem dX3_stand_22 : decode cX3_stand 22 = .ok (.aload_n 0, 1) := by decide +kernel
theorem dX3_stand_23 : decode cX3_stand 23 = .ok (.getfield 9, 3) := by decide +kernel
theorem dX3_stand_26 : decode cX3_stand 26 = .ok (.iload_n 1, 1) := by decide +kernel
theorem dX3_stand_27 : decode cX3_stand 27 = .ok (.iload_n 2, 1) := by decide +kernel
theorem dX3_stand_28 : decode cX3_stand 28 = .ok (.iastore, 1) := by decide +kernel
theorem dX3_stand_29 : decode cX3_stand 29 = .ok (.aload_n 0, 1) := by decide +kernel
theorem dX3_stand_30 : decode cX3_stand 30 = .ok (.getfield 15, 3) := by decide +kernel
theorem dX3_stand_33 : decode cX3_stand 33 = .ok (.iload_n 1, 1) := by decide +kernel
theorem dX3_stand_34 : decode cX3_stand 34 = .ok (.iload_n 3, 1) := by decide +kernel
theorem dX3_stand_35 : decode cX3_stand 35 = .ok (.iastore, 1) := by decide +kernel
theorem dX3_stand_36 : decode cX3_stand 36 = .ok (.return_, 1) := by decide +kernel
theorem dX4_init_0 : decode cX4_init 0 = .ok (.aload_n 0, 1) := by decide +kernel
theorem dX4_init_1 : decode cX4_init 1 = .ok (.invokespecial 3, 3) := by decide +kernel
theorem dX4_init_4 : decode cX4_init 4 = .ok (.aload_n 0, 1) := by decide +kernel
theorem dX4_init_5 : decode cX4_init 5 = .ok (.iload_n 2, 1) := by decide +kernel
theorem dX4_init_6 : decode cX4_init 6 = .ok (.bipush 20, 2) := by decide +kernel
theorem dX4_init_8 : decode cX4_init 8 = .ok (.imul, 1) := by decide +kernel
theorem dX4_init_9 : decode cX4_init 9 = .ok (.iload_n 1, 1) := by decide +kernel
theorem dX4_init_10 : decode cX4_init 10 = .ok (.iadd, 1) := by decide +kernel
theorem dX4_init_11 : decode cX4_init 11 = .ok (.putfield 9, 3) := by decide +kernel
theorem dX4_init_14 : decode cX4_init 14 = .ok (.aload_n 0, 1) := by decide +kernel
theorem dX4_init_15 : decode cX4_init 15 = .ok (.iload_n 3, 1) := by decide +kernel
theorem dX4_init_16 : decode cX4_init 16 = .ok (.putfield 15, 3) := by decide +kernel
theorem dX4_init_19 : decode cX4_init 19 = .ok (.aload_n 0, 1) := by decide +kernel
theorem dX4_init_20 : decode cX4_init 20 = .ok (.iload 4, 2) := by decide +kernel
theorem dX4_init_22 : decode cX4_init 22 = .ok (.putfield 18, 3) := by decide +kernel
theorem dX4_init_25 : decode cX4_init 25 = .ok (.return_, 1) := by decide +kernel
theorem dX4_cell_0 : decode cX4_cell 0 = .ok (.aload_n 0, 1) := by decide +kernel
theorem dX4_cell_1 : decode cX4_cell 1 = .ok (.getfield 9, 3) := by decide +kernel
theorem dX4_cell_4 : decode cX4_cell 4 = .ok (.iload_n 1, 1) := by decide +kernel
theorem dX4_cell_5 : decode cX4_cell 5 = .ok (.aload_n 0, 1) := by decide +kernel
theorem dX4_cell_6 : decode cX4_cell 6 = .ok (.getfield 18, 3) := by decide +kernel
theorem dX4_cell_9 : decode cX4_cell 9 = .ok (.ifCond .eq 8, 3) := by decide +kernel
theorem dX4_cell_12 : decode cX4_cell 12 = .ok (.bipush 20, 2) := by decide +kernel
theorem dX4_cell_14 : decode cX4_cell 14 = .ok (.goto 4, 3) := by decide +kernel
theorem dX4_cell_17 : decode cX4_cell 17 = .ok (.iconst 1, 1) := by decide +kernel
theorem dX4_cell_18 : decode cX4_cell 18 = .ok (.imul, 1) := by decide +kernel
theorem dX4_cell_19 : decode cX4_cell 19 = .ok (.iadd, 1) := by decide +kernel
theorem dX4_cell_20 : decode cX4_cell 20 = .ok (.ireturn, 1) := by decide +kernel
theorem dX5_init_0 : decode cX5_init 0 = .ok (.aload_n 0, 1) := by decide +kernel
theorem dX5_init_1 : decode cX5_init 1 = .ok (.invokespecial 3, 3) := by decide +kernel
theorem dX5_init_4 : decode cX5_init 4 = .ok (.aload_n 0, 1) := by decide +kernel
theorem dX5_init_5 : decode cX5_init 5 = .ok (.iload_n 2, 1) := by decide +kernel
theorem dX5_init_6 : decode cX5_init 6 = .ok (.putfield 9, 3) := by decide +kernel
theorem dX5_init_9 : decode cX5_init 9 = .ok (.aload_n 0, 1) := by decide +kernel
theorem dX5_init_10 : decode cX5_init 10 = .ok (.iload_n 3, 1) := by decide +kernel
theorem dX5_init_11 : decode cX5_init 11 = .ok (.putfield 15, 3) := by decide +kernel
theorem dX5_init_14 : decode cX5_init 14 = .ok (.aload_n 0, 1) := by decide +kernel
theorem dX5_init_15 : decode cX5_init 15 = .ok (.iload_n 1, 1) := by decide +kernel
theorem dX5_init_16 : decode cX5_init 16 = .ok (.iconst 1, 1) := by decide +kernel
theorem dX5_init_17 : decode cX5_init 17 = .ok (.if_icmp .eq 8, 3) := by decide +kernel
theorem dX5_init_20 : decode cX5_init 20 = .ok (.iload_n 1, 1) := by decide +kernel
theorem dX5_init_21 : decode cX5_init 21 = .ok (.iconst 3, 1) := by decide +kernel
theorem dX5_init_22 : decode cX5_init 22 = .ok (.if_icmp .ne 7, 3) := by decide +kernel
theorem dX5_init_25 : decode cX5_init 25 = .ok (.iconst 1, 1) := by decide +kernel
theorem dX5_init_26 : decode cX5_init 26 = .ok (.goto 4, 3) := by decide +kernel
theorem dX5_init_29 : decode cX5_init 29 = .ok (.iconst 0, 1) := by decide +kernel
theorem dX5_init_30 : decode cX5_init 30 = .ok (.putfield 18, 3) := by decide +kernel
theorem dX5_init_33 : decode cX5_init 33 = .ok (.iload_n 1, 1) := by decide +kernel
theorem dX5_init_34 : decode cX5_init 34 = .ok (.iconst 2, 1) := by decide +kernel
theorem dX5_init_35 : decode cX5_init 35 = .ok (.if_icmp .eq 8, 3) := by decide +kernel
theorem dX5_init_38 : decode cX5_init 38 = .ok (.iload_n 1, 1) := by decide +kernel
theorem dX5_init_39 : decode cX5_init 39 = .ok (.iconst 3, 1) := by decide +kernel
theorem dX5_init_40 : decode cX5_init 40 = .ok (.if_icmp .ne 7, 3) := by decide +kernel
theorem dX5_init_43 : decode cX5_init 43 = .ok (.iconst 1, 1) := by decide +kernel
theorem dX5_init_44 : decode cX5_init 44 = .ok (.goto 4, 3) := by decide +kernel
theorem dX5_init_47 : decode cX5_init 47 = .ok (.iconst 0, 1) := by decide +kernel
theorem dX5_init_48 : decode cX5_init 48 = .ok (.istore 4, 2) := by decide +kernel
theorem dX5_init_50 : decode cX5_init 50 = .ok (.aload_n 0, 1) := by decide +kernel
theorem dX5_init_51 : decode cX5_init 51 = .ok (.getfield 18, 3) := by decide +kernel
theorem dX5_init_54 : decode cX5_init 54 = .ok (.ifCond .eq 8, 3) := by decide +kernel
theorem dX5_init_57 : decode cX5_init 57 = .ok (.bipush 20, 2) := by decide +kernel
theorem dX5_init_59 : decode cX5_init 59 = .ok (.goto 4, 3) := by decide +kernel
theorem dX5_init_62 : decode cX5_init 62 = .ok (.iconst 1, 1) := by decide +kernel
theorem dX5_init_63 : decode cX5_init 63 = .ok (.istore 5, 2) := by decide +kernel
theorem dX5_init_65 : decode cX5_init 65 = .ok (.aload_n 0, 1) := by decide +kernel
theorem dX5_init_66 : decode cX5_init 66 = .ok (.iload 4, 2) := by decide +kernel
theorem dX5_init_68 : decode cX5_init 68 = .ok (.ifCond .eq 11, 3) := by decide +kernel
theorem dX5_init_71 : decode cX5_init 71 = .ok (.iload 5, 2) := by decide +kernel
theorem dX5_init_73 : decode cX5_init 73 = .ok (.bipush 19, 2) := by decide +kernel
theorem dX5_init_75 : decode cX5_init 75 = .ok (.imul, 1) := by decide +kernel
theorem dX5_init_76 : decode cX5_init 76 = .ok (.goto 4, 3) := by decide +kernel
theorem dX5_init_79 : decode cX5_init 79 = .ok (.iconst 0, 1) := by decide +kernel
theorem dX5_init_80 : decode cX5_init 80 = .ok (.putfield 22, 3) := by decide +kernel
theorem dX5_init_83 : decode cX5_init 83 = .ok (.aload_n 0, 1) := by decide +kernel
theorem dX5_init_84 : decode cX5_init 84 = .ok (.iload 4, 2) := by decide +kernel
theorem dX5_init_86 : decode cX5_init 86 = .ok (.ifCond .eq 9, 3) := by decide +kernel
theorem dX5_init_89 : decode cX5_init 89 = .ok (.iload 5, 2) := by decide +kernel
theorem dX5_init_91 : decode cX5_init 91 = .ok (.ineg, 1) := by decide +kernel
theorem dX5_init_92 : decode cX5_init 92 = .ok (.goto 5, 3) := by decide +kernel
theorem dX5_init_95 : decode cX5_init 95 = .ok (.iload 5, 2) := by decide +kernel
theorem dX5_init_97 : decode cX5_init 97 = .ok (.putfield 25, 3) := by decide +kernel
theorem dX5_init_100 : decode cX5_init 100 = .ok (.aload_n 0, 1) := by decide +kernel
theorem dX5_init_101 : decode cX5_init 101 = .ok (.aload_n 0, 1) := by decide +kernel
theorem dX5_init_102 : decode cX5_init 102 = .ok (.getfield 18, 3) := by decide +kernel
theorem dX5_init_105 : decode cX5_init 105 = .ok (.ifCond .eq 7, 3) := by decide +kernel
theorem dX5_init_108 : decode cX5_init 108 = .ok (.iconst 1, 1) := by decide +kernel
theorem dX5_init_109 : decode cX5_init 109 = .ok (.goto 5, 3) := by decide +kernel
theorem dX5_init_112 : decode cX5_init 112 = .ok (.bipush 20, 2) := by decide +kernel
theorem dX5_init_114 : decode cX5_init 114 = .ok (.putfield 28, 3) := by decide +kernel
theorem dX5_init_117 : decode cX5_init 117 = .ok (.return_, 1) := by decide +kernel
theorem dX5_crossField_0 : decode cX5_crossField 0 = .ok (.iconst 0, 1) := by decide +kernel
theorem dX5_crossField_1 : decode cX5_crossField 1 = .ok (.istore_n 3, 1) := by decide +kernel
theorem dX5_crossField_2 : decode cX5_crossField 2 = .ok (.iconst 0, 1) := by decide +kernel
theorem dX5_crossField_3 : decode cX5_crossField 3 = .ok (.istore 4, 2) := by decide +kernel
theorem dX5_crossField_5 : decode cX5_crossField 5 = .ok (.iload 4, 2) := by decide +kernel
theorem dX5_crossField_7 : decode cX5_crossField 7 = .ok (.bipush 20, 2) := by decide +kernel
theorem dX5_crossField_9 : decode cX5_crossField 9 = .ok (.if_icmp .ge 30, 3) := by decide +kernel
theorem dX5_crossField_12 : decode cX5_crossField 12 = .ok (.iload_n 3, 1) := by decide +kernel
theorem dX5_crossField_13 : decode cX5_crossField 13 = .ok (.aload_n 0, 1) := by decide +kernel
theorem dX5_crossField_14 : decode cX5_crossField 14 = .ok (.aload_n 1, 1) := by decide +kernel
theorem dX5_crossField_15 : decode cX5_crossField 15 = .ok (.aload_n 2, 1) := by decide +kernel
theorem dX5_crossField_16 : decode cX5_crossField 16 = .ok (.aload_n 0, 1) := by decide +kernel
theorem dX5_crossField_17 : decode cX5_crossField 17 = .ok (.getfield 22, 3) := by decide +kernel
theorem dX5_crossField_20 : decode cX5_crossField 20 = .ok (.iload 4, 2) := by decide +kernel
theorem dX5_crossField_22 : decode cX5_crossField 22 = .ok (.aload_n 0, 1) := by decide +kernel
theorem dX5_crossField_23 : decode cX5_crossField 23 = .ok (.getfield 28, 3) := by decide +kernel
theorem dX5_crossField_26 : decode cX5_crossField 26 = .ok (.imul, 1) := by decide +kernel
theorem dX5_crossField_27 : decode cX5_crossField 27 = .ok (.iadd, 1) := by decide +kernel
theorem dX5_crossField_28 : decode cX5_crossField 28 = .ok (.invokevirtual 31, 3) := by decide +kernel
theorem dX5_crossField_31 : decode cX5_crossField 31 = .ok (.iadd, 1) := by decide +kernel
theorem dX5_crossField_32 : decode cX5_crossField 32 = .ok (.istore_n 3, 1) := by decide +kernel
theorem dX5_crossField_33 : decode cX5_crossField 33 = .ok (.iinc 4 1, 3) := by decide +kernel
theorem dX5_crossField_36 : decode cX5_crossField 36 = .ok (.goto (-31), 3) := by decide +kernel
theorem dX5_crossField_39 : decode cX5_crossField 39 = .ok (.iload_n 3, 1) := by decide +kernel
theorem dX5_crossField_40 : decode cX5_crossField 40 = .ok (.ireturn, 1) := by decide +kernel
theorem dX5_passLine_0 : decode cX5_passLine 0 = .ok (.aload_n 0, 1) := by decide +kernel
theorem dX5_passLine_1 : decode cX5_passLine 1 = .ok (.aload_n 0, 1) := by decide +kernel
theorem dX5_passLine_2 : decode cX5_passLine 2 = .ok (.getfield 15, 3) := by decide +kernel
theorem dX5_passLine_5 : decode cX5_passLine 5 = .ok (.putfield 35, 3) := by decide +kernel
theorem dX5_passLine_8 : decode cX5_passLine 8 = .ok (.aload_n 0, 1) := by decide +kernel
theorem dX5_passLine_9 : decode cX5_passLine 9 = .ok (.iconst 0, 1) := by decide +kernel
theorem dX5_passLine_10 : decode cX5_passLine 10 = .ok (.putfield 38, 3) := by decide +kernel
theorem dX5_passLine_13 : decode cX5_passLine 13 = .ok (.aload_n 0, 1) := by decide +kernel
theorem dX5_passLine_14 : decode cX5_passLine 14 = .ok (.iconst 0, 1) := by decide +kernel
theorem dX5_passLine_15 : decode cX5_passLine 15 = .ok (.putfield 41, 3) := by decide +kernel
theorem dX5_passLine_18 : decode cX5_passLine 18 = .ok (.iconst 0, 1) := by decide +kernel
theorem dX5_passLine_19 : decode cX5_passLine 19 = .ok (.istore 4, 2) := by decide +kernel
theorem dX5_passLine_21 : decode cX5_passLine 21 = .ok (.iload 4, 2) := by decide +kernel
theorem dX5_passLine_23 : decode cX5_passLine 23 = .ok (.bipush 20, 2) := by decide +kernel
theorem dX5_passLine_25 : decode cX5_passLine 25 = .ok (.if_icmp .ge 24, 3) := by decide +kernel
theorem dX5_passLine_28 : decode cX5_passLine 28 = .ok (.aload_n 0, 1) := by decide +kernel
theorem dX5_passLine_29 : decode cX5_passLine 29 = .ok (.aload_n 1, 1) := by decide +kernel
theorem dX5_passLine_30 : decode cX5_passLine 30 = .ok (.aload_n 2, 1) := by decide +kernel
theorem dX5_passLine_31 : decode cX5_passLine 31 = .ok (.iload_n 3, 1) := by decide +kernel
theorem dX5_passLine_32 : decode cX5_passLine 32 = .ok (.iload 4, 2) := by decide +kernel
theorem dX5_passLine_34 : decode cX5_passLine 34 = .ok (.aload_n 0, 1) := by decide +kernel
theorem dX5_passLine_35 : decode cX5_passLine 35 = .ok (.getfield 25, 3) := by decide +kernel
theorem dX5_passLine_38 : decode cX5_passLine 38 = .ok (.imul, 1) := by decide +kernel
theorem dX5_passLine_39 : decode cX5_passLine 39 = .ok (.iadd, 1) := by decide +kernel
theorem dX5_passLine_40 : decode cX5_passLine 40 = .ok (.invokevirtual 44, 3) := by decide +kernel
theorem dX5_passLine_43 : decode cX5_passLine 43 = .ok (.iinc 4 1, 3) := by decide +kernel
theorem dX5_passLine_46 : decode cX5_passLine 46 = .ok (.goto (-25), 3) := by decide +kernel
theorem dX5_passLine_49 : decode cX5_passLine 49 = .ok (.aload_n 0, 1) := by decide +kernel
theorem dX5_passLine_50 : decode cX5_passLine 50 = .ok (.getfield 35, 3) := by decide +kernel
theorem dX5_passLine_53 : decode cX5_passLine 53 = .ok (.ireturn, 1) := by decide +kernel
theorem dX5_passCell_0 : decode cX5_passCell 0 = .ok (.aload_n 2, 1) := by decide +kernel
theorem dX5_passCell_1 : decode cX5_passCell 1 = .ok (.iload_n 3, 1) := by decide +kernel
theorem dX5_passCell_2 : decode cX5_passCell 2 = .ok (.invokevirtual 48, 3) := by decide +kernel
theorem dX5_passCell_5 : decode cX5_passCell 5 = .ok (.istore 4, 2) := by decide +kernel
theorem dX5_passCell_7 : decode cX5_passCell 7 = .ok (.iload 4, 2) := by decide +kernel
theorem dX5_passCell_9 : decode cX5_passCell 9 = .ok (.ifCond .le 41, 3) := by decide +kernel
theorem dX5_passCell_12 : decode cX5_passCell 12 = .ok (.iconst 2, 1) := by decide +kernel
theorem dX5_passCell_13 : decode cX5_passCell 13 = .ok (.iload 4, 2) := by decide +kernel
theorem dX5_passCell_15 : decode cX5_passCell 15 = .ok (.imul, 1) := by decide +kernel
theorem dX5_passCell_16 : decode cX5_passCell 16 = .ok (.aload_n 0, 1) := by decide +kernel
theorem dX5_passCell_17 : decode cX5_passCell 17 = .ok (.getfield 38, 3) := by decide +kernel
theorem dX5_passCell_20 : decode cX5_passCell 20 = .ok (.if_icmp .lt 30, 3) := by decide +kernel
theorem dX5_passCell_23 : decode cX5_passCell 23 = .ok (.aload_n 0, 1) := by decide +kernel
theorem dX5_passCell_24 : decode cX5_passCell 24 = .ok (.iconst 2, 1) := by decide +kernel
theorem dX5_passCell_25 : decode cX5_passCell 25 = .ok (.iload 4, 2) := by decide +kernel
theorem dX5_passCell_27 : decode cX5_passCell 27 = .ok (.imul, 1) := by decide +kernel
theorem dX5_passCell_28 : decode cX5_passCell 28 = .ok (.putfield 38, 3) := by decide +kernel
theorem dX5_passCell_31 : decode cX5_passCell 31 = .ok (.aload_n 0, 1) := by decide +kernel
theorem dX5_passCell_32 : decode cX5_passCell 32 = .ok (.aload_n 2, 1) := by decide +kernel
theorem dX5_passCell_33 : decode cX5_passCell 33 = .ok (.iload_n 3, 1) := by decide +kernel
theorem dX5_passCell_34 : decode cX5_passCell 34 = .ok (.invokevirtual 54, 3) := by decide +kernel
theorem dX5_passCell_37 : decode cX5_passCell 37 = .ok (.putfield 41, 3) := by decide +kernel
theorem dX5_passCell_40 : decode cX5_passCell 40 = .ok (.aload_n 0, 1) := by decide +kernel
theorem dX5_passCell_41 : decode cX5_passCell 41 = .ok (.bipush 10, 2) := by decide +kernel
theorem dX5_passCell_43 : decode cX5_passCell 43 = .ok (.iload 4, 2) := by decide +kernel
theorem dX5_passCell_45 : decode cX5_passCell 45 = .ok (.imul, 1) := by decide +kernel
theorem dX5_passCell_46 : decode cX5_passCell 46 = .ok (.putfield 57, 3) := by decide +kernel
theorem dX5_passCell_49 : decode cX5_passCell 49 = .ok (.return_, 1) := by decide +kernel
theorem dX5_passCell_50 : decode cX5_passCell 50 = .ok (.aload_n 1, 1) := by decide +kernel
theorem dX5_passCell_51 : decode cX5_passCell 51 = .ok (.iload_n 3, 1) := by decide +kernel
theorem dX5_passCell_52 : decode cX5_passCell 52 = .ok (.invokevirtual 60, 3) := by decide +kernel
theorem dX5_passCell_55 : decode cX5_passCell 55 = .ok (.istore 5, 2) := by decide +kernel
theorem dX5_passCell_57 : decode cX5_passCell 57 = .ok (.aload_n 0, 1) := by decide +kernel
theorem dX5_passCell_58 : decode cX5_passCell 58 = .ok (.getfield 38, 3) := by decide +kernel
theorem dX5_passCell_61 : decode cX5_passCell 61 = .ok (.ifCond .le 20, 3) := by decide +kernel
theorem dX5_passCell_64 : decode cX5_passCell 64 = .ok (.aload_n 0, 1) := by decide +kernel
theorem dX5_passCell_65 : decode cX5_passCell 65 = .ok (.getfield 41, 3) := by decide +kernel
theorem dX5_passCell_68 : decode cX5_passCell 68 = .ok (.ifCond .ne 13, 3) := by decide +kernel
theorem dX5_passCell_71 : decode cX5_passCell 71 = .ok (.aload_n 0, 1) := by decide +kernel
theorem dX5_passCell_72 : decode cX5_passCell 72 = .ok (.iload 5, 2) := by decide +kernel
theorem dX5_passCell_74 : decode cX5_passCell 74 = .ok (.invokevirtual 65, 3) := by decide +kernel
theorem dX5_passCell_77 : decode cX5_passCell 77 = .ok (.ineg, 1) := by decide +kernel
theorem dX5_passCell_78 : decode cX5_passCell 78 = .ok (.goto 9, 3) := by decide +kernel
theorem dX5_passCell_81 : decode cX5_passCell 81 = .ok (.aload_n 0, 1) := by decide +kernel
theorem dX5_passCell_82 : decode cX5_passCell 82 = .ok (.iload 5, 2) := by decide +kernel
theorem dX5_passCell_84 : decode cX5_passCell 84 = .ok (.invokevirtual 68, 3) := by decide +kernel
theorem dX5_passCell_87 : decode cX5_passCell 87 = .ok (.istore 6, 2) := by decide +kernel
theorem dX5_passCell_89 : decode cX5_passCell 89 = .ok (.aload_n 1, 1) := by decide +kernel
theorem dX5_passCell_90 : decode cX5_passCell 90 = .ok (.iload_n 3, 1) := by decide +kernel
theorem dX5_passCell_91 : decode cX5_passCell 91 = .ok (.iload 5, 2) := by decide +kernel
theorem dX5_passCell_93 : decode cX5_passCell 93 = .ok (.iload 6, 2) := by decide +kernel
theorem dX5_passCell_95 : decode cX5_passCell 95 = .ok (.isub, 1) := by decide +kernel
theorem dX5_passCell_96 : decode cX5_passCell 96 = .ok (.invokevirtual 71, 3) := by decide +kernel
theorem dX5_passCell_99 : decode cX5_passCell 99 = .ok (.aload_n 0, 1) := by decide +kernel
theorem dX5_passCell_100 : decode cX5_passCell 100 = .ok (.dup, 1) := by decide +kernel
theorem dX5_passCell_101 : decode cX5_passCell 101 = .ok (.getfield 35, 3) := by decide +kernel
theorem dX5_passCell_104 : decode cX5_passCell 104 = .ok (.iload 6, 2) := by decide +kernel
theorem dX5_passCell_106 : decode cX5_passCell 106 = .ok (.iadd, 1) := by decide +kernel
theorem dX5_passCell_107 : decode cX5_passCell 107 = .ok (.putfield 35, 3) := by decide +kernel
theorem dX5_passCell_110 : decode cX5_passCell 110 = .ok (.aload_n 0, 1) := by decide +kernel
theorem dX5_passCell_111 : decode cX5_passCell 111 = .ok (.aload_n 0, 1) := by decide +kernel
theorem dX5_passCell_112 : decode cX5_passCell 112 = .ok (.getfield 38, 3) := by decide +kernel
theorem dX5_passCell_115 : decode cX5_passCell 115 = .ok (.iconst 1, 1) := by decide +kernel
theorem dX5_passCell_116 : decode cX5_passCell 116 = .ok (.isub, 1) := by decide +kernel
theorem dX5_passCell_117 : decode cX5_passCell 117 = .ok (.iconst 0, 1) := by decide +kernel
theorem dX5_passCell_118 : decode cX5_passCell 118 = .ok (.invokestatic 75, 3) := by decide +kernel
theorem dX5_passCell_121 : decode cX5_passCell 121 = .ok (.putfield 38, 3) := by decide +kernel
theorem dX5_passCell_124 : decode cX5_passCell 124 = .ok (.aload_n 0, 1) := by decide +kernel
theorem dX5_passCell_125 : decode cX5_passCell 125 = .ok (.aload_n 0, 1) := by decide +kernel
theorem dX5_passCell_126 : decode cX5_passCell 126 = .ok (.getfield 41, 3) := by decide +kernel
theorem dX5_passCell_129 : decode cX5_passCell 129 = .ok (.iconst 1, 1) := by decide +kernel
theorem dX5_passCell_130 : decode cX5_passCell 130 = .ok (.isub, 1) := by decide +kernel
theorem dX5_passCell_131 : decode cX5_passCell 131 = .ok (.iconst 0, 1) := by decide +kernel
theorem dX5_passCell_132 : decode cX5_passCell 132 = .ok (.invokestatic 75, 3) := by decide +kernel
theorem dX5_passCell_135 : decode cX5_passCell 135 = .ok (.putfield 41, 3) := by decide +kernel
theorem dX5_passCell_138 : decode cX5_passCell 138 = .ok (.return_, 1) := by decide +kernel
theorem dX5_dropped_0 : decode cX5_dropped 0 = .ok (.aload_n 0, 1) := by decide +kernel
theorem dX5_dropped_1 : decode cX5_dropped 1 = .ok (.getfield 35, 3) := by decide +kernel
theorem dX5_dropped_4 : decode cX5_dropped 4 = .ok (.iconst 4, 1) := by decide +kernel
theorem dX5_dropped_5 : decode cX5_dropped 5 = .ok (.invokestatic 81, 3) := by decide +kernel
theorem dX5_dropped_8 : decode cX5_dropped 8 = .ok (.aload_n 0, 1) := by decide +kernel
theorem dX5_dropped_9 : decode cX5_dropped 9 = .ok (.getfield 57, 3) := by decide +kernel
theorem dX5_dropped_12 : decode cX5_dropped 12 = .ok (.iload_n 1, 1) := by decide +kernel
theorem dX5_dropped_13 : decode cX5_dropped 13 = .ok (.isub, 1) := by decide +kernel
theorem dX5_dropped_14 : decode cX5_dropped 14 = .ok (.invokestatic 81, 3) := by decide +kernel
theorem dX5_dropped_17 : decode cX5_dropped 17 = .ok (.iconst 0, 1) := by decide +kernel
theorem dX5_dropped_18 : decode cX5_dropped 18 = .ok (.invokestatic 75, 3) := by decide +kernel
theorem dX5_dropped_21 : decode cX5_dropped 21 = .ok (.ireturn, 1) := by decide +kernel
theorem dX5_pickedUp_0 : decode cX5_pickedUp 0 = .ok (.iload_n 1, 1) := by decide +kernel
theorem dX5_pickedUp_1 : decode cX5_pickedUp 1 = .ok (.aload_n 0, 1) := by decide +kernel
theorem dX5_pickedUp_2 : decode cX5_pickedUp 2 = .ok (.getfield 9, 3) := by decide +kernel
theorem dX5_pickedUp_5 : decode cX5_pickedUp 5 = .ok (.invokestatic 81, 3) := by decide +kernel
theorem dX5_pickedUp_8 : decode cX5_pickedUp 8 = .ok (.bipush 10, 2) := by decide +kernel
theorem dX5_pickedUp_10 : decode cX5_pickedUp 10 = .ok (.aload_n 0, 1) := by decide +kernel
theorem dX5_pickedUp_11 : decode cX5_pickedUp 11 = .ok (.getfield 9, 3) := by decide +kernel
theorem dX5_pickedUp_14 : decode cX5_pickedUp 14 = .ok (.imul, 1) := by decide +kernel
theorem dX5_pickedUp_15 : decode cX5_pickedUp 15 = .ok (.aload_n 0, 1) := by decide +kernel
theorem dX5_pickedUp_16 : decode cX5_pickedUp 16 = .ok (.getfield 35, 3) := by decide +kernel
theorem dX5_pickedUp_19 : decode cX5_pickedUp 19 = .ok (.isub, 1) := by decide +kernel
theorem dX5_pickedUp_20 : decode cX5_pickedUp 20 = .ok (.invokestatic 81, 3) := by decide +kernel
theorem dX5_pickedUp_23 : decode cX5_pickedUp 23 = .ok (.iconst 0, 1) := by decide +kernel
theorem dX5_pickedUp_24 : decode cX5_pickedUp 24 = .ok (.invokestatic 75, 3) := by decide +kernel
theorem dX5_pickedUp_27 : decode cX5_pickedUp 27 = .ok (.ireturn, 1) := by decide +kernel
theorem dX6_init_0 : decode cX6_init 0 = .ok (.aload_n 0, 1) := by decide +kernel
theorem dX6_init_1 : decode cX6_init 1 = .ok (.invokespecial 1, 3) := by decide +kernel
theorem dX6_init_4 : decode cX6_init 4 = .ok (.aload_n 0, 1) := by decide +kernel
theorem dX6_init_5 : decode cX6_init 5 = .ok (.new 7, 3) := by decide +kernel
theorem dX6_init_8 : decode cX6_init 8 = .ok (.dup, 1) := by decide +kernel
theorem dX6_init_9 : decode cX6_init 9 = .ok (.invokespecial 9, 3) := by decide +kernel
theorem dX6_init_12 : decode cX6_init 12 = .ok (.putfield 10, 3) := by decide +kernel
theorem dX6_init_15 : decode cX6_init 15 = .ok (.aload_n 0, 1) := by decide +kernel
theorem dX6_init_16 : decode cX6_init 16 = .ok (.new 7, 3) := by decide +kernel
theorem dX6_init_19 : decode cX6_init 19 = .ok (.dup, 1) := by decide +kernel
theorem dX6_init_20 : decode cX6_init 20 = .ok (.invokespecial 9, 3) := by decide +kernel
theorem dX6_init_23 : decode cX6_init 23 = .ok (.putfield 16, 3) := by decide +kernel
theorem dX6_init_26 : decode cX6_init 26 = .ok (.aload_n 0, 1) := by decide +kernel
theorem dX6_init_27 : decode cX6_init 27 = .ok (.new 19, 3) := by decide +kernel
theorem dX6_init_30 : decode cX6_init 30 = .ok (.dup, 1) := by decide +kernel
theorem dX6_init_31 : decode cX6_init 31 = .ok (.iconst 0, 1) := by decide +kernel
theorem dX6_init_32 : decode cX6_init 32 = .ok (.iconst 0, 1) := by decide +kernel
theorem dX6_init_33 : decode cX6_init 33 = .ok (.sipush 400, 3) := by decide +kernel
theorem dX6_init_36 : decode cX6_init 36 = .ok (.iconst 0, 1) := by decide +kernel
theorem dX6_init_37 : decode cX6_init 37 = .ok (.invokespecial 21, 3) := by decide +kernel
theorem dX6_init_40 : decode cX6_init 40 = .ok (.putfield 24, 3) := by decide +kernel
theorem dX6_init_43 : decode cX6_init 43 = .ok (.aload_n 0, 1) := by decide +kernel
theorem dX6_init_44 : decode cX6_init 44 = .ok (.new 28, 3) := by decide +kernel
theorem dX6_init_47 : decode cX6_init 47 = .ok (.dup, 1) := by decide +kernel
theorem dX6_init_48 : decode cX6_init 48 = .ok (.invokespecial 30, 3) := by decide +kernel
theorem dX6_init_51 : decode cX6_init 51 = .ok (.putfield 31, 3) := by decide +kernel
theorem dX6_init_54 : decode cX6_init 54 = .ok (.aload_n 0, 1) := by decide +kernel
theorem dX6_init_55 : decode cX6_init 55 = .ok (.new 28, 3) := by decide +kernel
theorem dX6_init_58 : decode cX6_init 58 = .ok (.dup, 1) := by decide +kernel
theorem dX6_init_59 : decode cX6_init 59 = .ok (.invokespecial 30, 3) := by decide +kernel
theorem dX6_init_62 : decode cX6_init 62 = .ok (.putfield 35, 3) := by decide +kernel
theorem dX6_init_65 : decode cX6_init 65 = .ok (.aload_n 0, 1) := by decide +kernel
theorem dX6_init_66 : decode cX6_init 66 = .ok (.new 38, 3) := by decide +kernel
theorem dX6_init_69 : decode cX6_init 69 = .ok (.dup, 1) := by decide +kernel
theorem dX6_init_70 : decode cX6_init 70 = .ok (.invokespecial 40, 3) := by decide +kernel
theorem dX6_init_73 : decode cX6_init 73 = .ok (.putfield 41, 3) := by decide +kernel
theorem dX6_init_76 : decode cX6_init 76 = .ok (.aload_n 0, 1) := by decide +kernel
theorem dX6_init_77 : decode cX6_init 77 = .ok (.bipush 15, 2) := by decide +kernel
theorem dX6_init_79 : decode cX6_init 79 = .ok (.putfield 45, 3) := by decide +kernel
theorem dX6_init_82 : decode cX6_init 82 = .ok (.return_, 1) := by decide +kernel
theorem dX6_fence_0 : decode cX6_fence 0 = .ok (.iload_n 3, 1) := by decide +kernel
theorem dX6_fence_1 : decode cX6_fence 1 = .ok (.iconst 1, 1) := by decide +kernel
theorem dX6_fence_2 : decode cX6_fence 2 = .ok (.if_icmp .lt 9, 3) := by decide +kernel
theorem dX6_fence_5 : decode cX6_fence 5 = .ok (.iload_n 3, 1) := by decide +kernel
theorem dX6_fence_6 : decode cX6_fence 6 = .ok (.bipush 20, 2) := by decide +kernel
theorem dX6_fence_8 : decode cX6_fence 8 = .ok (.if_icmp .le 13, 3) := by decide +kernel
theorem dX6_fence_11 : decode cX6_fence 11 = .ok (.new 49, 3) := by decide +kernel
theorem dX6_fence_14 : decode cX6_fence 14 = .ok (.dup, 1) := by decide +kernel
theorem dX6_fence_15 : decode cX6_fence 15 = .ok (.ldc 51, 2) := by decide +kernel
theorem dX6_fence_17 : decode cX6_fence 17 = .ok (.invokespecial 53, 3) := by decide +kernel
theorem dX6_fence_20 : decode cX6_fence 20 = .ok (.athrow, 1) := by decide +kernel
theorem dX6_fence_21 : decode cX6_fence 21 = .ok (.iload 5, 2) := by decide +kernel
theorem dX6_fence_23 : decode cX6_fence 23 = .ok (.invokestatic 56, 3) := by decide +kernel
theorem dX6_fence_26 : decode cX6_fence 26 = .ok (.iload 6, 2) := by decide +kernel
theorem dX6_fence_28 : decode cX6_fence 28 = .ok (.invokestatic 60, 3) := by decide +kernel
theorem dX6_fence_31 : decode cX6_fence 31 = .ok (.iload_n 1, 1) := by decide +kernel
theorem dX6_fence_32 : decode cX6_fence 32 = .ok (.bipush 20, 2) := by decide +kernel
theorem dX6_fence_34 : decode cX6_fence 34 = .ok (.invokestatic 63, 3) := by decide +kernel
theorem dX6_fence_37 : decode cX6_fence 37 = .ok (.iload_n 2, 1) := by decide +kernel
theorem dX6_fence_38 : decode cX6_fence 38 = .ok (.bipush 20, 2) := by decide +kernel
theorem dX6_fence_40 : decode cX6_fence 40 = .ok (.invokestatic 63, 3) := by decide +kernel
theorem dX6_fence_43 : decode cX6_fence 43 = .ok (.iload 4, 2) := by decide +kernel
theorem dX6_fence_45 : decode cX6_fence 45 = .ok (.ifCond .eq 7, 3) := by decide +kernel
theorem dX6_fence_48 : decode cX6_fence 48 = .ok (.iload_n 2, 1) := by decide +kernel
theorem dX6_fence_49 : decode cX6_fence 49 = .ok (.goto 4, 3) := by decide +kernel
theorem dX6_fence_52 : decode cX6_fence 52 = .ok (.iload_n 1, 1) := by decide +kernel
theorem dX6_fence_53 : decode cX6_fence 53 = .ok (.iload_n 3, 1) := by decide +kernel
theorem dX6_fence_54 : decode cX6_fence 54 = .ok (.iadd, 1) := by decide +kernel
theorem dX6_fence_55 : decode cX6_fence 55 = .ok (.iconst 1, 1) := by decide +kernel
theorem dX6_fence_56 : decode cX6_fence 56 = .ok (.isub, 1) := by decide +kernel
theorem dX6_fence_57 : decode cX6_fence 57 = .ok (.bipush 20, 2) := by decide +kernel
theorem dX6_fence_59 : decode cX6_fence 59 = .ok (.invokestatic 63, 3) := by decide +kernel
theorem dX6_fence_62 : decode cX6_fence 62 = .ok (.aload_n 0, 1) := by decide +kernel
theorem dX6_fence_63 : decode cX6_fence 63 = .ok (.getfield 10, 3) := by decide +kernel
theorem dX6_fence_66 : decode cX6_fence 66 = .ok (.invokevirtual 67, 3) := by decide +kernel
theorem dX6_fence_69 : decode cX6_fence 69 = .ok (.bipush 10, 2) := by decide +kernel
theorem dX6_fence_71 : decode cX6_fence 71 = .ok (.if_icmp .lt 13, 3) := by decide +kernel
theorem dX6_fence_74 : decode cX6_fence 74 = .ok (.new 71, 3) := by decide +kernel
theorem dX6_fence_77 : decode cX6_fence 77 = .ok (.dup, 1) := by decide +kernel
theorem dX6_fence_78 : decode cX6_fence 78 = .ok (.ldc 73, 2) := by decide +kernel
theorem dX6_fence_80 : decode cX6_fence 80 = .ok (.invokespecial 75, 3) := by decide +kernel
theorem dX6_fence_83 : decode cX6_fence 83 = .ok (.athrow, 1) := by decide +kernel
theorem dX6_fence_84 : decode cX6_fence 84 = .ok (.aload_n 0, 1) := by decide +kernel
theorem dX6_fence_85 : decode cX6_fence 85 = .ok (.getfield 10, 3) := by decide +kernel
theorem dX6_fence_88 : decode cX6_fence 88 = .ok (.new 76, 3) := by decide +kernel
theorem dX6_fence_91 : decode cX6_fence 91 = .ok (.dup, 1) := by decide +kernel
theorem dX6_fence_92 : decode cX6_fence 92 = .ok (.iload_n 1, 1) := by decide +kernel
theorem dX6_fence_93 : decode cX6_fence 93 = .ok (.iload_n 2, 1) := by decide +kernel
theorem dX6_fence_94 : decode cX6_fence 94 = .ok (.new 19, 3) := by decide +kernel
theorem dX6_fence_97 : decode cX6_fence 97 = .ok (.dup, 1) := by decide +kernel
theorem dX6_fence_98 : decode cX6_fence 98 = .ok (.iload_n 1, 1) := by decide +kernel
theorem dX6_fence_99 : decode cX6_fence 99 = .ok (.iload_n 2, 1) := by decide +kernel
theorem dX6_fence_100 : decode cX6_fence 100 = .ok (.iload_n 3, 1) := by decide +kernel
theorem dX6_fence_101 : decode cX6_fence 101 = .ok (.iload 4, 2) := by decide +kernel
theorem dX6_fence_103 : decode cX6_fence 103 = .ok (.invokespecial 21, 3) := by decide +kernel
theorem dX6_fence_106 : decode cX6_fence 106 = .ok (.iload 5, 2) := by decide +kernel
theorem dX6_fence_108 : decode cX6_fence 108 = .ok (.iload 6, 2) := by decide +kernel
theorem dX6_fence_110 : decode cX6_fence 110 = .ok (.invokespecial 78, 3) := by decide +kernel
theorem dX6_fence_113 : decode cX6_fence 113 = .ok (.invokevirtual 81, 3) := by decide +kernel
theorem dX6_fence_116 : decode cX6_fence 116 = .ok (.pop, 1) := by decide +kernel
theorem dX6_fence_117 : decode cX6_fence 117 = .ok (.aload_n 0, 1) := by decide +kernel
theorem dX6_fence_118 : decode cX6_fence 118 = .ok (.getfield 10, 3) := by decide +kernel
theorem dX6_fence_121 : decode cX6_fence 121 = .ok (.invokevirtual 67, 3) := by decide +kernel
theorem dX6_fence_124 : decode cX6_fence 124 = .ok (.iconst 1, 1) := by decide +kernel
theorem dX6_fence_125 : decode cX6_fence 125 = .ok (.isub, 1) := by decide +kernel
theorem dX6_fence_126 : decode cX6_fence 126 = .ok (.ireturn, 1) := by decide +kernel
theorem dX6_change_0 : decode cX6_change 0 = .ok (.iload_n 1, 1) := by decide +kernel
theorem dX6_change_1 : decode cX6_change 1 = .ok (.aload_n 0, 1) := by decide +kernel
theorem dX6_change_2 : decode cX6_change 2 = .ok (.getfield 10, 3) := by decide +kernel
theorem dX6_change_5 : decode cX6_change 5 = .ok (.invokevirtual 67, 3) := by decide +kernel
theorem dX6_change_8 : decode cX6_change 8 = .ok (.invokestatic 63, 3) := by decide +kernel
theorem dX6_change_11 : decode cX6_change 11 = .ok (.iload_n 2, 1) := by decide +kernel
theorem dX6_change_12 : decode cX6_change 12 = .ok (.invokestatic 56, 3) := by decide +kernel
theorem dX6_change_15 : decode cX6_change 15 = .ok (.iload_n 3, 1) := by decide +kernel
theorem dX6_change_16 : decode cX6_change 16 = .ok (.invokestatic 60, 3) := by decide +kernel
theorem dX6_change_19 : decode cX6_change 19 = .ok (.aload_n 0, 1) := by decide +kernel
theorem dX6_change_20 : decode cX6_change 20 = .ok (.getfield 10, 3) := by decide +kernel
theorem dX6_change_23 : decode cX6_change 23 = .ok (.iload_n 1, 1) := by decide +kernel
theorem dX6_change_24 : decode cX6_change 24 = .ok (.invokevirtual 85, 3) := by decide +kernel
theorem dX6_change_27 : decode cX6_change 27 = .ok (.checkcast 76, 3) := by decide +kernel
theorem dX6_change_30 : decode cX6_change 30 = .ok (.astore 4, 2) := by decide +kernel
theorem dX6_change_32 : decode cX6_change 32 = .ok (.bipush 10, 2) := by decide +kernel
theorem dX6_change_34 : decode cX6_change 34 = .ok (.aload 4, 2) := by decide +kernel
theorem dX6_change_36 : decode cX6_change 36 = .ok (.getfield 89, 3) := by decide +kernel
theorem dX6_change_39 : decode cX6_change 39 = .ok (.imul, 1) := by decide +kernel
theorem dX6_change_40 : decode cX6_change 40 = .ok (.aload 4, 2) := by decide +kernel
theorem dX6_change_42 : decode cX6_change 42 = .ok (.getfield 92, 3) := by decide +kernel
theorem dX6_change_45 : decode cX6_change 45 = .ok (.iadd, 1) := by decide +kernel
theorem dX6_change_46 : decode cX6_change 46 = .ok (.istore 5, 2) := by decide +kernel
theorem dX6_change_48 : decode cX6_change 48 = .ok (.aload 4, 2) := by decide +kernel
theorem dX6_change_50 : decode cX6_change 50 = .ok (.iload_n 2, 1) := by decide +kernel
theorem dX6_change_51 : decode cX6_change 51 = .ok (.putfield 89, 3) := by decide +kernel
theorem dX6_change_54 : decode cX6_change 54 = .ok (.aload 4, 2) := by decide +kernel
theorem dX6_change_56 : decode cX6_change 56 = .ok (.iload_n 3, 1) := by decide +kernel
theorem dX6_change_57 : decode cX6_change 57 = .ok (.putfield 92, 3) := by decide +kernel
theorem dX6_change_60 : decode cX6_change 60 = .ok (.iload 5, 2) := by decide +kernel
theorem dX6_change_62 : decode cX6_change 62 = .ok (.ireturn, 1) := by decide +kernel
theorem dX6_take_0 : decode cX6_take 0 = .ok (.iload_n 1, 1) := by decide +kernel
theorem dX6_take_1 : decode cX6_take 1 = .ok (.aload_n 0, 1) := by decide +kernel
theorem dX6_take_2 : decode cX6_take 2 = .ok (.getfield 10, 3) := by decide +kernel
theorem dX6_take_5 : decode cX6_take 5 = .ok (.invokevirtual 67, 3) := by decide +kernel
theorem dX6_take_8 : decode cX6_take 8 = .ok (.invokestatic 63, 3) := by decide +kernel
theorem dX6_take_11 : decode cX6_take 11 = .ok (.aload_n 0, 1) := by decide +kernel
theorem dX6_take_12 : decode cX6_take 12 = .ok (.getfield 10, 3) := by decide +kernel
theorem dX6_take_15 : decode cX6_take 15 = .ok (.iload_n 1, 1) := by decide +kernel
theorem dX6_take_16 : decode cX6_take 16 = .ok (.invokevirtual 95, 3) := by decide +kernel
theorem dX6_take_19 : decode cX6_take 19 = .ok (.pop, 1) := by decide +kernel
theorem dX6_take_20 : decode cX6_take 20 = .ok (.aload_n 0, 1) := by decide +kernel
theorem dX6_take_21 : decode cX6_take 21 = .ok (.getfield 10, 3) := by decide +kernel
theorem dX6_take_24 : decode cX6_take 24 = .ok (.invokevirtual 67, 3) := by decide +kernel
theorem dX6_take_27 : decode cX6_take 27 = .ok (.ireturn, 1) := by decide +kernel
theorem dX6_road_0 : decode cX6_road 0 = .ok (.iload_n 2, 1) := by decide +kernel
theorem dX6_road_1 : decode cX6_road 1 = .ok (.bipush 20, 2) := by decide +kernel
theorem dX6_road_3 : decode cX6_road 3 = .ok (.invokestatic 63, 3) := by decide +kernel
theorem dX6_road_6 : decode cX6_road 6 = .ok (.aload_n 0, 1) := by decide +kernel
theorem dX6_road_7 : decode cX6_road 7 = .ok (.getfield 16, 3) := by decide +kernel
theorem dX6_road_10 : decode cX6_road 10 = .ok (.invokevirtual 67, 3) := by decide +kernel
theorem dX6_road_13 : decode cX6_road 13 = .ok (.iconst 4, 1) := by decide +kernel
theorem dX6_road_14 : decode cX6_road 14 = .ok (.if_icmp .lt 13, 3) := by decide +kernel
theorem dX6_road_17 : decode cX6_road 17 = .ok (.new 71, 3) := by decide +kernel
theorem dX6_road_20 : decode cX6_road 20 = .ok (.dup, 1) := by decide +kernel
theorem dX6_road_21 : decode cX6_road 21 = .ok (.ldc 98, 2) := by decide +kernel
theorem dX6_road_23 : decode cX6_road 23 = .ok (.invokespecial 75, 3) := by decide +kernel
theorem dX6_road_26 : decode cX6_road 26 = .ok (.athrow, 1) := by decide +kernel
theorem dX6_road_27 : decode cX6_road 27 = .ok (.aload_n 0, 1) := by decide +kernel
theorem dX6_road_28 : decode cX6_road 28 = .ok (.getfield 16, 3) := by decide +kernel
theorem dX6_road_31 : decode cX6_road 31 = .ok (.new 100, 3) := by decide +kernel
theorem dX6_road_34 : decode cX6_road 34 = .ok (.dup, 1) := by decide +kernel
theorem dX6_road_35 : decode cX6_road 35 = .ok (.iload_n 2, 1) := by decide +kernel
theorem dX6_road_36 : decode cX6_road 36 = .ok (.iload_n 1, 1) := by decide +kernel
theorem dX6_road_37 : decode cX6_road 37 = .ok (.iload_n 2, 1) := by decide +kernel
theorem dX6_road_38 : decode cX6_road 38 = .ok (.invokestatic 102, 3) := by decide +kernel
theorem dX6_road_41 : decode cX6_road 41 = .ok (.invokespecial 106, 3) := by decide +kernel
theorem dX6_road_44 : decode cX6_road 44 = .ok (.invokevirtual 81, 3) := by decide +kernel
theorem dX6_road_47 : decode cX6_road 47 = .ok (.pop, 1) := by decide +kernel
theorem dX6_road_48 : decode cX6_road 48 = .ok (.aload_n 0, 1) := by decide +kernel
theorem dX6_road_49 : decode cX6_road 49 = .ok (.getfield 16, 3) := by decide +kernel
theorem dX6_road_52 : decode cX6_road 52 = .ok (.invokevirtual 67, 3) := by decide +kernel
theorem dX6_road_55 : decode cX6_road 55 = .ok (.iconst 1, 1) := by decide +kernel
theorem dX6_road_56 : decode cX6_road 56 = .ok (.isub, 1) := by decide +kernel
theorem dX6_road_57 : decode cX6_road 57 = .ok (.ireturn, 1) := by decide +kernel
theorem dX6_setLimit_0 : decode cX6_setLimit 0 = .ok (.iload_n 1, 1) := by decide +kernel
theorem dX6_setLimit_1 : decode cX6_setLimit 1 = .ok (.iconst 1, 1) := by decide +kernel
theorem dX6_setLimit_2 : decode cX6_setLimit 2 = .ok (.if_icmp .lt 9, 3) := by decide +kernel
theorem dX6_setLimit_5 : decode cX6_setLimit 5 = .ok (.iload_n 1, 1) := by decide +kernel
theorem dX6_setLimit_6 : decode cX6_setLimit 6 = .ok (.bipush 60, 2) := by decide +kernel
theorem dX6_setLimit_8 : decode cX6_setLimit 8 = .ok (.if_icmp .le 13, 3) := by decide +kernel
theorem dX6_setLimit_11 : decode cX6_setLimit 11 = .ok (.new 49, 3) := by decide +kernel
theorem dX6_setLimit_14 : decode cX6_setLimit 14 = .ok (.dup, 1) := by decide +kernel
theorem dX6_setLimit_15 : decode cX6_setLimit 15 = .ok (.ldc 109, 2) := by decide +kernel
theorem dX6_setLimit_17 : decode cX6_setLimit 17 = .ok (.invokespecial 53, 3) := by decide +kernel
theorem dX6_setLimit_20 : decode cX6_setLimit 20 = .ok (.athrow, 1) := by decide +kernel
theorem dX6_setLimit_21 : decode cX6_setLimit 21 = .ok (.aload_n 0, 1) := by decide +kernel
theorem dX6_setLimit_22 : decode cX6_setLimit 22 = .ok (.getfield 45, 3) := by decide +kernel
theorem dX6_setLimit_25 : decode cX6_setLimit 25 = .ok (.istore_n 2, 1) := by decide +kernel
theorem dX6_setLimit_26 : decode cX6_setLimit 26 = .ok (.aload_n 0, 1) := by decide +kernel
theorem dX6_setLimit_27 : decode cX6_setLimit 27 = .ok (.iload_n 1, 1) := by decide +kernel
theorem dX6_setLimit_28 : decode cX6_setLimit 28 = .ok (.putfield 45, 3) := by decide +kernel
theorem dX6_setLimit_31 : decode cX6_setLimit 31 = .ok (.iload_n 2, 1) := by decide +kernel
theorem dX6_setLimit_32 : decode cX6_setLimit 32 = .ok (.ireturn, 1) := by decide +kernel
theorem dX6_setSupply_0 : decode cX6_setSupply 0 = .ok (.iload_n 1, 1) := by decide +kernel
theorem dX6_setSupply_1 : decode cX6_setSupply 1 = .ok (.ifCond .lt 9, 3) := by decide +kernel
theorem dX6_setSupply_4 : decode cX6_setSupply 4 = .ok (.iload_n 1, 1) := by decide +kernel
theorem dX6_setSupply_5 : decode cX6_setSupply 5 = .ok (.bipush 40, 2) := by decide +kernel
theorem dX6_setSupply_7 : decode cX6_setSupply 7 = .ok (.if_icmp .le 13, 3) := by decide +kernel
theorem dX6_setSupply_10 : decode cX6_setSupply 10 = .ok (.new 49, 3) := by decide +kernel
theorem dX6_setSupply_13 : decode cX6_setSupply 13 = .ok (.dup, 1) := by decide +kernel
theorem dX6_setSupply_14 : decode cX6_setSupply 14 = .ok (.ldc 111, 2) := by decide +kernel
theorem dX6_setSupply_16 : decode cX6_setSupply 16 = .ok (.invokespecial 53, 3) := by decide +kernel
theorem dX6_setSupply_19 : decode cX6_setSupply 19 = .ok (.athrow, 1) := by decide +kernel
theorem dX6_setSupply_20 : decode cX6_setSupply 20 = .ok (.aload_n 0, 1) := by decide +kernel
theorem dX6_setSupply_21 : decode cX6_setSupply 21 = .ok (.getfield 113, 3) := by decide +kernel
theorem dX6_setSupply_24 : decode cX6_setSupply 24 = .ok (.istore_n 2, 1) := by decide +kernel
theorem dX6_setSupply_25 : decode cX6_setSupply 25 = .ok (.aload_n 0, 1) := by decide +kernel
theorem dX6_setSupply_26 : decode cX6_setSupply 26 = .ok (.iload_n 1, 1) := by decide +kernel
theorem dX6_setSupply_27 : decode cX6_setSupply 27 = .ok (.putfield 113, 3) := by decide +kernel
theorem dX6_setSupply_30 : decode cX6_setSupply 30 = .ok (.iload_n 2, 1) := by decide +kernel
theorem dX6_setSupply_31 : decode cX6_setSupply 31 = .ok (.ireturn, 1) := by decide +kernel
theorem dX6_fall_0 : decode cX6_fall 0 = .ok (.iload_n 1, 1) := by decide +kernel
theorem dX6_fall_1 : decode cX6_fall 1 = .ok (.iconst 1, 1) := by decide +kernel
theorem dX6_fall_2 : decode cX6_fall 2 = .ok (.if_icmp .lt 9, 3) := by decide +kernel
theorem dX6_fall_5 : decode cX6_fall 5 = .ok (.iload_n 1, 1) := by decide +kernel
theorem dX6_fall_6 : decode cX6_fall 6 = .ok (.bipush 30, 2) := by decide +kernel
theorem dX6_fall_8 : decode cX6_fall 8 = .ok (.if_icmp .le 13, 3) := by decide +kernel
theorem dX6_fall_11 : decode cX6_fall 11 = .ok (.new 49, 3) := by decide +kernel
theorem dX6_fall_14 : decode cX6_fall 14 = .ok (.dup, 1) := by decide +kernel
theorem dX6_fall_15 : decode cX6_fall 15 = .ok (.ldc 116, 2) := by decide +kernel
theorem dX6_fall_17 : decode cX6_fall 17 = .ok (.invokespecial 53, 3) := by decide +kernel
theorem dX6_fall_20 : decode cX6_fall 20 = .ok (.athrow, 1) := by decide +kernel
theorem dX6_fall_21 : decode cX6_fall 21 = .ok (.aload_n 0, 1) := by decide +kernel
theorem dX6_fall_22 : decode cX6_fall 22 = .ok (.getfield 31, 3) := by decide +kernel
theorem dX6_fall_25 : decode cX6_fall 25 = .ok (.aload_n 0, 1) := by decide +kernel
theorem dX6_fall_26 : decode cX6_fall 26 = .ok (.getfield 24, 3) := by decide +kernel
theorem dX6_fall_29 : decode cX6_fall 29 = .ok (.invokevirtual 118, 3) := by decide +kernel
theorem dX6_fall_32 : decode cX6_fall 32 = .ok (.istore_n 2, 1) := by decide +kernel
theorem dX6_fall_33 : decode cX6_fall 33 = .ok (.iconst 0, 1) := by decide +kernel
theorem dX6_fall_34 : decode cX6_fall 34 = .ok (.istore_n 3, 1) := by decide +kernel
theorem dX6_fall_35 : decode cX6_fall 35 = .ok (.iload_n 3, 1) := by decide +kernel
theorem dX6_fall_36 : decode cX6_fall 36 = .ok (.sipush 400, 3) := by decide +kernel
theorem dX6_fall_39 : decode cX6_fall 39 = .ok (.if_icmp .ge 33, 3) := by decide +kernel
theorem dX6_fall_42 : decode cX6_fall 42 = .ok (.aload_n 0, 1) := by decide +kernel
theorem dX6_fall_43 : decode cX6_fall 43 = .ok (.getfield 31, 3) := by decide +kernel
theorem dX6_fall_46 : decode cX6_fall 46 = .ok (.iload_n 3, 1) := by decide +kernel
theorem dX6_fall_47 : decode cX6_fall 47 = .ok (.aload_n 0, 1) := by decide +kernel
theorem dX6_fall_48 : decode cX6_fall 48 = .ok (.getfield 31, 3) := by decide +kernel
theorem dX6_fall_51 : decode cX6_fall 51 = .ok (.iload_n 3, 1) := by decide +kernel
theorem dX6_fall_52 : decode cX6_fall 52 = .ok (.invokevirtual 122, 3) := by decide +kernel
theorem dX6_fall_55 : decode cX6_fall 55 = .ok (.iload_n 1, 1) := by decide +kernel
theorem dX6_fall_56 : decode cX6_fall 56 = .ok (.iadd, 1) := by decide +kernel
theorem dX6_fall_57 : decode cX6_fall 57 = .ok (.sipush 200, 3) := by decide +kernel
theorem dX6_fall_60 : decode cX6_fall 60 = .ok (.invokestatic 126, 3) := by decide +kernel
theorem dX6_fall_63 : decode cX6_fall 63 = .ok (.invokevirtual 132, 3) := by decide +kernel
theorem dX6_fall_66 : decode cX6_fall 66 = .ok (.iinc 3 1, 3) := by decide +kernel
theorem dX6_fall_69 : decode cX6_fall 69 = .ok (.goto (-34), 3) := by decide +kernel
theorem dX6_fall_72 : decode cX6_fall 72 = .ok (.aload_n 0, 1) := by decide +kernel
theorem dX6_fall_73 : decode cX6_fall 73 = .ok (.getfield 31, 3) := by decide +kernel
theorem dX6_fall_76 : decode cX6_fall 76 = .ok (.aload_n 0, 1) := by decide +kernel
theorem dX6_fall_77 : decode cX6_fall 77 = .ok (.getfield 24, 3) := by decide +kernel
theorem dX6_fall_80 : decode cX6_fall 80 = .ok (.invokevirtual 118, 3) := by decide +kernel
theorem dX6_fall_83 : decode cX6_fall 83 = .ok (.iload_n 2, 1) := by decide +kernel
theorem dX6_fall_84 : decode cX6_fall 84 = .ok (.isub, 1) := by decide +kernel
theorem dX6_fall_85 : decode cX6_fall 85 = .ok (.ireturn, 1) := by decide +kernel
theorem dX6_blow_0 : decode cX6_blow 0 = .ok (.iload_n 1, 1) := by decide +kernel
theorem dX6_blow_1 : decode cX6_blow 1 = .ok (.invokestatic 135, 3) := by decide +kernel
theorem dX6_blow_4 : decode cX6_blow 4 = .ok (.iload_n 2, 1) := by decide +kernel
theorem dX6_blow_5 : decode cX6_blow 5 = .ok (.invokestatic 138, 3) := by decide +kernel
theorem dX6_blow_8 : decode cX6_blow 8 = .ok (.iload_n 3, 1) := by decide +kernel
theorem dX6_blow_9 : decode cX6_blow 9 = .ok (.invokestatic 141, 3) := by decide +kernel
theorem dX6_blow_12 : decode cX6_blow 12 = .ok (.aload_n 0, 1) := by decide +kernel
theorem dX6_blow_13 : decode cX6_blow 13 = .ok (.iconst (-1), 1) := by decide +kernel
theorem dX6_blow_14 : decode cX6_blow 14 = .ok (.invokevirtual 144, 3) := by decide +kernel
theorem dX6_blow_17 : decode cX6_blow 17 = .ok (.aload_n 0, 1) := by decide +kernel
theorem dX6_blow_18 : decode cX6_blow 18 = .ok (.aload_n 0, 1) := by decide +kernel
theorem dX6_blow_19 : decode cX6_blow 19 = .ok (.getfield 31, 3) := by decide +kernel
theorem dX6_blow_22 : decode cX6_blow 22 = .ok (.new 147, 3) := by decide +kernel
theorem dX6_blow_25 : decode cX6_blow 25 = .ok (.dup, 1) := by decide +kernel
theorem dX6_blow_26 : decode cX6_blow 26 = .ok (.iload_n 1, 1) := by decide +kernel
theorem dX6_blow_27 : decode cX6_blow 27 = .ok (.iload_n 2, 1) := by decide +kernel
theorem dX6_blow_28 : decode cX6_blow 28 = .ok (.aload_n 0, 1) := by decide +kernel
theorem dX6_blow_29 : decode cX6_blow 29 = .ok (.getfield 113, 3) := by decide +kernel
theorem dX6_blow_32 : decode cX6_blow 32 = .ok (.invokespecial 149, 3) := by decide +kernel
theorem dX6_blow_35 : decode cX6_blow 35 = .ok (.iload_n 3, 1) := by decide +kernel
theorem dX6_blow_36 : decode cX6_blow 36 = .ok (.invokevirtual 152, 3) := by decide +kernel
theorem dX6_blow_39 : decode cX6_blow 39 = .ok (.istore 4, 2) := by decide +kernel
theorem dX6_blow_41 : decode cX6_blow 41 = .ok (.aload_n 0, 1) := by decide +kernel
theorem dX6_blow_42 : decode cX6_blow 42 = .ok (.dup, 1) := by decide +kernel
theorem dX6_blow_43 : decode cX6_blow 43 = .ok (.getfield 156, 3) := by decide +kernel
theorem dX6_blow_46 : decode cX6_blow 46 = .ok (.iload 4, 2) := by decide +kernel
theorem dX6_blow_48 : decode cX6_blow 48 = .ok (.iadd, 1) := by decide +kernel
theorem dX6_blow_49 : decode cX6_blow 49 = .ok (.putfield 156, 3) := by decide +kernel
theorem dX6_blow_52 : decode cX6_blow 52 = .ok (.aload_n 0, 1) := by decide +kernel
theorem dX6_blow_53 : decode cX6_blow 53 = .ok (.dup, 1) := by decide +kernel
theorem dX6_blow_54 : decode cX6_blow 54 = .ok (.getfield 159, 3) := by decide +kernel
theorem dX6_blow_57 : decode cX6_blow 57 = .ok (.iload_n 3, 1) := by decide +kernel
theorem dX6_blow_58 : decode cX6_blow 58 = .ok (.iadd, 1) := by decide +kernel
theorem dX6_blow_59 : decode cX6_blow 59 = .ok (.putfield 159, 3) := by decide +kernel
theorem dX6_blow_62 : decode cX6_blow 62 = .ok (.iload 4, 2) := by decide +kernel
theorem dX6_blow_64 : decode cX6_blow 64 = .ok (.ireturn, 1) := by decide +kernel
theorem dX6_plough_0 : decode cX6_plough 0 = .ok (.iload_n 1, 1) := by decide +kernel
theorem dX6_plough_1 : decode cX6_plough 1 = .ok (.aload_n 0, 1) := by decide +kernel
theorem dX6_plough_2 : decode cX6_plough 2 = .ok (.getfield 16, 3) := by decide +kernel
theorem dX6_plough_5 : decode cX6_plough 5 = .ok (.invokevirtual 67, 3) := by decide +kernel
theorem dX6_plough_8 : decode cX6_plough 8 = .ok (.invokestatic 63, 3) := by decide +kernel
theorem dX6_plough_11 : decode cX6_plough 11 = .ok (.aload_n 0, 1) := by decide +kernel
theorem dX6_plough_12 : decode cX6_plough 12 = .ok (.getfield 16, 3) := by decide +kernel
theorem dX6_plough_15 : decode cX6_plough 15 = .ok (.iload_n 1, 1) := by decide +kernel
theorem dX6_plough_16 : decode cX6_plough 16 = .ok (.invokevirtual 85, 3) := by decide +kernel
theorem dX6_plough_19 : decode cX6_plough 19 = .ok (.checkcast 100, 3) := by decide +kernel
theorem dX6_plough_22 : decode cX6_plough 22 = .ok (.getfield 162, 3) := by decide +kernel
theorem dX6_plough_25 : decode cX6_plough 25 = .ok (.astore_n 2, 1) := by decide +kernel
theorem dX6_plough_26 : decode cX6_plough 26 = .ok (.aload_n 0, 1) := by decide +kernel
theorem dX6_plough_27 : decode cX6_plough 27 = .ok (.getfield 31, 3) := by decide +kernel
theorem dX6_plough_30 : decode cX6_plough 30 = .ok (.aload_n 2, 1) := by decide +kernel
theorem dX6_plough_31 : decode cX6_plough 31 = .ok (.invokevirtual 118, 3) := by decide +kernel
theorem dX6_plough_34 : decode cX6_plough 34 = .ok (.istore_n 3, 1) := by decide +kernel
theorem dX6_plough_35 : decode cX6_plough 35 = .ok (.aload_n 0, 1) := by decide +kernel
theorem dX6_plough_36 : decode cX6_plough 36 = .ok (.getfield 31, 3) := by decide +kernel
theorem dX6_plough_39 : decode cX6_plough 39 = .ok (.aload_n 2, 1) := by decide +kernel
theorem dX6_plough_40 : decode cX6_plough 40 = .ok (.invokevirtual 165, 3) := by decide +kernel
theorem dX6_plough_43 : decode cX6_plough 43 = .ok (.aload_n 0, 1) := by decide +kernel
theorem dX6_plough_44 : decode cX6_plough 44 = .ok (.dup, 1) := by decide +kernel
theorem dX6_plough_45 : decode cX6_plough 45 = .ok (.getfield 169, 3) := by decide +kernel
theorem dX6_plough_48 : decode cX6_plough 48 = .ok (.iload_n 3, 1) := by decide +kernel
theorem dX6_plough_49 : decode cX6_plough 49 = .ok (.iadd, 1) := by decide +kernel
theorem dX6_plough_50 : decode cX6_plough 50 = .ok (.putfield 169, 3) := by decide +kernel
theorem dX6_plough_53 : decode cX6_plough 53 = .ok (.iload_n 3, 1) := by decide +kernel
theorem dX6_plough_54 : decode cX6_plough 54 = .ok (.ireturn, 1) := by decide +kernel
theorem dX6_snow_0 : decode cX6_snow 0 = .ok (.iload_n 1, 1) := by decide +kernel
theorem dX6_snow_1 : decode cX6_snow 1 = .ok (.bipush 20, 2) := by decide +kernel
theorem dX6_snow_3 : decode cX6_snow 3 = .ok (.invokestatic 63, 3) := by decide +kernel
theorem dX6_snow_6 : decode cX6_snow 6 = .ok (.iload_n 2, 1) := by decide +kernel
theorem dX6_snow_7 : decode cX6_snow 7 = .ok (.bipush 20, 2) := by decide +kernel
theorem dX6_snow_9 : decode cX6_snow 9 = .ok (.invokestatic 63, 3) := by decide +kernel
theorem dX6_snow_12 : decode cX6_snow 12 = .ok (.aload_n 0, 1) := by decide +kernel
theorem dX6_snow_13 : decode cX6_snow 13 = .ok (.getfield 31, 3) := by decide +kernel
theorem dX6_snow_16 : decode cX6_snow 16 = .ok (.iload_n 2, 1) := by decide +kernel
theorem dX6_snow_17 : decode cX6_snow 17 = .ok (.bipush 20, 2) := by decide +kernel
theorem dX6_snow_19 : decode cX6_snow 19 = .ok (.imul, 1) := by decide +kernel
theorem dX6_snow_20 : decode cX6_snow 20 = .ok (.iload_n 1, 1) := by decide +kernel
theorem dX6_snow_21 : decode cX6_snow 21 = .ok (.iadd, 1) := by decide +kernel
theorem dX6_snow_22 : decode cX6_snow 22 = .ok (.invokevirtual 122, 3) := by decide +kernel
theorem dX6_snow_25 : decode cX6_snow 25 = .ok (.ireturn, 1) := by decide +kernel
theorem dX6_about_0 : decode cX6_about 0 = .ok (.iload_n 1, 1) := by decide +kernel
theorem dX6_about_1 : decode cX6_about 1 = .ok (.aload_n 0, 1) := by decide +kernel
theorem dX6_about_2 : decode cX6_about 2 = .ok (.getfield 10, 3) := by decide +kernel
theorem dX6_about_5 : decode cX6_about 5 = .ok (.invokevirtual 67, 3) := by decide +kernel
theorem dX6_about_8 : decode cX6_about 8 = .ok (.invokestatic 63, 3) := by decide +kernel
theorem dX6_about_11 : decode cX6_about 11 = .ok (.iload_n 2, 1) := by decide +kernel
theorem dX6_about_12 : decode cX6_about 12 = .ok (.bipush 7, 2) := by decide +kernel
theorem dX6_about_14 : decode cX6_about 14 = .ok (.invokestatic 63, 3) := by decide +kernel
theorem dX6_about_17 : decode cX6_about 17 = .ok (.aload_n 0, 1) := by decide +kernel
theorem dX6_about_18 : decode cX6_about 18 = .ok (.getfield 10, 3) := by decide +kernel
theorem dX6_about_21 : decode cX6_about 21 = .ok (.iload_n 1, 1) := by decide +kernel
theorem dX6_about_22 : decode cX6_about 22 = .ok (.invokevirtual 85, 3) := by decide +kernel
theorem dX6_about_25 : decode cX6_about 25 = .ok (.checkcast 76, 3) := by decide +kernel
theorem dX6_about_28 : decode cX6_about 28 = .ok (.astore_n 3, 1) := by decide +kernel
theorem dX6_about_29 : decode cX6_about 29 = .ok (.iload_n 2, 1) := by decide +kernel
theorem dX6_about_30 : decode cX6_about 30 = .ok (.tableswitch 82 0 5 #[38, 43, 48, 56, 72, 77], 38) := by decide +kernel
theorem dX6_about_68 : decode cX6_about 68 = .ok (.aload_n 3, 1) := by decide +kernel
theorem dX6_about_69 : decode cX6_about 69 = .ok (.getfield 172, 3) := by decide +kernel
theorem dX6_about_72 : decode cX6_about 72 = .ok (.ireturn, 1) := by decide +kernel
theorem dX6_about_73 : decode cX6_about 73 = .ok (.aload_n 3, 1) := by decide +kernel
theorem dX6_about_74 : decode cX6_about 74 = .ok (.getfield 175, 3) := by decide +kernel
theorem dX6_about_77 : decode cX6_about 77 = .ok (.ireturn, 1) := by decide +kernel
theorem dX6_about_78 : decode cX6_about 78 = .ok (.aload_n 3, 1) := by decide +kernel
theorem dX6_about_79 : decode cX6_about 79 = .ok (.getfield 178, 3) := by decide +kernel
theorem dX6_about_82 : decode cX6_about 82 = .ok (.getfield 179, 3) := by decide +kernel
theorem dX6_about_85 : decode cX6_about 85 = .ok (.ireturn, 1) := by decide +kernel
theorem dX6_about_86 : decode cX6_about 86 = .ok (.aload_n 3, 1) := by decide +kernel
theorem dX6_about_87 : decode cX6_about 87 = .ok (.getfield 178, 3) := by decide +kernel
theorem dX6_about_90 : decode cX6_about 90 = .ok (.getfield 182, 3) := by decide +kernel
theorem dX6_about_93 : decode cX6_about 93 = .ok (.ifCond .eq 7, 3) := by decide +kernel
theorem dX6_about_96 : decode cX6_about 96 = .ok (.iconst 1, 1) := by decide +kernel
theorem dX6_about_97 : decode cX6_about 97 = .ok (.goto 4, 3) := by decide +kernel
theorem dX6_about_100 : decode cX6_about 100 = .ok (.iconst 0, 1) := by decide +kernel
theorem dX6_about_101 : decode cX6_about 101 = .ok (.ireturn, 1) := by decide +kernel
theorem dX6_about_102 : decode cX6_about 102 = .ok (.aload_n 3, 1) := by decide +kernel
theorem dX6_about_103 : decode cX6_about 103 = .ok (.getfield 89, 3) := by decide +kernel
theorem dX6_about_106 : decode cX6_about 106 = .ok (.ireturn, 1) := by decide +kernel
theorem dX6_about_107 : decode cX6_about 107 = .ok (.aload_n 3, 1) := by decide +kernel
theorem dX6_about_108 : decode cX6_about 108 = .ok (.getfield 92, 3) := by decide +kernel
theorem dX6_about_111 : decode cX6_about 111 = .ok (.ireturn, 1) := by decide +kernel
theorem dX6_about_112 : decode cX6_about 112 = .ok (.aload_n 0, 1) := by decide +kernel
theorem dX6_about_113 : decode cX6_about 113 = .ok (.getfield 31, 3) := by decide +kernel
theorem dX6_about_116 : decode cX6_about 116 = .ok (.aload_n 3, 1) := by decide +kernel
theorem dX6_about_117 : decode cX6_about 117 = .ok (.getfield 178, 3) := by decide +kernel
theorem dX6_about_120 : decode cX6_about 120 = .ok (.invokevirtual 118, 3) := by decide +kernel
theorem dX6_about_123 : decode cX6_about 123 = .ok (.ireturn, 1) := by decide +kernel
theorem dX6_told_0 : decode cX6_told 0 = .ok (.iload_n 1, 1) := by decide +kernel
theorem dX6_told_1 : decode cX6_told 1 = .ok (.aload_n 0, 1) := by decide +kernel
theorem dX6_told_2 : decode cX6_told 2 = .ok (.getfield 16, 3) := by decide +kernel
theorem dX6_told_5 : decode cX6_told 5 = .ok (.invokevirtual 67, 3) := by decide +kernel
theorem dX6_told_8 : decode cX6_told 8 = .ok (.invokestatic 63, 3) := by decide +kernel
theorem dX6_told_11 : decode cX6_told 11 = .ok (.iload_n 2, 1) := by decide +kernel
theorem dX6_told_12 : decode cX6_told 12 = .ok (.iconst 5, 1) := by decide +kernel
theorem dX6_told_13 : decode cX6_told 13 = .ok (.invokestatic 63, 3) := by decide +kernel
theorem dX6_told_16 : decode cX6_told 16 = .ok (.aload_n 0, 1) := by decide +kernel
theorem dX6_told_17 : decode cX6_told 17 = .ok (.getfield 16, 3) := by decide +kernel
theorem dX6_told_20 : decode cX6_told 20 = .ok (.iload_n 1, 1) := by decide +kernel
theorem dX6_told_21 : decode cX6_told 21 = .ok (.invokevirtual 85, 3) := by decide +kernel
theorem dX6_told_24 : decode cX6_told 24 = .ok (.checkcast 100, 3) := by decide +kernel
theorem dX6_told_27 : decode cX6_told 27 = .ok (.astore_n 3, 1) := by decide +kernel
theorem dX6_told_28 : decode cX6_told 28 = .ok (.iload_n 2, 1) := by decide +kernel
theorem dX6_told_29 : decode cX6_told 29 = .ok (.tableswitch 80 0 3 #[31, 47, 52, 68], 31) := by decide +kernel
theorem dX6_told_60 : decode cX6_told 60 = .ok (.aload_n 3, 1) := by decide +kernel
theorem dX6_told_61 : decode cX6_told 61 = .ok (.getfield 162, 3) := by decide +kernel
theorem dX6_told_64 : decode cX6_told 64 = .ok (.getfield 182, 3) := by decide +kernel
theorem dX6_told_67 : decode cX6_told 67 = .ok (.ifCond .eq 7, 3) := by decide +kernel
theorem dX6_told_70 : decode cX6_told 70 = .ok (.iconst 1, 1) := by decide +kernel
theorem dX6_told_71 : decode cX6_told 71 = .ok (.goto 4, 3) := by decide +kernel
theorem dX6_told_74 : decode cX6_told 74 = .ok (.iconst 0, 1) := by decide +kernel
theorem dX6_told_75 : decode cX6_told 75 = .ok (.ireturn, 1) := by decide +kernel
theorem dX6_told_76 : decode cX6_told 76 = .ok (.aload_n 3, 1) := by decide +kernel
theorem dX6_told_77 : decode cX6_told 77 = .ok (.getfield 186, 3) := by decide +kernel
theorem dX6_told_80 : decode cX6_told 80 = .ok (.ireturn, 1) := by decide +kernel
theorem dX6_told_81 : decode cX6_told 81 = .ok (.aload_n 0, 1) := by decide +kernel
theorem dX6_told_82 : decode cX6_told 82 = .ok (.getfield 31, 3) := by decide +kernel
theorem dX6_told_85 : decode cX6_told 85 = .ok (.aload_n 3, 1) := by decide +kernel
theorem dX6_told_86 : decode cX6_told 86 = .ok (.getfield 162, 3) := by decide +kernel
theorem dX6_told_89 : decode cX6_told 89 = .ok (.aload_n 0, 1) := by decide +kernel
theorem dX6_told_90 : decode cX6_told 90 = .ok (.getfield 45, 3) := by decide +kernel
theorem dX6_told_93 : decode cX6_told 93 = .ok (.invokevirtual 189, 3) := by decide +kernel
theorem dX6_told_96 : decode cX6_told 96 = .ok (.ireturn, 1) := by decide +kernel
theorem dX6_told_97 : decode cX6_told 97 = .ok (.aload_n 0, 1) := by decide +kernel
theorem dX6_told_98 : decode cX6_told 98 = .ok (.getfield 31, 3) := by decide +kernel
theorem dX6_told_101 : decode cX6_told 101 = .ok (.aload_n 3, 1) := by decide +kernel
theorem dX6_told_102 : decode cX6_told 102 = .ok (.getfield 162, 3) := by decide +kernel
theorem dX6_told_105 : decode cX6_told 105 = .ok (.invokevirtual 118, 3) := by decide +kernel
theorem dX6_told_108 : decode cX6_told 108 = .ok (.ireturn, 1) := by decide +kernel
theorem dX6_told_109 : decode cX6_told 109 = .ok (.aload_n 0, 1) := by decide +kernel
theorem dX6_told_110 : decode cX6_told 110 = .ok (.getfield 31, 3) := by decide +kernel
theorem dX6_told_113 : decode cX6_told 113 = .ok (.aload_n 3, 1) := by decide +kernel
theorem dX6_told_114 : decode cX6_told 114 = .ok (.getfield 162, 3) := by decide +kernel
theorem dX6_told_117 : decode cX6_told 117 = .ok (.invokevirtual 193, 3) := by decide +kernel
theorem dX6_told_120 : decode cX6_told 120 = .ok (.ireturn, 1) := by decide +kernel
theorem dX6_count_0 : decode cX6_count 0 = .ok (.iload_n 1, 1) := by decide +kernel
theorem dX6_count_1 : decode cX6_count 1 = .ok (.bipush 10, 2) := by decide +kernel
theorem dX6_count_3 : decode cX6_count 3 = .ok (.invokestatic 63, 3) := by decide +kernel
theorem dX6_count_6 : decode cX6_count 6 = .ok (.iload_n 1, 1) := by decide +kernel
theorem dX6_count_7 : decode cX6_count 7 = .ok (.tableswitch 118 0 8 #[49, 57, 65, 77, 89, 98, 103, 108, 113], 49) := by decide +kernel
theorem dX6_count_56 : decode cX6_count 56 = .ok (.aload_n 0, 1) := by decide +kernel
theorem dX6_count_57 : decode cX6_count 57 = .ok (.getfield 10, 3) := by decide +kernel
theorem dX6_count_60 : decode cX6_count 60 = .ok (.invokevirtual 67, 3) := by decide +kernel
theorem dX6_count_63 : decode cX6_count 63 = .ok (.ireturn, 1) := by decide +kernel
theorem dX6_count_64 : decode cX6_count 64 = .ok (.aload_n 0, 1) := by decide +kernel
theorem dX6_count_65 : decode cX6_count 65 = .ok (.getfield 16, 3) := by decide +kernel
theorem dX6_count_68 : decode cX6_count 68 = .ok (.invokevirtual 67, 3) := by decide +kernel
theorem dX6_count_71 : decode cX6_count 71 = .ok (.ireturn, 1) := by decide +kernel
theorem dX6_count_72 : decode cX6_count 72 = .ok (.aload_n 0, 1) := by decide +kernel
theorem dX6_count_73 : decode cX6_count 73 = .ok (.getfield 31, 3) := by decide +kernel
theorem dX6_count_76 : decode cX6_count 76 = .ok (.aload_n 0, 1) := by decide +kernel
theorem dX6_count_77 : decode cX6_count 77 = .ok (.getfield 24, 3) := by decide +kernel
theorem dX6_count_80 : decode cX6_count 80 = .ok (.invokevirtual 118, 3) := by decide +kernel
theorem dX6_count_83 : decode cX6_count 83 = .ok (.ireturn, 1) := by decide +kernel
theorem dX6_count_84 : decode cX6_count 84 = .ok (.aload_n 0, 1) := by decide +kernel
theorem dX6_count_85 : decode cX6_count 85 = .ok (.getfield 31, 3) := by decide +kernel
theorem dX6_count_88 : decode cX6_count 88 = .ok (.aload_n 0, 1) := by decide +kernel
theorem dX6_count_89 : decode cX6_count 89 = .ok (.getfield 24, 3) := by decide +kernel
theorem dX6_count_92 : decode cX6_count 92 = .ok (.invokevirtual 193, 3) := by decide +kernel
theorem dX6_count_95 : decode cX6_count 95 = .ok (.ireturn, 1) := by decide +kernel
theorem dX6_count_96 : decode cX6_count 96 = .ok (.aload_n 0, 1) := by decide +kernel
theorem dX6_count_97 : decode cX6_count 97 = .ok (.aload_n 0, 1) := by decide +kernel
theorem dX6_count_98 : decode cX6_count 98 = .ok (.getfield 31, 3) := by decide +kernel
theorem dX6_count_101 : decode cX6_count 101 = .ok (.invokevirtual 196, 3) := by decide +kernel
theorem dX6_count_104 : decode cX6_count 104 = .ok (.ireturn, 1) := by decide +kernel
theorem dX6_count_105 : decode cX6_count 105 = .ok (.aload_n 0, 1) := by decide +kernel
theorem dX6_count_106 : decode cX6_count 106 = .ok (.getfield 156, 3) := by decide +kernel
theorem dX6_count_109 : decode cX6_count 109 = .ok (.ireturn, 1) := by decide +kernel
theorem dX6_count_110 : decode cX6_count 110 = .ok (.aload_n 0, 1) := by decide +kernel
theorem dX6_count_111 : decode cX6_count 111 = .ok (.getfield 169, 3) := by decide +kernel
theorem dX6_count_114 : decode cX6_count 114 = .ok (.ireturn, 1) := by decide +kernel
theorem dX6_count_115 : decode cX6_count 115 = .ok (.aload_n 0, 1) := by decide +kernel
theorem dX6_count_116 : decode cX6_count 116 = .ok (.getfield 159, 3) := by decide +kernel
theorem dX6_count_119 : decode cX6_count 119 = .ok (.ireturn, 1) := by decide +kernel
theorem dX6_count_120 : decode cX6_count 120 = .ok (.aload_n 0, 1) := by decide +kernel
theorem dX6_count_121 : decode cX6_count 121 = .ok (.getfield 45, 3) := by decide +kernel
theorem dX6_count_124 : decode cX6_count 124 = .ok (.ireturn, 1) := by decide +kernel
theorem dX6_count_125 : decode cX6_count 125 = .ok (.aload_n 0, 1) := by decide +kernel
theorem dX6_count_126 : decode cX6_count 126 = .ok (.getfield 113, 3) := by decide +kernel
theorem dX6_count_129 : decode cX6_count 129 = .ok (.ireturn, 1) := by decide +kernel
theorem dX6_would_0 : decode cX6_would 0 = .ok (.iload_n 1, 1) := by decide +kernel
theorem dX6_would_1 : decode cX6_would 1 = .ok (.invokestatic 135, 3) := by decide +kernel
theorem dX6_would_4 : decode cX6_would 4 = .ok (.iload 4, 2) := by decide +kernel
theorem dX6_would_6 : decode cX6_would 6 = .ok (.aload_n 0, 1) := by decide +kernel
theorem dX6_would_7 : decode cX6_would 7 = .ok (.getfield 16, 3) := by decide +kernel
theorem dX6_would_10 : decode cX6_would 10 = .ok (.invokevirtual 67, 3) := by decide +kernel
theorem dX6_would_13 : decode cX6_would 13 = .ok (.invokestatic 63, 3) := by decide +kernel
theorem dX6_would_16 : decode cX6_would 16 = .ok (.iload_n 2, 1) := by decide +kernel
theorem dX6_would_17 : decode cX6_would 17 = .ok (.invokestatic 138, 3) := by decide +kernel
theorem dX6_would_20 : decode cX6_would 20 = .ok (.iload_n 3, 1) := by decide +kernel
theorem dX6_would_21 : decode cX6_would 21 = .ok (.invokestatic 141, 3) := by decide +kernel
theorem dX6_would_24 : decode cX6_would 24 = .ok (.aload_n 0, 1) := by decide +kernel
theorem dX6_would_25 : decode cX6_would 25 = .ok (.iconst (-1), 1) := by decide +kernel
theorem dX6_would_26 : decode cX6_would 26 = .ok (.invokevirtual 144, 3) := by decide +kernel
theorem dX6_would_29 : decode cX6_would 29 = .ok (.aload_n 0, 1) := by decide +kernel
theorem dX6_would_30 : decode cX6_would 30 = .ok (.getfield 35, 3) := by decide +kernel
theorem dX6_would_33 : decode cX6_would 33 = .ok (.aload_n 0, 1) := by decide +kernel
theorem dX6_would_34 : decode cX6_would 34 = .ok (.getfield 31, 3) := by decide +kernel
theorem dX6_would_37 : decode cX6_would 37 = .ok (.invokevirtual 200, 3) := by decide +kernel
theorem dX6_would_40 : decode cX6_would 40 = .ok (.aload_n 0, 1) := by decide +kernel
theorem dX6_would_41 : decode cX6_would 41 = .ok (.aload_n 0, 1) := by decide +kernel
theorem dX6_would_42 : decode cX6_would 42 = .ok (.getfield 35, 3) := by decide +kernel
theorem dX6_would_45 : decode cX6_would 45 = .ok (.new 147, 3) := by decide +kernel
theorem dX6_would_48 : decode cX6_would 48 = .ok (.dup, 1) := by decide +kernel
theorem dX6_would_49 : decode cX6_would 49 = .ok (.iload_n 1, 1) := by decide +kernel
theorem dX6_would_50 : decode cX6_would 50 = .ok (.iload_n 2, 1) := by decide +kernel
theorem dX6_would_51 : decode cX6_would 51 = .ok (.aload_n 0, 1) := by decide +kernel
theorem dX6_would_52 : decode cX6_would 52 = .ok (.getfield 113, 3) := by decide +kernel
theorem dX6_would_55 : decode cX6_would 55 = .ok (.invokespecial 149, 3) := by decide +kernel
theorem dX6_would_58 : decode cX6_would 58 = .ok (.iload_n 3, 1) := by decide +kernel
theorem dX6_would_59 : decode cX6_would 59 = .ok (.invokevirtual 152, 3) := by decide +kernel
theorem dX6_would_62 : decode cX6_would 62 = .ok (.pop, 1) := by decide +kernel
theorem dX6_would_63 : decode cX6_would 63 = .ok (.aload_n 0, 1) := by decide +kernel
theorem dX6_would_64 : decode cX6_would 64 = .ok (.getfield 35, 3) := by decide +kernel
theorem dX6_would_67 : decode cX6_would 67 = .ok (.aload_n 0, 1) := by decide +kernel
theorem dX6_would_68 : decode cX6_would 68 = .ok (.getfield 16, 3) := by decide +kernel
theorem dX6_would_71 : decode cX6_would 71 = .ok (.iload 4, 2) := by decide +kernel
theorem dX6_would_73 : decode cX6_would 73 = .ok (.invokevirtual 85, 3) := by decide +kernel
theorem dX6_would_76 : decode cX6_would 76 = .ok (.checkcast 100, 3) := by decide +kernel
theorem dX6_would_79 : decode cX6_would 79 = .ok (.getfield 162, 3) := by decide +kernel
theorem dX6_would_82 : decode cX6_would 82 = .ok (.aload_n 0, 1) := by decide +kernel
theorem dX6_would_83 : decode cX6_would 83 = .ok (.getfield 45, 3) := by decide +kernel
theorem dX6_would_86 : decode cX6_would 86 = .ok (.invokevirtual 189, 3) := by decide +kernel
theorem dX6_would_89 : decode cX6_would 89 = .ok (.ireturn, 1) := by decide +kernel
theorem dX6_until_0 : decode cX6_until 0 = .ok (.iload_n 1, 1) := by decide +kernel
theorem dX6_until_1 : decode cX6_until 1 = .ok (.invokestatic 135, 3) := by decide +kernel
theorem dX6_until_4 : decode cX6_until 4 = .ok (.iload_n 3, 1) := by decide +kernel
theorem dX6_until_5 : decode cX6_until 5 = .ok (.aload_n 0, 1) := by decide +kernel
theorem dX6_until_6 : decode cX6_until 6 = .ok (.getfield 16, 3) := by decide +kernel
theorem dX6_until_9 : decode cX6_until 9 = .ok (.invokevirtual 67, 3) := by decide +kernel
theorem dX6_until_12 : decode cX6_until 12 = .ok (.invokestatic 63, 3) := by decide +kernel
theorem dX6_until_15 : decode cX6_until 15 = .ok (.iload_n 2, 1) := by decide +kernel
theorem dX6_until_16 : decode cX6_until 16 = .ok (.invokestatic 138, 3) := by decide +kernel
theorem dX6_until_19 : decode cX6_until 19 = .ok (.aload_n 0, 1) := by decide +kernel
theorem dX6_until_20 : decode cX6_until 20 = .ok (.getfield 16, 3) := by decide +kernel
theorem dX6_until_23 : decode cX6_until 23 = .ok (.iload_n 3, 1) := by decide +kernel
theorem dX6_until_24 : decode cX6_until 24 = .ok (.invokevirtual 85, 3) := by decide +kernel
theorem dX6_until_27 : decode cX6_until 27 = .ok (.checkcast 100, 3) := by decide +kernel
theorem dX6_until_30 : decode cX6_until 30 = .ok (.getfield 162, 3) := by decide +kernel
theorem dX6_until_33 : decode cX6_until 33 = .ok (.astore 4, 2) := by decide +kernel
theorem dX6_until_35 : decode cX6_until 35 = .ok (.new 147, 3) := by decide +kernel
theorem dX6_until_38 : decode cX6_until 38 = .ok (.dup, 1) := by decide +kernel
theorem dX6_until_39 : decode cX6_until 39 = .ok (.iload_n 1, 1) := by decide +kernel
theorem dX6_until_40 : decode cX6_until 40 = .ok (.iload_n 2, 1) := by decide +kernel
theorem dX6_until_41 : decode cX6_until 41 = .ok (.aload_n 0, 1) := by decide +kernel
theorem dX6_until_42 : decode cX6_until 42 = .ok (.getfield 113, 3) := by decide +kernel
theorem dX6_until_45 : decode cX6_until 45 = .ok (.invokespecial 149, 3) := by decide +kernel
theorem dX6_until_48 : decode cX6_until 48 = .ok (.astore 5, 2) := by decide +kernel
theorem dX6_until_50 : decode cX6_until 50 = .ok (.aload_n 0, 1) := by decide +kernel
theorem dX6_until_51 : decode cX6_until 51 = .ok (.iconst (-1), 1) := by decide +kernel
theorem dX6_until_52 : decode cX6_until 52 = .ok (.invokevirtual 144, 3) := by decide +kernel
theorem dX6_until_55 : decode cX6_until 55 = .ok (.aload_n 0, 1) := by decide +kernel
theorem dX6_until_56 : decode cX6_until 56 = .ok (.getfield 35, 3) := by decide +kernel
theorem dX6_until_59 : decode cX6_until 59 = .ok (.aload_n 0, 1) := by decide +kernel
theorem dX6_until_60 : decode cX6_until 60 = .ok (.getfield 31, 3) := by decide +kernel
theorem dX6_until_63 : decode cX6_until 63 = .ok (.invokevirtual 200, 3) := by decide +kernel
theorem dX6_until_66 : decode cX6_until 66 = .ok (.iconst 0, 1) := by decide +kernel
theorem dX6_until_67 : decode cX6_until 67 = .ok (.istore 6, 2) := by decide +kernel
theorem dX6_until_69 : decode cX6_until 69 = .ok (.iload 6, 2) := by decide +kernel
theorem dX6_until_71 : decode cX6_until 71 = .ok (.bipush 48, 2) := by decide +kernel
theorem dX6_until_73 : decode cX6_until 73 = .ok (.if_icmp .gt 40, 3) := by decide +kernel
theorem dX6_until_76 : decode cX6_until 76 = .ok (.aload_n 0, 1) := by decide +kernel
theorem dX6_until_77 : decode cX6_until 77 = .ok (.getfield 35, 3) := by decide +kernel
theorem dX6_until_80 : decode cX6_until 80 = .ok (.aload 4, 2) := by decide +kernel
theorem dX6_until_82 : decode cX6_until 82 = .ok (.aload_n 0, 1) := by decide +kernel
theorem dX6_until_83 : decode cX6_until 83 = .ok (.getfield 45, 3) := by decide +kernel
theorem dX6_until_86 : decode cX6_until 86 = .ok (.invokevirtual 189, 3) := by decide +kernel
theorem dX6_until_89 : decode cX6_until 89 = .ok (.ifCond .le 6, 3) := by decide +kernel
theorem dX6_until_92 : decode cX6_until 92 = .ok (.iload 6, 2) := by decide +kernel
theorem dX6_until_94 : decode cX6_until 94 = .ok (.ireturn, 1) := by decide +kernel
theorem dX6_until_95 : decode cX6_until 95 = .ok (.aload_n 0, 1) := by decide +kernel
theorem dX6_until_96 : decode cX6_until 96 = .ok (.aload_n 0, 1) := by decide +kernel
theorem dX6_until_97 : decode cX6_until 97 = .ok (.getfield 35, 3) := by decide +kernel
theorem dX6_until_100 : decode cX6_until 100 = .ok (.aload 5, 2) := by decide +kernel
theorem dX6_until_102 : decode cX6_until 102 = .ok (.iconst 1, 1) := by decide +kernel
theorem dX6_until_103 : decode cX6_until 103 = .ok (.invokevirtual 152, 3) := by decide +kernel
theorem dX6_until_106 : decode cX6_until 106 = .ok (.pop, 1) := by decide +kernel
theorem dX6_until_107 : decode cX6_until 107 = .ok (.iinc 6 1, 3) := by decide +kernel
theorem dX6_until_110 : decode cX6_until 110 = .ok (.goto (-41), 3) := by decide +kernel
theorem dX6_until_113 : decode cX6_until 113 = .ok (.iconst (-1), 1) := by decide +kernel
theorem dX6_until_114 : decode cX6_until 114 = .ok (.ireturn, 1) := by decide +kernel
theorem dX6_advise_0 : decode cX6_advise 0 = .ok (.iload_n 1, 1) := by decide +kernel
theorem dX6_advise_1 : decode cX6_advise 1 = .ok (.invokestatic 135, 3) := by decide +kernel
theorem dX6_advise_4 : decode cX6_advise 4 = .ok (.iload_n 2, 1) := by decide +kernel
theorem dX6_advise_5 : decode cX6_advise 5 = .ok (.invokestatic 138, 3) := by decide +kernel
theorem dX6_advise_8 : decode cX6_advise 8 = .ok (.iload_n 3, 1) := by decide +kernel
theorem dX6_advise_9 : decode cX6_advise 9 = .ok (.invokestatic 56, 3) := by decide +kernel
theorem dX6_advise_12 : decode cX6_advise 12 = .ok (.new 147, 3) := by decide +kernel
theorem dX6_advise_15 : decode cX6_advise 15 = .ok (.dup, 1) := by decide +kernel
theorem dX6_advise_16 : decode cX6_advise 16 = .ok (.iload_n 1, 1) := by decide +kernel
theorem dX6_advise_17 : decode cX6_advise 17 = .ok (.iload_n 2, 1) := by decide +kernel
theorem dX6_advise_18 : decode cX6_advise 18 = .ok (.aload_n 0, 1) := by decide +kernel
theorem dX6_advise_19 : decode cX6_advise 19 = .ok (.getfield 113, 3) := by decide +kernel
theorem dX6_advise_22 : decode cX6_advise 22 = .ok (.invokespecial 149, 3) := by decide +kernel
theorem dX6_advise_25 : decode cX6_advise 25 = .ok (.astore 4, 2) := by decide +kernel
theorem dX6_advise_27 : decode cX6_advise 27 = .ok (.iconst 0, 1) := by decide +kernel
theorem dX6_advise_28 : decode cX6_advise 28 = .ok (.istore 5, 2) := by decide +kernel
theorem dX6_advise_30 : decode cX6_advise 30 = .ok (.bipush 81, 2) := by decide +kernel
theorem dX6_advise_32 : decode cX6_advise 32 = .ok (.istore 6, 2) := by decide +kernel
theorem dX6_advise_34 : decode cX6_advise 34 = .ok (.iconst 0, 1) := by decide +kernel
theorem dX6_advise_35 : decode cX6_advise 35 = .ok (.istore 7, 2) := by decide +kernel
theorem dX6_advise_37 : decode cX6_advise 37 = .ok (.iload 7, 2) := by decide +kernel
theorem dX6_advise_39 : decode cX6_advise 39 = .ok (.bipush 20, 2) := by decide +kernel
theorem dX6_advise_41 : decode cX6_advise 41 = .ok (.if_icmp .ge 64, 3) := by decide +kernel
end
section
theorem dX6_advise_44 : decode cX6_advise 44 = .ok (.aload_n 0, 1) := by decide +kernel
theorem dX6_advise_45 : decode cX6_advise 45 = .ok (.iconst (-1), 1) := by decide +kernel
theorem dX6_advise_46 : decode cX6_advise 46 = .ok (.invokevirtual 144, 3) := by decide +kernel
theorem dX6_advise_49 : decode cX6_advise 49 = .ok (.aload_n 0, 1) := by decide +kernel
theorem dX6_advise_50 : decode cX6_advise 50 = .ok (.getfield 41, 3) := by decide +kernel
theorem dX6_advise_53 : decode cX6_advise 53 = .ok (.aload 4, 2) := by decide +kernel
theorem dX6_advise_55 : decode cX6_advise 55 = .ok (.getfield 204, 3) := by decide +kernel
theorem dX6_advise_58 : decode cX6_advise 58 = .ok (.ifCond .ne 7, 3) := by decide +kernel
theorem dX6_advise_61 : decode cX6_advise 61 = .ok (.iconst 1, 1) := by decide +kernel
theorem dX6_advise_62 : decode cX6_advise 62 = .ok (.goto 4, 3) := by decide +kernel
theorem dX6_advise_65 : decode cX6_advise 65 = .ok (.iconst 0, 1) := by decide +kernel
theorem dX6_advise_66 : decode cX6_advise 66 = .ok (.iload 7, 2) := by decide +kernel
theorem dX6_advise_68 : decode cX6_advise 68 = .ok (.invokestatic 102, 3) := by decide +kernel
theorem dX6_advise_71 : decode cX6_advise 71 = .ok (.iload_n 3, 1) := by decide +kernel
theorem dX6_advise_72 : decode cX6_advise 72 = .ok (.iconst 0, 1) := by decide +kernel
theorem dX6_advise_73 : decode cX6_advise 73 = .ok (.invokevirtual 205, 3) := by decide +kernel
theorem dX6_advise_76 : decode cX6_advise 76 = .ok (.aload_n 0, 1) := by decide +kernel
theorem dX6_advise_77 : decode cX6_advise 77 = .ok (.aload 4, 2) := by decide +kernel
theorem dX6_advise_79 : decode cX6_advise 79 = .ok (.invokevirtual 208, 3) := by decide +kernel
theorem dX6_advise_82 : decode cX6_advise 82 = .ok (.istore 8, 2) := by decide +kernel
theorem dX6_advise_84 : decode cX6_advise 84 = .ok (.iload 8, 2) := by decide +kernel
theorem dX6_advise_86 : decode cX6_advise 86 = .ok (.iload 6, 2) := by decide +kernel
theorem dX6_advise_88 : decode cX6_advise 88 = .ok (.if_icmp .ge 11, 3) := by decide +kernel
theorem dX6_advise_91 : decode cX6_advise 91 = .ok (.iload 8, 2) := by decide +kernel
theorem dX6_advise_93 : decode cX6_advise 93 = .ok (.istore 6, 2) := by decide +kernel
theorem dX6_advise_95 : decode cX6_advise 95 = .ok (.iload 7, 2) := by decide +kernel
theorem dX6_advise_97 : decode cX6_advise 97 = .ok (.istore 5, 2) := by decide +kernel
theorem dX6_advise_99 : decode cX6_advise 99 = .ok (.iinc 7 1, 3) := by decide +kernel
theorem dX6_advise_102 : decode cX6_advise 102 = .ok (.goto (-65), 3) := by decide +kernel
theorem dX6_advise_105 : decode cX6_advise 105 = .ok (.iload 5, 2) := by decide +kernel
theorem dX6_advise_107 : decode cX6_advise 107 = .ok (.ireturn, 1) := by decide +kernel
theorem dX6_harmful_0 : decode cX6_harmful 0 = .ok (.iload_n 1, 1) := by decide +kernel
theorem dX6_harmful_1 : decode cX6_harmful 1 = .ok (.invokestatic 135, 3) := by decide +kernel
theorem dX6_harmful_4 : decode cX6_harmful 4 = .ok (.iload_n 2, 1) := by decide +kernel
theorem dX6_harmful_5 : decode cX6_harmful 5 = .ok (.invokestatic 138, 3) := by decide +kernel
theorem dX6_harmful_8 : decode cX6_harmful 8 = .ok (.new 147, 3) := by decide +kernel
theorem dX6_harmful_11 : decode cX6_harmful 11 = .ok (.dup, 1) := by decide +kernel
theorem dX6_harmful_12 : decode cX6_harmful 12 = .ok (.iload_n 1, 1) := by decide +kernel
theorem dX6_harmful_13 : decode cX6_harmful 13 = .ok (.iload_n 2, 1) := by decide +kernel
theorem dX6_harmful_14 : decode cX6_harmful 14 = .ok (.aload_n 0, 1) := by decide +kernel
theorem dX6_harmful_15 : decode cX6_harmful 15 = .ok (.getfield 113, 3) := by decide +kernel
theorem dX6_harmful_18 : decode cX6_harmful 18 = .ok (.invokespecial 149, 3) := by decide +kernel
theorem dX6_harmful_21 : decode cX6_harmful 21 = .ok (.astore_n 3, 1) := by decide +kernel
theorem dX6_harmful_22 : decode cX6_harmful 22 = .ok (.aload_n 0, 1) := by decide +kernel
theorem dX6_harmful_23 : decode cX6_harmful 23 = .ok (.iconst (-1), 1) := by decide +kernel
theorem dX6_harmful_24 : decode cX6_harmful 24 = .ok (.invokevirtual 144, 3) := by decide +kernel
theorem dX6_harmful_27 : decode cX6_harmful 27 = .ok (.iconst (-1), 1) := by decide +kernel
theorem dX6_harmful_28 : decode cX6_harmful 28 = .ok (.istore 4, 2) := by decide +kernel
theorem dX6_harmful_30 : decode cX6_harmful 30 = .ok (.aload_n 0, 1) := by decide +kernel
theorem dX6_harmful_31 : decode cX6_harmful 31 = .ok (.aload_n 3, 1) := by decide +kernel
theorem dX6_harmful_32 : decode cX6_harmful 32 = .ok (.invokevirtual 208, 3) := by decide +kernel
theorem dX6_harmful_35 : decode cX6_harmful 35 = .ok (.istore 5, 2) := by decide +kernel
theorem dX6_harmful_37 : decode cX6_harmful 37 = .ok (.iconst 0, 1) := by decide +kernel
theorem dX6_harmful_38 : decode cX6_harmful 38 = .ok (.istore 6, 2) := by decide +kernel
theorem dX6_harmful_40 : decode cX6_harmful 40 = .ok (.iload 6, 2) := by decide +kernel
theorem dX6_harmful_42 : decode cX6_harmful 42 = .ok (.aload_n 0, 1) := by decide +kernel
theorem dX6_harmful_43 : decode cX6_harmful 43 = .ok (.getfield 10, 3) := by decide +kernel
theorem dX6_harmful_46 : decode cX6_harmful 46 = .ok (.invokevirtual 67, 3) := by decide +kernel
theorem dX6_harmful_49 : decode cX6_harmful 49 = .ok (.if_icmp .ge 37, 3) := by decide +kernel
theorem dX6_harmful_52 : decode cX6_harmful 52 = .ok (.aload_n 0, 1) := by decide +kernel
theorem dX6_harmful_53 : decode cX6_harmful 53 = .ok (.iload 6, 2) := by decide +kernel
theorem dX6_harmful_55 : decode cX6_harmful 55 = .ok (.invokevirtual 144, 3) := by decide +kernel
theorem dX6_harmful_58 : decode cX6_harmful 58 = .ok (.aload_n 0, 1) := by decide +kernel
theorem dX6_harmful_59 : decode cX6_harmful 59 = .ok (.aload_n 3, 1) := by decide +kernel
theorem dX6_harmful_60 : decode cX6_harmful 60 = .ok (.invokevirtual 208, 3) := by decide +kernel
theorem dX6_harmful_63 : decode cX6_harmful 63 = .ok (.istore 7, 2) := by decide +kernel
theorem dX6_harmful_65 : decode cX6_harmful 65 = .ok (.iload 7, 2) := by decide +kernel
theorem dX6_harmful_67 : decode cX6_harmful 67 = .ok (.iload 5, 2) := by decide +kernel
theorem dX6_harmful_69 : decode cX6_harmful 69 = .ok (.if_icmp .ge 11, 3) := by decide +kernel
theorem dX6_harmful_72 : decode cX6_harmful 72 = .ok (.iload 7, 2) := by decide +kernel
theorem dX6_harmful_74 : decode cX6_harmful 74 = .ok (.istore 5, 2) := by decide +kernel
theorem dX6_harmful_76 : decode cX6_harmful 76 = .ok (.iload 6, 2) := by decide +kernel
theorem dX6_harmful_78 : decode cX6_harmful 78 = .ok (.istore 4, 2) := by decide +kernel
theorem dX6_harmful_80 : decode cX6_harmful 80 = .ok (.iinc 6 1, 3) := by decide +kernel
theorem dX6_harmful_83 : decode cX6_harmful 83 = .ok (.goto (-43), 3) := by decide +kernel
theorem dX6_harmful_86 : decode cX6_harmful 86 = .ok (.iload 4, 2) := by decide +kernel
theorem dX6_harmful_88 : decode cX6_harmful 88 = .ok (.ireturn, 1) := by decide +kernel
theorem dX6_mean_0 : decode cX6_mean 0 = .ok (.aload_n 0, 1) := by decide +kernel
theorem dX6_mean_1 : decode cX6_mean 1 = .ok (.getfield 31, 3) := by decide +kernel
theorem dX6_mean_4 : decode cX6_mean 4 = .ok (.aload_n 0, 1) := by decide +kernel
theorem dX6_mean_5 : decode cX6_mean 5 = .ok (.getfield 24, 3) := by decide +kernel
theorem dX6_mean_8 : decode cX6_mean 8 = .ok (.invokevirtual 118, 3) := by decide +kernel
theorem dX6_mean_11 : decode cX6_mean 11 = .ok (.i2d, 1) := by decide +kernel
theorem dX6_mean_12 : decode cX6_mean 12 = .ok (.ldc2_w 212, 3) := by decide +kernel
theorem dX6_mean_15 : decode cX6_mean 15 = .ok (.ddiv, 1) := by decide +kernel
theorem dX6_mean_16 : decode cX6_mean 16 = .ok (.dreturn, 1) := by decide +kernel
theorem dX6_digest_0 : decode cX6_digest 0 = .ok (.ldc2_w 214, 3) := by decide +kernel
theorem dX6_digest_3 : decode cX6_digest 3 = .ok (.lstore_n 1, 1) := by decide +kernel
theorem dX6_digest_4 : decode cX6_digest 4 = .ok (.iconst 0, 1) := by decide +kernel
theorem dX6_digest_5 : decode cX6_digest 5 = .ok (.istore_n 3, 1) := by decide +kernel
theorem dX6_digest_6 : decode cX6_digest 6 = .ok (.iload_n 3, 1) := by decide +kernel
theorem dX6_digest_7 : decode cX6_digest 7 = .ok (.bipush 10, 2) := by decide +kernel
theorem dX6_digest_9 : decode cX6_digest 9 = .ok (.if_icmp .ge 22, 3) := by decide +kernel
theorem dX6_digest_12 : decode cX6_digest 12 = .ok (.lload_n 1, 1) := by decide +kernel
theorem dX6_digest_13 : decode cX6_digest 13 = .ok (.ldc2_w 216, 3) := by decide +kernel
theorem dX6_digest_16 : decode cX6_digest 16 = .ok (.lmul, 1) := by decide +kernel
theorem dX6_digest_17 : decode cX6_digest 17 = .ok (.aload_n 0, 1) := by decide +kernel
theorem dX6_digest_18 : decode cX6_digest 18 = .ok (.iload_n 3, 1) := by decide +kernel
theorem dX6_digest_19 : decode cX6_digest 19 = .ok (.invokevirtual 218, 3) := by decide +kernel
theorem dX6_digest_22 : decode cX6_digest 22 = .ok (.i2l, 1) := by decide +kernel
theorem dX6_digest_23 : decode cX6_digest 23 = .ok (.ladd, 1) := by decide +kernel
theorem dX6_digest_24 : decode cX6_digest 24 = .ok (.lstore_n 1, 1) := by decide +kernel
theorem dX6_digest_25 : decode cX6_digest 25 = .ok (.iinc 3 1, 3) := by decide +kernel
theorem dX6_digest_28 : decode cX6_digest 28 = .ok (.goto (-22), 3) := by decide +kernel
theorem dX6_digest_31 : decode cX6_digest 31 = .ok (.iconst 0, 1) := by decide +kernel
theorem dX6_digest_32 : decode cX6_digest 32 = .ok (.istore_n 3, 1) := by decide +kernel
theorem dX6_digest_33 : decode cX6_digest 33 = .ok (.iload_n 3, 1) := by decide +kernel
theorem dX6_digest_34 : decode cX6_digest 34 = .ok (.aload_n 0, 1) := by decide +kernel
theorem dX6_digest_35 : decode cX6_digest 35 = .ok (.getfield 10, 3) := by decide +kernel
theorem dX6_digest_38 : decode cX6_digest 38 = .ok (.invokevirtual 67, 3) := by decide +kernel
theorem dX6_digest_41 : decode cX6_digest 41 = .ok (.if_icmp .ge 40, 3) := by decide +kernel
theorem dX6_digest_44 : decode cX6_digest 44 = .ok (.iconst 0, 1) := by decide +kernel
theorem dX6_digest_45 : decode cX6_digest 45 = .ok (.istore 4, 2) := by decide +kernel
theorem dX6_digest_47 : decode cX6_digest 47 = .ok (.iload 4, 2) := by decide +kernel
theorem dX6_digest_49 : decode cX6_digest 49 = .ok (.bipush 7, 2) := by decide +kernel
theorem dX6_digest_51 : decode cX6_digest 51 = .ok (.if_icmp .ge 24, 3) := by decide +kernel
theorem dX6_digest_54 : decode cX6_digest 54 = .ok (.lload_n 1, 1) := by decide +kernel
theorem dX6_digest_55 : decode cX6_digest 55 = .ok (.ldc2_w 216, 3) := by decide +kernel
theorem dX6_digest_58 : decode cX6_digest 58 = .ok (.lmul, 1) := by decide +kernel
theorem dX6_digest_59 : decode cX6_digest 59 = .ok (.aload_n 0, 1) := by decide +kernel
theorem dX6_digest_60 : decode cX6_digest 60 = .ok (.iload_n 3, 1) := by decide +kernel
theorem dX6_digest_61 : decode cX6_digest 61 = .ok (.iload 4, 2) := by decide +kernel
theorem dX6_digest_63 : decode cX6_digest 63 = .ok (.invokevirtual 221, 3) := by decide +kernel
theorem dX6_digest_66 : decode cX6_digest 66 = .ok (.i2l, 1) := by decide +kernel
theorem dX6_digest_67 : decode cX6_digest 67 = .ok (.ladd, 1) := by decide +kernel
theorem dX6_digest_68 : decode cX6_digest 68 = .ok (.lstore_n 1, 1) := by decide +kernel
theorem dX6_digest_69 : decode cX6_digest 69 = .ok (.iinc 4 1, 3) := by decide +kernel
theorem dX6_digest_72 : decode cX6_digest 72 = .ok (.goto (-25), 3) := by decide +kernel
theorem dX6_digest_75 : decode cX6_digest 75 = .ok (.iinc 3 1, 3) := by decide +kernel
theorem dX6_digest_78 : decode cX6_digest 78 = .ok (.goto (-45), 3) := by decide +kernel
theorem dX6_digest_81 : decode cX6_digest 81 = .ok (.iconst 0, 1) := by decide +kernel
theorem dX6_digest_82 : decode cX6_digest 82 = .ok (.istore_n 3, 1) := by decide +kernel
theorem dX6_digest_83 : decode cX6_digest 83 = .ok (.iload_n 3, 1) := by decide +kernel
theorem dX6_digest_84 : decode cX6_digest 84 = .ok (.aload_n 0, 1) := by decide +kernel
theorem dX6_digest_85 : decode cX6_digest 85 = .ok (.getfield 16, 3) := by decide +kernel
theorem dX6_digest_88 : decode cX6_digest 88 = .ok (.invokevirtual 67, 3) := by decide +kernel
theorem dX6_digest_91 : decode cX6_digest 91 = .ok (.if_icmp .ge 39, 3) := by decide +kernel
theorem dX6_digest_94 : decode cX6_digest 94 = .ok (.iconst 0, 1) := by decide +kernel
theorem dX6_digest_95 : decode cX6_digest 95 = .ok (.istore 4, 2) := by decide +kernel
theorem dX6_digest_97 : decode cX6_digest 97 = .ok (.iload 4, 2) := by decide +kernel
theorem dX6_digest_99 : decode cX6_digest 99 = .ok (.iconst 5, 1) := by decide +kernel
theorem dX6_digest_100 : decode cX6_digest 100 = .ok (.if_icmp .ge 24, 3) := by decide +kernel
theorem dX6_digest_103 : decode cX6_digest 103 = .ok (.lload_n 1, 1) := by decide +kernel
theorem dX6_digest_104 : decode cX6_digest 104 = .ok (.ldc2_w 216, 3) := by decide +kernel
theorem dX6_digest_107 : decode cX6_digest 107 = .ok (.lmul, 1) := by decide +kernel
theorem dX6_digest_108 : decode cX6_digest 108 = .ok (.aload_n 0, 1) := by decide +kernel
theorem dX6_digest_109 : decode cX6_digest 109 = .ok (.iload_n 3, 1) := by decide +kernel
theorem dX6_digest_110 : decode cX6_digest 110 = .ok (.iload 4, 2) := by decide +kernel
theorem dX6_digest_112 : decode cX6_digest 112 = .ok (.invokevirtual 224, 3) := by decide +kernel
theorem dX6_digest_115 : decode cX6_digest 115 = .ok (.i2l, 1) := by decide +kernel
theorem dX6_digest_116 : decode cX6_digest 116 = .ok (.ladd, 1) := by decide +kernel
theorem dX6_digest_117 : decode cX6_digest 117 = .ok (.lstore_n 1, 1) := by decide +kernel
theorem dX6_digest_118 : decode cX6_digest 118 = .ok (.iinc 4 1, 3) := by decide +kernel
theorem dX6_digest_121 : decode cX6_digest 121 = .ok (.goto (-24), 3) := by decide +kernel
theorem dX6_digest_124 : decode cX6_digest 124 = .ok (.iinc 3 1, 3) := by decide +kernel
theorem dX6_digest_127 : decode cX6_digest 127 = .ok (.goto (-44), 3) := by decide +kernel
theorem dX6_digest_130 : decode cX6_digest 130 = .ok (.iconst 0, 1) := by decide +kernel
theorem dX6_digest_131 : decode cX6_digest 131 = .ok (.istore_n 3, 1) := by decide +kernel
theorem dX6_digest_132 : decode cX6_digest 132 = .ok (.iload_n 3, 1) := by decide +kernel
theorem dX6_digest_133 : decode cX6_digest 133 = .ok (.sipush 400, 3) := by decide +kernel
theorem dX6_digest_136 : decode cX6_digest 136 = .ok (.if_icmp .ge 25, 3) := by decide +kernel
theorem dX6_digest_139 : decode cX6_digest 139 = .ok (.lload_n 1, 1) := by decide +kernel
theorem dX6_digest_140 : decode cX6_digest 140 = .ok (.ldc2_w 216, 3) := by decide +kernel
theorem dX6_digest_143 : decode cX6_digest 143 = .ok (.lmul, 1) := by decide +kernel
theorem dX6_digest_144 : decode cX6_digest 144 = .ok (.aload_n 0, 1) := by decide +kernel
theorem dX6_digest_145 : decode cX6_digest 145 = .ok (.getfield 31, 3) := by decide +kernel
theorem dX6_digest_148 : decode cX6_digest 148 = .ok (.iload_n 3, 1) := by decide +kernel
theorem dX6_digest_149 : decode cX6_digest 149 = .ok (.invokevirtual 122, 3) := by decide +kernel
theorem dX6_digest_152 : decode cX6_digest 152 = .ok (.i2l, 1) := by decide +kernel
theorem dX6_digest_153 : decode cX6_digest 153 = .ok (.ladd, 1) := by decide +kernel
theorem dX6_digest_154 : decode cX6_digest 154 = .ok (.lstore_n 1, 1) := by decide +kernel
theorem dX6_digest_155 : decode cX6_digest 155 = .ok (.iinc 3 1, 3) := by decide +kernel
theorem dX6_digest_158 : decode cX6_digest 158 = .ok (.goto (-26), 3) := by decide +kernel
theorem dX6_digest_161 : decode cX6_digest 161 = .ok (.lload_n 1, 1) := by decide +kernel
theorem dX6_digest_162 : decode cX6_digest 162 = .ok (.lreturn, 1) := by decide +kernel
theorem dX6_needIndex_0 : decode cX6_needIndex 0 = .ok (.iload_n 0, 1) := by decide +kernel
theorem dX6_needIndex_1 : decode cX6_needIndex 1 = .ok (.ifCond .lt 8, 3) := by decide +kernel
theorem dX6_needIndex_4 : decode cX6_needIndex 4 = .ok (.iload_n 0, 1) := by decide +kernel
theorem dX6_needIndex_5 : decode cX6_needIndex 5 = .ok (.iload_n 1, 1) := by decide +kernel
theorem dX6_needIndex_6 : decode cX6_needIndex 6 = .ok (.if_icmp .lt 13, 3) := by decide +kernel
theorem dX6_needIndex_9 : decode cX6_needIndex 9 = .ok (.new 227, 3) := by decide +kernel
theorem dX6_needIndex_12 : decode cX6_needIndex 12 = .ok (.dup, 1) := by decide +kernel
theorem dX6_needIndex_13 : decode cX6_needIndex 13 = .ok (.ldc 229, 2) := by decide +kernel
theorem dX6_needIndex_15 : decode cX6_needIndex 15 = .ok (.invokespecial 231, 3) := by decide +kernel
theorem dX6_needIndex_18 : decode cX6_needIndex 18 = .ok (.athrow, 1) := by decide +kernel
theorem dX6_needIndex_19 : decode cX6_needIndex 19 = .ok (.return_, 1) := by decide +kernel
theorem dX6_needWind_0 : decode cX6_needWind 0 = .ok (.iload_n 0, 1) := by decide +kernel
theorem dX6_needWind_1 : decode cX6_needWind 1 = .ok (.iconst 4, 1) := by decide +kernel
theorem dX6_needWind_2 : decode cX6_needWind 2 = .ok (.invokestatic 63, 3) := by decide +kernel
theorem dX6_needWind_5 : decode cX6_needWind 5 = .ok (.return_, 1) := by decide +kernel
theorem dX6_needHeight_0 : decode cX6_needHeight 0 = .ok (.iload_n 0, 1) := by decide +kernel
theorem dX6_needHeight_1 : decode cX6_needHeight 1 = .ok (.iconst 1, 1) := by decide +kernel
theorem dX6_needHeight_2 : decode cX6_needHeight 2 = .ok (.if_icmp .lt 9, 3) := by decide +kernel
theorem dX6_needHeight_5 : decode cX6_needHeight 5 = .ok (.iload_n 0, 1) := by decide +kernel
theorem dX6_needHeight_6 : decode cX6_needHeight 6 = .ok (.bipush 9, 2) := by decide +kernel
theorem dX6_needHeight_8 : decode cX6_needHeight 8 = .ok (.if_icmp .le 13, 3) := by decide +kernel
theorem dX6_needHeight_11 : decode cX6_needHeight 11 = .ok (.new 49, 3) := by decide +kernel
theorem dX6_needHeight_14 : decode cX6_needHeight 14 = .ok (.dup, 1) := by decide +kernel
theorem dX6_needHeight_15 : decode cX6_needHeight 15 = .ok (.ldc 232, 2) := by decide +kernel
theorem dX6_needHeight_17 : decode cX6_needHeight 17 = .ok (.invokespecial 53, 3) := by decide +kernel
theorem dX6_needHeight_20 : decode cX6_needHeight 20 = .ok (.athrow, 1) := by decide +kernel
theorem dX6_needHeight_21 : decode cX6_needHeight 21 = .ok (.return_, 1) := by decide +kernel
theorem dX6_needGap_0 : decode cX6_needGap 0 = .ok (.iload_n 0, 1) := by decide +kernel
theorem dX6_needGap_1 : decode cX6_needGap 1 = .ok (.ifCond .lt 8, 3) := by decide +kernel
theorem dX6_needGap_4 : decode cX6_needGap 4 = .ok (.iload_n 0, 1) := by decide +kernel
theorem dX6_needGap_5 : decode cX6_needGap 5 = .ok (.iconst 3, 1) := by decide +kernel
theorem dX6_needGap_6 : decode cX6_needGap 6 = .ok (.if_icmp .le 13, 3) := by decide +kernel
theorem dX6_needGap_9 : decode cX6_needGap 9 = .ok (.new 49, 3) := by decide +kernel
theorem dX6_needGap_12 : decode cX6_needGap 12 = .ok (.dup, 1) := by decide +kernel
theorem dX6_needGap_13 : decode cX6_needGap 13 = .ok (.ldc 234, 2) := by decide +kernel
theorem dX6_needGap_15 : decode cX6_needGap 15 = .ok (.invokespecial 53, 3) := by decide +kernel
theorem dX6_needGap_18 : decode cX6_needGap 18 = .ok (.athrow, 1) := by decide +kernel
theorem dX6_needGap_19 : decode cX6_needGap 19 = .ok (.return_, 1) := by decide +kernel
theorem dX6_needStrength_0 : decode cX6_needStrength 0 = .ok (.iload_n 0, 1) := by decide +kernel
theorem dX6_needStrength_1 : decode cX6_needStrength 1 = .ok (.iconst 1, 1) := by decide +kernel
theorem dX6_needStrength_2 : decode cX6_needStrength 2 = .ok (.if_icmp .lt 9, 3) := by decide +kernel
theorem dX6_needStrength_5 : decode cX6_needStrength 5 = .ok (.iload_n 0, 1) := by decide +kernel
theorem dX6_needStrength_6 : decode cX6_needStrength 6 = .ok (.bipush 9, 2) := by decide +kernel
theorem dX6_needStrength_8 : decode cX6_needStrength 8 = .ok (.if_icmp .le 13, 3) := by decide +kernel
theorem dX6_needStrength_11 : decode cX6_needStrength 11 = .ok (.new 49, 3) := by decide +kernel
theorem dX6_needStrength_14 : decode cX6_needStrength 14 = .ok (.dup, 1) := by decide +kernel
theorem dX6_needStrength_15 : decode cX6_needStrength 15 = .ok (.ldc 236, 2) := by decide +kernel
theorem dX6_needStrength_17 : decode cX6_needStrength 17 = .ok (.invokespecial 53, 3) := by decide +kernel
theorem dX6_needStrength_20 : decode cX6_needStrength 20 = .ok (.athrow, 1) := by decide +kernel
theorem dX6_needStrength_21 : decode cX6_needStrength 21 = .ok (.return_, 1) := by decide +kernel
theorem dX6_needHours_0 : decode cX6_needHours 0 = .ok (.iload_n 0, 1) := by decide +kernel
theorem dX6_needHours_1 : decode cX6_needHours 1 = .ok (.iconst 1, 1) := by decide +kernel
theorem dX6_needHours_2 : decode cX6_needHours 2 = .ok (.if_icmp .lt 9, 3) := by decide +kernel
theorem dX6_needHours_5 : decode cX6_needHours 5 = .ok (.iload_n 0, 1) := by decide +kernel
theorem dX6_needHours_6 : decode cX6_needHours 6 = .ok (.bipush 24, 2) := by decide +kernel
theorem dX6_needHours_8 : decode cX6_needHours 8 = .ok (.if_icmp .le 13, 3) := by decide +kernel
theorem dX6_needHours_11 : decode cX6_needHours 11 = .ok (.new 49, 3) := by decide +kernel
theorem dX6_needHours_14 : decode cX6_needHours 14 = .ok (.dup, 1) := by decide +kernel
theorem dX6_needHours_15 : decode cX6_needHours 15 = .ok (.ldc 238, 2) := by decide +kernel
theorem dX6_needHours_17 : decode cX6_needHours 17 = .ok (.invokespecial 53, 3) := by decide +kernel
theorem dX6_needHours_20 : decode cX6_needHours 20 = .ok (.athrow, 1) := by decide +kernel
theorem dX6_needHours_21 : decode cX6_needHours 21 = .ok (.return_, 1) := by decide +kernel
theorem dX6_straight_0 : decode cX6_straight 0 = .ok (.iload_n 0, 1) := by decide +kernel
theorem dX6_straight_1 : decode cX6_straight 1 = .ok (.ifCond .eq 18, 3) := by decide +kernel
theorem dX6_straight_4 : decode cX6_straight 4 = .ok (.new 19, 3) := by decide +kernel
theorem dX6_straight_7 : decode cX6_straight 7 = .ok (.dup, 1) := by decide +kernel
theorem dX6_straight_8 : decode cX6_straight 8 = .ok (.iload_n 1, 1) := by decide +kernel
theorem dX6_straight_9 : decode cX6_straight 9 = .ok (.iconst 0, 1) := by decide +kernel
theorem dX6_straight_10 : decode cX6_straight 10 = .ok (.bipush 20, 2) := by decide +kernel
theorem dX6_straight_12 : decode cX6_straight 12 = .ok (.iconst 1, 1) := by decide +kernel
theorem dX6_straight_13 : decode cX6_straight 13 = .ok (.invokespecial 21, 3) := by decide +kernel
theorem dX6_straight_16 : decode cX6_straight 16 = .ok (.goto 15, 3) := by decide +kernel
theorem dX6_straight_19 : decode cX6_straight 19 = .ok (.new 19, 3) := by decide +kernel
theorem dX6_straight_22 : decode cX6_straight 22 = .ok (.dup, 1) := by decide +kernel
theorem dX6_straight_23 : decode cX6_straight 23 = .ok (.iconst 0, 1) := by decide +kernel
theorem dX6_straight_24 : decode cX6_straight 24 = .ok (.iload_n 1, 1) := by decide +kernel
theorem dX6_straight_25 : decode cX6_straight 25 = .ok (.bipush 20, 2) := by decide +kernel
theorem dX6_straight_27 : decode cX6_straight 27 = .ok (.iconst 0, 1) := by decide +kernel
theorem dX6_straight_28 : decode cX6_straight 28 = .ok (.invokespecial 21, 3) := by decide +kernel
theorem dX6_straight_31 : decode cX6_straight 31 = .ok (.areturn, 1) := by decide +kernel
theorem dX6_screenAllBut_0 : decode cX6_screenAllBut 0 = .ok (.aload_n 0, 1) := by decide +kernel
theorem dX6_screenAllBut_1 : decode cX6_screenAllBut 1 = .ok (.getfield 41, 3) := by decide +kernel
theorem dX6_screenAllBut_4 : decode cX6_screenAllBut 4 = .ok (.invokevirtual 240, 3) := by decide +kernel
theorem dX6_screenAllBut_7 : decode cX6_screenAllBut 7 = .ok (.iconst 0, 1) := by decide +kernel
theorem dX6_screenAllBut_8 : decode cX6_screenAllBut 8 = .ok (.istore_n 2, 1) := by decide +kernel
theorem dX6_screenAllBut_9 : decode cX6_screenAllBut 9 = .ok (.iload_n 2, 1) := by decide +kernel
theorem dX6_screenAllBut_10 : decode cX6_screenAllBut 10 = .ok (.aload_n 0, 1) := by decide +kernel
theorem dX6_screenAllBut_11 : decode cX6_screenAllBut 11 = .ok (.getfield 10, 3) := by decide +kernel
theorem dX6_screenAllBut_14 : decode cX6_screenAllBut 14 = .ok (.invokevirtual 67, 3) := by decide +kernel
theorem dX6_screenAllBut_17 : decode cX6_screenAllBut 17 = .ok (.if_icmp .ge 45, 3) := by decide +kernel
theorem dX6_screenAllBut_20 : decode cX6_screenAllBut 20 = .ok (.iload_n 2, 1) := by decide +kernel
theorem dX6_screenAllBut_21 : decode cX6_screenAllBut 21 = .ok (.iload_n 1, 1) := by decide +kernel
theorem dX6_screenAllBut_22 : decode cX6_screenAllBut 22 = .ok (.if_icmp .eq 34, 3) := by decide +kernel
theorem dX6_screenAllBut_25 : decode cX6_screenAllBut 25 = .ok (.aload_n 0, 1) := by decide +kernel
theorem dX6_screenAllBut_26 : decode cX6_screenAllBut 26 = .ok (.getfield 10, 3) := by decide +kernel
theorem dX6_screenAllBut_29 : decode cX6_screenAllBut 29 = .ok (.iload_n 2, 1) := by decide +kernel
theorem dX6_screenAllBut_30 : decode cX6_screenAllBut 30 = .ok (.invokevirtual 85, 3) := by decide +kernel
theorem dX6_screenAllBut_33 : decode cX6_screenAllBut 33 = .ok (.checkcast 76, 3) := by decide +kernel
theorem dX6_screenAllBut_36 : decode cX6_screenAllBut 36 = .ok (.astore_n 3, 1) := by decide +kernel
theorem dX6_screenAllBut_37 : decode cX6_screenAllBut 37 = .ok (.aload_n 0, 1) := by decide +kernel
theorem dX6_screenAllBut_38 : decode cX6_screenAllBut 38 = .ok (.getfield 41, 3) := by decide +kernel
theorem dX6_screenAllBut_41 : decode cX6_screenAllBut 41 = .ok (.aload_n 3, 1) := by decide +kernel
theorem dX6_screenAllBut_42 : decode cX6_screenAllBut 42 = .ok (.getfield 178, 3) := by decide +kernel
theorem dX6_screenAllBut_45 : decode cX6_screenAllBut 45 = .ok (.aload_n 3, 1) := by decide +kernel
theorem dX6_screenAllBut_46 : decode cX6_screenAllBut 46 = .ok (.getfield 89, 3) := by decide +kernel
theorem dX6_screenAllBut_49 : decode cX6_screenAllBut 49 = .ok (.aload_n 3, 1) := by decide +kernel
theorem dX6_screenAllBut_50 : decode cX6_screenAllBut 50 = .ok (.getfield 92, 3) := by decide +kernel
theorem dX6_screenAllBut_53 : decode cX6_screenAllBut 53 = .ok (.invokevirtual 205, 3) := by decide +kernel
theorem dX6_screenAllBut_56 : decode cX6_screenAllBut 56 = .ok (.iinc 2 1, 3) := by decide +kernel
theorem dX6_screenAllBut_59 : decode cX6_screenAllBut 59 = .ok (.goto (-50), 3) := by decide +kernel
theorem dX6_screenAllBut_62 : decode cX6_screenAllBut 62 = .ok (.return_, 1) := by decide +kernel
theorem dX6_blowOver_0 : decode cX6_blowOver 0 = .ok (.iconst 0, 1) := by decide +kernel
theorem dX6_blowOver_1 : decode cX6_blowOver 1 = .ok (.istore 4, 2) := by decide +kernel
theorem dX6_blowOver_3 : decode cX6_blowOver 3 = .ok (.iconst 0, 1) := by decide +kernel
theorem dX6_blowOver_4 : decode cX6_blowOver 4 = .ok (.istore 5, 2) := by decide +kernel
theorem dX6_blowOver_6 : decode cX6_blowOver 6 = .ok (.iload 5, 2) := by decide +kernel
theorem dX6_blowOver_8 : decode cX6_blowOver 8 = .ok (.iload_n 3, 1) := by decide +kernel
theorem dX6_blowOver_9 : decode cX6_blowOver 9 = .ok (.if_icmp .ge 23, 3) := by decide +kernel
theorem dX6_blowOver_12 : decode cX6_blowOver 12 = .ok (.iload 4, 2) := by decide +kernel
theorem dX6_blowOver_14 : decode cX6_blowOver 14 = .ok (.aload_n 2, 1) := by decide +kernel
theorem dX6_blowOver_15 : decode cX6_blowOver 15 = .ok (.aload_n 1, 1) := by decide +kernel
theorem dX6_blowOver_16 : decode cX6_blowOver 16 = .ok (.aload_n 0, 1) := by decide +kernel
theorem dX6_blowOver_17 : decode cX6_blowOver 17 = .ok (.getfield 41, 3) := by decide +kernel
theorem dX6_blowOver_20 : decode cX6_blowOver 20 = .ok (.invokevirtual 242, 3) := by decide +kernel
theorem dX6_blowOver_23 : decode cX6_blowOver 23 = .ok (.iadd, 1) := by decide +kernel
theorem dX6_blowOver_24 : decode cX6_blowOver 24 = .ok (.istore 4, 2) := by decide +kernel
theorem dX6_blowOver_26 : decode cX6_blowOver 26 = .ok (.iinc 5 1, 3) := by decide +kernel
theorem dX6_blowOver_29 : decode cX6_blowOver 29 = .ok (.goto (-23), 3) := by decide +kernel
theorem dX6_blowOver_32 : decode cX6_blowOver 32 = .ok (.iload 4, 2) := by decide +kernel
theorem dX6_blowOver_34 : decode cX6_blowOver 34 = .ok (.ireturn, 1) := by decide +kernel
theorem dX6_blockedAfterAdvice_0 : decode cX6_blockedAfterAdvice 0 = .ok (.aload_n 0, 1) := by decide +kernel
theorem dX6_blockedAfterAdvice_1 : decode cX6_blockedAfterAdvice 1 = .ok (.getfield 35, 3) := by decide +kernel
theorem dX6_blockedAfterAdvice_4 : decode cX6_blockedAfterAdvice 4 = .ok (.aload_n 0, 1) := by decide +kernel
theorem dX6_blockedAfterAdvice_5 : decode cX6_blockedAfterAdvice 5 = .ok (.getfield 31, 3) := by decide +kernel
theorem dX6_blockedAfterAdvice_8 : decode cX6_blockedAfterAdvice 8 = .ok (.invokevirtual 200, 3) := by decide +kernel
theorem dX6_blockedAfterAdvice_11 : decode cX6_blockedAfterAdvice 11 = .ok (.aload_n 0, 1) := by decide +kernel
theorem dX6_blockedAfterAdvice_12 : decode cX6_blockedAfterAdvice 12 = .ok (.aload_n 0, 1) := by decide +kernel
theorem dX6_blockedAfterAdvice_13 : decode cX6_blockedAfterAdvice 13 = .ok (.getfield 35, 3) := by decide +kernel
theorem dX6_blockedAfterAdvice_16 : decode cX6_blockedAfterAdvice 16 = .ok (.aload_n 1, 1) := by decide +kernel
theorem dX6_blockedAfterAdvice_17 : decode cX6_blockedAfterAdvice 17 = .ok (.iconst 4, 1) := by decide +kernel
theorem dX6_blockedAfterAdvice_18 : decode cX6_blockedAfterAdvice 18 = .ok (.invokevirtual 152, 3) := by decide +kernel
theorem dX6_blockedAfterAdvice_21 : decode cX6_blockedAfterAdvice 21 = .ok (.pop, 1) := by decide +kernel
theorem dX6_blockedAfterAdvice_22 : decode cX6_blockedAfterAdvice 22 = .ok (.aload_n 0, 1) := by decide +kernel
theorem dX6_blockedAfterAdvice_23 : decode cX6_blockedAfterAdvice 23 = .ok (.aload_n 0, 1) := by decide +kernel
theorem dX6_blockedAfterAdvice_24 : decode cX6_blockedAfterAdvice 24 = .ok (.getfield 35, 3) := by decide +kernel
theorem dX6_blockedAfterAdvice_27 : decode cX6_blockedAfterAdvice 27 = .ok (.invokevirtual 196, 3) := by decide +kernel
theorem dX6_blockedAfterAdvice_30 : decode cX6_blockedAfterAdvice 30 = .ok (.ireturn, 1) := by decide +kernel
theorem dX6_blockedOnRoads_0 : decode cX6_blockedOnRoads 0 = .ok (.iconst 0, 1) := by decide +kernel
theorem dX6_blockedOnRoads_1 : decode cX6_blockedOnRoads 1 = .ok (.istore_n 2, 1) := by decide +kernel
theorem dX6_blockedOnRoads_2 : decode cX6_blockedOnRoads 2 = .ok (.iconst 0, 1) := by decide +kernel
theorem dX6_blockedOnRoads_3 : decode cX6_blockedOnRoads 3 = .ok (.istore_n 3, 1) := by decide +kernel
theorem dX6_blockedOnRoads_4 : decode cX6_blockedOnRoads 4 = .ok (.iload_n 3, 1) := by decide +kernel
theorem dX6_blockedOnRoads_5 : decode cX6_blockedOnRoads 5 = .ok (.aload_n 0, 1) := by decide +kernel
theorem dX6_blockedOnRoads_6 : decode cX6_blockedOnRoads 6 = .ok (.getfield 16, 3) := by decide +kernel
theorem dX6_blockedOnRoads_9 : decode cX6_blockedOnRoads 9 = .ok (.invokevirtual 67, 3) := by decide +kernel
theorem dX6_blockedOnRoads_12 : decode cX6_blockedOnRoads 12 = .ok (.if_icmp .ge 34, 3) := by decide +kernel
theorem dX6_blockedOnRoads_15 : decode cX6_blockedOnRoads 15 = .ok (.iload_n 2, 1) := by decide +kernel
theorem dX6_blockedOnRoads_16 : decode cX6_blockedOnRoads 16 = .ok (.aload_n 1, 1) := by decide +kernel
theorem dX6_blockedOnRoads_17 : decode cX6_blockedOnRoads 17 = .ok (.aload_n 0, 1) := by decide +kernel
theorem dX6_blockedOnRoads_18 : decode cX6_blockedOnRoads 18 = .ok (.getfield 16, 3) := by decide +kernel
theorem dX6_blockedOnRoads_21 : decode cX6_blockedOnRoads 21 = .ok (.iload_n 3, 1) := by decide +kernel
theorem dX6_blockedOnRoads_22 : decode cX6_blockedOnRoads 22 = .ok (.invokevirtual 85, 3) := by decide +kernel
theorem dX6_blockedOnRoads_25 : decode cX6_blockedOnRoads 25 = .ok (.checkcast 100, 3) := by decide +kernel
theorem dX6_blockedOnRoads_28 : decode cX6_blockedOnRoads 28 = .ok (.getfield 162, 3) := by decide +kernel
theorem dX6_blockedOnRoads_31 : decode cX6_blockedOnRoads 31 = .ok (.aload_n 0, 1) := by decide +kernel
theorem dX6_blockedOnRoads_32 : decode cX6_blockedOnRoads 32 = .ok (.getfield 45, 3) := by decide +kernel
theorem dX6_blockedOnRoads_35 : decode cX6_blockedOnRoads 35 = .ok (.invokevirtual 189, 3) := by decide +kernel
theorem dX6_blockedOnRoads_38 : decode cX6_blockedOnRoads 38 = .ok (.iadd, 1) := by decide +kernel
theorem dX6_blockedOnRoads_39 : decode cX6_blockedOnRoads 39 = .ok (.istore_n 2, 1) := by decide +kernel
theorem dX6_blockedOnRoads_40 : decode cX6_blockedOnRoads 40 = .ok (.iinc 3 1, 3) := by decide +kernel
theorem dX6_blockedOnRoads_43 : decode cX6_blockedOnRoads 43 = .ok (.goto (-39), 3) := by decide +kernel
theorem dX6_blockedOnRoads_46 : decode cX6_blockedOnRoads 46 = .ok (.iload_n 2, 1) := by decide +kernel
theorem dX6_blockedOnRoads_47 : decode cX6_blockedOnRoads 47 = .ok (.ireturn, 1) := by decide +kernel
theorem dX7_init_0 : decode cX7_init 0 = .ok (.aload_n 0, 1) := by decide +kernel
theorem dX7_init_1 : decode cX7_init 1 = .ok (.invokespecial 1, 3) := by decide +kernel
theorem dX7_init_4 : decode cX7_init 4 = .ok (.aload_n 0, 1) := by decide +kernel
theorem dX7_init_5 : decode cX7_init 5 = .ok (.iconst 0, 1) := by decide +kernel
theorem dX7_init_6 : decode cX7_init 6 = .ok (.anewarray 7, 3) := by decide +kernel
theorem dX7_init_9 : decode cX7_init 9 = .ok (.putfield 9, 3) := by decide +kernel
theorem dX7_init_12 : decode cX7_init 12 = .ok (.aload_n 0, 1) := by decide +kernel
theorem dX7_init_13 : decode cX7_init 13 = .ok (.iconst 0, 1) := by decide +kernel
theorem dX7_init_14 : decode cX7_init 14 = .ok (.anewarray 7, 3) := by decide +kernel
theorem dX7_init_17 : decode cX7_init 17 = .ok (.putfield 15, 3) := by decide +kernel
theorem dX7_init_20 : decode cX7_init 20 = .ok (.aload_n 0, 1) := by decide +kernel
theorem dX7_init_21 : decode cX7_init 21 = .ok (.bipush 20, 2) := by decide +kernel
theorem dX7_init_23 : decode cX7_init 23 = .ok (.bipush 20, 2) := by decide +kernel
theorem dX7_init_25 : decode cX7_init 25 = .ok (.multianewarray 18 2, 4) := by decide +kernel
theorem dX7_init_29 : decode cX7_init 29 = .ok (.putfield 19, 3) := by decide +kernel
theorem dX7_init_32 : decode cX7_init 32 = .ok (.aload_n 0, 1) := by decide +kernel
theorem dX7_init_33 : decode cX7_init 33 = .ok (.bipush 15, 2) := by decide +kernel
theorem dX7_init_35 : decode cX7_init 35 = .ok (.putfield 22, 3) := by decide +kernel
theorem dX7_init_38 : decode cX7_init 38 = .ok (.return_, 1) := by decide +kernel
theorem dX7_copy_0 : decode cX7_copy 0 = .ok (.new 10, 3) := by decide +kernel
theorem dX7_copy_3 : decode cX7_copy 3 = .ok (.dup, 1) := by decide +kernel
theorem dX7_copy_4 : decode cX7_copy 4 = .ok (.invokespecial 26, 3) := by decide +kernel
theorem dX7_copy_7 : decode cX7_copy 7 = .ok (.astore_n 1, 1) := by decide +kernel
theorem dX7_copy_8 : decode cX7_copy 8 = .ok (.aload_n 1, 1) := by decide +kernel
theorem dX7_copy_9 : decode cX7_copy 9 = .ok (.aload_n 0, 1) := by decide +kernel
theorem dX7_copy_10 : decode cX7_copy 10 = .ok (.getfield 9, 3) := by decide +kernel
theorem dX7_copy_13 : decode cX7_copy 13 = .ok (.putfield 9, 3) := by decide +kernel
theorem dX7_copy_16 : decode cX7_copy 16 = .ok (.aload_n 1, 1) := by decide +kernel
theorem dX7_copy_17 : decode cX7_copy 17 = .ok (.aload_n 0, 1) := by decide +kernel
theorem dX7_copy_18 : decode cX7_copy 18 = .ok (.getfield 15, 3) := by decide +kernel
theorem dX7_copy_21 : decode cX7_copy 21 = .ok (.putfield 15, 3) := by decide +kernel
theorem dX7_copy_24 : decode cX7_copy 24 = .ok (.iconst 0, 1) := by decide +kernel
theorem dX7_copy_25 : decode cX7_copy 25 = .ok (.istore_n 2, 1) := by decide +kernel
theorem dX7_copy_26 : decode cX7_copy 26 = .ok (.iload_n 2, 1) := by decide +kernel
theorem dX7_copy_27 : decode cX7_copy 27 = .ok (.bipush 20, 2) := by decide +kernel
theorem dX7_copy_29 : decode cX7_copy 29 = .ok (.if_icmp .ge 27, 3) := by decide +kernel
theorem dX7_copy_32 : decode cX7_copy 32 = .ok (.aload_n 1, 1) := by decide +kernel
theorem dX7_copy_33 : decode cX7_copy 33 = .ok (.getfield 19, 3) := by decide +kernel
theorem dX7_copy_36 : decode cX7_copy 36 = .ok (.iload_n 2, 1) := by decide +kernel
theorem dX7_copy_37 : decode cX7_copy 37 = .ok (.aload_n 0, 1) := by decide +kernel
theorem dX7_copy_38 : decode cX7_copy 38 = .ok (.getfield 19, 3) := by decide +kernel
theorem dX7_copy_41 : decode cX7_copy 41 = .ok (.iload_n 2, 1) := by decide +kernel
theorem dX7_copy_42 : decode cX7_copy 42 = .ok (.aaload, 1) := by decide +kernel
theorem dX7_copy_43 : decode cX7_copy 43 = .ok (.invokevirtual 27, 3) := by decide +kernel
theorem dX7_copy_46 : decode cX7_copy 46 = .ok (.checkcast 7, 3) := by decide +kernel
theorem dX7_copy_49 : decode cX7_copy 49 = .ok (.aastore, 1) := by decide +kernel
theorem dX7_copy_50 : decode cX7_copy 50 = .ok (.iinc 2 1, 3) := by decide +kernel
theorem dX7_copy_53 : decode cX7_copy 53 = .ok (.goto (-27), 3) := by decide +kernel
theorem dX7_copy_56 : decode cX7_copy 56 = .ok (.aload_n 1, 1) := by decide +kernel
theorem dX7_copy_57 : decode cX7_copy 57 = .ok (.aload_n 0, 1) := by decide +kernel
theorem dX7_copy_58 : decode cX7_copy 58 = .ok (.getfield 22, 3) := by decide +kernel
theorem dX7_copy_61 : decode cX7_copy 61 = .ok (.putfield 22, 3) := by decide +kernel
theorem dX7_copy_64 : decode cX7_copy 64 = .ok (.aload_n 1, 1) := by decide +kernel
theorem dX7_copy_65 : decode cX7_copy 65 = .ok (.aload_n 0, 1) := by decide +kernel
theorem dX7_copy_66 : decode cX7_copy 66 = .ok (.getfield 31, 3) := by decide +kernel
theorem dX7_copy_69 : decode cX7_copy 69 = .ok (.putfield 31, 3) := by decide +kernel
theorem dX7_copy_72 : decode cX7_copy 72 = .ok (.aload_n 1, 1) := by decide +kernel
theorem dX7_copy_73 : decode cX7_copy 73 = .ok (.areturn, 1) := by decide +kernel
theorem dX7_with_0 : decode cX7_with 0 = .ok (.aload_n 0, 1) := by decide +kernel
theorem dX7_with_1 : decode cX7_with 1 = .ok (.arraylength, 1) := by decide +kernel
theorem dX7_with_2 : decode cX7_with 2 = .ok (.iconst 1, 1) := by decide +kernel
theorem dX7_with_3 : decode cX7_with 3 = .ok (.iadd, 1) := by decide +kernel
theorem dX7_with_4 : decode cX7_with 4 = .ok (.anewarray 7, 3) := by decide +kernel
theorem dX7_with_7 : decode cX7_with 7 = .ok (.astore_n 2, 1) := by decide +kernel
theorem dX7_with_8 : decode cX7_with 8 = .ok (.iconst 0, 1) := by decide +kernel
theorem dX7_with_9 : decode cX7_with 9 = .ok (.istore_n 3, 1) := by decide +kernel
theorem dX7_with_10 : decode cX7_with 10 = .ok (.iload_n 3, 1) := by decide +kernel
theorem dX7_with_11 : decode cX7_with 11 = .ok (.aload_n 0, 1) := by decide +kernel
theorem dX7_with_12 : decode cX7_with 12 = .ok (.arraylength, 1) := by decide +kernel
theorem dX7_with_13 : decode cX7_with 13 = .ok (.if_icmp .ge 15, 3) := by decide +kernel
theorem dX7_with_16 : decode cX7_with 16 = .ok (.aload_n 2, 1) := by decide +kernel
theorem dX7_with_17 : decode cX7_with 17 = .ok (.iload_n 3, 1) := by decide +kernel
theorem dX7_with_18 : decode cX7_with 18 = .ok (.aload_n 0, 1) := by decide +kernel
theorem dX7_with_19 : decode cX7_with 19 = .ok (.iload_n 3, 1) := by decide +kernel
theorem dX7_with_20 : decode cX7_with 20 = .ok (.aaload, 1) := by decide +kernel
theorem dX7_with_21 : decode cX7_with 21 = .ok (.aastore, 1) := by decide +kernel
theorem dX7_with_22 : decode cX7_with 22 = .ok (.iinc 3 1, 3) := by decide +kernel
theorem dX7_with_25 : decode cX7_with 25 = .ok (.goto (-15), 3) := by decide +kernel
theorem dX7_with_28 : decode cX7_with 28 = .ok (.aload_n 2, 1) := by decide +kernel
theorem dX7_with_29 : decode cX7_with 29 = .ok (.aload_n 0, 1) := by decide +kernel
theorem dX7_with_30 : decode cX7_with 30 = .ok (.arraylength, 1) := by decide +kernel
theorem dX7_with_31 : decode cX7_with 31 = .ok (.aload_n 1, 1) := by decide +kernel
theorem dX7_with_32 : decode cX7_with 32 = .ok (.aastore, 1) := by decide +kernel
theorem dX7_with_33 : decode cX7_with 33 = .ok (.aload_n 2, 1) := by decide +kernel
theorem dX7_with_34 : decode cX7_with 34 = .ok (.areturn, 1) := by decide +kernel
theorem dX7_without_0 : decode cX7_without 0 = .ok (.aload_n 0, 1) := by decide +kernel
theorem dX7_without_1 : decode cX7_without 1 = .ok (.arraylength, 1) := by decide +kernel
theorem dX7_without_2 : decode cX7_without 2 = .ok (.iconst 1, 1) := by decide +kernel
theorem dX7_without_3 : decode cX7_without 3 = .ok (.isub, 1) := by decide +kernel
theorem dX7_without_4 : decode cX7_without 4 = .ok (.anewarray 7, 3) := by decide +kernel
theorem dX7_without_7 : decode cX7_without 7 = .ok (.astore_n 2, 1) := by decide +kernel
theorem dX7_without_8 : decode cX7_without 8 = .ok (.iconst 0, 1) := by decide +kernel
theorem dX7_without_9 : decode cX7_without 9 = .ok (.istore_n 3, 1) := by decide +kernel
theorem dX7_without_10 : decode cX7_without 10 = .ok (.iload_n 3, 1) := by decide +kernel
theorem dX7_without_11 : decode cX7_without 11 = .ok (.aload_n 2, 1) := by decide +kernel
theorem dX7_without_12 : decode cX7_without 12 = .ok (.arraylength, 1) := by decide +kernel
theorem dX7_without_13 : decode cX7_without 13 = .ok (.if_icmp .ge 26, 3) := by decide +kernel
theorem dX7_without_16 : decode cX7_without 16 = .ok (.aload_n 2, 1) := by decide +kernel
theorem dX7_without_17 : decode cX7_without 17 = .ok (.iload_n 3, 1) := by decide +kernel
theorem dX7_without_18 : decode cX7_without 18 = .ok (.aload_n 0, 1) := by decide +kernel
theorem dX7_without_19 : decode cX7_without 19 = .ok (.iload_n 3, 1) := by decide +kernel
theorem dX7_without_20 : decode cX7_without 20 = .ok (.iload_n 1, 1) := by decide +kernel
theorem dX7_without_21 : decode cX7_without 21 = .ok (.if_icmp .ge 7, 3) := by decide +kernel
theorem dX7_without_24 : decode cX7_without 24 = .ok (.iload_n 3, 1) := by decide +kernel
theorem dX7_without_25 : decode cX7_without 25 = .ok (.goto 6, 3) := by decide +kernel
theorem dX7_without_28 : decode cX7_without 28 = .ok (.iload_n 3, 1) := by decide +kernel
theorem dX7_without_29 : decode cX7_without 29 = .ok (.iconst 1, 1) := by decide +kernel
theorem dX7_without_30 : decode cX7_without 30 = .ok (.iadd, 1) := by decide +kernel
theorem dX7_without_31 : decode cX7_without 31 = .ok (.aaload, 1) := by decide +kernel
theorem dX7_without_32 : decode cX7_without 32 = .ok (.aastore, 1) := by decide +kernel
theorem dX7_without_33 : decode cX7_without 33 = .ok (.iinc 3 1, 3) := by decide +kernel
theorem dX7_without_36 : decode cX7_without 36 = .ok (.goto (-26), 3) := by decide +kernel
theorem dX7_without_39 : decode cX7_without 39 = .ok (.aload_n 2, 1) := by decide +kernel
theorem dX7_without_40 : decode cX7_without 40 = .ok (.areturn, 1) := by decide +kernel
theorem dX7_isOn_0 : decode cX7_isOn 0 = .ok (.aload_n 0, 1) := by decide +kernel
theorem dX7_isOn_1 : decode cX7_isOn 1 = .ok (.iconst 3, 1) := by decide +kernel
theorem dX7_isOn_2 : decode cX7_isOn 2 = .ok (.iaload, 1) := by decide +kernel
theorem dX7_isOn_3 : decode cX7_isOn 3 = .ok (.iconst 1, 1) := by decide +kernel
theorem dX7_isOn_4 : decode cX7_isOn 4 = .ok (.if_icmp .ne 11, 3) := by decide +kernel
theorem dX7_isOn_7 : decode cX7_isOn 7 = .ok (.iload_n 2, 1) := by decide +kernel
theorem dX7_isOn_8 : decode cX7_isOn 8 = .ok (.aload_n 0, 1) := by decide +kernel
theorem dX7_isOn_9 : decode cX7_isOn 9 = .ok (.iconst 1, 1) := by decide +kernel
theorem dX7_isOn_10 : decode cX7_isOn 10 = .ok (.iaload, 1) := by decide +kernel
theorem dX7_isOn_11 : decode cX7_isOn 11 = .ok (.isub, 1) := by decide +kernel
theorem dX7_isOn_12 : decode cX7_isOn 12 = .ok (.goto 8, 3) := by decide +kernel
theorem dX7_isOn_15 : decode cX7_isOn 15 = .ok (.iload_n 1, 1) := by decide +kernel
theorem dX7_isOn_16 : decode cX7_isOn 16 = .ok (.aload_n 0, 1) := by decide +kernel
theorem dX7_isOn_17 : decode cX7_isOn 17 = .ok (.iconst 0, 1) := by decide +kernel
theorem dX7_isOn_18 : decode cX7_isOn 18 = .ok (.iaload, 1) := by decide +kernel
theorem dX7_isOn_19 : decode cX7_isOn 19 = .ok (.isub, 1) := by decide +kernel
theorem dX7_isOn_20 : decode cX7_isOn 20 = .ok (.istore_n 3, 1) := by decide +kernel
theorem dX7_isOn_21 : decode cX7_isOn 21 = .ok (.iload_n 3, 1) := by decide +kernel
theorem dX7_isOn_22 : decode cX7_isOn 22 = .ok (.ifCond .lt 38, 3) := by decide +kernel
theorem dX7_isOn_25 : decode cX7_isOn 25 = .ok (.iload_n 3, 1) := by decide +kernel
theorem dX7_isOn_26 : decode cX7_isOn 26 = .ok (.aload_n 0, 1) := by decide +kernel
theorem dX7_isOn_27 : decode cX7_isOn 27 = .ok (.iconst 2, 1) := by decide +kernel
theorem dX7_isOn_28 : decode cX7_isOn 28 = .ok (.iaload, 1) := by decide +kernel
theorem dX7_isOn_29 : decode cX7_isOn 29 = .ok (.if_icmp .ge 31, 3) := by decide +kernel
theorem dX7_isOn_32 : decode cX7_isOn 32 = .ok (.aload_n 0, 1) := by decide +kernel
theorem dX7_isOn_33 : decode cX7_isOn 33 = .ok (.iconst 3, 1) := by decide +kernel
theorem dX7_isOn_34 : decode cX7_isOn 34 = .ok (.iaload, 1) := by decide +kernel
theorem dX7_isOn_35 : decode cX7_isOn 35 = .ok (.iconst 1, 1) := by decide +kernel
theorem dX7_isOn_36 : decode cX7_isOn 36 = .ok (.if_icmp .ne 13, 3) := by decide +kernel
theorem dX7_isOn_39 : decode cX7_isOn 39 = .ok (.iload_n 1, 1) := by decide +kernel
theorem dX7_isOn_40 : decode cX7_isOn 40 = .ok (.aload_n 0, 1) := by decide +kernel
theorem dX7_isOn_41 : decode cX7_isOn 41 = .ok (.iconst 0, 1) := by decide +kernel
theorem dX7_isOn_42 : decode cX7_isOn 42 = .ok (.iaload, 1) := by decide +kernel
theorem dX7_isOn_43 : decode cX7_isOn 43 = .ok (.if_icmp .ne 17, 3) := by decide +kernel
theorem dX7_isOn_46 : decode cX7_isOn 46 = .ok (.goto 10, 3) := by decide +kernel
theorem dX7_isOn_49 : decode cX7_isOn 49 = .ok (.iload_n 2, 1) := by decide +kernel
theorem dX7_isOn_50 : decode cX7_isOn 50 = .ok (.aload_n 0, 1) := by decide +kernel
theorem dX7_isOn_51 : decode cX7_isOn 51 = .ok (.iconst 1, 1) := by decide +kernel
theorem dX7_isOn_52 : decode cX7_isOn 52 = .ok (.iaload, 1) := by decide +kernel
theorem dX7_isOn_53 : decode cX7_isOn 53 = .ok (.if_icmp .ne 7, 3) := by decide +kernel
theorem dX7_isOn_56 : decode cX7_isOn 56 = .ok (.iconst 1, 1) := by decide +kernel
theorem dX7_isOn_57 : decode cX7_isOn 57 = .ok (.goto 4, 3) := by decide +kernel
theorem dX7_isOn_60 : decode cX7_isOn 60 = .ok (.iconst 0, 1) := by decide +kernel
theorem dX7_isOn_61 : decode cX7_isOn 61 = .ok (.ireturn, 1) := by decide +kernel
theorem dX7_highest_0 : decode cX7_highest 0 = .ok (.iconst 0, 1) := by decide +kernel
theorem dX7_highest_1 : decode cX7_highest 1 = .ok (.newarray .int, 2) := by decide +kernel
theorem dX7_highest_3 : decode cX7_highest 3 = .ok (.astore_n 3, 1) := by decide +kernel
theorem dX7_highest_4 : decode cX7_highest 4 = .ok (.aload_n 0, 1) := by decide +kernel
theorem dX7_highest_5 : decode cX7_highest 5 = .ok (.getfield 9, 3) := by decide +kernel
theorem dX7_highest_8 : decode cX7_highest 8 = .ok (.arraylength, 1) := by decide +kernel
theorem dX7_highest_9 : decode cX7_highest 9 = .ok (.iconst 1, 1) := by decide +kernel
theorem dX7_highest_10 : decode cX7_highest 10 = .ok (.isub, 1) := by decide +kernel
theorem dX7_highest_11 : decode cX7_highest 11 = .ok (.istore 4, 2) := by decide +kernel
theorem dX7_highest_13 : decode cX7_highest 13 = .ok (.iload 4, 2) := by decide +kernel
theorem dX7_highest_15 : decode cX7_highest 15 = .ok (.ifCond .lt 52, 3) := by decide +kernel
theorem dX7_highest_18 : decode cX7_highest 18 = .ok (.aload_n 0, 1) := by decide +kernel
theorem dX7_highest_19 : decode cX7_highest 19 = .ok (.getfield 9, 3) := by decide +kernel
theorem dX7_highest_22 : decode cX7_highest 22 = .ok (.iload 4, 2) := by decide +kernel
theorem dX7_highest_24 : decode cX7_highest 24 = .ok (.aaload, 1) := by decide +kernel
theorem dX7_highest_25 : decode cX7_highest 25 = .ok (.iload_n 1, 1) := by decide +kernel
theorem dX7_highest_26 : decode cX7_highest 26 = .ok (.iload_n 2, 1) := by decide +kernel
theorem dX7_highest_27 : decode cX7_highest 27 = .ok (.invokestatic 34, 3) := by decide +kernel
theorem dX7_highest_30 : decode cX7_highest 30 = .ok (.ifCond .eq 31, 3) := by decide +kernel
theorem dX7_highest_33 : decode cX7_highest 33 = .ok (.aload_n 3, 1) := by decide +kernel
theorem dX7_highest_34 : decode cX7_highest 34 = .ok (.arraylength, 1) := by decide +kernel
theorem dX7_highest_35 : decode cX7_highest 35 = .ok (.ifCond .eq 18, 3) := by decide +kernel
theorem dX7_highest_38 : decode cX7_highest 38 = .ok (.aload_n 0, 1) := by decide +kernel
theorem dX7_highest_39 : decode cX7_highest 39 = .ok (.getfield 9, 3) := by decide +kernel
theorem dX7_highest_42 : decode cX7_highest 42 = .ok (.iload 4, 2) := by decide +kernel
theorem dX7_highest_44 : decode cX7_highest 44 = .ok (.aaload, 1) := by decide +kernel
theorem dX7_highest_45 : decode cX7_highest 45 = .ok (.iconst 4, 1) := by decide +kernel
theorem dX7_highest_46 : decode cX7_highest 46 = .ok (.iaload, 1) := by decide +kernel
theorem dX7_highest_47 : decode cX7_highest 47 = .ok (.aload_n 3, 1) := by decide +kernel
theorem dX7_highest_48 : decode cX7_highest 48 = .ok (.iconst 4, 1) := by decide +kernel
theorem dX7_highest_49 : decode cX7_highest 49 = .ok (.iaload, 1) := by decide +kernel
theorem dX7_highest_50 : decode cX7_highest 50 = .ok (.if_icmp .lt 11, 3) := by decide +kernel
theorem dX7_highest_53 : decode cX7_highest 53 = .ok (.aload_n 0, 1) := by decide +kernel
theorem dX7_highest_54 : decode cX7_highest 54 = .ok (.getfield 9, 3) := by decide +kernel
theorem dX7_highest_57 : decode cX7_highest 57 = .ok (.iload 4, 2) := by decide +kernel
theorem dX7_highest_59 : decode cX7_highest 59 = .ok (.aaload, 1) := by decide +kernel
theorem dX7_highest_60 : decode cX7_highest 60 = .ok (.astore_n 3, 1) := by decide +kernel
theorem dX7_highest_61 : decode cX7_highest 61 = .ok (.iinc 4 (-1), 3) := by decide +kernel
theorem dX7_highest_64 : decode cX7_highest 64 = .ok (.goto (-51), 3) := by decide +kernel
theorem dX7_highest_67 : decode cX7_highest 67 = .ok (.aload_n 3, 1) := by decide +kernel
theorem dX7_highest_68 : decode cX7_highest 68 = .ok (.areturn, 1) := by decide +kernel
theorem dX7_over_0 : decode cX7_over 0 = .ok (.iload_n 2, 1) := by decide +kernel
theorem dX7_over_1 : decode cX7_over 1 = .ok (.istore 4, 2) := by decide +kernel
theorem dX7_over_3 : decode cX7_over 3 = .ok (.iconst 0, 1) := by decide +kernel
theorem dX7_over_4 : decode cX7_over 4 = .ok (.newarray .int, 2) := by decide +kernel
theorem dX7_over_6 : decode cX7_over 6 = .ok (.astore 5, 2) := by decide +kernel
theorem dX7_over_8 : decode cX7_over 8 = .ok (.iconst 0, 1) := by decide +kernel
theorem dX7_over_9 : decode cX7_over 9 = .ok (.istore 6, 2) := by decide +kernel
theorem dX7_over_11 : decode cX7_over 11 = .ok (.iconst 0, 1) := by decide +kernel
theorem dX7_over_12 : decode cX7_over 12 = .ok (.istore 7, 2) := by decide +kernel
theorem dX7_over_14 : decode cX7_over 14 = .ok (.iload 7, 2) := by decide +kernel
theorem dX7_over_16 : decode cX7_over 16 = .ok (.bipush 20, 2) := by decide +kernel
theorem dX7_over_18 : decode cX7_over 18 = .ok (.if_icmp .ge 221, 3) := by decide +kernel
theorem dX7_over_21 : decode cX7_over 21 = .ok (.iload 7, 2) := by decide +kernel
theorem dX7_over_23 : decode cX7_over 23 = .ok (.iload 6, 2) := by decide +kernel
theorem dX7_over_25 : decode cX7_over 25 = .ok (.isub, 1) := by decide +kernel
theorem dX7_over_26 : decode cX7_over 26 = .ok (.istore 8, 2) := by decide +kernel
theorem dX7_over_28 : decode cX7_over 28 = .ok (.aload 5, 2) := by decide +kernel
theorem dX7_over_30 : decode cX7_over 30 = .ok (.arraylength, 1) := by decide +kernel
theorem dX7_over_31 : decode cX7_over 31 = .ok (.ifCond .ne 7, 3) := by decide +kernel
theorem dX7_over_34 : decode cX7_over 34 = .ok (.iconst 0, 1) := by decide +kernel
theorem dX7_over_35 : decode cX7_over 35 = .ok (.goto 18, 3) := by decide +kernel
theorem dX7_over_38 : decode cX7_over 38 = .ok (.iconst 0, 1) := by decide +kernel
theorem dX7_over_39 : decode cX7_over 39 = .ok (.iconst 2, 1) := by decide +kernel
theorem dX7_over_40 : decode cX7_over 40 = .ok (.aload 5, 2) := by decide +kernel
theorem dX7_over_42 : decode cX7_over 42 = .ok (.iconst 4, 1) := by decide +kernel
theorem dX7_over_43 : decode cX7_over 43 = .ok (.iaload, 1) := by decide +kernel
theorem dX7_over_44 : decode cX7_over 44 = .ok (.imul, 1) := by decide +kernel
theorem dX7_over_45 : decode cX7_over 45 = .ok (.iload 8, 2) := by decide +kernel
theorem dX7_over_47 : decode cX7_over 47 = .ok (.isub, 1) := by decide +kernel
theorem dX7_over_48 : decode cX7_over 48 = .ok (.iconst 1, 1) := by decide +kernel
theorem dX7_over_49 : decode cX7_over 49 = .ok (.iadd, 1) := by decide +kernel
theorem dX7_over_50 : decode cX7_over 50 = .ok (.invokestatic 38, 3) := by decide +kernel
theorem dX7_over_53 : decode cX7_over 53 = .ok (.istore 9, 2) := by decide +kernel
theorem dX7_over_55 : decode cX7_over 55 = .ok (.aload_n 1, 1) := by decide +kernel
theorem dX7_over_56 : decode cX7_over 56 = .ok (.iload 7, 2) := by decide +kernel
theorem dX7_over_58 : decode cX7_over 58 = .ok (.aaload, 1) := by decide +kernel
theorem dX7_over_59 : decode cX7_over 59 = .ok (.arraylength, 1) := by decide +kernel
theorem dX7_over_60 : decode cX7_over 60 = .ok (.ifCond .le 29, 3) := by decide +kernel
theorem dX7_over_63 : decode cX7_over 63 = .ok (.iconst 2, 1) := by decide +kernel
theorem dX7_over_64 : decode cX7_over 64 = .ok (.aload_n 1, 1) := by decide +kernel
theorem dX7_over_65 : decode cX7_over 65 = .ok (.iload 7, 2) := by decide +kernel
theorem dX7_over_67 : decode cX7_over 67 = .ok (.aaload, 1) := by decide +kernel
theorem dX7_over_68 : decode cX7_over 68 = .ok (.iconst 4, 1) := by decide +kernel
theorem dX7_over_69 : decode cX7_over 69 = .ok (.iaload, 1) := by decide +kernel
theorem dX7_over_70 : decode cX7_over 70 = .ok (.imul, 1) := by decide +kernel
theorem dX7_over_71 : decode cX7_over 71 = .ok (.iload 9, 2) := by decide +kernel
theorem dX7_over_73 : decode cX7_over 73 = .ok (.if_icmp .lt 16, 3) := by decide +kernel
theorem dX7_over_76 : decode cX7_over 76 = .ok (.aload_n 1, 1) := by decide +kernel
theorem dX7_over_77 : decode cX7_over 77 = .ok (.iload 7, 2) := by decide +kernel
theorem dX7_over_79 : decode cX7_over 79 = .ok (.aaload, 1) := by decide +kernel
theorem dX7_over_80 : decode cX7_over 80 = .ok (.astore 5, 2) := by decide +kernel
theorem dX7_over_82 : decode cX7_over 82 = .ok (.iload 7, 2) := by decide +kernel
theorem dX7_over_84 : decode cX7_over 84 = .ok (.istore 6, 2) := by decide +kernel
theorem dX7_over_86 : decode cX7_over 86 = .ok (.goto 147, 3) := by decide +kernel
theorem dX7_over_89 : decode cX7_over 89 = .ok (.iload 9, 2) := by decide +kernel
theorem dX7_over_91 : decode cX7_over 91 = .ok (.ifCond .le 79, 3) := by decide +kernel
theorem dX7_over_94 : decode cX7_over 94 = .ok (.iload 8, 2) := by decide +kernel
theorem dX7_over_96 : decode cX7_over 96 = .ok (.aload 5, 2) := by decide +kernel
theorem dX7_over_98 : decode cX7_over 98 = .ok (.iconst 5, 1) := by decide +kernel
theorem dX7_over_99 : decode cX7_over 99 = .ok (.iaload, 1) := by decide +kernel
theorem dX7_over_100 : decode cX7_over 100 = .ok (.if_icmp .le 70, 3) := by decide +kernel
theorem dX7_over_103 : decode cX7_over 103 = .ok (.iconst 0, 1) := by decide +kernel
theorem dX7_over_104 : decode cX7_over 104 = .ok (.bipush 10, 2) := by decide +kernel
theorem dX7_over_106 : decode cX7_over 106 = .ok (.aload 5, 2) := by decide +kernel
theorem dX7_over_108 : decode cX7_over 108 = .ok (.iconst 4, 1) := by decide +kernel
theorem dX7_over_109 : decode cX7_over 109 = .ok (.iaload, 1) := by decide +kernel
theorem dX7_over_110 : decode cX7_over 110 = .ok (.imul, 1) := by decide +kernel
theorem dX7_over_111 : decode cX7_over 111 = .ok (.aload_n 0, 1) := by decide +kernel
theorem dX7_over_112 : decode cX7_over 112 = .ok (.iload 7, 2) := by decide +kernel
theorem dX7_over_114 : decode cX7_over 114 = .ok (.iaload, 1) := by decide +kernel
theorem dX7_over_115 : decode cX7_over 115 = .ok (.isub, 1) := by decide +kernel
theorem dX7_over_116 : decode cX7_over 116 = .ok (.invokestatic 38, 3) := by decide +kernel
theorem dX7_over_119 : decode cX7_over 119 = .ok (.istore 10, 2) := by decide +kernel
theorem dX7_over_121 : decode cX7_over 121 = .ok (.iload 4, 2) := by decide +kernel
theorem dX7_over_123 : decode cX7_over 123 = .ok (.iconst 4, 1) := by decide +kernel
theorem dX7_over_124 : decode cX7_over 124 = .ok (.if_icmp .ge 8, 3) := by decide +kernel
theorem dX7_over_127 : decode cX7_over 127 = .ok (.iload 4, 2) := by decide +kernel
theorem dX7_over_129 : decode cX7_over 129 = .ok (.goto 4, 3) := by decide +kernel
theorem dX7_over_132 : decode cX7_over 132 = .ok (.iconst 4, 1) := by decide +kernel
theorem dX7_over_133 : decode cX7_over 133 = .ok (.istore 11, 2) := by decide +kernel
theorem dX7_over_135 : decode cX7_over 135 = .ok (.iload 11, 2) := by decide +kernel
theorem dX7_over_137 : decode cX7_over 137 = .ok (.iload 10, 2) := by decide +kernel
theorem dX7_over_139 : decode cX7_over 139 = .ok (.if_icmp .ge 8, 3) := by decide +kernel
theorem dX7_over_142 : decode cX7_over 142 = .ok (.iload 11, 2) := by decide +kernel
theorem dX7_over_144 : decode cX7_over 144 = .ok (.goto 5, 3) := by decide +kernel
theorem dX7_over_147 : decode cX7_over 147 = .ok (.iload 10, 2) := by decide +kernel
theorem dX7_over_149 : decode cX7_over 149 = .ok (.istore 11, 2) := by decide +kernel
theorem dX7_over_151 : decode cX7_over 151 = .ok (.aload_n 0, 1) := by decide +kernel
theorem dX7_over_152 : decode cX7_over 152 = .ok (.iload 7, 2) := by decide +kernel
theorem dX7_over_154 : decode cX7_over 154 = .ok (.dup2, 1) := by decide +kernel
theorem dX7_over_155 : decode cX7_over 155 = .ok (.iaload, 1) := by decide +kernel
theorem dX7_over_156 : decode cX7_over 156 = .ok (.iload 11, 2) := by decide +kernel
theorem dX7_over_158 : decode cX7_over 158 = .ok (.iadd, 1) := by decide +kernel
theorem dX7_over_159 : decode cX7_over 159 = .ok (.iastore, 1) := by decide +kernel
theorem dX7_over_160 : decode cX7_over 160 = .ok (.iload 4, 2) := by decide +kernel
theorem dX7_over_162 : decode cX7_over 162 = .ok (.iload 11, 2) := by decide +kernel
theorem dX7_over_164 : decode cX7_over 164 = .ok (.isub, 1) := by decide +kernel
theorem dX7_over_165 : decode cX7_over 165 = .ok (.istore 4, 2) := by decide +kernel
theorem dX7_over_167 : decode cX7_over 167 = .ok (.goto 66, 3) := by decide +kernel
theorem dX7_over_170 : decode cX7_over 170 = .ok (.iconst 0, 1) := by decide +kernel
theorem dX7_over_171 : decode cX7_over 171 = .ok (.bipush 10, 2) := by decide +kernel
theorem dX7_over_173 : decode cX7_over 173 = .ok (.iload_n 3, 1) := by decide +kernel
theorem dX7_over_174 : decode cX7_over 174 = .ok (.imul, 1) := by decide +kernel
theorem dX7_over_175 : decode cX7_over 175 = .ok (.iload 4, 2) := by decide +kernel
theorem dX7_over_177 : decode cX7_over 177 = .ok (.isub, 1) := by decide +kernel
theorem dX7_over_178 : decode cX7_over 178 = .ok (.invokestatic 38, 3) := by decide +kernel
theorem dX7_over_181 : decode cX7_over 181 = .ok (.istore 10, 2) := by decide +kernel
theorem dX7_over_183 : decode cX7_over 183 = .ok (.aload_n 0, 1) := by decide +kernel
theorem dX7_over_184 : decode cX7_over 184 = .ok (.iload 7, 2) := by decide +kernel
theorem dX7_over_186 : decode cX7_over 186 = .ok (.iaload, 1) := by decide +kernel
theorem dX7_over_187 : decode cX7_over 187 = .ok (.iload_n 3, 1) := by decide +kernel
theorem dX7_over_188 : decode cX7_over 188 = .ok (.if_icmp .ge 10, 3) := by decide +kernel
theorem dX7_over_191 : decode cX7_over 191 = .ok (.aload_n 0, 1) := by decide +kernel
theorem dX7_over_192 : decode cX7_over 192 = .ok (.iload 7, 2) := by decide +kernel
theorem dX7_over_194 : decode cX7_over 194 = .ok (.iaload, 1) := by decide +kernel
theorem dX7_over_195 : decode cX7_over 195 = .ok (.goto 4, 3) := by decide +kernel
theorem dX7_over_198 : decode cX7_over 198 = .ok (.iload_n 3, 1) := by decide +kernel
theorem dX7_over_199 : decode cX7_over 199 = .ok (.istore 11, 2) := by decide +kernel
theorem dX7_over_201 : decode cX7_over 201 = .ok (.iload 11, 2) := by decide +kernel
theorem dX7_over_203 : decode cX7_over 203 = .ok (.iload 10, 2) := by decide +kernel
theorem dX7_over_205 : decode cX7_over 205 = .ok (.if_icmp .ge 8, 3) := by decide +kernel
theorem dX7_over_208 : decode cX7_over 208 = .ok (.iload 11, 2) := by decide +kernel
theorem dX7_over_210 : decode cX7_over 210 = .ok (.goto 5, 3) := by decide +kernel
theorem dX7_over_213 : decode cX7_over 213 = .ok (.iload 10, 2) := by decide +kernel
theorem dX7_over_215 : decode cX7_over 215 = .ok (.istore 11, 2) := by decide +kernel
theorem dX7_over_217 : decode cX7_over 217 = .ok (.aload_n 0, 1) := by decide +kernel
theorem dX7_over_218 : decode cX7_over 218 = .ok (.iload 7, 2) := by decide +kernel
theorem dX7_over_220 : decode cX7_over 220 = .ok (.dup2, 1) := by decide +kernel
theorem dX7_over_221 : decode cX7_over 221 = .ok (.iaload, 1) := by decide +kernel
theorem dX7_over_222 : decode cX7_over 222 = .ok (.iload 11, 2) := by decide +kernel
theorem dX7_over_224 : decode cX7_over 224 = .ok (.isub, 1) := by decide +kernel
theorem dX7_over_225 : decode cX7_over 225 = .ok (.iastore, 1) := by decide +kernel
theorem dX7_over_226 : decode cX7_over 226 = .ok (.iload 4, 2) := by decide +kernel
theorem dX7_over_228 : decode cX7_over 228 = .ok (.iload 11, 2) := by decide +kernel
theorem dX7_over_230 : decode cX7_over 230 = .ok (.iadd, 1) := by decide +kernel
theorem dX7_over_231 : decode cX7_over 231 = .ok (.istore 4, 2) := by decide +kernel
theorem dX7_over_233 : decode cX7_over 233 = .ok (.iinc 7 1, 3) := by decide +kernel
theorem dX7_over_236 : decode cX7_over 236 = .ok (.goto (-222), 3) := by decide +kernel
theorem dX7_over_239 : decode cX7_over 239 = .ok (.iload 4, 2) := by decide +kernel
theorem dX7_over_241 : decode cX7_over 241 = .ok (.ireturn, 1) := by decide +kernel
theorem dX7_spot_0 : decode cX7_spot 0 = .ok (.iload_n 0, 1) := by decide +kernel
theorem dX7_spot_1 : decode cX7_spot 1 = .ok (.iconst 2, 1) := by decide +kernel
theorem dX7_spot_2 : decode cX7_spot 2 = .ok (.if_icmp .ge 7, 3) := by decide +kernel
theorem dX7_spot_5 : decode cX7_spot 5 = .ok (.iload_n 2, 1) := by decide +kernel
theorem dX7_spot_6 : decode cX7_spot 6 = .ok (.goto 7, 3) := by decide +kernel
theorem dX7_spot_9 : decode cX7_spot 9 = .ok (.bipush 19, 2) := by decide +kernel
theorem dX7_spot_11 : decode cX7_spot 11 = .ok (.iload_n 2, 1) := by decide +kernel
theorem dX7_spot_12 : decode cX7_spot 12 = .ok (.isub, 1) := by decide +kernel
theorem dX7_spot_13 : decode cX7_spot 13 = .ok (.istore_n 3, 1) := by decide +kernel
theorem dX7_spot_14 : decode cX7_spot 14 = .ok (.iload_n 0, 1) := by decide +kernel
theorem dX7_spot_15 : decode cX7_spot 15 = .ok (.ifCond .eq 8, 3) := by decide +kernel
theorem dX7_spot_18 : decode cX7_spot 18 = .ok (.iload_n 0, 1) := by decide +kernel
theorem dX7_spot_19 : decode cX7_spot 19 = .ok (.iconst 2, 1) := by decide +kernel
theorem dX7_spot_20 : decode cX7_spot 20 = .ok (.if_icmp .ne 17, 3) := by decide +kernel
theorem dX7_spot_23 : decode cX7_spot 23 = .ok (.iconst 2, 1) := by decide +kernel
theorem dX7_spot_24 : decode cX7_spot 24 = .ok (.newarray .int, 2) := by decide +kernel
theorem dX7_spot_26 : decode cX7_spot 26 = .ok (.dup, 1) := by decide +kernel
theorem dX7_spot_27 : decode cX7_spot 27 = .ok (.iconst 0, 1) := by decide +kernel
theorem dX7_spot_28 : decode cX7_spot 28 = .ok (.iload_n 3, 1) := by decide +kernel
theorem dX7_spot_29 : decode cX7_spot 29 = .ok (.iastore, 1) := by decide +kernel
theorem dX7_spot_30 : decode cX7_spot 30 = .ok (.dup, 1) := by decide +kernel
theorem dX7_spot_31 : decode cX7_spot 31 = .ok (.iconst 1, 1) := by decide +kernel
theorem dX7_spot_32 : decode cX7_spot 32 = .ok (.iload_n 1, 1) := by decide +kernel
theorem dX7_spot_33 : decode cX7_spot 33 = .ok (.iastore, 1) := by decide +kernel
theorem dX7_spot_34 : decode cX7_spot 34 = .ok (.goto 14, 3) := by decide +kernel
theorem dX7_spot_37 : decode cX7_spot 37 = .ok (.iconst 2, 1) := by decide +kernel
theorem dX7_spot_38 : decode cX7_spot 38 = .ok (.newarray .int, 2) := by decide +kernel
theorem dX7_spot_40 : decode cX7_spot 40 = .ok (.dup, 1) := by decide +kernel
theorem dX7_spot_41 : decode cX7_spot 41 = .ok (.iconst 0, 1) := by decide +kernel
theorem dX7_spot_42 : decode cX7_spot 42 = .ok (.iload_n 1, 1) := by decide +kernel
theorem dX7_spot_43 : decode cX7_spot 43 = .ok (.iastore, 1) := by decide +kernel
theorem dX7_spot_44 : decode cX7_spot 44 = .ok (.dup, 1) := by decide +kernel
theorem dX7_spot_45 : decode cX7_spot 45 = .ok (.iconst 1, 1) := by decide +kernel
theorem dX7_spot_46 : decode cX7_spot 46 = .ok (.iload_n 3, 1) := by decide +kernel
theorem dX7_spot_47 : decode cX7_spot 47 = .ok (.iastore, 1) := by decide +kernel
theorem dX7_spot_48 : decode cX7_spot 48 = .ok (.areturn, 1) := by decide +kernel
theorem dX7_hour_0 : decode cX7_hour 0 = .ok (.iconst 0, 1) := by decide +kernel
theorem dX7_hour_1 : decode cX7_hour 1 = .ok (.istore_n 3, 1) := by decide +kernel
theorem dX7_hour_2 : decode cX7_hour 2 = .ok (.iconst 0, 1) := by decide +kernel
theorem dX7_hour_3 : decode cX7_hour 3 = .ok (.istore 4, 2) := by decide +kernel
theorem dX7_hour_5 : decode cX7_hour 5 = .ok (.iload 4, 2) := by decide +kernel
theorem dX7_hour_7 : decode cX7_hour 7 = .ok (.bipush 20, 2) := by decide +kernel
theorem dX7_hour_9 : decode cX7_hour 9 = .ok (.if_icmp .ge 146, 3) := by decide +kernel
theorem dX7_hour_12 : decode cX7_hour 12 = .ok (.bipush 20, 2) := by decide +kernel
theorem dX7_hour_14 : decode cX7_hour 14 = .ok (.newarray .int, 2) := by decide +kernel
theorem dX7_hour_16 : decode cX7_hour 16 = .ok (.astore 5, 2) := by decide +kernel
theorem dX7_hour_18 : decode cX7_hour 18 = .ok (.bipush 20, 2) := by decide +kernel
theorem dX7_hour_20 : decode cX7_hour 20 = .ok (.anewarray 7, 3) := by decide +kernel
theorem dX7_hour_23 : decode cX7_hour 23 = .ok (.astore 6, 2) := by decide +kernel
theorem dX7_hour_25 : decode cX7_hour 25 = .ok (.iconst 0, 1) := by decide +kernel
theorem dX7_hour_26 : decode cX7_hour 26 = .ok (.istore 7, 2) := by decide +kernel
theorem dX7_hour_28 : decode cX7_hour 28 = .ok (.iload 7, 2) := by decide +kernel
theorem dX7_hour_30 : decode cX7_hour 30 = .ok (.bipush 20, 2) := by decide +kernel
theorem dX7_hour_32 : decode cX7_hour 32 = .ok (.if_icmp .ge 55, 3) := by decide +kernel
theorem dX7_hour_35 : decode cX7_hour 35 = .ok (.iload_n 1, 1) := by decide +kernel
theorem dX7_hour_36 : decode cX7_hour 36 = .ok (.iload 4, 2) := by decide +kernel
theorem dX7_hour_38 : decode cX7_hour 38 = .ok (.iload 7, 2) := by decide +kernel
theorem dX7_hour_40 : decode cX7_hour 40 = .ok (.invokestatic 44, 3) := by decide +kernel
theorem dX7_hour_43 : decode cX7_hour 43 = .ok (.astore 8, 2) := by decide +kernel
theorem dX7_hour_45 : decode cX7_hour 45 = .ok (.aload 5, 2) := by decide +kernel
theorem dX7_hour_47 : decode cX7_hour 47 = .ok (.iload 7, 2) := by decide +kernel
theorem dX7_hour_49 : decode cX7_hour 49 = .ok (.aload_n 0, 1) := by decide +kernel
theorem dX7_hour_50 : decode cX7_hour 50 = .ok (.getfield 19, 3) := by decide +kernel
theorem dX7_hour_53 : decode cX7_hour 53 = .ok (.aload 8, 2) := by decide +kernel
theorem dX7_hour_55 : decode cX7_hour 55 = .ok (.iconst 1, 1) := by decide +kernel
theorem dX7_hour_56 : decode cX7_hour 56 = .ok (.iaload, 1) := by decide +kernel
theorem dX7_hour_57 : decode cX7_hour 57 = .ok (.aaload, 1) := by decide +kernel
theorem dX7_hour_58 : decode cX7_hour 58 = .ok (.aload 8, 2) := by decide +kernel
theorem dX7_hour_60 : decode cX7_hour 60 = .ok (.iconst 0, 1) := by decide +kernel
theorem dX7_hour_61 : decode cX7_hour 61 = .ok (.iaload, 1) := by decide +kernel
theorem dX7_hour_62 : decode cX7_hour 62 = .ok (.iaload, 1) := by decide +kernel
theorem dX7_hour_63 : decode cX7_hour 63 = .ok (.iastore, 1) := by decide +kernel
theorem dX7_hour_64 : decode cX7_hour 64 = .ok (.aload 6, 2) := by decide +kernel
theorem dX7_hour_66 : decode cX7_hour 66 = .ok (.iload 7, 2) := by decide +kernel
theorem dX7_hour_68 : decode cX7_hour 68 = .ok (.aload_n 0, 1) := by decide +kernel
theorem dX7_hour_69 : decode cX7_hour 69 = .ok (.aload 8, 2) := by decide +kernel
theorem dX7_hour_71 : decode cX7_hour 71 = .ok (.iconst 0, 1) := by decide +kernel
theorem dX7_hour_72 : decode cX7_hour 72 = .ok (.iaload, 1) := by decide +kernel
theorem dX7_hour_73 : decode cX7_hour 73 = .ok (.aload 8, 2) := by decide +kernel
theorem dX7_hour_75 : decode cX7_hour 75 = .ok (.iconst 1, 1) := by decide +kernel
theorem dX7_hour_76 : decode cX7_hour 76 = .ok (.iaload, 1) := by decide +kernel
theorem dX7_hour_77 : decode cX7_hour 77 = .ok (.invokevirtual 48, 3) := by decide +kernel
theorem dX7_hour_80 : decode cX7_hour 80 = .ok (.aastore, 1) := by decide +kernel
theorem dX7_hour_81 : decode cX7_hour 81 = .ok (.iinc 7 1, 3) := by decide +kernel
theorem dX7_hour_84 : decode cX7_hour 84 = .ok (.goto (-56), 3) := by decide +kernel
theorem dX7_hour_87 : decode cX7_hour 87 = .ok (.iload_n 3, 1) := by decide +kernel
theorem dX7_hour_88 : decode cX7_hour 88 = .ok (.aload 5, 2) := by decide +kernel
theorem dX7_hour_90 : decode cX7_hour 90 = .ok (.aload 6, 2) := by decide +kernel
theorem dX7_hour_92 : decode cX7_hour 92 = .ok (.aload_n 0, 1) := by decide +kernel
theorem dX7_hour_93 : decode cX7_hour 93 = .ok (.getfield 31, 3) := by decide +kernel
theorem dX7_hour_96 : decode cX7_hour 96 = .ok (.iload_n 2, 1) := by decide +kernel
theorem dX7_hour_97 : decode cX7_hour 97 = .ok (.invokestatic 52, 3) := by decide +kernel
theorem dX7_hour_100 : decode cX7_hour 100 = .ok (.iadd, 1) := by decide +kernel
theorem dX7_hour_101 : decode cX7_hour 101 = .ok (.istore_n 3, 1) := by decide +kernel
theorem dX7_hour_102 : decode cX7_hour 102 = .ok (.iconst 0, 1) := by decide +kernel
theorem dX7_hour_103 : decode cX7_hour 103 = .ok (.istore 7, 2) := by decide +kernel
theorem dX7_hour_105 : decode cX7_hour 105 = .ok (.iload 7, 2) := by decide +kernel
theorem dX7_hour_107 : decode cX7_hour 107 = .ok (.bipush 20, 2) := by decide +kernel
theorem dX7_hour_109 : decode cX7_hour 109 = .ok (.if_icmp .ge 40, 3) := by decide +kernel
theorem dX7_hour_112 : decode cX7_hour 112 = .ok (.aload_n 0, 1) := by decide +kernel
theorem dX7_hour_113 : decode cX7_hour 113 = .ok (.getfield 19, 3) := by decide +kernel
theorem dX7_hour_116 : decode cX7_hour 116 = .ok (.iload_n 1, 1) := by decide +kernel
theorem dX7_hour_117 : decode cX7_hour 117 = .ok (.iload 4, 2) := by decide +kernel
theorem dX7_hour_119 : decode cX7_hour 119 = .ok (.iload 7, 2) := by decide +kernel
theorem dX7_hour_121 : decode cX7_hour 121 = .ok (.invokestatic 44, 3) := by decide +kernel
theorem dX7_hour_124 : decode cX7_hour 124 = .ok (.iconst 1, 1) := by decide +kernel
theorem dX7_hour_125 : decode cX7_hour 125 = .ok (.iaload, 1) := by decide +kernel
theorem dX7_hour_126 : decode cX7_hour 126 = .ok (.aaload, 1) := by decide +kernel
theorem dX7_hour_127 : decode cX7_hour 127 = .ok (.iload_n 1, 1) := by decide +kernel
theorem dX7_hour_128 : decode cX7_hour 128 = .ok (.iload 4, 2) := by decide +kernel
theorem dX7_hour_130 : decode cX7_hour 130 = .ok (.iload 7, 2) := by decide +kernel
theorem dX7_hour_132 : decode cX7_hour 132 = .ok (.invokestatic 44, 3) := by decide +kernel
theorem dX7_hour_135 : decode cX7_hour 135 = .ok (.iconst 0, 1) := by decide +kernel
theorem dX7_hour_136 : decode cX7_hour 136 = .ok (.iaload, 1) := by decide +kernel
theorem dX7_hour_137 : decode cX7_hour 137 = .ok (.aload 5, 2) := by decide +kernel
theorem dX7_hour_139 : decode cX7_hour 139 = .ok (.iload 7, 2) := by decide +kernel
theorem dX7_hour_141 : decode cX7_hour 141 = .ok (.iaload, 1) := by decide +kernel
theorem dX7_hour_142 : decode cX7_hour 142 = .ok (.iastore, 1) := by decide +kernel
theorem dX7_hour_143 : decode cX7_hour 143 = .ok (.iinc 7 1, 3) := by decide +kernel
theorem dX7_hour_146 : decode cX7_hour 146 = .ok (.goto (-41), 3) := by decide +kernel
theorem dX7_hour_149 : decode cX7_hour 149 = .ok (.iinc 4 1, 3) := by decide +kernel
theorem dX7_hour_152 : decode cX7_hour 152 = .ok (.goto (-147), 3) := by decide +kernel
theorem dX7_hour_155 : decode cX7_hour 155 = .ok (.iload_n 3, 1) := by decide +kernel
theorem dX7_hour_156 : decode cX7_hour 156 = .ok (.ireturn, 1) := by decide +kernel
theorem dX7_blow_0 : decode cX7_blow 0 = .ok (.iconst 0, 1) := by decide +kernel
theorem dX7_blow_1 : decode cX7_blow 1 = .ok (.istore 4, 2) := by decide +kernel
theorem dX7_blow_3 : decode cX7_blow 3 = .ok (.iconst 0, 1) := by decide +kernel
theorem dX7_blow_4 : decode cX7_blow 4 = .ok (.istore 5, 2) := by decide +kernel
theorem dX7_blow_6 : decode cX7_blow 6 = .ok (.iload 5, 2) := by decide +kernel
theorem dX7_blow_8 : decode cX7_blow 8 = .ok (.iload_n 3, 1) := by decide +kernel
theorem dX7_blow_9 : decode cX7_blow 9 = .ok (.if_icmp .ge 20, 3) := by decide +kernel
theorem dX7_blow_12 : decode cX7_blow 12 = .ok (.iload 4, 2) := by decide +kernel
theorem dX7_blow_14 : decode cX7_blow 14 = .ok (.aload_n 0, 1) := by decide +kernel
theorem dX7_blow_15 : decode cX7_blow 15 = .ok (.iload_n 1, 1) := by decide +kernel
theorem dX7_blow_16 : decode cX7_blow 16 = .ok (.iload_n 2, 1) := by decide +kernel
theorem dX7_blow_17 : decode cX7_blow 17 = .ok (.invokevirtual 56, 3) := by decide +kernel
theorem dX7_blow_20 : decode cX7_blow 20 = .ok (.iadd, 1) := by decide +kernel
theorem dX7_blow_21 : decode cX7_blow 21 = .ok (.istore 4, 2) := by decide +kernel
theorem dX7_blow_23 : decode cX7_blow 23 = .ok (.iinc 5 1, 3) := by decide +kernel
theorem dX7_blow_26 : decode cX7_blow 26 = .ok (.goto (-20), 3) := by decide +kernel
theorem dX7_blow_29 : decode cX7_blow 29 = .ok (.aload_n 0, 1) := by decide +kernel
theorem dX7_blow_30 : decode cX7_blow 30 = .ok (.dup, 1) := by decide +kernel
theorem dX7_blow_31 : decode cX7_blow 31 = .ok (.getfield 59, 3) := by decide +kernel
theorem dX7_blow_34 : decode cX7_blow 34 = .ok (.iload 4, 2) := by decide +kernel
theorem dX7_blow_36 : decode cX7_blow 36 = .ok (.iadd, 1) := by decide +kernel
theorem dX7_blow_37 : decode cX7_blow 37 = .ok (.putfield 59, 3) := by decide +kernel
theorem dX7_blow_40 : decode cX7_blow 40 = .ok (.aload_n 0, 1) := by decide +kernel
theorem dX7_blow_41 : decode cX7_blow 41 = .ok (.dup, 1) := by decide +kernel
theorem dX7_blow_42 : decode cX7_blow 42 = .ok (.getfield 62, 3) := by decide +kernel
theorem dX7_blow_45 : decode cX7_blow 45 = .ok (.iload_n 3, 1) := by decide +kernel
theorem dX7_blow_46 : decode cX7_blow 46 = .ok (.iadd, 1) := by decide +kernel
theorem dX7_blow_47 : decode cX7_blow 47 = .ok (.putfield 62, 3) := by decide +kernel
theorem dX7_blow_50 : decode cX7_blow 50 = .ok (.iload 4, 2) := by decide +kernel
theorem dX7_blow_52 : decode cX7_blow 52 = .ok (.ireturn, 1) := by decide +kernel
theorem dX7_on_0 : decode cX7_on 0 = .ok (.aload_n 1, 1) := by decide +kernel
theorem dX7_on_1 : decode cX7_on 1 = .ok (.iconst 0, 1) := by decide +kernel
theorem dX7_on_2 : decode cX7_on 2 = .ok (.iaload, 1) := by decide +kernel
theorem dX7_on_3 : decode cX7_on 3 = .ok (.iconst 1, 1) := by decide +kernel
theorem dX7_on_4 : decode cX7_on 4 = .ok (.if_icmp .ne 16, 3) := by decide +kernel
theorem dX7_on_7 : decode cX7_on 7 = .ok (.aload_n 0, 1) := by decide +kernel
theorem dX7_on_8 : decode cX7_on 8 = .ok (.getfield 19, 3) := by decide +kernel
theorem dX7_on_11 : decode cX7_on 11 = .ok (.iload_n 2, 1) := by decide +kernel
theorem dX7_on_12 : decode cX7_on 12 = .ok (.aaload, 1) := by decide +kernel
theorem dX7_on_13 : decode cX7_on 13 = .ok (.aload_n 1, 1) := by decide +kernel
theorem dX7_on_14 : decode cX7_on 14 = .ok (.iconst 1, 1) := by decide +kernel
theorem dX7_on_15 : decode cX7_on 15 = .ok (.iaload, 1) := by decide +kernel
theorem dX7_on_16 : decode cX7_on 16 = .ok (.iaload, 1) := by decide +kernel
theorem dX7_on_17 : decode cX7_on 17 = .ok (.goto 13, 3) := by decide +kernel
theorem dX7_on_20 : decode cX7_on 20 = .ok (.aload_n 0, 1) := by decide +kernel
theorem dX7_on_21 : decode cX7_on 21 = .ok (.getfield 19, 3) := by decide +kernel
theorem dX7_on_24 : decode cX7_on 24 = .ok (.aload_n 1, 1) := by decide +kernel
theorem dX7_on_25 : decode cX7_on 25 = .ok (.iconst 1, 1) := by decide +kernel
theorem dX7_on_26 : decode cX7_on 26 = .ok (.iaload, 1) := by decide +kernel
theorem dX7_on_27 : decode cX7_on 27 = .ok (.aaload, 1) := by decide +kernel
theorem dX7_on_28 : decode cX7_on 28 = .ok (.iload_n 2, 1) := by decide +kernel
theorem dX7_on_29 : decode cX7_on 29 = .ok (.iaload, 1) := by decide +kernel
theorem dX7_on_30 : decode cX7_on 30 = .ok (.ireturn, 1) := by decide +kernel
theorem dX7_blocked_0 : decode cX7_blocked 0 = .ok (.iconst 0, 1) := by decide +kernel
theorem dX7_blocked_1 : decode cX7_blocked 1 = .ok (.istore_n 2, 1) := by decide +kernel
theorem dX7_blocked_2 : decode cX7_blocked 2 = .ok (.iconst 0, 1) := by decide +kernel
theorem dX7_blocked_3 : decode cX7_blocked 3 = .ok (.istore_n 3, 1) := by decide +kernel
theorem dX7_blocked_4 : decode cX7_blocked 4 = .ok (.iload_n 3, 1) := by decide +kernel
theorem dX7_blocked_5 : decode cX7_blocked 5 = .ok (.bipush 20, 2) := by decide +kernel
theorem dX7_blocked_7 : decode cX7_blocked 7 = .ok (.if_icmp .ge 30, 3) := by decide +kernel
theorem dX7_blocked_10 : decode cX7_blocked 10 = .ok (.iload_n 2, 1) := by decide +kernel
theorem dX7_blocked_11 : decode cX7_blocked 11 = .ok (.aload_n 0, 1) := by decide +kernel
theorem dX7_blocked_12 : decode cX7_blocked 12 = .ok (.aload_n 1, 1) := by decide +kernel
theorem dX7_blocked_13 : decode cX7_blocked 13 = .ok (.iload_n 3, 1) := by decide +kernel
theorem dX7_blocked_14 : decode cX7_blocked 14 = .ok (.invokevirtual 65, 3) := by decide +kernel
theorem dX7_blocked_17 : decode cX7_blocked 17 = .ok (.aload_n 0, 1) := by decide +kernel
theorem dX7_blocked_18 : decode cX7_blocked 18 = .ok (.getfield 22, 3) := by decide +kernel
theorem dX7_blocked_21 : decode cX7_blocked 21 = .ok (.if_icmp .lt 7, 3) := by decide +kernel
theorem dX7_blocked_24 : decode cX7_blocked 24 = .ok (.iconst 1, 1) := by decide +kernel
theorem dX7_blocked_25 : decode cX7_blocked 25 = .ok (.goto 4, 3) := by decide +kernel
theorem dX7_blocked_28 : decode cX7_blocked 28 = .ok (.iconst 0, 1) := by decide +kernel
theorem dX7_blocked_29 : decode cX7_blocked 29 = .ok (.iadd, 1) := by decide +kernel
theorem dX7_blocked_30 : decode cX7_blocked 30 = .ok (.istore_n 2, 1) := by decide +kernel
theorem dX7_blocked_31 : decode cX7_blocked 31 = .ok (.iinc 3 1, 3) := by decide +kernel
theorem dX7_blocked_34 : decode cX7_blocked 34 = .ok (.goto (-30), 3) := by decide +kernel
theorem dX7_blocked_37 : decode cX7_blocked 37 = .ok (.iload_n 2, 1) := by decide +kernel
theorem dX7_blocked_38 : decode cX7_blocked 38 = .ok (.ireturn, 1) := by decide +kernel
theorem dX7_allBlocked_0 : decode cX7_allBlocked 0 = .ok (.iconst 0, 1) := by decide +kernel
theorem dX7_allBlocked_1 : decode cX7_allBlocked 1 = .ok (.istore_n 1, 1) := by decide +kernel
theorem dX7_allBlocked_2 : decode cX7_allBlocked 2 = .ok (.aload_n 0, 1) := by decide +kernel
theorem dX7_allBlocked_3 : decode cX7_allBlocked 3 = .ok (.getfield 15, 3) := by decide +kernel
theorem dX7_allBlocked_6 : decode cX7_allBlocked 6 = .ok (.astore_n 2, 1) := by decide +kernel
theorem dX7_allBlocked_7 : decode cX7_allBlocked 7 = .ok (.aload_n 2, 1) := by decide +kernel
theorem dX7_allBlocked_8 : decode cX7_allBlocked 8 = .ok (.arraylength, 1) := by decide +kernel
theorem dX7_allBlocked_9 : decode cX7_allBlocked 9 = .ok (.istore_n 3, 1) := by decide +kernel
theorem dX7_allBlocked_10 : decode cX7_allBlocked 10 = .ok (.iconst 0, 1) := by decide +kernel
theorem dX7_allBlocked_11 : decode cX7_allBlocked 11 = .ok (.istore 4, 2) := by decide +kernel
theorem dX7_allBlocked_13 : decode cX7_allBlocked 13 = .ok (.iload 4, 2) := by decide +kernel
theorem dX7_allBlocked_15 : decode cX7_allBlocked 15 = .ok (.iload_n 3, 1) := by decide +kernel
theorem dX7_allBlocked_16 : decode cX7_allBlocked 16 = .ok (.if_icmp .ge 24, 3) := by decide +kernel
theorem dX7_allBlocked_19 : decode cX7_allBlocked 19 = .ok (.aload_n 2, 1) := by decide +kernel
theorem dX7_allBlocked_20 : decode cX7_allBlocked 20 = .ok (.iload 4, 2) := by decide +kernel
theorem dX7_allBlocked_22 : decode cX7_allBlocked 22 = .ok (.aaload, 1) := by decide +kernel
theorem dX7_allBlocked_23 : decode cX7_allBlocked 23 = .ok (.astore 5, 2) := by decide +kernel
theorem dX7_allBlocked_25 : decode cX7_allBlocked 25 = .ok (.iload_n 1, 1) := by decide +kernel
theorem dX7_allBlocked_26 : decode cX7_allBlocked 26 = .ok (.aload_n 0, 1) := by decide +kernel
theorem dX7_allBlocked_27 : decode cX7_allBlocked 27 = .ok (.aload 5, 2) := by decide +kernel
theorem dX7_allBlocked_29 : decode cX7_allBlocked 29 = .ok (.invokevirtual 69, 3) := by decide +kernel
theorem dX7_allBlocked_32 : decode cX7_allBlocked 32 = .ok (.iadd, 1) := by decide +kernel
theorem dX7_allBlocked_33 : decode cX7_allBlocked 33 = .ok (.istore_n 1, 1) := by decide +kernel
theorem dX7_allBlocked_34 : decode cX7_allBlocked 34 = .ok (.iinc 4 1, 3) := by decide +kernel
theorem dX7_allBlocked_37 : decode cX7_allBlocked 37 = .ok (.goto (-24), 3) := by decide +kernel
theorem dX7_allBlocked_40 : decode cX7_allBlocked 40 = .ok (.iload_n 1, 1) := by decide +kernel
theorem dX7_allBlocked_41 : decode cX7_allBlocked 41 = .ok (.ireturn, 1) := by decide +kernel
theorem dX7_tried_0 : decode cX7_tried 0 = .ok (.aload_n 0, 1) := by decide +kernel
theorem dX7_tried_1 : decode cX7_tried 1 = .ok (.invokevirtual 73, 3) := by decide +kernel
theorem dX7_tried_4 : decode cX7_tried 4 = .ok (.astore 4, 2) := by decide +kernel
theorem dX7_tried_6 : decode cX7_tried 6 = .ok (.aload 4, 2) := by decide +kernel
theorem dX7_tried_8 : decode cX7_tried 8 = .ok (.aload_n 1, 1) := by decide +kernel
theorem dX7_tried_9 : decode cX7_tried 9 = .ok (.putfield 9, 3) := by decide +kernel
theorem dX7_tried_12 : decode cX7_tried 12 = .ok (.aload 4, 2) := by decide +kernel
theorem dX7_tried_14 : decode cX7_tried 14 = .ok (.iload_n 2, 1) := by decide +kernel
theorem dX7_tried_15 : decode cX7_tried 15 = .ok (.iload_n 3, 1) := by decide +kernel
theorem dX7_tried_16 : decode cX7_tried 16 = .ok (.iconst 4, 1) := by decide +kernel
theorem dX7_tried_17 : decode cX7_tried 17 = .ok (.invokevirtual 77, 3) := by decide +kernel
theorem dX7_tried_20 : decode cX7_tried 20 = .ok (.pop, 1) := by decide +kernel
theorem dX7_tried_21 : decode cX7_tried 21 = .ok (.aload 4, 2) := by decide +kernel
theorem dX7_tried_23 : decode cX7_tried 23 = .ok (.invokevirtual 81, 3) := by decide +kernel
theorem dX7_tried_26 : decode cX7_tried 26 = .ok (.ireturn, 1) := by decide +kernel
theorem dX7_isSame_0 : decode cX7_isSame 0 = .ok (.iconst 0, 1) := by decide +kernel
theorem dX7_isSame_1 : decode cX7_isSame 1 = .ok (.istore_n 2, 1) := by decide +kernel
theorem dX7_isSame_2 : decode cX7_isSame 2 = .ok (.iconst 0, 1) := by decide +kernel
theorem dX7_isSame_3 : decode cX7_isSame 3 = .ok (.istore_n 3, 1) := by decide +kernel
theorem dX7_isSame_4 : decode cX7_isSame 4 = .ok (.iconst 0, 1) := by decide +kernel
theorem dX7_isSame_5 : decode cX7_isSame 5 = .ok (.istore 4, 2) := by decide +kernel
theorem dX7_isSame_7 : decode cX7_isSame 7 = .ok (.iload 4, 2) := by decide +kernel
theorem dX7_isSame_9 : decode cX7_isSame 9 = .ok (.bipush 20, 2) := by decide +kernel
theorem dX7_isSame_11 : decode cX7_isSame 11 = .ok (.if_icmp .ge 76, 3) := by decide +kernel
theorem dX7_isSame_14 : decode cX7_isSame 14 = .ok (.iconst 0, 1) := by decide +kernel
theorem dX7_isSame_15 : decode cX7_isSame 15 = .ok (.istore 5, 2) := by decide +kernel
theorem dX7_isSame_17 : decode cX7_isSame 17 = .ok (.iload 5, 2) := by decide +kernel
theorem dX7_isSame_19 : decode cX7_isSame 19 = .ok (.bipush 20, 2) := by decide +kernel
theorem dX7_isSame_21 : decode cX7_isSame 21 = .ok (.if_icmp .ge 60, 3) := by decide +kernel
theorem dX7_isSame_24 : decode cX7_isSame 24 = .ok (.aload_n 1, 1) := by decide +kernel
theorem dX7_isSame_25 : decode cX7_isSame 25 = .ok (.iload 5, 2) := by decide +kernel
theorem dX7_isSame_27 : decode cX7_isSame 27 = .ok (.iload 4, 2) := by decide +kernel
theorem dX7_isSame_29 : decode cX7_isSame 29 = .ok (.invokevirtual 85, 3) := by decide +kernel
theorem dX7_isSame_32 : decode cX7_isSame 32 = .ok (.aload_n 0, 1) := by decide +kernel
theorem dX7_isSame_33 : decode cX7_isSame 33 = .ok (.getfield 19, 3) := by decide +kernel
theorem dX7_isSame_36 : decode cX7_isSame 36 = .ok (.iload 4, 2) := by decide +kernel
theorem dX7_isSame_38 : decode cX7_isSame 38 = .ok (.aaload, 1) := by decide +kernel
theorem dX7_isSame_39 : decode cX7_isSame 39 = .ok (.iload 5, 2) := by decide +kernel
theorem dX7_isSame_41 : decode cX7_isSame 41 = .ok (.iaload, 1) := by decide +kernel
theorem dX7_isSame_42 : decode cX7_isSame 42 = .ok (.if_icmp .eq 5, 3) := by decide +kernel
theorem dX7_isSame_45 : decode cX7_isSame 45 = .ok (.iconst 0, 1) := by decide +kernel
theorem dX7_isSame_46 : decode cX7_isSame 46 = .ok (.ireturn, 1) := by decide +kernel
theorem dX7_isSame_47 : decode cX7_isSame 47 = .ok (.iload_n 2, 1) := by decide +kernel
theorem dX7_isSame_48 : decode cX7_isSame 48 = .ok (.aload_n 0, 1) := by decide +kernel
theorem dX7_isSame_49 : decode cX7_isSame 49 = .ok (.getfield 19, 3) := by decide +kernel
theorem dX7_isSame_52 : decode cX7_isSame 52 = .ok (.iload 4, 2) := by decide +kernel
theorem dX7_isSame_54 : decode cX7_isSame 54 = .ok (.aaload, 1) := by decide +kernel
theorem dX7_isSame_55 : decode cX7_isSame 55 = .ok (.iload 5, 2) := by decide +kernel
theorem dX7_isSame_57 : decode cX7_isSame 57 = .ok (.iaload, 1) := by decide +kernel
theorem dX7_isSame_58 : decode cX7_isSame 58 = .ok (.iadd, 1) := by decide +kernel
theorem dX7_isSame_59 : decode cX7_isSame 59 = .ok (.istore_n 2, 1) := by decide +kernel
theorem dX7_isSame_60 : decode cX7_isSame 60 = .ok (.iload_n 3, 1) := by decide +kernel
theorem dX7_isSame_61 : decode cX7_isSame 61 = .ok (.aload_n 0, 1) := by decide +kernel
theorem dX7_isSame_62 : decode cX7_isSame 62 = .ok (.getfield 19, 3) := by decide +kernel
theorem dX7_isSame_65 : decode cX7_isSame 65 = .ok (.iload 4, 2) := by decide +kernel
theorem dX7_isSame_67 : decode cX7_isSame 67 = .ok (.aaload, 1) := by decide +kernel
theorem dX7_isSame_68 : decode cX7_isSame 68 = .ok (.iload 5, 2) := by decide +kernel
theorem dX7_isSame_70 : decode cX7_isSame 70 = .ok (.iaload, 1) := by decide +kernel
theorem dX7_isSame_71 : decode cX7_isSame 71 = .ok (.invokestatic 38, 3) := by decide +kernel
theorem dX7_isSame_74 : decode cX7_isSame 74 = .ok (.istore_n 3, 1) := by decide +kernel
theorem dX7_isSame_75 : decode cX7_isSame 75 = .ok (.iinc 5 1, 3) := by decide +kernel
theorem dX7_isSame_78 : decode cX7_isSame 78 = .ok (.goto (-61), 3) := by decide +kernel
theorem dX7_isSame_81 : decode cX7_isSame 81 = .ok (.iinc 4 1, 3) := by decide +kernel
theorem dX7_isSame_84 : decode cX7_isSame 84 = .ok (.goto (-77), 3) := by decide +kernel
theorem dX7_isSame_87 : decode cX7_isSame 87 = .ok (.iconst 0, 1) := by decide +kernel
theorem dX7_isSame_88 : decode cX7_isSame 88 = .ok (.istore 4, 2) := by decide +kernel
theorem dX7_isSame_90 : decode cX7_isSame 90 = .ok (.iload 4, 2) := by decide +kernel
theorem dX7_isSame_92 : decode cX7_isSame 92 = .ok (.aload_n 0, 1) := by decide +kernel
theorem dX7_isSame_93 : decode cX7_isSame 93 = .ok (.getfield 9, 3) := by decide +kernel
theorem dX7_isSame_96 : decode cX7_isSame 96 = .ok (.arraylength, 1) := by decide +kernel
theorem dX7_isSame_97 : decode cX7_isSame 97 = .ok (.if_icmp .ge 133, 3) := by decide +kernel
theorem dX7_isSame_100 : decode cX7_isSame 100 = .ok (.aload_n 0, 1) := by decide +kernel
theorem dX7_isSame_101 : decode cX7_isSame 101 = .ok (.getfield 9, 3) := by decide +kernel
theorem dX7_isSame_104 : decode cX7_isSame 104 = .ok (.iload 4, 2) := by decide +kernel
theorem dX7_isSame_106 : decode cX7_isSame 106 = .ok (.aaload, 1) := by decide +kernel
theorem dX7_isSame_107 : decode cX7_isSame 107 = .ok (.astore 5, 2) := by decide +kernel
theorem dX7_isSame_109 : decode cX7_isSame 109 = .ok (.iconst 0, 1) := by decide +kernel
theorem dX7_isSame_110 : decode cX7_isSame 110 = .ok (.istore 6, 2) := by decide +kernel
theorem dX7_isSame_112 : decode cX7_isSame 112 = .ok (.iconst 0, 1) := by decide +kernel
theorem dX7_isSame_113 : decode cX7_isSame 113 = .ok (.istore 7, 2) := by decide +kernel
theorem dX7_isSame_115 : decode cX7_isSame 115 = .ok (.iload 7, 2) := by decide +kernel
theorem dX7_isSame_117 : decode cX7_isSame 117 = .ok (.bipush 20, 2) := by decide +kernel
theorem dX7_isSame_119 : decode cX7_isSame 119 = .ok (.if_icmp .ge 56, 3) := by decide +kernel
theorem dX7_isSame_122 : decode cX7_isSame 122 = .ok (.iconst 0, 1) := by decide +kernel
theorem dX7_isSame_123 : decode cX7_isSame 123 = .ok (.istore 8, 2) := by decide +kernel
theorem dX7_isSame_125 : decode cX7_isSame 125 = .ok (.iload 8, 2) := by decide +kernel
theorem dX7_isSame_127 : decode cX7_isSame 127 = .ok (.bipush 20, 2) := by decide +kernel
theorem dX7_isSame_129 : decode cX7_isSame 129 = .ok (.if_icmp .ge 40, 3) := by decide +kernel
theorem dX7_isSame_132 : decode cX7_isSame 132 = .ok (.iload 6, 2) := by decide +kernel
theorem dX7_isSame_134 : decode cX7_isSame 134 = .ok (.aload 5, 2) := by decide +kernel
theorem dX7_isSame_136 : decode cX7_isSame 136 = .ok (.iload 8, 2) := by decide +kernel
theorem dX7_isSame_138 : decode cX7_isSame 138 = .ok (.iload 7, 2) := by decide +kernel
theorem dX7_isSame_140 : decode cX7_isSame 140 = .ok (.invokestatic 34, 3) := by decide +kernel
theorem dX7_isSame_143 : decode cX7_isSame 143 = .ok (.ifCond .eq 16, 3) := by decide +kernel
theorem dX7_isSame_146 : decode cX7_isSame 146 = .ok (.aload_n 0, 1) := by decide +kernel
theorem dX7_isSame_147 : decode cX7_isSame 147 = .ok (.getfield 19, 3) := by decide +kernel
theorem dX7_isSame_150 : decode cX7_isSame 150 = .ok (.iload 7, 2) := by decide +kernel
theorem dX7_isSame_152 : decode cX7_isSame 152 = .ok (.aaload, 1) := by decide +kernel
theorem dX7_isSame_153 : decode cX7_isSame 153 = .ok (.iload 8, 2) := by decide +kernel
theorem dX7_isSame_155 : decode cX7_isSame 155 = .ok (.iaload, 1) := by decide +kernel
theorem dX7_isSame_156 : decode cX7_isSame 156 = .ok (.goto 4, 3) := by decide +kernel
theorem dX7_isSame_159 : decode cX7_isSame 159 = .ok (.iconst 0, 1) := by decide +kernel
theorem dX7_isSame_160 : decode cX7_isSame 160 = .ok (.iadd, 1) := by decide +kernel
theorem dX7_isSame_161 : decode cX7_isSame 161 = .ok (.istore 6, 2) := by decide +kernel
theorem dX7_isSame_163 : decode cX7_isSame 163 = .ok (.iinc 8 1, 3) := by decide +kernel
theorem dX7_isSame_166 : decode cX7_isSame 166 = .ok (.goto (-41), 3) := by decide +kernel
theorem dX7_isSame_169 : decode cX7_isSame 169 = .ok (.iinc 7 1, 3) := by decide +kernel
theorem dX7_isSame_172 : decode cX7_isSame 172 = .ok (.goto (-57), 3) := by decide +kernel
theorem dX7_isSame_175 : decode cX7_isSame 175 = .ok (.iconst 0, 1) := by decide +kernel
theorem dX7_isSame_176 : decode cX7_isSame 176 = .ok (.istore 7, 2) := by decide +kernel
theorem dX7_isSame_178 : decode cX7_isSame 178 = .ok (.iload 7, 2) := by decide +kernel
theorem dX7_isSame_180 : decode cX7_isSame 180 = .ok (.bipush 6, 2) := by decide +kernel
theorem dX7_isSame_182 : decode cX7_isSame 182 = .ok (.if_icmp .ge 27, 3) := by decide +kernel
theorem dX7_isSame_185 : decode cX7_isSame 185 = .ok (.aload_n 1, 1) := by decide +kernel
theorem dX7_isSame_186 : decode cX7_isSame 186 = .ok (.iload 4, 2) := by decide +kernel
theorem dX7_isSame_188 : decode cX7_isSame 188 = .ok (.iload 7, 2) := by decide +kernel
theorem dX7_isSame_190 : decode cX7_isSame 190 = .ok (.invokevirtual 89, 3) := by decide +kernel
theorem dX7_isSame_193 : decode cX7_isSame 193 = .ok (.aload 5, 2) := by decide +kernel
theorem dX7_isSame_195 : decode cX7_isSame 195 = .ok (.iload 7, 2) := by decide +kernel
theorem dX7_isSame_197 : decode cX7_isSame 197 = .ok (.iaload, 1) := by decide +kernel
theorem dX7_isSame_198 : decode cX7_isSame 198 = .ok (.if_icmp .eq 5, 3) := by decide +kernel
theorem dX7_isSame_201 : decode cX7_isSame 201 = .ok (.iconst 0, 1) := by decide +kernel
theorem dX7_isSame_202 : decode cX7_isSame 202 = .ok (.ireturn, 1) := by decide +kernel
theorem dX7_isSame_203 : decode cX7_isSame 203 = .ok (.iinc 7 1, 3) := by decide +kernel
theorem dX7_isSame_206 : decode cX7_isSame 206 = .ok (.goto (-28), 3) := by decide +kernel
theorem dX7_isSame_209 : decode cX7_isSame 209 = .ok (.aload_n 1, 1) := by decide +kernel
theorem dX7_isSame_210 : decode cX7_isSame 210 = .ok (.iload 4, 2) := by decide +kernel
theorem dX7_isSame_212 : decode cX7_isSame 212 = .ok (.bipush 6, 2) := by decide +kernel
theorem dX7_isSame_214 : decode cX7_isSame 214 = .ok (.invokevirtual 89, 3) := by decide +kernel
theorem dX7_isSame_217 : decode cX7_isSame 217 = .ok (.iload 6, 2) := by decide +kernel
theorem dX7_isSame_219 : decode cX7_isSame 219 = .ok (.if_icmp .eq 5, 3) := by decide +kernel
theorem dX7_isSame_222 : decode cX7_isSame 222 = .ok (.iconst 0, 1) := by decide +kernel
theorem dX7_isSame_223 : decode cX7_isSame 223 = .ok (.ireturn, 1) := by decide +kernel
theorem dX7_isSame_224 : decode cX7_isSame 224 = .ok (.iinc 4 1, 3) := by decide +kernel
theorem dX7_isSame_227 : decode cX7_isSame 227 = .ok (.goto (-137), 3) := by decide +kernel
theorem dX7_isSame_230 : decode cX7_isSame 230 = .ok (.iconst 0, 1) := by decide +kernel
theorem dX7_isSame_231 : decode cX7_isSame 231 = .ok (.istore 4, 2) := by decide +kernel
theorem dX7_isSame_233 : decode cX7_isSame 233 = .ok (.iload 4, 2) := by decide +kernel
theorem dX7_isSame_235 : decode cX7_isSame 235 = .ok (.aload_n 0, 1) := by decide +kernel
theorem dX7_isSame_236 : decode cX7_isSame 236 = .ok (.getfield 15, 3) := by decide +kernel
theorem dX7_isSame_239 : decode cX7_isSame 239 = .ok (.arraylength, 1) := by decide +kernel
theorem dX7_isSame_240 : decode cX7_isSame 240 = .ok (.if_icmp .ge 155, 3) := by decide +kernel
theorem dX7_isSame_243 : decode cX7_isSame 243 = .ok (.iconst 0, 1) := by decide +kernel
theorem dX7_isSame_244 : decode cX7_isSame 244 = .ok (.istore 5, 2) := by decide +kernel
theorem dX7_isSame_246 : decode cX7_isSame 246 = .ok (.iconst 0, 1) := by decide +kernel
theorem dX7_isSame_247 : decode cX7_isSame 247 = .ok (.istore 6, 2) := by decide +kernel
theorem dX7_isSame_249 : decode cX7_isSame 249 = .ok (.iconst 0, 1) := by decide +kernel
theorem dX7_isSame_250 : decode cX7_isSame 250 = .ok (.istore 7, 2) := by decide +kernel
theorem dX7_isSame_252 : decode cX7_isSame 252 = .ok (.iload 7, 2) := by decide +kernel
theorem dX7_isSame_254 : decode cX7_isSame 254 = .ok (.bipush 20, 2) := by decide +kernel
theorem dX7_isSame_256 : decode cX7_isSame 256 = .ok (.if_icmp .ge 47, 3) := by decide +kernel
theorem dX7_isSame_259 : decode cX7_isSame 259 = .ok (.iload 5, 2) := by decide +kernel
theorem dX7_isSame_261 : decode cX7_isSame 261 = .ok (.aload_n 0, 1) := by decide +kernel
theorem dX7_isSame_262 : decode cX7_isSame 262 = .ok (.aload_n 0, 1) := by decide +kernel
theorem dX7_isSame_263 : decode cX7_isSame 263 = .ok (.getfield 15, 3) := by decide +kernel
theorem dX7_isSame_266 : decode cX7_isSame 266 = .ok (.iload 4, 2) := by decide +kernel
theorem dX7_isSame_268 : decode cX7_isSame 268 = .ok (.aaload, 1) := by decide +kernel
theorem dX7_isSame_269 : decode cX7_isSame 269 = .ok (.iload 7, 2) := by decide +kernel
theorem dX7_isSame_271 : decode cX7_isSame 271 = .ok (.invokevirtual 65, 3) := by decide +kernel
theorem dX7_isSame_274 : decode cX7_isSame 274 = .ok (.iadd, 1) := by decide +kernel
theorem dX7_isSame_275 : decode cX7_isSame 275 = .ok (.istore 5, 2) := by decide +kernel
theorem dX7_isSame_277 : decode cX7_isSame 277 = .ok (.iload 6, 2) := by decide +kernel
theorem dX7_isSame_279 : decode cX7_isSame 279 = .ok (.aload_n 0, 1) := by decide +kernel
theorem dX7_isSame_280 : decode cX7_isSame 280 = .ok (.aload_n 0, 1) := by decide +kernel
theorem dX7_isSame_281 : decode cX7_isSame 281 = .ok (.getfield 15, 3) := by decide +kernel
theorem dX7_isSame_284 : decode cX7_isSame 284 = .ok (.iload 4, 2) := by decide +kernel
theorem dX7_isSame_286 : decode cX7_isSame 286 = .ok (.aaload, 1) := by decide +kernel
theorem dX7_isSame_287 : decode cX7_isSame 287 = .ok (.iload 7, 2) := by decide +kernel
theorem dX7_isSame_289 : decode cX7_isSame 289 = .ok (.invokevirtual 65, 3) := by decide +kernel
theorem dX7_isSame_292 : decode cX7_isSame 292 = .ok (.invokestatic 38, 3) := by decide +kernel
theorem dX7_isSame_295 : decode cX7_isSame 295 = .ok (.istore 6, 2) := by decide +kernel
theorem dX7_isSame_297 : decode cX7_isSame 297 = .ok (.iinc 7 1, 3) := by decide +kernel
theorem dX7_isSame_300 : decode cX7_isSame 300 = .ok (.goto (-48), 3) := by decide +kernel
theorem dX7_isSame_303 : decode cX7_isSame 303 = .ok (.iconst 5, 1) := by decide +kernel
theorem dX7_isSame_304 : decode cX7_isSame 304 = .ok (.newarray .int, 2) := by decide +kernel
theorem dX7_isSame_306 : decode cX7_isSame 306 = .ok (.dup, 1) := by decide +kernel
theorem dX7_isSame_307 : decode cX7_isSame 307 = .ok (.iconst 0, 1) := by decide +kernel
theorem dX7_isSame_308 : decode cX7_isSame 308 = .ok (.aload_n 0, 1) := by decide +kernel
theorem dX7_isSame_309 : decode cX7_isSame 309 = .ok (.getfield 15, 3) := by decide +kernel
theorem dX7_isSame_312 : decode cX7_isSame 312 = .ok (.iload 4, 2) := by decide +kernel
theorem dX7_isSame_314 : decode cX7_isSame 314 = .ok (.aaload, 1) := by decide +kernel
theorem dX7_isSame_315 : decode cX7_isSame 315 = .ok (.iconst 0, 1) := by decide +kernel
theorem dX7_isSame_316 : decode cX7_isSame 316 = .ok (.iaload, 1) := by decide +kernel
theorem dX7_isSame_317 : decode cX7_isSame 317 = .ok (.iastore, 1) := by decide +kernel
theorem dX7_isSame_318 : decode cX7_isSame 318 = .ok (.dup, 1) := by decide +kernel
end
section
theorem dX7_isSame_319 : decode cX7_isSame 319 = .ok (.iconst 1, 1) := by decide +kernel
theorem dX7_isSame_320 : decode cX7_isSame 320 = .ok (.aload_n 0, 1) := by decide +kernel
theorem dX7_isSame_321 : decode cX7_isSame 321 = .ok (.getfield 15, 3) := by decide +kernel
theorem dX7_isSame_324 : decode cX7_isSame 324 = .ok (.iload 4, 2) := by decide +kernel
theorem dX7_isSame_326 : decode cX7_isSame 326 = .ok (.aaload, 1) := by decide +kernel
theorem dX7_isSame_327 : decode cX7_isSame 327 = .ok (.iconst 1, 1) := by decide +kernel
theorem dX7_isSame_328 : decode cX7_isSame 328 = .ok (.iaload, 1) := by decide +kernel
theorem dX7_isSame_329 : decode cX7_isSame 329 = .ok (.iastore, 1) := by decide +kernel
theorem dX7_isSame_330 : decode cX7_isSame 330 = .ok (.dup, 1) := by decide +kernel
theorem dX7_isSame_331 : decode cX7_isSame 331 = .ok (.iconst 2, 1) := by decide +kernel
theorem dX7_isSame_332 : decode cX7_isSame 332 = .ok (.aload_n 0, 1) := by decide +kernel
theorem dX7_isSame_333 : decode cX7_isSame 333 = .ok (.aload_n 0, 1) := by decide +kernel
theorem dX7_isSame_334 : decode cX7_isSame 334 = .ok (.getfield 15, 3) := by decide +kernel
theorem dX7_isSame_337 : decode cX7_isSame 337 = .ok (.iload 4, 2) := by decide +kernel
theorem dX7_isSame_339 : decode cX7_isSame 339 = .ok (.aaload, 1) := by decide +kernel
theorem dX7_isSame_340 : decode cX7_isSame 340 = .ok (.invokevirtual 69, 3) := by decide +kernel
theorem dX7_isSame_343 : decode cX7_isSame 343 = .ok (.iastore, 1) := by decide +kernel
theorem dX7_isSame_344 : decode cX7_isSame 344 = .ok (.dup, 1) := by decide +kernel
theorem dX7_isSame_345 : decode cX7_isSame 345 = .ok (.iconst 3, 1) := by decide +kernel
theorem dX7_isSame_346 : decode cX7_isSame 346 = .ok (.iload 5, 2) := by decide +kernel
theorem dX7_isSame_348 : decode cX7_isSame 348 = .ok (.iastore, 1) := by decide +kernel
theorem dX7_isSame_349 : decode cX7_isSame 349 = .ok (.dup, 1) := by decide +kernel
theorem dX7_isSame_350 : decode cX7_isSame 350 = .ok (.iconst 4, 1) := by decide +kernel
theorem dX7_isSame_351 : decode cX7_isSame 351 = .ok (.iload 6, 2) := by decide +kernel
theorem dX7_isSame_353 : decode cX7_isSame 353 = .ok (.iastore, 1) := by decide +kernel
theorem dX7_isSame_354 : decode cX7_isSame 354 = .ok (.astore 7, 2) := by decide +kernel
theorem dX7_isSame_356 : decode cX7_isSame 356 = .ok (.iconst 0, 1) := by decide +kernel
theorem dX7_isSame_357 : decode cX7_isSame 357 = .ok (.istore 8, 2) := by decide +kernel
theorem dX7_isSame_359 : decode cX7_isSame 359 = .ok (.iload 8, 2) := by decide +kernel
theorem dX7_isSame_361 : decode cX7_isSame 361 = .ok (.iconst 5, 1) := by decide +kernel
theorem dX7_isSame_362 : decode cX7_isSame 362 = .ok (.if_icmp .ge 27, 3) := by decide +kernel
theorem dX7_isSame_365 : decode cX7_isSame 365 = .ok (.aload_n 1, 1) := by decide +kernel
theorem dX7_isSame_366 : decode cX7_isSame 366 = .ok (.iload 4, 2) := by decide +kernel
theorem dX7_isSame_368 : decode cX7_isSame 368 = .ok (.iload 8, 2) := by decide +kernel
theorem dX7_isSame_370 : decode cX7_isSame 370 = .ok (.invokevirtual 92, 3) := by decide +kernel
theorem dX7_isSame_373 : decode cX7_isSame 373 = .ok (.aload 7, 2) := by decide +kernel
theorem dX7_isSame_375 : decode cX7_isSame 375 = .ok (.iload 8, 2) := by decide +kernel
theorem dX7_isSame_377 : decode cX7_isSame 377 = .ok (.iaload, 1) := by decide +kernel
theorem dX7_isSame_378 : decode cX7_isSame 378 = .ok (.if_icmp .eq 5, 3) := by decide +kernel
theorem dX7_isSame_381 : decode cX7_isSame 381 = .ok (.iconst 0, 1) := by decide +kernel
theorem dX7_isSame_382 : decode cX7_isSame 382 = .ok (.ireturn, 1) := by decide +kernel
theorem dX7_isSame_383 : decode cX7_isSame 383 = .ok (.iinc 8 1, 3) := by decide +kernel
theorem dX7_isSame_386 : decode cX7_isSame 386 = .ok (.goto (-27), 3) := by decide +kernel
theorem dX7_isSame_389 : decode cX7_isSame 389 = .ok (.iinc 4 1, 3) := by decide +kernel
theorem dX7_isSame_392 : decode cX7_isSame 392 = .ok (.goto (-159), 3) := by decide +kernel
theorem dX7_isSame_395 : decode cX7_isSame 395 = .ok (.bipush 10, 2) := by decide +kernel
theorem dX7_isSame_397 : decode cX7_isSame 397 = .ok (.newarray .int, 2) := by decide +kernel
theorem dX7_isSame_399 : decode cX7_isSame 399 = .ok (.dup, 1) := by decide +kernel
theorem dX7_isSame_400 : decode cX7_isSame 400 = .ok (.iconst 0, 1) := by decide +kernel
theorem dX7_isSame_401 : decode cX7_isSame 401 = .ok (.aload_n 0, 1) := by decide +kernel
theorem dX7_isSame_402 : decode cX7_isSame 402 = .ok (.getfield 9, 3) := by decide +kernel
theorem dX7_isSame_405 : decode cX7_isSame 405 = .ok (.arraylength, 1) := by decide +kernel
theorem dX7_isSame_406 : decode cX7_isSame 406 = .ok (.iastore, 1) := by decide +kernel
theorem dX7_isSame_407 : decode cX7_isSame 407 = .ok (.dup, 1) := by decide +kernel
theorem dX7_isSame_408 : decode cX7_isSame 408 = .ok (.iconst 1, 1) := by decide +kernel
theorem dX7_isSame_409 : decode cX7_isSame 409 = .ok (.aload_n 0, 1) := by decide +kernel
theorem dX7_isSame_410 : decode cX7_isSame 410 = .ok (.getfield 15, 3) := by decide +kernel
theorem dX7_isSame_413 : decode cX7_isSame 413 = .ok (.arraylength, 1) := by decide +kernel
theorem dX7_isSame_414 : decode cX7_isSame 414 = .ok (.iastore, 1) := by decide +kernel
theorem dX7_isSame_415 : decode cX7_isSame 415 = .ok (.dup, 1) := by decide +kernel
theorem dX7_isSame_416 : decode cX7_isSame 416 = .ok (.iconst 2, 1) := by decide +kernel
theorem dX7_isSame_417 : decode cX7_isSame 417 = .ok (.iload_n 2, 1) := by decide +kernel
theorem dX7_isSame_418 : decode cX7_isSame 418 = .ok (.iastore, 1) := by decide +kernel
theorem dX7_isSame_419 : decode cX7_isSame 419 = .ok (.dup, 1) := by decide +kernel
theorem dX7_isSame_420 : decode cX7_isSame 420 = .ok (.iconst 3, 1) := by decide +kernel
theorem dX7_isSame_421 : decode cX7_isSame 421 = .ok (.iload_n 3, 1) := by decide +kernel
theorem dX7_isSame_422 : decode cX7_isSame 422 = .ok (.iastore, 1) := by decide +kernel
theorem dX7_isSame_423 : decode cX7_isSame 423 = .ok (.dup, 1) := by decide +kernel
theorem dX7_isSame_424 : decode cX7_isSame 424 = .ok (.iconst 4, 1) := by decide +kernel
theorem dX7_isSame_425 : decode cX7_isSame 425 = .ok (.aload_n 0, 1) := by decide +kernel
theorem dX7_isSame_426 : decode cX7_isSame 426 = .ok (.invokevirtual 81, 3) := by decide +kernel
theorem dX7_isSame_429 : decode cX7_isSame 429 = .ok (.iastore, 1) := by decide +kernel
theorem dX7_isSame_430 : decode cX7_isSame 430 = .ok (.dup, 1) := by decide +kernel
theorem dX7_isSame_431 : decode cX7_isSame 431 = .ok (.iconst 5, 1) := by decide +kernel
theorem dX7_isSame_432 : decode cX7_isSame 432 = .ok (.aload_n 0, 1) := by decide +kernel
theorem dX7_isSame_433 : decode cX7_isSame 433 = .ok (.getfield 59, 3) := by decide +kernel
theorem dX7_isSame_436 : decode cX7_isSame 436 = .ok (.iastore, 1) := by decide +kernel
theorem dX7_isSame_437 : decode cX7_isSame 437 = .ok (.dup, 1) := by decide +kernel
theorem dX7_isSame_438 : decode cX7_isSame 438 = .ok (.bipush 6, 2) := by decide +kernel
theorem dX7_isSame_440 : decode cX7_isSame 440 = .ok (.aload_n 0, 1) := by decide +kernel
theorem dX7_isSame_441 : decode cX7_isSame 441 = .ok (.getfield 95, 3) := by decide +kernel
theorem dX7_isSame_444 : decode cX7_isSame 444 = .ok (.iastore, 1) := by decide +kernel
theorem dX7_isSame_445 : decode cX7_isSame 445 = .ok (.dup, 1) := by decide +kernel
theorem dX7_isSame_446 : decode cX7_isSame 446 = .ok (.bipush 7, 2) := by decide +kernel
theorem dX7_isSame_448 : decode cX7_isSame 448 = .ok (.aload_n 0, 1) := by decide +kernel
theorem dX7_isSame_449 : decode cX7_isSame 449 = .ok (.getfield 62, 3) := by decide +kernel
theorem dX7_isSame_452 : decode cX7_isSame 452 = .ok (.iastore, 1) := by decide +kernel
theorem dX7_isSame_453 : decode cX7_isSame 453 = .ok (.dup, 1) := by decide +kernel
theorem dX7_isSame_454 : decode cX7_isSame 454 = .ok (.bipush 8, 2) := by decide +kernel
theorem dX7_isSame_456 : decode cX7_isSame 456 = .ok (.aload_n 0, 1) := by decide +kernel
theorem dX7_isSame_457 : decode cX7_isSame 457 = .ok (.getfield 22, 3) := by decide +kernel
theorem dX7_isSame_460 : decode cX7_isSame 460 = .ok (.iastore, 1) := by decide +kernel
theorem dX7_isSame_461 : decode cX7_isSame 461 = .ok (.dup, 1) := by decide +kernel
theorem dX7_isSame_462 : decode cX7_isSame 462 = .ok (.bipush 9, 2) := by decide +kernel
theorem dX7_isSame_464 : decode cX7_isSame 464 = .ok (.aload_n 0, 1) := by decide +kernel
theorem dX7_isSame_465 : decode cX7_isSame 465 = .ok (.getfield 31, 3) := by decide +kernel
theorem dX7_isSame_468 : decode cX7_isSame 468 = .ok (.iastore, 1) := by decide +kernel
theorem dX7_isSame_469 : decode cX7_isSame 469 = .ok (.astore 4, 2) := by decide +kernel
theorem dX7_isSame_471 : decode cX7_isSame 471 = .ok (.iconst 0, 1) := by decide +kernel
theorem dX7_isSame_472 : decode cX7_isSame 472 = .ok (.istore 5, 2) := by decide +kernel
theorem dX7_isSame_474 : decode cX7_isSame 474 = .ok (.iload 5, 2) := by decide +kernel
theorem dX7_isSame_476 : decode cX7_isSame 476 = .ok (.bipush 10, 2) := by decide +kernel
theorem dX7_isSame_478 : decode cX7_isSame 478 = .ok (.if_icmp .ge 25, 3) := by decide +kernel
theorem dX7_isSame_481 : decode cX7_isSame 481 = .ok (.aload_n 1, 1) := by decide +kernel
theorem dX7_isSame_482 : decode cX7_isSame 482 = .ok (.iload 5, 2) := by decide +kernel
theorem dX7_isSame_484 : decode cX7_isSame 484 = .ok (.invokevirtual 98, 3) := by decide +kernel
theorem dX7_isSame_487 : decode cX7_isSame 487 = .ok (.aload 4, 2) := by decide +kernel
theorem dX7_isSame_489 : decode cX7_isSame 489 = .ok (.iload 5, 2) := by decide +kernel
theorem dX7_isSame_491 : decode cX7_isSame 491 = .ok (.iaload, 1) := by decide +kernel
theorem dX7_isSame_492 : decode cX7_isSame 492 = .ok (.if_icmp .eq 5, 3) := by decide +kernel
theorem dX7_isSame_495 : decode cX7_isSame 495 = .ok (.iconst 0, 1) := by decide +kernel
theorem dX7_isSame_496 : decode cX7_isSame 496 = .ok (.ireturn, 1) := by decide +kernel
theorem dX7_isSame_497 : decode cX7_isSame 497 = .ok (.iinc 5 1, 3) := by decide +kernel
theorem dX7_isSame_500 : decode cX7_isSame 500 = .ok (.goto (-26), 3) := by decide +kernel
theorem dX7_isSame_503 : decode cX7_isSame 503 = .ok (.aload_n 1, 1) := by decide +kernel
theorem dX7_isSame_504 : decode cX7_isSame 504 = .ok (.invokevirtual 102, 3) := by decide +kernel
theorem dX7_isSame_507 : decode cX7_isSame 507 = .ok (.iload_n 2, 1) := by decide +kernel
theorem dX7_isSame_508 : decode cX7_isSame 508 = .ok (.i2d, 1) := by decide +kernel
theorem dX7_isSame_509 : decode cX7_isSame 509 = .ok (.ldc2_w 106, 3) := by decide +kernel
theorem dX7_isSame_512 : decode cX7_isSame 512 = .ok (.ddiv, 1) := by decide +kernel
theorem dX7_isSame_513 : decode cX7_isSame 513 = .ok (.dcmp .l, 1) := by decide +kernel
theorem dX7_isSame_514 : decode cX7_isSame 514 = .ok (.ifCond .ne 7, 3) := by decide +kernel
theorem dX7_isSame_517 : decode cX7_isSame 517 = .ok (.iconst 1, 1) := by decide +kernel
theorem dX7_isSame_518 : decode cX7_isSame 518 = .ok (.goto 4, 3) := by decide +kernel
theorem dX7_isSame_521 : decode cX7_isSame 521 = .ok (.iconst 0, 1) := by decide +kernel
theorem dX7_isSame_522 : decode cX7_isSame 522 = .ok (.ireturn, 1) := by decide +kernel
theorem dJ9_max_7cf53_0 : decode cJ9_max_7cf53 0 = .ok (.iload_n 0, 1) := by decide +kernel
theorem dJ9_max_7cf53_1 : decode cJ9_max_7cf53 1 = .ok (.iload_n 1, 1) := by decide +kernel
theorem dJ9_max_7cf53_2 : decode cJ9_max_7cf53 2 = .ok (.if_icmp .lt 7, 3) := by decide +kernel
theorem dJ9_max_7cf53_5 : decode cJ9_max_7cf53 5 = .ok (.iload_n 0, 1) := by decide +kernel
theorem dJ9_max_7cf53_6 : decode cJ9_max_7cf53 6 = .ok (.goto 4, 3) := by decide +kernel
theorem dJ9_max_7cf53_9 : decode cJ9_max_7cf53 9 = .ok (.iload_n 1, 1) := by decide +kernel
theorem dJ9_max_7cf53_10 : decode cJ9_max_7cf53 10 = .ok (.ireturn, 1) := by decide +kernel
theorem dJ9_min_7cf53_0 : decode cJ9_min_7cf53 0 = .ok (.iload_n 0, 1) := by decide +kernel
theorem dJ9_min_7cf53_1 : decode cJ9_min_7cf53 1 = .ok (.iload_n 1, 1) := by decide +kernel
theorem dJ9_min_7cf53_2 : decode cJ9_min_7cf53 2 = .ok (.if_icmp .gt 7, 3) := by decide +kernel
theorem dJ9_min_7cf53_5 : decode cJ9_min_7cf53 5 = .ok (.iload_n 0, 1) := by decide +kernel
theorem dJ9_min_7cf53_6 : decode cJ9_min_7cf53 6 = .ok (.goto 4, 3) := by decide +kernel
theorem dJ9_min_7cf53_9 : decode cJ9_min_7cf53 9 = .ok (.iload_n 1, 1) := by decide +kernel
theorem dJ9_min_7cf53_10 : decode cJ9_min_7cf53 10 = .ok (.ireturn, 1) := by decide +kernel
theorem dJxa1e45_init_da8c8_0 : decode cJxa1e45_init_da8c8 0 = .ok (.aload_n 0, 1) := by decide +kernel
theorem dJxa1e45_init_da8c8_1 : decode cJxa1e45_init_da8c8 1 = .ok (.invokespecial 1, 3) := by decide +kernel
theorem dJxa1e45_init_da8c8_4 : decode cJxa1e45_init_da8c8 4 = .ok (.return_, 1) := by decide +kernel
theorem dJxc12de_init_da8c8_0 : decode cJxc12de_init_da8c8 0 = .ok (.aload_n 0, 1) := by decide +kernel
theorem dJxc12de_init_da8c8_1 : decode cJxc12de_init_da8c8 1 = .ok (.invokespecial 1, 3) := by decide +kernel
theorem dJxc12de_init_da8c8_4 : decode cJxc12de_init_da8c8 4 = .ok (.aload_n 0, 1) := by decide +kernel
theorem dJxc12de_init_da8c8_5 : decode cJxc12de_init_da8c8 5 = .ok (.iconst 0, 1) := by decide +kernel
theorem dJxc12de_init_da8c8_6 : decode cJxc12de_init_da8c8 6 = .ok (.putfield 7, 3) := by decide +kernel
theorem dJxc12de_init_da8c8_9 : decode cJxc12de_init_da8c8 9 = .ok (.return_, 1) := by decide +kernel
theorem dJx4a65c_init_da8c8_0 : decode cJx4a65c_init_da8c8 0 = .ok (.aload_n 0, 1) := by decide +kernel
theorem dJx4a65c_init_da8c8_1 : decode cJx4a65c_init_da8c8 1 = .ok (.invokespecial 1, 3) := by decide +kernel
theorem dJx4a65c_init_da8c8_4 : decode cJx4a65c_init_da8c8 4 = .ok (.aload_n 0, 1) := by decide +kernel
theorem dJx4a65c_init_da8c8_5 : decode cJx4a65c_init_da8c8 5 = .ok (.getstatic 39, 3) := by decide +kernel
theorem dJx4a65c_init_da8c8_8 : decode cJx4a65c_init_da8c8 8 = .ok (.putfield 9, 3) := by decide +kernel
theorem dJx4a65c_init_da8c8_11 : decode cJx4a65c_init_da8c8 11 = .ok (.return_, 1) := by decide +kernel
theorem dJx4a65c_grow_92f84_0 : decode cJx4a65c_grow_92f84 0 = .ok (.aload_n 0, 1) := by decide +kernel
theorem dJx4a65c_grow_92f84_1 : decode cJx4a65c_grow_92f84 1 = .ok (.getfield 9, 3) := by decide +kernel
theorem dJx4a65c_grow_92f84_4 : decode cJx4a65c_grow_92f84 4 = .ok (.arraylength, 1) := by decide +kernel
theorem dJx4a65c_grow_92f84_5 : decode cJx4a65c_grow_92f84 5 = .ok (.istore_n 2, 1) := by decide +kernel
theorem dJx4a65c_grow_92f84_6 : decode cJx4a65c_grow_92f84 6 = .ok (.iload_n 2, 1) := by decide +kernel
theorem dJx4a65c_grow_92f84_7 : decode cJx4a65c_grow_92f84 7 = .ok (.ifCond .gt 13, 3) := by decide +kernel
theorem dJx4a65c_grow_92f84_10 : decode cJx4a65c_grow_92f84 10 = .ok (.aload_n 0, 1) := by decide +kernel
theorem dJx4a65c_grow_92f84_11 : decode cJx4a65c_grow_92f84 11 = .ok (.getfield 9, 3) := by decide +kernel
theorem dJx4a65c_grow_92f84_14 : decode cJx4a65c_grow_92f84 14 = .ok (.getstatic 39, 3) := by decide +kernel
theorem dJx4a65c_grow_92f84_17 : decode cJx4a65c_grow_92f84 17 = .ok (.if_acmp .eq 28, 3) := by decide +kernel
theorem dJx4a65c_grow_92f84_20 : decode cJx4a65c_grow_92f84 20 = .ok (.iload_n 2, 1) := by decide +kernel
theorem dJx4a65c_grow_92f84_21 : decode cJx4a65c_grow_92f84 21 = .ok (.iload_n 1, 1) := by decide +kernel
theorem dJx4a65c_grow_92f84_22 : decode cJx4a65c_grow_92f84 22 = .ok (.iload_n 2, 1) := by decide +kernel
theorem dJx4a65c_grow_92f84_23 : decode cJx4a65c_grow_92f84 23 = .ok (.isub, 1) := by decide +kernel
theorem dJx4a65c_grow_92f84_24 : decode cJx4a65c_grow_92f84 24 = .ok (.iload_n 2, 1) := by decide +kernel
theorem dJx4a65c_grow_92f84_25 : decode cJx4a65c_grow_92f84 25 = .ok (.iconst 1, 1) := by decide +kernel
theorem dJx4a65c_grow_92f84_26 : decode cJx4a65c_grow_92f84 26 = .ok (.ishr, 1) := by decide +kernel
theorem dJx4a65c_grow_92f84_27 : decode cJx4a65c_grow_92f84 27 = .ok (.invokestatic 73, 3) := by decide +kernel
theorem dJx4a65c_grow_92f84_30 : decode cJx4a65c_grow_92f84 30 = .ok (.istore_n 3, 1) := by decide +kernel
theorem dJx4a65c_grow_92f84_31 : decode cJx4a65c_grow_92f84 31 = .ok (.aload_n 0, 1) := by decide +kernel
theorem dJx4a65c_grow_92f84_32 : decode cJx4a65c_grow_92f84 32 = .ok (.aload_n 0, 1) := by decide +kernel
theorem dJx4a65c_grow_92f84_33 : decode cJx4a65c_grow_92f84 33 = .ok (.getfield 9, 3) := by decide +kernel
theorem dJx4a65c_grow_92f84_36 : decode cJx4a65c_grow_92f84 36 = .ok (.iload_n 3, 1) := by decide +kernel
theorem dJx4a65c_grow_92f84_37 : decode cJx4a65c_grow_92f84 37 = .ok (.invokestatic 66, 3) := by decide +kernel
theorem dJx4a65c_grow_92f84_40 : decode cJx4a65c_grow_92f84 40 = .ok (.dup_x1, 1) := by decide +kernel
theorem dJx4a65c_grow_92f84_41 : decode cJx4a65c_grow_92f84 41 = .ok (.putfield 9, 3) := by decide +kernel
theorem dJx4a65c_grow_92f84_44 : decode cJx4a65c_grow_92f84 44 = .ok (.areturn, 1) := by decide +kernel
theorem dJx4a65c_grow_92f84_45 : decode cJx4a65c_grow_92f84 45 = .ok (.aload_n 0, 1) := by decide +kernel
theorem dJx4a65c_grow_92f84_46 : decode cJx4a65c_grow_92f84 46 = .ok (.bipush 10, 2) := by decide +kernel
theorem dJx4a65c_grow_92f84_48 : decode cJx4a65c_grow_92f84 48 = .ok (.iload_n 1, 1) := by decide +kernel
theorem dJx4a65c_grow_92f84_49 : decode cJx4a65c_grow_92f84 49 = .ok (.invokestatic 79, 3) := by decide +kernel
theorem dJx4a65c_grow_92f84_52 : decode cJx4a65c_grow_92f84 52 = .ok (.anewarray 7, 3) := by decide +kernel
theorem dJx4a65c_grow_92f84_55 : decode cJx4a65c_grow_92f84 55 = .ok (.dup_x1, 1) := by decide +kernel
theorem dJx4a65c_grow_92f84_56 : decode cJx4a65c_grow_92f84 56 = .ok (.putfield 9, 3) := by decide +kernel
theorem dJx4a65c_grow_92f84_59 : decode cJx4a65c_grow_92f84 59 = .ok (.areturn, 1) := by decide +kernel
theorem dJx4a65c_grow_d5877_0 : decode cJx4a65c_grow_d5877 0 = .ok (.aload_n 0, 1) := by decide +kernel
theorem dJx4a65c_grow_d5877_1 : decode cJx4a65c_grow_d5877 1 = .ok (.aload_n 0, 1) := by decide +kernel
theorem dJx4a65c_grow_d5877_2 : decode cJx4a65c_grow_d5877 2 = .ok (.getfield 48, 3) := by decide +kernel
theorem dJx4a65c_grow_d5877_5 : decode cJx4a65c_grow_d5877 5 = .ok (.iconst 1, 1) := by decide +kernel
theorem dJx4a65c_grow_d5877_6 : decode cJx4a65c_grow_d5877 6 = .ok (.iadd, 1) := by decide +kernel
theorem dJx4a65c_grow_d5877_7 : decode cJx4a65c_grow_d5877 7 = .ok (.invokevirtual 69, 3) := by decide +kernel
theorem dJx4a65c_grow_d5877_10 : decode cJx4a65c_grow_d5877 10 = .ok (.areturn, 1) := by decide +kernel
theorem dJx4a65c_size_8abf5_0 : decode cJx4a65c_size_8abf5 0 = .ok (.aload_n 0, 1) := by decide +kernel
theorem dJx4a65c_size_8abf5_1 : decode cJx4a65c_size_8abf5 1 = .ok (.getfield 48, 3) := by decide +kernel
theorem dJx4a65c_size_8abf5_4 : decode cJx4a65c_size_8abf5 4 = .ok (.ireturn, 1) := by decide +kernel
theorem dJx4a65c_elementData_915e3_0 : decode cJx4a65c_elementData_915e3 0 = .ok (.aload_n 0, 1) := by decide +kernel
theorem dJx4a65c_elementData_915e3_1 : decode cJx4a65c_elementData_915e3 1 = .ok (.getfield 9, 3) := by decide +kernel
theorem dJx4a65c_elementData_915e3_4 : decode cJx4a65c_elementData_915e3 4 = .ok (.iload_n 1, 1) := by decide +kernel
theorem dJx4a65c_elementData_915e3_5 : decode cJx4a65c_elementData_915e3 5 = .ok (.aaload, 1) := by decide +kernel
theorem dJx4a65c_elementData_915e3_6 : decode cJx4a65c_elementData_915e3 6 = .ok (.areturn, 1) := by decide +kernel
theorem dJx4a65c_get_915e3_0 : decode cJx4a65c_get_915e3 0 = .ok (.iload_n 1, 1) := by decide +kernel
theorem dJx4a65c_get_915e3_1 : decode cJx4a65c_get_915e3 1 = .ok (.aload_n 0, 1) := by decide +kernel
theorem dJx4a65c_get_915e3_2 : decode cJx4a65c_get_915e3 2 = .ok (.getfield 48, 3) := by decide +kernel
theorem dJx4a65c_get_915e3_5 : decode cJx4a65c_get_915e3 5 = .ok (.invokestatic 118, 3) := by decide +kernel
theorem dJx4a65c_get_915e3_8 : decode cJx4a65c_get_915e3 8 = .ok (.pop, 1) := by decide +kernel
theorem dJx4a65c_get_915e3_9 : decode cJx4a65c_get_915e3 9 = .ok (.aload_n 0, 1) := by decide +kernel
theorem dJx4a65c_get_915e3_10 : decode cJx4a65c_get_915e3 10 = .ok (.iload_n 1, 1) := by decide +kernel
theorem dJx4a65c_get_915e3_11 : decode cJx4a65c_get_915e3 11 = .ok (.invokevirtual 123, 3) := by decide +kernel
theorem dJx4a65c_get_915e3_14 : decode cJx4a65c_get_915e3 14 = .ok (.areturn, 1) := by decide +kernel
theorem dJx4a65c_add_72be8_0 : decode cJx4a65c_add_72be8 0 = .ok (.iload_n 3, 1) := by decide +kernel
theorem dJx4a65c_add_72be8_1 : decode cJx4a65c_add_72be8 1 = .ok (.aload_n 2, 1) := by decide +kernel
theorem dJx4a65c_add_72be8_2 : decode cJx4a65c_add_72be8 2 = .ok (.arraylength, 1) := by decide +kernel
theorem dJx4a65c_add_72be8_3 : decode cJx4a65c_add_72be8 3 = .ok (.if_icmp .ne 8, 3) := by decide +kernel
theorem dJx4a65c_add_72be8_6 : decode cJx4a65c_add_72be8 6 = .ok (.aload_n 0, 1) := by decide +kernel
theorem dJx4a65c_add_72be8_7 : decode cJx4a65c_add_72be8 7 = .ok (.invokevirtual 129, 3) := by decide +kernel
theorem dJx4a65c_add_72be8_10 : decode cJx4a65c_add_72be8 10 = .ok (.astore_n 2, 1) := by decide +kernel
theorem dJx4a65c_add_72be8_11 : decode cJx4a65c_add_72be8 11 = .ok (.aload_n 2, 1) := by decide +kernel
theorem dJx4a65c_add_72be8_12 : decode cJx4a65c_add_72be8 12 = .ok (.iload_n 3, 1) := by decide +kernel
theorem dJx4a65c_add_72be8_13 : decode cJx4a65c_add_72be8 13 = .ok (.aload_n 1, 1) := by decide +kernel
theorem dJx4a65c_add_72be8_14 : decode cJx4a65c_add_72be8 14 = .ok (.aastore, 1) := by decide +kernel
theorem dJx4a65c_add_72be8_15 : decode cJx4a65c_add_72be8 15 = .ok (.aload_n 0, 1) := by decide +kernel
theorem dJx4a65c_add_72be8_16 : decode cJx4a65c_add_72be8 16 = .ok (.iload_n 3, 1) := by decide +kernel
theorem dJx4a65c_add_72be8_17 : decode cJx4a65c_add_72be8 17 = .ok (.iconst 1, 1) := by decide +kernel
theorem dJx4a65c_add_72be8_18 : decode cJx4a65c_add_72be8 18 = .ok (.iadd, 1) := by decide +kernel
theorem dJx4a65c_add_72be8_19 : decode cJx4a65c_add_72be8 19 = .ok (.putfield 48, 3) := by decide +kernel
theorem dJx4a65c_add_72be8_22 : decode cJx4a65c_add_72be8 22 = .ok (.return_, 1) := by decide +kernel
theorem dJx4a65c_add_9ea2d_0 : decode cJx4a65c_add_9ea2d 0 = .ok (.aload_n 0, 1) := by decide +kernel
theorem dJx4a65c_add_9ea2d_1 : decode cJx4a65c_add_9ea2d 1 = .ok (.dup, 1) := by decide +kernel
theorem dJx4a65c_add_9ea2d_2 : decode cJx4a65c_add_9ea2d 2 = .ok (.getfield 63, 3) := by decide +kernel
theorem dJx4a65c_add_9ea2d_5 : decode cJx4a65c_add_9ea2d 5 = .ok (.iconst 1, 1) := by decide +kernel
theorem dJx4a65c_add_9ea2d_6 : decode cJx4a65c_add_9ea2d 6 = .ok (.iadd, 1) := by decide +kernel
theorem dJx4a65c_add_9ea2d_7 : decode cJx4a65c_add_9ea2d 7 = .ok (.putfield 63, 3) := by decide +kernel
theorem dJx4a65c_add_9ea2d_10 : decode cJx4a65c_add_9ea2d 10 = .ok (.aload_n 0, 1) := by decide +kernel
theorem dJx4a65c_add_9ea2d_11 : decode cJx4a65c_add_9ea2d 11 = .ok (.aload_n 1, 1) := by decide +kernel
theorem dJx4a65c_add_9ea2d_12 : decode cJx4a65c_add_9ea2d 12 = .ok (.aload_n 0, 1) := by decide +kernel
theorem dJx4a65c_add_9ea2d_13 : decode cJx4a65c_add_9ea2d 13 = .ok (.getfield 9, 3) := by decide +kernel
theorem dJx4a65c_add_9ea2d_16 : decode cJx4a65c_add_9ea2d 16 = .ok (.aload_n 0, 1) := by decide +kernel
theorem dJx4a65c_add_9ea2d_17 : decode cJx4a65c_add_9ea2d 17 = .ok (.getfield 48, 3) := by decide +kernel
theorem dJx4a65c_add_9ea2d_20 : decode cJx4a65c_add_9ea2d 20 = .ok (.invokevirtual 131, 3) := by decide +kernel
theorem dJx4a65c_add_9ea2d_23 : decode cJx4a65c_add_9ea2d 23 = .ok (.iconst 1, 1) := by decide +kernel
theorem dJx4a65c_add_9ea2d_24 : decode cJx4a65c_add_9ea2d 24 = .ok (.ireturn, 1) := by decide +kernel
theorem dJx4a65c_remove_915e3_0 : decode cJx4a65c_remove_915e3 0 = .ok (.iload_n 1, 1) := by decide +kernel
theorem dJx4a65c_remove_915e3_1 : decode cJx4a65c_remove_915e3 1 = .ok (.aload_n 0, 1) := by decide +kernel
theorem dJx4a65c_remove_915e3_2 : decode cJx4a65c_remove_915e3 2 = .ok (.getfield 48, 3) := by decide +kernel
theorem dJx4a65c_remove_915e3_5 : decode cJx4a65c_remove_915e3 5 = .ok (.invokestatic 118, 3) := by decide +kernel
theorem dJx4a65c_remove_915e3_8 : decode cJx4a65c_remove_915e3 8 = .ok (.pop, 1) := by decide +kernel
theorem dJx4a65c_remove_915e3_9 : decode cJx4a65c_remove_915e3 9 = .ok (.aload_n 0, 1) := by decide +kernel
theorem dJx4a65c_remove_915e3_10 : decode cJx4a65c_remove_915e3 10 = .ok (.getfield 9, 3) := by decide +kernel
theorem dJx4a65c_remove_915e3_13 : decode cJx4a65c_remove_915e3 13 = .ok (.astore_n 2, 1) := by decide +kernel
theorem dJx4a65c_remove_915e3_14 : decode cJx4a65c_remove_915e3 14 = .ok (.aload_n 2, 1) := by decide +kernel
theorem dJx4a65c_remove_915e3_15 : decode cJx4a65c_remove_915e3 15 = .ok (.iload_n 1, 1) := by decide +kernel
theorem dJx4a65c_remove_915e3_16 : decode cJx4a65c_remove_915e3 16 = .ok (.aaload, 1) := by decide +kernel
theorem dJx4a65c_remove_915e3_17 : decode cJx4a65c_remove_915e3 17 = .ok (.astore_n 3, 1) := by decide +kernel
theorem dJx4a65c_remove_915e3_18 : decode cJx4a65c_remove_915e3 18 = .ok (.aload_n 0, 1) := by decide +kernel
theorem dJx4a65c_remove_915e3_19 : decode cJx4a65c_remove_915e3 19 = .ok (.aload_n 2, 1) := by decide +kernel
theorem dJx4a65c_remove_915e3_20 : decode cJx4a65c_remove_915e3 20 = .ok (.iload_n 1, 1) := by decide +kernel
theorem dJx4a65c_remove_915e3_21 : decode cJx4a65c_remove_915e3 21 = .ok (.invokevirtual 144, 3) := by decide +kernel
theorem dJx4a65c_remove_915e3_24 : decode cJx4a65c_remove_915e3 24 = .ok (.aload_n 3, 1) := by decide +kernel
theorem dJx4a65c_remove_915e3_25 : decode cJx4a65c_remove_915e3 25 = .ok (.areturn, 1) := by decide +kernel
theorem dJx4a65c_fastRemove_b59b0_0 : decode cJx4a65c_fastRemove_b59b0 0 = .ok (.aload_n 0, 1) := by decide +kernel
theorem dJx4a65c_fastRemove_b59b0_1 : decode cJx4a65c_fastRemove_b59b0 1 = .ok (.dup, 1) := by decide +kernel
theorem dJx4a65c_fastRemove_b59b0_2 : decode cJx4a65c_fastRemove_b59b0 2 = .ok (.getfield 63, 3) := by decide +kernel
theorem dJx4a65c_fastRemove_b59b0_5 : decode cJx4a65c_fastRemove_b59b0 5 = .ok (.iconst 1, 1) := by decide +kernel
theorem dJx4a65c_fastRemove_b59b0_6 : decode cJx4a65c_fastRemove_b59b0 6 = .ok (.iadd, 1) := by decide +kernel
theorem dJx4a65c_fastRemove_b59b0_7 : decode cJx4a65c_fastRemove_b59b0 7 = .ok (.putfield 63, 3) := by decide +kernel
theorem dJx4a65c_fastRemove_b59b0_10 : decode cJx4a65c_fastRemove_b59b0 10 = .ok (.aload_n 0, 1) := by decide +kernel
theorem dJx4a65c_fastRemove_b59b0_11 : decode cJx4a65c_fastRemove_b59b0 11 = .ok (.getfield 48, 3) := by decide +kernel
theorem dJx4a65c_fastRemove_b59b0_14 : decode cJx4a65c_fastRemove_b59b0 14 = .ok (.iconst 1, 1) := by decide +kernel
theorem dJx4a65c_fastRemove_b59b0_15 : decode cJx4a65c_fastRemove_b59b0 15 = .ok (.isub, 1) := by decide +kernel
theorem dJx4a65c_fastRemove_b59b0_16 : decode cJx4a65c_fastRemove_b59b0 16 = .ok (.dup, 1) := by decide +kernel
theorem dJx4a65c_fastRemove_b59b0_17 : decode cJx4a65c_fastRemove_b59b0 17 = .ok (.istore_n 3, 1) := by decide +kernel
theorem dJx4a65c_fastRemove_b59b0_18 : decode cJx4a65c_fastRemove_b59b0 18 = .ok (.iload_n 2, 1) := by decide +kernel
theorem dJx4a65c_fastRemove_b59b0_19 : decode cJx4a65c_fastRemove_b59b0 19 = .ok (.if_icmp .le 15, 3) := by decide +kernel
theorem dJx4a65c_fastRemove_b59b0_22 : decode cJx4a65c_fastRemove_b59b0 22 = .ok (.aload_n 1, 1) := by decide +kernel
theorem dJx4a65c_fastRemove_b59b0_23 : decode cJx4a65c_fastRemove_b59b0 23 = .ok (.iload_n 2, 1) := by decide +kernel
theorem dJx4a65c_fastRemove_b59b0_24 : decode cJx4a65c_fastRemove_b59b0 24 = .ok (.iconst 1, 1) := by decide +kernel
theorem dJx4a65c_fastRemove_b59b0_25 : decode cJx4a65c_fastRemove_b59b0 25 = .ok (.iadd, 1) := by decide +kernel
theorem dJx4a65c_fastRemove_b59b0_26 : decode cJx4a65c_fastRemove_b59b0 26 = .ok (.aload_n 1, 1) := by decide +kernel
theorem dJx4a65c_fastRemove_b59b0_27 : decode cJx4a65c_fastRemove_b59b0 27 = .ok (.iload_n 2, 1) := by decide +kernel
theorem dJx4a65c_fastRemove_b59b0_28 : decode cJx4a65c_fastRemove_b59b0 28 = .ok (.iload_n 3, 1) := by decide +kernel
theorem dJx4a65c_fastRemove_b59b0_29 : decode cJx4a65c_fastRemove_b59b0 29 = .ok (.iload_n 2, 1) := by decide +kernel
theorem dJx4a65c_fastRemove_b59b0_30 : decode cJx4a65c_fastRemove_b59b0 30 = .ok (.isub, 1) := by decide +kernel
theorem dJx4a65c_fastRemove_b59b0_31 : decode cJx4a65c_fastRemove_b59b0 31 = .ok (.invokestatic 112, 3) := by decide +kernel
theorem dJx4a65c_fastRemove_b59b0_34 : decode cJx4a65c_fastRemove_b59b0 34 = .ok (.aload_n 1, 1) := by decide +kernel
theorem dJx4a65c_fastRemove_b59b0_35 : decode cJx4a65c_fastRemove_b59b0 35 = .ok (.aload_n 0, 1) := by decide +kernel
theorem dJx4a65c_fastRemove_b59b0_36 : decode cJx4a65c_fastRemove_b59b0 36 = .ok (.iload_n 3, 1) := by decide +kernel
theorem dJx4a65c_fastRemove_b59b0_37 : decode cJx4a65c_fastRemove_b59b0 37 = .ok (.dup_x1, 1) := by decide +kernel
theorem dJx4a65c_fastRemove_b59b0_38 : decode cJx4a65c_fastRemove_b59b0 38 = .ok (.putfield 48, 3) := by decide +kernel
theorem dJx4a65c_fastRemove_b59b0_41 : decode cJx4a65c_fastRemove_b59b0 41 = .ok (.aconst_null, 1) := by decide +kernel
theorem dJx4a65c_fastRemove_b59b0_42 : decode cJx4a65c_fastRemove_b59b0 42 = .ok (.aastore, 1) := by decide +kernel
theorem dJx4a65c_fastRemove_b59b0_43 : decode cJx4a65c_fastRemove_b59b0 43 = .ok (.return_, 1) := by decide +kernel
theorem dJ7_copyOf_1904c_0 : decode cJ7_copyOf_1904c 0 = .ok (.aload_n 0, 1) := by decide +kernel
theorem dJ7_copyOf_1904c_1 : decode cJ7_copyOf_1904c 1 = .ok (.iload_n 1, 1) := by decide +kernel
theorem dJ7_copyOf_1904c_2 : decode cJ7_copyOf_1904c 2 = .ok (.aload_n 0, 1) := by decide +kernel
theorem dJ7_copyOf_1904c_3 : decode cJ7_copyOf_1904c 3 = .ok (.invokevirtual 86, 3) := by decide +kernel
theorem dJ7_copyOf_1904c_6 : decode cJ7_copyOf_1904c 6 = .ok (.invokestatic 300, 3) := by decide +kernel
theorem dJ7_copyOf_1904c_9 : decode cJ7_copyOf_1904c 9 = .ok (.areturn, 1) := by decide +kernel
theorem dJ7_copyOf_6403c_0 : decode cJ7_copyOf_6403c 0 = .ok (.aload_n 2, 1) := by decide +kernel
theorem dJ7_copyOf_6403c_1 : decode cJ7_copyOf_6403c 1 = .ok (.ldc 110, 2) := by decide +kernel
theorem dJ7_copyOf_6403c_3 : decode cJ7_copyOf_6403c 3 = .ok (.if_acmp .ne 10, 3) := by decide +kernel
theorem dJ7_copyOf_6403c_6 : decode cJ7_copyOf_6403c 6 = .ok (.iload_n 1, 1) := by decide +kernel
theorem dJ7_copyOf_6403c_7 : decode cJ7_copyOf_6403c 7 = .ok (.anewarray 2, 3) := by decide +kernel
theorem dJ7_copyOf_6403c_10 : decode cJ7_copyOf_6403c 10 = .ok (.goto 14, 3) := by decide +kernel
theorem dJ7_copyOf_6403c_13 : decode cJ7_copyOf_6403c 13 = .ok (.aload_n 2, 1) := by decide +kernel
theorem dJ7_copyOf_6403c_14 : decode cJ7_copyOf_6403c 14 = .ok (.invokevirtual 90, 3) := by decide +kernel
theorem dJ7_copyOf_6403c_17 : decode cJ7_copyOf_6403c 17 = .ok (.iload_n 1, 1) := by decide +kernel
theorem dJ7_copyOf_6403c_18 : decode cJ7_copyOf_6403c 18 = .ok (.invokestatic 95, 3) := by decide +kernel
theorem dJ7_copyOf_6403c_21 : decode cJ7_copyOf_6403c 21 = .ok (.checkcast 110, 3) := by decide +kernel
theorem dJ7_copyOf_6403c_24 : decode cJ7_copyOf_6403c 24 = .ok (.astore_n 3, 1) := by decide +kernel
theorem dJ7_copyOf_6403c_25 : decode cJ7_copyOf_6403c 25 = .ok (.aload_n 0, 1) := by decide +kernel
theorem dJ7_copyOf_6403c_26 : decode cJ7_copyOf_6403c 26 = .ok (.iconst 0, 1) := by decide +kernel
theorem dJ7_copyOf_6403c_27 : decode cJ7_copyOf_6403c 27 = .ok (.aload_n 3, 1) := by decide +kernel
theorem dJ7_copyOf_6403c_28 : decode cJ7_copyOf_6403c 28 = .ok (.iconst 0, 1) := by decide +kernel
theorem dJ7_copyOf_6403c_29 : decode cJ7_copyOf_6403c 29 = .ok (.aload_n 0, 1) := by decide +kernel
theorem dJ7_copyOf_6403c_30 : decode cJ7_copyOf_6403c 30 = .ok (.arraylength, 1) := by decide +kernel
theorem dJ7_copyOf_6403c_31 : decode cJ7_copyOf_6403c 31 = .ok (.iload_n 1, 1) := by decide +kernel
theorem dJ7_copyOf_6403c_32 : decode cJ7_copyOf_6403c 32 = .ok (.invokestatic 304, 3) := by decide +kernel
theorem dJ7_copyOf_6403c_35 : decode cJ7_copyOf_6403c 35 = .ok (.invokestatic 150, 3) := by decide +kernel
theorem dJ7_copyOf_6403c_38 : decode cJ7_copyOf_6403c 38 = .ok (.aload_n 3, 1) := by decide +kernel
theorem dJ7_copyOf_6403c_39 : decode cJ7_copyOf_6403c 39 = .ok (.areturn, 1) := by decide +kernel
theorem dJ15_checkIndex_7cf53_0 : decode cJ15_checkIndex_7cf53 0 = .ok (.iload_n 0, 1) := by decide +kernel
theorem dJ15_checkIndex_7cf53_1 : decode cJ15_checkIndex_7cf53 1 = .ok (.iload_n 1, 1) := by decide +kernel
theorem dJ15_checkIndex_7cf53_2 : decode cJ15_checkIndex_7cf53 2 = .ok (.aconst_null, 1) := by decide +kernel
theorem dJ15_checkIndex_7cf53_3 : decode cJ15_checkIndex_7cf53 3 = .ok (.invokestatic 105, 3) := by decide +kernel
theorem dJ15_checkIndex_7cf53_6 : decode cJ15_checkIndex_7cf53 6 = .ok (.ireturn, 1) := by decide +kernel
theorem dJ8_newLength_cabcc_0 : decode cJ8_newLength_cabcc 0 = .ok (.iload_n 0, 1) := by decide +kernel
theorem dJ8_newLength_cabcc_1 : decode cJ8_newLength_cabcc 1 = .ok (.iload_n 1, 1) := by decide +kernel
theorem dJ8_newLength_cabcc_2 : decode cJ8_newLength_cabcc 2 = .ok (.iload_n 2, 1) := by decide +kernel
theorem dJ8_newLength_cabcc_3 : decode cJ8_newLength_cabcc 3 = .ok (.invokestatic 194, 3) := by decide +kernel
theorem dJ8_newLength_cabcc_6 : decode cJ8_newLength_cabcc 6 = .ok (.iadd, 1) := by decide +kernel
theorem dJ8_newLength_cabcc_7 : decode cJ8_newLength_cabcc 7 = .ok (.istore_n 3, 1) := by decide +kernel
theorem dJ8_newLength_cabcc_8 : decode cJ8_newLength_cabcc 8 = .ok (.iconst 0, 1) := by decide +kernel
theorem dJ8_newLength_cabcc_9 : decode cJ8_newLength_cabcc 9 = .ok (.iload_n 3, 1) := by decide +kernel
theorem dJ8_newLength_cabcc_10 : decode cJ8_newLength_cabcc 10 = .ok (.if_icmp .ge 11, 3) := by decide +kernel
theorem dJ8_newLength_cabcc_13 : decode cJ8_newLength_cabcc 13 = .ok (.iload_n 3, 1) := by decide +kernel
theorem dJ8_newLength_cabcc_14 : decode cJ8_newLength_cabcc 14 = .ok (.ldc 200, 2) := by decide +kernel
theorem dJ8_newLength_cabcc_16 : decode cJ8_newLength_cabcc 16 = .ok (.if_icmp .gt 5, 3) := by decide +kernel
theorem dJ8_newLength_cabcc_19 : decode cJ8_newLength_cabcc 19 = .ok (.iload_n 3, 1) := by decide +kernel
theorem dJ8_newLength_cabcc_20 : decode cJ8_newLength_cabcc 20 = .ok (.ireturn, 1) := by decide +kernel
theorem dJ8_newLength_cabcc_21 : decode cJ8_newLength_cabcc 21 = .ok (.iload_n 0, 1) := by decide +kernel
theorem dJ8_newLength_cabcc_22 : decode cJ8_newLength_cabcc 22 = .ok (.iload_n 1, 1) := by decide +kernel
theorem dJ8_newLength_cabcc_23 : decode cJ8_newLength_cabcc 23 = .ok (.invokestatic 201, 3) := by decide +kernel
theorem dJ8_newLength_cabcc_26 : decode cJ8_newLength_cabcc 26 = .ok (.ireturn, 1) := by decide +kernel
theorem dJ8_hugeLength_7cf53_0 : decode cJ8_hugeLength_7cf53 0 = .ok (.iload_n 0, 1) := by decide +kernel
theorem dJ8_hugeLength_7cf53_1 : decode cJ8_hugeLength_7cf53 1 = .ok (.iload_n 1, 1) := by decide +kernel
theorem dJ8_hugeLength_7cf53_2 : decode cJ8_hugeLength_7cf53 2 = .ok (.iadd, 1) := by decide +kernel
theorem dJ8_hugeLength_7cf53_3 : decode cJ8_hugeLength_7cf53 3 = .ok (.istore_n 2, 1) := by decide +kernel
theorem dJ8_hugeLength_7cf53_4 : decode cJ8_hugeLength_7cf53 4 = .ok (.iload_n 2, 1) := by decide +kernel
theorem dJ8_hugeLength_7cf53_5 : decode cJ8_hugeLength_7cf53 5 = .ok (.ifCond .ge 44, 3) := by decide +kernel
theorem dJ8_hugeLength_7cf53_8 : decode cJ8_hugeLength_7cf53 8 = .ok (.new 204, 3) := by decide +kernel
theorem dJ8_hugeLength_7cf53_11 : decode cJ8_hugeLength_7cf53 11 = .ok (.dup, 1) := by decide +kernel
theorem dJ8_hugeLength_7cf53_12 : decode cJ8_hugeLength_7cf53 12 = .ok (.new 89, 3) := by decide +kernel
theorem dJ8_hugeLength_7cf53_15 : decode cJ8_hugeLength_7cf53 15 = .ok (.dup, 1) := by decide +kernel
theorem dJ8_hugeLength_7cf53_16 : decode cJ8_hugeLength_7cf53 16 = .ok (.invokespecial 91, 3) := by decide +kernel
theorem dJ8_hugeLength_7cf53_19 : decode cJ8_hugeLength_7cf53 19 = .ok (.ldc 206, 2) := by decide +kernel
theorem dJ8_hugeLength_7cf53_21 : decode cJ8_hugeLength_7cf53 21 = .ok (.invokevirtual 94, 3) := by decide +kernel
theorem dJ8_hugeLength_7cf53_24 : decode cJ8_hugeLength_7cf53 24 = .ok (.iload_n 0, 1) := by decide +kernel
theorem dJ8_hugeLength_7cf53_25 : decode cJ8_hugeLength_7cf53 25 = .ok (.invokevirtual 98, 3) := by decide +kernel
theorem dJ8_hugeLength_7cf53_28 : decode cJ8_hugeLength_7cf53 28 = .ok (.ldc 208, 2) := by decide +kernel
theorem dJ8_hugeLength_7cf53_30 : decode cJ8_hugeLength_7cf53 30 = .ok (.invokevirtual 94, 3) := by decide +kernel
theorem dJ8_hugeLength_7cf53_33 : decode cJ8_hugeLength_7cf53 33 = .ok (.iload_n 1, 1) := by decide +kernel
theorem dJ8_hugeLength_7cf53_34 : decode cJ8_hugeLength_7cf53 34 = .ok (.invokevirtual 98, 3) := by decide +kernel
theorem dJ8_hugeLength_7cf53_37 : decode cJ8_hugeLength_7cf53 37 = .ok (.ldc 210, 2) := by decide +kernel
theorem dJ8_hugeLength_7cf53_39 : decode cJ8_hugeLength_7cf53 39 = .ok (.invokevirtual 94, 3) := by decide +kernel
theorem dJ8_hugeLength_7cf53_42 : decode cJ8_hugeLength_7cf53 42 = .ok (.invokevirtual 101, 3) := by decide +kernel
theorem dJ8_hugeLength_7cf53_45 : decode cJ8_hugeLength_7cf53 45 = .ok (.invokespecial 212, 3) := by decide +kernel
theorem dJ8_hugeLength_7cf53_48 : decode cJ8_hugeLength_7cf53 48 = .ok (.athrow, 1) := by decide +kernel
theorem dJ8_hugeLength_7cf53_49 : decode cJ8_hugeLength_7cf53 49 = .ok (.iload_n 2, 1) := by decide +kernel
theorem dJ8_hugeLength_7cf53_50 : decode cJ8_hugeLength_7cf53 50 = .ok (.ldc 200, 2) := by decide +kernel
theorem dJ8_hugeLength_7cf53_52 : decode cJ8_hugeLength_7cf53 52 = .ok (.if_icmp .gt 6, 3) := by decide +kernel
theorem dJ8_hugeLength_7cf53_55 : decode cJ8_hugeLength_7cf53 55 = .ok (.ldc 200, 2) := by decide +kernel
theorem dJ8_hugeLength_7cf53_57 : decode cJ8_hugeLength_7cf53 57 = .ok (.ireturn, 1) := by decide +kernel
theorem dJ8_hugeLength_7cf53_58 : decode cJ8_hugeLength_7cf53 58 = .ok (.iload_n 2, 1) := by decide +kernel
theorem dJ8_hugeLength_7cf53_59 : decode cJ8_hugeLength_7cf53 59 = .ok (.ireturn, 1) := by decide +kernel
theorem dJ3_checkIndex_8e157_0 : decode cJ3_checkIndex_8e157 0 = .ok (.iload_n 0, 1) := by decide +kernel
theorem dJ3_checkIndex_8e157_1 : decode cJ3_checkIndex_8e157 1 = .ok (.ifCond .lt 8, 3) := by decide +kernel
theorem dJ3_checkIndex_8e157_4 : decode cJ3_checkIndex_8e157 4 = .ok (.iload_n 0, 1) := by decide +kernel
theorem dJ3_checkIndex_8e157_5 : decode cJ3_checkIndex_8e157 5 = .ok (.iload_n 1, 1) := by decide +kernel
theorem dJ3_checkIndex_8e157_6 : decode cJ3_checkIndex_8e157 6 = .ok (.if_icmp .lt 10, 3) := by decide +kernel
theorem dJ3_checkIndex_8e157_9 : decode cJ3_checkIndex_8e157 9 = .ok (.aload_n 2, 1) := by decide +kernel
theorem dJ3_checkIndex_8e157_10 : decode cJ3_checkIndex_8e157 10 = .ok (.iload_n 0, 1) := by decide +kernel
theorem dJ3_checkIndex_8e157_11 : decode cJ3_checkIndex_8e157 11 = .ok (.iload_n 1, 1) := by decide +kernel
theorem dJ3_checkIndex_8e157_12 : decode cJ3_checkIndex_8e157 12 = .ok (.invokestatic 95, 3) := by decide +kernel
theorem dJ3_checkIndex_8e157_15 : decode cJ3_checkIndex_8e157 15 = .ok (.athrow, 1) := by decide +kernel
theorem dJ3_checkIndex_8e157_16 : decode cJ3_checkIndex_8e157 16 = .ok (.iload_n 0, 1) := by decide +kernel
theorem dJ3_checkIndex_8e157_17 : decode cJ3_checkIndex_8e157 17 = .ok (.ireturn, 1) := by decide +kernel
end
section
/-! ===== base: one world for all methods; contracts speak of any world that holds some cells at some places ===== -/
/-- tables, the classes of int[], Object[], int[][], the address of ArrayList's shared empty array, the first address that is ours -/
abbrev zG : Type := va_G × (ClassId × ClassId × ClassId) × Nat × Nat
abbrev zT (E : zG) : List (ClassId × FieldType) := [(E.2.1.1, .int), (E.2.1.2.1, .object "java/lang/Object"), (E.2.1.2.2, .array .int)]
abbrev zA (E : zG) : Nat → Prop := fun q => E.2.2.2 ≤ q
abbrev zI4 (E : zG) (n : Nat) (f : Nat → Int32) : va_E := .inl (E.2.1.1, n, .inl f)
abbrev zO4 (E : zG) (n : Nat) (f : Nat → Option Nat) : va_E := .inl (E.2.1.2.1, n, .inr (.inr (.inr (.inr f))))
abbrev zA4 (E : zG) (n : Nat) (f : Nat → Option Nat) : va_E := .inl (E.2.1.2.2, n, .inr (.inr (.inr (.inr f))))
/-- arrays of int[] can be made -/
def zAO2 (U : State) : Prop := (Cond.arrayOver (.array .int)).before #[] U = true
theorem zAO2.moved {u U : State} (hvm : u.vm.Alike U.vm) (h : zAO2 u) : zAO2 U := by
  obtain ⟨comp, c, k, h1, h2, h3, h4, h5⟩ := arrayOverA_spec h
  obtain ⟨k', hk', he⟩ := hvm.2.2 _ _ h3
  have hi : (U.vm.classes.findIdx? fun (x : Class) => match x.kind with | .array component _ => component == comp | _ => false) = some c := by
    rw [hvm.findIdx?_eq _ (fun _ => rfl)]
    exact h2
  have hkind : k'.kind = .array comp (.array .int) := by rw [he]; exact h4
  have f1 : U.vm.findClass (FieldType.array .int).toString = some comp := by rw [hvm.findClass]; exact h1
  have f2 : U.vm.findClass ("[" ++ (FieldType.array .int).toString) = some c := by rw [hvm.findClass]; exact h5
  unfold zAO2 Cond.before Cond.holds
  simp only [Cond.value]
  rw [f1, Option.bind_some]
  refine (congrArg (fun o : Option Nat => (o.bind (fun c => (U.vm.classes[c]?).map fun (k : Class) => match k.kind with | .array _ ty => decide (ty = FieldType.array .int) && decide (U.vm.findClass ("[" ++ (FieldType.array .int).toString) = some c) | _ => false) == some true)) hi).trans ?_
  simp [hk', hkind, f2]
/-- the statics, which nobody writes, and what the tables say of classes -/
def zS (E : zG) (U : State) (H : Heap) : Prop :=
  va_Z "java/util/ArrayList" "DEFAULTCAPACITY_EMPTY_ELEMENTDATA" "[Ljava/lang/Object;" (.ref E.2.2.1) (zA E) U H ∧ va_T (.object "java/lang/Object") E.2.2.1 0 (fun _ => .null) (zA E) U H ∧
  vx_Zq Bundle.tN "UNASSIGNED_STACK" Bundle.steD (zA E) U H ∧ vx_Zq Bundle.tN "SUPPRESSED_SENTINEL" Bundle.listD (zA E) U H ∧ va_AO "java/lang/Object" U ∧ va_Nw (.castable RX0 "java/lang/Object") U ∧ va_Nw (.castable RX2 "java/lang/Object") U ∧ zAO2 U ∧ va_Nw (.castable "[I" "java/lang/Cloneable") U ∧ va_Nw (.castable "[[I" "java/lang/Cloneable") U
theorem zNw {C T : String} {u U : State} (hvm : u.vm.Alike U.vm) (h : va_Nw (.castable C T) u) : va_Nw (.castable C T) U := va_tabs rfl (rfl : (u.setVm U.vm).vm = U.vm) (by rw [Cond.castable_setVm hvm]; exact h)
theorem zS.moved {E : zG} {u U : State} {H : Heap} (hvm : u.vm.Alike U.vm) (h : zS E u H) : zS E U H :=
  ⟨va_Z.moved hvm h.1, va_T.moved hvm h.2.1, vx_Zq.moved hvm h.2.2.1, vx_Zq.moved hvm h.2.2.2.1, va_AO.moved hvm h.2.2.2.2.1, zNw hvm h.2.2.2.2.2.1, zNw hvm h.2.2.2.2.2.2.1, zAO2.moved hvm h.2.2.2.2.2.2.2.1, zNw hvm h.2.2.2.2.2.2.2.2.1, zNw hvm h.2.2.2.2.2.2.2.2.2⟩
theorem zS.kept {E : zG} {U : State} {H H1 : Heap} (h : zS E U H) (hq : ∀ a : Nat, a < H.size → ¬ zA E a → H1[a]? = H[a]?) : zS E U H1 :=
  ⟨va_Z.kept h.1 hq, va_T.kept h.2.1 hq, vx_Zq.kept h.2.2.1 hq, vx_Zq.kept h.2.2.2.1 hq, h.2.2.2.2⟩
/-- a state that holds the world ws -/
def zI (E : zG) (ws : va_W) (U : State) : Prop := E.2.2.2 ≤ U.heap.size ∧ va_P E.1 vwCl ws U.heap ∧ va_K E.1 vwCl (zT E) U ∧ va_D (zA E) ws ∧ zS E U U.heap
theorem zI.blind {E : zG} {ws : va_W} {U : State} {g : JFrame} {mk : MethodId} {a : Array Value} (h : zI E ws U) : zI E ws (U.calling g mk a) :=
  ⟨h.1, h.2.1, va_K.moved (u := U) (U := U.calling g mk a) (Vm.Alike.refl U.vm) h.2.2.1, h.2.2.2.1, zS.moved (u := U) (U := U.calling g mk a) (Vm.Alike.refl U.vm) h.2.2.2.2⟩
theorem zPc.blind {E : zG} {ws : va_W} {av : List Value} : FrameBlind (va_Pc av (zI E ws)) := fun _ _ _ _ q => ⟨q.1, q.2.blind⟩
/-- what stays the same in a method's walk -/
def zC (E : zG) (p : Program) (m : MethodId) (c : Code) (cc : ByteArray) (nL : Nat) (s : State) (args : Array Value) (Ts : List Cond) (own : String) : Prop :=
  CallFix p m c cc nL s args Ts own ∧ va_K E.1 vwCl (zT E) s ∧ zS E s s.heap ∧ E.2.2.2 ≤ s.heap.size
/-- the world of a walk, here -/
def zJ (E : zG) (ws : va_W) (s : State) (H : Heap) (locs : List Loc) : Prop := va_P E.1 vwCl ws H ∧ va_D (zA E) ws ∧ va_S (zA E) s.heap H locs
theorem zI.J {E : zG} {ws : va_W} {s : State} (h : zI E ws s) : zJ E ws s s.heap [] := ⟨h.2.1, h.2.2.2.1, va_S.rf⟩
theorem zJ.I {E : zG} {p : Program} {m : MethodId} {c : Code} {cc : ByteArray} {nL : Nat} {s : State} {args : Array Value} {Ts : List Cond} {own : String} {ws : va_W} {H : Heap} {locs : List Loc}
    (X : zC E p m c cc nL s args Ts own) (J : zJ E ws s H locs) {U : State} (hU : U.heap = H) (hvm : s.vm.Alike U.vm) : zI E ws U := by
  obtain ⟨-, hK, hZ, hb⟩ := X
  obtain ⟨hP, hD, hS⟩ := J
  refine ⟨by rw [hU]; exact Nat.le_trans hb hS.1, by rw [hU]; exact hP, va_K.moved hvm hK, hD, ?_⟩
  rw [hU]
  exact zS.moved hvm (hZ.kept hS.2.1)
theorem zJ.of {E : zG} {ws1 : va_W} {s t : State} {H1 : Heap} {locs1 : List Loc} (ht : t.heap = H1) (hS : va_S (zA E) s.heap H1 locs1) (h : zI E ws1 t) : zJ E ws1 s H1 locs1 :=
  ⟨by rw [← ht]; exact h.2.1, h.2.2.2.1, hS⟩
theorem zJ.locs {E : zG} {ws : va_W} {s : State} {H : Heap} {locs : List Loc} (J : zJ E ws s H locs) : ∀ q ∈ locs, zA E q.base := J.2.2.2.2
theorem zJ.F {E : zG} {ws : va_W} {s t : State} {H : Heap} {locs : List Loc} (J : zJ E ws s H locs) (ht : t.heap = H) : va_F (zA E) s t := J.2.2.F ht
theorem zarr_congr {cI : ClassId} {N : Nat} {f g : Nat → Value} (h : ∀ j, j < N → f j = g j) : arrV cI N f = arrV cI N g := by
  unfold arrV
  congr 1
  exact congrArg Array.ofFn (funext fun j => h j.1 j.2)
/-- a row of ints is what stands in its places -/
theorem zJ.congr {E : zG} {ws : va_W} {s : State} {H : Heap} {locs : List Loc} (J : zJ E ws s H locs) (q0 : Nat) {a n : Nat} {f g : Nat → Int32} (he : ws[q0]? = some (a, zI4 E n f)) (hfg : ∀ j, j < n → f j = g j) : zJ E (ws.set q0 (a, zI4 E n g)) s H locs := by
  obtain ⟨hP, hD, hS⟩ := J
  refine ⟨hP.set hD he ?_ (fun _ _ => rfl), hD.set he, hS⟩
  have h : H[a]? = some (vp_cell E.2.1.1 (n, .inl f)) := hP q0 _ he
  show H[a]? = some (vp_cell E.2.1.1 (n, .inl g))
  rw [h]
  congr 1
  show arrV _ n (fun j => .int (f j)) = arrV _ n (fun j => .int (g j))
  exact zarr_congr (fun j hj => by rw [hfg j hj])
/-- what stands at other places stays, and nothing goes -/
def zK (S : List Nat) (ws ws' : va_W) : Prop := ws.length ≤ ws'.length ∧ ∀ (p : Nat) (e : Nat × va_E), p ∉ S → ws[p]? = some e → ws'[p]? = some e
theorem zK.rf {S : List Nat} {ws : va_W} : zK S ws ws := ⟨Nat.le_refl _, fun _ _ _ h => h⟩
theorem zK.trans {S : List Nat} {w1 w2 w3 : va_W} (h1 : zK S w1 w2) (h2 : zK S w2 w3) : zK S w1 w3 := ⟨Nat.le_trans h1.1 h2.1, fun p e hp h => h2.2 p e hp (h1.2 p e hp h)⟩
theorem zK.mono {S S' : List Nat} {w1 w2 : va_W} (h : zK S w1 w2) (hs : ∀ p, p ∈ S → p ∈ S') : zK S' w1 w2 := ⟨h.1, fun p e hp h' => h.2 p e (fun q => hp (hs p q)) h'⟩
theorem zK.set {S : List Nat} {ws : va_W} {q : Nat} {e : Nat × va_E} (h : q ∈ S) : zK S ws (ws.set q e) := ⟨by rw [List.length_set]; exact Nat.le_refl _, fun p x hp hx => by
  rw [List.getElem?_set_ne (fun z => hp (by rw [← z]; exact h))]
  exact hx⟩
theorem zK.setNew {S : List Nat} {w0 ws : va_W} {q : Nat} {e : Nat × va_E} (h : zK S w0 ws) (hq : w0.length ≤ q) : zK S w0 (ws.set q e) := ⟨by rw [List.length_set]; exact h.1, fun p x hp hx => by
  have hl := (List.getElem?_eq_some_iff.mp hx).1
  rw [List.getElem?_set_ne (by omega)]
  exact h.2 p x hp hx⟩
theorem zK.app {S : List Nat} {ws more : va_W} : zK S ws (ws ++ more) := ⟨by rw [List.length_append]; omega, fun p x _ hx => by
  rw [List.getElem?_append_left (List.getElem?_eq_some_iff.mp hx).1]
  exact hx⟩
theorem zset_eq {ws : va_W} {q : Nat} {e e' : Nat × va_E} (h : ws[q]? = some e) : (ws.set q e')[q]? = some e' := List.getElem?_set_self (List.getElem?_eq_some_iff.mp h).1
theorem zset_ne {ws : va_W} {q r : Nat} {e e' : Nat × va_E} (hne : q ≠ r) (h : ws[r]? = some e) : (ws.set q e')[r]? = some e := by
  rw [List.getElem?_set_ne hne]
  exact h
theorem zapp {ws : va_W} {r : Nat} {e x : Nat × va_E} (h : ws[r]? = some e) : (ws ++ [x])[r]? = some e := by
  rw [List.getElem?_append_left (List.getElem?_eq_some_iff.mp h).1]
  exact h
theorem zapp_new {ws : va_W} {x : Nat × va_E} : (ws ++ [x])[ws.length]? = some x := by
  rw [List.getElem?_append_right (Nat.le_refl _), Nat.sub_self]
  rfl
theorem zlt {ws : va_W} {r : Nat} {e : Nat × va_E} (h : ws[r]? = some e) : r < ws.length := (List.getElem?_eq_some_iff.mp h).1
/-- places of different contents differ -/
theorem zne {ws : va_W} {i j : Nat} {x y : Nat × va_E} (h1 : ws[i]? = some x) (h2 : ws[j]? = some y) (h : x.2 ≠ y.2) : i ≠ j := fun e => by
  subst e
  rw [h1] at h2
  cases h2
  exact h rfl
/-- the kind of a cell: places of different kinds differ -/
def zkd (e : va_E) : Nat := match e with
  | .inr o => o.1
  | .inl (_, _, .inl _) => 100
  | .inl (_, _, .inr (.inl _)) => 101
  | .inl (_, _, .inr (.inr _)) => 102
theorem zneK {ws : va_W} {i j : Nat} {x y : Nat × va_E} (h1 : ws[i]? = some x) (h2 : ws[j]? = some y) (h : Nat.beq (zkd x.2) (zkd y.2) = false) : i ≠ j := fun e => by
  subst e
  rw [h1] at h2
  cases h2
  rw [Nat.beq_refl] at h
  cases h
section ZR
variable {p : Program} {l : Launch} {e : Env} {R : Room} {s : State} {m : MethodId} {args : Array Value} {below : List Frame} {meth : Method} {c : Code} {H : Heap} {locs : List Loc} {cells slots : Nat} {Q : State → Prop}
variable {cc : ByteArray} {pc nL : Nat} {ls : Array Slot} {rest st0 : List Value} {ws : va_W} {own : String} {Ts : List Cond} {E : zG}
theorem z_open {y : MethodName} {ws0 : List Cond} {rm : Room} {maxL : Nat} {ret : Option FieldType} {s₁ : State} (B : BodyLoose p l y (headSpec ws0 rm) cc maxL ret e s m args below meth c s₁) (hml : c.maxLocals = maxL) (h : zI E ws s) : zC E p m c cc maxL s args ws0 y.cls :=
  ⟨⟨B.exec, B.bytes, hml, findClass_of_methodNamed B.named, atoms_spec (ws := ws0) B.pre⟩, h.2.2.1, h.2.2.2.2, h.1⟩
theorem z_get (X : zC E p m c cc nL s args Ts own) (J : zJ E ws s H locs) {C : String} {T : u_T} {N ci index a : Nat} {fs : List Value} (hin : ∀ w ∈ u_ws C T N, w ∈ Ts) (q0 : Nat) (he : ws[q0]? = some (a, .inr (ci, fs))) (hc : vwCl[ci]? = some (C, T, N)) (k : Nat) (hk : k < N) (hlink : Cond.fieldLink own index (T k).1 (T k).2.1 (T k).2.2.1 ∈ Ts) {v : Value} (hv : fs[k]? = some v) (hdg : decode cc pc = .ok (.getfield index, 3))
    (kk : W p l e R s m args below meth c H locs cells slots Q (F0 m (pc + 3) ls (v :: rest))) : W p l e R s m args below meth c H locs cells slots Q (F0 m pc ls (.ref a :: rest)) :=
  va_get X.1.1 X.1.2.1 X.1.2.2.2.2 hin X.1.2.2.2.1 X.2.1 J.1 q0 he hc k hk (X.1.2.2.2.2 _ hlink) (fun _ h => h) hv hdg kk
theorem z_put (X : zC E p m c cc nL s args Ts own) (J : zJ E ws s H locs) {C : String} {T : u_T} {N ci index a : Nat} {fs : List Value} (hin : ∀ w ∈ u_ws C T N, w ∈ Ts) (ty0 : Nat → FieldType) (hty : ∀ k, k < N → parseFieldDescriptor (T k).2.2.1 = some (ty0 k)) (hnm : ∀ a, a < N → ∀ b, b < N → a ≠ b → (T a).2.1 ≠ (T b).2.1) (q0 : Nat) (he : ws[q0]? = some (a, .inr (ci, fs))) (hc : vwCl[ci]? = some (C, T, N)) (k : Nat) (hk : k < N) (hlink : Cond.fieldLink own index (T k).1 (T k).2.1 (T k).2.2.1 ∈ Ts) (hfin : (T k).2.2.2 = false) {v : Value} (hn : narrow (ty0 k) v = v) (hfit : fits (ty0 k) v = true) (hl : k < fs.length) (hdg : decode cc pc = .ok (.putfield index, 3))
    (kk : ∀ (H1 : Heap) (locs1 : List Loc), zJ E (ws.set q0 (a, .inr (ci, fs.set k v))) s H1 locs1 → W p l e R s m args below meth c H1 locs1 cells slots Q (F0 m (pc + 3) ls rest)) : W p l e R s m args below meth c H locs cells slots Q (F0 m pc ls (v :: .ref a :: rest)) :=
  va_put X.1.1 X.1.2.1 X.1.2.2.2.2 hin ty0 hty hnm X.1.2.2.2.1 X.2.1 J.1 J.2.1 J.2.2 q0 he hc k hk (X.1.2.2.2.2 _ hlink) (fun _ h => h) hfin (hty k hk) hn hfit hl hdg (fun H1 locs1 hP hD hS => kk H1 locs1 ⟨hP, hD, hS⟩)
theorem z_putF (X : zC E p m c cc nL s args Ts own) (J : zJ E ws s H locs) {C : String} {T : u_T} {N ci index a : Nat} {fs : List Value} (hin : ∀ w ∈ u_ws C T N, w ∈ Ts) (ty0 : Nat → FieldType) (hty : ∀ k, k < N → parseFieldDescriptor (T k).2.2.1 = some (ty0 k)) (hnm : ∀ a, a < N → ∀ b, b < N → a ≠ b → (T a).2.1 ≠ (T b).2.1) (q0 : Nat) (he : ws[q0]? = some (a, .inr (ci, fs))) (hc : vwCl[ci]? = some (C, T, N)) (k : Nat) (hk : k < N) (hlink : Cond.fieldLink own index (T k).1 (T k).2.1 (T k).2.2.1 ∈ Ts) (hfin : (T k).2.2.2 = true) (hin2 : meth.name = "<init>") (hdecl : (T k).1 = own) {v : Value} (hn : narrow (ty0 k) v = v) (hfit : fits (ty0 k) v = true) (hl : k < fs.length) (hdg : decode cc pc = .ok (.putfield index, 3))
    (kk : ∀ (H1 : Heap) (locs1 : List Loc), zJ E (ws.set q0 (a, .inr (ci, fs.set k v))) s H1 locs1 → W p l e R s m args below meth c H1 locs1 cells slots Q (F0 m (pc + 3) ls rest)) : W p l e R s m args below meth c H locs cells slots Q (F0 m pc ls (v :: .ref a :: rest)) :=
  va_putF X.1.1 X.1.2.1 X.1.2.2.2.2 hin ty0 hty hnm X.1.2.2.2.1 X.2.1 J.1 J.2.1 J.2.2 q0 he hc k hk (X.1.2.2.2.2 _ hlink) (fun _ h => h) hfin hin2 hdecl (hty k hk) hn hfit hl hdg (fun H1 locs1 hP hD hS => kk H1 locs1 ⟨hP, hD, hS⟩)
theorem z_iald (X : zC E p m c cc nL s args Ts own) (J : zJ E ws s H locs) (q0 : Nat) {a n : Nat} {f : Nat → Int32} (he : ws[q0]? = some (a, zI4 E n f)) {i : Int32} (hin : vp_in i n) (hdg : decode cc pc = .ok (.iaload, 1))
    (kk : W p l e R s m args below meth c H locs cells slots Q (F0 m (pc + 1) ls (.int (f i.toNatClampNeg) :: rest))) : W p l e R s m args below meth c H locs cells slots Q (F0 m pc ls (.int i :: .ref a :: rest)) :=
  va_iald X.1.1 X.1.2.1 X.2.1 J.1 q0 0 he rfl hin hdg kk
theorem z_iast (X : zC E p m c cc nL s args Ts own) (J : zJ E ws s H locs) (q0 : Nat) {a n : Nat} {f : Nat → Int32} (he : ws[q0]? = some (a, zI4 E n f)) {i x : Int32} (hin : vp_in i n) (hdg : decode cc pc = .ok (.iastore, 1))
    (kk : ∀ (H1 : Heap) (locs1 : List Loc), zJ E (ws.set q0 (a, zI4 E n (upd f i.toNatClampNeg x))) s H1 locs1 → W p l e R s m args below meth c H1 locs1 cells slots Q (F0 m (pc + 1) ls rest)) : W p l e R s m args below meth c H locs cells slots Q (F0 m pc ls (.int x :: .int i :: .ref a :: rest)) :=
  va_iast X.1.1 X.1.2.1 X.2.1 J.1 J.2.1 J.2.2 q0 0 he rfl hin hdg (fun H1 locs1 hP hD hS => kk H1 locs1 ⟨hP, hD, hS⟩)
theorem z_aaldq (X : zC E p m c cc nL s args Ts own) (J : zJ E ws s H locs) (q0 : Nat) {a n : Nat} {f : Nat → Option Nat} (he : ws[q0]? = some (a, zO4 E n f)) {i : Int32} (hin : vp_in i n) (hdg : decode cc pc = .ok (.aaload, 1))
    (kk : W p l e R s m args below meth c H locs cells slots Q (F0 m (pc + 1) ls (va_rf (f i.toNatClampNeg) :: rest))) : W p l e R s m args below meth c H locs cells slots Q (F0 m pc ls (.int i :: .ref a :: rest)) :=
  va_aldq X.1.1 X.1.2.1 X.2.1 J.1 q0 1 he rfl hin hdg kk
theorem z_aastN (X : zC E p m c cc nL s args Ts own) (J : zJ E ws s H locs) (q0 : Nat) {a n : Nat} {f : Nat → Option Nat} (he : ws[q0]? = some (a, zO4 E n f)) {i : Int32} (hin : vp_in i n) (hdg : decode cc pc = .ok (.aastore, 1))
    (kk : ∀ (H1 : Heap) (locs1 : List Loc), zJ E (ws.set q0 (a, zO4 E n (va_up f i.toNatClampNeg none))) s H1 locs1 → W p l e R s m args below meth c H1 locs1 cells slots Q (F0 m (pc + 1) ls rest)) : W p l e R s m args below meth c H locs cells slots Q (F0 m pc ls (.null :: .int i :: .ref a :: rest)) :=
  va_astqN X.1.1 X.1.2.1 X.2.1 J.1 J.2.1 J.2.2 q0 1 he rfl hin hdg (fun H1 locs1 hP hD hS => kk H1 locs1 ⟨hP, hD, hS⟩)
theorem z_aast (X : zC E p m c cc nL s args Ts own) (J : zJ E ws s H locs) (q0 qk ci : Nat) {a n v : Nat} {r : vw_C} {vs : List Value} {f : Nat → Option Nat} (he : ws[q0]? = some (a, zO4 E n f)) (hv : ws[qk]? = some (v, .inr (ci, vs))) (hc : vwCl[ci]? = some r) (hca : va_Nw (.castable r.1 "java/lang/Object") s) {i : Int32} (hin : vp_in i n) (hdg : decode cc pc = .ok (.aastore, 1))
    (kk : ∀ (H1 : Heap) (locs1 : List Loc), zJ E (ws.set q0 (a, zO4 E n (va_up f i.toNatClampNeg (some v)))) s H1 locs1 → W p l e R s m args below meth c H1 locs1 cells slots Q (F0 m (pc + 1) ls rest)) : W p l e R s m args below meth c H locs cells slots Q (F0 m pc ls (.ref v :: .int i :: .ref a :: rest)) :=
  va_astqO X.1.1 X.1.2.1 X.2.1 J.1 J.2.1 J.2.2 q0 1 qk ci he rfl hca hv hc hin hdg (fun H1 locs1 hP hD hS => kk H1 locs1 ⟨hP, hD, hS⟩)
theorem z_alenI (X : zC E p m c cc nL s args Ts own) (J : zJ E ws s H locs) (q0 : Nat) {a n : Nat} {f : Nat → Int32} (he : ws[q0]? = some (a, zI4 E n f)) {v : Int32} (hv : Int32.ofNat n = v) (hdg : decode cc pc = .ok (.arraylength, 1))
    (kk : W p l e R s m args below meth c H locs cells slots Q (F0 m (pc + 1) ls (.int v :: rest))) : W p l e R s m args below meth c H locs cells slots Q (F0 m pc ls (.ref a :: rest)) :=
  va_alen X.1.1 X.1.2.1 X.2.1 J.1 q0 0 he rfl hv hdg kk
theorem z_alenO (X : zC E p m c cc nL s args Ts own) (J : zJ E ws s H locs) (q0 : Nat) {a n : Nat} {f : Nat → Option Nat} (he : ws[q0]? = some (a, zO4 E n f)) {v : Int32} (hv : Int32.ofNat n = v) (hdg : decode cc pc = .ok (.arraylength, 1))
    (kk : W p l e R s m args below meth c H locs cells slots Q (F0 m (pc + 1) ls (.int v :: rest))) : W p l e R s m args below meth c H locs cells slots Q (F0 m pc ls (.ref a :: rest)) :=
  va_alen X.1.1 X.1.2.1 X.2.1 J.1 q0 1 he rfl hv hdg kk
theorem z_new (X : zC E p m c cc nL s args Ts own) (J : zJ E ws s H locs) {C : String} {T : u_T} {N ci index : Nat} (hin : ∀ w ∈ u_ws C T N, w ∈ Ts) (ty : Nat → FieldType) (hty : ∀ k, k < N → parseFieldDescriptor (T k).2.2.1 = some (ty k)) (hcl : Cond.classLink own index C ∈ Ts) (hinst : Cond.instantiable C N ∈ Ts) (hini : Cond.initialized C ∈ Ts) (hc : vwCl[ci]? = some (C, T, N)) {fs : List Value} (hfs : ∀ j, j < N → defaultValue (ty j) = vp_V fs j) (hcells : cells + 1 ≤ R.cells) (hslots : slots + N ≤ R.slots) (hdg : decode cc pc = .ok (.new index, 3))
    (kk : ∀ (q : Nat) (H1 : Heap), zJ E (ws ++ [(q, .inr (ci, fs))]) s H1 locs → W p l e R s m args below meth c H1 locs (cells + 1) (slots + N) Q (F0 m (pc + 3) ls (.ref q :: rest))) : W p l e R s m args below meth c H locs cells slots Q (F0 m pc ls rest) :=
  va_new X.1.1 X.1.2.1 X.1.2.2.2.2 hin ty hty X.1.2.2.2.1 (X.1.2.2.2.2 _ hcl) (X.1.2.2.2.2 _ hinst) (X.1.2.2.2.2 _ hini) X.2.1 J.1 J.2.1 J.2.2 (fun q h => Nat.le_trans X.2.2.2 h) hc hfs hcells hslots hdg (fun q H1 hP hD hS => kk q H1 ⟨hP, hD, hS⟩)
theorem z_newa (X : zC E p m c cc nL s args Ts own) (J : zJ E ws s H locs) (harr : Cond.arrayClass .int ∈ Ts) {n : Int32} {N' : Nat} (hn : ¬ n < 0) (hN : n.toNatClampNeg = N') (hbytes : N' * 4 ≤ 536870912) (hcells : cells + 1 ≤ R.cells) (hslots : slots + N' ≤ R.slots) (hdg : decode cc pc = .ok (.newarray .int, 2))
    (kk : ∀ (q : Nat) (H1 : Heap), zJ E (ws ++ [(q, zI4 E N' (fun _ => 0))]) s H1 locs → W p l e R s m args below meth c H1 locs (cells + 1) (slots + N') Q (F0 m (pc + 2) ls (.ref q :: rest))) : W p l e R s m args below meth c H locs cells slots Q (F0 m pc ls (.int n :: rest)) := by
  refine va_newa (atype := .int) (ty := .int) (a0 := (N', .inl (fun _ => 0))) X.1.1 X.1.2.1 (X.1.2.2.2.2 _ harr) rfl X.2.1 J.1 J.2.1 J.2.2 (fun q h => Nat.le_trans X.2.2.2 h) (fun _ => rfl) hn hN hbytes hcells hslots hdg (fun q cA H1 hK hP hD hS => ?_)
  have e1 : s.vm.findClass ("[" ++ FieldType.int.toString) = some E.2.1.1 := (X.2.1.2 0 _ rfl).2
  have e2 : s.vm.findClass ("[" ++ FieldType.int.toString) = some cA := (hK.2 3 (cA, .int) rfl).2
  cases Option.some.inj (e1.symm.trans e2)
  exact kk q H1 ⟨hP, hD, hS⟩
theorem z_newq (X : zC E p m c cc nL s args Ts own) (J : zJ E ws s H locs) {index : Nat} (hcl : Cond.classLink own index "java/lang/Object" ∈ Ts) {n : Int32} {N' : Nat} (hn : ¬ n < 0) (hN : n.toNatClampNeg = N') (hbytes : N' * 4 ≤ 536870912) (hcells : cells + 1 ≤ R.cells) (hslots : slots + N' ≤ R.slots) (hdg : decode cc pc = .ok (.anewarray index, 3))
    (kk : ∀ (q : Nat) (H1 : Heap), zJ E (ws ++ [(q, zO4 E N' (fun _ => none))]) s H1 locs → W p l e R s m args below meth c H1 locs (cells + 1) (slots + N') Q (F0 m (pc + 3) ls (.ref q :: rest))) : W p l e R s m args below meth c H locs cells slots Q (F0 m pc ls (.int n :: rest)) := by
  refine va_newq (C := "java/lang/Object") X.1.1 X.1.2.1 X.1.2.2.2.1 (X.1.2.2.2.2 _ hcl) X.2.2.1.2.2.2.2.1 X.2.1 J.1 J.2.1 J.2.2 (fun q h => Nat.le_trans X.2.2.2 h) hn hN hbytes hcells hslots hdg (fun q cA H1 hK hP hD hS => ?_)
  obtain ⟨-, kA, comp, -, -, -, e1⟩ := X.2.1.2 1 (E.2.1.2.1, .object "java/lang/Object") rfl
  obtain ⟨-, kA', comp', -, -, -, e2⟩ := hK.2 3 (cA, .object "java/lang/Object") rfl
  cases Option.some.inj (e1.symm.trans e2)
  exact kk q H1 ⟨hP, hD, hS⟩
theorem z_cast (X : zC E p m c cc nL s args Ts own) (J : zJ E ws s H locs) (q0 : Nat) {a ci : Nat} {q : vw_C} {fs : List Value} (he : ws[q0]? = some (a, .inr (ci, fs))) (hc : vwCl[ci]? = some q) {index : Nat} (hlink : (Cond.classLink own index q.1).before args s = true) (hdg : decode cc pc = .ok (.checkcast index, 3))
    (kk : W p l e R s m args below meth c H locs cells slots Q (F0 m (pc + 3) ls (.ref a :: rest))) : W p l e R s m args below meth c H locs cells slots Q (F0 m pc ls (.ref a :: rest)) :=
  va_castS X.1.1 X.1.2.1 X.1.2.2.2.1 hlink (X.2.1.1 ci q hc).2 (va_recv X.2.1 J.1 hc he) hdg kk
/-! calls -/
theorem z_preV (X : zC E p m c cc nL s args Ts own) (J : zJ E ws s H locs) {C : String} {b ci q0 : Nat} {q : vw_C} {fs : List Value} {As : List Value} (he : ws[q0]? = some (b, .inr (ci, fs))) (hc : vwCl[ci]? = some q) (hC : q.1 = C) : PreV s H C b (va_Pc (.ref b :: As) (zI E ws)) As :=
  ⟨zPc.blind, hC ▸ va_recv X.2.1 J.1 hc he, fun U hU hW => ⟨rfl, J.I X hU hW.alike⟩⟩
theorem z_preS (X : zC E p m c cc nL s args Ts own) (J : zJ E ws s H locs) {As : List Value} : PreS s H (va_Pc As (zI E ws)) As :=
  ⟨zPc.blind, fun U hU hW => ⟨rfl, J.I X hU hW.alike⟩⟩
theorem z_keep {A0 : Nat → Prop} : ∀ q : Nat, q < H.size → A0 q → A0 q := fun _ _ h => h
/-- what a method that may throw says of its throw: which class, and that the world is as it was -/
abbrev zX (E : zG) (ws : va_W) (px : String → Prop) : String → State → State → Prop := vx_X px (fun nm' nm t => nm' = nm ∧ zI E ws t) (zA E)
section ZCall
variable {y : MethodName} {bytes : ByteArray} {maxL mc ms n index : Nat} {ret : Option FieldType} {wsm : List Cond} {rm : Room} {Qc : Array Value → State → Outcome → State → Prop} {XC : String → State → State → Prop} {free : Addr → Prop} {C : String} {b : Addr} {As : List Value} {a : Array Value}
theorem z_rV (X : zC E p m c cc nL s args Ts own) (J : zJ E ws s H locs) (hM : Met l y wsm rm (va_Pc (.ref b :: As) (zI E ws)) Qc mc ms free) (cw : CallW R s args own C index y bytes maxL ret wsm rm mc ms n) {ci q0 : Nat} {q : vw_C} {fs : List Value} (he : ws[q0]? = some (b, .inr (ci, fs))) (hc : vwCl[ci]? = some q) (hC : q.1 = C)
    (hn : As.length = n) (hls : ls.size = nL) (hst : st0 = As.reverse ++ .ref b :: rest) (hcat : (rest.map fun v => v.category).sum ≤ 8) (hdg : decode cc pc = .ok (.invokevirtual index, 3)) (hf : cells + mc ≤ R.cells ∧ slots + ms ≤ R.slots) :
    va_Run p l e R s m args below meth c H locs cells slots mc ms (F0 m pc ls st0) rest (Qc (Value.ref b :: As).toArray) free :=
  va_runV X.1 hM cw (z_preV X J he hc hC) rfl hn hls hst (lv_room hcat) hdg hf
theorem z_rS (X : zC E p m c cc nL s args Ts own) (J : zJ E ws s H locs) (hM : Met l y wsm rm (va_Pc As (zI E ws)) Qc mc ms free) (cw : CallB R s args own index y bytes maxL ret wsm rm mc ms n ∧ (Cond.static y).before args s = true)
    (hn : As.length = n) (hls : ls.size = nL) (hst : st0 = As.reverse ++ rest) (hcat : (rest.map fun v => v.category).sum ≤ 8) (hdg : decode cc pc = .ok (.invokestatic index, 3)) (hf : cells + mc ≤ R.cells ∧ slots + ms ≤ R.slots) :
    va_Run p l e R s m args below meth c H locs cells slots mc ms (F0 m pc ls st0) rest (Qc As.toArray) free :=
  va_runS X.1 hM cw (z_preS X J) rfl hn hls hst (lv_room hcat) hdg hf
theorem z_rI (X : zC E p m c cc nL s args Ts own) (J : zJ E ws s H locs) (hM : Met l y wsm rm (va_Pc (.ref b :: As) (zI E ws)) Qc mc ms free) (cw : CallB R s args own index y bytes maxL none wsm rm mc ms n ∧ y.name = "<init>" ∧ (Cond.instanceMethod y).before args s = true)
    (hn : As.length = n) (hls : ls.size = nL) (hst : st0 = As.reverse ++ .ref b :: rest) (hcat : (rest.map fun v => v.category).sum ≤ 8) (hdg : decode cc pc = .ok (.invokespecial index, 3)) (hf : cells + mc ≤ R.cells ∧ slots + ms ≤ R.slots) :
    va_Run p l e R s m args below meth c H locs cells slots mc ms (F0 m pc ls st0) rest (Qc (Value.ref b :: As).toArray) free :=
  va_runI X.1 hM cw (z_preS X J) rfl hn hls hst (lv_room hcat) hdg hf
theorem z_xV (X : zC E p m c cc nL s args Ts own) (J : zJ E ws s H locs) (hM : vx_Met l y wsm rm (va_Pc (.ref b :: As) (zI E ws)) Qc XC mc ms free) (cw : CallW R s args own C index y bytes maxL ret wsm rm mc ms n) {ci q0 : Nat} {q : vw_C} {fs : List Value} (he : ws[q0]? = some (b, .inr (ci, fs))) (hc : vwCl[ci]? = some q) (hC : q.1 = C)
    (hn : As.length = n) (hls : ls.size = nL) (hst : st0 = As.reverse ++ .ref b :: rest) (hcat : (rest.map fun v => v.category).sum ≤ 8) (hdg : decode cc pc = .ok (.invokevirtual index, 3)) (hf : cells + mc ≤ R.cells ∧ slots + ms ≤ R.slots) :
    vx_Run p l e R s m args below meth c H locs cells slots mc ms (F0 m pc ls st0) rest (Qc (Value.ref b :: As).toArray) XC free :=
  vx_runV X.1 hM cw (z_preV X J he hc hC) rfl hn hls hst (lv_room hcat) hdg hf
theorem z_xS (X : zC E p m c cc nL s args Ts own) (J : zJ E ws s H locs) (hM : vx_Met l y wsm rm (va_Pc As (zI E ws)) Qc XC mc ms free) (cw : CallB R s args own index y bytes maxL ret wsm rm mc ms n ∧ (Cond.static y).before args s = true)
    (hn : As.length = n) (hls : ls.size = nL) (hst : st0 = As.reverse ++ rest) (hcat : (rest.map fun v => v.category).sum ≤ 8) (hdg : decode cc pc = .ok (.invokestatic index, 3)) (hf : cells + mc ≤ R.cells ∧ slots + ms ≤ R.slots) :
    vx_Run p l e R s m args below meth c H locs cells slots mc ms (F0 m pc ls st0) rest (Qc As.toArray) XC free :=
  vx_runS X.1 hM cw (z_preS X J) rfl hn hls hst (lv_room hcat) hdg hf
theorem z_cr {post : Int32 → Prop} (ru : va_Run p l e R s m args below meth c H locs cells slots 0 0 (F0 m pc ls st0) rest (vp_Si post a) (fun _ => False))
    (kk : ∀ r : Int32, post r → W p l e R s m args below meth c H locs cells slots Q (F0 m (pc + 3) ls (.int r :: rest))) : W p l e R s m args below meth c H locs cells slots Q (F0 m pc ls st0) := vp_callSi ru.run kk
theorem z_crl {post : Int64 → Prop} (ru : va_Run p l e R s m args below meth c H locs cells slots 0 0 (F0 m pc ls st0) rest (vp_Sl post a) (fun _ => False))
    (kk : ∀ r : Int64, post r → W p l e R s m args below meth c H locs cells slots Q (F0 m (pc + 3) ls (.long r :: rest))) : W p l e R s m args below meth c H locs cells slots Q (F0 m pc ls st0) := vp_callSl ru.run kk
theorem z_crd {post : UInt64 → Prop} (ru : va_Run p l e R s m args below meth c H locs cells slots 0 0 (F0 m pc ls st0) rest (vp_Sd post a) (fun _ => False))
    (kk : ∀ r : UInt64, post r → W p l e R s m args below meth c H locs cells slots Q (F0 m (pc + 3) ls (.double r :: rest))) : W p l e R s m args below meth c H locs cells slots Q (F0 m pc ls st0) := vp_callSd ru.run kk
theorem z_crq {post : Option Nat → Prop} (ru : va_Run p l e R s m args below meth c H locs cells slots 0 0 (F0 m pc ls st0) rest (va_Sq post a) (fun _ => False))
    (kk : ∀ r : Option Nat, post r → W p l e R s m args below meth c H locs cells slots Q (F0 m (pc + 3) ls (va_rf r :: rest))) : W p l e R s m args below meth c H locs cells slots Q (F0 m pc ls st0) := va_csq ru.run kk
theorem z_ci (J : zJ E ws s H locs) {post : Int32 → va_W → Prop} (ru : va_Run p l e R s m args below meth c H locs cells slots mc ms (F0 m pc ls st0) rest (va_Qi post (zI E) (zA E) a) (zA E))
    (kk : ∀ (r : Int32) (ws1 : va_W) (H1 : Heap) (locs1 : List Loc), post r ws1 → zJ E ws1 s H1 locs1 → W p l e R s m args below meth c H1 locs1 (cells + mc) (slots + ms) Q (F0 m (pc + 3) ls (.int r :: rest))) : W p l e R s m args below meth c H locs cells slots Q (F0 m pc ls st0) :=
  va_calli ru J.2.2 (fun _ _ h => h) (fun _ h => h) (fun r u t H1 locs1 ht _ hw hB _ _ hS => kk r u H1 locs1 hw (zJ.of ht hS hB))
theorem z_cv (J : zJ E ws s H locs) {post : va_W → Prop} (ru : va_Run p l e R s m args below meth c H locs cells slots mc ms (F0 m pc ls st0) rest (va_Qv post (zI E) (zA E) a) (zA E))
    (kk : ∀ (ws1 : va_W) (H1 : Heap) (locs1 : List Loc), post ws1 → zJ E ws1 s H1 locs1 → W p l e R s m args below meth c H1 locs1 (cells + mc) (slots + ms) Q (F0 m (pc + 3) ls rest)) : W p l e R s m args below meth c H locs cells slots Q (F0 m pc ls st0) :=
  va_callv ru J.2.2 (fun _ _ h => h) (fun _ h => h) (fun u t H1 locs1 ht _ hw hB _ _ hS => kk u H1 locs1 hw (zJ.of ht hS hB))
theorem z_cq (J : zJ E ws s H locs) {post : Option Nat → va_W → Prop} (ru : va_Run p l e R s m args below meth c H locs cells slots mc ms (F0 m pc ls st0) rest (va_Qq post (zI E) (zA E) a) (zA E))
    (kk : ∀ (r : Option Nat) (ws1 : va_W) (H1 : Heap) (locs1 : List Loc), post r ws1 → zJ E ws1 s H1 locs1 → W p l e R s m args below meth c H1 locs1 (cells + mc) (slots + ms) Q (F0 m (pc + 3) ls (va_rf r :: rest))) : W p l e R s m args below meth c H locs cells slots Q (F0 m pc ls st0) :=
  va_callq ru J.2.2 (fun _ _ h => h) (fun _ h => h) (fun r u t H1 locs1 ht _ hw hB _ _ hS => kk r u H1 locs1 hw (zJ.of ht hS hB))
/-- a call that may throw: kx, with the world as it was before -/
theorem z_xi (J : zJ E ws s H locs) {post : Int32 → va_W → Prop} {px : String → Prop} (ru : vx_Run p l e R s m args below meth c H locs cells slots mc ms (F0 m pc ls st0) rest (va_Qi post (zI E) (zA E) a) (zX E ws px) (zA E))
    (kx : ∀ (nm : String) (ce : Cell) (q9 : Addr) (H1 : Heap) (locs1 : List Loc), px nm → zJ E ws s H1 locs1 → H1[q9]? = some ce → ce.vm = .none → s.vm.findClass nm = some ce.cls → vx_W p l e R s m args below meth c H1 locs1 (cells + mc) (slots + ms) Q (F0 m pc ls rest) q9)
    (kk : ∀ (r : Int32) (ws1 : va_W) (H1 : Heap) (locs1 : List Loc), post r ws1 → zJ E ws1 s H1 locs1 → W p l e R s m args below meth c H1 locs1 (cells + mc) (slots + ms) Q (F0 m (pc + 3) ls (.int r :: rest))) : W p l e R s m args below meth c H locs cells slots Q (F0 m pc ls st0) :=
  vx_calli ru J.2.2 (fun _ _ h => h) (fun _ h => h) (fun _ _ h => h) (fun nm ce q9 u t H1 locs1 ht _ hp hB _ _ hS h1 h2 h3 => kx nm ce q9 H1 locs1 (hB.1 ▸ hp) (zJ.of ht hS hB.2) h1 h2 h3)
    (fun r u t H1 locs1 ht _ hw hB _ _ hS => kk r u H1 locs1 hw (zJ.of ht hS hB))
theorem z_xv (J : zJ E ws s H locs) {post : va_W → Prop} {px : String → Prop} (ru : vx_Run p l e R s m args below meth c H locs cells slots mc ms (F0 m pc ls st0) rest (va_Qv post (zI E) (zA E) a) (zX E ws px) (zA E))
    (kx : ∀ (nm : String) (ce : Cell) (q9 : Addr) (H1 : Heap) (locs1 : List Loc), px nm → zJ E ws s H1 locs1 → H1[q9]? = some ce → ce.vm = .none → s.vm.findClass nm = some ce.cls → vx_W p l e R s m args below meth c H1 locs1 (cells + mc) (slots + ms) Q (F0 m pc ls rest) q9)
    (kk : ∀ (ws1 : va_W) (H1 : Heap) (locs1 : List Loc), post ws1 → zJ E ws1 s H1 locs1 → W p l e R s m args below meth c H1 locs1 (cells + mc) (slots + ms) Q (F0 m (pc + 3) ls rest)) : W p l e R s m args below meth c H locs cells slots Q (F0 m pc ls st0) :=
  vx_callv ru J.2.2 (fun _ _ h => h) (fun _ h => h) (fun _ _ h => h) (fun nm ce q9 u t H1 locs1 ht _ hp hB _ _ hS h1 h2 h3 => kx nm ce q9 H1 locs1 (hB.1 ▸ hp) (zJ.of ht hS hB.2) h1 h2 h3)
    (fun u t H1 locs1 ht _ hw hB _ _ hS => kk u H1 locs1 hw (zJ.of ht hS hB))
/-- not caught here: it goes on -/
theorem z_out (X : zC E p m c cc nL s args Ts own) {ws1 : va_W} (J : zJ E ws1 s H locs) {px : String → Prop} {nm : String} {ce : Cell} {q9 : Addr} (htab : ∀ x ∈ c.exceptionTable.toList, False) (hlocks : meth.locks = false) (h1 : H[q9]? = some ce) (h2 : ce.vm = .none) (h3 : s.vm.findClass nm = some ce.cls) (hp : px nm) (hc : cells ≤ mc) (hs : slots ≤ ms) :
    vx_W p l e R s m args below meth c H locs cells slots (vx_MQ below Qc (zX E ws1 px) args s mc ms (zA E)) (F0 m pc ls rest) q9 :=
  vx_out (fun x hx => (htab x hx).elim) hlocks h1 h2 h3 (fun t ht hvm => ⟨nm, hp, ⟨rfl, J.I X ht hvm⟩, J.F ht⟩) J.locs hc hs
end ZCall
end ZR
end
section
/-! ===== rows for arrays of int[] : made, read, written, their length; clones; casts ===== -/
theorem znmI : "[" ++ FieldType.int.toString = "[I" := by decide +kernel
theorem znmA : "[" ++ (FieldType.array .int).toString = "[[I" := by decide +kernel
theorem znmI2 : (FieldType.array .int).toString = "[I" := by decide +kernel
theorem zK.cI {E : zG} {s : State} (h : va_K E.1 vwCl (zT E) s) : s.vm.findClass "[I" = some E.2.1.1 := by
  rw [← znmI]; exact (h.2 0 _ rfl).2
theorem zK.cA {E : zG} {s : State} (h : va_K E.1 vwCl (zT E) s) : s.vm.findClass "[[I" = some E.2.1.2.2 := by
  rw [← znmA]; exact (h.2 2 _ rfl).2
/-- the class of Object[] and that of int[][] are two -/
theorem zK.neOA {E : zG} {s : State} (h : va_K E.1 vwCl (zT E) s) : E.2.1.2.1 ≠ E.2.1.2.2 := fun e => by
  obtain ⟨-, k1, h1, c1, h2⟩ := (h.2 1 _ rfl).1 0 (fun _ => .null)
  obtain ⟨-, k2, h3, c2, h4⟩ := (h.2 2 _ rfl).1 0 (fun _ => .null)
  have h1' : s.vm.classes[E.2.1.2.1]? = some k1 := h1
  have h3' : s.vm.classes[E.2.1.2.2]? = some k2 := h3
  rw [e] at h1'
  cases h1'.symm.trans h3'
  rw [h2] at h4
  cases h4
/-- places of an Object[] and of an int[][] differ -/
theorem zneOA {E : zG} {ws : va_W} {i j a b n m : Nat} {f g : Nat → Option Nat} (hne : E.2.1.2.1 ≠ E.2.1.2.2) (h1 : ws[i]? = some (a, zO4 E n f)) (h2 : ws[j]? = some (b, zA4 E m g)) : i ≠ j := fun e => by
  subst e
  rw [h1] at h2
  exact hne (congrArg (fun z : Nat × va_E => match z.2 with | .inl q => q.1 | .inr _ => E.2.1.2.1) (Option.some.inj h2))
/-- places of int arrays of two lengths differ -/
theorem zneL {E : zG} {ws : va_W} {i j a b n m : Nat} {f g : Nat → Int32} (hne : n ≠ m) (h1 : ws[i]? = some (a, zI4 E n f)) (h2 : ws[j]? = some (b, zI4 E m g)) : i ≠ j := fun e => by
  subst e
  rw [h1] at h2
  exact hne (congrArg (fun z : Nat × va_E => match z.2 with | .inl q => q.2.1 | .inr _ => 0) (Option.some.inj h2))
theorem zAOx {ty : FieldType} {A A2 : Array Value} {U : State} (h : (Cond.arrayOver (.array ty)).before A U = true) : (Cond.arrayOver (.array ty)).before A2 U = true := h
theorem zAO2.use {A : Array Value} {U : State} (h : zAO2 U) : (Cond.arrayOver (.array .int)).before A U = true := zAOx h
section ZARR
variable {p : Program} {l : Launch} {e : Env} {R : Room} {s : State} {m : MethodId} {args : Array Value} {below : List Frame} {meth : Method} {c : Code} {H : Heap} {locs : List Loc} {cells slots : Nat} {Q : State → Prop}
variable {cc : ByteArray} {pc nL : Nat} {ls : Array Slot} {rest st0 : List Value} {ws : va_W} {own : String} {Ts : List Cond} {E : zG}
theorem z_aaldA (X : zC E p m c cc nL s args Ts own) (J : zJ E ws s H locs) (q0 : Nat) {a n : Nat} {f : Nat → Option Nat} (he : ws[q0]? = some (a, zA4 E n f)) {i : Int32} (hin : vp_in i n) (hdg : decode cc pc = .ok (.aaload, 1))
    (kk : W p l e R s m args below meth c H locs cells slots Q (F0 m (pc + 1) ls (va_rf (f i.toNatClampNeg) :: rest))) : W p l e R s m args below meth c H locs cells slots Q (F0 m pc ls (.int i :: .ref a :: rest)) := by
  have hlt : i.toNatClampNeg < n := Nat.not_le.mp fun q => hin (Or.inr q)
  exact W.aald (v := va_rf (f i.toNatClampNeg)) (ty := .array .int) X.1.1 X.1.2.1 (J.1 q0 _ he) ((X.2.1.2 2 _ rfl).1 n (fun j => va_rf (f j))) rfl (fun q => by cases q) (by show ¬ (i < 0 ∨ (arrV _ _ _).slots.size ≤ _); rw [arrV_size]; exact hin) (by show (arrV _ _ _).slots[_]? = _; rw [arrV_read _ _ hlt]) rfl rfl hdg kk
theorem z_alenA (X : zC E p m c cc nL s args Ts own) (J : zJ E ws s H locs) (q0 : Nat) {a n : Nat} {f : Nat → Option Nat} (he : ws[q0]? = some (a, zA4 E n f)) {v : Int32} (hv : Int32.ofNat n = v) (hdg : decode cc pc = .ok (.arraylength, 1))
    (kk : W p l e R s m args below meth c H locs cells slots Q (F0 m (pc + 1) ls (.int v :: rest))) : W p l e R s m args below meth c H locs cells slots Q (F0 m pc ls (.ref a :: rest)) :=
  va_alen X.1.1 X.1.2.1 X.2.1 J.1 q0 2 he rfl hv hdg kk
theorem z_aastA (X : zC E p m c cc nL s args Ts own) (J : zJ E ws s H locs) (q0 qk : Nat) {a n v k : Nat} {f : Nat → Option Nat} {g : Nat → Int32} (he : ws[q0]? = some (a, zA4 E n f)) (hv : ws[qk]? = some (v, zI4 E k g)) {i : Int32} (hin : vp_in i n) (hdg : decode cc pc = .ok (.aastore, 1))
    (kk : ∀ (H1 : Heap) (locs1 : List Loc), zJ E (ws.set q0 (a, zA4 E n (va_up f i.toNatClampNeg (some v)))) s H1 locs1 → W p l e R s m args below meth c H1 locs1 cells slots Q (F0 m (pc + 1) ls rest)) : W p l e R s m args below meth c H locs cells slots Q (F0 m pc ls (.ref v :: .int i :: .ref a :: rest)) := by
  have hlt : i.toNatClampNeg < n := Nat.not_le.mp fun q => hin (Or.inr q)
  have h0 : ¬ i < 0 := fun q => hin (Or.inl q)
  obtain ⟨comp, cA, kA, h1, h2, h3, h4, h5⟩ := arrayOverA_spec X.2.2.1.2.2.2.2.2.2.2.1
  have e1 : E.2.1.2.2 = cA := by
    have h9 := zK.cA X.2.1
    rw [znmA] at h5
    exact Option.some.inj (h9.symm.trans h5)
  have e2 : E.2.1.1 = comp := by
    have h9 := zK.cI X.2.1
    rw [znmI2] at h1
    exact Option.some.inj (h9.symm.trans h1)
  subst e1 e2
  obtain ⟨kE, hkE, -⟩ := Vm.findClass_spec h1
  refine W.aast (t := .array .int) (cell := vp_cell E.2.1.2.2 (n, .inr (.inr (.inr (.inr f))))) (cv := vp_cell E.2.1.1 (k, .inl g)) (comp := E.2.1.1) X.1.1 X.1.2.1 (J.1 q0 _ he) (fun q h => by cases h) (fun h => by cases h) h3 h4 rfl hkE ⟨h0, by show _ < (arrV _ _ _).slots.size; rw [arrV_size]; exact hlt⟩ (J.1 qk _ hv) (fun q h => by cases h) hkE (va_asg _ _) rfl rfl hdg fun H1 e z oq => ?_
  refine kk H1 _ ⟨J.1.set J.2.1 he ?_ oq, J.2.1.set he, J.2.2.put z oq (J.2.1.2 q0 _ he)⟩
  show H1[a]? = some (vp_cell _ _)
  rw [e]
  rw [vp_cell_q, vp_cell_q, arrV_store]
  congr 2
  funext q
  by_cases hq : q = i.toNatClampNeg
  · subst hq
    simp [updV, va_up, va_rf]
  · simp [updV, va_up, hq]
theorem z_newqA (X : zC E p m c cc nL s args Ts own) (J : zJ E ws s H locs) {index : Nat} (hcl : Cond.classLink own index "[I" ∈ Ts) {n : Int32} {N' : Nat} (hn : ¬ n < 0) (hN : n.toNatClampNeg = N') (hbytes : N' * 4 ≤ 536870912) (hcells : cells + 1 ≤ R.cells) (hslots : slots + N' ≤ R.slots) (hdg : decode cc pc = .ok (.anewarray index, 3))
    (kk : ∀ (q : Nat) (H1 : Heap), zJ E (ws ++ [(q, zA4 E N' (fun _ => none))]) s H1 locs → W p l e R s m args below meth c H1 locs (cells + 1) (slots + N') Q (F0 m (pc + 3) ls (.ref q :: rest))) : W p l e R s m args below meth c H locs cells slots Q (F0 m pc ls (.int n :: rest)) := by
  subst hN
  refine W.anewA (t := .int) X.1.1 X.1.2.1 X.1.2.2.2.1 (by rw [znmI2]; exact X.1.2.2.2.2 _ hcl) (zAO2.use X.2.2.1.2.2.2.2.2.2.2.1) rfl hdg rfl hn hbytes hcells hslots fun cA kA comp f1 f2 f3 f4 => ?_
  have e1 : E.2.1.2.2 = cA := by
    have h9 := zK.cA X.2.1
    rw [znmA] at f1
    exact Option.some.inj (h9.symm.trans f1)
  subst e1
  obtain ⟨hP, hD, hS⟩ := J
  generalize hH1 : H.push ({ cls := E.2.1.2.2, slots := Array.replicate n.toNatClampNeg .null, vm := .none } : Cell) = H1
  have z1 : H1.size = H.size + 1 := by rw [← hH1, Array.size_push]
  have e1 : H1[H.size]? = some (arrV E.2.1.2.2 n.toNatClampNeg (fun _ => .null)) := by rw [← hH1, Array.getElem?_push_size, ← arrV_new]
  have o1 : ∀ q : Nat, q < H.size → H1[q]? = H[q]? := fun q hq => by rw [← hH1, Array.getElem?_push, if_neg (Nat.ne_of_lt hq)]
  have hk : ∀ (k : Nat) (x : Nat × va_E), ws[k]? = some x → H1[x.1]? = H[x.1]? := fun k x hx => o1 x.1 ((hP k x hx).lt)
  refine kk H.size H1 ⟨(hP.kept hk).app (fun k x hx => ?_), hD.push hP rfl (Nat.le_trans X.2.2.2 hS.1), ⟨Nat.le_trans hS.1 (by omega), fun x h1 h2 => (o1 x (Nat.lt_of_lt_of_le h1 hS.1)).trans (hS.2.1 x h1 h2), hS.2.2⟩⟩
  have hz : k < 1 := (List.getElem?_eq_some_iff.mp hx).1
  rw [show k = 0 by omega] at hx
  cases hx
  show H1[H.size]? = some (vp_cell _ _)
  rw [vp_cell_q]
  exact e1
theorem z_castI (X : zC E p m c cc nL s args Ts own) (J : zJ E ws s H locs) (q0 : Nat) {a n : Nat} {f : Nat → Int32} (he : ws[q0]? = some (a, zI4 E n f)) {index : Nat} (hlink : Cond.classLink own index "[I" ∈ Ts) (hdg : decode cc pc = .ok (.checkcast index, 3))
    (kk : W p l e R s m args below meth c H locs cells slots Q (F0 m (pc + 3) ls (.ref a :: rest))) : W p l e R s m args below meth c H locs cells slots Q (F0 m pc ls (.ref a :: rest)) :=
  va_castA X.1.1 X.1.2.1 X.1.2.2.2.1 (X.1.2.2.2.2 _ hlink) J.1 q0 he (zK.cI X.2.1) hdg kk
theorem z_castAA (X : zC E p m c cc nL s args Ts own) (J : zJ E ws s H locs) (q0 : Nat) {a n : Nat} {f : Nat → Option Nat} (he : ws[q0]? = some (a, zA4 E n f)) {index : Nat} (hlink : Cond.classLink own index "[[I" ∈ Ts) (hdg : decode cc pc = .ok (.checkcast index, 3))
    (kk : W p l e R s m args below meth c H locs cells slots Q (F0 m (pc + 3) ls (.ref a :: rest))) : W p l e R s m args below meth c H locs cells slots Q (F0 m pc ls (.ref a :: rest)) :=
  va_castA X.1.1 X.1.2.1 X.1.2.2.2.1 (X.1.2.2.2.2 _ hlink) J.1 q0 he (zK.cA X.2.1) hdg kk
/-- the words of a clone -/
def zcl (own : String) (index : Nat) (ad : String) : List Cond := [Cond.methodLink own index ⟨ad, "clone", "()Ljava/lang/Object;"⟩, .sameMethod ad "java/lang/Object" "clone" "()Ljava/lang/Object;", .native ⟨"java/lang/Object", "clone", "()Ljava/lang/Object;"⟩, .instanceMethod ⟨"java/lang/Object", "clone", "()Ljava/lang/Object;"⟩, .selects ad ⟨ad, "clone", "()Ljava/lang/Object;"⟩ ⟨"java/lang/Object", "clone", "()Ljava/lang/Object;"⟩]
theorem z_cloneI (X : zC E p m c cc nL s args Ts own) (J : zJ E ws s H locs) (hls : ls.size = nL) (q0 : Nat) {a n : Nat} {f : Nat → Int32} (he : ws[q0]? = some (a, zI4 E n f)) {index : Nat} (hw : ∀ w ∈ zcl own index "[I", w ∈ Ts)
    (hframes : 1 ≤ R.frames) (hlocals : (rest.map fun v => v.category).sum + 14 ≤ R.locals) (hcells : cells + 1 ≤ R.cells) (hslots : slots + n ≤ R.slots) (hdg : decode cc pc = .ok (.invokevirtual index, 3))
    (kk : ∀ (q : Nat) (H1 : Heap), zJ E (ws ++ [(q, zI4 E n f)]) s H1 locs → W p l e R s m args below meth c H1 locs (cells + 1) (slots + n) Q (F0 m (pc + 3) ls (.ref q :: rest))) : W p l e R s m args below meth c H locs cells slots Q (F0 m pc ls (.ref a :: rest)) := by
  have hts := X.1.2.2.2.2
  refine va_clone (ad := "[I") (ty := .int) (x := (n, .inl f)) X.1.1 X.1.2.1 (X.1.2.2.1.trans hls.symm) X.1.2.2.2.1 (hts _ (hw _ (by simp [zcl]))) (hts _ (hw _ (by simp [zcl]))) (hts _ (hw _ (by simp [zcl]))) (hts _ (hw _ (by simp [zcl]))) (hts _ (hw _ (by simp [zcl]))) X.2.2.1.2.2.2.2.2.2.2.2.1 X.2.1 J.1 J.2.1 J.2.2 (fun q h => Nat.le_trans X.2.2.2 h) q0 0 he rfl (zK.cI X.2.1) (va_fit (F := fun j => .int (f j)) (fun i hi => rfl)) hframes hlocals hcells hslots hdg (fun q H1 hK hP hD hS => kk q H1 ⟨hP, hD, hS⟩)
theorem z_cloneA (X : zC E p m c cc nL s args Ts own) (J : zJ E ws s H locs) (hls : ls.size = nL) (q0 : Nat) {a n : Nat} {f : Nat → Option Nat} (he : ws[q0]? = some (a, zA4 E n f)) {index : Nat} (hw : ∀ w ∈ zcl own index "[[I", w ∈ Ts)
    (hframes : 1 ≤ R.frames) (hlocals : (rest.map fun v => v.category).sum + 14 ≤ R.locals) (hcells : cells + 1 ≤ R.cells) (hslots : slots + n ≤ R.slots) (hdg : decode cc pc = .ok (.invokevirtual index, 3))
    (kk : ∀ (q : Nat) (H1 : Heap), zJ E (ws ++ [(q, zA4 E n f)]) s H1 locs → W p l e R s m args below meth c H1 locs (cells + 1) (slots + n) Q (F0 m (pc + 3) ls (.ref q :: rest))) : W p l e R s m args below meth c H locs cells slots Q (F0 m pc ls (.ref a :: rest)) := by
  have hts := X.1.2.2.2.2
  refine va_clone (ad := "[[I") (ty := .array .int) (x := (n, .inr (.inr (.inr (.inr f))))) X.1.1 X.1.2.1 (X.1.2.2.1.trans hls.symm) X.1.2.2.2.1 (hts _ (hw _ (by simp [zcl]))) (hts _ (hw _ (by simp [zcl]))) (hts _ (hw _ (by simp [zcl]))) (hts _ (hw _ (by simp [zcl]))) (hts _ (hw _ (by simp [zcl]))) X.2.2.1.2.2.2.2.2.2.2.2.2 X.2.1 J.1 J.2.1 J.2.2 (fun q h => Nat.le_trans X.2.2.2 h) q0 2 he rfl (zK.cA X.2.1) (va_fit (F := fun j => va_rf (f j)) (fun i hi => by cases f i <;> rfl)) hframes hlocals hcells hslots hdg (fun q H1 hK hP hD hS => kk q H1 ⟨hP, hD, hS⟩)
end ZARR
end
section
/-! ===== an array of 20 rows of 20 ints, made at once ===== -/
theorem zouter (c : ClassId) (N h0 : Nat) : ∀ i, Jvm.Free.Multi.outerC c N h0 i = arrV c N (fun j => va_rf (if j < i then some (h0 + 1 + j) else none))
  | 0 => by
    show ({ cls := c, slots := Array.replicate N .null, vm := .none } : Cell) = _
    rw [arrV_new]
    congr 1
  | i + 1 => by
    show (Jvm.Free.Multi.outerC c N h0 i).setSlot i (.ref (h0 + 1 + i)) = _
    rw [zouter c N h0 i, arrV_store]
    congr 1
    funext j
    unfold updV
    by_cases h : j = i
    · subst h
      rw [if_pos rfl, if_pos (Nat.lt_succ_self _)]
      rfl
    · rw [if_neg h]
      dsimp only
      by_cases h2 : j < i
      · rw [if_pos h2, if_pos (by omega)]
      · rw [if_neg h2, if_neg (by omega)]
section ZMU
variable {p : Program} {l : Launch} {e : Env} {R : Room} {s : State} {m : MethodId} {args : Array Value} {below : List Frame} {meth : Method} {c : Code} {H : Heap} {locs : List Loc} {cells slots : Nat} {Q : State → Prop}
variable {cc : ByteArray} {pc nL : Nat} {ls : Array Slot} {rest st0 : List Value} {ws : va_W} {own : String} {Ts : List Cond} {E : zG}
theorem z_multi (X : zC E p m c cc nL s args Ts own) (J : zJ E ws s H locs) {index : Nat} (hcl : Cond.classLink own index "[[I" ∈ Ts) (harr : Cond.arrayClass .int ∈ Ts) (hcells : cells + 21 ≤ R.cells) (hslots : slots + 420 ≤ R.slots) (hdg : decode cc pc = .ok (.multianewarray index 2, 4))
    (kk : ∀ (q : Nat) (ra : Nat → Nat) (ws1 : va_W) (H1 : Heap), ws1.length = ws.length + 21 → zK [] ws ws1 → ws1[ws.length]? = some (q, zA4 E 20 (fun j => if j < 20 then some (ra j) else none)) → (∀ r, r < 20 → ws1[ws.length + 1 + r]? = some (ra r, zI4 E 20 (fun _ => 0))) → zJ E ws1 s H1 locs →
      W p l e R s m args below meth c H1 locs (cells + 21) (slots + 420) Q (F0 m (pc + 4) ls (.ref q :: rest))) : W p l e R s m args below meth c H locs cells slots Q (F0 m pc ls (.int 20 :: .int 20 :: rest)) := by
  intro T hT X9
  obtain ⟨hP, hD, hS⟩ := J
  subst hT
  have e20 : (20 : Int32).toNatClampNeg = 20 := by decide
  obtain ⟨vm1, cA, comp, hW, hfA, hfC, -, -, X1, step⟩ := X9.multianewarray2F (ty := .int) (n := 20) (k := 20) (rest := rest) X.1.1 X.1.2.2.2.1 (by rw [znmA]; exact X.1.2.2.2.2 _ hcl) (zAO2.use X.2.2.1.2.2.2.2.2.2.2.1) (X.1.2.2.2.2 _ harr) (g := F0 m pc ls (.int 20 :: .int 20 :: rest)) rfl (by rw [X.1.2.1]; exact hdg) rfl (by decide) (by decide) (by decide) (by decide) (by decide) (by decide) (by decide) (by rw [e20]; exact hcells) (by rw [e20]; exact hslots)
  rw [e20] at X1 step
  rw [znmA] at hfA
  rw [znmI2] at hfC
  have e1 : E.2.1.2.2 = cA := Option.some.inj ((zK.cA X.2.1).symm.trans hfA)
  have e2 : E.2.1.1 = comp := Option.some.inj ((zK.cI X.2.1).symm.trans hfC)
  subst e1 e2
  have hf := Jvm.Free.Multi.fill_facts (T.setVm vm1) E.2.1.2.2 E.2.1.1 20 20 (defaultValue .int) 20
  generalize hF : Jvm.Free.Multi.fill (T.setVm vm1) E.2.1.2.2 E.2.1.1 20 20 (defaultValue .int) 20 = F at X1 step hf
  obtain ⟨f1, f2, -, -⟩ := hf
  have z0 : (T.setVm vm1).heap = T.heap := rfl
  rw [z0] at f1 f2
  rw [zouter] at f2
  have fo : ∀ a : Nat, a < T.heap.size → F.heap[a]? = T.heap[a]? := fun a ha => by rw [← hF]; exact Jvm.Free.Multi.fill_old (T.setVm vm1) _ _ _ _ _ ha 20
  have fi : ∀ j : Nat, j < 20 → F.heap[T.heap.size + 1 + j]? = some (arrV E.2.1.1 20 (fun _ => .int 0)) := fun j hj => by
    rw [← hF]
    have h9 := Jvm.Free.Multi.fill_inner (T.setVm vm1) E.2.1.2.2 E.2.1.1 20 20 (defaultValue .int) 20 j hj
    rw [z0] at h9
    rw [h9, ← arrV_new]
    rfl
  let more : va_W := (T.heap.size, zA4 E 20 (fun j => if j < 20 then some (T.heap.size + 1 + j) else none)) :: (List.range 20).map (fun j => (T.heap.size + 1 + j, zI4 E 20 (fun _ => 0)))
  have hm0 : more[0]? = some (T.heap.size, zA4 E 20 (fun j => if j < 20 then some (T.heap.size + 1 + j) else none)) := rfl
  have hm1 : ∀ r, r < 20 → more[1 + r]? = some (T.heap.size + 1 + r, zI4 E 20 (fun _ => 0)) := fun r hr => by
    rw [Nat.add_comm 1 r]
    show ((List.range 20).map (fun j => ((T.heap.size + 1 + j, zI4 E 20 (fun _ => 0)) : Nat × va_E)))[r]? = _
    rw [List.getElem?_map, List.getElem?_range hr]
    rfl
  have hml : more.length = 21 := by simp [more]
  have hmk : ∀ (k : Nat) (x : Nat × va_E), more[k]? = some x → va_at E.1 vwCl x F.heap ∧ x.1 = T.heap.size + k ∧ k < 21 := fun k x hx => by
    have hk : k < 21 := by rw [← hml]; exact (List.getElem?_eq_some_iff.mp hx).1
    rcases Nat.eq_zero_or_pos k with rfl | q
    · rw [hm0] at hx
      cases hx
      exact ⟨by show F.heap[T.heap.size]? = some (vp_cell _ _); rw [vp_cell_q]; exact f2, rfl, hk⟩
    · obtain ⟨r, rfl⟩ : ∃ r, k = 1 + r := ⟨k - 1, by omega⟩
      rw [hm1 r (by omega)] at hx
      cases hx
      exact ⟨by show F.heap[T.heap.size + 1 + r]? = some (vp_cell _ _); rw [vp_cell_i]; exact fi r (by omega), by show T.heap.size + 1 + r = _; omega, hk⟩
  have hP1 : va_P E.1 vwCl (ws ++ more) F.heap := (hP.kept (fun k x hx => fo x.1 ((hP k x hx).lt))).app (fun k x hx => (hmk k x hx).1)
  have hold : ∀ (k : Nat) (x : Nat × va_E), ws[k]? = some x → x.1 < T.heap.size := fun k x hx => (hP k x hx).lt
  have hD1 : va_D (zA E) (ws ++ more) := by
    refine ⟨fun i j x y hi hj hxy => ?_, fun k x hx => ?_⟩
    · rcases Nat.lt_or_ge i ws.length with qi | qi <;> rcases Nat.lt_or_ge j ws.length with qj | qj
      · rw [List.getElem?_append_left qi] at hi
        rw [List.getElem?_append_left qj] at hj
        exact hD.1 i j x y hi hj hxy
      · rw [List.getElem?_append_left qi] at hi
        rw [List.getElem?_append_right qj] at hj
        have h1 := hold _ _ hi
        have h2 := (hmk _ _ hj).2.1
        omega
      · rw [List.getElem?_append_right qi] at hi
        rw [List.getElem?_append_left qj] at hj
        have h1 := hold _ _ hj
        have h2 := (hmk _ _ hi).2.1
        omega
      · rw [List.getElem?_append_right qi] at hi
        rw [List.getElem?_append_right qj] at hj
        have h1 := (hmk _ _ hi).2.1
        have h2 := (hmk _ _ hj).2.1
        omega
    · rcases Nat.lt_or_ge k ws.length with q | q
      · rw [List.getElem?_append_left q] at hx
        exact hD.2 k x hx
      · rw [List.getElem?_append_right q] at hx
        show E.2.2.2 ≤ x.1
        have h2 := (hmk _ _ hx).2.1
        have h3 := hS.1
        have h4 := X.2.2.2
        omega
  have hS1 : va_S (zA E) s.heap F.heap locs := ⟨Nat.le_trans hS.1 (by omega), fun q h1 h2 => (fo q (Nat.lt_of_lt_of_le h1 hS.1)).trans (hS.2.1 q h1 h2), hS.2.2⟩
  obtain ⟨t, a1, b1⟩ := kk T.heap.size (fun j => T.heap.size + 1 + j) (ws ++ more) F.heap (by rw [List.length_append, hml]) zK.app
    (by rw [List.getElem?_append_right (Nat.le_refl _), Nat.sub_self]; exact hm0)
    (fun r hr => by rw [List.getElem?_append_right (by omega), show ws.length + 1 + r - ws.length = 1 + r by omega]; exact hm1 r hr)
    ⟨hP1, hD1, hS1⟩ F rfl X1
  exact ⟨t, step t a1, b1⟩
end ZMU
end
