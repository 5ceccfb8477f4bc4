/-! ===== base: one world for all methods; contracts speak of any world that holds some cells at some places ===== -/
/-- tables, the classes of int[], Object[], int[][], the address of ArrayList's shared empty array, the first address that is ours, the script (its address, its length, what it holds) -/
abbrev zG : Type := va_G × (ClassId × ClassId × ClassId) × Nat × (Nat × (Nat × Nat × (Nat → Int32)))
abbrev zT (E : zG) : List (ClassId × FieldType) := [(E.2.1.1, .int), (E.2.1.2.1, .object "java/lang/Object"), (E.2.1.2.2, .array .int)]
abbrev zA (E : zG) : Nat → Prop := fun q => E.2.2.2.1 ≤ q
abbrev zI4 (E : zG) (n : Nat) (f : Nat → Int32) : va_E := .inl (E.2.1.1, n, .inl f)
abbrev zO4 (E : zG) (n : Nat) (f : Nat → Option Nat) : va_E := .inl (E.2.1.2.1, n, .inr (.inr (.inr (.inr f))))
abbrev zA4 (E : zG) (n : Nat) (f : Nat → Option Nat) : va_E := .inl (E.2.1.2.2, n, .inr (.inr (.inr (.inr f))))
/-- arrays of int[] can be made -/
def zAO2 (U : State) : Prop := (Cond.arrayOver (.array .int)).before #[] U = true
theorem zAO2.moved {u U : State} (hvm : u.vm.Alike U.vm) (h : zAO2 u) : zAO2 U := by
  obtain ⟨comp, c, k, h1, h2, h3, h4, h5⟩ := arrayOverA_spec h
  obtain ⟨k', hk', he⟩ := hvm.2.2 _ _ h3
  have hi : (U.vm.classes.findIdx? fun (x : Class) => match x.kind with | .array component _ => component == comp | _ => false) = some c := by
    rw [hvm.findIdx?_eq _ (fun _ => rfl)]
    exact h2
  have hkind : k'.kind = .array comp (.array .int) := by rw [he]; exact h4
  have f1 : U.vm.findClass (FieldType.array .int).toString = some comp := by rw [hvm.findClass]; exact h1
  have f2 : U.vm.findClass ("[" ++ (FieldType.array .int).toString) = some c := by rw [hvm.findClass]; exact h5
  unfold zAO2 Cond.before Cond.holds
  simp only [Cond.value]
  rw [f1, Option.bind_some]
  refine (congrArg (fun o : Option Nat => (o.bind (fun c => (U.vm.classes[c]?).map fun (k : Class) => match k.kind with | .array _ ty => decide (ty = FieldType.array .int) && decide (U.vm.findClass ("[" ++ (FieldType.array .int).toString) = some c) | _ => false) == some true)) hi).trans ?_
  simp [hk', hkind, f2]
/-- the statics, which nobody writes, and what the tables say of classes -/
def zS (E : zG) (U : State) (H : Heap) : Prop :=
  va_Z "java/util/ArrayList" "DEFAULTCAPACITY_EMPTY_ELEMENTDATA" "[Ljava/lang/Object;" (.ref E.2.2.1) (zA E) U H ∧ va_T (.object "java/lang/Object") E.2.2.1 0 (fun _ => .null) (zA E) U H ∧
  vx_Zq Bundle.tN "UNASSIGNED_STACK" Bundle.steD (zA E) U H ∧ vx_Zq Bundle.tN "SUPPRESSED_SENTINEL" Bundle.listD (zA E) U H ∧ va_AO "java/lang/Object" U ∧ va_Nw (.castable RX0 "java/lang/Object") U ∧ va_Nw (.castable RX2 "java/lang/Object") U ∧ zAO2 U ∧ va_Nw (.castable "[I" "java/lang/Cloneable") U ∧ va_Nw (.castable "[[I" "java/lang/Cloneable") U ∧ va_T .int E.2.2.2.2.1 E.2.2.2.2.2.1 (fun j => .int (E.2.2.2.2.2.2 j)) (zA E) U H
theorem zNw {C T : String} {u U : State} (hvm : u.vm.Alike U.vm) (h : va_Nw (.castable C T) u) : va_Nw (.castable C T) U := va_tabs rfl (rfl : (u.setVm U.vm).vm = U.vm) (by rw [Cond.castable_setVm hvm]; exact h)
theorem zS.moved {E : zG} {u U : State} {H : Heap} (hvm : u.vm.Alike U.vm) (h : zS E u H) : zS E U H :=
  ⟨va_Z.moved hvm h.1, va_T.moved hvm h.2.1, vx_Zq.moved hvm h.2.2.1, vx_Zq.moved hvm h.2.2.2.1, va_AO.moved hvm h.2.2.2.2.1, zNw hvm h.2.2.2.2.2.1, zNw hvm h.2.2.2.2.2.2.1, zAO2.moved hvm h.2.2.2.2.2.2.2.1, zNw hvm h.2.2.2.2.2.2.2.2.1, zNw hvm h.2.2.2.2.2.2.2.2.2.1, va_T.moved hvm h.2.2.2.2.2.2.2.2.2.2⟩
theorem zS.kept {E : zG} {U : State} {H H1 : Heap} (h : zS E U H) (hq : ∀ a : Nat, a < H.size → ¬ zA E a → H1[a]? = H[a]?) : zS E U H1 :=
  ⟨va_Z.kept h.1 hq, va_T.kept h.2.1 hq, vx_Zq.kept h.2.2.1 hq, vx_Zq.kept h.2.2.2.1 hq, h.2.2.2.2.1, h.2.2.2.2.2.1, h.2.2.2.2.2.2.1, h.2.2.2.2.2.2.2.1, h.2.2.2.2.2.2.2.2.1, h.2.2.2.2.2.2.2.2.2.1, va_T.kept h.2.2.2.2.2.2.2.2.2.2 hq⟩
/-- a state that holds the world ws -/
def zI (E : zG) (ws : va_W) (U : State) : Prop := E.2.2.2.1 ≤ U.heap.size ∧ va_P E.1 vwCl ws U.heap ∧ va_K E.1 vwCl (zT E) U ∧ va_D (zA E) ws ∧ zS E U U.heap
theorem zI.blind {E : zG} {ws : va_W} {U : State} {g : JFrame} {mk : MethodId} {a : Array Value} (h : zI E ws U) : zI E ws (U.calling g mk a) :=
  ⟨h.1, h.2.1, va_K.moved (u := U) (U := U.calling g mk a) (Vm.Alike.refl U.vm) h.2.2.1, h.2.2.2.1, zS.moved (u := U) (U := U.calling g mk a) (Vm.Alike.refl U.vm) h.2.2.2.2⟩
theorem zPc.blind {E : zG} {ws : va_W} {av : List Value} : FrameBlind (va_Pc av (zI E ws)) := fun _ _ _ _ q => ⟨q.1, q.2.blind⟩
/-- what stays the same in a method's walk -/
def zC (E : zG) (p : Program) (m : MethodId) (c : Code) (cc : ByteArray) (nL : Nat) (s : State) (args : Array Value) (Ts : List Cond) (own : String) : Prop :=
  CallFix p m c cc nL s args Ts own ∧ va_K E.1 vwCl (zT E) s ∧ zS E s s.heap ∧ E.2.2.2.1 ≤ s.heap.size
/-- the world of a walk, here -/
def zJ (E : zG) (ws : va_W) (s : State) (H : Heap) (locs : List Loc) : Prop := va_P E.1 vwCl ws H ∧ va_D (zA E) ws ∧ va_S (zA E) s.heap H locs
theorem zI.J {E : zG} {ws : va_W} {s : State} (h : zI E ws s) : zJ E ws s s.heap [] := ⟨h.2.1, h.2.2.2.1, va_S.rf⟩
theorem zJ.I {E : zG} {p : Program} {m : MethodId} {c : Code} {cc : ByteArray} {nL : Nat} {s : State} {args : Array Value} {Ts : List Cond} {own : String} {ws : va_W} {H : Heap} {locs : List Loc}
    (X : zC E p m c cc nL s args Ts own) (J : zJ E ws s H locs) {U : State} (hU : U.heap = H) (hvm : s.vm.Alike U.vm) : zI E ws U := by
  obtain ⟨-, hK, hZ, hb⟩ := X
  obtain ⟨hP, hD, hS⟩ := J
  refine ⟨by rw [hU]; exact Nat.le_trans hb hS.1, by rw [hU]; exact hP, va_K.moved hvm hK, hD, ?_⟩
  rw [hU]
  exact zS.moved hvm (hZ.kept hS.2.1)
theorem zJ.of {E : zG} {ws1 : va_W} {s t : State} {H1 : Heap} {locs1 : List Loc} (ht : t.heap = H1) (hS : va_S (zA E) s.heap H1 locs1) (h : zI E ws1 t) : zJ E ws1 s H1 locs1 :=
  ⟨by rw [← ht]; exact h.2.1, h.2.2.2.1, hS⟩
theorem zJ.locs {E : zG} {ws : va_W} {s : State} {H : Heap} {locs : List Loc} (J : zJ E ws s H locs) : ∀ q ∈ locs, zA E q.base := J.2.2.2.2
theorem zJ.F {E : zG} {ws : va_W} {s t : State} {H : Heap} {locs : List Loc} (J : zJ E ws s H locs) (ht : t.heap = H) : va_F (zA E) s t := J.2.2.F ht
theorem zarr_congr {cI : ClassId} {N : Nat} {f g : Nat → Value} (h : ∀ j, j < N → f j = g j) : arrV cI N f = arrV cI N g := by
  unfold arrV
  congr 1
  exact congrArg Array.ofFn (funext fun j => h j.1 j.2)
/-- a row of ints is what stands in its places -/
theorem zJ.congr {E : zG} {ws : va_W} {s : State} {H : Heap} {locs : List Loc} (J : zJ E ws s H locs) (q0 : Nat) {a n : Nat} {f g : Nat → Int32} (he : ws[q0]? = some (a, zI4 E n f)) (hfg : ∀ j, j < n → f j = g j) : zJ E (ws.set q0 (a, zI4 E n g)) s H locs := by
  obtain ⟨hP, hD, hS⟩ := J
  refine ⟨hP.set hD he ?_ (fun _ _ => rfl), hD.set he, hS⟩
  have h : H[a]? = some (vp_cell E.2.1.1 (n, .inl f)) := hP q0 _ he
  show H[a]? = some (vp_cell E.2.1.1 (n, .inl g))
  rw [h]
  congr 1
  show arrV _ n (fun j => .int (f j)) = arrV _ n (fun j => .int (g j))
  exact zarr_congr (fun j hj => by rw [hfg j hj])
/-- what stands at other places stays, and nothing goes -/
def zK (S : List Nat) (ws ws' : va_W) : Prop := ws.length ≤ ws'.length ∧ ∀ (p : Nat) (e : Nat × va_E), p ∉ S → ws[p]? = some e → ws'[p]? = some e
theorem zK.rf {S : List Nat} {ws : va_W} : zK S ws ws := ⟨Nat.le_refl _, fun _ _ _ h => h⟩
theorem zK.trans {S : List Nat} {w1 w2 w3 : va_W} (h1 : zK S w1 w2) (h2 : zK S w2 w3) : zK S w1 w3 := ⟨Nat.le_trans h1.1 h2.1, fun p e hp h => h2.2 p e hp (h1.2 p e hp h)⟩
theorem zK.mono {S S' : List Nat} {w1 w2 : va_W} (h : zK S w1 w2) (hs : ∀ p, p ∈ S → p ∈ S') : zK S' w1 w2 := ⟨h.1, fun p e hp h' => h.2 p e (fun q => hp (hs p q)) h'⟩
theorem zK.set {S : List Nat} {ws : va_W} {q : Nat} {e : Nat × va_E} (h : q ∈ S) : zK S ws (ws.set q e) := ⟨by rw [List.length_set]; exact Nat.le_refl _, fun p x hp hx => by
  rw [List.getElem?_set_ne (fun z => hp (by rw [← z]; exact h))]
  exact hx⟩
theorem zK.setNew {S : List Nat} {w0 ws : va_W} {q : Nat} {e : Nat × va_E} (h : zK S w0 ws) (hq : w0.length ≤ q) : zK S w0 (ws.set q e) := ⟨by rw [List.length_set]; exact h.1, fun p x hp hx => by
  have hl := (List.getElem?_eq_some_iff.mp hx).1
  rw [List.getElem?_set_ne (by omega)]
  exact h.2 p x hp hx⟩
theorem zK.app {S : List Nat} {ws more : va_W} : zK S ws (ws ++ more) := ⟨by rw [List.length_append]; omega, fun p x _ hx => by
  rw [List.getElem?_append_left (List.getElem?_eq_some_iff.mp hx).1]
  exact hx⟩
theorem zset_eq {ws : va_W} {q : Nat} {e e' : Nat × va_E} (h : ws[q]? = some e) : (ws.set q e')[q]? = some e' := List.getElem?_set_self (List.getElem?_eq_some_iff.mp h).1
theorem zset_ne {ws : va_W} {q r : Nat} {e e' : Nat × va_E} (hne : q ≠ r) (h : ws[r]? = some e) : (ws.set q e')[r]? = some e := by
  rw [List.getElem?_set_ne hne]
  exact h
theorem zapp {ws : va_W} {r : Nat} {e x : Nat × va_E} (h : ws[r]? = some e) : (ws ++ [x])[r]? = some e := by
  rw [List.getElem?_append_left (List.getElem?_eq_some_iff.mp h).1]
  exact h
theorem zapp_new {ws : va_W} {x : Nat × va_E} : (ws ++ [x])[ws.length]? = some x := by
  rw [List.getElem?_append_right (Nat.le_refl _), Nat.sub_self]
  rfl
theorem zlt {ws : va_W} {r : Nat} {e : Nat × va_E} (h : ws[r]? = some e) : r < ws.length := (List.getElem?_eq_some_iff.mp h).1
/-- places of different contents differ -/
theorem zne {ws : va_W} {i j : Nat} {x y : Nat × va_E} (h1 : ws[i]? = some x) (h2 : ws[j]? = some y) (h : x.2 ≠ y.2) : i ≠ j := fun e => by
  subst e
  rw [h1] at h2
  cases h2
  exact h rfl
/-- the kind of a cell: places of different kinds differ -/
def zkd (e : va_E) : Nat := match e with
  | .inr o => o.1
  | .inl (_, _, .inl _) => 100
  | .inl (_, _, .inr (.inl _)) => 101
  | .inl (_, _, .inr (.inr _)) => 102
theorem zneK {ws : va_W} {i j : Nat} {x y : Nat × va_E} (h1 : ws[i]? = some x) (h2 : ws[j]? = some y) (h : Nat.beq (zkd x.2) (zkd y.2) = false) : i ≠ j := fun e => by
  subst e
  rw [h1] at h2
  cases h2
  rw [Nat.beq_refl] at h
  cases h
section ZR
variable {p : Program} {l : Launch} {e : Env} {R : Room} {s : State} {m : MethodId} {args : Array Value} {below : List Frame} {meth : Method} {c : Code} {H : Heap} {locs : List Loc} {cells slots : Nat} {Q : State → Prop}
variable {cc : ByteArray} {pc nL : Nat} {ls : Array Slot} {rest st0 : List Value} {ws : va_W} {own : String} {Ts : List Cond} {E : zG}
theorem z_open {y : MethodName} {ws0 : List Cond} {rm : Room} {maxL : Nat} {ret : Option FieldType} {s₁ : State} (B : BodyLoose p l y (headSpec ws0 rm) cc maxL ret e s m args below meth c s₁) (hml : c.maxLocals = maxL) (h : zI E ws s) : zC E p m c cc maxL s args ws0 y.cls :=
  ⟨⟨B.exec, B.bytes, hml, findClass_of_methodNamed B.named, atoms_spec (ws := ws0) B.pre⟩, h.2.2.1, h.2.2.2.2, h.1⟩
theorem z_get (X : zC E p m c cc nL s args Ts own) (J : zJ E ws s H locs) {C : String} {T : u_T} {N ci index a : Nat} {fs : List Value} (hin : ∀ w ∈ u_ws C T N, w ∈ Ts) (q0 : Nat) (he : ws[q0]? = some (a, .inr (ci, fs))) (hc : vwCl[ci]? = some (C, T, N)) (k : Nat) (hk : k < N) (hlink : Cond.fieldLink own index (T k).1 (T k).2.1 (T k).2.2.1 ∈ Ts) {v : Value} (hv : fs[k]? = some v) (hdg : decode cc pc = .ok (.getfield index, 3))
    (kk : W p l e R s m args below meth c H locs cells slots Q (F0 m (pc + 3) ls (v :: rest))) : W p l e R s m args below meth c H locs cells slots Q (F0 m pc ls (.ref a :: rest)) :=
  va_get X.1.1 X.1.2.1 X.1.2.2.2.2 hin X.1.2.2.2.1 X.2.1 J.1 q0 he hc k hk (X.1.2.2.2.2 _ hlink) (fun _ h => h) hv hdg kk
theorem z_put (X : zC E p m c cc nL s args Ts own) (J : zJ E ws s H locs) {C : String} {T : u_T} {N ci index a : Nat} {fs : List Value} (hin : ∀ w ∈ u_ws C T N, w ∈ Ts) (ty0 : Nat → FieldType) (hty : ∀ k, k < N → parseFieldDescriptor (T k).2.2.1 = some (ty0 k)) (hnm : ∀ a, a < N → ∀ b, b < N → a ≠ b → (T a).2.1 ≠ (T b).2.1) (q0 : Nat) (he : ws[q0]? = some (a, .inr (ci, fs))) (hc : vwCl[ci]? = some (C, T, N)) (k : Nat) (hk : k < N) (hlink : Cond.fieldLink own index (T k).1 (T k).2.1 (T k).2.2.1 ∈ Ts) (hfin : (T k).2.2.2 = false) {v : Value} (hn : narrow (ty0 k) v = v) (hfit : fits (ty0 k) v = true) (hl : k < fs.length) (hdg : decode cc pc = .ok (.putfield index, 3))
    (kk : ∀ (H1 : Heap) (locs1 : List Loc), zJ E (ws.set q0 (a, .inr (ci, fs.set k v))) s H1 locs1 → W p l e R s m args below meth c H1 locs1 cells slots Q (F0 m (pc + 3) ls rest)) : W p l e R s m args below meth c H locs cells slots Q (F0 m pc ls (v :: .ref a :: rest)) :=
  va_put X.1.1 X.1.2.1 X.1.2.2.2.2 hin ty0 hty hnm X.1.2.2.2.1 X.2.1 J.1 J.2.1 J.2.2 q0 he hc k hk (X.1.2.2.2.2 _ hlink) (fun _ h => h) hfin (hty k hk) hn hfit hl hdg (fun H1 locs1 hP hD hS => kk H1 locs1 ⟨hP, hD, hS⟩)
theorem z_putF (X : zC E p m c cc nL s args Ts own) (J : zJ E ws s H locs) {C : String} {T : u_T} {N ci index a : Nat} {fs : List Value} (hin : ∀ w ∈ u_ws C T N, w ∈ Ts) (ty0 : Nat → FieldType) (hty : ∀ k, k < N → parseFieldDescriptor (T k).2.2.1 = some (ty0 k)) (hnm : ∀ a, a < N → ∀ b, b < N → a ≠ b → (T a).2.1 ≠ (T b).2.1) (q0 : Nat) (he : ws[q0]? = some (a, .inr (ci, fs))) (hc : vwCl[ci]? = some (C, T, N)) (k : Nat) (hk : k < N) (hlink : Cond.fieldLink own index (T k).1 (T k).2.1 (T k).2.2.1 ∈ Ts) (hfin : (T k).2.2.2 = true) (hin2 : meth.name = "<init>") (hdecl : (T k).1 = own) {v : Value} (hn : narrow (ty0 k) v = v) (hfit : fits (ty0 k) v = true) (hl : k < fs.length) (hdg : decode cc pc = .ok (.putfield index, 3))
    (kk : ∀ (H1 : Heap) (locs1 : List Loc), zJ E (ws.set q0 (a, .inr (ci, fs.set k v))) s H1 locs1 → W p l e R s m args below meth c H1 locs1 cells slots Q (F0 m (pc + 3) ls rest)) : W p l e R s m args below meth c H locs cells slots Q (F0 m pc ls (v :: .ref a :: rest)) :=
  va_putF X.1.1 X.1.2.1 X.1.2.2.2.2 hin ty0 hty hnm X.1.2.2.2.1 X.2.1 J.1 J.2.1 J.2.2 q0 he hc k hk (X.1.2.2.2.2 _ hlink) (fun _ h => h) hfin hin2 hdecl (hty k hk) hn hfit hl hdg (fun H1 locs1 hP hD hS => kk H1 locs1 ⟨hP, hD, hS⟩)
theorem z_iald (X : zC E p m c cc nL s args Ts own) (J : zJ E ws s H locs) (q0 : Nat) {a n : Nat} {f : Nat → Int32} (he : ws[q0]? = some (a, zI4 E n f)) {i : Int32} (hin : vp_in i n) (hdg : decode cc pc = .ok (.iaload, 1))
    (kk : W p l e R s m args below meth c H locs cells slots Q (F0 m (pc + 1) ls (.int (f i.toNatClampNeg) :: rest))) : W p l e R s m args below meth c H locs cells slots Q (F0 m pc ls (.int i :: .ref a :: rest)) :=
  va_iald X.1.1 X.1.2.1 X.2.1 J.1 q0 0 he rfl hin hdg kk
theorem z_iast (X : zC E p m c cc nL s args Ts own) (J : zJ E ws s H locs) (q0 : Nat) {a n : Nat} {f : Nat → Int32} (he : ws[q0]? = some (a, zI4 E n f)) {i x : Int32} (hin : vp_in i n) (hdg : decode cc pc = .ok (.iastore, 1))
    (kk : ∀ (H1 : Heap) (locs1 : List Loc), zJ E (ws.set q0 (a, zI4 E n (upd f i.toNatClampNeg x))) s H1 locs1 → W p l e R s m args below meth c H1 locs1 cells slots Q (F0 m (pc + 1) ls rest)) : W p l e R s m args below meth c H locs cells slots Q (F0 m pc ls (.int x :: .int i :: .ref a :: rest)) :=
  va_iast X.1.1 X.1.2.1 X.2.1 J.1 J.2.1 J.2.2 q0 0 he rfl hin hdg (fun H1 locs1 hP hD hS => kk H1 locs1 ⟨hP, hD, hS⟩)
theorem z_aaldq (X : zC E p m c cc nL s args Ts own) (J : zJ E ws s H locs) (q0 : Nat) {a n : Nat} {f : Nat → Option Nat} (he : ws[q0]? = some (a, zO4 E n f)) {i : Int32} (hin : vp_in i n) (hdg : decode cc pc = .ok (.aaload, 1))
    (kk : W p l e R s m args below meth c H locs cells slots Q (F0 m (pc + 1) ls (va_rf (f i.toNatClampNeg) :: rest))) : W p l e R s m args below meth c H locs cells slots Q (F0 m pc ls (.int i :: .ref a :: rest)) :=
  va_aldq X.1.1 X.1.2.1 X.2.1 J.1 q0 1 he rfl hin hdg kk
theorem z_aastN (X : zC E p m c cc nL s args Ts own) (J : zJ E ws s H locs) (q0 : Nat) {a n : Nat} {f : Nat → Option Nat} (he : ws[q0]? = some (a, zO4 E n f)) {i : Int32} (hin : vp_in i n) (hdg : decode cc pc = .ok (.aastore, 1))
    (kk : ∀ (H1 : Heap) (locs1 : List Loc), zJ E (ws.set q0 (a, zO4 E n (va_up f i.toNatClampNeg none))) s H1 locs1 → W p l e R s m args below meth c H1 locs1 cells slots Q (F0 m (pc + 1) ls rest)) : W p l e R s m args below meth c H locs cells slots Q (F0 m pc ls (.null :: .int i :: .ref a :: rest)) :=
  va_astqN X.1.1 X.1.2.1 X.2.1 J.1 J.2.1 J.2.2 q0 1 he rfl hin hdg (fun H1 locs1 hP hD hS => kk H1 locs1 ⟨hP, hD, hS⟩)
theorem z_aast (X : zC E p m c cc nL s args Ts own) (J : zJ E ws s H locs) (q0 qk ci : Nat) {a n v : Nat} {r : vw_C} {vs : List Value} {f : Nat → Option Nat} (he : ws[q0]? = some (a, zO4 E n f)) (hv : ws[qk]? = some (v, .inr (ci, vs))) (hc : vwCl[ci]? = some r) (hca : va_Nw (.castable r.1 "java/lang/Object") s) {i : Int32} (hin : vp_in i n) (hdg : decode cc pc = .ok (.aastore, 1))
    (kk : ∀ (H1 : Heap) (locs1 : List Loc), zJ E (ws.set q0 (a, zO4 E n (va_up f i.toNatClampNeg (some v)))) s H1 locs1 → W p l e R s m args below meth c H1 locs1 cells slots Q (F0 m (pc + 1) ls rest)) : W p l e R s m args below meth c H locs cells slots Q (F0 m pc ls (.ref v :: .int i :: .ref a :: rest)) :=
  va_astqO X.1.1 X.1.2.1 X.2.1 J.1 J.2.1 J.2.2 q0 1 qk ci he rfl hca hv hc hin hdg (fun H1 locs1 hP hD hS => kk H1 locs1 ⟨hP, hD, hS⟩)
theorem z_alenI (X : zC E p m c cc nL s args Ts own) (J : zJ E ws s H locs) (q0 : Nat) {a n : Nat} {f : Nat → Int32} (he : ws[q0]? = some (a, zI4 E n f)) {v : Int32} (hv : Int32.ofNat n = v) (hdg : decode cc pc = .ok (.arraylength, 1))
    (kk : W p l e R s m args below meth c H locs cells slots Q (F0 m (pc + 1) ls (.int v :: rest))) : W p l e R s m args below meth c H locs cells slots Q (F0 m pc ls (.ref a :: rest)) :=
  va_alen X.1.1 X.1.2.1 X.2.1 J.1 q0 0 he rfl hv hdg kk
theorem z_alenO (X : zC E p m c cc nL s args Ts own) (J : zJ E ws s H locs) (q0 : Nat) {a n : Nat} {f : Nat → Option Nat} (he : ws[q0]? = some (a, zO4 E n f)) {v : Int32} (hv : Int32.ofNat n = v) (hdg : decode cc pc = .ok (.arraylength, 1))
    (kk : W p l e R s m args below meth c H locs cells slots Q (F0 m (pc + 1) ls (.int v :: rest))) : W p l e R s m args below meth c H locs cells slots Q (F0 m pc ls (.ref a :: rest)) :=
  va_alen X.1.1 X.1.2.1 X.2.1 J.1 q0 1 he rfl hv hdg kk
theorem z_new (X : zC E p m c cc nL s args Ts own) (J : zJ E ws s H locs) {C : String} {T : u_T} {N ci index : Nat} (hin : ∀ w ∈ u_ws C T N, w ∈ Ts) (ty : Nat → FieldType) (hty : ∀ k, k < N → parseFieldDescriptor (T k).2.2.1 = some (ty k)) (hcl : Cond.classLink own index C ∈ Ts) (hinst : Cond.instantiable C N ∈ Ts) (hini : Cond.initialized C ∈ Ts) (hc : vwCl[ci]? = some (C, T, N)) {fs : List Value} (hfs : ∀ j, j < N → defaultValue (ty j) = vp_V fs j) (hcells : cells + 1 ≤ R.cells) (hslots : slots + N ≤ R.slots) (hdg : decode cc pc = .ok (.new index, 3))
    (kk : ∀ (q : Nat) (H1 : Heap), zJ E (ws ++ [(q, .inr (ci, fs))]) s H1 locs → W p l e R s m args below meth c H1 locs (cells + 1) (slots + N) Q (F0 m (pc + 3) ls (.ref q :: rest))) : W p l e R s m args below meth c H locs cells slots Q (F0 m pc ls rest) :=
  va_new X.1.1 X.1.2.1 X.1.2.2.2.2 hin ty hty X.1.2.2.2.1 (X.1.2.2.2.2 _ hcl) (X.1.2.2.2.2 _ hinst) (X.1.2.2.2.2 _ hini) X.2.1 J.1 J.2.1 J.2.2 (fun q h => Nat.le_trans X.2.2.2 h) hc hfs hcells hslots hdg (fun q H1 hP hD hS => kk q H1 ⟨hP, hD, hS⟩)
theorem z_newa (X : zC E p m c cc nL s args Ts own) (J : zJ E ws s H locs) (harr : Cond.arrayClass .int ∈ Ts) {n : Int32} {N' : Nat} (hn : ¬ n < 0) (hN : n.toNatClampNeg = N') (hbytes : N' * 4 ≤ 536870912) (hcells : cells + 1 ≤ R.cells) (hslots : slots + N' ≤ R.slots) (hdg : decode cc pc = .ok (.newarray .int, 2))
    (kk : ∀ (q : Nat) (H1 : Heap), zJ E (ws ++ [(q, zI4 E N' (fun _ => 0))]) s H1 locs → W p l e R s m args below meth c H1 locs (cells + 1) (slots + N') Q (F0 m (pc + 2) ls (.ref q :: rest))) : W p l e R s m args below meth c H locs cells slots Q (F0 m pc ls (.int n :: rest)) := by
  refine va_newa (atype := .int) (ty := .int) (a0 := (N', .inl (fun _ => 0))) X.1.1 X.1.2.1 (X.1.2.2.2.2 _ harr) rfl X.2.1 J.1 J.2.1 J.2.2 (fun q h => Nat.le_trans X.2.2.2 h) (fun _ => rfl) hn hN hbytes hcells hslots hdg (fun q cA H1 hK hP hD hS => ?_)
  have e1 : s.vm.findClass ("[" ++ FieldType.int.toString) = some E.2.1.1 := (X.2.1.2 0 _ rfl).2
  have e2 : s.vm.findClass ("[" ++ FieldType.int.toString) = some cA := (hK.2 3 (cA, .int) rfl).2
  cases Option.some.inj (e1.symm.trans e2)
  exact kk q H1 ⟨hP, hD, hS⟩
theorem z_newq (X : zC E p m c cc nL s args Ts own) (J : zJ E ws s H locs) {index : Nat} (hcl : Cond.classLink own index "java/lang/Object" ∈ Ts) {n : Int32} {N' : Nat} (hn : ¬ n < 0) (hN : n.toNatClampNeg = N') (hbytes : N' * 4 ≤ 536870912) (hcells : cells + 1 ≤ R.cells) (hslots : slots + N' ≤ R.slots) (hdg : decode cc pc = .ok (.anewarray index, 3))
    (kk : ∀ (q : Nat) (H1 : Heap), zJ E (ws ++ [(q, zO4 E N' (fun _ => none))]) s H1 locs → W p l e R s m args below meth c H1 locs (cells + 1) (slots + N') Q (F0 m (pc + 3) ls (.ref q :: rest))) : W p l e R s m args below meth c H locs cells slots Q (F0 m pc ls (.int n :: rest)) := by
  refine va_newq (C := "java/lang/Object") X.1.1 X.1.2.1 X.1.2.2.2.1 (X.1.2.2.2.2 _ hcl) X.2.2.1.2.2.2.2.1 X.2.1 J.1 J.2.1 J.2.2 (fun q h => Nat.le_trans X.2.2.2 h) hn hN hbytes hcells hslots hdg (fun q cA H1 hK hP hD hS => ?_)
  obtain ⟨-, kA, comp, -, -, -, e1⟩ := X.2.1.2 1 (E.2.1.2.1, .object "java/lang/Object") rfl
  obtain ⟨-, kA', comp', -, -, -, e2⟩ := hK.2 3 (cA, .object "java/lang/Object") rfl
  cases Option.some.inj (e1.symm.trans e2)
  exact kk q H1 ⟨hP, hD, hS⟩
theorem z_cast (X : zC E p m c cc nL s args Ts own) (J : zJ E ws s H locs) (q0 : Nat) {a ci : Nat} {q : vw_C} {fs : List Value} (he : ws[q0]? = some (a, .inr (ci, fs))) (hc : vwCl[ci]? = some q) {index : Nat} (hlink : (Cond.classLink own index q.1).before args s = true) (hdg : decode cc pc = .ok (.checkcast index, 3))
    (kk : W p l e R s m args below meth c H locs cells slots Q (F0 m (pc + 3) ls (.ref a :: rest))) : W p l e R s m args below meth c H locs cells slots Q (F0 m pc ls (.ref a :: rest)) :=
  va_castS X.1.1 X.1.2.1 X.1.2.2.2.1 hlink (X.2.1.1 ci q hc).2 (va_recv X.2.1 J.1 hc he) hdg kk
/-! calls -/
theorem z_preV (X : zC E p m c cc nL s args Ts own) (J : zJ E ws s H locs) {C : String} {b ci q0 : Nat} {q : vw_C} {fs : List Value} {As : List Value} (he : ws[q0]? = some (b, .inr (ci, fs))) (hc : vwCl[ci]? = some q) (hC : q.1 = C) : PreV s H C b (va_Pc (.ref b :: As) (zI E ws)) As :=
  ⟨zPc.blind, hC ▸ va_recv X.2.1 J.1 hc he, fun U hU hW => ⟨rfl, J.I X hU hW.alike⟩⟩
theorem z_preS (X : zC E p m c cc nL s args Ts own) (J : zJ E ws s H locs) {As : List Value} : PreS s H (va_Pc As (zI E ws)) As :=
  ⟨zPc.blind, fun U hU hW => ⟨rfl, J.I X hU hW.alike⟩⟩
theorem z_keep {A0 : Nat → Prop} : ∀ q : Nat, q < H.size → A0 q → A0 q := fun _ _ h => h
/-- what a method that may throw says of its throw: which class, and that the world is as it was -/
abbrev zX (E : zG) (ws : va_W) (px : String → Prop) : String → State → State → Prop := vx_X px (fun nm' nm t => nm' = nm ∧ zI E ws t) (zA E)
section ZCall
variable {y : MethodName} {bytes : ByteArray} {maxL mc ms n index : Nat} {ret : Option FieldType} {wsm : List Cond} {rm : Room} {Qc : Array Value → State → Outcome → State → Prop} {XC : String → State → State → Prop} {free : Addr → Prop} {C : String} {b : Addr} {As : List Value} {a : Array Value}
theorem z_rV (X : zC E p m c cc nL s args Ts own) (J : zJ E ws s H locs) (hM : Met l y wsm rm (va_Pc (.ref b :: As) (zI E ws)) Qc mc ms free) (cw : CallW R s args own C index y bytes maxL ret wsm rm mc ms n) {ci q0 : Nat} {q : vw_C} {fs : List Value} (he : ws[q0]? = some (b, .inr (ci, fs))) (hc : vwCl[ci]? = some q) (hC : q.1 = C)
    (hn : As.length = n) (hls : ls.size = nL) (hst : st0 = As.reverse ++ .ref b :: rest) (hcat : (rest.map fun v => v.category).sum ≤ 8) (hdg : decode cc pc = .ok (.invokevirtual index, 3)) (hf : cells + mc ≤ R.cells ∧ slots + ms ≤ R.slots) :
    va_Run p l e R s m args below meth c H locs cells slots mc ms (F0 m pc ls st0) rest (Qc (Value.ref b :: As).toArray) free :=
  va_runV X.1 hM cw (z_preV X J he hc hC) rfl hn hls hst (lv_room hcat) hdg hf
theorem z_rS (X : zC E p m c cc nL s args Ts own) (J : zJ E ws s H locs) (hM : Met l y wsm rm (va_Pc As (zI E ws)) Qc mc ms free) (cw : CallB R s args own index y bytes maxL ret wsm rm mc ms n ∧ (Cond.static y).before args s = true)
    (hn : As.length = n) (hls : ls.size = nL) (hst : st0 = As.reverse ++ rest) (hcat : (rest.map fun v => v.category).sum ≤ 8) (hdg : decode cc pc = .ok (.invokestatic index, 3)) (hf : cells + mc ≤ R.cells ∧ slots + ms ≤ R.slots) :
    va_Run p l e R s m args below meth c H locs cells slots mc ms (F0 m pc ls st0) rest (Qc As.toArray) free :=
  va_runS X.1 hM cw (z_preS X J) rfl hn hls hst (lv_room hcat) hdg hf
theorem z_rI (X : zC E p m c cc nL s args Ts own) (J : zJ E ws s H locs) (hM : Met l y wsm rm (va_Pc (.ref b :: As) (zI E ws)) Qc mc ms free) (cw : CallB R s args own index y bytes maxL none wsm rm mc ms n ∧ y.name = "<init>" ∧ (Cond.instanceMethod y).before args s = true)
    (hn : As.length = n) (hls : ls.size = nL) (hst : st0 = As.reverse ++ .ref b :: rest) (hcat : (rest.map fun v => v.category).sum ≤ 8) (hdg : decode cc pc = .ok (.invokespecial index, 3)) (hf : cells + mc ≤ R.cells ∧ slots + ms ≤ R.slots) :
    va_Run p l e R s m args below meth c H locs cells slots mc ms (F0 m pc ls st0) rest (Qc (Value.ref b :: As).toArray) free :=
  va_runI X.1 hM cw (z_preS X J) rfl hn hls hst (lv_room hcat) hdg hf
theorem z_xV (X : zC E p m c cc nL s args Ts own) (J : zJ E ws s H locs) (hM : vx_Met l y wsm rm (va_Pc (.ref b :: As) (zI E ws)) Qc XC mc ms free) (cw : CallW R s args own C index y bytes maxL ret wsm rm mc ms n) {ci q0 : Nat} {q : vw_C} {fs : List Value} (he : ws[q0]? = some (b, .inr (ci, fs))) (hc : vwCl[ci]? = some q) (hC : q.1 = C)
    (hn : As.length = n) (hls : ls.size = nL) (hst : st0 = As.reverse ++ .ref b :: rest) (hcat : (rest.map fun v => v.category).sum ≤ 8) (hdg : decode cc pc = .ok (.invokevirtual index, 3)) (hf : cells + mc ≤ R.cells ∧ slots + ms ≤ R.slots) :
    vx_Run p l e R s m args below meth c H locs cells slots mc ms (F0 m pc ls st0) rest (Qc (Value.ref b :: As).toArray) XC free :=
  vx_runV X.1 hM cw (z_preV X J he hc hC) rfl hn hls hst (lv_room hcat) hdg hf
theorem z_xS (X : zC E p m c cc nL s args Ts own) (J : zJ E ws s H locs) (hM : vx_Met l y wsm rm (va_Pc As (zI E ws)) Qc XC mc ms free) (cw : CallB R s args own index y bytes maxL ret wsm rm mc ms n ∧ (Cond.static y).before args s = true)
    (hn : As.length = n) (hls : ls.size = nL) (hst : st0 = As.reverse ++ rest) (hcat : (rest.map fun v => v.category).sum ≤ 8) (hdg : decode cc pc = .ok (.invokestatic index, 3)) (hf : cells + mc ≤ R.cells ∧ slots + ms ≤ R.slots) :
    vx_Run p l e R s m args below meth c H locs cells slots mc ms (F0 m pc ls st0) rest (Qc As.toArray) XC free :=
  vx_runS X.1 hM cw (z_preS X J) rfl hn hls hst (lv_room hcat) hdg hf
theorem z_cr {post : Int32 → Prop} (ru : va_Run p l e R s m args below meth c H locs cells slots 0 0 (F0 m pc ls st0) rest (vp_Si post a) (fun _ => False))
    (kk : ∀ r : Int32, post r → W p l e R s m args below meth c H locs cells slots Q (F0 m (pc + 3) ls (.int r :: rest))) : W p l e R s m args below meth c H locs cells slots Q (F0 m pc ls st0) := vp_callSi ru.run kk
theorem z_crl {post : Int64 → Prop} (ru : va_Run p l e R s m args below meth c H locs cells slots 0 0 (F0 m pc ls st0) rest (vp_Sl post a) (fun _ => False))
    (kk : ∀ r : Int64, post r → W p l e R s m args below meth c H locs cells slots Q (F0 m (pc + 3) ls (.long r :: rest))) : W p l e R s m args below meth c H locs cells slots Q (F0 m pc ls st0) := vp_callSl ru.run kk
theorem z_crd {post : UInt64 → Prop} (ru : va_Run p l e R s m args below meth c H locs cells slots 0 0 (F0 m pc ls st0) rest (vp_Sd post a) (fun _ => False))
    (kk : ∀ r : UInt64, post r → W p l e R s m args below meth c H locs cells slots Q (F0 m (pc + 3) ls (.double r :: rest))) : W p l e R s m args below meth c H locs cells slots Q (F0 m pc ls st0) := vp_callSd ru.run kk
theorem z_crq {post : Option Nat → Prop} (ru : va_Run p l e R s m args below meth c H locs cells slots 0 0 (F0 m pc ls st0) rest (va_Sq post a) (fun _ => False))
    (kk : ∀ r : Option Nat, post r → W p l e R s m args below meth c H locs cells slots Q (F0 m (pc + 3) ls (va_rf r :: rest))) : W p l e R s m args below meth c H locs cells slots Q (F0 m pc ls st0) := va_csq ru.run kk
theorem z_ci (J : zJ E ws s H locs) {post : Int32 → va_W → Prop} (ru : va_Run p l e R s m args below meth c H locs cells slots mc ms (F0 m pc ls st0) rest (va_Qi post (zI E) (zA E) a) (zA E))
    (kk : ∀ (r : Int32) (ws1 : va_W) (H1 : Heap) (locs1 : List Loc), post r ws1 → zJ E ws1 s H1 locs1 → W p l e R s m args below meth c H1 locs1 (cells + mc) (slots + ms) Q (F0 m (pc + 3) ls (.int r :: rest))) : W p l e R s m args below meth c H locs cells slots Q (F0 m pc ls st0) :=
  va_calli ru J.2.2 (fun _ _ h => h) (fun _ h => h) (fun r u t H1 locs1 ht _ hw hB _ _ hS => kk r u H1 locs1 hw (zJ.of ht hS hB))
theorem z_cv (J : zJ E ws s H locs) {post : va_W → Prop} (ru : va_Run p l e R s m args below meth c H locs cells slots mc ms (F0 m pc ls st0) rest (va_Qv post (zI E) (zA E) a) (zA E))
    (kk : ∀ (ws1 : va_W) (H1 : Heap) (locs1 : List Loc), post ws1 → zJ E ws1 s H1 locs1 → W p l e R s m args below meth c H1 locs1 (cells + mc) (slots + ms) Q (F0 m (pc + 3) ls rest)) : W p l e R s m args below meth c H locs cells slots Q (F0 m pc ls st0) :=
  va_callv ru J.2.2 (fun _ _ h => h) (fun _ h => h) (fun u t H1 locs1 ht _ hw hB _ _ hS => kk u H1 locs1 hw (zJ.of ht hS hB))
theorem z_cq (J : zJ E ws s H locs) {post : Option Nat → va_W → Prop} (ru : va_Run p l e R s m args below meth c H locs cells slots mc ms (F0 m pc ls st0) rest (va_Qq post (zI E) (zA E) a) (zA E))
    (kk : ∀ (r : Option Nat) (ws1 : va_W) (H1 : Heap) (locs1 : List Loc), post r ws1 → zJ E ws1 s H1 locs1 → W p l e R s m args below meth c H1 locs1 (cells + mc) (slots + ms) Q (F0 m (pc + 3) ls (va_rf r :: rest))) : W p l e R s m args below meth c H locs cells slots Q (F0 m pc ls st0) :=
  va_callq ru J.2.2 (fun _ _ h => h) (fun _ h => h) (fun r u t H1 locs1 ht _ hw hB _ _ hS => kk r u H1 locs1 hw (zJ.of ht hS hB))
/-- a call that may throw: kx, with the world as it was before -/
theorem z_xi (J : zJ E ws s H locs) {post : Int32 → va_W → Prop} {px : String → Prop} (ru : vx_Run p l e R s m args below meth c H locs cells slots mc ms (F0 m pc ls st0) rest (va_Qi post (zI E) (zA E) a) (zX E ws px) (zA E))
    (kx : ∀ (nm : String) (ce : Cell) (q9 : Addr) (H1 : Heap) (locs1 : List Loc), px nm → zJ E ws s H1 locs1 → H1[q9]? = some ce → ce.vm = .none → s.vm.findClass nm = some ce.cls → vx_W p l e R s m args below meth c H1 locs1 (cells + mc) (slots + ms) Q (F0 m pc ls rest) q9)
    (kk : ∀ (r : Int32) (ws1 : va_W) (H1 : Heap) (locs1 : List Loc), post r ws1 → zJ E ws1 s H1 locs1 → W p l e R s m args below meth c H1 locs1 (cells + mc) (slots + ms) Q (F0 m (pc + 3) ls (.int r :: rest))) : W p l e R s m args below meth c H locs cells slots Q (F0 m pc ls st0) :=
  vx_calli ru J.2.2 (fun _ _ h => h) (fun _ h => h) (fun _ _ h => h) (fun nm ce q9 u t H1 locs1 ht _ hp hB _ _ hS h1 h2 h3 => kx nm ce q9 H1 locs1 (hB.1 ▸ hp) (zJ.of ht hS hB.2) h1 h2 h3)
    (fun r u t H1 locs1 ht _ hw hB _ _ hS => kk r u H1 locs1 hw (zJ.of ht hS hB))
theorem z_xv (J : zJ E ws s H locs) {post : va_W → Prop} {px : String → Prop} (ru : vx_Run p l e R s m args below meth c H locs cells slots mc ms (F0 m pc ls st0) rest (va_Qv post (zI E) (zA E) a) (zX E ws px) (zA E))
    (kx : ∀ (nm : String) (ce : Cell) (q9 : Addr) (H1 : Heap) (locs1 : List Loc), px nm → zJ E ws s H1 locs1 → H1[q9]? = some ce → ce.vm = .none → s.vm.findClass nm = some ce.cls → vx_W p l e R s m args below meth c H1 locs1 (cells + mc) (slots + ms) Q (F0 m pc ls rest) q9)
    (kk : ∀ (ws1 : va_W) (H1 : Heap) (locs1 : List Loc), post ws1 → zJ E ws1 s H1 locs1 → W p l e R s m args below meth c H1 locs1 (cells + mc) (slots + ms) Q (F0 m (pc + 3) ls rest)) : W p l e R s m args below meth c H locs cells slots Q (F0 m pc ls st0) :=
  vx_callv ru J.2.2 (fun _ _ h => h) (fun _ h => h) (fun _ _ h => h) (fun nm ce q9 u t H1 locs1 ht _ hp hB _ _ hS h1 h2 h3 => kx nm ce q9 H1 locs1 (hB.1 ▸ hp) (zJ.of ht hS hB.2) h1 h2 h3)
    (fun u t H1 locs1 ht _ hw hB _ _ hS => kk u H1 locs1 hw (zJ.of ht hS hB))
/-- not caught here: it goes on -/
theorem z_out (X : zC E p m c cc nL s args Ts own) {ws1 : va_W} (J : zJ E ws1 s H locs) {px : String → Prop} {nm : String} {ce : Cell} {q9 : Addr} (htab : ∀ x ∈ c.exceptionTable.toList, False) (hlocks : meth.locks = false) (h1 : H[q9]? = some ce) (h2 : ce.vm = .none) (h3 : s.vm.findClass nm = some ce.cls) (hp : px nm) (hc : cells ≤ mc) (hs : slots ≤ ms) :
    vx_W p l e R s m args below meth c H locs cells slots (vx_MQ below Qc (zX E ws1 px) args s mc ms (zA E)) (F0 m pc ls rest) q9 :=
  vx_out (fun x hx => (htab x hx).elim) hlocks h1 h2 h3 (fun t ht hvm => ⟨nm, hp, ⟨rfl, J.I X ht hvm⟩, J.F ht⟩) J.locs hc hs
end ZCall
end ZR
