/-! ===== rows for arrays of int[] : made, read, written, their length; clones; casts ===== -/
theorem znmI : "[" ++ FieldType.int.toString = "[I" := by decide +kernel
theorem znmA : "[" ++ (FieldType.array .int).toString = "[[I" := by decide +kernel
theorem znmI2 : (FieldType.array .int).toString = "[I" := by decide +kernel
theorem zK.cI {E : zG} {s : State} (h : va_K E.1 vwCl (zT E) s) : s.vm.findClass "[I" = some E.2.1.1 := by
  rw [← znmI]; exact (h.2 0 _ rfl).2
theorem zK.cA {E : zG} {s : State} (h : va_K E.1 vwCl (zT E) s) : s.vm.findClass "[[I" = some E.2.1.2.2 := by
  rw [← znmA]; exact (h.2 2 _ rfl).2
/-- the class of Object[] and that of int[][] are two -/
theorem zK.neOA {E : zG} {s : State} (h : va_K E.1 vwCl (zT E) s) : E.2.1.2.1 ≠ E.2.1.2.2 := fun e => by
  obtain ⟨-, k1, h1, c1, h2⟩ := (h.2 1 _ rfl).1 0 (fun _ => .null)
  obtain ⟨-, k2, h3, c2, h4⟩ := (h.2 2 _ rfl).1 0 (fun _ => .null)
  have h1' : s.vm.classes[E.2.1.2.1]? = some k1 := h1
  have h3' : s.vm.classes[E.2.1.2.2]? = some k2 := h3
  rw [e] at h1'
  cases h1'.symm.trans h3'
  rw [h2] at h4
  cases h4
/-- places of an Object[] and of an int[][] differ -/
theorem zneOA {E : zG} {ws : va_W} {i j a b n m : Nat} {f g : Nat → Option Nat} (hne : E.2.1.2.1 ≠ E.2.1.2.2) (h1 : ws[i]? = some (a, zO4 E n f)) (h2 : ws[j]? = some (b, zA4 E m g)) : i ≠ j := fun e => by
  subst e
  rw [h1] at h2
  exact hne (congrArg (fun z : Nat × va_E => match z.2 with | .inl q => q.1 | .inr _ => E.2.1.2.1) (Option.some.inj h2))
/-- places of int arrays of two lengths differ -/
theorem zneL {E : zG} {ws : va_W} {i j a b n m : Nat} {f g : Nat → Int32} (hne : n ≠ m) (h1 : ws[i]? = some (a, zI4 E n f)) (h2 : ws[j]? = some (b, zI4 E m g)) : i ≠ j := fun e => by
  subst e
  rw [h1] at h2
  exact hne (congrArg (fun z : Nat × va_E => match z.2 with | .inl q => q.2.1 | .inr _ => 0) (Option.some.inj h2))
theorem zAOx {ty : FieldType} {A A2 : Array Value} {U : State} (h : (Cond.arrayOver (.array ty)).before A U = true) : (Cond.arrayOver (.array ty)).before A2 U = true := h
theorem zAO2.use {A : Array Value} {U : State} (h : zAO2 U) : (Cond.arrayOver (.array .int)).before A U = true := zAOx h
section ZARR
variable {p : Program} {l : Launch} {e : Env} {R : Room} {s : State} {m : MethodId} {args : Array Value} {below : List Frame} {meth : Method} {c : Code} {H : Heap} {locs : List Loc} {cells slots : Nat} {Q : State → Prop}
variable {cc : ByteArray} {pc nL : Nat} {ls : Array Slot} {rest st0 : List Value} {ws : va_W} {own : String} {Ts : List Cond} {E : zG}
theorem z_aaldA (X : zC E p m c cc nL s args Ts own) (J : zJ E ws s H locs) (q0 : Nat) {a n : Nat} {f : Nat → Option Nat} (he : ws[q0]? = some (a, zA4 E n f)) {i : Int32} (hin : vp_in i n) (hdg : decode cc pc = .ok (.aaload, 1))
    (kk : W p l e R s m args below meth c H locs cells slots Q (F0 m (pc + 1) ls (va_rf (f i.toNatClampNeg) :: rest))) : W p l e R s m args below meth c H locs cells slots Q (F0 m pc ls (.int i :: .ref a :: rest)) := by
  have hlt : i.toNatClampNeg < n := Nat.not_le.mp fun q => hin (Or.inr q)
  exact W.aald (v := va_rf (f i.toNatClampNeg)) (ty := .array .int) X.1.1 X.1.2.1 (J.1 q0 _ he) ((X.2.1.2 2 _ rfl).1 n (fun j => va_rf (f j))) rfl (fun q => by cases q) (by show ¬ (i < 0 ∨ (arrV _ _ _).slots.size ≤ _); rw [arrV_size]; exact hin) (by show (arrV _ _ _).slots[_]? = _; rw [arrV_read _ _ hlt]) rfl rfl hdg kk
theorem z_alenA (X : zC E p m c cc nL s args Ts own) (J : zJ E ws s H locs) (q0 : Nat) {a n : Nat} {f : Nat → Option Nat} (he : ws[q0]? = some (a, zA4 E n f)) {v : Int32} (hv : Int32.ofNat n = v) (hdg : decode cc pc = .ok (.arraylength, 1))
    (kk : W p l e R s m args below meth c H locs cells slots Q (F0 m (pc + 1) ls (.int v :: rest))) : W p l e R s m args below meth c H locs cells slots Q (F0 m pc ls (.ref a :: rest)) :=
  va_alen X.1.1 X.1.2.1 X.2.1 J.1 q0 2 he rfl hv hdg kk
theorem z_aastA (X : zC E p m c cc nL s args Ts own) (J : zJ E ws s H locs) (q0 qk : Nat) {a n v k : Nat} {f : Nat → Option Nat} {g : Nat → Int32} (he : ws[q0]? = some (a, zA4 E n f)) (hv : ws[qk]? = some (v, zI4 E k g)) {i : Int32} (hin : vp_in i n) (hdg : decode cc pc = .ok (.aastore, 1))
    (kk : ∀ (H1 : Heap) (locs1 : List Loc), zJ E (ws.set q0 (a, zA4 E n (va_up f i.toNatClampNeg (some v)))) s H1 locs1 → W p l e R s m args below meth c H1 locs1 cells slots Q (F0 m (pc + 1) ls rest)) : W p l e R s m args below meth c H locs cells slots Q (F0 m pc ls (.ref v :: .int i :: .ref a :: rest)) := by
  have hlt : i.toNatClampNeg < n := Nat.not_le.mp fun q => hin (Or.inr q)
  have h0 : ¬ i < 0 := fun q => hin (Or.inl q)
  obtain ⟨comp, cA, kA, h1, h2, h3, h4, h5⟩ := arrayOverA_spec X.2.2.1.2.2.2.2.2.2.2.1
  have e1 : E.2.1.2.2 = cA := by
    have h9 := zK.cA X.2.1
    rw [znmA] at h5
    exact Option.some.inj (h9.symm.trans h5)
  have e2 : E.2.1.1 = comp := by
    have h9 := zK.cI X.2.1
    rw [znmI2] at h1
    exact Option.some.inj (h9.symm.trans h1)
  subst e1 e2
  obtain ⟨kE, hkE, -⟩ := Vm.findClass_spec h1
  refine W.aast (t := .array .int) (cell := vp_cell E.2.1.2.2 (n, .inr (.inr (.inr (.inr f))))) (cv := vp_cell E.2.1.1 (k, .inl g)) (comp := E.2.1.1) X.1.1 X.1.2.1 (J.1 q0 _ he) (fun q h => by cases h) (fun h => by cases h) h3 h4 rfl hkE ⟨h0, by show _ < (arrV _ _ _).slots.size; rw [arrV_size]; exact hlt⟩ (J.1 qk _ hv) (fun q h => by cases h) hkE (va_asg _ _) rfl rfl hdg fun H1 e z oq => ?_
  refine kk H1 _ ⟨J.1.set J.2.1 he ?_ oq, J.2.1.set he, J.2.2.put z oq (J.2.1.2 q0 _ he)⟩
  show H1[a]? = some (vp_cell _ _)
  rw [e]
  rw [vp_cell_q, vp_cell_q, arrV_store]
  congr 2
  funext q
  by_cases hq : q = i.toNatClampNeg
  · subst hq
    simp [updV, va_up, va_rf]
  · simp [updV, va_up, hq]
theorem z_newqA (X : zC E p m c cc nL s args Ts own) (J : zJ E ws s H locs) {index : Nat} (hcl : Cond.classLink own index "[I" ∈ Ts) {n : Int32} {N' : Nat} (hn : ¬ n < 0) (hN : n.toNatClampNeg = N') (hbytes : N' * 4 ≤ 536870912) (hcells : cells + 1 ≤ R.cells) (hslots : slots + N' ≤ R.slots) (hdg : decode cc pc = .ok (.anewarray index, 3))
    (kk : ∀ (q : Nat) (H1 : Heap), zJ E (ws ++ [(q, zA4 E N' (fun _ => none))]) s H1 locs → W p l e R s m args below meth c H1 locs (cells + 1) (slots + N') Q (F0 m (pc + 3) ls (.ref q :: rest))) : W p l e R s m args below meth c H locs cells slots Q (F0 m pc ls (.int n :: rest)) := by
  subst hN
  refine W.anewA (t := .int) X.1.1 X.1.2.1 X.1.2.2.2.1 (by rw [znmI2]; exact X.1.2.2.2.2 _ hcl) (zAO2.use X.2.2.1.2.2.2.2.2.2.2.1) rfl hdg rfl hn hbytes hcells hslots fun cA kA comp f1 f2 f3 f4 => ?_
  have e1 : E.2.1.2.2 = cA := by
    have h9 := zK.cA X.2.1
    rw [znmA] at f1
    exact Option.some.inj (h9.symm.trans f1)
  subst e1
  obtain ⟨hP, hD, hS⟩ := J
  generalize hH1 : H.push ({ cls := E.2.1.2.2, slots := Array.replicate n.toNatClampNeg .null, vm := .none } : Cell) = H1
  have z1 : H1.size = H.size + 1 := by rw [← hH1, Array.size_push]
  have e1 : H1[H.size]? = some (arrV E.2.1.2.2 n.toNatClampNeg (fun _ => .null)) := by rw [← hH1, Array.getElem?_push_size, ← arrV_new]
  have o1 : ∀ q : Nat, q < H.size → H1[q]? = H[q]? := fun q hq => by rw [← hH1, Array.getElem?_push, if_neg (Nat.ne_of_lt hq)]
  have hk : ∀ (k : Nat) (x : Nat × va_E), ws[k]? = some x → H1[x.1]? = H[x.1]? := fun k x hx => o1 x.1 ((hP k x hx).lt)
  refine kk H.size H1 ⟨(hP.kept hk).app (fun k x hx => ?_), hD.push hP rfl (Nat.le_trans X.2.2.2 hS.1), ⟨Nat.le_trans hS.1 (by omega), fun x h1 h2 => (o1 x (Nat.lt_of_lt_of_le h1 hS.1)).trans (hS.2.1 x h1 h2), hS.2.2⟩⟩
  have hz : k < 1 := (List.getElem?_eq_some_iff.mp hx).1
  rw [show k = 0 by omega] at hx
  cases hx
  show H1[H.size]? = some (vp_cell _ _)
  rw [vp_cell_q]
  exact e1
theorem z_castI (X : zC E p m c cc nL s args Ts own) (J : zJ E ws s H locs) (q0 : Nat) {a n : Nat} {f : Nat → Int32} (he : ws[q0]? = some (a, zI4 E n f)) {index : Nat} (hlink : Cond.classLink own index "[I" ∈ Ts) (hdg : decode cc pc = .ok (.checkcast index, 3))
    (kk : W p l e R s m args below meth c H locs cells slots Q (F0 m (pc + 3) ls (.ref a :: rest))) : W p l e R s m args below meth c H locs cells slots Q (F0 m pc ls (.ref a :: rest)) :=
  va_castA X.1.1 X.1.2.1 X.1.2.2.2.1 (X.1.2.2.2.2 _ hlink) J.1 q0 he (zK.cI X.2.1) hdg kk
theorem z_castAA (X : zC E p m c cc nL s args Ts own) (J : zJ E ws s H locs) (q0 : Nat) {a n : Nat} {f : Nat → Option Nat} (he : ws[q0]? = some (a, zA4 E n f)) {index : Nat} (hlink : Cond.classLink own index "[[I" ∈ Ts) (hdg : decode cc pc = .ok (.checkcast index, 3))
    (kk : W p l e R s m args below meth c H locs cells slots Q (F0 m (pc + 3) ls (.ref a :: rest))) : W p l e R s m args below meth c H locs cells slots Q (F0 m pc ls (.ref a :: rest)) :=
  va_castA X.1.1 X.1.2.1 X.1.2.2.2.1 (X.1.2.2.2.2 _ hlink) J.1 q0 he (zK.cA X.2.1) hdg kk
/-- the words of a clone -/
def zcl (own : String) (index : Nat) (ad : String) : List Cond := [Cond.methodLink own index ⟨ad, "clone", "()Ljava/lang/Object;"⟩, .sameMethod ad "java/lang/Object" "clone" "()Ljava/lang/Object;", .native ⟨"java/lang/Object", "clone", "()Ljava/lang/Object;"⟩, .instanceMethod ⟨"java/lang/Object", "clone", "()Ljava/lang/Object;"⟩, .selects ad ⟨ad, "clone", "()Ljava/lang/Object;"⟩ ⟨"java/lang/Object", "clone", "()Ljava/lang/Object;"⟩]
theorem z_cloneI (X : zC E p m c cc nL s args Ts own) (J : zJ E ws s H locs) (hls : ls.size = nL) (q0 : Nat) {a n : Nat} {f : Nat → Int32} (he : ws[q0]? = some (a, zI4 E n f)) {index : Nat} (hw : ∀ w ∈ zcl own index "[I", w ∈ Ts)
    (hframes : 1 ≤ R.frames) (hlocals : (rest.map fun v => v.category).sum + 14 ≤ R.locals) (hcells : cells + 1 ≤ R.cells) (hslots : slots + n ≤ R.slots) (hdg : decode cc pc = .ok (.invokevirtual index, 3))
    (kk : ∀ (q : Nat) (H1 : Heap), zJ E (ws ++ [(q, zI4 E n f)]) s H1 locs → W p l e R s m args below meth c H1 locs (cells + 1) (slots + n) Q (F0 m (pc + 3) ls (.ref q :: rest))) : W p l e R s m args below meth c H locs cells slots Q (F0 m pc ls (.ref a :: rest)) := by
  have hts := X.1.2.2.2.2
  refine va_clone (ad := "[I") (ty := .int) (x := (n, .inl f)) X.1.1 X.1.2.1 (X.1.2.2.1.trans hls.symm) X.1.2.2.2.1 (hts _ (hw _ (by simp [zcl]))) (hts _ (hw _ (by simp [zcl]))) (hts _ (hw _ (by simp [zcl]))) (hts _ (hw _ (by simp [zcl]))) (hts _ (hw _ (by simp [zcl]))) X.2.2.1.2.2.2.2.2.2.2.2.1 X.2.1 J.1 J.2.1 J.2.2 (fun q h => Nat.le_trans X.2.2.2 h) q0 0 he rfl (zK.cI X.2.1) (va_fit (F := fun j => .int (f j)) (fun i hi => rfl)) hframes hlocals hcells hslots hdg (fun q H1 hK hP hD hS => kk q H1 ⟨hP, hD, hS⟩)
theorem z_cloneA (X : zC E p m c cc nL s args Ts own) (J : zJ E ws s H locs) (hls : ls.size = nL) (q0 : Nat) {a n : Nat} {f : Nat → Option Nat} (he : ws[q0]? = some (a, zA4 E n f)) {index : Nat} (hw : ∀ w ∈ zcl own index "[[I", w ∈ Ts)
    (hframes : 1 ≤ R.frames) (hlocals : (rest.map fun v => v.category).sum + 14 ≤ R.locals) (hcells : cells + 1 ≤ R.cells) (hslots : slots + n ≤ R.slots) (hdg : decode cc pc = .ok (.invokevirtual index, 3))
    (kk : ∀ (q : Nat) (H1 : Heap), zJ E (ws ++ [(q, zA4 E n f)]) s H1 locs → W p l e R s m args below meth c H1 locs (cells + 1) (slots + n) Q (F0 m (pc + 3) ls (.ref q :: rest))) : W p l e R s m args below meth c H locs cells slots Q (F0 m pc ls (.ref a :: rest)) := by
  have hts := X.1.2.2.2.2
  refine va_clone (ad := "[[I") (ty := .array .int) (x := (n, .inr (.inr (.inr (.inr f))))) X.1.1 X.1.2.1 (X.1.2.2.1.trans hls.symm) X.1.2.2.2.1 (hts _ (hw _ (by simp [zcl]))) (hts _ (hw _ (by simp [zcl]))) (hts _ (hw _ (by simp [zcl]))) (hts _ (hw _ (by simp [zcl]))) (hts _ (hw _ (by simp [zcl]))) X.2.2.1.2.2.2.2.2.2.2.2.2.1 X.2.1 J.1 J.2.1 J.2.2 (fun q h => Nat.le_trans X.2.2.2 h) q0 2 he rfl (zK.cA X.2.1) (va_fit (F := fun j => va_rf (f j)) (fun i hi => by cases f i <;> rfl)) hframes hlocals hcells hslots hdg (fun q H1 hK hP hD hS => kk q H1 ⟨hP, hD, hS⟩)
end ZARR
