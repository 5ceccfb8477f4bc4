/-! ===== System.arraycopy of references, over a world ===== -/
section ZCQ
variable {p : Program} {l : Launch} {e : Env} {R : Room} {s : State} {m : MethodId} {args : Array Value} {below : List Frame} {meth : Method} {c : Code} {H : Heap} {locs : List Loc} {cells slots : Nat} {Q : State → Prop}
variable {cc : ByteArray} {pc nL : Nat} {ls : Array Slot} {rest : List Value} {E : zG} {ws : va_W} {Ts : List Cond} {own : String}
theorem z_copyq (X : zC E p m c cc nL s args Ts own) (J : zJ E ws s H locs) (hls : ls.size = nL) {index : Nat} (hlink : Cond.methodLink own index arraycopyName ∈ Ts) (hnat : Cond.native arraycopyName ∈ Ts) (hstat : Cond.static arraycopyName ∈ Ts) (hini : Cond.initialized "java/lang/System" ∈ Ts)
    (q0 q1 ci : Nat) {a0 a n0 n1 : Nat} {f g : Nat → Option Nat} {r : vw_C} (h0 : ws[q0]? = some (a0, zO4 E n0 f)) (h1 : ws[q1]? = some (a, zO4 E n1 g)) (hc : vwCl[ci]? = some r) (hca : va_Nw (.castable r.1 "java/lang/Object") s) {sp dp n : Int32} (e1 : ¬ sp < 0) (e2 : ¬ dp < 0) (e3 : ¬ n < 0) (e4 : sp.toNatClampNeg + n.toNatClampNeg ≤ n0) (e5 : dp.toNatClampNeg + n.toNatClampNeg ≤ n1)
    (hel : ∀ i : Nat, i < n.toNatClampNeg → ∃ (y qk : Nat) (vs : List Value), f (sp.toNatClampNeg + i) = some y ∧ ws[qk]? = some (y, .inr (ci, vs)))
    (hframes : 1 ≤ R.frames) (hlocals : (rest.map fun v => v.category).sum + (nativeFrameWords "java/lang/System" "arraycopy" 5 + 11) ≤ R.locals) (hdg : decode cc pc = .ok (.invokestatic index, 3))
    (kk : ∀ (H1 : Heap) (locs1 : List Loc), zJ E (ws.set q1 (a, zO4 E n1 (va_cpy f g sp.toNatClampNeg dp.toNatClampNeg n.toNatClampNeg))) s H1 locs1 → W p l e R s m args below meth c H1 locs1 cells slots Q (F0 m (pc + 3) ls rest)) : W p l e R s m args below meth c H locs cells slots Q (F0 m pc ls (.int n :: .int dp :: .ref a :: .int sp :: .ref a0 :: rest)) :=
  va_copyq (C := r.1) X.1.1 X.1.2.1 (X.1.2.2.1.trans hls.symm) X.1.2.2.2.1 (X.1.2.2.2.2 _ hlink) (X.1.2.2.2.2 _ hnat) (X.1.2.2.2.2 _ hstat) (X.1.2.2.2.2 _ hini) X.2.1 J.1 J.2.1 J.2.2 q0 q1 1 1 h0 h1 rfl rfl e1 e2 e3 e4 e5
    (fun i hi y hy => by
      obtain ⟨y2, qk, vs, w1, w2⟩ := hel i hi
      cases Option.some.inj (w1.symm.trans hy)
      exact va_recv X.2.1 J.1 hc w2)
    (vb_asgC hca) hframes hlocals hdg (fun H1 locs1 hP hD hS => kk H1 locs1 ⟨hP, hD, hS⟩)
end ZCQ
