/-! ===== the law's wrappers: what is not castable; calls of methods with a table of their own ===== -/
def zNc (U : State) : Prop := va_Nc "java/lang/IllegalArgumentException" "java/lang/IndexOutOfBoundsException" U ∧ va_Nc "java/lang/IndexOutOfBoundsException" "java/lang/IllegalArgumentException" U ∧ va_Nc "java/lang/IllegalStateException" "java/lang/IllegalArgumentException" U ∧ va_Nc "java/lang/IllegalStateException" "java/lang/IndexOutOfBoundsException" U
theorem zNc.moved {s U : State} (hvm : s.vm.Alike U.vm) (h : zNc s) : zNc U := ⟨va_Nc.moved hvm h.1, va_Nc.moved hvm h.2.1, va_Nc.moved hvm h.2.2.1, va_Nc.moved hvm h.2.2.2⟩
abbrev zV (E : zG) (ws : va_W) (U : State) : Prop := zI E ws U ∧ zR U ∧ zNc U
theorem zNc.blind {U : State} {g : JFrame} {mk : MethodId} {a : Array Value} (h : zNc U) : zNc (U.calling g mk a) := zNc.moved (U := U.calling g mk a) (Vm.Alike.refl U.vm) h
theorem zVc.blind {E : zG} {ws : va_W} {av : List Value} : FrameBlind (va_Pc av (zV E ws)) := fun _ _ _ _ q => ⟨q.1, q.2.1.blind, q.2.2.1.blind, q.2.2.2.blind⟩
section ZWR
variable {p : Program} {l : Launch} {e : Env} {R : Room} {s : State} {m : MethodId} {args : Array Value} {below : List Frame} {meth : Method} {c : Code} {H : Heap} {locs : List Loc} {cells slots : Nat} {Q : State → Prop}
variable {cc : ByteArray} {pc nL : Nat} {ls : Array Slot} {rest st0 : List Value} {ws : va_W} {own : String} {Ts : List Cond} {E : zG}
variable {y : MethodName} {bytes : ByteArray} {maxL mc ms n index : Nat} {ret : Option FieldType} {wsm : List Cond} {rm : Room} {Qc : Array Value → State → Outcome → State → Prop} {XC : String → State → State → Prop} {free : Addr → Prop} {As : List Value}
theorem z_preSV (X : zC E p m c cc nL s args Ts own) (hR : zR s) (hN : zNc s) (J : zJ E ws s H locs) {As : List Value} : PreS s H (va_Pc As (zV E ws)) As :=
  ⟨zVc.blind, fun U hU hW => ⟨rfl, J.I X hU hW.alike, hR.warm hW, hN.moved hW.alike⟩⟩
theorem z_wS {hh : List (Nat × Nat × Nat × Nat)} (X : zC E p m c cc nL s args Ts own) (hR : zR s) (hN : zNc s) (J : zJ E ws s H locs) (hM : vx_Met l y wsm rm (va_Pc As (zV E ws)) Qc XC mc ms free) (cw : vx_CSW R s args own index y bytes maxL ret hh wsm rm mc ms n)
    (hn : As.length = n) (hls : ls.size = nL) (hst : st0 = As.reverse ++ rest) (hcat : (rest.map fun v => v.category).sum ≤ 8) (hdg : decode cc pc = .ok (.invokestatic index, 3)) (hf : cells + mc ≤ R.cells ∧ slots + ms ≤ R.slots) :
    vx_Run p l e R s m args below meth c H locs cells slots mc ms (F0 m pc ls st0) rest (Qc As.toArray) XC free :=
  vx_runSX X.1 hM cw (z_preSV X hR hN J) rfl hn hls hst (lv_room hcat) hdg hf
end ZWR
