/-! ===== an array of 20 rows of 20 ints, made at once ===== -/
theorem zouter (c : ClassId) (N h0 : Nat) : ∀ i, Jvm.Free.Multi.outerC c N h0 i = arrV c N (fun j => va_rf (if j < i then some (h0 + 1 + j) else none))
  | 0 => by
    show ({ cls := c, slots := Array.replicate N .null, vm := .none } : Cell) = _
    rw [arrV_new]
    congr 1
  | i + 1 => by
    show (Jvm.Free.Multi.outerC c N h0 i).setSlot i (.ref (h0 + 1 + i)) = _
    rw [zouter c N h0 i, arrV_store]
    congr 1
    funext j
    unfold updV
    by_cases h : j = i
    · subst h
      rw [if_pos rfl, if_pos (Nat.lt_succ_self _)]
      rfl
    · rw [if_neg h]
      dsimp only
      by_cases h2 : j < i
      · rw [if_pos h2, if_pos (by omega)]
      · rw [if_neg h2, if_neg (by omega)]
section ZMU
variable {p : Program} {l : Launch} {e : Env} {R : Room} {s : State} {m : MethodId} {args : Array Value} {below : List Frame} {meth : Method} {c : Code} {H : Heap} {locs : List Loc} {cells slots : Nat} {Q : State → Prop}
variable {cc : ByteArray} {pc nL : Nat} {ls : Array Slot} {rest st0 : List Value} {ws : va_W} {own : String} {Ts : List Cond} {E : zG}
theorem z_multi (X : zC E p m c cc nL s args Ts own) (J : zJ E ws s H locs) {index : Nat} (hcl : Cond.classLink own index "[[I" ∈ Ts) (harr : Cond.arrayClass .int ∈ Ts) (hcells : cells + 21 ≤ R.cells) (hslots : slots + 420 ≤ R.slots) (hdg : decode cc pc = .ok (.multianewarray index 2, 4))
    (kk : ∀ (q : Nat) (ra : Nat → Nat) (ws1 : va_W) (H1 : Heap), ws1.length = ws.length + 21 → zK [] ws ws1 → ws1[ws.length]? = some (q, zA4 E 20 (fun j => if j < 20 then some (ra j) else none)) → (∀ r, r < 20 → ws1[ws.length + 1 + r]? = some (ra r, zI4 E 20 (fun _ => 0))) → zJ E ws1 s H1 locs →
      W p l e R s m args below meth c H1 locs (cells + 21) (slots + 420) Q (F0 m (pc + 4) ls (.ref q :: rest))) : W p l e R s m args below meth c H locs cells slots Q (F0 m pc ls (.int 20 :: .int 20 :: rest)) := by
  intro T hT X9
  obtain ⟨hP, hD, hS⟩ := J
  subst hT
  have e20 : (20 : Int32).toNatClampNeg = 20 := by decide
  obtain ⟨vm1, cA, comp, hW, hfA, hfC, -, -, X1, step⟩ := X9.multianewarray2F (ty := .int) (n := 20) (k := 20) (rest := rest) X.1.1 X.1.2.2.2.1 (by rw [znmA]; exact X.1.2.2.2.2 _ hcl) (zAO2.use X.2.2.1.2.2.2.2.2.2.2.1) (X.1.2.2.2.2 _ harr) (g := F0 m pc ls (.int 20 :: .int 20 :: rest)) rfl (by rw [X.1.2.1]; exact hdg) rfl (by decide) (by decide) (by decide) (by decide) (by decide) (by decide) (by decide) (by rw [e20]; exact hcells) (by rw [e20]; exact hslots)
  rw [e20] at X1 step
  rw [znmA] at hfA
  rw [znmI2] at hfC
  have e1 : E.2.1.2.2 = cA := Option.some.inj ((zK.cA X.2.1).symm.trans hfA)
  have e2 : E.2.1.1 = comp := Option.some.inj ((zK.cI X.2.1).symm.trans hfC)
  subst e1 e2
  have hf := Jvm.Free.Multi.fill_facts (T.setVm vm1) E.2.1.2.2 E.2.1.1 20 20 (defaultValue .int) 20
  generalize hF : Jvm.Free.Multi.fill (T.setVm vm1) E.2.1.2.2 E.2.1.1 20 20 (defaultValue .int) 20 = F at X1 step hf
  obtain ⟨f1, f2, -, -⟩ := hf
  have z0 : (T.setVm vm1).heap = T.heap := rfl
  rw [z0] at f1 f2
  rw [zouter] at f2
  have fo : ∀ a : Nat, a < T.heap.size → F.heap[a]? = T.heap[a]? := fun a ha => by rw [← hF]; exact Jvm.Free.Multi.fill_old (T.setVm vm1) _ _ _ _ _ ha 20
  have fi : ∀ j : Nat, j < 20 → F.heap[T.heap.size + 1 + j]? = some (arrV E.2.1.1 20 (fun _ => .int 0)) := fun j hj => by
    rw [← hF]
    have h9 := Jvm.Free.Multi.fill_inner (T.setVm vm1) E.2.1.2.2 E.2.1.1 20 20 (defaultValue .int) 20 j hj
    rw [z0] at h9
    rw [h9, ← arrV_new]
    rfl
  let more : va_W := (T.heap.size, zA4 E 20 (fun j => if j < 20 then some (T.heap.size + 1 + j) else none)) :: (List.range 20).map (fun j => (T.heap.size + 1 + j, zI4 E 20 (fun _ => 0)))
  have hm0 : more[0]? = some (T.heap.size, zA4 E 20 (fun j => if j < 20 then some (T.heap.size + 1 + j) else none)) := rfl
  have hm1 : ∀ r, r < 20 → more[1 + r]? = some (T.heap.size + 1 + r, zI4 E 20 (fun _ => 0)) := fun r hr => by
    rw [Nat.add_comm 1 r]
    show ((List.range 20).map (fun j => ((T.heap.size + 1 + j, zI4 E 20 (fun _ => 0)) : Nat × va_E)))[r]? = _
    rw [List.getElem?_map, List.getElem?_range hr]
    rfl
  have hml : more.length = 21 := by simp [more]
  have hmk : ∀ (k : Nat) (x : Nat × va_E), more[k]? = some x → va_at E.1 vwCl x F.heap ∧ x.1 = T.heap.size + k ∧ k < 21 := fun k x hx => by
    have hk : k < 21 := by rw [← hml]; exact (List.getElem?_eq_some_iff.mp hx).1
    rcases Nat.eq_zero_or_pos k with rfl | q
    · rw [hm0] at hx
      cases hx
      exact ⟨by show F.heap[T.heap.size]? = some (vp_cell _ _); rw [vp_cell_q]; exact f2, rfl, hk⟩
    · obtain ⟨r, rfl⟩ : ∃ r, k = 1 + r := ⟨k - 1, by omega⟩
      rw [hm1 r (by omega)] at hx
      cases hx
      exact ⟨by show F.heap[T.heap.size + 1 + r]? = some (vp_cell _ _); rw [vp_cell_i]; exact fi r (by omega), by show T.heap.size + 1 + r = _; omega, hk⟩
  have hP1 : va_P E.1 vwCl (ws ++ more) F.heap := (hP.kept (fun k x hx => fo x.1 ((hP k x hx).lt))).app (fun k x hx => (hmk k x hx).1)
  have hold : ∀ (k : Nat) (x : Nat × va_E), ws[k]? = some x → x.1 < T.heap.size := fun k x hx => (hP k x hx).lt
  have hD1 : va_D (zA E) (ws ++ more) := by
    refine ⟨fun i j x y hi hj hxy => ?_, fun k x hx => ?_⟩
    · rcases Nat.lt_or_ge i ws.length with qi | qi <;> rcases Nat.lt_or_ge j ws.length with qj | qj
      · rw [List.getElem?_append_left qi] at hi
        rw [List.getElem?_append_left qj] at hj
        exact hD.1 i j x y hi hj hxy
      · rw [List.getElem?_append_left qi] at hi
        rw [List.getElem?_append_right qj] at hj
        have h1 := hold _ _ hi
        have h2 := (hmk _ _ hj).2.1
        omega
      · rw [List.getElem?_append_right qi] at hi
        rw [List.getElem?_append_left qj] at hj
        have h1 := hold _ _ hj
        have h2 := (hmk _ _ hi).2.1
        omega
      · rw [List.getElem?_append_right qi] at hi
        rw [List.getElem?_append_right qj] at hj
        have h1 := (hmk _ _ hi).2.1
        have h2 := (hmk _ _ hj).2.1
        omega
    · rcases Nat.lt_or_ge k ws.length with q | q
      · rw [List.getElem?_append_left q] at hx
        exact hD.2 k x hx
      · rw [List.getElem?_append_right q] at hx
        show E.2.2.2.1 ≤ x.1
        have h2 := (hmk _ _ hx).2.1
        have h3 := hS.1
        have h4 := X.2.2.2
        omega
  have hS1 : va_S (zA E) s.heap F.heap locs := ⟨Nat.le_trans hS.1 (by omega), fun q h1 h2 => (fo q (Nat.lt_of_lt_of_le h1 hS.1)).trans (hS.2.1 q h1 h2), hS.2.2⟩
  obtain ⟨t, a1, b1⟩ := kk T.heap.size (fun j => T.heap.size + 1 + j) (ws ++ more) F.heap (by rw [List.length_append, hml]) zK.app
    (by rw [List.getElem?_append_right (Nat.le_refl _), Nat.sub_self]; exact hm0)
    (fun r hr => by rw [List.getElem?_append_right (by omega), show ws.length + 1 + r - ws.length = 1 + r by omega]; exact hm1 r hr)
    ⟨hP1, hD1, hS1⟩ F rfl X1
  exact ⟨t, step t a1, b1⟩
end ZMU
