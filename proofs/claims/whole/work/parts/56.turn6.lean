set_option maxHeartbeats 2000000 in
set_option maxRecDepth 100000 in
theorem turn_fence {p : Program} {l : Launch} (hflags : l.flags = flags0) {e : Env} {s : State} {m : MethodId} {below : List Frame} {meth : Method} {c : Code} {b L : Nat} {xs : Nat → Int32} (E : zG) (X : zC E p m c cL_law 9 s #[.ref b] wsL_law RL) (hRz : zR s) (hNz : zNc s) (hXs : va_X b L xs s s.heap) (hbl : b < s.heap.size) (hbA : ¬ zA E b) (hE1 : ¬ zA E E.2.2.1) (hL9 : L ≤ 3584) {QQ : State → Prop} {ws : va_W} {x mo ou i cells slots : Nat} {H : Heap} {locs : List Loc} {ls : Array Slot} (hi : i + 7 ≤ L) (hW : LW E ws x mo ou) (J : zJ E ws s H locs) (hl : lv_has ls 9 [(4, .int (nI i)), (3, .ref ou), (2, .ref mo), (1, .ref x), (0, .ref b)]) (hc9 : cells + 700 ≤ 601024) (hs9 : slots + 4500 ≤ 7293034)
    (kk : ∀ (ws' : va_W) (H' : Heap) (locs' : List Loc) (ls' : Array Slot), LW E ws' x mo ou → zJ E ws' s H' locs' → lv_has ls' 9 [(4, .int (nI i)), (3, .ref ou), (2, .ref mo), (1, .ref x), (0, .ref b)] → W p l e room_1 s m #[.ref b] below meth c H' locs' (cells + 700) (slots + 4500) QQ (F0 m 1425 ls' [])) :
    W p l e room_1 s m #[.ref b] below meth c H locs cells slots QQ (F0 m 132 ls []) := by
  obtain ⟨fl, rl, wh, gr, gra, tr, tra, sc, ha, va, mf, md, mi, ms9, mk, mt, ea, eb, nf, nr, mc1, mc2, lim, sup, off, plo, hrs, th, fa, rd, ri, sn, t9, hf, gf, kp, tp, o9, Fa0, Fa1, Fa2, Fa3, Fa4, Fa5, Fa6, Fa7, Fa8, Fa9, Fa10, Fa11, Fa12, Fa13, Fa14, Fa15, Fa16, Fa17, Fa18, hF, hR, hSep, hnf, hnr, hok, hor, hRB, hBI⟩ := hW
  have hx := X.1.1
  have hb := X.1.2.1
  have hown := X.1.2.2.2.1
  have hts := X.1.2.2.2.2
  have hk : zK [0, 1, 2, 3, 4, 5, 6, 7, 8, 9, 10, 11, 12, 13, 14, 15, 16, 17, 18] ws ws := zK.rf
  have hlen19 := zlt Fa18
  have hJ9 := J.2.1
  rcases hF with ⟨hn0, he0⟩ | ⟨qe, g, fo9, qf9, sp9, qs9, hFa⟩
  · subst hn0
    subst he0
    have hF : FS E ws fa E.2.2.1 0 := Or.inl ⟨rfl, rfl⟩
    refine lv_aload_n hx hb dL_law_132 rfl (lv_at hl 3 rfl) ?_
    refine lv_aload_n hx hb dL_law_133 rfl (lv_at hl 4 rfl) ?_
    refine lv_iload hx hb dL_law_134 (lv_at hl 0 rfl) ?_
    refine lv_iconst (v := 1) hx hb dL_law_136 (by decide) ?_
    refine lv_iadd hx hb dL_law_137 ?_
    refine W.eq (g2 := F0 m 138 ls [.int (nI (i + 1)), .ref b, .ref x]) (congrArg (fun z9 : Int32 => F0 m 138 ls [.int z9, .ref b, .ref x]) (show ((nI i) + 1 : Int32) = nI (i + 1) from (nI_add i 1))) ?_
    refine va_sld hx hb hXs hbl hbA J.2.2 (vp_in_nI (by omega) (by omega)) dL_law_138 ?_
    refine W.eq (g2 := F0 m 139 ls [.int (xs (i + 1)), .ref x]) (congrArg (fun z9 : Int32 => F0 m 139 ls [.int z9, .ref x]) (show (xs (nI (i + 1)).toNatClampNeg : Int32) = xs (i + 1) from (congrArg xs (nI_clamp (by omega))))) ?_
    refine lv_aload_n hx hb dL_law_139 rfl (lv_at hl 4 rfl) ?_
    refine lv_iload hx hb dL_law_140 (lv_at hl 0 rfl) ?_
    refine lv_iconst (v := 2) hx hb dL_law_142 (by decide) ?_
    refine lv_iadd hx hb dL_law_143 ?_
    refine W.eq (g2 := F0 m 144 ls [.int (nI (i + 2)), .ref b, .int (xs (i + 1)), .ref x]) (congrArg (fun z9 : Int32 => F0 m 144 ls [.int z9, .ref b, .int (xs (i + 1)), .ref x]) (show ((nI i) + 2 : Int32) = nI (i + 2) from (nI_add i 2))) ?_
    refine va_sld hx hb hXs hbl hbA J.2.2 (vp_in_nI (by omega) (by omega)) dL_law_144 ?_
    refine W.eq (g2 := F0 m 145 ls [.int (xs (i + 2)), .int (xs (i + 1)), .ref x]) (congrArg (fun z9 : Int32 => F0 m 145 ls [.int z9, .int (xs (i + 1)), .ref x]) (show (xs (nI (i + 2)).toNatClampNeg : Int32) = xs (i + 2) from (congrArg xs (nI_clamp (by omega))))) ?_
    refine lv_aload_n hx hb dL_law_145 rfl (lv_at hl 4 rfl) ?_
    refine lv_iload hx hb dL_law_146 (lv_at hl 0 rfl) ?_
    refine lv_iconst (v := 3) hx hb dL_law_148 (by decide) ?_
    refine lv_iadd hx hb dL_law_149 ?_
    refine W.eq (g2 := F0 m 150 ls [.int (nI (i + 3)), .ref b, .int (xs (i + 2)), .int (xs (i + 1)), .ref x]) (congrArg (fun z9 : Int32 => F0 m 150 ls [.int z9, .ref b, .int (xs (i + 2)), .int (xs (i + 1)), .ref x]) (show ((nI i) + 3 : Int32) = nI (i + 3) from (nI_add i 3))) ?_
    refine va_sld hx hb hXs hbl hbA J.2.2 (vp_in_nI (by omega) (by omega)) dL_law_150 ?_
    refine W.eq (g2 := F0 m 151 ls [.int (xs (i + 3)), .int (xs (i + 2)), .int (xs (i + 1)), .ref x]) (congrArg (fun z9 : Int32 => F0 m 151 ls [.int z9, .int (xs (i + 2)), .int (xs (i + 1)), .ref x]) (show (xs (nI (i + 3)).toNatClampNeg : Int32) = xs (i + 3) from (congrArg xs (nI_clamp (by omega))))) ?_
    refine lv_aload_n hx hb dL_law_151 rfl (lv_at hl 4 rfl) ?_
    refine lv_iload hx hb dL_law_152 (lv_at hl 0 rfl) ?_
    refine lv_iconst (v := 4) hx hb dL_law_154 (by decide) ?_
    refine lv_iadd hx hb dL_law_155 ?_
    refine W.eq (g2 := F0 m 156 ls [.int (nI (i + 4)), .ref b, .int (xs (i + 3)), .int (xs (i + 2)), .int (xs (i + 1)), .ref x]) (congrArg (fun z9 : Int32 => F0 m 156 ls [.int z9, .ref b, .int (xs (i + 3)), .int (xs (i + 2)), .int (xs (i + 1)), .ref x]) (show ((nI i) + 4 : Int32) = nI (i + 4) from (nI_add i 4))) ?_
    refine va_sld hx hb hXs hbl hbA J.2.2 (vp_in_nI (by omega) (by omega)) dL_law_156 ?_
    refine W.eq (g2 := F0 m 157 ls [.int (xs (i + 4)), .int (xs (i + 3)), .int (xs (i + 2)), .int (xs (i + 1)), .ref x]) (congrArg (fun z9 : Int32 => F0 m 157 ls [.int z9, .int (xs (i + 3)), .int (xs (i + 2)), .int (xs (i + 1)), .ref x]) (show (xs (nI (i + 4)).toNatClampNeg : Int32) = xs (i + 4) from (congrArg xs (nI_clamp (by omega))))) ?_
    refine lv_if_eq (tgt := 164) hx hb dL_law_157 (by decide) (fun cz157 => ?_) (fun cz157 => ?_)
    · refine lv_iconst (v := 0) hx hb dL_law_164 (by decide) ?_
      refine lv_aload_n hx hb dL_law_165 rfl (lv_at hl 4 rfl) ?_
      refine lv_iload hx hb dL_law_166 (lv_at hl 0 rfl) ?_
      refine lv_iconst (v := 5) hx hb dL_law_168 (by decide) ?_
      refine lv_iadd hx hb dL_law_169 ?_
      refine W.eq (g2 := F0 m 170 ls [.int (nI (i + 5)), .ref b, .int 0, .int (xs (i + 3)), .int (xs (i + 2)), .int (xs (i + 1)), .ref x]) (congrArg (fun z9 : Int32 => F0 m 170 ls [.int z9, .ref b, .int 0, .int (xs (i + 3)), .int (xs (i + 2)), .int (xs (i + 1)), .ref x]) (show ((nI i) + 5 : Int32) = nI (i + 5) from (nI_add i 5))) ?_
      refine va_sld hx hb hXs hbl hbA J.2.2 (vp_in_nI (by omega) (by omega)) dL_law_170 ?_
      refine W.eq (g2 := F0 m 171 ls [.int (xs (i + 5)), .int 0, .int (xs (i + 3)), .int (xs (i + 2)), .int (xs (i + 1)), .ref x]) (congrArg (fun z9 : Int32 => F0 m 171 ls [.int z9, .int 0, .int (xs (i + 3)), .int (xs (i + 2)), .int (xs (i + 1)), .ref x]) (show (xs (nI (i + 5)).toNatClampNeg : Int32) = xs (i + 5) from (congrArg xs (nI_clamp (by omega))))) ?_
      refine lv_aload_n hx hb dL_law_171 rfl (lv_at hl 4 rfl) ?_
      refine lv_iload hx hb dL_law_172 (lv_at hl 0 rfl) ?_
      refine lv_bipush (v := 6) hx hb dL_law_174 (by decide) ?_
      refine lv_iadd hx hb dL_law_176 ?_
      refine W.eq (g2 := F0 m 177 ls [.int (nI (i + 6)), .ref b, .int (xs (i + 5)), .int 0, .int (xs (i + 3)), .int (xs (i + 2)), .int (xs (i + 1)), .ref x]) (congrArg (fun z9 : Int32 => F0 m 177 ls [.int z9, .ref b, .int (xs (i + 5)), .int 0, .int (xs (i + 3)), .int (xs (i + 2)), .int (xs (i + 1)), .ref x]) (show ((nI i) + 6 : Int32) = nI (i + 6) from (nI_add i 6))) ?_
      refine va_sld hx hb hXs hbl hbA J.2.2 (vp_in_nI (by omega) (by omega)) dL_law_177 ?_
      refine W.eq (g2 := F0 m 178 ls [.int (xs (i + 6)), .int (xs (i + 5)), .int 0, .int (xs (i + 3)), .int (xs (i + 2)), .int (xs (i + 1)), .ref x]) (congrArg (fun z9 : Int32 => F0 m 178 ls [.int z9, .int (xs (i + 5)), .int 0, .int (xs (i + 3)), .int (xs (i + 2)), .int (xs (i + 1)), .ref x]) (show (xs (nI (i + 6)).toNatClampNeg : Int32) = xs (i + 6) from (congrArg xs (nI_clamp (by omega))))) ?_
      refine lv_aload_n hx hb dL_law_178 rfl (lv_at hl 1 rfl) ?_
      refine z_xi J (z_wS (As := [.ref x, .int (xs (i + 1)), .int (xs (i + 2)), .int (xs (i + 3)), .int 0, .int (xs (i + 5)), .int (xs (i + 6)), .ref ou]) (rest := []) X hRz hNz J (cL_fence_e_ok l hflags E Fa0 Fa1 Fa18 (by first | exact Or.inl rfl | exact Or.inr rfl)) (vx_cwSW (hh := [(0, 18, 21, 13), (0, 18, 25, 15), (0, 18, 29, 17)]) 8 hts gL_law_L_fence rfl rfl rfl (by decide +kernel) ⟨Nat.le_of_ble_eq_true rfl, Nat.le_of_ble_eq_true rfl⟩) rfl hl.1 rfl (Nat.le_of_ble_eq_true rfl) dL_law_179 ⟨by show _ ≤ 601024; omega, by show _ ≤ 7293034; omega⟩) (fun nm ce q9 H locs hp9 J h1 h2 h3 => ?_) (fun r179 ws_1 H locs hp9 J => ?_)
      · exact False.elim (by exact hp9)
      rcases hp9 with ⟨e_v, e_k, rfl⟩ | ⟨e_v, e_k, k1, ⟨fo_1, sp_1, nq_1, hlen1, G1_a0, G1_a1, N1_0, N1_1, N1_2⟩⟩
      · subst e_v
        refine lv_istore (lv' := [(5, .int (kFence (xs (i + 1)) (xs (i + 2)) (xs (i + 3)) 0 (xs (i + 5)) (xs (i + 6)) (nI 0))), (4, .int (nI i)), (3, .ref ou), (2, .ref mo), (1, .ref x), (0, .ref b)]) hx hb dL_law_182 hl (by decide) rfl (fun ls hl => ?_)
        refine lv_aload_n hx hb dL_law_184 rfl (lv_at hl 3 rfl) ?_
        refine lv_aload_n hx hb dL_law_185 rfl (lv_at hl 5 rfl) ?_
        refine lv_iload hx hb dL_law_186 (lv_at hl 1 rfl) ?_
        refine lv_iconst (v := 1) hx hb dL_law_188 (by decide) ?_
        refine lv_iadd hx hb dL_law_189 ?_
        refine W.eq (g2 := F0 m 190 ls [.int (nI (i + 1)), .ref b, .ref mo]) (congrArg (fun z9 : Int32 => F0 m 190 ls [.int z9, .ref b, .ref mo]) (show ((nI i) + 1 : Int32) = nI (i + 1) from (nI_add i 1))) ?_
        refine va_sld hx hb hXs hbl hbA J.2.2 (vp_in_nI (by omega) (by omega)) dL_law_190 ?_
        refine W.eq (g2 := F0 m 191 ls [.int (xs (i + 1)), .ref mo]) (congrArg (fun z9 : Int32 => F0 m 191 ls [.int z9, .ref mo]) (show (xs (nI (i + 1)).toNatClampNeg : Int32) = xs (i + 1) from (congrArg xs (nI_clamp (by omega))))) ?_
        refine lv_aload_n hx hb dL_law_191 rfl (lv_at hl 5 rfl) ?_
        refine lv_iload hx hb dL_law_192 (lv_at hl 1 rfl) ?_
        refine lv_iconst (v := 2) hx hb dL_law_194 (by decide) ?_
        refine lv_iadd hx hb dL_law_195 ?_
        refine W.eq (g2 := F0 m 196 ls [.int (nI (i + 2)), .ref b, .int (xs (i + 1)), .ref mo]) (congrArg (fun z9 : Int32 => F0 m 196 ls [.int z9, .ref b, .int (xs (i + 1)), .ref mo]) (show ((nI i) + 2 : Int32) = nI (i + 2) from (nI_add i 2))) ?_
        refine va_sld hx hb hXs hbl hbA J.2.2 (vp_in_nI (by omega) (by omega)) dL_law_196 ?_
        refine W.eq (g2 := F0 m 197 ls [.int (xs (i + 2)), .int (xs (i + 1)), .ref mo]) (congrArg (fun z9 : Int32 => F0 m 197 ls [.int z9, .int (xs (i + 1)), .ref mo]) (show (xs (nI (i + 2)).toNatClampNeg : Int32) = xs (i + 2) from (congrArg xs (nI_clamp (by omega))))) ?_
        refine lv_aload_n hx hb dL_law_197 rfl (lv_at hl 5 rfl) ?_
        refine lv_iload hx hb dL_law_198 (lv_at hl 1 rfl) ?_
        refine lv_iconst (v := 3) hx hb dL_law_200 (by decide) ?_
        refine lv_iadd hx hb dL_law_201 ?_
        refine W.eq (g2 := F0 m 202 ls [.int (nI (i + 3)), .ref b, .int (xs (i + 2)), .int (xs (i + 1)), .ref mo]) (congrArg (fun z9 : Int32 => F0 m 202 ls [.int z9, .ref b, .int (xs (i + 2)), .int (xs (i + 1)), .ref mo]) (show ((nI i) + 3 : Int32) = nI (i + 3) from (nI_add i 3))) ?_
        refine va_sld hx hb hXs hbl hbA J.2.2 (vp_in_nI (by omega) (by omega)) dL_law_202 ?_
        refine W.eq (g2 := F0 m 203 ls [.int (xs (i + 3)), .int (xs (i + 2)), .int (xs (i + 1)), .ref mo]) (congrArg (fun z9 : Int32 => F0 m 203 ls [.int z9, .int (xs (i + 2)), .int (xs (i + 1)), .ref mo]) (show (xs (nI (i + 3)).toNatClampNeg : Int32) = xs (i + 3) from (congrArg xs (nI_clamp (by omega))))) ?_
        refine lv_aload_n hx hb dL_law_203 rfl (lv_at hl 5 rfl) ?_
        refine lv_iload hx hb dL_law_204 (lv_at hl 1 rfl) ?_
        refine lv_iconst (v := 4) hx hb dL_law_206 (by decide) ?_
        refine lv_iadd hx hb dL_law_207 ?_
        refine W.eq (g2 := F0 m 208 ls [.int (nI (i + 4)), .ref b, .int (xs (i + 3)), .int (xs (i + 2)), .int (xs (i + 1)), .ref mo]) (congrArg (fun z9 : Int32 => F0 m 208 ls [.int z9, .ref b, .int (xs (i + 3)), .int (xs (i + 2)), .int (xs (i + 1)), .ref mo]) (show ((nI i) + 4 : Int32) = nI (i + 4) from (nI_add i 4))) ?_
        refine va_sld hx hb hXs hbl hbA J.2.2 (vp_in_nI (by omega) (by omega)) dL_law_208 ?_
        refine W.eq (g2 := F0 m 209 ls [.int (xs (i + 4)), .int (xs (i + 3)), .int (xs (i + 2)), .int (xs (i + 1)), .ref mo]) (congrArg (fun z9 : Int32 => F0 m 209 ls [.int z9, .int (xs (i + 3)), .int (xs (i + 2)), .int (xs (i + 1)), .ref mo]) (show (xs (nI (i + 4)).toNatClampNeg : Int32) = xs (i + 4) from (congrArg xs (nI_clamp (by omega))))) ?_
        refine lv_if_eq (tgt := 216) hx hb dL_law_209 (by decide) (fun cz209 => ?_) (fun cz209 => by exact (cz209 cz157).elim)
        refine lv_iconst (v := 0) hx hb dL_law_216 (by decide) ?_
        refine lv_aload_n hx hb dL_law_217 rfl (lv_at hl 5 rfl) ?_
        refine lv_iload hx hb dL_law_218 (lv_at hl 1 rfl) ?_
        refine lv_iconst (v := 5) hx hb dL_law_220 (by decide) ?_
        refine lv_iadd hx hb dL_law_221 ?_
        refine W.eq (g2 := F0 m 222 ls [.int (nI (i + 5)), .ref b, .int 0, .int (xs (i + 3)), .int (xs (i + 2)), .int (xs (i + 1)), .ref mo]) (congrArg (fun z9 : Int32 => F0 m 222 ls [.int z9, .ref b, .int 0, .int (xs (i + 3)), .int (xs (i + 2)), .int (xs (i + 1)), .ref mo]) (show ((nI i) + 5 : Int32) = nI (i + 5) from (nI_add i 5))) ?_
        refine va_sld hx hb hXs hbl hbA J.2.2 (vp_in_nI (by omega) (by omega)) dL_law_222 ?_
        refine W.eq (g2 := F0 m 223 ls [.int (xs (i + 5)), .int 0, .int (xs (i + 3)), .int (xs (i + 2)), .int (xs (i + 1)), .ref mo]) (congrArg (fun z9 : Int32 => F0 m 223 ls [.int z9, .int 0, .int (xs (i + 3)), .int (xs (i + 2)), .int (xs (i + 1)), .ref mo]) (show (xs (nI (i + 5)).toNatClampNeg : Int32) = xs (i + 5) from (congrArg xs (nI_clamp (by omega))))) ?_
        refine lv_aload_n hx hb dL_law_223 rfl (lv_at hl 5 rfl) ?_
        refine lv_iload hx hb dL_law_224 (lv_at hl 1 rfl) ?_
        refine lv_bipush (v := 6) hx hb dL_law_226 (by decide) ?_
        refine lv_iadd hx hb dL_law_228 ?_
        refine W.eq (g2 := F0 m 229 ls [.int (nI (i + 6)), .ref b, .int (xs (i + 5)), .int 0, .int (xs (i + 3)), .int (xs (i + 2)), .int (xs (i + 1)), .ref mo]) (congrArg (fun z9 : Int32 => F0 m 229 ls [.int z9, .ref b, .int (xs (i + 5)), .int 0, .int (xs (i + 3)), .int (xs (i + 2)), .int (xs (i + 1)), .ref mo]) (show ((nI i) + 6 : Int32) = nI (i + 6) from (nI_add i 6))) ?_
        refine va_sld hx hb hXs hbl hbA J.2.2 (vp_in_nI (by omega) (by omega)) dL_law_229 ?_
        refine W.eq (g2 := F0 m 230 ls [.int (xs (i + 6)), .int (xs (i + 5)), .int 0, .int (xs (i + 3)), .int (xs (i + 2)), .int (xs (i + 1)), .ref mo]) (congrArg (fun z9 : Int32 => F0 m 230 ls [.int z9, .int (xs (i + 5)), .int 0, .int (xs (i + 3)), .int (xs (i + 2)), .int (xs (i + 1)), .ref mo]) (show (xs (nI (i + 6)).toNatClampNeg : Int32) = xs (i + 6) from (congrArg xs (nI_clamp (by omega))))) ?_
        refine z_ci J (z_rV (As := [.int (xs (i + 1)), .int (xs (i + 2)), .int (xs (i + 3)), .int 0, .int (xs (i + 5)), .int (xs (i + 6))]) (rest := []) (ci := 8) (q0 := 11) X J (cX7_fence_ok l E Fa11 Fa12 (by first | assumption | omega | decide) (zlt Fa12)) (cwV 6 hts gL_law_X7_fence rfl rfl rfl (by decide +kernel) ⟨Nat.le_of_ble_eq_true rfl, Nat.le_of_ble_eq_true rfl⟩) Fa11 rfl rfl rfl hl.1 rfl (Nat.le_of_ble_eq_true rfl) dL_law_230 ⟨by show _ ≤ 601024; omega, by show _ ≤ 7293034; omega⟩) (fun r230 ws_2 H locs hp9 J => ?_)
        obtain ⟨k2, G2_a0, G2_a1, e_r230⟩ := hp9
        have hk := hk.trans (k2.mono (by decide))
        have G2_0 := k2.2 0 _ (by decide) Fa0
        have G2_1 := k2.2 1 _ (by decide) Fa1
        have G2_2 := k2.2 2 _ (by decide) Fa2
        have G2_3 := k2.2 3 _ (by decide) Fa3
        have G2_4 := k2.2 4 _ (by decide) Fa4
        have G2_5 := k2.2 5 _ (by decide) Fa5
        have G2_6 := k2.2 6 _ (by decide) Fa6
        have G2_7 := k2.2 7 _ (by decide) Fa7
        have G2_8 := k2.2 8 _ (by decide) Fa8
        have G2_9 := k2.2 9 _ (by decide) Fa9
        have G2_10 := k2.2 10 _ (by decide) Fa10
        have G2_13 := k2.2 13 _ (by decide) Fa13
        have G2_14 := k2.2 14 _ (by decide) Fa14
        have G2_15 := k2.2 15 _ (by decide) Fa15
        have G2_16 := k2.2 16 _ (by decide) Fa16
        have G2_17 := k2.2 17 _ (by decide) Fa17
        have G2_18 := k2.2 18 _ (by decide) Fa18
        have F11 : ws_2[11]? = some (mo, .inr (8, [.int (kFence (xs (i + 1)) (xs (i + 2)) (xs (i + 3)) 0 (xs (i + 5)) (xs (i + 6)) (nI 0)), .int (nI 0), .ref mf, .int (nI nr), .ref md, .ref mi, .int lim, .int sup, .int off, .int plo, .int hrs, .ref ms9, .ref mk, .ref mt])) := by simpa only [selN e_k] using G2_a0
        refine lv_istore (lv' := [(6, .int r230), (5, .int (kFence (xs (i + 1)) (xs (i + 2)) (xs (i + 3)) 0 (xs (i + 5)) (xs (i + 6)) (nI 0))), (4, .int (nI i)), (3, .ref ou), (2, .ref mo), (1, .ref x), (0, .ref b)]) hx hb dL_law_233 hl (by decide) rfl (fun ls hl => ?_)
        refine lv_aload_n hx hb dL_law_235 rfl (lv_at hl 4 rfl) ?_
        refine z_cr (z_rV (As := []) (rest := []) (ci := 8) (q0 := 11) X J (cX7_thrown_ok l E F11) (cwV 0 hts gL_law_X7_thrown rfl rfl rfl (by decide +kernel) ⟨Nat.le_of_ble_eq_true rfl, Nat.le_of_ble_eq_true rfl⟩) F11 rfl rfl rfl hl.1 rfl (Nat.le_of_ble_eq_true rfl) dL_law_236 ⟨by show _ ≤ 601024; omega, by show _ ≤ 7293034; omega⟩) (fun r236 e_r236 => ?_)
        subst e_r236
        refine lv_iload hx hb dL_law_239 (lv_at hl 1 rfl) ?_
        refine lv_icmp_eq (tgt := 246) hx hb dL_law_241 (by decide) (fun cz241 => ?_) (fun cz241 => by exact (cz241 rfl).elim)
        refine lv_iload hx hb dL_law_246 (lv_at hl 1 rfl) ?_
        refine lv_if_ne (tgt := 263) hx hb dL_law_248 (by decide) (fun cz248 => ?_) (fun cz248 => by exact (e_k cz248).elim)
        refine lv_goto (tgt := 1425) hx hb dL_law_263 (by decide) ?_
        refine W.widen (k := cells + 700) (n := slots + 4500) (by omega) (by omega) ?_
        exact kk _ H locs _ ⟨fl, rl, wh, gr, gra, tr, tra, sc, ha, va, mf, md, mi, ms9, mk, mt, E.2.2.1, eb, 0, nr, mc1, mc2, lim, sup, off, plo, hrs, (kFence (xs (i + 1)) (xs (i + 2)) (xs (i + 3)) 0 (xs (i + 5)) (xs (i + 6)) (nI 0)), fa, rd, ri, sn, t9, hf, gf, kp, tp, o9, G2_0, G2_1, G2_2, G2_3, G2_4, G2_5, G2_6, G2_7, G2_8, G2_9, G2_10, F11, (by simpa only [selN e_k] using G2_a1), G2_13, G2_14, G2_15, G2_16, G2_17, G2_18, (hF.keep hk (by decide)), (hR.keep hk (by decide)), hSep, hnf, hnr, hok, hor, hRB, hBI⟩ J (lv_sub hl [2, 3, 4, 5, 6] rfl)
      · subst e_v
        have lp1 := hk.1
        have b_1_0 := zlt Fa0
        have b_1_1 := zlt Fa1
        have b_1_2 := zlt Fa2
        have b_1_3 := zlt Fa3
        have b_1_4 := zlt Fa4
        have b_1_5 := zlt Fa5
        have b_1_6 := zlt Fa6
        have b_1_7 := zlt Fa7
        have b_1_8 := zlt Fa8
        have b_1_9 := zlt Fa9
        have b_1_10 := zlt Fa10
        have b_1_11 := zlt Fa11
        have b_1_12 := zlt Fa12
        have b_1_13 := zlt Fa13
        have b_1_14 := zlt Fa14
        have b_1_15 := zlt Fa15
        have b_1_16 := zlt Fa16
        have b_1_17 := zlt Fa17
        have b_1_18 := zlt Fa18
        have hk := hk.trans (k1.mono (by decide))
        have G1_0 := k1.2 0 _ (by decide) Fa0
        have G1_2 := k1.2 2 _ (by decide) Fa2
        have G1_3 := k1.2 3 _ (by decide) Fa3
        have G1_4 := k1.2 4 _ (by decide) Fa4
        have G1_5 := k1.2 5 _ (by decide) Fa5
        have G1_6 := k1.2 6 _ (by decide) Fa6
        have G1_7 := k1.2 7 _ (by decide) Fa7
        have G1_8 := k1.2 8 _ (by decide) Fa8
        have G1_9 := k1.2 9 _ (by decide) Fa9
        have G1_10 := k1.2 10 _ (by decide) Fa10
        have G1_11 := k1.2 11 _ (by decide) Fa11
        have G1_12 := k1.2 12 _ (by decide) Fa12
        have G1_13 := k1.2 13 _ (by decide) Fa13
        have G1_14 := k1.2 14 _ (by decide) Fa14
        have G1_15 := k1.2 15 _ (by decide) Fa15
        have G1_16 := k1.2 16 _ (by decide) Fa16
        have G1_17 := k1.2 17 _ (by decide) Fa17
        obtain ⟨pn_1_0, hpn_1_0⟩ : ∃ z : Nat, z = ws.length + 0 := ⟨_, rfl⟩
        rw [← hpn_1_0] at N1_0
        obtain ⟨pn_1_1, hpn_1_1⟩ : ∃ z : Nat, z = ws.length + 1 := ⟨_, rfl⟩
        rw [← hpn_1_1] at N1_1
        obtain ⟨pn_1_2, hpn_1_2⟩ : ∃ z : Nat, z = ws.length + 2 := ⟨_, rfl⟩
        rw [← hpn_1_2] at N1_2
        refine lv_istore (lv' := [(5, .int 0), (4, .int (nI i)), (3, .ref ou), (2, .ref mo), (1, .ref x), (0, .ref b)]) hx hb dL_law_182 hl (by decide) rfl (fun ls hl => ?_)
        refine lv_aload_n hx hb dL_law_184 rfl (lv_at hl 3 rfl) ?_
        refine lv_aload_n hx hb dL_law_185 rfl (lv_at hl 5 rfl) ?_
        refine lv_iload hx hb dL_law_186 (lv_at hl 1 rfl) ?_
        refine lv_iconst (v := 1) hx hb dL_law_188 (by decide) ?_
        refine lv_iadd hx hb dL_law_189 ?_
        refine W.eq (g2 := F0 m 190 ls [.int (nI (i + 1)), .ref b, .ref mo]) (congrArg (fun z9 : Int32 => F0 m 190 ls [.int z9, .ref b, .ref mo]) (show ((nI i) + 1 : Int32) = nI (i + 1) from (nI_add i 1))) ?_
        refine va_sld hx hb hXs hbl hbA J.2.2 (vp_in_nI (by omega) (by omega)) dL_law_190 ?_
        refine W.eq (g2 := F0 m 191 ls [.int (xs (i + 1)), .ref mo]) (congrArg (fun z9 : Int32 => F0 m 191 ls [.int z9, .ref mo]) (show (xs (nI (i + 1)).toNatClampNeg : Int32) = xs (i + 1) from (congrArg xs (nI_clamp (by omega))))) ?_
        refine lv_aload_n hx hb dL_law_191 rfl (lv_at hl 5 rfl) ?_
        refine lv_iload hx hb dL_law_192 (lv_at hl 1 rfl) ?_
        refine lv_iconst (v := 2) hx hb dL_law_194 (by decide) ?_
        refine lv_iadd hx hb dL_law_195 ?_
        refine W.eq (g2 := F0 m 196 ls [.int (nI (i + 2)), .ref b, .int (xs (i + 1)), .ref mo]) (congrArg (fun z9 : Int32 => F0 m 196 ls [.int z9, .ref b, .int (xs (i + 1)), .ref mo]) (show ((nI i) + 2 : Int32) = nI (i + 2) from (nI_add i 2))) ?_
        refine va_sld hx hb hXs hbl hbA J.2.2 (vp_in_nI (by omega) (by omega)) dL_law_196 ?_
        refine W.eq (g2 := F0 m 197 ls [.int (xs (i + 2)), .int (xs (i + 1)), .ref mo]) (congrArg (fun z9 : Int32 => F0 m 197 ls [.int z9, .int (xs (i + 1)), .ref mo]) (show (xs (nI (i + 2)).toNatClampNeg : Int32) = xs (i + 2) from (congrArg xs (nI_clamp (by omega))))) ?_
        refine lv_aload_n hx hb dL_law_197 rfl (lv_at hl 5 rfl) ?_
        refine lv_iload hx hb dL_law_198 (lv_at hl 1 rfl) ?_
        refine lv_iconst (v := 3) hx hb dL_law_200 (by decide) ?_
        refine lv_iadd hx hb dL_law_201 ?_
        refine W.eq (g2 := F0 m 202 ls [.int (nI (i + 3)), .ref b, .int (xs (i + 2)), .int (xs (i + 1)), .ref mo]) (congrArg (fun z9 : Int32 => F0 m 202 ls [.int z9, .ref b, .int (xs (i + 2)), .int (xs (i + 1)), .ref mo]) (show ((nI i) + 3 : Int32) = nI (i + 3) from (nI_add i 3))) ?_
        refine va_sld hx hb hXs hbl hbA J.2.2 (vp_in_nI (by omega) (by omega)) dL_law_202 ?_
        refine W.eq (g2 := F0 m 203 ls [.int (xs (i + 3)), .int (xs (i + 2)), .int (xs (i + 1)), .ref mo]) (congrArg (fun z9 : Int32 => F0 m 203 ls [.int z9, .int (xs (i + 2)), .int (xs (i + 1)), .ref mo]) (show (xs (nI (i + 3)).toNatClampNeg : Int32) = xs (i + 3) from (congrArg xs (nI_clamp (by omega))))) ?_
        refine lv_aload_n hx hb dL_law_203 rfl (lv_at hl 5 rfl) ?_
        refine lv_iload hx hb dL_law_204 (lv_at hl 1 rfl) ?_
        refine lv_iconst (v := 4) hx hb dL_law_206 (by decide) ?_
        refine lv_iadd hx hb dL_law_207 ?_
        refine W.eq (g2 := F0 m 208 ls [.int (nI (i + 4)), .ref b, .int (xs (i + 3)), .int (xs (i + 2)), .int (xs (i + 1)), .ref mo]) (congrArg (fun z9 : Int32 => F0 m 208 ls [.int z9, .ref b, .int (xs (i + 3)), .int (xs (i + 2)), .int (xs (i + 1)), .ref mo]) (show ((nI i) + 4 : Int32) = nI (i + 4) from (nI_add i 4))) ?_
        refine va_sld hx hb hXs hbl hbA J.2.2 (vp_in_nI (by omega) (by omega)) dL_law_208 ?_
        refine W.eq (g2 := F0 m 209 ls [.int (xs (i + 4)), .int (xs (i + 3)), .int (xs (i + 2)), .int (xs (i + 1)), .ref mo]) (congrArg (fun z9 : Int32 => F0 m 209 ls [.int z9, .int (xs (i + 3)), .int (xs (i + 2)), .int (xs (i + 1)), .ref mo]) (show (xs (nI (i + 4)).toNatClampNeg : Int32) = xs (i + 4) from (congrArg xs (nI_clamp (by omega))))) ?_
        refine lv_if_eq (tgt := 216) hx hb dL_law_209 (by decide) (fun cz209 => ?_) (fun cz209 => by exact (cz209 cz157).elim)
        refine lv_iconst (v := 0) hx hb dL_law_216 (by decide) ?_
        refine lv_aload_n hx hb dL_law_217 rfl (lv_at hl 5 rfl) ?_
        refine lv_iload hx hb dL_law_218 (lv_at hl 1 rfl) ?_
        refine lv_iconst (v := 5) hx hb dL_law_220 (by decide) ?_
        refine lv_iadd hx hb dL_law_221 ?_
        refine W.eq (g2 := F0 m 222 ls [.int (nI (i + 5)), .ref b, .int 0, .int (xs (i + 3)), .int (xs (i + 2)), .int (xs (i + 1)), .ref mo]) (congrArg (fun z9 : Int32 => F0 m 222 ls [.int z9, .ref b, .int 0, .int (xs (i + 3)), .int (xs (i + 2)), .int (xs (i + 1)), .ref mo]) (show ((nI i) + 5 : Int32) = nI (i + 5) from (nI_add i 5))) ?_
        refine va_sld hx hb hXs hbl hbA J.2.2 (vp_in_nI (by omega) (by omega)) dL_law_222 ?_
        refine W.eq (g2 := F0 m 223 ls [.int (xs (i + 5)), .int 0, .int (xs (i + 3)), .int (xs (i + 2)), .int (xs (i + 1)), .ref mo]) (congrArg (fun z9 : Int32 => F0 m 223 ls [.int z9, .int 0, .int (xs (i + 3)), .int (xs (i + 2)), .int (xs (i + 1)), .ref mo]) (show (xs (nI (i + 5)).toNatClampNeg : Int32) = xs (i + 5) from (congrArg xs (nI_clamp (by omega))))) ?_
        refine lv_aload_n hx hb dL_law_223 rfl (lv_at hl 5 rfl) ?_
        refine lv_iload hx hb dL_law_224 (lv_at hl 1 rfl) ?_
        refine lv_bipush (v := 6) hx hb dL_law_226 (by decide) ?_
        refine lv_iadd hx hb dL_law_228 ?_
        refine W.eq (g2 := F0 m 229 ls [.int (nI (i + 6)), .ref b, .int (xs (i + 5)), .int 0, .int (xs (i + 3)), .int (xs (i + 2)), .int (xs (i + 1)), .ref mo]) (congrArg (fun z9 : Int32 => F0 m 229 ls [.int z9, .ref b, .int (xs (i + 5)), .int 0, .int (xs (i + 3)), .int (xs (i + 2)), .int (xs (i + 1)), .ref mo]) (show ((nI i) + 6 : Int32) = nI (i + 6) from (nI_add i 6))) ?_
        refine va_sld hx hb hXs hbl hbA J.2.2 (vp_in_nI (by omega) (by omega)) dL_law_229 ?_
        refine W.eq (g2 := F0 m 230 ls [.int (xs (i + 6)), .int (xs (i + 5)), .int 0, .int (xs (i + 3)), .int (xs (i + 2)), .int (xs (i + 1)), .ref mo]) (congrArg (fun z9 : Int32 => F0 m 230 ls [.int z9, .int (xs (i + 5)), .int 0, .int (xs (i + 3)), .int (xs (i + 2)), .int (xs (i + 1)), .ref mo]) (show (xs (nI (i + 6)).toNatClampNeg : Int32) = xs (i + 6) from (congrArg xs (nI_clamp (by omega))))) ?_
        refine z_ci J (z_rV (As := [.int (xs (i + 1)), .int (xs (i + 2)), .int (xs (i + 3)), .int 0, .int (xs (i + 5)), .int (xs (i + 6))]) (rest := []) (ci := 8) (q0 := 11) X J (cX7_fence_ok l E G1_11 G1_12 (by first | assumption | omega | decide) (zlt G1_12)) (cwV 6 hts gL_law_X7_fence rfl rfl rfl (by decide +kernel) ⟨Nat.le_of_ble_eq_true rfl, Nat.le_of_ble_eq_true rfl⟩) G1_11 rfl rfl rfl hl.1 rfl (Nat.le_of_ble_eq_true rfl) dL_law_230 ⟨by show _ ≤ 601024; omega, by show _ ≤ 7293034; omega⟩) (fun r230 ws_2 H locs hp9 J => ?_)
        obtain ⟨k2, G2_a0, G2_a1, e_r230⟩ := hp9
        have hk := hk.trans (k2.mono (by decide))
        have G2_0 := k2.2 0 _ (by decide) G1_0
        have G2_1 := k2.2 1 _ (by decide) G1_a0
        have G2_2 := k2.2 2 _ (by decide) G1_2
        have G2_3 := k2.2 3 _ (by decide) G1_3
        have G2_4 := k2.2 4 _ (by decide) G1_4
        have G2_5 := k2.2 5 _ (by decide) G1_5
        have G2_6 := k2.2 6 _ (by decide) G1_6
        have G2_7 := k2.2 7 _ (by decide) G1_7
        have G2_8 := k2.2 8 _ (by decide) G1_8
        have G2_9 := k2.2 9 _ (by decide) G1_9
        have G2_10 := k2.2 10 _ (by decide) G1_10
        have G2_13 := k2.2 13 _ (by decide) G1_13
        have G2_14 := k2.2 14 _ (by decide) G1_14
        have G2_15 := k2.2 15 _ (by decide) G1_15
        have G2_16 := k2.2 16 _ (by decide) G1_16
        have G2_17 := k2.2 17 _ (by decide) G1_17
        have G2_18 := k2.2 18 _ (by decide) G1_a1
        have G2_19 := k2.2 pn_1_0 _ (by simp only [List.mem_cons, List.not_mem_nil, or_false]; omega) N1_0
        have G2_20 := k2.2 pn_1_1 _ (by simp only [List.mem_cons, List.not_mem_nil, or_false]; omega) N1_1
        have G2_21 := k2.2 pn_1_2 _ (by simp only [List.mem_cons, List.not_mem_nil, or_false]; omega) N1_2
        refine W.eq (g2 := F0 m 233 ls [.int (nI 0)]) (congrArg (fun z9 : Int32 => F0 m 233 ls [.int z9]) (show (r230 : Int32) = nI 0 from (by rw [e_r230, e_k, sel0]))) ?_
        have F11 : ws_2[11]? = some (mo, .inr (8, [.int (kFence (xs (i + 1)) (xs (i + 2)) (xs (i + 3)) 0 (xs (i + 5)) (xs (i + 6)) (nI 0)), .int (nI (0 + 1)), .ref mf, .int (nI nr), .ref md, .ref mi, .int lim, .int sup, .int off, .int plo, .int hrs, .ref ms9, .ref mk, .ref mt])) := by simpa only [e_k, sel0] using G2_a0
        refine lv_istore (lv' := [(6, .int (nI 0)), (5, .int 0), (4, .int (nI i)), (3, .ref ou), (2, .ref mo), (1, .ref x), (0, .ref b)]) hx hb dL_law_233 hl (by decide) rfl (fun ls hl => ?_)
        refine lv_aload_n hx hb dL_law_235 rfl (lv_at hl 4 rfl) ?_
        refine z_cr (z_rV (As := []) (rest := []) (ci := 8) (q0 := 11) X J (cX7_thrown_ok l E F11) (cwV 0 hts gL_law_X7_thrown rfl rfl rfl (by decide +kernel) ⟨Nat.le_of_ble_eq_true rfl, Nat.le_of_ble_eq_true rfl⟩) F11 rfl rfl rfl hl.1 rfl (Nat.le_of_ble_eq_true rfl) dL_law_236 ⟨by show _ ≤ 601024; omega, by show _ ≤ 7293034; omega⟩) (fun r236 e_r236 => ?_)
        subst e_r236
        refine lv_iload hx hb dL_law_239 (lv_at hl 1 rfl) ?_
        refine lv_icmp_eq (tgt := 246) hx hb dL_law_241 (by decide) (fun cz241 => ?_) (fun cz241 => by exact (cz241 e_k).elim)
        refine lv_iload hx hb dL_law_246 (lv_at hl 1 rfl) ?_
        refine lv_if_ne (tgt := 263) hx hb dL_law_248 (by decide) (fun cz248 => by exact absurd cz248 (by decide)) (fun cz248 => ?_)
        refine lv_aload_n hx hb dL_law_251 rfl (lv_at hl 3 rfl) ?_
        refine lv_iconst (v := 0) hx hb dL_law_252 (by decide) ?_
        refine z_lald X J 18 G2_18 (vp_in_nI (n := 0) (by decide) (by decide)) dL_law_253 ?_
        refine W.eq (g2 := F0 m 254 ls [.long ((nI 0).toInt64)]) (congrArg (fun z9 : Int64 => F0 m 254 ls [.long z9]) (show ((vp_updL o9 0 (nI 0).toInt64) (0 : Int32).toNatClampNeg : Int64) = (nI 0).toInt64 from rfl)) ?_
        refine lv_iload hx hb dL_law_254 (lv_at hl 0 rfl) ?_
        refine lv_i2l (v := (nI 0).toInt64) hx hb dL_law_256 rfl ?_
        refine W.lcmp hx hb dL_law_257 ?_
        refine W.eq (g2 := F0 m 258 ls [.int 0]) (congrArg (fun z9 : Int32 => F0 m 258 ls [.int z9]) (show (lg_cmp ((nI 0).toInt64) ((nI 0).toInt64) : Int32) = 0 from (lg_cmp_self _))) ?_
        refine lv_if_eq (tgt := 263) hx hb dL_law_258 (by decide) (fun cz258 => ?_) (fun cz258 => by exact absurd cz258 (by decide))
        refine lv_goto (tgt := 1425) hx hb dL_law_263 (by decide) ?_
        obtain ⟨⟨l9, hl9, el9⟩, hok9⟩ := okF_add hok (dn := 0) (Or.inl rfl) e_k
        refine W.widen (k := cells + 700) (n := slots + 4500) (by omega) (by omega) ?_
        exact kk _ H locs _ ⟨fl, rl, wh, gr, gra, tr, tra, sc, ha, va, mf, md, mi, ms9, mk, mt, nq_1, eb, (0 + 1), nr, (mc1 + 1), mc2, lim, sup, off, plo, hrs, (kFence (xs (i + 1)) (xs (i + 2)) (xs (i + 3)) 0 (xs (i + 5)) (xs (i + 6)) (nI 0)), (fput fa 0 (xs (i + 1)) (xs (i + 2)) (xs (i + 3)) 0 (xs (i + 5)) (xs (i + 6))), rd, ri, sn, t9, hf, gf, kp, tp, (vp_updL o9 0 (nI 0).toInt64), G2_0, G2_1, G2_2, G2_3, G2_4, G2_5, G2_6, G2_7, G2_8, G2_9, G2_10, F11, (by simpa only [e_k, sel0, b01z, b01o] using G2_a1), G2_13, G2_14, G2_15, G2_16, G2_17, G2_18, (by rw [el9]; exact FS.new (pq := pn_1_2) (pf := pn_1_0) (ps := pn_1_1) hl9 (by omega) G2_21 (by omega) G2_19 (by omega) (by rw [← el9]; exact G2_20)), (hR.keep hk (by decide)), (Or.inl (sep_R hR hk (by decide) J.2.1 hE1 G2_21 (by omega))), (by omega), hnr, hok9, hor, hRB, hBI⟩ J (lv_sub hl [2, 3, 4, 5, 6] rfl)
    · refine lv_iconst (v := 1) hx hb dL_law_160 (by decide) ?_
      refine lv_goto (tgt := 165) hx hb dL_law_161 (by decide) ?_
      refine lv_aload_n hx hb dL_law_165 rfl (lv_at hl 4 rfl) ?_
      refine lv_iload hx hb dL_law_166 (lv_at hl 0 rfl) ?_
      refine lv_iconst (v := 5) hx hb dL_law_168 (by decide) ?_
      refine lv_iadd hx hb dL_law_169 ?_
      refine W.eq (g2 := F0 m 170 ls [.int (nI (i + 5)), .ref b, .int 1, .int (xs (i + 3)), .int (xs (i + 2)), .int (xs (i + 1)), .ref x]) (congrArg (fun z9 : Int32 => F0 m 170 ls [.int z9, .ref b, .int 1, .int (xs (i + 3)), .int (xs (i + 2)), .int (xs (i + 1)), .ref x]) (show ((nI i) + 5 : Int32) = nI (i + 5) from (nI_add i 5))) ?_
      refine va_sld hx hb hXs hbl hbA J.2.2 (vp_in_nI (by omega) (by omega)) dL_law_170 ?_
      refine W.eq (g2 := F0 m 171 ls [.int (xs (i + 5)), .int 1, .int (xs (i + 3)), .int (xs (i + 2)), .int (xs (i + 1)), .ref x]) (congrArg (fun z9 : Int32 => F0 m 171 ls [.int z9, .int 1, .int (xs (i + 3)), .int (xs (i + 2)), .int (xs (i + 1)), .ref x]) (show (xs (nI (i + 5)).toNatClampNeg : Int32) = xs (i + 5) from (congrArg xs (nI_clamp (by omega))))) ?_
      refine lv_aload_n hx hb dL_law_171 rfl (lv_at hl 4 rfl) ?_
      refine lv_iload hx hb dL_law_172 (lv_at hl 0 rfl) ?_
      refine lv_bipush (v := 6) hx hb dL_law_174 (by decide) ?_
      refine lv_iadd hx hb dL_law_176 ?_
      refine W.eq (g2 := F0 m 177 ls [.int (nI (i + 6)), .ref b, .int (xs (i + 5)), .int 1, .int (xs (i + 3)), .int (xs (i + 2)), .int (xs (i + 1)), .ref x]) (congrArg (fun z9 : Int32 => F0 m 177 ls [.int z9, .ref b, .int (xs (i + 5)), .int 1, .int (xs (i + 3)), .int (xs (i + 2)), .int (xs (i + 1)), .ref x]) (show ((nI i) + 6 : Int32) = nI (i + 6) from (nI_add i 6))) ?_
      refine va_sld hx hb hXs hbl hbA J.2.2 (vp_in_nI (by omega) (by omega)) dL_law_177 ?_
      refine W.eq (g2 := F0 m 178 ls [.int (xs (i + 6)), .int (xs (i + 5)), .int 1, .int (xs (i + 3)), .int (xs (i + 2)), .int (xs (i + 1)), .ref x]) (congrArg (fun z9 : Int32 => F0 m 178 ls [.int z9, .int (xs (i + 5)), .int 1, .int (xs (i + 3)), .int (xs (i + 2)), .int (xs (i + 1)), .ref x]) (show (xs (nI (i + 6)).toNatClampNeg : Int32) = xs (i + 6) from (congrArg xs (nI_clamp (by omega))))) ?_
      refine lv_aload_n hx hb dL_law_178 rfl (lv_at hl 1 rfl) ?_
      refine z_xi J (z_wS (As := [.ref x, .int (xs (i + 1)), .int (xs (i + 2)), .int (xs (i + 3)), .int 1, .int (xs (i + 5)), .int (xs (i + 6)), .ref ou]) (rest := []) X hRz hNz J (cL_fence_e_ok l hflags E Fa0 Fa1 Fa18 (by first | exact Or.inl rfl | exact Or.inr rfl)) (vx_cwSW (hh := [(0, 18, 21, 13), (0, 18, 25, 15), (0, 18, 29, 17)]) 8 hts gL_law_L_fence rfl rfl rfl (by decide +kernel) ⟨Nat.le_of_ble_eq_true rfl, Nat.le_of_ble_eq_true rfl⟩) rfl hl.1 rfl (Nat.le_of_ble_eq_true rfl) dL_law_179 ⟨by show _ ≤ 601024; omega, by show _ ≤ 7293034; omega⟩) (fun nm ce q9 H locs hp9 J h1 h2 h3 => ?_) (fun r179 ws_1 H locs hp9 J => ?_)
      · exact False.elim (by exact hp9)
      rcases hp9 with ⟨e_v, e_k, rfl⟩ | ⟨e_v, e_k, k1, ⟨fo_1, sp_1, nq_1, hlen1, G1_a0, G1_a1, N1_0, N1_1, N1_2⟩⟩
      · subst e_v
        refine lv_istore (lv' := [(5, .int (kFence (xs (i + 1)) (xs (i + 2)) (xs (i + 3)) 1 (xs (i + 5)) (xs (i + 6)) (nI 0))), (4, .int (nI i)), (3, .ref ou), (2, .ref mo), (1, .ref x), (0, .ref b)]) hx hb dL_law_182 hl (by decide) rfl (fun ls hl => ?_)
        refine lv_aload_n hx hb dL_law_184 rfl (lv_at hl 3 rfl) ?_
        refine lv_aload_n hx hb dL_law_185 rfl (lv_at hl 5 rfl) ?_
        refine lv_iload hx hb dL_law_186 (lv_at hl 1 rfl) ?_
        refine lv_iconst (v := 1) hx hb dL_law_188 (by decide) ?_
        refine lv_iadd hx hb dL_law_189 ?_
        refine W.eq (g2 := F0 m 190 ls [.int (nI (i + 1)), .ref b, .ref mo]) (congrArg (fun z9 : Int32 => F0 m 190 ls [.int z9, .ref b, .ref mo]) (show ((nI i) + 1 : Int32) = nI (i + 1) from (nI_add i 1))) ?_
        refine va_sld hx hb hXs hbl hbA J.2.2 (vp_in_nI (by omega) (by omega)) dL_law_190 ?_
        refine W.eq (g2 := F0 m 191 ls [.int (xs (i + 1)), .ref mo]) (congrArg (fun z9 : Int32 => F0 m 191 ls [.int z9, .ref mo]) (show (xs (nI (i + 1)).toNatClampNeg : Int32) = xs (i + 1) from (congrArg xs (nI_clamp (by omega))))) ?_
        refine lv_aload_n hx hb dL_law_191 rfl (lv_at hl 5 rfl) ?_
        refine lv_iload hx hb dL_law_192 (lv_at hl 1 rfl) ?_
        refine lv_iconst (v := 2) hx hb dL_law_194 (by decide) ?_
        refine lv_iadd hx hb dL_law_195 ?_
        refine W.eq (g2 := F0 m 196 ls [.int (nI (i + 2)), .ref b, .int (xs (i + 1)), .ref mo]) (congrArg (fun z9 : Int32 => F0 m 196 ls [.int z9, .ref b, .int (xs (i + 1)), .ref mo]) (show ((nI i) + 2 : Int32) = nI (i + 2) from (nI_add i 2))) ?_
        refine va_sld hx hb hXs hbl hbA J.2.2 (vp_in_nI (by omega) (by omega)) dL_law_196 ?_
        refine W.eq (g2 := F0 m 197 ls [.int (xs (i + 2)), .int (xs (i + 1)), .ref mo]) (congrArg (fun z9 : Int32 => F0 m 197 ls [.int z9, .int (xs (i + 1)), .ref mo]) (show (xs (nI (i + 2)).toNatClampNeg : Int32) = xs (i + 2) from (congrArg xs (nI_clamp (by omega))))) ?_
        refine lv_aload_n hx hb dL_law_197 rfl (lv_at hl 5 rfl) ?_
        refine lv_iload hx hb dL_law_198 (lv_at hl 1 rfl) ?_
        refine lv_iconst (v := 3) hx hb dL_law_200 (by decide) ?_
        refine lv_iadd hx hb dL_law_201 ?_
        refine W.eq (g2 := F0 m 202 ls [.int (nI (i + 3)), .ref b, .int (xs (i + 2)), .int (xs (i + 1)), .ref mo]) (congrArg (fun z9 : Int32 => F0 m 202 ls [.int z9, .ref b, .int (xs (i + 2)), .int (xs (i + 1)), .ref mo]) (show ((nI i) + 3 : Int32) = nI (i + 3) from (nI_add i 3))) ?_
        refine va_sld hx hb hXs hbl hbA J.2.2 (vp_in_nI (by omega) (by omega)) dL_law_202 ?_
        refine W.eq (g2 := F0 m 203 ls [.int (xs (i + 3)), .int (xs (i + 2)), .int (xs (i + 1)), .ref mo]) (congrArg (fun z9 : Int32 => F0 m 203 ls [.int z9, .int (xs (i + 2)), .int (xs (i + 1)), .ref mo]) (show (xs (nI (i + 3)).toNatClampNeg : Int32) = xs (i + 3) from (congrArg xs (nI_clamp (by omega))))) ?_
        refine lv_aload_n hx hb dL_law_203 rfl (lv_at hl 5 rfl) ?_
        refine lv_iload hx hb dL_law_204 (lv_at hl 1 rfl) ?_
        refine lv_iconst (v := 4) hx hb dL_law_206 (by decide) ?_
        refine lv_iadd hx hb dL_law_207 ?_
        refine W.eq (g2 := F0 m 208 ls [.int (nI (i + 4)), .ref b, .int (xs (i + 3)), .int (xs (i + 2)), .int (xs (i + 1)), .ref mo]) (congrArg (fun z9 : Int32 => F0 m 208 ls [.int z9, .ref b, .int (xs (i + 3)), .int (xs (i + 2)), .int (xs (i + 1)), .ref mo]) (show ((nI i) + 4 : Int32) = nI (i + 4) from (nI_add i 4))) ?_
        refine va_sld hx hb hXs hbl hbA J.2.2 (vp_in_nI (by omega) (by omega)) dL_law_208 ?_
        refine W.eq (g2 := F0 m 209 ls [.int (xs (i + 4)), .int (xs (i + 3)), .int (xs (i + 2)), .int (xs (i + 1)), .ref mo]) (congrArg (fun z9 : Int32 => F0 m 209 ls [.int z9, .int (xs (i + 3)), .int (xs (i + 2)), .int (xs (i + 1)), .ref mo]) (show (xs (nI (i + 4)).toNatClampNeg : Int32) = xs (i + 4) from (congrArg xs (nI_clamp (by omega))))) ?_
        refine lv_if_eq (tgt := 216) hx hb dL_law_209 (by decide) (fun cz209 => by exact (cz157 cz209).elim) (fun cz209 => ?_)
        refine lv_iconst (v := 1) hx hb dL_law_212 (by decide) ?_
        refine lv_goto (tgt := 217) hx hb dL_law_213 (by decide) ?_
        refine lv_aload_n hx hb dL_law_217 rfl (lv_at hl 5 rfl) ?_
        refine lv_iload hx hb dL_law_218 (lv_at hl 1 rfl) ?_
        refine lv_iconst (v := 5) hx hb dL_law_220 (by decide) ?_
        refine lv_iadd hx hb dL_law_221 ?_
        refine W.eq (g2 := F0 m 222 ls [.int (nI (i + 5)), .ref b, .int 1, .int (xs (i + 3)), .int (xs (i + 2)), .int (xs (i + 1)), .ref mo]) (congrArg (fun z9 : Int32 => F0 m 222 ls [.int z9, .ref b, .int 1, .int (xs (i + 3)), .int (xs (i + 2)), .int (xs (i + 1)), .ref mo]) (show ((nI i) + 5 : Int32) = nI (i + 5) from (nI_add i 5))) ?_
        refine va_sld hx hb hXs hbl hbA J.2.2 (vp_in_nI (by omega) (by omega)) dL_law_222 ?_
        refine W.eq (g2 := F0 m 223 ls [.int (xs (i + 5)), .int 1, .int (xs (i + 3)), .int (xs (i + 2)), .int (xs (i + 1)), .ref mo]) (congrArg (fun z9 : Int32 => F0 m 223 ls [.int z9, .int 1, .int (xs (i + 3)), .int (xs (i + 2)), .int (xs (i + 1)), .ref mo]) (show (xs (nI (i + 5)).toNatClampNeg : Int32) = xs (i + 5) from (congrArg xs (nI_clamp (by omega))))) ?_
        refine lv_aload_n hx hb dL_law_223 rfl (lv_at hl 5 rfl) ?_
        refine lv_iload hx hb dL_law_224 (lv_at hl 1 rfl) ?_
        refine lv_bipush (v := 6) hx hb dL_law_226 (by decide) ?_
        refine lv_iadd hx hb dL_law_228 ?_
        refine W.eq (g2 := F0 m 229 ls [.int (nI (i + 6)), .ref b, .int (xs (i + 5)), .int 1, .int (xs (i + 3)), .int (xs (i + 2)), .int (xs (i + 1)), .ref mo]) (congrArg (fun z9 : Int32 => F0 m 229 ls [.int z9, .ref b, .int (xs (i + 5)), .int 1, .int (xs (i + 3)), .int (xs (i + 2)), .int (xs (i + 1)), .ref mo]) (show ((nI i) + 6 : Int32) = nI (i + 6) from (nI_add i 6))) ?_
        refine va_sld hx hb hXs hbl hbA J.2.2 (vp_in_nI (by omega) (by omega)) dL_law_229 ?_
        refine W.eq (g2 := F0 m 230 ls [.int (xs (i + 6)), .int (xs (i + 5)), .int 1, .int (xs (i + 3)), .int (xs (i + 2)), .int (xs (i + 1)), .ref mo]) (congrArg (fun z9 : Int32 => F0 m 230 ls [.int z9, .int (xs (i + 5)), .int 1, .int (xs (i + 3)), .int (xs (i + 2)), .int (xs (i + 1)), .ref mo]) (show (xs (nI (i + 6)).toNatClampNeg : Int32) = xs (i + 6) from (congrArg xs (nI_clamp (by omega))))) ?_
        refine z_ci J (z_rV (As := [.int (xs (i + 1)), .int (xs (i + 2)), .int (xs (i + 3)), .int 1, .int (xs (i + 5)), .int (xs (i + 6))]) (rest := []) (ci := 8) (q0 := 11) X J (cX7_fence_ok l E Fa11 Fa12 (by first | assumption | omega | decide) (zlt Fa12)) (cwV 6 hts gL_law_X7_fence rfl rfl rfl (by decide +kernel) ⟨Nat.le_of_ble_eq_true rfl, Nat.le_of_ble_eq_true rfl⟩) Fa11 rfl rfl rfl hl.1 rfl (Nat.le_of_ble_eq_true rfl) dL_law_230 ⟨by show _ ≤ 601024; omega, by show _ ≤ 7293034; omega⟩) (fun r230 ws_2 H locs hp9 J => ?_)
        obtain ⟨k2, G2_a0, G2_a1, e_r230⟩ := hp9
        have hk := hk.trans (k2.mono (by decide))
        have G2_0 := k2.2 0 _ (by decide) Fa0
        have G2_1 := k2.2 1 _ (by decide) Fa1
        have G2_2 := k2.2 2 _ (by decide) Fa2
        have G2_3 := k2.2 3 _ (by decide) Fa3
        have G2_4 := k2.2 4 _ (by decide) Fa4
        have G2_5 := k2.2 5 _ (by decide) Fa5
        have G2_6 := k2.2 6 _ (by decide) Fa6
        have G2_7 := k2.2 7 _ (by decide) Fa7
        have G2_8 := k2.2 8 _ (by decide) Fa8
        have G2_9 := k2.2 9 _ (by decide) Fa9
        have G2_10 := k2.2 10 _ (by decide) Fa10
        have G2_13 := k2.2 13 _ (by decide) Fa13
        have G2_14 := k2.2 14 _ (by decide) Fa14
        have G2_15 := k2.2 15 _ (by decide) Fa15
        have G2_16 := k2.2 16 _ (by decide) Fa16
        have G2_17 := k2.2 17 _ (by decide) Fa17
        have G2_18 := k2.2 18 _ (by decide) Fa18
        have F11 : ws_2[11]? = some (mo, .inr (8, [.int (kFence (xs (i + 1)) (xs (i + 2)) (xs (i + 3)) 1 (xs (i + 5)) (xs (i + 6)) (nI 0)), .int (nI 0), .ref mf, .int (nI nr), .ref md, .ref mi, .int lim, .int sup, .int off, .int plo, .int hrs, .ref ms9, .ref mk, .ref mt])) := by simpa only [selN e_k] using G2_a0
        refine lv_istore (lv' := [(6, .int r230), (5, .int (kFence (xs (i + 1)) (xs (i + 2)) (xs (i + 3)) 1 (xs (i + 5)) (xs (i + 6)) (nI 0))), (4, .int (nI i)), (3, .ref ou), (2, .ref mo), (1, .ref x), (0, .ref b)]) hx hb dL_law_233 hl (by decide) rfl (fun ls hl => ?_)
        refine lv_aload_n hx hb dL_law_235 rfl (lv_at hl 4 rfl) ?_
        refine z_cr (z_rV (As := []) (rest := []) (ci := 8) (q0 := 11) X J (cX7_thrown_ok l E F11) (cwV 0 hts gL_law_X7_thrown rfl rfl rfl (by decide +kernel) ⟨Nat.le_of_ble_eq_true rfl, Nat.le_of_ble_eq_true rfl⟩) F11 rfl rfl rfl hl.1 rfl (Nat.le_of_ble_eq_true rfl) dL_law_236 ⟨by show _ ≤ 601024; omega, by show _ ≤ 7293034; omega⟩) (fun r236 e_r236 => ?_)
        subst e_r236
        refine lv_iload hx hb dL_law_239 (lv_at hl 1 rfl) ?_
        refine lv_icmp_eq (tgt := 246) hx hb dL_law_241 (by decide) (fun cz241 => ?_) (fun cz241 => by exact (cz241 rfl).elim)
        refine lv_iload hx hb dL_law_246 (lv_at hl 1 rfl) ?_
        refine lv_if_ne (tgt := 263) hx hb dL_law_248 (by decide) (fun cz248 => ?_) (fun cz248 => by exact (e_k cz248).elim)
        refine lv_goto (tgt := 1425) hx hb dL_law_263 (by decide) ?_
        refine W.widen (k := cells + 700) (n := slots + 4500) (by omega) (by omega) ?_
        exact kk _ H locs _ ⟨fl, rl, wh, gr, gra, tr, tra, sc, ha, va, mf, md, mi, ms9, mk, mt, E.2.2.1, eb, 0, nr, mc1, mc2, lim, sup, off, plo, hrs, (kFence (xs (i + 1)) (xs (i + 2)) (xs (i + 3)) 1 (xs (i + 5)) (xs (i + 6)) (nI 0)), fa, rd, ri, sn, t9, hf, gf, kp, tp, o9, G2_0, G2_1, G2_2, G2_3, G2_4, G2_5, G2_6, G2_7, G2_8, G2_9, G2_10, F11, (by simpa only [selN e_k] using G2_a1), G2_13, G2_14, G2_15, G2_16, G2_17, G2_18, (hF.keep hk (by decide)), (hR.keep hk (by decide)), hSep, hnf, hnr, hok, hor, hRB, hBI⟩ J (lv_sub hl [2, 3, 4, 5, 6] rfl)
      · subst e_v
        have lp1 := hk.1
        have b_1_0 := zlt Fa0
        have b_1_1 := zlt Fa1
        have b_1_2 := zlt Fa2
        have b_1_3 := zlt Fa3
        have b_1_4 := zlt Fa4
        have b_1_5 := zlt Fa5
        have b_1_6 := zlt Fa6
        have b_1_7 := zlt Fa7
        have b_1_8 := zlt Fa8
        have b_1_9 := zlt Fa9
        have b_1_10 := zlt Fa10
        have b_1_11 := zlt Fa11
        have b_1_12 := zlt Fa12
        have b_1_13 := zlt Fa13
        have b_1_14 := zlt Fa14
        have b_1_15 := zlt Fa15
        have b_1_16 := zlt Fa16
        have b_1_17 := zlt Fa17
        have b_1_18 := zlt Fa18
        have hk := hk.trans (k1.mono (by decide))
        have G1_0 := k1.2 0 _ (by decide) Fa0
        have G1_2 := k1.2 2 _ (by decide) Fa2
        have G1_3 := k1.2 3 _ (by decide) Fa3
        have G1_4 := k1.2 4 _ (by decide) Fa4
        have G1_5 := k1.2 5 _ (by decide) Fa5
        have G1_6 := k1.2 6 _ (by decide) Fa6
        have G1_7 := k1.2 7 _ (by decide) Fa7
        have G1_8 := k1.2 8 _ (by decide) Fa8
        have G1_9 := k1.2 9 _ (by decide) Fa9
        have G1_10 := k1.2 10 _ (by decide) Fa10
        have G1_11 := k1.2 11 _ (by decide) Fa11
        have G1_12 := k1.2 12 _ (by decide) Fa12
        have G1_13 := k1.2 13 _ (by decide) Fa13
        have G1_14 := k1.2 14 _ (by decide) Fa14
        have G1_15 := k1.2 15 _ (by decide) Fa15
        have G1_16 := k1.2 16 _ (by decide) Fa16
        have G1_17 := k1.2 17 _ (by decide) Fa17
        obtain ⟨pn_1_0, hpn_1_0⟩ : ∃ z : Nat, z = ws.length + 0 := ⟨_, rfl⟩
        rw [← hpn_1_0] at N1_0
        obtain ⟨pn_1_1, hpn_1_1⟩ : ∃ z : Nat, z = ws.length + 1 := ⟨_, rfl⟩
        rw [← hpn_1_1] at N1_1
        obtain ⟨pn_1_2, hpn_1_2⟩ : ∃ z : Nat, z = ws.length + 2 := ⟨_, rfl⟩
        rw [← hpn_1_2] at N1_2
        refine lv_istore (lv' := [(5, .int 0), (4, .int (nI i)), (3, .ref ou), (2, .ref mo), (1, .ref x), (0, .ref b)]) hx hb dL_law_182 hl (by decide) rfl (fun ls hl => ?_)
        refine lv_aload_n hx hb dL_law_184 rfl (lv_at hl 3 rfl) ?_
        refine lv_aload_n hx hb dL_law_185 rfl (lv_at hl 5 rfl) ?_
        refine lv_iload hx hb dL_law_186 (lv_at hl 1 rfl) ?_
        refine lv_iconst (v := 1) hx hb dL_law_188 (by decide) ?_
        refine lv_iadd hx hb dL_law_189 ?_
        refine W.eq (g2 := F0 m 190 ls [.int (nI (i + 1)), .ref b, .ref mo]) (congrArg (fun z9 : Int32 => F0 m 190 ls [.int z9, .ref b, .ref mo]) (show ((nI i) + 1 : Int32) = nI (i + 1) from (nI_add i 1))) ?_
        refine va_sld hx hb hXs hbl hbA J.2.2 (vp_in_nI (by omega) (by omega)) dL_law_190 ?_
        refine W.eq (g2 := F0 m 191 ls [.int (xs (i + 1)), .ref mo]) (congrArg (fun z9 : Int32 => F0 m 191 ls [.int z9, .ref mo]) (show (xs (nI (i + 1)).toNatClampNeg : Int32) = xs (i + 1) from (congrArg xs (nI_clamp (by omega))))) ?_
        refine lv_aload_n hx hb dL_law_191 rfl (lv_at hl 5 rfl) ?_
        refine lv_iload hx hb dL_law_192 (lv_at hl 1 rfl) ?_
        refine lv_iconst (v := 2) hx hb dL_law_194 (by decide) ?_
        refine lv_iadd hx hb dL_law_195 ?_
        refine W.eq (g2 := F0 m 196 ls [.int (nI (i + 2)), .ref b, .int (xs (i + 1)), .ref mo]) (congrArg (fun z9 : Int32 => F0 m 196 ls [.int z9, .ref b, .int (xs (i + 1)), .ref mo]) (show ((nI i) + 2 : Int32) = nI (i + 2) from (nI_add i 2))) ?_
        refine va_sld hx hb hXs hbl hbA J.2.2 (vp_in_nI (by omega) (by omega)) dL_law_196 ?_
        refine W.eq (g2 := F0 m 197 ls [.int (xs (i + 2)), .int (xs (i + 1)), .ref mo]) (congrArg (fun z9 : Int32 => F0 m 197 ls [.int z9, .int (xs (i + 1)), .ref mo]) (show (xs (nI (i + 2)).toNatClampNeg : Int32) = xs (i + 2) from (congrArg xs (nI_clamp (by omega))))) ?_
        refine lv_aload_n hx hb dL_law_197 rfl (lv_at hl 5 rfl) ?_
        refine lv_iload hx hb dL_law_198 (lv_at hl 1 rfl) ?_
        refine lv_iconst (v := 3) hx hb dL_law_200 (by decide) ?_
        refine lv_iadd hx hb dL_law_201 ?_
        refine W.eq (g2 := F0 m 202 ls [.int (nI (i + 3)), .ref b, .int (xs (i + 2)), .int (xs (i + 1)), .ref mo]) (congrArg (fun z9 : Int32 => F0 m 202 ls [.int z9, .ref b, .int (xs (i + 2)), .int (xs (i + 1)), .ref mo]) (show ((nI i) + 3 : Int32) = nI (i + 3) from (nI_add i 3))) ?_
        refine va_sld hx hb hXs hbl hbA J.2.2 (vp_in_nI (by omega) (by omega)) dL_law_202 ?_
        refine W.eq (g2 := F0 m 203 ls [.int (xs (i + 3)), .int (xs (i + 2)), .int (xs (i + 1)), .ref mo]) (congrArg (fun z9 : Int32 => F0 m 203 ls [.int z9, .int (xs (i + 2)), .int (xs (i + 1)), .ref mo]) (show (xs (nI (i + 3)).toNatClampNeg : Int32) = xs (i + 3) from (congrArg xs (nI_clamp (by omega))))) ?_
        refine lv_aload_n hx hb dL_law_203 rfl (lv_at hl 5 rfl) ?_
        refine lv_iload hx hb dL_law_204 (lv_at hl 1 rfl) ?_
        refine lv_iconst (v := 4) hx hb dL_law_206 (by decide) ?_
        refine lv_iadd hx hb dL_law_207 ?_
        refine W.eq (g2 := F0 m 208 ls [.int (nI (i + 4)), .ref b, .int (xs (i + 3)), .int (xs (i + 2)), .int (xs (i + 1)), .ref mo]) (congrArg (fun z9 : Int32 => F0 m 208 ls [.int z9, .ref b, .int (xs (i + 3)), .int (xs (i + 2)), .int (xs (i + 1)), .ref mo]) (show ((nI i) + 4 : Int32) = nI (i + 4) from (nI_add i 4))) ?_
        refine va_sld hx hb hXs hbl hbA J.2.2 (vp_in_nI (by omega) (by omega)) dL_law_208 ?_
        refine W.eq (g2 := F0 m 209 ls [.int (xs (i + 4)), .int (xs (i + 3)), .int (xs (i + 2)), .int (xs (i + 1)), .ref mo]) (congrArg (fun z9 : Int32 => F0 m 209 ls [.int z9, .int (xs (i + 3)), .int (xs (i + 2)), .int (xs (i + 1)), .ref mo]) (show (xs (nI (i + 4)).toNatClampNeg : Int32) = xs (i + 4) from (congrArg xs (nI_clamp (by omega))))) ?_
        refine lv_if_eq (tgt := 216) hx hb dL_law_209 (by decide) (fun cz209 => by exact (cz157 cz209).elim) (fun cz209 => ?_)
        refine lv_iconst (v := 1) hx hb dL_law_212 (by decide) ?_
        refine lv_goto (tgt := 217) hx hb dL_law_213 (by decide) ?_
        refine lv_aload_n hx hb dL_law_217 rfl (lv_at hl 5 rfl) ?_
        refine lv_iload hx hb dL_law_218 (lv_at hl 1 rfl) ?_
        refine lv_iconst (v := 5) hx hb dL_law_220 (by decide) ?_
        refine lv_iadd hx hb dL_law_221 ?_
        refine W.eq (g2 := F0 m 222 ls [.int (nI (i + 5)), .ref b, .int 1, .int (xs (i + 3)), .int (xs (i + 2)), .int (xs (i + 1)), .ref mo]) (congrArg (fun z9 : Int32 => F0 m 222 ls [.int z9, .ref b, .int 1, .int (xs (i + 3)), .int (xs (i + 2)), .int (xs (i + 1)), .ref mo]) (show ((nI i) + 5 : Int32) = nI (i + 5) from (nI_add i 5))) ?_
        refine va_sld hx hb hXs hbl hbA J.2.2 (vp_in_nI (by omega) (by omega)) dL_law_222 ?_
        refine W.eq (g2 := F0 m 223 ls [.int (xs (i + 5)), .int 1, .int (xs (i + 3)), .int (xs (i + 2)), .int (xs (i + 1)), .ref mo]) (congrArg (fun z9 : Int32 => F0 m 223 ls [.int z9, .int 1, .int (xs (i + 3)), .int (xs (i + 2)), .int (xs (i + 1)), .ref mo]) (show (xs (nI (i + 5)).toNatClampNeg : Int32) = xs (i + 5) from (congrArg xs (nI_clamp (by omega))))) ?_
        refine lv_aload_n hx hb dL_law_223 rfl (lv_at hl 5 rfl) ?_
        refine lv_iload hx hb dL_law_224 (lv_at hl 1 rfl) ?_
        refine lv_bipush (v := 6) hx hb dL_law_226 (by decide) ?_
        refine lv_iadd hx hb dL_law_228 ?_
        refine W.eq (g2 := F0 m 229 ls [.int (nI (i + 6)), .ref b, .int (xs (i + 5)), .int 1, .int (xs (i + 3)), .int (xs (i + 2)), .int (xs (i + 1)), .ref mo]) (congrArg (fun z9 : Int32 => F0 m 229 ls [.int z9, .ref b, .int (xs (i + 5)), .int 1, .int (xs (i + 3)), .int (xs (i + 2)), .int (xs (i + 1)), .ref mo]) (show ((nI i) + 6 : Int32) = nI (i + 6) from (nI_add i 6))) ?_
        refine va_sld hx hb hXs hbl hbA J.2.2 (vp_in_nI (by omega) (by omega)) dL_law_229 ?_
        refine W.eq (g2 := F0 m 230 ls [.int (xs (i + 6)), .int (xs (i + 5)), .int 1, .int (xs (i + 3)), .int (xs (i + 2)), .int (xs (i + 1)), .ref mo]) (congrArg (fun z9 : Int32 => F0 m 230 ls [.int z9, .int (xs (i + 5)), .int 1, .int (xs (i + 3)), .int (xs (i + 2)), .int (xs (i + 1)), .ref mo]) (show (xs (nI (i + 6)).toNatClampNeg : Int32) = xs (i + 6) from (congrArg xs (nI_clamp (by omega))))) ?_
        refine z_ci J (z_rV (As := [.int (xs (i + 1)), .int (xs (i + 2)), .int (xs (i + 3)), .int 1, .int (xs (i + 5)), .int (xs (i + 6))]) (rest := []) (ci := 8) (q0 := 11) X J (cX7_fence_ok l E G1_11 G1_12 (by first | assumption | omega | decide) (zlt G1_12)) (cwV 6 hts gL_law_X7_fence rfl rfl rfl (by decide +kernel) ⟨Nat.le_of_ble_eq_true rfl, Nat.le_of_ble_eq_true rfl⟩) G1_11 rfl rfl rfl hl.1 rfl (Nat.le_of_ble_eq_true rfl) dL_law_230 ⟨by show _ ≤ 601024; omega, by show _ ≤ 7293034; omega⟩) (fun r230 ws_2 H locs hp9 J => ?_)
        obtain ⟨k2, G2_a0, G2_a1, e_r230⟩ := hp9
        have hk := hk.trans (k2.mono (by decide))
        have G2_0 := k2.2 0 _ (by decide) G1_0
        have G2_1 := k2.2 1 _ (by decide) G1_a0
        have G2_2 := k2.2 2 _ (by decide) G1_2
        have G2_3 := k2.2 3 _ (by decide) G1_3
        have G2_4 := k2.2 4 _ (by decide) G1_4
        have G2_5 := k2.2 5 _ (by decide) G1_5
        have G2_6 := k2.2 6 _ (by decide) G1_6
        have G2_7 := k2.2 7 _ (by decide) G1_7
        have G2_8 := k2.2 8 _ (by decide) G1_8
        have G2_9 := k2.2 9 _ (by decide) G1_9
        have G2_10 := k2.2 10 _ (by decide) G1_10
        have G2_13 := k2.2 13 _ (by decide) G1_13
        have G2_14 := k2.2 14 _ (by decide) G1_14
        have G2_15 := k2.2 15 _ (by decide) G1_15
        have G2_16 := k2.2 16 _ (by decide) G1_16
        have G2_17 := k2.2 17 _ (by decide) G1_17
        have G2_18 := k2.2 18 _ (by decide) G1_a1
        have G2_19 := k2.2 pn_1_0 _ (by simp only [List.mem_cons, List.not_mem_nil, or_false]; omega) N1_0
        have G2_20 := k2.2 pn_1_1 _ (by simp only [List.mem_cons, List.not_mem_nil, or_false]; omega) N1_1
        have G2_21 := k2.2 pn_1_2 _ (by simp only [List.mem_cons, List.not_mem_nil, or_false]; omega) N1_2
        refine W.eq (g2 := F0 m 233 ls [.int (nI 0)]) (congrArg (fun z9 : Int32 => F0 m 233 ls [.int z9]) (show (r230 : Int32) = nI 0 from (by rw [e_r230, e_k, sel0]))) ?_
        have F11 : ws_2[11]? = some (mo, .inr (8, [.int (kFence (xs (i + 1)) (xs (i + 2)) (xs (i + 3)) 1 (xs (i + 5)) (xs (i + 6)) (nI 0)), .int (nI (0 + 1)), .ref mf, .int (nI nr), .ref md, .ref mi, .int lim, .int sup, .int off, .int plo, .int hrs, .ref ms9, .ref mk, .ref mt])) := by simpa only [e_k, sel0] using G2_a0
        refine lv_istore (lv' := [(6, .int (nI 0)), (5, .int 0), (4, .int (nI i)), (3, .ref ou), (2, .ref mo), (1, .ref x), (0, .ref b)]) hx hb dL_law_233 hl (by decide) rfl (fun ls hl => ?_)
        refine lv_aload_n hx hb dL_law_235 rfl (lv_at hl 4 rfl) ?_
        refine z_cr (z_rV (As := []) (rest := []) (ci := 8) (q0 := 11) X J (cX7_thrown_ok l E F11) (cwV 0 hts gL_law_X7_thrown rfl rfl rfl (by decide +kernel) ⟨Nat.le_of_ble_eq_true rfl, Nat.le_of_ble_eq_true rfl⟩) F11 rfl rfl rfl hl.1 rfl (Nat.le_of_ble_eq_true rfl) dL_law_236 ⟨by show _ ≤ 601024; omega, by show _ ≤ 7293034; omega⟩) (fun r236 e_r236 => ?_)
        subst e_r236
        refine lv_iload hx hb dL_law_239 (lv_at hl 1 rfl) ?_
        refine lv_icmp_eq (tgt := 246) hx hb dL_law_241 (by decide) (fun cz241 => ?_) (fun cz241 => by exact (cz241 e_k).elim)
        refine lv_iload hx hb dL_law_246 (lv_at hl 1 rfl) ?_
        refine lv_if_ne (tgt := 263) hx hb dL_law_248 (by decide) (fun cz248 => by exact absurd cz248 (by decide)) (fun cz248 => ?_)
        refine lv_aload_n hx hb dL_law_251 rfl (lv_at hl 3 rfl) ?_
        refine lv_iconst (v := 0) hx hb dL_law_252 (by decide) ?_
        refine z_lald X J 18 G2_18 (vp_in_nI (n := 0) (by decide) (by decide)) dL_law_253 ?_
        refine W.eq (g2 := F0 m 254 ls [.long ((nI 0).toInt64)]) (congrArg (fun z9 : Int64 => F0 m 254 ls [.long z9]) (show ((vp_updL o9 0 (nI 0).toInt64) (0 : Int32).toNatClampNeg : Int64) = (nI 0).toInt64 from rfl)) ?_
        refine lv_iload hx hb dL_law_254 (lv_at hl 0 rfl) ?_
        refine lv_i2l (v := (nI 0).toInt64) hx hb dL_law_256 rfl ?_
        refine W.lcmp hx hb dL_law_257 ?_
        refine W.eq (g2 := F0 m 258 ls [.int 0]) (congrArg (fun z9 : Int32 => F0 m 258 ls [.int z9]) (show (lg_cmp ((nI 0).toInt64) ((nI 0).toInt64) : Int32) = 0 from (lg_cmp_self _))) ?_
        refine lv_if_eq (tgt := 263) hx hb dL_law_258 (by decide) (fun cz258 => ?_) (fun cz258 => by exact absurd cz258 (by decide))
        refine lv_goto (tgt := 1425) hx hb dL_law_263 (by decide) ?_
        obtain ⟨⟨l9, hl9, el9⟩, hok9⟩ := okF_add hok (dn := 1) (Or.inr rfl) e_k
        refine W.widen (k := cells + 700) (n := slots + 4500) (by omega) (by omega) ?_
        exact kk _ H locs _ ⟨fl, rl, wh, gr, gra, tr, tra, sc, ha, va, mf, md, mi, ms9, mk, mt, nq_1, eb, (0 + 1), nr, (mc1 + 1), mc2, lim, sup, off, plo, hrs, (kFence (xs (i + 1)) (xs (i + 2)) (xs (i + 3)) 1 (xs (i + 5)) (xs (i + 6)) (nI 0)), (fput fa 0 (xs (i + 1)) (xs (i + 2)) (xs (i + 3)) 1 (xs (i + 5)) (xs (i + 6))), rd, ri, sn, t9, hf, gf, kp, tp, (vp_updL o9 0 (nI 0).toInt64), G2_0, G2_1, G2_2, G2_3, G2_4, G2_5, G2_6, G2_7, G2_8, G2_9, G2_10, F11, (by simpa only [e_k, sel0, b01z, b01o] using G2_a1), G2_13, G2_14, G2_15, G2_16, G2_17, G2_18, (by rw [el9]; exact FS.new (pq := pn_1_2) (pf := pn_1_0) (ps := pn_1_1) hl9 (by omega) G2_21 (by omega) G2_19 (by omega) (by rw [← el9]; exact G2_20)), (hR.keep hk (by decide)), (Or.inl (sep_R hR hk (by decide) J.2.1 hE1 G2_21 (by omega))), (by omega), hnr, hok9, hor, hRB, hBI⟩ J (lv_sub hl [2, 3, 4, 5, 6] rfl)
  · have hFa : FSa E ws fa ea nf qe g fo9 qf9 sp9 qs9 := hFa
    have hq19 := hFa.1
    have hF : FS E ws fa ea nf := Or.inr ⟨qe, g, fo9, qf9, sp9, qs9, hFa⟩
    have hk : zK [0, 1, 2, 3, 4, 5, 6, 7, 8, 9, 10, 11, 12, 13, 14, 15, 16, 17, 18, qe] ws ws := zK.rf
    refine lv_aload_n hx hb dL_law_132 rfl (lv_at hl 3 rfl) ?_
    refine lv_aload_n hx hb dL_law_133 rfl (lv_at hl 4 rfl) ?_
    refine lv_iload hx hb dL_law_134 (lv_at hl 0 rfl) ?_
    refine lv_iconst (v := 1) hx hb dL_law_136 (by decide) ?_
    refine lv_iadd hx hb dL_law_137 ?_
    refine W.eq (g2 := F0 m 138 ls [.int (nI (i + 1)), .ref b, .ref x]) (congrArg (fun z9 : Int32 => F0 m 138 ls [.int z9, .ref b, .ref x]) (show ((nI i) + 1 : Int32) = nI (i + 1) from (nI_add i 1))) ?_
    refine va_sld hx hb hXs hbl hbA J.2.2 (vp_in_nI (by omega) (by omega)) dL_law_138 ?_
    refine W.eq (g2 := F0 m 139 ls [.int (xs (i + 1)), .ref x]) (congrArg (fun z9 : Int32 => F0 m 139 ls [.int z9, .ref x]) (show (xs (nI (i + 1)).toNatClampNeg : Int32) = xs (i + 1) from (congrArg xs (nI_clamp (by omega))))) ?_
    refine lv_aload_n hx hb dL_law_139 rfl (lv_at hl 4 rfl) ?_
    refine lv_iload hx hb dL_law_140 (lv_at hl 0 rfl) ?_
    refine lv_iconst (v := 2) hx hb dL_law_142 (by decide) ?_
    refine lv_iadd hx hb dL_law_143 ?_
    refine W.eq (g2 := F0 m 144 ls [.int (nI (i + 2)), .ref b, .int (xs (i + 1)), .ref x]) (congrArg (fun z9 : Int32 => F0 m 144 ls [.int z9, .ref b, .int (xs (i + 1)), .ref x]) (show ((nI i) + 2 : Int32) = nI (i + 2) from (nI_add i 2))) ?_
    refine va_sld hx hb hXs hbl hbA J.2.2 (vp_in_nI (by omega) (by omega)) dL_law_144 ?_
    refine W.eq (g2 := F0 m 145 ls [.int (xs (i + 2)), .int (xs (i + 1)), .ref x]) (congrArg (fun z9 : Int32 => F0 m 145 ls [.int z9, .int (xs (i + 1)), .ref x]) (show (xs (nI (i + 2)).toNatClampNeg : Int32) = xs (i + 2) from (congrArg xs (nI_clamp (by omega))))) ?_
    refine lv_aload_n hx hb dL_law_145 rfl (lv_at hl 4 rfl) ?_
    refine lv_iload hx hb dL_law_146 (lv_at hl 0 rfl) ?_
    refine lv_iconst (v := 3) hx hb dL_law_148 (by decide) ?_
    refine lv_iadd hx hb dL_law_149 ?_
    refine W.eq (g2 := F0 m 150 ls [.int (nI (i + 3)), .ref b, .int (xs (i + 2)), .int (xs (i + 1)), .ref x]) (congrArg (fun z9 : Int32 => F0 m 150 ls [.int z9, .ref b, .int (xs (i + 2)), .int (xs (i + 1)), .ref x]) (show ((nI i) + 3 : Int32) = nI (i + 3) from (nI_add i 3))) ?_
    refine va_sld hx hb hXs hbl hbA J.2.2 (vp_in_nI (by omega) (by omega)) dL_law_150 ?_
    refine W.eq (g2 := F0 m 151 ls [.int (xs (i + 3)), .int (xs (i + 2)), .int (xs (i + 1)), .ref x]) (congrArg (fun z9 : Int32 => F0 m 151 ls [.int z9, .int (xs (i + 2)), .int (xs (i + 1)), .ref x]) (show (xs (nI (i + 3)).toNatClampNeg : Int32) = xs (i + 3) from (congrArg xs (nI_clamp (by omega))))) ?_
    refine lv_aload_n hx hb dL_law_151 rfl (lv_at hl 4 rfl) ?_
    refine lv_iload hx hb dL_law_152 (lv_at hl 0 rfl) ?_
    refine lv_iconst (v := 4) hx hb dL_law_154 (by decide) ?_
    refine lv_iadd hx hb dL_law_155 ?_
    refine W.eq (g2 := F0 m 156 ls [.int (nI (i + 4)), .ref b, .int (xs (i + 3)), .int (xs (i + 2)), .int (xs (i + 1)), .ref x]) (congrArg (fun z9 : Int32 => F0 m 156 ls [.int z9, .ref b, .int (xs (i + 3)), .int (xs (i + 2)), .int (xs (i + 1)), .ref x]) (show ((nI i) + 4 : Int32) = nI (i + 4) from (nI_add i 4))) ?_
    refine va_sld hx hb hXs hbl hbA J.2.2 (vp_in_nI (by omega) (by omega)) dL_law_156 ?_
    refine W.eq (g2 := F0 m 157 ls [.int (xs (i + 4)), .int (xs (i + 3)), .int (xs (i + 2)), .int (xs (i + 1)), .ref x]) (congrArg (fun z9 : Int32 => F0 m 157 ls [.int z9, .int (xs (i + 3)), .int (xs (i + 2)), .int (xs (i + 1)), .ref x]) (show (xs (nI (i + 4)).toNatClampNeg : Int32) = xs (i + 4) from (congrArg xs (nI_clamp (by omega))))) ?_
    refine lv_if_eq (tgt := 164) hx hb dL_law_157 (by decide) (fun cz157 => ?_) (fun cz157 => ?_)
    · refine lv_iconst (v := 0) hx hb dL_law_164 (by decide) ?_
      refine lv_aload_n hx hb dL_law_165 rfl (lv_at hl 4 rfl) ?_
      refine lv_iload hx hb dL_law_166 (lv_at hl 0 rfl) ?_
      refine lv_iconst (v := 5) hx hb dL_law_168 (by decide) ?_
      refine lv_iadd hx hb dL_law_169 ?_
      refine W.eq (g2 := F0 m 170 ls [.int (nI (i + 5)), .ref b, .int 0, .int (xs (i + 3)), .int (xs (i + 2)), .int (xs (i + 1)), .ref x]) (congrArg (fun z9 : Int32 => F0 m 170 ls [.int z9, .ref b, .int 0, .int (xs (i + 3)), .int (xs (i + 2)), .int (xs (i + 1)), .ref x]) (show ((nI i) + 5 : Int32) = nI (i + 5) from (nI_add i 5))) ?_
      refine va_sld hx hb hXs hbl hbA J.2.2 (vp_in_nI (by omega) (by omega)) dL_law_170 ?_
      refine W.eq (g2 := F0 m 171 ls [.int (xs (i + 5)), .int 0, .int (xs (i + 3)), .int (xs (i + 2)), .int (xs (i + 1)), .ref x]) (congrArg (fun z9 : Int32 => F0 m 171 ls [.int z9, .int 0, .int (xs (i + 3)), .int (xs (i + 2)), .int (xs (i + 1)), .ref x]) (show (xs (nI (i + 5)).toNatClampNeg : Int32) = xs (i + 5) from (congrArg xs (nI_clamp (by omega))))) ?_
      refine lv_aload_n hx hb dL_law_171 rfl (lv_at hl 4 rfl) ?_
      refine lv_iload hx hb dL_law_172 (lv_at hl 0 rfl) ?_
      refine lv_bipush (v := 6) hx hb dL_law_174 (by decide) ?_
      refine lv_iadd hx hb dL_law_176 ?_
      refine W.eq (g2 := F0 m 177 ls [.int (nI (i + 6)), .ref b, .int (xs (i + 5)), .int 0, .int (xs (i + 3)), .int (xs (i + 2)), .int (xs (i + 1)), .ref x]) (congrArg (fun z9 : Int32 => F0 m 177 ls [.int z9, .ref b, .int (xs (i + 5)), .int 0, .int (xs (i + 3)), .int (xs (i + 2)), .int (xs (i + 1)), .ref x]) (show ((nI i) + 6 : Int32) = nI (i + 6) from (nI_add i 6))) ?_
      refine va_sld hx hb hXs hbl hbA J.2.2 (vp_in_nI (by omega) (by omega)) dL_law_177 ?_
      refine W.eq (g2 := F0 m 178 ls [.int (xs (i + 6)), .int (xs (i + 5)), .int 0, .int (xs (i + 3)), .int (xs (i + 2)), .int (xs (i + 1)), .ref x]) (congrArg (fun z9 : Int32 => F0 m 178 ls [.int z9, .int (xs (i + 5)), .int 0, .int (xs (i + 3)), .int (xs (i + 2)), .int (xs (i + 1)), .ref x]) (show (xs (nI (i + 6)).toNatClampNeg : Int32) = xs (i + 6) from (congrArg xs (nI_clamp (by omega))))) ?_
      refine lv_aload_n hx hb dL_law_178 rfl (lv_at hl 1 rfl) ?_
      refine z_xi J (z_wS (As := [.ref x, .int (xs (i + 1)), .int (xs (i + 2)), .int (xs (i + 3)), .int 0, .int (xs (i + 5)), .int (xs (i + 6)), .ref ou]) (rest := []) X hRz hNz J (cL_fence_n_ok l hflags E Fa0 Fa1 hFa.2.1 Fa18 (by first | exact Or.inl rfl | exact Or.inr rfl) hnf) (vx_cwSW (hh := [(0, 18, 21, 13), (0, 18, 25, 15), (0, 18, 29, 17)]) 8 hts gL_law_L_fence rfl rfl rfl (by decide +kernel) ⟨Nat.le_of_ble_eq_true rfl, Nat.le_of_ble_eq_true rfl⟩) rfl hl.1 rfl (Nat.le_of_ble_eq_true rfl) dL_law_179 ⟨by show _ ≤ 601024; omega, by show _ ≤ 7293034; omega⟩) (fun nm ce q9 H locs hp9 J h1 h2 h3 => ?_) (fun r179 ws_1 H locs hp9 J => ?_)
      · exact False.elim (by exact hp9)
      rcases hp9 with ⟨e_v, e_k, rfl⟩ | ⟨e_v, e_k, k1, ⟨fo_1, sp_1, hlen1, G1_a0, G1_a1, G1_a2, N1_0, N1_1⟩⟩
      · subst e_v
        have hk : zK [0, 1, 2, 3, 4, 5, 6, 7, 8, 9, 10, 11, 12, 13, 14, 15, 16, 17, 18] ws ws := zK.rf
        refine lv_istore (lv' := [(5, .int (kFence (xs (i + 1)) (xs (i + 2)) (xs (i + 3)) 0 (xs (i + 5)) (xs (i + 6)) (nI nf))), (4, .int (nI i)), (3, .ref ou), (2, .ref mo), (1, .ref x), (0, .ref b)]) hx hb dL_law_182 hl (by decide) rfl (fun ls hl => ?_)
        refine lv_aload_n hx hb dL_law_184 rfl (lv_at hl 3 rfl) ?_
        refine lv_aload_n hx hb dL_law_185 rfl (lv_at hl 5 rfl) ?_
        refine lv_iload hx hb dL_law_186 (lv_at hl 1 rfl) ?_
        refine lv_iconst (v := 1) hx hb dL_law_188 (by decide) ?_
        refine lv_iadd hx hb dL_law_189 ?_
        refine W.eq (g2 := F0 m 190 ls [.int (nI (i + 1)), .ref b, .ref mo]) (congrArg (fun z9 : Int32 => F0 m 190 ls [.int z9, .ref b, .ref mo]) (show ((nI i) + 1 : Int32) = nI (i + 1) from (nI_add i 1))) ?_
        refine va_sld hx hb hXs hbl hbA J.2.2 (vp_in_nI (by omega) (by omega)) dL_law_190 ?_
        refine W.eq (g2 := F0 m 191 ls [.int (xs (i + 1)), .ref mo]) (congrArg (fun z9 : Int32 => F0 m 191 ls [.int z9, .ref mo]) (show (xs (nI (i + 1)).toNatClampNeg : Int32) = xs (i + 1) from (congrArg xs (nI_clamp (by omega))))) ?_
        refine lv_aload_n hx hb dL_law_191 rfl (lv_at hl 5 rfl) ?_
        refine lv_iload hx hb dL_law_192 (lv_at hl 1 rfl) ?_
        refine lv_iconst (v := 2) hx hb dL_law_194 (by decide) ?_
        refine lv_iadd hx hb dL_law_195 ?_
        refine W.eq (g2 := F0 m 196 ls [.int (nI (i + 2)), .ref b, .int (xs (i + 1)), .ref mo]) (congrArg (fun z9 : Int32 => F0 m 196 ls [.int z9, .ref b, .int (xs (i + 1)), .ref mo]) (show ((nI i) + 2 : Int32) = nI (i + 2) from (nI_add i 2))) ?_
        refine va_sld hx hb hXs hbl hbA J.2.2 (vp_in_nI (by omega) (by omega)) dL_law_196 ?_
        refine W.eq (g2 := F0 m 197 ls [.int (xs (i + 2)), .int (xs (i + 1)), .ref mo]) (congrArg (fun z9 : Int32 => F0 m 197 ls [.int z9, .int (xs (i + 1)), .ref mo]) (show (xs (nI (i + 2)).toNatClampNeg : Int32) = xs (i + 2) from (congrArg xs (nI_clamp (by omega))))) ?_
        refine lv_aload_n hx hb dL_law_197 rfl (lv_at hl 5 rfl) ?_
        refine lv_iload hx hb dL_law_198 (lv_at hl 1 rfl) ?_
        refine lv_iconst (v := 3) hx hb dL_law_200 (by decide) ?_
        refine lv_iadd hx hb dL_law_201 ?_
        refine W.eq (g2 := F0 m 202 ls [.int (nI (i + 3)), .ref b, .int (xs (i + 2)), .int (xs (i + 1)), .ref mo]) (congrArg (fun z9 : Int32 => F0 m 202 ls [.int z9, .ref b, .int (xs (i + 2)), .int (xs (i + 1)), .ref mo]) (show ((nI i) + 3 : Int32) = nI (i + 3) from (nI_add i 3))) ?_
        refine va_sld hx hb hXs hbl hbA J.2.2 (vp_in_nI (by omega) (by omega)) dL_law_202 ?_
        refine W.eq (g2 := F0 m 203 ls [.int (xs (i + 3)), .int (xs (i + 2)), .int (xs (i + 1)), .ref mo]) (congrArg (fun z9 : Int32 => F0 m 203 ls [.int z9, .int (xs (i + 2)), .int (xs (i + 1)), .ref mo]) (show (xs (nI (i + 3)).toNatClampNeg : Int32) = xs (i + 3) from (congrArg xs (nI_clamp (by omega))))) ?_
        refine lv_aload_n hx hb dL_law_203 rfl (lv_at hl 5 rfl) ?_
        refine lv_iload hx hb dL_law_204 (lv_at hl 1 rfl) ?_
        refine lv_iconst (v := 4) hx hb dL_law_206 (by decide) ?_
        refine lv_iadd hx hb dL_law_207 ?_
        refine W.eq (g2 := F0 m 208 ls [.int (nI (i + 4)), .ref b, .int (xs (i + 3)), .int (xs (i + 2)), .int (xs (i + 1)), .ref mo]) (congrArg (fun z9 : Int32 => F0 m 208 ls [.int z9, .ref b, .int (xs (i + 3)), .int (xs (i + 2)), .int (xs (i + 1)), .ref mo]) (show ((nI i) + 4 : Int32) = nI (i + 4) from (nI_add i 4))) ?_
        refine va_sld hx hb hXs hbl hbA J.2.2 (vp_in_nI (by omega) (by omega)) dL_law_208 ?_
        refine W.eq (g2 := F0 m 209 ls [.int (xs (i + 4)), .int (xs (i + 3)), .int (xs (i + 2)), .int (xs (i + 1)), .ref mo]) (congrArg (fun z9 : Int32 => F0 m 209 ls [.int z9, .int (xs (i + 3)), .int (xs (i + 2)), .int (xs (i + 1)), .ref mo]) (show (xs (nI (i + 4)).toNatClampNeg : Int32) = xs (i + 4) from (congrArg xs (nI_clamp (by omega))))) ?_
        refine lv_if_eq (tgt := 216) hx hb dL_law_209 (by decide) (fun cz209 => ?_) (fun cz209 => by exact (cz209 cz157).elim)
        refine lv_iconst (v := 0) hx hb dL_law_216 (by decide) ?_
        refine lv_aload_n hx hb dL_law_217 rfl (lv_at hl 5 rfl) ?_
        refine lv_iload hx hb dL_law_218 (lv_at hl 1 rfl) ?_
        refine lv_iconst (v := 5) hx hb dL_law_220 (by decide) ?_
        refine lv_iadd hx hb dL_law_221 ?_
        refine W.eq (g2 := F0 m 222 ls [.int (nI (i + 5)), .ref b, .int 0, .int (xs (i + 3)), .int (xs (i + 2)), .int (xs (i + 1)), .ref mo]) (congrArg (fun z9 : Int32 => F0 m 222 ls [.int z9, .ref b, .int 0, .int (xs (i + 3)), .int (xs (i + 2)), .int (xs (i + 1)), .ref mo]) (show ((nI i) + 5 : Int32) = nI (i + 5) from (nI_add i 5))) ?_
        refine va_sld hx hb hXs hbl hbA J.2.2 (vp_in_nI (by omega) (by omega)) dL_law_222 ?_
        refine W.eq (g2 := F0 m 223 ls [.int (xs (i + 5)), .int 0, .int (xs (i + 3)), .int (xs (i + 2)), .int (xs (i + 1)), .ref mo]) (congrArg (fun z9 : Int32 => F0 m 223 ls [.int z9, .int 0, .int (xs (i + 3)), .int (xs (i + 2)), .int (xs (i + 1)), .ref mo]) (show (xs (nI (i + 5)).toNatClampNeg : Int32) = xs (i + 5) from (congrArg xs (nI_clamp (by omega))))) ?_
        refine lv_aload_n hx hb dL_law_223 rfl (lv_at hl 5 rfl) ?_
        refine lv_iload hx hb dL_law_224 (lv_at hl 1 rfl) ?_
        refine lv_bipush (v := 6) hx hb dL_law_226 (by decide) ?_
        refine lv_iadd hx hb dL_law_228 ?_
        refine W.eq (g2 := F0 m 229 ls [.int (nI (i + 6)), .ref b, .int (xs (i + 5)), .int 0, .int (xs (i + 3)), .int (xs (i + 2)), .int (xs (i + 1)), .ref mo]) (congrArg (fun z9 : Int32 => F0 m 229 ls [.int z9, .ref b, .int (xs (i + 5)), .int 0, .int (xs (i + 3)), .int (xs (i + 2)), .int (xs (i + 1)), .ref mo]) (show ((nI i) + 6 : Int32) = nI (i + 6) from (nI_add i 6))) ?_
        refine va_sld hx hb hXs hbl hbA J.2.2 (vp_in_nI (by omega) (by omega)) dL_law_229 ?_
        refine W.eq (g2 := F0 m 230 ls [.int (xs (i + 6)), .int (xs (i + 5)), .int 0, .int (xs (i + 3)), .int (xs (i + 2)), .int (xs (i + 1)), .ref mo]) (congrArg (fun z9 : Int32 => F0 m 230 ls [.int z9, .int (xs (i + 5)), .int 0, .int (xs (i + 3)), .int (xs (i + 2)), .int (xs (i + 1)), .ref mo]) (show (xs (nI (i + 6)).toNatClampNeg : Int32) = xs (i + 6) from (congrArg xs (nI_clamp (by omega))))) ?_
        refine z_ci J (z_rV (As := [.int (xs (i + 1)), .int (xs (i + 2)), .int (xs (i + 3)), .int 0, .int (xs (i + 5)), .int (xs (i + 6))]) (rest := []) (ci := 8) (q0 := 11) X J (cX7_fence_ok l E Fa11 Fa12 (by first | assumption | omega | decide) (zlt Fa12)) (cwV 6 hts gL_law_X7_fence rfl rfl rfl (by decide +kernel) ⟨Nat.le_of_ble_eq_true rfl, Nat.le_of_ble_eq_true rfl⟩) Fa11 rfl rfl rfl hl.1 rfl (Nat.le_of_ble_eq_true rfl) dL_law_230 ⟨by show _ ≤ 601024; omega, by show _ ≤ 7293034; omega⟩) (fun r230 ws_2 H locs hp9 J => ?_)
        obtain ⟨k2, G2_a0, G2_a1, e_r230⟩ := hp9
        have hk := hk.trans (k2.mono (by decide))
        have G2_0 := k2.2 0 _ (by decide) Fa0
        have G2_1 := k2.2 1 _ (by decide) Fa1
        have G2_2 := k2.2 2 _ (by decide) Fa2
        have G2_3 := k2.2 3 _ (by decide) Fa3
        have G2_4 := k2.2 4 _ (by decide) Fa4
        have G2_5 := k2.2 5 _ (by decide) Fa5
        have G2_6 := k2.2 6 _ (by decide) Fa6
        have G2_7 := k2.2 7 _ (by decide) Fa7
        have G2_8 := k2.2 8 _ (by decide) Fa8
        have G2_9 := k2.2 9 _ (by decide) Fa9
        have G2_10 := k2.2 10 _ (by decide) Fa10
        have G2_13 := k2.2 13 _ (by decide) Fa13
        have G2_14 := k2.2 14 _ (by decide) Fa14
        have G2_15 := k2.2 15 _ (by decide) Fa15
        have G2_16 := k2.2 16 _ (by decide) Fa16
        have G2_17 := k2.2 17 _ (by decide) Fa17
        have G2_18 := k2.2 18 _ (by decide) Fa18
        have G2_19 := k2.2 qe _ (by simp only [List.mem_cons, List.not_mem_nil, or_false]; omega) hFa.2.1
        have F11 : ws_2[11]? = some (mo, .inr (8, [.int (kFence (xs (i + 1)) (xs (i + 2)) (xs (i + 3)) 0 (xs (i + 5)) (xs (i + 6)) (nI nf)), .int (nI nf), .ref mf, .int (nI nr), .ref md, .ref mi, .int lim, .int sup, .int off, .int plo, .int hrs, .ref ms9, .ref mk, .ref mt])) := by simpa only [selN e_k] using G2_a0
        refine lv_istore (lv' := [(6, .int r230), (5, .int (kFence (xs (i + 1)) (xs (i + 2)) (xs (i + 3)) 0 (xs (i + 5)) (xs (i + 6)) (nI nf))), (4, .int (nI i)), (3, .ref ou), (2, .ref mo), (1, .ref x), (0, .ref b)]) hx hb dL_law_233 hl (by decide) rfl (fun ls hl => ?_)
        refine lv_aload_n hx hb dL_law_235 rfl (lv_at hl 4 rfl) ?_
        refine z_cr (z_rV (As := []) (rest := []) (ci := 8) (q0 := 11) X J (cX7_thrown_ok l E F11) (cwV 0 hts gL_law_X7_thrown rfl rfl rfl (by decide +kernel) ⟨Nat.le_of_ble_eq_true rfl, Nat.le_of_ble_eq_true rfl⟩) F11 rfl rfl rfl hl.1 rfl (Nat.le_of_ble_eq_true rfl) dL_law_236 ⟨by show _ ≤ 601024; omega, by show _ ≤ 7293034; omega⟩) (fun r236 e_r236 => ?_)
        subst e_r236
        refine lv_iload hx hb dL_law_239 (lv_at hl 1 rfl) ?_
        refine lv_icmp_eq (tgt := 246) hx hb dL_law_241 (by decide) (fun cz241 => ?_) (fun cz241 => by exact (cz241 rfl).elim)
        refine lv_iload hx hb dL_law_246 (lv_at hl 1 rfl) ?_
        refine lv_if_ne (tgt := 263) hx hb dL_law_248 (by decide) (fun cz248 => ?_) (fun cz248 => by exact (e_k cz248).elim)
        refine lv_goto (tgt := 1425) hx hb dL_law_263 (by decide) ?_
        refine W.widen (k := cells + 700) (n := slots + 4500) (by omega) (by omega) ?_
        exact kk _ H locs _ ⟨fl, rl, wh, gr, gra, tr, tra, sc, ha, va, mf, md, mi, ms9, mk, mt, ea, eb, nf, nr, mc1, mc2, lim, sup, off, plo, hrs, (kFence (xs (i + 1)) (xs (i + 2)) (xs (i + 3)) 0 (xs (i + 5)) (xs (i + 6)) (nI nf)), fa, rd, ri, sn, t9, hf, gf, kp, tp, o9, G2_0, G2_1, G2_2, G2_3, G2_4, G2_5, G2_6, G2_7, G2_8, G2_9, G2_10, F11, (by simpa only [selN e_k] using G2_a1), G2_13, G2_14, G2_15, G2_16, G2_17, G2_18, (hF.keep hk (by decide)), (hR.keep hk (by decide)), hSep, hnf, hnr, hok, hor, hRB, hBI⟩ J (lv_sub hl [2, 3, 4, 5, 6] rfl)
      · subst e_v
        have lp1 := hk.1
        have b_1_0 := zlt Fa0
        have b_1_1 := zlt Fa1
        have b_1_2 := zlt Fa2
        have b_1_3 := zlt Fa3
        have b_1_4 := zlt Fa4
        have b_1_5 := zlt Fa5
        have b_1_6 := zlt Fa6
        have b_1_7 := zlt Fa7
        have b_1_8 := zlt Fa8
        have b_1_9 := zlt Fa9
        have b_1_10 := zlt Fa10
        have b_1_11 := zlt Fa11
        have b_1_12 := zlt Fa12
        have b_1_13 := zlt Fa13
        have b_1_14 := zlt Fa14
        have b_1_15 := zlt Fa15
        have b_1_16 := zlt Fa16
        have b_1_17 := zlt Fa17
        have b_1_18 := zlt Fa18
        have b_1_19 := zlt hFa.2.1
        have hk := hk.trans (k1.mono (by intro q9 hq9; simp only [List.mem_cons, List.not_mem_nil, or_false] at hq9 ⊢; omega))
        have G1_0 := k1.2 0 _ (by simp only [List.mem_cons, List.not_mem_nil, or_false]; omega) Fa0
        have G1_2 := k1.2 2 _ (by simp only [List.mem_cons, List.not_mem_nil, or_false]; omega) Fa2
        have G1_3 := k1.2 3 _ (by simp only [List.mem_cons, List.not_mem_nil, or_false]; omega) Fa3
        have G1_4 := k1.2 4 _ (by simp only [List.mem_cons, List.not_mem_nil, or_false]; omega) Fa4
        have G1_5 := k1.2 5 _ (by simp only [List.mem_cons, List.not_mem_nil, or_false]; omega) Fa5
        have G1_6 := k1.2 6 _ (by simp only [List.mem_cons, List.not_mem_nil, or_false]; omega) Fa6
        have G1_7 := k1.2 7 _ (by simp only [List.mem_cons, List.not_mem_nil, or_false]; omega) Fa7
        have G1_8 := k1.2 8 _ (by simp only [List.mem_cons, List.not_mem_nil, or_false]; omega) Fa8
        have G1_9 := k1.2 9 _ (by simp only [List.mem_cons, List.not_mem_nil, or_false]; omega) Fa9
        have G1_10 := k1.2 10 _ (by simp only [List.mem_cons, List.not_mem_nil, or_false]; omega) Fa10
        have G1_11 := k1.2 11 _ (by simp only [List.mem_cons, List.not_mem_nil, or_false]; omega) Fa11
        have G1_12 := k1.2 12 _ (by simp only [List.mem_cons, List.not_mem_nil, or_false]; omega) Fa12
        have G1_13 := k1.2 13 _ (by simp only [List.mem_cons, List.not_mem_nil, or_false]; omega) Fa13
        have G1_14 := k1.2 14 _ (by simp only [List.mem_cons, List.not_mem_nil, or_false]; omega) Fa14
        have G1_15 := k1.2 15 _ (by simp only [List.mem_cons, List.not_mem_nil, or_false]; omega) Fa15
        have G1_16 := k1.2 16 _ (by simp only [List.mem_cons, List.not_mem_nil, or_false]; omega) Fa16
        have G1_17 := k1.2 17 _ (by simp only [List.mem_cons, List.not_mem_nil, or_false]; omega) Fa17
        obtain ⟨pn_1_0, hpn_1_0⟩ : ∃ z : Nat, z = ws.length + 0 := ⟨_, rfl⟩
        rw [← hpn_1_0] at N1_0
        obtain ⟨pn_1_1, hpn_1_1⟩ : ∃ z : Nat, z = ws.length + 1 := ⟨_, rfl⟩
        rw [← hpn_1_1] at N1_1
        refine lv_istore (lv' := [(5, .int 0), (4, .int (nI i)), (3, .ref ou), (2, .ref mo), (1, .ref x), (0, .ref b)]) hx hb dL_law_182 hl (by decide) rfl (fun ls hl => ?_)
        refine lv_aload_n hx hb dL_law_184 rfl (lv_at hl 3 rfl) ?_
        refine lv_aload_n hx hb dL_law_185 rfl (lv_at hl 5 rfl) ?_
        refine lv_iload hx hb dL_law_186 (lv_at hl 1 rfl) ?_
        refine lv_iconst (v := 1) hx hb dL_law_188 (by decide) ?_
        refine lv_iadd hx hb dL_law_189 ?_
        refine W.eq (g2 := F0 m 190 ls [.int (nI (i + 1)), .ref b, .ref mo]) (congrArg (fun z9 : Int32 => F0 m 190 ls [.int z9, .ref b, .ref mo]) (show ((nI i) + 1 : Int32) = nI (i + 1) from (nI_add i 1))) ?_
        refine va_sld hx hb hXs hbl hbA J.2.2 (vp_in_nI (by omega) (by omega)) dL_law_190 ?_
        refine W.eq (g2 := F0 m 191 ls [.int (xs (i + 1)), .ref mo]) (congrArg (fun z9 : Int32 => F0 m 191 ls [.int z9, .ref mo]) (show (xs (nI (i + 1)).toNatClampNeg : Int32) = xs (i + 1) from (congrArg xs (nI_clamp (by omega))))) ?_
        refine lv_aload_n hx hb dL_law_191 rfl (lv_at hl 5 rfl) ?_
        refine lv_iload hx hb dL_law_192 (lv_at hl 1 rfl) ?_
        refine lv_iconst (v := 2) hx hb dL_law_194 (by decide) ?_
        refine lv_iadd hx hb dL_law_195 ?_
        refine W.eq (g2 := F0 m 196 ls [.int (nI (i + 2)), .ref b, .int (xs (i + 1)), .ref mo]) (congrArg (fun z9 : Int32 => F0 m 196 ls [.int z9, .ref b, .int (xs (i + 1)), .ref mo]) (show ((nI i) + 2 : Int32) = nI (i + 2) from (nI_add i 2))) ?_
        refine va_sld hx hb hXs hbl hbA J.2.2 (vp_in_nI (by omega) (by omega)) dL_law_196 ?_
        refine W.eq (g2 := F0 m 197 ls [.int (xs (i + 2)), .int (xs (i + 1)), .ref mo]) (congrArg (fun z9 : Int32 => F0 m 197 ls [.int z9, .int (xs (i + 1)), .ref mo]) (show (xs (nI (i + 2)).toNatClampNeg : Int32) = xs (i + 2) from (congrArg xs (nI_clamp (by omega))))) ?_
        refine lv_aload_n hx hb dL_law_197 rfl (lv_at hl 5 rfl) ?_
        refine lv_iload hx hb dL_law_198 (lv_at hl 1 rfl) ?_
        refine lv_iconst (v := 3) hx hb dL_law_200 (by decide) ?_
        refine lv_iadd hx hb dL_law_201 ?_
        refine W.eq (g2 := F0 m 202 ls [.int (nI (i + 3)), .ref b, .int (xs (i + 2)), .int (xs (i + 1)), .ref mo]) (congrArg (fun z9 : Int32 => F0 m 202 ls [.int z9, .ref b, .int (xs (i + 2)), .int (xs (i + 1)), .ref mo]) (show ((nI i) + 3 : Int32) = nI (i + 3) from (nI_add i 3))) ?_
        refine va_sld hx hb hXs hbl hbA J.2.2 (vp_in_nI (by omega) (by omega)) dL_law_202 ?_
        refine W.eq (g2 := F0 m 203 ls [.int (xs (i + 3)), .int (xs (i + 2)), .int (xs (i + 1)), .ref mo]) (congrArg (fun z9 : Int32 => F0 m 203 ls [.int z9, .int (xs (i + 2)), .int (xs (i + 1)), .ref mo]) (show (xs (nI (i + 3)).toNatClampNeg : Int32) = xs (i + 3) from (congrArg xs (nI_clamp (by omega))))) ?_
        refine lv_aload_n hx hb dL_law_203 rfl (lv_at hl 5 rfl) ?_
        refine lv_iload hx hb dL_law_204 (lv_at hl 1 rfl) ?_
        refine lv_iconst (v := 4) hx hb dL_law_206 (by decide) ?_
        refine lv_iadd hx hb dL_law_207 ?_
        refine W.eq (g2 := F0 m 208 ls [.int (nI (i + 4)), .ref b, .int (xs (i + 3)), .int (xs (i + 2)), .int (xs (i + 1)), .ref mo]) (congrArg (fun z9 : Int32 => F0 m 208 ls [.int z9, .ref b, .int (xs (i + 3)), .int (xs (i + 2)), .int (xs (i + 1)), .ref mo]) (show ((nI i) + 4 : Int32) = nI (i + 4) from (nI_add i 4))) ?_
        refine va_sld hx hb hXs hbl hbA J.2.2 (vp_in_nI (by omega) (by omega)) dL_law_208 ?_
        refine W.eq (g2 := F0 m 209 ls [.int (xs (i + 4)), .int (xs (i + 3)), .int (xs (i + 2)), .int (xs (i + 1)), .ref mo]) (congrArg (fun z9 : Int32 => F0 m 209 ls [.int z9, .int (xs (i + 3)), .int (xs (i + 2)), .int (xs (i + 1)), .ref mo]) (show (xs (nI (i + 4)).toNatClampNeg : Int32) = xs (i + 4) from (congrArg xs (nI_clamp (by omega))))) ?_
        refine lv_if_eq (tgt := 216) hx hb dL_law_209 (by decide) (fun cz209 => ?_) (fun cz209 => by exact (cz209 cz157).elim)
        refine lv_iconst (v := 0) hx hb dL_law_216 (by decide) ?_
        refine lv_aload_n hx hb dL_law_217 rfl (lv_at hl 5 rfl) ?_
        refine lv_iload hx hb dL_law_218 (lv_at hl 1 rfl) ?_
        refine lv_iconst (v := 5) hx hb dL_law_220 (by decide) ?_
        refine lv_iadd hx hb dL_law_221 ?_
        refine W.eq (g2 := F0 m 222 ls [.int (nI (i + 5)), .ref b, .int 0, .int (xs (i + 3)), .int (xs (i + 2)), .int (xs (i + 1)), .ref mo]) (congrArg (fun z9 : Int32 => F0 m 222 ls [.int z9, .ref b, .int 0, .int (xs (i + 3)), .int (xs (i + 2)), .int (xs (i + 1)), .ref mo]) (show ((nI i) + 5 : Int32) = nI (i + 5) from (nI_add i 5))) ?_
        refine va_sld hx hb hXs hbl hbA J.2.2 (vp_in_nI (by omega) (by omega)) dL_law_222 ?_
        refine W.eq (g2 := F0 m 223 ls [.int (xs (i + 5)), .int 0, .int (xs (i + 3)), .int (xs (i + 2)), .int (xs (i + 1)), .ref mo]) (congrArg (fun z9 : Int32 => F0 m 223 ls [.int z9, .int 0, .int (xs (i + 3)), .int (xs (i + 2)), .int (xs (i + 1)), .ref mo]) (show (xs (nI (i + 5)).toNatClampNeg : Int32) = xs (i + 5) from (congrArg xs (nI_clamp (by omega))))) ?_
        refine lv_aload_n hx hb dL_law_223 rfl (lv_at hl 5 rfl) ?_
        refine lv_iload hx hb dL_law_224 (lv_at hl 1 rfl) ?_
        refine lv_bipush (v := 6) hx hb dL_law_226 (by decide) ?_
        refine lv_iadd hx hb dL_law_228 ?_
        refine W.eq (g2 := F0 m 229 ls [.int (nI (i + 6)), .ref b, .int (xs (i + 5)), .int 0, .int (xs (i + 3)), .int (xs (i + 2)), .int (xs (i + 1)), .ref mo]) (congrArg (fun z9 : Int32 => F0 m 229 ls [.int z9, .ref b, .int (xs (i + 5)), .int 0, .int (xs (i + 3)), .int (xs (i + 2)), .int (xs (i + 1)), .ref mo]) (show ((nI i) + 6 : Int32) = nI (i + 6) from (nI_add i 6))) ?_
        refine va_sld hx hb hXs hbl hbA J.2.2 (vp_in_nI (by omega) (by omega)) dL_law_229 ?_
        refine W.eq (g2 := F0 m 230 ls [.int (xs (i + 6)), .int (xs (i + 5)), .int 0, .int (xs (i + 3)), .int (xs (i + 2)), .int (xs (i + 1)), .ref mo]) (congrArg (fun z9 : Int32 => F0 m 230 ls [.int z9, .int (xs (i + 5)), .int 0, .int (xs (i + 3)), .int (xs (i + 2)), .int (xs (i + 1)), .ref mo]) (show (xs (nI (i + 6)).toNatClampNeg : Int32) = xs (i + 6) from (congrArg xs (nI_clamp (by omega))))) ?_
        refine z_ci J (z_rV (As := [.int (xs (i + 1)), .int (xs (i + 2)), .int (xs (i + 3)), .int 0, .int (xs (i + 5)), .int (xs (i + 6))]) (rest := []) (ci := 8) (q0 := 11) X J (cX7_fence_ok l E G1_11 G1_12 (by first | assumption | omega | decide) (zlt G1_12)) (cwV 6 hts gL_law_X7_fence rfl rfl rfl (by decide +kernel) ⟨Nat.le_of_ble_eq_true rfl, Nat.le_of_ble_eq_true rfl⟩) G1_11 rfl rfl rfl hl.1 rfl (Nat.le_of_ble_eq_true rfl) dL_law_230 ⟨by show _ ≤ 601024; omega, by show _ ≤ 7293034; omega⟩) (fun r230 ws_2 H locs hp9 J => ?_)
        obtain ⟨k2, G2_a0, G2_a1, e_r230⟩ := hp9
        have hk := hk.trans (k2.mono (by intro q9 hq9; simp only [List.mem_cons, List.not_mem_nil, or_false] at hq9 ⊢; omega))
        have G2_0 := k2.2 0 _ (by decide) G1_0
        have G2_1 := k2.2 1 _ (by decide) G1_a0
        have G2_2 := k2.2 2 _ (by decide) G1_2
        have G2_3 := k2.2 3 _ (by decide) G1_3
        have G2_4 := k2.2 4 _ (by decide) G1_4
        have G2_5 := k2.2 5 _ (by decide) G1_5
        have G2_6 := k2.2 6 _ (by decide) G1_6
        have G2_7 := k2.2 7 _ (by decide) G1_7
        have G2_8 := k2.2 8 _ (by decide) G1_8
        have G2_9 := k2.2 9 _ (by decide) G1_9
        have G2_10 := k2.2 10 _ (by decide) G1_10
        have G2_13 := k2.2 13 _ (by decide) G1_13
        have G2_14 := k2.2 14 _ (by decide) G1_14
        have G2_15 := k2.2 15 _ (by decide) G1_15
        have G2_16 := k2.2 16 _ (by decide) G1_16
        have G2_17 := k2.2 17 _ (by decide) G1_17
        have G2_18 := k2.2 18 _ (by decide) G1_a2
        have G2_19 := k2.2 qe _ (by simp only [List.mem_cons, List.not_mem_nil, or_false]; omega) G1_a1
        have G2_20 := k2.2 pn_1_0 _ (by simp only [List.mem_cons, List.not_mem_nil, or_false]; omega) N1_0
        have G2_21 := k2.2 pn_1_1 _ (by simp only [List.mem_cons, List.not_mem_nil, or_false]; omega) N1_1
        refine W.eq (g2 := F0 m 233 ls [.int (nI nf)]) (congrArg (fun z9 : Int32 => F0 m 233 ls [.int z9]) (show (r230 : Int32) = nI nf from (by rw [e_r230, e_k, sel0]))) ?_
        have F11 : ws_2[11]? = some (mo, .inr (8, [.int (kFence (xs (i + 1)) (xs (i + 2)) (xs (i + 3)) 0 (xs (i + 5)) (xs (i + 6)) (nI nf)), .int (nI (nf + 1)), .ref mf, .int (nI nr), .ref md, .ref mi, .int lim, .int sup, .int off, .int plo, .int hrs, .ref ms9, .ref mk, .ref mt])) := by simpa only [e_k, sel0] using G2_a0
        refine lv_istore (lv' := [(6, .int (nI nf)), (5, .int 0), (4, .int (nI i)), (3, .ref ou), (2, .ref mo), (1, .ref x), (0, .ref b)]) hx hb dL_law_233 hl (by decide) rfl (fun ls hl => ?_)
        refine lv_aload_n hx hb dL_law_235 rfl (lv_at hl 4 rfl) ?_
        refine z_cr (z_rV (As := []) (rest := []) (ci := 8) (q0 := 11) X J (cX7_thrown_ok l E F11) (cwV 0 hts gL_law_X7_thrown rfl rfl rfl (by decide +kernel) ⟨Nat.le_of_ble_eq_true rfl, Nat.le_of_ble_eq_true rfl⟩) F11 rfl rfl rfl hl.1 rfl (Nat.le_of_ble_eq_true rfl) dL_law_236 ⟨by show _ ≤ 601024; omega, by show _ ≤ 7293034; omega⟩) (fun r236 e_r236 => ?_)
        subst e_r236
        refine lv_iload hx hb dL_law_239 (lv_at hl 1 rfl) ?_
        refine lv_icmp_eq (tgt := 246) hx hb dL_law_241 (by decide) (fun cz241 => ?_) (fun cz241 => by exact (cz241 e_k).elim)
        refine lv_iload hx hb dL_law_246 (lv_at hl 1 rfl) ?_
        refine lv_if_ne (tgt := 263) hx hb dL_law_248 (by decide) (fun cz248 => by exact absurd cz248 (by decide)) (fun cz248 => ?_)
        refine lv_aload_n hx hb dL_law_251 rfl (lv_at hl 3 rfl) ?_
        refine lv_iconst (v := 0) hx hb dL_law_252 (by decide) ?_
        refine z_lald X J 18 G2_18 (vp_in_nI (n := 0) (by decide) (by decide)) dL_law_253 ?_
        refine W.eq (g2 := F0 m 254 ls [.long ((nI nf).toInt64)]) (congrArg (fun z9 : Int64 => F0 m 254 ls [.long z9]) (show ((vp_updL o9 0 (nI nf).toInt64) (0 : Int32).toNatClampNeg : Int64) = (nI nf).toInt64 from rfl)) ?_
        refine lv_iload hx hb dL_law_254 (lv_at hl 0 rfl) ?_
        refine lv_i2l (v := (nI nf).toInt64) hx hb dL_law_256 rfl ?_
        refine W.lcmp hx hb dL_law_257 ?_
        refine W.eq (g2 := F0 m 258 ls [.int 0]) (congrArg (fun z9 : Int32 => F0 m 258 ls [.int z9]) (show (lg_cmp ((nI nf).toInt64) ((nI nf).toInt64) : Int32) = 0 from (lg_cmp_self _))) ?_
        refine lv_if_eq (tgt := 263) hx hb dL_law_258 (by decide) (fun cz258 => ?_) (fun cz258 => by exact absurd cz258 (by decide))
        refine lv_goto (tgt := 1425) hx hb dL_law_263 (by decide) ?_
        obtain ⟨⟨l9, hl9, el9⟩, hok9⟩ := okF_add hok (dn := 0) (Or.inl rfl) e_k
        refine W.widen (k := cells + 700) (n := slots + 4500) (by omega) (by omega) ?_
        exact kk _ H locs _ ⟨fl, rl, wh, gr, gra, tr, tra, sc, ha, va, mf, md, mi, ms9, mk, mt, ea, eb, (nf + 1), nr, (mc1 + 1), mc2, lim, sup, off, plo, hrs, (kFence (xs (i + 1)) (xs (i + 2)) (xs (i + 3)) 0 (xs (i + 5)) (xs (i + 6)) (nI nf)), (fput fa nf (xs (i + 1)) (xs (i + 2)) (xs (i + 3)) 0 (xs (i + 5)) (xs (i + 6))), rd, ri, sn, t9, hf, gf, kp, tp, (vp_updL o9 0 (nI nf).toInt64), G2_0, G2_1, G2_2, G2_3, G2_4, G2_5, G2_6, G2_7, G2_8, G2_9, G2_10, F11, (by simpa only [e_k, sel0, b01z, b01o] using G2_a1), G2_13, G2_14, G2_15, G2_16, G2_17, G2_18, (by rw [el9]; exact FS.add (pf := pn_1_0) (ps := pn_1_1) hFa hl9 hk (by intro q hq; simp only [List.mem_cons, List.not_mem_nil, or_false] at hq; omega) G2_19 (by omega) G2_20 (by omega) (by rw [← el9]; exact G2_21)), (hR.keepE hk hFa.2.1 rfl rfl (hSep.ne hJ9 hE1 hFa.2.1) (by intro q hq; simp only [List.mem_cons, List.not_mem_nil, or_false] at hq; omega)), hSep, (kF_lt hnf e_k), hnr, hok9, hor, hRB, hBI⟩ J (lv_sub hl [2, 3, 4, 5, 6] rfl)
    · refine lv_iconst (v := 1) hx hb dL_law_160 (by decide) ?_
      refine lv_goto (tgt := 165) hx hb dL_law_161 (by decide) ?_
      refine lv_aload_n hx hb dL_law_165 rfl (lv_at hl 4 rfl) ?_
      refine lv_iload hx hb dL_law_166 (lv_at hl 0 rfl) ?_
      refine lv_iconst (v := 5) hx hb dL_law_168 (by decide) ?_
      refine lv_iadd hx hb dL_law_169 ?_
      refine W.eq (g2 := F0 m 170 ls [.int (nI (i + 5)), .ref b, .int 1, .int (xs (i + 3)), .int (xs (i + 2)), .int (xs (i + 1)), .ref x]) (congrArg (fun z9 : Int32 => F0 m 170 ls [.int z9, .ref b, .int 1, .int (xs (i + 3)), .int (xs (i + 2)), .int (xs (i + 1)), .ref x]) (show ((nI i) + 5 : Int32) = nI (i + 5) from (nI_add i 5))) ?_
      refine va_sld hx hb hXs hbl hbA J.2.2 (vp_in_nI (by omega) (by omega)) dL_law_170 ?_
      refine W.eq (g2 := F0 m 171 ls [.int (xs (i + 5)), .int 1, .int (xs (i + 3)), .int (xs (i + 2)), .int (xs (i + 1)), .ref x]) (congrArg (fun z9 : Int32 => F0 m 171 ls [.int z9, .int 1, .int (xs (i + 3)), .int (xs (i + 2)), .int (xs (i + 1)), .ref x]) (show (xs (nI (i + 5)).toNatClampNeg : Int32) = xs (i + 5) from (congrArg xs (nI_clamp (by omega))))) ?_
      refine lv_aload_n hx hb dL_law_171 rfl (lv_at hl 4 rfl) ?_
      refine lv_iload hx hb dL_law_172 (lv_at hl 0 rfl) ?_
      refine lv_bipush (v := 6) hx hb dL_law_174 (by decide) ?_
      refine lv_iadd hx hb dL_law_176 ?_
      refine W.eq (g2 := F0 m 177 ls [.int (nI (i + 6)), .ref b, .int (xs (i + 5)), .int 1, .int (xs (i + 3)), .int (xs (i + 2)), .int (xs (i + 1)), .ref x]) (congrArg (fun z9 : Int32 => F0 m 177 ls [.int z9, .ref b, .int (xs (i + 5)), .int 1, .int (xs (i + 3)), .int (xs (i + 2)), .int (xs (i + 1)), .ref x]) (show ((nI i) + 6 : Int32) = nI (i + 6) from (nI_add i 6))) ?_
      refine va_sld hx hb hXs hbl hbA J.2.2 (vp_in_nI (by omega) (by omega)) dL_law_177 ?_
      refine W.eq (g2 := F0 m 178 ls [.int (xs (i + 6)), .int (xs (i + 5)), .int 1, .int (xs (i + 3)), .int (xs (i + 2)), .int (xs (i + 1)), .ref x]) (congrArg (fun z9 : Int32 => F0 m 178 ls [.int z9, .int (xs (i + 5)), .int 1, .int (xs (i + 3)), .int (xs (i + 2)), .int (xs (i + 1)), .ref x]) (show (xs (nI (i + 6)).toNatClampNeg : Int32) = xs (i + 6) from (congrArg xs (nI_clamp (by omega))))) ?_
      refine lv_aload_n hx hb dL_law_178 rfl (lv_at hl 1 rfl) ?_
      refine z_xi J (z_wS (As := [.ref x, .int (xs (i + 1)), .int (xs (i + 2)), .int (xs (i + 3)), .int 1, .int (xs (i + 5)), .int (xs (i + 6)), .ref ou]) (rest := []) X hRz hNz J (cL_fence_n_ok l hflags E Fa0 Fa1 hFa.2.1 Fa18 (by first | exact Or.inl rfl | exact Or.inr rfl) hnf) (vx_cwSW (hh := [(0, 18, 21, 13), (0, 18, 25, 15), (0, 18, 29, 17)]) 8 hts gL_law_L_fence rfl rfl rfl (by decide +kernel) ⟨Nat.le_of_ble_eq_true rfl, Nat.le_of_ble_eq_true rfl⟩) rfl hl.1 rfl (Nat.le_of_ble_eq_true rfl) dL_law_179 ⟨by show _ ≤ 601024; omega, by show _ ≤ 7293034; omega⟩) (fun nm ce q9 H locs hp9 J h1 h2 h3 => ?_) (fun r179 ws_1 H locs hp9 J => ?_)
      · exact False.elim (by exact hp9)
      rcases hp9 with ⟨e_v, e_k, rfl⟩ | ⟨e_v, e_k, k1, ⟨fo_1, sp_1, hlen1, G1_a0, G1_a1, G1_a2, N1_0, N1_1⟩⟩
      · subst e_v
        have hk : zK [0, 1, 2, 3, 4, 5, 6, 7, 8, 9, 10, 11, 12, 13, 14, 15, 16, 17, 18] ws ws := zK.rf
        refine lv_istore (lv' := [(5, .int (kFence (xs (i + 1)) (xs (i + 2)) (xs (i + 3)) 1 (xs (i + 5)) (xs (i + 6)) (nI nf))), (4, .int (nI i)), (3, .ref ou), (2, .ref mo), (1, .ref x), (0, .ref b)]) hx hb dL_law_182 hl (by decide) rfl (fun ls hl => ?_)
        refine lv_aload_n hx hb dL_law_184 rfl (lv_at hl 3 rfl) ?_
        refine lv_aload_n hx hb dL_law_185 rfl (lv_at hl 5 rfl) ?_
        refine lv_iload hx hb dL_law_186 (lv_at hl 1 rfl) ?_
        refine lv_iconst (v := 1) hx hb dL_law_188 (by decide) ?_
        refine lv_iadd hx hb dL_law_189 ?_
        refine W.eq (g2 := F0 m 190 ls [.int (nI (i + 1)), .ref b, .ref mo]) (congrArg (fun z9 : Int32 => F0 m 190 ls [.int z9, .ref b, .ref mo]) (show ((nI i) + 1 : Int32) = nI (i + 1) from (nI_add i 1))) ?_
        refine va_sld hx hb hXs hbl hbA J.2.2 (vp_in_nI (by omega) (by omega)) dL_law_190 ?_
        refine W.eq (g2 := F0 m 191 ls [.int (xs (i + 1)), .ref mo]) (congrArg (fun z9 : Int32 => F0 m 191 ls [.int z9, .ref mo]) (show (xs (nI (i + 1)).toNatClampNeg : Int32) = xs (i + 1) from (congrArg xs (nI_clamp (by omega))))) ?_
        refine lv_aload_n hx hb dL_law_191 rfl (lv_at hl 5 rfl) ?_
        refine lv_iload hx hb dL_law_192 (lv_at hl 1 rfl) ?_
        refine lv_iconst (v := 2) hx hb dL_law_194 (by decide) ?_
        refine lv_iadd hx hb dL_law_195 ?_
        refine W.eq (g2 := F0 m 196 ls [.int (nI (i + 2)), .ref b, .int (xs (i + 1)), .ref mo]) (congrArg (fun z9 : Int32 => F0 m 196 ls [.int z9, .ref b, .int (xs (i + 1)), .ref mo]) (show ((nI i) + 2 : Int32) = nI (i + 2) from (nI_add i 2))) ?_
        refine va_sld hx hb hXs hbl hbA J.2.2 (vp_in_nI (by omega) (by omega)) dL_law_196 ?_
        refine W.eq (g2 := F0 m 197 ls [.int (xs (i + 2)), .int (xs (i + 1)), .ref mo]) (congrArg (fun z9 : Int32 => F0 m 197 ls [.int z9, .int (xs (i + 1)), .ref mo]) (show (xs (nI (i + 2)).toNatClampNeg : Int32) = xs (i + 2) from (congrArg xs (nI_clamp (by omega))))) ?_
        refine lv_aload_n hx hb dL_law_197 rfl (lv_at hl 5 rfl) ?_
        refine lv_iload hx hb dL_law_198 (lv_at hl 1 rfl) ?_
        refine lv_iconst (v := 3) hx hb dL_law_200 (by decide) ?_
        refine lv_iadd hx hb dL_law_201 ?_
        refine W.eq (g2 := F0 m 202 ls [.int (nI (i + 3)), .ref b, .int (xs (i + 2)), .int (xs (i + 1)), .ref mo]) (congrArg (fun z9 : Int32 => F0 m 202 ls [.int z9, .ref b, .int (xs (i + 2)), .int (xs (i + 1)), .ref mo]) (show ((nI i) + 3 : Int32) = nI (i + 3) from (nI_add i 3))) ?_
        refine va_sld hx hb hXs hbl hbA J.2.2 (vp_in_nI (by omega) (by omega)) dL_law_202 ?_
        refine W.eq (g2 := F0 m 203 ls [.int (xs (i + 3)), .int (xs (i + 2)), .int (xs (i + 1)), .ref mo]) (congrArg (fun z9 : Int32 => F0 m 203 ls [.int z9, .int (xs (i + 2)), .int (xs (i + 1)), .ref mo]) (show (xs (nI (i + 3)).toNatClampNeg : Int32) = xs (i + 3) from (congrArg xs (nI_clamp (by omega))))) ?_
        refine lv_aload_n hx hb dL_law_203 rfl (lv_at hl 5 rfl) ?_
        refine lv_iload hx hb dL_law_204 (lv_at hl 1 rfl) ?_
        refine lv_iconst (v := 4) hx hb dL_law_206 (by decide) ?_
        refine lv_iadd hx hb dL_law_207 ?_
        refine W.eq (g2 := F0 m 208 ls [.int (nI (i + 4)), .ref b, .int (xs (i + 3)), .int (xs (i + 2)), .int (xs (i + 1)), .ref mo]) (congrArg (fun z9 : Int32 => F0 m 208 ls [.int z9, .ref b, .int (xs (i + 3)), .int (xs (i + 2)), .int (xs (i + 1)), .ref mo]) (show ((nI i) + 4 : Int32) = nI (i + 4) from (nI_add i 4))) ?_
        refine va_sld hx hb hXs hbl hbA J.2.2 (vp_in_nI (by omega) (by omega)) dL_law_208 ?_
        refine W.eq (g2 := F0 m 209 ls [.int (xs (i + 4)), .int (xs (i + 3)), .int (xs (i + 2)), .int (xs (i + 1)), .ref mo]) (congrArg (fun z9 : Int32 => F0 m 209 ls [.int z9, .int (xs (i + 3)), .int (xs (i + 2)), .int (xs (i + 1)), .ref mo]) (show (xs (nI (i + 4)).toNatClampNeg : Int32) = xs (i + 4) from (congrArg xs (nI_clamp (by omega))))) ?_
        refine lv_if_eq (tgt := 216) hx hb dL_law_209 (by decide) (fun cz209 => by exact (cz157 cz209).elim) (fun cz209 => ?_)
        refine lv_iconst (v := 1) hx hb dL_law_212 (by decide) ?_
        refine lv_goto (tgt := 217) hx hb dL_law_213 (by decide) ?_
        refine lv_aload_n hx hb dL_law_217 rfl (lv_at hl 5 rfl) ?_
        refine lv_iload hx hb dL_law_218 (lv_at hl 1 rfl) ?_
        refine lv_iconst (v := 5) hx hb dL_law_220 (by decide) ?_
        refine lv_iadd hx hb dL_law_221 ?_
        refine W.eq (g2 := F0 m 222 ls [.int (nI (i + 5)), .ref b, .int 1, .int (xs (i + 3)), .int (xs (i + 2)), .int (xs (i + 1)), .ref mo]) (congrArg (fun z9 : Int32 => F0 m 222 ls [.int z9, .ref b, .int 1, .int (xs (i + 3)), .int (xs (i + 2)), .int (xs (i + 1)), .ref mo]) (show ((nI i) + 5 : Int32) = nI (i + 5) from (nI_add i 5))) ?_
        refine va_sld hx hb hXs hbl hbA J.2.2 (vp_in_nI (by omega) (by omega)) dL_law_222 ?_
        refine W.eq (g2 := F0 m 223 ls [.int (xs (i + 5)), .int 1, .int (xs (i + 3)), .int (xs (i + 2)), .int (xs (i + 1)), .ref mo]) (congrArg (fun z9 : Int32 => F0 m 223 ls [.int z9, .int 1, .int (xs (i + 3)), .int (xs (i + 2)), .int (xs (i + 1)), .ref mo]) (show (xs (nI (i + 5)).toNatClampNeg : Int32) = xs (i + 5) from (congrArg xs (nI_clamp (by omega))))) ?_
        refine lv_aload_n hx hb dL_law_223 rfl (lv_at hl 5 rfl) ?_
        refine lv_iload hx hb dL_law_224 (lv_at hl 1 rfl) ?_
        refine lv_bipush (v := 6) hx hb dL_law_226 (by decide) ?_
        refine lv_iadd hx hb dL_law_228 ?_
        refine W.eq (g2 := F0 m 229 ls [.int (nI (i + 6)), .ref b, .int (xs (i + 5)), .int 1, .int (xs (i + 3)), .int (xs (i + 2)), .int (xs (i + 1)), .ref mo]) (congrArg (fun z9 : Int32 => F0 m 229 ls [.int z9, .ref b, .int (xs (i + 5)), .int 1, .int (xs (i + 3)), .int (xs (i + 2)), .int (xs (i + 1)), .ref mo]) (show ((nI i) + 6 : Int32) = nI (i + 6) from (nI_add i 6))) ?_
        refine va_sld hx hb hXs hbl hbA J.2.2 (vp_in_nI (by omega) (by omega)) dL_law_229 ?_
        refine W.eq (g2 := F0 m 230 ls [.int (xs (i + 6)), .int (xs (i + 5)), .int 1, .int (xs (i + 3)), .int (xs (i + 2)), .int (xs (i + 1)), .ref mo]) (congrArg (fun z9 : Int32 => F0 m 230 ls [.int z9, .int (xs (i + 5)), .int 1, .int (xs (i + 3)), .int (xs (i + 2)), .int (xs (i + 1)), .ref mo]) (show (xs (nI (i + 6)).toNatClampNeg : Int32) = xs (i + 6) from (congrArg xs (nI_clamp (by omega))))) ?_
        refine z_ci J (z_rV (As := [.int (xs (i + 1)), .int (xs (i + 2)), .int (xs (i + 3)), .int 1, .int (xs (i + 5)), .int (xs (i + 6))]) (rest := []) (ci := 8) (q0 := 11) X J (cX7_fence_ok l E Fa11 Fa12 (by first | assumption | omega | decide) (zlt Fa12)) (cwV 6 hts gL_law_X7_fence rfl rfl rfl (by decide +kernel) ⟨Nat.le_of_ble_eq_true rfl, Nat.le_of_ble_eq_true rfl⟩) Fa11 rfl rfl rfl hl.1 rfl (Nat.le_of_ble_eq_true rfl) dL_law_230 ⟨by show _ ≤ 601024; omega, by show _ ≤ 7293034; omega⟩) (fun r230 ws_2 H locs hp9 J => ?_)
        obtain ⟨k2, G2_a0, G2_a1, e_r230⟩ := hp9
        have hk := hk.trans (k2.mono (by decide))
        have G2_0 := k2.2 0 _ (by decide) Fa0
        have G2_1 := k2.2 1 _ (by decide) Fa1
        have G2_2 := k2.2 2 _ (by decide) Fa2
        have G2_3 := k2.2 3 _ (by decide) Fa3
        have G2_4 := k2.2 4 _ (by decide) Fa4
        have G2_5 := k2.2 5 _ (by decide) Fa5
        have G2_6 := k2.2 6 _ (by decide) Fa6
        have G2_7 := k2.2 7 _ (by decide) Fa7
        have G2_8 := k2.2 8 _ (by decide) Fa8
        have G2_9 := k2.2 9 _ (by decide) Fa9
        have G2_10 := k2.2 10 _ (by decide) Fa10
        have G2_13 := k2.2 13 _ (by decide) Fa13
        have G2_14 := k2.2 14 _ (by decide) Fa14
        have G2_15 := k2.2 15 _ (by decide) Fa15
        have G2_16 := k2.2 16 _ (by decide) Fa16
        have G2_17 := k2.2 17 _ (by decide) Fa17
        have G2_18 := k2.2 18 _ (by decide) Fa18
        have G2_19 := k2.2 qe _ (by simp only [List.mem_cons, List.not_mem_nil, or_false]; omega) hFa.2.1
        have F11 : ws_2[11]? = some (mo, .inr (8, [.int (kFence (xs (i + 1)) (xs (i + 2)) (xs (i + 3)) 1 (xs (i + 5)) (xs (i + 6)) (nI nf)), .int (nI nf), .ref mf, .int (nI nr), .ref md, .ref mi, .int lim, .int sup, .int off, .int plo, .int hrs, .ref ms9, .ref mk, .ref mt])) := by simpa only [selN e_k] using G2_a0
        refine lv_istore (lv' := [(6, .int r230), (5, .int (kFence (xs (i + 1)) (xs (i + 2)) (xs (i + 3)) 1 (xs (i + 5)) (xs (i + 6)) (nI nf))), (4, .int (nI i)), (3, .ref ou), (2, .ref mo), (1, .ref x), (0, .ref b)]) hx hb dL_law_233 hl (by decide) rfl (fun ls hl => ?_)
        refine lv_aload_n hx hb dL_law_235 rfl (lv_at hl 4 rfl) ?_
        refine z_cr (z_rV (As := []) (rest := []) (ci := 8) (q0 := 11) X J (cX7_thrown_ok l E F11) (cwV 0 hts gL_law_X7_thrown rfl rfl rfl (by decide +kernel) ⟨Nat.le_of_ble_eq_true rfl, Nat.le_of_ble_eq_true rfl⟩) F11 rfl rfl rfl hl.1 rfl (Nat.le_of_ble_eq_true rfl) dL_law_236 ⟨by show _ ≤ 601024; omega, by show _ ≤ 7293034; omega⟩) (fun r236 e_r236 => ?_)
        subst e_r236
        refine lv_iload hx hb dL_law_239 (lv_at hl 1 rfl) ?_
        refine lv_icmp_eq (tgt := 246) hx hb dL_law_241 (by decide) (fun cz241 => ?_) (fun cz241 => by exact (cz241 rfl).elim)
        refine lv_iload hx hb dL_law_246 (lv_at hl 1 rfl) ?_
        refine lv_if_ne (tgt := 263) hx hb dL_law_248 (by decide) (fun cz248 => ?_) (fun cz248 => by exact (e_k cz248).elim)
        refine lv_goto (tgt := 1425) hx hb dL_law_263 (by decide) ?_
        refine W.widen (k := cells + 700) (n := slots + 4500) (by omega) (by omega) ?_
        exact kk _ H locs _ ⟨fl, rl, wh, gr, gra, tr, tra, sc, ha, va, mf, md, mi, ms9, mk, mt, ea, eb, nf, nr, mc1, mc2, lim, sup, off, plo, hrs, (kFence (xs (i + 1)) (xs (i + 2)) (xs (i + 3)) 1 (xs (i + 5)) (xs (i + 6)) (nI nf)), fa, rd, ri, sn, t9, hf, gf, kp, tp, o9, G2_0, G2_1, G2_2, G2_3, G2_4, G2_5, G2_6, G2_7, G2_8, G2_9, G2_10, F11, (by simpa only [selN e_k] using G2_a1), G2_13, G2_14, G2_15, G2_16, G2_17, G2_18, (hF.keep hk (by decide)), (hR.keep hk (by decide)), hSep, hnf, hnr, hok, hor, hRB, hBI⟩ J (lv_sub hl [2, 3, 4, 5, 6] rfl)
      · subst e_v
        have lp1 := hk.1
        have b_1_0 := zlt Fa0
        have b_1_1 := zlt Fa1
        have b_1_2 := zlt Fa2
        have b_1_3 := zlt Fa3
        have b_1_4 := zlt Fa4
        have b_1_5 := zlt Fa5
        have b_1_6 := zlt Fa6
        have b_1_7 := zlt Fa7
        have b_1_8 := zlt Fa8
        have b_1_9 := zlt Fa9
        have b_1_10 := zlt Fa10
        have b_1_11 := zlt Fa11
        have b_1_12 := zlt Fa12
        have b_1_13 := zlt Fa13
        have b_1_14 := zlt Fa14
        have b_1_15 := zlt Fa15
        have b_1_16 := zlt Fa16
        have b_1_17 := zlt Fa17
        have b_1_18 := zlt Fa18
        have b_1_19 := zlt hFa.2.1
        have hk := hk.trans (k1.mono (by intro q9 hq9; simp only [List.mem_cons, List.not_mem_nil, or_false] at hq9 ⊢; omega))
        have G1_0 := k1.2 0 _ (by simp only [List.mem_cons, List.not_mem_nil, or_false]; omega) Fa0
        have G1_2 := k1.2 2 _ (by simp only [List.mem_cons, List.not_mem_nil, or_false]; omega) Fa2
        have G1_3 := k1.2 3 _ (by simp only [List.mem_cons, List.not_mem_nil, or_false]; omega) Fa3
        have G1_4 := k1.2 4 _ (by simp only [List.mem_cons, List.not_mem_nil, or_false]; omega) Fa4
        have G1_5 := k1.2 5 _ (by simp only [List.mem_cons, List.not_mem_nil, or_false]; omega) Fa5
        have G1_6 := k1.2 6 _ (by simp only [List.mem_cons, List.not_mem_nil, or_false]; omega) Fa6
        have G1_7 := k1.2 7 _ (by simp only [List.mem_cons, List.not_mem_nil, or_false]; omega) Fa7
        have G1_8 := k1.2 8 _ (by simp only [List.mem_cons, List.not_mem_nil, or_false]; omega) Fa8
        have G1_9 := k1.2 9 _ (by simp only [List.mem_cons, List.not_mem_nil, or_false]; omega) Fa9
        have G1_10 := k1.2 10 _ (by simp only [List.mem_cons, List.not_mem_nil, or_false]; omega) Fa10
        have G1_11 := k1.2 11 _ (by simp only [List.mem_cons, List.not_mem_nil, or_false]; omega) Fa11
        have G1_12 := k1.2 12 _ (by simp only [List.mem_cons, List.not_mem_nil, or_false]; omega) Fa12
        have G1_13 := k1.2 13 _ (by simp only [List.mem_cons, List.not_mem_nil, or_false]; omega) Fa13
        have G1_14 := k1.2 14 _ (by simp only [List.mem_cons, List.not_mem_nil, or_false]; omega) Fa14
        have G1_15 := k1.2 15 _ (by simp only [List.mem_cons, List.not_mem_nil, or_false]; omega) Fa15
        have G1_16 := k1.2 16 _ (by simp only [List.mem_cons, List.not_mem_nil, or_false]; omega) Fa16
        have G1_17 := k1.2 17 _ (by simp only [List.mem_cons, List.not_mem_nil, or_false]; omega) Fa17
        obtain ⟨pn_1_0, hpn_1_0⟩ : ∃ z : Nat, z = ws.length + 0 := ⟨_, rfl⟩
        rw [← hpn_1_0] at N1_0
        obtain ⟨pn_1_1, hpn_1_1⟩ : ∃ z : Nat, z = ws.length + 1 := ⟨_, rfl⟩
        rw [← hpn_1_1] at N1_1
        refine lv_istore (lv' := [(5, .int 0), (4, .int (nI i)), (3, .ref ou), (2, .ref mo), (1, .ref x), (0, .ref b)]) hx hb dL_law_182 hl (by decide) rfl (fun ls hl => ?_)
        refine lv_aload_n hx hb dL_law_184 rfl (lv_at hl 3 rfl) ?_
        refine lv_aload_n hx hb dL_law_185 rfl (lv_at hl 5 rfl) ?_
        refine lv_iload hx hb dL_law_186 (lv_at hl 1 rfl) ?_
        refine lv_iconst (v := 1) hx hb dL_law_188 (by decide) ?_
        refine lv_iadd hx hb dL_law_189 ?_
        refine W.eq (g2 := F0 m 190 ls [.int (nI (i + 1)), .ref b, .ref mo]) (congrArg (fun z9 : Int32 => F0 m 190 ls [.int z9, .ref b, .ref mo]) (show ((nI i) + 1 : Int32) = nI (i + 1) from (nI_add i 1))) ?_
        refine va_sld hx hb hXs hbl hbA J.2.2 (vp_in_nI (by omega) (by omega)) dL_law_190 ?_
        refine W.eq (g2 := F0 m 191 ls [.int (xs (i + 1)), .ref mo]) (congrArg (fun z9 : Int32 => F0 m 191 ls [.int z9, .ref mo]) (show (xs (nI (i + 1)).toNatClampNeg : Int32) = xs (i + 1) from (congrArg xs (nI_clamp (by omega))))) ?_
        refine lv_aload_n hx hb dL_law_191 rfl (lv_at hl 5 rfl) ?_
        refine lv_iload hx hb dL_law_192 (lv_at hl 1 rfl) ?_
        refine lv_iconst (v := 2) hx hb dL_law_194 (by decide) ?_
        refine lv_iadd hx hb dL_law_195 ?_
        refine W.eq (g2 := F0 m 196 ls [.int (nI (i + 2)), .ref b, .int (xs (i + 1)), .ref mo]) (congrArg (fun z9 : Int32 => F0 m 196 ls [.int z9, .ref b, .int (xs (i + 1)), .ref mo]) (show ((nI i) + 2 : Int32) = nI (i + 2) from (nI_add i 2))) ?_
        refine va_sld hx hb hXs hbl hbA J.2.2 (vp_in_nI (by omega) (by omega)) dL_law_196 ?_
        refine W.eq (g2 := F0 m 197 ls [.int (xs (i + 2)), .int (xs (i + 1)), .ref mo]) (congrArg (fun z9 : Int32 => F0 m 197 ls [.int z9, .int (xs (i + 1)), .ref mo]) (show (xs (nI (i + 2)).toNatClampNeg : Int32) = xs (i + 2) from (congrArg xs (nI_clamp (by omega))))) ?_
        refine lv_aload_n hx hb dL_law_197 rfl (lv_at hl 5 rfl) ?_
        refine lv_iload hx hb dL_law_198 (lv_at hl 1 rfl) ?_
        refine lv_iconst (v := 3) hx hb dL_law_200 (by decide) ?_
        refine lv_iadd hx hb dL_law_201 ?_
        refine W.eq (g2 := F0 m 202 ls [.int (nI (i + 3)), .ref b, .int (xs (i + 2)), .int (xs (i + 1)), .ref mo]) (congrArg (fun z9 : Int32 => F0 m 202 ls [.int z9, .ref b, .int (xs (i + 2)), .int (xs (i + 1)), .ref mo]) (show ((nI i) + 3 : Int32) = nI (i + 3) from (nI_add i 3))) ?_
        refine va_sld hx hb hXs hbl hbA J.2.2 (vp_in_nI (by omega) (by omega)) dL_law_202 ?_
        refine W.eq (g2 := F0 m 203 ls [.int (xs (i + 3)), .int (xs (i + 2)), .int (xs (i + 1)), .ref mo]) (congrArg (fun z9 : Int32 => F0 m 203 ls [.int z9, .int (xs (i + 2)), .int (xs (i + 1)), .ref mo]) (show (xs (nI (i + 3)).toNatClampNeg : Int32) = xs (i + 3) from (congrArg xs (nI_clamp (by omega))))) ?_
        refine lv_aload_n hx hb dL_law_203 rfl (lv_at hl 5 rfl) ?_
        refine lv_iload hx hb dL_law_204 (lv_at hl 1 rfl) ?_
        refine lv_iconst (v := 4) hx hb dL_law_206 (by decide) ?_
        refine lv_iadd hx hb dL_law_207 ?_
        refine W.eq (g2 := F0 m 208 ls [.int (nI (i + 4)), .ref b, .int (xs (i + 3)), .int (xs (i + 2)), .int (xs (i + 1)), .ref mo]) (congrArg (fun z9 : Int32 => F0 m 208 ls [.int z9, .ref b, .int (xs (i + 3)), .int (xs (i + 2)), .int (xs (i + 1)), .ref mo]) (show ((nI i) + 4 : Int32) = nI (i + 4) from (nI_add i 4))) ?_
        refine va_sld hx hb hXs hbl hbA J.2.2 (vp_in_nI (by omega) (by omega)) dL_law_208 ?_
        refine W.eq (g2 := F0 m 209 ls [.int (xs (i + 4)), .int (xs (i + 3)), .int (xs (i + 2)), .int (xs (i + 1)), .ref mo]) (congrArg (fun z9 : Int32 => F0 m 209 ls [.int z9, .int (xs (i + 3)), .int (xs (i + 2)), .int (xs (i + 1)), .ref mo]) (show (xs (nI (i + 4)).toNatClampNeg : Int32) = xs (i + 4) from (congrArg xs (nI_clamp (by omega))))) ?_
        refine lv_if_eq (tgt := 216) hx hb dL_law_209 (by decide) (fun cz209 => by exact (cz157 cz209).elim) (fun cz209 => ?_)
        refine lv_iconst (v := 1) hx hb dL_law_212 (by decide) ?_
        refine lv_goto (tgt := 217) hx hb dL_law_213 (by decide) ?_
        refine lv_aload_n hx hb dL_law_217 rfl (lv_at hl 5 rfl) ?_
        refine lv_iload hx hb dL_law_218 (lv_at hl 1 rfl) ?_
        refine lv_iconst (v := 5) hx hb dL_law_220 (by decide) ?_
        refine lv_iadd hx hb dL_law_221 ?_
        refine W.eq (g2 := F0 m 222 ls [.int (nI (i + 5)), .ref b, .int 1, .int (xs (i + 3)), .int (xs (i + 2)), .int (xs (i + 1)), .ref mo]) (congrArg (fun z9 : Int32 => F0 m 222 ls [.int z9, .ref b, .int 1, .int (xs (i + 3)), .int (xs (i + 2)), .int (xs (i + 1)), .ref mo]) (show ((nI i) + 5 : Int32) = nI (i + 5) from (nI_add i 5))) ?_
        refine va_sld hx hb hXs hbl hbA J.2.2 (vp_in_nI (by omega) (by omega)) dL_law_222 ?_
        refine W.eq (g2 := F0 m 223 ls [.int (xs (i + 5)), .int 1, .int (xs (i + 3)), .int (xs (i + 2)), .int (xs (i + 1)), .ref mo]) (congrArg (fun z9 : Int32 => F0 m 223 ls [.int z9, .int 1, .int (xs (i + 3)), .int (xs (i + 2)), .int (xs (i + 1)), .ref mo]) (show (xs (nI (i + 5)).toNatClampNeg : Int32) = xs (i + 5) from (congrArg xs (nI_clamp (by omega))))) ?_
        refine lv_aload_n hx hb dL_law_223 rfl (lv_at hl 5 rfl) ?_
        refine lv_iload hx hb dL_law_224 (lv_at hl 1 rfl) ?_
        refine lv_bipush (v := 6) hx hb dL_law_226 (by decide) ?_
        refine lv_iadd hx hb dL_law_228 ?_
        refine W.eq (g2 := F0 m 229 ls [.int (nI (i + 6)), .ref b, .int (xs (i + 5)), .int 1, .int (xs (i + 3)), .int (xs (i + 2)), .int (xs (i + 1)), .ref mo]) (congrArg (fun z9 : Int32 => F0 m 229 ls [.int z9, .ref b, .int (xs (i + 5)), .int 1, .int (xs (i + 3)), .int (xs (i + 2)), .int (xs (i + 1)), .ref mo]) (show ((nI i) + 6 : Int32) = nI (i + 6) from (nI_add i 6))) ?_
        refine va_sld hx hb hXs hbl hbA J.2.2 (vp_in_nI (by omega) (by omega)) dL_law_229 ?_
        refine W.eq (g2 := F0 m 230 ls [.int (xs (i + 6)), .int (xs (i + 5)), .int 1, .int (xs (i + 3)), .int (xs (i + 2)), .int (xs (i + 1)), .ref mo]) (congrArg (fun z9 : Int32 => F0 m 230 ls [.int z9, .int (xs (i + 5)), .int 1, .int (xs (i + 3)), .int (xs (i + 2)), .int (xs (i + 1)), .ref mo]) (show (xs (nI (i + 6)).toNatClampNeg : Int32) = xs (i + 6) from (congrArg xs (nI_clamp (by omega))))) ?_
        refine z_ci J (z_rV (As := [.int (xs (i + 1)), .int (xs (i + 2)), .int (xs (i + 3)), .int 1, .int (xs (i + 5)), .int (xs (i + 6))]) (rest := []) (ci := 8) (q0 := 11) X J (cX7_fence_ok l E G1_11 G1_12 (by first | assumption | omega | decide) (zlt G1_12)) (cwV 6 hts gL_law_X7_fence rfl rfl rfl (by decide +kernel) ⟨Nat.le_of_ble_eq_true rfl, Nat.le_of_ble_eq_true rfl⟩) G1_11 rfl rfl rfl hl.1 rfl (Nat.le_of_ble_eq_true rfl) dL_law_230 ⟨by show _ ≤ 601024; omega, by show _ ≤ 7293034; omega⟩) (fun r230 ws_2 H locs hp9 J => ?_)
        obtain ⟨k2, G2_a0, G2_a1, e_r230⟩ := hp9
        have hk := hk.trans (k2.mono (by intro q9 hq9; simp only [List.mem_cons, List.not_mem_nil, or_false] at hq9 ⊢; omega))
        have G2_0 := k2.2 0 _ (by decide) G1_0
        have G2_1 := k2.2 1 _ (by decide) G1_a0
        have G2_2 := k2.2 2 _ (by decide) G1_2
        have G2_3 := k2.2 3 _ (by decide) G1_3
        have G2_4 := k2.2 4 _ (by decide) G1_4
        have G2_5 := k2.2 5 _ (by decide) G1_5
        have G2_6 := k2.2 6 _ (by decide) G1_6
        have G2_7 := k2.2 7 _ (by decide) G1_7
        have G2_8 := k2.2 8 _ (by decide) G1_8
        have G2_9 := k2.2 9 _ (by decide) G1_9
        have G2_10 := k2.2 10 _ (by decide) G1_10
        have G2_13 := k2.2 13 _ (by decide) G1_13
        have G2_14 := k2.2 14 _ (by decide) G1_14
        have G2_15 := k2.2 15 _ (by decide) G1_15
        have G2_16 := k2.2 16 _ (by decide) G1_16
        have G2_17 := k2.2 17 _ (by decide) G1_17
        have G2_18 := k2.2 18 _ (by decide) G1_a2
        have G2_19 := k2.2 qe _ (by simp only [List.mem_cons, List.not_mem_nil, or_false]; omega) G1_a1
        have G2_20 := k2.2 pn_1_0 _ (by simp only [List.mem_cons, List.not_mem_nil, or_false]; omega) N1_0
        have G2_21 := k2.2 pn_1_1 _ (by simp only [List.mem_cons, List.not_mem_nil, or_false]; omega) N1_1
        refine W.eq (g2 := F0 m 233 ls [.int (nI nf)]) (congrArg (fun z9 : Int32 => F0 m 233 ls [.int z9]) (show (r230 : Int32) = nI nf from (by rw [e_r230, e_k, sel0]))) ?_
        have F11 : ws_2[11]? = some (mo, .inr (8, [.int (kFence (xs (i + 1)) (xs (i + 2)) (xs (i + 3)) 1 (xs (i + 5)) (xs (i + 6)) (nI nf)), .int (nI (nf + 1)), .ref mf, .int (nI nr), .ref md, .ref mi, .int lim, .int sup, .int off, .int plo, .int hrs, .ref ms9, .ref mk, .ref mt])) := by simpa only [e_k, sel0] using G2_a0
        refine lv_istore (lv' := [(6, .int (nI nf)), (5, .int 0), (4, .int (nI i)), (3, .ref ou), (2, .ref mo), (1, .ref x), (0, .ref b)]) hx hb dL_law_233 hl (by decide) rfl (fun ls hl => ?_)
        refine lv_aload_n hx hb dL_law_235 rfl (lv_at hl 4 rfl) ?_
        refine z_cr (z_rV (As := []) (rest := []) (ci := 8) (q0 := 11) X J (cX7_thrown_ok l E F11) (cwV 0 hts gL_law_X7_thrown rfl rfl rfl (by decide +kernel) ⟨Nat.le_of_ble_eq_true rfl, Nat.le_of_ble_eq_true rfl⟩) F11 rfl rfl rfl hl.1 rfl (Nat.le_of_ble_eq_true rfl) dL_law_236 ⟨by show _ ≤ 601024; omega, by show _ ≤ 7293034; omega⟩) (fun r236 e_r236 => ?_)
        subst e_r236
        refine lv_iload hx hb dL_law_239 (lv_at hl 1 rfl) ?_
        refine lv_icmp_eq (tgt := 246) hx hb dL_law_241 (by decide) (fun cz241 => ?_) (fun cz241 => by exact (cz241 e_k).elim)
        refine lv_iload hx hb dL_law_246 (lv_at hl 1 rfl) ?_
        refine lv_if_ne (tgt := 263) hx hb dL_law_248 (by decide) (fun cz248 => by exact absurd cz248 (by decide)) (fun cz248 => ?_)
        refine lv_aload_n hx hb dL_law_251 rfl (lv_at hl 3 rfl) ?_
        refine lv_iconst (v := 0) hx hb dL_law_252 (by decide) ?_
        refine z_lald X J 18 G2_18 (vp_in_nI (n := 0) (by decide) (by decide)) dL_law_253 ?_
        refine W.eq (g2 := F0 m 254 ls [.long ((nI nf).toInt64)]) (congrArg (fun z9 : Int64 => F0 m 254 ls [.long z9]) (show ((vp_updL o9 0 (nI nf).toInt64) (0 : Int32).toNatClampNeg : Int64) = (nI nf).toInt64 from rfl)) ?_
        refine lv_iload hx hb dL_law_254 (lv_at hl 0 rfl) ?_
        refine lv_i2l (v := (nI nf).toInt64) hx hb dL_law_256 rfl ?_
        refine W.lcmp hx hb dL_law_257 ?_
        refine W.eq (g2 := F0 m 258 ls [.int 0]) (congrArg (fun z9 : Int32 => F0 m 258 ls [.int z9]) (show (lg_cmp ((nI nf).toInt64) ((nI nf).toInt64) : Int32) = 0 from (lg_cmp_self _))) ?_
        refine lv_if_eq (tgt := 263) hx hb dL_law_258 (by decide) (fun cz258 => ?_) (fun cz258 => by exact absurd cz258 (by decide))
        refine lv_goto (tgt := 1425) hx hb dL_law_263 (by decide) ?_
        obtain ⟨⟨l9, hl9, el9⟩, hok9⟩ := okF_add hok (dn := 1) (Or.inr rfl) e_k
        refine W.widen (k := cells + 700) (n := slots + 4500) (by omega) (by omega) ?_
        exact kk _ H locs _ ⟨fl, rl, wh, gr, gra, tr, tra, sc, ha, va, mf, md, mi, ms9, mk, mt, ea, eb, (nf + 1), nr, (mc1 + 1), mc2, lim, sup, off, plo, hrs, (kFence (xs (i + 1)) (xs (i + 2)) (xs (i + 3)) 1 (xs (i + 5)) (xs (i + 6)) (nI nf)), (fput fa nf (xs (i + 1)) (xs (i + 2)) (xs (i + 3)) 1 (xs (i + 5)) (xs (i + 6))), rd, ri, sn, t9, hf, gf, kp, tp, (vp_updL o9 0 (nI nf).toInt64), G2_0, G2_1, G2_2, G2_3, G2_4, G2_5, G2_6, G2_7, G2_8, G2_9, G2_10, F11, (by simpa only [e_k, sel0, b01z, b01o] using G2_a1), G2_13, G2_14, G2_15, G2_16, G2_17, G2_18, (by rw [el9]; exact FS.add (pf := pn_1_0) (ps := pn_1_1) hFa hl9 hk (by intro q hq; simp only [List.mem_cons, List.not_mem_nil, or_false] at hq; omega) G2_19 (by omega) G2_20 (by omega) (by rw [← el9]; exact G2_21)), (hR.keepE hk hFa.2.1 rfl rfl (hSep.ne hJ9 hE1 hFa.2.1) (by intro q hq; simp only [List.mem_cons, List.not_mem_nil, or_false] at hq; omega)), hSep, (kF_lt hnf e_k), hnr, hok9, hor, hRB, hBI⟩ J (lv_sub hl [2, 3, 4, 5, 6] rfl)
