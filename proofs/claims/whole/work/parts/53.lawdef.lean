/-! ===== the law's world between two turns; calls that answer a long, a double ===== -/
/-- the class's cells 0 to 10, the reference's 11 to 17, the answer's 18; the two lists behind them -/
def LW (E : zG) (ws : va_W) (x mo ou : Nat) : Prop := ∃ (fl rl wh gr gra tr tra sc ha va mf md mi ms9 mk mt ea eb nf nr : Nat) (mc1 mc2 lim sup off plo hrs th : Int32) (fa rd ri sn t9 hf gf kp tp : Nat → Int32) (o9 : Nat → Int64),
  (ws[0]? = some (x, .inr (7, [.ref fl, .ref rl, .ref wh, .ref gr, .ref tr, .ref sc, .int lim, .int sup, .int off, .int plo, .int hrs]))) ∧
  (ws[1]? = some (fl, .inr (0, [.int mc1, .ref ea, .int (nI nf)]))) ∧
  (ws[2]? = some (rl, .inr (0, [.int mc2, .ref eb, .int (nI nr)]))) ∧
  (ws[3]? = some (wh, .inr (5, [.int (0 * 20 + 0), .int (nI 400), .int 0]))) ∧
  (ws[4]? = some (gr, .inr (2, [.ref gra]))) ∧
  (ws[5]? = some (gra, zI4 E 400 sn)) ∧
  (ws[6]? = some (tr, .inr (2, [.ref tra]))) ∧
  (ws[7]? = some (tra, zI4 E 400 t9)) ∧
  (ws[8]? = some (sc, .inr (4, [.ref ha, .ref va]))) ∧
  (ws[9]? = some (ha, zI4 E 400 hf)) ∧
  (ws[10]? = some (va, zI4 E 400 gf)) ∧
  (ws[11]? = some (mo, .inr (8, [.int th, .int (nI nf), .ref mf, .int (nI nr), .ref md, .ref mi, .int lim, .int sup, .int off, .int plo, .int hrs, .ref ms9, .ref mk, .ref mt]))) ∧
  (ws[12]? = some (mf, zI4 E 66 fa)) ∧
  (ws[13]? = some (md, zI4 E 4 rd)) ∧
  (ws[14]? = some (mi, zI4 E 4 ri)) ∧
  (ws[15]? = some (ms9, zI4 E 400 sn)) ∧
  (ws[16]? = some (mk, zI4 E 400 kp)) ∧
  (ws[17]? = some (mt, zI4 E 400 tp)) ∧
  (ws[18]? = some (ou, zL4 E 1 o9)) ∧
  (FS E ws fa ea nf) ∧ (RS E ws rd ri eb nr) ∧ (SEP E ea eb) ∧ (nf ≤ 10) ∧ (nr ≤ 4) ∧ (∀ j, j < nf → okF fa j) ∧ (∀ q, q < nr → okR rd ri q) ∧ (RB 200 sn) ∧ (BI 0 40 sup)
section ZLD
variable {p : Program} {l : Launch} {e : Env} {R : Room} {s : State} {m : MethodId} {args : Array Value} {below : List Frame} {meth : Method} {c : Code} {H : Heap} {locs : List Loc} {cells slots : Nat} {Q : State → Prop}
variable {cc : ByteArray} {pc nL mc ms : Nat} {ls : Array Slot} {rest st0 : List Value} {ws : va_W} {own : String} {Ts : List Cond} {E : zG} {a : Array Value}
theorem z_cl (J : zJ E ws s H locs) {post : Int64 → va_W → Prop} (ru : va_Run p l e R s m args below meth c H locs cells slots mc ms (F0 m pc ls st0) rest (va_Ql post (zI E) (zA E) a) (zA E))
    (kk : ∀ (r : Int64) (ws1 : va_W) (H1 : Heap) (locs1 : List Loc), post r ws1 → zJ E ws1 s H1 locs1 → W p l e R s m args below meth c H1 locs1 (cells + mc) (slots + ms) Q (F0 m (pc + 3) ls (.long r :: rest))) : W p l e R s m args below meth c H locs cells slots Q (F0 m pc ls st0) :=
  va_calll ru J.2.2 (fun _ _ h => h) (fun _ h => h) (fun r u t H1 locs1 ht _ hw hB _ _ hS => kk r u H1 locs1 hw (zJ.of ht hS hB))
theorem z_cd (J : zJ E ws s H locs) {post : UInt64 → va_W → Prop} (ru : va_Run p l e R s m args below meth c H locs cells slots mc ms (F0 m pc ls st0) rest (va_Qd post (zI E) (zA E) a) (zA E))
    (kk : ∀ (r : UInt64) (ws1 : va_W) (H1 : Heap) (locs1 : List Loc), post r ws1 → zJ E ws1 s H1 locs1 → W p l e R s m args below meth c H1 locs1 (cells + mc) (slots + ms) Q (F0 m (pc + 3) ls (.double r :: rest))) : W p l e R s m args below meth c H locs cells slots Q (F0 m pc ls st0) :=
  va_calld ru J.2.2 (fun _ _ h => h) (fun _ h => h) (fun r u t H1 locs1 ht _ hw hB _ _ hS => kk r u H1 locs1 hw (zJ.of ht hS hB))
end ZLD
