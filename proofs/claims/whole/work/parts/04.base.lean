/-! ===== the nest words, carried from the start; readers and writers; calls of them ===== -/
def nwM : List (String × Nat × MethodName × String) := [(RX4, 9, yX2_init, "SliceDrift"), (RX4, 18, yX3_init, "SliceDrift"), (RX4, 25, yX1_init, "SliceDrift"), (RX4, 32, yX0_init, "SliceDrift"), (RX0, 61, yX4_driftBelow, "SliceDrift"), (RX1, 63, yX4_waysToChoose, "SliceDrift"), (RX2, 27, yX4_isWithin, "SliceDrift"), (RX2, 31, yX4_conditionOf, "SliceDrift"), (RX3, 30, yX4_isWithin, "SliceDrift"), (RX3, 54, yX4_columnOf, "SliceDrift"), (RX3, 58, yX4_conditionOf, "SliceDrift"), (RX3, 75, yX4_boundAbove, "SliceDrift"), (RX3, 78, yX4_boundBelow, "SliceDrift")]
def nwF : List (String × Nat × String × String × String × String) := [(RX4, 108, RX3, "hits", "J", "SliceDrift"), (RX4, 164, RX1, "firstRows", "I", "SliceDrift"), (RX4, 167, RX1, "secondRows", "I", "SliceDrift"), (RX4, 195, RX0, "size", "I", "SliceDrift"), (RX4, 196, RX0, "up", "[Z", "SliceDrift"), (RX4, 200, RX0, "off", "[Z", "SliceDrift"), (RX4, 203, RX0, "stepRows", "[I", "SliceDrift"), (RX4, 209, RX0, "begun", "I", "SliceDrift"), (RX4, 42, RX2, "size", "I", "SliceDrift"), (RX4, 63, RX2, "times", "[I", "SliceDrift"), (RX4, 67, RX2, "hits", "J", "SliceDrift"), (RX4, 83, RX3, "size", "I", "SliceDrift"), (RX4, 85, RX3, "firsts", "[I", "SliceDrift"), (RX4, 95, RX3, "seconds", "[I", "SliceDrift"), (RX4, 98, RX3, "members", "[J", "SliceDrift"), (RX3, 34, RX2, "hits", "J", "SliceDrift"), (RX3, 37, RX2, "having", "[J", "SliceDrift")]
def NW (U : State) : Prop := (∀ q ∈ nwM, va_Nw (.methodLinkNest q.1 q.2.1 q.2.2.1 q.2.2.2) U) ∧ ∀ q ∈ nwF, va_Nw (.fieldLinkNest q.1 q.2.1 q.2.2.1 q.2.2.2.1 q.2.2.2.2.1 q.2.2.2.2.2) U
theorem NW.warm {s U : State} (hW : s.WarmedH U.vm) (h : NW s) : NW U := ⟨fun q hq => va_Nw.warmM hW (h.1 q hq), fun q hq => va_Nw.warmF hW (h.2 q hq)⟩
theorem NW.same {u U : State} (e : u.vm = U.vm) (h : NW u) : NW U := ⟨fun q hq => va_Nw.same rfl e (h.1 q hq), fun q hq => va_Nw.same rfl e (h.2 q hq)⟩
theorem NW.m {U : State} (h : NW U) (k : Nat) {a : String} {i : Nat} {y : MethodName} {o : String} (hk : nwM[k]? = some (a, i, y, o)) : va_Nw (.methodLinkNest a i y o) U := h.1 _ (List.mem_of_getElem? hk)
theorem NW.f {U : State} (h : NW U) (k : Nat) {a : String} {i : Nat} {b n d o : String} (hk : nwF[k]? = some (a, i, b, n, d, o)) {args : Array Value} : (Cond.fieldLinkNest a i b n d o).before args U = true := va_Nw.use rfl (h.2 _ (List.mem_of_getElem? hk))
/-- what a reader starts from -/
def Rd (dd : va_G) (tys : List (ClassId × FieldType)) (ws : va_W) (U : State) : Prop := NW U ∧ va_P dd vwCl ws U.heap ∧ va_K dd vwCl tys U
/-- what a writer starts from -/
def Wr (dd : va_G) (tys : List (ClassId × FieldType)) (ws : va_W) (sz : Nat) (U : State) : Prop := U.heap.size = sz ∧ NW U ∧ va_P dd vwCl ws U.heap ∧ va_K dd vwCl tys U ∧ va_D (fun _ => True) ws
/-- the cells behind a writer -/
def WQ {S : Type} (dd : va_G) (ws : va_W) (sz : Nat) (wf : S → va_W) (u : S) (U : State) : Prop := va_P dd vwCl (wf u) U.heap ∧ va_D (va_A ws sz) (wf u)
theorem Rd.blind {As : List Value} {dd : va_G} {tys : List (ClassId × FieldType)} {ws : va_W} : FrameBlind (va_Pc As (Rd dd tys ws)) := by
  intro a U g mk q
  obtain ⟨q0, qN, qP, qK⟩ := q
  exact ⟨q0, NW.same (u := U) rfl qN, qP, va_K.moved (u := U) (U := U.calling g mk a) (Vm.Alike.refl U.vm) qK⟩
theorem Wr.blind {As : List Value} {dd : va_G} {tys : List (ClassId × FieldType)} {ws : va_W} {sz : Nat} : FrameBlind (va_Pc As (Wr dd tys ws sz)) := by
  intro a U g mk q
  obtain ⟨q0, q1, qN, qP, qK, qD⟩ := q
  exact ⟨q0, q1, NW.same (u := U) rfl qN, qP, va_K.moved (u := U) (U := U.calling g mk a) (Vm.Alike.refl U.vm) qK, qD⟩
/-- a reader's proof begins -/
theorem mkR {l : Launch} {y : MethodName} {wsy ws' : List Cond} {rm : Room} {As : List Value} {dd : va_G} {tys : List (ClassId × FieldType)} {ws : va_W} {Qc : Array Value → State → Outcome → State → Prop} {cc : ByteArray} {maxL : Nat} {ret : Option FieldType} {lv0 : List (Nat × Value)}
    (hy : plainName y.cls = true) (hw : wsy = .code y cc maxL ret :: ws') (hlv : (lg_sl As).length ≤ maxL) (hl0 : lv_args 0 As = lv0)
    (body : ∀ (p : Program) (e : Env) (s : State) (m : MethodId) (below : List Frame) (meth : Method) (c : Code) (ls : Array Slot), p.tables.exec = Jvm.exec → c.code = cc → meth.sig.returnType = ret → c.maxLocals = maxL → s.vm.findClass y.cls = some m.cls → meth.locks = false → (∀ w ∈ wsy, w.before As.toArray s = true) → NW s → va_P dd vwCl ws s.heap → va_K dd vwCl tys s → lv_has ls maxL lv0 →
      W p l e rm s m As.toArray below meth c s.heap [] 0 0 (MQ below Qc As.toArray s 0 0 (fun _ => False)) (F0 m 0 ls [])) : Met l y wsy rm (va_Pc As (Rd dd tys ws)) Qc 0 0 (fun _ => False) := by
  refine Met.ofW (cc := cc) (maxL := maxL) (ret := ret) hy hw ?_
  intro p e s m args below meth c s₁ B hml hv
  obtain ⟨rfl, hN, hP, hK⟩ := hv
  have hl := lv_entry As (n := maxL) hlv
  rw [lg_entry_eq]
  rw [hl0] at hl
  exact body p e s m below meth c _ B.exec B.bytes B.returns hml (findClass_of_methodNamed B.named) B.notSynchronized (atoms_spec (ws := wsy) B.pre) hN hP hK hl
/-- a writer's proof begins -/
theorem mkW {l : Launch} {y : MethodName} {wsy ws' : List Cond} {rm : Room} {As : List Value} {dd : va_G} {tys : List (ClassId × FieldType)} {ws : va_W} {sz : Nat} {Qc : (Nat → Prop) → Array Value → State → Outcome → State → Prop} {cc : ByteArray} {maxL mc ms : Nat} {ret : Option FieldType} {lv0 : List (Nat × Value)}
    (hy : plainName y.cls = true) (hw : wsy = .code y cc maxL ret :: ws') (hlv : (lg_sl As).length ≤ maxL) (hl0 : lv_args 0 As = lv0)
    (body : ∀ (p : Program) (e : Env) (s : State) (m : MethodId) (below : List Frame) (meth : Method) (c : Code) (ls : Array Slot) (H : Heap) (A : Nat → Prop), p.tables.exec = Jvm.exec → c.code = cc → meth.sig.returnType = ret → c.maxLocals = maxL → s.vm.findClass y.cls = some m.cls → meth.locks = false → (∀ w ∈ wsy, w.before As.toArray s = true) → (meth.name = y.name) → NW s → va_P dd vwCl ws H → va_K dd vwCl tys s → va_D A ws → va_S A s.heap H [] → (∀ q : Nat, s.heap.size ≤ q → A q) → (A = va_A ws sz) → lv_has ls maxL lv0 →
      W p l e rm s m As.toArray below meth c H [] 0 0 (MQ below (Qc A) As.toArray s mc ms A) (F0 m 0 ls [])) : Met l y wsy rm (va_Pc As (Wr dd tys ws sz)) (Qc (va_A ws sz)) mc ms (va_A ws sz) := by
  refine Met.ofW (cc := cc) (maxL := maxL) (ret := ret) hy hw ?_
  intro p e s m args below meth c s₁ B hml hv
  obtain ⟨rfl, hsz, hN, hP, hK, hD0⟩ := hv
  subst hsz
  have hl := lv_entry As (n := maxL) hlv
  rw [lg_entry_eq]
  rw [hl0] at hl
  exact body p e s m below meth c _ s.heap _ B.exec B.bytes B.returns hml (findClass_of_methodNamed B.named) B.notSynchronized (atoms_spec (ws := wsy) B.pre) (name_of_methodNamed B.named B.method).1 hN hP hK hD0.self va_S.rf (fun q h => Or.inr h) rfl hl
section CLR
variable {p : Program} {l : Launch} {e : Env} {R : Room} {s : State} {m : MethodId} {args : Array Value} {below : List Frame} {meth : Method} {c : Code} {H : Heap} {locs : List Loc} {cells slots : Nat} {Q : State → Prop}
variable {pc : Nat} {ls : Array Slot} {rest st0 : List Value}
theorem tpi {x y : Int32} (h : x = y) (k : W p l e R s m args below meth c H locs cells slots Q (F0 m pc ls (.int y :: rest))) : W p l e R s m args below meth c H locs cells slots Q (F0 m pc ls (.int x :: rest)) := h ▸ k
theorem tpl {x y : Int64} (h : x = y) (k : W p l e R s m args below meth c H locs cells slots Q (F0 m pc ls (.long y :: rest))) : W p l e R s m args below meth c H locs cells slots Q (F0 m pc ls (.long x :: rest)) := h ▸ k
theorem tpi2 {x y : Int32} {v : Value} (h : x = y) (k : W p l e R s m args below meth c H locs cells slots Q (F0 m pc ls (v :: .int y :: rest))) : W p l e R s m args below meth c H locs cells slots Q (F0 m pc ls (v :: .int x :: rest)) := h ▸ k
variable {y : MethodName} {bytes cc : ByteArray} {maxL nL n index : Nat} {ret : Option FieldType} {wsy wsy' Ts : List Cond} {rm : Room} {own host C : String} {b : Addr} {As : List Value} {dd : va_G} {tys : List (ClassId × FieldType)} {wc : va_W}
/-- a static reader, by a plain link -/
theorem clSi {post : Int32 → Prop} (S : CallFix p m c cc nL s args Ts own) (hM : Met l y wsy rm (va_Pc As (Rd dd tys wc)) (vp_Si post) 0 0 (fun _ => False)) (hG : GoodIn Ts (va_wsS own index y wsy)) (hw : wsy = Cond.code y bytes maxL ret :: wsy') (hrm : rm.cells = 0 ∧ rm.slots = 0)
    (hd : y.cls ≠ "java/lang/invoke/MethodHandle" ∧ y.cls ≠ "java/lang/invoke/VarHandle" ∧ (parseMethodDescriptor y.desc).map (fun d => d.parameters.length) = some n) (hR : rm.frames + 1 ≤ R.frames ∧ 8 + (maxL + 11) + rm.locals ≤ R.locals) (hN : NW s) (hK : va_K dd vwCl tys s) (hP : va_P dd vwCl wc H)
    (hn : As.length = n) (hsz : ls.size = nL) (hst : st0 = As.reverse ++ rest) (hW : (rest.map fun v => v.category).sum ≤ 8) (hdg : decode cc pc = .ok (.invokestatic index, 3)) (hf : cells ≤ R.cells ∧ slots ≤ R.slots)
    (kk : ∀ r : Int32, post r → W p l e R s m args below meth c H locs cells slots Q (F0 m (pc + 3) ls (.int r :: rest))) : W p l e R s m args below meth c H locs cells slots Q (F0 m pc ls st0) :=
  vp_callSi (W.runS (As := As) (rest := rest) S hM (va_cwS n S.2.2.2.2 hG hw hrm.1 hrm.2 hd hR) ⟨Rd.blind, fun U hU hW => ⟨rfl, hN.warm hW, by rw [hU]; exact hP, va_K.moved hW.alike hK⟩⟩ rfl hn hsz hst (lv_room hW) hdg hf) kk
theorem clSl {post : Int64 → Prop} (S : CallFix p m c cc nL s args Ts own) (hM : Met l y wsy rm (va_Pc As (Rd dd tys wc)) (vp_Sl post) 0 0 (fun _ => False)) (hG : GoodIn Ts (va_wsS own index y wsy)) (hw : wsy = Cond.code y bytes maxL ret :: wsy') (hrm : rm.cells = 0 ∧ rm.slots = 0)
    (hd : y.cls ≠ "java/lang/invoke/MethodHandle" ∧ y.cls ≠ "java/lang/invoke/VarHandle" ∧ (parseMethodDescriptor y.desc).map (fun d => d.parameters.length) = some n) (hR : rm.frames + 1 ≤ R.frames ∧ 8 + (maxL + 11) + rm.locals ≤ R.locals) (hN : NW s) (hK : va_K dd vwCl tys s) (hP : va_P dd vwCl wc H)
    (hn : As.length = n) (hsz : ls.size = nL) (hst : st0 = As.reverse ++ rest) (hW : (rest.map fun v => v.category).sum ≤ 8) (hdg : decode cc pc = .ok (.invokestatic index, 3)) (hf : cells ≤ R.cells ∧ slots ≤ R.slots)
    (kk : ∀ r : Int64, post r → W p l e R s m args below meth c H locs cells slots Q (F0 m (pc + 3) ls (.long r :: rest))) : W p l e R s m args below meth c H locs cells slots Q (F0 m pc ls st0) :=
  vp_callSl (W.runS (As := As) (rest := rest) S hM (va_cwS n S.2.2.2.2 hG hw hrm.1 hrm.2 hd hR) ⟨Rd.blind, fun U hU hW => ⟨rfl, hN.warm hW, by rw [hU]; exact hP, va_K.moved hW.alike hK⟩⟩ rfl hn hsz hst (lv_room hW) hdg hf) kk
/-- a static reader, a nest mate's private one -/
theorem clNi {post : Int32 → Prop} (S : CallFix p m c cc nL s args Ts own) (hM : Met l y wsy rm (va_Pc As (Rd dd tys wc)) (vp_Si post) 0 0 (fun _ => False)) (hG : GoodIn Ts wsy) (hl : va_Nw (.methodLinkNest own index y host) s) (hini : (Cond.initialized y.cls).before args s = true) (hstat : (Cond.static y).before args s = true) (hw : wsy = Cond.code y bytes maxL ret :: wsy') (hrm : rm.cells = 0 ∧ rm.slots = 0)
    (hd : y.cls ≠ "java/lang/invoke/MethodHandle" ∧ y.cls ≠ "java/lang/invoke/VarHandle" ∧ (parseMethodDescriptor y.desc).map (fun d => d.parameters.length) = some n) (hR : rm.frames + 1 ≤ R.frames ∧ 8 + (maxL + 11) + rm.locals ≤ R.locals) (hN : NW s) (hK : va_K dd vwCl tys s) (hP : va_P dd vwCl wc H)
    (hn : As.length = n) (hsz : ls.size = nL) (hst : st0 = As.reverse ++ rest) (hW : (rest.map fun v => v.category).sum ≤ 8) (hdg : decode cc pc = .ok (.invokestatic index, 3)) (hf : cells ≤ R.cells ∧ slots ≤ R.slots)
    (kk : ∀ r : Int32, post r → W p l e R s m args below meth c H locs cells slots Q (F0 m (pc + 3) ls (.int r :: rest))) : W p l e R s m args below meth c H locs cells slots Q (F0 m pc ls st0) :=
  vp_callSi (va_Run.run (va_runSN (As := As) (rest := rest) S hM ⟨va_cnB n S.2.2.2.2 hG hw hrm.1 hrm.2 hl hini hd hR, hstat, trivial⟩ ⟨Rd.blind, fun U hU hW => ⟨rfl, hN.warm hW, by rw [hU]; exact hP, va_K.moved hW.alike hK⟩⟩ rfl hn hsz hst (lv_room hW) hdg hf)) kk
/-- a reader of an object -/
theorem clVi {post : Int32 → Prop} {ci q0 : Nat} {vc : vw_C} {fs : List Value} (S : CallFix p m c cc nL s args Ts own) (hM : Met l y wsy rm (va_Pc (.ref b :: As) (Rd dd tys wc)) (vp_Si post) 0 0 (fun _ => False)) (hG : GoodIn Ts (wsV own index vc.1 y wsy)) (hc : vwCl[ci]? = some vc) (he : wc[q0]? = some (b, .inr (ci, fs))) (hw : wsy = Cond.code y bytes maxL ret :: wsy') (hrm : rm.cells = 0 ∧ rm.slots = 0)
    (hd : y.cls = vc.1 ∧ y.cls ≠ "java/lang/invoke/MethodHandle" ∧ y.cls ≠ "java/lang/invoke/VarHandle" ∧ (parseMethodDescriptor y.desc).map (fun d => d.parameters.length) = some n) (hR : rm.frames + 1 ≤ R.frames ∧ 8 + (maxL + 11) + rm.locals ≤ R.locals) (hN : NW s) (hK : va_K dd vwCl tys s) (hP : va_P dd vwCl wc H)
    (hn : As.length = n) (hsz : ls.size = nL) (hst : st0 = As.reverse ++ .ref b :: rest) (hW : (rest.map fun v => v.category).sum ≤ 8) (hdg : decode cc pc = .ok (.invokevirtual index, 3)) (hf : cells ≤ R.cells ∧ slots ≤ R.slots)
    (kk : ∀ r : Int32, post r → W p l e R s m args below meth c H locs cells slots Q (F0 m (pc + 3) ls (.int r :: rest))) : W p l e R s m args below meth c H locs cells slots Q (F0 m pc ls st0) :=
  vp_callSi (W.runV (As := As) (rest := rest) (b := b) S hM (cwV n S.2.2.2.2 hG hw hrm.1 hrm.2 hd hR) ⟨Rd.blind, va_recv hK hP hc he, fun U hU hW => ⟨rfl, hN.warm hW, by rw [hU]; exact hP, va_K.moved hW.alike hK⟩⟩ rfl hn hsz hst (lv_room hW) hdg hf) kk
theorem clVl {post : Int64 → Prop} {ci q0 : Nat} {vc : vw_C} {fs : List Value} (S : CallFix p m c cc nL s args Ts own) (hM : Met l y wsy rm (va_Pc (.ref b :: As) (Rd dd tys wc)) (vp_Sl post) 0 0 (fun _ => False)) (hG : GoodIn Ts (wsV own index vc.1 y wsy)) (hc : vwCl[ci]? = some vc) (he : wc[q0]? = some (b, .inr (ci, fs))) (hw : wsy = Cond.code y bytes maxL ret :: wsy') (hrm : rm.cells = 0 ∧ rm.slots = 0)
    (hd : y.cls = vc.1 ∧ y.cls ≠ "java/lang/invoke/MethodHandle" ∧ y.cls ≠ "java/lang/invoke/VarHandle" ∧ (parseMethodDescriptor y.desc).map (fun d => d.parameters.length) = some n) (hR : rm.frames + 1 ≤ R.frames ∧ 8 + (maxL + 11) + rm.locals ≤ R.locals) (hN : NW s) (hK : va_K dd vwCl tys s) (hP : va_P dd vwCl wc H)
    (hn : As.length = n) (hsz : ls.size = nL) (hst : st0 = As.reverse ++ .ref b :: rest) (hW : (rest.map fun v => v.category).sum ≤ 8) (hdg : decode cc pc = .ok (.invokevirtual index, 3)) (hf : cells ≤ R.cells ∧ slots ≤ R.slots)
    (kk : ∀ r : Int64, post r → W p l e R s m args below meth c H locs cells slots Q (F0 m (pc + 3) ls (.long r :: rest))) : W p l e R s m args below meth c H locs cells slots Q (F0 m pc ls st0) :=
  vp_callSl (W.runV (As := As) (rest := rest) (b := b) S hM (cwV n S.2.2.2.2 hG hw hrm.1 hrm.2 hd hR) ⟨Rd.blind, va_recv hK hP hc he, fun U hU hW => ⟨rfl, hN.warm hW, by rw [hU]; exact hP, va_K.moved hW.alike hK⟩⟩ rfl hn hsz hst (lv_room hW) hdg hf) kk
/-- readers end -/
theorem edI {post : Int32 → Prop} {v : Int32} (hexec : p.tables.exec = Jvm.exec) (hb : c.code = cc) (hr : meth.sig.returnType = some .int) (hlocks : meth.locks = false) (hdg : decode cc pc = .ok (.ireturn, 1)) (hq : post v) : W p l e R s m args below meth c s.heap [] 0 0 (MQ below (vp_Si post) args s 0 0 (fun _ => False)) (F0 m pc ls [.int v]) :=
  W.iret hexec hb hr (fun _ ht _ => ⟨v, rfl, hq, ht⟩) (fun _ h => nomatch h) hdg hlocks
theorem edZ {post : Int32 → Prop} {v : Int32} (hexec : p.tables.exec = Jvm.exec) (hb : c.code = cc) (hr : meth.sig.returnType = some .boolean) (hlocks : meth.locks = false) (hdg : decode cc pc = .ok (.ireturn, 1)) (hn : narrow .boolean (.int v) = .int v) (hq : post v) : W p l e R s m args below meth c s.heap [] 0 0 (MQ below (vp_Si post) args s 0 0 (fun _ => False)) (F0 m pc ls [.int v]) :=
  W.zret hexec hb hr hn (fun _ ht _ => ⟨v, rfl, hq, ht⟩) (fun _ h => nomatch h) hdg hlocks
theorem edL {post : Int64 → Prop} {v : Int64} (hexec : p.tables.exec = Jvm.exec) (hb : c.code = cc) (hr : meth.sig.returnType = some .long) (hlocks : meth.locks = false) (hdg : decode cc pc = .ok (.lreturn, 1)) (hq : post v) : W p l e R s m args below meth c s.heap [] 0 0 (MQ below (vp_Sl post) args s 0 0 (fun _ => False)) (F0 m pc ls [.long v]) :=
  W.lret hexec hb hr (fun _ ht _ => ⟨v, rfl, hq, ht⟩) (fun _ h => nomatch h) hdg hlocks
end CLR
section CLW
variable {p : Program} {l : Launch} {e : Env} {R : Room} {s : State} {m : MethodId} {args : Array Value} {below : List Frame} {meth : Method} {c : Code} {H : Heap} {locs : List Loc} {cells slots : Nat} {Q : State → Prop}
variable {pc : Nat} {ls : Array Slot} {rest st0 : List Value}
variable {y : MethodName} {bytes cc : ByteArray} {maxL nL n index mc ms : Nat} {ret : Option FieldType} {wsy wsy' Ts : List Cond} {rm : Room} {own host : String} {b : Addr} {As : List Value} {dd : va_G} {tys : List (ClassId × FieldType)} {ws wc wr : va_W} {A0 : Nat → Prop} {H0 : Heap}
/-- a writer of an object -/
theorem clVwi {S : Type} {post : Int32 → S → Prop} {wf : S → va_W} {ci q0 : Nat} {vc : vw_C} {fs : List Value} (S0 : CallFix p m c cc nL s args Ts own) (hM : ∀ sz, Met l y wsy rm (va_Pc (.ref b :: As) (Wr dd tys wc sz)) (va_Qi post (WQ dd wc sz wf) (va_A wc sz)) mc ms (va_A wc sz)) (hG : GoodIn Ts (wsV own index vc.1 y wsy)) (hc : vwCl[ci]? = some vc) (he : wc[q0]? = some (b, .inr (ci, fs))) (hw : wsy = Cond.code y bytes maxL ret :: wsy') (hrm : rm.cells = mc ∧ rm.slots = ms)
    (hd : y.cls = vc.1 ∧ y.cls ≠ "java/lang/invoke/MethodHandle" ∧ y.cls ≠ "java/lang/invoke/VarHandle" ∧ (parseMethodDescriptor y.desc).map (fun d => d.parameters.length) = some n) (hR : rm.frames + 1 ≤ R.frames ∧ 8 + (maxL + 11) + rm.locals ≤ R.locals) (hN : NW s) (hK : va_K dd vwCl tys s) (hP : va_P dd vwCl ws H) (hD : va_D A0 ws) (hS : va_S A0 H0 H locs) (hA : ∀ q, H0.size ≤ q → A0 q)
    (isC isR : List Nat) (hC : isC.map (fun i => ws[i]?) = wc.map some) (hC2 : isC.filterMap (fun i => ws[i]?) = wc) (hnC : va_nd isC = true) (hRr : isR.map (fun i => ws[i]?) = wr.map some) (hnd : va_nd isR = true) (hdis : ∀ i ∈ isR, i ∉ isC)
    (hn : As.length = n) (hsz : ls.size = nL) (hst : st0 = As.reverse ++ .ref b :: rest) (hW : (rest.map fun v => v.category).sum ≤ 8) (hdg : decode cc pc = .ok (.invokevirtual index, 3)) (hf : cells + mc ≤ R.cells ∧ slots + ms ≤ R.slots)
    (kk : ∀ (r : Int32) (u : S) (H1 : Heap) (locs1 : List Loc), post r u → va_P dd vwCl (wr ++ wf u) H1 → va_D A0 (wr ++ wf u) → va_S A0 H0 H1 locs1 → W p l e R s m args below meth c H1 locs1 (cells + mc) (slots + ms) Q (F0 m (pc + 3) ls (.int r :: rest))) : W p l e R s m args below meth c H locs cells slots Q (F0 m pc ls st0) := by
  have hPc := hP.sub isC hC2
  have hDc := hD.sub isC hnC hC
  have hFc := va_free hD hS hA isC hC
  refine va_calli (va_runV (As := As) (rest := rest) (b := b) S0 (hM H.size) (cwV n S0.2.2.2.2 hG hw hrm.1 hrm.2 hd hR) ⟨Wr.blind, va_recv hK hPc hc he, fun U hU hW => ⟨rfl, by rw [hU], hN.warm hW, by rw [hU]; exact hPc, va_K.moved hW.alike hK, hDc.weaken (fun _ _ _ _ => trivial)⟩⟩ rfl hn hsz hst (lv_room hW) hdg hf) hS (fun q _ h => hFc q h) hFc (fun r u t H1 locs1 ht hvm hw hB hz1 hk1 hS1 => ?_)
  obtain ⟨hP1, hD1⟩ := hB
  rw [ht] at hP1
  obtain ⟨hP2, hD2⟩ := va_join (wr := wr) (w1 := wf u) hP hD isC isR hC hRr hnd hdis hk1 hFc hP1 hD1
  exact kk r u H1 locs1 hw hP2 hD2 hS1
theorem clVwl {S : Type} {post : Int64 → S → Prop} {wf : S → va_W} {ci q0 : Nat} {vc : vw_C} {fs : List Value} (S0 : CallFix p m c cc nL s args Ts own) (hM : ∀ sz, Met l y wsy rm (va_Pc (.ref b :: As) (Wr dd tys wc sz)) (va_Ql post (WQ dd wc sz wf) (va_A wc sz)) mc ms (va_A wc sz)) (hG : GoodIn Ts (wsV own index vc.1 y wsy)) (hc : vwCl[ci]? = some vc) (he : wc[q0]? = some (b, .inr (ci, fs))) (hw : wsy = Cond.code y bytes maxL ret :: wsy') (hrm : rm.cells = mc ∧ rm.slots = ms)
    (hd : y.cls = vc.1 ∧ y.cls ≠ "java/lang/invoke/MethodHandle" ∧ y.cls ≠ "java/lang/invoke/VarHandle" ∧ (parseMethodDescriptor y.desc).map (fun d => d.parameters.length) = some n) (hR : rm.frames + 1 ≤ R.frames ∧ 8 + (maxL + 11) + rm.locals ≤ R.locals) (hN : NW s) (hK : va_K dd vwCl tys s) (hP : va_P dd vwCl ws H) (hD : va_D A0 ws) (hS : va_S A0 H0 H locs) (hA : ∀ q, H0.size ≤ q → A0 q)
    (isC isR : List Nat) (hC : isC.map (fun i => ws[i]?) = wc.map some) (hC2 : isC.filterMap (fun i => ws[i]?) = wc) (hnC : va_nd isC = true) (hRr : isR.map (fun i => ws[i]?) = wr.map some) (hnd : va_nd isR = true) (hdis : ∀ i ∈ isR, i ∉ isC)
    (hn : As.length = n) (hsz : ls.size = nL) (hst : st0 = As.reverse ++ .ref b :: rest) (hW : (rest.map fun v => v.category).sum ≤ 8) (hdg : decode cc pc = .ok (.invokevirtual index, 3)) (hf : cells + mc ≤ R.cells ∧ slots + ms ≤ R.slots)
    (kk : ∀ (r : Int64) (u : S) (H1 : Heap) (locs1 : List Loc), post r u → va_P dd vwCl (wr ++ wf u) H1 → va_D A0 (wr ++ wf u) → va_S A0 H0 H1 locs1 → W p l e R s m args below meth c H1 locs1 (cells + mc) (slots + ms) Q (F0 m (pc + 3) ls (.long r :: rest))) : W p l e R s m args below meth c H locs cells slots Q (F0 m pc ls st0) := by
  have hPc := hP.sub isC hC2
  have hDc := hD.sub isC hnC hC
  have hFc := va_free hD hS hA isC hC
  refine va_calll (va_runV (As := As) (rest := rest) (b := b) S0 (hM H.size) (cwV n S0.2.2.2.2 hG hw hrm.1 hrm.2 hd hR) ⟨Wr.blind, va_recv hK hPc hc he, fun U hU hW => ⟨rfl, by rw [hU], hN.warm hW, by rw [hU]; exact hPc, va_K.moved hW.alike hK, hDc.weaken (fun _ _ _ _ => trivial)⟩⟩ rfl hn hsz hst (lv_room hW) hdg hf) hS (fun q _ h => hFc q h) hFc (fun r u t H1 locs1 ht hvm hw hB hz1 hk1 hS1 => ?_)
  obtain ⟨hP1, hD1⟩ := hB
  rw [ht] at hP1
  obtain ⟨hP2, hD2⟩ := va_join (wr := wr) (w1 := wf u) hP hD isC isR hC hRr hnd hdis hk1 hFc hP1 hD1
  exact kk r u H1 locs1 hw hP2 hD2 hS1
theorem clVwv {S : Type} {post : S → Prop} {wf : S → va_W} {ci q0 : Nat} {vc : vw_C} {fs : List Value} (S0 : CallFix p m c cc nL s args Ts own) (hM : ∀ sz, Met l y wsy rm (va_Pc (.ref b :: As) (Wr dd tys wc sz)) (va_Qv post (WQ dd wc sz wf) (va_A wc sz)) mc ms (va_A wc sz)) (hG : GoodIn Ts (wsV own index vc.1 y wsy)) (hc : vwCl[ci]? = some vc) (he : wc[q0]? = some (b, .inr (ci, fs))) (hw : wsy = Cond.code y bytes maxL ret :: wsy') (hrm : rm.cells = mc ∧ rm.slots = ms)
    (hd : y.cls = vc.1 ∧ y.cls ≠ "java/lang/invoke/MethodHandle" ∧ y.cls ≠ "java/lang/invoke/VarHandle" ∧ (parseMethodDescriptor y.desc).map (fun d => d.parameters.length) = some n) (hR : rm.frames + 1 ≤ R.frames ∧ 8 + (maxL + 11) + rm.locals ≤ R.locals) (hN : NW s) (hK : va_K dd vwCl tys s) (hP : va_P dd vwCl ws H) (hD : va_D A0 ws) (hS : va_S A0 H0 H locs) (hA : ∀ q, H0.size ≤ q → A0 q)
    (isC isR : List Nat) (hC : isC.map (fun i => ws[i]?) = wc.map some) (hC2 : isC.filterMap (fun i => ws[i]?) = wc) (hnC : va_nd isC = true) (hRr : isR.map (fun i => ws[i]?) = wr.map some) (hnd : va_nd isR = true) (hdis : ∀ i ∈ isR, i ∉ isC)
    (hn : As.length = n) (hsz : ls.size = nL) (hst : st0 = As.reverse ++ .ref b :: rest) (hW : (rest.map fun v => v.category).sum ≤ 8) (hdg : decode cc pc = .ok (.invokevirtual index, 3)) (hf : cells + mc ≤ R.cells ∧ slots + ms ≤ R.slots)
    (kk : ∀ (u : S) (H1 : Heap) (locs1 : List Loc), post u → va_P dd vwCl (wr ++ wf u) H1 → va_D A0 (wr ++ wf u) → va_S A0 H0 H1 locs1 → W p l e R s m args below meth c H1 locs1 (cells + mc) (slots + ms) Q (F0 m (pc + 3) ls rest)) : W p l e R s m args below meth c H locs cells slots Q (F0 m pc ls st0) := by
  have hPc := hP.sub isC hC2
  have hDc := hD.sub isC hnC hC
  have hFc := va_free hD hS hA isC hC
  refine va_callv (va_runV (As := As) (rest := rest) (b := b) S0 (hM H.size) (cwV n S0.2.2.2.2 hG hw hrm.1 hrm.2 hd hR) ⟨Wr.blind, va_recv hK hPc hc he, fun U hU hW => ⟨rfl, by rw [hU], hN.warm hW, by rw [hU]; exact hPc, va_K.moved hW.alike hK, hDc.weaken (fun _ _ _ _ => trivial)⟩⟩ rfl hn hsz hst (lv_room hW) hdg hf) hS (fun q _ h => hFc q h) hFc (fun u t H1 locs1 ht hvm hw hB hz1 hk1 hS1 => ?_)
  obtain ⟨hP1, hD1⟩ := hB
  rw [ht] at hP1
  obtain ⟨hP2, hD2⟩ := va_join (wr := wr) (w1 := wf u) hP hD isC isR hC hRr hnd hdis hk1 hFc hP1 hD1
  exact kk u H1 locs1 hw hP2 hD2 hS1
/-- writers end -/
theorem ewI {S : Type} {A : Nat → Prop} {post : Int32 → S → Prop} {wf : S → va_W} {ws0 : va_W} {sz : Nat} {v : Int32} (u : S) (hexec : p.tables.exec = Jvm.exec) (hb : c.code = cc) (hr : meth.sig.returnType = some .int) (hlocks : meth.locks = false) (hAe : A = va_A ws0 sz) (hS : va_S A s.heap H locs) (hdg : decode cc pc = .ok (.ireturn, 1)) (hq : post v u) (hP : va_P dd vwCl (wf u) H) (hD : va_D A (wf u)) : W p l e R s m args below meth c H locs mc ms (MQ below (va_Qi post (WQ dd ws0 sz wf) A) args s mc ms A) (F0 m pc ls [.int v]) :=
  W.iret hexec hb hr (fun t ht _ => ⟨⟨v, u, rfl, hq, by rw [ht]; exact hP, hAe ▸ hD⟩, hS.F ht⟩) hS.2.2 hdg hlocks
theorem ewZ {S : Type} {A : Nat → Prop} {post : Int32 → S → Prop} {wf : S → va_W} {ws0 : va_W} {sz : Nat} {v : Int32} (u : S) (hexec : p.tables.exec = Jvm.exec) (hb : c.code = cc) (hr : meth.sig.returnType = some .boolean) (hlocks : meth.locks = false) (hAe : A = va_A ws0 sz) (hS : va_S A s.heap H locs) (hdg : decode cc pc = .ok (.ireturn, 1)) (hn : narrow .boolean (.int v) = .int v) (hq : post v u) (hP : va_P dd vwCl (wf u) H) (hD : va_D A (wf u)) : W p l e R s m args below meth c H locs mc ms (MQ below (va_Qi post (WQ dd ws0 sz wf) A) args s mc ms A) (F0 m pc ls [.int v]) :=
  W.zret hexec hb hr hn (fun t ht _ => ⟨⟨v, u, rfl, hq, by rw [ht]; exact hP, hAe ▸ hD⟩, hS.F ht⟩) hS.2.2 hdg hlocks
theorem ewL {S : Type} {A : Nat → Prop} {post : Int64 → S → Prop} {wf : S → va_W} {ws0 : va_W} {sz : Nat} {v : Int64} (u : S) (hexec : p.tables.exec = Jvm.exec) (hb : c.code = cc) (hr : meth.sig.returnType = some .long) (hlocks : meth.locks = false) (hAe : A = va_A ws0 sz) (hS : va_S A s.heap H locs) (hdg : decode cc pc = .ok (.lreturn, 1)) (hq : post v u) (hP : va_P dd vwCl (wf u) H) (hD : va_D A (wf u)) : W p l e R s m args below meth c H locs mc ms (MQ below (va_Ql post (WQ dd ws0 sz wf) A) args s mc ms A) (F0 m pc ls [.long v]) :=
  W.lret hexec hb hr (fun t ht _ => ⟨⟨v, u, rfl, hq, by rw [ht]; exact hP, hAe ▸ hD⟩, hS.F ht⟩) hS.2.2 hdg hlocks
theorem ewV {S : Type} {A : Nat → Prop} {post : S → Prop} {wf : S → va_W} {ws0 : va_W} {sz : Nat} (u : S) (hexec : p.tables.exec = Jvm.exec) (hb : c.code = cc) (hr : meth.sig.returnType = none) (hlocks : meth.locks = false) (hAe : A = va_A ws0 sz) (hS : va_S A s.heap H locs) (hdg : decode cc pc = .ok (.return_, 1)) (hq : post u) (hP : va_P dd vwCl (wf u) H) (hD : va_D A (wf u)) : W p l e R s m args below meth c H locs mc ms (MQ below (va_Qv post (WQ dd ws0 sz wf) A) args s mc ms A) (F0 m pc ls []) :=
  W.vret hexec hb hr (fun t ht _ => ⟨⟨u, rfl, hq, by rw [ht]; exact hP, hAe ▸ hD⟩, hS.F ht⟩) hS.2.2 hdg hlocks
end CLW
