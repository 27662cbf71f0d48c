/-! ===== the law's helpers: a call of a method that may throw, its exception caught ===== -/
def Wx (dd : va_G) (tys : List (ClassId × FieldType)) (ws : va_W) (sz : Nat) (U : State) : Prop := U.heap.size = sz ∧ NW U ∧ XW U ∧ va_P dd vwCl ws U.heap ∧ va_K dd vwCl tys U ∧ va_D (fun _ => True) ws
theorem Wx.blind {As : List Value} {dd : va_G} {tys : List (ClassId × FieldType)} {ws : va_W} {sz : Nat} : FrameBlind (va_Pc As (Wx dd tys ws sz)) := by
  intro a U g mk q
  obtain ⟨q0, q1, qN, qX, qP, qK, qD⟩ := q
  exact ⟨q0, q1, NW.same (u := U) rfl qN, XW.go (s := U) (U := U.calling g mk a) (locs := []) qX va_S.rf rfl (State.WarmedH.refl U), qP, va_K.moved (u := U) (U := U.calling g mk a) (Vm.Alike.refl U.vm) qK, qD⟩
theorem mkH {l : Launch} {y : MethodName} {wsy ws' : List Cond} {rm : Room} {As : List Value} {dd : va_G} {tys : List (ClassId × FieldType)} {ws : va_W} {sz mc ms : Nat} {free : Addr → Prop} {Qc : Array Value → State → Outcome → State → Prop} {cc : ByteArray} {maxL : Nat} {ret : Option FieldType} {hh : List (Nat × Nat × Nat × Nat)} {lv0 : List (Nat × Value)}
    (hy : plainName y.cls = true) (hw : wsy = .codeWith y cc maxL ret hh :: ws') (hlv : (lg_sl As).length ≤ maxL) (hl0 : lv_args 0 As = lv0)
    (body : ∀ (p : Program) (e : Env) (s : State) (m : MethodId) (below : List Frame) (meth : Method) (c : Code) (ls : Array Slot), p.tables.exec = Jvm.exec → c.code = cc → meth.sig.returnType = ret → c.maxLocals = maxL → s.vm.findClass y.cls = some m.cls → meth.locks = false → (∀ w ∈ wsy, w.before As.toArray s = true) → c.exceptionTable.toList = tableOf hh → NW s → XW s → va_P dd vwCl ws s.heap → va_K dd vwCl tys s → va_D (va_A ws sz) ws → s.heap.size = sz → lv_has ls maxL lv0 →
      W p l e rm s m As.toArray below meth c s.heap [] 0 0 (MQ below Qc As.toArray s mc ms free) (F0 m 0 ls [])) : Met l y wsy rm (va_Pc As (Wx dd tys ws sz)) Qc mc ms free := by
  refine MetFree.of_bodyS (code := cc) (maxLocals := maxL) (ret := ret) hy ?_ ?_
  · intro args s m h hn
    obtain ⟨m9, meth, c, hn9, h1, h2, h3, h4, -, h5, h6, -⟩ := Cond.codeWith_spec (atoms_spec (ws := wsy) h _ (by rw [hw]; exact List.mem_cons_self))
    cases hn.symm.trans hn9
    exact ⟨meth, c, h1, h2, h3, h4, h5, h6⟩
  · intro p e s m args below meth c s₁ B hml hv _
    have hh0 : s₁.heap = s.heap := by rw [B.state]; rfl
    obtain ⟨rfl, hsz, hN, hX, hP, hK, hD⟩ := hv
    have hl := lv_entry As (n := maxL) hlv
    rw [hl0] at hl
    have hts := atoms_spec (ws := wsy) B.pre
    have ht := vx_table (x := y) B (hts _ (by rw [hw]; exact List.mem_cons_self))
    have k := body p e s m below meth c _ B.exec B.bytes B.returns hml (findClass_of_methodNamed B.named) B.notSynchronized hts ht hN hX hP hK hD.self hsz hl
    rw [← lg_entry_eq] at k
    obtain ⟨t, a1, o, b1, b2, b3⟩ := k s₁ hh0 (Stand.of_body B)
    exact ⟨t, o, a1, b1, b2, ⟨b3.1, b3.2⟩⟩
section CLH
variable {p : Program} {l : Launch} {e : Env} {R : Room} {s : State} {m : MethodId} {args : Array Value} {below : List Frame} {meth : Method} {c : Code} {H : Heap} {locs : List Loc} {cells slots : Nat} {Q : State → Prop}
variable {pc : Nat} {ls : Array Slot} {rest st0 : List Value}
variable {y : MethodName} {bytes cc : ByteArray} {maxL nL n index mc ms : Nat} {ret : Option FieldType} {hh : List (Nat × Nat × Nat × Nat)} {wsy wsy' Ts : List Cond} {rm : Room} {own : String} {As : List Value} {dd : va_G} {tys : List (ClassId × FieldType)} {ws wc wr : va_W}
theorem clSh {S : Type} {post : Int32 → S → Prop} {wf : S → va_W} (S0 : CallFix p m c cc nL s args Ts own) (hM : ∀ sz, Met l y wsy rm (va_Pc As (Wx dd tys wc sz)) (va_Qi post (WQ dd wc sz wf) (va_A wc sz)) mc ms (va_A wc sz)) (hG : GoodIn Ts (va_wsS own index y wsy)) (hw : wsy = Cond.codeWith y bytes maxL ret hh :: wsy') (hrm : rm.cells = mc ∧ rm.slots = ms)
    (hd : y.cls ≠ "java/lang/invoke/MethodHandle" ∧ y.cls ≠ "java/lang/invoke/VarHandle" ∧ (parseMethodDescriptor y.desc).map (fun d => d.parameters.length) = some n) (hR : rm.frames + 1 ≤ R.frames ∧ 8 + (maxL + 11) + rm.locals ≤ R.locals) (hN : NW s) (hX : XW s) (hK : va_K dd vwCl tys s) (hP : va_P dd vwCl ws H) (hD : va_D (fun q => s.heap.size ≤ q) ws) (hS : va_S (fun q => s.heap.size ≤ q) s.heap H locs)
    (isC isR : List Nat) (hC : isC.map (fun i => ws[i]?) = wc.map some) (hC2 : isC.filterMap (fun i => ws[i]?) = wc) (hnC : va_nd isC = true) (hRr : isR.map (fun i => ws[i]?) = wr.map some) (hnd : va_nd isR = true) (hdis : ∀ i ∈ isR, i ∉ isC)
    (hn : As.length = n) (hsz : ls.size = nL) (hst : st0 = As.reverse ++ rest) (hW : (rest.map fun v => v.category).sum ≤ 8) (hdg : decode cc pc = .ok (.invokestatic index, 3)) (hf : cells + mc ≤ R.cells ∧ slots + ms ≤ R.slots)
    (kk : ∀ (r : Int32) (u : S) (H1 : Heap) (locs1 : List Loc), post r u → va_P dd vwCl (wr ++ wf u) H1 → va_D (fun q => s.heap.size ≤ q) (wr ++ wf u) → va_S (fun q => s.heap.size ≤ q) s.heap H1 locs1 → W p l e R s m args below meth c H1 locs1 (cells + mc) (slots + ms) Q (F0 m (pc + 3) ls (.int r :: rest))) : W p l e R s m args below meth c H locs cells slots Q (F0 m pc ls st0) := by
  have hPc := hP.sub isC hC2
  have hDc := hD.sub isC hnC hC
  have hFc := va_free (A0 := fun q => s.heap.size ≤ q) hD hS (fun q h => h) isC hC
  refine va_calli (vx_runSW (As := As) (rest := rest) S0 (hM H.size) (vx_cwSW n S0.2.2.2.2 hG hw hrm.1 hrm.2 hd hR) ⟨Wx.blind, fun U hU hW => ⟨rfl, by rw [hU], hN.warm hW, hX.go hS hU hW, by rw [hU]; exact hPc, va_K.moved hW.alike hK, hDc.weaken (fun _ _ _ _ => trivial)⟩⟩ rfl hn hsz hst (lv_room hW) hdg hf) hS (fun q _ h => hFc q h) hFc (fun r u t H1 locs1 ht hvm hw hB hz1 hk1 hS1 => ?_)
  obtain ⟨hP1, hD1⟩ := hB
  rw [ht] at hP1
  obtain ⟨hP2, hD2⟩ := va_join (wr := wr) (w1 := wf u) hP hD isC isR hC hRr hnd hdis hk1 hFc hP1 hD1
  exact kk r u H1 locs1 hw hP2 hD2 hS1
end CLH
set_option maxHeartbeats 4000000 in
set_option maxRecDepth 100000 in
theorem h_gap (l : Launch) (hlt0 : l.stackTraces = false) (dd : va_G) (cyI cyJ cyZ : ClassId) (qx ql qk qa : Nat) (qr qt qh n : Nat) (hi : Int64) (tI : Nat → Int32) (hv : Nat → Int64) (hI sI : Nat → Int32) (hR : RowsOk n hI sI hi hv) (y k o pt : Int32) (qo : Nat) (oF : Nat → Int64) (sz : Nat) : Met l yL_gap wsL_gap ({ frames := 7, cells := 1, slots := 6, locals := 132 } : Room) (va_Pc [.ref qx, .int y, .int k, .int o, .int pt, .ref qo] (Wx dd [(cyI, .int), (cyJ, .long), (cyZ, .boolean)] [(qx, .inr (4, [.ref qr, .ref ql, .ref qk, .ref qa])), (qr, .inr (2, [.int (nI n), .long hi, .ref qt, .ref qh])), (qt, .inl (cyI, 48, .inl tI)), (qh, .inl (cyJ, 55, .inr (.inl hv))), (qo, .inl (cyJ, 1, .inr (.inl oF)))] sz)) (va_Qi (S := Nat → Int64) (fun r u => ((gapX n sI y k o pt) → r = 1) ∧ (¬ (gapX n sI y k o pt) → r = 0 ∧ u 0 = gapR n hI sI y k o pt)) (WQ dd [(qx, .inr (4, [.ref qr, .ref ql, .ref qk, .ref qa])), (qr, .inr (2, [.int (nI n), .long hi, .ref qt, .ref qh])), (qt, .inl (cyI, 48, .inl tI)), (qh, .inl (cyJ, 55, .inr (.inl hv))), (qo, .inl (cyJ, 1, .inr (.inl oF)))] sz (fun u => [(qx, .inr (4, [.ref qr, .ref ql, .ref qk, .ref qa])), (qr, .inr (2, [.int (nI n), .long hi, .ref qt, .ref qh])), (qt, .inl (cyI, 48, .inl tI)), (qh, .inl (cyJ, 55, .inr (.inl hv))), (qo, .inl (cyJ, 1, .inr (.inl u)))])) (va_A [(qx, .inr (4, [.ref qr, .ref ql, .ref qk, .ref qa])), (qr, .inr (2, [.int (nI n), .long hi, .ref qt, .ref qh])), (qt, .inl (cyI, 48, .inl tI)), (qh, .inl (cyJ, 55, .inr (.inl hv))), (qo, .inl (cyJ, 1, .inr (.inl oF)))] sz)) 1 6 (va_A [(qx, .inr (4, [.ref qr, .ref ql, .ref qk, .ref qa])), (qr, .inr (2, [.int (nI n), .long hi, .ref qt, .ref qh])), (qt, .inl (cyI, 48, .inl tI)), (qh, .inl (cyJ, 55, .inr (.inl hv))), (qo, .inl (cyJ, 1, .inr (.inl oF)))] sz) := by
  refine mkH (cc := cL_gap) (maxL := 7) (by decide) rfl (Nat.le_of_ble_eq_true rfl) (lv0 := [(0, .ref qx), (1, .int y), (2, .int k), (3, .int o), (4, .int pt), (5, .ref qo)]) rfl ?_
  intro p e s m below meth c ls hx hb hr hml hown hlocks hts htab hN hXW hP hK hD hsz hl
  have hown : s.vm.findClass RL = some m.cls := hown
  subst hsz
  refine lv_aload hx hb dL_gap_0 (lv_at hl 5 rfl) ?_
  refine lv_iconst (v := 0) hx hb dL_gap_2 (by decide) ?_
  refine lv_aload_n hx hb dL_gap_3 rfl (lv_at hl 0 rfl) ?_
  refine lv_iload_n hx hb dL_gap_4 rfl (lv_at hl 1 rfl) ?_
  refine lv_iload_n hx hb dL_gap_5 rfl (lv_at hl 2 rfl) ?_
  refine lv_iload_n hx hb dL_gap_6 rfl (lv_at hl 3 rfl) ?_
  refine lv_iload hx hb dL_gap_7 (lv_at hl 4 rfl) ?_
  refine vx_calll (A0 := va_A [(qx, .inr (4, [.ref qr, .ref ql, .ref qk, .ref qa])), (qr, .inr (2, [.int (nI n), .long hi, .ref qt, .ref qh])), (qt, .inl (cyI, 48, .inl tI)), (qh, .inl (cyJ, 55, .inr (.inl hv))), (qo, .inl (cyJ, 1, .inr (.inl oF)))] s.heap.size) (H0 := s.heap) (vx_runV (As := [.int y, .int k, .int o, .int pt]) (rest := [.int 0, .ref qo]) (b := qx) ⟨hx, hb, hml, hown, hts⟩ (x_gap l hlt0 dd cyI cyJ cyZ qx ql qk qa qr qt qh n hi tI hv hI sI hR y k o pt s.heap.size) (cwV 4 hts gL_gap_X4_gap rfl rfl rfl (by decide +kernel) ⟨Nat.le_of_ble_eq_true rfl, Nat.le_of_ble_eq_true rfl⟩) ⟨Xr.blind, va_recv (q0 := 0) hK hP (ci := 4) rfl rfl, fun U hU hW => ⟨rfl, by rw [hU], hN.warm hW, hXW.go (locs := []) va_S.rf hU hW, by rw [hU]; exact hP.sub [0, 1, 2, 3] rfl, va_K.moved hW.alike hK⟩⟩ rfl rfl hl.1 rfl (lv_room (Nat.le_of_ble_eq_true rfl)) dL_gap_9 ⟨Nat.le_of_ble_eq_true rfl, Nat.le_of_ble_eq_true rfl⟩) va_S.rf (fun q _ h => Or.inr h) (fun q h => Or.inr h) (fun q _ h => Or.inr h) ?_ ?_
  · intro E ce q9 u tS H1 locs1 ht hvm hpx hBX hz hk hS hce hcv hcl
    have hE : E = AEx := hBX
    subst hE
    refine vx_catch (own := RL) (name := AEx) hown [] _ [] htab (fun z h => nomatch h) (by decide) (by decide) (hts (.classLink RL 13 AEx) (by decide +kernel)) (va_Nw.use rfl hXW.1.2.2.2) hce hcv hcl ?_
    have hP : va_P dd vwCl [(qx, .inr (4, [.ref qr, .ref ql, .ref qk, .ref qa])), (qr, .inr (2, [.int (nI n), .long hi, .ref qt, .ref qh])), (qt, .inl (cyI, 48, .inl tI)), (qh, .inl (cyJ, 55, .inr (.inl hv))), (qo, .inl (cyJ, 1, .inr (.inl oF)))] H1 := hP.kept (fun k q hq => hk q.1 (vx_lt hP hq) (Nat.not_le.mpr (vx_lt hP hq)))
    refine lv_astore (lv' := [(6, .ref q9), (0, .ref qx), (1, .int y), (2, .int k), (3, .int o), (4, .int pt), (5, .ref qo)]) hx hb dL_gap_16 hl (by decide) rfl (fun ls hl => ?_)
    refine lv_iconst (v := 1) hx hb dL_gap_18 (by decide) ?_
    exact ewI oF hx hb hr hlocks rfl hS dL_gap_19 ⟨fun _ => rfl, fun h => absurd hpx h⟩ hP hD
  · intro r u tS H1 locs1 ht hvm hpo hB hz hk hS
    have hP : va_P dd vwCl [(qx, .inr (4, [.ref qr, .ref ql, .ref qk, .ref qa])), (qr, .inr (2, [.int (nI n), .long hi, .ref qt, .ref qh])), (qt, .inl (cyI, 48, .inl tI)), (qh, .inl (cyJ, 55, .inr (.inl hv))), (qo, .inl (cyJ, 1, .inr (.inl oF)))] H1 := hP.kept (fun k q hq => hk q.1 (vx_lt hP hq) (Nat.not_le.mpr (vx_lt hP hq)))
    refine va_last hx hb hK hP hD hS 4 1 rfl rfl (i := 0) (vp_in_nI (n := 0) (show 0 < 1 from by decide) (by decide)) dL_gap_12 (fun H2 locs2 hP hD hS => ?_)
    refine lv_goto (tgt := 20) hx hb dL_gap_13 (by decide) ?_
    refine lv_iconst (v := 0) hx hb dL_gap_20 (by decide) ?_
    exact ewI (vp_updL oF 0 r) hx hb hr hlocks rfl hS dL_gap_21 ⟨fun h => absurd h hpo.1, fun _ => ⟨rfl, by rw [hpo.2]; rfl⟩⟩ hP hD

set_option maxHeartbeats 4000000 in
set_option maxRecDepth 100000 in
theorem h_drift (l : Launch) (hlt0 : l.stackTraces = false) (dd : va_G) (cyI cyJ cyZ : ClassId) (qx ql qk qa : Nat) (qr qt qh n : Nat) (hi : Int64) (tI : Nat → Int32) (hv : Nat → Int64) (hI sI : Nat → Int32) (hR : RowsOk n hI sI hi hv) (y f b t pt : Int32) (qo : Nat) (oF : Nat → Int64) (sz : Nat) : Met l yL_drift wsL_drift ({ frames := 7, cells := 1, slots := 6, locals := 129 } : Room) (va_Pc [.ref qx, .int y, .int f, .int b, .int t, .int pt, .ref qo] (Wx dd [(cyI, .int), (cyJ, .long), (cyZ, .boolean)] [(qx, .inr (4, [.ref qr, .ref ql, .ref qk, .ref qa])), (qr, .inr (2, [.int (nI n), .long hi, .ref qt, .ref qh])), (qt, .inl (cyI, 48, .inl tI)), (qh, .inl (cyJ, 55, .inr (.inl hv))), (qo, .inl (cyJ, 1, .inr (.inl oF)))] sz)) (va_Qi (S := Nat → Int64) (fun r u => ((driftX n tI y f b t pt) → r = 1) ∧ (¬ (driftX n tI y f b t pt) → r = 0 ∧ u 0 = driftR n tI sI y f b t pt)) (WQ dd [(qx, .inr (4, [.ref qr, .ref ql, .ref qk, .ref qa])), (qr, .inr (2, [.int (nI n), .long hi, .ref qt, .ref qh])), (qt, .inl (cyI, 48, .inl tI)), (qh, .inl (cyJ, 55, .inr (.inl hv))), (qo, .inl (cyJ, 1, .inr (.inl oF)))] sz (fun u => [(qx, .inr (4, [.ref qr, .ref ql, .ref qk, .ref qa])), (qr, .inr (2, [.int (nI n), .long hi, .ref qt, .ref qh])), (qt, .inl (cyI, 48, .inl tI)), (qh, .inl (cyJ, 55, .inr (.inl hv))), (qo, .inl (cyJ, 1, .inr (.inl u)))])) (va_A [(qx, .inr (4, [.ref qr, .ref ql, .ref qk, .ref qa])), (qr, .inr (2, [.int (nI n), .long hi, .ref qt, .ref qh])), (qt, .inl (cyI, 48, .inl tI)), (qh, .inl (cyJ, 55, .inr (.inl hv))), (qo, .inl (cyJ, 1, .inr (.inl oF)))] sz)) 1 6 (va_A [(qx, .inr (4, [.ref qr, .ref ql, .ref qk, .ref qa])), (qr, .inr (2, [.int (nI n), .long hi, .ref qt, .ref qh])), (qt, .inl (cyI, 48, .inl tI)), (qh, .inl (cyJ, 55, .inr (.inl hv))), (qo, .inl (cyJ, 1, .inr (.inl oF)))] sz) := by
  refine mkH (cc := cL_drift) (maxL := 8) (by decide) rfl (Nat.le_of_ble_eq_true rfl) (lv0 := [(0, .ref qx), (1, .int y), (2, .int f), (3, .int b), (4, .int t), (5, .int pt), (6, .ref qo)]) rfl ?_
  intro p e s m below meth c ls hx hb hr hml hown hlocks hts htab hN hXW hP hK hD hsz hl
  have hown : s.vm.findClass RL = some m.cls := hown
  subst hsz
  refine lv_aload hx hb dL_drift_0 (lv_at hl 6 rfl) ?_
  refine lv_iconst (v := 0) hx hb dL_drift_2 (by decide) ?_
  refine lv_aload_n hx hb dL_drift_3 rfl (lv_at hl 0 rfl) ?_
  refine lv_iload_n hx hb dL_drift_4 rfl (lv_at hl 1 rfl) ?_
  refine lv_iload_n hx hb dL_drift_5 rfl (lv_at hl 2 rfl) ?_
  refine lv_iload_n hx hb dL_drift_6 rfl (lv_at hl 3 rfl) ?_
  refine lv_iload hx hb dL_drift_7 (lv_at hl 4 rfl) ?_
  refine lv_iload hx hb dL_drift_9 (lv_at hl 5 rfl) ?_
  refine vx_calll (A0 := va_A [(qx, .inr (4, [.ref qr, .ref ql, .ref qk, .ref qa])), (qr, .inr (2, [.int (nI n), .long hi, .ref qt, .ref qh])), (qt, .inl (cyI, 48, .inl tI)), (qh, .inl (cyJ, 55, .inr (.inl hv))), (qo, .inl (cyJ, 1, .inr (.inl oF)))] s.heap.size) (H0 := s.heap) (vx_runV (As := [.int y, .int f, .int b, .int t, .int pt]) (rest := [.int 0, .ref qo]) (b := qx) ⟨hx, hb, hml, hown, hts⟩ (x_drift l hlt0 dd cyI cyJ cyZ qx ql qk qa qr qt qh n hi tI hv hI sI hR y f b t pt s.heap.size) (cwV 5 hts gL_drift_X4_drift rfl rfl rfl (by decide +kernel) ⟨Nat.le_of_ble_eq_true rfl, Nat.le_of_ble_eq_true rfl⟩) ⟨Xr.blind, va_recv (q0 := 0) hK hP (ci := 4) rfl rfl, fun U hU hW => ⟨rfl, by rw [hU], hN.warm hW, hXW.go (locs := []) va_S.rf hU hW, by rw [hU]; exact hP.sub [0, 1, 2, 3] rfl, va_K.moved hW.alike hK⟩⟩ rfl rfl hl.1 rfl (lv_room (Nat.le_of_ble_eq_true rfl)) dL_drift_11 ⟨Nat.le_of_ble_eq_true rfl, Nat.le_of_ble_eq_true rfl⟩) va_S.rf (fun q _ h => Or.inr h) (fun q h => Or.inr h) (fun q _ h => Or.inr h) ?_ ?_
  · intro E ce q9 u tS H1 locs1 ht hvm hpx hBX hz hk hS hce hcv hcl
    have hE : E = AEx := hBX
    subst hE
    refine vx_catch (own := RL) (name := AEx) hown [] _ [] htab (fun z h => nomatch h) (by decide) (by decide) (hts (.classLink RL 13 AEx) (by decide +kernel)) (va_Nw.use rfl hXW.1.2.2.2) hce hcv hcl ?_
    have hP : va_P dd vwCl [(qx, .inr (4, [.ref qr, .ref ql, .ref qk, .ref qa])), (qr, .inr (2, [.int (nI n), .long hi, .ref qt, .ref qh])), (qt, .inl (cyI, 48, .inl tI)), (qh, .inl (cyJ, 55, .inr (.inl hv))), (qo, .inl (cyJ, 1, .inr (.inl oF)))] H1 := hP.kept (fun k q hq => hk q.1 (vx_lt hP hq) (Nat.not_le.mpr (vx_lt hP hq)))
    refine lv_astore (lv' := [(7, .ref q9), (0, .ref qx), (1, .int y), (2, .int f), (3, .int b), (4, .int t), (5, .int pt), (6, .ref qo)]) hx hb dL_drift_18 hl (by decide) rfl (fun ls hl => ?_)
    refine lv_iconst (v := 1) hx hb dL_drift_20 (by decide) ?_
    exact ewI oF hx hb hr hlocks rfl hS dL_drift_21 ⟨fun _ => rfl, fun h => absurd hpx h⟩ hP hD
  · intro r u tS H1 locs1 ht hvm hpo hB hz hk hS
    have hP : va_P dd vwCl [(qx, .inr (4, [.ref qr, .ref ql, .ref qk, .ref qa])), (qr, .inr (2, [.int (nI n), .long hi, .ref qt, .ref qh])), (qt, .inl (cyI, 48, .inl tI)), (qh, .inl (cyJ, 55, .inr (.inl hv))), (qo, .inl (cyJ, 1, .inr (.inl oF)))] H1 := hP.kept (fun k q hq => hk q.1 (vx_lt hP hq) (Nat.not_le.mpr (vx_lt hP hq)))
    refine va_last hx hb hK hP hD hS 4 1 rfl rfl (i := 0) (vp_in_nI (n := 0) (show 0 < 1 from by decide) (by decide)) dL_drift_14 (fun H2 locs2 hP hD hS => ?_)
    refine lv_goto (tgt := 22) hx hb dL_drift_15 (by decide) ?_
    refine lv_iconst (v := 0) hx hb dL_drift_22 (by decide) ?_
    exact ewI (vp_updL oF 0 r) hx hb hr hlocks rfl hS dL_drift_23 ⟨fun h => absurd h hpo.1, fun _ => ⟨rfl, by rw [hpo.2]; rfl⟩⟩ hP hD

set_option maxHeartbeats 4000000 in
set_option maxRecDepth 100000 in
theorem h_shift (l : Launch) (hlt0 : l.stackTraces = false) (dd : va_G) (cyI cyJ cyZ : ClassId) (qx ql qk qa : Nat) (qr qt qh n : Nat) (hi : Int64) (tI : Nat → Int32) (hv : Nat → Int64) (hI sI : Nat → Int32) (hR : RowsOk n hI sI hi hv) (la gu f b t pt : Int32) (qo : Nat) (oF : Nat → Int64) (sz : Nat) : Met l yL_shift wsL_shift ({ frames := 7, cells := 1, slots := 6, locals := 164 } : Room) (va_Pc [.ref qx, .int la, .int gu, .int f, .int b, .int t, .int pt, .ref qo] (Wx dd [(cyI, .int), (cyJ, .long), (cyZ, .boolean)] [(qx, .inr (4, [.ref qr, .ref ql, .ref qk, .ref qa])), (qr, .inr (2, [.int (nI n), .long hi, .ref qt, .ref qh])), (qt, .inl (cyI, 48, .inl tI)), (qh, .inl (cyJ, 55, .inr (.inl hv))), (qo, .inl (cyJ, 1, .inr (.inl oF)))] sz)) (va_Qi (S := Nat → Int64) (fun r u => ((shiftX n tI sI la gu f b t pt) → r = 1) ∧ (¬ (shiftX n tI sI la gu f b t pt) → r = 0 ∧ u 0 = shiftR n tI sI la gu f b t pt)) (WQ dd [(qx, .inr (4, [.ref qr, .ref ql, .ref qk, .ref qa])), (qr, .inr (2, [.int (nI n), .long hi, .ref qt, .ref qh])), (qt, .inl (cyI, 48, .inl tI)), (qh, .inl (cyJ, 55, .inr (.inl hv))), (qo, .inl (cyJ, 1, .inr (.inl oF)))] sz (fun u => [(qx, .inr (4, [.ref qr, .ref ql, .ref qk, .ref qa])), (qr, .inr (2, [.int (nI n), .long hi, .ref qt, .ref qh])), (qt, .inl (cyI, 48, .inl tI)), (qh, .inl (cyJ, 55, .inr (.inl hv))), (qo, .inl (cyJ, 1, .inr (.inl u)))])) (va_A [(qx, .inr (4, [.ref qr, .ref ql, .ref qk, .ref qa])), (qr, .inr (2, [.int (nI n), .long hi, .ref qt, .ref qh])), (qt, .inl (cyI, 48, .inl tI)), (qh, .inl (cyJ, 55, .inr (.inl hv))), (qo, .inl (cyJ, 1, .inr (.inl oF)))] sz)) 1 6 (va_A [(qx, .inr (4, [.ref qr, .ref ql, .ref qk, .ref qa])), (qr, .inr (2, [.int (nI n), .long hi, .ref qt, .ref qh])), (qt, .inl (cyI, 48, .inl tI)), (qh, .inl (cyJ, 55, .inr (.inl hv))), (qo, .inl (cyJ, 1, .inr (.inl oF)))] sz) := by
  refine mkH (cc := cL_shift) (maxL := 9) (by decide) rfl (Nat.le_of_ble_eq_true rfl) (lv0 := [(0, .ref qx), (1, .int la), (2, .int gu), (3, .int f), (4, .int b), (5, .int t), (6, .int pt), (7, .ref qo)]) rfl ?_
  intro p e s m below meth c ls hx hb hr hml hown hlocks hts htab hN hXW hP hK hD hsz hl
  have hown : s.vm.findClass RL = some m.cls := hown
  subst hsz
  refine lv_aload hx hb dL_shift_0 (lv_at hl 7 rfl) ?_
  refine lv_iconst (v := 0) hx hb dL_shift_2 (by decide) ?_
  refine lv_aload_n hx hb dL_shift_3 rfl (lv_at hl 0 rfl) ?_
  refine lv_iload_n hx hb dL_shift_4 rfl (lv_at hl 1 rfl) ?_
  refine lv_iload_n hx hb dL_shift_5 rfl (lv_at hl 2 rfl) ?_
  refine lv_iload_n hx hb dL_shift_6 rfl (lv_at hl 3 rfl) ?_
  refine lv_iload hx hb dL_shift_7 (lv_at hl 4 rfl) ?_
  refine lv_iload hx hb dL_shift_9 (lv_at hl 5 rfl) ?_
  refine lv_iload hx hb dL_shift_11 (lv_at hl 6 rfl) ?_
  refine vx_calll (A0 := va_A [(qx, .inr (4, [.ref qr, .ref ql, .ref qk, .ref qa])), (qr, .inr (2, [.int (nI n), .long hi, .ref qt, .ref qh])), (qt, .inl (cyI, 48, .inl tI)), (qh, .inl (cyJ, 55, .inr (.inl hv))), (qo, .inl (cyJ, 1, .inr (.inl oF)))] s.heap.size) (H0 := s.heap) (vx_runV (As := [.int la, .int gu, .int f, .int b, .int t, .int pt]) (rest := [.int 0, .ref qo]) (b := qx) ⟨hx, hb, hml, hown, hts⟩ (x_shift l hlt0 dd cyI cyJ cyZ qx ql qk qa qr qt qh n hi tI hv hI sI hR la gu f b t pt s.heap.size) (cwV 6 hts gL_shift_X4_shift rfl rfl rfl (by decide +kernel) ⟨Nat.le_of_ble_eq_true rfl, Nat.le_of_ble_eq_true rfl⟩) ⟨Xr.blind, va_recv (q0 := 0) hK hP (ci := 4) rfl rfl, fun U hU hW => ⟨rfl, by rw [hU], hN.warm hW, hXW.go (locs := []) va_S.rf hU hW, by rw [hU]; exact hP.sub [0, 1, 2, 3] rfl, va_K.moved hW.alike hK⟩⟩ rfl rfl hl.1 rfl (lv_room (Nat.le_of_ble_eq_true rfl)) dL_shift_13 ⟨Nat.le_of_ble_eq_true rfl, Nat.le_of_ble_eq_true rfl⟩) va_S.rf (fun q _ h => Or.inr h) (fun q h => Or.inr h) (fun q _ h => Or.inr h) ?_ ?_
  · intro E ce q9 u tS H1 locs1 ht hvm hpx hBX hz hk hS hce hcv hcl
    have hE : E = AEx := hBX
    subst hE
    refine vx_catch (own := RL) (name := AEx) hown [] _ [] htab (fun z h => nomatch h) (by decide) (by decide) (hts (.classLink RL 13 AEx) (by decide +kernel)) (va_Nw.use rfl hXW.1.2.2.2) hce hcv hcl ?_
    have hP : va_P dd vwCl [(qx, .inr (4, [.ref qr, .ref ql, .ref qk, .ref qa])), (qr, .inr (2, [.int (nI n), .long hi, .ref qt, .ref qh])), (qt, .inl (cyI, 48, .inl tI)), (qh, .inl (cyJ, 55, .inr (.inl hv))), (qo, .inl (cyJ, 1, .inr (.inl oF)))] H1 := hP.kept (fun k q hq => hk q.1 (vx_lt hP hq) (Nat.not_le.mpr (vx_lt hP hq)))
    refine lv_astore (lv' := [(8, .ref q9), (0, .ref qx), (1, .int la), (2, .int gu), (3, .int f), (4, .int b), (5, .int t), (6, .int pt), (7, .ref qo)]) hx hb dL_shift_20 hl (by decide) rfl (fun ls hl => ?_)
    refine lv_iconst (v := 1) hx hb dL_shift_22 (by decide) ?_
    exact ewI oF hx hb hr hlocks rfl hS dL_shift_23 ⟨fun _ => rfl, fun h => absurd hpx h⟩ hP hD
  · intro r u tS H1 locs1 ht hvm hpo hB hz hk hS
    have hP : va_P dd vwCl [(qx, .inr (4, [.ref qr, .ref ql, .ref qk, .ref qa])), (qr, .inr (2, [.int (nI n), .long hi, .ref qt, .ref qh])), (qt, .inl (cyI, 48, .inl tI)), (qh, .inl (cyJ, 55, .inr (.inl hv))), (qo, .inl (cyJ, 1, .inr (.inl oF)))] H1 := hP.kept (fun k q hq => hk q.1 (vx_lt hP hq) (Nat.not_le.mpr (vx_lt hP hq)))
    refine va_last hx hb hK hP hD hS 4 1 rfl rfl (i := 0) (vp_in_nI (n := 0) (show 0 < 1 from by decide) (by decide)) dL_shift_16 (fun H2 locs2 hP hD hS => ?_)
    refine lv_goto (tgt := 24) hx hb dL_shift_17 (by decide) ?_
    refine lv_iconst (v := 0) hx hb dL_shift_24 (by decide) ?_
    exact ewI (vp_updL oF 0 r) hx hb hr hlocks rfl hS dL_shift_25 ⟨fun h => absurd h hpo.1, fun _ => ⟨rfl, by rw [hpo.2]; rfl⟩⟩ hP hD

set_option maxHeartbeats 4000000 in
set_option maxRecDepth 100000 in
theorem h_order (l : Launch) (hlt0 : l.stackTraces = false) (dd : va_G) (cyI cyJ cyZ : ClassId) (qx ql qk qa : Nat) (qr qt qh n : Nat) (hi : Int64) (tI : Nat → Int32) (hv : Nat → Int64) (hI sI : Nat → Int32) (hR : RowsOk n hI sI hi hv) (f b t i : Int32) (qo : Nat) (oF : Nat → Int64) (sz : Nat) : Met l yL_order wsL_order ({ frames := 7, cells := 1, slots := 6, locals := 169 } : Room) (va_Pc [.ref qx, .int f, .int b, .int t, .int i, .ref qo] (Wx dd [(cyI, .int), (cyJ, .long), (cyZ, .boolean)] [(qx, .inr (4, [.ref qr, .ref ql, .ref qk, .ref qa])), (qr, .inr (2, [.int (nI n), .long hi, .ref qt, .ref qh])), (qt, .inl (cyI, 48, .inl tI)), (qh, .inl (cyJ, 55, .inr (.inl hv))), (qo, .inl (cyJ, 1, .inr (.inl oF)))] sz)) (va_Qi (S := Nat → Int64) (fun r u => ((orderX n tI f b t i) → r = 1) ∧ (¬ (orderX n tI f b t i) → r = 0 ∧ u 0 = (orderR n tI sI f b t i).toInt64)) (WQ dd [(qx, .inr (4, [.ref qr, .ref ql, .ref qk, .ref qa])), (qr, .inr (2, [.int (nI n), .long hi, .ref qt, .ref qh])), (qt, .inl (cyI, 48, .inl tI)), (qh, .inl (cyJ, 55, .inr (.inl hv))), (qo, .inl (cyJ, 1, .inr (.inl oF)))] sz (fun u => [(qx, .inr (4, [.ref qr, .ref ql, .ref qk, .ref qa])), (qr, .inr (2, [.int (nI n), .long hi, .ref qt, .ref qh])), (qt, .inl (cyI, 48, .inl tI)), (qh, .inl (cyJ, 55, .inr (.inl hv))), (qo, .inl (cyJ, 1, .inr (.inl u)))])) (va_A [(qx, .inr (4, [.ref qr, .ref ql, .ref qk, .ref qa])), (qr, .inr (2, [.int (nI n), .long hi, .ref qt, .ref qh])), (qt, .inl (cyI, 48, .inl tI)), (qh, .inl (cyJ, 55, .inr (.inl hv))), (qo, .inl (cyJ, 1, .inr (.inl oF)))] sz)) 1 6 (va_A [(qx, .inr (4, [.ref qr, .ref ql, .ref qk, .ref qa])), (qr, .inr (2, [.int (nI n), .long hi, .ref qt, .ref qh])), (qt, .inl (cyI, 48, .inl tI)), (qh, .inl (cyJ, 55, .inr (.inl hv))), (qo, .inl (cyJ, 1, .inr (.inl oF)))] sz) := by
  refine mkH (cc := cL_order) (maxL := 7) (by decide) rfl (Nat.le_of_ble_eq_true rfl) (lv0 := [(0, .ref qx), (1, .int f), (2, .int b), (3, .int t), (4, .int i), (5, .ref qo)]) rfl ?_
  intro p e s m below meth c ls hx hb hr hml hown hlocks hts htab hN hXW hP hK hD hsz hl
  have hown : s.vm.findClass RL = some m.cls := hown
  subst hsz
  refine lv_aload hx hb dL_order_0 (lv_at hl 5 rfl) ?_
  refine lv_iconst (v := 0) hx hb dL_order_2 (by decide) ?_
  refine lv_aload_n hx hb dL_order_3 rfl (lv_at hl 0 rfl) ?_
  refine lv_iload_n hx hb dL_order_4 rfl (lv_at hl 1 rfl) ?_
  refine lv_iload_n hx hb dL_order_5 rfl (lv_at hl 2 rfl) ?_
  refine lv_iload_n hx hb dL_order_6 rfl (lv_at hl 3 rfl) ?_
  refine lv_iload hx hb dL_order_7 (lv_at hl 4 rfl) ?_
  refine vx_calli (A0 := va_A [(qx, .inr (4, [.ref qr, .ref ql, .ref qk, .ref qa])), (qr, .inr (2, [.int (nI n), .long hi, .ref qt, .ref qh])), (qt, .inl (cyI, 48, .inl tI)), (qh, .inl (cyJ, 55, .inr (.inl hv))), (qo, .inl (cyJ, 1, .inr (.inl oF)))] s.heap.size) (H0 := s.heap) (vx_runV (As := [.int f, .int b, .int t, .int i]) (rest := [.int 0, .ref qo]) (b := qx) ⟨hx, hb, hml, hown, hts⟩ (x_order l hlt0 dd cyI cyJ cyZ qx ql qk qa qr qt qh n hi tI hv hI sI hR f b t i s.heap.size) (cwV 4 hts gL_order_X4_order rfl rfl rfl (by decide +kernel) ⟨Nat.le_of_ble_eq_true rfl, Nat.le_of_ble_eq_true rfl⟩) ⟨Xr.blind, va_recv (q0 := 0) hK hP (ci := 4) rfl rfl, fun U hU hW => ⟨rfl, by rw [hU], hN.warm hW, hXW.go (locs := []) va_S.rf hU hW, by rw [hU]; exact hP.sub [0, 1, 2, 3] rfl, va_K.moved hW.alike hK⟩⟩ rfl rfl hl.1 rfl (lv_room (Nat.le_of_ble_eq_true rfl)) dL_order_9 ⟨Nat.le_of_ble_eq_true rfl, Nat.le_of_ble_eq_true rfl⟩) va_S.rf (fun q _ h => Or.inr h) (fun q h => Or.inr h) (fun q _ h => Or.inr h) ?_ ?_
  · intro E ce q9 u tS H1 locs1 ht hvm hpx hBX hz hk hS hce hcv hcl
    have hE : E = AEx := hBX
    subst hE
    refine vx_catch (own := RL) (name := AEx) hown [] _ [] htab (fun z h => nomatch h) (by decide) (by decide) (hts (.classLink RL 13 AEx) (by decide +kernel)) (va_Nw.use rfl hXW.1.2.2.2) hce hcv hcl ?_
    have hP : va_P dd vwCl [(qx, .inr (4, [.ref qr, .ref ql, .ref qk, .ref qa])), (qr, .inr (2, [.int (nI n), .long hi, .ref qt, .ref qh])), (qt, .inl (cyI, 48, .inl tI)), (qh, .inl (cyJ, 55, .inr (.inl hv))), (qo, .inl (cyJ, 1, .inr (.inl oF)))] H1 := hP.kept (fun k q hq => hk q.1 (vx_lt hP hq) (Nat.not_le.mpr (vx_lt hP hq)))
    refine lv_astore (lv' := [(6, .ref q9), (0, .ref qx), (1, .int f), (2, .int b), (3, .int t), (4, .int i), (5, .ref qo)]) hx hb dL_order_17 hl (by decide) rfl (fun ls hl => ?_)
    refine lv_iconst (v := 1) hx hb dL_order_19 (by decide) ?_
    exact ewI oF hx hb hr hlocks rfl hS dL_order_20 ⟨fun _ => rfl, fun h => absurd hpx h⟩ hP hD
  · intro r u tS H1 locs1 ht hvm hpo hB hz hk hS
    have hP : va_P dd vwCl [(qx, .inr (4, [.ref qr, .ref ql, .ref qk, .ref qa])), (qr, .inr (2, [.int (nI n), .long hi, .ref qt, .ref qh])), (qt, .inl (cyI, 48, .inl tI)), (qh, .inl (cyJ, 55, .inr (.inl hv))), (qo, .inl (cyJ, 1, .inr (.inl oF)))] H1 := hP.kept (fun k q hq => hk q.1 (vx_lt hP hq) (Nat.not_le.mpr (vx_lt hP hq)))
    refine lv_i2l hx hb dL_order_12 rfl ?_
    refine va_last hx hb hK hP hD hS 4 1 rfl rfl (i := 0) (vp_in_nI (n := 0) (show 0 < 1 from by decide) (by decide)) dL_order_13 (fun H2 locs2 hP hD hS => ?_)
    refine lv_goto (tgt := 21) hx hb dL_order_14 (by decide) ?_
    refine lv_iconst (v := 0) hx hb dL_order_21 (by decide) ?_
    exact ewI (vp_updL oF 0 r.toInt64) hx hb hr hlocks rfl hS dL_order_22 ⟨fun h => absurd h hpo.1, fun _ => ⟨rfl, by rw [hpo.2]; rfl⟩⟩ hP hD
