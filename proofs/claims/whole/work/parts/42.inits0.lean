/-! ===== constructors ===== -/
section NWT
variable {p : Program} {l : Launch} {e : Env} {R : Room} {s : State} {m : MethodId} {args : Array Value} {below : List Frame} {meth : Method} {c : Code} {H : Heap} {locs : List Loc} {cells slots : Nat} {Q : State → Prop}
variable {pc : Nat} {ls : Array Slot} {rest st0 : List Value}
variable {y : MethodName} {bytes cc : ByteArray} {maxL nL n index mc ms : Nat} {ret : Option FieldType} {wsy wsy' Ts : List Cond} {rm : Room} {own host : String} {b : Addr} {As : List Value} {dd : va_G} {tys : List (ClassId × FieldType)} {ws wc wr : va_W} {A0 : Nat → Prop} {H0 : Heap}
/-- a new array whose class is known -/
theorem va_newT (hexec : p.tables.exec = Jvm.exec) (hb : c.code = cc) {atype : ArrayType} (harr : (Cond.arrayClass (newarray.typeOf atype)).before args s = true) {ty : FieldType} (hty : newarray.typeOf atype = ty) (hp : ty = .int ∨ ty = .long ∨ ty = .boolean) (hK : va_K dd vwCl tys s) (k0 : Nat) {c0 : ClassId} (hk0 : tys[k0]? = some (c0, ty)) (hP : va_P dd vwCl ws H) (hD : va_D A0 ws) (hS : va_S A0 H0 H locs) (hA : ∀ q, H0.size ≤ q → A0 q)
    {n : Int32} {N' : Nat} {a0 : vp_A} (ha : ∀ cA : ClassId, vp_cell cA a0 = arrV cA N' (fun _ => defaultValue ty)) (hn : ¬ n < 0) (hN : n.toNatClampNeg = N') (hbytes : N' * componentBytes ty ≤ 536870912) (hcells : cells + 1 ≤ R.cells) (hslots : slots + N' ≤ R.slots) (hdg : decode cc pc = .ok (.newarray atype, 2))
    (kk : ∀ (q : Nat) (H1 : Heap), va_P dd vwCl (ws ++ [(q, .inl (c0, a0))]) H1 → va_D A0 (ws ++ [(q, .inl (c0, a0))]) → va_S A0 H0 H1 locs →
      W p l e R s m args below meth c H1 locs (cells + 1) (slots + N') Q (F0 m (pc + 2) ls (.ref q :: rest))) : W p l e R s m args below meth c H locs cells slots Q (F0 m pc ls (.int n :: rest)) := by
  refine va_newa hexec hb harr hty hK hP hD hS hA ha hn hN hbytes hcells hslots hdg (fun q cA H1 hK1 hP1 hD1 hS1 => ?_)
  have h1 := (hK1.2 tys.length (cA, ty) (by rw [List.getElem?_append_right (Nat.le_refl _), Nat.sub_self]; rfl)).2
  have h2 := (hK.2 k0 _ hk0).2
  have hc : cA = c0 := by
    rcases hp with rfl | rfl | rfl <;> exact Option.some.inj (h1.symm.trans h2)
  subst hc
  exact kk q H1 hP1 hD1 hS1
/-- a constructor of a nest mate, and a plain one -/
theorem clIwN {S : Type} {post : S → Prop} {wf : S → va_W} (S0 : CallFix p m c cc nL s args Ts own) (hM : ∀ sz, Met l y wsy rm (va_Pc (.ref b :: As) (Wr dd tys wc sz)) (va_Qv post (WQ dd wc sz wf) (va_A wc sz)) mc ms (va_A wc sz)) (hG : GoodIn Ts wsy) (hl : va_Nw (.methodLinkNest own index y host) s) (hini : (Cond.initialized y.cls).before args s = true) (hin : (Cond.instanceMethod y).before args s = true) (hy1 : y.name = "<init>") (hw : wsy = Cond.code y bytes maxL none :: wsy') (hrm : rm.cells = mc ∧ rm.slots = ms)
    (hd : y.cls ≠ "java/lang/invoke/MethodHandle" ∧ y.cls ≠ "java/lang/invoke/VarHandle" ∧ (parseMethodDescriptor y.desc).map (fun d => d.parameters.length) = some n) (hR : rm.frames + 1 ≤ R.frames ∧ 8 + (maxL + 11) + rm.locals ≤ R.locals) (hN : NW s) (hK : va_K dd vwCl tys s) (hP : va_P dd vwCl ws H) (hD : va_D A0 ws) (hS : va_S A0 H0 H locs) (hA : ∀ q, H0.size ≤ q → A0 q)
    (isC isR : List Nat) (hC : isC.map (fun i => ws[i]?) = wc.map some) (hC2 : isC.filterMap (fun i => ws[i]?) = wc) (hnC : va_nd isC = true) (hRr : isR.map (fun i => ws[i]?) = wr.map some) (hnd : va_nd isR = true) (hdis : ∀ i ∈ isR, i ∉ isC)
    (hn : As.length = n) (hsz : ls.size = nL) (hst : st0 = As.reverse ++ .ref b :: rest) (hW : (rest.map fun v => v.category).sum ≤ 8) (hdg : decode cc pc = .ok (.invokespecial index, 3)) (hf : cells + mc ≤ R.cells ∧ slots + ms ≤ R.slots)
    (kk : ∀ (u : S) (H1 : Heap) (locs1 : List Loc), post u → va_P dd vwCl (wr ++ wf u) H1 → va_D A0 (wr ++ wf u) → va_S A0 H0 H1 locs1 → W p l e R s m args below meth c H1 locs1 (cells + mc) (slots + ms) Q (F0 m (pc + 3) ls rest)) : W p l e R s m args below meth c H locs cells slots Q (F0 m pc ls st0) := by
  have hPc := hP.sub isC hC2
  have hDc := hD.sub isC hnC hC
  have hFc := va_free hD hS hA isC hC
  refine va_callv (va_runIN (As := As) (rest := rest) (b := b) S0 (hM H.size) ⟨va_cnB n S0.2.2.2.2 hG hw hrm.1 hrm.2 hl hini hd hR, hy1, hin⟩ ⟨Wr.blind, fun U hU hW => ⟨rfl, by rw [hU], hN.warm hW, by rw [hU]; exact hPc, va_K.moved hW.alike hK, hDc.weaken (fun _ _ _ _ => trivial)⟩⟩ rfl hn hsz hst (lv_room hW) hdg hf) hS (fun q _ h => hFc q h) hFc (fun u t H1 locs1 ht hvm hw hB hz1 hk1 hS1 => ?_)
  obtain ⟨hP1, hD1⟩ := hB
  rw [ht] at hP1
  obtain ⟨hP2, hD2⟩ := va_join (wr := wr) (w1 := wf u) hP hD isC isR hC hRr hnd hdis hk1 hFc hP1 hD1
  exact kk u H1 locs1 hw hP2 hD2 hS1
theorem clIw {S : Type} {post : S → Prop} {wf : S → va_W} (S0 : CallFix p m c cc nL s args Ts own) (hM : ∀ sz, Met l y wsy rm (va_Pc (.ref b :: As) (Wr dd tys wc sz)) (va_Qv post (WQ dd wc sz wf) (va_A wc sz)) mc ms (va_A wc sz)) (hG : GoodIn Ts wsy) (hl : (Cond.methodLink own index y).before args s = true) (hini : (Cond.initialized y.cls).before args s = true) (hin : (Cond.instanceMethod y).before args s = true) (hy1 : y.name = "<init>") (hw : wsy = Cond.code y bytes maxL none :: wsy') (hrm : rm.cells = mc ∧ rm.slots = ms)
    (hd : y.cls ≠ "java/lang/invoke/MethodHandle" ∧ y.cls ≠ "java/lang/invoke/VarHandle" ∧ (parseMethodDescriptor y.desc).map (fun d => d.parameters.length) = some n) (hR : rm.frames + 1 ≤ R.frames ∧ 8 + (maxL + 11) + rm.locals ≤ R.locals) (hN : NW s) (hK : va_K dd vwCl tys s) (hP : va_P dd vwCl ws H) (hD : va_D A0 ws) (hS : va_S A0 H0 H locs) (hA : ∀ q, H0.size ≤ q → A0 q)
    (isC isR : List Nat) (hC : isC.map (fun i => ws[i]?) = wc.map some) (hC2 : isC.filterMap (fun i => ws[i]?) = wc) (hnC : va_nd isC = true) (hRr : isR.map (fun i => ws[i]?) = wr.map some) (hnd : va_nd isR = true) (hdis : ∀ i ∈ isR, i ∉ isC)
    (hn : As.length = n) (hsz : ls.size = nL) (hst : st0 = As.reverse ++ .ref b :: rest) (hW : (rest.map fun v => v.category).sum ≤ 8) (hdg : decode cc pc = .ok (.invokespecial index, 3)) (hf : cells + mc ≤ R.cells ∧ slots + ms ≤ R.slots)
    (kk : ∀ (u : S) (H1 : Heap) (locs1 : List Loc), post u → va_P dd vwCl (wr ++ wf u) H1 → va_D A0 (wr ++ wf u) → va_S A0 H0 H1 locs1 → W p l e R s m args below meth c H1 locs1 (cells + mc) (slots + ms) Q (F0 m (pc + 3) ls rest)) : W p l e R s m args below meth c H locs cells slots Q (F0 m pc ls st0) := by
  have hPc := hP.sub isC hC2
  have hDc := hD.sub isC hnC hC
  have hFc := va_free hD hS hA isC hC
  refine va_callv (va_runI (As := As) (rest := rest) (b := b) S0 (hM H.size) (cwI n S0.2.2.2.2 hG hw hrm.1 hrm.2 hini hl hin hy1 hd hR) ⟨Wr.blind, fun U hU hW => ⟨rfl, by rw [hU], hN.warm hW, by rw [hU]; exact hPc, va_K.moved hW.alike hK, hDc.weaken (fun _ _ _ _ => trivial)⟩⟩ rfl hn hsz hst (lv_room hW) hdg hf) hS (fun q _ h => hFc q h) hFc (fun u t H1 locs1 ht hvm hw hB hz1 hk1 hS1 => ?_)
  obtain ⟨hP1, hD1⟩ := hB
  rw [ht] at hP1
  obtain ⟨hP2, hD2⟩ := va_join (wr := wr) (w1 := wf u) hP hD isC isR hC hRr hnd hdis hk1 hFc hP1 hD1
  exact kk u H1 locs1 hw hP2 hD2 hS1
end NWT
set_option maxHeartbeats 4000000 in
set_option maxRecDepth 100000 in
theorem c_X0_init (l : Launch) (dd : va_G) (cyI cyJ cyZ : ClassId) (q : Nat) (sz : Nat) : Met l yX0_init wsX0_init ({ frames := 1, cells := 3, slots := 300, locals := 30 } : Room) (va_Pc [.ref q] (Wr dd [(cyI, .int), (cyJ, .long), (cyZ, .boolean)] [(q, .inr (0, [.int 0, .int 0, .int 0, .int 0, .null, .null, .null]))] sz)) (va_Qv (S := Nat → Nat) (fun _ => True) (WQ dd [(q, .inr (0, [.int 0, .int 0, .int 0, .int 0, .null, .null, .null]))] sz (fun u => [(q, .inr (0, [.int 0, .int 1, .int 0, .int 0, .ref (u 0), .ref (u 1), .ref (u 2)])), (u 0, .inl (cyI, 100, .inl (fun _ => 0))), (u 1, .inl (cyZ, 100, .inl (fun _ => 0))), (u 2, .inl (cyZ, 100, .inl (fun _ => 0)))])) (va_A [(q, .inr (0, [.int 0, .int 0, .int 0, .int 0, .null, .null, .null]))] sz)) 3 300 (va_A [(q, .inr (0, [.int 0, .int 0, .int 0, .int 0, .null, .null, .null]))] sz) := by
  refine mkW (Qc := fun A => (va_Qv (S := Nat → Nat) (fun _ => True) (WQ dd [(q, .inr (0, [.int 0, .int 0, .int 0, .int 0, .null, .null, .null]))] sz (fun u => [(q, .inr (0, [.int 0, .int 1, .int 0, .int 0, .ref (u 0), .ref (u 1), .ref (u 2)])), (u 0, .inl (cyI, 100, .inl (fun _ => 0))), (u 1, .inl (cyZ, 100, .inl (fun _ => 0))), (u 2, .inl (cyZ, 100, .inl (fun _ => 0)))])) A)) (cc := cX0_init) (maxL := 1) (by decide) rfl (Nat.le_of_ble_eq_true rfl) (lv0 := [(0, .ref q)]) rfl ?_
  intro p e s m below meth c ls H A hx hb hr hml hown hlocks hts hmn hN hP hK hD hS hA hAe hl
  have hown : s.vm.findClass RX0 = some m.cls := hown
  have hiX0 : ∀ w ∈ wsX00, w ∈ wsX0_init := by decide +kernel
  have hin : meth.name = "<init>" := hmn
  refine lv_aload_n hx hb dX0_init_0 rfl (lv_at hl 0 rfl) ?_
  refine W.objInit hx hb hown (hts (.methodLink RX0 3 objectInit) (by decide +kernel)) (hts (.instanceMethod objectInit) (by decide +kernel)) (hts (.code objectInit ⟨#[0xb1]⟩ 1 none) (by decide +kernel)) rfl (by rw [hml]; exact hl.1) rfl dX0_init_1 (Nat.le_of_ble_eq_true rfl) (Nat.le_of_ble_eq_true rfl) ?_
  refine W.eq (g2 := F0 m 4 ls []) rfl ?_
  refine lv_aload_n hx hb dX0_init_4 rfl (lv_at hl 0 rfl) ?_
  refine lv_iconst (v := 0) hx hb dX0_init_5 (by decide) ?_
  refine va_put (D := dd) (ci := 0) (v := .int 0) (ty := .int) (C := RX0) (T := TX0) (N := 7) hx hb hts hiX0 tyX0 tyX0_ok nmX0 hown hK hP hD hS 0 rfl rfl 0 (by decide) (hts (.fieldLink RX0 9 "SliceDrift$Alarms" "base" "I") (by decide +kernel)) (fun _ h9 => h9) rfl (by decide +kernel) rfl rfl (Nat.le_of_ble_eq_true rfl) dX0_init_6 (fun H locs hP hD hS => ?_)
  have hP : va_P dd vwCl [(q, .inr (0, [.int 0, .int 0, .int 0, .int 0, .null, .null, .null]))] H := hP
  have hD : va_D A [(q, .inr (0, [.int 0, .int 0, .int 0, .int 0, .null, .null, .null]))] := hD
  refine lv_aload_n hx hb dX0_init_9 rfl (lv_at hl 0 rfl) ?_
  refine lv_iconst (v := 1) hx hb dX0_init_10 (by decide) ?_
  refine va_put (D := dd) (ci := 0) (v := .int 1) (ty := .int) (C := RX0) (T := TX0) (N := 7) hx hb hts hiX0 tyX0 tyX0_ok nmX0 hown hK hP hD hS 0 rfl rfl 1 (by decide) (hts (.fieldLink RX0 15 "SliceDrift$Alarms" "length" "I") (by decide +kernel)) (fun _ h9 => h9) rfl (by decide +kernel) rfl rfl (Nat.le_of_ble_eq_true rfl) dX0_init_11 (fun H locs hP hD hS => ?_)
  have hP : va_P dd vwCl [(q, .inr (0, [.int 0, .int 1, .int 0, .int 0, .null, .null, .null]))] H := hP
  have hD : va_D A [(q, .inr (0, [.int 0, .int 1, .int 0, .int 0, .null, .null, .null]))] := hD
  refine lv_aload_n hx hb dX0_init_14 rfl (lv_at hl 0 rfl) ?_
  refine lv_iconst (v := 0) hx hb dX0_init_15 (by decide) ?_
  refine va_put (D := dd) (ci := 0) (v := .int 0) (ty := .int) (C := RX0) (T := TX0) (N := 7) hx hb hts hiX0 tyX0 tyX0_ok nmX0 hown hK hP hD hS 0 rfl rfl 2 (by decide) (hts (.fieldLink RX0 18 "SliceDrift$Alarms" "size" "I") (by decide +kernel)) (fun _ h9 => h9) rfl (by decide +kernel) rfl rfl (Nat.le_of_ble_eq_true rfl) dX0_init_16 (fun H locs hP hD hS => ?_)
  have hP : va_P dd vwCl [(q, .inr (0, [.int 0, .int 1, .int 0, .int 0, .null, .null, .null]))] H := hP
  have hD : va_D A [(q, .inr (0, [.int 0, .int 1, .int 0, .int 0, .null, .null, .null]))] := hD
  refine lv_aload_n hx hb dX0_init_19 rfl (lv_at hl 0 rfl) ?_
  refine lv_iconst (v := 0) hx hb dX0_init_20 (by decide) ?_
  refine va_put (D := dd) (ci := 0) (v := .int 0) (ty := .int) (C := RX0) (T := TX0) (N := 7) hx hb hts hiX0 tyX0 tyX0_ok nmX0 hown hK hP hD hS 0 rfl rfl 3 (by decide) (hts (.fieldLink RX0 21 "SliceDrift$Alarms" "begun" "I") (by decide +kernel)) (fun _ h9 => h9) rfl (by decide +kernel) rfl rfl (Nat.le_of_ble_eq_true rfl) dX0_init_21 (fun H locs hP hD hS => ?_)
  have hP : va_P dd vwCl [(q, .inr (0, [.int 0, .int 1, .int 0, .int 0, .null, .null, .null]))] H := hP
  have hD : va_D A [(q, .inr (0, [.int 0, .int 1, .int 0, .int 0, .null, .null, .null]))] := hD
  refine lv_aload_n hx hb dX0_init_24 rfl (lv_at hl 0 rfl) ?_
  refine lv_bipush (v := 100) hx hb dX0_init_25 (by decide) ?_
  refine va_newT (atype := .int) (ty := .int) hx hb (hts (.arrayClass .int) (by decide +kernel)) rfl (by decide) hK 0 rfl hP hD hS hA (a0 := (100, .inl (fun _ => 0))) (fun _ => rfl) (by decide) (N' := 100) (by decide) (by decide) (Nat.le_of_ble_eq_true rfl) (Nat.le_of_ble_eq_true rfl) dX0_init_27 (fun a27 H hP hD hS => ?_)
  have hP : va_P dd vwCl [(q, .inr (0, [.int 0, .int 1, .int 0, .int 0, .null, .null, .null])), (a27, .inl (cyI, 100, .inl (fun _ => 0)))] H := hP
  have hD : va_D A [(q, .inr (0, [.int 0, .int 1, .int 0, .int 0, .null, .null, .null])), (a27, .inl (cyI, 100, .inl (fun _ => 0)))] := hD
  refine W.widen (k := 1) (n := 100) (Nat.le_of_ble_eq_true rfl) (Nat.le_of_ble_eq_true rfl) ?_
  refine va_putF (D := dd) (ci := 0) (v := .ref a27) (ty := (.array .int)) (C := RX0) (T := TX0) (N := 7) hx hb hts hiX0 tyX0 tyX0_ok nmX0 hown hK hP hD hS 0 rfl rfl 4 (by decide) (hts (.fieldLink RX0 24 "SliceDrift$Alarms" "stepRows" "[I") (by decide +kernel)) (fun _ h9 => h9) rfl hin rfl (by decide +kernel) rfl rfl (Nat.le_of_ble_eq_true rfl) dX0_init_29 (fun H locs hP hD hS => ?_)
  have hP : va_P dd vwCl [(q, .inr (0, [.int 0, .int 1, .int 0, .int 0, .ref a27, .null, .null])), (a27, .inl (cyI, 100, .inl (fun _ => 0)))] H := hP
  have hD : va_D A [(q, .inr (0, [.int 0, .int 1, .int 0, .int 0, .ref a27, .null, .null])), (a27, .inl (cyI, 100, .inl (fun _ => 0)))] := hD
  refine lv_aload_n hx hb dX0_init_32 rfl (lv_at hl 0 rfl) ?_
  refine lv_bipush (v := 100) hx hb dX0_init_33 (by decide) ?_
  refine va_newT (atype := .boolean) (ty := .boolean) hx hb (hts (.arrayClass .boolean) (by decide +kernel)) rfl (by decide) hK 2 rfl hP hD hS hA (a0 := (100, .inl (fun _ => 0))) (fun _ => rfl) (by decide) (N' := 100) (by decide) (by decide) (Nat.le_of_ble_eq_true rfl) (Nat.le_of_ble_eq_true rfl) dX0_init_35 (fun a35 H hP hD hS => ?_)
  have hP : va_P dd vwCl [(q, .inr (0, [.int 0, .int 1, .int 0, .int 0, .ref a27, .null, .null])), (a27, .inl (cyI, 100, .inl (fun _ => 0))), (a35, .inl (cyZ, 100, .inl (fun _ => 0)))] H := hP
  have hD : va_D A [(q, .inr (0, [.int 0, .int 1, .int 0, .int 0, .ref a27, .null, .null])), (a27, .inl (cyI, 100, .inl (fun _ => 0))), (a35, .inl (cyZ, 100, .inl (fun _ => 0)))] := hD
  refine W.widen (k := 2) (n := 200) (Nat.le_of_ble_eq_true rfl) (Nat.le_of_ble_eq_true rfl) ?_
  refine va_putF (D := dd) (ci := 0) (v := .ref a35) (ty := (.array .boolean)) (C := RX0) (T := TX0) (N := 7) hx hb hts hiX0 tyX0 tyX0_ok nmX0 hown hK hP hD hS 0 rfl rfl 5 (by decide) (hts (.fieldLink RX0 28 "SliceDrift$Alarms" "off" "[Z") (by decide +kernel)) (fun _ h9 => h9) rfl hin rfl (by decide +kernel) rfl rfl (Nat.le_of_ble_eq_true rfl) dX0_init_37 (fun H locs hP hD hS => ?_)
  have hP : va_P dd vwCl [(q, .inr (0, [.int 0, .int 1, .int 0, .int 0, .ref a27, .ref a35, .null])), (a27, .inl (cyI, 100, .inl (fun _ => 0))), (a35, .inl (cyZ, 100, .inl (fun _ => 0)))] H := hP
  have hD : va_D A [(q, .inr (0, [.int 0, .int 1, .int 0, .int 0, .ref a27, .ref a35, .null])), (a27, .inl (cyI, 100, .inl (fun _ => 0))), (a35, .inl (cyZ, 100, .inl (fun _ => 0)))] := hD
  refine lv_aload_n hx hb dX0_init_40 rfl (lv_at hl 0 rfl) ?_
  refine lv_bipush (v := 100) hx hb dX0_init_41 (by decide) ?_
  refine va_newT (atype := .boolean) (ty := .boolean) hx hb (hts (.arrayClass .boolean) (by decide +kernel)) rfl (by decide) hK 2 rfl hP hD hS hA (a0 := (100, .inl (fun _ => 0))) (fun _ => rfl) (by decide) (N' := 100) (by decide) (by decide) (Nat.le_of_ble_eq_true rfl) (Nat.le_of_ble_eq_true rfl) dX0_init_43 (fun a43 H hP hD hS => ?_)
  have hP : va_P dd vwCl [(q, .inr (0, [.int 0, .int 1, .int 0, .int 0, .ref a27, .ref a35, .null])), (a27, .inl (cyI, 100, .inl (fun _ => 0))), (a35, .inl (cyZ, 100, .inl (fun _ => 0))), (a43, .inl (cyZ, 100, .inl (fun _ => 0)))] H := hP
  have hD : va_D A [(q, .inr (0, [.int 0, .int 1, .int 0, .int 0, .ref a27, .ref a35, .null])), (a27, .inl (cyI, 100, .inl (fun _ => 0))), (a35, .inl (cyZ, 100, .inl (fun _ => 0))), (a43, .inl (cyZ, 100, .inl (fun _ => 0)))] := hD
  refine W.widen (k := 3) (n := 300) (Nat.le_of_ble_eq_true rfl) (Nat.le_of_ble_eq_true rfl) ?_
  refine va_putF (D := dd) (ci := 0) (v := .ref a43) (ty := (.array .boolean)) (C := RX0) (T := TX0) (N := 7) hx hb hts hiX0 tyX0 tyX0_ok nmX0 hown hK hP hD hS 0 rfl rfl 6 (by decide) (hts (.fieldLink RX0 32 "SliceDrift$Alarms" "up" "[Z") (by decide +kernel)) (fun _ h9 => h9) rfl hin rfl (by decide +kernel) rfl rfl (Nat.le_of_ble_eq_true rfl) dX0_init_45 (fun H locs hP hD hS => ?_)
  have hP : va_P dd vwCl [(q, .inr (0, [.int 0, .int 1, .int 0, .int 0, .ref a27, .ref a35, .ref a43])), (a27, .inl (cyI, 100, .inl (fun _ => 0))), (a35, .inl (cyZ, 100, .inl (fun _ => 0))), (a43, .inl (cyZ, 100, .inl (fun _ => 0)))] H := hP
  have hD : va_D A [(q, .inr (0, [.int 0, .int 1, .int 0, .int 0, .ref a27, .ref a35, .ref a43])), (a27, .inl (cyI, 100, .inl (fun _ => 0))), (a35, .inl (cyZ, 100, .inl (fun _ => 0))), (a43, .inl (cyZ, 100, .inl (fun _ => 0)))] := hD
  exact ewV (fun k => ([a27, a35, a43] : List Nat).getD k 0) hx hb hr hlocks hAe hS dX0_init_48 trivial (hP.sub [0, 1, 2, 3] rfl) (hD.sub [0, 1, 2, 3] (by decide) rfl)
