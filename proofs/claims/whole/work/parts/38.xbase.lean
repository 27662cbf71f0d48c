/-! ===== methods that throw ===== -/
abbrev AEx : String := "java/lang/ArithmeticException"
abbrev AEn : List String := ["java/lang/RuntimeException", "java/lang/Exception"]
abbrev xB : List Cond := [.declares (Bundle.initS "java/lang/RuntimeException"), .declares (Bundle.initS "java/lang/Exception"), .declares (Bundle.initS Bundle.tN), .castable AEx AEx]
/-- what a throw needs of the state beside the tables' words -/
def XW (U : State) : Prop := (va_Nw (.declares (Bundle.initS "java/lang/RuntimeException")) U ∧ va_Nw (.declares (Bundle.initS "java/lang/Exception")) U ∧ va_Nw (.declares (Bundle.initS Bundle.tN)) U ∧ va_Nw (.castable AEx AEx) U) ∧ (∃ a b c, vk_R RX4 135 "no rows of a sort" a U ∧ vk_R RX4 146 "a window has no rows" b U ∧ vk_R RX4 178 "a share has no rows" c U) ∧ vx_Zq Bundle.tN "UNASSIGNED_STACK" Bundle.steD (fun q => U.heap.size ≤ q) U U.heap ∧ vx_Zq Bundle.tN "SUPPRESSED_SENTINEL" Bundle.listD (fun q => U.heap.size ≤ q) U U.heap
theorem XW.go {s U : State} {H : Heap} {locs : List Loc} (h : XW s) (hS : va_S (fun q => s.heap.size ≤ q) s.heap H locs) (hU : U.heap = H) (hW : s.WarmedH U.vm) : XW U := by
  obtain ⟨⟨w1, w2, w3, w4⟩, ⟨a, b, c, s1, s2, s3⟩, z1, z2⟩ := h
  have hz : ∀ q, U.heap.size ≤ q → s.heap.size ≤ q := fun q hq => by
    rw [hU] at hq
    exact Nat.le_trans hS.1 hq
  refine ⟨⟨w1.warmD hW, w2.warmD hW, w3.warmD hW, w4.warmC hW⟩, ⟨a, b, c, vk_R.warm hW s1, vk_R.warm hW s2, vk_R.warm hW s3⟩, ?_, ?_⟩
  · have k := ((z1.kept hS.2.1).moved hW.alike).narrow hz
    rw [← hU] at k
    exact k
  · have k := ((z2.kept hS.2.1).moved hW.alike).narrow hz
    rw [← hU] at k
    exact k
/-- what a method that may throw starts from -/
def Xr (dd : va_G) (tys : List (ClassId × FieldType)) (ws : va_W) (sz : Nat) (U : State) : Prop := U.heap.size = sz ∧ NW U ∧ XW U ∧ va_P dd vwCl ws U.heap ∧ va_K dd vwCl tys U
theorem Xr.blind {As : List Value} {dd : va_G} {tys : List (ClassId × FieldType)} {ws : va_W} {sz : Nat} : FrameBlind (va_Pc As (Xr dd tys ws sz)) := by
  intro a U g mk q
  obtain ⟨q0, q1, qN, qX, qP, qK⟩ := q
  exact ⟨q0, q1, NW.same (u := U) rfl qN, XW.go (s := U) (U := U.calling g mk a) (locs := []) qX va_S.rf rfl (State.WarmedH.refl U), qP, va_K.moved (u := U) (U := U.calling g mk a) (Vm.Alike.refl U.vm) qK⟩
abbrev xQl (sz : Nat) (post : Int64 → Prop) : Array Value → State → Outcome → State → Prop := va_Ql (S := Unit) (fun r _ => post r) (fun _ _ => True) (fun q => sz ≤ q)
abbrev xQi (sz : Nat) (post : Int32 → Prop) : Array Value → State → Outcome → State → Prop := va_Qi (S := Unit) (fun r _ => post r) (fun _ _ => True) (fun q => sz ≤ q)
abbrev xXC (sz : Nat) (X : Prop) : String → State → State → Prop := vx_X (S := Unit) (fun _ => X) (fun E _ _ => E = AEx) (fun q => sz ≤ q)
theorem mkX {l : Launch} {y : MethodName} {wsy ws' : List Cond} {rm : Room} {As : List Value} {dd : va_G} {tys : List (ClassId × FieldType)} {ws : va_W} {sz mc ms : Nat} {free : Addr → Prop} {Qc : Array Value → State → Outcome → State → Prop} {XC : String → State → State → Prop} {cc : ByteArray} {maxL : Nat} {ret : Option FieldType} {lv0 : List (Nat × Value)}
    (hy : plainName y.cls = true) (hw : wsy = .code y cc maxL ret :: ws') (hlv : (lg_sl As).length ≤ maxL) (hl0 : lv_args 0 As = lv0)
    (body : ∀ (p : Program) (e : Env) (s : State) (m : MethodId) (below : List Frame) (meth : Method) (c : Code) (ls : Array Slot), p.tables.exec = Jvm.exec → c.code = cc → meth.sig.returnType = ret → c.maxLocals = maxL → s.vm.findClass y.cls = some m.cls → meth.locks = false → (∀ w ∈ wsy, w.before As.toArray s = true) → (∀ x ∈ c.exceptionTable.toList, False) → NW s → XW s → va_P dd vwCl ws s.heap → va_K dd vwCl tys s → s.heap.size = sz → lv_has ls maxL lv0 →
      W p l e rm s m As.toArray below meth c s.heap [] 0 0 (vx_MQ below Qc XC As.toArray s mc ms free) (F0 m 0 ls [])) : vx_Met l y wsy rm (va_Pc As (Xr dd tys ws sz)) Qc XC mc ms free := by
  refine vx_ofW (cc := cc) (maxL := maxL) (ret := ret) hy hw ?_
  intro p e s m args below meth c s₁ B hml htab hv
  obtain ⟨rfl, hsz, hN, hX, hP, hK⟩ := hv
  have hl := lv_entry As (n := maxL) hlv
  rw [lg_entry_eq]
  rw [hl0] at hl
  exact body p e s m below meth c _ B.exec B.bytes B.returns hml (findClass_of_methodNamed B.named) B.notSynchronized (atoms_spec (ws := wsy) B.pre) htab hN hX hP hK hsz hl
theorem xgood : ∀ w ∈ Cond.classLink RX4 133 AEx :: Cond.initialized AEx :: vx_atS RX4 137 AEx AEn, vx_ot w = true := by decide +kernel
theorem xbad : ∀ w ∈ (vx_atS RX4 137 AEx AEn).filter (fun w => !goodWord w), w ∈ xB := by decide +kernel
section XEN
variable {p : Program} {l : Launch} {e : Env} {R : Room} {s : State} {m : MethodId} {args : Array Value} {below : List Frame} {meth : Method} {c : Code} {pc : Nat} {ls : Array Slot} {cc : ByteArray} {sz : Nat} {X : Prop}
theorem exL {post : Int64 → Prop} {v : Int64} {XC : String → State → State → Prop} (hexec : p.tables.exec = Jvm.exec) (hb : c.code = cc) (hr : meth.sig.returnType = some .long) (hlocks : meth.locks = false) (hdg : decode cc pc = .ok (.lreturn, 1)) (hq : post v) : W p l e R s m args below meth c s.heap [] 0 0 (vx_MQ below (xQl sz post) XC args s 1 6 (fun q => sz ≤ q)) (F0 m pc ls [.long v]) :=
  W.widen (k := 1) (n := 6) (by decide) (by decide) (vx_ret (W.lret hexec hb hr (fun t ht _ => ⟨⟨v, (), rfl, hq, trivial⟩, (va_S.rf (A := fun q => sz ≤ q) (H0 := s.heap)).F ht⟩) (fun _ h => nomatch h) hdg hlocks))
theorem exI {post : Int32 → Prop} {v : Int32} {XC : String → State → State → Prop} (hexec : p.tables.exec = Jvm.exec) (hb : c.code = cc) (hr : meth.sig.returnType = some .int) (hlocks : meth.locks = false) (hdg : decode cc pc = .ok (.ireturn, 1)) (hq : post v) : W p l e R s m args below meth c s.heap [] 0 0 (vx_MQ below (xQi sz post) XC args s 1 6 (fun q => sz ≤ q)) (F0 m pc ls [.int v]) :=
  W.widen (k := 1) (n := 6) (by decide) (by decide) (vx_ret (W.iret hexec hb hr (fun t ht _ => ⟨⟨v, (), rfl, hq, trivial⟩, (va_S.rf (A := fun q => sz ≤ q) (H0 := s.heap)).F ht⟩) (fun _ h => nomatch h) hdg hlocks))
/-- 'throw new ArithmeticException(text)' -/
theorem exT {Qc : Array Value → State → Outcome → State → Prop} (hexec : p.tables.exec = Jvm.exec) (hb : c.code = cc) (hl : l.stackTraces = false) (hlocks : meth.locks = false) (hown : s.vm.findClass RX4 = some m.cls) (hk : (Cond.classLink RX4 133 AEx).before args s = true) (hini : (Cond.initialized AEx).before args s = true) (hat : ∀ w ∈ (vx_atS RX4 137 AEx AEn).filter goodWord, w.before args s = true)
    (hX : XW s) (htab : ∀ x ∈ c.exceptionTable.toList, False) (hsize : ls.size = c.maxLocals) {text : String} {is sa : Nat} (hstr : vk_R RX4 is text sa s)
    (d0 : decode cc pc = .ok (.new 133, 3)) (d3 : decode cc (pc + 3) = .ok (.dup, 1)) (d4 : decode cc (pc + 4) = .ok (.ldc is, 2)) (d6 : decode cc (pc + 6) = .ok (.invokespecial 137, 3)) (d9 : decode cc (pc + 9) = .ok (.athrow, 1))
    (hR : 5 < R.frames ∧ 82 ≤ R.locals ∧ 1 ≤ R.cells ∧ 6 ≤ R.slots) (hx : X) : W p l e R s m args below meth c s.heap [] 0 0 (vx_MQ below Qc (xXC sz X) args s 1 6 (fun q => sz ≤ q)) (F0 m pc ls []) := by
  obtain ⟨⟨w1, w2, w3, w4⟩, -, z1, z2⟩ := hX
  exact vx_throwS hexec hb hl hown (by decide +kernel) (by decide +kernel) hk hini hstr
    (vx_hat hat xbad (vx_c (w1.use rfl) (vx_c (w2.use rfl) (vx_c (w3.use rfl) (vx_c (w4.use rfl) vx_n))))) xgood z1 z2 (va_S.rf (A := fun q => s.heap.size ≤ q)) hsize d0 d3 d4 d6 d9 (fun x h => absurd h (fun h => htab x h)) hR.1 hR.2.1 (by have := hR.2.2.1; omega) (by have := hR.2.2.2; omega) hlocks
    (fun t _ h1 h2 => ⟨(), hx, rfl, h1, fun q hq _ => h2 q hq⟩) (fun _ h => nomatch h) (by decide) (by decide)
end XEN
/-! ===== signed ints ===== -/
theorem isub_of (a b : Nat) : nI a - nI b = Int32.ofInt ((a : Int) - (b : Int)) := by
  show Int32.ofNat a - Int32.ofNat b = _
  rw [Int32.ofInt_sub]
  rfl
theorem imul_of (z : Int) (v : Nat) : Int32.ofInt z * nI v = Int32.ofInt (z * (v : Int)) := by
  rw [Int32.ofInt_mul]
  rfl
theorem iI_l {z : Int} (h : z.natAbs < 2 ^ 31) : (Int32.ofInt z).toInt64 = lI z := by
  apply Int64.toInt_inj.mp
  rw [Int32.toInt_toInt64, Int32.toInt_ofInt_of_le (by omega) (by omega), lI_toInt (by omega)]
theorem iI_0 {z : Int} (h : z.natAbs < 2 ^ 31) : Int32.ofInt z = 0 ↔ z = 0 := by
  constructor
  · intro q
    have : (Int32.ofInt z).toInt = (0 : Int32).toInt := by rw [q]
    rw [Int32.toInt_ofInt_of_le (by omega) (by omega)] at this
    exact this
  · intro q
    rw [q]
    rfl
