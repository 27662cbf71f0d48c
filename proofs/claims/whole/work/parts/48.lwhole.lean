def R_law : String := "SliceDriftLaw"
def lw_P (b : Addr) (xs : List Int32) (args : Array Value) (s : State) : Prop := args = #[.ref b] ∧ s.IntsAt b xs ∧ xs.length ≤ 3584 ∧ (Jvm.Cond.and given_1 narrow_1).before args s = true
def lw_Q (_ : Array Value) (s : State) (o : Outcome) (t : State) : Prop := o = .returned (some (.int 1)) ∧ Framed s o t [] 1067 37472
def lw_Z (below : List Frame) (a : Array Value) (s : State) : State → Prop := fun t => ∃ o, t.status = .running ∧ Ended t below o ∧ lw_Q a s o t
/-- the law's own end, with 1 on the stack, nothing written that was there before, its room as the claim has it -/
theorem lw_ret {p : Program} {l : Launch} {e : Env} {s : State} {m : MethodId} {below : List Frame} {meth : Method} {c : Code} {b : Nat} (hx : p.tables.exec = Jvm.exec) (hb : c.code = code) (hr : meth.sig.returnType = ret) (hlocks : meth.locks = false) {pc : Nat} {H : Heap} {ls : Array Slot} (hdg : decode code pc = .ok (.ireturn, 1)) : W p l e room_1 s m #[Value.ref b] below meth c H [] 1067 37472 (lw_Z below #[Value.ref b] s) (F0 m pc ls [.int 1]) := by
  intro T hT X
  obtain ⟨fs, hret, hrun, hended, hW, hframe⟩ := X.leave (v := some (.int 1)) (hlocks := hlocks) (fun h => by rw [hr] at h; cases h)
  have hmeth' : T.vm.method? m = some meth := X.method'
  refine ⟨T.setFrames fs, ?_, .returned (some (.int 1)), hrun, hended, rfl, ⟨_, rfl⟩, hW, hframe⟩
  jvm_step X.here [X.here.top, hx, hb, hdg, hmeth', hr, ret, narrow_b1]
  (try refine ⟨rfl, ?_⟩); (try refine ⟨rfl, ?_⟩)
  first | (intro acts; rw [hret _ acts rfl rfl rfl]) | rw [hret _ _ rfl rfl rfl]
  exact Steps.refl _
/-- what holds at the law's entry: the machine, the code, the tables' words (any of lw_tbl by 'hts w (by decide +kernel)'), the script of L ints xs at the cell b, what the Statement gives of the start (any of its parts by flat_of_before) -/
def lw_At (p : Program) (s : State) (m : MethodId) (meth : Method) (c : Code) (b L : Nat) (xs : Nat → Int32) : Prop :=
  p.tables.exec = Jvm.exec ∧ c.code = code ∧ meth.sig.returnType = ret ∧ c.maxLocals = 8 ∧ s.vm.findClass R_law = some m.cls ∧ (∀ w ∈ lw_tbl, w.before #[Value.ref b] s = true) ∧ va_X b L xs s s.heap ∧ b < s.heap.size ∧ meth.locks = false ∧ (Jvm.Cond.and given_1 narrow_1).before #[Value.ref b] s = true

set_option maxHeartbeats 4000000 in
set_option maxRecDepth 100000 in
theorem la_turn {p : Program} {l : Launch} {e : Env} {s : State} {m : MethodId} {below : List Frame} {meth : Method} {c : Code} {b L : Nat} {xs : Nat → Int32} {dd : va_G} {cyI cyJ cyZ : ClassId} (C : LC p l s m c b L xs dd cyI cyJ cyZ) {qx qm qo : Nat} {Q : State → Prop} {qr : Nat} {ql : Nat} {qk : Nat} {qa : Nat} {qt : Nat} {qh : Nat} {ql1 : Nat} {ql2 : Nat} {ql3 : Nat} {qk1 : Nat} {qk2 : Nat} {qk3 : Nat} {qa1 : Nat} {qa2 : Nat} {qa3 : Nat} {a : Nat → Nat} {n : Nat} {hi : Int64} {tI : Nat → Int32} {hv : Nat → Int64} {hI : Nat → Int32} {sI : Nat → Int32} {hm : Nat} {Lc : Ls} {mI : Nat → Int64} {fI : Nat → Int32} {gI : Nat → Int32} {e1 : Nat → Int32} {e2 : Nat → Int32} {e3 : Nat → Int32} {e4 : Nat → Int32} {e5 : Nat → Int64} {e6 : Nat → Int32} {e7 : Nat → Int32} {x1 : Int32} {x2 : Int32} {f0 : Nat → Int32} {g0 : Nat → Int32} {w0 : Nat → Int32} {ba : Int32} {le : Int32} {st : Nat} {al : Int32} {r0 : Nat → Int32} {o0 : Nat → Int32} {u0 : Nat → Int32} {th : Int32} {fm : Int32} {sm : Int32} {ab : Int64} {be : Int64} {fA : Nat → Int32} {gA : Nat → Int32} {wA : Nat → Int64} {mA : Nat → Int64} {cA : Nat → Int64} {bA : Nat → Int64} {oA : Nat → Int32} {uM : Nat → Int32} {oM : Nat → Int32} {rM : Nat → Int32} {bM : Nat → Int32} {oF : Nat → Int64} (i : Nat) (H : Heap) (locs : List Loc) (ls : Array Slot) (hiL : 7 * i ≤ L) (hR : RowsOk n hI sI hi hv) (hLs : LstC Lc.2 Lc.1 mI fI gI ∧ LstR hm Lc (e1, e2, e3, e4, e5, e6, e7) ∧ PAll LEn Lc ∧ Lc.1 ≤ 535 ∧ hm < 2 ^ 48) (hWt : st ≤ 100 ∧ ∀ k, k < st → bM k = ba + nI k * le ∧ uM k = u0 k ∧ oM k = o0 k ∧ rM k = r0 k) (hP : va_P dd vwCl [(qx, .inr (4, [.ref qr, .ref ql, .ref qk, .ref qa])), (qr, .inr (2, [.int (nI n), .long hi, .ref qt, .ref qh])), (qt, .inl (cyI, 48, .inl tI)), (qh, .inl (cyJ, 55, .inr (.inl hv))), (ql, .inr (3, [.int (nI Lc.1), .long (lN hm), .ref ql1, .ref ql2, .ref ql3])), (ql1, .inl (cyJ, 535, .inr (.inl mI))), (ql2, .inl (cyI, 535, .inl fI)), (ql3, .inl (cyI, 535, .inl gI)), (qk, .inr (1, [.int x1, .int x2, .ref qk1, .ref qk2, .ref qk3])), (qk1, .inl (cyI, 10, .inl f0)), (qk2, .inl (cyI, 10, .inl g0)), (qk3, .inl (cyI, 4221, .inl w0)), (qa, .inr (0, [.int ba, .int le, .int (nI st), .int al, .ref qa1, .ref qa2, .ref qa3])), (qa1, .inl (cyI, 100, .inl r0)), (qa2, .inl (cyZ, 100, .inl o0)), (qa3, .inl (cyZ, 100, .inl u0)), (qm, .inr (5, mo a th (nI n) (nI Lc.1) fm sm ab be (nI st) al)), (a 2, .inl (cyI, 48, .inl tI)), (a 3, .inl (cyZ, 48, .inl hI)), (a 4, .inl (cyI, 240, .inl sI)), (a 6, .inl (cyI, 700, .inl e1)), (a 7, .inl (cyI, 700, .inl e2)), (a 8, .inl (cyI, 700, .inl e3)), (a 9, .inl (cyI, 700, .inl e4)), (a 10, .inl (cyJ, 700, .inr (.inl e5))), (a 11, .inl (cyI, 700, .inl e6)), (a 12, .inl (cyI, 700, .inl e7)), (a 13, .inl (cyI, 11, .inl fA)), (a 14, .inl (cyI, 11, .inl gA)), (a 19, .inl (cyJ, 8421, .inr (.inl wA))), (a 20, .inl (cyJ, 8421, .inr (.inl mA))), (a 21, .inl (cyJ, 441, .inr (.inl cA))), (a 22, .inl (cyJ, 5, .inr (.inl bA))), (a 23, .inl (cyI, 5, .inl oA)), (a 26, .inl (cyZ, 100, .inl uM)), (a 27, .inl (cyZ, 100, .inl oM)), (a 28, .inl (cyI, 100, .inl rM)), (a 29, .inl (cyI, 100, .inl bM)), (qo, .inl (cyJ, 1, .inr (.inl oF)))] H) (hD : va_D (fun q => s.heap.size ≤ q) [(qx, .inr (4, [.ref qr, .ref ql, .ref qk, .ref qa])), (qr, .inr (2, [.int (nI n), .long hi, .ref qt, .ref qh])), (qt, .inl (cyI, 48, .inl tI)), (qh, .inl (cyJ, 55, .inr (.inl hv))), (ql, .inr (3, [.int (nI Lc.1), .long (lN hm), .ref ql1, .ref ql2, .ref ql3])), (ql1, .inl (cyJ, 535, .inr (.inl mI))), (ql2, .inl (cyI, 535, .inl fI)), (ql3, .inl (cyI, 535, .inl gI)), (qk, .inr (1, [.int x1, .int x2, .ref qk1, .ref qk2, .ref qk3])), (qk1, .inl (cyI, 10, .inl f0)), (qk2, .inl (cyI, 10, .inl g0)), (qk3, .inl (cyI, 4221, .inl w0)), (qa, .inr (0, [.int ba, .int le, .int (nI st), .int al, .ref qa1, .ref qa2, .ref qa3])), (qa1, .inl (cyI, 100, .inl r0)), (qa2, .inl (cyZ, 100, .inl o0)), (qa3, .inl (cyZ, 100, .inl u0)), (qm, .inr (5, mo a th (nI n) (nI Lc.1) fm sm ab be (nI st) al)), (a 2, .inl (cyI, 48, .inl tI)), (a 3, .inl (cyZ, 48, .inl hI)), (a 4, .inl (cyI, 240, .inl sI)), (a 6, .inl (cyI, 700, .inl e1)), (a 7, .inl (cyI, 700, .inl e2)), (a 8, .inl (cyI, 700, .inl e3)), (a 9, .inl (cyI, 700, .inl e4)), (a 10, .inl (cyJ, 700, .inr (.inl e5))), (a 11, .inl (cyI, 700, .inl e6)), (a 12, .inl (cyI, 700, .inl e7)), (a 13, .inl (cyI, 11, .inl fA)), (a 14, .inl (cyI, 11, .inl gA)), (a 19, .inl (cyJ, 8421, .inr (.inl wA))), (a 20, .inl (cyJ, 8421, .inr (.inl mA))), (a 21, .inl (cyJ, 441, .inr (.inl cA))), (a 22, .inl (cyJ, 5, .inr (.inl bA))), (a 23, .inl (cyI, 5, .inl oA)), (a 26, .inl (cyZ, 100, .inl uM)), (a 27, .inl (cyZ, 100, .inl oM)), (a 28, .inl (cyI, 100, .inl rM)), (a 29, .inl (cyI, 100, .inl bM)), (qo, .inl (cyJ, 1, .inr (.inl oF)))]) (hS : va_S (fun q => s.heap.size ≤ q) s.heap H locs) (hl : lv_has ls 8 [(4, .int (nI (7 * i))), (3, .ref qo), (2, .ref qm), (1, .ref qx), (0, .ref b)])
    (ke : L < 7 * i + 7 → W p l e room_1 s m #[Value.ref b] below meth c H locs (39 + i) (29256 + 6 * i) Q (F0 m 1217 ls []))
    (kk : 7 * i + 7 ≤ L → LK p l e s m below meth c b dd cyI cyJ cyZ qx qm qo i (39 + i + 1) (29256 + 6 * i + 6) Q) : W p l e room_1 s m #[Value.ref b] below meth c H locs (39 + i) (29256 + 6 * i) Q (F0 m 23 ls []) := by
  have C1 := C
  obtain ⟨hx, hb, hml, hown, hts, hXs, hbl, hN, hXW, hlt0, hK, hL⟩ := C1
  have hbA : ¬ (fun q => s.heap.size ≤ q) b := Nat.not_le.mpr hbl
  have hc1 : 39 + i + 1 ≤ room_1.cells := by
    show 39 + i + 1 ≤ 1067
    omega
  have hs1 : 29256 + 6 * i + 6 ≤ room_1.slots := by
    show 29256 + 6 * i + 6 ≤ 37472
    omega
  refine lv_iload hx hb dL_law_23 (lv_at hl 0 rfl) ?_
  refine lv_aload_n hx hb dL_law_25 rfl (lv_at hl 4 rfl) ?_
  refine va_slen (A := (fun q => s.heap.size ≤ q)) (H0 := s.heap) hx hb hXs hbl hbA hS dL_law_26 ?_
  refine lv_bipush (v := 7) hx hb dL_law_27 (by decide) ?_
  refine lv_isub hx hb dL_law_29 ?_
  refine lv_icmp_gt (tgt := 1217) hx hb dL_law_30 (by decide) (fun q => ke ((scr_gt hL (by omega)).mp q)) (fun q => ?_)
  have h7 : 7 * i + 7 ≤ L := Nat.not_lt.mp (fun z => q ((scr_gt hL (by omega)).mpr z))
  refine lv_aload_n hx hb dL_law_33 rfl (lv_at hl 4 rfl) ?_
  refine lv_iload hx hb dL_law_34 (lv_at hl 0 rfl) ?_
  refine va_sld (A := (fun q => s.heap.size ≤ q)) (H0 := s.heap) hx hb hXs hbl hbA hS (i := nI (7 * i)) (vp_in_nI (show 7 * i < L by omega) (by omega)) dL_law_36 ?_
  refine lv_bipush (v := 31) hx hb dL_law_37 (by decide) ?_
  refine lv_iand hx hb dL_law_39 ?_
  generalize (xs (nI (7 * i)).toNatClampNeg) &&& 31 = sw
  by_cases sv0 : sw = nI 0
  · refine tpi sv0 ?_
    refine lv_tableIn (off := 88) (tgt := 128) hx hb dL_law_40 (by decide) (by decide) (by decide) (by decide) ?_
    exact la_row C h7 hc1 hs1 hR hLs hWt hP hD hS hl (kk h7)
  by_cases sv1 : sw = nI 1
  · refine tpi sv1 ?_
    refine lv_tableIn (off := 141) (tgt := 181) hx hb dL_law_40 (by decide) (by decide) (by decide) (by decide) ?_
    exact la_put C h7 hc1 hs1 hR hLs hWt hP hD hS hl (kk h7)
  by_cases sv2 : sw = nI 2
  · refine tpi sv2 ?_
    refine lv_tableIn (off := 190) (tgt := 230) hx hb dL_law_40 (by decide) (by decide) (by decide) (by decide) ?_
    exact la_of C h7 hc1 hs1 hR hLs hWt hP hD hS hl (kk h7)
  by_cases sv3 : sw = nI 3
  · refine tpi sv3 ?_
    refine lv_tableIn (off := 227) (tgt := 267) hx hb dL_law_40 (by decide) (by decide) (by decide) (by decide) ?_
    exact la_slices C h7 hc1 hs1 hR hLs hWt hP hD hS hl (kk h7)
  by_cases sv4 : sw = nI 4
  · refine tpi sv4 ?_
    refine lv_tableIn (off := 264) (tgt := 304) hx hb dL_law_40 (by decide) (by decide) (by decide) (by decide) ?_
    exact la_slice C h7 hc1 hs1 hR hLs hWt hP hD hS hl (kk h7)
  by_cases sv5 : sw = nI 5
  · refine tpi sv5 ?_
    refine lv_tableIn (off := 301) (tgt := 341) hx hb dL_law_40 (by decide) (by decide) (by decide) (by decide) ?_
    exact la_member C h7 hc1 hs1 hR hLs hWt hP hD hS hl (kk h7)
  by_cases sv6 : sw = nI 6
  · refine tpi sv6 ?_
    refine lv_tableIn (off := 338) (tgt := 378) hx hb dL_law_40 (by decide) (by decide) (by decide) (by decide) ?_
    exact la_share C h7 hc1 hs1 hR hLs hWt hP hD hS hl (kk h7)
  by_cases sv7 : sw = nI 7
  · refine tpi sv7 ?_
    refine lv_tableIn (off := 388) (tgt := 428) hx hb dL_law_40 (by decide) (by decide) (by decide) (by decide) ?_
    exact la_gap C h7 hc1 hs1 hR hLs hWt hP hD hS hl (kk h7)
  by_cases sv8 : sw = nI 8
  · refine tpi sv8 ?_
    refine lv_tableIn (off := 479) (tgt := 519) hx hb dL_law_40 (by decide) (by decide) (by decide) (by decide) ?_
    exact la_window C h7 hc1 hs1 hR hLs hWt hP hD hS hl (kk h7)
  by_cases sv9 : sw = nI 9
  · refine tpi sv9 ?_
    refine lv_tableIn (off := 516) (tgt := 556) hx hb dL_law_40 (by decide) (by decide) (by decide) (by decide) ?_
    exact la_drift C h7 hc1 hs1 hR hLs hWt hP hD hS hl (kk h7)
  by_cases sv10 : sw = nI 10
  · refine tpi sv10 ?_
    refine lv_tableIn (off := 619) (tgt := 659) hx hb dL_law_40 (by decide) (by decide) (by decide) (by decide) ?_
    exact la_rise C h7 hc1 hs1 hR hLs hWt hP hD hS hl (kk h7)
  by_cases sv11 : sw = nI 11
  · refine tpi sv11 ?_
    refine lv_tableIn (off := 680) (tgt := 720) hx hb dL_law_40 (by decide) (by decide) (by decide) (by decide) ?_
    exact la_odds C h7 hc1 hs1 hR hLs hWt hP hD hS hl (kk h7)
  by_cases sv12 : sw = nI 12
  · refine tpi sv12 ?_
    refine lv_tableIn (off := 754) (tgt := 794) hx hb dL_law_40 (by decide) (by decide) (by decide) (by decide) ?_
    exact la_fresh C h7 hc1 hs1 hR hLs hWt hP hD hS hl (kk h7)
  by_cases sv13 : sw = nI 13
  · refine tpi sv13 ?_
    refine lv_tableIn (off := 827) (tgt := 867) hx hb dL_law_40 (by decide) (by decide) (by decide) (by decide) ?_
    exact la_shift C h7 hc1 hs1 hR hLs hWt hP hD hS hl (kk h7)
  by_cases sv14 : sw = nI 14
  · refine tpi sv14 ?_
    refine lv_tableIn (off := 944) (tgt := 984) hx hb dL_law_40 (by decide) (by decide) (by decide) (by decide) ?_
    exact la_order C h7 hc1 hs1 hR hLs hWt hP hD hS hl (kk h7)
  by_cases sv15 : sw = nI 15
  · refine tpi sv15 ?_
    refine lv_tableIn (off := 1036) (tgt := 1076) hx hb dL_law_40 (by decide) (by decide) (by decide) (by decide) ?_
    exact la_watch C h7 hc1 hs1 hR hLs hWt hP hD hS hl (kk h7)
  by_cases sv16 : sw = nI 16
  · refine tpi sv16 ?_
    refine lv_tableIn (off := 1109) (tgt := 1149) hx hb dL_law_40 (by decide) (by decide) (by decide) (by decide) ?_
    exact la_step C h7 hc1 hs1 hR hLs hWt hP hD hS hl (kk h7)
  by_cases sv17 : sw = nI 17
  · refine tpi sv17 ?_
    refine lv_tableIn (off := 1146) (tgt := 1186) hx hb dL_law_40 (by decide) (by decide) (by decide) (by decide) ?_
    exact la_count C h7 hc1 hs1 hR hLs hWt hP hD hS hl (kk h7)
  have wout : ∀ k, k ≤ 17 → ¬ sw = nI k := fun k hk => by
    rcases (show k = 0 ∨ k = 1 ∨ k = 2 ∨ k = 3 ∨ k = 4 ∨ k = 5 ∨ k = 6 ∨ k = 7 ∨ k = 8 ∨ k = 9 ∨ k = 10 ∨ k = 11 ∨ k = 12 ∨ k = 13 ∨ k = 14 ∨ k = 15 ∨ k = 16 ∨ k = 17 by omega) with rfl | rfl | rfl | rfl | rfl | rfl | rfl | rfl | rfl | rfl | rfl | rfl | rfl | rfl | rfl | rfl | rfl | rfl <;> assumption
  refine lv_tableOut (tgt := 1211) hx hb dL_law_40 (sw_out (N := 17) (by decide) wout) (by decide) ?_
  exact W.widen (k := 39 + i + 1) (n := 29256 + 6 * i + 6) (Nat.le_succ _) (by omega) (kk h7 qr ql qk qa qt qh ql1 ql2 ql3 qk1 qk2 qk3 qa1 qa2 qa3 a n hi tI hv hI sI hm Lc mI fI gI e1 e2 e3 e4 e5 e6 e7 x1 x2 f0 g0 w0 ba le st al r0 o0 u0 th fm sm ab be fA gA wA mA cA bA oA uM oM rM bM oF H locs ls hR hLs hWt hP hD hS hl)

set_option maxHeartbeats 4000000 in
set_option maxRecDepth 100000 in
theorem la_loop {p : Program} {l : Launch} {e : Env} {s : State} {m : MethodId} {below : List Frame} {meth : Method} {c : Code} {b L : Nat} {xs : Nat → Int32} {dd : va_G} {cyI cyJ cyZ : ClassId} (C : LC p l s m c b L xs dd cyI cyJ cyZ) (hr : meth.sig.returnType = ret) (hlocks : meth.locks = false) {qx qm qo : Nat} : ∀ (k i : Nat) (qr : Nat) (ql : Nat) (qk : Nat) (qa : Nat) (qt : Nat) (qh : Nat) (ql1 : Nat) (ql2 : Nat) (ql3 : Nat) (qk1 : Nat) (qk2 : Nat) (qk3 : Nat) (qa1 : Nat) (qa2 : Nat) (qa3 : Nat) (a : Nat → Nat) (n : Nat) (hi : Int64) (tI : Nat → Int32) (hv : Nat → Int64) (hI : Nat → Int32) (sI : Nat → Int32) (hm : Nat) (Lc : Ls) (mI : Nat → Int64) (fI : Nat → Int32) (gI : Nat → Int32) (e1 : Nat → Int32) (e2 : Nat → Int32) (e3 : Nat → Int32) (e4 : Nat → Int32) (e5 : Nat → Int64) (e6 : Nat → Int32) (e7 : Nat → Int32) (x1 : Int32) (x2 : Int32) (f0 : Nat → Int32) (g0 : Nat → Int32) (w0 : Nat → Int32) (ba : Int32) (le : Int32) (st : Nat) (al : Int32) (r0 : Nat → Int32) (o0 : Nat → Int32) (u0 : Nat → Int32) (th : Int32) (fm : Int32) (sm : Int32) (ab : Int64) (be : Int64) (fA : Nat → Int32) (gA : Nat → Int32) (wA : Nat → Int64) (mA : Nat → Int64) (cA : Nat → Int64) (bA : Nat → Int64) (oA : Nat → Int32) (uM : Nat → Int32) (oM : Nat → Int32) (rM : Nat → Int32) (bM : Nat → Int32) (oF : Nat → Int64) (H : Heap) (locs : List Loc) (ls : Array Slot), L < 7 * (i + k) + 7 → 7 * i ≤ L → (RowsOk n hI sI hi hv) → (LstC Lc.2 Lc.1 mI fI gI ∧ LstR hm Lc (e1, e2, e3, e4, e5, e6, e7) ∧ PAll LEn Lc ∧ Lc.1 ≤ 535 ∧ hm < 2 ^ 48) → (st ≤ 100 ∧ ∀ k, k < st → bM k = ba + nI k * le ∧ uM k = u0 k ∧ oM k = o0 k ∧ rM k = r0 k) → (va_P dd vwCl [(qx, .inr (4, [.ref qr, .ref ql, .ref qk, .ref qa])), (qr, .inr (2, [.int (nI n), .long hi, .ref qt, .ref qh])), (qt, .inl (cyI, 48, .inl tI)), (qh, .inl (cyJ, 55, .inr (.inl hv))), (ql, .inr (3, [.int (nI Lc.1), .long (lN hm), .ref ql1, .ref ql2, .ref ql3])), (ql1, .inl (cyJ, 535, .inr (.inl mI))), (ql2, .inl (cyI, 535, .inl fI)), (ql3, .inl (cyI, 535, .inl gI)), (qk, .inr (1, [.int x1, .int x2, .ref qk1, .ref qk2, .ref qk3])), (qk1, .inl (cyI, 10, .inl f0)), (qk2, .inl (cyI, 10, .inl g0)), (qk3, .inl (cyI, 4221, .inl w0)), (qa, .inr (0, [.int ba, .int le, .int (nI st), .int al, .ref qa1, .ref qa2, .ref qa3])), (qa1, .inl (cyI, 100, .inl r0)), (qa2, .inl (cyZ, 100, .inl o0)), (qa3, .inl (cyZ, 100, .inl u0)), (qm, .inr (5, mo a th (nI n) (nI Lc.1) fm sm ab be (nI st) al)), (a 2, .inl (cyI, 48, .inl tI)), (a 3, .inl (cyZ, 48, .inl hI)), (a 4, .inl (cyI, 240, .inl sI)), (a 6, .inl (cyI, 700, .inl e1)), (a 7, .inl (cyI, 700, .inl e2)), (a 8, .inl (cyI, 700, .inl e3)), (a 9, .inl (cyI, 700, .inl e4)), (a 10, .inl (cyJ, 700, .inr (.inl e5))), (a 11, .inl (cyI, 700, .inl e6)), (a 12, .inl (cyI, 700, .inl e7)), (a 13, .inl (cyI, 11, .inl fA)), (a 14, .inl (cyI, 11, .inl gA)), (a 19, .inl (cyJ, 8421, .inr (.inl wA))), (a 20, .inl (cyJ, 8421, .inr (.inl mA))), (a 21, .inl (cyJ, 441, .inr (.inl cA))), (a 22, .inl (cyJ, 5, .inr (.inl bA))), (a 23, .inl (cyI, 5, .inl oA)), (a 26, .inl (cyZ, 100, .inl uM)), (a 27, .inl (cyZ, 100, .inl oM)), (a 28, .inl (cyI, 100, .inl rM)), (a 29, .inl (cyI, 100, .inl bM)), (qo, .inl (cyJ, 1, .inr (.inl oF)))] H) → (va_D (fun q => s.heap.size ≤ q) [(qx, .inr (4, [.ref qr, .ref ql, .ref qk, .ref qa])), (qr, .inr (2, [.int (nI n), .long hi, .ref qt, .ref qh])), (qt, .inl (cyI, 48, .inl tI)), (qh, .inl (cyJ, 55, .inr (.inl hv))), (ql, .inr (3, [.int (nI Lc.1), .long (lN hm), .ref ql1, .ref ql2, .ref ql3])), (ql1, .inl (cyJ, 535, .inr (.inl mI))), (ql2, .inl (cyI, 535, .inl fI)), (ql3, .inl (cyI, 535, .inl gI)), (qk, .inr (1, [.int x1, .int x2, .ref qk1, .ref qk2, .ref qk3])), (qk1, .inl (cyI, 10, .inl f0)), (qk2, .inl (cyI, 10, .inl g0)), (qk3, .inl (cyI, 4221, .inl w0)), (qa, .inr (0, [.int ba, .int le, .int (nI st), .int al, .ref qa1, .ref qa2, .ref qa3])), (qa1, .inl (cyI, 100, .inl r0)), (qa2, .inl (cyZ, 100, .inl o0)), (qa3, .inl (cyZ, 100, .inl u0)), (qm, .inr (5, mo a th (nI n) (nI Lc.1) fm sm ab be (nI st) al)), (a 2, .inl (cyI, 48, .inl tI)), (a 3, .inl (cyZ, 48, .inl hI)), (a 4, .inl (cyI, 240, .inl sI)), (a 6, .inl (cyI, 700, .inl e1)), (a 7, .inl (cyI, 700, .inl e2)), (a 8, .inl (cyI, 700, .inl e3)), (a 9, .inl (cyI, 700, .inl e4)), (a 10, .inl (cyJ, 700, .inr (.inl e5))), (a 11, .inl (cyI, 700, .inl e6)), (a 12, .inl (cyI, 700, .inl e7)), (a 13, .inl (cyI, 11, .inl fA)), (a 14, .inl (cyI, 11, .inl gA)), (a 19, .inl (cyJ, 8421, .inr (.inl wA))), (a 20, .inl (cyJ, 8421, .inr (.inl mA))), (a 21, .inl (cyJ, 441, .inr (.inl cA))), (a 22, .inl (cyJ, 5, .inr (.inl bA))), (a 23, .inl (cyI, 5, .inl oA)), (a 26, .inl (cyZ, 100, .inl uM)), (a 27, .inl (cyZ, 100, .inl oM)), (a 28, .inl (cyI, 100, .inl rM)), (a 29, .inl (cyI, 100, .inl bM)), (qo, .inl (cyJ, 1, .inr (.inl oF)))]) → (va_S (fun q => s.heap.size ≤ q) s.heap H locs) → (lv_has ls 8 [(4, .int (nI (7 * i))), (3, .ref qo), (2, .ref qm), (1, .ref qx), (0, .ref b)]) → W p l e room_1 s m #[Value.ref b] below meth c H locs (39 + i) (29256 + 6 * i) (lw_Z below #[Value.ref b] s) (F0 m 23 ls []) := by
  have C1 := C
  obtain ⟨hx, hb, hml, hown, hts, hXs, hbl, hN, hXW, hlt0, hK, hL⟩ := C1
  have hend : ∀ (i : Nat) (H : Heap) (locs : List Loc) (ls : Array Slot), 7 * i ≤ L → va_S (fun q => s.heap.size ≤ q) s.heap H locs → W p l e room_1 s m #[Value.ref b] below meth c H locs (39 + i) (29256 + 6 * i) (lw_Z below #[Value.ref b] s) (F0 m 1217 ls []) := by
    intro i H locs ls hiL hS
    refine lv_iconst (v := 1) hx hb dL_law_1217 (by decide) ?_
    refine va_forget (fun q hq => hS.2.2 q hq) ?_
    refine W.widen (k := 1067) (n := 37472) (by omega) (by omega) ?_
    exact lw_ret hx hb hr hlocks dL_law_1218
  intro k
  induction k with
  | zero =>
    intro i qr ql qk qa qt qh ql1 ql2 ql3 qk1 qk2 qk3 qa1 qa2 qa3 a n hi tI hv hI sI hm Lc mI fI gI e1 e2 e3 e4 e5 e6 e7 x1 x2 f0 g0 w0 ba le st al r0 o0 u0 th fm sm ab be fA gA wA mA cA bA oA uM oM rM bM oF H locs ls h1 h2 hR hLs hWt hP hD hS hl
    exact la_turn C i H locs ls h2 hR hLs hWt hP hD hS hl (fun _ => hend i H locs ls h2 hS) (fun h => absurd h (by omega))
  | succ k ih =>
    intro i qr ql qk qa qt qh ql1 ql2 ql3 qk1 qk2 qk3 qa1 qa2 qa3 a n hi tI hv hI sI hm Lc mI fI gI e1 e2 e3 e4 e5 e6 e7 x1 x2 f0 g0 w0 ba le st al r0 o0 u0 th fm sm ab be fA gA wA mA cA bA oA uM oM rM bM oF H locs ls h1 h2 hR hLs hWt hP hD hS hl
    refine la_turn C i H locs ls h2 hR hLs hWt hP hD hS hl (fun _ => hend i H locs ls h2 hS) (fun h7 => ?_)
    clear hR hLs hWt hP hD hS hl
    unfold LK
    intro qr ql qk qa qt qh ql1 ql2 ql3 qk1 qk2 qk3 qa1 qa2 qa3 a n hi tI hv hI sI hm Lc mI fI gI e1 e2 e3 e4 e5 e6 e7 x1 x2 f0 g0 w0 ba le st al r0 o0 u0 th fm sm ab be fA gA wA mA cA bA oA uM oM rM bM oF H1 locs1 ls1 hR hLs hWt hP hD hS hl
    refine lv_iinc (v := nI (7 * (i + 1))) (lv' := [(4, .int (nI (7 * (i + 1)))), (3, .ref qo), (2, .ref qm), (1, .ref qx), (0, .ref b)]) hx hb dL_law_1211 hl (k := 0) rfl (by rw [show (7 * (i + 1)) = 7 * i + 7 from by omega]; exact nI_add (7 * i) 7) (by decide) rfl (fun ls hl => ?_)
    refine lv_goto (tgt := 23) hx hb dL_law_1214 (by decide) ?_
    refine W.widen (k := 39 + (i + 1)) (n := 29256 + 6 * (i + 1)) (by omega) (by omega) ?_
    exact ih (i + 1) qr ql qk qa qt qh ql1 ql2 ql3 qk1 qk2 qk3 qa1 qa2 qa3 a n hi tI hv hI sI hm Lc mI fI gI e1 e2 e3 e4 e5 e6 e7 x1 x2 f0 g0 w0 ba le st al r0 o0 u0 th fm sm ab be fA gA wA mA cA bA oA uM oM rM bM oF H1 locs1 ls (by omega) (by omega) hR hLs hWt hP hD hS (lv_sub hl [0, 1, 2, 3, 4] rfl)

theorem nwm_in : ∀ q ∈ nwM, Cond.methodLinkNest q.1 q.2.1 q.2.2.1 q.2.2.2 ∈ lw_tbl := by decide +kernel
theorem nwf_in : ∀ q ∈ nwF, Cond.fieldLinkNest q.1 q.2.1 q.2.2.1 q.2.2.2.1 q.2.2.2.2.1 q.2.2.2.2.2 ∈ lw_tbl := by decide +kernel
theorem nw_start {s : State} {args : Array Value} (hts : ∀ w ∈ lw_tbl, w.before args s = true) : NW s := ⟨fun q hq => va_Nw.of rfl (hts _ (nwm_in q hq)), fun q hq => va_Nw.of rfl (hts _ (nwf_in q hq))⟩
theorem str_ref {s : State} {args : Array Value} {t : Term} (h : (Cond.exactly t "java/lang/String").before args s = true) : ∃ a, t.eval args s none [] s = some (.ref a) := by
  obtain ⟨a, c, cA, kA, q1, q2, q3, q4, q5, q6, -⟩ := Cond.exactly_spec (args := args) (first := s) (o := none) (s := s) (idx := []) (t := t) (cls := "java/lang/String") h
  exact ⟨a, q1⟩
theorem xw_start {s : State} {args : Array Value} (hts : ∀ w ∈ lw_tbl, w.before args s = true) (hgv : (Jvm.Cond.and given_1 narrow_1).before args s = true) : XW s := by
  have hs := flat_of_before _ hgv
  have hA : ∀ a : Nat, a < s.heap.size → ¬ (fun q => s.heap.size ≤ q) a := fun a h => Nat.not_le.mpr h
  obtain ⟨a, ha⟩ := str_ref (hs (.exactly (.string RX4 135) "java/lang/String") (by decide +kernel))
  obtain ⟨b, hb⟩ := str_ref (hs (.exactly (.string RX4 146) "java/lang/String") (by decide +kernel))
  obtain ⟨c, hc⟩ := str_ref (hs (.exactly (.string RX4 178) "java/lang/String") (by decide +kernel))
  refine ⟨⟨va_Nw.of rfl (hts _ (by decide +kernel)), va_Nw.of rfl (hts _ (by decide +kernel)), va_Nw.of rfl (hts _ (by decide +kernel)), va_Nw.of rfl (hts _ (by decide +kernel))⟩, ⟨a, b, c, vk_R.of (hts _ (by decide +kernel)) ha, vk_R.of (hts _ (by decide +kernel)) hb, vk_R.of (hts _ (by decide +kernel)) hc⟩, ?_, ?_⟩
  · exact vx_Zqof (hts _ (by decide +kernel)) (hts _ (by decide +kernel)) (hs _ (by decide +kernel)) hA
  · exact vx_Zqof (hts _ (by decide +kernel)) (hts _ (by decide +kernel)) (hs _ (by decide +kernel)) hA
theorem arr_known {s : State} {args : Array Value} {ty : FieldType} (hp : ty = .int ∨ ty = .long ∨ ty = .boolean) (h : (Cond.arrayClass ty).before args s = true) : ∃ cA, ArrOfT s cA ty ∧ va_RA s cA ty := by
  obtain ⟨cA, kA, comp, hfind, hk, hkind⟩ := Cond.arrayClass_spec h
  refine ⟨cA, fun n z => ⟨fun k h => (by cases h), kA, hk, comp, hkind⟩, ?_⟩
  rcases hp with rfl | rfl | rfl <;> exact hfind
theorem kn_start {s : State} {args : Array Value} (hts : ∀ w ∈ lw_tbl, w.before args s = true) : ∃ (dd : va_G) (cyI cyJ cyZ : ClassId), va_K dd vwCl [(cyI, .int), (cyJ, .long), (cyZ, .boolean)] s := by
  obtain ⟨c0, i0, k0⟩ := u_known (C := RX0) (T := TX0) (N := 7) (n := 7) hts inX0 (hts (.instantiable RX0 7) (by decide +kernel))
  obtain ⟨c1, i1, k1⟩ := u_known (C := RX1) (T := TX1) (N := 5) (n := 5) hts inX1 (hts (.instantiable RX1 5) (by decide +kernel))
  obtain ⟨c2, i2, k2⟩ := u_known (C := RX2) (T := TX2) (N := 4) (n := 4) hts inX2 (hts (.instantiable RX2 4) (by decide +kernel))
  obtain ⟨c3, i3, k3⟩ := u_known (C := RX3) (T := TX3) (N := 5) (n := 5) hts inX3 (hts (.instantiable RX3 5) (by decide +kernel))
  obtain ⟨c4, i4, k4⟩ := u_known (C := RX4) (T := TX4) (N := 4) (n := 4) hts inX4 (hts (.instantiable RX4 4) (by decide +kernel))
  obtain ⟨c5, i5, k5⟩ := u_known (C := RX5) (T := TX5) (N := 30) (n := 30) hts inX5 (hts (.instantiable RX5 30) (by decide +kernel))
  obtain ⟨cI, hI1, hI2⟩ := arr_known (ty := .int) (Or.inl rfl) (hts (.arrayClass .int) (by decide +kernel))
  obtain ⟨cJ, hJ1, hJ2⟩ := arr_known (ty := .long) (Or.inr (Or.inl rfl)) (hts (.arrayClass .long) (by decide +kernel))
  obtain ⟨cZ, hZ1, hZ2⟩ := arr_known (ty := .boolean) (Or.inr (Or.inr rfl)) (hts (.arrayClass .boolean) (by decide +kernel))
  refine ⟨(fun k => if k = 0 then c0 else if k = 1 then c1 else if k = 2 then c2 else if k = 3 then c3 else if k = 4 then c4 else c5, fun k => if k = 0 then i0 else if k = 1 then i1 else if k = 2 then i2 else if k = 3 then i3 else if k = 4 then i4 else i5), cI, cJ, cZ, ?_, ?_⟩
  · intro k q hq
    match k, hq with
    | 0, hq => cases hq; exact k0
    | 1, hq => cases hq; exact k1
    | 2, hq => cases hq; exact k2
    | 3, hq => cases hq; exact k3
    | 4, hq => cases hq; exact k4
    | 5, hq => cases hq; exact k5
    | k + 6, hq => simp [vwCl] at hq
  · intro k q hq
    match k, hq with
    | 0, hq => cases hq; exact ⟨hI1, hI2⟩
    | 1, hq => cases hq; exact ⟨hJ1, hJ2⟩
    | 2, hq => cases hq; exact ⟨hZ1, hZ2⟩
    | k + 3, hq => simp at hq
theorem rows_0 : RowsOk 0 (fun _ => 0) (fun _ => 0) 0 (fun _ => 0) := ⟨by decide, rfl, fun _ _ _ _ => rfl, fun i h => absurd h (Nat.not_lt_zero i), fun i h => absurd h (Nat.not_lt_zero i)⟩
theorem lw_0 : LstC L0.2 L0.1 (fun _ => 0) (fun _ => 0) (fun _ => 0) ∧ LstR 0 L0 (fun _ => 0, fun _ => 0, fun _ => 0, fun _ => 0, fun _ => 0, fun _ => 0, fun _ => 0) ∧ PAll LEn L0 ∧ L0.1 ≤ 535 ∧ 0 < 2 ^ 48 := ⟨fun j h => absurd h (Nat.not_lt_zero j), fun j h => absurd h (Nat.not_lt_zero j), fun j h => absurd h (Nat.not_lt_zero j), Nat.zero_le _, by decide⟩
