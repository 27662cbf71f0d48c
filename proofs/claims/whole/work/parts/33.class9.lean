section CLS
variable {p : Program} {l : Launch} {e : Env} {R : Room} {s : State} {m : MethodId} {args : Array Value} {below : List Frame} {meth : Method} {c : Code} {H : Heap} {locs : List Loc} {cells slots : Nat} {Q : State → Prop}
variable {pc : Nat} {ls : Array Slot} {rest st0 : List Value}
variable {y : MethodName} {bytes cc : ByteArray} {maxL nL n index mc ms : Nat} {ret : Option FieldType} {wsy wsy' Ts : List Cond} {rm : Room} {own : String} {As : List Value} {dd : va_G} {tys : List (ClassId × FieldType)} {ws wc wr : va_W} {A0 : Nat → Prop} {H0 : Heap}
/-- a static writer -/
theorem clSwv {S : Type} {post : S → Prop} {wf : S → va_W} (S0 : CallFix p m c cc nL s args Ts own) (hM : ∀ sz, Met l y wsy rm (va_Pc As (Wr dd tys wc sz)) (va_Qv post (WQ dd wc sz wf) (va_A wc sz)) mc ms (va_A wc sz)) (hG : GoodIn Ts (va_wsS own index y wsy)) (hw : wsy = Cond.code y bytes maxL ret :: wsy') (hrm : rm.cells = mc ∧ rm.slots = ms)
    (hd : y.cls ≠ "java/lang/invoke/MethodHandle" ∧ y.cls ≠ "java/lang/invoke/VarHandle" ∧ (parseMethodDescriptor y.desc).map (fun d => d.parameters.length) = some n) (hR : rm.frames + 1 ≤ R.frames ∧ 8 + (maxL + 11) + rm.locals ≤ R.locals) (hN : NW s) (hK : va_K dd vwCl tys s) (hP : va_P dd vwCl ws H) (hD : va_D A0 ws) (hS : va_S A0 H0 H locs) (hA : ∀ q, H0.size ≤ q → A0 q)
    (isC isR : List Nat) (hC : isC.map (fun i => ws[i]?) = wc.map some) (hC2 : isC.filterMap (fun i => ws[i]?) = wc) (hnC : va_nd isC = true) (hRr : isR.map (fun i => ws[i]?) = wr.map some) (hnd : va_nd isR = true) (hdis : ∀ i ∈ isR, i ∉ isC)
    (hn : As.length = n) (hsz : ls.size = nL) (hst : st0 = As.reverse ++ rest) (hW : (rest.map fun v => v.category).sum ≤ 8) (hdg : decode cc pc = .ok (.invokestatic index, 3)) (hf : cells + mc ≤ R.cells ∧ slots + ms ≤ R.slots)
    (kk : ∀ (u : S) (H1 : Heap) (locs1 : List Loc), post u → va_P dd vwCl (wr ++ wf u) H1 → va_D A0 (wr ++ wf u) → va_S A0 H0 H1 locs1 → W p l e R s m args below meth c H1 locs1 (cells + mc) (slots + ms) Q (F0 m (pc + 3) ls rest)) : W p l e R s m args below meth c H locs cells slots Q (F0 m pc ls st0) := by
  have hPc := hP.sub isC hC2
  have hDc := hD.sub isC hnC hC
  have hFc := va_free hD hS hA isC hC
  refine va_callv (va_runS (As := As) (rest := rest) S0 (hM H.size) (va_cwS n S0.2.2.2.2 hG hw hrm.1 hrm.2 hd hR) ⟨Wr.blind, fun U hU hW => ⟨rfl, by rw [hU], hN.warm hW, by rw [hU]; exact hPc, va_K.moved hW.alike hK, hDc.weaken (fun _ _ _ _ => trivial)⟩⟩ rfl hn hsz hst (lv_room hW) hdg hf) hS (fun q _ h => hFc q h) hFc (fun u t H1 locs1 ht hvm hw hB hz1 hk1 hS1 => ?_)
  obtain ⟨hP1, hD1⟩ := hB
  rw [ht] at hP1
  obtain ⟨hP2, hD2⟩ := va_join (wr := wr) (w1 := wf u) hP hD isC isR hC hRr hnd hdis hk1 hFc hP1 hD1
  exact kk u H1 locs1 hw hP2 hD2 hS1
end CLS

set_option maxHeartbeats 4000000 in
set_option maxRecDepth 100000 in
theorem c_fill (l : Launch) (dd : va_G) (cyI cyJ cyZ : ClassId) (qw : Nat) (wI : Nat → Int32) (sz : Nat) : Met l yJ7_fill_53178 wsJ7_fill_53178 ({ frames := 0, cells := 0, slots := 0, locals := 0 } : Room) (va_Pc [.ref qw, .int 0] (Wr dd [(cyI, .int), (cyJ, .long), (cyZ, .boolean)] [(qw, .inl (cyI, 4221, .inl wI))] sz)) (va_Qv (S := (Nat → Int32)) (fun (u : Nat → Int32) => ∀ j, j < 4221 → u j = 0) (WQ dd [(qw, .inl (cyI, 4221, .inl wI))] sz (fun u => [(qw, .inl (cyI, 4221, .inl u))])) (va_A [(qw, .inl (cyI, 4221, .inl wI))] sz)) 0 0 (va_A [(qw, .inl (cyI, 4221, .inl wI))] sz) := by
  refine mkW (Qc := fun A => (va_Qv (S := (Nat → Int32)) (fun (u : Nat → Int32) => ∀ j, j < 4221 → u j = 0) (WQ dd [(qw, .inl (cyI, 4221, .inl wI))] sz (fun u => [(qw, .inl (cyI, 4221, .inl u))])) A)) (cc := cJ7_fill_53178) (maxL := 4) (by decide) rfl (Nat.le_of_ble_eq_true rfl) (lv0 := [(0, .ref qw), (1, .int 0)]) rfl ?_
  intro p e s m below meth c ls H A hx hb hr hml hown hlocks hts hmn hN hP hK hD hS hA hAe hl
  have hown : s.vm.findClass RJ7 = some m.cls := hown
  refine lv_iconst (v := 0) hx hb dJ7_fill_53178_0 (by decide) ?_
  refine lv_istore_n (lv' := [(2, .int 0), (0, .ref qw), (1, .int 0)]) hx hb dJ7_fill_53178_1 rfl hl (by decide) rfl (fun ls hl => ?_)
  refine lv_aload_n hx hb dJ7_fill_53178_2 rfl (lv_at hl 1 rfl) ?_
  refine va_alen hx hb hK hP 0 0 rfl rfl (v := nI 4221) rfl dJ7_fill_53178_3 ?_
  refine lv_istore_n (lv' := [(3, .int (nI 4221)), (2, .int 0), (0, .ref qw), (1, .int 0)]) hx hb dJ7_fill_53178_4 rfl hl (by decide) rfl (fun ls hl => ?_)
  have loop : ∀ (k : Nat) (j : Nat) (wB : Nat → Int32) (H : Heap) (locs : List Loc), j + k = 4221 → (∀ i, i < j → wB i = 0) → va_P dd vwCl [(qw, .inl (cyI, 4221, .inl wB))] H → va_D A [(qw, .inl (cyI, 4221, .inl wB))] → va_S A s.heap H locs → ∀ ls : Array Slot, lv_has ls 4 [(3, .int (nI 4221)), (2, .int (nI j)), (0, .ref qw), (1, .int 0)] → W p l e ({ frames := 0, cells := 0, slots := 0, locals := 0 } : Room) s m ([.ref qw, .int 0] : List Value).toArray below meth c H locs 0 0 (MQ below (va_Qv (S := (Nat → Int32)) (fun (u : Nat → Int32) => ∀ j, j < 4221 → u j = 0) (WQ dd [(qw, .inl (cyI, 4221, .inl wI))] sz (fun u => [(qw, .inl (cyI, 4221, .inl u))])) A) ([.ref qw, .int 0] : List Value).toArray s 0 0 A) (F0 m 5 ls []) := by
    intro k
    induction k with
    | zero =>
      intro j wB H locs hj9 hu hP hD hS ls hl
      refine lv_iload_n hx hb dJ7_fill_53178_5 rfl (lv_at hl 1 rfl) ?_
      refine lv_iload_n hx hb dJ7_fill_53178_6 rfl (lv_at hl 0 rfl) ?_
      refine lv_icmp_ge (tgt := 20) hx hb dJ7_fill_53178_7 (by decide) (fun q => ?_) (fun q => ?_)
      · exact ewV wB hx hb hr hlocks hAe hS dJ7_fill_53178_20 (fun i hi => hu i (by omega)) (hP.sub [0] rfl) (hD.sub [0] (by decide) rfl)
      · exact absurd (nI_le (show 4221 ≤ j by omega) (by omega)) q
    | succ k ih =>
      intro j wB H locs hj9 hu hP hD hS ls hl
      refine lv_iload_n hx hb dJ7_fill_53178_5 rfl (lv_at hl 1 rfl) ?_
      refine lv_iload_n hx hb dJ7_fill_53178_6 rfl (lv_at hl 0 rfl) ?_
      refine lv_icmp_ge (tgt := 20) hx hb dJ7_fill_53178_7 (by decide) (fun q => ?_) (fun q => ?_)
      · exact absurd q (nI_ge (show j < 4221 by omega) (by decide))
      · refine lv_aload_n hx hb dJ7_fill_53178_10 rfl (lv_at hl 2 rfl) ?_
        refine lv_iload_n hx hb dJ7_fill_53178_11 rfl (lv_at hl 1 rfl) ?_
        refine lv_iload_n hx hb dJ7_fill_53178_12 rfl (lv_at hl 3 rfl) ?_
        refine va_iast hx hb hK hP hD hS 0 0 rfl rfl (i := nI j) (vp_in_nI (show j < 4221 from (by omega)) (by decide)) dJ7_fill_53178_13 (fun H locs hP hD hS => ?_)
        rw [nI_clamp (show j < 2 ^ 31 from Nat.lt_trans (show j < 4221 from (by omega)) (by decide))] at hP hD
        have hP : va_P dd vwCl [(qw, .inl (cyI, 4221, .inl (upd wB j 0)))] H := hP
        have hD : va_D A [(qw, .inl (cyI, 4221, .inl (upd wB j 0)))] := hD
        refine lv_iinc (v := nI (j + 1)) (lv' := [(2, .int (nI (j + 1))), (3, .int (nI 4221)), (0, .ref qw), (1, .int 0)]) hx hb dJ7_fill_53178_14 hl (k := 1) rfl (nI_1 j) (by decide) rfl (fun ls hl => ?_)
        refine lv_goto (tgt := 5) hx hb dJ7_fill_53178_17 (by decide) ?_
        exact ih (j + 1) (upd wB j 0) H locs (by omega) (fun i hi => (Nat.lt_or_ge i j).elim (fun h => by rw [pk_un (by omega)]; exact hu i h) (fun h => by rw [show i = j by omega, pk_us])) hP hD hS ls (lv_sub hl [1, 0, 2, 3] rfl)
  exact loop 4221 0 wI H _ rfl (fun i h => absurd h (Nat.not_lt_zero i)) hP hD hS ls (lv_sub hl [0, 1, 2, 3] rfl)

theorem nI_nz {k : Nat} (h : 0 < k) (h2 : k < 2 ^ 31) : nI k ≠ 0 := fun q => by
  have := (nI_eq (b := 0) h2 (by decide)).mp q
  omega

set_option maxHeartbeats 4000000 in
set_option maxRecDepth 100000 in
theorem c_waysToChoose (l : Launch) (dd : va_G) (cyI cyJ cyZ : ClassId) (o x : Nat) (ho : o ≤ 20) (hxo : x ≤ o) : Met l yX4_waysToChoose wsX4_waysToChoose ({ frames := 0, cells := 0, slots := 0, locals := 0 } : Room) (va_Pc [.int (nI o), .int (nI x)] (Rd dd [(cyI, .int), (cyJ, .long), (cyZ, .boolean)] [])) (vp_Si (fun r => r = nI (chs o x))) 0 0 (fun _ => False) := by
  refine mkR (cc := cX4_waysToChoose) (maxL := 4) (by decide) rfl (Nat.le_of_ble_eq_true rfl) (lv0 := [(0, .int (nI o)), (1, .int (nI x))]) rfl ?_
  intro p e s m below meth c ls hx hb hr hml hown hlocks hts hN hP hK hl
  have hown : s.vm.findClass RX4 = some m.cls := hown
  refine lv_iconst (v := 1) hx hb dX4_waysToChoose_0 (by decide) ?_
  refine lv_istore_n (lv' := [(2, .int 1), (0, .int (nI o)), (1, .int (nI x))]) hx hb dX4_waysToChoose_1 rfl hl (by decide) rfl (fun ls hl => ?_)
  refine lv_iconst (v := 1) hx hb dX4_waysToChoose_2 (by decide) ?_
  refine lv_istore_n (lv' := [(3, .int 1), (2, .int 1), (0, .int (nI o)), (1, .int (nI x))]) hx hb dX4_waysToChoose_3 rfl hl (by decide) rfl (fun ls hl => ?_)
  have loop : ∀ (k : Nat) (i : Nat), i + k = x → ∀ ls : Array Slot, lv_has ls 4 [(3, .int (nI (i + 1))), (2, .int (nI (chs (o - x + i) i))), (0, .int (nI o)), (1, .int (nI x))] → W p l e ({ frames := 0, cells := 0, slots := 0, locals := 0 } : Room) s m ([.int (nI o), .int (nI x)] : List Value).toArray below meth c s.heap [] 0 0 (MQ below (vp_Si (fun r => r = nI (chs o x))) ([.int (nI o), .int (nI x)] : List Value).toArray s 0 0 (fun _ => False)) (F0 m 4 ls []) := by
    intro k
    induction k with
    | zero =>
      intro i hi9 ls hl
      refine lv_iload_n hx hb dX4_waysToChoose_4 rfl (lv_at hl 0 rfl) ?_
      refine lv_iload_n hx hb dX4_waysToChoose_5 rfl (lv_at hl 3 rfl) ?_
      refine lv_icmp_gt (tgt := 25) hx hb dX4_waysToChoose_6 (by decide) (fun q => ?_) (fun q => ?_)
      · refine lv_iload_n hx hb dX4_waysToChoose_25 rfl (lv_at hl 1 rfl) ?_
        exact edI hx hb hr hlocks dX4_waysToChoose_26 (by rw [show i = x by omega, show o - x + x = o by omega])
      · exact absurd (nI_lt (show x < i + 1 by omega) (by omega)) q
    | succ k ih =>
      intro i hi9 ls hl
      refine lv_iload_n hx hb dX4_waysToChoose_4 rfl (lv_at hl 0 rfl) ?_
      refine lv_iload_n hx hb dX4_waysToChoose_5 rfl (lv_at hl 3 rfl) ?_
      refine lv_icmp_gt (tgt := 25) hx hb dX4_waysToChoose_6 (by decide) (fun q => ?_) (fun q => ?_)
      · exact absurd q (fun h => absurd ((nI_ltI (by omega) (by omega)).mp h) (by omega))
      · obtain ⟨w1, w2⟩ := chs_w (o - x) (by omega) i (by omega)
        refine lv_iload_n hx hb dX4_waysToChoose_9 rfl (lv_at hl 1 rfl) ?_
        refine lv_iload_n hx hb dX4_waysToChoose_10 rfl (lv_at hl 2 rfl) ?_
        refine lv_iload_n hx hb dX4_waysToChoose_11 rfl (lv_at hl 3 rfl) ?_
        refine lv_isub hx hb dX4_waysToChoose_12 ?_
        refine tpi (show ((nI o) - (nI x) : Int32) = nI (o - x) from pk_sub hxo) ?_
        refine lv_iload_n hx hb dX4_waysToChoose_13 rfl (lv_at hl 0 rfl) ?_
        refine lv_iadd hx hb dX4_waysToChoose_14 ?_
        refine tpi (show ((nI (o - x)) + (nI (i + 1)) : Int32) = nI (o - x + i + 1) from nI_add _ _) ?_
        refine lv_imul hx hb dX4_waysToChoose_15 ?_
        refine tpi (show ((nI (chs (o - x + i) i)) * (nI (o - x + i + 1)) : Int32) = nI (chs (o - x + i) i * (o - x + i + 1)) from pk_mul _ _) ?_
        refine lv_iload_n hx hb dX4_waysToChoose_16 rfl (lv_at hl 0 rfl) ?_
        refine lv_idiv hx hb dX4_waysToChoose_17 (nI_nz (by omega) (by omega)) ?_
        refine tpi (show ((nI (chs (o - x + i) i * (o - x + i + 1))) / (nI (i + 1)) : Int32) = nI (chs (o - x + (i + 1)) (i + 1)) from by rw [pk_div (by omega) (by omega) (by omega), w1]; rfl) ?_
        refine lv_istore_n (lv' := [(2, .int (nI (chs (o - x + (i + 1)) (i + 1)))), (3, .int (nI (i + 1))), (0, .int (nI o)), (1, .int (nI x))]) hx hb dX4_waysToChoose_18 rfl hl (by decide) rfl (fun ls hl => ?_)
        refine lv_iinc (v := nI (i + 1 + 1)) (lv' := [(3, .int (nI (i + 1 + 1))), (2, .int (nI (chs (o - x + (i + 1)) (i + 1)))), (0, .int (nI o)), (1, .int (nI x))]) hx hb dX4_waysToChoose_19 hl (k := 1) rfl (nI_1 _) (by decide) rfl (fun ls hl => ?_)
        refine lv_goto (tgt := 4) hx hb dX4_waysToChoose_22 (by decide) ?_
        exact ih (i + 1) (by omega) ls (lv_sub hl [0, 1, 2, 3] rfl)
  exact loop x 0 (by omega) ls (by rw [show chs (o - x + 0) 0 = 1 from chs_0 _ (by omega)]; exact (lv_sub hl [0, 1, 2, 3] rfl))

set_option maxHeartbeats 4000000 in
set_option maxRecDepth 100000 in
theorem c_take (l : Launch) (dd : va_G) (cyI cyJ cyZ : ClassId) (qk qk1 qk2 qk3 : Nat) (x1 x2 : Int32) (qr qt qh n : Nat) (hi : Int64) (tI : Nat → Int32) (hv : Nat → Int64) (hI sI : Nat → Int32) (hR : RowsOk n hI sI hi hv) (co : Nat) (hco : co < 5) (F G : Nat → Bool) (f0 g0 : Nat → Int32) (sz : Nat) : Met l yX1_take wsX1_take ({ frames := 2, cells := 0, slots := 0, locals := 60 } : Room) (va_Pc [.ref qk, .ref qr, .int (nI co), .long (lN (mk F n)), .long (lN (mk G n))] (Wr dd [(cyI, .int), (cyJ, .long), (cyZ, .boolean)] [(qk, .inr (1, [.int x1, .int x2, .ref qk1, .ref qk2, .ref qk3])), (qk1, .inl (cyI, 10, .inl f0)), (qk2, .inl (cyI, 10, .inl g0)), (qr, .inr (2, [.int (nI n), .long hi, .ref qt, .ref qh])), (qt, .inl (cyI, 48, .inl tI)), (qh, .inl (cyJ, 55, .inr (.inl hv)))] sz)) (va_Qv (S := (Nat → Int32) × (Nat → Int32)) (fun (u : (Nat → Int32) × (Nat → Int32)) => ∀ k, k < 10 → u.1 k = nI (cs F sI co n k) ∧ u.2 k = nI (cs G sI co n k)) (WQ dd [(qk, .inr (1, [.int x1, .int x2, .ref qk1, .ref qk2, .ref qk3])), (qk1, .inl (cyI, 10, .inl f0)), (qk2, .inl (cyI, 10, .inl g0)), (qr, .inr (2, [.int (nI n), .long hi, .ref qt, .ref qh])), (qt, .inl (cyI, 48, .inl tI)), (qh, .inl (cyJ, 55, .inr (.inl hv)))] sz (fun u => [(qk, .inr (1, [.int (nI (oN F sI co n)), .int (nI (oN G sI co n)), .ref qk1, .ref qk2, .ref qk3])), (qk1, .inl (cyI, 10, .inl u.1)), (qk2, .inl (cyI, 10, .inl u.2)), (qr, .inr (2, [.int (nI n), .long hi, .ref qt, .ref qh])), (qt, .inl (cyI, 48, .inl tI)), (qh, .inl (cyJ, 55, .inr (.inl hv)))])) (va_A [(qk, .inr (1, [.int x1, .int x2, .ref qk1, .ref qk2, .ref qk3])), (qk1, .inl (cyI, 10, .inl f0)), (qk2, .inl (cyI, 10, .inl g0)), (qr, .inr (2, [.int (nI n), .long hi, .ref qt, .ref qh])), (qt, .inl (cyI, 48, .inl tI)), (qh, .inl (cyJ, 55, .inr (.inl hv)))] sz)) 0 0 (va_A [(qk, .inr (1, [.int x1, .int x2, .ref qk1, .ref qk2, .ref qk3])), (qk1, .inl (cyI, 10, .inl f0)), (qk2, .inl (cyI, 10, .inl g0)), (qr, .inr (2, [.int (nI n), .long hi, .ref qt, .ref qh])), (qt, .inl (cyI, 48, .inl tI)), (qh, .inl (cyJ, 55, .inr (.inl hv)))] sz) := by
  refine mkW (Qc := fun A => (va_Qv (S := (Nat → Int32) × (Nat → Int32)) (fun (u : (Nat → Int32) × (Nat → Int32)) => ∀ k, k < 10 → u.1 k = nI (cs F sI co n k) ∧ u.2 k = nI (cs G sI co n k)) (WQ dd [(qk, .inr (1, [.int x1, .int x2, .ref qk1, .ref qk2, .ref qk3])), (qk1, .inl (cyI, 10, .inl f0)), (qk2, .inl (cyI, 10, .inl g0)), (qr, .inr (2, [.int (nI n), .long hi, .ref qt, .ref qh])), (qt, .inl (cyI, 48, .inl tI)), (qh, .inl (cyJ, 55, .inr (.inl hv)))] sz (fun u => [(qk, .inr (1, [.int (nI (oN F sI co n)), .int (nI (oN G sI co n)), .ref qk1, .ref qk2, .ref qk3])), (qk1, .inl (cyI, 10, .inl u.1)), (qk2, .inl (cyI, 10, .inl u.2)), (qr, .inr (2, [.int (nI n), .long hi, .ref qt, .ref qh])), (qt, .inl (cyI, 48, .inl tI)), (qh, .inl (cyJ, 55, .inr (.inl hv)))])) A)) (cc := cX1_take) (maxL := 8) (by decide) rfl (Nat.le_of_ble_eq_true rfl) (lv0 := [(0, .ref qk), (1, .ref qr), (2, .int (nI co)), (3, .long (lN (mk F n))), (5, .long (lN (mk G n)))]) rfl ?_
  intro p e s m below meth c ls H A hx hb hr hml hown hlocks hts hmn hN hP hK hD hS hA hAe hl
  have hown : s.vm.findClass RX1 = some m.cls := hown
  have hiX1 : ∀ w ∈ wsX10, w ∈ wsX1_take := by decide +kernel
  have hiX2 : ∀ w ∈ wsX20, w ∈ wsX1_take := by decide +kernel
  have hn := hR.1
  have hH := hR.2.2.1
  refine lv_aload_n hx hb dX1_take_0 rfl (lv_at hl 0 rfl) ?_
  refine lv_iconst (v := 0) hx hb dX1_take_1 (by decide) ?_
  refine va_put (D := dd) (ci := 1) (v := .int 0) (ty := .int) (C := RX1) (T := TX1) (N := 5) hx hb hts hiX1 tyX1 tyX1_ok nmX1 hown hK hP hD hS 0 rfl rfl 0 (by decide) (hts (.fieldLink RX1 11 "SliceDrift$Ranks" "firstRows" "I") (by decide +kernel)) (fun _ h9 => h9) rfl (by decide +kernel) rfl rfl (Nat.le_of_ble_eq_true rfl) dX1_take_2 (fun H locs hP hD hS => ?_)
  have hP : va_P dd vwCl [(qk, .inr (1, [.int 0, .int x2, .ref qk1, .ref qk2, .ref qk3])), (qk1, .inl (cyI, 10, .inl f0)), (qk2, .inl (cyI, 10, .inl g0)), (qr, .inr (2, [.int (nI n), .long hi, .ref qt, .ref qh])), (qt, .inl (cyI, 48, .inl tI)), (qh, .inl (cyJ, 55, .inr (.inl hv)))] H := hP
  have hD : va_D A [(qk, .inr (1, [.int 0, .int x2, .ref qk1, .ref qk2, .ref qk3])), (qk1, .inl (cyI, 10, .inl f0)), (qk2, .inl (cyI, 10, .inl g0)), (qr, .inr (2, [.int (nI n), .long hi, .ref qt, .ref qh])), (qt, .inl (cyI, 48, .inl tI)), (qh, .inl (cyJ, 55, .inr (.inl hv)))] := hD
  refine lv_aload_n hx hb dX1_take_5 rfl (lv_at hl 0 rfl) ?_
  refine lv_iconst (v := 0) hx hb dX1_take_6 (by decide) ?_
  refine va_put (D := dd) (ci := 1) (v := .int 0) (ty := .int) (C := RX1) (T := TX1) (N := 5) hx hb hts hiX1 tyX1 tyX1_ok nmX1 hown hK hP hD hS 0 rfl rfl 1 (by decide) (hts (.fieldLink RX1 15 "SliceDrift$Ranks" "secondRows" "I") (by decide +kernel)) (fun _ h9 => h9) rfl (by decide +kernel) rfl rfl (Nat.le_of_ble_eq_true rfl) dX1_take_7 (fun H locs hP hD hS => ?_)
  have hP : va_P dd vwCl [(qk, .inr (1, [.int 0, .int 0, .ref qk1, .ref qk2, .ref qk3])), (qk1, .inl (cyI, 10, .inl f0)), (qk2, .inl (cyI, 10, .inl g0)), (qr, .inr (2, [.int (nI n), .long hi, .ref qt, .ref qh])), (qt, .inl (cyI, 48, .inl tI)), (qh, .inl (cyJ, 55, .inr (.inl hv)))] H := hP
  have hD : va_D A [(qk, .inr (1, [.int 0, .int 0, .ref qk1, .ref qk2, .ref qk3])), (qk1, .inl (cyI, 10, .inl f0)), (qk2, .inl (cyI, 10, .inl g0)), (qr, .inr (2, [.int (nI n), .long hi, .ref qt, .ref qh])), (qt, .inl (cyI, 48, .inl tI)), (qh, .inl (cyJ, 55, .inr (.inl hv)))] := hD
  refine lv_iconst (v := 0) hx hb dX1_take_10 (by decide) ?_
  refine lv_istore (lv' := [(7, .int 0), (0, .ref qk), (1, .ref qr), (2, .int (nI co)), (3, .long (lN (mk F n))), (5, .long (lN (mk G n)))]) hx hb dX1_take_11 hl (by decide) rfl (fun ls hl => ?_)
  have loop : ∀ (k : Nat) (v : Nat) (fB gB : Nat → Int32) (H : Heap) (locs : List Loc), v + k = 10 → (∀ k, k < v → fB k = nI (cs F sI co n k) ∧ gB k = nI (cs G sI co n k)) → va_P dd vwCl [(qk, .inr (1, [.int (nI (ps (cs F sI co n) v)), .int (nI (ps (cs G sI co n) v)), .ref qk1, .ref qk2, .ref qk3])), (qk1, .inl (cyI, 10, .inl fB)), (qk2, .inl (cyI, 10, .inl gB)), (qr, .inr (2, [.int (nI n), .long hi, .ref qt, .ref qh])), (qt, .inl (cyI, 48, .inl tI)), (qh, .inl (cyJ, 55, .inr (.inl hv)))] H → va_D A [(qk, .inr (1, [.int (nI (ps (cs F sI co n) v)), .int (nI (ps (cs G sI co n) v)), .ref qk1, .ref qk2, .ref qk3])), (qk1, .inl (cyI, 10, .inl fB)), (qk2, .inl (cyI, 10, .inl gB)), (qr, .inr (2, [.int (nI n), .long hi, .ref qt, .ref qh])), (qt, .inl (cyI, 48, .inl tI)), (qh, .inl (cyJ, 55, .inr (.inl hv)))] → va_S A s.heap H locs → ∀ ls : Array Slot, lv_has ls 8 [(7, .int (nI v)), (0, .ref qk), (1, .ref qr), (2, .int (nI co)), (3, .long (lN (mk F n))), (5, .long (lN (mk G n)))] → W p l e ({ frames := 2, cells := 0, slots := 0, locals := 60 } : Room) s m ([.ref qk, .ref qr, .int (nI co), .long (lN (mk F n)), .long (lN (mk G n))] : List Value).toArray below meth c H locs 0 0 (MQ below (va_Qv (S := (Nat → Int32) × (Nat → Int32)) (fun (u : (Nat → Int32) × (Nat → Int32)) => ∀ k, k < 10 → u.1 k = nI (cs F sI co n k) ∧ u.2 k = nI (cs G sI co n k)) (WQ dd [(qk, .inr (1, [.int x1, .int x2, .ref qk1, .ref qk2, .ref qk3])), (qk1, .inl (cyI, 10, .inl f0)), (qk2, .inl (cyI, 10, .inl g0)), (qr, .inr (2, [.int (nI n), .long hi, .ref qt, .ref qh])), (qt, .inl (cyI, 48, .inl tI)), (qh, .inl (cyJ, 55, .inr (.inl hv)))] sz (fun u => [(qk, .inr (1, [.int (nI (oN F sI co n)), .int (nI (oN G sI co n)), .ref qk1, .ref qk2, .ref qk3])), (qk1, .inl (cyI, 10, .inl u.1)), (qk2, .inl (cyI, 10, .inl u.2)), (qr, .inr (2, [.int (nI n), .long hi, .ref qt, .ref qh])), (qt, .inl (cyI, 48, .inl tI)), (qh, .inl (cyJ, 55, .inr (.inl hv)))])) A) ([.ref qk, .ref qr, .int (nI co), .long (lN (mk F n)), .long (lN (mk G n))] : List Value).toArray s 0 0 A) (F0 m 13 ls []) := by
    intro k
    induction k with
    | zero =>
      intro v fB gB H locs hv9 hu hP hD hS ls hl
      refine lv_iload hx hb dX1_take_13 (lv_at hl 0 rfl) ?_
      refine lv_bipush (v := 10) hx hb dX1_take_15 (by decide) ?_
      refine lv_icmp_ge (tgt := 97) hx hb dX1_take_17 (by decide) (fun q => ?_) (fun q => ?_)
      · rw [show v = 10 by omega] at hP hD hu
        exact ewV (fB, gB) hx hb hr hlocks hAe hS dX1_take_97 hu (hP.sub [0, 1, 2, 3, 4, 5] rfl) (hD.sub [0, 1, 2, 3, 4, 5] (by decide) rfl)
      · exact absurd (nI_le (show 10 ≤ v by omega) (by omega)) q
    | succ k ih =>
      intro v fB gB H locs hv9 hu hP hD hS ls hl
      refine lv_iload hx hb dX1_take_13 (lv_at hl 0 rfl) ?_
      refine lv_bipush (v := 10) hx hb dX1_take_15 (by decide) ?_
      refine lv_icmp_ge (tgt := 97) hx hb dX1_take_17 (by decide) (fun q => ?_) (fun q => ?_)
      · exact absurd q (nI_ge (show v < 10 by omega) (by decide))
      · refine lv_aload_n hx hb dX1_take_20 rfl (lv_at hl 1 rfl) ?_
        refine va_get (D := dd) (ci := 1) (C := RX1) (T := TX1) (N := 5) (v := .ref qk1) hx hb hts hiX1 hown hK hP 0 rfl rfl 2 (by decide) (hts (.fieldLink RX1 18 "SliceDrift$Ranks" "firsts" "[I") (by decide +kernel)) (fun _ h9 => h9) rfl dX1_take_21 ?_
        refine lv_iload hx hb dX1_take_24 (lv_at hl 0 rfl) ?_
        refine lv_aload_n hx hb dX1_take_26 rfl (lv_at hl 2 rfl) ?_
        refine lv_iload_n hx hb dX1_take_27 rfl (lv_at hl 3 rfl) ?_
        refine lv_iload hx hb dX1_take_28 (lv_at hl 0 rfl) ?_
        refine clVl (As := [.int (nI co), .int (nI v)]) (rest := [.int (nI v), .ref qk1]) (b := qr) (vc := (RX2, TX2, 4)) ⟨hx, hb, hml, hown, hts⟩ (c_withSort l dd cyI cyJ cyZ qr qt qh n hi tI hv co v hco (by omega)) gX1_take_X2_withSort (ci := 2) rfl (q0 := 0) rfl (n := 2) rfl ⟨rfl, rfl⟩ (by decide +kernel) ⟨Nat.le_of_ble_eq_true rfl, Nat.le_of_ble_eq_true rfl⟩ hN hK (hP.sub [3, 4, 5] rfl) rfl hl.1 rfl (Nat.le_of_ble_eq_true rfl) dX1_take_30 ⟨Nat.le_of_ble_eq_true rfl, Nat.le_of_ble_eq_true rfl⟩ (fun r1 hr1 => ?_)
        rw [hH co hco v (by omega)] at hr1
        subst hr1
        refine lv_lload_n hx hb dX1_take_33 rfl (lv_at hl 4 rfl) ?_
        refine lv_land hx hb dX1_take_34 ?_
        refine tpl (show ((lN (mk (hav sI co v) n)) &&& (lN (mk F n)) : Int64) = lN (mk (fun i => hav sI co v i && F i) n) from lN_and hn) ?_
        refine clSi (As := [.long (lN (mk (fun i => hav sI co v i && F i) n))]) (rest := [.int (nI v), .ref qk1]) ⟨hx, hb, hml, hown, hts⟩ (c_bitCount l dd cyI cyJ cyZ (mk (fun i => hav sI co v i && F i) n) (mk64 _ hn)) gX1_take_J13_bitCount_95d88 (n := 1) rfl ⟨rfl, rfl⟩ (by decide +kernel) ⟨Nat.le_of_ble_eq_true rfl, Nat.le_of_ble_eq_true rfl⟩ hN hK (hP.sub [] rfl) rfl hl.1 rfl (Nat.le_of_ble_eq_true rfl) dX1_take_35 ⟨Nat.le_of_ble_eq_true rfl, Nat.le_of_ble_eq_true rfl⟩ (fun r1b hr1b => ?_)
        have hr1b : r1b = nI (cs F sI co n v) := by rw [hr1b, cnt_mk _ (Nat.le_trans hn (by decide))]; rfl
        subst hr1b
        refine va_iast hx hb hK hP hD hS 1 0 rfl rfl (i := nI v) (vp_in_nI (show v < 10 from (by omega)) (by decide)) dX1_take_38 (fun H locs hP hD hS => ?_)
        rw [nI_clamp (show v < 2 ^ 31 from Nat.lt_trans (show v < 10 from (by omega)) (by decide))] at hP hD
        have hP : va_P dd vwCl [(qk, .inr (1, [.int (nI (ps (cs F sI co n) v)), .int (nI (ps (cs G sI co n) v)), .ref qk1, .ref qk2, .ref qk3])), (qk1, .inl (cyI, 10, .inl (upd fB v (nI (cs F sI co n v))))), (qk2, .inl (cyI, 10, .inl gB)), (qr, .inr (2, [.int (nI n), .long hi, .ref qt, .ref qh])), (qt, .inl (cyI, 48, .inl tI)), (qh, .inl (cyJ, 55, .inr (.inl hv)))] H := hP
        have hD : va_D A [(qk, .inr (1, [.int (nI (ps (cs F sI co n) v)), .int (nI (ps (cs G sI co n) v)), .ref qk1, .ref qk2, .ref qk3])), (qk1, .inl (cyI, 10, .inl (upd fB v (nI (cs F sI co n v))))), (qk2, .inl (cyI, 10, .inl gB)), (qr, .inr (2, [.int (nI n), .long hi, .ref qt, .ref qh])), (qt, .inl (cyI, 48, .inl tI)), (qh, .inl (cyJ, 55, .inr (.inl hv)))] := hD
        refine lv_aload_n hx hb dX1_take_39 rfl (lv_at hl 1 rfl) ?_
        refine va_get (D := dd) (ci := 1) (C := RX1) (T := TX1) (N := 5) (v := .ref qk2) hx hb hts hiX1 hown hK hP 0 rfl rfl 3 (by decide) (hts (.fieldLink RX1 22 "SliceDrift$Ranks" "seconds" "[I") (by decide +kernel)) (fun _ h9 => h9) rfl dX1_take_40 ?_
        refine lv_iload hx hb dX1_take_43 (lv_at hl 0 rfl) ?_
        refine lv_aload_n hx hb dX1_take_45 rfl (lv_at hl 2 rfl) ?_
        refine lv_iload_n hx hb dX1_take_46 rfl (lv_at hl 3 rfl) ?_
        refine lv_iload hx hb dX1_take_47 (lv_at hl 0 rfl) ?_
        refine clVl (As := [.int (nI co), .int (nI v)]) (rest := [.int (nI v), .ref qk2]) (b := qr) (vc := (RX2, TX2, 4)) ⟨hx, hb, hml, hown, hts⟩ (c_withSort l dd cyI cyJ cyZ qr qt qh n hi tI hv co v hco (by omega)) gX1_take_X2_withSort (ci := 2) rfl (q0 := 0) rfl (n := 2) rfl ⟨rfl, rfl⟩ (by decide +kernel) ⟨Nat.le_of_ble_eq_true rfl, Nat.le_of_ble_eq_true rfl⟩ hN hK (hP.sub [3, 4, 5] rfl) rfl hl.1 rfl (Nat.le_of_ble_eq_true rfl) dX1_take_49 ⟨Nat.le_of_ble_eq_true rfl, Nat.le_of_ble_eq_true rfl⟩ (fun r2 hr2 => ?_)
        rw [hH co hco v (by omega)] at hr2
        subst hr2
        refine lv_lload hx hb dX1_take_52 (lv_at hl 5 rfl) ?_
        refine lv_land hx hb dX1_take_54 ?_
        refine tpl (show ((lN (mk (hav sI co v) n)) &&& (lN (mk G n)) : Int64) = lN (mk (fun i => hav sI co v i && G i) n) from lN_and hn) ?_
        refine clSi (As := [.long (lN (mk (fun i => hav sI co v i && G i) n))]) (rest := [.int (nI v), .ref qk2]) ⟨hx, hb, hml, hown, hts⟩ (c_bitCount l dd cyI cyJ cyZ (mk (fun i => hav sI co v i && G i) n) (mk64 _ hn)) gX1_take_J13_bitCount_95d88 (n := 1) rfl ⟨rfl, rfl⟩ (by decide +kernel) ⟨Nat.le_of_ble_eq_true rfl, Nat.le_of_ble_eq_true rfl⟩ hN hK (hP.sub [] rfl) rfl hl.1 rfl (Nat.le_of_ble_eq_true rfl) dX1_take_55 ⟨Nat.le_of_ble_eq_true rfl, Nat.le_of_ble_eq_true rfl⟩ (fun r2b hr2b => ?_)
        have hr2b : r2b = nI (cs G sI co n v) := by rw [hr2b, cnt_mk _ (Nat.le_trans hn (by decide))]; rfl
        subst hr2b
        refine va_iast hx hb hK hP hD hS 2 0 rfl rfl (i := nI v) (vp_in_nI (show v < 10 from (by omega)) (by decide)) dX1_take_58 (fun H locs hP hD hS => ?_)
        rw [nI_clamp (show v < 2 ^ 31 from Nat.lt_trans (show v < 10 from (by omega)) (by decide))] at hP hD
        have hP : va_P dd vwCl [(qk, .inr (1, [.int (nI (ps (cs F sI co n) v)), .int (nI (ps (cs G sI co n) v)), .ref qk1, .ref qk2, .ref qk3])), (qk1, .inl (cyI, 10, .inl (upd fB v (nI (cs F sI co n v))))), (qk2, .inl (cyI, 10, .inl (upd gB v (nI (cs G sI co n v))))), (qr, .inr (2, [.int (nI n), .long hi, .ref qt, .ref qh])), (qt, .inl (cyI, 48, .inl tI)), (qh, .inl (cyJ, 55, .inr (.inl hv)))] H := hP
        have hD : va_D A [(qk, .inr (1, [.int (nI (ps (cs F sI co n) v)), .int (nI (ps (cs G sI co n) v)), .ref qk1, .ref qk2, .ref qk3])), (qk1, .inl (cyI, 10, .inl (upd fB v (nI (cs F sI co n v))))), (qk2, .inl (cyI, 10, .inl (upd gB v (nI (cs G sI co n v))))), (qr, .inr (2, [.int (nI n), .long hi, .ref qt, .ref qh])), (qt, .inl (cyI, 48, .inl tI)), (qh, .inl (cyJ, 55, .inr (.inl hv)))] := hD
        refine lv_aload_n hx hb dX1_take_59 rfl (lv_at hl 1 rfl) ?_
        refine lv_dup hx hb dX1_take_60 rfl ?_
        refine va_get (D := dd) (ci := 1) (C := RX1) (T := TX1) (N := 5) (v := .int (nI (ps (cs F sI co n) v))) hx hb hts hiX1 hown hK hP 0 rfl rfl 0 (by decide) (hts (.fieldLink RX1 11 "SliceDrift$Ranks" "firstRows" "I") (by decide +kernel)) (fun _ h9 => h9) rfl dX1_take_61 ?_
        refine lv_aload_n hx hb dX1_take_64 rfl (lv_at hl 1 rfl) ?_
        refine va_get (D := dd) (ci := 1) (C := RX1) (T := TX1) (N := 5) (v := .ref qk1) hx hb hts hiX1 hown hK hP 0 rfl rfl 2 (by decide) (hts (.fieldLink RX1 18 "SliceDrift$Ranks" "firsts" "[I") (by decide +kernel)) (fun _ h9 => h9) rfl dX1_take_65 ?_
        refine lv_iload hx hb dX1_take_68 (lv_at hl 0 rfl) ?_
        refine va_iald hx hb hK hP 1 0 rfl rfl (i := nI v) (vp_in_nI (show v < 10 from (by omega)) (by decide)) dX1_take_70 ?_
        rw [nI_clamp (show v < 2 ^ 31 from Nat.lt_trans (show v < 10 from (by omega)) (by decide))]
        refine tpi (show ((upd fB v (nI (cs F sI co n v))) v : Int32) = nI (cs F sI co n v) from pk_us) ?_
        refine lv_iadd hx hb dX1_take_71 ?_
        refine tpi (show ((nI (ps (cs F sI co n) v)) + (nI (cs F sI co n v)) : Int32) = nI (ps (cs F sI co n) (v + 1)) from nI_add _ _) ?_
        refine va_put (D := dd) (ci := 1) (v := .int (nI (ps (cs F sI co n) (v + 1)))) (ty := .int) (C := RX1) (T := TX1) (N := 5) hx hb hts hiX1 tyX1 tyX1_ok nmX1 hown hK hP hD hS 0 rfl rfl 0 (by decide) (hts (.fieldLink RX1 11 "SliceDrift$Ranks" "firstRows" "I") (by decide +kernel)) (fun _ h9 => h9) rfl (by decide +kernel) rfl rfl (Nat.le_of_ble_eq_true rfl) dX1_take_72 (fun H locs hP hD hS => ?_)
        have hP : va_P dd vwCl [(qk, .inr (1, [.int (nI (ps (cs F sI co n) (v + 1))), .int (nI (ps (cs G sI co n) v)), .ref qk1, .ref qk2, .ref qk3])), (qk1, .inl (cyI, 10, .inl (upd fB v (nI (cs F sI co n v))))), (qk2, .inl (cyI, 10, .inl (upd gB v (nI (cs G sI co n v))))), (qr, .inr (2, [.int (nI n), .long hi, .ref qt, .ref qh])), (qt, .inl (cyI, 48, .inl tI)), (qh, .inl (cyJ, 55, .inr (.inl hv)))] H := hP
        have hD : va_D A [(qk, .inr (1, [.int (nI (ps (cs F sI co n) (v + 1))), .int (nI (ps (cs G sI co n) v)), .ref qk1, .ref qk2, .ref qk3])), (qk1, .inl (cyI, 10, .inl (upd fB v (nI (cs F sI co n v))))), (qk2, .inl (cyI, 10, .inl (upd gB v (nI (cs G sI co n v))))), (qr, .inr (2, [.int (nI n), .long hi, .ref qt, .ref qh])), (qt, .inl (cyI, 48, .inl tI)), (qh, .inl (cyJ, 55, .inr (.inl hv)))] := hD
        refine lv_aload_n hx hb dX1_take_75 rfl (lv_at hl 1 rfl) ?_
        refine lv_dup hx hb dX1_take_76 rfl ?_
        refine va_get (D := dd) (ci := 1) (C := RX1) (T := TX1) (N := 5) (v := .int (nI (ps (cs G sI co n) v))) hx hb hts hiX1 hown hK hP 0 rfl rfl 1 (by decide) (hts (.fieldLink RX1 15 "SliceDrift$Ranks" "secondRows" "I") (by decide +kernel)) (fun _ h9 => h9) rfl dX1_take_77 ?_
        refine lv_aload_n hx hb dX1_take_80 rfl (lv_at hl 1 rfl) ?_
        refine va_get (D := dd) (ci := 1) (C := RX1) (T := TX1) (N := 5) (v := .ref qk2) hx hb hts hiX1 hown hK hP 0 rfl rfl 3 (by decide) (hts (.fieldLink RX1 22 "SliceDrift$Ranks" "seconds" "[I") (by decide +kernel)) (fun _ h9 => h9) rfl dX1_take_81 ?_
        refine lv_iload hx hb dX1_take_84 (lv_at hl 0 rfl) ?_
        refine va_iald hx hb hK hP 2 0 rfl rfl (i := nI v) (vp_in_nI (show v < 10 from (by omega)) (by decide)) dX1_take_86 ?_
        rw [nI_clamp (show v < 2 ^ 31 from Nat.lt_trans (show v < 10 from (by omega)) (by decide))]
        refine tpi (show ((upd gB v (nI (cs G sI co n v))) v : Int32) = nI (cs G sI co n v) from pk_us) ?_
        refine lv_iadd hx hb dX1_take_87 ?_
        refine tpi (show ((nI (ps (cs G sI co n) v)) + (nI (cs G sI co n v)) : Int32) = nI (ps (cs G sI co n) (v + 1)) from nI_add _ _) ?_
        refine va_put (D := dd) (ci := 1) (v := .int (nI (ps (cs G sI co n) (v + 1)))) (ty := .int) (C := RX1) (T := TX1) (N := 5) hx hb hts hiX1 tyX1 tyX1_ok nmX1 hown hK hP hD hS 0 rfl rfl 1 (by decide) (hts (.fieldLink RX1 15 "SliceDrift$Ranks" "secondRows" "I") (by decide +kernel)) (fun _ h9 => h9) rfl (by decide +kernel) rfl rfl (Nat.le_of_ble_eq_true rfl) dX1_take_88 (fun H locs hP hD hS => ?_)
        have hP : va_P dd vwCl [(qk, .inr (1, [.int (nI (ps (cs F sI co n) (v + 1))), .int (nI (ps (cs G sI co n) (v + 1))), .ref qk1, .ref qk2, .ref qk3])), (qk1, .inl (cyI, 10, .inl (upd fB v (nI (cs F sI co n v))))), (qk2, .inl (cyI, 10, .inl (upd gB v (nI (cs G sI co n v))))), (qr, .inr (2, [.int (nI n), .long hi, .ref qt, .ref qh])), (qt, .inl (cyI, 48, .inl tI)), (qh, .inl (cyJ, 55, .inr (.inl hv)))] H := hP
        have hD : va_D A [(qk, .inr (1, [.int (nI (ps (cs F sI co n) (v + 1))), .int (nI (ps (cs G sI co n) (v + 1))), .ref qk1, .ref qk2, .ref qk3])), (qk1, .inl (cyI, 10, .inl (upd fB v (nI (cs F sI co n v))))), (qk2, .inl (cyI, 10, .inl (upd gB v (nI (cs G sI co n v))))), (qr, .inr (2, [.int (nI n), .long hi, .ref qt, .ref qh])), (qt, .inl (cyI, 48, .inl tI)), (qh, .inl (cyJ, 55, .inr (.inl hv)))] := hD
        refine lv_iinc (v := nI (v + 1)) (lv' := [(7, .int (nI (v + 1))), (0, .ref qk), (1, .ref qr), (2, .int (nI co)), (3, .long (lN (mk F n))), (5, .long (lN (mk G n)))]) hx hb dX1_take_91 hl (k := 0) rfl (nI_1 v) (by decide) rfl (fun ls hl => ?_)
        refine lv_goto (tgt := 13) hx hb dX1_take_94 (by decide) ?_
        exact ih (v + 1) (upd fB v (nI (cs F sI co n v))) (upd gB v (nI (cs G sI co n v))) H locs (by omega) (fun k9 h9 => (Nat.lt_or_ge k9 v).elim (fun h => by rw [pk_un (by omega), pk_un (by omega)]; exact hu k9 h) (fun h => by rw [show k9 = v by omega, pk_us, pk_us]; exact ⟨rfl, rfl⟩)) hP hD hS ls (lv_sub hl [0, 1, 2, 3, 4, 5] rfl)
  exact loop 10 0 f0 g0 H _ rfl (fun k h => absurd h (Nat.not_lt_zero k)) hP hD hS ls (lv_sub hl [0, 1, 2, 3, 4, 5] rfl)

set_option maxHeartbeats 4000000 in
set_option maxRecDepth 100000 in
theorem c_risen (l : Launch) (dd : va_G) (cyI cyJ cyZ : ClassId) (qk qk1 qk2 qk3 : Nat) (x1 x2 : Int32) (pp qq : Nat → Nat) (fA gA : Nat → Int32) (hfg : ∀ k, k < 10 → (fA k = nI (pp k) ∧ pp k ≤ 48) ∧ gA k = nI (qq k) ∧ qq k ≤ 48) : Met l yX1_risen wsX1_risen ({ frames := 0, cells := 0, slots := 0, locals := 0 } : Room) (va_Pc [.ref qk] (Rd dd [(cyI, .int), (cyJ, .long), (cyZ, .boolean)] [(qk, .inr (1, [.int x1, .int x2, .ref qk1, .ref qk2, .ref qk3])), (qk1, .inl (cyI, 10, .inl fA)), (qk2, .inl (cyI, 10, .inl gA))])) (vp_Si (fun r => r = nI (rsO pp qq 10))) 0 0 (fun _ => False) := by
  refine mkR (cc := cX1_risen) (maxL := 4) (by decide) rfl (Nat.le_of_ble_eq_true rfl) (lv0 := [(0, .ref qk)]) rfl ?_
  intro p e s m below meth c ls hx hb hr hml hown hlocks hts hN hP hK hl
  have hown : s.vm.findClass RX1 = some m.cls := hown
  have hiX1 : ∀ w ∈ wsX10, w ∈ wsX1_risen := by decide +kernel
  refine lv_iconst (v := 0) hx hb dX1_risen_0 (by decide) ?_
  refine lv_istore_n (lv' := [(1, .int 0), (0, .ref qk)]) hx hb dX1_risen_1 rfl hl (by decide) rfl (fun ls hl => ?_)
  refine lv_iconst (v := 0) hx hb dX1_risen_2 (by decide) ?_
  refine lv_istore_n (lv' := [(2, .int 0), (1, .int 0), (0, .ref qk)]) hx hb dX1_risen_3 rfl hl (by decide) rfl (fun ls hl => ?_)
  refine lv_iconst (v := 0) hx hb dX1_risen_4 (by decide) ?_
  refine lv_istore_n (lv' := [(3, .int 0), (2, .int 0), (1, .int 0), (0, .ref qk)]) hx hb dX1_risen_5 rfl hl (by decide) rfl (fun ls hl => ?_)
  have loop : ∀ (k : Nat) (v : Nat), v + k = 10 → ∀ ls : Array Slot, lv_has ls 4 [(3, .int (nI v)), (2, .int (nI (cR pp qq v))), (1, .int (nI (ps pp v))), (0, .ref qk)] → W p l e ({ frames := 0, cells := 0, slots := 0, locals := 0 } : Room) s m ([.ref qk] : List Value).toArray below meth c s.heap [] 0 0 (MQ below (vp_Si (fun r => r = nI (rsO pp qq 10))) ([.ref qk] : List Value).toArray s 0 0 (fun _ => False)) (F0 m 6 ls []) := by
    intro k
    induction k with
    | zero =>
      intro v hv9 ls hl
      refine lv_iload_n hx hb dX1_risen_6 rfl (lv_at hl 0 rfl) ?_
      refine lv_bipush (v := 10) hx hb dX1_risen_7 (by decide) ?_
      refine lv_icmp_ge (tgt := 47) hx hb dX1_risen_9 (by decide) (fun q => ?_) (fun q => ?_)
      · refine lv_iload_n hx hb dX1_risen_47 rfl (lv_at hl 1 rfl) ?_
        exact edI hx hb hr hlocks dX1_risen_48 (by rw [rsO_cR, show v = 10 by omega])
      · exact absurd (nI_le (show 10 ≤ v by omega) (by omega)) q
    | succ k ih =>
      intro v hv9 ls hl
      refine lv_iload_n hx hb dX1_risen_6 rfl (lv_at hl 0 rfl) ?_
      refine lv_bipush (v := 10) hx hb dX1_risen_7 (by decide) ?_
      refine lv_icmp_ge (tgt := 47) hx hb dX1_risen_9 (by decide) (fun q => ?_) (fun q => ?_)
      · exact absurd q (nI_ge (show v < 10 by omega) (by decide))
      · obtain ⟨⟨e1, b1⟩, e2, b2⟩ := hfg v (by omega)
        refine lv_iload_n hx hb dX1_risen_12 rfl (lv_at hl 1 rfl) ?_
        refine lv_aload_n hx hb dX1_risen_13 rfl (lv_at hl 3 rfl) ?_
        refine va_get (D := dd) (ci := 1) (C := RX1) (T := TX1) (N := 5) (v := .ref qk2) hx hb hts hiX1 hown hK hP 0 rfl rfl 3 (by decide) (hts (.fieldLink RX1 22 "SliceDrift$Ranks" "seconds" "[I") (by decide +kernel)) (fun _ h9 => h9) rfl dX1_risen_14 ?_
        refine lv_iload_n hx hb dX1_risen_17 rfl (lv_at hl 0 rfl) ?_
        refine va_iald hx hb hK hP 2 0 rfl rfl (i := nI v) (vp_in_nI (show v < 10 from (by omega)) (by decide)) dX1_risen_18 ?_
        rw [nI_clamp (show v < 2 ^ 31 from Nat.lt_trans (show v < 10 from (by omega)) (by decide))]
        refine tpi (show (gA v : Int32) = nI (qq v) from e2) ?_
        refine lv_iconst (v := 2) hx hb dX1_risen_19 (by decide) ?_
        refine lv_iload_n hx hb dX1_risen_20 rfl (lv_at hl 2 rfl) ?_
        refine lv_imul hx hb dX1_risen_21 ?_
        refine tpi (show (2 * (nI (ps pp v)) : Int32) = nI (2 * ps pp v) from pk_mul 2 _) ?_
        refine lv_aload_n hx hb dX1_risen_22 rfl (lv_at hl 3 rfl) ?_
        refine va_get (D := dd) (ci := 1) (C := RX1) (T := TX1) (N := 5) (v := .ref qk1) hx hb hts hiX1 hown hK hP 0 rfl rfl 2 (by decide) (hts (.fieldLink RX1 18 "SliceDrift$Ranks" "firsts" "[I") (by decide +kernel)) (fun _ h9 => h9) rfl dX1_risen_23 ?_
        refine lv_iload_n hx hb dX1_risen_26 rfl (lv_at hl 0 rfl) ?_
        refine va_iald hx hb hK hP 1 0 rfl rfl (i := nI v) (vp_in_nI (show v < 10 from (by omega)) (by decide)) dX1_risen_27 ?_
        rw [nI_clamp (show v < 2 ^ 31 from Nat.lt_trans (show v < 10 from (by omega)) (by decide))]
        refine tpi (show (fA v : Int32) = nI (pp v) from e1) ?_
        refine lv_iadd hx hb dX1_risen_28 ?_
        refine tpi (show ((nI (2 * ps pp v)) + (nI (pp v)) : Int32) = nI (2 * ps pp v + pp v) from nI_add _ _) ?_
        refine lv_imul hx hb dX1_risen_29 ?_
        refine tpi (show ((nI (qq v)) * (nI (2 * ps pp v + pp v)) : Int32) = nI (qq v * (2 * ps pp v + pp v)) from pk_mul _ _) ?_
        refine lv_iadd hx hb dX1_risen_30 ?_
        refine tpi (show ((nI (cR pp qq v)) + (nI (qq v * (2 * ps pp v + pp v))) : Int32) = nI (cR pp qq (v + 1)) from nI_add _ _) ?_
        refine lv_istore_n (lv' := [(2, .int (nI (cR pp qq (v + 1)))), (3, .int (nI v)), (1, .int (nI (ps pp v))), (0, .ref qk)]) hx hb dX1_risen_31 rfl hl (by decide) rfl (fun ls hl => ?_)
        refine lv_iload_n hx hb dX1_risen_32 rfl (lv_at hl 2 rfl) ?_
        refine lv_aload_n hx hb dX1_risen_33 rfl (lv_at hl 3 rfl) ?_
        refine va_get (D := dd) (ci := 1) (C := RX1) (T := TX1) (N := 5) (v := .ref qk1) hx hb hts hiX1 hown hK hP 0 rfl rfl 2 (by decide) (hts (.fieldLink RX1 18 "SliceDrift$Ranks" "firsts" "[I") (by decide +kernel)) (fun _ h9 => h9) rfl dX1_risen_34 ?_
        refine lv_iload_n hx hb dX1_risen_37 rfl (lv_at hl 1 rfl) ?_
        refine va_iald hx hb hK hP 1 0 rfl rfl (i := nI v) (vp_in_nI (show v < 10 from (by omega)) (by decide)) dX1_risen_38 ?_
        rw [nI_clamp (show v < 2 ^ 31 from Nat.lt_trans (show v < 10 from (by omega)) (by decide))]
        refine tpi (show (fA v : Int32) = nI (pp v) from e1) ?_
        refine lv_iadd hx hb dX1_risen_39 ?_
        refine tpi (show ((nI (ps pp v)) + (nI (pp v)) : Int32) = nI (ps pp (v + 1)) from nI_add _ _) ?_
        refine lv_istore_n (lv' := [(1, .int (nI (ps pp (v + 1)))), (2, .int (nI (cR pp qq (v + 1)))), (3, .int (nI v)), (0, .ref qk)]) hx hb dX1_risen_40 rfl hl (by decide) rfl (fun ls hl => ?_)
        refine lv_iinc (v := nI (v + 1)) (lv' := [(3, .int (nI (v + 1))), (1, .int (nI (ps pp (v + 1)))), (2, .int (nI (cR pp qq (v + 1)))), (0, .ref qk)]) hx hb dX1_risen_41 hl (k := 2) rfl (nI_1 v) (by decide) rfl (fun ls hl => ?_)
        refine lv_goto (tgt := 6) hx hb dX1_risen_44 (by decide) ?_
        exact ih (v + 1) (by omega) ls (lv_sub hl [0, 2, 1, 3] rfl)
  exact loop 10 0 rfl ls (lv_sub hl [0, 1, 2, 3] rfl)
