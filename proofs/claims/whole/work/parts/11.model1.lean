/-- the reference's object: the arrays by their addresses, the numbers -/
abbrev mo (a : Nat → Nat) (th ro li fm sm : Int32) (ab be : Int64) (st al : Int32) : List Value := [.int th, .int ro, .ref (a 2), .ref (a 3), .ref (a 4), .int li, .ref (a 6), .ref (a 7), .ref (a 8), .ref (a 9), .ref (a 10), .ref (a 11), .ref (a 12), .ref (a 13), .ref (a 14), .int fm, .int sm, .long ab, .long be, .ref (a 19), .ref (a 20), .ref (a 21), .ref (a 22), .ref (a 23), .int st, .int al, .ref (a 26), .ref (a 27), .ref (a 28), .ref (a 29)]

set_option maxHeartbeats 4000000 in
set_option maxRecDepth 100000 in
theorem r_in (l : Launch) (dd : va_G) (cyI cyJ cyZ : ClassId) (v b c0 : Int32) : Met l yX5_in wsX5_in ({ frames := 0, cells := 0, slots := 0, locals := 0 } : Room) (va_Pc [.int v, .int b, .int c0] (Rd dd [(cyI, .int), (cyJ, .long), (cyZ, .boolean)] [])) (vp_Si (fun r => (r = 1 ∧ b ≤ v ∧ v ≤ c0) ∨ (r = 0 ∧ ¬ (b ≤ v ∧ v ≤ c0)))) 0 0 (fun _ => False) := by
  refine mkR (cc := cX5_in) (maxL := 3) (by decide) rfl (Nat.le_of_ble_eq_true rfl) (lv0 := [(0, .int v), (1, .int b), (2, .int c0)]) rfl ?_
  intro p e s m below meth c ls hx hb hr hml hown hlocks hts hN hP hK hl
  have hown : s.vm.findClass RX5 = some m.cls := hown
  refine lv_iload_n hx hb dX5_in_0 rfl (lv_at hl 0 rfl) ?_
  refine lv_iload_n hx hb dX5_in_1 rfl (lv_at hl 1 rfl) ?_
  refine lv_icmp_lt (tgt := 14) hx hb dX5_in_2 (by decide) (fun k1 => ?_) (fun k1 => ?_)
  · refine lv_iconst (v := 0) hx hb dX5_in_14 (by decide) ?_
    exact edZ hx hb hr hlocks dX5_in_15 rfl (Or.inr ⟨rfl, fun q => ilt k1 q.1⟩)
  · refine lv_iload_n hx hb dX5_in_5 rfl (lv_at hl 0 rfl) ?_
    refine lv_iload_n hx hb dX5_in_6 rfl (lv_at hl 2 rfl) ?_
    refine lv_icmp_gt (tgt := 14) hx hb dX5_in_7 (by decide) (fun k2 => ?_) (fun k2 => ?_)
    · refine lv_iconst (v := 0) hx hb dX5_in_14 (by decide) ?_
      exact edZ hx hb hr hlocks dX5_in_15 rfl (Or.inr ⟨rfl, fun q => ile q.2 k2⟩)
    · refine lv_iconst (v := 1) hx hb dX5_in_10 (by decide) ?_
      refine lv_goto (tgt := 15) hx hb dX5_in_11 (by decide) ?_
      exact edZ hx hb hr hlocks dX5_in_15 rfl (Or.inl ⟨rfl, inl k1, inl k2⟩)

set_option maxHeartbeats 4000000 in
set_option maxRecDepth 100000 in
theorem r_isWindow (l : Launch) (dd : va_G) (cyI cyJ cyZ : ClassId) (f t : Int32) : Met l yX5_isWindow wsX5_isWindow ({ frames := 0, cells := 0, slots := 0, locals := 0 } : Room) (va_Pc [.int f, .int t] (Rd dd [(cyI, .int), (cyJ, .long), (cyZ, .boolean)] [])) (vp_Si (fun r => (r = 1 ∧ 0 ≤ f ∧ f ≤ t ∧ t ≤ 1000) ∨ (r = 0 ∧ ¬ (0 ≤ f ∧ f ≤ t ∧ t ≤ 1000)))) 0 0 (fun _ => False) := by
  refine mkR (cc := cX5_isWindow) (maxL := 2) (by decide) rfl (Nat.le_of_ble_eq_true rfl) (lv0 := [(0, .int f), (1, .int t)]) rfl ?_
  intro p e s m below meth c ls hx hb hr hml hown hlocks hts hN hP hK hl
  have hown : s.vm.findClass RX5 = some m.cls := hown
  refine lv_iload_n hx hb dX5_isWindow_0 rfl (lv_at hl 0 rfl) ?_
  refine lv_if_lt (tgt := 20) hx hb dX5_isWindow_1 (by decide) (fun k1 => ?_) (fun k1 => ?_)
  · refine lv_iconst (v := 0) hx hb dX5_isWindow_20 (by decide) ?_
    exact edZ hx hb hr hlocks dX5_isWindow_21 rfl (Or.inr ⟨rfl, fun q => ilt k1 q.1⟩)
  · refine lv_iload_n hx hb dX5_isWindow_4 rfl (lv_at hl 0 rfl) ?_
    refine lv_iload_n hx hb dX5_isWindow_5 rfl (lv_at hl 1 rfl) ?_
    refine lv_icmp_gt (tgt := 20) hx hb dX5_isWindow_6 (by decide) (fun k2 => ?_) (fun k2 => ?_)
    · refine lv_iconst (v := 0) hx hb dX5_isWindow_20 (by decide) ?_
      exact edZ hx hb hr hlocks dX5_isWindow_21 rfl (Or.inr ⟨rfl, fun q => ile q.2.1 k2⟩)
    · refine lv_iload_n hx hb dX5_isWindow_9 rfl (lv_at hl 1 rfl) ?_
      refine lv_sipush (v := 1000) hx hb dX5_isWindow_10 (by decide) ?_
      refine lv_icmp_gt (tgt := 20) hx hb dX5_isWindow_13 (by decide) (fun k3 => ?_) (fun k3 => ?_)
      · refine lv_iconst (v := 0) hx hb dX5_isWindow_20 (by decide) ?_
        exact edZ hx hb hr hlocks dX5_isWindow_21 rfl (Or.inr ⟨rfl, fun q => ile q.2.2 k3⟩)
      · refine lv_iconst (v := 1) hx hb dX5_isWindow_16 (by decide) ?_
        refine lv_goto (tgt := 21) hx hb dX5_isWindow_17 (by decide) ?_
        exact edZ hx hb hr hlocks dX5_isWindow_21 rfl (Or.inl ⟨rfl, inl k1, inl k2, inl k3⟩)

set_option maxHeartbeats 4000000 in
set_option maxRecDepth 100000 in
theorem r_areWindows (l : Launch) (dd : va_G) (cyI cyJ cyZ : ClassId) (f b t : Int32) : Met l yX5_areWindows wsX5_areWindows ({ frames := 1, cells := 0, slots := 0, locals := 21 } : Room) (va_Pc [.int f, .int b, .int t] (Rd dd [(cyI, .int), (cyJ, .long), (cyZ, .boolean)] [])) (vp_Si (fun r => (r = 1 ∧ 0 ≤ f ∧ f ≤ b ∧ b ≤ t ∧ t ≤ 1000) ∨ (r = 0 ∧ ¬ (0 ≤ f ∧ f ≤ b ∧ b ≤ t ∧ t ≤ 1000)))) 0 0 (fun _ => False) := by
  refine mkR (cc := cX5_areWindows) (maxL := 3) (by decide) rfl (Nat.le_of_ble_eq_true rfl) (lv0 := [(0, .int f), (1, .int b), (2, .int t)]) rfl ?_
  intro p e s m below meth c ls hx hb hr hml hown hlocks hts hN hP hK hl
  have hown : s.vm.findClass RX5 = some m.cls := hown
  have tr : ∀ {x y z : Int32}, x ≤ y → y ≤ z → x ≤ z := fun h1 h2 => by rw [Int32.le_iff_toInt_le] at *; omega
  refine lv_iload_n hx hb dX5_areWindows_0 rfl (lv_at hl 0 rfl) ?_
  refine lv_iload_n hx hb dX5_areWindows_1 rfl (lv_at hl 1 rfl) ?_
  refine clSi (As := [.int f, .int b]) (rest := []) ⟨hx, hb, hml, hown, hts⟩ (r_isWindow l dd cyI cyJ cyZ f b) gX5_areWindows_X5_isWindow (n := 2) rfl ⟨rfl, rfl⟩ (by decide +kernel) ⟨Nat.le_of_ble_eq_true rfl, Nat.le_of_ble_eq_true rfl⟩ hN hK (hP.sub [] rfl) rfl hl.1 rfl (Nat.le_of_ble_eq_true rfl) dX5_areWindows_2 ⟨Nat.le_of_ble_eq_true rfl, Nat.le_of_ble_eq_true rfl⟩ (fun r1 h1 => ?_)
  refine lv_if_eq (tgt := 20) hx hb dX5_areWindows_5 (by decide) (fun q1 => ?_) (fun q1 => ?_)
  · refine lv_iconst (v := 0) hx hb dX5_areWindows_20 (by decide) ?_
    have hn : ¬ (0 ≤ f ∧ f ≤ b ∧ b ≤ 1000) := h1.elim (fun h => absurd (h.1.symm.trans q1) (by decide)) (fun h => h.2)
    exact edZ hx hb hr hlocks dX5_areWindows_21 rfl (Or.inr ⟨rfl, fun h => hn ⟨h.1, h.2.1, tr h.2.2.1 h.2.2.2⟩⟩)
  · have h1 : 0 ≤ f ∧ f ≤ b ∧ b ≤ 1000 := h1.elim (fun h => h.2) (fun h => absurd h.1 q1)
    refine lv_iload_n hx hb dX5_areWindows_8 rfl (lv_at hl 1 rfl) ?_
    refine lv_iload_n hx hb dX5_areWindows_9 rfl (lv_at hl 2 rfl) ?_
    refine clSi (As := [.int b, .int t]) (rest := []) ⟨hx, hb, hml, hown, hts⟩ (r_isWindow l dd cyI cyJ cyZ b t) gX5_areWindows_X5_isWindow (n := 2) rfl ⟨rfl, rfl⟩ (by decide +kernel) ⟨Nat.le_of_ble_eq_true rfl, Nat.le_of_ble_eq_true rfl⟩ hN hK (hP.sub [] rfl) rfl hl.1 rfl (Nat.le_of_ble_eq_true rfl) dX5_areWindows_10 ⟨Nat.le_of_ble_eq_true rfl, Nat.le_of_ble_eq_true rfl⟩ (fun r2 h2 => ?_)
    refine lv_if_eq (tgt := 20) hx hb dX5_areWindows_13 (by decide) (fun q2 => ?_) (fun q2 => ?_)
    · refine lv_iconst (v := 0) hx hb dX5_areWindows_20 (by decide) ?_
      have hn : ¬ (0 ≤ b ∧ b ≤ t ∧ t ≤ 1000) := h2.elim (fun h => absurd (h.1.symm.trans q2) (by decide)) (fun h => h.2)
      exact edZ hx hb hr hlocks dX5_areWindows_21 rfl (Or.inr ⟨rfl, fun h => hn ⟨tr h.1 h.2.1, h.2.2.1, h.2.2.2⟩⟩)
    · have h2 : 0 ≤ b ∧ b ≤ t ∧ t ≤ 1000 := h2.elim (fun h => h.2) (fun h => absurd h.1 q2)
      refine lv_iconst (v := 1) hx hb dX5_areWindows_16 (by decide) ?_
      refine lv_goto (tgt := 21) hx hb dX5_areWindows_17 (by decide) ?_
      exact edZ hx hb hr hlocks dX5_areWindows_21 rfl (Or.inl ⟨rfl, h1.1, h1.2.1, h2.2.1, h2.2.2⟩)

set_option maxHeartbeats 4000000 in
set_option maxRecDepth 100000 in
theorem r_isIn (l : Launch) (dd : va_G) (cyI cyJ cyZ : ClassId) (qm : Nat) (a : Nat → Nat) (th ro li fm sm : Int32) (ab be : Int64) (st al : Int32) (tI : Nat → Int32) (i : Nat) (hi : i < 48) (f t : Int32) : Met l yX5_isIn wsX5_isIn ({ frames := 0, cells := 0, slots := 0, locals := 0 } : Room) (va_Pc [.ref qm, .int (nI i), .int f, .int t] (Rd dd [(cyI, .int), (cyJ, .long), (cyZ, .boolean)] [(qm, .inr (5, mo a th ro li fm sm ab be st al)), (a 2, .inl (cyI, 48, .inl tI))])) (vp_Si (fun r => r = if win tI f t i = true then 1 else 0)) 0 0 (fun _ => False) := by
  refine mkR (cc := cX5_isIn) (maxL := 4) (by decide) rfl (Nat.le_of_ble_eq_true rfl) (lv0 := [(0, .ref qm), (1, .int (nI i)), (2, .int f), (3, .int t)]) rfl ?_
  intro p e s m below meth c ls hx hb hr hml hown hlocks hts hN hP hK hl
  have hown : s.vm.findClass RX5 = some m.cls := hown
  have hiX5 : ∀ w ∈ wsX50, w ∈ wsX5_isIn := by decide +kernel
  refine lv_aload_n hx hb dX5_isIn_0 rfl (lv_at hl 0 rfl) ?_
  refine va_get (D := dd) (ci := 5) (C := RX5) (T := TX5) (N := 30) (v := .ref (a 2)) hx hb hts hiX5 hown hK hP 0 rfl rfl 2 (by decide) (hts (.fieldLink RX5 7 "SliceDriftModel" "time" "[I") (by decide +kernel)) (fun _ h9 => h9) rfl dX5_isIn_1 ?_
  refine lv_iload_n hx hb dX5_isIn_4 rfl (lv_at hl 1 rfl) ?_
  refine va_iald hx hb hK hP 1 0 rfl rfl (i := nI i) (vp_in_nI (show i < 48 from hi) (by decide)) dX5_isIn_5 ?_
  rw [nI_clamp (show i < 2 ^ 31 from Nat.lt_trans (show i < 48 from hi) (by decide))]
  refine lv_iload_n hx hb dX5_isIn_6 rfl (lv_at hl 2 rfl) ?_
  refine lv_icmp_lt (tgt := 24) hx hb dX5_isIn_7 (by decide) (fun q1 => ?_) (fun q1 => ?_)
  · refine lv_iconst (v := 0) hx hb dX5_isIn_24 (by decide) ?_
    exact edZ hx hb hr hlocks dX5_isIn_25 rfl (by rw [if_neg (by simp [win, ilt q1])])
  · refine lv_aload_n hx hb dX5_isIn_10 rfl (lv_at hl 0 rfl) ?_
    refine va_get (D := dd) (ci := 5) (C := RX5) (T := TX5) (N := 30) (v := .ref (a 2)) hx hb hts hiX5 hown hK hP 0 rfl rfl 2 (by decide) (hts (.fieldLink RX5 7 "SliceDriftModel" "time" "[I") (by decide +kernel)) (fun _ h9 => h9) rfl dX5_isIn_11 ?_
    refine lv_iload_n hx hb dX5_isIn_14 rfl (lv_at hl 1 rfl) ?_
    refine va_iald hx hb hK hP 1 0 rfl rfl (i := nI i) (vp_in_nI (show i < 48 from hi) (by decide)) dX5_isIn_15 ?_
    rw [nI_clamp (show i < 2 ^ 31 from Nat.lt_trans (show i < 48 from hi) (by decide))]
    refine lv_iload_n hx hb dX5_isIn_16 rfl (lv_at hl 3 rfl) ?_
    refine lv_icmp_ge (tgt := 24) hx hb dX5_isIn_17 (by decide) (fun q2 => ?_) (fun q2 => ?_)
    · refine lv_iconst (v := 0) hx hb dX5_isIn_24 (by decide) ?_
      exact edZ hx hb hr hlocks dX5_isIn_25 rfl (by rw [if_neg (by simp [win, ile q2])])
    · refine lv_iconst (v := 1) hx hb dX5_isIn_20 (by decide) ?_
      refine lv_goto (tgt := 25) hx hb dX5_isIn_21 (by decide) ?_
      exact edZ hx hb hr hlocks dX5_isIn_25 rfl (by rw [if_pos (by simp [win, inl q1, inle q2])])

set_option maxHeartbeats 4000000 in
set_option maxRecDepth 100000 in
theorem r_rowsOf (l : Launch) (dd : va_G) (cyI cyJ cyZ : ClassId) (qm : Nat) (a : Nat → Nat) (th li fm sm : Int32) (ab be : Int64) (st al : Int32) (n : Nat) (hn : n ≤ 48) (sI : Nat → Int32) (co k : Nat) (hco : co < 5) : Met l yX5_rowsOf wsX5_rowsOf ({ frames := 0, cells := 0, slots := 0, locals := 0 } : Room) (va_Pc [.ref qm, .int (nI co), .int (nI k)] (Rd dd [(cyI, .int), (cyJ, .long), (cyZ, .boolean)] [(qm, .inr (5, mo a th (nI n) li fm sm ab be st al)), (a 4, .inl (cyI, 240, .inl sI))])) (vp_Sl (fun r => r = lN (mk (hav sI co k) n))) 0 0 (fun _ => False) := by
  refine mkR (cc := cX5_rowsOf) (maxL := 6) (by decide) rfl (Nat.le_of_ble_eq_true rfl) (lv0 := [(0, .ref qm), (1, .int (nI co)), (2, .int (nI k))]) rfl ?_
  intro p e s m below meth c ls hx hb hr hml hown hlocks hts hN hP hK hl
  have hown : s.vm.findClass RX5 = some m.cls := hown
  have hiX5 : ∀ w ∈ wsX50, w ∈ wsX5_rowsOf := by decide +kernel
  refine lv_lconst (v := 0) hx hb dX5_rowsOf_0 (by decide) ?_
  refine lv_lstore_n (lv' := [(3, .long 0), (0, .ref qm), (1, .int (nI co)), (2, .int (nI k))]) hx hb dX5_rowsOf_1 rfl hl (by decide) rfl (fun ls hl => ?_)
  refine lv_iconst (v := 0) hx hb dX5_rowsOf_2 (by decide) ?_
  refine lv_istore (lv' := [(5, .int 0), (3, .long 0), (0, .ref qm), (1, .int (nI co)), (2, .int (nI k))]) hx hb dX5_rowsOf_3 hl (by decide) rfl (fun ls hl => ?_)
  have loop : ∀ (k9 : Nat) (i : Nat), i + k9 = n → ∀ ls : Array Slot, lv_has ls 6 [(5, .int (nI i)), (3, .long (lN (mk (hav sI co k) i))), (0, .ref qm), (1, .int (nI co)), (2, .int (nI k))] → W p l e ({ frames := 0, cells := 0, slots := 0, locals := 0 } : Room) s m ([.ref qm, .int (nI co), .int (nI k)] : List Value).toArray below meth c s.heap [] 0 0 (MQ below (vp_Sl (fun r => r = lN (mk (hav sI co k) n))) ([.ref qm, .int (nI co), .int (nI k)] : List Value).toArray s 0 0 (fun _ => False)) (F0 m 5 ls []) := by
    intro k9
    induction k9 with
    | zero =>
      intro i hi9 ls hl
      refine lv_iload hx hb dX5_rowsOf_5 (lv_at hl 0 rfl) ?_
      refine lv_aload_n hx hb dX5_rowsOf_7 rfl (lv_at hl 2 rfl) ?_
      refine va_get (D := dd) (ci := 5) (C := RX5) (T := TX5) (N := 30) (v := .int (nI n)) hx hb hts hiX5 hown hK hP 0 rfl rfl 1 (by decide) (hts (.fieldLink RX5 84 "SliceDriftModel" "rows" "I") (by decide +kernel)) (fun _ h9 => h9) rfl dX5_rowsOf_8 ?_
      refine lv_icmp_ge (tgt := 46) hx hb dX5_rowsOf_11 (by decide) (fun q => ?_) (fun q => ?_)
      · refine lv_lload_n hx hb dX5_rowsOf_46 rfl (lv_at hl 1 rfl) ?_
        exact edL hx hb hr hlocks dX5_rowsOf_47 (by rw [show n = i by omega])
      · exact absurd (nI_le (show n ≤ i by omega) (by omega)) q
    | succ k9 ih =>
      intro i hi9 ls hl
      refine lv_iload hx hb dX5_rowsOf_5 (lv_at hl 0 rfl) ?_
      refine lv_aload_n hx hb dX5_rowsOf_7 rfl (lv_at hl 2 rfl) ?_
      refine va_get (D := dd) (ci := 5) (C := RX5) (T := TX5) (N := 30) (v := .int (nI n)) hx hb hts hiX5 hown hK hP 0 rfl rfl 1 (by decide) (hts (.fieldLink RX5 84 "SliceDriftModel" "rows" "I") (by decide +kernel)) (fun _ h9 => h9) rfl dX5_rowsOf_8 ?_
      refine lv_icmp_ge (tgt := 46) hx hb dX5_rowsOf_11 (by decide) (fun q => ?_) (fun q => ?_)
      · exact absurd q (nI_ge (show i < n by omega) (by omega))
      · refine lv_lload_n hx hb dX5_rowsOf_14 rfl (lv_at hl 1 rfl) ?_
        refine lv_aload_n hx hb dX5_rowsOf_15 rfl (lv_at hl 2 rfl) ?_
        refine va_get (D := dd) (ci := 5) (C := RX5) (T := TX5) (N := 30) (v := .ref (a 4)) hx hb hts hiX5 hown hK hP 0 rfl rfl 4 (by decide) (hts (.fieldLink RX5 17 "SliceDriftModel" "sort" "[I") (by decide +kernel)) (fun _ h9 => h9) rfl dX5_rowsOf_16 ?_
        refine lv_iconst (v := 5) hx hb dX5_rowsOf_19 (by decide) ?_
        refine lv_iload hx hb dX5_rowsOf_20 (lv_at hl 0 rfl) ?_
        refine lv_imul hx hb dX5_rowsOf_22 ?_
        refine lv_iload_n hx hb dX5_rowsOf_23 rfl (lv_at hl 3 rfl) ?_
        refine lv_iadd hx hb dX5_rowsOf_24 ?_
        refine tpi (show ((5 * (nI i)) + (nI co) : Int32) = nI (5 * i + co) from by rw [show (5 : Int32) = nI 5 from rfl, pk_mul, nI_add]) ?_
        refine va_iald hx hb hK hP 1 0 rfl rfl (i := nI (5 * i + co)) (vp_in_nI (show (5 * i + co) < 240 from (by omega)) (by decide)) dX5_rowsOf_25 ?_
        rw [nI_clamp (show (5 * i + co) < 2 ^ 31 from Nat.lt_trans (show (5 * i + co) < 240 from (by omega)) (by decide))]
        refine lv_iload_n hx hb dX5_rowsOf_26 rfl (lv_at hl 4 rfl) ?_
        refine lv_icmp_ne (tgt := 37) hx hb dX5_rowsOf_27 (by decide) (fun q2 => ?_) (fun q2 => ?_)
        · refine lv_lconst (v := 0) hx hb dX5_rowsOf_37 (by decide) ?_
          refine lv_lor hx hb dX5_rowsOf_38 ?_
          refine tpl (show ((lN (mk (hav sI co k) i)) ||| 0 : Int64) = lN (mk (hav sI co k) (i + 1)) from by rw [mk_skip (f := hav sI co k) (decide_eq_false q2), Int64.or_zero]) ?_
          refine lv_lstore_n (lv' := [(3, .long (lN (mk (hav sI co k) (i + 1)))), (5, .int (nI i)), (0, .ref qm), (1, .int (nI co)), (2, .int (nI k))]) hx hb dX5_rowsOf_39 rfl hl (by decide) rfl (fun ls hl => ?_)
          refine lv_iinc (v := nI (i + 1)) (lv' := [(5, .int (nI (i + 1))), (3, .long (lN (mk (hav sI co k) (i + 1)))), (0, .ref qm), (1, .int (nI co)), (2, .int (nI k))]) hx hb dX5_rowsOf_40 hl (k := 1) rfl (nI_1 i) (by decide) rfl (fun ls hl => ?_)
          refine lv_goto (tgt := 5) hx hb dX5_rowsOf_43 (by decide) ?_
          exact ih (i + 1) (by omega) ls (lv_sub hl [0, 1, 2, 3, 4] rfl)
        · refine lv_lconst (v := 1) hx hb dX5_rowsOf_30 (by decide) ?_
          refine lv_iload hx hb dX5_rowsOf_31 (lv_at hl 0 rfl) ?_
          refine lv_lshl hx hb dX5_rowsOf_33 rfl ?_
          refine tpl (show (1 <<< ((nI i).toInt64 &&& 63) : Int64) = lN (2 ^ i) from shl1 (by omega)) ?_
          refine lv_goto (tgt := 38) hx hb dX5_rowsOf_34 (by decide) ?_
          refine lv_lor hx hb dX5_rowsOf_38 ?_
          refine tpl (show ((lN (mk (hav sI co k) i)) ||| (lN (2 ^ i)) : Int64) = lN (mk (hav sI co k) (i + 1)) from lor_top (by omega) (decide_eq_true q2)) ?_
          refine lv_lstore_n (lv' := [(3, .long (lN (mk (hav sI co k) (i + 1)))), (5, .int (nI i)), (0, .ref qm), (1, .int (nI co)), (2, .int (nI k))]) hx hb dX5_rowsOf_39 rfl hl (by decide) rfl (fun ls hl => ?_)
          refine lv_iinc (v := nI (i + 1)) (lv' := [(5, .int (nI (i + 1))), (3, .long (lN (mk (hav sI co k) (i + 1)))), (0, .ref qm), (1, .int (nI co)), (2, .int (nI k))]) hx hb dX5_rowsOf_40 hl (k := 1) rfl (nI_1 i) (by decide) rfl (fun ls hl => ?_)
          refine lv_goto (tgt := 5) hx hb dX5_rowsOf_43 (by decide) ?_
          exact ih (i + 1) (by omega) ls (lv_sub hl [0, 1, 2, 3, 4] rfl)
  exact loop n 0 (by omega) ls (lv_sub hl [0, 1, 2, 3, 4] rfl)

/-- a long's bits as its shifts tell them -/
def bits (b : Int64) (t : Nat → Bool) : Prop := ∀ r, r < 48 → b >>> ((nI r).toInt64 &&& 63) &&& 1 = if t r = true then 1 else 0
theorem shc : ∀ r, r < 48 → (((nI r).toInt64 &&& 63).toBitVec.smod 64).toNat = r := by decide +kernel
theorem bits_lN {x : Nat} (h : x < 2 ^ 62) : bits (lN x) x.testBit := by
  intro r hr
  rw [pf_shr (shc r hr) h, wb_a1 (by have := Nat.div_le_self x (2 ^ r); omega), Nat.testBit_eq_decide_div_mod_eq]
  rcases Nat.mod_two_eq_zero_or_one (x / 2 ^ r) with e | e
  · rw [e]; rfl
  · rw [e]; rfl
theorem bits_m1 : bits (-1) (fun _ => true) := by
  unfold bits
  decide +kernel

set_option maxHeartbeats 4000000 in
set_option maxRecDepth 100000 in
theorem r_countOf (l : Launch) (dd : va_G) (cyI cyJ cyZ : ClassId) (b : Int64) (f : Nat → Bool) (hbt : bits b f) : Met l yX5_countOf wsX5_countOf ({ frames := 0, cells := 0, slots := 0, locals := 0 } : Room) (va_Pc [.long b] (Rd dd [(cyI, .int), (cyJ, .long), (cyZ, .boolean)] [])) (vp_Si (fun r => r = nI (cnt f 48))) 0 0 (fun _ => False) := by
  refine mkR (cc := cX5_countOf) (maxL := 4) (by decide) rfl (Nat.le_of_ble_eq_true rfl) (lv0 := [(0, .long b)]) rfl ?_
  intro p e s m below meth c ls hx hb hr hml hown hlocks hts hN hP hK hl
  have hown : s.vm.findClass RX5 = some m.cls := hown
  refine lv_iconst (v := 0) hx hb dX5_countOf_0 (by decide) ?_
  refine lv_istore_n (lv' := [(2, .int 0), (0, .long b)]) hx hb dX5_countOf_1 rfl hl (by decide) rfl (fun ls hl => ?_)
  refine lv_iconst (v := 0) hx hb dX5_countOf_2 (by decide) ?_
  refine lv_istore_n (lv' := [(3, .int 0), (2, .int 0), (0, .long b)]) hx hb dX5_countOf_3 rfl hl (by decide) rfl (fun ls hl => ?_)
  have loop : ∀ (k : Nat) (i : Nat), i + k = 48 → ∀ ls : Array Slot, lv_has ls 4 [(3, .int (nI i)), (2, .int (nI (cnt f i))), (0, .long b)] → W p l e ({ frames := 0, cells := 0, slots := 0, locals := 0 } : Room) s m ([.long b] : List Value).toArray below meth c s.heap [] 0 0 (MQ below (vp_Si (fun r => r = nI (cnt f 48))) ([.long b] : List Value).toArray s 0 0 (fun _ => False)) (F0 m 4 ls []) := by
    intro k
    induction k with
    | zero =>
      intro i hi9 ls hl
      refine lv_iload_n hx hb dX5_countOf_4 rfl (lv_at hl 0 rfl) ?_
      refine lv_bipush (v := 48) hx hb dX5_countOf_5 (by decide) ?_
      refine lv_icmp_ge (tgt := 25) hx hb dX5_countOf_7 (by decide) (fun q => ?_) (fun q => ?_)
      · refine lv_iload_n hx hb dX5_countOf_25 rfl (lv_at hl 1 rfl) ?_
        exact edI hx hb hr hlocks dX5_countOf_26 (by rw [show i = 48 by omega])
      · exact absurd (nI_le (show 48 ≤ i by omega) (by omega)) q
    | succ k ih =>
      intro i hi9 ls hl
      refine lv_iload_n hx hb dX5_countOf_4 rfl (lv_at hl 0 rfl) ?_
      refine lv_bipush (v := 48) hx hb dX5_countOf_5 (by decide) ?_
      refine lv_icmp_ge (tgt := 25) hx hb dX5_countOf_7 (by decide) (fun q => ?_) (fun q => ?_)
      · exact absurd q (nI_ge (show i < 48 by omega) (by decide))
      · refine lv_iload_n hx hb dX5_countOf_10 rfl (lv_at hl 1 rfl) ?_
        refine lv_lload_n hx hb dX5_countOf_11 rfl (lv_at hl 2 rfl) ?_
        refine lv_iload_n hx hb dX5_countOf_12 rfl (lv_at hl 0 rfl) ?_
        refine lv_lshr hx hb dX5_countOf_13 rfl ?_
        refine lv_lconst (v := 1) hx hb dX5_countOf_14 (by decide) ?_
        refine lv_land hx hb dX5_countOf_15 ?_
        refine tpl (show ((b >>> ((nI i).toInt64 &&& 63)) &&& 1 : Int64) = if f i = true then (1 : Int64) else 0 from hbt i (by omega)) ?_
        refine lv_l2i hx hb dX5_countOf_16 rfl ?_
        refine lv_iadd hx hb dX5_countOf_17 ?_
        refine tpi (show ((nI (cnt f i)) + ((if f i = true then (1 : Int64) else 0).toInt32) : Int32) = nI (cnt f (i + 1)) from by simp only [cnt]; rw [← nI_add]; cases f i <;> rfl) ?_
        refine lv_istore_n (lv' := [(2, .int (nI (cnt f (i + 1)))), (3, .int (nI i)), (0, .long b)]) hx hb dX5_countOf_18 rfl hl (by decide) rfl (fun ls hl => ?_)
        refine lv_iinc (v := nI (i + 1)) (lv' := [(3, .int (nI (i + 1))), (2, .int (nI (cnt f (i + 1)))), (0, .long b)]) hx hb dX5_countOf_19 hl (k := 1) rfl (nI_1 i) (by decide) rfl (fun ls hl => ?_)
        refine lv_goto (tgt := 4) hx hb dX5_countOf_22 (by decide) ?_
        exact ih (i + 1) (by omega) ls (lv_sub hl [0, 1, 2] rfl)
  exact loop 48 0 rfl ls (lv_sub hl [0, 1, 2] rfl)

set_option maxHeartbeats 4000000 in
set_option maxRecDepth 100000 in
theorem r_hitsOf (l : Launch) (dd : va_G) (cyI cyJ cyZ : ClassId) (qm : Nat) (a : Nat → Nat) (th li fm sm : Int32) (ab be : Int64) (st al : Int32) (n : Nat) (hn : n ≤ 48) (hI : Nat → Int32) (b : Int64) (f : Nat → Bool) (hbt : bits b f) : Met l yX5_hitsOf wsX5_hitsOf ({ frames := 0, cells := 0, slots := 0, locals := 0 } : Room) (va_Pc [.ref qm, .long b] (Rd dd [(cyI, .int), (cyJ, .long), (cyZ, .boolean)] [(qm, .inr (5, mo a th (nI n) li fm sm ab be st al)), (a 3, .inl (cyZ, 48, .inl hI))])) (vp_Si (fun r => r = nI (cnt (fun i => f i && hit hI i) n))) 0 0 (fun _ => False) := by
  refine mkR (cc := cX5_hitsOf) (maxL := 5) (by decide) rfl (Nat.le_of_ble_eq_true rfl) (lv0 := [(0, .ref qm), (1, .long b)]) rfl ?_
  intro p e s m below meth c ls hx hb hr hml hown hlocks hts hN hP hK hl
  have hown : s.vm.findClass RX5 = some m.cls := hown
  have hiX5 : ∀ w ∈ wsX50, w ∈ wsX5_hitsOf := by decide +kernel
  refine lv_iconst (v := 0) hx hb dX5_hitsOf_0 (by decide) ?_
  refine lv_istore_n (lv' := [(3, .int 0), (0, .ref qm), (1, .long b)]) hx hb dX5_hitsOf_1 rfl hl (by decide) rfl (fun ls hl => ?_)
  refine lv_iconst (v := 0) hx hb dX5_hitsOf_2 (by decide) ?_
  refine lv_istore (lv' := [(4, .int 0), (3, .int 0), (0, .ref qm), (1, .long b)]) hx hb dX5_hitsOf_3 hl (by decide) rfl (fun ls hl => ?_)
  have loop : ∀ (k : Nat) (i : Nat), i + k = n → ∀ ls : Array Slot, lv_has ls 5 [(4, .int (nI i)), (3, .int (nI (cnt (fun i => f i && hit hI i) i))), (0, .ref qm), (1, .long b)] → W p l e ({ frames := 0, cells := 0, slots := 0, locals := 0 } : Room) s m ([.ref qm, .long b] : List Value).toArray below meth c s.heap [] 0 0 (MQ below (vp_Si (fun r => r = nI (cnt (fun i => f i && hit hI i) n))) ([.ref qm, .long b] : List Value).toArray s 0 0 (fun _ => False)) (F0 m 5 ls []) := by
    intro k
    induction k with
    | zero =>
      intro i hi9 ls hl
      refine lv_iload hx hb dX5_hitsOf_5 (lv_at hl 0 rfl) ?_
      refine lv_aload_n hx hb dX5_hitsOf_7 rfl (lv_at hl 2 rfl) ?_
      refine va_get (D := dd) (ci := 5) (C := RX5) (T := TX5) (N := 30) (v := .int (nI n)) hx hb hts hiX5 hown hK hP 0 rfl rfl 1 (by decide) (hts (.fieldLink RX5 84 "SliceDriftModel" "rows" "I") (by decide +kernel)) (fun _ h9 => h9) rfl dX5_hitsOf_8 ?_
      refine lv_icmp_ge (tgt := 49) hx hb dX5_hitsOf_11 (by decide) (fun q => ?_) (fun q => ?_)
      · refine lv_iload_n hx hb dX5_hitsOf_49 rfl (lv_at hl 1 rfl) ?_
        exact edI hx hb hr hlocks dX5_hitsOf_50 (by rw [show n = i by omega])
      · exact absurd (nI_le (show n ≤ i by omega) (by omega)) q
    | succ k ih =>
      intro i hi9 ls hl
      refine lv_iload hx hb dX5_hitsOf_5 (lv_at hl 0 rfl) ?_
      refine lv_aload_n hx hb dX5_hitsOf_7 rfl (lv_at hl 2 rfl) ?_
      refine va_get (D := dd) (ci := 5) (C := RX5) (T := TX5) (N := 30) (v := .int (nI n)) hx hb hts hiX5 hown hK hP 0 rfl rfl 1 (by decide) (hts (.fieldLink RX5 84 "SliceDriftModel" "rows" "I") (by decide +kernel)) (fun _ h9 => h9) rfl dX5_hitsOf_8 ?_
      refine lv_icmp_ge (tgt := 49) hx hb dX5_hitsOf_11 (by decide) (fun q => ?_) (fun q => ?_)
      · exact absurd q (nI_ge (show i < n by omega) (by omega))
      · refine lv_iload_n hx hb dX5_hitsOf_14 rfl (lv_at hl 1 rfl) ?_
        refine lv_lload_n hx hb dX5_hitsOf_15 rfl (lv_at hl 3 rfl) ?_
        refine lv_iload hx hb dX5_hitsOf_16 (lv_at hl 0 rfl) ?_
        refine lv_lshr hx hb dX5_hitsOf_18 rfl ?_
        refine lv_lconst (v := 1) hx hb dX5_hitsOf_19 (by decide) ?_
        refine lv_land hx hb dX5_hitsOf_20 ?_
        refine tpl (show ((b >>> ((nI i).toInt64 &&& 63)) &&& 1 : Int64) = if f i = true then (1 : Int64) else 0 from hbt i (by omega)) ?_
        refine lv_lconst (v := 1) hx hb dX5_hitsOf_21 (by decide) ?_
        refine W.lcmp hx hb dX5_hitsOf_22 ?_
        refine lv_if_ne (tgt := 40) hx hb dX5_hitsOf_23 (by decide) (fun q2 => ?_) (fun q2 => ?_)
        · have hf : f i = false := (Bool.not_eq_true _).mp (fun h => q2 (by rw [h]; decide))
          refine lv_iconst (v := 0) hx hb dX5_hitsOf_40 (by decide) ?_
          refine lv_iadd hx hb dX5_hitsOf_41 ?_
          refine tpi (show ((nI (cnt (fun i => f i && hit hI i) i)) + 0 : Int32) = nI (cnt (fun i => f i && hit hI i) (i + 1)) from by simp only [cnt, hf, Bool.false_and]; exact Int32.add_zero _) ?_
          refine lv_istore_n (lv' := [(3, .int (nI (cnt (fun i => f i && hit hI i) (i + 1)))), (4, .int (nI i)), (0, .ref qm), (1, .long b)]) hx hb dX5_hitsOf_42 rfl hl (by decide) rfl (fun ls hl => ?_)
          refine lv_iinc (v := nI (i + 1)) (lv' := [(4, .int (nI (i + 1))), (3, .int (nI (cnt (fun i => f i && hit hI i) (i + 1)))), (0, .ref qm), (1, .long b)]) hx hb dX5_hitsOf_43 hl (k := 1) rfl (nI_1 i) (by decide) rfl (fun ls hl => ?_)
          refine lv_goto (tgt := 5) hx hb dX5_hitsOf_46 (by decide) ?_
          exact ih (i + 1) (by omega) ls (lv_sub hl [0, 1, 2, 3] rfl)
        · have hf : f i = true := (Bool.not_eq_false _).mp (fun h => absurd q2 (by rw [h]; decide))
          refine lv_aload_n hx hb dX5_hitsOf_26 rfl (lv_at hl 2 rfl) ?_
          refine va_get (D := dd) (ci := 5) (C := RX5) (T := TX5) (N := 30) (v := .ref (a 3)) hx hb hts hiX5 hown hK hP 0 rfl rfl 3 (by decide) (hts (.fieldLink RX5 13 "SliceDriftModel" "isHit" "[Z") (by decide +kernel)) (fun _ h9 => h9) rfl dX5_hitsOf_27 ?_
          refine lv_iload hx hb dX5_hitsOf_30 (lv_at hl 0 rfl) ?_
          refine va_zald hx hb hK hP 1 2 rfl rfl (i := nI i) (vp_in_nI (show i < 48 from (by omega)) (by decide)) dX5_hitsOf_32 ?_
          rw [nI_clamp (show i < 2 ^ 31 from Nat.lt_trans (show i < 48 from (by omega)) (by decide))]
          refine lv_if_eq (tgt := 40) hx hb dX5_hitsOf_33 (by decide) (fun q3 => ?_) (fun q3 => ?_)
          · refine lv_iconst (v := 0) hx hb dX5_hitsOf_40 (by decide) ?_
            refine lv_iadd hx hb dX5_hitsOf_41 ?_
            refine tpi (show ((nI (cnt (fun i => f i && hit hI i) i)) + 0 : Int32) = nI (cnt (fun i => f i && hit hI i) (i + 1)) from by simp only [cnt, hf, hit, q3, Bool.true_and]; exact Int32.add_zero _) ?_
            refine lv_istore_n (lv' := [(3, .int (nI (cnt (fun i => f i && hit hI i) (i + 1)))), (4, .int (nI i)), (0, .ref qm), (1, .long b)]) hx hb dX5_hitsOf_42 rfl hl (by decide) rfl (fun ls hl => ?_)
            refine lv_iinc (v := nI (i + 1)) (lv' := [(4, .int (nI (i + 1))), (3, .int (nI (cnt (fun i => f i && hit hI i) (i + 1)))), (0, .ref qm), (1, .long b)]) hx hb dX5_hitsOf_43 hl (k := 1) rfl (nI_1 i) (by decide) rfl (fun ls hl => ?_)
            refine lv_goto (tgt := 5) hx hb dX5_hitsOf_46 (by decide) ?_
            exact ih (i + 1) (by omega) ls (lv_sub hl [0, 1, 2, 3] rfl)
          · refine lv_iconst (v := 1) hx hb dX5_hitsOf_36 (by decide) ?_
            refine lv_goto (tgt := 41) hx hb dX5_hitsOf_37 (by decide) ?_
            refine lv_iadd hx hb dX5_hitsOf_41 ?_
            refine tpi (show ((nI (cnt (fun i => f i && hit hI i) i)) + 1 : Int32) = nI (cnt (fun i => f i && hit hI i) (i + 1)) from by simp only [cnt, hf, hit, q3, Bool.true_and]; exact nI_1 _) ?_
            refine lv_istore_n (lv' := [(3, .int (nI (cnt (fun i => f i && hit hI i) (i + 1)))), (4, .int (nI i)), (0, .ref qm), (1, .long b)]) hx hb dX5_hitsOf_42 rfl hl (by decide) rfl (fun ls hl => ?_)
            refine lv_iinc (v := nI (i + 1)) (lv' := [(4, .int (nI (i + 1))), (3, .int (nI (cnt (fun i => f i && hit hI i) (i + 1)))), (0, .ref qm), (1, .long b)]) hx hb dX5_hitsOf_43 hl (k := 1) rfl (nI_1 i) (by decide) rfl (fun ls hl => ?_)
            refine lv_goto (tgt := 5) hx hb dX5_hitsOf_46 (by decide) ?_
            exact ih (i + 1) (by omega) ls (lv_sub hl [0, 1, 2, 3] rfl)
  exact loop n 0 (by omega) ls (lv_sub hl [0, 1, 2, 3] rfl)

set_option maxHeartbeats 4000000 in
set_option maxRecDepth 100000 in
theorem r_gcd (l : Launch) (dd : va_G) (cyI cyJ cyZ : ClassId) (u : Int) (d : Nat) (hu : u.natAbs < 2 ^ 62) (hd : d < 2 ^ 62) : Met l yX5_gcd wsX5_gcd ({ frames := 0, cells := 0, slots := 0, locals := 0 } : Room) (va_Pc [.long (lI u), .long (lN d)] (Rd dd [(cyI, .int), (cyJ, .long), (cyZ, .boolean)] [])) (vp_Sl (fun r => r = lN (Nat.gcd u.natAbs d))) 0 0 (fun _ => False) := by
  refine mkR (cc := cX5_gcd) (maxL := 10) (by decide) rfl (Nat.le_of_ble_eq_true rfl) (lv0 := [(0, .long (lI u)), (2, .long (lN d))]) rfl ?_
  intro p e s m below meth c ls hx hb hr hml hown hlocks hts hN hP hK hl
  have hown : s.vm.findClass RX5 = some m.cls := hown
  have loop : ∀ (k : Nat) (x z : Nat), z ≤ k → x < 2 ^ 62 → z < 2 ^ 62 → Nat.gcd x z = Nat.gcd u.natAbs d → ∀ ls : Array Slot, lv_has ls 10 [(6, .long (lN z)), (4, .long (lN x))] → W p l e ({ frames := 0, cells := 0, slots := 0, locals := 0 } : Room) s m ([.long (lI u), .long (lN d)] : List Value).toArray below meth c s.heap [] 0 0 (MQ below (vp_Sl (fun r => r = lN (Nat.gcd u.natAbs d))) ([.long (lI u), .long (lN d)] : List Value).toArray s 0 0 (fun _ => False)) (F0 m 17 ls []) := by
    intro k
    induction k with
    | zero =>
      intro x z hk hx9 hz9 hg ls hl
      refine lv_lload hx hb dX5_gcd_17 (lv_at hl 0 rfl) ?_
      refine lv_lconst (v := 0) hx hb dX5_gcd_19 (by decide) ?_
      refine W.lcmp hx hb dX5_gcd_20 ?_
      refine lv_if_eq (tgt := 42) hx hb dX5_gcd_21 (by decide) (fun q => ?_) (fun q => ?_)
      · have hz0 : z = 0 := (pk_lEQ (b := 0) (by omega) (by decide)).mp ((lg_cmp_eq _ _).mp q)
        refine lv_lload hx hb dX5_gcd_42 (lv_at hl 1 rfl) ?_
        exact edL hx hb hr hlocks dX5_gcd_44 (by rw [← hg, hz0, Nat.gcd_zero_right])
      · exact absurd ((lg_cmp_eq _ _).mpr (by rw [show z = 0 by omega]; rfl)) q
    | succ k ih =>
      intro x z hk hx9 hz9 hg ls hl
      refine lv_lload hx hb dX5_gcd_17 (lv_at hl 0 rfl) ?_
      refine lv_lconst (v := 0) hx hb dX5_gcd_19 (by decide) ?_
      refine W.lcmp hx hb dX5_gcd_20 ?_
      refine lv_if_eq (tgt := 42) hx hb dX5_gcd_21 (by decide) (fun q => ?_) (fun q => ?_)
      · have hz0 : z = 0 := (pk_lEQ (b := 0) (by omega) (by decide)).mp ((lg_cmp_eq _ _).mp q)
        refine lv_lload hx hb dX5_gcd_42 (lv_at hl 1 rfl) ?_
        exact edL hx hb hr hlocks dX5_gcd_44 (by rw [← hg, hz0, Nat.gcd_zero_right])
      · have hz0 : 0 < z := Nat.pos_of_ne_zero (fun q0 => q ((lg_cmp_eq _ _).mpr (by rw [q0]; rfl)))
        have hlt := Nat.mod_lt x hz0
        refine lv_lload hx hb dX5_gcd_24 (lv_at hl 1 rfl) ?_
        refine lv_lload hx hb dX5_gcd_26 (lv_at hl 0 rfl) ?_
        refine lv_lrem hx hb dX5_gcd_28 (fun q0 => by have := (pk_lEQ (b := 0) (by omega) (by decide)).mp q0; omega) ?_
        refine tpl (show ((lN x) - (lN x) / (lN z) * (lN z) : Int64) = lN (x % z) from pk_lRem (by omega) hz0 (by omega)) ?_
        refine lv_lstore (lv' := [(8, .long (lN (x % z))), (6, .long (lN z)), (4, .long (lN x))]) hx hb dX5_gcd_29 hl (by decide) rfl (fun ls hl => ?_)
        refine lv_lload hx hb dX5_gcd_31 (lv_at hl 1 rfl) ?_
        refine lv_lstore (lv' := [(4, .long (lN z)), (8, .long (lN (x % z))), (6, .long (lN z))]) hx hb dX5_gcd_33 hl (by decide) rfl (fun ls hl => ?_)
        refine lv_lload hx hb dX5_gcd_35 (lv_at hl 1 rfl) ?_
        refine lv_lstore (lv' := [(6, .long (lN (x % z))), (4, .long (lN z)), (8, .long (lN (x % z)))]) hx hb dX5_gcd_37 hl (by decide) rfl (fun ls hl => ?_)
        refine lv_goto (tgt := 17) hx hb dX5_gcd_39 (by decide) ?_
        exact ih z (x % z) (by omega) hz9 (by omega) (by rw [← hg, Nat.gcd_comm x z, Nat.gcd_rec z x, Nat.gcd_comm]) ls (lv_sub hl [0, 1] rfl)
  refine lv_lload_n hx hb dX5_gcd_0 rfl (lv_at hl 0 rfl) ?_
  refine lv_lconst (v := 0) hx hb dX5_gcd_1 (by decide) ?_
  refine W.lcmp hx hb dX5_gcd_2 ?_
  refine lv_if_ge (tgt := 11) hx hb dX5_gcd_3 (by decide) (fun q0 => ?_) (fun q0 => ?_)
  · have hp : 0 ≤ u := by have := (lg_cmp_ge _ _).mp q0; rw [Int64.le_iff_toInt_le, lI_toInt hu] at this; simpa using this
    refine lv_lload_n hx hb dX5_gcd_11 rfl (lv_at hl 0 rfl) ?_
    refine tpl (show (lI u : Int64) = lN u.natAbs from by rw [lN_lI]; congr 1; omega) ?_
    refine lv_lstore (lv' := [(4, .long (lN u.natAbs)), (0, .long (lI u)), (2, .long (lN d))]) hx hb dX5_gcd_12 hl (by decide) rfl (fun ls hl => ?_)
    refine lv_lload_n hx hb dX5_gcd_14 rfl (lv_at hl 2 rfl) ?_
    refine lv_lstore (lv' := [(6, .long (lN d)), (4, .long (lN u.natAbs)), (0, .long (lI u)), (2, .long (lN d))]) hx hb dX5_gcd_15 hl (by decide) rfl (fun ls hl => ?_)
    exact loop d u.natAbs d (Nat.le_refl d) hu hd rfl ls (lv_sub hl [0, 1] rfl)
  · have hp : u < 0 := by have := Int64.not_le.mp (fun h => q0 ((lg_cmp_ge _ _).mpr h)); rw [Int64.lt_iff_toInt_lt, lI_toInt hu] at this; simpa using this
    refine lv_lload_n hx hb dX5_gcd_6 rfl (lv_at hl 0 rfl) ?_
    refine lv_lneg hx hb dX5_gcd_7 ?_
    refine lv_goto (tgt := 12) hx hb dX5_gcd_8 (by decide) ?_
    refine tpl (show (-(lI u) : Int64) = lN u.natAbs from by rw [lN_lI]; unfold lI; rw [← Int64.ofInt_neg]; congr 1; omega) ?_
    refine lv_lstore (lv' := [(4, .long (lN u.natAbs)), (0, .long (lI u)), (2, .long (lN d))]) hx hb dX5_gcd_12 hl (by decide) rfl (fun ls hl => ?_)
    refine lv_lload_n hx hb dX5_gcd_14 rfl (lv_at hl 2 rfl) ?_
    refine lv_lstore (lv' := [(6, .long (lN d)), (4, .long (lN u.natAbs)), (0, .long (lI u)), (2, .long (lN d))]) hx hb dX5_gcd_15 hl (by decide) rfl (fun ls hl => ?_)
    exact loop d u.natAbs d (Nat.le_refl d) hu hd rfl ls (lv_sub hl [0, 1] rfl)

set_option maxHeartbeats 4000000 in
set_option maxRecDepth 100000 in
theorem r_part (l : Launch) (dd : va_G) (cyI cyJ cyZ : ClassId) (u : Int) (d : Nat) (pt : Int32) (hu : u.natAbs < 2 ^ 62) (hd : d < 2 ^ 62) (hd0 : 0 < d) (hpt : pt = 0 ∨ pt = 1) : Met l yX5_part wsX5_part ({ frames := 1, cells := 0, slots := 0, locals := 29 } : Room) (va_Pc [.long (lI u), .long (lN d), .int pt] (Rd dd [(cyI, .int), (cyJ, .long), (cyZ, .boolean)] [])) (vp_Sl (fun r => r = lI (fr u d pt))) 0 0 (fun _ => False) := by
  refine mkR (cc := cX5_part) (maxL := 7) (by decide) rfl (Nat.le_of_ble_eq_true rfl) (lv0 := [(0, .long (lI u)), (2, .long (lN d)), (4, .int pt)]) rfl ?_
  intro p e s m below meth c ls hx hb hr hml hown hlocks hts hN hP hK hl
  have hown : s.vm.findClass RX5 = some m.cls := hown
  have hg0 : 0 < Nat.gcd u.natAbs d := Nat.gcd_pos_of_pos_right _ hd0
  have hg1 : Nat.gcd u.natAbs d ≤ d := Nat.gcd_le_right _ hd0
  have hdn : ((d : Nat) : Int).natAbs = d := Int.natAbs_natCast d
  refine lv_lload_n hx hb dX5_part_0 rfl (lv_at hl 0 rfl) ?_
  refine lv_lload_n hx hb dX5_part_1 rfl (lv_at hl 1 rfl) ?_
  refine clSl (As := [.long (lI u), .long (lN d)]) (rest := []) ⟨hx, hb, hml, hown, hts⟩ (r_gcd l dd cyI cyJ cyZ u d hu hd) gX5_part_X5_gcd (n := 2) rfl ⟨rfl, rfl⟩ (by decide +kernel) ⟨Nat.le_of_ble_eq_true rfl, Nat.le_of_ble_eq_true rfl⟩ hN hK (hP.sub [] rfl) rfl hl.1 rfl (Nat.le_of_ble_eq_true rfl) dX5_part_2 ⟨Nat.le_of_ble_eq_true rfl, Nat.le_of_ble_eq_true rfl⟩ (fun g hg => ?_)
  subst hg
  refine lv_lstore (lv' := [(5, .long (lN (Nat.gcd u.natAbs d))), (0, .long (lI u)), (2, .long (lN d)), (4, .int pt)]) hx hb dX5_part_5 hl (by decide) rfl (fun ls hl => ?_)
  refine lv_iload hx hb dX5_part_7 (lv_at hl 3 rfl) ?_
  refine lv_if_ne (tgt := 19) hx hb dX5_part_9 (by decide) (fun q => ?_) (fun q => ?_)
  · refine lv_lload_n hx hb dX5_part_19 rfl (lv_at hl 2 rfl) ?_
    refine lv_lload hx hb dX5_part_20 (lv_at hl 0 rfl) ?_
    refine lv_ldiv hx hb dX5_part_22 (fun q0 => by have := (pk_lEQ (b := 0) (by omega) (by decide)).mp q0; omega) ?_
    refine tpl (show ((lN d) / (lN (Nat.gcd u.natAbs d)) : Int64) = lN (d / Nat.gcd u.natAbs d) from pk_lDiv (by omega) hg0 (by omega)) ?_
    exact edL hx hb hr hlocks dX5_part_23 (by rw [fr, if_pos (hpt.resolve_left q), hdn, lN_lI])
  · refine lv_lload_n hx hb dX5_part_12 rfl (lv_at hl 1 rfl) ?_
    refine lv_lload hx hb dX5_part_13 (lv_at hl 0 rfl) ?_
    refine lv_ldiv hx hb dX5_part_15 (fun q0 => by have := (pk_lEQ (b := 0) (by omega) (by decide)).mp q0; omega) ?_
    refine tpl (show ((lI u) / (lN (Nat.gcd u.natAbs d)) : Int64) = lI (u.tdiv (Nat.gcd u.natAbs d : Nat)) from ldiv_lI hu (by omega) hg0) ?_
    refine lv_goto (tgt := 23) hx hb dX5_part_16 (by decide) ?_
    exact edL hx hb hr hlocks dX5_part_23 (by rw [fr, if_neg (by rw [q]; decide), if_neg (by omega), hdn])
