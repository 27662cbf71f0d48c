theorem shl1 {i : Nat} (h : i < 64) : (1 : Int64) <<< ((nI i).toInt64 &&& 63) = lN (2 ^ i) := by
  have := wb_shl 1 h
  rw [Nat.one_mul] at this
  exact this
theorem p63 {n : Nat} (h : n ≤ 48) : 2 ^ n < 2 ^ 64 := Nat.pow_lt_pow_right (by decide) (by omega)
theorem mk64 (f : Nat → Bool) {n : Nat} (h : n ≤ 48) : mk f n < 2 ^ 64 := Nat.lt_trans (mk_lt f n) (p63 h)
theorem mk62 (f : Nat → Bool) {n : Nat} (h : n ≤ 48) : mk f n < 2 ^ 62 := Nat.lt_trans (mk_lt f n) (Nat.pow_lt_pow_right (by decide) (by omega))
theorem mk_tst {f : Nat → Bool} {n i : Nat} (hi : i < n) (hn : n ≤ 48) : lN (mk f n) &&& lN (2 ^ i) = lN (if f i = true then 2 ^ i else 0) := by
  rw [wb_and (mk64 f hn) (p63 (by omega)), mk_test hi]
theorem tst0 {b : Bool} {i : Nat} (h : i < 48) : lg_cmp (lN (if b = true then 2 ^ i else 0)) 0 = 0 ↔ b = false := by
  rw [lg_cmp_eq]
  have h1 : 2 ^ i < 2 ^ 63 := Nat.pow_lt_pow_right (by decide) (by omega)
  have h2 : 0 < 2 ^ i := Nat.pow_pos (by decide)
  cases b
  · exact ⟨fun _ => rfl, fun _ => rfl⟩
  · refine ⟨fun q => ?_, fun q => by cases q⟩
    have := (pk_lEQ (b := 0) (by simpa using h1) (by decide)).mp q
    simp at this
theorem lN_and {f g : Nat → Bool} {n : Nat} (hn : n ≤ 48) : lN (mk f n) &&& lN (mk g n) = lN (mk (fun i => f i && g i) n) := by rw [wb_and (mk64 f hn) (mk64 g hn), mk_and]
theorem lN_or {f g : Nat → Bool} {n : Nat} (hn : n ≤ 48) : lN (mk f n) ||| lN (mk g n) = lN (mk (fun i => f i || g i) n) := by rw [wb_or (mk64 f hn) (mk64 g hn), mk_or]
/-- the rows of a window, by the times as they stand in the array -/
def win (tI : Nat → Int32) (f t : Int32) (i : Nat) : Bool := decide (f ≤ tI i) && decide (tI i < t)
/-- the rows that have a sort -/
def hav (sI : Nat → Int32) (co k : Nat) (i : Nat) : Bool := decide (sI (5 * i + co) = nI k)
def hit (hI : Nat → Int32) (i : Nat) : Bool := decide (¬ hI i = 0)
/-- the class's sets of rows tell what the arrays of the reference hold -/
def RowsOk (n : Nat) (hI sI : Nat → Int32) (hi : Int64) (hv : Nat → Int64) : Prop :=
  n ≤ 48 ∧ hi = lN (mk (hit hI) n) ∧ (∀ co, co < 5 → ∀ k, k < 11 → hv (co * 11 + k) = lN (mk (hav sI co k) n)) ∧ (∀ i, i < n → ∀ co, co < 5 → ∃ k, k < 11 ∧ sI (5 * i + co) = nI k) ∧ ∀ i, i < n → hI i = 0 ∨ hI i = 1
theorem lor_top {f : Nat → Bool} {i : Nat} (h : i < 48) (hf : f i = true) : lN (mk f i) ||| lN (2 ^ i) = lN (mk f (i + 1)) := by
  rw [wb_or (mk64 f (by omega)) (p63 (by omega)), mk_top]
  congr 1
  simp only [mk]
  rw [if_pos hf]
theorem mk_skip {f : Nat → Bool} {i : Nat} (hf : f i = false) : mk f (i + 1) = mk f i := by
  simp only [mk]
  rw [if_neg (by rw [hf]; decide), Nat.add_zero]

set_option maxHeartbeats 4000000 in
set_option maxRecDepth 100000 in
theorem c_Rows_has (l : Launch) (dd : va_G) (cyI cyJ cyZ : ClassId) (qr qt qh n : Nat) (hi : Int64) (tI : Nat → Int32) (hv : Nat → Int64) (a : Int32) : Met l yX2_has wsX2_has ({ frames := 1, cells := 0, slots := 0, locals := 22 } : Room) (va_Pc [.ref qr, .int a] (Rd dd [(cyI, .int), (cyJ, .long), (cyZ, .boolean)] [(qr, .inr (2, [.int (nI n), .long hi, .ref qt, .ref qh])), (qt, .inl (cyI, 48, .inl tI)), (qh, .inl (cyJ, 55, .inr (.inl hv)))])) (vp_Si (fun r => (r = 1 ∧ 0 ≤ a ∧ a ≤ nI n - 1) ∨ (r = 0 ∧ ¬ (0 ≤ a ∧ a ≤ nI n - 1)))) 0 0 (fun _ => False) := by
  refine mkR (cc := cX2_has) (maxL := 2) (by decide) rfl (Nat.le_of_ble_eq_true rfl) (lv0 := [(0, .ref qr), (1, .int a)]) rfl ?_
  intro p e s m below meth c ls hx hb hr hml hown hlocks hts hN hP hK hl
  have hown : s.vm.findClass RX2 = some m.cls := hown
  have hiX2 : ∀ w ∈ wsX20, w ∈ wsX2_has := by decide +kernel
  refine lv_iload_n hx hb dX2_has_0 rfl (lv_at hl 1 rfl) ?_
  refine lv_iconst (v := 0) hx hb dX2_has_1 (by decide) ?_
  refine lv_aload_n hx hb dX2_has_2 rfl (lv_at hl 0 rfl) ?_
  refine va_get (D := dd) (ci := 2) (C := RX2) (T := TX2) (N := 4) (v := .int (nI n)) hx hb hts hiX2 hown hK hP 0 rfl rfl 0 (by decide) (hts (.fieldLink RX2 9 "SliceDrift$Rows" "size" "I") (by decide +kernel)) (fun _ h9 => h9) rfl dX2_has_3 ?_
  refine lv_iconst (v := 1) hx hb dX2_has_6 (by decide) ?_
  refine lv_isub hx hb dX2_has_7 ?_
  refine clNi (As := [.int a, .int 0, .int ((nI n) - 1)]) (rest := []) ⟨hx, hb, hml, hown, hts⟩ (c_isWithin l dd cyI cyJ cyZ a 0 (nI n - 1)) gX2_has_X4_isWithin_n27 (hN.m 6 rfl) (hts (.initialized RX4) (by decide +kernel)) (hts (.static yX4_isWithin) (by decide +kernel)) (n := 3) rfl ⟨rfl, rfl⟩ (by decide +kernel) ⟨Nat.le_of_ble_eq_true rfl, Nat.le_of_ble_eq_true rfl⟩ hN hK (hP.sub [] rfl) rfl hl.1 rfl (Nat.le_of_ble_eq_true rfl) dX2_has_8 ⟨Nat.le_of_ble_eq_true rfl, Nat.le_of_ble_eq_true rfl⟩ (fun r hw => ?_)
  exact edZ hx hb hr hlocks dX2_has_11 (by rcases hw with ⟨h, -⟩ | ⟨h, -⟩ <;> rw [h] <;> rfl) hw

set_option maxHeartbeats 4000000 in
set_option maxRecDepth 100000 in
theorem c_withSort (l : Launch) (dd : va_G) (cyI cyJ cyZ : ClassId) (qr qt qh n : Nat) (hi : Int64) (tI : Nat → Int32) (hv : Nat → Int64) (co k : Nat) (hco : co < 5) (hk : k < 11) : Met l yX2_withSort wsX2_withSort ({ frames := 1, cells := 0, slots := 0, locals := 21 } : Room) (va_Pc [.ref qr, .int (nI co), .int (nI k)] (Rd dd [(cyI, .int), (cyJ, .long), (cyZ, .boolean)] [(qr, .inr (2, [.int (nI n), .long hi, .ref qt, .ref qh])), (qt, .inl (cyI, 48, .inl tI)), (qh, .inl (cyJ, 55, .inr (.inl hv)))])) (vp_Sl (fun r => r = hv (co * 11 + k))) 0 0 (fun _ => False) := by
  refine mkR (cc := cX2_withSort) (maxL := 3) (by decide) rfl (Nat.le_of_ble_eq_true rfl) (lv0 := [(0, .ref qr), (1, .int (nI co)), (2, .int (nI k))]) rfl ?_
  intro p e s m below meth c ls hx hb hr hml hown hlocks hts hN hP hK hl
  have hown : s.vm.findClass RX2 = some m.cls := hown
  have hiX2 : ∀ w ∈ wsX20, w ∈ wsX2_withSort := by decide +kernel
  refine lv_aload_n hx hb dX2_withSort_0 rfl (lv_at hl 0 rfl) ?_
  refine va_get (D := dd) (ci := 2) (C := RX2) (T := TX2) (N := 4) (v := .ref qh) hx hb hts hiX2 hown hK hP 0 rfl rfl 3 (by decide) (hts (.fieldLink RX2 23 "SliceDrift$Rows" "having" "[J") (by decide +kernel)) (fun _ h9 => h9) rfl dX2_withSort_1 ?_
  refine lv_iload_n hx hb dX2_withSort_4 rfl (lv_at hl 1 rfl) ?_
  refine lv_iload_n hx hb dX2_withSort_5 rfl (lv_at hl 2 rfl) ?_
  refine clNi (As := [.int (nI co), .int (nI k)]) (rest := [.ref qh]) ⟨hx, hb, hml, hown, hts⟩ (c_conditionOf l dd cyI cyJ cyZ (nI co) (nI k)) gX2_withSort_X4_conditionOf_n31 (hN.m 7 rfl) (hts (.initialized RX4) (by decide +kernel)) (hts (.static yX4_conditionOf) (by decide +kernel)) (n := 2) rfl ⟨rfl, rfl⟩ (by decide +kernel) ⟨Nat.le_of_ble_eq_true rfl, Nat.le_of_ble_eq_true rfl⟩ hN hK (hP.sub [] rfl) rfl hl.1 rfl (Nat.le_of_ble_eq_true rfl) dX2_withSort_6 ⟨Nat.le_of_ble_eq_true rfl, Nat.le_of_ble_eq_true rfl⟩ (fun r1 h1 => ?_)
  subst h1
  refine tpi (show (nI co * 11 + nI k : Int32) = nI (co * 11 + k) from by rw [show (11 : Int32) = nI 11 from rfl, pk_mul, nI_add]) ?_
  refine va_lald hx hb hK hP 2 1 rfl rfl (i := nI (co * 11 + k)) (vp_in_nI (show (co * 11 + k) < 55 from (by omega)) (by decide)) dX2_withSort_9 ?_
  rw [nI_clamp (show (co * 11 + k) < 2 ^ 31 from Nat.lt_trans (show (co * 11 + k) < 55 from (by omega)) (by decide))]
  exact edL hx hb hr hlocks dX2_withSort_10 rfl

set_option maxHeartbeats 4000000 in
set_option maxRecDepth 100000 in
theorem c_sortAt (l : Launch) (dd : va_G) (cyI cyJ cyZ : ClassId) (qr qt qh n : Nat) (hi : Int64) (tI : Nat → Int32) (hv : Nat → Int64) (hI sI : Nat → Int32) (hR : RowsOk n hI sI hi hv) (i co : Nat) (hin : i < n) (hco : co < 5) : Met l yX2_sortAt wsX2_sortAt ({ frames := 2, cells := 0, slots := 0, locals := 43 } : Room) (va_Pc [.ref qr, .int (nI i), .int (nI co)] (Rd dd [(cyI, .int), (cyJ, .long), (cyZ, .boolean)] [(qr, .inr (2, [.int (nI n), .long hi, .ref qt, .ref qh])), (qt, .inl (cyI, 48, .inl tI)), (qh, .inl (cyJ, 55, .inr (.inl hv)))])) (vp_Si (fun r => r = sI (5 * i + co))) 0 0 (fun _ => False) := by
  refine mkR (cc := cX2_sortAt) (maxL := 4) (by decide) rfl (Nat.le_of_ble_eq_true rfl) (lv0 := [(0, .ref qr), (1, .int (nI i)), (2, .int (nI co))]) rfl ?_
  intro p e s m below meth c ls hx hb hr hml hown hlocks hts hN hP hK hl
  have hown : s.vm.findClass RX2 = some m.cls := hown
  have hiX2 : ∀ w ∈ wsX20, w ∈ wsX2_sortAt := by decide +kernel
  obtain ⟨hn, -, hH, hS, -⟩ := hR
  refine lv_iconst (v := 0) hx hb dX2_sortAt_0 (by decide) ?_
  refine lv_istore_n (lv' := [(3, .int 0), (0, .ref qr), (1, .int (nI i)), (2, .int (nI co))]) hx hb dX2_sortAt_1 rfl hl (by decide) rfl (fun ls hl => ?_)
  have loop : ∀ (k : Nat) (v : Nat), v + k = 10 → (∀ j, j < v → ¬ sI (5 * i + co) = nI j) → ∀ ls : Array Slot, lv_has ls 4 [(3, .int (nI v)), (0, .ref qr), (1, .int (nI i)), (2, .int (nI co))] → W p l e ({ frames := 2, cells := 0, slots := 0, locals := 43 } : Room) s m ([.ref qr, .int (nI i), .int (nI co)] : List Value).toArray below meth c s.heap [] 0 0 (MQ below (vp_Si (fun r => r = sI (5 * i + co))) ([.ref qr, .int (nI i), .int (nI co)] : List Value).toArray s 0 0 (fun _ => False)) (F0 m 2 ls []) := by
    intro k
    induction k with
    | zero =>
      intro v hv9 hno ls hl
      refine lv_iload_n hx hb dX2_sortAt_2 rfl (lv_at hl 0 rfl) ?_
      refine lv_bipush (v := 10) hx hb dX2_sortAt_3 (by decide) ?_
      refine lv_icmp_ge (tgt := 31) hx hb dX2_sortAt_5 (by decide) (fun q => ?_) (fun q => ?_)
      · refine lv_bipush (v := 10) hx hb dX2_sortAt_31 (by decide) ?_
        obtain ⟨j, hj, ej⟩ := hS i hin co hco
        have hj9 : j = 10 := (Nat.lt_or_ge j v).elim (fun h => absurd ej (hno j h)) (fun h => by omega)
        exact edI hx hb hr hlocks dX2_sortAt_33 (by rw [ej, hj9]; rfl)
      · exact absurd (nI_le (a := 10) (by omega) (by omega)) q
    | succ k ih =>
      intro v hv9 hno ls hl
      refine lv_iload_n hx hb dX2_sortAt_2 rfl (lv_at hl 0 rfl) ?_
      refine lv_bipush (v := 10) hx hb dX2_sortAt_3 (by decide) ?_
      refine lv_icmp_ge (tgt := 31) hx hb dX2_sortAt_5 (by decide) (fun q => ?_) (fun q => ?_)
      · exact absurd q (nI_ge (b := 10) (by omega) (by decide))
      · refine lv_aload_n hx hb dX2_sortAt_8 rfl (lv_at hl 1 rfl) ?_
        refine lv_iload_n hx hb dX2_sortAt_9 rfl (lv_at hl 3 rfl) ?_
        refine lv_iload_n hx hb dX2_sortAt_10 rfl (lv_at hl 0 rfl) ?_
        refine clVl (As := [.int (nI co), .int (nI v)]) (rest := []) (b := qr) (vc := (RX2, TX2, 4)) ⟨hx, hb, hml, hown, hts⟩ (c_withSort l dd cyI cyJ cyZ qr qt qh n hi tI hv co v hco (by omega)) gX2_sortAt_X2_withSort (ci := 2) rfl (q0 := 0) rfl (n := 2) rfl ⟨rfl, rfl⟩ (by decide +kernel) ⟨Nat.le_of_ble_eq_true rfl, Nat.le_of_ble_eq_true rfl⟩ hN hK (hP.sub [0, 1, 2] rfl) rfl hl.1 rfl (Nat.le_of_ble_eq_true rfl) dX2_sortAt_11 ⟨Nat.le_of_ble_eq_true rfl, Nat.le_of_ble_eq_true rfl⟩ (fun r1 h1 => ?_)
        rw [hH co hco v (by omega)] at h1
        subst h1
        refine lv_lconst (v := 1) hx hb dX2_sortAt_14 (by decide) ?_
        refine lv_iload_n hx hb dX2_sortAt_15 rfl (lv_at hl 2 rfl) ?_
        refine lv_lshl hx hb dX2_sortAt_16 rfl ?_
        refine tpl (show (1 <<< ((nI i).toInt64 &&& 63) : Int64) = lN (2 ^ i) from shl1 (by omega)) ?_
        refine lv_land hx hb dX2_sortAt_17 ?_
        refine tpl (show ((lN (mk (hav sI co v) n)) &&& (lN (2 ^ i)) : Int64) = lN (if hav sI co v i = true then 2 ^ i else 0) from mk_tst hin hn) ?_
        refine lv_lconst (v := 0) hx hb dX2_sortAt_18 (by decide) ?_
        refine W.lcmp hx hb dX2_sortAt_19 ?_
        refine lv_if_eq (tgt := 25) hx hb dX2_sortAt_20 (by decide) (fun q2 => ?_) (fun q2 => ?_)
        · refine lv_iinc (v := nI (v + 1)) (lv' := [(3, .int (nI (v + 1))), (0, .ref qr), (1, .int (nI i)), (2, .int (nI co))]) hx hb dX2_sortAt_25 hl (k := 0) rfl (nI_1 v) (by decide) rfl (fun ls hl => ?_)
          refine lv_goto (tgt := 2) hx hb dX2_sortAt_28 (by decide) ?_
          exact ih (v + 1) (by omega) (fun j hj => (Nat.lt_or_ge j v).elim (hno j) (fun h => by rw [show j = v by omega]; exact of_decide_eq_false ((tst0 (by omega)).mp q2))) ls (lv_sub hl [0, 1, 2, 3] rfl)
        · refine lv_iload_n hx hb dX2_sortAt_23 rfl (lv_at hl 0 rfl) ?_
          have hy : hav sI co v i = true := (Bool.not_eq_false _).mp (fun hz => q2 ((tst0 (by omega)).mpr hz))
          exact edI hx hb hr hlocks dX2_sortAt_24 ((of_decide_eq_true hy).symm)
  exact loop 10 0 rfl (fun j h => absurd h (Nat.not_lt_zero j)) ls (lv_sub hl [0, 1, 2, 3] rfl)

set_option maxHeartbeats 4000000 in
set_option maxRecDepth 100000 in
theorem c_between (l : Launch) (dd : va_G) (cyI cyJ cyZ : ClassId) (qr qt qh n : Nat) (hi : Int64) (tI : Nat → Int32) (hv : Nat → Int64) (f t : Int32) (hn : n ≤ 48) : Met l yX2_between wsX2_between ({ frames := 0, cells := 0, slots := 0, locals := 0 } : Room) (va_Pc [.ref qr, .int f, .int t] (Rd dd [(cyI, .int), (cyJ, .long), (cyZ, .boolean)] [(qr, .inr (2, [.int (nI n), .long hi, .ref qt, .ref qh])), (qt, .inl (cyI, 48, .inl tI)), (qh, .inl (cyJ, 55, .inr (.inl hv)))])) (vp_Sl (fun r => r = lN (mk (win tI f t) n))) 0 0 (fun _ => False) := by
  refine mkR (cc := cX2_between) (maxL := 6) (by decide) rfl (Nat.le_of_ble_eq_true rfl) (lv0 := [(0, .ref qr), (1, .int f), (2, .int t)]) rfl ?_
  intro p e s m below meth c ls hx hb hr hml hown hlocks hts hN hP hK hl
  have hown : s.vm.findClass RX2 = some m.cls := hown
  have hiX2 : ∀ w ∈ wsX20, w ∈ wsX2_between := by decide +kernel
  refine lv_lconst (v := 0) hx hb dX2_between_0 (by decide) ?_
  refine lv_lstore_n (lv' := [(3, .long 0), (0, .ref qr), (1, .int f), (2, .int t)]) hx hb dX2_between_1 rfl hl (by decide) rfl (fun ls hl => ?_)
  refine lv_iconst (v := 0) hx hb dX2_between_2 (by decide) ?_
  refine lv_istore (lv' := [(5, .int 0), (3, .long 0), (0, .ref qr), (1, .int f), (2, .int t)]) hx hb dX2_between_3 hl (by decide) rfl (fun ls hl => ?_)
  have loop : ∀ (k : Nat) (i : Nat), i + k = n → ∀ ls : Array Slot, lv_has ls 6 [(5, .int (nI i)), (3, .long (lN (mk (win tI f t) i))), (0, .ref qr), (1, .int f), (2, .int t)] → W p l e ({ frames := 0, cells := 0, slots := 0, locals := 0 } : Room) s m ([.ref qr, .int f, .int t] : List Value).toArray below meth c s.heap [] 0 0 (MQ below (vp_Sl (fun r => r = lN (mk (win tI f t) n))) ([.ref qr, .int f, .int t] : List Value).toArray s 0 0 (fun _ => False)) (F0 m 5 ls []) := by
    intro k
    induction k with
    | zero =>
      intro i hi9 ls hl
      refine lv_iload hx hb dX2_between_5 (lv_at hl 0 rfl) ?_
      refine lv_aload_n hx hb dX2_between_7 rfl (lv_at hl 2 rfl) ?_
      refine va_get (D := dd) (ci := 2) (C := RX2) (T := TX2) (N := 4) (v := .int (nI n)) hx hb hts hiX2 hown hK hP 0 rfl rfl 0 (by decide) (hts (.fieldLink RX2 9 "SliceDrift$Rows" "size" "I") (by decide +kernel)) (fun _ h9 => h9) rfl dX2_between_8 ?_
      refine lv_icmp_ge (tgt := 49) hx hb dX2_between_11 (by decide) (fun q => ?_) (fun q => ?_)
      · refine lv_lload_n hx hb dX2_between_49 rfl (lv_at hl 1 rfl) ?_
        exact edL hx hb hr hlocks dX2_between_50 (by rw [show n = i by omega])
      · exact absurd (nI_le (show n ≤ i by omega) (by omega)) q
    | succ k ih =>
      intro i hi9 ls hl
      refine lv_iload hx hb dX2_between_5 (lv_at hl 0 rfl) ?_
      refine lv_aload_n hx hb dX2_between_7 rfl (lv_at hl 2 rfl) ?_
      refine va_get (D := dd) (ci := 2) (C := RX2) (T := TX2) (N := 4) (v := .int (nI n)) hx hb hts hiX2 hown hK hP 0 rfl rfl 0 (by decide) (hts (.fieldLink RX2 9 "SliceDrift$Rows" "size" "I") (by decide +kernel)) (fun _ h9 => h9) rfl dX2_between_8 ?_
      refine lv_icmp_ge (tgt := 49) hx hb dX2_between_11 (by decide) (fun q => ?_) (fun q => ?_)
      · exact absurd q (nI_ge (show i < n by omega) (by omega))
      · refine lv_aload_n hx hb dX2_between_14 rfl (lv_at hl 2 rfl) ?_
        refine va_get (D := dd) (ci := 2) (C := RX2) (T := TX2) (N := 4) (v := .ref qt) hx hb hts hiX2 hown hK hP 0 rfl rfl 2 (by decide) (hts (.fieldLink RX2 19 "SliceDrift$Rows" "times" "[I") (by decide +kernel)) (fun _ h9 => h9) rfl dX2_between_15 ?_
        refine lv_iload hx hb dX2_between_18 (lv_at hl 0 rfl) ?_
        refine va_iald hx hb hK hP 1 0 rfl rfl (i := nI i) (vp_in_nI (show i < 48 from (by omega)) (by decide)) dX2_between_20 ?_
        rw [nI_clamp (show i < 2 ^ 31 from Nat.lt_trans (show i < 48 from (by omega)) (by decide))]
        refine lv_iload_n hx hb dX2_between_21 rfl (lv_at hl 3 rfl) ?_
        refine lv_icmp_lt (tgt := 43) hx hb dX2_between_22 (by decide) (fun q2 => ?_) (fun q2 => ?_)
        · refine lv_iinc (v := nI (i + 1)) (lv' := [(5, .int (nI (i + 1))), (3, .long (lN (mk (win tI f t) i))), (0, .ref qr), (1, .int f), (2, .int t)]) hx hb dX2_between_43 hl (k := 0) rfl (nI_1 i) (by decide) rfl (fun ls hl => ?_)
          refine lv_goto (tgt := 5) hx hb dX2_between_46 (by decide) ?_
          exact ih (i + 1) (by omega) ls (by rw [mk_skip (f := win tI f t) (i := i) (by simp [win, ilt q2])]; exact (lv_sub hl [0, 1, 2, 3, 4] rfl))
        · refine lv_aload_n hx hb dX2_between_25 rfl (lv_at hl 2 rfl) ?_
          refine va_get (D := dd) (ci := 2) (C := RX2) (T := TX2) (N := 4) (v := .ref qt) hx hb hts hiX2 hown hK hP 0 rfl rfl 2 (by decide) (hts (.fieldLink RX2 19 "SliceDrift$Rows" "times" "[I") (by decide +kernel)) (fun _ h9 => h9) rfl dX2_between_26 ?_
          refine lv_iload hx hb dX2_between_29 (lv_at hl 0 rfl) ?_
          refine va_iald hx hb hK hP 1 0 rfl rfl (i := nI i) (vp_in_nI (show i < 48 from (by omega)) (by decide)) dX2_between_31 ?_
          rw [nI_clamp (show i < 2 ^ 31 from Nat.lt_trans (show i < 48 from (by omega)) (by decide))]
          refine lv_iload_n hx hb dX2_between_32 rfl (lv_at hl 4 rfl) ?_
          refine lv_icmp_ge (tgt := 43) hx hb dX2_between_33 (by decide) (fun q3 => ?_) (fun q3 => ?_)
          · refine lv_iinc (v := nI (i + 1)) (lv' := [(5, .int (nI (i + 1))), (3, .long (lN (mk (win tI f t) i))), (0, .ref qr), (1, .int f), (2, .int t)]) hx hb dX2_between_43 hl (k := 0) rfl (nI_1 i) (by decide) rfl (fun ls hl => ?_)
            refine lv_goto (tgt := 5) hx hb dX2_between_46 (by decide) ?_
            exact ih (i + 1) (by omega) ls (by rw [mk_skip (f := win tI f t) (i := i) (by simp [win, ile q3])]; exact (lv_sub hl [0, 1, 2, 3, 4] rfl))
          · refine lv_lload_n hx hb dX2_between_36 rfl (lv_at hl 1 rfl) ?_
            refine lv_lconst (v := 1) hx hb dX2_between_37 (by decide) ?_
            refine lv_iload hx hb dX2_between_38 (lv_at hl 0 rfl) ?_
            refine lv_lshl hx hb dX2_between_40 rfl ?_
            refine tpl (show (1 <<< ((nI i).toInt64 &&& 63) : Int64) = lN (2 ^ i) from shl1 (by omega)) ?_
            refine lv_lor hx hb dX2_between_41 ?_
            refine tpl (show ((lN (mk (win tI f t) i)) ||| (lN (2 ^ i)) : Int64) = lN (mk (win tI f t) (i + 1)) from lor_top (by omega) (by simp [win, inl q2, inle q3])) ?_
            refine lv_lstore_n (lv' := [(3, .long (lN (mk (win tI f t) (i + 1)))), (5, .int (nI i)), (0, .ref qr), (1, .int f), (2, .int t)]) hx hb dX2_between_42 rfl hl (by decide) rfl (fun ls hl => ?_)
            refine lv_iinc (v := nI (i + 1)) (lv' := [(5, .int (nI (i + 1))), (3, .long (lN (mk (win tI f t) (i + 1)))), (0, .ref qr), (1, .int f), (2, .int t)]) hx hb dX2_between_43 hl (k := 1) rfl (nI_1 i) (by decide) rfl (fun ls hl => ?_)
            refine lv_goto (tgt := 5) hx hb dX2_between_46 (by decide) ?_
            exact ih (i + 1) (by omega) ls (lv_sub hl [0, 1, 2, 3, 4] rfl)
  exact loop n 0 (by omega) ls (lv_sub hl [0, 1, 2, 3, 4] rfl)

/-- the rows that lack a value in one of the first columns -/
def lak (sI : Nat → Int32) : Nat → Nat → Bool
  | 0, _ => false
  | co + 1, i => lak sI co i || hav sI co 10 i
theorem lak0 (sI : Nat → Int32) (n : Nat) : mk (lak sI 0) n = 0 := mk_zero.mpr (fun _ _ => rfl)

set_option maxHeartbeats 4000000 in
set_option maxRecDepth 100000 in
theorem c_lackingSome (l : Launch) (dd : va_G) (cyI cyJ cyZ : ClassId) (qr qt qh n : Nat) (hi : Int64) (tI : Nat → Int32) (hv : Nat → Int64) (hI sI : Nat → Int32) (hR : RowsOk n hI sI hi hv) : Met l yX2_lackingSome wsX2_lackingSome ({ frames := 2, cells := 0, slots := 0, locals := 43 } : Room) (va_Pc [.ref qr] (Rd dd [(cyI, .int), (cyJ, .long), (cyZ, .boolean)] [(qr, .inr (2, [.int (nI n), .long hi, .ref qt, .ref qh])), (qt, .inl (cyI, 48, .inl tI)), (qh, .inl (cyJ, 55, .inr (.inl hv)))])) (vp_Sl (fun r => r = lN (mk (lak sI 5) n))) 0 0 (fun _ => False) := by
  refine mkR (cc := cX2_lackingSome) (maxL := 4) (by decide) rfl (Nat.le_of_ble_eq_true rfl) (lv0 := [(0, .ref qr)]) rfl ?_
  intro p e s m below meth c ls hx hb hr hml hown hlocks hts hN hP hK hl
  have hown : s.vm.findClass RX2 = some m.cls := hown
  have hiX2 : ∀ w ∈ wsX20, w ∈ wsX2_lackingSome := by decide +kernel
  obtain ⟨hn, -, hH, -, -⟩ := hR
  refine lv_lconst (v := 0) hx hb dX2_lackingSome_0 (by decide) ?_
  refine lv_lstore_n (lv' := [(1, .long 0), (0, .ref qr)]) hx hb dX2_lackingSome_1 rfl hl (by decide) rfl (fun ls hl => ?_)
  refine lv_iconst (v := 0) hx hb dX2_lackingSome_2 (by decide) ?_
  refine lv_istore_n (lv' := [(3, .int 0), (1, .long 0), (0, .ref qr)]) hx hb dX2_lackingSome_3 rfl hl (by decide) rfl (fun ls hl => ?_)
  have loop : ∀ (k : Nat) (i : Nat), i + k = 5 → ∀ ls : Array Slot, lv_has ls 4 [(3, .int (nI i)), (1, .long (lN (mk (lak sI i) n))), (0, .ref qr)] → W p l e ({ frames := 2, cells := 0, slots := 0, locals := 43 } : Room) s m ([.ref qr] : List Value).toArray below meth c s.heap [] 0 0 (MQ below (vp_Sl (fun r => r = lN (mk (lak sI 5) n))) ([.ref qr] : List Value).toArray s 0 0 (fun _ => False)) (F0 m 4 ls []) := by
    intro k
    induction k with
    | zero =>
      intro i hi9 ls hl
      refine lv_iload_n hx hb dX2_lackingSome_4 rfl (lv_at hl 0 rfl) ?_
      refine lv_iconst (v := 5) hx hb dX2_lackingSome_5 (by decide) ?_
      refine lv_icmp_ge (tgt := 25) hx hb dX2_lackingSome_6 (by decide) (fun q => ?_) (fun q => ?_)
      · refine lv_lload_n hx hb dX2_lackingSome_25 rfl (lv_at hl 1 rfl) ?_
        exact edL hx hb hr hlocks dX2_lackingSome_26 (by rw [show i = 5 by omega])
      · exact absurd (nI_le (show 5 ≤ i by omega) (by omega)) q
    | succ k ih =>
      intro i hi9 ls hl
      refine lv_iload_n hx hb dX2_lackingSome_4 rfl (lv_at hl 0 rfl) ?_
      refine lv_iconst (v := 5) hx hb dX2_lackingSome_5 (by decide) ?_
      refine lv_icmp_ge (tgt := 25) hx hb dX2_lackingSome_6 (by decide) (fun q => ?_) (fun q => ?_)
      · exact absurd q (nI_ge (show i < 5 by omega) (by decide))
      · refine lv_lload_n hx hb dX2_lackingSome_9 rfl (lv_at hl 1 rfl) ?_
        refine lv_aload_n hx hb dX2_lackingSome_10 rfl (lv_at hl 2 rfl) ?_
        refine lv_iload_n hx hb dX2_lackingSome_11 rfl (lv_at hl 0 rfl) ?_
        refine lv_bipush (v := 10) hx hb dX2_lackingSome_12 (by decide) ?_
        refine clVl (As := [.int (nI i), .int 10]) (rest := [.long (lN (mk (lak sI i) n))]) (b := qr) (vc := (RX2, TX2, 4)) ⟨hx, hb, hml, hown, hts⟩ (c_withSort l dd cyI cyJ cyZ qr qt qh n hi tI hv i 10 (by omega) (by decide)) gX2_lackingSome_X2_withSort (ci := 2) rfl (q0 := 0) rfl (n := 2) rfl ⟨rfl, rfl⟩ (by decide +kernel) ⟨Nat.le_of_ble_eq_true rfl, Nat.le_of_ble_eq_true rfl⟩ hN hK (hP.sub [0, 1, 2] rfl) rfl hl.1 rfl (Nat.le_of_ble_eq_true rfl) dX2_lackingSome_14 ⟨Nat.le_of_ble_eq_true rfl, Nat.le_of_ble_eq_true rfl⟩ (fun r1 h1 => ?_)
        rw [hH i (by omega) 10 (by decide)] at h1
        subst h1
        refine lv_lor hx hb dX2_lackingSome_17 ?_
        refine tpl (show ((lN (mk (lak sI i) n)) ||| (lN (mk (hav sI i 10) n)) : Int64) = lN (mk (lak sI (i + 1)) n) from lN_or hn) ?_
        refine lv_lstore_n (lv' := [(1, .long (lN (mk (lak sI (i + 1)) n))), (3, .int (nI i)), (0, .ref qr)]) hx hb dX2_lackingSome_18 rfl hl (by decide) rfl (fun ls hl => ?_)
        refine lv_iinc (v := nI (i + 1)) (lv' := [(3, .int (nI (i + 1))), (1, .long (lN (mk (lak sI (i + 1)) n))), (0, .ref qr)]) hx hb dX2_lackingSome_19 hl (k := 1) rfl (nI_1 i) (by decide) rfl (fun ls hl => ?_)
        refine lv_goto (tgt := 4) hx hb dX2_lackingSome_22 (by decide) ?_
        exact ih (i + 1) (by omega) ls (lv_sub hl [0, 1, 2] rfl)
  exact loop 5 0 rfl ls (by rw [lak0]; exact (lv_sub hl [0, 1, 2] rfl))
