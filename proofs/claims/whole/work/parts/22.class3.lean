theorem ns_y {b l f k : Nat} (h : b + k * l < 1000) : ns b l (f + 1) k = ns b l f (k + 1) := by simp only [ns]; rw [if_pos h]
theorem ns_n {b l f k : Nat} (h : ¬ b + k * l < 1000) : ns b l (f + 1) k = k := by simp only [ns]; rw [if_neg h]

set_option maxHeartbeats 4000000 in
set_option maxRecDepth 100000 in
theorem c_begin (l : Launch) (dd : va_G) (cyI cyJ cyZ : ClassId) (qa qa1 qa2 qa3 : Nat) (ba le sz0 al : Int32) (b l0 : Nat) (hb9 : b ≤ 999) (hl9 : l0 ≤ 999) (sz : Nat) : Met l yX0_begin wsX0_begin ({ frames := 1, cells := 0, slots := 0, locals := 21 } : Room) (va_Pc [.ref qa, .int (nI b), .int (nI l0)] (Wr dd [(cyI, .int), (cyJ, .long), (cyZ, .boolean)] [(qa, .inr (0, [.int ba, .int le, .int sz0, .int al, .ref qa1, .ref qa2, .ref qa3]))] sz)) (va_Qv (S := Unit) (fun (_ : Unit) => True) (WQ dd [(qa, .inr (0, [.int ba, .int le, .int sz0, .int al, .ref qa1, .ref qa2, .ref qa3]))] sz (fun _ => [(qa, .inr (0, [.int (nI b), .int (nI l0), .int (nI (nst b l0)), .int al, .ref qa1, .ref qa2, .ref qa3]))])) (va_A [(qa, .inr (0, [.int ba, .int le, .int sz0, .int al, .ref qa1, .ref qa2, .ref qa3]))] sz)) 0 0 (va_A [(qa, .inr (0, [.int ba, .int le, .int sz0, .int al, .ref qa1, .ref qa2, .ref qa3]))] sz) := by
  refine mkW (Qc := fun A => (va_Qv (S := Unit) (fun (_ : Unit) => True) (WQ dd [(qa, .inr (0, [.int ba, .int le, .int sz0, .int al, .ref qa1, .ref qa2, .ref qa3]))] sz (fun _ => [(qa, .inr (0, [.int (nI b), .int (nI l0), .int (nI (nst b l0)), .int al, .ref qa1, .ref qa2, .ref qa3]))])) A)) (cc := cX0_begin) (maxL := 4) (by decide) rfl (Nat.le_of_ble_eq_true rfl) (lv0 := [(0, .ref qa), (1, .int (nI b)), (2, .int (nI l0))]) rfl ?_
  intro p e s m below meth c ls H A hx hb hr hml hown hlocks hts hmn hN hP hK hD hS hA hAe hl
  have hown : s.vm.findClass RX0 = some m.cls := hown
  have hiX0 : ∀ w ∈ wsX00, w ∈ wsX0_begin := by decide +kernel
  refine lv_aload_n hx hb dX0_begin_0 rfl (lv_at hl 0 rfl) ?_
  refine lv_iload_n hx hb dX0_begin_1 rfl (lv_at hl 1 rfl) ?_
  refine va_put (D := dd) (ci := 0) (v := .int (nI b)) (ty := .int) (C := RX0) (T := TX0) (N := 7) hx hb hts hiX0 tyX0 tyX0_ok nmX0 hown hK hP hD hS 0 rfl rfl 0 (by decide) (hts (.fieldLink RX0 9 "SliceDrift$Alarms" "base" "I") (by decide +kernel)) (fun _ h9 => h9) rfl (by decide +kernel) rfl rfl (Nat.le_of_ble_eq_true rfl) dX0_begin_2 (fun H locs hP hD hS => ?_)
  have hP : va_P dd vwCl [(qa, .inr (0, [.int (nI b), .int le, .int sz0, .int al, .ref qa1, .ref qa2, .ref qa3]))] H := hP
  have hD : va_D A [(qa, .inr (0, [.int (nI b), .int le, .int sz0, .int al, .ref qa1, .ref qa2, .ref qa3]))] := hD
  refine lv_aload_n hx hb dX0_begin_5 rfl (lv_at hl 0 rfl) ?_
  refine lv_iload_n hx hb dX0_begin_6 rfl (lv_at hl 2 rfl) ?_
  refine va_put (D := dd) (ci := 0) (v := .int (nI l0)) (ty := .int) (C := RX0) (T := TX0) (N := 7) hx hb hts hiX0 tyX0 tyX0_ok nmX0 hown hK hP hD hS 0 rfl rfl 1 (by decide) (hts (.fieldLink RX0 15 "SliceDrift$Alarms" "length" "I") (by decide +kernel)) (fun _ h9 => h9) rfl (by decide +kernel) rfl rfl (Nat.le_of_ble_eq_true rfl) dX0_begin_7 (fun H locs hP hD hS => ?_)
  have hP : va_P dd vwCl [(qa, .inr (0, [.int (nI b), .int (nI l0), .int sz0, .int al, .ref qa1, .ref qa2, .ref qa3]))] H := hP
  have hD : va_D A [(qa, .inr (0, [.int (nI b), .int (nI l0), .int sz0, .int al, .ref qa1, .ref qa2, .ref qa3]))] := hD
  refine lv_aload_n hx hb dX0_begin_10 rfl (lv_at hl 0 rfl) ?_
  refine lv_iconst (v := 0) hx hb dX0_begin_11 (by decide) ?_
  refine va_put (D := dd) (ci := 0) (v := .int 0) (ty := .int) (C := RX0) (T := TX0) (N := 7) hx hb hts hiX0 tyX0 tyX0_ok nmX0 hown hK hP hD hS 0 rfl rfl 2 (by decide) (hts (.fieldLink RX0 18 "SliceDrift$Alarms" "size" "I") (by decide +kernel)) (fun _ h9 => h9) rfl (by decide +kernel) rfl rfl (Nat.le_of_ble_eq_true rfl) dX0_begin_12 (fun H locs hP hD hS => ?_)
  have hP : va_P dd vwCl [(qa, .inr (0, [.int (nI b), .int (nI l0), .int 0, .int al, .ref qa1, .ref qa2, .ref qa3]))] H := hP
  have hD : va_D A [(qa, .inr (0, [.int (nI b), .int (nI l0), .int 0, .int al, .ref qa1, .ref qa2, .ref qa3]))] := hD
  refine lv_iconst (v := 0) hx hb dX0_begin_15 (by decide) ?_
  refine lv_istore_n (lv' := [(3, .int 0), (0, .ref qa), (1, .int (nI b)), (2, .int (nI l0))]) hx hb dX0_begin_16 rfl hl (by decide) rfl (fun ls hl => ?_)
  have loop : ∀ (k : Nat) (j : Nat) (H : Heap) (locs : List Loc), j + k = 100 → ns b l0 k j = nst b l0 → va_P dd vwCl [(qa, .inr (0, [.int (nI b), .int (nI l0), .int (nI j), .int al, .ref qa1, .ref qa2, .ref qa3]))] H → va_D A [(qa, .inr (0, [.int (nI b), .int (nI l0), .int (nI j), .int al, .ref qa1, .ref qa2, .ref qa3]))] → va_S A s.heap H locs → ∀ ls : Array Slot, lv_has ls 4 [(3, .int (nI j)), (0, .ref qa)] → W p l e ({ frames := 1, cells := 0, slots := 0, locals := 21 } : Room) s m ([.ref qa, .int (nI b), .int (nI l0)] : List Value).toArray below meth c H locs 0 0 (MQ below (va_Qv (S := Unit) (fun (_ : Unit) => True) (WQ dd [(qa, .inr (0, [.int ba, .int le, .int sz0, .int al, .ref qa1, .ref qa2, .ref qa3]))] sz (fun _ => [(qa, .inr (0, [.int (nI b), .int (nI l0), .int (nI (nst b l0)), .int al, .ref qa1, .ref qa2, .ref qa3]))])) A) ([.ref qa, .int (nI b), .int (nI l0)] : List Value).toArray s 0 0 A) (F0 m 17 ls []) := by
    intro k
    induction k with
    | zero =>
      intro j H locs hj9 hs hP hD hS ls hl
      refine lv_iload_n hx hb dX0_begin_17 rfl (lv_at hl 0 rfl) ?_
      refine lv_bipush (v := 100) hx hb dX0_begin_18 (by decide) ?_
      refine lv_icmp_ge (tgt := 50) hx hb dX0_begin_20 (by decide) (fun q => ?_) (fun q => ?_)
      · have hj : nst b l0 = j := hs.symm
        rw [← hj] at hP hD
        exact ewV () hx hb hr hlocks hAe hS dX0_begin_50 trivial (hP.sub [0] rfl) (hD.sub [0] (by decide) rfl)
      · exact absurd (nI_le (show 100 ≤ j by omega) (by omega)) q
    | succ k ih =>
      intro j H locs hj9 hs hP hD hS ls hl
      refine lv_iload_n hx hb dX0_begin_17 rfl (lv_at hl 0 rfl) ?_
      refine lv_bipush (v := 100) hx hb dX0_begin_18 (by decide) ?_
      refine lv_icmp_ge (tgt := 50) hx hb dX0_begin_20 (by decide) (fun q => ?_) (fun q => ?_)
      · exact absurd q (nI_ge (show j < 100 by omega) (by decide))
      · have hm : j * l0 ≤ 100 * 999 := Nat.mul_le_mul (by omega) hl9
        refine lv_aload_n hx hb dX0_begin_23 rfl (lv_at hl 1 rfl) ?_
        refine lv_iload_n hx hb dX0_begin_24 rfl (lv_at hl 0 rfl) ?_
        refine clVi (As := [.int (nI j)]) (rest := []) (b := qa) (vc := (RX0, TX0, 7)) ⟨hx, hb, hml, hown, hts⟩ (c_beginOf l dd cyI cyJ cyZ qa qa1 qa2 qa3 (nI b) (nI l0) (nI j) al (nI j)) gX0_begin_X0_beginOf (ci := 0) rfl (q0 := 0) rfl (n := 1) rfl ⟨rfl, rfl⟩ (by decide +kernel) ⟨Nat.le_of_ble_eq_true rfl, Nat.le_of_ble_eq_true rfl⟩ hN hK (hP.sub [0] rfl) rfl hl.1 rfl (Nat.le_of_ble_eq_true rfl) dX0_begin_25 ⟨Nat.le_of_ble_eq_true rfl, Nat.le_of_ble_eq_true rfl⟩ (fun r1 h1 => ?_)
        subst h1
        refine tpi (show (nI b + nI j * nI l0 : Int32) = nI (b + j * l0) from by rw [pk_mul, nI_add]) ?_
        refine lv_sipush (v := 1000) hx hb dX0_begin_28 (by decide) ?_
        refine lv_icmp_ge (tgt := 50) hx hb dX0_begin_31 (by decide) (fun q2 => ?_) (fun q2 => ?_)
        · have hj : nst b l0 = j := by rw [← hs, ns_n (fun h => absurd q2 (nI_ge (b := 1000) h (by decide)))]
          rw [← hj] at hP hD
          exact ewV () hx hb hr hlocks hAe hS dX0_begin_50 trivial (hP.sub [0] rfl) (hD.sub [0] (by decide) rfl)
        · have h1 : b + j * l0 < 1000 := Nat.lt_of_not_le (fun h => q2 (nI_le (a := 1000) h (by omega)))
          refine lv_aload_n hx hb dX0_begin_34 rfl (lv_at hl 1 rfl) ?_
          refine lv_dup hx hb dX0_begin_35 rfl ?_
          refine va_get (D := dd) (ci := 0) (C := RX0) (T := TX0) (N := 7) (v := .int (nI j)) hx hb hts hiX0 hown hK hP 0 rfl rfl 2 (by decide) (hts (.fieldLink RX0 18 "SliceDrift$Alarms" "size" "I") (by decide +kernel)) (fun _ h9 => h9) rfl dX0_begin_36 ?_
          refine lv_iconst (v := 1) hx hb dX0_begin_39 (by decide) ?_
          refine lv_iadd hx hb dX0_begin_40 ?_
          refine tpi (show ((nI j) + 1 : Int32) = nI (j + 1) from nI_1 j) ?_
          refine va_put (D := dd) (ci := 0) (v := .int (nI (j + 1))) (ty := .int) (C := RX0) (T := TX0) (N := 7) hx hb hts hiX0 tyX0 tyX0_ok nmX0 hown hK hP hD hS 0 rfl rfl 2 (by decide) (hts (.fieldLink RX0 18 "SliceDrift$Alarms" "size" "I") (by decide +kernel)) (fun _ h9 => h9) rfl (by decide +kernel) rfl rfl (Nat.le_of_ble_eq_true rfl) dX0_begin_41 (fun H locs hP hD hS => ?_)
          have hP : va_P dd vwCl [(qa, .inr (0, [.int (nI b), .int (nI l0), .int (nI (j + 1)), .int al, .ref qa1, .ref qa2, .ref qa3]))] H := hP
          have hD : va_D A [(qa, .inr (0, [.int (nI b), .int (nI l0), .int (nI (j + 1)), .int al, .ref qa1, .ref qa2, .ref qa3]))] := hD
          refine lv_iinc (v := nI (j + 1)) (lv' := [(3, .int (nI (j + 1))), (0, .ref qa)]) hx hb dX0_begin_44 hl (k := 0) rfl (nI_1 j) (by decide) rfl (fun ls hl => ?_)
          refine lv_goto (tgt := 17) hx hb dX0_begin_47 (by decide) ?_
          exact ih (j + 1) H locs (by omega) (by rw [← hs, ns_y h1]) hP hD hS ls (lv_sub hl [0, 1] rfl)
  exact loop 100 0 H _ rfl rfl hP hD hS ls (lv_sub hl [0, 1] rfl)

theorem minI {x z : Nat} (hx : x < 2 ^ 31) (hz : z < 2 ^ 31) : (if nI z < nI x then nI z else nI x) = nI (min x z) := by
  by_cases h : z < x
  · rw [if_pos (nI_lt h hx)]; congr 1; omega
  · rw [if_neg (fun q => h ((nI_ltI hz hx).mp q))]; congr 1; omega

set_option maxHeartbeats 4000000 in
set_option maxRecDepth 100000 in
theorem c_measure (l : Launch) (dd : va_G) (cyI cyJ cyZ : ClassId) (qa qa1 qa2 qa3 : Nat) (al : Int32) (b l0 lm : Nat) (hb9 : b ≤ 999) (hl9 : l0 ≤ 999) (hlm : lm ≤ 1000) (qr qt qh n : Nat) (hi : Int64) (tI : Nat → Int32) (hv : Nat → Int64) (hI sI : Nat → Int32) (hR : RowsOk n hI sI hi hv) (co : Nat) (hco : co < 5) (r0 o0 : Nat → Int32) (sz : Nat) : Met l yX0_measure wsX0_measure ({ frames := 3, cells := 0, slots := 0, locals := 80 } : Room) (va_Pc [.ref qa, .ref qr, .int (nI co), .int (nI lm)] (Wr dd [(cyI, .int), (cyJ, .long), (cyZ, .boolean)] [(qa, .inr (0, [.int (nI b), .int (nI l0), .int (nI (nst b l0)), .int al, .ref qa1, .ref qa2, .ref qa3])), (qa1, .inl (cyI, 100, .inl r0)), (qa2, .inl (cyZ, 100, .inl o0)), (qr, .inr (2, [.int (nI n), .long hi, .ref qt, .ref qh])), (qt, .inl (cyI, 48, .inl tI)), (qh, .inl (cyJ, 55, .inr (.inl hv)))] sz)) (va_Qv (S := (Nat → Int32) × (Nat → Int32)) (fun (u : (Nat → Int32) × (Nat → Int32)) => ∀ k, k < nst b l0 → u.1 k = nI (cnt (wG tI b l0 k) n) ∧ u.2 k = b01 (wOff tI sI n co b l0 lm k)) (WQ dd [(qa, .inr (0, [.int (nI b), .int (nI l0), .int (nI (nst b l0)), .int al, .ref qa1, .ref qa2, .ref qa3])), (qa1, .inl (cyI, 100, .inl r0)), (qa2, .inl (cyZ, 100, .inl o0)), (qr, .inr (2, [.int (nI n), .long hi, .ref qt, .ref qh])), (qt, .inl (cyI, 48, .inl tI)), (qh, .inl (cyJ, 55, .inr (.inl hv)))] sz (fun u => [(qa, .inr (0, [.int (nI b), .int (nI l0), .int (nI (nst b l0)), .int al, .ref qa1, .ref qa2, .ref qa3])), (qa1, .inl (cyI, 100, .inl u.1)), (qa2, .inl (cyZ, 100, .inl u.2)), (qr, .inr (2, [.int (nI n), .long hi, .ref qt, .ref qh])), (qt, .inl (cyI, 48, .inl tI)), (qh, .inl (cyJ, 55, .inr (.inl hv)))])) (va_A [(qa, .inr (0, [.int (nI b), .int (nI l0), .int (nI (nst b l0)), .int al, .ref qa1, .ref qa2, .ref qa3])), (qa1, .inl (cyI, 100, .inl r0)), (qa2, .inl (cyZ, 100, .inl o0)), (qr, .inr (2, [.int (nI n), .long hi, .ref qt, .ref qh])), (qt, .inl (cyI, 48, .inl tI)), (qh, .inl (cyJ, 55, .inr (.inl hv)))] sz)) 0 0 (va_A [(qa, .inr (0, [.int (nI b), .int (nI l0), .int (nI (nst b l0)), .int al, .ref qa1, .ref qa2, .ref qa3])), (qa1, .inl (cyI, 100, .inl r0)), (qa2, .inl (cyZ, 100, .inl o0)), (qr, .inr (2, [.int (nI n), .long hi, .ref qt, .ref qh])), (qt, .inl (cyI, 48, .inl tI)), (qh, .inl (cyJ, 55, .inr (.inl hv)))] sz) := by
  refine mkW (Qc := fun A => (va_Qv (S := (Nat → Int32) × (Nat → Int32)) (fun (u : (Nat → Int32) × (Nat → Int32)) => ∀ k, k < nst b l0 → u.1 k = nI (cnt (wG tI b l0 k) n) ∧ u.2 k = b01 (wOff tI sI n co b l0 lm k)) (WQ dd [(qa, .inr (0, [.int (nI b), .int (nI l0), .int (nI (nst b l0)), .int al, .ref qa1, .ref qa2, .ref qa3])), (qa1, .inl (cyI, 100, .inl r0)), (qa2, .inl (cyZ, 100, .inl o0)), (qr, .inr (2, [.int (nI n), .long hi, .ref qt, .ref qh])), (qt, .inl (cyI, 48, .inl tI)), (qh, .inl (cyJ, 55, .inr (.inl hv)))] sz (fun u => [(qa, .inr (0, [.int (nI b), .int (nI l0), .int (nI (nst b l0)), .int al, .ref qa1, .ref qa2, .ref qa3])), (qa1, .inl (cyI, 100, .inl u.1)), (qa2, .inl (cyZ, 100, .inl u.2)), (qr, .inr (2, [.int (nI n), .long hi, .ref qt, .ref qh])), (qt, .inl (cyI, 48, .inl tI)), (qh, .inl (cyJ, 55, .inr (.inl hv)))])) A)) (cc := cX0_measure) (maxL := 9) (by decide) rfl (Nat.le_of_ble_eq_true rfl) (lv0 := [(0, .ref qa), (1, .ref qr), (2, .int (nI co)), (3, .int (nI lm))]) rfl ?_
  intro p e s m below meth c ls H A hx hb hr hml hown hlocks hts hmn hN hP hK hD hS hA hAe hl
  have hown : s.vm.findClass RX0 = some m.cls := hown
  have hiX0 : ∀ w ∈ wsX00, w ∈ wsX0_measure := by decide +kernel
  have hiX2 : ∀ w ∈ wsX20, w ∈ wsX0_measure := by decide +kernel
  have hn := hR.1
  have hst := ns_le b l0 100 0
  have hst : nst b l0 ≤ 100 := by unfold nst; omega
  refine lv_aload_n hx hb dX0_measure_0 rfl (lv_at hl 1 rfl) ?_
  refine lv_iconst (v := 0) hx hb dX0_measure_1 (by decide) ?_
  refine lv_aload_n hx hb dX0_measure_2 rfl (lv_at hl 0 rfl) ?_
  refine va_get (D := dd) (ci := 0) (C := RX0) (T := TX0) (N := 7) (v := .int (nI b)) hx hb hts hiX0 hown hK hP 0 rfl rfl 0 (by decide) (hts (.fieldLink RX0 9 "SliceDrift$Alarms" "base" "I") (by decide +kernel)) (fun _ h9 => h9) rfl dX0_measure_3 ?_
  refine clVl (As := [.int 0, .int (nI b)]) (rest := []) (b := qr) (vc := (RX2, TX2, 4)) ⟨hx, hb, hml, hown, hts⟩ (c_between l dd cyI cyJ cyZ qr qt qh n hi tI hv 0 (nI b) hn) gX0_measure_X2_between (ci := 2) rfl (q0 := 0) rfl (n := 2) rfl ⟨rfl, rfl⟩ (by decide +kernel) ⟨Nat.le_of_ble_eq_true rfl, Nat.le_of_ble_eq_true rfl⟩ hN hK (hP.sub [3, 4, 5] rfl) rfl hl.1 rfl (Nat.le_of_ble_eq_true rfl) dX0_measure_6 ⟨Nat.le_of_ble_eq_true rfl, Nat.le_of_ble_eq_true rfl⟩ (fun r1 h1 => ?_)
  subst h1
  obtain ⟨F, eF⟩ : ∃ F, F = win tI 0 (nI b) := ⟨_, rfl⟩
  rw [← eF]
  refine lv_lstore (lv' := [(4, .long (lN (mk F n))), (0, .ref qa), (1, .ref qr), (2, .int (nI co)), (3, .int (nI lm))]) hx hb dX0_measure_9 hl (by decide) rfl (fun ls hl => ?_)
  refine lv_iconst (v := 0) hx hb dX0_measure_11 (by decide) ?_
  refine lv_istore (lv' := [(6, .int 0), (4, .long (lN (mk F n))), (0, .ref qa), (1, .ref qr), (2, .int (nI co)), (3, .int (nI lm))]) hx hb dX0_measure_12 hl (by decide) rfl (fun ls hl => ?_)
  have loop : ∀ (k : Nat) (j : Nat) (rB oB : Nat → Int32) (H : Heap) (locs : List Loc), j + k = nst b l0 → (∀ k, k < j → rB k = nI (cnt (wG tI b l0 k) n) ∧ oB k = b01 (wOff tI sI n co b l0 lm k)) → va_P dd vwCl [(qa, .inr (0, [.int (nI b), .int (nI l0), .int (nI (nst b l0)), .int al, .ref qa1, .ref qa2, .ref qa3])), (qa1, .inl (cyI, 100, .inl rB)), (qa2, .inl (cyZ, 100, .inl oB)), (qr, .inr (2, [.int (nI n), .long hi, .ref qt, .ref qh])), (qt, .inl (cyI, 48, .inl tI)), (qh, .inl (cyJ, 55, .inr (.inl hv)))] H → va_D A [(qa, .inr (0, [.int (nI b), .int (nI l0), .int (nI (nst b l0)), .int al, .ref qa1, .ref qa2, .ref qa3])), (qa1, .inl (cyI, 100, .inl rB)), (qa2, .inl (cyZ, 100, .inl oB)), (qr, .inr (2, [.int (nI n), .long hi, .ref qt, .ref qh])), (qt, .inl (cyI, 48, .inl tI)), (qh, .inl (cyJ, 55, .inr (.inl hv)))] → va_S A s.heap H locs → ∀ ls : Array Slot, lv_has ls 9 [(6, .int (nI j)), (4, .long (lN (mk F n))), (0, .ref qa), (1, .ref qr), (2, .int (nI co)), (3, .int (nI lm))] → W p l e ({ frames := 3, cells := 0, slots := 0, locals := 80 } : Room) s m ([.ref qa, .ref qr, .int (nI co), .int (nI lm)] : List Value).toArray below meth c H locs 0 0 (MQ below (va_Qv (S := (Nat → Int32) × (Nat → Int32)) (fun (u : (Nat → Int32) × (Nat → Int32)) => ∀ k, k < nst b l0 → u.1 k = nI (cnt (wG tI b l0 k) n) ∧ u.2 k = b01 (wOff tI sI n co b l0 lm k)) (WQ dd [(qa, .inr (0, [.int (nI b), .int (nI l0), .int (nI (nst b l0)), .int al, .ref qa1, .ref qa2, .ref qa3])), (qa1, .inl (cyI, 100, .inl r0)), (qa2, .inl (cyZ, 100, .inl o0)), (qr, .inr (2, [.int (nI n), .long hi, .ref qt, .ref qh])), (qt, .inl (cyI, 48, .inl tI)), (qh, .inl (cyJ, 55, .inr (.inl hv)))] sz (fun u => [(qa, .inr (0, [.int (nI b), .int (nI l0), .int (nI (nst b l0)), .int al, .ref qa1, .ref qa2, .ref qa3])), (qa1, .inl (cyI, 100, .inl u.1)), (qa2, .inl (cyZ, 100, .inl u.2)), (qr, .inr (2, [.int (nI n), .long hi, .ref qt, .ref qh])), (qt, .inl (cyI, 48, .inl tI)), (qh, .inl (cyJ, 55, .inr (.inl hv)))])) A) ([.ref qa, .ref qr, .int (nI co), .int (nI lm)] : List Value).toArray s 0 0 A) (F0 m 14 ls []) := by
    intro k
    induction k with
    | zero =>
      intro j rB oB H locs hj9 hu hP hD hS ls hl
      refine lv_iload hx hb dX0_measure_14 (lv_at hl 0 rfl) ?_
      refine lv_aload_n hx hb dX0_measure_16 rfl (lv_at hl 2 rfl) ?_
      refine va_get (D := dd) (ci := 0) (C := RX0) (T := TX0) (N := 7) (v := .int (nI (nst b l0))) hx hb hts hiX0 hown hK hP 0 rfl rfl 2 (by decide) (hts (.fieldLink RX0 18 "SliceDrift$Alarms" "size" "I") (by decide +kernel)) (fun _ h9 => h9) rfl dX0_measure_17 ?_
      refine lv_icmp_ge (tgt := 111) hx hb dX0_measure_20 (by decide) (fun q => ?_) (fun q => ?_)
      · exact ewV (rB, oB) hx hb hr hlocks hAe hS dX0_measure_111 (fun k9 h9 => hu k9 (by omega)) (hP.sub [0, 1, 2, 3, 4, 5] rfl) (hD.sub [0, 1, 2, 3, 4, 5] (by decide) rfl)
      · exact absurd (nI_le (show nst b l0 ≤ j by omega) (by omega)) q
    | succ k ih =>
      intro j rB oB H locs hj9 hu hP hD hS ls hl
      refine lv_iload hx hb dX0_measure_14 (lv_at hl 0 rfl) ?_
      refine lv_aload_n hx hb dX0_measure_16 rfl (lv_at hl 2 rfl) ?_
      refine va_get (D := dd) (ci := 0) (C := RX0) (T := TX0) (N := 7) (v := .int (nI (nst b l0))) hx hb hts hiX0 hown hK hP 0 rfl rfl 2 (by decide) (hts (.fieldLink RX0 18 "SliceDrift$Alarms" "size" "I") (by decide +kernel)) (fun _ h9 => h9) rfl dX0_measure_17 ?_
      refine lv_icmp_ge (tgt := 111) hx hb dX0_measure_20 (by decide) (fun q => ?_) (fun q => ?_)
      · exact absurd q (nI_ge (show j < nst b l0 by omega) (by omega))
      · have hm : j * l0 ≤ 100 * 999 := Nat.mul_le_mul (by omega) hl9
        have hm2 : (j + 1) * l0 ≤ 100 * 999 := Nat.mul_le_mul (by omega) hl9
        refine lv_aload_n hx hb dX0_measure_23 rfl (lv_at hl 3 rfl) ?_
        refine lv_aload_n hx hb dX0_measure_24 rfl (lv_at hl 2 rfl) ?_
        refine lv_iload hx hb dX0_measure_25 (lv_at hl 0 rfl) ?_
        refine clVi (As := [.int (nI j)]) (rest := [.ref qr]) (b := qa) (vc := (RX0, TX0, 7)) ⟨hx, hb, hml, hown, hts⟩ (c_beginOf l dd cyI cyJ cyZ qa qa1 qa2 qa3 (nI b) (nI l0) (nI (nst b l0)) al (nI j)) gX0_measure_X0_beginOf (ci := 0) rfl (q0 := 0) rfl (n := 1) rfl ⟨rfl, rfl⟩ (by decide +kernel) ⟨Nat.le_of_ble_eq_true rfl, Nat.le_of_ble_eq_true rfl⟩ hN hK (hP.sub [0] rfl) rfl hl.1 rfl (Nat.le_of_ble_eq_true rfl) dX0_measure_27 ⟨Nat.le_of_ble_eq_true rfl, Nat.le_of_ble_eq_true rfl⟩ (fun r2 hr2 => ?_)
        subst hr2
        refine tpi (show (nI b + nI j * nI l0 : Int32) = nI (b + j * l0) from by rw [pk_mul, nI_add]) ?_
        refine lv_aload_n hx hb dX0_measure_30 rfl (lv_at hl 2 rfl) ?_
        refine lv_iload hx hb dX0_measure_31 (lv_at hl 0 rfl) ?_
        refine lv_iconst (v := 1) hx hb dX0_measure_33 (by decide) ?_
        refine lv_iadd hx hb dX0_measure_34 ?_
        refine tpi (show ((nI j) + 1 : Int32) = nI (j + 1) from nI_1 j) ?_
        refine clVi (As := [.int (nI (j + 1))]) (rest := [.int (nI (b + j * l0)), .ref qr]) (b := qa) (vc := (RX0, TX0, 7)) ⟨hx, hb, hml, hown, hts⟩ (c_beginOf l dd cyI cyJ cyZ qa qa1 qa2 qa3 (nI b) (nI l0) (nI (nst b l0)) al (nI (j + 1))) gX0_measure_X0_beginOf (ci := 0) rfl (q0 := 0) rfl (n := 1) rfl ⟨rfl, rfl⟩ (by decide +kernel) ⟨Nat.le_of_ble_eq_true rfl, Nat.le_of_ble_eq_true rfl⟩ hN hK (hP.sub [0] rfl) rfl hl.1 rfl (Nat.le_of_ble_eq_true rfl) dX0_measure_35 ⟨Nat.le_of_ble_eq_true rfl, Nat.le_of_ble_eq_true rfl⟩ (fun r3 hr3 => ?_)
        subst hr3
        refine tpi (show (nI b + nI (j + 1) * nI l0 : Int32) = nI (b + (j + 1) * l0) from by rw [pk_mul, nI_add]) ?_
        refine lv_sipush (v := 1000) hx hb dX0_measure_38 (by decide) ?_
        refine va_mmin hx hb (hml.trans hl.1.symm) hown (hts (.methodLink RX0 45 Lib.Math.min.name) (by decide +kernel)) (hts (.static Lib.Math.min.name) (by decide +kernel)) (hts (.initialized "java/lang/Math") (by decide +kernel)) (hts (.code Lib.Math.min.name Lib.Math.min.code 2 (some .int)) (by decide +kernel)) (Nat.le_of_ble_eq_true rfl) (Nat.le_of_ble_eq_true rfl) (Nat.le_of_ble_eq_true rfl) (Nat.le_of_ble_eq_true rfl) dX0_measure_41 ?_
        refine tpi (show (if 1000 < (nI (b + (j + 1) * l0)) then 1000 else nI (b + (j + 1) * l0) : Int32) = fin b l0 j from minI (x := b + (j + 1) * l0) (z := 1000) (by omega) (by decide)) ?_
        refine clVl (As := [.int (nI (b + j * l0)), .int (fin b l0 j)]) (rest := []) (b := qr) (vc := (RX2, TX2, 4)) ⟨hx, hb, hml, hown, hts⟩ (c_between l dd cyI cyJ cyZ qr qt qh n hi tI hv (nI (b + j * l0)) (fin b l0 j) hn) gX0_measure_X2_between (ci := 2) rfl (q0 := 0) rfl (n := 2) rfl ⟨rfl, rfl⟩ (by decide +kernel) ⟨Nat.le_of_ble_eq_true rfl, Nat.le_of_ble_eq_true rfl⟩ hN hK (hP.sub [3, 4, 5] rfl) rfl hl.1 rfl (Nat.le_of_ble_eq_true rfl) dX0_measure_44 ⟨Nat.le_of_ble_eq_true rfl, Nat.le_of_ble_eq_true rfl⟩ (fun r4 h4 => ?_)
        have h4 : r4 = lN (mk (wG tI b l0 j) n) := h4
        subst h4
        obtain ⟨G, eG⟩ : ∃ G, G = wG tI b l0 j := ⟨_, rfl⟩
        rw [← eG]
        refine lv_lstore (lv' := [(7, .long (lN (mk G n))), (6, .int (nI j)), (4, .long (lN (mk F n))), (0, .ref qa), (1, .ref qr), (2, .int (nI co)), (3, .int (nI lm))]) hx hb dX0_measure_47 hl (by decide) rfl (fun ls hl => ?_)
        refine lv_aload_n hx hb dX0_measure_49 rfl (lv_at hl 3 rfl) ?_
        refine va_get (D := dd) (ci := 0) (C := RX0) (T := TX0) (N := 7) (v := .ref qa1) hx hb hts hiX0 hown hK hP 0 rfl rfl 4 (by decide) (hts (.fieldLink RX0 24 "SliceDrift$Alarms" "stepRows" "[I") (by decide +kernel)) (fun _ h9 => h9) rfl dX0_measure_50 ?_
        refine lv_iload hx hb dX0_measure_53 (lv_at hl 1 rfl) ?_
        refine lv_lload hx hb dX0_measure_55 (lv_at hl 0 rfl) ?_
        refine clSi (As := [.long (lN (mk G n))]) (rest := [.int (nI j), .ref qa1]) ⟨hx, hb, hml, hown, hts⟩ (c_bitCount l dd cyI cyJ cyZ (mk G n) (mk64 _ hn)) gX0_measure_J13_bitCount_95d88 (n := 1) rfl ⟨rfl, rfl⟩ (by decide +kernel) ⟨Nat.le_of_ble_eq_true rfl, Nat.le_of_ble_eq_true rfl⟩ hN hK (hP.sub [] rfl) rfl hl.1 rfl (Nat.le_of_ble_eq_true rfl) dX0_measure_57 ⟨Nat.le_of_ble_eq_true rfl, Nat.le_of_ble_eq_true rfl⟩ (fun r5 h5 => ?_)
        rw [cnt_mk _ (Nat.le_trans hn (by decide))] at h5
        subst h5
        refine va_iast hx hb hK hP hD hS 1 0 rfl rfl (i := nI j) (vp_in_nI (show j < 100 from (by omega)) (by decide)) dX0_measure_60 (fun H locs hP hD hS => ?_)
        rw [nI_clamp (show j < 2 ^ 31 from Nat.lt_trans (show j < 100 from (by omega)) (by decide))] at hP hD
        have hP : va_P dd vwCl [(qa, .inr (0, [.int (nI b), .int (nI l0), .int (nI (nst b l0)), .int al, .ref qa1, .ref qa2, .ref qa3])), (qa1, .inl (cyI, 100, .inl (upd rB j (nI (cnt G n))))), (qa2, .inl (cyZ, 100, .inl oB)), (qr, .inr (2, [.int (nI n), .long hi, .ref qt, .ref qh])), (qt, .inl (cyI, 48, .inl tI)), (qh, .inl (cyJ, 55, .inr (.inl hv)))] H := hP
        have hD : va_D A [(qa, .inr (0, [.int (nI b), .int (nI l0), .int (nI (nst b l0)), .int al, .ref qa1, .ref qa2, .ref qa3])), (qa1, .inl (cyI, 100, .inl (upd rB j (nI (cnt G n))))), (qa2, .inl (cyZ, 100, .inl oB)), (qr, .inr (2, [.int (nI n), .long hi, .ref qt, .ref qh])), (qt, .inl (cyI, 48, .inl tI)), (qh, .inl (cyJ, 55, .inr (.inl hv)))] := hD
        refine lv_aload_n hx hb dX0_measure_61 rfl (lv_at hl 3 rfl) ?_
        refine va_get (D := dd) (ci := 0) (C := RX0) (T := TX0) (N := 7) (v := .ref qa2) hx hb hts hiX0 hown hK hP 0 rfl rfl 5 (by decide) (hts (.fieldLink RX0 28 "SliceDrift$Alarms" "off" "[Z") (by decide +kernel)) (fun _ h9 => h9) rfl dX0_measure_62 ?_
        refine lv_iload hx hb dX0_measure_65 (lv_at hl 1 rfl) ?_
        refine lv_lload hx hb dX0_measure_67 (lv_at hl 0 rfl) ?_
        refine lv_lconst (v := 0) hx hb dX0_measure_69 (by decide) ?_
        refine W.lcmp hx hb dX0_measure_70 ?_
        have lF := Nat.le_trans (cnt_le F n) hn
        have lG := Nat.le_trans (cnt_le G n) hn
        have lD := dsu_le F G sI co hn 11
        have b1 : 2 * cnt F n * cnt G n ≤ 2 * 48 * 48 := Nat.mul_le_mul (Nat.mul_le_mul_left 2 lF) lG
        have b2 : lm * (2 * cnt F n * cnt G n) ≤ 1000 * (2 * 48 * 48) := Nat.mul_le_mul hlm b1
        have m104 : W p l e ({ frames := 3, cells := 0, slots := 0, locals := 80 } : Room) s m ([.ref qa, .ref qr, .int (nI co), .int (nI lm)] : List Value).toArray below meth c H locs 0 0 (MQ below (va_Qv (S := (Nat → Int32) × (Nat → Int32)) (fun (u : (Nat → Int32) × (Nat → Int32)) => ∀ k, k < nst b l0 → u.1 k = nI (cnt (wG tI b l0 k) n) ∧ u.2 k = b01 (wOff tI sI n co b l0 lm k)) (WQ dd [(qa, .inr (0, [.int (nI b), .int (nI l0), .int (nI (nst b l0)), .int al, .ref qa1, .ref qa2, .ref qa3])), (qa1, .inl (cyI, 100, .inl r0)), (qa2, .inl (cyZ, 100, .inl o0)), (qr, .inr (2, [.int (nI n), .long hi, .ref qt, .ref qh])), (qt, .inl (cyI, 48, .inl tI)), (qh, .inl (cyJ, 55, .inr (.inl hv)))] sz (fun u => [(qa, .inr (0, [.int (nI b), .int (nI l0), .int (nI (nst b l0)), .int al, .ref qa1, .ref qa2, .ref qa3])), (qa1, .inl (cyI, 100, .inl u.1)), (qa2, .inl (cyZ, 100, .inl u.2)), (qr, .inr (2, [.int (nI n), .long hi, .ref qt, .ref qh])), (qt, .inl (cyI, 48, .inl tI)), (qh, .inl (cyJ, 55, .inr (.inl hv)))])) A) ([.ref qa, .ref qr, .int (nI co), .int (nI lm)] : List Value).toArray s 0 0 A) (F0 m 104 ls [.int (b01 (wOff tI sI n co b l0 lm j)), .int (nI j), .ref qa2]) := by
          refine va_zast hx hb hK hP hD hS 2 2 rfl rfl (i := nI j) (vp_in_nI (show j < 100 from (by omega)) (by decide)) dX0_measure_104 (fun H locs hP hD hS => ?_)
          rw [nI_clamp (show j < 2 ^ 31 from Nat.lt_trans (show j < 100 from (by omega)) (by decide)), z01 (b01_z _)] at hP hD
          have hP : va_P dd vwCl [(qa, .inr (0, [.int (nI b), .int (nI l0), .int (nI (nst b l0)), .int al, .ref qa1, .ref qa2, .ref qa3])), (qa1, .inl (cyI, 100, .inl (upd rB j (nI (cnt G n))))), (qa2, .inl (cyZ, 100, .inl (upd oB j (b01 (wOff tI sI n co b l0 lm j))))), (qr, .inr (2, [.int (nI n), .long hi, .ref qt, .ref qh])), (qt, .inl (cyI, 48, .inl tI)), (qh, .inl (cyJ, 55, .inr (.inl hv)))] H := hP
          have hD : va_D A [(qa, .inr (0, [.int (nI b), .int (nI l0), .int (nI (nst b l0)), .int al, .ref qa1, .ref qa2, .ref qa3])), (qa1, .inl (cyI, 100, .inl (upd rB j (nI (cnt G n))))), (qa2, .inl (cyZ, 100, .inl (upd oB j (b01 (wOff tI sI n co b l0 lm j))))), (qr, .inr (2, [.int (nI n), .long hi, .ref qt, .ref qh])), (qt, .inl (cyI, 48, .inl tI)), (qh, .inl (cyJ, 55, .inr (.inl hv)))] := hD
          refine lv_iinc (v := nI (j + 1)) (lv' := [(6, .int (nI (j + 1))), (7, .long (lN (mk G n))), (4, .long (lN (mk F n))), (0, .ref qa), (1, .ref qr), (2, .int (nI co)), (3, .int (nI lm))]) hx hb dX0_measure_105 hl (k := 1) rfl (nI_1 j) (by decide) rfl (fun ls hl => ?_)
          refine lv_goto (tgt := 14) hx hb dX0_measure_108 (by decide) ?_
          exact ih (j + 1) (upd rB j (nI (cnt G n))) (upd oB j (b01 (wOff tI sI n co b l0 lm j))) H locs (by omega) (fun k9 h9 => (Nat.lt_or_ge k9 j).elim (fun h => by rw [pk_un (by omega), pk_un (by omega)]; exact hu k9 h) (fun h => by rw [show k9 = j by omega, pk_us, pk_us, eG]; exact ⟨rfl, rfl⟩)) hP hD hS ls (lv_sub hl [0, 2, 3, 4, 5, 6] rfl)
        have eO : wOff tI sI n co b l0 lm j = (decide (¬ cnt G n = 0) && decide (lm * (2 * cnt F n * cnt G n) ≤ 1000 * dsu F G sI co n 11)) := by unfold wOff wHas; rw [← eG, ← eF]
        refine lv_if_eq (tgt := 103) hx hb dX0_measure_71 (by decide) (fun q2 => ?_) (fun q2 => ?_)
        · refine lv_iconst (v := 0) hx hb dX0_measure_103 (by decide) ?_
          refine tpi (show (0 : Int32) = b01 (wOff tI sI n co b l0 lm j) from by rw [eO, show cnt G n = 0 from mk0_cnt.mp ((lN0 (mk62 _ hn)).mp q2)]; rfl) ?_
          exact m104
        · have g0 : ¬ cnt G n = 0 := fun h => q2 ((lN0 (mk62 _ hn)).mpr (mk0_cnt.mpr h))
          refine lv_sipush (v := 1000) hx hb dX0_measure_74 (by decide) ?_
          refine lv_aload_n hx hb dX0_measure_77 rfl (lv_at hl 4 rfl) ?_
          refine lv_iload_n hx hb dX0_measure_78 rfl (lv_at hl 5 rfl) ?_
          refine lv_lload hx hb dX0_measure_79 (lv_at hl 2 rfl) ?_
          refine lv_lload hx hb dX0_measure_81 (lv_at hl 0 rfl) ?_
          refine clVi (As := [.int (nI co), .long (lN (mk F n)), .long (lN (mk G n))]) (rest := [.int 1000, .int (nI j), .ref qa2]) (b := qr) (vc := (RX2, TX2, 4)) ⟨hx, hb, hml, hown, hts⟩ (c_driftAbove l dd cyI cyJ cyZ qr qt qh n hi tI hv hI sI hR co hco F G) gX0_measure_X2_driftAbove (ci := 2) rfl (q0 := 0) rfl (n := 3) rfl ⟨rfl, rfl⟩ (by decide +kernel) ⟨Nat.le_of_ble_eq_true rfl, Nat.le_of_ble_eq_true rfl⟩ hN hK (hP.sub [3, 4, 5] rfl) rfl hl.1 rfl (Nat.le_of_ble_eq_true rfl) dX0_measure_83 ⟨Nat.le_of_ble_eq_true rfl, Nat.le_of_ble_eq_true rfl⟩ (fun r6 h6 => ?_)
          subst h6
          refine lv_imul hx hb dX0_measure_86 ?_
          refine tpi (show (1000 * (nI (dsu F G sI co n 11)) : Int32) = nI (1000 * dsu F G sI co n 11) from pk_mul 1000 _) ?_
          refine lv_iload_n hx hb dX0_measure_87 rfl (lv_at hl 6 rfl) ?_
          refine lv_lload hx hb dX0_measure_88 (lv_at hl 2 rfl) ?_
          refine lv_lload hx hb dX0_measure_90 (lv_at hl 0 rfl) ?_
          refine clNi (As := [.long (lN (mk F n)), .long (lN (mk G n))]) (rest := [.int (nI lm), .int (nI (1000 * dsu F G sI co n 11)), .int (nI j), .ref qa2]) ⟨hx, hb, hml, hown, hts⟩ (c_driftBelow l dd cyI cyJ cyZ (mk F n) (mk G n) (mk64 _ hn) (mk64 _ hn)) gX0_measure_X4_driftBelow_n61 (hN.m 4 rfl) (hts (.initialized RX4) (by decide +kernel)) (hts (.static yX4_driftBelow) (by decide +kernel)) (n := 2) rfl ⟨rfl, rfl⟩ (by decide +kernel) ⟨Nat.le_of_ble_eq_true rfl, Nat.le_of_ble_eq_true rfl⟩ hN hK (hP.sub [] rfl) rfl hl.1 rfl (Nat.le_of_ble_eq_true rfl) dX0_measure_92 ⟨Nat.le_of_ble_eq_true rfl, Nat.le_of_ble_eq_true rfl⟩ (fun r7 h7 => ?_)
          rw [cnt_mk _ (Nat.le_trans hn (by decide)), cnt_mk _ (Nat.le_trans hn (by decide))] at h7
          subst h7
          refine lv_imul hx hb dX0_measure_95 ?_
          refine tpi (show ((nI lm) * (nI (2 * cnt F n * cnt G n)) : Int32) = nI (lm * (2 * cnt F n * cnt G n)) from pk_mul _ _) ?_
          refine lv_icmp_lt (tgt := 103) hx hb dX0_measure_96 (by decide) (fun q3 => ?_) (fun q3 => ?_)
          · refine lv_iconst (v := 0) hx hb dX0_measure_103 (by decide) ?_
            refine tpi (show (0 : Int32) = b01 (wOff tI sI n co b l0 lm j) from by rw [eO, decide_eq_false (show ¬ lm * (2 * cnt F n * cnt G n) ≤ 1000 * dsu F G sI co n 11 from fun h => absurd ((nI_ltI (by omega) (by omega)).mp q3) (by omega)), Bool.and_false]; rfl) ?_
            exact m104
          · refine lv_iconst (v := 1) hx hb dX0_measure_99 (by decide) ?_
            refine lv_goto (tgt := 104) hx hb dX0_measure_100 (by decide) ?_
            refine tpi (show (1 : Int32) = b01 (wOff tI sI n co b l0 lm j) from by rw [eO, decide_eq_true g0, decide_eq_true (show lm * (2 * cnt F n * cnt G n) ≤ 1000 * dsu F G sI co n 11 from Nat.le_of_not_lt (fun h => q3 (nI_lt h (by omega))))]; rfl) ?_
            exact m104
  exact loop (nst b l0) 0 r0 o0 H _ (by omega) (fun k h => absurd h (Nat.not_lt_zero k)) hP hD hS ls (lv_sub hl [0, 1, 2, 3, 4, 5] rfl)
