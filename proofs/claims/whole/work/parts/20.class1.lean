set_option maxHeartbeats 4000000 in
set_option maxRecDepth 100000 in
theorem x_row (l : Launch) (dd : va_G) (cyI cyJ cyZ : ClassId) (qx ql qk qa : Nat) (qr qt qh n : Nat) (hi : Int64) (tI : Nat → Int32) (hv : Nat → Int64) (hI sI : Nat → Int32) (hR : RowsOk n hI sI hi hv) (t0 z : Int32) (hz : z = 0 ∨ z = 1) (sz : Nat) : Met l yX4_row wsX4_row ({ frames := 2, cells := 0, slots := 0, locals := 50 } : Room) (va_Pc [.ref qx, .int t0, .int z] (Wr dd [(cyI, .int), (cyJ, .long), (cyZ, .boolean)] [(qx, .inr (4, [.ref qr, .ref ql, .ref qk, .ref qa])), (qr, .inr (2, [.int (nI n), .long hi, .ref qt, .ref qh])), (qt, .inl (cyI, 48, .inl tI)), (qh, .inl (cyJ, 55, .inr (.inl hv)))] sz)) (va_Qi (S := Int64 × (Nat → Int64) × St) (fun (r : Int32) (u : Int64 × (Nat → Int64) × St) => r = rowR n t0 ∧ u.2.2 = rowS n tI hI sI t0 z ∧ RowsOk u.2.2.1 u.2.2.2.2.1 u.2.2.2.2.2 u.1 u.2.1) (WQ dd [(qx, .inr (4, [.ref qr, .ref ql, .ref qk, .ref qa])), (qr, .inr (2, [.int (nI n), .long hi, .ref qt, .ref qh])), (qt, .inl (cyI, 48, .inl tI)), (qh, .inl (cyJ, 55, .inr (.inl hv)))] sz (fun u => [(qx, .inr (4, [.ref qr, .ref ql, .ref qk, .ref qa])), (qr, .inr (2, [.int (nI u.2.2.1), .long u.1, .ref qt, .ref qh])), (qt, .inl (cyI, 48, .inl u.2.2.2.1)), (qh, .inl (cyJ, 55, .inr (.inl u.2.1)))])) (va_A [(qx, .inr (4, [.ref qr, .ref ql, .ref qk, .ref qa])), (qr, .inr (2, [.int (nI n), .long hi, .ref qt, .ref qh])), (qt, .inl (cyI, 48, .inl tI)), (qh, .inl (cyJ, 55, .inr (.inl hv)))] sz)) 0 0 (va_A [(qx, .inr (4, [.ref qr, .ref ql, .ref qk, .ref qa])), (qr, .inr (2, [.int (nI n), .long hi, .ref qt, .ref qh])), (qt, .inl (cyI, 48, .inl tI)), (qh, .inl (cyJ, 55, .inr (.inl hv)))] sz) := by
  refine mkW (Qc := fun A => (va_Qi (S := Int64 × (Nat → Int64) × St) (fun (r : Int32) (u : Int64 × (Nat → Int64) × St) => r = rowR n t0 ∧ u.2.2 = rowS n tI hI sI t0 z ∧ RowsOk u.2.2.1 u.2.2.2.2.1 u.2.2.2.2.2 u.1 u.2.1) (WQ dd [(qx, .inr (4, [.ref qr, .ref ql, .ref qk, .ref qa])), (qr, .inr (2, [.int (nI n), .long hi, .ref qt, .ref qh])), (qt, .inl (cyI, 48, .inl tI)), (qh, .inl (cyJ, 55, .inr (.inl hv)))] sz (fun u => [(qx, .inr (4, [.ref qr, .ref ql, .ref qk, .ref qa])), (qr, .inr (2, [.int (nI u.2.2.1), .long u.1, .ref qt, .ref qh])), (qt, .inl (cyI, 48, .inl u.2.2.2.1)), (qh, .inl (cyJ, 55, .inr (.inl u.2.1)))])) A)) (cc := cX4_row) (maxL := 3) (by decide) rfl (Nat.le_of_ble_eq_true rfl) (lv0 := [(0, .ref qx), (1, .int t0), (2, .int z)]) rfl ?_
  intro p e s m below meth c ls H A hx hb hr hml hown hlocks hts hmn hN hP hK hD hS hA hAe hl
  have hown : s.vm.findClass RX4 = some m.cls := hown
  have hiX2 : ∀ w ∈ wsX20, w ∈ wsX4_row := by decide +kernel
  have hiX4 : ∀ w ∈ wsX40, w ∈ wsX4_row := by decide +kernel
  have hn := hR.1
  refine lv_iload_n hx hb dX4_row_0 rfl (lv_at hl 1 rfl) ?_
  refine lv_iconst (v := 0) hx hb dX4_row_1 (by decide) ?_
  refine lv_sipush (v := 999) hx hb dX4_row_2 (by decide) ?_
  refine clSi (As := [.int t0, .int 0, .int 999]) (rest := []) ⟨hx, hb, hml, hown, hts⟩ (c_isWithin l dd cyI cyJ cyZ t0 0 999) gX4_row_X4_isWithin (n := 3) rfl ⟨rfl, rfl⟩ (by decide +kernel) ⟨Nat.le_of_ble_eq_true rfl, Nat.le_of_ble_eq_true rfl⟩ hN hK (hP.sub [] rfl) rfl hl.1 rfl (Nat.le_of_ble_eq_true rfl) dX4_row_5 ⟨Nat.le_of_ble_eq_true rfl, Nat.le_of_ble_eq_true rfl⟩ (fun ck1 hck1 => ?_)
  refine lv_if_ne (tgt := 14) hx hb dX4_row_8 (by decide) (fun qck1 => ?_) (fun qck1 => ?_)
  · have hck1 : 0 ≤ t0 ∧ t0 ≤ 999 := hck1.elim (fun h => h.2) (fun h => absurd h.1 qck1)
    refine lv_aload_n hx hb dX4_row_14 rfl (lv_at hl 0 rfl) ?_
    refine va_get (D := dd) (ci := 4) (C := RX4) (T := TX4) (N := 4) (v := .ref qr) hx hb hts hiX4 hown hK hP 0 rfl rfl 0 (by decide) (hts (.fieldLink RX4 10 "SliceDrift" "rows" "LSliceDrift$Rows;") (by decide +kernel)) (fun _ h9 => h9) rfl dX4_row_15 ?_
    refine va_getN (D := dd) (ci := 2) (C := RX2) (T := TX2) (N := 4) (v := .int (nI n)) hx hb hts hiX2 hown hK hP 1 rfl rfl 0 (by decide) (hN.f 8 rfl) (fun _ h9 => h9) rfl dX4_row_18 ?_
    refine lv_bipush (v := 48) hx hb dX4_row_21 (by decide) ?_
    refine lv_icmp_lt (tgt := 29) hx hb dX4_row_23 (by decide) (fun q => ?_) (fun q => ?_)
    · have h48 : n < 48 := (nI_ltI (by omega) (by decide)).mp q
      refine lv_aload_n hx hb dX4_row_29 rfl (lv_at hl 0 rfl) ?_
      refine va_get (D := dd) (ci := 4) (C := RX4) (T := TX4) (N := 4) (v := .ref qr) hx hb hts hiX4 hown hK hP 0 rfl rfl 0 (by decide) (hts (.fieldLink RX4 10 "SliceDrift" "rows" "LSliceDrift$Rows;") (by decide +kernel)) (fun _ h9 => h9) rfl dX4_row_30 ?_
      refine lv_iload_n hx hb dX4_row_33 rfl (lv_at hl 1 rfl) ?_
      refine lv_iload_n hx hb dX4_row_34 rfl (lv_at hl 2 rfl) ?_
      refine clVwi (As := [.int t0, .int z]) (rest := []) (b := qr) (vc := (RX2, TX2, 4)) (wr := [(qx, .inr (4, [.ref qr, .ref ql, .ref qk, .ref qa]))]) ⟨hx, hb, hml, hown, hts⟩ (fun sz => c_Rows_add l dd cyI cyJ cyZ qr qt qh n hi tI hv hI sI hR h48 t0 z hz sz) gX4_row_X2_add (ci := 2) rfl (q0 := 0) rfl (n := 2) rfl ⟨rfl, rfl⟩ (by decide +kernel) ⟨Nat.le_of_ble_eq_true rfl, Nat.le_of_ble_eq_true rfl⟩ hN hK hP hD hS hA [1, 2, 3] [0] rfl rfl (by decide) rfl (by decide) (by decide) rfl hl.1 rfl (Nat.le_of_ble_eq_true rfl) dX4_row_35 ⟨Nat.le_of_ble_eq_true rfl, Nat.le_of_ble_eq_true rfl⟩ (fun rr u1 H locs hu1 hP hD hS => ?_)
      have hP : va_P dd vwCl [(qx, .inr (4, [.ref qr, .ref ql, .ref qk, .ref qa])), (qr, .inr (2, [.int (nI (n + 1)), .long u1.1, .ref qt, .ref qh])), (qt, .inl (cyI, 48, .inl (upd tI n t0))), (qh, .inl (cyJ, 55, .inr (.inl u1.2)))] H := hP
      have hD : va_D A [(qx, .inr (4, [.ref qr, .ref ql, .ref qk, .ref qa])), (qr, .inr (2, [.int (nI (n + 1)), .long u1.1, .ref qt, .ref qh])), (qt, .inl (cyI, 48, .inl (upd tI n t0))), (qh, .inl (cyJ, 55, .inr (.inl u1.2)))] := hD
      exact ewI (u1.1, u1.2, (n + 1, upd tI n t0, upd hI n z, nrow sI n)) hx hb hr hlocks hAe hS dX4_row_38 (⟨by rw [hu1.1, rowR, if_pos hck1, if_pos h48], by rw [rowS, if_pos hck1, if_pos h48], hu1.2⟩) (hP.sub [0, 1, 2, 3] rfl) (hD.sub [0, 1, 2, 3] (by decide) rfl)
    · have h48 : ¬ n < 48 := fun h => q (nI_lt h (by decide))
      refine lv_ldc (v := (-1000004)) hx hb hown (hts (.constant RX4 46 (-1000004)) (by decide +kernel)) dX4_row_26 ?_
      exact ewI (hi, hv, (n, tI, hI, sI)) hx hb hr hlocks hAe hS dX4_row_28 (⟨by rw [rowR, if_pos hck1, if_neg h48], by rw [rowS, if_pos hck1, if_neg h48], hR⟩) (hP.sub [0, 1, 2, 3] rfl) (hD.sub [0, 1, 2, 3] (by decide) rfl)
  · have hck1 : ¬ (0 ≤ t0 ∧ t0 ≤ 999) := hck1.elim (fun h => absurd (h.1.symm.trans qck1) (by decide)) (fun h => h.2)
    refine lv_ldc (v := (-1000002)) hx hb hown (hts (.constant RX4 41 (-1000002)) (by decide +kernel)) dX4_row_11 ?_
    exact ewI (hi, hv, (n, tI, hI, sI)) hx hb hr hlocks hAe hS dX4_row_13 (⟨by rw [rowR, if_neg hck1], by rw [rowS, if_neg hck1], hR⟩) (hP.sub [0, 1, 2, 3] rfl) (hD.sub [0, 1, 2, 3] (by decide) rfl)

set_option maxHeartbeats 4000000 in
set_option maxRecDepth 100000 in
theorem x_put (l : Launch) (dd : va_G) (cyI cyJ cyZ : ClassId) (qx ql qk qa : Nat) (qr qt qh n : Nat) (hi : Int64) (tI : Nat → Int32) (hv : Nat → Int64) (hI sI : Nat → Int32) (hR : RowsOk n hI sI hi hv) (x y v : Int32) (sz : Nat) : Met l yX4_put wsX4_put ({ frames := 4, cells := 0, slots := 0, locals := 100 } : Room) (va_Pc [.ref qx, .int x, .int y, .int v] (Wr dd [(cyI, .int), (cyJ, .long), (cyZ, .boolean)] [(qx, .inr (4, [.ref qr, .ref ql, .ref qk, .ref qa])), (qr, .inr (2, [.int (nI n), .long hi, .ref qt, .ref qh])), (qt, .inl (cyI, 48, .inl tI)), (qh, .inl (cyJ, 55, .inr (.inl hv)))] sz)) (va_Qi (S := (Nat → Int64)) (fun (r : Int32) (u : Nat → Int64) => r = putR n sI x y v ∧ RowsOk n hI (putS n sI x y v) hi u) (WQ dd [(qx, .inr (4, [.ref qr, .ref ql, .ref qk, .ref qa])), (qr, .inr (2, [.int (nI n), .long hi, .ref qt, .ref qh])), (qt, .inl (cyI, 48, .inl tI)), (qh, .inl (cyJ, 55, .inr (.inl hv)))] sz (fun u => [(qx, .inr (4, [.ref qr, .ref ql, .ref qk, .ref qa])), (qr, .inr (2, [.int (nI n), .long hi, .ref qt, .ref qh])), (qt, .inl (cyI, 48, .inl tI)), (qh, .inl (cyJ, 55, .inr (.inl u)))])) (va_A [(qx, .inr (4, [.ref qr, .ref ql, .ref qk, .ref qa])), (qr, .inr (2, [.int (nI n), .long hi, .ref qt, .ref qh])), (qt, .inl (cyI, 48, .inl tI)), (qh, .inl (cyJ, 55, .inr (.inl hv)))] sz)) 0 0 (va_A [(qx, .inr (4, [.ref qr, .ref ql, .ref qk, .ref qa])), (qr, .inr (2, [.int (nI n), .long hi, .ref qt, .ref qh])), (qt, .inl (cyI, 48, .inl tI)), (qh, .inl (cyJ, 55, .inr (.inl hv)))] sz) := by
  refine mkW (Qc := fun A => (va_Qi (S := (Nat → Int64)) (fun (r : Int32) (u : Nat → Int64) => r = putR n sI x y v ∧ RowsOk n hI (putS n sI x y v) hi u) (WQ dd [(qx, .inr (4, [.ref qr, .ref ql, .ref qk, .ref qa])), (qr, .inr (2, [.int (nI n), .long hi, .ref qt, .ref qh])), (qt, .inl (cyI, 48, .inl tI)), (qh, .inl (cyJ, 55, .inr (.inl hv)))] sz (fun u => [(qx, .inr (4, [.ref qr, .ref ql, .ref qk, .ref qa])), (qr, .inr (2, [.int (nI n), .long hi, .ref qt, .ref qh])), (qt, .inl (cyI, 48, .inl tI)), (qh, .inl (cyJ, 55, .inr (.inl u)))])) A)) (cc := cX4_put) (maxL := 4) (by decide) rfl (Nat.le_of_ble_eq_true rfl) (lv0 := [(0, .ref qx), (1, .int x), (2, .int y), (3, .int v)]) rfl ?_
  intro p e s m below meth c ls H A hx hb hr hml hown hlocks hts hmn hN hP hK hD hS hA hAe hl
  have hown : s.vm.findClass RX4 = some m.cls := hown
  have hiX2 : ∀ w ∈ wsX20, w ∈ wsX4_put := by decide +kernel
  have hiX4 : ∀ w ∈ wsX40, w ∈ wsX4_put := by decide +kernel
  have hn := hR.1
  refine lv_aload_n hx hb dX4_put_0 rfl (lv_at hl 0 rfl) ?_
  refine va_get (D := dd) (ci := 4) (C := RX4) (T := TX4) (N := 4) (v := .ref qr) hx hb hts hiX4 hown hK hP 0 rfl rfl 0 (by decide) (hts (.fieldLink RX4 10 "SliceDrift" "rows" "LSliceDrift$Rows;") (by decide +kernel)) (fun _ h9 => h9) rfl dX4_put_1 ?_
  refine lv_iload_n hx hb dX4_put_4 rfl (lv_at hl 1 rfl) ?_
  refine clVi (As := [.int x]) (rest := []) (b := qr) (vc := (RX2, TX2, 4)) ⟨hx, hb, hml, hown, hts⟩ (c_Rows_has l dd cyI cyJ cyZ qr qt qh n hi tI hv x) gX4_put_X2_has (ci := 2) rfl (q0 := 0) rfl (n := 1) rfl ⟨rfl, rfl⟩ (by decide +kernel) ⟨Nat.le_of_ble_eq_true rfl, Nat.le_of_ble_eq_true rfl⟩ hN hK (hP.sub [1, 2, 3] rfl) rfl hl.1 rfl (Nat.le_of_ble_eq_true rfl) dX4_put_5 ⟨Nat.le_of_ble_eq_true rfl, Nat.le_of_ble_eq_true rfl⟩ (fun ck1 hck1 => ?_)
  refine lv_if_eq (tgt := 18) hx hb dX4_put_8 (by decide) (fun qck1 => ?_) (fun qck1 => ?_)
  · have hck1 : ¬ (inR n x) := hck1.elim (fun h => absurd (h.1.symm.trans qck1) (by decide)) (fun h => h.2)
    refine lv_ldc (v := (-1000001)) hx hb hown (hts (.constant RX4 58 (-1000001)) (by decide +kernel)) dX4_put_18 ?_
    exact ewI hv hx hb hr hlocks hAe hS dX4_put_20 (⟨by rw [putR, if_neg (fun q => hck1 (q.1))], by rw [putS, if_neg (fun q => hck1 (q.1))]; exact hR⟩) (hP.sub [0, 1, 2, 3] rfl) (hD.sub [0, 1, 2, 3] (by decide) rfl)
  · have hck1 : inR n x := hck1.elim (fun h => h.2) (fun h => absurd h.1 qck1)
    refine lv_iload_n hx hb dX4_put_11 rfl (lv_at hl 2 rfl) ?_
    refine clSi (As := [.int y]) (rest := []) ⟨hx, hb, hml, hown, hts⟩ (c_isColumn l dd cyI cyJ cyZ y) gX4_put_X4_isColumn (n := 1) rfl ⟨rfl, rfl⟩ (by decide +kernel) ⟨Nat.le_of_ble_eq_true rfl, Nat.le_of_ble_eq_true rfl⟩ hN hK (hP.sub [] rfl) rfl hl.1 rfl (Nat.le_of_ble_eq_true rfl) dX4_put_12 ⟨Nat.le_of_ble_eq_true rfl, Nat.le_of_ble_eq_true rfl⟩ (fun ck2 hck2 => ?_)
    refine lv_if_ne (tgt := 21) hx hb dX4_put_15 (by decide) (fun qck2 => ?_) (fun qck2 => ?_)
    · have hck2 : inC y := hck2.elim (fun h => h.2) (fun h => absurd h.1 qck2)
      refine lv_iload_n hx hb dX4_put_21 rfl (lv_at hl 3 rfl) ?_
      refine lv_iconst (v := (-1)) hx hb dX4_put_22 (by decide) ?_
      refine lv_bipush (v := 9) hx hb dX4_put_23 (by decide) ?_
      refine clSi (As := [.int v, .int ((-1)), .int 9]) (rest := []) ⟨hx, hb, hml, hown, hts⟩ (c_isWithin l dd cyI cyJ cyZ v (-1) 9) gX4_put_X4_isWithin (n := 3) rfl ⟨rfl, rfl⟩ (by decide +kernel) ⟨Nat.le_of_ble_eq_true rfl, Nat.le_of_ble_eq_true rfl⟩ hN hK (hP.sub [] rfl) rfl hl.1 rfl (Nat.le_of_ble_eq_true rfl) dX4_put_25 ⟨Nat.le_of_ble_eq_true rfl, Nat.le_of_ble_eq_true rfl⟩ (fun ck3 hck3 => ?_)
      refine lv_if_ne (tgt := 34) hx hb dX4_put_28 (by decide) (fun qck3 => ?_) (fun qck3 => ?_)
      · have hck3 : -1 ≤ v ∧ v ≤ 9 := hck3.elim (fun h => h.2) (fun h => absurd h.1 qck3)
        obtain ⟨i, hi9, ex⟩ := inR_of (by omega) hck1
        obtain ⟨co, hco, ey⟩ := inC_of hck2
        subst ex
        subst ey
        have e1 : cl (nI i) = i := cl_nI (by omega)
        have e2 : cl (nI co) = co := cl_nI (by omega)
        refine lv_aload_n hx hb dX4_put_34 rfl (lv_at hl 0 rfl) ?_
        refine va_get (D := dd) (ci := 4) (C := RX4) (T := TX4) (N := 4) (v := .ref qr) hx hb hts hiX4 hown hK hP 0 rfl rfl 0 (by decide) (hts (.fieldLink RX4 10 "SliceDrift" "rows" "LSliceDrift$Rows;") (by decide +kernel)) (fun _ h9 => h9) rfl dX4_put_35 ?_
        refine lv_iload_n hx hb dX4_put_38 rfl (lv_at hl 1 rfl) ?_
        refine lv_iload_n hx hb dX4_put_39 rfl (lv_at hl 2 rfl) ?_
        refine lv_iload_n hx hb dX4_put_40 rfl (lv_at hl 3 rfl) ?_
        refine lv_iconst (v := (-1)) hx hb dX4_put_41 (by decide) ?_
        refine lv_icmp_ne (tgt := 50) hx hb dX4_put_42 (by decide) (fun q => ?_) (fun q => ?_)
        · obtain ⟨k0, hk0, ev⟩ := (val_of hck3).resolve_left q
          refine lv_iload_n hx hb dX4_put_50 rfl (lv_at hl 3 rfl) ?_
          refine tpi (show (v : Int32) = nI k0 from ev) ?_
          refine clVwi (As := [.int (nI i), .int (nI co), .int (nI k0)]) (rest := []) (b := qr) (vc := (RX2, TX2, 4)) (wr := [(qx, .inr (4, [.ref qr, .ref ql, .ref qk, .ref qa]))]) ⟨hx, hb, hml, hown, hts⟩ (fun sz => c_change l dd cyI cyJ cyZ qr qt qh n hi tI hv hI sI hR i co k0 hi9 hco (by omega) sz) gX4_put_X2_change (ci := 2) rfl (q0 := 0) rfl (n := 3) rfl ⟨rfl, rfl⟩ (by decide +kernel) ⟨Nat.le_of_ble_eq_true rfl, Nat.le_of_ble_eq_true rfl⟩ hN hK hP hD hS hA [1, 2, 3] [0] rfl rfl (by decide) rfl (by decide) (by decide) rfl hl.1 rfl (Nat.le_of_ble_eq_true rfl) dX4_put_51 ⟨Nat.le_of_ble_eq_true rfl, Nat.le_of_ble_eq_true rfl⟩ (fun rr u1 H locs hu1 hP hD hS => ?_)
          have hP : va_P dd vwCl [(qx, .inr (4, [.ref qr, .ref ql, .ref qk, .ref qa])), (qr, .inr (2, [.int (nI n), .long hi, .ref qt, .ref qh])), (qt, .inl (cyI, 48, .inl tI)), (qh, .inl (cyJ, 55, .inr (.inl u1)))] H := hP
          have hD : va_D A [(qx, .inr (4, [.ref qr, .ref ql, .ref qk, .ref qa])), (qr, .inr (2, [.int (nI n), .long hi, .ref qt, .ref qh])), (qt, .inl (cyI, 48, .inl tI)), (qh, .inl (cyJ, 55, .inr (.inl u1)))] := hD
          exact ewI u1 hx hb hr hlocks hAe hS dX4_put_54 (⟨by rw [hu1.1, putR, if_pos (show inR n (nI i) ∧ inC (nI co) from ⟨hck1, hck2⟩), if_pos (show -1 ≤ v ∧ v ≤ 9 from hck3), e1, e2], by rw [putS, if_pos (show inR n (nI i) ∧ inC (nI co) from ⟨hck1, hck2⟩), if_pos (show -1 ≤ v ∧ v ≤ 9 from hck3), e1, e2, if_neg q, ev]; exact hu1.2⟩) (hP.sub [0, 1, 2, 3] rfl) (hD.sub [0, 1, 2, 3] (by decide) rfl)
        · refine lv_bipush (v := 10) hx hb dX4_put_45 (by decide) ?_
          refine lv_goto (tgt := 51) hx hb dX4_put_47 (by decide) ?_
          refine tpi (show (10 : Int32) = nI 10 from rfl) ?_
          refine clVwi (As := [.int (nI i), .int (nI co), .int (nI 10)]) (rest := []) (b := qr) (vc := (RX2, TX2, 4)) (wr := [(qx, .inr (4, [.ref qr, .ref ql, .ref qk, .ref qa]))]) ⟨hx, hb, hml, hown, hts⟩ (fun sz => c_change l dd cyI cyJ cyZ qr qt qh n hi tI hv hI sI hR i co 10 hi9 hco (by decide) sz) gX4_put_X2_change (ci := 2) rfl (q0 := 0) rfl (n := 3) rfl ⟨rfl, rfl⟩ (by decide +kernel) ⟨Nat.le_of_ble_eq_true rfl, Nat.le_of_ble_eq_true rfl⟩ hN hK hP hD hS hA [1, 2, 3] [0] rfl rfl (by decide) rfl (by decide) (by decide) rfl hl.1 rfl (Nat.le_of_ble_eq_true rfl) dX4_put_51 ⟨Nat.le_of_ble_eq_true rfl, Nat.le_of_ble_eq_true rfl⟩ (fun rr u1 H locs hu1 hP hD hS => ?_)
          have hP : va_P dd vwCl [(qx, .inr (4, [.ref qr, .ref ql, .ref qk, .ref qa])), (qr, .inr (2, [.int (nI n), .long hi, .ref qt, .ref qh])), (qt, .inl (cyI, 48, .inl tI)), (qh, .inl (cyJ, 55, .inr (.inl u1)))] H := hP
          have hD : va_D A [(qx, .inr (4, [.ref qr, .ref ql, .ref qk, .ref qa])), (qr, .inr (2, [.int (nI n), .long hi, .ref qt, .ref qh])), (qt, .inl (cyI, 48, .inl tI)), (qh, .inl (cyJ, 55, .inr (.inl u1)))] := hD
          exact ewI u1 hx hb hr hlocks hAe hS dX4_put_54 (⟨by rw [hu1.1, putR, if_pos (show inR n (nI i) ∧ inC (nI co) from ⟨hck1, hck2⟩), if_pos (show -1 ≤ v ∧ v ≤ 9 from hck3), e1, e2], by rw [putS, if_pos (show inR n (nI i) ∧ inC (nI co) from ⟨hck1, hck2⟩), if_pos (show -1 ≤ v ∧ v ≤ 9 from hck3), e1, e2, if_pos q]; exact hu1.2⟩) (hP.sub [0, 1, 2, 3] rfl) (hD.sub [0, 1, 2, 3] (by decide) rfl)
      · have hck3 : ¬ (-1 ≤ v ∧ v ≤ 9) := hck3.elim (fun h => absurd (h.1.symm.trans qck3) (by decide)) (fun h => h.2)
        refine lv_ldc (v := (-1000002)) hx hb hown (hts (.constant RX4 41 (-1000002)) (by decide +kernel)) dX4_put_31 ?_
        exact ewI hv hx hb hr hlocks hAe hS dX4_put_33 (⟨by rw [putR, if_pos ⟨hck1, hck2⟩, if_neg hck3], by rw [putS, if_pos ⟨hck1, hck2⟩, if_neg hck3]; exact hR⟩) (hP.sub [0, 1, 2, 3] rfl) (hD.sub [0, 1, 2, 3] (by decide) rfl)
    · have hck2 : ¬ (inC y) := hck2.elim (fun h => absurd (h.1.symm.trans qck2) (by decide)) (fun h => h.2)
      refine lv_ldc (v := (-1000001)) hx hb hown (hts (.constant RX4 58 (-1000001)) (by decide +kernel)) dX4_put_18 ?_
      exact ewI hv hx hb hr hlocks hAe hS dX4_put_20 (⟨by rw [putR, if_neg (fun q => hck2 (q.2))], by rw [putS, if_neg (fun q => hck2 (q.2))]; exact hR⟩) (hP.sub [0, 1, 2, 3] rfl) (hD.sub [0, 1, 2, 3] (by decide) rfl)

theorem w_lt5 {w : Int32} (h : w ≤ 6) (h5 : ¬ w = 5) (h6 : ¬ w = 6) : w < 5 := by
  rw [Int32.lt_iff_toInt_lt]
  rw [Int32.le_iff_toInt_le] at h
  have e5 : (5 : Int32).toInt = 5 := by decide
  have e6 : (6 : Int32).toInt = 6 := by decide
  have h5 : ¬ w.toInt = 5 := fun q => h5 (Int32.toInt_inj.mp (by rw [q, e5]))
  have h6 : ¬ w.toInt = 6 := fun q => h6 (Int32.toInt_inj.mp (by rw [q, e6]))
  omega

set_option maxHeartbeats 4000000 in
set_option maxRecDepth 100000 in
theorem x_of (l : Launch) (dd : va_G) (cyI cyJ cyZ : ClassId) (qx ql qk qa : Nat) (qr qt qh n : Nat) (hi : Int64) (tI : Nat → Int32) (hv : Nat → Int64) (hI sI : Nat → Int32) (hR : RowsOk n hI sI hi hv) (x w : Int32) : Met l yX4_of wsX4_of ({ frames := 3, cells := 0, slots := 0, locals := 66 } : Room) (va_Pc [.ref qx, .int x, .int w] (Rd dd [(cyI, .int), (cyJ, .long), (cyZ, .boolean)] [(qx, .inr (4, [.ref qr, .ref ql, .ref qk, .ref qa])), (qr, .inr (2, [.int (nI n), .long hi, .ref qt, .ref qh])), (qt, .inl (cyI, 48, .inl tI)), (qh, .inl (cyJ, 55, .inr (.inl hv)))])) (vp_Si (fun r => r = ofR n tI hI sI x w)) 0 0 (fun _ => False) := by
  refine mkR (cc := cX4_of) (maxL := 3) (by decide) rfl (Nat.le_of_ble_eq_true rfl) (lv0 := [(0, .ref qx), (1, .int x), (2, .int w)]) rfl ?_
  intro p e s m below meth c ls hx hb hr hml hown hlocks hts hN hP hK hl
  have hown : s.vm.findClass RX4 = some m.cls := hown
  have hiX2 : ∀ w ∈ wsX20, w ∈ wsX4_of := by decide +kernel
  have hiX4 : ∀ w ∈ wsX40, w ∈ wsX4_of := by decide +kernel
  have hn := hR.1
  have hi9 := hR.2.1
  refine lv_aload_n hx hb dX4_of_0 rfl (lv_at hl 0 rfl) ?_
  refine va_get (D := dd) (ci := 4) (C := RX4) (T := TX4) (N := 4) (v := .ref qr) hx hb hts hiX4 hown hK hP 0 rfl rfl 0 (by decide) (hts (.fieldLink RX4 10 "SliceDrift" "rows" "LSliceDrift$Rows;") (by decide +kernel)) (fun _ h9 => h9) rfl dX4_of_1 ?_
  refine lv_iload_n hx hb dX4_of_4 rfl (lv_at hl 1 rfl) ?_
  refine clVi (As := [.int x]) (rest := []) (b := qr) (vc := (RX2, TX2, 4)) ⟨hx, hb, hml, hown, hts⟩ (c_Rows_has l dd cyI cyJ cyZ qr qt qh n hi tI hv x) gX4_of_X2_has (ci := 2) rfl (q0 := 0) rfl (n := 1) rfl ⟨rfl, rfl⟩ (by decide +kernel) ⟨Nat.le_of_ble_eq_true rfl, Nat.le_of_ble_eq_true rfl⟩ hN hK (hP.sub [1, 2, 3] rfl) rfl hl.1 rfl (Nat.le_of_ble_eq_true rfl) dX4_of_5 ⟨Nat.le_of_ble_eq_true rfl, Nat.le_of_ble_eq_true rfl⟩ (fun ck1 hck1 => ?_)
  refine lv_if_eq (tgt := 21) hx hb dX4_of_8 (by decide) (fun qck1 => ?_) (fun qck1 => ?_)
  · have hck1 : ¬ (inR n x) := hck1.elim (fun h => absurd (h.1.symm.trans qck1) (by decide)) (fun h => h.2)
    refine lv_ldc (v := (-1000001)) hx hb hown (hts (.constant RX4 58 (-1000001)) (by decide +kernel)) dX4_of_21 ?_
    exact edI hx hb hr hlocks dX4_of_23 (by rw [ofR, if_neg (fun q => hck1 (q.1))])
  · have hck1 : inR n x := hck1.elim (fun h => h.2) (fun h => absurd h.1 qck1)
    refine lv_iload_n hx hb dX4_of_11 rfl (lv_at hl 2 rfl) ?_
    refine lv_iconst (v := 0) hx hb dX4_of_12 (by decide) ?_
    refine lv_bipush (v := 6) hx hb dX4_of_13 (by decide) ?_
    refine clSi (As := [.int w, .int 0, .int 6]) (rest := []) ⟨hx, hb, hml, hown, hts⟩ (c_isWithin l dd cyI cyJ cyZ w 0 6) gX4_of_X4_isWithin (n := 3) rfl ⟨rfl, rfl⟩ (by decide +kernel) ⟨Nat.le_of_ble_eq_true rfl, Nat.le_of_ble_eq_true rfl⟩ hN hK (hP.sub [] rfl) rfl hl.1 rfl (Nat.le_of_ble_eq_true rfl) dX4_of_15 ⟨Nat.le_of_ble_eq_true rfl, Nat.le_of_ble_eq_true rfl⟩ (fun ck2 hck2 => ?_)
    refine lv_if_ne (tgt := 24) hx hb dX4_of_18 (by decide) (fun qck2 => ?_) (fun qck2 => ?_)
    · have hck2 : 0 ≤ w ∧ w ≤ 6 := hck2.elim (fun h => h.2) (fun h => absurd h.1 qck2)
      obtain ⟨i, hin, ex⟩ := inR_of (by omega) hck1
      subst ex
      have e1 : cl (nI i) = i := cl_nI (by omega)
      refine lv_iload_n hx hb dX4_of_24 rfl (lv_at hl 2 rfl) ?_
      refine lv_iconst (v := 5) hx hb dX4_of_25 (by decide) ?_
      refine lv_icmp_ne (tgt := 39) hx hb dX4_of_26 (by decide) (fun q5 => ?_) (fun q5 => ?_)
      · refine lv_iload_n hx hb dX4_of_39 rfl (lv_at hl 2 rfl) ?_
        refine lv_bipush (v := 6) hx hb dX4_of_40 (by decide) ?_
        refine lv_icmp_ne (tgt := 70) hx hb dX4_of_42 (by decide) (fun q6 => ?_) (fun q6 => ?_)
        · have hw5 := w_lt5 hck2.2 q5 q6
          obtain ⟨co, hco, ew⟩ := inC_of ⟨hck2.1, lt5_le4 hw5⟩
          subst ew
          have e2 : cl (nI co) = co := cl_nI (by omega)
          refine lv_aload_n hx hb dX4_of_70 rfl (lv_at hl 0 rfl) ?_
          refine va_get (D := dd) (ci := 4) (C := RX4) (T := TX4) (N := 4) (v := .ref qr) hx hb hts hiX4 hown hK hP 0 rfl rfl 0 (by decide) (hts (.fieldLink RX4 10 "SliceDrift" "rows" "LSliceDrift$Rows;") (by decide +kernel)) (fun _ h9 => h9) rfl dX4_of_71 ?_
          refine lv_iload_n hx hb dX4_of_74 rfl (lv_at hl 1 rfl) ?_
          refine lv_iload_n hx hb dX4_of_75 rfl (lv_at hl 2 rfl) ?_
          refine clVi (As := [.int (nI i), .int (nI co)]) (rest := []) (b := qr) (vc := (RX2, TX2, 4)) ⟨hx, hb, hml, hown, hts⟩ (c_sortAt l dd cyI cyJ cyZ qr qt qh n hi tI hv hI sI hR i co hin hco) gX4_of_X2_sortAt (ci := 2) rfl (q0 := 0) rfl (n := 2) rfl ⟨rfl, rfl⟩ (by decide +kernel) ⟨Nat.le_of_ble_eq_true rfl, Nat.le_of_ble_eq_true rfl⟩ hN hK (hP.sub [1, 2, 3] rfl) rfl hl.1 rfl (Nat.le_of_ble_eq_true rfl) dX4_of_76 ⟨Nat.le_of_ble_eq_true rfl, Nat.le_of_ble_eq_true rfl⟩ (fun rr hrr => ?_)
          exact edI hx hb hr hlocks dX4_of_79 (by rw [ofR, if_pos (show inR n (nI i) ∧ (0 ≤ nI co ∧ nI co ≤ 6) from ⟨hck1, hck2⟩), if_pos hw5, e1, e2]; exact hrr)
        · refine lv_aload_n hx hb dX4_of_45 rfl (lv_at hl 0 rfl) ?_
          refine va_get (D := dd) (ci := 4) (C := RX4) (T := TX4) (N := 4) (v := .ref qr) hx hb hts hiX4 hown hK hP 0 rfl rfl 0 (by decide) (hts (.fieldLink RX4 10 "SliceDrift" "rows" "LSliceDrift$Rows;") (by decide +kernel)) (fun _ h9 => h9) rfl dX4_of_46 ?_
          refine va_getN (D := dd) (ci := 2) (C := RX2) (T := TX2) (N := 4) (v := .long hi) hx hb hts hiX2 hown hK hP 1 rfl rfl 1 (by decide) (hN.f 10 rfl) (fun _ h9 => h9) rfl dX4_of_49 ?_
          refine lv_lconst (v := 1) hx hb dX4_of_52 (by decide) ?_
          refine lv_iload_n hx hb dX4_of_53 rfl (lv_at hl 1 rfl) ?_
          refine lv_lshl hx hb dX4_of_54 rfl ?_
          refine tpl (show (1 <<< ((nI i).toInt64 &&& 63) : Int64) = lN (2 ^ i) from shl1 (by omega)) ?_
          refine lv_land hx hb dX4_of_55 ?_
          refine tpl (show (hi &&& (lN (2 ^ i)) : Int64) = lN (if hit hI i = true then 2 ^ i else 0) from by rw [hi9]; exact mk_tst hin hn) ?_
          refine lv_lconst (v := 0) hx hb dX4_of_56 (by decide) ?_
          refine W.lcmp hx hb dX4_of_57 ?_
          refine lv_if_eq (tgt := 65) hx hb dX4_of_58 (by decide) (fun q7 => ?_) (fun q7 => ?_)
          · have hz : hI i = 0 := Classical.not_not.mp (of_decide_eq_false ((tst0 (by omega)).mp q7))
            refine lv_iconst (v := 0) hx hb dX4_of_65 (by decide) ?_
            refine clSi (As := [.int 0]) (rest := []) ⟨hx, hb, hml, hown, hts⟩ (c_asNumber l dd cyI cyJ cyZ 0) gX4_of_X4_asNumber (n := 1) rfl ⟨rfl, rfl⟩ (by decide +kernel) ⟨Nat.le_of_ble_eq_true rfl, Nat.le_of_ble_eq_true rfl⟩ hN hK (hP.sub [] rfl) rfl hl.1 rfl (Nat.le_of_ble_eq_true rfl) dX4_of_66 ⟨Nat.le_of_ble_eq_true rfl, Nat.le_of_ble_eq_true rfl⟩ (fun rr hrr => ?_)
            exact edI hx hb hr hlocks dX4_of_69 (by rw [ofR, if_pos (show inR n (nI i) ∧ (0 ≤ w ∧ w ≤ 6) from ⟨hck1, hck2⟩), if_neg (by rw [q6]; decide), if_neg q5, e1, if_pos hz]; exact hrr)
          · have hz : ¬ hI i = 0 := fun h => q7 ((tst0 (by omega)).mpr (by unfold hit; simp [h]))
            refine lv_iconst (v := 1) hx hb dX4_of_61 (by decide) ?_
            refine lv_goto (tgt := 66) hx hb dX4_of_62 (by decide) ?_
            refine clSi (As := [.int 1]) (rest := []) ⟨hx, hb, hml, hown, hts⟩ (c_asNumber l dd cyI cyJ cyZ 1) gX4_of_X4_asNumber (n := 1) rfl ⟨rfl, rfl⟩ (by decide +kernel) ⟨Nat.le_of_ble_eq_true rfl, Nat.le_of_ble_eq_true rfl⟩ hN hK (hP.sub [] rfl) rfl hl.1 rfl (Nat.le_of_ble_eq_true rfl) dX4_of_66 ⟨Nat.le_of_ble_eq_true rfl, Nat.le_of_ble_eq_true rfl⟩ (fun rr hrr => ?_)
            exact edI hx hb hr hlocks dX4_of_69 (by rw [ofR, if_pos (show inR n (nI i) ∧ (0 ≤ w ∧ w ≤ 6) from ⟨hck1, hck2⟩), if_neg (by rw [q6]; decide), if_neg q5, e1, if_neg hz]; exact hrr)
      · refine lv_aload_n hx hb dX4_of_29 rfl (lv_at hl 0 rfl) ?_
        refine va_get (D := dd) (ci := 4) (C := RX4) (T := TX4) (N := 4) (v := .ref qr) hx hb hts hiX4 hown hK hP 0 rfl rfl 0 (by decide) (hts (.fieldLink RX4 10 "SliceDrift" "rows" "LSliceDrift$Rows;") (by decide +kernel)) (fun _ h9 => h9) rfl dX4_of_30 ?_
        refine va_getN (D := dd) (ci := 2) (C := RX2) (T := TX2) (N := 4) (v := .ref qt) hx hb hts hiX2 hown hK hP 1 rfl rfl 2 (by decide) (hN.f 9 rfl) (fun _ h9 => h9) rfl dX4_of_33 ?_
        refine lv_iload_n hx hb dX4_of_36 rfl (lv_at hl 1 rfl) ?_
        refine va_iald hx hb hK hP 2 0 rfl rfl (i := nI i) (vp_in_nI (show i < 48 from (by omega)) (by decide)) dX4_of_37 ?_
        rw [nI_clamp (show i < 2 ^ 31 from Nat.lt_trans (show i < 48 from (by omega)) (by decide))]
        exact edI hx hb hr hlocks dX4_of_38 (by rw [ofR, if_pos (show inR n (nI i) ∧ (0 ≤ w ∧ w ≤ 6) from ⟨hck1, hck2⟩), if_neg (by rw [q5]; decide), if_pos q5, e1])
    · have hck2 : ¬ (0 ≤ w ∧ w ≤ 6) := hck2.elim (fun h => absurd (h.1.symm.trans qck2) (by decide)) (fun h => h.2)
      refine lv_ldc (v := (-1000001)) hx hb hown (hts (.constant RX4 58 (-1000001)) (by decide +kernel)) dX4_of_21 ?_
      exact edI hx hb hr hlocks dX4_of_23 (by rw [ofR, if_neg (fun q => hck2 (q.2))])

set_option maxHeartbeats 4000000 in
set_option maxRecDepth 100000 in
theorem x_window (l : Launch) (dd : va_G) (cyI cyJ cyZ : ClassId) (qx ql qk qa : Nat) (qr qt qh n : Nat) (hi : Int64) (tI : Nat → Int32) (hv : Nat → Int64) (hI sI : Nat → Int32) (hR : RowsOk n hI sI hi hv) (f t : Int32) : Met l yX4_window wsX4_window ({ frames := 1, cells := 0, slots := 0, locals := 40 } : Room) (va_Pc [.ref qx, .int f, .int t] (Rd dd [(cyI, .int), (cyJ, .long), (cyZ, .boolean)] [(qx, .inr (4, [.ref qr, .ref ql, .ref qk, .ref qa])), (qr, .inr (2, [.int (nI n), .long hi, .ref qt, .ref qh])), (qt, .inl (cyI, 48, .inl tI)), (qh, .inl (cyJ, 55, .inr (.inl hv)))])) (vp_Si (fun r => r = windowR n tI f t)) 0 0 (fun _ => False) := by
  refine mkR (cc := cX4_window) (maxL := 3) (by decide) rfl (Nat.le_of_ble_eq_true rfl) (lv0 := [(0, .ref qx), (1, .int f), (2, .int t)]) rfl ?_
  intro p e s m below meth c ls hx hb hr hml hown hlocks hts hN hP hK hl
  have hown : s.vm.findClass RX4 = some m.cls := hown
  have hiX2 : ∀ w ∈ wsX20, w ∈ wsX4_window := by decide +kernel
  have hiX4 : ∀ w ∈ wsX40, w ∈ wsX4_window := by decide +kernel
  have hn := hR.1
  refine lv_iload_n hx hb dX4_window_0 rfl (lv_at hl 1 rfl) ?_
  refine lv_iload_n hx hb dX4_window_1 rfl (lv_at hl 1 rfl) ?_
  refine lv_iload_n hx hb dX4_window_2 rfl (lv_at hl 2 rfl) ?_
  refine clSi (As := [.int f, .int f, .int t]) (rest := []) ⟨hx, hb, hml, hown, hts⟩ (c_areTimes l dd cyI cyJ cyZ f f t) gX4_window_X4_areTimes (n := 3) rfl ⟨rfl, rfl⟩ (by decide +kernel) ⟨Nat.le_of_ble_eq_true rfl, Nat.le_of_ble_eq_true rfl⟩ hN hK (hP.sub [] rfl) rfl hl.1 rfl (Nat.le_of_ble_eq_true rfl) dX4_window_3 ⟨Nat.le_of_ble_eq_true rfl, Nat.le_of_ble_eq_true rfl⟩ (fun ck1 hck1 => ?_)
  refine lv_if_ne (tgt := 12) hx hb dX4_window_6 (by decide) (fun qck1 => ?_) (fun qck1 => ?_)
  · have hck1 : 0 ≤ f ∧ f ≤ f ∧ f ≤ t ∧ t ≤ 1000 := hck1.elim (fun h => h.2) (fun h => absurd h.1 qck1)
    refine lv_aload_n hx hb dX4_window_12 rfl (lv_at hl 0 rfl) ?_
    refine va_get (D := dd) (ci := 4) (C := RX4) (T := TX4) (N := 4) (v := .ref qr) hx hb hts hiX4 hown hK hP 0 rfl rfl 0 (by decide) (hts (.fieldLink RX4 10 "SliceDrift" "rows" "LSliceDrift$Rows;") (by decide +kernel)) (fun _ h9 => h9) rfl dX4_window_13 ?_
    refine lv_iload_n hx hb dX4_window_16 rfl (lv_at hl 1 rfl) ?_
    refine lv_iload_n hx hb dX4_window_17 rfl (lv_at hl 2 rfl) ?_
    refine clVl (As := [.int f, .int t]) (rest := []) (b := qr) (vc := (RX2, TX2, 4)) ⟨hx, hb, hml, hown, hts⟩ (c_between l dd cyI cyJ cyZ qr qt qh n hi tI hv f t hn) gX4_window_X2_between (ci := 2) rfl (q0 := 0) rfl (n := 2) rfl ⟨rfl, rfl⟩ (by decide +kernel) ⟨Nat.le_of_ble_eq_true rfl, Nat.le_of_ble_eq_true rfl⟩ hN hK (hP.sub [1, 2, 3] rfl) rfl hl.1 rfl (Nat.le_of_ble_eq_true rfl) dX4_window_18 ⟨Nat.le_of_ble_eq_true rfl, Nat.le_of_ble_eq_true rfl⟩ (fun r1 h1 => ?_)
    subst h1
    refine clSi (As := [.long (lN (mk (win tI f t) n))]) (rest := []) ⟨hx, hb, hml, hown, hts⟩ (c_bitCount l dd cyI cyJ cyZ (mk (win tI f t) n) (mk64 _ hn)) gX4_window_J13_bitCount_95d88 (n := 1) rfl ⟨rfl, rfl⟩ (by decide +kernel) ⟨Nat.le_of_ble_eq_true rfl, Nat.le_of_ble_eq_true rfl⟩ hN hK (hP.sub [] rfl) rfl hl.1 rfl (Nat.le_of_ble_eq_true rfl) dX4_window_21 ⟨Nat.le_of_ble_eq_true rfl, Nat.le_of_ble_eq_true rfl⟩ (fun r2 h2 => ?_)
    exact edI hx hb hr hlocks dX4_window_24 (by rw [h2, cnt_mk _ (Nat.le_trans hn (by decide)), windowR, if_pos ⟨hck1.1, hck1.2.2.1, hck1.2.2.2⟩])
  · have hck1 : ¬ (0 ≤ f ∧ f ≤ f ∧ f ≤ t ∧ t ≤ 1000) := hck1.elim (fun h => absurd (h.1.symm.trans qck1) (by decide)) (fun h => h.2)
    refine lv_ldc (v := (-1000002)) hx hb hown (hts (.constant RX4 41 (-1000002)) (by decide +kernel)) dX4_window_9 ?_
    exact edI hx hb hr hlocks dX4_window_11 (by rw [windowR, if_neg (fun q => hck1 ⟨q.1, by rw [Int32.le_iff_toInt_le]; omega, q.2.1, q.2.2⟩)])
