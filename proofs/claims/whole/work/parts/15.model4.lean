def nrw (sI : Nat → Int32) (n c : Nat) : Nat → Int32 := fun j => if 5 * n ≤ j ∧ j < 5 * n + c then nI 10 else sI j
theorem nrw_0 (sI : Nat → Int32) (n : Nat) : nrw sI n 0 = sI := by
  funext j
  unfold nrw
  rw [if_neg (by omega)]
theorem nrw_s (sI : Nat → Int32) (n c : Nat) : upd (nrw sI n c) (5 * n + c) 10 = nrw sI n (c + 1) := by
  funext j
  unfold nrw
  by_cases h : j = 5 * n + c
  · subst h
    rw [pk_us, if_pos (by omega)]
    rfl
  · rw [pk_un h]
    by_cases q : 5 * n ≤ j ∧ j < 5 * n + c
    · rw [if_pos q, if_pos (by omega)]
    · rw [if_neg q, if_neg (by omega)]

set_option maxHeartbeats 4000000 in
set_option maxRecDepth 100000 in
theorem r_row (l : Launch) (dd : va_G) (cyI cyJ cyZ : ClassId) (qm : Nat) (a : Nat → Nat) (th li fm sm : Int32) (ab be : Int64) (st al : Int32) (n : Nat) (hn : n ≤ 48) (tI hI sI : Nat → Int32) (t0 z : Int32) (hz : z = 0 ∨ z = 1) (sz : Nat) : Met l yX5_row wsX5_row ({ frames := 1, cells := 0, slots := 0, locals := 22 } : Room) (va_Pc [.ref qm, .int t0, .int z] (Wr dd [(cyI, .int), (cyJ, .long), (cyZ, .boolean)] [(qm, .inr (5, mo a th (nI n) li fm sm ab be st al)), (a 2, .inl (cyI, 48, .inl tI)), (a 3, .inl (cyZ, 48, .inl hI)), (a 4, .inl (cyI, 240, .inl sI))] sz)) (va_Qi (S := St) (fun (r : Int32) (u : St) => r = rowR n t0 ∧ u = rowS n tI hI sI t0 z) (WQ dd [(qm, .inr (5, mo a th (nI n) li fm sm ab be st al)), (a 2, .inl (cyI, 48, .inl tI)), (a 3, .inl (cyZ, 48, .inl hI)), (a 4, .inl (cyI, 240, .inl sI))] sz (fun u => [(qm, .inr (5, mo a 0 (nI u.1) li fm sm ab be st al)), (a 2, .inl (cyI, 48, .inl u.2.1)), (a 3, .inl (cyZ, 48, .inl u.2.2.1)), (a 4, .inl (cyI, 240, .inl u.2.2.2))])) (va_A [(qm, .inr (5, mo a th (nI n) li fm sm ab be st al)), (a 2, .inl (cyI, 48, .inl tI)), (a 3, .inl (cyZ, 48, .inl hI)), (a 4, .inl (cyI, 240, .inl sI))] sz)) 0 0 (va_A [(qm, .inr (5, mo a th (nI n) li fm sm ab be st al)), (a 2, .inl (cyI, 48, .inl tI)), (a 3, .inl (cyZ, 48, .inl hI)), (a 4, .inl (cyI, 240, .inl sI))] sz) := by
  refine mkW (Qc := fun A => (va_Qi (S := St) (fun (r : Int32) (u : St) => r = rowR n t0 ∧ u = rowS n tI hI sI t0 z) (WQ dd [(qm, .inr (5, mo a th (nI n) li fm sm ab be st al)), (a 2, .inl (cyI, 48, .inl tI)), (a 3, .inl (cyZ, 48, .inl hI)), (a 4, .inl (cyI, 240, .inl sI))] sz (fun u => [(qm, .inr (5, mo a 0 (nI u.1) li fm sm ab be st al)), (a 2, .inl (cyI, 48, .inl u.2.1)), (a 3, .inl (cyZ, 48, .inl u.2.2.1)), (a 4, .inl (cyI, 240, .inl u.2.2.2))])) A)) (cc := cX5_row) (maxL := 4) (by decide) rfl (Nat.le_of_ble_eq_true rfl) (lv0 := [(0, .ref qm), (1, .int t0), (2, .int z)]) rfl ?_
  intro p e s m below meth c ls H A hx hb hr hml hown hlocks hts hmn hN hP hK hD hS hA hAe hl
  have hown : s.vm.findClass RX5 = some m.cls := hown
  have hiX5 : ∀ w ∈ wsX50, w ∈ wsX5_row := by decide +kernel
  refine lv_aload_n hx hb dX5_row_0 rfl (lv_at hl 0 rfl) ?_
  refine lv_iconst (v := 0) hx hb dX5_row_1 (by decide) ?_
  refine va_put (D := dd) (ci := 5) (v := .int 0) (ty := .int) (C := RX5) (T := TX5) (N := 30) hx hb hts hiX5 tyX5 tyX5_ok nmX5 hown hK hP hD hS 0 rfl rfl 0 (by decide) (hts (.fieldLink RX5 75 "SliceDriftModel" "thrown" "I") (by decide +kernel)) (fun _ h9 => h9) rfl (by decide +kernel) rfl rfl (Nat.le_of_ble_eq_true rfl) dX5_row_2 (fun H locs hP hD hS => ?_)
  have hP : va_P dd vwCl [(qm, .inr (5, mo a 0 (nI n) li fm sm ab be st al)), (a 2, .inl (cyI, 48, .inl tI)), (a 3, .inl (cyZ, 48, .inl hI)), (a 4, .inl (cyI, 240, .inl sI))] H := hP
  have hD : va_D A [(qm, .inr (5, mo a 0 (nI n) li fm sm ab be st al)), (a 2, .inl (cyI, 48, .inl tI)), (a 3, .inl (cyZ, 48, .inl hI)), (a 4, .inl (cyI, 240, .inl sI))] := hD
  refine lv_iload_n hx hb dX5_row_5 rfl (lv_at hl 1 rfl) ?_
  refine lv_iconst (v := 0) hx hb dX5_row_6 (by decide) ?_
  refine lv_sipush (v := 999) hx hb dX5_row_7 (by decide) ?_
  refine clSi (As := [.int t0, .int 0, .int 999]) (rest := []) ⟨hx, hb, hml, hown, hts⟩ (r_in l dd cyI cyJ cyZ t0 0 999) gX5_row_X5_in (n := 3) rfl ⟨rfl, rfl⟩ (by decide +kernel) ⟨Nat.le_of_ble_eq_true rfl, Nat.le_of_ble_eq_true rfl⟩ hN hK (hP.sub [] rfl) rfl hl.1 rfl (Nat.le_of_ble_eq_true rfl) dX5_row_10 ⟨Nat.le_of_ble_eq_true rfl, Nat.le_of_ble_eq_true rfl⟩ (fun ck1 hck1 => ?_)
  refine lv_if_ne (tgt := 19) hx hb dX5_row_13 (by decide) (fun qck1 => ?_) (fun qck1 => ?_)
  · have hck1 : 0 ≤ t0 ∧ t0 ≤ 999 := hck1.elim (fun h => h.2) (fun h => absurd h.1 qck1)
    refine lv_aload_n hx hb dX5_row_19 rfl (lv_at hl 0 rfl) ?_
    refine va_get (D := dd) (ci := 5) (C := RX5) (T := TX5) (N := 30) (v := .int (nI n)) hx hb hts hiX5 hown hK hP 0 rfl rfl 1 (by decide) (hts (.fieldLink RX5 84 "SliceDriftModel" "rows" "I") (by decide +kernel)) (fun _ h9 => h9) rfl dX5_row_20 ?_
    refine lv_bipush (v := 48) hx hb dX5_row_23 (by decide) ?_
    refine lv_icmp_ne (tgt := 31) hx hb dX5_row_25 (by decide) (fun q => ?_) (fun q => ?_)
    · have h48 : n < 48 := Nat.lt_of_le_of_ne hn (fun h => q (by rw [h]; rfl))
      refine lv_aload_n hx hb dX5_row_31 rfl (lv_at hl 0 rfl) ?_
      refine va_get (D := dd) (ci := 5) (C := RX5) (T := TX5) (N := 30) (v := .ref (a 2)) hx hb hts hiX5 hown hK hP 0 rfl rfl 2 (by decide) (hts (.fieldLink RX5 7 "SliceDriftModel" "time" "[I") (by decide +kernel)) (fun _ h9 => h9) rfl dX5_row_32 ?_
      refine lv_aload_n hx hb dX5_row_35 rfl (lv_at hl 0 rfl) ?_
      refine va_get (D := dd) (ci := 5) (C := RX5) (T := TX5) (N := 30) (v := .int (nI n)) hx hb hts hiX5 hown hK hP 0 rfl rfl 1 (by decide) (hts (.fieldLink RX5 84 "SliceDriftModel" "rows" "I") (by decide +kernel)) (fun _ h9 => h9) rfl dX5_row_36 ?_
      refine lv_iload_n hx hb dX5_row_39 rfl (lv_at hl 1 rfl) ?_
      refine va_iast hx hb hK hP hD hS 1 0 rfl rfl (i := nI n) (vp_in_nI (show n < 48 from h48) (by decide)) dX5_row_40 (fun H locs hP hD hS => ?_)
      rw [nI_clamp (show n < 2 ^ 31 from Nat.lt_trans (show n < 48 from h48) (by decide))] at hP hD
      have hP : va_P dd vwCl [(qm, .inr (5, mo a 0 (nI n) li fm sm ab be st al)), (a 2, .inl (cyI, 48, .inl (upd tI n t0))), (a 3, .inl (cyZ, 48, .inl hI)), (a 4, .inl (cyI, 240, .inl sI))] H := hP
      have hD : va_D A [(qm, .inr (5, mo a 0 (nI n) li fm sm ab be st al)), (a 2, .inl (cyI, 48, .inl (upd tI n t0))), (a 3, .inl (cyZ, 48, .inl hI)), (a 4, .inl (cyI, 240, .inl sI))] := hD
      refine lv_aload_n hx hb dX5_row_41 rfl (lv_at hl 0 rfl) ?_
      refine va_get (D := dd) (ci := 5) (C := RX5) (T := TX5) (N := 30) (v := .ref (a 3)) hx hb hts hiX5 hown hK hP 0 rfl rfl 3 (by decide) (hts (.fieldLink RX5 13 "SliceDriftModel" "isHit" "[Z") (by decide +kernel)) (fun _ h9 => h9) rfl dX5_row_42 ?_
      refine lv_aload_n hx hb dX5_row_45 rfl (lv_at hl 0 rfl) ?_
      refine va_get (D := dd) (ci := 5) (C := RX5) (T := TX5) (N := 30) (v := .int (nI n)) hx hb hts hiX5 hown hK hP 0 rfl rfl 1 (by decide) (hts (.fieldLink RX5 84 "SliceDriftModel" "rows" "I") (by decide +kernel)) (fun _ h9 => h9) rfl dX5_row_46 ?_
      refine lv_iload_n hx hb dX5_row_49 rfl (lv_at hl 2 rfl) ?_
      refine va_zast hx hb hK hP hD hS 2 2 rfl rfl (i := nI n) (vp_in_nI (show n < 48 from h48) (by decide)) dX5_row_50 (fun H locs hP hD hS => ?_)
      rw [nI_clamp (show n < 2 ^ 31 from Nat.lt_trans (show n < 48 from h48) (by decide)), z01 hz] at hP hD
      have hP : va_P dd vwCl [(qm, .inr (5, mo a 0 (nI n) li fm sm ab be st al)), (a 2, .inl (cyI, 48, .inl (upd tI n t0))), (a 3, .inl (cyZ, 48, .inl (upd hI n z))), (a 4, .inl (cyI, 240, .inl sI))] H := hP
      have hD : va_D A [(qm, .inr (5, mo a 0 (nI n) li fm sm ab be st al)), (a 2, .inl (cyI, 48, .inl (upd tI n t0))), (a 3, .inl (cyZ, 48, .inl (upd hI n z))), (a 4, .inl (cyI, 240, .inl sI))] := hD
      refine lv_iconst (v := 0) hx hb dX5_row_51 (by decide) ?_
      refine lv_istore_n (lv' := [(3, .int 0), (0, .ref qm), (1, .int t0), (2, .int z)]) hx hb dX5_row_52 rfl hl (by decide) rfl (fun ls hl => ?_)
      have loop : ∀ (k : Nat) (c9 : Nat) (H : Heap) (locs : List Loc), c9 + k = 5 → va_P dd vwCl [(qm, .inr (5, mo a 0 (nI n) li fm sm ab be st al)), (a 2, .inl (cyI, 48, .inl (upd tI n t0))), (a 3, .inl (cyZ, 48, .inl (upd hI n z))), (a 4, .inl (cyI, 240, .inl (nrw sI n c9)))] H → va_D A [(qm, .inr (5, mo a 0 (nI n) li fm sm ab be st al)), (a 2, .inl (cyI, 48, .inl (upd tI n t0))), (a 3, .inl (cyZ, 48, .inl (upd hI n z))), (a 4, .inl (cyI, 240, .inl (nrw sI n c9)))] → va_S A s.heap H locs → ∀ ls : Array Slot, lv_has ls 4 [(3, .int (nI c9)), (0, .ref qm)] → W p l e ({ frames := 1, cells := 0, slots := 0, locals := 22 } : Room) s m ([.ref qm, .int t0, .int z] : List Value).toArray below meth c H locs 0 0 (MQ below (va_Qi (S := St) (fun (r : Int32) (u : St) => r = rowR n t0 ∧ u = rowS n tI hI sI t0 z) (WQ dd [(qm, .inr (5, mo a th (nI n) li fm sm ab be st al)), (a 2, .inl (cyI, 48, .inl tI)), (a 3, .inl (cyZ, 48, .inl hI)), (a 4, .inl (cyI, 240, .inl sI))] sz (fun u => [(qm, .inr (5, mo a 0 (nI u.1) li fm sm ab be st al)), (a 2, .inl (cyI, 48, .inl u.2.1)), (a 3, .inl (cyZ, 48, .inl u.2.2.1)), (a 4, .inl (cyI, 240, .inl u.2.2.2))])) A) ([.ref qm, .int t0, .int z] : List Value).toArray s 0 0 A) (F0 m 53 ls []) := by
        intro k
        induction k with
        | zero =>
          intro c9 H locs hc9 hP hD hS ls hl
          refine lv_iload_n hx hb dX5_row_53 rfl (lv_at hl 0 rfl) ?_
          refine lv_iconst (v := 5) hx hb dX5_row_54 (by decide) ?_
          refine lv_icmp_ge (tgt := 79) hx hb dX5_row_55 (by decide) (fun q5 => ?_) (fun q5 => ?_)
          · have hc5 : c9 = 5 := by omega
            subst hc5
            refine lv_aload_n hx hb dX5_row_79 rfl (lv_at hl 1 rfl) ?_
            refine lv_dup hx hb dX5_row_80 rfl ?_
            refine va_get (D := dd) (ci := 5) (C := RX5) (T := TX5) (N := 30) (v := .int (nI n)) hx hb hts hiX5 hown hK hP 0 rfl rfl 1 (by decide) (hts (.fieldLink RX5 84 "SliceDriftModel" "rows" "I") (by decide +kernel)) (fun _ h9 => h9) rfl dX5_row_81 ?_
            refine lv_iconst (v := 1) hx hb dX5_row_84 (by decide) ?_
            refine lv_iadd hx hb dX5_row_85 ?_
            refine tpi (show ((nI n) + 1 : Int32) = nI (n + 1) from nI_1 n) ?_
            refine va_put (D := dd) (ci := 5) (v := .int (nI (n + 1))) (ty := .int) (C := RX5) (T := TX5) (N := 30) hx hb hts hiX5 tyX5 tyX5_ok nmX5 hown hK hP hD hS 0 rfl rfl 1 (by decide) (hts (.fieldLink RX5 84 "SliceDriftModel" "rows" "I") (by decide +kernel)) (fun _ h9 => h9) rfl (by decide +kernel) rfl rfl (Nat.le_of_ble_eq_true rfl) dX5_row_86 (fun H locs hP hD hS => ?_)
            have hP : va_P dd vwCl [(qm, .inr (5, mo a 0 (nI (n + 1)) li fm sm ab be st al)), (a 2, .inl (cyI, 48, .inl (upd tI n t0))), (a 3, .inl (cyZ, 48, .inl (upd hI n z))), (a 4, .inl (cyI, 240, .inl (nrw sI n 5)))] H := hP
            have hD : va_D A [(qm, .inr (5, mo a 0 (nI (n + 1)) li fm sm ab be st al)), (a 2, .inl (cyI, 48, .inl (upd tI n t0))), (a 3, .inl (cyZ, 48, .inl (upd hI n z))), (a 4, .inl (cyI, 240, .inl (nrw sI n 5)))] := hD
            refine lv_aload_n hx hb dX5_row_89 rfl (lv_at hl 1 rfl) ?_
            refine va_get (D := dd) (ci := 5) (C := RX5) (T := TX5) (N := 30) (v := .int (nI (n + 1))) hx hb hts hiX5 hown hK hP 0 rfl rfl 1 (by decide) (hts (.fieldLink RX5 84 "SliceDriftModel" "rows" "I") (by decide +kernel)) (fun _ h9 => h9) rfl dX5_row_90 ?_
            refine lv_iconst (v := 1) hx hb dX5_row_93 (by decide) ?_
            refine lv_isub hx hb dX5_row_94 ?_
            refine tpi (show ((nI (n + 1)) - 1 : Int32) = nI n from nI_pred n) ?_
            exact ewI (n + 1, upd tI n t0, upd hI n z, nrow sI n) hx hb hr hlocks hAe hS dX5_row_95 (⟨by rw [rowR, if_pos hck1, if_pos h48], by rw [rowS, if_pos hck1, if_pos h48]⟩) (hP.sub [0, 1, 2, 3] rfl) (hD.sub [0, 1, 2, 3] (by decide) rfl)
          · exact absurd (nI_le (show 5 ≤ c9 by omega) (by omega)) q5
        | succ k ih =>
          intro c9 H locs hc9 hP hD hS ls hl
          refine lv_iload_n hx hb dX5_row_53 rfl (lv_at hl 0 rfl) ?_
          refine lv_iconst (v := 5) hx hb dX5_row_54 (by decide) ?_
          refine lv_icmp_ge (tgt := 79) hx hb dX5_row_55 (by decide) (fun q5 => ?_) (fun q5 => ?_)
          · exact absurd q5 (nI_ge (show c9 < 5 by omega) (by decide))
          · refine lv_aload_n hx hb dX5_row_58 rfl (lv_at hl 1 rfl) ?_
            refine va_get (D := dd) (ci := 5) (C := RX5) (T := TX5) (N := 30) (v := .ref (a 4)) hx hb hts hiX5 hown hK hP 0 rfl rfl 4 (by decide) (hts (.fieldLink RX5 17 "SliceDriftModel" "sort" "[I") (by decide +kernel)) (fun _ h9 => h9) rfl dX5_row_59 ?_
            refine lv_iconst (v := 5) hx hb dX5_row_62 (by decide) ?_
            refine lv_aload_n hx hb dX5_row_63 rfl (lv_at hl 1 rfl) ?_
            refine va_get (D := dd) (ci := 5) (C := RX5) (T := TX5) (N := 30) (v := .int (nI n)) hx hb hts hiX5 hown hK hP 0 rfl rfl 1 (by decide) (hts (.fieldLink RX5 84 "SliceDriftModel" "rows" "I") (by decide +kernel)) (fun _ h9 => h9) rfl dX5_row_64 ?_
            refine lv_imul hx hb dX5_row_67 ?_
            refine lv_iload_n hx hb dX5_row_68 rfl (lv_at hl 0 rfl) ?_
            refine lv_iadd hx hb dX5_row_69 ?_
            refine tpi (show ((5 * (nI n)) + (nI c9) : Int32) = nI (5 * n + c9) from by rw [show (5 : Int32) = nI 5 from rfl, pk_mul, nI_add]) ?_
            refine lv_bipush (v := 10) hx hb dX5_row_70 (by decide) ?_
            refine va_iast hx hb hK hP hD hS 3 0 rfl rfl (i := nI (5 * n + c9)) (vp_in_nI (show (5 * n + c9) < 240 from (by omega)) (by decide)) dX5_row_72 (fun H locs hP hD hS => ?_)
            rw [nI_clamp (show (5 * n + c9) < 2 ^ 31 from Nat.lt_trans (show (5 * n + c9) < 240 from (by omega)) (by decide))] at hP hD
            have hP : va_P dd vwCl [(qm, .inr (5, mo a 0 (nI n) li fm sm ab be st al)), (a 2, .inl (cyI, 48, .inl (upd tI n t0))), (a 3, .inl (cyZ, 48, .inl (upd hI n z))), (a 4, .inl (cyI, 240, .inl (upd (nrw sI n c9) (5 * n + c9) 10)))] H := hP
            have hD : va_D A [(qm, .inr (5, mo a 0 (nI n) li fm sm ab be st al)), (a 2, .inl (cyI, 48, .inl (upd tI n t0))), (a 3, .inl (cyZ, 48, .inl (upd hI n z))), (a 4, .inl (cyI, 240, .inl (upd (nrw sI n c9) (5 * n + c9) 10)))] := hD
            rw [nrw_s] at hP hD
            refine lv_iinc (v := nI (c9 + 1)) (lv' := [(3, .int (nI (c9 + 1))), (0, .ref qm)]) hx hb dX5_row_73 hl (k := 0) rfl (nI_1 c9) (by decide) rfl (fun ls hl => ?_)
            refine lv_goto (tgt := 53) hx hb dX5_row_76 (by decide) ?_
            exact ih (c9 + 1) H locs (by omega) hP hD hS ls (lv_sub hl [0, 1] rfl)
      exact loop 5 0 H _ rfl (by rw [nrw_0]; exact hP) (by rw [nrw_0]; exact hD) hS ls (lv_sub hl [0, 1] rfl)
    · have h48 : ¬ n < 48 := by have := (nI_eq (b := 48) (by omega) (by decide)).mp q; omega
      refine lv_ldc (v := (-1000004)) hx hb hown (hts (.constant RX5 87 (-1000004)) (by decide +kernel)) dX5_row_28 ?_
      exact ewI (n, tI, hI, sI) hx hb hr hlocks hAe hS dX5_row_30 (⟨by rw [rowR, if_pos hck1, if_neg h48], by rw [rowS, if_pos hck1, if_neg h48]⟩) (hP.sub [0, 1, 2, 3] rfl) (hD.sub [0, 1, 2, 3] (by decide) rfl)
  · have hck1 : ¬ (0 ≤ t0 ∧ t0 ≤ 999) := hck1.elim (fun h => absurd (h.1.symm.trans qck1) (by decide)) (fun h => h.2)
    refine lv_ldc (v := (-1000002)) hx hb hown (hts (.constant RX5 83 (-1000002)) (by decide +kernel)) dX5_row_16 ?_
    exact ewI (n, tI, hI, sI) hx hb hr hlocks hAe hS dX5_row_18 (⟨by rw [rowR, if_neg hck1], by rw [rowS, if_neg hck1]⟩) (hP.sub [0, 1, 2, 3] rfl) (hD.sub [0, 1, 2, 3] (by decide) rfl)

set_option maxHeartbeats 4000000 in
set_option maxRecDepth 100000 in
theorem r_put (l : Launch) (dd : va_G) (cyI cyJ cyZ : ClassId) (qm : Nat) (a : Nat → Nat) (th li fm sm : Int32) (ab be : Int64) (st al : Int32) (n : Nat) (hn : n ≤ 48) (sI : Nat → Int32) (x y v : Int32) (sz : Nat) : Met l yX5_put wsX5_put ({ frames := 1, cells := 0, slots := 0, locals := 22 } : Room) (va_Pc [.ref qm, .int x, .int y, .int v] (Wr dd [(cyI, .int), (cyJ, .long), (cyZ, .boolean)] [(qm, .inr (5, mo a th (nI n) li fm sm ab be st al)), (a 4, .inl (cyI, 240, .inl sI))] sz)) (va_Qi (S := (Nat → Int32)) (fun (r : Int32) (u : Nat → Int32) => r = putR n sI x y v ∧ u = putS n sI x y v) (WQ dd [(qm, .inr (5, mo a th (nI n) li fm sm ab be st al)), (a 4, .inl (cyI, 240, .inl sI))] sz (fun u => [(qm, .inr (5, mo a 0 (nI n) li fm sm ab be st al)), (a 4, .inl (cyI, 240, .inl u))])) (va_A [(qm, .inr (5, mo a th (nI n) li fm sm ab be st al)), (a 4, .inl (cyI, 240, .inl sI))] sz)) 0 0 (va_A [(qm, .inr (5, mo a th (nI n) li fm sm ab be st al)), (a 4, .inl (cyI, 240, .inl sI))] sz) := by
  refine mkW (Qc := fun A => (va_Qi (S := (Nat → Int32)) (fun (r : Int32) (u : Nat → Int32) => r = putR n sI x y v ∧ u = putS n sI x y v) (WQ dd [(qm, .inr (5, mo a th (nI n) li fm sm ab be st al)), (a 4, .inl (cyI, 240, .inl sI))] sz (fun u => [(qm, .inr (5, mo a 0 (nI n) li fm sm ab be st al)), (a 4, .inl (cyI, 240, .inl u))])) A)) (cc := cX5_put) (maxL := 5) (by decide) rfl (Nat.le_of_ble_eq_true rfl) (lv0 := [(0, .ref qm), (1, .int x), (2, .int y), (3, .int v)]) rfl ?_
  intro p e s m below meth c ls H A hx hb hr hml hown hlocks hts hmn hN hP hK hD hS hA hAe hl
  have hown : s.vm.findClass RX5 = some m.cls := hown
  have hiX5 : ∀ w ∈ wsX50, w ∈ wsX5_put := by decide +kernel
  refine lv_aload_n hx hb dX5_put_0 rfl (lv_at hl 0 rfl) ?_
  refine lv_iconst (v := 0) hx hb dX5_put_1 (by decide) ?_
  refine va_put (D := dd) (ci := 5) (v := .int 0) (ty := .int) (C := RX5) (T := TX5) (N := 30) hx hb hts hiX5 tyX5 tyX5_ok nmX5 hown hK hP hD hS 0 rfl rfl 0 (by decide) (hts (.fieldLink RX5 75 "SliceDriftModel" "thrown" "I") (by decide +kernel)) (fun _ h9 => h9) rfl (by decide +kernel) rfl rfl (Nat.le_of_ble_eq_true rfl) dX5_put_2 (fun H locs hP hD hS => ?_)
  have hP : va_P dd vwCl [(qm, .inr (5, mo a 0 (nI n) li fm sm ab be st al)), (a 4, .inl (cyI, 240, .inl sI))] H := hP
  have hD : va_D A [(qm, .inr (5, mo a 0 (nI n) li fm sm ab be st al)), (a 4, .inl (cyI, 240, .inl sI))] := hD
  refine lv_iload_n hx hb dX5_put_5 rfl (lv_at hl 1 rfl) ?_
  refine lv_iconst (v := 0) hx hb dX5_put_6 (by decide) ?_
  refine lv_aload_n hx hb dX5_put_7 rfl (lv_at hl 0 rfl) ?_
  refine va_get (D := dd) (ci := 5) (C := RX5) (T := TX5) (N := 30) (v := .int (nI n)) hx hb hts hiX5 hown hK hP 0 rfl rfl 1 (by decide) (hts (.fieldLink RX5 84 "SliceDriftModel" "rows" "I") (by decide +kernel)) (fun _ h9 => h9) rfl dX5_put_8 ?_
  refine lv_iconst (v := 1) hx hb dX5_put_11 (by decide) ?_
  refine lv_isub hx hb dX5_put_12 ?_
  refine clSi (As := [.int x, .int 0, .int ((nI n) - 1)]) (rest := []) ⟨hx, hb, hml, hown, hts⟩ (r_in l dd cyI cyJ cyZ x 0 (nI n - 1)) gX5_put_X5_in (n := 3) rfl ⟨rfl, rfl⟩ (by decide +kernel) ⟨Nat.le_of_ble_eq_true rfl, Nat.le_of_ble_eq_true rfl⟩ hN hK (hP.sub [] rfl) rfl hl.1 rfl (Nat.le_of_ble_eq_true rfl) dX5_put_13 ⟨Nat.le_of_ble_eq_true rfl, Nat.le_of_ble_eq_true rfl⟩ (fun ck1 hck1 => ?_)
  refine lv_if_eq (tgt := 28) hx hb dX5_put_16 (by decide) (fun qck1 => ?_) (fun qck1 => ?_)
  · have hck1 : ¬ (inR n x) := hck1.elim (fun h => absurd (h.1.symm.trans qck1) (by decide)) (fun h => h.2)
    refine lv_ldc (v := (-1000001)) hx hb hown (hts (.constant RX5 88 (-1000001)) (by decide +kernel)) dX5_put_28 ?_
    exact ewI sI hx hb hr hlocks hAe hS dX5_put_30 (⟨by rw [putR, if_neg (fun q => hck1 (q.1))], by rw [putS, if_neg (fun q => hck1 (q.1))]⟩) (hP.sub [0, 1] rfl) (hD.sub [0, 1] (by decide) rfl)
  · have hck1 : inR n x := hck1.elim (fun h => h.2) (fun h => absurd h.1 qck1)
    refine lv_iload_n hx hb dX5_put_19 rfl (lv_at hl 2 rfl) ?_
    refine lv_iconst (v := 0) hx hb dX5_put_20 (by decide) ?_
    refine lv_iconst (v := 4) hx hb dX5_put_21 (by decide) ?_
    refine clSi (As := [.int y, .int 0, .int 4]) (rest := []) ⟨hx, hb, hml, hown, hts⟩ (r_in l dd cyI cyJ cyZ y 0 4) gX5_put_X5_in (n := 3) rfl ⟨rfl, rfl⟩ (by decide +kernel) ⟨Nat.le_of_ble_eq_true rfl, Nat.le_of_ble_eq_true rfl⟩ hN hK (hP.sub [] rfl) rfl hl.1 rfl (Nat.le_of_ble_eq_true rfl) dX5_put_22 ⟨Nat.le_of_ble_eq_true rfl, Nat.le_of_ble_eq_true rfl⟩ (fun ck2 hck2 => ?_)
    refine lv_if_ne (tgt := 31) hx hb dX5_put_25 (by decide) (fun qck2 => ?_) (fun qck2 => ?_)
    · have hck2 : inC y := hck2.elim (fun h => h.2) (fun h => absurd h.1 qck2)
      refine lv_iload_n hx hb dX5_put_31 rfl (lv_at hl 3 rfl) ?_
      refine lv_iconst (v := (-1)) hx hb dX5_put_32 (by decide) ?_
      refine lv_bipush (v := 9) hx hb dX5_put_33 (by decide) ?_
      refine clSi (As := [.int v, .int ((-1)), .int 9]) (rest := []) ⟨hx, hb, hml, hown, hts⟩ (r_in l dd cyI cyJ cyZ v (-1) 9) gX5_put_X5_in (n := 3) rfl ⟨rfl, rfl⟩ (by decide +kernel) ⟨Nat.le_of_ble_eq_true rfl, Nat.le_of_ble_eq_true rfl⟩ hN hK (hP.sub [] rfl) rfl hl.1 rfl (Nat.le_of_ble_eq_true rfl) dX5_put_35 ⟨Nat.le_of_ble_eq_true rfl, Nat.le_of_ble_eq_true rfl⟩ (fun ck3 hck3 => ?_)
      refine lv_if_ne (tgt := 44) hx hb dX5_put_38 (by decide) (fun qck3 => ?_) (fun qck3 => ?_)
      · have hck3 : -1 ≤ v ∧ v ≤ 9 := hck3.elim (fun h => h.2) (fun h => absurd h.1 qck3)
        obtain ⟨i, hi, ex⟩ := inR_of (by omega) hck1
        obtain ⟨co, hco, ey⟩ := inC_of hck2
        subst ex
        subst ey
        have e1 : cl (nI i) = i := cl_nI (by omega)
        have e2 : cl (nI co) = co := cl_nI (by omega)
        refine lv_aload_n hx hb dX5_put_44 rfl (lv_at hl 0 rfl) ?_
        refine va_get (D := dd) (ci := 5) (C := RX5) (T := TX5) (N := 30) (v := .ref (a 4)) hx hb hts hiX5 hown hK hP 0 rfl rfl 4 (by decide) (hts (.fieldLink RX5 17 "SliceDriftModel" "sort" "[I") (by decide +kernel)) (fun _ h9 => h9) rfl dX5_put_45 ?_
        refine lv_iconst (v := 5) hx hb dX5_put_48 (by decide) ?_
        refine lv_iload_n hx hb dX5_put_49 rfl (lv_at hl 1 rfl) ?_
        refine lv_imul hx hb dX5_put_50 ?_
        refine lv_iload_n hx hb dX5_put_51 rfl (lv_at hl 2 rfl) ?_
        refine lv_iadd hx hb dX5_put_52 ?_
        refine tpi (show ((5 * (nI i)) + (nI co) : Int32) = nI (5 * i + co) from by rw [show (5 : Int32) = nI 5 from rfl, pk_mul, nI_add]) ?_
        refine va_iald hx hb hK hP 1 0 rfl rfl (i := nI (5 * i + co)) (vp_in_nI (show (5 * i + co) < 240 from (by omega)) (by decide)) dX5_put_53 ?_
        rw [nI_clamp (show (5 * i + co) < 2 ^ 31 from Nat.lt_trans (show (5 * i + co) < 240 from (by omega)) (by decide))]
        refine lv_istore (lv' := [(4, .int (sI (5 * i + co))), (0, .ref qm), (1, .int (nI i)), (2, .int (nI co)), (3, .int v)]) hx hb dX5_put_54 hl (by decide) rfl (fun ls hl => ?_)
        refine lv_aload_n hx hb dX5_put_56 rfl (lv_at hl 1 rfl) ?_
        refine va_get (D := dd) (ci := 5) (C := RX5) (T := TX5) (N := 30) (v := .ref (a 4)) hx hb hts hiX5 hown hK hP 0 rfl rfl 4 (by decide) (hts (.fieldLink RX5 17 "SliceDriftModel" "sort" "[I") (by decide +kernel)) (fun _ h9 => h9) rfl dX5_put_57 ?_
        refine lv_iconst (v := 5) hx hb dX5_put_60 (by decide) ?_
        refine lv_iload_n hx hb dX5_put_61 rfl (lv_at hl 2 rfl) ?_
        refine lv_imul hx hb dX5_put_62 ?_
        refine lv_iload_n hx hb dX5_put_63 rfl (lv_at hl 3 rfl) ?_
        refine lv_iadd hx hb dX5_put_64 ?_
        refine tpi (show ((5 * (nI i)) + (nI co) : Int32) = nI (5 * i + co) from by rw [show (5 : Int32) = nI 5 from rfl, pk_mul, nI_add]) ?_
        refine lv_iload_n hx hb dX5_put_65 rfl (lv_at hl 4 rfl) ?_
        refine lv_iconst (v := (-1)) hx hb dX5_put_66 (by decide) ?_
        refine lv_icmp_ne (tgt := 75) hx hb dX5_put_67 (by decide) (fun q9 => ?_) (fun q9 => ?_)
        · refine lv_iload_n hx hb dX5_put_75 rfl (lv_at hl 4 rfl) ?_
          refine tpi (show (v : Int32) = if v = -1 then 10 else v from by rw [if_neg q9]) ?_
          refine va_iast hx hb hK hP hD hS 1 0 rfl rfl (i := nI (5 * i + co)) (vp_in_nI (show (5 * i + co) < 240 from (by omega)) (by decide)) dX5_put_76 (fun H locs hP hD hS => ?_)
          rw [nI_clamp (show (5 * i + co) < 2 ^ 31 from Nat.lt_trans (show (5 * i + co) < 240 from (by omega)) (by decide))] at hP hD
          have hP : va_P dd vwCl [(qm, .inr (5, mo a 0 (nI n) li fm sm ab be st al)), (a 4, .inl (cyI, 240, .inl (upd sI (5 * i + co) (if v = -1 then 10 else v))))] H := hP
          have hD : va_D A [(qm, .inr (5, mo a 0 (nI n) li fm sm ab be st al)), (a 4, .inl (cyI, 240, .inl (upd sI (5 * i + co) (if v = -1 then 10 else v))))] := hD
          refine lv_iload hx hb dX5_put_77 (lv_at hl 0 rfl) ?_
          exact ewI (upd sI (5 * i + co) (if v = -1 then 10 else v)) hx hb hr hlocks hAe hS dX5_put_79 (⟨by rw [putR, if_pos (show inR n (nI i) ∧ inC (nI co) from ⟨hck1, hck2⟩), if_pos (show -1 ≤ v ∧ v ≤ 9 from hck3), e1, e2], by rw [putS, if_pos (show inR n (nI i) ∧ inC (nI co) from ⟨hck1, hck2⟩), if_pos (show -1 ≤ v ∧ v ≤ 9 from hck3), e1, e2]⟩) (hP.sub [0, 1] rfl) (hD.sub [0, 1] (by decide) rfl)
        · refine lv_bipush (v := 10) hx hb dX5_put_70 (by decide) ?_
          refine lv_goto (tgt := 76) hx hb dX5_put_72 (by decide) ?_
          refine tpi (show (10 : Int32) = if v = -1 then 10 else v from by rw [if_pos q9]) ?_
          refine va_iast hx hb hK hP hD hS 1 0 rfl rfl (i := nI (5 * i + co)) (vp_in_nI (show (5 * i + co) < 240 from (by omega)) (by decide)) dX5_put_76 (fun H locs hP hD hS => ?_)
          rw [nI_clamp (show (5 * i + co) < 2 ^ 31 from Nat.lt_trans (show (5 * i + co) < 240 from (by omega)) (by decide))] at hP hD
          have hP : va_P dd vwCl [(qm, .inr (5, mo a 0 (nI n) li fm sm ab be st al)), (a 4, .inl (cyI, 240, .inl (upd sI (5 * i + co) (if v = -1 then 10 else v))))] H := hP
          have hD : va_D A [(qm, .inr (5, mo a 0 (nI n) li fm sm ab be st al)), (a 4, .inl (cyI, 240, .inl (upd sI (5 * i + co) (if v = -1 then 10 else v))))] := hD
          refine lv_iload hx hb dX5_put_77 (lv_at hl 0 rfl) ?_
          exact ewI (upd sI (5 * i + co) (if v = -1 then 10 else v)) hx hb hr hlocks hAe hS dX5_put_79 (⟨by rw [putR, if_pos (show inR n (nI i) ∧ inC (nI co) from ⟨hck1, hck2⟩), if_pos (show -1 ≤ v ∧ v ≤ 9 from hck3), e1, e2], by rw [putS, if_pos (show inR n (nI i) ∧ inC (nI co) from ⟨hck1, hck2⟩), if_pos (show -1 ≤ v ∧ v ≤ 9 from hck3), e1, e2]⟩) (hP.sub [0, 1] rfl) (hD.sub [0, 1] (by decide) rfl)
      · have hck3 : ¬ (-1 ≤ v ∧ v ≤ 9) := hck3.elim (fun h => absurd (h.1.symm.trans qck3) (by decide)) (fun h => h.2)
        refine lv_ldc (v := (-1000002)) hx hb hown (hts (.constant RX5 83 (-1000002)) (by decide +kernel)) dX5_put_41 ?_
        exact ewI sI hx hb hr hlocks hAe hS dX5_put_43 (⟨by rw [putR, if_pos ⟨hck1, hck2⟩, if_neg hck3], by rw [putS, if_pos ⟨hck1, hck2⟩, if_neg hck3]⟩) (hP.sub [0, 1] rfl) (hD.sub [0, 1] (by decide) rfl)
    · have hck2 : ¬ (inC y) := hck2.elim (fun h => absurd (h.1.symm.trans qck2) (by decide)) (fun h => h.2)
      refine lv_ldc (v := (-1000001)) hx hb hown (hts (.constant RX5 88 (-1000001)) (by decide +kernel)) dX5_put_28 ?_
      exact ewI sI hx hb hr hlocks hAe hS dX5_put_30 (⟨by rw [putR, if_neg (fun q => hck2 (q.2))], by rw [putS, if_neg (fun q => hck2 (q.2))]⟩) (hP.sub [0, 1] rfl) (hD.sub [0, 1] (by decide) rfl)

theorem lt5_le4 {w : Int32} (h : w < 5) : w ≤ 4 := by
  rw [Int32.lt_iff_toInt_lt] at h
  rw [Int32.le_iff_toInt_le]
  have e5 : (5 : Int32).toInt = 5 := by decide
  have e4 : (4 : Int32).toInt = 4 := by decide
  omega

set_option maxHeartbeats 4000000 in
set_option maxRecDepth 100000 in
theorem r_of (l : Launch) (dd : va_G) (cyI cyJ cyZ : ClassId) (qm : Nat) (a : Nat → Nat) (th li fm sm : Int32) (ab be : Int64) (st al : Int32) (n : Nat) (hn : n ≤ 48) (tI hI sI : Nat → Int32) (x w : Int32) (sz : Nat) : Met l yX5_of wsX5_of ({ frames := 1, cells := 0, slots := 0, locals := 22 } : Room) (va_Pc [.ref qm, .int x, .int w] (Wr dd [(cyI, .int), (cyJ, .long), (cyZ, .boolean)] [(qm, .inr (5, mo a th (nI n) li fm sm ab be st al)), (a 2, .inl (cyI, 48, .inl tI)), (a 3, .inl (cyZ, 48, .inl hI)), (a 4, .inl (cyI, 240, .inl sI))] sz)) (va_Qi (S := Unit) (fun (r : Int32) (_ : Unit) => r = ofR n tI hI sI x w) (WQ dd [(qm, .inr (5, mo a th (nI n) li fm sm ab be st al)), (a 2, .inl (cyI, 48, .inl tI)), (a 3, .inl (cyZ, 48, .inl hI)), (a 4, .inl (cyI, 240, .inl sI))] sz (fun _ => [(qm, .inr (5, mo a 0 (nI n) li fm sm ab be st al)), (a 2, .inl (cyI, 48, .inl tI)), (a 3, .inl (cyZ, 48, .inl hI)), (a 4, .inl (cyI, 240, .inl sI))])) (va_A [(qm, .inr (5, mo a th (nI n) li fm sm ab be st al)), (a 2, .inl (cyI, 48, .inl tI)), (a 3, .inl (cyZ, 48, .inl hI)), (a 4, .inl (cyI, 240, .inl sI))] sz)) 0 0 (va_A [(qm, .inr (5, mo a th (nI n) li fm sm ab be st al)), (a 2, .inl (cyI, 48, .inl tI)), (a 3, .inl (cyZ, 48, .inl hI)), (a 4, .inl (cyI, 240, .inl sI))] sz) := by
  refine mkW (Qc := fun A => (va_Qi (S := Unit) (fun (r : Int32) (_ : Unit) => r = ofR n tI hI sI x w) (WQ dd [(qm, .inr (5, mo a th (nI n) li fm sm ab be st al)), (a 2, .inl (cyI, 48, .inl tI)), (a 3, .inl (cyZ, 48, .inl hI)), (a 4, .inl (cyI, 240, .inl sI))] sz (fun _ => [(qm, .inr (5, mo a 0 (nI n) li fm sm ab be st al)), (a 2, .inl (cyI, 48, .inl tI)), (a 3, .inl (cyZ, 48, .inl hI)), (a 4, .inl (cyI, 240, .inl sI))])) A)) (cc := cX5_of) (maxL := 3) (by decide) rfl (Nat.le_of_ble_eq_true rfl) (lv0 := [(0, .ref qm), (1, .int x), (2, .int w)]) rfl ?_
  intro p e s m below meth c ls H A hx hb hr hml hown hlocks hts hmn hN hP hK hD hS hA hAe hl
  have hown : s.vm.findClass RX5 = some m.cls := hown
  have hiX5 : ∀ w ∈ wsX50, w ∈ wsX5_of := by decide +kernel
  refine lv_aload_n hx hb dX5_of_0 rfl (lv_at hl 0 rfl) ?_
  refine lv_iconst (v := 0) hx hb dX5_of_1 (by decide) ?_
  refine va_put (D := dd) (ci := 5) (v := .int 0) (ty := .int) (C := RX5) (T := TX5) (N := 30) hx hb hts hiX5 tyX5 tyX5_ok nmX5 hown hK hP hD hS 0 rfl rfl 0 (by decide) (hts (.fieldLink RX5 75 "SliceDriftModel" "thrown" "I") (by decide +kernel)) (fun _ h9 => h9) rfl (by decide +kernel) rfl rfl (Nat.le_of_ble_eq_true rfl) dX5_of_2 (fun H locs hP hD hS => ?_)
  have hP : va_P dd vwCl [(qm, .inr (5, mo a 0 (nI n) li fm sm ab be st al)), (a 2, .inl (cyI, 48, .inl tI)), (a 3, .inl (cyZ, 48, .inl hI)), (a 4, .inl (cyI, 240, .inl sI))] H := hP
  have hD : va_D A [(qm, .inr (5, mo a 0 (nI n) li fm sm ab be st al)), (a 2, .inl (cyI, 48, .inl tI)), (a 3, .inl (cyZ, 48, .inl hI)), (a 4, .inl (cyI, 240, .inl sI))] := hD
  refine lv_iload_n hx hb dX5_of_5 rfl (lv_at hl 1 rfl) ?_
  refine lv_iconst (v := 0) hx hb dX5_of_6 (by decide) ?_
  refine lv_aload_n hx hb dX5_of_7 rfl (lv_at hl 0 rfl) ?_
  refine va_get (D := dd) (ci := 5) (C := RX5) (T := TX5) (N := 30) (v := .int (nI n)) hx hb hts hiX5 hown hK hP 0 rfl rfl 1 (by decide) (hts (.fieldLink RX5 84 "SliceDriftModel" "rows" "I") (by decide +kernel)) (fun _ h9 => h9) rfl dX5_of_8 ?_
  refine lv_iconst (v := 1) hx hb dX5_of_11 (by decide) ?_
  refine lv_isub hx hb dX5_of_12 ?_
  refine clSi (As := [.int x, .int 0, .int ((nI n) - 1)]) (rest := []) ⟨hx, hb, hml, hown, hts⟩ (r_in l dd cyI cyJ cyZ x 0 (nI n - 1)) gX5_of_X5_in (n := 3) rfl ⟨rfl, rfl⟩ (by decide +kernel) ⟨Nat.le_of_ble_eq_true rfl, Nat.le_of_ble_eq_true rfl⟩ hN hK (hP.sub [] rfl) rfl hl.1 rfl (Nat.le_of_ble_eq_true rfl) dX5_of_13 ⟨Nat.le_of_ble_eq_true rfl, Nat.le_of_ble_eq_true rfl⟩ (fun ck1 hck1 => ?_)
  refine lv_if_eq (tgt := 29) hx hb dX5_of_16 (by decide) (fun qck1 => ?_) (fun qck1 => ?_)
  · have hck1 : ¬ (inR n x) := hck1.elim (fun h => absurd (h.1.symm.trans qck1) (by decide)) (fun h => h.2)
    refine lv_ldc (v := (-1000001)) hx hb hown (hts (.constant RX5 88 (-1000001)) (by decide +kernel)) dX5_of_29 ?_
    exact ewI () hx hb hr hlocks hAe hS dX5_of_31 (by rw [ofR, if_neg (fun q => hck1 (q.1))]) (hP.sub [0, 1, 2, 3] rfl) (hD.sub [0, 1, 2, 3] (by decide) rfl)
  · have hck1 : inR n x := hck1.elim (fun h => h.2) (fun h => absurd h.1 qck1)
    refine lv_iload_n hx hb dX5_of_19 rfl (lv_at hl 2 rfl) ?_
    refine lv_iconst (v := 0) hx hb dX5_of_20 (by decide) ?_
    refine lv_bipush (v := 6) hx hb dX5_of_21 (by decide) ?_
    refine clSi (As := [.int w, .int 0, .int 6]) (rest := []) ⟨hx, hb, hml, hown, hts⟩ (r_in l dd cyI cyJ cyZ w 0 6) gX5_of_X5_in (n := 3) rfl ⟨rfl, rfl⟩ (by decide +kernel) ⟨Nat.le_of_ble_eq_true rfl, Nat.le_of_ble_eq_true rfl⟩ hN hK (hP.sub [] rfl) rfl hl.1 rfl (Nat.le_of_ble_eq_true rfl) dX5_of_23 ⟨Nat.le_of_ble_eq_true rfl, Nat.le_of_ble_eq_true rfl⟩ (fun ck2 hck2 => ?_)
    refine lv_if_ne (tgt := 32) hx hb dX5_of_26 (by decide) (fun qck2 => ?_) (fun qck2 => ?_)
    · have hck2 : 0 ≤ w ∧ w ≤ 6 := hck2.elim (fun h => h.2) (fun h => absurd h.1 qck2)
      obtain ⟨i, hi, ex⟩ := inR_of (by omega) hck1
      subst ex
      have e1 : cl (nI i) = i := cl_nI (by omega)
      refine lv_iload_n hx hb dX5_of_32 rfl (lv_at hl 2 rfl) ?_
      refine lv_iconst (v := 5) hx hb dX5_of_33 (by decide) ?_
      refine lv_icmp_ge (tgt := 50) hx hb dX5_of_34 (by decide) (fun q => ?_) (fun q => ?_)
      · refine lv_iload_n hx hb dX5_of_50 rfl (lv_at hl 2 rfl) ?_
        refine lv_iconst (v := 5) hx hb dX5_of_51 (by decide) ?_
        refine lv_icmp_ne (tgt := 64) hx hb dX5_of_52 (by decide) (fun q5 => ?_) (fun q5 => ?_)
        · refine lv_aload_n hx hb dX5_of_64 rfl (lv_at hl 0 rfl) ?_
          refine va_get (D := dd) (ci := 5) (C := RX5) (T := TX5) (N := 30) (v := .ref (a 3)) hx hb hts hiX5 hown hK hP 0 rfl rfl 3 (by decide) (hts (.fieldLink RX5 13 "SliceDriftModel" "isHit" "[Z") (by decide +kernel)) (fun _ h9 => h9) rfl dX5_of_65 ?_
          refine lv_iload_n hx hb dX5_of_68 rfl (lv_at hl 1 rfl) ?_
          refine va_zald hx hb hK hP 2 2 rfl rfl (i := nI i) (vp_in_nI (show i < 48 from (by omega)) (by decide)) dX5_of_69 ?_
          rw [nI_clamp (show i < 2 ^ 31 from Nat.lt_trans (show i < 48 from (by omega)) (by decide))]
          refine lv_if_eq (tgt := 77) hx hb dX5_of_70 (by decide) (fun q6 => ?_) (fun q6 => ?_)
          · refine lv_iconst (v := 0) hx hb dX5_of_77 (by decide) ?_
            exact ewI () hx hb hr hlocks hAe hS dX5_of_78 (by rw [ofR, if_pos ⟨hck1, hck2⟩, if_neg (ile q), if_neg q5, e1, if_pos q6]) (hP.sub [0, 1, 2, 3] rfl) (hD.sub [0, 1, 2, 3] (by decide) rfl)
          · refine lv_iconst (v := 1) hx hb dX5_of_73 (by decide) ?_
            refine lv_goto (tgt := 78) hx hb dX5_of_74 (by decide) ?_
            exact ewI () hx hb hr hlocks hAe hS dX5_of_78 (by rw [ofR, if_pos ⟨hck1, hck2⟩, if_neg (ile q), if_neg q5, e1, if_neg q6]) (hP.sub [0, 1, 2, 3] rfl) (hD.sub [0, 1, 2, 3] (by decide) rfl)
        · refine lv_aload_n hx hb dX5_of_55 rfl (lv_at hl 0 rfl) ?_
          refine va_get (D := dd) (ci := 5) (C := RX5) (T := TX5) (N := 30) (v := .ref (a 2)) hx hb hts hiX5 hown hK hP 0 rfl rfl 2 (by decide) (hts (.fieldLink RX5 7 "SliceDriftModel" "time" "[I") (by decide +kernel)) (fun _ h9 => h9) rfl dX5_of_56 ?_
          refine lv_iload_n hx hb dX5_of_59 rfl (lv_at hl 1 rfl) ?_
          refine va_iald hx hb hK hP 1 0 rfl rfl (i := nI i) (vp_in_nI (show i < 48 from (by omega)) (by decide)) dX5_of_60 ?_
          rw [nI_clamp (show i < 2 ^ 31 from Nat.lt_trans (show i < 48 from (by omega)) (by decide))]
          refine lv_goto (tgt := 78) hx hb dX5_of_61 (by decide) ?_
          exact ewI () hx hb hr hlocks hAe hS dX5_of_78 (by rw [ofR, if_pos ⟨hck1, hck2⟩, if_neg (ile q), if_pos q5, e1]) (hP.sub [0, 1, 2, 3] rfl) (hD.sub [0, 1, 2, 3] (by decide) rfl)
      · have hw4 : w ≤ 4 := lt5_le4 (inle q)
        obtain ⟨j, hj, ew⟩ := inC_of ⟨hck2.1, hw4⟩
        subst ew
        have e2 : cl (nI j) = j := cl_nI (by omega)
        refine lv_aload_n hx hb dX5_of_37 rfl (lv_at hl 0 rfl) ?_
        refine va_get (D := dd) (ci := 5) (C := RX5) (T := TX5) (N := 30) (v := .ref (a 4)) hx hb hts hiX5 hown hK hP 0 rfl rfl 4 (by decide) (hts (.fieldLink RX5 17 "SliceDriftModel" "sort" "[I") (by decide +kernel)) (fun _ h9 => h9) rfl dX5_of_38 ?_
        refine lv_iconst (v := 5) hx hb dX5_of_41 (by decide) ?_
        refine lv_iload_n hx hb dX5_of_42 rfl (lv_at hl 1 rfl) ?_
        refine lv_imul hx hb dX5_of_43 ?_
        refine lv_iload_n hx hb dX5_of_44 rfl (lv_at hl 2 rfl) ?_
        refine lv_iadd hx hb dX5_of_45 ?_
        refine tpi (show ((5 * (nI i)) + (nI j) : Int32) = nI (5 * i + j) from by rw [show (5 : Int32) = nI 5 from rfl, pk_mul, nI_add]) ?_
        refine va_iald hx hb hK hP 3 0 rfl rfl (i := nI (5 * i + j)) (vp_in_nI (show (5 * i + j) < 240 from (by omega)) (by decide)) dX5_of_46 ?_
        rw [nI_clamp (show (5 * i + j) < 2 ^ 31 from Nat.lt_trans (show (5 * i + j) < 240 from (by omega)) (by decide))]
        refine lv_goto (tgt := 78) hx hb dX5_of_47 (by decide) ?_
        exact ewI () hx hb hr hlocks hAe hS dX5_of_78 (by rw [ofR, if_pos ⟨hck1, hck2⟩, if_pos (inle q), e1, e2]) (hP.sub [0, 1, 2, 3] rfl) (hD.sub [0, 1, 2, 3] (by decide) rfl)
    · have hck2 : ¬ (0 ≤ w ∧ w ≤ 6) := hck2.elim (fun h => absurd (h.1.symm.trans qck2) (by decide)) (fun h => h.2)
      refine lv_ldc (v := (-1000001)) hx hb hown (hts (.constant RX5 88 (-1000001)) (by decide +kernel)) dX5_of_29 ?_
      exact ewI () hx hb hr hlocks hAe hS dX5_of_31 (by rw [ofR, if_neg (fun q => hck2 (q.2))]) (hP.sub [0, 1, 2, 3] rfl) (hD.sub [0, 1, 2, 3] (by decide) rfl)

set_option maxHeartbeats 4000000 in
set_option maxRecDepth 100000 in
theorem r_window (l : Launch) (dd : va_G) (cyI cyJ cyZ : ClassId) (qm : Nat) (a : Nat → Nat) (th li fm sm : Int32) (ab be : Int64) (st al : Int32) (n : Nat) (hn : n ≤ 48) (tI : Nat → Int32) (f t : Int32) (sz : Nat) : Met l yX5_window wsX5_window ({ frames := 1, cells := 0, slots := 0, locals := 23 } : Room) (va_Pc [.ref qm, .int f, .int t] (Wr dd [(cyI, .int), (cyJ, .long), (cyZ, .boolean)] [(qm, .inr (5, mo a th (nI n) li fm sm ab be st al)), (a 2, .inl (cyI, 48, .inl tI))] sz)) (va_Qi (S := Unit) (fun (r : Int32) (_ : Unit) => r = windowR n tI f t) (WQ dd [(qm, .inr (5, mo a th (nI n) li fm sm ab be st al)), (a 2, .inl (cyI, 48, .inl tI))] sz (fun _ => [(qm, .inr (5, mo a 0 (nI n) li fm sm ab be st al)), (a 2, .inl (cyI, 48, .inl tI))])) (va_A [(qm, .inr (5, mo a th (nI n) li fm sm ab be st al)), (a 2, .inl (cyI, 48, .inl tI))] sz)) 0 0 (va_A [(qm, .inr (5, mo a th (nI n) li fm sm ab be st al)), (a 2, .inl (cyI, 48, .inl tI))] sz) := by
  refine mkW (Qc := fun A => (va_Qi (S := Unit) (fun (r : Int32) (_ : Unit) => r = windowR n tI f t) (WQ dd [(qm, .inr (5, mo a th (nI n) li fm sm ab be st al)), (a 2, .inl (cyI, 48, .inl tI))] sz (fun _ => [(qm, .inr (5, mo a 0 (nI n) li fm sm ab be st al)), (a 2, .inl (cyI, 48, .inl tI))])) A)) (cc := cX5_window) (maxL := 5) (by decide) rfl (Nat.le_of_ble_eq_true rfl) (lv0 := [(0, .ref qm), (1, .int f), (2, .int t)]) rfl ?_
  intro p e s m below meth c ls H A hx hb hr hml hown hlocks hts hmn hN hP hK hD hS hA hAe hl
  have hown : s.vm.findClass RX5 = some m.cls := hown
  have hiX5 : ∀ w ∈ wsX50, w ∈ wsX5_window := by decide +kernel
  refine lv_aload_n hx hb dX5_window_0 rfl (lv_at hl 0 rfl) ?_
  refine lv_iconst (v := 0) hx hb dX5_window_1 (by decide) ?_
  refine va_put (D := dd) (ci := 5) (v := .int 0) (ty := .int) (C := RX5) (T := TX5) (N := 30) hx hb hts hiX5 tyX5 tyX5_ok nmX5 hown hK hP hD hS 0 rfl rfl 0 (by decide) (hts (.fieldLink RX5 75 "SliceDriftModel" "thrown" "I") (by decide +kernel)) (fun _ h9 => h9) rfl (by decide +kernel) rfl rfl (Nat.le_of_ble_eq_true rfl) dX5_window_2 (fun H locs hP hD hS => ?_)
  have hP : va_P dd vwCl [(qm, .inr (5, mo a 0 (nI n) li fm sm ab be st al)), (a 2, .inl (cyI, 48, .inl tI))] H := hP
  have hD : va_D A [(qm, .inr (5, mo a 0 (nI n) li fm sm ab be st al)), (a 2, .inl (cyI, 48, .inl tI))] := hD
  refine lv_iload_n hx hb dX5_window_5 rfl (lv_at hl 1 rfl) ?_
  refine lv_iload_n hx hb dX5_window_6 rfl (lv_at hl 2 rfl) ?_
  refine clSi (As := [.int f, .int t]) (rest := []) ⟨hx, hb, hml, hown, hts⟩ (r_isWindow l dd cyI cyJ cyZ f t) gX5_window_X5_isWindow (n := 2) rfl ⟨rfl, rfl⟩ (by decide +kernel) ⟨Nat.le_of_ble_eq_true rfl, Nat.le_of_ble_eq_true rfl⟩ hN hK (hP.sub [] rfl) rfl hl.1 rfl (Nat.le_of_ble_eq_true rfl) dX5_window_7 ⟨Nat.le_of_ble_eq_true rfl, Nat.le_of_ble_eq_true rfl⟩ (fun ck1 hck1 => ?_)
  refine lv_if_ne (tgt := 16) hx hb dX5_window_10 (by decide) (fun qck1 => ?_) (fun qck1 => ?_)
  · have hck1 : 0 ≤ f ∧ f ≤ t ∧ t ≤ 1000 := hck1.elim (fun h => h.2) (fun h => absurd h.1 qck1)
    refine lv_iconst (v := 0) hx hb dX5_window_16 (by decide) ?_
    refine lv_istore_n (lv' := [(3, .int 0), (0, .ref qm), (1, .int f), (2, .int t)]) hx hb dX5_window_17 rfl hl (by decide) rfl (fun ls hl => ?_)
    refine lv_iconst (v := 0) hx hb dX5_window_18 (by decide) ?_
    refine lv_istore (lv' := [(4, .int 0), (3, .int 0), (0, .ref qm), (1, .int f), (2, .int t)]) hx hb dX5_window_19 hl (by decide) rfl (fun ls hl => ?_)
    have loop : ∀ (k : Nat) (i : Nat) (H : Heap) (locs : List Loc), i + k = n → va_P dd vwCl [(qm, .inr (5, mo a 0 (nI n) li fm sm ab be st al)), (a 2, .inl (cyI, 48, .inl tI))] H → va_D A [(qm, .inr (5, mo a 0 (nI n) li fm sm ab be st al)), (a 2, .inl (cyI, 48, .inl tI))] → va_S A s.heap H locs → ∀ ls : Array Slot, lv_has ls 5 [(4, .int (nI i)), (3, .int (nI (cnt (win tI f t) i))), (0, .ref qm), (1, .int f), (2, .int t)] → W p l e ({ frames := 1, cells := 0, slots := 0, locals := 23 } : Room) s m ([.ref qm, .int f, .int t] : List Value).toArray below meth c H locs 0 0 (MQ below (va_Qi (S := Unit) (fun (r : Int32) (_ : Unit) => r = windowR n tI f t) (WQ dd [(qm, .inr (5, mo a th (nI n) li fm sm ab be st al)), (a 2, .inl (cyI, 48, .inl tI))] sz (fun _ => [(qm, .inr (5, mo a 0 (nI n) li fm sm ab be st al)), (a 2, .inl (cyI, 48, .inl tI))])) A) ([.ref qm, .int f, .int t] : List Value).toArray s 0 0 A) (F0 m 21 ls []) := by
      intro k
      induction k with
      | zero =>
        intro i H locs hi9 hP hD hS ls hl
        refine lv_iload hx hb dX5_window_21 (lv_at hl 0 rfl) ?_
        refine lv_aload_n hx hb dX5_window_23 rfl (lv_at hl 2 rfl) ?_
        refine va_get (D := dd) (ci := 5) (C := RX5) (T := TX5) (N := 30) (v := .int (nI n)) hx hb hts hiX5 hown hK hP 0 rfl rfl 1 (by decide) (hts (.fieldLink RX5 84 "SliceDriftModel" "rows" "I") (by decide +kernel)) (fun _ h9 => h9) rfl dX5_window_24 ?_
        refine lv_icmp_ge (tgt := 55) hx hb dX5_window_27 (by decide) (fun q => ?_) (fun q => ?_)
        · refine lv_iload_n hx hb dX5_window_55 rfl (lv_at hl 1 rfl) ?_
          exact ewI () hx hb hr hlocks hAe hS dX5_window_56 (by rw [windowR, if_pos hck1, show i = n by omega]) (hP.sub [0, 1] rfl) (hD.sub [0, 1] (by decide) rfl)
        · exact absurd (nI_le (show n ≤ i by omega) (by omega)) q
      | succ k ih =>
        intro i H locs hi9 hP hD hS ls hl
        refine lv_iload hx hb dX5_window_21 (lv_at hl 0 rfl) ?_
        refine lv_aload_n hx hb dX5_window_23 rfl (lv_at hl 2 rfl) ?_
        refine va_get (D := dd) (ci := 5) (C := RX5) (T := TX5) (N := 30) (v := .int (nI n)) hx hb hts hiX5 hown hK hP 0 rfl rfl 1 (by decide) (hts (.fieldLink RX5 84 "SliceDriftModel" "rows" "I") (by decide +kernel)) (fun _ h9 => h9) rfl dX5_window_24 ?_
        refine lv_icmp_ge (tgt := 55) hx hb dX5_window_27 (by decide) (fun q => ?_) (fun q => ?_)
        · exact absurd q (nI_ge (show i < n by omega) (by omega))
        · refine lv_iload_n hx hb dX5_window_30 rfl (lv_at hl 1 rfl) ?_
          refine lv_aload_n hx hb dX5_window_31 rfl (lv_at hl 2 rfl) ?_
          refine lv_iload hx hb dX5_window_32 (lv_at hl 0 rfl) ?_
          refine lv_iload_n hx hb dX5_window_34 rfl (lv_at hl 3 rfl) ?_
          refine lv_iload_n hx hb dX5_window_35 rfl (lv_at hl 4 rfl) ?_
          refine clVi (As := [.int (nI i), .int f, .int t]) (rest := [.int (nI (cnt (win tI f t) i))]) (b := qm) (vc := (RX5, TX5, 30)) ⟨hx, hb, hml, hown, hts⟩ (r_isIn l dd cyI cyJ cyZ qm a 0 (nI n) li fm sm ab be st al tI i (by omega) f t) gX5_window_X5_isIn (ci := 5) rfl (q0 := 0) rfl (n := 3) rfl ⟨rfl, rfl⟩ (by decide +kernel) ⟨Nat.le_of_ble_eq_true rfl, Nat.le_of_ble_eq_true rfl⟩ hN hK (hP.sub [0, 1] rfl) rfl hl.1 rfl (Nat.le_of_ble_eq_true rfl) dX5_window_36 ⟨Nat.le_of_ble_eq_true rfl, Nat.le_of_ble_eq_true rfl⟩ (fun b1 hb1 => ?_)
          refine lv_if_eq (tgt := 46) hx hb dX5_window_39 (by decide) (fun q1 => ?_) (fun q1 => ?_)
          · have f0 : win tI f t i = false := (Bool.not_eq_true _).mp (fun h => by rw [if_pos h] at hb1; exact absurd (hb1.symm.trans q1) (by decide))
            refine lv_iconst (v := 0) hx hb dX5_window_46 (by decide) ?_
            refine lv_iadd hx hb dX5_window_47 ?_
            refine tpi (show ((nI (cnt (win tI f t) i)) + 0 : Int32) = nI (cnt (win tI f t) (i + 1)) from by rw [cnt_n f0]; exact Int32.add_zero _) ?_
            refine lv_istore_n (lv' := [(3, .int (nI (cnt (win tI f t) (i + 1)))), (4, .int (nI i)), (0, .ref qm), (1, .int f), (2, .int t)]) hx hb dX5_window_48 rfl hl (by decide) rfl (fun ls hl => ?_)
            refine lv_iinc (v := nI (i + 1)) (lv' := [(4, .int (nI (i + 1))), (3, .int (nI (cnt (win tI f t) (i + 1)))), (0, .ref qm), (1, .int f), (2, .int t)]) hx hb dX5_window_49 hl (k := 1) rfl (nI_1 i) (by decide) rfl (fun ls hl => ?_)
            refine lv_goto (tgt := 21) hx hb dX5_window_52 (by decide) ?_
            exact ih (i + 1) H locs (by omega) hP hD hS ls (lv_sub hl [0, 1, 2, 3, 4] rfl)
          · have f0 : win tI f t i = true := (Bool.not_eq_false _).mp (fun h => q1 (by rw [hb1, if_neg (by rw [h]; decide)]))
            refine lv_iconst (v := 1) hx hb dX5_window_42 (by decide) ?_
            refine lv_goto (tgt := 47) hx hb dX5_window_43 (by decide) ?_
            refine lv_iadd hx hb dX5_window_47 ?_
            refine tpi (show ((nI (cnt (win tI f t) i)) + 1 : Int32) = nI (cnt (win tI f t) (i + 1)) from by rw [cnt_y f0]; exact nI_1 _) ?_
            refine lv_istore_n (lv' := [(3, .int (nI (cnt (win tI f t) (i + 1)))), (4, .int (nI i)), (0, .ref qm), (1, .int f), (2, .int t)]) hx hb dX5_window_48 rfl hl (by decide) rfl (fun ls hl => ?_)
            refine lv_iinc (v := nI (i + 1)) (lv' := [(4, .int (nI (i + 1))), (3, .int (nI (cnt (win tI f t) (i + 1)))), (0, .ref qm), (1, .int f), (2, .int t)]) hx hb dX5_window_49 hl (k := 1) rfl (nI_1 i) (by decide) rfl (fun ls hl => ?_)
            refine lv_goto (tgt := 21) hx hb dX5_window_52 (by decide) ?_
            exact ih (i + 1) H locs (by omega) hP hD hS ls (lv_sub hl [0, 1, 2, 3, 4] rfl)
    exact loop n 0 H _ (by omega) hP hD hS ls (lv_sub hl [0, 1, 2, 3, 4] rfl)
  · have hck1 : ¬ (0 ≤ f ∧ f ≤ t ∧ t ≤ 1000) := hck1.elim (fun h => absurd (h.1.symm.trans qck1) (by decide)) (fun h => h.2)
    refine lv_ldc (v := (-1000002)) hx hb hown (hts (.constant RX5 83 (-1000002)) (by decide +kernel)) dX5_window_13 ?_
    exact ewI () hx hb hr hlocks hAe hS dX5_window_15 (by rw [windowR, if_neg hck1]) (hP.sub [0, 1] rfl) (hD.sub [0, 1] (by decide) rfl)
