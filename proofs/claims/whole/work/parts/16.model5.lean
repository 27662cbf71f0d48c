set_option maxHeartbeats 4000000 in
set_option maxRecDepth 100000 in
theorem r_gap (l : Launch) (dd : va_G) (cyI cyJ cyZ : ClassId) (qm : Nat) (a : Nat → Nat) (th li fm sm : Int32) (ab be : Int64) (st al : Int32) (n : Nat) (hn : n ≤ 48) (hI sI : Nat → Int32) (y k o pt : Int32) (sz : Nat) : Met l yX5_gap wsX5_gap ({ frames := 2, cells := 0, slots := 0, locals := 60 } : Room) (va_Pc [.ref qm, .int y, .int k, .int o, .int pt] (Wr dd [(cyI, .int), (cyJ, .long), (cyZ, .boolean)] [(qm, .inr (5, mo a th (nI n) li fm sm ab be st al)), (a 3, .inl (cyZ, 48, .inl hI)), (a 4, .inl (cyI, 240, .inl sI))] sz)) (va_Ql (S := Int32) (fun (r : Int64) (u : Int32) => (gapX n sI y k o pt → u = 1) ∧ (¬ gapX n sI y k o pt → u = 0 ∧ r = gapR n hI sI y k o pt)) (WQ dd [(qm, .inr (5, mo a th (nI n) li fm sm ab be st al)), (a 3, .inl (cyZ, 48, .inl hI)), (a 4, .inl (cyI, 240, .inl sI))] sz (fun u => [(qm, .inr (5, mo a u (nI n) li fm sm ab be st al)), (a 3, .inl (cyZ, 48, .inl hI)), (a 4, .inl (cyI, 240, .inl sI))])) (va_A [(qm, .inr (5, mo a th (nI n) li fm sm ab be st al)), (a 3, .inl (cyZ, 48, .inl hI)), (a 4, .inl (cyI, 240, .inl sI))] sz)) 0 0 (va_A [(qm, .inr (5, mo a th (nI n) li fm sm ab be st al)), (a 3, .inl (cyZ, 48, .inl hI)), (a 4, .inl (cyI, 240, .inl sI))] sz) := by
  refine mkW (Qc := fun A => (va_Ql (S := Int32) (fun (r : Int64) (u : Int32) => (gapX n sI y k o pt → u = 1) ∧ (¬ gapX n sI y k o pt → u = 0 ∧ r = gapR n hI sI y k o pt)) (WQ dd [(qm, .inr (5, mo a th (nI n) li fm sm ab be st al)), (a 3, .inl (cyZ, 48, .inl hI)), (a 4, .inl (cyI, 240, .inl sI))] sz (fun u => [(qm, .inr (5, mo a u (nI n) li fm sm ab be st al)), (a 3, .inl (cyZ, 48, .inl hI)), (a 4, .inl (cyI, 240, .inl sI))])) A)) (cc := cX5_gap) (maxL := 13) (by decide) rfl (Nat.le_of_ble_eq_true rfl) (lv0 := [(0, .ref qm), (1, .int y), (2, .int k), (3, .int o), (4, .int pt)]) rfl ?_
  intro p e s m below meth c ls H A hx hb hr hml hown hlocks hts hmn hN hP hK hD hS hA hAe hl
  have hown : s.vm.findClass RX5 = some m.cls := hown
  have hiX5 : ∀ w ∈ wsX50, w ∈ wsX5_gap := by decide +kernel
  refine lv_aload_n hx hb dX5_gap_0 rfl (lv_at hl 0 rfl) ?_
  refine lv_iconst (v := 0) hx hb dX5_gap_1 (by decide) ?_
  refine va_put (D := dd) (ci := 5) (v := .int 0) (ty := .int) (C := RX5) (T := TX5) (N := 30) hx hb hts hiX5 tyX5 tyX5_ok nmX5 hown hK hP hD hS 0 rfl rfl 0 (by decide) (hts (.fieldLink RX5 75 "SliceDriftModel" "thrown" "I") (by decide +kernel)) (fun _ h9 => h9) rfl (by decide +kernel) rfl rfl (Nat.le_of_ble_eq_true rfl) dX5_gap_2 (fun H locs hP hD hS => ?_)
  have hP : va_P dd vwCl [(qm, .inr (5, mo a 0 (nI n) li fm sm ab be st al)), (a 3, .inl (cyZ, 48, .inl hI)), (a 4, .inl (cyI, 240, .inl sI))] H := hP
  have hD : va_D A [(qm, .inr (5, mo a 0 (nI n) li fm sm ab be st al)), (a 3, .inl (cyZ, 48, .inl hI)), (a 4, .inl (cyI, 240, .inl sI))] := hD
  refine lv_iload_n hx hb dX5_gap_5 rfl (lv_at hl 1 rfl) ?_
  refine lv_iconst (v := 0) hx hb dX5_gap_6 (by decide) ?_
  refine lv_iconst (v := 4) hx hb dX5_gap_7 (by decide) ?_
  refine clSi (As := [.int y, .int 0, .int 4]) (rest := []) ⟨hx, hb, hml, hown, hts⟩ (r_in l dd cyI cyJ cyZ y 0 4) gX5_gap_X5_in (n := 3) rfl ⟨rfl, rfl⟩ (by decide +kernel) ⟨Nat.le_of_ble_eq_true rfl, Nat.le_of_ble_eq_true rfl⟩ hN hK (hP.sub [] rfl) rfl hl.1 rfl (Nat.le_of_ble_eq_true rfl) dX5_gap_8 ⟨Nat.le_of_ble_eq_true rfl, Nat.le_of_ble_eq_true rfl⟩ (fun ck1 hck1 => ?_)
  refine lv_if_ne (tgt := 18) hx hb dX5_gap_11 (by decide) (fun qck1 => ?_) (fun qck1 => ?_)
  · have hck1 : inC y := hck1.elim (fun h => h.2) (fun h => absurd h.1 qck1)
    refine lv_iload_n hx hb dX5_gap_18 rfl (lv_at hl 2 rfl) ?_
    refine lv_iconst (v := 0) hx hb dX5_gap_19 (by decide) ?_
    refine lv_bipush (v := 10) hx hb dX5_gap_20 (by decide) ?_
    refine clSi (As := [.int k, .int 0, .int 10]) (rest := []) ⟨hx, hb, hml, hown, hts⟩ (r_in l dd cyI cyJ cyZ k 0 10) gX5_gap_X5_in (n := 3) rfl ⟨rfl, rfl⟩ (by decide +kernel) ⟨Nat.le_of_ble_eq_true rfl, Nat.le_of_ble_eq_true rfl⟩ hN hK (hP.sub [] rfl) rfl hl.1 rfl (Nat.le_of_ble_eq_true rfl) dX5_gap_22 ⟨Nat.le_of_ble_eq_true rfl, Nat.le_of_ble_eq_true rfl⟩ (fun ck2 hck2 => ?_)
    refine lv_if_eq (tgt := 48) hx hb dX5_gap_25 (by decide) (fun qck2 => ?_) (fun qck2 => ?_)
    · have hck2 : ¬ (inS k) := hck2.elim (fun h => absurd (h.1.symm.trans qck2) (by decide)) (fun h => h.2)
      refine lv_ldc2 (v := (-1000002)) hx hb hown (hts (.constantLong RX5 117 (-1000002)) (by decide +kernel)) dX5_gap_48 ?_
      exact ewL 0 hx hb hr hlocks hAe hS dX5_gap_51 (⟨fun x => absurd x.2.1.1 hck2, fun _ => ⟨rfl, by rw [gapR, if_pos hck1, if_neg (fun x : gapOk y k o pt => hck2 x.1)]⟩⟩) (hP.sub [0, 1, 2] rfl) (hD.sub [0, 1, 2] (by decide) rfl)
    · have hck2 : inS k := hck2.elim (fun h => h.2) (fun h => absurd h.1 qck2)
      refine lv_iload_n hx hb dX5_gap_28 rfl (lv_at hl 3 rfl) ?_
      refine lv_iconst (v := 0) hx hb dX5_gap_29 (by decide) ?_
      refine lv_bipush (v := 10) hx hb dX5_gap_30 (by decide) ?_
      refine clSi (As := [.int o, .int 0, .int 10]) (rest := []) ⟨hx, hb, hml, hown, hts⟩ (r_in l dd cyI cyJ cyZ o 0 10) gX5_gap_X5_in (n := 3) rfl ⟨rfl, rfl⟩ (by decide +kernel) ⟨Nat.le_of_ble_eq_true rfl, Nat.le_of_ble_eq_true rfl⟩ hN hK (hP.sub [] rfl) rfl hl.1 rfl (Nat.le_of_ble_eq_true rfl) dX5_gap_32 ⟨Nat.le_of_ble_eq_true rfl, Nat.le_of_ble_eq_true rfl⟩ (fun ck3 hck3 => ?_)
      refine lv_if_eq (tgt := 48) hx hb dX5_gap_35 (by decide) (fun qck3 => ?_) (fun qck3 => ?_)
      · have hck3 : ¬ (inS o) := hck3.elim (fun h => absurd (h.1.symm.trans qck3) (by decide)) (fun h => h.2)
        refine lv_ldc2 (v := (-1000002)) hx hb hown (hts (.constantLong RX5 117 (-1000002)) (by decide +kernel)) dX5_gap_48 ?_
        exact ewL 0 hx hb hr hlocks hAe hS dX5_gap_51 (⟨fun x => absurd x.2.1.2.1 hck3, fun _ => ⟨rfl, by rw [gapR, if_pos hck1, if_neg (fun x : gapOk y k o pt => hck3 x.2.1)]⟩⟩) (hP.sub [0, 1, 2] rfl) (hD.sub [0, 1, 2] (by decide) rfl)
      · have hck3 : inS o := hck3.elim (fun h => h.2) (fun h => absurd h.1 qck3)
        refine lv_iload hx hb dX5_gap_38 (lv_at hl 4 rfl) ?_
        refine lv_iconst (v := 0) hx hb dX5_gap_40 (by decide) ?_
        refine lv_iconst (v := 1) hx hb dX5_gap_41 (by decide) ?_
        refine clSi (As := [.int pt, .int 0, .int 1]) (rest := []) ⟨hx, hb, hml, hown, hts⟩ (r_in l dd cyI cyJ cyZ pt 0 1) gX5_gap_X5_in (n := 3) rfl ⟨rfl, rfl⟩ (by decide +kernel) ⟨Nat.le_of_ble_eq_true rfl, Nat.le_of_ble_eq_true rfl⟩ hN hK (hP.sub [] rfl) rfl hl.1 rfl (Nat.le_of_ble_eq_true rfl) dX5_gap_42 ⟨Nat.le_of_ble_eq_true rfl, Nat.le_of_ble_eq_true rfl⟩ (fun ck4 hck4 => ?_)
        refine lv_if_ne (tgt := 52) hx hb dX5_gap_45 (by decide) (fun qck4 => ?_) (fun qck4 => ?_)
        · have hck4 : inP pt := hck4.elim (fun h => h.2) (fun h => absurd h.1 qck4)
          obtain ⟨co, hco, ey⟩ := inC_of hck1
          obtain ⟨k1, hk1, ek⟩ := inS_of hck2
          obtain ⟨k2, hk2, eo⟩ := inS_of hck3
          have hpt := inP_of hck4
          subst ey
          subst ek
          subst eo
          have ec : cl (nI co) = co := cl_nI (by omega)
          have e1 : cl (nI k1) = k1 := cl_nI (by omega)
          have e2 : cl (nI k2) = k2 := cl_nI (by omega)
          refine lv_aload_n hx hb dX5_gap_52 rfl (lv_at hl 0 rfl) ?_
          refine lv_iload_n hx hb dX5_gap_53 rfl (lv_at hl 1 rfl) ?_
          refine lv_iload_n hx hb dX5_gap_54 rfl (lv_at hl 2 rfl) ?_
          refine clVl (As := [.int (nI co), .int (nI k1)]) (rest := []) (b := qm) (vc := (RX5, TX5, 30)) ⟨hx, hb, hml, hown, hts⟩ (r_rowsOf l dd cyI cyJ cyZ qm a 0 li fm sm ab be st al n hn sI co k1 hco) gX5_gap_X5_rowsOf (ci := 5) rfl (q0 := 0) rfl (n := 2) rfl ⟨rfl, rfl⟩ (by decide +kernel) ⟨Nat.le_of_ble_eq_true rfl, Nat.le_of_ble_eq_true rfl⟩ hN hK (hP.sub [0, 2] rfl) rfl hl.1 rfl (Nat.le_of_ble_eq_true rfl) dX5_gap_55 ⟨Nat.le_of_ble_eq_true rfl, Nat.le_of_ble_eq_true rfl⟩ (fun r1 hr1 => ?_)
          subst hr1
          refine lv_lstore (lv' := [(5, .long (lN (mk (hav sI co k1) n))), (0, .ref qm), (1, .int (nI co)), (2, .int (nI k1)), (3, .int (nI k2)), (4, .int pt)]) hx hb dX5_gap_58 hl (by decide) rfl (fun ls hl => ?_)
          refine lv_aload_n hx hb dX5_gap_60 rfl (lv_at hl 1 rfl) ?_
          refine lv_iload_n hx hb dX5_gap_61 rfl (lv_at hl 2 rfl) ?_
          refine lv_iload_n hx hb dX5_gap_62 rfl (lv_at hl 4 rfl) ?_
          refine clVl (As := [.int (nI co), .int (nI k2)]) (rest := []) (b := qm) (vc := (RX5, TX5, 30)) ⟨hx, hb, hml, hown, hts⟩ (r_rowsOf l dd cyI cyJ cyZ qm a 0 li fm sm ab be st al n hn sI co k2 hco) gX5_gap_X5_rowsOf (ci := 5) rfl (q0 := 0) rfl (n := 2) rfl ⟨rfl, rfl⟩ (by decide +kernel) ⟨Nat.le_of_ble_eq_true rfl, Nat.le_of_ble_eq_true rfl⟩ hN hK (hP.sub [0, 2] rfl) rfl hl.1 rfl (Nat.le_of_ble_eq_true rfl) dX5_gap_63 ⟨Nat.le_of_ble_eq_true rfl, Nat.le_of_ble_eq_true rfl⟩ (fun r2 hr2 => ?_)
          subst hr2
          refine lv_lstore (lv' := [(7, .long (lN (mk (hav sI co k2) n))), (5, .long (lN (mk (hav sI co k1) n))), (0, .ref qm), (1, .int (nI co)), (2, .int (nI k1)), (3, .int (nI k2)), (4, .int pt)]) hx hb dX5_gap_66 hl (by decide) rfl (fun ls hl => ?_)
          refine lv_lload hx hb dX5_gap_68 (lv_at hl 1 rfl) ?_
          refine lv_lconst (v := 0) hx hb dX5_gap_70 (by decide) ?_
          refine W.lcmp hx hb dX5_gap_71 ?_
          refine lv_if_eq (tgt := 82) hx hb dX5_gap_72 (by decide) (fun q1 => ?_) (fun q1 => ?_)
          · refine lv_aload_n hx hb dX5_gap_82 rfl (lv_at hl 2 rfl) ?_
            refine lv_iconst (v := 1) hx hb dX5_gap_83 (by decide) ?_
            refine va_put (D := dd) (ci := 5) (v := .int 1) (ty := .int) (C := RX5) (T := TX5) (N := 30) hx hb hts hiX5 tyX5 tyX5_ok nmX5 hown hK hP hD hS 0 rfl rfl 0 (by decide) (hts (.fieldLink RX5 75 "SliceDriftModel" "thrown" "I") (by decide +kernel)) (fun _ h9 => h9) rfl (by decide +kernel) rfl rfl (Nat.le_of_ble_eq_true rfl) dX5_gap_84 (fun H locs hP hD hS => ?_)
            have hP : va_P dd vwCl [(qm, .inr (5, mo a 1 (nI n) li fm sm ab be st al)), (a 3, .inl (cyZ, 48, .inl hI)), (a 4, .inl (cyI, 240, .inl sI))] H := hP
            have hD : va_D A [(qm, .inr (5, mo a 1 (nI n) li fm sm ab be st al)), (a 3, .inl (cyZ, 48, .inl hI)), (a 4, .inl (cyI, 240, .inl sI))] := hD
            refine lv_lconst (v := 0) hx hb dX5_gap_87 (by decide) ?_
            exact ewL 1 hx hb hr hlocks hAe hS dX5_gap_88 (⟨fun _ => rfl, fun x => absurd (show gapX n sI (nI co) (nI k1) (nI k2) pt from ⟨hck1, ⟨hck2, hck3, hck4⟩, by rw [ec, e1, e2]; exact Or.inl ((lN0 (mk62 _ hn)).mp q1)⟩) x⟩) (hP.sub [0, 1, 2] rfl) (hD.sub [0, 1, 2] (by decide) rfl)
          · have z1 : mk (hav sI co k1) n ≠ 0 := fun h => q1 ((lN0 (mk62 _ hn)).mpr h)
            refine lv_lload hx hb dX5_gap_75 (lv_at hl 0 rfl) ?_
            refine lv_lconst (v := 0) hx hb dX5_gap_77 (by decide) ?_
            refine W.lcmp hx hb dX5_gap_78 ?_
            refine lv_if_ne (tgt := 89) hx hb dX5_gap_79 (by decide) (fun q2 => ?_) (fun q2 => ?_)
            · have z2 : mk (hav sI co k2) n ≠ 0 := fun h => q2 ((lN0 (mk62 _ hn)).mpr h)
              have c1 : cr sI n co k1 ≠ 0 := fun h => z1 (mk0_cnt.mpr h)
              have c2 : cr sI n co k2 ≠ 0 := fun h => z2 (mk0_cnt.mpr h)
              have hx0 : ¬ gapX n sI (nI co) (nI k1) (nI k2) pt := fun x => by have := x.2.2; rw [ec, e1, e2] at this; exact this.elim z1 z2
              have l1 := cr_le sI n co k1
              have l2 := cr_le sI n co k2
              have l3 := ch_le hI sI n co k1
              have l4 := ch_le hI sI n co k2
              have b1 := c48 hn l3 l2
              have b2 := c48 hn l4 l1
              have b3 := c48 hn l1 l2
              have b4 : 0 < cr sI n co k1 * cr sI n co k2 := Nat.mul_pos (by omega) (by omega)
              refine lv_lload hx hb dX5_gap_89 (lv_at hl 1 rfl) ?_
              refine clSi (As := [.long (lN (mk (hav sI co k1) n))]) (rest := []) ⟨hx, hb, hml, hown, hts⟩ (r_countOf l dd cyI cyJ cyZ (lN (mk (hav sI co k1) n)) (mk (hav sI co k1) n).testBit (bits_lN (mk62 _ hn))) gX5_gap_X5_countOf (n := 1) rfl ⟨rfl, rfl⟩ (by decide +kernel) ⟨Nat.le_of_ble_eq_true rfl, Nat.le_of_ble_eq_true rfl⟩ hN hK (hP.sub [] rfl) rfl hl.1 rfl (Nat.le_of_ble_eq_true rfl) dX5_gap_91 ⟨Nat.le_of_ble_eq_true rfl, Nat.le_of_ble_eq_true rfl⟩ (fun r3 hr3 => ?_)
              rw [cnt_mk48 _ hn] at hr3
              subst hr3
              refine lv_i2l hx hb dX5_gap_94 rfl ?_
              refine tpl (show ((nI (cr sI n co k1)).toInt64 : Int64) = lN (cr sI n co k1) from nI_l (by omega)) ?_
              refine lv_lstore (lv' := [(9, .long (lN (cr sI n co k1))), (7, .long (lN (mk (hav sI co k2) n))), (5, .long (lN (mk (hav sI co k1) n))), (0, .ref qm), (1, .int (nI co)), (2, .int (nI k1)), (3, .int (nI k2)), (4, .int pt)]) hx hb dX5_gap_95 hl (by decide) rfl (fun ls hl => ?_)
              refine lv_lload hx hb dX5_gap_97 (lv_at hl 1 rfl) ?_
              refine clSi (As := [.long (lN (mk (hav sI co k2) n))]) (rest := []) ⟨hx, hb, hml, hown, hts⟩ (r_countOf l dd cyI cyJ cyZ (lN (mk (hav sI co k2) n)) (mk (hav sI co k2) n).testBit (bits_lN (mk62 _ hn))) gX5_gap_X5_countOf (n := 1) rfl ⟨rfl, rfl⟩ (by decide +kernel) ⟨Nat.le_of_ble_eq_true rfl, Nat.le_of_ble_eq_true rfl⟩ hN hK (hP.sub [] rfl) rfl hl.1 rfl (Nat.le_of_ble_eq_true rfl) dX5_gap_99 ⟨Nat.le_of_ble_eq_true rfl, Nat.le_of_ble_eq_true rfl⟩ (fun r4 hr4 => ?_)
              rw [cnt_mk48 _ hn] at hr4
              subst hr4
              refine lv_i2l hx hb dX5_gap_102 rfl ?_
              refine tpl (show ((nI (cr sI n co k2)).toInt64 : Int64) = lN (cr sI n co k2) from nI_l (by omega)) ?_
              refine lv_lstore (lv' := [(11, .long (lN (cr sI n co k2))), (9, .long (lN (cr sI n co k1))), (7, .long (lN (mk (hav sI co k2) n))), (5, .long (lN (mk (hav sI co k1) n))), (0, .ref qm), (1, .int (nI co)), (2, .int (nI k1)), (3, .int (nI k2)), (4, .int pt)]) hx hb dX5_gap_103 hl (by decide) rfl (fun ls hl => ?_)
              refine lv_aload_n hx hb dX5_gap_105 rfl (lv_at hl 4 rfl) ?_
              refine lv_lload hx hb dX5_gap_106 (lv_at hl 3 rfl) ?_
              refine clVi (As := [.long (lN (mk (hav sI co k1) n))]) (rest := []) (b := qm) (vc := (RX5, TX5, 30)) ⟨hx, hb, hml, hown, hts⟩ (r_hitsOf l dd cyI cyJ cyZ qm a 0 li fm sm ab be st al n hn hI (lN (mk (hav sI co k1) n)) (mk (hav sI co k1) n).testBit (bits_lN (mk62 _ hn))) gX5_gap_X5_hitsOf (ci := 5) rfl (q0 := 0) rfl (n := 1) rfl ⟨rfl, rfl⟩ (by decide +kernel) ⟨Nat.le_of_ble_eq_true rfl, Nat.le_of_ble_eq_true rfl⟩ hN hK (hP.sub [0, 1] rfl) rfl hl.1 rfl (Nat.le_of_ble_eq_true rfl) dX5_gap_108 ⟨Nat.le_of_ble_eq_true rfl, Nat.le_of_ble_eq_true rfl⟩ (fun r5 hr5 => ?_)
              rw [cnt_mkh] at hr5
              subst hr5
              refine lv_i2l hx hb dX5_gap_111 rfl ?_
              refine tpl (show ((nI (ch hI sI n co k1)).toInt64 : Int64) = lN (ch hI sI n co k1) from nI_l (by omega)) ?_
              refine lv_lload hx hb dX5_gap_112 (lv_at hl 0 rfl) ?_
              refine lv_lmul hx hb dX5_gap_114 ?_
              refine tpl (show ((lN (ch hI sI n co k1)) * (lN (cr sI n co k2)) : Int64) = lN (ch hI sI n co k1 * cr sI n co k2) from lN_mul _ _) ?_
              refine lv_aload_n hx hb dX5_gap_115 rfl (lv_at hl 4 rfl) ?_
              refine lv_lload hx hb dX5_gap_116 (lv_at hl 2 rfl) ?_
              refine clVi (As := [.long (lN (mk (hav sI co k2) n))]) (rest := [.long (lN (ch hI sI n co k1 * cr sI n co k2))]) (b := qm) (vc := (RX5, TX5, 30)) ⟨hx, hb, hml, hown, hts⟩ (r_hitsOf l dd cyI cyJ cyZ qm a 0 li fm sm ab be st al n hn hI (lN (mk (hav sI co k2) n)) (mk (hav sI co k2) n).testBit (bits_lN (mk62 _ hn))) gX5_gap_X5_hitsOf (ci := 5) rfl (q0 := 0) rfl (n := 1) rfl ⟨rfl, rfl⟩ (by decide +kernel) ⟨Nat.le_of_ble_eq_true rfl, Nat.le_of_ble_eq_true rfl⟩ hN hK (hP.sub [0, 1] rfl) rfl hl.1 rfl (Nat.le_of_ble_eq_true rfl) dX5_gap_118 ⟨Nat.le_of_ble_eq_true rfl, Nat.le_of_ble_eq_true rfl⟩ (fun r6 hr6 => ?_)
              rw [cnt_mkh] at hr6
              subst hr6
              refine lv_i2l hx hb dX5_gap_121 rfl ?_
              refine tpl (show ((nI (ch hI sI n co k2)).toInt64 : Int64) = lN (ch hI sI n co k2) from nI_l (by omega)) ?_
              refine lv_lload hx hb dX5_gap_122 (lv_at hl 1 rfl) ?_
              refine lv_lmul hx hb dX5_gap_124 ?_
              refine tpl (show ((lN (ch hI sI n co k2)) * (lN (cr sI n co k1)) : Int64) = lN (ch hI sI n co k2 * cr sI n co k1) from lN_mul _ _) ?_
              refine lv_lsub hx hb dX5_gap_125 ?_
              refine tpl (show ((lN (ch hI sI n co k1 * cr sI n co k2)) - (lN (ch hI sI n co k2 * cr sI n co k1)) : Int64) = lI (((ch hI sI n co k1 * cr sI n co k2 : Nat) : Int) - ((ch hI sI n co k2 * cr sI n co k1 : Nat) : Int)) from lsubI _ _) ?_
              refine lv_lload hx hb dX5_gap_126 (lv_at hl 1 rfl) ?_
              refine lv_lload hx hb dX5_gap_128 (lv_at hl 0 rfl) ?_
              refine lv_lmul hx hb dX5_gap_130 ?_
              refine tpl (show ((lN (cr sI n co k1)) * (lN (cr sI n co k2)) : Int64) = lN (cr sI n co k1 * cr sI n co k2) from lN_mul _ _) ?_
              refine lv_iload hx hb dX5_gap_131 (lv_at hl 8 rfl) ?_
              refine clSl (As := [.long (lI (((ch hI sI n co k1 * cr sI n co k2 : Nat) : Int) - ((ch hI sI n co k2 * cr sI n co k1 : Nat) : Int))), .long (lN (cr sI n co k1 * cr sI n co k2)), .int pt]) (rest := []) ⟨hx, hb, hml, hown, hts⟩ (r_part l dd cyI cyJ cyZ (((ch hI sI n co k1 * cr sI n co k2 : Nat) : Int) - ((ch hI sI n co k2 * cr sI n co k1 : Nat) : Int)) (cr sI n co k1 * cr sI n co k2) pt (by omega) (by omega) b4 hpt) gX5_gap_X5_part (n := 3) rfl ⟨rfl, rfl⟩ (by decide +kernel) ⟨Nat.le_of_ble_eq_true rfl, Nat.le_of_ble_eq_true rfl⟩ hN hK (hP.sub [] rfl) rfl hl.1 rfl (Nat.le_of_ble_eq_true rfl) dX5_gap_133 ⟨Nat.le_of_ble_eq_true rfl, Nat.le_of_ble_eq_true rfl⟩ (fun rr hrr => ?_)
              exact ewL 0 hx hb hr hlocks hAe hS dX5_gap_136 (⟨fun x => absurd x hx0, fun _ => ⟨rfl, by rw [hrr, gapR, if_pos (show inC (nI co) from hck1), if_pos (show gapOk (nI co) (nI k1) (nI k2) pt from ⟨hck2, hck3, hck4⟩), ec, e1, e2]⟩⟩) (hP.sub [0, 1, 2] rfl) (hD.sub [0, 1, 2] (by decide) rfl)
            · refine lv_aload_n hx hb dX5_gap_82 rfl (lv_at hl 2 rfl) ?_
              refine lv_iconst (v := 1) hx hb dX5_gap_83 (by decide) ?_
              refine va_put (D := dd) (ci := 5) (v := .int 1) (ty := .int) (C := RX5) (T := TX5) (N := 30) hx hb hts hiX5 tyX5 tyX5_ok nmX5 hown hK hP hD hS 0 rfl rfl 0 (by decide) (hts (.fieldLink RX5 75 "SliceDriftModel" "thrown" "I") (by decide +kernel)) (fun _ h9 => h9) rfl (by decide +kernel) rfl rfl (Nat.le_of_ble_eq_true rfl) dX5_gap_84 (fun H locs hP hD hS => ?_)
              have hP : va_P dd vwCl [(qm, .inr (5, mo a 1 (nI n) li fm sm ab be st al)), (a 3, .inl (cyZ, 48, .inl hI)), (a 4, .inl (cyI, 240, .inl sI))] H := hP
              have hD : va_D A [(qm, .inr (5, mo a 1 (nI n) li fm sm ab be st al)), (a 3, .inl (cyZ, 48, .inl hI)), (a 4, .inl (cyI, 240, .inl sI))] := hD
              refine lv_lconst (v := 0) hx hb dX5_gap_87 (by decide) ?_
              exact ewL 1 hx hb hr hlocks hAe hS dX5_gap_88 (⟨fun _ => rfl, fun x => absurd (show gapX n sI (nI co) (nI k1) (nI k2) pt from ⟨hck1, ⟨hck2, hck3, hck4⟩, by rw [ec, e1, e2]; exact Or.inr ((lN0 (mk62 _ hn)).mp q2)⟩) x⟩) (hP.sub [0, 1, 2] rfl) (hD.sub [0, 1, 2] (by decide) rfl)
        · have hck4 : ¬ (inP pt) := hck4.elim (fun h => absurd (h.1.symm.trans qck4) (by decide)) (fun h => h.2)
          refine lv_ldc2 (v := (-1000002)) hx hb hown (hts (.constantLong RX5 117 (-1000002)) (by decide +kernel)) dX5_gap_48 ?_
          exact ewL 0 hx hb hr hlocks hAe hS dX5_gap_51 (⟨fun x => absurd x.2.1.2.2 hck4, fun _ => ⟨rfl, by rw [gapR, if_pos hck1, if_neg (fun x : gapOk y k o pt => hck4 x.2.2)]⟩⟩) (hP.sub [0, 1, 2] rfl) (hD.sub [0, 1, 2] (by decide) rfl)
  · have hck1 : ¬ (inC y) := hck1.elim (fun h => absurd (h.1.symm.trans qck1) (by decide)) (fun h => h.2)
    refine lv_ldc2 (v := (-1000001)) hx hb hown (hts (.constantLong RX5 115 (-1000001)) (by decide +kernel)) dX5_gap_14 ?_
    exact ewL 0 hx hb hr hlocks hAe hS dX5_gap_17 (⟨fun x => absurd x.1 hck1, fun _ => ⟨rfl, by rw [gapR, if_neg hck1]⟩⟩) (hP.sub [0, 1, 2] rfl) (hD.sub [0, 1, 2] (by decide) rfl)

theorem cnt_pos0 {a : Nat} : 0 < a ↔ ¬ a = 0 := Nat.pos_iff_ne_zero
theorem csb {f : Nat → Bool} {sI fA : Nat → Int32} {co n : Nat} (hn : n ≤ 48) (h : ∀ k, k < 11 → fA k = nI (cs f sI co n k)) : ∀ k, k < 11 → fA k = nI (cs f sI co n k) ∧ cs f sI co n k ≤ 48 := fun k hk => ⟨h k hk, Nat.le_trans (cs_le f sI co n k) hn⟩

set_option maxHeartbeats 4000000 in
set_option maxRecDepth 100000 in
theorem r_drift (l : Launch) (dd : va_G) (cyI cyJ cyZ : ClassId) (qm : Nat) (a : Nat → Nat) (th li fm sm : Int32) (ab be : Int64) (st al : Int32) (n : Nat) (hn : n ≤ 48) (tI sI fA gA : Nat → Int32) (hSo : ∀ i, i < n → ∀ co, co < 5 → ∃ k, k < 11 ∧ sI (5 * i + co) = nI k) (y f b t pt : Int32) (sz : Nat) : Met l yX5_drift wsX5_drift ({ frames := 2, cells := 0, slots := 0, locals := 60 } : Room) (va_Pc [.ref qm, .int y, .int f, .int b, .int t, .int pt] (Wr dd [(cyI, .int), (cyJ, .long), (cyZ, .boolean)] [(qm, .inr (5, mo a th (nI n) li fm sm ab be st al)), (a 2, .inl (cyI, 48, .inl tI)), (a 4, .inl (cyI, 240, .inl sI)), (a 13, .inl (cyI, 11, .inl fA)), (a 14, .inl (cyI, 11, .inl gA))] sz)) (va_Ql (S := Int32 × Int32 × Int32 × Int64 × Int64 × (Nat → Int32) × (Nat → Int32)) (fun (r : Int64) (u : Int32 × Int32 × Int32 × Int64 × Int64 × (Nat → Int32) × (Nat → Int32)) => (driftX n tI y f b t pt → u.1 = 1) ∧ (¬ driftX n tI y f b t pt → u.1 = 0 ∧ r = driftR n tI sI y f b t pt)) (WQ dd [(qm, .inr (5, mo a th (nI n) li fm sm ab be st al)), (a 2, .inl (cyI, 48, .inl tI)), (a 4, .inl (cyI, 240, .inl sI)), (a 13, .inl (cyI, 11, .inl fA)), (a 14, .inl (cyI, 11, .inl gA))] sz (fun u => [(qm, .inr (5, mo a u.1 (nI n) li u.2.1 u.2.2.1 u.2.2.2.1 u.2.2.2.2.1 st al)), (a 2, .inl (cyI, 48, .inl tI)), (a 4, .inl (cyI, 240, .inl sI)), (a 13, .inl (cyI, 11, .inl u.2.2.2.2.2.1)), (a 14, .inl (cyI, 11, .inl u.2.2.2.2.2.2))])) (va_A [(qm, .inr (5, mo a th (nI n) li fm sm ab be st al)), (a 2, .inl (cyI, 48, .inl tI)), (a 4, .inl (cyI, 240, .inl sI)), (a 13, .inl (cyI, 11, .inl fA)), (a 14, .inl (cyI, 11, .inl gA))] sz)) 0 0 (va_A [(qm, .inr (5, mo a th (nI n) li fm sm ab be st al)), (a 2, .inl (cyI, 48, .inl tI)), (a 4, .inl (cyI, 240, .inl sI)), (a 13, .inl (cyI, 11, .inl fA)), (a 14, .inl (cyI, 11, .inl gA))] sz) := by
  refine mkW (Qc := fun A => (va_Ql (S := Int32 × Int32 × Int32 × Int64 × Int64 × (Nat → Int32) × (Nat → Int32)) (fun (r : Int64) (u : Int32 × Int32 × Int32 × Int64 × Int64 × (Nat → Int32) × (Nat → Int32)) => (driftX n tI y f b t pt → u.1 = 1) ∧ (¬ driftX n tI y f b t pt → u.1 = 0 ∧ r = driftR n tI sI y f b t pt)) (WQ dd [(qm, .inr (5, mo a th (nI n) li fm sm ab be st al)), (a 2, .inl (cyI, 48, .inl tI)), (a 4, .inl (cyI, 240, .inl sI)), (a 13, .inl (cyI, 11, .inl fA)), (a 14, .inl (cyI, 11, .inl gA))] sz (fun u => [(qm, .inr (5, mo a u.1 (nI n) li u.2.1 u.2.2.1 u.2.2.2.1 u.2.2.2.2.1 st al)), (a 2, .inl (cyI, 48, .inl tI)), (a 4, .inl (cyI, 240, .inl sI)), (a 13, .inl (cyI, 11, .inl u.2.2.2.2.2.1)), (a 14, .inl (cyI, 11, .inl u.2.2.2.2.2.2))])) A)) (cc := cX5_drift) (maxL := 6) (by decide) rfl (Nat.le_of_ble_eq_true rfl) (lv0 := [(0, .ref qm), (1, .int y), (2, .int f), (3, .int b), (4, .int t), (5, .int pt)]) rfl ?_
  intro p e s m below meth c ls H A hx hb hr hml hown hlocks hts hmn hN hP hK hD hS hA hAe hl
  have hown : s.vm.findClass RX5 = some m.cls := hown
  have hiX5 : ∀ w ∈ wsX50, w ∈ wsX5_drift := by decide +kernel
  refine lv_aload_n hx hb dX5_drift_0 rfl (lv_at hl 0 rfl) ?_
  refine lv_iconst (v := 0) hx hb dX5_drift_1 (by decide) ?_
  refine va_put (D := dd) (ci := 5) (v := .int 0) (ty := .int) (C := RX5) (T := TX5) (N := 30) hx hb hts hiX5 tyX5 tyX5_ok nmX5 hown hK hP hD hS 0 rfl rfl 0 (by decide) (hts (.fieldLink RX5 75 "SliceDriftModel" "thrown" "I") (by decide +kernel)) (fun _ h9 => h9) rfl (by decide +kernel) rfl rfl (Nat.le_of_ble_eq_true rfl) dX5_drift_2 (fun H locs hP hD hS => ?_)
  have hP : va_P dd vwCl [(qm, .inr (5, mo a 0 (nI n) li fm sm ab be st al)), (a 2, .inl (cyI, 48, .inl tI)), (a 4, .inl (cyI, 240, .inl sI)), (a 13, .inl (cyI, 11, .inl fA)), (a 14, .inl (cyI, 11, .inl gA))] H := hP
  have hD : va_D A [(qm, .inr (5, mo a 0 (nI n) li fm sm ab be st al)), (a 2, .inl (cyI, 48, .inl tI)), (a 4, .inl (cyI, 240, .inl sI)), (a 13, .inl (cyI, 11, .inl fA)), (a 14, .inl (cyI, 11, .inl gA))] := hD
  refine lv_iload_n hx hb dX5_drift_5 rfl (lv_at hl 1 rfl) ?_
  refine lv_iconst (v := 0) hx hb dX5_drift_6 (by decide) ?_
  refine lv_iconst (v := 4) hx hb dX5_drift_7 (by decide) ?_
  refine clSi (As := [.int y, .int 0, .int 4]) (rest := []) ⟨hx, hb, hml, hown, hts⟩ (r_in l dd cyI cyJ cyZ y 0 4) gX5_drift_X5_in (n := 3) rfl ⟨rfl, rfl⟩ (by decide +kernel) ⟨Nat.le_of_ble_eq_true rfl, Nat.le_of_ble_eq_true rfl⟩ hN hK (hP.sub [] rfl) rfl hl.1 rfl (Nat.le_of_ble_eq_true rfl) dX5_drift_8 ⟨Nat.le_of_ble_eq_true rfl, Nat.le_of_ble_eq_true rfl⟩ (fun ck1 hck1 => ?_)
  refine lv_if_ne (tgt := 18) hx hb dX5_drift_11 (by decide) (fun qck1 => ?_) (fun qck1 => ?_)
  · have hck1 : inC y := hck1.elim (fun h => h.2) (fun h => absurd h.1 qck1)
    refine lv_iload_n hx hb dX5_drift_18 rfl (lv_at hl 2 rfl) ?_
    refine lv_iload_n hx hb dX5_drift_19 rfl (lv_at hl 3 rfl) ?_
    refine lv_iload hx hb dX5_drift_20 (lv_at hl 4 rfl) ?_
    refine clSi (As := [.int f, .int b, .int t]) (rest := []) ⟨hx, hb, hml, hown, hts⟩ (r_areWindows l dd cyI cyJ cyZ f b t) gX5_drift_X5_areWindows (n := 3) rfl ⟨rfl, rfl⟩ (by decide +kernel) ⟨Nat.le_of_ble_eq_true rfl, Nat.le_of_ble_eq_true rfl⟩ hN hK (hP.sub [] rfl) rfl hl.1 rfl (Nat.le_of_ble_eq_true rfl) dX5_drift_22 ⟨Nat.le_of_ble_eq_true rfl, Nat.le_of_ble_eq_true rfl⟩ (fun ck2 hck2 => ?_)
    refine lv_if_eq (tgt := 38) hx hb dX5_drift_25 (by decide) (fun qck2 => ?_) (fun qck2 => ?_)
    · have hck2 : ¬ (inW f b t) := hck2.elim (fun h => absurd (h.1.symm.trans qck2) (by decide)) (fun h => h.2)
      refine lv_ldc2 (v := (-1000002)) hx hb hown (hts (.constantLong RX5 117 (-1000002)) (by decide +kernel)) dX5_drift_38 ?_
      exact ewL (0, fm, sm, ab, be, fA, gA) hx hb hr hlocks hAe hS dX5_drift_41 (⟨fun x => absurd x.2.1.1 hck2, fun _ => ⟨rfl, by rw [driftR, if_pos hck1, if_neg (fun x : inW f b t ∧ inP pt => hck2 x.1)]⟩⟩) (hP.sub [0, 1, 2, 3, 4] rfl) (hD.sub [0, 1, 2, 3, 4] (by decide) rfl)
    · have hck2 : inW f b t := hck2.elim (fun h => h.2) (fun h => absurd h.1 qck2)
      refine lv_iload hx hb dX5_drift_28 (lv_at hl 5 rfl) ?_
      refine lv_iconst (v := 0) hx hb dX5_drift_30 (by decide) ?_
      refine lv_iconst (v := 1) hx hb dX5_drift_31 (by decide) ?_
      refine clSi (As := [.int pt, .int 0, .int 1]) (rest := []) ⟨hx, hb, hml, hown, hts⟩ (r_in l dd cyI cyJ cyZ pt 0 1) gX5_drift_X5_in (n := 3) rfl ⟨rfl, rfl⟩ (by decide +kernel) ⟨Nat.le_of_ble_eq_true rfl, Nat.le_of_ble_eq_true rfl⟩ hN hK (hP.sub [] rfl) rfl hl.1 rfl (Nat.le_of_ble_eq_true rfl) dX5_drift_32 ⟨Nat.le_of_ble_eq_true rfl, Nat.le_of_ble_eq_true rfl⟩ (fun ck3 hck3 => ?_)
      refine lv_if_ne (tgt := 42) hx hb dX5_drift_35 (by decide) (fun qck3 => ?_) (fun qck3 => ?_)
      · have hck3 : inP pt := hck3.elim (fun h => h.2) (fun h => absurd h.1 qck3)
        obtain ⟨co, hco, ey⟩ := inC_of hck1
        subst ey
        have ec : cl (nI co) = co := cl_nI (by omega)
        have hpt := inP_of hck3
        refine lv_aload_n hx hb dX5_drift_42 rfl (lv_at hl 0 rfl) ?_
        refine lv_iload_n hx hb dX5_drift_43 rfl (lv_at hl 1 rfl) ?_
        refine lv_iload_n hx hb dX5_drift_44 rfl (lv_at hl 2 rfl) ?_
        refine lv_iload_n hx hb dX5_drift_45 rfl (lv_at hl 3 rfl) ?_
        refine lv_iload_n hx hb dX5_drift_46 rfl (lv_at hl 3 rfl) ?_
        refine lv_iload hx hb dX5_drift_47 (lv_at hl 4 rfl) ?_
        refine clVwv (As := [.int (nI co), .int f, .int b, .int b, .int t]) (rest := []) (b := qm) (vc := (RX5, TX5, 30)) (wr := []) ⟨hx, hb, hml, hown, hts⟩ (fun sz => r_counts l dd cyI cyJ cyZ qm a 0 li fm sm ab be st al n hn tI sI fA gA co hco (fun i hi => hSo i hi co hco) f b b t sz) gX5_drift_X5_counts (ci := 5) rfl (q0 := 0) rfl (n := 5) rfl ⟨rfl, rfl⟩ (by decide +kernel) ⟨Nat.le_of_ble_eq_true rfl, Nat.le_of_ble_eq_true rfl⟩ hN hK hP hD hS hA [0, 1, 2, 3, 4] [] rfl rfl (by decide) rfl (by decide) (by decide) rfl hl.1 rfl (Nat.le_of_ble_eq_true rfl) dX5_drift_49 ⟨Nat.le_of_ble_eq_true rfl, Nat.le_of_ble_eq_true rfl⟩ (fun u1 H locs hu1 hP hD hS => ?_)
        have hP : va_P dd vwCl [(qm, .inr (5, mo a 0 (nI n) li (nI (cnt (win tI f b) n)) (nI (cnt (win tI b t) n)) ab be st al)), (a 2, .inl (cyI, 48, .inl tI)), (a 4, .inl (cyI, 240, .inl sI)), (a 13, .inl (cyI, 11, .inl u1.1)), (a 14, .inl (cyI, 11, .inl u1.2))] H := hP
        have hD : va_D A [(qm, .inr (5, mo a 0 (nI n) li (nI (cnt (win tI f b) n)) (nI (cnt (win tI b t) n)) ab be st al)), (a 2, .inl (cyI, 48, .inl tI)), (a 4, .inl (cyI, 240, .inl sI)), (a 13, .inl (cyI, 11, .inl u1.1)), (a 14, .inl (cyI, 11, .inl u1.2))] := hD
        have u1f := csb hn (fun k hk => (hu1 k hk).1)
        have u1g := csb hn (fun k hk => (hu1 k hk).2)
        refine lv_aload_n hx hb dX5_drift_52 rfl (lv_at hl 0 rfl) ?_
        have lF := Nat.le_trans (cnt_le (win tI f b) n) hn
        have lG := Nat.le_trans (cnt_le (win tI b t) n) hn
        refine clVwi (As := []) (rest := []) (b := qm) (vc := (RX5, TX5, 30)) (wr := [(a 2, .inl (cyI, 48, .inl tI)), (a 4, .inl (cyI, 240, .inl sI))]) ⟨hx, hb, hml, hown, hts⟩ (fun sz => r_drifts l dd cyI cyJ cyZ qm a 0 (nI n) li ab be st al (cnt (win tI f b) n) (cnt (win tI b t) n) lF lG (cs (win tI f b) sI co n) (cs (win tI b t) sI co n) u1.1 u1.2 u1f u1g sz) gX5_drift_X5_drifts (ci := 5) rfl (q0 := 0) rfl (n := 0) rfl ⟨rfl, rfl⟩ (by decide +kernel) ⟨Nat.le_of_ble_eq_true rfl, Nat.le_of_ble_eq_true rfl⟩ hN hK hP hD hS hA [0, 3, 4] [1, 2] rfl rfl (by decide) rfl (by decide) (by decide) rfl hl.1 rfl (Nat.le_of_ble_eq_true rfl) dX5_drift_53 ⟨Nat.le_of_ble_eq_true rfl, Nat.le_of_ble_eq_true rfl⟩ (fun b1 u2 H locs hb1 hP hD hS => ?_)
        have hP : va_P dd vwCl [(a 2, .inl (cyI, 48, .inl tI)), (a 4, .inl (cyI, 240, .inl sI)), (qm, .inr (5, mo a 0 (nI n) li (nI (cnt (win tI f b) n)) (nI (cnt (win tI b t) n)) u2.1 u2.2 st al)), (a 13, .inl (cyI, 11, .inl u1.1)), (a 14, .inl (cyI, 11, .inl u1.2))] H := hP
        have hD : va_D A [(a 2, .inl (cyI, 48, .inl tI)), (a 4, .inl (cyI, 240, .inl sI)), (qm, .inr (5, mo a 0 (nI n) li (nI (cnt (win tI f b) n)) (nI (cnt (win tI b t) n)) u2.1 u2.2 st al)), (a 13, .inl (cyI, 11, .inl u1.1)), (a 14, .inl (cyI, 11, .inl u1.2))] := hD
        refine lv_if_ne (tgt := 66) hx hb dX5_drift_56 (by decide) (fun q => ?_) (fun q => ?_)
        · obtain ⟨-, hnz, e2⟩ := hb1.resolve_left (fun h => q h.1)
          subst e2
          have hx0 : ¬ driftX n tI (nI co) f b t pt := fun x => hnz x.2.2
          have hds := dsu_le (win tI f b) (win tI b t) sI co hn 11
          have b3 : 2 * cnt (win tI f b) n * cnt (win tI b t) n ≤ 2 * 48 * 48 := Nat.mul_le_mul (Nat.mul_le_mul_left 2 lF) lG
          have b4 : 0 < 2 * cnt (win tI f b) n * cnt (win tI b t) n := Nat.mul_pos (Nat.mul_pos (by decide) (cnt_pos0.mpr (fun h => hnz (Or.inl h)))) (cnt_pos0.mpr (fun h => hnz (Or.inr h)))
          refine lv_aload_n hx hb dX5_drift_66 rfl (lv_at hl 0 rfl) ?_
          refine va_get (D := dd) (ci := 5) (C := RX5) (T := TX5) (N := 30) (v := .long (lN (dsg (cs (win tI f b) sI co n) (cs (win tI b t) sI co n) (cnt (win tI f b) n) (cnt (win tI b t) n) 11))) hx hb hts hiX5 hown hK hP 2 rfl rfl 17 (by decide) (hts (.fieldLink RX5 136 "SliceDriftModel" "above" "J") (by decide +kernel)) (fun _ h9 => h9) rfl dX5_drift_67 ?_
          refine tpl (show (lN (dsg (cs (win tI f b) sI co n) (cs (win tI b t) sI co n) (cnt (win tI f b) n) (cnt (win tI b t) n) 11) : Int64) = lI ((dsu (win tI f b) (win tI b t) sI co n 11 : Nat) : Int) from by rw [← dsu_dsg, lN_lI]) ?_
          refine lv_aload_n hx hb dX5_drift_70 rfl (lv_at hl 0 rfl) ?_
          refine va_get (D := dd) (ci := 5) (C := RX5) (T := TX5) (N := 30) (v := .long (lN (2 * cnt (win tI f b) n * cnt (win tI b t) n))) hx hb hts hiX5 hown hK hP 2 rfl rfl 18 (by decide) (hts (.fieldLink RX5 142 "SliceDriftModel" "below" "J") (by decide +kernel)) (fun _ h9 => h9) rfl dX5_drift_71 ?_
          refine lv_iload hx hb dX5_drift_74 (lv_at hl 5 rfl) ?_
          refine clSl (As := [.long (lI ((dsu (win tI f b) (win tI b t) sI co n 11 : Nat) : Int)), .long (lN (2 * cnt (win tI f b) n * cnt (win tI b t) n)), .int pt]) (rest := []) ⟨hx, hb, hml, hown, hts⟩ (r_part l dd cyI cyJ cyZ ((dsu (win tI f b) (win tI b t) sI co n 11 : Nat) : Int) (2 * cnt (win tI f b) n * cnt (win tI b t) n) pt (by omega) (by omega) b4 hpt) gX5_drift_X5_part (n := 3) rfl ⟨rfl, rfl⟩ (by decide +kernel) ⟨Nat.le_of_ble_eq_true rfl, Nat.le_of_ble_eq_true rfl⟩ hN hK (hP.sub [] rfl) rfl hl.1 rfl (Nat.le_of_ble_eq_true rfl) dX5_drift_76 ⟨Nat.le_of_ble_eq_true rfl, Nat.le_of_ble_eq_true rfl⟩ (fun rr hrr => ?_)
          exact ewL (0, nI (cnt (win tI f b) n), nI (cnt (win tI b t) n), lN (dsg (cs (win tI f b) sI co n) (cs (win tI b t) sI co n) (cnt (win tI f b) n) (cnt (win tI b t) n) 11), lN (2 * cnt (win tI f b) n * cnt (win tI b t) n), u1.1, u1.2) hx hb hr hlocks hAe hS dX5_drift_79 (⟨fun x => absurd x hx0, fun _ => ⟨rfl, by rw [hrr, driftR, if_pos (show inC (nI co) from hck1), if_pos (show inW f b t ∧ inP pt from ⟨hck2, hck3⟩), ec]⟩⟩) (hP.sub [2, 0, 1, 3, 4] rfl) (hD.sub [2, 0, 1, 3, 4] (by decide) rfl)
        · obtain ⟨-, hzz, e2⟩ := hb1.resolve_right (fun h => absurd (h.1.symm.trans q) (by decide))
          subst e2
          refine lv_aload_n hx hb dX5_drift_59 rfl (lv_at hl 0 rfl) ?_
          refine lv_iconst (v := 1) hx hb dX5_drift_60 (by decide) ?_
          refine va_put (D := dd) (ci := 5) (v := .int 1) (ty := .int) (C := RX5) (T := TX5) (N := 30) hx hb hts hiX5 tyX5 tyX5_ok nmX5 hown hK hP hD hS 2 rfl rfl 0 (by decide) (hts (.fieldLink RX5 75 "SliceDriftModel" "thrown" "I") (by decide +kernel)) (fun _ h9 => h9) rfl (by decide +kernel) rfl rfl (Nat.le_of_ble_eq_true rfl) dX5_drift_61 (fun H locs hP hD hS => ?_)
          have hP : va_P dd vwCl [(a 2, .inl (cyI, 48, .inl tI)), (a 4, .inl (cyI, 240, .inl sI)), (qm, .inr (5, mo a 1 (nI n) li (nI (cnt (win tI f b) n)) (nI (cnt (win tI b t) n)) ab be st al)), (a 13, .inl (cyI, 11, .inl u1.1)), (a 14, .inl (cyI, 11, .inl u1.2))] H := hP
          have hD : va_D A [(a 2, .inl (cyI, 48, .inl tI)), (a 4, .inl (cyI, 240, .inl sI)), (qm, .inr (5, mo a 1 (nI n) li (nI (cnt (win tI f b) n)) (nI (cnt (win tI b t) n)) ab be st al)), (a 13, .inl (cyI, 11, .inl u1.1)), (a 14, .inl (cyI, 11, .inl u1.2))] := hD
          refine lv_lconst (v := 0) hx hb dX5_drift_64 (by decide) ?_
          exact ewL (1, nI (cnt (win tI f b) n), nI (cnt (win tI b t) n), ab, be, u1.1, u1.2) hx hb hr hlocks hAe hS dX5_drift_65 (⟨fun _ => rfl, fun x => absurd (show driftX n tI (nI co) f b t pt from ⟨hck1, ⟨hck2, hck3⟩, hzz⟩) x⟩) (hP.sub [2, 0, 1, 3, 4] rfl) (hD.sub [2, 0, 1, 3, 4] (by decide) rfl)
      · have hck3 : ¬ (inP pt) := hck3.elim (fun h => absurd (h.1.symm.trans qck3) (by decide)) (fun h => h.2)
        refine lv_ldc2 (v := (-1000002)) hx hb hown (hts (.constantLong RX5 117 (-1000002)) (by decide +kernel)) dX5_drift_38 ?_
        exact ewL (0, fm, sm, ab, be, fA, gA) hx hb hr hlocks hAe hS dX5_drift_41 (⟨fun x => absurd x.2.1.2 hck3, fun _ => ⟨rfl, by rw [driftR, if_pos hck1, if_neg (fun x : inW f b t ∧ inP pt => hck3 x.2)]⟩⟩) (hP.sub [0, 1, 2, 3, 4] rfl) (hD.sub [0, 1, 2, 3, 4] (by decide) rfl)
  · have hck1 : ¬ (inC y) := hck1.elim (fun h => absurd (h.1.symm.trans qck1) (by decide)) (fun h => h.2)
    refine lv_ldc2 (v := (-1000001)) hx hb hown (hts (.constantLong RX5 115 (-1000001)) (by decide +kernel)) dX5_drift_14 ?_
    exact ewL (0, fm, sm, ab, be, fA, gA) hx hb hr hlocks hAe hS dX5_drift_17 (⟨fun x => absurd x.1 hck1, fun _ => ⟨rfl, by rw [driftR, if_neg hck1]⟩⟩) (hP.sub [0, 1, 2, 3, 4] rfl) (hD.sub [0, 1, 2, 3, 4] (by decide) rfl)

set_option maxHeartbeats 4000000 in
set_option maxRecDepth 100000 in
theorem r_rise (l : Launch) (dd : va_G) (cyI cyJ cyZ : ClassId) (qm : Nat) (a : Nat → Nat) (th li fm sm : Int32) (ab be : Int64) (st al : Int32) (n : Nat) (hn : n ≤ 48) (tI sI fA gA : Nat → Int32) (hSo : ∀ i, i < n → ∀ co, co < 5 → ∃ k, k < 11 ∧ sI (5 * i + co) = nI k) (y f b t : Int32) (sz : Nat) : Met l yX5_rise wsX5_rise ({ frames := 2, cells := 0, slots := 0, locals := 60 } : Room) (va_Pc [.ref qm, .int y, .int f, .int b, .int t] (Wr dd [(cyI, .int), (cyJ, .long), (cyZ, .boolean)] [(qm, .inr (5, mo a th (nI n) li fm sm ab be st al)), (a 2, .inl (cyI, 48, .inl tI)), (a 4, .inl (cyI, 240, .inl sI)), (a 13, .inl (cyI, 11, .inl fA)), (a 14, .inl (cyI, 11, .inl gA))] sz)) (va_Qi (S := Int32 × Int32 × Int32 × Int64 × Int64 × (Nat → Int32) × (Nat → Int32)) (fun (r : Int32) (u : Int32 × Int32 × Int32 × Int64 × Int64 × (Nat → Int32) × (Nat → Int32)) => u.1 = 0 ∧ r = riseR n tI sI y f b t) (WQ dd [(qm, .inr (5, mo a th (nI n) li fm sm ab be st al)), (a 2, .inl (cyI, 48, .inl tI)), (a 4, .inl (cyI, 240, .inl sI)), (a 13, .inl (cyI, 11, .inl fA)), (a 14, .inl (cyI, 11, .inl gA))] sz (fun u => [(qm, .inr (5, mo a u.1 (nI n) li u.2.1 u.2.2.1 u.2.2.2.1 u.2.2.2.2.1 st al)), (a 2, .inl (cyI, 48, .inl tI)), (a 4, .inl (cyI, 240, .inl sI)), (a 13, .inl (cyI, 11, .inl u.2.2.2.2.2.1)), (a 14, .inl (cyI, 11, .inl u.2.2.2.2.2.2))])) (va_A [(qm, .inr (5, mo a th (nI n) li fm sm ab be st al)), (a 2, .inl (cyI, 48, .inl tI)), (a 4, .inl (cyI, 240, .inl sI)), (a 13, .inl (cyI, 11, .inl fA)), (a 14, .inl (cyI, 11, .inl gA))] sz)) 0 0 (va_A [(qm, .inr (5, mo a th (nI n) li fm sm ab be st al)), (a 2, .inl (cyI, 48, .inl tI)), (a 4, .inl (cyI, 240, .inl sI)), (a 13, .inl (cyI, 11, .inl fA)), (a 14, .inl (cyI, 11, .inl gA))] sz) := by
  refine mkW (Qc := fun A => (va_Qi (S := Int32 × Int32 × Int32 × Int64 × Int64 × (Nat → Int32) × (Nat → Int32)) (fun (r : Int32) (u : Int32 × Int32 × Int32 × Int64 × Int64 × (Nat → Int32) × (Nat → Int32)) => u.1 = 0 ∧ r = riseR n tI sI y f b t) (WQ dd [(qm, .inr (5, mo a th (nI n) li fm sm ab be st al)), (a 2, .inl (cyI, 48, .inl tI)), (a 4, .inl (cyI, 240, .inl sI)), (a 13, .inl (cyI, 11, .inl fA)), (a 14, .inl (cyI, 11, .inl gA))] sz (fun u => [(qm, .inr (5, mo a u.1 (nI n) li u.2.1 u.2.2.1 u.2.2.2.1 u.2.2.2.2.1 st al)), (a 2, .inl (cyI, 48, .inl tI)), (a 4, .inl (cyI, 240, .inl sI)), (a 13, .inl (cyI, 11, .inl u.2.2.2.2.2.1)), (a 14, .inl (cyI, 11, .inl u.2.2.2.2.2.2))])) A)) (cc := cX5_rise) (maxL := 5) (by decide) rfl (Nat.le_of_ble_eq_true rfl) (lv0 := [(0, .ref qm), (1, .int y), (2, .int f), (3, .int b), (4, .int t)]) rfl ?_
  intro p e s m below meth c ls H A hx hb hr hml hown hlocks hts hmn hN hP hK hD hS hA hAe hl
  have hown : s.vm.findClass RX5 = some m.cls := hown
  have hiX5 : ∀ w ∈ wsX50, w ∈ wsX5_rise := by decide +kernel
  refine lv_aload_n hx hb dX5_rise_0 rfl (lv_at hl 0 rfl) ?_
  refine lv_iconst (v := 0) hx hb dX5_rise_1 (by decide) ?_
  refine va_put (D := dd) (ci := 5) (v := .int 0) (ty := .int) (C := RX5) (T := TX5) (N := 30) hx hb hts hiX5 tyX5 tyX5_ok nmX5 hown hK hP hD hS 0 rfl rfl 0 (by decide) (hts (.fieldLink RX5 75 "SliceDriftModel" "thrown" "I") (by decide +kernel)) (fun _ h9 => h9) rfl (by decide +kernel) rfl rfl (Nat.le_of_ble_eq_true rfl) dX5_rise_2 (fun H locs hP hD hS => ?_)
  have hP : va_P dd vwCl [(qm, .inr (5, mo a 0 (nI n) li fm sm ab be st al)), (a 2, .inl (cyI, 48, .inl tI)), (a 4, .inl (cyI, 240, .inl sI)), (a 13, .inl (cyI, 11, .inl fA)), (a 14, .inl (cyI, 11, .inl gA))] H := hP
  have hD : va_D A [(qm, .inr (5, mo a 0 (nI n) li fm sm ab be st al)), (a 2, .inl (cyI, 48, .inl tI)), (a 4, .inl (cyI, 240, .inl sI)), (a 13, .inl (cyI, 11, .inl fA)), (a 14, .inl (cyI, 11, .inl gA))] := hD
  refine lv_iload_n hx hb dX5_rise_5 rfl (lv_at hl 1 rfl) ?_
  refine lv_iconst (v := 0) hx hb dX5_rise_6 (by decide) ?_
  refine lv_iconst (v := 4) hx hb dX5_rise_7 (by decide) ?_
  refine clSi (As := [.int y, .int 0, .int 4]) (rest := []) ⟨hx, hb, hml, hown, hts⟩ (r_in l dd cyI cyJ cyZ y 0 4) gX5_rise_X5_in (n := 3) rfl ⟨rfl, rfl⟩ (by decide +kernel) ⟨Nat.le_of_ble_eq_true rfl, Nat.le_of_ble_eq_true rfl⟩ hN hK (hP.sub [] rfl) rfl hl.1 rfl (Nat.le_of_ble_eq_true rfl) dX5_rise_8 ⟨Nat.le_of_ble_eq_true rfl, Nat.le_of_ble_eq_true rfl⟩ (fun ck1 hck1 => ?_)
  refine lv_if_ne (tgt := 17) hx hb dX5_rise_11 (by decide) (fun qck1 => ?_) (fun qck1 => ?_)
  · have hck1 : inC y := hck1.elim (fun h => h.2) (fun h => absurd h.1 qck1)
    refine lv_iload_n hx hb dX5_rise_17 rfl (lv_at hl 2 rfl) ?_
    refine lv_iload_n hx hb dX5_rise_18 rfl (lv_at hl 3 rfl) ?_
    refine lv_iload hx hb dX5_rise_19 (lv_at hl 4 rfl) ?_
    refine clSi (As := [.int f, .int b, .int t]) (rest := []) ⟨hx, hb, hml, hown, hts⟩ (r_areWindows l dd cyI cyJ cyZ f b t) gX5_rise_X5_areWindows (n := 3) rfl ⟨rfl, rfl⟩ (by decide +kernel) ⟨Nat.le_of_ble_eq_true rfl, Nat.le_of_ble_eq_true rfl⟩ hN hK (hP.sub [] rfl) rfl hl.1 rfl (Nat.le_of_ble_eq_true rfl) dX5_rise_21 ⟨Nat.le_of_ble_eq_true rfl, Nat.le_of_ble_eq_true rfl⟩ (fun ck2 hck2 => ?_)
    refine lv_if_ne (tgt := 30) hx hb dX5_rise_24 (by decide) (fun qck2 => ?_) (fun qck2 => ?_)
    · have hck2 : inW f b t := hck2.elim (fun h => h.2) (fun h => absurd h.1 qck2)
      obtain ⟨co, hco, ey⟩ := inC_of hck1
      subst ey
      have ec : cl (nI co) = co := cl_nI (by omega)
      refine lv_aload_n hx hb dX5_rise_30 rfl (lv_at hl 0 rfl) ?_
      refine lv_iload_n hx hb dX5_rise_31 rfl (lv_at hl 1 rfl) ?_
      refine lv_iload_n hx hb dX5_rise_32 rfl (lv_at hl 2 rfl) ?_
      refine lv_iload_n hx hb dX5_rise_33 rfl (lv_at hl 3 rfl) ?_
      refine lv_iload_n hx hb dX5_rise_34 rfl (lv_at hl 3 rfl) ?_
      refine lv_iload hx hb dX5_rise_35 (lv_at hl 4 rfl) ?_
      refine clVwv (As := [.int (nI co), .int f, .int b, .int b, .int t]) (rest := []) (b := qm) (vc := (RX5, TX5, 30)) (wr := []) ⟨hx, hb, hml, hown, hts⟩ (fun sz => r_counts l dd cyI cyJ cyZ qm a 0 li fm sm ab be st al n hn tI sI fA gA co hco (fun i hi => hSo i hi co hco) f b b t sz) gX5_rise_X5_counts (ci := 5) rfl (q0 := 0) rfl (n := 5) rfl ⟨rfl, rfl⟩ (by decide +kernel) ⟨Nat.le_of_ble_eq_true rfl, Nat.le_of_ble_eq_true rfl⟩ hN hK hP hD hS hA [0, 1, 2, 3, 4] [] rfl rfl (by decide) rfl (by decide) (by decide) rfl hl.1 rfl (Nat.le_of_ble_eq_true rfl) dX5_rise_37 ⟨Nat.le_of_ble_eq_true rfl, Nat.le_of_ble_eq_true rfl⟩ (fun u1 H locs hu1 hP hD hS => ?_)
      have hP : va_P dd vwCl [(qm, .inr (5, mo a 0 (nI n) li (nI (cnt (win tI f b) n)) (nI (cnt (win tI b t) n)) ab be st al)), (a 2, .inl (cyI, 48, .inl tI)), (a 4, .inl (cyI, 240, .inl sI)), (a 13, .inl (cyI, 11, .inl u1.1)), (a 14, .inl (cyI, 11, .inl u1.2))] H := hP
      have hD : va_D A [(qm, .inr (5, mo a 0 (nI n) li (nI (cnt (win tI f b) n)) (nI (cnt (win tI b t) n)) ab be st al)), (a 2, .inl (cyI, 48, .inl tI)), (a 4, .inl (cyI, 240, .inl sI)), (a 13, .inl (cyI, 11, .inl u1.1)), (a 14, .inl (cyI, 11, .inl u1.2))] := hD
      have u1f := csb hn (fun k hk => (hu1 k hk).1)
      have u1g := csb hn (fun k hk => (hu1 k hk).2)
      refine lv_aload_n hx hb dX5_rise_40 rfl (lv_at hl 0 rfl) ?_
      refine clVi (As := []) (rest := []) (b := qm) (vc := (RX5, TX5, 30)) ⟨hx, hb, hml, hown, hts⟩ (r_riseOf l dd cyI cyJ cyZ qm a 0 (nI n) li (nI (cnt (win tI f b) n)) (nI (cnt (win tI b t) n)) ab be st al (cs (win tI f b) sI co n) (cs (win tI b t) sI co n) u1.1 u1.2 u1f u1g) gX5_rise_X5_riseOf (ci := 5) rfl (q0 := 0) rfl (n := 0) rfl ⟨rfl, rfl⟩ (by decide +kernel) ⟨Nat.le_of_ble_eq_true rfl, Nat.le_of_ble_eq_true rfl⟩ hN hK (hP.sub [0, 3, 4] rfl) rfl hl.1 rfl (Nat.le_of_ble_eq_true rfl) dX5_rise_41 ⟨Nat.le_of_ble_eq_true rfl, Nat.le_of_ble_eq_true rfl⟩ (fun rr hrr => ?_)
      exact ewI (0, nI (cnt (win tI f b) n), nI (cnt (win tI b t) n), ab, be, u1.1, u1.2) hx hb hr hlocks hAe hS dX5_rise_44 (⟨rfl, by rw [hrr, riseR, if_pos (show inC (nI co) from hck1), if_pos hck2, ec]⟩) (hP.sub [0, 1, 2, 3, 4] rfl) (hD.sub [0, 1, 2, 3, 4] (by decide) rfl)
    · have hck2 : ¬ (inW f b t) := hck2.elim (fun h => absurd (h.1.symm.trans qck2) (by decide)) (fun h => h.2)
      refine lv_ldc (v := (-1000002)) hx hb hown (hts (.constant RX5 83 (-1000002)) (by decide +kernel)) dX5_rise_27 ?_
      exact ewI (0, fm, sm, ab, be, fA, gA) hx hb hr hlocks hAe hS dX5_rise_29 (⟨rfl, by rw [riseR, if_pos hck1, if_neg hck2]⟩) (hP.sub [0, 1, 2, 3, 4] rfl) (hD.sub [0, 1, 2, 3, 4] (by decide) rfl)
  · have hck1 : ¬ (inC y) := hck1.elim (fun h => absurd (h.1.symm.trans qck1) (by decide)) (fun h => h.2)
    refine lv_ldc (v := (-1000001)) hx hb hown (hts (.constant RX5 88 (-1000001)) (by decide +kernel)) dX5_rise_14 ?_
    exact ewI (0, fm, sm, ab, be, fA, gA) hx hb hr hlocks hAe hS dX5_rise_16 (⟨rfl, by rw [riseR, if_neg hck1]⟩) (hP.sub [0, 1, 2, 3, 4] rfl) (hD.sub [0, 1, 2, 3, 4] (by decide) rfl)
