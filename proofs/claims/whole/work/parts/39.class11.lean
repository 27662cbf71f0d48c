set_option maxHeartbeats 4000000 in
set_option maxRecDepth 100000 in
theorem x_gap (l : Launch) (hlt0 : l.stackTraces = false) (dd : va_G) (cyI cyJ cyZ : ClassId) (qx ql qk qa : Nat) (qr qt qh n : Nat) (hi : Int64) (tI : Nat → Int32) (hv : Nat → Int64) (hI sI : Nat → Int32) (hR : RowsOk n hI sI hi hv) (y k o pt : Int32) (sz : Nat) : vx_Met l yX4_gap wsX4_gap ({ frames := 6, cells := 1, slots := 6, locals := 100 } : Room) (va_Pc [.ref qx, .int y, .int k, .int o, .int pt] (Xr dd [(cyI, .int), (cyJ, .long), (cyZ, .boolean)] [(qx, .inr (4, [.ref qr, .ref ql, .ref qk, .ref qa])), (qr, .inr (2, [.int (nI n), .long hi, .ref qt, .ref qh])), (qt, .inl (cyI, 48, .inl tI)), (qh, .inl (cyJ, 55, .inr (.inl hv)))] sz)) (xQl sz (fun r => ¬ gapX n sI y k o pt ∧ r = gapR n hI sI y k o pt)) (xXC sz (gapX n sI y k o pt)) 1 6 (fun q => sz ≤ q) := by
  refine mkX (cc := cX4_gap) (maxL := 13) (by decide) rfl (Nat.le_of_ble_eq_true rfl) (lv0 := [(0, .ref qx), (1, .int y), (2, .int k), (3, .int o), (4, .int pt)]) rfl ?_
  intro p e s m below meth c ls hx hb hr hml hown hlocks hts htab hN hXW hP hK hsz hl
  have hown : s.vm.findClass RX4 = some m.cls := hown
  have hiX2 : ∀ w ∈ wsX20, w ∈ wsX4_gap := by decide +kernel
  have hiX4 : ∀ w ∈ wsX40, w ∈ wsX4_gap := by decide +kernel
  have hn := hR.1
  have hH := hR.2.2.1
  have hi9 := hR.2.1
  refine lv_iload_n hx hb dX4_gap_0 rfl (lv_at hl 1 rfl) ?_
  refine clSi (As := [.int y]) (rest := []) ⟨hx, hb, hml, hown, hts⟩ (c_isColumn l dd cyI cyJ cyZ y) gX4_gap_X4_isColumn (n := 1) rfl ⟨rfl, rfl⟩ (by decide +kernel) ⟨Nat.le_of_ble_eq_true rfl, Nat.le_of_ble_eq_true rfl⟩ hN hK (hP.sub [] rfl) rfl hl.1 rfl (Nat.le_of_ble_eq_true rfl) dX4_gap_1 ⟨Nat.le_of_ble_eq_true rfl, Nat.le_of_ble_eq_true rfl⟩ (fun ck1 hck1 => ?_)
  refine lv_if_ne (tgt := 11) hx hb dX4_gap_4 (by decide) (fun qck1 => ?_) (fun qck1 => ?_)
  · have hck1 : inC y := hck1.elim (fun h => h.2) (fun h => absurd h.1 qck1)
    refine lv_iload_n hx hb dX4_gap_11 rfl (lv_at hl 2 rfl) ?_
    refine clSi (As := [.int k]) (rest := []) ⟨hx, hb, hml, hown, hts⟩ (c_isSort l dd cyI cyJ cyZ k) gX4_gap_X4_isSort (n := 1) rfl ⟨rfl, rfl⟩ (by decide +kernel) ⟨Nat.le_of_ble_eq_true rfl, Nat.le_of_ble_eq_true rfl⟩ hN hK (hP.sub [] rfl) rfl hl.1 rfl (Nat.le_of_ble_eq_true rfl) dX4_gap_12 ⟨Nat.le_of_ble_eq_true rfl, Nat.le_of_ble_eq_true rfl⟩ (fun ck2 hck2 => ?_)
    refine lv_if_eq (tgt := 33) hx hb dX4_gap_15 (by decide) (fun qck2 => ?_) (fun qck2 => ?_)
    · have hck2 : ¬ (inS k) := hck2.elim (fun h => absurd (h.1.symm.trans qck2) (by decide)) (fun h => h.2)
      refine lv_ldc2 (v := (-1000002)) hx hb hown (hts (.constantLong RX4 114 (-1000002)) (by decide +kernel)) dX4_gap_33 ?_
      exact exL hx hb hr hlocks dX4_gap_36 (⟨fun x => hck2 x.2.1.1, by rw [gapR, if_pos hck1, if_neg (fun x : gapOk y k o pt => hck2 x.1)]⟩)
    · have hck2 : inS k := hck2.elim (fun h => h.2) (fun h => absurd h.1 qck2)
      refine lv_iload_n hx hb dX4_gap_18 rfl (lv_at hl 3 rfl) ?_
      refine clSi (As := [.int o]) (rest := []) ⟨hx, hb, hml, hown, hts⟩ (c_isSort l dd cyI cyJ cyZ o) gX4_gap_X4_isSort (n := 1) rfl ⟨rfl, rfl⟩ (by decide +kernel) ⟨Nat.le_of_ble_eq_true rfl, Nat.le_of_ble_eq_true rfl⟩ hN hK (hP.sub [] rfl) rfl hl.1 rfl (Nat.le_of_ble_eq_true rfl) dX4_gap_19 ⟨Nat.le_of_ble_eq_true rfl, Nat.le_of_ble_eq_true rfl⟩ (fun ck3 hck3 => ?_)
      refine lv_if_eq (tgt := 33) hx hb dX4_gap_22 (by decide) (fun qck3 => ?_) (fun qck3 => ?_)
      · have hck3 : ¬ (inS o) := hck3.elim (fun h => absurd (h.1.symm.trans qck3) (by decide)) (fun h => h.2)
        refine lv_ldc2 (v := (-1000002)) hx hb hown (hts (.constantLong RX4 114 (-1000002)) (by decide +kernel)) dX4_gap_33 ?_
        exact exL hx hb hr hlocks dX4_gap_36 (⟨fun x => hck3 x.2.1.2.1, by rw [gapR, if_pos hck1, if_neg (fun x : gapOk y k o pt => hck3 x.2.1)]⟩)
      · have hck3 : inS o := hck3.elim (fun h => h.2) (fun h => absurd h.1 qck3)
        refine lv_iload hx hb dX4_gap_25 (lv_at hl 4 rfl) ?_
        refine clSi (As := [.int pt]) (rest := []) ⟨hx, hb, hml, hown, hts⟩ (c_isPart l dd cyI cyJ cyZ pt) gX4_gap_X4_isPart (n := 1) rfl ⟨rfl, rfl⟩ (by decide +kernel) ⟨Nat.le_of_ble_eq_true rfl, Nat.le_of_ble_eq_true rfl⟩ hN hK (hP.sub [] rfl) rfl hl.1 rfl (Nat.le_of_ble_eq_true rfl) dX4_gap_27 ⟨Nat.le_of_ble_eq_true rfl, Nat.le_of_ble_eq_true rfl⟩ (fun ck4 hck4 => ?_)
        refine lv_if_ne (tgt := 37) hx hb dX4_gap_30 (by decide) (fun qck4 => ?_) (fun qck4 => ?_)
        · have hck4 : inP pt := hck4.elim (fun h => h.2) (fun h => absurd h.1 qck4)
          obtain ⟨co, hco, ey⟩ := inC_of hck1
          obtain ⟨k1, hk1, ek⟩ := inS_of hck2
          obtain ⟨k2, hk2, eo⟩ := inS_of hck3
          subst ey
          subst ek
          subst eo
          have ec : cl (nI co) = co := cl_nI (by omega)
          have e1 : cl (nI k1) = k1 := cl_nI (by omega)
          have e2 : cl (nI k2) = k2 := cl_nI (by omega)
          refine lv_aload_n hx hb dX4_gap_37 rfl (lv_at hl 0 rfl) ?_
          refine va_get (D := dd) (ci := 4) (C := RX4) (T := TX4) (N := 4) (v := .ref qr) hx hb hts hiX4 hown hK hP 0 rfl rfl 0 (by decide) (hts (.fieldLink RX4 10 "SliceDrift" "rows" "LSliceDrift$Rows;") (by decide +kernel)) (fun _ h9 => h9) rfl dX4_gap_38 ?_
          refine lv_iload_n hx hb dX4_gap_41 rfl (lv_at hl 1 rfl) ?_
          refine lv_iload_n hx hb dX4_gap_42 rfl (lv_at hl 2 rfl) ?_
          refine clVl (As := [.int (nI co), .int (nI k1)]) (rest := []) (b := qr) (vc := (RX2, TX2, 4)) ⟨hx, hb, hml, hown, hts⟩ (c_withSort l dd cyI cyJ cyZ qr qt qh n hi tI hv co k1 hco hk1) gX4_gap_X2_withSort (ci := 2) rfl (q0 := 0) rfl (n := 2) rfl ⟨rfl, rfl⟩ (by decide +kernel) ⟨Nat.le_of_ble_eq_true rfl, Nat.le_of_ble_eq_true rfl⟩ hN hK (hP.sub [1, 2, 3] rfl) rfl hl.1 rfl (Nat.le_of_ble_eq_true rfl) dX4_gap_43 ⟨Nat.le_of_ble_eq_true rfl, Nat.le_of_ble_eq_true rfl⟩ (fun r1 hr1 => ?_)
          rw [hH co hco k1 hk1] at hr1
          subst hr1
          refine lv_lstore (lv' := [(5, .long (lN (mk (hav sI co k1) n))), (0, .ref qx), (1, .int (nI co)), (2, .int (nI k1)), (3, .int (nI k2)), (4, .int pt)]) hx hb dX4_gap_46 hl (by decide) rfl (fun ls hl => ?_)
          refine lv_aload_n hx hb dX4_gap_48 rfl (lv_at hl 1 rfl) ?_
          refine va_get (D := dd) (ci := 4) (C := RX4) (T := TX4) (N := 4) (v := .ref qr) hx hb hts hiX4 hown hK hP 0 rfl rfl 0 (by decide) (hts (.fieldLink RX4 10 "SliceDrift" "rows" "LSliceDrift$Rows;") (by decide +kernel)) (fun _ h9 => h9) rfl dX4_gap_49 ?_
          refine lv_iload_n hx hb dX4_gap_52 rfl (lv_at hl 2 rfl) ?_
          refine lv_iload_n hx hb dX4_gap_53 rfl (lv_at hl 4 rfl) ?_
          refine clVl (As := [.int (nI co), .int (nI k2)]) (rest := []) (b := qr) (vc := (RX2, TX2, 4)) ⟨hx, hb, hml, hown, hts⟩ (c_withSort l dd cyI cyJ cyZ qr qt qh n hi tI hv co k2 hco hk2) gX4_gap_X2_withSort (ci := 2) rfl (q0 := 0) rfl (n := 2) rfl ⟨rfl, rfl⟩ (by decide +kernel) ⟨Nat.le_of_ble_eq_true rfl, Nat.le_of_ble_eq_true rfl⟩ hN hK (hP.sub [1, 2, 3] rfl) rfl hl.1 rfl (Nat.le_of_ble_eq_true rfl) dX4_gap_54 ⟨Nat.le_of_ble_eq_true rfl, Nat.le_of_ble_eq_true rfl⟩ (fun r2 hr2 => ?_)
          rw [hH co hco k2 hk2] at hr2
          subst hr2
          refine lv_lstore (lv' := [(7, .long (lN (mk (hav sI co k2) n))), (5, .long (lN (mk (hav sI co k1) n))), (0, .ref qx), (1, .int (nI co)), (2, .int (nI k1)), (3, .int (nI k2)), (4, .int pt)]) hx hb dX4_gap_57 hl (by decide) rfl (fun ls hl => ?_)
          refine lv_lload hx hb dX4_gap_59 (lv_at hl 1 rfl) ?_
          refine lv_lconst (v := 0) hx hb dX4_gap_61 (by decide) ?_
          refine W.lcmp hx hb dX4_gap_62 ?_
          refine lv_if_eq (tgt := 73) hx hb dX4_gap_63 (by decide) (fun q1 => ?_) (fun q1 => ?_)
          · obtain ⟨sa0, sa1, sa2, ss0, ss1, ss2⟩ := hXW.2.1
            exact exT hx hb hlt0 hlocks hown (hts (.classLink RX4 133 AEx) (by decide +kernel)) (hts (.initialized AEx) (by decide +kernel)) (fun w hw => hts w (List.mem_cons_of_mem _ (List.mem_append_right _ hw))) hXW htab (hl.1.trans hml.symm) ss0 dX4_gap_73 dX4_gap_76 dX4_gap_77 dX4_gap_79 dX4_gap_82 ⟨by decide, by decide, by decide, by decide⟩ (⟨hck1, ⟨hck2, hck3, hck4⟩, by rw [ec, e1, e2]; exact Or.inl ((lN0 (mk62 _ hn)).mp q1)⟩)
          · have z1 : mk (hav sI co k1) n ≠ 0 := fun h => q1 ((lN0 (mk62 _ hn)).mpr h)
            refine lv_lload hx hb dX4_gap_66 (lv_at hl 0 rfl) ?_
            refine lv_lconst (v := 0) hx hb dX4_gap_68 (by decide) ?_
            refine W.lcmp hx hb dX4_gap_69 ?_
            refine lv_if_ne (tgt := 83) hx hb dX4_gap_70 (by decide) (fun q2 => ?_) (fun q2 => ?_)
            · have z2 : mk (hav sI co k2) n ≠ 0 := fun h => q2 ((lN0 (mk62 _ hn)).mpr h)
              have c1 : cr sI n co k1 ≠ 0 := fun h => z1 (mk0_cnt.mpr h)
              have c2 : cr sI n co k2 ≠ 0 := fun h => z2 (mk0_cnt.mpr h)
              have hx0 : ¬ gapX n sI (nI co) (nI k1) (nI k2) pt := fun x => by have := x.2.2; rw [ec, e1, e2] at this; exact this.elim z1 z2
              have l1 := cr_le sI n co k1
              have l2 := cr_le sI n co k2
              have l3 := ch_le hI sI n co k1
              have l4 := ch_le hI sI n co k2
              have b1 := c48 hn l3 l2
              have b2 := c48 hn l4 l1
              have b3 := c48 hn l1 l2
              have b4 : 0 < cr sI n co k1 * cr sI n co k2 := Nat.mul_pos (by omega) (by omega)
              refine lv_lload hx hb dX4_gap_83 (lv_at hl 1 rfl) ?_
              refine clSi (As := [.long (lN (mk (hav sI co k1) n))]) (rest := []) ⟨hx, hb, hml, hown, hts⟩ (c_bitCount l dd cyI cyJ cyZ (mk (hav sI co k1) n) (mk64 _ hn)) gX4_gap_J13_bitCount_95d88 (n := 1) rfl ⟨rfl, rfl⟩ (by decide +kernel) ⟨Nat.le_of_ble_eq_true rfl, Nat.le_of_ble_eq_true rfl⟩ hN hK (hP.sub [] rfl) rfl hl.1 rfl (Nat.le_of_ble_eq_true rfl) dX4_gap_85 ⟨Nat.le_of_ble_eq_true rfl, Nat.le_of_ble_eq_true rfl⟩ (fun r3 hr3 => ?_)
              have hr3 : r3 = nI (cnt (hav sI co k1) n) := by rw [hr3, cnt_mk _ (Nat.le_trans hn (by decide))]
              subst hr3
              refine lv_istore (lv' := [(9, .int (nI (cr sI n co k1))), (7, .long (lN (mk (hav sI co k2) n))), (5, .long (lN (mk (hav sI co k1) n))), (0, .ref qx), (1, .int (nI co)), (2, .int (nI k1)), (3, .int (nI k2)), (4, .int pt)]) hx hb dX4_gap_88 hl (by decide) rfl (fun ls hl => ?_)
              refine lv_lload hx hb dX4_gap_90 (lv_at hl 1 rfl) ?_
              refine clSi (As := [.long (lN (mk (hav sI co k2) n))]) (rest := []) ⟨hx, hb, hml, hown, hts⟩ (c_bitCount l dd cyI cyJ cyZ (mk (hav sI co k2) n) (mk64 _ hn)) gX4_gap_J13_bitCount_95d88 (n := 1) rfl ⟨rfl, rfl⟩ (by decide +kernel) ⟨Nat.le_of_ble_eq_true rfl, Nat.le_of_ble_eq_true rfl⟩ hN hK (hP.sub [] rfl) rfl hl.1 rfl (Nat.le_of_ble_eq_true rfl) dX4_gap_92 ⟨Nat.le_of_ble_eq_true rfl, Nat.le_of_ble_eq_true rfl⟩ (fun r4 hr4 => ?_)
              have hr4 : r4 = nI (cnt (hav sI co k2) n) := by rw [hr4, cnt_mk _ (Nat.le_trans hn (by decide))]
              subst hr4
              refine lv_istore (lv' := [(10, .int (nI (cr sI n co k2))), (9, .int (nI (cr sI n co k1))), (7, .long (lN (mk (hav sI co k2) n))), (5, .long (lN (mk (hav sI co k1) n))), (0, .ref qx), (1, .int (nI co)), (2, .int (nI k1)), (3, .int (nI k2)), (4, .int pt)]) hx hb dX4_gap_95 hl (by decide) rfl (fun ls hl => ?_)
              refine lv_lload hx hb dX4_gap_97 (lv_at hl 3 rfl) ?_
              refine lv_aload_n hx hb dX4_gap_99 rfl (lv_at hl 4 rfl) ?_
              refine va_get (D := dd) (ci := 4) (C := RX4) (T := TX4) (N := 4) (v := .ref qr) hx hb hts hiX4 hown hK hP 0 rfl rfl 0 (by decide) (hts (.fieldLink RX4 10 "SliceDrift" "rows" "LSliceDrift$Rows;") (by decide +kernel)) (fun _ h9 => h9) rfl dX4_gap_100 ?_
              refine va_getN (D := dd) (ci := 2) (C := RX2) (T := TX2) (N := 4) (v := .long hi) hx hb hts hiX2 hown hK hP 1 rfl rfl 1 (by decide) (hN.f 10 rfl) (fun _ h9 => h9) rfl dX4_gap_103 ?_
              refine tpl (show (hi : Int64) = lN (mk (hit hI) n) from hi9) ?_
              refine lv_land hx hb dX4_gap_106 ?_
              refine tpl (show ((lN (mk (hav sI co k1) n)) &&& (lN (mk (hit hI) n)) : Int64) = lN (mk (fun i => hav sI co k1 i && hit hI i) n) from lN_and hn) ?_
              refine clSi (As := [.long (lN (mk (fun i => hav sI co k1 i && hit hI i) n))]) (rest := []) ⟨hx, hb, hml, hown, hts⟩ (c_bitCount l dd cyI cyJ cyZ (mk (fun i => hav sI co k1 i && hit hI i) n) (mk64 _ hn)) gX4_gap_J13_bitCount_95d88 (n := 1) rfl ⟨rfl, rfl⟩ (by decide +kernel) ⟨Nat.le_of_ble_eq_true rfl, Nat.le_of_ble_eq_true rfl⟩ hN hK (hP.sub [] rfl) rfl hl.1 rfl (Nat.le_of_ble_eq_true rfl) dX4_gap_107 ⟨Nat.le_of_ble_eq_true rfl, Nat.le_of_ble_eq_true rfl⟩ (fun r5 hr5 => ?_)
              have hr5 : r5 = nI (cnt (fun i => hav sI co k1 i && hit hI i) n) := by rw [hr5, cnt_mk _ (Nat.le_trans hn (by decide))]
              subst hr5
              refine lv_istore (lv' := [(11, .int (nI (ch hI sI n co k1))), (10, .int (nI (cr sI n co k2))), (9, .int (nI (cr sI n co k1))), (7, .long (lN (mk (hav sI co k2) n))), (5, .long (lN (mk (hav sI co k1) n))), (0, .ref qx), (1, .int (nI co)), (2, .int (nI k1)), (3, .int (nI k2)), (4, .int pt)]) hx hb dX4_gap_110 hl (by decide) rfl (fun ls hl => ?_)
              refine lv_lload hx hb dX4_gap_112 (lv_at hl 3 rfl) ?_
              refine lv_aload_n hx hb dX4_gap_114 rfl (lv_at hl 5 rfl) ?_
              refine va_get (D := dd) (ci := 4) (C := RX4) (T := TX4) (N := 4) (v := .ref qr) hx hb hts hiX4 hown hK hP 0 rfl rfl 0 (by decide) (hts (.fieldLink RX4 10 "SliceDrift" "rows" "LSliceDrift$Rows;") (by decide +kernel)) (fun _ h9 => h9) rfl dX4_gap_115 ?_
              refine va_getN (D := dd) (ci := 2) (C := RX2) (T := TX2) (N := 4) (v := .long hi) hx hb hts hiX2 hown hK hP 1 rfl rfl 1 (by decide) (hN.f 10 rfl) (fun _ h9 => h9) rfl dX4_gap_118 ?_
              refine tpl (show (hi : Int64) = lN (mk (hit hI) n) from hi9) ?_
              refine lv_land hx hb dX4_gap_121 ?_
              refine tpl (show ((lN (mk (hav sI co k2) n)) &&& (lN (mk (hit hI) n)) : Int64) = lN (mk (fun i => hav sI co k2 i && hit hI i) n) from lN_and hn) ?_
              refine clSi (As := [.long (lN (mk (fun i => hav sI co k2 i && hit hI i) n))]) (rest := []) ⟨hx, hb, hml, hown, hts⟩ (c_bitCount l dd cyI cyJ cyZ (mk (fun i => hav sI co k2 i && hit hI i) n) (mk64 _ hn)) gX4_gap_J13_bitCount_95d88 (n := 1) rfl ⟨rfl, rfl⟩ (by decide +kernel) ⟨Nat.le_of_ble_eq_true rfl, Nat.le_of_ble_eq_true rfl⟩ hN hK (hP.sub [] rfl) rfl hl.1 rfl (Nat.le_of_ble_eq_true rfl) dX4_gap_122 ⟨Nat.le_of_ble_eq_true rfl, Nat.le_of_ble_eq_true rfl⟩ (fun r6 hr6 => ?_)
              have hr6 : r6 = nI (cnt (fun i => hav sI co k2 i && hit hI i) n) := by rw [hr6, cnt_mk _ (Nat.le_trans hn (by decide))]
              subst hr6
              refine lv_istore (lv' := [(12, .int (nI (ch hI sI n co k2))), (11, .int (nI (ch hI sI n co k1))), (10, .int (nI (cr sI n co k2))), (9, .int (nI (cr sI n co k1))), (7, .long (lN (mk (hav sI co k2) n))), (5, .long (lN (mk (hav sI co k1) n))), (0, .ref qx), (1, .int (nI co)), (2, .int (nI k1)), (3, .int (nI k2)), (4, .int pt)]) hx hb dX4_gap_125 hl (by decide) rfl (fun ls hl => ?_)
              refine lv_iload hx hb dX4_gap_127 (lv_at hl 1 rfl) ?_
              refine lv_iload hx hb dX4_gap_129 (lv_at hl 2 rfl) ?_
              refine lv_imul hx hb dX4_gap_131 ?_
              refine tpi (show ((nI (ch hI sI n co k1)) * (nI (cr sI n co k2)) : Int32) = nI (ch hI sI n co k1 * cr sI n co k2) from pk_mul _ _) ?_
              refine lv_iload hx hb dX4_gap_132 (lv_at hl 0 rfl) ?_
              refine lv_iload hx hb dX4_gap_134 (lv_at hl 3 rfl) ?_
              refine lv_imul hx hb dX4_gap_136 ?_
              refine tpi (show ((nI (ch hI sI n co k2)) * (nI (cr sI n co k1)) : Int32) = nI (ch hI sI n co k2 * cr sI n co k1) from pk_mul _ _) ?_
              refine lv_isub hx hb dX4_gap_137 ?_
              refine lv_i2l hx hb dX4_gap_138 rfl ?_
              refine tpl (show (((nI (ch hI sI n co k1 * cr sI n co k2)) - (nI (ch hI sI n co k2 * cr sI n co k1))).toInt64 : Int64) = lI (((ch hI sI n co k1 * cr sI n co k2 : Nat) : Int) - ((ch hI sI n co k2 * cr sI n co k1 : Nat) : Int)) from by rw [isub_of, iI_l (by omega)]) ?_
              refine lv_iload hx hb dX4_gap_139 (lv_at hl 3 rfl) ?_
              refine lv_iload hx hb dX4_gap_141 (lv_at hl 2 rfl) ?_
              refine lv_imul hx hb dX4_gap_143 ?_
              refine tpi (show ((nI (cr sI n co k1)) * (nI (cr sI n co k2)) : Int32) = nI (cr sI n co k1 * cr sI n co k2) from pk_mul _ _) ?_
              refine lv_i2l hx hb dX4_gap_144 rfl ?_
              refine tpl (show ((nI (cr sI n co k1 * cr sI n co k2)).toInt64 : Int64) = lI ((cr sI n co k1 * cr sI n co k2 : Nat) : Int) from by rw [nI_l (by omega), lN_lI]) ?_
              refine lv_iload hx hb dX4_gap_145 (lv_at hl 10 rfl) ?_
              refine clSl (As := [.long (lI (((ch hI sI n co k1 * cr sI n co k2 : Nat) : Int) - ((ch hI sI n co k2 * cr sI n co k1 : Nat) : Int))), .long (lI ((cr sI n co k1 * cr sI n co k2 : Nat) : Int)), .int pt]) (rest := []) ⟨hx, hb, hml, hown, hts⟩ (c_lowest l dd cyI cyJ cyZ (((ch hI sI n co k1 * cr sI n co k2 : Nat) : Int) - ((ch hI sI n co k2 * cr sI n co k1 : Nat) : Int)) ((cr sI n co k1 * cr sI n co k2 : Nat) : Int) pt (by omega) (by omega) (by omega)) gX4_gap_X4_lowest (n := 3) rfl ⟨rfl, rfl⟩ (by decide +kernel) ⟨Nat.le_of_ble_eq_true rfl, Nat.le_of_ble_eq_true rfl⟩ hN hK (hP.sub [] rfl) rfl hl.1 rfl (Nat.le_of_ble_eq_true rfl) dX4_gap_147 ⟨Nat.le_of_ble_eq_true rfl, Nat.le_of_ble_eq_true rfl⟩ (fun rr hrr => ?_)
              exact exL hx hb hr hlocks dX4_gap_150 (⟨hx0, by rw [hrr, gapR, if_pos (show inC (nI co) from hck1), if_pos (show gapOk (nI co) (nI k1) (nI k2) pt from ⟨hck2, hck3, hck4⟩), ec, e1, e2]⟩)
            · obtain ⟨sa0, sa1, sa2, ss0, ss1, ss2⟩ := hXW.2.1
              exact exT hx hb hlt0 hlocks hown (hts (.classLink RX4 133 AEx) (by decide +kernel)) (hts (.initialized AEx) (by decide +kernel)) (fun w hw => hts w (List.mem_cons_of_mem _ (List.mem_append_right _ hw))) hXW htab (hl.1.trans hml.symm) ss0 dX4_gap_73 dX4_gap_76 dX4_gap_77 dX4_gap_79 dX4_gap_82 ⟨by decide, by decide, by decide, by decide⟩ (⟨hck1, ⟨hck2, hck3, hck4⟩, by rw [ec, e1, e2]; exact Or.inr ((lN0 (mk62 _ hn)).mp q2)⟩)
        · have hck4 : ¬ (inP pt) := hck4.elim (fun h => absurd (h.1.symm.trans qck4) (by decide)) (fun h => h.2)
          refine lv_ldc2 (v := (-1000002)) hx hb hown (hts (.constantLong RX4 114 (-1000002)) (by decide +kernel)) dX4_gap_33 ?_
          exact exL hx hb hr hlocks dX4_gap_36 (⟨fun x => hck4 x.2.1.2.2, by rw [gapR, if_pos hck1, if_neg (fun x : gapOk y k o pt => hck4 x.2.2)]⟩)
  · have hck1 : ¬ (inC y) := hck1.elim (fun h => absurd (h.1.symm.trans qck1) (by decide)) (fun h => h.2)
    refine lv_ldc2 (v := (-1000001)) hx hb hown (hts (.constantLong RX4 109 (-1000001)) (by decide +kernel)) dX4_gap_7 ?_
    exact exL hx hb hr hlocks dX4_gap_10 (⟨fun x => hck1 x.1, by rw [gapR, if_neg hck1]⟩)

set_option maxHeartbeats 4000000 in
set_option maxRecDepth 100000 in
theorem x_drift (l : Launch) (hlt0 : l.stackTraces = false) (dd : va_G) (cyI cyJ cyZ : ClassId) (qx ql qk qa : Nat) (qr qt qh n : Nat) (hi : Int64) (tI : Nat → Int32) (hv : Nat → Int64) (hI sI : Nat → Int32) (hR : RowsOk n hI sI hi hv) (y f b t pt : Int32) (sz : Nat) : vx_Met l yX4_drift wsX4_drift ({ frames := 6, cells := 1, slots := 6, locals := 100 } : Room) (va_Pc [.ref qx, .int y, .int f, .int b, .int t, .int pt] (Xr dd [(cyI, .int), (cyJ, .long), (cyZ, .boolean)] [(qx, .inr (4, [.ref qr, .ref ql, .ref qk, .ref qa])), (qr, .inr (2, [.int (nI n), .long hi, .ref qt, .ref qh])), (qt, .inl (cyI, 48, .inl tI)), (qh, .inl (cyJ, 55, .inr (.inl hv)))] sz)) (xQl sz (fun r => ¬ driftX n tI y f b t pt ∧ r = driftR n tI sI y f b t pt)) (xXC sz (driftX n tI y f b t pt)) 1 6 (fun q => sz ≤ q) := by
  refine mkX (cc := cX4_drift) (maxL := 10) (by decide) rfl (Nat.le_of_ble_eq_true rfl) (lv0 := [(0, .ref qx), (1, .int y), (2, .int f), (3, .int b), (4, .int t), (5, .int pt)]) rfl ?_
  intro p e s m below meth c ls hx hb hr hml hown hlocks hts htab hN hXW hP hK hsz hl
  have hown : s.vm.findClass RX4 = some m.cls := hown
  have hiX2 : ∀ w ∈ wsX20, w ∈ wsX4_drift := by decide +kernel
  have hiX4 : ∀ w ∈ wsX40, w ∈ wsX4_drift := by decide +kernel
  have hn := hR.1
  refine lv_iload_n hx hb dX4_drift_0 rfl (lv_at hl 1 rfl) ?_
  refine clSi (As := [.int y]) (rest := []) ⟨hx, hb, hml, hown, hts⟩ (c_isColumn l dd cyI cyJ cyZ y) gX4_drift_X4_isColumn (n := 1) rfl ⟨rfl, rfl⟩ (by decide +kernel) ⟨Nat.le_of_ble_eq_true rfl, Nat.le_of_ble_eq_true rfl⟩ hN hK (hP.sub [] rfl) rfl hl.1 rfl (Nat.le_of_ble_eq_true rfl) dX4_drift_1 ⟨Nat.le_of_ble_eq_true rfl, Nat.le_of_ble_eq_true rfl⟩ (fun ck1 hck1 => ?_)
  refine lv_if_ne (tgt := 11) hx hb dX4_drift_4 (by decide) (fun qck1 => ?_) (fun qck1 => ?_)
  · have hck1 : inC y := hck1.elim (fun h => h.2) (fun h => absurd h.1 qck1)
    refine lv_iload_n hx hb dX4_drift_11 rfl (lv_at hl 2 rfl) ?_
    refine lv_iload_n hx hb dX4_drift_12 rfl (lv_at hl 3 rfl) ?_
    refine lv_iload hx hb dX4_drift_13 (lv_at hl 4 rfl) ?_
    refine clSi (As := [.int f, .int b, .int t]) (rest := []) ⟨hx, hb, hml, hown, hts⟩ (c_areTimes l dd cyI cyJ cyZ f b t) gX4_drift_X4_areTimes (n := 3) rfl ⟨rfl, rfl⟩ (by decide +kernel) ⟨Nat.le_of_ble_eq_true rfl, Nat.le_of_ble_eq_true rfl⟩ hN hK (hP.sub [] rfl) rfl hl.1 rfl (Nat.le_of_ble_eq_true rfl) dX4_drift_15 ⟨Nat.le_of_ble_eq_true rfl, Nat.le_of_ble_eq_true rfl⟩ (fun ck2 hck2 => ?_)
    refine lv_if_eq (tgt := 29) hx hb dX4_drift_18 (by decide) (fun qck2 => ?_) (fun qck2 => ?_)
    · have hck2 : ¬ (inW f b t) := hck2.elim (fun h => absurd (h.1.symm.trans qck2) (by decide)) (fun h => h.2)
      refine lv_ldc2 (v := (-1000002)) hx hb hown (hts (.constantLong RX4 114 (-1000002)) (by decide +kernel)) dX4_drift_29 ?_
      exact exL hx hb hr hlocks dX4_drift_32 (⟨fun x => hck2 x.2.1.1, by rw [driftR, if_pos hck1, if_neg (fun x : inW f b t ∧ inP pt => hck2 x.1)]⟩)
    · have hck2 : inW f b t := hck2.elim (fun h => h.2) (fun h => absurd h.1 qck2)
      refine lv_iload hx hb dX4_drift_21 (lv_at hl 5 rfl) ?_
      refine clSi (As := [.int pt]) (rest := []) ⟨hx, hb, hml, hown, hts⟩ (c_isPart l dd cyI cyJ cyZ pt) gX4_drift_X4_isPart (n := 1) rfl ⟨rfl, rfl⟩ (by decide +kernel) ⟨Nat.le_of_ble_eq_true rfl, Nat.le_of_ble_eq_true rfl⟩ hN hK (hP.sub [] rfl) rfl hl.1 rfl (Nat.le_of_ble_eq_true rfl) dX4_drift_23 ⟨Nat.le_of_ble_eq_true rfl, Nat.le_of_ble_eq_true rfl⟩ (fun ck3 hck3 => ?_)
      refine lv_if_ne (tgt := 33) hx hb dX4_drift_26 (by decide) (fun qck3 => ?_) (fun qck3 => ?_)
      · have hck3 : inP pt := hck3.elim (fun h => h.2) (fun h => absurd h.1 qck3)
        obtain ⟨co, hco, ey⟩ := inC_of hck1
        subst ey
        have ec : cl (nI co) = co := cl_nI (by omega)
        refine lv_aload_n hx hb dX4_drift_33 rfl (lv_at hl 0 rfl) ?_
        refine va_get (D := dd) (ci := 4) (C := RX4) (T := TX4) (N := 4) (v := .ref qr) hx hb hts hiX4 hown hK hP 0 rfl rfl 0 (by decide) (hts (.fieldLink RX4 10 "SliceDrift" "rows" "LSliceDrift$Rows;") (by decide +kernel)) (fun _ h9 => h9) rfl dX4_drift_34 ?_
        refine lv_iload_n hx hb dX4_drift_37 rfl (lv_at hl 2 rfl) ?_
        refine lv_iload_n hx hb dX4_drift_38 rfl (lv_at hl 3 rfl) ?_
        refine clVl (As := [.int f, .int b]) (rest := []) (b := qr) (vc := (RX2, TX2, 4)) ⟨hx, hb, hml, hown, hts⟩ (c_between l dd cyI cyJ cyZ qr qt qh n hi tI hv f b hn) gX4_drift_X2_between (ci := 2) rfl (q0 := 0) rfl (n := 2) rfl ⟨rfl, rfl⟩ (by decide +kernel) ⟨Nat.le_of_ble_eq_true rfl, Nat.le_of_ble_eq_true rfl⟩ hN hK (hP.sub [1, 2, 3] rfl) rfl hl.1 rfl (Nat.le_of_ble_eq_true rfl) dX4_drift_39 ⟨Nat.le_of_ble_eq_true rfl, Nat.le_of_ble_eq_true rfl⟩ (fun r1 hr1 => ?_)
        subst hr1
        refine lv_lstore (lv' := [(6, .long (lN (mk (win tI f b) n))), (0, .ref qx), (1, .int (nI co)), (2, .int f), (3, .int b), (4, .int t), (5, .int pt)]) hx hb dX4_drift_42 hl (by decide) rfl (fun ls hl => ?_)
        refine lv_aload_n hx hb dX4_drift_44 rfl (lv_at hl 1 rfl) ?_
        refine va_get (D := dd) (ci := 4) (C := RX4) (T := TX4) (N := 4) (v := .ref qr) hx hb hts hiX4 hown hK hP 0 rfl rfl 0 (by decide) (hts (.fieldLink RX4 10 "SliceDrift" "rows" "LSliceDrift$Rows;") (by decide +kernel)) (fun _ h9 => h9) rfl dX4_drift_45 ?_
        refine lv_iload_n hx hb dX4_drift_48 rfl (lv_at hl 4 rfl) ?_
        refine lv_iload hx hb dX4_drift_49 (lv_at hl 5 rfl) ?_
        refine clVl (As := [.int b, .int t]) (rest := []) (b := qr) (vc := (RX2, TX2, 4)) ⟨hx, hb, hml, hown, hts⟩ (c_between l dd cyI cyJ cyZ qr qt qh n hi tI hv b t hn) gX4_drift_X2_between (ci := 2) rfl (q0 := 0) rfl (n := 2) rfl ⟨rfl, rfl⟩ (by decide +kernel) ⟨Nat.le_of_ble_eq_true rfl, Nat.le_of_ble_eq_true rfl⟩ hN hK (hP.sub [1, 2, 3] rfl) rfl hl.1 rfl (Nat.le_of_ble_eq_true rfl) dX4_drift_51 ⟨Nat.le_of_ble_eq_true rfl, Nat.le_of_ble_eq_true rfl⟩ (fun r2 hr2 => ?_)
        subst hr2
        refine lv_lstore (lv' := [(8, .long (lN (mk (win tI b t) n))), (6, .long (lN (mk (win tI f b) n))), (0, .ref qx), (1, .int (nI co)), (2, .int f), (3, .int b), (4, .int t), (5, .int pt)]) hx hb dX4_drift_54 hl (by decide) rfl (fun ls hl => ?_)
        refine lv_lload hx hb dX4_drift_56 (lv_at hl 1 rfl) ?_
        refine lv_lconst (v := 0) hx hb dX4_drift_58 (by decide) ?_
        refine W.lcmp hx hb dX4_drift_59 ?_
        refine lv_if_eq (tgt := 70) hx hb dX4_drift_60 (by decide) (fun q1 => ?_) (fun q1 => ?_)
        · obtain ⟨sa0, sa1, sa2, ss0, ss1, ss2⟩ := hXW.2.1
          exact exT hx hb hlt0 hlocks hown (hts (.classLink RX4 133 AEx) (by decide +kernel)) (hts (.initialized AEx) (by decide +kernel)) (fun w hw => hts w (List.mem_cons_of_mem _ (List.mem_append_right _ hw))) hXW htab (hl.1.trans hml.symm) ss1 dX4_drift_70 dX4_drift_73 dX4_drift_74 dX4_drift_76 dX4_drift_79 ⟨by decide, by decide, by decide, by decide⟩ (⟨hck1, ⟨hck2, hck3⟩, Or.inl (mk0_cnt.mp ((lN0 (mk62 _ hn)).mp q1))⟩)
        · refine lv_lload hx hb dX4_drift_63 (lv_at hl 0 rfl) ?_
          refine lv_lconst (v := 0) hx hb dX4_drift_65 (by decide) ?_
          refine W.lcmp hx hb dX4_drift_66 ?_
          refine lv_if_ne (tgt := 80) hx hb dX4_drift_67 (by decide) (fun q2 => ?_) (fun q2 => ?_)
          · have hnz : ¬ drX n tI f b t := fun x => x.elim (fun h => q1 ((lN0 (mk62 _ hn)).mpr (mk0_cnt.mpr h))) (fun h => q2 ((lN0 (mk62 _ hn)).mpr (mk0_cnt.mpr h)))
            have lF := Nat.le_trans (cnt_le (win tI f b) n) hn
            have lG := Nat.le_trans (cnt_le (win tI b t) n) hn
            have hds := dsu_le (win tI f b) (win tI b t) sI co hn 11
            have b3 : 2 * cnt (win tI f b) n * cnt (win tI b t) n ≤ 2 * 48 * 48 := Nat.mul_le_mul (Nat.mul_le_mul_left 2 lF) lG
            have b4 : 0 < 2 * cnt (win tI f b) n * cnt (win tI b t) n := Nat.mul_pos (Nat.mul_pos (by decide) (cnt_pos0.mpr (fun h => hnz (Or.inl h)))) (cnt_pos0.mpr (fun h => hnz (Or.inr h)))
            refine lv_aload_n hx hb dX4_drift_80 rfl (lv_at hl 2 rfl) ?_
            refine va_get (D := dd) (ci := 4) (C := RX4) (T := TX4) (N := 4) (v := .ref qr) hx hb hts hiX4 hown hK hP 0 rfl rfl 0 (by decide) (hts (.fieldLink RX4 10 "SliceDrift" "rows" "LSliceDrift$Rows;") (by decide +kernel)) (fun _ h9 => h9) rfl dX4_drift_81 ?_
            refine lv_iload_n hx hb dX4_drift_84 rfl (lv_at hl 3 rfl) ?_
            refine lv_lload hx hb dX4_drift_85 (lv_at hl 1 rfl) ?_
            refine lv_lload hx hb dX4_drift_87 (lv_at hl 0 rfl) ?_
            refine clVi (As := [.int (nI co), .long (lN (mk (win tI f b) n)), .long (lN (mk (win tI b t) n))]) (rest := []) (b := qr) (vc := (RX2, TX2, 4)) ⟨hx, hb, hml, hown, hts⟩ (c_driftAbove l dd cyI cyJ cyZ qr qt qh n hi tI hv hI sI hR co hco (win tI f b) (win tI b t)) gX4_drift_X2_driftAbove (ci := 2) rfl (q0 := 0) rfl (n := 3) rfl ⟨rfl, rfl⟩ (by decide +kernel) ⟨Nat.le_of_ble_eq_true rfl, Nat.le_of_ble_eq_true rfl⟩ hN hK (hP.sub [1, 2, 3] rfl) rfl hl.1 rfl (Nat.le_of_ble_eq_true rfl) dX4_drift_89 ⟨Nat.le_of_ble_eq_true rfl, Nat.le_of_ble_eq_true rfl⟩ (fun r3 h3 => ?_)
            subst h3
            refine lv_i2l hx hb dX4_drift_92 rfl ?_
            refine tpl (show ((nI (dsu (win tI f b) (win tI b t) sI co n 11)).toInt64 : Int64) = lI ((dsu (win tI f b) (win tI b t) sI co n 11 : Nat) : Int) from by rw [nI_l (by omega), lN_lI]) ?_
            refine lv_lload hx hb dX4_drift_93 (lv_at hl 1 rfl) ?_
            refine lv_lload hx hb dX4_drift_95 (lv_at hl 0 rfl) ?_
            refine clSi (As := [.long (lN (mk (win tI f b) n)), .long (lN (mk (win tI b t) n))]) (rest := [.long (lI ((dsu (win tI f b) (win tI b t) sI co n 11 : Nat) : Int))]) ⟨hx, hb, hml, hown, hts⟩ (c_driftBelow l dd cyI cyJ cyZ (mk (win tI f b) n) (mk (win tI b t) n) (mk64 _ hn) (mk64 _ hn)) gX4_drift_X4_driftBelow (n := 2) rfl ⟨rfl, rfl⟩ (by decide +kernel) ⟨Nat.le_of_ble_eq_true rfl, Nat.le_of_ble_eq_true rfl⟩ hN hK (hP.sub [] rfl) rfl hl.1 rfl (Nat.le_of_ble_eq_true rfl) dX4_drift_97 ⟨Nat.le_of_ble_eq_true rfl, Nat.le_of_ble_eq_true rfl⟩ (fun r7 h7 => ?_)
            rw [cnt_mk _ (Nat.le_trans hn (by decide)), cnt_mk _ (Nat.le_trans hn (by decide))] at h7
            subst h7
            refine lv_i2l hx hb dX4_drift_100 rfl ?_
            refine tpl (show ((nI (2 * cnt (win tI f b) n * cnt (win tI b t) n)).toInt64 : Int64) = lI ((2 * cnt (win tI f b) n * cnt (win tI b t) n : Nat) : Int) from by rw [nI_l (by omega), lN_lI]) ?_
            refine lv_iload hx hb dX4_drift_101 (lv_at hl 7 rfl) ?_
            refine clSl (As := [.long (lI ((dsu (win tI f b) (win tI b t) sI co n 11 : Nat) : Int)), .long (lI ((2 * cnt (win tI f b) n * cnt (win tI b t) n : Nat) : Int)), .int pt]) (rest := []) ⟨hx, hb, hml, hown, hts⟩ (c_lowest l dd cyI cyJ cyZ ((dsu (win tI f b) (win tI b t) sI co n 11 : Nat) : Int) ((2 * cnt (win tI f b) n * cnt (win tI b t) n : Nat) : Int) pt (by omega) (by omega) (by omega)) gX4_drift_X4_lowest (n := 3) rfl ⟨rfl, rfl⟩ (by decide +kernel) ⟨Nat.le_of_ble_eq_true rfl, Nat.le_of_ble_eq_true rfl⟩ hN hK (hP.sub [] rfl) rfl hl.1 rfl (Nat.le_of_ble_eq_true rfl) dX4_drift_103 ⟨Nat.le_of_ble_eq_true rfl, Nat.le_of_ble_eq_true rfl⟩ (fun rr hrr => ?_)
            exact exL hx hb hr hlocks dX4_drift_106 (⟨fun x => hnz x.2.2, by rw [hrr, driftR, if_pos (show inC (nI co) from hck1), if_pos (show inW f b t ∧ inP pt from ⟨hck2, hck3⟩), ec]⟩)
          · obtain ⟨sa0, sa1, sa2, ss0, ss1, ss2⟩ := hXW.2.1
            exact exT hx hb hlt0 hlocks hown (hts (.classLink RX4 133 AEx) (by decide +kernel)) (hts (.initialized AEx) (by decide +kernel)) (fun w hw => hts w (List.mem_cons_of_mem _ (List.mem_append_right _ hw))) hXW htab (hl.1.trans hml.symm) ss1 dX4_drift_70 dX4_drift_73 dX4_drift_74 dX4_drift_76 dX4_drift_79 ⟨by decide, by decide, by decide, by decide⟩ (⟨hck1, ⟨hck2, hck3⟩, Or.inr (mk0_cnt.mp ((lN0 (mk62 _ hn)).mp q2))⟩)
      · have hck3 : ¬ (inP pt) := hck3.elim (fun h => absurd (h.1.symm.trans qck3) (by decide)) (fun h => h.2)
        refine lv_ldc2 (v := (-1000002)) hx hb hown (hts (.constantLong RX4 114 (-1000002)) (by decide +kernel)) dX4_drift_29 ?_
        exact exL hx hb hr hlocks dX4_drift_32 (⟨fun x => hck3 x.2.1.2, by rw [driftR, if_pos hck1, if_neg (fun x : inW f b t ∧ inP pt => hck3 x.2)]⟩)
  · have hck1 : ¬ (inC y) := hck1.elim (fun h => absurd (h.1.symm.trans qck1) (by decide)) (fun h => h.2)
    refine lv_ldc2 (v := (-1000001)) hx hb hown (hts (.constantLong RX4 109 (-1000001)) (by decide +kernel)) dX4_drift_7 ?_
    exact exL hx hb hr hlocks dX4_drift_10 (⟨fun x => hck1 x.1, by rw [driftR, if_neg hck1]⟩)

set_option maxHeartbeats 4000000 in
set_option maxRecDepth 100000 in
theorem x_order (l : Launch) (hlt0 : l.stackTraces = false) (dd : va_G) (cyI cyJ cyZ : ClassId) (qx ql qk qa : Nat) (qr qt qh n : Nat) (hi : Int64) (tI : Nat → Int32) (hv : Nat → Int64) (hI sI : Nat → Int32) (hR : RowsOk n hI sI hi hv) (f b t i : Int32) (sz : Nat) : vx_Met l yX4_order wsX4_order ({ frames := 6, cells := 1, slots := 6, locals := 140 } : Room) (va_Pc [.ref qx, .int f, .int b, .int t, .int i] (Xr dd [(cyI, .int), (cyJ, .long), (cyZ, .boolean)] [(qx, .inr (4, [.ref qr, .ref ql, .ref qk, .ref qa])), (qr, .inr (2, [.int (nI n), .long hi, .ref qt, .ref qh])), (qt, .inl (cyI, 48, .inl tI)), (qh, .inl (cyJ, 55, .inr (.inl hv)))] sz)) (xQi sz (fun r => ¬ orderX n tI f b t i ∧ r = orderR n tI sI f b t i)) (xXC sz (orderX n tI f b t i)) 1 6 (fun q => sz ≤ q) := by
  refine mkX (cc := cX4_order) (maxL := 10) (by decide) rfl (Nat.le_of_ble_eq_true rfl) (lv0 := [(0, .ref qx), (1, .int f), (2, .int b), (3, .int t), (4, .int i)]) rfl ?_
  intro p e s m below meth c ls hx hb hr hml hown hlocks hts htab hN hXW hP hK hsz hl
  have hown : s.vm.findClass RX4 = some m.cls := hown
  have hiX2 : ∀ w ∈ wsX20, w ∈ wsX4_order := by decide +kernel
  have hiX4 : ∀ w ∈ wsX40, w ∈ wsX4_order := by decide +kernel
  have hn := hR.1
  refine lv_iload hx hb dX4_order_0 (lv_at hl 4 rfl) ?_
  refine clSi (As := [.int i]) (rest := []) ⟨hx, hb, hml, hown, hts⟩ (c_isColumn l dd cyI cyJ cyZ i) gX4_order_X4_isColumn (n := 1) rfl ⟨rfl, rfl⟩ (by decide +kernel) ⟨Nat.le_of_ble_eq_true rfl, Nat.le_of_ble_eq_true rfl⟩ hN hK (hP.sub [] rfl) rfl hl.1 rfl (Nat.le_of_ble_eq_true rfl) dX4_order_2 ⟨Nat.le_of_ble_eq_true rfl, Nat.le_of_ble_eq_true rfl⟩ (fun ck1 hck1 => ?_)
  refine lv_if_ne (tgt := 11) hx hb dX4_order_5 (by decide) (fun qck1 => ?_) (fun qck1 => ?_)
  · have hck1 : inC i := hck1.elim (fun h => h.2) (fun h => absurd h.1 qck1)
    refine lv_iload_n hx hb dX4_order_11 rfl (lv_at hl 1 rfl) ?_
    refine lv_iload_n hx hb dX4_order_12 rfl (lv_at hl 2 rfl) ?_
    refine lv_iload_n hx hb dX4_order_13 rfl (lv_at hl 3 rfl) ?_
    refine clSi (As := [.int f, .int b, .int t]) (rest := []) ⟨hx, hb, hml, hown, hts⟩ (c_areTimes l dd cyI cyJ cyZ f b t) gX4_order_X4_areTimes (n := 3) rfl ⟨rfl, rfl⟩ (by decide +kernel) ⟨Nat.le_of_ble_eq_true rfl, Nat.le_of_ble_eq_true rfl⟩ hN hK (hP.sub [] rfl) rfl hl.1 rfl (Nat.le_of_ble_eq_true rfl) dX4_order_14 ⟨Nat.le_of_ble_eq_true rfl, Nat.le_of_ble_eq_true rfl⟩ (fun ck2 hck2 => ?_)
    refine lv_if_ne (tgt := 23) hx hb dX4_order_17 (by decide) (fun qck2 => ?_) (fun qck2 => ?_)
    · have hck2 : inW f b t := hck2.elim (fun h => h.2) (fun h => absurd h.1 qck2)
      obtain ⟨ii, hii, ei⟩ := inC_of hck1
      subst ei
      have ec : cl (nI ii) = ii := cl_nI (by omega)
      refine lv_aload_n hx hb dX4_order_23 rfl (lv_at hl 0 rfl) ?_
      refine va_get (D := dd) (ci := 4) (C := RX4) (T := TX4) (N := 4) (v := .ref qr) hx hb hts hiX4 hown hK hP 0 rfl rfl 0 (by decide) (hts (.fieldLink RX4 10 "SliceDrift" "rows" "LSliceDrift$Rows;") (by decide +kernel)) (fun _ h9 => h9) rfl dX4_order_24 ?_
      refine lv_iload_n hx hb dX4_order_27 rfl (lv_at hl 1 rfl) ?_
      refine lv_iload_n hx hb dX4_order_28 rfl (lv_at hl 2 rfl) ?_
      refine clVl (As := [.int f, .int b]) (rest := []) (b := qr) (vc := (RX2, TX2, 4)) ⟨hx, hb, hml, hown, hts⟩ (c_between l dd cyI cyJ cyZ qr qt qh n hi tI hv f b hn) gX4_order_X2_between (ci := 2) rfl (q0 := 0) rfl (n := 2) rfl ⟨rfl, rfl⟩ (by decide +kernel) ⟨Nat.le_of_ble_eq_true rfl, Nat.le_of_ble_eq_true rfl⟩ hN hK (hP.sub [1, 2, 3] rfl) rfl hl.1 rfl (Nat.le_of_ble_eq_true rfl) dX4_order_29 ⟨Nat.le_of_ble_eq_true rfl, Nat.le_of_ble_eq_true rfl⟩ (fun r1 hr1 => ?_)
      subst hr1
      refine lv_lstore (lv' := [(5, .long (lN (mk (win tI f b) n))), (0, .ref qx), (1, .int f), (2, .int b), (3, .int t), (4, .int (nI ii))]) hx hb dX4_order_32 hl (by decide) rfl (fun ls hl => ?_)
      refine lv_aload_n hx hb dX4_order_34 rfl (lv_at hl 1 rfl) ?_
      refine va_get (D := dd) (ci := 4) (C := RX4) (T := TX4) (N := 4) (v := .ref qr) hx hb hts hiX4 hown hK hP 0 rfl rfl 0 (by decide) (hts (.fieldLink RX4 10 "SliceDrift" "rows" "LSliceDrift$Rows;") (by decide +kernel)) (fun _ h9 => h9) rfl dX4_order_35 ?_
      refine lv_iload_n hx hb dX4_order_38 rfl (lv_at hl 3 rfl) ?_
      refine lv_iload_n hx hb dX4_order_39 rfl (lv_at hl 4 rfl) ?_
      refine clVl (As := [.int b, .int t]) (rest := []) (b := qr) (vc := (RX2, TX2, 4)) ⟨hx, hb, hml, hown, hts⟩ (c_between l dd cyI cyJ cyZ qr qt qh n hi tI hv b t hn) gX4_order_X2_between (ci := 2) rfl (q0 := 0) rfl (n := 2) rfl ⟨rfl, rfl⟩ (by decide +kernel) ⟨Nat.le_of_ble_eq_true rfl, Nat.le_of_ble_eq_true rfl⟩ hN hK (hP.sub [1, 2, 3] rfl) rfl hl.1 rfl (Nat.le_of_ble_eq_true rfl) dX4_order_40 ⟨Nat.le_of_ble_eq_true rfl, Nat.le_of_ble_eq_true rfl⟩ (fun r2 hr2 => ?_)
      subst hr2
      refine lv_lstore (lv' := [(7, .long (lN (mk (win tI b t) n))), (5, .long (lN (mk (win tI f b) n))), (0, .ref qx), (1, .int f), (2, .int b), (3, .int t), (4, .int (nI ii))]) hx hb dX4_order_43 hl (by decide) rfl (fun ls hl => ?_)
      refine lv_lload hx hb dX4_order_45 (lv_at hl 1 rfl) ?_
      refine lv_lconst (v := 0) hx hb dX4_order_47 (by decide) ?_
      refine W.lcmp hx hb dX4_order_48 ?_
      refine lv_if_eq (tgt := 59) hx hb dX4_order_49 (by decide) (fun q1 => ?_) (fun q1 => ?_)
      · obtain ⟨sa0, sa1, sa2, ss0, ss1, ss2⟩ := hXW.2.1
        exact exT hx hb hlt0 hlocks hown (hts (.classLink RX4 133 AEx) (by decide +kernel)) (hts (.initialized AEx) (by decide +kernel)) (fun w hw => hts w (List.mem_cons_of_mem _ (List.mem_append_right _ hw))) hXW htab (hl.1.trans hml.symm) ss1 dX4_order_59 dX4_order_62 dX4_order_63 dX4_order_65 dX4_order_68 ⟨by decide, by decide, by decide, by decide⟩ (⟨hck1, hck2, Or.inl (mk0_cnt.mp ((lN0 (mk62 _ hn)).mp q1))⟩)
      · refine lv_lload hx hb dX4_order_52 (lv_at hl 0 rfl) ?_
        refine lv_lconst (v := 0) hx hb dX4_order_54 (by decide) ?_
        refine W.lcmp hx hb dX4_order_55 ?_
        refine lv_if_ne (tgt := 69) hx hb dX4_order_56 (by decide) (fun q2 => ?_) (fun q2 => ?_)
        · have hnz : ¬ drX n tI f b t := fun x => x.elim (fun h => q1 ((lN0 (mk62 _ hn)).mpr (mk0_cnt.mpr h))) (fun h => q2 ((lN0 (mk62 _ hn)).mpr (mk0_cnt.mpr h)))
          refine lv_iconst (v := 0) hx hb dX4_order_69 (by decide) ?_
          refine lv_istore (lv' := [(9, .int 0), (7, .long (lN (mk (win tI b t) n))), (5, .long (lN (mk (win tI f b) n))), (0, .ref qx), (1, .int f), (2, .int b), (3, .int t), (4, .int (nI ii))]) hx hb dX4_order_70 hl (by decide) rfl (fun ls hl => ?_)
          have loop : ∀ (k : Nat) (c9 : Nat), c9 + k = 5 → fnd (dsC n tI sI f b t) ii k c9 = fnd (dsC n tI sI f b t) ii 5 0 → ∀ ls : Array Slot, lv_has ls 10 [(9, .int (nI c9)), (7, .long (lN (mk (win tI b t) n))), (5, .long (lN (mk (win tI f b) n))), (0, .ref qx), (4, .int (nI ii))] → W p l e ({ frames := 6, cells := 1, slots := 6, locals := 140 } : Room) s m ([.ref qx, .int f, .int b, .int t, .int (nI ii)] : List Value).toArray below meth c s.heap [] 0 0 (vx_MQ below (xQi sz (fun r => ¬ orderX n tI f b t (nI ii) ∧ r = orderR n tI sI f b t (nI ii))) (xXC sz (orderX n tI f b t (nI ii))) ([.ref qx, .int f, .int b, .int t, .int (nI ii)] : List Value).toArray s 1 6 (fun q => sz ≤ q)) (F0 m 72 ls []) := by
            intro k
            induction k with
            | zero =>
              intro c9 hc9 he ls hl
              refine lv_iload hx hb dX4_order_72 (lv_at hl 0 rfl) ?_
              refine lv_iconst (v := 5) hx hb dX4_order_74 (by decide) ?_
              refine lv_icmp_ge (tgt := 105) hx hb dX4_order_75 (by decide) (fun q3 => ?_) (fun q3 => ?_)
              · refine lv_iconst (v := (-1)) hx hb dX4_order_105 (by decide) ?_
                exact exI hx hb hr hlocks dX4_order_106 (⟨fun x => hnz x.2.2, by rw [orderR, if_pos (show inC (nI ii) from hck1), if_pos (show inW f b t from hck2), ec, ← he]; rfl⟩)
              · exact absurd (nI_le (show 5 ≤ c9 by omega) (by omega)) q3
            | succ k ih =>
              intro c9 hc9 he ls hl
              refine lv_iload hx hb dX4_order_72 (lv_at hl 0 rfl) ?_
              refine lv_iconst (v := 5) hx hb dX4_order_74 (by decide) ?_
              refine lv_icmp_ge (tgt := 105) hx hb dX4_order_75 (by decide) (fun q3 => ?_) (fun q3 => ?_)
              · exact absurd q3 (nI_ge (show c9 < 5 by omega) (by decide))
              · refine lv_aload_n hx hb dX4_order_78 rfl (lv_at hl 3 rfl) ?_
                refine va_get (D := dd) (ci := 4) (C := RX4) (T := TX4) (N := 4) (v := .ref qr) hx hb hts hiX4 hown hK hP 0 rfl rfl 0 (by decide) (hts (.fieldLink RX4 10 "SliceDrift" "rows" "LSliceDrift$Rows;") (by decide +kernel)) (fun _ h9 => h9) rfl dX4_order_79 ?_
                refine lv_iload hx hb dX4_order_82 (lv_at hl 0 rfl) ?_
                refine lv_lload hx hb dX4_order_84 (lv_at hl 2 rfl) ?_
                refine lv_lload hx hb dX4_order_86 (lv_at hl 1 rfl) ?_
                refine clVi (As := [.int (nI c9), .long (lN (mk (win tI f b) n)), .long (lN (mk (win tI b t) n))]) (rest := []) (b := qr) (vc := (RX2, TX2, 4)) ⟨hx, hb, hml, hown, hts⟩ (c_placeByDrift l dd cyI cyJ cyZ qr qt qh n hi tI hv hI sI hR c9 (by omega) (win tI f b) (win tI b t)) gX4_order_X2_placeByDrift (ci := 2) rfl (q0 := 0) rfl (n := 3) rfl ⟨rfl, rfl⟩ (by decide +kernel) ⟨Nat.le_of_ble_eq_true rfl, Nat.le_of_ble_eq_true rfl⟩ hN hK (hP.sub [1, 2, 3] rfl) rfl hl.1 rfl (Nat.le_of_ble_eq_true rfl) dX4_order_88 ⟨Nat.le_of_ble_eq_true rfl, Nat.le_of_ble_eq_true rfl⟩ (fun r3 h3 => ?_)
                rw [plc_pl] at h3
                have h3 : r3 = nI (pl (dsC n tI sI f b t) c9 5) := h3
                subst h3
                have lp := pl_le (dsC n tI sI f b t) c9 5
                refine lv_iload hx hb dX4_order_91 (lv_at hl 4 rfl) ?_
                refine lv_icmp_ne (tgt := 99) hx hb dX4_order_93 (by decide) (fun q4 => ?_) (fun q4 => ?_)
                · refine lv_iinc (v := nI (c9 + 1)) (lv' := [(9, .int (nI (c9 + 1))), (7, .long (lN (mk (win tI b t) n))), (5, .long (lN (mk (win tI f b) n))), (0, .ref qx), (4, .int (nI ii))]) hx hb dX4_order_99 hl (k := 0) rfl (nI_1 c9) (by decide) rfl (fun ls hl => ?_)
                  refine lv_goto (tgt := 72) hx hb dX4_order_102 (by decide) ?_
                  exact ih (c9 + 1) (by omega) (by rw [← he]; simp only [fnd]; rw [if_neg (fun h => q4 (by rw [h]))]) ls (lv_sub hl [0, 1, 2, 3, 4] rfl)
                · refine lv_iload hx hb dX4_order_96 (lv_at hl 0 rfl) ?_
                  exact exI hx hb hr hlocks dX4_order_98 (⟨fun x => hnz x.2.2, by rw [orderR, if_pos (show inC (nI ii) from hck1), if_pos (show inW f b t from hck2), ec, ← he]; simp only [fnd]; rw [if_pos ((nI_eq (by omega) (by omega)).mp q4)]⟩)
          exact loop 5 0 rfl rfl ls (lv_sub hl [0, 1, 2, 3, 7] rfl)
        · obtain ⟨sa0, sa1, sa2, ss0, ss1, ss2⟩ := hXW.2.1
          exact exT hx hb hlt0 hlocks hown (hts (.classLink RX4 133 AEx) (by decide +kernel)) (hts (.initialized AEx) (by decide +kernel)) (fun w hw => hts w (List.mem_cons_of_mem _ (List.mem_append_right _ hw))) hXW htab (hl.1.trans hml.symm) ss1 dX4_order_59 dX4_order_62 dX4_order_63 dX4_order_65 dX4_order_68 ⟨by decide, by decide, by decide, by decide⟩ (⟨hck1, hck2, Or.inr (mk0_cnt.mp ((lN0 (mk62 _ hn)).mp q2))⟩)
    · have hck2 : ¬ (inW f b t) := hck2.elim (fun h => absurd (h.1.symm.trans qck2) (by decide)) (fun h => h.2)
      refine lv_ldc (v := (-1000002)) hx hb hown (hts (.constant RX4 41 (-1000002)) (by decide +kernel)) dX4_order_20 ?_
      exact exI hx hb hr hlocks dX4_order_22 (⟨fun x => hck2 x.2.1, by rw [orderR, if_pos hck1, if_neg hck2]⟩)
  · have hck1 : ¬ (inC i) := hck1.elim (fun h => absurd (h.1.symm.trans qck1) (by decide)) (fun h => h.2)
    refine lv_ldc (v := (-1000001)) hx hb hown (hts (.constant RX4 58 (-1000001)) (by decide +kernel)) dX4_order_8 ?_
    exact exI hx hb hr hlocks dX4_order_10 (⟨fun x => hck1 x.1, by rw [orderR, if_neg hck1]⟩)

theorem iB31 {x z y w v : Nat} (hx : x ≤ 48) (hz : z ≤ 48) (hy : y ≤ 48) (hw : w ≤ 48) (hv : v ≤ 48) : ((((x * z : Nat) : Int) - ((y * w : Nat) : Int)) * ((v : Nat) : Int)).natAbs < 2 ^ 31 := by
  have a : x * z ≤ 48 * 48 := Nat.mul_le_mul hx hz
  have b : y * w ≤ 48 * 48 := Nat.mul_le_mul hy hw
  rw [Int.natAbs_mul]
  have c : (((x * z : Nat) : Int) - ((y * w : Nat) : Int)).natAbs ≤ 2304 := by omega
  have d : (((v : Nat) : Int)).natAbs ≤ 48 := by omega
  exact Nat.lt_of_le_of_lt (Nat.mul_le_mul c d) (by decide)

set_option maxHeartbeats 4000000 in
set_option maxRecDepth 100000 in
theorem x_shift (l : Launch) (hlt0 : l.stackTraces = false) (dd : va_G) (cyI cyJ cyZ : ClassId) (qx ql qk qa : Nat) (qr qt qh n : Nat) (hi : Int64) (tI : Nat → Int32) (hv : Nat → Int64) (hI sI : Nat → Int32) (hR : RowsOk n hI sI hi hv) (la gu f b t pt : Int32) (sz : Nat) : vx_Met l yX4_shift wsX4_shift ({ frames := 6, cells := 1, slots := 6, locals := 120 } : Room) (va_Pc [.ref qx, .int la, .int gu, .int f, .int b, .int t, .int pt] (Xr dd [(cyI, .int), (cyJ, .long), (cyZ, .boolean)] [(qx, .inr (4, [.ref qr, .ref ql, .ref qk, .ref qa])), (qr, .inr (2, [.int (nI n), .long hi, .ref qt, .ref qh])), (qt, .inl (cyI, 48, .inl tI)), (qh, .inl (cyJ, 55, .inr (.inl hv)))] sz)) (xQl sz (fun r => ¬ shiftX n tI sI la gu f b t pt ∧ r = shiftR n tI sI la gu f b t pt)) (xXC sz (shiftX n tI sI la gu f b t pt)) 1 6 (fun q => sz ≤ q) := by
  refine mkX (cc := cX4_shift) (maxL := 25) (by decide) rfl (Nat.le_of_ble_eq_true rfl) (lv0 := [(0, .ref qx), (1, .int la), (2, .int gu), (3, .int f), (4, .int b), (5, .int t), (6, .int pt)]) rfl ?_
  intro p e s m below meth c ls hx hb hr hml hown hlocks hts htab hN hXW hP hK hsz hl
  have hown : s.vm.findClass RX4 = some m.cls := hown
  have hiX2 : ∀ w ∈ wsX20, w ∈ wsX4_shift := by decide +kernel
  have hiX4 : ∀ w ∈ wsX40, w ∈ wsX4_shift := by decide +kernel
  have hn := hR.1
  have hH := hR.2.2.1
  refine lv_iload_n hx hb dX4_shift_0 rfl (lv_at hl 1 rfl) ?_
  refine clSi (As := [.int la]) (rest := []) ⟨hx, hb, hml, hown, hts⟩ (c_isColumn l dd cyI cyJ cyZ la) gX4_shift_X4_isColumn (n := 1) rfl ⟨rfl, rfl⟩ (by decide +kernel) ⟨Nat.le_of_ble_eq_true rfl, Nat.le_of_ble_eq_true rfl⟩ hN hK (hP.sub [] rfl) rfl hl.1 rfl (Nat.le_of_ble_eq_true rfl) dX4_shift_1 ⟨Nat.le_of_ble_eq_true rfl, Nat.le_of_ble_eq_true rfl⟩ (fun ck1 hck1 => ?_)
  refine lv_if_eq (tgt := 19) hx hb dX4_shift_4 (by decide) (fun qck1 => ?_) (fun qck1 => ?_)
  · have hck1 : ¬ (inC la) := hck1.elim (fun h => absurd (h.1.symm.trans qck1) (by decide)) (fun h => h.2)
    refine lv_ldc2 (v := (-1000001)) hx hb hown (hts (.constantLong RX4 109 (-1000001)) (by decide +kernel)) dX4_shift_19 ?_
    exact exL hx hb hr hlocks dX4_shift_22 (⟨fun x => hck1 x.1.1, by rw [shiftR, if_neg (fun x : shOk la gu => hck1 x.1)]⟩)
  · have hck1 : inC la := hck1.elim (fun h => h.2) (fun h => absurd h.1 qck1)
    refine lv_iload_n hx hb dX4_shift_7 rfl (lv_at hl 2 rfl) ?_
    refine clSi (As := [.int gu]) (rest := []) ⟨hx, hb, hml, hown, hts⟩ (c_isColumn l dd cyI cyJ cyZ gu) gX4_shift_X4_isColumn (n := 1) rfl ⟨rfl, rfl⟩ (by decide +kernel) ⟨Nat.le_of_ble_eq_true rfl, Nat.le_of_ble_eq_true rfl⟩ hN hK (hP.sub [] rfl) rfl hl.1 rfl (Nat.le_of_ble_eq_true rfl) dX4_shift_8 ⟨Nat.le_of_ble_eq_true rfl, Nat.le_of_ble_eq_true rfl⟩ (fun ck2 hck2 => ?_)
    refine lv_if_eq (tgt := 19) hx hb dX4_shift_11 (by decide) (fun qck2 => ?_) (fun qck2 => ?_)
    · have hck2 : ¬ (inC gu) := hck2.elim (fun h => absurd (h.1.symm.trans qck2) (by decide)) (fun h => h.2)
      refine lv_ldc2 (v := (-1000001)) hx hb hown (hts (.constantLong RX4 109 (-1000001)) (by decide +kernel)) dX4_shift_19 ?_
      exact exL hx hb hr hlocks dX4_shift_22 (⟨fun x => hck2 x.1.2.1, by rw [shiftR, if_neg (fun x : shOk la gu => hck2 x.2.1)]⟩)
    · have hck2 : inC gu := hck2.elim (fun h => h.2) (fun h => absurd h.1 qck2)
      refine lv_iload_n hx hb dX4_shift_14 rfl (lv_at hl 1 rfl) ?_
      refine lv_iload_n hx hb dX4_shift_15 rfl (lv_at hl 2 rfl) ?_
      refine lv_icmp_ne (tgt := 23) hx hb dX4_shift_16 (by decide) (fun q0 => ?_) (fun q0 => ?_)
      · have hok : shOk la gu := ⟨hck1, hck2, q0⟩
        refine lv_iload_n hx hb dX4_shift_23 rfl (lv_at hl 3 rfl) ?_
        refine lv_iload hx hb dX4_shift_24 (lv_at hl 4 rfl) ?_
        refine lv_iload hx hb dX4_shift_26 (lv_at hl 5 rfl) ?_
        refine clSi (As := [.int f, .int b, .int t]) (rest := []) ⟨hx, hb, hml, hown, hts⟩ (c_areTimes l dd cyI cyJ cyZ f b t) gX4_shift_X4_areTimes (n := 3) rfl ⟨rfl, rfl⟩ (by decide +kernel) ⟨Nat.le_of_ble_eq_true rfl, Nat.le_of_ble_eq_true rfl⟩ hN hK (hP.sub [] rfl) rfl hl.1 rfl (Nat.le_of_ble_eq_true rfl) dX4_shift_28 ⟨Nat.le_of_ble_eq_true rfl, Nat.le_of_ble_eq_true rfl⟩ (fun ck3 hck3 => ?_)
        refine lv_if_eq (tgt := 42) hx hb dX4_shift_31 (by decide) (fun qck3 => ?_) (fun qck3 => ?_)
        · have hck3 : ¬ (inW f b t) := hck3.elim (fun h => absurd (h.1.symm.trans qck3) (by decide)) (fun h => h.2)
          refine lv_ldc2 (v := (-1000002)) hx hb hown (hts (.constantLong RX4 114 (-1000002)) (by decide +kernel)) dX4_shift_42 ?_
          exact exL hx hb hr hlocks dX4_shift_45 (⟨fun x => hck3 x.2.1.1, by rw [shiftR, if_pos hok, if_neg (fun x : inW f b t ∧ inP pt => hck3 x.1)]⟩)
        · have hck3 : inW f b t := hck3.elim (fun h => h.2) (fun h => absurd h.1 qck3)
          refine lv_iload hx hb dX4_shift_34 (lv_at hl 6 rfl) ?_
          refine clSi (As := [.int pt]) (rest := []) ⟨hx, hb, hml, hown, hts⟩ (c_isPart l dd cyI cyJ cyZ pt) gX4_shift_X4_isPart (n := 1) rfl ⟨rfl, rfl⟩ (by decide +kernel) ⟨Nat.le_of_ble_eq_true rfl, Nat.le_of_ble_eq_true rfl⟩ hN hK (hP.sub [] rfl) rfl hl.1 rfl (Nat.le_of_ble_eq_true rfl) dX4_shift_36 ⟨Nat.le_of_ble_eq_true rfl, Nat.le_of_ble_eq_true rfl⟩ (fun ck4 hck4 => ?_)
          refine lv_if_ne (tgt := 46) hx hb dX4_shift_39 (by decide) (fun qck4 => ?_) (fun qck4 => ?_)
          · have hck4 : inP pt := hck4.elim (fun h => h.2) (fun h => absurd h.1 qck4)
            obtain ⟨u, hu5, eu⟩ := inC_of hck1
            obtain ⟨g, hg5, eg⟩ := inC_of hck2
            subst eu
            subst eg
            have ea : cl (nI u) = u := cl_nI (by omega)
            have eb : cl (nI g) = g := cl_nI (by omega)
            refine lv_aload_n hx hb dX4_shift_46 rfl (lv_at hl 0 rfl) ?_
            refine va_get (D := dd) (ci := 4) (C := RX4) (T := TX4) (N := 4) (v := .ref qr) hx hb hts hiX4 hown hK hP 0 rfl rfl 0 (by decide) (hts (.fieldLink RX4 10 "SliceDrift" "rows" "LSliceDrift$Rows;") (by decide +kernel)) (fun _ h9 => h9) rfl dX4_shift_47 ?_
            refine lv_iload_n hx hb dX4_shift_50 rfl (lv_at hl 3 rfl) ?_
            refine lv_iload hx hb dX4_shift_51 (lv_at hl 4 rfl) ?_
            refine clVl (As := [.int f, .int b]) (rest := []) (b := qr) (vc := (RX2, TX2, 4)) ⟨hx, hb, hml, hown, hts⟩ (c_between l dd cyI cyJ cyZ qr qt qh n hi tI hv f b hn) gX4_shift_X2_between (ci := 2) rfl (q0 := 0) rfl (n := 2) rfl ⟨rfl, rfl⟩ (by decide +kernel) ⟨Nat.le_of_ble_eq_true rfl, Nat.le_of_ble_eq_true rfl⟩ hN hK (hP.sub [1, 2, 3] rfl) rfl hl.1 rfl (Nat.le_of_ble_eq_true rfl) dX4_shift_53 ⟨Nat.le_of_ble_eq_true rfl, Nat.le_of_ble_eq_true rfl⟩ (fun r1 hr1 => ?_)
            subst hr1
            refine lv_lstore (lv' := [(7, .long (lN (mk (win tI f b) n))), (0, .ref qx), (1, .int (nI u)), (2, .int (nI g)), (3, .int f), (4, .int b), (5, .int t), (6, .int pt)]) hx hb dX4_shift_56 hl (by decide) rfl (fun ls hl => ?_)
            refine lv_aload_n hx hb dX4_shift_58 rfl (lv_at hl 1 rfl) ?_
            refine va_get (D := dd) (ci := 4) (C := RX4) (T := TX4) (N := 4) (v := .ref qr) hx hb hts hiX4 hown hK hP 0 rfl rfl 0 (by decide) (hts (.fieldLink RX4 10 "SliceDrift" "rows" "LSliceDrift$Rows;") (by decide +kernel)) (fun _ h9 => h9) rfl dX4_shift_59 ?_
            refine lv_iload_n hx hb dX4_shift_62 rfl (lv_at hl 3 rfl) ?_
            refine lv_iconst (v := 1) hx hb dX4_shift_63 (by decide) ?_
            refine tpi (show (1 : Int32) = nI 1 from rfl) ?_
            refine clVl (As := [.int (nI g), .int (nI 1)]) (rest := []) (b := qr) (vc := (RX2, TX2, 4)) ⟨hx, hb, hml, hown, hts⟩ (c_withSort l dd cyI cyJ cyZ qr qt qh n hi tI hv g 1 hg5 (by decide)) gX4_shift_X2_withSort (ci := 2) rfl (q0 := 0) rfl (n := 2) rfl ⟨rfl, rfl⟩ (by decide +kernel) ⟨Nat.le_of_ble_eq_true rfl, Nat.le_of_ble_eq_true rfl⟩ hN hK (hP.sub [1, 2, 3] rfl) rfl hl.1 rfl (Nat.le_of_ble_eq_true rfl) dX4_shift_64 ⟨Nat.le_of_ble_eq_true rfl, Nat.le_of_ble_eq_true rfl⟩ (fun r2 hr2 => ?_)
            rw [hH g hg5 1 (by decide)] at hr2
            subst hr2
            refine lv_lstore (lv' := [(9, .long (lN (mk (hav sI g 1) n))), (7, .long (lN (mk (win tI f b) n))), (0, .ref qx), (1, .int (nI u)), (2, .int (nI g)), (3, .int f), (4, .int b), (5, .int t), (6, .int pt)]) hx hb dX4_shift_67 hl (by decide) rfl (fun ls hl => ?_)
            refine lv_lload hx hb dX4_shift_69 (lv_at hl 0 rfl) ?_
            refine lv_aload_n hx hb dX4_shift_71 rfl (lv_at hl 2 rfl) ?_
            refine va_get (D := dd) (ci := 4) (C := RX4) (T := TX4) (N := 4) (v := .ref qr) hx hb hts hiX4 hown hK hP 0 rfl rfl 0 (by decide) (hts (.fieldLink RX4 10 "SliceDrift" "rows" "LSliceDrift$Rows;") (by decide +kernel)) (fun _ h9 => h9) rfl dX4_shift_72 ?_
            refine lv_iload_n hx hb dX4_shift_75 rfl (lv_at hl 4 rfl) ?_
            refine lv_iconst (v := 0) hx hb dX4_shift_76 (by decide) ?_
            refine tpi (show (0 : Int32) = nI 0 from rfl) ?_
            refine clVl (As := [.int (nI g), .int (nI 0)]) (rest := [.long (lN (mk (hav sI g 1) n))]) (b := qr) (vc := (RX2, TX2, 4)) ⟨hx, hb, hml, hown, hts⟩ (c_withSort l dd cyI cyJ cyZ qr qt qh n hi tI hv g 0 hg5 (by decide)) gX4_shift_X2_withSort (ci := 2) rfl (q0 := 0) rfl (n := 2) rfl ⟨rfl, rfl⟩ (by decide +kernel) ⟨Nat.le_of_ble_eq_true rfl, Nat.le_of_ble_eq_true rfl⟩ hN hK (hP.sub [1, 2, 3] rfl) rfl hl.1 rfl (Nat.le_of_ble_eq_true rfl) dX4_shift_77 ⟨Nat.le_of_ble_eq_true rfl, Nat.le_of_ble_eq_true rfl⟩ (fun r3 hr3 => ?_)
            rw [hH g hg5 0 (by decide)] at hr3
            subst hr3
            refine lv_lor hx hb dX4_shift_80 ?_
            refine tpl (show ((lN (mk (hav sI g 1) n)) ||| (lN (mk (hav sI g 0) n)) : Int64) = lN (mk (ak sI g) n) from lN_or hn) ?_
            refine lv_lstore (lv' := [(11, .long (lN (mk (ak sI g) n))), (9, .long (lN (mk (hav sI g 1) n))), (7, .long (lN (mk (win tI f b) n))), (0, .ref qx), (1, .int (nI u)), (2, .int (nI g)), (3, .int f), (4, .int b), (5, .int t), (6, .int pt)]) hx hb dX4_shift_81 hl (by decide) rfl (fun ls hl => ?_)
            refine lv_lload hx hb dX4_shift_83 (lv_at hl 2 rfl) ?_
            refine lv_lload hx hb dX4_shift_85 (lv_at hl 0 rfl) ?_
            refine lv_land hx hb dX4_shift_87 ?_
            refine tpl (show ((lN (mk (win tI f b) n)) &&& (lN (mk (ak sI g) n)) : Int64) = lN (mk (fun i => win tI f b i && ak sI g i) n) from lN_and hn) ?_
            refine lv_aload_n hx hb dX4_shift_88 rfl (lv_at hl 3 rfl) ?_
            refine va_get (D := dd) (ci := 4) (C := RX4) (T := TX4) (N := 4) (v := .ref qr) hx hb hts hiX4 hown hK hP 0 rfl rfl 0 (by decide) (hts (.fieldLink RX4 10 "SliceDrift" "rows" "LSliceDrift$Rows;") (by decide +kernel)) (fun _ h9 => h9) rfl dX4_shift_89 ?_
            refine lv_iload_n hx hb dX4_shift_92 rfl (lv_at hl 4 rfl) ?_
            refine lv_iconst (v := 1) hx hb dX4_shift_93 (by decide) ?_
            refine tpi (show (1 : Int32) = nI 1 from rfl) ?_
            refine clVl (As := [.int (nI u), .int (nI 1)]) (rest := [.long (lN (mk (fun i => win tI f b i && ak sI g i) n))]) (b := qr) (vc := (RX2, TX2, 4)) ⟨hx, hb, hml, hown, hts⟩ (c_withSort l dd cyI cyJ cyZ qr qt qh n hi tI hv u 1 hu5 (by decide)) gX4_shift_X2_withSort (ci := 2) rfl (q0 := 0) rfl (n := 2) rfl ⟨rfl, rfl⟩ (by decide +kernel) ⟨Nat.le_of_ble_eq_true rfl, Nat.le_of_ble_eq_true rfl⟩ hN hK (hP.sub [1, 2, 3] rfl) rfl hl.1 rfl (Nat.le_of_ble_eq_true rfl) dX4_shift_94 ⟨Nat.le_of_ble_eq_true rfl, Nat.le_of_ble_eq_true rfl⟩ (fun r4 hr4 => ?_)
            rw [hH u hu5 1 (by decide)] at hr4
            subst hr4
            refine lv_land hx hb dX4_shift_97 ?_
            refine tpl (show ((lN (mk (fun i => win tI f b i && ak sI g i) n)) &&& (lN (mk (hav sI u 1) n)) : Int64) = lN (mk (shP (win tI f b) sI u g 1) n) from lN_and hn) ?_
            refine lv_lstore (lv' := [(13, .long (lN (mk (shP (win tI f b) sI u g 1) n))), (11, .long (lN (mk (ak sI g) n))), (9, .long (lN (mk (hav sI g 1) n))), (7, .long (lN (mk (win tI f b) n))), (0, .ref qx), (1, .int (nI u)), (2, .int (nI g)), (3, .int f), (4, .int b), (5, .int t), (6, .int pt)]) hx hb dX4_shift_98 hl (by decide) rfl (fun ls hl => ?_)
            refine lv_lload hx hb dX4_shift_100 (lv_at hl 3 rfl) ?_
            refine lv_lload hx hb dX4_shift_102 (lv_at hl 1 rfl) ?_
            refine lv_land hx hb dX4_shift_104 ?_
            refine tpl (show ((lN (mk (win tI f b) n)) &&& (lN (mk (ak sI g) n)) : Int64) = lN (mk (fun i => win tI f b i && ak sI g i) n) from lN_and hn) ?_
            refine lv_aload_n hx hb dX4_shift_105 rfl (lv_at hl 4 rfl) ?_
            refine va_get (D := dd) (ci := 4) (C := RX4) (T := TX4) (N := 4) (v := .ref qr) hx hb hts hiX4 hown hK hP 0 rfl rfl 0 (by decide) (hts (.fieldLink RX4 10 "SliceDrift" "rows" "LSliceDrift$Rows;") (by decide +kernel)) (fun _ h9 => h9) rfl dX4_shift_106 ?_
            refine lv_iload_n hx hb dX4_shift_109 rfl (lv_at hl 5 rfl) ?_
            refine lv_iconst (v := 0) hx hb dX4_shift_110 (by decide) ?_
            refine tpi (show (0 : Int32) = nI 0 from rfl) ?_
            refine clVl (As := [.int (nI u), .int (nI 0)]) (rest := [.long (lN (mk (fun i => win tI f b i && ak sI g i) n))]) (b := qr) (vc := (RX2, TX2, 4)) ⟨hx, hb, hml, hown, hts⟩ (c_withSort l dd cyI cyJ cyZ qr qt qh n hi tI hv u 0 hu5 (by decide)) gX4_shift_X2_withSort (ci := 2) rfl (q0 := 0) rfl (n := 2) rfl ⟨rfl, rfl⟩ (by decide +kernel) ⟨Nat.le_of_ble_eq_true rfl, Nat.le_of_ble_eq_true rfl⟩ hN hK (hP.sub [1, 2, 3] rfl) rfl hl.1 rfl (Nat.le_of_ble_eq_true rfl) dX4_shift_111 ⟨Nat.le_of_ble_eq_true rfl, Nat.le_of_ble_eq_true rfl⟩ (fun r5 hr5 => ?_)
            rw [hH u hu5 0 (by decide)] at hr5
            subst hr5
            refine lv_land hx hb dX4_shift_114 ?_
            refine tpl (show ((lN (mk (fun i => win tI f b i && ak sI g i) n)) &&& (lN (mk (hav sI u 0) n)) : Int64) = lN (mk (shP (win tI f b) sI u g 0) n) from lN_and hn) ?_
            refine lv_lstore (lv' := [(15, .long (lN (mk (shP (win tI f b) sI u g 0) n))), (13, .long (lN (mk (shP (win tI f b) sI u g 1) n))), (11, .long (lN (mk (ak sI g) n))), (9, .long (lN (mk (hav sI g 1) n))), (7, .long (lN (mk (win tI f b) n))), (0, .ref qx), (1, .int (nI u)), (2, .int (nI g)), (3, .int f), (4, .int b), (5, .int t), (6, .int pt)]) hx hb dX4_shift_115 hl (by decide) rfl (fun ls hl => ?_)
            refine lv_lload hx hb dX4_shift_117 (lv_at hl 2 rfl) ?_
            refine lv_aload_n hx hb dX4_shift_119 rfl (lv_at hl 5 rfl) ?_
            refine va_get (D := dd) (ci := 4) (C := RX4) (T := TX4) (N := 4) (v := .ref qr) hx hb hts hiX4 hown hK hP 0 rfl rfl 0 (by decide) (hts (.fieldLink RX4 10 "SliceDrift" "rows" "LSliceDrift$Rows;") (by decide +kernel)) (fun _ h9 => h9) rfl dX4_shift_120 ?_
            refine lv_iload hx hb dX4_shift_123 (lv_at hl 9 rfl) ?_
            refine lv_iload hx hb dX4_shift_125 (lv_at hl 10 rfl) ?_
            refine clVl (As := [.int b, .int t]) (rest := [.long (lN (mk (ak sI g) n))]) (b := qr) (vc := (RX2, TX2, 4)) ⟨hx, hb, hml, hown, hts⟩ (c_between l dd cyI cyJ cyZ qr qt qh n hi tI hv b t hn) gX4_shift_X2_between (ci := 2) rfl (q0 := 0) rfl (n := 2) rfl ⟨rfl, rfl⟩ (by decide +kernel) ⟨Nat.le_of_ble_eq_true rfl, Nat.le_of_ble_eq_true rfl⟩ hN hK (hP.sub [1, 2, 3] rfl) rfl hl.1 rfl (Nat.le_of_ble_eq_true rfl) dX4_shift_127 ⟨Nat.le_of_ble_eq_true rfl, Nat.le_of_ble_eq_true rfl⟩ (fun r6 hr6 => ?_)
            subst hr6
            refine lv_land hx hb dX4_shift_130 ?_
            refine tpl (show ((lN (mk (ak sI g) n)) &&& (lN (mk (win tI b t) n)) : Int64) = lN (mk (shL (win tI b t) sI g) n) from lN_and hn) ?_
            refine lv_lstore (lv' := [(17, .long (lN (mk (shL (win tI b t) sI g) n))), (15, .long (lN (mk (shP (win tI f b) sI u g 0) n))), (13, .long (lN (mk (shP (win tI f b) sI u g 1) n))), (11, .long (lN (mk (ak sI g) n))), (9, .long (lN (mk (hav sI g 1) n))), (7, .long (lN (mk (win tI f b) n))), (0, .ref qx), (1, .int (nI u)), (2, .int (nI g)), (3, .int f), (4, .int b), (5, .int t), (6, .int pt)]) hx hb dX4_shift_131 hl (by decide) rfl (fun ls hl => ?_)
            refine lv_lload hx hb dX4_shift_133 (lv_at hl 2 rfl) ?_
            refine lv_lconst (v := 0) hx hb dX4_shift_135 (by decide) ?_
            refine W.lcmp hx hb dX4_shift_136 ?_
            refine lv_if_eq (tgt := 154) hx hb dX4_shift_137 (by decide) (fun q1 => ?_) (fun q1 => ?_)
            · obtain ⟨sa0, sa1, sa2, ss0, ss1, ss2⟩ := hXW.2.1
              exact exT hx hb hlt0 hlocks hown (hts (.classLink RX4 133 AEx) (by decide +kernel)) (hts (.initialized AEx) (by decide +kernel)) (fun w hw => hts w (List.mem_cons_of_mem _ (List.mem_append_right _ hw))) hXW htab (hl.1.trans hml.symm) ss2 dX4_shift_154 dX4_shift_157 dX4_shift_158 dX4_shift_160 dX4_shift_163 ⟨by decide, by decide, by decide, by decide⟩ (⟨hok, ⟨hck3, hck4⟩, by rw [ea, eb]; exact Or.inr (Or.inl (mk0_cnt.mp ((lN0 (mk62 _ hn)).mp q1)))⟩)
            · refine lv_lload hx hb dX4_shift_140 (lv_at hl 1 rfl) ?_
              refine lv_lconst (v := 0) hx hb dX4_shift_142 (by decide) ?_
              refine W.lcmp hx hb dX4_shift_143 ?_
              refine lv_if_eq (tgt := 154) hx hb dX4_shift_144 (by decide) (fun q2 => ?_) (fun q2 => ?_)
              · obtain ⟨sa0, sa1, sa2, ss0, ss1, ss2⟩ := hXW.2.1
                exact exT hx hb hlt0 hlocks hown (hts (.classLink RX4 133 AEx) (by decide +kernel)) (hts (.initialized AEx) (by decide +kernel)) (fun w hw => hts w (List.mem_cons_of_mem _ (List.mem_append_right _ hw))) hXW htab (hl.1.trans hml.symm) ss2 dX4_shift_154 dX4_shift_157 dX4_shift_158 dX4_shift_160 dX4_shift_163 ⟨by decide, by decide, by decide, by decide⟩ (⟨hok, ⟨hck3, hck4⟩, by rw [ea, eb]; exact Or.inl (mk0_cnt.mp ((lN0 (mk62 _ hn)).mp q2))⟩)
              · refine lv_lload hx hb dX4_shift_147 (lv_at hl 0 rfl) ?_
                refine lv_lconst (v := 0) hx hb dX4_shift_149 (by decide) ?_
                refine W.lcmp hx hb dX4_shift_150 ?_
                refine lv_if_ne (tgt := 164) hx hb dX4_shift_151 (by decide) (fun q3 => ?_) (fun q3 => ?_)
                · have z1 : ¬ cnt (shP (win tI f b) sI u g 1) n = 0 := fun h => q1 ((lN0 (mk62 _ hn)).mpr (mk0_cnt.mpr h))
                  have z2 : ¬ cnt (shP (win tI f b) sI u g 0) n = 0 := fun h => q2 ((lN0 (mk62 _ hn)).mpr (mk0_cnt.mpr h))
                  have z3 : ¬ cnt (shL (win tI b t) sI g) n = 0 := fun h => q3 ((lN0 (mk62 _ hn)).mpr (mk0_cnt.mpr h))
                  have hx0 : ¬ shiftX n tI sI (nI u) (nI g) f b t pt := fun x => by have h9 := x.2.2; rw [ea, eb] at h9; exact h9.elim z2 (fun h => h.elim z1 z3)
                  obtain ⟨a0, ea0⟩ : ∃ a0, a0 = cnt (shP (win tI f b) sI u g 0) n := ⟨_, rfl⟩
                  have la0 : a0 ≤ 48 := by rw [ea0]; exact Nat.le_trans (cnt_le _ _) hn
                  obtain ⟨a1, ea1⟩ : ∃ a1, a1 = cnt (shP (win tI f b) sI u g 1) n := ⟨_, rfl⟩
                  have la1 : a1 ≤ 48 := by rw [ea1]; exact Nat.le_trans (cnt_le _ _) hn
                  obtain ⟨a2, ea2⟩ : ∃ a2, a2 = cnt (shQ (win tI f b) sI u g 0) n := ⟨_, rfl⟩
                  have la2 : a2 ≤ 48 := by rw [ea2]; exact Nat.le_trans (cnt_le _ _) hn
                  obtain ⟨a3, ea3⟩ : ∃ a3, a3 = cnt (shQ (win tI f b) sI u g 1) n := ⟨_, rfl⟩
                  have la3 : a3 ≤ 48 := by rw [ea3]; exact Nat.le_trans (cnt_le _ _) hn
                  obtain ⟨a4, ea4⟩ : ∃ a4, a4 = cnt (shL (win tI b t) sI g) n := ⟨_, rfl⟩
                  have la4 : a4 ≤ 48 := by rw [ea4]; exact Nat.le_trans (cnt_le _ _) hn
                  obtain ⟨a5, ea5⟩ : ∃ a5, a5 = cnt (shM (win tI b t) sI g) n := ⟨_, rfl⟩
                  have la5 : a5 ≤ 48 := by rw [ea5]; exact Nat.le_trans (cnt_le _ _) hn
                  rw [← ea1] at z1
                  rw [← ea0] at z2
                  rw [← ea4] at z3
                  refine lv_lload hx hb dX4_shift_164 (lv_at hl 2 rfl) ?_
                  refine clSi (As := [.long (lN (mk (shP (win tI f b) sI u g 1) n))]) (rest := []) ⟨hx, hb, hml, hown, hts⟩ (c_bitCount l dd cyI cyJ cyZ (mk (shP (win tI f b) sI u g 1) n) (mk64 _ hn)) gX4_shift_J13_bitCount_95d88 (n := 1) rfl ⟨rfl, rfl⟩ (by decide +kernel) ⟨Nat.le_of_ble_eq_true rfl, Nat.le_of_ble_eq_true rfl⟩ hN hK (hP.sub [] rfl) rfl hl.1 rfl (Nat.le_of_ble_eq_true rfl) dX4_shift_166 ⟨Nat.le_of_ble_eq_true rfl, Nat.le_of_ble_eq_true rfl⟩ (fun r7 hr7 => ?_)
                  have hr7 : r7 = nI (cnt (shP (win tI f b) sI u g 1) n) := by rw [hr7, cnt_mk _ (Nat.le_trans hn (by decide))]
                  subst hr7
                  refine tpi (show (nI (cnt (shP (win tI f b) sI u g 1) n) : Int32) = nI a1 from by rw [ea1]) ?_
                  refine lv_istore (lv' := [(19, .int (nI a1)), (17, .long (lN (mk (shL (win tI b t) sI g) n))), (15, .long (lN (mk (shP (win tI f b) sI u g 0) n))), (13, .long (lN (mk (shP (win tI f b) sI u g 1) n))), (11, .long (lN (mk (ak sI g) n))), (9, .long (lN (mk (hav sI g 1) n))), (7, .long (lN (mk (win tI f b) n))), (0, .ref qx), (1, .int (nI u)), (2, .int (nI g)), (3, .int f), (4, .int b), (5, .int t), (6, .int pt)]) hx hb dX4_shift_169 hl (by decide) rfl (fun ls hl => ?_)
                  refine lv_lload hx hb dX4_shift_171 (lv_at hl 2 rfl) ?_
                  refine clSi (As := [.long (lN (mk (shP (win tI f b) sI u g 0) n))]) (rest := []) ⟨hx, hb, hml, hown, hts⟩ (c_bitCount l dd cyI cyJ cyZ (mk (shP (win tI f b) sI u g 0) n) (mk64 _ hn)) gX4_shift_J13_bitCount_95d88 (n := 1) rfl ⟨rfl, rfl⟩ (by decide +kernel) ⟨Nat.le_of_ble_eq_true rfl, Nat.le_of_ble_eq_true rfl⟩ hN hK (hP.sub [] rfl) rfl hl.1 rfl (Nat.le_of_ble_eq_true rfl) dX4_shift_173 ⟨Nat.le_of_ble_eq_true rfl, Nat.le_of_ble_eq_true rfl⟩ (fun r8 hr8 => ?_)
                  have hr8 : r8 = nI (cnt (shP (win tI f b) sI u g 0) n) := by rw [hr8, cnt_mk _ (Nat.le_trans hn (by decide))]
                  subst hr8
                  refine tpi (show (nI (cnt (shP (win tI f b) sI u g 0) n) : Int32) = nI a0 from by rw [ea0]) ?_
                  refine lv_istore (lv' := [(20, .int (nI a0)), (19, .int (nI a1)), (17, .long (lN (mk (shL (win tI b t) sI g) n))), (15, .long (lN (mk (shP (win tI f b) sI u g 0) n))), (13, .long (lN (mk (shP (win tI f b) sI u g 1) n))), (11, .long (lN (mk (ak sI g) n))), (9, .long (lN (mk (hav sI g 1) n))), (7, .long (lN (mk (win tI f b) n))), (0, .ref qx), (1, .int (nI u)), (2, .int (nI g)), (3, .int f), (4, .int b), (5, .int t), (6, .int pt)]) hx hb dX4_shift_176 hl (by decide) rfl (fun ls hl => ?_)
                  refine lv_lload hx hb dX4_shift_178 (lv_at hl 2 rfl) ?_
                  refine clSi (As := [.long (lN (mk (shL (win tI b t) sI g) n))]) (rest := []) ⟨hx, hb, hml, hown, hts⟩ (c_bitCount l dd cyI cyJ cyZ (mk (shL (win tI b t) sI g) n) (mk64 _ hn)) gX4_shift_J13_bitCount_95d88 (n := 1) rfl ⟨rfl, rfl⟩ (by decide +kernel) ⟨Nat.le_of_ble_eq_true rfl, Nat.le_of_ble_eq_true rfl⟩ hN hK (hP.sub [] rfl) rfl hl.1 rfl (Nat.le_of_ble_eq_true rfl) dX4_shift_180 ⟨Nat.le_of_ble_eq_true rfl, Nat.le_of_ble_eq_true rfl⟩ (fun r9 hr9 => ?_)
                  have hr9 : r9 = nI (cnt (shL (win tI b t) sI g) n) := by rw [hr9, cnt_mk _ (Nat.le_trans hn (by decide))]
                  subst hr9
                  refine tpi (show (nI (cnt (shL (win tI b t) sI g) n) : Int32) = nI a4 from by rw [ea4]) ?_
                  refine lv_istore (lv' := [(21, .int (nI a4)), (20, .int (nI a0)), (19, .int (nI a1)), (17, .long (lN (mk (shL (win tI b t) sI g) n))), (15, .long (lN (mk (shP (win tI f b) sI u g 0) n))), (13, .long (lN (mk (shP (win tI f b) sI u g 1) n))), (11, .long (lN (mk (ak sI g) n))), (9, .long (lN (mk (hav sI g 1) n))), (7, .long (lN (mk (win tI f b) n))), (0, .ref qx), (1, .int (nI u)), (2, .int (nI g)), (3, .int f), (4, .int b), (5, .int t), (6, .int pt)]) hx hb dX4_shift_183 hl (by decide) rfl (fun ls hl => ?_)
                  refine lv_lload hx hb dX4_shift_185 (lv_at hl 4 rfl) ?_
                  refine lv_lload hx hb dX4_shift_187 (lv_at hl 7 rfl) ?_
                  refine lv_land hx hb dX4_shift_189 ?_
                  refine tpl (show ((lN (mk (shP (win tI f b) sI u g 0) n)) &&& (lN (mk (hav sI g 1) n)) : Int64) = lN (mk (shQ (win tI f b) sI u g 0) n) from lN_and hn) ?_
                  refine clSi (As := [.long (lN (mk (shQ (win tI f b) sI u g 0) n))]) (rest := []) ⟨hx, hb, hml, hown, hts⟩ (c_bitCount l dd cyI cyJ cyZ (mk (shQ (win tI f b) sI u g 0) n) (mk64 _ hn)) gX4_shift_J13_bitCount_95d88 (n := 1) rfl ⟨rfl, rfl⟩ (by decide +kernel) ⟨Nat.le_of_ble_eq_true rfl, Nat.le_of_ble_eq_true rfl⟩ hN hK (hP.sub [] rfl) rfl hl.1 rfl (Nat.le_of_ble_eq_true rfl) dX4_shift_190 ⟨Nat.le_of_ble_eq_true rfl, Nat.le_of_ble_eq_true rfl⟩ (fun r10 hr10 => ?_)
                  have hr10 : r10 = nI (cnt (shQ (win tI f b) sI u g 0) n) := by rw [hr10, cnt_mk _ (Nat.le_trans hn (by decide))]
                  subst hr10
                  refine tpi (show (nI (cnt (shQ (win tI f b) sI u g 0) n) : Int32) = nI a2 from by rw [ea2]) ?_
                  refine lv_istore (lv' := [(22, .int (nI a2)), (21, .int (nI a4)), (20, .int (nI a0)), (19, .int (nI a1)), (17, .long (lN (mk (shL (win tI b t) sI g) n))), (15, .long (lN (mk (shP (win tI f b) sI u g 0) n))), (13, .long (lN (mk (shP (win tI f b) sI u g 1) n))), (11, .long (lN (mk (ak sI g) n))), (9, .long (lN (mk (hav sI g 1) n))), (7, .long (lN (mk (win tI f b) n))), (0, .ref qx), (1, .int (nI u)), (2, .int (nI g)), (3, .int f), (4, .int b), (5, .int t), (6, .int pt)]) hx hb dX4_shift_193 hl (by decide) rfl (fun ls hl => ?_)
                  refine lv_lload hx hb dX4_shift_195 (lv_at hl 6 rfl) ?_
                  refine lv_lload hx hb dX4_shift_197 (lv_at hl 8 rfl) ?_
                  refine lv_land hx hb dX4_shift_199 ?_
                  refine tpl (show ((lN (mk (shP (win tI f b) sI u g 1) n)) &&& (lN (mk (hav sI g 1) n)) : Int64) = lN (mk (shQ (win tI f b) sI u g 1) n) from lN_and hn) ?_
                  refine clSi (As := [.long (lN (mk (shQ (win tI f b) sI u g 1) n))]) (rest := []) ⟨hx, hb, hml, hown, hts⟩ (c_bitCount l dd cyI cyJ cyZ (mk (shQ (win tI f b) sI u g 1) n) (mk64 _ hn)) gX4_shift_J13_bitCount_95d88 (n := 1) rfl ⟨rfl, rfl⟩ (by decide +kernel) ⟨Nat.le_of_ble_eq_true rfl, Nat.le_of_ble_eq_true rfl⟩ hN hK (hP.sub [] rfl) rfl hl.1 rfl (Nat.le_of_ble_eq_true rfl) dX4_shift_200 ⟨Nat.le_of_ble_eq_true rfl, Nat.le_of_ble_eq_true rfl⟩ (fun r11 hr11 => ?_)
                  have hr11 : r11 = nI (cnt (shQ (win tI f b) sI u g 1) n) := by rw [hr11, cnt_mk _ (Nat.le_trans hn (by decide))]
                  subst hr11
                  refine tpi (show (nI (cnt (shQ (win tI f b) sI u g 1) n) : Int32) = nI a3 from by rw [ea3]) ?_
                  refine lv_iload hx hb dX4_shift_203 (lv_at hl 2 rfl) ?_
                  refine lv_imul hx hb dX4_shift_205 ?_
                  refine tpi (show ((nI a3) * (nI a0) : Int32) = nI (a3 * a0) from pk_mul _ _) ?_
                  refine lv_iload hx hb dX4_shift_206 (lv_at hl 0 rfl) ?_
                  refine lv_iload hx hb dX4_shift_208 (lv_at hl 3 rfl) ?_
                  refine lv_imul hx hb dX4_shift_210 ?_
                  refine tpi (show ((nI a2) * (nI a1) : Int32) = nI (a2 * a1) from pk_mul _ _) ?_
                  refine lv_isub hx hb dX4_shift_211 ?_
                  refine tpi (show ((nI (a3 * a0)) - (nI (a2 * a1)) : Int32) = Int32.ofInt (((a3 * a0 : Nat) : Int) - ((a2 * a1 : Nat) : Int)) from isub_of _ _) ?_
                  have ba3a0 : a3 * a0 ≤ 48 * 48 := Nat.mul_le_mul la3 la0
                  have ba2a1 : a2 * a1 ≤ 48 * 48 := Nat.mul_le_mul la2 la1
                  have ba5a0 : a5 * a0 ≤ 48 * 48 := Nat.mul_le_mul la5 la0
                  have ba2a4 : a2 * a4 ≤ 48 * 48 := Nat.mul_le_mul la2 la4
                  have eDn : shDn (win tI f b) (win tI b t) sI u g n = (((a3 * a0 : Nat) : Int) - ((a2 * a1 : Nat) : Int)) * ((a4 : Nat) : Int) := by unfold shDn; rw [← ea0, ← ea1, ← ea2, ← ea3, ← ea4]
                  have eUp : shUp (win tI f b) (win tI b t) sI u g n = (((a5 * a0 : Nat) : Int) - ((a2 * a4 : Nat) : Int)) * ((a1 : Nat) : Int) := by unfold shUp; rw [← ea0, ← ea1, ← ea2, ← ea4, ← ea5]
                  refine lv_istore (lv' := [(23, .int (Int32.ofInt (((a3 * a0 : Nat) : Int) - ((a2 * a1 : Nat) : Int)))), (22, .int (nI a2)), (21, .int (nI a4)), (20, .int (nI a0)), (19, .int (nI a1)), (17, .long (lN (mk (shL (win tI b t) sI g) n))), (15, .long (lN (mk (shP (win tI f b) sI u g 0) n))), (13, .long (lN (mk (shP (win tI f b) sI u g 1) n))), (11, .long (lN (mk (ak sI g) n))), (9, .long (lN (mk (hav sI g 1) n))), (7, .long (lN (mk (win tI f b) n))), (0, .ref qx), (1, .int (nI u)), (2, .int (nI g)), (3, .int f), (4, .int b), (5, .int t), (6, .int pt)]) hx hb dX4_shift_212 hl (by decide) rfl (fun ls hl => ?_)
                  refine lv_iload hx hb dX4_shift_214 (lv_at hl 0 rfl) ?_
                  refine lv_if_ne (tgt := 223) hx hb dX4_shift_216 (by decide) (fun q4 => ?_) (fun q4 => ?_)
                  · have za : ¬ (((a3 * a0 : Nat) : Int) - ((a2 * a1 : Nat) : Int)) = 0 := fun h => q4 ((iI_0 (by omega)).mpr h)
                    have zd : ¬ (((a3 * a0 : Nat) : Int) - ((a2 * a1 : Nat) : Int)) * ((a4 : Nat) : Int) = 0 := Int.mul_ne_zero za (by omega)
                    refine lv_lload hx hb dX4_shift_223 (lv_at hl 5 rfl) ?_
                    refine lv_lload hx hb dX4_shift_225 (lv_at hl 9 rfl) ?_
                    refine lv_land hx hb dX4_shift_227 ?_
                    refine tpl (show ((lN (mk (shL (win tI b t) sI g) n)) &&& (lN (mk (hav sI g 1) n)) : Int64) = lN (mk (shM (win tI b t) sI g) n) from lN_and hn) ?_
                    refine clSi (As := [.long (lN (mk (shM (win tI b t) sI g) n))]) (rest := []) ⟨hx, hb, hml, hown, hts⟩ (c_bitCount l dd cyI cyJ cyZ (mk (shM (win tI b t) sI g) n) (mk64 _ hn)) gX4_shift_J13_bitCount_95d88 (n := 1) rfl ⟨rfl, rfl⟩ (by decide +kernel) ⟨Nat.le_of_ble_eq_true rfl, Nat.le_of_ble_eq_true rfl⟩ hN hK (hP.sub [] rfl) rfl hl.1 rfl (Nat.le_of_ble_eq_true rfl) dX4_shift_228 ⟨Nat.le_of_ble_eq_true rfl, Nat.le_of_ble_eq_true rfl⟩ (fun r12 hr12 => ?_)
                    have hr12 : r12 = nI (cnt (shM (win tI b t) sI g) n) := by rw [hr12, cnt_mk _ (Nat.le_trans hn (by decide))]
                    subst hr12
                    refine tpi (show (nI (cnt (shM (win tI b t) sI g) n) : Int32) = nI a5 from by rw [ea5]) ?_
                    refine lv_iload hx hb dX4_shift_231 (lv_at hl 3 rfl) ?_
                    refine lv_imul hx hb dX4_shift_233 ?_
                    refine tpi (show ((nI a5) * (nI a0) : Int32) = nI (a5 * a0) from pk_mul _ _) ?_
                    refine lv_iload hx hb dX4_shift_234 (lv_at hl 1 rfl) ?_
                    refine lv_iload hx hb dX4_shift_236 (lv_at hl 2 rfl) ?_
                    refine lv_imul hx hb dX4_shift_238 ?_
                    refine tpi (show ((nI a2) * (nI a4) : Int32) = nI (a2 * a4) from pk_mul _ _) ?_
                    refine lv_isub hx hb dX4_shift_239 ?_
                    refine tpi (show ((nI (a5 * a0)) - (nI (a2 * a4)) : Int32) = Int32.ofInt (((a5 * a0 : Nat) : Int) - ((a2 * a4 : Nat) : Int)) from isub_of _ _) ?_
                    have n1 := iB la5 la0 la2 la4 la1
                    have n2 := iB la3 la0 la2 la1 la4
                    refine lv_istore (lv' := [(24, .int (Int32.ofInt (((a5 * a0 : Nat) : Int) - ((a2 * a4 : Nat) : Int)))), (23, .int (Int32.ofInt (((a3 * a0 : Nat) : Int) - ((a2 * a1 : Nat) : Int)))), (22, .int (nI a2)), (21, .int (nI a4)), (20, .int (nI a0)), (19, .int (nI a1)), (17, .long (lN (mk (shL (win tI b t) sI g) n))), (15, .long (lN (mk (shP (win tI f b) sI u g 0) n))), (13, .long (lN (mk (shP (win tI f b) sI u g 1) n))), (11, .long (lN (mk (ak sI g) n))), (9, .long (lN (mk (hav sI g 1) n))), (7, .long (lN (mk (win tI f b) n))), (0, .ref qx), (1, .int (nI u)), (2, .int (nI g)), (3, .int f), (4, .int b), (5, .int t), (6, .int pt)]) hx hb dX4_shift_240 hl (by decide) rfl (fun ls hl => ?_)
                    refine lv_iload hx hb dX4_shift_242 (lv_at hl 0 rfl) ?_
                    refine lv_iload hx hb dX4_shift_244 (lv_at hl 5 rfl) ?_
                    refine lv_imul hx hb dX4_shift_246 ?_
                    refine tpi (show ((Int32.ofInt (((a5 * a0 : Nat) : Int) - ((a2 * a4 : Nat) : Int))) * (nI a1) : Int32) = Int32.ofInt ((((a5 * a0 : Nat) : Int) - ((a2 * a4 : Nat) : Int)) * ((a1 : Nat) : Int)) from imul_of _ _) ?_
                    refine lv_i2l hx hb dX4_shift_247 rfl ?_
                    refine tpl (show ((Int32.ofInt ((((a5 * a0 : Nat) : Int) - ((a2 * a4 : Nat) : Int)) * ((a1 : Nat) : Int))).toInt64 : Int64) = lI ((((a5 * a0 : Nat) : Int) - ((a2 * a4 : Nat) : Int)) * ((a1 : Nat) : Int)) from iI_l (iB31 la5 la0 la2 la4 la1)) ?_
                    refine lv_iload hx hb dX4_shift_248 (lv_at hl 1 rfl) ?_
                    refine lv_iload hx hb dX4_shift_250 (lv_at hl 3 rfl) ?_
                    refine lv_imul hx hb dX4_shift_252 ?_
                    refine tpi (show ((Int32.ofInt (((a3 * a0 : Nat) : Int) - ((a2 * a1 : Nat) : Int))) * (nI a4) : Int32) = Int32.ofInt ((((a3 * a0 : Nat) : Int) - ((a2 * a1 : Nat) : Int)) * ((a4 : Nat) : Int)) from imul_of _ _) ?_
                    refine lv_i2l hx hb dX4_shift_253 rfl ?_
                    refine tpl (show ((Int32.ofInt ((((a3 * a0 : Nat) : Int) - ((a2 * a1 : Nat) : Int)) * ((a4 : Nat) : Int))).toInt64 : Int64) = lI ((((a3 * a0 : Nat) : Int) - ((a2 * a1 : Nat) : Int)) * ((a4 : Nat) : Int)) from iI_l (iB31 la3 la0 la2 la1 la4)) ?_
                    refine lv_iload hx hb dX4_shift_254 (lv_at hl 18 rfl) ?_
                    refine clSl (As := [.long (lI ((((a5 * a0 : Nat) : Int) - ((a2 * a4 : Nat) : Int)) * ((a1 : Nat) : Int))), .long (lI ((((a3 * a0 : Nat) : Int) - ((a2 * a1 : Nat) : Int)) * ((a4 : Nat) : Int))), .int pt]) (rest := []) ⟨hx, hb, hml, hown, hts⟩ (c_lowest l dd cyI cyJ cyZ ((((a5 * a0 : Nat) : Int) - ((a2 * a4 : Nat) : Int)) * ((a1 : Nat) : Int)) ((((a3 * a0 : Nat) : Int) - ((a2 * a1 : Nat) : Int)) * ((a4 : Nat) : Int)) pt n1 n2 zd) gX4_shift_X4_lowest (n := 3) rfl ⟨rfl, rfl⟩ (by decide +kernel) ⟨Nat.le_of_ble_eq_true rfl, Nat.le_of_ble_eq_true rfl⟩ hN hK (hP.sub [] rfl) rfl hl.1 rfl (Nat.le_of_ble_eq_true rfl) dX4_shift_256 ⟨Nat.le_of_ble_eq_true rfl, Nat.le_of_ble_eq_true rfl⟩ (fun rr hrr => ?_)
                    exact exL hx hb hr hlocks dX4_shift_259 (⟨hx0, by rw [hrr]; rw [shiftR, if_pos (show shOk (nI u) (nI g) from hok), if_pos (show inW f b t ∧ inP pt from ⟨hck3, hck4⟩), ea, eb, if_neg (by rw [eDn]; exact zd), eUp, eDn]⟩)
                  · have za : (((a3 * a0 : Nat) : Int) - ((a2 * a1 : Nat) : Int)) = 0 := (iI_0 (by omega)).mp q4
                    refine lv_ldc2 (v := (-1000003)) hx hb hown (hts (.constantLong RX4 170 (-1000003)) (by decide +kernel)) dX4_shift_219 ?_
                    exact exL hx hb hr hlocks dX4_shift_222 (⟨hx0, by rw [shiftR, if_pos (show shOk (nI u) (nI g) from hok), if_pos (show inW f b t ∧ inP pt from ⟨hck3, hck4⟩), ea, eb, if_pos (by rw [eDn, za, Int.zero_mul])]⟩)
                · obtain ⟨sa0, sa1, sa2, ss0, ss1, ss2⟩ := hXW.2.1
                  exact exT hx hb hlt0 hlocks hown (hts (.classLink RX4 133 AEx) (by decide +kernel)) (hts (.initialized AEx) (by decide +kernel)) (fun w hw => hts w (List.mem_cons_of_mem _ (List.mem_append_right _ hw))) hXW htab (hl.1.trans hml.symm) ss2 dX4_shift_154 dX4_shift_157 dX4_shift_158 dX4_shift_160 dX4_shift_163 ⟨by decide, by decide, by decide, by decide⟩ (⟨hok, ⟨hck3, hck4⟩, by rw [ea, eb]; exact Or.inr (Or.inr (mk0_cnt.mp ((lN0 (mk62 _ hn)).mp q3)))⟩)
          · have hck4 : ¬ (inP pt) := hck4.elim (fun h => absurd (h.1.symm.trans qck4) (by decide)) (fun h => h.2)
            refine lv_ldc2 (v := (-1000002)) hx hb hown (hts (.constantLong RX4 114 (-1000002)) (by decide +kernel)) dX4_shift_42 ?_
            exact exL hx hb hr hlocks dX4_shift_45 (⟨fun x => hck4 x.2.1.2, by rw [shiftR, if_pos hok, if_neg (fun x : inW f b t ∧ inP pt => hck4 x.2)]⟩)
      · refine lv_ldc2 (v := (-1000001)) hx hb hown (hts (.constantLong RX4 109 (-1000001)) (by decide +kernel)) dX4_shift_19 ?_
        exact exL hx hb hr hlocks dX4_shift_22 (⟨fun x => x.1.2.2 q0, by rw [shiftR, if_neg (fun x : shOk la gu => x.2.2 q0)]⟩)
