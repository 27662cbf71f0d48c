set_option maxHeartbeats 4000000 in
set_option maxRecDepth 100000 in
theorem r_share (l : Launch) (dd : va_G) (cyI cyJ cyZ : ClassId) (qm : Nat) (a : Nat → Nat) (th ro fm sm : Int32) (ab be : Int64) (st al : Int32) (ln : Nat) (hln : ln ≤ 700) (mn hh : Nat → Int32) (hL : ∀ j, j < ln → ∃ x z : Nat, hh j = nI x ∧ mn j = nI z ∧ x ≤ 48 ∧ 0 < z ∧ z ≤ 48) (i sd pt : Int32) (sz : Nat) : Met l yX5_share wsX5_share ({ frames := 2, cells := 0, slots := 0, locals := 60 } : Room) (va_Pc [.ref qm, .int i, .int sd, .int pt] (Wr dd [(cyI, .int), (cyJ, .long), (cyZ, .boolean)] [(qm, .inr (5, mo a th ro (nI ln) fm sm ab be st al)), (a 11, .inl (cyI, 700, .inl mn)), (a 12, .inl (cyI, 700, .inl hh))] sz)) (va_Ql (S := Unit) (fun (r : Int64) (_ : Unit) => r = shareR ln mn hh i sd pt) (WQ dd [(qm, .inr (5, mo a th ro (nI ln) fm sm ab be st al)), (a 11, .inl (cyI, 700, .inl mn)), (a 12, .inl (cyI, 700, .inl hh))] sz (fun _ => [(qm, .inr (5, mo a 0 ro (nI ln) fm sm ab be st al)), (a 11, .inl (cyI, 700, .inl mn)), (a 12, .inl (cyI, 700, .inl hh))])) (va_A [(qm, .inr (5, mo a th ro (nI ln) fm sm ab be st al)), (a 11, .inl (cyI, 700, .inl mn)), (a 12, .inl (cyI, 700, .inl hh))] sz)) 0 0 (va_A [(qm, .inr (5, mo a th ro (nI ln) fm sm ab be st al)), (a 11, .inl (cyI, 700, .inl mn)), (a 12, .inl (cyI, 700, .inl hh))] sz) := by
  refine mkW (Qc := fun A => (va_Ql (S := Unit) (fun (r : Int64) (_ : Unit) => r = shareR ln mn hh i sd pt) (WQ dd [(qm, .inr (5, mo a th ro (nI ln) fm sm ab be st al)), (a 11, .inl (cyI, 700, .inl mn)), (a 12, .inl (cyI, 700, .inl hh))] sz (fun _ => [(qm, .inr (5, mo a 0 ro (nI ln) fm sm ab be st al)), (a 11, .inl (cyI, 700, .inl mn)), (a 12, .inl (cyI, 700, .inl hh))])) A)) (cc := cX5_share) (maxL := 4) (by decide) rfl (Nat.le_of_ble_eq_true rfl) (lv0 := [(0, .ref qm), (1, .int i), (2, .int sd), (3, .int pt)]) rfl ?_
  intro p e s m below meth c ls H A hx hb hr hml hown hlocks hts hmn hN hP hK hD hS hA hAe hl
  have hown : s.vm.findClass RX5 = some m.cls := hown
  have hiX5 : ∀ w ∈ wsX50, w ∈ wsX5_share := by decide +kernel
  refine lv_aload_n hx hb dX5_share_0 rfl (lv_at hl 0 rfl) ?_
  refine lv_iconst (v := 0) hx hb dX5_share_1 (by decide) ?_
  refine va_put (D := dd) (ci := 5) (v := .int 0) (ty := .int) (C := RX5) (T := TX5) (N := 30) hx hb hts hiX5 tyX5 tyX5_ok nmX5 hown hK hP hD hS 0 rfl rfl 0 (by decide) (hts (.fieldLink RX5 75 "SliceDriftModel" "thrown" "I") (by decide +kernel)) (fun _ h9 => h9) rfl (by decide +kernel) rfl rfl (Nat.le_of_ble_eq_true rfl) dX5_share_2 (fun H locs hP hD hS => ?_)
  have hP : va_P dd vwCl [(qm, .inr (5, mo a 0 ro (nI ln) fm sm ab be st al)), (a 11, .inl (cyI, 700, .inl mn)), (a 12, .inl (cyI, 700, .inl hh))] H := hP
  have hD : va_D A [(qm, .inr (5, mo a 0 ro (nI ln) fm sm ab be st al)), (a 11, .inl (cyI, 700, .inl mn)), (a 12, .inl (cyI, 700, .inl hh))] := hD
  refine lv_iload_n hx hb dX5_share_5 rfl (lv_at hl 1 rfl) ?_
  refine lv_iconst (v := 0) hx hb dX5_share_6 (by decide) ?_
  refine lv_aload_n hx hb dX5_share_7 rfl (lv_at hl 0 rfl) ?_
  refine va_get (D := dd) (ci := 5) (C := RX5) (T := TX5) (N := 30) (v := .int (nI ln)) hx hb hts hiX5 hown hK hP 0 rfl rfl 5 (by decide) (hts (.fieldLink RX5 100 "SliceDriftModel" "listed" "I") (by decide +kernel)) (fun _ h9 => h9) rfl dX5_share_8 ?_
  refine lv_iconst (v := 1) hx hb dX5_share_11 (by decide) ?_
  refine lv_isub hx hb dX5_share_12 ?_
  refine clSi (As := [.int i, .int 0, .int ((nI ln) - 1)]) (rest := []) ⟨hx, hb, hml, hown, hts⟩ (r_in l dd cyI cyJ cyZ i 0 (nI ln - 1)) gX5_share_X5_in (n := 3) rfl ⟨rfl, rfl⟩ (by decide +kernel) ⟨Nat.le_of_ble_eq_true rfl, Nat.le_of_ble_eq_true rfl⟩ hN hK (hP.sub [] rfl) rfl hl.1 rfl (Nat.le_of_ble_eq_true rfl) dX5_share_13 ⟨Nat.le_of_ble_eq_true rfl, Nat.le_of_ble_eq_true rfl⟩ (fun ck1 hck1 => ?_)
  refine lv_if_ne (tgt := 23) hx hb dX5_share_16 (by decide) (fun qck1 => ?_) (fun qck1 => ?_)
  · have hck1 : inR ln i := hck1.elim (fun h => h.2) (fun h => absurd h.1 qck1)
    refine lv_iload_n hx hb dX5_share_23 rfl (lv_at hl 2 rfl) ?_
    refine lv_iconst (v := 0) hx hb dX5_share_24 (by decide) ?_
    refine lv_iconst (v := 1) hx hb dX5_share_25 (by decide) ?_
    refine clSi (As := [.int sd, .int 0, .int 1]) (rest := []) ⟨hx, hb, hml, hown, hts⟩ (r_in l dd cyI cyJ cyZ sd 0 1) gX5_share_X5_in (n := 3) rfl ⟨rfl, rfl⟩ (by decide +kernel) ⟨Nat.le_of_ble_eq_true rfl, Nat.le_of_ble_eq_true rfl⟩ hN hK (hP.sub [] rfl) rfl hl.1 rfl (Nat.le_of_ble_eq_true rfl) dX5_share_26 ⟨Nat.le_of_ble_eq_true rfl, Nat.le_of_ble_eq_true rfl⟩ (fun ck2 hck2 => ?_)
    refine lv_if_eq (tgt := 41) hx hb dX5_share_29 (by decide) (fun qck2 => ?_) (fun qck2 => ?_)
    · have hck2 : ¬ (inP sd) := hck2.elim (fun h => absurd (h.1.symm.trans qck2) (by decide)) (fun h => h.2)
      refine lv_ldc2 (v := (-1000002)) hx hb hown (hts (.constantLong RX5 117 (-1000002)) (by decide +kernel)) dX5_share_41 ?_
      exact ewL () hx hb hr hlocks hAe hS dX5_share_44 (by rw [shareR, if_pos hck1, if_neg (fun x : inP sd ∧ inP pt => hck2 x.1)]) (hP.sub [0, 1, 2] rfl) (hD.sub [0, 1, 2] (by decide) rfl)
    · have hck2 : inP sd := hck2.elim (fun h => h.2) (fun h => absurd h.1 qck2)
      refine lv_iload_n hx hb dX5_share_32 rfl (lv_at hl 3 rfl) ?_
      refine lv_iconst (v := 0) hx hb dX5_share_33 (by decide) ?_
      refine lv_iconst (v := 1) hx hb dX5_share_34 (by decide) ?_
      refine clSi (As := [.int pt, .int 0, .int 1]) (rest := []) ⟨hx, hb, hml, hown, hts⟩ (r_in l dd cyI cyJ cyZ pt 0 1) gX5_share_X5_in (n := 3) rfl ⟨rfl, rfl⟩ (by decide +kernel) ⟨Nat.le_of_ble_eq_true rfl, Nat.le_of_ble_eq_true rfl⟩ hN hK (hP.sub [] rfl) rfl hl.1 rfl (Nat.le_of_ble_eq_true rfl) dX5_share_35 ⟨Nat.le_of_ble_eq_true rfl, Nat.le_of_ble_eq_true rfl⟩ (fun ck3 hck3 => ?_)
      refine lv_if_ne (tgt := 45) hx hb dX5_share_38 (by decide) (fun qck3 => ?_) (fun qck3 => ?_)
      · have hck3 : inP pt := hck3.elim (fun h => h.2) (fun h => absurd h.1 qck3)
        obtain ⟨j, hj, ek⟩ := inR_of (by omega) hck1
        subst ek
        have e1 : cl (nI j) = j := cl_nI (by omega)
        obtain ⟨x, z, eh, em, hx4, hz0, hz4⟩ := hL j hj
        have hpt := inP_of hck3
        have ex : (nI x).toInt = (x : Int) := nI_toInt (by omega)
        have ez : (nI z).toInt = (z : Int) := nI_toInt (by omega)
        refine lv_iload_n hx hb dX5_share_45 rfl (lv_at hl 2 rfl) ?_
        refine lv_if_ne (tgt := 70) hx hb dX5_share_46 (by decide) (fun q => ?_) (fun q => ?_)
        · refine lv_aload_n hx hb dX5_share_70 rfl (lv_at hl 0 rfl) ?_
          refine va_get (D := dd) (ci := 5) (C := RX5) (T := TX5) (N := 30) (v := .ref (a 12)) hx hb hts hiX5 hown hK hP 0 rfl rfl 12 (by decide) (hts (.fieldLink RX5 39 "SliceDriftModel" "hits" "[I") (by decide +kernel)) (fun _ h9 => h9) rfl dX5_share_71 ?_
          refine lv_iload_n hx hb dX5_share_74 rfl (lv_at hl 1 rfl) ?_
          refine va_iald hx hb hK hP 2 0 rfl rfl (i := nI j) (vp_in_nI (show j < 700 from (by omega)) (by decide)) dX5_share_75 ?_
          rw [nI_clamp (show j < 2 ^ 31 from Nat.lt_trans (show j < 700 from (by omega)) (by decide))]
          refine tpi (show (hh j : Int32) = nI x from eh) ?_
          refine lv_iconst (v := 2) hx hb dX5_share_76 (by decide) ?_
          refine lv_iadd hx hb dX5_share_77 ?_
          refine tpi (show ((nI x) + 2 : Int32) = nI (x + 2) from nI_add x 2) ?_
          refine lv_i2l hx hb dX5_share_78 rfl ?_
          refine tpl (show ((nI (x + 2)).toInt64 : Int64) = lI ((x + 2 : Nat) : Int) from by rw [nI_l (by omega), lN_lI]) ?_
          refine lv_aload_n hx hb dX5_share_79 rfl (lv_at hl 0 rfl) ?_
          refine va_get (D := dd) (ci := 5) (C := RX5) (T := TX5) (N := 30) (v := .ref (a 11)) hx hb hts hiX5 hown hK hP 0 rfl rfl 11 (by decide) (hts (.fieldLink RX5 36 "SliceDriftModel" "many" "[I") (by decide +kernel)) (fun _ h9 => h9) rfl dX5_share_80 ?_
          refine lv_iload_n hx hb dX5_share_83 rfl (lv_at hl 1 rfl) ?_
          refine va_iald hx hb hK hP 1 0 rfl rfl (i := nI j) (vp_in_nI (show j < 700 from (by omega)) (by decide)) dX5_share_84 ?_
          rw [nI_clamp (show j < 2 ^ 31 from Nat.lt_trans (show j < 700 from (by omega)) (by decide))]
          refine tpi (show (mn j : Int32) = nI z from em) ?_
          refine lv_iconst (v := 4) hx hb dX5_share_85 (by decide) ?_
          refine lv_iadd hx hb dX5_share_86 ?_
          refine tpi (show ((nI z) + 4 : Int32) = nI (z + 4) from nI_add z 4) ?_
          refine lv_i2l hx hb dX5_share_87 rfl ?_
          refine tpl (show ((nI (z + 4)).toInt64 : Int64) = lN (z + 4) from nI_l (by omega)) ?_
          refine lv_iload_n hx hb dX5_share_88 rfl (lv_at hl 3 rfl) ?_
          refine clSl (As := [.long (lI ((x + 2 : Nat) : Int)), .long (lN (z + 4)), .int pt]) (rest := []) ⟨hx, hb, hml, hown, hts⟩ (r_part l dd cyI cyJ cyZ ((x + 2 : Nat) : Int) (z + 4) pt (by omega) (by omega) (by omega) hpt) gX5_share_X5_part (n := 3) rfl ⟨rfl, rfl⟩ (by decide +kernel) ⟨Nat.le_of_ble_eq_true rfl, Nat.le_of_ble_eq_true rfl⟩ hN hK (hP.sub [] rfl) rfl hl.1 rfl (Nat.le_of_ble_eq_true rfl) dX5_share_89 ⟨Nat.le_of_ble_eq_true rfl, Nat.le_of_ble_eq_true rfl⟩ (fun rr hrr => ?_)
          exact ewL () hx hb hr hlocks hAe hS dX5_share_92 (by rw [hrr, shareR, if_pos (show inR ln (nI j) from hck1), if_pos (show inP sd ∧ inP pt from ⟨hck2, hck3⟩), if_neg q, e1, eh, em, ex, ez]; rfl) (hP.sub [0, 1, 2] rfl) (hD.sub [0, 1, 2] (by decide) rfl)
        · refine lv_aload_n hx hb dX5_share_49 rfl (lv_at hl 0 rfl) ?_
          refine va_get (D := dd) (ci := 5) (C := RX5) (T := TX5) (N := 30) (v := .ref (a 12)) hx hb hts hiX5 hown hK hP 0 rfl rfl 12 (by decide) (hts (.fieldLink RX5 39 "SliceDriftModel" "hits" "[I") (by decide +kernel)) (fun _ h9 => h9) rfl dX5_share_50 ?_
          refine lv_iload_n hx hb dX5_share_53 rfl (lv_at hl 1 rfl) ?_
          refine va_iald hx hb hK hP 2 0 rfl rfl (i := nI j) (vp_in_nI (show j < 700 from (by omega)) (by decide)) dX5_share_54 ?_
          rw [nI_clamp (show j < 2 ^ 31 from Nat.lt_trans (show j < 700 from (by omega)) (by decide))]
          refine tpi (show (hh j : Int32) = nI x from eh) ?_
          refine lv_i2l hx hb dX5_share_55 rfl ?_
          refine tpl (show ((nI x).toInt64 : Int64) = lI ((x : Nat) : Int) from by rw [nI_l (by omega), lN_lI]) ?_
          refine lv_aload_n hx hb dX5_share_56 rfl (lv_at hl 0 rfl) ?_
          refine va_get (D := dd) (ci := 5) (C := RX5) (T := TX5) (N := 30) (v := .ref (a 11)) hx hb hts hiX5 hown hK hP 0 rfl rfl 11 (by decide) (hts (.fieldLink RX5 36 "SliceDriftModel" "many" "[I") (by decide +kernel)) (fun _ h9 => h9) rfl dX5_share_57 ?_
          refine lv_iload_n hx hb dX5_share_60 rfl (lv_at hl 1 rfl) ?_
          refine va_iald hx hb hK hP 1 0 rfl rfl (i := nI j) (vp_in_nI (show j < 700 from (by omega)) (by decide)) dX5_share_61 ?_
          rw [nI_clamp (show j < 2 ^ 31 from Nat.lt_trans (show j < 700 from (by omega)) (by decide))]
          refine tpi (show (mn j : Int32) = nI z from em) ?_
          refine lv_i2l hx hb dX5_share_62 rfl ?_
          refine tpl (show ((nI z).toInt64 : Int64) = lN z from nI_l (by omega)) ?_
          refine lv_iload_n hx hb dX5_share_63 rfl (lv_at hl 3 rfl) ?_
          refine clSl (As := [.long (lI ((x : Nat) : Int)), .long (lN z), .int pt]) (rest := []) ⟨hx, hb, hml, hown, hts⟩ (r_part l dd cyI cyJ cyZ ((x : Nat) : Int) z pt (by omega) (by omega) hz0 hpt) gX5_share_X5_part (n := 3) rfl ⟨rfl, rfl⟩ (by decide +kernel) ⟨Nat.le_of_ble_eq_true rfl, Nat.le_of_ble_eq_true rfl⟩ hN hK (hP.sub [] rfl) rfl hl.1 rfl (Nat.le_of_ble_eq_true rfl) dX5_share_64 ⟨Nat.le_of_ble_eq_true rfl, Nat.le_of_ble_eq_true rfl⟩ (fun rr hrr => ?_)
          refine lv_goto (tgt := 92) hx hb dX5_share_67 (by decide) ?_
          exact ewL () hx hb hr hlocks hAe hS dX5_share_92 (by rw [hrr, shareR, if_pos (show inR ln (nI j) from hck1), if_pos (show inP sd ∧ inP pt from ⟨hck2, hck3⟩), if_pos q, e1, eh, em, ex, ez]) (hP.sub [0, 1, 2] rfl) (hD.sub [0, 1, 2] (by decide) rfl)
      · have hck3 : ¬ (inP pt) := hck3.elim (fun h => absurd (h.1.symm.trans qck3) (by decide)) (fun h => h.2)
        refine lv_ldc2 (v := (-1000002)) hx hb hown (hts (.constantLong RX5 117 (-1000002)) (by decide +kernel)) dX5_share_41 ?_
        exact ewL () hx hb hr hlocks hAe hS dX5_share_44 (by rw [shareR, if_pos hck1, if_neg (fun x : inP sd ∧ inP pt => hck3 x.2)]) (hP.sub [0, 1, 2] rfl) (hD.sub [0, 1, 2] (by decide) rfl)
  · have hck1 : ¬ (inR ln i) := hck1.elim (fun h => absurd (h.1.symm.trans qck1) (by decide)) (fun h => h.2)
    refine lv_ldc2 (v := (-1000001)) hx hb hown (hts (.constantLong RX5 115 (-1000001)) (by decide +kernel)) dX5_share_19 ?_
    exact ewL () hx hb hr hlocks hAe hS dX5_share_22 (by rw [shareR, if_neg hck1]) (hP.sub [0, 1, 2] rfl) (hD.sub [0, 1, 2] (by decide) rfl)

set_option maxHeartbeats 4000000 in
set_option maxRecDepth 100000 in
theorem r_count (l : Launch) (dd : va_G) (cyI cyJ cyZ : ClassId) (qm : Nat) (a : Nat → Nat) (th fm sm : Int32) (ab be : Int64) (al : Int32) (n ln st : Nat) (hn : n ≤ 48) (hI sI : Nat → Int32) (w : Int32) (sz : Nat) : Met l yX5_count wsX5_count ({ frames := 1, cells := 0, slots := 0, locals := 30 } : Room) (va_Pc [.ref qm, .int w] (Wr dd [(cyI, .int), (cyJ, .long), (cyZ, .boolean)] [(qm, .inr (5, mo a th (nI n) (nI ln) fm sm ab be (nI st) al)), (a 3, .inl (cyZ, 48, .inl hI)), (a 4, .inl (cyI, 240, .inl sI))] sz)) (va_Qi (S := Unit) (fun (r : Int32) (_ : Unit) => r = countR n hI sI ln st al w) (WQ dd [(qm, .inr (5, mo a th (nI n) (nI ln) fm sm ab be (nI st) al)), (a 3, .inl (cyZ, 48, .inl hI)), (a 4, .inl (cyI, 240, .inl sI))] sz (fun _ => [(qm, .inr (5, mo a 0 (nI n) (nI ln) fm sm ab be (nI st) al)), (a 3, .inl (cyZ, 48, .inl hI)), (a 4, .inl (cyI, 240, .inl sI))])) (va_A [(qm, .inr (5, mo a th (nI n) (nI ln) fm sm ab be (nI st) al)), (a 3, .inl (cyZ, 48, .inl hI)), (a 4, .inl (cyI, 240, .inl sI))] sz)) 0 0 (va_A [(qm, .inr (5, mo a th (nI n) (nI ln) fm sm ab be (nI st) al)), (a 3, .inl (cyZ, 48, .inl hI)), (a 4, .inl (cyI, 240, .inl sI))] sz) := by
  refine mkW (Qc := fun A => (va_Qi (S := Unit) (fun (r : Int32) (_ : Unit) => r = countR n hI sI ln st al w) (WQ dd [(qm, .inr (5, mo a th (nI n) (nI ln) fm sm ab be (nI st) al)), (a 3, .inl (cyZ, 48, .inl hI)), (a 4, .inl (cyI, 240, .inl sI))] sz (fun _ => [(qm, .inr (5, mo a 0 (nI n) (nI ln) fm sm ab be (nI st) al)), (a 3, .inl (cyZ, 48, .inl hI)), (a 4, .inl (cyI, 240, .inl sI))])) A)) (cc := cX5_count) (maxL := 6) (by decide) rfl (Nat.le_of_ble_eq_true rfl) (lv0 := [(0, .ref qm), (1, .int w)]) rfl ?_
  intro p e s m below meth c ls H A hx hb hr hml hown hlocks hts hmn hN hP hK hD hS hA hAe hl
  have hown : s.vm.findClass RX5 = some m.cls := hown
  have hiX5 : ∀ w ∈ wsX50, w ∈ wsX5_count := by decide +kernel
  refine lv_aload_n hx hb dX5_count_0 rfl (lv_at hl 0 rfl) ?_
  refine lv_iconst (v := 0) hx hb dX5_count_1 (by decide) ?_
  refine va_put (D := dd) (ci := 5) (v := .int 0) (ty := .int) (C := RX5) (T := TX5) (N := 30) hx hb hts hiX5 tyX5 tyX5_ok nmX5 hown hK hP hD hS 0 rfl rfl 0 (by decide) (hts (.fieldLink RX5 75 "SliceDriftModel" "thrown" "I") (by decide +kernel)) (fun _ h9 => h9) rfl (by decide +kernel) rfl rfl (Nat.le_of_ble_eq_true rfl) dX5_count_2 (fun H locs hP hD hS => ?_)
  have hP : va_P dd vwCl [(qm, .inr (5, mo a 0 (nI n) (nI ln) fm sm ab be (nI st) al)), (a 3, .inl (cyZ, 48, .inl hI)), (a 4, .inl (cyI, 240, .inl sI))] H := hP
  have hD : va_D A [(qm, .inr (5, mo a 0 (nI n) (nI ln) fm sm ab be (nI st) al)), (a 3, .inl (cyZ, 48, .inl hI)), (a 4, .inl (cyI, 240, .inl sI))] := hD
  refine lv_iconst (v := 0) hx hb dX5_count_5 (by decide) ?_
  refine lv_istore_n (lv' := [(2, .int 0), (0, .ref qm), (1, .int w)]) hx hb dX5_count_6 rfl hl (by decide) rfl (fun ls hl => ?_)
  refine lv_iload_n hx hb dX5_count_7 rfl (lv_at hl 2 rfl) ?_
  by_cases w0 : w = nI 0
  · refine tpi w0 ?_
    refine lv_tableIn (off := 40) (tgt := 48) hx hb dX5_count_8 (by decide) (by decide) (by decide) (by decide) ?_
    refine lv_aload_n hx hb dX5_count_48 rfl (lv_at hl 1 rfl) ?_
    refine va_get (D := dd) (ci := 5) (C := RX5) (T := TX5) (N := 30) (v := .int (nI n)) hx hb hts hiX5 hown hK hP 0 rfl rfl 1 (by decide) (hts (.fieldLink RX5 84 "SliceDriftModel" "rows" "I") (by decide +kernel)) (fun _ h9 => h9) rfl dX5_count_49 ?_
    exact ewI () hx hb hr hlocks hAe hS dX5_count_52 (by rw [countR, if_pos w0]) (hP.sub [0, 1, 2] rfl) (hD.sub [0, 1, 2] (by decide) rfl)
  by_cases w1 : w = nI 1
  · refine tpi w1 ?_
    refine lv_tableIn (off := 45) (tgt := 53) hx hb dX5_count_8 (by decide) (by decide) (by decide) (by decide) ?_
    refine lv_aload_n hx hb dX5_count_53 rfl (lv_at hl 1 rfl) ?_
    refine lv_ldc2 (v := (-1)) hx hb hown (hts (.constantLong RX5 174 (-1)) (by decide +kernel)) dX5_count_54 ?_
    refine clVi (As := [.long ((-1))]) (rest := []) (b := qm) (vc := (RX5, TX5, 30)) ⟨hx, hb, hml, hown, hts⟩ (r_hitsOf l dd cyI cyJ cyZ qm a 0 (nI ln) fm sm ab be (nI st) al n hn hI (-1) (fun _ => true) bits_m1) gX5_count_X5_hitsOf (ci := 5) rfl (q0 := 0) rfl (n := 1) rfl ⟨rfl, rfl⟩ (by decide +kernel) ⟨Nat.le_of_ble_eq_true rfl, Nat.le_of_ble_eq_true rfl⟩ hN hK (hP.sub [0, 1] rfl) rfl hl.1 rfl (Nat.le_of_ble_eq_true rfl) dX5_count_57 ⟨Nat.le_of_ble_eq_true rfl, Nat.le_of_ble_eq_true rfl⟩ (fun r1 h1 => ?_)
    exact ewI () hx hb hr hlocks hAe hS dX5_count_60 (by rw [countR, if_neg w0, if_pos w1]; rw [h1]; congr 1) (hP.sub [0, 1, 2] rfl) (hD.sub [0, 1, 2] (by decide) rfl)
  by_cases w2 : w = nI 2
  · refine tpi w2 ?_
    refine lv_tableIn (off := 53) (tgt := 61) hx hb dX5_count_8 (by decide) (by decide) (by decide) (by decide) ?_
    refine lv_aload_n hx hb dX5_count_61 rfl (lv_at hl 1 rfl) ?_
    refine va_get (D := dd) (ci := 5) (C := RX5) (T := TX5) (N := 30) (v := .int (nI ln)) hx hb hts hiX5 hown hK hP 0 rfl rfl 5 (by decide) (hts (.fieldLink RX5 100 "SliceDriftModel" "listed" "I") (by decide +kernel)) (fun _ h9 => h9) rfl dX5_count_62 ?_
    exact ewI () hx hb hr hlocks hAe hS dX5_count_65 (by rw [countR, if_neg w0, if_neg w1, if_pos w2]) (hP.sub [0, 1, 2] rfl) (hD.sub [0, 1, 2] (by decide) rfl)
  by_cases w3 : w = nI 3
  · refine tpi w3 ?_
    refine lv_tableIn (off := 58) (tgt := 66) hx hb dX5_count_8 (by decide) (by decide) (by decide) (by decide) ?_
    refine lv_aload_n hx hb dX5_count_66 rfl (lv_at hl 1 rfl) ?_
    refine va_get (D := dd) (ci := 5) (C := RX5) (T := TX5) (N := 30) (v := .int (nI st)) hx hb hts hiX5 hown hK hP 0 rfl rfl 24 (by decide) (hts (.fieldLink RX5 166 "SliceDriftModel" "steps" "I") (by decide +kernel)) (fun _ h9 => h9) rfl dX5_count_67 ?_
    exact ewI () hx hb hr hlocks hAe hS dX5_count_70 (by rw [countR, if_neg w0, if_neg w1, if_neg w2, if_pos w3]) (hP.sub [0, 1, 2] rfl) (hD.sub [0, 1, 2] (by decide) rfl)
  by_cases w4 : w = nI 4
  · refine tpi w4 ?_
    refine lv_tableIn (off := 63) (tgt := 71) hx hb dX5_count_8 (by decide) (by decide) (by decide) (by decide) ?_
    refine lv_aload_n hx hb dX5_count_71 rfl (lv_at hl 1 rfl) ?_
    refine va_get (D := dd) (ci := 5) (C := RX5) (T := TX5) (N := 30) (v := .int al) hx hb hts hiX5 hown hK hP 0 rfl rfl 25 (by decide) (hts (.fieldLink RX5 169 "SliceDriftModel" "alarms" "I") (by decide +kernel)) (fun _ h9 => h9) rfl dX5_count_72 ?_
    exact ewI () hx hb hr hlocks hAe hS dX5_count_75 (by rw [countR, if_neg w0, if_neg w1, if_neg w2, if_neg w3, if_pos w4]) (hP.sub [0, 1, 2] rfl) (hD.sub [0, 1, 2] (by decide) rfl)
  by_cases w5 : w = nI 5
  · refine tpi w5 ?_
    refine lv_tableIn (off := 68) (tgt := 76) hx hb dX5_count_8 (by decide) (by decide) (by decide) (by decide) ?_
    refine lv_iconst (v := 0) hx hb dX5_count_76 (by decide) ?_
    refine lv_istore_n (lv' := [(3, .int 0), (2, .int 0), (0, .ref qm), (1, .int w)]) hx hb dX5_count_77 rfl hl (by decide) rfl (fun ls hl => ?_)
    have loop : ∀ (k : Nat) (i : Nat) (H : Heap) (locs : List Loc), i + k = n → va_P dd vwCl [(qm, .inr (5, mo a 0 (nI n) (nI ln) fm sm ab be (nI st) al)), (a 3, .inl (cyZ, 48, .inl hI)), (a 4, .inl (cyI, 240, .inl sI))] H → va_D A [(qm, .inr (5, mo a 0 (nI n) (nI ln) fm sm ab be (nI st) al)), (a 3, .inl (cyZ, 48, .inl hI)), (a 4, .inl (cyI, 240, .inl sI))] → va_S A s.heap H locs → ∀ ls : Array Slot, lv_has ls 6 [(3, .int (nI i)), (2, .int (nI (cnt (lak sI 5) i))), (0, .ref qm)] → W p l e ({ frames := 1, cells := 0, slots := 0, locals := 30 } : Room) s m ([.ref qm, .int w] : List Value).toArray below meth c H locs 0 0 (MQ below (va_Qi (S := Unit) (fun (r : Int32) (_ : Unit) => r = countR n hI sI ln st al w) (WQ dd [(qm, .inr (5, mo a th (nI n) (nI ln) fm sm ab be (nI st) al)), (a 3, .inl (cyZ, 48, .inl hI)), (a 4, .inl (cyI, 240, .inl sI))] sz (fun _ => [(qm, .inr (5, mo a 0 (nI n) (nI ln) fm sm ab be (nI st) al)), (a 3, .inl (cyZ, 48, .inl hI)), (a 4, .inl (cyI, 240, .inl sI))])) A) ([.ref qm, .int w] : List Value).toArray s 0 0 A) (F0 m 78 ls []) := by
      intro k
      induction k with
      | zero =>
        intro i H locs hi9 hP hD hS ls hl
        refine lv_iload_n hx hb dX5_count_78 rfl (lv_at hl 0 rfl) ?_
        refine lv_aload_n hx hb dX5_count_79 rfl (lv_at hl 2 rfl) ?_
        refine va_get (D := dd) (ci := 5) (C := RX5) (T := TX5) (N := 30) (v := .int (nI n)) hx hb hts hiX5 hown hK hP 0 rfl rfl 1 (by decide) (hts (.fieldLink RX5 84 "SliceDriftModel" "rows" "I") (by decide +kernel)) (fun _ h9 => h9) rfl dX5_count_80 ?_
        refine lv_icmp_ge (tgt := 151) hx hb dX5_count_83 (by decide) (fun q => ?_) (fun q => ?_)
        · refine lv_iload_n hx hb dX5_count_151 rfl (lv_at hl 1 rfl) ?_
          exact ewI () hx hb hr hlocks hAe hS dX5_count_152 (by rw [countR, if_neg w0, if_neg w1, if_neg w2, if_neg w3, if_neg w4, if_pos w5]; rw [show n = i by omega]) (hP.sub [0, 1, 2] rfl) (hD.sub [0, 1, 2] (by decide) rfl)
        · exact absurd (nI_le (show n ≤ i by omega) (by omega)) q
      | succ k ih =>
        intro i H locs hi9 hP hD hS ls hl
        refine lv_iload_n hx hb dX5_count_78 rfl (lv_at hl 0 rfl) ?_
        refine lv_aload_n hx hb dX5_count_79 rfl (lv_at hl 2 rfl) ?_
        refine va_get (D := dd) (ci := 5) (C := RX5) (T := TX5) (N := 30) (v := .int (nI n)) hx hb hts hiX5 hown hK hP 0 rfl rfl 1 (by decide) (hts (.fieldLink RX5 84 "SliceDriftModel" "rows" "I") (by decide +kernel)) (fun _ h9 => h9) rfl dX5_count_80 ?_
        refine lv_icmp_ge (tgt := 151) hx hb dX5_count_83 (by decide) (fun q => ?_) (fun q => ?_)
        · exact absurd q (nI_ge (show i < n by omega) (by omega))
        · refine lv_iconst (v := 0) hx hb dX5_count_86 (by decide) ?_
          refine lv_istore (lv' := [(4, .int 0), (3, .int (nI i)), (2, .int (nI (cnt (lak sI 5) i))), (0, .ref qm)]) hx hb dX5_count_87 hl (by decide) rfl (fun ls hl => ?_)
          refine lv_iconst (v := 0) hx hb dX5_count_89 (by decide) ?_
          refine lv_istore (lv' := [(5, .int 0), (4, .int 0), (3, .int (nI i)), (2, .int (nI (cnt (lak sI 5) i))), (0, .ref qm)]) hx hb dX5_count_90 hl (by decide) rfl (fun ls hl => ?_)
          have loop2 : ∀ (k2 : Nat) (c9 : Nat) (H : Heap) (locs : List Loc), c9 + k2 = 5 → va_P dd vwCl [(qm, .inr (5, mo a 0 (nI n) (nI ln) fm sm ab be (nI st) al)), (a 3, .inl (cyZ, 48, .inl hI)), (a 4, .inl (cyI, 240, .inl sI))] H → va_D A [(qm, .inr (5, mo a 0 (nI n) (nI ln) fm sm ab be (nI st) al)), (a 3, .inl (cyZ, 48, .inl hI)), (a 4, .inl (cyI, 240, .inl sI))] → va_S A s.heap H locs → ∀ ls : Array Slot, lv_has ls 6 [(5, .int (nI c9)), (4, .int (b01 (lak sI c9 i))), (3, .int (nI i)), (2, .int (nI (cnt (lak sI 5) i))), (0, .ref qm)] → W p l e ({ frames := 1, cells := 0, slots := 0, locals := 30 } : Room) s m ([.ref qm, .int w] : List Value).toArray below meth c H locs 0 0 (MQ below (va_Qi (S := Unit) (fun (r : Int32) (_ : Unit) => r = countR n hI sI ln st al w) (WQ dd [(qm, .inr (5, mo a th (nI n) (nI ln) fm sm ab be (nI st) al)), (a 3, .inl (cyZ, 48, .inl hI)), (a 4, .inl (cyI, 240, .inl sI))] sz (fun _ => [(qm, .inr (5, mo a 0 (nI n) (nI ln) fm sm ab be (nI st) al)), (a 3, .inl (cyZ, 48, .inl hI)), (a 4, .inl (cyI, 240, .inl sI))])) A) ([.ref qm, .int w] : List Value).toArray s 0 0 A) (F0 m 92 ls []) := by
            intro k2
            induction k2 with
            | zero =>
              intro c9 H locs hc9 hP hD hS ls hl
              refine lv_iload hx hb dX5_count_92 (lv_at hl 0 rfl) ?_
              refine lv_iconst (v := 5) hx hb dX5_count_94 (by decide) ?_
              refine lv_icmp_ge (tgt := 132) hx hb dX5_count_95 (by decide) (fun q2 => ?_) (fun q2 => ?_)
              · have hc5 : c9 = 5 := by omega
                subst hc5
                refine lv_iload_n hx hb dX5_count_132 rfl (lv_at hl 3 rfl) ?_
                refine lv_iload hx hb dX5_count_133 (lv_at hl 1 rfl) ?_
                refine lv_if_eq (tgt := 142) hx hb dX5_count_135 (by decide) (fun q3 => ?_) (fun q3 => ?_)
                · refine lv_iconst (v := 0) hx hb dX5_count_142 (by decide) ?_
                  refine lv_iadd hx hb dX5_count_143 ?_
                  refine tpi (show ((nI (cnt (lak sI 5) i)) + 0 : Int32) = nI (cnt (lak sI 5) (i + 1)) from by rw [cnt_n (b01_0.mp q3)]; exact Int32.add_zero _) ?_
                  refine lv_istore_n (lv' := [(2, .int (nI (cnt (lak sI 5) (i + 1)))), (5, .int (nI 5)), (4, .int (b01 (lak sI 5 i))), (3, .int (nI i)), (0, .ref qm)]) hx hb dX5_count_144 rfl hl (by decide) rfl (fun ls hl => ?_)
                  refine lv_iinc (v := nI (i + 1)) (lv' := [(3, .int (nI (i + 1))), (2, .int (nI (cnt (lak sI 5) (i + 1)))), (5, .int (nI 5)), (4, .int (b01 (lak sI 5 i))), (0, .ref qm)]) hx hb dX5_count_145 hl (k := 3) rfl (nI_1 i) (by decide) rfl (fun ls hl => ?_)
                  refine lv_goto (tgt := 78) hx hb dX5_count_148 (by decide) ?_
                  exact ih (i + 1) H locs (by omega) hP hD hS ls (lv_sub hl [0, 1, 4] rfl)
                · refine lv_iconst (v := 1) hx hb dX5_count_138 (by decide) ?_
                  refine lv_goto (tgt := 143) hx hb dX5_count_139 (by decide) ?_
                  refine lv_iadd hx hb dX5_count_143 ?_
                  refine tpi (show ((nI (cnt (lak sI 5) i)) + 1 : Int32) = nI (cnt (lak sI 5) (i + 1)) from by rw [cnt_y ((Bool.not_eq_false _).mp (fun h => q3 (b01_0.mpr h)))]; exact nI_1 _) ?_
                  refine lv_istore_n (lv' := [(2, .int (nI (cnt (lak sI 5) (i + 1)))), (5, .int (nI 5)), (4, .int (b01 (lak sI 5 i))), (3, .int (nI i)), (0, .ref qm)]) hx hb dX5_count_144 rfl hl (by decide) rfl (fun ls hl => ?_)
                  refine lv_iinc (v := nI (i + 1)) (lv' := [(3, .int (nI (i + 1))), (2, .int (nI (cnt (lak sI 5) (i + 1)))), (5, .int (nI 5)), (4, .int (b01 (lak sI 5 i))), (0, .ref qm)]) hx hb dX5_count_145 hl (k := 3) rfl (nI_1 i) (by decide) rfl (fun ls hl => ?_)
                  refine lv_goto (tgt := 78) hx hb dX5_count_148 (by decide) ?_
                  exact ih (i + 1) H locs (by omega) hP hD hS ls (lv_sub hl [0, 1, 4] rfl)
              · exact absurd (nI_le (show 5 ≤ c9 by omega) (by omega)) q2
            | succ k2 ih2 =>
              intro c9 H locs hc9 hP hD hS ls hl
              refine lv_iload hx hb dX5_count_92 (lv_at hl 0 rfl) ?_
              refine lv_iconst (v := 5) hx hb dX5_count_94 (by decide) ?_
              refine lv_icmp_ge (tgt := 132) hx hb dX5_count_95 (by decide) (fun q2 => ?_) (fun q2 => ?_)
              · exact absurd q2 (nI_ge (show c9 < 5 by omega) (by decide))
              · refine lv_iload hx hb dX5_count_98 (lv_at hl 1 rfl) ?_
                refine lv_if_ne (tgt := 119) hx hb dX5_count_100 (by decide) (fun q3 => ?_) (fun q3 => ?_)
                · refine lv_iconst (v := 1) hx hb dX5_count_119 (by decide) ?_
                  refine lv_goto (tgt := 124) hx hb dX5_count_120 (by decide) ?_
                  refine tpi (show (1 : Int32) = b01 (lak sI (c9 + 1) i) from by rw [lak, (Bool.not_eq_false _).mp (fun h => q3 (b01_0.mpr h))]; rfl) ?_
                  refine lv_istore (lv' := [(4, .int (b01 (lak sI (c9 + 1) i))), (5, .int (nI c9)), (3, .int (nI i)), (2, .int (nI (cnt (lak sI 5) i))), (0, .ref qm)]) hx hb dX5_count_124 hl (by decide) rfl (fun ls hl => ?_)
                  refine lv_iinc (v := nI (c9 + 1)) (lv' := [(5, .int (nI (c9 + 1))), (4, .int (b01 (lak sI (c9 + 1) i))), (3, .int (nI i)), (2, .int (nI (cnt (lak sI 5) i))), (0, .ref qm)]) hx hb dX5_count_126 hl (k := 1) rfl (nI_1 c9) (by decide) rfl (fun ls hl => ?_)
                  refine lv_goto (tgt := 92) hx hb dX5_count_129 (by decide) ?_
                  exact ih2 (c9 + 1) H locs (by omega) hP hD hS ls (lv_sub hl [0, 1, 2, 3, 4] rfl)
                · have hl0 := b01_0.mp q3
                  refine lv_aload_n hx hb dX5_count_103 rfl (lv_at hl 4 rfl) ?_
                  refine va_get (D := dd) (ci := 5) (C := RX5) (T := TX5) (N := 30) (v := .ref (a 4)) hx hb hts hiX5 hown hK hP 0 rfl rfl 4 (by decide) (hts (.fieldLink RX5 17 "SliceDriftModel" "sort" "[I") (by decide +kernel)) (fun _ h9 => h9) rfl dX5_count_104 ?_
                  refine lv_iconst (v := 5) hx hb dX5_count_107 (by decide) ?_
                  refine lv_iload_n hx hb dX5_count_108 rfl (lv_at hl 2 rfl) ?_
                  refine lv_imul hx hb dX5_count_109 ?_
                  refine lv_iload hx hb dX5_count_110 (lv_at hl 0 rfl) ?_
                  refine lv_iadd hx hb dX5_count_112 ?_
                  refine tpi (show ((5 * (nI i)) + (nI c9) : Int32) = nI (5 * i + c9) from by rw [show (5 : Int32) = nI 5 from rfl, pk_mul, nI_add]) ?_
                  refine va_iald hx hb hK hP 2 0 rfl rfl (i := nI (5 * i + c9)) (vp_in_nI (show (5 * i + c9) < 240 from (by omega)) (by decide)) dX5_count_113 ?_
                  rw [nI_clamp (show (5 * i + c9) < 2 ^ 31 from Nat.lt_trans (show (5 * i + c9) < 240 from (by omega)) (by decide))]
                  refine lv_bipush (v := 10) hx hb dX5_count_114 (by decide) ?_
                  refine lv_icmp_ne (tgt := 123) hx hb dX5_count_116 (by decide) (fun q4 => ?_) (fun q4 => ?_)
                  · refine lv_iconst (v := 0) hx hb dX5_count_123 (by decide) ?_
                    refine tpi (show (0 : Int32) = b01 (lak sI (c9 + 1) i) from by rw [lak, hl0, show hav sI c9 10 i = false from decide_eq_false q4]; rfl) ?_
                    refine lv_istore (lv' := [(4, .int (b01 (lak sI (c9 + 1) i))), (5, .int (nI c9)), (3, .int (nI i)), (2, .int (nI (cnt (lak sI 5) i))), (0, .ref qm)]) hx hb dX5_count_124 hl (by decide) rfl (fun ls hl => ?_)
                    refine lv_iinc (v := nI (c9 + 1)) (lv' := [(5, .int (nI (c9 + 1))), (4, .int (b01 (lak sI (c9 + 1) i))), (3, .int (nI i)), (2, .int (nI (cnt (lak sI 5) i))), (0, .ref qm)]) hx hb dX5_count_126 hl (k := 1) rfl (nI_1 c9) (by decide) rfl (fun ls hl => ?_)
                    refine lv_goto (tgt := 92) hx hb dX5_count_129 (by decide) ?_
                    exact ih2 (c9 + 1) H locs (by omega) hP hD hS ls (lv_sub hl [0, 1, 2, 3, 4] rfl)
                  · refine lv_iconst (v := 1) hx hb dX5_count_119 (by decide) ?_
                    refine lv_goto (tgt := 124) hx hb dX5_count_120 (by decide) ?_
                    refine tpi (show (1 : Int32) = b01 (lak sI (c9 + 1) i) from by rw [lak, hl0, show hav sI c9 10 i = true from decide_eq_true q4]; rfl) ?_
                    refine lv_istore (lv' := [(4, .int (b01 (lak sI (c9 + 1) i))), (5, .int (nI c9)), (3, .int (nI i)), (2, .int (nI (cnt (lak sI 5) i))), (0, .ref qm)]) hx hb dX5_count_124 hl (by decide) rfl (fun ls hl => ?_)
                    refine lv_iinc (v := nI (c9 + 1)) (lv' := [(5, .int (nI (c9 + 1))), (4, .int (b01 (lak sI (c9 + 1) i))), (3, .int (nI i)), (2, .int (nI (cnt (lak sI 5) i))), (0, .ref qm)]) hx hb dX5_count_126 hl (k := 1) rfl (nI_1 c9) (by decide) rfl (fun ls hl => ?_)
                    refine lv_goto (tgt := 92) hx hb dX5_count_129 (by decide) ?_
                    exact ih2 (c9 + 1) H locs (by omega) hP hD hS ls (lv_sub hl [0, 1, 2, 3, 4] rfl)
          exact loop2 5 0 H locs rfl hP hD hS ls (lv_sub hl [0, 1, 2, 3, 4] rfl)
    exact loop n 0 H _ (by omega) hP hD hS ls (lv_sub hl [0, 1, 2] rfl)
  have wout : ∀ k, k ≤ 5 → ¬ w = nI k := fun k hk => by
    rcases (show k = 0 ∨ k = 1 ∨ k = 2 ∨ k = 3 ∨ k = 4 ∨ k = 5 by omega) with rfl | rfl | rfl | rfl | rfl | rfl <;> assumption
  refine lv_tableOut (tgt := 153) hx hb dX5_count_8 (sw_out (N := 5) (by decide) wout) (by decide) ?_
  refine lv_ldc (v := (-1000001)) hx hb hown (hts (.constant RX5 88 (-1000001)) (by decide +kernel)) dX5_count_153 ?_
  exact ewI () hx hb hr hlocks hAe hS dX5_count_155 (by rw [countR, if_neg w0, if_neg w1, if_neg w2, if_neg w3, if_neg w4, if_neg w5]) (hP.sub [0, 1, 2] rfl) (hD.sub [0, 1, 2] (by decide) rfl)
