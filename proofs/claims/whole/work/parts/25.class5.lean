set_option maxHeartbeats 4000000 in
set_option maxRecDepth 100000 in
theorem c_List_has (l : Launch) (dd : va_G) (cyI cyJ cyZ : ClassId) (ql ql1 ql2 ql3 ln : Nat) (lh : Int64) (i : Int32) : Met l yX3_has wsX3_has ({ frames := 1, cells := 0, slots := 0, locals := 22 } : Room) (va_Pc [.ref ql, .int i] (Rd dd [(cyI, .int), (cyJ, .long), (cyZ, .boolean)] [(ql, .inr (3, [.int (nI ln), .long lh, .ref ql1, .ref ql2, .ref ql3]))])) (vp_Si (fun r => (r = 1 ∧ 0 ≤ i ∧ i ≤ nI ln - 1) ∨ (r = 0 ∧ ¬ (0 ≤ i ∧ i ≤ nI ln - 1)))) 0 0 (fun _ => False) := by
  refine mkR (cc := cX3_has) (maxL := 2) (by decide) rfl (Nat.le_of_ble_eq_true rfl) (lv0 := [(0, .ref ql), (1, .int i)]) rfl ?_
  intro p e s m below meth c ls hx hb hr hml hown hlocks hts hN hP hK hl
  have hown : s.vm.findClass RX3 = some m.cls := hown
  have hiX3 : ∀ w ∈ wsX30, w ∈ wsX3_has := by decide +kernel
  refine lv_iload_n hx hb dX3_has_0 rfl (lv_at hl 1 rfl) ?_
  refine lv_iconst (v := 0) hx hb dX3_has_1 (by decide) ?_
  refine lv_aload_n hx hb dX3_has_2 rfl (lv_at hl 0 rfl) ?_
  refine va_get (D := dd) (ci := 3) (C := RX3) (T := TX3) (N := 5) (v := .int (nI ln)) hx hb hts hiX3 hown hK hP 0 rfl rfl 0 (by decide) (hts (.fieldLink RX3 9 "SliceDrift$SliceList" "size" "I") (by decide +kernel)) (fun _ h9 => h9) rfl dX3_has_3 ?_
  refine lv_iconst (v := 1) hx hb dX3_has_6 (by decide) ?_
  refine lv_isub hx hb dX3_has_7 ?_
  refine clNi (As := [.int i, .int 0, .int ((nI ln) - 1)]) (rest := []) ⟨hx, hb, hml, hown, hts⟩ (c_isWithin l dd cyI cyJ cyZ i 0 (nI ln - 1)) gX3_has_X4_isWithin_n30 (hN.m 8 rfl) (hts (.initialized RX4) (by decide +kernel)) (hts (.static yX4_isWithin) (by decide +kernel)) (n := 3) rfl ⟨rfl, rfl⟩ (by decide +kernel) ⟨Nat.le_of_ble_eq_true rfl, Nat.le_of_ble_eq_true rfl⟩ hN hK (hP.sub [] rfl) rfl hl.1 rfl (Nat.le_of_ble_eq_true rfl) dX3_has_8 ⟨Nat.le_of_ble_eq_true rfl, Nat.le_of_ble_eq_true rfl⟩ (fun r hw => ?_)
  exact edZ hx hb hr hlocks dX3_has_11 (by rcases hw with ⟨h, -⟩ | ⟨h, -⟩ <;> rw [h] <;> rfl) hw

set_option maxHeartbeats 4000000 in
set_option maxRecDepth 100000 in
theorem c_isAhead (l : Launch) (dd : va_G) (cyI cyJ cyZ : ClassId) (ql ql1 ql2 ql3 : Nat) (sz : Int32) (hm x z : Nat) (hhm : hm < 2 ^ 48) (hx0 : x < 2 ^ 48) (hz0 : z < 2 ^ 48) : Met l yX3_isAhead wsX3_isAhead ({ frames := 1, cells := 0, slots := 0, locals := 21 } : Room) (va_Pc [.ref ql, .long (lN x), .long (lN z)] (Rd dd [(cyI, .int), (cyJ, .long), (cyZ, .boolean)] [(ql, .inr (3, [.int sz, .long (lN hm), .ref ql1, .ref ql2, .ref ql3]))])) (vp_Si (fun r => r = b01 (ah hm x z))) 0 0 (fun _ => False) := by
  refine mkR (cc := cX3_isAhead) (maxL := 9) (by decide) rfl (Nat.le_of_ble_eq_true rfl) (lv0 := [(0, .ref ql), (1, .long (lN x)), (3, .long (lN z))]) rfl ?_
  intro p e s m below meth c ls hx hb hr hml hown hlocks hts hN hP hK hl
  have hown : s.vm.findClass RX3 = some m.cls := hown
  have hiX3 : ∀ w ∈ wsX30, w ∈ wsX3_isAhead := by decide +kernel
  have p1 := pop_le x
  have p2 := pop_le z
  have p3 := pop_le (x &&& hm)
  have p4 := pop_le (z &&& hm)
  have b1 : (pop (x &&& hm) + 2) * (pop z + 4) ≤ 66 * 68 := Nat.mul_le_mul (by omega) (by omega)
  have b2 : (pop (z &&& hm) + 2) * (pop x + 4) ≤ 66 * 68 := Nat.mul_le_mul (by omega) (by omega)
  refine lv_lload_n hx hb dX3_isAhead_0 rfl (lv_at hl 1 rfl) ?_
  refine clSi (As := [.long (lN x)]) (rest := []) ⟨hx, hb, hml, hown, hts⟩ (c_bitCount l dd cyI cyJ cyZ x (by omega)) gX3_isAhead_J13_bitCount_95d88 (n := 1) rfl ⟨rfl, rfl⟩ (by decide +kernel) ⟨Nat.le_of_ble_eq_true rfl, Nat.le_of_ble_eq_true rfl⟩ hN hK (hP.sub [] rfl) rfl hl.1 rfl (Nat.le_of_ble_eq_true rfl) dX3_isAhead_1 ⟨Nat.le_of_ble_eq_true rfl, Nat.le_of_ble_eq_true rfl⟩ (fun r1 hr1 => ?_)
  have hr1 : r1 = nI (pop x) := hr1
  subst hr1
  refine lv_istore (lv' := [(5, .int (nI (pop x))), (0, .ref ql), (1, .long (lN x)), (3, .long (lN z))]) hx hb dX3_isAhead_4 hl (by decide) rfl (fun ls hl => ?_)
  refine lv_lload_n hx hb dX3_isAhead_6 rfl (lv_at hl 3 rfl) ?_
  refine clSi (As := [.long (lN z)]) (rest := []) ⟨hx, hb, hml, hown, hts⟩ (c_bitCount l dd cyI cyJ cyZ z (by omega)) gX3_isAhead_J13_bitCount_95d88 (n := 1) rfl ⟨rfl, rfl⟩ (by decide +kernel) ⟨Nat.le_of_ble_eq_true rfl, Nat.le_of_ble_eq_true rfl⟩ hN hK (hP.sub [] rfl) rfl hl.1 rfl (Nat.le_of_ble_eq_true rfl) dX3_isAhead_7 ⟨Nat.le_of_ble_eq_true rfl, Nat.le_of_ble_eq_true rfl⟩ (fun r2 hr2 => ?_)
  have hr2 : r2 = nI (pop z) := hr2
  subst hr2
  refine lv_istore (lv' := [(6, .int (nI (pop z))), (5, .int (nI (pop x))), (0, .ref ql), (1, .long (lN x)), (3, .long (lN z))]) hx hb dX3_isAhead_10 hl (by decide) rfl (fun ls hl => ?_)
  refine lv_lload_n hx hb dX3_isAhead_12 rfl (lv_at hl 3 rfl) ?_
  refine lv_aload_n hx hb dX3_isAhead_13 rfl (lv_at hl 2 rfl) ?_
  refine va_get (D := dd) (ci := 3) (C := RX3) (T := TX3) (N := 5) (v := .long (lN hm)) hx hb hts hiX3 hown hK hP 0 rfl rfl 1 (by decide) (hts (.fieldLink RX3 15 "SliceDrift$SliceList" "hits" "J") (by decide +kernel)) (fun _ h9 => h9) rfl dX3_isAhead_14 ?_
  refine lv_land hx hb dX3_isAhead_17 ?_
  refine tpl (show ((lN x) &&& (lN hm) : Int64) = lN (x &&& hm) from wb_and (by omega) (by omega)) ?_
  refine clSi (As := [.long (lN (x &&& hm))]) (rest := []) ⟨hx, hb, hml, hown, hts⟩ (c_bitCount l dd cyI cyJ cyZ (x &&& hm) (Nat.lt_trans (and48 hx0) (by decide))) gX3_isAhead_J13_bitCount_95d88 (n := 1) rfl ⟨rfl, rfl⟩ (by decide +kernel) ⟨Nat.le_of_ble_eq_true rfl, Nat.le_of_ble_eq_true rfl⟩ hN hK (hP.sub [] rfl) rfl hl.1 rfl (Nat.le_of_ble_eq_true rfl) dX3_isAhead_18 ⟨Nat.le_of_ble_eq_true rfl, Nat.le_of_ble_eq_true rfl⟩ (fun r3 hr3 => ?_)
  have hr3 : r3 = nI (pop (x &&& hm)) := hr3
  subst hr3
  refine clNi (As := [.int (nI (pop (x &&& hm)))]) (rest := []) ⟨hx, hb, hml, hown, hts⟩ (c_boundAbove l dd cyI cyJ cyZ (nI (pop (x &&& hm)))) gX3_isAhead_X4_boundAbove_n75 (hN.m 11 rfl) (hts (.initialized RX4) (by decide +kernel)) (hts (.static yX4_boundAbove) (by decide +kernel)) (n := 1) rfl ⟨rfl, rfl⟩ (by decide +kernel) ⟨Nat.le_of_ble_eq_true rfl, Nat.le_of_ble_eq_true rfl⟩ hN hK (hP.sub [] rfl) rfl hl.1 rfl (Nat.le_of_ble_eq_true rfl) dX3_isAhead_21 ⟨Nat.le_of_ble_eq_true rfl, Nat.le_of_ble_eq_true rfl⟩ (fun r4 hr4 => ?_)
  subst hr4
  refine tpi (show (nI (pop (x &&& hm)) + 2 : Int32) = nI (pop (x &&& hm) + 2) from nI_add _ 2) ?_
  refine lv_iload hx hb dX3_isAhead_24 (lv_at hl 0 rfl) ?_
  refine clNi (As := [.int (nI (pop z))]) (rest := [.int (nI (pop (x &&& hm) + 2))]) ⟨hx, hb, hml, hown, hts⟩ (c_boundBelow l dd cyI cyJ cyZ (nI (pop z))) gX3_isAhead_X4_boundBelow_n78 (hN.m 12 rfl) (hts (.initialized RX4) (by decide +kernel)) (hts (.static yX4_boundBelow) (by decide +kernel)) (n := 1) rfl ⟨rfl, rfl⟩ (by decide +kernel) ⟨Nat.le_of_ble_eq_true rfl, Nat.le_of_ble_eq_true rfl⟩ hN hK (hP.sub [] rfl) rfl hl.1 rfl (Nat.le_of_ble_eq_true rfl) dX3_isAhead_26 ⟨Nat.le_of_ble_eq_true rfl, Nat.le_of_ble_eq_true rfl⟩ (fun r5 hr5 => ?_)
  subst hr5
  refine tpi (show (nI (pop z) + 4 : Int32) = nI (pop z + 4) from nI_add _ 4) ?_
  refine lv_imul hx hb dX3_isAhead_29 ?_
  refine tpi (show ((nI (pop (x &&& hm) + 2)) * (nI (pop z + 4)) : Int32) = nI ((pop (x &&& hm) + 2) * (pop z + 4)) from pk_mul _ _) ?_
  refine lv_istore (lv' := [(7, .int (nI ((pop (x &&& hm) + 2) * (pop z + 4)))), (6, .int (nI (pop z))), (5, .int (nI (pop x))), (0, .ref ql), (1, .long (lN x)), (3, .long (lN z))]) hx hb dX3_isAhead_30 hl (by decide) rfl (fun ls hl => ?_)
  refine lv_lload_n hx hb dX3_isAhead_32 rfl (lv_at hl 5 rfl) ?_
  refine lv_aload_n hx hb dX3_isAhead_33 rfl (lv_at hl 3 rfl) ?_
  refine va_get (D := dd) (ci := 3) (C := RX3) (T := TX3) (N := 5) (v := .long (lN hm)) hx hb hts hiX3 hown hK hP 0 rfl rfl 1 (by decide) (hts (.fieldLink RX3 15 "SliceDrift$SliceList" "hits" "J") (by decide +kernel)) (fun _ h9 => h9) rfl dX3_isAhead_34 ?_
  refine lv_land hx hb dX3_isAhead_37 ?_
  refine tpl (show ((lN z) &&& (lN hm) : Int64) = lN (z &&& hm) from wb_and (by omega) (by omega)) ?_
  refine clSi (As := [.long (lN (z &&& hm))]) (rest := []) ⟨hx, hb, hml, hown, hts⟩ (c_bitCount l dd cyI cyJ cyZ (z &&& hm) (Nat.lt_trans (and48 hz0) (by decide))) gX3_isAhead_J13_bitCount_95d88 (n := 1) rfl ⟨rfl, rfl⟩ (by decide +kernel) ⟨Nat.le_of_ble_eq_true rfl, Nat.le_of_ble_eq_true rfl⟩ hN hK (hP.sub [] rfl) rfl hl.1 rfl (Nat.le_of_ble_eq_true rfl) dX3_isAhead_38 ⟨Nat.le_of_ble_eq_true rfl, Nat.le_of_ble_eq_true rfl⟩ (fun r6 hr6 => ?_)
  have hr6 : r6 = nI (pop (z &&& hm)) := hr6
  subst hr6
  refine clNi (As := [.int (nI (pop (z &&& hm)))]) (rest := []) ⟨hx, hb, hml, hown, hts⟩ (c_boundAbove l dd cyI cyJ cyZ (nI (pop (z &&& hm)))) gX3_isAhead_X4_boundAbove_n75 (hN.m 11 rfl) (hts (.initialized RX4) (by decide +kernel)) (hts (.static yX4_boundAbove) (by decide +kernel)) (n := 1) rfl ⟨rfl, rfl⟩ (by decide +kernel) ⟨Nat.le_of_ble_eq_true rfl, Nat.le_of_ble_eq_true rfl⟩ hN hK (hP.sub [] rfl) rfl hl.1 rfl (Nat.le_of_ble_eq_true rfl) dX3_isAhead_41 ⟨Nat.le_of_ble_eq_true rfl, Nat.le_of_ble_eq_true rfl⟩ (fun r7 hr7 => ?_)
  subst hr7
  refine tpi (show (nI (pop (z &&& hm)) + 2 : Int32) = nI (pop (z &&& hm) + 2) from nI_add _ 2) ?_
  refine lv_iload hx hb dX3_isAhead_44 (lv_at hl 2 rfl) ?_
  refine clNi (As := [.int (nI (pop x))]) (rest := [.int (nI (pop (z &&& hm) + 2))]) ⟨hx, hb, hml, hown, hts⟩ (c_boundBelow l dd cyI cyJ cyZ (nI (pop x))) gX3_isAhead_X4_boundBelow_n78 (hN.m 12 rfl) (hts (.initialized RX4) (by decide +kernel)) (hts (.static yX4_boundBelow) (by decide +kernel)) (n := 1) rfl ⟨rfl, rfl⟩ (by decide +kernel) ⟨Nat.le_of_ble_eq_true rfl, Nat.le_of_ble_eq_true rfl⟩ hN hK (hP.sub [] rfl) rfl hl.1 rfl (Nat.le_of_ble_eq_true rfl) dX3_isAhead_46 ⟨Nat.le_of_ble_eq_true rfl, Nat.le_of_ble_eq_true rfl⟩ (fun r8 hr8 => ?_)
  subst hr8
  refine tpi (show (nI (pop x) + 4 : Int32) = nI (pop x + 4) from nI_add _ 4) ?_
  refine lv_imul hx hb dX3_isAhead_49 ?_
  refine tpi (show ((nI (pop (z &&& hm) + 2)) * (nI (pop x + 4)) : Int32) = nI ((pop (z &&& hm) + 2) * (pop x + 4)) from pk_mul _ _) ?_
  refine lv_istore (lv' := [(8, .int (nI ((pop (z &&& hm) + 2) * (pop x + 4)))), (7, .int (nI ((pop (x &&& hm) + 2) * (pop z + 4)))), (6, .int (nI (pop z))), (5, .int (nI (pop x))), (0, .ref ql), (1, .long (lN x)), (3, .long (lN z))]) hx hb dX3_isAhead_50 hl (by decide) rfl (fun ls hl => ?_)
  refine lv_iload hx hb dX3_isAhead_52 (lv_at hl 1 rfl) ?_
  refine lv_iload hx hb dX3_isAhead_54 (lv_at hl 0 rfl) ?_
  refine lv_icmp_lt (tgt := 73) hx hb dX3_isAhead_56 (by decide) (fun q1 => ?_) (fun q1 => ?_)
  · refine lv_iconst (v := 1) hx hb dX3_isAhead_73 (by decide) ?_
    refine lv_goto (tgt := 78) hx hb dX3_isAhead_74 (by decide) ?_
    refine tpi (show (1 : Int32) = b01 (ah hm x z) from by rw [show ah hm x z = true from decide_eq_true (Or.inl ((nI_ltI (by omega) (by omega)).mp q1))]; rfl) ?_
    exact edZ hx hb hr hlocks dX3_isAhead_78 (by cases ah hm x z <;> rfl) rfl
  · have g1 : ¬ (pop (x &&& hm) + 2) * (pop z + 4) < (pop (z &&& hm) + 2) * (pop x + 4) := fun h => q1 (nI_lt h (by omega))
    refine lv_iload hx hb dX3_isAhead_59 (lv_at hl 1 rfl) ?_
    refine lv_iload hx hb dX3_isAhead_61 (lv_at hl 0 rfl) ?_
    refine lv_icmp_ne (tgt := 77) hx hb dX3_isAhead_63 (by decide) (fun q2 => ?_) (fun q2 => ?_)
    · refine lv_iconst (v := 0) hx hb dX3_isAhead_77 (by decide) ?_
      refine tpi (show (0 : Int32) = b01 (ah hm x z) from by rw [show ah hm x z = false from decide_eq_false (fun h => h.elim g1 (fun a => q2 (by rw [a.1])))]; rfl) ?_
      exact edZ hx hb hr hlocks dX3_isAhead_78 (by cases ah hm x z <;> rfl) rfl
    · have g2 := (nI_eq (by omega) (by omega)).mp q2
      refine lv_iload hx hb dX3_isAhead_66 (lv_at hl 3 rfl) ?_
      refine lv_iload hx hb dX3_isAhead_68 (lv_at hl 2 rfl) ?_
      refine lv_icmp_le (tgt := 77) hx hb dX3_isAhead_70 (by decide) (fun q3 => ?_) (fun q3 => ?_)
      · refine lv_iconst (v := 0) hx hb dX3_isAhead_77 (by decide) ?_
        refine tpi (show (0 : Int32) = b01 (ah hm x z) from by rw [show ah hm x z = false from decide_eq_false (fun h => h.elim g1 (fun a => absurd ((nI_leI (by omega) (by omega)).mp q3) (by omega)))]; rfl) ?_
        exact edZ hx hb hr hlocks dX3_isAhead_78 (by cases ah hm x z <;> rfl) rfl
      · refine lv_iconst (v := 1) hx hb dX3_isAhead_73 (by decide) ?_
        refine lv_goto (tgt := 78) hx hb dX3_isAhead_74 (by decide) ?_
        refine tpi (show (1 : Int32) = b01 (ah hm x z) from by rw [show ah hm x z = true from decide_eq_true (Or.inr ⟨g2, Nat.lt_of_not_le (fun h => q3 (nI_le h (by omega)))⟩)]; rfl) ?_
        exact edZ hx hb hr hlocks dX3_isAhead_78 (by cases ah hm x z <;> rfl) rfl

set_option maxHeartbeats 4000000 in
set_option maxRecDepth 100000 in
theorem c_placeFor (l : Launch) (dd : va_G) (cyI cyJ cyZ : ClassId) (ql ql1 ql2 ql3 ln : Nat) (hm x : Nat) (hhm : hm < 2 ^ 48) (hx0 : x < 2 ^ 48) (hln : ln ≤ 535) (mI : Nat → Int64) (E : Nat → En) (hE : ∀ j, j < ln → mI j = lN (E j).1 ∧ (E j).1 < 2 ^ 48) (hs : Srt hm E ln) : Met l yX3_placeFor wsX3_placeFor ({ frames := 2, cells := 0, slots := 0, locals := 50 } : Room) (va_Pc [.ref ql, .long (lN x)] (Rd dd [(cyI, .int), (cyJ, .long), (cyZ, .boolean)] [(ql, .inr (3, [.int (nI ln), .long (lN hm), .ref ql1, .ref ql2, .ref ql3])), (ql1, .inl (cyJ, 535, .inr (.inl mI)))])) (vp_Si (fun r => ∃ p0, r = nI p0 ∧ isPos hm E ln x p0)) 0 0 (fun _ => False) := by
  refine mkR (cc := cX3_placeFor) (maxL := 7) (by decide) rfl (Nat.le_of_ble_eq_true rfl) (lv0 := [(0, .ref ql), (1, .long (lN x))]) rfl ?_
  intro p e s m below meth c ls hx hb hr hml hown hlocks hts hN hP hK hl
  have hown : s.vm.findClass RX3 = some m.cls := hown
  have hiX3 : ∀ w ∈ wsX30, w ∈ wsX3_placeFor := by decide +kernel
  refine lv_iconst (v := 0) hx hb dX3_placeFor_0 (by decide) ?_
  refine lv_istore_n (lv' := [(3, .int 0), (0, .ref ql), (1, .long (lN x))]) hx hb dX3_placeFor_1 rfl hl (by decide) rfl (fun ls hl => ?_)
  refine lv_aload_n hx hb dX3_placeFor_2 rfl (lv_at hl 1 rfl) ?_
  refine va_get (D := dd) (ci := 3) (C := RX3) (T := TX3) (N := 5) (v := .int (nI ln)) hx hb hts hiX3 hown hK hP 0 rfl rfl 0 (by decide) (hts (.fieldLink RX3 9 "SliceDrift$SliceList" "size" "I") (by decide +kernel)) (fun _ h9 => h9) rfl dX3_placeFor_3 ?_
  refine lv_istore (lv' := [(4, .int (nI ln)), (3, .int 0), (0, .ref ql), (1, .long (lN x))]) hx hb dX3_placeFor_6 hl (by decide) rfl (fun ls hl => ?_)
  refine lv_iconst (v := 0) hx hb dX3_placeFor_8 (by decide) ?_
  refine lv_istore (lv' := [(5, .int 0), (4, .int (nI ln)), (3, .int 0), (0, .ref ql), (1, .long (lN x))]) hx hb dX3_placeFor_9 hl (by decide) rfl (fun ls hl => ?_)
  have loop : ∀ (k : Nat) (t lo hi : Nat), t + k = 535 → lo ≤ hi → hi ≤ ln → hi - lo ≤ k → (∀ j, j < lo → ah hm x (E j).1 = false) → (∀ j, hi ≤ j → j < ln → ah hm x (E j).1 = true) → ∀ ls : Array Slot, lv_has ls 7 [(5, .int (nI t)), (4, .int (nI hi)), (3, .int (nI lo)), (0, .ref ql), (1, .long (lN x))] → W p l e ({ frames := 2, cells := 0, slots := 0, locals := 50 } : Room) s m ([.ref ql, .long (lN x)] : List Value).toArray below meth c s.heap [] 0 0 (MQ below (vp_Si (fun r => ∃ p0, r = nI p0 ∧ isPos hm E ln x p0)) ([.ref ql, .long (lN x)] : List Value).toArray s 0 0 (fun _ => False)) (F0 m 11 ls []) := by
    intro k
    induction k with
    | zero =>
      intro t lo hi ht hlh hh hk h1 h2 ls hl
      refine lv_iload hx hb dX3_placeFor_11 (lv_at hl 0 rfl) ?_
      refine lv_sipush (v := 535) hx hb dX3_placeFor_13 (by decide) ?_
      refine lv_icmp_ge (tgt := 66) hx hb dX3_placeFor_16 (by decide) (fun q => ?_) (fun q => ?_)
      · refine lv_iload_n hx hb dX3_placeFor_66 rfl (lv_at hl 2 rfl) ?_
        exact edI hx hb hr hlocks dX3_placeFor_67 (⟨lo, rfl, by omega, h1, fun j a b => h2 j (by omega) b⟩)
      · exact absurd (nI_le (show 535 ≤ t by omega) (by omega)) q
    | succ k ih =>
      intro t lo hi ht hlh hh hk h1 h2 ls hl
      refine lv_iload hx hb dX3_placeFor_11 (lv_at hl 0 rfl) ?_
      refine lv_sipush (v := 535) hx hb dX3_placeFor_13 (by decide) ?_
      refine lv_icmp_ge (tgt := 66) hx hb dX3_placeFor_16 (by decide) (fun q => ?_) (fun q => ?_)
      · exact absurd q (nI_ge (show t < 535 by omega) (by decide))
      · refine lv_iload_n hx hb dX3_placeFor_19 rfl (lv_at hl 2 rfl) ?_
        refine lv_iload hx hb dX3_placeFor_20 (lv_at hl 1 rfl) ?_
        refine lv_icmp_ge (tgt := 66) hx hb dX3_placeFor_22 (by decide) (fun q2 => ?_) (fun q2 => ?_)
        · have g := (nI_leI (by omega) (by omega)).mp q2
          refine lv_iload_n hx hb dX3_placeFor_66 rfl (lv_at hl 2 rfl) ?_
          exact edI hx hb hr hlocks dX3_placeFor_67 (⟨lo, rfl, by omega, h1, fun j a b => h2 j (by omega) b⟩)
        · have g : lo < hi := Nat.lt_of_not_le (fun h => q2 (nI_le h (by omega)))
          refine lv_iload_n hx hb dX3_placeFor_25 rfl (lv_at hl 2 rfl) ?_
          refine lv_iload hx hb dX3_placeFor_26 (lv_at hl 1 rfl) ?_
          refine lv_iadd hx hb dX3_placeFor_28 ?_
          refine tpi (show ((nI lo) + (nI hi) : Int32) = nI (lo + hi) from nI_add _ _) ?_
          refine lv_iconst (v := 2) hx hb dX3_placeFor_29 (by decide) ?_
          refine lv_idiv hx hb dX3_placeFor_30 (by decide) ?_
          refine tpi (show ((nI (lo + hi)) / 2 : Int32) = nI ((lo + hi) / 2) from pk_div (d := 2) (by omega) (by decide) (by decide)) ?_
          obtain ⟨md, emd⟩ : ∃ md, md = (lo + hi) / 2 := ⟨_, rfl⟩
          rw [← emd]
          have m1 : lo ≤ md := by omega
          have m2 : md < hi := by omega
          obtain ⟨ei, hi48⟩ := hE md (by omega)
          refine lv_istore (lv' := [(6, .int (nI md)), (5, .int (nI t)), (4, .int (nI hi)), (3, .int (nI lo)), (0, .ref ql), (1, .long (lN x))]) hx hb dX3_placeFor_31 hl (by decide) rfl (fun ls hl => ?_)
          refine lv_aload_n hx hb dX3_placeFor_33 rfl (lv_at hl 4 rfl) ?_
          refine lv_lload_n hx hb dX3_placeFor_34 rfl (lv_at hl 5 rfl) ?_
          refine lv_aload_n hx hb dX3_placeFor_35 rfl (lv_at hl 4 rfl) ?_
          refine va_get (D := dd) (ci := 3) (C := RX3) (T := TX3) (N := 5) (v := .ref ql1) hx hb hts hiX3 hown hK hP 0 rfl rfl 2 (by decide) (hts (.fieldLink RX3 19 "SliceDrift$SliceList" "members" "[J") (by decide +kernel)) (fun _ h9 => h9) rfl dX3_placeFor_36 ?_
          refine lv_iload hx hb dX3_placeFor_39 (lv_at hl 0 rfl) ?_
          refine va_lald hx hb hK hP 1 1 rfl rfl (i := nI md) (vp_in_nI (show md < 535 from (by omega)) (by decide)) dX3_placeFor_41 ?_
          rw [nI_clamp (show md < 2 ^ 31 from Nat.lt_trans (show md < 535 from (by omega)) (by decide))]
          refine tpl (show (mI md : Int64) = lN (E md).1 from ei) ?_
          refine clVi (As := [.long (lN x), .long (lN (E md).1)]) (rest := []) (b := ql) (vc := (RX3, TX3, 5)) ⟨hx, hb, hml, hown, hts⟩ (c_isAhead l dd cyI cyJ cyZ ql ql1 ql2 ql3 (nI ln) hm x (E md).1 hhm hx0 hi48) gX3_placeFor_X3_isAhead (ci := 3) rfl (q0 := 0) rfl (n := 2) rfl ⟨rfl, rfl⟩ (by decide +kernel) ⟨Nat.le_of_ble_eq_true rfl, Nat.le_of_ble_eq_true rfl⟩ hN hK (hP.sub [0] rfl) rfl hl.1 rfl (Nat.le_of_ble_eq_true rfl) dX3_placeFor_42 ⟨Nat.le_of_ble_eq_true rfl, Nat.le_of_ble_eq_true rfl⟩ (fun r1 h9 => ?_)
          subst h9
          refine lv_if_eq (tgt := 55) hx hb dX3_placeFor_45 (by decide) (fun q3 => ?_) (fun q3 => ?_)
          · have a0 := b01_0.mp q3
            refine lv_iload hx hb dX3_placeFor_55 (lv_at hl 0 rfl) ?_
            refine lv_iconst (v := 1) hx hb dX3_placeFor_57 (by decide) ?_
            refine lv_iadd hx hb dX3_placeFor_58 ?_
            refine tpi (show ((nI md) + 1 : Int32) = nI (md + 1) from nI_1 md) ?_
            refine lv_istore_n (lv' := [(3, .int (nI (md + 1))), (6, .int (nI md)), (5, .int (nI t)), (4, .int (nI hi)), (0, .ref ql), (1, .long (lN x))]) hx hb dX3_placeFor_59 rfl hl (by decide) rfl (fun ls hl => ?_)
            refine lv_iinc (v := nI (t + 1)) (lv' := [(5, .int (nI (t + 1))), (3, .int (nI (md + 1))), (6, .int (nI md)), (4, .int (nI hi)), (0, .ref ql), (1, .long (lN x))]) hx hb dX3_placeFor_60 hl (k := 2) rfl (nI_1 t) (by decide) rfl (fun ls hl => ?_)
            refine lv_goto (tgt := 11) hx hb dX3_placeFor_63 (by decide) ?_
            exact ih (t + 1) (md + 1) hi (by omega) (by omega) hh (by omega) (fun j hj => (Nat.lt_or_ge j md).elim (fun h => (Bool.not_eq_true _).mp (fun q => absurd (ah_mono hs q (Nat.le_of_lt h) (by omega)) (by rw [a0]; decide))) (fun h => by rw [show j = md by omega]; exact a0)) h2 ls (lv_sub hl [0, 3, 1, 4, 5] rfl)
          · have a1 : ah hm x (E md).1 = true := (Bool.not_eq_false _).mp (fun h => q3 (b01_0.mpr h))
            refine lv_iload hx hb dX3_placeFor_48 (lv_at hl 0 rfl) ?_
            refine lv_istore (lv' := [(4, .int (nI md)), (6, .int (nI md)), (5, .int (nI t)), (3, .int (nI lo)), (0, .ref ql), (1, .long (lN x))]) hx hb dX3_placeFor_50 hl (by decide) rfl (fun ls hl => ?_)
            refine lv_goto (tgt := 60) hx hb dX3_placeFor_52 (by decide) ?_
            refine lv_iinc (v := nI (t + 1)) (lv' := [(5, .int (nI (t + 1))), (4, .int (nI md)), (6, .int (nI md)), (3, .int (nI lo)), (0, .ref ql), (1, .long (lN x))]) hx hb dX3_placeFor_60 hl (k := 2) rfl (nI_1 t) (by decide) rfl (fun ls hl => ?_)
            refine lv_goto (tgt := 11) hx hb dX3_placeFor_63 (by decide) ?_
            exact ih (t + 1) lo md (by omega) (by omega) (by omega) (by omega) h1 (fun j a b => ah_mono hs a1 a b) ls (lv_sub hl [0, 1, 3, 4, 5] rfl)
  exact loop 535 0 0 ln rfl (Nat.zero_le _) (Nat.le_refl _) (by omega) (fun j h => absurd h (Nat.not_lt_zero j)) (fun j a b => absurd b (by omega)) ls (lv_sub hl [0, 1, 2, 3, 4] rfl)
