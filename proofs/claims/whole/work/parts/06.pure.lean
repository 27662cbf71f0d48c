set_option maxHeartbeats 4000000 in
set_option maxRecDepth 100000 in
theorem c_isWithin (l : Launch) (dd : va_G) (cyI cyJ cyZ : ClassId) (a b c0 : Int32) : Met l yX4_isWithin wsX4_isWithin ({ frames := 0, cells := 0, slots := 0, locals := 0 } : Room) (va_Pc [.int a, .int b, .int c0] (Rd dd [(cyI, .int), (cyJ, .long), (cyZ, .boolean)] [])) (vp_Si (fun r => (r = 1 ∧ b ≤ a ∧ a ≤ c0) ∨ (r = 0 ∧ ¬ (b ≤ a ∧ a ≤ c0)))) 0 0 (fun _ => False) := by
  refine mkR (cc := cX4_isWithin) (maxL := 3) (by decide) rfl (Nat.le_of_ble_eq_true rfl) (lv0 := [(0, .int a), (1, .int b), (2, .int c0)]) rfl ?_
  intro p e s m below meth c ls hx hb hr hml hown hlocks hts hN hP hK hl
  have hown : s.vm.findClass RX4 = some m.cls := hown
  refine lv_iload_n hx hb dX4_isWithin_0 rfl (lv_at hl 0 rfl) ?_
  refine lv_iload_n hx hb dX4_isWithin_1 rfl (lv_at hl 1 rfl) ?_
  refine lv_icmp_lt (tgt := 14) hx hb dX4_isWithin_2 (by decide) (fun k1 => ?_) (fun k1 => ?_)
  · refine lv_iconst (v := 0) hx hb dX4_isWithin_14 (by decide) ?_
    exact edZ hx hb hr hlocks dX4_isWithin_15 rfl (Or.inr ⟨rfl, fun q => ilt k1 q.1⟩)
  · refine lv_iload_n hx hb dX4_isWithin_5 rfl (lv_at hl 0 rfl) ?_
    refine lv_iload_n hx hb dX4_isWithin_6 rfl (lv_at hl 2 rfl) ?_
    refine lv_icmp_gt (tgt := 14) hx hb dX4_isWithin_7 (by decide) (fun k2 => ?_) (fun k2 => ?_)
    · refine lv_iconst (v := 0) hx hb dX4_isWithin_14 (by decide) ?_
      exact edZ hx hb hr hlocks dX4_isWithin_15 rfl (Or.inr ⟨rfl, fun q => ile q.2 k2⟩)
    · refine lv_iconst (v := 1) hx hb dX4_isWithin_10 (by decide) ?_
      refine lv_goto (tgt := 15) hx hb dX4_isWithin_11 (by decide) ?_
      exact edZ hx hb hr hlocks dX4_isWithin_15 rfl (Or.inl ⟨rfl, inl k1, inl k2⟩)

set_option maxHeartbeats 4000000 in
set_option maxRecDepth 100000 in
theorem c_isColumn (l : Launch) (dd : va_G) (cyI cyJ cyZ : ClassId) (a : Int32) : Met l yX4_isColumn wsX4_isColumn ({ frames := 1, cells := 0, slots := 0, locals := 22 } : Room) (va_Pc [.int a] (Rd dd [(cyI, .int), (cyJ, .long), (cyZ, .boolean)] [])) (vp_Si (fun r => (r = 1 ∧ 0 ≤ a ∧ a ≤ 4) ∨ (r = 0 ∧ ¬ (0 ≤ a ∧ a ≤ 4)))) 0 0 (fun _ => False) := by
  refine mkR (cc := cX4_isColumn) (maxL := 1) (by decide) rfl (Nat.le_of_ble_eq_true rfl) (lv0 := [(0, .int a)]) rfl ?_
  intro p e s m below meth c ls hx hb hr hml hown hlocks hts hN hP hK hl
  have hown : s.vm.findClass RX4 = some m.cls := hown
  refine lv_iload_n hx hb dX4_isColumn_0 rfl (lv_at hl 0 rfl) ?_
  refine lv_iconst (v := 0) hx hb dX4_isColumn_1 (by decide) ?_
  refine lv_iconst (v := 4) hx hb dX4_isColumn_2 (by decide) ?_
  refine clSi (As := [.int a, .int 0, .int 4]) (rest := []) ⟨hx, hb, hml, hown, hts⟩ (c_isWithin l dd cyI cyJ cyZ a 0 4) gX4_isColumn_X4_isWithin (n := 3) rfl ⟨rfl, rfl⟩ (by decide +kernel) ⟨Nat.le_of_ble_eq_true rfl, Nat.le_of_ble_eq_true rfl⟩ hN hK (hP.sub [] rfl) rfl hl.1 rfl (Nat.le_of_ble_eq_true rfl) dX4_isColumn_3 ⟨Nat.le_of_ble_eq_true rfl, Nat.le_of_ble_eq_true rfl⟩ (fun r hw => ?_)
  exact edZ hx hb hr hlocks dX4_isColumn_6 (by rcases hw with ⟨h, -⟩ | ⟨h, -⟩ <;> rw [h] <;> rfl) hw

set_option maxHeartbeats 4000000 in
set_option maxRecDepth 100000 in
theorem c_isSort (l : Launch) (dd : va_G) (cyI cyJ cyZ : ClassId) (a : Int32) : Met l yX4_isSort wsX4_isSort ({ frames := 1, cells := 0, slots := 0, locals := 22 } : Room) (va_Pc [.int a] (Rd dd [(cyI, .int), (cyJ, .long), (cyZ, .boolean)] [])) (vp_Si (fun r => (r = 1 ∧ 0 ≤ a ∧ a ≤ 10) ∨ (r = 0 ∧ ¬ (0 ≤ a ∧ a ≤ 10)))) 0 0 (fun _ => False) := by
  refine mkR (cc := cX4_isSort) (maxL := 1) (by decide) rfl (Nat.le_of_ble_eq_true rfl) (lv0 := [(0, .int a)]) rfl ?_
  intro p e s m below meth c ls hx hb hr hml hown hlocks hts hN hP hK hl
  have hown : s.vm.findClass RX4 = some m.cls := hown
  refine lv_iload_n hx hb dX4_isSort_0 rfl (lv_at hl 0 rfl) ?_
  refine lv_iconst (v := 0) hx hb dX4_isSort_1 (by decide) ?_
  refine lv_bipush (v := 10) hx hb dX4_isSort_2 (by decide) ?_
  refine clSi (As := [.int a, .int 0, .int 10]) (rest := []) ⟨hx, hb, hml, hown, hts⟩ (c_isWithin l dd cyI cyJ cyZ a 0 10) gX4_isSort_X4_isWithin (n := 3) rfl ⟨rfl, rfl⟩ (by decide +kernel) ⟨Nat.le_of_ble_eq_true rfl, Nat.le_of_ble_eq_true rfl⟩ hN hK (hP.sub [] rfl) rfl hl.1 rfl (Nat.le_of_ble_eq_true rfl) dX4_isSort_4 ⟨Nat.le_of_ble_eq_true rfl, Nat.le_of_ble_eq_true rfl⟩ (fun r hw => ?_)
  exact edZ hx hb hr hlocks dX4_isSort_7 (by rcases hw with ⟨h, -⟩ | ⟨h, -⟩ <;> rw [h] <;> rfl) hw

set_option maxHeartbeats 4000000 in
set_option maxRecDepth 100000 in
theorem c_isPart (l : Launch) (dd : va_G) (cyI cyJ cyZ : ClassId) (a : Int32) : Met l yX4_isPart wsX4_isPart ({ frames := 1, cells := 0, slots := 0, locals := 22 } : Room) (va_Pc [.int a] (Rd dd [(cyI, .int), (cyJ, .long), (cyZ, .boolean)] [])) (vp_Si (fun r => (r = 1 ∧ 0 ≤ a ∧ a ≤ 1) ∨ (r = 0 ∧ ¬ (0 ≤ a ∧ a ≤ 1)))) 0 0 (fun _ => False) := by
  refine mkR (cc := cX4_isPart) (maxL := 1) (by decide) rfl (Nat.le_of_ble_eq_true rfl) (lv0 := [(0, .int a)]) rfl ?_
  intro p e s m below meth c ls hx hb hr hml hown hlocks hts hN hP hK hl
  have hown : s.vm.findClass RX4 = some m.cls := hown
  refine lv_iload_n hx hb dX4_isPart_0 rfl (lv_at hl 0 rfl) ?_
  refine lv_iconst (v := 0) hx hb dX4_isPart_1 (by decide) ?_
  refine lv_iconst (v := 1) hx hb dX4_isPart_2 (by decide) ?_
  refine clSi (As := [.int a, .int 0, .int 1]) (rest := []) ⟨hx, hb, hml, hown, hts⟩ (c_isWithin l dd cyI cyJ cyZ a 0 1) gX4_isPart_X4_isWithin (n := 3) rfl ⟨rfl, rfl⟩ (by decide +kernel) ⟨Nat.le_of_ble_eq_true rfl, Nat.le_of_ble_eq_true rfl⟩ hN hK (hP.sub [] rfl) rfl hl.1 rfl (Nat.le_of_ble_eq_true rfl) dX4_isPart_3 ⟨Nat.le_of_ble_eq_true rfl, Nat.le_of_ble_eq_true rfl⟩ (fun r hw => ?_)
  exact edZ hx hb hr hlocks dX4_isPart_6 (by rcases hw with ⟨h, -⟩ | ⟨h, -⟩ <;> rw [h] <;> rfl) hw

set_option maxHeartbeats 4000000 in
set_option maxRecDepth 100000 in
theorem c_areTimes (l : Launch) (dd : va_G) (cyI cyJ cyZ : ClassId) (a b c0 : Int32) : Met l yX4_areTimes wsX4_areTimes ({ frames := 0, cells := 0, slots := 0, locals := 0 } : Room) (va_Pc [.int a, .int b, .int c0] (Rd dd [(cyI, .int), (cyJ, .long), (cyZ, .boolean)] [])) (vp_Si (fun r => (r = 1 ∧ 0 ≤ a ∧ a ≤ b ∧ b ≤ c0 ∧ c0 ≤ 1000) ∨ (r = 0 ∧ ¬ (0 ≤ a ∧ a ≤ b ∧ b ≤ c0 ∧ c0 ≤ 1000)))) 0 0 (fun _ => False) := by
  refine mkR (cc := cX4_areTimes) (maxL := 3) (by decide) rfl (Nat.le_of_ble_eq_true rfl) (lv0 := [(0, .int a), (1, .int b), (2, .int c0)]) rfl ?_
  intro p e s m below meth c ls hx hb hr hml hown hlocks hts hN hP hK hl
  have hown : s.vm.findClass RX4 = some m.cls := hown
  refine lv_iconst (v := 0) hx hb dX4_areTimes_0 (by decide) ?_
  refine lv_iload_n hx hb dX4_areTimes_1 rfl (lv_at hl 0 rfl) ?_
  refine lv_icmp_gt (tgt := 26) hx hb dX4_areTimes_2 (by decide) (fun k1 => ?_) (fun k1 => ?_)
  · refine lv_iconst (v := 0) hx hb dX4_areTimes_26 (by decide) ?_
    exact edZ hx hb hr hlocks dX4_areTimes_27 rfl (Or.inr ⟨rfl, fun q => ile q.1 k1⟩)
  · refine lv_iload_n hx hb dX4_areTimes_5 rfl (lv_at hl 0 rfl) ?_
    refine lv_iload_n hx hb dX4_areTimes_6 rfl (lv_at hl 1 rfl) ?_
    refine lv_icmp_gt (tgt := 26) hx hb dX4_areTimes_7 (by decide) (fun k2 => ?_) (fun k2 => ?_)
    · refine lv_iconst (v := 0) hx hb dX4_areTimes_26 (by decide) ?_
      exact edZ hx hb hr hlocks dX4_areTimes_27 rfl (Or.inr ⟨rfl, fun q => ile q.2.1 k2⟩)
    · refine lv_iload_n hx hb dX4_areTimes_10 rfl (lv_at hl 1 rfl) ?_
      refine lv_iload_n hx hb dX4_areTimes_11 rfl (lv_at hl 2 rfl) ?_
      refine lv_icmp_gt (tgt := 26) hx hb dX4_areTimes_12 (by decide) (fun k3 => ?_) (fun k3 => ?_)
      · refine lv_iconst (v := 0) hx hb dX4_areTimes_26 (by decide) ?_
        exact edZ hx hb hr hlocks dX4_areTimes_27 rfl (Or.inr ⟨rfl, fun q => ile q.2.2.1 k3⟩)
      · refine lv_iload_n hx hb dX4_areTimes_15 rfl (lv_at hl 2 rfl) ?_
        refine lv_sipush (v := 1000) hx hb dX4_areTimes_16 (by decide) ?_
        refine lv_icmp_gt (tgt := 26) hx hb dX4_areTimes_19 (by decide) (fun k4 => ?_) (fun k4 => ?_)
        · refine lv_iconst (v := 0) hx hb dX4_areTimes_26 (by decide) ?_
          exact edZ hx hb hr hlocks dX4_areTimes_27 rfl (Or.inr ⟨rfl, fun q => ile q.2.2.2 k4⟩)
        · refine lv_iconst (v := 1) hx hb dX4_areTimes_22 (by decide) ?_
          refine lv_goto (tgt := 27) hx hb dX4_areTimes_23 (by decide) ?_
          exact edZ hx hb hr hlocks dX4_areTimes_27 rfl (Or.inl ⟨rfl, inl k1, inl k2, inl k3, inl k4⟩)

set_option maxHeartbeats 4000000 in
set_option maxRecDepth 100000 in
theorem c_asNumber (l : Launch) (dd : va_G) (cyI cyJ cyZ : ClassId) (a : Int32) : Met l yX4_asNumber wsX4_asNumber ({ frames := 0, cells := 0, slots := 0, locals := 0 } : Room) (va_Pc [.int a] (Rd dd [(cyI, .int), (cyJ, .long), (cyZ, .boolean)] [])) (vp_Si (fun r => r = if a = 0 then 0 else 1)) 0 0 (fun _ => False) := by
  refine mkR (cc := cX4_asNumber) (maxL := 1) (by decide) rfl (Nat.le_of_ble_eq_true rfl) (lv0 := [(0, .int a)]) rfl ?_
  intro p e s m below meth c ls hx hb hr hml hown hlocks hts hN hP hK hl
  have hown : s.vm.findClass RX4 = some m.cls := hown
  refine lv_iload_n hx hb dX4_asNumber_0 rfl (lv_at hl 0 rfl) ?_
  refine lv_if_eq (tgt := 8) hx hb dX4_asNumber_1 (by decide) (fun k1 => ?_) (fun k1 => ?_)
  · refine lv_iconst (v := 0) hx hb dX4_asNumber_8 (by decide) ?_
    exact edI hx hb hr hlocks dX4_asNumber_9 (by rw [if_pos k1])
  · refine lv_iconst (v := 1) hx hb dX4_asNumber_4 (by decide) ?_
    refine lv_goto (tgt := 9) hx hb dX4_asNumber_5 (by decide) ?_
    exact edI hx hb hr hlocks dX4_asNumber_9 (by rw [if_neg k1])

set_option maxHeartbeats 4000000 in
set_option maxRecDepth 100000 in
theorem c_conditionOf (l : Launch) (dd : va_G) (cyI cyJ cyZ : ClassId) (a b : Int32) : Met l yX4_conditionOf wsX4_conditionOf ({ frames := 0, cells := 0, slots := 0, locals := 0 } : Room) (va_Pc [.int a, .int b] (Rd dd [(cyI, .int), (cyJ, .long), (cyZ, .boolean)] [])) (vp_Si (fun r => r = a * 11 + b)) 0 0 (fun _ => False) := by
  refine mkR (cc := cX4_conditionOf) (maxL := 2) (by decide) rfl (Nat.le_of_ble_eq_true rfl) (lv0 := [(0, .int a), (1, .int b)]) rfl ?_
  intro p e s m below meth c ls hx hb hr hml hown hlocks hts hN hP hK hl
  have hown : s.vm.findClass RX4 = some m.cls := hown
  refine lv_iload_n hx hb dX4_conditionOf_0 rfl (lv_at hl 0 rfl) ?_
  refine lv_bipush (v := 11) hx hb dX4_conditionOf_1 (by decide) ?_
  refine lv_imul hx hb dX4_conditionOf_3 ?_
  refine lv_iload_n hx hb dX4_conditionOf_4 rfl (lv_at hl 1 rfl) ?_
  refine lv_iadd hx hb dX4_conditionOf_5 ?_
  exact edI hx hb hr hlocks dX4_conditionOf_6 rfl

set_option maxHeartbeats 4000000 in
set_option maxRecDepth 100000 in
theorem c_columnOf (l : Launch) (dd : va_G) (cyI cyJ cyZ : ClassId) (a : Int32) : Met l yX4_columnOf wsX4_columnOf ({ frames := 0, cells := 0, slots := 0, locals := 0 } : Room) (va_Pc [.int a] (Rd dd [(cyI, .int), (cyJ, .long), (cyZ, .boolean)] [])) (vp_Si (fun r => r = if a = -1 then -1 else a / 11)) 0 0 (fun _ => False) := by
  refine mkR (cc := cX4_columnOf) (maxL := 1) (by decide) rfl (Nat.le_of_ble_eq_true rfl) (lv0 := [(0, .int a)]) rfl ?_
  intro p e s m below meth c ls hx hb hr hml hown hlocks hts hN hP hK hl
  have hown : s.vm.findClass RX4 = some m.cls := hown
  refine lv_iload_n hx hb dX4_columnOf_0 rfl (lv_at hl 0 rfl) ?_
  refine lv_iconst (v := (-1)) hx hb dX4_columnOf_1 (by decide) ?_
  refine lv_icmp_ne (tgt := 9) hx hb dX4_columnOf_2 (by decide) (fun k1 => ?_) (fun k1 => ?_)
  · refine lv_iload_n hx hb dX4_columnOf_9 rfl (lv_at hl 0 rfl) ?_
    refine lv_bipush (v := 11) hx hb dX4_columnOf_10 (by decide) ?_
    refine lv_idiv hx hb dX4_columnOf_12 (by decide) ?_
    exact edI hx hb hr hlocks dX4_columnOf_13 (by rw [if_neg k1])
  · refine lv_iconst (v := (-1)) hx hb dX4_columnOf_5 (by decide) ?_
    refine lv_goto (tgt := 13) hx hb dX4_columnOf_6 (by decide) ?_
    exact edI hx hb hr hlocks dX4_columnOf_13 (by rw [if_pos k1])

set_option maxHeartbeats 4000000 in
set_option maxRecDepth 100000 in
theorem c_sortOf (l : Launch) (dd : va_G) (cyI cyJ cyZ : ClassId) (a : Int32) : Met l yX4_sortOf wsX4_sortOf ({ frames := 0, cells := 0, slots := 0, locals := 0 } : Room) (va_Pc [.int a] (Rd dd [(cyI, .int), (cyJ, .long), (cyZ, .boolean)] [])) (vp_Si (fun r => r = if a = -1 then -1 else a - a / 11 * 11)) 0 0 (fun _ => False) := by
  refine mkR (cc := cX4_sortOf) (maxL := 1) (by decide) rfl (Nat.le_of_ble_eq_true rfl) (lv0 := [(0, .int a)]) rfl ?_
  intro p e s m below meth c ls hx hb hr hml hown hlocks hts hN hP hK hl
  have hown : s.vm.findClass RX4 = some m.cls := hown
  refine lv_iload_n hx hb dX4_sortOf_0 rfl (lv_at hl 0 rfl) ?_
  refine lv_iconst (v := (-1)) hx hb dX4_sortOf_1 (by decide) ?_
  refine lv_icmp_ne (tgt := 9) hx hb dX4_sortOf_2 (by decide) (fun k1 => ?_) (fun k1 => ?_)
  · refine lv_iload_n hx hb dX4_sortOf_9 rfl (lv_at hl 0 rfl) ?_
    refine lv_bipush (v := 11) hx hb dX4_sortOf_10 (by decide) ?_
    refine lv_irem hx hb dX4_sortOf_12 (by decide) ?_
    exact edI hx hb hr hlocks dX4_sortOf_13 (by rw [if_neg k1])
  · refine lv_iconst (v := (-1)) hx hb dX4_sortOf_5 (by decide) ?_
    refine lv_goto (tgt := 13) hx hb dX4_sortOf_6 (by decide) ?_
    exact edI hx hb hr hlocks dX4_sortOf_13 (by rw [if_pos k1])

set_option maxHeartbeats 4000000 in
set_option maxRecDepth 100000 in
theorem c_boundAbove (l : Launch) (dd : va_G) (cyI cyJ cyZ : ClassId) (a : Int32) : Met l yX4_boundAbove wsX4_boundAbove ({ frames := 0, cells := 0, slots := 0, locals := 0 } : Room) (va_Pc [.int a] (Rd dd [(cyI, .int), (cyJ, .long), (cyZ, .boolean)] [])) (vp_Si (fun r => r = a + 2)) 0 0 (fun _ => False) := by
  refine mkR (cc := cX4_boundAbove) (maxL := 1) (by decide) rfl (Nat.le_of_ble_eq_true rfl) (lv0 := [(0, .int a)]) rfl ?_
  intro p e s m below meth c ls hx hb hr hml hown hlocks hts hN hP hK hl
  have hown : s.vm.findClass RX4 = some m.cls := hown
  refine lv_iload_n hx hb dX4_boundAbove_0 rfl (lv_at hl 0 rfl) ?_
  refine lv_iconst (v := 2) hx hb dX4_boundAbove_1 (by decide) ?_
  refine lv_iadd hx hb dX4_boundAbove_2 ?_
  exact edI hx hb hr hlocks dX4_boundAbove_3 rfl

set_option maxHeartbeats 4000000 in
set_option maxRecDepth 100000 in
theorem c_boundBelow (l : Launch) (dd : va_G) (cyI cyJ cyZ : ClassId) (a : Int32) : Met l yX4_boundBelow wsX4_boundBelow ({ frames := 0, cells := 0, slots := 0, locals := 0 } : Room) (va_Pc [.int a] (Rd dd [(cyI, .int), (cyJ, .long), (cyZ, .boolean)] [])) (vp_Si (fun r => r = a + 4)) 0 0 (fun _ => False) := by
  refine mkR (cc := cX4_boundBelow) (maxL := 1) (by decide) rfl (Nat.le_of_ble_eq_true rfl) (lv0 := [(0, .int a)]) rfl ?_
  intro p e s m below meth c ls hx hb hr hml hown hlocks hts hN hP hK hl
  have hown : s.vm.findClass RX4 = some m.cls := hown
  refine lv_iload_n hx hb dX4_boundBelow_0 rfl (lv_at hl 0 rfl) ?_
  refine lv_iconst (v := 4) hx hb dX4_boundBelow_1 (by decide) ?_
  refine lv_iadd hx hb dX4_boundBelow_2 ?_
  exact edI hx hb hr hlocks dX4_boundBelow_3 rfl

theorem bcl1 {x : Nat} (hx : x < 2 ^ 64) : lN x - (((lN x).toUInt64 >>> ((1 : Int32).toInt64.toUInt64 &&& Int64.toUInt64 63)).toInt64 &&& 6148914691236517205) = lN (bc1 8 x) := by
  have h := wb_shr (n := x) (k := 1) hx (by decide)
  rw [show (1 : Int32) = nI 1 from rfl, h, show (6148914691236517205 : Int64) = lN (f55 8) from by decide +kernel, wb_and (by omega) (by decide), lN_sub (Nat.le_trans Nat.and_le_left (Nat.div_le_self _ _))]
  rfl
theorem bcl2 {x : Nat} (hx : x < 2 ^ 64) : (lN x &&& 3689348814741910323) + (((lN x).toUInt64 >>> ((2 : Int32).toInt64.toUInt64 &&& Int64.toUInt64 63)).toInt64 &&& 3689348814741910323) = lN (bc2 8 x) := by
  have h := wb_shr (n := x) (k := 2) hx (by decide)
  rw [show (2 : Int32) = nI 2 from rfl, h, show (3689348814741910323 : Int64) = lN (f33 8) from by decide +kernel, wb_and hx (by decide), wb_and (by omega) (by decide), lN_add]
  rfl
theorem bcl3 {x : Nat} (hx : x < 2 ^ 63) : (lN x + ((lN x).toUInt64 >>> ((4 : Int32).toInt64.toUInt64 &&& Int64.toUInt64 63)).toInt64) &&& 1085102592571150095 = lN (bc3 8 x) := by
  have h := wb_shr (n := x) (k := 4) (by omega) (by decide)
  rw [show (4 : Int32) = nI 4 from rfl, h, show (1085102592571150095 : Int64) = lN (f0f 8) from by decide +kernel, lN_add, wb_and (by omega) (by decide)]
  rfl
theorem bcl4 {x : Nat} (hx : x < 2 ^ 64) : lN x + ((lN x).toUInt64 >>> ((8 : Int32).toInt64.toUInt64 &&& Int64.toUInt64 63)).toInt64 = lN (x + x / 256) := by
  have h := wb_shr (n := x) (k := 8) (by omega) (by decide)
  rw [show (8 : Int32) = nI 8 from rfl, h, lN_add]
theorem bcl5 {x : Nat} (hx : x < 2 ^ 64) : lN x + ((lN x).toUInt64 >>> ((16 : Int32).toInt64.toUInt64 &&& Int64.toUInt64 63)).toInt64 = lN (x + x / 65536) := by
  have h := wb_shr (n := x) (k := 16) (by omega) (by decide)
  rw [show (16 : Int32) = nI 16 from rfl, h, lN_add]
theorem bcl6 {x : Nat} (hx : x < 2 ^ 64) : lN x + ((lN x).toUInt64 >>> ((32 : Int32).toInt64.toUInt64 &&& Int64.toUInt64 63)).toInt64 = lN (x + x / 4294967296) := by
  have h := wb_shr (n := x) (k := 32) (by omega) (by decide)
  rw [show (32 : Int32) = nI 32 from rfl, h, lN_add]
theorem bcl7 (x : Nat) : nI x &&& 127 = nI (x % 128) := by
  rw [pk_and (nI x) (m := 127) 7 (by decide)]
  show nI ((BitVec.ofNat 32 x).toNat % 128) = _
  rw [BitVec.toNat_ofNat]
  congr 1
  omega
theorem bc1_le (x : Nat) : bc1 8 x ≤ x := Nat.sub_le _ _
theorem bc2_le (x : Nat) : bc2 8 x ≤ 2 * f33 8 := by
  have a : x &&& f33 8 ≤ f33 8 := Nat.and_le_right
  have b : x / 4 &&& f33 8 ≤ f33 8 := Nat.and_le_right
  unfold bc2
  omega
theorem bc3_le (x : Nat) : bc3 8 x ≤ f0f 8 := Nat.and_le_right
theorem f33_8 : f33 8 = 3689348814741910323 := by decide
theorem f0f_8 : f0f 8 = 1085102592571150095 := by decide

set_option maxHeartbeats 4000000 in
set_option maxRecDepth 100000 in
theorem c_bitCount (l : Launch) (dd : va_G) (cyI cyJ cyZ : ClassId) (x : Nat) (hx0 : x < 2 ^ 64) : Met l yJ13_bitCount_95d88 wsJ13_bitCount_95d88 ({ frames := 0, cells := 0, slots := 0, locals := 0 } : Room) (va_Pc [.long (lN x)] (Rd dd [(cyI, .int), (cyJ, .long), (cyZ, .boolean)] [])) (vp_Si (fun r => r = nI (cnt x.testBit 64))) 0 0 (fun _ => False) := by
  refine mkR (cc := cJ13_bitCount_95d88) (maxL := 2) (by decide) rfl (Nat.le_of_ble_eq_true rfl) (lv0 := [(0, .long (lN x))]) rfl ?_
  intro p e s m below meth c ls hx hb hr hml hown hlocks hts hN hP hK hl
  have hown : s.vm.findClass RJ13 = some m.cls := hown
  have b1 := bc1_le x
  have b2 := bc2_le (bc1 8 x)
  have b3 := bc3_le (bc2 8 (bc1 8 x))
  rw [f33_8] at b2
  rw [f0f_8] at b3
  refine lv_lload_n hx hb dJ13_bitCount_95d88_0 rfl (lv_at hl 0 rfl) ?_
  refine lv_lload_n hx hb dJ13_bitCount_95d88_1 rfl (lv_at hl 0 rfl) ?_
  refine lv_iconst (v := 1) hx hb dJ13_bitCount_95d88_2 (by decide) ?_
  refine lv_lushr hx hb dJ13_bitCount_95d88_3 rfl ?_
  refine lv_ldc2 (v := 6148914691236517205) hx hb hown (hts (.constantLong RJ13 314 6148914691236517205) (by decide +kernel)) dJ13_bitCount_95d88_4 ?_
  refine lv_land hx hb dJ13_bitCount_95d88_7 ?_
  refine lv_lsub hx hb dJ13_bitCount_95d88_8 ?_
  refine tpl (show ((lN x) - ((((lN x).toUInt64 >>> ((1 : Int32).toInt64.toUInt64 &&& Int64.toUInt64 63)).toInt64) &&& 6148914691236517205) : Int64) = lN (bc1 8 x) from bcl1 hx0) ?_
  refine lv_lstore_n (lv' := [(0, .long (lN (bc1 8 x)))]) hx hb dJ13_bitCount_95d88_9 rfl hl (by decide) rfl (fun ls hl => ?_)
  refine lv_lload_n hx hb dJ13_bitCount_95d88_10 rfl (lv_at hl 0 rfl) ?_
  refine lv_ldc2 (v := 3689348814741910323) hx hb hown (hts (.constantLong RJ13 316 3689348814741910323) (by decide +kernel)) dJ13_bitCount_95d88_11 ?_
  refine lv_land hx hb dJ13_bitCount_95d88_14 ?_
  refine lv_lload_n hx hb dJ13_bitCount_95d88_15 rfl (lv_at hl 0 rfl) ?_
  refine lv_iconst (v := 2) hx hb dJ13_bitCount_95d88_16 (by decide) ?_
  refine lv_lushr hx hb dJ13_bitCount_95d88_17 rfl ?_
  refine lv_ldc2 (v := 3689348814741910323) hx hb hown (hts (.constantLong RJ13 316 3689348814741910323) (by decide +kernel)) dJ13_bitCount_95d88_18 ?_
  refine lv_land hx hb dJ13_bitCount_95d88_21 ?_
  refine lv_ladd hx hb dJ13_bitCount_95d88_22 ?_
  refine tpl (show (((lN (bc1 8 x)) &&& 3689348814741910323) + ((((lN (bc1 8 x)).toUInt64 >>> ((2 : Int32).toInt64.toUInt64 &&& Int64.toUInt64 63)).toInt64) &&& 3689348814741910323) : Int64) = lN (bc2 8 (bc1 8 x)) from bcl2 (by omega)) ?_
  refine lv_lstore_n (lv' := [(0, .long (lN (bc2 8 (bc1 8 x))))]) hx hb dJ13_bitCount_95d88_23 rfl hl (by decide) rfl (fun ls hl => ?_)
  refine lv_lload_n hx hb dJ13_bitCount_95d88_24 rfl (lv_at hl 0 rfl) ?_
  refine lv_lload_n hx hb dJ13_bitCount_95d88_25 rfl (lv_at hl 0 rfl) ?_
  refine lv_iconst (v := 4) hx hb dJ13_bitCount_95d88_26 (by decide) ?_
  refine lv_lushr hx hb dJ13_bitCount_95d88_27 rfl ?_
  refine lv_ladd hx hb dJ13_bitCount_95d88_28 ?_
  refine lv_ldc2 (v := 1085102592571150095) hx hb hown (hts (.constantLong RJ13 318 1085102592571150095) (by decide +kernel)) dJ13_bitCount_95d88_29 ?_
  refine lv_land hx hb dJ13_bitCount_95d88_32 ?_
  refine tpl (show (((lN (bc2 8 (bc1 8 x))) + (((lN (bc2 8 (bc1 8 x))).toUInt64 >>> ((4 : Int32).toInt64.toUInt64 &&& Int64.toUInt64 63)).toInt64)) &&& 1085102592571150095 : Int64) = lN (bcF 8 x) from bcl3 (by omega)) ?_
  obtain ⟨f, ef⟩ : ∃ f, f = bcF 8 x := ⟨_, rfl⟩
  have hf : f ≤ 1085102592571150095 := by rw [ef]; exact b3
  rw [← ef]
  refine lv_lstore_n (lv' := [(0, .long (lN f))]) hx hb dJ13_bitCount_95d88_33 rfl hl (by decide) rfl (fun ls hl => ?_)
  refine lv_lload_n hx hb dJ13_bitCount_95d88_34 rfl (lv_at hl 0 rfl) ?_
  refine lv_lload_n hx hb dJ13_bitCount_95d88_35 rfl (lv_at hl 0 rfl) ?_
  refine lv_bipush (v := 8) hx hb dJ13_bitCount_95d88_36 (by decide) ?_
  refine lv_lushr hx hb dJ13_bitCount_95d88_38 rfl ?_
  refine lv_ladd hx hb dJ13_bitCount_95d88_39 ?_
  refine tpl (show ((lN f) + (((lN f).toUInt64 >>> ((8 : Int32).toInt64.toUInt64 &&& Int64.toUInt64 63)).toInt64) : Int64) = lN (f + f / 256) from bcl4 (by omega)) ?_
  refine lv_lstore_n (lv' := [(0, .long (lN (f + f / 256)))]) hx hb dJ13_bitCount_95d88_40 rfl hl (by decide) rfl (fun ls hl => ?_)
  refine lv_lload_n hx hb dJ13_bitCount_95d88_41 rfl (lv_at hl 0 rfl) ?_
  refine lv_lload_n hx hb dJ13_bitCount_95d88_42 rfl (lv_at hl 0 rfl) ?_
  refine lv_bipush (v := 16) hx hb dJ13_bitCount_95d88_43 (by decide) ?_
  refine lv_lushr hx hb dJ13_bitCount_95d88_45 rfl ?_
  refine lv_ladd hx hb dJ13_bitCount_95d88_46 ?_
  refine tpl (show ((lN (f + f / 256)) + (((lN (f + f / 256)).toUInt64 >>> ((16 : Int32).toInt64.toUInt64 &&& Int64.toUInt64 63)).toInt64) : Int64) = lN (f + f / 256 + (f + f / 256) / 65536) from bcl5 (by omega)) ?_
  refine lv_lstore_n (lv' := [(0, .long (lN (f + f / 256 + (f + f / 256) / 65536)))]) hx hb dJ13_bitCount_95d88_47 rfl hl (by decide) rfl (fun ls hl => ?_)
  refine lv_lload_n hx hb dJ13_bitCount_95d88_48 rfl (lv_at hl 0 rfl) ?_
  refine lv_lload_n hx hb dJ13_bitCount_95d88_49 rfl (lv_at hl 0 rfl) ?_
  refine lv_bipush (v := 32) hx hb dJ13_bitCount_95d88_50 (by decide) ?_
  refine lv_lushr hx hb dJ13_bitCount_95d88_52 rfl ?_
  refine lv_ladd hx hb dJ13_bitCount_95d88_53 ?_
  refine tpl (show ((lN (f + f / 256 + (f + f / 256) / 65536)) + (((lN (f + f / 256 + (f + f / 256) / 65536)).toUInt64 >>> ((32 : Int32).toInt64.toUInt64 &&& Int64.toUInt64 63)).toInt64) : Int64) = lN (f + f / 256 + (f + f / 256) / 65536 + (f + f / 256 + (f + f / 256) / 65536) / 4294967296) from bcl6 (by omega)) ?_
  refine lv_lstore_n (lv' := [(0, .long (lN (f + f / 256 + (f + f / 256) / 65536 + (f + f / 256 + (f + f / 256) / 65536) / 4294967296)))]) hx hb dJ13_bitCount_95d88_54 rfl hl (by decide) rfl (fun ls hl => ?_)
  refine lv_lload_n hx hb dJ13_bitCount_95d88_55 rfl (lv_at hl 0 rfl) ?_
  refine lv_l2i hx hb dJ13_bitCount_95d88_56 rfl ?_
  refine tpi (show ((lN (f + f / 256 + (f + f / 256) / 65536 + (f + f / 256 + (f + f / 256) / 65536) / 4294967296)).toInt32 : Int32) = nI (f + f / 256 + (f + f / 256) / 65536 + (f + f / 256 + (f + f / 256) / 65536) / 4294967296) from lN_i _) ?_
  refine lv_bipush (v := 127) hx hb dJ13_bitCount_95d88_57 (by decide) ?_
  refine lv_iand hx hb dJ13_bitCount_95d88_59 ?_
  exact edI hx hb hr hlocks dJ13_bitCount_95d88_60 (by rw [bcl7, ← bc_all hx0, ef])

set_option maxHeartbeats 4000000 in
set_option maxRecDepth 100000 in
theorem c_driftBelow (l : Launch) (dd : va_G) (cyI cyJ cyZ : ClassId) (x z : Nat) (hx0 : x < 2 ^ 64) (hz0 : z < 2 ^ 64) : Met l yX4_driftBelow wsX4_driftBelow ({ frames := 1, cells := 0, slots := 0, locals := 21 } : Room) (va_Pc [.long (lN x), .long (lN z)] (Rd dd [(cyI, .int), (cyJ, .long), (cyZ, .boolean)] [])) (vp_Si (fun r => r = nI (2 * cnt x.testBit 64 * cnt z.testBit 64))) 0 0 (fun _ => False) := by
  refine mkR (cc := cX4_driftBelow) (maxL := 4) (by decide) rfl (Nat.le_of_ble_eq_true rfl) (lv0 := [(0, .long (lN x)), (2, .long (lN z))]) rfl ?_
  intro p e s m below meth c ls hx hb hr hml hown hlocks hts hN hP hK hl
  have hown : s.vm.findClass RX4 = some m.cls := hown
  refine lv_iconst (v := 2) hx hb dX4_driftBelow_0 (by decide) ?_
  refine lv_lload_n hx hb dX4_driftBelow_1 rfl (lv_at hl 0 rfl) ?_
  refine clSi (As := [.long (lN x)]) (rest := [.int 2]) ⟨hx, hb, hml, hown, hts⟩ (c_bitCount l dd cyI cyJ cyZ x hx0) gX4_driftBelow_J13_bitCount_95d88 (n := 1) rfl ⟨rfl, rfl⟩ (by decide +kernel) ⟨Nat.le_of_ble_eq_true rfl, Nat.le_of_ble_eq_true rfl⟩ hN hK (hP.sub [] rfl) rfl hl.1 rfl (Nat.le_of_ble_eq_true rfl) dX4_driftBelow_2 ⟨Nat.le_of_ble_eq_true rfl, Nat.le_of_ble_eq_true rfl⟩ (fun r1 h1 => ?_)
  subst h1
  refine lv_imul hx hb dX4_driftBelow_5 ?_
  refine lv_lload_n hx hb dX4_driftBelow_6 rfl (lv_at hl 1 rfl) ?_
  refine clSi (As := [.long (lN z)]) (rest := [.int (2 * (nI (cnt x.testBit 64)))]) ⟨hx, hb, hml, hown, hts⟩ (c_bitCount l dd cyI cyJ cyZ z hz0) gX4_driftBelow_J13_bitCount_95d88 (n := 1) rfl ⟨rfl, rfl⟩ (by decide +kernel) ⟨Nat.le_of_ble_eq_true rfl, Nat.le_of_ble_eq_true rfl⟩ hN hK (hP.sub [] rfl) rfl hl.1 rfl (Nat.le_of_ble_eq_true rfl) dX4_driftBelow_7 ⟨Nat.le_of_ble_eq_true rfl, Nat.le_of_ble_eq_true rfl⟩ (fun r2 h2 => ?_)
  subst h2
  refine lv_imul hx hb dX4_driftBelow_10 ?_
  exact edI hx hb hr hlocks dX4_driftBelow_11 (by rw [show (2 : Int32) = nI 2 from rfl, pk_mul, pk_mul])
