/-- how many rows of f have the sort k -/
def cs (f : Nat → Bool) (sI : Nat → Int32) (co n k : Nat) : Nat := cnt (fun i => hav sI co k i && f i) n
/-- what stands above in a drift, of the first k sorts -/
def dsu (f g : Nat → Bool) (sI : Nat → Int32) (co n : Nat) : Nat → Nat
  | 0 => 0
  | k + 1 => dsu f g sI co n k + (((cs f sI co n k * cnt g n : Nat) : Int) - ((cs g sI co n k * cnt f n : Nat) : Int)).natAbs
theorem cs_le (f : Nat → Bool) (sI : Nat → Int32) (co n k : Nat) : cs f sI co n k ≤ n := cnt_le _ _
theorem c48 {a b n : Nat} (hn : n ≤ 48) (ha : a ≤ n) (hb : b ≤ n) : a * b ≤ 2304 := Nat.le_trans (Nat.mul_le_mul (Nat.le_trans ha hn) (Nat.le_trans hb hn)) (by decide)
theorem dsu_le (f g : Nat → Bool) (sI : Nat → Int32) (co : Nat) {n : Nat} (hn : n ≤ 48) : ∀ k, dsu f g sI co n k ≤ 2304 * k
  | 0 => Nat.le_refl 0
  | k + 1 => by
    have h := dsu_le f g sI co hn k
    have h1 := c48 hn (cs_le f sI co n k) (cnt_le g n)
    have h2 := c48 hn (cs_le g sI co n k) (cnt_le f n)
    simp only [dsu]
    omega
theorem iabs {a b : Nat} (ha : a < 2 ^ 30) (hb : b < 2 ^ 30) : (if 0 ≤ nI a - nI b then nI a - nI b else 0 - (nI a - nI b)) = nI (((a : Nat) : Int) - ((b : Nat) : Int)).natAbs := by
  have hz : (0 : Int32).toInt = 0 := by decide
  have e := pk_sub_toInt ha hb
  by_cases q : b ≤ a
  · rw [if_pos (by rw [Int32.le_iff_toInt_le, e, hz]; omega), pk_sub q]
    congr 1
    omega
  · rw [if_neg (by rw [Int32.le_iff_toInt_le, e, hz]; omega), show nI a - nI b = -(nI b - nI a) from (Int32.neg_sub ..).symm, pk_sub (by omega : a ≤ b), Int32.zero_sub, Int32.neg_neg]
    congr 1
    omega

set_option maxHeartbeats 4000000 in
set_option maxRecDepth 100000 in
theorem c_driftAbove (l : Launch) (dd : va_G) (cyI cyJ cyZ : ClassId) (qr qt qh n : Nat) (hi : Int64) (tI : Nat → Int32) (hv : Nat → Int64) (hI sI : Nat → Int32) (hR : RowsOk n hI sI hi hv) (co : Nat) (hco : co < 5) (f g : Nat → Bool) : Met l yX2_driftAbove wsX2_driftAbove ({ frames := 2, cells := 0, slots := 0, locals := 43 } : Room) (va_Pc [.ref qr, .int (nI co), .long (lN (mk f n)), .long (lN (mk g n))] (Rd dd [(cyI, .int), (cyJ, .long), (cyZ, .boolean)] [(qr, .inr (2, [.int (nI n), .long hi, .ref qt, .ref qh])), (qt, .inl (cyI, 48, .inl tI)), (qh, .inl (cyJ, 55, .inr (.inl hv)))])) (vp_Si (fun r => r = nI (dsu f g sI co n 11))) 0 0 (fun _ => False) := by
  refine mkR (cc := cX2_driftAbove) (maxL := 12) (by decide) rfl (Nat.le_of_ble_eq_true rfl) (lv0 := [(0, .ref qr), (1, .int (nI co)), (2, .long (lN (mk f n))), (4, .long (lN (mk g n)))]) rfl ?_
  intro p e s m below meth c ls hx hb hr hml hown hlocks hts hN hP hK hl
  have hown : s.vm.findClass RX2 = some m.cls := hown
  have hiX2 : ∀ w ∈ wsX20, w ∈ wsX2_driftAbove := by decide +kernel
  obtain ⟨hn, -, hH, -, -⟩ := hR
  refine lv_lload_n hx hb dX2_driftAbove_0 rfl (lv_at hl 2 rfl) ?_
  refine clSi (As := [.long (lN (mk f n))]) (rest := []) ⟨hx, hb, hml, hown, hts⟩ (c_bitCount l dd cyI cyJ cyZ (mk (f) n) (mk64 _ hn)) gX2_driftAbove_J13_bitCount_95d88 (n := 1) rfl ⟨rfl, rfl⟩ (by decide +kernel) ⟨Nat.le_of_ble_eq_true rfl, Nat.le_of_ble_eq_true rfl⟩ hN hK (hP.sub [] rfl) rfl hl.1 rfl (Nat.le_of_ble_eq_true rfl) dX2_driftAbove_1 ⟨Nat.le_of_ble_eq_true rfl, Nat.le_of_ble_eq_true rfl⟩ (fun r1 hr1 => ?_)
  rw [cnt_mk _ (Nat.le_trans hn (by decide))] at hr1
  subst hr1
  refine lv_istore (lv' := [(6, .int (nI (cnt (f) n))), (0, .ref qr), (1, .int (nI co)), (2, .long (lN (mk f n))), (4, .long (lN (mk g n)))]) hx hb dX2_driftAbove_4 hl (by decide) rfl (fun ls hl => ?_)
  refine lv_lload hx hb dX2_driftAbove_6 (lv_at hl 4 rfl) ?_
  refine clSi (As := [.long (lN (mk g n))]) (rest := []) ⟨hx, hb, hml, hown, hts⟩ (c_bitCount l dd cyI cyJ cyZ (mk (g) n) (mk64 _ hn)) gX2_driftAbove_J13_bitCount_95d88 (n := 1) rfl ⟨rfl, rfl⟩ (by decide +kernel) ⟨Nat.le_of_ble_eq_true rfl, Nat.le_of_ble_eq_true rfl⟩ hN hK (hP.sub [] rfl) rfl hl.1 rfl (Nat.le_of_ble_eq_true rfl) dX2_driftAbove_8 ⟨Nat.le_of_ble_eq_true rfl, Nat.le_of_ble_eq_true rfl⟩ (fun r2 hr2 => ?_)
  rw [cnt_mk _ (Nat.le_trans hn (by decide))] at hr2
  subst hr2
  refine lv_istore (lv' := [(7, .int (nI (cnt (g) n))), (6, .int (nI (cnt (f) n))), (0, .ref qr), (1, .int (nI co)), (2, .long (lN (mk f n))), (4, .long (lN (mk g n)))]) hx hb dX2_driftAbove_11 hl (by decide) rfl (fun ls hl => ?_)
  refine lv_iconst (v := 0) hx hb dX2_driftAbove_13 (by decide) ?_
  refine lv_istore (lv' := [(8, .int 0), (7, .int (nI (cnt (g) n))), (6, .int (nI (cnt (f) n))), (0, .ref qr), (1, .int (nI co)), (2, .long (lN (mk f n))), (4, .long (lN (mk g n)))]) hx hb dX2_driftAbove_14 hl (by decide) rfl (fun ls hl => ?_)
  refine lv_iconst (v := 0) hx hb dX2_driftAbove_16 (by decide) ?_
  refine lv_istore (lv' := [(9, .int 0), (8, .int 0), (7, .int (nI (cnt (g) n))), (6, .int (nI (cnt (f) n))), (0, .ref qr), (1, .int (nI co)), (2, .long (lN (mk f n))), (4, .long (lN (mk g n)))]) hx hb dX2_driftAbove_17 hl (by decide) rfl (fun ls hl => ?_)
  have loop : ∀ (k : Nat) (k9 : Nat), k9 + k = 11 → ∀ ls : Array Slot, lv_has ls 12 [(9, .int (nI k9)), (8, .int (nI (dsu f g sI co n k9))), (7, .int (nI (cnt g n))), (6, .int (nI (cnt f n))), (0, .ref qr), (1, .int (nI co)), (2, .long (lN (mk f n))), (4, .long (lN (mk g n)))] → W p l e ({ frames := 2, cells := 0, slots := 0, locals := 43 } : Room) s m ([.ref qr, .int (nI co), .long (lN (mk f n)), .long (lN (mk g n))] : List Value).toArray below meth c s.heap [] 0 0 (MQ below (vp_Si (fun r => r = nI (dsu f g sI co n 11))) ([.ref qr, .int (nI co), .long (lN (mk f n)), .long (lN (mk g n))] : List Value).toArray s 0 0 (fun _ => False)) (F0 m 19 ls []) := by
    intro k
    induction k with
    | zero =>
      intro k9 hk9 ls hl
      refine lv_iload hx hb dX2_driftAbove_19 (lv_at hl 0 rfl) ?_
      refine lv_bipush (v := 11) hx hb dX2_driftAbove_21 (by decide) ?_
      refine lv_icmp_ge (tgt := 71) hx hb dX2_driftAbove_23 (by decide) (fun q => ?_) (fun q => ?_)
      · refine lv_iload hx hb dX2_driftAbove_71 (lv_at hl 1 rfl) ?_
        exact edI hx hb hr hlocks dX2_driftAbove_73 (by rw [show k9 = 11 by omega])
      · exact absurd (nI_le (show 11 ≤ k9 by omega) (by omega)) q
    | succ k ih =>
      intro k9 hk9 ls hl
      refine lv_iload hx hb dX2_driftAbove_19 (lv_at hl 0 rfl) ?_
      refine lv_bipush (v := 11) hx hb dX2_driftAbove_21 (by decide) ?_
      refine lv_icmp_ge (tgt := 71) hx hb dX2_driftAbove_23 (by decide) (fun q => ?_) (fun q => ?_)
      · exact absurd q (nI_ge (show k9 < 11 by omega) (by decide))
      · refine lv_aload_n hx hb dX2_driftAbove_26 rfl (lv_at hl 4 rfl) ?_
        refine lv_iload_n hx hb dX2_driftAbove_27 rfl (lv_at hl 5 rfl) ?_
        refine lv_iload hx hb dX2_driftAbove_28 (lv_at hl 0 rfl) ?_
        refine clVl (As := [.int (nI co), .int (nI k9)]) (rest := []) (b := qr) (vc := (RX2, TX2, 4)) ⟨hx, hb, hml, hown, hts⟩ (c_withSort l dd cyI cyJ cyZ qr qt qh n hi tI hv co k9 hco (by omega)) gX2_driftAbove_X2_withSort (ci := 2) rfl (q0 := 0) rfl (n := 2) rfl ⟨rfl, rfl⟩ (by decide +kernel) ⟨Nat.le_of_ble_eq_true rfl, Nat.le_of_ble_eq_true rfl⟩ hN hK (hP.sub [0, 1, 2] rfl) rfl hl.1 rfl (Nat.le_of_ble_eq_true rfl) dX2_driftAbove_30 ⟨Nat.le_of_ble_eq_true rfl, Nat.le_of_ble_eq_true rfl⟩ (fun r1 h1 => ?_)
        rw [hH co hco k9 (by omega)] at h1
        subst h1
        refine lv_lstore (lv' := [(10, .long (lN (mk (hav sI co k9) n))), (9, .int (nI k9)), (8, .int (nI (dsu f g sI co n k9))), (7, .int (nI (cnt g n))), (6, .int (nI (cnt f n))), (0, .ref qr), (1, .int (nI co)), (2, .long (lN (mk f n))), (4, .long (lN (mk g n)))]) hx hb dX2_driftAbove_33 hl (by decide) rfl (fun ls hl => ?_)
        refine lv_iload hx hb dX2_driftAbove_35 (lv_at hl 2 rfl) ?_
        refine lv_lload hx hb dX2_driftAbove_37 (lv_at hl 0 rfl) ?_
        refine lv_lload_n hx hb dX2_driftAbove_39 rfl (lv_at hl 7 rfl) ?_
        refine lv_land hx hb dX2_driftAbove_40 ?_
        refine tpl (show ((lN (mk (hav sI co k9) n)) &&& (lN (mk f n)) : Int64) = lN (mk (fun i => hav sI co k9 i && f i) n) from lN_and hn) ?_
        refine clSi (As := [.long (lN (mk (fun i => hav sI co k9 i && f i) n))]) (rest := [.int (nI (dsu f g sI co n k9))]) ⟨hx, hb, hml, hown, hts⟩ (c_bitCount l dd cyI cyJ cyZ (mk (fun i => hav sI co k9 i && f i) n) (mk64 _ hn)) gX2_driftAbove_J13_bitCount_95d88 (n := 1) rfl ⟨rfl, rfl⟩ (by decide +kernel) ⟨Nat.le_of_ble_eq_true rfl, Nat.le_of_ble_eq_true rfl⟩ hN hK (hP.sub [] rfl) rfl hl.1 rfl (Nat.le_of_ble_eq_true rfl) dX2_driftAbove_41 ⟨Nat.le_of_ble_eq_true rfl, Nat.le_of_ble_eq_true rfl⟩ (fun r3 hr3 => ?_)
        rw [cnt_mk _ (Nat.le_trans hn (by decide))] at hr3
        subst hr3
        refine lv_iload hx hb dX2_driftAbove_44 (lv_at hl 3 rfl) ?_
        refine lv_imul hx hb dX2_driftAbove_46 ?_
        refine tpi (show ((nI (cnt (fun i => hav sI co k9 i && f i) n)) * (nI (cnt g n)) : Int32) = nI (cs f sI co n k9 * cnt g n) from pk_mul _ _) ?_
        refine lv_lload hx hb dX2_driftAbove_47 (lv_at hl 0 rfl) ?_
        refine lv_lload hx hb dX2_driftAbove_49 (lv_at hl 8 rfl) ?_
        refine lv_land hx hb dX2_driftAbove_51 ?_
        refine tpl (show ((lN (mk (hav sI co k9) n)) &&& (lN (mk g n)) : Int64) = lN (mk (fun i => hav sI co k9 i && g i) n) from lN_and hn) ?_
        refine clSi (As := [.long (lN (mk (fun i => hav sI co k9 i && g i) n))]) (rest := [.int (nI (cs f sI co n k9 * cnt g n)), .int (nI (dsu f g sI co n k9))]) ⟨hx, hb, hml, hown, hts⟩ (c_bitCount l dd cyI cyJ cyZ (mk (fun i => hav sI co k9 i && g i) n) (mk64 _ hn)) gX2_driftAbove_J13_bitCount_95d88 (n := 1) rfl ⟨rfl, rfl⟩ (by decide +kernel) ⟨Nat.le_of_ble_eq_true rfl, Nat.le_of_ble_eq_true rfl⟩ hN hK (hP.sub [] rfl) rfl hl.1 rfl (Nat.le_of_ble_eq_true rfl) dX2_driftAbove_52 ⟨Nat.le_of_ble_eq_true rfl, Nat.le_of_ble_eq_true rfl⟩ (fun r4 hr4 => ?_)
        rw [cnt_mk _ (Nat.le_trans hn (by decide))] at hr4
        subst hr4
        refine lv_iload hx hb dX2_driftAbove_55 (lv_at hl 4 rfl) ?_
        refine lv_imul hx hb dX2_driftAbove_57 ?_
        refine tpi (show ((nI (cnt (fun i => hav sI co k9 i && g i) n)) * (nI (cnt f n)) : Int32) = nI (cs g sI co n k9 * cnt f n) from pk_mul _ _) ?_
        refine lv_isub hx hb dX2_driftAbove_58 ?_
        refine va_mabs hx hb (hml.trans hl.1.symm) hown (hts (.methodLink RX2 50 Lib.Math.abs.name) (by decide +kernel)) (hts (.static Lib.Math.abs.name) (by decide +kernel)) (hts (.initialized "java/lang/Math") (by decide +kernel)) (hts (.code Lib.Math.abs.name Lib.Math.abs.code 1 (some .int)) (by decide +kernel)) (Nat.le_of_ble_eq_true rfl) (Nat.le_of_ble_eq_true rfl) (Nat.le_of_ble_eq_true rfl) (Nat.le_of_ble_eq_true rfl) dX2_driftAbove_59 ?_
        have b1 := c48 hn (cs_le f sI co n k9) (cnt_le g n)
        have b2 := c48 hn (cs_le g sI co n k9) (cnt_le f n)
        refine tpi (show (if 0 ≤ ((nI (cs f sI co n k9 * cnt g n)) - (nI (cs g sI co n k9 * cnt f n))) then (nI (cs f sI co n k9 * cnt g n)) - (nI (cs g sI co n k9 * cnt f n)) else 0 - ((nI (cs f sI co n k9 * cnt g n)) - (nI (cs g sI co n k9 * cnt f n))) : Int32) = nI (((cs f sI co n k9 * cnt g n : Nat) : Int) - ((cs g sI co n k9 * cnt f n : Nat) : Int)).natAbs from iabs (by omega) (by omega)) ?_
        refine lv_iadd hx hb dX2_driftAbove_62 ?_
        refine tpi (show ((nI (dsu f g sI co n k9)) + (nI (((cs f sI co n k9 * cnt g n : Nat) : Int) - ((cs g sI co n k9 * cnt f n : Nat) : Int)).natAbs) : Int32) = nI (dsu f g sI co n (k9 + 1)) from nI_add _ _) ?_
        refine lv_istore (lv' := [(8, .int (nI (dsu f g sI co n (k9 + 1)))), (10, .long (lN (mk (hav sI co k9) n))), (9, .int (nI k9)), (7, .int (nI (cnt g n))), (6, .int (nI (cnt f n))), (0, .ref qr), (1, .int (nI co)), (2, .long (lN (mk f n))), (4, .long (lN (mk g n)))]) hx hb dX2_driftAbove_63 hl (by decide) rfl (fun ls hl => ?_)
        refine lv_iinc (v := nI (k9 + 1)) (lv' := [(9, .int (nI (k9 + 1))), (8, .int (nI (dsu f g sI co n (k9 + 1)))), (10, .long (lN (mk (hav sI co k9) n))), (7, .int (nI (cnt g n))), (6, .int (nI (cnt f n))), (0, .ref qr), (1, .int (nI co)), (2, .long (lN (mk f n))), (4, .long (lN (mk g n)))]) hx hb dX2_driftAbove_65 hl (k := 2) rfl (nI_1 k9) (by decide) rfl (fun ls hl => ?_)
        refine lv_goto (tgt := 19) hx hb dX2_driftAbove_68 (by decide) ?_
        exact ih (k9 + 1) (by omega) ls (lv_sub hl [0, 1, 3, 4, 5, 6, 7, 8] rfl)
  exact loop 11 0 rfl ls (lv_sub hl [0, 1, 2, 3, 4, 5, 6, 7] rfl)

/-- how many of the first k columns stand ahead of co by drift -/
def plc (f g : Nat → Bool) (sI : Nat → Int32) (n co : Nat) : Nat → Nat
  | 0 => 0
  | k + 1 => plc f g sI n co k + (if dsu f g sI co n 11 < dsu f g sI k n 11 ∨ (dsu f g sI k n 11 = dsu f g sI co n 11 ∧ k < co) then 1 else 0)
theorem plc_y {f g : Nat → Bool} {sI : Nat → Int32} {n co k : Nat} (h : dsu f g sI co n 11 < dsu f g sI k n 11 ∨ (dsu f g sI k n 11 = dsu f g sI co n 11 ∧ k < co)) : plc f g sI n co (k + 1) = plc f g sI n co k + 1 := by
  simp only [plc]
  rw [if_pos h]
theorem plc_n {f g : Nat → Bool} {sI : Nat → Int32} {n co k : Nat} (h : ¬ (dsu f g sI co n 11 < dsu f g sI k n 11 ∨ (dsu f g sI k n 11 = dsu f g sI co n 11 ∧ k < co))) : plc f g sI n co (k + 1) = plc f g sI n co k := by
  simp only [plc]
  rw [if_neg h, Nat.add_zero]

set_option maxHeartbeats 4000000 in
set_option maxRecDepth 100000 in
theorem c_placeByDrift (l : Launch) (dd : va_G) (cyI cyJ cyZ : ClassId) (qr qt qh n : Nat) (hi : Int64) (tI : Nat → Int32) (hv : Nat → Int64) (hI sI : Nat → Int32) (hR : RowsOk n hI sI hi hv) (co : Nat) (hco : co < 5) (f g : Nat → Bool) : Met l yX2_placeByDrift wsX2_placeByDrift ({ frames := 3, cells := 0, slots := 0, locals := 74 } : Room) (va_Pc [.ref qr, .int (nI co), .long (lN (mk f n)), .long (lN (mk g n))] (Rd dd [(cyI, .int), (cyJ, .long), (cyZ, .boolean)] [(qr, .inr (2, [.int (nI n), .long hi, .ref qt, .ref qh])), (qt, .inl (cyI, 48, .inl tI)), (qh, .inl (cyJ, 55, .inr (.inl hv)))])) (vp_Si (fun r => r = nI (plc f g sI n co 5))) 0 0 (fun _ => False) := by
  refine mkR (cc := cX2_placeByDrift) (maxL := 10) (by decide) rfl (Nat.le_of_ble_eq_true rfl) (lv0 := [(0, .ref qr), (1, .int (nI co)), (2, .long (lN (mk f n))), (4, .long (lN (mk g n)))]) rfl ?_
  intro p e s m below meth c ls hx hb hr hml hown hlocks hts hN hP hK hl
  have hown : s.vm.findClass RX2 = some m.cls := hown
  have hiX2 : ∀ w ∈ wsX20, w ∈ wsX2_placeByDrift := by decide +kernel
  have hn := hR.1
  have hb1 : ∀ o, dsu f g sI o n 11 < 2 ^ 31 := fun o => Nat.lt_of_le_of_lt (dsu_le f g sI o hn 11) (by decide)
  refine lv_aload_n hx hb dX2_placeByDrift_0 rfl (lv_at hl 0 rfl) ?_
  refine lv_iload_n hx hb dX2_placeByDrift_1 rfl (lv_at hl 1 rfl) ?_
  refine lv_lload_n hx hb dX2_placeByDrift_2 rfl (lv_at hl 2 rfl) ?_
  refine lv_lload hx hb dX2_placeByDrift_3 (lv_at hl 3 rfl) ?_
  refine clVi (As := [.int (nI co), .long (lN (mk f n)), .long (lN (mk g n))]) (rest := []) (b := qr) (vc := (RX2, TX2, 4)) ⟨hx, hb, hml, hown, hts⟩ (c_driftAbove l dd cyI cyJ cyZ qr qt qh n hi tI hv hI sI hR co hco f g) gX2_placeByDrift_X2_driftAbove (ci := 2) rfl (q0 := 0) rfl (n := 3) rfl ⟨rfl, rfl⟩ (by decide +kernel) ⟨Nat.le_of_ble_eq_true rfl, Nat.le_of_ble_eq_true rfl⟩ hN hK (hP.sub [0, 1, 2] rfl) rfl hl.1 rfl (Nat.le_of_ble_eq_true rfl) dX2_placeByDrift_5 ⟨Nat.le_of_ble_eq_true rfl, Nat.le_of_ble_eq_true rfl⟩ (fun r1 hr1 => ?_)
  subst hr1
  refine lv_istore (lv' := [(6, .int (nI (dsu f g sI co n 11))), (0, .ref qr), (1, .int (nI co)), (2, .long (lN (mk f n))), (4, .long (lN (mk g n)))]) hx hb dX2_placeByDrift_8 hl (by decide) rfl (fun ls hl => ?_)
  refine lv_iconst (v := 0) hx hb dX2_placeByDrift_10 (by decide) ?_
  refine lv_istore (lv' := [(7, .int 0), (6, .int (nI (dsu f g sI co n 11))), (0, .ref qr), (1, .int (nI co)), (2, .long (lN (mk f n))), (4, .long (lN (mk g n)))]) hx hb dX2_placeByDrift_11 hl (by decide) rfl (fun ls hl => ?_)
  refine lv_iconst (v := 0) hx hb dX2_placeByDrift_13 (by decide) ?_
  refine lv_istore (lv' := [(8, .int 0), (7, .int 0), (6, .int (nI (dsu f g sI co n 11))), (0, .ref qr), (1, .int (nI co)), (2, .long (lN (mk f n))), (4, .long (lN (mk g n)))]) hx hb dX2_placeByDrift_14 hl (by decide) rfl (fun ls hl => ?_)
  have loop : ∀ (k : Nat) (o : Nat), o + k = 5 → ∀ ls : Array Slot, lv_has ls 10 [(8, .int (nI o)), (7, .int (nI (plc f g sI n co o))), (6, .int (nI (dsu f g sI co n 11))), (0, .ref qr), (1, .int (nI co)), (2, .long (lN (mk f n))), (4, .long (lN (mk g n)))] → W p l e ({ frames := 3, cells := 0, slots := 0, locals := 74 } : Room) s m ([.ref qr, .int (nI co), .long (lN (mk f n)), .long (lN (mk g n))] : List Value).toArray below meth c s.heap [] 0 0 (MQ below (vp_Si (fun r => r = nI (plc f g sI n co 5))) ([.ref qr, .int (nI co), .long (lN (mk f n)), .long (lN (mk g n))] : List Value).toArray s 0 0 (fun _ => False)) (F0 m 16 ls []) := by
    intro k
    induction k with
    | zero =>
      intro o ho ls hl
      refine lv_iload hx hb dX2_placeByDrift_16 (lv_at hl 0 rfl) ?_
      refine lv_iconst (v := 5) hx hb dX2_placeByDrift_18 (by decide) ?_
      refine lv_icmp_ge (tgt := 62) hx hb dX2_placeByDrift_19 (by decide) (fun q => ?_) (fun q => ?_)
      · refine lv_iload hx hb dX2_placeByDrift_62 (lv_at hl 1 rfl) ?_
        exact edI hx hb hr hlocks dX2_placeByDrift_64 (by rw [show o = 5 by omega])
      · exact absurd (nI_le (show 5 ≤ o by omega) (by omega)) q
    | succ k ih =>
      intro o ho ls hl
      refine lv_iload hx hb dX2_placeByDrift_16 (lv_at hl 0 rfl) ?_
      refine lv_iconst (v := 5) hx hb dX2_placeByDrift_18 (by decide) ?_
      refine lv_icmp_ge (tgt := 62) hx hb dX2_placeByDrift_19 (by decide) (fun q => ?_) (fun q => ?_)
      · exact absurd q (nI_ge (show o < 5 by omega) (by decide))
      · refine lv_aload_n hx hb dX2_placeByDrift_22 rfl (lv_at hl 3 rfl) ?_
        refine lv_iload hx hb dX2_placeByDrift_23 (lv_at hl 0 rfl) ?_
        refine lv_lload_n hx hb dX2_placeByDrift_25 rfl (lv_at hl 5 rfl) ?_
        refine lv_lload hx hb dX2_placeByDrift_26 (lv_at hl 6 rfl) ?_
        refine clVi (As := [.int (nI o), .long (lN (mk f n)), .long (lN (mk g n))]) (rest := []) (b := qr) (vc := (RX2, TX2, 4)) ⟨hx, hb, hml, hown, hts⟩ (c_driftAbove l dd cyI cyJ cyZ qr qt qh n hi tI hv hI sI hR o (by omega) f g) gX2_placeByDrift_X2_driftAbove (ci := 2) rfl (q0 := 0) rfl (n := 3) rfl ⟨rfl, rfl⟩ (by decide +kernel) ⟨Nat.le_of_ble_eq_true rfl, Nat.le_of_ble_eq_true rfl⟩ hN hK (hP.sub [0, 1, 2] rfl) rfl hl.1 rfl (Nat.le_of_ble_eq_true rfl) dX2_placeByDrift_28 ⟨Nat.le_of_ble_eq_true rfl, Nat.le_of_ble_eq_true rfl⟩ (fun r2 hr2 => ?_)
        subst hr2
        refine lv_istore (lv' := [(9, .int (nI (dsu f g sI o n 11))), (8, .int (nI o)), (7, .int (nI (plc f g sI n co o))), (6, .int (nI (dsu f g sI co n 11))), (0, .ref qr), (1, .int (nI co)), (2, .long (lN (mk f n))), (4, .long (lN (mk g n)))]) hx hb dX2_placeByDrift_31 hl (by decide) rfl (fun ls hl => ?_)
        refine lv_iload hx hb dX2_placeByDrift_33 (lv_at hl 0 rfl) ?_
        refine lv_iload hx hb dX2_placeByDrift_35 (lv_at hl 3 rfl) ?_
        refine lv_icmp_gt (tgt := 53) hx hb dX2_placeByDrift_37 (by decide) (fun q2 => ?_) (fun q2 => ?_)
        · refine lv_iinc (v := nI (plc f g sI n co o + 1)) (lv' := [(7, .int (nI (plc f g sI n co o + 1))), (9, .int (nI (dsu f g sI o n 11))), (8, .int (nI o)), (6, .int (nI (dsu f g sI co n 11))), (0, .ref qr), (1, .int (nI co)), (2, .long (lN (mk f n))), (4, .long (lN (mk g n)))]) hx hb dX2_placeByDrift_53 hl (k := 2) rfl (nI_1 _) (by decide) rfl (fun ls hl => ?_)
          refine lv_iinc (v := nI (o + 1)) (lv' := [(8, .int (nI (o + 1))), (7, .int (nI (plc f g sI n co o + 1))), (9, .int (nI (dsu f g sI o n 11))), (6, .int (nI (dsu f g sI co n 11))), (0, .ref qr), (1, .int (nI co)), (2, .long (lN (mk f n))), (4, .long (lN (mk g n)))]) hx hb dX2_placeByDrift_56 hl (k := 2) rfl (nI_1 o) (by decide) rfl (fun ls hl => ?_)
          refine lv_goto (tgt := 16) hx hb dX2_placeByDrift_59 (by decide) ?_
          exact ih (o + 1) (by omega) ls (by rw [plc_y (Or.inl ((nI_ltI (hb1 co) (hb1 o)).mp q2))]; exact (lv_sub hl [0, 1, 3, 4, 5, 6, 7] rfl))
        · refine lv_iload hx hb dX2_placeByDrift_40 (lv_at hl 0 rfl) ?_
          refine lv_iload hx hb dX2_placeByDrift_42 (lv_at hl 3 rfl) ?_
          refine lv_icmp_ne (tgt := 56) hx hb dX2_placeByDrift_44 (by decide) (fun q3 => ?_) (fun q3 => ?_)
          · refine lv_iinc (v := nI (o + 1)) (lv' := [(8, .int (nI (o + 1))), (9, .int (nI (dsu f g sI o n 11))), (7, .int (nI (plc f g sI n co o))), (6, .int (nI (dsu f g sI co n 11))), (0, .ref qr), (1, .int (nI co)), (2, .long (lN (mk f n))), (4, .long (lN (mk g n)))]) hx hb dX2_placeByDrift_56 hl (k := 1) rfl (nI_1 o) (by decide) rfl (fun ls hl => ?_)
            refine lv_goto (tgt := 16) hx hb dX2_placeByDrift_59 (by decide) ?_
            exact ih (o + 1) (by omega) ls (by rw [plc_n (fun h => h.elim (fun a => q2 (nI_lt a (hb1 o))) (fun a => q3 (by rw [a.1])))]; exact (lv_sub hl [0, 2, 3, 4, 5, 6, 7] rfl))
          · refine lv_iload hx hb dX2_placeByDrift_47 (lv_at hl 1 rfl) ?_
            refine lv_iload_n hx hb dX2_placeByDrift_49 rfl (lv_at hl 5 rfl) ?_
            refine lv_icmp_ge (tgt := 56) hx hb dX2_placeByDrift_50 (by decide) (fun q4 => ?_) (fun q4 => ?_)
            · refine lv_iinc (v := nI (o + 1)) (lv' := [(8, .int (nI (o + 1))), (9, .int (nI (dsu f g sI o n 11))), (7, .int (nI (plc f g sI n co o))), (6, .int (nI (dsu f g sI co n 11))), (0, .ref qr), (1, .int (nI co)), (2, .long (lN (mk f n))), (4, .long (lN (mk g n)))]) hx hb dX2_placeByDrift_56 hl (k := 1) rfl (nI_1 o) (by decide) rfl (fun ls hl => ?_)
              refine lv_goto (tgt := 16) hx hb dX2_placeByDrift_59 (by decide) ?_
              exact ih (o + 1) (by omega) ls (by rw [plc_n (fun h => h.elim (fun a => q2 (nI_lt a (hb1 o))) (fun a => absurd q4 (nI_ge a.2 (by omega))))]; exact (lv_sub hl [0, 2, 3, 4, 5, 6, 7] rfl))
            · refine lv_iinc (v := nI (plc f g sI n co o + 1)) (lv' := [(7, .int (nI (plc f g sI n co o + 1))), (9, .int (nI (dsu f g sI o n 11))), (8, .int (nI o)), (6, .int (nI (dsu f g sI co n 11))), (0, .ref qr), (1, .int (nI co)), (2, .long (lN (mk f n))), (4, .long (lN (mk g n)))]) hx hb dX2_placeByDrift_53 hl (k := 2) rfl (nI_1 _) (by decide) rfl (fun ls hl => ?_)
              refine lv_iinc (v := nI (o + 1)) (lv' := [(8, .int (nI (o + 1))), (7, .int (nI (plc f g sI n co o + 1))), (9, .int (nI (dsu f g sI o n 11))), (6, .int (nI (dsu f g sI co n 11))), (0, .ref qr), (1, .int (nI co)), (2, .long (lN (mk f n))), (4, .long (lN (mk g n)))]) hx hb dX2_placeByDrift_56 hl (k := 2) rfl (nI_1 o) (by decide) rfl (fun ls hl => ?_)
              refine lv_goto (tgt := 16) hx hb dX2_placeByDrift_59 (by decide) ?_
              exact ih (o + 1) (by omega) ls (by rw [plc_y (Or.inr ⟨(nI_eq (hb1 o) (hb1 co)).mp q3, Nat.lt_of_not_le (fun a => q4 (nI_le a (by omega)))⟩)]; exact (lv_sub hl [0, 1, 3, 4, 5, 6, 7] rfl))
  exact loop 5 0 rfl ls (lv_sub hl [0, 1, 2, 3, 4, 5, 6] rfl)
