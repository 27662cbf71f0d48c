abbrev slOk (a b : Int32) : Prop := (1 ≤ a ∧ a ≤ 48) ∧ (1 ≤ b ∧ b ≤ 2)
/-- hits and list behind a call of slices -/
def slN (n : Nat) (hI sI : Nat → Int32) (a b : Int32) (hm : Nat) (Lc : Ls) : Nat × Ls := if slOk a b then (mk (hit hI) n, mks (mk (hit hI) n) (cl a) (hvM sI n) (decide (b = 2)) 55 0 L0) else (hm, Lc)
def slR (n : Nat) (hI sI : Nat → Int32) (a b : Int32) : Int32 := if slOk a b then nI (mks (mk (hit hI) n) (cl a) (hvM sI n) (decide (b = 2)) 55 0 L0).1 else -1000002
theorem mk48 (f : Nat → Bool) {n : Nat} (hn : n ≤ 48) : mk f n < 2 ^ 48 := Nat.lt_of_lt_of_le (mk_lt f n) (Nat.pow_le_pow_right (by decide) hn)

set_option maxHeartbeats 4000000 in
set_option maxRecDepth 100000 in
theorem x_slices (l : Launch) (dd : va_G) (cyI cyJ cyZ : ClassId) (qx qk qa ql ql1 ql2 ql3 : Nat) (qr qt qh n : Nat) (hi : Int64) (tI : Nat → Int32) (hv : Nat → Int64) (hI sI : Nat → Int32) (hR : RowsOk n hI sI hi hv) (hm : Nat) (mI : Nat → Int64) (fI gI : Nat → Int32) (Lc : Ls) (hE : LstC Lc.2 Lc.1 mI fI gI) (x y : Int32) (sz : Nat) : Met l yX4_slices wsX4_slices ({ frames := 6, cells := 0, slots := 0, locals := 200 } : Room) (va_Pc [.ref qx, .int x, .int y] (Wr dd [(cyI, .int), (cyJ, .long), (cyZ, .boolean)] [(qx, .inr (4, [.ref qr, .ref ql, .ref qk, .ref qa])), (ql, .inr (3, [.int (nI Lc.1), .long (lN hm), .ref ql1, .ref ql2, .ref ql3])), (ql1, .inl (cyJ, 535, .inr (.inl mI))), (ql2, .inl (cyI, 535, .inl fI)), (ql3, .inl (cyI, 535, .inl gI)), (qr, .inr (2, [.int (nI n), .long hi, .ref qt, .ref qh])), (qt, .inl (cyI, 48, .inl tI)), (qh, .inl (cyJ, 55, .inr (.inl hv)))] sz)) (va_Qi (S := (Nat → Int64) × (Nat → Int32) × (Nat → Int32)) (fun (r : Int32) (u : (Nat → Int64) × (Nat → Int32) × (Nat → Int32)) => r = slR n hI sI x y ∧ LstC (slN n hI sI x y hm Lc).2.2 (slN n hI sI x y hm Lc).2.1 u.1 u.2.1 u.2.2) (WQ dd [(qx, .inr (4, [.ref qr, .ref ql, .ref qk, .ref qa])), (ql, .inr (3, [.int (nI Lc.1), .long (lN hm), .ref ql1, .ref ql2, .ref ql3])), (ql1, .inl (cyJ, 535, .inr (.inl mI))), (ql2, .inl (cyI, 535, .inl fI)), (ql3, .inl (cyI, 535, .inl gI)), (qr, .inr (2, [.int (nI n), .long hi, .ref qt, .ref qh])), (qt, .inl (cyI, 48, .inl tI)), (qh, .inl (cyJ, 55, .inr (.inl hv)))] sz (fun u => [(qx, .inr (4, [.ref qr, .ref ql, .ref qk, .ref qa])), (ql, .inr (3, [.int (nI (slN n hI sI x y hm Lc).2.1), .long (lN (slN n hI sI x y hm Lc).1), .ref ql1, .ref ql2, .ref ql3])), (ql1, .inl (cyJ, 535, .inr (.inl u.1))), (ql2, .inl (cyI, 535, .inl u.2.1)), (ql3, .inl (cyI, 535, .inl u.2.2)), (qr, .inr (2, [.int (nI n), .long hi, .ref qt, .ref qh])), (qt, .inl (cyI, 48, .inl tI)), (qh, .inl (cyJ, 55, .inr (.inl hv)))])) (va_A [(qx, .inr (4, [.ref qr, .ref ql, .ref qk, .ref qa])), (ql, .inr (3, [.int (nI Lc.1), .long (lN hm), .ref ql1, .ref ql2, .ref ql3])), (ql1, .inl (cyJ, 535, .inr (.inl mI))), (ql2, .inl (cyI, 535, .inl fI)), (ql3, .inl (cyI, 535, .inl gI)), (qr, .inr (2, [.int (nI n), .long hi, .ref qt, .ref qh])), (qt, .inl (cyI, 48, .inl tI)), (qh, .inl (cyJ, 55, .inr (.inl hv)))] sz)) 0 0 (va_A [(qx, .inr (4, [.ref qr, .ref ql, .ref qk, .ref qa])), (ql, .inr (3, [.int (nI Lc.1), .long (lN hm), .ref ql1, .ref ql2, .ref ql3])), (ql1, .inl (cyJ, 535, .inr (.inl mI))), (ql2, .inl (cyI, 535, .inl fI)), (ql3, .inl (cyI, 535, .inl gI)), (qr, .inr (2, [.int (nI n), .long hi, .ref qt, .ref qh])), (qt, .inl (cyI, 48, .inl tI)), (qh, .inl (cyJ, 55, .inr (.inl hv)))] sz) := by
  refine mkW (Qc := fun A => (va_Qi (S := (Nat → Int64) × (Nat → Int32) × (Nat → Int32)) (fun (r : Int32) (u : (Nat → Int64) × (Nat → Int32) × (Nat → Int32)) => r = slR n hI sI x y ∧ LstC (slN n hI sI x y hm Lc).2.2 (slN n hI sI x y hm Lc).2.1 u.1 u.2.1 u.2.2) (WQ dd [(qx, .inr (4, [.ref qr, .ref ql, .ref qk, .ref qa])), (ql, .inr (3, [.int (nI Lc.1), .long (lN hm), .ref ql1, .ref ql2, .ref ql3])), (ql1, .inl (cyJ, 535, .inr (.inl mI))), (ql2, .inl (cyI, 535, .inl fI)), (ql3, .inl (cyI, 535, .inl gI)), (qr, .inr (2, [.int (nI n), .long hi, .ref qt, .ref qh])), (qt, .inl (cyI, 48, .inl tI)), (qh, .inl (cyJ, 55, .inr (.inl hv)))] sz (fun u => [(qx, .inr (4, [.ref qr, .ref ql, .ref qk, .ref qa])), (ql, .inr (3, [.int (nI (slN n hI sI x y hm Lc).2.1), .long (lN (slN n hI sI x y hm Lc).1), .ref ql1, .ref ql2, .ref ql3])), (ql1, .inl (cyJ, 535, .inr (.inl u.1))), (ql2, .inl (cyI, 535, .inl u.2.1)), (ql3, .inl (cyI, 535, .inl u.2.2)), (qr, .inr (2, [.int (nI n), .long hi, .ref qt, .ref qh])), (qt, .inl (cyI, 48, .inl tI)), (qh, .inl (cyJ, 55, .inr (.inl hv)))])) A)) (cc := cX4_slices) (maxL := 3) (by decide) rfl (Nat.le_of_ble_eq_true rfl) (lv0 := [(0, .ref qx), (1, .int x), (2, .int y)]) rfl ?_
  intro p e s m below meth c ls H A hx hb hr hml hown hlocks hts hmn hN hP hK hD hS hA hAe hl
  have hown : s.vm.findClass RX4 = some m.cls := hown
  have hiX2 : ∀ w ∈ wsX20, w ∈ wsX4_slices := by decide +kernel
  have hiX3 : ∀ w ∈ wsX30, w ∈ wsX4_slices := by decide +kernel
  have hiX4 : ∀ w ∈ wsX40, w ∈ wsX4_slices := by decide +kernel
  have hn := hR.1
  refine lv_iload_n hx hb dX4_slices_0 rfl (lv_at hl 1 rfl) ?_
  refine lv_iconst (v := 1) hx hb dX4_slices_1 (by decide) ?_
  refine lv_bipush (v := 48) hx hb dX4_slices_2 (by decide) ?_
  refine clSi (As := [.int x, .int 1, .int 48]) (rest := []) ⟨hx, hb, hml, hown, hts⟩ (c_isWithin l dd cyI cyJ cyZ x 1 48) gX4_slices_X4_isWithin (n := 3) rfl ⟨rfl, rfl⟩ (by decide +kernel) ⟨Nat.le_of_ble_eq_true rfl, Nat.le_of_ble_eq_true rfl⟩ hN hK (hP.sub [] rfl) rfl hl.1 rfl (Nat.le_of_ble_eq_true rfl) dX4_slices_4 ⟨Nat.le_of_ble_eq_true rfl, Nat.le_of_ble_eq_true rfl⟩ (fun ck1 hck1 => ?_)
  refine lv_if_eq (tgt := 19) hx hb dX4_slices_7 (by decide) (fun qck1 => ?_) (fun qck1 => ?_)
  · have hck1 : ¬ (1 ≤ x ∧ x ≤ 48) := hck1.elim (fun h => absurd (h.1.symm.trans qck1) (by decide)) (fun h => h.2)
    refine lv_ldc (v := (-1000002)) hx hb hown (hts (.constant RX4 41 (-1000002)) (by decide +kernel)) dX4_slices_19 ?_
    have eN : slN n hI sI x y hm Lc = (hm, Lc) := by unfold slN; rw [if_neg (fun q : slOk x y => hck1 q.1)]
    have er : slR n hI sI x y = -1000002 := by unfold slR; rw [if_neg (fun q : slOk x y => hck1 q.1)]
    rw [eN, er]
    exact ewI (mI, fI, gI) hx hb hr hlocks hAe hS dX4_slices_21 (⟨rfl, hE⟩) (hP.sub [0, 1, 2, 3, 4, 5, 6, 7] rfl) (hD.sub [0, 1, 2, 3, 4, 5, 6, 7] (by decide) rfl)
  · have hck1 : 1 ≤ x ∧ x ≤ 48 := hck1.elim (fun h => h.2) (fun h => absurd h.1 qck1)
    refine lv_iload_n hx hb dX4_slices_10 rfl (lv_at hl 2 rfl) ?_
    refine lv_iconst (v := 1) hx hb dX4_slices_11 (by decide) ?_
    refine lv_iconst (v := 2) hx hb dX4_slices_12 (by decide) ?_
    refine clSi (As := [.int y, .int 1, .int 2]) (rest := []) ⟨hx, hb, hml, hown, hts⟩ (c_isWithin l dd cyI cyJ cyZ y 1 2) gX4_slices_X4_isWithin (n := 3) rfl ⟨rfl, rfl⟩ (by decide +kernel) ⟨Nat.le_of_ble_eq_true rfl, Nat.le_of_ble_eq_true rfl⟩ hN hK (hP.sub [] rfl) rfl hl.1 rfl (Nat.le_of_ble_eq_true rfl) dX4_slices_13 ⟨Nat.le_of_ble_eq_true rfl, Nat.le_of_ble_eq_true rfl⟩ (fun ck2 hck2 => ?_)
    refine lv_if_ne (tgt := 22) hx hb dX4_slices_16 (by decide) (fun qck2 => ?_) (fun qck2 => ?_)
    · have hck2 : 1 ≤ y ∧ y ≤ 2 := hck2.elim (fun h => h.2) (fun h => absurd h.1 qck2)
      have ok : slOk x y := ⟨hck1, hck2⟩
      obtain ⟨lt, l1, l2, ex⟩ := rng1 (N := 48) (by decide) hck1
      subst ex
      have e1 : cl (nI lt) = lt := cl_nI (by omega)
      have eN : slN n hI sI (nI lt) y hm Lc = (mk (hit hI) n, mks (mk (hit hI) n) lt (hvM sI n) (decide (y = 2)) 55 0 L0) := by unfold slN; rw [if_pos ok, e1]
      have er : slR n hI sI (nI lt) y = nI (mks (mk (hit hI) n) lt (hvM sI n) (decide (y = 2)) 55 0 L0).1 := by unfold slR; rw [if_pos ok, e1]
      rw [eN, er]
      obtain ⟨two, etw⟩ : ∃ two, two = decide (y = 2) := ⟨_, rfl⟩
      rw [← etw]
      refine lv_aload_n hx hb dX4_slices_22 rfl (lv_at hl 0 rfl) ?_
      refine va_get (D := dd) (ci := 4) (C := RX4) (T := TX4) (N := 4) (v := .ref ql) hx hb hts hiX4 hown hK hP 0 rfl rfl 1 (by decide) (hts (.fieldLink RX4 19 "SliceDrift" "list" "LSliceDrift$SliceList;") (by decide +kernel)) (fun _ h9 => h9) rfl dX4_slices_23 ?_
      refine lv_aload_n hx hb dX4_slices_26 rfl (lv_at hl 0 rfl) ?_
      refine va_get (D := dd) (ci := 4) (C := RX4) (T := TX4) (N := 4) (v := .ref qr) hx hb hts hiX4 hown hK hP 0 rfl rfl 0 (by decide) (hts (.fieldLink RX4 10 "SliceDrift" "rows" "LSliceDrift$Rows;") (by decide +kernel)) (fun _ h9 => h9) rfl dX4_slices_27 ?_
      refine lv_iload_n hx hb dX4_slices_30 rfl (lv_at hl 1 rfl) ?_
      refine lv_iload_n hx hb dX4_slices_31 rfl (lv_at hl 2 rfl) ?_
      refine lv_iconst (v := 2) hx hb dX4_slices_32 (by decide) ?_
      have m41 : W p l e ({ frames := 6, cells := 0, slots := 0, locals := 200 } : Room) s m ([.ref qx, .int (nI lt), .int y] : List Value).toArray below meth c H [] 0 0 (MQ below (va_Qi (S := (Nat → Int64) × (Nat → Int32) × (Nat → Int32)) (fun (r : Int32) (u : (Nat → Int64) × (Nat → Int32) × (Nat → Int32)) => r = nI (mks (mk (hit hI) n) lt (hvM sI n) two 55 0 L0).1 ∧ LstC ((mk (hit hI) n, mks (mk (hit hI) n) lt (hvM sI n) two 55 0 L0)).2.2 ((mk (hit hI) n, mks (mk (hit hI) n) lt (hvM sI n) two 55 0 L0)).2.1 u.1 u.2.1 u.2.2) (WQ dd [(qx, .inr (4, [.ref qr, .ref ql, .ref qk, .ref qa])), (ql, .inr (3, [.int (nI Lc.1), .long (lN hm), .ref ql1, .ref ql2, .ref ql3])), (ql1, .inl (cyJ, 535, .inr (.inl mI))), (ql2, .inl (cyI, 535, .inl fI)), (ql3, .inl (cyI, 535, .inl gI)), (qr, .inr (2, [.int (nI n), .long hi, .ref qt, .ref qh])), (qt, .inl (cyI, 48, .inl tI)), (qh, .inl (cyJ, 55, .inr (.inl hv)))] sz (fun u => [(qx, .inr (4, [.ref qr, .ref ql, .ref qk, .ref qa])), (ql, .inr (3, [.int (nI ((mk (hit hI) n, mks (mk (hit hI) n) lt (hvM sI n) two 55 0 L0)).2.1), .long (lN ((mk (hit hI) n, mks (mk (hit hI) n) lt (hvM sI n) two 55 0 L0)).1), .ref ql1, .ref ql2, .ref ql3])), (ql1, .inl (cyJ, 535, .inr (.inl u.1))), (ql2, .inl (cyI, 535, .inl u.2.1)), (ql3, .inl (cyI, 535, .inl u.2.2)), (qr, .inr (2, [.int (nI n), .long hi, .ref qt, .ref qh])), (qt, .inl (cyI, 48, .inl tI)), (qh, .inl (cyJ, 55, .inr (.inl hv)))])) A) ([.ref qx, .int (nI lt), .int y] : List Value).toArray s 0 0 A) (F0 m 41 ls [.int (b01 two), .int (nI lt), .ref qr, .ref ql]) := by
        refine clVwv (As := [.ref qr, .int (nI lt), .int (b01 two)]) (rest := []) (b := ql) (vc := (RX3, TX3, 5)) (wr := [(qx, .inr (4, [.ref qr, .ref ql, .ref qk, .ref qa]))]) ⟨hx, hb, hml, hown, hts⟩ (fun sz => c_make l dd cyI cyJ cyZ ql ql1 ql2 ql3 (nI Lc.1) (lN hm) qr qt qh n hi tI hv hI sI hR (mk (hit hI) n) lt two hR.2.1 (mk48 _ hn) l2 l1 mI fI gI sz) gX4_slices_X3_make (ci := 3) rfl (q0 := 0) rfl (n := 3) rfl ⟨rfl, rfl⟩ (by decide +kernel) ⟨Nat.le_of_ble_eq_true rfl, Nat.le_of_ble_eq_true rfl⟩ hN hK hP hD hS hA [1, 2, 3, 4, 5, 6, 7] [0] rfl rfl (by decide) rfl (by decide) (by decide) rfl hl.1 rfl (Nat.le_of_ble_eq_true rfl) dX4_slices_41 ⟨Nat.le_of_ble_eq_true rfl, Nat.le_of_ble_eq_true rfl⟩ (fun u1 H locs hu1 hP hD hS => ?_)
        have hP : va_P dd vwCl [(qx, .inr (4, [.ref qr, .ref ql, .ref qk, .ref qa])), (ql, .inr (3, [.int (nI (mks (mk (hit hI) n) lt (hvM sI n) two 55 0 L0).1), .long (lN (mk (hit hI) n)), .ref ql1, .ref ql2, .ref ql3])), (ql1, .inl (cyJ, 535, .inr (.inl u1.1))), (ql2, .inl (cyI, 535, .inl u1.2.1)), (ql3, .inl (cyI, 535, .inl u1.2.2)), (qr, .inr (2, [.int (nI n), .long hi, .ref qt, .ref qh])), (qt, .inl (cyI, 48, .inl tI)), (qh, .inl (cyJ, 55, .inr (.inl hv)))] H := hP
        have hD : va_D A [(qx, .inr (4, [.ref qr, .ref ql, .ref qk, .ref qa])), (ql, .inr (3, [.int (nI (mks (mk (hit hI) n) lt (hvM sI n) two 55 0 L0).1), .long (lN (mk (hit hI) n)), .ref ql1, .ref ql2, .ref ql3])), (ql1, .inl (cyJ, 535, .inr (.inl u1.1))), (ql2, .inl (cyI, 535, .inl u1.2.1)), (ql3, .inl (cyI, 535, .inl u1.2.2)), (qr, .inr (2, [.int (nI n), .long hi, .ref qt, .ref qh])), (qt, .inl (cyI, 48, .inl tI)), (qh, .inl (cyJ, 55, .inr (.inl hv)))] := hD
        refine lv_aload_n hx hb dX4_slices_44 rfl (lv_at hl 0 rfl) ?_
        refine va_get (D := dd) (ci := 4) (C := RX4) (T := TX4) (N := 4) (v := .ref ql) hx hb hts hiX4 hown hK hP 0 rfl rfl 1 (by decide) (hts (.fieldLink RX4 19 "SliceDrift" "list" "LSliceDrift$SliceList;") (by decide +kernel)) (fun _ h9 => h9) rfl dX4_slices_45 ?_
        refine va_getN (D := dd) (ci := 3) (C := RX3) (T := TX3) (N := 5) (v := .int (nI (mks (mk (hit hI) n) lt (hvM sI n) two 55 0 L0).1)) hx hb hts hiX3 hown hK hP 1 rfl rfl 0 (by decide) (hN.f 11 rfl) (fun _ h9 => h9) rfl dX4_slices_48 ?_
        exact ewI u1 hx hb hr hlocks hAe hS dX4_slices_51 (⟨rfl, hu1⟩) (hP.sub [0, 1, 2, 3, 4, 5, 6, 7] rfl) (hD.sub [0, 1, 2, 3, 4, 5, 6, 7] (by decide) rfl)
      refine lv_icmp_ne (tgt := 40) hx hb dX4_slices_33 (by decide) (fun q => ?_) (fun q => ?_)
      · refine lv_iconst (v := 0) hx hb dX4_slices_40 (by decide) ?_
        refine tpi (show (0 : Int32) = b01 two from by rw [etw, decide_eq_false q]; rfl) ?_
        exact m41
      · refine lv_iconst (v := 1) hx hb dX4_slices_36 (by decide) ?_
        refine lv_goto (tgt := 41) hx hb dX4_slices_37 (by decide) ?_
        refine tpi (show (1 : Int32) = b01 two from by rw [etw, decide_eq_true q]; rfl) ?_
        exact m41
    · have hck2 : ¬ (1 ≤ y ∧ y ≤ 2) := hck2.elim (fun h => absurd (h.1.symm.trans qck2) (by decide)) (fun h => h.2)
      refine lv_ldc (v := (-1000002)) hx hb hown (hts (.constant RX4 41 (-1000002)) (by decide +kernel)) dX4_slices_19 ?_
      have eN : slN n hI sI x y hm Lc = (hm, Lc) := by unfold slN; rw [if_neg (fun q : slOk x y => hck2 q.2)]
      have er : slR n hI sI x y = -1000002 := by unfold slR; rw [if_neg (fun q : slOk x y => hck2 q.2)]
      rw [eN, er]
      exact ewI (mI, fI, gI) hx hb hr hlocks hAe hS dX4_slices_21 (⟨rfl, hE⟩) (hP.sub [0, 1, 2, 3, 4, 5, 6, 7] rfl) (hD.sub [0, 1, 2, 3, 4, 5, 6, 7] (by decide) rfl)

def c2 (g : Nat) : Int32 := if g = 0 then -1 else nI ((g - 1) / 11)
def s2 (g : Nat) : Int32 := if g = 0 then -1 else nI ((g - 1) % 11)
theorem colG : ∀ g, g < 56 → (if sI2 g = -1 then -1 else sI2 g / 11) = c2 g := by decide +kernel
theorem sorG : ∀ g, g < 56 → (if sI2 g = -1 then -1 else sI2 g - sI2 g / 11 * 11) = s2 g := by decide +kernel
def slE (ln hm : Nat) (E : Nat → En) (i w : Int32) : Int32 := sliceR ln (fun j => nI ((E j).2.1 / 11)) (fun j => nI ((E j).2.1 % 11)) (fun j => c2 (E j).2.2) (fun j => s2 (E j).2.2) (fun j => nI (pop (E j).1)) (fun j => nI (pop ((E j).1 &&& hm))) i w
def shE (ln hm : Nat) (E : Nat → En) (i sd pt : Int32) : Int64 := shareR ln (fun j => nI (pop (E j).1)) (fun j => nI (pop ((E j).1 &&& hm))) i sd pt

set_option maxHeartbeats 4000000 in
set_option maxRecDepth 100000 in
theorem x_slice (l : Launch) (dd : va_G) (cyI cyJ cyZ : ClassId) (qx qr qk qa ql ql1 ql2 ql3 ln hm : Nat) (hhm : hm < 2 ^ 48) (hln : ln ≤ 535) (mI : Nat → Int64) (fI gI : Nat → Int32) (E : Nat → En) (hE : LstC E ln mI fI gI) (hO : PAll LEn (ln, E)) (i w : Int32) : Met l yX4_slice wsX4_slice ({ frames := 2, cells := 0, slots := 0, locals := 50 } : Room) (va_Pc [.ref qx, .int i, .int w] (Rd dd [(cyI, .int), (cyJ, .long), (cyZ, .boolean)] [(qx, .inr (4, [.ref qr, .ref ql, .ref qk, .ref qa])), (ql, .inr (3, [.int (nI ln), .long (lN hm), .ref ql1, .ref ql2, .ref ql3])), (ql1, .inl (cyJ, 535, .inr (.inl mI))), (ql2, .inl (cyI, 535, .inl fI)), (ql3, .inl (cyI, 535, .inl gI))])) (vp_Si (fun r => r = slE ln hm E i w)) 0 0 (fun _ => False) := by
  refine mkR (cc := cX4_slice) (maxL := 3) (by decide) rfl (Nat.le_of_ble_eq_true rfl) (lv0 := [(0, .ref qx), (1, .int i), (2, .int w)]) rfl ?_
  intro p e s m below meth c ls hx hb hr hml hown hlocks hts hN hP hK hl
  have hown : s.vm.findClass RX4 = some m.cls := hown
  have hiX3 : ∀ w ∈ wsX30, w ∈ wsX4_slice := by decide +kernel
  have hiX4 : ∀ w ∈ wsX40, w ∈ wsX4_slice := by decide +kernel
  refine lv_aload_n hx hb dX4_slice_0 rfl (lv_at hl 0 rfl) ?_
  refine va_get (D := dd) (ci := 4) (C := RX4) (T := TX4) (N := 4) (v := .ref ql) hx hb hts hiX4 hown hK hP 0 rfl rfl 1 (by decide) (hts (.fieldLink RX4 19 "SliceDrift" "list" "LSliceDrift$SliceList;") (by decide +kernel)) (fun _ h9 => h9) rfl dX4_slice_1 ?_
  refine lv_iload_n hx hb dX4_slice_4 rfl (lv_at hl 1 rfl) ?_
  refine clVi (As := [.int i]) (rest := []) (b := ql) (vc := (RX3, TX3, 5)) ⟨hx, hb, hml, hown, hts⟩ (c_List_has l dd cyI cyJ cyZ ql ql1 ql2 ql3 ln (lN hm) i) gX4_slice_X3_has (ci := 3) rfl (q0 := 0) rfl (n := 1) rfl ⟨rfl, rfl⟩ (by decide +kernel) ⟨Nat.le_of_ble_eq_true rfl, Nat.le_of_ble_eq_true rfl⟩ hN hK (hP.sub [1] rfl) rfl hl.1 rfl (Nat.le_of_ble_eq_true rfl) dX4_slice_5 ⟨Nat.le_of_ble_eq_true rfl, Nat.le_of_ble_eq_true rfl⟩ (fun ck1 hck1 => ?_)
  refine lv_if_ne (tgt := 14) hx hb dX4_slice_8 (by decide) (fun qck1 => ?_) (fun qck1 => ?_)
  · have hck1 : inR ln i := hck1.elim (fun h => h.2) (fun h => absurd h.1 qck1)
    obtain ⟨j, hj, ek⟩ := inR_of (by omega) hck1
    subst ek
    have e1 : cl (nI j) = j := cl_nI (by omega)
    obtain ⟨⟨em, h48⟩, ef, eg⟩ := hE j hj
    obtain ⟨o1, o2, o3, o4⟩ := hO j hj
    have o3 : (E j).2.1 < 55 := o3
    have o4 : (E j).2.2 ≤ 55 := o4
    refine lv_iload_n hx hb dX4_slice_14 rfl (lv_at hl 2 rfl) ?_
    by_cases w0 : w = nI 0
    · refine tpi w0 ?_
      refine lv_tableIn (off := 37) (tgt := 52) hx hb dX4_slice_15 (by decide) (by decide) (by decide) (by decide) ?_
      refine lv_aload_n hx hb dX4_slice_52 rfl (lv_at hl 0 rfl) ?_
      refine va_get (D := dd) (ci := 4) (C := RX4) (T := TX4) (N := 4) (v := .ref ql) hx hb hts hiX4 hown hK hP 0 rfl rfl 1 (by decide) (hts (.fieldLink RX4 19 "SliceDrift" "list" "LSliceDrift$SliceList;") (by decide +kernel)) (fun _ h9 => h9) rfl dX4_slice_53 ?_
      refine va_getN (D := dd) (ci := 3) (C := RX3) (T := TX3) (N := 5) (v := .ref ql2) hx hb hts hiX3 hown hK hP 1 rfl rfl 3 (by decide) (hN.f 12 rfl) (fun _ h9 => h9) rfl dX4_slice_56 ?_
      refine lv_iload_n hx hb dX4_slice_59 rfl (lv_at hl 1 rfl) ?_
      refine va_iald hx hb hK hP 3 0 rfl rfl (i := nI j) (vp_in_nI (show j < 535 from (by omega)) (by decide)) dX4_slice_60 ?_
      rw [nI_clamp (show j < 2 ^ 31 from Nat.lt_trans (show j < 535 from (by omega)) (by decide))]
      refine tpi (show (fI j : Int32) = nI (E j).2.1 from ef) ?_
      refine clSi (As := [.int (nI (E j).2.1)]) (rest := []) ⟨hx, hb, hml, hown, hts⟩ (c_columnOf l dd cyI cyJ cyZ (nI (E j).2.1)) gX4_slice_X4_columnOf (n := 1) rfl ⟨rfl, rfl⟩ (by decide +kernel) ⟨Nat.le_of_ble_eq_true rfl, Nat.le_of_ble_eq_true rfl⟩ hN hK (hP.sub [] rfl) rfl hl.1 rfl (Nat.le_of_ble_eq_true rfl) dX4_slice_61 ⟨Nat.le_of_ble_eq_true rfl, Nat.le_of_ble_eq_true rfl⟩ (fun rr hrr => ?_)
      exact edI hx hb hr hlocks dX4_slice_64 (by rw [hrr, colI _ o3]; rw [slE, sliceR, if_pos hck1, e1, if_pos w0])
    by_cases w1 : w = nI 1
    · refine tpi w1 ?_
      refine lv_tableIn (off := 50) (tgt := 65) hx hb dX4_slice_15 (by decide) (by decide) (by decide) (by decide) ?_
      refine lv_aload_n hx hb dX4_slice_65 rfl (lv_at hl 0 rfl) ?_
      refine va_get (D := dd) (ci := 4) (C := RX4) (T := TX4) (N := 4) (v := .ref ql) hx hb hts hiX4 hown hK hP 0 rfl rfl 1 (by decide) (hts (.fieldLink RX4 19 "SliceDrift" "list" "LSliceDrift$SliceList;") (by decide +kernel)) (fun _ h9 => h9) rfl dX4_slice_66 ?_
      refine va_getN (D := dd) (ci := 3) (C := RX3) (T := TX3) (N := 5) (v := .ref ql2) hx hb hts hiX3 hown hK hP 1 rfl rfl 3 (by decide) (hN.f 12 rfl) (fun _ h9 => h9) rfl dX4_slice_69 ?_
      refine lv_iload_n hx hb dX4_slice_72 rfl (lv_at hl 1 rfl) ?_
      refine va_iald hx hb hK hP 3 0 rfl rfl (i := nI j) (vp_in_nI (show j < 535 from (by omega)) (by decide)) dX4_slice_73 ?_
      rw [nI_clamp (show j < 2 ^ 31 from Nat.lt_trans (show j < 535 from (by omega)) (by decide))]
      refine tpi (show (fI j : Int32) = nI (E j).2.1 from ef) ?_
      refine clSi (As := [.int (nI (E j).2.1)]) (rest := []) ⟨hx, hb, hml, hown, hts⟩ (c_sortOf l dd cyI cyJ cyZ (nI (E j).2.1)) gX4_slice_X4_sortOf (n := 1) rfl ⟨rfl, rfl⟩ (by decide +kernel) ⟨Nat.le_of_ble_eq_true rfl, Nat.le_of_ble_eq_true rfl⟩ hN hK (hP.sub [] rfl) rfl hl.1 rfl (Nat.le_of_ble_eq_true rfl) dX4_slice_74 ⟨Nat.le_of_ble_eq_true rfl, Nat.le_of_ble_eq_true rfl⟩ (fun rr hrr => ?_)
      exact edI hx hb hr hlocks dX4_slice_77 (by rw [hrr, sorI _ o3]; rw [slE, sliceR, if_pos hck1, e1, if_neg w0, if_pos w1])
    by_cases w2 : w = nI 2
    · refine tpi w2 ?_
      refine lv_tableIn (off := 63) (tgt := 78) hx hb dX4_slice_15 (by decide) (by decide) (by decide) (by decide) ?_
      refine lv_aload_n hx hb dX4_slice_78 rfl (lv_at hl 0 rfl) ?_
      refine va_get (D := dd) (ci := 4) (C := RX4) (T := TX4) (N := 4) (v := .ref ql) hx hb hts hiX4 hown hK hP 0 rfl rfl 1 (by decide) (hts (.fieldLink RX4 19 "SliceDrift" "list" "LSliceDrift$SliceList;") (by decide +kernel)) (fun _ h9 => h9) rfl dX4_slice_79 ?_
      refine va_getN (D := dd) (ci := 3) (C := RX3) (T := TX3) (N := 5) (v := .ref ql3) hx hb hts hiX3 hown hK hP 1 rfl rfl 4 (by decide) (hN.f 13 rfl) (fun _ h9 => h9) rfl dX4_slice_82 ?_
      refine lv_iload_n hx hb dX4_slice_85 rfl (lv_at hl 1 rfl) ?_
      refine va_iald hx hb hK hP 4 0 rfl rfl (i := nI j) (vp_in_nI (show j < 535 from (by omega)) (by decide)) dX4_slice_86 ?_
      rw [nI_clamp (show j < 2 ^ 31 from Nat.lt_trans (show j < 535 from (by omega)) (by decide))]
      refine tpi (show (gI j : Int32) = sI2 (E j).2.2 from eg) ?_
      refine clSi (As := [.int (sI2 (E j).2.2)]) (rest := []) ⟨hx, hb, hml, hown, hts⟩ (c_columnOf l dd cyI cyJ cyZ (sI2 (E j).2.2)) gX4_slice_X4_columnOf (n := 1) rfl ⟨rfl, rfl⟩ (by decide +kernel) ⟨Nat.le_of_ble_eq_true rfl, Nat.le_of_ble_eq_true rfl⟩ hN hK (hP.sub [] rfl) rfl hl.1 rfl (Nat.le_of_ble_eq_true rfl) dX4_slice_87 ⟨Nat.le_of_ble_eq_true rfl, Nat.le_of_ble_eq_true rfl⟩ (fun rr hrr => ?_)
      exact edI hx hb hr hlocks dX4_slice_90 (by rw [hrr, colG _ (by omega)]; rw [slE, sliceR, if_pos hck1, e1, if_neg w0, if_neg w1, if_pos w2])
    by_cases w3 : w = nI 3
    · refine tpi w3 ?_
      refine lv_tableIn (off := 76) (tgt := 91) hx hb dX4_slice_15 (by decide) (by decide) (by decide) (by decide) ?_
      refine lv_aload_n hx hb dX4_slice_91 rfl (lv_at hl 0 rfl) ?_
      refine va_get (D := dd) (ci := 4) (C := RX4) (T := TX4) (N := 4) (v := .ref ql) hx hb hts hiX4 hown hK hP 0 rfl rfl 1 (by decide) (hts (.fieldLink RX4 19 "SliceDrift" "list" "LSliceDrift$SliceList;") (by decide +kernel)) (fun _ h9 => h9) rfl dX4_slice_92 ?_
      refine va_getN (D := dd) (ci := 3) (C := RX3) (T := TX3) (N := 5) (v := .ref ql3) hx hb hts hiX3 hown hK hP 1 rfl rfl 4 (by decide) (hN.f 13 rfl) (fun _ h9 => h9) rfl dX4_slice_95 ?_
      refine lv_iload_n hx hb dX4_slice_98 rfl (lv_at hl 1 rfl) ?_
      refine va_iald hx hb hK hP 4 0 rfl rfl (i := nI j) (vp_in_nI (show j < 535 from (by omega)) (by decide)) dX4_slice_99 ?_
      rw [nI_clamp (show j < 2 ^ 31 from Nat.lt_trans (show j < 535 from (by omega)) (by decide))]
      refine tpi (show (gI j : Int32) = sI2 (E j).2.2 from eg) ?_
      refine clSi (As := [.int (sI2 (E j).2.2)]) (rest := []) ⟨hx, hb, hml, hown, hts⟩ (c_sortOf l dd cyI cyJ cyZ (sI2 (E j).2.2)) gX4_slice_X4_sortOf (n := 1) rfl ⟨rfl, rfl⟩ (by decide +kernel) ⟨Nat.le_of_ble_eq_true rfl, Nat.le_of_ble_eq_true rfl⟩ hN hK (hP.sub [] rfl) rfl hl.1 rfl (Nat.le_of_ble_eq_true rfl) dX4_slice_100 ⟨Nat.le_of_ble_eq_true rfl, Nat.le_of_ble_eq_true rfl⟩ (fun rr hrr => ?_)
      exact edI hx hb hr hlocks dX4_slice_103 (by rw [hrr, sorG _ (by omega)]; rw [slE, sliceR, if_pos hck1, e1, if_neg w0, if_neg w1, if_neg w2, if_pos w3])
    by_cases w4 : w = nI 4
    · refine tpi w4 ?_
      refine lv_tableIn (off := 89) (tgt := 104) hx hb dX4_slice_15 (by decide) (by decide) (by decide) (by decide) ?_
      refine lv_aload_n hx hb dX4_slice_104 rfl (lv_at hl 0 rfl) ?_
      refine va_get (D := dd) (ci := 4) (C := RX4) (T := TX4) (N := 4) (v := .ref ql) hx hb hts hiX4 hown hK hP 0 rfl rfl 1 (by decide) (hts (.fieldLink RX4 19 "SliceDrift" "list" "LSliceDrift$SliceList;") (by decide +kernel)) (fun _ h9 => h9) rfl dX4_slice_105 ?_
      refine va_getN (D := dd) (ci := 3) (C := RX3) (T := TX3) (N := 5) (v := .ref ql1) hx hb hts hiX3 hown hK hP 1 rfl rfl 2 (by decide) (hN.f 14 rfl) (fun _ h9 => h9) rfl dX4_slice_108 ?_
      refine lv_iload_n hx hb dX4_slice_111 rfl (lv_at hl 1 rfl) ?_
      refine va_lald hx hb hK hP 2 1 rfl rfl (i := nI j) (vp_in_nI (show j < 535 from (by omega)) (by decide)) dX4_slice_112 ?_
      rw [nI_clamp (show j < 2 ^ 31 from Nat.lt_trans (show j < 535 from (by omega)) (by decide))]
      refine tpl (show (mI j : Int64) = lN (E j).1 from em) ?_
      refine clSi (As := [.long (lN (E j).1)]) (rest := []) ⟨hx, hb, hml, hown, hts⟩ (c_bitCount l dd cyI cyJ cyZ (E j).1 (by omega)) gX4_slice_J13_bitCount_95d88 (n := 1) rfl ⟨rfl, rfl⟩ (by decide +kernel) ⟨Nat.le_of_ble_eq_true rfl, Nat.le_of_ble_eq_true rfl⟩ hN hK (hP.sub [] rfl) rfl hl.1 rfl (Nat.le_of_ble_eq_true rfl) dX4_slice_113 ⟨Nat.le_of_ble_eq_true rfl, Nat.le_of_ble_eq_true rfl⟩ (fun rr hrr => ?_)
      exact edI hx hb hr hlocks dX4_slice_116 (by rw [hrr]; rw [slE, sliceR, if_pos hck1, e1, if_neg w0, if_neg w1, if_neg w2, if_neg w3, if_pos w4]; rfl)
    by_cases w5 : w = nI 5
    · refine tpi w5 ?_
      refine lv_tableIn (off := 102) (tgt := 117) hx hb dX4_slice_15 (by decide) (by decide) (by decide) (by decide) ?_
      refine lv_aload_n hx hb dX4_slice_117 rfl (lv_at hl 0 rfl) ?_
      refine va_get (D := dd) (ci := 4) (C := RX4) (T := TX4) (N := 4) (v := .ref ql) hx hb hts hiX4 hown hK hP 0 rfl rfl 1 (by decide) (hts (.fieldLink RX4 19 "SliceDrift" "list" "LSliceDrift$SliceList;") (by decide +kernel)) (fun _ h9 => h9) rfl dX4_slice_118 ?_
      refine va_getN (D := dd) (ci := 3) (C := RX3) (T := TX3) (N := 5) (v := .ref ql1) hx hb hts hiX3 hown hK hP 1 rfl rfl 2 (by decide) (hN.f 14 rfl) (fun _ h9 => h9) rfl dX4_slice_121 ?_
      refine lv_iload_n hx hb dX4_slice_124 rfl (lv_at hl 1 rfl) ?_
      refine va_lald hx hb hK hP 2 1 rfl rfl (i := nI j) (vp_in_nI (show j < 535 from (by omega)) (by decide)) dX4_slice_125 ?_
      rw [nI_clamp (show j < 2 ^ 31 from Nat.lt_trans (show j < 535 from (by omega)) (by decide))]
      refine tpl (show (mI j : Int64) = lN (E j).1 from em) ?_
      refine lv_aload_n hx hb dX4_slice_126 rfl (lv_at hl 0 rfl) ?_
      refine va_get (D := dd) (ci := 4) (C := RX4) (T := TX4) (N := 4) (v := .ref ql) hx hb hts hiX4 hown hK hP 0 rfl rfl 1 (by decide) (hts (.fieldLink RX4 19 "SliceDrift" "list" "LSliceDrift$SliceList;") (by decide +kernel)) (fun _ h9 => h9) rfl dX4_slice_127 ?_
      refine va_getN (D := dd) (ci := 3) (C := RX3) (T := TX3) (N := 5) (v := .long (lN hm)) hx hb hts hiX3 hown hK hP 1 rfl rfl 1 (by decide) (hN.f 0 rfl) (fun _ h9 => h9) rfl dX4_slice_130 ?_
      refine lv_land hx hb dX4_slice_133 ?_
      refine tpl (show ((lN (E j).1) &&& (lN hm) : Int64) = lN ((E j).1 &&& hm) from wb_and (by omega) (by omega)) ?_
      refine clSi (As := [.long (lN ((E j).1 &&& hm))]) (rest := []) ⟨hx, hb, hml, hown, hts⟩ (c_bitCount l dd cyI cyJ cyZ ((E j).1 &&& hm) (Nat.lt_trans (and48 h48) (by decide))) gX4_slice_J13_bitCount_95d88 (n := 1) rfl ⟨rfl, rfl⟩ (by decide +kernel) ⟨Nat.le_of_ble_eq_true rfl, Nat.le_of_ble_eq_true rfl⟩ hN hK (hP.sub [] rfl) rfl hl.1 rfl (Nat.le_of_ble_eq_true rfl) dX4_slice_134 ⟨Nat.le_of_ble_eq_true rfl, Nat.le_of_ble_eq_true rfl⟩ (fun rr hrr => ?_)
      exact edI hx hb hr hlocks dX4_slice_137 (by rw [hrr]; rw [slE, sliceR, if_pos hck1, e1, if_neg w0, if_neg w1, if_neg w2, if_neg w3, if_neg w4, if_pos w5]; rfl)
    have wout : ∀ k, k ≤ 5 → ¬ w = nI k := fun k hk => by
      rcases (show k = 0 ∨ k = 1 ∨ k = 2 ∨ k = 3 ∨ k = 4 ∨ k = 5 by omega) with rfl | rfl | rfl | rfl | rfl | rfl <;> assumption
    refine lv_tableOut (tgt := 138) hx hb dX4_slice_15 (sw_out (N := 5) (by decide) wout) (by decide) ?_
    refine lv_ldc (v := (-1000001)) hx hb hown (hts (.constant RX4 58 (-1000001)) (by decide +kernel)) dX4_slice_138 ?_
    exact edI hx hb hr hlocks dX4_slice_140 (by rw [slE, sliceR, if_pos hck1, e1, if_neg w0, if_neg w1, if_neg w2, if_neg w3, if_neg w4, if_neg w5])
  · have hck1 : ¬ (inR ln i) := hck1.elim (fun h => absurd (h.1.symm.trans qck1) (by decide)) (fun h => h.2)
    refine lv_ldc (v := (-1000001)) hx hb hown (hts (.constant RX4 58 (-1000001)) (by decide +kernel)) dX4_slice_11 ?_
    exact edI hx hb hr hlocks dX4_slice_13 (by rw [slE, sliceR, if_neg hck1])

theorem tbt {x r : Nat} (hx : x < 2 ^ 48) (hr : r < 48) : lN x &&& lN (2 ^ r) = lN (if x.testBit r = true then 2 ^ r else 0) := by
  have h2 : 2 ^ r < 2 ^ 64 := Nat.pow_lt_pow_right (by decide) (by omega)
  rw [wb_and (by omega) h2]
  congr 1
  apply Nat.eq_of_testBit_eq
  intro i
  rw [Nat.testBit_and, Nat.testBit_two_pow]
  by_cases h : r = i
  · subst h
    cases hf : x.testBit r <;> simp [Nat.testBit_two_pow]
  · cases hf : x.testBit r <;> simp [h, Nat.testBit_two_pow]
theorem sb0 {k z : Int32} : k - z = 0 ↔ z = k := by
  constructor
  · intro h
    have : k - z + z = 0 + z := by rw [h]
    rw [Int32.sub_add_cancel, Int32.zero_add] at this
    exact this.symm
  · intro h
    rw [h, Int32.sub_self]
theorem sbs (k : Int32) (c : Nat) : k - nI c + Int32.ofInt (-1) = k - nI (c + 1) := by
  rw [← nI_1 c, show Int32.ofInt (-1) = -(1 : Int32) from by decide, Int32.sub_eq_add_neg, Int32.sub_eq_add_neg, Int32.neg_add, Int32.add_assoc, Int32.sub_eq_add_neg]

set_option maxHeartbeats 4000000 in
set_option maxRecDepth 100000 in
theorem x_member (l : Launch) (dd : va_G) (cyI cyJ cyZ : ClassId) (qx qr qk qa ql ql1 ql2 ql3 ln hm : Nat) (hhm : hm < 2 ^ 48) (hln : ln ≤ 535) (mI : Nat → Int64) (fI gI : Nat → Int32) (E : Nat → En) (hE : LstC E ln mI fI gI) (hO : PAll LEn (ln, E)) (i k : Int32) : Met l yX4_member wsX4_member ({ frames := 2, cells := 0, slots := 0, locals := 50 } : Room) (va_Pc [.ref qx, .int i, .int k] (Rd dd [(cyI, .int), (cyJ, .long), (cyZ, .boolean)] [(qx, .inr (4, [.ref qr, .ref ql, .ref qk, .ref qa])), (ql, .inr (3, [.int (nI ln), .long (lN hm), .ref ql1, .ref ql2, .ref ql3])), (ql1, .inl (cyJ, 535, .inr (.inl mI))), (ql2, .inl (cyI, 535, .inl fI)), (ql3, .inl (cyI, 535, .inl gI))])) (vp_Si (fun r => r = memberR ln (fun j => (E j).1) i k)) 0 0 (fun _ => False) := by
  refine mkR (cc := cX4_member) (maxL := 5) (by decide) rfl (Nat.le_of_ble_eq_true rfl) (lv0 := [(0, .ref qx), (1, .int i), (2, .int k)]) rfl ?_
  intro p e s m below meth c ls hx hb hr hml hown hlocks hts hN hP hK hl
  have hown : s.vm.findClass RX4 = some m.cls := hown
  have hiX3 : ∀ w ∈ wsX30, w ∈ wsX4_member := by decide +kernel
  have hiX4 : ∀ w ∈ wsX40, w ∈ wsX4_member := by decide +kernel
  refine lv_aload_n hx hb dX4_member_0 rfl (lv_at hl 0 rfl) ?_
  refine va_get (D := dd) (ci := 4) (C := RX4) (T := TX4) (N := 4) (v := .ref ql) hx hb hts hiX4 hown hK hP 0 rfl rfl 1 (by decide) (hts (.fieldLink RX4 19 "SliceDrift" "list" "LSliceDrift$SliceList;") (by decide +kernel)) (fun _ h9 => h9) rfl dX4_member_1 ?_
  refine lv_iload_n hx hb dX4_member_4 rfl (lv_at hl 1 rfl) ?_
  refine clVi (As := [.int i]) (rest := []) (b := ql) (vc := (RX3, TX3, 5)) ⟨hx, hb, hml, hown, hts⟩ (c_List_has l dd cyI cyJ cyZ ql ql1 ql2 ql3 ln (lN hm) i) gX4_member_X3_has (ci := 3) rfl (q0 := 0) rfl (n := 1) rfl ⟨rfl, rfl⟩ (by decide +kernel) ⟨Nat.le_of_ble_eq_true rfl, Nat.le_of_ble_eq_true rfl⟩ hN hK (hP.sub [1] rfl) rfl hl.1 rfl (Nat.le_of_ble_eq_true rfl) dX4_member_5 ⟨Nat.le_of_ble_eq_true rfl, Nat.le_of_ble_eq_true rfl⟩ (fun ck1 hck1 => ?_)
  refine lv_if_ne (tgt := 14) hx hb dX4_member_8 (by decide) (fun qck1 => ?_) (fun qck1 => ?_)
  · have hck1 : inR ln i := hck1.elim (fun h => h.2) (fun h => absurd h.1 qck1)
    obtain ⟨j, hj, ek⟩ := inR_of (by omega) hck1
    subst ek
    have e1 : cl (nI j) = j := cl_nI (by omega)
    obtain ⟨⟨em, h48⟩, ef, eg⟩ := hE j hj
    refine lv_iload_n hx hb dX4_member_14 rfl (lv_at hl 2 rfl) ?_
    refine lv_if_ge (tgt := 21) hx hb dX4_member_15 (by decide) (fun q => ?_) (fun q => ?_)
    · refine lv_iload_n hx hb dX4_member_21 rfl (lv_at hl 2 rfl) ?_
      refine lv_istore_n (lv' := [(3, .int k), (0, .ref qx), (1, .int (nI j)), (2, .int k)]) hx hb dX4_member_22 rfl hl (by decide) rfl (fun ls hl => ?_)
      refine lv_iconst (v := 0) hx hb dX4_member_23 (by decide) ?_
      refine lv_istore (lv' := [(4, .int 0), (3, .int k), (0, .ref qx), (1, .int (nI j)), (2, .int k)]) hx hb dX4_member_24 hl (by decide) rfl (fun ls hl => ?_)
      have loop : ∀ (k9 : Nat) (r9 c9 : Nat), r9 + k9 = 48 → mbs (E j).1.testBit k k9 r9 c9 = mbs (E j).1.testBit k 48 0 0 → ∀ ls : Array Slot, lv_has ls 5 [(4, .int (nI r9)), (3, .int (k - nI c9)), (0, .ref qx), (1, .int (nI j)), (2, .int k)] → W p l e ({ frames := 2, cells := 0, slots := 0, locals := 50 } : Room) s m ([.ref qx, .int (nI j), .int k] : List Value).toArray below meth c s.heap [] 0 0 (MQ below (vp_Si (fun r => r = memberR ln (fun j => (E j).1) (nI j) k)) ([.ref qx, .int (nI j), .int k] : List Value).toArray s 0 0 (fun _ => False)) (F0 m 26 ls []) := by
        intro k9
        induction k9 with
        | zero =>
          intro r9 c9 hr9 he ls hl
          refine lv_iload hx hb dX4_member_26 (lv_at hl 0 rfl) ?_
          refine lv_bipush (v := 48) hx hb dX4_member_28 (by decide) ?_
          refine lv_icmp_ge (tgt := 68) hx hb dX4_member_30 (by decide) (fun q7 => ?_) (fun q7 => ?_)
          · refine lv_iconst (v := (-1)) hx hb dX4_member_68 (by decide) ?_
            exact edI hx hb hr hlocks dX4_member_69 (by rw [memberR, if_pos hck1, if_neg (ile q), e1, ← he]; rfl)
          · exact absurd (nI_le (show 48 ≤ r9 by omega) (by omega)) q7
        | succ k9 ih =>
          intro r9 c9 hr9 he ls hl
          refine lv_iload hx hb dX4_member_26 (lv_at hl 0 rfl) ?_
          refine lv_bipush (v := 48) hx hb dX4_member_28 (by decide) ?_
          refine lv_icmp_ge (tgt := 68) hx hb dX4_member_30 (by decide) (fun q7 => ?_) (fun q7 => ?_)
          · exact absurd q7 (nI_ge (show r9 < 48 by omega) (by decide))
          · refine lv_aload_n hx hb dX4_member_33 rfl (lv_at hl 2 rfl) ?_
            refine va_get (D := dd) (ci := 4) (C := RX4) (T := TX4) (N := 4) (v := .ref ql) hx hb hts hiX4 hown hK hP 0 rfl rfl 1 (by decide) (hts (.fieldLink RX4 19 "SliceDrift" "list" "LSliceDrift$SliceList;") (by decide +kernel)) (fun _ h9 => h9) rfl dX4_member_34 ?_
            refine va_getN (D := dd) (ci := 3) (C := RX3) (T := TX3) (N := 5) (v := .ref ql1) hx hb hts hiX3 hown hK hP 1 rfl rfl 2 (by decide) (hN.f 14 rfl) (fun _ h9 => h9) rfl dX4_member_37 ?_
            refine lv_iload_n hx hb dX4_member_40 rfl (lv_at hl 3 rfl) ?_
            refine va_lald hx hb hK hP 2 1 rfl rfl (i := nI j) (vp_in_nI (show j < 535 from (by omega)) (by decide)) dX4_member_41 ?_
            rw [nI_clamp (show j < 2 ^ 31 from Nat.lt_trans (show j < 535 from (by omega)) (by decide))]
            refine tpl (show (mI j : Int64) = lN (E j).1 from em) ?_
            refine lv_lconst (v := 1) hx hb dX4_member_42 (by decide) ?_
            refine lv_iload hx hb dX4_member_43 (lv_at hl 0 rfl) ?_
            refine lv_lshl hx hb dX4_member_45 rfl ?_
            refine tpl (show (1 <<< ((nI r9).toInt64 &&& 63) : Int64) = lN (2 ^ r9) from shl1 (by omega)) ?_
            refine lv_land hx hb dX4_member_46 ?_
            refine tpl (show ((lN (E j).1) &&& (lN (2 ^ r9)) : Int64) = lN (if (E j).1.testBit r9 = true then 2 ^ r9 else 0) from tbt h48 (by omega)) ?_
            refine lv_lconst (v := 0) hx hb dX4_member_47 (by decide) ?_
            refine W.lcmp hx hb dX4_member_48 ?_
            refine lv_if_eq (tgt := 62) hx hb dX4_member_49 (by decide) (fun q8 => ?_) (fun q8 => ?_)
            · have hf := (tst0 (by omega)).mp q8
              refine lv_iinc (v := nI (r9 + 1)) (lv' := [(4, .int (nI (r9 + 1))), (3, .int (k - nI c9)), (0, .ref qx), (1, .int (nI j)), (2, .int k)]) hx hb dX4_member_62 hl (k := 0) rfl (nI_1 r9) (by decide) rfl (fun ls hl => ?_)
              refine lv_goto (tgt := 26) hx hb dX4_member_65 (by decide) ?_
              exact ih (r9 + 1) c9 (by omega) (by rw [← he]; exact (mbs_n hf).symm) ls (lv_sub hl [0, 1, 2, 3, 4] rfl)
            · have hf : (E j).1.testBit r9 = true := (Bool.not_eq_false _).mp (fun h => q8 ((tst0 (by omega)).mpr h))
              refine lv_iload_n hx hb dX4_member_52 rfl (lv_at hl 1 rfl) ?_
              refine lv_if_ne (tgt := 59) hx hb dX4_member_53 (by decide) (fun q9 => ?_) (fun q9 => ?_)
              · refine lv_iinc (v := k - nI (c9 + 1)) (lv' := [(3, .int (k - nI (c9 + 1))), (4, .int (nI r9)), (0, .ref qx), (1, .int (nI j)), (2, .int k)]) hx hb dX4_member_59 hl (k := 1) rfl (sbs k c9) (by decide) rfl (fun ls hl => ?_)
                refine lv_iinc (v := nI (r9 + 1)) (lv' := [(4, .int (nI (r9 + 1))), (3, .int (k - nI (c9 + 1))), (0, .ref qx), (1, .int (nI j)), (2, .int k)]) hx hb dX4_member_62 hl (k := 1) rfl (nI_1 r9) (by decide) rfl (fun ls hl => ?_)
                refine lv_goto (tgt := 26) hx hb dX4_member_65 (by decide) ?_
                exact ih (r9 + 1) (c9 + 1) (by omega) (by rw [← he]; exact (mbs_y hf (fun h => q9 (sb0.mpr h))).symm) ls (lv_sub hl [0, 1, 2, 3, 4] rfl)
              · refine lv_iload hx hb dX4_member_56 (lv_at hl 0 rfl) ?_
                exact edI hx hb hr hlocks dX4_member_58 (by rw [memberR, if_pos hck1, if_neg (ile q), e1, ← he]; exact (mbs_e hf (sb0.mp q9)).symm)
      exact loop 48 0 0 rfl rfl ls (by rw [show k - nI 0 = k from Int32.sub_zero k]; exact (lv_sub hl [0, 1, 2, 3, 4] rfl))
    · refine lv_ldc (v := (-1000002)) hx hb hown (hts (.constant RX4 41 (-1000002)) (by decide +kernel)) dX4_member_18 ?_
      exact edI hx hb hr hlocks dX4_member_20 (by rw [memberR, if_pos hck1, if_pos (inle q)])
  · have hck1 : ¬ (inR ln i) := hck1.elim (fun h => absurd (h.1.symm.trans qck1) (by decide)) (fun h => h.2)
    refine lv_ldc (v := (-1000001)) hx hb hown (hts (.constant RX4 58 (-1000001)) (by decide +kernel)) dX4_member_11 ?_
    exact edI hx hb hr hlocks dX4_member_13 (by rw [memberR, if_neg hck1])

set_option maxHeartbeats 4000000 in
set_option maxRecDepth 100000 in
theorem x_share (l : Launch) (dd : va_G) (cyI cyJ cyZ : ClassId) (qx qr qk qa ql ql1 ql2 ql3 ln hm : Nat) (hhm : hm < 2 ^ 48) (hln : ln ≤ 535) (mI : Nat → Int64) (fI gI : Nat → Int32) (E : Nat → En) (hE : LstC E ln mI fI gI) (hO : PAll LEn (ln, E)) (i sd pt : Int32) : Met l yX4_share wsX4_share ({ frames := 3, cells := 0, slots := 0, locals := 100 } : Room) (va_Pc [.ref qx, .int i, .int sd, .int pt] (Rd dd [(cyI, .int), (cyJ, .long), (cyZ, .boolean)] [(qx, .inr (4, [.ref qr, .ref ql, .ref qk, .ref qa])), (ql, .inr (3, [.int (nI ln), .long (lN hm), .ref ql1, .ref ql2, .ref ql3])), (ql1, .inl (cyJ, 535, .inr (.inl mI))), (ql2, .inl (cyI, 535, .inl fI)), (ql3, .inl (cyI, 535, .inl gI))])) (vp_Sl (fun r => r = shE ln hm E i sd pt)) 0 0 (fun _ => False) := by
  refine mkR (cc := cX4_share) (maxL := 6) (by decide) rfl (Nat.le_of_ble_eq_true rfl) (lv0 := [(0, .ref qx), (1, .int i), (2, .int sd), (3, .int pt)]) rfl ?_
  intro p e s m below meth c ls hx hb hr hml hown hlocks hts hN hP hK hl
  have hown : s.vm.findClass RX4 = some m.cls := hown
  have hiX3 : ∀ w ∈ wsX30, w ∈ wsX4_share := by decide +kernel
  have hiX4 : ∀ w ∈ wsX40, w ∈ wsX4_share := by decide +kernel
  refine lv_aload_n hx hb dX4_share_0 rfl (lv_at hl 0 rfl) ?_
  refine va_get (D := dd) (ci := 4) (C := RX4) (T := TX4) (N := 4) (v := .ref ql) hx hb hts hiX4 hown hK hP 0 rfl rfl 1 (by decide) (hts (.fieldLink RX4 19 "SliceDrift" "list" "LSliceDrift$SliceList;") (by decide +kernel)) (fun _ h9 => h9) rfl dX4_share_1 ?_
  refine lv_iload_n hx hb dX4_share_4 rfl (lv_at hl 1 rfl) ?_
  refine clVi (As := [.int i]) (rest := []) (b := ql) (vc := (RX3, TX3, 5)) ⟨hx, hb, hml, hown, hts⟩ (c_List_has l dd cyI cyJ cyZ ql ql1 ql2 ql3 ln (lN hm) i) gX4_share_X3_has (ci := 3) rfl (q0 := 0) rfl (n := 1) rfl ⟨rfl, rfl⟩ (by decide +kernel) ⟨Nat.le_of_ble_eq_true rfl, Nat.le_of_ble_eq_true rfl⟩ hN hK (hP.sub [1] rfl) rfl hl.1 rfl (Nat.le_of_ble_eq_true rfl) dX4_share_5 ⟨Nat.le_of_ble_eq_true rfl, Nat.le_of_ble_eq_true rfl⟩ (fun ck1 hck1 => ?_)
  refine lv_if_ne (tgt := 15) hx hb dX4_share_8 (by decide) (fun qck1 => ?_) (fun qck1 => ?_)
  · have hck1 : inR ln i := hck1.elim (fun h => h.2) (fun h => absurd h.1 qck1)
    refine lv_iload_n hx hb dX4_share_15 rfl (lv_at hl 2 rfl) ?_
    refine lv_iconst (v := 0) hx hb dX4_share_16 (by decide) ?_
    refine lv_iconst (v := 1) hx hb dX4_share_17 (by decide) ?_
    refine clSi (As := [.int sd, .int 0, .int 1]) (rest := []) ⟨hx, hb, hml, hown, hts⟩ (c_isWithin l dd cyI cyJ cyZ sd 0 1) gX4_share_X4_isWithin (n := 3) rfl ⟨rfl, rfl⟩ (by decide +kernel) ⟨Nat.le_of_ble_eq_true rfl, Nat.le_of_ble_eq_true rfl⟩ hN hK (hP.sub [] rfl) rfl hl.1 rfl (Nat.le_of_ble_eq_true rfl) dX4_share_18 ⟨Nat.le_of_ble_eq_true rfl, Nat.le_of_ble_eq_true rfl⟩ (fun ck2 hck2 => ?_)
    refine lv_if_eq (tgt := 31) hx hb dX4_share_21 (by decide) (fun qck2 => ?_) (fun qck2 => ?_)
    · have hck2 : ¬ (inP sd) := hck2.elim (fun h => absurd (h.1.symm.trans qck2) (by decide)) (fun h => h.2)
      refine lv_ldc2 (v := (-1000002)) hx hb hown (hts (.constantLong RX4 114 (-1000002)) (by decide +kernel)) dX4_share_31 ?_
      exact edL hx hb hr hlocks dX4_share_34 (by rw [shE, shareR, if_pos hck1, if_neg (fun x : inP sd ∧ inP pt => hck2 x.1)])
    · have hck2 : inP sd := hck2.elim (fun h => h.2) (fun h => absurd h.1 qck2)
      refine lv_iload_n hx hb dX4_share_24 rfl (lv_at hl 3 rfl) ?_
      refine clSi (As := [.int pt]) (rest := []) ⟨hx, hb, hml, hown, hts⟩ (c_isPart l dd cyI cyJ cyZ pt) gX4_share_X4_isPart (n := 1) rfl ⟨rfl, rfl⟩ (by decide +kernel) ⟨Nat.le_of_ble_eq_true rfl, Nat.le_of_ble_eq_true rfl⟩ hN hK (hP.sub [] rfl) rfl hl.1 rfl (Nat.le_of_ble_eq_true rfl) dX4_share_25 ⟨Nat.le_of_ble_eq_true rfl, Nat.le_of_ble_eq_true rfl⟩ (fun ck3 hck3 => ?_)
      refine lv_if_ne (tgt := 35) hx hb dX4_share_28 (by decide) (fun qck3 => ?_) (fun qck3 => ?_)
      · have hck3 : inP pt := hck3.elim (fun h => h.2) (fun h => absurd h.1 qck3)
        obtain ⟨j, hj, ek⟩ := inR_of (by omega) hck1
        subst ek
        have e1 : cl (nI j) = j := cl_nI (by omega)
        obtain ⟨⟨em, h48⟩, ef, eg⟩ := hE j hj
        obtain ⟨o1, o2, o3, o4⟩ := hO j hj
        have o2 : 0 < pop (E j).1 := o2
        have o5 := pop_le (E j).1
        have o6 := pop_le ((E j).1 &&& hm)
        have ex : (nI (pop ((E j).1 &&& hm))).toInt = ((pop ((E j).1 &&& hm) : Nat) : Int) := nI_toInt (by omega)
        have ez : (nI (pop (E j).1)).toInt = ((pop (E j).1 : Nat) : Int) := nI_toInt (by omega)
        refine lv_aload_n hx hb dX4_share_35 rfl (lv_at hl 0 rfl) ?_
        refine va_get (D := dd) (ci := 4) (C := RX4) (T := TX4) (N := 4) (v := .ref ql) hx hb hts hiX4 hown hK hP 0 rfl rfl 1 (by decide) (hts (.fieldLink RX4 19 "SliceDrift" "list" "LSliceDrift$SliceList;") (by decide +kernel)) (fun _ h9 => h9) rfl dX4_share_36 ?_
        refine va_getN (D := dd) (ci := 3) (C := RX3) (T := TX3) (N := 5) (v := .ref ql1) hx hb hts hiX3 hown hK hP 1 rfl rfl 2 (by decide) (hN.f 14 rfl) (fun _ h9 => h9) rfl dX4_share_39 ?_
        refine lv_iload_n hx hb dX4_share_42 rfl (lv_at hl 1 rfl) ?_
        refine va_lald hx hb hK hP 2 1 rfl rfl (i := nI j) (vp_in_nI (show j < 535 from (by omega)) (by decide)) dX4_share_43 ?_
        rw [nI_clamp (show j < 2 ^ 31 from Nat.lt_trans (show j < 535 from (by omega)) (by decide))]
        refine tpl (show (mI j : Int64) = lN (E j).1 from em) ?_
        refine clSi (As := [.long (lN (E j).1)]) (rest := []) ⟨hx, hb, hml, hown, hts⟩ (c_bitCount l dd cyI cyJ cyZ (E j).1 (by omega)) gX4_share_J13_bitCount_95d88 (n := 1) rfl ⟨rfl, rfl⟩ (by decide +kernel) ⟨Nat.le_of_ble_eq_true rfl, Nat.le_of_ble_eq_true rfl⟩ hN hK (hP.sub [] rfl) rfl hl.1 rfl (Nat.le_of_ble_eq_true rfl) dX4_share_44 ⟨Nat.le_of_ble_eq_true rfl, Nat.le_of_ble_eq_true rfl⟩ (fun r4 h4 => ?_)
        have h4 : r4 = nI (pop (E j).1) := h4
        subst h4
        refine lv_istore (lv' := [(4, .int (nI (pop (E j).1))), (0, .ref qx), (1, .int (nI j)), (2, .int sd), (3, .int pt)]) hx hb dX4_share_47 hl (by decide) rfl (fun ls hl => ?_)
        refine lv_aload_n hx hb dX4_share_49 rfl (lv_at hl 1 rfl) ?_
        refine va_get (D := dd) (ci := 4) (C := RX4) (T := TX4) (N := 4) (v := .ref ql) hx hb hts hiX4 hown hK hP 0 rfl rfl 1 (by decide) (hts (.fieldLink RX4 19 "SliceDrift" "list" "LSliceDrift$SliceList;") (by decide +kernel)) (fun _ h9 => h9) rfl dX4_share_50 ?_
        refine va_getN (D := dd) (ci := 3) (C := RX3) (T := TX3) (N := 5) (v := .ref ql1) hx hb hts hiX3 hown hK hP 1 rfl rfl 2 (by decide) (hN.f 14 rfl) (fun _ h9 => h9) rfl dX4_share_53 ?_
        refine lv_iload_n hx hb dX4_share_56 rfl (lv_at hl 2 rfl) ?_
        refine va_lald hx hb hK hP 2 1 rfl rfl (i := nI j) (vp_in_nI (show j < 535 from (by omega)) (by decide)) dX4_share_57 ?_
        rw [nI_clamp (show j < 2 ^ 31 from Nat.lt_trans (show j < 535 from (by omega)) (by decide))]
        refine tpl (show (mI j : Int64) = lN (E j).1 from em) ?_
        refine lv_aload_n hx hb dX4_share_58 rfl (lv_at hl 1 rfl) ?_
        refine va_get (D := dd) (ci := 4) (C := RX4) (T := TX4) (N := 4) (v := .ref ql) hx hb hts hiX4 hown hK hP 0 rfl rfl 1 (by decide) (hts (.fieldLink RX4 19 "SliceDrift" "list" "LSliceDrift$SliceList;") (by decide +kernel)) (fun _ h9 => h9) rfl dX4_share_59 ?_
        refine va_getN (D := dd) (ci := 3) (C := RX3) (T := TX3) (N := 5) (v := .long (lN hm)) hx hb hts hiX3 hown hK hP 1 rfl rfl 1 (by decide) (hN.f 0 rfl) (fun _ h9 => h9) rfl dX4_share_62 ?_
        refine lv_land hx hb dX4_share_65 ?_
        refine tpl (show ((lN (E j).1) &&& (lN hm) : Int64) = lN ((E j).1 &&& hm) from wb_and (by omega) (by omega)) ?_
        refine clSi (As := [.long (lN ((E j).1 &&& hm))]) (rest := []) ⟨hx, hb, hml, hown, hts⟩ (c_bitCount l dd cyI cyJ cyZ ((E j).1 &&& hm) (Nat.lt_trans (and48 h48) (by decide))) gX4_share_J13_bitCount_95d88 (n := 1) rfl ⟨rfl, rfl⟩ (by decide +kernel) ⟨Nat.le_of_ble_eq_true rfl, Nat.le_of_ble_eq_true rfl⟩ hN hK (hP.sub [] rfl) rfl hl.1 rfl (Nat.le_of_ble_eq_true rfl) dX4_share_66 ⟨Nat.le_of_ble_eq_true rfl, Nat.le_of_ble_eq_true rfl⟩ (fun r5 h5 => ?_)
        have h5 : r5 = nI (pop ((E j).1 &&& hm)) := h5
        subst h5
        refine lv_istore (lv' := [(5, .int (nI (pop ((E j).1 &&& hm)))), (4, .int (nI (pop (E j).1))), (0, .ref qx), (1, .int (nI j)), (2, .int sd), (3, .int pt)]) hx hb dX4_share_69 hl (by decide) rfl (fun ls hl => ?_)
        refine lv_iload_n hx hb dX4_share_71 rfl (lv_at hl 4 rfl) ?_
        refine lv_if_ne (tgt := 88) hx hb dX4_share_72 (by decide) (fun q => ?_) (fun q => ?_)
        · refine lv_iload hx hb dX4_share_88 (lv_at hl 0 rfl) ?_
          refine clSi (As := [.int (nI (pop ((E j).1 &&& hm)))]) (rest := []) ⟨hx, hb, hml, hown, hts⟩ (c_boundAbove l dd cyI cyJ cyZ (nI (pop ((E j).1 &&& hm)))) gX4_share_X4_boundAbove (n := 1) rfl ⟨rfl, rfl⟩ (by decide +kernel) ⟨Nat.le_of_ble_eq_true rfl, Nat.le_of_ble_eq_true rfl⟩ hN hK (hP.sub [] rfl) rfl hl.1 rfl (Nat.le_of_ble_eq_true rfl) dX4_share_90 ⟨Nat.le_of_ble_eq_true rfl, Nat.le_of_ble_eq_true rfl⟩ (fun r6 h6 => ?_)
          subst h6
          refine tpi (show (nI (pop ((E j).1 &&& hm)) + 2 : Int32) = nI (pop ((E j).1 &&& hm) + 2) from nI_add _ 2) ?_
          refine lv_i2l hx hb dX4_share_93 rfl ?_
          refine tpl (show ((nI (pop ((E j).1 &&& hm) + 2)).toInt64 : Int64) = lI ((pop ((E j).1 &&& hm) + 2 : Nat) : Int) from by rw [nI_l (by omega), lN_lI]) ?_
          refine lv_iload hx hb dX4_share_94 (lv_at hl 1 rfl) ?_
          refine clSi (As := [.int (nI (pop (E j).1))]) (rest := [.long (lI ((pop ((E j).1 &&& hm) + 2 : Nat) : Int))]) ⟨hx, hb, hml, hown, hts⟩ (c_boundBelow l dd cyI cyJ cyZ (nI (pop (E j).1))) gX4_share_X4_boundBelow (n := 1) rfl ⟨rfl, rfl⟩ (by decide +kernel) ⟨Nat.le_of_ble_eq_true rfl, Nat.le_of_ble_eq_true rfl⟩ hN hK (hP.sub [] rfl) rfl hl.1 rfl (Nat.le_of_ble_eq_true rfl) dX4_share_96 ⟨Nat.le_of_ble_eq_true rfl, Nat.le_of_ble_eq_true rfl⟩ (fun r7 h7 => ?_)
          subst h7
          refine tpi (show (nI (pop (E j).1) + 4 : Int32) = nI (pop (E j).1 + 4) from nI_add _ 4) ?_
          refine lv_i2l hx hb dX4_share_99 rfl ?_
          refine tpl (show ((nI (pop (E j).1 + 4)).toInt64 : Int64) = lI ((pop (E j).1 + 4 : Nat) : Int) from by rw [nI_l (by omega), lN_lI]) ?_
          refine lv_iload_n hx hb dX4_share_100 rfl (lv_at hl 5 rfl) ?_
          refine clSl (As := [.long (lI ((pop ((E j).1 &&& hm) + 2 : Nat) : Int)), .long (lI ((pop (E j).1 + 4 : Nat) : Int)), .int pt]) (rest := []) ⟨hx, hb, hml, hown, hts⟩ (c_lowest l dd cyI cyJ cyZ ((pop ((E j).1 &&& hm) + 2 : Nat) : Int) ((pop (E j).1 + 4 : Nat) : Int) pt (by omega) (by omega) (by omega)) gX4_share_X4_lowest (n := 3) rfl ⟨rfl, rfl⟩ (by decide +kernel) ⟨Nat.le_of_ble_eq_true rfl, Nat.le_of_ble_eq_true rfl⟩ hN hK (hP.sub [] rfl) rfl hl.1 rfl (Nat.le_of_ble_eq_true rfl) dX4_share_101 ⟨Nat.le_of_ble_eq_true rfl, Nat.le_of_ble_eq_true rfl⟩ (fun rr hrr => ?_)
          exact edL hx hb hr hlocks dX4_share_104 (by rw [hrr, shE, shareR, if_pos (show inR ln (nI j) from hck1), if_pos (show inP sd ∧ inP pt from ⟨hck2, hck3⟩), if_neg q, e1]; show _ = lI (fr ((nI (pop ((E j).1 &&& hm))).toInt + 2) ((nI (pop (E j).1)).toInt + 4) pt); rw [ex, ez]; rfl)
        · refine lv_iload hx hb dX4_share_75 (lv_at hl 0 rfl) ?_
          refine lv_i2l hx hb dX4_share_77 rfl ?_
          refine tpl (show ((nI (pop ((E j).1 &&& hm))).toInt64 : Int64) = lI ((pop ((E j).1 &&& hm) : Nat) : Int) from by rw [nI_l (by omega), lN_lI]) ?_
          refine lv_iload hx hb dX4_share_78 (lv_at hl 1 rfl) ?_
          refine lv_i2l hx hb dX4_share_80 rfl ?_
          refine tpl (show ((nI (pop (E j).1)).toInt64 : Int64) = lI ((pop (E j).1 : Nat) : Int) from by rw [nI_l (by omega), lN_lI]) ?_
          refine lv_iload_n hx hb dX4_share_81 rfl (lv_at hl 5 rfl) ?_
          refine clSl (As := [.long (lI ((pop ((E j).1 &&& hm) : Nat) : Int)), .long (lI ((pop (E j).1 : Nat) : Int)), .int pt]) (rest := []) ⟨hx, hb, hml, hown, hts⟩ (c_lowest l dd cyI cyJ cyZ ((pop ((E j).1 &&& hm) : Nat) : Int) ((pop (E j).1 : Nat) : Int) pt (by omega) (by omega) (by omega)) gX4_share_X4_lowest (n := 3) rfl ⟨rfl, rfl⟩ (by decide +kernel) ⟨Nat.le_of_ble_eq_true rfl, Nat.le_of_ble_eq_true rfl⟩ hN hK (hP.sub [] rfl) rfl hl.1 rfl (Nat.le_of_ble_eq_true rfl) dX4_share_82 ⟨Nat.le_of_ble_eq_true rfl, Nat.le_of_ble_eq_true rfl⟩ (fun rr hrr => ?_)
          refine lv_goto (tgt := 104) hx hb dX4_share_85 (by decide) ?_
          exact edL hx hb hr hlocks dX4_share_104 (by rw [hrr, shE, shareR, if_pos (show inR ln (nI j) from hck1), if_pos (show inP sd ∧ inP pt from ⟨hck2, hck3⟩), if_pos q, e1]; show _ = lI (fr (nI (pop ((E j).1 &&& hm))).toInt (nI (pop (E j).1)).toInt pt); rw [ex, ez])
      · have hck3 : ¬ (inP pt) := hck3.elim (fun h => absurd (h.1.symm.trans qck3) (by decide)) (fun h => h.2)
        refine lv_ldc2 (v := (-1000002)) hx hb hown (hts (.constantLong RX4 114 (-1000002)) (by decide +kernel)) dX4_share_31 ?_
        exact edL hx hb hr hlocks dX4_share_34 (by rw [shE, shareR, if_pos hck1, if_neg (fun x : inP sd ∧ inP pt => hck3 x.2)])
  · have hck1 : ¬ (inR ln i) := hck1.elim (fun h => absurd (h.1.symm.trans qck1) (by decide)) (fun h => h.2)
    refine lv_ldc2 (v := (-1000001)) hx hb hown (hts (.constantLong RX4 109 (-1000001)) (by decide +kernel)) dX4_share_11 ?_
    exact edL hx hb hr hlocks dX4_share_14 (by rw [shE, shareR, if_neg hck1])
