/-- what the class's arrays tell of the list -/
def LstC (E : Nat → En) (ln : Nat) (mI : Nat → Int64) (fI gI : Nat → Int32) : Prop := ∀ j, j < ln → (mI j = lN (E j).1 ∧ (E j).1 < 2 ^ 48) ∧ fI j = nI (E j).2.1 ∧ gI j = sI2 (E j).2.2
theorem cpy_ins {α : Type} {f : Nat → α} {h : En → α} {E : Nat → En} {ln p : Nat} {x : En} {v : α} {g : Nat → α} (hp : p ≤ ln) (hf : ∀ j, j < ln → f j = h (E j)) (hv : v = h x) (hg : ∀ j, g j = if j = p then v else va_cpy f f p (p + 1) (ln - p) j) : ∀ j, j < ln + 1 → g j = h (insE E p x j) := by
  intro j hj
  rw [hg]
  rcases Nat.lt_trichotomy j p with q | q | q
  · rw [if_neg (by omega), pk_cpy_out (by omega), insE_lo q]
    exact hf j (by omega)
  · subst q
    rw [if_pos rfl, insE_at]
    exact hv
  · rw [if_neg (by omega), pk_cpy_in (by omega) (by omega), insE_hi q, show p + (j - (p + 1)) = j - 1 by omega]
    exact hf (j - 1) (by omega)

theorem ins48 {E : Nat → En} {ln p : Nat} {x : En} (hp : p ≤ ln) (h : ∀ j, j < ln → (E j).1 < 2 ^ 48) (hx : x.1 < 2 ^ 48) : ∀ j, j < ln + 1 → (insE E p x j).1 < 2 ^ 48 := by
  intro j hj
  rcases Nat.lt_trichotomy j p with q | q | q
  · rw [insE_lo q]; exact h j (by omega)
  · subst q; rw [insE_at]; exact hx
  · rw [insE_hi q]; exact h (j - 1) (by omega)

set_option maxHeartbeats 4000000 in
set_option maxRecDepth 100000 in
theorem c_insert (l : Launch) (dd : va_G) (cyI cyJ cyZ : ClassId) (ql ql1 ql2 ql3 ln : Nat) (hm x f g : Nat) (hhm : hm < 2 ^ 48) (hx0 : x < 2 ^ 48) (hln : ln < 535) (mI : Nat → Int64) (fI gI : Nat → Int32) (E : Nat → En) (hE : LstC E ln mI fI gI) (hs : Srt hm E ln) (sz : Nat) : Met l yX3_insert wsX3_insert ({ frames := 3, cells := 0, slots := 0, locals := 80 } : Room) (va_Pc [.ref ql, .long (lN x), .int (nI f), .int (sI2 g)] (Wr dd [(cyI, .int), (cyJ, .long), (cyZ, .boolean)] [(ql, .inr (3, [.int (nI ln), .long (lN hm), .ref ql1, .ref ql2, .ref ql3])), (ql1, .inl (cyJ, 535, .inr (.inl mI))), (ql2, .inl (cyI, 535, .inl fI)), (ql3, .inl (cyI, 535, .inl gI))] sz)) (va_Qv (S := (Nat → Int64) × (Nat → Int32) × (Nat → Int32)) (fun (u : (Nat → Int64) × (Nat → Int32) × (Nat → Int32)) => LstC (insE E (posn hm E ln x) (x, f, g)) (ln + 1) u.1 u.2.1 u.2.2 ∧ isPos hm E ln x (posn hm E ln x)) (WQ dd [(ql, .inr (3, [.int (nI ln), .long (lN hm), .ref ql1, .ref ql2, .ref ql3])), (ql1, .inl (cyJ, 535, .inr (.inl mI))), (ql2, .inl (cyI, 535, .inl fI)), (ql3, .inl (cyI, 535, .inl gI))] sz (fun u => [(ql, .inr (3, [.int (nI (ln + 1)), .long (lN hm), .ref ql1, .ref ql2, .ref ql3])), (ql1, .inl (cyJ, 535, .inr (.inl u.1))), (ql2, .inl (cyI, 535, .inl u.2.1)), (ql3, .inl (cyI, 535, .inl u.2.2))])) (va_A [(ql, .inr (3, [.int (nI ln), .long (lN hm), .ref ql1, .ref ql2, .ref ql3])), (ql1, .inl (cyJ, 535, .inr (.inl mI))), (ql2, .inl (cyI, 535, .inl fI)), (ql3, .inl (cyI, 535, .inl gI))] sz)) 0 0 (va_A [(ql, .inr (3, [.int (nI ln), .long (lN hm), .ref ql1, .ref ql2, .ref ql3])), (ql1, .inl (cyJ, 535, .inr (.inl mI))), (ql2, .inl (cyI, 535, .inl fI)), (ql3, .inl (cyI, 535, .inl gI))] sz) := by
  refine mkW (Qc := fun A => (va_Qv (S := (Nat → Int64) × (Nat → Int32) × (Nat → Int32)) (fun (u : (Nat → Int64) × (Nat → Int32) × (Nat → Int32)) => LstC (insE E (posn hm E ln x) (x, f, g)) (ln + 1) u.1 u.2.1 u.2.2 ∧ isPos hm E ln x (posn hm E ln x)) (WQ dd [(ql, .inr (3, [.int (nI ln), .long (lN hm), .ref ql1, .ref ql2, .ref ql3])), (ql1, .inl (cyJ, 535, .inr (.inl mI))), (ql2, .inl (cyI, 535, .inl fI)), (ql3, .inl (cyI, 535, .inl gI))] sz (fun u => [(ql, .inr (3, [.int (nI (ln + 1)), .long (lN hm), .ref ql1, .ref ql2, .ref ql3])), (ql1, .inl (cyJ, 535, .inr (.inl u.1))), (ql2, .inl (cyI, 535, .inl u.2.1)), (ql3, .inl (cyI, 535, .inl u.2.2))])) A)) (cc := cX3_insert) (maxL := 6) (by decide) rfl (Nat.le_of_ble_eq_true rfl) (lv0 := [(0, .ref ql), (1, .long (lN x)), (3, .int (nI f)), (4, .int (sI2 g))]) rfl ?_
  intro p e s m below meth c ls H A hx hb hr hml hown hlocks hts hmn hN hP hK hD hS hA hAe hl
  have hown : s.vm.findClass RX3 = some m.cls := hown
  have hiX3 : ∀ w ∈ wsX30, w ∈ wsX3_insert := by decide +kernel
  refine lv_aload_n hx hb dX3_insert_0 rfl (lv_at hl 0 rfl) ?_
  refine va_get (D := dd) (ci := 3) (C := RX3) (T := TX3) (N := 5) (v := .int (nI ln)) hx hb hts hiX3 hown hK hP 0 rfl rfl 0 (by decide) (hts (.fieldLink RX3 9 "SliceDrift$SliceList" "size" "I") (by decide +kernel)) (fun _ h9 => h9) rfl dX3_insert_1 ?_
  refine lv_sipush (v := 535) hx hb dX3_insert_4 (by decide) ?_
  refine lv_icmp_lt (tgt := 11) hx hb dX3_insert_7 (by decide) (fun q => ?_) (fun q => ?_)
  · refine lv_aload_n hx hb dX3_insert_11 rfl (lv_at hl 0 rfl) ?_
    refine lv_lload_n hx hb dX3_insert_12 rfl (lv_at hl 1 rfl) ?_
    refine clVi (As := [.long (lN x)]) (rest := []) (b := ql) (vc := (RX3, TX3, 5)) ⟨hx, hb, hml, hown, hts⟩ (c_placeFor l dd cyI cyJ cyZ ql ql1 ql2 ql3 ln hm x hhm hx0 (by omega) mI E (fun j hj => (hE j hj).1) hs) gX3_insert_X3_placeFor (ci := 3) rfl (q0 := 0) rfl (n := 1) rfl ⟨rfl, rfl⟩ (by decide +kernel) ⟨Nat.le_of_ble_eq_true rfl, Nat.le_of_ble_eq_true rfl⟩ hN hK (hP.sub [0, 1] rfl) rfl hl.1 rfl (Nat.le_of_ble_eq_true rfl) dX3_insert_13 ⟨Nat.le_of_ble_eq_true rfl, Nat.le_of_ble_eq_true rfl⟩ (fun r1 h1 => ?_)
    obtain ⟨p0, er, hp⟩ := h1
    subst er
    have ep := posn_of hp
    rw [ep]
    have hp1 := hp.1
    refine lv_istore (lv' := [(5, .int (nI p0)), (0, .ref ql), (1, .long (lN x)), (3, .int (nI f)), (4, .int (sI2 g))]) hx hb dX3_insert_16 hl (by decide) rfl (fun ls hl => ?_)
    refine lv_aload_n hx hb dX3_insert_18 rfl (lv_at hl 1 rfl) ?_
    refine va_get (D := dd) (ci := 3) (C := RX3) (T := TX3) (N := 5) (v := .ref ql1) hx hb hts hiX3 hown hK hP 0 rfl rfl 2 (by decide) (hts (.fieldLink RX3 19 "SliceDrift$SliceList" "members" "[J") (by decide +kernel)) (fun _ h9 => h9) rfl dX3_insert_19 ?_
    refine lv_iload hx hb dX3_insert_22 (lv_at hl 0 rfl) ?_
    refine lv_aload_n hx hb dX3_insert_24 rfl (lv_at hl 1 rfl) ?_
    refine va_get (D := dd) (ci := 3) (C := RX3) (T := TX3) (N := 5) (v := .ref ql1) hx hb hts hiX3 hown hK hP 0 rfl rfl 2 (by decide) (hts (.fieldLink RX3 19 "SliceDrift$SliceList" "members" "[J") (by decide +kernel)) (fun _ h9 => h9) rfl dX3_insert_25 ?_
    refine lv_iload hx hb dX3_insert_28 (lv_at hl 0 rfl) ?_
    refine lv_iconst (v := 1) hx hb dX3_insert_30 (by decide) ?_
    refine lv_iadd hx hb dX3_insert_31 ?_
    refine tpi (show ((nI p0) + 1 : Int32) = nI (p0 + 1) from nI_1 p0) ?_
    refine lv_aload_n hx hb dX3_insert_32 rfl (lv_at hl 1 rfl) ?_
    refine va_get (D := dd) (ci := 3) (C := RX3) (T := TX3) (N := 5) (v := .int (nI ln)) hx hb hts hiX3 hown hK hP 0 rfl rfl 0 (by decide) (hts (.fieldLink RX3 9 "SliceDrift$SliceList" "size" "I") (by decide +kernel)) (fun _ h9 => h9) rfl dX3_insert_33 ?_
    refine lv_iload hx hb dX3_insert_36 (lv_at hl 0 rfl) ?_
    refine lv_isub hx hb dX3_insert_38 ?_
    refine tpi (show ((nI ln) - (nI p0) : Int32) = nI (ln - p0) from pk_sub hp1) ?_
    refine va_copyl hx hb (hml.trans hl.1.symm) hown (hts (.methodLink RX3 65 arraycopyName) (by decide +kernel)) (hts (.native arraycopyName) (by decide +kernel)) (hts (.static arraycopyName) (by decide +kernel)) (hts (.initialized "java/lang/System") (by decide +kernel)) hK hP hD hS 1 1 1 1 rfl rfl rfl rfl rfl (sp := nI p0) (dp := nI (p0 + 1)) (n := nI (ln - p0)) (nI_pos (by omega)) (nI_pos (by omega)) (nI_pos (by omega)) (by rw [nI_clamp (show p0 < 2 ^ 31 by omega), nI_clamp (show (ln - p0) < 2 ^ 31 by omega)]; omega) (by rw [nI_clamp (show (p0 + 1) < 2 ^ 31 by omega), nI_clamp (show (ln - p0) < 2 ^ 31 by omega)]; omega) (fun _ _ => rfl) (Nat.le_of_ble_eq_true rfl) (Nat.le_of_ble_eq_true rfl) dX3_insert_39 (fun H locs hP hD hS => ?_)
    rw [nI_clamp (show p0 < 2 ^ 31 by omega), nI_clamp (show (p0 + 1) < 2 ^ 31 by omega), nI_clamp (show (ln - p0) < 2 ^ 31 by omega)] at hP hD
    have hP : va_P dd vwCl [(ql, .inr (3, [.int (nI ln), .long (lN hm), .ref ql1, .ref ql2, .ref ql3])), (ql1, .inl (cyJ, 535, .inr (.inl (va_cpy mI mI p0 (p0 + 1) (ln - p0))))), (ql2, .inl (cyI, 535, .inl fI)), (ql3, .inl (cyI, 535, .inl gI))] H := hP
    have hD : va_D A [(ql, .inr (3, [.int (nI ln), .long (lN hm), .ref ql1, .ref ql2, .ref ql3])), (ql1, .inl (cyJ, 535, .inr (.inl (va_cpy mI mI p0 (p0 + 1) (ln - p0))))), (ql2, .inl (cyI, 535, .inl fI)), (ql3, .inl (cyI, 535, .inl gI))] := hD
    refine lv_aload_n hx hb dX3_insert_42 rfl (lv_at hl 1 rfl) ?_
    refine va_get (D := dd) (ci := 3) (C := RX3) (T := TX3) (N := 5) (v := .ref ql2) hx hb hts hiX3 hown hK hP 0 rfl rfl 3 (by decide) (hts (.fieldLink RX3 23 "SliceDrift$SliceList" "firsts" "[I") (by decide +kernel)) (fun _ h9 => h9) rfl dX3_insert_43 ?_
    refine lv_iload hx hb dX3_insert_46 (lv_at hl 0 rfl) ?_
    refine lv_aload_n hx hb dX3_insert_48 rfl (lv_at hl 1 rfl) ?_
    refine va_get (D := dd) (ci := 3) (C := RX3) (T := TX3) (N := 5) (v := .ref ql2) hx hb hts hiX3 hown hK hP 0 rfl rfl 3 (by decide) (hts (.fieldLink RX3 23 "SliceDrift$SliceList" "firsts" "[I") (by decide +kernel)) (fun _ h9 => h9) rfl dX3_insert_49 ?_
    refine lv_iload hx hb dX3_insert_52 (lv_at hl 0 rfl) ?_
    refine lv_iconst (v := 1) hx hb dX3_insert_54 (by decide) ?_
    refine lv_iadd hx hb dX3_insert_55 ?_
    refine tpi (show ((nI p0) + 1 : Int32) = nI (p0 + 1) from nI_1 p0) ?_
    refine lv_aload_n hx hb dX3_insert_56 rfl (lv_at hl 1 rfl) ?_
    refine va_get (D := dd) (ci := 3) (C := RX3) (T := TX3) (N := 5) (v := .int (nI ln)) hx hb hts hiX3 hown hK hP 0 rfl rfl 0 (by decide) (hts (.fieldLink RX3 9 "SliceDrift$SliceList" "size" "I") (by decide +kernel)) (fun _ h9 => h9) rfl dX3_insert_57 ?_
    refine lv_iload hx hb dX3_insert_60 (lv_at hl 0 rfl) ?_
    refine lv_isub hx hb dX3_insert_62 ?_
    refine tpi (show ((nI ln) - (nI p0) : Int32) = nI (ln - p0) from pk_sub hp1) ?_
    refine va_copyi hx hb (hml.trans hl.1.symm) hown (hts (.methodLink RX3 65 arraycopyName) (by decide +kernel)) (hts (.native arraycopyName) (by decide +kernel)) (hts (.static arraycopyName) (by decide +kernel)) (hts (.initialized "java/lang/System") (by decide +kernel)) hK hP hD hS 2 2 0 0 rfl rfl rfl rfl rfl (sp := nI p0) (dp := nI (p0 + 1)) (n := nI (ln - p0)) (nI_pos (by omega)) (nI_pos (by omega)) (nI_pos (by omega)) (by rw [nI_clamp (show p0 < 2 ^ 31 by omega), nI_clamp (show (ln - p0) < 2 ^ 31 by omega)]; omega) (by rw [nI_clamp (show (p0 + 1) < 2 ^ 31 by omega), nI_clamp (show (ln - p0) < 2 ^ 31 by omega)]; omega) (fun _ _ => rfl) (Nat.le_of_ble_eq_true rfl) (Nat.le_of_ble_eq_true rfl) dX3_insert_63 (fun H locs hP hD hS => ?_)
    rw [nI_clamp (show p0 < 2 ^ 31 by omega), nI_clamp (show (p0 + 1) < 2 ^ 31 by omega), nI_clamp (show (ln - p0) < 2 ^ 31 by omega)] at hP hD
    have hP : va_P dd vwCl [(ql, .inr (3, [.int (nI ln), .long (lN hm), .ref ql1, .ref ql2, .ref ql3])), (ql1, .inl (cyJ, 535, .inr (.inl (va_cpy mI mI p0 (p0 + 1) (ln - p0))))), (ql2, .inl (cyI, 535, .inl (va_cpy fI fI p0 (p0 + 1) (ln - p0)))), (ql3, .inl (cyI, 535, .inl gI))] H := hP
    have hD : va_D A [(ql, .inr (3, [.int (nI ln), .long (lN hm), .ref ql1, .ref ql2, .ref ql3])), (ql1, .inl (cyJ, 535, .inr (.inl (va_cpy mI mI p0 (p0 + 1) (ln - p0))))), (ql2, .inl (cyI, 535, .inl (va_cpy fI fI p0 (p0 + 1) (ln - p0)))), (ql3, .inl (cyI, 535, .inl gI))] := hD
    refine lv_aload_n hx hb dX3_insert_66 rfl (lv_at hl 1 rfl) ?_
    refine va_get (D := dd) (ci := 3) (C := RX3) (T := TX3) (N := 5) (v := .ref ql3) hx hb hts hiX3 hown hK hP 0 rfl rfl 4 (by decide) (hts (.fieldLink RX3 27 "SliceDrift$SliceList" "seconds" "[I") (by decide +kernel)) (fun _ h9 => h9) rfl dX3_insert_67 ?_
    refine lv_iload hx hb dX3_insert_70 (lv_at hl 0 rfl) ?_
    refine lv_aload_n hx hb dX3_insert_72 rfl (lv_at hl 1 rfl) ?_
    refine va_get (D := dd) (ci := 3) (C := RX3) (T := TX3) (N := 5) (v := .ref ql3) hx hb hts hiX3 hown hK hP 0 rfl rfl 4 (by decide) (hts (.fieldLink RX3 27 "SliceDrift$SliceList" "seconds" "[I") (by decide +kernel)) (fun _ h9 => h9) rfl dX3_insert_73 ?_
    refine lv_iload hx hb dX3_insert_76 (lv_at hl 0 rfl) ?_
    refine lv_iconst (v := 1) hx hb dX3_insert_78 (by decide) ?_
    refine lv_iadd hx hb dX3_insert_79 ?_
    refine tpi (show ((nI p0) + 1 : Int32) = nI (p0 + 1) from nI_1 p0) ?_
    refine lv_aload_n hx hb dX3_insert_80 rfl (lv_at hl 1 rfl) ?_
    refine va_get (D := dd) (ci := 3) (C := RX3) (T := TX3) (N := 5) (v := .int (nI ln)) hx hb hts hiX3 hown hK hP 0 rfl rfl 0 (by decide) (hts (.fieldLink RX3 9 "SliceDrift$SliceList" "size" "I") (by decide +kernel)) (fun _ h9 => h9) rfl dX3_insert_81 ?_
    refine lv_iload hx hb dX3_insert_84 (lv_at hl 0 rfl) ?_
    refine lv_isub hx hb dX3_insert_86 ?_
    refine tpi (show ((nI ln) - (nI p0) : Int32) = nI (ln - p0) from pk_sub hp1) ?_
    refine va_copyi hx hb (hml.trans hl.1.symm) hown (hts (.methodLink RX3 65 arraycopyName) (by decide +kernel)) (hts (.native arraycopyName) (by decide +kernel)) (hts (.static arraycopyName) (by decide +kernel)) (hts (.initialized "java/lang/System") (by decide +kernel)) hK hP hD hS 3 3 0 0 rfl rfl rfl rfl rfl (sp := nI p0) (dp := nI (p0 + 1)) (n := nI (ln - p0)) (nI_pos (by omega)) (nI_pos (by omega)) (nI_pos (by omega)) (by rw [nI_clamp (show p0 < 2 ^ 31 by omega), nI_clamp (show (ln - p0) < 2 ^ 31 by omega)]; omega) (by rw [nI_clamp (show (p0 + 1) < 2 ^ 31 by omega), nI_clamp (show (ln - p0) < 2 ^ 31 by omega)]; omega) (fun _ _ => rfl) (Nat.le_of_ble_eq_true rfl) (Nat.le_of_ble_eq_true rfl) dX3_insert_87 (fun H locs hP hD hS => ?_)
    rw [nI_clamp (show p0 < 2 ^ 31 by omega), nI_clamp (show (p0 + 1) < 2 ^ 31 by omega), nI_clamp (show (ln - p0) < 2 ^ 31 by omega)] at hP hD
    have hP : va_P dd vwCl [(ql, .inr (3, [.int (nI ln), .long (lN hm), .ref ql1, .ref ql2, .ref ql3])), (ql1, .inl (cyJ, 535, .inr (.inl (va_cpy mI mI p0 (p0 + 1) (ln - p0))))), (ql2, .inl (cyI, 535, .inl (va_cpy fI fI p0 (p0 + 1) (ln - p0)))), (ql3, .inl (cyI, 535, .inl (va_cpy gI gI p0 (p0 + 1) (ln - p0))))] H := hP
    have hD : va_D A [(ql, .inr (3, [.int (nI ln), .long (lN hm), .ref ql1, .ref ql2, .ref ql3])), (ql1, .inl (cyJ, 535, .inr (.inl (va_cpy mI mI p0 (p0 + 1) (ln - p0))))), (ql2, .inl (cyI, 535, .inl (va_cpy fI fI p0 (p0 + 1) (ln - p0)))), (ql3, .inl (cyI, 535, .inl (va_cpy gI gI p0 (p0 + 1) (ln - p0))))] := hD
    refine lv_aload_n hx hb dX3_insert_90 rfl (lv_at hl 1 rfl) ?_
    refine va_get (D := dd) (ci := 3) (C := RX3) (T := TX3) (N := 5) (v := .ref ql1) hx hb hts hiX3 hown hK hP 0 rfl rfl 2 (by decide) (hts (.fieldLink RX3 19 "SliceDrift$SliceList" "members" "[J") (by decide +kernel)) (fun _ h9 => h9) rfl dX3_insert_91 ?_
    refine lv_iload hx hb dX3_insert_94 (lv_at hl 0 rfl) ?_
    refine lv_lload_n hx hb dX3_insert_96 rfl (lv_at hl 2 rfl) ?_
    refine va_last hx hb hK hP hD hS 1 1 rfl rfl (i := nI p0) (vp_in_nI (show p0 < 535 from (by omega)) (by decide)) dX3_insert_97 (fun H locs hP hD hS => ?_)
    rw [nI_clamp (show p0 < 2 ^ 31 from Nat.lt_trans (show p0 < 535 from (by omega)) (by decide))] at hP hD
    have hP : va_P dd vwCl [(ql, .inr (3, [.int (nI ln), .long (lN hm), .ref ql1, .ref ql2, .ref ql3])), (ql1, .inl (cyJ, 535, .inr (.inl (vp_updL (va_cpy mI mI p0 (p0 + 1) (ln - p0)) p0 (lN x))))), (ql2, .inl (cyI, 535, .inl (va_cpy fI fI p0 (p0 + 1) (ln - p0)))), (ql3, .inl (cyI, 535, .inl (va_cpy gI gI p0 (p0 + 1) (ln - p0))))] H := hP
    have hD : va_D A [(ql, .inr (3, [.int (nI ln), .long (lN hm), .ref ql1, .ref ql2, .ref ql3])), (ql1, .inl (cyJ, 535, .inr (.inl (vp_updL (va_cpy mI mI p0 (p0 + 1) (ln - p0)) p0 (lN x))))), (ql2, .inl (cyI, 535, .inl (va_cpy fI fI p0 (p0 + 1) (ln - p0)))), (ql3, .inl (cyI, 535, .inl (va_cpy gI gI p0 (p0 + 1) (ln - p0))))] := hD
    refine lv_aload_n hx hb dX3_insert_98 rfl (lv_at hl 1 rfl) ?_
    refine va_get (D := dd) (ci := 3) (C := RX3) (T := TX3) (N := 5) (v := .ref ql2) hx hb hts hiX3 hown hK hP 0 rfl rfl 3 (by decide) (hts (.fieldLink RX3 23 "SliceDrift$SliceList" "firsts" "[I") (by decide +kernel)) (fun _ h9 => h9) rfl dX3_insert_99 ?_
    refine lv_iload hx hb dX3_insert_102 (lv_at hl 0 rfl) ?_
    refine lv_iload_n hx hb dX3_insert_104 rfl (lv_at hl 3 rfl) ?_
    refine va_iast hx hb hK hP hD hS 2 0 rfl rfl (i := nI p0) (vp_in_nI (show p0 < 535 from (by omega)) (by decide)) dX3_insert_105 (fun H locs hP hD hS => ?_)
    rw [nI_clamp (show p0 < 2 ^ 31 from Nat.lt_trans (show p0 < 535 from (by omega)) (by decide))] at hP hD
    have hP : va_P dd vwCl [(ql, .inr (3, [.int (nI ln), .long (lN hm), .ref ql1, .ref ql2, .ref ql3])), (ql1, .inl (cyJ, 535, .inr (.inl (vp_updL (va_cpy mI mI p0 (p0 + 1) (ln - p0)) p0 (lN x))))), (ql2, .inl (cyI, 535, .inl (upd (va_cpy fI fI p0 (p0 + 1) (ln - p0)) p0 (nI f)))), (ql3, .inl (cyI, 535, .inl (va_cpy gI gI p0 (p0 + 1) (ln - p0))))] H := hP
    have hD : va_D A [(ql, .inr (3, [.int (nI ln), .long (lN hm), .ref ql1, .ref ql2, .ref ql3])), (ql1, .inl (cyJ, 535, .inr (.inl (vp_updL (va_cpy mI mI p0 (p0 + 1) (ln - p0)) p0 (lN x))))), (ql2, .inl (cyI, 535, .inl (upd (va_cpy fI fI p0 (p0 + 1) (ln - p0)) p0 (nI f)))), (ql3, .inl (cyI, 535, .inl (va_cpy gI gI p0 (p0 + 1) (ln - p0))))] := hD
    refine lv_aload_n hx hb dX3_insert_106 rfl (lv_at hl 1 rfl) ?_
    refine va_get (D := dd) (ci := 3) (C := RX3) (T := TX3) (N := 5) (v := .ref ql3) hx hb hts hiX3 hown hK hP 0 rfl rfl 4 (by decide) (hts (.fieldLink RX3 27 "SliceDrift$SliceList" "seconds" "[I") (by decide +kernel)) (fun _ h9 => h9) rfl dX3_insert_107 ?_
    refine lv_iload hx hb dX3_insert_110 (lv_at hl 0 rfl) ?_
    refine lv_iload hx hb dX3_insert_112 (lv_at hl 4 rfl) ?_
    refine va_iast hx hb hK hP hD hS 3 0 rfl rfl (i := nI p0) (vp_in_nI (show p0 < 535 from (by omega)) (by decide)) dX3_insert_114 (fun H locs hP hD hS => ?_)
    rw [nI_clamp (show p0 < 2 ^ 31 from Nat.lt_trans (show p0 < 535 from (by omega)) (by decide))] at hP hD
    have hP : va_P dd vwCl [(ql, .inr (3, [.int (nI ln), .long (lN hm), .ref ql1, .ref ql2, .ref ql3])), (ql1, .inl (cyJ, 535, .inr (.inl (vp_updL (va_cpy mI mI p0 (p0 + 1) (ln - p0)) p0 (lN x))))), (ql2, .inl (cyI, 535, .inl (upd (va_cpy fI fI p0 (p0 + 1) (ln - p0)) p0 (nI f)))), (ql3, .inl (cyI, 535, .inl (upd (va_cpy gI gI p0 (p0 + 1) (ln - p0)) p0 (sI2 g))))] H := hP
    have hD : va_D A [(ql, .inr (3, [.int (nI ln), .long (lN hm), .ref ql1, .ref ql2, .ref ql3])), (ql1, .inl (cyJ, 535, .inr (.inl (vp_updL (va_cpy mI mI p0 (p0 + 1) (ln - p0)) p0 (lN x))))), (ql2, .inl (cyI, 535, .inl (upd (va_cpy fI fI p0 (p0 + 1) (ln - p0)) p0 (nI f)))), (ql3, .inl (cyI, 535, .inl (upd (va_cpy gI gI p0 (p0 + 1) (ln - p0)) p0 (sI2 g))))] := hD
    refine lv_aload_n hx hb dX3_insert_115 rfl (lv_at hl 1 rfl) ?_
    refine lv_dup hx hb dX3_insert_116 rfl ?_
    refine va_get (D := dd) (ci := 3) (C := RX3) (T := TX3) (N := 5) (v := .int (nI ln)) hx hb hts hiX3 hown hK hP 0 rfl rfl 0 (by decide) (hts (.fieldLink RX3 9 "SliceDrift$SliceList" "size" "I") (by decide +kernel)) (fun _ h9 => h9) rfl dX3_insert_117 ?_
    refine lv_iconst (v := 1) hx hb dX3_insert_120 (by decide) ?_
    refine lv_iadd hx hb dX3_insert_121 ?_
    refine tpi (show ((nI ln) + 1 : Int32) = nI (ln + 1) from nI_1 ln) ?_
    refine va_put (D := dd) (ci := 3) (v := .int (nI (ln + 1))) (ty := .int) (C := RX3) (T := TX3) (N := 5) hx hb hts hiX3 tyX3 tyX3_ok nmX3 hown hK hP hD hS 0 rfl rfl 0 (by decide) (hts (.fieldLink RX3 9 "SliceDrift$SliceList" "size" "I") (by decide +kernel)) (fun _ h9 => h9) rfl (by decide +kernel) rfl rfl (Nat.le_of_ble_eq_true rfl) dX3_insert_122 (fun H locs hP hD hS => ?_)
    have hP : va_P dd vwCl [(ql, .inr (3, [.int (nI (ln + 1)), .long (lN hm), .ref ql1, .ref ql2, .ref ql3])), (ql1, .inl (cyJ, 535, .inr (.inl (vp_updL (va_cpy mI mI p0 (p0 + 1) (ln - p0)) p0 (lN x))))), (ql2, .inl (cyI, 535, .inl (upd (va_cpy fI fI p0 (p0 + 1) (ln - p0)) p0 (nI f)))), (ql3, .inl (cyI, 535, .inl (upd (va_cpy gI gI p0 (p0 + 1) (ln - p0)) p0 (sI2 g))))] H := hP
    have hD : va_D A [(ql, .inr (3, [.int (nI (ln + 1)), .long (lN hm), .ref ql1, .ref ql2, .ref ql3])), (ql1, .inl (cyJ, 535, .inr (.inl (vp_updL (va_cpy mI mI p0 (p0 + 1) (ln - p0)) p0 (lN x))))), (ql2, .inl (cyI, 535, .inl (upd (va_cpy fI fI p0 (p0 + 1) (ln - p0)) p0 (nI f)))), (ql3, .inl (cyI, 535, .inl (upd (va_cpy gI gI p0 (p0 + 1) (ln - p0)) p0 (sI2 g))))] := hD
    exact ewV (_, _, _) hx hb hr hlocks hAe hS dX3_insert_125 (⟨fun j hj => ⟨⟨cpy_ins (h := fun y => lN y.1) hp1 (fun j hj => (hE j hj).1.1) rfl (fun j => rfl) j hj, ins48 hp1 (fun j hj => (hE j hj).1.2) hx0 j hj⟩, cpy_ins (h := fun y => nI y.2.1) hp1 (fun j hj => (hE j hj).2.1) rfl (fun j => rfl) j hj, cpy_ins (h := fun y => sI2 y.2.2) hp1 (fun j hj => (hE j hj).2.2) rfl (fun j => rfl) j hj⟩, hp⟩) (hP.sub [0, 1, 2, 3] rfl) (hD.sub [0, 1, 2, 3] (by decide) rfl)
  · exact absurd (nI_lt (b := 535) hln (by decide)) q
