/-- the sorts behind a new row -/
def nrow (sI : Nat → Int32) (n : Nat) : Nat → Int32 := fun j => if 5 * n ≤ j ∧ j < 5 * n + 5 then nI 10 else sI j
/-- the sets, with row n in the first c columns' last ones -/
def adh (hv : Nat → Int64) (n c : Nat) : Nat → Int64 := fun j => if j % 11 = 10 ∧ j / 11 < c then hv j ||| lN (2 ^ n) else hv j
theorem adh_0 (hv : Nat → Int64) (n : Nat) : adh hv n 0 = hv := by
  funext j
  simp [adh]
theorem adh_s (hv : Nat → Int64) (n c : Nat) : vp_updL (adh hv n c) (c * 11 + 10) (adh hv n c (c * 11 + 10) ||| lN (2 ^ n)) = adh hv n (c + 1) := by
  funext j
  by_cases h : j = c * 11 + 10
  · subst h
    rw [pk_uLs]
    unfold adh
    rw [if_neg (by omega), if_pos (by omega)]
  · rw [pk_uLn h]
    unfold adh
    by_cases q : j % 11 = 10 ∧ j / 11 < c
    · rw [if_pos q, if_pos (by omega)]
    · rw [if_neg q, if_neg (by omega)]
theorem nI_ne {a b : Nat} (ha : a < 2 ^ 31) (hb : b < 2 ^ 31) (h : a ≠ b) : ¬ nI a = nI b := fun q => h ((nI_eq ha hb).mp q)
theorem hav_old {sI : Nat → Int32} {n co k i : Nat} (hi : i < n) (hco : co < 5) : hav (nrow sI n) co k i = hav sI co k i := by
  unfold hav nrow
  rw [if_neg (by omega)]
theorem hav_new {sI : Nat → Int32} {n co k : Nat} (hco : co < 5) : hav (nrow sI n) co k n = decide (nI 10 = nI k) := by
  unfold hav nrow
  rw [if_pos (by omega)]
theorem hit_old {hI : Nat → Int32} {n i : Nat} {z : Int32} (hi : i < n) : hit (upd hI n z) i = hit hI i := by
  unfold hit
  rw [pk_un (by omega)]
theorem hit_new {hI : Nat → Int32} {n : Nat} {z : Int32} : hit (upd hI n z) n = decide (¬ z = 0) := by
  unfold hit
  rw [pk_us]
theorem add_ok {n : Nat} {hI sI : Nat → Int32} {hi : Int64} {hv : Nat → Int64} (h : RowsOk n hI sI hi hv) (hn : n < 48) {z : Int32} (hz : z = 0 ∨ z = 1) : RowsOk (n + 1) (upd hI n z) (nrow sI n) (lN (mk (hit (upd hI n z)) (n + 1))) (adh hv n 5) := by
  obtain ⟨h0, h1, h2, h3, h4⟩ := h
  refine ⟨by omega, rfl, fun co hco k hk => ?_, fun i hi co hco => ?_, fun i hi => ?_⟩
  · have e : mk (hav sI co k) n = mk (hav (nrow sI n) co k) n := mk_congr (fun i hi => (hav_old hi hco).symm)
    by_cases hk10 : k = 10
    · subst hk10
      unfold adh
      rw [if_pos (by omega), h2 co hco 10 hk, e]
      exact lor_top hn (by rw [hav_new hco]; exact decide_eq_true rfl)
    · unfold adh
      rw [if_neg (by omega), h2 co hco k hk, e, mk_skip]
      rw [hav_new hco]
      exact decide_eq_false (nI_ne (by decide) (by omega) (Ne.symm hk10))
  · by_cases hin : i = n
    · subst hin
      exact ⟨10, by decide, by unfold nrow; rw [if_pos (by omega)]⟩
    · obtain ⟨k, hk, e⟩ := h3 i (by omega) co hco
      exact ⟨k, hk, by unfold nrow; rw [if_neg (by omega)]; exact e⟩
  · by_cases hin : i = n
    · subst hin
      rw [pk_us]
      exact hz
    · rw [pk_un hin]
      exact h4 i (by omega)
theorem hits0 {hI : Nat → Int32} {n : Nat} {z : Int32} (hz : z = 0) : lN (mk (hit hI) n) = lN (mk (hit (upd hI n z)) (n + 1)) := by
  rw [mk_skip (by rw [hit_new]; simp [hz]), mk_congr (fun i hi => hit_old (z := z) hi)]
theorem hits1 {hI : Nat → Int32} {n : Nat} {z : Int32} (hn : n < 48) (hz : ¬ z = 0) : lN (mk (hit hI) n) ||| lN (2 ^ n) = lN (mk (hit (upd hI n z)) (n + 1)) := by
  rw [mk_congr (fun i hi => (hit_old (z := z) hi).symm)]
  exact lor_top hn (by rw [hit_new]; simp [hz])

set_option maxHeartbeats 4000000 in
set_option maxRecDepth 100000 in
theorem c_Rows_add (l : Launch) (dd : va_G) (cyI cyJ cyZ : ClassId) (qr qt qh n : Nat) (hi : Int64) (tI : Nat → Int32) (hv : Nat → Int64) (hI sI : Nat → Int32) (hR : RowsOk n hI sI hi hv) (hlt : n < 48) (t0 z : Int32) (hz : z = 0 ∨ z = 1) (sz : Nat) : Met l yX2_add wsX2_add ({ frames := 1, cells := 0, slots := 0, locals := 21 } : Room) (va_Pc [.ref qr, .int t0, .int z] (Wr dd [(cyI, .int), (cyJ, .long), (cyZ, .boolean)] [(qr, .inr (2, [.int (nI n), .long hi, .ref qt, .ref qh])), (qt, .inl (cyI, 48, .inl tI)), (qh, .inl (cyJ, 55, .inr (.inl hv)))] sz)) (va_Qi (S := Int64 × (Nat → Int64)) (fun (r : Int32) (u : Int64 × (Nat → Int64)) => r = nI n ∧ RowsOk (n + 1) (upd hI n z) (nrow sI n) u.1 u.2) (WQ dd [(qr, .inr (2, [.int (nI n), .long hi, .ref qt, .ref qh])), (qt, .inl (cyI, 48, .inl tI)), (qh, .inl (cyJ, 55, .inr (.inl hv)))] sz (fun u => [(qr, .inr (2, [.int (nI (n + 1)), .long u.1, .ref qt, .ref qh])), (qt, .inl (cyI, 48, .inl (upd tI n t0))), (qh, .inl (cyJ, 55, .inr (.inl u.2)))])) (va_A [(qr, .inr (2, [.int (nI n), .long hi, .ref qt, .ref qh])), (qt, .inl (cyI, 48, .inl tI)), (qh, .inl (cyJ, 55, .inr (.inl hv)))] sz)) 0 0 (va_A [(qr, .inr (2, [.int (nI n), .long hi, .ref qt, .ref qh])), (qt, .inl (cyI, 48, .inl tI)), (qh, .inl (cyJ, 55, .inr (.inl hv)))] sz) := by
  refine mkW (Qc := fun A => (va_Qi (S := Int64 × (Nat → Int64)) (fun (r : Int32) (u : Int64 × (Nat → Int64)) => r = nI n ∧ RowsOk (n + 1) (upd hI n z) (nrow sI n) u.1 u.2) (WQ dd [(qr, .inr (2, [.int (nI n), .long hi, .ref qt, .ref qh])), (qt, .inl (cyI, 48, .inl tI)), (qh, .inl (cyJ, 55, .inr (.inl hv)))] sz (fun u => [(qr, .inr (2, [.int (nI (n + 1)), .long u.1, .ref qt, .ref qh])), (qt, .inl (cyI, 48, .inl (upd tI n t0))), (qh, .inl (cyJ, 55, .inr (.inl u.2)))])) A)) (cc := cX2_add) (maxL := 5) (by decide) rfl (Nat.le_of_ble_eq_true rfl) (lv0 := [(0, .ref qr), (1, .int t0), (2, .int z)]) rfl ?_
  intro p e s m below meth c ls H A hx hb hr hml hown hlocks hts hmn hN hP hK hD hS hA hAe hl
  have hown : s.vm.findClass RX2 = some m.cls := hown
  have hiX2 : ∀ w ∈ wsX20, w ∈ wsX2_add := by decide +kernel
  have loop : ∀ (k : Nat) (c9 : Nat) (hh : Int64) (H : Heap) (locs : List Loc), c9 + k = 5 → hh = lN (mk (hit (upd hI n z)) (n + 1)) → va_P dd vwCl [(qr, .inr (2, [.int (nI n), .long hh, .ref qt, .ref qh])), (qt, .inl (cyI, 48, .inl (upd tI n t0))), (qh, .inl (cyJ, 55, .inr (.inl (adh hv n c9))))] H → va_D A [(qr, .inr (2, [.int (nI n), .long hh, .ref qt, .ref qh])), (qt, .inl (cyI, 48, .inl (upd tI n t0))), (qh, .inl (cyJ, 55, .inr (.inl (adh hv n c9))))] → va_S A s.heap H locs → ∀ ls : Array Slot, lv_has ls 5 [(4, .int (nI c9)), (3, .int (nI n)), (0, .ref qr)] → W p l e ({ frames := 1, cells := 0, slots := 0, locals := 21 } : Room) s m ([.ref qr, .int t0, .int z] : List Value).toArray below meth c H locs 0 0 (MQ below (va_Qi (S := Int64 × (Nat → Int64)) (fun (r : Int32) (u : Int64 × (Nat → Int64)) => r = nI n ∧ RowsOk (n + 1) (upd hI n z) (nrow sI n) u.1 u.2) (WQ dd [(qr, .inr (2, [.int (nI n), .long hi, .ref qt, .ref qh])), (qt, .inl (cyI, 48, .inl tI)), (qh, .inl (cyJ, 55, .inr (.inl hv)))] sz (fun u => [(qr, .inr (2, [.int (nI (n + 1)), .long u.1, .ref qt, .ref qh])), (qt, .inl (cyI, 48, .inl (upd tI n t0))), (qh, .inl (cyJ, 55, .inr (.inl u.2)))])) A) ([.ref qr, .int t0, .int z] : List Value).toArray s 0 0 A) (F0 m 31 ls []) := by
    intro k
    induction k with
    | zero =>
      intro c9 hh H locs hc9 hh9 hP hD hS ls hl
      refine lv_iload hx hb dX2_add_31 (lv_at hl 0 rfl) ?_
      refine lv_iconst (v := 5) hx hb dX2_add_33 (by decide) ?_
      refine lv_icmp_ge (tgt := 61) hx hb dX2_add_34 (by decide) (fun q => ?_) (fun q => ?_)
      · refine lv_aload_n hx hb dX2_add_61 rfl (lv_at hl 2 rfl) ?_
        refine lv_dup hx hb dX2_add_62 rfl ?_
        refine va_get (D := dd) (ci := 2) (C := RX2) (T := TX2) (N := 4) (v := .int (nI n)) hx hb hts hiX2 hown hK hP 0 rfl rfl 0 (by decide) (hts (.fieldLink RX2 9 "SliceDrift$Rows" "size" "I") (by decide +kernel)) (fun _ h9 => h9) rfl dX2_add_63 ?_
        refine lv_iconst (v := 1) hx hb dX2_add_66 (by decide) ?_
        refine lv_iadd hx hb dX2_add_67 ?_
        refine tpi (show ((nI n) + 1 : Int32) = nI (n + 1) from nI_1 n) ?_
        refine va_put (D := dd) (ci := 2) (v := .int (nI (n + 1))) (ty := .int) (C := RX2) (T := TX2) (N := 4) hx hb hts hiX2 tyX2 tyX2_ok nmX2 hown hK hP hD hS 0 rfl rfl 0 (by decide) (hts (.fieldLink RX2 9 "SliceDrift$Rows" "size" "I") (by decide +kernel)) (fun _ h9 => h9) rfl (by decide +kernel) rfl rfl (Nat.le_of_ble_eq_true rfl) dX2_add_68 (fun H locs hP hD hS => ?_)
        have hP : va_P dd vwCl [(qr, .inr (2, [.int (nI (n + 1)), .long hh, .ref qt, .ref qh])), (qt, .inl (cyI, 48, .inl (upd tI n t0))), (qh, .inl (cyJ, 55, .inr (.inl (adh hv n c9))))] H := hP
        have hD : va_D A [(qr, .inr (2, [.int (nI (n + 1)), .long hh, .ref qt, .ref qh])), (qt, .inl (cyI, 48, .inl (upd tI n t0))), (qh, .inl (cyJ, 55, .inr (.inl (adh hv n c9))))] := hD
        refine lv_iload_n hx hb dX2_add_71 rfl (lv_at hl 1 rfl) ?_
        subst hh9
        exact ewI (lN (mk (hit (upd hI n z)) (n + 1)), adh hv n c9) hx hb hr hlocks hAe hS dX2_add_72 (⟨rfl, by rw [show c9 = 5 by omega]; exact add_ok hR hlt hz⟩) (hP.sub [0, 1, 2] rfl) (hD.sub [0, 1, 2] (by decide) rfl)
      · exact absurd (nI_le (show 5 ≤ c9 by omega) (by omega)) q
    | succ k ih =>
      intro c9 hh H locs hc9 hh9 hP hD hS ls hl
      refine lv_iload hx hb dX2_add_31 (lv_at hl 0 rfl) ?_
      refine lv_iconst (v := 5) hx hb dX2_add_33 (by decide) ?_
      refine lv_icmp_ge (tgt := 61) hx hb dX2_add_34 (by decide) (fun q => ?_) (fun q => ?_)
      · exact absurd q (nI_ge (show c9 < 5 by omega) (by decide))
      · refine lv_aload_n hx hb dX2_add_37 rfl (lv_at hl 2 rfl) ?_
        refine va_get (D := dd) (ci := 2) (C := RX2) (T := TX2) (N := 4) (v := .ref qh) hx hb hts hiX2 hown hK hP 0 rfl rfl 3 (by decide) (hts (.fieldLink RX2 23 "SliceDrift$Rows" "having" "[J") (by decide +kernel)) (fun _ h9 => h9) rfl dX2_add_38 ?_
        refine lv_iload hx hb dX2_add_41 (lv_at hl 0 rfl) ?_
        refine lv_bipush (v := 10) hx hb dX2_add_43 (by decide) ?_
        refine clNi (As := [.int (nI c9), .int 10]) (rest := [.ref qh]) ⟨hx, hb, hml, hown, hts⟩ (c_conditionOf l dd cyI cyJ cyZ (nI c9) 10) gX2_add_X4_conditionOf_n31 (hN.m 7 rfl) (hts (.initialized RX4) (by decide +kernel)) (hts (.static yX4_conditionOf) (by decide +kernel)) (n := 2) rfl ⟨rfl, rfl⟩ (by decide +kernel) ⟨Nat.le_of_ble_eq_true rfl, Nat.le_of_ble_eq_true rfl⟩ hN hK (hP.sub [] rfl) rfl hl.1 rfl (Nat.le_of_ble_eq_true rfl) dX2_add_45 ⟨Nat.le_of_ble_eq_true rfl, Nat.le_of_ble_eq_true rfl⟩ (fun r1 h1 => ?_)
        subst h1
        refine tpi (show (nI c9 * 11 + 10 : Int32) = nI (c9 * 11 + 10) from by rw [show (11 : Int32) = nI 11 from rfl, show (10 : Int32) = nI 10 from rfl, pk_mul, nI_add]) ?_
        refine lv_dup2_11 hx hb dX2_add_48 rfl rfl ?_
        refine va_lald hx hb hK hP 2 1 rfl rfl (i := nI (c9 * 11 + 10)) (vp_in_nI (show (c9 * 11 + 10) < 55 from (by omega)) (by decide)) dX2_add_49 ?_
        rw [nI_clamp (show (c9 * 11 + 10) < 2 ^ 31 from Nat.lt_trans (show (c9 * 11 + 10) < 55 from (by omega)) (by decide))]
        refine lv_lconst (v := 1) hx hb dX2_add_50 (by decide) ?_
        refine lv_iload_n hx hb dX2_add_51 rfl (lv_at hl 1 rfl) ?_
        refine lv_lshl hx hb dX2_add_52 rfl ?_
        refine tpl (show (1 <<< ((nI n).toInt64 &&& 63) : Int64) = lN (2 ^ n) from shl1 (by omega)) ?_
        refine lv_lor hx hb dX2_add_53 ?_
        refine va_last hx hb hK hP hD hS 2 1 rfl rfl (i := nI (c9 * 11 + 10)) (vp_in_nI (show (c9 * 11 + 10) < 55 from (by omega)) (by decide)) dX2_add_54 (fun H locs hP hD hS => ?_)
        rw [nI_clamp (show (c9 * 11 + 10) < 2 ^ 31 from Nat.lt_trans (show (c9 * 11 + 10) < 55 from (by omega)) (by decide))] at hP hD
        have hP : va_P dd vwCl [(qr, .inr (2, [.int (nI n), .long hh, .ref qt, .ref qh])), (qt, .inl (cyI, 48, .inl (upd tI n t0))), (qh, .inl (cyJ, 55, .inr (.inl (vp_updL (adh hv n c9) (c9 * 11 + 10) (((adh hv n c9) (c9 * 11 + 10)) ||| (lN (2 ^ n)))))))] H := hP
        have hD : va_D A [(qr, .inr (2, [.int (nI n), .long hh, .ref qt, .ref qh])), (qt, .inl (cyI, 48, .inl (upd tI n t0))), (qh, .inl (cyJ, 55, .inr (.inl (vp_updL (adh hv n c9) (c9 * 11 + 10) (((adh hv n c9) (c9 * 11 + 10)) ||| (lN (2 ^ n)))))))] := hD
        rw [adh_s] at hP hD
        refine lv_iinc (v := nI (c9 + 1)) (lv' := [(4, .int (nI (c9 + 1))), (3, .int (nI n)), (0, .ref qr)]) hx hb dX2_add_55 hl (k := 0) rfl (nI_1 c9) (by decide) rfl (fun ls hl => ?_)
        refine lv_goto (tgt := 31) hx hb dX2_add_58 (by decide) ?_
        exact ih (c9 + 1) hh H locs (by omega) hh9 hP hD hS ls (lv_sub hl [0, 1, 2] rfl)
  refine lv_aload_n hx hb dX2_add_0 rfl (lv_at hl 0 rfl) ?_
  refine va_get (D := dd) (ci := 2) (C := RX2) (T := TX2) (N := 4) (v := .int (nI n)) hx hb hts hiX2 hown hK hP 0 rfl rfl 0 (by decide) (hts (.fieldLink RX2 9 "SliceDrift$Rows" "size" "I") (by decide +kernel)) (fun _ h9 => h9) rfl dX2_add_1 ?_
  refine lv_istore_n (lv' := [(3, .int (nI n)), (0, .ref qr), (1, .int t0), (2, .int z)]) hx hb dX2_add_4 rfl hl (by decide) rfl (fun ls hl => ?_)
  refine lv_aload_n hx hb dX2_add_5 rfl (lv_at hl 1 rfl) ?_
  refine va_get (D := dd) (ci := 2) (C := RX2) (T := TX2) (N := 4) (v := .ref qt) hx hb hts hiX2 hown hK hP 0 rfl rfl 2 (by decide) (hts (.fieldLink RX2 19 "SliceDrift$Rows" "times" "[I") (by decide +kernel)) (fun _ h9 => h9) rfl dX2_add_6 ?_
  refine lv_iload_n hx hb dX2_add_9 rfl (lv_at hl 0 rfl) ?_
  refine lv_iload_n hx hb dX2_add_10 rfl (lv_at hl 2 rfl) ?_
  refine va_iast hx hb hK hP hD hS 1 0 rfl rfl (i := nI n) (vp_in_nI (show n < 48 from hlt) (by decide)) dX2_add_11 (fun H locs hP hD hS => ?_)
  rw [nI_clamp (show n < 2 ^ 31 from Nat.lt_trans (show n < 48 from hlt) (by decide))] at hP hD
  have hP : va_P dd vwCl [(qr, .inr (2, [.int (nI n), .long hi, .ref qt, .ref qh])), (qt, .inl (cyI, 48, .inl (upd tI n t0))), (qh, .inl (cyJ, 55, .inr (.inl hv)))] H := hP
  have hD : va_D A [(qr, .inr (2, [.int (nI n), .long hi, .ref qt, .ref qh])), (qt, .inl (cyI, 48, .inl (upd tI n t0))), (qh, .inl (cyJ, 55, .inr (.inl hv)))] := hD
  refine lv_iload_n hx hb dX2_add_12 rfl (lv_at hl 3 rfl) ?_
  have hi9 := hR.2.1
  refine lv_if_eq (tgt := 28) hx hb dX2_add_13 (by decide) (fun q => ?_) (fun q => ?_)
  · refine lv_iconst (v := 0) hx hb dX2_add_28 (by decide) ?_
    refine lv_istore (lv' := [(4, .int 0), (3, .int (nI n)), (0, .ref qr), (1, .int t0), (2, .int z)]) hx hb dX2_add_29 hl (by decide) rfl (fun ls hl => ?_)
    exact loop 5 0 hi H _ rfl (hi9.trans (hits0 q)) (by rw [adh_0]; exact hP) (by rw [adh_0]; exact hD) hS ls (lv_sub hl [0, 1, 2] rfl)
  · refine lv_aload_n hx hb dX2_add_16 rfl (lv_at hl 1 rfl) ?_
    refine lv_dup hx hb dX2_add_17 rfl ?_
    refine va_get (D := dd) (ci := 2) (C := RX2) (T := TX2) (N := 4) (v := .long hi) hx hb hts hiX2 hown hK hP 0 rfl rfl 1 (by decide) (hts (.fieldLink RX2 15 "SliceDrift$Rows" "hits" "J") (by decide +kernel)) (fun _ h9 => h9) rfl dX2_add_18 ?_
    refine lv_lconst (v := 1) hx hb dX2_add_21 (by decide) ?_
    refine lv_iload_n hx hb dX2_add_22 rfl (lv_at hl 0 rfl) ?_
    refine lv_lshl hx hb dX2_add_23 rfl ?_
    refine tpl (show (1 <<< ((nI n).toInt64 &&& 63) : Int64) = lN (2 ^ n) from shl1 (by omega)) ?_
    refine lv_lor hx hb dX2_add_24 ?_
    refine va_put (D := dd) (ci := 2) (v := .long (hi ||| (lN (2 ^ n)))) (ty := .long) (C := RX2) (T := TX2) (N := 4) hx hb hts hiX2 tyX2 tyX2_ok nmX2 hown hK hP hD hS 0 rfl rfl 1 (by decide) (hts (.fieldLink RX2 15 "SliceDrift$Rows" "hits" "J") (by decide +kernel)) (fun _ h9 => h9) rfl (by decide +kernel) rfl rfl (Nat.le_of_ble_eq_true rfl) dX2_add_25 (fun H locs hP hD hS => ?_)
    have hP : va_P dd vwCl [(qr, .inr (2, [.int (nI n), .long (hi ||| (lN (2 ^ n))), .ref qt, .ref qh])), (qt, .inl (cyI, 48, .inl (upd tI n t0))), (qh, .inl (cyJ, 55, .inr (.inl hv)))] H := hP
    have hD : va_D A [(qr, .inr (2, [.int (nI n), .long (hi ||| (lN (2 ^ n))), .ref qt, .ref qh])), (qt, .inl (cyI, 48, .inl (upd tI n t0))), (qh, .inl (cyJ, 55, .inr (.inl hv)))] := hD
    refine lv_iconst (v := 0) hx hb dX2_add_28 (by decide) ?_
    refine lv_istore (lv' := [(4, .int 0), (3, .int (nI n)), (0, .ref qr), (1, .int t0), (2, .int z)]) hx hb dX2_add_29 hl (by decide) rfl (fun ls hl => ?_)
    exact loop 5 0 (hi ||| lN (2 ^ n)) H _ rfl (by rw [hi9]; exact hits1 hlt q) (by rw [adh_0]; exact hP) (by rw [adh_0]; exact hD) hS ls (lv_sub hl [0, 1, 2] rfl)

theorem lgb {a j : Nat} (hj : j < 64) : (lN a).toBitVec.getLsbD j = a.testBit j := by
  rw [wb_tb, BitVec.getLsbD_ofNat]
  simp [hj]
theorem lclr {f : Nat → Bool} {n i : Nat} (hn : n ≤ 48) : lN (mk f n) &&& (lN (2 ^ i) ^^^ (-1)) = lN (mk (fun r => f r && !decide (r = i)) n) := by
  apply wb_inj
  apply BitVec.eq_of_getLsbD_eq
  intro j hj
  rw [Int64.toBitVec_and, Int64.toBitVec_xor, BitVec.getLsbD_and, BitVec.getLsbD_xor, lgb hj, lgb hj, lgb hj, mk_bit, mk_bit, Nat.testBit_two_pow, show (-1 : Int64).toBitVec = BitVec.allOnes 64 from by decide, BitVec.getLsbD_allOnes]
  by_cases h : j = i
  · subst h; simp [hj]
  · simp [h, Ne.symm h, hj]
theorem lset {f : Nat → Bool} {n i : Nat} (hn : n ≤ 48) (hi : i < n) : lN (mk f n) ||| lN (2 ^ i) = lN (mk (fun r => f r || decide (r = i)) n) := by
  rw [wb_or (mk64 f hn) (p63 (by omega)), mk_put f n i hi]
theorem hav_ne {sI : Nat → Int32} {co k i r c2 k2 : Nat} (hco : co < 5) (hc2 : c2 < 5) (h : ¬ (r = i ∧ c2 = co)) : hav (upd sI (5 * i + co) (nI k)) c2 k2 r = hav sI c2 k2 r := by
  unfold hav
  rw [pk_un (by omega)]
theorem hav_eq {sI : Nat → Int32} {co k i k2 : Nat} : hav (upd sI (5 * i + co) (nI k)) co k2 i = decide (nI k = nI k2) := by
  unfold hav
  rw [pk_us]
theorem chg_ok {n : Nat} {hI sI : Nat → Int32} {hi : Int64} {hv : Nat → Int64} (h : RowsOk n hI sI hi hv) {i co k k0 : Nat} (hin : i < n) (hco : co < 5) (hk : k < 11) (hk0 : k0 < 11) (e0 : sI (5 * i + co) = nI k0) {hv1 : Nat → Int64} (e1 : hv1 = vp_updL hv (co * 11 + k0) (hv (co * 11 + k0) &&& (lN (2 ^ i) ^^^ (-1)))) :
    RowsOk n hI (upd sI (5 * i + co) (nI k)) hi (vp_updL hv1 (co * 11 + k) (hv1 (co * 11 + k) ||| lN (2 ^ i))) := by
  obtain ⟨h0, h1, h2, h3, h4⟩ := h
  have d0 : ∀ r, hav sI co k0 r = hav sI co k0 r := fun _ => rfl
  refine ⟨h0, h1, fun c2 hc2 k2 hk2 => ?_, fun r hr c2 hc2 => ?_, h4⟩
  · by_cases q : c2 * 11 + k2 = co * 11 + k
    · have qa : c2 = co := by omega
      have qb : k2 = k := by omega
      subst qa qb
      rw [pk_uLs, e1]
      by_cases q0 : k2 = k0
      · subst q0
        rw [pk_uLs, h2 c2 hc2 k2 hk2, lclr h0, lset h0 hin]
        congr 1
        apply mk_congr
        intro r hr
        by_cases hri : r = i
        · subst hri
          rw [hav_eq]
          simp
        · rw [hav_ne hc2 hc2 (fun z => hri z.1)]
          simp [hri]
      · rw [pk_uLn (by omega), h2 c2 hc2 k2 hk2, lset h0 hin]
        congr 1
        apply mk_congr
        intro r hr
        by_cases hri : r = i
        · subst hri
          rw [hav_eq]
          simp
        · rw [hav_ne hc2 hc2 (fun z => hri z.1)]
          simp [hri]
    · rw [pk_uLn q, e1]
      by_cases q0 : c2 * 11 + k2 = co * 11 + k0
      · have qa : c2 = co := by omega
        have qb : k2 = k0 := by omega
        subst qa qb
        rw [pk_uLs, h2 c2 hc2 k2 hk2, lclr h0]
        congr 1
        apply mk_congr
        intro r hr
        by_cases hri : r = i
        · subst hri
          rw [hav_eq, decide_eq_false (nI_ne (by omega) (by omega) (by omega))]
          simp
        · rw [hav_ne hc2 hc2 (fun z => hri z.1)]
          simp [hri]
      · rw [pk_uLn q0, h2 c2 hc2 k2 hk2]
        congr 1
        apply mk_congr
        intro r hr
        by_cases hri : r = i ∧ c2 = co
        · obtain ⟨rfl, rfl⟩ := hri
          rw [hav_eq, decide_eq_false (nI_ne (by omega) (by omega) (by omega))]
          unfold hav
          rw [e0]
          exact decide_eq_false (nI_ne (by omega) (by omega) (by omega))
        · rw [hav_ne hco hc2 hri]
  · by_cases hri : r = i ∧ c2 = co
    · obtain ⟨rfl, rfl⟩ := hri
      exact ⟨k, hk, pk_us⟩
    · rw [pk_un (by omega)]
      exact h3 r hr c2 hc2

set_option maxHeartbeats 4000000 in
set_option maxRecDepth 100000 in
theorem c_change (l : Launch) (dd : va_G) (cyI cyJ cyZ : ClassId) (qr qt qh n : Nat) (hi : Int64) (tI : Nat → Int32) (hv : Nat → Int64) (hI sI : Nat → Int32) (hR : RowsOk n hI sI hi hv) (i co k : Nat) (hin : i < n) (hco : co < 5) (hk : k < 11) (sz : Nat) : Met l yX2_change wsX2_change ({ frames := 3, cells := 0, slots := 0, locals := 66 } : Room) (va_Pc [.ref qr, .int (nI i), .int (nI co), .int (nI k)] (Wr dd [(cyI, .int), (cyJ, .long), (cyZ, .boolean)] [(qr, .inr (2, [.int (nI n), .long hi, .ref qt, .ref qh])), (qt, .inl (cyI, 48, .inl tI)), (qh, .inl (cyJ, 55, .inr (.inl hv)))] sz)) (va_Qi (S := (Nat → Int64)) (fun (r : Int32) (u : Nat → Int64) => r = sI (5 * i + co) ∧ RowsOk n hI (upd sI (5 * i + co) (nI k)) hi u) (WQ dd [(qr, .inr (2, [.int (nI n), .long hi, .ref qt, .ref qh])), (qt, .inl (cyI, 48, .inl tI)), (qh, .inl (cyJ, 55, .inr (.inl hv)))] sz (fun u => [(qr, .inr (2, [.int (nI n), .long hi, .ref qt, .ref qh])), (qt, .inl (cyI, 48, .inl tI)), (qh, .inl (cyJ, 55, .inr (.inl u)))])) (va_A [(qr, .inr (2, [.int (nI n), .long hi, .ref qt, .ref qh])), (qt, .inl (cyI, 48, .inl tI)), (qh, .inl (cyJ, 55, .inr (.inl hv)))] sz)) 0 0 (va_A [(qr, .inr (2, [.int (nI n), .long hi, .ref qt, .ref qh])), (qt, .inl (cyI, 48, .inl tI)), (qh, .inl (cyJ, 55, .inr (.inl hv)))] sz) := by
  refine mkW (Qc := fun A => (va_Qi (S := (Nat → Int64)) (fun (r : Int32) (u : Nat → Int64) => r = sI (5 * i + co) ∧ RowsOk n hI (upd sI (5 * i + co) (nI k)) hi u) (WQ dd [(qr, .inr (2, [.int (nI n), .long hi, .ref qt, .ref qh])), (qt, .inl (cyI, 48, .inl tI)), (qh, .inl (cyJ, 55, .inr (.inl hv)))] sz (fun u => [(qr, .inr (2, [.int (nI n), .long hi, .ref qt, .ref qh])), (qt, .inl (cyI, 48, .inl tI)), (qh, .inl (cyJ, 55, .inr (.inl u)))])) A)) (cc := cX2_change) (maxL := 5) (by decide) rfl (Nat.le_of_ble_eq_true rfl) (lv0 := [(0, .ref qr), (1, .int (nI i)), (2, .int (nI co)), (3, .int (nI k))]) rfl ?_
  intro p e s m below meth c ls H A hx hb hr hml hown hlocks hts hmn hN hP hK hD hS hA hAe hl
  have hown : s.vm.findClass RX2 = some m.cls := hown
  have hiX2 : ∀ w ∈ wsX20, w ∈ wsX2_change := by decide +kernel
  have hn := hR.1
  obtain ⟨k0, hk0, e0⟩ := hR.2.2.2.1 i hin co hco
  refine lv_aload_n hx hb dX2_change_0 rfl (lv_at hl 0 rfl) ?_
  refine lv_iload_n hx hb dX2_change_1 rfl (lv_at hl 1 rfl) ?_
  refine lv_iload_n hx hb dX2_change_2 rfl (lv_at hl 2 rfl) ?_
  refine clVi (As := [.int (nI i), .int (nI co)]) (rest := []) (b := qr) (vc := (RX2, TX2, 4)) ⟨hx, hb, hml, hown, hts⟩ (c_sortAt l dd cyI cyJ cyZ qr qt qh n hi tI hv hI sI hR i co hin hco) gX2_change_X2_sortAt (ci := 2) rfl (q0 := 0) rfl (n := 2) rfl ⟨rfl, rfl⟩ (by decide +kernel) ⟨Nat.le_of_ble_eq_true rfl, Nat.le_of_ble_eq_true rfl⟩ hN hK (hP.sub [0, 1, 2] rfl) rfl hl.1 rfl (Nat.le_of_ble_eq_true rfl) dX2_change_3 ⟨Nat.le_of_ble_eq_true rfl, Nat.le_of_ble_eq_true rfl⟩ (fun r1 h1 => ?_)
  rw [e0] at h1
  subst h1
  refine lv_istore (lv' := [(4, .int (nI k0)), (0, .ref qr), (1, .int (nI i)), (2, .int (nI co)), (3, .int (nI k))]) hx hb dX2_change_6 hl (by decide) rfl (fun ls hl => ?_)
  refine lv_aload_n hx hb dX2_change_8 rfl (lv_at hl 1 rfl) ?_
  refine va_get (D := dd) (ci := 2) (C := RX2) (T := TX2) (N := 4) (v := .ref qh) hx hb hts hiX2 hown hK hP 0 rfl rfl 3 (by decide) (hts (.fieldLink RX2 23 "SliceDrift$Rows" "having" "[J") (by decide +kernel)) (fun _ h9 => h9) rfl dX2_change_9 ?_
  refine lv_iload_n hx hb dX2_change_12 rfl (lv_at hl 3 rfl) ?_
  refine lv_iload hx hb dX2_change_13 (lv_at hl 0 rfl) ?_
  refine clNi (As := [.int (nI co), .int (nI k0)]) (rest := [.ref qh]) ⟨hx, hb, hml, hown, hts⟩ (c_conditionOf l dd cyI cyJ cyZ (nI co) (nI k0)) gX2_change_X4_conditionOf_n31 (hN.m 7 rfl) (hts (.initialized RX4) (by decide +kernel)) (hts (.static yX4_conditionOf) (by decide +kernel)) (n := 2) rfl ⟨rfl, rfl⟩ (by decide +kernel) ⟨Nat.le_of_ble_eq_true rfl, Nat.le_of_ble_eq_true rfl⟩ hN hK (hP.sub [] rfl) rfl hl.1 rfl (Nat.le_of_ble_eq_true rfl) dX2_change_15 ⟨Nat.le_of_ble_eq_true rfl, Nat.le_of_ble_eq_true rfl⟩ (fun r2 hr2 => ?_)
  subst hr2
  refine tpi (show (nI co * 11 + nI k0 : Int32) = nI (co * 11 + k0) from by rw [show (11 : Int32) = nI 11 from rfl, pk_mul, nI_add]) ?_
  refine lv_dup2_11 hx hb dX2_change_18 rfl rfl ?_
  refine va_lald hx hb hK hP 2 1 rfl rfl (i := nI (co * 11 + k0)) (vp_in_nI (show (co * 11 + k0) < 55 from (by omega)) (by decide)) dX2_change_19 ?_
  rw [nI_clamp (show (co * 11 + k0) < 2 ^ 31 from Nat.lt_trans (show (co * 11 + k0) < 55 from (by omega)) (by decide))]
  refine lv_lconst (v := 1) hx hb dX2_change_20 (by decide) ?_
  refine lv_iload_n hx hb dX2_change_21 rfl (lv_at hl 2 rfl) ?_
  refine lv_lshl hx hb dX2_change_22 rfl ?_
  refine tpl (show (1 <<< ((nI i).toInt64 &&& 63) : Int64) = lN (2 ^ i) from shl1 (by omega)) ?_
  refine lv_ldc2 (v := (-1)) hx hb hown (hts (.constantLong RX2 38 (-1)) (by decide +kernel)) dX2_change_23 ?_
  refine lv_lxor hx hb dX2_change_26 ?_
  refine lv_land hx hb dX2_change_27 ?_
  refine va_last hx hb hK hP hD hS 2 1 rfl rfl (i := nI (co * 11 + k0)) (vp_in_nI (show (co * 11 + k0) < 55 from (by omega)) (by decide)) dX2_change_28 (fun H locs hP hD hS => ?_)
  rw [nI_clamp (show (co * 11 + k0) < 2 ^ 31 from Nat.lt_trans (show (co * 11 + k0) < 55 from (by omega)) (by decide))] at hP hD
  have hP : va_P dd vwCl [(qr, .inr (2, [.int (nI n), .long hi, .ref qt, .ref qh])), (qt, .inl (cyI, 48, .inl tI)), (qh, .inl (cyJ, 55, .inr (.inl (vp_updL hv (co * 11 + k0) ((hv (co * 11 + k0)) &&& ((lN (2 ^ i)) ^^^ (-1)))))))] H := hP
  have hD : va_D A [(qr, .inr (2, [.int (nI n), .long hi, .ref qt, .ref qh])), (qt, .inl (cyI, 48, .inl tI)), (qh, .inl (cyJ, 55, .inr (.inl (vp_updL hv (co * 11 + k0) ((hv (co * 11 + k0)) &&& ((lN (2 ^ i)) ^^^ (-1)))))))] := hD
  obtain ⟨hv1, e1⟩ : ∃ f, f = vp_updL hv (co * 11 + k0) (hv (co * 11 + k0) &&& (lN (2 ^ i) ^^^ (-1))) := ⟨_, rfl⟩
  rw [← e1] at hP hD
  refine lv_aload_n hx hb dX2_change_29 rfl (lv_at hl 1 rfl) ?_
  refine va_get (D := dd) (ci := 2) (C := RX2) (T := TX2) (N := 4) (v := .ref qh) hx hb hts hiX2 hown hK hP 0 rfl rfl 3 (by decide) (hts (.fieldLink RX2 23 "SliceDrift$Rows" "having" "[J") (by decide +kernel)) (fun _ h9 => h9) rfl dX2_change_30 ?_
  refine lv_iload_n hx hb dX2_change_33 rfl (lv_at hl 3 rfl) ?_
  refine lv_iload_n hx hb dX2_change_34 rfl (lv_at hl 4 rfl) ?_
  refine clNi (As := [.int (nI co), .int (nI k)]) (rest := [.ref qh]) ⟨hx, hb, hml, hown, hts⟩ (c_conditionOf l dd cyI cyJ cyZ (nI co) (nI k)) gX2_change_X4_conditionOf_n31 (hN.m 7 rfl) (hts (.initialized RX4) (by decide +kernel)) (hts (.static yX4_conditionOf) (by decide +kernel)) (n := 2) rfl ⟨rfl, rfl⟩ (by decide +kernel) ⟨Nat.le_of_ble_eq_true rfl, Nat.le_of_ble_eq_true rfl⟩ hN hK (hP.sub [] rfl) rfl hl.1 rfl (Nat.le_of_ble_eq_true rfl) dX2_change_35 ⟨Nat.le_of_ble_eq_true rfl, Nat.le_of_ble_eq_true rfl⟩ (fun r3 hr3 => ?_)
  subst hr3
  refine tpi (show (nI co * 11 + nI k : Int32) = nI (co * 11 + k) from by rw [show (11 : Int32) = nI 11 from rfl, pk_mul, nI_add]) ?_
  refine lv_dup2_11 hx hb dX2_change_38 rfl rfl ?_
  refine va_lald hx hb hK hP 2 1 rfl rfl (i := nI (co * 11 + k)) (vp_in_nI (show (co * 11 + k) < 55 from (by omega)) (by decide)) dX2_change_39 ?_
  rw [nI_clamp (show (co * 11 + k) < 2 ^ 31 from Nat.lt_trans (show (co * 11 + k) < 55 from (by omega)) (by decide))]
  refine lv_lconst (v := 1) hx hb dX2_change_40 (by decide) ?_
  refine lv_iload_n hx hb dX2_change_41 rfl (lv_at hl 2 rfl) ?_
  refine lv_lshl hx hb dX2_change_42 rfl ?_
  refine tpl (show (1 <<< ((nI i).toInt64 &&& 63) : Int64) = lN (2 ^ i) from shl1 (by omega)) ?_
  refine lv_lor hx hb dX2_change_43 ?_
  refine va_last hx hb hK hP hD hS 2 1 rfl rfl (i := nI (co * 11 + k)) (vp_in_nI (show (co * 11 + k) < 55 from (by omega)) (by decide)) dX2_change_44 (fun H locs hP hD hS => ?_)
  rw [nI_clamp (show (co * 11 + k) < 2 ^ 31 from Nat.lt_trans (show (co * 11 + k) < 55 from (by omega)) (by decide))] at hP hD
  have hP : va_P dd vwCl [(qr, .inr (2, [.int (nI n), .long hi, .ref qt, .ref qh])), (qt, .inl (cyI, 48, .inl tI)), (qh, .inl (cyJ, 55, .inr (.inl (vp_updL hv1 (co * 11 + k) ((hv1 (co * 11 + k)) ||| (lN (2 ^ i)))))))] H := hP
  have hD : va_D A [(qr, .inr (2, [.int (nI n), .long hi, .ref qt, .ref qh])), (qt, .inl (cyI, 48, .inl tI)), (qh, .inl (cyJ, 55, .inr (.inl (vp_updL hv1 (co * 11 + k) ((hv1 (co * 11 + k)) ||| (lN (2 ^ i)))))))] := hD
  refine lv_iload hx hb dX2_change_45 (lv_at hl 0 rfl) ?_
  exact ewI _ hx hb hr hlocks hAe hS dX2_change_47 (⟨e0.symm, chg_ok hR hin hco hk hk0 e0 e1⟩) (hP.sub [0, 1, 2] rfl) (hD.sub [0, 1, 2] (by decide) rfl)
