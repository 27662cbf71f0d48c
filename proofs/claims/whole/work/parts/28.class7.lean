theorem sI2_s (g : Nat) : nI g = sI2 (g + 1) := by unfold sI2; rw [if_neg (by omega)]; rfl
theorem hv_flat {n : Nat} {hI sI : Nat → Int32} {hi : Int64} {hv : Nat → Int64} (hR : RowsOk n hI sI hi hv) {g : Nat} (hg : g < 55) : hv g = lN (hvM sI n g) := by
  have h := hR.2.2.1 (g / 11) (by omega) (g % 11) (by omega)
  rw [show g / 11 * 11 + g % 11 = g by omega] at h
  exact h
theorem lcq {x z : Nat} (hx : x < 2 ^ 48) (hz : z < 2 ^ 48) : lg_cmp (lN x) (lN z) = 0 ↔ x = z := by
  rw [lg_cmp_eq]
  exact pk_lEQ (by omega) (by omega)
theorem colI : ∀ f, f < 55 → (if nI f = -1 then -1 else nI f / 11) = nI (f / 11) := by decide +kernel
theorem sorI : ∀ f, f < 55 → (if nI f = -1 then -1 else nI f - nI f / 11 * 11) = nI (f % 11) := by decide +kernel

set_option maxHeartbeats 4000000 in
set_option maxRecDepth 100000 in
theorem c_insertPairs (l : Launch) (dd : va_G) (cyI cyJ cyZ : ClassId) (ql ql1 ql2 ql3 : Nat) (qr qt qh n : Nat) (hi : Int64) (tI : Nat → Int32) (hv : Nat → Int64) (hI sI : Nat → Int32) (hR : RowsOk n hI sI hi hv) (hm lt f : Nat) (hhm : hm < 2 ^ 48) (hlt : lt ≤ 48) (hf : f < 55) (mI : Nat → Int64) (fI gI : Nat → Int32) (Lc : Ls) (hE : LstC Lc.2 Lc.1 mI fI gI) (hs : Srt hm Lc.2 Lc.1) (hB : (prs hm lt (hvM sI n) f (55 - nx f) (nx f) Lc).1 ≤ 535) (sz : Nat) : Met l yX3_insertPairs wsX3_insertPairs ({ frames := 4, cells := 0, slots := 0, locals := 120 } : Room) (va_Pc [.ref ql, .ref qr, .int (nI lt), .int (nI f)] (Wr dd [(cyI, .int), (cyJ, .long), (cyZ, .boolean)] [(ql, .inr (3, [.int (nI Lc.1), .long (lN hm), .ref ql1, .ref ql2, .ref ql3])), (ql1, .inl (cyJ, 535, .inr (.inl mI))), (ql2, .inl (cyI, 535, .inl fI)), (ql3, .inl (cyI, 535, .inl gI)), (qr, .inr (2, [.int (nI n), .long hi, .ref qt, .ref qh])), (qt, .inl (cyI, 48, .inl tI)), (qh, .inl (cyJ, 55, .inr (.inl hv)))] sz)) (va_Qv (S := (Nat → Int64) × (Nat → Int32) × (Nat → Int32)) (fun (u : (Nat → Int64) × (Nat → Int32) × (Nat → Int32)) => LstC (prs hm lt (hvM sI n) f (55 - nx f) (nx f) Lc).2 (prs hm lt (hvM sI n) f (55 - nx f) (nx f) Lc).1 u.1 u.2.1 u.2.2) (WQ dd [(ql, .inr (3, [.int (nI Lc.1), .long (lN hm), .ref ql1, .ref ql2, .ref ql3])), (ql1, .inl (cyJ, 535, .inr (.inl mI))), (ql2, .inl (cyI, 535, .inl fI)), (ql3, .inl (cyI, 535, .inl gI)), (qr, .inr (2, [.int (nI n), .long hi, .ref qt, .ref qh])), (qt, .inl (cyI, 48, .inl tI)), (qh, .inl (cyJ, 55, .inr (.inl hv)))] sz (fun u => [(ql, .inr (3, [.int (nI (prs hm lt (hvM sI n) f (55 - nx f) (nx f) Lc).1), .long (lN hm), .ref ql1, .ref ql2, .ref ql3])), (ql1, .inl (cyJ, 535, .inr (.inl u.1))), (ql2, .inl (cyI, 535, .inl u.2.1)), (ql3, .inl (cyI, 535, .inl u.2.2)), (qr, .inr (2, [.int (nI n), .long hi, .ref qt, .ref qh])), (qt, .inl (cyI, 48, .inl tI)), (qh, .inl (cyJ, 55, .inr (.inl hv)))])) (va_A [(ql, .inr (3, [.int (nI Lc.1), .long (lN hm), .ref ql1, .ref ql2, .ref ql3])), (ql1, .inl (cyJ, 535, .inr (.inl mI))), (ql2, .inl (cyI, 535, .inl fI)), (ql3, .inl (cyI, 535, .inl gI)), (qr, .inr (2, [.int (nI n), .long hi, .ref qt, .ref qh])), (qt, .inl (cyI, 48, .inl tI)), (qh, .inl (cyJ, 55, .inr (.inl hv)))] sz)) 0 0 (va_A [(ql, .inr (3, [.int (nI Lc.1), .long (lN hm), .ref ql1, .ref ql2, .ref ql3])), (ql1, .inl (cyJ, 535, .inr (.inl mI))), (ql2, .inl (cyI, 535, .inl fI)), (ql3, .inl (cyI, 535, .inl gI)), (qr, .inr (2, [.int (nI n), .long hi, .ref qt, .ref qh])), (qt, .inl (cyI, 48, .inl tI)), (qh, .inl (cyJ, 55, .inr (.inl hv)))] sz) := by
  refine mkW (Qc := fun A => (va_Qv (S := (Nat → Int64) × (Nat → Int32) × (Nat → Int32)) (fun (u : (Nat → Int64) × (Nat → Int32) × (Nat → Int32)) => LstC (prs hm lt (hvM sI n) f (55 - nx f) (nx f) Lc).2 (prs hm lt (hvM sI n) f (55 - nx f) (nx f) Lc).1 u.1 u.2.1 u.2.2) (WQ dd [(ql, .inr (3, [.int (nI Lc.1), .long (lN hm), .ref ql1, .ref ql2, .ref ql3])), (ql1, .inl (cyJ, 535, .inr (.inl mI))), (ql2, .inl (cyI, 535, .inl fI)), (ql3, .inl (cyI, 535, .inl gI)), (qr, .inr (2, [.int (nI n), .long hi, .ref qt, .ref qh])), (qt, .inl (cyI, 48, .inl tI)), (qh, .inl (cyJ, 55, .inr (.inl hv)))] sz (fun u => [(ql, .inr (3, [.int (nI (prs hm lt (hvM sI n) f (55 - nx f) (nx f) Lc).1), .long (lN hm), .ref ql1, .ref ql2, .ref ql3])), (ql1, .inl (cyJ, 535, .inr (.inl u.1))), (ql2, .inl (cyI, 535, .inl u.2.1)), (ql3, .inl (cyI, 535, .inl u.2.2)), (qr, .inr (2, [.int (nI n), .long hi, .ref qt, .ref qh])), (qt, .inl (cyI, 48, .inl tI)), (qh, .inl (cyJ, 55, .inr (.inl hv)))])) A)) (cc := cX3_insertPairs) (maxL := 11) (by decide) rfl (Nat.le_of_ble_eq_true rfl) (lv0 := [(0, .ref ql), (1, .ref qr), (2, .int (nI lt)), (3, .int (nI f))]) rfl ?_
  intro p e s m below meth c ls H A hx hb hr hml hown hlocks hts hmn hN hP hK hD hS hA hAe hl
  have hown : s.vm.findClass RX3 = some m.cls := hown
  have hiX2 : ∀ w ∈ wsX20, w ∈ wsX3_insertPairs := by decide +kernel
  have hiX3 : ∀ w ∈ wsX30, w ∈ wsX3_insertPairs := by decide +kernel
  have hn := hR.1
  refine lv_aload_n hx hb dX3_insertPairs_0 rfl (lv_at hl 1 rfl) ?_
  refine va_getN (D := dd) (ci := 2) (C := RX2) (T := TX2) (N := 4) (v := .ref qh) hx hb hts hiX2 hown hK hP 4 rfl rfl 3 (by decide) (hN.f 16 rfl) (fun _ h9 => h9) rfl dX3_insertPairs_1 ?_
  refine lv_iload_n hx hb dX3_insertPairs_4 rfl (lv_at hl 3 rfl) ?_
  refine va_lald hx hb hK hP 6 1 rfl rfl (i := nI f) (vp_in_nI (show f < 55 from (by omega)) (by decide)) dX3_insertPairs_5 ?_
  rw [nI_clamp (show f < 2 ^ 31 from Nat.lt_trans (show f < 55 from (by omega)) (by decide))]
  refine tpl (show (hv f : Int64) = lN (hvM sI n f) from hv_flat hR hf) ?_
  refine lv_lstore (lv' := [(4, .long (lN (hvM sI n f))), (0, .ref ql), (1, .ref qr), (2, .int (nI lt)), (3, .int (nI f))]) hx hb dX3_insertPairs_6 hl (by decide) rfl (fun ls hl => ?_)
  refine lv_iload_n hx hb dX3_insertPairs_8 rfl (lv_at hl 4 rfl) ?_
  refine clNi (As := [.int (nI f)]) (rest := []) ⟨hx, hb, hml, hown, hts⟩ (c_columnOf l dd cyI cyJ cyZ (nI f)) gX3_insertPairs_X4_columnOf_n54 (hN.m 9 rfl) (hts (.initialized RX4) (by decide +kernel)) (hts (.static yX4_columnOf) (by decide +kernel)) (n := 1) rfl ⟨rfl, rfl⟩ (by decide +kernel) ⟨Nat.le_of_ble_eq_true rfl, Nat.le_of_ble_eq_true rfl⟩ hN hK (hP.sub [] rfl) rfl hl.1 rfl (Nat.le_of_ble_eq_true rfl) dX3_insertPairs_9 ⟨Nat.le_of_ble_eq_true rfl, Nat.le_of_ble_eq_true rfl⟩ (fun r1 h1 => ?_)
  rw [colI f hf] at h1
  subst h1
  refine lv_iconst (v := 1) hx hb dX3_insertPairs_12 (by decide) ?_
  refine lv_iadd hx hb dX3_insertPairs_13 ?_
  refine tpi (show ((nI (f / 11)) + 1 : Int32) = nI (f / 11 + 1) from nI_1 _) ?_
  refine lv_iconst (v := 0) hx hb dX3_insertPairs_14 (by decide) ?_
  refine clNi (As := [.int (nI (f / 11 + 1)), .int 0]) (rest := []) ⟨hx, hb, hml, hown, hts⟩ (c_conditionOf l dd cyI cyJ cyZ (nI (f / 11 + 1)) 0) gX3_insertPairs_X4_conditionOf_n58 (hN.m 10 rfl) (hts (.initialized RX4) (by decide +kernel)) (hts (.static yX4_conditionOf) (by decide +kernel)) (n := 2) rfl ⟨rfl, rfl⟩ (by decide +kernel) ⟨Nat.le_of_ble_eq_true rfl, Nat.le_of_ble_eq_true rfl⟩ hN hK (hP.sub [] rfl) rfl hl.1 rfl (Nat.le_of_ble_eq_true rfl) dX3_insertPairs_15 ⟨Nat.le_of_ble_eq_true rfl, Nat.le_of_ble_eq_true rfl⟩ (fun r2 h2 => ?_)
  have h2 : r2 = nI (nx f) := by rw [h2, show (11 : Int32) = nI 11 from rfl, pk_mul]; exact Int32.add_zero _
  subst h2
  refine lv_istore (lv' := [(6, .int (nI (nx f))), (4, .long (lN (hvM sI n f))), (0, .ref ql), (1, .ref qr), (2, .int (nI lt)), (3, .int (nI f))]) hx hb dX3_insertPairs_18 hl (by decide) rfl (fun ls hl => ?_)
  have loop : ∀ (k : Nat) (g : Nat) (Lb : Ls) (mB : Nat → Int64) (fB gB : Nat → Int32) (H : Heap) (locs : List Loc), g + k = 55 → prs hm lt (hvM sI n) f k g Lb = prs hm lt (hvM sI n) f (55 - nx f) (nx f) Lc → LstC Lb.2 Lb.1 mB fB gB → Srt hm Lb.2 Lb.1 → va_P dd vwCl [(ql, .inr (3, [.int (nI Lb.1), .long (lN hm), .ref ql1, .ref ql2, .ref ql3])), (ql1, .inl (cyJ, 535, .inr (.inl mB))), (ql2, .inl (cyI, 535, .inl fB)), (ql3, .inl (cyI, 535, .inl gB)), (qr, .inr (2, [.int (nI n), .long hi, .ref qt, .ref qh])), (qt, .inl (cyI, 48, .inl tI)), (qh, .inl (cyJ, 55, .inr (.inl hv)))] H → va_D A [(ql, .inr (3, [.int (nI Lb.1), .long (lN hm), .ref ql1, .ref ql2, .ref ql3])), (ql1, .inl (cyJ, 535, .inr (.inl mB))), (ql2, .inl (cyI, 535, .inl fB)), (ql3, .inl (cyI, 535, .inl gB)), (qr, .inr (2, [.int (nI n), .long hi, .ref qt, .ref qh])), (qt, .inl (cyI, 48, .inl tI)), (qh, .inl (cyJ, 55, .inr (.inl hv)))] → va_S A s.heap H locs → ∀ ls : Array Slot, lv_has ls 11 [(6, .int (nI g)), (4, .long (lN (hvM sI n f))), (0, .ref ql), (1, .ref qr), (2, .int (nI lt)), (3, .int (nI f))] → W p l e ({ frames := 4, cells := 0, slots := 0, locals := 120 } : Room) s m ([.ref ql, .ref qr, .int (nI lt), .int (nI f)] : List Value).toArray below meth c H locs 0 0 (MQ below (va_Qv (S := (Nat → Int64) × (Nat → Int32) × (Nat → Int32)) (fun (u : (Nat → Int64) × (Nat → Int32) × (Nat → Int32)) => LstC (prs hm lt (hvM sI n) f (55 - nx f) (nx f) Lc).2 (prs hm lt (hvM sI n) f (55 - nx f) (nx f) Lc).1 u.1 u.2.1 u.2.2) (WQ dd [(ql, .inr (3, [.int (nI Lc.1), .long (lN hm), .ref ql1, .ref ql2, .ref ql3])), (ql1, .inl (cyJ, 535, .inr (.inl mI))), (ql2, .inl (cyI, 535, .inl fI)), (ql3, .inl (cyI, 535, .inl gI)), (qr, .inr (2, [.int (nI n), .long hi, .ref qt, .ref qh])), (qt, .inl (cyI, 48, .inl tI)), (qh, .inl (cyJ, 55, .inr (.inl hv)))] sz (fun u => [(ql, .inr (3, [.int (nI (prs hm lt (hvM sI n) f (55 - nx f) (nx f) Lc).1), .long (lN hm), .ref ql1, .ref ql2, .ref ql3])), (ql1, .inl (cyJ, 535, .inr (.inl u.1))), (ql2, .inl (cyI, 535, .inl u.2.1)), (ql3, .inl (cyI, 535, .inl u.2.2)), (qr, .inr (2, [.int (nI n), .long hi, .ref qt, .ref qh])), (qt, .inl (cyI, 48, .inl tI)), (qh, .inl (cyJ, 55, .inr (.inl hv)))])) A) ([.ref ql, .ref qr, .int (nI lt), .int (nI f)] : List Value).toArray s 0 0 A) (F0 m 20 ls []) := by
    intro k
    induction k with
    | zero =>
      intro g Lb mB fB gB H locs hg he hEb hsb hP hD hS ls hl
      refine lv_iload hx hb dX3_insertPairs_20 (lv_at hl 0 rfl) ?_
      refine lv_bipush (v := 55) hx hb dX3_insertPairs_22 (by decide) ?_
      refine lv_icmp_ge (tgt := 83) hx hb dX3_insertPairs_24 (by decide) (fun q => ?_) (fun q => ?_)
      · have he : Lb = prs hm lt (hvM sI n) f (55 - nx f) (nx f) Lc := he
        subst he
        exact ewV (mB, fB, gB) hx hb hr hlocks hAe hS dX3_insertPairs_83 hEb (hP.sub [0, 1, 2, 3, 4, 5, 6] rfl) (hD.sub [0, 1, 2, 3, 4, 5, 6] (by decide) rfl)
      · exact absurd (nI_le (show 55 ≤ g by omega) (by omega)) q
    | succ k ih =>
      intro g Lb mB fB gB H locs hg he hEb hsb hP hD hS ls hl
      refine lv_iload hx hb dX3_insertPairs_20 (lv_at hl 0 rfl) ?_
      refine lv_bipush (v := 55) hx hb dX3_insertPairs_22 (by decide) ?_
      refine lv_icmp_ge (tgt := 83) hx hb dX3_insertPairs_24 (by decide) (fun q => ?_) (fun q => ?_)
      · exact absurd q (nI_ge (show g < 55 by omega) (by decide))
      · refine lv_aload_n hx hb dX3_insertPairs_27 rfl (lv_at hl 3 rfl) ?_
        refine va_getN (D := dd) (ci := 2) (C := RX2) (T := TX2) (N := 4) (v := .ref qh) hx hb hts hiX2 hown hK hP 4 rfl rfl 3 (by decide) (hN.f 16 rfl) (fun _ h9 => h9) rfl dX3_insertPairs_28 ?_
        refine lv_iload hx hb dX3_insertPairs_31 (lv_at hl 0 rfl) ?_
        refine va_lald hx hb hK hP 6 1 rfl rfl (i := nI g) (vp_in_nI (show g < 55 from (by omega)) (by decide)) dX3_insertPairs_33 ?_
        rw [nI_clamp (show g < 2 ^ 31 from Nat.lt_trans (show g < 55 from (by omega)) (by decide))]
        refine tpl (show (hv g : Int64) = lN (hvM sI n g) from hv_flat hR (by omega)) ?_
        refine lv_lstore (lv' := [(7, .long (lN (hvM sI n g))), (6, .int (nI g)), (4, .long (lN (hvM sI n f))), (0, .ref ql), (1, .ref qr), (2, .int (nI lt)), (3, .int (nI f))]) hx hb dX3_insertPairs_34 hl (by decide) rfl (fun ls hl => ?_)
        refine lv_lload hx hb dX3_insertPairs_36 (lv_at hl 2 rfl) ?_
        refine lv_lload hx hb dX3_insertPairs_38 (lv_at hl 0 rfl) ?_
        refine lv_land hx hb dX3_insertPairs_40 ?_
        have w1 := hvM_48 sI hn f
        have w2 := hvM_48 sI hn g
        obtain ⟨bo, ebo⟩ : ∃ bo, bo = hvM sI n f &&& hvM sI n g := ⟨_, rfl⟩
        have w3 : bo < 2 ^ 48 := by rw [ebo]; exact and48 w1
        have w4 := pop_le bo
        refine tpl (show ((lN (hvM sI n f)) &&& (lN (hvM sI n g)) : Int64) = lN bo from by rw [wb_and (by omega) (by omega), ebo]) ?_
        refine lv_lstore (lv' := [(9, .long (lN bo)), (7, .long (lN (hvM sI n g))), (6, .int (nI g)), (4, .long (lN (hvM sI n f))), (0, .ref ql), (1, .ref qr), (2, .int (nI lt)), (3, .int (nI f))]) hx hb dX3_insertPairs_41 hl (by decide) rfl (fun ls hl => ?_)
        refine lv_lload hx hb dX3_insertPairs_43 (lv_at hl 0 rfl) ?_
        refine clSi (As := [.long (lN bo)]) (rest := []) ⟨hx, hb, hml, hown, hts⟩ (c_bitCount l dd cyI cyJ cyZ bo (by omega)) gX3_insertPairs_J13_bitCount_95d88 (n := 1) rfl ⟨rfl, rfl⟩ (by decide +kernel) ⟨Nat.le_of_ble_eq_true rfl, Nat.le_of_ble_eq_true rfl⟩ hN hK (hP.sub [] rfl) rfl hl.1 rfl (Nat.le_of_ble_eq_true rfl) dX3_insertPairs_45 ⟨Nat.le_of_ble_eq_true rfl, Nat.le_of_ble_eq_true rfl⟩ (fun r3 h3 => ?_)
        have h3 : r3 = nI (pop bo) := h3
        subst h3
        refine lv_iload_n hx hb dX3_insertPairs_48 rfl (lv_at hl 6 rfl) ?_
        refine lv_icmp_lt (tgt := 77) hx hb dX3_insertPairs_49 (by decide) (fun q2 => ?_) (fun q2 => ?_)
        · have np : ¬ isPr (hvM sI n) lt f g := by rw [isPr, ← ebo]; exact fun h => absurd ((nI_ltI (by omega) (by omega)).mp q2) (by omega)
          refine lv_iinc (v := nI (g + 1)) (lv' := [(6, .int (nI (g + 1))), (9, .long (lN bo)), (7, .long (lN (hvM sI n g))), (4, .long (lN (hvM sI n f))), (0, .ref ql), (1, .ref qr), (2, .int (nI lt)), (3, .int (nI f))]) hx hb dX3_insertPairs_77 hl (k := 2) rfl (nI_1 g) (by decide) rfl (fun ls hl => ?_)
          refine lv_goto (tgt := 20) hx hb dX3_insertPairs_80 (by decide) ?_
          exact ih (g + 1) Lb mB fB gB H locs (by omega) (by rw [← he, prs_n np]) hEb hsb hP hD hS ls (lv_sub hl [0, 3, 4, 5, 6, 7] rfl)
        · have c1 : lt ≤ pop bo := Nat.le_of_not_lt (fun h => q2 (nI_lt h (by omega)))
          refine lv_lload hx hb dX3_insertPairs_52 (lv_at hl 0 rfl) ?_
          refine lv_lload hx hb dX3_insertPairs_54 (lv_at hl 3 rfl) ?_
          refine W.lcmp hx hb dX3_insertPairs_56 ?_
          refine lv_if_eq (tgt := 77) hx hb dX3_insertPairs_57 (by decide) (fun q3 => ?_) (fun q3 => ?_)
          · have np : ¬ isPr (hvM sI n) lt f g := by rw [isPr, ← ebo]; exact fun h => h.2.1 ((lcq w3 w1).mp q3)
            refine lv_iinc (v := nI (g + 1)) (lv' := [(6, .int (nI (g + 1))), (9, .long (lN bo)), (7, .long (lN (hvM sI n g))), (4, .long (lN (hvM sI n f))), (0, .ref ql), (1, .ref qr), (2, .int (nI lt)), (3, .int (nI f))]) hx hb dX3_insertPairs_77 hl (k := 2) rfl (nI_1 g) (by decide) rfl (fun ls hl => ?_)
            refine lv_goto (tgt := 20) hx hb dX3_insertPairs_80 (by decide) ?_
            exact ih (g + 1) Lb mB fB gB H locs (by omega) (by rw [← he, prs_n np]) hEb hsb hP hD hS ls (lv_sub hl [0, 3, 4, 5, 6, 7] rfl)
          · refine lv_lload hx hb dX3_insertPairs_60 (lv_at hl 0 rfl) ?_
            refine lv_lload hx hb dX3_insertPairs_62 (lv_at hl 1 rfl) ?_
            refine W.lcmp hx hb dX3_insertPairs_64 ?_
            refine lv_if_eq (tgt := 77) hx hb dX3_insertPairs_65 (by decide) (fun q4 => ?_) (fun q4 => ?_)
            · have np : ¬ isPr (hvM sI n) lt f g := by rw [isPr, ← ebo]; exact fun h => h.2.2 ((lcq w3 w2).mp q4)
              refine lv_iinc (v := nI (g + 1)) (lv' := [(6, .int (nI (g + 1))), (9, .long (lN bo)), (7, .long (lN (hvM sI n g))), (4, .long (lN (hvM sI n f))), (0, .ref ql), (1, .ref qr), (2, .int (nI lt)), (3, .int (nI f))]) hx hb dX3_insertPairs_77 hl (k := 2) rfl (nI_1 g) (by decide) rfl (fun ls hl => ?_)
              refine lv_goto (tgt := 20) hx hb dX3_insertPairs_80 (by decide) ?_
              exact ih (g + 1) Lb mB fB gB H locs (by omega) (by rw [← he, prs_n np]) hEb hsb hP hD hS ls (lv_sub hl [0, 3, 4, 5, 6, 7] rfl)
            · have ip : isPr (hvM sI n) lt f g := by rw [isPr, ← ebo]; exact ⟨c1, fun h => q3 ((lcq w3 w1).mpr h), fun h => q4 ((lcq w3 w2).mpr h)⟩
              have hy := prs_y (hm := hm) (k := k) (L := Lb) ip
              rw [← ebo] at hy
              have hge := prs_ge hm lt (hvM sI n) f k (g + 1) (ins1 hm Lb (bo, f, g + 1))
              have hge : Lb.1 + 1 ≤ (prs hm lt (hvM sI n) f (55 - nx f) (nx f) Lc).1 := by rw [← he, hy]; exact hge
              refine lv_aload_n hx hb dX3_insertPairs_68 rfl (lv_at hl 4 rfl) ?_
              refine lv_lload hx hb dX3_insertPairs_69 (lv_at hl 0 rfl) ?_
              refine lv_iload_n hx hb dX3_insertPairs_71 rfl (lv_at hl 7 rfl) ?_
              refine lv_iload hx hb dX3_insertPairs_72 (lv_at hl 2 rfl) ?_
              refine tpi (show (nI g : Int32) = sI2 (g + 1) from sI2_s g) ?_
              refine clVwv (As := [.long (lN bo), .int (nI f), .int (sI2 (g + 1))]) (rest := []) (b := ql) (vc := (RX3, TX3, 5)) (wr := [(qr, .inr (2, [.int (nI n), .long hi, .ref qt, .ref qh])), (qt, .inl (cyI, 48, .inl tI)), (qh, .inl (cyJ, 55, .inr (.inl hv)))]) ⟨hx, hb, hml, hown, hts⟩ (fun sz => c_insert l dd cyI cyJ cyZ ql ql1 ql2 ql3 Lb.1 hm bo f (g + 1) hhm w3 (by omega) mB fB gB Lb.2 hEb hsb sz) gX3_insertPairs_X3_insert (ci := 3) rfl (q0 := 0) rfl (n := 3) rfl ⟨rfl, rfl⟩ (by decide +kernel) ⟨Nat.le_of_ble_eq_true rfl, Nat.le_of_ble_eq_true rfl⟩ hN hK hP hD hS hA [0, 1, 2, 3] [4, 5, 6] rfl rfl (by decide) rfl (by decide) (by decide) rfl hl.1 rfl (Nat.le_of_ble_eq_true rfl) dX3_insertPairs_74 ⟨Nat.le_of_ble_eq_true rfl, Nat.le_of_ble_eq_true rfl⟩ (fun u1 H locs hu1 hP hD hS => ?_)
              have hP : va_P dd vwCl [(qr, .inr (2, [.int (nI n), .long hi, .ref qt, .ref qh])), (qt, .inl (cyI, 48, .inl tI)), (qh, .inl (cyJ, 55, .inr (.inl hv))), (ql, .inr (3, [.int (nI (Lb.1 + 1)), .long (lN hm), .ref ql1, .ref ql2, .ref ql3])), (ql1, .inl (cyJ, 535, .inr (.inl u1.1))), (ql2, .inl (cyI, 535, .inl u1.2.1)), (ql3, .inl (cyI, 535, .inl u1.2.2))] H := hP
              have hD : va_D A [(qr, .inr (2, [.int (nI n), .long hi, .ref qt, .ref qh])), (qt, .inl (cyI, 48, .inl tI)), (qh, .inl (cyJ, 55, .inr (.inl hv))), (ql, .inr (3, [.int (nI (Lb.1 + 1)), .long (lN hm), .ref ql1, .ref ql2, .ref ql3])), (ql1, .inl (cyJ, 535, .inr (.inl u1.1))), (ql2, .inl (cyI, 535, .inl u1.2.1)), (ql3, .inl (cyI, 535, .inl u1.2.2))] := hD
              refine lv_iinc (v := nI (g + 1)) (lv' := [(6, .int (nI (g + 1))), (9, .long (lN bo)), (7, .long (lN (hvM sI n g))), (4, .long (lN (hvM sI n f))), (0, .ref ql), (1, .ref qr), (2, .int (nI lt)), (3, .int (nI f))]) hx hb dX3_insertPairs_77 hl (k := 2) rfl (nI_1 g) (by decide) rfl (fun ls hl => ?_)
              refine lv_goto (tgt := 20) hx hb dX3_insertPairs_80 (by decide) ?_
              exact ih (g + 1) (ins1 hm Lb (bo, f, g + 1)) u1.1 u1.2.1 u1.2.2 H _ (by omega) (by rw [← he, hy]) hu1.1 (srt1 hsb) (hP.sub [3, 4, 5, 6, 0, 1, 2] rfl) (hD.sub [3, 4, 5, 6, 0, 1, 2] (by decide) rfl) hS ls (lv_sub hl [0, 3, 4, 5, 6, 7] rfl)
  exact loop (55 - nx f) (nx f) Lc mI fI gI H _ (by unfold nx; omega) rfl hE hs hP hD hS ls (lv_sub hl [0, 1, 2, 3, 4, 5] rfl)

set_option maxHeartbeats 4000000 in
set_option maxRecDepth 100000 in
theorem c_make (l : Launch) (dd : va_G) (cyI cyJ cyZ : ClassId) (ql ql1 ql2 ql3 : Nat) (sz0 : Int32) (lh : Int64) (qr qt qh n : Nat) (hi : Int64) (tI : Nat → Int32) (hv : Nat → Int64) (hI sI : Nat → Int32) (hR : RowsOk n hI sI hi hv) (hm lt : Nat) (two : Bool) (ehm : hi = lN hm) (hhm : hm < 2 ^ 48) (hlt : lt ≤ 48) (hl1 : 1 ≤ lt) (mI : Nat → Int64) (fI gI : Nat → Int32) (sz : Nat) : Met l yX3_make wsX3_make ({ frames := 5, cells := 0, slots := 0, locals := 160 } : Room) (va_Pc [.ref ql, .ref qr, .int (nI lt), .int (b01 two)] (Wr dd [(cyI, .int), (cyJ, .long), (cyZ, .boolean)] [(ql, .inr (3, [.int sz0, .long lh, .ref ql1, .ref ql2, .ref ql3])), (ql1, .inl (cyJ, 535, .inr (.inl mI))), (ql2, .inl (cyI, 535, .inl fI)), (ql3, .inl (cyI, 535, .inl gI)), (qr, .inr (2, [.int (nI n), .long hi, .ref qt, .ref qh])), (qt, .inl (cyI, 48, .inl tI)), (qh, .inl (cyJ, 55, .inr (.inl hv)))] sz)) (va_Qv (S := (Nat → Int64) × (Nat → Int32) × (Nat → Int32)) (fun (u : (Nat → Int64) × (Nat → Int32) × (Nat → Int32)) => LstC (mks hm lt (hvM sI n) two 55 0 L0).2 (mks hm lt (hvM sI n) two 55 0 L0).1 u.1 u.2.1 u.2.2) (WQ dd [(ql, .inr (3, [.int sz0, .long lh, .ref ql1, .ref ql2, .ref ql3])), (ql1, .inl (cyJ, 535, .inr (.inl mI))), (ql2, .inl (cyI, 535, .inl fI)), (ql3, .inl (cyI, 535, .inl gI)), (qr, .inr (2, [.int (nI n), .long hi, .ref qt, .ref qh])), (qt, .inl (cyI, 48, .inl tI)), (qh, .inl (cyJ, 55, .inr (.inl hv)))] sz (fun u => [(ql, .inr (3, [.int (nI (mks hm lt (hvM sI n) two 55 0 L0).1), .long (lN hm), .ref ql1, .ref ql2, .ref ql3])), (ql1, .inl (cyJ, 535, .inr (.inl u.1))), (ql2, .inl (cyI, 535, .inl u.2.1)), (ql3, .inl (cyI, 535, .inl u.2.2)), (qr, .inr (2, [.int (nI n), .long hi, .ref qt, .ref qh])), (qt, .inl (cyI, 48, .inl tI)), (qh, .inl (cyJ, 55, .inr (.inl hv)))])) (va_A [(ql, .inr (3, [.int sz0, .long lh, .ref ql1, .ref ql2, .ref ql3])), (ql1, .inl (cyJ, 535, .inr (.inl mI))), (ql2, .inl (cyI, 535, .inl fI)), (ql3, .inl (cyI, 535, .inl gI)), (qr, .inr (2, [.int (nI n), .long hi, .ref qt, .ref qh])), (qt, .inl (cyI, 48, .inl tI)), (qh, .inl (cyJ, 55, .inr (.inl hv)))] sz)) 0 0 (va_A [(ql, .inr (3, [.int sz0, .long lh, .ref ql1, .ref ql2, .ref ql3])), (ql1, .inl (cyJ, 535, .inr (.inl mI))), (ql2, .inl (cyI, 535, .inl fI)), (ql3, .inl (cyI, 535, .inl gI)), (qr, .inr (2, [.int (nI n), .long hi, .ref qt, .ref qh])), (qt, .inl (cyI, 48, .inl tI)), (qh, .inl (cyJ, 55, .inr (.inl hv)))] sz) := by
  refine mkW (Qc := fun A => (va_Qv (S := (Nat → Int64) × (Nat → Int32) × (Nat → Int32)) (fun (u : (Nat → Int64) × (Nat → Int32) × (Nat → Int32)) => LstC (mks hm lt (hvM sI n) two 55 0 L0).2 (mks hm lt (hvM sI n) two 55 0 L0).1 u.1 u.2.1 u.2.2) (WQ dd [(ql, .inr (3, [.int sz0, .long lh, .ref ql1, .ref ql2, .ref ql3])), (ql1, .inl (cyJ, 535, .inr (.inl mI))), (ql2, .inl (cyI, 535, .inl fI)), (ql3, .inl (cyI, 535, .inl gI)), (qr, .inr (2, [.int (nI n), .long hi, .ref qt, .ref qh])), (qt, .inl (cyI, 48, .inl tI)), (qh, .inl (cyJ, 55, .inr (.inl hv)))] sz (fun u => [(ql, .inr (3, [.int (nI (mks hm lt (hvM sI n) two 55 0 L0).1), .long (lN hm), .ref ql1, .ref ql2, .ref ql3])), (ql1, .inl (cyJ, 535, .inr (.inl u.1))), (ql2, .inl (cyI, 535, .inl u.2.1)), (ql3, .inl (cyI, 535, .inl u.2.2)), (qr, .inr (2, [.int (nI n), .long hi, .ref qt, .ref qh])), (qt, .inl (cyI, 48, .inl tI)), (qh, .inl (cyJ, 55, .inr (.inl hv)))])) A)) (cc := cX3_make) (maxL := 7) (by decide) rfl (Nat.le_of_ble_eq_true rfl) (lv0 := [(0, .ref ql), (1, .ref qr), (2, .int (nI lt)), (3, .int (b01 two))]) rfl ?_
  intro p e s m below meth c ls H A hx hb hr hml hown hlocks hts hmn hN hP hK hD hS hA hAe hl
  have hown : s.vm.findClass RX3 = some m.cls := hown
  have hiX2 : ∀ w ∈ wsX20, w ∈ wsX3_make := by decide +kernel
  have hiX3 : ∀ w ∈ wsX30, w ∈ wsX3_make := by decide +kernel
  have hn := hR.1
  have hB := mks_535 hm hl1 sI hn two
  refine lv_aload_n hx hb dX3_make_0 rfl (lv_at hl 0 rfl) ?_
  refine lv_iconst (v := 0) hx hb dX3_make_1 (by decide) ?_
  refine va_put (D := dd) (ci := 3) (v := .int 0) (ty := .int) (C := RX3) (T := TX3) (N := 5) hx hb hts hiX3 tyX3 tyX3_ok nmX3 hown hK hP hD hS 0 rfl rfl 0 (by decide) (hts (.fieldLink RX3 9 "SliceDrift$SliceList" "size" "I") (by decide +kernel)) (fun _ h9 => h9) rfl (by decide +kernel) rfl rfl (Nat.le_of_ble_eq_true rfl) dX3_make_2 (fun H locs hP hD hS => ?_)
  have hP : va_P dd vwCl [(ql, .inr (3, [.int 0, .long lh, .ref ql1, .ref ql2, .ref ql3])), (ql1, .inl (cyJ, 535, .inr (.inl mI))), (ql2, .inl (cyI, 535, .inl fI)), (ql3, .inl (cyI, 535, .inl gI)), (qr, .inr (2, [.int (nI n), .long hi, .ref qt, .ref qh])), (qt, .inl (cyI, 48, .inl tI)), (qh, .inl (cyJ, 55, .inr (.inl hv)))] H := hP
  have hD : va_D A [(ql, .inr (3, [.int 0, .long lh, .ref ql1, .ref ql2, .ref ql3])), (ql1, .inl (cyJ, 535, .inr (.inl mI))), (ql2, .inl (cyI, 535, .inl fI)), (ql3, .inl (cyI, 535, .inl gI)), (qr, .inr (2, [.int (nI n), .long hi, .ref qt, .ref qh])), (qt, .inl (cyI, 48, .inl tI)), (qh, .inl (cyJ, 55, .inr (.inl hv)))] := hD
  refine lv_aload_n hx hb dX3_make_5 rfl (lv_at hl 0 rfl) ?_
  refine lv_aload_n hx hb dX3_make_6 rfl (lv_at hl 1 rfl) ?_
  refine va_getN (D := dd) (ci := 2) (C := RX2) (T := TX2) (N := 4) (v := .long hi) hx hb hts hiX2 hown hK hP 4 rfl rfl 1 (by decide) (hN.f 15 rfl) (fun _ h9 => h9) rfl dX3_make_7 ?_
  refine tpl (show (hi : Int64) = lN hm from ehm) ?_
  refine va_put (D := dd) (ci := 3) (v := .long (lN hm)) (ty := .long) (C := RX3) (T := TX3) (N := 5) hx hb hts hiX3 tyX3 tyX3_ok nmX3 hown hK hP hD hS 0 rfl rfl 1 (by decide) (hts (.fieldLink RX3 15 "SliceDrift$SliceList" "hits" "J") (by decide +kernel)) (fun _ h9 => h9) rfl (by decide +kernel) rfl rfl (Nat.le_of_ble_eq_true rfl) dX3_make_10 (fun H locs hP hD hS => ?_)
  have hP : va_P dd vwCl [(ql, .inr (3, [.int 0, .long (lN hm), .ref ql1, .ref ql2, .ref ql3])), (ql1, .inl (cyJ, 535, .inr (.inl mI))), (ql2, .inl (cyI, 535, .inl fI)), (ql3, .inl (cyI, 535, .inl gI)), (qr, .inr (2, [.int (nI n), .long hi, .ref qt, .ref qh])), (qt, .inl (cyI, 48, .inl tI)), (qh, .inl (cyJ, 55, .inr (.inl hv)))] H := hP
  have hD : va_D A [(ql, .inr (3, [.int 0, .long (lN hm), .ref ql1, .ref ql2, .ref ql3])), (ql1, .inl (cyJ, 535, .inr (.inl mI))), (ql2, .inl (cyI, 535, .inl fI)), (ql3, .inl (cyI, 535, .inl gI)), (qr, .inr (2, [.int (nI n), .long hi, .ref qt, .ref qh])), (qt, .inl (cyI, 48, .inl tI)), (qh, .inl (cyJ, 55, .inr (.inl hv)))] := hD
  refine lv_iconst (v := 0) hx hb dX3_make_13 (by decide) ?_
  refine lv_istore (lv' := [(4, .int 0), (0, .ref ql), (1, .ref qr), (2, .int (nI lt)), (3, .int (b01 two))]) hx hb dX3_make_14 hl (by decide) rfl (fun ls hl => ?_)
  have loop : ∀ (k : Nat) (f : Nat) (Lb : Ls) (mB : Nat → Int64) (fB gB : Nat → Int32) (H : Heap) (locs : List Loc), f + k = 55 → mks hm lt (hvM sI n) two k f Lb = mks hm lt (hvM sI n) two 55 0 L0 → LstC Lb.2 Lb.1 mB fB gB → Srt hm Lb.2 Lb.1 → va_P dd vwCl [(ql, .inr (3, [.int (nI Lb.1), .long (lN hm), .ref ql1, .ref ql2, .ref ql3])), (ql1, .inl (cyJ, 535, .inr (.inl mB))), (ql2, .inl (cyI, 535, .inl fB)), (ql3, .inl (cyI, 535, .inl gB)), (qr, .inr (2, [.int (nI n), .long hi, .ref qt, .ref qh])), (qt, .inl (cyI, 48, .inl tI)), (qh, .inl (cyJ, 55, .inr (.inl hv)))] H → va_D A [(ql, .inr (3, [.int (nI Lb.1), .long (lN hm), .ref ql1, .ref ql2, .ref ql3])), (ql1, .inl (cyJ, 535, .inr (.inl mB))), (ql2, .inl (cyI, 535, .inl fB)), (ql3, .inl (cyI, 535, .inl gB)), (qr, .inr (2, [.int (nI n), .long hi, .ref qt, .ref qh])), (qt, .inl (cyI, 48, .inl tI)), (qh, .inl (cyJ, 55, .inr (.inl hv)))] → va_S A s.heap H locs → ∀ ls : Array Slot, lv_has ls 7 [(4, .int (nI f)), (0, .ref ql), (1, .ref qr), (2, .int (nI lt)), (3, .int (b01 two))] → W p l e ({ frames := 5, cells := 0, slots := 0, locals := 160 } : Room) s m ([.ref ql, .ref qr, .int (nI lt), .int (b01 two)] : List Value).toArray below meth c H locs 0 0 (MQ below (va_Qv (S := (Nat → Int64) × (Nat → Int32) × (Nat → Int32)) (fun (u : (Nat → Int64) × (Nat → Int32) × (Nat → Int32)) => LstC (mks hm lt (hvM sI n) two 55 0 L0).2 (mks hm lt (hvM sI n) two 55 0 L0).1 u.1 u.2.1 u.2.2) (WQ dd [(ql, .inr (3, [.int sz0, .long lh, .ref ql1, .ref ql2, .ref ql3])), (ql1, .inl (cyJ, 535, .inr (.inl mI))), (ql2, .inl (cyI, 535, .inl fI)), (ql3, .inl (cyI, 535, .inl gI)), (qr, .inr (2, [.int (nI n), .long hi, .ref qt, .ref qh])), (qt, .inl (cyI, 48, .inl tI)), (qh, .inl (cyJ, 55, .inr (.inl hv)))] sz (fun u => [(ql, .inr (3, [.int (nI (mks hm lt (hvM sI n) two 55 0 L0).1), .long (lN hm), .ref ql1, .ref ql2, .ref ql3])), (ql1, .inl (cyJ, 535, .inr (.inl u.1))), (ql2, .inl (cyI, 535, .inl u.2.1)), (ql3, .inl (cyI, 535, .inl u.2.2)), (qr, .inr (2, [.int (nI n), .long hi, .ref qt, .ref qh])), (qt, .inl (cyI, 48, .inl tI)), (qh, .inl (cyJ, 55, .inr (.inl hv)))])) A) ([.ref ql, .ref qr, .int (nI lt), .int (b01 two)] : List Value).toArray s 0 0 A) (F0 m 16 ls []) := by
    intro k
    induction k with
    | zero =>
      intro f Lb mB fB gB H locs hf he hEb hsb hP hD hS ls hl
      refine lv_iload hx hb dX3_make_16 (lv_at hl 0 rfl) ?_
      refine lv_bipush (v := 55) hx hb dX3_make_18 (by decide) ?_
      refine lv_icmp_ge (tgt := 68) hx hb dX3_make_20 (by decide) (fun q => ?_) (fun q => ?_)
      · have he : Lb = mks hm lt (hvM sI n) two 55 0 L0 := he
        subst he
        exact ewV (mB, fB, gB) hx hb hr hlocks hAe hS dX3_make_68 hEb (hP.sub [0, 1, 2, 3, 4, 5, 6] rfl) (hD.sub [0, 1, 2, 3, 4, 5, 6] (by decide) rfl)
      · exact absurd (nI_le (show 55 ≤ f by omega) (by omega)) q
    | succ k ih =>
      intro f Lb mB fB gB H locs hf he hEb hsb hP hD hS ls hl
      refine lv_iload hx hb dX3_make_16 (lv_at hl 0 rfl) ?_
      refine lv_bipush (v := 55) hx hb dX3_make_18 (by decide) ?_
      refine lv_icmp_ge (tgt := 68) hx hb dX3_make_20 (by decide) (fun q => ?_) (fun q => ?_)
      · exact absurd q (nI_ge (show f < 55 by omega) (by decide))
      · refine lv_aload_n hx hb dX3_make_23 rfl (lv_at hl 2 rfl) ?_
        refine va_getN (D := dd) (ci := 2) (C := RX2) (T := TX2) (N := 4) (v := .ref qh) hx hb hts hiX2 hown hK hP 4 rfl rfl 3 (by decide) (hN.f 16 rfl) (fun _ h9 => h9) rfl dX3_make_24 ?_
        refine lv_iload hx hb dX3_make_27 (lv_at hl 0 rfl) ?_
        refine va_lald hx hb hK hP 6 1 rfl rfl (i := nI f) (vp_in_nI (show f < 55 from (by omega)) (by decide)) dX3_make_29 ?_
        rw [nI_clamp (show f < 2 ^ 31 from Nat.lt_trans (show f < 55 from (by omega)) (by decide))]
        refine tpl (show (hv f : Int64) = lN (hvM sI n f) from hv_flat hR (by omega)) ?_
        refine lv_lstore (lv' := [(5, .long (lN (hvM sI n f))), (4, .int (nI f)), (0, .ref ql), (1, .ref qr), (2, .int (nI lt)), (3, .int (b01 two))]) hx hb dX3_make_30 hl (by decide) rfl (fun ls hl => ?_)
        refine lv_lload hx hb dX3_make_32 (lv_at hl 0 rfl) ?_
        have w1 := hvM_48 sI hn f
        have w4 := pop_le (hvM sI n f)
        refine clSi (As := [.long (lN (hvM sI n f))]) (rest := []) ⟨hx, hb, hml, hown, hts⟩ (c_bitCount l dd cyI cyJ cyZ (hvM sI n f) (by omega)) gX3_make_J13_bitCount_95d88 (n := 1) rfl ⟨rfl, rfl⟩ (by decide +kernel) ⟨Nat.le_of_ble_eq_true rfl, Nat.le_of_ble_eq_true rfl⟩ hN hK (hP.sub [] rfl) rfl hl.1 rfl (Nat.le_of_ble_eq_true rfl) dX3_make_34 ⟨Nat.le_of_ble_eq_true rfl, Nat.le_of_ble_eq_true rfl⟩ (fun r3 h3 => ?_)
        have h3 : r3 = nI (pop (hvM sI n f)) := h3
        subst h3
        refine lv_iload_n hx hb dX3_make_37 rfl (lv_at hl 4 rfl) ?_
        have hge := mks_ge hm lt (hvM sI n) two k (f + 1) (one1 hm lt (hvM sI n) two f Lb)
        have hge : (one1 hm lt (hvM sI n) two f Lb).1 ≤ (mks hm lt (hvM sI n) two 55 0 L0).1 := by rw [← he]; exact hge
        refine lv_icmp_lt (tgt := 62) hx hb dX3_make_38 (by decide) (fun q2 => ?_) (fun q2 => ?_)
        · have e1 : one1 hm lt (hvM sI n) two f Lb = Lb := by unfold one1; rw [if_neg (fun h => absurd ((nI_ltI (by omega) (by omega)).mp q2) (by omega))]
          refine lv_iinc (v := nI (f + 1)) (lv' := [(4, .int (nI (f + 1))), (5, .long (lN (hvM sI n f))), (0, .ref ql), (1, .ref qr), (2, .int (nI lt)), (3, .int (b01 two))]) hx hb dX3_make_62 hl (k := 1) rfl (nI_1 f) (by decide) rfl (fun ls hl => ?_)
          refine lv_goto (tgt := 16) hx hb dX3_make_65 (by decide) ?_
          exact ih (f + 1) Lb mB fB gB H locs (by omega) (by rw [← he, mks, e1]) hEb hsb (hP.sub [0, 1, 2, 3, 4, 5, 6] rfl) (hD.sub [0, 1, 2, 3, 4, 5, 6] (by decide) rfl) hS ls (lv_sub hl [0, 2, 3, 4, 5] rfl)
        · have c1 : lt ≤ pop (hvM sI n f) := Nat.le_of_not_lt (fun h => q2 (nI_lt h (by omega)))
          have e0 : one1 hm lt (hvM sI n) two f Lb = if two = true then prs hm lt (hvM sI n) f (55 - nx f) (nx f) (ins1 hm Lb (hvM sI n f, f, 0)) else (ins1 hm Lb (hvM sI n f, f, 0)) := by unfold one1; rw [if_pos c1]
          have hg1 : Lb.1 + 1 ≤ (one1 hm lt (hvM sI n) two f Lb).1 := by
            rw [e0]
            by_cases ht : two = true
            · rw [if_pos ht]; exact prs_ge hm lt (hvM sI n) f (55 - nx f) (nx f) (ins1 hm Lb (hvM sI n f, f, 0))
            · rw [if_neg ht]; exact Nat.le_refl _
          refine lv_aload_n hx hb dX3_make_41 rfl (lv_at hl 2 rfl) ?_
          refine lv_lload hx hb dX3_make_42 (lv_at hl 0 rfl) ?_
          refine lv_iload hx hb dX3_make_44 (lv_at hl 1 rfl) ?_
          refine lv_iconst (v := (-1)) hx hb dX3_make_46 (by decide) ?_
          refine tpi (show ((-1) : Int32) = sI2 0 from rfl) ?_
          refine clVwv (As := [.long (lN (hvM sI n f)), .int (nI f), .int (sI2 0)]) (rest := []) (b := ql) (vc := (RX3, TX3, 5)) (wr := [(qr, .inr (2, [.int (nI n), .long hi, .ref qt, .ref qh])), (qt, .inl (cyI, 48, .inl tI)), (qh, .inl (cyJ, 55, .inr (.inl hv)))]) ⟨hx, hb, hml, hown, hts⟩ (fun sz => c_insert l dd cyI cyJ cyZ ql ql1 ql2 ql3 Lb.1 hm (hvM sI n f) f 0 hhm w1 (by omega) mB fB gB Lb.2 hEb hsb sz) gX3_make_X3_insert (ci := 3) rfl (q0 := 0) rfl (n := 3) rfl ⟨rfl, rfl⟩ (by decide +kernel) ⟨Nat.le_of_ble_eq_true rfl, Nat.le_of_ble_eq_true rfl⟩ hN hK hP hD hS hA [0, 1, 2, 3] [4, 5, 6] rfl rfl (by decide) rfl (by decide) (by decide) rfl hl.1 rfl (Nat.le_of_ble_eq_true rfl) dX3_make_47 ⟨Nat.le_of_ble_eq_true rfl, Nat.le_of_ble_eq_true rfl⟩ (fun u1 H locs hu1 hP hD hS => ?_)
          have hP : va_P dd vwCl [(qr, .inr (2, [.int (nI n), .long hi, .ref qt, .ref qh])), (qt, .inl (cyI, 48, .inl tI)), (qh, .inl (cyJ, 55, .inr (.inl hv))), (ql, .inr (3, [.int (nI (Lb.1 + 1)), .long (lN hm), .ref ql1, .ref ql2, .ref ql3])), (ql1, .inl (cyJ, 535, .inr (.inl u1.1))), (ql2, .inl (cyI, 535, .inl u1.2.1)), (ql3, .inl (cyI, 535, .inl u1.2.2))] H := hP
          have hD : va_D A [(qr, .inr (2, [.int (nI n), .long hi, .ref qt, .ref qh])), (qt, .inl (cyI, 48, .inl tI)), (qh, .inl (cyJ, 55, .inr (.inl hv))), (ql, .inr (3, [.int (nI (Lb.1 + 1)), .long (lN hm), .ref ql1, .ref ql2, .ref ql3])), (ql1, .inl (cyJ, 535, .inr (.inl u1.1))), (ql2, .inl (cyI, 535, .inl u1.2.1)), (ql3, .inl (cyI, 535, .inl u1.2.2))] := hD
          refine lv_iload_n hx hb dX3_make_50 rfl (lv_at hl 5 rfl) ?_
          refine lv_if_eq (tgt := 62) hx hb dX3_make_51 (by decide) (fun q3 => ?_) (fun q3 => ?_)
          · have t0 := b01_0.mp q3
            refine lv_iinc (v := nI (f + 1)) (lv' := [(4, .int (nI (f + 1))), (5, .long (lN (hvM sI n f))), (0, .ref ql), (1, .ref qr), (2, .int (nI lt)), (3, .int (b01 two))]) hx hb dX3_make_62 hl (k := 1) rfl (nI_1 f) (by decide) rfl (fun ls hl => ?_)
            refine lv_goto (tgt := 16) hx hb dX3_make_65 (by decide) ?_
            exact ih (f + 1) (ins1 hm Lb (hvM sI n f, f, 0)) u1.1 u1.2.1 u1.2.2 H _ (by omega) (by rw [← he, mks, e0, if_neg (by rw [t0]; decide)]) hu1.1 (srt1 hsb) (hP.sub [3, 4, 5, 6, 0, 1, 2] rfl) (hD.sub [3, 4, 5, 6, 0, 1, 2] (by decide) rfl) hS ls (lv_sub hl [0, 2, 3, 4, 5] rfl)
          · have t1 : two = true := (Bool.not_eq_false _).mp (fun h => q3 (b01_0.mpr h))
            rw [if_pos t1] at e0
            refine lv_aload_n hx hb dX3_make_54 rfl (lv_at hl 2 rfl) ?_
            refine lv_aload_n hx hb dX3_make_55 rfl (lv_at hl 3 rfl) ?_
            refine lv_iload_n hx hb dX3_make_56 rfl (lv_at hl 4 rfl) ?_
            refine lv_iload hx hb dX3_make_57 (lv_at hl 1 rfl) ?_
            refine clVwv (As := [.ref qr, .int (nI lt), .int (nI f)]) (rest := []) (b := ql) (vc := (RX3, TX3, 5)) (wr := []) ⟨hx, hb, hml, hown, hts⟩ (fun sz => c_insertPairs l dd cyI cyJ cyZ ql ql1 ql2 ql3 qr qt qh n hi tI hv hI sI hR hm lt f hhm hlt (by omega) u1.1 u1.2.1 u1.2.2 (ins1 hm Lb (hvM sI n f, f, 0)) hu1.1 (srt1 hsb) (by rw [← e0]; omega) sz) gX3_make_X3_insertPairs (ci := 3) rfl (q0 := 0) rfl (n := 3) rfl ⟨rfl, rfl⟩ (by decide +kernel) ⟨Nat.le_of_ble_eq_true rfl, Nat.le_of_ble_eq_true rfl⟩ hN hK hP hD hS hA [3, 4, 5, 6, 0, 1, 2] [] rfl rfl (by decide) rfl (by decide) (by decide) rfl hl.1 rfl (Nat.le_of_ble_eq_true rfl) dX3_make_59 ⟨Nat.le_of_ble_eq_true rfl, Nat.le_of_ble_eq_true rfl⟩ (fun u2 H locs hu2 hP hD hS => ?_)
            have hP : va_P dd vwCl [(ql, .inr (3, [.int (nI (prs hm lt (hvM sI n) f (55 - nx f) (nx f) (ins1 hm Lb (hvM sI n f, f, 0))).1), .long (lN hm), .ref ql1, .ref ql2, .ref ql3])), (ql1, .inl (cyJ, 535, .inr (.inl u2.1))), (ql2, .inl (cyI, 535, .inl u2.2.1)), (ql3, .inl (cyI, 535, .inl u2.2.2)), (qr, .inr (2, [.int (nI n), .long hi, .ref qt, .ref qh])), (qt, .inl (cyI, 48, .inl tI)), (qh, .inl (cyJ, 55, .inr (.inl hv)))] H := hP
            have hD : va_D A [(ql, .inr (3, [.int (nI (prs hm lt (hvM sI n) f (55 - nx f) (nx f) (ins1 hm Lb (hvM sI n f, f, 0))).1), .long (lN hm), .ref ql1, .ref ql2, .ref ql3])), (ql1, .inl (cyJ, 535, .inr (.inl u2.1))), (ql2, .inl (cyI, 535, .inl u2.2.1)), (ql3, .inl (cyI, 535, .inl u2.2.2)), (qr, .inr (2, [.int (nI n), .long hi, .ref qt, .ref qh])), (qt, .inl (cyI, 48, .inl tI)), (qh, .inl (cyJ, 55, .inr (.inl hv)))] := hD
            refine lv_iinc (v := nI (f + 1)) (lv' := [(4, .int (nI (f + 1))), (5, .long (lN (hvM sI n f))), (0, .ref ql), (1, .ref qr), (2, .int (nI lt)), (3, .int (b01 two))]) hx hb dX3_make_62 hl (k := 1) rfl (nI_1 f) (by decide) rfl (fun ls hl => ?_)
            refine lv_goto (tgt := 16) hx hb dX3_make_65 (by decide) ?_
            exact ih (f + 1) (prs hm lt (hvM sI n) f (55 - nx f) (nx f) (ins1 hm Lb (hvM sI n f, f, 0))) u2.1 u2.2.1 u2.2.2 H _ (by omega) (by rw [← he, mks, e0]) hu2 (prs_srt _ _ _ (srt1 hsb)) (hP.sub [0, 1, 2, 3, 4, 5, 6] rfl) (hD.sub [0, 1, 2, 3, 4, 5, 6] (by decide) rfl) hS ls (lv_sub hl [0, 2, 3, 4, 5] rfl)
  exact loop 55 0 L0 mI fI gI H _ rfl rfl (fun j h => absurd h (Nat.not_lt_zero j)) (fun i j _ h => absurd h (Nat.not_lt_zero j)) hP hD hS ls (lv_sub hl [0, 1, 2, 3, 4] rfl)
