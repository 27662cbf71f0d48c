theorem aw_s (off has : Nat → Bool) (hd k : Nat) : (aw off has hd (k + 1)).2.2.1 = (aw off has hd k).2.2.1 + (if (aw off has hd (k + 1)).1 = true then 1 else 0) := by
  by_cases h : off k = true
  · rw [aw_o h]; rfl
  · by_cases h2 : has k = true ∧ (aw off has hd k).1 = true
    · rw [aw_c h h2]; simp
    · rw [aw_n h h2]
theorem aw_le (off has : Nat → Bool) (hd : Nat) : ∀ k, (aw off has hd k).2.1 ≤ k ∧ (aw off has hd k).2.2.1 ≤ k ∧ (aw off has hd k).2.2.2 ≤ k
  | 0 => by simp [aw]
  | k + 1 => by
    have h0 := aw_le off has hd k
    by_cases h : off k = true
    · rw [aw_o h]; dsimp only; split <;> omega
    · by_cases h2 : has k = true ∧ (aw off has hd k).1 = true
      · rw [aw_c h h2]; dsimp only; split <;> omega
      · rw [aw_n h h2]; dsimp only; split <;> omega

set_option maxHeartbeats 4000000 in
set_option maxRecDepth 100000 in
theorem c_raise (l : Launch) (dd : va_G) (cyI cyJ cyZ : ClassId) (qa qa1 qa2 qa3 : Nat) (ba le al : Int32) (st hd : Nat) (hst : st ≤ 100) (hhd : hd ≤ 100) (rI oI u0 : Nat → Int32) (off has : Nat → Bool) (rw0 : Nat → Nat) (ho : ∀ k, k < st → oI k = b01 (off k)) (hr0 : ∀ k, k < st → rI k = nI (rw0 k) ∧ rw0 k ≤ 48 ∧ has k = decide (¬ rw0 k = 0)) (sz : Nat) : Met l yX0_raise wsX0_raise ({ frames := 0, cells := 0, slots := 0, locals := 0 } : Room) (va_Pc [.ref qa, .int (nI hd)] (Wr dd [(cyI, .int), (cyJ, .long), (cyZ, .boolean)] [(qa, .inr (0, [.int ba, .int le, .int (nI st), .int al, .ref qa1, .ref qa2, .ref qa3])), (qa1, .inl (cyI, 100, .inl rI)), (qa2, .inl (cyZ, 100, .inl oI)), (qa3, .inl (cyZ, 100, .inl u0))] sz)) (va_Qi (S := (Nat → Int32)) (fun (r : Int32) (u : Nat → Int32) => r = nI (aw off has hd st).2.2.1 ∧ ∀ k, k < st → u k = b01 (aw off has hd (k + 1)).1) (WQ dd [(qa, .inr (0, [.int ba, .int le, .int (nI st), .int al, .ref qa1, .ref qa2, .ref qa3])), (qa1, .inl (cyI, 100, .inl rI)), (qa2, .inl (cyZ, 100, .inl oI)), (qa3, .inl (cyZ, 100, .inl u0))] sz (fun u => [(qa, .inr (0, [.int ba, .int le, .int (nI st), .int (nI (aw off has hd st).2.2.2), .ref qa1, .ref qa2, .ref qa3])), (qa1, .inl (cyI, 100, .inl rI)), (qa2, .inl (cyZ, 100, .inl oI)), (qa3, .inl (cyZ, 100, .inl u))])) (va_A [(qa, .inr (0, [.int ba, .int le, .int (nI st), .int al, .ref qa1, .ref qa2, .ref qa3])), (qa1, .inl (cyI, 100, .inl rI)), (qa2, .inl (cyZ, 100, .inl oI)), (qa3, .inl (cyZ, 100, .inl u0))] sz)) 0 0 (va_A [(qa, .inr (0, [.int ba, .int le, .int (nI st), .int al, .ref qa1, .ref qa2, .ref qa3])), (qa1, .inl (cyI, 100, .inl rI)), (qa2, .inl (cyZ, 100, .inl oI)), (qa3, .inl (cyZ, 100, .inl u0))] sz) := by
  refine mkW (Qc := fun A => (va_Qi (S := (Nat → Int32)) (fun (r : Int32) (u : Nat → Int32) => r = nI (aw off has hd st).2.2.1 ∧ ∀ k, k < st → u k = b01 (aw off has hd (k + 1)).1) (WQ dd [(qa, .inr (0, [.int ba, .int le, .int (nI st), .int al, .ref qa1, .ref qa2, .ref qa3])), (qa1, .inl (cyI, 100, .inl rI)), (qa2, .inl (cyZ, 100, .inl oI)), (qa3, .inl (cyZ, 100, .inl u0))] sz (fun u => [(qa, .inr (0, [.int ba, .int le, .int (nI st), .int (nI (aw off has hd st).2.2.2), .ref qa1, .ref qa2, .ref qa3])), (qa1, .inl (cyI, 100, .inl rI)), (qa2, .inl (cyZ, 100, .inl oI)), (qa3, .inl (cyZ, 100, .inl u))])) A)) (cc := cX0_raise) (maxL := 6) (by decide) rfl (Nat.le_of_ble_eq_true rfl) (lv0 := [(0, .ref qa), (1, .int (nI hd))]) rfl ?_
  intro p e s m below meth c ls H A hx hb hr hml hown hlocks hts hmn hN hP hK hD hS hA hAe hl
  have hown : s.vm.findClass RX0 = some m.cls := hown
  have hiX0 : ∀ w ∈ wsX00, w ∈ wsX0_raise := by decide +kernel
  refine lv_iconst (v := 0) hx hb dX0_raise_0 (by decide) ?_
  refine lv_istore_n (lv' := [(2, .int 0), (0, .ref qa), (1, .int (nI hd))]) hx hb dX0_raise_1 rfl hl (by decide) rfl (fun ls hl => ?_)
  refine lv_iconst (v := 0) hx hb dX0_raise_2 (by decide) ?_
  refine lv_istore_n (lv' := [(3, .int 0), (2, .int 0), (0, .ref qa), (1, .int (nI hd))]) hx hb dX0_raise_3 rfl hl (by decide) rfl (fun ls hl => ?_)
  refine lv_iconst (v := 0) hx hb dX0_raise_4 (by decide) ?_
  refine lv_istore (lv' := [(4, .int 0), (3, .int 0), (2, .int 0), (0, .ref qa), (1, .int (nI hd))]) hx hb dX0_raise_5 hl (by decide) rfl (fun ls hl => ?_)
  refine lv_aload_n hx hb dX0_raise_7 rfl (lv_at hl 3 rfl) ?_
  refine lv_iconst (v := 0) hx hb dX0_raise_8 (by decide) ?_
  refine va_put (D := dd) (ci := 0) (v := .int 0) (ty := .int) (C := RX0) (T := TX0) (N := 7) hx hb hts hiX0 tyX0 tyX0_ok nmX0 hown hK hP hD hS 0 rfl rfl 3 (by decide) (hts (.fieldLink RX0 21 "SliceDrift$Alarms" "begun" "I") (by decide +kernel)) (fun _ h9 => h9) rfl (by decide +kernel) rfl rfl (Nat.le_of_ble_eq_true rfl) dX0_raise_9 (fun H locs hP hD hS => ?_)
  have hP : va_P dd vwCl [(qa, .inr (0, [.int ba, .int le, .int (nI st), .int 0, .ref qa1, .ref qa2, .ref qa3])), (qa1, .inl (cyI, 100, .inl rI)), (qa2, .inl (cyZ, 100, .inl oI)), (qa3, .inl (cyZ, 100, .inl u0))] H := hP
  have hD : va_D A [(qa, .inr (0, [.int ba, .int le, .int (nI st), .int 0, .ref qa1, .ref qa2, .ref qa3])), (qa1, .inl (cyI, 100, .inl rI)), (qa2, .inl (cyZ, 100, .inl oI)), (qa3, .inl (cyZ, 100, .inl u0))] := hD
  refine lv_iconst (v := 0) hx hb dX0_raise_12 (by decide) ?_
  refine lv_istore (lv' := [(5, .int 0), (4, .int 0), (3, .int 0), (2, .int 0), (0, .ref qa), (1, .int (nI hd))]) hx hb dX0_raise_13 hl (by decide) rfl (fun ls hl => ?_)
  have loop : ∀ (k : Nat) (j cB : Nat) (uB : Nat → Int32) (H : Heap) (locs : List Loc), j + k = st → cB ≤ j → ((aw off has hd j).1 = true → cB = (aw off has hd j).2.1) → (∀ k, k < j → uB k = b01 (aw off has hd (k + 1)).1) → va_P dd vwCl [(qa, .inr (0, [.int ba, .int le, .int (nI st), .int (nI (aw off has hd j).2.2.2), .ref qa1, .ref qa2, .ref qa3])), (qa1, .inl (cyI, 100, .inl rI)), (qa2, .inl (cyZ, 100, .inl oI)), (qa3, .inl (cyZ, 100, .inl uB))] H → va_D A [(qa, .inr (0, [.int ba, .int le, .int (nI st), .int (nI (aw off has hd j).2.2.2), .ref qa1, .ref qa2, .ref qa3])), (qa1, .inl (cyI, 100, .inl rI)), (qa2, .inl (cyZ, 100, .inl oI)), (qa3, .inl (cyZ, 100, .inl uB))] → va_S A s.heap H locs → ∀ ls : Array Slot, lv_has ls 6 [(5, .int (nI j)), (4, .int (nI (aw off has hd j).2.2.1)), (3, .int (nI cB)), (2, .int (b01 (aw off has hd j).1)), (0, .ref qa), (1, .int (nI hd))] → W p l e ({ frames := 0, cells := 0, slots := 0, locals := 0 } : Room) s m ([.ref qa, .int (nI hd)] : List Value).toArray below meth c H locs 0 0 (MQ below (va_Qi (S := (Nat → Int32)) (fun (r : Int32) (u : Nat → Int32) => r = nI (aw off has hd st).2.2.1 ∧ ∀ k, k < st → u k = b01 (aw off has hd (k + 1)).1) (WQ dd [(qa, .inr (0, [.int ba, .int le, .int (nI st), .int al, .ref qa1, .ref qa2, .ref qa3])), (qa1, .inl (cyI, 100, .inl rI)), (qa2, .inl (cyZ, 100, .inl oI)), (qa3, .inl (cyZ, 100, .inl u0))] sz (fun u => [(qa, .inr (0, [.int ba, .int le, .int (nI st), .int (nI (aw off has hd st).2.2.2), .ref qa1, .ref qa2, .ref qa3])), (qa1, .inl (cyI, 100, .inl rI)), (qa2, .inl (cyZ, 100, .inl oI)), (qa3, .inl (cyZ, 100, .inl u))])) A) ([.ref qa, .int (nI hd)] : List Value).toArray s 0 0 A) (F0 m 15 ls []) := by
    intro k
    induction k with
    | zero =>
      intro j cB uB H locs hj9 hcb hc hu hP hD hS ls hl
      refine lv_iload hx hb dX0_raise_15 (lv_at hl 0 rfl) ?_
      refine lv_aload_n hx hb dX0_raise_17 rfl (lv_at hl 4 rfl) ?_
      refine va_get (D := dd) (ci := 0) (C := RX0) (T := TX0) (N := 7) (v := .int (nI st)) hx hb hts hiX0 hown hK hP 0 rfl rfl 2 (by decide) (hts (.fieldLink RX0 18 "SliceDrift$Alarms" "size" "I") (by decide +kernel)) (fun _ h9 => h9) rfl dX0_raise_18 ?_
      refine lv_icmp_ge (tgt := 115) hx hb dX0_raise_21 (by decide) (fun q => ?_) (fun q => ?_)
      · rw [show j = st by omega] at hP hD hl hu
        refine lv_iload hx hb dX0_raise_115 (lv_at hl 1 rfl) ?_
        exact ewI uB hx hb hr hlocks hAe hS dX0_raise_117 (⟨rfl, hu⟩) (hP.sub [0, 1, 2, 3] rfl) (hD.sub [0, 1, 2, 3] (by decide) rfl)
      · exact absurd (nI_le (show st ≤ j by omega) (by omega)) q
    | succ k ih =>
      intro j cB uB H locs hj9 hcb hc hu hP hD hS ls hl
      refine lv_iload hx hb dX0_raise_15 (lv_at hl 0 rfl) ?_
      refine lv_aload_n hx hb dX0_raise_17 rfl (lv_at hl 4 rfl) ?_
      refine va_get (D := dd) (ci := 0) (C := RX0) (T := TX0) (N := 7) (v := .int (nI st)) hx hb hts hiX0 hown hK hP 0 rfl rfl 2 (by decide) (hts (.fieldLink RX0 18 "SliceDrift$Alarms" "size" "I") (by decide +kernel)) (fun _ h9 => h9) rfl dX0_raise_18 ?_
      refine lv_icmp_ge (tgt := 115) hx hb dX0_raise_21 (by decide) (fun q => ?_) (fun q => ?_)
      · exact absurd q (nI_ge (show j < st by omega) (by omega))
      · have m87 : ∀ (c2 : Nat) (H : Heap) (locs : List Loc), c2 ≤ j + 1 → ((aw off has hd (j + 1)).1 = true → c2 = (aw off has hd (j + 1)).2.1) → va_P dd vwCl [(qa, .inr (0, [.int ba, .int le, .int (nI st), .int (nI (aw off has hd (j + 1)).2.2.2), .ref qa1, .ref qa2, .ref qa3])), (qa1, .inl (cyI, 100, .inl rI)), (qa2, .inl (cyZ, 100, .inl oI)), (qa3, .inl (cyZ, 100, .inl uB))] H → va_D A [(qa, .inr (0, [.int ba, .int le, .int (nI st), .int (nI (aw off has hd (j + 1)).2.2.2), .ref qa1, .ref qa2, .ref qa3])), (qa1, .inl (cyI, 100, .inl rI)), (qa2, .inl (cyZ, 100, .inl oI)), (qa3, .inl (cyZ, 100, .inl uB))] → va_S A s.heap H locs → ∀ ls : Array Slot, lv_has ls 6 [(2, .int (b01 (aw off has hd (j + 1)).1)), (3, .int (nI c2)), (5, .int (nI j)), (4, .int (nI (aw off has hd j).2.2.1)), (0, .ref qa), (1, .int (nI hd))] → W p l e ({ frames := 0, cells := 0, slots := 0, locals := 0 } : Room) s m ([.ref qa, .int (nI hd)] : List Value).toArray below meth c H locs 0 0 (MQ below (va_Qi (S := (Nat → Int32)) (fun (r : Int32) (u : Nat → Int32) => r = nI (aw off has hd st).2.2.1 ∧ ∀ k, k < st → u k = b01 (aw off has hd (k + 1)).1) (WQ dd [(qa, .inr (0, [.int ba, .int le, .int (nI st), .int al, .ref qa1, .ref qa2, .ref qa3])), (qa1, .inl (cyI, 100, .inl rI)), (qa2, .inl (cyZ, 100, .inl oI)), (qa3, .inl (cyZ, 100, .inl u0))] sz (fun u => [(qa, .inr (0, [.int ba, .int le, .int (nI st), .int (nI (aw off has hd st).2.2.2), .ref qa1, .ref qa2, .ref qa3])), (qa1, .inl (cyI, 100, .inl rI)), (qa2, .inl (cyZ, 100, .inl oI)), (qa3, .inl (cyZ, 100, .inl u))])) A) ([.ref qa, .int (nI hd)] : List Value).toArray s 0 0 A) (F0 m 87 ls []) := by
          intro c2 H locs hc2 hcc hP hD hS ls hl
          refine lv_aload_n hx hb dX0_raise_87 rfl (lv_at hl 4 rfl) ?_
          refine va_get (D := dd) (ci := 0) (C := RX0) (T := TX0) (N := 7) (v := .ref qa3) hx hb hts hiX0 hown hK hP 0 rfl rfl 6 (by decide) (hts (.fieldLink RX0 32 "SliceDrift$Alarms" "up" "[Z") (by decide +kernel)) (fun _ h9 => h9) rfl dX0_raise_88 ?_
          refine lv_iload hx hb dX0_raise_91 (lv_at hl 2 rfl) ?_
          refine lv_iload_n hx hb dX0_raise_93 rfl (lv_at hl 0 rfl) ?_
          refine va_zast hx hb hK hP hD hS 3 2 rfl rfl (i := nI j) (vp_in_nI (show j < 100 from (by omega)) (by decide)) dX0_raise_94 (fun H locs hP hD hS => ?_)
          rw [nI_clamp (show j < 2 ^ 31 from Nat.lt_trans (show j < 100 from (by omega)) (by decide)), z01 (b01_z _)] at hP hD
          have hP : va_P dd vwCl [(qa, .inr (0, [.int ba, .int le, .int (nI st), .int (nI (aw off has hd (j + 1)).2.2.2), .ref qa1, .ref qa2, .ref qa3])), (qa1, .inl (cyI, 100, .inl rI)), (qa2, .inl (cyZ, 100, .inl oI)), (qa3, .inl (cyZ, 100, .inl (upd uB j (b01 (aw off has hd (j + 1)).1))))] H := hP
          have hD : va_D A [(qa, .inr (0, [.int ba, .int le, .int (nI st), .int (nI (aw off has hd (j + 1)).2.2.2), .ref qa1, .ref qa2, .ref qa3])), (qa1, .inl (cyI, 100, .inl rI)), (qa2, .inl (cyZ, 100, .inl oI)), (qa3, .inl (cyZ, 100, .inl (upd uB j (b01 (aw off has hd (j + 1)).1))))] := hD
          refine lv_iload hx hb dX0_raise_95 (lv_at hl 3 rfl) ?_
          refine lv_iload_n hx hb dX0_raise_97 rfl (lv_at hl 0 rfl) ?_
          refine lv_if_eq (tgt := 105) hx hb dX0_raise_98 (by decide) (fun qz => ?_) (fun qz => ?_)
          · refine lv_iconst (v := 0) hx hb dX0_raise_105 (by decide) ?_
            refine lv_iadd hx hb dX0_raise_106 ?_
            refine tpi (show ((nI (aw off has hd j).2.2.1) + 0 : Int32) = nI (aw off has hd (j + 1)).2.2.1 from by rw [aw_s, b01_0.mp qz]; exact Int32.add_zero _) ?_
            refine lv_istore (lv' := [(4, .int (nI (aw off has hd (j + 1)).2.2.1)), (2, .int (b01 (aw off has hd (j + 1)).1)), (3, .int (nI c2)), (5, .int (nI j)), (0, .ref qa), (1, .int (nI hd))]) hx hb dX0_raise_107 hl (by decide) rfl (fun ls hl => ?_)
            refine lv_iinc (v := nI (j + 1)) (lv' := [(5, .int (nI (j + 1))), (4, .int (nI (aw off has hd (j + 1)).2.2.1)), (2, .int (b01 (aw off has hd (j + 1)).1)), (3, .int (nI c2)), (0, .ref qa), (1, .int (nI hd))]) hx hb dX0_raise_109 hl (k := 3) rfl (nI_1 j) (by decide) rfl (fun ls hl => ?_)
            refine lv_goto (tgt := 15) hx hb dX0_raise_112 (by decide) ?_
            exact ih (j + 1) c2 (upd uB j (b01 (aw off has hd (j + 1)).1)) H locs (by omega) hc2 hcc (fun k9 h9 => (Nat.lt_or_ge k9 j).elim (fun h => by rw [pk_un (by omega)]; exact hu k9 h) (fun h => by rw [show k9 = j by omega, pk_us])) hP hD hS ls (lv_sub hl [0, 1, 3, 2, 4, 5] rfl)
          · refine lv_iconst (v := 1) hx hb dX0_raise_101 (by decide) ?_
            refine lv_goto (tgt := 106) hx hb dX0_raise_102 (by decide) ?_
            refine lv_iadd hx hb dX0_raise_106 ?_
            refine tpi (show ((nI (aw off has hd j).2.2.1) + 1 : Int32) = nI (aw off has hd (j + 1)).2.2.1 from by rw [aw_s, (Bool.not_eq_false _).mp (fun h => qz (b01_0.mpr h))]; exact nI_1 _) ?_
            refine lv_istore (lv' := [(4, .int (nI (aw off has hd (j + 1)).2.2.1)), (2, .int (b01 (aw off has hd (j + 1)).1)), (3, .int (nI c2)), (5, .int (nI j)), (0, .ref qa), (1, .int (nI hd))]) hx hb dX0_raise_107 hl (by decide) rfl (fun ls hl => ?_)
            refine lv_iinc (v := nI (j + 1)) (lv' := [(5, .int (nI (j + 1))), (4, .int (nI (aw off has hd (j + 1)).2.2.1)), (2, .int (b01 (aw off has hd (j + 1)).1)), (3, .int (nI c2)), (0, .ref qa), (1, .int (nI hd))]) hx hb dX0_raise_109 hl (k := 3) rfl (nI_1 j) (by decide) rfl (fun ls hl => ?_)
            refine lv_goto (tgt := 15) hx hb dX0_raise_112 (by decide) ?_
            exact ih (j + 1) c2 (upd uB j (b01 (aw off has hd (j + 1)).1)) H locs (by omega) hc2 hcc (fun k9 h9 => (Nat.lt_or_ge k9 j).elim (fun h => by rw [pk_un (by omega)]; exact hu k9 h) (fun h => by rw [show k9 = j by omega, pk_us])) hP hD hS ls (lv_sub hl [0, 1, 3, 2, 4, 5] rfl)
        obtain ⟨er, hr4, hh⟩ := hr0 j (by omega)
        have eo := ho j (by omega)
        refine lv_aload_n hx hb dX0_raise_24 rfl (lv_at hl 4 rfl) ?_
        refine va_get (D := dd) (ci := 0) (C := RX0) (T := TX0) (N := 7) (v := .ref qa2) hx hb hts hiX0 hown hK hP 0 rfl rfl 5 (by decide) (hts (.fieldLink RX0 28 "SliceDrift$Alarms" "off" "[Z") (by decide +kernel)) (fun _ h9 => h9) rfl dX0_raise_25 ?_
        refine lv_iload hx hb dX0_raise_28 (lv_at hl 0 rfl) ?_
        refine va_zald hx hb hK hP 2 2 rfl rfl (i := nI j) (vp_in_nI (show j < 100 from (by omega)) (by decide)) dX0_raise_30 ?_
        rw [nI_clamp (show j < 2 ^ 31 from Nat.lt_trans (show j < 100 from (by omega)) (by decide))]
        refine tpi (show (oI j : Int32) = b01 (off j) from eo) ?_
        refine lv_if_eq (tgt := 59) hx hb dX0_raise_31 (by decide) (fun q2 => ?_) (fun q2 => ?_)
        · have o0 : ¬ off j = true := by rw [b01_0.mp q2]; decide
          refine lv_aload_n hx hb dX0_raise_59 rfl (lv_at hl 4 rfl) ?_
          refine va_get (D := dd) (ci := 0) (C := RX0) (T := TX0) (N := 7) (v := .ref qa1) hx hb hts hiX0 hown hK hP 0 rfl rfl 4 (by decide) (hts (.fieldLink RX0 24 "SliceDrift$Alarms" "stepRows" "[I") (by decide +kernel)) (fun _ h9 => h9) rfl dX0_raise_60 ?_
          refine lv_iload hx hb dX0_raise_63 (lv_at hl 0 rfl) ?_
          refine va_iald hx hb hK hP 1 0 rfl rfl (i := nI j) (vp_in_nI (show j < 100 from (by omega)) (by decide)) dX0_raise_65 ?_
          rw [nI_clamp (show j < 2 ^ 31 from Nat.lt_trans (show j < 100 from (by omega)) (by decide))]
          refine tpi (show (rI j : Int32) = nI (rw0 j) from er) ?_
          refine lv_if_le (tgt := 87) hx hb dX0_raise_66 (by decide) (fun q3 => ?_) (fun q3 => ?_)
          · have r9 : rw0 j = 0 := Nat.le_zero.mp ((nI_leI (b := 0) (by omega) (by decide)).mp q3)
            have an := aw_n (has := has) (hd := hd) o0 (fun h => by rw [hh, r9] at h; exact absurd h.1 (by decide))
            exact m87 cB H locs (by omega) (by rw [an]; exact hc) (by rw [an]; exact hP) (by rw [an]; exact hD) hS ls (by rw [an]; exact (lv_sub hl [3, 2, 0, 1, 4, 5] rfl))
          · have r9 : ¬ rw0 j = 0 := fun h => q3 (by rw [h]; decide)
            have h1 : has j = true := by rw [hh]; exact decide_eq_true r9
            refine lv_iinc (v := nI (cB + 1)) (lv' := [(3, .int (nI (cB + 1))), (5, .int (nI j)), (4, .int (nI (aw off has hd j).2.2.1)), (2, .int (b01 (aw off has hd j).1)), (0, .ref qa), (1, .int (nI hd))]) hx hb dX0_raise_69 hl (k := 2) rfl (nI_1 cB) (by decide) rfl (fun ls hl => ?_)
            refine lv_iload_n hx hb dX0_raise_72 rfl (lv_at hl 3 rfl) ?_
            refine lv_if_eq (tgt := 85) hx hb dX0_raise_73 (by decide) (fun q4 => ?_) (fun q4 => ?_)
            · have u0f := b01_0.mp q4
              have an := aw_n (has := has) (hd := hd) o0 (fun h => by rw [u0f] at h; exact absurd h.2 (by decide))
              refine lv_iconst (v := 0) hx hb dX0_raise_85 (by decide) ?_
              refine tpi (show (0 : Int32) = b01 (aw off has hd (j + 1)).1 from by rw [an, u0f]; rfl) ?_
              refine lv_istore_n (lv' := [(2, .int (b01 (aw off has hd (j + 1)).1)), (3, .int (nI (cB + 1))), (5, .int (nI j)), (4, .int (nI (aw off has hd j).2.2.1)), (0, .ref qa), (1, .int (nI hd))]) hx hb dX0_raise_86 rfl hl (by decide) rfl (fun ls hl => ?_)
              exact m87 (cB + 1) H locs (by omega) (fun h => by rw [an, u0f] at h; exact absurd h (by decide)) (by rw [an]; exact hP) (by rw [an]; exact hD) hS ls (lv_sub hl [0, 1, 2, 3, 4, 5] rfl)
            · have u1t : (aw off has hd j).1 = true := (Bool.not_eq_false _).mp (fun h => q4 (b01_0.mpr h))
              have ac := aw_c (has := has) (hd := hd) o0 ⟨h1, u1t⟩
              have ecc := hc u1t
              refine lv_iload_n hx hb dX0_raise_76 rfl (lv_at hl 0 rfl) ?_
              refine lv_iload_n hx hb dX0_raise_77 rfl (lv_at hl 5 rfl) ?_
              refine lv_icmp_ge (tgt := 85) hx hb dX0_raise_78 (by decide) (fun q5 => ?_) (fun q5 => ?_)
              · refine lv_iconst (v := 0) hx hb dX0_raise_85 (by decide) ?_
                refine tpi (show (0 : Int32) = b01 (aw off has hd (j + 1)).1 from by rw [ac]; show _ = b01 (decide _); rw [decide_eq_false (fun h => absurd ((nI_leI (by omega) (by omega)).mp q5) (by omega))]; rfl) ?_
                refine lv_istore_n (lv' := [(2, .int (b01 (aw off has hd (j + 1)).1)), (3, .int (nI (cB + 1))), (5, .int (nI j)), (4, .int (nI (aw off has hd j).2.2.1)), (0, .ref qa), (1, .int (nI hd))]) hx hb dX0_raise_86 rfl hl (by decide) rfl (fun ls hl => ?_)
                exact m87 (cB + 1) H locs (by omega) (fun _ => by rw [ac, ecc]) (by rw [ac]; exact hP) (by rw [ac]; exact hD) hS ls (lv_sub hl [0, 1, 2, 3, 4, 5] rfl)
              · refine lv_iconst (v := 1) hx hb dX0_raise_81 (by decide) ?_
                refine lv_goto (tgt := 86) hx hb dX0_raise_82 (by decide) ?_
                refine tpi (show (1 : Int32) = b01 (aw off has hd (j + 1)).1 from by rw [ac]; show _ = b01 (decide _); rw [decide_eq_true (Nat.lt_of_not_le (fun h => q5 (nI_le (by omega) (by omega))))]; rfl) ?_
                refine lv_istore_n (lv' := [(2, .int (b01 (aw off has hd (j + 1)).1)), (3, .int (nI (cB + 1))), (5, .int (nI j)), (4, .int (nI (aw off has hd j).2.2.1)), (0, .ref qa), (1, .int (nI hd))]) hx hb dX0_raise_86 rfl hl (by decide) rfl (fun ls hl => ?_)
                exact m87 (cB + 1) H locs (by omega) (fun _ => by rw [ac, ecc]) (by rw [ac]; exact hP) (by rw [ac]; exact hD) hS ls (lv_sub hl [0, 1, 2, 3, 4, 5] rfl)
        · have o1 : off j = true := (Bool.not_eq_false _).mp (fun h => q2 (b01_0.mpr h))
          refine lv_aload_n hx hb dX0_raise_34 rfl (lv_at hl 4 rfl) ?_
          refine lv_dup hx hb dX0_raise_35 rfl ?_
          refine va_get (D := dd) (ci := 0) (C := RX0) (T := TX0) (N := 7) (v := .int (nI (aw off has hd j).2.2.2)) hx hb hts hiX0 hown hK hP 0 rfl rfl 3 (by decide) (hts (.fieldLink RX0 21 "SliceDrift$Alarms" "begun" "I") (by decide +kernel)) (fun _ h9 => h9) rfl dX0_raise_36 ?_
          refine lv_iload_n hx hb dX0_raise_39 rfl (lv_at hl 3 rfl) ?_
          have m48 : W p l e ({ frames := 0, cells := 0, slots := 0, locals := 0 } : Room) s m ([.ref qa, .int (nI hd)] : List Value).toArray below meth c H locs 0 0 (MQ below (va_Qi (S := (Nat → Int32)) (fun (r : Int32) (u : Nat → Int32) => r = nI (aw off has hd st).2.2.1 ∧ ∀ k, k < st → u k = b01 (aw off has hd (k + 1)).1) (WQ dd [(qa, .inr (0, [.int ba, .int le, .int (nI st), .int al, .ref qa1, .ref qa2, .ref qa3])), (qa1, .inl (cyI, 100, .inl rI)), (qa2, .inl (cyZ, 100, .inl oI)), (qa3, .inl (cyZ, 100, .inl u0))] sz (fun u => [(qa, .inr (0, [.int ba, .int le, .int (nI st), .int (nI (aw off has hd st).2.2.2), .ref qa1, .ref qa2, .ref qa3])), (qa1, .inl (cyI, 100, .inl rI)), (qa2, .inl (cyZ, 100, .inl oI)), (qa3, .inl (cyZ, 100, .inl u))])) A) ([.ref qa, .int (nI hd)] : List Value).toArray s 0 0 A) (F0 m 48 ls [.int (nI (if (aw off has hd j).1 = true then 0 else 1)), .int (nI (aw off has hd j).2.2.2), .ref qa]) := by
            refine lv_iadd hx hb dX0_raise_48 ?_
            refine tpi (show ((nI (aw off has hd j).2.2.2) + (nI (if (aw off has hd j).1 = true then 0 else 1)) : Int32) = nI (aw off has hd (j + 1)).2.2.2 from by rw [nI_add, aw_o o1]) ?_
            refine va_put (D := dd) (ci := 0) (v := .int (nI (aw off has hd (j + 1)).2.2.2)) (ty := .int) (C := RX0) (T := TX0) (N := 7) hx hb hts hiX0 tyX0 tyX0_ok nmX0 hown hK hP hD hS 0 rfl rfl 3 (by decide) (hts (.fieldLink RX0 21 "SliceDrift$Alarms" "begun" "I") (by decide +kernel)) (fun _ h9 => h9) rfl (by decide +kernel) rfl rfl (Nat.le_of_ble_eq_true rfl) dX0_raise_49 (fun H locs hP hD hS => ?_)
            have hP : va_P dd vwCl [(qa, .inr (0, [.int ba, .int le, .int (nI st), .int (nI (aw off has hd (j + 1)).2.2.2), .ref qa1, .ref qa2, .ref qa3])), (qa1, .inl (cyI, 100, .inl rI)), (qa2, .inl (cyZ, 100, .inl oI)), (qa3, .inl (cyZ, 100, .inl uB))] H := hP
            have hD : va_D A [(qa, .inr (0, [.int ba, .int le, .int (nI st), .int (nI (aw off has hd (j + 1)).2.2.2), .ref qa1, .ref qa2, .ref qa3])), (qa1, .inl (cyI, 100, .inl rI)), (qa2, .inl (cyZ, 100, .inl oI)), (qa3, .inl (cyZ, 100, .inl uB))] := hD
            refine lv_iconst (v := 1) hx hb dX0_raise_52 (by decide) ?_
            refine lv_istore_n (lv' := [(2, .int 1), (5, .int (nI j)), (4, .int (nI (aw off has hd j).2.2.1)), (3, .int (nI cB)), (0, .ref qa), (1, .int (nI hd))]) hx hb dX0_raise_53 rfl hl (by decide) rfl (fun ls hl => ?_)
            refine lv_iconst (v := 0) hx hb dX0_raise_54 (by decide) ?_
            refine lv_istore_n (lv' := [(3, .int 0), (2, .int 1), (5, .int (nI j)), (4, .int (nI (aw off has hd j).2.2.1)), (0, .ref qa), (1, .int (nI hd))]) hx hb dX0_raise_55 rfl hl (by decide) rfl (fun ls hl => ?_)
            refine lv_goto (tgt := 87) hx hb dX0_raise_56 (by decide) ?_
            exact m87 0 H _ (by omega) (fun _ => by rw [aw_o o1]) hP hD hS ls (by rw [aw_o o1]; exact (lv_sub hl [1, 0, 2, 3, 4, 5] rfl))
          refine lv_if_eq (tgt := 47) hx hb dX0_raise_40 (by decide) (fun q3 => ?_) (fun q3 => ?_)
          · refine lv_iconst (v := 1) hx hb dX0_raise_47 (by decide) ?_
            refine tpi (show (1 : Int32) = nI (if (aw off has hd j).1 = true then 0 else 1) from by rw [if_neg (by rw [b01_0.mp q3]; decide)]; rfl) ?_
            exact m48
          · refine lv_iconst (v := 0) hx hb dX0_raise_43 (by decide) ?_
            refine lv_goto (tgt := 48) hx hb dX0_raise_44 (by decide) ?_
            refine tpi (show (0 : Int32) = nI (if (aw off has hd j).1 = true then 0 else 1) from by rw [if_pos ((Bool.not_eq_false _).mp (fun h => q3 (b01_0.mpr h)))]; rfl) ?_
            exact m48
  exact loop st 0 0 u0 H _ (by omega) (Nat.le_refl 0) (fun _ => rfl) (fun k h => absurd h (Nat.not_lt_zero k)) hP hD hS ls (lv_sub hl [0, 1, 2, 3, 4, 5] rfl)

set_option maxHeartbeats 4000000 in
set_option maxRecDepth 100000 in
theorem x_watch (l : Launch) (dd : va_G) (cyI cyJ cyZ : ClassId) (qx ql qk qa : Nat) (qr qt qh n : Nat) (hi : Int64) (tI : Nat → Int32) (hv : Nat → Int64) (hI sI : Nat → Int32) (hR : RowsOk n hI sI hi hv) (qa1 qa2 qa3 st : Nat) (ba le al : Int32) (r0 o0 u0 : Nat → Int32) (y bs sp hd lm : Int32) (sz : Nat) : Met l yX4_watch wsX4_watch ({ frames := 4, cells := 0, slots := 0, locals := 110 } : Room) (va_Pc [.ref qx, .int y, .int bs, .int sp, .int hd, .int lm] (Wr dd [(cyI, .int), (cyJ, .long), (cyZ, .boolean)] [(qx, .inr (4, [.ref qr, .ref ql, .ref qk, .ref qa])), (qr, .inr (2, [.int (nI n), .long hi, .ref qt, .ref qh])), (qt, .inl (cyI, 48, .inl tI)), (qh, .inl (cyJ, 55, .inr (.inl hv))), (qa, .inr (0, [.int ba, .int le, .int (nI st), .int al, .ref qa1, .ref qa2, .ref qa3])), (qa1, .inl (cyI, 100, .inl r0)), (qa2, .inl (cyZ, 100, .inl o0)), (qa3, .inl (cyZ, 100, .inl u0))] sz)) (va_Qi (S := Int32 × Int32 × Nat × Int32 × (Nat → Int32) × (Nat → Int32) × (Nat → Int32)) (fun (r : Int32) (u : Int32 × Int32 × Nat × Int32 × (Nat → Int32) × (Nat → Int32) × (Nat → Int32)) => r = watchR n tI sI y bs sp hd lm ∧ (wYes n tI y bs sp hd lm → u.1 = bs ∧ u.2.1 = sp ∧ u.2.2.1 = nst (cl bs) (cl sp) ∧ u.2.2.2.1 = nI (wAw n tI sI (cl y) (cl bs) (cl sp) (cl hd) (cl lm) (nst (cl bs) (cl sp))).2.2.2 ∧ ∀ k, k < nst (cl bs) (cl sp) → u.2.2.2.2.1 k = nI (cnt (wG tI (cl bs) (cl sp) k) n) ∧ u.2.2.2.2.2.1 k = b01 (wOff tI sI n (cl y) (cl bs) (cl sp) (cl lm) k) ∧ u.2.2.2.2.2.2 k = b01 (wAw n tI sI (cl y) (cl bs) (cl sp) (cl hd) (cl lm) (k + 1)).1) ∧ (¬ wYes n tI y bs sp hd lm → u = (ba, le, st, al, r0, o0, u0))) (WQ dd [(qx, .inr (4, [.ref qr, .ref ql, .ref qk, .ref qa])), (qr, .inr (2, [.int (nI n), .long hi, .ref qt, .ref qh])), (qt, .inl (cyI, 48, .inl tI)), (qh, .inl (cyJ, 55, .inr (.inl hv))), (qa, .inr (0, [.int ba, .int le, .int (nI st), .int al, .ref qa1, .ref qa2, .ref qa3])), (qa1, .inl (cyI, 100, .inl r0)), (qa2, .inl (cyZ, 100, .inl o0)), (qa3, .inl (cyZ, 100, .inl u0))] sz (fun u => [(qx, .inr (4, [.ref qr, .ref ql, .ref qk, .ref qa])), (qr, .inr (2, [.int (nI n), .long hi, .ref qt, .ref qh])), (qt, .inl (cyI, 48, .inl tI)), (qh, .inl (cyJ, 55, .inr (.inl hv))), (qa, .inr (0, [.int u.1, .int u.2.1, .int (nI u.2.2.1), .int u.2.2.2.1, .ref qa1, .ref qa2, .ref qa3])), (qa1, .inl (cyI, 100, .inl u.2.2.2.2.1)), (qa2, .inl (cyZ, 100, .inl u.2.2.2.2.2.1)), (qa3, .inl (cyZ, 100, .inl u.2.2.2.2.2.2))])) (va_A [(qx, .inr (4, [.ref qr, .ref ql, .ref qk, .ref qa])), (qr, .inr (2, [.int (nI n), .long hi, .ref qt, .ref qh])), (qt, .inl (cyI, 48, .inl tI)), (qh, .inl (cyJ, 55, .inr (.inl hv))), (qa, .inr (0, [.int ba, .int le, .int (nI st), .int al, .ref qa1, .ref qa2, .ref qa3])), (qa1, .inl (cyI, 100, .inl r0)), (qa2, .inl (cyZ, 100, .inl o0)), (qa3, .inl (cyZ, 100, .inl u0))] sz)) 0 0 (va_A [(qx, .inr (4, [.ref qr, .ref ql, .ref qk, .ref qa])), (qr, .inr (2, [.int (nI n), .long hi, .ref qt, .ref qh])), (qt, .inl (cyI, 48, .inl tI)), (qh, .inl (cyJ, 55, .inr (.inl hv))), (qa, .inr (0, [.int ba, .int le, .int (nI st), .int al, .ref qa1, .ref qa2, .ref qa3])), (qa1, .inl (cyI, 100, .inl r0)), (qa2, .inl (cyZ, 100, .inl o0)), (qa3, .inl (cyZ, 100, .inl u0))] sz) := by
  refine mkW (Qc := fun A => (va_Qi (S := Int32 × Int32 × Nat × Int32 × (Nat → Int32) × (Nat → Int32) × (Nat → Int32)) (fun (r : Int32) (u : Int32 × Int32 × Nat × Int32 × (Nat → Int32) × (Nat → Int32) × (Nat → Int32)) => r = watchR n tI sI y bs sp hd lm ∧ (wYes n tI y bs sp hd lm → u.1 = bs ∧ u.2.1 = sp ∧ u.2.2.1 = nst (cl bs) (cl sp) ∧ u.2.2.2.1 = nI (wAw n tI sI (cl y) (cl bs) (cl sp) (cl hd) (cl lm) (nst (cl bs) (cl sp))).2.2.2 ∧ ∀ k, k < nst (cl bs) (cl sp) → u.2.2.2.2.1 k = nI (cnt (wG tI (cl bs) (cl sp) k) n) ∧ u.2.2.2.2.2.1 k = b01 (wOff tI sI n (cl y) (cl bs) (cl sp) (cl lm) k) ∧ u.2.2.2.2.2.2 k = b01 (wAw n tI sI (cl y) (cl bs) (cl sp) (cl hd) (cl lm) (k + 1)).1) ∧ (¬ wYes n tI y bs sp hd lm → u = (ba, le, st, al, r0, o0, u0))) (WQ dd [(qx, .inr (4, [.ref qr, .ref ql, .ref qk, .ref qa])), (qr, .inr (2, [.int (nI n), .long hi, .ref qt, .ref qh])), (qt, .inl (cyI, 48, .inl tI)), (qh, .inl (cyJ, 55, .inr (.inl hv))), (qa, .inr (0, [.int ba, .int le, .int (nI st), .int al, .ref qa1, .ref qa2, .ref qa3])), (qa1, .inl (cyI, 100, .inl r0)), (qa2, .inl (cyZ, 100, .inl o0)), (qa3, .inl (cyZ, 100, .inl u0))] sz (fun u => [(qx, .inr (4, [.ref qr, .ref ql, .ref qk, .ref qa])), (qr, .inr (2, [.int (nI n), .long hi, .ref qt, .ref qh])), (qt, .inl (cyI, 48, .inl tI)), (qh, .inl (cyJ, 55, .inr (.inl hv))), (qa, .inr (0, [.int u.1, .int u.2.1, .int (nI u.2.2.1), .int u.2.2.2.1, .ref qa1, .ref qa2, .ref qa3])), (qa1, .inl (cyI, 100, .inl u.2.2.2.2.1)), (qa2, .inl (cyZ, 100, .inl u.2.2.2.2.2.1)), (qa3, .inl (cyZ, 100, .inl u.2.2.2.2.2.2))])) A)) (cc := cX4_watch) (maxL := 6) (by decide) rfl (Nat.le_of_ble_eq_true rfl) (lv0 := [(0, .ref qx), (1, .int y), (2, .int bs), (3, .int sp), (4, .int hd), (5, .int lm)]) rfl ?_
  intro p e s m below meth c ls H A hx hb hr hml hown hlocks hts hmn hN hP hK hD hS hA hAe hl
  have hown : s.vm.findClass RX4 = some m.cls := hown
  have hiX0 : ∀ w ∈ wsX00, w ∈ wsX4_watch := by decide +kernel
  have hiX2 : ∀ w ∈ wsX20, w ∈ wsX4_watch := by decide +kernel
  have hiX4 : ∀ w ∈ wsX40, w ∈ wsX4_watch := by decide +kernel
  have hn := hR.1
  refine lv_iload_n hx hb dX4_watch_0 rfl (lv_at hl 1 rfl) ?_
  refine clSi (As := [.int y]) (rest := []) ⟨hx, hb, hml, hown, hts⟩ (c_isColumn l dd cyI cyJ cyZ y) gX4_watch_X4_isColumn (n := 1) rfl ⟨rfl, rfl⟩ (by decide +kernel) ⟨Nat.le_of_ble_eq_true rfl, Nat.le_of_ble_eq_true rfl⟩ hN hK (hP.sub [] rfl) rfl hl.1 rfl (Nat.le_of_ble_eq_true rfl) dX4_watch_1 ⟨Nat.le_of_ble_eq_true rfl, Nat.le_of_ble_eq_true rfl⟩ (fun ck1 hck1 => ?_)
  refine lv_if_ne (tgt := 10) hx hb dX4_watch_4 (by decide) (fun qck1 => ?_) (fun qck1 => ?_)
  · have hck1 : inC y := hck1.elim (fun h => h.2) (fun h => absurd h.1 qck1)
    refine lv_iload_n hx hb dX4_watch_10 rfl (lv_at hl 2 rfl) ?_
    refine lv_iconst (v := 1) hx hb dX4_watch_11 (by decide) ?_
    refine lv_sipush (v := 999) hx hb dX4_watch_12 (by decide) ?_
    refine clSi (As := [.int bs, .int 1, .int 999]) (rest := []) ⟨hx, hb, hml, hown, hts⟩ (c_isWithin l dd cyI cyJ cyZ bs 1 999) gX4_watch_X4_isWithin (n := 3) rfl ⟨rfl, rfl⟩ (by decide +kernel) ⟨Nat.le_of_ble_eq_true rfl, Nat.le_of_ble_eq_true rfl⟩ hN hK (hP.sub [] rfl) rfl hl.1 rfl (Nat.le_of_ble_eq_true rfl) dX4_watch_15 ⟨Nat.le_of_ble_eq_true rfl, Nat.le_of_ble_eq_true rfl⟩ (fun ck2 hck2 => ?_)
    refine lv_if_eq (tgt := 55) hx hb dX4_watch_18 (by decide) (fun qck2 => ?_) (fun qck2 => ?_)
    · have hck2 : ¬ (1 ≤ bs ∧ bs ≤ 999) := hck2.elim (fun h => absurd (h.1.symm.trans qck2) (by decide)) (fun h => h.2)
      refine lv_ldc (v := (-1000002)) hx hb hown (hts (.constant RX4 41 (-1000002)) (by decide +kernel)) dX4_watch_55 ?_
      exact ewI (ba, le, st, al, r0, o0, u0) hx hb hr hlocks hAe hS dX4_watch_57 (⟨by rw [watchR, if_pos hck1, if_neg (fun x : wtOk bs sp hd lm => hck2 x.1)], fun x => absurd x.2.1.1 hck2, fun _ => rfl⟩) (hP.sub [0, 1, 2, 3, 4, 5, 6, 7] rfl) (hD.sub [0, 1, 2, 3, 4, 5, 6, 7] (by decide) rfl)
    · have hck2 : 1 ≤ bs ∧ bs ≤ 999 := hck2.elim (fun h => h.2) (fun h => absurd h.1 qck2)
      refine lv_iload_n hx hb dX4_watch_21 rfl (lv_at hl 3 rfl) ?_
      refine lv_iconst (v := 1) hx hb dX4_watch_22 (by decide) ?_
      refine lv_sipush (v := 999) hx hb dX4_watch_23 (by decide) ?_
      refine clSi (As := [.int sp, .int 1, .int 999]) (rest := []) ⟨hx, hb, hml, hown, hts⟩ (c_isWithin l dd cyI cyJ cyZ sp 1 999) gX4_watch_X4_isWithin (n := 3) rfl ⟨rfl, rfl⟩ (by decide +kernel) ⟨Nat.le_of_ble_eq_true rfl, Nat.le_of_ble_eq_true rfl⟩ hN hK (hP.sub [] rfl) rfl hl.1 rfl (Nat.le_of_ble_eq_true rfl) dX4_watch_26 ⟨Nat.le_of_ble_eq_true rfl, Nat.le_of_ble_eq_true rfl⟩ (fun ck3 hck3 => ?_)
      refine lv_if_eq (tgt := 55) hx hb dX4_watch_29 (by decide) (fun qck3 => ?_) (fun qck3 => ?_)
      · have hck3 : ¬ (1 ≤ sp ∧ sp ≤ 999) := hck3.elim (fun h => absurd (h.1.symm.trans qck3) (by decide)) (fun h => h.2)
        refine lv_ldc (v := (-1000002)) hx hb hown (hts (.constant RX4 41 (-1000002)) (by decide +kernel)) dX4_watch_55 ?_
        exact ewI (ba, le, st, al, r0, o0, u0) hx hb hr hlocks hAe hS dX4_watch_57 (⟨by rw [watchR, if_pos hck1, if_neg (fun x : wtOk bs sp hd lm => hck3 x.2.1)], fun x => absurd x.2.1.2.1 hck3, fun _ => rfl⟩) (hP.sub [0, 1, 2, 3, 4, 5, 6, 7] rfl) (hD.sub [0, 1, 2, 3, 4, 5, 6, 7] (by decide) rfl)
      · have hck3 : 1 ≤ sp ∧ sp ≤ 999 := hck3.elim (fun h => h.2) (fun h => absurd h.1 qck3)
        refine lv_iload hx hb dX4_watch_32 (lv_at hl 4 rfl) ?_
        refine lv_iconst (v := 1) hx hb dX4_watch_34 (by decide) ?_
        refine lv_bipush (v := 100) hx hb dX4_watch_35 (by decide) ?_
        refine clSi (As := [.int hd, .int 1, .int 100]) (rest := []) ⟨hx, hb, hml, hown, hts⟩ (c_isWithin l dd cyI cyJ cyZ hd 1 100) gX4_watch_X4_isWithin (n := 3) rfl ⟨rfl, rfl⟩ (by decide +kernel) ⟨Nat.le_of_ble_eq_true rfl, Nat.le_of_ble_eq_true rfl⟩ hN hK (hP.sub [] rfl) rfl hl.1 rfl (Nat.le_of_ble_eq_true rfl) dX4_watch_37 ⟨Nat.le_of_ble_eq_true rfl, Nat.le_of_ble_eq_true rfl⟩ (fun ck4 hck4 => ?_)
        refine lv_if_eq (tgt := 55) hx hb dX4_watch_40 (by decide) (fun qck4 => ?_) (fun qck4 => ?_)
        · have hck4 : ¬ (1 ≤ hd ∧ hd ≤ 100) := hck4.elim (fun h => absurd (h.1.symm.trans qck4) (by decide)) (fun h => h.2)
          refine lv_ldc (v := (-1000002)) hx hb hown (hts (.constant RX4 41 (-1000002)) (by decide +kernel)) dX4_watch_55 ?_
          exact ewI (ba, le, st, al, r0, o0, u0) hx hb hr hlocks hAe hS dX4_watch_57 (⟨by rw [watchR, if_pos hck1, if_neg (fun x : wtOk bs sp hd lm => hck4 x.2.2.1)], fun x => absurd x.2.1.2.2.1 hck4, fun _ => rfl⟩) (hP.sub [0, 1, 2, 3, 4, 5, 6, 7] rfl) (hD.sub [0, 1, 2, 3, 4, 5, 6, 7] (by decide) rfl)
        · have hck4 : 1 ≤ hd ∧ hd ≤ 100 := hck4.elim (fun h => h.2) (fun h => absurd h.1 qck4)
          refine lv_iload hx hb dX4_watch_43 (lv_at hl 5 rfl) ?_
          refine lv_iconst (v := 1) hx hb dX4_watch_45 (by decide) ?_
          refine lv_sipush (v := 1000) hx hb dX4_watch_46 (by decide) ?_
          refine clSi (As := [.int lm, .int 1, .int 1000]) (rest := []) ⟨hx, hb, hml, hown, hts⟩ (c_isWithin l dd cyI cyJ cyZ lm 1 1000) gX4_watch_X4_isWithin (n := 3) rfl ⟨rfl, rfl⟩ (by decide +kernel) ⟨Nat.le_of_ble_eq_true rfl, Nat.le_of_ble_eq_true rfl⟩ hN hK (hP.sub [] rfl) rfl hl.1 rfl (Nat.le_of_ble_eq_true rfl) dX4_watch_49 ⟨Nat.le_of_ble_eq_true rfl, Nat.le_of_ble_eq_true rfl⟩ (fun ck5 hck5 => ?_)
          refine lv_if_ne (tgt := 58) hx hb dX4_watch_52 (by decide) (fun qck5 => ?_) (fun qck5 => ?_)
          · have hck5 : 1 ≤ lm ∧ lm ≤ 1000 := hck5.elim (fun h => h.2) (fun h => absurd h.1 qck5)
            have hok : wtOk bs sp hd lm := ⟨hck2, hck3, hck4, hck5⟩
            obtain ⟨co, hco, ey⟩ := inC_of hck1
            obtain ⟨b, hb1, hb2, eb⟩ := rng1 (N := 999) (by decide) hck2
            obtain ⟨l0, hl1, hl2, el⟩ := rng1 (N := 999) (by decide) hck3
            obtain ⟨h0, hh1, hh2, eh⟩ := rng1 (N := 100) (by decide) hck4
            obtain ⟨m0, hm1, hm2, em⟩ := rng1 (N := 1000) (by decide) hck5
            subst ey
            subst eb
            subst el
            subst eh
            subst em
            have c1 : cl (nI co) = co := cl_nI (by omega)
            have c2 : cl (nI b) = b := cl_nI (by omega)
            have c3 : cl (nI l0) = l0 := cl_nI (by omega)
            have c4 : cl (nI h0) = h0 := cl_nI (by omega)
            have c5 : cl (nI m0) = m0 := cl_nI (by omega)
            refine lv_aload_n hx hb dX4_watch_58 rfl (lv_at hl 0 rfl) ?_
            refine va_get (D := dd) (ci := 4) (C := RX4) (T := TX4) (N := 4) (v := .ref qr) hx hb hts hiX4 hown hK hP 0 rfl rfl 0 (by decide) (hts (.fieldLink RX4 10 "SliceDrift" "rows" "LSliceDrift$Rows;") (by decide +kernel)) (fun _ h9 => h9) rfl dX4_watch_59 ?_
            refine lv_iconst (v := 0) hx hb dX4_watch_62 (by decide) ?_
            refine lv_iload_n hx hb dX4_watch_63 rfl (lv_at hl 2 rfl) ?_
            refine clVl (As := [.int 0, .int (nI b)]) (rest := []) (b := qr) (vc := (RX2, TX2, 4)) ⟨hx, hb, hml, hown, hts⟩ (c_between l dd cyI cyJ cyZ qr qt qh n hi tI hv 0 (nI b) hn) gX4_watch_X2_between (ci := 2) rfl (q0 := 0) rfl (n := 2) rfl ⟨rfl, rfl⟩ (by decide +kernel) ⟨Nat.le_of_ble_eq_true rfl, Nat.le_of_ble_eq_true rfl⟩ hN hK (hP.sub [1, 2, 3] rfl) rfl hl.1 rfl (Nat.le_of_ble_eq_true rfl) dX4_watch_64 ⟨Nat.le_of_ble_eq_true rfl, Nat.le_of_ble_eq_true rfl⟩ (fun r1 h1 => ?_)
            subst h1
            refine lv_lconst (v := 0) hx hb dX4_watch_67 (by decide) ?_
            refine W.lcmp hx hb dX4_watch_68 ?_
            refine lv_if_ne (tgt := 75) hx hb dX4_watch_69 (by decide) (fun q => ?_) (fun q => ?_)
            · have z0 : ¬ cnt (win tI 0 (nI b)) n = 0 := fun h => q ((lN0 (mk62 _ hn)).mpr (mk0_cnt.mpr h))
              have hst := ns_le b l0 100 0
              have hst : nst b l0 ≤ 100 := by unfold nst; omega
              refine lv_aload_n hx hb dX4_watch_75 rfl (lv_at hl 0 rfl) ?_
              refine va_get (D := dd) (ci := 4) (C := RX4) (T := TX4) (N := 4) (v := .ref qa) hx hb hts hiX4 hown hK hP 0 rfl rfl 3 (by decide) (hts (.fieldLink RX4 33 "SliceDrift" "alarms" "LSliceDrift$Alarms;") (by decide +kernel)) (fun _ h9 => h9) rfl dX4_watch_76 ?_
              refine lv_iload_n hx hb dX4_watch_79 rfl (lv_at hl 2 rfl) ?_
              refine lv_iload_n hx hb dX4_watch_80 rfl (lv_at hl 3 rfl) ?_
              refine clVwv (As := [.int (nI b), .int (nI l0)]) (rest := []) (b := qa) (vc := (RX0, TX0, 7)) (wr := [(qx, .inr (4, [.ref qr, .ref ql, .ref qk, .ref qa])), (qr, .inr (2, [.int (nI n), .long hi, .ref qt, .ref qh])), (qt, .inl (cyI, 48, .inl tI)), (qh, .inl (cyJ, 55, .inr (.inl hv))), (qa1, .inl (cyI, 100, .inl r0)), (qa2, .inl (cyZ, 100, .inl o0)), (qa3, .inl (cyZ, 100, .inl u0))]) ⟨hx, hb, hml, hown, hts⟩ (fun sz => c_begin l dd cyI cyJ cyZ qa qa1 qa2 qa3 ba le (nI st) al b l0 hb2 hl2 sz) gX4_watch_X0_begin (ci := 0) rfl (q0 := 0) rfl (n := 2) rfl ⟨rfl, rfl⟩ (by decide +kernel) ⟨Nat.le_of_ble_eq_true rfl, Nat.le_of_ble_eq_true rfl⟩ hN hK hP hD hS hA [4] [0, 1, 2, 3, 5, 6, 7] rfl rfl (by decide) rfl (by decide) (by decide) rfl hl.1 rfl (Nat.le_of_ble_eq_true rfl) dX4_watch_81 ⟨Nat.le_of_ble_eq_true rfl, Nat.le_of_ble_eq_true rfl⟩ (fun u1 H locs hu1 hP hD hS => ?_)
              have hP : va_P dd vwCl [(qx, .inr (4, [.ref qr, .ref ql, .ref qk, .ref qa])), (qr, .inr (2, [.int (nI n), .long hi, .ref qt, .ref qh])), (qt, .inl (cyI, 48, .inl tI)), (qh, .inl (cyJ, 55, .inr (.inl hv))), (qa1, .inl (cyI, 100, .inl r0)), (qa2, .inl (cyZ, 100, .inl o0)), (qa3, .inl (cyZ, 100, .inl u0)), (qa, .inr (0, [.int (nI b), .int (nI l0), .int (nI (nst b l0)), .int al, .ref qa1, .ref qa2, .ref qa3]))] H := hP
              have hD : va_D A [(qx, .inr (4, [.ref qr, .ref ql, .ref qk, .ref qa])), (qr, .inr (2, [.int (nI n), .long hi, .ref qt, .ref qh])), (qt, .inl (cyI, 48, .inl tI)), (qh, .inl (cyJ, 55, .inr (.inl hv))), (qa1, .inl (cyI, 100, .inl r0)), (qa2, .inl (cyZ, 100, .inl o0)), (qa3, .inl (cyZ, 100, .inl u0)), (qa, .inr (0, [.int (nI b), .int (nI l0), .int (nI (nst b l0)), .int al, .ref qa1, .ref qa2, .ref qa3]))] := hD
              refine lv_aload_n hx hb dX4_watch_84 rfl (lv_at hl 0 rfl) ?_
              refine va_get (D := dd) (ci := 4) (C := RX4) (T := TX4) (N := 4) (v := .ref qa) hx hb hts hiX4 hown hK hP 0 rfl rfl 3 (by decide) (hts (.fieldLink RX4 33 "SliceDrift" "alarms" "LSliceDrift$Alarms;") (by decide +kernel)) (fun _ h9 => h9) rfl dX4_watch_85 ?_
              refine lv_aload_n hx hb dX4_watch_88 rfl (lv_at hl 0 rfl) ?_
              refine va_get (D := dd) (ci := 4) (C := RX4) (T := TX4) (N := 4) (v := .ref qr) hx hb hts hiX4 hown hK hP 0 rfl rfl 0 (by decide) (hts (.fieldLink RX4 10 "SliceDrift" "rows" "LSliceDrift$Rows;") (by decide +kernel)) (fun _ h9 => h9) rfl dX4_watch_89 ?_
              refine lv_iload_n hx hb dX4_watch_92 rfl (lv_at hl 1 rfl) ?_
              refine lv_iload hx hb dX4_watch_93 (lv_at hl 5 rfl) ?_
              refine clVwv (As := [.ref qr, .int (nI co), .int (nI m0)]) (rest := []) (b := qa) (vc := (RX0, TX0, 7)) (wr := [(qx, .inr (4, [.ref qr, .ref ql, .ref qk, .ref qa])), (qa3, .inl (cyZ, 100, .inl u0))]) ⟨hx, hb, hml, hown, hts⟩ (fun sz => c_measure l dd cyI cyJ cyZ qa qa1 qa2 qa3 al b l0 m0 hb2 hl2 hm2 qr qt qh n hi tI hv hI sI hR co hco r0 o0 sz) gX4_watch_X0_measure (ci := 0) rfl (q0 := 0) rfl (n := 3) rfl ⟨rfl, rfl⟩ (by decide +kernel) ⟨Nat.le_of_ble_eq_true rfl, Nat.le_of_ble_eq_true rfl⟩ hN hK hP hD hS hA [7, 4, 5, 1, 2, 3] [0, 6] rfl rfl (by decide) rfl (by decide) (by decide) rfl hl.1 rfl (Nat.le_of_ble_eq_true rfl) dX4_watch_95 ⟨Nat.le_of_ble_eq_true rfl, Nat.le_of_ble_eq_true rfl⟩ (fun u2 H locs hu2 hP hD hS => ?_)
              have hP : va_P dd vwCl [(qx, .inr (4, [.ref qr, .ref ql, .ref qk, .ref qa])), (qa3, .inl (cyZ, 100, .inl u0)), (qa, .inr (0, [.int (nI b), .int (nI l0), .int (nI (nst b l0)), .int al, .ref qa1, .ref qa2, .ref qa3])), (qa1, .inl (cyI, 100, .inl u2.1)), (qa2, .inl (cyZ, 100, .inl u2.2)), (qr, .inr (2, [.int (nI n), .long hi, .ref qt, .ref qh])), (qt, .inl (cyI, 48, .inl tI)), (qh, .inl (cyJ, 55, .inr (.inl hv)))] H := hP
              have hD : va_D A [(qx, .inr (4, [.ref qr, .ref ql, .ref qk, .ref qa])), (qa3, .inl (cyZ, 100, .inl u0)), (qa, .inr (0, [.int (nI b), .int (nI l0), .int (nI (nst b l0)), .int al, .ref qa1, .ref qa2, .ref qa3])), (qa1, .inl (cyI, 100, .inl u2.1)), (qa2, .inl (cyZ, 100, .inl u2.2)), (qr, .inr (2, [.int (nI n), .long hi, .ref qt, .ref qh])), (qt, .inl (cyI, 48, .inl tI)), (qh, .inl (cyJ, 55, .inr (.inl hv)))] := hD
              refine lv_aload_n hx hb dX4_watch_98 rfl (lv_at hl 0 rfl) ?_
              refine va_get (D := dd) (ci := 4) (C := RX4) (T := TX4) (N := 4) (v := .ref qa) hx hb hts hiX4 hown hK hP 0 rfl rfl 3 (by decide) (hts (.fieldLink RX4 33 "SliceDrift" "alarms" "LSliceDrift$Alarms;") (by decide +kernel)) (fun _ h9 => h9) rfl dX4_watch_99 ?_
              refine lv_iload hx hb dX4_watch_102 (lv_at hl 4 rfl) ?_
              refine clVwi (As := [.int (nI h0)]) (rest := []) (b := qa) (vc := (RX0, TX0, 7)) (wr := [(qx, .inr (4, [.ref qr, .ref ql, .ref qk, .ref qa])), (qr, .inr (2, [.int (nI n), .long hi, .ref qt, .ref qh])), (qt, .inl (cyI, 48, .inl tI)), (qh, .inl (cyJ, 55, .inr (.inl hv)))]) ⟨hx, hb, hml, hown, hts⟩ (fun sz => c_raise l dd cyI cyJ cyZ qa qa1 qa2 qa3 (nI b) (nI l0) al (nst b l0) h0 hst (by omega) u2.1 u2.2 u0 (wOff tI sI n co b l0 m0) (wHas tI n b l0) (fun k => cnt (wG tI b l0 k) n) (fun k hk => (hu2 k hk).2) (fun k hk => ⟨(hu2 k hk).1, Nat.le_trans (cnt_le _ _) hn, rfl⟩) sz) gX4_watch_X0_raise (ci := 0) rfl (q0 := 0) rfl (n := 1) rfl ⟨rfl, rfl⟩ (by decide +kernel) ⟨Nat.le_of_ble_eq_true rfl, Nat.le_of_ble_eq_true rfl⟩ hN hK hP hD hS hA [2, 3, 4, 1] [0, 5, 6, 7] rfl rfl (by decide) rfl (by decide) (by decide) rfl hl.1 rfl (Nat.le_of_ble_eq_true rfl) dX4_watch_104 ⟨Nat.le_of_ble_eq_true rfl, Nat.le_of_ble_eq_true rfl⟩ (fun rr u3 H locs hu3 hP hD hS => ?_)
              have hP : va_P dd vwCl [(qx, .inr (4, [.ref qr, .ref ql, .ref qk, .ref qa])), (qr, .inr (2, [.int (nI n), .long hi, .ref qt, .ref qh])), (qt, .inl (cyI, 48, .inl tI)), (qh, .inl (cyJ, 55, .inr (.inl hv))), (qa, .inr (0, [.int (nI b), .int (nI l0), .int (nI (nst b l0)), .int (nI (wAw n tI sI co b l0 h0 m0 (nst b l0)).2.2.2), .ref qa1, .ref qa2, .ref qa3])), (qa1, .inl (cyI, 100, .inl u2.1)), (qa2, .inl (cyZ, 100, .inl u2.2)), (qa3, .inl (cyZ, 100, .inl u3))] H := hP
              have hD : va_D A [(qx, .inr (4, [.ref qr, .ref ql, .ref qk, .ref qa])), (qr, .inr (2, [.int (nI n), .long hi, .ref qt, .ref qh])), (qt, .inl (cyI, 48, .inl tI)), (qh, .inl (cyJ, 55, .inr (.inl hv))), (qa, .inr (0, [.int (nI b), .int (nI l0), .int (nI (nst b l0)), .int (nI (wAw n tI sI co b l0 h0 m0 (nst b l0)).2.2.2), .ref qa1, .ref qa2, .ref qa3])), (qa1, .inl (cyI, 100, .inl u2.1)), (qa2, .inl (cyZ, 100, .inl u2.2)), (qa3, .inl (cyZ, 100, .inl u3))] := hD
              exact ewI (nI b, nI l0, nst b l0, nI (wAw n tI sI co b l0 h0 m0 (nst b l0)).2.2.2, u2.1, u2.2, u3) hx hb hr hlocks hAe hS dX4_watch_107 (⟨by rw [hu3.1, watchR, if_pos hck1, if_pos hok, if_neg z0, c1, c2, c3, c4, c5]; rfl, fun _ => by rw [c1, c2, c3, c4, c5]; exact ⟨rfl, rfl, rfl, rfl, fun k hk => ⟨(hu2 k hk).1, (hu2 k hk).2, hu3.2 k hk⟩⟩, fun x => absurd (show wYes n tI (nI co) (nI b) (nI l0) (nI h0) (nI m0) from ⟨hck1, hok, z0⟩) x⟩) (hP.sub [0, 1, 2, 3, 4, 5, 6, 7] rfl) (hD.sub [0, 1, 2, 3, 4, 5, 6, 7] (by decide) rfl)
            · have z0 : cnt (win tI 0 (nI b)) n = 0 := mk0_cnt.mp ((lN0 (mk62 _ hn)).mp q)
              refine lv_ldc (v := (-1000003)) hx hb hown (hts (.constant RX4 183 (-1000003)) (by decide +kernel)) dX4_watch_72 ?_
              exact ewI (ba, le, st, al, r0, o0, u0) hx hb hr hlocks hAe hS dX4_watch_74 (⟨by rw [watchR, if_pos hck1, if_pos hok, if_pos z0], fun x => absurd z0 x.2.2, fun _ => rfl⟩) (hP.sub [0, 1, 2, 3, 4, 5, 6, 7] rfl) (hD.sub [0, 1, 2, 3, 4, 5, 6, 7] (by decide) rfl)
          · have hck5 : ¬ (1 ≤ lm ∧ lm ≤ 1000) := hck5.elim (fun h => absurd (h.1.symm.trans qck5) (by decide)) (fun h => h.2)
            refine lv_ldc (v := (-1000002)) hx hb hown (hts (.constant RX4 41 (-1000002)) (by decide +kernel)) dX4_watch_55 ?_
            exact ewI (ba, le, st, al, r0, o0, u0) hx hb hr hlocks hAe hS dX4_watch_57 (⟨by rw [watchR, if_pos hck1, if_neg (fun x : wtOk bs sp hd lm => hck5 x.2.2.2)], fun x => absurd x.2.1.2.2.2 hck5, fun _ => rfl⟩) (hP.sub [0, 1, 2, 3, 4, 5, 6, 7] rfl) (hD.sub [0, 1, 2, 3, 4, 5, 6, 7] (by decide) rfl)
  · have hck1 : ¬ (inC y) := hck1.elim (fun h => absurd (h.1.symm.trans qck1) (by decide)) (fun h => h.2)
    refine lv_ldc (v := (-1000001)) hx hb hown (hts (.constant RX4 58 (-1000001)) (by decide +kernel)) dX4_watch_7 ?_
    exact ewI (ba, le, st, al, r0, o0, u0) hx hb hr hlocks hAe hS dX4_watch_9 (⟨by rw [watchR, if_neg hck1], fun x => absurd x.1 hck1, fun _ => rfl⟩) (hP.sub [0, 1, 2, 3, 4, 5, 6, 7] rfl) (hD.sub [0, 1, 2, 3, 4, 5, 6, 7] (by decide) rfl)
