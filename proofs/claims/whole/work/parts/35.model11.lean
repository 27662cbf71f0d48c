def ChOk (cA : Nat → Int64) : Prop := ∀ j, j < 441 → cA j = lN (chs (j / 21) (j % 21))
theorem cho_s {cB : Nat → Int64} {a0 b0 : Nat} (hb : b0 < 21) (h : ∀ j, j < 21 * a0 + b0 → cB j = lN (chs (j / 21) (j % 21))) : ∀ j, j < 21 * a0 + (b0 + 1) → vp_updL cB (21 * a0 + b0) (lN (chs a0 b0)) j = lN (chs (j / 21) (j % 21)) := by
  intro j hj
  by_cases e : j = 21 * a0 + b0
  · rw [e, pk_uLs, show (21 * a0 + b0) / 21 = a0 by omega, show (21 * a0 + b0) % 21 = b0 by omega]
  · rw [pk_uLn e]
    exact h j (by omega)
theorem chs_S {a0 b0 : Nat} (ha : a0 < 21) (hb : b0 < 21) (h1 : 0 < a0) (h2 : 0 < b0) : chs a0 b0 = chs (a0 - 1) b0 + chs (a0 - 1) (b0 - 1) := by
  have := chs_s (a0 - 1) (by omega) (b0 - 1) (by omega)
  rw [show a0 - 1 + 1 = a0 by omega, show b0 - 1 + 1 = b0 by omega] at this
  exact this

set_option maxHeartbeats 4000000 in
set_option maxRecDepth 100000 in
theorem r_setChoose (l : Launch) (dd : va_G) (cyI cyJ cyZ : ClassId) (qm : Nat) (a : Nat → Nat) (th ro li fm sm : Int32) (ab be : Int64) (st al : Int32) (c0 : Nat → Int64) (sz : Nat) : Met l yX5_setChoose wsX5_setChoose ({ frames := 0, cells := 0, slots := 0, locals := 0 } : Room) (va_Pc [.ref qm] (Wr dd [(cyI, .int), (cyJ, .long), (cyZ, .boolean)] [(qm, .inr (5, mo a th ro li fm sm ab be st al)), (a 21, .inl (cyJ, 441, .inr (.inl c0)))] sz)) (va_Qv (S := (Nat → Int64)) (fun (u : Nat → Int64) => ChOk u) (WQ dd [(qm, .inr (5, mo a th ro li fm sm ab be st al)), (a 21, .inl (cyJ, 441, .inr (.inl c0)))] sz (fun u => [(qm, .inr (5, mo a th ro li fm sm ab be st al)), (a 21, .inl (cyJ, 441, .inr (.inl u)))])) (va_A [(qm, .inr (5, mo a th ro li fm sm ab be st al)), (a 21, .inl (cyJ, 441, .inr (.inl c0)))] sz)) 0 0 (va_A [(qm, .inr (5, mo a th ro li fm sm ab be st al)), (a 21, .inl (cyJ, 441, .inr (.inl c0)))] sz) := by
  refine mkW (Qc := fun A => (va_Qv (S := (Nat → Int64)) (fun (u : Nat → Int64) => ChOk u) (WQ dd [(qm, .inr (5, mo a th ro li fm sm ab be st al)), (a 21, .inl (cyJ, 441, .inr (.inl c0)))] sz (fun u => [(qm, .inr (5, mo a th ro li fm sm ab be st al)), (a 21, .inl (cyJ, 441, .inr (.inl u)))])) A)) (cc := cX5_setChoose) (maxL := 3) (by decide) rfl (Nat.le_of_ble_eq_true rfl) (lv0 := [(0, .ref qm)]) rfl ?_
  intro p e s m below meth c ls H A hx hb hr hml hown hlocks hts hmn hN hP hK hD hS hA hAe hl
  have hown : s.vm.findClass RX5 = some m.cls := hown
  have hiX5 : ∀ w ∈ wsX50, w ∈ wsX5_setChoose := by decide +kernel
  refine lv_iconst (v := 0) hx hb dX5_setChoose_0 (by decide) ?_
  refine lv_istore_n (lv' := [(1, .int 0), (0, .ref qm)]) hx hb dX5_setChoose_1 rfl hl (by decide) rfl (fun ls hl => ?_)
  have loop : ∀ (k : Nat) (a0 : Nat) (cB : Nat → Int64) (H : Heap) (locs : List Loc), a0 + k = 21 → (∀ j, j < 21 * a0 → cB j = lN (chs (j / 21) (j % 21))) → va_P dd vwCl [(qm, .inr (5, mo a th ro li fm sm ab be st al)), (a 21, .inl (cyJ, 441, .inr (.inl cB)))] H → va_D A [(qm, .inr (5, mo a th ro li fm sm ab be st al)), (a 21, .inl (cyJ, 441, .inr (.inl cB)))] → va_S A s.heap H locs → ∀ ls : Array Slot, lv_has ls 3 [(1, .int (nI a0)), (0, .ref qm)] → W p l e ({ frames := 0, cells := 0, slots := 0, locals := 0 } : Room) s m ([.ref qm] : List Value).toArray below meth c H locs 0 0 (MQ below (va_Qv (S := (Nat → Int64)) (fun (u : Nat → Int64) => ChOk u) (WQ dd [(qm, .inr (5, mo a th ro li fm sm ab be st al)), (a 21, .inl (cyJ, 441, .inr (.inl c0)))] sz (fun u => [(qm, .inr (5, mo a th ro li fm sm ab be st al)), (a 21, .inl (cyJ, 441, .inr (.inl u)))])) A) ([.ref qm] : List Value).toArray s 0 0 A) (F0 m 2 ls []) := by
    intro k
    induction k with
    | zero =>
      intro a0 cB H locs ha0 hu hP hD hS ls hl
      refine lv_iload_n hx hb dX5_setChoose_2 rfl (lv_at hl 0 rfl) ?_
      refine lv_bipush (v := 21) hx hb dX5_setChoose_3 (by decide) ?_
      refine lv_icmp_ge (tgt := 84) hx hb dX5_setChoose_5 (by decide) (fun q => ?_) (fun q => ?_)
      · exact ewV cB hx hb hr hlocks hAe hS dX5_setChoose_84 (fun j hj => hu j (by omega)) (hP.sub [0, 1] rfl) (hD.sub [0, 1] (by decide) rfl)
      · exact absurd (nI_le (show 21 ≤ a0 by omega) (by omega)) q
    | succ k ih =>
      intro a0 cB H locs ha0 hu hP hD hS ls hl
      refine lv_iload_n hx hb dX5_setChoose_2 rfl (lv_at hl 0 rfl) ?_
      refine lv_bipush (v := 21) hx hb dX5_setChoose_3 (by decide) ?_
      refine lv_icmp_ge (tgt := 84) hx hb dX5_setChoose_5 (by decide) (fun q => ?_) (fun q => ?_)
      · exact absurd q (nI_ge (show a0 < 21 by omega) (by decide))
      · refine lv_iconst (v := 0) hx hb dX5_setChoose_8 (by decide) ?_
        refine lv_istore_n (lv' := [(2, .int 0), (1, .int (nI a0)), (0, .ref qm)]) hx hb dX5_setChoose_9 rfl hl (by decide) rfl (fun ls hl => ?_)
        have loop2 : ∀ (k2 : Nat) (b0 : Nat) (cD : Nat → Int64) (H : Heap) (locs : List Loc), b0 + k2 = 21 → (∀ j, j < 21 * a0 + b0 → cD j = lN (chs (j / 21) (j % 21))) → va_P dd vwCl [(qm, .inr (5, mo a th ro li fm sm ab be st al)), (a 21, .inl (cyJ, 441, .inr (.inl cD)))] H → va_D A [(qm, .inr (5, mo a th ro li fm sm ab be st al)), (a 21, .inl (cyJ, 441, .inr (.inl cD)))] → va_S A s.heap H locs → ∀ ls : Array Slot, lv_has ls 3 [(2, .int (nI b0)), (1, .int (nI a0)), (0, .ref qm)] → W p l e ({ frames := 0, cells := 0, slots := 0, locals := 0 } : Room) s m ([.ref qm] : List Value).toArray below meth c H locs 0 0 (MQ below (va_Qv (S := (Nat → Int64)) (fun (u : Nat → Int64) => ChOk u) (WQ dd [(qm, .inr (5, mo a th ro li fm sm ab be st al)), (a 21, .inl (cyJ, 441, .inr (.inl c0)))] sz (fun u => [(qm, .inr (5, mo a th ro li fm sm ab be st al)), (a 21, .inl (cyJ, 441, .inr (.inl u)))])) A) ([.ref qm] : List Value).toArray s 0 0 A) (F0 m 10 ls []) := by
          intro k2
          induction k2 with
          | zero =>
            intro b0 cD H locs hb0 hu2 hP hD hS ls hl
            refine lv_iload_n hx hb dX5_setChoose_10 rfl (lv_at hl 0 rfl) ?_
            refine lv_bipush (v := 21) hx hb dX5_setChoose_11 (by decide) ?_
            refine lv_icmp_ge (tgt := 78) hx hb dX5_setChoose_13 (by decide) (fun q2 => ?_) (fun q2 => ?_)
            · refine lv_iinc (v := nI (a0 + 1)) (lv' := [(1, .int (nI (a0 + 1))), (2, .int (nI b0)), (0, .ref qm)]) hx hb dX5_setChoose_78 hl (k := 1) rfl (nI_1 a0) (by decide) rfl (fun ls hl => ?_)
              refine lv_goto (tgt := 2) hx hb dX5_setChoose_81 (by decide) ?_
              exact ih (a0 + 1) cD H locs (by omega) (fun j hj => hu2 j (by omega)) hP hD hS ls (lv_sub hl [0, 2] rfl)
            · exact absurd (nI_le (show 21 ≤ b0 by omega) (by omega)) q2
          | succ k2 ih2 =>
            intro b0 cD H locs hb0 hu2 hP hD hS ls hl
            refine lv_iload_n hx hb dX5_setChoose_10 rfl (lv_at hl 0 rfl) ?_
            refine lv_bipush (v := 21) hx hb dX5_setChoose_11 (by decide) ?_
            refine lv_icmp_ge (tgt := 78) hx hb dX5_setChoose_13 (by decide) (fun q2 => ?_) (fun q2 => ?_)
            · exact absurd q2 (nI_ge (show b0 < 21 by omega) (by decide))
            · refine lv_aload_n hx hb dX5_setChoose_16 rfl (lv_at hl 2 rfl) ?_
              refine va_get (D := dd) (ci := 5) (C := RX5) (T := TX5) (N := 30) (v := .ref (a 21)) hx hb hts hiX5 hown hK hP 0 rfl rfl 21 (by decide) (hts (.fieldLink RX5 54 "SliceDriftModel" "choose" "[J") (by decide +kernel)) (fun _ h9 => h9) rfl dX5_setChoose_17 ?_
              refine lv_bipush (v := 21) hx hb dX5_setChoose_20 (by decide) ?_
              refine lv_iload_n hx hb dX5_setChoose_22 rfl (lv_at hl 1 rfl) ?_
              refine lv_imul hx hb dX5_setChoose_23 ?_
              refine tpi (show (21 * (nI a0) : Int32) = nI (21 * a0) from pk_mul 21 _) ?_
              refine lv_iload_n hx hb dX5_setChoose_24 rfl (lv_at hl 0 rfl) ?_
              refine lv_iadd hx hb dX5_setChoose_25 ?_
              refine tpi (show ((nI (21 * a0)) + (nI b0) : Int32) = nI (21 * a0 + b0) from nI_add _ _) ?_
              refine lv_iload_n hx hb dX5_setChoose_26 rfl (lv_at hl 0 rfl) ?_
              have m71 : W p l e ({ frames := 0, cells := 0, slots := 0, locals := 0 } : Room) s m ([.ref qm] : List Value).toArray below meth c H locs 0 0 (MQ below (va_Qv (S := (Nat → Int64)) (fun (u : Nat → Int64) => ChOk u) (WQ dd [(qm, .inr (5, mo a th ro li fm sm ab be st al)), (a 21, .inl (cyJ, 441, .inr (.inl c0)))] sz (fun u => [(qm, .inr (5, mo a th ro li fm sm ab be st al)), (a 21, .inl (cyJ, 441, .inr (.inl u)))])) A) ([.ref qm] : List Value).toArray s 0 0 A) (F0 m 71 ls [.long (lN (chs a0 b0)), .int (nI (21 * a0 + b0)), .ref (a 21)]) := by
                refine va_last hx hb hK hP hD hS 1 1 rfl rfl (i := nI (21 * a0 + b0)) (vp_in_nI (show (21 * a0 + b0) < 441 from (by omega)) (by decide)) dX5_setChoose_71 (fun H locs hP hD hS => ?_)
                rw [nI_clamp (show (21 * a0 + b0) < 2 ^ 31 from Nat.lt_trans (show (21 * a0 + b0) < 441 from (by omega)) (by decide))] at hP hD
                have hP : va_P dd vwCl [(qm, .inr (5, mo a th ro li fm sm ab be st al)), (a 21, .inl (cyJ, 441, .inr (.inl (vp_updL cD (21 * a0 + b0) (lN (chs a0 b0))))))] H := hP
                have hD : va_D A [(qm, .inr (5, mo a th ro li fm sm ab be st al)), (a 21, .inl (cyJ, 441, .inr (.inl (vp_updL cD (21 * a0 + b0) (lN (chs a0 b0))))))] := hD
                refine lv_iinc (v := nI (b0 + 1)) (lv' := [(2, .int (nI (b0 + 1))), (1, .int (nI a0)), (0, .ref qm)]) hx hb dX5_setChoose_72 hl (k := 0) rfl (nI_1 b0) (by decide) rfl (fun ls hl => ?_)
                refine lv_goto (tgt := 10) hx hb dX5_setChoose_75 (by decide) ?_
                exact ih2 (b0 + 1) _ H locs (by omega) (cho_s (by omega) hu2) hP hD hS ls (lv_sub hl [0, 1, 2] rfl)
              refine lv_if_ne (tgt := 34) hx hb dX5_setChoose_27 (by decide) (fun q3 => ?_) (fun q3 => ?_)
              · have z0 : 0 < b0 := Nat.pos_of_ne_zero (fun h => q3 (by rw [h]; rfl))
                refine lv_iload_n hx hb dX5_setChoose_34 rfl (lv_at hl 1 rfl) ?_
                refine lv_if_ne (tgt := 42) hx hb dX5_setChoose_35 (by decide) (fun q4 => ?_) (fun q4 => ?_)
                · have z1 : 0 < a0 := Nat.pos_of_ne_zero (fun h => q4 (by rw [h]; rfl))
                  refine lv_aload_n hx hb dX5_setChoose_42 rfl (lv_at hl 2 rfl) ?_
                  refine va_get (D := dd) (ci := 5) (C := RX5) (T := TX5) (N := 30) (v := .ref (a 21)) hx hb hts hiX5 hown hK hP 0 rfl rfl 21 (by decide) (hts (.fieldLink RX5 54 "SliceDriftModel" "choose" "[J") (by decide +kernel)) (fun _ h9 => h9) rfl dX5_setChoose_43 ?_
                  refine lv_bipush (v := 21) hx hb dX5_setChoose_46 (by decide) ?_
                  refine lv_iload_n hx hb dX5_setChoose_48 rfl (lv_at hl 1 rfl) ?_
                  refine lv_iconst (v := 1) hx hb dX5_setChoose_49 (by decide) ?_
                  refine lv_isub hx hb dX5_setChoose_50 ?_
                  refine tpi (show ((nI a0) - 1 : Int32) = nI (a0 - 1) from pk_sub (b := 1) z1) ?_
                  refine lv_imul hx hb dX5_setChoose_51 ?_
                  refine tpi (show (21 * (nI (a0 - 1)) : Int32) = nI (21 * (a0 - 1)) from pk_mul 21 _) ?_
                  refine lv_iload_n hx hb dX5_setChoose_52 rfl (lv_at hl 0 rfl) ?_
                  refine lv_iadd hx hb dX5_setChoose_53 ?_
                  refine tpi (show ((nI (21 * (a0 - 1))) + (nI b0) : Int32) = nI (21 * (a0 - 1) + b0) from nI_add _ _) ?_
                  refine va_lald hx hb hK hP 1 1 rfl rfl (i := nI (21 * (a0 - 1) + b0)) (vp_in_nI (show (21 * (a0 - 1) + b0) < 441 from (by omega)) (by decide)) dX5_setChoose_54 ?_
                  rw [nI_clamp (show (21 * (a0 - 1) + b0) < 2 ^ 31 from Nat.lt_trans (show (21 * (a0 - 1) + b0) < 441 from (by omega)) (by decide))]
                  refine tpl (show (cD (21 * (a0 - 1) + b0) : Int64) = lN (chs (a0 - 1) b0) from by rw [hu2 _ (by omega), show (21 * (a0 - 1) + b0) / 21 = a0 - 1 by omega, show (21 * (a0 - 1) + b0) % 21 = b0 by omega]) ?_
                  refine lv_aload_n hx hb dX5_setChoose_55 rfl (lv_at hl 2 rfl) ?_
                  refine va_get (D := dd) (ci := 5) (C := RX5) (T := TX5) (N := 30) (v := .ref (a 21)) hx hb hts hiX5 hown hK hP 0 rfl rfl 21 (by decide) (hts (.fieldLink RX5 54 "SliceDriftModel" "choose" "[J") (by decide +kernel)) (fun _ h9 => h9) rfl dX5_setChoose_56 ?_
                  refine lv_bipush (v := 21) hx hb dX5_setChoose_59 (by decide) ?_
                  refine lv_iload_n hx hb dX5_setChoose_61 rfl (lv_at hl 1 rfl) ?_
                  refine lv_iconst (v := 1) hx hb dX5_setChoose_62 (by decide) ?_
                  refine lv_isub hx hb dX5_setChoose_63 ?_
                  refine tpi (show ((nI a0) - 1 : Int32) = nI (a0 - 1) from pk_sub (b := 1) z1) ?_
                  refine lv_imul hx hb dX5_setChoose_64 ?_
                  refine tpi (show (21 * (nI (a0 - 1)) : Int32) = nI (21 * (a0 - 1)) from pk_mul 21 _) ?_
                  refine lv_iload_n hx hb dX5_setChoose_65 rfl (lv_at hl 0 rfl) ?_
                  refine lv_iadd hx hb dX5_setChoose_66 ?_
                  refine tpi (show ((nI (21 * (a0 - 1))) + (nI b0) : Int32) = nI (21 * (a0 - 1) + b0) from nI_add _ _) ?_
                  refine lv_iconst (v := 1) hx hb dX5_setChoose_67 (by decide) ?_
                  refine lv_isub hx hb dX5_setChoose_68 ?_
                  refine tpi (show ((nI (21 * (a0 - 1) + b0)) - 1 : Int32) = nI (21 * (a0 - 1) + b0 - 1) from pk_sub (b := 1) (by omega)) ?_
                  refine va_lald hx hb hK hP 1 1 rfl rfl (i := nI (21 * (a0 - 1) + b0 - 1)) (vp_in_nI (show (21 * (a0 - 1) + b0 - 1) < 441 from (by omega)) (by decide)) dX5_setChoose_69 ?_
                  rw [nI_clamp (show (21 * (a0 - 1) + b0 - 1) < 2 ^ 31 from Nat.lt_trans (show (21 * (a0 - 1) + b0 - 1) < 441 from (by omega)) (by decide))]
                  refine tpl (show (cD (21 * (a0 - 1) + b0 - 1) : Int64) = lN (chs (a0 - 1) (b0 - 1)) from by rw [hu2 _ (by omega), show (21 * (a0 - 1) + b0 - 1) / 21 = a0 - 1 by omega, show (21 * (a0 - 1) + b0 - 1) % 21 = b0 - 1 by omega]) ?_
                  refine lv_ladd hx hb dX5_setChoose_70 ?_
                  refine tpl (show ((lN (chs (a0 - 1) b0)) + (lN (chs (a0 - 1) (b0 - 1))) : Int64) = lN (chs a0 b0) from by rw [lN_add, chs_S (by omega) (by omega) z1 z0]) ?_
                  exact m71
                · have z1 : a0 = 0 := (nI_eq (b := 0) (by omega) (by decide)).mp q4
                  refine lv_lconst (v := 0) hx hb dX5_setChoose_38 (by decide) ?_
                  refine lv_goto (tgt := 71) hx hb dX5_setChoose_39 (by decide) ?_
                  refine tpl (show (0 : Int64) = lN (chs a0 b0) from by rw [z1, chs_z b0 (by omega) z0]; rfl) ?_
                  exact m71
              · have z0 : b0 = 0 := (nI_eq (b := 0) (by omega) (by decide)).mp q3
                refine lv_lconst (v := 1) hx hb dX5_setChoose_30 (by decide) ?_
                refine lv_goto (tgt := 71) hx hb dX5_setChoose_31 (by decide) ?_
                refine tpl (show (1 : Int64) = lN (chs a0 b0) from by rw [z0, chs_0 a0 (by omega)]; rfl) ?_
                exact m71
        exact loop2 21 0 cB H locs rfl hu hP hD hS ls (lv_sub hl [0, 1, 2] rfl)
  exact loop 21 0 c0 H _ rfl (fun j h => absurd h (by omega)) hP hD hS ls (lv_sub hl [0, 1] rfl)

def ROk (Z : Nat → Nat → Nat) (wA : Nat → Int64) : Prop := ∀ i, i < 8421 → wA i = lN (Z (i / 401) (i % 401))
def Rz (Z : Nat → Nat → Nat) (c H i : Nat) : Nat := smF (fun h0 => tt Z c h0 (i / 401) (i % 401)) H 0
def Rx (Z : Nat → Nat → Nat) (c H X i : Nat) : Nat := Rz Z c H i + (if H ≤ i / 401 ∧ i / 401 - H < X then tt Z c H (i / 401) (i % 401) else 0)
def Ry (Z : Nat → Nat → Nat) (c H X Q i : Nat) : Nat := Rx Z c H X i + (if i / 401 = H + X ∧ i % 401 < Q + gw c H (H + X) then tt Z c H (i / 401) (i % 401) else 0)
theorem Rz_s (Z : Nat → Nat → Nat) (c H i : Nat) : Rz Z c (H + 1) i = Rz Z c H i + tt Z c H (i / 401) (i % 401) := by
  unfold Rz
  rw [smF_app]
  simp only [smF]
  rw [Nat.zero_add]
  rfl
theorem Rx_0 (Z : Nat → Nat → Nat) (c H i : Nat) : Rx Z c H 0 i = Rz Z c H i := by
  unfold Rx
  rw [if_neg (show ¬ (H ≤ i / 401 ∧ i / 401 - H < 0) by omega)]
  rfl
theorem Rx_e {Z : Nat → Nat → Nat} {c H X i : Nat} (h : c < X ∨ 21 ≤ H + X) (hi : i < 8421) : Rx Z c H X i = Rz Z c (H + 1) i := by
  rw [Rz_s]
  unfold Rx
  by_cases q : H ≤ i / 401 ∧ i / 401 - H < X
  · rw [if_pos q]
  · rw [if_neg q, tt_n (fun g => q ⟨g.1, by omega⟩)]
theorem Ry_0 (Z : Nat → Nat → Nat) (c H X i : Nat) : Ry Z c H X 0 i = Rx Z c H X i := by
  unfold Ry
  by_cases q : i / 401 = H + X ∧ i % 401 < 0 + gw c H (H + X)
  · rw [if_pos q, tt_n (fun g => by rw [q.1] at g; omega)]
    rfl
  · rw [if_neg q]
    rfl
theorem Ry_e {Z : Nat → Nat → Nat} {c H X Q i : Nat} (h : 401 ≤ Q + gw c H (H + X)) : Ry Z c H X Q i = Rx Z c H (X + 1) i := by
  unfold Ry Rx
  by_cases e : i / 401 = H + X
  · rw [if_pos (show i / 401 = H + X ∧ i % 401 < Q + gw c H (H + X) by omega), if_neg (show ¬ (H ≤ i / 401 ∧ i / 401 - H < X) by omega), if_pos (show H ≤ i / 401 ∧ i / 401 - H < X + 1 by omega)]
    rfl
  · rw [if_neg (show ¬ (i / 401 = H + X ∧ i % 401 < Q + gw c H (H + X)) from fun g => e g.1)]
    by_cases q : H ≤ i / 401 ∧ i / 401 - H < X
    · rw [if_pos q, if_pos (show H ≤ i / 401 ∧ i / 401 - H < X + 1 by omega)]
      rfl
    · rw [if_neg q, if_neg (show ¬ (H ≤ i / 401 ∧ i / 401 - H < X + 1) by omega)]
theorem gw_x {c H X : Nat} : gw c H (H + X) = (c - X) * (2 * H + X) := by
  unfold gw
  rw [show H + X - H = X by omega]
theorem Ry_s {Z : Nat → Nat → Nat} {c H X Q i : Nat} (hx : X ≤ c) (hq : Q + gw c H (H + X) < 401) : Ry Z c H X (Q + 1) i = Ry Z c H X Q i + (if i = 401 * (H + X) + Q + gw c H (H + X) then Z H Q * chs c X else 0) := by
  unfold Ry
  generalize Rx Z c H X i = R0
  by_cases e : i = 401 * (H + X) + Q + gw c H (H + X)
  · have e1 : i / 401 = H + X := by omega
    have e2 : i % 401 = Q + gw c H (H + X) := by omega
    rw [if_pos e, if_pos (show i / 401 = H + X ∧ i % 401 < Q + 1 + gw c H (H + X) by omega), if_neg (show ¬ (i / 401 = H + X ∧ i % 401 < Q + gw c H (H + X)) by omega), e1, e2, tt_y ⟨by omega, by omega, by omega⟩, show Q + gw c H (H + X) - gw c H (H + X) = Q by omega, show H + X - H = X by omega]
    rfl
  · rw [if_neg e]
    by_cases q : i / 401 = H + X ∧ i % 401 < Q + gw c H (H + X)
    · rw [if_pos q, if_pos (show i / 401 = H + X ∧ i % 401 < Q + 1 + gw c H (H + X) by omega)]
      rfl
    · rw [if_neg q, if_neg (show ¬ (i / 401 = H + X ∧ i % 401 < Q + 1 + gw c H (H + X)) by omega)]
theorem Ry_st {Z : Nat → Nat → Nat} {c H X Q j : Nat} {mB : Nat → Int64} (hx : X ≤ c) (hq : Q + gw c H (H + X) < 401) (hj : j = 401 * (H + X) + Q + gw c H (H + X)) (h : ∀ i, i < 8421 → mB i = lN (Ry Z c H X Q i)) : ∀ i, i < 8421 → vp_updL mB j (lN (Ry Z c H X Q j + Z H Q * chs c X)) i = lN (Ry Z c H X (Q + 1) i) := by
  intro i hi
  rw [Ry_s hx hq, ← hj]
  by_cases e : i = j
  · rw [e, pk_uLs, if_pos rfl]
  · rw [pk_uLn e, if_neg e, Nat.add_zero]
    exact h i hi
theorem ps11 {f : Nat → Bool} {sI : Nat → Int32} {co n : Nat} (h : ∀ i, i < n → ∃ k, k < 11 ∧ sI (5 * i + co) = nI k) : cnt f n = oN f sI co n + cs f sI co n 10 := (ps_cs n h).symm

set_option maxHeartbeats 4000000 in
set_option maxRecDepth 100000 in
theorem r_odds (l : Launch) (dd : va_G) (cyI cyJ cyZ : ClassId) (qm : Nat) (a : Nat → Nat) (th li fm sm : Int32) (ab be : Int64) (st al : Int32) (n : Nat) (hn : n ≤ 48) (tI sI fA gA : Nat → Int32) (wA mA cA : Nat → Int64) (hSo : ∀ i, i < n → ∀ co, co < 5 → ∃ k, k < 11 ∧ sI (5 * i + co) = nI k) (y f b t pt : Int32) (sz : Nat) : Met l yX5_odds wsX5_odds ({ frames := 2, cells := 0, slots := 0, locals := 80 } : Room) (va_Pc [.ref qm, .int y, .int f, .int b, .int t, .int pt] (Wr dd [(cyI, .int), (cyJ, .long), (cyZ, .boolean)] [(qm, .inr (5, mo a th (nI n) li fm sm ab be st al)), (a 2, .inl (cyI, 48, .inl tI)), (a 4, .inl (cyI, 240, .inl sI)), (a 13, .inl (cyI, 11, .inl fA)), (a 14, .inl (cyI, 11, .inl gA)), (a 19, .inl (cyJ, 8421, .inr (.inl wA))), (a 20, .inl (cyJ, 8421, .inr (.inl mA))), (a 21, .inl (cyJ, 441, .inr (.inl cA)))] sz)) (va_Ql (S := Int32 × Int32 × (Nat → Int32) × (Nat → Int32) × (Nat → Int64) × (Nat → Int64) × (Nat → Int64)) (fun (r : Int64) (_ : Int32 × Int32 × (Nat → Int32) × (Nat → Int32) × (Nat → Int64) × (Nat → Int64) × (Nat → Int64)) => r = oddsR n tI sI y f b t pt) (WQ dd [(qm, .inr (5, mo a th (nI n) li fm sm ab be st al)), (a 2, .inl (cyI, 48, .inl tI)), (a 4, .inl (cyI, 240, .inl sI)), (a 13, .inl (cyI, 11, .inl fA)), (a 14, .inl (cyI, 11, .inl gA)), (a 19, .inl (cyJ, 8421, .inr (.inl wA))), (a 20, .inl (cyJ, 8421, .inr (.inl mA))), (a 21, .inl (cyJ, 441, .inr (.inl cA)))] sz (fun u => [(qm, .inr (5, mo a 0 (nI n) li u.1 u.2.1 ab be st al)), (a 2, .inl (cyI, 48, .inl tI)), (a 4, .inl (cyI, 240, .inl sI)), (a 13, .inl (cyI, 11, .inl u.2.2.1)), (a 14, .inl (cyI, 11, .inl u.2.2.2.1)), (a 19, .inl (cyJ, 8421, .inr (.inl u.2.2.2.2.1))), (a 20, .inl (cyJ, 8421, .inr (.inl u.2.2.2.2.2.1))), (a 21, .inl (cyJ, 441, .inr (.inl u.2.2.2.2.2.2)))])) (va_A [(qm, .inr (5, mo a th (nI n) li fm sm ab be st al)), (a 2, .inl (cyI, 48, .inl tI)), (a 4, .inl (cyI, 240, .inl sI)), (a 13, .inl (cyI, 11, .inl fA)), (a 14, .inl (cyI, 11, .inl gA)), (a 19, .inl (cyJ, 8421, .inr (.inl wA))), (a 20, .inl (cyJ, 8421, .inr (.inl mA))), (a 21, .inl (cyJ, 441, .inr (.inl cA)))] sz)) 0 0 (va_A [(qm, .inr (5, mo a th (nI n) li fm sm ab be st al)), (a 2, .inl (cyI, 48, .inl tI)), (a 4, .inl (cyI, 240, .inl sI)), (a 13, .inl (cyI, 11, .inl fA)), (a 14, .inl (cyI, 11, .inl gA)), (a 19, .inl (cyJ, 8421, .inr (.inl wA))), (a 20, .inl (cyJ, 8421, .inr (.inl mA))), (a 21, .inl (cyJ, 441, .inr (.inl cA)))] sz) := by
  refine mkW (Qc := fun A => (va_Ql (S := Int32 × Int32 × (Nat → Int32) × (Nat → Int32) × (Nat → Int64) × (Nat → Int64) × (Nat → Int64)) (fun (r : Int64) (_ : Int32 × Int32 × (Nat → Int32) × (Nat → Int32) × (Nat → Int64) × (Nat → Int64) × (Nat → Int64)) => r = oddsR n tI sI y f b t pt) (WQ dd [(qm, .inr (5, mo a th (nI n) li fm sm ab be st al)), (a 2, .inl (cyI, 48, .inl tI)), (a 4, .inl (cyI, 240, .inl sI)), (a 13, .inl (cyI, 11, .inl fA)), (a 14, .inl (cyI, 11, .inl gA)), (a 19, .inl (cyJ, 8421, .inr (.inl wA))), (a 20, .inl (cyJ, 8421, .inr (.inl mA))), (a 21, .inl (cyJ, 441, .inr (.inl cA)))] sz (fun u => [(qm, .inr (5, mo a 0 (nI n) li u.1 u.2.1 ab be st al)), (a 2, .inl (cyI, 48, .inl tI)), (a 4, .inl (cyI, 240, .inl sI)), (a 13, .inl (cyI, 11, .inl u.2.2.1)), (a 14, .inl (cyI, 11, .inl u.2.2.2.1)), (a 19, .inl (cyJ, 8421, .inr (.inl u.2.2.2.2.1))), (a 20, .inl (cyJ, 8421, .inr (.inl u.2.2.2.2.2.1))), (a 21, .inl (cyJ, 441, .inr (.inl u.2.2.2.2.2.2)))])) A)) (cc := cX5_odds) (maxL := 14) (by decide) rfl (Nat.le_of_ble_eq_true rfl) (lv0 := [(0, .ref qm), (1, .int y), (2, .int f), (3, .int b), (4, .int t), (5, .int pt)]) rfl ?_
  intro p e s m below meth c ls H A hx hb hr hml hown hlocks hts hmn hN hP hK hD hS hA hAe hl
  have hown : s.vm.findClass RX5 = some m.cls := hown
  have hiX5 : ∀ w ∈ wsX50, w ∈ wsX5_odds := by decide +kernel
  refine lv_aload_n hx hb dX5_odds_0 rfl (lv_at hl 0 rfl) ?_
  refine lv_iconst (v := 0) hx hb dX5_odds_1 (by decide) ?_
  refine va_put (D := dd) (ci := 5) (v := .int 0) (ty := .int) (C := RX5) (T := TX5) (N := 30) hx hb hts hiX5 tyX5 tyX5_ok nmX5 hown hK hP hD hS 0 rfl rfl 0 (by decide) (hts (.fieldLink RX5 75 "SliceDriftModel" "thrown" "I") (by decide +kernel)) (fun _ h9 => h9) rfl (by decide +kernel) rfl rfl (Nat.le_of_ble_eq_true rfl) dX5_odds_2 (fun H locs hP hD hS => ?_)
  have hP : va_P dd vwCl [(qm, .inr (5, mo a 0 (nI n) li fm sm ab be st al)), (a 2, .inl (cyI, 48, .inl tI)), (a 4, .inl (cyI, 240, .inl sI)), (a 13, .inl (cyI, 11, .inl fA)), (a 14, .inl (cyI, 11, .inl gA)), (a 19, .inl (cyJ, 8421, .inr (.inl wA))), (a 20, .inl (cyJ, 8421, .inr (.inl mA))), (a 21, .inl (cyJ, 441, .inr (.inl cA)))] H := hP
  have hD : va_D A [(qm, .inr (5, mo a 0 (nI n) li fm sm ab be st al)), (a 2, .inl (cyI, 48, .inl tI)), (a 4, .inl (cyI, 240, .inl sI)), (a 13, .inl (cyI, 11, .inl fA)), (a 14, .inl (cyI, 11, .inl gA)), (a 19, .inl (cyJ, 8421, .inr (.inl wA))), (a 20, .inl (cyJ, 8421, .inr (.inl mA))), (a 21, .inl (cyJ, 441, .inr (.inl cA)))] := hD
  refine lv_iload_n hx hb dX5_odds_5 rfl (lv_at hl 1 rfl) ?_
  refine lv_iconst (v := 0) hx hb dX5_odds_6 (by decide) ?_
  refine lv_iconst (v := 4) hx hb dX5_odds_7 (by decide) ?_
  refine clSi (As := [.int y, .int 0, .int 4]) (rest := []) ⟨hx, hb, hml, hown, hts⟩ (r_in l dd cyI cyJ cyZ y 0 4) gX5_odds_X5_in (n := 3) rfl ⟨rfl, rfl⟩ (by decide +kernel) ⟨Nat.le_of_ble_eq_true rfl, Nat.le_of_ble_eq_true rfl⟩ hN hK (hP.sub [] rfl) rfl hl.1 rfl (Nat.le_of_ble_eq_true rfl) dX5_odds_8 ⟨Nat.le_of_ble_eq_true rfl, Nat.le_of_ble_eq_true rfl⟩ (fun ck1 hck1 => ?_)
  refine lv_if_ne (tgt := 18) hx hb dX5_odds_11 (by decide) (fun qck1 => ?_) (fun qck1 => ?_)
  · have hck1 : inC y := hck1.elim (fun h => h.2) (fun h => absurd h.1 qck1)
    refine lv_iload_n hx hb dX5_odds_18 rfl (lv_at hl 2 rfl) ?_
    refine lv_iload_n hx hb dX5_odds_19 rfl (lv_at hl 3 rfl) ?_
    refine lv_iload hx hb dX5_odds_20 (lv_at hl 4 rfl) ?_
    refine clSi (As := [.int f, .int b, .int t]) (rest := []) ⟨hx, hb, hml, hown, hts⟩ (r_areWindows l dd cyI cyJ cyZ f b t) gX5_odds_X5_areWindows (n := 3) rfl ⟨rfl, rfl⟩ (by decide +kernel) ⟨Nat.le_of_ble_eq_true rfl, Nat.le_of_ble_eq_true rfl⟩ hN hK (hP.sub [] rfl) rfl hl.1 rfl (Nat.le_of_ble_eq_true rfl) dX5_odds_22 ⟨Nat.le_of_ble_eq_true rfl, Nat.le_of_ble_eq_true rfl⟩ (fun ck2 hck2 => ?_)
    refine lv_if_eq (tgt := 38) hx hb dX5_odds_25 (by decide) (fun qck2 => ?_) (fun qck2 => ?_)
    · have hck2 : ¬ (inW f b t) := hck2.elim (fun h => absurd (h.1.symm.trans qck2) (by decide)) (fun h => h.2)
      refine lv_ldc2 (v := (-1000002)) hx hb hown (hts (.constantLong RX5 117 (-1000002)) (by decide +kernel)) dX5_odds_38 ?_
      exact ewL (fm, sm, fA, gA, wA, mA, cA) hx hb hr hlocks hAe hS dX5_odds_41 (by rw [oddsR, if_pos hck1, if_neg (fun x : inW f b t ∧ inP pt => hck2 x.1)]) (hP.sub [0, 1, 2, 3, 4, 5, 6, 7] rfl) (hD.sub [0, 1, 2, 3, 4, 5, 6, 7] (by decide) rfl)
    · have hck2 : inW f b t := hck2.elim (fun h => h.2) (fun h => absurd h.1 qck2)
      refine lv_iload hx hb dX5_odds_28 (lv_at hl 5 rfl) ?_
      refine lv_iconst (v := 0) hx hb dX5_odds_30 (by decide) ?_
      refine lv_iconst (v := 1) hx hb dX5_odds_31 (by decide) ?_
      refine clSi (As := [.int pt, .int 0, .int 1]) (rest := []) ⟨hx, hb, hml, hown, hts⟩ (r_in l dd cyI cyJ cyZ pt 0 1) gX5_odds_X5_in (n := 3) rfl ⟨rfl, rfl⟩ (by decide +kernel) ⟨Nat.le_of_ble_eq_true rfl, Nat.le_of_ble_eq_true rfl⟩ hN hK (hP.sub [] rfl) rfl hl.1 rfl (Nat.le_of_ble_eq_true rfl) dX5_odds_32 ⟨Nat.le_of_ble_eq_true rfl, Nat.le_of_ble_eq_true rfl⟩ (fun ck3 hck3 => ?_)
      refine lv_if_ne (tgt := 42) hx hb dX5_odds_35 (by decide) (fun qck3 => ?_) (fun qck3 => ?_)
      · have hck3 : inP pt := hck3.elim (fun h => h.2) (fun h => absurd h.1 qck3)
        obtain ⟨co, hco, ey⟩ := inC_of hck1
        subst ey
        have ec : cl (nI co) = co := cl_nI (by omega)
        have hpt := inP_of hck3
        refine lv_aload_n hx hb dX5_odds_42 rfl (lv_at hl 0 rfl) ?_
        refine lv_iload_n hx hb dX5_odds_43 rfl (lv_at hl 1 rfl) ?_
        refine lv_iload_n hx hb dX5_odds_44 rfl (lv_at hl 2 rfl) ?_
        refine lv_iload_n hx hb dX5_odds_45 rfl (lv_at hl 3 rfl) ?_
        refine lv_iload_n hx hb dX5_odds_46 rfl (lv_at hl 3 rfl) ?_
        refine lv_iload hx hb dX5_odds_47 (lv_at hl 4 rfl) ?_
        refine clVwv (As := [.int (nI co), .int f, .int b, .int b, .int t]) (rest := []) (b := qm) (vc := (RX5, TX5, 30)) (wr := [(a 19, .inl (cyJ, 8421, .inr (.inl wA))), (a 20, .inl (cyJ, 8421, .inr (.inl mA))), (a 21, .inl (cyJ, 441, .inr (.inl cA)))]) ⟨hx, hb, hml, hown, hts⟩ (fun sz => r_counts l dd cyI cyJ cyZ qm a 0 li fm sm ab be st al n hn tI sI fA gA co hco (fun i hi => hSo i hi co hco) f b b t sz) gX5_odds_X5_counts (ci := 5) rfl (q0 := 0) rfl (n := 5) rfl ⟨rfl, rfl⟩ (by decide +kernel) ⟨Nat.le_of_ble_eq_true rfl, Nat.le_of_ble_eq_true rfl⟩ hN hK hP hD hS hA [0, 1, 2, 3, 4] [5, 6, 7] rfl rfl (by decide) rfl (by decide) (by decide) rfl hl.1 rfl (Nat.le_of_ble_eq_true rfl) dX5_odds_49 ⟨Nat.le_of_ble_eq_true rfl, Nat.le_of_ble_eq_true rfl⟩ (fun u1 H locs hu1 hP hD hS => ?_)
        have hP : va_P dd vwCl [(a 19, .inl (cyJ, 8421, .inr (.inl wA))), (a 20, .inl (cyJ, 8421, .inr (.inl mA))), (a 21, .inl (cyJ, 441, .inr (.inl cA))), (qm, .inr (5, mo a 0 (nI n) li (nI (cnt (win tI f b) n)) (nI (cnt (win tI b t) n)) ab be st al)), (a 2, .inl (cyI, 48, .inl tI)), (a 4, .inl (cyI, 240, .inl sI)), (a 13, .inl (cyI, 11, .inl u1.1)), (a 14, .inl (cyI, 11, .inl u1.2))] H := hP
        have hD : va_D A [(a 19, .inl (cyJ, 8421, .inr (.inl wA))), (a 20, .inl (cyJ, 8421, .inr (.inl mA))), (a 21, .inl (cyJ, 441, .inr (.inl cA))), (qm, .inr (5, mo a 0 (nI n) li (nI (cnt (win tI f b) n)) (nI (cnt (win tI b t) n)) ab be st al)), (a 2, .inl (cyI, 48, .inl tI)), (a 4, .inl (cyI, 240, .inl sI)), (a 13, .inl (cyI, 11, .inl u1.1)), (a 14, .inl (cyI, 11, .inl u1.2))] := hD
        have u1f := csb hn (fun k hk => (hu1 k hk).1)
        have u1g := csb hn (fun k hk => (hu1 k hk).2)
        obtain ⟨Ff, eFf⟩ : ∃ Ff, Ff = win tI f b := ⟨_, rfl⟩
        obtain ⟨Gg, eGg⟩ : ∃ Gg, Gg = win tI b t := ⟨_, rfl⟩
        have eO : oddsR n tI sI (nI co) f b t pt = oddsV Ff Gg sI co n pt := by rw [oddsR, if_pos (show inC (nI co) from hck1), if_pos (show inW f b t ∧ inP pt from ⟨hck2, hck3⟩), ec, eFf, eGg]
        rw [eO]
        rw [← eFf, ← eGg] at hP hD
        rw [← eFf] at u1f
        rw [← eGg] at u1g
        have n1 := ps11 (f := Ff) (fun i hi => hSo i hi co hco)
        have n1b := Nat.le_trans (cnt_le Ff n) hn
        have n2 := ps11 (f := Gg) (fun i hi => hSo i hi co hco)
        have n2b := Nat.le_trans (cnt_le Gg n) hn
        obtain ⟨N1, eN1⟩ : ∃ N1, N1 = oN Ff sI co n := ⟨_, rfl⟩
        obtain ⟨N2, eN2⟩ : ∃ N2, N2 = oN Gg sI co n := ⟨_, rfl⟩
        rw [← eN1] at n1
        rw [← eN2] at n2
        refine lv_aload_n hx hb dX5_odds_52 rfl (lv_at hl 0 rfl) ?_
        refine va_get (D := dd) (ci := 5) (C := RX5) (T := TX5) (N := 30) (v := .int (nI (cnt Ff n))) hx hb hts hiX5 hown hK hP 3 rfl rfl 15 (by decide) (hts (.fieldLink RX5 130 "SliceDriftModel" "firstMany" "I") (by decide +kernel)) (fun _ h9 => h9) rfl dX5_odds_53 ?_
        refine lv_aload_n hx hb dX5_odds_56 rfl (lv_at hl 0 rfl) ?_
        refine va_get (D := dd) (ci := 5) (C := RX5) (T := TX5) (N := 30) (v := .ref (a 13)) hx hb hts hiX5 hown hK hP 3 rfl rfl 13 (by decide) (hts (.fieldLink RX5 42 "SliceDriftModel" "first" "[I") (by decide +kernel)) (fun _ h9 => h9) rfl dX5_odds_57 ?_
        refine lv_bipush (v := 10) hx hb dX5_odds_60 (by decide) ?_
        refine va_iald hx hb hK hP 6 0 rfl rfl (i := nI 10) (vp_in_nI (show 10 < 11 by decide) (by decide)) dX5_odds_62 ?_
        rw [nI_clamp (show 10 < 2 ^ 31 by decide)]
        refine tpi (show (u1.1 10 : Int32) = nI (cs Ff sI co n 10) from (u1f 10 (by decide)).1) ?_
        refine lv_isub hx hb dX5_odds_63 ?_
        refine tpi (show ((nI (cnt Ff n)) - (nI (cs Ff sI co n 10)) : Int32) = nI N1 from by rw [n1, pk_sub (by omega)]; congr 1; omega) ?_
        refine lv_istore (lv' := [(6, .int (nI N1)), (0, .ref qm), (1, .int (nI co)), (2, .int f), (3, .int b), (4, .int t), (5, .int pt)]) hx hb dX5_odds_64 hl (by decide) rfl (fun ls hl => ?_)
        refine lv_iload hx hb dX5_odds_66 (lv_at hl 0 rfl) ?_
        refine lv_aload_n hx hb dX5_odds_68 rfl (lv_at hl 1 rfl) ?_
        refine va_get (D := dd) (ci := 5) (C := RX5) (T := TX5) (N := 30) (v := .int (nI (cnt Gg n))) hx hb hts hiX5 hown hK hP 3 rfl rfl 16 (by decide) (hts (.fieldLink RX5 133 "SliceDriftModel" "secondMany" "I") (by decide +kernel)) (fun _ h9 => h9) rfl dX5_odds_69 ?_
        refine lv_iadd hx hb dX5_odds_72 ?_
        refine tpi (show ((nI N1) + (nI (cnt Gg n)) : Int32) = nI (N1 + cnt Gg n) from nI_add _ _) ?_
        refine lv_aload_n hx hb dX5_odds_73 rfl (lv_at hl 1 rfl) ?_
        refine va_get (D := dd) (ci := 5) (C := RX5) (T := TX5) (N := 30) (v := .ref (a 14)) hx hb hts hiX5 hown hK hP 3 rfl rfl 14 (by decide) (hts (.fieldLink RX5 45 "SliceDriftModel" "second" "[I") (by decide +kernel)) (fun _ h9 => h9) rfl dX5_odds_74 ?_
        refine lv_bipush (v := 10) hx hb dX5_odds_77 (by decide) ?_
        refine va_iald hx hb hK hP 7 0 rfl rfl (i := nI 10) (vp_in_nI (show 10 < 11 by decide) (by decide)) dX5_odds_79 ?_
        rw [nI_clamp (show 10 < 2 ^ 31 by decide)]
        refine tpi (show (u1.2 10 : Int32) = nI (cs Gg sI co n 10) from (u1g 10 (by decide)).1) ?_
        refine lv_isub hx hb dX5_odds_80 ?_
        refine tpi (show ((nI (N1 + cnt Gg n)) - (nI (cs Gg sI co n 10)) : Int32) = nI (N1 + N2) from by rw [n2, pk_sub (by omega)]; congr 1; omega) ?_
        refine lv_istore (lv' := [(7, .int (nI (N1 + N2))), (6, .int (nI N1)), (0, .ref qm), (1, .int (nI co)), (2, .int f), (3, .int b), (4, .int t), (5, .int pt)]) hx hb dX5_odds_81 hl (by decide) rfl (fun ls hl => ?_)
        refine lv_iload hx hb dX5_odds_83 (lv_at hl 0 rfl) ?_
        refine lv_bipush (v := 20) hx hb dX5_odds_85 (by decide) ?_
        refine lv_icmp_le (tgt := 94) hx hb dX5_odds_87 (by decide) (fun q => ?_) (fun q => ?_)
        · have h20 : N1 + N2 ≤ 20 := (nI_leI (by omega) (by decide)).mp q
          obtain ⟨qc, eqc⟩ : ∃ qc, qc = oC Ff Gg sI co n := ⟨_, rfl⟩
          have q20 : ps qc 10 ≤ 20 := by rw [eqc, oC_ps]; show oN Ff sI co n + oN Gg sI co n ≤ 20; omega
          refine lv_aload_n hx hb dX5_odds_94 rfl (lv_at hl 2 rfl) ?_
          refine clVwv (As := []) (rest := []) (b := qm) (vc := (RX5, TX5, 30)) (wr := [(a 19, .inl (cyJ, 8421, .inr (.inl wA))), (a 20, .inl (cyJ, 8421, .inr (.inl mA))), (a 2, .inl (cyI, 48, .inl tI)), (a 4, .inl (cyI, 240, .inl sI)), (a 13, .inl (cyI, 11, .inl u1.1)), (a 14, .inl (cyI, 11, .inl u1.2))]) ⟨hx, hb, hml, hown, hts⟩ (fun sz => r_setChoose l dd cyI cyJ cyZ qm a 0 (nI n) li (nI (cnt Ff n)) (nI (cnt Gg n)) ab be st al cA sz) gX5_odds_X5_setChoose (ci := 5) rfl (q0 := 0) rfl (n := 0) rfl ⟨rfl, rfl⟩ (by decide +kernel) ⟨Nat.le_of_ble_eq_true rfl, Nat.le_of_ble_eq_true rfl⟩ hN hK hP hD hS hA [3, 2] [0, 1, 4, 5, 6, 7] rfl rfl (by decide) rfl (by decide) (by decide) rfl hl.1 rfl (Nat.le_of_ble_eq_true rfl) dX5_odds_95 ⟨Nat.le_of_ble_eq_true rfl, Nat.le_of_ble_eq_true rfl⟩ (fun ch H locs hch hP hD hS => ?_)
          have hP : va_P dd vwCl [(a 19, .inl (cyJ, 8421, .inr (.inl wA))), (a 20, .inl (cyJ, 8421, .inr (.inl mA))), (a 2, .inl (cyI, 48, .inl tI)), (a 4, .inl (cyI, 240, .inl sI)), (a 13, .inl (cyI, 11, .inl u1.1)), (a 14, .inl (cyI, 11, .inl u1.2)), (qm, .inr (5, mo a 0 (nI n) li (nI (cnt Ff n)) (nI (cnt Gg n)) ab be st al)), (a 21, .inl (cyJ, 441, .inr (.inl ch)))] H := hP
          have hD : va_D A [(a 19, .inl (cyJ, 8421, .inr (.inl wA))), (a 20, .inl (cyJ, 8421, .inr (.inl mA))), (a 2, .inl (cyI, 48, .inl tI)), (a 4, .inl (cyI, 240, .inl sI)), (a 13, .inl (cyI, 11, .inl u1.1)), (a 14, .inl (cyI, 11, .inl u1.2)), (qm, .inr (5, mo a 0 (nI n) li (nI (cnt Ff n)) (nI (cnt Gg n)) ab be st al)), (a 21, .inl (cyJ, 441, .inr (.inl ch)))] := hD
          refine lv_iconst (v := 0) hx hb dX5_odds_98 (by decide) ?_
          refine lv_istore (lv' := [(8, .int 0), (7, .int (nI (N1 + N2))), (6, .int (nI N1)), (0, .ref qm), (1, .int (nI co)), (2, .int f), (3, .int b), (4, .int t), (5, .int pt)]) hx hb dX5_odds_99 hl (by decide) rfl (fun ls hl => ?_)
          have loop : ∀ (k : Nat) (v : Nat) (wB mB : Nat → Int64) (H : Heap) (locs : List Loc), v + k = 10 → ROk (Wv qc v) wB → va_P dd vwCl [(qm, .inr (5, mo a 0 (nI n) li (nI (cnt Ff n)) (nI (cnt Gg n)) ab be st al)), (a 2, .inl (cyI, 48, .inl tI)), (a 4, .inl (cyI, 240, .inl sI)), (a 13, .inl (cyI, 11, .inl u1.1)), (a 14, .inl (cyI, 11, .inl u1.2)), (a 19, .inl (cyJ, 8421, .inr (.inl wB))), (a 20, .inl (cyJ, 8421, .inr (.inl mB))), (a 21, .inl (cyJ, 441, .inr (.inl ch)))] H → va_D A [(qm, .inr (5, mo a 0 (nI n) li (nI (cnt Ff n)) (nI (cnt Gg n)) ab be st al)), (a 2, .inl (cyI, 48, .inl tI)), (a 4, .inl (cyI, 240, .inl sI)), (a 13, .inl (cyI, 11, .inl u1.1)), (a 14, .inl (cyI, 11, .inl u1.2)), (a 19, .inl (cyJ, 8421, .inr (.inl wB))), (a 20, .inl (cyJ, 8421, .inr (.inl mB))), (a 21, .inl (cyJ, 441, .inr (.inl ch)))] → va_S A s.heap H locs → ∀ ls : Array Slot, lv_has ls 14 [(8, .int (nI v)), (7, .int (nI (N1 + N2))), (6, .int (nI N1)), (0, .ref qm), (5, .int pt)] → W p l e ({ frames := 2, cells := 0, slots := 0, locals := 80 } : Room) s m ([.ref qm, .int (nI co), .int f, .int b, .int t, .int pt] : List Value).toArray below meth c H locs 0 0 (MQ below (va_Ql (S := Int32 × Int32 × (Nat → Int32) × (Nat → Int32) × (Nat → Int64) × (Nat → Int64) × (Nat → Int64)) (fun (r : Int64) (_ : Int32 × Int32 × (Nat → Int32) × (Nat → Int32) × (Nat → Int64) × (Nat → Int64) × (Nat → Int64)) => r = oddsV Ff Gg sI co n pt) (WQ dd [(qm, .inr (5, mo a th (nI n) li fm sm ab be st al)), (a 2, .inl (cyI, 48, .inl tI)), (a 4, .inl (cyI, 240, .inl sI)), (a 13, .inl (cyI, 11, .inl fA)), (a 14, .inl (cyI, 11, .inl gA)), (a 19, .inl (cyJ, 8421, .inr (.inl wA))), (a 20, .inl (cyJ, 8421, .inr (.inl mA))), (a 21, .inl (cyJ, 441, .inr (.inl cA)))] sz (fun u => [(qm, .inr (5, mo a 0 (nI n) li u.1 u.2.1 ab be st al)), (a 2, .inl (cyI, 48, .inl tI)), (a 4, .inl (cyI, 240, .inl sI)), (a 13, .inl (cyI, 11, .inl u.2.2.1)), (a 14, .inl (cyI, 11, .inl u.2.2.2.1)), (a 19, .inl (cyJ, 8421, .inr (.inl u.2.2.2.2.1))), (a 20, .inl (cyJ, 8421, .inr (.inl u.2.2.2.2.2.1))), (a 21, .inl (cyJ, 441, .inr (.inl u.2.2.2.2.2.2)))])) A) ([.ref qm, .int (nI co), .int f, .int b, .int t, .int pt] : List Value).toArray s 0 0 A) (F0 m 135 ls []) := by
            intro k
            induction k with
            | zero =>
              intro v wB mB H locs hv9 hW hP hD hS ls hl
              refine lv_iload hx hb dX5_odds_135 (lv_at hl 0 rfl) ?_
              refine lv_bipush (v := 10) hx hb dX5_odds_137 (by decide) ?_
              refine lv_icmp_ge (tgt := 349) hx hb dX5_odds_139 (by decide) (fun q2 => ?_) (fun q2 => ?_)
              · have v10 : v = 10 := by omega
                subst v10
                refine lv_lconst (v := 0) hx hb dX5_odds_349 (by decide) ?_
                refine lv_lstore (lv' := [(8, .long 0), (7, .int (nI (N1 + N2))), (6, .int (nI N1)), (0, .ref qm), (5, .int pt)]) hx hb dX5_odds_350 hl (by decide) rfl (fun ls hl => ?_)
                refine lv_aload_n hx hb dX5_odds_352 rfl (lv_at hl 3 rfl) ?_
                refine clVi (As := []) (rest := []) (b := qm) (vc := (RX5, TX5, 30)) ⟨hx, hb, hml, hown, hts⟩ (r_riseOf l dd cyI cyJ cyZ qm a 0 (nI n) li (nI (cnt Ff n)) (nI (cnt Gg n)) ab be st al (cs Ff sI co n) (cs Gg sI co n) u1.1 u1.2 u1f u1g) gX5_odds_X5_riseOf (ci := 5) rfl (q0 := 0) rfl (n := 0) rfl ⟨rfl, rfl⟩ (by decide +kernel) ⟨Nat.le_of_ble_eq_true rfl, Nat.le_of_ble_eq_true rfl⟩ hN hK (hP.sub [0, 3, 4] rfl) rfl hl.1 rfl (Nat.le_of_ble_eq_true rfl) dX5_odds_353 ⟨Nat.le_of_ble_eq_true rfl, Nat.le_of_ble_eq_true rfl⟩ (fun rr hrr => ?_)
                subst hrr
                obtain ⟨rs, ers⟩ : ∃ rs, rs = rsO (cs Ff sI co n) (cs Gg sI co n) 10 := ⟨_, rfl⟩
                rw [← ers]
                have rb : rs < 2 ^ 30 := by rw [ers, rsO_cR]; exact Nat.lt_of_le_of_lt (cR_le (fun k _ => Nat.le_trans (cs_le _ _ _ _ _) hn) (fun k _ => Nat.le_trans (cs_le _ _ _ _ _) hn) 10 (by decide)) (by decide)
                refine lv_istore (lv' := [(10, .int (nI rs)), (8, .long 0), (7, .int (nI (N1 + N2))), (6, .int (nI N1)), (0, .ref qm), (5, .int pt)]) hx hb dX5_odds_356 hl (by decide) rfl (fun ls hl => ?_)
                have loop8 : ∀ (k8 : Nat) (r t9 : Nat) (H : Heap) (locs : List Loc), k8 = 401 - r → r < 2 ^ 30 + 500 → t9 + smF (Wv qc 10 N1) k8 r = ris (Wv qc 10) N1 rs → va_P dd vwCl [(qm, .inr (5, mo a 0 (nI n) li (nI (cnt Ff n)) (nI (cnt Gg n)) ab be st al)), (a 2, .inl (cyI, 48, .inl tI)), (a 4, .inl (cyI, 240, .inl sI)), (a 13, .inl (cyI, 11, .inl u1.1)), (a 14, .inl (cyI, 11, .inl u1.2)), (a 19, .inl (cyJ, 8421, .inr (.inl wB))), (a 20, .inl (cyJ, 8421, .inr (.inl mB))), (a 21, .inl (cyJ, 441, .inr (.inl ch)))] H → va_D A [(qm, .inr (5, mo a 0 (nI n) li (nI (cnt Ff n)) (nI (cnt Gg n)) ab be st al)), (a 2, .inl (cyI, 48, .inl tI)), (a 4, .inl (cyI, 240, .inl sI)), (a 13, .inl (cyI, 11, .inl u1.1)), (a 14, .inl (cyI, 11, .inl u1.2)), (a 19, .inl (cyJ, 8421, .inr (.inl wB))), (a 20, .inl (cyJ, 8421, .inr (.inl mB))), (a 21, .inl (cyJ, 441, .inr (.inl ch)))] → va_S A s.heap H locs → ∀ ls : Array Slot, lv_has ls 14 [(10, .int (nI r)), (8, .long (lN t9)), (7, .int (nI (N1 + N2))), (6, .int (nI N1)), (0, .ref qm), (5, .int pt)] → W p l e ({ frames := 2, cells := 0, slots := 0, locals := 80 } : Room) s m ([.ref qm, .int (nI co), .int f, .int b, .int t, .int pt] : List Value).toArray below meth c H locs 0 0 (MQ below (va_Ql (S := Int32 × Int32 × (Nat → Int32) × (Nat → Int32) × (Nat → Int64) × (Nat → Int64) × (Nat → Int64)) (fun (r : Int64) (_ : Int32 × Int32 × (Nat → Int32) × (Nat → Int32) × (Nat → Int64) × (Nat → Int64) × (Nat → Int64)) => r = oddsV Ff Gg sI co n pt) (WQ dd [(qm, .inr (5, mo a th (nI n) li fm sm ab be st al)), (a 2, .inl (cyI, 48, .inl tI)), (a 4, .inl (cyI, 240, .inl sI)), (a 13, .inl (cyI, 11, .inl fA)), (a 14, .inl (cyI, 11, .inl gA)), (a 19, .inl (cyJ, 8421, .inr (.inl wA))), (a 20, .inl (cyJ, 8421, .inr (.inl mA))), (a 21, .inl (cyJ, 441, .inr (.inl cA)))] sz (fun u => [(qm, .inr (5, mo a 0 (nI n) li u.1 u.2.1 ab be st al)), (a 2, .inl (cyI, 48, .inl tI)), (a 4, .inl (cyI, 240, .inl sI)), (a 13, .inl (cyI, 11, .inl u.2.2.1)), (a 14, .inl (cyI, 11, .inl u.2.2.2.1)), (a 19, .inl (cyJ, 8421, .inr (.inl u.2.2.2.2.1))), (a 20, .inl (cyJ, 8421, .inr (.inl u.2.2.2.2.2.1))), (a 21, .inl (cyJ, 441, .inr (.inl u.2.2.2.2.2.2)))])) A) ([.ref qm, .int (nI co), .int f, .int b, .int t, .int pt] : List Value).toArray s 0 0 A) (F0 m 358 ls []) := by
                  intro k8
                  induction k8 with
                  | zero =>
                    intro r t9 H locs hr9 hr8 he hP hD hS ls hl
                    refine lv_iload hx hb dX5_odds_358 (lv_at hl 0 rfl) ?_
                    refine lv_sipush (v := 401) hx hb dX5_odds_360 (by decide) ?_
                    refine lv_icmp_ge (tgt := 391) hx hb dX5_odds_363 (by decide) (fun q8 => ?_) (fun q8 => ?_)
                    · have et : t9 = oA Ff Gg sI co n := by have h9 : t9 = ris (Wv qc 10) N1 rs := he; rw [h9, eqc, eN1, ers]; rfl
                      have ab9 : oA Ff Gg sI co n < 2 ^ 30 := ris_b (by rw [← eqc]; exact q20) (by omega)
                      obtain ⟨cp, cb⟩ := chs_p (N1 + N2) (by omega) N1 (by omega)
                      refine lv_lload hx hb dX5_odds_391 (lv_at hl 1 rfl) ?_
                      refine tpl (show (lN t9 : Int64) = lI ((oA Ff Gg sI co n : Nat) : Int) from by rw [et, lN_lI]) ?_
                      refine lv_aload_n hx hb dX5_odds_393 rfl (lv_at hl 4 rfl) ?_
                      refine va_get (D := dd) (ci := 5) (C := RX5) (T := TX5) (N := 30) (v := .ref (a 21)) hx hb hts hiX5 hown hK hP 0 rfl rfl 21 (by decide) (hts (.fieldLink RX5 54 "SliceDriftModel" "choose" "[J") (by decide +kernel)) (fun _ h9 => h9) rfl dX5_odds_394 ?_
                      refine lv_bipush (v := 21) hx hb dX5_odds_397 (by decide) ?_
                      refine lv_iload hx hb dX5_odds_399 (lv_at hl 2 rfl) ?_
                      refine lv_imul hx hb dX5_odds_401 ?_
                      refine tpi (show (21 * (nI (N1 + N2)) : Int32) = nI (21 * (N1 + N2)) from pk_mul 21 _) ?_
                      refine lv_iload hx hb dX5_odds_402 (lv_at hl 3 rfl) ?_
                      refine lv_iadd hx hb dX5_odds_404 ?_
                      refine tpi (show ((nI (21 * (N1 + N2))) + (nI N1) : Int32) = nI (21 * (N1 + N2) + N1) from nI_add _ _) ?_
                      refine va_lald hx hb hK hP 7 1 rfl rfl (i := nI (21 * (N1 + N2) + N1)) (vp_in_nI (show (21 * (N1 + N2) + N1) < 441 from (by omega)) (by decide)) dX5_odds_405 ?_
                      rw [nI_clamp (show (21 * (N1 + N2) + N1) < 2 ^ 31 from Nat.lt_trans (show (21 * (N1 + N2) + N1) < 441 from (by omega)) (by decide))]
                      refine tpl (show (ch (21 * (N1 + N2) + N1) : Int64) = lN (chs (N1 + N2) N1) from by rw [hch _ (by omega), show (21 * (N1 + N2) + N1) / 21 = N1 + N2 by omega, show (21 * (N1 + N2) + N1) % 21 = N1 by omega]) ?_
                      refine lv_iload hx hb dX5_odds_406 (lv_at hl 5 rfl) ?_
                      refine clSl (As := [.long (lI ((oA Ff Gg sI co n : Nat) : Int)), .long (lN (chs (N1 + N2) N1)), .int pt]) (rest := []) ⟨hx, hb, hml, hown, hts⟩ (r_part l dd cyI cyJ cyZ ((oA Ff Gg sI co n : Nat) : Int) (chs (N1 + N2) N1) pt (by omega) (by omega) cp hpt) gX5_odds_X5_part (n := 3) rfl ⟨rfl, rfl⟩ (by decide +kernel) ⟨Nat.le_of_ble_eq_true rfl, Nat.le_of_ble_eq_true rfl⟩ hN hK (hP.sub [] rfl) rfl hl.1 rfl (Nat.le_of_ble_eq_true rfl) dX5_odds_408 ⟨Nat.le_of_ble_eq_true rfl, Nat.le_of_ble_eq_true rfl⟩ (fun ra hra => ?_)
                      exact ewL (_, _, u1.1, u1.2, wB, mB, ch) hx hb hr hlocks hAe hS dX5_odds_411 (by rw [hra, oddsV, ← eN1, ← eN2, if_neg (by omega)]) (hP.sub [0, 1, 2, 3, 4, 5, 6, 7] rfl) (hD.sub [0, 1, 2, 3, 4, 5, 6, 7] (by decide) rfl)
                    · exact absurd (nI_le (show 401 ≤ r by omega) (by omega)) q8
                  | succ k8 ih8 =>
                    intro r t9 H locs hr9 hr8 he hP hD hS ls hl
                    refine lv_iload hx hb dX5_odds_358 (lv_at hl 0 rfl) ?_
                    refine lv_sipush (v := 401) hx hb dX5_odds_360 (by decide) ?_
                    refine lv_icmp_ge (tgt := 391) hx hb dX5_odds_363 (by decide) (fun q8 => ?_) (fun q8 => ?_)
                    · exact absurd ((nI_leI (a := 401) (by decide) (by omega)).mp q8) (by omega)
                    · refine lv_lload hx hb dX5_odds_366 (lv_at hl 1 rfl) ?_
                      refine lv_aload_n hx hb dX5_odds_368 rfl (lv_at hl 4 rfl) ?_
                      refine va_get (D := dd) (ci := 5) (C := RX5) (T := TX5) (N := 30) (v := .ref (a 19)) hx hb hts hiX5 hown hK hP 0 rfl rfl 19 (by decide) (hts (.fieldLink RX5 48 "SliceDriftModel" "ways" "[J") (by decide +kernel)) (fun _ h9 => h9) rfl dX5_odds_369 ?_
                      refine lv_sipush (v := 401) hx hb dX5_odds_372 (by decide) ?_
                      refine lv_iload hx hb dX5_odds_375 (lv_at hl 3 rfl) ?_
                      refine lv_imul hx hb dX5_odds_377 ?_
                      refine tpi (show (401 * (nI N1) : Int32) = nI (401 * N1) from pk_mul 401 _) ?_
                      refine lv_iload hx hb dX5_odds_378 (lv_at hl 0 rfl) ?_
                      refine lv_iadd hx hb dX5_odds_380 ?_
                      refine tpi (show ((nI (401 * N1)) + (nI r) : Int32) = nI (401 * N1 + r) from nI_add _ _) ?_
                      refine va_lald hx hb hK hP 5 1 rfl rfl (i := nI (401 * N1 + r)) (vp_in_nI (show (401 * N1 + r) < 8421 from (by omega)) (by decide)) dX5_odds_381 ?_
                      rw [nI_clamp (show (401 * N1 + r) < 2 ^ 31 from Nat.lt_trans (show (401 * N1 + r) < 8421 from (by omega)) (by decide))]
                      refine tpl (show (wB (401 * N1 + r) : Int64) = lN (Wv qc 10 N1 r) from by rw [hW _ (by omega), show (401 * N1 + r) / 401 = N1 by omega, show (401 * N1 + r) % 401 = r by omega]) ?_
                      refine lv_ladd hx hb dX5_odds_382 ?_
                      refine tpl (show ((lN t9) + (lN (Wv qc 10 N1 r)) : Int64) = lN (t9 + Wv qc 10 N1 r) from lN_add _ _) ?_
                      refine lv_lstore (lv' := [(8, .long (lN (t9 + Wv qc 10 N1 r))), (10, .int (nI r)), (7, .int (nI (N1 + N2))), (6, .int (nI N1)), (0, .ref qm), (5, .int pt)]) hx hb dX5_odds_383 hl (by decide) rfl (fun ls hl => ?_)
                      refine lv_iinc (v := nI (r + 1)) (lv' := [(10, .int (nI (r + 1))), (8, .long (lN (t9 + Wv qc 10 N1 r))), (7, .int (nI (N1 + N2))), (6, .int (nI N1)), (0, .ref qm), (5, .int pt)]) hx hb dX5_odds_385 hl (k := 1) rfl (nI_1 r) (by decide) rfl (fun ls hl => ?_)
                      refine lv_goto (tgt := 358) hx hb dX5_odds_388 (by decide) ?_
                      exact ih8 (r + 1) (t9 + Wv qc 10 N1 r) H locs (by omega) (by omega) (by rw [← he, smF, Nat.add_assoc]) hP hD hS ls (lv_sub hl [0, 1, 2, 3, 4, 5] rfl)
                exact loop8 (401 - rs) rs 0 H locs rfl (by omega) (by rw [Nat.zero_add, ris_401 (Wv_s 10) (by omega)]) hP hD hS ls (lv_sub hl [0, 1, 2, 3, 4, 5] rfl)
              · exact absurd (nI_le (show 10 ≤ v by omega) (by omega)) q2
            | succ k ih =>
              intro v wB mB H locs hv9 hW hP hD hS ls hl
              refine lv_iload hx hb dX5_odds_135 (lv_at hl 0 rfl) ?_
              refine lv_bipush (v := 10) hx hb dX5_odds_137 (by decide) ?_
              refine lv_icmp_ge (tgt := 349) hx hb dX5_odds_139 (by decide) (fun q2 => ?_) (fun q2 => ?_)
              · exact absurd q2 (nI_ge (show v < 10 by omega) (by decide))
              · obtain ⟨f1, f2⟩ := u1f v (by omega)
                obtain ⟨f3, f4⟩ := u1g v (by omega)
                have hs1 : ps qc (v + 1) ≤ 20 := Nat.le_trans (ps_mono (by omega)) q20
                have hs2 : ps qc v + qc v ≤ 20 := hs1
                have eqv : cs Ff sI co n v + cs Gg sI co n v = qc v := by rw [eqc]; rfl
                obtain ⟨cc, ecc⟩ : ∃ cc, cc = qc v := ⟨_, rfl⟩
                refine lv_aload_n hx hb dX5_odds_142 rfl (lv_at hl 3 rfl) ?_
                refine va_get (D := dd) (ci := 5) (C := RX5) (T := TX5) (N := 30) (v := .ref (a 13)) hx hb hts hiX5 hown hK hP 0 rfl rfl 13 (by decide) (hts (.fieldLink RX5 42 "SliceDriftModel" "first" "[I") (by decide +kernel)) (fun _ h9 => h9) rfl dX5_odds_143 ?_
                refine lv_iload hx hb dX5_odds_146 (lv_at hl 0 rfl) ?_
                refine va_iald hx hb hK hP 3 0 rfl rfl (i := nI v) (vp_in_nI (show v < 11 from (by omega)) (by decide)) dX5_odds_148 ?_
                rw [nI_clamp (show v < 2 ^ 31 from Nat.lt_trans (show v < 11 from (by omega)) (by decide))]
                refine tpi (show (u1.1 v : Int32) = nI (cs Ff sI co n v) from f1) ?_
                refine lv_aload_n hx hb dX5_odds_149 rfl (lv_at hl 3 rfl) ?_
                refine va_get (D := dd) (ci := 5) (C := RX5) (T := TX5) (N := 30) (v := .ref (a 14)) hx hb hts hiX5 hown hK hP 0 rfl rfl 14 (by decide) (hts (.fieldLink RX5 45 "SliceDriftModel" "second" "[I") (by decide +kernel)) (fun _ h9 => h9) rfl dX5_odds_150 ?_
                refine lv_iload hx hb dX5_odds_153 (lv_at hl 0 rfl) ?_
                refine va_iald hx hb hK hP 4 0 rfl rfl (i := nI v) (vp_in_nI (show v < 11 from (by omega)) (by decide)) dX5_odds_155 ?_
                rw [nI_clamp (show v < 2 ^ 31 from Nat.lt_trans (show v < 11 from (by omega)) (by decide))]
                refine tpi (show (u1.2 v : Int32) = nI (cs Gg sI co n v) from f3) ?_
                refine lv_iadd hx hb dX5_odds_156 ?_
                refine tpi (show ((nI (cs Ff sI co n v)) + (nI (cs Gg sI co n v)) : Int32) = nI cc from by rw [nI_add, eqv, ecc]) ?_
                refine lv_istore (lv' := [(9, .int (nI cc)), (8, .int (nI v)), (7, .int (nI (N1 + N2))), (6, .int (nI N1)), (0, .ref qm), (5, .int pt)]) hx hb dX5_odds_157 hl (by decide) rfl (fun ls hl => ?_)
                refine lv_iconst (v := 0) hx hb dX5_odds_159 (by decide) ?_
                refine lv_istore (lv' := [(10, .int 0), (9, .int (nI cc)), (8, .int (nI v)), (7, .int (nI (N1 + N2))), (6, .int (nI N1)), (0, .ref qm), (5, .int pt)]) hx hb dX5_odds_160 hl (by decide) rfl (fun ls hl => ?_)
                obtain ⟨Z, eZ⟩ : ∃ Z, Z = Wv qc v := ⟨_, rfl⟩
                rw [← eZ] at hW
                have loop3 : ∀ (k3 : Nat) (j : Nat) (mB3 : Nat → Int64) (H : Heap) (locs : List Loc), j + k3 = 8421 → (∀ i, i < j → mB3 i = 0) → va_P dd vwCl [(qm, .inr (5, mo a 0 (nI n) li (nI (cnt Ff n)) (nI (cnt Gg n)) ab be st al)), (a 2, .inl (cyI, 48, .inl tI)), (a 4, .inl (cyI, 240, .inl sI)), (a 13, .inl (cyI, 11, .inl u1.1)), (a 14, .inl (cyI, 11, .inl u1.2)), (a 19, .inl (cyJ, 8421, .inr (.inl wB))), (a 20, .inl (cyJ, 8421, .inr (.inl mB3))), (a 21, .inl (cyJ, 441, .inr (.inl ch)))] H → va_D A [(qm, .inr (5, mo a 0 (nI n) li (nI (cnt Ff n)) (nI (cnt Gg n)) ab be st al)), (a 2, .inl (cyI, 48, .inl tI)), (a 4, .inl (cyI, 240, .inl sI)), (a 13, .inl (cyI, 11, .inl u1.1)), (a 14, .inl (cyI, 11, .inl u1.2)), (a 19, .inl (cyJ, 8421, .inr (.inl wB))), (a 20, .inl (cyJ, 8421, .inr (.inl mB3))), (a 21, .inl (cyJ, 441, .inr (.inl ch)))] → va_S A s.heap H locs → ∀ ls : Array Slot, lv_has ls 14 [(10, .int (nI j)), (9, .int (nI cc)), (8, .int (nI v)), (7, .int (nI (N1 + N2))), (6, .int (nI N1)), (0, .ref qm), (5, .int pt)] → W p l e ({ frames := 2, cells := 0, slots := 0, locals := 80 } : Room) s m ([.ref qm, .int (nI co), .int f, .int b, .int t, .int pt] : List Value).toArray below meth c H locs 0 0 (MQ below (va_Ql (S := Int32 × Int32 × (Nat → Int32) × (Nat → Int32) × (Nat → Int64) × (Nat → Int64) × (Nat → Int64)) (fun (r : Int64) (_ : Int32 × Int32 × (Nat → Int32) × (Nat → Int32) × (Nat → Int64) × (Nat → Int64) × (Nat → Int64)) => r = oddsV Ff Gg sI co n pt) (WQ dd [(qm, .inr (5, mo a th (nI n) li fm sm ab be st al)), (a 2, .inl (cyI, 48, .inl tI)), (a 4, .inl (cyI, 240, .inl sI)), (a 13, .inl (cyI, 11, .inl fA)), (a 14, .inl (cyI, 11, .inl gA)), (a 19, .inl (cyJ, 8421, .inr (.inl wA))), (a 20, .inl (cyJ, 8421, .inr (.inl mA))), (a 21, .inl (cyJ, 441, .inr (.inl cA)))] sz (fun u => [(qm, .inr (5, mo a 0 (nI n) li u.1 u.2.1 ab be st al)), (a 2, .inl (cyI, 48, .inl tI)), (a 4, .inl (cyI, 240, .inl sI)), (a 13, .inl (cyI, 11, .inl u.2.2.1)), (a 14, .inl (cyI, 11, .inl u.2.2.2.1)), (a 19, .inl (cyJ, 8421, .inr (.inl u.2.2.2.2.1))), (a 20, .inl (cyJ, 8421, .inr (.inl u.2.2.2.2.2.1))), (a 21, .inl (cyJ, 441, .inr (.inl u.2.2.2.2.2.2)))])) A) ([.ref qm, .int (nI co), .int f, .int b, .int t, .int pt] : List Value).toArray s 0 0 A) (F0 m 162 ls []) := by
                  intro k3
                  induction k3 with
                  | zero =>
                    intro j mB3 H locs hj3 hz3 hP hD hS ls hl
                    refine lv_iload hx hb dX5_odds_162 (lv_at hl 0 rfl) ?_
                    refine lv_sipush (v := 8421) hx hb dX5_odds_164 (by decide) ?_
                    refine lv_icmp_ge (tgt := 184) hx hb dX5_odds_167 (by decide) (fun q3 => ?_) (fun q3 => ?_)
                    · refine lv_iconst (v := 0) hx hb dX5_odds_184 (by decide) ?_
                      refine lv_istore (lv' := [(10, .int 0), (9, .int (nI cc)), (8, .int (nI v)), (7, .int (nI (N1 + N2))), (6, .int (nI N1)), (0, .ref qm), (5, .int pt)]) hx hb dX5_odds_185 hl (by decide) rfl (fun ls hl => ?_)
                      have loop4 : ∀ (k4 : Nat) (hd : Nat) (mC : Nat → Int64) (H : Heap) (locs : List Loc), hd + k4 = 21 → (∀ i, i < 8421 → mC i = lN (Rz Z cc hd i)) → va_P dd vwCl [(qm, .inr (5, mo a 0 (nI n) li (nI (cnt Ff n)) (nI (cnt Gg n)) ab be st al)), (a 2, .inl (cyI, 48, .inl tI)), (a 4, .inl (cyI, 240, .inl sI)), (a 13, .inl (cyI, 11, .inl u1.1)), (a 14, .inl (cyI, 11, .inl u1.2)), (a 19, .inl (cyJ, 8421, .inr (.inl wB))), (a 20, .inl (cyJ, 8421, .inr (.inl mC))), (a 21, .inl (cyJ, 441, .inr (.inl ch)))] H → va_D A [(qm, .inr (5, mo a 0 (nI n) li (nI (cnt Ff n)) (nI (cnt Gg n)) ab be st al)), (a 2, .inl (cyI, 48, .inl tI)), (a 4, .inl (cyI, 240, .inl sI)), (a 13, .inl (cyI, 11, .inl u1.1)), (a 14, .inl (cyI, 11, .inl u1.2)), (a 19, .inl (cyJ, 8421, .inr (.inl wB))), (a 20, .inl (cyJ, 8421, .inr (.inl mC))), (a 21, .inl (cyJ, 441, .inr (.inl ch)))] → va_S A s.heap H locs → ∀ ls : Array Slot, lv_has ls 14 [(10, .int (nI hd)), (9, .int (nI cc)), (8, .int (nI v)), (7, .int (nI (N1 + N2))), (6, .int (nI N1)), (0, .ref qm), (5, .int pt)] → W p l e ({ frames := 2, cells := 0, slots := 0, locals := 80 } : Room) s m ([.ref qm, .int (nI co), .int f, .int b, .int t, .int pt] : List Value).toArray below meth c H locs 0 0 (MQ below (va_Ql (S := Int32 × Int32 × (Nat → Int32) × (Nat → Int32) × (Nat → Int64) × (Nat → Int64) × (Nat → Int64)) (fun (r : Int64) (_ : Int32 × Int32 × (Nat → Int32) × (Nat → Int32) × (Nat → Int64) × (Nat → Int64) × (Nat → Int64)) => r = oddsV Ff Gg sI co n pt) (WQ dd [(qm, .inr (5, mo a th (nI n) li fm sm ab be st al)), (a 2, .inl (cyI, 48, .inl tI)), (a 4, .inl (cyI, 240, .inl sI)), (a 13, .inl (cyI, 11, .inl fA)), (a 14, .inl (cyI, 11, .inl gA)), (a 19, .inl (cyJ, 8421, .inr (.inl wA))), (a 20, .inl (cyJ, 8421, .inr (.inl mA))), (a 21, .inl (cyJ, 441, .inr (.inl cA)))] sz (fun u => [(qm, .inr (5, mo a 0 (nI n) li u.1 u.2.1 ab be st al)), (a 2, .inl (cyI, 48, .inl tI)), (a 4, .inl (cyI, 240, .inl sI)), (a 13, .inl (cyI, 11, .inl u.2.2.1)), (a 14, .inl (cyI, 11, .inl u.2.2.2.1)), (a 19, .inl (cyJ, 8421, .inr (.inl u.2.2.2.2.1))), (a 20, .inl (cyJ, 8421, .inr (.inl u.2.2.2.2.2.1))), (a 21, .inl (cyJ, 441, .inr (.inl u.2.2.2.2.2.2)))])) A) ([.ref qm, .int (nI co), .int f, .int b, .int t, .int pt] : List Value).toArray s 0 0 A) (F0 m 187 ls []) := by
                        intro k4
                        induction k4 with
                        | zero =>
                          intro hd mC H locs hh4 h4 hP hD hS ls hl
                          refine lv_iload hx hb dX5_odds_187 (lv_at hl 0 rfl) ?_
                          refine lv_bipush (v := 21) hx hb dX5_odds_189 (by decide) ?_
                          refine lv_icmp_ge (tgt := 312) hx hb dX5_odds_191 (by decide) (fun q4 => ?_) (fun q4 => ?_)
                          · refine lv_iconst (v := 0) hx hb dX5_odds_312 (by decide) ?_
                            refine lv_istore (lv' := [(10, .int 0), (9, .int (nI cc)), (8, .int (nI v)), (7, .int (nI (N1 + N2))), (6, .int (nI N1)), (0, .ref qm), (5, .int pt)]) hx hb dX5_odds_313 hl (by decide) rfl (fun ls hl => ?_)
                            have h21 : ∀ i, i < 8421 → mC i = lN (stW Z cc (i / 401) (i % 401)) := fun i hi => by rw [h4 i hi, show hd = 21 by omega]; rfl
                            have loop7 : ∀ (k7 : Nat) (j7 : Nat) (wC : Nat → Int64) (H : Heap) (locs : List Loc), j7 + k7 = 8421 → (∀ i, i < j7 → wC i = lN (stW Z cc (i / 401) (i % 401))) → va_P dd vwCl [(qm, .inr (5, mo a 0 (nI n) li (nI (cnt Ff n)) (nI (cnt Gg n)) ab be st al)), (a 2, .inl (cyI, 48, .inl tI)), (a 4, .inl (cyI, 240, .inl sI)), (a 13, .inl (cyI, 11, .inl u1.1)), (a 14, .inl (cyI, 11, .inl u1.2)), (a 19, .inl (cyJ, 8421, .inr (.inl wC))), (a 20, .inl (cyJ, 8421, .inr (.inl mC))), (a 21, .inl (cyJ, 441, .inr (.inl ch)))] H → va_D A [(qm, .inr (5, mo a 0 (nI n) li (nI (cnt Ff n)) (nI (cnt Gg n)) ab be st al)), (a 2, .inl (cyI, 48, .inl tI)), (a 4, .inl (cyI, 240, .inl sI)), (a 13, .inl (cyI, 11, .inl u1.1)), (a 14, .inl (cyI, 11, .inl u1.2)), (a 19, .inl (cyJ, 8421, .inr (.inl wC))), (a 20, .inl (cyJ, 8421, .inr (.inl mC))), (a 21, .inl (cyJ, 441, .inr (.inl ch)))] → va_S A s.heap H locs → ∀ ls : Array Slot, lv_has ls 14 [(10, .int (nI j7)), (8, .int (nI v)), (7, .int (nI (N1 + N2))), (6, .int (nI N1)), (0, .ref qm), (5, .int pt)] → W p l e ({ frames := 2, cells := 0, slots := 0, locals := 80 } : Room) s m ([.ref qm, .int (nI co), .int f, .int b, .int t, .int pt] : List Value).toArray below meth c H locs 0 0 (MQ below (va_Ql (S := Int32 × Int32 × (Nat → Int32) × (Nat → Int32) × (Nat → Int64) × (Nat → Int64) × (Nat → Int64)) (fun (r : Int64) (_ : Int32 × Int32 × (Nat → Int32) × (Nat → Int32) × (Nat → Int64) × (Nat → Int64) × (Nat → Int64)) => r = oddsV Ff Gg sI co n pt) (WQ dd [(qm, .inr (5, mo a th (nI n) li fm sm ab be st al)), (a 2, .inl (cyI, 48, .inl tI)), (a 4, .inl (cyI, 240, .inl sI)), (a 13, .inl (cyI, 11, .inl fA)), (a 14, .inl (cyI, 11, .inl gA)), (a 19, .inl (cyJ, 8421, .inr (.inl wA))), (a 20, .inl (cyJ, 8421, .inr (.inl mA))), (a 21, .inl (cyJ, 441, .inr (.inl cA)))] sz (fun u => [(qm, .inr (5, mo a 0 (nI n) li u.1 u.2.1 ab be st al)), (a 2, .inl (cyI, 48, .inl tI)), (a 4, .inl (cyI, 240, .inl sI)), (a 13, .inl (cyI, 11, .inl u.2.2.1)), (a 14, .inl (cyI, 11, .inl u.2.2.2.1)), (a 19, .inl (cyJ, 8421, .inr (.inl u.2.2.2.2.1))), (a 20, .inl (cyJ, 8421, .inr (.inl u.2.2.2.2.2.1))), (a 21, .inl (cyJ, 441, .inr (.inl u.2.2.2.2.2.2)))])) A) ([.ref qm, .int (nI co), .int f, .int b, .int t, .int pt] : List Value).toArray s 0 0 A) (F0 m 315 ls []) := by
                              intro k7
                              induction k7 with
                              | zero =>
                                intro j7 wC H locs hj7 h7 hP hD hS ls hl
                                refine lv_iload hx hb dX5_odds_315 (lv_at hl 0 rfl) ?_
                                refine lv_sipush (v := 8421) hx hb dX5_odds_317 (by decide) ?_
                                refine lv_icmp_ge (tgt := 343) hx hb dX5_odds_320 (by decide) (fun q9 => ?_) (fun q9 => ?_)
                                · refine lv_iinc (v := nI (v + 1)) (lv' := [(8, .int (nI (v + 1))), (10, .int (nI j7)), (7, .int (nI (N1 + N2))), (6, .int (nI N1)), (0, .ref qm), (5, .int pt)]) hx hb dX5_odds_343 hl (k := 1) rfl (nI_1 v) (by decide) rfl (fun ls hl => ?_)
                                  refine lv_goto (tgt := 135) hx hb dX5_odds_346 (by decide) ?_
                                  exact ih (v + 1) wC mC H locs (by omega) (fun i hi => by rw [h7 i (by omega), Wv, ← eZ, ← ecc]) hP hD hS ls (lv_sub hl [0, 2, 3, 4, 5] rfl)
                                · exact absurd (nI_le (show 8421 ≤ j7 by omega) (by omega)) q9
                              | succ k7 ih7 =>
                                intro j7 wC H locs hj7 h7 hP hD hS ls hl
                                refine lv_iload hx hb dX5_odds_315 (lv_at hl 0 rfl) ?_
                                refine lv_sipush (v := 8421) hx hb dX5_odds_317 (by decide) ?_
                                refine lv_icmp_ge (tgt := 343) hx hb dX5_odds_320 (by decide) (fun q9 => ?_) (fun q9 => ?_)
                                · exact absurd q9 (nI_ge (show j7 < 8421 by omega) (by decide))
                                · refine lv_aload_n hx hb dX5_odds_323 rfl (lv_at hl 4 rfl) ?_
                                  refine va_get (D := dd) (ci := 5) (C := RX5) (T := TX5) (N := 30) (v := .ref (a 19)) hx hb hts hiX5 hown hK hP 0 rfl rfl 19 (by decide) (hts (.fieldLink RX5 48 "SliceDriftModel" "ways" "[J") (by decide +kernel)) (fun _ h9 => h9) rfl dX5_odds_324 ?_
                                  refine lv_iload hx hb dX5_odds_327 (lv_at hl 0 rfl) ?_
                                  refine lv_aload_n hx hb dX5_odds_329 rfl (lv_at hl 4 rfl) ?_
                                  refine va_get (D := dd) (ci := 5) (C := RX5) (T := TX5) (N := 30) (v := .ref (a 20)) hx hb hts hiX5 hown hK hP 0 rfl rfl 20 (by decide) (hts (.fieldLink RX5 51 "SliceDriftModel" "more" "[J") (by decide +kernel)) (fun _ h9 => h9) rfl dX5_odds_330 ?_
                                  refine lv_iload hx hb dX5_odds_333 (lv_at hl 0 rfl) ?_
                                  refine va_lald hx hb hK hP 6 1 rfl rfl (i := nI j7) (vp_in_nI (show j7 < 8421 from (by omega)) (by decide)) dX5_odds_335 ?_
                                  rw [nI_clamp (show j7 < 2 ^ 31 from Nat.lt_trans (show j7 < 8421 from (by omega)) (by decide))]
                                  refine tpl (show (mC j7 : Int64) = lN (stW Z cc (j7 / 401) (j7 % 401)) from h21 j7 (by omega)) ?_
                                  refine va_last hx hb hK hP hD hS 5 1 rfl rfl (i := nI j7) (vp_in_nI (show j7 < 8421 from (by omega)) (by decide)) dX5_odds_336 (fun H locs hP hD hS => ?_)
                                  rw [nI_clamp (show j7 < 2 ^ 31 from Nat.lt_trans (show j7 < 8421 from (by omega)) (by decide))] at hP hD
                                  have hP : va_P dd vwCl [(qm, .inr (5, mo a 0 (nI n) li (nI (cnt Ff n)) (nI (cnt Gg n)) ab be st al)), (a 2, .inl (cyI, 48, .inl tI)), (a 4, .inl (cyI, 240, .inl sI)), (a 13, .inl (cyI, 11, .inl u1.1)), (a 14, .inl (cyI, 11, .inl u1.2)), (a 19, .inl (cyJ, 8421, .inr (.inl (vp_updL wC j7 (lN (stW Z cc (j7 / 401) (j7 % 401))))))), (a 20, .inl (cyJ, 8421, .inr (.inl mC))), (a 21, .inl (cyJ, 441, .inr (.inl ch)))] H := hP
                                  have hD : va_D A [(qm, .inr (5, mo a 0 (nI n) li (nI (cnt Ff n)) (nI (cnt Gg n)) ab be st al)), (a 2, .inl (cyI, 48, .inl tI)), (a 4, .inl (cyI, 240, .inl sI)), (a 13, .inl (cyI, 11, .inl u1.1)), (a 14, .inl (cyI, 11, .inl u1.2)), (a 19, .inl (cyJ, 8421, .inr (.inl (vp_updL wC j7 (lN (stW Z cc (j7 / 401) (j7 % 401))))))), (a 20, .inl (cyJ, 8421, .inr (.inl mC))), (a 21, .inl (cyJ, 441, .inr (.inl ch)))] := hD
                                  refine lv_iinc (v := nI (j7 + 1)) (lv' := [(10, .int (nI (j7 + 1))), (8, .int (nI v)), (7, .int (nI (N1 + N2))), (6, .int (nI N1)), (0, .ref qm), (5, .int pt)]) hx hb dX5_odds_337 hl (k := 0) rfl (nI_1 j7) (by decide) rfl (fun ls hl => ?_)
                                  refine lv_goto (tgt := 315) hx hb dX5_odds_340 (by decide) ?_
                                  exact ih7 (j7 + 1) _ H locs (by omega) (fun i hi => (Nat.lt_or_ge i j7).elim (fun h => by rw [pk_uLn (by omega)]; exact h7 i h) (fun h => by rw [show i = j7 by omega, pk_uLs])) hP hD hS ls (lv_sub hl [0, 1, 2, 3, 4, 5] rfl)
                            exact loop7 8421 0 wB H locs rfl (fun i h => absurd h (Nat.not_lt_zero i)) hP hD hS ls (lv_sub hl [0, 2, 3, 4, 5, 6] rfl)
                          · exact absurd (nI_le (show 21 ≤ hd by omega) (by omega)) q4
                        | succ k4 ih4 =>
                          intro hd mC H locs hh4 h4 hP hD hS ls hl
                          refine lv_iload hx hb dX5_odds_187 (lv_at hl 0 rfl) ?_
                          refine lv_bipush (v := 21) hx hb dX5_odds_189 (by decide) ?_
                          refine lv_icmp_ge (tgt := 312) hx hb dX5_odds_191 (by decide) (fun q4 => ?_) (fun q4 => ?_)
                          · exact absurd q4 (nI_ge (show hd < 21 by omega) (by decide))
                          · refine lv_iconst (v := 0) hx hb dX5_odds_194 (by decide) ?_
                            refine lv_istore (lv' := [(11, .int 0), (10, .int (nI hd)), (9, .int (nI cc)), (8, .int (nI v)), (7, .int (nI (N1 + N2))), (6, .int (nI N1)), (0, .ref qm), (5, .int pt)]) hx hb dX5_odds_195 hl (by decide) rfl (fun ls hl => ?_)
                            have loop5 : ∀ (k5 : Nat) (xx : Nat) (mD : Nat → Int64) (H : Heap) (locs : List Loc), xx + k5 = cc + 1 → (∀ i, i < 8421 → mD i = lN (Rx Z cc hd xx i)) → va_P dd vwCl [(qm, .inr (5, mo a 0 (nI n) li (nI (cnt Ff n)) (nI (cnt Gg n)) ab be st al)), (a 2, .inl (cyI, 48, .inl tI)), (a 4, .inl (cyI, 240, .inl sI)), (a 13, .inl (cyI, 11, .inl u1.1)), (a 14, .inl (cyI, 11, .inl u1.2)), (a 19, .inl (cyJ, 8421, .inr (.inl wB))), (a 20, .inl (cyJ, 8421, .inr (.inl mD))), (a 21, .inl (cyJ, 441, .inr (.inl ch)))] H → va_D A [(qm, .inr (5, mo a 0 (nI n) li (nI (cnt Ff n)) (nI (cnt Gg n)) ab be st al)), (a 2, .inl (cyI, 48, .inl tI)), (a 4, .inl (cyI, 240, .inl sI)), (a 13, .inl (cyI, 11, .inl u1.1)), (a 14, .inl (cyI, 11, .inl u1.2)), (a 19, .inl (cyJ, 8421, .inr (.inl wB))), (a 20, .inl (cyJ, 8421, .inr (.inl mD))), (a 21, .inl (cyJ, 441, .inr (.inl ch)))] → va_S A s.heap H locs → ∀ ls : Array Slot, lv_has ls 14 [(11, .int (nI xx)), (10, .int (nI hd)), (9, .int (nI cc)), (8, .int (nI v)), (7, .int (nI (N1 + N2))), (6, .int (nI N1)), (0, .ref qm), (5, .int pt)] → W p l e ({ frames := 2, cells := 0, slots := 0, locals := 80 } : Room) s m ([.ref qm, .int (nI co), .int f, .int b, .int t, .int pt] : List Value).toArray below meth c H locs 0 0 (MQ below (va_Ql (S := Int32 × Int32 × (Nat → Int32) × (Nat → Int32) × (Nat → Int64) × (Nat → Int64) × (Nat → Int64)) (fun (r : Int64) (_ : Int32 × Int32 × (Nat → Int32) × (Nat → Int32) × (Nat → Int64) × (Nat → Int64) × (Nat → Int64)) => r = oddsV Ff Gg sI co n pt) (WQ dd [(qm, .inr (5, mo a th (nI n) li fm sm ab be st al)), (a 2, .inl (cyI, 48, .inl tI)), (a 4, .inl (cyI, 240, .inl sI)), (a 13, .inl (cyI, 11, .inl fA)), (a 14, .inl (cyI, 11, .inl gA)), (a 19, .inl (cyJ, 8421, .inr (.inl wA))), (a 20, .inl (cyJ, 8421, .inr (.inl mA))), (a 21, .inl (cyJ, 441, .inr (.inl cA)))] sz (fun u => [(qm, .inr (5, mo a 0 (nI n) li u.1 u.2.1 ab be st al)), (a 2, .inl (cyI, 48, .inl tI)), (a 4, .inl (cyI, 240, .inl sI)), (a 13, .inl (cyI, 11, .inl u.2.2.1)), (a 14, .inl (cyI, 11, .inl u.2.2.2.1)), (a 19, .inl (cyJ, 8421, .inr (.inl u.2.2.2.2.1))), (a 20, .inl (cyJ, 8421, .inr (.inl u.2.2.2.2.2.1))), (a 21, .inl (cyJ, 441, .inr (.inl u.2.2.2.2.2.2)))])) A) ([.ref qm, .int (nI co), .int f, .int b, .int t, .int pt] : List Value).toArray s 0 0 A) (F0 m 197 ls []) := by
                              intro k5
                              induction k5 with
                              | zero =>
                                intro xx mD H locs hx5 h5 hP hD hS ls hl
                                refine lv_iload hx hb dX5_odds_197 (lv_at hl 0 rfl) ?_
                                refine lv_iload hx hb dX5_odds_199 (lv_at hl 2 rfl) ?_
                                refine lv_icmp_gt (tgt := 306) hx hb dX5_odds_201 (by decide) (fun q5 => ?_) (fun q5 => ?_)
                                · refine lv_iinc (v := nI (hd + 1)) (lv' := [(10, .int (nI (hd + 1))), (11, .int (nI xx)), (9, .int (nI cc)), (8, .int (nI v)), (7, .int (nI (N1 + N2))), (6, .int (nI N1)), (0, .ref qm), (5, .int pt)]) hx hb dX5_odds_306 hl (k := 1) rfl (nI_1 hd) (by decide) rfl (fun ls hl => ?_)
                                  refine lv_goto (tgt := 187) hx hb dX5_odds_309 (by decide) ?_
                                  exact ih4 (hd + 1) mD H locs (by omega) (fun i hi => by rw [h5 i hi, Rx_e (Or.inl (by omega)) hi]) hP hD hS ls (lv_sub hl [0, 2, 3, 4, 5, 6, 7] rfl)
                                · exact absurd (nI_lt (show cc < xx by omega) (by omega)) q5
                              | succ k5 ih5 =>
                                intro xx mD H locs hx5 h5 hP hD hS ls hl
                                refine lv_iload hx hb dX5_odds_197 (lv_at hl 0 rfl) ?_
                                refine lv_iload hx hb dX5_odds_199 (lv_at hl 2 rfl) ?_
                                refine lv_icmp_gt (tgt := 306) hx hb dX5_odds_201 (by decide) (fun q5 => ?_) (fun q5 => ?_)
                                · exact absurd ((nI_ltI (by omega) (by omega)).mp q5) (by omega)
                                · refine lv_iload hx hb dX5_odds_204 (lv_at hl 1 rfl) ?_
                                  refine lv_iload hx hb dX5_odds_206 (lv_at hl 0 rfl) ?_
                                  refine lv_iadd hx hb dX5_odds_208 ?_
                                  refine tpi (show ((nI hd) + (nI xx) : Int32) = nI (hd + xx) from nI_add _ _) ?_
                                  refine lv_bipush (v := 21) hx hb dX5_odds_209 (by decide) ?_
                                  refine lv_icmp_ge (tgt := 306) hx hb dX5_odds_211 (by decide) (fun q6 => ?_) (fun q6 => ?_)
                                  · have g6 := (nI_leI (a := 21) (by decide) (by omega)).mp q6
                                    refine lv_iinc (v := nI (hd + 1)) (lv' := [(10, .int (nI (hd + 1))), (11, .int (nI xx)), (9, .int (nI cc)), (8, .int (nI v)), (7, .int (nI (N1 + N2))), (6, .int (nI N1)), (0, .ref qm), (5, .int pt)]) hx hb dX5_odds_306 hl (k := 1) rfl (nI_1 hd) (by decide) rfl (fun ls hl => ?_)
                                    refine lv_goto (tgt := 187) hx hb dX5_odds_309 (by decide) ?_
                                    exact ih4 (hd + 1) mD H locs (by omega) (fun i hi => by rw [h5 i hi, Rx_e (Or.inr g6) hi]) hP hD hS ls (lv_sub hl [0, 2, 3, 4, 5, 6, 7] rfl)
                                  · have g6 : hd + xx < 21 := Nat.lt_of_not_le (fun h => q6 (nI_le h (by omega)))
                                    obtain ⟨gx, egx⟩ : ∃ gx, gx = gw cc hd (hd + xx) := ⟨_, rfl⟩
                                    have egx2 : gx = (cc - xx) * (2 * hd + xx) := by rw [egx, gw_x]
                                    have b1 : (cc - xx) * (2 * hd + xx) ≤ 20 * 60 := Nat.mul_le_mul (by omega) (by omega)
                                    refine lv_iload hx hb dX5_odds_214 (lv_at hl 2 rfl) ?_
                                    refine lv_iload hx hb dX5_odds_216 (lv_at hl 0 rfl) ?_
                                    refine lv_isub hx hb dX5_odds_218 ?_
                                    refine tpi (show ((nI cc) - (nI xx) : Int32) = nI (cc - xx) from pk_sub (by omega)) ?_
                                    refine lv_iconst (v := 2) hx hb dX5_odds_219 (by decide) ?_
                                    refine lv_iload hx hb dX5_odds_220 (lv_at hl 1 rfl) ?_
                                    refine lv_imul hx hb dX5_odds_222 ?_
                                    refine tpi (show (2 * (nI hd) : Int32) = nI (2 * hd) from pk_mul 2 _) ?_
                                    refine lv_iload hx hb dX5_odds_223 (lv_at hl 0 rfl) ?_
                                    refine lv_iadd hx hb dX5_odds_225 ?_
                                    refine tpi (show ((nI (2 * hd)) + (nI xx) : Int32) = nI (2 * hd + xx) from nI_add _ _) ?_
                                    refine lv_imul hx hb dX5_odds_226 ?_
                                    refine tpi (show ((nI (cc - xx)) * (nI (2 * hd + xx)) : Int32) = nI gx from by rw [pk_mul, ← egx2]) ?_
                                    refine lv_istore (lv' := [(12, .int (nI gx)), (11, .int (nI xx)), (10, .int (nI hd)), (9, .int (nI cc)), (8, .int (nI v)), (7, .int (nI (N1 + N2))), (6, .int (nI N1)), (0, .ref qm), (5, .int pt)]) hx hb dX5_odds_227 hl (by decide) rfl (fun ls hl => ?_)
                                    refine lv_iconst (v := 0) hx hb dX5_odds_229 (by decide) ?_
                                    refine lv_istore (lv' := [(13, .int 0), (12, .int (nI gx)), (11, .int (nI xx)), (10, .int (nI hd)), (9, .int (nI cc)), (8, .int (nI v)), (7, .int (nI (N1 + N2))), (6, .int (nI N1)), (0, .ref qm), (5, .int pt)]) hx hb dX5_odds_230 hl (by decide) rfl (fun ls hl => ?_)
                                    have loop6 : ∀ (k6 : Nat) (rr : Nat) (mE : Nat → Int64) (H : Heap) (locs : List Loc), rr + k6 = 401 → (∀ i, i < 8421 → mE i = lN (Ry Z cc hd xx rr i)) → va_P dd vwCl [(qm, .inr (5, mo a 0 (nI n) li (nI (cnt Ff n)) (nI (cnt Gg n)) ab be st al)), (a 2, .inl (cyI, 48, .inl tI)), (a 4, .inl (cyI, 240, .inl sI)), (a 13, .inl (cyI, 11, .inl u1.1)), (a 14, .inl (cyI, 11, .inl u1.2)), (a 19, .inl (cyJ, 8421, .inr (.inl wB))), (a 20, .inl (cyJ, 8421, .inr (.inl mE))), (a 21, .inl (cyJ, 441, .inr (.inl ch)))] H → va_D A [(qm, .inr (5, mo a 0 (nI n) li (nI (cnt Ff n)) (nI (cnt Gg n)) ab be st al)), (a 2, .inl (cyI, 48, .inl tI)), (a 4, .inl (cyI, 240, .inl sI)), (a 13, .inl (cyI, 11, .inl u1.1)), (a 14, .inl (cyI, 11, .inl u1.2)), (a 19, .inl (cyJ, 8421, .inr (.inl wB))), (a 20, .inl (cyJ, 8421, .inr (.inl mE))), (a 21, .inl (cyJ, 441, .inr (.inl ch)))] → va_S A s.heap H locs → ∀ ls : Array Slot, lv_has ls 14 [(13, .int (nI rr)), (12, .int (nI gx)), (11, .int (nI xx)), (10, .int (nI hd)), (9, .int (nI cc)), (8, .int (nI v)), (7, .int (nI (N1 + N2))), (6, .int (nI N1)), (0, .ref qm), (5, .int pt)] → W p l e ({ frames := 2, cells := 0, slots := 0, locals := 80 } : Room) s m ([.ref qm, .int (nI co), .int f, .int b, .int t, .int pt] : List Value).toArray below meth c H locs 0 0 (MQ below (va_Ql (S := Int32 × Int32 × (Nat → Int32) × (Nat → Int32) × (Nat → Int64) × (Nat → Int64) × (Nat → Int64)) (fun (r : Int64) (_ : Int32 × Int32 × (Nat → Int32) × (Nat → Int32) × (Nat → Int64) × (Nat → Int64) × (Nat → Int64)) => r = oddsV Ff Gg sI co n pt) (WQ dd [(qm, .inr (5, mo a th (nI n) li fm sm ab be st al)), (a 2, .inl (cyI, 48, .inl tI)), (a 4, .inl (cyI, 240, .inl sI)), (a 13, .inl (cyI, 11, .inl fA)), (a 14, .inl (cyI, 11, .inl gA)), (a 19, .inl (cyJ, 8421, .inr (.inl wA))), (a 20, .inl (cyJ, 8421, .inr (.inl mA))), (a 21, .inl (cyJ, 441, .inr (.inl cA)))] sz (fun u => [(qm, .inr (5, mo a 0 (nI n) li u.1 u.2.1 ab be st al)), (a 2, .inl (cyI, 48, .inl tI)), (a 4, .inl (cyI, 240, .inl sI)), (a 13, .inl (cyI, 11, .inl u.2.2.1)), (a 14, .inl (cyI, 11, .inl u.2.2.2.1)), (a 19, .inl (cyJ, 8421, .inr (.inl u.2.2.2.2.1))), (a 20, .inl (cyJ, 8421, .inr (.inl u.2.2.2.2.2.1))), (a 21, .inl (cyJ, 441, .inr (.inl u.2.2.2.2.2.2)))])) A) ([.ref qm, .int (nI co), .int f, .int b, .int t, .int pt] : List Value).toArray s 0 0 A) (F0 m 232 ls []) := by
                                      intro k6
                                      induction k6 with
                                      | zero =>
                                        intro rr mE H locs hr6 h6 hP hD hS ls hl
                                        refine lv_iload hx hb dX5_odds_232 (lv_at hl 0 rfl) ?_
                                        refine lv_iload hx hb dX5_odds_234 (lv_at hl 1 rfl) ?_
                                        refine lv_iadd hx hb dX5_odds_236 ?_
                                        refine tpi (show ((nI rr) + (nI gx) : Int32) = nI (rr + gx) from nI_add _ _) ?_
                                        refine lv_sipush (v := 401) hx hb dX5_odds_237 (by decide) ?_
                                        refine lv_icmp_ge (tgt := 300) hx hb dX5_odds_240 (by decide) (fun q7 => ?_) (fun q7 => ?_)
                                        · refine lv_iinc (v := nI (xx + 1)) (lv' := [(11, .int (nI (xx + 1))), (13, .int (nI rr)), (12, .int (nI gx)), (10, .int (nI hd)), (9, .int (nI cc)), (8, .int (nI v)), (7, .int (nI (N1 + N2))), (6, .int (nI N1)), (0, .ref qm), (5, .int pt)]) hx hb dX5_odds_300 hl (k := 2) rfl (nI_1 xx) (by decide) rfl (fun ls hl => ?_)
                                          refine lv_goto (tgt := 197) hx hb dX5_odds_303 (by decide) ?_
                                          exact ih5 (xx + 1) mE H locs (by omega) (fun i hi => by rw [h6 i hi, Ry_e (by rw [← egx]; omega)]) hP hD hS ls (lv_sub hl [0, 3, 4, 5, 6, 7, 8, 9] rfl)
                                        · exact absurd (nI_le (show 401 ≤ rr + gx by omega) (by omega)) q7
                                      | succ k6 ih6 =>
                                        intro rr mE H locs hr6 h6 hP hD hS ls hl
                                        refine lv_iload hx hb dX5_odds_232 (lv_at hl 0 rfl) ?_
                                        refine lv_iload hx hb dX5_odds_234 (lv_at hl 1 rfl) ?_
                                        refine lv_iadd hx hb dX5_odds_236 ?_
                                        refine tpi (show ((nI rr) + (nI gx) : Int32) = nI (rr + gx) from nI_add _ _) ?_
                                        refine lv_sipush (v := 401) hx hb dX5_odds_237 (by decide) ?_
                                        refine lv_icmp_ge (tgt := 300) hx hb dX5_odds_240 (by decide) (fun q7 => ?_) (fun q7 => ?_)
                                        · have g7 : 401 ≤ rr + gx := (nI_leI (a := 401) (by decide) (by omega)).mp q7
                                          refine lv_iinc (v := nI (xx + 1)) (lv' := [(11, .int (nI (xx + 1))), (13, .int (nI rr)), (12, .int (nI gx)), (10, .int (nI hd)), (9, .int (nI cc)), (8, .int (nI v)), (7, .int (nI (N1 + N2))), (6, .int (nI N1)), (0, .ref qm), (5, .int pt)]) hx hb dX5_odds_300 hl (k := 2) rfl (nI_1 xx) (by decide) rfl (fun ls hl => ?_)
                                          refine lv_goto (tgt := 197) hx hb dX5_odds_303 (by decide) ?_
                                          exact ih5 (xx + 1) mE H locs (by omega) (fun i hi => by rw [h6 i hi, Ry_e (by rw [← egx]; omega)]) hP hD hS ls (lv_sub hl [0, 3, 4, 5, 6, 7, 8, 9] rfl)
                                        · have g7 : rr + gx < 401 := Nat.lt_of_not_le (fun h => q7 (nI_le h (by omega)))
                                          refine lv_aload_n hx hb dX5_odds_243 rfl (lv_at hl 8 rfl) ?_
                                          refine va_get (D := dd) (ci := 5) (C := RX5) (T := TX5) (N := 30) (v := .ref (a 20)) hx hb hts hiX5 hown hK hP 0 rfl rfl 20 (by decide) (hts (.fieldLink RX5 51 "SliceDriftModel" "more" "[J") (by decide +kernel)) (fun _ h9 => h9) rfl dX5_odds_244 ?_
                                          refine lv_sipush (v := 401) hx hb dX5_odds_247 (by decide) ?_
                                          refine lv_iload hx hb dX5_odds_250 (lv_at hl 3 rfl) ?_
                                          refine lv_iload hx hb dX5_odds_252 (lv_at hl 2 rfl) ?_
                                          refine lv_iadd hx hb dX5_odds_254 ?_
                                          refine tpi (show ((nI hd) + (nI xx) : Int32) = nI (hd + xx) from nI_add _ _) ?_
                                          refine lv_imul hx hb dX5_odds_255 ?_
                                          refine tpi (show (401 * (nI (hd + xx)) : Int32) = nI (401 * (hd + xx)) from pk_mul 401 _) ?_
                                          refine lv_iload hx hb dX5_odds_256 (lv_at hl 0 rfl) ?_
                                          refine lv_iadd hx hb dX5_odds_258 ?_
                                          refine tpi (show ((nI (401 * (hd + xx))) + (nI rr) : Int32) = nI (401 * (hd + xx) + rr) from nI_add _ _) ?_
                                          refine lv_iload hx hb dX5_odds_259 (lv_at hl 1 rfl) ?_
                                          refine lv_iadd hx hb dX5_odds_261 ?_
                                          refine tpi (show ((nI (401 * (hd + xx) + rr)) + (nI gx) : Int32) = nI (401 * (hd + xx) + rr + gx) from nI_add _ _) ?_
                                          refine lv_dup2_11 hx hb dX5_odds_262 rfl rfl ?_
                                          refine va_lald hx hb hK hP 6 1 rfl rfl (i := nI (401 * (hd + xx) + rr + gx)) (vp_in_nI (show (401 * (hd + xx) + rr + gx) < 8421 from (by omega)) (by decide)) dX5_odds_263 ?_
                                          rw [nI_clamp (show (401 * (hd + xx) + rr + gx) < 2 ^ 31 from Nat.lt_trans (show (401 * (hd + xx) + rr + gx) < 8421 from (by omega)) (by decide))]
                                          refine tpl (show (mE (401 * (hd + xx) + rr + gx) : Int64) = lN (Ry Z cc hd xx rr (401 * (hd + xx) + rr + gx)) from h6 _ (by omega)) ?_
                                          refine lv_aload_n hx hb dX5_odds_264 rfl (lv_at hl 8 rfl) ?_
                                          refine va_get (D := dd) (ci := 5) (C := RX5) (T := TX5) (N := 30) (v := .ref (a 19)) hx hb hts hiX5 hown hK hP 0 rfl rfl 19 (by decide) (hts (.fieldLink RX5 48 "SliceDriftModel" "ways" "[J") (by decide +kernel)) (fun _ h9 => h9) rfl dX5_odds_265 ?_
                                          refine lv_sipush (v := 401) hx hb dX5_odds_268 (by decide) ?_
                                          refine lv_iload hx hb dX5_odds_271 (lv_at hl 3 rfl) ?_
                                          refine lv_imul hx hb dX5_odds_273 ?_
                                          refine tpi (show (401 * (nI hd) : Int32) = nI (401 * hd) from pk_mul 401 _) ?_
                                          refine lv_iload hx hb dX5_odds_274 (lv_at hl 0 rfl) ?_
                                          refine lv_iadd hx hb dX5_odds_276 ?_
                                          refine tpi (show ((nI (401 * hd)) + (nI rr) : Int32) = nI (401 * hd + rr) from nI_add _ _) ?_
                                          refine va_lald hx hb hK hP 5 1 rfl rfl (i := nI (401 * hd + rr)) (vp_in_nI (show (401 * hd + rr) < 8421 from (by omega)) (by decide)) dX5_odds_277 ?_
                                          rw [nI_clamp (show (401 * hd + rr) < 2 ^ 31 from Nat.lt_trans (show (401 * hd + rr) < 8421 from (by omega)) (by decide))]
                                          refine tpl (show (wB (401 * hd + rr) : Int64) = lN (Z hd rr) from by rw [hW _ (by omega), show (401 * hd + rr) / 401 = hd by omega, show (401 * hd + rr) % 401 = rr by omega]) ?_
                                          refine lv_aload_n hx hb dX5_odds_278 rfl (lv_at hl 8 rfl) ?_
                                          refine va_get (D := dd) (ci := 5) (C := RX5) (T := TX5) (N := 30) (v := .ref (a 21)) hx hb hts hiX5 hown hK hP 0 rfl rfl 21 (by decide) (hts (.fieldLink RX5 54 "SliceDriftModel" "choose" "[J") (by decide +kernel)) (fun _ h9 => h9) rfl dX5_odds_279 ?_
                                          refine lv_bipush (v := 21) hx hb dX5_odds_282 (by decide) ?_
                                          refine lv_iload hx hb dX5_odds_284 (lv_at hl 4 rfl) ?_
                                          refine lv_imul hx hb dX5_odds_286 ?_
                                          refine tpi (show (21 * (nI cc) : Int32) = nI (21 * cc) from pk_mul 21 _) ?_
                                          refine lv_iload hx hb dX5_odds_287 (lv_at hl 2 rfl) ?_
                                          refine lv_iadd hx hb dX5_odds_289 ?_
                                          refine tpi (show ((nI (21 * cc)) + (nI xx) : Int32) = nI (21 * cc + xx) from nI_add _ _) ?_
                                          refine va_lald hx hb hK hP 7 1 rfl rfl (i := nI (21 * cc + xx)) (vp_in_nI (show (21 * cc + xx) < 441 from (by omega)) (by decide)) dX5_odds_290 ?_
                                          rw [nI_clamp (show (21 * cc + xx) < 2 ^ 31 from Nat.lt_trans (show (21 * cc + xx) < 441 from (by omega)) (by decide))]
                                          refine tpl (show (ch (21 * cc + xx) : Int64) = lN (chs cc xx) from by rw [hch _ (by omega), show (21 * cc + xx) / 21 = cc by omega, show (21 * cc + xx) % 21 = xx by omega]) ?_
                                          refine lv_lmul hx hb dX5_odds_291 ?_
                                          refine tpl (show ((lN (Z hd rr)) * (lN (chs cc xx)) : Int64) = lN (Z hd rr * chs cc xx) from lN_mul _ _) ?_
                                          refine lv_ladd hx hb dX5_odds_292 ?_
                                          refine tpl (show ((lN (Ry Z cc hd xx rr (401 * (hd + xx) + rr + gx))) + (lN (Z hd rr * chs cc xx)) : Int64) = lN (Ry Z cc hd xx rr (401 * (hd + xx) + rr + gx) + Z hd rr * chs cc xx) from lN_add _ _) ?_
                                          refine va_last hx hb hK hP hD hS 6 1 rfl rfl (i := nI (401 * (hd + xx) + rr + gx)) (vp_in_nI (show (401 * (hd + xx) + rr + gx) < 8421 from (by omega)) (by decide)) dX5_odds_293 (fun H locs hP hD hS => ?_)
                                          rw [nI_clamp (show (401 * (hd + xx) + rr + gx) < 2 ^ 31 from Nat.lt_trans (show (401 * (hd + xx) + rr + gx) < 8421 from (by omega)) (by decide))] at hP hD
                                          have hP : va_P dd vwCl [(qm, .inr (5, mo a 0 (nI n) li (nI (cnt Ff n)) (nI (cnt Gg n)) ab be st al)), (a 2, .inl (cyI, 48, .inl tI)), (a 4, .inl (cyI, 240, .inl sI)), (a 13, .inl (cyI, 11, .inl u1.1)), (a 14, .inl (cyI, 11, .inl u1.2)), (a 19, .inl (cyJ, 8421, .inr (.inl wB))), (a 20, .inl (cyJ, 8421, .inr (.inl (vp_updL mE (401 * (hd + xx) + rr + gx) (lN (Ry Z cc hd xx rr (401 * (hd + xx) + rr + gx) + Z hd rr * chs cc xx)))))), (a 21, .inl (cyJ, 441, .inr (.inl ch)))] H := hP
                                          have hD : va_D A [(qm, .inr (5, mo a 0 (nI n) li (nI (cnt Ff n)) (nI (cnt Gg n)) ab be st al)), (a 2, .inl (cyI, 48, .inl tI)), (a 4, .inl (cyI, 240, .inl sI)), (a 13, .inl (cyI, 11, .inl u1.1)), (a 14, .inl (cyI, 11, .inl u1.2)), (a 19, .inl (cyJ, 8421, .inr (.inl wB))), (a 20, .inl (cyJ, 8421, .inr (.inl (vp_updL mE (401 * (hd + xx) + rr + gx) (lN (Ry Z cc hd xx rr (401 * (hd + xx) + rr + gx) + Z hd rr * chs cc xx)))))), (a 21, .inl (cyJ, 441, .inr (.inl ch)))] := hD
                                          refine lv_iinc (v := nI (rr + 1)) (lv' := [(13, .int (nI (rr + 1))), (12, .int (nI gx)), (11, .int (nI xx)), (10, .int (nI hd)), (9, .int (nI cc)), (8, .int (nI v)), (7, .int (nI (N1 + N2))), (6, .int (nI N1)), (0, .ref qm), (5, .int pt)]) hx hb dX5_odds_294 hl (k := 0) rfl (nI_1 rr) (by decide) rfl (fun ls hl => ?_)
                                          refine lv_goto (tgt := 232) hx hb dX5_odds_297 (by decide) ?_
                                          exact ih6 (rr + 1) _ H locs (by omega) (Ry_st (by omega) (by rw [← egx]; exact g7) (by rw [← egx]) h6) hP hD hS ls (lv_sub hl [0, 1, 2, 3, 4, 5, 6, 7, 8, 9] rfl)
                                    exact loop6 401 0 mD H locs rfl (fun i hi => by rw [h5 i hi, Ry_0]) hP hD hS ls (lv_sub hl [0, 1, 2, 3, 4, 5, 6, 7, 8, 9] rfl)
                            exact loop5 (cc + 1) 0 mC H locs (by omega) (fun i hi => by rw [h4 i hi, Rx_0]) hP hD hS ls (lv_sub hl [0, 1, 2, 3, 4, 5, 6, 7] rfl)
                      exact loop4 21 0 mB3 H locs rfl (fun i hi => by rw [hz3 i (by omega)]; rfl) hP hD hS ls (lv_sub hl [0, 1, 2, 3, 4, 5, 6] rfl)
                    · exact absurd (nI_le (show 8421 ≤ j by omega) (by omega)) q3
                  | succ k3 ih3 =>
                    intro j mB3 H locs hj3 hz3 hP hD hS ls hl
                    refine lv_iload hx hb dX5_odds_162 (lv_at hl 0 rfl) ?_
                    refine lv_sipush (v := 8421) hx hb dX5_odds_164 (by decide) ?_
                    refine lv_icmp_ge (tgt := 184) hx hb dX5_odds_167 (by decide) (fun q3 => ?_) (fun q3 => ?_)
                    · exact absurd q3 (nI_ge (show j < 8421 by omega) (by decide))
                    · refine lv_aload_n hx hb dX5_odds_170 rfl (lv_at hl 5 rfl) ?_
                      refine va_get (D := dd) (ci := 5) (C := RX5) (T := TX5) (N := 30) (v := .ref (a 20)) hx hb hts hiX5 hown hK hP 0 rfl rfl 20 (by decide) (hts (.fieldLink RX5 51 "SliceDriftModel" "more" "[J") (by decide +kernel)) (fun _ h9 => h9) rfl dX5_odds_171 ?_
                      refine lv_iload hx hb dX5_odds_174 (lv_at hl 0 rfl) ?_
                      refine lv_lconst (v := 0) hx hb dX5_odds_176 (by decide) ?_
                      refine va_last hx hb hK hP hD hS 6 1 rfl rfl (i := nI j) (vp_in_nI (show j < 8421 from (by omega)) (by decide)) dX5_odds_177 (fun H locs hP hD hS => ?_)
                      rw [nI_clamp (show j < 2 ^ 31 from Nat.lt_trans (show j < 8421 from (by omega)) (by decide))] at hP hD
                      have hP : va_P dd vwCl [(qm, .inr (5, mo a 0 (nI n) li (nI (cnt Ff n)) (nI (cnt Gg n)) ab be st al)), (a 2, .inl (cyI, 48, .inl tI)), (a 4, .inl (cyI, 240, .inl sI)), (a 13, .inl (cyI, 11, .inl u1.1)), (a 14, .inl (cyI, 11, .inl u1.2)), (a 19, .inl (cyJ, 8421, .inr (.inl wB))), (a 20, .inl (cyJ, 8421, .inr (.inl (vp_updL mB3 j 0)))), (a 21, .inl (cyJ, 441, .inr (.inl ch)))] H := hP
                      have hD : va_D A [(qm, .inr (5, mo a 0 (nI n) li (nI (cnt Ff n)) (nI (cnt Gg n)) ab be st al)), (a 2, .inl (cyI, 48, .inl tI)), (a 4, .inl (cyI, 240, .inl sI)), (a 13, .inl (cyI, 11, .inl u1.1)), (a 14, .inl (cyI, 11, .inl u1.2)), (a 19, .inl (cyJ, 8421, .inr (.inl wB))), (a 20, .inl (cyJ, 8421, .inr (.inl (vp_updL mB3 j 0)))), (a 21, .inl (cyJ, 441, .inr (.inl ch)))] := hD
                      refine lv_iinc (v := nI (j + 1)) (lv' := [(10, .int (nI (j + 1))), (9, .int (nI cc)), (8, .int (nI v)), (7, .int (nI (N1 + N2))), (6, .int (nI N1)), (0, .ref qm), (5, .int pt)]) hx hb dX5_odds_178 hl (k := 0) rfl (nI_1 j) (by decide) rfl (fun ls hl => ?_)
                      refine lv_goto (tgt := 162) hx hb dX5_odds_181 (by decide) ?_
                      exact ih3 (j + 1) _ H locs (by omega) (fun i hi => (Nat.lt_or_ge i j).elim (fun h => by rw [pk_uLn (by omega)]; exact hz3 i h) (fun h => by rw [show i = j by omega, pk_uLs])) hP hD hS ls (lv_sub hl [0, 1, 2, 3, 4, 5, 6] rfl)
                exact loop3 8421 0 mB H locs rfl (fun i h => absurd h (Nat.not_lt_zero i)) hP hD hS ls (lv_sub hl [0, 1, 2, 3, 4, 5, 6] rfl)
          have loop1 : ∀ (k1 : Nat) (j : Nat) (wD : Nat → Int64) (H : Heap) (locs : List Loc), j + k1 = 8421 → (∀ i, i < j → wD i = lN (W0 (i / 401) (i % 401))) → va_P dd vwCl [(qm, .inr (5, mo a 0 (nI n) li (nI (cnt Ff n)) (nI (cnt Gg n)) ab be st al)), (a 2, .inl (cyI, 48, .inl tI)), (a 4, .inl (cyI, 240, .inl sI)), (a 13, .inl (cyI, 11, .inl u1.1)), (a 14, .inl (cyI, 11, .inl u1.2)), (a 19, .inl (cyJ, 8421, .inr (.inl wD))), (a 20, .inl (cyJ, 8421, .inr (.inl mA))), (a 21, .inl (cyJ, 441, .inr (.inl ch)))] H → va_D A [(qm, .inr (5, mo a 0 (nI n) li (nI (cnt Ff n)) (nI (cnt Gg n)) ab be st al)), (a 2, .inl (cyI, 48, .inl tI)), (a 4, .inl (cyI, 240, .inl sI)), (a 13, .inl (cyI, 11, .inl u1.1)), (a 14, .inl (cyI, 11, .inl u1.2)), (a 19, .inl (cyJ, 8421, .inr (.inl wD))), (a 20, .inl (cyJ, 8421, .inr (.inl mA))), (a 21, .inl (cyJ, 441, .inr (.inl ch)))] → va_S A s.heap H locs → ∀ ls : Array Slot, lv_has ls 14 [(8, .int (nI j)), (7, .int (nI (N1 + N2))), (6, .int (nI N1)), (0, .ref qm), (5, .int pt)] → W p l e ({ frames := 2, cells := 0, slots := 0, locals := 80 } : Room) s m ([.ref qm, .int (nI co), .int f, .int b, .int t, .int pt] : List Value).toArray below meth c H locs 0 0 (MQ below (va_Ql (S := Int32 × Int32 × (Nat → Int32) × (Nat → Int32) × (Nat → Int64) × (Nat → Int64) × (Nat → Int64)) (fun (r : Int64) (_ : Int32 × Int32 × (Nat → Int32) × (Nat → Int32) × (Nat → Int64) × (Nat → Int64) × (Nat → Int64)) => r = oddsV Ff Gg sI co n pt) (WQ dd [(qm, .inr (5, mo a th (nI n) li fm sm ab be st al)), (a 2, .inl (cyI, 48, .inl tI)), (a 4, .inl (cyI, 240, .inl sI)), (a 13, .inl (cyI, 11, .inl fA)), (a 14, .inl (cyI, 11, .inl gA)), (a 19, .inl (cyJ, 8421, .inr (.inl wA))), (a 20, .inl (cyJ, 8421, .inr (.inl mA))), (a 21, .inl (cyJ, 441, .inr (.inl cA)))] sz (fun u => [(qm, .inr (5, mo a 0 (nI n) li u.1 u.2.1 ab be st al)), (a 2, .inl (cyI, 48, .inl tI)), (a 4, .inl (cyI, 240, .inl sI)), (a 13, .inl (cyI, 11, .inl u.2.2.1)), (a 14, .inl (cyI, 11, .inl u.2.2.2.1)), (a 19, .inl (cyJ, 8421, .inr (.inl u.2.2.2.2.1))), (a 20, .inl (cyJ, 8421, .inr (.inl u.2.2.2.2.2.1))), (a 21, .inl (cyJ, 441, .inr (.inl u.2.2.2.2.2.2)))])) A) ([.ref qm, .int (nI co), .int f, .int b, .int t, .int pt] : List Value).toArray s 0 0 A) (F0 m 101 ls []) := by
            intro k1
            induction k1 with
            | zero =>
              intro j wD H locs hj1 h1 hP hD hS ls hl
              refine lv_iload hx hb dX5_odds_101 (lv_at hl 0 rfl) ?_
              refine lv_sipush (v := 8421) hx hb dX5_odds_103 (by decide) ?_
              refine lv_icmp_ge (tgt := 132) hx hb dX5_odds_106 (by decide) (fun q1 => ?_) (fun q1 => ?_)
              · refine lv_iconst (v := 0) hx hb dX5_odds_132 (by decide) ?_
                refine lv_istore (lv' := [(8, .int 0), (7, .int (nI (N1 + N2))), (6, .int (nI N1)), (0, .ref qm), (5, .int pt)]) hx hb dX5_odds_133 hl (by decide) rfl (fun ls hl => ?_)
                exact loop 10 0 wD mA H locs rfl (fun i hi => h1 i (by omega)) hP hD hS ls (lv_sub hl [0, 1, 2, 3, 4] rfl)
              · exact absurd (nI_le (show 8421 ≤ j by omega) (by omega)) q1
            | succ k1 ih1 =>
              intro j wD H locs hj1 h1 hP hD hS ls hl
              refine lv_iload hx hb dX5_odds_101 (lv_at hl 0 rfl) ?_
              refine lv_sipush (v := 8421) hx hb dX5_odds_103 (by decide) ?_
              refine lv_icmp_ge (tgt := 132) hx hb dX5_odds_106 (by decide) (fun q1 => ?_) (fun q1 => ?_)
              · exact absurd q1 (nI_ge (show j < 8421 by omega) (by decide))
              · refine lv_aload_n hx hb dX5_odds_109 rfl (lv_at hl 3 rfl) ?_
                refine va_get (D := dd) (ci := 5) (C := RX5) (T := TX5) (N := 30) (v := .ref (a 19)) hx hb hts hiX5 hown hK hP 0 rfl rfl 19 (by decide) (hts (.fieldLink RX5 48 "SliceDriftModel" "ways" "[J") (by decide +kernel)) (fun _ h9 => h9) rfl dX5_odds_110 ?_
                refine lv_iload hx hb dX5_odds_113 (lv_at hl 0 rfl) ?_
                refine lv_iload hx hb dX5_odds_115 (lv_at hl 0 rfl) ?_
                have m125 : W p l e ({ frames := 2, cells := 0, slots := 0, locals := 80 } : Room) s m ([.ref qm, .int (nI co), .int f, .int b, .int t, .int pt] : List Value).toArray below meth c H locs 0 0 (MQ below (va_Ql (S := Int32 × Int32 × (Nat → Int32) × (Nat → Int32) × (Nat → Int64) × (Nat → Int64) × (Nat → Int64)) (fun (r : Int64) (_ : Int32 × Int32 × (Nat → Int32) × (Nat → Int32) × (Nat → Int64) × (Nat → Int64) × (Nat → Int64)) => r = oddsV Ff Gg sI co n pt) (WQ dd [(qm, .inr (5, mo a th (nI n) li fm sm ab be st al)), (a 2, .inl (cyI, 48, .inl tI)), (a 4, .inl (cyI, 240, .inl sI)), (a 13, .inl (cyI, 11, .inl fA)), (a 14, .inl (cyI, 11, .inl gA)), (a 19, .inl (cyJ, 8421, .inr (.inl wA))), (a 20, .inl (cyJ, 8421, .inr (.inl mA))), (a 21, .inl (cyJ, 441, .inr (.inl cA)))] sz (fun u => [(qm, .inr (5, mo a 0 (nI n) li u.1 u.2.1 ab be st al)), (a 2, .inl (cyI, 48, .inl tI)), (a 4, .inl (cyI, 240, .inl sI)), (a 13, .inl (cyI, 11, .inl u.2.2.1)), (a 14, .inl (cyI, 11, .inl u.2.2.2.1)), (a 19, .inl (cyJ, 8421, .inr (.inl u.2.2.2.2.1))), (a 20, .inl (cyJ, 8421, .inr (.inl u.2.2.2.2.2.1))), (a 21, .inl (cyJ, 441, .inr (.inl u.2.2.2.2.2.2)))])) A) ([.ref qm, .int (nI co), .int f, .int b, .int t, .int pt] : List Value).toArray s 0 0 A) (F0 m 125 ls [.long (lN (W0 (j / 401) (j % 401))), .int (nI j), .ref (a 19)]) := by
                  refine va_last hx hb hK hP hD hS 5 1 rfl rfl (i := nI j) (vp_in_nI (show j < 8421 from (by omega)) (by decide)) dX5_odds_125 (fun H locs hP hD hS => ?_)
                  rw [nI_clamp (show j < 2 ^ 31 from Nat.lt_trans (show j < 8421 from (by omega)) (by decide))] at hP hD
                  have hP : va_P dd vwCl [(qm, .inr (5, mo a 0 (nI n) li (nI (cnt Ff n)) (nI (cnt Gg n)) ab be st al)), (a 2, .inl (cyI, 48, .inl tI)), (a 4, .inl (cyI, 240, .inl sI)), (a 13, .inl (cyI, 11, .inl u1.1)), (a 14, .inl (cyI, 11, .inl u1.2)), (a 19, .inl (cyJ, 8421, .inr (.inl (vp_updL wD j (lN (W0 (j / 401) (j % 401))))))), (a 20, .inl (cyJ, 8421, .inr (.inl mA))), (a 21, .inl (cyJ, 441, .inr (.inl ch)))] H := hP
                  have hD : va_D A [(qm, .inr (5, mo a 0 (nI n) li (nI (cnt Ff n)) (nI (cnt Gg n)) ab be st al)), (a 2, .inl (cyI, 48, .inl tI)), (a 4, .inl (cyI, 240, .inl sI)), (a 13, .inl (cyI, 11, .inl u1.1)), (a 14, .inl (cyI, 11, .inl u1.2)), (a 19, .inl (cyJ, 8421, .inr (.inl (vp_updL wD j (lN (W0 (j / 401) (j % 401))))))), (a 20, .inl (cyJ, 8421, .inr (.inl mA))), (a 21, .inl (cyJ, 441, .inr (.inl ch)))] := hD
                  refine lv_iinc (v := nI (j + 1)) (lv' := [(8, .int (nI (j + 1))), (7, .int (nI (N1 + N2))), (6, .int (nI N1)), (0, .ref qm), (5, .int pt)]) hx hb dX5_odds_126 hl (k := 0) rfl (nI_1 j) (by decide) rfl (fun ls hl => ?_)
                  refine lv_goto (tgt := 101) hx hb dX5_odds_129 (by decide) ?_
                  exact ih1 (j + 1) _ H locs (by omega) (fun i hi => (Nat.lt_or_ge i j).elim (fun h => by rw [pk_uLn (by omega)]; exact h1 i h) (fun h => by rw [show i = j by omega, pk_uLs])) hP hD hS ls (lv_sub hl [0, 1, 2, 3, 4] rfl)
                refine lv_if_ne (tgt := 124) hx hb dX5_odds_117 (by decide) (fun qz => ?_) (fun qz => ?_)
                · have j0 : ¬ j = 0 := fun h => qz (by rw [h]; rfl)
                  refine lv_lconst (v := 0) hx hb dX5_odds_124 (by decide) ?_
                  refine tpl (show (0 : Int64) = lN (W0 (j / 401) (j % 401)) from by unfold W0; rw [if_neg (by omega)]; rfl) ?_
                  exact m125
                · have j0 : j = 0 := (nI_eq (b := 0) (by omega) (by decide)).mp qz
                  refine lv_lconst (v := 1) hx hb dX5_odds_120 (by decide) ?_
                  refine lv_goto (tgt := 125) hx hb dX5_odds_121 (by decide) ?_
                  refine tpl (show (1 : Int64) = lN (W0 (j / 401) (j % 401)) from by unfold W0; rw [if_pos (by omega)]; rfl) ?_
                  exact m125
          exact loop1 8421 0 wA H _ rfl (fun i h => absurd h (Nat.not_lt_zero i)) (hP.sub [6, 2, 3, 4, 5, 0, 1, 7] rfl) (hD.sub [6, 2, 3, 4, 5, 0, 1, 7] (by decide) rfl) hS ls (lv_sub hl [0, 1, 2, 3, 8] rfl)
        · refine lv_ldc2 (v := (-1000003)) hx hb hown (hts (.constantLong RX5 160 (-1000003)) (by decide +kernel)) dX5_odds_90 ?_
          exact ewL (_, _, u1.1, u1.2, wA, mA, cA) hx hb hr hlocks hAe hS dX5_odds_93 (by rw [oddsV, ← eN1, ← eN2, if_pos (Nat.lt_of_not_le (fun h => q (nI_le h (by decide))))]) (hP.sub [3, 4, 5, 6, 7, 0, 1, 2] rfl) (hD.sub [3, 4, 5, 6, 7, 0, 1, 2] (by decide) rfl)
      · have hck3 : ¬ (inP pt) := hck3.elim (fun h => absurd (h.1.symm.trans qck3) (by decide)) (fun h => h.2)
        refine lv_ldc2 (v := (-1000002)) hx hb hown (hts (.constantLong RX5 117 (-1000002)) (by decide +kernel)) dX5_odds_38 ?_
        exact ewL (fm, sm, fA, gA, wA, mA, cA) hx hb hr hlocks hAe hS dX5_odds_41 (by rw [oddsR, if_pos hck1, if_neg (fun x : inW f b t ∧ inP pt => hck3 x.2)]) (hP.sub [0, 1, 2, 3, 4, 5, 6, 7] rfl) (hD.sub [0, 1, 2, 3, 4, 5, 6, 7] (by decide) rfl)
  · have hck1 : ¬ (inC y) := hck1.elim (fun h => absurd (h.1.symm.trans qck1) (by decide)) (fun h => h.2)
    refine lv_ldc2 (v := (-1000001)) hx hb hown (hts (.constantLong RX5 115 (-1000001)) (by decide +kernel)) dX5_odds_14 ?_
    exact ewL (fm, sm, fA, gA, wA, mA, cA) hx hb hr hlocks hAe hS dX5_odds_17 (by rw [oddsR, if_neg hck1]) (hP.sub [0, 1, 2, 3, 4, 5, 6, 7] rfl) (hD.sub [0, 1, 2, 3, 4, 5, 6, 7] (by decide) rfl)
