/-- what stands above in a drift, by counts -/
def dsg (pp qq : Nat → Nat) (F G : Nat) : Nat → Nat
  | 0 => 0
  | k + 1 => dsg pp qq F G k + (((pp k * G : Nat) : Int) - ((qq k * F : Nat) : Int)).natAbs
theorem dsu_dsg (f g : Nat → Bool) (sI : Nat → Int32) (co n : Nat) : ∀ k, dsu f g sI co n k = dsg (cs f sI co n) (cs g sI co n) (cnt f n) (cnt g n) k
  | 0 => rfl
  | k + 1 => by simp only [dsu, dsg]; rw [dsu_dsg f g sI co n k]
theorem lsubI (x z : Nat) : lN x - lN z = lI (((x : Nat) : Int) - ((z : Nat) : Int)) := by
  rw [lN_lI, lN_lI]
  exact (Int64.ofInt_sub _ _).symm
theorem lneg_abs {z : Int} (h : z < 0) : -lI z = lN z.natAbs := by
  rw [lN_lI]
  unfold lI
  rw [← Int64.ofInt_neg]
  congr 1
  omega
theorem lpos_abs {z : Int} (h : 0 ≤ z) : lI z = lN z.natAbs := by
  rw [lN_lI]
  congr 1
  omega
theorem lI_ge {z : Int} (h : z.natAbs < 2 ^ 62) : 0 ≤ lg_cmp (lI z) 0 ↔ 0 ≤ z := by
  rw [lg_cmp_ge, Int64.le_iff_toInt_le, lI_toInt h]
  rfl

set_option maxHeartbeats 4000000 in
set_option maxRecDepth 100000 in
theorem r_drifts (l : Launch) (dd : va_G) (cyI cyJ cyZ : ClassId) (qm : Nat) (a : Nat → Nat) (th ro li : Int32) (ab be : Int64) (st al : Int32) (F G : Nat) (hF : F ≤ 48) (hG : G ≤ 48) (pp qq : Nat → Nat) (fA gA : Nat → Int32) (hfA : ∀ k, k < 11 → fA k = nI (pp k) ∧ pp k ≤ 48) (hgA : ∀ k, k < 11 → gA k = nI (qq k) ∧ qq k ≤ 48) (sz : Nat) : Met l yX5_drifts wsX5_drifts ({ frames := 0, cells := 0, slots := 0, locals := 0 } : Room) (va_Pc [.ref qm] (Wr dd [(cyI, .int), (cyJ, .long), (cyZ, .boolean)] [(qm, .inr (5, mo a th ro li (nI F) (nI G) ab be st al)), (a 13, .inl (cyI, 11, .inl fA)), (a 14, .inl (cyI, 11, .inl gA))] sz)) (va_Qi (S := Int64 × Int64) (fun (r : Int32) (u : Int64 × Int64) => (r = 0 ∧ (F = 0 ∨ G = 0) ∧ u = (ab, be)) ∨ (r = 1 ∧ ¬ (F = 0 ∨ G = 0) ∧ u = (lN (dsg pp qq F G 11), lN (2 * F * G)))) (WQ dd [(qm, .inr (5, mo a th ro li (nI F) (nI G) ab be st al)), (a 13, .inl (cyI, 11, .inl fA)), (a 14, .inl (cyI, 11, .inl gA))] sz (fun u => [(qm, .inr (5, mo a th ro li (nI F) (nI G) u.1 u.2 st al)), (a 13, .inl (cyI, 11, .inl fA)), (a 14, .inl (cyI, 11, .inl gA))])) (va_A [(qm, .inr (5, mo a th ro li (nI F) (nI G) ab be st al)), (a 13, .inl (cyI, 11, .inl fA)), (a 14, .inl (cyI, 11, .inl gA))] sz)) 0 0 (va_A [(qm, .inr (5, mo a th ro li (nI F) (nI G) ab be st al)), (a 13, .inl (cyI, 11, .inl fA)), (a 14, .inl (cyI, 11, .inl gA))] sz) := by
  refine mkW (Qc := fun A => (va_Qi (S := Int64 × Int64) (fun (r : Int32) (u : Int64 × Int64) => (r = 0 ∧ (F = 0 ∨ G = 0) ∧ u = (ab, be)) ∨ (r = 1 ∧ ¬ (F = 0 ∨ G = 0) ∧ u = (lN (dsg pp qq F G 11), lN (2 * F * G)))) (WQ dd [(qm, .inr (5, mo a th ro li (nI F) (nI G) ab be st al)), (a 13, .inl (cyI, 11, .inl fA)), (a 14, .inl (cyI, 11, .inl gA))] sz (fun u => [(qm, .inr (5, mo a th ro li (nI F) (nI G) u.1 u.2 st al)), (a 13, .inl (cyI, 11, .inl fA)), (a 14, .inl (cyI, 11, .inl gA))])) A)) (cc := cX5_drifts) (maxL := 4) (by decide) rfl (Nat.le_of_ble_eq_true rfl) (lv0 := [(0, .ref qm)]) rfl ?_
  intro p e s m below meth c ls H A hx hb hr hml hown hlocks hts hmn hN hP hK hD hS hA hAe hl
  have hown : s.vm.findClass RX5 = some m.cls := hown
  have hiX5 : ∀ w ∈ wsX50, w ∈ wsX5_drifts := by decide +kernel
  refine lv_aload_n hx hb dX5_drifts_0 rfl (lv_at hl 0 rfl) ?_
  refine va_get (D := dd) (ci := 5) (C := RX5) (T := TX5) (N := 30) (v := .int (nI F)) hx hb hts hiX5 hown hK hP 0 rfl rfl 15 (by decide) (hts (.fieldLink RX5 130 "SliceDriftModel" "firstMany" "I") (by decide +kernel)) (fun _ h9 => h9) rfl dX5_drifts_1 ?_
  refine lv_if_eq (tgt := 14) hx hb dX5_drifts_4 (by decide) (fun q1 => ?_) (fun q1 => ?_)
  · refine lv_iconst (v := 0) hx hb dX5_drifts_14 (by decide) ?_
    exact ewZ (ab, be) hx hb hr hlocks hAe hS dX5_drifts_15 rfl (Or.inl ⟨rfl, Or.inl ((nI_eq (b := 0) (by omega) (by decide)).mp q1), rfl⟩) (hP.sub [0, 1, 2] rfl) (hD.sub [0, 1, 2] (by decide) rfl)
  · have hF0 : F ≠ 0 := fun h => q1 (by rw [h]; rfl)
    refine lv_aload_n hx hb dX5_drifts_7 rfl (lv_at hl 0 rfl) ?_
    refine va_get (D := dd) (ci := 5) (C := RX5) (T := TX5) (N := 30) (v := .int (nI G)) hx hb hts hiX5 hown hK hP 0 rfl rfl 16 (by decide) (hts (.fieldLink RX5 133 "SliceDriftModel" "secondMany" "I") (by decide +kernel)) (fun _ h9 => h9) rfl dX5_drifts_8 ?_
    refine lv_if_ne (tgt := 16) hx hb dX5_drifts_11 (by decide) (fun q3 => ?_) (fun q3 => ?_)
    · have hG0 : G ≠ 0 := fun h => q3 (by rw [h]; rfl)
      have hnz : ¬ (F = 0 ∨ G = 0) := fun h => h.elim hF0 hG0
      refine lv_aload_n hx hb dX5_drifts_16 rfl (lv_at hl 0 rfl) ?_
      refine lv_lconst (v := 0) hx hb dX5_drifts_17 (by decide) ?_
      refine va_put (D := dd) (ci := 5) (v := .long 0) (ty := .long) (C := RX5) (T := TX5) (N := 30) hx hb hts hiX5 tyX5 tyX5_ok nmX5 hown hK hP hD hS 0 rfl rfl 17 (by decide) (hts (.fieldLink RX5 136 "SliceDriftModel" "above" "J") (by decide +kernel)) (fun _ h9 => h9) rfl (by decide +kernel) rfl rfl (Nat.le_of_ble_eq_true rfl) dX5_drifts_18 (fun H locs hP hD hS => ?_)
      have hP : va_P dd vwCl [(qm, .inr (5, mo a th ro li (nI F) (nI G) 0 be st al)), (a 13, .inl (cyI, 11, .inl fA)), (a 14, .inl (cyI, 11, .inl gA))] H := hP
      have hD : va_D A [(qm, .inr (5, mo a th ro li (nI F) (nI G) 0 be st al)), (a 13, .inl (cyI, 11, .inl fA)), (a 14, .inl (cyI, 11, .inl gA))] := hD
      refine lv_iconst (v := 0) hx hb dX5_drifts_21 (by decide) ?_
      refine lv_istore_n (lv' := [(1, .int 0), (0, .ref qm)]) hx hb dX5_drifts_22 rfl hl (by decide) rfl (fun ls hl => ?_)
      have loop : ∀ (k : Nat) (k9 : Nat) (H : Heap) (locs : List Loc), k9 + k = 11 → va_P dd vwCl [(qm, .inr (5, mo a th ro li (nI F) (nI G) (lN (dsg pp qq F G k9)) be st al)), (a 13, .inl (cyI, 11, .inl fA)), (a 14, .inl (cyI, 11, .inl gA))] H → va_D A [(qm, .inr (5, mo a th ro li (nI F) (nI G) (lN (dsg pp qq F G k9)) be st al)), (a 13, .inl (cyI, 11, .inl fA)), (a 14, .inl (cyI, 11, .inl gA))] → va_S A s.heap H locs → ∀ ls : Array Slot, lv_has ls 4 [(1, .int (nI k9)), (0, .ref qm)] → W p l e ({ frames := 0, cells := 0, slots := 0, locals := 0 } : Room) s m ([.ref qm] : List Value).toArray below meth c H locs 0 0 (MQ below (va_Qi (S := Int64 × Int64) (fun (r : Int32) (u : Int64 × Int64) => (r = 0 ∧ (F = 0 ∨ G = 0) ∧ u = (ab, be)) ∨ (r = 1 ∧ ¬ (F = 0 ∨ G = 0) ∧ u = (lN (dsg pp qq F G 11), lN (2 * F * G)))) (WQ dd [(qm, .inr (5, mo a th ro li (nI F) (nI G) ab be st al)), (a 13, .inl (cyI, 11, .inl fA)), (a 14, .inl (cyI, 11, .inl gA))] sz (fun u => [(qm, .inr (5, mo a th ro li (nI F) (nI G) u.1 u.2 st al)), (a 13, .inl (cyI, 11, .inl fA)), (a 14, .inl (cyI, 11, .inl gA))])) A) ([.ref qm] : List Value).toArray s 0 0 A) (F0 m 23 ls []) := by
        intro k
        induction k with
        | zero =>
          intro k9 H locs hk9 hP hD hS ls hl
          refine lv_iload_n hx hb dX5_drifts_23 rfl (lv_at hl 0 rfl) ?_
          refine lv_bipush (v := 11) hx hb dX5_drifts_24 (by decide) ?_
          refine lv_icmp_ge (tgt := 84) hx hb dX5_drifts_26 (by decide) (fun q => ?_) (fun q => ?_)
          · have hk11 : k9 = 11 := by omega
            subst hk11
            refine lv_aload_n hx hb dX5_drifts_84 rfl (lv_at hl 1 rfl) ?_
            refine lv_ldc2 (v := 2) hx hb hown (hts (.constantLong RX5 140 2) (by decide +kernel)) dX5_drifts_85 ?_
            refine lv_aload_n hx hb dX5_drifts_88 rfl (lv_at hl 1 rfl) ?_
            refine va_get (D := dd) (ci := 5) (C := RX5) (T := TX5) (N := 30) (v := .int (nI F)) hx hb hts hiX5 hown hK hP 0 rfl rfl 15 (by decide) (hts (.fieldLink RX5 130 "SliceDriftModel" "firstMany" "I") (by decide +kernel)) (fun _ h9 => h9) rfl dX5_drifts_89 ?_
            refine lv_i2l hx hb dX5_drifts_92 rfl ?_
            refine tpl (show ((nI F).toInt64 : Int64) = lN F from nI_l (by omega)) ?_
            refine lv_lmul hx hb dX5_drifts_93 ?_
            refine tpl (show (2 * (lN F) : Int64) = lN (2 * F) from lN_mul 2 F) ?_
            refine lv_aload_n hx hb dX5_drifts_94 rfl (lv_at hl 1 rfl) ?_
            refine va_get (D := dd) (ci := 5) (C := RX5) (T := TX5) (N := 30) (v := .int (nI G)) hx hb hts hiX5 hown hK hP 0 rfl rfl 16 (by decide) (hts (.fieldLink RX5 133 "SliceDriftModel" "secondMany" "I") (by decide +kernel)) (fun _ h9 => h9) rfl dX5_drifts_95 ?_
            refine lv_i2l hx hb dX5_drifts_98 rfl ?_
            refine tpl (show ((nI G).toInt64 : Int64) = lN G from nI_l (by omega)) ?_
            refine lv_lmul hx hb dX5_drifts_99 ?_
            refine tpl (show ((lN (2 * F)) * (lN G) : Int64) = lN (2 * F * G) from lN_mul _ _) ?_
            refine va_put (D := dd) (ci := 5) (v := .long (lN (2 * F * G))) (ty := .long) (C := RX5) (T := TX5) (N := 30) hx hb hts hiX5 tyX5 tyX5_ok nmX5 hown hK hP hD hS 0 rfl rfl 18 (by decide) (hts (.fieldLink RX5 142 "SliceDriftModel" "below" "J") (by decide +kernel)) (fun _ h9 => h9) rfl (by decide +kernel) rfl rfl (Nat.le_of_ble_eq_true rfl) dX5_drifts_100 (fun H locs hP hD hS => ?_)
            have hP : va_P dd vwCl [(qm, .inr (5, mo a th ro li (nI F) (nI G) (lN (dsg pp qq F G 11)) (lN (2 * F * G)) st al)), (a 13, .inl (cyI, 11, .inl fA)), (a 14, .inl (cyI, 11, .inl gA))] H := hP
            have hD : va_D A [(qm, .inr (5, mo a th ro li (nI F) (nI G) (lN (dsg pp qq F G 11)) (lN (2 * F * G)) st al)), (a 13, .inl (cyI, 11, .inl fA)), (a 14, .inl (cyI, 11, .inl gA))] := hD
            refine lv_iconst (v := 1) hx hb dX5_drifts_103 (by decide) ?_
            exact ewZ (lN (dsg pp qq F G 11), lN (2 * F * G)) hx hb hr hlocks hAe hS dX5_drifts_104 rfl (Or.inr ⟨rfl, hnz, rfl⟩) (hP.sub [0, 1, 2] rfl) (hD.sub [0, 1, 2] (by decide) rfl)
          · exact absurd (nI_le (show 11 ≤ k9 by omega) (by omega)) q
        | succ k ih =>
          intro k9 H locs hk9 hP hD hS ls hl
          refine lv_iload_n hx hb dX5_drifts_23 rfl (lv_at hl 0 rfl) ?_
          refine lv_bipush (v := 11) hx hb dX5_drifts_24 (by decide) ?_
          refine lv_icmp_ge (tgt := 84) hx hb dX5_drifts_26 (by decide) (fun q => ?_) (fun q => ?_)
          · exact absurd q (nI_ge (show k9 < 11 by omega) (by decide))
          · obtain ⟨ef, hf4⟩ := hfA k9 (by omega)
            obtain ⟨eg, hg4⟩ := hgA k9 (by omega)
            have b1 : pp k9 * G ≤ 2304 := Nat.le_trans (Nat.mul_le_mul hf4 hG) (by decide)
            have b2 : qq k9 * F ≤ 2304 := Nat.le_trans (Nat.mul_le_mul hg4 hF) (by decide)
            refine lv_aload_n hx hb dX5_drifts_29 rfl (lv_at hl 1 rfl) ?_
            refine va_get (D := dd) (ci := 5) (C := RX5) (T := TX5) (N := 30) (v := .ref (a 13)) hx hb hts hiX5 hown hK hP 0 rfl rfl 13 (by decide) (hts (.fieldLink RX5 42 "SliceDriftModel" "first" "[I") (by decide +kernel)) (fun _ h9 => h9) rfl dX5_drifts_30 ?_
            refine lv_iload_n hx hb dX5_drifts_33 rfl (lv_at hl 0 rfl) ?_
            refine va_iald hx hb hK hP 1 0 rfl rfl (i := nI k9) (vp_in_nI (show k9 < 11 from (by omega)) (by decide)) dX5_drifts_34 ?_
            rw [nI_clamp (show k9 < 2 ^ 31 from Nat.lt_trans (show k9 < 11 from (by omega)) (by decide))]
            refine tpi (show (fA k9 : Int32) = nI (pp k9) from ef) ?_
            refine lv_i2l hx hb dX5_drifts_35 rfl ?_
            refine tpl (show ((nI (pp k9)).toInt64 : Int64) = lN (pp k9) from nI_l (by omega)) ?_
            refine lv_aload_n hx hb dX5_drifts_36 rfl (lv_at hl 1 rfl) ?_
            refine va_get (D := dd) (ci := 5) (C := RX5) (T := TX5) (N := 30) (v := .int (nI G)) hx hb hts hiX5 hown hK hP 0 rfl rfl 16 (by decide) (hts (.fieldLink RX5 133 "SliceDriftModel" "secondMany" "I") (by decide +kernel)) (fun _ h9 => h9) rfl dX5_drifts_37 ?_
            refine lv_i2l hx hb dX5_drifts_40 rfl ?_
            refine tpl (show ((nI G).toInt64 : Int64) = lN G from nI_l (by omega)) ?_
            refine lv_lmul hx hb dX5_drifts_41 ?_
            refine tpl (show ((lN (pp k9)) * (lN G) : Int64) = lN (pp k9 * G) from lN_mul _ _) ?_
            refine lv_aload_n hx hb dX5_drifts_42 rfl (lv_at hl 1 rfl) ?_
            refine va_get (D := dd) (ci := 5) (C := RX5) (T := TX5) (N := 30) (v := .ref (a 14)) hx hb hts hiX5 hown hK hP 0 rfl rfl 14 (by decide) (hts (.fieldLink RX5 45 "SliceDriftModel" "second" "[I") (by decide +kernel)) (fun _ h9 => h9) rfl dX5_drifts_43 ?_
            refine lv_iload_n hx hb dX5_drifts_46 rfl (lv_at hl 0 rfl) ?_
            refine va_iald hx hb hK hP 2 0 rfl rfl (i := nI k9) (vp_in_nI (show k9 < 11 from (by omega)) (by decide)) dX5_drifts_47 ?_
            rw [nI_clamp (show k9 < 2 ^ 31 from Nat.lt_trans (show k9 < 11 from (by omega)) (by decide))]
            refine tpi (show (gA k9 : Int32) = nI (qq k9) from eg) ?_
            refine lv_i2l hx hb dX5_drifts_48 rfl ?_
            refine tpl (show ((nI (qq k9)).toInt64 : Int64) = lN (qq k9) from nI_l (by omega)) ?_
            refine lv_aload_n hx hb dX5_drifts_49 rfl (lv_at hl 1 rfl) ?_
            refine va_get (D := dd) (ci := 5) (C := RX5) (T := TX5) (N := 30) (v := .int (nI F)) hx hb hts hiX5 hown hK hP 0 rfl rfl 15 (by decide) (hts (.fieldLink RX5 130 "SliceDriftModel" "firstMany" "I") (by decide +kernel)) (fun _ h9 => h9) rfl dX5_drifts_50 ?_
            refine lv_i2l hx hb dX5_drifts_53 rfl ?_
            refine tpl (show ((nI F).toInt64 : Int64) = lN F from nI_l (by omega)) ?_
            refine lv_lmul hx hb dX5_drifts_54 ?_
            refine tpl (show ((lN (qq k9)) * (lN F) : Int64) = lN (qq k9 * F) from lN_mul _ _) ?_
            refine lv_lsub hx hb dX5_drifts_55 ?_
            refine tpl (show ((lN (pp k9 * G)) - (lN (qq k9 * F)) : Int64) = lI (((pp k9 * G : Nat) : Int) - ((qq k9 * F : Nat) : Int)) from lsubI _ _) ?_
            obtain ⟨z, ez⟩ : ∃ z : Int, z = ((pp k9 * G : Nat) : Int) - ((qq k9 * F : Nat) : Int) := ⟨_, rfl⟩
            have hz : z.natAbs < 2 ^ 62 := by omega
            rw [← ez]
            refine lv_lstore_n (lv' := [(2, .long (lI z)), (1, .int (nI k9)), (0, .ref qm)]) hx hb dX5_drifts_56 rfl hl (by decide) rfl (fun ls hl => ?_)
            refine lv_aload_n hx hb dX5_drifts_57 rfl (lv_at hl 2 rfl) ?_
            refine lv_dup hx hb dX5_drifts_58 rfl ?_
            refine va_get (D := dd) (ci := 5) (C := RX5) (T := TX5) (N := 30) (v := .long (lN (dsg pp qq F G k9))) hx hb hts hiX5 hown hK hP 0 rfl rfl 17 (by decide) (hts (.fieldLink RX5 136 "SliceDriftModel" "above" "J") (by decide +kernel)) (fun _ h9 => h9) rfl dX5_drifts_59 ?_
            refine lv_lload_n hx hb dX5_drifts_62 rfl (lv_at hl 0 rfl) ?_
            refine lv_lconst (v := 0) hx hb dX5_drifts_63 (by decide) ?_
            refine W.lcmp hx hb dX5_drifts_64 ?_
            refine lv_if_ge (tgt := 73) hx hb dX5_drifts_65 (by decide) (fun q2 => ?_) (fun q2 => ?_)
            · refine lv_lload_n hx hb dX5_drifts_73 rfl (lv_at hl 0 rfl) ?_
              refine tpl (show (lI z : Int64) = lN z.natAbs from lpos_abs ((lI_ge hz).mp q2)) ?_
              refine lv_ladd hx hb dX5_drifts_74 ?_
              refine tpl (show ((lN (dsg pp qq F G k9)) + (lN z.natAbs) : Int64) = lN (dsg pp qq F G (k9 + 1)) from by rw [lN_add, ez]; rfl) ?_
              refine va_put (D := dd) (ci := 5) (v := .long (lN (dsg pp qq F G (k9 + 1)))) (ty := .long) (C := RX5) (T := TX5) (N := 30) hx hb hts hiX5 tyX5 tyX5_ok nmX5 hown hK hP hD hS 0 rfl rfl 17 (by decide) (hts (.fieldLink RX5 136 "SliceDriftModel" "above" "J") (by decide +kernel)) (fun _ h9 => h9) rfl (by decide +kernel) rfl rfl (Nat.le_of_ble_eq_true rfl) dX5_drifts_75 (fun H locs hP hD hS => ?_)
              have hP : va_P dd vwCl [(qm, .inr (5, mo a th ro li (nI F) (nI G) (lN (dsg pp qq F G (k9 + 1))) be st al)), (a 13, .inl (cyI, 11, .inl fA)), (a 14, .inl (cyI, 11, .inl gA))] H := hP
              have hD : va_D A [(qm, .inr (5, mo a th ro li (nI F) (nI G) (lN (dsg pp qq F G (k9 + 1))) be st al)), (a 13, .inl (cyI, 11, .inl fA)), (a 14, .inl (cyI, 11, .inl gA))] := hD
              refine lv_iinc (v := nI (k9 + 1)) (lv' := [(1, .int (nI (k9 + 1))), (2, .long (lI z)), (0, .ref qm)]) hx hb dX5_drifts_78 hl (k := 1) rfl (nI_1 k9) (by decide) rfl (fun ls hl => ?_)
              refine lv_goto (tgt := 23) hx hb dX5_drifts_81 (by decide) ?_
              exact ih (k9 + 1) H locs (by omega) hP hD hS ls (lv_sub hl [0, 2] rfl)
            · refine lv_lload_n hx hb dX5_drifts_68 rfl (lv_at hl 0 rfl) ?_
              refine lv_lneg hx hb dX5_drifts_69 ?_
              refine lv_goto (tgt := 74) hx hb dX5_drifts_70 (by decide) ?_
              refine tpl (show (-(lI z) : Int64) = lN z.natAbs from lneg_abs (Int.not_le.mp (fun h => q2 ((lI_ge hz).mpr h)))) ?_
              refine lv_ladd hx hb dX5_drifts_74 ?_
              refine tpl (show ((lN (dsg pp qq F G k9)) + (lN z.natAbs) : Int64) = lN (dsg pp qq F G (k9 + 1)) from by rw [lN_add, ez]; rfl) ?_
              refine va_put (D := dd) (ci := 5) (v := .long (lN (dsg pp qq F G (k9 + 1)))) (ty := .long) (C := RX5) (T := TX5) (N := 30) hx hb hts hiX5 tyX5 tyX5_ok nmX5 hown hK hP hD hS 0 rfl rfl 17 (by decide) (hts (.fieldLink RX5 136 "SliceDriftModel" "above" "J") (by decide +kernel)) (fun _ h9 => h9) rfl (by decide +kernel) rfl rfl (Nat.le_of_ble_eq_true rfl) dX5_drifts_75 (fun H locs hP hD hS => ?_)
              have hP : va_P dd vwCl [(qm, .inr (5, mo a th ro li (nI F) (nI G) (lN (dsg pp qq F G (k9 + 1))) be st al)), (a 13, .inl (cyI, 11, .inl fA)), (a 14, .inl (cyI, 11, .inl gA))] H := hP
              have hD : va_D A [(qm, .inr (5, mo a th ro li (nI F) (nI G) (lN (dsg pp qq F G (k9 + 1))) be st al)), (a 13, .inl (cyI, 11, .inl fA)), (a 14, .inl (cyI, 11, .inl gA))] := hD
              refine lv_iinc (v := nI (k9 + 1)) (lv' := [(1, .int (nI (k9 + 1))), (2, .long (lI z)), (0, .ref qm)]) hx hb dX5_drifts_78 hl (k := 1) rfl (nI_1 k9) (by decide) rfl (fun ls hl => ?_)
              refine lv_goto (tgt := 23) hx hb dX5_drifts_81 (by decide) ?_
              exact ih (k9 + 1) H locs (by omega) hP hD hS ls (lv_sub hl [0, 2] rfl)
      exact loop 11 0 H _ rfl hP hD hS ls (lv_sub hl [0, 1] rfl)
    · refine lv_iconst (v := 0) hx hb dX5_drifts_14 (by decide) ?_
      exact ewZ (ab, be) hx hb hr hlocks hAe hS dX5_drifts_15 rfl (Or.inl ⟨rfl, Or.inr ((nI_eq (b := 0) (by omega) (by decide)).mp q3), rfl⟩) (hP.sub [0, 1, 2] rfl) (hD.sub [0, 1, 2] (by decide) rfl)

def wgt (x z : Nat) : Nat := if x < z then 2 else if x = z then 1 else 0
def rsI (pp qq : Nat → Nat) (x : Nat) : Nat → Nat
  | 0 => 0
  | z + 1 => rsI pp qq x z + pp x * qq z * wgt x z
def rsO (pp qq : Nat → Nat) : Nat → Nat
  | 0 => 0
  | x + 1 => rsO pp qq x + rsI pp qq x 10

set_option maxHeartbeats 4000000 in
set_option maxRecDepth 100000 in
theorem r_riseOf (l : Launch) (dd : va_G) (cyI cyJ cyZ : ClassId) (qm : Nat) (a : Nat → Nat) (th ro li fm sm : Int32) (ab be : Int64) (st al : Int32) (pp qq : Nat → Nat) (fA gA : Nat → Int32) (hfA : ∀ k, k < 11 → fA k = nI (pp k) ∧ pp k ≤ 48) (hgA : ∀ k, k < 11 → gA k = nI (qq k) ∧ qq k ≤ 48) : Met l yX5_riseOf wsX5_riseOf ({ frames := 0, cells := 0, slots := 0, locals := 0 } : Room) (va_Pc [.ref qm] (Rd dd [(cyI, .int), (cyJ, .long), (cyZ, .boolean)] [(qm, .inr (5, mo a th ro li fm sm ab be st al)), (a 13, .inl (cyI, 11, .inl fA)), (a 14, .inl (cyI, 11, .inl gA))])) (vp_Si (fun r => r = nI (rsO pp qq 10))) 0 0 (fun _ => False) := by
  refine mkR (cc := cX5_riseOf) (maxL := 4) (by decide) rfl (Nat.le_of_ble_eq_true rfl) (lv0 := [(0, .ref qm)]) rfl ?_
  intro p e s m below meth c ls hx hb hr hml hown hlocks hts hN hP hK hl
  have hown : s.vm.findClass RX5 = some m.cls := hown
  have hiX5 : ∀ w ∈ wsX50, w ∈ wsX5_riseOf := by decide +kernel
  refine lv_iconst (v := 0) hx hb dX5_riseOf_0 (by decide) ?_
  refine lv_istore_n (lv' := [(1, .int 0), (0, .ref qm)]) hx hb dX5_riseOf_1 rfl hl (by decide) rfl (fun ls hl => ?_)
  refine lv_iconst (v := 0) hx hb dX5_riseOf_2 (by decide) ?_
  refine lv_istore_n (lv' := [(2, .int 0), (1, .int 0), (0, .ref qm)]) hx hb dX5_riseOf_3 rfl hl (by decide) rfl (fun ls hl => ?_)
  have loop : ∀ (k : Nat) (x : Nat), x + k = 10 → ∀ ls : Array Slot, lv_has ls 4 [(2, .int (nI x)), (1, .int (nI (rsO pp qq x))), (0, .ref qm)] → W p l e ({ frames := 0, cells := 0, slots := 0, locals := 0 } : Room) s m ([.ref qm] : List Value).toArray below meth c s.heap [] 0 0 (MQ below (vp_Si (fun r => r = nI (rsO pp qq 10))) ([.ref qm] : List Value).toArray s 0 0 (fun _ => False)) (F0 m 4 ls []) := by
    intro k
    induction k with
    | zero =>
      intro x hx9 ls hl
      refine lv_iload_n hx hb dX5_riseOf_4 rfl (lv_at hl 0 rfl) ?_
      refine lv_bipush (v := 10) hx hb dX5_riseOf_5 (by decide) ?_
      refine lv_icmp_ge (tgt := 66) hx hb dX5_riseOf_7 (by decide) (fun q => ?_) (fun q => ?_)
      · refine lv_iload_n hx hb dX5_riseOf_66 rfl (lv_at hl 1 rfl) ?_
        exact edI hx hb hr hlocks dX5_riseOf_67 (by rw [show x = 10 by omega])
      · exact absurd (nI_le (show 10 ≤ x by omega) (by omega)) q
    | succ k ih =>
      intro x hx9 ls hl
      refine lv_iload_n hx hb dX5_riseOf_4 rfl (lv_at hl 0 rfl) ?_
      refine lv_bipush (v := 10) hx hb dX5_riseOf_5 (by decide) ?_
      refine lv_icmp_ge (tgt := 66) hx hb dX5_riseOf_7 (by decide) (fun q => ?_) (fun q => ?_)
      · exact absurd q (nI_ge (show x < 10 by omega) (by decide))
      · refine lv_iconst (v := 0) hx hb dX5_riseOf_10 (by decide) ?_
        refine lv_istore_n (lv' := [(3, .int 0), (2, .int (nI x)), (1, .int (nI (rsO pp qq x))), (0, .ref qm)]) hx hb dX5_riseOf_11 rfl hl (by decide) rfl (fun ls hl => ?_)
        have loop2 : ∀ (k2 : Nat) (z : Nat), z + k2 = 10 → ∀ ls : Array Slot, lv_has ls 4 [(3, .int (nI z)), (1, .int (nI (rsO pp qq x + rsI pp qq x z))), (2, .int (nI x)), (0, .ref qm)] → W p l e ({ frames := 0, cells := 0, slots := 0, locals := 0 } : Room) s m ([.ref qm] : List Value).toArray below meth c s.heap [] 0 0 (MQ below (vp_Si (fun r => r = nI (rsO pp qq 10))) ([.ref qm] : List Value).toArray s 0 0 (fun _ => False)) (F0 m 12 ls []) := by
          intro k2
          induction k2 with
          | zero =>
            intro z hz9 ls hl
            refine lv_iload_n hx hb dX5_riseOf_12 rfl (lv_at hl 0 rfl) ?_
            refine lv_bipush (v := 10) hx hb dX5_riseOf_13 (by decide) ?_
            refine lv_icmp_ge (tgt := 60) hx hb dX5_riseOf_15 (by decide) (fun q2 => ?_) (fun q2 => ?_)
            · refine lv_iinc (v := nI (x + 1)) (lv' := [(2, .int (nI (x + 1))), (3, .int (nI z)), (1, .int (nI (rsO pp qq x + rsI pp qq x z))), (0, .ref qm)]) hx hb dX5_riseOf_60 hl (k := 2) rfl (nI_1 x) (by decide) rfl (fun ls hl => ?_)
              refine lv_goto (tgt := 4) hx hb dX5_riseOf_63 (by decide) ?_
              exact ih (x + 1) (by omega) ls (by rw [show z = 10 by omega] at hl; exact (lv_sub hl [0, 2, 3] rfl))
            · exact absurd (nI_le (show 10 ≤ z by omega) (by omega)) q2
          | succ k2 ih2 =>
            intro z hz9 ls hl
            refine lv_iload_n hx hb dX5_riseOf_12 rfl (lv_at hl 0 rfl) ?_
            refine lv_bipush (v := 10) hx hb dX5_riseOf_13 (by decide) ?_
            refine lv_icmp_ge (tgt := 60) hx hb dX5_riseOf_15 (by decide) (fun q2 => ?_) (fun q2 => ?_)
            · exact absurd q2 (nI_ge (show z < 10 by omega) (by decide))
            · obtain ⟨ef, -⟩ := hfA x (by omega)
              obtain ⟨eg, -⟩ := hgA z (by omega)
              refine lv_iload_n hx hb dX5_riseOf_18 rfl (lv_at hl 1 rfl) ?_
              refine lv_aload_n hx hb dX5_riseOf_19 rfl (lv_at hl 3 rfl) ?_
              refine va_get (D := dd) (ci := 5) (C := RX5) (T := TX5) (N := 30) (v := .ref (a 13)) hx hb hts hiX5 hown hK hP 0 rfl rfl 13 (by decide) (hts (.fieldLink RX5 42 "SliceDriftModel" "first" "[I") (by decide +kernel)) (fun _ h9 => h9) rfl dX5_riseOf_20 ?_
              refine lv_iload_n hx hb dX5_riseOf_23 rfl (lv_at hl 2 rfl) ?_
              refine va_iald hx hb hK hP 1 0 rfl rfl (i := nI x) (vp_in_nI (show x < 11 from (by omega)) (by decide)) dX5_riseOf_24 ?_
              rw [nI_clamp (show x < 2 ^ 31 from Nat.lt_trans (show x < 11 from (by omega)) (by decide))]
              refine tpi (show (fA x : Int32) = nI (pp x) from ef) ?_
              refine lv_aload_n hx hb dX5_riseOf_25 rfl (lv_at hl 3 rfl) ?_
              refine va_get (D := dd) (ci := 5) (C := RX5) (T := TX5) (N := 30) (v := .ref (a 14)) hx hb hts hiX5 hown hK hP 0 rfl rfl 14 (by decide) (hts (.fieldLink RX5 45 "SliceDriftModel" "second" "[I") (by decide +kernel)) (fun _ h9 => h9) rfl dX5_riseOf_26 ?_
              refine lv_iload_n hx hb dX5_riseOf_29 rfl (lv_at hl 0 rfl) ?_
              refine va_iald hx hb hK hP 2 0 rfl rfl (i := nI z) (vp_in_nI (show z < 11 from (by omega)) (by decide)) dX5_riseOf_30 ?_
              rw [nI_clamp (show z < 2 ^ 31 from Nat.lt_trans (show z < 11 from (by omega)) (by decide))]
              refine tpi (show (gA z : Int32) = nI (qq z) from eg) ?_
              refine lv_imul hx hb dX5_riseOf_31 ?_
              refine tpi (show ((nI (pp x)) * (nI (qq z)) : Int32) = nI (pp x * qq z) from pk_mul _ _) ?_
              refine lv_iload_n hx hb dX5_riseOf_32 rfl (lv_at hl 0 rfl) ?_
              refine lv_iload_n hx hb dX5_riseOf_33 rfl (lv_at hl 2 rfl) ?_
              refine lv_icmp_le (tgt := 41) hx hb dX5_riseOf_34 (by decide) (fun q3 => ?_) (fun q3 => ?_)
              · have hle : z ≤ x := (nI_leI (by omega) (by omega)).mp q3
                refine lv_iload_n hx hb dX5_riseOf_41 rfl (lv_at hl 0 rfl) ?_
                refine lv_iload_n hx hb dX5_riseOf_42 rfl (lv_at hl 2 rfl) ?_
                refine lv_icmp_ne (tgt := 50) hx hb dX5_riseOf_43 (by decide) (fun q4 => ?_) (fun q4 => ?_)
                · refine lv_iconst (v := 0) hx hb dX5_riseOf_50 (by decide) ?_
                  refine tpi (show (0 : Int32) = nI (wgt x z) from by rw [wgt, if_neg (by omega), if_neg (fun h => q4 (by rw [h]))]; rfl) ?_
                  refine lv_imul hx hb dX5_riseOf_51 ?_
                  refine tpi (show ((nI (pp x * qq z)) * (nI (wgt x z)) : Int32) = nI (pp x * qq z * wgt x z) from pk_mul _ _) ?_
                  refine lv_iadd hx hb dX5_riseOf_52 ?_
                  refine tpi (show ((nI (rsO pp qq x + rsI pp qq x z)) + (nI (pp x * qq z * wgt x z)) : Int32) = nI (rsO pp qq x + rsI pp qq x (z + 1)) from by rw [nI_add, Nat.add_assoc]; rfl) ?_
                  refine lv_istore_n (lv' := [(1, .int (nI (rsO pp qq x + rsI pp qq x (z + 1)))), (3, .int (nI z)), (2, .int (nI x)), (0, .ref qm)]) hx hb dX5_riseOf_53 rfl hl (by decide) rfl (fun ls hl => ?_)
                  refine lv_iinc (v := nI (z + 1)) (lv' := [(3, .int (nI (z + 1))), (1, .int (nI (rsO pp qq x + rsI pp qq x (z + 1)))), (2, .int (nI x)), (0, .ref qm)]) hx hb dX5_riseOf_54 hl (k := 1) rfl (nI_1 z) (by decide) rfl (fun ls hl => ?_)
                  refine lv_goto (tgt := 12) hx hb dX5_riseOf_57 (by decide) ?_
                  exact ih2 (z + 1) (by omega) ls (lv_sub hl [0, 1, 2, 3] rfl)
                · refine lv_iconst (v := 1) hx hb dX5_riseOf_46 (by decide) ?_
                  refine lv_goto (tgt := 51) hx hb dX5_riseOf_47 (by decide) ?_
                  refine tpi (show (1 : Int32) = nI (wgt x z) from by rw [wgt, if_neg (by omega), if_pos ((nI_eq (by omega) (by omega)).mp q4).symm]; rfl) ?_
                  refine lv_imul hx hb dX5_riseOf_51 ?_
                  refine tpi (show ((nI (pp x * qq z)) * (nI (wgt x z)) : Int32) = nI (pp x * qq z * wgt x z) from pk_mul _ _) ?_
                  refine lv_iadd hx hb dX5_riseOf_52 ?_
                  refine tpi (show ((nI (rsO pp qq x + rsI pp qq x z)) + (nI (pp x * qq z * wgt x z)) : Int32) = nI (rsO pp qq x + rsI pp qq x (z + 1)) from by rw [nI_add, Nat.add_assoc]; rfl) ?_
                  refine lv_istore_n (lv' := [(1, .int (nI (rsO pp qq x + rsI pp qq x (z + 1)))), (3, .int (nI z)), (2, .int (nI x)), (0, .ref qm)]) hx hb dX5_riseOf_53 rfl hl (by decide) rfl (fun ls hl => ?_)
                  refine lv_iinc (v := nI (z + 1)) (lv' := [(3, .int (nI (z + 1))), (1, .int (nI (rsO pp qq x + rsI pp qq x (z + 1)))), (2, .int (nI x)), (0, .ref qm)]) hx hb dX5_riseOf_54 hl (k := 1) rfl (nI_1 z) (by decide) rfl (fun ls hl => ?_)
                  refine lv_goto (tgt := 12) hx hb dX5_riseOf_57 (by decide) ?_
                  exact ih2 (z + 1) (by omega) ls (lv_sub hl [0, 1, 2, 3] rfl)
              · have hgt : x < z := Nat.lt_of_not_le (fun h => q3 (nI_le h (by omega)))
                refine lv_iconst (v := 2) hx hb dX5_riseOf_37 (by decide) ?_
                refine lv_goto (tgt := 51) hx hb dX5_riseOf_38 (by decide) ?_
                refine tpi (show (2 : Int32) = nI (wgt x z) from by rw [wgt, if_pos hgt]; rfl) ?_
                refine lv_imul hx hb dX5_riseOf_51 ?_
                refine tpi (show ((nI (pp x * qq z)) * (nI (wgt x z)) : Int32) = nI (pp x * qq z * wgt x z) from pk_mul _ _) ?_
                refine lv_iadd hx hb dX5_riseOf_52 ?_
                refine tpi (show ((nI (rsO pp qq x + rsI pp qq x z)) + (nI (pp x * qq z * wgt x z)) : Int32) = nI (rsO pp qq x + rsI pp qq x (z + 1)) from by rw [nI_add, Nat.add_assoc]; rfl) ?_
                refine lv_istore_n (lv' := [(1, .int (nI (rsO pp qq x + rsI pp qq x (z + 1)))), (3, .int (nI z)), (2, .int (nI x)), (0, .ref qm)]) hx hb dX5_riseOf_53 rfl hl (by decide) rfl (fun ls hl => ?_)
                refine lv_iinc (v := nI (z + 1)) (lv' := [(3, .int (nI (z + 1))), (1, .int (nI (rsO pp qq x + rsI pp qq x (z + 1)))), (2, .int (nI x)), (0, .ref qm)]) hx hb dX5_riseOf_54 hl (k := 1) rfl (nI_1 z) (by decide) rfl (fun ls hl => ?_)
                refine lv_goto (tgt := 12) hx hb dX5_riseOf_57 (by decide) ?_
                exact ih2 (z + 1) (by omega) ls (lv_sub hl [0, 1, 2, 3] rfl)
        exact loop2 10 0 rfl ls (lv_sub hl [0, 2, 1, 3] rfl)
  exact loop 10 0 rfl ls (lv_sub hl [0, 1, 2] rfl)

set_option maxHeartbeats 4000000 in
set_option maxRecDepth 100000 in
theorem r_thrown (l : Launch) (dd : va_G) (cyI cyJ cyZ : ClassId) (qm : Nat) (a : Nat → Nat) (th ro li fm sm : Int32) (ab be : Int64) (st al : Int32) : Met l yX5_thrown wsX5_thrown ({ frames := 0, cells := 0, slots := 0, locals := 0 } : Room) (va_Pc [.ref qm] (Rd dd [(cyI, .int), (cyJ, .long), (cyZ, .boolean)] [(qm, .inr (5, mo a th ro li fm sm ab be st al))])) (vp_Si (fun r => r = th)) 0 0 (fun _ => False) := by
  refine mkR (cc := cX5_thrown) (maxL := 1) (by decide) rfl (Nat.le_of_ble_eq_true rfl) (lv0 := [(0, .ref qm)]) rfl ?_
  intro p e s m below meth c ls hx hb hr hml hown hlocks hts hN hP hK hl
  have hown : s.vm.findClass RX5 = some m.cls := hown
  have hiX5 : ∀ w ∈ wsX50, w ∈ wsX5_thrown := by decide +kernel
  refine lv_aload_n hx hb dX5_thrown_0 rfl (lv_at hl 0 rfl) ?_
  refine va_get (D := dd) (ci := 5) (C := RX5) (T := TX5) (N := 30) (v := .int th) hx hb hts hiX5 hown hK hP 0 rfl rfl 0 (by decide) (hts (.fieldLink RX5 75 "SliceDriftModel" "thrown" "I") (by decide +kernel)) (fun _ h9 => h9) rfl dX5_thrown_1 ?_
  exact edI hx hb hr hlocks dX5_thrown_4 rfl
