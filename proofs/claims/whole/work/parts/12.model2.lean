theorem cnt_y {f : Nat → Bool} {i : Nat} (hf : f i = true) : cnt f (i + 1) = cnt f i + 1 := by
  simp only [cnt]
  rw [if_pos hf]
theorem cnt_n {f : Nat → Bool} {i : Nat} (hf : f i = false) : cnt f (i + 1) = cnt f i := by
  simp only [cnt]
  rw [if_neg (by rw [hf]; decide), Nat.add_zero]
theorem cs_y {f : Nat → Bool} {sI : Nat → Int32} {co i k k0 : Nat} (hk : k < 11) (h0 : k0 < 11) (e : sI (5 * i + co) = nI k0) (hf : f i = true) : cs f sI co (i + 1) k = cs f sI co i k + (if k = k0 then 1 else 0) := by
  have : hav sI co k i = decide (k = k0) := by
    unfold hav
    rw [e]
    by_cases q : k = k0
    · subst q; simp
    · rw [decide_eq_false (nI_ne (by omega) (by omega) (Ne.symm q)), decide_eq_false q]
  unfold cs
  by_cases q : k = k0
  · rw [if_pos q]
    exact cnt_y (by show (hav sI co k i && f i) = true; rw [this, hf, decide_eq_true q]; rfl)
  · rw [if_neg q, Nat.add_zero]
    exact cnt_n (by show (hav sI co k i && f i) = false; rw [this, decide_eq_false q]; rfl)
theorem cs_n {f : Nat → Bool} {sI : Nat → Int32} {co i k : Nat} (hf : f i = false) : cs f sI co (i + 1) k = cs f sI co i k := cnt_n (by show (hav sI co k i && f i) = false; rw [hf, Bool.and_false])
theorem cnts_y {f : Nat → Bool} {sI fA : Nat → Int32} {co i k0 : Nat} (h0 : k0 < 11) (e : sI (5 * i + co) = nI k0) (hf : f i = true) (h : ∀ k, k < 11 → fA k = nI (cs f sI co i k)) : ∀ k, k < 11 → upd fA k0 (fA k0 + 1) k = nI (cs f sI co (i + 1) k) := by
  intro k hk
  rw [cs_y hk h0 e hf]
  by_cases q : k = k0
  · subst q
    rw [pk_us, h k hk, if_pos rfl, nI_1]
  · rw [pk_un q, h k hk, if_neg q, Nat.add_zero]
theorem cnts_n {f : Nat → Bool} {sI fA : Nat → Int32} {co i : Nat} (hf : f i = false) (h : ∀ k, k < 11 → fA k = nI (cs f sI co i k)) : ∀ k, k < 11 → fA k = nI (cs f sI co (i + 1) k) := by
  intro k hk
  rw [cs_n hf]
  exact h k hk

set_option maxHeartbeats 4000000 in
set_option maxRecDepth 100000 in
theorem r_counts (l : Launch) (dd : va_G) (cyI cyJ cyZ : ClassId) (qm : Nat) (a : Nat → Nat) (th li fm sm : Int32) (ab be : Int64) (st al : Int32) (n : Nat) (hn : n ≤ 48) (tI sI fA gA : Nat → Int32) (co : Nat) (hco : co < 5) (hSo : ∀ i, i < n → ∃ k, k < 11 ∧ sI (5 * i + co) = nI k) (f1 f2 g1 g2 : Int32) (sz : Nat) : Met l yX5_counts wsX5_counts ({ frames := 1, cells := 0, slots := 0, locals := 23 } : Room) (va_Pc [.ref qm, .int (nI co), .int f1, .int f2, .int g1, .int g2] (Wr dd [(cyI, .int), (cyJ, .long), (cyZ, .boolean)] [(qm, .inr (5, mo a th (nI n) li fm sm ab be st al)), (a 2, .inl (cyI, 48, .inl tI)), (a 4, .inl (cyI, 240, .inl sI)), (a 13, .inl (cyI, 11, .inl fA)), (a 14, .inl (cyI, 11, .inl gA))] sz)) (va_Qv (S := (Nat → Int32) × (Nat → Int32)) (fun (u : (Nat → Int32) × (Nat → Int32)) => ∀ k, k < 11 → u.1 k = nI (cs (win tI f1 f2) sI co n k) ∧ u.2 k = nI (cs (win tI g1 g2) sI co n k)) (WQ dd [(qm, .inr (5, mo a th (nI n) li fm sm ab be st al)), (a 2, .inl (cyI, 48, .inl tI)), (a 4, .inl (cyI, 240, .inl sI)), (a 13, .inl (cyI, 11, .inl fA)), (a 14, .inl (cyI, 11, .inl gA))] sz (fun u => [(qm, .inr (5, mo a th (nI n) li (nI (cnt (win tI f1 f2) n)) (nI (cnt (win tI g1 g2) n)) ab be st al)), (a 2, .inl (cyI, 48, .inl tI)), (a 4, .inl (cyI, 240, .inl sI)), (a 13, .inl (cyI, 11, .inl u.1)), (a 14, .inl (cyI, 11, .inl u.2))])) (va_A [(qm, .inr (5, mo a th (nI n) li fm sm ab be st al)), (a 2, .inl (cyI, 48, .inl tI)), (a 4, .inl (cyI, 240, .inl sI)), (a 13, .inl (cyI, 11, .inl fA)), (a 14, .inl (cyI, 11, .inl gA))] sz)) 0 0 (va_A [(qm, .inr (5, mo a th (nI n) li fm sm ab be st al)), (a 2, .inl (cyI, 48, .inl tI)), (a 4, .inl (cyI, 240, .inl sI)), (a 13, .inl (cyI, 11, .inl fA)), (a 14, .inl (cyI, 11, .inl gA))] sz) := by
  refine mkW (Qc := fun A => (va_Qv (S := (Nat → Int32) × (Nat → Int32)) (fun (u : (Nat → Int32) × (Nat → Int32)) => ∀ k, k < 11 → u.1 k = nI (cs (win tI f1 f2) sI co n k) ∧ u.2 k = nI (cs (win tI g1 g2) sI co n k)) (WQ dd [(qm, .inr (5, mo a th (nI n) li fm sm ab be st al)), (a 2, .inl (cyI, 48, .inl tI)), (a 4, .inl (cyI, 240, .inl sI)), (a 13, .inl (cyI, 11, .inl fA)), (a 14, .inl (cyI, 11, .inl gA))] sz (fun u => [(qm, .inr (5, mo a th (nI n) li (nI (cnt (win tI f1 f2) n)) (nI (cnt (win tI g1 g2) n)) ab be st al)), (a 2, .inl (cyI, 48, .inl tI)), (a 4, .inl (cyI, 240, .inl sI)), (a 13, .inl (cyI, 11, .inl u.1)), (a 14, .inl (cyI, 11, .inl u.2))])) A)) (cc := cX5_counts) (maxL := 8) (by decide) rfl (Nat.le_of_ble_eq_true rfl) (lv0 := [(0, .ref qm), (1, .int (nI co)), (2, .int f1), (3, .int f2), (4, .int g1), (5, .int g2)]) rfl ?_
  intro p e s m below meth c ls H A hx hb hr hml hown hlocks hts hmn hN hP hK hD hS hA hAe hl
  have hown : s.vm.findClass RX5 = some m.cls := hown
  have hiX5 : ∀ w ∈ wsX50, w ∈ wsX5_counts := by decide +kernel
  obtain ⟨f, ef⟩ : ∃ f, f = win tI f1 f2 := ⟨_, rfl⟩
  obtain ⟨g, eg⟩ : ∃ g, g = win tI g1 g2 := ⟨_, rfl⟩
  rw [← ef, ← eg]
  have loop2 : ∀ (k9 : Nat) (i : Nat) (fB gB : Nat → Int32) (H : Heap) (locs : List Loc), i + k9 = n → (∀ k, k < 11 → fB k = nI (cs f sI co i k)) → (∀ k, k < 11 → gB k = nI (cs g sI co i k)) → va_P dd vwCl [(qm, .inr (5, mo a th (nI n) li (nI (cnt f i)) (nI (cnt g i)) ab be st al)), (a 2, .inl (cyI, 48, .inl tI)), (a 4, .inl (cyI, 240, .inl sI)), (a 13, .inl (cyI, 11, .inl fB)), (a 14, .inl (cyI, 11, .inl gB))] H → va_D A [(qm, .inr (5, mo a th (nI n) li (nI (cnt f i)) (nI (cnt g i)) ab be st al)), (a 2, .inl (cyI, 48, .inl tI)), (a 4, .inl (cyI, 240, .inl sI)), (a 13, .inl (cyI, 11, .inl fB)), (a 14, .inl (cyI, 11, .inl gB))] → va_S A s.heap H locs → ∀ ls : Array Slot, lv_has ls 8 [(6, .int (nI i)), (0, .ref qm), (1, .int (nI co)), (2, .int f1), (3, .int f2), (4, .int g1), (5, .int g2)] → W p l e ({ frames := 1, cells := 0, slots := 0, locals := 23 } : Room) s m ([.ref qm, .int (nI co), .int f1, .int f2, .int g1, .int g2] : List Value).toArray below meth c H locs 0 0 (MQ below (va_Qv (S := (Nat → Int32) × (Nat → Int32)) (fun (u : (Nat → Int32) × (Nat → Int32)) => ∀ k, k < 11 → u.1 k = nI (cs f sI co n k) ∧ u.2 k = nI (cs g sI co n k)) (WQ dd [(qm, .inr (5, mo a th (nI n) li fm sm ab be st al)), (a 2, .inl (cyI, 48, .inl tI)), (a 4, .inl (cyI, 240, .inl sI)), (a 13, .inl (cyI, 11, .inl fA)), (a 14, .inl (cyI, 11, .inl gA))] sz (fun u => [(qm, .inr (5, mo a th (nI n) li (nI (cnt f n)) (nI (cnt g n)) ab be st al)), (a 2, .inl (cyI, 48, .inl tI)), (a 4, .inl (cyI, 240, .inl sI)), (a 13, .inl (cyI, 11, .inl u.1)), (a 14, .inl (cyI, 11, .inl u.2))])) A) ([.ref qm, .int (nI co), .int f1, .int f2, .int g1, .int g2] : List Value).toArray s 0 0 A) (F0 m 45 ls []) := by
    intro k9
    induction k9 with
    | zero =>
      intro i fB gB H locs hi9 hf9 hg9 hP hD hS ls hl
      refine lv_iload hx hb dX5_counts_45 (lv_at hl 0 rfl) ?_
      refine lv_aload_n hx hb dX5_counts_47 rfl (lv_at hl 1 rfl) ?_
      refine va_get (D := dd) (ci := 5) (C := RX5) (T := TX5) (N := 30) (v := .int (nI n)) hx hb hts hiX5 hown hK hP 0 rfl rfl 1 (by decide) (hts (.fieldLink RX5 84 "SliceDriftModel" "rows" "I") (by decide +kernel)) (fun _ h9 => h9) rfl dX5_counts_48 ?_
      refine lv_icmp_ge (tgt := 139) hx hb dX5_counts_51 (by decide) (fun q => ?_) (fun q => ?_)
      · have hin : i = n := by omega
        subst hin
        exact ewV (fB, gB) hx hb hr hlocks hAe hS dX5_counts_139 (fun k hk => ⟨hf9 k hk, hg9 k hk⟩) (hP.sub [0, 1, 2, 3, 4] rfl) (hD.sub [0, 1, 2, 3, 4] (by decide) rfl)
      · exact absurd (nI_le (show n ≤ i by omega) (by omega)) q
    | succ k9 ih =>
      intro i fB gB H locs hi9 hf9 hg9 hP hD hS ls hl
      refine lv_iload hx hb dX5_counts_45 (lv_at hl 0 rfl) ?_
      refine lv_aload_n hx hb dX5_counts_47 rfl (lv_at hl 1 rfl) ?_
      refine va_get (D := dd) (ci := 5) (C := RX5) (T := TX5) (N := 30) (v := .int (nI n)) hx hb hts hiX5 hown hK hP 0 rfl rfl 1 (by decide) (hts (.fieldLink RX5 84 "SliceDriftModel" "rows" "I") (by decide +kernel)) (fun _ h9 => h9) rfl dX5_counts_48 ?_
      refine lv_icmp_ge (tgt := 139) hx hb dX5_counts_51 (by decide) (fun q => ?_) (fun q => ?_)
      · exact absurd q (nI_ge (show i < n by omega) (by omega))
      · obtain ⟨k0, hk0, e0⟩ := hSo i (by omega)
        refine lv_aload_n hx hb dX5_counts_54 rfl (lv_at hl 1 rfl) ?_
        refine va_get (D := dd) (ci := 5) (C := RX5) (T := TX5) (N := 30) (v := .ref (a 4)) hx hb hts hiX5 hown hK hP 0 rfl rfl 4 (by decide) (hts (.fieldLink RX5 17 "SliceDriftModel" "sort" "[I") (by decide +kernel)) (fun _ h9 => h9) rfl dX5_counts_55 ?_
        refine lv_iconst (v := 5) hx hb dX5_counts_58 (by decide) ?_
        refine lv_iload hx hb dX5_counts_59 (lv_at hl 0 rfl) ?_
        refine lv_imul hx hb dX5_counts_61 ?_
        refine lv_iload_n hx hb dX5_counts_62 rfl (lv_at hl 2 rfl) ?_
        refine lv_iadd hx hb dX5_counts_63 ?_
        refine tpi (show ((5 * (nI i)) + (nI co) : Int32) = nI (5 * i + co) from by rw [show (5 : Int32) = nI 5 from rfl, pk_mul, nI_add]) ?_
        refine va_iald hx hb hK hP 2 0 rfl rfl (i := nI (5 * i + co)) (vp_in_nI (show (5 * i + co) < 240 from (by omega)) (by decide)) dX5_counts_64 ?_
        rw [nI_clamp (show (5 * i + co) < 2 ^ 31 from Nat.lt_trans (show (5 * i + co) < 240 from (by omega)) (by decide))]
        refine tpi (show (sI (5 * i + co) : Int32) = nI k0 from e0) ?_
        refine lv_istore (lv' := [(7, .int (nI k0)), (6, .int (nI i)), (0, .ref qm), (1, .int (nI co)), (2, .int f1), (3, .int f2), (4, .int g1), (5, .int g2)]) hx hb dX5_counts_65 hl (by decide) rfl (fun ls hl => ?_)
        refine lv_aload_n hx hb dX5_counts_67 rfl (lv_at hl 2 rfl) ?_
        refine lv_iload hx hb dX5_counts_68 (lv_at hl 1 rfl) ?_
        refine lv_iload_n hx hb dX5_counts_70 rfl (lv_at hl 4 rfl) ?_
        refine lv_iload_n hx hb dX5_counts_71 rfl (lv_at hl 5 rfl) ?_
        refine clVi (As := [.int (nI i), .int f1, .int f2]) (rest := []) (b := qm) (vc := (RX5, TX5, 30)) ⟨hx, hb, hml, hown, hts⟩ (r_isIn l dd cyI cyJ cyZ qm a th (nI n) li _ _ ab be st al tI i (by omega) f1 f2) gX5_counts_X5_isIn (ci := 5) rfl (q0 := 0) rfl (n := 3) rfl ⟨rfl, rfl⟩ (by decide +kernel) ⟨Nat.le_of_ble_eq_true rfl, Nat.le_of_ble_eq_true rfl⟩ hN hK (hP.sub [0, 1] rfl) rfl hl.1 rfl (Nat.le_of_ble_eq_true rfl) dX5_counts_72 ⟨Nat.le_of_ble_eq_true rfl, Nat.le_of_ble_eq_true rfl⟩ (fun b1 hb1 => ?_)
        rw [← ef] at hb1
        refine lv_if_eq (tgt := 99) hx hb dX5_counts_75 (by decide) (fun q1 => ?_) (fun q1 => ?_)
        · have f0 : f i = false := (Bool.not_eq_true _).mp (fun h => by rw [if_pos h] at hb1; exact absurd (hb1.symm.trans q1) (by decide))
          refine lv_aload_n hx hb dX5_counts_99 rfl (lv_at hl 2 rfl) ?_
          refine lv_iload hx hb dX5_counts_100 (lv_at hl 1 rfl) ?_
          refine lv_iload hx hb dX5_counts_102 (lv_at hl 6 rfl) ?_
          refine lv_iload hx hb dX5_counts_104 (lv_at hl 7 rfl) ?_
          refine clVi (As := [.int (nI i), .int g1, .int g2]) (rest := []) (b := qm) (vc := (RX5, TX5, 30)) ⟨hx, hb, hml, hown, hts⟩ (r_isIn l dd cyI cyJ cyZ qm a th (nI n) li _ _ ab be st al tI i (by omega) g1 g2) gX5_counts_X5_isIn (ci := 5) rfl (q0 := 0) rfl (n := 3) rfl ⟨rfl, rfl⟩ (by decide +kernel) ⟨Nat.le_of_ble_eq_true rfl, Nat.le_of_ble_eq_true rfl⟩ hN hK (hP.sub [0, 1] rfl) rfl hl.1 rfl (Nat.le_of_ble_eq_true rfl) dX5_counts_106 ⟨Nat.le_of_ble_eq_true rfl, Nat.le_of_ble_eq_true rfl⟩ (fun b2 hb2 => ?_)
          rw [← eg] at hb2
          refine lv_if_eq (tgt := 133) hx hb dX5_counts_109 (by decide) (fun q2 => ?_) (fun q2 => ?_)
          · have g0 : g i = false := (Bool.not_eq_true _).mp (fun h => by rw [if_pos h] at hb2; exact absurd (hb2.symm.trans q2) (by decide))
            refine lv_iinc (v := nI (i + 1)) (lv' := [(6, .int (nI (i + 1))), (7, .int (nI k0)), (0, .ref qm), (1, .int (nI co)), (2, .int f1), (3, .int f2), (4, .int g1), (5, .int g2)]) hx hb dX5_counts_133 hl (k := 1) rfl (nI_1 i) (by decide) rfl (fun ls hl => ?_)
            refine lv_goto (tgt := 45) hx hb dX5_counts_136 (by decide) ?_
            exact ih (i + 1) fB gB H locs (by omega) (cnts_n f0 hf9) (cnts_n g0 hg9) (by rw [cnt_n f0, cnt_n g0]; exact hP) (by rw [cnt_n f0, cnt_n g0]; exact hD) hS ls (lv_sub hl [0, 2, 3, 4, 5, 6, 7] rfl)
          · have g0 : g i = true := (Bool.not_eq_false _).mp (fun h => q2 (by rw [hb2, if_neg (by rw [h]; decide)]))
            refine lv_aload_n hx hb dX5_counts_112 rfl (lv_at hl 2 rfl) ?_
            refine va_get (D := dd) (ci := 5) (C := RX5) (T := TX5) (N := 30) (v := .ref (a 14)) hx hb hts hiX5 hown hK hP 0 rfl rfl 14 (by decide) (hts (.fieldLink RX5 45 "SliceDriftModel" "second" "[I") (by decide +kernel)) (fun _ h9 => h9) rfl dX5_counts_113 ?_
            refine lv_iload hx hb dX5_counts_116 (lv_at hl 0 rfl) ?_
            refine lv_dup2_11 hx hb dX5_counts_118 rfl rfl ?_
            refine va_iald hx hb hK hP 4 0 rfl rfl (i := nI k0) (vp_in_nI (show k0 < 11 from hk0) (by decide)) dX5_counts_119 ?_
            rw [nI_clamp (show k0 < 2 ^ 31 from Nat.lt_trans (show k0 < 11 from hk0) (by decide))]
            refine lv_iconst (v := 1) hx hb dX5_counts_120 (by decide) ?_
            refine lv_iadd hx hb dX5_counts_121 ?_
            refine va_iast hx hb hK hP hD hS 4 0 rfl rfl (i := nI k0) (vp_in_nI (show k0 < 11 from hk0) (by decide)) dX5_counts_122 (fun H locs hP hD hS => ?_)
            rw [nI_clamp (show k0 < 2 ^ 31 from Nat.lt_trans (show k0 < 11 from hk0) (by decide))] at hP hD
            have hP : va_P dd vwCl [(qm, .inr (5, mo a th (nI n) li (nI (cnt f i)) (nI (cnt g i)) ab be st al)), (a 2, .inl (cyI, 48, .inl tI)), (a 4, .inl (cyI, 240, .inl sI)), (a 13, .inl (cyI, 11, .inl fB)), (a 14, .inl (cyI, 11, .inl (upd gB k0 ((gB k0) + 1))))] H := hP
            have hD : va_D A [(qm, .inr (5, mo a th (nI n) li (nI (cnt f i)) (nI (cnt g i)) ab be st al)), (a 2, .inl (cyI, 48, .inl tI)), (a 4, .inl (cyI, 240, .inl sI)), (a 13, .inl (cyI, 11, .inl fB)), (a 14, .inl (cyI, 11, .inl (upd gB k0 ((gB k0) + 1))))] := hD
            refine lv_aload_n hx hb dX5_counts_123 rfl (lv_at hl 2 rfl) ?_
            refine lv_dup hx hb dX5_counts_124 rfl ?_
            refine va_get (D := dd) (ci := 5) (C := RX5) (T := TX5) (N := 30) (v := .int (nI (cnt g i))) hx hb hts hiX5 hown hK hP 0 rfl rfl 16 (by decide) (hts (.fieldLink RX5 133 "SliceDriftModel" "secondMany" "I") (by decide +kernel)) (fun _ h9 => h9) rfl dX5_counts_125 ?_
            refine lv_iconst (v := 1) hx hb dX5_counts_128 (by decide) ?_
            refine lv_iadd hx hb dX5_counts_129 ?_
            refine tpi (show ((nI (cnt g i)) + 1 : Int32) = nI (cnt g i + 1) from nI_1 _) ?_
            refine va_put (D := dd) (ci := 5) (v := .int (nI (cnt g i + 1))) (ty := .int) (C := RX5) (T := TX5) (N := 30) hx hb hts hiX5 tyX5 tyX5_ok nmX5 hown hK hP hD hS 0 rfl rfl 16 (by decide) (hts (.fieldLink RX5 133 "SliceDriftModel" "secondMany" "I") (by decide +kernel)) (fun _ h9 => h9) rfl (by decide +kernel) rfl rfl (Nat.le_of_ble_eq_true rfl) dX5_counts_130 (fun H locs hP hD hS => ?_)
            have hP : va_P dd vwCl [(qm, .inr (5, mo a th (nI n) li (nI (cnt f i)) (nI (cnt g i + 1)) ab be st al)), (a 2, .inl (cyI, 48, .inl tI)), (a 4, .inl (cyI, 240, .inl sI)), (a 13, .inl (cyI, 11, .inl fB)), (a 14, .inl (cyI, 11, .inl (upd gB k0 ((gB k0) + 1))))] H := hP
            have hD : va_D A [(qm, .inr (5, mo a th (nI n) li (nI (cnt f i)) (nI (cnt g i + 1)) ab be st al)), (a 2, .inl (cyI, 48, .inl tI)), (a 4, .inl (cyI, 240, .inl sI)), (a 13, .inl (cyI, 11, .inl fB)), (a 14, .inl (cyI, 11, .inl (upd gB k0 ((gB k0) + 1))))] := hD
            refine lv_iinc (v := nI (i + 1)) (lv' := [(6, .int (nI (i + 1))), (7, .int (nI k0)), (0, .ref qm), (1, .int (nI co)), (2, .int f1), (3, .int f2), (4, .int g1), (5, .int g2)]) hx hb dX5_counts_133 hl (k := 1) rfl (nI_1 i) (by decide) rfl (fun ls hl => ?_)
            refine lv_goto (tgt := 45) hx hb dX5_counts_136 (by decide) ?_
            exact ih (i + 1) fB (upd gB k0 (gB k0 + 1)) H locs (by omega) (cnts_n f0 hf9) (cnts_y hk0 e0 g0 hg9) (by rw [cnt_n f0, cnt_y g0]; exact hP) (by rw [cnt_n f0, cnt_y g0]; exact hD) hS ls (lv_sub hl [0, 2, 3, 4, 5, 6, 7] rfl)
        · have f0 : f i = true := (Bool.not_eq_false _).mp (fun h => q1 (by rw [hb1, if_neg (by rw [h]; decide)]))
          refine lv_aload_n hx hb dX5_counts_78 rfl (lv_at hl 2 rfl) ?_
          refine va_get (D := dd) (ci := 5) (C := RX5) (T := TX5) (N := 30) (v := .ref (a 13)) hx hb hts hiX5 hown hK hP 0 rfl rfl 13 (by decide) (hts (.fieldLink RX5 42 "SliceDriftModel" "first" "[I") (by decide +kernel)) (fun _ h9 => h9) rfl dX5_counts_79 ?_
          refine lv_iload hx hb dX5_counts_82 (lv_at hl 0 rfl) ?_
          refine lv_dup2_11 hx hb dX5_counts_84 rfl rfl ?_
          refine va_iald hx hb hK hP 3 0 rfl rfl (i := nI k0) (vp_in_nI (show k0 < 11 from hk0) (by decide)) dX5_counts_85 ?_
          rw [nI_clamp (show k0 < 2 ^ 31 from Nat.lt_trans (show k0 < 11 from hk0) (by decide))]
          refine lv_iconst (v := 1) hx hb dX5_counts_86 (by decide) ?_
          refine lv_iadd hx hb dX5_counts_87 ?_
          refine va_iast hx hb hK hP hD hS 3 0 rfl rfl (i := nI k0) (vp_in_nI (show k0 < 11 from hk0) (by decide)) dX5_counts_88 (fun H locs hP hD hS => ?_)
          rw [nI_clamp (show k0 < 2 ^ 31 from Nat.lt_trans (show k0 < 11 from hk0) (by decide))] at hP hD
          have hP : va_P dd vwCl [(qm, .inr (5, mo a th (nI n) li (nI (cnt f i)) (nI (cnt g i)) ab be st al)), (a 2, .inl (cyI, 48, .inl tI)), (a 4, .inl (cyI, 240, .inl sI)), (a 13, .inl (cyI, 11, .inl (upd fB k0 ((fB k0) + 1)))), (a 14, .inl (cyI, 11, .inl gB))] H := hP
          have hD : va_D A [(qm, .inr (5, mo a th (nI n) li (nI (cnt f i)) (nI (cnt g i)) ab be st al)), (a 2, .inl (cyI, 48, .inl tI)), (a 4, .inl (cyI, 240, .inl sI)), (a 13, .inl (cyI, 11, .inl (upd fB k0 ((fB k0) + 1)))), (a 14, .inl (cyI, 11, .inl gB))] := hD
          refine lv_aload_n hx hb dX5_counts_89 rfl (lv_at hl 2 rfl) ?_
          refine lv_dup hx hb dX5_counts_90 rfl ?_
          refine va_get (D := dd) (ci := 5) (C := RX5) (T := TX5) (N := 30) (v := .int (nI (cnt f i))) hx hb hts hiX5 hown hK hP 0 rfl rfl 15 (by decide) (hts (.fieldLink RX5 130 "SliceDriftModel" "firstMany" "I") (by decide +kernel)) (fun _ h9 => h9) rfl dX5_counts_91 ?_
          refine lv_iconst (v := 1) hx hb dX5_counts_94 (by decide) ?_
          refine lv_iadd hx hb dX5_counts_95 ?_
          refine tpi (show ((nI (cnt f i)) + 1 : Int32) = nI (cnt f i + 1) from nI_1 _) ?_
          refine va_put (D := dd) (ci := 5) (v := .int (nI (cnt f i + 1))) (ty := .int) (C := RX5) (T := TX5) (N := 30) hx hb hts hiX5 tyX5 tyX5_ok nmX5 hown hK hP hD hS 0 rfl rfl 15 (by decide) (hts (.fieldLink RX5 130 "SliceDriftModel" "firstMany" "I") (by decide +kernel)) (fun _ h9 => h9) rfl (by decide +kernel) rfl rfl (Nat.le_of_ble_eq_true rfl) dX5_counts_96 (fun H locs hP hD hS => ?_)
          have hP : va_P dd vwCl [(qm, .inr (5, mo a th (nI n) li (nI (cnt f i + 1)) (nI (cnt g i)) ab be st al)), (a 2, .inl (cyI, 48, .inl tI)), (a 4, .inl (cyI, 240, .inl sI)), (a 13, .inl (cyI, 11, .inl (upd fB k0 ((fB k0) + 1)))), (a 14, .inl (cyI, 11, .inl gB))] H := hP
          have hD : va_D A [(qm, .inr (5, mo a th (nI n) li (nI (cnt f i + 1)) (nI (cnt g i)) ab be st al)), (a 2, .inl (cyI, 48, .inl tI)), (a 4, .inl (cyI, 240, .inl sI)), (a 13, .inl (cyI, 11, .inl (upd fB k0 ((fB k0) + 1)))), (a 14, .inl (cyI, 11, .inl gB))] := hD
          refine lv_aload_n hx hb dX5_counts_99 rfl (lv_at hl 2 rfl) ?_
          refine lv_iload hx hb dX5_counts_100 (lv_at hl 1 rfl) ?_
          refine lv_iload hx hb dX5_counts_102 (lv_at hl 6 rfl) ?_
          refine lv_iload hx hb dX5_counts_104 (lv_at hl 7 rfl) ?_
          refine clVi (As := [.int (nI i), .int g1, .int g2]) (rest := []) (b := qm) (vc := (RX5, TX5, 30)) ⟨hx, hb, hml, hown, hts⟩ (r_isIn l dd cyI cyJ cyZ qm a th (nI n) li _ _ ab be st al tI i (by omega) g1 g2) gX5_counts_X5_isIn (ci := 5) rfl (q0 := 0) rfl (n := 3) rfl ⟨rfl, rfl⟩ (by decide +kernel) ⟨Nat.le_of_ble_eq_true rfl, Nat.le_of_ble_eq_true rfl⟩ hN hK (hP.sub [0, 1] rfl) rfl hl.1 rfl (Nat.le_of_ble_eq_true rfl) dX5_counts_106 ⟨Nat.le_of_ble_eq_true rfl, Nat.le_of_ble_eq_true rfl⟩ (fun b2 hb2 => ?_)
          rw [← eg] at hb2
          refine lv_if_eq (tgt := 133) hx hb dX5_counts_109 (by decide) (fun q2 => ?_) (fun q2 => ?_)
          · have g0 : g i = false := (Bool.not_eq_true _).mp (fun h => by rw [if_pos h] at hb2; exact absurd (hb2.symm.trans q2) (by decide))
            refine lv_iinc (v := nI (i + 1)) (lv' := [(6, .int (nI (i + 1))), (7, .int (nI k0)), (0, .ref qm), (1, .int (nI co)), (2, .int f1), (3, .int f2), (4, .int g1), (5, .int g2)]) hx hb dX5_counts_133 hl (k := 1) rfl (nI_1 i) (by decide) rfl (fun ls hl => ?_)
            refine lv_goto (tgt := 45) hx hb dX5_counts_136 (by decide) ?_
            exact ih (i + 1) (upd fB k0 (fB k0 + 1)) gB H locs (by omega) (cnts_y hk0 e0 f0 hf9) (cnts_n g0 hg9) (by rw [cnt_y f0, cnt_n g0]; exact hP) (by rw [cnt_y f0, cnt_n g0]; exact hD) hS ls (lv_sub hl [0, 2, 3, 4, 5, 6, 7] rfl)
          · have g0 : g i = true := (Bool.not_eq_false _).mp (fun h => q2 (by rw [hb2, if_neg (by rw [h]; decide)]))
            refine lv_aload_n hx hb dX5_counts_112 rfl (lv_at hl 2 rfl) ?_
            refine va_get (D := dd) (ci := 5) (C := RX5) (T := TX5) (N := 30) (v := .ref (a 14)) hx hb hts hiX5 hown hK hP 0 rfl rfl 14 (by decide) (hts (.fieldLink RX5 45 "SliceDriftModel" "second" "[I") (by decide +kernel)) (fun _ h9 => h9) rfl dX5_counts_113 ?_
            refine lv_iload hx hb dX5_counts_116 (lv_at hl 0 rfl) ?_
            refine lv_dup2_11 hx hb dX5_counts_118 rfl rfl ?_
            refine va_iald hx hb hK hP 4 0 rfl rfl (i := nI k0) (vp_in_nI (show k0 < 11 from hk0) (by decide)) dX5_counts_119 ?_
            rw [nI_clamp (show k0 < 2 ^ 31 from Nat.lt_trans (show k0 < 11 from hk0) (by decide))]
            refine lv_iconst (v := 1) hx hb dX5_counts_120 (by decide) ?_
            refine lv_iadd hx hb dX5_counts_121 ?_
            refine va_iast hx hb hK hP hD hS 4 0 rfl rfl (i := nI k0) (vp_in_nI (show k0 < 11 from hk0) (by decide)) dX5_counts_122 (fun H locs hP hD hS => ?_)
            rw [nI_clamp (show k0 < 2 ^ 31 from Nat.lt_trans (show k0 < 11 from hk0) (by decide))] at hP hD
            have hP : va_P dd vwCl [(qm, .inr (5, mo a th (nI n) li (nI (cnt f i + 1)) (nI (cnt g i)) ab be st al)), (a 2, .inl (cyI, 48, .inl tI)), (a 4, .inl (cyI, 240, .inl sI)), (a 13, .inl (cyI, 11, .inl (upd fB k0 ((fB k0) + 1)))), (a 14, .inl (cyI, 11, .inl (upd gB k0 ((gB k0) + 1))))] H := hP
            have hD : va_D A [(qm, .inr (5, mo a th (nI n) li (nI (cnt f i + 1)) (nI (cnt g i)) ab be st al)), (a 2, .inl (cyI, 48, .inl tI)), (a 4, .inl (cyI, 240, .inl sI)), (a 13, .inl (cyI, 11, .inl (upd fB k0 ((fB k0) + 1)))), (a 14, .inl (cyI, 11, .inl (upd gB k0 ((gB k0) + 1))))] := hD
            refine lv_aload_n hx hb dX5_counts_123 rfl (lv_at hl 2 rfl) ?_
            refine lv_dup hx hb dX5_counts_124 rfl ?_
            refine va_get (D := dd) (ci := 5) (C := RX5) (T := TX5) (N := 30) (v := .int (nI (cnt g i))) hx hb hts hiX5 hown hK hP 0 rfl rfl 16 (by decide) (hts (.fieldLink RX5 133 "SliceDriftModel" "secondMany" "I") (by decide +kernel)) (fun _ h9 => h9) rfl dX5_counts_125 ?_
            refine lv_iconst (v := 1) hx hb dX5_counts_128 (by decide) ?_
            refine lv_iadd hx hb dX5_counts_129 ?_
            refine tpi (show ((nI (cnt g i)) + 1 : Int32) = nI (cnt g i + 1) from nI_1 _) ?_
            refine va_put (D := dd) (ci := 5) (v := .int (nI (cnt g i + 1))) (ty := .int) (C := RX5) (T := TX5) (N := 30) hx hb hts hiX5 tyX5 tyX5_ok nmX5 hown hK hP hD hS 0 rfl rfl 16 (by decide) (hts (.fieldLink RX5 133 "SliceDriftModel" "secondMany" "I") (by decide +kernel)) (fun _ h9 => h9) rfl (by decide +kernel) rfl rfl (Nat.le_of_ble_eq_true rfl) dX5_counts_130 (fun H locs hP hD hS => ?_)
            have hP : va_P dd vwCl [(qm, .inr (5, mo a th (nI n) li (nI (cnt f i + 1)) (nI (cnt g i + 1)) ab be st al)), (a 2, .inl (cyI, 48, .inl tI)), (a 4, .inl (cyI, 240, .inl sI)), (a 13, .inl (cyI, 11, .inl (upd fB k0 ((fB k0) + 1)))), (a 14, .inl (cyI, 11, .inl (upd gB k0 ((gB k0) + 1))))] H := hP
            have hD : va_D A [(qm, .inr (5, mo a th (nI n) li (nI (cnt f i + 1)) (nI (cnt g i + 1)) ab be st al)), (a 2, .inl (cyI, 48, .inl tI)), (a 4, .inl (cyI, 240, .inl sI)), (a 13, .inl (cyI, 11, .inl (upd fB k0 ((fB k0) + 1)))), (a 14, .inl (cyI, 11, .inl (upd gB k0 ((gB k0) + 1))))] := hD
            refine lv_iinc (v := nI (i + 1)) (lv' := [(6, .int (nI (i + 1))), (7, .int (nI k0)), (0, .ref qm), (1, .int (nI co)), (2, .int f1), (3, .int f2), (4, .int g1), (5, .int g2)]) hx hb dX5_counts_133 hl (k := 1) rfl (nI_1 i) (by decide) rfl (fun ls hl => ?_)
            refine lv_goto (tgt := 45) hx hb dX5_counts_136 (by decide) ?_
            exact ih (i + 1) (upd fB k0 (fB k0 + 1)) (upd gB k0 (gB k0 + 1)) H locs (by omega) (cnts_y hk0 e0 f0 hf9) (cnts_y hk0 e0 g0 hg9) (by rw [cnt_y f0, cnt_y g0]; exact hP) (by rw [cnt_y f0, cnt_y g0]; exact hD) hS ls (lv_sub hl [0, 2, 3, 4, 5, 6, 7] rfl)
  have loop1 : ∀ (k9 : Nat) (j : Nat) (fB gB : Nat → Int32) (H : Heap) (locs : List Loc), j + k9 = 11 → (∀ k, k < j → fB k = 0 ∧ gB k = 0) → va_P dd vwCl [(qm, .inr (5, mo a th (nI n) li 0 0 ab be st al)), (a 2, .inl (cyI, 48, .inl tI)), (a 4, .inl (cyI, 240, .inl sI)), (a 13, .inl (cyI, 11, .inl fB)), (a 14, .inl (cyI, 11, .inl gB))] H → va_D A [(qm, .inr (5, mo a th (nI n) li 0 0 ab be st al)), (a 2, .inl (cyI, 48, .inl tI)), (a 4, .inl (cyI, 240, .inl sI)), (a 13, .inl (cyI, 11, .inl fB)), (a 14, .inl (cyI, 11, .inl gB))] → va_S A s.heap H locs → ∀ ls : Array Slot, lv_has ls 8 [(6, .int (nI j)), (0, .ref qm), (1, .int (nI co)), (2, .int f1), (3, .int f2), (4, .int g1), (5, .int g2)] → W p l e ({ frames := 1, cells := 0, slots := 0, locals := 23 } : Room) s m ([.ref qm, .int (nI co), .int f1, .int f2, .int g1, .int g2] : List Value).toArray below meth c H locs 0 0 (MQ below (va_Qv (S := (Nat → Int32) × (Nat → Int32)) (fun (u : (Nat → Int32) × (Nat → Int32)) => ∀ k, k < 11 → u.1 k = nI (cs f sI co n k) ∧ u.2 k = nI (cs g sI co n k)) (WQ dd [(qm, .inr (5, mo a th (nI n) li fm sm ab be st al)), (a 2, .inl (cyI, 48, .inl tI)), (a 4, .inl (cyI, 240, .inl sI)), (a 13, .inl (cyI, 11, .inl fA)), (a 14, .inl (cyI, 11, .inl gA))] sz (fun u => [(qm, .inr (5, mo a th (nI n) li (nI (cnt f n)) (nI (cnt g n)) ab be st al)), (a 2, .inl (cyI, 48, .inl tI)), (a 4, .inl (cyI, 240, .inl sI)), (a 13, .inl (cyI, 11, .inl u.1)), (a 14, .inl (cyI, 11, .inl u.2))])) A) ([.ref qm, .int (nI co), .int f1, .int f2, .int g1, .int g2] : List Value).toArray s 0 0 A) (F0 m 13 ls []) := by
    intro k9
    induction k9 with
    | zero =>
      intro j fB gB H locs hj9 hz9 hP hD hS ls hl
      refine lv_iload hx hb dX5_counts_13 (lv_at hl 0 rfl) ?_
      refine lv_bipush (v := 11) hx hb dX5_counts_15 (by decide) ?_
      refine lv_icmp_ge (tgt := 42) hx hb dX5_counts_17 (by decide) (fun q => ?_) (fun q => ?_)
      · refine lv_iconst (v := 0) hx hb dX5_counts_42 (by decide) ?_
        refine lv_istore (lv' := [(6, .int 0), (0, .ref qm), (1, .int (nI co)), (2, .int f1), (3, .int f2), (4, .int g1), (5, .int g2)]) hx hb dX5_counts_43 hl (by decide) rfl (fun ls hl => ?_)
        exact loop2 n 0 fB gB H locs (by omega) (fun k hk => (hz9 k (by omega)).1) (fun k hk => (hz9 k (by omega)).2) hP hD hS ls (lv_sub hl [0, 1, 2, 3, 4, 5, 6] rfl)
      · exact absurd (nI_le (show 11 ≤ j by omega) (by omega)) q
    | succ k9 ih =>
      intro j fB gB H locs hj9 hz9 hP hD hS ls hl
      refine lv_iload hx hb dX5_counts_13 (lv_at hl 0 rfl) ?_
      refine lv_bipush (v := 11) hx hb dX5_counts_15 (by decide) ?_
      refine lv_icmp_ge (tgt := 42) hx hb dX5_counts_17 (by decide) (fun q => ?_) (fun q => ?_)
      · exact absurd q (nI_ge (show j < 11 by omega) (by decide))
      · refine lv_aload_n hx hb dX5_counts_20 rfl (lv_at hl 1 rfl) ?_
        refine va_get (D := dd) (ci := 5) (C := RX5) (T := TX5) (N := 30) (v := .ref (a 13)) hx hb hts hiX5 hown hK hP 0 rfl rfl 13 (by decide) (hts (.fieldLink RX5 42 "SliceDriftModel" "first" "[I") (by decide +kernel)) (fun _ h9 => h9) rfl dX5_counts_21 ?_
        refine lv_iload hx hb dX5_counts_24 (lv_at hl 0 rfl) ?_
        refine lv_iconst (v := 0) hx hb dX5_counts_26 (by decide) ?_
        refine va_iast hx hb hK hP hD hS 3 0 rfl rfl (i := nI j) (vp_in_nI (show j < 11 from (by omega)) (by decide)) dX5_counts_27 (fun H locs hP hD hS => ?_)
        rw [nI_clamp (show j < 2 ^ 31 from Nat.lt_trans (show j < 11 from (by omega)) (by decide))] at hP hD
        have hP : va_P dd vwCl [(qm, .inr (5, mo a th (nI n) li 0 0 ab be st al)), (a 2, .inl (cyI, 48, .inl tI)), (a 4, .inl (cyI, 240, .inl sI)), (a 13, .inl (cyI, 11, .inl (upd fB j 0))), (a 14, .inl (cyI, 11, .inl gB))] H := hP
        have hD : va_D A [(qm, .inr (5, mo a th (nI n) li 0 0 ab be st al)), (a 2, .inl (cyI, 48, .inl tI)), (a 4, .inl (cyI, 240, .inl sI)), (a 13, .inl (cyI, 11, .inl (upd fB j 0))), (a 14, .inl (cyI, 11, .inl gB))] := hD
        refine lv_aload_n hx hb dX5_counts_28 rfl (lv_at hl 1 rfl) ?_
        refine va_get (D := dd) (ci := 5) (C := RX5) (T := TX5) (N := 30) (v := .ref (a 14)) hx hb hts hiX5 hown hK hP 0 rfl rfl 14 (by decide) (hts (.fieldLink RX5 45 "SliceDriftModel" "second" "[I") (by decide +kernel)) (fun _ h9 => h9) rfl dX5_counts_29 ?_
        refine lv_iload hx hb dX5_counts_32 (lv_at hl 0 rfl) ?_
        refine lv_iconst (v := 0) hx hb dX5_counts_34 (by decide) ?_
        refine va_iast hx hb hK hP hD hS 4 0 rfl rfl (i := nI j) (vp_in_nI (show j < 11 from (by omega)) (by decide)) dX5_counts_35 (fun H locs hP hD hS => ?_)
        rw [nI_clamp (show j < 2 ^ 31 from Nat.lt_trans (show j < 11 from (by omega)) (by decide))] at hP hD
        have hP : va_P dd vwCl [(qm, .inr (5, mo a th (nI n) li 0 0 ab be st al)), (a 2, .inl (cyI, 48, .inl tI)), (a 4, .inl (cyI, 240, .inl sI)), (a 13, .inl (cyI, 11, .inl (upd fB j 0))), (a 14, .inl (cyI, 11, .inl (upd gB j 0)))] H := hP
        have hD : va_D A [(qm, .inr (5, mo a th (nI n) li 0 0 ab be st al)), (a 2, .inl (cyI, 48, .inl tI)), (a 4, .inl (cyI, 240, .inl sI)), (a 13, .inl (cyI, 11, .inl (upd fB j 0))), (a 14, .inl (cyI, 11, .inl (upd gB j 0)))] := hD
        refine lv_iinc (v := nI (j + 1)) (lv' := [(6, .int (nI (j + 1))), (0, .ref qm), (1, .int (nI co)), (2, .int f1), (3, .int f2), (4, .int g1), (5, .int g2)]) hx hb dX5_counts_36 hl (k := 0) rfl (nI_1 j) (by decide) rfl (fun ls hl => ?_)
        refine lv_goto (tgt := 13) hx hb dX5_counts_39 (by decide) ?_
        exact ih (j + 1) (upd fB j 0) (upd gB j 0) H locs (by omega) (fun k hk => (Nat.lt_or_ge k j).elim (fun h => by rw [pk_un (by omega), pk_un (by omega)]; exact hz9 k h) (fun h => by rw [show k = j by omega, pk_us, pk_us]; exact ⟨rfl, rfl⟩)) hP hD hS ls (lv_sub hl [0, 1, 2, 3, 4, 5, 6] rfl)
  refine lv_aload_n hx hb dX5_counts_0 rfl (lv_at hl 0 rfl) ?_
  refine lv_iconst (v := 0) hx hb dX5_counts_1 (by decide) ?_
  refine va_put (D := dd) (ci := 5) (v := .int 0) (ty := .int) (C := RX5) (T := TX5) (N := 30) hx hb hts hiX5 tyX5 tyX5_ok nmX5 hown hK hP hD hS 0 rfl rfl 15 (by decide) (hts (.fieldLink RX5 130 "SliceDriftModel" "firstMany" "I") (by decide +kernel)) (fun _ h9 => h9) rfl (by decide +kernel) rfl rfl (Nat.le_of_ble_eq_true rfl) dX5_counts_2 (fun H locs hP hD hS => ?_)
  have hP : va_P dd vwCl [(qm, .inr (5, mo a th (nI n) li 0 sm ab be st al)), (a 2, .inl (cyI, 48, .inl tI)), (a 4, .inl (cyI, 240, .inl sI)), (a 13, .inl (cyI, 11, .inl fA)), (a 14, .inl (cyI, 11, .inl gA))] H := hP
  have hD : va_D A [(qm, .inr (5, mo a th (nI n) li 0 sm ab be st al)), (a 2, .inl (cyI, 48, .inl tI)), (a 4, .inl (cyI, 240, .inl sI)), (a 13, .inl (cyI, 11, .inl fA)), (a 14, .inl (cyI, 11, .inl gA))] := hD
  refine lv_aload_n hx hb dX5_counts_5 rfl (lv_at hl 0 rfl) ?_
  refine lv_iconst (v := 0) hx hb dX5_counts_6 (by decide) ?_
  refine va_put (D := dd) (ci := 5) (v := .int 0) (ty := .int) (C := RX5) (T := TX5) (N := 30) hx hb hts hiX5 tyX5 tyX5_ok nmX5 hown hK hP hD hS 0 rfl rfl 16 (by decide) (hts (.fieldLink RX5 133 "SliceDriftModel" "secondMany" "I") (by decide +kernel)) (fun _ h9 => h9) rfl (by decide +kernel) rfl rfl (Nat.le_of_ble_eq_true rfl) dX5_counts_7 (fun H locs hP hD hS => ?_)
  have hP : va_P dd vwCl [(qm, .inr (5, mo a th (nI n) li 0 0 ab be st al)), (a 2, .inl (cyI, 48, .inl tI)), (a 4, .inl (cyI, 240, .inl sI)), (a 13, .inl (cyI, 11, .inl fA)), (a 14, .inl (cyI, 11, .inl gA))] H := hP
  have hD : va_D A [(qm, .inr (5, mo a th (nI n) li 0 0 ab be st al)), (a 2, .inl (cyI, 48, .inl tI)), (a 4, .inl (cyI, 240, .inl sI)), (a 13, .inl (cyI, 11, .inl fA)), (a 14, .inl (cyI, 11, .inl gA))] := hD
  refine lv_iconst (v := 0) hx hb dX5_counts_10 (by decide) ?_
  refine lv_istore (lv' := [(6, .int 0), (0, .ref qm), (1, .int (nI co)), (2, .int f1), (3, .int f2), (4, .int g1), (5, .int g2)]) hx hb dX5_counts_11 hl (by decide) rfl (fun ls hl => ?_)
  exact loop1 11 0 fA gA H locs rfl (fun k h => absurd h (Nat.not_lt_zero k)) hP hD hS ls (lv_sub hl [0, 1, 2, 3, 4, 5, 6] rfl)
