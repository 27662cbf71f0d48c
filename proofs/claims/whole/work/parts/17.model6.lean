set_option maxHeartbeats 4000000 in
set_option maxRecDepth 100000 in
theorem r_fresh (l : Launch) (dd : va_G) (cyI cyJ cyZ : ClassId) (qm : Nat) (a : Nat → Nat) (th li fm sm : Int32) (ab be : Int64) (st al : Int32) (n : Nat) (hn : n ≤ 48) (tI sI fA gA : Nat → Int32) (hSo : ∀ i, i < n → ∀ co, co < 5 → ∃ k, k < 11 ∧ sI (5 * i + co) = nI k) (y f b t i : Int32) (sz : Nat) : Met l yX5_fresh wsX5_fresh ({ frames := 2, cells := 0, slots := 0, locals := 60 } : Room) (va_Pc [.ref qm, .int y, .int f, .int b, .int t, .int i] (Wr dd [(cyI, .int), (cyJ, .long), (cyZ, .boolean)] [(qm, .inr (5, mo a th (nI n) li fm sm ab be st al)), (a 2, .inl (cyI, 48, .inl tI)), (a 4, .inl (cyI, 240, .inl sI)), (a 13, .inl (cyI, 11, .inl fA)), (a 14, .inl (cyI, 11, .inl gA))] sz)) (va_Qi (S := Int32 × Int32 × Int32 × Int64 × Int64 × (Nat → Int32) × (Nat → Int32)) (fun (r : Int32) (u : Int32 × Int32 × Int32 × Int64 × Int64 × (Nat → Int32) × (Nat → Int32)) => u.1 = 0 ∧ r = freshR n tI sI y f b t i) (WQ dd [(qm, .inr (5, mo a th (nI n) li fm sm ab be st al)), (a 2, .inl (cyI, 48, .inl tI)), (a 4, .inl (cyI, 240, .inl sI)), (a 13, .inl (cyI, 11, .inl fA)), (a 14, .inl (cyI, 11, .inl gA))] sz (fun u => [(qm, .inr (5, mo a u.1 (nI n) li u.2.1 u.2.2.1 u.2.2.2.1 u.2.2.2.2.1 st al)), (a 2, .inl (cyI, 48, .inl tI)), (a 4, .inl (cyI, 240, .inl sI)), (a 13, .inl (cyI, 11, .inl u.2.2.2.2.2.1)), (a 14, .inl (cyI, 11, .inl u.2.2.2.2.2.2))])) (va_A [(qm, .inr (5, mo a th (nI n) li fm sm ab be st al)), (a 2, .inl (cyI, 48, .inl tI)), (a 4, .inl (cyI, 240, .inl sI)), (a 13, .inl (cyI, 11, .inl fA)), (a 14, .inl (cyI, 11, .inl gA))] sz)) 0 0 (va_A [(qm, .inr (5, mo a th (nI n) li fm sm ab be st al)), (a 2, .inl (cyI, 48, .inl tI)), (a 4, .inl (cyI, 240, .inl sI)), (a 13, .inl (cyI, 11, .inl fA)), (a 14, .inl (cyI, 11, .inl gA))] sz) := by
  refine mkW (Qc := fun A => (va_Qi (S := Int32 × Int32 × Int32 × Int64 × Int64 × (Nat → Int32) × (Nat → Int32)) (fun (r : Int32) (u : Int32 × Int32 × Int32 × Int64 × Int64 × (Nat → Int32) × (Nat → Int32)) => u.1 = 0 ∧ r = freshR n tI sI y f b t i) (WQ dd [(qm, .inr (5, mo a th (nI n) li fm sm ab be st al)), (a 2, .inl (cyI, 48, .inl tI)), (a 4, .inl (cyI, 240, .inl sI)), (a 13, .inl (cyI, 11, .inl fA)), (a 14, .inl (cyI, 11, .inl gA))] sz (fun u => [(qm, .inr (5, mo a u.1 (nI n) li u.2.1 u.2.2.1 u.2.2.2.1 u.2.2.2.2.1 st al)), (a 2, .inl (cyI, 48, .inl tI)), (a 4, .inl (cyI, 240, .inl sI)), (a 13, .inl (cyI, 11, .inl u.2.2.2.2.2.1)), (a 14, .inl (cyI, 11, .inl u.2.2.2.2.2.2))])) A)) (cc := cX5_fresh) (maxL := 8) (by decide) rfl (Nat.le_of_ble_eq_true rfl) (lv0 := [(0, .ref qm), (1, .int y), (2, .int f), (3, .int b), (4, .int t), (5, .int i)]) rfl ?_
  intro p e s m below meth c ls H A hx hb hr hml hown hlocks hts hmn hN hP hK hD hS hA hAe hl
  have hown : s.vm.findClass RX5 = some m.cls := hown
  have hiX5 : ∀ w ∈ wsX50, w ∈ wsX5_fresh := by decide +kernel
  refine lv_aload_n hx hb dX5_fresh_0 rfl (lv_at hl 0 rfl) ?_
  refine lv_iconst (v := 0) hx hb dX5_fresh_1 (by decide) ?_
  refine va_put (D := dd) (ci := 5) (v := .int 0) (ty := .int) (C := RX5) (T := TX5) (N := 30) hx hb hts hiX5 tyX5 tyX5_ok nmX5 hown hK hP hD hS 0 rfl rfl 0 (by decide) (hts (.fieldLink RX5 75 "SliceDriftModel" "thrown" "I") (by decide +kernel)) (fun _ h9 => h9) rfl (by decide +kernel) rfl rfl (Nat.le_of_ble_eq_true rfl) dX5_fresh_2 (fun H locs hP hD hS => ?_)
  have hP : va_P dd vwCl [(qm, .inr (5, mo a 0 (nI n) li fm sm ab be st al)), (a 2, .inl (cyI, 48, .inl tI)), (a 4, .inl (cyI, 240, .inl sI)), (a 13, .inl (cyI, 11, .inl fA)), (a 14, .inl (cyI, 11, .inl gA))] H := hP
  have hD : va_D A [(qm, .inr (5, mo a 0 (nI n) li fm sm ab be st al)), (a 2, .inl (cyI, 48, .inl tI)), (a 4, .inl (cyI, 240, .inl sI)), (a 13, .inl (cyI, 11, .inl fA)), (a 14, .inl (cyI, 11, .inl gA))] := hD
  refine lv_iload_n hx hb dX5_fresh_5 rfl (lv_at hl 1 rfl) ?_
  refine lv_iconst (v := 0) hx hb dX5_fresh_6 (by decide) ?_
  refine lv_iconst (v := 4) hx hb dX5_fresh_7 (by decide) ?_
  refine clSi (As := [.int y, .int 0, .int 4]) (rest := []) ⟨hx, hb, hml, hown, hts⟩ (r_in l dd cyI cyJ cyZ y 0 4) gX5_fresh_X5_in (n := 3) rfl ⟨rfl, rfl⟩ (by decide +kernel) ⟨Nat.le_of_ble_eq_true rfl, Nat.le_of_ble_eq_true rfl⟩ hN hK (hP.sub [] rfl) rfl hl.1 rfl (Nat.le_of_ble_eq_true rfl) dX5_fresh_8 ⟨Nat.le_of_ble_eq_true rfl, Nat.le_of_ble_eq_true rfl⟩ (fun ck1 hck1 => ?_)
  refine lv_if_ne (tgt := 17) hx hb dX5_fresh_11 (by decide) (fun qck1 => ?_) (fun qck1 => ?_)
  · have hck1 : inC y := hck1.elim (fun h => h.2) (fun h => absurd h.1 qck1)
    refine lv_iload_n hx hb dX5_fresh_17 rfl (lv_at hl 2 rfl) ?_
    refine lv_iload_n hx hb dX5_fresh_18 rfl (lv_at hl 3 rfl) ?_
    refine lv_iload hx hb dX5_fresh_19 (lv_at hl 4 rfl) ?_
    refine clSi (As := [.int f, .int b, .int t]) (rest := []) ⟨hx, hb, hml, hown, hts⟩ (r_areWindows l dd cyI cyJ cyZ f b t) gX5_fresh_X5_areWindows (n := 3) rfl ⟨rfl, rfl⟩ (by decide +kernel) ⟨Nat.le_of_ble_eq_true rfl, Nat.le_of_ble_eq_true rfl⟩ hN hK (hP.sub [] rfl) rfl hl.1 rfl (Nat.le_of_ble_eq_true rfl) dX5_fresh_21 ⟨Nat.le_of_ble_eq_true rfl, Nat.le_of_ble_eq_true rfl⟩ (fun ck2 hck2 => ?_)
    refine lv_if_eq (tgt := 33) hx hb dX5_fresh_24 (by decide) (fun qck2 => ?_) (fun qck2 => ?_)
    · have hck2 : ¬ (inW f b t) := hck2.elim (fun h => absurd (h.1.symm.trans qck2) (by decide)) (fun h => h.2)
      refine lv_ldc (v := (-1000002)) hx hb hown (hts (.constant RX5 83 (-1000002)) (by decide +kernel)) dX5_fresh_33 ?_
      exact ewI (0, fm, sm, ab, be, fA, gA) hx hb hr hlocks hAe hS dX5_fresh_35 (⟨rfl, by rw [freshR, if_pos hck1, if_neg (fun x : inW f b t ∧ -1 ≤ i => hck2 x.1)]⟩) (hP.sub [0, 1, 2, 3, 4] rfl) (hD.sub [0, 1, 2, 3, 4] (by decide) rfl)
    · have hck2 : inW f b t := hck2.elim (fun h => h.2) (fun h => absurd h.1 qck2)
      refine lv_iload hx hb dX5_fresh_27 (lv_at hl 5 rfl) ?_
      refine lv_iconst (v := (-1)) hx hb dX5_fresh_29 (by decide) ?_
      refine lv_icmp_ge (tgt := 36) hx hb dX5_fresh_30 (by decide) (fun q3 => ?_) (fun q3 => ?_)
      · obtain ⟨co, hco, ey⟩ := inC_of hck1
        subst ey
        have ec : cl (nI co) = co := cl_nI (by omega)
        refine lv_aload_n hx hb dX5_fresh_36 rfl (lv_at hl 0 rfl) ?_
        refine lv_iload_n hx hb dX5_fresh_37 rfl (lv_at hl 1 rfl) ?_
        refine lv_iload_n hx hb dX5_fresh_38 rfl (lv_at hl 2 rfl) ?_
        refine lv_iload_n hx hb dX5_fresh_39 rfl (lv_at hl 3 rfl) ?_
        refine lv_iload_n hx hb dX5_fresh_40 rfl (lv_at hl 3 rfl) ?_
        refine lv_iload hx hb dX5_fresh_41 (lv_at hl 4 rfl) ?_
        refine clVwv (As := [.int (nI co), .int f, .int b, .int b, .int t]) (rest := []) (b := qm) (vc := (RX5, TX5, 30)) (wr := []) ⟨hx, hb, hml, hown, hts⟩ (fun sz => r_counts l dd cyI cyJ cyZ qm a 0 li fm sm ab be st al n hn tI sI fA gA co hco (fun i hi => hSo i hi co hco) f b b t sz) gX5_fresh_X5_counts (ci := 5) rfl (q0 := 0) rfl (n := 5) rfl ⟨rfl, rfl⟩ (by decide +kernel) ⟨Nat.le_of_ble_eq_true rfl, Nat.le_of_ble_eq_true rfl⟩ hN hK hP hD hS hA [0, 1, 2, 3, 4] [] rfl rfl (by decide) rfl (by decide) (by decide) rfl hl.1 rfl (Nat.le_of_ble_eq_true rfl) dX5_fresh_43 ⟨Nat.le_of_ble_eq_true rfl, Nat.le_of_ble_eq_true rfl⟩ (fun u1 H locs hu1 hP hD hS => ?_)
        have hP : va_P dd vwCl [(qm, .inr (5, mo a 0 (nI n) li (nI (cnt (win tI f b) n)) (nI (cnt (win tI b t) n)) ab be st al)), (a 2, .inl (cyI, 48, .inl tI)), (a 4, .inl (cyI, 240, .inl sI)), (a 13, .inl (cyI, 11, .inl u1.1)), (a 14, .inl (cyI, 11, .inl u1.2))] H := hP
        have hD : va_D A [(qm, .inr (5, mo a 0 (nI n) li (nI (cnt (win tI f b) n)) (nI (cnt (win tI b t) n)) ab be st al)), (a 2, .inl (cyI, 48, .inl tI)), (a 4, .inl (cyI, 240, .inl sI)), (a 13, .inl (cyI, 11, .inl u1.1)), (a 14, .inl (cyI, 11, .inl u1.2))] := hD
        have u1f := csb hn (fun k hk => (hu1 k hk).1)
        have u1g := csb hn (fun k hk => (hu1 k hk).2)
        refine lv_iconst (v := 0) hx hb dX5_fresh_46 (by decide) ?_
        refine lv_istore (lv' := [(6, .int 0), (0, .ref qm), (1, .int (nI co)), (2, .int f), (3, .int b), (4, .int t), (5, .int i)]) hx hb dX5_fresh_47 hl (by decide) rfl (fun ls hl => ?_)
        refine lv_iconst (v := 0) hx hb dX5_fresh_49 (by decide) ?_
        refine lv_istore (lv' := [(7, .int 0), (6, .int 0), (0, .ref qm), (1, .int (nI co)), (2, .int f), (3, .int b), (4, .int t), (5, .int i)]) hx hb dX5_fresh_50 hl (by decide) rfl (fun ls hl => ?_)
        have loop : ∀ (k : Nat) (v c9 : Nat) (H : Heap) (locs : List Loc), v + k = 10 → frs (isFr (win tI f b) (win tI b t) sI co n) i k v c9 = frs (isFr (win tI f b) (win tI b t) sI co n) i 10 0 0 → va_P dd vwCl [(qm, .inr (5, mo a 0 (nI n) li (nI (cnt (win tI f b) n)) (nI (cnt (win tI b t) n)) ab be st al)), (a 2, .inl (cyI, 48, .inl tI)), (a 4, .inl (cyI, 240, .inl sI)), (a 13, .inl (cyI, 11, .inl u1.1)), (a 14, .inl (cyI, 11, .inl u1.2))] H → va_D A [(qm, .inr (5, mo a 0 (nI n) li (nI (cnt (win tI f b) n)) (nI (cnt (win tI b t) n)) ab be st al)), (a 2, .inl (cyI, 48, .inl tI)), (a 4, .inl (cyI, 240, .inl sI)), (a 13, .inl (cyI, 11, .inl u1.1)), (a 14, .inl (cyI, 11, .inl u1.2))] → va_S A s.heap H locs → ∀ ls : Array Slot, lv_has ls 8 [(7, .int (nI v)), (6, .int (nI c9)), (0, .ref qm), (5, .int i)] → W p l e ({ frames := 2, cells := 0, slots := 0, locals := 60 } : Room) s m ([.ref qm, .int (nI co), .int f, .int b, .int t, .int i] : List Value).toArray below meth c H locs 0 0 (MQ below (va_Qi (S := Int32 × Int32 × Int32 × Int64 × Int64 × (Nat → Int32) × (Nat → Int32)) (fun (r : Int32) (u : Int32 × Int32 × Int32 × Int64 × Int64 × (Nat → Int32) × (Nat → Int32)) => u.1 = 0 ∧ r = freshR n tI sI (nI co) f b t i) (WQ dd [(qm, .inr (5, mo a th (nI n) li fm sm ab be st al)), (a 2, .inl (cyI, 48, .inl tI)), (a 4, .inl (cyI, 240, .inl sI)), (a 13, .inl (cyI, 11, .inl fA)), (a 14, .inl (cyI, 11, .inl gA))] sz (fun u => [(qm, .inr (5, mo a u.1 (nI n) li u.2.1 u.2.2.1 u.2.2.2.1 u.2.2.2.2.1 st al)), (a 2, .inl (cyI, 48, .inl tI)), (a 4, .inl (cyI, 240, .inl sI)), (a 13, .inl (cyI, 11, .inl u.2.2.2.2.2.1)), (a 14, .inl (cyI, 11, .inl u.2.2.2.2.2.2))])) A) ([.ref qm, .int (nI co), .int f, .int b, .int t, .int i] : List Value).toArray s 0 0 A) (F0 m 52 ls []) := by
          intro k
          induction k with
          | zero =>
            intro v c9 H locs hv9 he hP hD hS ls hl
            refine lv_iload hx hb dX5_fresh_52 (lv_at hl 0 rfl) ?_
            refine lv_bipush (v := 10) hx hb dX5_fresh_54 (by decide) ?_
            refine lv_icmp_ge (tgt := 98) hx hb dX5_fresh_56 (by decide) (fun q7 => ?_) (fun q7 => ?_)
            · refine lv_iload hx hb dX5_fresh_98 (lv_at hl 3 rfl) ?_
              refine lv_iconst (v := (-1)) hx hb dX5_fresh_100 (by decide) ?_
              refine lv_icmp_ne (tgt := 109) hx hb dX5_fresh_101 (by decide) (fun q8 => ?_) (fun q8 => ?_)
              · refine lv_iconst (v := (-1)) hx hb dX5_fresh_109 (by decide) ?_
                exact ewI (0, nI (cnt (win tI f b) n), nI (cnt (win tI b t) n), ab, be, u1.1, u1.2) hx hb hr hlocks hAe hS dX5_fresh_110 (⟨rfl, by rw [freshR, if_pos (show inC (nI co) from hck1), if_pos (show inW f b t ∧ -1 ≤ i from ⟨hck2, q3⟩), ec, ← he]; simp only [frs]; rw [if_neg q8]⟩) (hP.sub [0, 1, 2, 3, 4] rfl) (hD.sub [0, 1, 2, 3, 4] (by decide) rfl)
              · refine lv_iload hx hb dX5_fresh_104 (lv_at hl 1 rfl) ?_
                refine lv_goto (tgt := 110) hx hb dX5_fresh_106 (by decide) ?_
                exact ewI (0, nI (cnt (win tI f b) n), nI (cnt (win tI b t) n), ab, be, u1.1, u1.2) hx hb hr hlocks hAe hS dX5_fresh_110 (⟨rfl, by rw [freshR, if_pos (show inC (nI co) from hck1), if_pos (show inW f b t ∧ -1 ≤ i from ⟨hck2, q3⟩), ec, ← he]; simp only [frs]; rw [if_pos q8]⟩) (hP.sub [0, 1, 2, 3, 4] rfl) (hD.sub [0, 1, 2, 3, 4] (by decide) rfl)
            · exact absurd (nI_le (show 10 ≤ v by omega) (by omega)) q7
          | succ k ih =>
            intro v c9 H locs hv9 he hP hD hS ls hl
            refine lv_iload hx hb dX5_fresh_52 (lv_at hl 0 rfl) ?_
            refine lv_bipush (v := 10) hx hb dX5_fresh_54 (by decide) ?_
            refine lv_icmp_ge (tgt := 98) hx hb dX5_fresh_56 (by decide) (fun q7 => ?_) (fun q7 => ?_)
            · exact absurd q7 (nI_ge (show v < 10 by omega) (by decide))
            · obtain ⟨eg, hg4⟩ := u1g v (by omega)
              obtain ⟨ef, hf4⟩ := u1f v (by omega)
              refine lv_aload_n hx hb dX5_fresh_59 rfl (lv_at hl 2 rfl) ?_
              refine va_get (D := dd) (ci := 5) (C := RX5) (T := TX5) (N := 30) (v := .ref (a 14)) hx hb hts hiX5 hown hK hP 0 rfl rfl 14 (by decide) (hts (.fieldLink RX5 45 "SliceDriftModel" "second" "[I") (by decide +kernel)) (fun _ h9 => h9) rfl dX5_fresh_60 ?_
              refine lv_iload hx hb dX5_fresh_63 (lv_at hl 0 rfl) ?_
              refine va_iald hx hb hK hP 4 0 rfl rfl (i := nI v) (vp_in_nI (show v < 11 from (by omega)) (by decide)) dX5_fresh_65 ?_
              rw [nI_clamp (show v < 2 ^ 31 from Nat.lt_trans (show v < 11 from (by omega)) (by decide))]
              refine tpi (show (u1.2 v : Int32) = nI (cs (win tI b t) sI co n v) from eg) ?_
              refine lv_if_le (tgt := 92) hx hb dX5_fresh_66 (by decide) (fun q8 => ?_) (fun q8 => ?_)
              · refine lv_iinc (v := nI (v + 1)) (lv' := [(7, .int (nI (v + 1))), (6, .int (nI c9)), (0, .ref qm), (5, .int i)]) hx hb dX5_fresh_92 hl (k := 0) rfl (nI_1 v) (by decide) rfl (fun ls hl => ?_)
                refine lv_goto (tgt := 52) hx hb dX5_fresh_95 (by decide) ?_
                exact ih (v + 1) c9 H locs (by omega) (by rw [← he]; exact (frs_n (by simp [isFr, show cs (win tI b t) sI co n v = 0 from Nat.le_zero.mp ((nI_leI (b := 0) (by omega) (by decide)).mp q8)])).symm) hP hD hS ls (lv_sub hl [0, 1, 2, 3] rfl)
              · have g0 : ¬ cs (win tI b t) sI co n v = 0 := fun h => q8 (by rw [h]; decide)
                refine lv_aload_n hx hb dX5_fresh_69 rfl (lv_at hl 2 rfl) ?_
                refine va_get (D := dd) (ci := 5) (C := RX5) (T := TX5) (N := 30) (v := .ref (a 13)) hx hb hts hiX5 hown hK hP 0 rfl rfl 13 (by decide) (hts (.fieldLink RX5 42 "SliceDriftModel" "first" "[I") (by decide +kernel)) (fun _ h9 => h9) rfl dX5_fresh_70 ?_
                refine lv_iload hx hb dX5_fresh_73 (lv_at hl 0 rfl) ?_
                refine va_iald hx hb hK hP 3 0 rfl rfl (i := nI v) (vp_in_nI (show v < 11 from (by omega)) (by decide)) dX5_fresh_75 ?_
                rw [nI_clamp (show v < 2 ^ 31 from Nat.lt_trans (show v < 11 from (by omega)) (by decide))]
                refine tpi (show (u1.1 v : Int32) = nI (cs (win tI f b) sI co n v) from ef) ?_
                refine lv_if_ne (tgt := 92) hx hb dX5_fresh_76 (by decide) (fun q9 => ?_) (fun q9 => ?_)
                · refine lv_iinc (v := nI (v + 1)) (lv' := [(7, .int (nI (v + 1))), (6, .int (nI c9)), (0, .ref qm), (5, .int i)]) hx hb dX5_fresh_92 hl (k := 0) rfl (nI_1 v) (by decide) rfl (fun ls hl => ?_)
                  refine lv_goto (tgt := 52) hx hb dX5_fresh_95 (by decide) ?_
                  exact ih (v + 1) c9 H locs (by omega) (by rw [← he]; exact (frs_n (by simp [isFr, show ¬ cs (win tI f b) sI co n v = 0 from fun h => q9 (by rw [h]; rfl)])).symm) hP hD hS ls (lv_sub hl [0, 1, 2, 3] rfl)
                · have hP0 : isFr (win tI f b) (win tI b t) sI co n v = true := by simp [isFr, g0, show cs (win tI f b) sI co n v = 0 from (nI_eq (b := 0) (by omega) (by decide)).mp q9]
                  refine lv_iload hx hb dX5_fresh_79 (lv_at hl 1 rfl) ?_
                  refine lv_iload hx hb dX5_fresh_81 (lv_at hl 3 rfl) ?_
                  refine lv_icmp_ne (tgt := 89) hx hb dX5_fresh_83 (by decide) (fun q10 => ?_) (fun q10 => ?_)
                  · refine lv_iinc (v := nI (c9 + 1)) (lv' := [(6, .int (nI (c9 + 1))), (7, .int (nI v)), (0, .ref qm), (5, .int i)]) hx hb dX5_fresh_89 hl (k := 1) rfl (nI_1 c9) (by decide) rfl (fun ls hl => ?_)
                    refine lv_iinc (v := nI (v + 1)) (lv' := [(7, .int (nI (v + 1))), (6, .int (nI (c9 + 1))), (0, .ref qm), (5, .int i)]) hx hb dX5_fresh_92 hl (k := 1) rfl (nI_1 v) (by decide) rfl (fun ls hl => ?_)
                    refine lv_goto (tgt := 52) hx hb dX5_fresh_95 (by decide) ?_
                    exact ih (v + 1) (c9 + 1) H locs (by omega) (by rw [← he]; exact (frs_y hP0 q10).symm) hP hD hS ls (lv_sub hl [0, 1, 2, 3] rfl)
                  · refine lv_iload hx hb dX5_fresh_86 (lv_at hl 0 rfl) ?_
                    exact ewI (0, nI (cnt (win tI f b) n), nI (cnt (win tI b t) n), ab, be, u1.1, u1.2) hx hb hr hlocks hAe hS dX5_fresh_88 (⟨rfl, by rw [freshR, if_pos (show inC (nI co) from hck1), if_pos (show inW f b t ∧ -1 ≤ i from ⟨hck2, q3⟩), ec, ← he]; exact (frs_e hP0 q10).symm⟩) (hP.sub [0, 1, 2, 3, 4] rfl) (hD.sub [0, 1, 2, 3, 4] (by decide) rfl)
        exact loop 10 0 0 H _ rfl rfl hP hD hS ls (lv_sub hl [0, 1, 2, 7] rfl)
      · refine lv_ldc (v := (-1000002)) hx hb hown (hts (.constant RX5 83 (-1000002)) (by decide +kernel)) dX5_fresh_33 ?_
        exact ewI (0, fm, sm, ab, be, fA, gA) hx hb hr hlocks hAe hS dX5_fresh_35 (⟨rfl, by rw [freshR, if_pos hck1, if_neg (fun x : inW f b t ∧ -1 ≤ i => q3 x.2)]⟩) (hP.sub [0, 1, 2, 3, 4] rfl) (hD.sub [0, 1, 2, 3, 4] (by decide) rfl)
  · have hck1 : ¬ (inC y) := hck1.elim (fun h => absurd (h.1.symm.trans qck1) (by decide)) (fun h => h.2)
    refine lv_ldc (v := (-1000001)) hx hb hown (hts (.constant RX5 88 (-1000001)) (by decide +kernel)) dX5_fresh_14 ?_
    exact ewI (0, fm, sm, ab, be, fA, gA) hx hb hr hlocks hAe hS dX5_fresh_16 (⟨rfl, by rw [freshR, if_neg hck1]⟩) (hP.sub [0, 1, 2, 3, 4] rfl) (hD.sub [0, 1, 2, 3, 4] (by decide) rfl)

set_option maxHeartbeats 4000000 in
set_option maxRecDepth 100000 in
theorem r_step (l : Launch) (dd : va_G) (cyI cyJ cyZ : ClassId) (qm : Nat) (a : Nat → Nat) (th ro li fm sm : Int32) (ab be : Int64) (al : Int32) (st : Nat) (hst : st ≤ 100) (uI oI rI bI : Nat → Int32) (k w : Int32) (sz : Nat) : Met l yX5_step wsX5_step ({ frames := 1, cells := 0, slots := 0, locals := 22 } : Room) (va_Pc [.ref qm, .int k, .int w] (Wr dd [(cyI, .int), (cyJ, .long), (cyZ, .boolean)] [(qm, .inr (5, mo a th ro li fm sm ab be (nI st) al)), (a 26, .inl (cyZ, 100, .inl uI)), (a 27, .inl (cyZ, 100, .inl oI)), (a 28, .inl (cyI, 100, .inl rI)), (a 29, .inl (cyI, 100, .inl bI))] sz)) (va_Qi (S := Unit) (fun (r : Int32) (_ : Unit) => r = stepR st uI oI rI bI k w) (WQ dd [(qm, .inr (5, mo a th ro li fm sm ab be (nI st) al)), (a 26, .inl (cyZ, 100, .inl uI)), (a 27, .inl (cyZ, 100, .inl oI)), (a 28, .inl (cyI, 100, .inl rI)), (a 29, .inl (cyI, 100, .inl bI))] sz (fun _ => [(qm, .inr (5, mo a 0 ro li fm sm ab be (nI st) al)), (a 26, .inl (cyZ, 100, .inl uI)), (a 27, .inl (cyZ, 100, .inl oI)), (a 28, .inl (cyI, 100, .inl rI)), (a 29, .inl (cyI, 100, .inl bI))])) (va_A [(qm, .inr (5, mo a th ro li fm sm ab be (nI st) al)), (a 26, .inl (cyZ, 100, .inl uI)), (a 27, .inl (cyZ, 100, .inl oI)), (a 28, .inl (cyI, 100, .inl rI)), (a 29, .inl (cyI, 100, .inl bI))] sz)) 0 0 (va_A [(qm, .inr (5, mo a th ro li fm sm ab be (nI st) al)), (a 26, .inl (cyZ, 100, .inl uI)), (a 27, .inl (cyZ, 100, .inl oI)), (a 28, .inl (cyI, 100, .inl rI)), (a 29, .inl (cyI, 100, .inl bI))] sz) := by
  refine mkW (Qc := fun A => (va_Qi (S := Unit) (fun (r : Int32) (_ : Unit) => r = stepR st uI oI rI bI k w) (WQ dd [(qm, .inr (5, mo a th ro li fm sm ab be (nI st) al)), (a 26, .inl (cyZ, 100, .inl uI)), (a 27, .inl (cyZ, 100, .inl oI)), (a 28, .inl (cyI, 100, .inl rI)), (a 29, .inl (cyI, 100, .inl bI))] sz (fun _ => [(qm, .inr (5, mo a 0 ro li fm sm ab be (nI st) al)), (a 26, .inl (cyZ, 100, .inl uI)), (a 27, .inl (cyZ, 100, .inl oI)), (a 28, .inl (cyI, 100, .inl rI)), (a 29, .inl (cyI, 100, .inl bI))])) A)) (cc := cX5_step) (maxL := 3) (by decide) rfl (Nat.le_of_ble_eq_true rfl) (lv0 := [(0, .ref qm), (1, .int k), (2, .int w)]) rfl ?_
  intro p e s m below meth c ls H A hx hb hr hml hown hlocks hts hmn hN hP hK hD hS hA hAe hl
  have hown : s.vm.findClass RX5 = some m.cls := hown
  have hiX5 : ∀ w ∈ wsX50, w ∈ wsX5_step := by decide +kernel
  refine lv_aload_n hx hb dX5_step_0 rfl (lv_at hl 0 rfl) ?_
  refine lv_iconst (v := 0) hx hb dX5_step_1 (by decide) ?_
  refine va_put (D := dd) (ci := 5) (v := .int 0) (ty := .int) (C := RX5) (T := TX5) (N := 30) hx hb hts hiX5 tyX5 tyX5_ok nmX5 hown hK hP hD hS 0 rfl rfl 0 (by decide) (hts (.fieldLink RX5 75 "SliceDriftModel" "thrown" "I") (by decide +kernel)) (fun _ h9 => h9) rfl (by decide +kernel) rfl rfl (Nat.le_of_ble_eq_true rfl) dX5_step_2 (fun H locs hP hD hS => ?_)
  have hP : va_P dd vwCl [(qm, .inr (5, mo a 0 ro li fm sm ab be (nI st) al)), (a 26, .inl (cyZ, 100, .inl uI)), (a 27, .inl (cyZ, 100, .inl oI)), (a 28, .inl (cyI, 100, .inl rI)), (a 29, .inl (cyI, 100, .inl bI))] H := hP
  have hD : va_D A [(qm, .inr (5, mo a 0 ro li fm sm ab be (nI st) al)), (a 26, .inl (cyZ, 100, .inl uI)), (a 27, .inl (cyZ, 100, .inl oI)), (a 28, .inl (cyI, 100, .inl rI)), (a 29, .inl (cyI, 100, .inl bI))] := hD
  refine lv_iload_n hx hb dX5_step_5 rfl (lv_at hl 1 rfl) ?_
  refine lv_iconst (v := 0) hx hb dX5_step_6 (by decide) ?_
  refine lv_aload_n hx hb dX5_step_7 rfl (lv_at hl 0 rfl) ?_
  refine va_get (D := dd) (ci := 5) (C := RX5) (T := TX5) (N := 30) (v := .int (nI st)) hx hb hts hiX5 hown hK hP 0 rfl rfl 24 (by decide) (hts (.fieldLink RX5 166 "SliceDriftModel" "steps" "I") (by decide +kernel)) (fun _ h9 => h9) rfl dX5_step_8 ?_
  refine lv_iconst (v := 1) hx hb dX5_step_11 (by decide) ?_
  refine lv_isub hx hb dX5_step_12 ?_
  refine clSi (As := [.int k, .int 0, .int ((nI st) - 1)]) (rest := []) ⟨hx, hb, hml, hown, hts⟩ (r_in l dd cyI cyJ cyZ k 0 (nI st - 1)) gX5_step_X5_in (n := 3) rfl ⟨rfl, rfl⟩ (by decide +kernel) ⟨Nat.le_of_ble_eq_true rfl, Nat.le_of_ble_eq_true rfl⟩ hN hK (hP.sub [] rfl) rfl hl.1 rfl (Nat.le_of_ble_eq_true rfl) dX5_step_13 ⟨Nat.le_of_ble_eq_true rfl, Nat.le_of_ble_eq_true rfl⟩ (fun ck1 hck1 => ?_)
  refine lv_if_ne (tgt := 22) hx hb dX5_step_16 (by decide) (fun qck1 => ?_) (fun qck1 => ?_)
  · have hck1 : inR st k := hck1.elim (fun h => h.2) (fun h => absurd h.1 qck1)
    obtain ⟨j, hj, ek⟩ := inR_of (by omega) hck1
    subst ek
    have e1 : cl (nI j) = j := cl_nI (by omega)
    refine lv_iload_n hx hb dX5_step_22 rfl (lv_at hl 2 rfl) ?_
    by_cases w0 : w = nI 0
    · refine tpi w0 ?_
      refine lv_tableIn (off := 29) (tgt := 52) hx hb dX5_step_23 (by decide) (by decide) (by decide) (by decide) ?_
      refine lv_aload_n hx hb dX5_step_52 rfl (lv_at hl 0 rfl) ?_
      refine va_get (D := dd) (ci := 5) (C := RX5) (T := TX5) (N := 30) (v := .ref (a 26)) hx hb hts hiX5 hown hK hP 0 rfl rfl 26 (by decide) (hts (.fieldLink RX5 63 "SliceDriftModel" "isUp" "[Z") (by decide +kernel)) (fun _ h9 => h9) rfl dX5_step_53 ?_
      refine lv_iload_n hx hb dX5_step_56 rfl (lv_at hl 1 rfl) ?_
      refine va_zald hx hb hK hP 1 2 rfl rfl (i := nI j) (vp_in_nI (show j < 100 from (by omega)) (by decide)) dX5_step_57 ?_
      rw [nI_clamp (show j < 2 ^ 31 from Nat.lt_trans (show j < 100 from (by omega)) (by decide))]
      refine lv_if_eq (tgt := 65) hx hb dX5_step_58 (by decide) (fun q7 => ?_) (fun q7 => ?_)
      · refine lv_iconst (v := 0) hx hb dX5_step_65 (by decide) ?_
        exact ewI () hx hb hr hlocks hAe hS dX5_step_66 (by rw [stepR, if_pos hck1, e1, if_pos w0, if_pos q7]) (hP.sub [0, 1, 2, 3, 4] rfl) (hD.sub [0, 1, 2, 3, 4] (by decide) rfl)
      · refine lv_iconst (v := 1) hx hb dX5_step_61 (by decide) ?_
        refine lv_goto (tgt := 66) hx hb dX5_step_62 (by decide) ?_
        exact ewI () hx hb hr hlocks hAe hS dX5_step_66 (by rw [stepR, if_pos hck1, e1, if_pos w0, if_neg q7]) (hP.sub [0, 1, 2, 3, 4] rfl) (hD.sub [0, 1, 2, 3, 4] (by decide) rfl)
    by_cases w1 : w = nI 1
    · refine tpi w1 ?_
      refine lv_tableIn (off := 44) (tgt := 67) hx hb dX5_step_23 (by decide) (by decide) (by decide) (by decide) ?_
      refine lv_aload_n hx hb dX5_step_67 rfl (lv_at hl 0 rfl) ?_
      refine va_get (D := dd) (ci := 5) (C := RX5) (T := TX5) (N := 30) (v := .ref (a 27)) hx hb hts hiX5 hown hK hP 0 rfl rfl 27 (by decide) (hts (.fieldLink RX5 66 "SliceDriftModel" "isOff" "[Z") (by decide +kernel)) (fun _ h9 => h9) rfl dX5_step_68 ?_
      refine lv_iload_n hx hb dX5_step_71 rfl (lv_at hl 1 rfl) ?_
      refine va_zald hx hb hK hP 2 2 rfl rfl (i := nI j) (vp_in_nI (show j < 100 from (by omega)) (by decide)) dX5_step_72 ?_
      rw [nI_clamp (show j < 2 ^ 31 from Nat.lt_trans (show j < 100 from (by omega)) (by decide))]
      refine lv_if_eq (tgt := 80) hx hb dX5_step_73 (by decide) (fun q7 => ?_) (fun q7 => ?_)
      · refine lv_iconst (v := 0) hx hb dX5_step_80 (by decide) ?_
        exact ewI () hx hb hr hlocks hAe hS dX5_step_81 (by rw [stepR, if_pos hck1, e1, if_neg w0, if_pos w1, if_pos q7]) (hP.sub [0, 1, 2, 3, 4] rfl) (hD.sub [0, 1, 2, 3, 4] (by decide) rfl)
      · refine lv_iconst (v := 1) hx hb dX5_step_76 (by decide) ?_
        refine lv_goto (tgt := 81) hx hb dX5_step_77 (by decide) ?_
        exact ewI () hx hb hr hlocks hAe hS dX5_step_81 (by rw [stepR, if_pos hck1, e1, if_neg w0, if_pos w1, if_neg q7]) (hP.sub [0, 1, 2, 3, 4] rfl) (hD.sub [0, 1, 2, 3, 4] (by decide) rfl)
    by_cases w2 : w = nI 2
    · refine tpi w2 ?_
      refine lv_tableIn (off := 59) (tgt := 82) hx hb dX5_step_23 (by decide) (by decide) (by decide) (by decide) ?_
      refine lv_aload_n hx hb dX5_step_82 rfl (lv_at hl 0 rfl) ?_
      refine va_get (D := dd) (ci := 5) (C := RX5) (T := TX5) (N := 30) (v := .ref (a 28)) hx hb hts hiX5 hown hK hP 0 rfl rfl 28 (by decide) (hts (.fieldLink RX5 69 "SliceDriftModel" "stepRows" "[I") (by decide +kernel)) (fun _ h9 => h9) rfl dX5_step_83 ?_
      refine lv_iload_n hx hb dX5_step_86 rfl (lv_at hl 1 rfl) ?_
      refine va_iald hx hb hK hP 3 0 rfl rfl (i := nI j) (vp_in_nI (show j < 100 from (by omega)) (by decide)) dX5_step_87 ?_
      rw [nI_clamp (show j < 2 ^ 31 from Nat.lt_trans (show j < 100 from (by omega)) (by decide))]
      exact ewI () hx hb hr hlocks hAe hS dX5_step_88 (by rw [stepR, if_pos hck1, e1, if_neg w0, if_neg w1, if_pos w2]) (hP.sub [0, 1, 2, 3, 4] rfl) (hD.sub [0, 1, 2, 3, 4] (by decide) rfl)
    by_cases w3 : w = nI 3
    · refine tpi w3 ?_
      refine lv_tableIn (off := 66) (tgt := 89) hx hb dX5_step_23 (by decide) (by decide) (by decide) (by decide) ?_
      refine lv_aload_n hx hb dX5_step_89 rfl (lv_at hl 0 rfl) ?_
      refine va_get (D := dd) (ci := 5) (C := RX5) (T := TX5) (N := 30) (v := .ref (a 29)) hx hb hts hiX5 hown hK hP 0 rfl rfl 29 (by decide) (hts (.fieldLink RX5 72 "SliceDriftModel" "begins" "[I") (by decide +kernel)) (fun _ h9 => h9) rfl dX5_step_90 ?_
      refine lv_iload_n hx hb dX5_step_93 rfl (lv_at hl 1 rfl) ?_
      refine va_iald hx hb hK hP 4 0 rfl rfl (i := nI j) (vp_in_nI (show j < 100 from (by omega)) (by decide)) dX5_step_94 ?_
      rw [nI_clamp (show j < 2 ^ 31 from Nat.lt_trans (show j < 100 from (by omega)) (by decide))]
      exact ewI () hx hb hr hlocks hAe hS dX5_step_95 (by rw [stepR, if_pos hck1, e1, if_neg w0, if_neg w1, if_neg w2, if_pos w3]) (hP.sub [0, 1, 2, 3, 4] rfl) (hD.sub [0, 1, 2, 3, 4] (by decide) rfl)
    have wout : ∀ k, k ≤ 3 → ¬ w = nI k := fun k hk => by
      rcases (show k = 0 ∨ k = 1 ∨ k = 2 ∨ k = 3 by omega) with rfl | rfl | rfl | rfl <;> assumption
    refine lv_tableOut (tgt := 96) hx hb dX5_step_23 (sw_out (N := 3) (by decide) wout) (by decide) ?_
    refine lv_ldc (v := (-1000001)) hx hb hown (hts (.constant RX5 88 (-1000001)) (by decide +kernel)) dX5_step_96 ?_
    exact ewI () hx hb hr hlocks hAe hS dX5_step_98 (by rw [stepR, if_pos hck1, e1, if_neg w0, if_neg w1, if_neg w2, if_neg w3]) (hP.sub [0, 1, 2, 3, 4] rfl) (hD.sub [0, 1, 2, 3, 4] (by decide) rfl)
  · have hck1 : ¬ (inR st k) := hck1.elim (fun h => absurd (h.1.symm.trans qck1) (by decide)) (fun h => h.2)
    refine lv_ldc (v := (-1000001)) hx hb hown (hts (.constant RX5 88 (-1000001)) (by decide +kernel)) dX5_step_19 ?_
    exact ewI () hx hb hr hlocks hAe hS dX5_step_21 (by rw [stepR, if_neg hck1]) (hP.sub [0, 1, 2, 3, 4] rfl) (hD.sub [0, 1, 2, 3, 4] (by decide) rfl)

set_option maxHeartbeats 4000000 in
set_option maxRecDepth 100000 in
theorem r_slice (l : Launch) (dd : va_G) (cyI cyJ cyZ : ClassId) (qm : Nat) (a : Nat → Nat) (th ro fm sm : Int32) (ab be : Int64) (st al : Int32) (ln : Nat) (hln : ln ≤ 700) (fc fs sc ss mn hh : Nat → Int32) (i w : Int32) (sz : Nat) : Met l yX5_slice wsX5_slice ({ frames := 1, cells := 0, slots := 0, locals := 22 } : Room) (va_Pc [.ref qm, .int i, .int w] (Wr dd [(cyI, .int), (cyJ, .long), (cyZ, .boolean)] [(qm, .inr (5, mo a th ro (nI ln) fm sm ab be st al)), (a 6, .inl (cyI, 700, .inl fc)), (a 7, .inl (cyI, 700, .inl fs)), (a 8, .inl (cyI, 700, .inl sc)), (a 9, .inl (cyI, 700, .inl ss)), (a 11, .inl (cyI, 700, .inl mn)), (a 12, .inl (cyI, 700, .inl hh))] sz)) (va_Qi (S := Unit) (fun (r : Int32) (_ : Unit) => r = sliceR ln fc fs sc ss mn hh i w) (WQ dd [(qm, .inr (5, mo a th ro (nI ln) fm sm ab be st al)), (a 6, .inl (cyI, 700, .inl fc)), (a 7, .inl (cyI, 700, .inl fs)), (a 8, .inl (cyI, 700, .inl sc)), (a 9, .inl (cyI, 700, .inl ss)), (a 11, .inl (cyI, 700, .inl mn)), (a 12, .inl (cyI, 700, .inl hh))] sz (fun _ => [(qm, .inr (5, mo a 0 ro (nI ln) fm sm ab be st al)), (a 6, .inl (cyI, 700, .inl fc)), (a 7, .inl (cyI, 700, .inl fs)), (a 8, .inl (cyI, 700, .inl sc)), (a 9, .inl (cyI, 700, .inl ss)), (a 11, .inl (cyI, 700, .inl mn)), (a 12, .inl (cyI, 700, .inl hh))])) (va_A [(qm, .inr (5, mo a th ro (nI ln) fm sm ab be st al)), (a 6, .inl (cyI, 700, .inl fc)), (a 7, .inl (cyI, 700, .inl fs)), (a 8, .inl (cyI, 700, .inl sc)), (a 9, .inl (cyI, 700, .inl ss)), (a 11, .inl (cyI, 700, .inl mn)), (a 12, .inl (cyI, 700, .inl hh))] sz)) 0 0 (va_A [(qm, .inr (5, mo a th ro (nI ln) fm sm ab be st al)), (a 6, .inl (cyI, 700, .inl fc)), (a 7, .inl (cyI, 700, .inl fs)), (a 8, .inl (cyI, 700, .inl sc)), (a 9, .inl (cyI, 700, .inl ss)), (a 11, .inl (cyI, 700, .inl mn)), (a 12, .inl (cyI, 700, .inl hh))] sz) := by
  refine mkW (Qc := fun A => (va_Qi (S := Unit) (fun (r : Int32) (_ : Unit) => r = sliceR ln fc fs sc ss mn hh i w) (WQ dd [(qm, .inr (5, mo a th ro (nI ln) fm sm ab be st al)), (a 6, .inl (cyI, 700, .inl fc)), (a 7, .inl (cyI, 700, .inl fs)), (a 8, .inl (cyI, 700, .inl sc)), (a 9, .inl (cyI, 700, .inl ss)), (a 11, .inl (cyI, 700, .inl mn)), (a 12, .inl (cyI, 700, .inl hh))] sz (fun _ => [(qm, .inr (5, mo a 0 ro (nI ln) fm sm ab be st al)), (a 6, .inl (cyI, 700, .inl fc)), (a 7, .inl (cyI, 700, .inl fs)), (a 8, .inl (cyI, 700, .inl sc)), (a 9, .inl (cyI, 700, .inl ss)), (a 11, .inl (cyI, 700, .inl mn)), (a 12, .inl (cyI, 700, .inl hh))])) A)) (cc := cX5_slice) (maxL := 3) (by decide) rfl (Nat.le_of_ble_eq_true rfl) (lv0 := [(0, .ref qm), (1, .int i), (2, .int w)]) rfl ?_
  intro p e s m below meth c ls H A hx hb hr hml hown hlocks hts hmn hN hP hK hD hS hA hAe hl
  have hown : s.vm.findClass RX5 = some m.cls := hown
  have hiX5 : ∀ w ∈ wsX50, w ∈ wsX5_slice := by decide +kernel
  refine lv_aload_n hx hb dX5_slice_0 rfl (lv_at hl 0 rfl) ?_
  refine lv_iconst (v := 0) hx hb dX5_slice_1 (by decide) ?_
  refine va_put (D := dd) (ci := 5) (v := .int 0) (ty := .int) (C := RX5) (T := TX5) (N := 30) hx hb hts hiX5 tyX5 tyX5_ok nmX5 hown hK hP hD hS 0 rfl rfl 0 (by decide) (hts (.fieldLink RX5 75 "SliceDriftModel" "thrown" "I") (by decide +kernel)) (fun _ h9 => h9) rfl (by decide +kernel) rfl rfl (Nat.le_of_ble_eq_true rfl) dX5_slice_2 (fun H locs hP hD hS => ?_)
  have hP : va_P dd vwCl [(qm, .inr (5, mo a 0 ro (nI ln) fm sm ab be st al)), (a 6, .inl (cyI, 700, .inl fc)), (a 7, .inl (cyI, 700, .inl fs)), (a 8, .inl (cyI, 700, .inl sc)), (a 9, .inl (cyI, 700, .inl ss)), (a 11, .inl (cyI, 700, .inl mn)), (a 12, .inl (cyI, 700, .inl hh))] H := hP
  have hD : va_D A [(qm, .inr (5, mo a 0 ro (nI ln) fm sm ab be st al)), (a 6, .inl (cyI, 700, .inl fc)), (a 7, .inl (cyI, 700, .inl fs)), (a 8, .inl (cyI, 700, .inl sc)), (a 9, .inl (cyI, 700, .inl ss)), (a 11, .inl (cyI, 700, .inl mn)), (a 12, .inl (cyI, 700, .inl hh))] := hD
  refine lv_iload_n hx hb dX5_slice_5 rfl (lv_at hl 1 rfl) ?_
  refine lv_iconst (v := 0) hx hb dX5_slice_6 (by decide) ?_
  refine lv_aload_n hx hb dX5_slice_7 rfl (lv_at hl 0 rfl) ?_
  refine va_get (D := dd) (ci := 5) (C := RX5) (T := TX5) (N := 30) (v := .int (nI ln)) hx hb hts hiX5 hown hK hP 0 rfl rfl 5 (by decide) (hts (.fieldLink RX5 100 "SliceDriftModel" "listed" "I") (by decide +kernel)) (fun _ h9 => h9) rfl dX5_slice_8 ?_
  refine lv_iconst (v := 1) hx hb dX5_slice_11 (by decide) ?_
  refine lv_isub hx hb dX5_slice_12 ?_
  refine clSi (As := [.int i, .int 0, .int ((nI ln) - 1)]) (rest := []) ⟨hx, hb, hml, hown, hts⟩ (r_in l dd cyI cyJ cyZ i 0 (nI ln - 1)) gX5_slice_X5_in (n := 3) rfl ⟨rfl, rfl⟩ (by decide +kernel) ⟨Nat.le_of_ble_eq_true rfl, Nat.le_of_ble_eq_true rfl⟩ hN hK (hP.sub [] rfl) rfl hl.1 rfl (Nat.le_of_ble_eq_true rfl) dX5_slice_13 ⟨Nat.le_of_ble_eq_true rfl, Nat.le_of_ble_eq_true rfl⟩ (fun ck1 hck1 => ?_)
  refine lv_if_ne (tgt := 22) hx hb dX5_slice_16 (by decide) (fun qck1 => ?_) (fun qck1 => ?_)
  · have hck1 : inR ln i := hck1.elim (fun h => h.2) (fun h => absurd h.1 qck1)
    obtain ⟨j, hj, ek⟩ := inR_of (by omega) hck1
    subst ek
    have e1 : cl (nI j) = j := cl_nI (by omega)
    refine lv_iload_n hx hb dX5_slice_22 rfl (lv_at hl 2 rfl) ?_
    by_cases w0 : w = nI 0
    · refine tpi w0 ?_
      refine lv_tableIn (off := 37) (tgt := 60) hx hb dX5_slice_23 (by decide) (by decide) (by decide) (by decide) ?_
      refine lv_aload_n hx hb dX5_slice_60 rfl (lv_at hl 0 rfl) ?_
      refine va_get (D := dd) (ci := 5) (C := RX5) (T := TX5) (N := 30) (v := .ref (a 6)) hx hb hts hiX5 hown hK hP 0 rfl rfl 6 (by decide) (hts (.fieldLink RX5 20 "SliceDriftModel" "firstColumn" "[I") (by decide +kernel)) (fun _ h9 => h9) rfl dX5_slice_61 ?_
      refine lv_iload_n hx hb dX5_slice_64 rfl (lv_at hl 1 rfl) ?_
      refine va_iald hx hb hK hP 1 0 rfl rfl (i := nI j) (vp_in_nI (show j < 700 from (by omega)) (by decide)) dX5_slice_65 ?_
      rw [nI_clamp (show j < 2 ^ 31 from Nat.lt_trans (show j < 700 from (by omega)) (by decide))]
      exact ewI () hx hb hr hlocks hAe hS dX5_slice_66 (by rw [sliceR, if_pos hck1, e1, if_pos w0]) (hP.sub [0, 1, 2, 3, 4, 5, 6] rfl) (hD.sub [0, 1, 2, 3, 4, 5, 6] (by decide) rfl)
    by_cases w1 : w = nI 1
    · refine tpi w1 ?_
      refine lv_tableIn (off := 44) (tgt := 67) hx hb dX5_slice_23 (by decide) (by decide) (by decide) (by decide) ?_
      refine lv_aload_n hx hb dX5_slice_67 rfl (lv_at hl 0 rfl) ?_
      refine va_get (D := dd) (ci := 5) (C := RX5) (T := TX5) (N := 30) (v := .ref (a 7)) hx hb hts hiX5 hown hK hP 0 rfl rfl 7 (by decide) (hts (.fieldLink RX5 23 "SliceDriftModel" "firstSort" "[I") (by decide +kernel)) (fun _ h9 => h9) rfl dX5_slice_68 ?_
      refine lv_iload_n hx hb dX5_slice_71 rfl (lv_at hl 1 rfl) ?_
      refine va_iald hx hb hK hP 2 0 rfl rfl (i := nI j) (vp_in_nI (show j < 700 from (by omega)) (by decide)) dX5_slice_72 ?_
      rw [nI_clamp (show j < 2 ^ 31 from Nat.lt_trans (show j < 700 from (by omega)) (by decide))]
      exact ewI () hx hb hr hlocks hAe hS dX5_slice_73 (by rw [sliceR, if_pos hck1, e1, if_neg w0, if_pos w1]) (hP.sub [0, 1, 2, 3, 4, 5, 6] rfl) (hD.sub [0, 1, 2, 3, 4, 5, 6] (by decide) rfl)
    by_cases w2 : w = nI 2
    · refine tpi w2 ?_
      refine lv_tableIn (off := 51) (tgt := 74) hx hb dX5_slice_23 (by decide) (by decide) (by decide) (by decide) ?_
      refine lv_aload_n hx hb dX5_slice_74 rfl (lv_at hl 0 rfl) ?_
      refine va_get (D := dd) (ci := 5) (C := RX5) (T := TX5) (N := 30) (v := .ref (a 8)) hx hb hts hiX5 hown hK hP 0 rfl rfl 8 (by decide) (hts (.fieldLink RX5 26 "SliceDriftModel" "secondColumn" "[I") (by decide +kernel)) (fun _ h9 => h9) rfl dX5_slice_75 ?_
      refine lv_iload_n hx hb dX5_slice_78 rfl (lv_at hl 1 rfl) ?_
      refine va_iald hx hb hK hP 3 0 rfl rfl (i := nI j) (vp_in_nI (show j < 700 from (by omega)) (by decide)) dX5_slice_79 ?_
      rw [nI_clamp (show j < 2 ^ 31 from Nat.lt_trans (show j < 700 from (by omega)) (by decide))]
      exact ewI () hx hb hr hlocks hAe hS dX5_slice_80 (by rw [sliceR, if_pos hck1, e1, if_neg w0, if_neg w1, if_pos w2]) (hP.sub [0, 1, 2, 3, 4, 5, 6] rfl) (hD.sub [0, 1, 2, 3, 4, 5, 6] (by decide) rfl)
    by_cases w3 : w = nI 3
    · refine tpi w3 ?_
      refine lv_tableIn (off := 58) (tgt := 81) hx hb dX5_slice_23 (by decide) (by decide) (by decide) (by decide) ?_
      refine lv_aload_n hx hb dX5_slice_81 rfl (lv_at hl 0 rfl) ?_
      refine va_get (D := dd) (ci := 5) (C := RX5) (T := TX5) (N := 30) (v := .ref (a 9)) hx hb hts hiX5 hown hK hP 0 rfl rfl 9 (by decide) (hts (.fieldLink RX5 29 "SliceDriftModel" "secondSort" "[I") (by decide +kernel)) (fun _ h9 => h9) rfl dX5_slice_82 ?_
      refine lv_iload_n hx hb dX5_slice_85 rfl (lv_at hl 1 rfl) ?_
      refine va_iald hx hb hK hP 4 0 rfl rfl (i := nI j) (vp_in_nI (show j < 700 from (by omega)) (by decide)) dX5_slice_86 ?_
      rw [nI_clamp (show j < 2 ^ 31 from Nat.lt_trans (show j < 700 from (by omega)) (by decide))]
      exact ewI () hx hb hr hlocks hAe hS dX5_slice_87 (by rw [sliceR, if_pos hck1, e1, if_neg w0, if_neg w1, if_neg w2, if_pos w3]) (hP.sub [0, 1, 2, 3, 4, 5, 6] rfl) (hD.sub [0, 1, 2, 3, 4, 5, 6] (by decide) rfl)
    by_cases w4 : w = nI 4
    · refine tpi w4 ?_
      refine lv_tableIn (off := 65) (tgt := 88) hx hb dX5_slice_23 (by decide) (by decide) (by decide) (by decide) ?_
      refine lv_aload_n hx hb dX5_slice_88 rfl (lv_at hl 0 rfl) ?_
      refine va_get (D := dd) (ci := 5) (C := RX5) (T := TX5) (N := 30) (v := .ref (a 11)) hx hb hts hiX5 hown hK hP 0 rfl rfl 11 (by decide) (hts (.fieldLink RX5 36 "SliceDriftModel" "many" "[I") (by decide +kernel)) (fun _ h9 => h9) rfl dX5_slice_89 ?_
      refine lv_iload_n hx hb dX5_slice_92 rfl (lv_at hl 1 rfl) ?_
      refine va_iald hx hb hK hP 5 0 rfl rfl (i := nI j) (vp_in_nI (show j < 700 from (by omega)) (by decide)) dX5_slice_93 ?_
      rw [nI_clamp (show j < 2 ^ 31 from Nat.lt_trans (show j < 700 from (by omega)) (by decide))]
      exact ewI () hx hb hr hlocks hAe hS dX5_slice_94 (by rw [sliceR, if_pos hck1, e1, if_neg w0, if_neg w1, if_neg w2, if_neg w3, if_pos w4]) (hP.sub [0, 1, 2, 3, 4, 5, 6] rfl) (hD.sub [0, 1, 2, 3, 4, 5, 6] (by decide) rfl)
    by_cases w5 : w = nI 5
    · refine tpi w5 ?_
      refine lv_tableIn (off := 72) (tgt := 95) hx hb dX5_slice_23 (by decide) (by decide) (by decide) (by decide) ?_
      refine lv_aload_n hx hb dX5_slice_95 rfl (lv_at hl 0 rfl) ?_
      refine va_get (D := dd) (ci := 5) (C := RX5) (T := TX5) (N := 30) (v := .ref (a 12)) hx hb hts hiX5 hown hK hP 0 rfl rfl 12 (by decide) (hts (.fieldLink RX5 39 "SliceDriftModel" "hits" "[I") (by decide +kernel)) (fun _ h9 => h9) rfl dX5_slice_96 ?_
      refine lv_iload_n hx hb dX5_slice_99 rfl (lv_at hl 1 rfl) ?_
      refine va_iald hx hb hK hP 6 0 rfl rfl (i := nI j) (vp_in_nI (show j < 700 from (by omega)) (by decide)) dX5_slice_100 ?_
      rw [nI_clamp (show j < 2 ^ 31 from Nat.lt_trans (show j < 700 from (by omega)) (by decide))]
      exact ewI () hx hb hr hlocks hAe hS dX5_slice_101 (by rw [sliceR, if_pos hck1, e1, if_neg w0, if_neg w1, if_neg w2, if_neg w3, if_neg w4, if_pos w5]) (hP.sub [0, 1, 2, 3, 4, 5, 6] rfl) (hD.sub [0, 1, 2, 3, 4, 5, 6] (by decide) rfl)
    have wout : ∀ k, k ≤ 5 → ¬ w = nI k := fun k hk => by
      rcases (show k = 0 ∨ k = 1 ∨ k = 2 ∨ k = 3 ∨ k = 4 ∨ k = 5 by omega) with rfl | rfl | rfl | rfl | rfl | rfl <;> assumption
    refine lv_tableOut (tgt := 102) hx hb dX5_slice_23 (sw_out (N := 5) (by decide) wout) (by decide) ?_
    refine lv_ldc (v := (-1000001)) hx hb hown (hts (.constant RX5 88 (-1000001)) (by decide +kernel)) dX5_slice_102 ?_
    exact ewI () hx hb hr hlocks hAe hS dX5_slice_104 (by rw [sliceR, if_pos hck1, e1, if_neg w0, if_neg w1, if_neg w2, if_neg w3, if_neg w4, if_neg w5]) (hP.sub [0, 1, 2, 3, 4, 5, 6] rfl) (hD.sub [0, 1, 2, 3, 4, 5, 6] (by decide) rfl)
  · have hck1 : ¬ (inR ln i) := hck1.elim (fun h => absurd (h.1.symm.trans qck1) (by decide)) (fun h => h.2)
    refine lv_ldc (v := (-1000001)) hx hb hown (hts (.constant RX5 88 (-1000001)) (by decide +kernel)) dX5_slice_19 ?_
    exact ewI () hx hb hr hlocks hAe hS dX5_slice_21 (by rw [sliceR, if_neg hck1]) (hP.sub [0, 1, 2, 3, 4, 5, 6] rfl) (hD.sub [0, 1, 2, 3, 4, 5, 6] (by decide) rfl)

set_option maxHeartbeats 4000000 in
set_option maxRecDepth 100000 in
theorem r_member (l : Launch) (dd : va_G) (cyI cyJ cyZ : ClassId) (qm : Nat) (a : Nat → Nat) (th ro fm sm : Int32) (ab be : Int64) (st al : Int32) (ln : Nat) (hln : ln ≤ 700) (me : Nat → Nat) (hme : ∀ j, j < ln → me j < 2 ^ 62) (i k : Int32) (sz : Nat) : Met l yX5_member wsX5_member ({ frames := 1, cells := 0, slots := 0, locals := 22 } : Room) (va_Pc [.ref qm, .int i, .int k] (Wr dd [(cyI, .int), (cyJ, .long), (cyZ, .boolean)] [(qm, .inr (5, mo a th ro (nI ln) fm sm ab be st al)), (a 10, .inl (cyJ, 700, .inr (.inl (fun j => lN (me j)))))] sz)) (va_Qi (S := Unit) (fun (r : Int32) (_ : Unit) => r = memberR ln me i k) (WQ dd [(qm, .inr (5, mo a th ro (nI ln) fm sm ab be st al)), (a 10, .inl (cyJ, 700, .inr (.inl (fun j => lN (me j)))))] sz (fun _ => [(qm, .inr (5, mo a 0 ro (nI ln) fm sm ab be st al)), (a 10, .inl (cyJ, 700, .inr (.inl (fun j => lN (me j)))))])) (va_A [(qm, .inr (5, mo a th ro (nI ln) fm sm ab be st al)), (a 10, .inl (cyJ, 700, .inr (.inl (fun j => lN (me j)))))] sz)) 0 0 (va_A [(qm, .inr (5, mo a th ro (nI ln) fm sm ab be st al)), (a 10, .inl (cyJ, 700, .inr (.inl (fun j => lN (me j)))))] sz) := by
  refine mkW (Qc := fun A => (va_Qi (S := Unit) (fun (r : Int32) (_ : Unit) => r = memberR ln me i k) (WQ dd [(qm, .inr (5, mo a th ro (nI ln) fm sm ab be st al)), (a 10, .inl (cyJ, 700, .inr (.inl (fun j => lN (me j)))))] sz (fun _ => [(qm, .inr (5, mo a 0 ro (nI ln) fm sm ab be st al)), (a 10, .inl (cyJ, 700, .inr (.inl (fun j => lN (me j)))))])) A)) (cc := cX5_member) (maxL := 5) (by decide) rfl (Nat.le_of_ble_eq_true rfl) (lv0 := [(0, .ref qm), (1, .int i), (2, .int k)]) rfl ?_
  intro p e s m below meth c ls H A hx hb hr hml hown hlocks hts hmn hN hP hK hD hS hA hAe hl
  have hown : s.vm.findClass RX5 = some m.cls := hown
  have hiX5 : ∀ w ∈ wsX50, w ∈ wsX5_member := by decide +kernel
  refine lv_aload_n hx hb dX5_member_0 rfl (lv_at hl 0 rfl) ?_
  refine lv_iconst (v := 0) hx hb dX5_member_1 (by decide) ?_
  refine va_put (D := dd) (ci := 5) (v := .int 0) (ty := .int) (C := RX5) (T := TX5) (N := 30) hx hb hts hiX5 tyX5 tyX5_ok nmX5 hown hK hP hD hS 0 rfl rfl 0 (by decide) (hts (.fieldLink RX5 75 "SliceDriftModel" "thrown" "I") (by decide +kernel)) (fun _ h9 => h9) rfl (by decide +kernel) rfl rfl (Nat.le_of_ble_eq_true rfl) dX5_member_2 (fun H locs hP hD hS => ?_)
  have hP : va_P dd vwCl [(qm, .inr (5, mo a 0 ro (nI ln) fm sm ab be st al)), (a 10, .inl (cyJ, 700, .inr (.inl (fun j => lN (me j)))))] H := hP
  have hD : va_D A [(qm, .inr (5, mo a 0 ro (nI ln) fm sm ab be st al)), (a 10, .inl (cyJ, 700, .inr (.inl (fun j => lN (me j)))))] := hD
  refine lv_iload_n hx hb dX5_member_5 rfl (lv_at hl 1 rfl) ?_
  refine lv_iconst (v := 0) hx hb dX5_member_6 (by decide) ?_
  refine lv_aload_n hx hb dX5_member_7 rfl (lv_at hl 0 rfl) ?_
  refine va_get (D := dd) (ci := 5) (C := RX5) (T := TX5) (N := 30) (v := .int (nI ln)) hx hb hts hiX5 hown hK hP 0 rfl rfl 5 (by decide) (hts (.fieldLink RX5 100 "SliceDriftModel" "listed" "I") (by decide +kernel)) (fun _ h9 => h9) rfl dX5_member_8 ?_
  refine lv_iconst (v := 1) hx hb dX5_member_11 (by decide) ?_
  refine lv_isub hx hb dX5_member_12 ?_
  refine clSi (As := [.int i, .int 0, .int ((nI ln) - 1)]) (rest := []) ⟨hx, hb, hml, hown, hts⟩ (r_in l dd cyI cyJ cyZ i 0 (nI ln - 1)) gX5_member_X5_in (n := 3) rfl ⟨rfl, rfl⟩ (by decide +kernel) ⟨Nat.le_of_ble_eq_true rfl, Nat.le_of_ble_eq_true rfl⟩ hN hK (hP.sub [] rfl) rfl hl.1 rfl (Nat.le_of_ble_eq_true rfl) dX5_member_13 ⟨Nat.le_of_ble_eq_true rfl, Nat.le_of_ble_eq_true rfl⟩ (fun ck1 hck1 => ?_)
  refine lv_if_ne (tgt := 22) hx hb dX5_member_16 (by decide) (fun qck1 => ?_) (fun qck1 => ?_)
  · have hck1 : inR ln i := hck1.elim (fun h => h.2) (fun h => absurd h.1 qck1)
    obtain ⟨j, hj, ek⟩ := inR_of (by omega) hck1
    subst ek
    have e1 : cl (nI j) = j := cl_nI (by omega)
    refine lv_iload_n hx hb dX5_member_22 rfl (lv_at hl 2 rfl) ?_
    refine lv_if_ge (tgt := 29) hx hb dX5_member_23 (by decide) (fun q => ?_) (fun q => ?_)
    · refine lv_iconst (v := 0) hx hb dX5_member_29 (by decide) ?_
      refine lv_istore_n (lv' := [(3, .int 0), (0, .ref qm), (1, .int (nI j)), (2, .int k)]) hx hb dX5_member_30 rfl hl (by decide) rfl (fun ls hl => ?_)
      refine lv_iconst (v := 0) hx hb dX5_member_31 (by decide) ?_
      refine lv_istore (lv' := [(4, .int 0), (3, .int 0), (0, .ref qm), (1, .int (nI j)), (2, .int k)]) hx hb dX5_member_32 hl (by decide) rfl (fun ls hl => ?_)
      have loop : ∀ (k9 : Nat) (r9 c9 : Nat) (H : Heap) (locs : List Loc), r9 + k9 = 48 → mbs (me j).testBit k k9 r9 c9 = mbs (me j).testBit k 48 0 0 → va_P dd vwCl [(qm, .inr (5, mo a 0 ro (nI ln) fm sm ab be st al)), (a 10, .inl (cyJ, 700, .inr (.inl (fun j => lN (me j)))))] H → va_D A [(qm, .inr (5, mo a 0 ro (nI ln) fm sm ab be st al)), (a 10, .inl (cyJ, 700, .inr (.inl (fun j => lN (me j)))))] → va_S A s.heap H locs → ∀ ls : Array Slot, lv_has ls 5 [(4, .int (nI r9)), (3, .int (nI c9)), (0, .ref qm), (1, .int (nI j)), (2, .int k)] → W p l e ({ frames := 1, cells := 0, slots := 0, locals := 22 } : Room) s m ([.ref qm, .int (nI j), .int k] : List Value).toArray below meth c H locs 0 0 (MQ below (va_Qi (S := Unit) (fun (r : Int32) (_ : Unit) => r = memberR ln me (nI j) k) (WQ dd [(qm, .inr (5, mo a th ro (nI ln) fm sm ab be st al)), (a 10, .inl (cyJ, 700, .inr (.inl (fun j => lN (me j)))))] sz (fun _ => [(qm, .inr (5, mo a 0 ro (nI ln) fm sm ab be st al)), (a 10, .inl (cyJ, 700, .inr (.inl (fun j => lN (me j)))))])) A) ([.ref qm, .int (nI j), .int k] : List Value).toArray s 0 0 A) (F0 m 34 ls []) := by
        intro k9
        induction k9 with
        | zero =>
          intro r9 c9 H locs hr9 he hP hD hS ls hl
          refine lv_iload hx hb dX5_member_34 (lv_at hl 0 rfl) ?_
          refine lv_bipush (v := 48) hx hb dX5_member_36 (by decide) ?_
          refine lv_icmp_ge (tgt := 74) hx hb dX5_member_38 (by decide) (fun q7 => ?_) (fun q7 => ?_)
          · refine lv_iconst (v := (-1)) hx hb dX5_member_74 (by decide) ?_
            exact ewI () hx hb hr hlocks hAe hS dX5_member_75 (by rw [memberR, if_pos hck1, if_neg (ile q), e1, ← he]; rfl) (hP.sub [0, 1] rfl) (hD.sub [0, 1] (by decide) rfl)
          · exact absurd (nI_le (show 48 ≤ r9 by omega) (by omega)) q7
        | succ k9 ih =>
          intro r9 c9 H locs hr9 he hP hD hS ls hl
          refine lv_iload hx hb dX5_member_34 (lv_at hl 0 rfl) ?_
          refine lv_bipush (v := 48) hx hb dX5_member_36 (by decide) ?_
          refine lv_icmp_ge (tgt := 74) hx hb dX5_member_38 (by decide) (fun q7 => ?_) (fun q7 => ?_)
          · exact absurd q7 (nI_ge (show r9 < 48 by omega) (by decide))
          · refine lv_aload_n hx hb dX5_member_41 rfl (lv_at hl 2 rfl) ?_
            refine va_get (D := dd) (ci := 5) (C := RX5) (T := TX5) (N := 30) (v := .ref (a 10)) hx hb hts hiX5 hown hK hP 0 rfl rfl 10 (by decide) (hts (.fieldLink RX5 32 "SliceDriftModel" "members" "[J") (by decide +kernel)) (fun _ h9 => h9) rfl dX5_member_42 ?_
            refine lv_iload_n hx hb dX5_member_45 rfl (lv_at hl 3 rfl) ?_
            refine va_lald hx hb hK hP 1 1 rfl rfl (i := nI j) (vp_in_nI (show j < 700 from (by omega)) (by decide)) dX5_member_46 ?_
            rw [nI_clamp (show j < 2 ^ 31 from Nat.lt_trans (show j < 700 from (by omega)) (by decide))]
            refine lv_iload hx hb dX5_member_47 (lv_at hl 0 rfl) ?_
            refine lv_lshr hx hb dX5_member_49 rfl ?_
            refine lv_lconst (v := 1) hx hb dX5_member_50 (by decide) ?_
            refine lv_land hx hb dX5_member_51 ?_
            refine tpl (show (((lN (me j)) >>> ((nI r9).toInt64 &&& 63)) &&& 1 : Int64) = if (me j).testBit r9 = true then (1 : Int64) else 0 from bits_lN (hme j hj) r9 (by omega)) ?_
            refine lv_lconst (v := 1) hx hb dX5_member_52 (by decide) ?_
            refine W.lcmp hx hb dX5_member_53 ?_
            refine lv_if_ne (tgt := 68) hx hb dX5_member_54 (by decide) (fun q8 => ?_) (fun q8 => ?_)
            · have hf : (me j).testBit r9 = false := (Bool.not_eq_true _).mp (fun h => q8 (by rw [h]; decide))
              refine lv_iinc (v := nI (r9 + 1)) (lv' := [(4, .int (nI (r9 + 1))), (3, .int (nI c9)), (0, .ref qm), (1, .int (nI j)), (2, .int k)]) hx hb dX5_member_68 hl (k := 0) rfl (nI_1 r9) (by decide) rfl (fun ls hl => ?_)
              refine lv_goto (tgt := 34) hx hb dX5_member_71 (by decide) ?_
              exact ih (r9 + 1) c9 H locs (by omega) (by rw [← he]; exact (mbs_n hf).symm) hP hD hS ls (lv_sub hl [0, 1, 2, 3, 4] rfl)
            · have hf : (me j).testBit r9 = true := (Bool.not_eq_false _).mp (fun h => absurd q8 (by rw [h]; decide))
              refine lv_iload_n hx hb dX5_member_57 rfl (lv_at hl 1 rfl) ?_
              refine lv_iload_n hx hb dX5_member_58 rfl (lv_at hl 4 rfl) ?_
              refine lv_icmp_ne (tgt := 65) hx hb dX5_member_59 (by decide) (fun q9 => ?_) (fun q9 => ?_)
              · refine lv_iinc (v := nI (c9 + 1)) (lv' := [(3, .int (nI (c9 + 1))), (4, .int (nI r9)), (0, .ref qm), (1, .int (nI j)), (2, .int k)]) hx hb dX5_member_65 hl (k := 1) rfl (nI_1 c9) (by decide) rfl (fun ls hl => ?_)
                refine lv_iinc (v := nI (r9 + 1)) (lv' := [(4, .int (nI (r9 + 1))), (3, .int (nI (c9 + 1))), (0, .ref qm), (1, .int (nI j)), (2, .int k)]) hx hb dX5_member_68 hl (k := 1) rfl (nI_1 r9) (by decide) rfl (fun ls hl => ?_)
                refine lv_goto (tgt := 34) hx hb dX5_member_71 (by decide) ?_
                exact ih (r9 + 1) (c9 + 1) H locs (by omega) (by rw [← he]; exact (mbs_y hf q9).symm) hP hD hS ls (lv_sub hl [0, 1, 2, 3, 4] rfl)
              · refine lv_iload hx hb dX5_member_62 (lv_at hl 0 rfl) ?_
                exact ewI () hx hb hr hlocks hAe hS dX5_member_64 (by rw [memberR, if_pos hck1, if_neg (ile q), e1, ← he]; exact (mbs_e hf q9).symm) (hP.sub [0, 1] rfl) (hD.sub [0, 1] (by decide) rfl)
      exact loop 48 0 0 H _ rfl rfl hP hD hS ls (lv_sub hl [0, 1, 2, 3, 4] rfl)
    · refine lv_ldc (v := (-1000002)) hx hb hown (hts (.constant RX5 83 (-1000002)) (by decide +kernel)) dX5_member_26 ?_
      exact ewI () hx hb hr hlocks hAe hS dX5_member_28 (by rw [memberR, if_pos hck1, if_pos (inle q)]) (hP.sub [0, 1] rfl) (hD.sub [0, 1] (by decide) rfl)
  · have hck1 : ¬ (inR ln i) := hck1.elim (fun h => absurd (h.1.symm.trans qck1) (by decide)) (fun h => h.2)
    refine lv_ldc (v := (-1000001)) hx hb hown (hts (.constant RX5 88 (-1000001)) (by decide +kernel)) dX5_member_19 ?_
    exact ewI () hx hb hr hlocks hAe hS dX5_member_21 (by rw [memberR, if_neg hck1]) (hP.sub [0, 1] rfl) (hD.sub [0, 1] (by decide) rfl)
