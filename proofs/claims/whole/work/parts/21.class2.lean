theorem and0 {f g : Nat → Bool} {n : Nat} (hn : n ≤ 48) : lg_cmp (lN (mk (fun i => f i && g i) n)) 0 = 0 ↔ cnt (fun i => f i && g i) n = 0 := (lN0 (mk62 _ hn)).trans mk0_cnt

set_option maxHeartbeats 4000000 in
set_option maxRecDepth 100000 in
theorem x_fresh (l : Launch) (dd : va_G) (cyI cyJ cyZ : ClassId) (qx ql qk qa : Nat) (qr qt qh n : Nat) (hi : Int64) (tI : Nat → Int32) (hv : Nat → Int64) (hI sI : Nat → Int32) (hR : RowsOk n hI sI hi hv) (y f b t i : Int32) : Met l yX4_fresh wsX4_fresh ({ frames := 2, cells := 0, slots := 0, locals := 50 } : Room) (va_Pc [.ref qx, .int y, .int f, .int b, .int t, .int i] (Rd dd [(cyI, .int), (cyJ, .long), (cyZ, .boolean)] [(qx, .inr (4, [.ref qr, .ref ql, .ref qk, .ref qa])), (qr, .inr (2, [.int (nI n), .long hi, .ref qt, .ref qh])), (qt, .inl (cyI, 48, .inl tI)), (qh, .inl (cyJ, 55, .inr (.inl hv)))])) (vp_Si (fun r => r = freshR n tI sI y f b t i)) 0 0 (fun _ => False) := by
  refine mkR (cc := cX4_fresh) (maxL := 14) (by decide) rfl (Nat.le_of_ble_eq_true rfl) (lv0 := [(0, .ref qx), (1, .int y), (2, .int f), (3, .int b), (4, .int t), (5, .int i)]) rfl ?_
  intro p e s m below meth c ls hx hb hr hml hown hlocks hts hN hP hK hl
  have hown : s.vm.findClass RX4 = some m.cls := hown
  have hiX2 : ∀ w ∈ wsX20, w ∈ wsX4_fresh := by decide +kernel
  have hiX4 : ∀ w ∈ wsX40, w ∈ wsX4_fresh := by decide +kernel
  have hn := hR.1
  have hH := hR.2.2.1
  refine lv_iload_n hx hb dX4_fresh_0 rfl (lv_at hl 1 rfl) ?_
  refine clSi (As := [.int y]) (rest := []) ⟨hx, hb, hml, hown, hts⟩ (c_isColumn l dd cyI cyJ cyZ y) gX4_fresh_X4_isColumn (n := 1) rfl ⟨rfl, rfl⟩ (by decide +kernel) ⟨Nat.le_of_ble_eq_true rfl, Nat.le_of_ble_eq_true rfl⟩ hN hK (hP.sub [] rfl) rfl hl.1 rfl (Nat.le_of_ble_eq_true rfl) dX4_fresh_1 ⟨Nat.le_of_ble_eq_true rfl, Nat.le_of_ble_eq_true rfl⟩ (fun ck1 hck1 => ?_)
  refine lv_if_ne (tgt := 10) hx hb dX4_fresh_4 (by decide) (fun qck1 => ?_) (fun qck1 => ?_)
  · have hck1 : inC y := hck1.elim (fun h => h.2) (fun h => absurd h.1 qck1)
    refine lv_iload_n hx hb dX4_fresh_10 rfl (lv_at hl 2 rfl) ?_
    refine lv_iload_n hx hb dX4_fresh_11 rfl (lv_at hl 3 rfl) ?_
    refine lv_iload hx hb dX4_fresh_12 (lv_at hl 4 rfl) ?_
    refine clSi (As := [.int f, .int b, .int t]) (rest := []) ⟨hx, hb, hml, hown, hts⟩ (c_areTimes l dd cyI cyJ cyZ f b t) gX4_fresh_X4_areTimes (n := 3) rfl ⟨rfl, rfl⟩ (by decide +kernel) ⟨Nat.le_of_ble_eq_true rfl, Nat.le_of_ble_eq_true rfl⟩ hN hK (hP.sub [] rfl) rfl hl.1 rfl (Nat.le_of_ble_eq_true rfl) dX4_fresh_14 ⟨Nat.le_of_ble_eq_true rfl, Nat.le_of_ble_eq_true rfl⟩ (fun ck2 hck2 => ?_)
    refine lv_if_eq (tgt := 26) hx hb dX4_fresh_17 (by decide) (fun qck2 => ?_) (fun qck2 => ?_)
    · have hck2 : ¬ (inW f b t) := hck2.elim (fun h => absurd (h.1.symm.trans qck2) (by decide)) (fun h => h.2)
      refine lv_ldc (v := (-1000002)) hx hb hown (hts (.constant RX4 41 (-1000002)) (by decide +kernel)) dX4_fresh_26 ?_
      exact edI hx hb hr hlocks dX4_fresh_28 (by rw [freshR, if_pos hck1, if_neg (fun x : inW f b t ∧ -1 ≤ i => hck2 x.1)])
    · have hck2 : inW f b t := hck2.elim (fun h => h.2) (fun h => absurd h.1 qck2)
      refine lv_iload hx hb dX4_fresh_20 (lv_at hl 5 rfl) ?_
      refine lv_iconst (v := (-1)) hx hb dX4_fresh_22 (by decide) ?_
      refine lv_icmp_ge (tgt := 29) hx hb dX4_fresh_23 (by decide) (fun q3 => ?_) (fun q3 => ?_)
      · obtain ⟨co, hco, ey⟩ := inC_of hck1
        subst ey
        have ec : cl (nI co) = co := cl_nI (by omega)
        refine lv_aload_n hx hb dX4_fresh_29 rfl (lv_at hl 0 rfl) ?_
        refine va_get (D := dd) (ci := 4) (C := RX4) (T := TX4) (N := 4) (v := .ref qr) hx hb hts hiX4 hown hK hP 0 rfl rfl 0 (by decide) (hts (.fieldLink RX4 10 "SliceDrift" "rows" "LSliceDrift$Rows;") (by decide +kernel)) (fun _ h9 => h9) rfl dX4_fresh_30 ?_
        refine lv_iload_n hx hb dX4_fresh_33 rfl (lv_at hl 2 rfl) ?_
        refine lv_iload_n hx hb dX4_fresh_34 rfl (lv_at hl 3 rfl) ?_
        refine clVl (As := [.int f, .int b]) (rest := []) (b := qr) (vc := (RX2, TX2, 4)) ⟨hx, hb, hml, hown, hts⟩ (c_between l dd cyI cyJ cyZ qr qt qh n hi tI hv f b hn) gX4_fresh_X2_between (ci := 2) rfl (q0 := 0) rfl (n := 2) rfl ⟨rfl, rfl⟩ (by decide +kernel) ⟨Nat.le_of_ble_eq_true rfl, Nat.le_of_ble_eq_true rfl⟩ hN hK (hP.sub [1, 2, 3] rfl) rfl hl.1 rfl (Nat.le_of_ble_eq_true rfl) dX4_fresh_35 ⟨Nat.le_of_ble_eq_true rfl, Nat.le_of_ble_eq_true rfl⟩ (fun r1 hr1 => ?_)
        subst hr1
        refine lv_lstore (lv' := [(6, .long (lN (mk (win tI f b) n))), (0, .ref qx), (1, .int (nI co)), (2, .int f), (3, .int b), (4, .int t), (5, .int i)]) hx hb dX4_fresh_38 hl (by decide) rfl (fun ls hl => ?_)
        refine lv_aload_n hx hb dX4_fresh_40 rfl (lv_at hl 1 rfl) ?_
        refine va_get (D := dd) (ci := 4) (C := RX4) (T := TX4) (N := 4) (v := .ref qr) hx hb hts hiX4 hown hK hP 0 rfl rfl 0 (by decide) (hts (.fieldLink RX4 10 "SliceDrift" "rows" "LSliceDrift$Rows;") (by decide +kernel)) (fun _ h9 => h9) rfl dX4_fresh_41 ?_
        refine lv_iload_n hx hb dX4_fresh_44 rfl (lv_at hl 4 rfl) ?_
        refine lv_iload hx hb dX4_fresh_45 (lv_at hl 5 rfl) ?_
        refine clVl (As := [.int b, .int t]) (rest := []) (b := qr) (vc := (RX2, TX2, 4)) ⟨hx, hb, hml, hown, hts⟩ (c_between l dd cyI cyJ cyZ qr qt qh n hi tI hv b t hn) gX4_fresh_X2_between (ci := 2) rfl (q0 := 0) rfl (n := 2) rfl ⟨rfl, rfl⟩ (by decide +kernel) ⟨Nat.le_of_ble_eq_true rfl, Nat.le_of_ble_eq_true rfl⟩ hN hK (hP.sub [1, 2, 3] rfl) rfl hl.1 rfl (Nat.le_of_ble_eq_true rfl) dX4_fresh_47 ⟨Nat.le_of_ble_eq_true rfl, Nat.le_of_ble_eq_true rfl⟩ (fun r2 hr2 => ?_)
        subst hr2
        refine lv_lstore (lv' := [(8, .long (lN (mk (win tI b t) n))), (6, .long (lN (mk (win tI f b) n))), (0, .ref qx), (1, .int (nI co)), (2, .int f), (3, .int b), (4, .int t), (5, .int i)]) hx hb dX4_fresh_50 hl (by decide) rfl (fun ls hl => ?_)
        refine lv_iconst (v := 0) hx hb dX4_fresh_52 (by decide) ?_
        refine lv_istore (lv' := [(10, .int 0), (8, .long (lN (mk (win tI b t) n))), (6, .long (lN (mk (win tI f b) n))), (0, .ref qx), (1, .int (nI co)), (2, .int f), (3, .int b), (4, .int t), (5, .int i)]) hx hb dX4_fresh_53 hl (by decide) rfl (fun ls hl => ?_)
        refine lv_iconst (v := 0) hx hb dX4_fresh_55 (by decide) ?_
        refine lv_istore (lv' := [(11, .int 0), (10, .int 0), (8, .long (lN (mk (win tI b t) n))), (6, .long (lN (mk (win tI f b) n))), (0, .ref qx), (1, .int (nI co)), (2, .int f), (3, .int b), (4, .int t), (5, .int i)]) hx hb dX4_fresh_56 hl (by decide) rfl (fun ls hl => ?_)
        have loop : ∀ (k : Nat) (v c9 : Nat), v + k = 10 → frs (isFr (win tI f b) (win tI b t) sI co n) i k v c9 = frs (isFr (win tI f b) (win tI b t) sI co n) i 10 0 0 → ∀ ls : Array Slot, lv_has ls 14 [(11, .int (nI v)), (10, .int (nI c9)), (8, .long (lN (mk (win tI b t) n))), (6, .long (lN (mk (win tI f b) n))), (0, .ref qx), (1, .int (nI co)), (5, .int i)] → W p l e ({ frames := 2, cells := 0, slots := 0, locals := 50 } : Room) s m ([.ref qx, .int (nI co), .int f, .int b, .int t, .int i] : List Value).toArray below meth c s.heap [] 0 0 (MQ below (vp_Si (fun r => r = freshR n tI sI (nI co) f b t i)) ([.ref qx, .int (nI co), .int f, .int b, .int t, .int i] : List Value).toArray s 0 0 (fun _ => False)) (F0 m 58 ls []) := by
          intro k
          induction k with
          | zero =>
            intro v c9 hv9 he ls hl
            refine lv_iload hx hb dX4_fresh_58 (lv_at hl 0 rfl) ?_
            refine lv_bipush (v := 10) hx hb dX4_fresh_60 (by decide) ?_
            refine lv_icmp_ge (tgt := 116) hx hb dX4_fresh_62 (by decide) (fun q7 => ?_) (fun q7 => ?_)
            · refine lv_iload hx hb dX4_fresh_116 (lv_at hl 6 rfl) ?_
              refine lv_iconst (v := (-1)) hx hb dX4_fresh_118 (by decide) ?_
              refine lv_icmp_ne (tgt := 127) hx hb dX4_fresh_119 (by decide) (fun q8 => ?_) (fun q8 => ?_)
              · refine lv_iconst (v := (-1)) hx hb dX4_fresh_127 (by decide) ?_
                exact edI hx hb hr hlocks dX4_fresh_128 (by rw [freshR, if_pos (show inC (nI co) from hck1), if_pos (show inW f b t ∧ -1 ≤ i from ⟨hck2, q3⟩), ec, ← he]; simp only [frs]; rw [if_neg q8])
              · refine lv_iload hx hb dX4_fresh_122 (lv_at hl 1 rfl) ?_
                refine lv_goto (tgt := 128) hx hb dX4_fresh_124 (by decide) ?_
                exact edI hx hb hr hlocks dX4_fresh_128 (by rw [freshR, if_pos (show inC (nI co) from hck1), if_pos (show inW f b t ∧ -1 ≤ i from ⟨hck2, q3⟩), ec, ← he]; simp only [frs]; rw [if_pos q8])
            · exact absurd (nI_le (show 10 ≤ v by omega) (by omega)) q7
          | succ k ih =>
            intro v c9 hv9 he ls hl
            refine lv_iload hx hb dX4_fresh_58 (lv_at hl 0 rfl) ?_
            refine lv_bipush (v := 10) hx hb dX4_fresh_60 (by decide) ?_
            refine lv_icmp_ge (tgt := 116) hx hb dX4_fresh_62 (by decide) (fun q7 => ?_) (fun q7 => ?_)
            · exact absurd q7 (nI_ge (show v < 10 by omega) (by decide))
            · refine lv_aload_n hx hb dX4_fresh_65 rfl (lv_at hl 4 rfl) ?_
              refine va_get (D := dd) (ci := 4) (C := RX4) (T := TX4) (N := 4) (v := .ref qr) hx hb hts hiX4 hown hK hP 0 rfl rfl 0 (by decide) (hts (.fieldLink RX4 10 "SliceDrift" "rows" "LSliceDrift$Rows;") (by decide +kernel)) (fun _ h9 => h9) rfl dX4_fresh_66 ?_
              refine lv_iload_n hx hb dX4_fresh_69 rfl (lv_at hl 5 rfl) ?_
              refine lv_iload hx hb dX4_fresh_70 (lv_at hl 0 rfl) ?_
              refine clVl (As := [.int (nI co), .int (nI v)]) (rest := []) (b := qr) (vc := (RX2, TX2, 4)) ⟨hx, hb, hml, hown, hts⟩ (c_withSort l dd cyI cyJ cyZ qr qt qh n hi tI hv co v hco (by omega)) gX4_fresh_X2_withSort (ci := 2) rfl (q0 := 0) rfl (n := 2) rfl ⟨rfl, rfl⟩ (by decide +kernel) ⟨Nat.le_of_ble_eq_true rfl, Nat.le_of_ble_eq_true rfl⟩ hN hK (hP.sub [1, 2, 3] rfl) rfl hl.1 rfl (Nat.le_of_ble_eq_true rfl) dX4_fresh_72 ⟨Nat.le_of_ble_eq_true rfl, Nat.le_of_ble_eq_true rfl⟩ (fun r4 h4 => ?_)
              rw [hH co hco v (by omega)] at h4
              subst h4
              refine lv_lstore (lv' := [(12, .long (lN (mk (hav sI co v) n))), (11, .int (nI v)), (10, .int (nI c9)), (8, .long (lN (mk (win tI b t) n))), (6, .long (lN (mk (win tI f b) n))), (0, .ref qx), (1, .int (nI co)), (5, .int i)]) hx hb dX4_fresh_75 hl (by decide) rfl (fun ls hl => ?_)
              refine lv_lload hx hb dX4_fresh_77 (lv_at hl 0 rfl) ?_
              refine lv_lload hx hb dX4_fresh_79 (lv_at hl 4 rfl) ?_
              refine lv_land hx hb dX4_fresh_81 ?_
              refine tpl (show ((lN (mk (hav sI co v) n)) &&& (lN (mk (win tI f b) n)) : Int64) = lN (mk (fun i => hav sI co v i && win tI f b i) n) from lN_and hn) ?_
              refine lv_lconst (v := 0) hx hb dX4_fresh_82 (by decide) ?_
              refine W.lcmp hx hb dX4_fresh_83 ?_
              refine lv_if_ne (tgt := 110) hx hb dX4_fresh_84 (by decide) (fun q8 => ?_) (fun q8 => ?_)
              · have f0 : ¬ cs (win tI f b) sI co n v = 0 := fun h => q8 ((and0 hn).mpr h)
                refine lv_iinc (v := nI (v + 1)) (lv' := [(11, .int (nI (v + 1))), (12, .long (lN (mk (hav sI co v) n))), (10, .int (nI c9)), (8, .long (lN (mk (win tI b t) n))), (6, .long (lN (mk (win tI f b) n))), (0, .ref qx), (1, .int (nI co)), (5, .int i)]) hx hb dX4_fresh_110 hl (k := 1) rfl (nI_1 v) (by decide) rfl (fun ls hl => ?_)
                refine lv_goto (tgt := 58) hx hb dX4_fresh_113 (by decide) ?_
                exact ih (v + 1) c9 (by omega) (by rw [← he]; exact (frs_n (by simp [isFr, f0])).symm) ls (lv_sub hl [0, 2, 3, 4, 5, 6, 7] rfl)
              · have f0 : cs (win tI f b) sI co n v = 0 := (and0 hn).mp q8
                refine lv_lload hx hb dX4_fresh_87 (lv_at hl 0 rfl) ?_
                refine lv_lload hx hb dX4_fresh_89 (lv_at hl 3 rfl) ?_
                refine lv_land hx hb dX4_fresh_91 ?_
                refine tpl (show ((lN (mk (hav sI co v) n)) &&& (lN (mk (win tI b t) n)) : Int64) = lN (mk (fun i => hav sI co v i && win tI b t i) n) from lN_and hn) ?_
                refine lv_lconst (v := 0) hx hb dX4_fresh_92 (by decide) ?_
                refine W.lcmp hx hb dX4_fresh_93 ?_
                refine lv_if_eq (tgt := 110) hx hb dX4_fresh_94 (by decide) (fun q9 => ?_) (fun q9 => ?_)
                · have g0 : cs (win tI b t) sI co n v = 0 := (and0 hn).mp q9
                  refine lv_iinc (v := nI (v + 1)) (lv' := [(11, .int (nI (v + 1))), (12, .long (lN (mk (hav sI co v) n))), (10, .int (nI c9)), (8, .long (lN (mk (win tI b t) n))), (6, .long (lN (mk (win tI f b) n))), (0, .ref qx), (1, .int (nI co)), (5, .int i)]) hx hb dX4_fresh_110 hl (k := 1) rfl (nI_1 v) (by decide) rfl (fun ls hl => ?_)
                  refine lv_goto (tgt := 58) hx hb dX4_fresh_113 (by decide) ?_
                  exact ih (v + 1) c9 (by omega) (by rw [← he]; exact (frs_n (by simp [isFr, g0])).symm) ls (lv_sub hl [0, 2, 3, 4, 5, 6, 7] rfl)
                · have g0 : ¬ cs (win tI b t) sI co n v = 0 := fun h => q9 ((and0 hn).mpr h)
                  have hP0 : isFr (win tI f b) (win tI b t) sI co n v = true := by simp [isFr, f0, g0]
                  refine lv_iload hx hb dX4_fresh_97 (lv_at hl 2 rfl) ?_
                  refine lv_iload hx hb dX4_fresh_99 (lv_at hl 7 rfl) ?_
                  refine lv_icmp_ne (tgt := 107) hx hb dX4_fresh_101 (by decide) (fun q10 => ?_) (fun q10 => ?_)
                  · refine lv_iinc (v := nI (c9 + 1)) (lv' := [(10, .int (nI (c9 + 1))), (12, .long (lN (mk (hav sI co v) n))), (11, .int (nI v)), (8, .long (lN (mk (win tI b t) n))), (6, .long (lN (mk (win tI f b) n))), (0, .ref qx), (1, .int (nI co)), (5, .int i)]) hx hb dX4_fresh_107 hl (k := 2) rfl (nI_1 c9) (by decide) rfl (fun ls hl => ?_)
                    refine lv_iinc (v := nI (v + 1)) (lv' := [(11, .int (nI (v + 1))), (10, .int (nI (c9 + 1))), (12, .long (lN (mk (hav sI co v) n))), (8, .long (lN (mk (win tI b t) n))), (6, .long (lN (mk (win tI f b) n))), (0, .ref qx), (1, .int (nI co)), (5, .int i)]) hx hb dX4_fresh_110 hl (k := 2) rfl (nI_1 v) (by decide) rfl (fun ls hl => ?_)
                    refine lv_goto (tgt := 58) hx hb dX4_fresh_113 (by decide) ?_
                    exact ih (v + 1) (c9 + 1) (by omega) (by rw [← he]; exact (frs_y hP0 q10).symm) ls (lv_sub hl [0, 1, 3, 4, 5, 6, 7] rfl)
                  · refine lv_iload hx hb dX4_fresh_104 (lv_at hl 1 rfl) ?_
                    exact edI hx hb hr hlocks dX4_fresh_106 (by rw [freshR, if_pos (show inC (nI co) from hck1), if_pos (show inW f b t ∧ -1 ≤ i from ⟨hck2, q3⟩), ec, ← he]; exact (frs_e hP0 q10).symm)
        exact loop 10 0 0 rfl rfl ls (lv_sub hl [0, 1, 2, 3, 4, 5, 9] rfl)
      · refine lv_ldc (v := (-1000002)) hx hb hown (hts (.constant RX4 41 (-1000002)) (by decide +kernel)) dX4_fresh_26 ?_
        exact edI hx hb hr hlocks dX4_fresh_28 (by rw [freshR, if_pos hck1, if_neg (fun x : inW f b t ∧ -1 ≤ i => q3 x.2)])
  · have hck1 : ¬ (inC y) := hck1.elim (fun h => absurd (h.1.symm.trans qck1) (by decide)) (fun h => h.2)
    refine lv_ldc (v := (-1000001)) hx hb hown (hts (.constant RX4 58 (-1000001)) (by decide +kernel)) dX4_fresh_7 ?_
    exact edI hx hb hr hlocks dX4_fresh_9 (by rw [freshR, if_neg hck1])

set_option maxHeartbeats 4000000 in
set_option maxRecDepth 100000 in
theorem c_beginOf (l : Launch) (dd : va_G) (cyI cyJ cyZ : ClassId) (qa qa1 qa2 qa3 : Nat) (ba le sz al k : Int32) : Met l yX0_beginOf wsX0_beginOf ({ frames := 0, cells := 0, slots := 0, locals := 0 } : Room) (va_Pc [.ref qa, .int k] (Rd dd [(cyI, .int), (cyJ, .long), (cyZ, .boolean)] [(qa, .inr (0, [.int ba, .int le, .int sz, .int al, .ref qa1, .ref qa2, .ref qa3]))])) (vp_Si (fun r => r = ba + k * le)) 0 0 (fun _ => False) := by
  refine mkR (cc := cX0_beginOf) (maxL := 2) (by decide) rfl (Nat.le_of_ble_eq_true rfl) (lv0 := [(0, .ref qa), (1, .int k)]) rfl ?_
  intro p e s m below meth c ls hx hb hr hml hown hlocks hts hN hP hK hl
  have hown : s.vm.findClass RX0 = some m.cls := hown
  have hiX0 : ∀ w ∈ wsX00, w ∈ wsX0_beginOf := by decide +kernel
  refine lv_aload_n hx hb dX0_beginOf_0 rfl (lv_at hl 0 rfl) ?_
  refine va_get (D := dd) (ci := 0) (C := RX0) (T := TX0) (N := 7) (v := .int ba) hx hb hts hiX0 hown hK hP 0 rfl rfl 0 (by decide) (hts (.fieldLink RX0 9 "SliceDrift$Alarms" "base" "I") (by decide +kernel)) (fun _ h9 => h9) rfl dX0_beginOf_1 ?_
  refine lv_iload_n hx hb dX0_beginOf_4 rfl (lv_at hl 1 rfl) ?_
  refine lv_aload_n hx hb dX0_beginOf_5 rfl (lv_at hl 0 rfl) ?_
  refine va_get (D := dd) (ci := 0) (C := RX0) (T := TX0) (N := 7) (v := .int le) hx hb hts hiX0 hown hK hP 0 rfl rfl 1 (by decide) (hts (.fieldLink RX0 15 "SliceDrift$Alarms" "length" "I") (by decide +kernel)) (fun _ h9 => h9) rfl dX0_beginOf_6 ?_
  refine lv_imul hx hb dX0_beginOf_9 ?_
  refine lv_iadd hx hb dX0_beginOf_10 ?_
  exact edI hx hb hr hlocks dX0_beginOf_11 rfl

set_option maxHeartbeats 4000000 in
set_option maxRecDepth 100000 in
theorem x_step (l : Launch) (dd : va_G) (cyI cyJ cyZ : ClassId) (qx qr ql qk : Nat) (qa qa1 qa2 qa3 : Nat) (ba le al : Int32) (st : Nat) (hst : st ≤ 100) (uI oI rI bI : Nat → Int32) (hbI : ∀ k, k < st → bI k = ba + nI k * le) (k w : Int32) : Met l yX4_step wsX4_step ({ frames := 1, cells := 0, slots := 0, locals := 30 } : Room) (va_Pc [.ref qx, .int k, .int w] (Rd dd [(cyI, .int), (cyJ, .long), (cyZ, .boolean)] [(qx, .inr (4, [.ref qr, .ref ql, .ref qk, .ref qa])), (qa, .inr (0, [.int ba, .int le, .int (nI st), .int al, .ref qa1, .ref qa2, .ref qa3])), (qa1, .inl (cyI, 100, .inl rI)), (qa2, .inl (cyZ, 100, .inl oI)), (qa3, .inl (cyZ, 100, .inl uI))])) (vp_Si (fun r => r = stepR st uI oI rI bI k w)) 0 0 (fun _ => False) := by
  refine mkR (cc := cX4_step) (maxL := 3) (by decide) rfl (Nat.le_of_ble_eq_true rfl) (lv0 := [(0, .ref qx), (1, .int k), (2, .int w)]) rfl ?_
  intro p e s m below meth c ls hx hb hr hml hown hlocks hts hN hP hK hl
  have hown : s.vm.findClass RX4 = some m.cls := hown
  have hiX0 : ∀ w ∈ wsX00, w ∈ wsX4_step := by decide +kernel
  have hiX4 : ∀ w ∈ wsX40, w ∈ wsX4_step := by decide +kernel
  refine lv_iload_n hx hb dX4_step_0 rfl (lv_at hl 1 rfl) ?_
  refine lv_iconst (v := 0) hx hb dX4_step_1 (by decide) ?_
  refine lv_aload_n hx hb dX4_step_2 rfl (lv_at hl 0 rfl) ?_
  refine va_get (D := dd) (ci := 4) (C := RX4) (T := TX4) (N := 4) (v := .ref qa) hx hb hts hiX4 hown hK hP 0 rfl rfl 3 (by decide) (hts (.fieldLink RX4 33 "SliceDrift" "alarms" "LSliceDrift$Alarms;") (by decide +kernel)) (fun _ h9 => h9) rfl dX4_step_3 ?_
  refine va_getN (D := dd) (ci := 0) (C := RX0) (T := TX0) (N := 7) (v := .int (nI st)) hx hb hts hiX0 hown hK hP 1 rfl rfl 2 (by decide) (hN.f 3 rfl) (fun _ h9 => h9) rfl dX4_step_6 ?_
  refine lv_iconst (v := 1) hx hb dX4_step_9 (by decide) ?_
  refine lv_isub hx hb dX4_step_10 ?_
  refine clSi (As := [.int k, .int 0, .int ((nI st) - 1)]) (rest := []) ⟨hx, hb, hml, hown, hts⟩ (c_isWithin l dd cyI cyJ cyZ k 0 (nI st - 1)) gX4_step_X4_isWithin (n := 3) rfl ⟨rfl, rfl⟩ (by decide +kernel) ⟨Nat.le_of_ble_eq_true rfl, Nat.le_of_ble_eq_true rfl⟩ hN hK (hP.sub [] rfl) rfl hl.1 rfl (Nat.le_of_ble_eq_true rfl) dX4_step_11 ⟨Nat.le_of_ble_eq_true rfl, Nat.le_of_ble_eq_true rfl⟩ (fun ck1 hck1 => ?_)
  refine lv_if_ne (tgt := 20) hx hb dX4_step_14 (by decide) (fun qck1 => ?_) (fun qck1 => ?_)
  · have hck1 : inR st k := hck1.elim (fun h => h.2) (fun h => absurd h.1 qck1)
    obtain ⟨j, hj, ek⟩ := inR_of (by omega) hck1
    subst ek
    have e1 : cl (nI j) = j := cl_nI (by omega)
    refine lv_iload_n hx hb dX4_step_20 rfl (lv_at hl 2 rfl) ?_
    by_cases w0 : w = nI 0
    · refine tpi w0 ?_
      refine lv_tableIn (off := 31) (tgt := 52) hx hb dX4_step_21 (by decide) (by decide) (by decide) (by decide) ?_
      refine lv_aload_n hx hb dX4_step_52 rfl (lv_at hl 0 rfl) ?_
      refine va_get (D := dd) (ci := 4) (C := RX4) (T := TX4) (N := 4) (v := .ref qa) hx hb hts hiX4 hown hK hP 0 rfl rfl 3 (by decide) (hts (.fieldLink RX4 33 "SliceDrift" "alarms" "LSliceDrift$Alarms;") (by decide +kernel)) (fun _ h9 => h9) rfl dX4_step_53 ?_
      refine va_getN (D := dd) (ci := 0) (C := RX0) (T := TX0) (N := 7) (v := .ref qa3) hx hb hts hiX0 hown hK hP 1 rfl rfl 6 (by decide) (hN.f 4 rfl) (fun _ h9 => h9) rfl dX4_step_56 ?_
      refine lv_iload_n hx hb dX4_step_59 rfl (lv_at hl 1 rfl) ?_
      refine va_zald hx hb hK hP 4 2 rfl rfl (i := nI j) (vp_in_nI (show j < 100 from (by omega)) (by decide)) dX4_step_60 ?_
      rw [nI_clamp (show j < 2 ^ 31 from Nat.lt_trans (show j < 100 from (by omega)) (by decide))]
      refine clSi (As := [.int (uI j)]) (rest := []) ⟨hx, hb, hml, hown, hts⟩ (c_asNumber l dd cyI cyJ cyZ (uI j)) gX4_step_X4_asNumber (n := 1) rfl ⟨rfl, rfl⟩ (by decide +kernel) ⟨Nat.le_of_ble_eq_true rfl, Nat.le_of_ble_eq_true rfl⟩ hN hK (hP.sub [] rfl) rfl hl.1 rfl (Nat.le_of_ble_eq_true rfl) dX4_step_61 ⟨Nat.le_of_ble_eq_true rfl, Nat.le_of_ble_eq_true rfl⟩ (fun rr hrr => ?_)
      exact edI hx hb hr hlocks dX4_step_64 (by rw [stepR, if_pos hck1, e1, if_pos w0]; exact hrr)
    by_cases w1 : w = nI 1
    · refine tpi w1 ?_
      refine lv_tableIn (off := 44) (tgt := 65) hx hb dX4_step_21 (by decide) (by decide) (by decide) (by decide) ?_
      refine lv_aload_n hx hb dX4_step_65 rfl (lv_at hl 0 rfl) ?_
      refine va_get (D := dd) (ci := 4) (C := RX4) (T := TX4) (N := 4) (v := .ref qa) hx hb hts hiX4 hown hK hP 0 rfl rfl 3 (by decide) (hts (.fieldLink RX4 33 "SliceDrift" "alarms" "LSliceDrift$Alarms;") (by decide +kernel)) (fun _ h9 => h9) rfl dX4_step_66 ?_
      refine va_getN (D := dd) (ci := 0) (C := RX0) (T := TX0) (N := 7) (v := .ref qa2) hx hb hts hiX0 hown hK hP 1 rfl rfl 5 (by decide) (hN.f 5 rfl) (fun _ h9 => h9) rfl dX4_step_69 ?_
      refine lv_iload_n hx hb dX4_step_72 rfl (lv_at hl 1 rfl) ?_
      refine va_zald hx hb hK hP 3 2 rfl rfl (i := nI j) (vp_in_nI (show j < 100 from (by omega)) (by decide)) dX4_step_73 ?_
      rw [nI_clamp (show j < 2 ^ 31 from Nat.lt_trans (show j < 100 from (by omega)) (by decide))]
      refine clSi (As := [.int (oI j)]) (rest := []) ⟨hx, hb, hml, hown, hts⟩ (c_asNumber l dd cyI cyJ cyZ (oI j)) gX4_step_X4_asNumber (n := 1) rfl ⟨rfl, rfl⟩ (by decide +kernel) ⟨Nat.le_of_ble_eq_true rfl, Nat.le_of_ble_eq_true rfl⟩ hN hK (hP.sub [] rfl) rfl hl.1 rfl (Nat.le_of_ble_eq_true rfl) dX4_step_74 ⟨Nat.le_of_ble_eq_true rfl, Nat.le_of_ble_eq_true rfl⟩ (fun rr hrr => ?_)
      exact edI hx hb hr hlocks dX4_step_77 (by rw [stepR, if_pos hck1, e1, if_neg w0, if_pos w1]; exact hrr)
    by_cases w2 : w = nI 2
    · refine tpi w2 ?_
      refine lv_tableIn (off := 57) (tgt := 78) hx hb dX4_step_21 (by decide) (by decide) (by decide) (by decide) ?_
      refine lv_aload_n hx hb dX4_step_78 rfl (lv_at hl 0 rfl) ?_
      refine va_get (D := dd) (ci := 4) (C := RX4) (T := TX4) (N := 4) (v := .ref qa) hx hb hts hiX4 hown hK hP 0 rfl rfl 3 (by decide) (hts (.fieldLink RX4 33 "SliceDrift" "alarms" "LSliceDrift$Alarms;") (by decide +kernel)) (fun _ h9 => h9) rfl dX4_step_79 ?_
      refine va_getN (D := dd) (ci := 0) (C := RX0) (T := TX0) (N := 7) (v := .ref qa1) hx hb hts hiX0 hown hK hP 1 rfl rfl 4 (by decide) (hN.f 6 rfl) (fun _ h9 => h9) rfl dX4_step_82 ?_
      refine lv_iload_n hx hb dX4_step_85 rfl (lv_at hl 1 rfl) ?_
      refine va_iald hx hb hK hP 2 0 rfl rfl (i := nI j) (vp_in_nI (show j < 100 from (by omega)) (by decide)) dX4_step_86 ?_
      rw [nI_clamp (show j < 2 ^ 31 from Nat.lt_trans (show j < 100 from (by omega)) (by decide))]
      exact edI hx hb hr hlocks dX4_step_87 (by rw [stepR, if_pos hck1, e1, if_neg w0, if_neg w1, if_pos w2])
    by_cases w3 : w = nI 3
    · refine tpi w3 ?_
      refine lv_tableIn (off := 67) (tgt := 88) hx hb dX4_step_21 (by decide) (by decide) (by decide) (by decide) ?_
      refine lv_aload_n hx hb dX4_step_88 rfl (lv_at hl 0 rfl) ?_
      refine va_get (D := dd) (ci := 4) (C := RX4) (T := TX4) (N := 4) (v := .ref qa) hx hb hts hiX4 hown hK hP 0 rfl rfl 3 (by decide) (hts (.fieldLink RX4 33 "SliceDrift" "alarms" "LSliceDrift$Alarms;") (by decide +kernel)) (fun _ h9 => h9) rfl dX4_step_89 ?_
      refine lv_iload_n hx hb dX4_step_92 rfl (lv_at hl 1 rfl) ?_
      refine clVi (As := [.int (nI j)]) (rest := []) (b := qa) (vc := (RX0, TX0, 7)) ⟨hx, hb, hml, hown, hts⟩ (c_beginOf l dd cyI cyJ cyZ qa qa1 qa2 qa3 ba le (nI st) al (nI j)) gX4_step_X0_beginOf (ci := 0) rfl (q0 := 0) rfl (n := 1) rfl ⟨rfl, rfl⟩ (by decide +kernel) ⟨Nat.le_of_ble_eq_true rfl, Nat.le_of_ble_eq_true rfl⟩ hN hK (hP.sub [1] rfl) rfl hl.1 rfl (Nat.le_of_ble_eq_true rfl) dX4_step_93 ⟨Nat.le_of_ble_eq_true rfl, Nat.le_of_ble_eq_true rfl⟩ (fun rr hrr => ?_)
      exact edI hx hb hr hlocks dX4_step_96 (by rw [stepR, if_pos hck1, e1, if_neg w0, if_neg w1, if_neg w2, if_pos w3, hbI j hj]; exact hrr)
    have wout : ∀ k, k ≤ 3 → ¬ w = nI k := fun k hk => by
      rcases (show k = 0 ∨ k = 1 ∨ k = 2 ∨ k = 3 by omega) with rfl | rfl | rfl | rfl <;> assumption
    refine lv_tableOut (tgt := 97) hx hb dX4_step_21 (sw_out (N := 3) (by decide) wout) (by decide) ?_
    refine lv_ldc (v := (-1000001)) hx hb hown (hts (.constant RX4 58 (-1000001)) (by decide +kernel)) dX4_step_97 ?_
    exact edI hx hb hr hlocks dX4_step_99 (by rw [stepR, if_pos hck1, e1, if_neg w0, if_neg w1, if_neg w2, if_neg w3])
  · have hck1 : ¬ (inR st k) := hck1.elim (fun h => absurd (h.1.symm.trans qck1) (by decide)) (fun h => h.2)
    refine lv_ldc (v := (-1000001)) hx hb hown (hts (.constant RX4 58 (-1000001)) (by decide +kernel)) dX4_step_17 ?_
    exact edI hx hb hr hlocks dX4_step_19 (by rw [stepR, if_neg hck1])

set_option maxHeartbeats 4000000 in
set_option maxRecDepth 100000 in
theorem x_count (l : Launch) (dd : va_G) (cyI cyJ cyZ : ClassId) (qx ql qk qa : Nat) (qr qt qh n : Nat) (hi : Int64) (tI : Nat → Int32) (hv : Nat → Int64) (hI sI : Nat → Int32) (hR : RowsOk n hI sI hi hv) (ql1 ql2 ql3 qa1 qa2 qa3 ln st : Nat) (lh : Int64) (ba le al : Int32) (w : Int32) : Met l yX4_count wsX4_count ({ frames := 3, cells := 0, slots := 0, locals := 66 } : Room) (va_Pc [.ref qx, .int w] (Rd dd [(cyI, .int), (cyJ, .long), (cyZ, .boolean)] [(qx, .inr (4, [.ref qr, .ref ql, .ref qk, .ref qa])), (qr, .inr (2, [.int (nI n), .long hi, .ref qt, .ref qh])), (qt, .inl (cyI, 48, .inl tI)), (qh, .inl (cyJ, 55, .inr (.inl hv))), (ql, .inr (3, [.int (nI ln), .long lh, .ref ql1, .ref ql2, .ref ql3])), (qa, .inr (0, [.int ba, .int le, .int (nI st), .int al, .ref qa1, .ref qa2, .ref qa3]))])) (vp_Si (fun r => r = countR n hI sI ln st al w)) 0 0 (fun _ => False) := by
  refine mkR (cc := cX4_count) (maxL := 2) (by decide) rfl (Nat.le_of_ble_eq_true rfl) (lv0 := [(0, .ref qx), (1, .int w)]) rfl ?_
  intro p e s m below meth c ls hx hb hr hml hown hlocks hts hN hP hK hl
  have hown : s.vm.findClass RX4 = some m.cls := hown
  have hiX0 : ∀ w ∈ wsX00, w ∈ wsX4_count := by decide +kernel
  have hiX2 : ∀ w ∈ wsX20, w ∈ wsX4_count := by decide +kernel
  have hiX3 : ∀ w ∈ wsX30, w ∈ wsX4_count := by decide +kernel
  have hiX4 : ∀ w ∈ wsX40, w ∈ wsX4_count := by decide +kernel
  have hn := hR.1
  have hi9 := hR.2.1
  refine lv_iload_n hx hb dX4_count_0 rfl (lv_at hl 1 rfl) ?_
  by_cases w0 : w = nI 0
  · refine tpi w0 ?_
    refine lv_tableIn (off := 39) (tgt := 40) hx hb dX4_count_1 (by decide) (by decide) (by decide) (by decide) ?_
    refine lv_aload_n hx hb dX4_count_40 rfl (lv_at hl 0 rfl) ?_
    refine va_get (D := dd) (ci := 4) (C := RX4) (T := TX4) (N := 4) (v := .ref qr) hx hb hts hiX4 hown hK hP 0 rfl rfl 0 (by decide) (hts (.fieldLink RX4 10 "SliceDrift" "rows" "LSliceDrift$Rows;") (by decide +kernel)) (fun _ h9 => h9) rfl dX4_count_41 ?_
    refine va_getN (D := dd) (ci := 2) (C := RX2) (T := TX2) (N := 4) (v := .int (nI n)) hx hb hts hiX2 hown hK hP 1 rfl rfl 0 (by decide) (hN.f 8 rfl) (fun _ h9 => h9) rfl dX4_count_44 ?_
    exact edI hx hb hr hlocks dX4_count_47 (by rw [countR, if_pos w0])
  by_cases w1 : w = nI 1
  · refine tpi w1 ?_
    refine lv_tableIn (off := 47) (tgt := 48) hx hb dX4_count_1 (by decide) (by decide) (by decide) (by decide) ?_
    refine lv_aload_n hx hb dX4_count_48 rfl (lv_at hl 0 rfl) ?_
    refine va_get (D := dd) (ci := 4) (C := RX4) (T := TX4) (N := 4) (v := .ref qr) hx hb hts hiX4 hown hK hP 0 rfl rfl 0 (by decide) (hts (.fieldLink RX4 10 "SliceDrift" "rows" "LSliceDrift$Rows;") (by decide +kernel)) (fun _ h9 => h9) rfl dX4_count_49 ?_
    refine va_getN (D := dd) (ci := 2) (C := RX2) (T := TX2) (N := 4) (v := .long hi) hx hb hts hiX2 hown hK hP 1 rfl rfl 1 (by decide) (hN.f 10 rfl) (fun _ h9 => h9) rfl dX4_count_52 ?_
    refine tpl (show (hi : Int64) = lN (mk (hit hI) n) from hi9) ?_
    refine clSi (As := [.long (lN (mk (hit hI) n))]) (rest := []) ⟨hx, hb, hml, hown, hts⟩ (c_bitCount l dd cyI cyJ cyZ (mk (hit hI) n) (mk64 _ hn)) gX4_count_J13_bitCount_95d88 (n := 1) rfl ⟨rfl, rfl⟩ (by decide +kernel) ⟨Nat.le_of_ble_eq_true rfl, Nat.le_of_ble_eq_true rfl⟩ hN hK (hP.sub [] rfl) rfl hl.1 rfl (Nat.le_of_ble_eq_true rfl) dX4_count_55 ⟨Nat.le_of_ble_eq_true rfl, Nat.le_of_ble_eq_true rfl⟩ (fun r1 h1 => ?_)
    exact edI hx hb hr hlocks dX4_count_58 (by rw [countR, if_neg w0, if_pos w1]; rw [h1, cnt_mk _ (Nat.le_trans hn (by decide))])
  by_cases w2 : w = nI 2
  · refine tpi w2 ?_
    refine lv_tableIn (off := 58) (tgt := 59) hx hb dX4_count_1 (by decide) (by decide) (by decide) (by decide) ?_
    refine lv_aload_n hx hb dX4_count_59 rfl (lv_at hl 0 rfl) ?_
    refine va_get (D := dd) (ci := 4) (C := RX4) (T := TX4) (N := 4) (v := .ref ql) hx hb hts hiX4 hown hK hP 0 rfl rfl 1 (by decide) (hts (.fieldLink RX4 19 "SliceDrift" "list" "LSliceDrift$SliceList;") (by decide +kernel)) (fun _ h9 => h9) rfl dX4_count_60 ?_
    refine va_getN (D := dd) (ci := 3) (C := RX3) (T := TX3) (N := 5) (v := .int (nI ln)) hx hb hts hiX3 hown hK hP 4 rfl rfl 0 (by decide) (hN.f 11 rfl) (fun _ h9 => h9) rfl dX4_count_63 ?_
    exact edI hx hb hr hlocks dX4_count_66 (by rw [countR, if_neg w0, if_neg w1, if_pos w2])
  by_cases w3 : w = nI 3
  · refine tpi w3 ?_
    refine lv_tableIn (off := 66) (tgt := 67) hx hb dX4_count_1 (by decide) (by decide) (by decide) (by decide) ?_
    refine lv_aload_n hx hb dX4_count_67 rfl (lv_at hl 0 rfl) ?_
    refine va_get (D := dd) (ci := 4) (C := RX4) (T := TX4) (N := 4) (v := .ref qa) hx hb hts hiX4 hown hK hP 0 rfl rfl 3 (by decide) (hts (.fieldLink RX4 33 "SliceDrift" "alarms" "LSliceDrift$Alarms;") (by decide +kernel)) (fun _ h9 => h9) rfl dX4_count_68 ?_
    refine va_getN (D := dd) (ci := 0) (C := RX0) (T := TX0) (N := 7) (v := .int (nI st)) hx hb hts hiX0 hown hK hP 5 rfl rfl 2 (by decide) (hN.f 3 rfl) (fun _ h9 => h9) rfl dX4_count_71 ?_
    exact edI hx hb hr hlocks dX4_count_74 (by rw [countR, if_neg w0, if_neg w1, if_neg w2, if_pos w3])
  by_cases w4 : w = nI 4
  · refine tpi w4 ?_
    refine lv_tableIn (off := 74) (tgt := 75) hx hb dX4_count_1 (by decide) (by decide) (by decide) (by decide) ?_
    refine lv_aload_n hx hb dX4_count_75 rfl (lv_at hl 0 rfl) ?_
    refine va_get (D := dd) (ci := 4) (C := RX4) (T := TX4) (N := 4) (v := .ref qa) hx hb hts hiX4 hown hK hP 0 rfl rfl 3 (by decide) (hts (.fieldLink RX4 33 "SliceDrift" "alarms" "LSliceDrift$Alarms;") (by decide +kernel)) (fun _ h9 => h9) rfl dX4_count_76 ?_
    refine va_getN (D := dd) (ci := 0) (C := RX0) (T := TX0) (N := 7) (v := .int al) hx hb hts hiX0 hown hK hP 5 rfl rfl 3 (by decide) (hN.f 7 rfl) (fun _ h9 => h9) rfl dX4_count_79 ?_
    exact edI hx hb hr hlocks dX4_count_82 (by rw [countR, if_neg w0, if_neg w1, if_neg w2, if_neg w3, if_pos w4])
  by_cases w5 : w = nI 5
  · refine tpi w5 ?_
    refine lv_tableIn (off := 82) (tgt := 83) hx hb dX4_count_1 (by decide) (by decide) (by decide) (by decide) ?_
    refine lv_aload_n hx hb dX4_count_83 rfl (lv_at hl 0 rfl) ?_
    refine va_get (D := dd) (ci := 4) (C := RX4) (T := TX4) (N := 4) (v := .ref qr) hx hb hts hiX4 hown hK hP 0 rfl rfl 0 (by decide) (hts (.fieldLink RX4 10 "SliceDrift" "rows" "LSliceDrift$Rows;") (by decide +kernel)) (fun _ h9 => h9) rfl dX4_count_84 ?_
    refine clVl (As := []) (rest := []) (b := qr) (vc := (RX2, TX2, 4)) ⟨hx, hb, hml, hown, hts⟩ (c_lackingSome l dd cyI cyJ cyZ qr qt qh n hi tI hv hI sI hR) gX4_count_X2_lackingSome (ci := 2) rfl (q0 := 0) rfl (n := 0) rfl ⟨rfl, rfl⟩ (by decide +kernel) ⟨Nat.le_of_ble_eq_true rfl, Nat.le_of_ble_eq_true rfl⟩ hN hK (hP.sub [1, 2, 3] rfl) rfl hl.1 rfl (Nat.le_of_ble_eq_true rfl) dX4_count_87 ⟨Nat.le_of_ble_eq_true rfl, Nat.le_of_ble_eq_true rfl⟩ (fun r1 h1 => ?_)
    subst h1
    refine clSi (As := [.long (lN (mk (lak sI 5) n))]) (rest := []) ⟨hx, hb, hml, hown, hts⟩ (c_bitCount l dd cyI cyJ cyZ (mk (lak sI 5) n) (mk64 _ hn)) gX4_count_J13_bitCount_95d88 (n := 1) rfl ⟨rfl, rfl⟩ (by decide +kernel) ⟨Nat.le_of_ble_eq_true rfl, Nat.le_of_ble_eq_true rfl⟩ hN hK (hP.sub [] rfl) rfl hl.1 rfl (Nat.le_of_ble_eq_true rfl) dX4_count_90 ⟨Nat.le_of_ble_eq_true rfl, Nat.le_of_ble_eq_true rfl⟩ (fun r2 h2 => ?_)
    exact edI hx hb hr hlocks dX4_count_93 (by rw [countR, if_neg w0, if_neg w1, if_neg w2, if_neg w3, if_neg w4, if_pos w5]; rw [h2, cnt_mk _ (Nat.le_trans hn (by decide))])
  have wout : ∀ k, k ≤ 5 → ¬ w = nI k := fun k hk => by
    rcases (show k = 0 ∨ k = 1 ∨ k = 2 ∨ k = 3 ∨ k = 4 ∨ k = 5 by omega) with rfl | rfl | rfl | rfl | rfl | rfl <;> assumption
  refine lv_tableOut (tgt := 94) hx hb dX4_count_1 (sw_out (N := 5) (by decide) wout) (by decide) ?_
  refine lv_ldc (v := (-1000001)) hx hb hown (hts (.constant RX4 58 (-1000001)) (by decide +kernel)) dX4_count_94 ?_
  exact edI hx hb hr hlocks dX4_count_96 (by rw [countR, if_neg w0, if_neg w1, if_neg w2, if_neg w3, if_neg w4, if_neg w5])
