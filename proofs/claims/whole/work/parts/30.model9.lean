abbrev RA : Type := (Nat → Int32) × (Nat → Int32) × (Nat → Int32) × (Nat → Int32) × (Nat → Int64) × (Nat → Int32) × (Nat → Int32)
/-- what the reference's arrays tell of the entry at j -/
def RelR (hm : Nat) (u : RA) (j : Nat) (x : En) : Prop := u.1 j = nI (x.2.1 / 11) ∧ u.2.1 j = nI (x.2.1 % 11) ∧ u.2.2.1 j = c2 x.2.2 ∧ u.2.2.2.1 j = s2 x.2.2 ∧ u.2.2.2.2.1 j = lN x.1 ∧ u.2.2.2.2.2.1 j = nI (pop x.1) ∧ u.2.2.2.2.2.2 j = nI (pop (x.1 &&& hm))
def LstR (hm : Nat) (L : Ls) (u : RA) : Prop := ∀ j, j < L.1 → RelR hm u j (L.2 j)
def updR (u : RA) (i : Nat) (a b c0 d : Int32) (e : Int64) (f g : Int32) : RA := (upd u.1 i a, upd u.2.1 i b, upd u.2.2.1 i c0, upd u.2.2.2.1 i d, vp_updL u.2.2.2.2.1 i e, upd u.2.2.2.2.2.1 i f, upd u.2.2.2.2.2.2 i g)
theorem rel_ne {hm : Nat} {u : RA} {i j : Nat} {a b c0 d : Int32} {e : Int64} {f g : Int32} {x : En} (h : j ≠ i) (q : RelR hm u j x) : RelR hm (updR u i a b c0 d e f g) j x := by
  exact ⟨(pk_un h).trans q.1, (pk_un h).trans q.2.1, (pk_un h).trans q.2.2.1, (pk_un h).trans q.2.2.2.1, (pk_uLn h).trans q.2.2.2.2.1, (pk_un h).trans q.2.2.2.2.2.1, (pk_un h).trans q.2.2.2.2.2.2⟩
theorem rel_mv {hm : Nat} {u : RA} {i j : Nat} {x : En} (q : RelR hm u j x) : RelR hm (updR u i (u.1 j) (u.2.1 j) (u.2.2.1 j) (u.2.2.2.1 j) (u.2.2.2.2.1 j) (u.2.2.2.2.2.1 j) (u.2.2.2.2.2.2 j)) i x := by
  exact ⟨pk_us.trans q.1, pk_us.trans q.2.1, pk_us.trans q.2.2.1, pk_us.trans q.2.2.2.1, pk_uLs.trans q.2.2.2.2.1, pk_us.trans q.2.2.2.2.2.1, pk_us.trans q.2.2.2.2.2.2⟩
theorem rel_st {hm : Nat} {u : RA} {i : Nat} {x : En} : RelR hm (updR u i (nI (x.2.1 / 11)) (nI (x.2.1 % 11)) (c2 x.2.2) (s2 x.2.2) (lN x.1) (nI (pop x.1)) (nI (pop (x.1 &&& hm)))) i x := by
  exact ⟨pk_us, pk_us, pk_us, pk_us, pk_uLs, pk_us, pk_us⟩
theorem c2_m : ∀ g, g < 56 → ∀ g0, g0 < g → ¬ c2 g < c2 g0 := by decide +kernel
theorem s2_m : ∀ g, g < 56 → ∀ g0, g0 < g → c2 g = c2 g0 → ¬ s2 g < s2 g0 := by decide +kernel
/-- the entry stands before what comes now -/
abbrev lxB (f g : Nat) (x : En) : Prop := x.2.1 < f ∨ (x.2.1 = f ∧ x.2.2 < g)
theorem ah_neX {hm x z : Nat} (h : ¬ (pop (x &&& hm) + 2) * (pop z + 4) = (pop (z &&& hm) + 2) * (pop x + 4)) : ah hm x z = decide ((pop (x &&& hm) + 2) * (pop z + 4) < (pop (z &&& hm) + 2) * (pop x + 4)) := by
  unfold ah
  simp [h]
theorem ah_eqX {hm x z : Nat} (h : (pop (x &&& hm) + 2) * (pop z + 4) = (pop (z &&& hm) + 2) * (pop x + 4)) : ah hm x z = decide (pop z < pop x) := by
  unfold ah
  simp [h]

set_option maxHeartbeats 4000000 in
set_option maxRecDepth 100000 in
theorem r_goesBefore (l : Launch) (dd : va_G) (cyI cyJ cyZ : ClassId) (qm : Nat) (a : Nat → Nat) (th ro li fm sm : Int32) (ab be : Int64) (st al : Int32) (hm x f g : Nat) (hf : f < 55) (hg : g < 56) (j : Nat) (hj : j < 700) (u : RA) (z : En) (hz : RelR hm u j z) (hlx : lxB f g z) : Met l yX5_goesBefore wsX5_goesBefore ({ frames := 0, cells := 0, slots := 0, locals := 0 } : Room) (va_Pc [.ref qm, .int (nI (pop x)), .int (nI (pop (x &&& hm))), .int (nI (f / 11)), .int (nI (f % 11)), .int (c2 g), .int (s2 g), .int (nI j)] (Rd dd [(cyI, .int), (cyJ, .long), (cyZ, .boolean)] [(qm, .inr (5, mo a th ro li fm sm ab be st al)), (a 6, .inl (cyI, 700, .inl u.1)), (a 7, .inl (cyI, 700, .inl u.2.1)), (a 8, .inl (cyI, 700, .inl u.2.2.1)), (a 9, .inl (cyI, 700, .inl u.2.2.2.1)), (a 10, .inl (cyJ, 700, .inr (.inl u.2.2.2.2.1))), (a 11, .inl (cyI, 700, .inl u.2.2.2.2.2.1)), (a 12, .inl (cyI, 700, .inl u.2.2.2.2.2.2))])) (vp_Si (fun r => r = b01 (ah hm x z.1))) 0 0 (fun _ => False) := by
  refine mkR (cc := cX5_goesBefore) (maxL := 10) (by decide) rfl (Nat.le_of_ble_eq_true rfl) (lv0 := [(0, .ref qm), (1, .int (nI (pop x))), (2, .int (nI (pop (x &&& hm)))), (3, .int (nI (f / 11))), (4, .int (nI (f % 11))), (5, .int (c2 g)), (6, .int (s2 g)), (7, .int (nI j))]) rfl ?_
  intro p e s m below meth c ls hx hb hr hml hown hlocks hts hN hP hK hl
  have hown : s.vm.findClass RX5 = some m.cls := hown
  have hiX5 : ∀ w ∈ wsX50, w ∈ wsX5_goesBefore := by decide +kernel
  obtain ⟨z1, z2, z3, z4, z5, z6, z7⟩ := hz
  have hf0 : z.2.1 ≤ f := by rcases hlx with h | h <;> omega
  have p1 := pop_le x
  have p2 := pop_le z.1
  have p3 := pop_le (x &&& hm)
  have p4 := pop_le (z.1 &&& hm)
  have b1 : (pop (x &&& hm) + 2) * (pop z.1 + 4) ≤ 66 * 68 := Nat.mul_le_mul (by omega) (by omega)
  have b2 : (pop (z.1 &&& hm) + 2) * (pop x + 4) ≤ 66 * 68 := Nat.mul_le_mul (by omega) (by omega)
  refine lv_iload_n hx hb dX5_goesBefore_0 rfl (lv_at hl 2 rfl) ?_
  refine lv_iconst (v := 2) hx hb dX5_goesBefore_1 (by decide) ?_
  refine lv_iadd hx hb dX5_goesBefore_2 ?_
  refine tpi (show ((nI (pop (x &&& hm))) + 2 : Int32) = nI (pop (x &&& hm) + 2) from nI_add _ 2) ?_
  refine lv_aload_n hx hb dX5_goesBefore_3 rfl (lv_at hl 0 rfl) ?_
  refine va_get (D := dd) (ci := 5) (C := RX5) (T := TX5) (N := 30) (v := .ref (a 11)) hx hb hts hiX5 hown hK hP 0 rfl rfl 11 (by decide) (hts (.fieldLink RX5 36 "SliceDriftModel" "many" "[I") (by decide +kernel)) (fun _ h9 => h9) rfl dX5_goesBefore_4 ?_
  refine lv_iload hx hb dX5_goesBefore_7 (lv_at hl 7 rfl) ?_
  refine va_iald hx hb hK hP 6 0 rfl rfl (i := nI j) (vp_in_nI (show j < 700 from hj) (by decide)) dX5_goesBefore_9 ?_
  rw [nI_clamp (show j < 2 ^ 31 from Nat.lt_trans (show j < 700 from hj) (by decide))]
  refine tpi (show (u.2.2.2.2.2.1 j : Int32) = nI (pop z.1) from z6) ?_
  refine lv_iconst (v := 4) hx hb dX5_goesBefore_10 (by decide) ?_
  refine lv_iadd hx hb dX5_goesBefore_11 ?_
  refine tpi (show ((nI (pop z.1)) + 4 : Int32) = nI (pop z.1 + 4) from nI_add _ 4) ?_
  refine lv_imul hx hb dX5_goesBefore_12 ?_
  refine tpi (show ((nI (pop (x &&& hm) + 2)) * (nI (pop z.1 + 4)) : Int32) = nI ((pop (x &&& hm) + 2) * (pop z.1 + 4)) from pk_mul _ _) ?_
  refine lv_istore (lv' := [(8, .int (nI ((pop (x &&& hm) + 2) * (pop z.1 + 4)))), (0, .ref qm), (1, .int (nI (pop x))), (2, .int (nI (pop (x &&& hm)))), (3, .int (nI (f / 11))), (4, .int (nI (f % 11))), (5, .int (c2 g)), (6, .int (s2 g)), (7, .int (nI j))]) hx hb dX5_goesBefore_13 hl (by decide) rfl (fun ls hl => ?_)
  refine lv_aload_n hx hb dX5_goesBefore_15 rfl (lv_at hl 1 rfl) ?_
  refine va_get (D := dd) (ci := 5) (C := RX5) (T := TX5) (N := 30) (v := .ref (a 12)) hx hb hts hiX5 hown hK hP 0 rfl rfl 12 (by decide) (hts (.fieldLink RX5 39 "SliceDriftModel" "hits" "[I") (by decide +kernel)) (fun _ h9 => h9) rfl dX5_goesBefore_16 ?_
  refine lv_iload hx hb dX5_goesBefore_19 (lv_at hl 8 rfl) ?_
  refine va_iald hx hb hK hP 7 0 rfl rfl (i := nI j) (vp_in_nI (show j < 700 from hj) (by decide)) dX5_goesBefore_21 ?_
  rw [nI_clamp (show j < 2 ^ 31 from Nat.lt_trans (show j < 700 from hj) (by decide))]
  refine tpi (show (u.2.2.2.2.2.2 j : Int32) = nI (pop (z.1 &&& hm)) from z7) ?_
  refine lv_iconst (v := 2) hx hb dX5_goesBefore_22 (by decide) ?_
  refine lv_iadd hx hb dX5_goesBefore_23 ?_
  refine tpi (show ((nI (pop (z.1 &&& hm))) + 2 : Int32) = nI (pop (z.1 &&& hm) + 2) from nI_add _ 2) ?_
  refine lv_iload_n hx hb dX5_goesBefore_24 rfl (lv_at hl 2 rfl) ?_
  refine lv_iconst (v := 4) hx hb dX5_goesBefore_25 (by decide) ?_
  refine lv_iadd hx hb dX5_goesBefore_26 ?_
  refine tpi (show ((nI (pop x)) + 4 : Int32) = nI (pop x + 4) from nI_add _ 4) ?_
  refine lv_imul hx hb dX5_goesBefore_27 ?_
  refine tpi (show ((nI (pop (z.1 &&& hm) + 2)) * (nI (pop x + 4)) : Int32) = nI ((pop (z.1 &&& hm) + 2) * (pop x + 4)) from pk_mul _ _) ?_
  refine lv_istore (lv' := [(9, .int (nI ((pop (z.1 &&& hm) + 2) * (pop x + 4)))), (8, .int (nI ((pop (x &&& hm) + 2) * (pop z.1 + 4)))), (0, .ref qm), (1, .int (nI (pop x))), (2, .int (nI (pop (x &&& hm)))), (3, .int (nI (f / 11))), (4, .int (nI (f % 11))), (5, .int (c2 g)), (6, .int (s2 g)), (7, .int (nI j))]) hx hb dX5_goesBefore_28 hl (by decide) rfl (fun ls hl => ?_)
  refine lv_iload hx hb dX5_goesBefore_30 (lv_at hl 1 rfl) ?_
  refine lv_iload hx hb dX5_goesBefore_32 (lv_at hl 0 rfl) ?_
  refine lv_icmp_eq (tgt := 50) hx hb dX5_goesBefore_34 (by decide) (fun q1 => ?_) (fun q1 => ?_)
  · have g1 := (nI_eq (by omega) (by omega)).mp q1
    refine lv_iload_n hx hb dX5_goesBefore_50 rfl (lv_at hl 3 rfl) ?_
    refine lv_aload_n hx hb dX5_goesBefore_51 rfl (lv_at hl 2 rfl) ?_
    refine va_get (D := dd) (ci := 5) (C := RX5) (T := TX5) (N := 30) (v := .ref (a 11)) hx hb hts hiX5 hown hK hP 0 rfl rfl 11 (by decide) (hts (.fieldLink RX5 36 "SliceDriftModel" "many" "[I") (by decide +kernel)) (fun _ h9 => h9) rfl dX5_goesBefore_52 ?_
    refine lv_iload hx hb dX5_goesBefore_55 (lv_at hl 9 rfl) ?_
    refine va_iald hx hb hK hP 6 0 rfl rfl (i := nI j) (vp_in_nI (show j < 700 from hj) (by decide)) dX5_goesBefore_57 ?_
    rw [nI_clamp (show j < 2 ^ 31 from Nat.lt_trans (show j < 700 from hj) (by decide))]
    refine tpi (show (u.2.2.2.2.2.1 j : Int32) = nI (pop z.1) from z6) ?_
    refine lv_icmp_eq (tgt := 78) hx hb dX5_goesBefore_58 (by decide) (fun q2 => ?_) (fun q2 => ?_)
    · have g2 := (nI_eq (by omega) (by omega)).mp q2
      have fa : ah hm x z.1 = false := by rw [ah_eqX g1]; exact decide_eq_false (by omega)
      refine lv_iload_n hx hb dX5_goesBefore_78 rfl (lv_at hl 5 rfl) ?_
      refine lv_aload_n hx hb dX5_goesBefore_79 rfl (lv_at hl 2 rfl) ?_
      refine va_get (D := dd) (ci := 5) (C := RX5) (T := TX5) (N := 30) (v := .ref (a 6)) hx hb hts hiX5 hown hK hP 0 rfl rfl 6 (by decide) (hts (.fieldLink RX5 20 "SliceDriftModel" "firstColumn" "[I") (by decide +kernel)) (fun _ h9 => h9) rfl dX5_goesBefore_80 ?_
      refine lv_iload hx hb dX5_goesBefore_83 (lv_at hl 9 rfl) ?_
      refine va_iald hx hb hK hP 1 0 rfl rfl (i := nI j) (vp_in_nI (show j < 700 from hj) (by decide)) dX5_goesBefore_85 ?_
      rw [nI_clamp (show j < 2 ^ 31 from Nat.lt_trans (show j < 700 from hj) (by decide))]
      refine tpi (show (u.1 j : Int32) = nI (z.2.1 / 11) from z1) ?_
      refine lv_icmp_eq (tgt := 106) hx hb dX5_goesBefore_86 (by decide) (fun q3 => ?_) (fun q3 => ?_)
      · have g3 := (nI_eq (by omega) (by omega)).mp q3
        refine lv_iload hx hb dX5_goesBefore_106 (lv_at hl 6 rfl) ?_
        refine lv_aload_n hx hb dX5_goesBefore_108 rfl (lv_at hl 2 rfl) ?_
        refine va_get (D := dd) (ci := 5) (C := RX5) (T := TX5) (N := 30) (v := .ref (a 7)) hx hb hts hiX5 hown hK hP 0 rfl rfl 7 (by decide) (hts (.fieldLink RX5 23 "SliceDriftModel" "firstSort" "[I") (by decide +kernel)) (fun _ h9 => h9) rfl dX5_goesBefore_109 ?_
        refine lv_iload hx hb dX5_goesBefore_112 (lv_at hl 9 rfl) ?_
        refine va_iald hx hb hK hP 2 0 rfl rfl (i := nI j) (vp_in_nI (show j < 700 from hj) (by decide)) dX5_goesBefore_114 ?_
        rw [nI_clamp (show j < 2 ^ 31 from Nat.lt_trans (show j < 700 from hj) (by decide))]
        refine tpi (show (u.2.1 j : Int32) = nI (z.2.1 % 11) from z2) ?_
        refine lv_icmp_eq (tgt := 136) hx hb dX5_goesBefore_115 (by decide) (fun q4 => ?_) (fun q4 => ?_)
        · have g4 := (nI_eq (by omega) (by omega)).mp q4
          have g5 : z.2.2 < g := by rcases hlx with h | h <;> omega
          refine lv_iload hx hb dX5_goesBefore_136 (lv_at hl 7 rfl) ?_
          refine lv_aload_n hx hb dX5_goesBefore_138 rfl (lv_at hl 2 rfl) ?_
          refine va_get (D := dd) (ci := 5) (C := RX5) (T := TX5) (N := 30) (v := .ref (a 8)) hx hb hts hiX5 hown hK hP 0 rfl rfl 8 (by decide) (hts (.fieldLink RX5 26 "SliceDriftModel" "secondColumn" "[I") (by decide +kernel)) (fun _ h9 => h9) rfl dX5_goesBefore_139 ?_
          refine lv_iload hx hb dX5_goesBefore_142 (lv_at hl 9 rfl) ?_
          refine va_iald hx hb hK hP 3 0 rfl rfl (i := nI j) (vp_in_nI (show j < 700 from hj) (by decide)) dX5_goesBefore_144 ?_
          rw [nI_clamp (show j < 2 ^ 31 from Nat.lt_trans (show j < 700 from hj) (by decide))]
          refine tpi (show (u.2.2.1 j : Int32) = c2 z.2.2 from z3) ?_
          refine lv_icmp_lt (tgt := 172) hx hb dX5_goesBefore_145 (by decide) (fun q5 => ?_) (fun q5 => ?_)
          · exact absurd q5 (c2_m g hg _ g5)
          · refine lv_iload hx hb dX5_goesBefore_148 (lv_at hl 7 rfl) ?_
            refine lv_aload_n hx hb dX5_goesBefore_150 rfl (lv_at hl 2 rfl) ?_
            refine va_get (D := dd) (ci := 5) (C := RX5) (T := TX5) (N := 30) (v := .ref (a 8)) hx hb hts hiX5 hown hK hP 0 rfl rfl 8 (by decide) (hts (.fieldLink RX5 26 "SliceDriftModel" "secondColumn" "[I") (by decide +kernel)) (fun _ h9 => h9) rfl dX5_goesBefore_151 ?_
            refine lv_iload hx hb dX5_goesBefore_154 (lv_at hl 9 rfl) ?_
            refine va_iald hx hb hK hP 3 0 rfl rfl (i := nI j) (vp_in_nI (show j < 700 from hj) (by decide)) dX5_goesBefore_156 ?_
            rw [nI_clamp (show j < 2 ^ 31 from Nat.lt_trans (show j < 700 from hj) (by decide))]
            refine tpi (show (u.2.2.1 j : Int32) = c2 z.2.2 from z3) ?_
            refine lv_icmp_ne (tgt := 176) hx hb dX5_goesBefore_157 (by decide) (fun q6 => ?_) (fun q6 => ?_)
            · refine lv_iconst (v := 0) hx hb dX5_goesBefore_176 (by decide) ?_
              refine tpi (show (0 : Int32) = b01 (ah hm x z.1) from by rw [fa]; rfl) ?_
              exact edZ hx hb hr hlocks dX5_goesBefore_177 (by cases ah hm x z.1 <;> rfl) rfl
            · refine lv_iload hx hb dX5_goesBefore_160 (lv_at hl 8 rfl) ?_
              refine lv_aload_n hx hb dX5_goesBefore_162 rfl (lv_at hl 2 rfl) ?_
              refine va_get (D := dd) (ci := 5) (C := RX5) (T := TX5) (N := 30) (v := .ref (a 9)) hx hb hts hiX5 hown hK hP 0 rfl rfl 9 (by decide) (hts (.fieldLink RX5 29 "SliceDriftModel" "secondSort" "[I") (by decide +kernel)) (fun _ h9 => h9) rfl dX5_goesBefore_163 ?_
              refine lv_iload hx hb dX5_goesBefore_166 (lv_at hl 9 rfl) ?_
              refine va_iald hx hb hK hP 4 0 rfl rfl (i := nI j) (vp_in_nI (show j < 700 from hj) (by decide)) dX5_goesBefore_168 ?_
              rw [nI_clamp (show j < 2 ^ 31 from Nat.lt_trans (show j < 700 from hj) (by decide))]
              refine tpi (show (u.2.2.2.1 j : Int32) = s2 z.2.2 from z4) ?_
              refine lv_icmp_ge (tgt := 176) hx hb dX5_goesBefore_169 (by decide) (fun q7 => ?_) (fun q7 => ?_)
              · refine lv_iconst (v := 0) hx hb dX5_goesBefore_176 (by decide) ?_
                refine tpi (show (0 : Int32) = b01 (ah hm x z.1) from by rw [fa]; rfl) ?_
                exact edZ hx hb hr hlocks dX5_goesBefore_177 (by cases ah hm x z.1 <;> rfl) rfl
              · exact absurd (inle q7) (s2_m g hg _ g5 q6)
        · refine lv_iload hx hb dX5_goesBefore_118 (lv_at hl 6 rfl) ?_
          refine lv_aload_n hx hb dX5_goesBefore_120 rfl (lv_at hl 2 rfl) ?_
          refine va_get (D := dd) (ci := 5) (C := RX5) (T := TX5) (N := 30) (v := .ref (a 7)) hx hb hts hiX5 hown hK hP 0 rfl rfl 7 (by decide) (hts (.fieldLink RX5 23 "SliceDriftModel" "firstSort" "[I") (by decide +kernel)) (fun _ h9 => h9) rfl dX5_goesBefore_121 ?_
          refine lv_iload hx hb dX5_goesBefore_124 (lv_at hl 9 rfl) ?_
          refine va_iald hx hb hK hP 2 0 rfl rfl (i := nI j) (vp_in_nI (show j < 700 from hj) (by decide)) dX5_goesBefore_126 ?_
          rw [nI_clamp (show j < 2 ^ 31 from Nat.lt_trans (show j < 700 from hj) (by decide))]
          refine tpi (show (u.2.1 j : Int32) = nI (z.2.1 % 11) from z2) ?_
          refine lv_icmp_ge (tgt := 134) hx hb dX5_goesBefore_127 (by decide) (fun q5 => ?_) (fun q5 => ?_)
          · refine lv_iconst (v := 0) hx hb dX5_goesBefore_134 (by decide) ?_
            refine tpi (show (0 : Int32) = b01 (ah hm x z.1) from by rw [fa]; rfl) ?_
            exact edZ hx hb hr hlocks dX5_goesBefore_135 (by cases ah hm x z.1 <;> rfl) rfl
          · exact absurd (nI_le (show z.2.1 % 11 ≤ f % 11 by omega) (by omega)) q5
      · refine lv_iload_n hx hb dX5_goesBefore_89 rfl (lv_at hl 5 rfl) ?_
        refine lv_aload_n hx hb dX5_goesBefore_90 rfl (lv_at hl 2 rfl) ?_
        refine va_get (D := dd) (ci := 5) (C := RX5) (T := TX5) (N := 30) (v := .ref (a 6)) hx hb hts hiX5 hown hK hP 0 rfl rfl 6 (by decide) (hts (.fieldLink RX5 20 "SliceDriftModel" "firstColumn" "[I") (by decide +kernel)) (fun _ h9 => h9) rfl dX5_goesBefore_91 ?_
        refine lv_iload hx hb dX5_goesBefore_94 (lv_at hl 9 rfl) ?_
        refine va_iald hx hb hK hP 1 0 rfl rfl (i := nI j) (vp_in_nI (show j < 700 from hj) (by decide)) dX5_goesBefore_96 ?_
        rw [nI_clamp (show j < 2 ^ 31 from Nat.lt_trans (show j < 700 from hj) (by decide))]
        refine tpi (show (u.1 j : Int32) = nI (z.2.1 / 11) from z1) ?_
        refine lv_icmp_ge (tgt := 104) hx hb dX5_goesBefore_97 (by decide) (fun q4 => ?_) (fun q4 => ?_)
        · refine lv_iconst (v := 0) hx hb dX5_goesBefore_104 (by decide) ?_
          refine tpi (show (0 : Int32) = b01 (ah hm x z.1) from by rw [fa]; rfl) ?_
          exact edZ hx hb hr hlocks dX5_goesBefore_105 (by cases ah hm x z.1 <;> rfl) rfl
        · exact absurd (nI_le (show z.2.1 / 11 ≤ f / 11 by omega) (by omega)) q4
    · refine lv_iload_n hx hb dX5_goesBefore_61 rfl (lv_at hl 3 rfl) ?_
      refine lv_aload_n hx hb dX5_goesBefore_62 rfl (lv_at hl 2 rfl) ?_
      refine va_get (D := dd) (ci := 5) (C := RX5) (T := TX5) (N := 30) (v := .ref (a 11)) hx hb hts hiX5 hown hK hP 0 rfl rfl 11 (by decide) (hts (.fieldLink RX5 36 "SliceDriftModel" "many" "[I") (by decide +kernel)) (fun _ h9 => h9) rfl dX5_goesBefore_63 ?_
      refine lv_iload hx hb dX5_goesBefore_66 (lv_at hl 9 rfl) ?_
      refine va_iald hx hb hK hP 6 0 rfl rfl (i := nI j) (vp_in_nI (show j < 700 from hj) (by decide)) dX5_goesBefore_68 ?_
      rw [nI_clamp (show j < 2 ^ 31 from Nat.lt_trans (show j < 700 from hj) (by decide))]
      refine tpi (show (u.2.2.2.2.2.1 j : Int32) = nI (pop z.1) from z6) ?_
      refine lv_icmp_le (tgt := 76) hx hb dX5_goesBefore_69 (by decide) (fun q3 => ?_) (fun q3 => ?_)
      · refine lv_iconst (v := 0) hx hb dX5_goesBefore_76 (by decide) ?_
        refine tpi (show (0 : Int32) = b01 (ah hm x z.1) from by rw [show ah hm x z.1 = false from by rw [ah_eqX g1]; exact decide_eq_false (fun h => absurd ((nI_leI (by omega) (by omega)).mp q3) (by omega))]; rfl) ?_
        exact edZ hx hb hr hlocks dX5_goesBefore_77 (by cases ah hm x z.1 <;> rfl) rfl
      · refine lv_iconst (v := 1) hx hb dX5_goesBefore_72 (by decide) ?_
        refine lv_goto (tgt := 77) hx hb dX5_goesBefore_73 (by decide) ?_
        refine tpi (show (1 : Int32) = b01 (ah hm x z.1) from by rw [show ah hm x z.1 = true from by rw [ah_eqX g1]; exact decide_eq_true (Nat.lt_of_not_le (fun h => q3 (nI_le h (by omega))))]; rfl) ?_
        exact edZ hx hb hr hlocks dX5_goesBefore_77 (by cases ah hm x z.1 <;> rfl) rfl
  · have g1 : ¬ (pop (x &&& hm) + 2) * (pop z.1 + 4) = (pop (z.1 &&& hm) + 2) * (pop x + 4) := fun h => q1 (by rw [h])
    refine lv_iload hx hb dX5_goesBefore_37 (lv_at hl 1 rfl) ?_
    refine lv_iload hx hb dX5_goesBefore_39 (lv_at hl 0 rfl) ?_
    refine lv_icmp_ge (tgt := 48) hx hb dX5_goesBefore_41 (by decide) (fun q2 => ?_) (fun q2 => ?_)
    · refine lv_iconst (v := 0) hx hb dX5_goesBefore_48 (by decide) ?_
      refine tpi (show (0 : Int32) = b01 (ah hm x z.1) from by rw [show ah hm x z.1 = false from by rw [ah_neX g1]; exact decide_eq_false (fun h => absurd ((nI_leI (by omega) (by omega)).mp q2) (by omega))]; rfl) ?_
      exact edZ hx hb hr hlocks dX5_goesBefore_49 (by cases ah hm x z.1 <;> rfl) rfl
    · refine lv_iconst (v := 1) hx hb dX5_goesBefore_44 (by decide) ?_
      refine lv_goto (tgt := 49) hx hb dX5_goesBefore_45 (by decide) ?_
      refine tpi (show (1 : Int32) = b01 (ah hm x z.1) from by rw [show ah hm x z.1 = true from by rw [ah_neX g1]; exact decide_eq_true (Nat.lt_of_not_le (fun h => q2 (nI_le h (by omega))))]; rfl) ?_
      exact edZ hx hb hr hlocks dX5_goesBefore_49 (by cases ah hm x z.1 <;> rfl) rfl

def jd (hm lt x f g : Nat) (L : Ls) : Ls := if lt ≤ pop x then ins1 hm L (x, f, g) else L
theorem popH {hI : Nat → Int32} {n x : Nat} (hn : n ≤ 48) : cnt (fun i => x.testBit i && hit hI i) n = pop (x &&& mk (hit hI) n) := by
  rw [← cnt_out (f := fun i => x.testBit i && hit hI i) (show n ≤ 64 by omega)]
  exact cnt_congr (fun i _ => by rw [Nat.testBit_and, mk_bit]; cases x.testBit i <;> cases decide (i < n) <;> simp)
theorem lst_ins {hm : Nat} {E : Nat → En} {ln at0 : Nat} {u : RA} {x : En} (ha : at0 ≤ ln) (h1 : ∀ j, j < at0 → RelR hm u j (E j)) (h2 : ∀ j, at0 < j → j ≤ ln → RelR hm u j (E (j - 1))) : ∀ j, j < ln + 1 → RelR hm (updR u at0 (nI (x.2.1 / 11)) (nI (x.2.1 % 11)) (c2 x.2.2) (s2 x.2.2) (lN x.1) (nI (pop x.1)) (nI (pop (x.1 &&& hm)))) j (insE E at0 x j) := by
  intro j hj
  rcases Nat.lt_trichotomy j at0 with q | q | q
  · rw [insE_lo q]; exact rel_ne (by omega) (h1 j q)
  · subst q; rw [insE_at]; exact rel_st
  · rw [insE_hi q]; exact rel_ne (by omega) (h2 j q (by omega))
theorem jd_y {hm lt x f g : Nat} {L : Ls} (h : lt ≤ pop x) : jd hm lt x f g L = ins1 hm L (x, f, g) := by unfold jd; rw [if_pos h]
theorem jd_n {hm lt x f g : Nat} {L : Ls} (h : ¬ lt ≤ pop x) : jd hm lt x f g L = L := by unfold jd; rw [if_neg h]
theorem nI_m1 {k : Nat} : nI (k + 1) - 1 = nI k := nI_pred k
theorem nI_mm {k : Nat} : nI (k + 1) + Int32.ofInt (-1) = nI k := by
  rw [show Int32.ofInt (-1) = -(1 : Int32) from by decide, ← Int32.sub_eq_add_neg]; exact nI_pred k

set_option maxHeartbeats 4000000 in
set_option maxRecDepth 100000 in
theorem r_judge (l : Launch) (dd : va_G) (cyI cyJ cyZ : ClassId) (qm : Nat) (a : Nat → Nat) (th fm sm : Int32) (ab be : Int64) (st al : Int32) (n : Nat) (hn : n ≤ 48) (hI : Nat → Int32) (hm lt x f g : Nat) (ehm : hm = mk (hit hI) n) (hx0 : x < 2 ^ 48) (hlt : lt ≤ 48) (hf : f < 55) (hg : g < 56) (Lc : Ls) (hln : Lc.1 ≤ 600) (u0 : RA) (hE : LstR hm Lc u0) (hs : Srt hm Lc.2 Lc.1) (hlx : PAll (lxB f g) Lc) (sz : Nat) : Met l yX5_judge wsX5_judge ({ frames := 1, cells := 0, slots := 0, locals := 40 } : Room) (va_Pc [.ref qm, .long (lN x), .int (nI lt), .int (nI (f / 11)), .int (nI (f % 11)), .int (c2 g), .int (s2 g)] (Wr dd [(cyI, .int), (cyJ, .long), (cyZ, .boolean)] [(qm, .inr (5, mo a th (nI n) (nI Lc.1) fm sm ab be st al)), (a 3, .inl (cyZ, 48, .inl hI)), (a 6, .inl (cyI, 700, .inl u0.1)), (a 7, .inl (cyI, 700, .inl u0.2.1)), (a 8, .inl (cyI, 700, .inl u0.2.2.1)), (a 9, .inl (cyI, 700, .inl u0.2.2.2.1)), (a 10, .inl (cyJ, 700, .inr (.inl u0.2.2.2.2.1))), (a 11, .inl (cyI, 700, .inl u0.2.2.2.2.2.1)), (a 12, .inl (cyI, 700, .inl u0.2.2.2.2.2.2))] sz)) (va_Qv (S := RA) (fun (u : RA) => LstR hm (jd hm lt x f g Lc) u) (WQ dd [(qm, .inr (5, mo a th (nI n) (nI Lc.1) fm sm ab be st al)), (a 3, .inl (cyZ, 48, .inl hI)), (a 6, .inl (cyI, 700, .inl u0.1)), (a 7, .inl (cyI, 700, .inl u0.2.1)), (a 8, .inl (cyI, 700, .inl u0.2.2.1)), (a 9, .inl (cyI, 700, .inl u0.2.2.2.1)), (a 10, .inl (cyJ, 700, .inr (.inl u0.2.2.2.2.1))), (a 11, .inl (cyI, 700, .inl u0.2.2.2.2.2.1)), (a 12, .inl (cyI, 700, .inl u0.2.2.2.2.2.2))] sz (fun u => [(qm, .inr (5, mo a th (nI n) (nI (jd hm lt x f g Lc).1) fm sm ab be st al)), (a 3, .inl (cyZ, 48, .inl hI)), (a 6, .inl (cyI, 700, .inl u.1)), (a 7, .inl (cyI, 700, .inl u.2.1)), (a 8, .inl (cyI, 700, .inl u.2.2.1)), (a 9, .inl (cyI, 700, .inl u.2.2.2.1)), (a 10, .inl (cyJ, 700, .inr (.inl u.2.2.2.2.1))), (a 11, .inl (cyI, 700, .inl u.2.2.2.2.2.1)), (a 12, .inl (cyI, 700, .inl u.2.2.2.2.2.2))])) (va_A [(qm, .inr (5, mo a th (nI n) (nI Lc.1) fm sm ab be st al)), (a 3, .inl (cyZ, 48, .inl hI)), (a 6, .inl (cyI, 700, .inl u0.1)), (a 7, .inl (cyI, 700, .inl u0.2.1)), (a 8, .inl (cyI, 700, .inl u0.2.2.1)), (a 9, .inl (cyI, 700, .inl u0.2.2.2.1)), (a 10, .inl (cyJ, 700, .inr (.inl u0.2.2.2.2.1))), (a 11, .inl (cyI, 700, .inl u0.2.2.2.2.2.1)), (a 12, .inl (cyI, 700, .inl u0.2.2.2.2.2.2))] sz)) 0 0 (va_A [(qm, .inr (5, mo a th (nI n) (nI Lc.1) fm sm ab be st al)), (a 3, .inl (cyZ, 48, .inl hI)), (a 6, .inl (cyI, 700, .inl u0.1)), (a 7, .inl (cyI, 700, .inl u0.2.1)), (a 8, .inl (cyI, 700, .inl u0.2.2.1)), (a 9, .inl (cyI, 700, .inl u0.2.2.2.1)), (a 10, .inl (cyJ, 700, .inr (.inl u0.2.2.2.2.1))), (a 11, .inl (cyI, 700, .inl u0.2.2.2.2.2.1)), (a 12, .inl (cyI, 700, .inl u0.2.2.2.2.2.2))] sz) := by
  refine mkW (Qc := fun A => (va_Qv (S := RA) (fun (u : RA) => LstR hm (jd hm lt x f g Lc) u) (WQ dd [(qm, .inr (5, mo a th (nI n) (nI Lc.1) fm sm ab be st al)), (a 3, .inl (cyZ, 48, .inl hI)), (a 6, .inl (cyI, 700, .inl u0.1)), (a 7, .inl (cyI, 700, .inl u0.2.1)), (a 8, .inl (cyI, 700, .inl u0.2.2.1)), (a 9, .inl (cyI, 700, .inl u0.2.2.2.1)), (a 10, .inl (cyJ, 700, .inr (.inl u0.2.2.2.2.1))), (a 11, .inl (cyI, 700, .inl u0.2.2.2.2.2.1)), (a 12, .inl (cyI, 700, .inl u0.2.2.2.2.2.2))] sz (fun u => [(qm, .inr (5, mo a th (nI n) (nI (jd hm lt x f g Lc).1) fm sm ab be st al)), (a 3, .inl (cyZ, 48, .inl hI)), (a 6, .inl (cyI, 700, .inl u.1)), (a 7, .inl (cyI, 700, .inl u.2.1)), (a 8, .inl (cyI, 700, .inl u.2.2.1)), (a 9, .inl (cyI, 700, .inl u.2.2.2.1)), (a 10, .inl (cyJ, 700, .inr (.inl u.2.2.2.2.1))), (a 11, .inl (cyI, 700, .inl u.2.2.2.2.2.1)), (a 12, .inl (cyI, 700, .inl u.2.2.2.2.2.2))])) A)) (cc := cX5_judge) (maxL := 11) (by decide) rfl (Nat.le_of_ble_eq_true rfl) (lv0 := [(0, .ref qm), (1, .long (lN x)), (3, .int (nI lt)), (4, .int (nI (f / 11))), (5, .int (nI (f % 11))), (6, .int (c2 g)), (7, .int (s2 g))]) rfl ?_
  intro p e s m below meth c ls H A hx hb hr hml hown hlocks hts hmn hN hP hK hD hS hA hAe hl
  have hown : s.vm.findClass RX5 = some m.cls := hown
  have hiX5 : ∀ w ∈ wsX50, w ∈ wsX5_judge := by decide +kernel
  have p1 := pop_le x
  have p3 := pop_le (x &&& hm)
  refine lv_lload_n hx hb dX5_judge_0 rfl (lv_at hl 1 rfl) ?_
  refine clSi (As := [.long (lN x)]) (rest := []) ⟨hx, hb, hml, hown, hts⟩ (r_countOf l dd cyI cyJ cyZ (lN x) x.testBit (bits_lN (by omega))) gX5_judge_X5_countOf (n := 1) rfl ⟨rfl, rfl⟩ (by decide +kernel) ⟨Nat.le_of_ble_eq_true rfl, Nat.le_of_ble_eq_true rfl⟩ hN hK (hP.sub [] rfl) rfl hl.1 rfl (Nat.le_of_ble_eq_true rfl) dX5_judge_1 ⟨Nat.le_of_ble_eq_true rfl, Nat.le_of_ble_eq_true rfl⟩ (fun r1 h1 => ?_)
  have h1 : r1 = nI (pop x) := by rw [h1, pop48 hx0]
  subst h1
  refine lv_istore (lv' := [(8, .int (nI (pop x))), (0, .ref qm), (1, .long (lN x)), (3, .int (nI lt)), (4, .int (nI (f / 11))), (5, .int (nI (f % 11))), (6, .int (c2 g)), (7, .int (s2 g))]) hx hb dX5_judge_4 hl (by decide) rfl (fun ls hl => ?_)
  refine lv_iload hx hb dX5_judge_6 (lv_at hl 0 rfl) ?_
  refine lv_iload_n hx hb dX5_judge_8 rfl (lv_at hl 3 rfl) ?_
  refine lv_icmp_ge (tgt := 13) hx hb dX5_judge_9 (by decide) (fun q => ?_) (fun q => ?_)
  · have eL : (jd hm lt x f g Lc) = ins1 hm Lc (x, f, g) := jd_y ((nI_leI (by omega) (by omega)).mp q)
    rw [eL]
    refine lv_aload_n hx hb dX5_judge_13 rfl (lv_at hl 1 rfl) ?_
    refine lv_lload_n hx hb dX5_judge_14 rfl (lv_at hl 2 rfl) ?_
    refine clVi (As := [.long (lN x)]) (rest := []) (b := qm) (vc := (RX5, TX5, 30)) ⟨hx, hb, hml, hown, hts⟩ (r_hitsOf l dd cyI cyJ cyZ qm a th (nI Lc.1) fm sm ab be st al n hn hI (lN x) x.testBit (bits_lN (by omega))) gX5_judge_X5_hitsOf (ci := 5) rfl (q0 := 0) rfl (n := 1) rfl ⟨rfl, rfl⟩ (by decide +kernel) ⟨Nat.le_of_ble_eq_true rfl, Nat.le_of_ble_eq_true rfl⟩ hN hK (hP.sub [0, 1] rfl) rfl hl.1 rfl (Nat.le_of_ble_eq_true rfl) dX5_judge_15 ⟨Nat.le_of_ble_eq_true rfl, Nat.le_of_ble_eq_true rfl⟩ (fun r2 h2 => ?_)
    have h2 : r2 = nI (pop (x &&& hm)) := by rw [h2, popH hn, ehm]
    subst h2
    refine lv_istore (lv' := [(9, .int (nI (pop (x &&& hm)))), (8, .int (nI (pop x))), (0, .ref qm), (1, .long (lN x)), (3, .int (nI lt)), (4, .int (nI (f / 11))), (5, .int (nI (f % 11))), (6, .int (c2 g)), (7, .int (s2 g))]) hx hb dX5_judge_18 hl (by decide) rfl (fun ls hl => ?_)
    refine lv_aload_n hx hb dX5_judge_20 rfl (lv_at hl 2 rfl) ?_
    refine va_get (D := dd) (ci := 5) (C := RX5) (T := TX5) (N := 30) (v := .int (nI Lc.1)) hx hb hts hiX5 hown hK hP 0 rfl rfl 5 (by decide) (hts (.fieldLink RX5 100 "SliceDriftModel" "listed" "I") (by decide +kernel)) (fun _ h9 => h9) rfl dX5_judge_21 ?_
    refine lv_istore (lv' := [(10, .int (nI Lc.1)), (9, .int (nI (pop (x &&& hm)))), (8, .int (nI (pop x))), (0, .ref qm), (1, .long (lN x)), (3, .int (nI lt)), (4, .int (nI (f / 11))), (5, .int (nI (f % 11))), (6, .int (c2 g)), (7, .int (s2 g))]) hx hb dX5_judge_24 hl (by decide) rfl (fun ls hl => ?_)
    have loop : ∀ (k : Nat) (u : RA) (H : Heap) (locs : List Loc), k ≤ Lc.1 → (∀ j, j < k → RelR hm u j (Lc.2 j)) → (∀ j, k < j → j ≤ Lc.1 → RelR hm u j (Lc.2 (j - 1))) → (∀ j, k ≤ j → j < Lc.1 → ah hm x (Lc.2 j).1 = true) → va_P dd vwCl [(qm, .inr (5, mo a th (nI n) (nI Lc.1) fm sm ab be st al)), (a 3, .inl (cyZ, 48, .inl hI)), (a 6, .inl (cyI, 700, .inl u.1)), (a 7, .inl (cyI, 700, .inl u.2.1)), (a 8, .inl (cyI, 700, .inl u.2.2.1)), (a 9, .inl (cyI, 700, .inl u.2.2.2.1)), (a 10, .inl (cyJ, 700, .inr (.inl u.2.2.2.2.1))), (a 11, .inl (cyI, 700, .inl u.2.2.2.2.2.1)), (a 12, .inl (cyI, 700, .inl u.2.2.2.2.2.2))] H → va_D A [(qm, .inr (5, mo a th (nI n) (nI Lc.1) fm sm ab be st al)), (a 3, .inl (cyZ, 48, .inl hI)), (a 6, .inl (cyI, 700, .inl u.1)), (a 7, .inl (cyI, 700, .inl u.2.1)), (a 8, .inl (cyI, 700, .inl u.2.2.1)), (a 9, .inl (cyI, 700, .inl u.2.2.2.1)), (a 10, .inl (cyJ, 700, .inr (.inl u.2.2.2.2.1))), (a 11, .inl (cyI, 700, .inl u.2.2.2.2.2.1)), (a 12, .inl (cyI, 700, .inl u.2.2.2.2.2.2))] → va_S A s.heap H locs → ∀ ls : Array Slot, lv_has ls 11 [(10, .int (nI k)), (9, .int (nI (pop (x &&& hm)))), (8, .int (nI (pop x))), (0, .ref qm), (1, .long (lN x)), (4, .int (nI (f / 11))), (5, .int (nI (f % 11))), (6, .int (c2 g)), (7, .int (s2 g))] → W p l e ({ frames := 1, cells := 0, slots := 0, locals := 40 } : Room) s m ([.ref qm, .long (lN x), .int (nI lt), .int (nI (f / 11)), .int (nI (f % 11)), .int (c2 g), .int (s2 g)] : List Value).toArray below meth c H locs 0 0 (MQ below (va_Qv (S := RA) (fun (u : RA) => LstR hm (ins1 hm Lc (x, f, g)) u) (WQ dd [(qm, .inr (5, mo a th (nI n) (nI Lc.1) fm sm ab be st al)), (a 3, .inl (cyZ, 48, .inl hI)), (a 6, .inl (cyI, 700, .inl u0.1)), (a 7, .inl (cyI, 700, .inl u0.2.1)), (a 8, .inl (cyI, 700, .inl u0.2.2.1)), (a 9, .inl (cyI, 700, .inl u0.2.2.2.1)), (a 10, .inl (cyJ, 700, .inr (.inl u0.2.2.2.2.1))), (a 11, .inl (cyI, 700, .inl u0.2.2.2.2.2.1)), (a 12, .inl (cyI, 700, .inl u0.2.2.2.2.2.2))] sz (fun u => [(qm, .inr (5, mo a th (nI n) (nI (ins1 hm Lc (x, f, g)).1) fm sm ab be st al)), (a 3, .inl (cyZ, 48, .inl hI)), (a 6, .inl (cyI, 700, .inl u.1)), (a 7, .inl (cyI, 700, .inl u.2.1)), (a 8, .inl (cyI, 700, .inl u.2.2.1)), (a 9, .inl (cyI, 700, .inl u.2.2.2.1)), (a 10, .inl (cyJ, 700, .inr (.inl u.2.2.2.2.1))), (a 11, .inl (cyI, 700, .inl u.2.2.2.2.2.1)), (a 12, .inl (cyI, 700, .inl u.2.2.2.2.2.2))])) A) ([.ref qm, .long (lN x), .int (nI lt), .int (nI (f / 11)), .int (nI (f % 11)), .int (c2 g), .int (s2 g)] : List Value).toArray s 0 0 A) (F0 m 26 ls []) := by
      intro k
      induction k with
      | zero =>
        intro u H locs hk h1 h2 h3 hP hD hS ls hl
        refine lv_iload hx hb dX5_judge_26 (lv_at hl 0 rfl) ?_
        refine lv_if_le (tgt := 172) hx hb dX5_judge_28 (by decide) (fun q2 => ?_) (fun q2 => ?_)
        · have ep : posn hm Lc.2 Lc.1 x = 0 := posn_of (hm := hm) (E := Lc.2) (x := x) (ln := Lc.1) ⟨Nat.zero_le _, fun j h => absurd h (Nat.not_lt_zero j), fun j a b => h3 j a b⟩
          refine lv_aload_n hx hb dX5_judge_172 rfl (lv_at hl 3 rfl) ?_
          refine va_get (D := dd) (ci := 5) (C := RX5) (T := TX5) (N := 30) (v := .ref (a 6)) hx hb hts hiX5 hown hK hP 0 rfl rfl 6 (by decide) (hts (.fieldLink RX5 20 "SliceDriftModel" "firstColumn" "[I") (by decide +kernel)) (fun _ h9 => h9) rfl dX5_judge_173 ?_
          refine lv_iload hx hb dX5_judge_176 (lv_at hl 0 rfl) ?_
          refine lv_iload hx hb dX5_judge_178 (lv_at hl 5 rfl) ?_
          refine va_iast hx hb hK hP hD hS 2 0 rfl rfl (i := nI 0) (vp_in_nI (show 0 < 700 from (by omega)) (by decide)) dX5_judge_180 (fun H locs hP hD hS => ?_)
          rw [nI_clamp (show 0 < 2 ^ 31 from Nat.lt_trans (show 0 < 700 from (by omega)) (by decide))] at hP hD
          have hP : va_P dd vwCl [(qm, .inr (5, mo a th (nI n) (nI Lc.1) fm sm ab be st al)), (a 3, .inl (cyZ, 48, .inl hI)), (a 6, .inl (cyI, 700, .inl (upd u.1 0 (nI (f / 11))))), (a 7, .inl (cyI, 700, .inl u.2.1)), (a 8, .inl (cyI, 700, .inl u.2.2.1)), (a 9, .inl (cyI, 700, .inl u.2.2.2.1)), (a 10, .inl (cyJ, 700, .inr (.inl u.2.2.2.2.1))), (a 11, .inl (cyI, 700, .inl u.2.2.2.2.2.1)), (a 12, .inl (cyI, 700, .inl u.2.2.2.2.2.2))] H := hP
          have hD : va_D A [(qm, .inr (5, mo a th (nI n) (nI Lc.1) fm sm ab be st al)), (a 3, .inl (cyZ, 48, .inl hI)), (a 6, .inl (cyI, 700, .inl (upd u.1 0 (nI (f / 11))))), (a 7, .inl (cyI, 700, .inl u.2.1)), (a 8, .inl (cyI, 700, .inl u.2.2.1)), (a 9, .inl (cyI, 700, .inl u.2.2.2.1)), (a 10, .inl (cyJ, 700, .inr (.inl u.2.2.2.2.1))), (a 11, .inl (cyI, 700, .inl u.2.2.2.2.2.1)), (a 12, .inl (cyI, 700, .inl u.2.2.2.2.2.2))] := hD
          refine lv_aload_n hx hb dX5_judge_181 rfl (lv_at hl 3 rfl) ?_
          refine va_get (D := dd) (ci := 5) (C := RX5) (T := TX5) (N := 30) (v := .ref (a 7)) hx hb hts hiX5 hown hK hP 0 rfl rfl 7 (by decide) (hts (.fieldLink RX5 23 "SliceDriftModel" "firstSort" "[I") (by decide +kernel)) (fun _ h9 => h9) rfl dX5_judge_182 ?_
          refine lv_iload hx hb dX5_judge_185 (lv_at hl 0 rfl) ?_
          refine lv_iload hx hb dX5_judge_187 (lv_at hl 6 rfl) ?_
          refine va_iast hx hb hK hP hD hS 3 0 rfl rfl (i := nI 0) (vp_in_nI (show 0 < 700 from (by omega)) (by decide)) dX5_judge_189 (fun H locs hP hD hS => ?_)
          rw [nI_clamp (show 0 < 2 ^ 31 from Nat.lt_trans (show 0 < 700 from (by omega)) (by decide))] at hP hD
          have hP : va_P dd vwCl [(qm, .inr (5, mo a th (nI n) (nI Lc.1) fm sm ab be st al)), (a 3, .inl (cyZ, 48, .inl hI)), (a 6, .inl (cyI, 700, .inl (upd u.1 0 (nI (f / 11))))), (a 7, .inl (cyI, 700, .inl (upd u.2.1 0 (nI (f % 11))))), (a 8, .inl (cyI, 700, .inl u.2.2.1)), (a 9, .inl (cyI, 700, .inl u.2.2.2.1)), (a 10, .inl (cyJ, 700, .inr (.inl u.2.2.2.2.1))), (a 11, .inl (cyI, 700, .inl u.2.2.2.2.2.1)), (a 12, .inl (cyI, 700, .inl u.2.2.2.2.2.2))] H := hP
          have hD : va_D A [(qm, .inr (5, mo a th (nI n) (nI Lc.1) fm sm ab be st al)), (a 3, .inl (cyZ, 48, .inl hI)), (a 6, .inl (cyI, 700, .inl (upd u.1 0 (nI (f / 11))))), (a 7, .inl (cyI, 700, .inl (upd u.2.1 0 (nI (f % 11))))), (a 8, .inl (cyI, 700, .inl u.2.2.1)), (a 9, .inl (cyI, 700, .inl u.2.2.2.1)), (a 10, .inl (cyJ, 700, .inr (.inl u.2.2.2.2.1))), (a 11, .inl (cyI, 700, .inl u.2.2.2.2.2.1)), (a 12, .inl (cyI, 700, .inl u.2.2.2.2.2.2))] := hD
          refine lv_aload_n hx hb dX5_judge_190 rfl (lv_at hl 3 rfl) ?_
          refine va_get (D := dd) (ci := 5) (C := RX5) (T := TX5) (N := 30) (v := .ref (a 8)) hx hb hts hiX5 hown hK hP 0 rfl rfl 8 (by decide) (hts (.fieldLink RX5 26 "SliceDriftModel" "secondColumn" "[I") (by decide +kernel)) (fun _ h9 => h9) rfl dX5_judge_191 ?_
          refine lv_iload hx hb dX5_judge_194 (lv_at hl 0 rfl) ?_
          refine lv_iload hx hb dX5_judge_196 (lv_at hl 7 rfl) ?_
          refine va_iast hx hb hK hP hD hS 4 0 rfl rfl (i := nI 0) (vp_in_nI (show 0 < 700 from (by omega)) (by decide)) dX5_judge_198 (fun H locs hP hD hS => ?_)
          rw [nI_clamp (show 0 < 2 ^ 31 from Nat.lt_trans (show 0 < 700 from (by omega)) (by decide))] at hP hD
          have hP : va_P dd vwCl [(qm, .inr (5, mo a th (nI n) (nI Lc.1) fm sm ab be st al)), (a 3, .inl (cyZ, 48, .inl hI)), (a 6, .inl (cyI, 700, .inl (upd u.1 0 (nI (f / 11))))), (a 7, .inl (cyI, 700, .inl (upd u.2.1 0 (nI (f % 11))))), (a 8, .inl (cyI, 700, .inl (upd u.2.2.1 0 (c2 g)))), (a 9, .inl (cyI, 700, .inl u.2.2.2.1)), (a 10, .inl (cyJ, 700, .inr (.inl u.2.2.2.2.1))), (a 11, .inl (cyI, 700, .inl u.2.2.2.2.2.1)), (a 12, .inl (cyI, 700, .inl u.2.2.2.2.2.2))] H := hP
          have hD : va_D A [(qm, .inr (5, mo a th (nI n) (nI Lc.1) fm sm ab be st al)), (a 3, .inl (cyZ, 48, .inl hI)), (a 6, .inl (cyI, 700, .inl (upd u.1 0 (nI (f / 11))))), (a 7, .inl (cyI, 700, .inl (upd u.2.1 0 (nI (f % 11))))), (a 8, .inl (cyI, 700, .inl (upd u.2.2.1 0 (c2 g)))), (a 9, .inl (cyI, 700, .inl u.2.2.2.1)), (a 10, .inl (cyJ, 700, .inr (.inl u.2.2.2.2.1))), (a 11, .inl (cyI, 700, .inl u.2.2.2.2.2.1)), (a 12, .inl (cyI, 700, .inl u.2.2.2.2.2.2))] := hD
          refine lv_aload_n hx hb dX5_judge_199 rfl (lv_at hl 3 rfl) ?_
          refine va_get (D := dd) (ci := 5) (C := RX5) (T := TX5) (N := 30) (v := .ref (a 9)) hx hb hts hiX5 hown hK hP 0 rfl rfl 9 (by decide) (hts (.fieldLink RX5 29 "SliceDriftModel" "secondSort" "[I") (by decide +kernel)) (fun _ h9 => h9) rfl dX5_judge_200 ?_
          refine lv_iload hx hb dX5_judge_203 (lv_at hl 0 rfl) ?_
          refine lv_iload hx hb dX5_judge_205 (lv_at hl 8 rfl) ?_
          refine va_iast hx hb hK hP hD hS 5 0 rfl rfl (i := nI 0) (vp_in_nI (show 0 < 700 from (by omega)) (by decide)) dX5_judge_207 (fun H locs hP hD hS => ?_)
          rw [nI_clamp (show 0 < 2 ^ 31 from Nat.lt_trans (show 0 < 700 from (by omega)) (by decide))] at hP hD
          have hP : va_P dd vwCl [(qm, .inr (5, mo a th (nI n) (nI Lc.1) fm sm ab be st al)), (a 3, .inl (cyZ, 48, .inl hI)), (a 6, .inl (cyI, 700, .inl (upd u.1 0 (nI (f / 11))))), (a 7, .inl (cyI, 700, .inl (upd u.2.1 0 (nI (f % 11))))), (a 8, .inl (cyI, 700, .inl (upd u.2.2.1 0 (c2 g)))), (a 9, .inl (cyI, 700, .inl (upd u.2.2.2.1 0 (s2 g)))), (a 10, .inl (cyJ, 700, .inr (.inl u.2.2.2.2.1))), (a 11, .inl (cyI, 700, .inl u.2.2.2.2.2.1)), (a 12, .inl (cyI, 700, .inl u.2.2.2.2.2.2))] H := hP
          have hD : va_D A [(qm, .inr (5, mo a th (nI n) (nI Lc.1) fm sm ab be st al)), (a 3, .inl (cyZ, 48, .inl hI)), (a 6, .inl (cyI, 700, .inl (upd u.1 0 (nI (f / 11))))), (a 7, .inl (cyI, 700, .inl (upd u.2.1 0 (nI (f % 11))))), (a 8, .inl (cyI, 700, .inl (upd u.2.2.1 0 (c2 g)))), (a 9, .inl (cyI, 700, .inl (upd u.2.2.2.1 0 (s2 g)))), (a 10, .inl (cyJ, 700, .inr (.inl u.2.2.2.2.1))), (a 11, .inl (cyI, 700, .inl u.2.2.2.2.2.1)), (a 12, .inl (cyI, 700, .inl u.2.2.2.2.2.2))] := hD
          refine lv_aload_n hx hb dX5_judge_208 rfl (lv_at hl 3 rfl) ?_
          refine va_get (D := dd) (ci := 5) (C := RX5) (T := TX5) (N := 30) (v := .ref (a 10)) hx hb hts hiX5 hown hK hP 0 rfl rfl 10 (by decide) (hts (.fieldLink RX5 32 "SliceDriftModel" "members" "[J") (by decide +kernel)) (fun _ h9 => h9) rfl dX5_judge_209 ?_
          refine lv_iload hx hb dX5_judge_212 (lv_at hl 0 rfl) ?_
          refine lv_lload_n hx hb dX5_judge_214 rfl (lv_at hl 4 rfl) ?_
          refine va_last hx hb hK hP hD hS 6 1 rfl rfl (i := nI 0) (vp_in_nI (show 0 < 700 from (by omega)) (by decide)) dX5_judge_215 (fun H locs hP hD hS => ?_)
          rw [nI_clamp (show 0 < 2 ^ 31 from Nat.lt_trans (show 0 < 700 from (by omega)) (by decide))] at hP hD
          have hP : va_P dd vwCl [(qm, .inr (5, mo a th (nI n) (nI Lc.1) fm sm ab be st al)), (a 3, .inl (cyZ, 48, .inl hI)), (a 6, .inl (cyI, 700, .inl (upd u.1 0 (nI (f / 11))))), (a 7, .inl (cyI, 700, .inl (upd u.2.1 0 (nI (f % 11))))), (a 8, .inl (cyI, 700, .inl (upd u.2.2.1 0 (c2 g)))), (a 9, .inl (cyI, 700, .inl (upd u.2.2.2.1 0 (s2 g)))), (a 10, .inl (cyJ, 700, .inr (.inl (vp_updL u.2.2.2.2.1 0 (lN x))))), (a 11, .inl (cyI, 700, .inl u.2.2.2.2.2.1)), (a 12, .inl (cyI, 700, .inl u.2.2.2.2.2.2))] H := hP
          have hD : va_D A [(qm, .inr (5, mo a th (nI n) (nI Lc.1) fm sm ab be st al)), (a 3, .inl (cyZ, 48, .inl hI)), (a 6, .inl (cyI, 700, .inl (upd u.1 0 (nI (f / 11))))), (a 7, .inl (cyI, 700, .inl (upd u.2.1 0 (nI (f % 11))))), (a 8, .inl (cyI, 700, .inl (upd u.2.2.1 0 (c2 g)))), (a 9, .inl (cyI, 700, .inl (upd u.2.2.2.1 0 (s2 g)))), (a 10, .inl (cyJ, 700, .inr (.inl (vp_updL u.2.2.2.2.1 0 (lN x))))), (a 11, .inl (cyI, 700, .inl u.2.2.2.2.2.1)), (a 12, .inl (cyI, 700, .inl u.2.2.2.2.2.2))] := hD
          refine lv_aload_n hx hb dX5_judge_216 rfl (lv_at hl 3 rfl) ?_
          refine va_get (D := dd) (ci := 5) (C := RX5) (T := TX5) (N := 30) (v := .ref (a 11)) hx hb hts hiX5 hown hK hP 0 rfl rfl 11 (by decide) (hts (.fieldLink RX5 36 "SliceDriftModel" "many" "[I") (by decide +kernel)) (fun _ h9 => h9) rfl dX5_judge_217 ?_
          refine lv_iload hx hb dX5_judge_220 (lv_at hl 0 rfl) ?_
          refine lv_iload hx hb dX5_judge_222 (lv_at hl 2 rfl) ?_
          refine va_iast hx hb hK hP hD hS 7 0 rfl rfl (i := nI 0) (vp_in_nI (show 0 < 700 from (by omega)) (by decide)) dX5_judge_224 (fun H locs hP hD hS => ?_)
          rw [nI_clamp (show 0 < 2 ^ 31 from Nat.lt_trans (show 0 < 700 from (by omega)) (by decide))] at hP hD
          have hP : va_P dd vwCl [(qm, .inr (5, mo a th (nI n) (nI Lc.1) fm sm ab be st al)), (a 3, .inl (cyZ, 48, .inl hI)), (a 6, .inl (cyI, 700, .inl (upd u.1 0 (nI (f / 11))))), (a 7, .inl (cyI, 700, .inl (upd u.2.1 0 (nI (f % 11))))), (a 8, .inl (cyI, 700, .inl (upd u.2.2.1 0 (c2 g)))), (a 9, .inl (cyI, 700, .inl (upd u.2.2.2.1 0 (s2 g)))), (a 10, .inl (cyJ, 700, .inr (.inl (vp_updL u.2.2.2.2.1 0 (lN x))))), (a 11, .inl (cyI, 700, .inl (upd u.2.2.2.2.2.1 0 (nI (pop x))))), (a 12, .inl (cyI, 700, .inl u.2.2.2.2.2.2))] H := hP
          have hD : va_D A [(qm, .inr (5, mo a th (nI n) (nI Lc.1) fm sm ab be st al)), (a 3, .inl (cyZ, 48, .inl hI)), (a 6, .inl (cyI, 700, .inl (upd u.1 0 (nI (f / 11))))), (a 7, .inl (cyI, 700, .inl (upd u.2.1 0 (nI (f % 11))))), (a 8, .inl (cyI, 700, .inl (upd u.2.2.1 0 (c2 g)))), (a 9, .inl (cyI, 700, .inl (upd u.2.2.2.1 0 (s2 g)))), (a 10, .inl (cyJ, 700, .inr (.inl (vp_updL u.2.2.2.2.1 0 (lN x))))), (a 11, .inl (cyI, 700, .inl (upd u.2.2.2.2.2.1 0 (nI (pop x))))), (a 12, .inl (cyI, 700, .inl u.2.2.2.2.2.2))] := hD
          refine lv_aload_n hx hb dX5_judge_225 rfl (lv_at hl 3 rfl) ?_
          refine va_get (D := dd) (ci := 5) (C := RX5) (T := TX5) (N := 30) (v := .ref (a 12)) hx hb hts hiX5 hown hK hP 0 rfl rfl 12 (by decide) (hts (.fieldLink RX5 39 "SliceDriftModel" "hits" "[I") (by decide +kernel)) (fun _ h9 => h9) rfl dX5_judge_226 ?_
          refine lv_iload hx hb dX5_judge_229 (lv_at hl 0 rfl) ?_
          refine lv_iload hx hb dX5_judge_231 (lv_at hl 1 rfl) ?_
          refine va_iast hx hb hK hP hD hS 8 0 rfl rfl (i := nI 0) (vp_in_nI (show 0 < 700 from (by omega)) (by decide)) dX5_judge_233 (fun H locs hP hD hS => ?_)
          rw [nI_clamp (show 0 < 2 ^ 31 from Nat.lt_trans (show 0 < 700 from (by omega)) (by decide))] at hP hD
          have hP : va_P dd vwCl [(qm, .inr (5, mo a th (nI n) (nI Lc.1) fm sm ab be st al)), (a 3, .inl (cyZ, 48, .inl hI)), (a 6, .inl (cyI, 700, .inl (upd u.1 0 (nI (f / 11))))), (a 7, .inl (cyI, 700, .inl (upd u.2.1 0 (nI (f % 11))))), (a 8, .inl (cyI, 700, .inl (upd u.2.2.1 0 (c2 g)))), (a 9, .inl (cyI, 700, .inl (upd u.2.2.2.1 0 (s2 g)))), (a 10, .inl (cyJ, 700, .inr (.inl (vp_updL u.2.2.2.2.1 0 (lN x))))), (a 11, .inl (cyI, 700, .inl (upd u.2.2.2.2.2.1 0 (nI (pop x))))), (a 12, .inl (cyI, 700, .inl (upd u.2.2.2.2.2.2 0 (nI (pop (x &&& hm))))))] H := hP
          have hD : va_D A [(qm, .inr (5, mo a th (nI n) (nI Lc.1) fm sm ab be st al)), (a 3, .inl (cyZ, 48, .inl hI)), (a 6, .inl (cyI, 700, .inl (upd u.1 0 (nI (f / 11))))), (a 7, .inl (cyI, 700, .inl (upd u.2.1 0 (nI (f % 11))))), (a 8, .inl (cyI, 700, .inl (upd u.2.2.1 0 (c2 g)))), (a 9, .inl (cyI, 700, .inl (upd u.2.2.2.1 0 (s2 g)))), (a 10, .inl (cyJ, 700, .inr (.inl (vp_updL u.2.2.2.2.1 0 (lN x))))), (a 11, .inl (cyI, 700, .inl (upd u.2.2.2.2.2.1 0 (nI (pop x))))), (a 12, .inl (cyI, 700, .inl (upd u.2.2.2.2.2.2 0 (nI (pop (x &&& hm))))))] := hD
          refine lv_aload_n hx hb dX5_judge_234 rfl (lv_at hl 3 rfl) ?_
          refine lv_dup hx hb dX5_judge_235 rfl ?_
          refine va_get (D := dd) (ci := 5) (C := RX5) (T := TX5) (N := 30) (v := .int (nI Lc.1)) hx hb hts hiX5 hown hK hP 0 rfl rfl 5 (by decide) (hts (.fieldLink RX5 100 "SliceDriftModel" "listed" "I") (by decide +kernel)) (fun _ h9 => h9) rfl dX5_judge_236 ?_
          refine lv_iconst (v := 1) hx hb dX5_judge_239 (by decide) ?_
          refine lv_iadd hx hb dX5_judge_240 ?_
          refine tpi (show ((nI Lc.1) + 1 : Int32) = nI (Lc.1 + 1) from nI_1 _) ?_
          refine va_put (D := dd) (ci := 5) (v := .int (nI (Lc.1 + 1))) (ty := .int) (C := RX5) (T := TX5) (N := 30) hx hb hts hiX5 tyX5 tyX5_ok nmX5 hown hK hP hD hS 0 rfl rfl 5 (by decide) (hts (.fieldLink RX5 100 "SliceDriftModel" "listed" "I") (by decide +kernel)) (fun _ h9 => h9) rfl (by decide +kernel) rfl rfl (Nat.le_of_ble_eq_true rfl) dX5_judge_241 (fun H locs hP hD hS => ?_)
          have hP : va_P dd vwCl [(qm, .inr (5, mo a th (nI n) (nI (Lc.1 + 1)) fm sm ab be st al)), (a 3, .inl (cyZ, 48, .inl hI)), (a 6, .inl (cyI, 700, .inl (upd u.1 0 (nI (f / 11))))), (a 7, .inl (cyI, 700, .inl (upd u.2.1 0 (nI (f % 11))))), (a 8, .inl (cyI, 700, .inl (upd u.2.2.1 0 (c2 g)))), (a 9, .inl (cyI, 700, .inl (upd u.2.2.2.1 0 (s2 g)))), (a 10, .inl (cyJ, 700, .inr (.inl (vp_updL u.2.2.2.2.1 0 (lN x))))), (a 11, .inl (cyI, 700, .inl (upd u.2.2.2.2.2.1 0 (nI (pop x))))), (a 12, .inl (cyI, 700, .inl (upd u.2.2.2.2.2.2 0 (nI (pop (x &&& hm))))))] H := hP
          have hD : va_D A [(qm, .inr (5, mo a th (nI n) (nI (Lc.1 + 1)) fm sm ab be st al)), (a 3, .inl (cyZ, 48, .inl hI)), (a 6, .inl (cyI, 700, .inl (upd u.1 0 (nI (f / 11))))), (a 7, .inl (cyI, 700, .inl (upd u.2.1 0 (nI (f % 11))))), (a 8, .inl (cyI, 700, .inl (upd u.2.2.1 0 (c2 g)))), (a 9, .inl (cyI, 700, .inl (upd u.2.2.2.1 0 (s2 g)))), (a 10, .inl (cyJ, 700, .inr (.inl (vp_updL u.2.2.2.2.1 0 (lN x))))), (a 11, .inl (cyI, 700, .inl (upd u.2.2.2.2.2.1 0 (nI (pop x))))), (a 12, .inl (cyI, 700, .inl (upd u.2.2.2.2.2.2 0 (nI (pop (x &&& hm))))))] := hD
          exact ewV (updR u 0 (nI (f / 11)) (nI (f % 11)) (c2 g) (s2 g) (lN x) (nI (pop x)) (nI (pop (x &&& hm)))) hx hb hr hlocks hAe hS dX5_judge_244 (by show ∀ j, j < Lc.1 + 1 → RelR hm _ j (insE Lc.2 (posn hm Lc.2 Lc.1 x) (x, f, g) j); rw [ep]; exact lst_ins (x := (x, f, g)) hk h1 h2) (hP.sub [0, 1, 2, 3, 4, 5, 6, 7, 8] rfl) (hD.sub [0, 1, 2, 3, 4, 5, 6, 7, 8] (by decide) rfl)
        · exact absurd (show nI 0 ≤ 0 by decide) q2
      | succ k ih =>
        intro u H locs hk h1 h2 h3 hP hD hS ls hl
        refine lv_iload hx hb dX5_judge_26 (lv_at hl 0 rfl) ?_
        refine lv_if_le (tgt := 172) hx hb dX5_judge_28 (by decide) (fun q2 => ?_) (fun q2 => ?_)
        · exact absurd ((nI_leI (b := 0) (by omega) (by decide)).mp q2) (by omega)
        · refine lv_aload_n hx hb dX5_judge_31 rfl (lv_at hl 3 rfl) ?_
          refine lv_iload hx hb dX5_judge_32 (lv_at hl 2 rfl) ?_
          refine lv_iload hx hb dX5_judge_34 (lv_at hl 1 rfl) ?_
          refine lv_iload hx hb dX5_judge_36 (lv_at hl 5 rfl) ?_
          refine lv_iload hx hb dX5_judge_38 (lv_at hl 6 rfl) ?_
          refine lv_iload hx hb dX5_judge_40 (lv_at hl 7 rfl) ?_
          refine lv_iload hx hb dX5_judge_42 (lv_at hl 8 rfl) ?_
          refine lv_iload hx hb dX5_judge_44 (lv_at hl 0 rfl) ?_
          refine lv_iconst (v := 1) hx hb dX5_judge_46 (by decide) ?_
          refine lv_isub hx hb dX5_judge_47 ?_
          refine tpi (show ((nI (k + 1)) - 1 : Int32) = nI k from nI_m1) ?_
          refine clVi (As := [.int (nI (pop x)), .int (nI (pop (x &&& hm))), .int (nI (f / 11)), .int (nI (f % 11)), .int (c2 g), .int (s2 g), .int (nI k)]) (rest := []) (b := qm) (vc := (RX5, TX5, 30)) ⟨hx, hb, hml, hown, hts⟩ (r_goesBefore l dd cyI cyJ cyZ qm a th (nI n) (nI Lc.1) fm sm ab be st al hm x f g hf hg k (by omega) u (Lc.2 k) (h1 k (by omega)) (hlx k (by omega))) gX5_judge_X5_goesBefore (ci := 5) rfl (q0 := 0) rfl (n := 7) rfl ⟨rfl, rfl⟩ (by decide +kernel) ⟨Nat.le_of_ble_eq_true rfl, Nat.le_of_ble_eq_true rfl⟩ hN hK (hP.sub [0, 2, 3, 4, 5, 6, 7, 8] rfl) rfl hl.1 rfl (Nat.le_of_ble_eq_true rfl) dX5_judge_48 ⟨Nat.le_of_ble_eq_true rfl, Nat.le_of_ble_eq_true rfl⟩ (fun r3 h9 => ?_)
          subst h9
          refine lv_if_eq (tgt := 172) hx hb dX5_judge_51 (by decide) (fun q3 => ?_) (fun q3 => ?_)
          · have a0 := b01_0.mp q3
            have ep : posn hm Lc.2 Lc.1 x = (k + 1) := posn_of (hm := hm) (E := Lc.2) (x := x) (ln := Lc.1) ⟨hk, fun j hj => (Bool.not_eq_true _).mp (fun q9 => absurd (ah_mono hs q9 (show j ≤ k by omega) (by omega)) (by rw [a0]; decide)), fun j a b => h3 j a b⟩
            refine lv_aload_n hx hb dX5_judge_172 rfl (lv_at hl 3 rfl) ?_
            refine va_get (D := dd) (ci := 5) (C := RX5) (T := TX5) (N := 30) (v := .ref (a 6)) hx hb hts hiX5 hown hK hP 0 rfl rfl 6 (by decide) (hts (.fieldLink RX5 20 "SliceDriftModel" "firstColumn" "[I") (by decide +kernel)) (fun _ h9 => h9) rfl dX5_judge_173 ?_
            refine lv_iload hx hb dX5_judge_176 (lv_at hl 0 rfl) ?_
            refine lv_iload hx hb dX5_judge_178 (lv_at hl 5 rfl) ?_
            refine va_iast hx hb hK hP hD hS 2 0 rfl rfl (i := nI (k + 1)) (vp_in_nI (show (k + 1) < 700 from (by omega)) (by decide)) dX5_judge_180 (fun H locs hP hD hS => ?_)
            rw [nI_clamp (show (k + 1) < 2 ^ 31 from Nat.lt_trans (show (k + 1) < 700 from (by omega)) (by decide))] at hP hD
            have hP : va_P dd vwCl [(qm, .inr (5, mo a th (nI n) (nI Lc.1) fm sm ab be st al)), (a 3, .inl (cyZ, 48, .inl hI)), (a 6, .inl (cyI, 700, .inl (upd u.1 (k + 1) (nI (f / 11))))), (a 7, .inl (cyI, 700, .inl u.2.1)), (a 8, .inl (cyI, 700, .inl u.2.2.1)), (a 9, .inl (cyI, 700, .inl u.2.2.2.1)), (a 10, .inl (cyJ, 700, .inr (.inl u.2.2.2.2.1))), (a 11, .inl (cyI, 700, .inl u.2.2.2.2.2.1)), (a 12, .inl (cyI, 700, .inl u.2.2.2.2.2.2))] H := hP
            have hD : va_D A [(qm, .inr (5, mo a th (nI n) (nI Lc.1) fm sm ab be st al)), (a 3, .inl (cyZ, 48, .inl hI)), (a 6, .inl (cyI, 700, .inl (upd u.1 (k + 1) (nI (f / 11))))), (a 7, .inl (cyI, 700, .inl u.2.1)), (a 8, .inl (cyI, 700, .inl u.2.2.1)), (a 9, .inl (cyI, 700, .inl u.2.2.2.1)), (a 10, .inl (cyJ, 700, .inr (.inl u.2.2.2.2.1))), (a 11, .inl (cyI, 700, .inl u.2.2.2.2.2.1)), (a 12, .inl (cyI, 700, .inl u.2.2.2.2.2.2))] := hD
            refine lv_aload_n hx hb dX5_judge_181 rfl (lv_at hl 3 rfl) ?_
            refine va_get (D := dd) (ci := 5) (C := RX5) (T := TX5) (N := 30) (v := .ref (a 7)) hx hb hts hiX5 hown hK hP 0 rfl rfl 7 (by decide) (hts (.fieldLink RX5 23 "SliceDriftModel" "firstSort" "[I") (by decide +kernel)) (fun _ h9 => h9) rfl dX5_judge_182 ?_
            refine lv_iload hx hb dX5_judge_185 (lv_at hl 0 rfl) ?_
            refine lv_iload hx hb dX5_judge_187 (lv_at hl 6 rfl) ?_
            refine va_iast hx hb hK hP hD hS 3 0 rfl rfl (i := nI (k + 1)) (vp_in_nI (show (k + 1) < 700 from (by omega)) (by decide)) dX5_judge_189 (fun H locs hP hD hS => ?_)
            rw [nI_clamp (show (k + 1) < 2 ^ 31 from Nat.lt_trans (show (k + 1) < 700 from (by omega)) (by decide))] at hP hD
            have hP : va_P dd vwCl [(qm, .inr (5, mo a th (nI n) (nI Lc.1) fm sm ab be st al)), (a 3, .inl (cyZ, 48, .inl hI)), (a 6, .inl (cyI, 700, .inl (upd u.1 (k + 1) (nI (f / 11))))), (a 7, .inl (cyI, 700, .inl (upd u.2.1 (k + 1) (nI (f % 11))))), (a 8, .inl (cyI, 700, .inl u.2.2.1)), (a 9, .inl (cyI, 700, .inl u.2.2.2.1)), (a 10, .inl (cyJ, 700, .inr (.inl u.2.2.2.2.1))), (a 11, .inl (cyI, 700, .inl u.2.2.2.2.2.1)), (a 12, .inl (cyI, 700, .inl u.2.2.2.2.2.2))] H := hP
            have hD : va_D A [(qm, .inr (5, mo a th (nI n) (nI Lc.1) fm sm ab be st al)), (a 3, .inl (cyZ, 48, .inl hI)), (a 6, .inl (cyI, 700, .inl (upd u.1 (k + 1) (nI (f / 11))))), (a 7, .inl (cyI, 700, .inl (upd u.2.1 (k + 1) (nI (f % 11))))), (a 8, .inl (cyI, 700, .inl u.2.2.1)), (a 9, .inl (cyI, 700, .inl u.2.2.2.1)), (a 10, .inl (cyJ, 700, .inr (.inl u.2.2.2.2.1))), (a 11, .inl (cyI, 700, .inl u.2.2.2.2.2.1)), (a 12, .inl (cyI, 700, .inl u.2.2.2.2.2.2))] := hD
            refine lv_aload_n hx hb dX5_judge_190 rfl (lv_at hl 3 rfl) ?_
            refine va_get (D := dd) (ci := 5) (C := RX5) (T := TX5) (N := 30) (v := .ref (a 8)) hx hb hts hiX5 hown hK hP 0 rfl rfl 8 (by decide) (hts (.fieldLink RX5 26 "SliceDriftModel" "secondColumn" "[I") (by decide +kernel)) (fun _ h9 => h9) rfl dX5_judge_191 ?_
            refine lv_iload hx hb dX5_judge_194 (lv_at hl 0 rfl) ?_
            refine lv_iload hx hb dX5_judge_196 (lv_at hl 7 rfl) ?_
            refine va_iast hx hb hK hP hD hS 4 0 rfl rfl (i := nI (k + 1)) (vp_in_nI (show (k + 1) < 700 from (by omega)) (by decide)) dX5_judge_198 (fun H locs hP hD hS => ?_)
            rw [nI_clamp (show (k + 1) < 2 ^ 31 from Nat.lt_trans (show (k + 1) < 700 from (by omega)) (by decide))] at hP hD
            have hP : va_P dd vwCl [(qm, .inr (5, mo a th (nI n) (nI Lc.1) fm sm ab be st al)), (a 3, .inl (cyZ, 48, .inl hI)), (a 6, .inl (cyI, 700, .inl (upd u.1 (k + 1) (nI (f / 11))))), (a 7, .inl (cyI, 700, .inl (upd u.2.1 (k + 1) (nI (f % 11))))), (a 8, .inl (cyI, 700, .inl (upd u.2.2.1 (k + 1) (c2 g)))), (a 9, .inl (cyI, 700, .inl u.2.2.2.1)), (a 10, .inl (cyJ, 700, .inr (.inl u.2.2.2.2.1))), (a 11, .inl (cyI, 700, .inl u.2.2.2.2.2.1)), (a 12, .inl (cyI, 700, .inl u.2.2.2.2.2.2))] H := hP
            have hD : va_D A [(qm, .inr (5, mo a th (nI n) (nI Lc.1) fm sm ab be st al)), (a 3, .inl (cyZ, 48, .inl hI)), (a 6, .inl (cyI, 700, .inl (upd u.1 (k + 1) (nI (f / 11))))), (a 7, .inl (cyI, 700, .inl (upd u.2.1 (k + 1) (nI (f % 11))))), (a 8, .inl (cyI, 700, .inl (upd u.2.2.1 (k + 1) (c2 g)))), (a 9, .inl (cyI, 700, .inl u.2.2.2.1)), (a 10, .inl (cyJ, 700, .inr (.inl u.2.2.2.2.1))), (a 11, .inl (cyI, 700, .inl u.2.2.2.2.2.1)), (a 12, .inl (cyI, 700, .inl u.2.2.2.2.2.2))] := hD
            refine lv_aload_n hx hb dX5_judge_199 rfl (lv_at hl 3 rfl) ?_
            refine va_get (D := dd) (ci := 5) (C := RX5) (T := TX5) (N := 30) (v := .ref (a 9)) hx hb hts hiX5 hown hK hP 0 rfl rfl 9 (by decide) (hts (.fieldLink RX5 29 "SliceDriftModel" "secondSort" "[I") (by decide +kernel)) (fun _ h9 => h9) rfl dX5_judge_200 ?_
            refine lv_iload hx hb dX5_judge_203 (lv_at hl 0 rfl) ?_
            refine lv_iload hx hb dX5_judge_205 (lv_at hl 8 rfl) ?_
            refine va_iast hx hb hK hP hD hS 5 0 rfl rfl (i := nI (k + 1)) (vp_in_nI (show (k + 1) < 700 from (by omega)) (by decide)) dX5_judge_207 (fun H locs hP hD hS => ?_)
            rw [nI_clamp (show (k + 1) < 2 ^ 31 from Nat.lt_trans (show (k + 1) < 700 from (by omega)) (by decide))] at hP hD
            have hP : va_P dd vwCl [(qm, .inr (5, mo a th (nI n) (nI Lc.1) fm sm ab be st al)), (a 3, .inl (cyZ, 48, .inl hI)), (a 6, .inl (cyI, 700, .inl (upd u.1 (k + 1) (nI (f / 11))))), (a 7, .inl (cyI, 700, .inl (upd u.2.1 (k + 1) (nI (f % 11))))), (a 8, .inl (cyI, 700, .inl (upd u.2.2.1 (k + 1) (c2 g)))), (a 9, .inl (cyI, 700, .inl (upd u.2.2.2.1 (k + 1) (s2 g)))), (a 10, .inl (cyJ, 700, .inr (.inl u.2.2.2.2.1))), (a 11, .inl (cyI, 700, .inl u.2.2.2.2.2.1)), (a 12, .inl (cyI, 700, .inl u.2.2.2.2.2.2))] H := hP
            have hD : va_D A [(qm, .inr (5, mo a th (nI n) (nI Lc.1) fm sm ab be st al)), (a 3, .inl (cyZ, 48, .inl hI)), (a 6, .inl (cyI, 700, .inl (upd u.1 (k + 1) (nI (f / 11))))), (a 7, .inl (cyI, 700, .inl (upd u.2.1 (k + 1) (nI (f % 11))))), (a 8, .inl (cyI, 700, .inl (upd u.2.2.1 (k + 1) (c2 g)))), (a 9, .inl (cyI, 700, .inl (upd u.2.2.2.1 (k + 1) (s2 g)))), (a 10, .inl (cyJ, 700, .inr (.inl u.2.2.2.2.1))), (a 11, .inl (cyI, 700, .inl u.2.2.2.2.2.1)), (a 12, .inl (cyI, 700, .inl u.2.2.2.2.2.2))] := hD
            refine lv_aload_n hx hb dX5_judge_208 rfl (lv_at hl 3 rfl) ?_
            refine va_get (D := dd) (ci := 5) (C := RX5) (T := TX5) (N := 30) (v := .ref (a 10)) hx hb hts hiX5 hown hK hP 0 rfl rfl 10 (by decide) (hts (.fieldLink RX5 32 "SliceDriftModel" "members" "[J") (by decide +kernel)) (fun _ h9 => h9) rfl dX5_judge_209 ?_
            refine lv_iload hx hb dX5_judge_212 (lv_at hl 0 rfl) ?_
            refine lv_lload_n hx hb dX5_judge_214 rfl (lv_at hl 4 rfl) ?_
            refine va_last hx hb hK hP hD hS 6 1 rfl rfl (i := nI (k + 1)) (vp_in_nI (show (k + 1) < 700 from (by omega)) (by decide)) dX5_judge_215 (fun H locs hP hD hS => ?_)
            rw [nI_clamp (show (k + 1) < 2 ^ 31 from Nat.lt_trans (show (k + 1) < 700 from (by omega)) (by decide))] at hP hD
            have hP : va_P dd vwCl [(qm, .inr (5, mo a th (nI n) (nI Lc.1) fm sm ab be st al)), (a 3, .inl (cyZ, 48, .inl hI)), (a 6, .inl (cyI, 700, .inl (upd u.1 (k + 1) (nI (f / 11))))), (a 7, .inl (cyI, 700, .inl (upd u.2.1 (k + 1) (nI (f % 11))))), (a 8, .inl (cyI, 700, .inl (upd u.2.2.1 (k + 1) (c2 g)))), (a 9, .inl (cyI, 700, .inl (upd u.2.2.2.1 (k + 1) (s2 g)))), (a 10, .inl (cyJ, 700, .inr (.inl (vp_updL u.2.2.2.2.1 (k + 1) (lN x))))), (a 11, .inl (cyI, 700, .inl u.2.2.2.2.2.1)), (a 12, .inl (cyI, 700, .inl u.2.2.2.2.2.2))] H := hP
            have hD : va_D A [(qm, .inr (5, mo a th (nI n) (nI Lc.1) fm sm ab be st al)), (a 3, .inl (cyZ, 48, .inl hI)), (a 6, .inl (cyI, 700, .inl (upd u.1 (k + 1) (nI (f / 11))))), (a 7, .inl (cyI, 700, .inl (upd u.2.1 (k + 1) (nI (f % 11))))), (a 8, .inl (cyI, 700, .inl (upd u.2.2.1 (k + 1) (c2 g)))), (a 9, .inl (cyI, 700, .inl (upd u.2.2.2.1 (k + 1) (s2 g)))), (a 10, .inl (cyJ, 700, .inr (.inl (vp_updL u.2.2.2.2.1 (k + 1) (lN x))))), (a 11, .inl (cyI, 700, .inl u.2.2.2.2.2.1)), (a 12, .inl (cyI, 700, .inl u.2.2.2.2.2.2))] := hD
            refine lv_aload_n hx hb dX5_judge_216 rfl (lv_at hl 3 rfl) ?_
            refine va_get (D := dd) (ci := 5) (C := RX5) (T := TX5) (N := 30) (v := .ref (a 11)) hx hb hts hiX5 hown hK hP 0 rfl rfl 11 (by decide) (hts (.fieldLink RX5 36 "SliceDriftModel" "many" "[I") (by decide +kernel)) (fun _ h9 => h9) rfl dX5_judge_217 ?_
            refine lv_iload hx hb dX5_judge_220 (lv_at hl 0 rfl) ?_
            refine lv_iload hx hb dX5_judge_222 (lv_at hl 2 rfl) ?_
            refine va_iast hx hb hK hP hD hS 7 0 rfl rfl (i := nI (k + 1)) (vp_in_nI (show (k + 1) < 700 from (by omega)) (by decide)) dX5_judge_224 (fun H locs hP hD hS => ?_)
            rw [nI_clamp (show (k + 1) < 2 ^ 31 from Nat.lt_trans (show (k + 1) < 700 from (by omega)) (by decide))] at hP hD
            have hP : va_P dd vwCl [(qm, .inr (5, mo a th (nI n) (nI Lc.1) fm sm ab be st al)), (a 3, .inl (cyZ, 48, .inl hI)), (a 6, .inl (cyI, 700, .inl (upd u.1 (k + 1) (nI (f / 11))))), (a 7, .inl (cyI, 700, .inl (upd u.2.1 (k + 1) (nI (f % 11))))), (a 8, .inl (cyI, 700, .inl (upd u.2.2.1 (k + 1) (c2 g)))), (a 9, .inl (cyI, 700, .inl (upd u.2.2.2.1 (k + 1) (s2 g)))), (a 10, .inl (cyJ, 700, .inr (.inl (vp_updL u.2.2.2.2.1 (k + 1) (lN x))))), (a 11, .inl (cyI, 700, .inl (upd u.2.2.2.2.2.1 (k + 1) (nI (pop x))))), (a 12, .inl (cyI, 700, .inl u.2.2.2.2.2.2))] H := hP
            have hD : va_D A [(qm, .inr (5, mo a th (nI n) (nI Lc.1) fm sm ab be st al)), (a 3, .inl (cyZ, 48, .inl hI)), (a 6, .inl (cyI, 700, .inl (upd u.1 (k + 1) (nI (f / 11))))), (a 7, .inl (cyI, 700, .inl (upd u.2.1 (k + 1) (nI (f % 11))))), (a 8, .inl (cyI, 700, .inl (upd u.2.2.1 (k + 1) (c2 g)))), (a 9, .inl (cyI, 700, .inl (upd u.2.2.2.1 (k + 1) (s2 g)))), (a 10, .inl (cyJ, 700, .inr (.inl (vp_updL u.2.2.2.2.1 (k + 1) (lN x))))), (a 11, .inl (cyI, 700, .inl (upd u.2.2.2.2.2.1 (k + 1) (nI (pop x))))), (a 12, .inl (cyI, 700, .inl u.2.2.2.2.2.2))] := hD
            refine lv_aload_n hx hb dX5_judge_225 rfl (lv_at hl 3 rfl) ?_
            refine va_get (D := dd) (ci := 5) (C := RX5) (T := TX5) (N := 30) (v := .ref (a 12)) hx hb hts hiX5 hown hK hP 0 rfl rfl 12 (by decide) (hts (.fieldLink RX5 39 "SliceDriftModel" "hits" "[I") (by decide +kernel)) (fun _ h9 => h9) rfl dX5_judge_226 ?_
            refine lv_iload hx hb dX5_judge_229 (lv_at hl 0 rfl) ?_
            refine lv_iload hx hb dX5_judge_231 (lv_at hl 1 rfl) ?_
            refine va_iast hx hb hK hP hD hS 8 0 rfl rfl (i := nI (k + 1)) (vp_in_nI (show (k + 1) < 700 from (by omega)) (by decide)) dX5_judge_233 (fun H locs hP hD hS => ?_)
            rw [nI_clamp (show (k + 1) < 2 ^ 31 from Nat.lt_trans (show (k + 1) < 700 from (by omega)) (by decide))] at hP hD
            have hP : va_P dd vwCl [(qm, .inr (5, mo a th (nI n) (nI Lc.1) fm sm ab be st al)), (a 3, .inl (cyZ, 48, .inl hI)), (a 6, .inl (cyI, 700, .inl (upd u.1 (k + 1) (nI (f / 11))))), (a 7, .inl (cyI, 700, .inl (upd u.2.1 (k + 1) (nI (f % 11))))), (a 8, .inl (cyI, 700, .inl (upd u.2.2.1 (k + 1) (c2 g)))), (a 9, .inl (cyI, 700, .inl (upd u.2.2.2.1 (k + 1) (s2 g)))), (a 10, .inl (cyJ, 700, .inr (.inl (vp_updL u.2.2.2.2.1 (k + 1) (lN x))))), (a 11, .inl (cyI, 700, .inl (upd u.2.2.2.2.2.1 (k + 1) (nI (pop x))))), (a 12, .inl (cyI, 700, .inl (upd u.2.2.2.2.2.2 (k + 1) (nI (pop (x &&& hm))))))] H := hP
            have hD : va_D A [(qm, .inr (5, mo a th (nI n) (nI Lc.1) fm sm ab be st al)), (a 3, .inl (cyZ, 48, .inl hI)), (a 6, .inl (cyI, 700, .inl (upd u.1 (k + 1) (nI (f / 11))))), (a 7, .inl (cyI, 700, .inl (upd u.2.1 (k + 1) (nI (f % 11))))), (a 8, .inl (cyI, 700, .inl (upd u.2.2.1 (k + 1) (c2 g)))), (a 9, .inl (cyI, 700, .inl (upd u.2.2.2.1 (k + 1) (s2 g)))), (a 10, .inl (cyJ, 700, .inr (.inl (vp_updL u.2.2.2.2.1 (k + 1) (lN x))))), (a 11, .inl (cyI, 700, .inl (upd u.2.2.2.2.2.1 (k + 1) (nI (pop x))))), (a 12, .inl (cyI, 700, .inl (upd u.2.2.2.2.2.2 (k + 1) (nI (pop (x &&& hm))))))] := hD
            refine lv_aload_n hx hb dX5_judge_234 rfl (lv_at hl 3 rfl) ?_
            refine lv_dup hx hb dX5_judge_235 rfl ?_
            refine va_get (D := dd) (ci := 5) (C := RX5) (T := TX5) (N := 30) (v := .int (nI Lc.1)) hx hb hts hiX5 hown hK hP 0 rfl rfl 5 (by decide) (hts (.fieldLink RX5 100 "SliceDriftModel" "listed" "I") (by decide +kernel)) (fun _ h9 => h9) rfl dX5_judge_236 ?_
            refine lv_iconst (v := 1) hx hb dX5_judge_239 (by decide) ?_
            refine lv_iadd hx hb dX5_judge_240 ?_
            refine tpi (show ((nI Lc.1) + 1 : Int32) = nI (Lc.1 + 1) from nI_1 _) ?_
            refine va_put (D := dd) (ci := 5) (v := .int (nI (Lc.1 + 1))) (ty := .int) (C := RX5) (T := TX5) (N := 30) hx hb hts hiX5 tyX5 tyX5_ok nmX5 hown hK hP hD hS 0 rfl rfl 5 (by decide) (hts (.fieldLink RX5 100 "SliceDriftModel" "listed" "I") (by decide +kernel)) (fun _ h9 => h9) rfl (by decide +kernel) rfl rfl (Nat.le_of_ble_eq_true rfl) dX5_judge_241 (fun H locs hP hD hS => ?_)
            have hP : va_P dd vwCl [(qm, .inr (5, mo a th (nI n) (nI (Lc.1 + 1)) fm sm ab be st al)), (a 3, .inl (cyZ, 48, .inl hI)), (a 6, .inl (cyI, 700, .inl (upd u.1 (k + 1) (nI (f / 11))))), (a 7, .inl (cyI, 700, .inl (upd u.2.1 (k + 1) (nI (f % 11))))), (a 8, .inl (cyI, 700, .inl (upd u.2.2.1 (k + 1) (c2 g)))), (a 9, .inl (cyI, 700, .inl (upd u.2.2.2.1 (k + 1) (s2 g)))), (a 10, .inl (cyJ, 700, .inr (.inl (vp_updL u.2.2.2.2.1 (k + 1) (lN x))))), (a 11, .inl (cyI, 700, .inl (upd u.2.2.2.2.2.1 (k + 1) (nI (pop x))))), (a 12, .inl (cyI, 700, .inl (upd u.2.2.2.2.2.2 (k + 1) (nI (pop (x &&& hm))))))] H := hP
            have hD : va_D A [(qm, .inr (5, mo a th (nI n) (nI (Lc.1 + 1)) fm sm ab be st al)), (a 3, .inl (cyZ, 48, .inl hI)), (a 6, .inl (cyI, 700, .inl (upd u.1 (k + 1) (nI (f / 11))))), (a 7, .inl (cyI, 700, .inl (upd u.2.1 (k + 1) (nI (f % 11))))), (a 8, .inl (cyI, 700, .inl (upd u.2.2.1 (k + 1) (c2 g)))), (a 9, .inl (cyI, 700, .inl (upd u.2.2.2.1 (k + 1) (s2 g)))), (a 10, .inl (cyJ, 700, .inr (.inl (vp_updL u.2.2.2.2.1 (k + 1) (lN x))))), (a 11, .inl (cyI, 700, .inl (upd u.2.2.2.2.2.1 (k + 1) (nI (pop x))))), (a 12, .inl (cyI, 700, .inl (upd u.2.2.2.2.2.2 (k + 1) (nI (pop (x &&& hm))))))] := hD
            exact ewV (updR u (k + 1) (nI (f / 11)) (nI (f % 11)) (c2 g) (s2 g) (lN x) (nI (pop x)) (nI (pop (x &&& hm)))) hx hb hr hlocks hAe hS dX5_judge_244 (by show ∀ j, j < Lc.1 + 1 → RelR hm _ j (insE Lc.2 (posn hm Lc.2 Lc.1 x) (x, f, g) j); rw [ep]; exact lst_ins (x := (x, f, g)) hk h1 h2) (hP.sub [0, 1, 2, 3, 4, 5, 6, 7, 8] rfl) (hD.sub [0, 1, 2, 3, 4, 5, 6, 7, 8] (by decide) rfl)
          · have a1 : ah hm x (Lc.2 k).1 = true := (Bool.not_eq_false _).mp (fun h => q3 (b01_0.mpr h))
            refine lv_aload_n hx hb dX5_judge_54 rfl (lv_at hl 3 rfl) ?_
            refine va_get (D := dd) (ci := 5) (C := RX5) (T := TX5) (N := 30) (v := .ref (a 6)) hx hb hts hiX5 hown hK hP 0 rfl rfl 6 (by decide) (hts (.fieldLink RX5 20 "SliceDriftModel" "firstColumn" "[I") (by decide +kernel)) (fun _ h9 => h9) rfl dX5_judge_55 ?_
            refine lv_iload hx hb dX5_judge_58 (lv_at hl 0 rfl) ?_
            refine lv_aload_n hx hb dX5_judge_60 rfl (lv_at hl 3 rfl) ?_
            refine va_get (D := dd) (ci := 5) (C := RX5) (T := TX5) (N := 30) (v := .ref (a 6)) hx hb hts hiX5 hown hK hP 0 rfl rfl 6 (by decide) (hts (.fieldLink RX5 20 "SliceDriftModel" "firstColumn" "[I") (by decide +kernel)) (fun _ h9 => h9) rfl dX5_judge_61 ?_
            refine lv_iload hx hb dX5_judge_64 (lv_at hl 0 rfl) ?_
            refine lv_iconst (v := 1) hx hb dX5_judge_66 (by decide) ?_
            refine lv_isub hx hb dX5_judge_67 ?_
            refine tpi (show ((nI (k + 1)) - 1 : Int32) = nI k from nI_m1) ?_
            refine va_iald hx hb hK hP 2 0 rfl rfl (i := nI k) (vp_in_nI (show k < 700 from (by omega)) (by decide)) dX5_judge_68 ?_
            rw [nI_clamp (show k < 2 ^ 31 from Nat.lt_trans (show k < 700 from (by omega)) (by decide))]
            refine va_iast hx hb hK hP hD hS 2 0 rfl rfl (i := nI (k + 1)) (vp_in_nI (show (k + 1) < 700 from (by omega)) (by decide)) dX5_judge_69 (fun H locs hP hD hS => ?_)
            rw [nI_clamp (show (k + 1) < 2 ^ 31 from Nat.lt_trans (show (k + 1) < 700 from (by omega)) (by decide))] at hP hD
            have hP : va_P dd vwCl [(qm, .inr (5, mo a th (nI n) (nI Lc.1) fm sm ab be st al)), (a 3, .inl (cyZ, 48, .inl hI)), (a 6, .inl (cyI, 700, .inl (upd u.1 (k + 1) (u.1 k)))), (a 7, .inl (cyI, 700, .inl u.2.1)), (a 8, .inl (cyI, 700, .inl u.2.2.1)), (a 9, .inl (cyI, 700, .inl u.2.2.2.1)), (a 10, .inl (cyJ, 700, .inr (.inl u.2.2.2.2.1))), (a 11, .inl (cyI, 700, .inl u.2.2.2.2.2.1)), (a 12, .inl (cyI, 700, .inl u.2.2.2.2.2.2))] H := hP
            have hD : va_D A [(qm, .inr (5, mo a th (nI n) (nI Lc.1) fm sm ab be st al)), (a 3, .inl (cyZ, 48, .inl hI)), (a 6, .inl (cyI, 700, .inl (upd u.1 (k + 1) (u.1 k)))), (a 7, .inl (cyI, 700, .inl u.2.1)), (a 8, .inl (cyI, 700, .inl u.2.2.1)), (a 9, .inl (cyI, 700, .inl u.2.2.2.1)), (a 10, .inl (cyJ, 700, .inr (.inl u.2.2.2.2.1))), (a 11, .inl (cyI, 700, .inl u.2.2.2.2.2.1)), (a 12, .inl (cyI, 700, .inl u.2.2.2.2.2.2))] := hD
            refine lv_aload_n hx hb dX5_judge_70 rfl (lv_at hl 3 rfl) ?_
            refine va_get (D := dd) (ci := 5) (C := RX5) (T := TX5) (N := 30) (v := .ref (a 7)) hx hb hts hiX5 hown hK hP 0 rfl rfl 7 (by decide) (hts (.fieldLink RX5 23 "SliceDriftModel" "firstSort" "[I") (by decide +kernel)) (fun _ h9 => h9) rfl dX5_judge_71 ?_
            refine lv_iload hx hb dX5_judge_74 (lv_at hl 0 rfl) ?_
            refine lv_aload_n hx hb dX5_judge_76 rfl (lv_at hl 3 rfl) ?_
            refine va_get (D := dd) (ci := 5) (C := RX5) (T := TX5) (N := 30) (v := .ref (a 7)) hx hb hts hiX5 hown hK hP 0 rfl rfl 7 (by decide) (hts (.fieldLink RX5 23 "SliceDriftModel" "firstSort" "[I") (by decide +kernel)) (fun _ h9 => h9) rfl dX5_judge_77 ?_
            refine lv_iload hx hb dX5_judge_80 (lv_at hl 0 rfl) ?_
            refine lv_iconst (v := 1) hx hb dX5_judge_82 (by decide) ?_
            refine lv_isub hx hb dX5_judge_83 ?_
            refine tpi (show ((nI (k + 1)) - 1 : Int32) = nI k from nI_m1) ?_
            refine va_iald hx hb hK hP 3 0 rfl rfl (i := nI k) (vp_in_nI (show k < 700 from (by omega)) (by decide)) dX5_judge_84 ?_
            rw [nI_clamp (show k < 2 ^ 31 from Nat.lt_trans (show k < 700 from (by omega)) (by decide))]
            refine va_iast hx hb hK hP hD hS 3 0 rfl rfl (i := nI (k + 1)) (vp_in_nI (show (k + 1) < 700 from (by omega)) (by decide)) dX5_judge_85 (fun H locs hP hD hS => ?_)
            rw [nI_clamp (show (k + 1) < 2 ^ 31 from Nat.lt_trans (show (k + 1) < 700 from (by omega)) (by decide))] at hP hD
            have hP : va_P dd vwCl [(qm, .inr (5, mo a th (nI n) (nI Lc.1) fm sm ab be st al)), (a 3, .inl (cyZ, 48, .inl hI)), (a 6, .inl (cyI, 700, .inl (upd u.1 (k + 1) (u.1 k)))), (a 7, .inl (cyI, 700, .inl (upd u.2.1 (k + 1) (u.2.1 k)))), (a 8, .inl (cyI, 700, .inl u.2.2.1)), (a 9, .inl (cyI, 700, .inl u.2.2.2.1)), (a 10, .inl (cyJ, 700, .inr (.inl u.2.2.2.2.1))), (a 11, .inl (cyI, 700, .inl u.2.2.2.2.2.1)), (a 12, .inl (cyI, 700, .inl u.2.2.2.2.2.2))] H := hP
            have hD : va_D A [(qm, .inr (5, mo a th (nI n) (nI Lc.1) fm sm ab be st al)), (a 3, .inl (cyZ, 48, .inl hI)), (a 6, .inl (cyI, 700, .inl (upd u.1 (k + 1) (u.1 k)))), (a 7, .inl (cyI, 700, .inl (upd u.2.1 (k + 1) (u.2.1 k)))), (a 8, .inl (cyI, 700, .inl u.2.2.1)), (a 9, .inl (cyI, 700, .inl u.2.2.2.1)), (a 10, .inl (cyJ, 700, .inr (.inl u.2.2.2.2.1))), (a 11, .inl (cyI, 700, .inl u.2.2.2.2.2.1)), (a 12, .inl (cyI, 700, .inl u.2.2.2.2.2.2))] := hD
            refine lv_aload_n hx hb dX5_judge_86 rfl (lv_at hl 3 rfl) ?_
            refine va_get (D := dd) (ci := 5) (C := RX5) (T := TX5) (N := 30) (v := .ref (a 8)) hx hb hts hiX5 hown hK hP 0 rfl rfl 8 (by decide) (hts (.fieldLink RX5 26 "SliceDriftModel" "secondColumn" "[I") (by decide +kernel)) (fun _ h9 => h9) rfl dX5_judge_87 ?_
            refine lv_iload hx hb dX5_judge_90 (lv_at hl 0 rfl) ?_
            refine lv_aload_n hx hb dX5_judge_92 rfl (lv_at hl 3 rfl) ?_
            refine va_get (D := dd) (ci := 5) (C := RX5) (T := TX5) (N := 30) (v := .ref (a 8)) hx hb hts hiX5 hown hK hP 0 rfl rfl 8 (by decide) (hts (.fieldLink RX5 26 "SliceDriftModel" "secondColumn" "[I") (by decide +kernel)) (fun _ h9 => h9) rfl dX5_judge_93 ?_
            refine lv_iload hx hb dX5_judge_96 (lv_at hl 0 rfl) ?_
            refine lv_iconst (v := 1) hx hb dX5_judge_98 (by decide) ?_
            refine lv_isub hx hb dX5_judge_99 ?_
            refine tpi (show ((nI (k + 1)) - 1 : Int32) = nI k from nI_m1) ?_
            refine va_iald hx hb hK hP 4 0 rfl rfl (i := nI k) (vp_in_nI (show k < 700 from (by omega)) (by decide)) dX5_judge_100 ?_
            rw [nI_clamp (show k < 2 ^ 31 from Nat.lt_trans (show k < 700 from (by omega)) (by decide))]
            refine va_iast hx hb hK hP hD hS 4 0 rfl rfl (i := nI (k + 1)) (vp_in_nI (show (k + 1) < 700 from (by omega)) (by decide)) dX5_judge_101 (fun H locs hP hD hS => ?_)
            rw [nI_clamp (show (k + 1) < 2 ^ 31 from Nat.lt_trans (show (k + 1) < 700 from (by omega)) (by decide))] at hP hD
            have hP : va_P dd vwCl [(qm, .inr (5, mo a th (nI n) (nI Lc.1) fm sm ab be st al)), (a 3, .inl (cyZ, 48, .inl hI)), (a 6, .inl (cyI, 700, .inl (upd u.1 (k + 1) (u.1 k)))), (a 7, .inl (cyI, 700, .inl (upd u.2.1 (k + 1) (u.2.1 k)))), (a 8, .inl (cyI, 700, .inl (upd u.2.2.1 (k + 1) (u.2.2.1 k)))), (a 9, .inl (cyI, 700, .inl u.2.2.2.1)), (a 10, .inl (cyJ, 700, .inr (.inl u.2.2.2.2.1))), (a 11, .inl (cyI, 700, .inl u.2.2.2.2.2.1)), (a 12, .inl (cyI, 700, .inl u.2.2.2.2.2.2))] H := hP
            have hD : va_D A [(qm, .inr (5, mo a th (nI n) (nI Lc.1) fm sm ab be st al)), (a 3, .inl (cyZ, 48, .inl hI)), (a 6, .inl (cyI, 700, .inl (upd u.1 (k + 1) (u.1 k)))), (a 7, .inl (cyI, 700, .inl (upd u.2.1 (k + 1) (u.2.1 k)))), (a 8, .inl (cyI, 700, .inl (upd u.2.2.1 (k + 1) (u.2.2.1 k)))), (a 9, .inl (cyI, 700, .inl u.2.2.2.1)), (a 10, .inl (cyJ, 700, .inr (.inl u.2.2.2.2.1))), (a 11, .inl (cyI, 700, .inl u.2.2.2.2.2.1)), (a 12, .inl (cyI, 700, .inl u.2.2.2.2.2.2))] := hD
            refine lv_aload_n hx hb dX5_judge_102 rfl (lv_at hl 3 rfl) ?_
            refine va_get (D := dd) (ci := 5) (C := RX5) (T := TX5) (N := 30) (v := .ref (a 9)) hx hb hts hiX5 hown hK hP 0 rfl rfl 9 (by decide) (hts (.fieldLink RX5 29 "SliceDriftModel" "secondSort" "[I") (by decide +kernel)) (fun _ h9 => h9) rfl dX5_judge_103 ?_
            refine lv_iload hx hb dX5_judge_106 (lv_at hl 0 rfl) ?_
            refine lv_aload_n hx hb dX5_judge_108 rfl (lv_at hl 3 rfl) ?_
            refine va_get (D := dd) (ci := 5) (C := RX5) (T := TX5) (N := 30) (v := .ref (a 9)) hx hb hts hiX5 hown hK hP 0 rfl rfl 9 (by decide) (hts (.fieldLink RX5 29 "SliceDriftModel" "secondSort" "[I") (by decide +kernel)) (fun _ h9 => h9) rfl dX5_judge_109 ?_
            refine lv_iload hx hb dX5_judge_112 (lv_at hl 0 rfl) ?_
            refine lv_iconst (v := 1) hx hb dX5_judge_114 (by decide) ?_
            refine lv_isub hx hb dX5_judge_115 ?_
            refine tpi (show ((nI (k + 1)) - 1 : Int32) = nI k from nI_m1) ?_
            refine va_iald hx hb hK hP 5 0 rfl rfl (i := nI k) (vp_in_nI (show k < 700 from (by omega)) (by decide)) dX5_judge_116 ?_
            rw [nI_clamp (show k < 2 ^ 31 from Nat.lt_trans (show k < 700 from (by omega)) (by decide))]
            refine va_iast hx hb hK hP hD hS 5 0 rfl rfl (i := nI (k + 1)) (vp_in_nI (show (k + 1) < 700 from (by omega)) (by decide)) dX5_judge_117 (fun H locs hP hD hS => ?_)
            rw [nI_clamp (show (k + 1) < 2 ^ 31 from Nat.lt_trans (show (k + 1) < 700 from (by omega)) (by decide))] at hP hD
            have hP : va_P dd vwCl [(qm, .inr (5, mo a th (nI n) (nI Lc.1) fm sm ab be st al)), (a 3, .inl (cyZ, 48, .inl hI)), (a 6, .inl (cyI, 700, .inl (upd u.1 (k + 1) (u.1 k)))), (a 7, .inl (cyI, 700, .inl (upd u.2.1 (k + 1) (u.2.1 k)))), (a 8, .inl (cyI, 700, .inl (upd u.2.2.1 (k + 1) (u.2.2.1 k)))), (a 9, .inl (cyI, 700, .inl (upd u.2.2.2.1 (k + 1) (u.2.2.2.1 k)))), (a 10, .inl (cyJ, 700, .inr (.inl u.2.2.2.2.1))), (a 11, .inl (cyI, 700, .inl u.2.2.2.2.2.1)), (a 12, .inl (cyI, 700, .inl u.2.2.2.2.2.2))] H := hP
            have hD : va_D A [(qm, .inr (5, mo a th (nI n) (nI Lc.1) fm sm ab be st al)), (a 3, .inl (cyZ, 48, .inl hI)), (a 6, .inl (cyI, 700, .inl (upd u.1 (k + 1) (u.1 k)))), (a 7, .inl (cyI, 700, .inl (upd u.2.1 (k + 1) (u.2.1 k)))), (a 8, .inl (cyI, 700, .inl (upd u.2.2.1 (k + 1) (u.2.2.1 k)))), (a 9, .inl (cyI, 700, .inl (upd u.2.2.2.1 (k + 1) (u.2.2.2.1 k)))), (a 10, .inl (cyJ, 700, .inr (.inl u.2.2.2.2.1))), (a 11, .inl (cyI, 700, .inl u.2.2.2.2.2.1)), (a 12, .inl (cyI, 700, .inl u.2.2.2.2.2.2))] := hD
            refine lv_aload_n hx hb dX5_judge_118 rfl (lv_at hl 3 rfl) ?_
            refine va_get (D := dd) (ci := 5) (C := RX5) (T := TX5) (N := 30) (v := .ref (a 10)) hx hb hts hiX5 hown hK hP 0 rfl rfl 10 (by decide) (hts (.fieldLink RX5 32 "SliceDriftModel" "members" "[J") (by decide +kernel)) (fun _ h9 => h9) rfl dX5_judge_119 ?_
            refine lv_iload hx hb dX5_judge_122 (lv_at hl 0 rfl) ?_
            refine lv_aload_n hx hb dX5_judge_124 rfl (lv_at hl 3 rfl) ?_
            refine va_get (D := dd) (ci := 5) (C := RX5) (T := TX5) (N := 30) (v := .ref (a 10)) hx hb hts hiX5 hown hK hP 0 rfl rfl 10 (by decide) (hts (.fieldLink RX5 32 "SliceDriftModel" "members" "[J") (by decide +kernel)) (fun _ h9 => h9) rfl dX5_judge_125 ?_
            refine lv_iload hx hb dX5_judge_128 (lv_at hl 0 rfl) ?_
            refine lv_iconst (v := 1) hx hb dX5_judge_130 (by decide) ?_
            refine lv_isub hx hb dX5_judge_131 ?_
            refine tpi (show ((nI (k + 1)) - 1 : Int32) = nI k from nI_m1) ?_
            refine va_lald hx hb hK hP 6 1 rfl rfl (i := nI k) (vp_in_nI (show k < 700 from (by omega)) (by decide)) dX5_judge_132 ?_
            rw [nI_clamp (show k < 2 ^ 31 from Nat.lt_trans (show k < 700 from (by omega)) (by decide))]
            refine va_last hx hb hK hP hD hS 6 1 rfl rfl (i := nI (k + 1)) (vp_in_nI (show (k + 1) < 700 from (by omega)) (by decide)) dX5_judge_133 (fun H locs hP hD hS => ?_)
            rw [nI_clamp (show (k + 1) < 2 ^ 31 from Nat.lt_trans (show (k + 1) < 700 from (by omega)) (by decide))] at hP hD
            have hP : va_P dd vwCl [(qm, .inr (5, mo a th (nI n) (nI Lc.1) fm sm ab be st al)), (a 3, .inl (cyZ, 48, .inl hI)), (a 6, .inl (cyI, 700, .inl (upd u.1 (k + 1) (u.1 k)))), (a 7, .inl (cyI, 700, .inl (upd u.2.1 (k + 1) (u.2.1 k)))), (a 8, .inl (cyI, 700, .inl (upd u.2.2.1 (k + 1) (u.2.2.1 k)))), (a 9, .inl (cyI, 700, .inl (upd u.2.2.2.1 (k + 1) (u.2.2.2.1 k)))), (a 10, .inl (cyJ, 700, .inr (.inl (vp_updL u.2.2.2.2.1 (k + 1) (u.2.2.2.2.1 k))))), (a 11, .inl (cyI, 700, .inl u.2.2.2.2.2.1)), (a 12, .inl (cyI, 700, .inl u.2.2.2.2.2.2))] H := hP
            have hD : va_D A [(qm, .inr (5, mo a th (nI n) (nI Lc.1) fm sm ab be st al)), (a 3, .inl (cyZ, 48, .inl hI)), (a 6, .inl (cyI, 700, .inl (upd u.1 (k + 1) (u.1 k)))), (a 7, .inl (cyI, 700, .inl (upd u.2.1 (k + 1) (u.2.1 k)))), (a 8, .inl (cyI, 700, .inl (upd u.2.2.1 (k + 1) (u.2.2.1 k)))), (a 9, .inl (cyI, 700, .inl (upd u.2.2.2.1 (k + 1) (u.2.2.2.1 k)))), (a 10, .inl (cyJ, 700, .inr (.inl (vp_updL u.2.2.2.2.1 (k + 1) (u.2.2.2.2.1 k))))), (a 11, .inl (cyI, 700, .inl u.2.2.2.2.2.1)), (a 12, .inl (cyI, 700, .inl u.2.2.2.2.2.2))] := hD
            refine lv_aload_n hx hb dX5_judge_134 rfl (lv_at hl 3 rfl) ?_
            refine va_get (D := dd) (ci := 5) (C := RX5) (T := TX5) (N := 30) (v := .ref (a 11)) hx hb hts hiX5 hown hK hP 0 rfl rfl 11 (by decide) (hts (.fieldLink RX5 36 "SliceDriftModel" "many" "[I") (by decide +kernel)) (fun _ h9 => h9) rfl dX5_judge_135 ?_
            refine lv_iload hx hb dX5_judge_138 (lv_at hl 0 rfl) ?_
            refine lv_aload_n hx hb dX5_judge_140 rfl (lv_at hl 3 rfl) ?_
            refine va_get (D := dd) (ci := 5) (C := RX5) (T := TX5) (N := 30) (v := .ref (a 11)) hx hb hts hiX5 hown hK hP 0 rfl rfl 11 (by decide) (hts (.fieldLink RX5 36 "SliceDriftModel" "many" "[I") (by decide +kernel)) (fun _ h9 => h9) rfl dX5_judge_141 ?_
            refine lv_iload hx hb dX5_judge_144 (lv_at hl 0 rfl) ?_
            refine lv_iconst (v := 1) hx hb dX5_judge_146 (by decide) ?_
            refine lv_isub hx hb dX5_judge_147 ?_
            refine tpi (show ((nI (k + 1)) - 1 : Int32) = nI k from nI_m1) ?_
            refine va_iald hx hb hK hP 7 0 rfl rfl (i := nI k) (vp_in_nI (show k < 700 from (by omega)) (by decide)) dX5_judge_148 ?_
            rw [nI_clamp (show k < 2 ^ 31 from Nat.lt_trans (show k < 700 from (by omega)) (by decide))]
            refine va_iast hx hb hK hP hD hS 7 0 rfl rfl (i := nI (k + 1)) (vp_in_nI (show (k + 1) < 700 from (by omega)) (by decide)) dX5_judge_149 (fun H locs hP hD hS => ?_)
            rw [nI_clamp (show (k + 1) < 2 ^ 31 from Nat.lt_trans (show (k + 1) < 700 from (by omega)) (by decide))] at hP hD
            have hP : va_P dd vwCl [(qm, .inr (5, mo a th (nI n) (nI Lc.1) fm sm ab be st al)), (a 3, .inl (cyZ, 48, .inl hI)), (a 6, .inl (cyI, 700, .inl (upd u.1 (k + 1) (u.1 k)))), (a 7, .inl (cyI, 700, .inl (upd u.2.1 (k + 1) (u.2.1 k)))), (a 8, .inl (cyI, 700, .inl (upd u.2.2.1 (k + 1) (u.2.2.1 k)))), (a 9, .inl (cyI, 700, .inl (upd u.2.2.2.1 (k + 1) (u.2.2.2.1 k)))), (a 10, .inl (cyJ, 700, .inr (.inl (vp_updL u.2.2.2.2.1 (k + 1) (u.2.2.2.2.1 k))))), (a 11, .inl (cyI, 700, .inl (upd u.2.2.2.2.2.1 (k + 1) (u.2.2.2.2.2.1 k)))), (a 12, .inl (cyI, 700, .inl u.2.2.2.2.2.2))] H := hP
            have hD : va_D A [(qm, .inr (5, mo a th (nI n) (nI Lc.1) fm sm ab be st al)), (a 3, .inl (cyZ, 48, .inl hI)), (a 6, .inl (cyI, 700, .inl (upd u.1 (k + 1) (u.1 k)))), (a 7, .inl (cyI, 700, .inl (upd u.2.1 (k + 1) (u.2.1 k)))), (a 8, .inl (cyI, 700, .inl (upd u.2.2.1 (k + 1) (u.2.2.1 k)))), (a 9, .inl (cyI, 700, .inl (upd u.2.2.2.1 (k + 1) (u.2.2.2.1 k)))), (a 10, .inl (cyJ, 700, .inr (.inl (vp_updL u.2.2.2.2.1 (k + 1) (u.2.2.2.2.1 k))))), (a 11, .inl (cyI, 700, .inl (upd u.2.2.2.2.2.1 (k + 1) (u.2.2.2.2.2.1 k)))), (a 12, .inl (cyI, 700, .inl u.2.2.2.2.2.2))] := hD
            refine lv_aload_n hx hb dX5_judge_150 rfl (lv_at hl 3 rfl) ?_
            refine va_get (D := dd) (ci := 5) (C := RX5) (T := TX5) (N := 30) (v := .ref (a 12)) hx hb hts hiX5 hown hK hP 0 rfl rfl 12 (by decide) (hts (.fieldLink RX5 39 "SliceDriftModel" "hits" "[I") (by decide +kernel)) (fun _ h9 => h9) rfl dX5_judge_151 ?_
            refine lv_iload hx hb dX5_judge_154 (lv_at hl 0 rfl) ?_
            refine lv_aload_n hx hb dX5_judge_156 rfl (lv_at hl 3 rfl) ?_
            refine va_get (D := dd) (ci := 5) (C := RX5) (T := TX5) (N := 30) (v := .ref (a 12)) hx hb hts hiX5 hown hK hP 0 rfl rfl 12 (by decide) (hts (.fieldLink RX5 39 "SliceDriftModel" "hits" "[I") (by decide +kernel)) (fun _ h9 => h9) rfl dX5_judge_157 ?_
            refine lv_iload hx hb dX5_judge_160 (lv_at hl 0 rfl) ?_
            refine lv_iconst (v := 1) hx hb dX5_judge_162 (by decide) ?_
            refine lv_isub hx hb dX5_judge_163 ?_
            refine tpi (show ((nI (k + 1)) - 1 : Int32) = nI k from nI_m1) ?_
            refine va_iald hx hb hK hP 8 0 rfl rfl (i := nI k) (vp_in_nI (show k < 700 from (by omega)) (by decide)) dX5_judge_164 ?_
            rw [nI_clamp (show k < 2 ^ 31 from Nat.lt_trans (show k < 700 from (by omega)) (by decide))]
            refine va_iast hx hb hK hP hD hS 8 0 rfl rfl (i := nI (k + 1)) (vp_in_nI (show (k + 1) < 700 from (by omega)) (by decide)) dX5_judge_165 (fun H locs hP hD hS => ?_)
            rw [nI_clamp (show (k + 1) < 2 ^ 31 from Nat.lt_trans (show (k + 1) < 700 from (by omega)) (by decide))] at hP hD
            have hP : va_P dd vwCl [(qm, .inr (5, mo a th (nI n) (nI Lc.1) fm sm ab be st al)), (a 3, .inl (cyZ, 48, .inl hI)), (a 6, .inl (cyI, 700, .inl (upd u.1 (k + 1) (u.1 k)))), (a 7, .inl (cyI, 700, .inl (upd u.2.1 (k + 1) (u.2.1 k)))), (a 8, .inl (cyI, 700, .inl (upd u.2.2.1 (k + 1) (u.2.2.1 k)))), (a 9, .inl (cyI, 700, .inl (upd u.2.2.2.1 (k + 1) (u.2.2.2.1 k)))), (a 10, .inl (cyJ, 700, .inr (.inl (vp_updL u.2.2.2.2.1 (k + 1) (u.2.2.2.2.1 k))))), (a 11, .inl (cyI, 700, .inl (upd u.2.2.2.2.2.1 (k + 1) (u.2.2.2.2.2.1 k)))), (a 12, .inl (cyI, 700, .inl (upd u.2.2.2.2.2.2 (k + 1) (u.2.2.2.2.2.2 k))))] H := hP
            have hD : va_D A [(qm, .inr (5, mo a th (nI n) (nI Lc.1) fm sm ab be st al)), (a 3, .inl (cyZ, 48, .inl hI)), (a 6, .inl (cyI, 700, .inl (upd u.1 (k + 1) (u.1 k)))), (a 7, .inl (cyI, 700, .inl (upd u.2.1 (k + 1) (u.2.1 k)))), (a 8, .inl (cyI, 700, .inl (upd u.2.2.1 (k + 1) (u.2.2.1 k)))), (a 9, .inl (cyI, 700, .inl (upd u.2.2.2.1 (k + 1) (u.2.2.2.1 k)))), (a 10, .inl (cyJ, 700, .inr (.inl (vp_updL u.2.2.2.2.1 (k + 1) (u.2.2.2.2.1 k))))), (a 11, .inl (cyI, 700, .inl (upd u.2.2.2.2.2.1 (k + 1) (u.2.2.2.2.2.1 k)))), (a 12, .inl (cyI, 700, .inl (upd u.2.2.2.2.2.2 (k + 1) (u.2.2.2.2.2.2 k))))] := hD
            refine lv_iinc (v := nI k) (lv' := [(10, .int (nI k)), (9, .int (nI (pop (x &&& hm)))), (8, .int (nI (pop x))), (0, .ref qm), (1, .long (lN x)), (4, .int (nI (f / 11))), (5, .int (nI (f % 11))), (6, .int (c2 g)), (7, .int (s2 g))]) hx hb dX5_judge_166 hl (k := 0) rfl nI_mm (by decide) rfl (fun ls hl => ?_)
            refine lv_goto (tgt := 26) hx hb dX5_judge_169 (by decide) ?_
            exact ih (updR u (k + 1) (u.1 k) (u.2.1 k) (u.2.2.1 k) (u.2.2.2.1 k) (u.2.2.2.2.1 k) (u.2.2.2.2.2.1 k) (u.2.2.2.2.2.2 k)) H locs (by omega) (fun j hj => rel_ne (by omega) (h1 j (by omega))) (fun j a b => (Nat.lt_or_ge (k + 1) j).elim (fun h => rel_ne (by omega) (h2 j h b)) (fun h => by rw [show j = k + 1 by omega]; exact rel_mv (h1 k (by omega)))) (fun j a b => (Nat.lt_or_ge k j).elim (fun h => h3 j h b) (fun h => by rw [show j = k by omega]; exact a1)) hP hD hS ls (lv_sub hl [0, 1, 2, 3, 4, 5, 6, 7, 8] rfl)
    exact loop Lc.1 u0 H _ (Nat.le_refl _) hE (fun j a b => by omega) (fun j a b => by omega) hP hD hS ls (lv_sub hl [0, 1, 2, 3, 4, 6, 7, 8, 9] rfl)
  · have eL : (jd hm lt x f g Lc) = Lc := jd_n (fun h => absurd ((nI_leI (by omega) (by omega)).mpr h) q)
    rw [eL]
    exact ewV u0 hx hb hr hlocks hAe hS dX5_judge_12 hE (hP.sub [0, 1, 2, 3, 4, 5, 6, 7, 8] rfl) (hD.sub [0, 1, 2, 3, 4, 5, 6, 7, 8] (by decide) rfl)
