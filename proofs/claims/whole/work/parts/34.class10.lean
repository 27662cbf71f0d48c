theorem mv_s {V : Nat → Nat → Nat} {h0 r0 c F x h r : Nat} (hx : x ≤ c) (hF : h0 + x ≤ F) : mv V h0 r0 c F (x + 1) h r = mv V h0 r0 c F x h r + (if h = h0 + x ∧ r = r0 + (c - x) * (2 * h0 + x) then V h0 r0 * chs c x else 0) := by
  unfold mv
  generalize (if h = h0 ∧ r = r0 then 0 else V h r) = X1
  by_cases e : h = h0 + x
  · subst e
    have e2 : h0 + x - h0 = x := by omega
    have e3 : gw c h0 (h0 + x) = (c - x) * (2 * h0 + x) := by unfold gw; rw [e2]
    rw [e2, e3, if_neg (show ¬ (h0 ≤ h0 + x ∧ x < x ∧ x ≤ c ∧ h0 + x ≤ F ∧ r = r0 + (c - x) * (2 * h0 + x)) by omega)]
    by_cases q : r = r0 + (c - x) * (2 * h0 + x)
    · rw [if_pos ⟨by omega, by omega, hx, hF, q⟩, if_pos ⟨rfl, q⟩]
      omega
    · rw [if_neg (fun g => q g.2.2.2.2), if_neg (fun g => q g.2)]
  · rw [if_neg (show ¬ (h = h0 + x ∧ r = r0 + (c - x) * (2 * h0 + x)) from fun g => e g.1), Nat.add_zero]
    by_cases q : h0 ≤ h ∧ h - h0 < x ∧ h - h0 ≤ c ∧ h ≤ F ∧ r = r0 + gw c h0 h
    · rw [if_pos q, if_pos (show h0 ≤ h ∧ h - h0 < x + 1 ∧ h - h0 ≤ c ∧ h ≤ F ∧ r = r0 + gw c h0 h from ⟨q.1, by omega, q.2.2⟩)]
      rfl
    · rw [if_neg q, if_neg (show ¬ (h0 ≤ h ∧ h - h0 < x + 1 ∧ h - h0 ≤ c ∧ h ≤ F ∧ r = r0 + gw c h0 h) from fun g => q ⟨g.1, by omega, g.2.2⟩)]
theorem vok_st {V : Nat → Nat → Nat} {h0 r0 c F x N : Nat} {wA : Nat → Int32} (hF : F ≤ 20) (hx : x ≤ c) (hxF : h0 + x ≤ F) (eN : N = r0 + (c - x) * (2 * h0 + x)) (hN : N ≤ 200) (h : VOk (mv V h0 r0 c F x) F wA) : VOk (mv V h0 r0 c F (x + 1)) F (upd wA ((h0 + x) * 201 + N) (nI (mv V h0 r0 c F x (h0 + x) N + V h0 r0 * chs c x))) := by
  intro h1 hh r hr
  rw [mv_s hx hxF, ← eN]
  by_cases e : h1 = h0 + x ∧ r = N
  · rw [if_pos e, e.1, e.2, pk_us]
  · rw [if_neg e, Nat.add_zero, pk_un (by omega)]
    exact h h1 hh r hr
theorem vok_sk {V : Nat → Nat → Nat} {h0 r0 c F x N : Nat} {wA : Nat → Int32} (hx : x ≤ c) (hxF : h0 + x ≤ F) (eN : N = r0 + (c - x) * (2 * h0 + x)) (hN : 200 < N) (h : VOk (mv V h0 r0 c F x) F wA) : VOk (mv V h0 r0 c F (x + 1)) F wA := by
  intro h1 hh r hr
  rw [mv_s hx hxF, ← eN, if_neg (by omega), Nat.add_zero]
  exact h h1 hh r hr
theorem mv_x {V : Nat → Nat → Nat} {h0 r0 c F x h r : Nat} (hF : F ≤ 20) (hx : ∀ d, d ≤ c → h0 + d ≤ F → d < x) (hh : h ≤ F) : mv V h0 r0 c F x h r = mv V h0 r0 c F 21 h r := by
  unfold mv
  congr 1
  by_cases q : h0 ≤ h ∧ h - h0 < 21 ∧ h - h0 ≤ c ∧ h ≤ F ∧ r = r0 + gw c h0 h
  · rw [if_pos q, if_pos ⟨q.1, hx _ q.2.2.1 (by omega), q.2.2⟩]
  · rw [if_neg q, if_neg (fun g => q ⟨g.1, by omega, g.2.2⟩)]
theorem mv_z {V : Nat → Nat → Nat} {h0 r0 c F x : Nat} (h : V h0 r0 = 0) (h1 r1 : Nat) : mv V h0 r0 c F x h1 r1 = V h1 r1 := by
  unfold mv
  rw [h, Nat.zero_mul]
  by_cases q : h1 = h0 ∧ r1 = r0
  · rw [if_pos q, q.1, q.2, h]
    split <;> rfl
  · rw [if_neg q]
    split <;> rfl
theorem mv_0 {V : Nat → Nat → Nat} {h0 r0 c F : Nat} (h1 r1 : Nat) : mv V h0 r0 c F 0 h1 r1 = if h1 = h0 ∧ r1 = r0 then 0 else V h1 r1 := by
  unfold mv
  rw [if_neg (show ¬ (h0 ≤ h1 ∧ h1 - h0 < 0 ∧ h1 - h0 ≤ c ∧ h1 ≤ F ∧ r1 = r0 + gw c h0 h1) by omega)]
  rfl
theorem vok_0 {V : Nat → Nat → Nat} {h0 r0 c F : Nat} {wA : Nat → Int32} (hr0 : r0 ≤ 200) (h : VOk V F wA) : VOk (mv V h0 r0 c F 0) F (upd wA (h0 * 201 + r0) 0) := by
  intro h1 hh r hr
  rw [mv_0]
  by_cases e : h1 = h0 ∧ r = r0
  · rw [if_pos e, e.1, e.2, pk_us]
    rfl
  · rw [if_neg e, pk_un (by omega)]
    exact h h1 hh r hr
theorem sub1 (x : Int32) : x + Int32.ofInt (-1) = x - 1 := by
  rw [show Int32.ofInt (-1) = -(1 : Int32) from by decide, ← Int32.sub_eq_add_neg]
theorem vok_c {V V2 : Nat → Nat → Nat} {F : Nat} {wA : Nat → Int32} (h : VOk V F wA) (e : ∀ h, h ≤ F → ∀ r, V h r = V2 h r) : VOk V2 F wA := fun h1 hh r hr => by
  rw [← e h1 hh r]
  exact h h1 hh r hr

set_option maxHeartbeats 4000000 in
set_option maxRecDepth 100000 in
theorem c_moveWays (l : Launch) (dd : va_G) (cyI cyJ cyZ : ClassId) (qk qk1 qk2 qk3 : Nat) (x2 : Int32) (V : Nat → Nat → Nat) (h0 r0 cG F : Nat) (hF : F ≤ 20) (hh0 : h0 ≤ F) (hr0 : r0 ≤ 200) (hc0 : cG ≤ 20) (hv0 : V h0 r0 < 2 ^ 31) (wA : Nat → Int32) (hV : VOk V F wA) (sz : Nat) : Met l yX1_moveWays wsX1_moveWays ({ frames := 1, cells := 0, slots := 0, locals := 40 } : Room) (va_Pc [.ref qk, .int (nI h0), .int (nI r0), .int (nI cG)] (Wr dd [(cyI, .int), (cyJ, .long), (cyZ, .boolean)] [(qk, .inr (1, [.int (nI F), .int x2, .ref qk1, .ref qk2, .ref qk3])), (qk3, .inl (cyI, 4221, .inl wA))] sz)) (va_Qv (S := (Nat → Int32)) (fun (u : Nat → Int32) => VOk (mv V h0 r0 cG F 21) F u) (WQ dd [(qk, .inr (1, [.int (nI F), .int x2, .ref qk1, .ref qk2, .ref qk3])), (qk3, .inl (cyI, 4221, .inl wA))] sz (fun u => [(qk, .inr (1, [.int (nI F), .int x2, .ref qk1, .ref qk2, .ref qk3])), (qk3, .inl (cyI, 4221, .inl u))])) (va_A [(qk, .inr (1, [.int (nI F), .int x2, .ref qk1, .ref qk2, .ref qk3])), (qk3, .inl (cyI, 4221, .inl wA))] sz)) 0 0 (va_A [(qk, .inr (1, [.int (nI F), .int x2, .ref qk1, .ref qk2, .ref qk3])), (qk3, .inl (cyI, 4221, .inl wA))] sz) := by
  refine mkW (Qc := fun A => (va_Qv (S := (Nat → Int32)) (fun (u : Nat → Int32) => VOk (mv V h0 r0 cG F 21) F u) (WQ dd [(qk, .inr (1, [.int (nI F), .int x2, .ref qk1, .ref qk2, .ref qk3])), (qk3, .inl (cyI, 4221, .inl wA))] sz (fun u => [(qk, .inr (1, [.int (nI F), .int x2, .ref qk1, .ref qk2, .ref qk3])), (qk3, .inl (cyI, 4221, .inl u))])) A)) (cc := cX1_moveWays) (maxL := 8) (by decide) rfl (Nat.le_of_ble_eq_true rfl) (lv0 := [(0, .ref qk), (1, .int (nI h0)), (2, .int (nI r0)), (3, .int (nI cG))]) rfl ?_
  intro p e s m below meth c ls H A hx hb hr hml hown hlocks hts hmn hN hP hK hD hS hA hAe hl
  have hown : s.vm.findClass RX1 = some m.cls := hown
  have hiX1 : ∀ w ∈ wsX10, w ∈ wsX1_moveWays := by decide +kernel
  refine lv_iload_n hx hb dX1_moveWays_0 rfl (lv_at hl 1 rfl) ?_
  refine lv_sipush (v := 201) hx hb dX1_moveWays_1 (by decide) ?_
  refine lv_imul hx hb dX1_moveWays_4 ?_
  refine tpi (show ((nI h0) * 201 : Int32) = nI (h0 * 201) from pk_mul _ _) ?_
  refine lv_iload_n hx hb dX1_moveWays_5 rfl (lv_at hl 2 rfl) ?_
  refine lv_iadd hx hb dX1_moveWays_6 ?_
  refine tpi (show ((nI (h0 * 201)) + (nI r0) : Int32) = nI (h0 * 201 + r0) from nI_add _ _) ?_
  refine lv_istore (lv' := [(4, .int (nI (h0 * 201 + r0))), (0, .ref qk), (1, .int (nI h0)), (2, .int (nI r0)), (3, .int (nI cG))]) hx hb dX1_moveWays_7 hl (by decide) rfl (fun ls hl => ?_)
  refine lv_aload_n hx hb dX1_moveWays_9 rfl (lv_at hl 1 rfl) ?_
  refine va_get (D := dd) (ci := 1) (C := RX1) (T := TX1) (N := 5) (v := .ref qk3) hx hb hts hiX1 hown hK hP 0 rfl rfl 4 (by decide) (hts (.fieldLink RX1 25 "SliceDrift$Ranks" "ways" "[I") (by decide +kernel)) (fun _ h9 => h9) rfl dX1_moveWays_10 ?_
  refine lv_iload hx hb dX1_moveWays_13 (lv_at hl 0 rfl) ?_
  refine va_iald hx hb hK hP 1 0 rfl rfl (i := nI (h0 * 201 + r0)) (vp_in_nI (show (h0 * 201 + r0) < 4221 from (by omega)) (by decide)) dX1_moveWays_15 ?_
  rw [nI_clamp (show (h0 * 201 + r0) < 2 ^ 31 from Nat.lt_trans (show (h0 * 201 + r0) < 4221 from (by omega)) (by decide))]
  refine tpi (show (wA (h0 * 201 + r0) : Int32) = nI (V h0 r0) from hV h0 hh0 r0 hr0) ?_
  refine lv_istore (lv' := [(5, .int (nI (V h0 r0))), (4, .int (nI (h0 * 201 + r0))), (0, .ref qk), (1, .int (nI h0)), (2, .int (nI r0)), (3, .int (nI cG))]) hx hb dX1_moveWays_16 hl (by decide) rfl (fun ls hl => ?_)
  refine lv_iload hx hb dX1_moveWays_18 (lv_at hl 0 rfl) ?_
  refine lv_if_ne (tgt := 24) hx hb dX1_moveWays_20 (by decide) (fun q => ?_) (fun q => ?_)
  · refine lv_aload_n hx hb dX1_moveWays_24 rfl (lv_at hl 2 rfl) ?_
    refine va_get (D := dd) (ci := 1) (C := RX1) (T := TX1) (N := 5) (v := .ref qk3) hx hb hts hiX1 hown hK hP 0 rfl rfl 4 (by decide) (hts (.fieldLink RX1 25 "SliceDrift$Ranks" "ways" "[I") (by decide +kernel)) (fun _ h9 => h9) rfl dX1_moveWays_25 ?_
    refine lv_iload hx hb dX1_moveWays_28 (lv_at hl 1 rfl) ?_
    refine lv_iconst (v := 0) hx hb dX1_moveWays_30 (by decide) ?_
    refine va_iast hx hb hK hP hD hS 1 0 rfl rfl (i := nI (h0 * 201 + r0)) (vp_in_nI (show (h0 * 201 + r0) < 4221 from (by omega)) (by decide)) dX1_moveWays_31 (fun H locs hP hD hS => ?_)
    rw [nI_clamp (show (h0 * 201 + r0) < 2 ^ 31 from Nat.lt_trans (show (h0 * 201 + r0) < 4221 from (by omega)) (by decide))] at hP hD
    have hP : va_P dd vwCl [(qk, .inr (1, [.int (nI F), .int x2, .ref qk1, .ref qk2, .ref qk3])), (qk3, .inl (cyI, 4221, .inl (upd wA (h0 * 201 + r0) 0)))] H := hP
    have hD : va_D A [(qk, .inr (1, [.int (nI F), .int x2, .ref qk1, .ref qk2, .ref qk3])), (qk3, .inl (cyI, 4221, .inl (upd wA (h0 * 201 + r0) 0)))] := hD
    refine lv_iconst (v := 0) hx hb dX1_moveWays_32 (by decide) ?_
    refine lv_istore (lv' := [(6, .int 0), (5, .int (nI (V h0 r0))), (4, .int (nI (h0 * 201 + r0))), (0, .ref qk), (1, .int (nI h0)), (2, .int (nI r0)), (3, .int (nI cG))]) hx hb dX1_moveWays_33 hl (by decide) rfl (fun ls hl => ?_)
    have loop : ∀ (k : Nat) (x : Nat) (wB : Nat → Int32) (H : Heap) (locs : List Loc), x + k = cG + 1 → VOk (mv V h0 r0 cG F x) F wB → va_P dd vwCl [(qk, .inr (1, [.int (nI F), .int x2, .ref qk1, .ref qk2, .ref qk3])), (qk3, .inl (cyI, 4221, .inl wB))] H → va_D A [(qk, .inr (1, [.int (nI F), .int x2, .ref qk1, .ref qk2, .ref qk3])), (qk3, .inl (cyI, 4221, .inl wB))] → va_S A s.heap H locs → ∀ ls : Array Slot, lv_has ls 8 [(6, .int (nI x)), (5, .int (nI (V h0 r0))), (0, .ref qk), (1, .int (nI h0)), (2, .int (nI r0)), (3, .int (nI cG))] → W p l e ({ frames := 1, cells := 0, slots := 0, locals := 40 } : Room) s m ([.ref qk, .int (nI h0), .int (nI r0), .int (nI cG)] : List Value).toArray below meth c H locs 0 0 (MQ below (va_Qv (S := (Nat → Int32)) (fun (u : Nat → Int32) => VOk (mv V h0 r0 cG F 21) F u) (WQ dd [(qk, .inr (1, [.int (nI F), .int x2, .ref qk1, .ref qk2, .ref qk3])), (qk3, .inl (cyI, 4221, .inl wA))] sz (fun u => [(qk, .inr (1, [.int (nI F), .int x2, .ref qk1, .ref qk2, .ref qk3])), (qk3, .inl (cyI, 4221, .inl u))])) A) ([.ref qk, .int (nI h0), .int (nI r0), .int (nI cG)] : List Value).toArray s 0 0 A) (F0 m 35 ls []) := by
      intro k
      induction k with
      | zero =>
        intro x wB H locs hx9 hVb hP hD hS ls hl
        refine lv_iload hx hb dX1_moveWays_35 (lv_at hl 0 rfl) ?_
        refine lv_iload_n hx hb dX1_moveWays_37 rfl (lv_at hl 5 rfl) ?_
        refine lv_icmp_gt (tgt := 109) hx hb dX1_moveWays_38 (by decide) (fun q2 => ?_) (fun q2 => ?_)
        · exact ewV wB hx hb hr hlocks hAe hS dX1_moveWays_109 (vok_c hVb (fun h1 hh r1 => mv_x hF (fun d a b => by omega) hh)) (hP.sub [0, 1] rfl) (hD.sub [0, 1] (by decide) rfl)
        · exact absurd (nI_lt (show cG < x by omega) (by omega)) q2
      | succ k ih =>
        intro x wB H locs hx9 hVb hP hD hS ls hl
        refine lv_iload hx hb dX1_moveWays_35 (lv_at hl 0 rfl) ?_
        refine lv_iload_n hx hb dX1_moveWays_37 rfl (lv_at hl 5 rfl) ?_
        refine lv_icmp_gt (tgt := 109) hx hb dX1_moveWays_38 (by decide) (fun q2 => ?_) (fun q2 => ?_)
        · exact absurd ((nI_ltI (by omega) (by omega)).mp q2) (by omega)
        · refine lv_iload_n hx hb dX1_moveWays_41 rfl (lv_at hl 3 rfl) ?_
          refine lv_iload hx hb dX1_moveWays_42 (lv_at hl 0 rfl) ?_
          refine lv_iadd hx hb dX1_moveWays_44 ?_
          refine tpi (show ((nI h0) + (nI x) : Int32) = nI (h0 + x) from nI_add _ _) ?_
          refine lv_aload_n hx hb dX1_moveWays_45 rfl (lv_at hl 2 rfl) ?_
          refine va_get (D := dd) (ci := 1) (C := RX1) (T := TX1) (N := 5) (v := .int (nI F)) hx hb hts hiX1 hown hK hP 0 rfl rfl 0 (by decide) (hts (.fieldLink RX1 11 "SliceDrift$Ranks" "firstRows" "I") (by decide +kernel)) (fun _ h9 => h9) rfl dX1_moveWays_46 ?_
          refine lv_icmp_gt (tgt := 109) hx hb dX1_moveWays_49 (by decide) (fun q3 => ?_) (fun q3 => ?_)
          · have g3 := (nI_ltI (by omega) (by omega)).mp q3
            exact ewV wB hx hb hr hlocks hAe hS dX1_moveWays_109 (vok_c hVb (fun h1 hh r1 => mv_x hF (fun d a b => by omega) hh)) (hP.sub [0, 1] rfl) (hD.sub [0, 1] (by decide) rfl)
          · have g3 : h0 + x ≤ F := Nat.le_of_not_lt (fun h => q3 (nI_lt h (by omega)))
            have b1 : (cG - x) * (2 * h0 + x) ≤ 20 * 60 := Nat.mul_le_mul (by omega) (by omega)
            obtain ⟨N, eN⟩ : ∃ N, N = r0 + (cG - x) * (2 * h0 + x) := ⟨_, rfl⟩
            refine lv_iload_n hx hb dX1_moveWays_52 rfl (lv_at hl 4 rfl) ?_
            refine lv_iload_n hx hb dX1_moveWays_53 rfl (lv_at hl 5 rfl) ?_
            refine lv_iload hx hb dX1_moveWays_54 (lv_at hl 0 rfl) ?_
            refine lv_isub hx hb dX1_moveWays_56 ?_
            refine tpi (show ((nI cG) - (nI x) : Int32) = nI (cG - x) from pk_sub (by omega)) ?_
            refine lv_iconst (v := 2) hx hb dX1_moveWays_57 (by decide) ?_
            refine lv_iload_n hx hb dX1_moveWays_58 rfl (lv_at hl 3 rfl) ?_
            refine lv_imul hx hb dX1_moveWays_59 ?_
            refine tpi (show (2 * (nI h0) : Int32) = nI (2 * h0) from pk_mul 2 _) ?_
            refine lv_iload hx hb dX1_moveWays_60 (lv_at hl 0 rfl) ?_
            refine lv_iadd hx hb dX1_moveWays_62 ?_
            refine tpi (show ((nI (2 * h0)) + (nI x) : Int32) = nI (2 * h0 + x) from nI_add _ _) ?_
            refine lv_imul hx hb dX1_moveWays_63 ?_
            refine tpi (show ((nI (cG - x)) * (nI (2 * h0 + x)) : Int32) = nI ((cG - x) * (2 * h0 + x)) from pk_mul _ _) ?_
            refine lv_iadd hx hb dX1_moveWays_64 ?_
            refine tpi (show ((nI r0) + (nI ((cG - x) * (2 * h0 + x))) : Int32) = nI N from by rw [nI_add, eN]) ?_
            refine lv_istore (lv' := [(7, .int (nI N)), (6, .int (nI x)), (5, .int (nI (V h0 r0))), (0, .ref qk), (1, .int (nI h0)), (2, .int (nI r0)), (3, .int (nI cG))]) hx hb dX1_moveWays_65 hl (by decide) rfl (fun ls hl => ?_)
            refine lv_iload hx hb dX1_moveWays_67 (lv_at hl 0 rfl) ?_
            refine lv_sipush (v := 200) hx hb dX1_moveWays_69 (by decide) ?_
            refine lv_icmp_gt (tgt := 103) hx hb dX1_moveWays_72 (by decide) (fun q4 => ?_) (fun q4 => ?_)
            · refine lv_iinc (v := nI (x + 1)) (lv' := [(6, .int (nI (x + 1))), (7, .int (nI N)), (5, .int (nI (V h0 r0))), (0, .ref qk), (1, .int (nI h0)), (2, .int (nI r0)), (3, .int (nI cG))]) hx hb dX1_moveWays_103 hl (k := 1) rfl (nI_1 x) (by decide) rfl (fun ls hl => ?_)
              refine lv_goto (tgt := 35) hx hb dX1_moveWays_106 (by decide) ?_
              exact ih (x + 1) wB H locs (by omega) (vok_sk (by omega) g3 eN ((nI_ltI (by decide) (by omega)).mp q4) hVb) hP hD hS ls (lv_sub hl [0, 2, 3, 4, 5, 6] rfl)
            · have g4 : N ≤ 200 := Nat.le_of_not_lt (fun h => q4 (nI_lt h (by omega)))
              refine lv_aload_n hx hb dX1_moveWays_75 rfl (lv_at hl 3 rfl) ?_
              refine va_get (D := dd) (ci := 1) (C := RX1) (T := TX1) (N := 5) (v := .ref qk3) hx hb hts hiX1 hown hK hP 0 rfl rfl 4 (by decide) (hts (.fieldLink RX1 25 "SliceDrift$Ranks" "ways" "[I") (by decide +kernel)) (fun _ h9 => h9) rfl dX1_moveWays_76 ?_
              refine lv_iload_n hx hb dX1_moveWays_79 rfl (lv_at hl 4 rfl) ?_
              refine lv_iload hx hb dX1_moveWays_80 (lv_at hl 1 rfl) ?_
              refine lv_iadd hx hb dX1_moveWays_82 ?_
              refine tpi (show ((nI h0) + (nI x) : Int32) = nI (h0 + x) from nI_add _ _) ?_
              refine lv_sipush (v := 201) hx hb dX1_moveWays_83 (by decide) ?_
              refine lv_imul hx hb dX1_moveWays_86 ?_
              refine tpi (show ((nI (h0 + x)) * 201 : Int32) = nI ((h0 + x) * 201) from pk_mul _ _) ?_
              refine lv_iload hx hb dX1_moveWays_87 (lv_at hl 0 rfl) ?_
              refine lv_iadd hx hb dX1_moveWays_89 ?_
              refine tpi (show ((nI ((h0 + x) * 201)) + (nI N) : Int32) = nI ((h0 + x) * 201 + N) from nI_add _ _) ?_
              refine lv_dup2_11 hx hb dX1_moveWays_90 rfl rfl ?_
              refine va_iald hx hb hK hP 1 0 rfl rfl (i := nI ((h0 + x) * 201 + N)) (vp_in_nI (show ((h0 + x) * 201 + N) < 4221 from (by omega)) (by decide)) dX1_moveWays_91 ?_
              rw [nI_clamp (show ((h0 + x) * 201 + N) < 2 ^ 31 from Nat.lt_trans (show ((h0 + x) * 201 + N) < 4221 from (by omega)) (by decide))]
              refine tpi (show (wB ((h0 + x) * 201 + N) : Int32) = nI (mv V h0 r0 cG F x (h0 + x) N) from hVb (h0 + x) g3 N g4) ?_
              refine lv_iload hx hb dX1_moveWays_92 (lv_at hl 2 rfl) ?_
              refine lv_iload_n hx hb dX1_moveWays_94 rfl (lv_at hl 6 rfl) ?_
              refine lv_iload hx hb dX1_moveWays_95 (lv_at hl 1 rfl) ?_
              refine clNi (As := [.int (nI cG), .int (nI x)]) (rest := [.int (nI (V h0 r0)), .int (nI (mv V h0 r0 cG F x (h0 + x) N)), .int (nI ((h0 + x) * 201 + N)), .ref qk3]) ⟨hx, hb, hml, hown, hts⟩ (c_waysToChoose l dd cyI cyJ cyZ cG x hc0 (by omega)) gX1_moveWays_X4_waysToChoose_n63 (hN.m 5 rfl) (hts (.initialized RX4) (by decide +kernel)) (hts (.static yX4_waysToChoose) (by decide +kernel)) (n := 2) rfl ⟨rfl, rfl⟩ (by decide +kernel) ⟨Nat.le_of_ble_eq_true rfl, Nat.le_of_ble_eq_true rfl⟩ hN hK (hP.sub [] rfl) rfl hl.1 rfl (Nat.le_of_ble_eq_true rfl) dX1_moveWays_97 ⟨Nat.le_of_ble_eq_true rfl, Nat.le_of_ble_eq_true rfl⟩ (fun r5 h5 => ?_)
              subst h5
              refine lv_imul hx hb dX1_moveWays_100 ?_
              refine tpi (show ((nI (V h0 r0)) * (nI (chs cG x)) : Int32) = nI (V h0 r0 * chs cG x) from pk_mul _ _) ?_
              refine lv_iadd hx hb dX1_moveWays_101 ?_
              refine tpi (show ((nI (mv V h0 r0 cG F x (h0 + x) N)) + (nI (V h0 r0 * chs cG x)) : Int32) = nI (mv V h0 r0 cG F x (h0 + x) N + V h0 r0 * chs cG x) from nI_add _ _) ?_
              refine va_iast hx hb hK hP hD hS 1 0 rfl rfl (i := nI ((h0 + x) * 201 + N)) (vp_in_nI (show ((h0 + x) * 201 + N) < 4221 from (by omega)) (by decide)) dX1_moveWays_102 (fun H locs hP hD hS => ?_)
              rw [nI_clamp (show ((h0 + x) * 201 + N) < 2 ^ 31 from Nat.lt_trans (show ((h0 + x) * 201 + N) < 4221 from (by omega)) (by decide))] at hP hD
              have hP : va_P dd vwCl [(qk, .inr (1, [.int (nI F), .int x2, .ref qk1, .ref qk2, .ref qk3])), (qk3, .inl (cyI, 4221, .inl (upd wB ((h0 + x) * 201 + N) (nI (mv V h0 r0 cG F x (h0 + x) N + V h0 r0 * chs cG x)))))] H := hP
              have hD : va_D A [(qk, .inr (1, [.int (nI F), .int x2, .ref qk1, .ref qk2, .ref qk3])), (qk3, .inl (cyI, 4221, .inl (upd wB ((h0 + x) * 201 + N) (nI (mv V h0 r0 cG F x (h0 + x) N + V h0 r0 * chs cG x)))))] := hD
              refine lv_iinc (v := nI (x + 1)) (lv' := [(6, .int (nI (x + 1))), (7, .int (nI N)), (5, .int (nI (V h0 r0))), (0, .ref qk), (1, .int (nI h0)), (2, .int (nI r0)), (3, .int (nI cG))]) hx hb dX1_moveWays_103 hl (k := 1) rfl (nI_1 x) (by decide) rfl (fun ls hl => ?_)
              refine lv_goto (tgt := 35) hx hb dX1_moveWays_106 (by decide) ?_
              exact ih (x + 1) (upd wB ((h0 + x) * 201 + N) (nI (mv V h0 r0 cG F x (h0 + x) N + V h0 r0 * chs cG x))) H locs (by omega) (vok_st hF (by omega) g3 eN g4 hVb) hP hD hS ls (lv_sub hl [0, 2, 3, 4, 5, 6] rfl)
    exact loop (cG + 1) 0 _ H _ (by omega) (vok_0 hr0 hV) hP hD hS ls (lv_sub hl [0, 1, 3, 4, 5, 6] rfl)
  · have z0 : V h0 r0 = 0 := (nI_eq (b := 0) hv0 (by decide)).mp q
    exact ewV wA hx hb hr hlocks hAe hS dX1_moveWays_23 (vok_c hV (fun h1 _ r1 => (mv_z z0 h1 r1).symm)) (hP.sub [0, 1] rfl) (hD.sub [0, 1] (by decide) rfl)

set_option maxHeartbeats 4000000 in
set_option maxRecDepth 100000 in
theorem c_addGroup (l : Launch) (dd : va_G) (cyI cyJ cyZ : ClassId) (qk qk1 qk2 qk3 : Nat) (x2 : Int32) (Z : Nat → Nat → Nat) (s0 cG F : Nat) (hF : F ≤ 20) (hsc : s0 + cG ≤ 20) (hZ : Sup Z s0) (hZb : ∀ h, h < 21 → ∀ r, Z h r ≤ 2 ^ 20) (wA : Nat → Int32) (hV : VOk Z F wA) (sz : Nat) : Met l yX1_addGroup wsX1_addGroup ({ frames := 2, cells := 0, slots := 0, locals := 80 } : Room) (va_Pc [.ref qk, .int (nI s0), .int (nI cG)] (Wr dd [(cyI, .int), (cyJ, .long), (cyZ, .boolean)] [(qk, .inr (1, [.int (nI F), .int x2, .ref qk1, .ref qk2, .ref qk3])), (qk3, .inl (cyI, 4221, .inl wA))] sz)) (va_Qv (S := (Nat → Int32)) (fun (u : Nat → Int32) => VOk (stW Z cG) F u) (WQ dd [(qk, .inr (1, [.int (nI F), .int x2, .ref qk1, .ref qk2, .ref qk3])), (qk3, .inl (cyI, 4221, .inl wA))] sz (fun u => [(qk, .inr (1, [.int (nI F), .int x2, .ref qk1, .ref qk2, .ref qk3])), (qk3, .inl (cyI, 4221, .inl u))])) (va_A [(qk, .inr (1, [.int (nI F), .int x2, .ref qk1, .ref qk2, .ref qk3])), (qk3, .inl (cyI, 4221, .inl wA))] sz)) 0 0 (va_A [(qk, .inr (1, [.int (nI F), .int x2, .ref qk1, .ref qk2, .ref qk3])), (qk3, .inl (cyI, 4221, .inl wA))] sz) := by
  refine mkW (Qc := fun A => (va_Qv (S := (Nat → Int32)) (fun (u : Nat → Int32) => VOk (stW Z cG) F u) (WQ dd [(qk, .inr (1, [.int (nI F), .int x2, .ref qk1, .ref qk2, .ref qk3])), (qk3, .inl (cyI, 4221, .inl wA))] sz (fun u => [(qk, .inr (1, [.int (nI F), .int x2, .ref qk1, .ref qk2, .ref qk3])), (qk3, .inl (cyI, 4221, .inl u))])) A)) (cc := cX1_addGroup) (maxL := 5) (by decide) rfl (Nat.le_of_ble_eq_true rfl) (lv0 := [(0, .ref qk), (1, .int (nI s0)), (2, .int (nI cG))]) rfl ?_
  intro p e s m below meth c ls H A hx hb hr hml hown hlocks hts hmn hN hP hK hD hS hA hAe hl
  have hown : s.vm.findClass RX1 = some m.cls := hown
  have hiX1 : ∀ w ∈ wsX10, w ∈ wsX1_addGroup := by decide +kernel
  refine lv_iload_n hx hb dX1_addGroup_0 rfl (lv_at hl 1 rfl) ?_
  refine lv_aload_n hx hb dX1_addGroup_1 rfl (lv_at hl 0 rfl) ?_
  refine va_get (D := dd) (ci := 1) (C := RX1) (T := TX1) (N := 5) (v := .int (nI F)) hx hb hts hiX1 hown hK hP 0 rfl rfl 0 (by decide) (hts (.fieldLink RX1 11 "SliceDrift$Ranks" "firstRows" "I") (by decide +kernel)) (fun _ h9 => h9) rfl dX1_addGroup_2 ?_
  refine va_mmin hx hb (hml.trans hl.1.symm) hown (hts (.methodLink RX1 56 Lib.Math.min.name) (by decide +kernel)) (hts (.static Lib.Math.min.name) (by decide +kernel)) (hts (.initialized "java/lang/Math") (by decide +kernel)) (hts (.code Lib.Math.min.name Lib.Math.min.code 2 (some .int)) (by decide +kernel)) (Nat.le_of_ble_eq_true rfl) (Nat.le_of_ble_eq_true rfl) (Nat.le_of_ble_eq_true rfl) (Nat.le_of_ble_eq_true rfl) dX1_addGroup_5 ?_
  refine tpi (show (if (nI F) < (nI s0) then nI F else nI s0 : Int32) = nI (min s0 F) from minI (x := s0) (z := F) (by omega) (by omega)) ?_
  refine lv_istore_n (lv' := [(3, .int (nI (min s0 F))), (0, .ref qk), (1, .int (nI s0)), (2, .int (nI cG))]) hx hb dX1_addGroup_8 rfl hl (by decide) rfl (fun ls hl => ?_)
  have loop : ∀ (k : Nat) (wB : Nat → Int32) (H : Heap) (locs : List Loc), k ≤ min s0 F + 1 → VOk (Aq Z cG k) F wB → va_P dd vwCl [(qk, .inr (1, [.int (nI F), .int x2, .ref qk1, .ref qk2, .ref qk3])), (qk3, .inl (cyI, 4221, .inl wB))] H → va_D A [(qk, .inr (1, [.int (nI F), .int x2, .ref qk1, .ref qk2, .ref qk3])), (qk3, .inl (cyI, 4221, .inl wB))] → va_S A s.heap H locs → ∀ ls : Array Slot, lv_has ls 5 [(3, .int (nI k - 1)), (0, .ref qk), (1, .int (nI s0)), (2, .int (nI cG))] → W p l e ({ frames := 2, cells := 0, slots := 0, locals := 80 } : Room) s m ([.ref qk, .int (nI s0), .int (nI cG)] : List Value).toArray below meth c H locs 0 0 (MQ below (va_Qv (S := (Nat → Int32)) (fun (u : Nat → Int32) => VOk (stW Z cG) F u) (WQ dd [(qk, .inr (1, [.int (nI F), .int x2, .ref qk1, .ref qk2, .ref qk3])), (qk3, .inl (cyI, 4221, .inl wA))] sz (fun u => [(qk, .inr (1, [.int (nI F), .int x2, .ref qk1, .ref qk2, .ref qk3])), (qk3, .inl (cyI, 4221, .inl u))])) A) ([.ref qk, .int (nI s0), .int (nI cG)] : List Value).toArray s 0 0 A) (F0 m 9 ls []) := by
    intro k
    induction k with
    | zero =>
      intro wB H locs hk hVb hP hD hS ls hl
      refine lv_iload_n hx hb dX1_addGroup_9 rfl (lv_at hl 0 rfl) ?_
      refine lv_if_lt (tgt := 47) hx hb dX1_addGroup_10 (by decide) (fun q => ?_) (fun q => ?_)
      · exact ewV wB hx hb hr hlocks hAe hS dX1_addGroup_47 (vok_c hVb (fun h1 _ r1 => Aq_0 Z cG h1 r1)) (hP.sub [0, 1] rfl) (hD.sub [0, 1] (by decide) rfl)
      · exact absurd (by decide) q
    | succ k ih =>
      intro wB H locs hk hVb hP hD hS ls hl
      rw [show nI (k + 1) - 1 = nI k from nI_pred k] at hl
      refine lv_iload_n hx hb dX1_addGroup_9 rfl (lv_at hl 0 rfl) ?_
      refine lv_if_lt (tgt := 47) hx hb dX1_addGroup_10 (by decide) (fun q => ?_) (fun q => ?_)
      · exact absurd q (nI_pos (by omega))
      · have r2 := r200 s0 (by omega) k (by omega)
        refine lv_iconst (v := 2) hx hb dX1_addGroup_13 (by decide) ?_
        refine lv_iload_n hx hb dX1_addGroup_14 rfl (lv_at hl 0 rfl) ?_
        refine lv_imul hx hb dX1_addGroup_15 ?_
        refine tpi (show (2 * (nI k) : Int32) = nI (2 * k) from pk_mul 2 _) ?_
        refine lv_iload_n hx hb dX1_addGroup_16 rfl (lv_at hl 2 rfl) ?_
        refine lv_iload_n hx hb dX1_addGroup_17 rfl (lv_at hl 0 rfl) ?_
        refine lv_isub hx hb dX1_addGroup_18 ?_
        refine tpi (show ((nI s0) - (nI k) : Int32) = nI (s0 - k) from pk_sub (by omega)) ?_
        refine lv_imul hx hb dX1_addGroup_19 ?_
        refine tpi (show ((nI (2 * k)) * (nI (s0 - k)) : Int32) = nI (2 * k * (s0 - k)) from pk_mul _ _) ?_
        refine lv_istore (lv' := [(4, .int (nI (2 * k * (s0 - k)))), (3, .int (nI k)), (0, .ref qk), (1, .int (nI s0)), (2, .int (nI cG))]) hx hb dX1_addGroup_20 hl (by decide) rfl (fun ls hl => ?_)
        have loop2 : ∀ (rr : Nat) (wC : Nat → Int32) (H : Heap) (locs : List Loc), rr ≤ 2 * k * (s0 - k) + 1 → VOk (Bq Z cG k rr) F wC → va_P dd vwCl [(qk, .inr (1, [.int (nI F), .int x2, .ref qk1, .ref qk2, .ref qk3])), (qk3, .inl (cyI, 4221, .inl wC))] H → va_D A [(qk, .inr (1, [.int (nI F), .int x2, .ref qk1, .ref qk2, .ref qk3])), (qk3, .inl (cyI, 4221, .inl wC))] → va_S A s.heap H locs → ∀ ls : Array Slot, lv_has ls 5 [(4, .int (nI rr - 1)), (3, .int (nI k)), (0, .ref qk), (1, .int (nI s0)), (2, .int (nI cG))] → W p l e ({ frames := 2, cells := 0, slots := 0, locals := 80 } : Room) s m ([.ref qk, .int (nI s0), .int (nI cG)] : List Value).toArray below meth c H locs 0 0 (MQ below (va_Qv (S := (Nat → Int32)) (fun (u : Nat → Int32) => VOk (stW Z cG) F u) (WQ dd [(qk, .inr (1, [.int (nI F), .int x2, .ref qk1, .ref qk2, .ref qk3])), (qk3, .inl (cyI, 4221, .inl wA))] sz (fun u => [(qk, .inr (1, [.int (nI F), .int x2, .ref qk1, .ref qk2, .ref qk3])), (qk3, .inl (cyI, 4221, .inl u))])) A) ([.ref qk, .int (nI s0), .int (nI cG)] : List Value).toArray s 0 0 A) (F0 m 22 ls []) := by
          intro rr
          induction rr with
          | zero =>
            intro wC H locs hrr hVc hP hD hS ls hl
            refine lv_iload hx hb dX1_addGroup_22 (lv_at hl 0 rfl) ?_
            refine lv_if_lt (tgt := 41) hx hb dX1_addGroup_24 (by decide) (fun q2 => ?_) (fun q2 => ?_)
            · refine lv_iinc (v := nI k - 1) (lv' := [(3, .int (nI k - 1)), (4, .int (nI 0 - 1)), (0, .ref qk), (1, .int (nI s0)), (2, .int (nI cG))]) hx hb dX1_addGroup_41 hl (k := 1) rfl (sub1 _) (by decide) rfl (fun ls hl => ?_)
              refine lv_goto (tgt := 9) hx hb dX1_addGroup_44 (by decide) ?_
              exact ih wC H locs (by omega) (vok_c hVc (fun h1 _ r1 => Bq_0 Z cG (by omega) h1 r1)) hP hD hS ls (lv_sub hl [0, 2, 3, 4] rfl)
            · exact absurd (by decide) q2
          | succ rr ih2 =>
            intro wC H locs hrr hVc hP hD hS ls hl
            rw [show nI (rr + 1) - 1 = nI rr from nI_pred rr] at hl
            refine lv_iload hx hb dX1_addGroup_22 (lv_at hl 0 rfl) ?_
            refine lv_if_lt (tgt := 41) hx hb dX1_addGroup_24 (by decide) (fun q2 => ?_) (fun q2 => ?_)
            · exact absurd q2 (nI_pos (by omega))
            · refine lv_aload_n hx hb dX1_addGroup_27 rfl (lv_at hl 2 rfl) ?_
              refine lv_iload_n hx hb dX1_addGroup_28 rfl (lv_at hl 1 rfl) ?_
              refine lv_iload hx hb dX1_addGroup_29 (lv_at hl 0 rfl) ?_
              refine lv_iload_n hx hb dX1_addGroup_31 rfl (lv_at hl 4 rfl) ?_
              refine clVwv (As := [.int (nI k), .int (nI rr), .int (nI cG)]) (rest := []) (b := qk) (vc := (RX1, TX1, 5)) (wr := []) ⟨hx, hb, hml, hown, hts⟩ (fun sz => c_moveWays l dd cyI cyJ cyZ qk qk1 qk2 qk3 x2 (Bq Z cG k (rr + 1)) k rr cG F hF (by omega) (by omega) (by omega) (by rw [Bq_at]; exact Nat.lt_of_le_of_lt (hZb k (by omega) rr) (by decide)) wC hVc sz) gX1_addGroup_X1_moveWays (ci := 1) rfl (q0 := 0) rfl (n := 3) rfl ⟨rfl, rfl⟩ (by decide +kernel) ⟨Nat.le_of_ble_eq_true rfl, Nat.le_of_ble_eq_true rfl⟩ hN hK hP hD hS hA [0, 1] [] rfl rfl (by decide) rfl (by decide) (by decide) rfl hl.1 rfl (Nat.le_of_ble_eq_true rfl) dX1_addGroup_32 ⟨Nat.le_of_ble_eq_true rfl, Nat.le_of_ble_eq_true rfl⟩ (fun u1 H locs hu1 hP hD hS => ?_)
              have hP : va_P dd vwCl [(qk, .inr (1, [.int (nI F), .int x2, .ref qk1, .ref qk2, .ref qk3])), (qk3, .inl (cyI, 4221, .inl u1))] H := hP
              have hD : va_D A [(qk, .inr (1, [.int (nI F), .int x2, .ref qk1, .ref qk2, .ref qk3])), (qk3, .inl (cyI, 4221, .inl u1))] := hD
              refine lv_iinc (v := nI rr - 1) (lv' := [(4, .int (nI rr - 1)), (3, .int (nI k)), (0, .ref qk), (1, .int (nI s0)), (2, .int (nI cG))]) hx hb dX1_addGroup_35 hl (k := 0) rfl (sub1 _) (by decide) rfl (fun ls hl => ?_)
              refine lv_goto (tgt := 22) hx hb dX1_addGroup_38 (by decide) ?_
              exact ih2 u1 H _ (by omega) (vok_c hu1 (fun h1 hh r1 => Bq_mv Z hh (fun d a _ => by omega))) hP hD hS ls (lv_sub hl [0, 1, 2, 3, 4] rfl)
        exact loop2 (2 * k * (s0 - k) + 1) wB H locs (Nat.le_refl _) (vok_c hVb (fun h1 _ r1 => (Bq_R hZ cG (by omega) h1 r1).symm)) hP hD hS ls (by rw [show nI (2 * k * (s0 - k) + 1) - 1 = nI (2 * k * (s0 - k)) from nI_pred _]; exact (lv_sub hl [0, 1, 2, 3, 4] rfl))
  exact loop (min s0 F + 1) wA H _ (Nat.le_refl _) (vok_c hV (fun h1 hh r1 => (Aq_t hZ cG hh r1).symm)) hP hD hS ls (by rw [show nI (min s0 F + 1) - 1 = nI (min s0 F) from nI_pred _]; exact (lv_sub hl [0, 1, 2, 3] rfl))

theorem max0 {x : Nat} (h : x < 2 ^ 31) : (if (0 : Int32) < nI x then nI x else 0) = nI x := by
  by_cases q : (0 : Int32) < nI x
  · rw [if_pos q]
  · rw [if_neg q]
    by_cases z : x = 0
    · rw [z]; rfl
    · exact absurd (nI_lt (a := 0) (by omega) h) q
theorem vok_W0 {F : Nat} {u : Nat → Int32} (hF : F ≤ 20) (h : ∀ j, j < 4221 → u j = 0) : VOk W0 F (upd u 0 1) := by
  intro h1 hh r hr
  unfold W0
  by_cases e : h1 = 0 ∧ r = 0
  · rw [if_pos e, e.1, e.2]; rfl
  · rw [if_neg e, pk_un (by omega), h _ (by omega)]; rfl

set_option maxHeartbeats 4000000 in
set_option maxRecDepth 100000 in
theorem c_waysToRise (l : Launch) (dd : va_G) (cyI cyJ cyZ : ClassId) (qk qk1 qk2 qk3 : Nat) (pp qq : Nat → Nat) (fA gA : Nat → Int32) (hfg : ∀ k, k < 10 → fA k = nI (pp k) ∧ gA k = nI (qq k)) (N1 N2 x : Nat) (e1 : N1 = ps pp 10) (e2 : N2 = ps qq 10) (h20 : N1 + N2 ≤ 20) (hx0 : x < 2 ^ 30) (wA : Nat → Int32) (sz : Nat) : Met l yX1_waysToRise wsX1_waysToRise ({ frames := 3, cells := 0, slots := 0, locals := 120 } : Room) (va_Pc [.ref qk, .int (nI x)] (Wr dd [(cyI, .int), (cyJ, .long), (cyZ, .boolean)] [(qk, .inr (1, [.int (nI N1), .int (nI N2), .ref qk1, .ref qk2, .ref qk3])), (qk1, .inl (cyI, 10, .inl fA)), (qk2, .inl (cyI, 10, .inl gA)), (qk3, .inl (cyI, 4221, .inl wA))] sz)) (va_Qi (S := (Nat → Int32)) (fun (r : Int32) (_ : Nat → Int32) => r = nI (ris (Wv (fun k => pp k + qq k) 10) N1 x)) (WQ dd [(qk, .inr (1, [.int (nI N1), .int (nI N2), .ref qk1, .ref qk2, .ref qk3])), (qk1, .inl (cyI, 10, .inl fA)), (qk2, .inl (cyI, 10, .inl gA)), (qk3, .inl (cyI, 4221, .inl wA))] sz (fun u => [(qk, .inr (1, [.int (nI N1), .int (nI N2), .ref qk1, .ref qk2, .ref qk3])), (qk1, .inl (cyI, 10, .inl fA)), (qk2, .inl (cyI, 10, .inl gA)), (qk3, .inl (cyI, 4221, .inl u))])) (va_A [(qk, .inr (1, [.int (nI N1), .int (nI N2), .ref qk1, .ref qk2, .ref qk3])), (qk1, .inl (cyI, 10, .inl fA)), (qk2, .inl (cyI, 10, .inl gA)), (qk3, .inl (cyI, 4221, .inl wA))] sz)) 0 0 (va_A [(qk, .inr (1, [.int (nI N1), .int (nI N2), .ref qk1, .ref qk2, .ref qk3])), (qk1, .inl (cyI, 10, .inl fA)), (qk2, .inl (cyI, 10, .inl gA)), (qk3, .inl (cyI, 4221, .inl wA))] sz) := by
  refine mkW (Qc := fun A => (va_Qi (S := (Nat → Int32)) (fun (r : Int32) (_ : Nat → Int32) => r = nI (ris (Wv (fun k => pp k + qq k) 10) N1 x)) (WQ dd [(qk, .inr (1, [.int (nI N1), .int (nI N2), .ref qk1, .ref qk2, .ref qk3])), (qk1, .inl (cyI, 10, .inl fA)), (qk2, .inl (cyI, 10, .inl gA)), (qk3, .inl (cyI, 4221, .inl wA))] sz (fun u => [(qk, .inr (1, [.int (nI N1), .int (nI N2), .ref qk1, .ref qk2, .ref qk3])), (qk1, .inl (cyI, 10, .inl fA)), (qk2, .inl (cyI, 10, .inl gA)), (qk3, .inl (cyI, 4221, .inl u))])) A)) (cc := cX1_waysToRise) (maxL := 5) (by decide) rfl (Nat.le_of_ble_eq_true rfl) (lv0 := [(0, .ref qk), (1, .int (nI x))]) rfl ?_
  intro p e s m below meth c ls H A hx hb hr hml hown hlocks hts hmn hN hP hK hD hS hA hAe hl
  have hown : s.vm.findClass RX1 = some m.cls := hown
  have hiX1 : ∀ w ∈ wsX10, w ∈ wsX1_waysToRise := by decide +kernel
  have hq : ps (fun k => pp k + qq k) 10 ≤ 20 := by rw [ps_add]; omega
  refine lv_aload_n hx hb dX1_waysToRise_0 rfl (lv_at hl 0 rfl) ?_
  refine va_get (D := dd) (ci := 1) (C := RX1) (T := TX1) (N := 5) (v := .int (nI N1)) hx hb hts hiX1 hown hK hP 0 rfl rfl 0 (by decide) (hts (.fieldLink RX1 11 "SliceDrift$Ranks" "firstRows" "I") (by decide +kernel)) (fun _ h9 => h9) rfl dX1_waysToRise_1 ?_
  refine lv_aload_n hx hb dX1_waysToRise_4 rfl (lv_at hl 0 rfl) ?_
  refine va_get (D := dd) (ci := 1) (C := RX1) (T := TX1) (N := 5) (v := .int (nI N2)) hx hb hts hiX1 hown hK hP 0 rfl rfl 1 (by decide) (hts (.fieldLink RX1 15 "SliceDrift$Ranks" "secondRows" "I") (by decide +kernel)) (fun _ h9 => h9) rfl dX1_waysToRise_5 ?_
  refine lv_iadd hx hb dX1_waysToRise_8 ?_
  refine tpi (show ((nI N1) + (nI N2) : Int32) = nI (N1 + N2) from nI_add _ _) ?_
  refine lv_bipush (v := 20) hx hb dX1_waysToRise_9 (by decide) ?_
  refine lv_icmp_le (tgt := 16) hx hb dX1_waysToRise_11 (by decide) (fun q0 => ?_) (fun q0 => ?_)
  · refine lv_aload_n hx hb dX1_waysToRise_16 rfl (lv_at hl 0 rfl) ?_
    refine va_get (D := dd) (ci := 1) (C := RX1) (T := TX1) (N := 5) (v := .ref qk3) hx hb hts hiX1 hown hK hP 0 rfl rfl 4 (by decide) (hts (.fieldLink RX1 25 "SliceDrift$Ranks" "ways" "[I") (by decide +kernel)) (fun _ h9 => h9) rfl dX1_waysToRise_17 ?_
    refine lv_iconst (v := 0) hx hb dX1_waysToRise_20 (by decide) ?_
    refine clSwv (As := [.ref qk3, .int 0]) (rest := []) (wr := [(qk, .inr (1, [.int (nI N1), .int (nI N2), .ref qk1, .ref qk2, .ref qk3])), (qk1, .inl (cyI, 10, .inl fA)), (qk2, .inl (cyI, 10, .inl gA))]) ⟨hx, hb, hml, hown, hts⟩ (fun sz => c_fill l dd cyI cyJ cyZ qk3 wA sz) gX1_waysToRise_J7_fill_53178 (n := 2) rfl ⟨rfl, rfl⟩ (by decide +kernel) ⟨Nat.le_of_ble_eq_true rfl, Nat.le_of_ble_eq_true rfl⟩ hN hK hP hD hS hA [3] [0, 1, 2] rfl rfl (by decide) rfl (by decide) (by decide) rfl hl.1 rfl (Nat.le_of_ble_eq_true rfl) dX1_waysToRise_21 ⟨Nat.le_of_ble_eq_true rfl, Nat.le_of_ble_eq_true rfl⟩ (fun u1 H locs hu1 hP hD hS => ?_)
    have hP : va_P dd vwCl [(qk, .inr (1, [.int (nI N1), .int (nI N2), .ref qk1, .ref qk2, .ref qk3])), (qk1, .inl (cyI, 10, .inl fA)), (qk2, .inl (cyI, 10, .inl gA)), (qk3, .inl (cyI, 4221, .inl u1))] H := hP
    have hD : va_D A [(qk, .inr (1, [.int (nI N1), .int (nI N2), .ref qk1, .ref qk2, .ref qk3])), (qk1, .inl (cyI, 10, .inl fA)), (qk2, .inl (cyI, 10, .inl gA)), (qk3, .inl (cyI, 4221, .inl u1))] := hD
    refine lv_aload_n hx hb dX1_waysToRise_24 rfl (lv_at hl 0 rfl) ?_
    refine va_get (D := dd) (ci := 1) (C := RX1) (T := TX1) (N := 5) (v := .ref qk3) hx hb hts hiX1 hown hK hP 0 rfl rfl 4 (by decide) (hts (.fieldLink RX1 25 "SliceDrift$Ranks" "ways" "[I") (by decide +kernel)) (fun _ h9 => h9) rfl dX1_waysToRise_25 ?_
    refine lv_iconst (v := 0) hx hb dX1_waysToRise_28 (by decide) ?_
    refine lv_iconst (v := 1) hx hb dX1_waysToRise_29 (by decide) ?_
    refine va_iast hx hb hK hP hD hS 3 0 rfl rfl (i := nI 0) (vp_in_nI (show 0 < 4221 by decide) (by decide)) dX1_waysToRise_30 (fun H locs hP hD hS => ?_)
    rw [nI_clamp (show 0 < 2 ^ 31 by decide)] at hP hD
    have hP : va_P dd vwCl [(qk, .inr (1, [.int (nI N1), .int (nI N2), .ref qk1, .ref qk2, .ref qk3])), (qk1, .inl (cyI, 10, .inl fA)), (qk2, .inl (cyI, 10, .inl gA)), (qk3, .inl (cyI, 4221, .inl (upd u1 0 1)))] H := hP
    have hD : va_D A [(qk, .inr (1, [.int (nI N1), .int (nI N2), .ref qk1, .ref qk2, .ref qk3])), (qk1, .inl (cyI, 10, .inl fA)), (qk2, .inl (cyI, 10, .inl gA)), (qk3, .inl (cyI, 4221, .inl (upd u1 0 1)))] := hD
    refine lv_iconst (v := 0) hx hb dX1_waysToRise_31 (by decide) ?_
    refine lv_istore_n (lv' := [(2, .int 0), (0, .ref qk), (1, .int (nI x))]) hx hb dX1_waysToRise_32 rfl hl (by decide) rfl (fun ls hl => ?_)
    refine lv_iconst (v := 0) hx hb dX1_waysToRise_33 (by decide) ?_
    refine lv_istore_n (lv' := [(3, .int 0), (2, .int 0), (0, .ref qk), (1, .int (nI x))]) hx hb dX1_waysToRise_34 rfl hl (by decide) rfl (fun ls hl => ?_)
    have loop : ∀ (k : Nat) (v : Nat) (wB : Nat → Int32) (H : Heap) (locs : List Loc), v + k = 10 → VOk (Wv (fun k => pp k + qq k) v) N1 wB → va_P dd vwCl [(qk, .inr (1, [.int (nI N1), .int (nI N2), .ref qk1, .ref qk2, .ref qk3])), (qk1, .inl (cyI, 10, .inl fA)), (qk2, .inl (cyI, 10, .inl gA)), (qk3, .inl (cyI, 4221, .inl wB))] H → va_D A [(qk, .inr (1, [.int (nI N1), .int (nI N2), .ref qk1, .ref qk2, .ref qk3])), (qk1, .inl (cyI, 10, .inl fA)), (qk2, .inl (cyI, 10, .inl gA)), (qk3, .inl (cyI, 4221, .inl wB))] → va_S A s.heap H locs → ∀ ls : Array Slot, lv_has ls 5 [(3, .int (nI v)), (2, .int (nI (ps (fun k => pp k + qq k) v))), (0, .ref qk), (1, .int (nI x))] → W p l e ({ frames := 3, cells := 0, slots := 0, locals := 120 } : Room) s m ([.ref qk, .int (nI x)] : List Value).toArray below meth c H locs 0 0 (MQ below (va_Qi (S := (Nat → Int32)) (fun (r : Int32) (_ : Nat → Int32) => r = nI (ris (Wv (fun k => pp k + qq k) 10) N1 x)) (WQ dd [(qk, .inr (1, [.int (nI N1), .int (nI N2), .ref qk1, .ref qk2, .ref qk3])), (qk1, .inl (cyI, 10, .inl fA)), (qk2, .inl (cyI, 10, .inl gA)), (qk3, .inl (cyI, 4221, .inl wA))] sz (fun u => [(qk, .inr (1, [.int (nI N1), .int (nI N2), .ref qk1, .ref qk2, .ref qk3])), (qk1, .inl (cyI, 10, .inl fA)), (qk2, .inl (cyI, 10, .inl gA)), (qk3, .inl (cyI, 4221, .inl u))])) A) ([.ref qk, .int (nI x)] : List Value).toArray s 0 0 A) (F0 m 35 ls []) := by
      intro k
      induction k with
      | zero =>
        intro v wB H locs hv9 hVb hP hD hS ls hl
        refine lv_iload_n hx hb dX1_waysToRise_35 rfl (lv_at hl 0 rfl) ?_
        refine lv_bipush (v := 10) hx hb dX1_waysToRise_36 (by decide) ?_
        refine lv_icmp_ge (tgt := 74) hx hb dX1_waysToRise_38 (by decide) (fun q => ?_) (fun q => ?_)
        · have v10 : v = 10 := by omega
          subst v10
          refine lv_iconst (v := 0) hx hb dX1_waysToRise_74 (by decide) ?_
          refine lv_istore_n (lv' := [(3, .int 0), (2, .int (nI (ps (fun k => pp k + qq k) 10))), (0, .ref qk), (1, .int (nI x))]) hx hb dX1_waysToRise_75 rfl hl (by decide) rfl (fun ls hl => ?_)
          refine lv_iconst (v := 0) hx hb dX1_waysToRise_76 (by decide) ?_
          refine lv_iload_n hx hb dX1_waysToRise_77 rfl (lv_at hl 3 rfl) ?_
          refine va_mmax hx hb (hml.trans hl.1.symm) hown (hts (.methodLink RX1 50 Lib.Math.max.name) (by decide +kernel)) (hts (.static Lib.Math.max.name) (by decide +kernel)) (hts (.initialized "java/lang/Math") (by decide +kernel)) (hts (.code Lib.Math.max.name Lib.Math.max.code 2 (some .int)) (by decide +kernel)) (Nat.le_of_ble_eq_true rfl) (Nat.le_of_ble_eq_true rfl) (Nat.le_of_ble_eq_true rfl) (Nat.le_of_ble_eq_true rfl) dX1_waysToRise_78 ?_
          refine tpi (show (if 0 < (nI x) then nI x else 0 : Int32) = nI x from max0 (by omega)) ?_
          refine lv_istore (lv' := [(4, .int (nI x)), (3, .int 0), (2, .int (nI (ps (fun k => pp k + qq k) 10))), (0, .ref qk), (1, .int (nI x))]) hx hb dX1_waysToRise_81 hl (by decide) rfl (fun ls hl => ?_)
          have loop2 : ∀ (k2 : Nat) (r t : Nat), k2 = 201 - r → r < 2 ^ 30 + 300 → t + smF (Wv (fun k => pp k + qq k) 10 N1) k2 r = ris (Wv (fun k => pp k + qq k) 10) N1 x → ∀ ls : Array Slot, lv_has ls 5 [(4, .int (nI r)), (3, .int (nI t)), (0, .ref qk)] → W p l e ({ frames := 3, cells := 0, slots := 0, locals := 120 } : Room) s m ([.ref qk, .int (nI x)] : List Value).toArray below meth c H locs 0 0 (MQ below (va_Qi (S := (Nat → Int32)) (fun (r : Int32) (_ : Nat → Int32) => r = nI (ris (Wv (fun k => pp k + qq k) 10) N1 x)) (WQ dd [(qk, .inr (1, [.int (nI N1), .int (nI N2), .ref qk1, .ref qk2, .ref qk3])), (qk1, .inl (cyI, 10, .inl fA)), (qk2, .inl (cyI, 10, .inl gA)), (qk3, .inl (cyI, 4221, .inl wA))] sz (fun u => [(qk, .inr (1, [.int (nI N1), .int (nI N2), .ref qk1, .ref qk2, .ref qk3])), (qk1, .inl (cyI, 10, .inl fA)), (qk2, .inl (cyI, 10, .inl gA)), (qk3, .inl (cyI, 4221, .inl u))])) A) ([.ref qk, .int (nI x)] : List Value).toArray s 0 0 A) (F0 m 83 ls []) := by
            intro k2
            induction k2 with
            | zero =>
              intro r t hr9 hr8 he ls hl
              refine lv_iload hx hb dX1_waysToRise_83 (lv_at hl 0 rfl) ?_
              refine lv_sipush (v := 200) hx hb dX1_waysToRise_85 (by decide) ?_
              refine lv_icmp_gt (tgt := 116) hx hb dX1_waysToRise_88 (by decide) (fun q2 => ?_) (fun q2 => ?_)
              · refine lv_iload_n hx hb dX1_waysToRise_116 rfl (lv_at hl 1 rfl) ?_
                exact ewI wB hx hb hr hlocks hAe hS dX1_waysToRise_117 (by rw [← he]; rfl) (hP.sub [0, 1, 2, 3] rfl) (hD.sub [0, 1, 2, 3] (by decide) rfl)
              · exact absurd (nI_lt (show 200 < r by omega) (by omega)) q2
            | succ k2 ih2 =>
              intro r t hr9 hr8 he ls hl
              refine lv_iload hx hb dX1_waysToRise_83 (lv_at hl 0 rfl) ?_
              refine lv_sipush (v := 200) hx hb dX1_waysToRise_85 (by decide) ?_
              refine lv_icmp_gt (tgt := 116) hx hb dX1_waysToRise_88 (by decide) (fun q2 => ?_) (fun q2 => ?_)
              · exact absurd ((nI_ltI (a := 200) (by decide) (by omega)).mp q2) (by omega)
              · refine lv_iload_n hx hb dX1_waysToRise_91 rfl (lv_at hl 1 rfl) ?_
                refine lv_aload_n hx hb dX1_waysToRise_92 rfl (lv_at hl 2 rfl) ?_
                refine va_get (D := dd) (ci := 1) (C := RX1) (T := TX1) (N := 5) (v := .ref qk3) hx hb hts hiX1 hown hK hP 0 rfl rfl 4 (by decide) (hts (.fieldLink RX1 25 "SliceDrift$Ranks" "ways" "[I") (by decide +kernel)) (fun _ h9 => h9) rfl dX1_waysToRise_93 ?_
                refine lv_aload_n hx hb dX1_waysToRise_96 rfl (lv_at hl 2 rfl) ?_
                refine va_get (D := dd) (ci := 1) (C := RX1) (T := TX1) (N := 5) (v := .int (nI N1)) hx hb hts hiX1 hown hK hP 0 rfl rfl 0 (by decide) (hts (.fieldLink RX1 11 "SliceDrift$Ranks" "firstRows" "I") (by decide +kernel)) (fun _ h9 => h9) rfl dX1_waysToRise_97 ?_
                refine lv_sipush (v := 201) hx hb dX1_waysToRise_100 (by decide) ?_
                refine lv_imul hx hb dX1_waysToRise_103 ?_
                refine tpi (show ((nI N1) * 201 : Int32) = nI (N1 * 201) from pk_mul _ _) ?_
                refine lv_iload hx hb dX1_waysToRise_104 (lv_at hl 0 rfl) ?_
                refine lv_iadd hx hb dX1_waysToRise_106 ?_
                refine tpi (show ((nI (N1 * 201)) + (nI r) : Int32) = nI (N1 * 201 + r) from nI_add _ _) ?_
                refine va_iald hx hb hK hP 3 0 rfl rfl (i := nI (N1 * 201 + r)) (vp_in_nI (show (N1 * 201 + r) < 4221 from (by omega)) (by decide)) dX1_waysToRise_107 ?_
                rw [nI_clamp (show (N1 * 201 + r) < 2 ^ 31 from Nat.lt_trans (show (N1 * 201 + r) < 4221 from (by omega)) (by decide))]
                refine tpi (show (wB (N1 * 201 + r) : Int32) = nI (Wv (fun k => pp k + qq k) 10 N1 r) from hVb N1 (Nat.le_refl _) r (by omega)) ?_
                refine lv_iadd hx hb dX1_waysToRise_108 ?_
                refine tpi (show ((nI t) + (nI (Wv (fun k => pp k + qq k) 10 N1 r)) : Int32) = nI (t + Wv (fun k => pp k + qq k) 10 N1 r) from nI_add _ _) ?_
                refine lv_istore_n (lv' := [(3, .int (nI (t + Wv (fun k => pp k + qq k) 10 N1 r))), (4, .int (nI r)), (0, .ref qk)]) hx hb dX1_waysToRise_109 rfl hl (by decide) rfl (fun ls hl => ?_)
                refine lv_iinc (v := nI (r + 1)) (lv' := [(4, .int (nI (r + 1))), (3, .int (nI (t + Wv (fun k => pp k + qq k) 10 N1 r))), (0, .ref qk)]) hx hb dX1_waysToRise_110 hl (k := 1) rfl (nI_1 r) (by decide) rfl (fun ls hl => ?_)
                refine lv_goto (tgt := 83) hx hb dX1_waysToRise_113 (by decide) ?_
                exact ih2 (r + 1) (t + Wv (fun k => pp k + qq k) 10 N1 r) (by omega) (by omega) (by rw [← he, smF, Nat.add_assoc]) ls (lv_sub hl [0, 1, 2] rfl)
          exact loop2 (201 - x) x 0 rfl (by omega) (Nat.zero_add _) ls (lv_sub hl [0, 1, 3] rfl)
        · exact absurd (nI_le (show 10 ≤ v by omega) (by omega)) q
      | succ k ih =>
        intro v wB H locs hv9 hVb hP hD hS ls hl
        refine lv_iload_n hx hb dX1_waysToRise_35 rfl (lv_at hl 0 rfl) ?_
        refine lv_bipush (v := 10) hx hb dX1_waysToRise_36 (by decide) ?_
        refine lv_icmp_ge (tgt := 74) hx hb dX1_waysToRise_38 (by decide) (fun q => ?_) (fun q => ?_)
        · exact absurd q (nI_ge (show v < 10 by omega) (by decide))
        · obtain ⟨f1, f2⟩ := hfg v (by omega)
          have hs1 : ps (fun k => pp k + qq k) (v + 1) ≤ 20 := Nat.le_trans (ps_mono (by omega)) hq
          have hs2 : ps (fun k => pp k + qq k) v + (pp v + qq v) ≤ 20 := hs1
          refine lv_aload_n hx hb dX1_waysToRise_41 rfl (lv_at hl 2 rfl) ?_
          refine va_get (D := dd) (ci := 1) (C := RX1) (T := TX1) (N := 5) (v := .ref qk1) hx hb hts hiX1 hown hK hP 0 rfl rfl 2 (by decide) (hts (.fieldLink RX1 18 "SliceDrift$Ranks" "firsts" "[I") (by decide +kernel)) (fun _ h9 => h9) rfl dX1_waysToRise_42 ?_
          refine lv_iload_n hx hb dX1_waysToRise_45 rfl (lv_at hl 0 rfl) ?_
          refine va_iald hx hb hK hP 1 0 rfl rfl (i := nI v) (vp_in_nI (show v < 10 from (by omega)) (by decide)) dX1_waysToRise_46 ?_
          rw [nI_clamp (show v < 2 ^ 31 from Nat.lt_trans (show v < 10 from (by omega)) (by decide))]
          refine tpi (show (fA v : Int32) = nI (pp v) from f1) ?_
          refine lv_aload_n hx hb dX1_waysToRise_47 rfl (lv_at hl 2 rfl) ?_
          refine va_get (D := dd) (ci := 1) (C := RX1) (T := TX1) (N := 5) (v := .ref qk2) hx hb hts hiX1 hown hK hP 0 rfl rfl 3 (by decide) (hts (.fieldLink RX1 22 "SliceDrift$Ranks" "seconds" "[I") (by decide +kernel)) (fun _ h9 => h9) rfl dX1_waysToRise_48 ?_
          refine lv_iload_n hx hb dX1_waysToRise_51 rfl (lv_at hl 0 rfl) ?_
          refine va_iald hx hb hK hP 2 0 rfl rfl (i := nI v) (vp_in_nI (show v < 10 from (by omega)) (by decide)) dX1_waysToRise_52 ?_
          rw [nI_clamp (show v < 2 ^ 31 from Nat.lt_trans (show v < 10 from (by omega)) (by decide))]
          refine tpi (show (gA v : Int32) = nI (qq v) from f2) ?_
          refine lv_iadd hx hb dX1_waysToRise_53 ?_
          refine tpi (show ((nI (pp v)) + (nI (qq v)) : Int32) = nI (pp v + qq v) from nI_add _ _) ?_
          refine lv_istore (lv' := [(4, .int (nI (pp v + qq v))), (3, .int (nI v)), (2, .int (nI (ps (fun k => pp k + qq k) v))), (0, .ref qk), (1, .int (nI x))]) hx hb dX1_waysToRise_54 hl (by decide) rfl (fun ls hl => ?_)
          refine lv_aload_n hx hb dX1_waysToRise_56 rfl (lv_at hl 3 rfl) ?_
          refine lv_iload_n hx hb dX1_waysToRise_57 rfl (lv_at hl 2 rfl) ?_
          refine lv_iload hx hb dX1_waysToRise_58 (lv_at hl 0 rfl) ?_
          refine clVwv (As := [.int (nI (ps (fun k => pp k + qq k) v)), .int (nI (pp v + qq v))]) (rest := []) (b := qk) (vc := (RX1, TX1, 5)) (wr := [(qk1, .inl (cyI, 10, .inl fA)), (qk2, .inl (cyI, 10, .inl gA))]) ⟨hx, hb, hml, hown, hts⟩ (fun sz => c_addGroup l dd cyI cyJ cyZ qk qk1 qk2 qk3 (nI N2) (Wv (fun k => pp k + qq k) v) (ps (fun k => pp k + qq k) v) (pp v + qq v) N1 (by omega) hs2 (Wv_s v) (fun h hh r => Nat.le_trans (Wv_b v (by omega) h hh r) (Nat.pow_le_pow_right (by decide) (by omega))) wB hVb sz) gX1_waysToRise_X1_addGroup (ci := 1) rfl (q0 := 0) rfl (n := 2) rfl ⟨rfl, rfl⟩ (by decide +kernel) ⟨Nat.le_of_ble_eq_true rfl, Nat.le_of_ble_eq_true rfl⟩ hN hK hP hD hS hA [0, 3] [1, 2] rfl rfl (by decide) rfl (by decide) (by decide) rfl hl.1 rfl (Nat.le_of_ble_eq_true rfl) dX1_waysToRise_60 ⟨Nat.le_of_ble_eq_true rfl, Nat.le_of_ble_eq_true rfl⟩ (fun u2 H locs hu2 hP hD hS => ?_)
          have hP : va_P dd vwCl [(qk1, .inl (cyI, 10, .inl fA)), (qk2, .inl (cyI, 10, .inl gA)), (qk, .inr (1, [.int (nI N1), .int (nI N2), .ref qk1, .ref qk2, .ref qk3])), (qk3, .inl (cyI, 4221, .inl u2))] H := hP
          have hD : va_D A [(qk1, .inl (cyI, 10, .inl fA)), (qk2, .inl (cyI, 10, .inl gA)), (qk, .inr (1, [.int (nI N1), .int (nI N2), .ref qk1, .ref qk2, .ref qk3])), (qk3, .inl (cyI, 4221, .inl u2))] := hD
          refine lv_iload_n hx hb dX1_waysToRise_63 rfl (lv_at hl 2 rfl) ?_
          refine lv_iload hx hb dX1_waysToRise_64 (lv_at hl 0 rfl) ?_
          refine lv_iadd hx hb dX1_waysToRise_66 ?_
          refine tpi (show ((nI (ps (fun k => pp k + qq k) v)) + (nI (pp v + qq v)) : Int32) = nI (ps (fun k => pp k + qq k) (v + 1)) from nI_add _ _) ?_
          refine lv_istore_n (lv' := [(2, .int (nI (ps (fun k => pp k + qq k) (v + 1)))), (4, .int (nI (pp v + qq v))), (3, .int (nI v)), (0, .ref qk), (1, .int (nI x))]) hx hb dX1_waysToRise_67 rfl hl (by decide) rfl (fun ls hl => ?_)
          refine lv_iinc (v := nI (v + 1)) (lv' := [(3, .int (nI (v + 1))), (2, .int (nI (ps (fun k => pp k + qq k) (v + 1)))), (4, .int (nI (pp v + qq v))), (0, .ref qk), (1, .int (nI x))]) hx hb dX1_waysToRise_68 hl (k := 2) rfl (nI_1 v) (by decide) rfl (fun ls hl => ?_)
          refine lv_goto (tgt := 35) hx hb dX1_waysToRise_71 (by decide) ?_
          exact ih (v + 1) u2 H _ (by omega) hu2 (hP.sub [2, 0, 1, 3] rfl) (hD.sub [2, 0, 1, 3] (by decide) rfl) hS ls (lv_sub hl [0, 1, 3, 4] rfl)
    exact loop 10 0 (upd u1 0 1) H _ rfl (vok_W0 (by omega) hu1) (hP.sub [0, 1, 2, 3] rfl) (hD.sub [0, 1, 2, 3] (by decide) rfl) hS ls (lv_sub hl [0, 1, 2, 3] rfl)
  · exact absurd (nI_le h20 (by decide)) q0

set_option maxHeartbeats 4000000 in
set_option maxRecDepth 100000 in
theorem x_rise (l : Launch) (dd : va_G) (cyI cyJ cyZ : ClassId) (qx ql qk qa qk1 qk2 qk3 : Nat) (x1 x2 : Int32) (f0 g0 : Nat → Int32) (qr qt qh n : Nat) (hi : Int64) (tI : Nat → Int32) (hv : Nat → Int64) (hI sI : Nat → Int32) (hR : RowsOk n hI sI hi hv) (y f b t : Int32) (sz : Nat) : Met l yX4_rise wsX4_rise ({ frames := 4, cells := 0, slots := 0, locals := 120 } : Room) (va_Pc [.ref qx, .int y, .int f, .int b, .int t] (Wr dd [(cyI, .int), (cyJ, .long), (cyZ, .boolean)] [(qx, .inr (4, [.ref qr, .ref ql, .ref qk, .ref qa])), (qk, .inr (1, [.int x1, .int x2, .ref qk1, .ref qk2, .ref qk3])), (qk1, .inl (cyI, 10, .inl f0)), (qk2, .inl (cyI, 10, .inl g0)), (qr, .inr (2, [.int (nI n), .long hi, .ref qt, .ref qh])), (qt, .inl (cyI, 48, .inl tI)), (qh, .inl (cyJ, 55, .inr (.inl hv)))] sz)) (va_Qi (S := Int32 × Int32 × (Nat → Int32) × (Nat → Int32)) (fun (r : Int32) (_ : Int32 × Int32 × (Nat → Int32) × (Nat → Int32)) => r = riseR n tI sI y f b t) (WQ dd [(qx, .inr (4, [.ref qr, .ref ql, .ref qk, .ref qa])), (qk, .inr (1, [.int x1, .int x2, .ref qk1, .ref qk2, .ref qk3])), (qk1, .inl (cyI, 10, .inl f0)), (qk2, .inl (cyI, 10, .inl g0)), (qr, .inr (2, [.int (nI n), .long hi, .ref qt, .ref qh])), (qt, .inl (cyI, 48, .inl tI)), (qh, .inl (cyJ, 55, .inr (.inl hv)))] sz (fun u => [(qx, .inr (4, [.ref qr, .ref ql, .ref qk, .ref qa])), (qk, .inr (1, [.int u.1, .int u.2.1, .ref qk1, .ref qk2, .ref qk3])), (qk1, .inl (cyI, 10, .inl u.2.2.1)), (qk2, .inl (cyI, 10, .inl u.2.2.2)), (qr, .inr (2, [.int (nI n), .long hi, .ref qt, .ref qh])), (qt, .inl (cyI, 48, .inl tI)), (qh, .inl (cyJ, 55, .inr (.inl hv)))])) (va_A [(qx, .inr (4, [.ref qr, .ref ql, .ref qk, .ref qa])), (qk, .inr (1, [.int x1, .int x2, .ref qk1, .ref qk2, .ref qk3])), (qk1, .inl (cyI, 10, .inl f0)), (qk2, .inl (cyI, 10, .inl g0)), (qr, .inr (2, [.int (nI n), .long hi, .ref qt, .ref qh])), (qt, .inl (cyI, 48, .inl tI)), (qh, .inl (cyJ, 55, .inr (.inl hv)))] sz)) 0 0 (va_A [(qx, .inr (4, [.ref qr, .ref ql, .ref qk, .ref qa])), (qk, .inr (1, [.int x1, .int x2, .ref qk1, .ref qk2, .ref qk3])), (qk1, .inl (cyI, 10, .inl f0)), (qk2, .inl (cyI, 10, .inl g0)), (qr, .inr (2, [.int (nI n), .long hi, .ref qt, .ref qh])), (qt, .inl (cyI, 48, .inl tI)), (qh, .inl (cyJ, 55, .inr (.inl hv)))] sz) := by
  refine mkW (Qc := fun A => (va_Qi (S := Int32 × Int32 × (Nat → Int32) × (Nat → Int32)) (fun (r : Int32) (_ : Int32 × Int32 × (Nat → Int32) × (Nat → Int32)) => r = riseR n tI sI y f b t) (WQ dd [(qx, .inr (4, [.ref qr, .ref ql, .ref qk, .ref qa])), (qk, .inr (1, [.int x1, .int x2, .ref qk1, .ref qk2, .ref qk3])), (qk1, .inl (cyI, 10, .inl f0)), (qk2, .inl (cyI, 10, .inl g0)), (qr, .inr (2, [.int (nI n), .long hi, .ref qt, .ref qh])), (qt, .inl (cyI, 48, .inl tI)), (qh, .inl (cyJ, 55, .inr (.inl hv)))] sz (fun u => [(qx, .inr (4, [.ref qr, .ref ql, .ref qk, .ref qa])), (qk, .inr (1, [.int u.1, .int u.2.1, .ref qk1, .ref qk2, .ref qk3])), (qk1, .inl (cyI, 10, .inl u.2.2.1)), (qk2, .inl (cyI, 10, .inl u.2.2.2)), (qr, .inr (2, [.int (nI n), .long hi, .ref qt, .ref qh])), (qt, .inl (cyI, 48, .inl tI)), (qh, .inl (cyJ, 55, .inr (.inl hv)))])) A)) (cc := cX4_rise) (maxL := 5) (by decide) rfl (Nat.le_of_ble_eq_true rfl) (lv0 := [(0, .ref qx), (1, .int y), (2, .int f), (3, .int b), (4, .int t)]) rfl ?_
  intro p e s m below meth c ls H A hx hb hr hml hown hlocks hts hmn hN hP hK hD hS hA hAe hl
  have hown : s.vm.findClass RX4 = some m.cls := hown
  have hiX1 : ∀ w ∈ wsX10, w ∈ wsX4_rise := by decide +kernel
  have hiX2 : ∀ w ∈ wsX20, w ∈ wsX4_rise := by decide +kernel
  have hiX4 : ∀ w ∈ wsX40, w ∈ wsX4_rise := by decide +kernel
  have hn := hR.1
  refine lv_iload_n hx hb dX4_rise_0 rfl (lv_at hl 1 rfl) ?_
  refine clSi (As := [.int y]) (rest := []) ⟨hx, hb, hml, hown, hts⟩ (c_isColumn l dd cyI cyJ cyZ y) gX4_rise_X4_isColumn (n := 1) rfl ⟨rfl, rfl⟩ (by decide +kernel) ⟨Nat.le_of_ble_eq_true rfl, Nat.le_of_ble_eq_true rfl⟩ hN hK (hP.sub [] rfl) rfl hl.1 rfl (Nat.le_of_ble_eq_true rfl) dX4_rise_1 ⟨Nat.le_of_ble_eq_true rfl, Nat.le_of_ble_eq_true rfl⟩ (fun ck1 hck1 => ?_)
  refine lv_if_ne (tgt := 10) hx hb dX4_rise_4 (by decide) (fun qck1 => ?_) (fun qck1 => ?_)
  · have hck1 : inC y := hck1.elim (fun h => h.2) (fun h => absurd h.1 qck1)
    refine lv_iload_n hx hb dX4_rise_10 rfl (lv_at hl 2 rfl) ?_
    refine lv_iload_n hx hb dX4_rise_11 rfl (lv_at hl 3 rfl) ?_
    refine lv_iload hx hb dX4_rise_12 (lv_at hl 4 rfl) ?_
    refine clSi (As := [.int f, .int b, .int t]) (rest := []) ⟨hx, hb, hml, hown, hts⟩ (c_areTimes l dd cyI cyJ cyZ f b t) gX4_rise_X4_areTimes (n := 3) rfl ⟨rfl, rfl⟩ (by decide +kernel) ⟨Nat.le_of_ble_eq_true rfl, Nat.le_of_ble_eq_true rfl⟩ hN hK (hP.sub [] rfl) rfl hl.1 rfl (Nat.le_of_ble_eq_true rfl) dX4_rise_14 ⟨Nat.le_of_ble_eq_true rfl, Nat.le_of_ble_eq_true rfl⟩ (fun ck2 hck2 => ?_)
    refine lv_if_ne (tgt := 23) hx hb dX4_rise_17 (by decide) (fun qck2 => ?_) (fun qck2 => ?_)
    · have hck2 : inW f b t := hck2.elim (fun h => h.2) (fun h => absurd h.1 qck2)
      obtain ⟨co, hco, ey⟩ := inC_of hck1
      subst ey
      have ec : cl (nI co) = co := cl_nI (by omega)
      refine lv_aload_n hx hb dX4_rise_23 rfl (lv_at hl 0 rfl) ?_
      refine va_get (D := dd) (ci := 4) (C := RX4) (T := TX4) (N := 4) (v := .ref qk) hx hb hts hiX4 hown hK hP 0 rfl rfl 2 (by decide) (hts (.fieldLink RX4 26 "SliceDrift" "ranks" "LSliceDrift$Ranks;") (by decide +kernel)) (fun _ h9 => h9) rfl dX4_rise_24 ?_
      refine lv_aload_n hx hb dX4_rise_27 rfl (lv_at hl 0 rfl) ?_
      refine va_get (D := dd) (ci := 4) (C := RX4) (T := TX4) (N := 4) (v := .ref qr) hx hb hts hiX4 hown hK hP 0 rfl rfl 0 (by decide) (hts (.fieldLink RX4 10 "SliceDrift" "rows" "LSliceDrift$Rows;") (by decide +kernel)) (fun _ h9 => h9) rfl dX4_rise_28 ?_
      refine lv_iload_n hx hb dX4_rise_31 rfl (lv_at hl 1 rfl) ?_
      refine lv_aload_n hx hb dX4_rise_32 rfl (lv_at hl 0 rfl) ?_
      refine va_get (D := dd) (ci := 4) (C := RX4) (T := TX4) (N := 4) (v := .ref qr) hx hb hts hiX4 hown hK hP 0 rfl rfl 0 (by decide) (hts (.fieldLink RX4 10 "SliceDrift" "rows" "LSliceDrift$Rows;") (by decide +kernel)) (fun _ h9 => h9) rfl dX4_rise_33 ?_
      refine lv_iload_n hx hb dX4_rise_36 rfl (lv_at hl 2 rfl) ?_
      refine lv_iload_n hx hb dX4_rise_37 rfl (lv_at hl 3 rfl) ?_
      refine clVl (As := [.int f, .int b]) (rest := [.int (nI co), .ref qr, .ref qk]) (b := qr) (vc := (RX2, TX2, 4)) ⟨hx, hb, hml, hown, hts⟩ (c_between l dd cyI cyJ cyZ qr qt qh n hi tI hv f b hn) gX4_rise_X2_between (ci := 2) rfl (q0 := 0) rfl (n := 2) rfl ⟨rfl, rfl⟩ (by decide +kernel) ⟨Nat.le_of_ble_eq_true rfl, Nat.le_of_ble_eq_true rfl⟩ hN hK (hP.sub [4, 5, 6] rfl) rfl hl.1 rfl (Nat.le_of_ble_eq_true rfl) dX4_rise_38 ⟨Nat.le_of_ble_eq_true rfl, Nat.le_of_ble_eq_true rfl⟩ (fun r1 hr1 => ?_)
      subst hr1
      refine lv_aload_n hx hb dX4_rise_41 rfl (lv_at hl 0 rfl) ?_
      refine va_get (D := dd) (ci := 4) (C := RX4) (T := TX4) (N := 4) (v := .ref qr) hx hb hts hiX4 hown hK hP 0 rfl rfl 0 (by decide) (hts (.fieldLink RX4 10 "SliceDrift" "rows" "LSliceDrift$Rows;") (by decide +kernel)) (fun _ h9 => h9) rfl dX4_rise_42 ?_
      refine lv_iload_n hx hb dX4_rise_45 rfl (lv_at hl 3 rfl) ?_
      refine lv_iload hx hb dX4_rise_46 (lv_at hl 4 rfl) ?_
      refine clVl (As := [.int b, .int t]) (rest := [.long (lN (mk (win tI f b) n)), .int (nI co), .ref qr, .ref qk]) (b := qr) (vc := (RX2, TX2, 4)) ⟨hx, hb, hml, hown, hts⟩ (c_between l dd cyI cyJ cyZ qr qt qh n hi tI hv b t hn) gX4_rise_X2_between (ci := 2) rfl (q0 := 0) rfl (n := 2) rfl ⟨rfl, rfl⟩ (by decide +kernel) ⟨Nat.le_of_ble_eq_true rfl, Nat.le_of_ble_eq_true rfl⟩ hN hK (hP.sub [4, 5, 6] rfl) rfl hl.1 rfl (Nat.le_of_ble_eq_true rfl) dX4_rise_48 ⟨Nat.le_of_ble_eq_true rfl, Nat.le_of_ble_eq_true rfl⟩ (fun r2 hr2 => ?_)
      subst hr2
      refine clVwv (As := [.ref qr, .int (nI co), .long (lN (mk (win tI f b) n)), .long (lN (mk (win tI b t) n))]) (rest := []) (b := qk) (vc := (RX1, TX1, 5)) (wr := [(qx, .inr (4, [.ref qr, .ref ql, .ref qk, .ref qa]))]) ⟨hx, hb, hml, hown, hts⟩ (fun sz => c_take l dd cyI cyJ cyZ qk qk1 qk2 qk3 x1 x2 qr qt qh n hi tI hv hI sI hR co hco (win tI f b) (win tI b t) f0 g0 sz) gX4_rise_X1_take (ci := 1) rfl (q0 := 0) rfl (n := 4) rfl ⟨rfl, rfl⟩ (by decide +kernel) ⟨Nat.le_of_ble_eq_true rfl, Nat.le_of_ble_eq_true rfl⟩ hN hK hP hD hS hA [1, 2, 3, 4, 5, 6] [0] rfl rfl (by decide) rfl (by decide) (by decide) rfl hl.1 rfl (Nat.le_of_ble_eq_true rfl) dX4_rise_51 ⟨Nat.le_of_ble_eq_true rfl, Nat.le_of_ble_eq_true rfl⟩ (fun u1 H locs hu1 hP hD hS => ?_)
      have hP : va_P dd vwCl [(qx, .inr (4, [.ref qr, .ref ql, .ref qk, .ref qa])), (qk, .inr (1, [.int (nI (oN (win tI f b) sI co n)), .int (nI (oN (win tI b t) sI co n)), .ref qk1, .ref qk2, .ref qk3])), (qk1, .inl (cyI, 10, .inl u1.1)), (qk2, .inl (cyI, 10, .inl u1.2)), (qr, .inr (2, [.int (nI n), .long hi, .ref qt, .ref qh])), (qt, .inl (cyI, 48, .inl tI)), (qh, .inl (cyJ, 55, .inr (.inl hv)))] H := hP
      have hD : va_D A [(qx, .inr (4, [.ref qr, .ref ql, .ref qk, .ref qa])), (qk, .inr (1, [.int (nI (oN (win tI f b) sI co n)), .int (nI (oN (win tI b t) sI co n)), .ref qk1, .ref qk2, .ref qk3])), (qk1, .inl (cyI, 10, .inl u1.1)), (qk2, .inl (cyI, 10, .inl u1.2)), (qr, .inr (2, [.int (nI n), .long hi, .ref qt, .ref qh])), (qt, .inl (cyI, 48, .inl tI)), (qh, .inl (cyJ, 55, .inr (.inl hv)))] := hD
      refine lv_aload_n hx hb dX4_rise_54 rfl (lv_at hl 0 rfl) ?_
      refine va_get (D := dd) (ci := 4) (C := RX4) (T := TX4) (N := 4) (v := .ref qk) hx hb hts hiX4 hown hK hP 0 rfl rfl 2 (by decide) (hts (.fieldLink RX4 26 "SliceDrift" "ranks" "LSliceDrift$Ranks;") (by decide +kernel)) (fun _ h9 => h9) rfl dX4_rise_55 ?_
      refine clVi (As := []) (rest := []) (b := qk) (vc := (RX1, TX1, 5)) ⟨hx, hb, hml, hown, hts⟩ (c_risen l dd cyI cyJ cyZ qk qk1 qk2 qk3 (nI (oN (win tI f b) sI co n)) (nI (oN (win tI b t) sI co n)) (cs (win tI f b) sI co n) (cs (win tI b t) sI co n) u1.1 u1.2 (fun k hk => ⟨⟨(hu1 k hk).1, Nat.le_trans (cs_le _ _ _ _ _) hn⟩, (hu1 k hk).2, Nat.le_trans (cs_le _ _ _ _ _) hn⟩)) gX4_rise_X1_risen (ci := 1) rfl (q0 := 0) rfl (n := 0) rfl ⟨rfl, rfl⟩ (by decide +kernel) ⟨Nat.le_of_ble_eq_true rfl, Nat.le_of_ble_eq_true rfl⟩ hN hK (hP.sub [1, 2, 3] rfl) rfl hl.1 rfl (Nat.le_of_ble_eq_true rfl) dX4_rise_58 ⟨Nat.le_of_ble_eq_true rfl, Nat.le_of_ble_eq_true rfl⟩ (fun r3 h3 => ?_)
      exact ewI (_, _, u1.1, u1.2) hx hb hr hlocks hAe hS dX4_rise_61 (by rw [h3, riseR, if_pos (show inC (nI co) from hck1), if_pos (show inW f b t from hck2), ec]) (hP.sub [0, 1, 2, 3, 4, 5, 6] rfl) (hD.sub [0, 1, 2, 3, 4, 5, 6] (by decide) rfl)
    · have hck2 : ¬ (inW f b t) := hck2.elim (fun h => absurd (h.1.symm.trans qck2) (by decide)) (fun h => h.2)
      refine lv_ldc (v := (-1000002)) hx hb hown (hts (.constant RX4 41 (-1000002)) (by decide +kernel)) dX4_rise_20 ?_
      exact ewI (x1, x2, f0, g0) hx hb hr hlocks hAe hS dX4_rise_22 (by rw [riseR, if_pos hck1, if_neg hck2]) (hP.sub [0, 1, 2, 3, 4, 5, 6] rfl) (hD.sub [0, 1, 2, 3, 4, 5, 6] (by decide) rfl)
  · have hck1 : ¬ (inC y) := hck1.elim (fun h => absurd (h.1.symm.trans qck1) (by decide)) (fun h => h.2)
    refine lv_ldc (v := (-1000001)) hx hb hown (hts (.constant RX4 58 (-1000001)) (by decide +kernel)) dX4_rise_7 ?_
    exact ewI (x1, x2, f0, g0) hx hb hr hlocks hAe hS dX4_rise_9 (by rw [riseR, if_neg hck1]) (hP.sub [0, 1, 2, 3, 4, 5, 6] rfl) (hD.sub [0, 1, 2, 3, 4, 5, 6] (by decide) rfl)

set_option maxHeartbeats 4000000 in
set_option maxRecDepth 100000 in
theorem x_odds (l : Launch) (dd : va_G) (cyI cyJ cyZ : ClassId) (qx ql qk qa qk1 qk2 qk3 : Nat) (x1 x2 : Int32) (f0 g0 w0 : Nat → Int32) (qr qt qh n : Nat) (hi : Int64) (tI : Nat → Int32) (hv : Nat → Int64) (hI sI : Nat → Int32) (hR : RowsOk n hI sI hi hv) (y f b t pt : Int32) (sz : Nat) : Met l yX4_odds wsX4_odds ({ frames := 5, cells := 0, slots := 0, locals := 170 } : Room) (va_Pc [.ref qx, .int y, .int f, .int b, .int t, .int pt] (Wr dd [(cyI, .int), (cyJ, .long), (cyZ, .boolean)] [(qx, .inr (4, [.ref qr, .ref ql, .ref qk, .ref qa])), (qk, .inr (1, [.int x1, .int x2, .ref qk1, .ref qk2, .ref qk3])), (qk1, .inl (cyI, 10, .inl f0)), (qk2, .inl (cyI, 10, .inl g0)), (qk3, .inl (cyI, 4221, .inl w0)), (qr, .inr (2, [.int (nI n), .long hi, .ref qt, .ref qh])), (qt, .inl (cyI, 48, .inl tI)), (qh, .inl (cyJ, 55, .inr (.inl hv)))] sz)) (va_Ql (S := Int32 × Int32 × (Nat → Int32) × (Nat → Int32) × (Nat → Int32)) (fun (r : Int64) (_ : Int32 × Int32 × (Nat → Int32) × (Nat → Int32) × (Nat → Int32)) => r = oddsR n tI sI y f b t pt) (WQ dd [(qx, .inr (4, [.ref qr, .ref ql, .ref qk, .ref qa])), (qk, .inr (1, [.int x1, .int x2, .ref qk1, .ref qk2, .ref qk3])), (qk1, .inl (cyI, 10, .inl f0)), (qk2, .inl (cyI, 10, .inl g0)), (qk3, .inl (cyI, 4221, .inl w0)), (qr, .inr (2, [.int (nI n), .long hi, .ref qt, .ref qh])), (qt, .inl (cyI, 48, .inl tI)), (qh, .inl (cyJ, 55, .inr (.inl hv)))] sz (fun u => [(qx, .inr (4, [.ref qr, .ref ql, .ref qk, .ref qa])), (qk, .inr (1, [.int u.1, .int u.2.1, .ref qk1, .ref qk2, .ref qk3])), (qk1, .inl (cyI, 10, .inl u.2.2.1)), (qk2, .inl (cyI, 10, .inl u.2.2.2.1)), (qk3, .inl (cyI, 4221, .inl u.2.2.2.2)), (qr, .inr (2, [.int (nI n), .long hi, .ref qt, .ref qh])), (qt, .inl (cyI, 48, .inl tI)), (qh, .inl (cyJ, 55, .inr (.inl hv)))])) (va_A [(qx, .inr (4, [.ref qr, .ref ql, .ref qk, .ref qa])), (qk, .inr (1, [.int x1, .int x2, .ref qk1, .ref qk2, .ref qk3])), (qk1, .inl (cyI, 10, .inl f0)), (qk2, .inl (cyI, 10, .inl g0)), (qk3, .inl (cyI, 4221, .inl w0)), (qr, .inr (2, [.int (nI n), .long hi, .ref qt, .ref qh])), (qt, .inl (cyI, 48, .inl tI)), (qh, .inl (cyJ, 55, .inr (.inl hv)))] sz)) 0 0 (va_A [(qx, .inr (4, [.ref qr, .ref ql, .ref qk, .ref qa])), (qk, .inr (1, [.int x1, .int x2, .ref qk1, .ref qk2, .ref qk3])), (qk1, .inl (cyI, 10, .inl f0)), (qk2, .inl (cyI, 10, .inl g0)), (qk3, .inl (cyI, 4221, .inl w0)), (qr, .inr (2, [.int (nI n), .long hi, .ref qt, .ref qh])), (qt, .inl (cyI, 48, .inl tI)), (qh, .inl (cyJ, 55, .inr (.inl hv)))] sz) := by
  refine mkW (Qc := fun A => (va_Ql (S := Int32 × Int32 × (Nat → Int32) × (Nat → Int32) × (Nat → Int32)) (fun (r : Int64) (_ : Int32 × Int32 × (Nat → Int32) × (Nat → Int32) × (Nat → Int32)) => r = oddsR n tI sI y f b t pt) (WQ dd [(qx, .inr (4, [.ref qr, .ref ql, .ref qk, .ref qa])), (qk, .inr (1, [.int x1, .int x2, .ref qk1, .ref qk2, .ref qk3])), (qk1, .inl (cyI, 10, .inl f0)), (qk2, .inl (cyI, 10, .inl g0)), (qk3, .inl (cyI, 4221, .inl w0)), (qr, .inr (2, [.int (nI n), .long hi, .ref qt, .ref qh])), (qt, .inl (cyI, 48, .inl tI)), (qh, .inl (cyJ, 55, .inr (.inl hv)))] sz (fun u => [(qx, .inr (4, [.ref qr, .ref ql, .ref qk, .ref qa])), (qk, .inr (1, [.int u.1, .int u.2.1, .ref qk1, .ref qk2, .ref qk3])), (qk1, .inl (cyI, 10, .inl u.2.2.1)), (qk2, .inl (cyI, 10, .inl u.2.2.2.1)), (qk3, .inl (cyI, 4221, .inl u.2.2.2.2)), (qr, .inr (2, [.int (nI n), .long hi, .ref qt, .ref qh])), (qt, .inl (cyI, 48, .inl tI)), (qh, .inl (cyJ, 55, .inr (.inl hv)))])) A)) (cc := cX4_odds) (maxL := 7) (by decide) rfl (Nat.le_of_ble_eq_true rfl) (lv0 := [(0, .ref qx), (1, .int y), (2, .int f), (3, .int b), (4, .int t), (5, .int pt)]) rfl ?_
  intro p e s m below meth c ls H A hx hb hr hml hown hlocks hts hmn hN hP hK hD hS hA hAe hl
  have hown : s.vm.findClass RX4 = some m.cls := hown
  have hiX1 : ∀ w ∈ wsX10, w ∈ wsX4_odds := by decide +kernel
  have hiX2 : ∀ w ∈ wsX20, w ∈ wsX4_odds := by decide +kernel
  have hiX4 : ∀ w ∈ wsX40, w ∈ wsX4_odds := by decide +kernel
  have hn := hR.1
  refine lv_iload_n hx hb dX4_odds_0 rfl (lv_at hl 1 rfl) ?_
  refine clSi (As := [.int y]) (rest := []) ⟨hx, hb, hml, hown, hts⟩ (c_isColumn l dd cyI cyJ cyZ y) gX4_odds_X4_isColumn (n := 1) rfl ⟨rfl, rfl⟩ (by decide +kernel) ⟨Nat.le_of_ble_eq_true rfl, Nat.le_of_ble_eq_true rfl⟩ hN hK (hP.sub [] rfl) rfl hl.1 rfl (Nat.le_of_ble_eq_true rfl) dX4_odds_1 ⟨Nat.le_of_ble_eq_true rfl, Nat.le_of_ble_eq_true rfl⟩ (fun ck1 hck1 => ?_)
  refine lv_if_ne (tgt := 11) hx hb dX4_odds_4 (by decide) (fun qck1 => ?_) (fun qck1 => ?_)
  · have hck1 : inC y := hck1.elim (fun h => h.2) (fun h => absurd h.1 qck1)
    refine lv_iload_n hx hb dX4_odds_11 rfl (lv_at hl 2 rfl) ?_
    refine lv_iload_n hx hb dX4_odds_12 rfl (lv_at hl 3 rfl) ?_
    refine lv_iload hx hb dX4_odds_13 (lv_at hl 4 rfl) ?_
    refine clSi (As := [.int f, .int b, .int t]) (rest := []) ⟨hx, hb, hml, hown, hts⟩ (c_areTimes l dd cyI cyJ cyZ f b t) gX4_odds_X4_areTimes (n := 3) rfl ⟨rfl, rfl⟩ (by decide +kernel) ⟨Nat.le_of_ble_eq_true rfl, Nat.le_of_ble_eq_true rfl⟩ hN hK (hP.sub [] rfl) rfl hl.1 rfl (Nat.le_of_ble_eq_true rfl) dX4_odds_15 ⟨Nat.le_of_ble_eq_true rfl, Nat.le_of_ble_eq_true rfl⟩ (fun ck2 hck2 => ?_)
    refine lv_if_eq (tgt := 29) hx hb dX4_odds_18 (by decide) (fun qck2 => ?_) (fun qck2 => ?_)
    · have hck2 : ¬ (inW f b t) := hck2.elim (fun h => absurd (h.1.symm.trans qck2) (by decide)) (fun h => h.2)
      refine lv_ldc2 (v := (-1000002)) hx hb hown (hts (.constantLong RX4 114 (-1000002)) (by decide +kernel)) dX4_odds_29 ?_
      exact ewL (x1, x2, f0, g0, w0) hx hb hr hlocks hAe hS dX4_odds_32 (by rw [oddsR, if_pos hck1, if_neg (fun x : inW f b t ∧ inP pt => hck2 x.1)]) (hP.sub [0, 1, 2, 3, 4, 5, 6, 7] rfl) (hD.sub [0, 1, 2, 3, 4, 5, 6, 7] (by decide) rfl)
    · have hck2 : inW f b t := hck2.elim (fun h => h.2) (fun h => absurd h.1 qck2)
      refine lv_iload hx hb dX4_odds_21 (lv_at hl 5 rfl) ?_
      refine clSi (As := [.int pt]) (rest := []) ⟨hx, hb, hml, hown, hts⟩ (c_isPart l dd cyI cyJ cyZ pt) gX4_odds_X4_isPart (n := 1) rfl ⟨rfl, rfl⟩ (by decide +kernel) ⟨Nat.le_of_ble_eq_true rfl, Nat.le_of_ble_eq_true rfl⟩ hN hK (hP.sub [] rfl) rfl hl.1 rfl (Nat.le_of_ble_eq_true rfl) dX4_odds_23 ⟨Nat.le_of_ble_eq_true rfl, Nat.le_of_ble_eq_true rfl⟩ (fun ck3 hck3 => ?_)
      refine lv_if_ne (tgt := 33) hx hb dX4_odds_26 (by decide) (fun qck3 => ?_) (fun qck3 => ?_)
      · have hck3 : inP pt := hck3.elim (fun h => h.2) (fun h => absurd h.1 qck3)
        obtain ⟨co, hco, ey⟩ := inC_of hck1
        subst ey
        have ec : cl (nI co) = co := cl_nI (by omega)
        refine lv_aload_n hx hb dX4_odds_33 rfl (lv_at hl 0 rfl) ?_
        refine va_get (D := dd) (ci := 4) (C := RX4) (T := TX4) (N := 4) (v := .ref qk) hx hb hts hiX4 hown hK hP 0 rfl rfl 2 (by decide) (hts (.fieldLink RX4 26 "SliceDrift" "ranks" "LSliceDrift$Ranks;") (by decide +kernel)) (fun _ h9 => h9) rfl dX4_odds_34 ?_
        refine lv_aload_n hx hb dX4_odds_37 rfl (lv_at hl 0 rfl) ?_
        refine va_get (D := dd) (ci := 4) (C := RX4) (T := TX4) (N := 4) (v := .ref qr) hx hb hts hiX4 hown hK hP 0 rfl rfl 0 (by decide) (hts (.fieldLink RX4 10 "SliceDrift" "rows" "LSliceDrift$Rows;") (by decide +kernel)) (fun _ h9 => h9) rfl dX4_odds_38 ?_
        refine lv_iload_n hx hb dX4_odds_41 rfl (lv_at hl 1 rfl) ?_
        refine lv_aload_n hx hb dX4_odds_42 rfl (lv_at hl 0 rfl) ?_
        refine va_get (D := dd) (ci := 4) (C := RX4) (T := TX4) (N := 4) (v := .ref qr) hx hb hts hiX4 hown hK hP 0 rfl rfl 0 (by decide) (hts (.fieldLink RX4 10 "SliceDrift" "rows" "LSliceDrift$Rows;") (by decide +kernel)) (fun _ h9 => h9) rfl dX4_odds_43 ?_
        refine lv_iload_n hx hb dX4_odds_46 rfl (lv_at hl 2 rfl) ?_
        refine lv_iload_n hx hb dX4_odds_47 rfl (lv_at hl 3 rfl) ?_
        refine clVl (As := [.int f, .int b]) (rest := [.int (nI co), .ref qr, .ref qk]) (b := qr) (vc := (RX2, TX2, 4)) ⟨hx, hb, hml, hown, hts⟩ (c_between l dd cyI cyJ cyZ qr qt qh n hi tI hv f b hn) gX4_odds_X2_between (ci := 2) rfl (q0 := 0) rfl (n := 2) rfl ⟨rfl, rfl⟩ (by decide +kernel) ⟨Nat.le_of_ble_eq_true rfl, Nat.le_of_ble_eq_true rfl⟩ hN hK (hP.sub [5, 6, 7] rfl) rfl hl.1 rfl (Nat.le_of_ble_eq_true rfl) dX4_odds_48 ⟨Nat.le_of_ble_eq_true rfl, Nat.le_of_ble_eq_true rfl⟩ (fun r1 hr1 => ?_)
        subst hr1
        refine lv_aload_n hx hb dX4_odds_51 rfl (lv_at hl 0 rfl) ?_
        refine va_get (D := dd) (ci := 4) (C := RX4) (T := TX4) (N := 4) (v := .ref qr) hx hb hts hiX4 hown hK hP 0 rfl rfl 0 (by decide) (hts (.fieldLink RX4 10 "SliceDrift" "rows" "LSliceDrift$Rows;") (by decide +kernel)) (fun _ h9 => h9) rfl dX4_odds_52 ?_
        refine lv_iload_n hx hb dX4_odds_55 rfl (lv_at hl 3 rfl) ?_
        refine lv_iload hx hb dX4_odds_56 (lv_at hl 4 rfl) ?_
        refine clVl (As := [.int b, .int t]) (rest := [.long (lN (mk (win tI f b) n)), .int (nI co), .ref qr, .ref qk]) (b := qr) (vc := (RX2, TX2, 4)) ⟨hx, hb, hml, hown, hts⟩ (c_between l dd cyI cyJ cyZ qr qt qh n hi tI hv b t hn) gX4_odds_X2_between (ci := 2) rfl (q0 := 0) rfl (n := 2) rfl ⟨rfl, rfl⟩ (by decide +kernel) ⟨Nat.le_of_ble_eq_true rfl, Nat.le_of_ble_eq_true rfl⟩ hN hK (hP.sub [5, 6, 7] rfl) rfl hl.1 rfl (Nat.le_of_ble_eq_true rfl) dX4_odds_58 ⟨Nat.le_of_ble_eq_true rfl, Nat.le_of_ble_eq_true rfl⟩ (fun r2 hr2 => ?_)
        subst hr2
        obtain ⟨Ff, eFf⟩ : ∃ Ff, Ff = win tI f b := ⟨_, rfl⟩
        obtain ⟨Gg, eGg⟩ : ∃ Gg, Gg = win tI b t := ⟨_, rfl⟩
        have eO : oddsR n tI sI (nI co) f b t pt = oddsV Ff Gg sI co n pt := by rw [oddsR, if_pos (show inC (nI co) from hck1), if_pos (show inW f b t ∧ inP pt from ⟨hck2, hck3⟩), ec, eFf, eGg]
        rw [eO, ← eFf, ← eGg]
        have n1 : oN Ff sI co n ≤ 480 := Nat.le_trans (ps_le 10 (fun i _ => Nat.le_trans (cs_le _ _ _ _ i) hn)) (by decide)
        have n2 : oN Gg sI co n ≤ 480 := Nat.le_trans (ps_le 10 (fun i _ => Nat.le_trans (cs_le _ _ _ _ i) hn)) (by decide)
        refine clVwv (As := [.ref qr, .int (nI co), .long (lN (mk Ff n)), .long (lN (mk Gg n))]) (rest := []) (b := qk) (vc := (RX1, TX1, 5)) (wr := [(qx, .inr (4, [.ref qr, .ref ql, .ref qk, .ref qa])), (qk3, .inl (cyI, 4221, .inl w0))]) ⟨hx, hb, hml, hown, hts⟩ (fun sz => c_take l dd cyI cyJ cyZ qk qk1 qk2 qk3 x1 x2 qr qt qh n hi tI hv hI sI hR co hco Ff Gg f0 g0 sz) gX4_odds_X1_take (ci := 1) rfl (q0 := 0) rfl (n := 4) rfl ⟨rfl, rfl⟩ (by decide +kernel) ⟨Nat.le_of_ble_eq_true rfl, Nat.le_of_ble_eq_true rfl⟩ hN hK hP hD hS hA [1, 2, 3, 5, 6, 7] [0, 4] rfl rfl (by decide) rfl (by decide) (by decide) rfl hl.1 rfl (Nat.le_of_ble_eq_true rfl) dX4_odds_61 ⟨Nat.le_of_ble_eq_true rfl, Nat.le_of_ble_eq_true rfl⟩ (fun u1 H locs hu1 hP hD hS => ?_)
        have hP : va_P dd vwCl [(qx, .inr (4, [.ref qr, .ref ql, .ref qk, .ref qa])), (qk3, .inl (cyI, 4221, .inl w0)), (qk, .inr (1, [.int (nI (oN Ff sI co n)), .int (nI (oN Gg sI co n)), .ref qk1, .ref qk2, .ref qk3])), (qk1, .inl (cyI, 10, .inl u1.1)), (qk2, .inl (cyI, 10, .inl u1.2)), (qr, .inr (2, [.int (nI n), .long hi, .ref qt, .ref qh])), (qt, .inl (cyI, 48, .inl tI)), (qh, .inl (cyJ, 55, .inr (.inl hv)))] H := hP
        have hD : va_D A [(qx, .inr (4, [.ref qr, .ref ql, .ref qk, .ref qa])), (qk3, .inl (cyI, 4221, .inl w0)), (qk, .inr (1, [.int (nI (oN Ff sI co n)), .int (nI (oN Gg sI co n)), .ref qk1, .ref qk2, .ref qk3])), (qk1, .inl (cyI, 10, .inl u1.1)), (qk2, .inl (cyI, 10, .inl u1.2)), (qr, .inr (2, [.int (nI n), .long hi, .ref qt, .ref qh])), (qt, .inl (cyI, 48, .inl tI)), (qh, .inl (cyJ, 55, .inr (.inl hv)))] := hD
        refine lv_aload_n hx hb dX4_odds_64 rfl (lv_at hl 0 rfl) ?_
        refine va_get (D := dd) (ci := 4) (C := RX4) (T := TX4) (N := 4) (v := .ref qk) hx hb hts hiX4 hown hK hP 0 rfl rfl 2 (by decide) (hts (.fieldLink RX4 26 "SliceDrift" "ranks" "LSliceDrift$Ranks;") (by decide +kernel)) (fun _ h9 => h9) rfl dX4_odds_65 ?_
        refine va_getN (D := dd) (ci := 1) (C := RX1) (T := TX1) (N := 5) (v := .int (nI (oN Ff sI co n))) hx hb hts hiX1 hown hK hP 2 rfl rfl 0 (by decide) (hN.f 1 rfl) (fun _ h9 => h9) rfl dX4_odds_68 ?_
        refine lv_aload_n hx hb dX4_odds_71 rfl (lv_at hl 0 rfl) ?_
        refine va_get (D := dd) (ci := 4) (C := RX4) (T := TX4) (N := 4) (v := .ref qk) hx hb hts hiX4 hown hK hP 0 rfl rfl 2 (by decide) (hts (.fieldLink RX4 26 "SliceDrift" "ranks" "LSliceDrift$Ranks;") (by decide +kernel)) (fun _ h9 => h9) rfl dX4_odds_72 ?_
        refine va_getN (D := dd) (ci := 1) (C := RX1) (T := TX1) (N := 5) (v := .int (nI (oN Gg sI co n))) hx hb hts hiX1 hown hK hP 2 rfl rfl 1 (by decide) (hN.f 2 rfl) (fun _ h9 => h9) rfl dX4_odds_75 ?_
        refine lv_iadd hx hb dX4_odds_78 ?_
        refine tpi (show ((nI (oN Ff sI co n)) + (nI (oN Gg sI co n)) : Int32) = nI (oN Ff sI co n + oN Gg sI co n) from nI_add _ _) ?_
        refine lv_istore (lv' := [(6, .int (nI (oN Ff sI co n + oN Gg sI co n))), (0, .ref qx), (1, .int (nI co)), (2, .int f), (3, .int b), (4, .int t), (5, .int pt)]) hx hb dX4_odds_79 hl (by decide) rfl (fun ls hl => ?_)
        refine lv_iload hx hb dX4_odds_81 (lv_at hl 0 rfl) ?_
        refine lv_bipush (v := 20) hx hb dX4_odds_83 (by decide) ?_
        refine lv_icmp_le (tgt := 92) hx hb dX4_odds_85 (by decide) (fun q => ?_) (fun q => ?_)
        · have h20 : oN Ff sI co n + oN Gg sI co n ≤ 20 := (nI_leI (by omega) (by decide)).mp q
          refine lv_aload_n hx hb dX4_odds_92 rfl (lv_at hl 1 rfl) ?_
          refine va_get (D := dd) (ci := 4) (C := RX4) (T := TX4) (N := 4) (v := .ref qk) hx hb hts hiX4 hown hK hP 0 rfl rfl 2 (by decide) (hts (.fieldLink RX4 26 "SliceDrift" "ranks" "LSliceDrift$Ranks;") (by decide +kernel)) (fun _ h9 => h9) rfl dX4_odds_93 ?_
          refine lv_aload_n hx hb dX4_odds_96 rfl (lv_at hl 1 rfl) ?_
          refine va_get (D := dd) (ci := 4) (C := RX4) (T := TX4) (N := 4) (v := .ref qk) hx hb hts hiX4 hown hK hP 0 rfl rfl 2 (by decide) (hts (.fieldLink RX4 26 "SliceDrift" "ranks" "LSliceDrift$Ranks;") (by decide +kernel)) (fun _ h9 => h9) rfl dX4_odds_97 ?_
          refine clVi (As := []) (rest := [.ref qk]) (b := qk) (vc := (RX1, TX1, 5)) ⟨hx, hb, hml, hown, hts⟩ (c_risen l dd cyI cyJ cyZ qk qk1 qk2 qk3 (nI (oN Ff sI co n)) (nI (oN Gg sI co n)) (cs Ff sI co n) (cs Gg sI co n) u1.1 u1.2 (fun k hk => ⟨⟨(hu1 k hk).1, Nat.le_trans (cs_le _ _ _ _ _) hn⟩, (hu1 k hk).2, Nat.le_trans (cs_le _ _ _ _ _) hn⟩)) gX4_odds_X1_risen (ci := 1) rfl (q0 := 0) rfl (n := 0) rfl ⟨rfl, rfl⟩ (by decide +kernel) ⟨Nat.le_of_ble_eq_true rfl, Nat.le_of_ble_eq_true rfl⟩ hN hK (hP.sub [2, 3, 4] rfl) rfl hl.1 rfl (Nat.le_of_ble_eq_true rfl) dX4_odds_100 ⟨Nat.le_of_ble_eq_true rfl, Nat.le_of_ble_eq_true rfl⟩ (fun r3 h3 => ?_)
          subst h3
          have rb : rsO (cs Ff sI co n) (cs Gg sI co n) 10 < 2 ^ 30 := by rw [rsO_cR]; exact Nat.lt_of_le_of_lt (cR_le (fun k _ => Nat.le_trans (cs_le _ _ _ _ _) hn) (fun k _ => Nat.le_trans (cs_le _ _ _ _ _) hn) 10 (by decide)) (by decide)
          refine clVwi (As := [.int (nI (rsO (cs Ff sI co n) (cs Gg sI co n) 10))]) (rest := []) (b := qk) (vc := (RX1, TX1, 5)) (wr := [(qx, .inr (4, [.ref qr, .ref ql, .ref qk, .ref qa])), (qr, .inr (2, [.int (nI n), .long hi, .ref qt, .ref qh])), (qt, .inl (cyI, 48, .inl tI)), (qh, .inl (cyJ, 55, .inr (.inl hv)))]) ⟨hx, hb, hml, hown, hts⟩ (fun sz => c_waysToRise l dd cyI cyJ cyZ qk qk1 qk2 qk3 (cs Ff sI co n) (cs Gg sI co n) u1.1 u1.2 hu1 (oN Ff sI co n) (oN Gg sI co n) (rsO (cs Ff sI co n) (cs Gg sI co n) 10) rfl rfl h20 rb w0 sz) gX4_odds_X1_waysToRise (ci := 1) rfl (q0 := 0) rfl (n := 1) rfl ⟨rfl, rfl⟩ (by decide +kernel) ⟨Nat.le_of_ble_eq_true rfl, Nat.le_of_ble_eq_true rfl⟩ hN hK hP hD hS hA [2, 3, 4, 1] [0, 5, 6, 7] rfl rfl (by decide) rfl (by decide) (by decide) rfl hl.1 rfl (Nat.le_of_ble_eq_true rfl) dX4_odds_103 ⟨Nat.le_of_ble_eq_true rfl, Nat.le_of_ble_eq_true rfl⟩ (fun r4 u2 H locs hu2 hP hD hS => ?_)
          have hP : va_P dd vwCl [(qx, .inr (4, [.ref qr, .ref ql, .ref qk, .ref qa])), (qr, .inr (2, [.int (nI n), .long hi, .ref qt, .ref qh])), (qt, .inl (cyI, 48, .inl tI)), (qh, .inl (cyJ, 55, .inr (.inl hv))), (qk, .inr (1, [.int (nI (oN Ff sI co n)), .int (nI (oN Gg sI co n)), .ref qk1, .ref qk2, .ref qk3])), (qk1, .inl (cyI, 10, .inl u1.1)), (qk2, .inl (cyI, 10, .inl u1.2)), (qk3, .inl (cyI, 4221, .inl u2))] H := hP
          have hD : va_D A [(qx, .inr (4, [.ref qr, .ref ql, .ref qk, .ref qa])), (qr, .inr (2, [.int (nI n), .long hi, .ref qt, .ref qh])), (qt, .inl (cyI, 48, .inl tI)), (qh, .inl (cyJ, 55, .inr (.inl hv))), (qk, .inr (1, [.int (nI (oN Ff sI co n)), .int (nI (oN Gg sI co n)), .ref qk1, .ref qk2, .ref qk3])), (qk1, .inl (cyI, 10, .inl u1.1)), (qk2, .inl (cyI, 10, .inl u1.2)), (qk3, .inl (cyI, 4221, .inl u2))] := hD
          have hu2 : r4 = nI (oA Ff Gg sI co n) := hu2
          subst hu2
          have ab : oA Ff Gg sI co n < 2 ^ 30 := ris_b (by rw [oC_ps]; exact h20) (by omega)
          obtain ⟨cp, cb⟩ := chs_p (oN Ff sI co n + oN Gg sI co n) (by omega) (oN Ff sI co n) (by omega)
          refine lv_i2l hx hb dX4_odds_106 rfl ?_
          refine tpl (show ((nI (oA Ff Gg sI co n)).toInt64 : Int64) = lI ((oA Ff Gg sI co n : Nat) : Int) from by rw [nI_l (by omega), lN_lI]) ?_
          refine lv_iload hx hb dX4_odds_107 (lv_at hl 0 rfl) ?_
          refine lv_aload_n hx hb dX4_odds_109 rfl (lv_at hl 1 rfl) ?_
          refine va_get (D := dd) (ci := 4) (C := RX4) (T := TX4) (N := 4) (v := .ref qk) hx hb hts hiX4 hown hK hP 0 rfl rfl 2 (by decide) (hts (.fieldLink RX4 26 "SliceDrift" "ranks" "LSliceDrift$Ranks;") (by decide +kernel)) (fun _ h9 => h9) rfl dX4_odds_110 ?_
          refine va_getN (D := dd) (ci := 1) (C := RX1) (T := TX1) (N := 5) (v := .int (nI (oN Ff sI co n))) hx hb hts hiX1 hown hK hP 4 rfl rfl 0 (by decide) (hN.f 1 rfl) (fun _ h9 => h9) rfl dX4_odds_113 ?_
          refine clSi (As := [.int (nI (oN Ff sI co n + oN Gg sI co n)), .int (nI (oN Ff sI co n))]) (rest := [.long (lI ((oA Ff Gg sI co n : Nat) : Int))]) ⟨hx, hb, hml, hown, hts⟩ (c_waysToChoose l dd cyI cyJ cyZ (oN Ff sI co n + oN Gg sI co n) (oN Ff sI co n) h20 (by omega)) gX4_odds_X4_waysToChoose (n := 2) rfl ⟨rfl, rfl⟩ (by decide +kernel) ⟨Nat.le_of_ble_eq_true rfl, Nat.le_of_ble_eq_true rfl⟩ hN hK (hP.sub [] rfl) rfl hl.1 rfl (Nat.le_of_ble_eq_true rfl) dX4_odds_116 ⟨Nat.le_of_ble_eq_true rfl, Nat.le_of_ble_eq_true rfl⟩ (fun r5 h5 => ?_)
          subst h5
          refine lv_i2l hx hb dX4_odds_119 rfl ?_
          refine tpl (show ((nI (chs (oN Ff sI co n + oN Gg sI co n) (oN Ff sI co n))).toInt64 : Int64) = lI ((chs (oN Ff sI co n + oN Gg sI co n) (oN Ff sI co n) : Nat) : Int) from by rw [nI_l (by omega), lN_lI]) ?_
          refine lv_iload hx hb dX4_odds_120 (lv_at hl 6 rfl) ?_
          refine clSl (As := [.long (lI ((oA Ff Gg sI co n : Nat) : Int)), .long (lI ((chs (oN Ff sI co n + oN Gg sI co n) (oN Ff sI co n) : Nat) : Int)), .int pt]) (rest := []) ⟨hx, hb, hml, hown, hts⟩ (c_lowest l dd cyI cyJ cyZ ((oA Ff Gg sI co n : Nat) : Int) ((chs (oN Ff sI co n + oN Gg sI co n) (oN Ff sI co n) : Nat) : Int) pt (by omega) (by omega) (by omega)) gX4_odds_X4_lowest (n := 3) rfl ⟨rfl, rfl⟩ (by decide +kernel) ⟨Nat.le_of_ble_eq_true rfl, Nat.le_of_ble_eq_true rfl⟩ hN hK (hP.sub [] rfl) rfl hl.1 rfl (Nat.le_of_ble_eq_true rfl) dX4_odds_122 ⟨Nat.le_of_ble_eq_true rfl, Nat.le_of_ble_eq_true rfl⟩ (fun rr hrr => ?_)
          exact ewL (_, _, u1.1, u1.2, u2) hx hb hr hlocks hAe hS dX4_odds_125 (by rw [hrr, oddsV, if_neg (by omega)]) (hP.sub [0, 4, 5, 6, 7, 1, 2, 3] rfl) (hD.sub [0, 4, 5, 6, 7, 1, 2, 3] (by decide) rfl)
        · refine lv_ldc2 (v := (-1000003)) hx hb hown (hts (.constantLong RX4 170 (-1000003)) (by decide +kernel)) dX4_odds_88 ?_
          exact ewL (_, _, u1.1, u1.2, w0) hx hb hr hlocks hAe hS dX4_odds_91 (by rw [oddsV, if_pos (Nat.lt_of_not_le (fun h => q (nI_le h (by decide))))]) (hP.sub [0, 2, 3, 4, 1, 5, 6, 7] rfl) (hD.sub [0, 2, 3, 4, 1, 5, 6, 7] (by decide) rfl)
      · have hck3 : ¬ (inP pt) := hck3.elim (fun h => absurd (h.1.symm.trans qck3) (by decide)) (fun h => h.2)
        refine lv_ldc2 (v := (-1000002)) hx hb hown (hts (.constantLong RX4 114 (-1000002)) (by decide +kernel)) dX4_odds_29 ?_
        exact ewL (x1, x2, f0, g0, w0) hx hb hr hlocks hAe hS dX4_odds_32 (by rw [oddsR, if_pos hck1, if_neg (fun x : inW f b t ∧ inP pt => hck3 x.2)]) (hP.sub [0, 1, 2, 3, 4, 5, 6, 7] rfl) (hD.sub [0, 1, 2, 3, 4, 5, 6, 7] (by decide) rfl)
  · have hck1 : ¬ (inC y) := hck1.elim (fun h => absurd (h.1.symm.trans qck1) (by decide)) (fun h => h.2)
    refine lv_ldc2 (v := (-1000001)) hx hb hown (hts (.constantLong RX4 109 (-1000001)) (by decide +kernel)) dX4_odds_7 ?_
    exact ewL (x1, x2, f0, g0, w0) hx hb hr hlocks hAe hS dX4_odds_10 (by rw [oddsR, if_neg hck1]) (hP.sub [0, 1, 2, 3, 4, 5, 6, 7] rfl) (hD.sub [0, 1, 2, 3, 4, 5, 6, 7] (by decide) rfl)
