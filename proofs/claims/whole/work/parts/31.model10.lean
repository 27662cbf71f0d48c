theorem one1_ref {hm lt : Nat} {w : Nat → Nat} {two : Bool} {f : Nat} {L : Ls} : one1 hm lt w two f L = if two = true then prs hm lt w f (55 - nx f) (nx f) (jd hm lt (w f) f 0 L) else jd hm lt (w f) f 0 L := by
  unfold one1
  by_cases h : lt ≤ pop (w f)
  · rw [if_pos h, jd_y h]
  · rw [if_neg h, jd_n h, prs_id (fun g q => h (Nat.le_trans q.1 (pop_and _ _)))]
    split <;> rfl
theorem pop0 : pop 0 = 0 := by decide
theorem pop_0 {x : Nat} (h : x = 0) : pop x = 0 := by rw [h]; exact pop0
theorem pall_w {Q Q2 : En → Prop} {L : Ls} (h : PAll Q L) (k : ∀ x, Q x → Q2 x) : PAll Q2 L := fun j hj => k _ (h j hj)
theorem jd_all {Q : En → Prop} {hm lt x f g : Nat} {L : Ls} (h : PAll Q L) (hx : Q (x, f, g)) : PAll Q (jd hm lt x f g L) := by
  unfold jd
  split
  · exact ins1_all h hx
  · exact h
theorem jd_srt {hm lt x f g : Nat} {L : Ls} (h : Srt hm L.2 L.1) : Srt hm (jd hm lt x f g L).2 (jd hm lt x f g L).1 := by
  unfold jd
  split
  · exact srt1 h
  · exact h
theorem hvM_eq (sI : Nat → Int32) (n : Nat) {a0 s0 : Nat} (hs : s0 < 11) : mk (hav sI a0 s0) n = hvM sI n (11 * a0 + s0) := by
  unfold hvM
  rw [show (11 * a0 + s0) / 11 = a0 by omega, show (11 * a0 + s0) % 11 = s0 by omega]
theorem dv11 {a0 s0 : Nat} (hs : s0 < 11) : nI a0 = nI ((11 * a0 + s0) / 11) := by rw [show (11 * a0 + s0) / 11 = a0 by omega]
theorem md11 {a0 s0 : Nat} (hs : s0 < 11) : nI s0 = nI ((11 * a0 + s0) % 11) := by rw [show (11 * a0 + s0) % 11 = s0 by omega]
theorem c2_s {b0 t0 : Nat} (hs : t0 < 11) : nI b0 = c2 (11 * b0 + t0 + 1) := by unfold c2; rw [if_neg (by omega), show (11 * b0 + t0 + 1 - 1) / 11 = b0 by omega]
theorem s2_s {b0 t0 : Nat} (hs : t0 < 11) : nI t0 = s2 (11 * b0 + t0 + 1) := by unfold s2; rw [if_neg (by omega), show (11 * b0 + t0 + 1 - 1) % 11 = t0 by omega]

set_option maxHeartbeats 4000000 in
set_option maxRecDepth 100000 in
theorem r_slices (l : Launch) (dd : va_G) (cyI cyJ cyZ : ClassId) (qm : Nat) (a : Nat → Nat) (th fm sm : Int32) (ab be : Int64) (st al : Int32) (n : Nat) (hn : n ≤ 48) (hI sI : Nat → Int32) (hm : Nat) (Lc : Ls) (u0 : RA) (hE : LstR hm Lc u0) (x y : Int32) (sz : Nat) : Met l yX5_slices wsX5_slices ({ frames := 2, cells := 0, slots := 0, locals := 100 } : Room) (va_Pc [.ref qm, .int x, .int y] (Wr dd [(cyI, .int), (cyJ, .long), (cyZ, .boolean)] [(qm, .inr (5, mo a th (nI n) (nI Lc.1) fm sm ab be st al)), (a 3, .inl (cyZ, 48, .inl hI)), (a 4, .inl (cyI, 240, .inl sI)), (a 6, .inl (cyI, 700, .inl u0.1)), (a 7, .inl (cyI, 700, .inl u0.2.1)), (a 8, .inl (cyI, 700, .inl u0.2.2.1)), (a 9, .inl (cyI, 700, .inl u0.2.2.2.1)), (a 10, .inl (cyJ, 700, .inr (.inl u0.2.2.2.2.1))), (a 11, .inl (cyI, 700, .inl u0.2.2.2.2.2.1)), (a 12, .inl (cyI, 700, .inl u0.2.2.2.2.2.2))] sz)) (va_Qi (S := RA) (fun (r : Int32) (u : RA) => r = slR n hI sI x y ∧ LstR (slN n hI sI x y hm Lc).1 (slN n hI sI x y hm Lc).2 u) (WQ dd [(qm, .inr (5, mo a th (nI n) (nI Lc.1) fm sm ab be st al)), (a 3, .inl (cyZ, 48, .inl hI)), (a 4, .inl (cyI, 240, .inl sI)), (a 6, .inl (cyI, 700, .inl u0.1)), (a 7, .inl (cyI, 700, .inl u0.2.1)), (a 8, .inl (cyI, 700, .inl u0.2.2.1)), (a 9, .inl (cyI, 700, .inl u0.2.2.2.1)), (a 10, .inl (cyJ, 700, .inr (.inl u0.2.2.2.2.1))), (a 11, .inl (cyI, 700, .inl u0.2.2.2.2.2.1)), (a 12, .inl (cyI, 700, .inl u0.2.2.2.2.2.2))] sz (fun u => [(qm, .inr (5, mo a 0 (nI n) (nI (slN n hI sI x y hm Lc).2.1) fm sm ab be st al)), (a 3, .inl (cyZ, 48, .inl hI)), (a 4, .inl (cyI, 240, .inl sI)), (a 6, .inl (cyI, 700, .inl u.1)), (a 7, .inl (cyI, 700, .inl u.2.1)), (a 8, .inl (cyI, 700, .inl u.2.2.1)), (a 9, .inl (cyI, 700, .inl u.2.2.2.1)), (a 10, .inl (cyJ, 700, .inr (.inl u.2.2.2.2.1))), (a 11, .inl (cyI, 700, .inl u.2.2.2.2.2.1)), (a 12, .inl (cyI, 700, .inl u.2.2.2.2.2.2))])) (va_A [(qm, .inr (5, mo a th (nI n) (nI Lc.1) fm sm ab be st al)), (a 3, .inl (cyZ, 48, .inl hI)), (a 4, .inl (cyI, 240, .inl sI)), (a 6, .inl (cyI, 700, .inl u0.1)), (a 7, .inl (cyI, 700, .inl u0.2.1)), (a 8, .inl (cyI, 700, .inl u0.2.2.1)), (a 9, .inl (cyI, 700, .inl u0.2.2.2.1)), (a 10, .inl (cyJ, 700, .inr (.inl u0.2.2.2.2.1))), (a 11, .inl (cyI, 700, .inl u0.2.2.2.2.2.1)), (a 12, .inl (cyI, 700, .inl u0.2.2.2.2.2.2))] sz)) 0 0 (va_A [(qm, .inr (5, mo a th (nI n) (nI Lc.1) fm sm ab be st al)), (a 3, .inl (cyZ, 48, .inl hI)), (a 4, .inl (cyI, 240, .inl sI)), (a 6, .inl (cyI, 700, .inl u0.1)), (a 7, .inl (cyI, 700, .inl u0.2.1)), (a 8, .inl (cyI, 700, .inl u0.2.2.1)), (a 9, .inl (cyI, 700, .inl u0.2.2.2.1)), (a 10, .inl (cyJ, 700, .inr (.inl u0.2.2.2.2.1))), (a 11, .inl (cyI, 700, .inl u0.2.2.2.2.2.1)), (a 12, .inl (cyI, 700, .inl u0.2.2.2.2.2.2))] sz) := by
  refine mkW (Qc := fun A => (va_Qi (S := RA) (fun (r : Int32) (u : RA) => r = slR n hI sI x y ∧ LstR (slN n hI sI x y hm Lc).1 (slN n hI sI x y hm Lc).2 u) (WQ dd [(qm, .inr (5, mo a th (nI n) (nI Lc.1) fm sm ab be st al)), (a 3, .inl (cyZ, 48, .inl hI)), (a 4, .inl (cyI, 240, .inl sI)), (a 6, .inl (cyI, 700, .inl u0.1)), (a 7, .inl (cyI, 700, .inl u0.2.1)), (a 8, .inl (cyI, 700, .inl u0.2.2.1)), (a 9, .inl (cyI, 700, .inl u0.2.2.2.1)), (a 10, .inl (cyJ, 700, .inr (.inl u0.2.2.2.2.1))), (a 11, .inl (cyI, 700, .inl u0.2.2.2.2.2.1)), (a 12, .inl (cyI, 700, .inl u0.2.2.2.2.2.2))] sz (fun u => [(qm, .inr (5, mo a 0 (nI n) (nI (slN n hI sI x y hm Lc).2.1) fm sm ab be st al)), (a 3, .inl (cyZ, 48, .inl hI)), (a 4, .inl (cyI, 240, .inl sI)), (a 6, .inl (cyI, 700, .inl u.1)), (a 7, .inl (cyI, 700, .inl u.2.1)), (a 8, .inl (cyI, 700, .inl u.2.2.1)), (a 9, .inl (cyI, 700, .inl u.2.2.2.1)), (a 10, .inl (cyJ, 700, .inr (.inl u.2.2.2.2.1))), (a 11, .inl (cyI, 700, .inl u.2.2.2.2.2.1)), (a 12, .inl (cyI, 700, .inl u.2.2.2.2.2.2))])) A)) (cc := cX5_slices) (maxL := 13) (by decide) rfl (Nat.le_of_ble_eq_true rfl) (lv0 := [(0, .ref qm), (1, .int x), (2, .int y)]) rfl ?_
  intro p e s m below meth c ls H A hx hb hr hml hown hlocks hts hmn hN hP hK hD hS hA hAe hl
  have hown : s.vm.findClass RX5 = some m.cls := hown
  have hiX5 : ∀ w ∈ wsX50, w ∈ wsX5_slices := by decide +kernel
  refine lv_aload_n hx hb dX5_slices_0 rfl (lv_at hl 0 rfl) ?_
  refine lv_iconst (v := 0) hx hb dX5_slices_1 (by decide) ?_
  refine va_put (D := dd) (ci := 5) (v := .int 0) (ty := .int) (C := RX5) (T := TX5) (N := 30) hx hb hts hiX5 tyX5 tyX5_ok nmX5 hown hK hP hD hS 0 rfl rfl 0 (by decide) (hts (.fieldLink RX5 75 "SliceDriftModel" "thrown" "I") (by decide +kernel)) (fun _ h9 => h9) rfl (by decide +kernel) rfl rfl (Nat.le_of_ble_eq_true rfl) dX5_slices_2 (fun H locs hP hD hS => ?_)
  have hP : va_P dd vwCl [(qm, .inr (5, mo a 0 (nI n) (nI Lc.1) fm sm ab be st al)), (a 3, .inl (cyZ, 48, .inl hI)), (a 4, .inl (cyI, 240, .inl sI)), (a 6, .inl (cyI, 700, .inl u0.1)), (a 7, .inl (cyI, 700, .inl u0.2.1)), (a 8, .inl (cyI, 700, .inl u0.2.2.1)), (a 9, .inl (cyI, 700, .inl u0.2.2.2.1)), (a 10, .inl (cyJ, 700, .inr (.inl u0.2.2.2.2.1))), (a 11, .inl (cyI, 700, .inl u0.2.2.2.2.2.1)), (a 12, .inl (cyI, 700, .inl u0.2.2.2.2.2.2))] H := hP
  have hD : va_D A [(qm, .inr (5, mo a 0 (nI n) (nI Lc.1) fm sm ab be st al)), (a 3, .inl (cyZ, 48, .inl hI)), (a 4, .inl (cyI, 240, .inl sI)), (a 6, .inl (cyI, 700, .inl u0.1)), (a 7, .inl (cyI, 700, .inl u0.2.1)), (a 8, .inl (cyI, 700, .inl u0.2.2.1)), (a 9, .inl (cyI, 700, .inl u0.2.2.2.1)), (a 10, .inl (cyJ, 700, .inr (.inl u0.2.2.2.2.1))), (a 11, .inl (cyI, 700, .inl u0.2.2.2.2.2.1)), (a 12, .inl (cyI, 700, .inl u0.2.2.2.2.2.2))] := hD
  refine lv_iload_n hx hb dX5_slices_5 rfl (lv_at hl 1 rfl) ?_
  refine lv_iconst (v := 1) hx hb dX5_slices_6 (by decide) ?_
  refine lv_bipush (v := 48) hx hb dX5_slices_7 (by decide) ?_
  refine clSi (As := [.int x, .int 1, .int 48]) (rest := []) ⟨hx, hb, hml, hown, hts⟩ (r_in l dd cyI cyJ cyZ x 1 48) gX5_slices_X5_in (n := 3) rfl ⟨rfl, rfl⟩ (by decide +kernel) ⟨Nat.le_of_ble_eq_true rfl, Nat.le_of_ble_eq_true rfl⟩ hN hK (hP.sub [] rfl) rfl hl.1 rfl (Nat.le_of_ble_eq_true rfl) dX5_slices_9 ⟨Nat.le_of_ble_eq_true rfl, Nat.le_of_ble_eq_true rfl⟩ (fun ck1 hck1 => ?_)
  refine lv_if_eq (tgt := 24) hx hb dX5_slices_12 (by decide) (fun qck1 => ?_) (fun qck1 => ?_)
  · have hck1 : ¬ (1 ≤ x ∧ x ≤ 48) := hck1.elim (fun h => absurd (h.1.symm.trans qck1) (by decide)) (fun h => h.2)
    refine lv_ldc (v := (-1000002)) hx hb hown (hts (.constant RX5 83 (-1000002)) (by decide +kernel)) dX5_slices_24 ?_
    have eN : slN n hI sI x y hm Lc = (hm, Lc) := by unfold slN; rw [if_neg (fun q : slOk x y => hck1 q.1)]
    have er : slR n hI sI x y = -1000002 := by unfold slR; rw [if_neg (fun q : slOk x y => hck1 q.1)]
    rw [eN, er]
    exact ewI u0 hx hb hr hlocks hAe hS dX5_slices_26 (⟨rfl, hE⟩) (hP.sub [0, 1, 2, 3, 4, 5, 6, 7, 8, 9] rfl) (hD.sub [0, 1, 2, 3, 4, 5, 6, 7, 8, 9] (by decide) rfl)
  · have hck1 : 1 ≤ x ∧ x ≤ 48 := hck1.elim (fun h => h.2) (fun h => absurd h.1 qck1)
    refine lv_iload_n hx hb dX5_slices_15 rfl (lv_at hl 2 rfl) ?_
    refine lv_iconst (v := 1) hx hb dX5_slices_16 (by decide) ?_
    refine lv_iconst (v := 2) hx hb dX5_slices_17 (by decide) ?_
    refine clSi (As := [.int y, .int 1, .int 2]) (rest := []) ⟨hx, hb, hml, hown, hts⟩ (r_in l dd cyI cyJ cyZ y 1 2) gX5_slices_X5_in (n := 3) rfl ⟨rfl, rfl⟩ (by decide +kernel) ⟨Nat.le_of_ble_eq_true rfl, Nat.le_of_ble_eq_true rfl⟩ hN hK (hP.sub [] rfl) rfl hl.1 rfl (Nat.le_of_ble_eq_true rfl) dX5_slices_18 ⟨Nat.le_of_ble_eq_true rfl, Nat.le_of_ble_eq_true rfl⟩ (fun ck2 hck2 => ?_)
    refine lv_if_ne (tgt := 27) hx hb dX5_slices_21 (by decide) (fun qck2 => ?_) (fun qck2 => ?_)
    · have hck2 : 1 ≤ y ∧ y ≤ 2 := hck2.elim (fun h => h.2) (fun h => absurd h.1 qck2)
      have ok : slOk x y := ⟨hck1, hck2⟩
      obtain ⟨lt, l1, l2, ex⟩ := rng1 (N := 48) (by decide) hck1
      subst ex
      have e1 : cl (nI lt) = lt := cl_nI (by omega)
      have eN : slN n hI sI (nI lt) y hm Lc = (mk (hit hI) n, mks (mk (hit hI) n) lt (hvM sI n) (decide (y = 2)) 55 0 L0) := by unfold slN; rw [if_pos ok, e1]
      have er : slR n hI sI (nI lt) y = nI (mks (mk (hit hI) n) lt (hvM sI n) (decide (y = 2)) 55 0 L0).1 := by unfold slR; rw [if_pos ok, e1]
      rw [eN, er]
      obtain ⟨two, etw⟩ : ∃ two, two = decide (y = 2) := ⟨_, rfl⟩
      rw [← etw]
      obtain ⟨h0, eh0⟩ : ∃ h0, h0 = mk (hit hI) n := ⟨_, rfl⟩
      have hB := mks_535 h0 l1 sI hn two
      rw [← eh0]
      obtain ⟨w, ew⟩ : ∃ w, w = hvM sI n := ⟨_, rfl⟩
      rw [← ew] at hB ⊢
      have w48 : ∀ i, w i < 2 ^ 48 := fun i => by rw [ew]; exact hvM_48 sI hn i
      obtain ⟨FN, eF⟩ : ∃ FN, FN = mks h0 lt w two 55 0 L0 := ⟨_, rfl⟩
      rw [← eF] at hB ⊢
      refine lv_aload_n hx hb dX5_slices_27 rfl (lv_at hl 0 rfl) ?_
      refine lv_iconst (v := 0) hx hb dX5_slices_28 (by decide) ?_
      refine va_put (D := dd) (ci := 5) (v := .int 0) (ty := .int) (C := RX5) (T := TX5) (N := 30) hx hb hts hiX5 tyX5 tyX5_ok nmX5 hown hK hP hD hS 0 rfl rfl 5 (by decide) (hts (.fieldLink RX5 100 "SliceDriftModel" "listed" "I") (by decide +kernel)) (fun _ h9 => h9) rfl (by decide +kernel) rfl rfl (Nat.le_of_ble_eq_true rfl) dX5_slices_29 (fun H locs hP hD hS => ?_)
      have hP : va_P dd vwCl [(qm, .inr (5, mo a 0 (nI n) 0 fm sm ab be st al)), (a 3, .inl (cyZ, 48, .inl hI)), (a 4, .inl (cyI, 240, .inl sI)), (a 6, .inl (cyI, 700, .inl u0.1)), (a 7, .inl (cyI, 700, .inl u0.2.1)), (a 8, .inl (cyI, 700, .inl u0.2.2.1)), (a 9, .inl (cyI, 700, .inl u0.2.2.2.1)), (a 10, .inl (cyJ, 700, .inr (.inl u0.2.2.2.2.1))), (a 11, .inl (cyI, 700, .inl u0.2.2.2.2.2.1)), (a 12, .inl (cyI, 700, .inl u0.2.2.2.2.2.2))] H := hP
      have hD : va_D A [(qm, .inr (5, mo a 0 (nI n) 0 fm sm ab be st al)), (a 3, .inl (cyZ, 48, .inl hI)), (a 4, .inl (cyI, 240, .inl sI)), (a 6, .inl (cyI, 700, .inl u0.1)), (a 7, .inl (cyI, 700, .inl u0.2.1)), (a 8, .inl (cyI, 700, .inl u0.2.2.1)), (a 9, .inl (cyI, 700, .inl u0.2.2.2.1)), (a 10, .inl (cyJ, 700, .inr (.inl u0.2.2.2.2.1))), (a 11, .inl (cyI, 700, .inl u0.2.2.2.2.2.1)), (a 12, .inl (cyI, 700, .inl u0.2.2.2.2.2.2))] := hD
      refine lv_iconst (v := 0) hx hb dX5_slices_32 (by decide) ?_
      refine lv_istore_n (lv' := [(3, .int 0), (0, .ref qm), (1, .int (nI lt)), (2, .int y)]) hx hb dX5_slices_33 rfl hl (by decide) rfl (fun ls hl => ?_)
      have loop : ∀ (k : Nat) (a0 : Nat) (Lb : Ls) (u : RA) (H : Heap) (locs : List Loc), a0 + k = 5 → mks h0 lt w two (55 - 11 * a0) (11 * a0) Lb = mks h0 lt w two 55 0 L0 → LstR h0 Lb u → Srt h0 Lb.2 Lb.1 → PAll (fun e => e.2.1 < 11 * a0) Lb → va_P dd vwCl [(qm, .inr (5, mo a 0 (nI n) (nI Lb.1) fm sm ab be st al)), (a 3, .inl (cyZ, 48, .inl hI)), (a 4, .inl (cyI, 240, .inl sI)), (a 6, .inl (cyI, 700, .inl u.1)), (a 7, .inl (cyI, 700, .inl u.2.1)), (a 8, .inl (cyI, 700, .inl u.2.2.1)), (a 9, .inl (cyI, 700, .inl u.2.2.2.1)), (a 10, .inl (cyJ, 700, .inr (.inl u.2.2.2.2.1))), (a 11, .inl (cyI, 700, .inl u.2.2.2.2.2.1)), (a 12, .inl (cyI, 700, .inl u.2.2.2.2.2.2))] H → va_D A [(qm, .inr (5, mo a 0 (nI n) (nI Lb.1) fm sm ab be st al)), (a 3, .inl (cyZ, 48, .inl hI)), (a 4, .inl (cyI, 240, .inl sI)), (a 6, .inl (cyI, 700, .inl u.1)), (a 7, .inl (cyI, 700, .inl u.2.1)), (a 8, .inl (cyI, 700, .inl u.2.2.1)), (a 9, .inl (cyI, 700, .inl u.2.2.2.1)), (a 10, .inl (cyJ, 700, .inr (.inl u.2.2.2.2.1))), (a 11, .inl (cyI, 700, .inl u.2.2.2.2.2.1)), (a 12, .inl (cyI, 700, .inl u.2.2.2.2.2.2))] → va_S A s.heap H locs → ∀ ls : Array Slot, lv_has ls 13 [(3, .int (nI a0)), (0, .ref qm), (1, .int (nI lt)), (2, .int y)] → W p l e ({ frames := 2, cells := 0, slots := 0, locals := 100 } : Room) s m ([.ref qm, .int (nI lt), .int y] : List Value).toArray below meth c H locs 0 0 (MQ below (va_Qi (S := RA) (fun (r : Int32) (u : RA) => r = nI FN.1 ∧ LstR ((h0, FN)).1 ((h0, FN)).2 u) (WQ dd [(qm, .inr (5, mo a th (nI n) (nI Lc.1) fm sm ab be st al)), (a 3, .inl (cyZ, 48, .inl hI)), (a 4, .inl (cyI, 240, .inl sI)), (a 6, .inl (cyI, 700, .inl u0.1)), (a 7, .inl (cyI, 700, .inl u0.2.1)), (a 8, .inl (cyI, 700, .inl u0.2.2.1)), (a 9, .inl (cyI, 700, .inl u0.2.2.2.1)), (a 10, .inl (cyJ, 700, .inr (.inl u0.2.2.2.2.1))), (a 11, .inl (cyI, 700, .inl u0.2.2.2.2.2.1)), (a 12, .inl (cyI, 700, .inl u0.2.2.2.2.2.2))] sz (fun u => [(qm, .inr (5, mo a 0 (nI n) (nI ((h0, FN)).2.1) fm sm ab be st al)), (a 3, .inl (cyZ, 48, .inl hI)), (a 4, .inl (cyI, 240, .inl sI)), (a 6, .inl (cyI, 700, .inl u.1)), (a 7, .inl (cyI, 700, .inl u.2.1)), (a 8, .inl (cyI, 700, .inl u.2.2.1)), (a 9, .inl (cyI, 700, .inl u.2.2.2.1)), (a 10, .inl (cyJ, 700, .inr (.inl u.2.2.2.2.1))), (a 11, .inl (cyI, 700, .inl u.2.2.2.2.2.1)), (a 12, .inl (cyI, 700, .inl u.2.2.2.2.2.2))])) A) ([.ref qm, .int (nI lt), .int y] : List Value).toArray s 0 0 A) (F0 m 34 ls []) := by
        intro k
        induction k with
        | zero =>
          intro a0 Lb u H locs ha0 he hE1 hs1 hx1 hP hD hS ls hl
          refine lv_iload_n hx hb dX5_slices_34 rfl (lv_at hl 0 rfl) ?_
          refine lv_iconst (v := 5) hx hb dX5_slices_35 (by decide) ?_
          refine lv_icmp_ge (tgt := 181) hx hb dX5_slices_36 (by decide) (fun q => ?_) (fun q => ?_)
          · have he : Lb = FN := by rw [eF, ← he, show 55 - 11 * a0 = 0 by omega]; rfl
            subst he
            refine lv_aload_n hx hb dX5_slices_181 rfl (lv_at hl 1 rfl) ?_
            refine va_get (D := dd) (ci := 5) (C := RX5) (T := TX5) (N := 30) (v := .int (nI Lb.1)) hx hb hts hiX5 hown hK hP 0 rfl rfl 5 (by decide) (hts (.fieldLink RX5 100 "SliceDriftModel" "listed" "I") (by decide +kernel)) (fun _ h9 => h9) rfl dX5_slices_182 ?_
            exact ewI u hx hb hr hlocks hAe hS dX5_slices_185 (⟨rfl, hE1⟩) (hP.sub [0, 1, 2, 3, 4, 5, 6, 7, 8, 9] rfl) (hD.sub [0, 1, 2, 3, 4, 5, 6, 7, 8, 9] (by decide) rfl)
          · exact absurd (nI_le (show 5 ≤ a0 by omega) (by omega)) q
        | succ k ih =>
          intro a0 Lb u H locs ha0 he hE1 hs1 hx1 hP hD hS ls hl
          refine lv_iload_n hx hb dX5_slices_34 rfl (lv_at hl 0 rfl) ?_
          refine lv_iconst (v := 5) hx hb dX5_slices_35 (by decide) ?_
          refine lv_icmp_ge (tgt := 181) hx hb dX5_slices_36 (by decide) (fun q => ?_) (fun q => ?_)
          · exact absurd q (nI_ge (show a0 < 5 by omega) (by decide))
          · refine lv_iconst (v := 0) hx hb dX5_slices_39 (by decide) ?_
            refine lv_istore (lv' := [(4, .int 0), (3, .int (nI a0)), (0, .ref qm), (1, .int (nI lt)), (2, .int y)]) hx hb dX5_slices_40 hl (by decide) rfl (fun ls hl => ?_)
            have loop2 : ∀ (k2 : Nat) (s0 : Nat) (Lq : Ls) (u2 : RA) (H : Heap) (locs : List Loc), s0 + k2 = 11 → mks h0 lt w two (55 - (11 * a0 + s0)) (11 * a0 + s0) Lq = mks h0 lt w two 55 0 L0 → LstR h0 Lq u2 → Srt h0 Lq.2 Lq.1 → PAll (fun e => e.2.1 < 11 * a0 + s0) Lq → va_P dd vwCl [(qm, .inr (5, mo a 0 (nI n) (nI Lq.1) fm sm ab be st al)), (a 3, .inl (cyZ, 48, .inl hI)), (a 4, .inl (cyI, 240, .inl sI)), (a 6, .inl (cyI, 700, .inl u2.1)), (a 7, .inl (cyI, 700, .inl u2.2.1)), (a 8, .inl (cyI, 700, .inl u2.2.2.1)), (a 9, .inl (cyI, 700, .inl u2.2.2.2.1)), (a 10, .inl (cyJ, 700, .inr (.inl u2.2.2.2.2.1))), (a 11, .inl (cyI, 700, .inl u2.2.2.2.2.2.1)), (a 12, .inl (cyI, 700, .inl u2.2.2.2.2.2.2))] H → va_D A [(qm, .inr (5, mo a 0 (nI n) (nI Lq.1) fm sm ab be st al)), (a 3, .inl (cyZ, 48, .inl hI)), (a 4, .inl (cyI, 240, .inl sI)), (a 6, .inl (cyI, 700, .inl u2.1)), (a 7, .inl (cyI, 700, .inl u2.2.1)), (a 8, .inl (cyI, 700, .inl u2.2.2.1)), (a 9, .inl (cyI, 700, .inl u2.2.2.2.1)), (a 10, .inl (cyJ, 700, .inr (.inl u2.2.2.2.2.1))), (a 11, .inl (cyI, 700, .inl u2.2.2.2.2.2.1)), (a 12, .inl (cyI, 700, .inl u2.2.2.2.2.2.2))] → va_S A s.heap H locs → ∀ ls : Array Slot, lv_has ls 13 [(4, .int (nI s0)), (3, .int (nI a0)), (0, .ref qm), (1, .int (nI lt)), (2, .int y)] → W p l e ({ frames := 2, cells := 0, slots := 0, locals := 100 } : Room) s m ([.ref qm, .int (nI lt), .int y] : List Value).toArray below meth c H locs 0 0 (MQ below (va_Qi (S := RA) (fun (r : Int32) (u : RA) => r = nI FN.1 ∧ LstR ((h0, FN)).1 ((h0, FN)).2 u) (WQ dd [(qm, .inr (5, mo a th (nI n) (nI Lc.1) fm sm ab be st al)), (a 3, .inl (cyZ, 48, .inl hI)), (a 4, .inl (cyI, 240, .inl sI)), (a 6, .inl (cyI, 700, .inl u0.1)), (a 7, .inl (cyI, 700, .inl u0.2.1)), (a 8, .inl (cyI, 700, .inl u0.2.2.1)), (a 9, .inl (cyI, 700, .inl u0.2.2.2.1)), (a 10, .inl (cyJ, 700, .inr (.inl u0.2.2.2.2.1))), (a 11, .inl (cyI, 700, .inl u0.2.2.2.2.2.1)), (a 12, .inl (cyI, 700, .inl u0.2.2.2.2.2.2))] sz (fun u => [(qm, .inr (5, mo a 0 (nI n) (nI ((h0, FN)).2.1) fm sm ab be st al)), (a 3, .inl (cyZ, 48, .inl hI)), (a 4, .inl (cyI, 240, .inl sI)), (a 6, .inl (cyI, 700, .inl u.1)), (a 7, .inl (cyI, 700, .inl u.2.1)), (a 8, .inl (cyI, 700, .inl u.2.2.1)), (a 9, .inl (cyI, 700, .inl u.2.2.2.1)), (a 10, .inl (cyJ, 700, .inr (.inl u.2.2.2.2.1))), (a 11, .inl (cyI, 700, .inl u.2.2.2.2.2.1)), (a 12, .inl (cyI, 700, .inl u.2.2.2.2.2.2))])) A) ([.ref qm, .int (nI lt), .int y] : List Value).toArray s 0 0 A) (F0 m 42 ls []) := by
              intro k2
              induction k2 with
              | zero =>
                intro s0 Lq u2 H locs hs0 he2 hE2 hs2 hx2 hP hD hS ls hl
                refine lv_iload hx hb dX5_slices_42 (lv_at hl 0 rfl) ?_
                refine lv_bipush (v := 11) hx hb dX5_slices_44 (by decide) ?_
                refine lv_icmp_ge (tgt := 175) hx hb dX5_slices_46 (by decide) (fun q2 => ?_) (fun q2 => ?_)
                · refine lv_iinc (v := nI (a0 + 1)) (lv' := [(3, .int (nI (a0 + 1))), (4, .int (nI s0)), (0, .ref qm), (1, .int (nI lt)), (2, .int y)]) hx hb dX5_slices_175 hl (k := 1) rfl (nI_1 a0) (by decide) rfl (fun ls hl => ?_)
                  refine lv_goto (tgt := 34) hx hb dX5_slices_178 (by decide) ?_
                  exact ih (a0 + 1) Lq u2 H locs (by omega) (by rw [← he2, show 55 - 11 * (a0 + 1) = 55 - (11 * a0 + s0) by omega, show 11 * (a0 + 1) = 11 * a0 + s0 by omega]) hE2 hs2 (pall_w hx2 (fun _ h => by omega)) hP hD hS ls (lv_sub hl [0, 2, 3, 4] rfl)
                · exact absurd (nI_le (show 11 ≤ s0 by omega) (by omega)) q2
              | succ k2 ih2 =>
                intro s0 Lq u2 H locs hs0 he2 hE2 hs2 hx2 hP hD hS ls hl
                refine lv_iload hx hb dX5_slices_42 (lv_at hl 0 rfl) ?_
                refine lv_bipush (v := 11) hx hb dX5_slices_44 (by decide) ?_
                refine lv_icmp_ge (tgt := 175) hx hb dX5_slices_46 (by decide) (fun q2 => ?_) (fun q2 => ?_)
                · exact absurd q2 (nI_ge (show s0 < 11 by omega) (by decide))
                · obtain ⟨f, ef⟩ : ∃ f, f = 11 * a0 + s0 := ⟨_, rfl⟩
                  have hf : f < 55 := by omega
                  rw [← ef] at he2 hx2
                  rw [show 55 - f = (54 - f) + 1 by omega, mks] at he2
                  have hge := mks_ge h0 lt w two (54 - f) (f + 1) (one1 h0 lt w two f Lq)
                  rw [he2, ← eF] at hge
                  have hg0 := one1_ge h0 lt w two f Lq
                  refine lv_aload_n hx hb dX5_slices_49 rfl (lv_at hl 2 rfl) ?_
                  refine lv_iload_n hx hb dX5_slices_50 rfl (lv_at hl 1 rfl) ?_
                  refine lv_iload hx hb dX5_slices_51 (lv_at hl 0 rfl) ?_
                  refine clVl (As := [.int (nI a0), .int (nI s0)]) (rest := []) (b := qm) (vc := (RX5, TX5, 30)) ⟨hx, hb, hml, hown, hts⟩ (r_rowsOf l dd cyI cyJ cyZ qm a 0 (nI Lq.1) fm sm ab be st al n hn sI a0 s0 (by omega)) gX5_slices_X5_rowsOf (ci := 5) rfl (q0 := 0) rfl (n := 2) rfl ⟨rfl, rfl⟩ (by decide +kernel) ⟨Nat.le_of_ble_eq_true rfl, Nat.le_of_ble_eq_true rfl⟩ hN hK (hP.sub [0, 2] rfl) rfl hl.1 rfl (Nat.le_of_ble_eq_true rfl) dX5_slices_53 ⟨Nat.le_of_ble_eq_true rfl, Nat.le_of_ble_eq_true rfl⟩ (fun r1 h1 => ?_)
                  have h1 : r1 = lN (w f) := by rw [h1, hvM_eq sI n (by omega), ← ew, ← ef]
                  subst h1
                  have ea : nI a0 = nI (f / 11) := by rw [ef]; exact dv11 (by omega)
                  have es : nI s0 = nI (f % 11) := by rw [ef]; exact md11 (by omega)
                  refine lv_lstore (lv' := [(5, .long (lN (w f))), (4, .int (nI s0)), (3, .int (nI a0)), (0, .ref qm), (1, .int (nI lt)), (2, .int y)]) hx hb dX5_slices_56 hl (by decide) rfl (fun ls hl => ?_)
                  refine lv_aload_n hx hb dX5_slices_58 rfl (lv_at hl 3 rfl) ?_
                  refine lv_lload hx hb dX5_slices_59 (lv_at hl 0 rfl) ?_
                  refine lv_iload_n hx hb dX5_slices_61 rfl (lv_at hl 4 rfl) ?_
                  refine lv_iload_n hx hb dX5_slices_62 rfl (lv_at hl 2 rfl) ?_
                  refine tpi (show (nI a0 : Int32) = nI (f / 11) from ea) ?_
                  refine lv_iload hx hb dX5_slices_63 (lv_at hl 1 rfl) ?_
                  refine tpi (show (nI s0 : Int32) = nI (f % 11) from es) ?_
                  refine lv_iconst (v := (-1)) hx hb dX5_slices_65 (by decide) ?_
                  refine tpi (show ((-1) : Int32) = c2 0 from rfl) ?_
                  refine lv_iconst (v := (-1)) hx hb dX5_slices_66 (by decide) ?_
                  refine tpi (show ((-1) : Int32) = s2 0 from rfl) ?_
                  refine clVwv (As := [.long (lN (w f)), .int (nI lt), .int (nI (f / 11)), .int (nI (f % 11)), .int (c2 0), .int (s2 0)]) (rest := []) (b := qm) (vc := (RX5, TX5, 30)) (wr := [(a 4, .inl (cyI, 240, .inl sI))]) ⟨hx, hb, hml, hown, hts⟩ (fun sz => r_judge l dd cyI cyJ cyZ qm a 0 fm sm ab be st al n hn hI h0 lt (w f) f 0 eh0 (w48 f) l2 hf (by decide) Lq (by omega) u2 hE2 hs2 (pall_w hx2 (fun _ h => Or.inl h)) sz) gX5_slices_X5_judge (ci := 5) rfl (q0 := 0) rfl (n := 6) rfl ⟨rfl, rfl⟩ (by decide +kernel) ⟨Nat.le_of_ble_eq_true rfl, Nat.le_of_ble_eq_true rfl⟩ hN hK hP hD hS hA [0, 1, 3, 4, 5, 6, 7, 8, 9] [2] rfl rfl (by decide) rfl (by decide) (by decide) rfl hl.1 rfl (Nat.le_of_ble_eq_true rfl) dX5_slices_67 ⟨Nat.le_of_ble_eq_true rfl, Nat.le_of_ble_eq_true rfl⟩ (fun u3 H locs hu3 hP hD hS => ?_)
                  have hP : va_P dd vwCl [(a 4, .inl (cyI, 240, .inl sI)), (qm, .inr (5, mo a 0 (nI n) (nI (jd h0 lt (w f) f 0 Lq).1) fm sm ab be st al)), (a 3, .inl (cyZ, 48, .inl hI)), (a 6, .inl (cyI, 700, .inl u3.1)), (a 7, .inl (cyI, 700, .inl u3.2.1)), (a 8, .inl (cyI, 700, .inl u3.2.2.1)), (a 9, .inl (cyI, 700, .inl u3.2.2.2.1)), (a 10, .inl (cyJ, 700, .inr (.inl u3.2.2.2.2.1))), (a 11, .inl (cyI, 700, .inl u3.2.2.2.2.2.1)), (a 12, .inl (cyI, 700, .inl u3.2.2.2.2.2.2))] H := hP
                  have hD : va_D A [(a 4, .inl (cyI, 240, .inl sI)), (qm, .inr (5, mo a 0 (nI n) (nI (jd h0 lt (w f) f 0 Lq).1) fm sm ab be st al)), (a 3, .inl (cyZ, 48, .inl hI)), (a 6, .inl (cyI, 700, .inl u3.1)), (a 7, .inl (cyI, 700, .inl u3.2.1)), (a 8, .inl (cyI, 700, .inl u3.2.2.1)), (a 9, .inl (cyI, 700, .inl u3.2.2.2.1)), (a 10, .inl (cyJ, 700, .inr (.inl u3.2.2.2.2.1))), (a 11, .inl (cyI, 700, .inl u3.2.2.2.2.2.1)), (a 12, .inl (cyI, 700, .inl u3.2.2.2.2.2.2))] := hD
                  obtain ⟨Lj, ej⟩ : ∃ Lj, Lj = (jd h0 lt (w f) f 0 Lq) := ⟨_, rfl⟩
                  have sj : Srt h0 Lj.2 Lj.1 := by rw [ej]; exact jd_srt hs2
                  have xj : PAll (lxB f 1) Lj := by rw [ej]; exact jd_all (pall_w hx2 (fun _ h => Or.inl h)) (Or.inr ⟨rfl, Nat.zero_lt_one⟩)
                  have o1 : one1 h0 lt w two f Lq = if two = true then prs h0 lt w f (55 - nx f) (nx f) Lj else Lj := by rw [one1_ref, ← ej]
                  rw [← ej] at hu3 hP hD
                  refine lv_iload_n hx hb dX5_slices_70 rfl (lv_at hl 2 rfl) ?_
                  refine lv_iconst (v := 1) hx hb dX5_slices_71 (by decide) ?_
                  refine lv_iadd hx hb dX5_slices_72 ?_
                  refine tpi (show ((nI a0) + 1 : Int32) = nI (a0 + 1) from nI_1 a0) ?_
                  refine lv_istore (lv' := [(7, .int (nI (a0 + 1))), (5, .long (lN (w f))), (4, .int (nI s0)), (3, .int (nI a0)), (0, .ref qm), (1, .int (nI lt)), (2, .int y)]) hx hb dX5_slices_73 hl (by decide) rfl (fun ls hl => ?_)
                  have m169 : ∀ (Lz : Ls) (u4 : RA) (H : Heap) (locs : List Loc), Lz = one1 h0 lt w two f Lq → LstR h0 Lz u4 → Srt h0 Lz.2 Lz.1 → PAll (fun e => e.2.1 < f + 1) Lz → va_P dd vwCl [(qm, .inr (5, mo a 0 (nI n) (nI Lz.1) fm sm ab be st al)), (a 3, .inl (cyZ, 48, .inl hI)), (a 4, .inl (cyI, 240, .inl sI)), (a 6, .inl (cyI, 700, .inl u4.1)), (a 7, .inl (cyI, 700, .inl u4.2.1)), (a 8, .inl (cyI, 700, .inl u4.2.2.1)), (a 9, .inl (cyI, 700, .inl u4.2.2.2.1)), (a 10, .inl (cyJ, 700, .inr (.inl u4.2.2.2.2.1))), (a 11, .inl (cyI, 700, .inl u4.2.2.2.2.2.1)), (a 12, .inl (cyI, 700, .inl u4.2.2.2.2.2.2))] H → va_D A [(qm, .inr (5, mo a 0 (nI n) (nI Lz.1) fm sm ab be st al)), (a 3, .inl (cyZ, 48, .inl hI)), (a 4, .inl (cyI, 240, .inl sI)), (a 6, .inl (cyI, 700, .inl u4.1)), (a 7, .inl (cyI, 700, .inl u4.2.1)), (a 8, .inl (cyI, 700, .inl u4.2.2.1)), (a 9, .inl (cyI, 700, .inl u4.2.2.2.1)), (a 10, .inl (cyJ, 700, .inr (.inl u4.2.2.2.2.1))), (a 11, .inl (cyI, 700, .inl u4.2.2.2.2.2.1)), (a 12, .inl (cyI, 700, .inl u4.2.2.2.2.2.2))] → va_S A s.heap H locs → ∀ ls : Array Slot, lv_has ls 13 [(4, .int (nI s0)), (3, .int (nI a0)), (0, .ref qm), (1, .int (nI lt)), (2, .int y)] → W p l e ({ frames := 2, cells := 0, slots := 0, locals := 100 } : Room) s m ([.ref qm, .int (nI lt), .int y] : List Value).toArray below meth c H locs 0 0 (MQ below (va_Qi (S := RA) (fun (r : Int32) (u : RA) => r = nI FN.1 ∧ LstR ((h0, FN)).1 ((h0, FN)).2 u) (WQ dd [(qm, .inr (5, mo a th (nI n) (nI Lc.1) fm sm ab be st al)), (a 3, .inl (cyZ, 48, .inl hI)), (a 4, .inl (cyI, 240, .inl sI)), (a 6, .inl (cyI, 700, .inl u0.1)), (a 7, .inl (cyI, 700, .inl u0.2.1)), (a 8, .inl (cyI, 700, .inl u0.2.2.1)), (a 9, .inl (cyI, 700, .inl u0.2.2.2.1)), (a 10, .inl (cyJ, 700, .inr (.inl u0.2.2.2.2.1))), (a 11, .inl (cyI, 700, .inl u0.2.2.2.2.2.1)), (a 12, .inl (cyI, 700, .inl u0.2.2.2.2.2.2))] sz (fun u => [(qm, .inr (5, mo a 0 (nI n) (nI ((h0, FN)).2.1) fm sm ab be st al)), (a 3, .inl (cyZ, 48, .inl hI)), (a 4, .inl (cyI, 240, .inl sI)), (a 6, .inl (cyI, 700, .inl u.1)), (a 7, .inl (cyI, 700, .inl u.2.1)), (a 8, .inl (cyI, 700, .inl u.2.2.1)), (a 9, .inl (cyI, 700, .inl u.2.2.2.1)), (a 10, .inl (cyJ, 700, .inr (.inl u.2.2.2.2.1))), (a 11, .inl (cyI, 700, .inl u.2.2.2.2.2.1)), (a 12, .inl (cyI, 700, .inl u.2.2.2.2.2.2))])) A) ([.ref qm, .int (nI lt), .int y] : List Value).toArray s 0 0 A) (F0 m 169 ls []) := by
                    intro Lz u4 H locs ez hE4 hs4 hx4 hP hD hS ls hl
                    refine lv_iinc (v := nI (s0 + 1)) (lv' := [(4, .int (nI (s0 + 1))), (3, .int (nI a0)), (0, .ref qm), (1, .int (nI lt)), (2, .int y)]) hx hb dX5_slices_169 hl (k := 0) rfl (nI_1 s0) (by decide) rfl (fun ls hl => ?_)
                    refine lv_goto (tgt := 42) hx hb dX5_slices_172 (by decide) ?_
                    exact ih2 (s0 + 1) Lz u4 H locs (by omega) (by rw [← he2, ez, show 55 - (11 * a0 + (s0 + 1)) = 54 - f by omega, show 11 * a0 + (s0 + 1) = f + 1 by omega]) hE4 hs4 (by rw [show 11 * a0 + (s0 + 1) = f + 1 by omega]; exact hx4) hP hD hS ls (lv_sub hl [0, 1, 2, 3, 4] rfl)
                  by_cases yt : y = 2
                  · have tt : two = true := by rw [etw]; exact decide_eq_true yt
                    rw [if_pos tt] at o1
                    have loop3 : ∀ (k3 : Nat) (b0 : Nat) (Lp : Ls) (u5 : RA) (H : Heap) (locs : List Loc), b0 + k3 = 5 → a0 < b0 → prs h0 lt w f (55 - 11 * b0) (11 * b0) Lp = one1 h0 lt w two f Lq → LstR h0 Lp u5 → Srt h0 Lp.2 Lp.1 → PAll (lxB f (11 * b0 + 1)) Lp → va_P dd vwCl [(qm, .inr (5, mo a 0 (nI n) (nI Lp.1) fm sm ab be st al)), (a 3, .inl (cyZ, 48, .inl hI)), (a 4, .inl (cyI, 240, .inl sI)), (a 6, .inl (cyI, 700, .inl u5.1)), (a 7, .inl (cyI, 700, .inl u5.2.1)), (a 8, .inl (cyI, 700, .inl u5.2.2.1)), (a 9, .inl (cyI, 700, .inl u5.2.2.2.1)), (a 10, .inl (cyJ, 700, .inr (.inl u5.2.2.2.2.1))), (a 11, .inl (cyI, 700, .inl u5.2.2.2.2.2.1)), (a 12, .inl (cyI, 700, .inl u5.2.2.2.2.2.2))] H → va_D A [(qm, .inr (5, mo a 0 (nI n) (nI Lp.1) fm sm ab be st al)), (a 3, .inl (cyZ, 48, .inl hI)), (a 4, .inl (cyI, 240, .inl sI)), (a 6, .inl (cyI, 700, .inl u5.1)), (a 7, .inl (cyI, 700, .inl u5.2.1)), (a 8, .inl (cyI, 700, .inl u5.2.2.1)), (a 9, .inl (cyI, 700, .inl u5.2.2.2.1)), (a 10, .inl (cyJ, 700, .inr (.inl u5.2.2.2.2.1))), (a 11, .inl (cyI, 700, .inl u5.2.2.2.2.2.1)), (a 12, .inl (cyI, 700, .inl u5.2.2.2.2.2.2))] → va_S A s.heap H locs → ∀ ls : Array Slot, lv_has ls 13 [(7, .int (nI b0)), (5, .long (lN (w f))), (4, .int (nI s0)), (3, .int (nI a0)), (0, .ref qm), (1, .int (nI lt)), (2, .int y)] → W p l e ({ frames := 2, cells := 0, slots := 0, locals := 100 } : Room) s m ([.ref qm, .int (nI lt), .int y] : List Value).toArray below meth c H locs 0 0 (MQ below (va_Qi (S := RA) (fun (r : Int32) (u : RA) => r = nI FN.1 ∧ LstR ((h0, FN)).1 ((h0, FN)).2 u) (WQ dd [(qm, .inr (5, mo a th (nI n) (nI Lc.1) fm sm ab be st al)), (a 3, .inl (cyZ, 48, .inl hI)), (a 4, .inl (cyI, 240, .inl sI)), (a 6, .inl (cyI, 700, .inl u0.1)), (a 7, .inl (cyI, 700, .inl u0.2.1)), (a 8, .inl (cyI, 700, .inl u0.2.2.1)), (a 9, .inl (cyI, 700, .inl u0.2.2.2.1)), (a 10, .inl (cyJ, 700, .inr (.inl u0.2.2.2.2.1))), (a 11, .inl (cyI, 700, .inl u0.2.2.2.2.2.1)), (a 12, .inl (cyI, 700, .inl u0.2.2.2.2.2.2))] sz (fun u => [(qm, .inr (5, mo a 0 (nI n) (nI ((h0, FN)).2.1) fm sm ab be st al)), (a 3, .inl (cyZ, 48, .inl hI)), (a 4, .inl (cyI, 240, .inl sI)), (a 6, .inl (cyI, 700, .inl u.1)), (a 7, .inl (cyI, 700, .inl u.2.1)), (a 8, .inl (cyI, 700, .inl u.2.2.1)), (a 9, .inl (cyI, 700, .inl u.2.2.2.1)), (a 10, .inl (cyJ, 700, .inr (.inl u.2.2.2.2.1))), (a 11, .inl (cyI, 700, .inl u.2.2.2.2.2.1)), (a 12, .inl (cyI, 700, .inl u.2.2.2.2.2.2))])) A) ([.ref qm, .int (nI lt), .int y] : List Value).toArray s 0 0 A) (F0 m 75 ls []) := by
                      intro k3
                      induction k3 with
                      | zero =>
                        intro b0 Lp u5 H locs hb0 hab he3 hE5 hs5 hx5 hP hD hS ls hl
                        refine lv_iload hx hb dX5_slices_75 (lv_at hl 0 rfl) ?_
                        refine lv_iconst (v := 5) hx hb dX5_slices_77 (by decide) ?_
                        refine lv_icmp_ge (tgt := 169) hx hb dX5_slices_78 (by decide) (fun q5 => ?_) (fun q5 => ?_)
                        · have ep : Lp = one1 h0 lt w two f Lq := by rw [← he3, show 55 - 11 * b0 = 0 by omega]; rfl
                          exact m169 Lp u5 H locs ep hE5 hs5 (pall_w hx5 (fun _ h => by rcases h with h | h <;> omega)) (hP.sub [0, 1, 2, 3, 4, 5, 6, 7, 8, 9] rfl) (hD.sub [0, 1, 2, 3, 4, 5, 6, 7, 8, 9] (by decide) rfl) hS ls (lv_sub hl [2, 3, 4, 5, 6] rfl)
                        · exact absurd (nI_le (show 5 ≤ b0 by omega) (by omega)) q5
                      | succ k3 ih3 =>
                        intro b0 Lp u5 H locs hb0 hab he3 hE5 hs5 hx5 hP hD hS ls hl
                        refine lv_iload hx hb dX5_slices_75 (lv_at hl 0 rfl) ?_
                        refine lv_iconst (v := 5) hx hb dX5_slices_77 (by decide) ?_
                        refine lv_icmp_ge (tgt := 169) hx hb dX5_slices_78 (by decide) (fun q5 => ?_) (fun q5 => ?_)
                        · exact absurd q5 (nI_ge (show b0 < 5 by omega) (by decide))
                        · refine lv_iload_n hx hb dX5_slices_81 rfl (lv_at hl 6 rfl) ?_
                          refine lv_iconst (v := 2) hx hb dX5_slices_82 (by decide) ?_
                          refine lv_icmp_ne (tgt := 169) hx hb dX5_slices_83 (by decide) (fun q6 => ?_) (fun q6 => ?_)
                          · exact absurd yt q6
                          · refine lv_lload hx hb dX5_slices_86 (lv_at hl 1 rfl) ?_
                            refine lv_lconst (v := 0) hx hb dX5_slices_88 (by decide) ?_
                            refine W.lcmp hx hb dX5_slices_89 ?_
                            refine lv_if_eq (tgt := 169) hx hb dX5_slices_90 (by decide) (fun q7 => ?_) (fun q7 => ?_)
                            · have wz : w f = 0 := (lN0 (Nat.lt_trans (w48 f) (by decide))).mp q7
                              have ep : Lp = one1 h0 lt w two f Lq := by rw [← he3, prs_id (fun g h => by have h9 := h.1; rw [wz, Nat.zero_and, pop0] at h9; omega)]
                              exact m169 Lp u5 H locs ep hE5 hs5 (pall_w hx5 (fun _ h => by rcases h with h | h <;> omega)) (hP.sub [0, 1, 2, 3, 4, 5, 6, 7, 8, 9] rfl) (hD.sub [0, 1, 2, 3, 4, 5, 6, 7, 8, 9] (by decide) rfl) hS ls (lv_sub hl [2, 3, 4, 5, 6] rfl)
                            · refine lv_iconst (v := 0) hx hb dX5_slices_93 (by decide) ?_
                              refine lv_istore (lv' := [(8, .int 0), (7, .int (nI b0)), (5, .long (lN (w f))), (4, .int (nI s0)), (3, .int (nI a0)), (0, .ref qm), (1, .int (nI lt)), (2, .int y)]) hx hb dX5_slices_94 hl (by decide) rfl (fun ls hl => ?_)
                              have loop4 : ∀ (k4 : Nat) (t0 : Nat) (Lr : Ls) (u6 : RA) (H : Heap) (locs : List Loc), t0 + k4 = 11 → prs h0 lt w f (55 - (11 * b0 + t0)) (11 * b0 + t0) Lr = one1 h0 lt w two f Lq → LstR h0 Lr u6 → Srt h0 Lr.2 Lr.1 → PAll (lxB f (11 * b0 + t0 + 1)) Lr → va_P dd vwCl [(qm, .inr (5, mo a 0 (nI n) (nI Lr.1) fm sm ab be st al)), (a 3, .inl (cyZ, 48, .inl hI)), (a 4, .inl (cyI, 240, .inl sI)), (a 6, .inl (cyI, 700, .inl u6.1)), (a 7, .inl (cyI, 700, .inl u6.2.1)), (a 8, .inl (cyI, 700, .inl u6.2.2.1)), (a 9, .inl (cyI, 700, .inl u6.2.2.2.1)), (a 10, .inl (cyJ, 700, .inr (.inl u6.2.2.2.2.1))), (a 11, .inl (cyI, 700, .inl u6.2.2.2.2.2.1)), (a 12, .inl (cyI, 700, .inl u6.2.2.2.2.2.2))] H → va_D A [(qm, .inr (5, mo a 0 (nI n) (nI Lr.1) fm sm ab be st al)), (a 3, .inl (cyZ, 48, .inl hI)), (a 4, .inl (cyI, 240, .inl sI)), (a 6, .inl (cyI, 700, .inl u6.1)), (a 7, .inl (cyI, 700, .inl u6.2.1)), (a 8, .inl (cyI, 700, .inl u6.2.2.1)), (a 9, .inl (cyI, 700, .inl u6.2.2.2.1)), (a 10, .inl (cyJ, 700, .inr (.inl u6.2.2.2.2.1))), (a 11, .inl (cyI, 700, .inl u6.2.2.2.2.2.1)), (a 12, .inl (cyI, 700, .inl u6.2.2.2.2.2.2))] → va_S A s.heap H locs → ∀ ls : Array Slot, lv_has ls 13 [(8, .int (nI t0)), (7, .int (nI b0)), (5, .long (lN (w f))), (4, .int (nI s0)), (3, .int (nI a0)), (0, .ref qm), (1, .int (nI lt)), (2, .int y)] → W p l e ({ frames := 2, cells := 0, slots := 0, locals := 100 } : Room) s m ([.ref qm, .int (nI lt), .int y] : List Value).toArray below meth c H locs 0 0 (MQ below (va_Qi (S := RA) (fun (r : Int32) (u : RA) => r = nI FN.1 ∧ LstR ((h0, FN)).1 ((h0, FN)).2 u) (WQ dd [(qm, .inr (5, mo a th (nI n) (nI Lc.1) fm sm ab be st al)), (a 3, .inl (cyZ, 48, .inl hI)), (a 4, .inl (cyI, 240, .inl sI)), (a 6, .inl (cyI, 700, .inl u0.1)), (a 7, .inl (cyI, 700, .inl u0.2.1)), (a 8, .inl (cyI, 700, .inl u0.2.2.1)), (a 9, .inl (cyI, 700, .inl u0.2.2.2.1)), (a 10, .inl (cyJ, 700, .inr (.inl u0.2.2.2.2.1))), (a 11, .inl (cyI, 700, .inl u0.2.2.2.2.2.1)), (a 12, .inl (cyI, 700, .inl u0.2.2.2.2.2.2))] sz (fun u => [(qm, .inr (5, mo a 0 (nI n) (nI ((h0, FN)).2.1) fm sm ab be st al)), (a 3, .inl (cyZ, 48, .inl hI)), (a 4, .inl (cyI, 240, .inl sI)), (a 6, .inl (cyI, 700, .inl u.1)), (a 7, .inl (cyI, 700, .inl u.2.1)), (a 8, .inl (cyI, 700, .inl u.2.2.1)), (a 9, .inl (cyI, 700, .inl u.2.2.2.1)), (a 10, .inl (cyJ, 700, .inr (.inl u.2.2.2.2.1))), (a 11, .inl (cyI, 700, .inl u.2.2.2.2.2.1)), (a 12, .inl (cyI, 700, .inl u.2.2.2.2.2.2))])) A) ([.ref qm, .int (nI lt), .int y] : List Value).toArray s 0 0 A) (F0 m 96 ls []) := by
                                intro k4
                                induction k4 with
                                | zero =>
                                  intro t0 Lr u6 H locs ht0 he4 hE6 hs6 hx6 hP hD hS ls hl
                                  refine lv_iload hx hb dX5_slices_96 (lv_at hl 0 rfl) ?_
                                  refine lv_bipush (v := 11) hx hb dX5_slices_98 (by decide) ?_
                                  refine lv_icmp_ge (tgt := 163) hx hb dX5_slices_100 (by decide) (fun q8 => ?_) (fun q8 => ?_)
                                  · refine lv_iinc (v := nI (b0 + 1)) (lv' := [(7, .int (nI (b0 + 1))), (8, .int (nI t0)), (5, .long (lN (w f))), (4, .int (nI s0)), (3, .int (nI a0)), (0, .ref qm), (1, .int (nI lt)), (2, .int y)]) hx hb dX5_slices_163 hl (k := 1) rfl (nI_1 b0) (by decide) rfl (fun ls hl => ?_)
                                    refine lv_goto (tgt := 75) hx hb dX5_slices_166 (by decide) ?_
                                    exact ih3 (b0 + 1) Lr u6 H locs (by omega) (by omega) (by rw [← he4, show 55 - 11 * (b0 + 1) = 55 - (11 * b0 + t0) by omega, show 11 * (b0 + 1) = 11 * b0 + t0 by omega]) hE6 hs6 (by rw [show 11 * (b0 + 1) + 1 = 11 * b0 + t0 + 1 by omega]; exact hx6) hP hD hS ls (lv_sub hl [0, 2, 3, 4, 5, 6, 7] rfl)
                                  · exact absurd (nI_le (show 11 ≤ t0 by omega) (by omega)) q8
                                | succ k4 ih4 =>
                                  intro t0 Lr u6 H locs ht0 he4 hE6 hs6 hx6 hP hD hS ls hl
                                  refine lv_iload hx hb dX5_slices_96 (lv_at hl 0 rfl) ?_
                                  refine lv_bipush (v := 11) hx hb dX5_slices_98 (by decide) ?_
                                  refine lv_icmp_ge (tgt := 163) hx hb dX5_slices_100 (by decide) (fun q8 => ?_) (fun q8 => ?_)
                                  · exact absurd q8 (nI_ge (show t0 < 11 by omega) (by decide))
                                  · obtain ⟨g, eg⟩ : ∃ g, g = 11 * b0 + t0 := ⟨_, rfl⟩
                                    have hg : g < 55 := by omega
                                    rw [← eg] at he4 hx6
                                    rw [show 55 - g = (54 - g) + 1 by omega] at he4
                                    have hgr : Lr.1 ≤ (one1 h0 lt w two f Lq).1 := by rw [← he4]; exact prs_ge h0 lt w f (54 - g + 1) g Lr
                                    refine lv_aload_n hx hb dX5_slices_103 rfl (lv_at hl 5 rfl) ?_
                                    refine lv_iload hx hb dX5_slices_104 (lv_at hl 1 rfl) ?_
                                    refine lv_iload hx hb dX5_slices_106 (lv_at hl 0 rfl) ?_
                                    refine clVl (As := [.int (nI b0), .int (nI t0)]) (rest := []) (b := qm) (vc := (RX5, TX5, 30)) ⟨hx, hb, hml, hown, hts⟩ (r_rowsOf l dd cyI cyJ cyZ qm a 0 (nI Lr.1) fm sm ab be st al n hn sI b0 t0 (by omega)) gX5_slices_X5_rowsOf (ci := 5) rfl (q0 := 0) rfl (n := 2) rfl ⟨rfl, rfl⟩ (by decide +kernel) ⟨Nat.le_of_ble_eq_true rfl, Nat.le_of_ble_eq_true rfl⟩ hN hK (hP.sub [0, 2] rfl) rfl hl.1 rfl (Nat.le_of_ble_eq_true rfl) dX5_slices_108 ⟨Nat.le_of_ble_eq_true rfl, Nat.le_of_ble_eq_true rfl⟩ (fun r9 h9 => ?_)
                                    have h9 : r9 = lN (w g) := by rw [h9, hvM_eq sI n (by omega), ← ew, ← eg]
                                    subst h9
                                    refine lv_lstore (lv' := [(9, .long (lN (w g))), (8, .int (nI t0)), (7, .int (nI b0)), (5, .long (lN (w f))), (4, .int (nI s0)), (3, .int (nI a0)), (0, .ref qm), (1, .int (nI lt)), (2, .int y)]) hx hb dX5_slices_111 hl (by decide) rfl (fun ls hl => ?_)
                                    refine lv_lload hx hb dX5_slices_113 (lv_at hl 3 rfl) ?_
                                    refine lv_lload hx hb dX5_slices_115 (lv_at hl 0 rfl) ?_
                                    refine lv_land hx hb dX5_slices_117 ?_
                                    obtain ⟨bo, ebo⟩ : ∃ bo, bo = w f &&& w g := ⟨_, rfl⟩
                                    have v1 := w48 f
                                    have v2 := w48 g
                                    have v3 : bo < 2 ^ 48 := by rw [ebo]; exact and48 v1
                                    refine tpl (show ((lN (w f)) &&& (lN (w g)) : Int64) = lN bo from by rw [wb_and (by omega) (by omega), ebo]) ?_
                                    refine lv_lstore (lv' := [(11, .long (lN bo)), (9, .long (lN (w g))), (8, .int (nI t0)), (7, .int (nI b0)), (5, .long (lN (w f))), (4, .int (nI s0)), (3, .int (nI a0)), (0, .ref qm), (1, .int (nI lt)), (2, .int y)]) hx hb dX5_slices_118 hl (by decide) rfl (fun ls hl => ?_)
                                    refine lv_lload hx hb dX5_slices_120 (lv_at hl 0 rfl) ?_
                                    refine lv_lconst (v := 0) hx hb dX5_slices_122 (by decide) ?_
                                    refine W.lcmp hx hb dX5_slices_123 ?_
                                    refine lv_if_eq (tgt := 157) hx hb dX5_slices_124 (by decide) (fun q9 => ?_) (fun q9 => ?_)
                                    · have bz : bo = 0 := (lN0 (Nat.lt_trans v3 (by decide))).mp q9
                                      have np : ¬ isPr w lt f g := by rw [isPr, ← ebo]; exact fun h => by have h8 := h.1; rw [bz, pop0] at h8; omega
                                      refine lv_iinc (v := nI (t0 + 1)) (lv' := [(8, .int (nI (t0 + 1))), (11, .long (lN bo)), (9, .long (lN (w g))), (7, .int (nI b0)), (5, .long (lN (w f))), (4, .int (nI s0)), (3, .int (nI a0)), (0, .ref qm), (1, .int (nI lt)), (2, .int y)]) hx hb dX5_slices_157 hl (k := 2) rfl (nI_1 t0) (by decide) rfl (fun ls hl => ?_)
                                      refine lv_goto (tgt := 96) hx hb dX5_slices_160 (by decide) ?_
                                      exact ih4 (t0 + 1) Lr u6 H locs (by omega) (by rw [← he4, prs_n np, show 55 - (11 * b0 + (t0 + 1)) = 54 - g by omega, show 11 * b0 + (t0 + 1) = g + 1 by omega]) hE6 hs6 (by rw [show 11 * b0 + (t0 + 1) + 1 = g + 2 by omega]; exact (pall_w hx6 (fun _ h => by rcases h with h | h <;> omega))) (hP.sub [0, 1, 2, 3, 4, 5, 6, 7, 8, 9] rfl) (hD.sub [0, 1, 2, 3, 4, 5, 6, 7, 8, 9] (by decide) rfl) hS ls (lv_sub hl [0, 3, 4, 5, 6, 7, 8, 9] rfl)
                                    · refine lv_lload hx hb dX5_slices_127 (lv_at hl 0 rfl) ?_
                                      refine lv_lload hx hb dX5_slices_129 (lv_at hl 4 rfl) ?_
                                      refine W.lcmp hx hb dX5_slices_131 ?_
                                      refine lv_if_eq (tgt := 157) hx hb dX5_slices_132 (by decide) (fun q10 => ?_) (fun q10 => ?_)
                                      · have np : ¬ isPr w lt f g := by rw [isPr, ← ebo]; exact fun h => h.2.1 ((lcq v3 v1).mp q10)
                                        refine lv_iinc (v := nI (t0 + 1)) (lv' := [(8, .int (nI (t0 + 1))), (11, .long (lN bo)), (9, .long (lN (w g))), (7, .int (nI b0)), (5, .long (lN (w f))), (4, .int (nI s0)), (3, .int (nI a0)), (0, .ref qm), (1, .int (nI lt)), (2, .int y)]) hx hb dX5_slices_157 hl (k := 2) rfl (nI_1 t0) (by decide) rfl (fun ls hl => ?_)
                                        refine lv_goto (tgt := 96) hx hb dX5_slices_160 (by decide) ?_
                                        exact ih4 (t0 + 1) Lr u6 H locs (by omega) (by rw [← he4, prs_n np, show 55 - (11 * b0 + (t0 + 1)) = 54 - g by omega, show 11 * b0 + (t0 + 1) = g + 1 by omega]) hE6 hs6 (by rw [show 11 * b0 + (t0 + 1) + 1 = g + 2 by omega]; exact (pall_w hx6 (fun _ h => by rcases h with h | h <;> omega))) (hP.sub [0, 1, 2, 3, 4, 5, 6, 7, 8, 9] rfl) (hD.sub [0, 1, 2, 3, 4, 5, 6, 7, 8, 9] (by decide) rfl) hS ls (lv_sub hl [0, 3, 4, 5, 6, 7, 8, 9] rfl)
                                      · refine lv_lload hx hb dX5_slices_135 (lv_at hl 0 rfl) ?_
                                        refine lv_lload hx hb dX5_slices_137 (lv_at hl 1 rfl) ?_
                                        refine W.lcmp hx hb dX5_slices_139 ?_
                                        refine lv_if_eq (tgt := 157) hx hb dX5_slices_140 (by decide) (fun q11 => ?_) (fun q11 => ?_)
                                        · have np : ¬ isPr w lt f g := by rw [isPr, ← ebo]; exact fun h => h.2.2 ((lcq v3 v2).mp q11)
                                          refine lv_iinc (v := nI (t0 + 1)) (lv' := [(8, .int (nI (t0 + 1))), (11, .long (lN bo)), (9, .long (lN (w g))), (7, .int (nI b0)), (5, .long (lN (w f))), (4, .int (nI s0)), (3, .int (nI a0)), (0, .ref qm), (1, .int (nI lt)), (2, .int y)]) hx hb dX5_slices_157 hl (k := 2) rfl (nI_1 t0) (by decide) rfl (fun ls hl => ?_)
                                          refine lv_goto (tgt := 96) hx hb dX5_slices_160 (by decide) ?_
                                          exact ih4 (t0 + 1) Lr u6 H locs (by omega) (by rw [← he4, prs_n np, show 55 - (11 * b0 + (t0 + 1)) = 54 - g by omega, show 11 * b0 + (t0 + 1) = g + 1 by omega]) hE6 hs6 (by rw [show 11 * b0 + (t0 + 1) + 1 = g + 2 by omega]; exact (pall_w hx6 (fun _ h => by rcases h with h | h <;> omega))) (hP.sub [0, 1, 2, 3, 4, 5, 6, 7, 8, 9] rfl) (hD.sub [0, 1, 2, 3, 4, 5, 6, 7, 8, 9] (by decide) rfl) hS ls (lv_sub hl [0, 3, 4, 5, 6, 7, 8, 9] rfl)
                                        · refine lv_aload_n hx hb dX5_slices_143 rfl (lv_at hl 7 rfl) ?_
                                          refine lv_lload hx hb dX5_slices_144 (lv_at hl 0 rfl) ?_
                                          refine lv_iload_n hx hb dX5_slices_146 rfl (lv_at hl 8 rfl) ?_
                                          refine lv_iload_n hx hb dX5_slices_147 rfl (lv_at hl 6 rfl) ?_
                                          refine tpi (show (nI a0 : Int32) = nI (f / 11) from ea) ?_
                                          refine lv_iload hx hb dX5_slices_148 (lv_at hl 5 rfl) ?_
                                          refine tpi (show (nI s0 : Int32) = nI (f % 11) from es) ?_
                                          refine lv_iload hx hb dX5_slices_150 (lv_at hl 3 rfl) ?_
                                          refine tpi (show (nI b0 : Int32) = c2 (g + 1) from by rw [eg]; exact c2_s (by omega)) ?_
                                          refine lv_iload hx hb dX5_slices_152 (lv_at hl 2 rfl) ?_
                                          refine tpi (show (nI t0 : Int32) = s2 (g + 1) from by rw [eg]; exact s2_s (by omega)) ?_
                                          refine clVwv (As := [.long (lN bo), .int (nI lt), .int (nI (f / 11)), .int (nI (f % 11)), .int (c2 (g + 1)), .int (s2 (g + 1))]) (rest := []) (b := qm) (vc := (RX5, TX5, 30)) (wr := [(a 4, .inl (cyI, 240, .inl sI))]) ⟨hx, hb, hml, hown, hts⟩ (fun sz => r_judge l dd cyI cyJ cyZ qm a 0 fm sm ab be st al n hn hI h0 lt bo f (g + 1) eh0 v3 l2 hf (by omega) Lr (by omega) u6 hE6 hs6 hx6 sz) gX5_slices_X5_judge (ci := 5) rfl (q0 := 0) rfl (n := 6) rfl ⟨rfl, rfl⟩ (by decide +kernel) ⟨Nat.le_of_ble_eq_true rfl, Nat.le_of_ble_eq_true rfl⟩ hN hK hP hD hS hA [0, 1, 3, 4, 5, 6, 7, 8, 9] [2] rfl rfl (by decide) rfl (by decide) (by decide) rfl hl.1 rfl (Nat.le_of_ble_eq_true rfl) dX5_slices_154 ⟨Nat.le_of_ble_eq_true rfl, Nat.le_of_ble_eq_true rfl⟩ (fun u7 H locs hu7 hP hD hS => ?_)
                                          have hP : va_P dd vwCl [(a 4, .inl (cyI, 240, .inl sI)), (qm, .inr (5, mo a 0 (nI n) (nI (jd h0 lt bo f (g + 1) Lr).1) fm sm ab be st al)), (a 3, .inl (cyZ, 48, .inl hI)), (a 6, .inl (cyI, 700, .inl u7.1)), (a 7, .inl (cyI, 700, .inl u7.2.1)), (a 8, .inl (cyI, 700, .inl u7.2.2.1)), (a 9, .inl (cyI, 700, .inl u7.2.2.2.1)), (a 10, .inl (cyJ, 700, .inr (.inl u7.2.2.2.2.1))), (a 11, .inl (cyI, 700, .inl u7.2.2.2.2.2.1)), (a 12, .inl (cyI, 700, .inl u7.2.2.2.2.2.2))] H := hP
                                          have hD : va_D A [(a 4, .inl (cyI, 240, .inl sI)), (qm, .inr (5, mo a 0 (nI n) (nI (jd h0 lt bo f (g + 1) Lr).1) fm sm ab be st al)), (a 3, .inl (cyZ, 48, .inl hI)), (a 6, .inl (cyI, 700, .inl u7.1)), (a 7, .inl (cyI, 700, .inl u7.2.1)), (a 8, .inl (cyI, 700, .inl u7.2.2.1)), (a 9, .inl (cyI, 700, .inl u7.2.2.2.1)), (a 10, .inl (cyJ, 700, .inr (.inl u7.2.2.2.2.1))), (a 11, .inl (cyI, 700, .inl u7.2.2.2.2.2.1)), (a 12, .inl (cyI, 700, .inl u7.2.2.2.2.2.2))] := hD
                                          have ejj : prs h0 lt w f (54 - g + 1) g Lr = prs h0 lt w f (54 - g) (g + 1) (jd h0 lt bo f (g + 1) Lr) := by
                                            by_cases hp : lt ≤ pop bo
                                            · rw [jd_y hp, prs_y (show isPr w lt f g by rw [isPr, ← ebo]; exact ⟨hp, fun h => q10 ((lcq v3 v1).mpr h), fun h => q11 ((lcq v3 v2).mpr h)⟩), ← ebo]
                                            · rw [jd_n hp, prs_n (show ¬ isPr w lt f g by rw [isPr, ← ebo]; exact fun h => hp h.1)]
                                          refine lv_iinc (v := nI (t0 + 1)) (lv' := [(8, .int (nI (t0 + 1))), (11, .long (lN bo)), (9, .long (lN (w g))), (7, .int (nI b0)), (5, .long (lN (w f))), (4, .int (nI s0)), (3, .int (nI a0)), (0, .ref qm), (1, .int (nI lt)), (2, .int y)]) hx hb dX5_slices_157 hl (k := 2) rfl (nI_1 t0) (by decide) rfl (fun ls hl => ?_)
                                          refine lv_goto (tgt := 96) hx hb dX5_slices_160 (by decide) ?_
                                          exact ih4 (t0 + 1) (jd h0 lt bo f (g + 1) Lr) u7 H _ (by omega) (by rw [← he4, ejj, show 55 - (11 * b0 + (t0 + 1)) = 54 - g by omega, show 11 * b0 + (t0 + 1) = g + 1 by omega]) hu7 (jd_srt hs6) (by rw [show 11 * b0 + (t0 + 1) + 1 = g + 2 by omega]; exact (jd_all (pall_w hx6 (fun _ h => by rcases h with h | h <;> omega)) (Or.inr ⟨rfl, by show g + 1 < g + 2; omega⟩))) (hP.sub [1, 2, 0, 3, 4, 5, 6, 7, 8, 9] rfl) (hD.sub [1, 2, 0, 3, 4, 5, 6, 7, 8, 9] (by decide) rfl) hS ls (lv_sub hl [0, 3, 4, 5, 6, 7, 8, 9] rfl)
                              exact loop4 11 0 Lp u5 H locs rfl he3 hE5 hs5 hx5 hP hD hS ls (lv_sub hl [0, 1, 2, 3, 4, 5, 6, 7] rfl)
                    exact loop3 (5 - (a0 + 1)) (a0 + 1) Lj u3 H _ (by omega) (by omega) (by rw [o1, show 55 - nx f = 55 - 11 * (a0 + 1) by unfold nx; omega, show nx f = 11 * (a0 + 1) by unfold nx; omega]) hu3 sj (pall_w xj (fun _ h => by rcases h with h | h <;> omega)) (hP.sub [1, 2, 0, 3, 4, 5, 6, 7, 8, 9] rfl) (hD.sub [1, 2, 0, 3, 4, 5, 6, 7, 8, 9] (by decide) rfl) hS ls (lv_sub hl [0, 1, 2, 3, 4, 5, 6] rfl)
                  · have tt : ¬ two = true := by rw [etw, decide_eq_false yt]; decide
                    rw [if_neg tt] at o1
                    refine lv_iload hx hb dX5_slices_75 (lv_at hl 0 rfl) ?_
                    refine lv_iconst (v := 5) hx hb dX5_slices_77 (by decide) ?_
                    refine lv_icmp_ge (tgt := 169) hx hb dX5_slices_78 (by decide) (fun q5 => ?_) (fun q5 => ?_)
                    · exact m169 Lj u3 H _ o1.symm hu3 sj (pall_w xj (fun _ h => by rcases h with h | h <;> omega)) (hP.sub [1, 2, 0, 3, 4, 5, 6, 7, 8, 9] rfl) (hD.sub [1, 2, 0, 3, 4, 5, 6, 7, 8, 9] (by decide) rfl) hS ls (lv_sub hl [2, 3, 4, 5, 6] rfl)
                    · refine lv_iload_n hx hb dX5_slices_81 rfl (lv_at hl 6 rfl) ?_
                      refine lv_iconst (v := 2) hx hb dX5_slices_82 (by decide) ?_
                      refine lv_icmp_ne (tgt := 169) hx hb dX5_slices_83 (by decide) (fun q6 => ?_) (fun q6 => ?_)
                      · exact m169 Lj u3 H _ o1.symm hu3 sj (pall_w xj (fun _ h => by rcases h with h | h <;> omega)) (hP.sub [1, 2, 0, 3, 4, 5, 6, 7, 8, 9] rfl) (hD.sub [1, 2, 0, 3, 4, 5, 6, 7, 8, 9] (by decide) rfl) hS ls (lv_sub hl [2, 3, 4, 5, 6] rfl)
                      · exact absurd q6 yt
            exact loop2 11 0 Lb u H locs rfl he hE1 hs1 hx1 hP hD hS ls (lv_sub hl [0, 1, 2, 3, 4] rfl)
      exact loop 5 0 L0 u0 H _ rfl rfl (fun j h => absurd h (Nat.not_lt_zero j)) (fun i j _ h => absurd h (Nat.not_lt_zero j)) (fun j h => absurd h (Nat.not_lt_zero j)) hP hD hS ls (lv_sub hl [0, 1, 2, 3] rfl)
    · have hck2 : ¬ (1 ≤ y ∧ y ≤ 2) := hck2.elim (fun h => absurd (h.1.symm.trans qck2) (by decide)) (fun h => h.2)
      refine lv_ldc (v := (-1000002)) hx hb hown (hts (.constant RX5 83 (-1000002)) (by decide +kernel)) dX5_slices_24 ?_
      have eN : slN n hI sI x y hm Lc = (hm, Lc) := by unfold slN; rw [if_neg (fun q : slOk x y => hck2 q.2)]
      have er : slR n hI sI x y = -1000002 := by unfold slR; rw [if_neg (fun q : slOk x y => hck2 q.2)]
      rw [eN, er]
      exact ewI u0 hx hb hr hlocks hAe hS dX5_slices_26 (⟨rfl, hE⟩) (hP.sub [0, 1, 2, 3, 4, 5, 6, 7, 8, 9] rfl) (hD.sub [0, 1, 2, 3, 4, 5, 6, 7, 8, 9] (by decide) rfl)
