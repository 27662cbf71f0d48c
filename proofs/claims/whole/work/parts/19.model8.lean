/-! ===== shift ===== -/
def ak (sI : Nat → Int32) (gu : Nat) (i : Nat) : Bool := hav sI gu 1 i || hav sI gu 0 i
def shP (f : Nat → Bool) (sI : Nat → Int32) (la gu v : Nat) (i : Nat) : Bool := (f i && ak sI gu i) && hav sI la v i
def shQ (f : Nat → Bool) (sI : Nat → Int32) (la gu v : Nat) (i : Nat) : Bool := shP f sI la gu v i && hav sI gu 1 i
def shL (g : Nat → Bool) (sI : Nat → Int32) (gu : Nat) (i : Nat) : Bool := ak sI gu i && g i
def shM (g : Nat → Bool) (sI : Nat → Int32) (gu : Nat) (i : Nat) : Bool := shL g sI gu i && hav sI gu 1 i
abbrev shOk (la gu : Int32) : Prop := inC la ∧ inC gu ∧ ¬ la = gu
def shDn (f g : Nat → Bool) (sI : Nat → Int32) (la gu n : Nat) : Int := (((cnt (shQ f sI la gu 1) n * cnt (shP f sI la gu 0) n : Nat) : Int) - ((cnt (shQ f sI la gu 0) n * cnt (shP f sI la gu 1) n : Nat) : Int)) * ((cnt (shL g sI gu) n : Nat) : Int)
def shUp (f g : Nat → Bool) (sI : Nat → Int32) (la gu n : Nat) : Int := (((cnt (shM g sI gu) n * cnt (shP f sI la gu 0) n : Nat) : Int) - ((cnt (shQ f sI la gu 0) n * cnt (shL g sI gu) n : Nat) : Int)) * ((cnt (shP f sI la gu 1) n : Nat) : Int)
def shZ (f g : Nat → Bool) (sI : Nat → Int32) (la gu n : Nat) : Prop := cnt (shP f sI la gu 0) n = 0 ∨ cnt (shP f sI la gu 1) n = 0 ∨ cnt (shL g sI gu) n = 0
def shiftX (n : Nat) (tI sI : Nat → Int32) (la gu f b t pt : Int32) : Prop := shOk la gu ∧ (inW f b t ∧ inP pt) ∧ shZ (win tI f b) (win tI b t) sI (cl la) (cl gu) n
def shiftR (n : Nat) (tI sI : Nat → Int32) (la gu f b t pt : Int32) : Int64 := if shOk la gu then (if inW f b t ∧ inP pt then (if shDn (win tI f b) (win tI b t) sI (cl la) (cl gu) n = 0 then -1000003 else lI (fr (shUp (win tI f b) (win tI b t) sI (cl la) (cl gu) n) (shDn (win tI f b) (win tI b t) sI (cl la) (cl gu) n) pt)) else -1000002) else -1000001
theorem fr_neg {u d : Int} {pt : Int32} (h : d < 0) : fr (-u) (-d) pt = fr u d pt := by
  unfold fr
  rw [Int.natAbs_neg, Int.natAbs_neg, if_neg (show ¬ -d < 0 by omega), if_pos h]
theorem iB {x z y w v : Nat} (hx : x ≤ 48) (hz : z ≤ 48) (hy : y ≤ 48) (hw : w ≤ 48) (hv : v ≤ 48) : ((((x * z : Nat) : Int) - ((y * w : Nat) : Int)) * ((v : Nat) : Int)).natAbs < 2 ^ 62 := by
  have h1 : x * z ≤ 2304 := Nat.le_trans (Nat.mul_le_mul hx hz) (by decide)
  have h2 : y * w ≤ 2304 := Nat.le_trans (Nat.mul_le_mul hy hw) (by decide)
  rw [Int.natAbs_mul]
  have h3 : (((x * z : Nat) : Int) - ((y * w : Nat) : Int)).natAbs ≤ 2304 := by omega
  have h4 : ((v : Nat) : Int).natAbs ≤ 48 := by omega
  exact Nat.lt_of_le_of_lt (Nat.mul_le_mul h3 h4) (by decide)
theorem lmulI (z : Int) (v : Nat) : lI z * lN v = lI (z * ((v : Nat) : Int)) := by
  rw [lN_lI]
  exact (Int64.ofInt_mul _ _).symm
theorem lI0 {z : Int} (h : z.natAbs < 2 ^ 62) : lg_cmp (lI z) 0 = 0 ↔ z = 0 := by
  rw [lg_cmp_eq]
  constructor
  · intro q
    have := congrArg Int64.toInt q
    rw [lI_toInt h] at this
    exact this
  · intro q
    subst q
    rfl
/-- a count grows by one where it takes row i -/
theorem cnt_if (f : Nat → Bool) (i : Nat) : cnt f (i + 1) = cnt f i + (if f i = true then 1 else 0) := rfl
theorem hav_k {sI : Nat → Int32} {i co k k0 : Nat} (hk : k < 11) (h0 : k0 < 11) (e : sI (5 * i + co) = nI k0) : hav sI co k i = decide (k0 = k) := by
  unfold hav
  rw [e]
  by_cases q : k0 = k
  · subst q; simp
  · rw [decide_eq_false (nI_ne (by omega) (by omega) q), decide_eq_false q]

theorem ak_k {sI : Nat → Int32} {i co k0 : Nat} (h0 : k0 < 11) (e : sI (5 * i + co) = nI k0) : ak sI co i = decide (k0 < 2) := by
  unfold ak
  rw [hav_k (by decide) h0 e, hav_k (by decide) h0 e]
  rcases (show k0 = 0 ∨ k0 = 1 ∨ 2 ≤ k0 by omega) with h | h | h
  · rw [h]; rfl
  · rw [h]; rfl
  · rw [decide_eq_false (show ¬ k0 = 1 by omega), decide_eq_false (show ¬ k0 = 0 by omega), decide_eq_false (show ¬ k0 < 2 by omega)]; rfl

set_option maxHeartbeats 4000000 in
set_option maxRecDepth 100000 in
theorem r_shift (l : Launch) (dd : va_G) (cyI cyJ cyZ : ClassId) (qm : Nat) (a : Nat → Nat) (th li fm sm : Int32) (ab be : Int64) (st al : Int32) (n : Nat) (hn : n ≤ 48) (tI sI : Nat → Int32) (hSo : ∀ i, i < n → ∀ co, co < 5 → ∃ k, k < 11 ∧ sI (5 * i + co) = nI k) (la gu f b t pt : Int32) (sz : Nat) : Met l yX5_shift wsX5_shift ({ frames := 2, cells := 0, slots := 0, locals := 60 } : Room) (va_Pc [.ref qm, .int la, .int gu, .int f, .int b, .int t, .int pt] (Wr dd [(cyI, .int), (cyJ, .long), (cyZ, .boolean)] [(qm, .inr (5, mo a th (nI n) li fm sm ab be st al)), (a 2, .inl (cyI, 48, .inl tI)), (a 4, .inl (cyI, 240, .inl sI))] sz)) (va_Ql (S := Int32) (fun (r : Int64) (u : Int32) => (shiftX n tI sI la gu f b t pt → u = 1) ∧ (¬ shiftX n tI sI la gu f b t pt → u = 0 ∧ r = shiftR n tI sI la gu f b t pt)) (WQ dd [(qm, .inr (5, mo a th (nI n) li fm sm ab be st al)), (a 2, .inl (cyI, 48, .inl tI)), (a 4, .inl (cyI, 240, .inl sI))] sz (fun u => [(qm, .inr (5, mo a u (nI n) li fm sm ab be st al)), (a 2, .inl (cyI, 48, .inl tI)), (a 4, .inl (cyI, 240, .inl sI))])) (va_A [(qm, .inr (5, mo a th (nI n) li fm sm ab be st al)), (a 2, .inl (cyI, 48, .inl tI)), (a 4, .inl (cyI, 240, .inl sI))] sz)) 0 0 (va_A [(qm, .inr (5, mo a th (nI n) li fm sm ab be st al)), (a 2, .inl (cyI, 48, .inl tI)), (a 4, .inl (cyI, 240, .inl sI))] sz) := by
  refine mkW (Qc := fun A => (va_Ql (S := Int32) (fun (r : Int64) (u : Int32) => (shiftX n tI sI la gu f b t pt → u = 1) ∧ (¬ shiftX n tI sI la gu f b t pt → u = 0 ∧ r = shiftR n tI sI la gu f b t pt)) (WQ dd [(qm, .inr (5, mo a th (nI n) li fm sm ab be st al)), (a 2, .inl (cyI, 48, .inl tI)), (a 4, .inl (cyI, 240, .inl sI))] sz (fun u => [(qm, .inr (5, mo a u (nI n) li fm sm ab be st al)), (a 2, .inl (cyI, 48, .inl tI)), (a 4, .inl (cyI, 240, .inl sI))])) A)) (cc := cX5_shift) (maxL := 23) (by decide) rfl (Nat.le_of_ble_eq_true rfl) (lv0 := [(0, .ref qm), (1, .int la), (2, .int gu), (3, .int f), (4, .int b), (5, .int t), (6, .int pt)]) rfl ?_
  intro p e s m below meth c ls H A hx hb hr hml hown hlocks hts hmn hN hP hK hD hS hA hAe hl
  have hown : s.vm.findClass RX5 = some m.cls := hown
  have hiX5 : ∀ w ∈ wsX50, w ∈ wsX5_shift := by decide +kernel
  refine lv_aload_n hx hb dX5_shift_0 rfl (lv_at hl 0 rfl) ?_
  refine lv_iconst (v := 0) hx hb dX5_shift_1 (by decide) ?_
  refine va_put (D := dd) (ci := 5) (v := .int 0) (ty := .int) (C := RX5) (T := TX5) (N := 30) hx hb hts hiX5 tyX5 tyX5_ok nmX5 hown hK hP hD hS 0 rfl rfl 0 (by decide) (hts (.fieldLink RX5 75 "SliceDriftModel" "thrown" "I") (by decide +kernel)) (fun _ h9 => h9) rfl (by decide +kernel) rfl rfl (Nat.le_of_ble_eq_true rfl) dX5_shift_2 (fun H locs hP hD hS => ?_)
  have hP : va_P dd vwCl [(qm, .inr (5, mo a 0 (nI n) li fm sm ab be st al)), (a 2, .inl (cyI, 48, .inl tI)), (a 4, .inl (cyI, 240, .inl sI))] H := hP
  have hD : va_D A [(qm, .inr (5, mo a 0 (nI n) li fm sm ab be st al)), (a 2, .inl (cyI, 48, .inl tI)), (a 4, .inl (cyI, 240, .inl sI))] := hD
  refine lv_iload_n hx hb dX5_shift_5 rfl (lv_at hl 1 rfl) ?_
  refine lv_iconst (v := 0) hx hb dX5_shift_6 (by decide) ?_
  refine lv_iconst (v := 4) hx hb dX5_shift_7 (by decide) ?_
  refine clSi (As := [.int la, .int 0, .int 4]) (rest := []) ⟨hx, hb, hml, hown, hts⟩ (r_in l dd cyI cyJ cyZ la 0 4) gX5_shift_X5_in (n := 3) rfl ⟨rfl, rfl⟩ (by decide +kernel) ⟨Nat.le_of_ble_eq_true rfl, Nat.le_of_ble_eq_true rfl⟩ hN hK (hP.sub [] rfl) rfl hl.1 rfl (Nat.le_of_ble_eq_true rfl) dX5_shift_8 ⟨Nat.le_of_ble_eq_true rfl, Nat.le_of_ble_eq_true rfl⟩ (fun ck1 hck1 => ?_)
  refine lv_if_eq (tgt := 28) hx hb dX5_shift_11 (by decide) (fun qck1 => ?_) (fun qck1 => ?_)
  · have hck1 : ¬ (inC la) := hck1.elim (fun h => absurd (h.1.symm.trans qck1) (by decide)) (fun h => h.2)
    refine lv_ldc2 (v := (-1000001)) hx hb hown (hts (.constantLong RX5 115 (-1000001)) (by decide +kernel)) dX5_shift_28 ?_
    exact ewL 0 hx hb hr hlocks hAe hS dX5_shift_31 (⟨fun x => absurd x.1.1 hck1, fun _ => ⟨rfl, by rw [shiftR, if_neg (fun x : shOk la gu => hck1 x.1)]⟩⟩) (hP.sub [0, 1, 2] rfl) (hD.sub [0, 1, 2] (by decide) rfl)
  · have hck1 : inC la := hck1.elim (fun h => h.2) (fun h => absurd h.1 qck1)
    refine lv_iload_n hx hb dX5_shift_14 rfl (lv_at hl 2 rfl) ?_
    refine lv_iconst (v := 0) hx hb dX5_shift_15 (by decide) ?_
    refine lv_iconst (v := 4) hx hb dX5_shift_16 (by decide) ?_
    refine clSi (As := [.int gu, .int 0, .int 4]) (rest := []) ⟨hx, hb, hml, hown, hts⟩ (r_in l dd cyI cyJ cyZ gu 0 4) gX5_shift_X5_in (n := 3) rfl ⟨rfl, rfl⟩ (by decide +kernel) ⟨Nat.le_of_ble_eq_true rfl, Nat.le_of_ble_eq_true rfl⟩ hN hK (hP.sub [] rfl) rfl hl.1 rfl (Nat.le_of_ble_eq_true rfl) dX5_shift_17 ⟨Nat.le_of_ble_eq_true rfl, Nat.le_of_ble_eq_true rfl⟩ (fun ck2 hck2 => ?_)
    refine lv_if_eq (tgt := 28) hx hb dX5_shift_20 (by decide) (fun qck2 => ?_) (fun qck2 => ?_)
    · have hck2 : ¬ (inC gu) := hck2.elim (fun h => absurd (h.1.symm.trans qck2) (by decide)) (fun h => h.2)
      refine lv_ldc2 (v := (-1000001)) hx hb hown (hts (.constantLong RX5 115 (-1000001)) (by decide +kernel)) dX5_shift_28 ?_
      exact ewL 0 hx hb hr hlocks hAe hS dX5_shift_31 (⟨fun x => absurd x.1.2.1 hck2, fun _ => ⟨rfl, by rw [shiftR, if_neg (fun x : shOk la gu => hck2 x.2.1)]⟩⟩) (hP.sub [0, 1, 2] rfl) (hD.sub [0, 1, 2] (by decide) rfl)
    · have hck2 : inC gu := hck2.elim (fun h => h.2) (fun h => absurd h.1 qck2)
      refine lv_iload_n hx hb dX5_shift_23 rfl (lv_at hl 1 rfl) ?_
      refine lv_iload_n hx hb dX5_shift_24 rfl (lv_at hl 2 rfl) ?_
      refine lv_icmp_ne (tgt := 32) hx hb dX5_shift_25 (by decide) (fun q => ?_) (fun q => ?_)
      · have hok : shOk la gu := ⟨hck1, hck2, q⟩
        refine lv_iload_n hx hb dX5_shift_32 rfl (lv_at hl 3 rfl) ?_
        refine lv_iload hx hb dX5_shift_33 (lv_at hl 4 rfl) ?_
        refine lv_iload hx hb dX5_shift_35 (lv_at hl 5 rfl) ?_
        refine clSi (As := [.int f, .int b, .int t]) (rest := []) ⟨hx, hb, hml, hown, hts⟩ (r_areWindows l dd cyI cyJ cyZ f b t) gX5_shift_X5_areWindows (n := 3) rfl ⟨rfl, rfl⟩ (by decide +kernel) ⟨Nat.le_of_ble_eq_true rfl, Nat.le_of_ble_eq_true rfl⟩ hN hK (hP.sub [] rfl) rfl hl.1 rfl (Nat.le_of_ble_eq_true rfl) dX5_shift_37 ⟨Nat.le_of_ble_eq_true rfl, Nat.le_of_ble_eq_true rfl⟩ (fun ck3 hck3 => ?_)
        refine lv_if_eq (tgt := 53) hx hb dX5_shift_40 (by decide) (fun qck3 => ?_) (fun qck3 => ?_)
        · have hck3 : ¬ (inW f b t) := hck3.elim (fun h => absurd (h.1.symm.trans qck3) (by decide)) (fun h => h.2)
          refine lv_ldc2 (v := (-1000002)) hx hb hown (hts (.constantLong RX5 117 (-1000002)) (by decide +kernel)) dX5_shift_53 ?_
          exact ewL 0 hx hb hr hlocks hAe hS dX5_shift_56 (⟨fun x => absurd x.2.1.1 hck3, fun _ => ⟨rfl, by rw [shiftR, if_pos hok, if_neg (fun x : inW f b t ∧ inP pt => hck3 x.1)]⟩⟩) (hP.sub [0, 1, 2] rfl) (hD.sub [0, 1, 2] (by decide) rfl)
        · have hck3 : inW f b t := hck3.elim (fun h => h.2) (fun h => absurd h.1 qck3)
          refine lv_iload hx hb dX5_shift_43 (lv_at hl 6 rfl) ?_
          refine lv_iconst (v := 0) hx hb dX5_shift_45 (by decide) ?_
          refine lv_iconst (v := 1) hx hb dX5_shift_46 (by decide) ?_
          refine clSi (As := [.int pt, .int 0, .int 1]) (rest := []) ⟨hx, hb, hml, hown, hts⟩ (r_in l dd cyI cyJ cyZ pt 0 1) gX5_shift_X5_in (n := 3) rfl ⟨rfl, rfl⟩ (by decide +kernel) ⟨Nat.le_of_ble_eq_true rfl, Nat.le_of_ble_eq_true rfl⟩ hN hK (hP.sub [] rfl) rfl hl.1 rfl (Nat.le_of_ble_eq_true rfl) dX5_shift_47 ⟨Nat.le_of_ble_eq_true rfl, Nat.le_of_ble_eq_true rfl⟩ (fun ck4 hck4 => ?_)
          refine lv_if_ne (tgt := 57) hx hb dX5_shift_50 (by decide) (fun qck4 => ?_) (fun qck4 => ?_)
          · have hck4 : inP pt := hck4.elim (fun h => h.2) (fun h => absurd h.1 qck4)
            obtain ⟨c1, hc1, e1⟩ := inC_of hck1
            obtain ⟨c2, hc2, e2⟩ := inC_of hck2
            subst e1
            subst e2
            have ea : cl (nI c1) = c1 := cl_nI (by omega)
            have eb : cl (nI c2) = c2 := cl_nI (by omega)
            have hpt := inP_of hck4
            obtain ⟨F, eF⟩ : ∃ F, F = win tI f b := ⟨_, rfl⟩
            obtain ⟨G, eG⟩ : ∃ G, G = win tI b t := ⟨_, rfl⟩
            have hX : shiftX n tI sI (nI c1) (nI c2) f b t pt ↔ shZ F G sI c1 c2 n := by unfold shiftX; rw [ea, eb, eF, eG]; exact ⟨fun x => x.2.2, fun x => ⟨hok, ⟨hck3, hck4⟩, x⟩⟩
            have hRR : shiftR n tI sI (nI c1) (nI c2) f b t pt = if shDn F G sI c1 c2 n = 0 then -1000003 else lI (fr (shUp F G sI c1 c2 n) (shDn F G sI c1 c2 n) pt) := by rw [shiftR, if_pos hok, if_pos (show inW f b t ∧ inP pt from ⟨hck3, hck4⟩), ea, eb, eF, eG]
            rw [hX, hRR]
            refine lv_lconst (v := 0) hx hb dX5_shift_57 (by decide) ?_
            refine lv_lstore (lv' := [(7, .long 0), (0, .ref qm), (1, .int (nI c1)), (2, .int (nI c2)), (3, .int f), (4, .int b), (5, .int t), (6, .int pt)]) hx hb dX5_shift_58 hl (by decide) rfl (fun ls hl => ?_)
            refine lv_lconst (v := 0) hx hb dX5_shift_60 (by decide) ?_
            refine lv_lstore (lv' := [(9, .long 0), (7, .long 0), (0, .ref qm), (1, .int (nI c1)), (2, .int (nI c2)), (3, .int f), (4, .int b), (5, .int t), (6, .int pt)]) hx hb dX5_shift_61 hl (by decide) rfl (fun ls hl => ?_)
            refine lv_lconst (v := 0) hx hb dX5_shift_63 (by decide) ?_
            refine lv_lstore (lv' := [(11, .long 0), (9, .long 0), (7, .long 0), (0, .ref qm), (1, .int (nI c1)), (2, .int (nI c2)), (3, .int f), (4, .int b), (5, .int t), (6, .int pt)]) hx hb dX5_shift_64 hl (by decide) rfl (fun ls hl => ?_)
            refine lv_lconst (v := 0) hx hb dX5_shift_66 (by decide) ?_
            refine lv_lstore (lv' := [(13, .long 0), (11, .long 0), (9, .long 0), (7, .long 0), (0, .ref qm), (1, .int (nI c1)), (2, .int (nI c2)), (3, .int f), (4, .int b), (5, .int t), (6, .int pt)]) hx hb dX5_shift_67 hl (by decide) rfl (fun ls hl => ?_)
            refine lv_lconst (v := 0) hx hb dX5_shift_69 (by decide) ?_
            refine lv_lstore (lv' := [(15, .long 0), (13, .long 0), (11, .long 0), (9, .long 0), (7, .long 0), (0, .ref qm), (1, .int (nI c1)), (2, .int (nI c2)), (3, .int f), (4, .int b), (5, .int t), (6, .int pt)]) hx hb dX5_shift_70 hl (by decide) rfl (fun ls hl => ?_)
            refine lv_lconst (v := 0) hx hb dX5_shift_72 (by decide) ?_
            refine lv_lstore (lv' := [(17, .long 0), (15, .long 0), (13, .long 0), (11, .long 0), (9, .long 0), (7, .long 0), (0, .ref qm), (1, .int (nI c1)), (2, .int (nI c2)), (3, .int f), (4, .int b), (5, .int t), (6, .int pt)]) hx hb dX5_shift_73 hl (by decide) rfl (fun ls hl => ?_)
            refine lv_iconst (v := 0) hx hb dX5_shift_75 (by decide) ?_
            refine lv_istore (lv' := [(19, .int 0), (17, .long 0), (15, .long 0), (13, .long 0), (11, .long 0), (9, .long 0), (7, .long 0), (0, .ref qm), (1, .int (nI c1)), (2, .int (nI c2)), (3, .int f), (4, .int b), (5, .int t), (6, .int pt)]) hx hb dX5_shift_76 hl (by decide) rfl (fun ls hl => ?_)
            have loop : ∀ (k : Nat) (i : Nat) (H : Heap) (locs : List Loc), i + k = n → va_P dd vwCl [(qm, .inr (5, mo a 0 (nI n) li fm sm ab be st al)), (a 2, .inl (cyI, 48, .inl tI)), (a 4, .inl (cyI, 240, .inl sI))] H → va_D A [(qm, .inr (5, mo a 0 (nI n) li fm sm ab be st al)), (a 2, .inl (cyI, 48, .inl tI)), (a 4, .inl (cyI, 240, .inl sI))] → va_S A s.heap H locs → ∀ ls : Array Slot, lv_has ls 23 [(19, .int (nI i)), (7, .long (lN (cnt (shP F sI c1 c2 0) i))), (9, .long (lN (cnt (shQ F sI c1 c2 0) i))), (11, .long (lN (cnt (shP F sI c1 c2 1) i))), (13, .long (lN (cnt (shQ F sI c1 c2 1) i))), (15, .long (lN (cnt (shL G sI c2) i))), (17, .long (lN (cnt (shM G sI c2) i))), (0, .ref qm), (1, .int (nI c1)), (2, .int (nI c2)), (3, .int f), (4, .int b), (5, .int t), (6, .int pt)] → W p l e ({ frames := 2, cells := 0, slots := 0, locals := 60 } : Room) s m ([.ref qm, .int (nI c1), .int (nI c2), .int f, .int b, .int t, .int pt] : List Value).toArray below meth c H locs 0 0 (MQ below (va_Ql (S := Int32) (fun (r : Int64) (u : Int32) => (shZ F G sI c1 c2 n → u = 1) ∧ (¬ shZ F G sI c1 c2 n → u = 0 ∧ r = (if shDn F G sI c1 c2 n = 0 then -1000003 else lI (fr (shUp F G sI c1 c2 n) (shDn F G sI c1 c2 n) pt)))) (WQ dd [(qm, .inr (5, mo a th (nI n) li fm sm ab be st al)), (a 2, .inl (cyI, 48, .inl tI)), (a 4, .inl (cyI, 240, .inl sI))] sz (fun u => [(qm, .inr (5, mo a u (nI n) li fm sm ab be st al)), (a 2, .inl (cyI, 48, .inl tI)), (a 4, .inl (cyI, 240, .inl sI))])) A) ([.ref qm, .int (nI c1), .int (nI c2), .int f, .int b, .int t, .int pt] : List Value).toArray s 0 0 A) (F0 m 78 ls []) := by
              intro k
              induction k with
              | zero =>
                intro i H locs hi9 hP hD hS ls hl
                refine lv_iload hx hb dX5_shift_78 (lv_at hl 0 rfl) ?_
                refine lv_aload_n hx hb dX5_shift_80 rfl (lv_at hl 7 rfl) ?_
                refine va_get (D := dd) (ci := 5) (C := RX5) (T := TX5) (N := 30) (v := .int (nI n)) hx hb hts hiX5 hown hK hP 0 rfl rfl 1 (by decide) (hts (.fieldLink RX5 84 "SliceDriftModel" "rows" "I") (by decide +kernel)) (fun _ h9 => h9) rfl dX5_shift_81 ?_
                refine lv_icmp_ge (tgt := 236) hx hb dX5_shift_84 (by decide) (fun q7 => ?_) (fun q7 => ?_)
                · rw [show i = n by omega] at hl
                  have a0 := Nat.le_trans (cnt_le (shP F sI c1 c2 0) n) hn
                  have a1 := Nat.le_trans (cnt_le (shQ F sI c1 c2 0) n) hn
                  have a2 := Nat.le_trans (cnt_le (shP F sI c1 c2 1) n) hn
                  have a3 := Nat.le_trans (cnt_le (shQ F sI c1 c2 1) n) hn
                  have a4 := Nat.le_trans (cnt_le (shL G sI c2) n) hn
                  have a5 := Nat.le_trans (cnt_le (shM G sI c2) n) hn
                  refine lv_lload hx hb dX5_shift_236 (lv_at hl 1 rfl) ?_
                  refine lv_lconst (v := 0) hx hb dX5_shift_238 (by decide) ?_
                  refine W.lcmp hx hb dX5_shift_239 ?_
                  refine lv_if_eq (tgt := 257) hx hb dX5_shift_240 (by decide) (fun r1 => ?_) (fun r1 => ?_)
                  · refine lv_aload_n hx hb dX5_shift_257 rfl (lv_at hl 7 rfl) ?_
                    refine lv_iconst (v := 1) hx hb dX5_shift_258 (by decide) ?_
                    refine va_put (D := dd) (ci := 5) (v := .int 1) (ty := .int) (C := RX5) (T := TX5) (N := 30) hx hb hts hiX5 tyX5 tyX5_ok nmX5 hown hK hP hD hS 0 rfl rfl 0 (by decide) (hts (.fieldLink RX5 75 "SliceDriftModel" "thrown" "I") (by decide +kernel)) (fun _ h9 => h9) rfl (by decide +kernel) rfl rfl (Nat.le_of_ble_eq_true rfl) dX5_shift_259 (fun H locs hP hD hS => ?_)
                    have hP : va_P dd vwCl [(qm, .inr (5, mo a 1 (nI n) li fm sm ab be st al)), (a 2, .inl (cyI, 48, .inl tI)), (a 4, .inl (cyI, 240, .inl sI))] H := hP
                    have hD : va_D A [(qm, .inr (5, mo a 1 (nI n) li fm sm ab be st al)), (a 2, .inl (cyI, 48, .inl tI)), (a 4, .inl (cyI, 240, .inl sI))] := hD
                    refine lv_lconst (v := 0) hx hb dX5_shift_262 (by decide) ?_
                    exact ewL 1 hx hb hr hlocks hAe hS dX5_shift_263 (⟨fun _ => rfl, fun x => absurd (show shZ F G sI c1 c2 n from Or.inl ((lN0 (by omega)).mp r1)) x⟩) (hP.sub [0, 1, 2] rfl) (hD.sub [0, 1, 2] (by decide) rfl)
                  · refine lv_lload hx hb dX5_shift_243 (lv_at hl 3 rfl) ?_
                    refine lv_lconst (v := 0) hx hb dX5_shift_245 (by decide) ?_
                    refine W.lcmp hx hb dX5_shift_246 ?_
                    refine lv_if_eq (tgt := 257) hx hb dX5_shift_247 (by decide) (fun r2 => ?_) (fun r2 => ?_)
                    · refine lv_aload_n hx hb dX5_shift_257 rfl (lv_at hl 7 rfl) ?_
                      refine lv_iconst (v := 1) hx hb dX5_shift_258 (by decide) ?_
                      refine va_put (D := dd) (ci := 5) (v := .int 1) (ty := .int) (C := RX5) (T := TX5) (N := 30) hx hb hts hiX5 tyX5 tyX5_ok nmX5 hown hK hP hD hS 0 rfl rfl 0 (by decide) (hts (.fieldLink RX5 75 "SliceDriftModel" "thrown" "I") (by decide +kernel)) (fun _ h9 => h9) rfl (by decide +kernel) rfl rfl (Nat.le_of_ble_eq_true rfl) dX5_shift_259 (fun H locs hP hD hS => ?_)
                      have hP : va_P dd vwCl [(qm, .inr (5, mo a 1 (nI n) li fm sm ab be st al)), (a 2, .inl (cyI, 48, .inl tI)), (a 4, .inl (cyI, 240, .inl sI))] H := hP
                      have hD : va_D A [(qm, .inr (5, mo a 1 (nI n) li fm sm ab be st al)), (a 2, .inl (cyI, 48, .inl tI)), (a 4, .inl (cyI, 240, .inl sI))] := hD
                      refine lv_lconst (v := 0) hx hb dX5_shift_262 (by decide) ?_
                      exact ewL 1 hx hb hr hlocks hAe hS dX5_shift_263 (⟨fun _ => rfl, fun x => absurd (show shZ F G sI c1 c2 n from Or.inr (Or.inl ((lN0 (by omega)).mp r2))) x⟩) (hP.sub [0, 1, 2] rfl) (hD.sub [0, 1, 2] (by decide) rfl)
                    · refine lv_lload hx hb dX5_shift_250 (lv_at hl 5 rfl) ?_
                      refine lv_lconst (v := 0) hx hb dX5_shift_252 (by decide) ?_
                      refine W.lcmp hx hb dX5_shift_253 ?_
                      refine lv_if_ne (tgt := 264) hx hb dX5_shift_254 (by decide) (fun r3 => ?_) (fun r3 => ?_)
                      · have hZ : ¬ shZ F G sI c1 c2 n := fun x => x.elim (fun h => r1 ((lN0 (by omega)).mpr h)) (fun x => x.elim (fun h => r2 ((lN0 (by omega)).mpr h)) (fun h => r3 ((lN0 (by omega)).mpr h)))
                        have hdn : (shDn F G sI c1 c2 n).natAbs < 2 ^ 62 := iB a3 a0 a1 a2 a4
                        have hup : (shUp F G sI c1 c2 n).natAbs < 2 ^ 62 := iB a5 a0 a1 a4 a2
                        refine lv_lload hx hb dX5_shift_264 (lv_at hl 4 rfl) ?_
                        refine lv_lload hx hb dX5_shift_266 (lv_at hl 1 rfl) ?_
                        refine lv_lmul hx hb dX5_shift_268 ?_
                        refine tpl (show ((lN (cnt (shQ F sI c1 c2 1) n)) * (lN (cnt (shP F sI c1 c2 0) n)) : Int64) = lN (cnt (shQ F sI c1 c2 1) n * cnt (shP F sI c1 c2 0) n) from lN_mul _ _) ?_
                        refine lv_lload hx hb dX5_shift_269 (lv_at hl 2 rfl) ?_
                        refine lv_lload hx hb dX5_shift_271 (lv_at hl 3 rfl) ?_
                        refine lv_lmul hx hb dX5_shift_273 ?_
                        refine tpl (show ((lN (cnt (shQ F sI c1 c2 0) n)) * (lN (cnt (shP F sI c1 c2 1) n)) : Int64) = lN (cnt (shQ F sI c1 c2 0) n * cnt (shP F sI c1 c2 1) n) from lN_mul _ _) ?_
                        refine lv_lsub hx hb dX5_shift_274 ?_
                        refine tpl (show ((lN (cnt (shQ F sI c1 c2 1) n * cnt (shP F sI c1 c2 0) n)) - (lN (cnt (shQ F sI c1 c2 0) n * cnt (shP F sI c1 c2 1) n)) : Int64) = lI (((cnt (shQ F sI c1 c2 1) n * cnt (shP F sI c1 c2 0) n : Nat) : Int) - ((cnt (shQ F sI c1 c2 0) n * cnt (shP F sI c1 c2 1) n : Nat) : Int)) from lsubI _ _) ?_
                        refine lv_lload hx hb dX5_shift_275 (lv_at hl 5 rfl) ?_
                        refine lv_lmul hx hb dX5_shift_277 ?_
                        refine tpl (show ((lI (((cnt (shQ F sI c1 c2 1) n * cnt (shP F sI c1 c2 0) n : Nat) : Int) - ((cnt (shQ F sI c1 c2 0) n * cnt (shP F sI c1 c2 1) n : Nat) : Int))) * (lN (cnt (shL G sI c2) n)) : Int64) = lI (shDn F G sI c1 c2 n) from lmulI _ _) ?_
                        refine lv_lstore (lv' := [(19, .long (lI (shDn F G sI c1 c2 n))), (7, .long (lN (cnt (shP F sI c1 c2 0) n))), (9, .long (lN (cnt (shQ F sI c1 c2 0) n))), (11, .long (lN (cnt (shP F sI c1 c2 1) n))), (13, .long (lN (cnt (shQ F sI c1 c2 1) n))), (15, .long (lN (cnt (shL G sI c2) n))), (17, .long (lN (cnt (shM G sI c2) n))), (0, .ref qm), (1, .int (nI c1)), (2, .int (nI c2)), (3, .int f), (4, .int b), (5, .int t), (6, .int pt)]) hx hb dX5_shift_278 hl (by decide) rfl (fun ls hl => ?_)
                        refine lv_lload hx hb dX5_shift_280 (lv_at hl 6 rfl) ?_
                        refine lv_lload hx hb dX5_shift_282 (lv_at hl 1 rfl) ?_
                        refine lv_lmul hx hb dX5_shift_284 ?_
                        refine tpl (show ((lN (cnt (shM G sI c2) n)) * (lN (cnt (shP F sI c1 c2 0) n)) : Int64) = lN (cnt (shM G sI c2) n * cnt (shP F sI c1 c2 0) n) from lN_mul _ _) ?_
                        refine lv_lload hx hb dX5_shift_285 (lv_at hl 2 rfl) ?_
                        refine lv_lload hx hb dX5_shift_287 (lv_at hl 5 rfl) ?_
                        refine lv_lmul hx hb dX5_shift_289 ?_
                        refine tpl (show ((lN (cnt (shQ F sI c1 c2 0) n)) * (lN (cnt (shL G sI c2) n)) : Int64) = lN (cnt (shQ F sI c1 c2 0) n * cnt (shL G sI c2) n) from lN_mul _ _) ?_
                        refine lv_lsub hx hb dX5_shift_290 ?_
                        refine tpl (show ((lN (cnt (shM G sI c2) n * cnt (shP F sI c1 c2 0) n)) - (lN (cnt (shQ F sI c1 c2 0) n * cnt (shL G sI c2) n)) : Int64) = lI (((cnt (shM G sI c2) n * cnt (shP F sI c1 c2 0) n : Nat) : Int) - ((cnt (shQ F sI c1 c2 0) n * cnt (shL G sI c2) n : Nat) : Int)) from lsubI _ _) ?_
                        refine lv_lload hx hb dX5_shift_291 (lv_at hl 3 rfl) ?_
                        refine lv_lmul hx hb dX5_shift_293 ?_
                        refine tpl (show ((lI (((cnt (shM G sI c2) n * cnt (shP F sI c1 c2 0) n : Nat) : Int) - ((cnt (shQ F sI c1 c2 0) n * cnt (shL G sI c2) n : Nat) : Int))) * (lN (cnt (shP F sI c1 c2 1) n)) : Int64) = lI (shUp F G sI c1 c2 n) from lmulI _ _) ?_
                        refine lv_lstore (lv' := [(21, .long (lI (shUp F G sI c1 c2 n))), (19, .long (lI (shDn F G sI c1 c2 n))), (7, .long (lN (cnt (shP F sI c1 c2 0) n))), (9, .long (lN (cnt (shQ F sI c1 c2 0) n))), (11, .long (lN (cnt (shP F sI c1 c2 1) n))), (13, .long (lN (cnt (shQ F sI c1 c2 1) n))), (15, .long (lN (cnt (shL G sI c2) n))), (17, .long (lN (cnt (shM G sI c2) n))), (0, .ref qm), (1, .int (nI c1)), (2, .int (nI c2)), (3, .int f), (4, .int b), (5, .int t), (6, .int pt)]) hx hb dX5_shift_294 hl (by decide) rfl (fun ls hl => ?_)
                        refine lv_lload hx hb dX5_shift_296 (lv_at hl 1 rfl) ?_
                        refine lv_lconst (v := 0) hx hb dX5_shift_298 (by decide) ?_
                        refine W.lcmp hx hb dX5_shift_299 ?_
                        refine lv_if_ne (tgt := 307) hx hb dX5_shift_300 (by decide) (fun r4 => ?_) (fun r4 => ?_)
                        · have hd0 : ¬ shDn F G sI c1 c2 n = 0 := fun h => r4 ((lI0 hdn).mpr h)
                          refine lv_lload hx hb dX5_shift_307 (lv_at hl 1 rfl) ?_
                          refine lv_lconst (v := 0) hx hb dX5_shift_309 (by decide) ?_
                          refine W.lcmp hx hb dX5_shift_310 ?_
                          refine lv_if_ge (tgt := 328) hx hb dX5_shift_311 (by decide) (fun r5 => ?_) (fun r5 => ?_)
                          · have hg : 0 ≤ shDn F G sI c1 c2 n := (lI_ge hdn).mp r5
                            refine lv_lload hx hb dX5_shift_328 (lv_at hl 0 rfl) ?_
                            refine lv_lload hx hb dX5_shift_330 (lv_at hl 1 rfl) ?_
                            refine tpl (show (lI (shDn F G sI c1 c2 n) : Int64) = lN (shDn F G sI c1 c2 n).natAbs from lpos_abs hg) ?_
                            refine lv_iload hx hb dX5_shift_332 (lv_at hl 14 rfl) ?_
                            refine clSl (As := [.long (lI (shUp F G sI c1 c2 n)), .long (lN (shDn F G sI c1 c2 n).natAbs), .int pt]) (rest := []) ⟨hx, hb, hml, hown, hts⟩ (r_part l dd cyI cyJ cyZ (shUp F G sI c1 c2 n) (shDn F G sI c1 c2 n).natAbs pt hup hdn (by omega) hpt) gX5_shift_X5_part (n := 3) rfl ⟨rfl, rfl⟩ (by decide +kernel) ⟨Nat.le_of_ble_eq_true rfl, Nat.le_of_ble_eq_true rfl⟩ hN hK (hP.sub [] rfl) rfl hl.1 rfl (Nat.le_of_ble_eq_true rfl) dX5_shift_334 ⟨Nat.le_of_ble_eq_true rfl, Nat.le_of_ble_eq_true rfl⟩ (fun rr hrr => ?_)
                            exact ewL 0 hx hb hr hlocks hAe hS dX5_shift_337 (⟨fun x => absurd x hZ, fun _ => ⟨rfl, by rw [hrr, if_neg hd0, Int.natAbs_of_nonneg hg]⟩⟩) (hP.sub [0, 1, 2] rfl) (hD.sub [0, 1, 2] (by decide) rfl)
                          · have hg : shDn F G sI c1 c2 n < 0 := Int.not_le.mp (fun h => r5 ((lI_ge hdn).mpr h))
                            refine lv_lload hx hb dX5_shift_314 (lv_at hl 0 rfl) ?_
                            refine lv_lneg hx hb dX5_shift_316 ?_
                            refine tpl (show (-(lI (shUp F G sI c1 c2 n)) : Int64) = lI (-shUp F G sI c1 c2 n) from (Int64.ofInt_neg _).symm) ?_
                            refine lv_lload hx hb dX5_shift_317 (lv_at hl 1 rfl) ?_
                            refine lv_lneg hx hb dX5_shift_319 ?_
                            refine tpl (show (-(lI (shDn F G sI c1 c2 n)) : Int64) = lN (shDn F G sI c1 c2 n).natAbs from lneg_abs hg) ?_
                            refine lv_iload hx hb dX5_shift_320 (lv_at hl 14 rfl) ?_
                            refine clSl (As := [.long (lI (-shUp F G sI c1 c2 n)), .long (lN (shDn F G sI c1 c2 n).natAbs), .int pt]) (rest := []) ⟨hx, hb, hml, hown, hts⟩ (r_part l dd cyI cyJ cyZ (-shUp F G sI c1 c2 n) (shDn F G sI c1 c2 n).natAbs pt (by rw [Int.natAbs_neg]; exact hup) hdn (by omega) hpt) gX5_shift_X5_part (n := 3) rfl ⟨rfl, rfl⟩ (by decide +kernel) ⟨Nat.le_of_ble_eq_true rfl, Nat.le_of_ble_eq_true rfl⟩ hN hK (hP.sub [] rfl) rfl hl.1 rfl (Nat.le_of_ble_eq_true rfl) dX5_shift_322 ⟨Nat.le_of_ble_eq_true rfl, Nat.le_of_ble_eq_true rfl⟩ (fun rr hrr => ?_)
                            refine lv_goto (tgt := 337) hx hb dX5_shift_325 (by decide) ?_
                            exact ewL 0 hx hb hr hlocks hAe hS dX5_shift_337 (⟨fun x => absurd x hZ, fun _ => ⟨rfl, by rw [hrr, if_neg hd0, show (((shDn F G sI c1 c2 n).natAbs : Nat) : Int) = -shDn F G sI c1 c2 n by omega, fr_neg hg]⟩⟩) (hP.sub [0, 1, 2] rfl) (hD.sub [0, 1, 2] (by decide) rfl)
                        · refine lv_ldc2 (v := (-1000003)) hx hb hown (hts (.constantLong RX5 160 (-1000003)) (by decide +kernel)) dX5_shift_303 ?_
                          exact ewL 0 hx hb hr hlocks hAe hS dX5_shift_306 (⟨fun x => absurd x hZ, fun _ => ⟨rfl, by rw [if_pos ((lI0 hdn).mp r4)]⟩⟩) (hP.sub [0, 1, 2] rfl) (hD.sub [0, 1, 2] (by decide) rfl)
                      · refine lv_aload_n hx hb dX5_shift_257 rfl (lv_at hl 7 rfl) ?_
                        refine lv_iconst (v := 1) hx hb dX5_shift_258 (by decide) ?_
                        refine va_put (D := dd) (ci := 5) (v := .int 1) (ty := .int) (C := RX5) (T := TX5) (N := 30) hx hb hts hiX5 tyX5 tyX5_ok nmX5 hown hK hP hD hS 0 rfl rfl 0 (by decide) (hts (.fieldLink RX5 75 "SliceDriftModel" "thrown" "I") (by decide +kernel)) (fun _ h9 => h9) rfl (by decide +kernel) rfl rfl (Nat.le_of_ble_eq_true rfl) dX5_shift_259 (fun H locs hP hD hS => ?_)
                        have hP : va_P dd vwCl [(qm, .inr (5, mo a 1 (nI n) li fm sm ab be st al)), (a 2, .inl (cyI, 48, .inl tI)), (a 4, .inl (cyI, 240, .inl sI))] H := hP
                        have hD : va_D A [(qm, .inr (5, mo a 1 (nI n) li fm sm ab be st al)), (a 2, .inl (cyI, 48, .inl tI)), (a 4, .inl (cyI, 240, .inl sI))] := hD
                        refine lv_lconst (v := 0) hx hb dX5_shift_262 (by decide) ?_
                        exact ewL 1 hx hb hr hlocks hAe hS dX5_shift_263 (⟨fun _ => rfl, fun x => absurd (show shZ F G sI c1 c2 n from Or.inr (Or.inr ((lN0 (by omega)).mp r3))) x⟩) (hP.sub [0, 1, 2] rfl) (hD.sub [0, 1, 2] (by decide) rfl)
                · exact absurd (nI_le (show n ≤ i by omega) (by omega)) q7
              | succ k ih =>
                intro i H locs hi9 hP hD hS ls hl
                refine lv_iload hx hb dX5_shift_78 (lv_at hl 0 rfl) ?_
                refine lv_aload_n hx hb dX5_shift_80 rfl (lv_at hl 7 rfl) ?_
                refine va_get (D := dd) (ci := 5) (C := RX5) (T := TX5) (N := 30) (v := .int (nI n)) hx hb hts hiX5 hown hK hP 0 rfl rfl 1 (by decide) (hts (.fieldLink RX5 84 "SliceDriftModel" "rows" "I") (by decide +kernel)) (fun _ h9 => h9) rfl dX5_shift_81 ?_
                refine lv_icmp_ge (tgt := 236) hx hb dX5_shift_84 (by decide) (fun q7 => ?_) (fun q7 => ?_)
                · exact absurd q7 (nI_ge (show i < n by omega) (by omega))
                · obtain ⟨kg, hkg, eg⟩ := hSo i (by omega) c2 hc2
                  obtain ⟨kl, hkl, el⟩ := hSo i (by omega) c1 hc1
                  have hak : ak sI c2 i = decide (kg < 2) := ak_k hkg eg
                  have hl0 := hav_k (k := 0) (by decide) hkl el
                  have hl1 := hav_k (k := 1) (by decide) hkl el
                  have hg1 := hav_k (k := 1) (by decide) hkg eg
                  refine lv_aload_n hx hb dX5_shift_87 rfl (lv_at hl 7 rfl) ?_
                  refine va_get (D := dd) (ci := 5) (C := RX5) (T := TX5) (N := 30) (v := .ref (a 4)) hx hb hts hiX5 hown hK hP 0 rfl rfl 4 (by decide) (hts (.fieldLink RX5 17 "SliceDriftModel" "sort" "[I") (by decide +kernel)) (fun _ h9 => h9) rfl dX5_shift_88 ?_
                  refine lv_iconst (v := 5) hx hb dX5_shift_91 (by decide) ?_
                  refine lv_iload hx hb dX5_shift_92 (lv_at hl 0 rfl) ?_
                  refine lv_imul hx hb dX5_shift_94 ?_
                  refine lv_iload_n hx hb dX5_shift_95 rfl (lv_at hl 9 rfl) ?_
                  refine lv_iadd hx hb dX5_shift_96 ?_
                  refine tpi (show ((5 * (nI i)) + (nI c2) : Int32) = nI (5 * i + c2) from by rw [show (5 : Int32) = nI 5 from rfl, pk_mul, nI_add]) ?_
                  refine va_iald hx hb hK hP 2 0 rfl rfl (i := nI (5 * i + c2)) (vp_in_nI (show (5 * i + c2) < 240 from (by omega)) (by decide)) dX5_shift_97 ?_
                  rw [nI_clamp (show (5 * i + c2) < 2 ^ 31 from Nat.lt_trans (show (5 * i + c2) < 240 from (by omega)) (by decide))]
                  refine tpi (show (sI (5 * i + c2) : Int32) = nI kg from eg) ?_
                  refine lv_istore (lv' := [(20, .int (nI kg)), (19, .int (nI i)), (7, .long (lN (cnt (shP F sI c1 c2 0) i))), (9, .long (lN (cnt (shQ F sI c1 c2 0) i))), (11, .long (lN (cnt (shP F sI c1 c2 1) i))), (13, .long (lN (cnt (shQ F sI c1 c2 1) i))), (15, .long (lN (cnt (shL G sI c2) i))), (17, .long (lN (cnt (shM G sI c2) i))), (0, .ref qm), (1, .int (nI c1)), (2, .int (nI c2)), (3, .int f), (4, .int b), (5, .int t), (6, .int pt)]) hx hb dX5_shift_98 hl (by decide) rfl (fun ls hl => ?_)
                  refine lv_aload_n hx hb dX5_shift_100 rfl (lv_at hl 8 rfl) ?_
                  refine va_get (D := dd) (ci := 5) (C := RX5) (T := TX5) (N := 30) (v := .ref (a 4)) hx hb hts hiX5 hown hK hP 0 rfl rfl 4 (by decide) (hts (.fieldLink RX5 17 "SliceDriftModel" "sort" "[I") (by decide +kernel)) (fun _ h9 => h9) rfl dX5_shift_101 ?_
                  refine lv_iconst (v := 5) hx hb dX5_shift_104 (by decide) ?_
                  refine lv_iload hx hb dX5_shift_105 (lv_at hl 1 rfl) ?_
                  refine lv_imul hx hb dX5_shift_107 ?_
                  refine lv_iload_n hx hb dX5_shift_108 rfl (lv_at hl 9 rfl) ?_
                  refine lv_iadd hx hb dX5_shift_109 ?_
                  refine tpi (show ((5 * (nI i)) + (nI c1) : Int32) = nI (5 * i + c1) from by rw [show (5 : Int32) = nI 5 from rfl, pk_mul, nI_add]) ?_
                  refine va_iald hx hb hK hP 2 0 rfl rfl (i := nI (5 * i + c1)) (vp_in_nI (show (5 * i + c1) < 240 from (by omega)) (by decide)) dX5_shift_110 ?_
                  rw [nI_clamp (show (5 * i + c1) < 2 ^ 31 from Nat.lt_trans (show (5 * i + c1) < 240 from (by omega)) (by decide))]
                  refine tpi (show (sI (5 * i + c1) : Int32) = nI kl from el) ?_
                  refine lv_istore (lv' := [(21, .int (nI kl)), (20, .int (nI kg)), (19, .int (nI i)), (7, .long (lN (cnt (shP F sI c1 c2 0) i))), (9, .long (lN (cnt (shQ F sI c1 c2 0) i))), (11, .long (lN (cnt (shP F sI c1 c2 1) i))), (13, .long (lN (cnt (shQ F sI c1 c2 1) i))), (15, .long (lN (cnt (shL G sI c2) i))), (17, .long (lN (cnt (shM G sI c2) i))), (0, .ref qm), (1, .int (nI c1)), (2, .int (nI c2)), (3, .int f), (4, .int b), (5, .int t), (6, .int pt)]) hx hb dX5_shift_111 hl (by decide) rfl (fun ls hl => ?_)
                  have m197 : ∀ ls : Array Slot, lv_has ls 23 [(21, .int (nI kl)), (20, .int (nI kg)), (19, .int (nI i)), (7, .long (lN (cnt (shP F sI c1 c2 0) (i + 1)))), (9, .long (lN (cnt (shQ F sI c1 c2 0) (i + 1)))), (11, .long (lN (cnt (shP F sI c1 c2 1) (i + 1)))), (13, .long (lN (cnt (shQ F sI c1 c2 1) (i + 1)))), (15, .long (lN (cnt (shL G sI c2) i))), (17, .long (lN (cnt (shM G sI c2) i))), (0, .ref qm), (1, .int (nI c1)), (2, .int (nI c2)), (3, .int f), (4, .int b), (5, .int t), (6, .int pt)] → W p l e ({ frames := 2, cells := 0, slots := 0, locals := 60 } : Room) s m ([.ref qm, .int (nI c1), .int (nI c2), .int f, .int b, .int t, .int pt] : List Value).toArray below meth c H locs 0 0 (MQ below (va_Ql (S := Int32) (fun (r : Int64) (u : Int32) => (shZ F G sI c1 c2 n → u = 1) ∧ (¬ shZ F G sI c1 c2 n → u = 0 ∧ r = (if shDn F G sI c1 c2 n = 0 then -1000003 else lI (fr (shUp F G sI c1 c2 n) (shDn F G sI c1 c2 n) pt)))) (WQ dd [(qm, .inr (5, mo a th (nI n) li fm sm ab be st al)), (a 2, .inl (cyI, 48, .inl tI)), (a 4, .inl (cyI, 240, .inl sI))] sz (fun u => [(qm, .inr (5, mo a u (nI n) li fm sm ab be st al)), (a 2, .inl (cyI, 48, .inl tI)), (a 4, .inl (cyI, 240, .inl sI))])) A) ([.ref qm, .int (nI c1), .int (nI c2), .int f, .int b, .int t, .int pt] : List Value).toArray s 0 0 A) (F0 m 197 ls []) := by
                    intro ls hl
                    refine lv_iload hx hb dX5_shift_197 (lv_at hl 1 rfl) ?_
                    refine lv_iconst (v := 2) hx hb dX5_shift_199 (by decide) ?_
                    refine lv_icmp_ge (tgt := 230) hx hb dX5_shift_200 (by decide) (fun s1 => ?_) (fun s1 => ?_)
                    · have h2 : ¬ kg < 2 := fun h => absurd s1 (nI_ge (b := 2) h (by decide))
                      refine lv_iinc (v := nI (i + 1)) (lv' := [(19, .int (nI (i + 1))), (21, .int (nI kl)), (20, .int (nI kg)), (7, .long (lN (cnt (shP F sI c1 c2 0) (i + 1)))), (9, .long (lN (cnt (shQ F sI c1 c2 0) (i + 1)))), (11, .long (lN (cnt (shP F sI c1 c2 1) (i + 1)))), (13, .long (lN (cnt (shQ F sI c1 c2 1) (i + 1)))), (15, .long (lN (cnt (shL G sI c2) i))), (17, .long (lN (cnt (shM G sI c2) i))), (0, .ref qm), (1, .int (nI c1)), (2, .int (nI c2)), (3, .int f), (4, .int b), (5, .int t), (6, .int pt)]) hx hb dX5_shift_230 hl (k := 2) rfl (nI_1 i) (by decide) rfl (fun ls hl => ?_)
                      refine lv_goto (tgt := 78) hx hb dX5_shift_233 (by decide) ?_
                      exact ih (i + 1) H locs (by omega) hP hD hS ls (by rw [cnt_n (f := shL G sI c2) (by simp [shL, hak, h2]), cnt_n (f := shM G sI c2) (by simp [shM, shL, hak, h2])]; exact (lv_sub hl [0, 3, 4, 5, 6, 7, 8, 9, 10, 11, 12, 13, 14, 15] rfl))
                    · have h2 : kg < 2 := Nat.lt_of_not_le (fun h => s1 (nI_le (a := 2) h (by omega)))
                      refine lv_aload_n hx hb dX5_shift_203 rfl (lv_at hl 9 rfl) ?_
                      refine lv_iload hx hb dX5_shift_204 (lv_at hl 2 rfl) ?_
                      refine lv_iload hx hb dX5_shift_206 (lv_at hl 13 rfl) ?_
                      refine lv_iload hx hb dX5_shift_208 (lv_at hl 14 rfl) ?_
                      refine clVi (As := [.int (nI i), .int b, .int t]) (rest := []) (b := qm) (vc := (RX5, TX5, 30)) ⟨hx, hb, hml, hown, hts⟩ (r_isIn l dd cyI cyJ cyZ qm a 0 (nI n) li fm sm ab be st al tI i (by omega) b t) gX5_shift_X5_isIn (ci := 5) rfl (q0 := 0) rfl (n := 3) rfl ⟨rfl, rfl⟩ (by decide +kernel) ⟨Nat.le_of_ble_eq_true rfl, Nat.le_of_ble_eq_true rfl⟩ hN hK (hP.sub [0, 1] rfl) rfl hl.1 rfl (Nat.le_of_ble_eq_true rfl) dX5_shift_210 ⟨Nat.le_of_ble_eq_true rfl, Nat.le_of_ble_eq_true rfl⟩ (fun b2 hb2 => ?_)
                      rw [← eG] at hb2
                      refine lv_if_eq (tgt := 230) hx hb dX5_shift_213 (by decide) (fun s2 => ?_) (fun s2 => ?_)
                      · have g0 : G i = false := (Bool.not_eq_true _).mp (fun h => by rw [if_pos h] at hb2; exact absurd (hb2.symm.trans s2) (by decide))
                        refine lv_iinc (v := nI (i + 1)) (lv' := [(19, .int (nI (i + 1))), (21, .int (nI kl)), (20, .int (nI kg)), (7, .long (lN (cnt (shP F sI c1 c2 0) (i + 1)))), (9, .long (lN (cnt (shQ F sI c1 c2 0) (i + 1)))), (11, .long (lN (cnt (shP F sI c1 c2 1) (i + 1)))), (13, .long (lN (cnt (shQ F sI c1 c2 1) (i + 1)))), (15, .long (lN (cnt (shL G sI c2) i))), (17, .long (lN (cnt (shM G sI c2) i))), (0, .ref qm), (1, .int (nI c1)), (2, .int (nI c2)), (3, .int f), (4, .int b), (5, .int t), (6, .int pt)]) hx hb dX5_shift_230 hl (k := 2) rfl (nI_1 i) (by decide) rfl (fun ls hl => ?_)
                        refine lv_goto (tgt := 78) hx hb dX5_shift_233 (by decide) ?_
                        exact ih (i + 1) H locs (by omega) hP hD hS ls (by rw [cnt_n (f := shL G sI c2) (by simp [shL, g0]), cnt_n (f := shM G sI c2) (by simp [shM, shL, g0])]; exact (lv_sub hl [0, 3, 4, 5, 6, 7, 8, 9, 10, 11, 12, 13, 14, 15] rfl))
                      · have g0 : G i = true := (Bool.not_eq_false _).mp (fun h => s2 (by rw [hb2, if_neg (by rw [h]; decide)]))
                        refine lv_lload hx hb dX5_shift_216 (lv_at hl 7 rfl) ?_
                        refine lv_lconst (v := 1) hx hb dX5_shift_218 (by decide) ?_
                        refine lv_ladd hx hb dX5_shift_219 ?_
                        refine tpl (show ((lN (cnt (shL G sI c2) i)) + 1 : Int64) = lN (cnt (shL G sI c2) (i + 1)) from by rw [cnt_y (f := shL G sI c2) (by simp [shL, hak, h2, g0])]; exact lN_1 _) ?_
                        refine lv_lstore (lv' := [(15, .long (lN (cnt (shL G sI c2) (i + 1)))), (21, .int (nI kl)), (20, .int (nI kg)), (19, .int (nI i)), (7, .long (lN (cnt (shP F sI c1 c2 0) (i + 1)))), (9, .long (lN (cnt (shQ F sI c1 c2 0) (i + 1)))), (11, .long (lN (cnt (shP F sI c1 c2 1) (i + 1)))), (13, .long (lN (cnt (shQ F sI c1 c2 1) (i + 1)))), (17, .long (lN (cnt (shM G sI c2) i))), (0, .ref qm), (1, .int (nI c1)), (2, .int (nI c2)), (3, .int f), (4, .int b), (5, .int t), (6, .int pt)]) hx hb dX5_shift_220 hl (by decide) rfl (fun ls hl => ?_)
                        refine lv_lload hx hb dX5_shift_222 (lv_at hl 8 rfl) ?_
                        refine lv_iload hx hb dX5_shift_224 (lv_at hl 2 rfl) ?_
                        refine lv_i2l hx hb dX5_shift_226 rfl ?_
                        refine tpl (show ((nI kg).toInt64 : Int64) = lN kg from nI_l (by omega)) ?_
                        refine lv_ladd hx hb dX5_shift_227 ?_
                        refine tpl (show ((lN (cnt (shM G sI c2) i)) + (lN kg) : Int64) = lN (cnt (shM G sI c2) (i + 1)) from by rw [lN_add, cnt_if]; congr 2; simp only [shM, shL, hak, h2, g0, hg1]; rcases (show kg = 0 ∨ kg = 1 by omega) with h | h <;> rw [h] <;> rfl) ?_
                        refine lv_lstore (lv' := [(17, .long (lN (cnt (shM G sI c2) (i + 1)))), (15, .long (lN (cnt (shL G sI c2) (i + 1)))), (21, .int (nI kl)), (20, .int (nI kg)), (19, .int (nI i)), (7, .long (lN (cnt (shP F sI c1 c2 0) (i + 1)))), (9, .long (lN (cnt (shQ F sI c1 c2 0) (i + 1)))), (11, .long (lN (cnt (shP F sI c1 c2 1) (i + 1)))), (13, .long (lN (cnt (shQ F sI c1 c2 1) (i + 1)))), (0, .ref qm), (1, .int (nI c1)), (2, .int (nI c2)), (3, .int f), (4, .int b), (5, .int t), (6, .int pt)]) hx hb dX5_shift_228 hl (by decide) rfl (fun ls hl => ?_)
                        refine lv_iinc (v := nI (i + 1)) (lv' := [(19, .int (nI (i + 1))), (17, .long (lN (cnt (shM G sI c2) (i + 1)))), (15, .long (lN (cnt (shL G sI c2) (i + 1)))), (21, .int (nI kl)), (20, .int (nI kg)), (7, .long (lN (cnt (shP F sI c1 c2 0) (i + 1)))), (9, .long (lN (cnt (shQ F sI c1 c2 0) (i + 1)))), (11, .long (lN (cnt (shP F sI c1 c2 1) (i + 1)))), (13, .long (lN (cnt (shQ F sI c1 c2 1) (i + 1)))), (0, .ref qm), (1, .int (nI c1)), (2, .int (nI c2)), (3, .int f), (4, .int b), (5, .int t), (6, .int pt)]) hx hb dX5_shift_230 hl (k := 4) rfl (nI_1 i) (by decide) rfl (fun ls hl => ?_)
                        refine lv_goto (tgt := 78) hx hb dX5_shift_233 (by decide) ?_
                        exact ih (i + 1) H locs (by omega) hP hD hS ls (lv_sub hl [0, 5, 6, 7, 8, 2, 1, 9, 10, 11, 12, 13, 14, 15] rfl)
                  refine lv_iload hx hb dX5_shift_113 (lv_at hl 1 rfl) ?_
                  refine lv_iconst (v := 2) hx hb dX5_shift_115 (by decide) ?_
                  refine lv_icmp_ge (tgt := 197) hx hb dX5_shift_116 (by decide) (fun s1 => ?_) (fun s1 => ?_)
                  · have h2 : ¬ kg < 2 := fun h => absurd s1 (nI_ge (b := 2) h (by decide))
                    exact m197 ls (by rw [cnt_n (f := shP F sI c1 c2 0) (by simp [shP, hak, h2]), cnt_n (f := shQ F sI c1 c2 0) (by simp [shQ, shP, hak, h2]), cnt_n (f := shP F sI c1 c2 1) (by simp [shP, hak, h2]), cnt_n (f := shQ F sI c1 c2 1) (by simp [shQ, shP, hak, h2])]; exact (lv_sub hl [0, 1, 2, 3, 4, 5, 6, 7, 8, 9, 10, 11, 12, 13, 14, 15] rfl))
                  · have h2 : kg < 2 := Nat.lt_of_not_le (fun h => s1 (nI_le (a := 2) h (by omega)))
                    refine lv_aload_n hx hb dX5_shift_119 rfl (lv_at hl 9 rfl) ?_
                    refine lv_iload hx hb dX5_shift_120 (lv_at hl 2 rfl) ?_
                    refine lv_iload_n hx hb dX5_shift_122 rfl (lv_at hl 12 rfl) ?_
                    refine lv_iload hx hb dX5_shift_123 (lv_at hl 13 rfl) ?_
                    refine clVi (As := [.int (nI i), .int f, .int b]) (rest := []) (b := qm) (vc := (RX5, TX5, 30)) ⟨hx, hb, hml, hown, hts⟩ (r_isIn l dd cyI cyJ cyZ qm a 0 (nI n) li fm sm ab be st al tI i (by omega) f b) gX5_shift_X5_isIn (ci := 5) rfl (q0 := 0) rfl (n := 3) rfl ⟨rfl, rfl⟩ (by decide +kernel) ⟨Nat.le_of_ble_eq_true rfl, Nat.le_of_ble_eq_true rfl⟩ hN hK (hP.sub [0, 1] rfl) rfl hl.1 rfl (Nat.le_of_ble_eq_true rfl) dX5_shift_125 ⟨Nat.le_of_ble_eq_true rfl, Nat.le_of_ble_eq_true rfl⟩ (fun b1 hb1 => ?_)
                    rw [← eF] at hb1
                    refine lv_if_eq (tgt := 197) hx hb dX5_shift_128 (by decide) (fun s2 => ?_) (fun s2 => ?_)
                    · have f0 : F i = false := (Bool.not_eq_true _).mp (fun h => by rw [if_pos h] at hb1; exact absurd (hb1.symm.trans s2) (by decide))
                      exact m197 ls (by rw [cnt_n (f := shP F sI c1 c2 0) (by simp [shP, f0]), cnt_n (f := shQ F sI c1 c2 0) (by simp [shQ, shP, f0]), cnt_n (f := shP F sI c1 c2 1) (by simp [shP, f0]), cnt_n (f := shQ F sI c1 c2 1) (by simp [shQ, shP, f0])]; exact (lv_sub hl [0, 1, 2, 3, 4, 5, 6, 7, 8, 9, 10, 11, 12, 13, 14, 15] rfl))
                    · have f0 : F i = true := (Bool.not_eq_false _).mp (fun h => s2 (by rw [hb1, if_neg (by rw [h]; decide)]))
                      refine lv_lload hx hb dX5_shift_131 (lv_at hl 3 rfl) ?_
                      refine lv_iload hx hb dX5_shift_133 (lv_at hl 0 rfl) ?_
                      have m143 : W p l e ({ frames := 2, cells := 0, slots := 0, locals := 60 } : Room) s m ([.ref qm, .int (nI c1), .int (nI c2), .int f, .int b, .int t, .int pt] : List Value).toArray below meth c H locs 0 0 (MQ below (va_Ql (S := Int32) (fun (r : Int64) (u : Int32) => (shZ F G sI c1 c2 n → u = 1) ∧ (¬ shZ F G sI c1 c2 n → u = 0 ∧ r = (if shDn F G sI c1 c2 n = 0 then -1000003 else lI (fr (shUp F G sI c1 c2 n) (shDn F G sI c1 c2 n) pt)))) (WQ dd [(qm, .inr (5, mo a th (nI n) li fm sm ab be st al)), (a 2, .inl (cyI, 48, .inl tI)), (a 4, .inl (cyI, 240, .inl sI))] sz (fun u => [(qm, .inr (5, mo a u (nI n) li fm sm ab be st al)), (a 2, .inl (cyI, 48, .inl tI)), (a 4, .inl (cyI, 240, .inl sI))])) A) ([.ref qm, .int (nI c1), .int (nI c2), .int f, .int b, .int t, .int pt] : List Value).toArray s 0 0 A) (F0 m 143 ls [.long (lN (if kl = 0 then 1 else 0)), .long (lN (cnt (shP F sI c1 c2 0) i))]) := by
                        refine lv_ladd hx hb dX5_shift_143 ?_
                        refine tpl (show ((lN (cnt (shP F sI c1 c2 0) i)) + (lN (if kl = 0 then 1 else 0)) : Int64) = lN (cnt (shP F sI c1 c2 0) (i + 1)) from by rw [lN_add, cnt_if]; congr 2; simp only [shQ, shP, hak, h2, f0, hl0, hl1, hg1]; rcases (show kg = 0 ∨ kg = 1 by omega) with h | h <;> by_cases h8 : kl = 0 <;> by_cases h9 : kl = 1 <;> simp [h, h8, h9] <;> omega) ?_
                        refine lv_lstore (lv' := [(7, .long (lN (cnt (shP F sI c1 c2 0) (i + 1)))), (21, .int (nI kl)), (20, .int (nI kg)), (19, .int (nI i)), (9, .long (lN (cnt (shQ F sI c1 c2 0) i))), (11, .long (lN (cnt (shP F sI c1 c2 1) i))), (13, .long (lN (cnt (shQ F sI c1 c2 1) i))), (15, .long (lN (cnt (shL G sI c2) i))), (17, .long (lN (cnt (shM G sI c2) i))), (0, .ref qm), (1, .int (nI c1)), (2, .int (nI c2)), (3, .int f), (4, .int b), (5, .int t), (6, .int pt)]) hx hb dX5_shift_144 hl (by decide) rfl (fun ls hl => ?_)
                        refine lv_lload hx hb dX5_shift_146 (lv_at hl 4 rfl) ?_
                        refine lv_iload hx hb dX5_shift_148 (lv_at hl 1 rfl) ?_
                        have m160 : W p l e ({ frames := 2, cells := 0, slots := 0, locals := 60 } : Room) s m ([.ref qm, .int (nI c1), .int (nI c2), .int f, .int b, .int t, .int pt] : List Value).toArray below meth c H locs 0 0 (MQ below (va_Ql (S := Int32) (fun (r : Int64) (u : Int32) => (shZ F G sI c1 c2 n → u = 1) ∧ (¬ shZ F G sI c1 c2 n → u = 0 ∧ r = (if shDn F G sI c1 c2 n = 0 then -1000003 else lI (fr (shUp F G sI c1 c2 n) (shDn F G sI c1 c2 n) pt)))) (WQ dd [(qm, .inr (5, mo a th (nI n) li fm sm ab be st al)), (a 2, .inl (cyI, 48, .inl tI)), (a 4, .inl (cyI, 240, .inl sI))] sz (fun u => [(qm, .inr (5, mo a u (nI n) li fm sm ab be st al)), (a 2, .inl (cyI, 48, .inl tI)), (a 4, .inl (cyI, 240, .inl sI))])) A) ([.ref qm, .int (nI c1), .int (nI c2), .int f, .int b, .int t, .int pt] : List Value).toArray s 0 0 A) (F0 m 160 ls [.long (lN (if kl = 0 then kg else 0)), .long (lN (cnt (shQ F sI c1 c2 0) i))]) := by
                          refine lv_ladd hx hb dX5_shift_160 ?_
                          refine tpl (show ((lN (cnt (shQ F sI c1 c2 0) i)) + (lN (if kl = 0 then kg else 0)) : Int64) = lN (cnt (shQ F sI c1 c2 0) (i + 1)) from by rw [lN_add, cnt_if]; congr 2; simp only [shQ, shP, hak, h2, f0, hl0, hl1, hg1]; rcases (show kg = 0 ∨ kg = 1 by omega) with h | h <;> by_cases h8 : kl = 0 <;> by_cases h9 : kl = 1 <;> simp [h, h8, h9] <;> omega) ?_
                          refine lv_lstore (lv' := [(9, .long (lN (cnt (shQ F sI c1 c2 0) (i + 1)))), (7, .long (lN (cnt (shP F sI c1 c2 0) (i + 1)))), (21, .int (nI kl)), (20, .int (nI kg)), (19, .int (nI i)), (11, .long (lN (cnt (shP F sI c1 c2 1) i))), (13, .long (lN (cnt (shQ F sI c1 c2 1) i))), (15, .long (lN (cnt (shL G sI c2) i))), (17, .long (lN (cnt (shM G sI c2) i))), (0, .ref qm), (1, .int (nI c1)), (2, .int (nI c2)), (3, .int f), (4, .int b), (5, .int t), (6, .int pt)]) hx hb dX5_shift_161 hl (by decide) rfl (fun ls hl => ?_)
                          refine lv_lload hx hb dX5_shift_163 (lv_at hl 5 rfl) ?_
                          refine lv_iload hx hb dX5_shift_165 (lv_at hl 2 rfl) ?_
                          refine lv_iconst (v := 1) hx hb dX5_shift_167 (by decide) ?_
                          have m176 : W p l e ({ frames := 2, cells := 0, slots := 0, locals := 60 } : Room) s m ([.ref qm, .int (nI c1), .int (nI c2), .int f, .int b, .int t, .int pt] : List Value).toArray below meth c H locs 0 0 (MQ below (va_Ql (S := Int32) (fun (r : Int64) (u : Int32) => (shZ F G sI c1 c2 n → u = 1) ∧ (¬ shZ F G sI c1 c2 n → u = 0 ∧ r = (if shDn F G sI c1 c2 n = 0 then -1000003 else lI (fr (shUp F G sI c1 c2 n) (shDn F G sI c1 c2 n) pt)))) (WQ dd [(qm, .inr (5, mo a th (nI n) li fm sm ab be st al)), (a 2, .inl (cyI, 48, .inl tI)), (a 4, .inl (cyI, 240, .inl sI))] sz (fun u => [(qm, .inr (5, mo a u (nI n) li fm sm ab be st al)), (a 2, .inl (cyI, 48, .inl tI)), (a 4, .inl (cyI, 240, .inl sI))])) A) ([.ref qm, .int (nI c1), .int (nI c2), .int f, .int b, .int t, .int pt] : List Value).toArray s 0 0 A) (F0 m 176 ls [.long (lN (if kl = 1 then 1 else 0)), .long (lN (cnt (shP F sI c1 c2 1) i))]) := by
                            refine lv_ladd hx hb dX5_shift_176 ?_
                            refine tpl (show ((lN (cnt (shP F sI c1 c2 1) i)) + (lN (if kl = 1 then 1 else 0)) : Int64) = lN (cnt (shP F sI c1 c2 1) (i + 1)) from by rw [lN_add, cnt_if]; congr 2; simp only [shQ, shP, hak, h2, f0, hl0, hl1, hg1]; rcases (show kg = 0 ∨ kg = 1 by omega) with h | h <;> by_cases h8 : kl = 0 <;> by_cases h9 : kl = 1 <;> simp [h, h8, h9] <;> omega) ?_
                            refine lv_lstore (lv' := [(11, .long (lN (cnt (shP F sI c1 c2 1) (i + 1)))), (9, .long (lN (cnt (shQ F sI c1 c2 0) (i + 1)))), (7, .long (lN (cnt (shP F sI c1 c2 0) (i + 1)))), (21, .int (nI kl)), (20, .int (nI kg)), (19, .int (nI i)), (13, .long (lN (cnt (shQ F sI c1 c2 1) i))), (15, .long (lN (cnt (shL G sI c2) i))), (17, .long (lN (cnt (shM G sI c2) i))), (0, .ref qm), (1, .int (nI c1)), (2, .int (nI c2)), (3, .int f), (4, .int b), (5, .int t), (6, .int pt)]) hx hb dX5_shift_177 hl (by decide) rfl (fun ls hl => ?_)
                            refine lv_lload hx hb dX5_shift_179 (lv_at hl 6 rfl) ?_
                            refine lv_iload hx hb dX5_shift_181 (lv_at hl 3 rfl) ?_
                            refine lv_iconst (v := 1) hx hb dX5_shift_183 (by decide) ?_
                            have m194 : W p l e ({ frames := 2, cells := 0, slots := 0, locals := 60 } : Room) s m ([.ref qm, .int (nI c1), .int (nI c2), .int f, .int b, .int t, .int pt] : List Value).toArray below meth c H locs 0 0 (MQ below (va_Ql (S := Int32) (fun (r : Int64) (u : Int32) => (shZ F G sI c1 c2 n → u = 1) ∧ (¬ shZ F G sI c1 c2 n → u = 0 ∧ r = (if shDn F G sI c1 c2 n = 0 then -1000003 else lI (fr (shUp F G sI c1 c2 n) (shDn F G sI c1 c2 n) pt)))) (WQ dd [(qm, .inr (5, mo a th (nI n) li fm sm ab be st al)), (a 2, .inl (cyI, 48, .inl tI)), (a 4, .inl (cyI, 240, .inl sI))] sz (fun u => [(qm, .inr (5, mo a u (nI n) li fm sm ab be st al)), (a 2, .inl (cyI, 48, .inl tI)), (a 4, .inl (cyI, 240, .inl sI))])) A) ([.ref qm, .int (nI c1), .int (nI c2), .int f, .int b, .int t, .int pt] : List Value).toArray s 0 0 A) (F0 m 194 ls [.long (lN (if kl = 1 then kg else 0)), .long (lN (cnt (shQ F sI c1 c2 1) i))]) := by
                              refine lv_ladd hx hb dX5_shift_194 ?_
                              refine tpl (show ((lN (cnt (shQ F sI c1 c2 1) i)) + (lN (if kl = 1 then kg else 0)) : Int64) = lN (cnt (shQ F sI c1 c2 1) (i + 1)) from by rw [lN_add, cnt_if]; congr 2; simp only [shQ, shP, hak, h2, f0, hl0, hl1, hg1]; rcases (show kg = 0 ∨ kg = 1 by omega) with h | h <;> by_cases h8 : kl = 0 <;> by_cases h9 : kl = 1 <;> simp [h, h8, h9] <;> omega) ?_
                              refine lv_lstore (lv' := [(13, .long (lN (cnt (shQ F sI c1 c2 1) (i + 1)))), (11, .long (lN (cnt (shP F sI c1 c2 1) (i + 1)))), (9, .long (lN (cnt (shQ F sI c1 c2 0) (i + 1)))), (7, .long (lN (cnt (shP F sI c1 c2 0) (i + 1)))), (21, .int (nI kl)), (20, .int (nI kg)), (19, .int (nI i)), (15, .long (lN (cnt (shL G sI c2) i))), (17, .long (lN (cnt (shM G sI c2) i))), (0, .ref qm), (1, .int (nI c1)), (2, .int (nI c2)), (3, .int f), (4, .int b), (5, .int t), (6, .int pt)]) hx hb dX5_shift_195 hl (by decide) rfl (fun ls hl => ?_)
                              exact m197 ls (lv_sub hl [4, 5, 6, 3, 2, 1, 0, 7, 8, 9, 10, 11, 12, 13, 14, 15] rfl)
                            refine lv_icmp_ne (tgt := 193) hx hb dX5_shift_184 (by decide) (fun t194 => ?_) (fun t194 => ?_)
                            · refine lv_lconst (v := 0) hx hb dX5_shift_193 (by decide) ?_
                              refine tpl (show (0 : Int64) = lN (if kl = 1 then kg else 0) from by rw [if_neg (show ¬ kl = 1 from (fun h => t194 (by rw [h]; rfl)))] <;> try rfl) ?_
                              exact m194
                            · refine lv_iload hx hb dX5_shift_187 (lv_at hl 4 rfl) ?_
                              refine lv_i2l hx hb dX5_shift_189 rfl ?_
                              refine lv_goto (tgt := 194) hx hb dX5_shift_190 (by decide) ?_
                              refine tpl (show ((nI kg).toInt64 : Int64) = lN kg from nI_l (by omega)) ?_
                              refine tpl (show (lN kg : Int64) = lN (if kl = 1 then kg else 0) from by rw [if_pos (show kl = 1 from ((nI_eq (b := 1) (by omega) (by decide)).mp t194))] <;> try rfl) ?_
                              exact m194
                          refine lv_icmp_ne (tgt := 175) hx hb dX5_shift_168 (by decide) (fun t176 => ?_) (fun t176 => ?_)
                          · refine lv_lconst (v := 0) hx hb dX5_shift_175 (by decide) ?_
                            refine tpl (show (0 : Int64) = lN (if kl = 1 then 1 else 0) from by rw [if_neg (show ¬ kl = 1 from (fun h => t176 (by rw [h]; rfl)))] <;> try rfl) ?_
                            exact m176
                          · refine lv_lconst (v := 1) hx hb dX5_shift_171 (by decide) ?_
                            refine lv_goto (tgt := 176) hx hb dX5_shift_172 (by decide) ?_
                            refine tpl (show (1 : Int64) = lN (if kl = 1 then 1 else 0) from by rw [if_pos (show kl = 1 from ((nI_eq (b := 1) (by omega) (by decide)).mp t176))] <;> try rfl) ?_
                            exact m176
                        refine lv_if_ne (tgt := 159) hx hb dX5_shift_150 (by decide) (fun t160 => ?_) (fun t160 => ?_)
                        · refine lv_lconst (v := 0) hx hb dX5_shift_159 (by decide) ?_
                          refine tpl (show (0 : Int64) = lN (if kl = 0 then kg else 0) from by rw [if_neg (show ¬ kl = 0 from (fun h => t160 (by rw [h]; rfl)))] <;> try rfl) ?_
                          exact m160
                        · refine lv_iload hx hb dX5_shift_153 (lv_at hl 2 rfl) ?_
                          refine lv_i2l hx hb dX5_shift_155 rfl ?_
                          refine lv_goto (tgt := 160) hx hb dX5_shift_156 (by decide) ?_
                          refine tpl (show ((nI kg).toInt64 : Int64) = lN kg from nI_l (by omega)) ?_
                          refine tpl (show (lN kg : Int64) = lN (if kl = 0 then kg else 0) from by rw [if_pos (show kl = 0 from ((nI_eq (b := 0) (by omega) (by decide)).mp t160))] <;> try rfl) ?_
                          exact m160
                      refine lv_if_ne (tgt := 142) hx hb dX5_shift_135 (by decide) (fun t143 => ?_) (fun t143 => ?_)
                      · refine lv_lconst (v := 0) hx hb dX5_shift_142 (by decide) ?_
                        refine tpl (show (0 : Int64) = lN (if kl = 0 then 1 else 0) from by rw [if_neg (show ¬ kl = 0 from (fun h => t143 (by rw [h]; rfl)))] <;> try rfl) ?_
                        exact m143
                      · refine lv_lconst (v := 1) hx hb dX5_shift_138 (by decide) ?_
                        refine lv_goto (tgt := 143) hx hb dX5_shift_139 (by decide) ?_
                        refine tpl (show (1 : Int64) = lN (if kl = 0 then 1 else 0) from by rw [if_pos (show kl = 0 from ((nI_eq (b := 0) (by omega) (by decide)).mp t143))] <;> try rfl) ?_
                        exact m143
            exact loop n 0 H _ (by omega) hP hD hS ls (lv_sub hl [0, 6, 5, 4, 3, 2, 1, 7, 8, 9, 10, 11, 12, 13] rfl)
          · have hck4 : ¬ (inP pt) := hck4.elim (fun h => absurd (h.1.symm.trans qck4) (by decide)) (fun h => h.2)
            refine lv_ldc2 (v := (-1000002)) hx hb hown (hts (.constantLong RX5 117 (-1000002)) (by decide +kernel)) dX5_shift_53 ?_
            exact ewL 0 hx hb hr hlocks hAe hS dX5_shift_56 (⟨fun x => absurd x.2.1.2 hck4, fun _ => ⟨rfl, by rw [shiftR, if_pos hok, if_neg (fun x : inW f b t ∧ inP pt => hck4 x.2)]⟩⟩) (hP.sub [0, 1, 2] rfl) (hD.sub [0, 1, 2] (by decide) rfl)
      · refine lv_ldc2 (v := (-1000001)) hx hb hown (hts (.constantLong RX5 115 (-1000001)) (by decide +kernel)) dX5_shift_28 ?_
        exact ewL 0 hx hb hr hlocks hAe hS dX5_shift_31 (⟨fun x => absurd q x.1.2.2, fun _ => ⟨rfl, by rw [shiftR, if_neg (fun x : shOk la gu => x.2.2 q)]⟩⟩) (hP.sub [0, 1, 2] rfl) (hD.sub [0, 1, 2] (by decide) rfl)
