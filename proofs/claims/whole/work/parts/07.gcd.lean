def eu : Nat → Nat → Nat → Nat
  | 0, a, _ => a
  | n + 1, a, b => if b = 0 then a else eu n b (a % b)
theorem eu_0 (n a : Nat) : eu n a 0 = a := by cases n <;> simp [eu]
theorem eu_gcd : ∀ (k n a b : Nat), b < 2 ^ k → 2 * k ≤ n → eu n a b = Nat.gcd a b
  | 0, n, a, b, h, _ => by
    have : b = 0 := by simpa using h
    subst this
    rw [eu_0, Nat.gcd_zero_right]
  | k + 1, n, a, b, h, hn => by
    obtain ⟨n, rfl⟩ : ∃ j, n = j + 2 := ⟨n - 2, by omega⟩
    by_cases hb : b = 0
    · subst hb
      rw [eu_0, Nat.gcd_zero_right]
    · have g : Nat.gcd a b = Nat.gcd (a % b) b := by rw [Nat.gcd_comm, Nat.gcd_rec]
      simp only [eu, hb, if_false]
      by_cases hr : a % b = 0
      · rw [if_pos hr, g, hr, Nat.gcd_zero_left]
      · rw [if_neg hr]
        have h1 : a % b < b := Nat.mod_lt _ (by omega)
        have h2 : b % (a % b) < a % b := Nat.mod_lt _ (by omega)
        have h3 := Nat.div_add_mod b (a % b)
        have h4 : 1 ≤ b / (a % b) := Nat.div_pos (by omega) (by omega)
        have h5 : (a % b) * 1 ≤ (a % b) * (b / (a % b)) := Nat.mul_le_mul_left _ h4
        have h6 : 2 ^ (k + 1) = 2 * 2 ^ k := by rw [Nat.pow_succ, Nat.mul_comm]
        rw [eu_gcd k n (a % b) (b % (a % b)) (by omega) (by omega), g, Nat.gcd_comm (a % b) b, Nat.gcd_comm b (a % b), Nat.gcd_rec (a % b) b, Nat.gcd_comm]
theorem mx1 {a : Nat} (ha : a < 2 ^ 63) : (if lN a < 1 then 1 else lN a) = lN (max 1 a) := by
  rw [show (1 : Int64) = lN 1 from rfl]
  by_cases h : a < 1
  · rw [if_pos ((pk_lLT ha (by decide)).mpr h)]
    congr 1
    omega
  · rw [if_neg (fun q => h ((pk_lLT ha (by decide)).mp q))]
    congr 1
    omega

set_option maxHeartbeats 4000000 in
set_option maxRecDepth 100000 in
theorem c_commonDivisor (l : Launch) (dd : va_G) (cyI cyJ cyZ : ClassId) (x z : Nat) (hx0 : x < 2 ^ 63) (hz0 : z < 2 ^ 63) : Met l yX4_commonDivisor wsX4_commonDivisor ({ frames := 1, cells := 0, slots := 0, locals := 20 } : Room) (va_Pc [.long (lN x), .long (lN z)] (Rd dd [(cyI, .int), (cyJ, .long), (cyZ, .boolean)] [])) (vp_Sl (fun r => r = lN (max 1 (eu 128 x z)))) 0 0 (fun _ => False) := by
  refine mkR (cc := cX4_commonDivisor) (maxL := 11) (by decide) rfl (Nat.le_of_ble_eq_true rfl) (lv0 := [(0, .long (lN x)), (2, .long (lN z))]) rfl ?_
  intro p e s m below meth c ls hx hb hr hml hown hlocks hts hN hP hK hl
  have hown : s.vm.findClass RX4 = some m.cls := hown
  refine lv_lload_n hx hb dX4_commonDivisor_0 rfl (lv_at hl 0 rfl) ?_
  refine lv_lstore (lv' := [(4, .long (lN x)), (0, .long (lN x)), (2, .long (lN z))]) hx hb dX4_commonDivisor_1 hl (by decide) rfl (fun ls hl => ?_)
  refine lv_lload_n hx hb dX4_commonDivisor_3 rfl (lv_at hl 2 rfl) ?_
  refine lv_lstore (lv' := [(6, .long (lN z)), (4, .long (lN x)), (0, .long (lN x)), (2, .long (lN z))]) hx hb dX4_commonDivisor_4 hl (by decide) rfl (fun ls hl => ?_)
  refine lv_iconst (v := 0) hx hb dX4_commonDivisor_6 (by decide) ?_
  refine lv_istore (lv' := [(8, .int 0), (6, .long (lN z)), (4, .long (lN x)), (0, .long (lN x)), (2, .long (lN z))]) hx hb dX4_commonDivisor_7 hl (by decide) rfl (fun ls hl => ?_)
  have loop : ∀ (k : Nat) (t a b : Nat), t + k = 128 → a < 2 ^ 63 → b < 2 ^ 63 → eu k a b = eu 128 x z → ∀ ls : Array Slot, lv_has ls 11 [(8, .int (nI t)), (6, .long (lN b)), (4, .long (lN a))] → W p l e ({ frames := 1, cells := 0, slots := 0, locals := 20 } : Room) s m ([.long (lN x), .long (lN z)] : List Value).toArray below meth c s.heap [] 0 0 (MQ below (vp_Sl (fun r => r = lN (max 1 (eu 128 x z)))) ([.long (lN x), .long (lN z)] : List Value).toArray s 0 0 (fun _ => False)) (F0 m 9 ls []) := by
    intro k
    induction k with
    | zero =>
      intro t a b ht ha hb9 he ls hl
      refine lv_iload hx hb dX4_commonDivisor_9 (lv_at hl 0 rfl) ?_
      refine lv_sipush (v := 128) hx hb dX4_commonDivisor_11 (by decide) ?_
      refine lv_icmp_ge (tgt := 45) hx hb dX4_commonDivisor_14 (by decide) (fun q => ?_) (fun q => ?_)
      · refine lv_lconst (v := 1) hx hb dX4_commonDivisor_45 (by decide) ?_
        refine lv_lload hx hb dX4_commonDivisor_46 (lv_at hl 2 rfl) ?_
        refine va_mmax_long hx hb (hml.trans hl.1.symm) hown (hts (.methodLink RX4 226 Lib.MathLoose.max_long.x) (by decide +kernel)) (hts (.static Lib.MathLoose.max_long.x) (by decide +kernel)) (hts (.initialized "java/lang/Math") (by decide +kernel)) (hts (.code Lib.MathLoose.max_long.x Lib.MathLoose.max_long.code 4 (some .long)) (by decide +kernel)) (Nat.le_of_ble_eq_true rfl) (Nat.le_of_ble_eq_true rfl) (Nat.le_of_ble_eq_true rfl) (Nat.le_of_ble_eq_true rfl) dX4_commonDivisor_48 ?_
        refine tpl (show (if (lN a) < 1 then 1 else lN a : Int64) = lN (max 1 a) from mx1 ha) ?_
        exact edL hx hb hr hlocks dX4_commonDivisor_51 (by rw [← he]; rfl)
      · exact absurd (show (128 : Int32) ≤ nI t from nI_le (a := 128) (by omega) (by omega)) q
    | succ k ih =>
      intro t a b ht ha hb9 he ls hl
      refine lv_iload hx hb dX4_commonDivisor_9 (lv_at hl 0 rfl) ?_
      refine lv_sipush (v := 128) hx hb dX4_commonDivisor_11 (by decide) ?_
      refine lv_icmp_ge (tgt := 45) hx hb dX4_commonDivisor_14 (by decide) (fun q => ?_) (fun q => ?_)
      · exact absurd q (nI_ge (b := 128) (by omega) (by decide))
      · refine lv_lload hx hb dX4_commonDivisor_17 (lv_at hl 1 rfl) ?_
        refine lv_lconst (v := 0) hx hb dX4_commonDivisor_19 (by decide) ?_
        refine W.lcmp hx hb dX4_commonDivisor_20 ?_
        refine lv_if_eq (tgt := 45) hx hb dX4_commonDivisor_21 (by decide) (fun q2 => ?_) (fun q2 => ?_)
        · have hb0 : b = 0 := (pk_lEQ (b := 0) hb9 (by decide)).mp ((lg_cmp_eq _ _).mp q2)
          subst hb0
          refine lv_lconst (v := 1) hx hb dX4_commonDivisor_45 (by decide) ?_
          refine lv_lload hx hb dX4_commonDivisor_46 (lv_at hl 2 rfl) ?_
          refine va_mmax_long hx hb (hml.trans hl.1.symm) hown (hts (.methodLink RX4 226 Lib.MathLoose.max_long.x) (by decide +kernel)) (hts (.static Lib.MathLoose.max_long.x) (by decide +kernel)) (hts (.initialized "java/lang/Math") (by decide +kernel)) (hts (.code Lib.MathLoose.max_long.x Lib.MathLoose.max_long.code 4 (some .long)) (by decide +kernel)) (Nat.le_of_ble_eq_true rfl) (Nat.le_of_ble_eq_true rfl) (Nat.le_of_ble_eq_true rfl) (Nat.le_of_ble_eq_true rfl) dX4_commonDivisor_48 ?_
          refine tpl (show (if (lN a) < 1 then 1 else lN a : Int64) = lN (max 1 a) from mx1 ha) ?_
          exact edL hx hb hr hlocks dX4_commonDivisor_51 (by rw [← he, eu_0])
        · have hb0 : 0 < b := Nat.pos_of_ne_zero (fun q0 => q2 ((lg_cmp_eq _ _).mpr (by rw [q0]; rfl)))
          refine lv_lload hx hb dX4_commonDivisor_24 (lv_at hl 2 rfl) ?_
          refine lv_lload hx hb dX4_commonDivisor_26 (lv_at hl 1 rfl) ?_
          refine lv_lrem hx hb dX4_commonDivisor_28 (fun q0 => by have := (pk_lEQ (b := 0) hb9 (by decide)).mp q0; omega) ?_
          refine tpl (show ((lN a) - (lN a) / (lN b) * (lN b) : Int64) = lN (a % b) from pk_lRem ha hb0 hb9) ?_
          refine lv_lstore (lv' := [(9, .long (lN (a % b))), (8, .int (nI t)), (6, .long (lN b)), (4, .long (lN a))]) hx hb dX4_commonDivisor_29 hl (by decide) rfl (fun ls hl => ?_)
          refine lv_lload hx hb dX4_commonDivisor_31 (lv_at hl 2 rfl) ?_
          refine lv_lstore (lv' := [(4, .long (lN b)), (9, .long (lN (a % b))), (8, .int (nI t)), (6, .long (lN b))]) hx hb dX4_commonDivisor_33 hl (by decide) rfl (fun ls hl => ?_)
          refine lv_lload hx hb dX4_commonDivisor_35 (lv_at hl 1 rfl) ?_
          refine lv_lstore (lv' := [(6, .long (lN (a % b))), (4, .long (lN b)), (9, .long (lN (a % b))), (8, .int (nI t))]) hx hb dX4_commonDivisor_37 hl (by decide) rfl (fun ls hl => ?_)
          refine lv_iinc (v := nI (t + 1)) (lv' := [(8, .int (nI (t + 1))), (6, .long (lN (a % b))), (4, .long (lN b)), (9, .long (lN (a % b)))]) hx hb dX4_commonDivisor_39 hl (k := 3) rfl (nI_1 t) (by decide) rfl (fun ls hl => ?_)
          refine lv_goto (tgt := 9) hx hb dX4_commonDivisor_42 (by decide) ?_
          exact ih (t + 1) b (a % b) (by omega) hb9 (Nat.lt_of_lt_of_le (Nat.mod_lt _ hb0) (Nat.le_of_lt hb9)) (by rw [← he, eu, if_neg (by omega)]) ls (lv_sub hl [0, 1, 2] rfl)
  exact loop 128 0 x z rfl hx0 hz0 rfl ls (lv_sub hl [0, 1, 2] rfl)

def lI (z : Int) : Int64 := Int64.ofInt z
theorem lI_toInt {z : Int} (h : z.natAbs < 2 ^ 62) : (lI z).toInt = z := Int64.toInt_ofInt_of_le (by omega) (by omega)
theorem lN_lI (n : Nat) : lN n = lI n := Int64.ofInt_eq_ofNat.symm
theorem labs {z : Int} (h : z.natAbs < 2 ^ 62) : (if 0 < lI z then lI z else -lI z) = lN z.natAbs := by
  by_cases q : 0 < z
  · rw [if_pos (by rw [Int64.lt_iff_toInt_lt, lI_toInt h]; exact q), lN_lI]
    congr 1
    omega
  · rw [if_neg (by rw [Int64.lt_iff_toInt_lt, lI_toInt h]; exact q), lN_lI]
    unfold lI
    rw [← Int64.ofInt_neg]
    congr 1
    omega
theorem ldiv_lI {z : Int} {g : Nat} (h : z.natAbs < 2 ^ 62) (hg : g < 2 ^ 62) (h0 : 0 < g) : lI z / lN g = lI (z.tdiv g) := by
  apply Int64.toInt_inj.mp
  have hz := lI_toInt h
  have hgn : (lN g).toInt = (g : Int) := pk_lT (by omega)
  have e : (z.tdiv g).natAbs ≤ z.natAbs := by
    rw [Int.natAbs_tdiv]
    exact Nat.div_le_self _ _
  rw [Int64.toInt_div_of_ne_right _ _ (fun q => by rw [q] at hgn; have : (-1 : Int64).toInt = -1 := by decide
                                                   omega), hz, hgn, lI_toInt (by omega)]
/-- what a fraction's part is -/
def fr (u d : Int) (pt : Int32) : Int := if pt = 1 then ((d.natAbs / Nat.gcd u.natAbs d.natAbs : Nat) : Int) else (if d < 0 then -u else u).tdiv (Nat.gcd u.natAbs d.natAbs : Nat)

set_option maxHeartbeats 4000000 in
set_option maxRecDepth 100000 in
theorem c_lowest (l : Launch) (dd : va_G) (cyI cyJ cyZ : ClassId) (u d : Int) (pt : Int32) (hu : u.natAbs < 2 ^ 62) (hd : d.natAbs < 2 ^ 62) (hd0 : d ≠ 0) : Met l yX4_lowest wsX4_lowest ({ frames := 2, cells := 0, slots := 0, locals := 60 } : Room) (va_Pc [.long (lI u), .long (lI d), .int pt] (Rd dd [(cyI, .int), (cyJ, .long), (cyZ, .boolean)] [])) (vp_Sl (fun r => r = lI (fr u d pt))) 0 0 (fun _ => False) := by
  refine mkR (cc := cX4_lowest) (maxL := 7) (by decide) rfl (Nat.le_of_ble_eq_true rfl) (lv0 := [(0, .long (lI u)), (2, .long (lI d)), (4, .int pt)]) rfl ?_
  intro p e s m below meth c ls hx hb hr hml hown hlocks hts hN hP hK hl
  have hown : s.vm.findClass RX4 = some m.cls := hown
  have hg0 : 0 < Nat.gcd u.natAbs d.natAbs := Nat.gcd_pos_of_pos_right _ (by omega)
  have hg1 : Nat.gcd u.natAbs d.natAbs ≤ d.natAbs := Nat.gcd_le_right _ (by omega)
  refine lv_lload_n hx hb dX4_lowest_0 rfl (lv_at hl 0 rfl) ?_
  refine va_mabs_long hx hb (hml.trans hl.1.symm) hown (hts (.methodLink RX4 216 Lib.MathLoose.abs_long.x) (by decide +kernel)) (hts (.static Lib.MathLoose.abs_long.x) (by decide +kernel)) (hts (.initialized "java/lang/Math") (by decide +kernel)) (hts (.code Lib.MathLoose.abs_long.x Lib.MathLoose.abs_long.code 2 (some .long)) (by decide +kernel)) (Nat.le_of_ble_eq_true rfl) (Nat.le_of_ble_eq_true rfl) (Nat.le_of_ble_eq_true rfl) (Nat.le_of_ble_eq_true rfl) dX4_lowest_1 ?_
  refine tpl (show (if 0 < (lI u) then lI u else -(lI u) : Int64) = lN u.natAbs from labs hu) ?_
  refine lv_lload_n hx hb dX4_lowest_4 rfl (lv_at hl 1 rfl) ?_
  refine va_mabs_long hx hb (hml.trans hl.1.symm) hown (hts (.methodLink RX4 216 Lib.MathLoose.abs_long.x) (by decide +kernel)) (hts (.static Lib.MathLoose.abs_long.x) (by decide +kernel)) (hts (.initialized "java/lang/Math") (by decide +kernel)) (hts (.code Lib.MathLoose.abs_long.x Lib.MathLoose.abs_long.code 2 (some .long)) (by decide +kernel)) (Nat.le_of_ble_eq_true rfl) (Nat.le_of_ble_eq_true rfl) (Nat.le_of_ble_eq_true rfl) (Nat.le_of_ble_eq_true rfl) dX4_lowest_5 ?_
  refine tpl (show (if 0 < (lI d) then lI d else -(lI d) : Int64) = lN d.natAbs from labs hd) ?_
  refine clSl (As := [.long (lN u.natAbs), .long (lN d.natAbs)]) (rest := []) ⟨hx, hb, hml, hown, hts⟩ (c_commonDivisor l dd cyI cyJ cyZ u.natAbs d.natAbs (by omega) (by omega)) gX4_lowest_X4_commonDivisor (n := 2) rfl ⟨rfl, rfl⟩ (by decide +kernel) ⟨Nat.le_of_ble_eq_true rfl, Nat.le_of_ble_eq_true rfl⟩ hN hK (hP.sub [] rfl) rfl hl.1 rfl (Nat.le_of_ble_eq_true rfl) dX4_lowest_8 ⟨Nat.le_of_ble_eq_true rfl, Nat.le_of_ble_eq_true rfl⟩ (fun g hg => ?_)
  have hg : g = lN (Nat.gcd u.natAbs d.natAbs) := by rw [hg, eu_gcd 63 128 _ _ (by omega) (by decide)]; congr 1; omega
  subst hg
  refine lv_lstore (lv' := [(5, .long (lN (Nat.gcd u.natAbs d.natAbs))), (0, .long (lI u)), (2, .long (lI d)), (4, .int pt)]) hx hb dX4_lowest_11 hl (by decide) rfl (fun ls hl => ?_)
  refine lv_iload hx hb dX4_lowest_13 (lv_at hl 3 rfl) ?_
  refine lv_iconst (v := 1) hx hb dX4_lowest_15 (by decide) ?_
  refine lv_icmp_ne (tgt := 27) hx hb dX4_lowest_16 (by decide) (fun q => ?_) (fun q => ?_)
  · refine lv_lload_n hx hb dX4_lowest_27 rfl (lv_at hl 2 rfl) ?_
    refine lv_lconst (v := 0) hx hb dX4_lowest_28 (by decide) ?_
    refine W.lcmp hx hb dX4_lowest_29 ?_
    refine lv_if_ge (tgt := 38) hx hb dX4_lowest_30 (by decide) (fun q2 => ?_) (fun q2 => ?_)
    · refine lv_lload_n hx hb dX4_lowest_38 rfl (lv_at hl 1 rfl) ?_
      refine lv_lload hx hb dX4_lowest_39 (lv_at hl 0 rfl) ?_
      refine lv_ldiv hx hb dX4_lowest_41 (fun q0 => by have := (pk_lEQ (b := 0) (by omega) (by decide)).mp q0; omega) ?_
      refine tpl (show ((lI u) / (lN (Nat.gcd u.natAbs d.natAbs)) : Int64) = lI (u.tdiv (Nat.gcd u.natAbs d.natAbs : Nat)) from ldiv_lI hu (by omega) hg0) ?_
      have hp : ¬ d < 0 := fun h => by have := (lg_cmp_ge _ _).mp q2; rw [Int64.le_iff_toInt_le, lI_toInt hd] at this; exact absurd this (by simpa using h)
      exact edL hx hb hr hlocks dX4_lowest_42 (by rw [fr, if_neg q, if_neg hp])
    · refine lv_lload_n hx hb dX4_lowest_33 rfl (lv_at hl 1 rfl) ?_
      refine lv_lneg hx hb dX4_lowest_34 ?_
      refine tpl (show (-(lI u) : Int64) = lI (-u) from (Int64.ofInt_neg u).symm) ?_
      refine lv_goto (tgt := 39) hx hb dX4_lowest_35 (by decide) ?_
      refine lv_lload hx hb dX4_lowest_39 (lv_at hl 0 rfl) ?_
      refine lv_ldiv hx hb dX4_lowest_41 (fun q0 => by have := (pk_lEQ (b := 0) (by omega) (by decide)).mp q0; omega) ?_
      refine tpl (show ((lI (-u)) / (lN (Nat.gcd u.natAbs d.natAbs)) : Int64) = lI ((-u).tdiv (Nat.gcd u.natAbs d.natAbs : Nat)) from ldiv_lI (by omega) (by omega) hg0) ?_
      have hp : d < 0 := by have := Int64.not_le.mp (fun h => q2 ((lg_cmp_ge _ _).mpr h)); rw [Int64.lt_iff_toInt_lt, lI_toInt hd] at this; simpa using this
      exact edL hx hb hr hlocks dX4_lowest_42 (by rw [fr, if_neg q, if_pos hp])
  · refine lv_lload_n hx hb dX4_lowest_19 rfl (lv_at hl 2 rfl) ?_
    refine va_mabs_long hx hb (hml.trans hl.1.symm) hown (hts (.methodLink RX4 216 Lib.MathLoose.abs_long.x) (by decide +kernel)) (hts (.static Lib.MathLoose.abs_long.x) (by decide +kernel)) (hts (.initialized "java/lang/Math") (by decide +kernel)) (hts (.code Lib.MathLoose.abs_long.x Lib.MathLoose.abs_long.code 2 (some .long)) (by decide +kernel)) (Nat.le_of_ble_eq_true rfl) (Nat.le_of_ble_eq_true rfl) (Nat.le_of_ble_eq_true rfl) (Nat.le_of_ble_eq_true rfl) dX4_lowest_20 ?_
    refine tpl (show (if 0 < (lI d) then lI d else -(lI d) : Int64) = lN d.natAbs from labs hd) ?_
    refine lv_lload hx hb dX4_lowest_23 (lv_at hl 0 rfl) ?_
    refine lv_ldiv hx hb dX4_lowest_25 (fun q0 => by have := (pk_lEQ (b := 0) (by omega) (by decide)).mp q0; omega) ?_
    refine tpl (show ((lN d.natAbs) / (lN (Nat.gcd u.natAbs d.natAbs)) : Int64) = lN (d.natAbs / Nat.gcd u.natAbs d.natAbs) from pk_lDiv (by omega) hg0 (by omega)) ?_
    exact edL hx hb hr hlocks dX4_lowest_26 (by rw [fr, if_pos q, lN_lI])
