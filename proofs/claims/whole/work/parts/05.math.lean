/-! ===== lN n to 2^64: shifts, and, or, masks, one bit ===== -/
theorem wb_tb (n : Nat) : (lN n).toBitVec = BitVec.ofNat 64 n := rfl
theorem wb_inj {a b : Int64} (h : a.toBitVec = b.toBitVec) : a = b := Int64.toBitVec_inj.mp h
theorem wb_tn {n : Nat} (h : n < 2 ^ 64) : (lN n).toBitVec.toNat = n := by rw [wb_tb, BitVec.toNat_ofNat, Nat.mod_eq_of_lt h]
theorem wb_of (x : Int64) : ∃ n, n < 2 ^ 64 ∧ x = lN n := ⟨x.toBitVec.toNat, x.toBitVec.isLt, wb_inj (by rw [wb_tb]; simp)⟩
theorem wb_of32 (x : Int32) : ∃ n, n < 2 ^ 32 ∧ x = nI n := ⟨x.toBitVec.toNat, x.toBitVec.isLt, Int32.toBitVec_inj.mp (by show _ = BitVec.ofNat 32 _; simp)⟩
theorem wb_c : ∀ k, k < 64 → ((nI k).toInt64 &&& 63) = lN k := by decide +kernel
theorem wb_cu : ∀ k, k < 64 → ((nI k).toInt64.toUInt64 &&& Int64.toUInt64 63) = UInt64.ofNat k := by decide +kernel
theorem wb_sm : ∀ k, k < 64 → (BitVec.ofNat 64 k).smod 64 = BitVec.ofNat 64 k := by decide +kernel
theorem wb_pw {a b : Nat} (h : a ≤ b) : 2 ^ b = 2 ^ a * 2 ^ (b - a) := by rw [← Nat.pow_add]; congr 1; omega
theorem wb_lt2 {a b : Nat} (h : a < b) : 2 ^ a < 2 ^ b := Nat.pow_lt_pow_right (by decide) h
theorem wb_mod (n : Nat) : lN n = lN (n % 2 ^ 64) := wb_inj (by rw [wb_tb, wb_tb]; apply BitVec.eq_of_toNat_eq; rw [BitVec.toNat_ofNat, BitVec.toNat_ofNat, Nat.mod_mod])
theorem wb_shr {n k : Nat} (hn : n < 2 ^ 64) (hk : k < 64) : ((lN n).toUInt64 >>> ((nI k).toInt64.toUInt64 &&& Int64.toUInt64 63)).toInt64 = lN (n / 2 ^ k) := by
  rw [wb_cu k hk]
  apply wb_inj
  apply BitVec.eq_of_toNat_eq
  show ((lN n).toUInt64 >>> UInt64.ofNat k).toNat = (BitVec.ofNat 64 _).toNat
  have h1 : (UInt64.ofNat k).toNat = k := by
    show (BitVec.ofNat 64 k).toNat = k
    rw [BitVec.toNat_ofNat, Nat.mod_eq_of_lt (by omega)]
  have h2 : (lN n).toUInt64.toNat = n := wb_tn hn
  rw [UInt64.toNat_shiftRight, h1, h2, Nat.mod_eq_of_lt hk, Nat.shiftRight_eq_div_pow, BitVec.toNat_ofNat, Nat.mod_eq_of_lt (Nat.lt_of_le_of_lt (Nat.div_le_self _ _) hn)]
theorem wb_shl (n : Nat) {k : Nat} (hk : k < 64) : lN n <<< ((nI k).toInt64 &&& 63) = lN (n * 2 ^ k) := by
  rw [wb_c k hk]
  apply wb_inj
  rw [Int64.toBitVec_shiftLeft, wb_tb, wb_tb, wb_tb, wb_sm k hk]
  apply BitVec.eq_of_toNat_eq
  rw [BitVec.shiftLeft_eq', BitVec.toNat_shiftLeft, BitVec.toNat_ofNat, BitVec.toNat_ofNat, BitVec.toNat_ofNat, Nat.mod_eq_of_lt (show k < 2 ^ 64 by omega), Nat.shiftLeft_eq, Nat.mul_mod, Nat.mod_mod, ← Nat.mul_mod]
theorem wb_and {a b : Nat} (ha : a < 2 ^ 64) (hb : b < 2 ^ 64) : lN a &&& lN b = lN (a &&& b) := by
  apply wb_inj
  rw [Int64.toBitVec_and, wb_tb, wb_tb, wb_tb]
  apply BitVec.eq_of_toNat_eq
  rw [BitVec.toNat_and, BitVec.toNat_ofNat, BitVec.toNat_ofNat, BitVec.toNat_ofNat, Nat.mod_eq_of_lt ha, Nat.mod_eq_of_lt hb, Nat.mod_eq_of_lt (Nat.and_lt_two_pow _ hb)]
theorem wb_or {a b : Nat} (ha : a < 2 ^ 64) (hb : b < 2 ^ 64) : lN a ||| lN b = lN (a ||| b) := by
  apply wb_inj
  rw [Int64.toBitVec_or, wb_tb, wb_tb, wb_tb]
  apply BitVec.eq_of_toNat_eq
  rw [BitVec.toNat_or, BitVec.toNat_ofNat, BitVec.toNat_ofNat, BitVec.toNat_ofNat, Nat.mod_eq_of_lt ha, Nat.mod_eq_of_lt hb, Nat.mod_eq_of_lt (Nat.or_lt_two_pow ha hb)]
theorem wb_mask {n k : Nat} (hn : n < 2 ^ 64) (hk : k < 64) : lN n &&& lN (2 ^ k - 1) = lN (n % 2 ^ k) := by
  rw [wb_and hn (by have := wb_lt2 hk; omega), Nat.and_two_pow_sub_one_eq_mod]
theorem wb_a1 {n : Nat} (hn : n < 2 ^ 64) : lN n &&& 1 = lN (n % 2) := wb_mask (k := 1) hn (by decide)
theorem wb_bit {n k : Nat} (hn : n < 2 ^ 64) (hk : k < 64) : ((lN n).toUInt64 >>> ((nI k).toInt64.toUInt64 &&& Int64.toUInt64 63)).toInt64 &&& 1 = lN (n / 2 ^ k % 2) := by
  rw [wb_shr hn hk, wb_a1 (Nat.lt_of_le_of_lt (Nat.div_le_self _ _) hn)]
theorem wb_xor {q k : Nat} (hk : k < 63) (h : 2 ^ k ≤ q) (h2 : q < 2 ^ (k + 1)) : lN q ^^^ lN (2 ^ k) = lN (q - 2 ^ k) := by
  obtain ⟨r, rfl⟩ : ∃ r, q = 2 ^ k + r := ⟨q - 2 ^ k, by omega⟩
  have hr : r < 2 ^ k := by rw [Nat.pow_succ] at h2; omega
  have hx : (2 ^ k + r) ^^^ 2 ^ k = r := by
    apply Nat.eq_of_testBit_eq
    intro i
    rw [Nat.testBit_xor, Nat.testBit_two_pow]
    rcases Nat.lt_trichotomy i k with h | h | h
    · rw [Nat.testBit_two_pow_add_gt h]
      simp [show ¬ k = i by omega]
    · subst h
      rw [Nat.testBit_two_pow_add_eq]
      simp
    · have a1 : 2 ^ (k + 1) ≤ 2 ^ i := Nat.pow_le_pow_right (by decide) h
      rw [Nat.testBit_lt_two_pow (show 2 ^ k + r < 2 ^ i by omega), Nat.testBit_lt_two_pow (show r < 2 ^ i by omega)]
      simp [show ¬ k = i by omega]
  have b1 := wb_lt2 (show k + 1 < 64 by omega)
  have b2 := wb_lt2 (show k < 64 by omega)
  apply wb_inj
  rw [Int64.toBitVec_xor, wb_tb, wb_tb, wb_tb]
  apply BitVec.eq_of_toNat_eq
  rw [BitVec.toNat_xor, BitVec.toNat_ofNat, BitVec.toNat_ofNat, BitVec.toNat_ofNat, Nat.mod_eq_of_lt (by omega : 2 ^ k + r < 2 ^ 64), Nat.mod_eq_of_lt b2, hx, Nat.add_sub_cancel_left, Nat.mod_eq_of_lt (by omega)]
/-! ===== lN to 2^62 under >> and >>> ===== -/
theorem pf_lI {a : Nat} (h : a < 2 ^ 63) : (lN a).toInt = (a : Int) := lg_ofNat_toInt h
theorem pf_shr {a d : Nat} {D : Int64} (hD : (D.toBitVec.smod 64).toNat = d) (h : a < 2 ^ 62) : lN a >>> D = lN (a / 2 ^ d) := by
  have hd : a / 2 ^ d ≤ a := Nat.div_le_self _ _
  apply Int64.toInt_inj.mp
  have e : (lN a >>> D).toInt = (lN a).toInt >>> d := by
    rw [← hD]
    exact BitVec.toInt_sshiftRight ..
  rw [e, Int.shiftRight_eq_div_pow, pf_lI (by omega), pf_lI (by omega)]
  rfl
theorem pf_ushr {a d : Nat} {D : UInt64} (hD : D.toNat % 64 = d) (h : a < 2 ^ 62) : ((lN a).toUInt64 >>> D).toInt64 = lN (a / 2 ^ d) := by
  have hd : a / 2 ^ d ≤ a := Nat.div_le_self _ _
  have e : (lN a).toUInt64 >>> D = UInt64.ofNat (a / 2 ^ d) := UInt64.toNat_inj.mp (by
    rw [UInt64.toNat_shiftRight, hD, Nat.shiftRight_eq_div_pow, UInt64.toNat_ofNat']
    show (UInt64.ofNat a).toNat / 2 ^ d = _
    rw [UInt64.toNat_ofNat', Nat.mod_eq_of_lt (by omega), Nat.mod_eq_of_lt (by omega)])
  rw [e]
  rfl
theorem pf_andw (x : Int64) : ∃ m, m < 2 ^ 32 ∧ x &&& 4294967295 = lN m := ⟨x.toBitVec.toNat % 2 ^ 32, Nat.mod_lt _ (by decide), Int64.toBitVec_inj.mp (BitVec.eq_of_toNat_eq (by
  show (x.toBitVec &&& 4294967295#64).toNat = (BitVec.ofNat 64 (x.toBitVec.toNat % 2 ^ 32)).toNat
  rw [BitVec.toNat_and, show (4294967295#64).toNat = 2 ^ 32 - 1 from by decide, Nat.and_two_pow_sub_one_eq_mod, BitVec.toNat_ofNat]
  omega))⟩
/-! ===== order of Int32 ===== -/
theorem ilt {a b : Int32} (h : a < b) : ¬ b ≤ a := by
  rw [Int32.le_iff_toInt_le]; rw [Int32.lt_iff_toInt_lt] at h; omega
theorem inl {a b : Int32} (h : ¬ a < b) : b ≤ a := by
  rw [Int32.le_iff_toInt_le]; rw [Int32.lt_iff_toInt_lt] at h; omega
theorem ile {a b : Int32} (h : a ≤ b) : ¬ b < a := by
  rw [Int32.lt_iff_toInt_lt]; rw [Int32.le_iff_toInt_le] at h; omega
theorem inle {a b : Int32} (h : ¬ a ≤ b) : b < a := by
  rw [Int32.lt_iff_toInt_lt]; rw [Int32.le_iff_toInt_le] at h; omega
/-! ===== sets of rows as numbers ===== -/
def mk (f : Nat → Bool) : Nat → Nat
  | 0 => 0
  | n + 1 => mk f n + (if f n = true then 2 ^ n else 0)
def cnt (f : Nat → Bool) : Nat → Nat
  | 0 => 0
  | n + 1 => cnt f n + (if f n = true then 1 else 0)
theorem mk_lt (f : Nat → Bool) : ∀ n, mk f n < 2 ^ n
  | 0 => by simp [mk]
  | n + 1 => by
    have h := mk_lt f n
    have h2 : 2 ^ (n + 1) = 2 ^ n + 2 ^ n := by rw [Nat.pow_succ]; omega
    simp only [mk]
    split <;> omega
theorem mk_bit (f : Nat → Bool) : ∀ n i, (mk f n).testBit i = (decide (i < n) && f i)
  | 0, i => by simp [mk]
  | n + 1, i => by
    have h := mk_bit f n i
    have hn := mk_lt f n
    simp only [mk]
    by_cases hf : f n = true
    · rw [if_pos hf, Nat.add_comm]
      rcases Nat.lt_trichotomy i n with hi | hi | hi
      · rw [Nat.testBit_two_pow_add_gt hi, h]
        simp [hi, Nat.lt_succ_of_lt hi]
      · subst hi
        rw [Nat.testBit_two_pow_add_eq, Nat.testBit_lt_two_pow hn]
        simp [hf]
      · have h2 : 2 ^ (n + 1) ≤ 2 ^ i := Nat.pow_le_pow_right (by decide) hi
        have h3 : 2 ^ (n + 1) = 2 ^ n + 2 ^ n := by rw [Nat.pow_succ]; omega
        rw [Nat.testBit_lt_two_pow (by omega)]
        simp [show ¬ i < n + 1 by omega]
    · rw [if_neg hf, Nat.add_zero, h]
      by_cases hi : i = n
      · subst hi
        simp [Bool.eq_false_iff.mpr hf]
      · simp [show (i < n + 1) = (i < n) from by apply propext; omega]
theorem mk_congr {f g : Nat → Bool} : ∀ {n : Nat}, (∀ i, i < n → f i = g i) → mk f n = mk g n
  | 0, _ => rfl
  | n + 1, h => by
    simp only [mk]
    rw [mk_congr (n := n) (fun i hi => h i (Nat.lt_succ_of_lt hi)), h n (Nat.lt_succ_self n)]
theorem cnt_congr {f g : Nat → Bool} : ∀ {n : Nat}, (∀ i, i < n → f i = g i) → cnt f n = cnt g n
  | 0, _ => rfl
  | n + 1, h => by
    simp only [cnt]
    rw [cnt_congr (n := n) (fun i hi => h i (Nat.lt_succ_of_lt hi)), h n (Nat.lt_succ_self n)]
theorem mk_and (f g : Nat → Bool) (n : Nat) : mk f n &&& mk g n = mk (fun i => f i && g i) n := by
  apply Nat.eq_of_testBit_eq
  intro i
  rw [Nat.testBit_and, mk_bit, mk_bit, mk_bit]
  cases decide (i < n) <;> simp
theorem mk_or (f g : Nat → Bool) (n : Nat) : mk f n ||| mk g n = mk (fun i => f i || g i) n := by
  apply Nat.eq_of_testBit_eq
  intro i
  rw [Nat.testBit_or, mk_bit, mk_bit, mk_bit]
  cases decide (i < n) <;> simp
/-- one row more -/
theorem mk_put (f : Nat → Bool) (n k : Nat) (hk : k < n) : mk f n ||| 2 ^ k = mk (fun i => f i || decide (i = k)) n := by
  apply Nat.eq_of_testBit_eq
  intro i
  rw [Nat.testBit_or, mk_bit, mk_bit, Nat.testBit_two_pow]
  by_cases h : i = k
  · subst h; simp [hk]
  · simp [h, Ne.symm h]
theorem mk_top (f : Nat → Bool) (n : Nat) : mk f n ||| 2 ^ n = mk f n + 2 ^ n := by
  rw [Nat.or_comm, Nat.add_comm]
  have h := Nat.shiftLeft_add_eq_or_of_lt (mk_lt f n) 1
  rw [Nat.shiftLeft_eq, Nat.one_mul] at h
  exact h.symm
theorem mk_zero {f : Nat → Bool} {n : Nat} : mk f n = 0 ↔ ∀ i, i < n → f i = false := by
  constructor
  · intro h i hi
    have := mk_bit f n i
    rw [h] at this
    simpa [hi] using this.symm
  · intro h
    apply Nat.eq_of_testBit_eq
    intro i
    rw [mk_bit]
    by_cases hi : i < n
    · simp [h i hi]
    · simp [hi]
theorem mk_inj {f g : Nat → Bool} {n : Nat} (h : mk f n = mk g n) (i : Nat) (hi : i < n) : f i = g i := by
  have a := mk_bit f n i
  rw [h, mk_bit] at a
  simpa [hi] using a.symm
theorem mk_test {f : Nat → Bool} {n k : Nat} (hk : k < n) : mk f n &&& 2 ^ k = if f k = true then 2 ^ k else 0 := by
  apply Nat.eq_of_testBit_eq
  intro i
  rw [Nat.testBit_and, mk_bit, Nat.testBit_two_pow]
  by_cases h : i = k
  · subst h
    cases hf : f i <;> simp [hk, hf, Nat.testBit_two_pow]
  · cases hf : f k <;> simp [Ne.symm h, Nat.testBit_two_pow]
theorem cnt_le (f : Nat → Bool) : ∀ n, cnt f n ≤ n
  | 0 => Nat.le_refl 0
  | n + 1 => by
    have := cnt_le f n
    simp only [cnt]
    split <;> omega
theorem cnt_zero {f : Nat → Bool} : ∀ {n : Nat}, cnt f n = 0 ↔ ∀ i, i < n → f i = false
  | 0 => by simp [cnt]
  | n + 1 => by
    have h := cnt_zero (f := f) (n := n)
    simp only [cnt]
    constructor
    · intro e i hi
      have e1 : cnt f n = 0 := by omega
      by_cases hin : i = n
      · subst hin
        cases hf : f i
        · rfl
        · rw [if_pos hf] at e; omega
      · exact h.mp e1 i (by omega)
    · intro e
      rw [h.mpr (fun i hi => e i (by omega)), if_neg (by rw [e n (by omega)]; decide)]
theorem cnt_mono {f g : Nat → Bool} (h : ∀ i, f i = true → g i = true) : ∀ n, cnt f n ≤ cnt g n
  | 0 => Nat.le_refl 0
  | n + 1 => by
    have := cnt_mono h n
    simp only [cnt]
    by_cases hf : f n = true
    · rw [if_pos hf, if_pos (h n hf)]; omega
    · rw [if_neg hf]; omega
theorem cnt_add (f : Nat → Bool) (a : Nat) : ∀ b, cnt f (a + b) = cnt f a + cnt (fun i => f (a + i)) b
  | 0 => by simp [cnt]
  | b + 1 => by
    rw [← Nat.add_assoc]
    simp only [cnt]
    rw [cnt_add f a b]
    omega
theorem cnt_out {f : Nat → Bool} {n : Nat} : ∀ {m : Nat}, n ≤ m → cnt (fun i => decide (i < n) && f i) m = cnt f n
  | 0, h => by
    have : n = 0 := by omega
    subst this
    rfl
  | m + 1, h => by
    by_cases e : n = m + 1
    · subst e
      exact cnt_congr (fun i hi => by simp [hi])
    · simp only [cnt]
      rw [cnt_out (m := m) (by omega)]
      simp [show ¬ m < n by omega]
theorem cnt_mk (f : Nat → Bool) {n : Nat} (hn : n ≤ 64) : cnt (mk f n).testBit 64 = cnt f n := by
  rw [cnt_congr (g := fun i => decide (i < n) && f i) (fun i _ => mk_bit f n i), cnt_out hn]
/-! ===== Long.bitCount ===== -/
theorem and_split {a b c d : Nat} (hb : b < 256) (hd : d < 256) : (256 * a + b) &&& (256 * c + d) = 256 * (a &&& c) + (b &&& d) := by
  have h1 := Nat.and_div_two_pow (a := 256 * a + b) (b := 256 * c + d) (n := 8)
  have h2 := Nat.and_mod_two_pow (a := 256 * a + b) (b := 256 * c + d) (n := 8)
  have e1 : (256 * a + b) / 2 ^ 8 = a := by omega
  have e2 : (256 * c + d) / 2 ^ 8 = c := by omega
  have e3 : (256 * a + b) % 2 ^ 8 = b := by omega
  have e4 : (256 * c + d) % 2 ^ 8 = d := by omega
  rw [e1, e2] at h1
  rw [e3, e4] at h2
  have := Nat.div_add_mod ((256 * a + b) &&& (256 * c + d)) (2 ^ 8)
  rw [h1, h2] at this
  omega
theorem dvm {a b c n : Nat} (h : a = n * b + c) (hc : c < n) : a / n = b := by
  rw [h, Nat.mul_add_div (by omega), Nat.div_eq_of_lt hc, Nat.add_zero]
def f55 : Nat → Nat
  | 0 => 0
  | k + 1 => 256 * f55 k + 85
def f33 : Nat → Nat
  | 0 => 0
  | k + 1 => 256 * f33 k + 51
def f0f : Nat → Nat
  | 0 => 0
  | k + 1 => 256 * f0f k + 15
def bc1 (k x : Nat) : Nat := x - (x / 2 &&& f55 k)
def bc2 (k x : Nat) : Nat := (x &&& f33 k) + (x / 4 &&& f33 k)
def bc3 (k x : Nat) : Nat := (x + x / 16) &&& f0f k
theorem bc_d1 : ∀ e, e < 2 → ∀ b, b < 256 → (128 * e + b / 2) &&& 85 = (b / 2) &&& 85 := by decide +kernel
theorem bc_d2 : ∀ e, e < 4 → ∀ b, b < 256 → (64 * e + b / 4) &&& 51 = (b / 4) &&& 51 := by decide +kernel
theorem bc_d3 : ∀ e, e < 7 → ∀ b, b < 103 → (b + b / 16 + 16 * e) &&& 15 = (b + b / 16) &&& 15 := by decide +kernel
theorem bc_d4 : ∀ b, b < 256 → b / 2 &&& 85 ≤ b ∧ (b &&& 51) + (b / 4 &&& 51) < 103 := by decide +kernel
theorem bc_s1 (k h b : Nat) (hb : b < 256) : bc1 (k + 1) (256 * h + b) = 256 * bc1 k h + (b - (b / 2 &&& 85)) := by
  unfold bc1
  rw [show (256 * h + b) / 2 = 256 * (h / 2) + (128 * (h % 2) + b / 2) by omega, f55, and_split (by omega) (by decide), bc_d1 (h % 2) (by omega) b hb]
  have h1 : h / 2 &&& f55 k ≤ h / 2 := Nat.and_le_left
  have h2 := (bc_d4 b hb).1
  omega
theorem bc_s2 (k h b : Nat) (hb : b < 256) : bc2 (k + 1) (256 * h + b) = 256 * bc2 k h + ((b &&& 51) + (b / 4 &&& 51)) := by
  unfold bc2
  rw [show (256 * h + b) / 4 = 256 * (h / 4) + (64 * (h % 4) + b / 4) by omega, f33, and_split hb (by decide), and_split (by omega) (by decide), bc_d2 (h % 4) (by omega) b hb]
  omega
theorem f33_m : ∀ k, f33 k % 2 ^ 4 ≤ 3
  | 0 => by decide
  | k + 1 => by rw [f33]; omega
theorem bc2_m (k x : Nat) : bc2 k x % 16 < 7 := by
  have a : (x &&& f33 k) % 2 ^ 4 ≤ 3 := by rw [Nat.and_mod_two_pow]; exact Nat.le_trans Nat.and_le_right (f33_m k)
  have b : (x / 4 &&& f33 k) % 2 ^ 4 ≤ 3 := by rw [Nat.and_mod_two_pow]; exact Nat.le_trans Nat.and_le_right (f33_m k)
  unfold bc2
  omega
theorem bc_s3 (k h b : Nat) (hb : b < 103) (hh : h % 16 < 7) : bc3 (k + 1) (256 * h + b) = 256 * bc3 k h + ((b + b / 16) &&& 15) := by
  unfold bc3
  rw [show 256 * h + b + (256 * h + b) / 16 = 256 * (h + h / 16) + (b + b / 16 + 16 * (h % 16)) by omega, f0f, and_split (by omega) (by decide), bc_d3 (h % 16) hh b hb]
def bcF (k x : Nat) : Nat := bc3 k (bc2 k (bc1 k x))
theorem bc_b : ∀ b, b < 256 → ((((b - (b / 2 &&& 85)) &&& 51) + ((b - (b / 2 &&& 85)) / 4 &&& 51)) + (((b - (b / 2 &&& 85)) &&& 51) + ((b - (b / 2 &&& 85)) / 4 &&& 51)) / 16) &&& 15 = cnt b.testBit 8 := by decide +kernel
theorem bc_s (k h b : Nat) (hb : b < 256) : bcF (k + 1) (256 * h + b) = 256 * bcF k h + cnt b.testBit 8 := by
  unfold bcF
  rw [bc_s1 k h b hb, bc_s2 _ _ _ (by omega), bc_s3 _ _ _ (bc_d4 _ (by omega)).2 (bc2_m _ _), bc_b b hb]
theorem cnt_byte (k h b : Nat) (hb : b < 256) : cnt (256 * h + b).testBit (8 * (k + 1)) = cnt b.testBit 8 + cnt h.testBit (8 * k) := by
  rw [show 8 * (k + 1) = 8 + 8 * k by omega, cnt_add]
  congr 1
  · apply cnt_congr
    intro i hi
    have := Nat.testBit_mod_two_pow (256 * h + b) 8 i
    rw [show (256 * h + b) % 2 ^ 8 = b by omega] at this
    rw [this]
    simp [hi]
  · apply cnt_congr
    intro i hi
    have := Nat.testBit_div_two_pow (n := 8) (256 * h + b) i
    rw [show (256 * h + b) / 2 ^ 8 = h by omega] at this
    rw [this, Nat.add_comm 8 i]
theorem bc_e1 (q0 q1 q2 q3 q4 q5 q6 q7 : Nat) : 256 * (256 * (256 * (256 * (256 * (256 * (256 * (256 * 0 + q7) + q6) + q5) + q4) + q3) + q2) + q1) + q0 + (256 * (256 * (256 * (256 * (256 * (256 * q7 + q6) + q5) + q4) + q3) + q2) + q1) = 65536 * (256 * (256 * (256 * (256 * (256 * q7 + (q6 + q7)) + (q5 + q6)) + (q4 + q5)) + (q3 + q4)) + (q2 + q3)) + (256 * (q1 + q2) + (q0 + q1)) := by omega
theorem bc_e2 (q0 q1 q2 q3 q4 q5 q6 q7 : Nat) : 65536 * (256 * (256 * (256 * (256 * (256 * q7 + (q6 + q7)) + (q5 + q6)) + (q4 + q5)) + (q3 + q4)) + (q2 + q3)) + (256 * (q1 + q2) + (q0 + q1)) + (256 * (256 * (256 * (256 * (256 * q7 + (q6 + q7)) + (q5 + q6)) + (q4 + q5)) + (q3 + q4)) + (q2 + q3)) = 4294967296 * (256 * (256 * (256 * q7 + (q6 + q7)) + (q5 + q6 + q7)) + (q4 + q5 + q6 + q7)) + (256 * (256 * (256 * (q3 + q4 + q5 + q6) + (q2 + q3 + q4 + q5)) + (q1 + q2 + q3 + q4)) + (q0 + q1 + q2 + q3)) := by omega
theorem bc_e3 (q0 q1 q2 q3 q4 q5 q6 q7 : Nat) : 4294967296 * (256 * (256 * (256 * q7 + (q6 + q7)) + (q5 + q6 + q7)) + (q4 + q5 + q6 + q7)) + (256 * (256 * (256 * (q3 + q4 + q5 + q6) + (q2 + q3 + q4 + q5)) + (q1 + q2 + q3 + q4)) + (q0 + q1 + q2 + q3)) + (256 * (256 * (256 * q7 + (q6 + q7)) + (q5 + q6 + q7)) + (q4 + q5 + q6 + q7)) = 128 * (2 * (256 * (256 * (256 * (256 * (256 * (256 * q7 + (q6 + q7)) + (q5 + q6 + q7)) + (q4 + q5 + q6 + q7)) + (q3 + q4 + q5 + q6 + q7)) + (q2 + q3 + q4 + q5 + q6 + q7)) + (q1 + q2 + q3 + q4 + q5 + q6 + q7))) + (q0 + (q1 + (q2 + (q3 + (q4 + (q5 + (q6 + (q7 + 0)))))))) := by omega
theorem bc_sum (q0 q1 q2 q3 q4 q5 q6 q7 : Nat) (c0 : q0 ≤ 8) (c1 : q1 ≤ 8) (c2 : q2 ≤ 8) (c3 : q3 ≤ 8) (c4 : q4 ≤ 8) (c5 : q5 ≤ 8) (c6 : q6 ≤ 8) (c7 : q7 ≤ 8) {y : Nat} (hy : y = 256 * (256 * (256 * (256 * (256 * (256 * (256 * (256 * 0 + q7) + q6) + q5) + q4) + q3) + q2) + q1) + q0) :
    (y + y / 256 + (y + y / 256) / 65536 + (y + y / 256 + (y + y / 256) / 65536) / 4294967296) % 128 = q0 + (q1 + (q2 + (q3 + (q4 + (q5 + (q6 + (q7 + 0))))))) := by
  have d3 : y / 256 = 256 * (256 * (256 * (256 * (256 * (256 * q7 + q6) + q5) + q4) + q3) + q2) + q1 := by
    rw [Nat.mul_zero, Nat.zero_add] at hy
    exact dvm hy (by omega)
  rw [d3, hy, bc_e1, dvm (n := 65536) (c := 256 * (q1 + q2) + (q0 + q1)) rfl (by omega), bc_e2, dvm (n := 4294967296) (c := 256 * (256 * (256 * (q3 + q4 + q5 + q6) + (q2 + q3 + q4 + q5)) + (q1 + q2 + q3 + q4)) + (q0 + q1 + q2 + q3)) rfl (by omega), bc_e3, Nat.mul_add_mod, Nat.mod_eq_of_lt (by omega)]
theorem bc_all {x : Nat} (hx : x < 2 ^ 64) : (bcF 8 x + bcF 8 x / 256 + (bcF 8 x + bcF 8 x / 256) / 65536 + (bcF 8 x + bcF 8 x / 256 + (bcF 8 x + bcF 8 x / 256) / 65536) / 4294967296) % 128 = cnt x.testBit 64 := by
  obtain ⟨h1, b0, e0, l0⟩ : ∃ h b, x = 256 * h + b ∧ b < 256 := ⟨x / 256, x % 256, by omega, by omega⟩
  obtain ⟨h2, b1, e1, l1⟩ : ∃ h b, h1 = 256 * h + b ∧ b < 256 := ⟨h1 / 256, h1 % 256, by omega, by omega⟩
  obtain ⟨h3, b2, e2, l2⟩ : ∃ h b, h2 = 256 * h + b ∧ b < 256 := ⟨h2 / 256, h2 % 256, by omega, by omega⟩
  obtain ⟨h4, b3, e3, l3⟩ : ∃ h b, h3 = 256 * h + b ∧ b < 256 := ⟨h3 / 256, h3 % 256, by omega, by omega⟩
  obtain ⟨h5, b4, e4, l4⟩ : ∃ h b, h4 = 256 * h + b ∧ b < 256 := ⟨h4 / 256, h4 % 256, by omega, by omega⟩
  obtain ⟨h6, b5, e5, l5⟩ : ∃ h b, h5 = 256 * h + b ∧ b < 256 := ⟨h5 / 256, h5 % 256, by omega, by omega⟩
  obtain ⟨h7, b6, e6, l6⟩ : ∃ h b, h6 = 256 * h + b ∧ b < 256 := ⟨h6 / 256, h6 % 256, by omega, by omega⟩
  obtain ⟨h8, b7, e7, l7⟩ : ∃ h b, h7 = 256 * h + b ∧ b < 256 := ⟨h7 / 256, h7 % 256, by omega, by omega⟩
  have z : h8 = 0 := by omega
  subst z
  have B : bcF 8 x = 256 * (256 * (256 * (256 * (256 * (256 * (256 * (256 * bcF 0 0 + cnt b7.testBit 8) + cnt b6.testBit 8) + cnt b5.testBit 8) + cnt b4.testBit 8) + cnt b3.testBit 8) + cnt b2.testBit 8) + cnt b1.testBit 8) + cnt b0.testBit 8 := by
    rw [e0, bc_s 7 _ _ l0, e1, bc_s 6 _ _ l1, e2, bc_s 5 _ _ l2, e3, bc_s 4 _ _ l3, e4, bc_s 3 _ _ l4, e5, bc_s 2 _ _ l5, e6, bc_s 1 _ _ l6, e7, bc_s 0 _ _ l7]
  have Z : bcF 0 0 = 0 := by decide
  have C : cnt x.testBit 64 = cnt b0.testBit 8 + (cnt b1.testBit 8 + (cnt b2.testBit 8 + (cnt b3.testBit 8 + (cnt b4.testBit 8 + (cnt b5.testBit 8 + (cnt b6.testBit 8 + (cnt b7.testBit 8 + 0))))))) := by
    rw [show 64 = 8 * (7 + 1) from rfl, e0, cnt_byte 7 _ _ l0, show 8 * 7 = 8 * (6 + 1) from rfl, e1, cnt_byte 6 _ _ l1, show 8 * 6 = 8 * (5 + 1) from rfl, e2, cnt_byte 5 _ _ l2, show 8 * 5 = 8 * (4 + 1) from rfl, e3, cnt_byte 4 _ _ l3, show 8 * 4 = 8 * (3 + 1) from rfl, e4, cnt_byte 3 _ _ l4, show 8 * 3 = 8 * (2 + 1) from rfl, e5, cnt_byte 2 _ _ l5, show 8 * 2 = 8 * (1 + 1) from rfl, e6, cnt_byte 1 _ _ l6, show 8 * 1 = 8 * (0 + 1) from rfl, e7, cnt_byte 0 _ _ l7]
    rfl
  rw [Z] at B
  rw [C]
  have c0 := cnt_le b0.testBit 8
  have c1 := cnt_le b1.testBit 8
  have c2 := cnt_le b2.testBit 8
  have c3 := cnt_le b3.testBit 8
  have c4 := cnt_le b4.testBit 8
  have c5 := cnt_le b5.testBit 8
  have c6 := cnt_le b6.testBit 8
  have c7 := cnt_le b7.testBit 8
  exact bc_sum _ _ _ _ _ _ _ _ c0 c1 c2 c3 c4 c5 c6 c7 B
