/-! ===== a watch ===== -/
/-- how many steps there are, k passed -/
def ns (b l : Nat) : Nat → Nat → Nat
  | 0, k => k
  | f + 1, k => if b + k * l < 1000 then ns b l f (k + 1) else k
theorem ns_ge (b l : Nat) : ∀ f k, k ≤ ns b l f k
  | 0, _ => Nat.le_refl _
  | f + 1, k => by
    simp only [ns]
    split
    · exact Nat.le_trans (Nat.le_succ k) (ns_ge b l f (k + 1))
    · exact Nat.le_refl k
theorem ns_le (b l : Nat) : ∀ f k, ns b l f k ≤ k + f
  | 0, _ => Nat.le_refl _
  | f + 1, k => by
    simp only [ns]
    split
    · have := ns_le b l f (k + 1); omega
    · omega
theorem ns_lt (b l : Nat) : ∀ f k j, k ≤ j → j < ns b l f k → b + j * l < 1000
  | 0, k, j, h, q => by simp only [ns] at q; omega
  | f + 1, k, j, h, q => by
    simp only [ns] at q
    split at q
    · by_cases e : j = k
      · subst e; assumption
      · exact ns_lt b l f (k + 1) j (by omega) q
    · omega
abbrev nst (b l : Nat) : Nat := ns b l 100 0
def beg (b l k : Nat) : Int32 := nI (b + k * l)
def fin (b l k : Nat) : Int32 := nI (min (b + (k + 1) * l) 1000)
def wG (tI : Nat → Int32) (b l k : Nat) : Nat → Bool := win tI (beg b l k) (fin b l k)
def wHas (tI : Nat → Int32) (n b l k : Nat) : Bool := decide (¬ cnt (wG tI b l k) n = 0)
def wOff (tI sI : Nat → Int32) (n co b l lm k : Nat) : Bool := wHas tI n b l k && decide (lm * (2 * cnt (win tI 0 (nI b)) n * cnt (wG tI b l k) n) ≤ 1000 * dsu (win tI 0 (nI b)) (wG tI b l k) sI co n 11)
/-- whether an alarm is up, how many calm steps, how many steps up, how many alarms: behind k steps -/
def aw (off has : Nat → Bool) (hd : Nat) : Nat → Bool × Nat × Nat × Nat
  | 0 => (false, 0, 0, 0)
  | k + 1 => if off k = true then (true, 0, (aw off has hd k).2.2.1 + 1, (aw off has hd k).2.2.2 + (if (aw off has hd k).1 = true then 0 else 1))
    else if has k = true ∧ (aw off has hd k).1 = true then (decide ((aw off has hd k).2.1 + 1 < hd), (aw off has hd k).2.1 + 1, (aw off has hd k).2.2.1 + (if (aw off has hd k).2.1 + 1 < hd then 1 else 0), (aw off has hd k).2.2.2)
    else ((aw off has hd k).1, (aw off has hd k).2.1, (aw off has hd k).2.2.1 + (if (aw off has hd k).1 = true then 1 else 0), (aw off has hd k).2.2.2)
theorem aw_o {off has : Nat → Bool} {hd k : Nat} (h : off k = true) : aw off has hd (k + 1) = (true, 0, (aw off has hd k).2.2.1 + 1, (aw off has hd k).2.2.2 + (if (aw off has hd k).1 = true then 0 else 1)) := by
  rw [aw, if_pos h]
theorem aw_c {off has : Nat → Bool} {hd k : Nat} (h : ¬ off k = true) (h2 : has k = true ∧ (aw off has hd k).1 = true) : aw off has hd (k + 1) = (decide ((aw off has hd k).2.1 + 1 < hd), (aw off has hd k).2.1 + 1, (aw off has hd k).2.2.1 + (if (aw off has hd k).2.1 + 1 < hd then 1 else 0), (aw off has hd k).2.2.2) := by
  rw [aw, if_neg h, if_pos h2]
theorem aw_n {off has : Nat → Bool} {hd k : Nat} (h : ¬ off k = true) (h2 : ¬ (has k = true ∧ (aw off has hd k).1 = true)) : aw off has hd (k + 1) = ((aw off has hd k).1, (aw off has hd k).2.1, (aw off has hd k).2.2.1 + (if (aw off has hd k).1 = true then 1 else 0), (aw off has hd k).2.2.2) := by
  rw [aw, if_neg h, if_neg h2]
abbrev wtOk (ba le hd lm : Int32) : Prop := (1 ≤ ba ∧ ba ≤ 999) ∧ (1 ≤ le ∧ le ≤ 999) ∧ (1 ≤ hd ∧ hd ≤ 100) ∧ (1 ≤ lm ∧ lm ≤ 1000)
def wAw (n : Nat) (tI sI : Nat → Int32) (co b l hd lm k : Nat) : Bool × Nat × Nat × Nat := aw (wOff tI sI n co b l lm) (wHas tI n b l) hd k
def watchR (n : Nat) (tI sI : Nat → Int32) (y ba le hd lm : Int32) : Int32 := if inC y then (if wtOk ba le hd lm then (if cnt (win tI 0 ba) n = 0 then -1000003 else nI (wAw n tI sI (cl y) (cl ba) (cl le) (cl hd) (cl lm) (nst (cl ba) (cl le))).2.2.1) else -1000002) else -1000001
/-- a watch is made -/
def wYes (n : Nat) (tI : Nat → Int32) (y ba le hd lm : Int32) : Prop := inC y ∧ wtOk ba le hd lm ∧ ¬ cnt (win tI 0 ba) n = 0
theorem rng1 {x M : Int32} {N : Nat} (hM : M.toInt = N) (h : 1 ≤ x ∧ x ≤ M) : ∃ j, 1 ≤ j ∧ j ≤ N ∧ x = nI j := by
  have h1 := h.1
  rw [Int32.le_iff_toInt_le] at h1
  have e1 : (1 : Int32).toInt = 1 := by decide
  obtain ⟨j, hj, e⟩ := nI_of2 hM (fun q => by rw [Int32.lt_iff_toInt_lt] at q; have e0 : (0 : Int32).toInt = 0 := by decide
                                              omega) h.2
  refine ⟨j, ?_, hj, e⟩
  subst e
  by_cases q : j = 0
  · subst q
    have : (nI 0).toInt = 0 := by decide
    omega
  · omega
def b01 (b : Bool) : Int32 := if b = true then 1 else 0
theorem b01_0 {b : Bool} : b01 b = 0 ↔ b = false := by cases b <;> decide
theorem b01_z (b : Bool) : b01 b = 0 ∨ b01 b = 1 := by cases b <;> decide
