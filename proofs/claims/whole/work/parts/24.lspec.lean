/-! ===== the list of slices ===== -/
abbrev En : Type := Nat × Nat × Nat
def pop (x : Nat) : Nat := cnt x.testBit 64
theorem pop_le (x : Nat) : pop x ≤ 64 := cnt_le _ _
theorem pop48 {x : Nat} (h : x < 2 ^ 48) : cnt x.testBit 48 = pop x := by
  unfold pop
  have : cnt x.testBit 64 = cnt x.testBit (48 + 16) := rfl
  have z : cnt (fun i => x.testBit (48 + i)) 16 = 0 := cnt_zero.mpr (fun i _ => Nat.testBit_lt_two_pow (Nat.lt_of_lt_of_le h (Nat.pow_le_pow_right (by decide) (Nat.le_add_right 48 i))))
  rw [this, cnt_add, z, Nat.add_zero]
theorem pop_mk (f : Nat → Bool) {n : Nat} (hn : n ≤ 48) : pop (mk f n) = cnt f n := cnt_mk f (Nat.le_trans hn (by decide))
/-- whether the set x goes ahead of the set z, by bound and rows -/
def ah (hm x z : Nat) : Bool := decide ((pop (x &&& hm) + 2) * (pop z + 4) < (pop (z &&& hm) + 2) * (pop x + 4) ∨ ((pop (x &&& hm) + 2) * (pop z + 4) = (pop (z &&& hm) + 2) * (pop x + 4) ∧ pop z < pop x))
def sI2 (g : Nat) : Int32 := if g = 0 then -1 else nI (g - 1)
theorem fr_lt {p1 q1 p2 q2 p3 q3 : Nat} (h2 : 0 < q2) (a : p1 * q2 ≤ p2 * q1) (b : p2 * q3 ≤ p3 * q2) : p1 * q3 ≤ p3 * q1 := by
  have h : p1 * q3 * q2 ≤ p3 * q1 * q2 := by
    have e1 : p1 * q2 * q3 ≤ p2 * q1 * q3 := Nat.mul_le_mul_right _ a
    have e2 : p2 * q3 * q1 ≤ p3 * q2 * q1 := Nat.mul_le_mul_right _ b
    have r1 : p1 * q3 * q2 = p1 * q2 * q3 := by rw [Nat.mul_assoc, Nat.mul_comm q3 q2, ← Nat.mul_assoc]
    have r2 : p2 * q1 * q3 = p2 * q3 * q1 := by rw [Nat.mul_assoc, Nat.mul_comm q1 q3, ← Nat.mul_assoc]
    have r3 : p3 * q2 * q1 = p3 * q1 * q2 := by rw [Nat.mul_assoc, Nat.mul_comm q2 q1, ← Nat.mul_assoc]
    rw [r1, ← r3]
    rw [r2] at e1
    exact Nat.le_trans e1 e2
  exact Nat.le_of_mul_le_mul_right h h2
theorem fr_lts {p1 q1 p2 q2 p3 q3 : Nat} (h1 : 0 < q1) (h2 : 0 < q2) (h3 : 0 < q3) (a : p1 * q2 ≤ p2 * q1) (b : p2 * q3 ≤ p3 * q2) (s : p1 * q2 < p2 * q1 ∨ p2 * q3 < p3 * q2) : p1 * q3 < p3 * q1 := by
  have h : p1 * q3 * q2 < p3 * q1 * q2 := by
    have r1 : p1 * q3 * q2 = p1 * q2 * q3 := by rw [Nat.mul_assoc, Nat.mul_comm q3 q2, ← Nat.mul_assoc]
    have r2 : p2 * q1 * q3 = p2 * q3 * q1 := by rw [Nat.mul_assoc, Nat.mul_comm q1 q3, ← Nat.mul_assoc]
    have r3 : p3 * q2 * q1 = p3 * q1 * q2 := by rw [Nat.mul_assoc, Nat.mul_comm q2 q1, ← Nat.mul_assoc]
    rw [r1, ← r3]
    rcases s with s | s
    · have e1 : p1 * q2 * q3 < p2 * q1 * q3 := Nat.mul_lt_mul_of_pos_right s h3
      have e2 : p2 * q3 * q1 ≤ p3 * q2 * q1 := Nat.mul_le_mul_right _ b
      rw [r2] at e1
      exact Nat.lt_of_lt_of_le e1 e2
    · have e1 : p1 * q2 * q3 ≤ p2 * q1 * q3 := Nat.mul_le_mul_right _ a
      have e2 : p2 * q3 * q1 < p3 * q2 * q1 := Nat.mul_lt_mul_of_pos_right s h1
      rw [r2] at e1
      exact Nat.lt_of_le_of_lt e1 e2
  exact Nat.lt_of_mul_lt_mul_right h
/-- x ahead of z, and w not ahead of z: x ahead of w -/
theorem ah_tr {hm x z w : Nat} (h1 : ah hm x z = true) (h2 : ah hm w z = false) : ah hm x w = true := by
  have h1 := of_decide_eq_true h1
  have h2 := of_decide_eq_false h2
  apply decide_eq_true
  have pz : 0 < pop z + 4 := by omega
  have px : 0 < pop x + 4 := by omega
  have pw : 0 < pop w + 4 := by omega
  have a : (pop (x &&& hm) + 2) * (pop z + 4) ≤ (pop (z &&& hm) + 2) * (pop x + 4) := h1.elim Nat.le_of_lt (fun q => Nat.le_of_eq q.1)
  have b : (pop (z &&& hm) + 2) * (pop w + 4) ≤ (pop (w &&& hm) + 2) * (pop z + 4) := Nat.le_of_not_lt (fun q => h2 (Or.inl q))
  by_cases s : (pop (x &&& hm) + 2) * (pop z + 4) < (pop (z &&& hm) + 2) * (pop x + 4) ∨ (pop (z &&& hm) + 2) * (pop w + 4) < (pop (w &&& hm) + 2) * (pop z + 4)
  · exact Or.inl (fr_lts px pz pw a b s)
  · right
    have s1 : (pop (x &&& hm) + 2) * (pop z + 4) = (pop (z &&& hm) + 2) * (pop x + 4) := Nat.le_antisymm a (Nat.le_of_not_lt (fun q => s (Or.inl q)))
    have s2 : (pop (z &&& hm) + 2) * (pop w + 4) = (pop (w &&& hm) + 2) * (pop z + 4) := Nat.le_antisymm b (Nat.le_of_not_lt (fun q => s (Or.inr q)))
    have g1 : pop z < pop x := h1.elim (fun q => absurd s1 (Nat.ne_of_lt q)) (fun q => q.2)
    have g2 : ¬ pop z < pop w := fun q => h2 (Or.inr ⟨s2.symm, q⟩)
    refine ⟨Nat.le_antisymm (fr_lt pz a b) (fr_lt pz (Nat.le_of_eq s2.symm) (Nat.le_of_eq s1.symm)), by omega⟩
def insE (E : Nat → En) (p : Nat) (x : En) : Nat → En := fun j => if j < p then E j else if j = p then x else E (j - 1)
def posn (hm : Nat) (E : Nat → En) (ln : Nat) (x : Nat) : Nat := cnt (fun j => !ah hm x (E j).1) ln
def Srt (hm : Nat) (E : Nat → En) (ln : Nat) : Prop := ∀ i j, i < j → j < ln → ah hm (E j).1 (E i).1 = false
/-- the place at which x must stand -/
def isPos (hm : Nat) (E : Nat → En) (ln x p : Nat) : Prop := p ≤ ln ∧ (∀ j, j < p → ah hm x (E j).1 = false) ∧ ∀ j, p ≤ j → j < ln → ah hm x (E j).1 = true
theorem posn_of {hm : Nat} {E : Nat → En} {x : Nat} : ∀ {ln p : Nat}, isPos hm E ln x p → posn hm E ln x = p
  | 0, p, h => by have := h.1; unfold posn; simp [cnt]; omega
  | ln + 1, p, h => by
    unfold posn
    by_cases e : p = ln + 1
    · subst e
      have : posn hm E ln x = ln := posn_of ⟨Nat.le_refl _, fun j hj => h.2.1 j (by omega), fun j h1 h2 => by omega⟩
      rw [cnt_y (by simp [h.2.1 ln (by omega)])]
      unfold posn at this
      rw [this]
    · have hp := h.1
      rw [cnt_n (by simp [h.2.2 ln (by omega) (by omega)])]
      exact posn_of (hm := hm) (E := E) (x := x) ⟨by omega, h.2.1, fun j h1 h2 => h.2.2 j h1 (by omega)⟩
theorem ah_mono {hm : Nat} {E : Nat → En} {ln x i j : Nat} (hs : Srt hm E ln) (h : ah hm x (E i).1 = true) (hij : i ≤ j) (hj : j < ln) : ah hm x (E j).1 = true := by
  by_cases e : i = j
  · subst e; exact h
  · exact ah_tr h (hs i j (by omega) hj)
theorem ah_irr (hm x : Nat) : ah hm x x = false := by
  apply decide_eq_false
  intro h
  rcases h with h | h <;> omega
theorem ah_asym {hm x z : Nat} (h : ah hm x z = true) : ah hm z x = false := by
  have h := of_decide_eq_true h
  apply decide_eq_false
  intro q
  omega
theorem insE_lo {E : Nat → En} {p j : Nat} {x : En} (h : j < p) : insE E p x j = E j := by unfold insE; rw [if_pos h]
theorem insE_at {E : Nat → En} {p : Nat} {x : En} : insE E p x p = x := by unfold insE; rw [if_neg (by omega), if_pos rfl]
theorem insE_hi {E : Nat → En} {p j : Nat} {x : En} (h : p < j) : insE E p x j = E (j - 1) := by unfold insE; rw [if_neg (by omega), if_neg (by omega)]
theorem srt_ins {hm : Nat} {E : Nat → En} {ln p : Nat} {x : En} (hs : Srt hm E ln) (hp : isPos hm E ln x.1 p) : Srt hm (insE E p x) (ln + 1) := by
  intro i j hij hj
  rcases Nat.lt_trichotomy j p with h | h | h
  · rw [insE_lo h, insE_lo (by omega)]
    have := hp.1
    exact hs i j hij (by omega)
  · subst h
    rw [insE_at, insE_lo hij]
    exact hp.2.1 i hij
  · rw [insE_hi h]
    rcases Nat.lt_trichotomy i p with g | g | g
    · rw [insE_lo g]
      exact hs i (j - 1) (by omega) (by omega)
    · subst g
      rw [insE_at]
      exact ah_asym (hp.2.2 (j - 1) (by omega) (by omega))
    · rw [insE_hi g]
      exact hs (i - 1) (j - 1) (by omega) (by omega)
theorem and48 {x z : Nat} (h : x < 2 ^ 48) : x &&& z < 2 ^ 48 := Nat.lt_of_le_of_lt Nat.and_le_left h
