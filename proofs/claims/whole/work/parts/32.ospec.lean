/-! ===== ranks: sums, ways ===== -/
def ps (f : Nat → Nat) : Nat → Nat
  | 0 => 0
  | k + 1 => ps f k + f k
theorem ps_le {f : Nat → Nat} {M : Nat} : ∀ k, (∀ i, i < k → f i ≤ M) → ps f k ≤ k * M
  | 0, _ => Nat.zero_le _
  | k + 1, h => by
    have h1 := ps_le (f := f) (M := M) k (fun i hi => h i (by omega))
    have h2 := h k (by omega)
    have h3 : (k + 1) * M = k * M + M := Nat.succ_mul _ _
    simp only [ps]
    omega
theorem ps_mono {f : Nat → Nat} : ∀ {k m : Nat}, k ≤ m → ps f k ≤ ps f m
  | k, 0, h => by rw [Nat.le_zero.mp h]; exact Nat.le_refl _
  | k, m + 1, h => by
    by_cases e : k = m + 1
    · rw [e]; exact Nat.le_refl _
    · exact Nat.le_trans (ps_mono (show k ≤ m by omega)) (Nat.le_add_right _ _)
theorem ps_add (f g : Nat → Nat) : ∀ k, ps (fun i => f i + g i) k = ps f k + ps g k
  | 0 => rfl
  | k + 1 => by
    have := ps_add f g k
    simp only [ps]
    omega
theorem ps_ind (k0 : Nat) : ∀ k, ps (fun i => if i = k0 then 1 else 0) k = if k0 < k then 1 else 0
  | 0 => rfl
  | k + 1 => by
    have := ps_ind k0 k
    simp only [ps]
    rw [this]
    by_cases a : k0 < k
    · rw [if_pos a, if_neg (by omega), if_pos (by omega)]
    · by_cases b : k = k0
      · rw [if_neg a, if_pos b, if_pos (by omega)]
      · rw [if_neg a, if_neg b, if_neg (by omega)]
theorem ps_congr {f g : Nat → Nat} : ∀ k, (∀ i, i < k → f i = g i) → ps f k = ps g k
  | 0, _ => rfl
  | k + 1, h => by
    simp only [ps]
    rw [ps_congr k (fun i hi => h i (by omega)), h k (by omega)]
theorem ps_cs {f : Nat → Bool} {sI : Nat → Int32} {co : Nat} : ∀ n, (∀ i, i < n → ∃ k, k < 11 ∧ sI (5 * i + co) = nI k) → ps (cs f sI co n) 11 = cnt f n
  | 0, _ => by
    have h : ∀ k, ps (cs f sI co 0) k = 0 := by
      intro k
      induction k with
      | zero => rfl
      | succ k ih => simp only [ps]; rw [ih]; rfl
    exact h 11
  | n + 1, h => by
    have ih := ps_cs (f := f) (sI := sI) (co := co) n (fun i hi => h i (by omega))
    obtain ⟨k0, hk0, e⟩ := h n (by omega)
    by_cases hf : f n = true
    · rw [ps_congr (g := fun k => cs f sI co n k + (if k = k0 then 1 else 0)) 11 (fun k hk => cs_y hk hk0 e hf), ps_add, ps_ind, if_pos hk0, ih, cnt_y hf]
    · have hf : f n = false := (Bool.not_eq_true _).mp hf
      rw [ps_congr (g := cs f sI co n) 11 (fun k _ => cs_n hf), ih, cnt_n hf]
/-- the rise as the class sums it -/
def cR (pp qq : Nat → Nat) : Nat → Nat
  | 0 => 0
  | k + 1 => cR pp qq k + qq k * (2 * ps pp k + pp k)
def uO (pp qq : Nat → Nat) (z : Nat) : Nat → Nat
  | 0 => 0
  | x + 1 => uO pp qq z x + rsI pp qq x z
theorem rsO_uO (pp qq : Nat → Nat) : ∀ x, rsO pp qq x = uO pp qq 10 x
  | 0 => rfl
  | x + 1 => by rw [rsO, uO, rsO_uO pp qq x]
theorem uO_s (pp qq : Nat → Nat) (z : Nat) : ∀ x, uO pp qq (z + 1) x = uO pp qq z x + qq z * (if x ≤ z then 2 * ps pp x else 2 * ps pp z + pp z)
  | 0 => by simp [uO, ps]
  | x + 1 => by
    have ih := uO_s pp qq z x
    simp only [uO]
    rw [ih, rsI]
    unfold wgt
    rcases Nat.lt_trichotomy x z with h | h | h
    · rw [if_pos (show x ≤ z by omega), if_pos h, if_pos (show x + 1 ≤ z by omega)]
      simp only [ps]
      rw [Nat.mul_add 2, Nat.mul_add (qq z), show qq z * (2 * pp x) = pp x * qq z * 2 by rw [Nat.mul_comm (qq z), Nat.mul_assoc, Nat.mul_comm]]
      omega
    · subst h
      rw [if_pos (Nat.le_refl _), if_neg (Nat.lt_irrefl _), if_pos rfl, if_neg (by omega), Nat.mul_one, Nat.mul_add (qq x), Nat.mul_comm (qq x) (pp x)]
      omega
    · rw [if_neg (by omega), if_neg (by omega), if_neg (by omega), if_neg (by omega), Nat.mul_zero]
      omega
theorem uO_0 (pp qq : Nat → Nat) : ∀ x, uO pp qq 0 x = 0
  | 0 => rfl
  | x + 1 => by rw [uO, uO_0 pp qq x]; rfl
theorem uO_cR (pp qq : Nat → Nat) (x : Nat) : ∀ z, z ≤ x → uO pp qq z x = cR pp qq z
  | 0, _ => uO_0 pp qq x
  | z + 1, h => by
    rw [uO_s, uO_cR pp qq x z (by omega), cR, if_neg (by omega)]
theorem rsO_cR (pp qq : Nat → Nat) : rsO pp qq 10 = cR pp qq 10 := by rw [rsO_uO, uO_cR pp qq 10 10 (Nat.le_refl _)]
theorem cR_le {pp qq : Nat → Nat} (hp : ∀ k, k < 10 → pp k ≤ 48) (hq : ∀ k, k < 10 → qq k ≤ 48) : ∀ k, k ≤ 10 → cR pp qq k ≤ k * 48384
  | 0, _ => Nat.zero_le _
  | k + 1, h => by
    have h1 := cR_le hp hq k (by omega)
    have h2 := ps_le (f := pp) (M := 48) k (fun i hi => hp i (by omega))
    have h3 : qq k * (2 * ps pp k + pp k) ≤ 48 * (2 * (10 * 48) + 48) := Nat.mul_le_mul (hq k (by omega)) (by have := hp k (by omega); omega)
    simp only [cR]
    omega
def pz (l : List Nat) : List Nat := List.zipWith (· + ·) (l ++ [0]) (0 :: l)
def prow : Nat → List Nat
  | 0 => [1]
  | a + 1 => pz (prow a)
/-- in how many ways b of a are chosen -/
def chs (a b : Nat) : Nat := (prow a).getD b 0
theorem chs_0 : ∀ a, a < 21 → chs a 0 = 1 := by decide +kernel
theorem chs_z : ∀ b, b < 21 → 0 < b → chs 0 b = 0 := by decide +kernel
theorem chs_s : ∀ a, a < 20 → ∀ b, b < 20 → chs (a + 1) (b + 1) = chs a (b + 1) + chs a b := by decide +kernel
theorem chs_p : ∀ a, a < 21 → ∀ b, b < a + 1 → 0 < chs a b ∧ chs a b < 2 ^ 20 := by decide +kernel
theorem chs_w : ∀ d, d < 21 → ∀ i, i < 20 - d → chs (d + i) i * (d + i + 1) / (i + 1) = chs (d + i + 1) (i + 1) ∧ chs (d + i) i * (d + i + 1) < 2 ^ 30 := by decide +kernel
def chb (l : List Nat) (c h : Nat) : Nat := smF (fun had => if had ≤ h ∧ h - had ≤ c then l.getD (h - had) 0 else 0) 21 0
theorem chs_b : ∀ c, c < 21 → ∀ h, h < 21 → chb (prow c) c h ≤ 2 ^ c := by decide +kernel
def gw (c had h : Nat) : Nat := (c - (h - had)) * (2 * had + (h - had))
def tt (Z : Nat → Nat → Nat) (c had h r : Nat) : Nat := if had ≤ h ∧ h - had ≤ c ∧ gw c had h ≤ r then Z had (r - gw c had h) * chs c (h - had) else 0
theorem tt_y {Z : Nat → Nat → Nat} {c had h r : Nat} (q : had ≤ h ∧ h - had ≤ c ∧ gw c had h ≤ r) : tt Z c had h r = Z had (r - gw c had h) * chs c (h - had) := if_pos q
theorem tt_n {Z : Nat → Nat → Nat} {c had h r : Nat} (q : ¬ (had ≤ h ∧ h - had ≤ c ∧ gw c had h ≤ r)) : tt Z c had h r = 0 := if_neg q
def stW (Z : Nat → Nat → Nat) (c : Nat) : Nat → Nat → Nat := fun h r => smF (fun had => tt Z c had h r) 21 0
def W0 : Nat → Nat → Nat := fun h r => if h = 0 ∧ r = 0 then 1 else 0
def Wv (q : Nat → Nat) : Nat → Nat → Nat → Nat
  | 0 => W0
  | v + 1 => stW (Wv q v) (q v)
def Sup (Z : Nat → Nat → Nat) (s0 : Nat) : Prop := ∀ h r, ¬ Z h r = 0 → h ≤ s0 ∧ r ≤ 2 * h * (s0 - h)
theorem smF_ne {f : Nat → Nat} : ∀ k g, ¬ smF f k g = 0 → ∃ i, g ≤ i ∧ i < g + k ∧ ¬ f i = 0
  | 0, _, h => absurd rfl h
  | k + 1, g, h => by
    by_cases q : f g = 0
    · simp only [smF] at h
      rw [q, Nat.zero_add] at h
      obtain ⟨i, a, b, c⟩ := smF_ne k (g + 1) h
      exact ⟨i, by omega, by omega, c⟩
    · exact ⟨g, Nat.le_refl _, by omega, q⟩
theorem grow {a b x y : Nat} : 2 * a * b + y * (2 * a + x) ≤ 2 * (a + x) * (b + y) := by
  have e1 : 2 * (a + x) * (b + y) = 2 * a * b + 2 * x * b + (2 * a * y + 2 * x * y) := by rw [Nat.mul_add 2, Nat.mul_add, Nat.add_mul, Nat.add_mul]
  have e2 : y * (2 * a + x) = 2 * a * y + x * y := by rw [Nat.mul_add, Nat.mul_comm y, Nat.mul_comm y]
  have e3 : 2 * x * y = x * y + x * y := by rw [Nat.mul_assoc]; omega
  omega
theorem Sup_0 : Sup W0 0 := by
  intro h r q
  unfold W0 at q
  by_cases e : h = 0 ∧ r = 0
  · exact ⟨by omega, by omega⟩
  · rw [if_neg e] at q
    exact absurd rfl q
theorem Sup_s {Z : Nat → Nat → Nat} {s0 c : Nat} (hZ : Sup Z s0) : Sup (stW Z c) (s0 + c) := by
  intro h r q
  obtain ⟨had, _, _, e⟩ := smF_ne _ _ q
  by_cases g : had ≤ h ∧ h - had ≤ c ∧ gw c had h ≤ r
  · rw [tt_y g] at e
    have e2 : ¬ Z had (r - gw c had h) = 0 := fun k => e (by rw [k, Nat.zero_mul])
    obtain ⟨k1, k2⟩ := hZ _ _ e2
    obtain ⟨g1, g2, g3⟩ := g
    refine ⟨by omega, ?_⟩
    have k3 := @grow had (s0 - had) (h - had) (c - (h - had))
    rw [show had + (h - had) = h by omega, show s0 - had + (c - (h - had)) = s0 + c - h by omega] at k3
    unfold gw at *
    omega
  · exact absurd (tt_n g) e
theorem smF_mulc (M : Nat) (f : Nat → Nat) : ∀ k g, smF (fun i => M * f i) k g = M * smF f k g
  | 0, _ => rfl
  | k + 1, g => by
    simp only [smF]
    rw [smF_mulc M f k (g + 1), Nat.mul_add]
theorem bd_s {Z : Nat → Nat → Nat} {M c : Nat} (hc : c < 21) (hZ : ∀ h, h < 21 → ∀ r, Z h r ≤ M) : ∀ h, h < 21 → ∀ r, stW Z c h r ≤ M * 2 ^ c := by
  intro h hh r
  have h1 : stW Z c h r ≤ smF (fun had => M * (if had ≤ h ∧ h - had ≤ c then (prow c).getD (h - had) 0 else 0)) 21 0 := smF_le 21 0 (fun i _ hi => by
    by_cases g : i ≤ h ∧ h - i ≤ c ∧ gw c i h ≤ r
    · rw [tt_y g, if_pos ⟨g.1, g.2.1⟩]
      exact Nat.mul_le_mul_right _ (hZ i (by omega) _)
    · rw [tt_n g]
      exact Nat.zero_le _)
  rw [smF_mulc] at h1
  exact Nat.le_trans h1 (Nat.mul_le_mul_left M (chs_b c hc h hh))
theorem Wv_b {q : Nat → Nat} : ∀ v, ps q v ≤ 20 → ∀ h, h < 21 → ∀ r, Wv q v h r ≤ 2 ^ ps q v
  | 0, _, h, _, r => by
    show W0 h r ≤ 1
    unfold W0
    split <;> omega
  | v + 1, hq, h, hh, r => by
    simp only [ps] at hq
    have := bd_s (Z := Wv q v) (c := q v) (by omega) (Wv_b v (by omega)) h hh r
    simp only [ps]
    rw [Nat.pow_add]
    exact this
theorem Wv_s {q : Nat → Nat} : ∀ v, Sup (Wv q v) (ps q v)
  | 0 => Sup_0
  | v + 1 => Sup_s (Wv_s v)
theorem r200 : ∀ s0, s0 < 21 → ∀ h, h < s0 + 1 → 2 * h * (s0 - h) ≤ 200 := by decide +kernel
theorem sup200 {Z : Nat → Nat → Nat} {s0 h r : Nat} (hZ : Sup Z s0) (hs : s0 < 21) (hr : 200 < r) : Z h r = 0 := by
  by_cases q : Z h r = 0
  · exact q
  · have h1 := hZ h r q
    have h2 := r200 s0 hs h (by omega)
    omega
/-- in how many ways the rise is no less -/
def ris (Z : Nat → Nat → Nat) (h x : Nat) : Nat := smF (Z h) (201 - x) x
theorem ris_401 {Z : Nat → Nat → Nat} {s0 h : Nat} (hZ : Sup Z s0) (hs : s0 < 21) (x : Nat) : smF (Z h) (401 - x) x = ris Z h x := by
  unfold ris
  by_cases q : x ≤ 200
  · rw [show 401 - x = (201 - x) + 200 by omega, smF_app, smF_0 200 (x + (201 - x)) (fun i a b => sup200 hZ hs (by omega))]
    rfl
  · rw [smF_0 (401 - x) x (fun i a b => sup200 hZ hs (by omega)), show 201 - x = 0 by omega]
    rfl
theorem smF_leM {f : Nat → Nat} {M : Nat} : ∀ k g, (∀ i, f i ≤ M) → smF f k g ≤ k * M
  | 0, _, _ => Nat.zero_le _
  | k + 1, g, h => by
    have h1 := smF_leM k (g + 1) h
    have h2 := h g
    have h3 : (k + 1) * M = k * M + M := Nat.succ_mul _ _
    simp only [smF]
    omega
theorem ris_b {q : Nat → Nat} {v h x : Nat} (hq : ps q v ≤ 20) (hh : h < 21) : ris (Wv q v) h x < 2 ^ 30 := by
  have h1 : ∀ r, Wv q v h r ≤ 2 ^ 20 := fun r => Nat.le_trans (Wv_b v hq h hh r) (Nat.pow_le_pow_right (by decide) hq)
  have h2 := smF_leM (f := Wv q v h) (201 - x) x h1
  have h3 : (201 - x) * 2 ^ 20 ≤ 201 * 2 ^ 20 := Nat.mul_le_mul_right _ (by omega)
  unfold ris
  omega
/-! ===== the class's turn of a group, in place ===== -/
def Aq (Z : Nat → Nat → Nat) (c k h r : Nat) : Nat := (if h < k then Z h r else 0) + smF (fun h0 => tt Z c h0 h r) (21 - k) k
def Bq (Z : Nat → Nat → Nat) (c k R h r : Nat) : Nat := (if h < k ∨ (h = k ∧ r < R) then Z h r else 0) + smF (fun h0 => tt Z c h0 h r) (20 - k) (k + 1) + (if k ≤ h ∧ R + gw c k h ≤ r then tt Z c k h r else 0)
def mv (V : Nat → Nat → Nat) (h0 r0 c F x h r : Nat) : Nat := (if h = h0 ∧ r = r0 then 0 else V h r) + (if h0 ≤ h ∧ h - h0 < x ∧ h - h0 ≤ c ∧ h ≤ F ∧ r = r0 + gw c h0 h then V h0 r0 * chs c (h - h0) else 0)
theorem Bq_0 (Z : Nat → Nat → Nat) (c : Nat) {k : Nat} (hk : k ≤ 20) (h r : Nat) : Bq Z c k 0 h r = Aq Z c k h r := by
  unfold Bq Aq
  have e1 : (if h < k ∨ (h = k ∧ r < 0) then Z h r else 0) = (if h < k then Z h r else 0) := by
    by_cases q : h < k
    · rw [if_pos (Or.inl q), if_pos q]
    · rw [if_neg (by omega), if_neg q]
  have e2 : (if k ≤ h ∧ 0 + gw c k h ≤ r then tt Z c k h r else 0) = tt Z c k h r := by
    by_cases q : k ≤ h ∧ 0 + gw c k h ≤ r
    · rw [if_pos q]
    · rw [if_neg q, tt_n (fun g => q ⟨g.1, by omega⟩)]
  rw [e1, e2, show 21 - k = (20 - k) + 1 by omega]
  simp only [smF]
  omega
theorem Bq_R {Z : Nat → Nat → Nat} {s0 : Nat} (hZ : Sup Z s0) (c : Nat) {k : Nat} (hk : k ≤ 20) (h r : Nat) : Bq Z c k (2 * k * (s0 - k) + 1) h r = Aq Z c (k + 1) h r := by
  unfold Bq Aq
  have e1 : (if h < k ∨ (h = k ∧ r < 2 * k * (s0 - k) + 1) then Z h r else 0) = (if h < k + 1 then Z h r else 0) := by
    by_cases q : h < k + 1
    · rw [if_pos q]
      by_cases q2 : h < k ∨ (h = k ∧ r < 2 * k * (s0 - k) + 1)
      · rw [if_pos q2]
      · rw [if_neg q2]
        have q3 : h = k := by omega
        subst q3
        by_cases z : Z h r = 0
        · exact z.symm
        · have := (hZ h r z).2
          omega
    · rw [if_neg q, if_neg (by omega)]
  have e2 : (if k ≤ h ∧ 2 * k * (s0 - k) + 1 + gw c k h ≤ r then tt Z c k h r else 0) = 0 := by
    by_cases q : k ≤ h ∧ 2 * k * (s0 - k) + 1 + gw c k h ≤ r
    · rw [if_pos q]
      by_cases g : k ≤ h ∧ h - k ≤ c ∧ gw c k h ≤ r
      · rw [tt_y g]
        by_cases z : Z k (r - gw c k h) = 0
        · rw [z, Nat.zero_mul]
        · have := (hZ _ _ z).2
          omega
      · exact tt_n g
    · rw [if_neg q]
  rw [e1, e2, show 21 - (k + 1) = 20 - k by omega]
  rfl
theorem Bq_at (Z : Nat → Nat → Nat) (c k R : Nat) : Bq Z c k (R + 1) k R = Z k R := by
  unfold Bq
  rw [if_pos (Or.inr ⟨rfl, by omega⟩), smF_0 _ _ (fun i a _ => tt_n (fun g => by omega)), if_neg (by omega)]
  omega
theorem Bq_mv (Z : Nat → Nat → Nat) {c k R F x h r : Nat} (hh : h ≤ F) (hx : ∀ d, d ≤ c → k + d ≤ F → d < x) : mv (Bq Z c k (R + 1)) k R c F x h r = Bq Z c k R h r := by
  unfold mv
  rw [Bq_at]
  by_cases a : h = k ∧ r = R
  · obtain ⟨a1, a2⟩ := a
    subst a1
    subst a2
    rw [if_pos ⟨rfl, rfl⟩]
    unfold Bq
    rw [if_neg (show ¬ (h < h ∨ (h = h ∧ r < r)) by omega), smF_0 _ _ (fun i a _ => tt_n (fun g => by omega))]
    have hx0 := hx 0 (Nat.zero_le _) hh
    by_cases g : r = r + gw c h h
    · rw [if_pos ⟨Nat.le_refl _, by omega, by omega, hh, g⟩, if_pos ⟨Nat.le_refl _, by omega⟩, tt_y ⟨Nat.le_refl _, by omega, by omega⟩, show r - gw c h h = r by omega]
    · rw [if_neg (fun q => g q.2.2.2.2), if_neg (by omega)]
  · rw [if_neg a]
    unfold Bq
    have e1 : (if h < k ∨ (h = k ∧ r < R + 1) then Z h r else 0) = (if h < k ∨ (h = k ∧ r < R) then Z h r else 0) := by
      by_cases q : h < k ∨ (h = k ∧ r < R)
      · rw [if_pos q, if_pos (by omega)]
      · rw [if_neg q, if_neg (by omega)]
    rw [e1]
    generalize (if h < k ∨ (h = k ∧ r < R) then Z h r else 0) = X1
    by_cases b : k ≤ h ∧ r = R + gw c k h
    · rw [if_neg (show ¬ (k ≤ h ∧ R + 1 + gw c k h ≤ r) by omega), if_pos (show k ≤ h ∧ R + gw c k h ≤ r by omega)]
      by_cases d : h - k ≤ c
      · rw [if_pos ⟨b.1, hx _ d (by omega), d, hh, b.2⟩, tt_y ⟨b.1, d, by omega⟩, show r - gw c k h = R by omega]
        omega
      · rw [if_neg (fun q => d q.2.2.1), tt_n (fun q => d q.2.1)]
    · rw [if_neg (show ¬ (k ≤ h ∧ h - k < x ∧ h - k ≤ c ∧ h ≤ F ∧ r = R + gw c k h) from fun q => b ⟨q.1, q.2.2.2.2⟩), Nat.add_zero]
      by_cases d : k ≤ h ∧ R + gw c k h ≤ r
      · rw [if_pos d, if_pos (show k ≤ h ∧ R + 1 + gw c k h ≤ r by omega)]
      · rw [if_neg d, if_neg (by omega)]
theorem Aq_t {Z : Nat → Nat → Nat} {s0 : Nat} (hZ : Sup Z s0) (c : Nat) {F h : Nat} (hh : h ≤ F) (r : Nat) : Aq Z c (min s0 F + 1) h r = Z h r := by
  unfold Aq
  rw [smF_0 _ _ (fun i a _ => ?_)]
  · by_cases q : h < min s0 F + 1
    · rw [if_pos q]
      rfl
    · rw [if_neg q]
      by_cases z : Z h r = 0
      · rw [z]
      · have := (hZ _ _ z).1
        omega
  · by_cases g : i ≤ h ∧ h - i ≤ c ∧ gw c i h ≤ r
    · rw [tt_y g]
      by_cases z : Z i (r - gw c i h) = 0
      · rw [z, Nat.zero_mul]
      · have := (hZ _ _ z).1
        omega
    · exact tt_n g
theorem Aq_0 (Z : Nat → Nat → Nat) (c h r : Nat) : Aq Z c 0 h r = stW Z c h r := by
  unfold Aq
  rw [if_neg (Nat.not_lt_zero h), Nat.zero_add]
  rfl
/-- what the class's array tells -/
def VOk (V : Nat → Nat → Nat) (F : Nat) (wA : Nat → Int32) : Prop := ∀ h, h ≤ F → ∀ r, r ≤ 200 → wA (h * 201 + r) = nI (V h r)
def oN (f : Nat → Bool) (sI : Nat → Int32) (co n : Nat) : Nat := ps (cs f sI co n) 10
def oC (f g : Nat → Bool) (sI : Nat → Int32) (co n k : Nat) : Nat := cs f sI co n k + cs g sI co n k
def oA (f g : Nat → Bool) (sI : Nat → Int32) (co n : Nat) : Nat := ris (Wv (oC f g sI co n) 10) (oN f sI co n) (rsO (cs f sI co n) (cs g sI co n) 10)
def oddsV (f g : Nat → Bool) (sI : Nat → Int32) (co n : Nat) (pt : Int32) : Int64 := if 20 < oN f sI co n + oN g sI co n then -1000003 else lI (fr ((oA f g sI co n : Nat) : Int) ((chs (oN f sI co n + oN g sI co n) (oN f sI co n) : Nat) : Int) pt)
def oddsR (n : Nat) (tI sI : Nat → Int32) (y f b t pt : Int32) : Int64 := if inC y then (if inW f b t ∧ inP pt then oddsV (win tI f b) (win tI b t) sI (cl y) n pt else -1000002) else -1000001
theorem oC_ps (f g : Nat → Bool) (sI : Nat → Int32) (co n : Nat) (k : Nat) : ps (oC f g sI co n) k = ps (cs f sI co n) k + ps (cs g sI co n) k := ps_add _ _ k
