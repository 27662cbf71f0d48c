/-! ===== the list as it is made ===== -/
abbrev Ls : Type := Nat × (Nat → En)
def hvM (sI : Nat → Int32) (n f : Nat) : Nat := mk (hav sI (f / 11) (f % 11)) n
def ins1 (hm : Nat) (L : Ls) (x : En) : Ls := (L.1 + 1, insE L.2 (posn hm L.2 L.1 x.1) x)
abbrev isPr (w : Nat → Nat) (ls f g : Nat) : Prop := ls ≤ pop (w f &&& w g) ∧ ¬ (w f &&& w g) = w f ∧ ¬ (w f &&& w g) = w g
def prs (hm ls : Nat) (w : Nat → Nat) (f : Nat) : Nat → Nat → Ls → Ls
  | 0, _, L => L
  | k + 1, g, L => prs hm ls w f k (g + 1) (if isPr w ls f g then ins1 hm L (w f &&& w g, f, g + 1) else L)
theorem prs_y {hm ls : Nat} {w : Nat → Nat} {f k g : Nat} {L : Ls} (h : isPr w ls f g) : prs hm ls w f (k + 1) g L = prs hm ls w f k (g + 1) (ins1 hm L (w f &&& w g, f, g + 1)) := by
  rw [prs, if_pos h]
theorem prs_n {hm ls : Nat} {w : Nat → Nat} {f k g : Nat} {L : Ls} (h : ¬ isPr w ls f g) : prs hm ls w f (k + 1) g L = prs hm ls w f k (g + 1) L := by
  rw [prs, if_neg h]
abbrev nx (f : Nat) : Nat := (f / 11 + 1) * 11
def one1 (hm ls : Nat) (w : Nat → Nat) (two : Bool) (f : Nat) (L : Ls) : Ls := if ls ≤ pop (w f) then (if two = true then prs hm ls w f (55 - nx f) (nx f) (ins1 hm L (w f, f, 0)) else ins1 hm L (w f, f, 0)) else L
def mks (hm ls : Nat) (w : Nat → Nat) (two : Bool) : Nat → Nat → Ls → Ls
  | 0, _, L => L
  | k + 1, f, L => mks hm ls w two k (f + 1) (one1 hm ls w two f L)
def L0 : Ls := (0, fun _ => (0, 0, 0))
theorem prs_ge (hm ls : Nat) (w : Nat → Nat) (f : Nat) : ∀ k g (L : Ls), L.1 ≤ (prs hm ls w f k g L).1
  | 0, _, _ => Nat.le_refl _
  | k + 1, g, L => by
    by_cases h : isPr w ls f g
    · rw [prs_y h]
      exact Nat.le_trans (Nat.le_succ _) (prs_ge hm ls w f k (g + 1) (ins1 hm L (w f &&& w g, f, g + 1)))
    · rw [prs_n h]
      exact prs_ge hm ls w f k (g + 1) L
theorem one1_ge (hm ls : Nat) (w : Nat → Nat) (two : Bool) (f : Nat) (L : Ls) : L.1 ≤ (one1 hm ls w two f L).1 := by
  unfold one1
  by_cases h : ls ≤ pop (w f)
  · rw [if_pos h]
    by_cases h2 : two = true
    · rw [if_pos h2]
      exact Nat.le_trans (Nat.le_succ _) (prs_ge hm ls w f _ _ (ins1 hm L (w f, f, 0)))
    · rw [if_neg h2]
      exact Nat.le_succ _
  · rw [if_neg h]
    exact Nat.le_refl _
theorem mks_ge (hm ls : Nat) (w : Nat → Nat) (two : Bool) : ∀ k f (L : Ls), L.1 ≤ (mks hm ls w two k f L).1
  | 0, _, _ => Nat.le_refl _
  | k + 1, f, L => by
    rw [mks]
    exact Nat.le_trans (one1_ge hm ls w two f L) (mks_ge hm ls w two k (f + 1) _)
theorem prs_id {hm ls : Nat} {w : Nat → Nat} {f : Nat} (h : ∀ g, ¬ isPr w ls f g) : ∀ k g (L : Ls), prs hm ls w f k g L = L
  | 0, _, _ => rfl
  | k + 1, g, L => by rw [prs_n (h g)]; exact prs_id h k (g + 1) L
theorem pop_and (x z : Nat) : pop (x &&& z) ≤ pop x := cnt_mono (fun i h => by rw [Nat.testBit_and] at h; exact (Bool.and_eq_true _ _ ▸ h).1) 64
/-- sums -/
def smF (h : Nat → Nat) : Nat → Nat → Nat
  | 0, _ => 0
  | k + 1, g => h g + smF h k (g + 1)
theorem smF_le {h h2 : Nat → Nat} : ∀ k g, (∀ i, g ≤ i → i < g + k → h i ≤ h2 i) → smF h k g ≤ smF h2 k g
  | 0, _, _ => Nat.le_refl _
  | k + 1, g, q => by
    have a := q g (Nat.le_refl _) (by omega)
    have b := smF_le (h := h) (h2 := h2) k (g + 1) (fun i h1 h3 => q i (by omega) (by omega))
    simp only [smF]
    omega
theorem smF_add (h h2 : Nat → Nat) : ∀ k g, smF (fun i => h i + h2 i) k g = smF h k g + smF h2 k g
  | 0, _ => rfl
  | k + 1, g => by
    have := smF_add h h2 k (g + 1)
    simp only [smF]
    omega
theorem smF_mul (c : Nat) (h : Nat → Nat) : ∀ k g, smF (fun i => 1 + c * h i) k g = k + c * smF h k g
  | 0, _ => by simp [smF]
  | k + 1, g => by
    have := smF_mul c h k (g + 1)
    simp only [smF]
    rw [this, Nat.mul_add]
    omega
theorem smF_app (h : Nat → Nat) (b : Nat) : ∀ a g, smF h (a + b) g = smF h a g + smF h b (g + a)
  | 0, g => by simp [smF]
  | a + 1, g => by
    have := smF_app h b a (g + 1)
    rw [show a + 1 + b = (a + b) + 1 by omega]
    simp only [smF]
    rw [this, show g + 1 + a = g + (a + 1) by omega]
    omega
theorem smF_0 {h : Nat → Nat} : ∀ k g, (∀ i, g ≤ i → i < g + k → h i = 0) → smF h k g = 0
  | 0, _, _ => rfl
  | k + 1, g, q => by
    simp only [smF]
    rw [q g (Nat.le_refl _) (by omega), smF_0 k (g + 1) (fun i a b => q i (by omega) (by omega))]
theorem smF_one {p : Nat → Bool} : ∀ k g, (∀ i j, g ≤ i → i < g + k → g ≤ j → j < g + k → p i = true → p j = true → i = j) → smF (fun i => if p i = true then 1 else 0) k g ≤ 1
  | 0, _, _ => Nat.zero_le _
  | k + 1, g, q => by
    simp only [smF]
    by_cases h : p g = true
    · rw [if_pos h, smF_0 k (g + 1) (fun i a b => if_neg (fun hi => by have := q g i (Nat.le_refl _) (by omega) (by omega) (by omega) h hi; omega))]
      exact Nat.le_refl _
    · rw [if_neg h, Nat.zero_add]
      exact smF_one k (g + 1) (fun i j a b c d => q i j (by omega) (by omega) (by omega) (by omega))
theorem smF_dsj {X : Nat → Bool} {Y : Nat → Nat → Bool} {k g : Nat} (hd : ∀ r i j, g ≤ i → i < g + k → g ≤ j → j < g + k → Y i r = true → Y j r = true → i = j) : ∀ N, smF (fun t => cnt (fun r => X r && Y t r) N) k g ≤ cnt X N
  | 0 => Nat.le_of_eq (smF_0 k g (fun _ _ _ => rfl))
  | N + 1 => by
    have h0 := smF_dsj (X := X) hd N
    have h1 := smF_add (fun t => cnt (fun r => X r && Y t r) N) (fun t => if (X N && Y t N) = true then 1 else 0) k g
    show smF (fun t => cnt (fun r => X r && Y t r) N + (if (X N && Y t N) = true then 1 else 0)) k g ≤ cnt X N + (if X N = true then 1 else 0)
    rw [h1]
    apply Nat.add_le_add h0
    by_cases hx : X N = true
    · rw [if_pos hx]
      exact smF_one (p := fun t => X N && Y t N) k g (fun i j a b c d e e2 => hd N i j a b c d (by simp [hx] at e; exact e) (by simp [hx] at e2; exact e2))
    · rw [if_neg hx]
      exact Nat.le_of_eq (smF_0 k g (fun i _ _ => if_neg (by simp [hx])))
def inM (sI : Nat → Int32) (n t r : Nat) : Bool := decide (r < n) && hav sI (t / 11) (t % 11) r
theorem inM_dsj (sI : Nat → Int32) (n a : Nat) : ∀ r i j, a * 11 ≤ i → i < a * 11 + 11 → a * 11 ≤ j → j < a * 11 + 11 → inM sI n i r = true → inM sI n j r = true → i = j := by
  intro r i j h1 h2 h3 h4 h5 h6
  unfold inM hav at h5 h6
  rw [Bool.and_eq_true] at h5 h6
  have e5 := of_decide_eq_true h5.2
  have e6 := of_decide_eq_true h6.2
  rw [show i / 11 = a by omega] at e5
  rw [show j / 11 = a by omega, e5] at e6
  have := (nI_eq (by omega) (by omega)).mp e6
  omega
theorem hvM_bit (sI : Nat → Int32) (n t r : Nat) : (hvM sI n t).testBit r = inM sI n t r := mk_bit _ n r
theorem blk_and (sI : Nat → Int32) (n a x : Nat) : smF (fun g => pop (x &&& hvM sI n g)) 11 (a * 11) ≤ pop x := by
  have h := smF_dsj (X := x.testBit) (inM_dsj sI n a) 64
  have e : (fun t => cnt (fun r => x.testBit r && inM sI n t r) 64) = (fun g => pop (x &&& hvM sI n g)) := by
    funext t
    exact cnt_congr (fun r _ => by rw [Nat.testBit_and, hvM_bit])
  rw [e] at h
  exact h
theorem hvM_48 (sI : Nat → Int32) {n : Nat} (hn : n ≤ 48) (f : Nat) : hvM sI n f < 2 ^ 48 := Nat.lt_of_lt_of_le (mk_lt _ n) (Nat.pow_le_pow_right (by decide) hn)
theorem blk_one (sI : Nat → Int32) {n : Nat} (hn : n ≤ 48) (a : Nat) : smF (fun g => pop (hvM sI n g)) 11 (a * 11) ≤ 48 := by
  have h := smF_dsj (X := fun _ => true) (inM_dsj sI n a) 48
  have e : (fun t => cnt (fun r => true && inM sI n t r) 48) = (fun g => pop (hvM sI n g)) := by
    funext t
    rw [← pop48 (hvM_48 sI hn t)]
    exact cnt_congr (fun r _ => by rw [hvM_bit, Bool.true_and])
  rw [e] at h
  exact Nat.le_trans h (cnt_le _ _)
theorem blks (sI : Nat → Int32) (n x : Nat) : ∀ m b, smF (fun g => pop (x &&& hvM sI n g)) (m * 11) (b * 11) ≤ m * pop x
  | 0, b => by simp [smF]
  | m + 1, b => by
    have h1 := blk_and sI n b x
    have h2 := blks sI n x m (b + 1)
    have h3 := smF_app (fun g => pop (x &&& hvM sI n g)) (m * 11) 11 (b * 11)
    rw [show b * 11 + 11 = (b + 1) * 11 by omega] at h3
    have h4 : (m + 1) * pop x = m * pop x + pop x := Nat.succ_mul _ _
    rw [show (m + 1) * 11 = 11 + m * 11 by omega, h3, h4]
    omega
theorem prs_le (hm : Nat) {ls : Nat} (hls : 1 ≤ ls) (w : Nat → Nat) (f : Nat) : ∀ k g (L : Ls), (prs hm ls w f k g L).1 ≤ L.1 + smF (fun g => pop (w f &&& w g)) k g
  | 0, _, _ => Nat.le_refl _
  | k + 1, g, L => by
    simp only [smF]
    by_cases h : isPr w ls f g
    · have h1 := prs_le hm hls w f k (g + 1) (ins1 hm L (w f &&& w g, f, g + 1))
      have h2 := h.1
      rw [prs_y h]
      have h3 : (ins1 hm L (w f &&& w g, f, g + 1)).1 = L.1 + 1 := rfl
      omega
    · have h1 := prs_le hm hls w f k (g + 1) L
      rw [prs_n h]
      omega
theorem one1_le (hm : Nat) {ls : Nat} (hls : 1 ≤ ls) (sI : Nat → Int32) (n : Nat) (two : Bool) {f : Nat} (hf : f < 55) (L : Ls) : (one1 hm ls (hvM sI n) two f L).1 ≤ L.1 + (1 + (4 - f / 11) * pop (hvM sI n f)) := by
  unfold one1
  by_cases h : ls ≤ pop (hvM sI n f)
  · rw [if_pos h]
    by_cases h2 : two = true
    · rw [if_pos h2]
      have h1 := prs_le hm hls (hvM sI n) f (55 - nx f) (nx f) (ins1 hm L (hvM sI n f, f, 0))
      have h3 := blks sI n (hvM sI n f) (4 - f / 11) (f / 11 + 1)
      have h4 : (ins1 hm L (hvM sI n f, f, 0)).1 = L.1 + 1 := rfl
      rw [show (4 - f / 11) * 11 = 55 - nx f by unfold nx; omega] at h3
      have h5 : smF (fun g => pop (hvM sI n f &&& hvM sI n g)) (55 - nx f) (nx f) ≤ (4 - f / 11) * pop (hvM sI n f) := h3
      omega
    · rw [if_neg h2]
      show L.1 + 1 ≤ _
      omega
  · rw [if_neg h]
    omega
theorem mks_le (hm : Nat) {ls : Nat} (hls : 1 ≤ ls) (sI : Nat → Int32) (n : Nat) (two : Bool) : ∀ k f (L : Ls), f + k ≤ 55 → (mks hm ls (hvM sI n) two k f L).1 ≤ L.1 + smF (fun f => 1 + (4 - f / 11) * pop (hvM sI n f)) k f
  | 0, _, _, _ => Nat.le_refl _
  | k + 1, f, L, hk => by
    have h1 := one1_le hm hls sI n two (show f < 55 by omega) L
    have h2 := mks_le hm hls sI n two k (f + 1) (one1 hm ls (hvM sI n) two f L) (by omega)
    rw [mks]
    simp only [smF]
    omega
theorem blk_w (sI : Nat → Int32) {n : Nat} (hn : n ≤ 48) (a : Nat) : smF (fun f => 1 + (4 - f / 11) * pop (hvM sI n f)) 11 (a * 11) ≤ 11 + (4 - a) * 48 := by
  have h1 : smF (fun f => 1 + (4 - f / 11) * pop (hvM sI n f)) 11 (a * 11) ≤ smF (fun f => 1 + (4 - a) * pop (hvM sI n f)) 11 (a * 11) := smF_le 11 (a * 11) (fun i p q => by rw [show i / 11 = a by omega]; exact Nat.le_refl _)
  have h2 := smF_mul (4 - a) (fun f => pop (hvM sI n f)) 11 (a * 11)
  have h3 := Nat.mul_le_mul_left (4 - a) (blk_one sI hn a)
  omega
theorem mks_535 (hm : Nat) {ls : Nat} (hls : 1 ≤ ls) (sI : Nat → Int32) {n : Nat} (hn : n ≤ 48) (two : Bool) : (mks hm ls (hvM sI n) two 55 0 L0).1 ≤ 535 := by
  have h := mks_le hm hls sI n two 55 0 L0 (by decide)
  have e0 := blk_w sI hn 0
  have e1 := blk_w sI hn 1
  have e2 := blk_w sI hn 2
  have e3 := blk_w sI hn 3
  have e4 := blk_w sI hn 4
  have s1 := smF_app (fun f => 1 + (4 - f / 11) * pop (hvM sI n f)) 44 11 0
  have s2 := smF_app (fun f => 1 + (4 - f / 11) * pop (hvM sI n f)) 33 11 11
  have s3 := smF_app (fun f => 1 + (4 - f / 11) * pop (hvM sI n f)) 22 11 22
  have s4 := smF_app (fun f => 1 + (4 - f / 11) * pop (hvM sI n f)) 11 11 33
  have z : L0.1 = 0 := rfl
  simp only [Nat.reduceAdd, Nat.reduceMul, Nat.reduceSub] at *
  omega
/-- a property of all entries -/
def PAll (Q : En → Prop) (L : Ls) : Prop := ∀ j, j < L.1 → Q (L.2 j)
theorem posn_le (hm : Nat) (E : Nat → En) (ln x : Nat) : posn hm E ln x ≤ ln := cnt_le _ _
theorem ins1_all {Q : En → Prop} {hm : Nat} {L : Ls} {x : En} (h : PAll Q L) (hx : Q x) : PAll Q (ins1 hm L x) := by
  intro j hj
  have hp := posn_le hm L.2 L.1 x.1
  have hj : j < L.1 + 1 := hj
  show Q (insE L.2 (posn hm L.2 L.1 x.1) x j)
  rcases Nat.lt_trichotomy j (posn hm L.2 L.1 x.1) with q | q | q
  · rw [insE_lo q]; exact h j (by omega)
  · rw [← q, insE_at]; exact hx
  · rw [insE_hi q]; exact h (j - 1) (by omega)
theorem prs_all {Q : En → Prop} {hm ls : Nat} {w : Nat → Nat} {f : Nat} : ∀ k g (L : Ls), PAll Q L → (∀ i, g ≤ i → i < g + k → isPr w ls f i → Q (w f &&& w i, f, i + 1)) → PAll Q (prs hm ls w f k g L)
  | 0, _, _, h, _ => h
  | k + 1, g, L, h, q => by
    by_cases hp : isPr w ls f g
    · rw [prs_y hp]
      exact prs_all k (g + 1) _ (ins1_all h (q g (Nat.le_refl _) (by omega) hp)) (fun i a b => q i (by omega) (by omega))
    · rw [prs_n hp]
      exact prs_all k (g + 1) L h (fun i a b => q i (by omega) (by omega))
theorem one1_all {Q : En → Prop} {hm ls : Nat} {w : Nat → Nat} {two : Bool} {f : Nat} {L : Ls} (hf : f < 55) (h : PAll Q L) (h1 : ls ≤ pop (w f) → Q (w f, f, 0)) (h2 : ∀ g, g < 55 → isPr w ls f g → Q (w f &&& w g, f, g + 1)) : PAll Q (one1 hm ls w two f L) := by
  unfold one1
  by_cases q : ls ≤ pop (w f)
  · rw [if_pos q]
    by_cases t : two = true
    · rw [if_pos t]
      exact prs_all _ _ _ (ins1_all h (h1 q)) (fun i a b => h2 i (by unfold nx at *; omega))
    · rw [if_neg t]
      exact ins1_all h (h1 q)
  · rw [if_neg q]
    exact h
theorem mks_all {Q : En → Prop} {hm ls : Nat} {w : Nat → Nat} {two : Bool} : ∀ k f (L : Ls), f + k ≤ 55 → PAll Q L → (∀ i, i < 55 → ls ≤ pop (w i) → Q (w i, i, 0)) → (∀ i g, i < 55 → g < 55 → isPr w ls i g → Q (w i &&& w g, i, g + 1)) → PAll Q (mks hm ls w two k f L)
  | 0, _, _, _, h, _, _ => h
  | k + 1, f, L, hk, h, q1, q2 => by
    rw [mks]
    exact mks_all k (f + 1) _ (by omega) (one1_all (by omega) h (q1 f (by omega)) (fun g => q2 f g (by omega))) q1 q2
def LEn (x : En) : Prop := x.1 < 2 ^ 48 ∧ 0 < pop x.1 ∧ x.2.1 < 55 ∧ x.2.2 ≤ 55
theorem mks_LEn (hm : Nat) {ls : Nat} (hls : 1 ≤ ls) (sI : Nat → Int32) {n : Nat} (hn : n ≤ 48) (two : Bool) : PAll LEn (mks hm ls (hvM sI n) two 55 0 L0) :=
  mks_all 55 0 L0 (by decide) (fun j h => absurd h (Nat.not_lt_zero j)) (fun i h1 h2 => ⟨hvM_48 sI hn i, Nat.lt_of_lt_of_le hls h2, h1, Nat.zero_le _⟩) (fun i g h1 h2 h3 => ⟨and48 (hvM_48 sI hn i), Nat.lt_of_lt_of_le hls h3.1, h1, h2⟩)
theorem pos_ex {hm : Nat} {E : Nat → En} {x : Nat} : ∀ {ln : Nat}, Srt hm E ln → ∃ p, isPos hm E ln x p
  | 0, _ => ⟨0, Nat.le_refl _, fun j h => absurd h (Nat.not_lt_zero j), fun j _ h => absurd h (Nat.not_lt_zero j)⟩
  | ln + 1, hs => by
    obtain ⟨p, h1, h2, h3⟩ := pos_ex (hm := hm) (E := E) (x := x) (ln := ln) (fun i j a b => hs i j a (by omega))
    cases e : ah hm x (E ln).1 with
    | false =>
      refine ⟨ln + 1, Nat.le_refl _, fun j hj => ?_, fun j a b => by omega⟩
      cases e2 : ah hm x (E j).1 with
      | false => rfl
      | true => rw [ah_mono hs e2 (show j ≤ ln by omega) (by omega)] at e; exact absurd e (by decide)
    | true =>
      refine ⟨p, by omega, h2, fun j a b => ?_⟩
      by_cases q : j = ln
      · subst q; exact e
      · exact h3 j a (by omega)
theorem pos_is {hm : Nat} {E : Nat → En} {x ln : Nat} (hs : Srt hm E ln) : isPos hm E ln x (posn hm E ln x) := by
  obtain ⟨p, hp⟩ := pos_ex (x := x) hs
  rw [posn_of hp]
  exact hp
theorem srt1 {hm : Nat} {L : Ls} {x : En} (hs : Srt hm L.2 L.1) : Srt hm (ins1 hm L x).2 (ins1 hm L x).1 := srt_ins hs (pos_is hs)
theorem prs_srt {hm ls : Nat} {w : Nat → Nat} {f : Nat} : ∀ k g (L : Ls), Srt hm L.2 L.1 → Srt hm (prs hm ls w f k g L).2 (prs hm ls w f k g L).1
  | 0, _, _, h => h
  | k + 1, g, L, h => by
    by_cases hp : isPr w ls f g
    · rw [prs_y hp]
      exact prs_srt k (g + 1) _ (srt1 h)
    · rw [prs_n hp]
      exact prs_srt k (g + 1) L h
