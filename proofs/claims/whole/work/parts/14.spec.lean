/-! ===== what each call must answer, in terms of the rows: n, their times, hits, sorts ===== -/
abbrev cl (x : Int32) : Nat := x.toNatClampNeg
abbrev inR (n : Nat) (x : Int32) : Prop := 0 ≤ x ∧ x ≤ nI n - 1
abbrev inC (x : Int32) : Prop := 0 ≤ x ∧ x ≤ 4
abbrev inS (x : Int32) : Prop := 0 ≤ x ∧ x ≤ 10
abbrev inP (x : Int32) : Prop := 0 ≤ x ∧ x ≤ 1
abbrev inW (f b t : Int32) : Prop := 0 ≤ f ∧ f ≤ b ∧ b ≤ t ∧ t ≤ 1000
abbrev St : Type := Nat × (Nat → Int32) × (Nat → Int32) × (Nat → Int32)
theorem cl_nI {k : Nat} (h : k < 2 ^ 31) : cl (nI k) = k := nI_clamp h
theorem le_nlt {x : Int32} (h : 0 ≤ x) : ¬ x < 0 := ile h
theorem inR_of {n : Nat} {x : Int32} (hn : n ≤ 700) (h : inR n x) : ∃ i, i < n ∧ x = nI i := by
  obtain ⟨j, hj, e⟩ := nI_of (ile h.1)
  subst e
  refine ⟨j, ?_, rfl⟩
  have h2 := h.2
  cases n with
  | zero =>
    rw [Int32.le_iff_toInt_le, nI_toInt hj] at h2
    have : (nI 0 - 1).toInt = -1 := by decide
    omega
  | succ n =>
    rw [nI_pred] at h2
    have := (nI_leI hj (by omega)).mp h2
    omega
theorem inR_nI {n i : Nat} (hn : n ≤ 700) (h : i < n) : inR n (nI i) := by
  refine ⟨nI_pos' (by omega), ?_⟩
  cases n with
  | zero => omega
  | succ n =>
    rw [nI_pred]
    exact nI_le (by omega) (by omega)
theorem inC_of {x : Int32} (h : inC x) : ∃ k, k < 5 ∧ x = nI k := by
  obtain ⟨j, hj, e⟩ := nI_of2 (M := 4) (n := 4) (by decide) (ile h.1) h.2
  exact ⟨j, by omega, e⟩
theorem inS_of {x : Int32} (h : inS x) : ∃ k, k < 11 ∧ x = nI k := by
  obtain ⟨j, hj, e⟩ := nI_of2 (M := 10) (n := 10) (by decide) (ile h.1) h.2
  exact ⟨j, by omega, e⟩
theorem inP_of {x : Int32} (h : inP x) : x = 0 ∨ x = 1 := by
  obtain ⟨j, hj, e⟩ := nI_of2 (M := 1) (n := 1) (by decide) (ile h.1) h.2
  subst e
  rcases (show j = 0 ∨ j = 1 by omega) with rfl | rfl
  · exact Or.inl rfl
  · exact Or.inr rfl
theorem val_of {x : Int32} (h : -1 ≤ x ∧ x ≤ 9) : x = -1 ∨ ∃ k, k < 10 ∧ x = nI k := by
  by_cases q : x < 0
  · left
    apply Int32.toInt_inj.mp
    have h1 := h.1
    rw [Int32.le_iff_toInt_le] at h1
    rw [Int32.lt_iff_toInt_lt] at q
    have e1 : (-1 : Int32).toInt = -1 := by decide
    have e0 : (0 : Int32).toInt = 0 := by decide
    omega
  · obtain ⟨j, hj, e⟩ := nI_of2 (M := 9) (n := 9) (by decide) q h.2
    exact Or.inr ⟨j, by omega, e⟩
def rowR (n : Nat) (t0 : Int32) : Int32 := if 0 ≤ t0 ∧ t0 ≤ 999 then (if n < 48 then nI n else -1000004) else -1000002
def rowS (n : Nat) (tI hI sI : Nat → Int32) (t0 z : Int32) : St := if 0 ≤ t0 ∧ t0 ≤ 999 then (if n < 48 then (n + 1, upd tI n t0, upd hI n z, nrow sI n) else (n, tI, hI, sI)) else (n, tI, hI, sI)
def putR (n : Nat) (sI : Nat → Int32) (x y v : Int32) : Int32 := if inR n x ∧ inC y then (if -1 ≤ v ∧ v ≤ 9 then sI (5 * cl x + cl y) else -1000002) else -1000001
def putS (n : Nat) (sI : Nat → Int32) (x y v : Int32) : Nat → Int32 := if inR n x ∧ inC y then (if -1 ≤ v ∧ v ≤ 9 then upd sI (5 * cl x + cl y) (if v = -1 then 10 else v) else sI) else sI
def ofR (n : Nat) (tI hI sI : Nat → Int32) (x w : Int32) : Int32 := if inR n x ∧ (0 ≤ w ∧ w ≤ 6) then (if w < 5 then sI (5 * cl x + cl w) else if w = 5 then tI (cl x) else if hI (cl x) = 0 then 0 else 1) else -1000001
def windowR (n : Nat) (tI : Nat → Int32) (f t : Int32) : Int32 := if 0 ≤ f ∧ f ≤ t ∧ t ≤ 1000 then nI (cnt (win tI f t) n) else -1000002
abbrev gapOk (y k o pt : Int32) : Prop := inS k ∧ inS o ∧ inP pt
def gapX (n : Nat) (sI : Nat → Int32) (y k o pt : Int32) : Prop := inC y ∧ gapOk y k o pt ∧ (mk (hav sI (cl y) (cl k)) n = 0 ∨ mk (hav sI (cl y) (cl o)) n = 0)
def ch (hI sI : Nat → Int32) (n y k : Nat) : Nat := cnt (fun i => hav sI y k i && hit hI i) n
def cr (sI : Nat → Int32) (n y k : Nat) : Nat := cnt (hav sI y k) n
def gapR (n : Nat) (hI sI : Nat → Int32) (y k o pt : Int32) : Int64 := if inC y then (if gapOk y k o pt then lI (fr (((ch hI sI n (cl y) (cl k) * cr sI n (cl y) (cl o) : Nat) : Int) - ((ch hI sI n (cl y) (cl o) * cr sI n (cl y) (cl k) : Nat) : Int)) ((cr sI n (cl y) (cl k) * cr sI n (cl y) (cl o) : Nat) : Int) pt) else -1000002) else -1000001
def drX (n : Nat) (tI : Nat → Int32) (f b t : Int32) : Prop := cnt (win tI f b) n = 0 ∨ cnt (win tI b t) n = 0
def driftX (n : Nat) (tI : Nat → Int32) (y f b t pt : Int32) : Prop := inC y ∧ (inW f b t ∧ inP pt) ∧ drX n tI f b t
def driftR (n : Nat) (tI sI : Nat → Int32) (y f b t pt : Int32) : Int64 := if inC y then (if inW f b t ∧ inP pt then lI (fr ((dsu (win tI f b) (win tI b t) sI (cl y) n 11 : Nat) : Int) ((2 * cnt (win tI f b) n * cnt (win tI b t) n : Nat) : Int) pt) else -1000002) else -1000001
def riseR (n : Nat) (tI sI : Nat → Int32) (y f b t : Int32) : Int32 := if inC y then (if inW f b t then nI (rsO (cs (win tI f b) sI (cl y) n) (cs (win tI b t) sI (cl y) n) 10) else -1000002) else -1000001
theorem z01 {z : Int32} (h : z = 0 ∨ z = 1) : vp_nar .boolean z = z := by
  rcases h with rfl | rfl <;> decide
theorem sw_out {x : Int32} {N : Nat} (hN : N < 100) (h : ∀ k, k ≤ N → ¬ x = nI k) : x.toInt < 0 ∨ (N : Int) < x.toInt := by
  by_cases q : x < 0
  · rw [Int32.lt_iff_toInt_lt] at q
    exact Or.inl (by simpa using q)
  · obtain ⟨j, hj, e⟩ := nI_of q
    subst e
    right
    rw [nI_toInt hj]
    by_cases hjn : j ≤ N
    · exact absurd rfl (h j hjn)
    · omega
/-- the search for the i-th that P takes -/
def frs (P : Nat → Bool) (i : Int32) : Nat → Nat → Nat → Int32
  | 0, _, c => if i = -1 then nI c else -1
  | k + 1, v, c => if P v = true then (if nI c = i then nI v else frs P i k (v + 1) (c + 1)) else frs P i k (v + 1) c
theorem frs_n {P : Nat → Bool} {i : Int32} {k v c : Nat} (h : P v = false) : frs P i (k + 1) v c = frs P i k (v + 1) c := by
  simp only [frs]
  rw [if_neg (by rw [h]; decide)]
theorem frs_e {P : Nat → Bool} {i : Int32} {k v c : Nat} (h : P v = true) (e : nI c = i) : frs P i (k + 1) v c = nI v := by
  simp only [frs]
  rw [if_pos h, if_pos e]
theorem frs_y {P : Nat → Bool} {i : Int32} {k v c : Nat} (h : P v = true) (e : ¬ nI c = i) : frs P i (k + 1) v c = frs P i k (v + 1) (c + 1) := by
  simp only [frs]
  rw [if_pos h, if_neg e]
def isFr (f g : Nat → Bool) (sI : Nat → Int32) (co n v : Nat) : Bool := decide (cs f sI co n v = 0) && decide (¬ cs g sI co n v = 0)
def freshR (n : Nat) (tI sI : Nat → Int32) (y f b t i : Int32) : Int32 := if inC y then (if inW f b t ∧ -1 ≤ i then frs (isFr (win tI f b) (win tI b t) sI (cl y) n) i 10 0 0 else -1000002) else -1000001
def stepR (st : Nat) (uI oI rI bI : Nat → Int32) (k w : Int32) : Int32 := if inR st k then (if w = nI 0 then (if uI (cl k) = 0 then 0 else 1) else if w = nI 1 then (if oI (cl k) = 0 then 0 else 1) else if w = nI 2 then rI (cl k) else if w = nI 3 then bI (cl k) else -1000001) else -1000001
def sliceR (ln : Nat) (fc fs sc ss mn hh : Nat → Int32) (i w : Int32) : Int32 := if inR ln i then (if w = nI 0 then fc (cl i) else if w = nI 1 then fs (cl i) else if w = nI 2 then sc (cl i) else if w = nI 3 then ss (cl i) else if w = nI 4 then mn (cl i) else if w = nI 5 then hh (cl i) else -1000001) else -1000001
/-- the k-th row of a set, from row r on, c passed -/
def mbs (t : Nat → Bool) (k : Int32) : Nat → Nat → Nat → Int32
  | 0, _, _ => -1
  | f + 1, r, c => if t r = true then (if nI c = k then nI r else mbs t k f (r + 1) (c + 1)) else mbs t k f (r + 1) c
theorem mbs_n {t : Nat → Bool} {k : Int32} {f r c : Nat} (h : t r = false) : mbs t k (f + 1) r c = mbs t k f (r + 1) c := by
  simp only [mbs]
  rw [if_neg (by rw [h]; decide)]
theorem mbs_e {t : Nat → Bool} {k : Int32} {f r c : Nat} (h : t r = true) (e : nI c = k) : mbs t k (f + 1) r c = nI r := by
  simp only [mbs]
  rw [if_pos h, if_pos e]
theorem mbs_y {t : Nat → Bool} {k : Int32} {f r c : Nat} (h : t r = true) (e : ¬ nI c = k) : mbs t k (f + 1) r c = mbs t k f (r + 1) (c + 1) := by
  simp only [mbs]
  rw [if_pos h, if_neg e]
def memberR (ln : Nat) (me : Nat → Nat) (i k : Int32) : Int32 := if inR ln i then (if k < 0 then -1000002 else mbs (me (cl i)).testBit k 48 0 0) else -1000001
def shareR (ln : Nat) (mn hh : Nat → Int32) (i sd pt : Int32) : Int64 := if inR ln i then (if inP sd ∧ inP pt then (if sd = 0 then lI (fr (hh (cl i)).toInt (mn (cl i)).toInt pt) else lI (fr ((hh (cl i)).toInt + 2) ((mn (cl i)).toInt + 4) pt)) else -1000002) else -1000001
def countR (n : Nat) (hI sI : Nat → Int32) (ln st : Nat) (al w : Int32) : Int32 := if w = nI 0 then nI n else if w = nI 1 then nI (cnt (hit hI) n) else if w = nI 2 then nI ln else if w = nI 3 then nI st else if w = nI 4 then al else if w = nI 5 then nI (cnt (lak sI 5) n) else -1000001
theorem cnt_mk48 (f : Nat → Bool) {n : Nat} (hn : n ≤ 48) : cnt (mk f n).testBit 48 = cnt f n := by
  rw [cnt_congr (g := fun i => decide (i < n) && f i) (fun i _ => mk_bit f n i), cnt_out hn]
theorem cnt_mkh (f h : Nat → Bool) (n : Nat) : cnt (fun i => (mk f n).testBit i && h i) n = cnt (fun i => f i && h i) n := cnt_congr (fun i hi => by rw [mk_bit]; simp [hi])
theorem mk0_cnt {f : Nat → Bool} {n : Nat} : mk f n = 0 ↔ cnt f n = 0 := mk_zero.trans cnt_zero.symm
theorem lN0 {x : Nat} (h : x < 2 ^ 62) : lg_cmp (lN x) 0 = 0 ↔ x = 0 := by
  rw [lg_cmp_eq]
  exact ⟨fun q => (pk_lEQ (b := 0) (by omega) (by decide)).mp q, fun q => by rw [q]; rfl⟩
theorem ch_le (hI sI : Nat → Int32) (n y k : Nat) : ch hI sI n y k ≤ n := cnt_le _ _
theorem cr_le (sI : Nat → Int32) (n y k : Nat) : cr sI n y k ≤ n := cnt_le _ _
