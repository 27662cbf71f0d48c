/-! ===== what each call must answer, in terms of the rows: n, their times, hits, sorts ===== -/
abbrev cl (x : Int32) : Nat := x.toNatClampNeg
abbrev inR (n : Nat) (x : Int32) : Prop := 0 ≤ x ∧ x ≤ nI n - 1
abbrev inC (x : Int32) : Prop := 0 ≤ x ∧ x ≤ 4
abbrev inS (x : Int32) : Prop := 0 ≤ x ∧ x ≤ 10
abbrev inP (x : Int32) : Prop := 0 ≤ x ∧ x ≤ 1
abbrev inW (f b t : Int32) : Prop := 0 ≤ f ∧ f ≤ b ∧ b ≤ t ∧ t ≤ 1000
abbrev St : Type := Nat × (Nat → Int32) × (Nat → Int32) × (Nat → Int32)
theorem cl_nI {k : Nat} (h : k < 2 ^ 31) : cl (nI k) = k := nI_clamp h
theorem le_nlt {x : Int32} (h : 0 ≤ x) : ¬ x < 0 := ile h
theorem inR_of {n : Nat} {x : Int32} (hn : n ≤ 700) (h : inR n x) : ∃ i, i < n ∧ x = nI i := by
  obtain ⟨j, hj, e⟩ := nI_of (ile h.1)
  subst e
  refine ⟨j, ?_, rfl⟩
  have h2 := h.2
  cases n with
  | zero =>
    rw [Int32.le_iff_toInt_le, nI_toInt hj] at h2
    have : (nI 0 - 1).toInt = -1 := by decide
    omega
  | succ n =>
    rw [nI_pred] at h2
    have := (nI_leI hj (by omega)).mp h2
    omega
theorem inR_nI {n i : Nat} (hn : n ≤ 700) (h : i < n) : inR n (nI i) := by
  refine ⟨nI_pos' (by omega), ?_⟩
  cases n with
  | zero => omega
  | succ n =>
    rw [nI_pred]
    exact nI_le (by omega) (by omega)
theorem inC_of {x : Int32} (h : inC x) : ∃ k, k < 5 ∧ x = nI k := by
  obtain ⟨j, hj, e⟩ := nI_of2 (M := 4) (n := 4) (by decide) (ile h.1) h.2
  exact ⟨j, by omega, e⟩
theorem inS_of {x : Int32} (h : inS x) : ∃ k, k < 11 ∧ x = nI k := by
  obtain ⟨j, hj, e⟩ := nI_of2 (M := 10) (n := 10) (by decide) (ile h.1) h.2
  exact ⟨j, by omega, e⟩
theorem inP_of {x : Int32} (h : inP x) : x = 0 ∨ x = 1 := by
  obtain ⟨j, hj, e⟩ := nI_of2 (M := 1) (n := 1) (by decide) (ile h.1) h.2
  subst e
  rcases (show j = 0 ∨ j = 1 by omega) with rfl | rfl
  · exact Or.inl rfl
  · exact Or.inr rfl
theorem val_of {x : Int32} (h : -1 ≤ x ∧ x ≤ 9) : x = -1 ∨ ∃ k, k < 10 ∧ x = nI k := by
  by_cases q : x < 0
  · left
    apply Int32.toInt_inj.mp
    have h1 := h.1
    rw [Int32.le_iff_toInt_le] at h1
    rw [Int32.lt_iff_toInt_lt] at q
    have e1 : (-1 : Int32).toInt = -1 := by decide
    have e0 : (0 : Int32).toInt = 0 := by decide
    omega
  · obtain ⟨j, hj, e⟩ := nI_of2 (M := 9) (n := 9) (by decide) q h.2
    exact Or.inr ⟨j, by omega, e⟩
def rowR (n : Nat) (t0 : Int32) : Int32 := if 0 ≤ t0 ∧ t0 ≤ 999 then (if n < 48 then nI n else -1000004) else -1000002
def rowS (n : Nat) (tI hI sI : Nat → Int32) (t0 z : Int32) : St := if 0 ≤ t0 ∧ t0 ≤ 999 then (if n < 48 then (n + 1, upd tI n t0, upd hI n z, nrow sI n) else (n, tI, hI, sI)) else (n, tI, hI, sI)
def putR (n : Nat) (sI : Nat → Int32) (x y v : Int32) : Int32 := if inR n x ∧ inC y then (if -1 ≤ v ∧ v ≤ 9 then sI (5 * cl x + cl y) else -1000002) else -1000001
def putS (n : Nat) (sI : Nat → Int32) (x y v : Int32) : Nat → Int32 := if inR n x ∧ inC y then (if -1 ≤ v ∧ v ≤ 9 then upd sI (5 * cl x + cl y) (if v = -1 then 10 else v) else sI) else sI
def ofR (n : Nat) (tI hI sI : Nat → Int32) (x w : Int32) : Int32 := if inR n x ∧ (0 ≤ w ∧ w ≤ 6) then (if w < 5 then sI (5 * cl x + cl w) else if w = 5 then tI (cl x) else if hI (cl x) = 0 then 0 else 1) else -1000001
def windowR (n : Nat) (tI : Nat → Int32) (f t : Int32) : Int32 := if 0 ≤ f ∧ f ≤ t ∧ t ≤ 1000 then nI (cnt (win tI f t) n) else -1000002
abbrev gapOk (y k o pt : Int32) : Prop := inS k ∧ inS o ∧ inP pt
def gapX (n : Nat) (sI : Nat → Int32) (y k o pt : Int32) : Prop := inC y ∧ gapOk y k o pt ∧ (mk (hav sI (cl y) (cl k)) n = 0 ∨ mk (hav sI (cl y) (cl o)) n = 0)
def ch (hI sI : Nat → Int32) (n y k : Nat) : Nat := cnt (fun i => hav sI y k i && hit hI i) n
def cr (sI : Nat → Int32) (n y k : Nat) : Nat := cnt (hav sI y k) n
def gapR (n : Nat) (hI sI : Nat → Int32) (y k o pt : Int32) : Int64 := if inC y then (if gapOk y k o pt then lI (fr (((ch hI sI n (cl y) (cl k) * cr sI n (cl y) (cl o) : Nat) : Int) - ((ch hI sI n (cl y) (cl o) * cr sI n (cl y) (cl k) : Nat) : Int)) ((cr sI n (cl y) (cl k) * cr sI n (cl y) (cl o) : Nat) : Int) pt) else -1000002) else -1000001
def drX (n : Nat) (tI : Nat → Int32) (f b t : Int32) : Prop := cnt (win tI f b) n = 0 ∨ cnt (win tI b t) n = 0
def driftX (n : Nat) (tI : Nat → Int32) (y f b t pt : Int32) : Prop := inC y ∧ (inW f b t ∧ inP pt) ∧ drX n tI f b t
def driftR (n : Nat) (tI sI : Nat → Int32) (y f b t pt : Int32) : Int64 := if inC y then (if inW f b t ∧ inP pt then lI (fr ((dsu (win tI f b) (win tI b t) sI (cl y) n 11 : Nat) : Int) ((2 * cnt (win tI f b) n * cnt (win tI b t) n : Nat) : Int) pt) else -1000002) else -1000001
def riseR (n : Nat) (tI sI : Nat → Int32) (y f b t : Int32) : Int32 := if inC y then (if inW f b t then nI (rsO (cs (win tI f b) sI (cl y) n) (cs (win tI b t) sI (cl y) n) 10) else -1000002) else -1000001
theorem z01 {z : Int32} (h : z = 0 ∨ z = 1) : vp_nar .boolean z = z := by
  rcases h with rfl | rfl <;> decide
theorem cnt_mk48 (f : Nat → Bool) {n : Nat} (hn : n ≤ 48) : cnt (mk f n).testBit 48 = cnt f n := by
  rw [cnt_congr (g := fun i => decide (i < n) && f i) (fun i _ => mk_bit f n i), cnt_out hn]
theorem cnt_mkh (f h : Nat → Bool) (n : Nat) : cnt (fun i => (mk f n).testBit i && h i) n = cnt (fun i => f i && h i) n := cnt_congr (fun i hi => by rw [mk_bit]; simp [hi])
theorem mk0_cnt {f : Nat → Bool} {n : Nat} : mk f n = 0 ↔ cnt f n = 0 := mk_zero.trans cnt_zero.symm
theorem lN0 {x : Nat} (h : x < 2 ^ 62) : lg_cmp (lN x) 0 = 0 ↔ x = 0 := by
  rw [lg_cmp_eq]
  exact ⟨fun q => (pk_lEQ (b := 0) (by omega) (by decide)).mp q, fun q => by rw [q]; rfl⟩
theorem ch_le (hI sI : Nat → Int32) (n y k : Nat) : ch hI sI n y k ≤ n := cnt_le _ _
theorem cr_le (sI : Nat → Int32) (n y k : Nat) : cr sI n y k ≤ n := cnt_le _ _
