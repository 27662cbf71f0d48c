/-! ===== the order of columns ===== -/
abbrev ahd (D : Nat → Nat) (c o : Nat) : Prop := D c < D o ∨ (D o = D c ∧ o < c)
def pl (D : Nat → Nat) (c k : Nat) : Nat := cnt (fun o => decide (ahd D c o)) k
theorem plc_pl (f g : Nat → Bool) (sI : Nat → Int32) (n co : Nat) : ∀ k, plc f g sI n co k = pl (fun c => dsu f g sI c n 11) co k
  | 0 => rfl
  | k + 1 => by
    have ih := plc_pl f g sI n co k
    unfold pl at *
    simp only [plc, cnt]
    rw [ih]
    simp
theorem cnt_lt {f g : Nat → Bool} {c : Nat} : ∀ {k : Nat}, (∀ o, f o = true → g o = true) → f c = false → g c = true → c < k → cnt f k < cnt g k
  | 0, _, _, _, h => absurd h (Nat.not_lt_zero c)
  | k + 1, h, hf, hg, hc => by
    by_cases e : c = k
    · subst e
      rw [cnt_n hf, cnt_y hg]
      exact Nat.lt_succ_of_le (cnt_mono h c)
    · have := cnt_lt (k := k) h hf hg (by omega)
      simp only [cnt]
      by_cases q : f k = true
      · rw [if_pos q, if_pos (h k q)]
        omega
      · rw [if_neg q]
        omega
theorem pl_ah {D : Nat → Nat} {c o k : Nat} (ho : o < k) (h : ahd D c o) : pl D o k < pl D c k := cnt_lt (c := o) (fun x q => decide_eq_true (by have := of_decide_eq_true q; unfold ahd at *; omega)) (decide_eq_false (by unfold ahd; omega)) (decide_eq_true h) ho
theorem pl_inj {D : Nat → Nat} {c o k : Nat} (hc : c < k) (ho : o < k) (h : pl D c k = pl D o k) : c = o := by
  by_cases a : ahd D c o
  · have := pl_ah ho a
    omega
  · by_cases b : ahd D o c
    · have := pl_ah hc b
      omega
    · unfold ahd at *
      omega
theorem pl_lo {D : Nat → Nat} {c k : Nat} (hc : c < k) (h : D k ≤ D c) : pl D c k < pl D k k := pl_ah hc (by unfold ahd; omega)
theorem pl_hi {D : Nat → Nat} {c k : Nat} (h : D c < D k) : pl D k k ≤ pl D c k := by
  have : ∀ m, m ≤ k → pl D k m ≤ pl D c m := by
    intro m hm
    exact cnt_mono (fun x q => decide_eq_true (by have := of_decide_eq_true q; unfold ahd at *; omega)) m
  exact this k (Nat.le_refl _)
theorem pl_s {D : Nat → Nat} {c k : Nat} (hc : c < k) : pl D c (k + 1) = pl D c k + (if D c < D k then 1 else 0) := by
  unfold pl
  simp only [cnt]
  congr 1
  by_cases q : D c < D k
  · rw [if_pos (decide_eq_true (show ahd D c k from Or.inl q)), if_pos q]
  · rw [if_neg (by rw [decide_eq_false (show ¬ ahd D c k by unfold ahd; omega)]; decide), if_neg q]
theorem pl_kk (D : Nat → Nat) (k : Nat) : pl D k (k + 1) = pl D k k := by
  unfold pl
  exact cnt_n (decide_eq_false (by unfold ahd; omega))
theorem pl_le (D : Nat → Nat) (c k : Nat) : pl D c k ≤ k := cnt_le _ _
/-- what the array of the order holds behind k columns -/
def OOk (D : Nat → Nat) (k : Nat) (oA : Nat → Int32) : Prop := ∀ p, p < k → ∃ c, c < k ∧ pl D c k = p ∧ oA p = nI c
theorem ook_ins {D : Nat → Nat} {k : Nat} {oA oB : Nat → Int32} (h : OOk D k oA) (h1 : ∀ p, p < pl D k k → oB p = oA p) (h2 : oB (pl D k k) = nI k) (h3 : ∀ p, pl D k k < p → p ≤ k → oB p = oA (p - 1)) : OOk D (k + 1) oB := by
  intro p hp
  have hk := pl_le D k k
  rcases Nat.lt_trichotomy p (pl D k k) with q | q | q
  · obtain ⟨c, hc, e, eo⟩ := h p (by omega)
    refine ⟨c, by omega, ?_, by rw [h1 p q, eo]⟩
    rw [pl_s hc, if_neg (fun g => by have := pl_hi g; omega), e]
    rfl
  · exact ⟨k, by omega, by rw [pl_kk, q], by rw [q, h2]⟩
  · obtain ⟨c, hc, e, eo⟩ := h (p - 1) (by omega)
    refine ⟨c, by omega, ?_, by rw [h3 p q (by omega), eo]⟩
    rw [pl_s hc, if_pos (Nat.lt_of_not_le (fun g => by have := pl_lo hc g; omega)), e]
    omega
/-- the column that stands at place i -/
def fnd (D : Nat → Nat) (i : Nat) : Nat → Nat → Int32
  | 0, _ => -1
  | k + 1, c => if pl D c 5 = i then nI c else fnd D i k (c + 1)
theorem fnd_of {D : Nat → Nat} {c : Nat} (hc : c < 5) : ∀ k x, x + k = 5 → x ≤ c → fnd D (pl D c 5) k x = nI c
  | 0, x, h, g => by omega
  | k + 1, x, h, g => by
    simp only [fnd]
    by_cases q : pl D x 5 = pl D c 5
    · rw [if_pos q, pl_inj (by omega) hc q]
    · rw [if_neg q]
      exact fnd_of hc k (x + 1) (by omega) (by
        by_cases e : x = c
        · rw [e] at q; exact absurd rfl q
        · omega)
def dsC (n : Nat) (tI sI : Nat → Int32) (f b t : Int32) (c : Nat) : Nat := dsu (win tI f b) (win tI b t) sI c n 11
def orderX (n : Nat) (tI : Nat → Int32) (f b t i : Int32) : Prop := inC i ∧ inW f b t ∧ drX n tI f b t
def orderR (n : Nat) (tI sI : Nat → Int32) (f b t i : Int32) : Int32 := if inC i then (if inW f b t then fnd (dsC n tI sI f b t) (cl i) 5 0 else -1000002) else -1000001
theorem lcl {x z : Nat} (hx : x < 2 ^ 62) (hz : z < 2 ^ 62) : lg_cmp (lN x) (lN z) < 0 ↔ x < z := by
  have k : 0 ≤ lg_cmp (lN x) (lN z) ↔ z ≤ x := by
    rw [lg_cmp_ge]
    exact pk_lLE (by omega) (by omega)
  constructor
  · intro h
    exact Nat.lt_of_not_le (fun q => ilt h (k.mpr q))
  · intro h
    exact inle (fun q => absurd (k.mp q) (by omega))

set_option maxHeartbeats 4000000 in
set_option maxRecDepth 100000 in
theorem r_order (l : Launch) (dd : va_G) (cyI cyJ cyZ : ClassId) (qm : Nat) (a : Nat → Nat) (th li fm sm : Int32) (ab be : Int64) (st al : Int32) (n : Nat) (hn : n ≤ 48) (tI sI fA gA : Nat → Int32) (bA : Nat → Int64) (oA : Nat → Int32) (hSo : ∀ i, i < n → ∀ co, co < 5 → ∃ k, k < 11 ∧ sI (5 * i + co) = nI k) (f b t i : Int32) (sz : Nat) : Met l yX5_order wsX5_order ({ frames := 2, cells := 0, slots := 0, locals := 80 } : Room) (va_Pc [.ref qm, .int f, .int b, .int t, .int i] (Wr dd [(cyI, .int), (cyJ, .long), (cyZ, .boolean)] [(qm, .inr (5, mo a th (nI n) li fm sm ab be st al)), (a 2, .inl (cyI, 48, .inl tI)), (a 4, .inl (cyI, 240, .inl sI)), (a 13, .inl (cyI, 11, .inl fA)), (a 14, .inl (cyI, 11, .inl gA)), (a 22, .inl (cyJ, 5, .inr (.inl bA))), (a 23, .inl (cyI, 5, .inl oA))] sz)) (va_Qi (S := Int32 × Int32 × Int32 × Int64 × Int64 × (Nat → Int32) × (Nat → Int32) × (Nat → Int64) × (Nat → Int32)) (fun (r : Int32) (u : Int32 × Int32 × Int32 × Int64 × Int64 × (Nat → Int32) × (Nat → Int32) × (Nat → Int64) × (Nat → Int32)) => (orderX n tI f b t i → u.1 = 1) ∧ (¬ orderX n tI f b t i → u.1 = 0 ∧ r = orderR n tI sI f b t i)) (WQ dd [(qm, .inr (5, mo a th (nI n) li fm sm ab be st al)), (a 2, .inl (cyI, 48, .inl tI)), (a 4, .inl (cyI, 240, .inl sI)), (a 13, .inl (cyI, 11, .inl fA)), (a 14, .inl (cyI, 11, .inl gA)), (a 22, .inl (cyJ, 5, .inr (.inl bA))), (a 23, .inl (cyI, 5, .inl oA))] sz (fun u => [(qm, .inr (5, mo a u.1 (nI n) li u.2.1 u.2.2.1 u.2.2.2.1 u.2.2.2.2.1 st al)), (a 2, .inl (cyI, 48, .inl tI)), (a 4, .inl (cyI, 240, .inl sI)), (a 13, .inl (cyI, 11, .inl u.2.2.2.2.2.1)), (a 14, .inl (cyI, 11, .inl u.2.2.2.2.2.2.1)), (a 22, .inl (cyJ, 5, .inr (.inl u.2.2.2.2.2.2.2.1))), (a 23, .inl (cyI, 5, .inl u.2.2.2.2.2.2.2.2))])) (va_A [(qm, .inr (5, mo a th (nI n) li fm sm ab be st al)), (a 2, .inl (cyI, 48, .inl tI)), (a 4, .inl (cyI, 240, .inl sI)), (a 13, .inl (cyI, 11, .inl fA)), (a 14, .inl (cyI, 11, .inl gA)), (a 22, .inl (cyJ, 5, .inr (.inl bA))), (a 23, .inl (cyI, 5, .inl oA))] sz)) 0 0 (va_A [(qm, .inr (5, mo a th (nI n) li fm sm ab be st al)), (a 2, .inl (cyI, 48, .inl tI)), (a 4, .inl (cyI, 240, .inl sI)), (a 13, .inl (cyI, 11, .inl fA)), (a 14, .inl (cyI, 11, .inl gA)), (a 22, .inl (cyJ, 5, .inr (.inl bA))), (a 23, .inl (cyI, 5, .inl oA))] sz) := by
  refine mkW (Qc := fun A => (va_Qi (S := Int32 × Int32 × Int32 × Int64 × Int64 × (Nat → Int32) × (Nat → Int32) × (Nat → Int64) × (Nat → Int32)) (fun (r : Int32) (u : Int32 × Int32 × Int32 × Int64 × Int64 × (Nat → Int32) × (Nat → Int32) × (Nat → Int64) × (Nat → Int32)) => (orderX n tI f b t i → u.1 = 1) ∧ (¬ orderX n tI f b t i → u.1 = 0 ∧ r = orderR n tI sI f b t i)) (WQ dd [(qm, .inr (5, mo a th (nI n) li fm sm ab be st al)), (a 2, .inl (cyI, 48, .inl tI)), (a 4, .inl (cyI, 240, .inl sI)), (a 13, .inl (cyI, 11, .inl fA)), (a 14, .inl (cyI, 11, .inl gA)), (a 22, .inl (cyJ, 5, .inr (.inl bA))), (a 23, .inl (cyI, 5, .inl oA))] sz (fun u => [(qm, .inr (5, mo a u.1 (nI n) li u.2.1 u.2.2.1 u.2.2.2.1 u.2.2.2.2.1 st al)), (a 2, .inl (cyI, 48, .inl tI)), (a 4, .inl (cyI, 240, .inl sI)), (a 13, .inl (cyI, 11, .inl u.2.2.2.2.2.1)), (a 14, .inl (cyI, 11, .inl u.2.2.2.2.2.2.1)), (a 22, .inl (cyJ, 5, .inr (.inl u.2.2.2.2.2.2.2.1))), (a 23, .inl (cyI, 5, .inl u.2.2.2.2.2.2.2.2))])) A)) (cc := cX5_order) (maxL := 7) (by decide) rfl (Nat.le_of_ble_eq_true rfl) (lv0 := [(0, .ref qm), (1, .int f), (2, .int b), (3, .int t), (4, .int i)]) rfl ?_
  intro p e s m below meth c ls H A hx hb hr hml hown hlocks hts hmn hN hP hK hD hS hA hAe hl
  have hown : s.vm.findClass RX5 = some m.cls := hown
  have hiX5 : ∀ w ∈ wsX50, w ∈ wsX5_order := by decide +kernel
  refine lv_aload_n hx hb dX5_order_0 rfl (lv_at hl 0 rfl) ?_
  refine lv_iconst (v := 0) hx hb dX5_order_1 (by decide) ?_
  refine va_put (D := dd) (ci := 5) (v := .int 0) (ty := .int) (C := RX5) (T := TX5) (N := 30) hx hb hts hiX5 tyX5 tyX5_ok nmX5 hown hK hP hD hS 0 rfl rfl 0 (by decide) (hts (.fieldLink RX5 75 "SliceDriftModel" "thrown" "I") (by decide +kernel)) (fun _ h9 => h9) rfl (by decide +kernel) rfl rfl (Nat.le_of_ble_eq_true rfl) dX5_order_2 (fun H locs hP hD hS => ?_)
  have hP : va_P dd vwCl [(qm, .inr (5, mo a 0 (nI n) li fm sm ab be st al)), (a 2, .inl (cyI, 48, .inl tI)), (a 4, .inl (cyI, 240, .inl sI)), (a 13, .inl (cyI, 11, .inl fA)), (a 14, .inl (cyI, 11, .inl gA)), (a 22, .inl (cyJ, 5, .inr (.inl bA))), (a 23, .inl (cyI, 5, .inl oA))] H := hP
  have hD : va_D A [(qm, .inr (5, mo a 0 (nI n) li fm sm ab be st al)), (a 2, .inl (cyI, 48, .inl tI)), (a 4, .inl (cyI, 240, .inl sI)), (a 13, .inl (cyI, 11, .inl fA)), (a 14, .inl (cyI, 11, .inl gA)), (a 22, .inl (cyJ, 5, .inr (.inl bA))), (a 23, .inl (cyI, 5, .inl oA))] := hD
  refine lv_iload hx hb dX5_order_5 (lv_at hl 4 rfl) ?_
  refine lv_iconst (v := 0) hx hb dX5_order_7 (by decide) ?_
  refine lv_iconst (v := 4) hx hb dX5_order_8 (by decide) ?_
  refine clSi (As := [.int i, .int 0, .int 4]) (rest := []) ⟨hx, hb, hml, hown, hts⟩ (r_in l dd cyI cyJ cyZ i 0 4) gX5_order_X5_in (n := 3) rfl ⟨rfl, rfl⟩ (by decide +kernel) ⟨Nat.le_of_ble_eq_true rfl, Nat.le_of_ble_eq_true rfl⟩ hN hK (hP.sub [] rfl) rfl hl.1 rfl (Nat.le_of_ble_eq_true rfl) dX5_order_9 ⟨Nat.le_of_ble_eq_true rfl, Nat.le_of_ble_eq_true rfl⟩ (fun ck1 hck1 => ?_)
  refine lv_if_ne (tgt := 18) hx hb dX5_order_12 (by decide) (fun qck1 => ?_) (fun qck1 => ?_)
  · have hck1 : inC i := hck1.elim (fun h => h.2) (fun h => absurd h.1 qck1)
    refine lv_iload_n hx hb dX5_order_18 rfl (lv_at hl 1 rfl) ?_
    refine lv_iload_n hx hb dX5_order_19 rfl (lv_at hl 2 rfl) ?_
    refine lv_iload_n hx hb dX5_order_20 rfl (lv_at hl 3 rfl) ?_
    refine clSi (As := [.int f, .int b, .int t]) (rest := []) ⟨hx, hb, hml, hown, hts⟩ (r_areWindows l dd cyI cyJ cyZ f b t) gX5_order_X5_areWindows (n := 3) rfl ⟨rfl, rfl⟩ (by decide +kernel) ⟨Nat.le_of_ble_eq_true rfl, Nat.le_of_ble_eq_true rfl⟩ hN hK (hP.sub [] rfl) rfl hl.1 rfl (Nat.le_of_ble_eq_true rfl) dX5_order_21 ⟨Nat.le_of_ble_eq_true rfl, Nat.le_of_ble_eq_true rfl⟩ (fun ck2 hck2 => ?_)
    refine lv_if_ne (tgt := 30) hx hb dX5_order_24 (by decide) (fun qck2 => ?_) (fun qck2 => ?_)
    · have hck2 : inW f b t := hck2.elim (fun h => h.2) (fun h => absurd h.1 qck2)
      obtain ⟨ii, hii, ei⟩ := inC_of hck1
      subst ei
      have ec : cl (nI ii) = ii := cl_nI (by omega)
      obtain ⟨D, eD⟩ : ∃ D, D = dsC n tI sI f b t := ⟨_, rfl⟩
      refine lv_iconst (v := 0) hx hb dX5_order_30 (by decide) ?_
      refine lv_istore (lv' := [(5, .int 0), (0, .ref qm), (1, .int f), (2, .int b), (3, .int t), (4, .int (nI ii))]) hx hb dX5_order_31 hl (by decide) rfl (fun ls hl => ?_)
      have lF := Nat.le_trans (cnt_le (win tI f b) n) hn
      have lG := Nat.le_trans (cnt_le (win tI b t) n) hn
      have loop : ∀ (k : Nat) (c9 : Nat) (fm1 sm1 : Int32) (ab1 be1 : Int64) (fB gB : Nat → Int32) (bB : Nat → Int64) (oB : Nat → Int32) (H : Heap) (locs : List Loc), c9 + k = 5 → (0 < c9 → ¬ drX n tI f b t) → (∀ c, c < c9 → bB c = lN (D c)) → OOk D c9 oB → va_P dd vwCl [(qm, .inr (5, mo a 0 (nI n) li fm1 sm1 ab1 be1 st al)), (a 2, .inl (cyI, 48, .inl tI)), (a 4, .inl (cyI, 240, .inl sI)), (a 13, .inl (cyI, 11, .inl fB)), (a 14, .inl (cyI, 11, .inl gB)), (a 22, .inl (cyJ, 5, .inr (.inl bB))), (a 23, .inl (cyI, 5, .inl oB))] H → va_D A [(qm, .inr (5, mo a 0 (nI n) li fm1 sm1 ab1 be1 st al)), (a 2, .inl (cyI, 48, .inl tI)), (a 4, .inl (cyI, 240, .inl sI)), (a 13, .inl (cyI, 11, .inl fB)), (a 14, .inl (cyI, 11, .inl gB)), (a 22, .inl (cyJ, 5, .inr (.inl bB))), (a 23, .inl (cyI, 5, .inl oB))] → va_S A s.heap H locs → ∀ ls : Array Slot, lv_has ls 7 [(5, .int (nI c9)), (0, .ref qm), (1, .int f), (2, .int b), (3, .int t), (4, .int (nI ii))] → W p l e ({ frames := 2, cells := 0, slots := 0, locals := 80 } : Room) s m ([.ref qm, .int f, .int b, .int t, .int (nI ii)] : List Value).toArray below meth c H locs 0 0 (MQ below (va_Qi (S := Int32 × Int32 × Int32 × Int64 × Int64 × (Nat → Int32) × (Nat → Int32) × (Nat → Int64) × (Nat → Int32)) (fun (r : Int32) (u : Int32 × Int32 × Int32 × Int64 × Int64 × (Nat → Int32) × (Nat → Int32) × (Nat → Int64) × (Nat → Int32)) => (orderX n tI f b t (nI ii) → u.1 = 1) ∧ (¬ orderX n tI f b t (nI ii) → u.1 = 0 ∧ r = orderR n tI sI f b t (nI ii))) (WQ dd [(qm, .inr (5, mo a th (nI n) li fm sm ab be st al)), (a 2, .inl (cyI, 48, .inl tI)), (a 4, .inl (cyI, 240, .inl sI)), (a 13, .inl (cyI, 11, .inl fA)), (a 14, .inl (cyI, 11, .inl gA)), (a 22, .inl (cyJ, 5, .inr (.inl bA))), (a 23, .inl (cyI, 5, .inl oA))] sz (fun u => [(qm, .inr (5, mo a u.1 (nI n) li u.2.1 u.2.2.1 u.2.2.2.1 u.2.2.2.2.1 st al)), (a 2, .inl (cyI, 48, .inl tI)), (a 4, .inl (cyI, 240, .inl sI)), (a 13, .inl (cyI, 11, .inl u.2.2.2.2.2.1)), (a 14, .inl (cyI, 11, .inl u.2.2.2.2.2.2.1)), (a 22, .inl (cyJ, 5, .inr (.inl u.2.2.2.2.2.2.2.1))), (a 23, .inl (cyI, 5, .inl u.2.2.2.2.2.2.2.2))])) A) ([.ref qm, .int f, .int b, .int t, .int (nI ii)] : List Value).toArray s 0 0 A) (F0 m 33 ls []) := by
        intro k
        induction k with
        | zero =>
          intro c9 fm1 sm1 ab1 be1 fB gB bB oB H locs hc9 hnz hBb hO hP hD hS ls hl
          refine lv_iload hx hb dX5_order_33 (lv_at hl 0 rfl) ?_
          refine lv_iconst (v := 5) hx hb dX5_order_35 (by decide) ?_
          refine lv_icmp_ge (tgt := 142) hx hb dX5_order_36 (by decide) (fun q => ?_) (fun q => ?_)
          · refine lv_aload_n hx hb dX5_order_142 rfl (lv_at hl 1 rfl) ?_
            refine va_get (D := dd) (ci := 5) (C := RX5) (T := TX5) (N := 30) (v := .ref (a 23)) hx hb hts hiX5 hown hK hP 0 rfl rfl 23 (by decide) (hts (.fieldLink RX5 60 "SliceDriftModel" "order" "[I") (by decide +kernel)) (fun _ h9 => h9) rfl dX5_order_143 ?_
            refine lv_iload hx hb dX5_order_146 (lv_at hl 5 rfl) ?_
            refine va_iald hx hb hK hP 6 0 rfl rfl (i := nI ii) (vp_in_nI (show ii < 5 from (by omega)) (by decide)) dX5_order_148 ?_
            rw [nI_clamp (show ii < 2 ^ 31 from Nat.lt_trans (show ii < 5 from (by omega)) (by decide))]
            have c5 : c9 = 5 := by omega
            subst c5
            obtain ⟨cr, hcr, e1, e2⟩ := hO ii (by omega)
            exact ewI (0, fm1, sm1, ab1, be1, fB, gB, bB, oB) hx hb hr hlocks hAe hS dX5_order_149 (⟨fun x => absurd x.2.2 (hnz (by omega)), fun _ => ⟨rfl, by rw [e2, orderR, if_pos (show inC (nI ii) from hck1), if_pos (show inW f b t from hck2), ec, ← eD, ← e1, fnd_of hcr 5 0 rfl (Nat.zero_le _)]⟩⟩) (hP.sub [0, 1, 2, 3, 4, 5, 6] rfl) (hD.sub [0, 1, 2, 3, 4, 5, 6] (by decide) rfl)
          · exact absurd (nI_le (show 5 ≤ c9 by omega) (by omega)) q
        | succ k ih =>
          intro c9 fm1 sm1 ab1 be1 fB gB bB oB H locs hc9 hnz hBb hO hP hD hS ls hl
          refine lv_iload hx hb dX5_order_33 (lv_at hl 0 rfl) ?_
          refine lv_iconst (v := 5) hx hb dX5_order_35 (by decide) ?_
          refine lv_icmp_ge (tgt := 142) hx hb dX5_order_36 (by decide) (fun q => ?_) (fun q => ?_)
          · exact absurd q (nI_ge (show c9 < 5 by omega) (by decide))
          · refine lv_aload_n hx hb dX5_order_39 rfl (lv_at hl 1 rfl) ?_
            refine lv_iload hx hb dX5_order_40 (lv_at hl 0 rfl) ?_
            refine lv_iload_n hx hb dX5_order_42 rfl (lv_at hl 2 rfl) ?_
            refine lv_iload_n hx hb dX5_order_43 rfl (lv_at hl 3 rfl) ?_
            refine lv_iload_n hx hb dX5_order_44 rfl (lv_at hl 3 rfl) ?_
            refine lv_iload_n hx hb dX5_order_45 rfl (lv_at hl 4 rfl) ?_
            refine clVwv (As := [.int (nI c9), .int f, .int b, .int b, .int t]) (rest := []) (b := qm) (vc := (RX5, TX5, 30)) (wr := [(a 22, .inl (cyJ, 5, .inr (.inl bB))), (a 23, .inl (cyI, 5, .inl oB))]) ⟨hx, hb, hml, hown, hts⟩ (fun sz => r_counts l dd cyI cyJ cyZ qm a 0 li fm1 sm1 ab1 be1 st al n hn tI sI fB gB c9 (by omega) (fun i hi => hSo i hi c9 (by omega)) f b b t sz) gX5_order_X5_counts (ci := 5) rfl (q0 := 0) rfl (n := 5) rfl ⟨rfl, rfl⟩ (by decide +kernel) ⟨Nat.le_of_ble_eq_true rfl, Nat.le_of_ble_eq_true rfl⟩ hN hK hP hD hS hA [0, 1, 2, 3, 4] [5, 6] rfl rfl (by decide) rfl (by decide) (by decide) rfl hl.1 rfl (Nat.le_of_ble_eq_true rfl) dX5_order_46 ⟨Nat.le_of_ble_eq_true rfl, Nat.le_of_ble_eq_true rfl⟩ (fun u1 H locs hu1 hP hD hS => ?_)
            have hP : va_P dd vwCl [(a 22, .inl (cyJ, 5, .inr (.inl bB))), (a 23, .inl (cyI, 5, .inl oB)), (qm, .inr (5, mo a 0 (nI n) li (nI (cnt (win tI f b) n)) (nI (cnt (win tI b t) n)) ab1 be1 st al)), (a 2, .inl (cyI, 48, .inl tI)), (a 4, .inl (cyI, 240, .inl sI)), (a 13, .inl (cyI, 11, .inl u1.1)), (a 14, .inl (cyI, 11, .inl u1.2))] H := hP
            have hD : va_D A [(a 22, .inl (cyJ, 5, .inr (.inl bB))), (a 23, .inl (cyI, 5, .inl oB)), (qm, .inr (5, mo a 0 (nI n) li (nI (cnt (win tI f b) n)) (nI (cnt (win tI b t) n)) ab1 be1 st al)), (a 2, .inl (cyI, 48, .inl tI)), (a 4, .inl (cyI, 240, .inl sI)), (a 13, .inl (cyI, 11, .inl u1.1)), (a 14, .inl (cyI, 11, .inl u1.2))] := hD
            have u1f := csb hn (fun k hk => (hu1 k hk).1)
            have u1g := csb hn (fun k hk => (hu1 k hk).2)
            refine lv_aload_n hx hb dX5_order_49 rfl (lv_at hl 1 rfl) ?_
            refine clVwi (As := []) (rest := []) (b := qm) (vc := (RX5, TX5, 30)) (wr := [(a 22, .inl (cyJ, 5, .inr (.inl bB))), (a 23, .inl (cyI, 5, .inl oB)), (a 2, .inl (cyI, 48, .inl tI)), (a 4, .inl (cyI, 240, .inl sI))]) ⟨hx, hb, hml, hown, hts⟩ (fun sz => r_drifts l dd cyI cyJ cyZ qm a 0 (nI n) li ab1 be1 st al (cnt (win tI f b) n) (cnt (win tI b t) n) lF lG (cs (win tI f b) sI c9 n) (cs (win tI b t) sI c9 n) u1.1 u1.2 u1f u1g sz) gX5_order_X5_drifts (ci := 5) rfl (q0 := 0) rfl (n := 0) rfl ⟨rfl, rfl⟩ (by decide +kernel) ⟨Nat.le_of_ble_eq_true rfl, Nat.le_of_ble_eq_true rfl⟩ hN hK hP hD hS hA [2, 5, 6] [0, 1, 3, 4] rfl rfl (by decide) rfl (by decide) (by decide) rfl hl.1 rfl (Nat.le_of_ble_eq_true rfl) dX5_order_50 ⟨Nat.le_of_ble_eq_true rfl, Nat.le_of_ble_eq_true rfl⟩ (fun b1 u2 H locs hb1 hP hD hS => ?_)
            have hP : va_P dd vwCl [(a 22, .inl (cyJ, 5, .inr (.inl bB))), (a 23, .inl (cyI, 5, .inl oB)), (a 2, .inl (cyI, 48, .inl tI)), (a 4, .inl (cyI, 240, .inl sI)), (qm, .inr (5, mo a 0 (nI n) li (nI (cnt (win tI f b) n)) (nI (cnt (win tI b t) n)) u2.1 u2.2 st al)), (a 13, .inl (cyI, 11, .inl u1.1)), (a 14, .inl (cyI, 11, .inl u1.2))] H := hP
            have hD : va_D A [(a 22, .inl (cyJ, 5, .inr (.inl bB))), (a 23, .inl (cyI, 5, .inl oB)), (a 2, .inl (cyI, 48, .inl tI)), (a 4, .inl (cyI, 240, .inl sI)), (qm, .inr (5, mo a 0 (nI n) li (nI (cnt (win tI f b) n)) (nI (cnt (win tI b t) n)) u2.1 u2.2 st al)), (a 13, .inl (cyI, 11, .inl u1.1)), (a 14, .inl (cyI, 11, .inl u1.2))] := hD
            refine lv_if_ne (tgt := 63) hx hb dX5_order_53 (by decide) (fun q2 => ?_) (fun q2 => ?_)
            · obtain ⟨-, hnz1, e2⟩ := hb1.resolve_left (fun h => q2 h.1)
              subst e2
              have eb : lN (dsg (cs (win tI f b) sI c9 n) (cs (win tI b t) sI c9 n) (cnt (win tI f b) n) (cnt (win tI b t) n) 11) = lN (D c9) := by rw [eD, ← dsu_dsg]; rfl
              rw [eb] at hP hD
              have hDb : ∀ c, D c ≤ 2304 * 11 := fun c => by rw [eD]; exact dsu_le _ _ sI c hn 11
              refine lv_aload_n hx hb dX5_order_63 rfl (lv_at hl 1 rfl) ?_
              refine va_get (D := dd) (ci := 5) (C := RX5) (T := TX5) (N := 30) (v := .ref (a 22)) hx hb hts hiX5 hown hK hP 4 rfl rfl 22 (by decide) (hts (.fieldLink RX5 57 "SliceDriftModel" "aboves" "[J") (by decide +kernel)) (fun _ h9 => h9) rfl dX5_order_64 ?_
              refine lv_iload hx hb dX5_order_67 (lv_at hl 0 rfl) ?_
              refine lv_aload_n hx hb dX5_order_69 rfl (lv_at hl 1 rfl) ?_
              refine va_get (D := dd) (ci := 5) (C := RX5) (T := TX5) (N := 30) (v := .long (lN (D c9))) hx hb hts hiX5 hown hK hP 4 rfl rfl 17 (by decide) (hts (.fieldLink RX5 136 "SliceDriftModel" "above" "J") (by decide +kernel)) (fun _ h9 => h9) rfl dX5_order_70 ?_
              refine va_last hx hb hK hP hD hS 0 1 rfl rfl (i := nI c9) (vp_in_nI (show c9 < 5 from (by omega)) (by decide)) dX5_order_73 (fun H locs hP hD hS => ?_)
              rw [nI_clamp (show c9 < 2 ^ 31 from Nat.lt_trans (show c9 < 5 from (by omega)) (by decide))] at hP hD
              have hP : va_P dd vwCl [(a 22, .inl (cyJ, 5, .inr (.inl (vp_updL bB c9 (lN (D c9)))))), (a 23, .inl (cyI, 5, .inl oB)), (a 2, .inl (cyI, 48, .inl tI)), (a 4, .inl (cyI, 240, .inl sI)), (qm, .inr (5, mo a 0 (nI n) li (nI (cnt (win tI f b) n)) (nI (cnt (win tI b t) n)) (lN (D c9)) (lN (2 * cnt (win tI f b) n * cnt (win tI b t) n)) st al)), (a 13, .inl (cyI, 11, .inl u1.1)), (a 14, .inl (cyI, 11, .inl u1.2))] H := hP
              have hD : va_D A [(a 22, .inl (cyJ, 5, .inr (.inl (vp_updL bB c9 (lN (D c9)))))), (a 23, .inl (cyI, 5, .inl oB)), (a 2, .inl (cyI, 48, .inl tI)), (a 4, .inl (cyI, 240, .inl sI)), (qm, .inr (5, mo a 0 (nI n) li (nI (cnt (win tI f b) n)) (nI (cnt (win tI b t) n)) (lN (D c9)) (lN (2 * cnt (win tI f b) n * cnt (win tI b t) n)) st al)), (a 13, .inl (cyI, 11, .inl u1.1)), (a 14, .inl (cyI, 11, .inl u1.2))] := hD
              refine lv_iload hx hb dX5_order_74 (lv_at hl 0 rfl) ?_
              refine lv_istore (lv' := [(6, .int (nI c9)), (5, .int (nI c9)), (0, .ref qm), (1, .int f), (2, .int b), (3, .int t), (4, .int (nI ii))]) hx hb dX5_order_76 hl (by decide) rfl (fun ls hl => ?_)
              have hB1 : ∀ c, c < c9 + 1 → vp_updL bB c9 (lN (D c9)) c = lN (D c) := fun c hc => (Nat.lt_or_ge c c9).elim (fun h => by rw [pk_uLn (by omega)]; exact hBb c h) (fun h => by rw [show c = c9 by omega, pk_uLs])
              obtain ⟨bC, ebC⟩ : ∃ bC, bC = vp_updL bB c9 (lN (D c9)) := ⟨_, rfl⟩
              rw [← ebC] at hP hD hB1
              have hpk := pl_le D c9 c9
              have loop2 : ∀ (at0 : Nat) (oC : Nat → Int32) (H : Heap) (locs : List Loc), at0 ≤ c9 → pl D c9 c9 ≤ at0 → (∀ p, p < at0 → oC p = oB p) → (∀ p, at0 < p → p ≤ c9 → oC p = oB (p - 1)) → va_P dd vwCl [(qm, .inr (5, mo a 0 (nI n) li (nI (cnt (win tI f b) n)) (nI (cnt (win tI b t) n)) (lN (D c9)) (lN (2 * cnt (win tI f b) n * cnt (win tI b t) n)) st al)), (a 2, .inl (cyI, 48, .inl tI)), (a 4, .inl (cyI, 240, .inl sI)), (a 13, .inl (cyI, 11, .inl u1.1)), (a 14, .inl (cyI, 11, .inl u1.2)), (a 22, .inl (cyJ, 5, .inr (.inl bC))), (a 23, .inl (cyI, 5, .inl oC))] H → va_D A [(qm, .inr (5, mo a 0 (nI n) li (nI (cnt (win tI f b) n)) (nI (cnt (win tI b t) n)) (lN (D c9)) (lN (2 * cnt (win tI f b) n * cnt (win tI b t) n)) st al)), (a 2, .inl (cyI, 48, .inl tI)), (a 4, .inl (cyI, 240, .inl sI)), (a 13, .inl (cyI, 11, .inl u1.1)), (a 14, .inl (cyI, 11, .inl u1.2)), (a 22, .inl (cyJ, 5, .inr (.inl bC))), (a 23, .inl (cyI, 5, .inl oC))] → va_S A s.heap H locs → ∀ ls : Array Slot, lv_has ls 7 [(6, .int (nI at0)), (5, .int (nI c9)), (0, .ref qm), (1, .int f), (2, .int b), (3, .int t), (4, .int (nI ii))] → W p l e ({ frames := 2, cells := 0, slots := 0, locals := 80 } : Room) s m ([.ref qm, .int f, .int b, .int t, .int (nI ii)] : List Value).toArray below meth c H locs 0 0 (MQ below (va_Qi (S := Int32 × Int32 × Int32 × Int64 × Int64 × (Nat → Int32) × (Nat → Int32) × (Nat → Int64) × (Nat → Int32)) (fun (r : Int32) (u : Int32 × Int32 × Int32 × Int64 × Int64 × (Nat → Int32) × (Nat → Int32) × (Nat → Int64) × (Nat → Int32)) => (orderX n tI f b t (nI ii) → u.1 = 1) ∧ (¬ orderX n tI f b t (nI ii) → u.1 = 0 ∧ r = orderR n tI sI f b t (nI ii))) (WQ dd [(qm, .inr (5, mo a th (nI n) li fm sm ab be st al)), (a 2, .inl (cyI, 48, .inl tI)), (a 4, .inl (cyI, 240, .inl sI)), (a 13, .inl (cyI, 11, .inl fA)), (a 14, .inl (cyI, 11, .inl gA)), (a 22, .inl (cyJ, 5, .inr (.inl bA))), (a 23, .inl (cyI, 5, .inl oA))] sz (fun u => [(qm, .inr (5, mo a u.1 (nI n) li u.2.1 u.2.2.1 u.2.2.2.1 u.2.2.2.2.1 st al)), (a 2, .inl (cyI, 48, .inl tI)), (a 4, .inl (cyI, 240, .inl sI)), (a 13, .inl (cyI, 11, .inl u.2.2.2.2.2.1)), (a 14, .inl (cyI, 11, .inl u.2.2.2.2.2.2.1)), (a 22, .inl (cyJ, 5, .inr (.inl u.2.2.2.2.2.2.2.1))), (a 23, .inl (cyI, 5, .inl u.2.2.2.2.2.2.2.2))])) A) ([.ref qm, .int f, .int b, .int t, .int (nI ii)] : List Value).toArray s 0 0 A) (F0 m 78 ls []) := by
                intro at0
                induction at0 with
                | zero =>
                  intro oC H locs ka kp k1 k3 hP hD hS ls hl
                  refine lv_iload hx hb dX5_order_78 (lv_at hl 0 rfl) ?_
                  refine lv_if_le (tgt := 127) hx hb dX5_order_80 (by decide) (fun q3 => ?_) (fun q3 => ?_)
                  · have ea : pl D c9 c9 = 0 := by omega
                    refine lv_aload_n hx hb dX5_order_127 rfl (lv_at hl 2 rfl) ?_
                    refine va_get (D := dd) (ci := 5) (C := RX5) (T := TX5) (N := 30) (v := .ref (a 23)) hx hb hts hiX5 hown hK hP 0 rfl rfl 23 (by decide) (hts (.fieldLink RX5 60 "SliceDriftModel" "order" "[I") (by decide +kernel)) (fun _ h9 => h9) rfl dX5_order_128 ?_
                    refine lv_iload hx hb dX5_order_131 (lv_at hl 0 rfl) ?_
                    refine lv_iload hx hb dX5_order_133 (lv_at hl 1 rfl) ?_
                    refine va_iast hx hb hK hP hD hS 6 0 rfl rfl (i := nI 0) (vp_in_nI (show 0 < 5 from (by omega)) (by decide)) dX5_order_135 (fun H locs hP hD hS => ?_)
                    rw [nI_clamp (show 0 < 2 ^ 31 from Nat.lt_trans (show 0 < 5 from (by omega)) (by decide))] at hP hD
                    have hP : va_P dd vwCl [(qm, .inr (5, mo a 0 (nI n) li (nI (cnt (win tI f b) n)) (nI (cnt (win tI b t) n)) (lN (D c9)) (lN (2 * cnt (win tI f b) n * cnt (win tI b t) n)) st al)), (a 2, .inl (cyI, 48, .inl tI)), (a 4, .inl (cyI, 240, .inl sI)), (a 13, .inl (cyI, 11, .inl u1.1)), (a 14, .inl (cyI, 11, .inl u1.2)), (a 22, .inl (cyJ, 5, .inr (.inl bC))), (a 23, .inl (cyI, 5, .inl (upd oC 0 (nI c9))))] H := hP
                    have hD : va_D A [(qm, .inr (5, mo a 0 (nI n) li (nI (cnt (win tI f b) n)) (nI (cnt (win tI b t) n)) (lN (D c9)) (lN (2 * cnt (win tI f b) n * cnt (win tI b t) n)) st al)), (a 2, .inl (cyI, 48, .inl tI)), (a 4, .inl (cyI, 240, .inl sI)), (a 13, .inl (cyI, 11, .inl u1.1)), (a 14, .inl (cyI, 11, .inl u1.2)), (a 22, .inl (cyJ, 5, .inr (.inl bC))), (a 23, .inl (cyI, 5, .inl (upd oC 0 (nI c9))))] := hD
                    refine lv_iinc (v := nI (c9 + 1)) (lv' := [(5, .int (nI (c9 + 1))), (6, .int (nI 0)), (0, .ref qm), (1, .int f), (2, .int b), (3, .int t), (4, .int (nI ii))]) hx hb dX5_order_136 hl (k := 1) rfl (nI_1 c9) (by decide) rfl (fun ls hl => ?_)
                    refine lv_goto (tgt := 33) hx hb dX5_order_139 (by decide) ?_
                    exact ih (c9 + 1) _ _ _ _ u1.1 u1.2 bC (upd oC 0 (nI c9)) H locs (by omega) (fun _ => hnz1) hB1 (ook_ins hO (fun p9 h9 => by rw [pk_un (by omega)]; exact k1 p9 (by omega)) (by rw [ea, pk_us]) (fun p9 h9 g9 => by rw [pk_un (by omega)]; exact k3 p9 (by omega) g9)) hP hD hS ls (lv_sub hl [0, 2, 3, 4, 5, 6] rfl)
                  · exact absurd (show nI 0 ≤ 0 by decide) q3
                | succ at0 ih2 =>
                  intro oC H locs ka kp k1 k3 hP hD hS ls hl
                  refine lv_iload hx hb dX5_order_78 (lv_at hl 0 rfl) ?_
                  refine lv_if_le (tgt := 127) hx hb dX5_order_80 (by decide) (fun q3 => ?_) (fun q3 => ?_)
                  · exact absurd ((nI_leI (b := 0) (by omega) (by decide)).mp q3) (by omega)
                  · obtain ⟨cx, hcx, ex1, ex2⟩ := hO at0 (by omega)
                    refine lv_aload_n hx hb dX5_order_83 rfl (lv_at hl 2 rfl) ?_
                    refine va_get (D := dd) (ci := 5) (C := RX5) (T := TX5) (N := 30) (v := .ref (a 22)) hx hb hts hiX5 hown hK hP 0 rfl rfl 22 (by decide) (hts (.fieldLink RX5 57 "SliceDriftModel" "aboves" "[J") (by decide +kernel)) (fun _ h9 => h9) rfl dX5_order_84 ?_
                    refine lv_aload_n hx hb dX5_order_87 rfl (lv_at hl 2 rfl) ?_
                    refine va_get (D := dd) (ci := 5) (C := RX5) (T := TX5) (N := 30) (v := .ref (a 23)) hx hb hts hiX5 hown hK hP 0 rfl rfl 23 (by decide) (hts (.fieldLink RX5 60 "SliceDriftModel" "order" "[I") (by decide +kernel)) (fun _ h9 => h9) rfl dX5_order_88 ?_
                    refine lv_iload hx hb dX5_order_91 (lv_at hl 0 rfl) ?_
                    refine lv_iconst (v := 1) hx hb dX5_order_93 (by decide) ?_
                    refine lv_isub hx hb dX5_order_94 ?_
                    refine tpi (show ((nI (at0 + 1)) - 1 : Int32) = nI at0 from nI_m1) ?_
                    refine va_iald hx hb hK hP 6 0 rfl rfl (i := nI at0) (vp_in_nI (show at0 < 5 from (by omega)) (by decide)) dX5_order_95 ?_
                    rw [nI_clamp (show at0 < 2 ^ 31 from Nat.lt_trans (show at0 < 5 from (by omega)) (by decide))]
                    refine tpi (show (oC at0 : Int32) = nI cx from by rw [k1 at0 (by omega), ex2]) ?_
                    refine va_lald hx hb hK hP 5 1 rfl rfl (i := nI cx) (vp_in_nI (show cx < 5 from (by omega)) (by decide)) dX5_order_96 ?_
                    rw [nI_clamp (show cx < 2 ^ 31 from Nat.lt_trans (show cx < 5 from (by omega)) (by decide))]
                    refine tpl (show (bC cx : Int64) = lN (D cx) from hB1 cx (by omega)) ?_
                    refine lv_aload_n hx hb dX5_order_97 rfl (lv_at hl 2 rfl) ?_
                    refine va_get (D := dd) (ci := 5) (C := RX5) (T := TX5) (N := 30) (v := .long (lN (D c9))) hx hb hts hiX5 hown hK hP 0 rfl rfl 17 (by decide) (hts (.fieldLink RX5 136 "SliceDriftModel" "above" "J") (by decide +kernel)) (fun _ h9 => h9) rfl dX5_order_98 ?_
                    refine W.lcmp hx hb dX5_order_101 ?_
                    have d1 := hDb cx
                    have d2 := hDb c9
                    refine lv_if_ge (tgt := 127) hx hb dX5_order_102 (by decide) (fun q4 => ?_) (fun q4 => ?_)
                    · have g4 : ¬ D cx < D c9 := fun h => absurd q4 (ilt ((lcl (by omega) (by omega)).mpr h))
                      have ea : pl D c9 c9 = (at0 + 1) := by have := pl_lo hcx (show D c9 ≤ D cx by omega); omega
                      refine lv_aload_n hx hb dX5_order_127 rfl (lv_at hl 2 rfl) ?_
                      refine va_get (D := dd) (ci := 5) (C := RX5) (T := TX5) (N := 30) (v := .ref (a 23)) hx hb hts hiX5 hown hK hP 0 rfl rfl 23 (by decide) (hts (.fieldLink RX5 60 "SliceDriftModel" "order" "[I") (by decide +kernel)) (fun _ h9 => h9) rfl dX5_order_128 ?_
                      refine lv_iload hx hb dX5_order_131 (lv_at hl 0 rfl) ?_
                      refine lv_iload hx hb dX5_order_133 (lv_at hl 1 rfl) ?_
                      refine va_iast hx hb hK hP hD hS 6 0 rfl rfl (i := nI (at0 + 1)) (vp_in_nI (show (at0 + 1) < 5 from (by omega)) (by decide)) dX5_order_135 (fun H locs hP hD hS => ?_)
                      rw [nI_clamp (show (at0 + 1) < 2 ^ 31 from Nat.lt_trans (show (at0 + 1) < 5 from (by omega)) (by decide))] at hP hD
                      have hP : va_P dd vwCl [(qm, .inr (5, mo a 0 (nI n) li (nI (cnt (win tI f b) n)) (nI (cnt (win tI b t) n)) (lN (D c9)) (lN (2 * cnt (win tI f b) n * cnt (win tI b t) n)) st al)), (a 2, .inl (cyI, 48, .inl tI)), (a 4, .inl (cyI, 240, .inl sI)), (a 13, .inl (cyI, 11, .inl u1.1)), (a 14, .inl (cyI, 11, .inl u1.2)), (a 22, .inl (cyJ, 5, .inr (.inl bC))), (a 23, .inl (cyI, 5, .inl (upd oC (at0 + 1) (nI c9))))] H := hP
                      have hD : va_D A [(qm, .inr (5, mo a 0 (nI n) li (nI (cnt (win tI f b) n)) (nI (cnt (win tI b t) n)) (lN (D c9)) (lN (2 * cnt (win tI f b) n * cnt (win tI b t) n)) st al)), (a 2, .inl (cyI, 48, .inl tI)), (a 4, .inl (cyI, 240, .inl sI)), (a 13, .inl (cyI, 11, .inl u1.1)), (a 14, .inl (cyI, 11, .inl u1.2)), (a 22, .inl (cyJ, 5, .inr (.inl bC))), (a 23, .inl (cyI, 5, .inl (upd oC (at0 + 1) (nI c9))))] := hD
                      refine lv_iinc (v := nI (c9 + 1)) (lv' := [(5, .int (nI (c9 + 1))), (6, .int (nI (at0 + 1))), (0, .ref qm), (1, .int f), (2, .int b), (3, .int t), (4, .int (nI ii))]) hx hb dX5_order_136 hl (k := 1) rfl (nI_1 c9) (by decide) rfl (fun ls hl => ?_)
                      refine lv_goto (tgt := 33) hx hb dX5_order_139 (by decide) ?_
                      exact ih (c9 + 1) _ _ _ _ u1.1 u1.2 bC (upd oC (at0 + 1) (nI c9)) H locs (by omega) (fun _ => hnz1) hB1 (ook_ins hO (fun p9 h9 => by rw [pk_un (by omega)]; exact k1 p9 (by omega)) (by rw [ea, pk_us]) (fun p9 h9 g9 => by rw [pk_un (by omega)]; exact k3 p9 (by omega) g9)) hP hD hS ls (lv_sub hl [0, 2, 3, 4, 5, 6] rfl)
                    · have g4 : D cx < D c9 := (lcl (by omega) (by omega)).mp (inle q4)
                      have g5 := pl_hi g4
                      refine lv_aload_n hx hb dX5_order_105 rfl (lv_at hl 2 rfl) ?_
                      refine va_get (D := dd) (ci := 5) (C := RX5) (T := TX5) (N := 30) (v := .ref (a 23)) hx hb hts hiX5 hown hK hP 0 rfl rfl 23 (by decide) (hts (.fieldLink RX5 60 "SliceDriftModel" "order" "[I") (by decide +kernel)) (fun _ h9 => h9) rfl dX5_order_106 ?_
                      refine lv_iload hx hb dX5_order_109 (lv_at hl 0 rfl) ?_
                      refine lv_aload_n hx hb dX5_order_111 rfl (lv_at hl 2 rfl) ?_
                      refine va_get (D := dd) (ci := 5) (C := RX5) (T := TX5) (N := 30) (v := .ref (a 23)) hx hb hts hiX5 hown hK hP 0 rfl rfl 23 (by decide) (hts (.fieldLink RX5 60 "SliceDriftModel" "order" "[I") (by decide +kernel)) (fun _ h9 => h9) rfl dX5_order_112 ?_
                      refine lv_iload hx hb dX5_order_115 (lv_at hl 0 rfl) ?_
                      refine lv_iconst (v := 1) hx hb dX5_order_117 (by decide) ?_
                      refine lv_isub hx hb dX5_order_118 ?_
                      refine tpi (show ((nI (at0 + 1)) - 1 : Int32) = nI at0 from nI_m1) ?_
                      refine va_iald hx hb hK hP 6 0 rfl rfl (i := nI at0) (vp_in_nI (show at0 < 5 from (by omega)) (by decide)) dX5_order_119 ?_
                      rw [nI_clamp (show at0 < 2 ^ 31 from Nat.lt_trans (show at0 < 5 from (by omega)) (by decide))]
                      refine va_iast hx hb hK hP hD hS 6 0 rfl rfl (i := nI (at0 + 1)) (vp_in_nI (show (at0 + 1) < 5 from (by omega)) (by decide)) dX5_order_120 (fun H locs hP hD hS => ?_)
                      rw [nI_clamp (show (at0 + 1) < 2 ^ 31 from Nat.lt_trans (show (at0 + 1) < 5 from (by omega)) (by decide))] at hP hD
                      have hP : va_P dd vwCl [(qm, .inr (5, mo a 0 (nI n) li (nI (cnt (win tI f b) n)) (nI (cnt (win tI b t) n)) (lN (D c9)) (lN (2 * cnt (win tI f b) n * cnt (win tI b t) n)) st al)), (a 2, .inl (cyI, 48, .inl tI)), (a 4, .inl (cyI, 240, .inl sI)), (a 13, .inl (cyI, 11, .inl u1.1)), (a 14, .inl (cyI, 11, .inl u1.2)), (a 22, .inl (cyJ, 5, .inr (.inl bC))), (a 23, .inl (cyI, 5, .inl (upd oC (at0 + 1) (oC at0))))] H := hP
                      have hD : va_D A [(qm, .inr (5, mo a 0 (nI n) li (nI (cnt (win tI f b) n)) (nI (cnt (win tI b t) n)) (lN (D c9)) (lN (2 * cnt (win tI f b) n * cnt (win tI b t) n)) st al)), (a 2, .inl (cyI, 48, .inl tI)), (a 4, .inl (cyI, 240, .inl sI)), (a 13, .inl (cyI, 11, .inl u1.1)), (a 14, .inl (cyI, 11, .inl u1.2)), (a 22, .inl (cyJ, 5, .inr (.inl bC))), (a 23, .inl (cyI, 5, .inl (upd oC (at0 + 1) (oC at0))))] := hD
                      refine lv_iinc (v := nI at0) (lv' := [(6, .int (nI at0)), (5, .int (nI c9)), (0, .ref qm), (1, .int f), (2, .int b), (3, .int t), (4, .int (nI ii))]) hx hb dX5_order_121 hl (k := 0) rfl nI_mm (by decide) rfl (fun ls hl => ?_)
                      refine lv_goto (tgt := 78) hx hb dX5_order_124 (by decide) ?_
                      exact ih2 (upd oC (at0 + 1) (oC at0)) H locs (by omega) (by omega) (fun p9 h9 => by rw [pk_un (by omega)]; exact k1 p9 (by omega)) (fun p9 h9 g9 => (Nat.lt_or_ge (at0 + 1) p9).elim (fun h => by rw [pk_un (by omega)]; exact k3 p9 h g9) (fun h => by rw [show p9 = at0 + 1 by omega, pk_us]; exact k1 at0 (by omega))) hP hD hS ls (lv_sub hl [0, 1, 2, 3, 4, 5, 6] rfl)
              exact loop2 c9 oB H _ (Nat.le_refl _) hpk (fun p9 _ => rfl) (fun p9 h9 g9 => by omega) (hP.sub [4, 2, 3, 5, 6, 0, 1] rfl) (hD.sub [4, 2, 3, 5, 6, 0, 1] (by decide) rfl) hS ls (lv_sub hl [0, 1, 2, 3, 4, 5, 6] rfl)
            · obtain ⟨-, hzz, e2⟩ := hb1.resolve_right (fun h => absurd (h.1.symm.trans q2) (by decide))
              subst e2
              refine lv_aload_n hx hb dX5_order_56 rfl (lv_at hl 1 rfl) ?_
              refine lv_iconst (v := 1) hx hb dX5_order_57 (by decide) ?_
              refine va_put (D := dd) (ci := 5) (v := .int 1) (ty := .int) (C := RX5) (T := TX5) (N := 30) hx hb hts hiX5 tyX5 tyX5_ok nmX5 hown hK hP hD hS 4 rfl rfl 0 (by decide) (hts (.fieldLink RX5 75 "SliceDriftModel" "thrown" "I") (by decide +kernel)) (fun _ h9 => h9) rfl (by decide +kernel) rfl rfl (Nat.le_of_ble_eq_true rfl) dX5_order_58 (fun H locs hP hD hS => ?_)
              have hP : va_P dd vwCl [(a 22, .inl (cyJ, 5, .inr (.inl bB))), (a 23, .inl (cyI, 5, .inl oB)), (a 2, .inl (cyI, 48, .inl tI)), (a 4, .inl (cyI, 240, .inl sI)), (qm, .inr (5, mo a 1 (nI n) li (nI (cnt (win tI f b) n)) (nI (cnt (win tI b t) n)) ab1 be1 st al)), (a 13, .inl (cyI, 11, .inl u1.1)), (a 14, .inl (cyI, 11, .inl u1.2))] H := hP
              have hD : va_D A [(a 22, .inl (cyJ, 5, .inr (.inl bB))), (a 23, .inl (cyI, 5, .inl oB)), (a 2, .inl (cyI, 48, .inl tI)), (a 4, .inl (cyI, 240, .inl sI)), (qm, .inr (5, mo a 1 (nI n) li (nI (cnt (win tI f b) n)) (nI (cnt (win tI b t) n)) ab1 be1 st al)), (a 13, .inl (cyI, 11, .inl u1.1)), (a 14, .inl (cyI, 11, .inl u1.2))] := hD
              refine lv_iconst (v := 0) hx hb dX5_order_61 (by decide) ?_
              exact ewI (1, _, _, ab1, be1, u1.1, u1.2, bB, oB) hx hb hr hlocks hAe hS dX5_order_62 (⟨fun _ => rfl, fun x => absurd (show orderX n tI f b t (nI ii) from ⟨hck1, hck2, hzz⟩) x⟩) (hP.sub [4, 2, 3, 5, 6, 0, 1] rfl) (hD.sub [4, 2, 3, 5, 6, 0, 1] (by decide) rfl)
      exact loop 5 0 fm sm ab be fA gA bA oA H _ rfl (fun h => absurd h (by decide)) (fun c9 h => absurd h (Nat.not_lt_zero c9)) (fun p9 h => absurd h (Nat.not_lt_zero p9)) hP hD hS ls (lv_sub hl [0, 1, 2, 3, 4, 5] rfl)
    · have hck2 : ¬ (inW f b t) := hck2.elim (fun h => absurd (h.1.symm.trans qck2) (by decide)) (fun h => h.2)
      refine lv_ldc (v := (-1000002)) hx hb hown (hts (.constant RX5 83 (-1000002)) (by decide +kernel)) dX5_order_27 ?_
      exact ewI (0, fm, sm, ab, be, fA, gA, bA, oA) hx hb hr hlocks hAe hS dX5_order_29 (⟨fun x => absurd x.2.1 hck2, fun _ => ⟨rfl, by rw [orderR, if_pos hck1, if_neg hck2]⟩⟩) (hP.sub [0, 1, 2, 3, 4, 5, 6] rfl) (hD.sub [0, 1, 2, 3, 4, 5, 6] (by decide) rfl)
  · have hck1 : ¬ (inC i) := hck1.elim (fun h => absurd (h.1.symm.trans qck1) (by decide)) (fun h => h.2)
    refine lv_ldc (v := (-1000001)) hx hb hown (hts (.constant RX5 88 (-1000001)) (by decide +kernel)) dX5_order_15 ?_
    exact ewI (0, fm, sm, ab, be, fA, gA, bA, oA) hx hb hr hlocks hAe hS dX5_order_17 (⟨fun x => absurd x.1 hck1, fun _ => ⟨rfl, by rw [orderR, if_neg hck1]⟩⟩) (hP.sub [0, 1, 2, 3, 4, 5, 6] rfl) (hD.sub [0, 1, 2, 3, 4, 5, 6] (by decide) rfl)
