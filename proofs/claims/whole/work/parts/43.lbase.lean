/-! ===== the law: what ties the class's answers and the reference's ===== -/
theorem slc_eq {hm : Nat} {Lc : Ls} {u : RA} (hln : Lc.1 ≤ 535) (h : LstR hm Lc u) (i w : Int32) : sliceR Lc.1 u.1 u.2.1 u.2.2.1 u.2.2.2.1 u.2.2.2.2.2.1 u.2.2.2.2.2.2 i w = slE Lc.1 hm Lc.2 i w := by
  unfold slE sliceR
  by_cases q : inR Lc.1 i
  · obtain ⟨j, hj, rfl⟩ := inR_of (by omega) q
    obtain ⟨h1, h2, h3, h4, -, h6, h7⟩ := h j hj
    rw [if_pos q, if_pos q]
    simp only [cl_nI (show j < 2 ^ 31 by omega), h1, h2, h3, h4, h6, h7]
  · rw [if_neg q, if_neg q]
theorem shr_eq {hm : Nat} {Lc : Ls} {u : RA} (hln : Lc.1 ≤ 535) (h : LstR hm Lc u) (i sd pt : Int32) : shareR Lc.1 u.2.2.2.2.2.1 u.2.2.2.2.2.2 i sd pt = shE Lc.1 hm Lc.2 i sd pt := by
  unfold shE shareR
  by_cases q : inR Lc.1 i
  · obtain ⟨j, hj, rfl⟩ := inR_of (by omega) q
    obtain ⟨h1, h2, h3, h4, -, h6, h7⟩ := h j hj
    rw [if_pos q, if_pos q]
    simp only [cl_nI (show j < 2 ^ 31 by omega), h6, h7]
  · rw [if_neg q, if_neg q]
theorem mem_eq {Lc : Ls} {me : Nat → Nat} (hln : Lc.1 ≤ 535) (h : ∀ j, j < Lc.1 → me j = (Lc.2 j).1) (i k : Int32) : memberR Lc.1 me i k = memberR Lc.1 (fun j => (Lc.2 j).1) i k := by
  unfold memberR
  by_cases q : inR Lc.1 i
  · obtain ⟨j, hj, rfl⟩ := inR_of (by omega) q
    rw [if_pos q, if_pos q]
    simp only [cl_nI (show j < 2 ^ 31 by omega), h j hj]
  · rw [if_neg q, if_neg q]
theorem stp_eq {st : Nat} {u o r b u' o' r' : Nat → Int32} (hst : st ≤ 100) (h : ∀ k, k < st → u' k = u k ∧ o' k = o k ∧ r' k = r k) (k w : Int32) : stepR st u' o' r' b k w = stepR st u o r b k w := by
  unfold stepR
  by_cases q : inR st k
  · obtain ⟨j, hj, rfl⟩ := inR_of (by omega) q
    obtain ⟨h1, h2, h3⟩ := h j hj
    rw [if_pos q, if_pos q]
    simp only [cl_nI (show j < 2 ^ 31 by omega), h1, h2, h3]
  · rw [if_neg q, if_neg q]
theorem pop_le48 {x : Nat} (h : x < 2 ^ 48) : pop x ≤ 48 := by
  rw [← pop48 h]
  exact cnt_le _ _
theorem lshL {hm : Nat} {Lc : Ls} {u : RA} (h : LstR hm Lc u) (hO : PAll LEn Lc) : ∀ j, j < Lc.1 → ∃ x z : Nat, u.2.2.2.2.2.2 j = nI x ∧ u.2.2.2.2.2.1 j = nI z ∧ x ≤ 48 ∧ 0 < z ∧ z ≤ 48 := fun j hj => by
  obtain ⟨-, -, -, -, -, h6, h7⟩ := h j hj
  obtain ⟨o1, o2, -, -⟩ := hO j hj
  exact ⟨_, _, h7, h6, pop_le48 (and48 o1), o2, pop_le48 o1⟩
theorem slN_ok {n : Nat} {hI sI : Nat → Int32} {x y : Int32} {hm : Nat} {Lc : Ls} (hn : n ≤ 48) (h1 : PAll LEn Lc) (h2 : Lc.1 ≤ 535) (h3 : hm < 2 ^ 48) : PAll LEn (slN n hI sI x y hm Lc).2 ∧ (slN n hI sI x y hm Lc).2.1 ≤ 535 ∧ (slN n hI sI x y hm Lc).1 < 2 ^ 48 := by
  by_cases q : slOk x y
  · obtain ⟨j, hj1, hj2, rfl⟩ := rng1 (M := 48) (N := 48) (by decide) q.1
    have e : cl (nI j) = j := cl_nI (by omega)
    have e2 : slN n hI sI (nI j) y hm Lc = (mk (hit hI) n, mks (mk (hit hI) n) (cl (nI j)) (hvM sI n) (decide (y = 2)) 55 0 L0) := by
      unfold slN
      rw [if_pos q]
    rw [e2, e]
    exact ⟨mks_LEn _ hj1 sI hn _, mks_535 _ hj1 sI hn _, mk48 _ hn⟩
  · have e2 : slN n hI sI x y hm Lc = (hm, Lc) := by
      unfold slN
      rw [if_neg q]
    rw [e2]
    exact ⟨h1, h2, h3⟩
theorem nI_mul (a b : Nat) : nI a * nI b = nI (a * b) := (Int32.ofNat_mul a b).symm
theorem wt_tie {n : Nat} {tI sI : Nat → Int32} {y bs sp hd lm ba le al : Int32} {st : Nat} {r0 o0 u0 uM oM rM bM : Nat → Int32} (hst : st ≤ 100) (hw : ∀ k, k < st → bM k = ba + nI k * le ∧ uM k = u0 k ∧ oM k = o0 k ∧ rM k = r0 k)
    {ba' le' al' al2 : Int32} {st' st2 : Nat} {r' o' u' u2 o2 r2 b2 : Nat → Int32}
    (c1 : wYes n tI y bs sp hd lm → ba' = bs ∧ le' = sp ∧ st' = nst (cl bs) (cl sp) ∧ al' = nI (wAw n tI sI (cl y) (cl bs) (cl sp) (cl hd) (cl lm) (nst (cl bs) (cl sp))).2.2.2 ∧ ∀ k, k < nst (cl bs) (cl sp) → r' k = nI (cnt (wG tI (cl bs) (cl sp) k) n) ∧ o' k = b01 (wOff tI sI n (cl y) (cl bs) (cl sp) (cl lm) k) ∧ u' k = b01 (wAw n tI sI (cl y) (cl bs) (cl sp) (cl hd) (cl lm) (k + 1)).1)
    (c2 : ¬ wYes n tI y bs sp hd lm → (ba', le', st', al', r', o', u') = (ba, le, st, al, r0, o0, u0))
    (m1 : wYes n tI y bs sp hd lm → st2 = nst (cl bs) (cl sp) ∧ al2 = nI (wAw n tI sI (cl y) (cl bs) (cl sp) (cl hd) (cl lm) (nst (cl bs) (cl sp))).2.2.2 ∧ ∀ k, k < nst (cl bs) (cl sp) → u2 k = b01 (wAw n tI sI (cl y) (cl bs) (cl sp) (cl hd) (cl lm) (k + 1)).1 ∧ o2 k = b01 (wOff tI sI n (cl y) (cl bs) (cl sp) (cl lm) k) ∧ r2 k = nI (cnt (wG tI (cl bs) (cl sp) k) n) ∧ b2 k = nI (cl bs + k * cl sp))
    (m2 : ¬ wYes n tI y bs sp hd lm → st2 = st ∧ al2 = al ∧ u2 = uM ∧ o2 = oM ∧ r2 = rM ∧ b2 = bM) :
    st2 = st' ∧ al2 = al' ∧ st' ≤ 100 ∧ ∀ k, k < st' → b2 k = ba' + nI k * le' ∧ u2 k = u' k ∧ o2 k = o' k ∧ r2 k = r' k := by
  by_cases q : wYes n tI y bs sp hd lm
  · obtain ⟨rfl, rfl, rfl, rfl, h5⟩ := c1 q
    obtain ⟨rfl, rfl, g3⟩ := m1 q
    refine ⟨rfl, rfl, ?_, fun k hk => ?_⟩
    · have := ns_le (cl ba') (cl le') 100 0
      omega
    · obtain ⟨p1, p2, p3⟩ := h5 k hk
      obtain ⟨q1, q2, q3, q4⟩ := g3 k hk
      obtain ⟨j1, -, j2, e1⟩ := rng1 (M := 999) (N := 999) (by decide) q.2.1.1
      obtain ⟨j3, -, j4, e2⟩ := rng1 (M := 999) (N := 999) (by decide) q.2.1.2.1
      refine ⟨?_, q1.trans p3.symm, q2.trans p2.symm, q3.trans p1.symm⟩
      rw [q4, e1, e2, cl_nI (by omega), cl_nI (by omega), nI_mul, nI_add]
  · have h := c2 q
    obtain ⟨rfl, rfl, rfl, rfl, rfl, rfl⟩ := m2 q
    simp only [Prod.mk.injEq] at h
    obtain ⟨rfl, rfl, rfl, rfl, rfl, rfl, rfl⟩ := h
    exact ⟨rfl, rfl, hst, hw⟩
theorem scr_gt {L i : Nat} (hL : L ≤ 3584) (hi : 7 * i ≤ 3584) : (nI L - 7 < nI (7 * i)) ↔ L < 7 * i + 7 := by
  rw [Int32.lt_iff_toInt_lt, show (7 : Int32) = nI 7 from rfl, isub_of, Int32.toInt_ofInt_of_le (by omega) (by omega), nI_toInt (by omega)]
  omega
theorem me_ex (f : Nat → Int64) : ∃ me : Nat → Nat, (∀ j, me j < 2 ^ 64) ∧ f = fun j => lN (me j) := ⟨fun j => (f j).toBitVec.toNat, fun j => (f j).toBitVec.isLt, funext fun j => wb_inj (by rw [wb_tb]; simp)⟩
theorem lN_inj64 {x y : Nat} (hx : x < 2 ^ 64) (hy : y < 2 ^ 64) (h : lN x = lN y) : x = y := by
  rw [← wb_tn hx, ← wb_tn hy, h]
abbrev scv (xs : Nat → Int32) (i k : Nat) : Int32 := xs (nI (7 * i + k)).toNatClampNeg
def asZ (v : Int32) : Int32 := if v = 0 then 0 else 1
theorem asZ_01 (v : Int32) : asZ v = 0 ∨ asZ v = 1 := by
  unfold asZ
  split
  · exact Or.inl rfl
  · exact Or.inr rfl
theorem asZ_0 {v : Int32} (h : v = 0) : (0 : Int32) = asZ v := by rw [asZ, if_pos h]
theorem asZ_1 {v : Int32} (h : ¬ v = 0) : (1 : Int32) = asZ v := by rw [asZ, if_neg h]
/-- what stays true of the law's frame -/
def LC (p : Program) (l : Launch) (s : State) (m : MethodId) (c : Code) (b L : Nat) (xs : Nat → Int32) (dd : va_G) (cyI cyJ cyZ : ClassId) : Prop :=
  p.tables.exec = Jvm.exec ∧ c.code = cL_law ∧ c.maxLocals = 8 ∧ s.vm.findClass RL = some m.cls ∧ (∀ w ∈ wsL_law, w.before #[Value.ref b] s = true) ∧ va_X b L xs s s.heap ∧ b < s.heap.size ∧ NW s ∧ XW s ∧ l.stackTraces = false ∧ va_K dd vwCl [(cyI, .int), (cyJ, .long), (cyZ, .boolean)] s ∧ L ≤ 3584
/-- the law goes on behind a call -/
def LK (p : Program) (l : Launch) (e : Env) (s : State) (m : MethodId) (below : List Frame) (meth : Method) (c : Code) (b : Nat) (dd : va_G) (cyI cyJ cyZ : ClassId) (qx qm qo i : Nat) (cells slots : Nat) (Q : State → Prop) : Prop :=
  ∀ (qr : Nat) (ql : Nat) (qk : Nat) (qa : Nat) (qt : Nat) (qh : Nat) (ql1 : Nat) (ql2 : Nat) (ql3 : Nat) (qk1 : Nat) (qk2 : Nat) (qk3 : Nat) (qa1 : Nat) (qa2 : Nat) (qa3 : Nat) (a : Nat → Nat) (n : Nat) (hi : Int64) (tI : Nat → Int32) (hv : Nat → Int64) (hI : Nat → Int32) (sI : Nat → Int32) (hm : Nat) (Lc : Ls) (mI : Nat → Int64) (fI : Nat → Int32) (gI : Nat → Int32) (e1 : Nat → Int32) (e2 : Nat → Int32) (e3 : Nat → Int32) (e4 : Nat → Int32) (e5 : Nat → Int64) (e6 : Nat → Int32) (e7 : Nat → Int32) (x1 : Int32) (x2 : Int32) (f0 : Nat → Int32) (g0 : Nat → Int32) (w0 : Nat → Int32) (ba : Int32) (le : Int32) (st : Nat) (al : Int32) (r0 : Nat → Int32) (o0 : Nat → Int32) (u0 : Nat → Int32) (th : Int32) (fm : Int32) (sm : Int32) (ab : Int64) (be : Int64) (fA : Nat → Int32) (gA : Nat → Int32) (wA : Nat → Int64) (mA : Nat → Int64) (cA : Nat → Int64) (bA : Nat → Int64) (oA : Nat → Int32) (uM : Nat → Int32) (oM : Nat → Int32) (rM : Nat → Int32) (bM : Nat → Int32) (oF : Nat → Int64) (H : Heap) (locs : List Loc) (ls : Array Slot), RowsOk n hI sI hi hv → (LstC Lc.2 Lc.1 mI fI gI ∧ LstR hm Lc (e1, e2, e3, e4, e5, e6, e7) ∧ PAll LEn Lc ∧ Lc.1 ≤ 535 ∧ hm < 2 ^ 48) → (st ≤ 100 ∧ ∀ k, k < st → bM k = ba + nI k * le ∧ uM k = u0 k ∧ oM k = o0 k ∧ rM k = r0 k) → va_P dd vwCl [(qx, .inr (4, [.ref qr, .ref ql, .ref qk, .ref qa])), (qr, .inr (2, [.int (nI n), .long hi, .ref qt, .ref qh])), (qt, .inl (cyI, 48, .inl tI)), (qh, .inl (cyJ, 55, .inr (.inl hv))), (ql, .inr (3, [.int (nI Lc.1), .long (lN hm), .ref ql1, .ref ql2, .ref ql3])), (ql1, .inl (cyJ, 535, .inr (.inl mI))), (ql2, .inl (cyI, 535, .inl fI)), (ql3, .inl (cyI, 535, .inl gI)), (qk, .inr (1, [.int x1, .int x2, .ref qk1, .ref qk2, .ref qk3])), (qk1, .inl (cyI, 10, .inl f0)), (qk2, .inl (cyI, 10, .inl g0)), (qk3, .inl (cyI, 4221, .inl w0)), (qa, .inr (0, [.int ba, .int le, .int (nI st), .int al, .ref qa1, .ref qa2, .ref qa3])), (qa1, .inl (cyI, 100, .inl r0)), (qa2, .inl (cyZ, 100, .inl o0)), (qa3, .inl (cyZ, 100, .inl u0)), (qm, .inr (5, mo a th (nI n) (nI Lc.1) fm sm ab be (nI st) al)), (a 2, .inl (cyI, 48, .inl tI)), (a 3, .inl (cyZ, 48, .inl hI)), (a 4, .inl (cyI, 240, .inl sI)), (a 6, .inl (cyI, 700, .inl e1)), (a 7, .inl (cyI, 700, .inl e2)), (a 8, .inl (cyI, 700, .inl e3)), (a 9, .inl (cyI, 700, .inl e4)), (a 10, .inl (cyJ, 700, .inr (.inl e5))), (a 11, .inl (cyI, 700, .inl e6)), (a 12, .inl (cyI, 700, .inl e7)), (a 13, .inl (cyI, 11, .inl fA)), (a 14, .inl (cyI, 11, .inl gA)), (a 19, .inl (cyJ, 8421, .inr (.inl wA))), (a 20, .inl (cyJ, 8421, .inr (.inl mA))), (a 21, .inl (cyJ, 441, .inr (.inl cA))), (a 22, .inl (cyJ, 5, .inr (.inl bA))), (a 23, .inl (cyI, 5, .inl oA)), (a 26, .inl (cyZ, 100, .inl uM)), (a 27, .inl (cyZ, 100, .inl oM)), (a 28, .inl (cyI, 100, .inl rM)), (a 29, .inl (cyI, 100, .inl bM)), (qo, .inl (cyJ, 1, .inr (.inl oF)))] H → va_D (fun q => s.heap.size ≤ q) [(qx, .inr (4, [.ref qr, .ref ql, .ref qk, .ref qa])), (qr, .inr (2, [.int (nI n), .long hi, .ref qt, .ref qh])), (qt, .inl (cyI, 48, .inl tI)), (qh, .inl (cyJ, 55, .inr (.inl hv))), (ql, .inr (3, [.int (nI Lc.1), .long (lN hm), .ref ql1, .ref ql2, .ref ql3])), (ql1, .inl (cyJ, 535, .inr (.inl mI))), (ql2, .inl (cyI, 535, .inl fI)), (ql3, .inl (cyI, 535, .inl gI)), (qk, .inr (1, [.int x1, .int x2, .ref qk1, .ref qk2, .ref qk3])), (qk1, .inl (cyI, 10, .inl f0)), (qk2, .inl (cyI, 10, .inl g0)), (qk3, .inl (cyI, 4221, .inl w0)), (qa, .inr (0, [.int ba, .int le, .int (nI st), .int al, .ref qa1, .ref qa2, .ref qa3])), (qa1, .inl (cyI, 100, .inl r0)), (qa2, .inl (cyZ, 100, .inl o0)), (qa3, .inl (cyZ, 100, .inl u0)), (qm, .inr (5, mo a th (nI n) (nI Lc.1) fm sm ab be (nI st) al)), (a 2, .inl (cyI, 48, .inl tI)), (a 3, .inl (cyZ, 48, .inl hI)), (a 4, .inl (cyI, 240, .inl sI)), (a 6, .inl (cyI, 700, .inl e1)), (a 7, .inl (cyI, 700, .inl e2)), (a 8, .inl (cyI, 700, .inl e3)), (a 9, .inl (cyI, 700, .inl e4)), (a 10, .inl (cyJ, 700, .inr (.inl e5))), (a 11, .inl (cyI, 700, .inl e6)), (a 12, .inl (cyI, 700, .inl e7)), (a 13, .inl (cyI, 11, .inl fA)), (a 14, .inl (cyI, 11, .inl gA)), (a 19, .inl (cyJ, 8421, .inr (.inl wA))), (a 20, .inl (cyJ, 8421, .inr (.inl mA))), (a 21, .inl (cyJ, 441, .inr (.inl cA))), (a 22, .inl (cyJ, 5, .inr (.inl bA))), (a 23, .inl (cyI, 5, .inl oA)), (a 26, .inl (cyZ, 100, .inl uM)), (a 27, .inl (cyZ, 100, .inl oM)), (a 28, .inl (cyI, 100, .inl rM)), (a 29, .inl (cyI, 100, .inl bM)), (qo, .inl (cyJ, 1, .inr (.inl oF)))] → va_S (fun q => s.heap.size ≤ q) s.heap H locs → lv_has ls 8 [(4, .int (nI (7 * i))), (3, .ref qo), (2, .ref qm), (1, .ref qx), (0, .ref b)] → W p l e room_1 s m #[Value.ref b] below meth c H locs cells slots Q (F0 m 1211 ls [])
