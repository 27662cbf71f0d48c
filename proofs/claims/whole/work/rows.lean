section
-- ===== PART A: goes FIRST, ahead of the names: the tables' words, and 'selects' of the private methods out of them =====
/-- a private method of a class that the tables say can be made, by its rows of tables_1 -/
def lw_okq (q : MethodName × Nat) : Prop := (q.1.cls ≠ "java/lang/invoke/MethodHandle" ∧ q.1.cls ≠ "java/lang/invoke/VarHandle") ∧ Cond.instantiable q.1.cls q.2 ∈ tables_1 ∧ Cond.privateMethod q.1 ∈ tables_1 ∧ Cond.instanceMethod q.1 ∈ tables_1
theorem lw_p0 : lw_okq (⟨"SliceDrift$SliceList", "insert", "(JII)V"⟩, 5) := ⟨⟨by decide +kernel, by decide +kernel⟩, List.mem_of_getElem? (i := 50) (by decide +kernel), List.mem_of_getElem? (i := 212) (by decide +kernel), List.mem_of_getElem? (i := 213) (by decide +kernel)⟩
theorem lw_p1 : lw_okq (⟨"SliceDrift$SliceList", "placeFor", "(J)I"⟩, 5) := ⟨⟨by decide +kernel, by decide +kernel⟩, List.mem_of_getElem? (i := 50) (by decide +kernel), List.mem_of_getElem? (i := 216) (by decide +kernel), List.mem_of_getElem? (i := 217) (by decide +kernel)⟩
theorem lw_p2 : lw_okq (⟨"SliceDrift$SliceList", "isAhead", "(JJ)Z"⟩, 5) := ⟨⟨by decide +kernel, by decide +kernel⟩, List.mem_of_getElem? (i := 50) (by decide +kernel), List.mem_of_getElem? (i := 220) (by decide +kernel), List.mem_of_getElem? (i := 221) (by decide +kernel)⟩
theorem lw_p3 : lw_okq (⟨"SliceDrift$SliceList", "insertPairs", "(LSliceDrift$Rows;II)V"⟩, 5) := ⟨⟨by decide +kernel, by decide +kernel⟩, List.mem_of_getElem? (i := 50) (by decide +kernel), List.mem_of_getElem? (i := 233) (by decide +kernel), List.mem_of_getElem? (i := 234) (by decide +kernel)⟩
theorem lw_p4 : lw_okq (⟨"SliceDrift$Ranks", "addGroup", "(II)V"⟩, 5) := ⟨⟨by decide +kernel, by decide +kernel⟩, List.mem_of_getElem? (i := 77) (by decide +kernel), List.mem_of_getElem? (i := 319) (by decide +kernel), List.mem_of_getElem? (i := 320) (by decide +kernel)⟩
theorem lw_p5 : lw_okq (⟨"SliceDrift$Ranks", "moveWays", "(III)V"⟩, 5) := ⟨⟨by decide +kernel, by decide +kernel⟩, List.mem_of_getElem? (i := 77) (by decide +kernel), List.mem_of_getElem? (i := 326) (by decide +kernel), List.mem_of_getElem? (i := 327) (by decide +kernel)⟩
theorem lw_p6 : lw_okq (⟨"java/lang/Throwable", "fillInStackTrace", "(I)Ljava/lang/Throwable;"⟩, 6) := ⟨⟨by decide +kernel, by decide +kernel⟩, List.mem_of_getElem? (i := 437) (by decide +kernel), List.mem_of_getElem? (i := 435) (by decide +kernel), List.mem_of_getElem? (i := 436) (by decide +kernel)⟩
theorem lw_p7 : lw_okq (⟨"SliceDriftModel", "rowsOf", "(II)J"⟩, 30) := ⟨⟨by decide +kernel, by decide +kernel⟩, List.mem_of_getElem? (i := 497) (by decide +kernel), List.mem_of_getElem? (i := 620) (by decide +kernel), List.mem_of_getElem? (i := 621) (by decide +kernel)⟩
theorem lw_p8 : lw_okq (⟨"SliceDriftModel", "judge", "(JIIIII)V"⟩, 30) := ⟨⟨by decide +kernel, by decide +kernel⟩, List.mem_of_getElem? (i := 497) (by decide +kernel), List.mem_of_getElem? (i := 624) (by decide +kernel), List.mem_of_getElem? (i := 625) (by decide +kernel)⟩
theorem lw_p9 : lw_okq (⟨"SliceDriftModel", "hitsOf", "(J)I"⟩, 30) := ⟨⟨by decide +kernel, by decide +kernel⟩, List.mem_of_getElem? (i := 497) (by decide +kernel), List.mem_of_getElem? (i := 631) (by decide +kernel), List.mem_of_getElem? (i := 632) (by decide +kernel)⟩
theorem lw_p10 : lw_okq (⟨"SliceDriftModel", "goesBefore", "(IIIIIII)Z"⟩, 30) := ⟨⟨by decide +kernel, by decide +kernel⟩, List.mem_of_getElem? (i := 497) (by decide +kernel), List.mem_of_getElem? (i := 635) (by decide +kernel), List.mem_of_getElem? (i := 636) (by decide +kernel)⟩
theorem lw_p11 : lw_okq (⟨"SliceDriftModel", "isIn", "(III)Z"⟩, 30) := ⟨⟨by decide +kernel, by decide +kernel⟩, List.mem_of_getElem? (i := 497) (by decide +kernel), List.mem_of_getElem? (i := 670) (by decide +kernel), List.mem_of_getElem? (i := 671) (by decide +kernel)⟩
theorem lw_p12 : lw_okq (⟨"SliceDriftModel", "counts", "(IIIII)V"⟩, 30) := ⟨⟨by decide +kernel, by decide +kernel⟩, List.mem_of_getElem? (i := 497) (by decide +kernel), List.mem_of_getElem? (i := 681) (by decide +kernel), List.mem_of_getElem? (i := 682) (by decide +kernel)⟩
theorem lw_p13 : lw_okq (⟨"SliceDriftModel", "drifts", "()Z"⟩, 30) := ⟨⟨by decide +kernel, by decide +kernel⟩, List.mem_of_getElem? (i := 497) (by decide +kernel), List.mem_of_getElem? (i := 685) (by decide +kernel), List.mem_of_getElem? (i := 686) (by decide +kernel)⟩
theorem lw_p14 : lw_okq (⟨"SliceDriftModel", "riseOf", "()I"⟩, 30) := ⟨⟨by decide +kernel, by decide +kernel⟩, List.mem_of_getElem? (i := 497) (by decide +kernel), List.mem_of_getElem? (i := 694) (by decide +kernel), List.mem_of_getElem? (i := 695) (by decide +kernel)⟩
theorem lw_p15 : lw_okq (⟨"SliceDriftModel", "setChoose", "()V"⟩, 30) := ⟨⟨by decide +kernel, by decide +kernel⟩, List.mem_of_getElem? (i := 497) (by decide +kernel), List.mem_of_getElem? (i := 703) (by decide +kernel), List.mem_of_getElem? (i := 704) (by decide +kernel)⟩
def lw_privs_1 : List (MethodName × Nat) := [(⟨"SliceDrift$SliceList", "insert", "(JII)V"⟩, 5), (⟨"SliceDrift$SliceList", "placeFor", "(J)I"⟩, 5), (⟨"SliceDrift$SliceList", "isAhead", "(JJ)Z"⟩, 5), (⟨"SliceDrift$SliceList", "insertPairs", "(LSliceDrift$Rows;II)V"⟩, 5), (⟨"SliceDrift$Ranks", "addGroup", "(II)V"⟩, 5), (⟨"SliceDrift$Ranks", "moveWays", "(III)V"⟩, 5), (⟨"java/lang/Throwable", "fillInStackTrace", "(I)Ljava/lang/Throwable;"⟩, 6), (⟨"SliceDriftModel", "rowsOf", "(II)J"⟩, 30), (⟨"SliceDriftModel", "judge", "(JIIIII)V"⟩, 30), (⟨"SliceDriftModel", "hitsOf", "(J)I"⟩, 30), (⟨"SliceDriftModel", "goesBefore", "(IIIIIII)Z"⟩, 30), (⟨"SliceDriftModel", "isIn", "(III)Z"⟩, 30), (⟨"SliceDriftModel", "counts", "(IIIII)V"⟩, 30), (⟨"SliceDriftModel", "drifts", "()Z"⟩, 30), (⟨"SliceDriftModel", "riseOf", "()I"⟩, 30), (⟨"SliceDriftModel", "setChoose", "()V"⟩, 30)]
theorem lw_r1 : ∀ q ∈ lw_privs_1, lw_okq q := List.forall_mem_cons.mpr ⟨lw_p0, List.forall_mem_cons.mpr ⟨lw_p1, List.forall_mem_cons.mpr ⟨lw_p2, List.forall_mem_cons.mpr ⟨lw_p3, List.forall_mem_cons.mpr ⟨lw_p4, List.forall_mem_cons.mpr ⟨lw_p5, List.forall_mem_cons.mpr ⟨lw_p6, List.forall_mem_cons.mpr ⟨lw_p7, List.forall_mem_cons.mpr ⟨lw_p8, List.forall_mem_cons.mpr ⟨lw_p9, List.forall_mem_cons.mpr ⟨lw_p10, List.forall_mem_cons.mpr ⟨lw_p11, List.forall_mem_cons.mpr ⟨lw_p12, List.forall_mem_cons.mpr ⟨lw_p13, List.forall_mem_cons.mpr ⟨lw_p14, List.forall_mem_cons.mpr ⟨lw_p15, fun _ h => absurd h List.not_mem_nil⟩⟩⟩⟩⟩⟩⟩⟩⟩⟩⟩⟩⟩⟩⟩⟩
def lw_privs : List (MethodName × Nat) := lw_privs_1
def lw_tbl : List Cond := k2_sels lw_privs ++ tables_1
theorem lw_privs_ok : ∀ q ∈ lw_privs, lw_okq q := lw_r1
end
section
/-! ===== BEGIN words of one list among another's, by their places ===== -/
theorem goodIn_r {big : List Cond} (ws : List Cond) (ps : List Nat) (hp : ws = ps.filterMap (fun i => big[i]?)) (h : ws.all goodWord = true) : GoodIn big ws := by
  intro w hw
  have h1 := List.all_eq_true.mp h w hw
  rw [hp] at hw
  obtain ⟨i, -, hi⟩ := List.mem_filterMap.mp hw
  have hm : w ∈ big := by first | exact List.mem_of_getElem? hi | exact List.getElem?_mem hi
  exact ⟨hm, good_of_word h1⟩
theorem goodIn_app {big a b : List Cond} (ha : GoodIn big a) (hb : GoodIn big b) : GoodIn big (a ++ b) := fun w h => (List.mem_append.mp h).elim (ha w) (hb w)
theorem goodIn_ca {big a b : List Cond} {c : Cond} (ha : GoodIn big (c :: a)) (hb : GoodIn big b) : GoodIn big (c :: (a ++ b)) := fun w h => (List.mem_cons.mp h).elim (fun e => ha w (List.mem_cons.mpr (Or.inl e))) (fun h => (List.mem_append.mp h).elim (fun h => ha w (List.mem_cons.mpr (Or.inr h))) (hb w))
theorem goodIn_sub {big ws : List Cond} (hm : ∀ w ∈ ws, w ∈ big) (h : ws.all goodWord = true) : GoodIn big ws := fun w hw => ⟨hm w hw, good_of_word (List.all_eq_true.mp h w hw)⟩
/-! ===== END ===== -/

/-! ===== BEGIN exceptions that leave a method, and their catching by the caller (launches without stack traces) ===== -/
section VXA
/-! The laws vx_back, vx_callV, vx_callS, vx_callSW, vx_throw0, vx_throwS follow proofs of the library, with one case more: JvmDerived/Free/Laws.lean (Back.of_free), Shelf42/LK1.lean (callV, callS), Shelf/KitTraced.lean (throwNew0V, throwNewS). -/
/-- where a method has thrown q: the class by its name, the cell, what was written, the world -/
def vx_T (XC : String → State → State → Prop) (st : State) (q : Addr) (t : State) (mc ms : Nat) (free : Addr → Prop) : Prop :=
  ∃ (E : String) (ce : Cell) (L : List Loc), XC E st t ∧ t.heap[q]? = some ce ∧ ce.vm = .none ∧ st.vm.findClass E = some ce.cls ∧ st.WarmedH t.vm ∧ st.sameButNew ({ t with vm := st.vm } : State) L mc ms ∧ ∀ z ∈ L, free z.base
def vx_Q (Qc : Array Value → State → Outcome → State → Prop) (XC : String → State → State → Prop) (mc ms : Nat) (free : Addr → Prop) : Array Value → State → Outcome → State → Prop := fun a st o t =>
  (Qc a st o t ∧ ∃ L, FrameEnd st o t L mc ms ∧ ∀ q ∈ L, free q.base) ∨ ∃ q, o = .threw q ∧ vx_T XC st q t mc ms free
/-- a callee that returns or throws -/
def vx_Met (l : Launch) (y : MethodName) (ws : List Cond) (rm : Room) (Pc : Array Value → State → Prop) (Qc : Array Value → State → Outcome → State → Prop) (XC : String → State → State → Prop) (mc ms : Nat) (free : Addr → Prop) : Prop :=
  MetFree l y (headSpec ws rm) Pc (fun _ _ _ _ _ => True) (vx_Q Qc XC mc ms free)
def vx_Post (XC : String → State → State → Prop) (mc ms : Nat) (free : Addr → Prop) : Pt → Array Value → Addr → Pt → Prop := fun A a q B =>
  ∃ (g : JFrame) (mk : MethodId) (t : State) (L : List Loc) (E : String) (ce : Cell), B.U.heap = t.heap ∧ B.U.vm = t.vm ∧ XC E (A.U.calling g mk a) t ∧ t.heap[q]? = some ce ∧ ce.vm = .none ∧ A.U.vm.findClass E = some ce.cls ∧ B.locs = A.locs ++ L ∧ (∀ z ∈ L, free z.base) ∧ B.cells = A.cells + mc ∧ B.slots = A.slots + ms
def vx_Back (l : Launch) (R : Room) (p : Program) (e : Env) (below : List Frame) (s : State) (sargs : Array Value) (y : MethodName) (len W9 : Nat)
    (Pre : Pt → Array Value → Prop) (Post : Pt → Array Value → Option Value → Pt → Prop) (PostX : Pt → Array Value → Addr → Pt → Prop) : Prop :=
  ∀ (m : MethodId) (meth : Method) (c : Code) (A : Pt) (g : JFrame) (ig : Instr) (mk : MethodId) (a : Array Value),
    Stand p l e R s m sargs below meth c A.U A.locs A.cells A.slots → g.method = m → g.locals.size = c.maxLocals → decode c.code g.pc = .ok (ig, len) →
    2 * g.monitorRoom + (g.stack.map fun v => v.category).sum ≤ W9 → A.U.methodNamed? y = some mk → Pre A a →
    (∃ (v : Option Value) (B : Pt), Stand p l e R s m sargs below meth c B.U B.locs B.cells B.slots ∧ Post A a v B ∧
      Steps p.tables e below (doInvoke e (A.U.setTop g) [] mk a).1 (B.U.setTop { g with pc := g.pc + len, stack := v.toList ++ g.stack })) ∨
    (∃ (q : Addr) (B : Pt), Stand p l e R s m sargs below meth c B.U B.locs B.cells B.slots ∧ PostX A a q B ∧
      Steps p.tables e below (doInvoke e (A.U.setTop g) [] mk a).1 ((B.U.setTop g).pushFrame (.throwing q)))
section Payer
variable {l : Launch} {R : Room} {p : Program} {e : Env} {below : List Frame} {s : State} {sargs : Array Value} {y : MethodName} {len W9 : Nat}
theorem vx_back {ws : List Cond} {rm : Room} {Pc : Array Value → State → Prop} {Qc : Array Value → State → Outcome → State → Prop} {XC : String → State → State → Prop} {mc ms : Nat} {free : Addr → Prop} {bytes : ByteArray} {maxL : Nat} {ret : Option FieldType}
    (hM : vx_Met l y ws rm Pc Qc XC mc ms free) (hblind : FrameBlind Pc) (hrc : rm.cells = mc) (hrs : rm.slots = ms)
    (hframes : rm.frames + 1 ≤ R.frames) (hlocals : W9 + (maxL + 11) + rm.locals ≤ R.locals)
    (hws : ∀ w ∈ ws, ∀ a' U, s.WarmedH U.vm → w.before a' U = true) (hcode : Cond.code y bytes maxL ret ∈ ws) (hinit : ∀ a' U, s.WarmedH U.vm → (Cond.initialized y.cls).before a' U = true) :
    vx_Back l R p e below s sargs y len W9 (PreOf R mc ms Pc) (PostOf Qc mc ms free) (vx_Post XC mc ms free) := by
  intro m meth c A g ig mk a X hg hsize hdg hW hn hp
  have h1 : (headSpec ws rm).pre.before a A.U = true := atoms_intro fun w hw => hws w hw _ _ X.warmed
  have h2 : (Cond.code y bytes maxL ret).before a A.U = true := hws _ hcode _ _ X.warmed
  have h3 : (Cond.initialized y.cls).before a A.U = true := hinit _ _ X.warmed
  have h4 : A.cells + (headSpec ws rm).room.cells ≤ R.cells := by rw [show (headSpec ws rm).room.cells = mc from hrc]; exact hp.1
  have h5 : A.slots + (headSpec ws rm).room.slots ≤ R.slots := by rw [show (headSpec ws rm).room.slots = ms from hrs]; exact hp.2.1
  have hPc : Pc a (A.U.calling g mk a) := hblind _ _ _ _ hp.2.2
  obtain ⟨U, Ls, c0, s0⟩ := A
  dsimp only [Pt.U, Pt.locs, Pt.cells, Pt.slots] at h1 h2 h3 h4 h5 X hn hPc ⊢
  obtain ⟨methY, cY, hmY, hcY, -, hlY, -, -, -, -⟩ := Cond.code_spec hn h2
  obtain ⟨kY, hkY, -⟩ := className_of_methodNamed hn
  have hinitY : kY.init = .initialized := Cond.initialized_spec (findClass_of_methodNamed hn) hkY h3
  have h : At U g.method c below := by rw [hg]; exact X.here
  have hlocals9 : W9 + (maxL + 11) + (headSpec ws rm).room.locals ≤ R.locals := hlocals
  have happ : (headSpec ws rm).appliesLoose y e.platform (U.calling g mk a) = true :=
    Spec.appliesLoose_calling (g := g) h hdg hn hkY hinitY
      (X.room_calling (g := g) (R' := (headSpec ws rm).room) hsize hmY hcY hframes (by rw [hlY]; omega) h4 h5) h1
  obtain ⟨mid, hmid⟩ := h.above
  have hfr : (U.setTop g).frames = (.java g :: mid) ++ below := by rw [State.frames_setTop' g h.top, hmid]; rfl
  obtain ⟨o, s₂, hsteps, -, hend, hq⟩ := Steps.callFree hM p X.admits X.cas X.clock (acts := []) hfr happ hPc trivial
  have hq' : vx_Q Qc XC mc ms free a (U.calling g mk a) o s₂ := hq
  rw [State.frames_setTop' g h.top] at hend
  obtain ⟨g₀, hg0⟩ := Option.isSome_iff_exists.mp h.top
  obtain ⟨r, hr⟩ := State.topJava?_eq_some.mp hg0
  have hr' : (({ U with heap := s₂.heap, slotsUsed := s₂.slotsUsed } : State).setVm s₂.vm).frames = .java g₀ :: r := hr
  rcases hq' with ⟨hqc, L, hfe, hL⟩ | ⟨q, rfl, E, ce, L, hx, hce, hcv, hcl, hW₂, hsm, hL⟩
  · obtain ⟨⟨v, rfl⟩, hW₂, e2, q2, q3, q4, q5, q6⟩ := id hfe
    have e3 : s₂ = ({ (U.calling g mk a).setFrames s₂.frames with heap := s₂.heap, slotsUsed := s₂.slotsUsed } : State).setVm s₂.vm := by
      have : s₂ = ({ s₂ with vm := (U.calling g mk a).vm } : State).setVm s₂.vm := rfl
      rw [e2] at this
      exact this
    obtain ⟨c₂, i₂, len₂, hc₂, hd₂, hf₂⟩ := hend
    have hW' : U.WarmedH s₂.vm := hW₂
    have hcc : c₂ = c := by
      have h1 : s₂.code? g.method = U.code? g.method := by
        rw [State.code?_eq, State.code?_eq, hW'.alike.method?]
      exact Option.some.inj (hc₂.symm.trans (h1.trans h.code))
    subst hcc
    have hlen : len₂ = len := by rw [hdg] at hd₂; cases hd₂; rfl
    subst hlen
    have hs₂ : s₂ = (({ U with heap := s₂.heap, slotsUsed := s₂.slotsUsed } : State).setVm s₂.vm).setTop { g with pc := g.pc + len₂, stack := v.toList ++ g.stack } := by
      refine e3.trans ?_
      rw [hf₂, State.calling_eq h.top, State.setFrames_setFrames, State.setTop_of_frames _ hr', hr]
      rfl
    have hsame : U.sameButNew ({ U with heap := s₂.heap, slotsUsed := s₂.slotsUsed } : State) L mc ms := by
      refine ⟨?_, q2, q3, q4, q5, q6⟩
      obtain ⟨t, ht, -⟩ := State.frames_cons hr
      show ({ U with heap := s₂.heap, slotsUsed := s₂.slotsUsed } : State) = { U.setFrames U.frames with heap := s₂.heap, slotsUsed := s₂.slotsUsed }
      rw [State.setFrames_self ht]
    subst hg
    refine Or.inl ⟨v, ⟨(({ U with heap := s₂.heap, slotsUsed := s₂.slotsUsed } : State).setVm s₂.vm), Ls ++ L, c0 + mc, s0 + ms⟩,
      ⟨X.admits, X.cas, X.clock, X.frames, X.room, X.hears, X.method, X.code, (X.here.setHeapUsed s₂.heap s₂.slotsUsed).setVm hW'.alike, X.tail, State.WarmedH.trans X.warmed hW', X.limits, X.bytes, X.same.trans (hsame.setVm s.vm)⟩,
      ⟨g, mk, s₂, L, rfl, rfl, hqc, rfl, hL, rfl, rfl⟩, ?_⟩
    show Steps p.tables e below _ ((({ U with heap := s₂.heap, slotsUsed := s₂.slotsUsed } : State).setVm s₂.vm).setTop { g with pc := g.pc + len₂, stack := v.toList ++ g.stack })
    rw [← hs₂]
    exact hsteps
  · obtain ⟨e2, q2, q3, q4, q5, q6⟩ := id hsm
    have e3 : s₂ = ({ (U.calling g mk a).setFrames s₂.frames with heap := s₂.heap, slotsUsed := s₂.slotsUsed } : State).setVm s₂.vm := by
      have : s₂ = ({ s₂ with vm := (U.calling g mk a).vm } : State).setVm s₂.vm := rfl
      rw [e2] at this
      exact this
    have hf₂ : s₂.frames = .throwing q :: .java g :: U.frames.tail := hend
    have hW' : U.WarmedH s₂.vm := hW₂
    have hs₂ : s₂ = ((({ U with heap := s₂.heap, slotsUsed := s₂.slotsUsed } : State).setVm s₂.vm).setTop g).pushFrame (.throwing q) := by
      refine e3.trans ?_
      rw [hf₂, State.calling_eq h.top, State.setFrames_setFrames, State.pushFrame, State.frames_setTop _ hr', State.setTop_of_frames _ hr', State.setFrames_setFrames, hr]
      rfl
    have hsame : U.sameButNew ({ U with heap := s₂.heap, slotsUsed := s₂.slotsUsed } : State) L mc ms := by
      refine ⟨?_, q2, q3, q4, q5, q6⟩
      obtain ⟨t, ht, -⟩ := State.frames_cons hr
      show ({ U with heap := s₂.heap, slotsUsed := s₂.slotsUsed } : State) = { U.setFrames U.frames with heap := s₂.heap, slotsUsed := s₂.slotsUsed }
      rw [State.setFrames_self ht]
    subst hg
    refine Or.inr ⟨q, ⟨(({ U with heap := s₂.heap, slotsUsed := s₂.slotsUsed } : State).setVm s₂.vm), Ls ++ L, c0 + mc, s0 + ms⟩,
      ⟨X.admits, X.cas, X.clock, X.frames, X.room, X.hears, X.method, X.code, (X.here.setHeapUsed s₂.heap s₂.slotsUsed).setVm hW'.alike, X.tail, State.WarmedH.trans X.warmed hW', X.limits, X.bytes, X.same.trans (hsame.setVm s.vm)⟩,
      ⟨g, mk, s₂, L, E, ce, rfl, rfl, hx, hce, hcv, hcl, rfl, hL, rfl, rfl⟩, ?_⟩
    show Steps p.tables e below _ (((({ U with heap := s₂.heap, slotsUsed := s₂.slotsUsed } : State).setVm s₂.vm).setTop g).pushFrame (.throwing q))
    rw [← hs₂]
    exact hsteps
end Payer
section Calls
variable {p : Program} {l : Launch} {e : Env} {R : Room} {s : State} {m : MethodId} {args : Array Value} {below : List Frame} {meth : Method} {c : Code} {T : State} {locs : List Loc} {cells slots : Nat}
theorem vx_callV (X : Stand p l e R s m args below meth c T locs cells slots) (hexec : p.tables.exec = Jvm.exec) {own C : String} {index : Nat} {y : MethodName} {bytes : ByteArray} {maxL : Nat} {ret : Option FieldType}
    (hown : s.vm.findClass own = some m.cls) (hlink : (Cond.methodLink own index y).before args s = true) (hinst : (Cond.instanceMethod y).before args s = true) (hsel : (Cond.selects C y y).before args s = true)
    (hcode : (Cond.code y bytes maxL ret).before args s = true) (hy : y.cls ≠ "java/lang/invoke/MethodHandle" ∧ y.cls ≠ "java/lang/invoke/VarHandle")
    {W9 : Nat} {Pre : Pt → Array Value → Prop} {Post : Pt → Array Value → Option Value → Pt → Prop} {PostX : Pt → Array Value → Addr → Pt → Prop} (hK : vx_Back l R p e below s args y 3 W9 Pre Post PostX)
    {b : Addr} {cellB : Cell} (hcell : T.heap[b]? = some cellB) (hobj : cellB.vm.isStatics = false) (hcls : s.vm.findClass C = some cellB.cls)
    {g : JFrame} (hg : g.method = m) (hsize : g.locals.size = c.maxLocals) {argsL rest : List Value} (hlen : ∀ sig, parseMethodDescriptor y.desc = some sig → argsL.length = sig.parameters.length)
    (hstack : g.stack = argsL.reverse ++ .ref b :: rest) (hW : 2 * g.monitorRoom + (rest.map fun v => v.category).sum ≤ W9) (hdg : decode c.code g.pc = .ok (.invokevirtual index, 3))
    (hpre : ∀ vm₁, s.WarmedH vm₁ → Pre ⟨T.setVm vm₁, locs, cells, slots⟩ (Value.ref b :: argsL).toArray) :
    (∃ (v : Option Value) (vm₁ : Vm) (B : Pt), s.WarmedH vm₁ ∧ Stand p l e R s m args below meth c B.U B.locs B.cells B.slots ∧ Post ⟨T.setVm vm₁, locs, cells, slots⟩ (Value.ref b :: argsL).toArray v B ∧
      ∀ target, Steps p.tables e below (B.U.setTop { g with pc := g.pc + 3, stack := v.toList ++ rest }) target → Steps p.tables e below (T.setTop g) target) ∨
    (∃ (q : Addr) (vm₁ : Vm) (B : Pt), s.WarmedH vm₁ ∧ Stand p l e R s m args below meth c B.U B.locs B.cells B.slots ∧ PostX ⟨T.setVm vm₁, locs, cells, slots⟩ (Value.ref b :: argsL).toArray q B ∧
      Steps p.tables e below (T.setTop g) ((B.U.setTop { g with stack := rest }).pushFrame (.throwing q))) := by
  obtain ⟨mk, methM, hnamed, hmethM, hstM, habM⟩ := Cond.instanceMethod_spec hinst
  obtain ⟨methM', cM, hmethM', -, -, -, -, -, -, hsigM⟩ := Cond.code_spec hnamed hcode
  cases hmethM.symm.trans hmethM'
  obtain ⟨c2, r2, m2, q1, q2, q3, q4, kP, hkP, hkPi⟩ := Cond.selects_spec hsel
  cases hcls.symm.trans q1
  cases (State.methodFound?_of_named hnamed hy).symm.trans q2
  cases hnamed.symm.trans q3
  have hselP : selectMethod e.platform s.vm cellB.cls mk = .method mk := by rw [Launch.admits_selectMethod X.admits]; exact q4
  obtain ⟨vm₁, X₁, hstep₁⟩ := X.invokevirtual hexec hown hlink hnamed hmethM hstM hkP hkPi hy (a := b) (cell := cellB) hcell
    (fun z h => by rw [h] at hobj; cases hobj) hselP hmethM habM hkP hkPi (g := g) hg (argsL := argsL) (rest := rest) (hlen _ hsigM) hstack hdg
  rcases hK m meth c ⟨T.setVm vm₁, locs, cells, slots⟩ { g with stack := rest } (.invokevirtual index) mk (Value.ref b :: argsL).toArray X₁ hg hsize hdg hW (X₁.named hnamed) (hpre vm₁ X₁.warmed) with ⟨v, B, X', hpost, hsteps⟩ | ⟨q, B, X', hpost, hsteps⟩
  · exact Or.inl ⟨v, vm₁, B, X₁.warmed, X', hpost, fun target h => hstep₁ _ fun acts => by rw [doInvoke_state]; exact hsteps.trans h⟩
  · exact Or.inr ⟨q, vm₁, B, X₁.warmed, X', hpost, hstep₁ _ fun acts => by rw [doInvoke_state]; exact hsteps⟩
theorem vx_callS (X : Stand p l e R s m args below meth c T locs cells slots) (hexec : p.tables.exec = Jvm.exec) {own : String} {index : Nat} {y : MethodName} {bytes : ByteArray} {maxL : Nat} {ret : Option FieldType}
    (hown : s.vm.findClass own = some m.cls) (hlink : (Cond.methodLink own index y).before args s = true) (hstat : (Cond.static y).before args s = true) (hinit : (Cond.initialized y.cls).before args s = true)
    (hcode : (Cond.code y bytes maxL ret).before args s = true) (hy : y.cls ≠ "java/lang/invoke/MethodHandle" ∧ y.cls ≠ "java/lang/invoke/VarHandle")
    {W9 : Nat} {Pre : Pt → Array Value → Prop} {Post : Pt → Array Value → Option Value → Pt → Prop} {PostX : Pt → Array Value → Addr → Pt → Prop} (hK : vx_Back l R p e below s args y 3 W9 Pre Post PostX)
    {g : JFrame} (hg : g.method = m) (hsize : g.locals.size = c.maxLocals) {argsL rest : List Value} (hlen : ∀ sig, parseMethodDescriptor y.desc = some sig → argsL.length = sig.parameters.length)
    (hstack : g.stack = argsL.reverse ++ rest) (hW : 2 * g.monitorRoom + (rest.map fun v => v.category).sum ≤ W9) (hdg : decode c.code g.pc = .ok (.invokestatic index, 3))
    (hpre : ∀ vm₁, s.WarmedH vm₁ → Pre ⟨T.setVm vm₁, locs, cells, slots⟩ argsL.toArray) :
    (∃ (v : Option Value) (vm₁ : Vm) (B : Pt), s.WarmedH vm₁ ∧ Stand p l e R s m args below meth c B.U B.locs B.cells B.slots ∧ Post ⟨T.setVm vm₁, locs, cells, slots⟩ argsL.toArray v B ∧
      ∀ target, Steps p.tables e below (B.U.setTop { g with pc := g.pc + 3, stack := v.toList ++ rest }) target → Steps p.tables e below (T.setTop g) target) ∨
    (∃ (q : Addr) (vm₁ : Vm) (B : Pt), s.WarmedH vm₁ ∧ Stand p l e R s m args below meth c B.U B.locs B.cells B.slots ∧ PostX ⟨T.setVm vm₁, locs, cells, slots⟩ argsL.toArray q B ∧
      Steps p.tables e below (T.setTop g) ((B.U.setTop { g with stack := rest }).pushFrame (.throwing q))) := by
  obtain ⟨mk, hnamed⟩ := Cond.code_named hcode
  obtain ⟨methM, cM, hmethM, -, -, -, -, -, -, hsigM⟩ := Cond.code_spec hnamed hcode
  have hstatic : methM.isStatic = true := Cond.static_spec hnamed hmethM hstat
  obtain ⟨kP, hkP, -⟩ := className_of_methodNamed hnamed
  have hinitP : kP.init = .initialized := Cond.initialized_spec (findClass_of_methodNamed hnamed) hkP hinit
  obtain ⟨vm₁, X₁, hstep₁⟩ := X.invokestatic hexec hown hlink hnamed hmethM hstatic hkP hinitP hy (g := g) hg (argsL := argsL) (rest := rest) (hlen _ hsigM) hstack hdg
  rcases hK m meth c ⟨T.setVm vm₁, locs, cells, slots⟩ { g with stack := rest } (.invokestatic index) mk argsL.toArray X₁ hg hsize hdg hW (X₁.named hnamed) (hpre vm₁ X₁.warmed) with ⟨v, B, X', hpost, hsteps⟩ | ⟨q, B, X', hpost, hsteps⟩
  · exact Or.inl ⟨v, vm₁, B, X₁.warmed, X', hpost, fun target h => hstep₁ _ fun acts => by rw [doInvoke_state]; exact hsteps.trans h⟩
  · exact Or.inr ⟨q, vm₁, B, X₁.warmed, X', hpost, hstep₁ _ fun acts => by rw [doInvoke_state]; exact hsteps⟩
end Calls
theorem vx_cls {s : State} {T : State} {vm₁ : Vm} {E : String} {k : ClassId} (hW : s.WarmedH vm₁) (h : (T.setVm vm₁).vm.findClass E = some k) : s.vm.findClass E = some k := by
  have h1 : vm₁.findClass E = some k := h
  rw [hW.alike.findClass] at h1
  exact h1
/-- the method's frame g, with q thrown over it -/
def vx_W (p : Program) (l : Launch) (e : Env) (R : Room) (s : State) (m : MethodId) (args : Array Value) (below : List Frame) (meth : Method) (c : Code) (H : Heap) (locs : List Loc) (cells slots : Nat) (Q : State → Prop) (g : JFrame) (q : Addr) : Prop :=
  ∀ T : State, T.heap = H → Stand p l e R s m args below meth c T locs cells slots → ∃ t, Steps p.tables e below ((T.setTop g).pushFrame (.throwing q)) t ∧ Q t
def vx_Run (p : Program) (l : Launch) (e : Env) (R : Room) (s : State) (m : MethodId) (args : Array Value) (below : List Frame) (meth : Method) (c : Code) (H : Heap) (locs : List Loc) (cells slots mc ms : Nat) (g : JFrame) (rest : List Value) (Qa : State → Outcome → State → Prop) (XC : String → State → State → Prop) (free : Addr → Prop) : Prop :=
  ∀ T : State, T.heap = H → Stand p l e R s m args below meth c T locs cells slots →
    (∃ (v : Option Value) (st₀ t T' : State) (L : List Loc), st₀.heap = H ∧ Stand p l e R s m args below meth c T' (locs ++ L) (cells + mc) (slots + ms) ∧ (∀ q ∈ L, free q.base) ∧ T'.heap = t.heap ∧ T'.vm = t.vm ∧ Qa st₀ (.returned v) t ∧
      Goes p e below T g T' { g with pc := g.pc + 3, stack := v.toList ++ rest }) ∨
    (∃ (q : Addr) (st₀ t T' : State) (L : List Loc) (E : String) (ce : Cell), st₀.heap = H ∧ Stand p l e R s m args below meth c T' (locs ++ L) (cells + mc) (slots + ms) ∧ (∀ z ∈ L, free z.base) ∧ T'.heap = t.heap ∧ T'.vm = t.vm ∧ XC E st₀ t ∧ t.heap[q]? = some ce ∧ ce.vm = .none ∧ s.vm.findClass E = some ce.cls ∧
      Steps p.tables e below (T.setTop g) ((T'.setTop { g with stack := rest }).pushFrame (.throwing q)))
def vx_X {S : Type} (px : S → Prop) (B : String → S → State → Prop) (A : Nat → Prop) : String → State → State → Prop := fun E st t => ∃ u : S, px u ∧ B E u t ∧ va_F A st t
section Runs
variable {p : Program} {l : Launch} {e : Env} {R : Room} {s : State} {m : MethodId} {args : Array Value} {below : List Frame} {meth : Method} {c : Code} {H : Heap} {locs : List Loc} {cells slots : Nat}
variable {y : MethodName} {bytes cc : ByteArray} {maxL nL mc ms n index : Nat} {ret : Option FieldType} {ws : List Cond} {rm : Room} {Pc : Array Value → State → Prop} {Qc : Array Value → State → Outcome → State → Prop} {XC : String → State → State → Prop} {free : Addr → Prop} {Ts : List Cond} {own C : String} {b : Addr} {As rest : List Value} {g : JFrame}
theorem vx_callBack (cb : CallB R s args own index y bytes maxL ret ws rm mc ms n) (hM : vx_Met l y ws rm Pc Qc XC mc ms free) (hbl : FrameBlind Pc) : vx_Back l R p e below s args y 3 8 (PreOf R mc ms Pc) (PostOf Qc mc ms free) (vx_Post XC mc ms free) := by
  obtain ⟨hrc, hrs, hfr, hlo, hws, hcw, -, hini, -⟩ := cb
  exact vx_back (bytes := bytes) (maxL := maxL) (ret := ret) hM hbl hrc hrs hfr hlo hws hcw (fun a' U hW => word_at hW (Or.inl (by first | rfl | simp [Cond.onTables, Cond.keeps, Cond.steady])) hini)
theorem vx_runV (S : CallFix p m c cc nL s args Ts own) (hM : vx_Met l y ws rm Pc Qc XC mc ms free) (cw : CallW R s args own C index y bytes maxL ret ws rm mc ms n) (hp : PreV s H C b Pc As)
    (hg : g.method = m) (hn : As.length = n) (hsize : g.locals.size = nL) (hstack : g.stack = As.reverse ++ .ref b :: rest) (hW : 2 * g.monitorRoom + (rest.map fun v => v.category).sum ≤ 8) (hdg : decode cc g.pc = .ok (.invokevirtual index, 3)) (hf : cells + mc ≤ R.cells ∧ slots + ms ≤ R.slots) :
    vx_Run p l e R s m args below meth c H locs cells slots mc ms g rest (Qc (Value.ref b :: As).toArray) XC free := by
  have hK : vx_Back l R p e below s args y 3 8 (PreOf R mc ms Pc) (PostOf Qc mc ms free) (vx_Post XC mc ms free) := vx_callBack cw.1 hM hp.1
  obtain ⟨⟨-, -, -, -, -, -, hcode, -, hy, hlen, hl⟩, hin, hse⟩ := cw
  obtain ⟨hx, hb, hml, ho, -⟩ := S
  obtain ⟨-, ⟨cellB, hcB, hoB, hclB⟩, hPc⟩ := hp
  intro T hT X
  rcases vx_callV X hx (C := C) (bytes := bytes) (maxL := maxL) (ret := ret) ho hl hin hse hcode hy hK (by rw [hT]; exact hcB) hoB hclB hg (hsize.trans hml.symm) (argsL := As) (rest := rest) (fun sig h => hn.trans (hlen sig h)) hstack hW (by rw [hb]; exact hdg)
    (fun vm₁ hW₁ => ⟨hf.1, hf.2, hPc (T.setVm vm₁) hT hW₁⟩) with ⟨v, vm₁, ⟨U', l2, c2, s2⟩, hW₁, X', ⟨g', mk, t, L, e1, e2, hq, h1, hL, h2, h3⟩, st⟩ | ⟨q, vm₁, ⟨U', l2, c2, s2⟩, hW₁, X', ⟨g', mk, t, L, E, ce, e1, e2, hq, hce, hcv, hcl, h1, hL, h2, h3⟩, st⟩
  · dsimp only [Pt.U, Pt.locs, Pt.cells, Pt.slots] at X' e1 e2 h1 h2 h3 st
    subst h1; subst h2; subst h3
    exact Or.inl ⟨v, (T.setVm vm₁).calling g' mk (Value.ref b :: As).toArray, t, U', L, hT, X', hL, e1, e2, hq, st⟩
  · dsimp only [Pt.U, Pt.locs, Pt.cells, Pt.slots] at X' e1 e2 h1 h2 h3 st hcl
    subst h1; subst h2; subst h3
    exact Or.inr ⟨q, (T.setVm vm₁).calling g' mk (Value.ref b :: As).toArray, t, U', L, E, ce, hT, X', hL, e1, e2, hq, hce, hcv, vx_cls hW₁ hcl, st⟩
theorem vx_runS (S : CallFix p m c cc nL s args Ts own) (hM : vx_Met l y ws rm Pc Qc XC mc ms free) (cw : CallB R s args own index y bytes maxL ret ws rm mc ms n ∧ (Cond.static y).before args s = true) (hp : PreS s H Pc As)
    (hg : g.method = m) (hn : As.length = n) (hsize : g.locals.size = nL) (hstack : g.stack = As.reverse ++ rest) (hW : 2 * g.monitorRoom + (rest.map fun v => v.category).sum ≤ 8) (hdg : decode cc g.pc = .ok (.invokestatic index, 3)) (hf : cells + mc ≤ R.cells ∧ slots + ms ≤ R.slots) :
    vx_Run p l e R s m args below meth c H locs cells slots mc ms g rest (Qc As.toArray) XC free := by
  have hK : vx_Back l R p e below s args y 3 8 (PreOf R mc ms Pc) (PostOf Qc mc ms free) (vx_Post XC mc ms free) := vx_callBack cw.1 hM hp.1
  obtain ⟨⟨-, -, -, -, -, -, hcode, hini, hy, hlen, hl⟩, hstt⟩ := cw
  obtain ⟨hx, hb, hml, ho, -⟩ := S
  intro T hT X
  rcases vx_callS X hx (bytes := bytes) (maxL := maxL) (ret := ret) ho hl hstt hini hcode hy hK hg (hsize.trans hml.symm) (argsL := As) (rest := rest) (fun sig h => hn.trans (hlen sig h)) hstack hW (by rw [hb]; exact hdg)
    (fun vm₁ hW₁ => ⟨hf.1, hf.2, hp.2 (T.setVm vm₁) hT hW₁⟩) with ⟨v, vm₁, ⟨U', l2, c2, s2⟩, hW₁, X', ⟨g', mk, t, L, e1, e2, hq, h1, hL, h2, h3⟩, st⟩ | ⟨q, vm₁, ⟨U', l2, c2, s2⟩, hW₁, X', ⟨g', mk, t, L, E, ce, e1, e2, hq, hce, hcv, hcl, h1, hL, h2, h3⟩, st⟩
  · dsimp only [Pt.U, Pt.locs, Pt.cells, Pt.slots] at X' e1 e2 h1 h2 h3 st
    subst h1; subst h2; subst h3
    exact Or.inl ⟨v, (T.setVm vm₁).calling g' mk As.toArray, t, U', L, hT, X', hL, e1, e2, hq, st⟩
  · dsimp only [Pt.U, Pt.locs, Pt.cells, Pt.slots] at X' e1 e2 h1 h2 h3 st hcl
    subst h1; subst h2; subst h3
    exact Or.inr ⟨q, (T.setVm vm₁).calling g' mk As.toArray, t, U', L, E, ce, hT, X', hL, e1, e2, hq, hce, hcv, vx_cls hW₁ hcl, st⟩
end Runs
section Rows
variable {p : Program} {l : Launch} {e : Env} {R : Room} {s : State} {m : MethodId} {args : Array Value} {below : List Frame} {meth : Method} {c : Code} {H : Heap} {locs : List Loc} {cells slots : Nat} {Q : State → Prop}
variable {mc ms : Nat} {free : Addr → Prop} {A0 A1 : Nat → Prop} {H0 : Heap} {a : Array Value} {pc : Nat} {ls : Array Slot} {st0 rest : List Value}
theorem vx_keep {st₀ t T' : State} {L : List Loc} (h0 : st₀.heap = H) (e1 : T'.heap = t.heap) (hS : va_S A0 H0 H locs) (hA : ∀ q, q < H.size → A1 q → A0 q) (hf : ∀ q, free q → A0 q) (hL : ∀ q ∈ L, free q.base) (hF : va_F A1 st₀ t) :
    H.size ≤ T'.heap.size ∧ (∀ q : Nat, q < H.size → ¬ A1 q → T'.heap[q]? = H[q]?) ∧ va_S A0 H0 T'.heap (locs ++ L) := by
  obtain ⟨hz, hk⟩ := hF
  rw [h0] at hz hk
  exact ⟨by rw [e1]; exact hz, fun q h1 h2 => by rw [e1]; exact hk q h1 h2,
    ⟨Nat.le_trans hS.1 (by rw [e1]; exact hz), fun q h1 h2 => by rw [e1, hk q (Nat.lt_of_lt_of_le h1 hS.1) (fun z => h2 (hA q (Nat.lt_of_lt_of_le h1 hS.1) z))]; exact hS.2.1 q h1 h2, fun q hq => by
      rcases List.mem_append.mp hq with h | h
      · exact hS.2.2 q h
      · exact hf _ (hL q h)⟩⟩
theorem vx_calli {S SX : Type} {post : Int32 → S → Prop} {px : SX → Prop} {B : S → State → Prop} {BX : String → SX → State → Prop} {AX : Nat → Prop} (hr : vx_Run p l e R s m args below meth c H locs cells slots mc ms (F0 m pc ls st0) rest (va_Qi post B A1 a) (vx_X px BX AX) free) (hS : va_S A0 H0 H locs) (hA : ∀ q, q < H.size → A1 q → A0 q) (hf : ∀ q, free q → A0 q) (hAX : ∀ q, q < H.size → AX q → A0 q)
    (kx : ∀ (E : String) (ce : Cell) (q9 : Addr) (u : SX) (t : State) (H1 : Heap) (locs1 : List Loc), t.heap = H1 → s.vm.Alike t.vm → px u → BX E u t → H.size ≤ H1.size → (∀ q : Nat, q < H.size → ¬ AX q → H1[q]? = H[q]?) → va_S A0 H0 H1 locs1 → H1[q9]? = some ce → ce.vm = .none → s.vm.findClass E = some ce.cls → vx_W p l e R s m args below meth c H1 locs1 (cells + mc) (slots + ms) Q (F0 m pc ls rest) q9)
    (kk : ∀ (r : Int32) (u : S) (t : State) (H1 : Heap) (locs1 : List Loc), t.heap = H1 → s.vm.Alike t.vm → post r u → B u t → H.size ≤ H1.size → (∀ q : Nat, q < H.size → ¬ A1 q → H1[q]? = H[q]?) → va_S A0 H0 H1 locs1 → W p l e R s m args below meth c H1 locs1 (cells + mc) (slots + ms) Q (F0 m (pc + 3) ls (.int r :: rest))) : W p l e R s m args below meth c H locs cells slots Q (F0 m pc ls st0) := by
  intro T hT X
  rcases hr T hT X with ⟨v, st₀, t, T', L, h0, X', hL, e1, e2, ⟨⟨r, u, hv, hp, hb⟩, hF⟩, st⟩ | ⟨q, st₀, t, T', L, E, ce, h0, X', hL, e1, e2, ⟨u, hp, hb, hF⟩, hce, hcv, hcl, st⟩
  · cases hv
    obtain ⟨k1, k2, k3⟩ := vx_keep h0 e1 hS hA hf hL hF
    obtain ⟨t2, a1, b1⟩ := kk r u t T'.heap (locs ++ L) e1.symm (by rw [← e2]; exact X'.warmed.alike) hp hb k1 k2 k3 T' rfl X'
    exact ⟨t2, st t2 a1, b1⟩
  · obtain ⟨k1, k2, k3⟩ := vx_keep h0 e1 hS hAX hf hL hF
    obtain ⟨t2, a1, b1⟩ := kx E ce q u t T'.heap (locs ++ L) e1.symm (by rw [← e2]; exact X'.warmed.alike) hp hb k1 k2 k3 (by rw [e1]; exact hce) hcv hcl T' rfl X'
    exact ⟨t2, st.trans a1, b1⟩
theorem vx_calll {S SX : Type} {post : Int64 → S → Prop} {px : SX → Prop} {B : S → State → Prop} {BX : String → SX → State → Prop} {AX : Nat → Prop} (hr : vx_Run p l e R s m args below meth c H locs cells slots mc ms (F0 m pc ls st0) rest (va_Ql post B A1 a) (vx_X px BX AX) free) (hS : va_S A0 H0 H locs) (hA : ∀ q, q < H.size → A1 q → A0 q) (hf : ∀ q, free q → A0 q) (hAX : ∀ q, q < H.size → AX q → A0 q)
    (kx : ∀ (E : String) (ce : Cell) (q9 : Addr) (u : SX) (t : State) (H1 : Heap) (locs1 : List Loc), t.heap = H1 → s.vm.Alike t.vm → px u → BX E u t → H.size ≤ H1.size → (∀ q : Nat, q < H.size → ¬ AX q → H1[q]? = H[q]?) → va_S A0 H0 H1 locs1 → H1[q9]? = some ce → ce.vm = .none → s.vm.findClass E = some ce.cls → vx_W p l e R s m args below meth c H1 locs1 (cells + mc) (slots + ms) Q (F0 m pc ls rest) q9)
    (kk : ∀ (r : Int64) (u : S) (t : State) (H1 : Heap) (locs1 : List Loc), t.heap = H1 → s.vm.Alike t.vm → post r u → B u t → H.size ≤ H1.size → (∀ q : Nat, q < H.size → ¬ A1 q → H1[q]? = H[q]?) → va_S A0 H0 H1 locs1 → W p l e R s m args below meth c H1 locs1 (cells + mc) (slots + ms) Q (F0 m (pc + 3) ls (.long r :: rest))) : W p l e R s m args below meth c H locs cells slots Q (F0 m pc ls st0) := by
  intro T hT X
  rcases hr T hT X with ⟨v, st₀, t, T', L, h0, X', hL, e1, e2, ⟨⟨r, u, hv, hp, hb⟩, hF⟩, st⟩ | ⟨q, st₀, t, T', L, E, ce, h0, X', hL, e1, e2, ⟨u, hp, hb, hF⟩, hce, hcv, hcl, st⟩
  · cases hv
    obtain ⟨k1, k2, k3⟩ := vx_keep h0 e1 hS hA hf hL hF
    obtain ⟨t2, a1, b1⟩ := kk r u t T'.heap (locs ++ L) e1.symm (by rw [← e2]; exact X'.warmed.alike) hp hb k1 k2 k3 T' rfl X'
    exact ⟨t2, st t2 a1, b1⟩
  · obtain ⟨k1, k2, k3⟩ := vx_keep h0 e1 hS hAX hf hL hF
    obtain ⟨t2, a1, b1⟩ := kx E ce q u t T'.heap (locs ++ L) e1.symm (by rw [← e2]; exact X'.warmed.alike) hp hb k1 k2 k3 (by rw [e1]; exact hce) hcv hcl T' rfl X'
    exact ⟨t2, st.trans a1, b1⟩
theorem vx_callf {S SX : Type} {post : UInt32 → S → Prop} {px : SX → Prop} {B : S → State → Prop} {BX : String → SX → State → Prop} {AX : Nat → Prop} (hr : vx_Run p l e R s m args below meth c H locs cells slots mc ms (F0 m pc ls st0) rest (va_Qf post B A1 a) (vx_X px BX AX) free) (hS : va_S A0 H0 H locs) (hA : ∀ q, q < H.size → A1 q → A0 q) (hf : ∀ q, free q → A0 q) (hAX : ∀ q, q < H.size → AX q → A0 q)
    (kx : ∀ (E : String) (ce : Cell) (q9 : Addr) (u : SX) (t : State) (H1 : Heap) (locs1 : List Loc), t.heap = H1 → s.vm.Alike t.vm → px u → BX E u t → H.size ≤ H1.size → (∀ q : Nat, q < H.size → ¬ AX q → H1[q]? = H[q]?) → va_S A0 H0 H1 locs1 → H1[q9]? = some ce → ce.vm = .none → s.vm.findClass E = some ce.cls → vx_W p l e R s m args below meth c H1 locs1 (cells + mc) (slots + ms) Q (F0 m pc ls rest) q9)
    (kk : ∀ (r : UInt32) (u : S) (t : State) (H1 : Heap) (locs1 : List Loc), t.heap = H1 → s.vm.Alike t.vm → post r u → B u t → H.size ≤ H1.size → (∀ q : Nat, q < H.size → ¬ A1 q → H1[q]? = H[q]?) → va_S A0 H0 H1 locs1 → W p l e R s m args below meth c H1 locs1 (cells + mc) (slots + ms) Q (F0 m (pc + 3) ls (.float r :: rest))) : W p l e R s m args below meth c H locs cells slots Q (F0 m pc ls st0) := by
  intro T hT X
  rcases hr T hT X with ⟨v, st₀, t, T', L, h0, X', hL, e1, e2, ⟨⟨r, u, hv, hp, hb⟩, hF⟩, st⟩ | ⟨q, st₀, t, T', L, E, ce, h0, X', hL, e1, e2, ⟨u, hp, hb, hF⟩, hce, hcv, hcl, st⟩
  · cases hv
    obtain ⟨k1, k2, k3⟩ := vx_keep h0 e1 hS hA hf hL hF
    obtain ⟨t2, a1, b1⟩ := kk r u t T'.heap (locs ++ L) e1.symm (by rw [← e2]; exact X'.warmed.alike) hp hb k1 k2 k3 T' rfl X'
    exact ⟨t2, st t2 a1, b1⟩
  · obtain ⟨k1, k2, k3⟩ := vx_keep h0 e1 hS hAX hf hL hF
    obtain ⟨t2, a1, b1⟩ := kx E ce q u t T'.heap (locs ++ L) e1.symm (by rw [← e2]; exact X'.warmed.alike) hp hb k1 k2 k3 (by rw [e1]; exact hce) hcv hcl T' rfl X'
    exact ⟨t2, st.trans a1, b1⟩
theorem vx_calld {S SX : Type} {post : UInt64 → S → Prop} {px : SX → Prop} {B : S → State → Prop} {BX : String → SX → State → Prop} {AX : Nat → Prop} (hr : vx_Run p l e R s m args below meth c H locs cells slots mc ms (F0 m pc ls st0) rest (va_Qd post B A1 a) (vx_X px BX AX) free) (hS : va_S A0 H0 H locs) (hA : ∀ q, q < H.size → A1 q → A0 q) (hf : ∀ q, free q → A0 q) (hAX : ∀ q, q < H.size → AX q → A0 q)
    (kx : ∀ (E : String) (ce : Cell) (q9 : Addr) (u : SX) (t : State) (H1 : Heap) (locs1 : List Loc), t.heap = H1 → s.vm.Alike t.vm → px u → BX E u t → H.size ≤ H1.size → (∀ q : Nat, q < H.size → ¬ AX q → H1[q]? = H[q]?) → va_S A0 H0 H1 locs1 → H1[q9]? = some ce → ce.vm = .none → s.vm.findClass E = some ce.cls → vx_W p l e R s m args below meth c H1 locs1 (cells + mc) (slots + ms) Q (F0 m pc ls rest) q9)
    (kk : ∀ (r : UInt64) (u : S) (t : State) (H1 : Heap) (locs1 : List Loc), t.heap = H1 → s.vm.Alike t.vm → post r u → B u t → H.size ≤ H1.size → (∀ q : Nat, q < H.size → ¬ A1 q → H1[q]? = H[q]?) → va_S A0 H0 H1 locs1 → W p l e R s m args below meth c H1 locs1 (cells + mc) (slots + ms) Q (F0 m (pc + 3) ls (.double r :: rest))) : W p l e R s m args below meth c H locs cells slots Q (F0 m pc ls st0) := by
  intro T hT X
  rcases hr T hT X with ⟨v, st₀, t, T', L, h0, X', hL, e1, e2, ⟨⟨r, u, hv, hp, hb⟩, hF⟩, st⟩ | ⟨q, st₀, t, T', L, E, ce, h0, X', hL, e1, e2, ⟨u, hp, hb, hF⟩, hce, hcv, hcl, st⟩
  · cases hv
    obtain ⟨k1, k2, k3⟩ := vx_keep h0 e1 hS hA hf hL hF
    obtain ⟨t2, a1, b1⟩ := kk r u t T'.heap (locs ++ L) e1.symm (by rw [← e2]; exact X'.warmed.alike) hp hb k1 k2 k3 T' rfl X'
    exact ⟨t2, st t2 a1, b1⟩
  · obtain ⟨k1, k2, k3⟩ := vx_keep h0 e1 hS hAX hf hL hF
    obtain ⟨t2, a1, b1⟩ := kx E ce q u t T'.heap (locs ++ L) e1.symm (by rw [← e2]; exact X'.warmed.alike) hp hb k1 k2 k3 (by rw [e1]; exact hce) hcv hcl T' rfl X'
    exact ⟨t2, st.trans a1, b1⟩
theorem vx_callv {S SX : Type} {post : S → Prop} {px : SX → Prop} {B : S → State → Prop} {BX : String → SX → State → Prop} {AX : Nat → Prop} (hr : vx_Run p l e R s m args below meth c H locs cells slots mc ms (F0 m pc ls st0) rest (va_Qv post B A1 a) (vx_X px BX AX) free) (hS : va_S A0 H0 H locs) (hA : ∀ q, q < H.size → A1 q → A0 q) (hf : ∀ q, free q → A0 q) (hAX : ∀ q, q < H.size → AX q → A0 q)
    (kx : ∀ (E : String) (ce : Cell) (q9 : Addr) (u : SX) (t : State) (H1 : Heap) (locs1 : List Loc), t.heap = H1 → s.vm.Alike t.vm → px u → BX E u t → H.size ≤ H1.size → (∀ q : Nat, q < H.size → ¬ AX q → H1[q]? = H[q]?) → va_S A0 H0 H1 locs1 → H1[q9]? = some ce → ce.vm = .none → s.vm.findClass E = some ce.cls → vx_W p l e R s m args below meth c H1 locs1 (cells + mc) (slots + ms) Q (F0 m pc ls rest) q9)
    (kk : ∀ (u : S) (t : State) (H1 : Heap) (locs1 : List Loc), t.heap = H1 → s.vm.Alike t.vm → post u → B u t → H.size ≤ H1.size → (∀ q : Nat, q < H.size → ¬ A1 q → H1[q]? = H[q]?) → va_S A0 H0 H1 locs1 → W p l e R s m args below meth c H1 locs1 (cells + mc) (slots + ms) Q (F0 m (pc + 3) ls (rest))) : W p l e R s m args below meth c H locs cells slots Q (F0 m pc ls st0) := by
  intro T hT X
  rcases hr T hT X with ⟨v, st₀, t, T', L, h0, X', hL, e1, e2, ⟨⟨u, hv, hp, hb⟩, hF⟩, st⟩ | ⟨q, st₀, t, T', L, E, ce, h0, X', hL, e1, e2, ⟨u, hp, hb, hF⟩, hce, hcv, hcl, st⟩
  · cases hv
    obtain ⟨k1, k2, k3⟩ := vx_keep h0 e1 hS hA hf hL hF
    obtain ⟨t2, a1, b1⟩ := kk u t T'.heap (locs ++ L) e1.symm (by rw [← e2]; exact X'.warmed.alike) hp hb k1 k2 k3 T' rfl X'
    exact ⟨t2, st t2 a1, b1⟩
  · obtain ⟨k1, k2, k3⟩ := vx_keep h0 e1 hS hAX hf hL hF
    obtain ⟨t2, a1, b1⟩ := kx E ce q u t T'.heap (locs ++ L) e1.symm (by rw [← e2]; exact X'.warmed.alike) hp hb k1 k2 k3 (by rw [e1]; exact hce) hcv hcl T' rfl X'
    exact ⟨t2, st.trans a1, b1⟩
end Rows
section Ends
variable {p : Program} {l : Launch} {e : Env} {R : Room} {s : State} {m : MethodId} {args : Array Value} {below : List Frame} {meth : Method} {c : Code} {H : Heap} {locs : List Loc} {cells slots : Nat} {Q : State → Prop}
variable {mc ms : Nat} {free : Addr → Prop} {A0 A1 : Nat → Prop} {H0 : Heap} {a : Array Value} {ls : Array Slot} {st0 rest : List Value}
variable {Qc : Array Value → State → Outcome → State → Prop} {XC : String → State → State → Prop}
/-- what a body that may throw owes at its end -/
def vx_MQ (below : List Frame) (Qc : Array Value → State → Outcome → State → Prop) (XC : String → State → State → Prop) (a : Array Value) (s : State) (mc ms : Nat) (free : Addr → Prop) : State → Prop := fun t =>
  ∃ o, t.status = .running ∧ Ended t below o ∧ vx_Q Qc XC mc ms free a s o t
theorem vx_ret {g : JFrame} {mc ms : Nat} (k : W p l e R s m args below meth c H locs cells slots (MQ below Qc args s mc ms free) g) : W p l e R s m args below meth c H locs cells slots (vx_MQ below Qc XC args s mc ms free) g := by
  intro T hT X
  obtain ⟨t, a1, o, b1, b2, b3, b4⟩ := k T hT X
  exact ⟨t, a1, o, b1, b2, Or.inl ⟨b3, b4⟩⟩
/-- not caught here: it goes on to the caller -/
theorem vx_widen {g : JFrame} {q : Addr} {k n : Nat} (h1 : cells ≤ k) (h2 : slots ≤ n) (kk : vx_W p l e R s m args below meth c H locs k n Q g q) : vx_W p l e R s m args below meth c H locs cells slots Q g q := fun T hT X => kk T hT (stand_widen X h1 h2)
theorem vx_out {pc : Nat} {E : String} {ce : Cell} {q : Addr} {mc ms : Nat} (hout : ∀ x ∈ c.exceptionTable.toList, covers x pc = false) (hlocks : meth.locks = false) (hcell : H[q]? = some ce) (hv : ce.vm = .none) (hcl : s.vm.findClass E = some ce.cls)
    (hx : ∀ t : State, t.heap = H → s.vm.Alike t.vm → XC E s t) (hf : ∀ z ∈ locs, free z.base) (hc : cells ≤ mc) (hs : slots ≤ ms) :
    vx_W p l e R s m args below meth c H locs cells slots (vx_MQ below Qc XC args s mc ms free) (F0 m pc ls rest) q := by
  intro T hT X
  obtain ⟨st1, hrun, hend, hW, hsm⟩ := X.leaveThrown q (g := F0 m pc ls rest) rfl rfl rfl hout hlocks
  have hcell9 : (T.setFrames (.throwing q :: below)).heap[q]? = some ce := by
    show T.heap[q]? = some ce
    rw [hT]; exact hcell
  exact ⟨_, st1, .threw q, hrun, hend, Or.inr ⟨q, rfl, E, ce, locs, hx _ hT hW.alike, hcell9, hv, hcl, hW, hsm.mono hc hs, hf⟩⟩
theorem vx_frame {U : State} {k n : Nat} (h : s.sameButNew ({ U with vm := s.vm } : State) locs k n) : s.heap.size ≤ U.heap.size ∧ ∀ q : Nat, q < s.heap.size → (∀ z ∈ locs, z.base ≠ q) → U.heap[q]? = s.heap[q]? := by
  obtain ⟨-, h2, -, -, -, h6⟩ := h
  refine ⟨h2, fun q hq hz => ?_⟩
  obtain ⟨c9, e1, e2, e3, e4⟩ := h6 q _ (Array.getElem?_eq_getElem hq)
  have hs : c9.slots = (s.heap[q]).slots := Array.ext_getElem? fun i => e4 i fun hm => hz _ hm rfl
  have h9 : c9 = s.heap[q] := by
    rw [hs] at e2
    exact e2
  have e5 : U.heap[q]? = some c9 := e1
  rw [e5, h9, Array.getElem?_eq_getElem hq]
/-- the words of a throw but the four that speak of the heap -/
def vx_no (w : Cond) : Bool := decide (w ≠ .isRef (.static Bundle.tN "UNASSIGNED_STACK" Bundle.steD)) && decide (w ≠ .isRef (.static Bundle.tN "SUPPRESSED_SENTINEL" Bundle.listD)) && decide (w ≠ .laysStatic Bundle.tN "UNASSIGNED_STACK" Bundle.steD) && decide (w ≠ .laysStatic Bundle.tN "SUPPRESSED_SENTINEL" Bundle.listD)
def vx_at0 (own : String) (ic : Nat) (X : String) (names : List String) : List Cond := (Bundle.ownAtoms0 own ic X names).filter vx_no
def vx_atS (own : String) (ic : Nat) (X : String) (names : List String) : List Cond := (Bundle.ownAtoms own ic X names).filter vx_no
/-- a word that the tables alone decide, or a good one -/
def vx_ot (w : Cond) : Bool := w.onTables || goodWord w
theorem vx_ot_at {args a' : Array Value} {s U : State} {w : Cond} (hW : s.WarmedH U.vm) (hvm : s.vm = U.vm) (hg : vx_ot w = true) (h : w.before args s = true) : w.before a' U = true := by
  simp only [vx_ot, Bool.or_eq_true] at hg
  rcases hg with hg | hg
  · exact va_tabs hg hvm h
  · exact word_at hW (good_of_word hg) h
/-- a list's words: the good ones out of the method's own list, the others by premises of their own -/
theorem vx_hat {args : Array Value} {s : State} {L B : List Cond} (h1 : ∀ w ∈ L.filter goodWord, w.before args s = true) (h2 : ∀ w ∈ L.filter (fun w => !goodWord w), w ∈ B) (h3 : ∀ w ∈ B, w.before args s = true) : ∀ w ∈ L, w.before args s = true := by
  intro w hw
  by_cases g : goodWord w = true
  · exact h1 w (List.mem_filter.mpr ⟨hw, g⟩)
  · refine h3 w (h2 w (List.mem_filter.mpr ⟨hw, ?_⟩))
    show (!goodWord w) = true
    cases hgw : goodWord w
    · rfl
    · exact absurd hgw g
theorem vx_c {args : Array Value} {s : State} {w : Cond} {B : List Cond} (h : w.before args s = true) (t : ∀ w ∈ B, w.before args s = true) : ∀ w' ∈ w :: B, w'.before args s = true := fun w' h' => (List.mem_cons.mp h').elim (fun e => by rw [e]; exact h) (t w')
theorem vx_n {args : Array Value} {s : State} : ∀ w ∈ ([] : List Cond), w.before args s = true := fun _ h => nomatch h
theorem vx_own {args : Array Value} {s : State} {L : List Cond} (h1 : ∀ w ∈ L.filter vx_no, w.before args s = true)
    (hU : (Cond.isRef (.static Bundle.tN "UNASSIGNED_STACK" Bundle.steD)).before args s = true) (hN : (Cond.isRef (.static Bundle.tN "SUPPRESSED_SENTINEL" Bundle.listD)).before args s = true)
    (lU : (Cond.laysStatic Bundle.tN "UNASSIGNED_STACK" Bundle.steD).before args s = true) (lN : (Cond.laysStatic Bundle.tN "SUPPRESSED_SENTINEL" Bundle.listD).before args s = true) : ∀ w ∈ L, w.before args s = true := by
  intro w hw
  by_cases e1 : w = .isRef (.static Bundle.tN "UNASSIGNED_STACK" Bundle.steD)
  · rw [e1]; exact hU
  · by_cases e2 : w = .isRef (.static Bundle.tN "SUPPRESSED_SENTINEL" Bundle.listD)
    · rw [e2]; exact hN
    · by_cases e3 : w = .laysStatic Bundle.tN "UNASSIGNED_STACK" Bundle.steD
      · rw [e3]; exact lU
      · by_cases e4 : w = .laysStatic Bundle.tN "SUPPRESSED_SENTINEL" Bundle.listD
        · rw [e4]; exact lN
        · exact h1 w (List.mem_filter.mpr ⟨hw, by unfold vx_no; rw [decide_eq_true e1, decide_eq_true e2, decide_eq_true e3, decide_eq_true e4]; rfl⟩)
/-- where a static field lies, its class's statics cell in H -/
def vx_L (C n d : String) (A : Nat → Prop) (U : State) (H : Heap) : Prop := ∃ (c : ClassId) (k : Class) (i : Nat) (f : Field) (a : Nat) (cell : Cell), U.vm.findClass C = some c ∧ U.fieldFound? C n d = some (c, k, i, f) ∧ f.isStatic = true ∧ k.statics = some a ∧ H[a]? = some cell ∧ cell.vm.isStatics = true ∧ cell.cls = c ∧ f.slot < cell.slots.size ∧ k.staticTypes[f.slot]? = some f.type ∧ ¬ A a
theorem vx_L.moved {C n d : String} {A : Nat → Prop} {u U : State} {H : Heap} (hvm : u.vm.Alike U.vm) (h : vx_L C n d A u H) : vx_L C n d A U H := by
  obtain ⟨c, k, i, f, a, cell, h1, h2, h3, h4, h5, h6, h7, h8, h9, h10⟩ := h
  obtain ⟨k', hi', he⟩ := State.fieldFound?_setVm hvm h2
  exact ⟨c, k', i, f, a, cell, by rw [hvm.findClass]; exact h1, hi', h3, by rw [he]; exact h4, h5, h6, h7, h8, by rw [he]; exact h9, h10⟩
theorem vx_L.kept {C n d : String} {A : Nat → Prop} {U : State} {H H1 : Heap} (h : vx_L C n d A U H) (hq : ∀ a : Nat, a < H.size → ¬ A a → H1[a]? = H[a]?) : vx_L C n d A U H1 := by
  obtain ⟨c, k, i, f, a, cell, h1, h2, h3, h4, h5, h6, h7, h8, h9, h10⟩ := h
  exact ⟨c, k, i, f, a, cell, h1, h2, h3, h4, by rw [hq a (Array.getElem?_eq_some_iff.mp h5).1 h10]; exact h5, h6, h7, h8, h9, h10⟩
theorem vx_L.narrow {C n d : String} {A B : Nat → Prop} {U : State} {H : Heap} (h : vx_L C n d A U H) (hAB : ∀ q, B q → A q) : vx_L C n d B U H := by
  obtain ⟨c, k, i, f, a, cell, h1, h2, h3, h4, h5, h6, h7, h8, h9, h10⟩ := h
  exact ⟨c, k, i, f, a, cell, h1, h2, h3, h4, h5, h6, h7, h8, h9, fun z => h10 (hAB _ z)⟩
theorem vx_L.word {C n d : String} {A : Nat → Prop} {s : State} {args : Array Value} (h : vx_L C n d A s s.heap) : (Cond.laysStatic C n d).before args s = true := by
  obtain ⟨c, k, i, f, a, cell, h1, h2, h3, h4, h5, h6, h7, h8, h9, -⟩ := h
  show (Cond.laysStatic C n d).holds args s none s [] = true
  exact Cond.laysStatic_of h1 h2 h3 h4 h5 h6 h7 h8 h9
/-- .. and what it holds: null or some reference -/
def vx_Zq (C n d : String) (A : Nat → Prop) (U : State) (H : Heap) : Prop := va_Zq C n d A U H ∧ vx_L C n d A U H
theorem vx_Zq.moved {C n d : String} {A : Nat → Prop} {u U : State} {H : Heap} (hvm : u.vm.Alike U.vm) (h : vx_Zq C n d A u H) : vx_Zq C n d A U H := ⟨va_Zq.moved hvm h.1, vx_L.moved hvm h.2⟩
theorem vx_Zq.kept {C n d : String} {A : Nat → Prop} {U : State} {H H1 : Heap} (h : vx_Zq C n d A U H) (hq : ∀ a : Nat, a < H.size → ¬ A a → H1[a]? = H[a]?) : vx_Zq C n d A U H1 := ⟨va_Zq.kept h.1 hq, vx_L.kept h.2 hq⟩
theorem vx_Zq.narrow {C n d : String} {A B : Nat → Prop} {U : State} {H : Heap} (h : vx_Zq C n d A U H) (hAB : ∀ q, B q → A q) : vx_Zq C n d B U H := ⟨va_Zq.narrow h.1 hAB, vx_L.narrow h.2 hAB⟩
theorem vx_Zqof {args : Array Value} {s : State} {C n d : String} {A : Nat → Prop} (hl : (Cond.laysStatic C n d).before args s = true) (hini : (Cond.initialized C).before args s = true) (h : (Cond.isRef (.static C n d)).before args s = true) (hA : ∀ a : Nat, a < s.heap.size → ¬ A a) : vx_Zq C n d A s s.heap := by
  refine ⟨va_Zqof hl hini h hA, ?_⟩
  obtain ⟨c, k, i, f, a, cell, h1, h2, h3, h4, h5, h6, h7, h8, h9⟩ := Cond.laysStatic_spec hl
  exact ⟨c, k, i, f, a, cell, h1, h2, h3, h4, h5, h6, h7, h8, h9, hA a (Array.getElem?_eq_some_iff.mp h5).1⟩
theorem vx_isRef {C n d : String} {v : Value} {A : Nat → Prop} {s : State} {args : Array Value} (h : va_Z C n d v A s s.heap) (hv : v.isRef = true) : (Cond.isRef (.static C n d)).before args s = true := by
  obtain ⟨cf, kf, fi, f, a, cell, h1, h2, h3, h4, h5, h6, h7, -⟩ := h
  have he : (Term.static C n d).eval args s none [] s = some v := by
    simp [Term.eval, State.fieldNamed?, h1, h2, h4, h5, h6, h7]
  simp only [Cond.before, Cond.holds, Cond.value, he]
  cases v <;> simp_all [Value.isRef]
theorem vx_isRefq {C n d : String} {A : Nat → Prop} {s : State} {args : Array Value} (h : va_Zq C n d A s s.heap) : (Cond.isRef (.static C n d)).before args s = true := by
  rcases h with h | ⟨t, h⟩
  · exact vx_isRef h rfl
  · exact vx_isRef h rfl
/-- the same frame, seen from here: as if the method were called anew in this heap -/
theorem vx_rebase {T : State} (X : Stand p l e R s m args below meth c T locs cells slots) {R' : Room} (hf : R'.frames ≤ R.frames) (hl : R'.locals ≤ R.locals) (hc : cells + R'.cells ≤ R.cells) (hs : slots + R'.slots ≤ R.slots) :
    Stand p l e R' ((T.setVm s.vm).setFrames (.invoking m args :: below)) m args below meth c T [] 0 0 := by
  have htop : (T.setVm s.vm).topJava?.isSome := X.here.top
  have hF : ((T.setVm s.vm).setFrames (.invoking m args :: below)).frames = .invoking m args :: below := State.frames_setFrames _ (State.cur_lt_of_top htop)
  obtain ⟨g₀, hg0⟩ := Option.isSome_iff_exists.mp htop
  obtain ⟨r, hr⟩ := State.topJava?_eq_some.mp hg0
  have hl9 : e.platform.stackLimits (T.setVm s.vm).me = e.platform.stackLimits s.me := X.limits
  have hb9 : (T.setVm s.vm).me.stackBytes = s.me.stackBytes := X.bytes
  refine ⟨X.admits, X.cas, X.clock, hF, ?_, X.hears, X.method, X.code, X.here, X.tail, X.warmed, ?_, ?_, ?_⟩
  · have h := X.room
    have hU : ((T.setVm s.vm).setFrames (.invoking m args :: below)).localsInUse = s.localsInUse := by
      rw [State.localsInUse_invoking hF (meth := meth) (c := c) X.method X.code, State.localsInUse_invoking X.frames X.method X.code]
    simp only [State.hasRoom, Bool.and_eq_true, decide_eq_true_eq] at h ⊢
    obtain ⟨⟨⟨⟨h1, h2, h3, h4, h5, h6⟩, h7⟩, h8⟩, h9⟩ := h
    rw [X.frames, List.length_cons] at h2 h3
    have q1 := X.heapSize
    have q2 := X.used
    simp only [hF, hU, List.length_cons, State.stackLimits_setFrames, State.stackBytes_setFrames, hl9, hb9]
    refine ⟨⟨⟨⟨by omega, by omega, by omega, by omega, by omega, h6⟩, ?_⟩, ?_⟩, X.book⟩
    · show T.heap.size + R'.cells ≤ e.platform.maxCells
      omega
    · show T.slotsUsed + R'.slots ≤ e.platform.maxSlots
      omega
  · rw [State.stackLimits_setFrames]; rfl
  · rw [State.stackBytes_setFrames]; rfl
  · refine ⟨?_, Nat.le_refl _, Nat.le_refl _, ?_, ?_, fun a c9 h9 => ⟨c9, h9, rfl, rfl, fun _ _ => rfl⟩⟩
    · obtain ⟨t, ht, -⟩ := State.frames_cons hr
      show T.setVm s.vm = { ((T.setVm s.vm).setFrames (.invoking m args :: below)).setFrames (T.setVm s.vm).frames with heap := T.heap, slotsUsed := T.slotsUsed }
      rw [State.setFrames_setFrames, State.setFrames_self ht]
      rfl
    · show T.slotsUsed = T.slotsUsed + ((T.heap.toList.drop T.heap.size).map (·.slots.size)).sum
      rw [List.drop_eq_nil_of_le (Nat.le_of_eq Array.length_toList)]
      rfl
    · show ((T.heap.toList.drop T.heap.size).map (·.slots.size)).sum ≤ 0
      rw [List.drop_eq_nil_of_le (Nat.le_of_eq Array.length_toList)]
      exact Nat.le_refl _
/-- 'throw new E()': new; dup; invokespecial; athrow -/
theorem vx_throw0 {cc : ByteArray} {pc : Nat} (hexec : p.tables.exec = Jvm.exec) (hb : c.code = cc) (hl : l.stackTraces = false) {own cls : String} {names : List String} {ik ic mc ms : Nat} {A : Nat → Prop}
    (hown : s.vm.findClass own = some m.cls) (hcls : Bundle.fit cls = true) (hnames : ∀ n ∈ names, Bundle.fit n = true)
    (hk : (Cond.classLink own ik cls).before args s = true) (hini : (Cond.initialized cls).before args s = true) (hat : ∀ w ∈ vx_at0 own ic cls names, w.before args s = true)
    (hgood : ∀ w ∈ Cond.classLink own ik cls :: Cond.initialized cls :: vx_at0 own ic cls names, vx_ot w = true)
    (hU : vx_Zq Bundle.tN "UNASSIGNED_STACK" Bundle.steD A s s.heap) (hN : vx_Zq Bundle.tN "SUPPRESSED_SENTINEL" Bundle.listD A s s.heap) (hS : va_S A s.heap H locs) (hsize : ls.size = c.maxLocals)
    (d0 : decode cc pc = .ok (.new ik, 3)) (d3 : decode cc (pc + 3) = .ok (.dup, 1)) (d4 : decode cc (pc + 4) = .ok (.invokespecial ic, 3)) (d7 : decode cc (pc + 7) = .ok (.athrow, 1))
    (hout : ∀ x ∈ c.exceptionTable.toList, covers x (pc + 7) = false)
    (hRframes : names.length + 3 < R.frames) (hRlocals : (rest.map fun v => v.category).sum + (13 * (names.length + 1) + 42) ≤ R.locals) (hRcells : cells + 1 ≤ R.cells) (hRslots : slots + 6 ≤ R.slots) (hlocks : meth.locks = false)
    (hx : ∀ t : State, s.vm.Alike t.vm → H.size ≤ t.heap.size → (∀ q : Nat, q < H.size → t.heap[q]? = H[q]?) → XC cls s t)
    (hf : ∀ z ∈ locs, free z.base) (hc : cells + 1 ≤ mc) (hs : slots + 6 ≤ ms) :
    W p l e R s m args below meth c H locs cells slots (vx_MQ below Qc XC args s mc ms free) (F0 m pc ls rest) := by
  intro T hT X
  have htr : e.platform.stackTraces = false := (show e.platform.stackTraces = l.stackTraces by rw [X.admits.platform]).trans hl
  have Y := vx_rebase X (R' := { frames := R.frames, locals := R.locals, cells := 1, slots := 6 }) (Nat.le_refl _) (Nat.le_refl _) hRcells hRslots
  obtain ⟨s', hA⟩ : ∃ z, z = (T.setVm s.vm).setFrames (.invoking m args :: below) := ⟨_, rfl⟩
  rw [← hA] at Y
  have hvm : s'.vm = s.vm := by rw [hA]; rfl
  have hhp : s'.heap = H := by rw [hA]; exact hT
  have hW0 : s.WarmedH s'.vm := by rw [hvm]; exact State.WarmedH.refl s
  have hat' : ∀ w ∈ vx_at0 own ic cls names, w.before args s' = true := fun w hw => vx_ot_at hW0 hvm.symm (hgood w (List.mem_cons_of_mem _ (List.mem_cons_of_mem _ hw))) (hat w hw)
  have hk' : (Cond.classLink own ik cls).before args s' = true := vx_ot_at hW0 hvm.symm (hgood _ List.mem_cons_self) hk
  have hini' : (Cond.initialized cls).before args s' = true := vx_ot_at hW0 hvm.symm (hgood _ (List.mem_cons_of_mem _ List.mem_cons_self)) hini
  have hU' : vx_Zq Bundle.tN "UNASSIGNED_STACK" Bundle.steD A s' s'.heap := by rw [hhp]; exact vx_Zq.moved hW0.alike (hU.kept hS.2.1)
  have hN' : vx_Zq Bundle.tN "SUPPRESSED_SENTINEL" Bundle.listD A s' s'.heap := by rw [hhp]; exact vx_Zq.moved hW0.alike (hN.kept hS.2.1)
  have h : ∀ w ∈ Bundle.ownAtoms0 own ic cls names, w.before args s' = true := vx_own hat' (vx_isRefq hU'.1) (vx_isRefq hN'.1) hU'.2.word hN'.2.word
  have hown' : s'.vm.findClass own = some m.cls := by rw [hvm]; exact hown
  have hins : (Cond.instantiable cls 6).before args s' = true := h _ (by simp [Bundle.ownAtoms0])
  obtain ⟨vm₁, cX, kX, hfX, hkX, -, -, X₁, st1⟩ := Y.newCold hexec (own := own) (C := cls) (index := ik) (n := 6) hown' hk' hins hini'
    (g := F0 m pc ls rest) rfl (by rw [hb]; exact d0) (Nat.le_refl _) (Nat.le_refl _)
  generalize hT1 : (T.setVm vm₁).pushCell { cls := cX, slots := kX.instanceTypes.map defaultValue, vm := .none } = T1 at X₁ st1
  have hcat : (Value.ref T.heap.size).category = 1 := rfl
  have hcellA : T1.heap[T.heap.size]? = some (freshCell cX kX) := by rw [← hT1]; exact State.heap_pushCell_size _ _
  have d3' : decode c.code (pc + 3) = .ok (.dup, 1) := by rw [hb]; exact d3
  obtain ⟨U, hsteps, hrun, hend, hW, hsame, ce, hce, hO⟩ := X₁.ctorThrow0 hexec htr (own := own) (cls := cls) (names := names) (ic := ic) hown' hcls hnames h (fun x hx => nomatch hx) hfX hkX hcellA (by rw [hhp, hT]; exact Nat.le_refl _)
    (g := { method := m, pc := pc + 4, locals := ls, stack := .ref T.heap.size :: .ref T.heap.size :: rest, locked := none }) rfl hsize rfl rfl (rest := rest) rfl
    (by rw [hb]; exact d4) (by rw [hb]; exact d7) hout hRframes (by simp only [List.map_cons, List.sum_cons, hcat]; omega) hlocks
  obtain ⟨f1, f2⟩ := vx_frame hsame
  rw [hhp] at f1 f2
  have hWs : s.WarmedH U.vm := State.WarmedH.trans hW0 hW
  have hcl : s.vm.findClass cls = some ce.cls := by
    have h9 := hO.cls
    rw [hvm] at h9
    exact h9
  have hall : s.sameButNew ({ U with vm := s.vm } : State) locs mc ms := by
    subst hA
    obtain ⟨e1, e2⟩ := hsame
    rw [State.setFrames_setFrames] at e1
    have h2 : (T.setVm s.vm).sameButNew ({ U with vm := s.vm } : State) [] (0 + 1) (0 + 6) := ⟨e1, e2⟩
    have h3 := X.same.trans h2
    rw [List.append_nil] at h3
    exact h3.mono hc hs
  refine ⟨U, ?_, .threw T.heap.size, hrun, hend, Or.inr ⟨T.heap.size, rfl, cls, ce, locs, hx U hWs.alike f1 (fun q hq => f2 q hq (fun z hz => nomatch hz)), hce, hO.vm, hcl, hWs, hall, hf⟩⟩
  refine st1 _ ?_
  show Steps p.tables e below (T1.setTop { method := m, pc := pc + 3, locals := ls, stack := .ref T.heap.size :: rest, locked := none }) _
  jvm_step X₁.here [X₁.here.top, hexec, d3', Value.category]
  exact hsteps
/-- 'throw new E("text")': new; dup; ldc; invokespecial; athrow -/
theorem vx_throwS {cc : ByteArray} {pc : Nat} (hexec : p.tables.exec = Jvm.exec) (hb : c.code = cc) (hl : l.stackTraces = false) {own cls text : String} {names : List String} {ik is ic mc ms sa : Nat} {A : Nat → Prop}
    (hown : s.vm.findClass own = some m.cls) (hcls : Bundle.fit cls = true) (hnames : ∀ n ∈ names, Bundle.fit n = true)
    (hk : (Cond.classLink own ik cls).before args s = true) (hini : (Cond.initialized cls).before args s = true) (hstr : vk_R own is text sa s) (hat : ∀ w ∈ vx_atS own ic cls names, w.before args s = true)
    (hgood : ∀ w ∈ Cond.classLink own ik cls :: Cond.initialized cls :: vx_atS own ic cls names, vx_ot w = true)
    (hU : vx_Zq Bundle.tN "UNASSIGNED_STACK" Bundle.steD A s s.heap) (hN : vx_Zq Bundle.tN "SUPPRESSED_SENTINEL" Bundle.listD A s s.heap) (hS : va_S A s.heap H locs) (hsize : ls.size = c.maxLocals)
    (d0 : decode cc pc = .ok (.new ik, 3)) (d3 : decode cc (pc + 3) = .ok (.dup, 1)) (d4 : decode cc (pc + 4) = .ok (.ldc is, 2)) (d6 : decode cc (pc + 6) = .ok (.invokespecial ic, 3)) (d9 : decode cc (pc + 9) = .ok (.athrow, 1))
    (hout : ∀ x ∈ c.exceptionTable.toList, covers x (pc + 9) = false)
    (hRframes : names.length + 3 < R.frames) (hRlocals : (rest.map fun v => v.category).sum + (13 * (names.length + 1) + 43) ≤ R.locals) (hRcells : cells + 1 ≤ R.cells) (hRslots : slots + 6 ≤ R.slots) (hlocks : meth.locks = false)
    (hx : ∀ t : State, s.vm.Alike t.vm → H.size ≤ t.heap.size → (∀ q : Nat, q < H.size → t.heap[q]? = H[q]?) → XC cls s t)
    (hf : ∀ z ∈ locs, free z.base) (hc : cells + 1 ≤ mc) (hs : slots + 6 ≤ ms) :
    W p l e R s m args below meth c H locs cells slots (vx_MQ below Qc XC args s mc ms free) (F0 m pc ls rest) := by
  intro T hT X
  have htr : e.platform.stackTraces = false := (show e.platform.stackTraces = l.stackTraces by rw [X.admits.platform]).trans hl
  have Y := vx_rebase X (R' := { frames := R.frames, locals := R.locals, cells := 1, slots := 6 }) (Nat.le_refl _) (Nat.le_refl _) hRcells hRslots
  obtain ⟨s', hA⟩ : ∃ z, z = (T.setVm s.vm).setFrames (.invoking m args :: below) := ⟨_, rfl⟩
  rw [← hA] at Y
  have hvm : s'.vm = s.vm := by rw [hA]; rfl
  have hhp : s'.heap = H := by rw [hA]; exact hT
  have hW0 : s.WarmedH s'.vm := by rw [hvm]; exact State.WarmedH.refl s
  have hat' : ∀ w ∈ vx_atS own ic cls names, w.before args s' = true := fun w hw => vx_ot_at hW0 hvm.symm (hgood w (List.mem_cons_of_mem _ (List.mem_cons_of_mem _ hw))) (hat w hw)
  have hk' : (Cond.classLink own ik cls).before args s' = true := vx_ot_at hW0 hvm.symm (hgood _ List.mem_cons_self) hk
  have hini' : (Cond.initialized cls).before args s' = true := vx_ot_at hW0 hvm.symm (hgood _ (List.mem_cons_of_mem _ List.mem_cons_self)) hini
  have hU' : vx_Zq Bundle.tN "UNASSIGNED_STACK" Bundle.steD A s' s'.heap := by rw [hhp]; exact vx_Zq.moved hW0.alike (hU.kept hS.2.1)
  have hN' : vx_Zq Bundle.tN "SUPPRESSED_SENTINEL" Bundle.listD A s' s'.heap := by rw [hhp]; exact vx_Zq.moved hW0.alike (hN.kept hS.2.1)
  have h : ∀ w ∈ Bundle.ownAtoms own ic cls names, w.before args s' = true := vx_own hat' (vx_isRefq hU'.1) (vx_isRefq hN'.1) hU'.2.word hN'.2.word
  have hown' : s'.vm.findClass own = some m.cls := by rw [hvm]; exact hown
  have hins : (Cond.instantiable cls 6).before args s' = true := h _ (by simp [Bundle.ownAtoms])
  obtain ⟨vm₁, cX, kX, hfX, hkX, -, -, X₁, st1⟩ := Y.newCold hexec (own := own) (C := cls) (index := ik) (n := 6) hown' hk' hins hini'
    (g := F0 m pc ls rest) rfl (by rw [hb]; exact d0) (Nat.le_refl _) (Nat.le_refl _)
  generalize hT1 : (T.setVm vm₁).pushCell { cls := cX, slots := kX.instanceTypes.map defaultValue, vm := .none } = T1 at X₁ st1
  have hcat : (Value.ref T.heap.size).category = 1 := rfl
  have hcellA : T1.heap[T.heap.size]? = some (freshCell cX kX) := by rw [← hT1]; exact State.heap_pushCell_size _ _
  have d3' : decode c.code (pc + 3) = .ok (.dup, 1) := by rw [hb]; exact d3
  have d4' : decode c.code (pc + 4) = .ok (.ldc is, 2) := by rw [hb]; exact d4
  have hstr' : vk_R own is text sa s' := vk_R.warm hW0 hstr
  obtain ⟨U, hsteps, hrun, hend, hW, hsame, ce, hce, hO⟩ := X₁.ctorThrowS hexec htr (own := own) (cls := cls) (names := names) (ic := ic) hown' hcls hnames h (fun x hx => nomatch hx) hfX hkX hcellA (by rw [hhp, hT]; exact Nat.le_refl _) (msg := .ref sa) rfl
    (g := { method := m, pc := pc + 6, locals := ls, stack := .ref sa :: .ref T.heap.size :: .ref T.heap.size :: rest, locked := none }) rfl hsize rfl rfl (rest := rest) rfl
    (by rw [hb]; exact d6) (by rw [hb]; exact d9) hout hRframes (by simp only [List.map_cons, List.sum_cons, hcat]; omega) hlocks
  obtain ⟨f1, f2⟩ := vx_frame hsame
  rw [hhp] at f1 f2
  have hWs : s.WarmedH U.vm := State.WarmedH.trans hW0 hW
  have hcl : s.vm.findClass cls = some ce.cls := by
    have h9 := hO.cls
    rw [hvm] at h9
    exact h9
  have hall : s.sameButNew ({ U with vm := s.vm } : State) locs mc ms := by
    subst hA
    obtain ⟨e1, e2⟩ := hsame
    rw [State.setFrames_setFrames] at e1
    have h2 : (T.setVm s.vm).sameButNew ({ U with vm := s.vm } : State) [] (0 + 1) (0 + 6) := ⟨e1, e2⟩
    have h3 := X.same.trans h2
    rw [List.append_nil] at h3
    exact h3.mono hc hs
  refine ⟨U, ?_, .threw T.heap.size, hrun, hend, Or.inr ⟨T.heap.size, rfl, cls, ce, locs, hx U hWs.alike f1 (fun q hq => f2 q hq (fun z hz => nomatch hz)), hce, hO.vm, hcl, hWs, hall, hf⟩⟩
  refine st1 _ ?_
  show Steps p.tables e below (T1.setTop { method := m, pc := pc + 3, locals := ls, stack := .ref T.heap.size :: rest, locked := none }) _
  jvm_step X₁.here [X₁.here.top, hexec, d3', Value.category]
  exact X₁.ldcString hexec (own := own) (text := text) (index := is) (a := sa) hown' hstr'.1 hstr'.2
    (g := { method := m, pc := pc + 4, locals := ls, stack := .ref T.heap.size :: .ref T.heap.size :: rest, locked := none }) rfl d4' _ hsteps
/-- 'throw new E("text")', the text by a wide index -/
theorem vx_throwSW {cc : ByteArray} {pc : Nat} (hexec : p.tables.exec = Jvm.exec) (hb : c.code = cc) (hl : l.stackTraces = false) {own cls text : String} {names : List String} {ik is ic mc ms sa : Nat} {A : Nat → Prop}
    (hown : s.vm.findClass own = some m.cls) (hcls : Bundle.fit cls = true) (hnames : ∀ n ∈ names, Bundle.fit n = true)
    (hk : (Cond.classLink own ik cls).before args s = true) (hini : (Cond.initialized cls).before args s = true) (hstr : vk_R own is text sa s) (hat : ∀ w ∈ vx_atS own ic cls names, w.before args s = true)
    (hgood : ∀ w ∈ Cond.classLink own ik cls :: Cond.initialized cls :: vx_atS own ic cls names, vx_ot w = true)
    (hU : vx_Zq Bundle.tN "UNASSIGNED_STACK" Bundle.steD A s s.heap) (hN : vx_Zq Bundle.tN "SUPPRESSED_SENTINEL" Bundle.listD A s s.heap) (hS : va_S A s.heap H locs) (hsize : ls.size = c.maxLocals)
    (d0 : decode cc pc = .ok (.new ik, 3)) (d3 : decode cc (pc + 3) = .ok (.dup, 1)) (d4 : decode cc (pc + 4) = .ok (.ldc_w is, 3)) (d7 : decode cc (pc + 7) = .ok (.invokespecial ic, 3)) (d10 : decode cc (pc + 10) = .ok (.athrow, 1))
    (hout : ∀ x ∈ c.exceptionTable.toList, covers x (pc + 10) = false)
    (hRframes : names.length + 3 < R.frames) (hRlocals : (rest.map fun v => v.category).sum + (13 * (names.length + 1) + 43) ≤ R.locals) (hRcells : cells + 1 ≤ R.cells) (hRslots : slots + 6 ≤ R.slots) (hlocks : meth.locks = false)
    (hx : ∀ t : State, s.vm.Alike t.vm → H.size ≤ t.heap.size → (∀ q : Nat, q < H.size → t.heap[q]? = H[q]?) → XC cls s t)
    (hf : ∀ z ∈ locs, free z.base) (hc : cells + 1 ≤ mc) (hs : slots + 6 ≤ ms) :
    W p l e R s m args below meth c H locs cells slots (vx_MQ below Qc XC args s mc ms free) (F0 m pc ls rest) := by
  intro T hT X
  have htr : e.platform.stackTraces = false := (show e.platform.stackTraces = l.stackTraces by rw [X.admits.platform]).trans hl
  have Y := vx_rebase X (R' := { frames := R.frames, locals := R.locals, cells := 1, slots := 6 }) (Nat.le_refl _) (Nat.le_refl _) hRcells hRslots
  obtain ⟨s', hA⟩ : ∃ z, z = (T.setVm s.vm).setFrames (.invoking m args :: below) := ⟨_, rfl⟩
  rw [← hA] at Y
  have hvm : s'.vm = s.vm := by rw [hA]; rfl
  have hhp : s'.heap = H := by rw [hA]; exact hT
  have hW0 : s.WarmedH s'.vm := by rw [hvm]; exact State.WarmedH.refl s
  have hat' : ∀ w ∈ vx_atS own ic cls names, w.before args s' = true := fun w hw => vx_ot_at hW0 hvm.symm (hgood w (List.mem_cons_of_mem _ (List.mem_cons_of_mem _ hw))) (hat w hw)
  have hk' : (Cond.classLink own ik cls).before args s' = true := vx_ot_at hW0 hvm.symm (hgood _ List.mem_cons_self) hk
  have hini' : (Cond.initialized cls).before args s' = true := vx_ot_at hW0 hvm.symm (hgood _ (List.mem_cons_of_mem _ List.mem_cons_self)) hini
  have hU' : vx_Zq Bundle.tN "UNASSIGNED_STACK" Bundle.steD A s' s'.heap := by rw [hhp]; exact vx_Zq.moved hW0.alike (hU.kept hS.2.1)
  have hN' : vx_Zq Bundle.tN "SUPPRESSED_SENTINEL" Bundle.listD A s' s'.heap := by rw [hhp]; exact vx_Zq.moved hW0.alike (hN.kept hS.2.1)
  have h : ∀ w ∈ Bundle.ownAtoms own ic cls names, w.before args s' = true := vx_own hat' (vx_isRefq hU'.1) (vx_isRefq hN'.1) hU'.2.word hN'.2.word
  have hown' : s'.vm.findClass own = some m.cls := by rw [hvm]; exact hown
  have hins : (Cond.instantiable cls 6).before args s' = true := h _ (by simp [Bundle.ownAtoms])
  obtain ⟨vm₁, cX, kX, hfX, hkX, -, -, X₁, st1⟩ := Y.newCold hexec (own := own) (C := cls) (index := ik) (n := 6) hown' hk' hins hini'
    (g := F0 m pc ls rest) rfl (by rw [hb]; exact d0) (Nat.le_refl _) (Nat.le_refl _)
  generalize hT1 : (T.setVm vm₁).pushCell { cls := cX, slots := kX.instanceTypes.map defaultValue, vm := .none } = T1 at X₁ st1
  have hcat : (Value.ref T.heap.size).category = 1 := rfl
  have hcellA : T1.heap[T.heap.size]? = some (freshCell cX kX) := by rw [← hT1]; exact State.heap_pushCell_size _ _
  have d3' : decode c.code (pc + 3) = .ok (.dup, 1) := by rw [hb]; exact d3
  have d4' : decode c.code (pc + 4) = .ok (.ldc_w is, 3) := by rw [hb]; exact d4
  have hstr' : vk_R own is text sa s' := vk_R.warm hW0 hstr
  obtain ⟨U, hsteps, hrun, hend, hW, hsame, ce, hce, hO⟩ := X₁.ctorThrowS hexec htr (own := own) (cls := cls) (names := names) (ic := ic) hown' hcls hnames h (fun x hx => nomatch hx) hfX hkX hcellA (by rw [hhp, hT]; exact Nat.le_refl _) (msg := .ref sa) rfl
    (g := { method := m, pc := pc + 7, locals := ls, stack := .ref sa :: .ref T.heap.size :: .ref T.heap.size :: rest, locked := none }) rfl hsize rfl rfl (rest := rest) rfl
    (by rw [hb]; exact d7) (by rw [hb]; exact d10) hout hRframes (by simp only [List.map_cons, List.sum_cons, hcat]; omega) hlocks
  obtain ⟨f1, f2⟩ := vx_frame hsame
  rw [hhp] at f1 f2
  have hWs : s.WarmedH U.vm := State.WarmedH.trans hW0 hW
  have hcl : s.vm.findClass cls = some ce.cls := by
    have h9 := hO.cls
    rw [hvm] at h9
    exact h9
  have hall : s.sameButNew ({ U with vm := s.vm } : State) locs mc ms := by
    subst hA
    obtain ⟨e1, e2⟩ := hsame
    rw [State.setFrames_setFrames] at e1
    have h2 : (T.setVm s.vm).sameButNew ({ U with vm := s.vm } : State) [] (0 + 1) (0 + 6) := ⟨e1, e2⟩
    have h3 := X.same.trans h2
    rw [List.append_nil] at h3
    exact h3.mono hc hs
  refine ⟨U, ?_, .threw T.heap.size, hrun, hend, Or.inr ⟨T.heap.size, rfl, cls, ce, locs, hx U hWs.alike f1 (fun q hq => f2 q hq (fun z hz => nomatch hz)), hce, hO.vm, hcl, hWs, hall, hf⟩⟩
  refine st1 _ ?_
  show Steps p.tables e below (T1.setTop { method := m, pc := pc + 3, locals := ls, stack := .ref T.heap.size :: rest, locked := none }) _
  jvm_step X₁.here [X₁.here.top, hexec, d3', Value.category]
  exact X₁.ldcStringW hexec (own := own) (text := text) (index := is) (a := sa) hown' hstr'.1 hstr'.2
    (g := { method := m, pc := pc + 4, locals := ls, stack := .ref T.heap.size :: .ref T.heap.size :: rest, locked := none }) rfl d4' _ hsteps
end Ends
section Bodies
variable {l : Launch}
theorem vx_ofW {y : MethodName} {ws ws' : List Cond} {rm : Room} {Pc : Array Value → State → Prop} {Qc : Array Value → State → Outcome → State → Prop} {XC : String → State → State → Prop} {mc ms : Nat} {free : Addr → Prop} {cc : ByteArray} {maxL : Nat} {ret : Option FieldType}
    (hy : plainName y.cls = true) (hw : ws = Cond.code y cc maxL ret :: ws')
    (body : ∀ p e s m args below meth c s₁, BodyLoose p l y (headSpec ws rm) cc maxL ret e s m args below meth c s₁ → c.maxLocals = maxL → (∀ x ∈ c.exceptionTable.toList, False) → Pc args s →
      W p l e (headSpec ws rm).room s m args below meth c s.heap [] 0 0 (vx_MQ below Qc XC args s mc ms free) (entryFrame m args maxL)) : vx_Met l y ws rm Pc Qc XC mc ms free := by
  refine MetFree.of_bodyS (code := cc) (maxLocals := maxL) (ret := ret) hy ?_ ?_
  · intro args s m h hn
    obtain ⟨meth, c, h1, h2, h3, h4, h5, h6, -, -⟩ := Cond.code_spec hn (atoms_spec (ws := ws) h _ (by rw [hw]; exact List.mem_cons_self))
    exact ⟨meth, c, h1, h2, h3, h4, h5, h6⟩
  · intro p e s m args below meth c s₁ B hml hP _
    have hh0 : s₁.heap = s.heap := by rw [B.state]; rfl
    have ht : ∀ x ∈ c.exceptionTable.toList, False := by
      obtain ⟨meth9, c9, h1, h2, -, -, -, -, h7, -⟩ := Cond.code_spec B.named (atoms_spec (ws := ws) B.pre _ (by rw [hw]; exact List.mem_cons_self))
      cases Option.some.inj (h1.symm.trans B.method)
      cases Option.some.inj (h2.symm.trans (Stand.of_body B).code)
      intro x hx
      rw [Array.isEmpty_iff.mp h7] at hx
      cases hx
    obtain ⟨t, a1, o, b1, b2, b3⟩ := body p e s m args below meth c s₁ B hml ht hP s₁ hh0 (Stand.of_body B)
    exact ⟨t, o, a1, b1, b2, b3⟩
/-- the table of a body with handlers -/
theorem vx_table {p : Program} {x y : MethodName} {S : Spec} {cc bytes : ByteArray} {maxL maxL' : Nat} {ret ret' : Option FieldType} {e : Env} {s s₁ : State} {m : MethodId} {args : Array Value} {below : List Frame} {meth : Method} {c : Code} {hh : List (Nat × Nat × Nat × Nat)}
    (B : BodyLoose p l y S cc maxL ret e s m args below meth c s₁) (h : (Cond.codeWith y bytes maxL' ret' hh).before args s = true) : c.exceptionTable.toList = tableOf hh := by
  obtain ⟨m9, meth9, c9, hn9, h1, h2, -, -, h6, -⟩ := Cond.codeWith_spec h
  cases Option.some.inj (hn9.symm.trans B.named)
  cases Option.some.inj (h1.symm.trans B.method)
  cases Option.some.inj (h2.symm.trans (Stand.of_body B).code)
  rw [← h6, table_eq]
end Bodies
end VXA
/-! ===== END ===== -/
/-! ===== BEGIN a static call of a method with an exception table ===== -/
section VXS
variable {p : Program} {l : Launch} {e : Env} {R : Room} {s : State} {m : MethodId} {args : Array Value} {below : List Frame} {meth : Method} {c : Code} {T : State} {H : Heap} {locs : List Loc} {cells slots : Nat}
abbrev vx_CSW (R : Room) (s : State) (args : Array Value) (own : String) (index : Nat) (y : MethodName) (bytes : ByteArray) (maxL : Nat) (ret : Option FieldType) (hh : List (Nat × Nat × Nat × Nat)) (ws : List Cond) (rm : Room) (mc ms n : Nat) : Prop :=
  (rm.cells = mc ∧ rm.slots = ms ∧ rm.frames + 1 ≤ R.frames ∧ 8 + (maxL + 11) + rm.locals ≤ R.locals ∧ (∀ w ∈ ws, ∀ (a' : Array Value) (U : State), s.WarmedH U.vm → w.before a' U = true) ∧ Cond.codeWith y bytes maxL ret hh ∈ ws) ∧
  (Cond.codeWith y bytes maxL ret hh).before args s = true ∧ (Cond.initialized y.cls).before args s = true ∧ (y.cls ≠ "java/lang/invoke/MethodHandle" ∧ y.cls ≠ "java/lang/invoke/VarHandle") ∧
  (∀ sig, parseMethodDescriptor y.desc = some sig → n = sig.parameters.length) ∧ (Cond.methodLink own index y).before args s = true ∧ (Cond.static y).before args s = true
theorem vx_cwSW {own : String} {index maxL mc ms : Nat} {y : MethodName} {bytes : ByteArray} {ret : Option FieldType} {hh : List (Nat × Nat × Nat × Nat)} {Ts ws ws' : List Cond} {rm : Room} (n : Nat) (ht : ∀ w ∈ Ts, w.before args s = true) (hT : GoodIn Ts (va_wsS own index y ws)) (hw : ws = Cond.codeWith y bytes maxL ret hh :: ws') (hrc : rm.cells = mc) (hrs : rm.slots = ms)
    (hd : y.cls ≠ "java/lang/invoke/MethodHandle" ∧ y.cls ≠ "java/lang/invoke/VarHandle" ∧ (parseMethodDescriptor y.desc).map (fun d => d.parameters.length) = some n) (hR : rm.frames + 1 ≤ R.frames ∧ 8 + (maxL + 11) + rm.locals ≤ R.locals) :
    vx_CSW R s args own index y bytes maxL ret hh ws rm mc ms n := by
  have ok : ∀ w ∈ va_wsS own index y ws, w.before args s = true := fun w h => ht w (hT w h).1
  have hG : GoodIn Ts ws := fun w h => hT w (by unfold va_wsS; exact List.mem_append_right _ h)
  have hc : Cond.codeWith y bytes maxL ret hh ∈ ws := by rw [hw]; exact List.mem_cons_self
  refine ⟨⟨hrc, hrs, hR.1, hR.2, pay_in ht hG, hc⟩, ht _ (hG _ hc).1, ok _ (by simp [va_wsS]), ⟨hd.1, hd.2.1⟩, fun sig h => ?_, ok _ (by simp [va_wsS]), ok _ (by simp [va_wsS])⟩
  have h2 := hd.2.2
  rw [h] at h2
  exact (Option.some.inj h2).symm
theorem vx_callSW (X : Stand p l e R s m args below meth c T locs cells slots) (hexec : p.tables.exec = Jvm.exec) {own : String} {index : Nat} {y : MethodName} {bytes : ByteArray} {maxL : Nat} {ret : Option FieldType} {hh : List (Nat × Nat × Nat × Nat)}
    (hown : s.vm.findClass own = some m.cls) (hlink : (Cond.methodLink own index y).before args s = true) (hstat : (Cond.static y).before args s = true) (hinit : (Cond.initialized y.cls).before args s = true)
    (hcode : (Cond.codeWith y bytes maxL ret hh).before args s = true) (hy : y.cls ≠ "java/lang/invoke/MethodHandle" ∧ y.cls ≠ "java/lang/invoke/VarHandle")
    {W9 : Nat} {Pre : Pt → Array Value → Prop} {Post : Pt → Array Value → Option Value → Pt → Prop} (hK : Back l R p e below s args y 3 W9 Pre Post)
    {g : JFrame} (hg : g.method = m) (hsize : g.locals.size = c.maxLocals) {argsL rest : List Value} (hlen : ∀ sig, parseMethodDescriptor y.desc = some sig → argsL.length = sig.parameters.length)
    (hstack : g.stack = argsL.reverse ++ rest) (hW : 2 * g.monitorRoom + (rest.map fun v => v.category).sum ≤ W9) (hdg : decode c.code g.pc = .ok (.invokestatic index, 3))
    (hpre : ∀ vm₁, s.WarmedH vm₁ → Pre ⟨T.setVm vm₁, locs, cells, slots⟩ argsL.toArray) :
    ∃ (v : Option Value) (vm₁ : Vm) (B : Pt), s.WarmedH vm₁ ∧ Stand p l e R s m args below meth c B.U B.locs B.cells B.slots ∧ Post ⟨T.setVm vm₁, locs, cells, slots⟩ argsL.toArray v B ∧
      ∀ target, Steps p.tables e below (B.U.setTop { g with pc := g.pc + 3, stack := v.toList ++ rest }) target → Steps p.tables e below (T.setTop g) target := by
  obtain ⟨mk, methM, cM, hnamed, hmethM, -, -, -, -, -, -, hsigM⟩ := Cond.codeWith_spec hcode
  have hstatic : methM.isStatic = true := Cond.static_spec hnamed hmethM hstat
  obtain ⟨kP, hkP, -⟩ := className_of_methodNamed hnamed
  have hinitP : kP.init = .initialized := Cond.initialized_spec (findClass_of_methodNamed hnamed) hkP hinit
  obtain ⟨vm₁, X₁, hstep₁⟩ := X.invokestatic hexec hown hlink hnamed hmethM hstatic hkP hinitP hy (g := g) hg (argsL := argsL) (rest := rest) (hlen _ hsigM) hstack hdg
  obtain ⟨v, B, X', hpost, hsteps⟩ := hK m meth c ⟨T.setVm vm₁, locs, cells, slots⟩ { g with stack := rest } (.invokestatic index) mk argsL.toArray X₁ hg hsize hdg hW (X₁.named hnamed) (hpre vm₁ X₁.warmed)
  exact ⟨v, vm₁, B, X₁.warmed, X', hpost, fun target h => hstep₁ _ fun acts => by rw [doInvoke_state]; exact hsteps.trans h⟩
theorem vx_runSW {y : MethodName} {bytes cc : ByteArray} {maxL nL mc ms n index : Nat} {ret : Option FieldType} {hh : List (Nat × Nat × Nat × Nat)} {ws : List Cond} {rm : Room} {Pc : Array Value → State → Prop} {Qc : Array Value → State → Outcome → State → Prop} {free : Addr → Prop} {Ts : List Cond} {own : String} {As rest : List Value} {g : JFrame}
    (S : CallFix p m c cc nL s args Ts own) (hM : Met l y ws rm Pc Qc mc ms free) (cw : vx_CSW R s args own index y bytes maxL ret hh ws rm mc ms n) (hp : PreS s H Pc As)
    (hg : g.method = m) (hn : As.length = n) (hsize : g.locals.size = nL) (hstack : g.stack = As.reverse ++ rest) (hW : 2 * g.monitorRoom + (rest.map fun v => v.category).sum ≤ 8) (hdg : decode cc g.pc = .ok (.invokestatic index, 3)) (hf : cells + mc ≤ R.cells ∧ slots + ms ≤ R.slots) :
    va_Run p l e R s m args below meth c H locs cells slots mc ms g rest (Qc As.toArray) (free) := by
  obtain ⟨⟨hrc, hrs, hfr, hlo, hws, hcw⟩, hcode, hini, hy, hlen, hl, hstt⟩ := cw
  have hK : Back l R p e below s args y 3 8 (PreOf R mc ms Pc) (PostOf Qc mc ms free) := va_backW (hh := hh) (bytes := bytes) (maxL := maxL) (ret := ret) hM hp.1 hrc hrs hfr hlo hws hcw (fun a' U hW => word_at hW (Or.inl (by first | rfl | simp [Cond.onTables, Cond.keeps, Cond.steady])) hini)
  obtain ⟨hx, hb, hml, ho, -⟩ := S
  intro T hT X
  obtain ⟨v, vm₁, ⟨U', l2, c2, s2⟩, hW₁, X', ⟨g', mk, t, L, e1, e2, hq, h1, hL, h2, h3⟩, st⟩ := vx_callSW X hx (hh := hh) (bytes := bytes) (maxL := maxL) (ret := ret) ho hl hstt hini hcode hy hK hg (hsize.trans hml.symm) (argsL := As) (rest := rest) (fun sig h => hn.trans (hlen sig h)) hstack hW (by rw [hb]; exact hdg)
    (fun vm₁ hW₁ => ⟨hf.1, hf.2, hp.2 (T.setVm vm₁) hT hW₁⟩)
  dsimp only [Pt.U, Pt.locs, Pt.cells, Pt.slots] at X' e1 e2 h1 h2 h3 st
  subst h1; subst h2; subst h3
  exact ⟨v, (T.setVm vm₁).calling g' mk As.toArray, t, U', L, hT, X', hL, e1, e2, hq, st⟩
/-- a thing of a world lies in the heap -/
theorem vx_lt {D : va_G} {cl : List vw_C} {ws : va_W} {H1 : Heap} (h : va_P D cl ws H1) {k : Nat} {q : Nat × va_E} (hk : ws[k]? = some q) : q.1 < H1.size := (h k q hk).lt
end VXS
/-! ===== END ===== -/
/-! ===== BEGIN methods with a table of their own: called by a name, returning or throwing ===== -/
section VXH
/-! vx_backW, vx_callVX, vx_callSX, vx_callVW, vx_runVW, vx_runVX, vx_runSX, vx_ofWH follow the same proofs as their sisters above (Free/Laws.lean, Shelf42/LK1.lean); vx_outP calls Shelf42/NT130.lean (outThrough). -/
section
variable {l : Launch} {R : Room} {p : Program} {e : Env} {below : List Frame} {s : State} {sargs : Array Value} {y : MethodName} {len W9 : Nat}
theorem vx_backW {ws : List Cond} {rm : Room} {Pc : Array Value → State → Prop} {Qc : Array Value → State → Outcome → State → Prop} {XC : String → State → State → Prop} {mc ms : Nat} {free : Addr → Prop} {bytes : ByteArray} {maxL : Nat} {ret : Option FieldType} {hh : List (Nat × Nat × Nat × Nat)}
    (hM : vx_Met l y ws rm Pc Qc XC mc ms free) (hblind : FrameBlind Pc) (hrc : rm.cells = mc) (hrs : rm.slots = ms)
    (hframes : rm.frames + 1 ≤ R.frames) (hlocals : W9 + (maxL + 11) + rm.locals ≤ R.locals)
    (hws : ∀ w ∈ ws, ∀ a' U, s.WarmedH U.vm → w.before a' U = true) (hcode : Cond.codeWith y bytes maxL ret hh ∈ ws) (hinit : ∀ a' U, s.WarmedH U.vm → (Cond.initialized y.cls).before a' U = true) :
    vx_Back l R p e below s sargs y len W9 (PreOf R mc ms Pc) (PostOf Qc mc ms free) (vx_Post XC mc ms free) := by
  intro m meth c A g ig mk a X hg hsize hdg hW hn hp
  have h1 : (headSpec ws rm).pre.before a A.U = true := atoms_intro fun w hw => hws w hw _ _ X.warmed
  have h2 : (Cond.codeWith y bytes maxL ret hh).before a A.U = true := hws _ hcode _ _ X.warmed
  have h3 : (Cond.initialized y.cls).before a A.U = true := hinit _ _ X.warmed
  have h4 : A.cells + (headSpec ws rm).room.cells ≤ R.cells := by rw [show (headSpec ws rm).room.cells = mc from hrc]; exact hp.1
  have h5 : A.slots + (headSpec ws rm).room.slots ≤ R.slots := by rw [show (headSpec ws rm).room.slots = ms from hrs]; exact hp.2.1
  have hPc : Pc a (A.U.calling g mk a) := hblind _ _ _ _ hp.2.2
  obtain ⟨U, Ls, c0, s0⟩ := A
  dsimp only [Pt.U, Pt.locs, Pt.cells, Pt.slots] at h1 h2 h3 h4 h5 X hn hPc ⊢
  obtain ⟨m9, methY, cY, hn9, hmY, hcY, -, hlY, -⟩ := Cond.codeWith_spec h2
  cases Option.some.inj (hn9.symm.trans hn)
  obtain ⟨kY, hkY, -⟩ := className_of_methodNamed hn
  have hinitY : kY.init = .initialized := Cond.initialized_spec (findClass_of_methodNamed hn) hkY h3
  have h : At U g.method c below := by rw [hg]; exact X.here
  have hlocals9 : W9 + (maxL + 11) + (headSpec ws rm).room.locals ≤ R.locals := hlocals
  have happ : (headSpec ws rm).appliesLoose y e.platform (U.calling g mk a) = true :=
    Spec.appliesLoose_calling (g := g) h hdg hn hkY hinitY
      (X.room_calling (g := g) (R' := (headSpec ws rm).room) hsize hmY hcY hframes (by rw [hlY]; omega) h4 h5) h1
  obtain ⟨mid, hmid⟩ := h.above
  have hfr : (U.setTop g).frames = (.java g :: mid) ++ below := by rw [State.frames_setTop' g h.top, hmid]; rfl
  obtain ⟨o, s₂, hsteps, -, hend, hq⟩ := Steps.callFree hM p X.admits X.cas X.clock (acts := []) hfr happ hPc trivial
  have hq' : vx_Q Qc XC mc ms free a (U.calling g mk a) o s₂ := hq
  rw [State.frames_setTop' g h.top] at hend
  obtain ⟨g₀, hg0⟩ := Option.isSome_iff_exists.mp h.top
  obtain ⟨r, hr⟩ := State.topJava?_eq_some.mp hg0
  have hr' : (({ U with heap := s₂.heap, slotsUsed := s₂.slotsUsed } : State).setVm s₂.vm).frames = .java g₀ :: r := hr
  rcases hq' with ⟨hqc, L, hfe, hL⟩ | ⟨q, rfl, E, ce, L, hx, hce, hcv, hcl, hW₂, hsm, hL⟩
  · obtain ⟨⟨v, rfl⟩, hW₂, e2, q2, q3, q4, q5, q6⟩ := id hfe
    have e3 : s₂ = ({ (U.calling g mk a).setFrames s₂.frames with heap := s₂.heap, slotsUsed := s₂.slotsUsed } : State).setVm s₂.vm := by
      have : s₂ = ({ s₂ with vm := (U.calling g mk a).vm } : State).setVm s₂.vm := rfl
      rw [e2] at this
      exact this
    obtain ⟨c₂, i₂, len₂, hc₂, hd₂, hf₂⟩ := hend
    have hW' : U.WarmedH s₂.vm := hW₂
    have hcc : c₂ = c := by
      have h1 : s₂.code? g.method = U.code? g.method := by
        rw [State.code?_eq, State.code?_eq, hW'.alike.method?]
      exact Option.some.inj (hc₂.symm.trans (h1.trans h.code))
    subst hcc
    have hlen : len₂ = len := by rw [hdg] at hd₂; cases hd₂; rfl
    subst hlen
    have hs₂ : s₂ = (({ U with heap := s₂.heap, slotsUsed := s₂.slotsUsed } : State).setVm s₂.vm).setTop { g with pc := g.pc + len₂, stack := v.toList ++ g.stack } := by
      refine e3.trans ?_
      rw [hf₂, State.calling_eq h.top, State.setFrames_setFrames, State.setTop_of_frames _ hr', hr]
      rfl
    have hsame : U.sameButNew ({ U with heap := s₂.heap, slotsUsed := s₂.slotsUsed } : State) L mc ms := by
      refine ⟨?_, q2, q3, q4, q5, q6⟩
      obtain ⟨t, ht, -⟩ := State.frames_cons hr
      show ({ U with heap := s₂.heap, slotsUsed := s₂.slotsUsed } : State) = { U.setFrames U.frames with heap := s₂.heap, slotsUsed := s₂.slotsUsed }
      rw [State.setFrames_self ht]
    subst hg
    refine Or.inl ⟨v, ⟨(({ U with heap := s₂.heap, slotsUsed := s₂.slotsUsed } : State).setVm s₂.vm), Ls ++ L, c0 + mc, s0 + ms⟩,
      ⟨X.admits, X.cas, X.clock, X.frames, X.room, X.hears, X.method, X.code, (X.here.setHeapUsed s₂.heap s₂.slotsUsed).setVm hW'.alike, X.tail, State.WarmedH.trans X.warmed hW', X.limits, X.bytes, X.same.trans (hsame.setVm s.vm)⟩,
      ⟨g, mk, s₂, L, rfl, rfl, hqc, rfl, hL, rfl, rfl⟩, ?_⟩
    show Steps p.tables e below _ ((({ U with heap := s₂.heap, slotsUsed := s₂.slotsUsed } : State).setVm s₂.vm).setTop { g with pc := g.pc + len₂, stack := v.toList ++ g.stack })
    rw [← hs₂]
    exact hsteps
  · obtain ⟨e2, q2, q3, q4, q5, q6⟩ := id hsm
    have e3 : s₂ = ({ (U.calling g mk a).setFrames s₂.frames with heap := s₂.heap, slotsUsed := s₂.slotsUsed } : State).setVm s₂.vm := by
      have : s₂ = ({ s₂ with vm := (U.calling g mk a).vm } : State).setVm s₂.vm := rfl
      rw [e2] at this
      exact this
    have hf₂ : s₂.frames = .throwing q :: .java g :: U.frames.tail := hend
    have hW' : U.WarmedH s₂.vm := hW₂
    have hs₂ : s₂ = ((({ U with heap := s₂.heap, slotsUsed := s₂.slotsUsed } : State).setVm s₂.vm).setTop g).pushFrame (.throwing q) := by
      refine e3.trans ?_
      rw [hf₂, State.calling_eq h.top, State.setFrames_setFrames, State.pushFrame, State.frames_setTop _ hr', State.setTop_of_frames _ hr', State.setFrames_setFrames, hr]
      rfl
    have hsame : U.sameButNew ({ U with heap := s₂.heap, slotsUsed := s₂.slotsUsed } : State) L mc ms := by
      refine ⟨?_, q2, q3, q4, q5, q6⟩
      obtain ⟨t, ht, -⟩ := State.frames_cons hr
      show ({ U with heap := s₂.heap, slotsUsed := s₂.slotsUsed } : State) = { U.setFrames U.frames with heap := s₂.heap, slotsUsed := s₂.slotsUsed }
      rw [State.setFrames_self ht]
    subst hg
    refine Or.inr ⟨q, ⟨(({ U with heap := s₂.heap, slotsUsed := s₂.slotsUsed } : State).setVm s₂.vm), Ls ++ L, c0 + mc, s0 + ms⟩,
      ⟨X.admits, X.cas, X.clock, X.frames, X.room, X.hears, X.method, X.code, (X.here.setHeapUsed s₂.heap s₂.slotsUsed).setVm hW'.alike, X.tail, State.WarmedH.trans X.warmed hW', X.limits, X.bytes, X.same.trans (hsame.setVm s.vm)⟩,
      ⟨g, mk, s₂, L, E, ce, rfl, rfl, hx, hce, hcv, hcl, rfl, hL, rfl, rfl⟩, ?_⟩
    show Steps p.tables e below _ (((({ U with heap := s₂.heap, slotsUsed := s₂.slotsUsed } : State).setVm s₂.vm).setTop g).pushFrame (.throwing q))
    rw [← hs₂]
    exact hsteps
end
variable {p : Program} {l : Launch} {e : Env} {R : Room} {s : State} {m : MethodId} {args : Array Value} {below : List Frame} {meth : Method} {c : Code} {T : State} {H : Heap} {locs : List Loc} {cells slots : Nat}
theorem vx_callVX (X : Stand p l e R s m args below meth c T locs cells slots) (hexec : p.tables.exec = Jvm.exec) {own C : String} {index : Nat} {y : MethodName} {bytes : ByteArray} {maxL : Nat} {ret : Option FieldType} {hh : List (Nat × Nat × Nat × Nat)}
    (hown : s.vm.findClass own = some m.cls) (hlink : (Cond.methodLink own index y).before args s = true) (hinst : (Cond.instanceMethod y).before args s = true) (hsel : (Cond.selects C y y).before args s = true)
    (hcode : (Cond.codeWith y bytes maxL ret hh).before args s = true) (hy : y.cls ≠ "java/lang/invoke/MethodHandle" ∧ y.cls ≠ "java/lang/invoke/VarHandle")
    {W9 : Nat} {Pre : Pt → Array Value → Prop} {Post : Pt → Array Value → Option Value → Pt → Prop} {PostX : Pt → Array Value → Addr → Pt → Prop} (hK : vx_Back l R p e below s args y 3 W9 Pre Post PostX)
    {b : Addr} {cellB : Cell} (hcell : T.heap[b]? = some cellB) (hobj : cellB.vm.isStatics = false) (hcls : s.vm.findClass C = some cellB.cls)
    {g : JFrame} (hg : g.method = m) (hsize : g.locals.size = c.maxLocals) {argsL rest : List Value} (hlen : ∀ sig, parseMethodDescriptor y.desc = some sig → argsL.length = sig.parameters.length)
    (hstack : g.stack = argsL.reverse ++ .ref b :: rest) (hW : 2 * g.monitorRoom + (rest.map fun v => v.category).sum ≤ W9) (hdg : decode c.code g.pc = .ok (.invokevirtual index, 3))
    (hpre : ∀ vm₁, s.WarmedH vm₁ → Pre ⟨T.setVm vm₁, locs, cells, slots⟩ (Value.ref b :: argsL).toArray) :
    (∃ (v : Option Value) (vm₁ : Vm) (B : Pt), s.WarmedH vm₁ ∧ Stand p l e R s m args below meth c B.U B.locs B.cells B.slots ∧ Post ⟨T.setVm vm₁, locs, cells, slots⟩ (Value.ref b :: argsL).toArray v B ∧
      ∀ target, Steps p.tables e below (B.U.setTop { g with pc := g.pc + 3, stack := v.toList ++ rest }) target → Steps p.tables e below (T.setTop g) target) ∨
    (∃ (q : Addr) (vm₁ : Vm) (B : Pt), s.WarmedH vm₁ ∧ Stand p l e R s m args below meth c B.U B.locs B.cells B.slots ∧ PostX ⟨T.setVm vm₁, locs, cells, slots⟩ (Value.ref b :: argsL).toArray q B ∧
      Steps p.tables e below (T.setTop g) ((B.U.setTop { g with stack := rest }).pushFrame (.throwing q))) := by
  obtain ⟨mk, methM, hnamed, hmethM, hstM, habM⟩ := Cond.instanceMethod_spec hinst
  obtain ⟨m8, methM', cM, hn8, hmethM', -, -, -, -, -, -, hsigM⟩ := Cond.codeWith_spec hcode
  cases Option.some.inj (hn8.symm.trans hnamed)
  cases hmethM.symm.trans hmethM'
  obtain ⟨c2, r2, m2, q1, q2, q3, q4, kP, hkP, hkPi⟩ := Cond.selects_spec hsel
  cases hcls.symm.trans q1
  cases (State.methodFound?_of_named hnamed hy).symm.trans q2
  cases hnamed.symm.trans q3
  have hselP : selectMethod e.platform s.vm cellB.cls mk = .method mk := by rw [Launch.admits_selectMethod X.admits]; exact q4
  obtain ⟨vm₁, X₁, hstep₁⟩ := X.invokevirtual hexec hown hlink hnamed hmethM hstM hkP hkPi hy (a := b) (cell := cellB) hcell
    (fun z h => by rw [h] at hobj; cases hobj) hselP hmethM habM hkP hkPi (g := g) hg (argsL := argsL) (rest := rest) (hlen _ hsigM) hstack hdg
  rcases hK m meth c ⟨T.setVm vm₁, locs, cells, slots⟩ { g with stack := rest } (.invokevirtual index) mk (Value.ref b :: argsL).toArray X₁ hg hsize hdg hW (X₁.named hnamed) (hpre vm₁ X₁.warmed) with ⟨v, B, X', hpost, hsteps⟩ | ⟨q, B, X', hpost, hsteps⟩
  · exact Or.inl ⟨v, vm₁, B, X₁.warmed, X', hpost, fun target h => hstep₁ _ fun acts => by rw [doInvoke_state]; exact hsteps.trans h⟩
  · exact Or.inr ⟨q, vm₁, B, X₁.warmed, X', hpost, hstep₁ _ fun acts => by rw [doInvoke_state]; exact hsteps⟩
theorem vx_callSX (X : Stand p l e R s m args below meth c T locs cells slots) (hexec : p.tables.exec = Jvm.exec) {own : String} {index : Nat} {y : MethodName} {bytes : ByteArray} {maxL : Nat} {ret : Option FieldType} {hh : List (Nat × Nat × Nat × Nat)}
    (hown : s.vm.findClass own = some m.cls) (hlink : (Cond.methodLink own index y).before args s = true) (hstat : (Cond.static y).before args s = true) (hinit : (Cond.initialized y.cls).before args s = true)
    (hcode : (Cond.codeWith y bytes maxL ret hh).before args s = true) (hy : y.cls ≠ "java/lang/invoke/MethodHandle" ∧ y.cls ≠ "java/lang/invoke/VarHandle")
    {W9 : Nat} {Pre : Pt → Array Value → Prop} {Post : Pt → Array Value → Option Value → Pt → Prop} {PostX : Pt → Array Value → Addr → Pt → Prop} (hK : vx_Back l R p e below s args y 3 W9 Pre Post PostX)
    {g : JFrame} (hg : g.method = m) (hsize : g.locals.size = c.maxLocals) {argsL rest : List Value} (hlen : ∀ sig, parseMethodDescriptor y.desc = some sig → argsL.length = sig.parameters.length)
    (hstack : g.stack = argsL.reverse ++ rest) (hW : 2 * g.monitorRoom + (rest.map fun v => v.category).sum ≤ W9) (hdg : decode c.code g.pc = .ok (.invokestatic index, 3))
    (hpre : ∀ vm₁, s.WarmedH vm₁ → Pre ⟨T.setVm vm₁, locs, cells, slots⟩ argsL.toArray) :
    (∃ (v : Option Value) (vm₁ : Vm) (B : Pt), s.WarmedH vm₁ ∧ Stand p l e R s m args below meth c B.U B.locs B.cells B.slots ∧ Post ⟨T.setVm vm₁, locs, cells, slots⟩ argsL.toArray v B ∧
      ∀ target, Steps p.tables e below (B.U.setTop { g with pc := g.pc + 3, stack := v.toList ++ rest }) target → Steps p.tables e below (T.setTop g) target) ∨
    (∃ (q : Addr) (vm₁ : Vm) (B : Pt), s.WarmedH vm₁ ∧ Stand p l e R s m args below meth c B.U B.locs B.cells B.slots ∧ PostX ⟨T.setVm vm₁, locs, cells, slots⟩ argsL.toArray q B ∧
      Steps p.tables e below (T.setTop g) ((B.U.setTop { g with stack := rest }).pushFrame (.throwing q))) := by
  obtain ⟨mk, methM, cM, hnamed, hmethM, -, -, -, -, -, -, hsigM⟩ := Cond.codeWith_spec hcode
  have hstatic : methM.isStatic = true := Cond.static_spec hnamed hmethM hstat
  obtain ⟨kP, hkP, -⟩ := className_of_methodNamed hnamed
  have hinitP : kP.init = .initialized := Cond.initialized_spec (findClass_of_methodNamed hnamed) hkP hinit
  obtain ⟨vm₁, X₁, hstep₁⟩ := X.invokestatic hexec hown hlink hnamed hmethM hstatic hkP hinitP hy (g := g) hg (argsL := argsL) (rest := rest) (hlen _ hsigM) hstack hdg
  rcases hK m meth c ⟨T.setVm vm₁, locs, cells, slots⟩ { g with stack := rest } (.invokestatic index) mk argsL.toArray X₁ hg hsize hdg hW (X₁.named hnamed) (hpre vm₁ X₁.warmed) with ⟨v, B, X', hpost, hsteps⟩ | ⟨q, B, X', hpost, hsteps⟩
  · exact Or.inl ⟨v, vm₁, B, X₁.warmed, X', hpost, fun target h => hstep₁ _ fun acts => by rw [doInvoke_state]; exact hsteps.trans h⟩
  · exact Or.inr ⟨q, vm₁, B, X₁.warmed, X', hpost, hstep₁ _ fun acts => by rw [doInvoke_state]; exact hsteps⟩
theorem vx_callVW (X : Stand p l e R s m args below meth c T locs cells slots) (hexec : p.tables.exec = Jvm.exec) {own C : String} {index : Nat} {y : MethodName} {bytes : ByteArray} {maxL : Nat} {ret : Option FieldType} {hh : List (Nat × Nat × Nat × Nat)}
    (hown : s.vm.findClass own = some m.cls) (hlink : (Cond.methodLink own index y).before args s = true) (hinst : (Cond.instanceMethod y).before args s = true) (hsel : (Cond.selects C y y).before args s = true)
    (hcode : (Cond.codeWith y bytes maxL ret hh).before args s = true) (hy : y.cls ≠ "java/lang/invoke/MethodHandle" ∧ y.cls ≠ "java/lang/invoke/VarHandle")
    {W9 : Nat} {Pre : Pt → Array Value → Prop} {Post : Pt → Array Value → Option Value → Pt → Prop} (hK : Back l R p e below s args y 3 W9 Pre Post)
    {b : Addr} {cellB : Cell} (hcell : T.heap[b]? = some cellB) (hobj : cellB.vm.isStatics = false) (hcls : s.vm.findClass C = some cellB.cls)
    {g : JFrame} (hg : g.method = m) (hsize : g.locals.size = c.maxLocals) {argsL rest : List Value} (hlen : ∀ sig, parseMethodDescriptor y.desc = some sig → argsL.length = sig.parameters.length)
    (hstack : g.stack = argsL.reverse ++ .ref b :: rest) (hW : 2 * g.monitorRoom + (rest.map fun v => v.category).sum ≤ W9) (hdg : decode c.code g.pc = .ok (.invokevirtual index, 3))
    (hpre : ∀ vm₁, s.WarmedH vm₁ → Pre ⟨T.setVm vm₁, locs, cells, slots⟩ (Value.ref b :: argsL).toArray) :
    ∃ (v : Option Value) (vm₁ : Vm) (B : Pt), s.WarmedH vm₁ ∧ Stand p l e R s m args below meth c B.U B.locs B.cells B.slots ∧ Post ⟨T.setVm vm₁, locs, cells, slots⟩ (Value.ref b :: argsL).toArray v B ∧
      ∀ target, Steps p.tables e below (B.U.setTop { g with pc := g.pc + 3, stack := v.toList ++ rest }) target → Steps p.tables e below (T.setTop g) target := by
  obtain ⟨mk, methM, hnamed, hmethM, hstM, habM⟩ := Cond.instanceMethod_spec hinst
  obtain ⟨m8, methM', cM, hn8, hmethM', -, -, -, -, -, -, hsigM⟩ := Cond.codeWith_spec hcode
  cases Option.some.inj (hn8.symm.trans hnamed)
  cases hmethM.symm.trans hmethM'
  obtain ⟨c2, r2, m2, q1, q2, q3, q4, kP, hkP, hkPi⟩ := Cond.selects_spec hsel
  cases hcls.symm.trans q1
  cases (State.methodFound?_of_named hnamed hy).symm.trans q2
  cases hnamed.symm.trans q3
  have hselP : selectMethod e.platform s.vm cellB.cls mk = .method mk := by rw [Launch.admits_selectMethod X.admits]; exact q4
  obtain ⟨vm₁, X₁, hstep₁⟩ := X.invokevirtual hexec hown hlink hnamed hmethM hstM hkP hkPi hy (a := b) (cell := cellB) hcell
    (fun z h => by rw [h] at hobj; cases hobj) hselP hmethM habM hkP hkPi (g := g) hg (argsL := argsL) (rest := rest) (hlen _ hsigM) hstack hdg
  obtain ⟨v, B, X', hpost, hsteps⟩ := hK m meth c ⟨T.setVm vm₁, locs, cells, slots⟩ { g with stack := rest } (.invokevirtual index) mk (Value.ref b :: argsL).toArray X₁ hg hsize hdg hW (X₁.named hnamed) (hpre vm₁ X₁.warmed)
  exact ⟨v, vm₁, B, X₁.warmed, X', hpost, fun target h => hstep₁ _ fun acts => by rw [doInvoke_state]; exact hsteps.trans h⟩
abbrev vx_CVW (R : Room) (s : State) (args : Array Value) (own C : String) (index : Nat) (y : MethodName) (bytes : ByteArray) (maxL : Nat) (ret : Option FieldType) (hh : List (Nat × Nat × Nat × Nat)) (ws : List Cond) (rm : Room) (mc ms n : Nat) : Prop :=
  (rm.cells = mc ∧ rm.slots = ms ∧ rm.frames + 1 ≤ R.frames ∧ 8 + (maxL + 11) + rm.locals ≤ R.locals ∧ (∀ w ∈ ws, ∀ (a' : Array Value) (U : State), s.WarmedH U.vm → w.before a' U = true) ∧ Cond.codeWith y bytes maxL ret hh ∈ ws) ∧
  (Cond.codeWith y bytes maxL ret hh).before args s = true ∧ (Cond.initialized y.cls).before args s = true ∧ (y.cls ≠ "java/lang/invoke/MethodHandle" ∧ y.cls ≠ "java/lang/invoke/VarHandle") ∧
  (∀ sig, parseMethodDescriptor y.desc = some sig → n = sig.parameters.length) ∧ (Cond.methodLink own index y).before args s = true ∧ (Cond.instanceMethod y).before args s = true ∧ (Cond.selects C y y).before args s = true
theorem vx_cwVW {own C : String} {index maxL mc ms : Nat} {y : MethodName} {bytes : ByteArray} {ret : Option FieldType} {hh : List (Nat × Nat × Nat × Nat)} {Ts ws ws' : List Cond} {rm : Room} (n : Nat) (ht : ∀ w ∈ Ts, w.before args s = true) (hT : GoodIn Ts (wsV own index C y ws)) (hw : ws = Cond.codeWith y bytes maxL ret hh :: ws') (hrc : rm.cells = mc) (hrs : rm.slots = ms)
    (hd : y.cls = C ∧ y.cls ≠ "java/lang/invoke/MethodHandle" ∧ y.cls ≠ "java/lang/invoke/VarHandle" ∧ (parseMethodDescriptor y.desc).map (fun d => d.parameters.length) = some n) (hR : rm.frames + 1 ≤ R.frames ∧ 8 + (maxL + 11) + rm.locals ≤ R.locals) :
    vx_CVW R s args own C index y bytes maxL ret hh ws rm mc ms n := by
  obtain ⟨hC, hd⟩ := hd
  subst hC
  have ok : ∀ w ∈ wsV own index y.cls y ws, w.before args s = true := fun w h => ht w (hT w h).1
  have hG : GoodIn Ts ws := fun w h => hT w (by unfold wsV; exact List.mem_append_right _ h)
  have hc : Cond.codeWith y bytes maxL ret hh ∈ ws := by rw [hw]; exact List.mem_cons_self
  refine ⟨⟨hrc, hrs, hR.1, hR.2, pay_in ht hG, hc⟩, ht _ (hG _ hc).1, ok _ (by simp [wsV]), ⟨hd.1, hd.2.1⟩, fun sig h => ?_, ok _ (by simp [wsV]), ok _ (by simp [wsV]), ok _ (by simp [wsV])⟩
  have h2 := hd.2.2
  rw [h] at h2
  exact (Option.some.inj h2).symm
theorem vx_runVW {y : MethodName} {bytes cc : ByteArray} {maxL nL mc ms n index : Nat} {ret : Option FieldType} {hh : List (Nat × Nat × Nat × Nat)} {ws : List Cond} {rm : Room} {Pc : Array Value → State → Prop} {Qc : Array Value → State → Outcome → State → Prop} {free : Addr → Prop} {Ts : List Cond} {own C : String} {b : Addr} {As rest : List Value} {g : JFrame}
    (S : CallFix p m c cc nL s args Ts own) (hM : Met l y ws rm Pc Qc mc ms free) (cw : vx_CVW R s args own C index y bytes maxL ret hh ws rm mc ms n) (hp : PreV s H C b Pc As)
    (hg : g.method = m) (hn : As.length = n) (hsize : g.locals.size = nL) (hstack : g.stack = As.reverse ++ .ref b :: rest) (hW : 2 * g.monitorRoom + (rest.map fun v => v.category).sum ≤ 8) (hdg : decode cc g.pc = .ok (.invokevirtual index, 3)) (hf : cells + mc ≤ R.cells ∧ slots + ms ≤ R.slots) :
    va_Run p l e R s m args below meth c H locs cells slots mc ms g rest (Qc (Value.ref b :: As).toArray) free := by
  obtain ⟨⟨hrc, hrs, hfr, hlo, hws, hcw⟩, hcode, hini, hy, hlen, hl, hin, hse⟩ := cw
  have hK : Back l R p e below s args y 3 8 (PreOf R mc ms Pc) (PostOf Qc mc ms free) := va_backW (hh := hh) (bytes := bytes) (maxL := maxL) (ret := ret) hM hp.1 hrc hrs hfr hlo hws hcw (fun a' U hW => word_at hW (Or.inl (by first | rfl | simp [Cond.onTables, Cond.keeps, Cond.steady])) hini)
  obtain ⟨hx, hb, hml, ho, -⟩ := S
  obtain ⟨-, ⟨cellB, hcB, hoB, hclB⟩, hPc⟩ := hp
  intro T hT X
  obtain ⟨v, vm₁, ⟨U', l2, c2, s2⟩, hW₁, X', ⟨g', mk, t, L, e1, e2, hq, h1, hL, h2, h3⟩, st⟩ := vx_callVW X hx (C := C) (hh := hh) (bytes := bytes) (maxL := maxL) (ret := ret) ho hl hin hse hcode hy hK (by rw [hT]; exact hcB) hoB hclB hg (hsize.trans hml.symm) (argsL := As) (rest := rest) (fun sig h => hn.trans (hlen sig h)) hstack hW (by rw [hb]; exact hdg)
    (fun vm₁ hW₁ => ⟨hf.1, hf.2, hPc (T.setVm vm₁) hT hW₁⟩)
  dsimp only [Pt.U, Pt.locs, Pt.cells, Pt.slots] at X' e1 e2 h1 h2 h3 st
  subst h1; subst h2; subst h3
  exact ⟨v, (T.setVm vm₁).calling g' mk (Value.ref b :: As).toArray, t, U', L, hT, X', hL, e1, e2, hq, st⟩
section
variable {y : MethodName} {bytes cc : ByteArray} {maxL nL mc ms n index : Nat} {ret : Option FieldType} {ws : List Cond} {rm : Room} {Pc : Array Value → State → Prop} {Qc : Array Value → State → Outcome → State → Prop} {XC : String → State → State → Prop} {free : Addr → Prop} {Ts : List Cond} {own C : String} {b : Addr} {As rest : List Value} {g : JFrame}
theorem vx_runVX {hh : List (Nat × Nat × Nat × Nat)} (S : CallFix p m c cc nL s args Ts own) (hM : vx_Met l y ws rm Pc Qc XC mc ms free) (cw : vx_CVW R s args own C index y bytes maxL ret hh ws rm mc ms n) (hp : PreV s H C b Pc As)
    (hg : g.method = m) (hn : As.length = n) (hsize : g.locals.size = nL) (hstack : g.stack = As.reverse ++ .ref b :: rest) (hW : 2 * g.monitorRoom + (rest.map fun v => v.category).sum ≤ 8) (hdg : decode cc g.pc = .ok (.invokevirtual index, 3)) (hf : cells + mc ≤ R.cells ∧ slots + ms ≤ R.slots) :
    vx_Run p l e R s m args below meth c H locs cells slots mc ms g rest (Qc (Value.ref b :: As).toArray) XC free := by
  obtain ⟨⟨hrc, hrs, hfr, hlo, hws, hcw⟩, hcode, hini, hy, hlen, hl, hin, hse⟩ := cw
  have hK : vx_Back l R p e below s args y 3 8 (PreOf R mc ms Pc) (PostOf Qc mc ms free) (vx_Post XC mc ms free) := vx_backW (hh := hh) (bytes := bytes) (maxL := maxL) (ret := ret) hM hp.1 hrc hrs hfr hlo hws hcw (fun a' U hW => word_at hW (Or.inl (by first | rfl | simp [Cond.onTables, Cond.keeps, Cond.steady])) hini)
  obtain ⟨hx, hb, hml, ho, -⟩ := S
  obtain ⟨-, ⟨cellB, hcB, hoB, hclB⟩, hPc⟩ := hp
  intro T hT X
  rcases vx_callVX X hx (C := C) (hh := hh) (bytes := bytes) (maxL := maxL) (ret := ret) ho hl hin hse hcode hy hK (by rw [hT]; exact hcB) hoB hclB hg (hsize.trans hml.symm) (argsL := As) (rest := rest) (fun sig h => hn.trans (hlen sig h)) hstack hW (by rw [hb]; exact hdg)
    (fun vm₁ hW₁ => ⟨hf.1, hf.2, hPc (T.setVm vm₁) hT hW₁⟩) with ⟨v, vm₁, ⟨U', l2, c2, s2⟩, hW₁, X', ⟨g', mk, t, L, e1, e2, hq, h1, hL, h2, h3⟩, st⟩ | ⟨q, vm₁, ⟨U', l2, c2, s2⟩, hW₁, X', ⟨g', mk, t, L, E, ce, e1, e2, hq, hce, hcv, hcl, h1, hL, h2, h3⟩, st⟩
  · dsimp only [Pt.U, Pt.locs, Pt.cells, Pt.slots] at X' e1 e2 h1 h2 h3 st
    subst h1; subst h2; subst h3
    exact Or.inl ⟨v, (T.setVm vm₁).calling g' mk (Value.ref b :: As).toArray, t, U', L, hT, X', hL, e1, e2, hq, st⟩
  · dsimp only [Pt.U, Pt.locs, Pt.cells, Pt.slots] at X' e1 e2 h1 h2 h3 st hcl
    subst h1; subst h2; subst h3
    exact Or.inr ⟨q, (T.setVm vm₁).calling g' mk (Value.ref b :: As).toArray, t, U', L, E, ce, hT, X', hL, e1, e2, hq, hce, hcv, vx_cls hW₁ hcl, st⟩
theorem vx_runSX {hh : List (Nat × Nat × Nat × Nat)} (S : CallFix p m c cc nL s args Ts own) (hM : vx_Met l y ws rm Pc Qc XC mc ms free) (cw : vx_CSW R s args own index y bytes maxL ret hh ws rm mc ms n) (hp : PreS s H Pc As)
    (hg : g.method = m) (hn : As.length = n) (hsize : g.locals.size = nL) (hstack : g.stack = As.reverse ++ rest) (hW : 2 * g.monitorRoom + (rest.map fun v => v.category).sum ≤ 8) (hdg : decode cc g.pc = .ok (.invokestatic index, 3)) (hf : cells + mc ≤ R.cells ∧ slots + ms ≤ R.slots) :
    vx_Run p l e R s m args below meth c H locs cells slots mc ms g rest (Qc As.toArray) XC free := by
  obtain ⟨⟨hrc, hrs, hfr, hlo, hws, hcw⟩, hcode, hini, hy, hlen, hl, hstt⟩ := cw
  have hK : vx_Back l R p e below s args y 3 8 (PreOf R mc ms Pc) (PostOf Qc mc ms free) (vx_Post XC mc ms free) := vx_backW (hh := hh) (bytes := bytes) (maxL := maxL) (ret := ret) hM hp.1 hrc hrs hfr hlo hws hcw (fun a' U hW => word_at hW (Or.inl (by first | rfl | simp [Cond.onTables, Cond.keeps, Cond.steady])) hini)
  obtain ⟨hx, hb, hml, ho, -⟩ := S
  intro T hT X
  rcases vx_callSX X hx (hh := hh) (bytes := bytes) (maxL := maxL) (ret := ret) ho hl hstt hini hcode hy hK hg (hsize.trans hml.symm) (argsL := As) (rest := rest) (fun sig h => hn.trans (hlen sig h)) hstack hW (by rw [hb]; exact hdg)
    (fun vm₁ hW₁ => ⟨hf.1, hf.2, hp.2 (T.setVm vm₁) hT hW₁⟩) with ⟨v, vm₁, ⟨U', l2, c2, s2⟩, hW₁, X', ⟨g', mk, t, L, e1, e2, hq, h1, hL, h2, h3⟩, st⟩ | ⟨q, vm₁, ⟨U', l2, c2, s2⟩, hW₁, X', ⟨g', mk, t, L, E, ce, e1, e2, hq, hce, hcv, hcl, h1, hL, h2, h3⟩, st⟩
  · dsimp only [Pt.U, Pt.locs, Pt.cells, Pt.slots] at X' e1 e2 h1 h2 h3 st
    subst h1; subst h2; subst h3
    exact Or.inl ⟨v, (T.setVm vm₁).calling g' mk As.toArray, t, U', L, hT, X', hL, e1, e2, hq, st⟩
  · dsimp only [Pt.U, Pt.locs, Pt.cells, Pt.slots] at X' e1 e2 h1 h2 h3 st hcl
    subst h1; subst h2; subst h3
    exact Or.inr ⟨q, (T.setVm vm₁).calling g' mk As.toArray, t, U', L, E, ce, hT, X', hL, e1, e2, hq, hce, hcv, vx_cls hW₁ hcl, st⟩
end
end VXH
theorem vx_ofWH {l : Launch} {y : MethodName} {ws ws' : List Cond} {rm : Room} {Pc : Array Value → State → Prop} {Qc : Array Value → State → Outcome → State → Prop} {XC : String → State → State → Prop} {mc ms : Nat} {free : Addr → Prop} {cc : ByteArray} {maxL : Nat} {ret : Option FieldType} {hh : List (Nat × Nat × Nat × Nat)}
    (hy : plainName y.cls = true) (hw : ws = Cond.codeWith y cc maxL ret hh :: ws')
    (body : ∀ p e s m args below meth c s₁, BodyLoose p l y (headSpec ws rm) cc maxL ret e s m args below meth c s₁ → c.maxLocals = maxL → Pc args s →
      W p l e (headSpec ws rm).room s m args below meth c s.heap [] 0 0 (vx_MQ below Qc XC args s mc ms free) (entryFrame m args maxL)) : vx_Met l y ws rm Pc Qc XC mc ms free := by
  refine MetFree.of_bodyS (code := cc) (maxLocals := maxL) (ret := ret) hy ?_ ?_
  · intro args s m h hn
    obtain ⟨m9, meth, c, hn9, h1, h2, h3, h4, -, h5, h6, -⟩ := Cond.codeWith_spec (atoms_spec (ws := ws) h _ (by rw [hw]; exact List.mem_cons_self))
    cases hn.symm.trans hn9
    exact ⟨meth, c, h1, h2, h3, h4, h5, h6⟩
  · intro p e s m args below meth c s₁ B hml hP _
    have hh0 : s₁.heap = s.heap := by rw [B.state]; rfl
    obtain ⟨t, a1, o, b1, b2, b3⟩ := body p e s m args below meth c s₁ B hml hP s₁ hh0 (Stand.of_body B)
    exact ⟨t, o, a1, b1, b2, b3⟩
/-! ===== END ===== -/
end
section
/-! ===== BEGIN printed: names, fields, word lists, decode rows ===== -/
def RX0 : String := "SliceDrift$Alarms"
def TX0 : u_T := fun k => match k with
  | 0 => ("SliceDrift$Alarms", "base", "I", false)
  | 1 => ("SliceDrift$Alarms", "length", "I", false)
  | 2 => ("SliceDrift$Alarms", "size", "I", false)
  | 3 => ("SliceDrift$Alarms", "begun", "I", false)
  | 4 => ("SliceDrift$Alarms", "stepRows", "[I", true)
  | 5 => ("SliceDrift$Alarms", "off", "[Z", true)
  | _ => ("SliceDrift$Alarms", "up", "[Z", true)
def tyX0 : Nat → FieldType := fun k => match k with
  | 0 => .int
  | 1 => .int
  | 2 => .int
  | 3 => .int
  | 4 => .array .int
  | 5 => .array .boolean
  | _ => .array .boolean
abbrev wsX00 : List Cond := u_ws RX0 TX0 7
theorem nmX0 : ∀ a, a < 7 → ∀ b, b < 7 → a ≠ b → (TX0 a).2.1 ≠ (TX0 b).2.1 := by decide +kernel
theorem tyX0_ok : ∀ k, k < 7 → parseFieldDescriptor (TX0 k).2.2.1 = some (tyX0 k) := by decide +kernel
abbrev cX0_init : ByteArray := prog_2_method_1_code
def yX0_init : MethodName := ⟨RX0, "<init>", "()V"⟩
abbrev cX0_begin : ByteArray := prog_2_method_2_code
def yX0_begin : MethodName := ⟨RX0, "begin", "(II)V"⟩
abbrev cX0_beginOf : ByteArray := prog_2_method_3_code
def yX0_beginOf : MethodName := ⟨RX0, "beginOf", "(I)I"⟩
abbrev cX0_measure : ByteArray := prog_2_method_4_code
def yX0_measure : MethodName := ⟨RX0, "measure", "(LSliceDrift$Rows;II)V"⟩
abbrev cX0_raise : ByteArray := prog_2_method_5_code
def yX0_raise : MethodName := ⟨RX0, "raise", "(I)I"⟩
def RX1 : String := "SliceDrift$Ranks"
def TX1 : u_T := fun k => match k with
  | 0 => ("SliceDrift$Ranks", "firstRows", "I", false)
  | 1 => ("SliceDrift$Ranks", "secondRows", "I", false)
  | 2 => ("SliceDrift$Ranks", "firsts", "[I", true)
  | 3 => ("SliceDrift$Ranks", "seconds", "[I", true)
  | _ => ("SliceDrift$Ranks", "ways", "[I", true)
def tyX1 : Nat → FieldType := fun k => match k with
  | 0 => .int
  | 1 => .int
  | 2 => .array .int
  | 3 => .array .int
  | _ => .array .int
abbrev wsX10 : List Cond := u_ws RX1 TX1 5
theorem nmX1 : ∀ a, a < 5 → ∀ b, b < 5 → a ≠ b → (TX1 a).2.1 ≠ (TX1 b).2.1 := by decide +kernel
theorem tyX1_ok : ∀ k, k < 5 → parseFieldDescriptor (TX1 k).2.2.1 = some (tyX1 k) := by decide +kernel
abbrev cX1_init : ByteArray := prog_3_method_1_code
def yX1_init : MethodName := ⟨RX1, "<init>", "()V"⟩
abbrev cX1_take : ByteArray := prog_3_method_2_code
def yX1_take : MethodName := ⟨RX1, "take", "(LSliceDrift$Rows;IJJ)V"⟩
abbrev cX1_risen : ByteArray := prog_3_method_3_code
def yX1_risen : MethodName := ⟨RX1, "risen", "()I"⟩
abbrev cX1_waysToRise : ByteArray := prog_3_method_4_code
def yX1_waysToRise : MethodName := ⟨RX1, "waysToRise", "(I)I"⟩
abbrev cX1_addGroup : ByteArray := prog_3_method_5_code
def yX1_addGroup : MethodName := ⟨RX1, "addGroup", "(II)V"⟩
abbrev cX1_moveWays : ByteArray := prog_3_method_6_code
def yX1_moveWays : MethodName := ⟨RX1, "moveWays", "(III)V"⟩
def RX2 : String := "SliceDrift$Rows"
def TX2 : u_T := fun k => match k with
  | 0 => ("SliceDrift$Rows", "size", "I", false)
  | 1 => ("SliceDrift$Rows", "hits", "J", false)
  | 2 => ("SliceDrift$Rows", "times", "[I", true)
  | _ => ("SliceDrift$Rows", "having", "[J", true)
def tyX2 : Nat → FieldType := fun k => match k with
  | 0 => .int
  | 1 => .long
  | 2 => .array .int
  | _ => .array .long
abbrev wsX20 : List Cond := u_ws RX2 TX2 4
theorem nmX2 : ∀ a, a < 4 → ∀ b, b < 4 → a ≠ b → (TX2 a).2.1 ≠ (TX2 b).2.1 := by decide +kernel
theorem tyX2_ok : ∀ k, k < 4 → parseFieldDescriptor (TX2 k).2.2.1 = some (tyX2 k) := by decide +kernel
abbrev cX2_init : ByteArray := prog_4_method_1_code
def yX2_init : MethodName := ⟨RX2, "<init>", "()V"⟩
abbrev cX2_has : ByteArray := prog_4_method_2_code
def yX2_has : MethodName := ⟨RX2, "has", "(I)Z"⟩
abbrev cX2_add : ByteArray := prog_4_method_3_code
def yX2_add : MethodName := ⟨RX2, "add", "(IZ)I"⟩
abbrev cX2_change : ByteArray := prog_4_method_4_code
def yX2_change : MethodName := ⟨RX2, "change", "(III)I"⟩
abbrev cX2_sortAt : ByteArray := prog_4_method_5_code
def yX2_sortAt : MethodName := ⟨RX2, "sortAt", "(II)I"⟩
abbrev cX2_withSort : ByteArray := prog_4_method_6_code
def yX2_withSort : MethodName := ⟨RX2, "withSort", "(II)J"⟩
abbrev cX2_between : ByteArray := prog_4_method_7_code
def yX2_between : MethodName := ⟨RX2, "between", "(II)J"⟩
abbrev cX2_lackingSome : ByteArray := prog_4_method_8_code
def yX2_lackingSome : MethodName := ⟨RX2, "lackingSome", "()J"⟩
abbrev cX2_driftAbove : ByteArray := prog_4_method_9_code
def yX2_driftAbove : MethodName := ⟨RX2, "driftAbove", "(IJJ)I"⟩
abbrev cX2_placeByDrift : ByteArray := prog_4_method_10_code
def yX2_placeByDrift : MethodName := ⟨RX2, "placeByDrift", "(IJJ)I"⟩
def RX3 : String := "SliceDrift$SliceList"
def TX3 : u_T := fun k => match k with
  | 0 => ("SliceDrift$SliceList", "size", "I", false)
  | 1 => ("SliceDrift$SliceList", "hits", "J", false)
  | 2 => ("SliceDrift$SliceList", "members", "[J", true)
  | 3 => ("SliceDrift$SliceList", "firsts", "[I", true)
  | _ => ("SliceDrift$SliceList", "seconds", "[I", true)
def tyX3 : Nat → FieldType := fun k => match k with
  | 0 => .int
  | 1 => .long
  | 2 => .array .long
  | 3 => .array .int
  | _ => .array .int
abbrev wsX30 : List Cond := u_ws RX3 TX3 5
theorem nmX3 : ∀ a, a < 5 → ∀ b, b < 5 → a ≠ b → (TX3 a).2.1 ≠ (TX3 b).2.1 := by decide +kernel
theorem tyX3_ok : ∀ k, k < 5 → parseFieldDescriptor (TX3 k).2.2.1 = some (tyX3 k) := by decide +kernel
abbrev cX3_init : ByteArray := prog_5_method_1_code
def yX3_init : MethodName := ⟨RX3, "<init>", "()V"⟩
abbrev cX3_has : ByteArray := prog_5_method_2_code
def yX3_has : MethodName := ⟨RX3, "has", "(I)Z"⟩
abbrev cX3_make : ByteArray := prog_5_method_3_code
def yX3_make : MethodName := ⟨RX3, "make", "(LSliceDrift$Rows;IZ)V"⟩
abbrev cX3_insertPairs : ByteArray := prog_5_method_4_code
def yX3_insertPairs : MethodName := ⟨RX3, "insertPairs", "(LSliceDrift$Rows;II)V"⟩
abbrev cX3_insert : ByteArray := prog_5_method_5_code
def yX3_insert : MethodName := ⟨RX3, "insert", "(JII)V"⟩
abbrev cX3_placeFor : ByteArray := prog_5_method_6_code
def yX3_placeFor : MethodName := ⟨RX3, "placeFor", "(J)I"⟩
abbrev cX3_isAhead : ByteArray := prog_5_method_7_code
def yX3_isAhead : MethodName := ⟨RX3, "isAhead", "(JJ)Z"⟩
def RX4 : String := "SliceDrift"
def TX4 : u_T := fun k => match k with
  | 0 => ("SliceDrift", "rows", "LSliceDrift$Rows;", true)
  | 1 => ("SliceDrift", "list", "LSliceDrift$SliceList;", true)
  | 2 => ("SliceDrift", "ranks", "LSliceDrift$Ranks;", true)
  | _ => ("SliceDrift", "alarms", "LSliceDrift$Alarms;", true)
def tyX4 : Nat → FieldType := fun k => match k with
  | 0 => .object "SliceDrift$Rows"
  | 1 => .object "SliceDrift$SliceList"
  | 2 => .object "SliceDrift$Ranks"
  | _ => .object "SliceDrift$Alarms"
abbrev wsX40 : List Cond := u_ws RX4 TX4 4
theorem nmX4 : ∀ a, a < 4 → ∀ b, b < 4 → a ≠ b → (TX4 a).2.1 ≠ (TX4 b).2.1 := by decide +kernel
theorem tyX4_ok : ∀ k, k < 4 → parseFieldDescriptor (TX4 k).2.2.1 = some (tyX4 k) := by decide +kernel
abbrev cX4_init : ByteArray := prog_1_method_1_code
def yX4_init : MethodName := ⟨RX4, "<init>", "()V"⟩
abbrev cX4_row : ByteArray := prog_1_method_2_code
def yX4_row : MethodName := ⟨RX4, "row", "(IZ)I"⟩
abbrev cX4_put : ByteArray := prog_1_method_3_code
def yX4_put : MethodName := ⟨RX4, "put", "(III)I"⟩
abbrev cX4_of : ByteArray := prog_1_method_4_code
def yX4_of : MethodName := ⟨RX4, "of", "(II)I"⟩
abbrev cX4_slices : ByteArray := prog_1_method_5_code
def yX4_slices : MethodName := ⟨RX4, "slices", "(II)I"⟩
abbrev cX4_slice : ByteArray := prog_1_method_6_code
def yX4_slice : MethodName := ⟨RX4, "slice", "(II)I"⟩
abbrev cX4_member : ByteArray := prog_1_method_7_code
def yX4_member : MethodName := ⟨RX4, "member", "(II)I"⟩
abbrev cX4_share : ByteArray := prog_1_method_8_code
def yX4_share : MethodName := ⟨RX4, "share", "(III)J"⟩
abbrev cX4_gap : ByteArray := prog_1_method_9_code
def yX4_gap : MethodName := ⟨RX4, "gap", "(IIII)J"⟩
abbrev cX4_window : ByteArray := prog_1_method_10_code
def yX4_window : MethodName := ⟨RX4, "window", "(II)I"⟩
abbrev cX4_drift : ByteArray := prog_1_method_11_code
def yX4_drift : MethodName := ⟨RX4, "drift", "(IIIII)J"⟩
abbrev cX4_rise : ByteArray := prog_1_method_12_code
def yX4_rise : MethodName := ⟨RX4, "rise", "(IIII)I"⟩
abbrev cX4_odds : ByteArray := prog_1_method_13_code
def yX4_odds : MethodName := ⟨RX4, "odds", "(IIIII)J"⟩
abbrev cX4_fresh : ByteArray := prog_1_method_14_code
def yX4_fresh : MethodName := ⟨RX4, "fresh", "(IIIII)I"⟩
abbrev cX4_shift : ByteArray := prog_1_method_15_code
def yX4_shift : MethodName := ⟨RX4, "shift", "(IIIIII)J"⟩
abbrev cX4_order : ByteArray := prog_1_method_16_code
def yX4_order : MethodName := ⟨RX4, "order", "(IIII)I"⟩
abbrev cX4_watch : ByteArray := prog_1_method_17_code
def yX4_watch : MethodName := ⟨RX4, "watch", "(IIIII)I"⟩
abbrev cX4_step : ByteArray := prog_1_method_18_code
def yX4_step : MethodName := ⟨RX4, "step", "(II)I"⟩
abbrev cX4_count : ByteArray := prog_1_method_19_code
def yX4_count : MethodName := ⟨RX4, "count", "(I)I"⟩
abbrev cX4_isWithin : ByteArray := prog_1_method_20_code
def yX4_isWithin : MethodName := ⟨RX4, "isWithin", "(III)Z"⟩
abbrev cX4_isColumn : ByteArray := prog_1_method_21_code
def yX4_isColumn : MethodName := ⟨RX4, "isColumn", "(I)Z"⟩
abbrev cX4_isSort : ByteArray := prog_1_method_22_code
def yX4_isSort : MethodName := ⟨RX4, "isSort", "(I)Z"⟩
abbrev cX4_isPart : ByteArray := prog_1_method_23_code
def yX4_isPart : MethodName := ⟨RX4, "isPart", "(I)Z"⟩
abbrev cX4_areTimes : ByteArray := prog_1_method_24_code
def yX4_areTimes : MethodName := ⟨RX4, "areTimes", "(III)Z"⟩
abbrev cX4_asNumber : ByteArray := prog_1_method_25_code
def yX4_asNumber : MethodName := ⟨RX4, "asNumber", "(Z)I"⟩
abbrev cX4_conditionOf : ByteArray := prog_1_method_26_code
def yX4_conditionOf : MethodName := ⟨RX4, "conditionOf", "(II)I"⟩
abbrev cX4_columnOf : ByteArray := prog_1_method_27_code
def yX4_columnOf : MethodName := ⟨RX4, "columnOf", "(I)I"⟩
abbrev cX4_sortOf : ByteArray := prog_1_method_28_code
def yX4_sortOf : MethodName := ⟨RX4, "sortOf", "(I)I"⟩
abbrev cX4_boundAbove : ByteArray := prog_1_method_29_code
def yX4_boundAbove : MethodName := ⟨RX4, "boundAbove", "(I)I"⟩
abbrev cX4_boundBelow : ByteArray := prog_1_method_30_code
def yX4_boundBelow : MethodName := ⟨RX4, "boundBelow", "(I)I"⟩
abbrev cX4_driftBelow : ByteArray := prog_1_method_31_code
def yX4_driftBelow : MethodName := ⟨RX4, "driftBelow", "(JJ)I"⟩
abbrev cX4_lowest : ByteArray := prog_1_method_32_code
def yX4_lowest : MethodName := ⟨RX4, "lowest", "(JJI)J"⟩
abbrev cX4_commonDivisor : ByteArray := prog_1_method_33_code
def yX4_commonDivisor : MethodName := ⟨RX4, "commonDivisor", "(JJ)J"⟩
abbrev cX4_waysToChoose : ByteArray := prog_1_method_34_code
def yX4_waysToChoose : MethodName := ⟨RX4, "waysToChoose", "(II)I"⟩
def RX5 : String := "SliceDriftModel"
def TX5 : u_T := fun k => match k with
  | 0 => ("SliceDriftModel", "thrown", "I", false)
  | 1 => ("SliceDriftModel", "rows", "I", false)
  | 2 => ("SliceDriftModel", "time", "[I", true)
  | 3 => ("SliceDriftModel", "isHit", "[Z", true)
  | 4 => ("SliceDriftModel", "sort", "[I", true)
  | 5 => ("SliceDriftModel", "listed", "I", false)
  | 6 => ("SliceDriftModel", "firstColumn", "[I", true)
  | 7 => ("SliceDriftModel", "firstSort", "[I", true)
  | 8 => ("SliceDriftModel", "secondColumn", "[I", true)
  | 9 => ("SliceDriftModel", "secondSort", "[I", true)
  | 10 => ("SliceDriftModel", "members", "[J", true)
  | 11 => ("SliceDriftModel", "many", "[I", true)
  | 12 => ("SliceDriftModel", "hits", "[I", true)
  | 13 => ("SliceDriftModel", "first", "[I", true)
  | 14 => ("SliceDriftModel", "second", "[I", true)
  | 15 => ("SliceDriftModel", "firstMany", "I", false)
  | 16 => ("SliceDriftModel", "secondMany", "I", false)
  | 17 => ("SliceDriftModel", "above", "J", false)
  | 18 => ("SliceDriftModel", "below", "J", false)
  | 19 => ("SliceDriftModel", "ways", "[J", true)
  | 20 => ("SliceDriftModel", "more", "[J", true)
  | 21 => ("SliceDriftModel", "choose", "[J", true)
  | 22 => ("SliceDriftModel", "aboves", "[J", true)
  | 23 => ("SliceDriftModel", "order", "[I", true)
  | 24 => ("SliceDriftModel", "steps", "I", false)
  | 25 => ("SliceDriftModel", "alarms", "I", false)
  | 26 => ("SliceDriftModel", "isUp", "[Z", true)
  | 27 => ("SliceDriftModel", "isOff", "[Z", true)
  | 28 => ("SliceDriftModel", "stepRows", "[I", true)
  | _ => ("SliceDriftModel", "begins", "[I", true)
def tyX5 : Nat → FieldType := fun k => match k with
  | 0 => .int
  | 1 => .int
  | 2 => .array .int
  | 3 => .array .boolean
  | 4 => .array .int
  | 5 => .int
  | 6 => .array .int
  | 7 => .array .int
  | 8 => .array .int
  | 9 => .array .int
  | 10 => .array .long
  | 11 => .array .int
  | 12 => .array .int
  | 13 => .array .int
  | 14 => .array .int
  | 15 => .int
  | 16 => .int
  | 17 => .long
  | 18 => .long
  | 19 => .array .long
  | 20 => .array .long
  | 21 => .array .long
  | 22 => .array .long
  | 23 => .array .int
  | 24 => .int
  | 25 => .int
  | 26 => .array .boolean
  | 27 => .array .boolean
  | 28 => .array .int
  | _ => .array .int
abbrev wsX50 : List Cond := u_ws RX5 TX5 30
theorem nmX5 : ∀ a, a < 30 → ∀ b, b < 30 → a ≠ b → (TX5 a).2.1 ≠ (TX5 b).2.1 := by decide +kernel
theorem tyX5_ok : ∀ k, k < 30 → parseFieldDescriptor (TX5 k).2.2.1 = some (tyX5 k) := by decide +kernel
abbrev cX5_init : ByteArray := prog_7_method_1_code
def yX5_init : MethodName := ⟨RX5, "<init>", "()V"⟩
abbrev cX5_thrown : ByteArray := prog_7_method_2_code
def yX5_thrown : MethodName := ⟨RX5, "thrown", "()I"⟩
abbrev cX5_in : ByteArray := prog_7_method_3_code
def yX5_in : MethodName := ⟨RX5, "in", "(III)Z"⟩
abbrev cX5_row : ByteArray := prog_7_method_4_code
def yX5_row : MethodName := ⟨RX5, "row", "(IZ)I"⟩
abbrev cX5_put : ByteArray := prog_7_method_5_code
def yX5_put : MethodName := ⟨RX5, "put", "(III)I"⟩
abbrev cX5_of : ByteArray := prog_7_method_6_code
def yX5_of : MethodName := ⟨RX5, "of", "(II)I"⟩
abbrev cX5_gcd : ByteArray := prog_7_method_7_code
def yX5_gcd : MethodName := ⟨RX5, "gcd", "(JJ)J"⟩
abbrev cX5_part : ByteArray := prog_7_method_8_code
def yX5_part : MethodName := ⟨RX5, "part", "(JJI)J"⟩
abbrev cX5_rowsOf : ByteArray := prog_7_method_9_code
def yX5_rowsOf : MethodName := ⟨RX5, "rowsOf", "(II)J"⟩
abbrev cX5_countOf : ByteArray := prog_7_method_10_code
def yX5_countOf : MethodName := ⟨RX5, "countOf", "(J)I"⟩
abbrev cX5_hitsOf : ByteArray := prog_7_method_11_code
def yX5_hitsOf : MethodName := ⟨RX5, "hitsOf", "(J)I"⟩
abbrev cX5_goesBefore : ByteArray := prog_7_method_12_code
def yX5_goesBefore : MethodName := ⟨RX5, "goesBefore", "(IIIIIII)Z"⟩
abbrev cX5_judge : ByteArray := prog_7_method_13_code
def yX5_judge : MethodName := ⟨RX5, "judge", "(JIIIII)V"⟩
abbrev cX5_slices : ByteArray := prog_7_method_14_code
def yX5_slices : MethodName := ⟨RX5, "slices", "(II)I"⟩
abbrev cX5_slice : ByteArray := prog_7_method_15_code
def yX5_slice : MethodName := ⟨RX5, "slice", "(II)I"⟩
abbrev cX5_member : ByteArray := prog_7_method_16_code
def yX5_member : MethodName := ⟨RX5, "member", "(II)I"⟩
abbrev cX5_share : ByteArray := prog_7_method_17_code
def yX5_share : MethodName := ⟨RX5, "share", "(III)J"⟩
abbrev cX5_gap : ByteArray := prog_7_method_18_code
def yX5_gap : MethodName := ⟨RX5, "gap", "(IIII)J"⟩
abbrev cX5_isWindow : ByteArray := prog_7_method_19_code
def yX5_isWindow : MethodName := ⟨RX5, "isWindow", "(II)Z"⟩
abbrev cX5_isIn : ByteArray := prog_7_method_20_code
def yX5_isIn : MethodName := ⟨RX5, "isIn", "(III)Z"⟩
abbrev cX5_window : ByteArray := prog_7_method_21_code
def yX5_window : MethodName := ⟨RX5, "window", "(II)I"⟩
abbrev cX5_counts : ByteArray := prog_7_method_22_code
def yX5_counts : MethodName := ⟨RX5, "counts", "(IIIII)V"⟩
abbrev cX5_drifts : ByteArray := prog_7_method_23_code
def yX5_drifts : MethodName := ⟨RX5, "drifts", "()Z"⟩
abbrev cX5_areWindows : ByteArray := prog_7_method_24_code
def yX5_areWindows : MethodName := ⟨RX5, "areWindows", "(III)Z"⟩
abbrev cX5_drift : ByteArray := prog_7_method_25_code
def yX5_drift : MethodName := ⟨RX5, "drift", "(IIIII)J"⟩
abbrev cX5_riseOf : ByteArray := prog_7_method_26_code
def yX5_riseOf : MethodName := ⟨RX5, "riseOf", "()I"⟩
abbrev cX5_rise : ByteArray := prog_7_method_27_code
def yX5_rise : MethodName := ⟨RX5, "rise", "(IIII)I"⟩
abbrev cX5_setChoose : ByteArray := prog_7_method_28_code
def yX5_setChoose : MethodName := ⟨RX5, "setChoose", "()V"⟩
abbrev cX5_odds : ByteArray := prog_7_method_29_code
def yX5_odds : MethodName := ⟨RX5, "odds", "(IIIII)J"⟩
abbrev cX5_fresh : ByteArray := prog_7_method_30_code
def yX5_fresh : MethodName := ⟨RX5, "fresh", "(IIIII)I"⟩
abbrev cX5_shift : ByteArray := prog_7_method_31_code
def yX5_shift : MethodName := ⟨RX5, "shift", "(IIIIII)J"⟩
abbrev cX5_order : ByteArray := prog_7_method_32_code
def yX5_order : MethodName := ⟨RX5, "order", "(IIII)I"⟩
abbrev cX5_watch : ByteArray := prog_7_method_33_code
def yX5_watch : MethodName := ⟨RX5, "watch", "(IIIII)I"⟩
abbrev cX5_step : ByteArray := prog_7_method_34_code
def yX5_step : MethodName := ⟨RX5, "step", "(II)I"⟩
abbrev cX5_count : ByteArray := prog_7_method_35_code
def yX5_count : MethodName := ⟨RX5, "count", "(I)I"⟩
def RJ13 : String := "java/lang/Long"
def TJ13 : u_T := fun k => match k with
  | _ => ("", "", "", false)
def tyJ13 : Nat → FieldType := fun k => match k with
  | _ => .int
abbrev wsJ130 : List Cond := u_ws RJ13 TJ13 0
theorem nmJ13 : ∀ a, a < 0 → ∀ b, b < 0 → a ≠ b → (TJ13 a).2.1 ≠ (TJ13 b).2.1 := by decide +kernel
theorem tyJ13_ok : ∀ k, k < 0 → parseFieldDescriptor (TJ13 k).2.2.1 = some (tyJ13 k) := by decide +kernel
abbrev cJ13_bitCount_95d88 : ByteArray := prog_10_method_50_code
def yJ13_bitCount_95d88 : MethodName := ⟨RJ13, "bitCount", "(J)I"⟩
def RJ9 : String := "java/lang/Math"
def TJ9 : u_T := fun k => match k with
  | _ => ("", "", "", false)
def tyJ9 : Nat → FieldType := fun k => match k with
  | _ => .int
abbrev wsJ90 : List Cond := u_ws RJ9 TJ9 0
theorem nmJ9 : ∀ a, a < 0 → ∀ b, b < 0 → a ≠ b → (TJ9 a).2.1 ≠ (TJ9 b).2.1 := by decide +kernel
theorem tyJ9_ok : ∀ k, k < 0 → parseFieldDescriptor (TJ9 k).2.2.1 = some (tyJ9 k) := by decide +kernel
abbrev cJ9_abs_0f7a4 : ByteArray := prog_11_method_59_code
def yJ9_abs_0f7a4 : MethodName := ⟨RJ9, "abs", "(I)I"⟩
abbrev cJ9_abs_067f4 : ByteArray := prog_11_method_61_code
def yJ9_abs_067f4 : MethodName := ⟨RJ9, "abs", "(J)J"⟩
abbrev cJ9_max_7cf53 : ByteArray := prog_11_method_65_code
def yJ9_max_7cf53 : MethodName := ⟨RJ9, "max", "(II)I"⟩
abbrev cJ9_max_f86c9 : ByteArray := prog_11_method_66_code
def yJ9_max_f86c9 : MethodName := ⟨RJ9, "max", "(JJ)J"⟩
abbrev cJ9_min_7cf53 : ByteArray := prog_11_method_69_code
def yJ9_min_7cf53 : MethodName := ⟨RJ9, "min", "(II)I"⟩
def RJ0 : String := "java/lang/String"
def TJ0 : u_T := fun k => match k with
  | _ => ("", "", "", false)
def tyJ0 : Nat → FieldType := fun k => match k with
  | _ => .int
abbrev wsJ00 : List Cond := u_ws RJ0 TJ0 0
theorem nmJ0 : ∀ a, a < 0 → ∀ b, b < 0 → a ≠ b → (TJ0 a).2.1 ≠ (TJ0 b).2.1 := by decide +kernel
theorem tyJ0_ok : ∀ k, k < 0 → parseFieldDescriptor (TJ0 k).2.2.1 = some (tyJ0 k) := by decide +kernel
def RJ10 : String := "java/lang/System"
def TJ10 : u_T := fun k => match k with
  | _ => ("", "", "", false)
def tyJ10 : Nat → FieldType := fun k => match k with
  | _ => .int
abbrev wsJ100 : List Cond := u_ws RJ10 TJ10 0
theorem nmJ10 : ∀ a, a < 0 → ∀ b, b < 0 → a ≠ b → (TJ10 a).2.1 ≠ (TJ10 b).2.1 := by decide +kernel
theorem tyJ10_ok : ∀ k, k < 0 → parseFieldDescriptor (TJ10 k).2.2.1 = some (tyJ10 k) := by decide +kernel
def RJ7 : String := "java/util/Arrays"
def TJ7 : u_T := fun k => match k with
  | _ => ("", "", "", false)
def tyJ7 : Nat → FieldType := fun k => match k with
  | _ => .int
abbrev wsJ70 : List Cond := u_ws RJ7 TJ7 0
theorem nmJ7 : ∀ a, a < 0 → ∀ b, b < 0 → a ≠ b → (TJ7 a).2.1 ≠ (TJ7 b).2.1 := by decide +kernel
theorem tyJ7_ok : ∀ k, k < 0 → parseFieldDescriptor (TJ7 k).2.2.1 = some (tyJ7 k) := by decide +kernel
abbrev cJ7_fill_53178 : ByteArray := prog_16_method_103_code
def yJ7_fill_53178 : MethodName := ⟨RJ7, "fill", "([II)V"⟩
def RL : String := "SliceDriftLaw"
abbrev cL_gap : ByteArray := method_3_code
def yL_gap : MethodName := ⟨RL, "gap", "(LSliceDrift;IIII[J)I"⟩
abbrev cL_drift : ByteArray := method_4_code
def yL_drift : MethodName := ⟨RL, "drift", "(LSliceDrift;IIIII[J)I"⟩
abbrev cL_shift : ByteArray := method_5_code
def yL_shift : MethodName := ⟨RL, "shift", "(LSliceDrift;IIIIII[J)I"⟩
abbrev cL_order : ByteArray := method_6_code
def yL_order : MethodName := ⟨RL, "order", "(LSliceDrift;IIII[J)I"⟩
abbrev cL_law : ByteArray := code
def yL_law : MethodName := ⟨RL, "law", "([I)Z"⟩
def wsX0_init : List Cond := .code yX0_init cX0_init 1 none :: ([.methodLink RX0 3 objectInit, .instanceMethod objectInit, .code objectInit ⟨#[0xb1]⟩ 1 none, .fieldLink RX0 9 "SliceDrift$Alarms" "base" "I", .fieldLink RX0 15 "SliceDrift$Alarms" "length" "I", .fieldLink RX0 18 "SliceDrift$Alarms" "size" "I", .fieldLink RX0 21 "SliceDrift$Alarms" "begun" "I", .arrayClass .int, .fieldLink RX0 24 "SliceDrift$Alarms" "stepRows" "[I", .arrayClass .boolean, .fieldLink RX0 28 "SliceDrift$Alarms" "off" "[Z", .fieldLink RX0 32 "SliceDrift$Alarms" "up" "[Z"] ++ wsX00)
def wsX0_beginOf : List Cond := .code yX0_beginOf cX0_beginOf 2 (some .int) :: ([.fieldLink RX0 9 "SliceDrift$Alarms" "base" "I", .fieldLink RX0 15 "SliceDrift$Alarms" "length" "I"] ++ wsX00)
def wsX0_begin : List Cond := .code yX0_begin cX0_begin 4 none :: ([.fieldLink RX0 9 "SliceDrift$Alarms" "base" "I", .fieldLink RX0 15 "SliceDrift$Alarms" "length" "I", .fieldLink RX0 18 "SliceDrift$Alarms" "size" "I", .methodLink RX0 35 yX0_beginOf, .instanceMethod yX0_beginOf, .selects RX0 yX0_beginOf yX0_beginOf, .initialized RX0, .code yX0_beginOf cX0_beginOf 2 (some .int)] ++ wsX00)
def wsX2_between : List Cond := .code yX2_between cX2_between 6 (some .long) :: ([.fieldLink RX2 9 "SliceDrift$Rows" "size" "I", .fieldLink RX2 19 "SliceDrift$Rows" "times" "[I"] ++ wsX20)
def wsJ13_bitCount_95d88 : List Cond := .code yJ13_bitCount_95d88 cJ13_bitCount_95d88 2 (some .int) :: ([.constantLong RJ13 314 (6148914691236517205), .constantLong RJ13 316 (3689348814741910323), .constantLong RJ13 318 (1085102592571150095)])
def wsX4_conditionOf : List Cond := .code yX4_conditionOf cX4_conditionOf 2 (some .int) :: ([])
def wsX2_withSort : List Cond := .code yX2_withSort cX2_withSort 3 (some .long) :: ([.fieldLink RX2 23 "SliceDrift$Rows" "having" "[J", .static yX4_conditionOf, .initialized RX4, .code yX4_conditionOf cX4_conditionOf 2 (some .int)] ++ wsX20)
def wsX2_driftAbove : List Cond := .code yX2_driftAbove cX2_driftAbove 12 (some .int) :: ([.methodLink RX2 50 Lib.Math.abs.name, .static Lib.Math.abs.name, .initialized "java/lang/Math", .code Lib.Math.abs.name Lib.Math.abs.code 1 (some .int), .methodLink RX2 44 yJ13_bitCount_95d88, .static yJ13_bitCount_95d88, .initialized RJ13, .code yJ13_bitCount_95d88 cJ13_bitCount_95d88 2 (some .int), .constantLong RJ13 314 (6148914691236517205), .constantLong RJ13 316 (3689348814741910323), .constantLong RJ13 318 (1085102592571150095), .methodLink RX2 40 yX2_withSort, .instanceMethod yX2_withSort, .selects RX2 yX2_withSort yX2_withSort, .initialized RX2, .code yX2_withSort cX2_withSort 3 (some .long), .fieldLink RX2 23 "SliceDrift$Rows" "having" "[J", .static yX4_conditionOf, .initialized RX4, .code yX4_conditionOf cX4_conditionOf 2 (some .int)] ++ wsX20)
def wsX4_driftBelow : List Cond := .code yX4_driftBelow cX4_driftBelow 4 (some .int) :: ([.methodLink RX4 102 yJ13_bitCount_95d88, .static yJ13_bitCount_95d88, .initialized RJ13, .code yJ13_bitCount_95d88 cJ13_bitCount_95d88 2 (some .int), .constantLong RJ13 314 (6148914691236517205), .constantLong RJ13 316 (3689348814741910323), .constantLong RJ13 318 (1085102592571150095)])
def wsX0_measure_r1 : List Cond := [Cond.fieldLink RX0 9 "SliceDrift$Alarms" "base" "I", Cond.fieldLink RX0 18 "SliceDrift$Alarms" "size" "I", Cond.methodLink RX0 45 Lib.Math.min.name, Cond.static Lib.Math.min.name, Cond.initialized "java/lang/Math", Cond.code Lib.Math.min.name Lib.Math.min.code 2 (some .int), Cond.fieldLink RX0 24 "SliceDrift$Alarms" "stepRows" "[I", Cond.fieldLink RX0 28 "SliceDrift$Alarms" "off" "[Z", Cond.methodLink RX0 39 yX2_between, Cond.instanceMethod yX2_between, Cond.selects RX2 yX2_between yX2_between, Cond.initialized RX2, Cond.code yX2_between cX2_between 6 (some .long), Cond.fieldLink RX2 9 "SliceDrift$Rows" "size" "I", Cond.fieldLink RX2 19 "SliceDrift$Rows" "times" "[I", Cond.methodLink RX0 35 yX0_beginOf, Cond.instanceMethod yX0_beginOf, Cond.selects RX0 yX0_beginOf yX0_beginOf, Cond.initialized RX0, Cond.code yX0_beginOf cX0_beginOf 2 (some .int), Cond.fieldLink RX0 15 "SliceDrift$Alarms" "length" "I", Cond.methodLink RX0 51 yJ13_bitCount_95d88, Cond.static yJ13_bitCount_95d88, Cond.initialized RJ13]
def wsX0_measure_r2 : List Cond := [Cond.code yJ13_bitCount_95d88 cJ13_bitCount_95d88 2 (some .int), Cond.constantLong RJ13 314 (6148914691236517205), Cond.constantLong RJ13 316 (3689348814741910323), Cond.constantLong RJ13 318 (1085102592571150095), Cond.methodLink RX0 57 yX2_driftAbove, Cond.instanceMethod yX2_driftAbove, Cond.selects RX2 yX2_driftAbove yX2_driftAbove, Cond.code yX2_driftAbove cX2_driftAbove 12 (some .int), Cond.methodLink RX2 50 Lib.Math.abs.name, Cond.static Lib.Math.abs.name, Cond.code Lib.Math.abs.name Lib.Math.abs.code 1 (some .int), Cond.methodLink RX2 44 yJ13_bitCount_95d88, Cond.methodLink RX2 40 yX2_withSort, Cond.instanceMethod yX2_withSort, Cond.selects RX2 yX2_withSort yX2_withSort, Cond.code yX2_withSort cX2_withSort 3 (some .long), Cond.fieldLink RX2 23 "SliceDrift$Rows" "having" "[J", Cond.static yX4_conditionOf, Cond.initialized RX4, Cond.code yX4_conditionOf cX4_conditionOf 2 (some .int), Cond.static yX4_driftBelow, Cond.code yX4_driftBelow cX4_driftBelow 4 (some .int), Cond.methodLink RX4 102 yJ13_bitCount_95d88]
def wsX0_measure : List Cond := .code yX0_measure cX0_measure 9 none :: ((wsX0_measure_r1 ++ wsX0_measure_r2) ++ wsX00 ++ wsX20)
def wsX0_raise : List Cond := .code yX0_raise cX0_raise 6 (some .int) :: ([.fieldLink RX0 21 "SliceDrift$Alarms" "begun" "I", .fieldLink RX0 18 "SliceDrift$Alarms" "size" "I", .fieldLink RX0 28 "SliceDrift$Alarms" "off" "[Z", .fieldLink RX0 24 "SliceDrift$Alarms" "stepRows" "[I", .fieldLink RX0 32 "SliceDrift$Alarms" "up" "[Z"] ++ wsX00)
def wsX1_init : List Cond := .code yX1_init cX1_init 1 none :: ([.methodLink RX1 5 objectInit, .instanceMethod objectInit, .code objectInit ⟨#[0xb1]⟩ 1 none, .fieldLink RX1 11 "SliceDrift$Ranks" "firstRows" "I", .fieldLink RX1 15 "SliceDrift$Ranks" "secondRows" "I", .arrayClass .int, .fieldLink RX1 18 "SliceDrift$Ranks" "firsts" "[I", .fieldLink RX1 22 "SliceDrift$Ranks" "seconds" "[I", .fieldLink RX1 25 "SliceDrift$Ranks" "ways" "[I"] ++ wsX10)
def wsX1_take : List Cond := .code yX1_take cX1_take 8 none :: ([.fieldLink RX1 11 "SliceDrift$Ranks" "firstRows" "I", .fieldLink RX1 15 "SliceDrift$Ranks" "secondRows" "I", .fieldLink RX1 18 "SliceDrift$Ranks" "firsts" "[I", .fieldLink RX1 22 "SliceDrift$Ranks" "seconds" "[I", .methodLink RX1 28 yX2_withSort, .instanceMethod yX2_withSort, .selects RX2 yX2_withSort yX2_withSort, .initialized RX2, .code yX2_withSort cX2_withSort 3 (some .long), .fieldLink RX2 23 "SliceDrift$Rows" "having" "[J", .static yX4_conditionOf, .initialized RX4, .code yX4_conditionOf cX4_conditionOf 2 (some .int), .methodLink RX1 34 yJ13_bitCount_95d88, .static yJ13_bitCount_95d88, .initialized RJ13, .code yJ13_bitCount_95d88 cJ13_bitCount_95d88 2 (some .int), .constantLong RJ13 314 (6148914691236517205), .constantLong RJ13 316 (3689348814741910323), .constantLong RJ13 318 (1085102592571150095)] ++ wsX10 ++ wsX20)
def wsX1_risen : List Cond := .code yX1_risen cX1_risen 4 (some .int) :: ([.fieldLink RX1 22 "SliceDrift$Ranks" "seconds" "[I", .fieldLink RX1 18 "SliceDrift$Ranks" "firsts" "[I"] ++ wsX10)
def wsJ7_fill_53178 : List Cond := .code yJ7_fill_53178 cJ7_fill_53178 4 none :: ([])
def wsX4_waysToChoose : List Cond := .code yX4_waysToChoose cX4_waysToChoose 4 (some .int) :: ([])
def wsX1_moveWays : List Cond := .code yX1_moveWays cX1_moveWays 8 none :: ([.fieldLink RX1 25 "SliceDrift$Ranks" "ways" "[I", .fieldLink RX1 11 "SliceDrift$Ranks" "firstRows" "I", .static yX4_waysToChoose, .initialized RX4, .code yX4_waysToChoose cX4_waysToChoose 4 (some .int)] ++ wsX10)
def wsX1_addGroup : List Cond := .code yX1_addGroup cX1_addGroup 5 none :: ([.fieldLink RX1 11 "SliceDrift$Ranks" "firstRows" "I", .methodLink RX1 56 Lib.Math.min.name, .static Lib.Math.min.name, .initialized "java/lang/Math", .code Lib.Math.min.name Lib.Math.min.code 2 (some .int), .methodLink RX1 59 yX1_moveWays, .instanceMethod yX1_moveWays, .selects RX1 yX1_moveWays yX1_moveWays, .initialized RX1, .code yX1_moveWays cX1_moveWays 8 none, .fieldLink RX1 25 "SliceDrift$Ranks" "ways" "[I", .static yX4_waysToChoose, .initialized RX4, .code yX4_waysToChoose cX4_waysToChoose 4 (some .int)] ++ wsX10)
def wsX1_waysToRise_r1 : List Cond := [Cond.fieldLink RX1 11 "SliceDrift$Ranks" "firstRows" "I", Cond.fieldLink RX1 15 "SliceDrift$Ranks" "secondRows" "I", Cond.fieldLink RX1 25 "SliceDrift$Ranks" "ways" "[I", Cond.fieldLink RX1 18 "SliceDrift$Ranks" "firsts" "[I", Cond.fieldLink RX1 22 "SliceDrift$Ranks" "seconds" "[I", Cond.methodLink RX1 50 Lib.Math.max.name, Cond.static Lib.Math.max.name, Cond.initialized "java/lang/Math", Cond.code Lib.Math.max.name Lib.Math.max.code 2 (some .int), Cond.methodLink RX1 40 yJ7_fill_53178, Cond.static yJ7_fill_53178, Cond.initialized RJ7, Cond.code yJ7_fill_53178 cJ7_fill_53178 4 none, Cond.methodLink RX1 46 yX1_addGroup, Cond.instanceMethod yX1_addGroup, Cond.selects RX1 yX1_addGroup yX1_addGroup, Cond.initialized RX1, Cond.code yX1_addGroup cX1_addGroup 5 none, Cond.methodLink RX1 56 Lib.Math.min.name, Cond.static Lib.Math.min.name, Cond.code Lib.Math.min.name Lib.Math.min.code 2 (some .int), Cond.methodLink RX1 59 yX1_moveWays, Cond.instanceMethod yX1_moveWays, Cond.selects RX1 yX1_moveWays yX1_moveWays]
def wsX1_waysToRise_r2 : List Cond := [Cond.code yX1_moveWays cX1_moveWays 8 none, Cond.static yX4_waysToChoose, Cond.initialized RX4, Cond.code yX4_waysToChoose cX4_waysToChoose 4 (some .int)]
def wsX1_waysToRise : List Cond := .code yX1_waysToRise cX1_waysToRise 5 (some .int) :: ((wsX1_waysToRise_r1 ++ wsX1_waysToRise_r2) ++ wsX10)
def wsX2_init : List Cond := .code yX2_init cX2_init 1 none :: ([.methodLink RX2 3 objectInit, .instanceMethod objectInit, .code objectInit ⟨#[0xb1]⟩ 1 none, .fieldLink RX2 9 "SliceDrift$Rows" "size" "I", .fieldLink RX2 15 "SliceDrift$Rows" "hits" "J", .arrayClass .int, .fieldLink RX2 19 "SliceDrift$Rows" "times" "[I", .arrayClass .long, .fieldLink RX2 23 "SliceDrift$Rows" "having" "[J"] ++ wsX20)
def wsX4_isWithin : List Cond := .code yX4_isWithin cX4_isWithin 3 (some .boolean) :: ([])
def wsX2_has : List Cond := .code yX2_has cX2_has 2 (some .boolean) :: ([.fieldLink RX2 9 "SliceDrift$Rows" "size" "I", .static yX4_isWithin, .initialized RX4, .code yX4_isWithin cX4_isWithin 3 (some .boolean)] ++ wsX20)
def wsX2_add : List Cond := .code yX2_add cX2_add 5 (some .int) :: ([.fieldLink RX2 9 "SliceDrift$Rows" "size" "I", .fieldLink RX2 19 "SliceDrift$Rows" "times" "[I", .fieldLink RX2 15 "SliceDrift$Rows" "hits" "J", .fieldLink RX2 23 "SliceDrift$Rows" "having" "[J", .static yX4_conditionOf, .initialized RX4, .code yX4_conditionOf cX4_conditionOf 2 (some .int)] ++ wsX20)
def wsX2_sortAt : List Cond := .code yX2_sortAt cX2_sortAt 4 (some .int) :: ([.methodLink RX2 40 yX2_withSort, .instanceMethod yX2_withSort, .selects RX2 yX2_withSort yX2_withSort, .initialized RX2, .code yX2_withSort cX2_withSort 3 (some .long), .fieldLink RX2 23 "SliceDrift$Rows" "having" "[J", .static yX4_conditionOf, .initialized RX4, .code yX4_conditionOf cX4_conditionOf 2 (some .int)] ++ wsX20)
def wsX2_change : List Cond := .code yX2_change cX2_change 5 (some .int) :: ([.fieldLink RX2 23 "SliceDrift$Rows" "having" "[J", .constantLong RX2 38 (-1), .methodLink RX2 35 yX2_sortAt, .instanceMethod yX2_sortAt, .selects RX2 yX2_sortAt yX2_sortAt, .initialized RX2, .code yX2_sortAt cX2_sortAt 4 (some .int), .methodLink RX2 40 yX2_withSort, .instanceMethod yX2_withSort, .selects RX2 yX2_withSort yX2_withSort, .code yX2_withSort cX2_withSort 3 (some .long), .static yX4_conditionOf, .initialized RX4, .code yX4_conditionOf cX4_conditionOf 2 (some .int)] ++ wsX20)
def wsX2_lackingSome : List Cond := .code yX2_lackingSome cX2_lackingSome 4 (some .long) :: ([.methodLink RX2 40 yX2_withSort, .instanceMethod yX2_withSort, .selects RX2 yX2_withSort yX2_withSort, .initialized RX2, .code yX2_withSort cX2_withSort 3 (some .long), .fieldLink RX2 23 "SliceDrift$Rows" "having" "[J", .static yX4_conditionOf, .initialized RX4, .code yX4_conditionOf cX4_conditionOf 2 (some .int)] ++ wsX20)
def wsX2_placeByDrift : List Cond := .code yX2_placeByDrift cX2_placeByDrift 10 (some .int) :: ([.methodLink RX2 56 yX2_driftAbove, .instanceMethod yX2_driftAbove, .selects RX2 yX2_driftAbove yX2_driftAbove, .initialized RX2, .code yX2_driftAbove cX2_driftAbove 12 (some .int), .methodLink RX2 50 Lib.Math.abs.name, .static Lib.Math.abs.name, .initialized "java/lang/Math", .code Lib.Math.abs.name Lib.Math.abs.code 1 (some .int), .methodLink RX2 44 yJ13_bitCount_95d88, .static yJ13_bitCount_95d88, .initialized RJ13, .code yJ13_bitCount_95d88 cJ13_bitCount_95d88 2 (some .int), .constantLong RJ13 314 (6148914691236517205), .constantLong RJ13 316 (3689348814741910323), .constantLong RJ13 318 (1085102592571150095), .methodLink RX2 40 yX2_withSort, .instanceMethod yX2_withSort, .selects RX2 yX2_withSort yX2_withSort, .code yX2_withSort cX2_withSort 3 (some .long), .fieldLink RX2 23 "SliceDrift$Rows" "having" "[J", .static yX4_conditionOf, .initialized RX4, .code yX4_conditionOf cX4_conditionOf 2 (some .int)] ++ wsX20)
def wsX3_init : List Cond := .code yX3_init cX3_init 1 none :: ([.methodLink RX3 3 objectInit, .instanceMethod objectInit, .code objectInit ⟨#[0xb1]⟩ 1 none, .fieldLink RX3 9 "SliceDrift$SliceList" "size" "I", .fieldLink RX3 15 "SliceDrift$SliceList" "hits" "J", .arrayClass .long, .fieldLink RX3 19 "SliceDrift$SliceList" "members" "[J", .arrayClass .int, .fieldLink RX3 23 "SliceDrift$SliceList" "firsts" "[I", .fieldLink RX3 27 "SliceDrift$SliceList" "seconds" "[I"] ++ wsX30)
def wsX3_has : List Cond := .code yX3_has cX3_has 2 (some .boolean) :: ([.fieldLink RX3 9 "SliceDrift$SliceList" "size" "I", .static yX4_isWithin, .initialized RX4, .code yX4_isWithin cX4_isWithin 3 (some .boolean)] ++ wsX30)
def wsX4_boundAbove : List Cond := .code yX4_boundAbove cX4_boundAbove 1 (some .int) :: ([])
def wsX4_boundBelow : List Cond := .code yX4_boundBelow cX4_boundBelow 1 (some .int) :: ([])
def wsX3_isAhead : List Cond := .code yX3_isAhead cX3_isAhead 9 (some .boolean) :: ([.fieldLink RX3 15 "SliceDrift$SliceList" "hits" "J", .methodLink RX3 40 yJ13_bitCount_95d88, .static yJ13_bitCount_95d88, .initialized RJ13, .code yJ13_bitCount_95d88 cJ13_bitCount_95d88 2 (some .int), .constantLong RJ13 314 (6148914691236517205), .constantLong RJ13 316 (3689348814741910323), .constantLong RJ13 318 (1085102592571150095), .static yX4_boundAbove, .initialized RX4, .code yX4_boundAbove cX4_boundAbove 1 (some .int), .static yX4_boundBelow, .code yX4_boundBelow cX4_boundBelow 1 (some .int)] ++ wsX30)
def wsX3_placeFor : List Cond := .code yX3_placeFor cX3_placeFor 7 (some .int) :: ([.fieldLink RX3 9 "SliceDrift$SliceList" "size" "I", .fieldLink RX3 19 "SliceDrift$SliceList" "members" "[J", .methodLink RX3 71 yX3_isAhead, .instanceMethod yX3_isAhead, .selects RX3 yX3_isAhead yX3_isAhead, .initialized RX3, .code yX3_isAhead cX3_isAhead 9 (some .boolean), .fieldLink RX3 15 "SliceDrift$SliceList" "hits" "J", .methodLink RX3 40 yJ13_bitCount_95d88, .static yJ13_bitCount_95d88, .initialized RJ13, .code yJ13_bitCount_95d88 cJ13_bitCount_95d88 2 (some .int), .constantLong RJ13 314 (6148914691236517205), .constantLong RJ13 316 (3689348814741910323), .constantLong RJ13 318 (1085102592571150095), .static yX4_boundAbove, .initialized RX4, .code yX4_boundAbove cX4_boundAbove 1 (some .int), .static yX4_boundBelow, .code yX4_boundBelow cX4_boundBelow 1 (some .int)] ++ wsX30)
def wsX3_insert_r1 : List Cond := [Cond.fieldLink RX3 9 "SliceDrift$SliceList" "size" "I", Cond.fieldLink RX3 19 "SliceDrift$SliceList" "members" "[J", Cond.methodLink RX3 65 arraycopyName, Cond.native arraycopyName, Cond.static arraycopyName, Cond.initialized "java/lang/System", Cond.fieldLink RX3 23 "SliceDrift$SliceList" "firsts" "[I", Cond.fieldLink RX3 27 "SliceDrift$SliceList" "seconds" "[I", Cond.methodLink RX3 62 yX3_placeFor, Cond.instanceMethod yX3_placeFor, Cond.selects RX3 yX3_placeFor yX3_placeFor, Cond.initialized RX3, Cond.code yX3_placeFor cX3_placeFor 7 (some .int), Cond.methodLink RX3 71 yX3_isAhead, Cond.instanceMethod yX3_isAhead, Cond.selects RX3 yX3_isAhead yX3_isAhead, Cond.code yX3_isAhead cX3_isAhead 9 (some .boolean), Cond.fieldLink RX3 15 "SliceDrift$SliceList" "hits" "J", Cond.methodLink RX3 40 yJ13_bitCount_95d88, Cond.static yJ13_bitCount_95d88, Cond.initialized RJ13, Cond.code yJ13_bitCount_95d88 cJ13_bitCount_95d88 2 (some .int), Cond.constantLong RJ13 314 (6148914691236517205), Cond.constantLong RJ13 316 (3689348814741910323)]
def wsX3_insert_r2 : List Cond := [Cond.constantLong RJ13 318 (1085102592571150095), Cond.static yX4_boundAbove, Cond.initialized RX4, Cond.code yX4_boundAbove cX4_boundAbove 1 (some .int), Cond.static yX4_boundBelow, Cond.code yX4_boundBelow cX4_boundBelow 1 (some .int)]
def wsX3_insert : List Cond := .code yX3_insert cX3_insert 6 none :: ((wsX3_insert_r1 ++ wsX3_insert_r2) ++ wsX30)
def wsX4_columnOf : List Cond := .code yX4_columnOf cX4_columnOf 1 (some .int) :: ([])
def wsX3_insertPairs_r1 : List Cond := [Cond.static yX4_columnOf, Cond.initialized RX4, Cond.code yX4_columnOf cX4_columnOf 1 (some .int), Cond.static yX4_conditionOf, Cond.code yX4_conditionOf cX4_conditionOf 2 (some .int), Cond.methodLink RX3 40 yJ13_bitCount_95d88, Cond.static yJ13_bitCount_95d88, Cond.initialized RJ13, Cond.code yJ13_bitCount_95d88 cJ13_bitCount_95d88 2 (some .int), Cond.constantLong RJ13 314 (6148914691236517205), Cond.constantLong RJ13 316 (3689348814741910323), Cond.constantLong RJ13 318 (1085102592571150095), Cond.methodLink RX3 46 yX3_insert, Cond.instanceMethod yX3_insert, Cond.selects RX3 yX3_insert yX3_insert, Cond.initialized RX3, Cond.code yX3_insert cX3_insert 6 none, Cond.fieldLink RX3 9 "SliceDrift$SliceList" "size" "I", Cond.fieldLink RX3 19 "SliceDrift$SliceList" "members" "[J", Cond.methodLink RX3 65 arraycopyName, Cond.native arraycopyName, Cond.static arraycopyName, Cond.initialized "java/lang/System", Cond.fieldLink RX3 23 "SliceDrift$SliceList" "firsts" "[I"]
def wsX3_insertPairs_r2 : List Cond := [Cond.fieldLink RX3 27 "SliceDrift$SliceList" "seconds" "[I", Cond.methodLink RX3 62 yX3_placeFor, Cond.instanceMethod yX3_placeFor, Cond.selects RX3 yX3_placeFor yX3_placeFor, Cond.code yX3_placeFor cX3_placeFor 7 (some .int), Cond.methodLink RX3 71 yX3_isAhead, Cond.instanceMethod yX3_isAhead, Cond.selects RX3 yX3_isAhead yX3_isAhead, Cond.code yX3_isAhead cX3_isAhead 9 (some .boolean), Cond.fieldLink RX3 15 "SliceDrift$SliceList" "hits" "J", Cond.static yX4_boundAbove, Cond.code yX4_boundAbove cX4_boundAbove 1 (some .int), Cond.static yX4_boundBelow, Cond.code yX4_boundBelow cX4_boundBelow 1 (some .int)]
def wsX3_insertPairs : List Cond := .code yX3_insertPairs cX3_insertPairs 11 none :: ((wsX3_insertPairs_r1 ++ wsX3_insertPairs_r2) ++ wsX20 ++ wsX30)
def wsX3_make_r1 : List Cond := [Cond.fieldLink RX3 9 "SliceDrift$SliceList" "size" "I", Cond.fieldLink RX3 15 "SliceDrift$SliceList" "hits" "J", Cond.methodLink RX3 40 yJ13_bitCount_95d88, Cond.static yJ13_bitCount_95d88, Cond.initialized RJ13, Cond.code yJ13_bitCount_95d88 cJ13_bitCount_95d88 2 (some .int), Cond.constantLong RJ13 314 (6148914691236517205), Cond.constantLong RJ13 316 (3689348814741910323), Cond.constantLong RJ13 318 (1085102592571150095), Cond.methodLink RX3 46 yX3_insert, Cond.instanceMethod yX3_insert, Cond.selects RX3 yX3_insert yX3_insert, Cond.initialized RX3, Cond.code yX3_insert cX3_insert 6 none, Cond.fieldLink RX3 19 "SliceDrift$SliceList" "members" "[J", Cond.methodLink RX3 65 arraycopyName, Cond.native arraycopyName, Cond.static arraycopyName, Cond.initialized "java/lang/System", Cond.fieldLink RX3 23 "SliceDrift$SliceList" "firsts" "[I", Cond.fieldLink RX3 27 "SliceDrift$SliceList" "seconds" "[I", Cond.methodLink RX3 62 yX3_placeFor, Cond.instanceMethod yX3_placeFor, Cond.selects RX3 yX3_placeFor yX3_placeFor]
def wsX3_make_r2 : List Cond := [Cond.code yX3_placeFor cX3_placeFor 7 (some .int), Cond.methodLink RX3 71 yX3_isAhead, Cond.instanceMethod yX3_isAhead, Cond.selects RX3 yX3_isAhead yX3_isAhead, Cond.code yX3_isAhead cX3_isAhead 9 (some .boolean), Cond.static yX4_boundAbove, Cond.initialized RX4, Cond.code yX4_boundAbove cX4_boundAbove 1 (some .int), Cond.static yX4_boundBelow, Cond.code yX4_boundBelow cX4_boundBelow 1 (some .int), Cond.methodLink RX3 50 yX3_insertPairs, Cond.instanceMethod yX3_insertPairs, Cond.selects RX3 yX3_insertPairs yX3_insertPairs, Cond.code yX3_insertPairs cX3_insertPairs 11 none, Cond.static yX4_columnOf, Cond.code yX4_columnOf cX4_columnOf 1 (some .int), Cond.static yX4_conditionOf, Cond.code yX4_conditionOf cX4_conditionOf 2 (some .int)]
def wsX3_make : List Cond := .code yX3_make cX3_make 7 none :: ((wsX3_make_r1 ++ wsX3_make_r2) ++ wsX30 ++ wsX20)
def wsX4_init_r1 : List Cond := [Cond.methodLink RX4 1 objectInit, Cond.instanceMethod objectInit, Cond.code objectInit ⟨#[0xb1]⟩ 1 none, Cond.classLink RX4 7 RX2, Cond.instantiable RX2 4, Cond.initialized RX2, Cond.fieldLink RX4 10 "SliceDrift" "rows" "LSliceDrift$Rows;", Cond.classLink RX4 16 RX3, Cond.instantiable RX3 5, Cond.initialized RX3, Cond.fieldLink RX4 19 "SliceDrift" "list" "LSliceDrift$SliceList;", Cond.classLink RX4 23 RX1, Cond.instantiable RX1 5, Cond.initialized RX1, Cond.fieldLink RX4 26 "SliceDrift" "ranks" "LSliceDrift$Ranks;", Cond.classLink RX4 30 RX0, Cond.instantiable RX0 7, Cond.initialized RX0, Cond.fieldLink RX4 33 "SliceDrift" "alarms" "LSliceDrift$Alarms;", Cond.instanceMethod yX2_init, Cond.code yX2_init cX2_init 1 none, Cond.methodLink RX2 3 objectInit, Cond.fieldLink RX2 9 "SliceDrift$Rows" "size" "I", Cond.fieldLink RX2 15 "SliceDrift$Rows" "hits" "J"]
def wsX4_init_r2 : List Cond := [Cond.arrayClass .int, Cond.fieldLink RX2 19 "SliceDrift$Rows" "times" "[I", Cond.arrayClass .long, Cond.fieldLink RX2 23 "SliceDrift$Rows" "having" "[J", Cond.instanceMethod yX3_init, Cond.code yX3_init cX3_init 1 none, Cond.methodLink RX3 3 objectInit, Cond.fieldLink RX3 9 "SliceDrift$SliceList" "size" "I", Cond.fieldLink RX3 15 "SliceDrift$SliceList" "hits" "J", Cond.fieldLink RX3 19 "SliceDrift$SliceList" "members" "[J", Cond.fieldLink RX3 23 "SliceDrift$SliceList" "firsts" "[I", Cond.fieldLink RX3 27 "SliceDrift$SliceList" "seconds" "[I", Cond.instanceMethod yX1_init, Cond.code yX1_init cX1_init 1 none, Cond.methodLink RX1 5 objectInit, Cond.fieldLink RX1 11 "SliceDrift$Ranks" "firstRows" "I", Cond.fieldLink RX1 15 "SliceDrift$Ranks" "secondRows" "I", Cond.fieldLink RX1 18 "SliceDrift$Ranks" "firsts" "[I", Cond.fieldLink RX1 22 "SliceDrift$Ranks" "seconds" "[I", Cond.fieldLink RX1 25 "SliceDrift$Ranks" "ways" "[I", Cond.instanceMethod yX0_init, Cond.code yX0_init cX0_init 1 none, Cond.methodLink RX0 3 objectInit, Cond.fieldLink RX0 9 "SliceDrift$Alarms" "base" "I"]
def wsX4_init_r3 : List Cond := [Cond.fieldLink RX0 15 "SliceDrift$Alarms" "length" "I", Cond.fieldLink RX0 18 "SliceDrift$Alarms" "size" "I", Cond.fieldLink RX0 21 "SliceDrift$Alarms" "begun" "I", Cond.fieldLink RX0 24 "SliceDrift$Alarms" "stepRows" "[I", Cond.arrayClass .boolean, Cond.fieldLink RX0 28 "SliceDrift$Alarms" "off" "[Z", Cond.fieldLink RX0 32 "SliceDrift$Alarms" "up" "[Z"]
def wsX4_init : List Cond := .code yX4_init cX4_init 1 none :: ((wsX4_init_r1 ++ (wsX4_init_r2 ++ wsX4_init_r3)) ++ wsX20 ++ wsX40 ++ wsX30 ++ wsX10 ++ wsX00)
def wsX4_row : List Cond := .code yX4_row cX4_row 3 (some .int) :: ([.constant RX4 41 (-1000002), .fieldLink RX4 10 "SliceDrift" "rows" "LSliceDrift$Rows;", .constant RX4 46 (-1000004), .methodLink RX4 37 yX4_isWithin, .static yX4_isWithin, .initialized RX4, .code yX4_isWithin cX4_isWithin 3 (some .boolean), .methodLink RX4 47 yX2_add, .instanceMethod yX2_add, .selects RX2 yX2_add yX2_add, .initialized RX2, .code yX2_add cX2_add 5 (some .int), .fieldLink RX2 9 "SliceDrift$Rows" "size" "I", .fieldLink RX2 19 "SliceDrift$Rows" "times" "[I", .fieldLink RX2 15 "SliceDrift$Rows" "hits" "J", .fieldLink RX2 23 "SliceDrift$Rows" "having" "[J", .static yX4_conditionOf, .code yX4_conditionOf cX4_conditionOf 2 (some .int)] ++ wsX40 ++ wsX20)
def wsX4_isColumn : List Cond := .code yX4_isColumn cX4_isColumn 1 (some .boolean) :: ([.methodLink RX4 37 yX4_isWithin, .static yX4_isWithin, .initialized RX4, .code yX4_isWithin cX4_isWithin 3 (some .boolean)])
def wsX4_put_r1 : List Cond := [Cond.fieldLink RX4 10 "SliceDrift" "rows" "LSliceDrift$Rows;", Cond.constant RX4 58 (-1000001), Cond.constant RX4 41 (-1000002), Cond.methodLink RX4 51 yX2_has, Cond.instanceMethod yX2_has, Cond.selects RX2 yX2_has yX2_has, Cond.initialized RX2, Cond.code yX2_has cX2_has 2 (some .boolean), Cond.fieldLink RX2 9 "SliceDrift$Rows" "size" "I", Cond.static yX4_isWithin, Cond.initialized RX4, Cond.code yX4_isWithin cX4_isWithin 3 (some .boolean), Cond.methodLink RX4 55 yX4_isColumn, Cond.static yX4_isColumn, Cond.code yX4_isColumn cX4_isColumn 1 (some .boolean), Cond.methodLink RX4 37 yX4_isWithin, Cond.methodLink RX4 59 yX2_change, Cond.instanceMethod yX2_change, Cond.selects RX2 yX2_change yX2_change, Cond.code yX2_change cX2_change 5 (some .int), Cond.fieldLink RX2 23 "SliceDrift$Rows" "having" "[J", Cond.constantLong RX2 38 (-1), Cond.methodLink RX2 35 yX2_sortAt, Cond.instanceMethod yX2_sortAt]
def wsX4_put_r2 : List Cond := [Cond.selects RX2 yX2_sortAt yX2_sortAt, Cond.code yX2_sortAt cX2_sortAt 4 (some .int), Cond.methodLink RX2 40 yX2_withSort, Cond.instanceMethod yX2_withSort, Cond.selects RX2 yX2_withSort yX2_withSort, Cond.code yX2_withSort cX2_withSort 3 (some .long), Cond.static yX4_conditionOf, Cond.code yX4_conditionOf cX4_conditionOf 2 (some .int)]
def wsX4_put : List Cond := .code yX4_put cX4_put 4 (some .int) :: ((wsX4_put_r1 ++ wsX4_put_r2) ++ wsX40 ++ wsX20)
def wsX4_asNumber : List Cond := .code yX4_asNumber cX4_asNumber 1 (some .int) :: ([])
def wsX4_of_r1 : List Cond := [Cond.fieldLink RX4 10 "SliceDrift" "rows" "LSliceDrift$Rows;", Cond.constant RX4 58 (-1000001), Cond.methodLink RX4 51 yX2_has, Cond.instanceMethod yX2_has, Cond.selects RX2 yX2_has yX2_has, Cond.initialized RX2, Cond.code yX2_has cX2_has 2 (some .boolean), Cond.fieldLink RX2 9 "SliceDrift$Rows" "size" "I", Cond.static yX4_isWithin, Cond.initialized RX4, Cond.code yX4_isWithin cX4_isWithin 3 (some .boolean), Cond.methodLink RX4 37 yX4_isWithin, Cond.methodLink RX4 71 yX4_asNumber, Cond.static yX4_asNumber, Cond.code yX4_asNumber cX4_asNumber 1 (some .int), Cond.methodLink RX4 75 yX2_sortAt, Cond.instanceMethod yX2_sortAt, Cond.selects RX2 yX2_sortAt yX2_sortAt, Cond.code yX2_sortAt cX2_sortAt 4 (some .int), Cond.methodLink RX2 40 yX2_withSort, Cond.instanceMethod yX2_withSort, Cond.selects RX2 yX2_withSort yX2_withSort, Cond.code yX2_withSort cX2_withSort 3 (some .long), Cond.fieldLink RX2 23 "SliceDrift$Rows" "having" "[J"]
def wsX4_of_r2 : List Cond := [Cond.static yX4_conditionOf, Cond.code yX4_conditionOf cX4_conditionOf 2 (some .int)]
def wsX4_of : List Cond := .code yX4_of cX4_of 3 (some .int) :: ((wsX4_of_r1 ++ wsX4_of_r2) ++ wsX40 ++ wsX20)
def wsX4_slices_r1 : List Cond := [Cond.constant RX4 41 (-1000002), Cond.fieldLink RX4 19 "SliceDrift" "list" "LSliceDrift$SliceList;", Cond.fieldLink RX4 10 "SliceDrift" "rows" "LSliceDrift$Rows;", Cond.methodLink RX4 37 yX4_isWithin, Cond.static yX4_isWithin, Cond.initialized RX4, Cond.code yX4_isWithin cX4_isWithin 3 (some .boolean), Cond.methodLink RX4 79 yX3_make, Cond.instanceMethod yX3_make, Cond.selects RX3 yX3_make yX3_make, Cond.initialized RX3, Cond.code yX3_make cX3_make 7 none, Cond.fieldLink RX3 9 "SliceDrift$SliceList" "size" "I", Cond.fieldLink RX3 15 "SliceDrift$SliceList" "hits" "J", Cond.methodLink RX3 40 yJ13_bitCount_95d88, Cond.static yJ13_bitCount_95d88, Cond.initialized RJ13, Cond.code yJ13_bitCount_95d88 cJ13_bitCount_95d88 2 (some .int), Cond.constantLong RJ13 314 (6148914691236517205), Cond.constantLong RJ13 316 (3689348814741910323), Cond.constantLong RJ13 318 (1085102592571150095), Cond.methodLink RX3 46 yX3_insert, Cond.instanceMethod yX3_insert, Cond.selects RX3 yX3_insert yX3_insert]
def wsX4_slices_r2 : List Cond := [Cond.code yX3_insert cX3_insert 6 none, Cond.fieldLink RX3 19 "SliceDrift$SliceList" "members" "[J", Cond.methodLink RX3 65 arraycopyName, Cond.native arraycopyName, Cond.static arraycopyName, Cond.initialized "java/lang/System", Cond.fieldLink RX3 23 "SliceDrift$SliceList" "firsts" "[I", Cond.fieldLink RX3 27 "SliceDrift$SliceList" "seconds" "[I", Cond.methodLink RX3 62 yX3_placeFor, Cond.instanceMethod yX3_placeFor, Cond.selects RX3 yX3_placeFor yX3_placeFor, Cond.code yX3_placeFor cX3_placeFor 7 (some .int), Cond.methodLink RX3 71 yX3_isAhead, Cond.instanceMethod yX3_isAhead, Cond.selects RX3 yX3_isAhead yX3_isAhead, Cond.code yX3_isAhead cX3_isAhead 9 (some .boolean), Cond.static yX4_boundAbove, Cond.code yX4_boundAbove cX4_boundAbove 1 (some .int), Cond.static yX4_boundBelow, Cond.code yX4_boundBelow cX4_boundBelow 1 (some .int), Cond.methodLink RX3 50 yX3_insertPairs, Cond.instanceMethod yX3_insertPairs, Cond.selects RX3 yX3_insertPairs yX3_insertPairs, Cond.code yX3_insertPairs cX3_insertPairs 11 none]
def wsX4_slices_r3 : List Cond := [Cond.static yX4_columnOf, Cond.code yX4_columnOf cX4_columnOf 1 (some .int), Cond.static yX4_conditionOf, Cond.code yX4_conditionOf cX4_conditionOf 2 (some .int)]
def wsX4_slices : List Cond := .code yX4_slices cX4_slices 3 (some .int) :: ((wsX4_slices_r1 ++ (wsX4_slices_r2 ++ wsX4_slices_r3)) ++ wsX40 ++ wsX30 ++ wsX20)
def wsX4_sortOf : List Cond := .code yX4_sortOf cX4_sortOf 1 (some .int) :: ([])
def wsX4_slice : List Cond := .code yX4_slice cX4_slice 3 (some .int) :: ([.fieldLink RX4 19 "SliceDrift" "list" "LSliceDrift$SliceList;", .constant RX4 58 (-1000001), .methodLink RX4 84 yX3_has, .instanceMethod yX3_has, .selects RX3 yX3_has yX3_has, .initialized RX3, .code yX3_has cX3_has 2 (some .boolean), .fieldLink RX3 9 "SliceDrift$SliceList" "size" "I", .static yX4_isWithin, .initialized RX4, .code yX4_isWithin cX4_isWithin 3 (some .boolean), .methodLink RX4 88 yX4_columnOf, .static yX4_columnOf, .code yX4_columnOf cX4_columnOf 1 (some .int), .methodLink RX4 92 yX4_sortOf, .static yX4_sortOf, .code yX4_sortOf cX4_sortOf 1 (some .int), .methodLink RX4 102 yJ13_bitCount_95d88, .static yJ13_bitCount_95d88, .initialized RJ13, .code yJ13_bitCount_95d88 cJ13_bitCount_95d88 2 (some .int), .constantLong RJ13 314 (6148914691236517205), .constantLong RJ13 316 (3689348814741910323), .constantLong RJ13 318 (1085102592571150095)] ++ wsX40 ++ wsX30)
def wsX4_member : List Cond := .code yX4_member cX4_member 5 (some .int) :: ([.fieldLink RX4 19 "SliceDrift" "list" "LSliceDrift$SliceList;", .constant RX4 58 (-1000001), .constant RX4 41 (-1000002), .methodLink RX4 84 yX3_has, .instanceMethod yX3_has, .selects RX3 yX3_has yX3_has, .initialized RX3, .code yX3_has cX3_has 2 (some .boolean), .fieldLink RX3 9 "SliceDrift$SliceList" "size" "I", .static yX4_isWithin, .initialized RX4, .code yX4_isWithin cX4_isWithin 3 (some .boolean)] ++ wsX40 ++ wsX30)
def wsX4_isPart : List Cond := .code yX4_isPart cX4_isPart 1 (some .boolean) :: ([.methodLink RX4 37 yX4_isWithin, .static yX4_isWithin, .initialized RX4, .code yX4_isWithin cX4_isWithin 3 (some .boolean)])
def wsX4_commonDivisor : List Cond := .code yX4_commonDivisor cX4_commonDivisor 11 (some .long) :: ([.methodLink RX4 226 Lib.MathLoose.max_long.x, .static Lib.MathLoose.max_long.x, .initialized "java/lang/Math", .code Lib.MathLoose.max_long.x Lib.MathLoose.max_long.code 4 (some .long)])
def wsX4_lowest : List Cond := .code yX4_lowest cX4_lowest 7 (some .long) :: ([.methodLink RX4 216 Lib.MathLoose.abs_long.x, .static Lib.MathLoose.abs_long.x, .initialized "java/lang/Math", .code Lib.MathLoose.abs_long.x Lib.MathLoose.abs_long.code 2 (some .long), .methodLink RX4 222 yX4_commonDivisor, .static yX4_commonDivisor, .initialized RX4, .code yX4_commonDivisor cX4_commonDivisor 11 (some .long), .methodLink RX4 226 Lib.MathLoose.max_long.x, .static Lib.MathLoose.max_long.x, .code Lib.MathLoose.max_long.x Lib.MathLoose.max_long.code 4 (some .long)])
def wsX4_share_r1 : List Cond := [Cond.fieldLink RX4 19 "SliceDrift" "list" "LSliceDrift$SliceList;", Cond.constantLong RX4 109 (-1000001), Cond.constantLong RX4 114 (-1000002), Cond.methodLink RX4 84 yX3_has, Cond.instanceMethod yX3_has, Cond.selects RX3 yX3_has yX3_has, Cond.initialized RX3, Cond.code yX3_has cX3_has 2 (some .boolean), Cond.fieldLink RX3 9 "SliceDrift$SliceList" "size" "I", Cond.static yX4_isWithin, Cond.initialized RX4, Cond.code yX4_isWithin cX4_isWithin 3 (some .boolean), Cond.methodLink RX4 37 yX4_isWithin, Cond.methodLink RX4 111 yX4_isPart, Cond.static yX4_isPart, Cond.code yX4_isPart cX4_isPart 1 (some .boolean), Cond.methodLink RX4 102 yJ13_bitCount_95d88, Cond.static yJ13_bitCount_95d88, Cond.initialized RJ13, Cond.code yJ13_bitCount_95d88 cJ13_bitCount_95d88 2 (some .int), Cond.constantLong RJ13 314 (6148914691236517205), Cond.constantLong RJ13 316 (3689348814741910323), Cond.constantLong RJ13 318 (1085102592571150095), Cond.methodLink RX4 116 yX4_lowest]
def wsX4_share_r2 : List Cond := [Cond.static yX4_lowest, Cond.code yX4_lowest cX4_lowest 7 (some .long), Cond.methodLink RX4 216 Lib.MathLoose.abs_long.x, Cond.static Lib.MathLoose.abs_long.x, Cond.initialized "java/lang/Math", Cond.code Lib.MathLoose.abs_long.x Lib.MathLoose.abs_long.code 2 (some .long), Cond.methodLink RX4 222 yX4_commonDivisor, Cond.static yX4_commonDivisor, Cond.code yX4_commonDivisor cX4_commonDivisor 11 (some .long), Cond.methodLink RX4 226 Lib.MathLoose.max_long.x, Cond.static Lib.MathLoose.max_long.x, Cond.code Lib.MathLoose.max_long.x Lib.MathLoose.max_long.code 4 (some .long), Cond.methodLink RX4 120 yX4_boundAbove, Cond.static yX4_boundAbove, Cond.code yX4_boundAbove cX4_boundAbove 1 (some .int), Cond.methodLink RX4 123 yX4_boundBelow, Cond.static yX4_boundBelow, Cond.code yX4_boundBelow cX4_boundBelow 1 (some .int)]
def wsX4_share : List Cond := .code yX4_share cX4_share 6 (some .long) :: ((wsX4_share_r1 ++ wsX4_share_r2) ++ wsX40 ++ wsX30)
def wsX4_isSort : List Cond := .code yX4_isSort cX4_isSort 1 (some .boolean) :: ([.methodLink RX4 37 yX4_isWithin, .static yX4_isWithin, .initialized RX4, .code yX4_isWithin cX4_isWithin 3 (some .boolean)])
def wsX4_gap_r1 : List Cond := [Cond.classLink RX4 133 "java/lang/ArithmeticException", Cond.initialized "java/lang/ArithmeticException", Cond.constantLong RX4 109 (-1000001), Cond.constantLong RX4 114 (-1000002), Cond.fieldLink RX4 10 "SliceDrift" "rows" "LSliceDrift$Rows;", Cond.methodLink RX4 55 yX4_isColumn, Cond.static yX4_isColumn, Cond.initialized RX4, Cond.code yX4_isColumn cX4_isColumn 1 (some .boolean), Cond.methodLink RX4 37 yX4_isWithin, Cond.static yX4_isWithin, Cond.code yX4_isWithin cX4_isWithin 3 (some .boolean), Cond.methodLink RX4 126 yX4_isSort, Cond.static yX4_isSort, Cond.code yX4_isSort cX4_isSort 1 (some .boolean), Cond.methodLink RX4 111 yX4_isPart, Cond.static yX4_isPart, Cond.code yX4_isPart cX4_isPart 1 (some .boolean), Cond.methodLink RX4 129 yX2_withSort, Cond.instanceMethod yX2_withSort, Cond.selects RX2 yX2_withSort yX2_withSort, Cond.initialized RX2, Cond.code yX2_withSort cX2_withSort 3 (some .long), Cond.fieldLink RX2 23 "SliceDrift$Rows" "having" "[J"]
def wsX4_gap_r2 : List Cond := [Cond.static yX4_conditionOf, Cond.code yX4_conditionOf cX4_conditionOf 2 (some .int), Cond.methodLink RX4 102 yJ13_bitCount_95d88, Cond.static yJ13_bitCount_95d88, Cond.initialized RJ13, Cond.code yJ13_bitCount_95d88 cJ13_bitCount_95d88 2 (some .int), Cond.constantLong RJ13 314 (6148914691236517205), Cond.constantLong RJ13 316 (3689348814741910323), Cond.constantLong RJ13 318 (1085102592571150095), Cond.methodLink RX4 116 yX4_lowest, Cond.static yX4_lowest, Cond.code yX4_lowest cX4_lowest 7 (some .long), Cond.methodLink RX4 216 Lib.MathLoose.abs_long.x, Cond.static Lib.MathLoose.abs_long.x, Cond.initialized "java/lang/Math", Cond.code Lib.MathLoose.abs_long.x Lib.MathLoose.abs_long.code 2 (some .long), Cond.methodLink RX4 222 yX4_commonDivisor, Cond.static yX4_commonDivisor, Cond.code yX4_commonDivisor cX4_commonDivisor 11 (some .long), Cond.methodLink RX4 226 Lib.MathLoose.max_long.x, Cond.static Lib.MathLoose.max_long.x, Cond.code Lib.MathLoose.max_long.x Lib.MathLoose.max_long.code 4 (some .long)]
def wsX4_gap : List Cond := .code yX4_gap cX4_gap 13 (some .long) :: ((wsX4_gap_r1 ++ wsX4_gap_r2) ++ wsX40 ++ wsX20 ++ (vx_atS RX4 137 "java/lang/ArithmeticException" ["java/lang/RuntimeException", "java/lang/Exception"]).filter goodWord)
def wsX4_areTimes : List Cond := .code yX4_areTimes cX4_areTimes 3 (some .boolean) :: ([])
def wsX4_window : List Cond := .code yX4_window cX4_window 3 (some .int) :: ([.constant RX4 41 (-1000002), .fieldLink RX4 10 "SliceDrift" "rows" "LSliceDrift$Rows;", .methodLink RX4 140 yX4_areTimes, .static yX4_areTimes, .initialized RX4, .code yX4_areTimes cX4_areTimes 3 (some .boolean), .methodLink RX4 143 yX2_between, .instanceMethod yX2_between, .selects RX2 yX2_between yX2_between, .initialized RX2, .code yX2_between cX2_between 6 (some .long), .fieldLink RX2 9 "SliceDrift$Rows" "size" "I", .fieldLink RX2 19 "SliceDrift$Rows" "times" "[I", .methodLink RX4 102 yJ13_bitCount_95d88, .static yJ13_bitCount_95d88, .initialized RJ13, .code yJ13_bitCount_95d88 cJ13_bitCount_95d88 2 (some .int), .constantLong RJ13 314 (6148914691236517205), .constantLong RJ13 316 (3689348814741910323), .constantLong RJ13 318 (1085102592571150095)] ++ wsX40 ++ wsX20)
def wsX4_drift_r1 : List Cond := [Cond.classLink RX4 133 "java/lang/ArithmeticException", Cond.initialized "java/lang/ArithmeticException", Cond.constantLong RX4 109 (-1000001), Cond.constantLong RX4 114 (-1000002), Cond.fieldLink RX4 10 "SliceDrift" "rows" "LSliceDrift$Rows;", Cond.methodLink RX4 55 yX4_isColumn, Cond.static yX4_isColumn, Cond.initialized RX4, Cond.code yX4_isColumn cX4_isColumn 1 (some .boolean), Cond.methodLink RX4 37 yX4_isWithin, Cond.static yX4_isWithin, Cond.code yX4_isWithin cX4_isWithin 3 (some .boolean), Cond.methodLink RX4 140 yX4_areTimes, Cond.static yX4_areTimes, Cond.code yX4_areTimes cX4_areTimes 3 (some .boolean), Cond.methodLink RX4 111 yX4_isPart, Cond.static yX4_isPart, Cond.code yX4_isPart cX4_isPart 1 (some .boolean), Cond.methodLink RX4 143 yX2_between, Cond.instanceMethod yX2_between, Cond.selects RX2 yX2_between yX2_between, Cond.initialized RX2, Cond.code yX2_between cX2_between 6 (some .long), Cond.fieldLink RX2 9 "SliceDrift$Rows" "size" "I"]
def wsX4_drift_r2 : List Cond := [Cond.fieldLink RX2 19 "SliceDrift$Rows" "times" "[I", Cond.methodLink RX4 148 yX2_driftAbove, Cond.instanceMethod yX2_driftAbove, Cond.selects RX2 yX2_driftAbove yX2_driftAbove, Cond.code yX2_driftAbove cX2_driftAbove 12 (some .int), Cond.methodLink RX2 50 Lib.Math.abs.name, Cond.static Lib.Math.abs.name, Cond.initialized "java/lang/Math", Cond.code Lib.Math.abs.name Lib.Math.abs.code 1 (some .int), Cond.methodLink RX2 44 yJ13_bitCount_95d88, Cond.static yJ13_bitCount_95d88, Cond.initialized RJ13, Cond.code yJ13_bitCount_95d88 cJ13_bitCount_95d88 2 (some .int), Cond.constantLong RJ13 314 (6148914691236517205), Cond.constantLong RJ13 316 (3689348814741910323), Cond.constantLong RJ13 318 (1085102592571150095), Cond.methodLink RX2 40 yX2_withSort, Cond.instanceMethod yX2_withSort, Cond.selects RX2 yX2_withSort yX2_withSort, Cond.code yX2_withSort cX2_withSort 3 (some .long), Cond.fieldLink RX2 23 "SliceDrift$Rows" "having" "[J", Cond.static yX4_conditionOf, Cond.code yX4_conditionOf cX4_conditionOf 2 (some .int), Cond.methodLink RX4 152 yX4_driftBelow]
def wsX4_drift_r3 : List Cond := [Cond.static yX4_driftBelow, Cond.code yX4_driftBelow cX4_driftBelow 4 (some .int), Cond.methodLink RX4 102 yJ13_bitCount_95d88, Cond.methodLink RX4 116 yX4_lowest, Cond.static yX4_lowest, Cond.code yX4_lowest cX4_lowest 7 (some .long), Cond.methodLink RX4 216 Lib.MathLoose.abs_long.x, Cond.static Lib.MathLoose.abs_long.x, Cond.code Lib.MathLoose.abs_long.x Lib.MathLoose.abs_long.code 2 (some .long), Cond.methodLink RX4 222 yX4_commonDivisor, Cond.static yX4_commonDivisor, Cond.code yX4_commonDivisor cX4_commonDivisor 11 (some .long), Cond.methodLink RX4 226 Lib.MathLoose.max_long.x, Cond.static Lib.MathLoose.max_long.x, Cond.code Lib.MathLoose.max_long.x Lib.MathLoose.max_long.code 4 (some .long)]
def wsX4_drift : List Cond := .code yX4_drift cX4_drift 10 (some .long) :: ((wsX4_drift_r1 ++ (wsX4_drift_r2 ++ wsX4_drift_r3)) ++ wsX40 ++ wsX20 ++ (vx_atS RX4 137 "java/lang/ArithmeticException" ["java/lang/RuntimeException", "java/lang/Exception"]).filter goodWord)
def wsX4_rise_r1 : List Cond := [Cond.constant RX4 58 (-1000001), Cond.constant RX4 41 (-1000002), Cond.fieldLink RX4 26 "SliceDrift" "ranks" "LSliceDrift$Ranks;", Cond.fieldLink RX4 10 "SliceDrift" "rows" "LSliceDrift$Rows;", Cond.methodLink RX4 55 yX4_isColumn, Cond.static yX4_isColumn, Cond.initialized RX4, Cond.code yX4_isColumn cX4_isColumn 1 (some .boolean), Cond.methodLink RX4 37 yX4_isWithin, Cond.static yX4_isWithin, Cond.code yX4_isWithin cX4_isWithin 3 (some .boolean), Cond.methodLink RX4 140 yX4_areTimes, Cond.static yX4_areTimes, Cond.code yX4_areTimes cX4_areTimes 3 (some .boolean), Cond.methodLink RX4 143 yX2_between, Cond.instanceMethod yX2_between, Cond.selects RX2 yX2_between yX2_between, Cond.initialized RX2, Cond.code yX2_between cX2_between 6 (some .long), Cond.fieldLink RX2 9 "SliceDrift$Rows" "size" "I", Cond.fieldLink RX2 19 "SliceDrift$Rows" "times" "[I", Cond.methodLink RX4 156 yX1_take, Cond.instanceMethod yX1_take, Cond.selects RX1 yX1_take yX1_take]
def wsX4_rise_r2 : List Cond := [Cond.initialized RX1, Cond.code yX1_take cX1_take 8 none, Cond.fieldLink RX1 11 "SliceDrift$Ranks" "firstRows" "I", Cond.fieldLink RX1 15 "SliceDrift$Ranks" "secondRows" "I", Cond.fieldLink RX1 18 "SliceDrift$Ranks" "firsts" "[I", Cond.fieldLink RX1 22 "SliceDrift$Ranks" "seconds" "[I", Cond.methodLink RX1 28 yX2_withSort, Cond.instanceMethod yX2_withSort, Cond.selects RX2 yX2_withSort yX2_withSort, Cond.code yX2_withSort cX2_withSort 3 (some .long), Cond.fieldLink RX2 23 "SliceDrift$Rows" "having" "[J", Cond.static yX4_conditionOf, Cond.code yX4_conditionOf cX4_conditionOf 2 (some .int), Cond.methodLink RX1 34 yJ13_bitCount_95d88, Cond.static yJ13_bitCount_95d88, Cond.initialized RJ13, Cond.code yJ13_bitCount_95d88 cJ13_bitCount_95d88 2 (some .int), Cond.constantLong RJ13 314 (6148914691236517205), Cond.constantLong RJ13 316 (3689348814741910323), Cond.constantLong RJ13 318 (1085102592571150095), Cond.methodLink RX4 160 yX1_risen, Cond.instanceMethod yX1_risen, Cond.selects RX1 yX1_risen yX1_risen, Cond.code yX1_risen cX1_risen 4 (some .int)]
def wsX4_rise : List Cond := .code yX4_rise cX4_rise 5 (some .int) :: ((wsX4_rise_r1 ++ wsX4_rise_r2) ++ wsX40 ++ wsX20 ++ wsX10)
def wsX4_odds_r1 : List Cond := [Cond.constantLong RX4 109 (-1000001), Cond.constantLong RX4 114 (-1000002), Cond.fieldLink RX4 26 "SliceDrift" "ranks" "LSliceDrift$Ranks;", Cond.fieldLink RX4 10 "SliceDrift" "rows" "LSliceDrift$Rows;", Cond.constantLong RX4 170 (-1000003), Cond.methodLink RX4 55 yX4_isColumn, Cond.static yX4_isColumn, Cond.initialized RX4, Cond.code yX4_isColumn cX4_isColumn 1 (some .boolean), Cond.methodLink RX4 37 yX4_isWithin, Cond.static yX4_isWithin, Cond.code yX4_isWithin cX4_isWithin 3 (some .boolean), Cond.methodLink RX4 140 yX4_areTimes, Cond.static yX4_areTimes, Cond.code yX4_areTimes cX4_areTimes 3 (some .boolean), Cond.methodLink RX4 111 yX4_isPart, Cond.static yX4_isPart, Cond.code yX4_isPart cX4_isPart 1 (some .boolean), Cond.methodLink RX4 143 yX2_between, Cond.instanceMethod yX2_between, Cond.selects RX2 yX2_between yX2_between, Cond.initialized RX2, Cond.code yX2_between cX2_between 6 (some .long), Cond.fieldLink RX2 9 "SliceDrift$Rows" "size" "I"]
def wsX4_odds_r2 : List Cond := [Cond.fieldLink RX2 19 "SliceDrift$Rows" "times" "[I", Cond.methodLink RX4 156 yX1_take, Cond.instanceMethod yX1_take, Cond.selects RX1 yX1_take yX1_take, Cond.initialized RX1, Cond.code yX1_take cX1_take 8 none, Cond.fieldLink RX1 11 "SliceDrift$Ranks" "firstRows" "I", Cond.fieldLink RX1 15 "SliceDrift$Ranks" "secondRows" "I", Cond.fieldLink RX1 18 "SliceDrift$Ranks" "firsts" "[I", Cond.fieldLink RX1 22 "SliceDrift$Ranks" "seconds" "[I", Cond.methodLink RX1 28 yX2_withSort, Cond.instanceMethod yX2_withSort, Cond.selects RX2 yX2_withSort yX2_withSort, Cond.code yX2_withSort cX2_withSort 3 (some .long), Cond.fieldLink RX2 23 "SliceDrift$Rows" "having" "[J", Cond.static yX4_conditionOf, Cond.code yX4_conditionOf cX4_conditionOf 2 (some .int), Cond.methodLink RX1 34 yJ13_bitCount_95d88, Cond.static yJ13_bitCount_95d88, Cond.initialized RJ13, Cond.code yJ13_bitCount_95d88 cJ13_bitCount_95d88 2 (some .int), Cond.constantLong RJ13 314 (6148914691236517205), Cond.constantLong RJ13 316 (3689348814741910323), Cond.constantLong RJ13 318 (1085102592571150095)]
def wsX4_odds_r3 : List Cond := [Cond.methodLink RX4 160 yX1_risen, Cond.instanceMethod yX1_risen, Cond.selects RX1 yX1_risen yX1_risen, Cond.code yX1_risen cX1_risen 4 (some .int), Cond.methodLink RX4 172 yX1_waysToRise, Cond.instanceMethod yX1_waysToRise, Cond.selects RX1 yX1_waysToRise yX1_waysToRise, Cond.code yX1_waysToRise cX1_waysToRise 5 (some .int), Cond.fieldLink RX1 25 "SliceDrift$Ranks" "ways" "[I", Cond.methodLink RX1 50 Lib.Math.max.name, Cond.static Lib.Math.max.name, Cond.initialized "java/lang/Math", Cond.code Lib.Math.max.name Lib.Math.max.code 2 (some .int), Cond.methodLink RX1 40 yJ7_fill_53178, Cond.static yJ7_fill_53178, Cond.initialized RJ7, Cond.code yJ7_fill_53178 cJ7_fill_53178 4 none, Cond.methodLink RX1 46 yX1_addGroup, Cond.instanceMethod yX1_addGroup, Cond.selects RX1 yX1_addGroup yX1_addGroup, Cond.code yX1_addGroup cX1_addGroup 5 none, Cond.methodLink RX1 56 Lib.Math.min.name, Cond.static Lib.Math.min.name, Cond.code Lib.Math.min.name Lib.Math.min.code 2 (some .int)]
def wsX4_odds_r4 : List Cond := [Cond.methodLink RX1 59 yX1_moveWays, Cond.instanceMethod yX1_moveWays, Cond.selects RX1 yX1_moveWays yX1_moveWays, Cond.code yX1_moveWays cX1_moveWays 8 none, Cond.static yX4_waysToChoose, Cond.code yX4_waysToChoose cX4_waysToChoose 4 (some .int), Cond.methodLink RX4 175 yX4_waysToChoose, Cond.methodLink RX4 116 yX4_lowest, Cond.static yX4_lowest, Cond.code yX4_lowest cX4_lowest 7 (some .long), Cond.methodLink RX4 216 Lib.MathLoose.abs_long.x, Cond.static Lib.MathLoose.abs_long.x, Cond.code Lib.MathLoose.abs_long.x Lib.MathLoose.abs_long.code 2 (some .long), Cond.methodLink RX4 222 yX4_commonDivisor, Cond.static yX4_commonDivisor, Cond.code yX4_commonDivisor cX4_commonDivisor 11 (some .long), Cond.methodLink RX4 226 Lib.MathLoose.max_long.x, Cond.static Lib.MathLoose.max_long.x, Cond.code Lib.MathLoose.max_long.x Lib.MathLoose.max_long.code 4 (some .long)]
def wsX4_odds : List Cond := .code yX4_odds cX4_odds 7 (some .long) :: ((wsX4_odds_r1 ++ (wsX4_odds_r2 ++ (wsX4_odds_r3 ++ wsX4_odds_r4))) ++ wsX40 ++ wsX10 ++ wsX20)
def wsX4_fresh_r1 : List Cond := [Cond.constant RX4 58 (-1000001), Cond.constant RX4 41 (-1000002), Cond.fieldLink RX4 10 "SliceDrift" "rows" "LSliceDrift$Rows;", Cond.methodLink RX4 55 yX4_isColumn, Cond.static yX4_isColumn, Cond.initialized RX4, Cond.code yX4_isColumn cX4_isColumn 1 (some .boolean), Cond.methodLink RX4 37 yX4_isWithin, Cond.static yX4_isWithin, Cond.code yX4_isWithin cX4_isWithin 3 (some .boolean), Cond.methodLink RX4 140 yX4_areTimes, Cond.static yX4_areTimes, Cond.code yX4_areTimes cX4_areTimes 3 (some .boolean), Cond.methodLink RX4 143 yX2_between, Cond.instanceMethod yX2_between, Cond.selects RX2 yX2_between yX2_between, Cond.initialized RX2, Cond.code yX2_between cX2_between 6 (some .long), Cond.fieldLink RX2 9 "SliceDrift$Rows" "size" "I", Cond.fieldLink RX2 19 "SliceDrift$Rows" "times" "[I", Cond.methodLink RX4 129 yX2_withSort, Cond.instanceMethod yX2_withSort, Cond.selects RX2 yX2_withSort yX2_withSort, Cond.code yX2_withSort cX2_withSort 3 (some .long)]
def wsX4_fresh_r2 : List Cond := [Cond.fieldLink RX2 23 "SliceDrift$Rows" "having" "[J", Cond.static yX4_conditionOf, Cond.code yX4_conditionOf cX4_conditionOf 2 (some .int)]
def wsX4_fresh : List Cond := .code yX4_fresh cX4_fresh 14 (some .int) :: ((wsX4_fresh_r1 ++ wsX4_fresh_r2) ++ wsX40 ++ wsX20)
def wsX4_shift_r1 : List Cond := [Cond.classLink RX4 133 "java/lang/ArithmeticException", Cond.initialized "java/lang/ArithmeticException", Cond.constantLong RX4 109 (-1000001), Cond.constantLong RX4 114 (-1000002), Cond.fieldLink RX4 10 "SliceDrift" "rows" "LSliceDrift$Rows;", Cond.constantLong RX4 170 (-1000003), Cond.methodLink RX4 55 yX4_isColumn, Cond.static yX4_isColumn, Cond.initialized RX4, Cond.code yX4_isColumn cX4_isColumn 1 (some .boolean), Cond.methodLink RX4 37 yX4_isWithin, Cond.static yX4_isWithin, Cond.code yX4_isWithin cX4_isWithin 3 (some .boolean), Cond.methodLink RX4 140 yX4_areTimes, Cond.static yX4_areTimes, Cond.code yX4_areTimes cX4_areTimes 3 (some .boolean), Cond.methodLink RX4 111 yX4_isPart, Cond.static yX4_isPart, Cond.code yX4_isPart cX4_isPart 1 (some .boolean), Cond.methodLink RX4 143 yX2_between, Cond.instanceMethod yX2_between, Cond.selects RX2 yX2_between yX2_between, Cond.initialized RX2, Cond.code yX2_between cX2_between 6 (some .long)]
def wsX4_shift_r2 : List Cond := [Cond.fieldLink RX2 9 "SliceDrift$Rows" "size" "I", Cond.fieldLink RX2 19 "SliceDrift$Rows" "times" "[I", Cond.methodLink RX4 129 yX2_withSort, Cond.instanceMethod yX2_withSort, Cond.selects RX2 yX2_withSort yX2_withSort, Cond.code yX2_withSort cX2_withSort 3 (some .long), Cond.fieldLink RX2 23 "SliceDrift$Rows" "having" "[J", Cond.static yX4_conditionOf, Cond.code yX4_conditionOf cX4_conditionOf 2 (some .int), Cond.methodLink RX4 102 yJ13_bitCount_95d88, Cond.static yJ13_bitCount_95d88, Cond.initialized RJ13, Cond.code yJ13_bitCount_95d88 cJ13_bitCount_95d88 2 (some .int), Cond.constantLong RJ13 314 (6148914691236517205), Cond.constantLong RJ13 316 (3689348814741910323), Cond.constantLong RJ13 318 (1085102592571150095), Cond.methodLink RX4 116 yX4_lowest, Cond.static yX4_lowest, Cond.code yX4_lowest cX4_lowest 7 (some .long), Cond.methodLink RX4 216 Lib.MathLoose.abs_long.x, Cond.static Lib.MathLoose.abs_long.x, Cond.initialized "java/lang/Math", Cond.code Lib.MathLoose.abs_long.x Lib.MathLoose.abs_long.code 2 (some .long), Cond.methodLink RX4 222 yX4_commonDivisor]
def wsX4_shift_r3 : List Cond := [Cond.static yX4_commonDivisor, Cond.code yX4_commonDivisor cX4_commonDivisor 11 (some .long), Cond.methodLink RX4 226 Lib.MathLoose.max_long.x, Cond.static Lib.MathLoose.max_long.x, Cond.code Lib.MathLoose.max_long.x Lib.MathLoose.max_long.code 4 (some .long)]
def wsX4_shift : List Cond := .code yX4_shift cX4_shift 25 (some .long) :: ((wsX4_shift_r1 ++ (wsX4_shift_r2 ++ wsX4_shift_r3)) ++ wsX40 ++ wsX20 ++ (vx_atS RX4 137 "java/lang/ArithmeticException" ["java/lang/RuntimeException", "java/lang/Exception"]).filter goodWord)
def wsX4_order_r1 : List Cond := [Cond.classLink RX4 133 "java/lang/ArithmeticException", Cond.initialized "java/lang/ArithmeticException", Cond.constant RX4 58 (-1000001), Cond.constant RX4 41 (-1000002), Cond.fieldLink RX4 10 "SliceDrift" "rows" "LSliceDrift$Rows;", Cond.methodLink RX4 55 yX4_isColumn, Cond.static yX4_isColumn, Cond.initialized RX4, Cond.code yX4_isColumn cX4_isColumn 1 (some .boolean), Cond.methodLink RX4 37 yX4_isWithin, Cond.static yX4_isWithin, Cond.code yX4_isWithin cX4_isWithin 3 (some .boolean), Cond.methodLink RX4 140 yX4_areTimes, Cond.static yX4_areTimes, Cond.code yX4_areTimes cX4_areTimes 3 (some .boolean), Cond.methodLink RX4 143 yX2_between, Cond.instanceMethod yX2_between, Cond.selects RX2 yX2_between yX2_between, Cond.initialized RX2, Cond.code yX2_between cX2_between 6 (some .long), Cond.fieldLink RX2 9 "SliceDrift$Rows" "size" "I", Cond.fieldLink RX2 19 "SliceDrift$Rows" "times" "[I", Cond.methodLink RX4 180 yX2_placeByDrift, Cond.instanceMethod yX2_placeByDrift]
def wsX4_order_r2 : List Cond := [Cond.selects RX2 yX2_placeByDrift yX2_placeByDrift, Cond.code yX2_placeByDrift cX2_placeByDrift 10 (some .int), Cond.methodLink RX2 56 yX2_driftAbove, Cond.instanceMethod yX2_driftAbove, Cond.selects RX2 yX2_driftAbove yX2_driftAbove, Cond.code yX2_driftAbove cX2_driftAbove 12 (some .int), Cond.methodLink RX2 50 Lib.Math.abs.name, Cond.static Lib.Math.abs.name, Cond.initialized "java/lang/Math", Cond.code Lib.Math.abs.name Lib.Math.abs.code 1 (some .int), Cond.methodLink RX2 44 yJ13_bitCount_95d88, Cond.static yJ13_bitCount_95d88, Cond.initialized RJ13, Cond.code yJ13_bitCount_95d88 cJ13_bitCount_95d88 2 (some .int), Cond.constantLong RJ13 314 (6148914691236517205), Cond.constantLong RJ13 316 (3689348814741910323), Cond.constantLong RJ13 318 (1085102592571150095), Cond.methodLink RX2 40 yX2_withSort, Cond.instanceMethod yX2_withSort, Cond.selects RX2 yX2_withSort yX2_withSort, Cond.code yX2_withSort cX2_withSort 3 (some .long), Cond.fieldLink RX2 23 "SliceDrift$Rows" "having" "[J", Cond.static yX4_conditionOf, Cond.code yX4_conditionOf cX4_conditionOf 2 (some .int)]
def wsX4_order : List Cond := .code yX4_order cX4_order 10 (some .int) :: ((wsX4_order_r1 ++ wsX4_order_r2) ++ wsX40 ++ wsX20 ++ (vx_atS RX4 137 "java/lang/ArithmeticException" ["java/lang/RuntimeException", "java/lang/Exception"]).filter goodWord)
def wsX4_watch_r1 : List Cond := [Cond.constant RX4 58 (-1000001), Cond.constant RX4 41 (-1000002), Cond.fieldLink RX4 10 "SliceDrift" "rows" "LSliceDrift$Rows;", Cond.constant RX4 183 (-1000003), Cond.fieldLink RX4 33 "SliceDrift" "alarms" "LSliceDrift$Alarms;", Cond.methodLink RX4 55 yX4_isColumn, Cond.static yX4_isColumn, Cond.initialized RX4, Cond.code yX4_isColumn cX4_isColumn 1 (some .boolean), Cond.methodLink RX4 37 yX4_isWithin, Cond.static yX4_isWithin, Cond.code yX4_isWithin cX4_isWithin 3 (some .boolean), Cond.methodLink RX4 143 yX2_between, Cond.instanceMethod yX2_between, Cond.selects RX2 yX2_between yX2_between, Cond.initialized RX2, Cond.code yX2_between cX2_between 6 (some .long), Cond.fieldLink RX2 9 "SliceDrift$Rows" "size" "I", Cond.fieldLink RX2 19 "SliceDrift$Rows" "times" "[I", Cond.methodLink RX4 184 yX0_begin, Cond.instanceMethod yX0_begin, Cond.selects RX0 yX0_begin yX0_begin, Cond.initialized RX0, Cond.code yX0_begin cX0_begin 4 none]
def wsX4_watch_r2 : List Cond := [Cond.fieldLink RX0 9 "SliceDrift$Alarms" "base" "I", Cond.fieldLink RX0 15 "SliceDrift$Alarms" "length" "I", Cond.fieldLink RX0 18 "SliceDrift$Alarms" "size" "I", Cond.methodLink RX0 35 yX0_beginOf, Cond.instanceMethod yX0_beginOf, Cond.selects RX0 yX0_beginOf yX0_beginOf, Cond.code yX0_beginOf cX0_beginOf 2 (some .int), Cond.methodLink RX4 188 yX0_measure, Cond.instanceMethod yX0_measure, Cond.selects RX0 yX0_measure yX0_measure, Cond.code yX0_measure cX0_measure 9 none, Cond.methodLink RX0 45 Lib.Math.min.name, Cond.static Lib.Math.min.name, Cond.initialized "java/lang/Math", Cond.code Lib.Math.min.name Lib.Math.min.code 2 (some .int), Cond.fieldLink RX0 24 "SliceDrift$Alarms" "stepRows" "[I", Cond.fieldLink RX0 28 "SliceDrift$Alarms" "off" "[Z", Cond.methodLink RX0 39 yX2_between, Cond.methodLink RX0 51 yJ13_bitCount_95d88, Cond.static yJ13_bitCount_95d88, Cond.initialized RJ13, Cond.code yJ13_bitCount_95d88 cJ13_bitCount_95d88 2 (some .int), Cond.constantLong RJ13 314 (6148914691236517205), Cond.constantLong RJ13 316 (3689348814741910323)]
def wsX4_watch_r3 : List Cond := [Cond.constantLong RJ13 318 (1085102592571150095), Cond.methodLink RX0 57 yX2_driftAbove, Cond.instanceMethod yX2_driftAbove, Cond.selects RX2 yX2_driftAbove yX2_driftAbove, Cond.code yX2_driftAbove cX2_driftAbove 12 (some .int), Cond.methodLink RX2 50 Lib.Math.abs.name, Cond.static Lib.Math.abs.name, Cond.code Lib.Math.abs.name Lib.Math.abs.code 1 (some .int), Cond.methodLink RX2 44 yJ13_bitCount_95d88, Cond.methodLink RX2 40 yX2_withSort, Cond.instanceMethod yX2_withSort, Cond.selects RX2 yX2_withSort yX2_withSort, Cond.code yX2_withSort cX2_withSort 3 (some .long), Cond.fieldLink RX2 23 "SliceDrift$Rows" "having" "[J", Cond.static yX4_conditionOf, Cond.code yX4_conditionOf cX4_conditionOf 2 (some .int), Cond.static yX4_driftBelow, Cond.code yX4_driftBelow cX4_driftBelow 4 (some .int), Cond.methodLink RX4 102 yJ13_bitCount_95d88, Cond.methodLink RX4 192 yX0_raise, Cond.instanceMethod yX0_raise, Cond.selects RX0 yX0_raise yX0_raise, Cond.code yX0_raise cX0_raise 6 (some .int), Cond.fieldLink RX0 21 "SliceDrift$Alarms" "begun" "I"]
def wsX4_watch_r4 : List Cond := [Cond.fieldLink RX0 32 "SliceDrift$Alarms" "up" "[Z"]
def wsX4_watch : List Cond := .code yX4_watch cX4_watch 6 (some .int) :: ((wsX4_watch_r1 ++ (wsX4_watch_r2 ++ (wsX4_watch_r3 ++ wsX4_watch_r4))) ++ wsX40 ++ wsX20 ++ wsX00)
def wsX4_step : List Cond := .code yX4_step cX4_step 3 (some .int) :: ([.fieldLink RX4 33 "SliceDrift" "alarms" "LSliceDrift$Alarms;", .constant RX4 58 (-1000001), .methodLink RX4 37 yX4_isWithin, .static yX4_isWithin, .initialized RX4, .code yX4_isWithin cX4_isWithin 3 (some .boolean), .methodLink RX4 71 yX4_asNumber, .static yX4_asNumber, .code yX4_asNumber cX4_asNumber 1 (some .int), .methodLink RX4 206 yX0_beginOf, .instanceMethod yX0_beginOf, .selects RX0 yX0_beginOf yX0_beginOf, .initialized RX0, .code yX0_beginOf cX0_beginOf 2 (some .int), .fieldLink RX0 9 "SliceDrift$Alarms" "base" "I", .fieldLink RX0 15 "SliceDrift$Alarms" "length" "I"] ++ wsX40 ++ wsX00)
def wsX4_count : List Cond := .code yX4_count cX4_count 2 (some .int) :: ([.fieldLink RX4 10 "SliceDrift" "rows" "LSliceDrift$Rows;", .fieldLink RX4 19 "SliceDrift" "list" "LSliceDrift$SliceList;", .fieldLink RX4 33 "SliceDrift" "alarms" "LSliceDrift$Alarms;", .constant RX4 58 (-1000001), .methodLink RX4 102 yJ13_bitCount_95d88, .static yJ13_bitCount_95d88, .initialized RJ13, .code yJ13_bitCount_95d88 cJ13_bitCount_95d88 2 (some .int), .constantLong RJ13 314 (6148914691236517205), .constantLong RJ13 316 (3689348814741910323), .constantLong RJ13 318 (1085102592571150095), .methodLink RX4 212 yX2_lackingSome, .instanceMethod yX2_lackingSome, .selects RX2 yX2_lackingSome yX2_lackingSome, .initialized RX2, .code yX2_lackingSome cX2_lackingSome 4 (some .long), .methodLink RX2 40 yX2_withSort, .instanceMethod yX2_withSort, .selects RX2 yX2_withSort yX2_withSort, .code yX2_withSort cX2_withSort 3 (some .long), .fieldLink RX2 23 "SliceDrift$Rows" "having" "[J", .static yX4_conditionOf, .initialized RX4, .code yX4_conditionOf cX4_conditionOf 2 (some .int)] ++ wsX40 ++ wsX20 ++ wsX30 ++ wsX00)
def wsX5_init_r1 : List Cond := [Cond.methodLink RX5 1 objectInit, Cond.instanceMethod objectInit, Cond.code objectInit ⟨#[0xb1]⟩ 1 none, Cond.arrayClass .int, Cond.fieldLink RX5 7 "SliceDriftModel" "time" "[I", Cond.arrayClass .boolean, Cond.fieldLink RX5 13 "SliceDriftModel" "isHit" "[Z", Cond.fieldLink RX5 17 "SliceDriftModel" "sort" "[I", Cond.fieldLink RX5 20 "SliceDriftModel" "firstColumn" "[I", Cond.fieldLink RX5 23 "SliceDriftModel" "firstSort" "[I", Cond.fieldLink RX5 26 "SliceDriftModel" "secondColumn" "[I", Cond.fieldLink RX5 29 "SliceDriftModel" "secondSort" "[I", Cond.arrayClass .long, Cond.fieldLink RX5 32 "SliceDriftModel" "members" "[J", Cond.fieldLink RX5 36 "SliceDriftModel" "many" "[I", Cond.fieldLink RX5 39 "SliceDriftModel" "hits" "[I", Cond.fieldLink RX5 42 "SliceDriftModel" "first" "[I", Cond.fieldLink RX5 45 "SliceDriftModel" "second" "[I", Cond.fieldLink RX5 48 "SliceDriftModel" "ways" "[J", Cond.fieldLink RX5 51 "SliceDriftModel" "more" "[J", Cond.fieldLink RX5 54 "SliceDriftModel" "choose" "[J", Cond.fieldLink RX5 57 "SliceDriftModel" "aboves" "[J", Cond.fieldLink RX5 60 "SliceDriftModel" "order" "[I", Cond.fieldLink RX5 63 "SliceDriftModel" "isUp" "[Z"]
def wsX5_init_r2 : List Cond := [Cond.fieldLink RX5 66 "SliceDriftModel" "isOff" "[Z", Cond.fieldLink RX5 69 "SliceDriftModel" "stepRows" "[I", Cond.fieldLink RX5 72 "SliceDriftModel" "begins" "[I"]
def wsX5_init : List Cond := .code yX5_init cX5_init 1 none :: ((wsX5_init_r1 ++ wsX5_init_r2) ++ wsX50)
def wsX5_thrown : List Cond := .code yX5_thrown cX5_thrown 1 (some .int) :: ([.fieldLink RX5 75 "SliceDriftModel" "thrown" "I"] ++ wsX50)
def wsX5_in : List Cond := .code yX5_in cX5_in 3 (some .boolean) :: ([])
def wsX5_row : List Cond := .code yX5_row cX5_row 4 (some .int) :: ([.fieldLink RX5 75 "SliceDriftModel" "thrown" "I", .constant RX5 83 (-1000002), .fieldLink RX5 84 "SliceDriftModel" "rows" "I", .constant RX5 87 (-1000004), .fieldLink RX5 7 "SliceDriftModel" "time" "[I", .fieldLink RX5 13 "SliceDriftModel" "isHit" "[Z", .fieldLink RX5 17 "SliceDriftModel" "sort" "[I", .methodLink RX5 79 yX5_in, .static yX5_in, .initialized RX5, .code yX5_in cX5_in 3 (some .boolean)] ++ wsX50)
def wsX5_put : List Cond := .code yX5_put cX5_put 5 (some .int) :: ([.fieldLink RX5 75 "SliceDriftModel" "thrown" "I", .fieldLink RX5 84 "SliceDriftModel" "rows" "I", .constant RX5 88 (-1000001), .constant RX5 83 (-1000002), .fieldLink RX5 17 "SliceDriftModel" "sort" "[I", .methodLink RX5 79 yX5_in, .static yX5_in, .initialized RX5, .code yX5_in cX5_in 3 (some .boolean)] ++ wsX50)
def wsX5_of : List Cond := .code yX5_of cX5_of 3 (some .int) :: ([.fieldLink RX5 75 "SliceDriftModel" "thrown" "I", .fieldLink RX5 84 "SliceDriftModel" "rows" "I", .constant RX5 88 (-1000001), .fieldLink RX5 17 "SliceDriftModel" "sort" "[I", .fieldLink RX5 7 "SliceDriftModel" "time" "[I", .fieldLink RX5 13 "SliceDriftModel" "isHit" "[Z", .methodLink RX5 79 yX5_in, .static yX5_in, .initialized RX5, .code yX5_in cX5_in 3 (some .boolean)] ++ wsX50)
def wsX5_gcd : List Cond := .code yX5_gcd cX5_gcd 10 (some .long) :: ([])
def wsX5_part : List Cond := .code yX5_part cX5_part 7 (some .long) :: ([.methodLink RX5 89 yX5_gcd, .static yX5_gcd, .initialized RX5, .code yX5_gcd cX5_gcd 10 (some .long)])
def wsX5_rowsOf : List Cond := .code yX5_rowsOf cX5_rowsOf 6 (some .long) :: ([.fieldLink RX5 84 "SliceDriftModel" "rows" "I", .fieldLink RX5 17 "SliceDriftModel" "sort" "[I"] ++ wsX50)
def wsX5_countOf : List Cond := .code yX5_countOf cX5_countOf 4 (some .int) :: ([])
def wsX5_hitsOf : List Cond := .code yX5_hitsOf cX5_hitsOf 5 (some .int) :: ([.fieldLink RX5 84 "SliceDriftModel" "rows" "I", .fieldLink RX5 13 "SliceDriftModel" "isHit" "[Z"] ++ wsX50)
def wsX5_goesBefore : List Cond := .code yX5_goesBefore cX5_goesBefore 10 (some .boolean) :: ([.fieldLink RX5 36 "SliceDriftModel" "many" "[I", .fieldLink RX5 39 "SliceDriftModel" "hits" "[I", .fieldLink RX5 20 "SliceDriftModel" "firstColumn" "[I", .fieldLink RX5 23 "SliceDriftModel" "firstSort" "[I", .fieldLink RX5 26 "SliceDriftModel" "secondColumn" "[I", .fieldLink RX5 29 "SliceDriftModel" "secondSort" "[I"] ++ wsX50)
def wsX5_judge : List Cond := .code yX5_judge cX5_judge 11 none :: ([.fieldLink RX5 100 "SliceDriftModel" "listed" "I", .fieldLink RX5 20 "SliceDriftModel" "firstColumn" "[I", .fieldLink RX5 23 "SliceDriftModel" "firstSort" "[I", .fieldLink RX5 26 "SliceDriftModel" "secondColumn" "[I", .fieldLink RX5 29 "SliceDriftModel" "secondSort" "[I", .fieldLink RX5 32 "SliceDriftModel" "members" "[J", .fieldLink RX5 36 "SliceDriftModel" "many" "[I", .fieldLink RX5 39 "SliceDriftModel" "hits" "[I", .methodLink RX5 93 yX5_countOf, .static yX5_countOf, .initialized RX5, .code yX5_countOf cX5_countOf 4 (some .int), .methodLink RX5 97 yX5_hitsOf, .instanceMethod yX5_hitsOf, .selects RX5 yX5_hitsOf yX5_hitsOf, .code yX5_hitsOf cX5_hitsOf 5 (some .int), .fieldLink RX5 84 "SliceDriftModel" "rows" "I", .fieldLink RX5 13 "SliceDriftModel" "isHit" "[Z", .methodLink RX5 103 yX5_goesBefore, .instanceMethod yX5_goesBefore, .selects RX5 yX5_goesBefore yX5_goesBefore, .code yX5_goesBefore cX5_goesBefore 10 (some .boolean)] ++ wsX50)
def wsX5_slices_r1 : List Cond := [Cond.fieldLink RX5 75 "SliceDriftModel" "thrown" "I", Cond.constant RX5 83 (-1000002), Cond.fieldLink RX5 100 "SliceDriftModel" "listed" "I", Cond.methodLink RX5 79 yX5_in, Cond.static yX5_in, Cond.initialized RX5, Cond.code yX5_in cX5_in 3 (some .boolean), Cond.methodLink RX5 107 yX5_rowsOf, Cond.instanceMethod yX5_rowsOf, Cond.selects RX5 yX5_rowsOf yX5_rowsOf, Cond.code yX5_rowsOf cX5_rowsOf 6 (some .long), Cond.fieldLink RX5 84 "SliceDriftModel" "rows" "I", Cond.fieldLink RX5 17 "SliceDriftModel" "sort" "[I", Cond.methodLink RX5 111 yX5_judge, Cond.instanceMethod yX5_judge, Cond.selects RX5 yX5_judge yX5_judge, Cond.code yX5_judge cX5_judge 11 none, Cond.fieldLink RX5 20 "SliceDriftModel" "firstColumn" "[I", Cond.fieldLink RX5 23 "SliceDriftModel" "firstSort" "[I", Cond.fieldLink RX5 26 "SliceDriftModel" "secondColumn" "[I", Cond.fieldLink RX5 29 "SliceDriftModel" "secondSort" "[I", Cond.fieldLink RX5 32 "SliceDriftModel" "members" "[J", Cond.fieldLink RX5 36 "SliceDriftModel" "many" "[I", Cond.fieldLink RX5 39 "SliceDriftModel" "hits" "[I"]
def wsX5_slices_r2 : List Cond := [Cond.methodLink RX5 93 yX5_countOf, Cond.static yX5_countOf, Cond.code yX5_countOf cX5_countOf 4 (some .int), Cond.methodLink RX5 97 yX5_hitsOf, Cond.instanceMethod yX5_hitsOf, Cond.selects RX5 yX5_hitsOf yX5_hitsOf, Cond.code yX5_hitsOf cX5_hitsOf 5 (some .int), Cond.fieldLink RX5 13 "SliceDriftModel" "isHit" "[Z", Cond.methodLink RX5 103 yX5_goesBefore, Cond.instanceMethod yX5_goesBefore, Cond.selects RX5 yX5_goesBefore yX5_goesBefore, Cond.code yX5_goesBefore cX5_goesBefore 10 (some .boolean)]
def wsX5_slices : List Cond := .code yX5_slices cX5_slices 13 (some .int) :: ((wsX5_slices_r1 ++ wsX5_slices_r2) ++ wsX50)
def wsX5_slice : List Cond := .code yX5_slice cX5_slice 3 (some .int) :: ([.fieldLink RX5 75 "SliceDriftModel" "thrown" "I", .fieldLink RX5 100 "SliceDriftModel" "listed" "I", .constant RX5 88 (-1000001), .fieldLink RX5 20 "SliceDriftModel" "firstColumn" "[I", .fieldLink RX5 23 "SliceDriftModel" "firstSort" "[I", .fieldLink RX5 26 "SliceDriftModel" "secondColumn" "[I", .fieldLink RX5 29 "SliceDriftModel" "secondSort" "[I", .fieldLink RX5 36 "SliceDriftModel" "many" "[I", .fieldLink RX5 39 "SliceDriftModel" "hits" "[I", .methodLink RX5 79 yX5_in, .static yX5_in, .initialized RX5, .code yX5_in cX5_in 3 (some .boolean)] ++ wsX50)
def wsX5_member : List Cond := .code yX5_member cX5_member 5 (some .int) :: ([.fieldLink RX5 75 "SliceDriftModel" "thrown" "I", .fieldLink RX5 100 "SliceDriftModel" "listed" "I", .constant RX5 88 (-1000001), .constant RX5 83 (-1000002), .fieldLink RX5 32 "SliceDriftModel" "members" "[J", .methodLink RX5 79 yX5_in, .static yX5_in, .initialized RX5, .code yX5_in cX5_in 3 (some .boolean)] ++ wsX50)
def wsX5_share : List Cond := .code yX5_share cX5_share 4 (some .long) :: ([.fieldLink RX5 75 "SliceDriftModel" "thrown" "I", .fieldLink RX5 100 "SliceDriftModel" "listed" "I", .constantLong RX5 115 (-1000001), .constantLong RX5 117 (-1000002), .fieldLink RX5 39 "SliceDriftModel" "hits" "[I", .fieldLink RX5 36 "SliceDriftModel" "many" "[I", .methodLink RX5 79 yX5_in, .static yX5_in, .initialized RX5, .code yX5_in cX5_in 3 (some .boolean), .methodLink RX5 119 yX5_part, .static yX5_part, .code yX5_part cX5_part 7 (some .long), .methodLink RX5 89 yX5_gcd, .static yX5_gcd, .code yX5_gcd cX5_gcd 10 (some .long)] ++ wsX50)
def wsX5_gap_r1 : List Cond := [Cond.fieldLink RX5 75 "SliceDriftModel" "thrown" "I", Cond.constantLong RX5 115 (-1000001), Cond.constantLong RX5 117 (-1000002), Cond.methodLink RX5 79 yX5_in, Cond.static yX5_in, Cond.initialized RX5, Cond.code yX5_in cX5_in 3 (some .boolean), Cond.methodLink RX5 107 yX5_rowsOf, Cond.instanceMethod yX5_rowsOf, Cond.selects RX5 yX5_rowsOf yX5_rowsOf, Cond.code yX5_rowsOf cX5_rowsOf 6 (some .long), Cond.fieldLink RX5 84 "SliceDriftModel" "rows" "I", Cond.fieldLink RX5 17 "SliceDriftModel" "sort" "[I", Cond.methodLink RX5 93 yX5_countOf, Cond.static yX5_countOf, Cond.code yX5_countOf cX5_countOf 4 (some .int), Cond.methodLink RX5 97 yX5_hitsOf, Cond.instanceMethod yX5_hitsOf, Cond.selects RX5 yX5_hitsOf yX5_hitsOf, Cond.code yX5_hitsOf cX5_hitsOf 5 (some .int), Cond.fieldLink RX5 13 "SliceDriftModel" "isHit" "[Z", Cond.methodLink RX5 119 yX5_part, Cond.static yX5_part, Cond.code yX5_part cX5_part 7 (some .long)]
def wsX5_gap_r2 : List Cond := [Cond.methodLink RX5 89 yX5_gcd, Cond.static yX5_gcd, Cond.code yX5_gcd cX5_gcd 10 (some .long)]
def wsX5_gap : List Cond := .code yX5_gap cX5_gap 13 (some .long) :: ((wsX5_gap_r1 ++ wsX5_gap_r2) ++ wsX50)
def wsX5_isWindow : List Cond := .code yX5_isWindow cX5_isWindow 2 (some .boolean) :: ([])
def wsX5_isIn : List Cond := .code yX5_isIn cX5_isIn 4 (some .boolean) :: ([.fieldLink RX5 7 "SliceDriftModel" "time" "[I"] ++ wsX50)
def wsX5_window : List Cond := .code yX5_window cX5_window 5 (some .int) :: ([.fieldLink RX5 75 "SliceDriftModel" "thrown" "I", .constant RX5 83 (-1000002), .fieldLink RX5 84 "SliceDriftModel" "rows" "I", .methodLink RX5 123 yX5_isWindow, .static yX5_isWindow, .initialized RX5, .code yX5_isWindow cX5_isWindow 2 (some .boolean), .methodLink RX5 127 yX5_isIn, .instanceMethod yX5_isIn, .selects RX5 yX5_isIn yX5_isIn, .code yX5_isIn cX5_isIn 4 (some .boolean), .fieldLink RX5 7 "SliceDriftModel" "time" "[I"] ++ wsX50)
def wsX5_counts : List Cond := .code yX5_counts cX5_counts 8 none :: ([.fieldLink RX5 130 "SliceDriftModel" "firstMany" "I", .fieldLink RX5 133 "SliceDriftModel" "secondMany" "I", .fieldLink RX5 42 "SliceDriftModel" "first" "[I", .fieldLink RX5 45 "SliceDriftModel" "second" "[I", .fieldLink RX5 84 "SliceDriftModel" "rows" "I", .fieldLink RX5 17 "SliceDriftModel" "sort" "[I", .methodLink RX5 127 yX5_isIn, .instanceMethod yX5_isIn, .selects RX5 yX5_isIn yX5_isIn, .initialized RX5, .code yX5_isIn cX5_isIn 4 (some .boolean), .fieldLink RX5 7 "SliceDriftModel" "time" "[I"] ++ wsX50)
def wsX5_drifts : List Cond := .code yX5_drifts cX5_drifts 4 (some .boolean) :: ([.fieldLink RX5 130 "SliceDriftModel" "firstMany" "I", .fieldLink RX5 133 "SliceDriftModel" "secondMany" "I", .fieldLink RX5 136 "SliceDriftModel" "above" "J", .fieldLink RX5 42 "SliceDriftModel" "first" "[I", .fieldLink RX5 45 "SliceDriftModel" "second" "[I", .constantLong RX5 140 (2), .fieldLink RX5 142 "SliceDriftModel" "below" "J"] ++ wsX50)
def wsX5_areWindows : List Cond := .code yX5_areWindows cX5_areWindows 3 (some .boolean) :: ([.methodLink RX5 123 yX5_isWindow, .static yX5_isWindow, .initialized RX5, .code yX5_isWindow cX5_isWindow 2 (some .boolean)])
def wsX5_drift_r1 : List Cond := [Cond.fieldLink RX5 75 "SliceDriftModel" "thrown" "I", Cond.constantLong RX5 115 (-1000001), Cond.constantLong RX5 117 (-1000002), Cond.fieldLink RX5 136 "SliceDriftModel" "above" "J", Cond.fieldLink RX5 142 "SliceDriftModel" "below" "J", Cond.methodLink RX5 79 yX5_in, Cond.static yX5_in, Cond.initialized RX5, Cond.code yX5_in cX5_in 3 (some .boolean), Cond.methodLink RX5 145 yX5_areWindows, Cond.static yX5_areWindows, Cond.code yX5_areWindows cX5_areWindows 3 (some .boolean), Cond.methodLink RX5 123 yX5_isWindow, Cond.static yX5_isWindow, Cond.code yX5_isWindow cX5_isWindow 2 (some .boolean), Cond.methodLink RX5 148 yX5_counts, Cond.instanceMethod yX5_counts, Cond.selects RX5 yX5_counts yX5_counts, Cond.code yX5_counts cX5_counts 8 none, Cond.fieldLink RX5 130 "SliceDriftModel" "firstMany" "I", Cond.fieldLink RX5 133 "SliceDriftModel" "secondMany" "I", Cond.fieldLink RX5 42 "SliceDriftModel" "first" "[I", Cond.fieldLink RX5 45 "SliceDriftModel" "second" "[I", Cond.fieldLink RX5 84 "SliceDriftModel" "rows" "I"]
def wsX5_drift_r2 : List Cond := [Cond.fieldLink RX5 17 "SliceDriftModel" "sort" "[I", Cond.methodLink RX5 127 yX5_isIn, Cond.instanceMethod yX5_isIn, Cond.selects RX5 yX5_isIn yX5_isIn, Cond.code yX5_isIn cX5_isIn 4 (some .boolean), Cond.fieldLink RX5 7 "SliceDriftModel" "time" "[I", Cond.methodLink RX5 152 yX5_drifts, Cond.instanceMethod yX5_drifts, Cond.selects RX5 yX5_drifts yX5_drifts, Cond.code yX5_drifts cX5_drifts 4 (some .boolean), Cond.constantLong RX5 140 (2), Cond.methodLink RX5 119 yX5_part, Cond.static yX5_part, Cond.code yX5_part cX5_part 7 (some .long), Cond.methodLink RX5 89 yX5_gcd, Cond.static yX5_gcd, Cond.code yX5_gcd cX5_gcd 10 (some .long)]
def wsX5_drift : List Cond := .code yX5_drift cX5_drift 6 (some .long) :: ((wsX5_drift_r1 ++ wsX5_drift_r2) ++ wsX50)
def wsX5_riseOf : List Cond := .code yX5_riseOf cX5_riseOf 4 (some .int) :: ([.fieldLink RX5 42 "SliceDriftModel" "first" "[I", .fieldLink RX5 45 "SliceDriftModel" "second" "[I"] ++ wsX50)
def wsX5_rise_r1 : List Cond := [Cond.fieldLink RX5 75 "SliceDriftModel" "thrown" "I", Cond.constant RX5 88 (-1000001), Cond.constant RX5 83 (-1000002), Cond.methodLink RX5 79 yX5_in, Cond.static yX5_in, Cond.initialized RX5, Cond.code yX5_in cX5_in 3 (some .boolean), Cond.methodLink RX5 145 yX5_areWindows, Cond.static yX5_areWindows, Cond.code yX5_areWindows cX5_areWindows 3 (some .boolean), Cond.methodLink RX5 123 yX5_isWindow, Cond.static yX5_isWindow, Cond.code yX5_isWindow cX5_isWindow 2 (some .boolean), Cond.methodLink RX5 148 yX5_counts, Cond.instanceMethod yX5_counts, Cond.selects RX5 yX5_counts yX5_counts, Cond.code yX5_counts cX5_counts 8 none, Cond.fieldLink RX5 130 "SliceDriftModel" "firstMany" "I", Cond.fieldLink RX5 133 "SliceDriftModel" "secondMany" "I", Cond.fieldLink RX5 42 "SliceDriftModel" "first" "[I", Cond.fieldLink RX5 45 "SliceDriftModel" "second" "[I", Cond.fieldLink RX5 84 "SliceDriftModel" "rows" "I", Cond.fieldLink RX5 17 "SliceDriftModel" "sort" "[I", Cond.methodLink RX5 127 yX5_isIn]
def wsX5_rise_r2 : List Cond := [Cond.instanceMethod yX5_isIn, Cond.selects RX5 yX5_isIn yX5_isIn, Cond.code yX5_isIn cX5_isIn 4 (some .boolean), Cond.fieldLink RX5 7 "SliceDriftModel" "time" "[I", Cond.methodLink RX5 156 yX5_riseOf, Cond.instanceMethod yX5_riseOf, Cond.selects RX5 yX5_riseOf yX5_riseOf, Cond.code yX5_riseOf cX5_riseOf 4 (some .int)]
def wsX5_rise : List Cond := .code yX5_rise cX5_rise 5 (some .int) :: ((wsX5_rise_r1 ++ wsX5_rise_r2) ++ wsX50)
def wsX5_setChoose : List Cond := .code yX5_setChoose cX5_setChoose 3 none :: ([.fieldLink RX5 54 "SliceDriftModel" "choose" "[J"] ++ wsX50)
def wsX5_odds_r1 : List Cond := [Cond.fieldLink RX5 75 "SliceDriftModel" "thrown" "I", Cond.constantLong RX5 115 (-1000001), Cond.constantLong RX5 117 (-1000002), Cond.fieldLink RX5 130 "SliceDriftModel" "firstMany" "I", Cond.fieldLink RX5 42 "SliceDriftModel" "first" "[I", Cond.fieldLink RX5 133 "SliceDriftModel" "secondMany" "I", Cond.fieldLink RX5 45 "SliceDriftModel" "second" "[I", Cond.constantLong RX5 160 (-1000003), Cond.fieldLink RX5 48 "SliceDriftModel" "ways" "[J", Cond.fieldLink RX5 51 "SliceDriftModel" "more" "[J", Cond.fieldLink RX5 54 "SliceDriftModel" "choose" "[J", Cond.methodLink RX5 79 yX5_in, Cond.static yX5_in, Cond.initialized RX5, Cond.code yX5_in cX5_in 3 (some .boolean), Cond.methodLink RX5 145 yX5_areWindows, Cond.static yX5_areWindows, Cond.code yX5_areWindows cX5_areWindows 3 (some .boolean), Cond.methodLink RX5 123 yX5_isWindow, Cond.static yX5_isWindow, Cond.code yX5_isWindow cX5_isWindow 2 (some .boolean), Cond.methodLink RX5 148 yX5_counts, Cond.instanceMethod yX5_counts, Cond.selects RX5 yX5_counts yX5_counts]
def wsX5_odds_r2 : List Cond := [Cond.code yX5_counts cX5_counts 8 none, Cond.fieldLink RX5 84 "SliceDriftModel" "rows" "I", Cond.fieldLink RX5 17 "SliceDriftModel" "sort" "[I", Cond.methodLink RX5 127 yX5_isIn, Cond.instanceMethod yX5_isIn, Cond.selects RX5 yX5_isIn yX5_isIn, Cond.code yX5_isIn cX5_isIn 4 (some .boolean), Cond.fieldLink RX5 7 "SliceDriftModel" "time" "[I", Cond.methodLink RX5 162 yX5_setChoose, Cond.instanceMethod yX5_setChoose, Cond.selects RX5 yX5_setChoose yX5_setChoose, Cond.code yX5_setChoose cX5_setChoose 3 none, Cond.methodLink RX5 156 yX5_riseOf, Cond.instanceMethod yX5_riseOf, Cond.selects RX5 yX5_riseOf yX5_riseOf, Cond.code yX5_riseOf cX5_riseOf 4 (some .int), Cond.methodLink RX5 119 yX5_part, Cond.static yX5_part, Cond.code yX5_part cX5_part 7 (some .long), Cond.methodLink RX5 89 yX5_gcd, Cond.static yX5_gcd, Cond.code yX5_gcd cX5_gcd 10 (some .long)]
def wsX5_odds : List Cond := .code yX5_odds cX5_odds 14 (some .long) :: ((wsX5_odds_r1 ++ wsX5_odds_r2) ++ wsX50)
def wsX5_fresh_r1 : List Cond := [Cond.fieldLink RX5 75 "SliceDriftModel" "thrown" "I", Cond.constant RX5 88 (-1000001), Cond.constant RX5 83 (-1000002), Cond.fieldLink RX5 45 "SliceDriftModel" "second" "[I", Cond.fieldLink RX5 42 "SliceDriftModel" "first" "[I", Cond.methodLink RX5 79 yX5_in, Cond.static yX5_in, Cond.initialized RX5, Cond.code yX5_in cX5_in 3 (some .boolean), Cond.methodLink RX5 145 yX5_areWindows, Cond.static yX5_areWindows, Cond.code yX5_areWindows cX5_areWindows 3 (some .boolean), Cond.methodLink RX5 123 yX5_isWindow, Cond.static yX5_isWindow, Cond.code yX5_isWindow cX5_isWindow 2 (some .boolean), Cond.methodLink RX5 148 yX5_counts, Cond.instanceMethod yX5_counts, Cond.selects RX5 yX5_counts yX5_counts, Cond.code yX5_counts cX5_counts 8 none, Cond.fieldLink RX5 130 "SliceDriftModel" "firstMany" "I", Cond.fieldLink RX5 133 "SliceDriftModel" "secondMany" "I", Cond.fieldLink RX5 84 "SliceDriftModel" "rows" "I", Cond.fieldLink RX5 17 "SliceDriftModel" "sort" "[I", Cond.methodLink RX5 127 yX5_isIn]
def wsX5_fresh_r2 : List Cond := [Cond.instanceMethod yX5_isIn, Cond.selects RX5 yX5_isIn yX5_isIn, Cond.code yX5_isIn cX5_isIn 4 (some .boolean), Cond.fieldLink RX5 7 "SliceDriftModel" "time" "[I"]
def wsX5_fresh : List Cond := .code yX5_fresh cX5_fresh 8 (some .int) :: ((wsX5_fresh_r1 ++ wsX5_fresh_r2) ++ wsX50)
def wsX5_shift_r1 : List Cond := [Cond.fieldLink RX5 75 "SliceDriftModel" "thrown" "I", Cond.constantLong RX5 115 (-1000001), Cond.constantLong RX5 117 (-1000002), Cond.fieldLink RX5 84 "SliceDriftModel" "rows" "I", Cond.fieldLink RX5 17 "SliceDriftModel" "sort" "[I", Cond.constantLong RX5 160 (-1000003), Cond.methodLink RX5 79 yX5_in, Cond.static yX5_in, Cond.initialized RX5, Cond.code yX5_in cX5_in 3 (some .boolean), Cond.methodLink RX5 145 yX5_areWindows, Cond.static yX5_areWindows, Cond.code yX5_areWindows cX5_areWindows 3 (some .boolean), Cond.methodLink RX5 123 yX5_isWindow, Cond.static yX5_isWindow, Cond.code yX5_isWindow cX5_isWindow 2 (some .boolean), Cond.methodLink RX5 127 yX5_isIn, Cond.instanceMethod yX5_isIn, Cond.selects RX5 yX5_isIn yX5_isIn, Cond.code yX5_isIn cX5_isIn 4 (some .boolean), Cond.fieldLink RX5 7 "SliceDriftModel" "time" "[I", Cond.methodLink RX5 119 yX5_part, Cond.static yX5_part, Cond.code yX5_part cX5_part 7 (some .long)]
def wsX5_shift_r2 : List Cond := [Cond.methodLink RX5 89 yX5_gcd, Cond.static yX5_gcd, Cond.code yX5_gcd cX5_gcd 10 (some .long)]
def wsX5_shift : List Cond := .code yX5_shift cX5_shift 23 (some .long) :: ((wsX5_shift_r1 ++ wsX5_shift_r2) ++ wsX50)
def wsX5_order_r1 : List Cond := [Cond.fieldLink RX5 75 "SliceDriftModel" "thrown" "I", Cond.constant RX5 88 (-1000001), Cond.constant RX5 83 (-1000002), Cond.fieldLink RX5 57 "SliceDriftModel" "aboves" "[J", Cond.fieldLink RX5 136 "SliceDriftModel" "above" "J", Cond.fieldLink RX5 60 "SliceDriftModel" "order" "[I", Cond.methodLink RX5 79 yX5_in, Cond.static yX5_in, Cond.initialized RX5, Cond.code yX5_in cX5_in 3 (some .boolean), Cond.methodLink RX5 145 yX5_areWindows, Cond.static yX5_areWindows, Cond.code yX5_areWindows cX5_areWindows 3 (some .boolean), Cond.methodLink RX5 123 yX5_isWindow, Cond.static yX5_isWindow, Cond.code yX5_isWindow cX5_isWindow 2 (some .boolean), Cond.methodLink RX5 148 yX5_counts, Cond.instanceMethod yX5_counts, Cond.selects RX5 yX5_counts yX5_counts, Cond.code yX5_counts cX5_counts 8 none, Cond.fieldLink RX5 130 "SliceDriftModel" "firstMany" "I", Cond.fieldLink RX5 133 "SliceDriftModel" "secondMany" "I", Cond.fieldLink RX5 42 "SliceDriftModel" "first" "[I", Cond.fieldLink RX5 45 "SliceDriftModel" "second" "[I"]
def wsX5_order_r2 : List Cond := [Cond.fieldLink RX5 84 "SliceDriftModel" "rows" "I", Cond.fieldLink RX5 17 "SliceDriftModel" "sort" "[I", Cond.methodLink RX5 127 yX5_isIn, Cond.instanceMethod yX5_isIn, Cond.selects RX5 yX5_isIn yX5_isIn, Cond.code yX5_isIn cX5_isIn 4 (some .boolean), Cond.fieldLink RX5 7 "SliceDriftModel" "time" "[I", Cond.methodLink RX5 152 yX5_drifts, Cond.instanceMethod yX5_drifts, Cond.selects RX5 yX5_drifts yX5_drifts, Cond.code yX5_drifts cX5_drifts 4 (some .boolean), Cond.constantLong RX5 140 (2), Cond.fieldLink RX5 142 "SliceDriftModel" "below" "J"]
def wsX5_order : List Cond := .code yX5_order cX5_order 7 (some .int) :: ((wsX5_order_r1 ++ wsX5_order_r2) ++ wsX50)
def wsX5_watch_r1 : List Cond := [Cond.fieldLink RX5 75 "SliceDriftModel" "thrown" "I", Cond.constant RX5 88 (-1000001), Cond.constant RX5 83 (-1000002), Cond.fieldLink RX5 130 "SliceDriftModel" "firstMany" "I", Cond.constant RX5 165 (-1000003), Cond.fieldLink RX5 166 "SliceDriftModel" "steps" "I", Cond.fieldLink RX5 169 "SliceDriftModel" "alarms" "I", Cond.constantLong RX5 172 (1000), Cond.fieldLink RX5 136 "SliceDriftModel" "above" "J", Cond.fieldLink RX5 142 "SliceDriftModel" "below" "J", Cond.fieldLink RX5 63 "SliceDriftModel" "isUp" "[Z", Cond.fieldLink RX5 66 "SliceDriftModel" "isOff" "[Z", Cond.fieldLink RX5 69 "SliceDriftModel" "stepRows" "[I", Cond.fieldLink RX5 133 "SliceDriftModel" "secondMany" "I", Cond.fieldLink RX5 72 "SliceDriftModel" "begins" "[I", Cond.methodLink RX5 79 yX5_in, Cond.static yX5_in, Cond.initialized RX5, Cond.code yX5_in cX5_in 3 (some .boolean), Cond.methodLink RX5 148 yX5_counts, Cond.instanceMethod yX5_counts, Cond.selects RX5 yX5_counts yX5_counts, Cond.code yX5_counts cX5_counts 8 none, Cond.fieldLink RX5 42 "SliceDriftModel" "first" "[I"]
def wsX5_watch_r2 : List Cond := [Cond.fieldLink RX5 45 "SliceDriftModel" "second" "[I", Cond.fieldLink RX5 84 "SliceDriftModel" "rows" "I", Cond.fieldLink RX5 17 "SliceDriftModel" "sort" "[I", Cond.methodLink RX5 127 yX5_isIn, Cond.instanceMethod yX5_isIn, Cond.selects RX5 yX5_isIn yX5_isIn, Cond.code yX5_isIn cX5_isIn 4 (some .boolean), Cond.fieldLink RX5 7 "SliceDriftModel" "time" "[I", Cond.methodLink RX5 152 yX5_drifts, Cond.instanceMethod yX5_drifts, Cond.selects RX5 yX5_drifts yX5_drifts, Cond.code yX5_drifts cX5_drifts 4 (some .boolean), Cond.constantLong RX5 140 (2)]
def wsX5_watch : List Cond := .code yX5_watch cX5_watch 13 (some .int) :: ((wsX5_watch_r1 ++ wsX5_watch_r2) ++ wsX50)
def wsX5_step : List Cond := .code yX5_step cX5_step 3 (some .int) :: ([.fieldLink RX5 75 "SliceDriftModel" "thrown" "I", .fieldLink RX5 166 "SliceDriftModel" "steps" "I", .constant RX5 88 (-1000001), .fieldLink RX5 63 "SliceDriftModel" "isUp" "[Z", .fieldLink RX5 66 "SliceDriftModel" "isOff" "[Z", .fieldLink RX5 69 "SliceDriftModel" "stepRows" "[I", .fieldLink RX5 72 "SliceDriftModel" "begins" "[I", .methodLink RX5 79 yX5_in, .static yX5_in, .initialized RX5, .code yX5_in cX5_in 3 (some .boolean)] ++ wsX50)
def wsX5_count : List Cond := .code yX5_count cX5_count 6 (some .int) :: ([.fieldLink RX5 75 "SliceDriftModel" "thrown" "I", .fieldLink RX5 84 "SliceDriftModel" "rows" "I", .constantLong RX5 174 (-1), .fieldLink RX5 100 "SliceDriftModel" "listed" "I", .fieldLink RX5 166 "SliceDriftModel" "steps" "I", .fieldLink RX5 169 "SliceDriftModel" "alarms" "I", .fieldLink RX5 17 "SliceDriftModel" "sort" "[I", .constant RX5 88 (-1000001), .methodLink RX5 97 yX5_hitsOf, .instanceMethod yX5_hitsOf, .selects RX5 yX5_hitsOf yX5_hitsOf, .initialized RX5, .code yX5_hitsOf cX5_hitsOf 5 (some .int), .fieldLink RX5 13 "SliceDriftModel" "isHit" "[Z"] ++ wsX50)
def wsJ9_abs_0f7a4 : List Cond := .code yJ9_abs_0f7a4 cJ9_abs_0f7a4 1 (some .int) :: ([])
def wsJ9_abs_067f4 : List Cond := .code yJ9_abs_067f4 cJ9_abs_067f4 2 (some .long) :: ([])
def wsJ9_max_7cf53 : List Cond := .code yJ9_max_7cf53 cJ9_max_7cf53 2 (some .int) :: ([])
def wsJ9_max_f86c9 : List Cond := .code yJ9_max_f86c9 cJ9_max_f86c9 4 (some .long) :: ([])
def wsJ9_min_7cf53 : List Cond := .code yJ9_min_7cf53 cJ9_min_7cf53 2 (some .int) :: ([])
def wsL_gap_r1 : List Cond := [Cond.classLink RL 13 "java/lang/ArithmeticException", Cond.methodLink RL 7 yX4_gap, Cond.instanceMethod yX4_gap, Cond.selects RX4 yX4_gap yX4_gap, Cond.initialized RX4, Cond.code yX4_gap cX4_gap 13 (some .long), Cond.classLink RX4 133 "java/lang/ArithmeticException", Cond.initialized "java/lang/ArithmeticException", Cond.constantLong RX4 109 (-1000001), Cond.constantLong RX4 114 (-1000002), Cond.fieldLink RX4 10 "SliceDrift" "rows" "LSliceDrift$Rows;", Cond.methodLink RX4 55 yX4_isColumn, Cond.static yX4_isColumn, Cond.code yX4_isColumn cX4_isColumn 1 (some .boolean), Cond.methodLink RX4 37 yX4_isWithin, Cond.static yX4_isWithin, Cond.code yX4_isWithin cX4_isWithin 3 (some .boolean), Cond.methodLink RX4 126 yX4_isSort, Cond.static yX4_isSort, Cond.code yX4_isSort cX4_isSort 1 (some .boolean), Cond.methodLink RX4 111 yX4_isPart, Cond.static yX4_isPart, Cond.code yX4_isPart cX4_isPart 1 (some .boolean), Cond.methodLink RX4 129 yX2_withSort]
def wsL_gap_r2 : List Cond := [Cond.instanceMethod yX2_withSort, Cond.selects RX2 yX2_withSort yX2_withSort, Cond.initialized RX2, Cond.code yX2_withSort cX2_withSort 3 (some .long), Cond.fieldLink RX2 23 "SliceDrift$Rows" "having" "[J", Cond.static yX4_conditionOf, Cond.code yX4_conditionOf cX4_conditionOf 2 (some .int), Cond.methodLink RX4 102 yJ13_bitCount_95d88, Cond.static yJ13_bitCount_95d88, Cond.initialized RJ13, Cond.code yJ13_bitCount_95d88 cJ13_bitCount_95d88 2 (some .int), Cond.constantLong RJ13 314 (6148914691236517205), Cond.constantLong RJ13 316 (3689348814741910323), Cond.constantLong RJ13 318 (1085102592571150095), Cond.methodLink RX4 116 yX4_lowest, Cond.static yX4_lowest, Cond.code yX4_lowest cX4_lowest 7 (some .long), Cond.methodLink RX4 216 Lib.MathLoose.abs_long.x, Cond.static Lib.MathLoose.abs_long.x, Cond.initialized "java/lang/Math", Cond.code Lib.MathLoose.abs_long.x Lib.MathLoose.abs_long.code 2 (some .long), Cond.methodLink RX4 222 yX4_commonDivisor, Cond.static yX4_commonDivisor, Cond.code yX4_commonDivisor cX4_commonDivisor 11 (some .long)]
def wsL_gap_r3 : List Cond := [Cond.methodLink RX4 226 Lib.MathLoose.max_long.x, Cond.static Lib.MathLoose.max_long.x, Cond.code Lib.MathLoose.max_long.x Lib.MathLoose.max_long.code 4 (some .long)]
def wsL_gap : List Cond := .codeWith yL_gap cL_gap 7 (some .int) [(0, 13, 16, 13)] :: ((wsL_gap_r1 ++ (wsL_gap_r2 ++ wsL_gap_r3)) ++ wsX40 ++ wsX20 ++ (vx_atS RX4 137 "java/lang/ArithmeticException" ["java/lang/RuntimeException", "java/lang/Exception"]).filter goodWord)
def wsL_drift_r1 : List Cond := [Cond.classLink RL 13 "java/lang/ArithmeticException", Cond.methodLink RL 15 yX4_drift, Cond.instanceMethod yX4_drift, Cond.selects RX4 yX4_drift yX4_drift, Cond.initialized RX4, Cond.code yX4_drift cX4_drift 10 (some .long), Cond.classLink RX4 133 "java/lang/ArithmeticException", Cond.initialized "java/lang/ArithmeticException", Cond.constantLong RX4 109 (-1000001), Cond.constantLong RX4 114 (-1000002), Cond.fieldLink RX4 10 "SliceDrift" "rows" "LSliceDrift$Rows;", Cond.methodLink RX4 55 yX4_isColumn, Cond.static yX4_isColumn, Cond.code yX4_isColumn cX4_isColumn 1 (some .boolean), Cond.methodLink RX4 37 yX4_isWithin, Cond.static yX4_isWithin, Cond.code yX4_isWithin cX4_isWithin 3 (some .boolean), Cond.methodLink RX4 140 yX4_areTimes, Cond.static yX4_areTimes, Cond.code yX4_areTimes cX4_areTimes 3 (some .boolean), Cond.methodLink RX4 111 yX4_isPart, Cond.static yX4_isPart, Cond.code yX4_isPart cX4_isPart 1 (some .boolean), Cond.methodLink RX4 143 yX2_between]
def wsL_drift_r2 : List Cond := [Cond.instanceMethod yX2_between, Cond.selects RX2 yX2_between yX2_between, Cond.initialized RX2, Cond.code yX2_between cX2_between 6 (some .long), Cond.fieldLink RX2 9 "SliceDrift$Rows" "size" "I", Cond.fieldLink RX2 19 "SliceDrift$Rows" "times" "[I", Cond.methodLink RX4 148 yX2_driftAbove, Cond.instanceMethod yX2_driftAbove, Cond.selects RX2 yX2_driftAbove yX2_driftAbove, Cond.code yX2_driftAbove cX2_driftAbove 12 (some .int), Cond.methodLink RX2 50 Lib.Math.abs.name, Cond.static Lib.Math.abs.name, Cond.initialized "java/lang/Math", Cond.code Lib.Math.abs.name Lib.Math.abs.code 1 (some .int), Cond.methodLink RX2 44 yJ13_bitCount_95d88, Cond.static yJ13_bitCount_95d88, Cond.initialized RJ13, Cond.code yJ13_bitCount_95d88 cJ13_bitCount_95d88 2 (some .int), Cond.constantLong RJ13 314 (6148914691236517205), Cond.constantLong RJ13 316 (3689348814741910323), Cond.constantLong RJ13 318 (1085102592571150095), Cond.methodLink RX2 40 yX2_withSort, Cond.instanceMethod yX2_withSort, Cond.selects RX2 yX2_withSort yX2_withSort]
def wsL_drift_r3 : List Cond := [Cond.code yX2_withSort cX2_withSort 3 (some .long), Cond.fieldLink RX2 23 "SliceDrift$Rows" "having" "[J", Cond.static yX4_conditionOf, Cond.code yX4_conditionOf cX4_conditionOf 2 (some .int), Cond.methodLink RX4 152 yX4_driftBelow, Cond.static yX4_driftBelow, Cond.code yX4_driftBelow cX4_driftBelow 4 (some .int), Cond.methodLink RX4 102 yJ13_bitCount_95d88, Cond.methodLink RX4 116 yX4_lowest, Cond.static yX4_lowest, Cond.code yX4_lowest cX4_lowest 7 (some .long), Cond.methodLink RX4 216 Lib.MathLoose.abs_long.x, Cond.static Lib.MathLoose.abs_long.x, Cond.code Lib.MathLoose.abs_long.x Lib.MathLoose.abs_long.code 2 (some .long), Cond.methodLink RX4 222 yX4_commonDivisor, Cond.static yX4_commonDivisor, Cond.code yX4_commonDivisor cX4_commonDivisor 11 (some .long), Cond.methodLink RX4 226 Lib.MathLoose.max_long.x, Cond.static Lib.MathLoose.max_long.x, Cond.code Lib.MathLoose.max_long.x Lib.MathLoose.max_long.code 4 (some .long)]
def wsL_drift : List Cond := .codeWith yL_drift cL_drift 8 (some .int) [(0, 15, 18, 13)] :: ((wsL_drift_r1 ++ (wsL_drift_r2 ++ wsL_drift_r3)) ++ wsX40 ++ wsX20 ++ (vx_atS RX4 137 "java/lang/ArithmeticException" ["java/lang/RuntimeException", "java/lang/Exception"]).filter goodWord)
def wsL_shift_r1 : List Cond := [Cond.classLink RL 13 "java/lang/ArithmeticException", Cond.methodLink RL 19 yX4_shift, Cond.instanceMethod yX4_shift, Cond.selects RX4 yX4_shift yX4_shift, Cond.initialized RX4, Cond.code yX4_shift cX4_shift 25 (some .long), Cond.classLink RX4 133 "java/lang/ArithmeticException", Cond.initialized "java/lang/ArithmeticException", Cond.constantLong RX4 109 (-1000001), Cond.constantLong RX4 114 (-1000002), Cond.fieldLink RX4 10 "SliceDrift" "rows" "LSliceDrift$Rows;", Cond.constantLong RX4 170 (-1000003), Cond.methodLink RX4 55 yX4_isColumn, Cond.static yX4_isColumn, Cond.code yX4_isColumn cX4_isColumn 1 (some .boolean), Cond.methodLink RX4 37 yX4_isWithin, Cond.static yX4_isWithin, Cond.code yX4_isWithin cX4_isWithin 3 (some .boolean), Cond.methodLink RX4 140 yX4_areTimes, Cond.static yX4_areTimes, Cond.code yX4_areTimes cX4_areTimes 3 (some .boolean), Cond.methodLink RX4 111 yX4_isPart, Cond.static yX4_isPart, Cond.code yX4_isPart cX4_isPart 1 (some .boolean)]
def wsL_shift_r2 : List Cond := [Cond.methodLink RX4 143 yX2_between, Cond.instanceMethod yX2_between, Cond.selects RX2 yX2_between yX2_between, Cond.initialized RX2, Cond.code yX2_between cX2_between 6 (some .long), Cond.fieldLink RX2 9 "SliceDrift$Rows" "size" "I", Cond.fieldLink RX2 19 "SliceDrift$Rows" "times" "[I", Cond.methodLink RX4 129 yX2_withSort, Cond.instanceMethod yX2_withSort, Cond.selects RX2 yX2_withSort yX2_withSort, Cond.code yX2_withSort cX2_withSort 3 (some .long), Cond.fieldLink RX2 23 "SliceDrift$Rows" "having" "[J", Cond.static yX4_conditionOf, Cond.code yX4_conditionOf cX4_conditionOf 2 (some .int), Cond.methodLink RX4 102 yJ13_bitCount_95d88, Cond.static yJ13_bitCount_95d88, Cond.initialized RJ13, Cond.code yJ13_bitCount_95d88 cJ13_bitCount_95d88 2 (some .int), Cond.constantLong RJ13 314 (6148914691236517205), Cond.constantLong RJ13 316 (3689348814741910323), Cond.constantLong RJ13 318 (1085102592571150095), Cond.methodLink RX4 116 yX4_lowest, Cond.static yX4_lowest, Cond.code yX4_lowest cX4_lowest 7 (some .long)]
def wsL_shift_r3 : List Cond := [Cond.methodLink RX4 216 Lib.MathLoose.abs_long.x, Cond.static Lib.MathLoose.abs_long.x, Cond.initialized "java/lang/Math", Cond.code Lib.MathLoose.abs_long.x Lib.MathLoose.abs_long.code 2 (some .long), Cond.methodLink RX4 222 yX4_commonDivisor, Cond.static yX4_commonDivisor, Cond.code yX4_commonDivisor cX4_commonDivisor 11 (some .long), Cond.methodLink RX4 226 Lib.MathLoose.max_long.x, Cond.static Lib.MathLoose.max_long.x, Cond.code Lib.MathLoose.max_long.x Lib.MathLoose.max_long.code 4 (some .long)]
def wsL_shift : List Cond := .codeWith yL_shift cL_shift 9 (some .int) [(0, 17, 20, 13)] :: ((wsL_shift_r1 ++ (wsL_shift_r2 ++ wsL_shift_r3)) ++ wsX40 ++ wsX20 ++ (vx_atS RX4 137 "java/lang/ArithmeticException" ["java/lang/RuntimeException", "java/lang/Exception"]).filter goodWord)
def wsL_order_r1 : List Cond := [Cond.classLink RL 13 "java/lang/ArithmeticException", Cond.methodLink RL 23 yX4_order, Cond.instanceMethod yX4_order, Cond.selects RX4 yX4_order yX4_order, Cond.initialized RX4, Cond.code yX4_order cX4_order 10 (some .int), Cond.classLink RX4 133 "java/lang/ArithmeticException", Cond.initialized "java/lang/ArithmeticException", Cond.constant RX4 58 (-1000001), Cond.constant RX4 41 (-1000002), Cond.fieldLink RX4 10 "SliceDrift" "rows" "LSliceDrift$Rows;", Cond.methodLink RX4 55 yX4_isColumn, Cond.static yX4_isColumn, Cond.code yX4_isColumn cX4_isColumn 1 (some .boolean), Cond.methodLink RX4 37 yX4_isWithin, Cond.static yX4_isWithin, Cond.code yX4_isWithin cX4_isWithin 3 (some .boolean), Cond.methodLink RX4 140 yX4_areTimes, Cond.static yX4_areTimes, Cond.code yX4_areTimes cX4_areTimes 3 (some .boolean), Cond.methodLink RX4 143 yX2_between, Cond.instanceMethod yX2_between, Cond.selects RX2 yX2_between yX2_between, Cond.initialized RX2]
def wsL_order_r2 : List Cond := [Cond.code yX2_between cX2_between 6 (some .long), Cond.fieldLink RX2 9 "SliceDrift$Rows" "size" "I", Cond.fieldLink RX2 19 "SliceDrift$Rows" "times" "[I", Cond.methodLink RX4 180 yX2_placeByDrift, Cond.instanceMethod yX2_placeByDrift, Cond.selects RX2 yX2_placeByDrift yX2_placeByDrift, Cond.code yX2_placeByDrift cX2_placeByDrift 10 (some .int), Cond.methodLink RX2 56 yX2_driftAbove, Cond.instanceMethod yX2_driftAbove, Cond.selects RX2 yX2_driftAbove yX2_driftAbove, Cond.code yX2_driftAbove cX2_driftAbove 12 (some .int), Cond.methodLink RX2 50 Lib.Math.abs.name, Cond.static Lib.Math.abs.name, Cond.initialized "java/lang/Math", Cond.code Lib.Math.abs.name Lib.Math.abs.code 1 (some .int), Cond.methodLink RX2 44 yJ13_bitCount_95d88, Cond.static yJ13_bitCount_95d88, Cond.initialized RJ13, Cond.code yJ13_bitCount_95d88 cJ13_bitCount_95d88 2 (some .int), Cond.constantLong RJ13 314 (6148914691236517205), Cond.constantLong RJ13 316 (3689348814741910323), Cond.constantLong RJ13 318 (1085102592571150095), Cond.methodLink RX2 40 yX2_withSort, Cond.instanceMethod yX2_withSort]
def wsL_order_r3 : List Cond := [Cond.selects RX2 yX2_withSort yX2_withSort, Cond.code yX2_withSort cX2_withSort 3 (some .long), Cond.fieldLink RX2 23 "SliceDrift$Rows" "having" "[J", Cond.static yX4_conditionOf, Cond.code yX4_conditionOf cX4_conditionOf 2 (some .int)]
def wsL_order : List Cond := .codeWith yL_order cL_order 7 (some .int) [(0, 14, 17, 13)] :: ((wsL_order_r1 ++ (wsL_order_r2 ++ wsL_order_r3)) ++ wsX40 ++ wsX20 ++ (vx_atS RX4 137 "java/lang/ArithmeticException" ["java/lang/RuntimeException", "java/lang/Exception"]).filter goodWord)
def wsL_law0_r1 : List Cond := [Cond.classLink RL 8 RX4, Cond.instantiable RX4 4, Cond.initialized RX4, Cond.classLink RL 28 RX5, Cond.instantiable RX5 30, Cond.initialized RX5, Cond.arrayClass .long, Cond.methodLink RL 27 yX4_init, Cond.instanceMethod yX4_init, Cond.code yX4_init cX4_init 1 none, Cond.methodLink RX4 1 objectInit, Cond.instanceMethod objectInit, Cond.code objectInit ⟨#[0xb1]⟩ 1 none, Cond.classLink RX4 7 RX2, Cond.instantiable RX2 4, Cond.initialized RX2, Cond.fieldLink RX4 10 "SliceDrift" "rows" "LSliceDrift$Rows;", Cond.classLink RX4 16 RX3, Cond.instantiable RX3 5, Cond.initialized RX3, Cond.fieldLink RX4 19 "SliceDrift" "list" "LSliceDrift$SliceList;", Cond.classLink RX4 23 RX1, Cond.instantiable RX1 5, Cond.initialized RX1]
def wsL_law0_r2 : List Cond := [Cond.fieldLink RX4 26 "SliceDrift" "ranks" "LSliceDrift$Ranks;", Cond.classLink RX4 30 RX0, Cond.instantiable RX0 7, Cond.initialized RX0, Cond.fieldLink RX4 33 "SliceDrift" "alarms" "LSliceDrift$Alarms;", Cond.instanceMethod yX2_init, Cond.code yX2_init cX2_init 1 none, Cond.methodLink RX2 3 objectInit, Cond.fieldLink RX2 9 "SliceDrift$Rows" "size" "I", Cond.fieldLink RX2 15 "SliceDrift$Rows" "hits" "J", Cond.arrayClass .int, Cond.fieldLink RX2 19 "SliceDrift$Rows" "times" "[I", Cond.fieldLink RX2 23 "SliceDrift$Rows" "having" "[J", Cond.instanceMethod yX3_init, Cond.code yX3_init cX3_init 1 none, Cond.methodLink RX3 3 objectInit, Cond.fieldLink RX3 9 "SliceDrift$SliceList" "size" "I", Cond.fieldLink RX3 15 "SliceDrift$SliceList" "hits" "J", Cond.fieldLink RX3 19 "SliceDrift$SliceList" "members" "[J", Cond.fieldLink RX3 23 "SliceDrift$SliceList" "firsts" "[I", Cond.fieldLink RX3 27 "SliceDrift$SliceList" "seconds" "[I", Cond.instanceMethod yX1_init, Cond.code yX1_init cX1_init 1 none, Cond.methodLink RX1 5 objectInit]
def wsL_law0_r3 : List Cond := [Cond.fieldLink RX1 11 "SliceDrift$Ranks" "firstRows" "I", Cond.fieldLink RX1 15 "SliceDrift$Ranks" "secondRows" "I", Cond.fieldLink RX1 18 "SliceDrift$Ranks" "firsts" "[I", Cond.fieldLink RX1 22 "SliceDrift$Ranks" "seconds" "[I", Cond.fieldLink RX1 25 "SliceDrift$Ranks" "ways" "[I", Cond.instanceMethod yX0_init, Cond.code yX0_init cX0_init 1 none, Cond.methodLink RX0 3 objectInit, Cond.fieldLink RX0 9 "SliceDrift$Alarms" "base" "I", Cond.fieldLink RX0 15 "SliceDrift$Alarms" "length" "I", Cond.fieldLink RX0 18 "SliceDrift$Alarms" "size" "I", Cond.fieldLink RX0 21 "SliceDrift$Alarms" "begun" "I", Cond.fieldLink RX0 24 "SliceDrift$Alarms" "stepRows" "[I", Cond.arrayClass .boolean, Cond.fieldLink RX0 28 "SliceDrift$Alarms" "off" "[Z", Cond.fieldLink RX0 32 "SliceDrift$Alarms" "up" "[Z", Cond.methodLink RL 30 yX5_init, Cond.instanceMethod yX5_init, Cond.code yX5_init cX5_init 1 none, Cond.methodLink RX5 1 objectInit, Cond.fieldLink RX5 7 "SliceDriftModel" "time" "[I", Cond.fieldLink RX5 13 "SliceDriftModel" "isHit" "[Z", Cond.fieldLink RX5 17 "SliceDriftModel" "sort" "[I", Cond.fieldLink RX5 20 "SliceDriftModel" "firstColumn" "[I"]
def wsL_law0_r4 : List Cond := [Cond.fieldLink RX5 23 "SliceDriftModel" "firstSort" "[I", Cond.fieldLink RX5 26 "SliceDriftModel" "secondColumn" "[I", Cond.fieldLink RX5 29 "SliceDriftModel" "secondSort" "[I", Cond.fieldLink RX5 32 "SliceDriftModel" "members" "[J", Cond.fieldLink RX5 36 "SliceDriftModel" "many" "[I", Cond.fieldLink RX5 39 "SliceDriftModel" "hits" "[I", Cond.fieldLink RX5 42 "SliceDriftModel" "first" "[I", Cond.fieldLink RX5 45 "SliceDriftModel" "second" "[I", Cond.fieldLink RX5 48 "SliceDriftModel" "ways" "[J", Cond.fieldLink RX5 51 "SliceDriftModel" "more" "[J", Cond.fieldLink RX5 54 "SliceDriftModel" "choose" "[J", Cond.fieldLink RX5 57 "SliceDriftModel" "aboves" "[J", Cond.fieldLink RX5 60 "SliceDriftModel" "order" "[I", Cond.fieldLink RX5 63 "SliceDriftModel" "isUp" "[Z", Cond.fieldLink RX5 66 "SliceDriftModel" "isOff" "[Z", Cond.fieldLink RX5 69 "SliceDriftModel" "stepRows" "[I", Cond.fieldLink RX5 72 "SliceDriftModel" "begins" "[I", Cond.methodLink RL 31 yX4_row, Cond.instanceMethod yX4_row, Cond.selects RX4 yX4_row yX4_row, Cond.code yX4_row cX4_row 3 (some .int), Cond.constant RX4 41 (-1000002), Cond.constant RX4 46 (-1000004), Cond.methodLink RX4 37 yX4_isWithin]
def wsL_law0_r5 : List Cond := [Cond.static yX4_isWithin, Cond.code yX4_isWithin cX4_isWithin 3 (some .boolean), Cond.methodLink RX4 47 yX2_add, Cond.instanceMethod yX2_add, Cond.selects RX2 yX2_add yX2_add, Cond.code yX2_add cX2_add 5 (some .int), Cond.static yX4_conditionOf, Cond.code yX4_conditionOf cX4_conditionOf 2 (some .int), Cond.methodLink RL 35 yX5_row, Cond.instanceMethod yX5_row, Cond.selects RX5 yX5_row yX5_row, Cond.code yX5_row cX5_row 4 (some .int), Cond.fieldLink RX5 75 "SliceDriftModel" "thrown" "I", Cond.constant RX5 83 (-1000002), Cond.fieldLink RX5 84 "SliceDriftModel" "rows" "I", Cond.constant RX5 87 (-1000004), Cond.methodLink RX5 79 yX5_in, Cond.static yX5_in, Cond.code yX5_in cX5_in 3 (some .boolean), Cond.methodLink RL 36 yX4_put, Cond.instanceMethod yX4_put, Cond.selects RX4 yX4_put yX4_put, Cond.code yX4_put cX4_put 4 (some .int), Cond.constant RX4 58 (-1000001)]
def wsL_law0_r6 : List Cond := [Cond.methodLink RX4 51 yX2_has, Cond.instanceMethod yX2_has, Cond.selects RX2 yX2_has yX2_has, Cond.code yX2_has cX2_has 2 (some .boolean), Cond.methodLink RX4 55 yX4_isColumn, Cond.static yX4_isColumn, Cond.code yX4_isColumn cX4_isColumn 1 (some .boolean), Cond.methodLink RX4 59 yX2_change, Cond.instanceMethod yX2_change, Cond.selects RX2 yX2_change yX2_change, Cond.code yX2_change cX2_change 5 (some .int), Cond.constantLong RX2 38 (-1), Cond.methodLink RX2 35 yX2_sortAt, Cond.instanceMethod yX2_sortAt, Cond.selects RX2 yX2_sortAt yX2_sortAt, Cond.code yX2_sortAt cX2_sortAt 4 (some .int), Cond.methodLink RX2 40 yX2_withSort, Cond.instanceMethod yX2_withSort, Cond.selects RX2 yX2_withSort yX2_withSort, Cond.code yX2_withSort cX2_withSort 3 (some .long), Cond.methodLink RL 40 yX5_put, Cond.instanceMethod yX5_put, Cond.selects RX5 yX5_put yX5_put, Cond.code yX5_put cX5_put 5 (some .int)]
def wsL_law0_r7 : List Cond := [Cond.constant RX5 88 (-1000001), Cond.methodLink RL 41 yX4_of, Cond.instanceMethod yX4_of, Cond.selects RX4 yX4_of yX4_of, Cond.code yX4_of cX4_of 3 (some .int), Cond.methodLink RX4 71 yX4_asNumber, Cond.static yX4_asNumber, Cond.code yX4_asNumber cX4_asNumber 1 (some .int), Cond.methodLink RX4 75 yX2_sortAt, Cond.methodLink RL 45 yX5_of, Cond.instanceMethod yX5_of, Cond.selects RX5 yX5_of yX5_of, Cond.code yX5_of cX5_of 3 (some .int), Cond.methodLink RL 46 yX4_slices, Cond.instanceMethod yX4_slices, Cond.selects RX4 yX4_slices yX4_slices, Cond.code yX4_slices cX4_slices 3 (some .int), Cond.methodLink RX4 79 yX3_make, Cond.instanceMethod yX3_make, Cond.selects RX3 yX3_make yX3_make, Cond.code yX3_make cX3_make 7 none, Cond.methodLink RX3 40 yJ13_bitCount_95d88, Cond.static yJ13_bitCount_95d88, Cond.initialized RJ13]
def wsL_law0_r8 : List Cond := [Cond.code yJ13_bitCount_95d88 cJ13_bitCount_95d88 2 (some .int), Cond.constantLong RJ13 314 (6148914691236517205), Cond.constantLong RJ13 316 (3689348814741910323), Cond.constantLong RJ13 318 (1085102592571150095), Cond.methodLink RX3 46 yX3_insert, Cond.instanceMethod yX3_insert, Cond.selects RX3 yX3_insert yX3_insert, Cond.code yX3_insert cX3_insert 6 none, Cond.methodLink RX3 65 arraycopyName, Cond.native arraycopyName, Cond.static arraycopyName, Cond.initialized "java/lang/System", Cond.methodLink RX3 62 yX3_placeFor, Cond.instanceMethod yX3_placeFor, Cond.selects RX3 yX3_placeFor yX3_placeFor, Cond.code yX3_placeFor cX3_placeFor 7 (some .int), Cond.methodLink RX3 71 yX3_isAhead, Cond.instanceMethod yX3_isAhead, Cond.selects RX3 yX3_isAhead yX3_isAhead, Cond.code yX3_isAhead cX3_isAhead 9 (some .boolean), Cond.static yX4_boundAbove, Cond.code yX4_boundAbove cX4_boundAbove 1 (some .int), Cond.static yX4_boundBelow, Cond.code yX4_boundBelow cX4_boundBelow 1 (some .int)]
def wsL_law0_r9 : List Cond := [Cond.methodLink RX3 50 yX3_insertPairs, Cond.instanceMethod yX3_insertPairs, Cond.selects RX3 yX3_insertPairs yX3_insertPairs, Cond.code yX3_insertPairs cX3_insertPairs 11 none, Cond.static yX4_columnOf, Cond.code yX4_columnOf cX4_columnOf 1 (some .int), Cond.methodLink RL 49 yX5_slices, Cond.instanceMethod yX5_slices, Cond.selects RX5 yX5_slices yX5_slices, Cond.code yX5_slices cX5_slices 13 (some .int), Cond.fieldLink RX5 100 "SliceDriftModel" "listed" "I", Cond.methodLink RX5 107 yX5_rowsOf, Cond.instanceMethod yX5_rowsOf, Cond.selects RX5 yX5_rowsOf yX5_rowsOf, Cond.code yX5_rowsOf cX5_rowsOf 6 (some .long), Cond.methodLink RX5 111 yX5_judge, Cond.instanceMethod yX5_judge, Cond.selects RX5 yX5_judge yX5_judge, Cond.code yX5_judge cX5_judge 11 none, Cond.methodLink RX5 93 yX5_countOf, Cond.static yX5_countOf, Cond.code yX5_countOf cX5_countOf 4 (some .int), Cond.methodLink RX5 97 yX5_hitsOf, Cond.instanceMethod yX5_hitsOf]
def wsL_law0_r10 : List Cond := [Cond.selects RX5 yX5_hitsOf yX5_hitsOf, Cond.code yX5_hitsOf cX5_hitsOf 5 (some .int), Cond.methodLink RX5 103 yX5_goesBefore, Cond.instanceMethod yX5_goesBefore, Cond.selects RX5 yX5_goesBefore yX5_goesBefore, Cond.code yX5_goesBefore cX5_goesBefore 10 (some .boolean), Cond.methodLink RL 50 yX4_slice, Cond.instanceMethod yX4_slice, Cond.selects RX4 yX4_slice yX4_slice, Cond.code yX4_slice cX4_slice 3 (some .int), Cond.methodLink RX4 84 yX3_has, Cond.instanceMethod yX3_has, Cond.selects RX3 yX3_has yX3_has, Cond.code yX3_has cX3_has 2 (some .boolean), Cond.methodLink RX4 88 yX4_columnOf, Cond.methodLink RX4 92 yX4_sortOf, Cond.static yX4_sortOf, Cond.code yX4_sortOf cX4_sortOf 1 (some .int), Cond.methodLink RX4 102 yJ13_bitCount_95d88, Cond.methodLink RL 53 yX5_slice, Cond.instanceMethod yX5_slice, Cond.selects RX5 yX5_slice yX5_slice, Cond.code yX5_slice cX5_slice 3 (some .int), Cond.methodLink RL 54 yX4_member]
def wsL_law0_r11 : List Cond := [Cond.instanceMethod yX4_member, Cond.selects RX4 yX4_member yX4_member, Cond.code yX4_member cX4_member 5 (some .int), Cond.methodLink RL 57 yX5_member, Cond.instanceMethod yX5_member, Cond.selects RX5 yX5_member yX5_member, Cond.code yX5_member cX5_member 5 (some .int), Cond.methodLink RL 58 yX4_share, Cond.instanceMethod yX4_share, Cond.selects RX4 yX4_share yX4_share, Cond.code yX4_share cX4_share 6 (some .long), Cond.constantLong RX4 109 (-1000001), Cond.constantLong RX4 114 (-1000002), Cond.methodLink RX4 111 yX4_isPart, Cond.static yX4_isPart, Cond.code yX4_isPart cX4_isPart 1 (some .boolean), Cond.methodLink RX4 116 yX4_lowest, Cond.static yX4_lowest, Cond.code yX4_lowest cX4_lowest 7 (some .long), Cond.methodLink RX4 216 Lib.MathLoose.abs_long.x, Cond.static Lib.MathLoose.abs_long.x, Cond.initialized "java/lang/Math", Cond.code Lib.MathLoose.abs_long.x Lib.MathLoose.abs_long.code 2 (some .long), Cond.methodLink RX4 222 yX4_commonDivisor]
def wsL_law0_r12 : List Cond := [Cond.static yX4_commonDivisor, Cond.code yX4_commonDivisor cX4_commonDivisor 11 (some .long), Cond.methodLink RX4 226 Lib.MathLoose.max_long.x, Cond.static Lib.MathLoose.max_long.x, Cond.code Lib.MathLoose.max_long.x Lib.MathLoose.max_long.code 4 (some .long), Cond.methodLink RX4 120 yX4_boundAbove, Cond.methodLink RX4 123 yX4_boundBelow, Cond.methodLink RL 62 yX5_share, Cond.instanceMethod yX5_share, Cond.selects RX5 yX5_share yX5_share, Cond.code yX5_share cX5_share 4 (some .long), Cond.constantLong RX5 115 (-1000001), Cond.constantLong RX5 117 (-1000002), Cond.methodLink RX5 119 yX5_part, Cond.static yX5_part, Cond.code yX5_part cX5_part 7 (some .long), Cond.methodLink RX5 89 yX5_gcd, Cond.static yX5_gcd, Cond.code yX5_gcd cX5_gcd 10 (some .long), Cond.methodLink RL 63 yL_gap, Cond.static yL_gap, Cond.initialized RL, Cond.codeWith yL_gap cL_gap 7 (some .int) [(0, 13, 16, 13)], Cond.classLink RL 13 "java/lang/ArithmeticException"]
def wsL_law0_r13 : List Cond := [Cond.methodLink RL 7 yX4_gap, Cond.instanceMethod yX4_gap, Cond.selects RX4 yX4_gap yX4_gap, Cond.code yX4_gap cX4_gap 13 (some .long), Cond.classLink RX4 133 "java/lang/ArithmeticException", Cond.initialized "java/lang/ArithmeticException", Cond.methodLink RX4 126 yX4_isSort, Cond.static yX4_isSort, Cond.code yX4_isSort cX4_isSort 1 (some .boolean), Cond.methodLink RX4 129 yX2_withSort, Cond.methodLink RL 68 yX5_gap, Cond.instanceMethod yX5_gap, Cond.selects RX5 yX5_gap yX5_gap, Cond.code yX5_gap cX5_gap 13 (some .long), Cond.methodLink RL 69 yX5_thrown, Cond.instanceMethod yX5_thrown, Cond.selects RX5 yX5_thrown yX5_thrown, Cond.code yX5_thrown cX5_thrown 1 (some .int), Cond.methodLink RL 73 yX4_window, Cond.instanceMethod yX4_window, Cond.selects RX4 yX4_window yX4_window, Cond.code yX4_window cX4_window 3 (some .int), Cond.methodLink RX4 140 yX4_areTimes, Cond.static yX4_areTimes]
def wsL_law0_r14 : List Cond := [Cond.code yX4_areTimes cX4_areTimes 3 (some .boolean), Cond.methodLink RX4 143 yX2_between, Cond.instanceMethod yX2_between, Cond.selects RX2 yX2_between yX2_between, Cond.code yX2_between cX2_between 6 (some .long), Cond.methodLink RL 76 yX5_window, Cond.instanceMethod yX5_window, Cond.selects RX5 yX5_window yX5_window, Cond.code yX5_window cX5_window 5 (some .int), Cond.methodLink RX5 123 yX5_isWindow, Cond.static yX5_isWindow, Cond.code yX5_isWindow cX5_isWindow 2 (some .boolean), Cond.methodLink RX5 127 yX5_isIn, Cond.instanceMethod yX5_isIn, Cond.selects RX5 yX5_isIn yX5_isIn, Cond.code yX5_isIn cX5_isIn 4 (some .boolean), Cond.methodLink RL 77 yL_drift, Cond.static yL_drift, Cond.codeWith yL_drift cL_drift 8 (some .int) [(0, 15, 18, 13)], Cond.methodLink RL 15 yX4_drift, Cond.instanceMethod yX4_drift, Cond.selects RX4 yX4_drift yX4_drift, Cond.code yX4_drift cX4_drift 10 (some .long), Cond.methodLink RX4 148 yX2_driftAbove]
def wsL_law0_r15 : List Cond := [Cond.instanceMethod yX2_driftAbove, Cond.selects RX2 yX2_driftAbove yX2_driftAbove, Cond.code yX2_driftAbove cX2_driftAbove 12 (some .int), Cond.methodLink RX2 50 Lib.Math.abs.name, Cond.static Lib.Math.abs.name, Cond.code Lib.Math.abs.name Lib.Math.abs.code 1 (some .int), Cond.methodLink RX2 44 yJ13_bitCount_95d88, Cond.methodLink RX4 152 yX4_driftBelow, Cond.static yX4_driftBelow, Cond.code yX4_driftBelow cX4_driftBelow 4 (some .int), Cond.methodLink RL 80 yX5_drift, Cond.instanceMethod yX5_drift, Cond.selects RX5 yX5_drift yX5_drift, Cond.code yX5_drift cX5_drift 6 (some .long), Cond.fieldLink RX5 136 "SliceDriftModel" "above" "J", Cond.fieldLink RX5 142 "SliceDriftModel" "below" "J", Cond.methodLink RX5 145 yX5_areWindows, Cond.static yX5_areWindows, Cond.code yX5_areWindows cX5_areWindows 3 (some .boolean), Cond.methodLink RX5 148 yX5_counts, Cond.instanceMethod yX5_counts, Cond.selects RX5 yX5_counts yX5_counts, Cond.code yX5_counts cX5_counts 8 none, Cond.fieldLink RX5 130 "SliceDriftModel" "firstMany" "I"]
def wsL_law0_r16 : List Cond := [Cond.fieldLink RX5 133 "SliceDriftModel" "secondMany" "I", Cond.methodLink RX5 152 yX5_drifts, Cond.instanceMethod yX5_drifts, Cond.selects RX5 yX5_drifts yX5_drifts, Cond.code yX5_drifts cX5_drifts 4 (some .boolean), Cond.constantLong RX5 140 (2), Cond.methodLink RL 81 yX4_rise, Cond.instanceMethod yX4_rise, Cond.selects RX4 yX4_rise yX4_rise, Cond.code yX4_rise cX4_rise 5 (some .int), Cond.methodLink RX4 156 yX1_take, Cond.instanceMethod yX1_take, Cond.selects RX1 yX1_take yX1_take, Cond.code yX1_take cX1_take 8 none, Cond.methodLink RX1 28 yX2_withSort, Cond.methodLink RX1 34 yJ13_bitCount_95d88, Cond.methodLink RX4 160 yX1_risen, Cond.instanceMethod yX1_risen, Cond.selects RX1 yX1_risen yX1_risen, Cond.code yX1_risen cX1_risen 4 (some .int), Cond.methodLink RL 84 yX5_rise, Cond.instanceMethod yX5_rise, Cond.selects RX5 yX5_rise yX5_rise, Cond.code yX5_rise cX5_rise 5 (some .int)]
def wsL_law0_r17 : List Cond := [Cond.methodLink RX5 156 yX5_riseOf, Cond.instanceMethod yX5_riseOf, Cond.selects RX5 yX5_riseOf yX5_riseOf, Cond.code yX5_riseOf cX5_riseOf 4 (some .int), Cond.methodLink RL 85 yX4_odds, Cond.instanceMethod yX4_odds, Cond.selects RX4 yX4_odds yX4_odds, Cond.code yX4_odds cX4_odds 7 (some .long), Cond.constantLong RX4 170 (-1000003), Cond.methodLink RX4 172 yX1_waysToRise, Cond.instanceMethod yX1_waysToRise, Cond.selects RX1 yX1_waysToRise yX1_waysToRise, Cond.code yX1_waysToRise cX1_waysToRise 5 (some .int), Cond.methodLink RX1 50 Lib.Math.max.name, Cond.static Lib.Math.max.name, Cond.code Lib.Math.max.name Lib.Math.max.code 2 (some .int), Cond.methodLink RX1 40 yJ7_fill_53178, Cond.static yJ7_fill_53178, Cond.initialized RJ7, Cond.code yJ7_fill_53178 cJ7_fill_53178 4 none, Cond.methodLink RX1 46 yX1_addGroup, Cond.instanceMethod yX1_addGroup, Cond.selects RX1 yX1_addGroup yX1_addGroup, Cond.code yX1_addGroup cX1_addGroup 5 none]
def wsL_law0_r18 : List Cond := [Cond.methodLink RX1 56 Lib.Math.min.name, Cond.static Lib.Math.min.name, Cond.code Lib.Math.min.name Lib.Math.min.code 2 (some .int), Cond.methodLink RX1 59 yX1_moveWays, Cond.instanceMethod yX1_moveWays, Cond.selects RX1 yX1_moveWays yX1_moveWays, Cond.code yX1_moveWays cX1_moveWays 8 none, Cond.static yX4_waysToChoose, Cond.code yX4_waysToChoose cX4_waysToChoose 4 (some .int), Cond.methodLink RX4 175 yX4_waysToChoose, Cond.methodLink RL 88 yX5_odds, Cond.instanceMethod yX5_odds, Cond.selects RX5 yX5_odds yX5_odds, Cond.code yX5_odds cX5_odds 14 (some .long), Cond.constantLong RX5 160 (-1000003), Cond.methodLink RX5 162 yX5_setChoose, Cond.instanceMethod yX5_setChoose, Cond.selects RX5 yX5_setChoose yX5_setChoose, Cond.code yX5_setChoose cX5_setChoose 3 none, Cond.methodLink RL 89 yX4_fresh, Cond.instanceMethod yX4_fresh, Cond.selects RX4 yX4_fresh yX4_fresh, Cond.code yX4_fresh cX4_fresh 14 (some .int), Cond.methodLink RL 93 yX5_fresh]
def wsL_law0_r19 : List Cond := [Cond.instanceMethod yX5_fresh, Cond.selects RX5 yX5_fresh yX5_fresh, Cond.code yX5_fresh cX5_fresh 8 (some .int), Cond.methodLink RL 94 yL_shift, Cond.static yL_shift, Cond.codeWith yL_shift cL_shift 9 (some .int) [(0, 17, 20, 13)], Cond.methodLink RL 19 yX4_shift, Cond.instanceMethod yX4_shift, Cond.selects RX4 yX4_shift yX4_shift, Cond.code yX4_shift cX4_shift 25 (some .long), Cond.methodLink RL 97 yX5_shift, Cond.instanceMethod yX5_shift, Cond.selects RX5 yX5_shift yX5_shift, Cond.code yX5_shift cX5_shift 23 (some .long), Cond.methodLink RL 98 yL_order, Cond.static yL_order, Cond.codeWith yL_order cL_order 7 (some .int) [(0, 14, 17, 13)], Cond.methodLink RL 23 yX4_order, Cond.instanceMethod yX4_order, Cond.selects RX4 yX4_order yX4_order, Cond.code yX4_order cX4_order 10 (some .int), Cond.methodLink RX4 180 yX2_placeByDrift, Cond.instanceMethod yX2_placeByDrift, Cond.selects RX2 yX2_placeByDrift yX2_placeByDrift]
def wsL_law0_r20 : List Cond := [Cond.code yX2_placeByDrift cX2_placeByDrift 10 (some .int), Cond.methodLink RX2 56 yX2_driftAbove, Cond.methodLink RL 100 yX5_order, Cond.instanceMethod yX5_order, Cond.selects RX5 yX5_order yX5_order, Cond.code yX5_order cX5_order 7 (some .int), Cond.methodLink RL 101 yX4_watch, Cond.instanceMethod yX4_watch, Cond.selects RX4 yX4_watch yX4_watch, Cond.code yX4_watch cX4_watch 6 (some .int), Cond.constant RX4 183 (-1000003), Cond.methodLink RX4 184 yX0_begin, Cond.instanceMethod yX0_begin, Cond.selects RX0 yX0_begin yX0_begin, Cond.code yX0_begin cX0_begin 4 none, Cond.methodLink RX0 35 yX0_beginOf, Cond.instanceMethod yX0_beginOf, Cond.selects RX0 yX0_beginOf yX0_beginOf, Cond.code yX0_beginOf cX0_beginOf 2 (some .int), Cond.methodLink RX4 188 yX0_measure, Cond.instanceMethod yX0_measure, Cond.selects RX0 yX0_measure yX0_measure, Cond.code yX0_measure cX0_measure 9 none, Cond.methodLink RX0 45 Lib.Math.min.name]
def wsL_law0_r21 : List Cond := [Cond.methodLink RX0 39 yX2_between, Cond.methodLink RX0 51 yJ13_bitCount_95d88, Cond.methodLink RX0 57 yX2_driftAbove, Cond.methodLink RX4 192 yX0_raise, Cond.instanceMethod yX0_raise, Cond.selects RX0 yX0_raise yX0_raise, Cond.code yX0_raise cX0_raise 6 (some .int), Cond.methodLink RL 104 yX5_watch, Cond.instanceMethod yX5_watch, Cond.selects RX5 yX5_watch yX5_watch, Cond.code yX5_watch cX5_watch 13 (some .int), Cond.constant RX5 165 (-1000003), Cond.fieldLink RX5 166 "SliceDriftModel" "steps" "I", Cond.fieldLink RX5 169 "SliceDriftModel" "alarms" "I", Cond.constantLong RX5 172 (1000), Cond.methodLink RL 105 yX4_step, Cond.instanceMethod yX4_step, Cond.selects RX4 yX4_step yX4_step, Cond.code yX4_step cX4_step 3 (some .int), Cond.methodLink RX4 206 yX0_beginOf, Cond.methodLink RL 108 yX5_step, Cond.instanceMethod yX5_step, Cond.selects RX5 yX5_step yX5_step, Cond.code yX5_step cX5_step 3 (some .int)]
def wsL_law0_r22 : List Cond := [Cond.methodLink RL 109 yX4_count, Cond.instanceMethod yX4_count, Cond.selects RX4 yX4_count yX4_count, Cond.code yX4_count cX4_count 2 (some .int), Cond.methodLink RX4 212 yX2_lackingSome, Cond.instanceMethod yX2_lackingSome, Cond.selects RX2 yX2_lackingSome yX2_lackingSome, Cond.code yX2_lackingSome cX2_lackingSome 4 (some .long), Cond.methodLink RL 113 yX5_count, Cond.instanceMethod yX5_count, Cond.selects RX5 yX5_count yX5_count, Cond.code yX5_count cX5_count 6 (some .int), Cond.constantLong RX5 174 (-1)]
def wsL_law0 : List Cond := (wsL_law0_r1 ++ (wsL_law0_r2 ++ (wsL_law0_r3 ++ (wsL_law0_r4 ++ (wsL_law0_r5 ++ (wsL_law0_r6 ++ (wsL_law0_r7 ++ (wsL_law0_r8 ++ (wsL_law0_r9 ++ (wsL_law0_r10 ++ (wsL_law0_r11 ++ (wsL_law0_r12 ++ (wsL_law0_r13 ++ (wsL_law0_r14 ++ (wsL_law0_r15 ++ (wsL_law0_r16 ++ (wsL_law0_r17 ++ (wsL_law0_r18 ++ (wsL_law0_r19 ++ (wsL_law0_r20 ++ (wsL_law0_r21 ++ wsL_law0_r22))))))))))))))))))))) ++ wsX40 ++ wsX50 ++ wsX20 ++ wsX30 ++ wsX10 ++ wsX00 ++ ([] : List Cond)
def wsL_law : List Cond := wsL_law0 ++ (vx_atS RX4 137 "java/lang/ArithmeticException" ["java/lang/RuntimeException", "java/lang/Exception"]).filter goodWord
abbrev vwCl : List vw_C := [(RX0, TX0, 7), (RX1, TX1, 5), (RX2, TX2, 4), (RX3, TX3, 5), (RX4, TX4, 4), (RX5, TX5, 30)]
end
section
theorem dX0_init_0 : decode cX0_init 0 = .ok (.aload_n 0, 1) := by decide +kernel
theorem dX0_init_1 : decode cX0_init 1 = .ok (.invokespecial 3, 3) := by decide +kernel
theorem dX0_init_4 : decode cX0_init 4 = .ok (.aload_n 0, 1) := by decide +kernel
theorem dX0_init_5 : decode cX0_init 5 = .ok (.iconst 0, 1) := by decide +kernel
theorem dX0_init_6 : decode cX0_init 6 = .ok (.putfield 9, 3) := by decide +kernel
theorem dX0_init_9 : decode cX0_init 9 = .ok (.aload_n 0, 1) := by decide +kernel
theorem dX0_init_10 : decode cX0_init 10 = .ok (.iconst 1, 1) := by decide +kernel
theorem dX0_init_11 : decode cX0_init 11 = .ok (.putfield 15, 3) := by decide +kernel
theorem dX0_init_14 : decode cX0_init 14 = .ok (.aload_n 0, 1) := by decide +kernel
theorem dX0_init_15 : decode cX0_init 15 = .ok (.iconst 0, 1) := by decide +kernel
theorem dX0_init_16 : decode cX0_init 16 = .ok (.putfield 18, 3) := by decide +kernel
theorem dX0_init_19 : decode cX0_init 19 = .ok (.aload_n 0, 1) := by decide +kernel
theorem dX0_init_20 : decode cX0_init 20 = .ok (.iconst 0, 1) := by decide +kernel
theorem dX0_init_21 : decode cX0_init 21 = .ok (.putfield 21, 3) := by decide +kernel
theorem dX0_init_24 : decode cX0_init 24 = .ok (.aload_n 0, 1) := by decide +kernel
theorem dX0_init_25 : decode cX0_init 25 = .ok (.bipush 100, 2) := by decide +kernel
theorem dX0_init_27 : decode cX0_init 27 = .ok (.newarray .int, 2) := by decide +kernel
theorem dX0_init_29 : decode cX0_init 29 = .ok (.putfield 24, 3) := by decide +kernel
theorem dX0_init_32 : decode cX0_init 32 = .ok (.aload_n 0, 1) := by decide +kernel
theorem dX0_init_33 : decode cX0_init 33 = .ok (.bipush 100, 2) := by decide +kernel
theorem dX0_init_35 : decode cX0_init 35 = .ok (.newarray .boolean, 2) := by decide +kernel
theorem dX0_init_37 : decode cX0_init 37 = .ok (.putfield 28, 3) := by decide +kernel
theorem dX0_init_40 : decode cX0_init 40 = .ok (.aload_n 0, 1) := by decide +kernel
theorem dX0_init_41 : decode cX0_init 41 = .ok (.bipush 100, 2) := by decide +kernel
theorem dX0_init_43 : decode cX0_init 43 = .ok (.newarray .boolean, 2) := by decide +kernel
theorem dX0_init_45 : decode cX0_init 45 = .ok (.putfield 32, 3) := by decide +kernel
theorem dX0_init_48 : decode cX0_init 48 = .ok (.return_, 1) := by decide +kernel
set_option maxRecDepth 20000 in
theorem ggX0_begin_X0_beginOf : GoodIn wsX0_begin wsX0_beginOf := goodIn_r _ [8, 1, 2, 9, 10, 11, 12, 13, 14, 15] (by decide +kernel) (by decide +kernel)
set_option maxRecDepth 20000 in
theorem gX0_begin_X0_beginOf : GoodIn wsX0_begin (wsV RX0 35 RX0 yX0_beginOf wsX0_beginOf) := goodIn_app (goodIn_of _ (by decide +kernel)) ggX0_begin_X0_beginOf
theorem dX0_begin_0 : decode cX0_begin 0 = .ok (.aload_n 0, 1) := by decide +kernel
theorem dX0_begin_1 : decode cX0_begin 1 = .ok (.iload_n 1, 1) := by decide +kernel
theorem dX0_begin_2 : decode cX0_begin 2 = .ok (.putfield 9, 3) := by decide +kernel
theorem dX0_begin_5 : decode cX0_begin 5 = .ok (.aload_n 0, 1) := by decide +kernel
theorem dX0_begin_6 : decode cX0_begin 6 = .ok (.iload_n 2, 1) := by decide +kernel
theorem dX0_begin_7 : decode cX0_begin 7 = .ok (.putfield 15, 3) := by decide +kernel
theorem dX0_begin_10 : decode cX0_begin 10 = .ok (.aload_n 0, 1) := by decide +kernel
theorem dX0_begin_11 : decode cX0_begin 11 = .ok (.iconst 0, 1) := by decide +kernel
theorem dX0_begin_12 : decode cX0_begin 12 = .ok (.putfield 18, 3) := by decide +kernel
theorem dX0_begin_15 : decode cX0_begin 15 = .ok (.iconst 0, 1) := by decide +kernel
theorem dX0_begin_16 : decode cX0_begin 16 = .ok (.istore_n 3, 1) := by decide +kernel
theorem dX0_begin_17 : decode cX0_begin 17 = .ok (.iload_n 3, 1) := by decide +kernel
theorem dX0_begin_18 : decode cX0_begin 18 = .ok (.bipush 100, 2) := by decide +kernel
theorem dX0_begin_20 : decode cX0_begin 20 = .ok (.if_icmp .ge 30, 3) := by decide +kernel
theorem dX0_begin_23 : decode cX0_begin 23 = .ok (.aload_n 0, 1) := by decide +kernel
theorem dX0_begin_24 : decode cX0_begin 24 = .ok (.iload_n 3, 1) := by decide +kernel
theorem dX0_begin_25 : decode cX0_begin 25 = .ok (.invokevirtual 35, 3) := by decide +kernel
theorem dX0_begin_28 : decode cX0_begin 28 = .ok (.sipush 1000, 3) := by decide +kernel
theorem dX0_begin_31 : decode cX0_begin 31 = .ok (.if_icmp .ge 19, 3) := by decide +kernel
theorem dX0_begin_34 : decode cX0_begin 34 = .ok (.aload_n 0, 1) := by decide +kernel
theorem dX0_begin_35 : decode cX0_begin 35 = .ok (.dup, 1) := by decide +kernel
theorem dX0_begin_36 : decode cX0_begin 36 = .ok (.getfield 18, 3) := by decide +kernel
theorem dX0_begin_39 : decode cX0_begin 39 = .ok (.iconst 1, 1) := by decide +kernel
theorem dX0_begin_40 : decode cX0_begin 40 = .ok (.iadd, 1) := by decide +kernel
theorem dX0_begin_41 : decode cX0_begin 41 = .ok (.putfield 18, 3) := by decide +kernel
theorem dX0_begin_44 : decode cX0_begin 44 = .ok (.iinc 3 1, 3) := by decide +kernel
theorem dX0_begin_47 : decode cX0_begin 47 = .ok (.goto (-30), 3) := by decide +kernel
theorem dX0_begin_50 : decode cX0_begin 50 = .ok (.return_, 1) := by decide +kernel
theorem dX0_beginOf_0 : decode cX0_beginOf 0 = .ok (.aload_n 0, 1) := by decide +kernel
theorem dX0_beginOf_1 : decode cX0_beginOf 1 = .ok (.getfield 9, 3) := by decide +kernel
theorem dX0_beginOf_4 : decode cX0_beginOf 4 = .ok (.iload_n 1, 1) := by decide +kernel
theorem dX0_beginOf_5 : decode cX0_beginOf 5 = .ok (.aload_n 0, 1) := by decide +kernel
theorem dX0_beginOf_6 : decode cX0_beginOf 6 = .ok (.getfield 15, 3) := by decide +kernel
theorem dX0_beginOf_9 : decode cX0_beginOf 9 = .ok (.imul, 1) := by decide +kernel
theorem dX0_beginOf_10 : decode cX0_beginOf 10 = .ok (.iadd, 1) := by decide +kernel
theorem dX0_beginOf_11 : decode cX0_beginOf 11 = .ok (.ireturn, 1) := by decide +kernel
set_option maxRecDepth 20000 in
theorem ggX0_measure_X2_between : GoodIn wsX0_measure wsX2_between := goodIn_r _ [13, 14, 15, 55, 56, 57, 58] (by decide +kernel) (by decide +kernel)
set_option maxRecDepth 20000 in
theorem gX0_measure_X2_between : GoodIn wsX0_measure (wsV RX0 39 RX2 yX2_between wsX2_between) := goodIn_app (goodIn_of _ (by decide +kernel)) ggX0_measure_X2_between
set_option maxRecDepth 20000 in
theorem ggX0_measure_X0_beginOf : GoodIn wsX0_measure wsX0_beginOf := goodIn_r _ [20, 1, 21, 48, 49, 50, 51, 52, 53, 54] (by decide +kernel) (by decide +kernel)
set_option maxRecDepth 20000 in
theorem gX0_measure_X0_beginOf : GoodIn wsX0_measure (wsV RX0 35 RX0 yX0_beginOf wsX0_beginOf) := goodIn_app (goodIn_of _ (by decide +kernel)) ggX0_measure_X0_beginOf
set_option maxRecDepth 20000 in
theorem ggX0_measure_J13_bitCount_95d88 : GoodIn wsX0_measure wsJ13_bitCount_95d88 := goodIn_r _ [25, 26, 27, 28] (by decide +kernel) (by decide +kernel)
set_option maxRecDepth 20000 in
theorem gX0_measure_J13_bitCount_95d88 : GoodIn wsX0_measure (va_wsS RX0 51 yJ13_bitCount_95d88 wsJ13_bitCount_95d88) := goodIn_app (goodIn_of _ (by decide +kernel)) ggX0_measure_J13_bitCount_95d88
set_option maxRecDepth 20000 in
theorem ggX0_measure_X2_driftAbove : GoodIn wsX0_measure wsX2_driftAbove := goodIn_r _ [32, 33, 34, 5, 35, 36, 23, 24, 25, 26, 27, 28, 37, 38, 39, 12, 40, 41, 42, 43, 44, 55, 56, 57, 58] (by decide +kernel) (by decide +kernel)
set_option maxRecDepth 20000 in
theorem gX0_measure_X2_driftAbove : GoodIn wsX0_measure (wsV RX0 57 RX2 yX2_driftAbove wsX2_driftAbove) := goodIn_app (goodIn_of _ (by decide +kernel)) ggX0_measure_X2_driftAbove
set_option maxRecDepth 20000 in
theorem ggX0_measure_X4_driftBelow : GoodIn wsX0_measure wsX4_driftBelow := goodIn_r _ [46, 47, 23, 24, 25, 26, 27, 28] (by decide +kernel) (by decide +kernel)
set_option maxRecDepth 20000 in
theorem gX0_measure_X4_driftBelow_n61 : GoodIn wsX0_measure (wsX4_driftBelow) := ggX0_measure_X4_driftBelow
theorem dX0_measure_0 : decode cX0_measure 0 = .ok (.aload_n 1, 1) := by decide +kernel
theorem dX0_measure_1 : decode cX0_measure 1 = .ok (.iconst 0, 1) := by decide +kernel
theorem dX0_measure_2 : decode cX0_measure 2 = .ok (.aload_n 0, 1) := by decide +kernel
theorem dX0_measure_3 : decode cX0_measure 3 = .ok (.getfield 9, 3) := by decide +kernel
theorem dX0_measure_6 : decode cX0_measure 6 = .ok (.invokevirtual 39, 3) := by decide +kernel
theorem dX0_measure_9 : decode cX0_measure 9 = .ok (.lstore 4, 2) := by decide +kernel
theorem dX0_measure_11 : decode cX0_measure 11 = .ok (.iconst 0, 1) := by decide +kernel
theorem dX0_measure_12 : decode cX0_measure 12 = .ok (.istore 6, 2) := by decide +kernel
theorem dX0_measure_14 : decode cX0_measure 14 = .ok (.iload 6, 2) := by decide +kernel
theorem dX0_measure_16 : decode cX0_measure 16 = .ok (.aload_n 0, 1) := by decide +kernel
theorem dX0_measure_17 : decode cX0_measure 17 = .ok (.getfield 18, 3) := by decide +kernel
theorem dX0_measure_20 : decode cX0_measure 20 = .ok (.if_icmp .ge 91, 3) := by decide +kernel
theorem dX0_measure_23 : decode cX0_measure 23 = .ok (.aload_n 1, 1) := by decide +kernel
theorem dX0_measure_24 : decode cX0_measure 24 = .ok (.aload_n 0, 1) := by decide +kernel
theorem dX0_measure_25 : decode cX0_measure 25 = .ok (.iload 6, 2) := by decide +kernel
theorem dX0_measure_27 : decode cX0_measure 27 = .ok (.invokevirtual 35, 3) := by decide +kernel
theorem dX0_measure_30 : decode cX0_measure 30 = .ok (.aload_n 0, 1) := by decide +kernel
theorem dX0_measure_31 : decode cX0_measure 31 = .ok (.iload 6, 2) := by decide +kernel
theorem dX0_measure_33 : decode cX0_measure 33 = .ok (.iconst 1, 1) := by decide +kernel
theorem dX0_measure_34 : decode cX0_measure 34 = .ok (.iadd, 1) := by decide +kernel
theorem dX0_measure_35 : decode cX0_measure 35 = .ok (.invokevirtual 35, 3) := by decide +kernel
theorem dX0_measure_38 : decode cX0_measure 38 = .ok (.sipush 1000, 3) := by decide +kernel
theorem dX0_measure_41 : decode cX0_measure 41 = .ok (.invokestatic 45, 3) := by decide +kernel
theorem dX0_measure_44 : decode cX0_measure 44 = .ok (.invokevirtual 39, 3) := by decide +kernel
theorem dX0_measure_47 : decode cX0_measure 47 = .ok (.lstore 7, 2) := by decide +kernel
theorem dX0_measure_49 : decode cX0_measure 49 = .ok (.aload_n 0, 1) := by decide +kernel
theorem dX0_measure_50 : decode cX0_measure 50 = .ok (.getfield 24, 3) := by decide +kernel
theorem dX0_measure_53 : decode cX0_measure 53 = .ok (.iload 6, 2) := by decide +kernel
theorem dX0_measure_55 : decode cX0_measure 55 = .ok (.lload 7, 2) := by decide +kernel
theorem dX0_measure_57 : decode cX0_measure 57 = .ok (.invokestatic 51, 3) := by decide +kernel
theorem dX0_measure_60 : decode cX0_measure 60 = .ok (.iastore, 1) := by decide +kernel
theorem dX0_measure_61 : decode cX0_measure 61 = .ok (.aload_n 0, 1) := by decide +kernel
theorem dX0_measure_62 : decode cX0_measure 62 = .ok (.getfield 28, 3) := by decide +kernel
theorem dX0_measure_65 : decode cX0_measure 65 = .ok (.iload 6, 2) := by decide +kernel
theorem dX0_measure_67 : decode cX0_measure 67 = .ok (.lload 7, 2) := by decide +kernel
theorem dX0_measure_69 : decode cX0_measure 69 = .ok (.lconst 0, 1) := by decide +kernel
theorem dX0_measure_70 : decode cX0_measure 70 = .ok (.lcmp, 1) := by decide +kernel
theorem dX0_measure_71 : decode cX0_measure 71 = .ok (.ifCond .eq 32, 3) := by decide +kernel
theorem dX0_measure_74 : decode cX0_measure 74 = .ok (.sipush 1000, 3) := by decide +kernel
theorem dX0_measure_77 : decode cX0_measure 77 = .ok (.aload_n 1, 1) := by decide +kernel
theorem dX0_measure_78 : decode cX0_measure 78 = .ok (.iload_n 2, 1) := by decide +kernel
theorem dX0_measure_79 : decode cX0_measure 79 = .ok (.lload 4, 2) := by decide +kernel
theorem dX0_measure_81 : decode cX0_measure 81 = .ok (.lload 7, 2) := by decide +kernel
theorem dX0_measure_83 : decode cX0_measure 83 = .ok (.invokevirtual 57, 3) := by decide +kernel
theorem dX0_measure_86 : decode cX0_measure 86 = .ok (.imul, 1) := by decide +kernel
theorem dX0_measure_87 : decode cX0_measure 87 = .ok (.iload_n 3, 1) := by decide +kernel
theorem dX0_measure_88 : decode cX0_measure 88 = .ok (.lload 4, 2) := by decide +kernel
theorem dX0_measure_90 : decode cX0_measure 90 = .ok (.lload 7, 2) := by decide +kernel
theorem dX0_measure_92 : decode cX0_measure 92 = .ok (.invokestatic 61, 3) := by decide +kernel
theorem dX0_measure_95 : decode cX0_measure 95 = .ok (.imul, 1) := by decide +kernel
theorem dX0_measure_96 : decode cX0_measure 96 = .ok (.if_icmp .lt 7, 3) := by decide +kernel
theorem dX0_measure_99 : decode cX0_measure 99 = .ok (.iconst 1, 1) := by decide +kernel
theorem dX0_measure_100 : decode cX0_measure 100 = .ok (.goto 4, 3) := by decide +kernel
theorem dX0_measure_103 : decode cX0_measure 103 = .ok (.iconst 0, 1) := by decide +kernel
theorem dX0_measure_104 : decode cX0_measure 104 = .ok (.bastore, 1) := by decide +kernel
theorem dX0_measure_105 : decode cX0_measure 105 = .ok (.iinc 6 1, 3) := by decide +kernel
theorem dX0_measure_108 : decode cX0_measure 108 = .ok (.goto (-94), 3) := by decide +kernel
theorem dX0_measure_111 : decode cX0_measure 111 = .ok (.return_, 1) := by decide +kernel
theorem dX0_raise_0 : decode cX0_raise 0 = .ok (.iconst 0, 1) := by decide +kernel
theorem dX0_raise_1 : decode cX0_raise 1 = .ok (.istore_n 2, 1) := by decide +kernel
theorem dX0_raise_2 : decode cX0_raise 2 = .ok (.iconst 0, 1) := by decide +kernel
theorem dX0_raise_3 : decode cX0_raise 3 = .ok (.istore_n 3, 1) := by decide +kernel
theorem dX0_raise_4 : decode cX0_raise 4 = .ok (.iconst 0, 1) := by decide +kernel
theorem dX0_raise_5 : decode cX0_raise 5 = .ok (.istore 4, 2) := by decide +kernel
theorem dX0_raise_7 : decode cX0_raise 7 = .ok (.aload_n 0, 1) := by decide +kernel
theorem dX0_raise_8 : decode cX0_raise 8 = .ok (.iconst 0, 1) := by decide +kernel
theorem dX0_raise_9 : decode cX0_raise 9 = .ok (.putfield 21, 3) := by decide +kernel
theorem dX0_raise_12 : decode cX0_raise 12 = .ok (.iconst 0, 1) := by decide +kernel
theorem dX0_raise_13 : decode cX0_raise 13 = .ok (.istore 5, 2) := by decide +kernel
theorem dX0_raise_15 : decode cX0_raise 15 = .ok (.iload 5, 2) := by decide +kernel
theorem dX0_raise_17 : decode cX0_raise 17 = .ok (.aload_n 0, 1) := by decide +kernel
theorem dX0_raise_18 : decode cX0_raise 18 = .ok (.getfield 18, 3) := by decide +kernel
theorem dX0_raise_21 : decode cX0_raise 21 = .ok (.if_icmp .ge 94, 3) := by decide +kernel
theorem dX0_raise_24 : decode cX0_raise 24 = .ok (.aload_n 0, 1) := by decide +kernel
theorem dX0_raise_25 : decode cX0_raise 25 = .ok (.getfield 28, 3) := by decide +kernel
theorem dX0_raise_28 : decode cX0_raise 28 = .ok (.iload 5, 2) := by decide +kernel
theorem dX0_raise_30 : decode cX0_raise 30 = .ok (.baload, 1) := by decide +kernel
theorem dX0_raise_31 : decode cX0_raise 31 = .ok (.ifCond .eq 28, 3) := by decide +kernel
theorem dX0_raise_34 : decode cX0_raise 34 = .ok (.aload_n 0, 1) := by decide +kernel
theorem dX0_raise_35 : decode cX0_raise 35 = .ok (.dup, 1) := by decide +kernel
theorem dX0_raise_36 : decode cX0_raise 36 = .ok (.getfield 21, 3) := by decide +kernel
theorem dX0_raise_39 : decode cX0_raise 39 = .ok (.iload_n 2, 1) := by decide +kernel
theorem dX0_raise_40 : decode cX0_raise 40 = .ok (.ifCond .eq 7, 3) := by decide +kernel
theorem dX0_raise_43 : decode cX0_raise 43 = .ok (.iconst 0, 1) := by decide +kernel
theorem dX0_raise_44 : decode cX0_raise 44 = .ok (.goto 4, 3) := by decide +kernel
theorem dX0_raise_47 : decode cX0_raise 47 = .ok (.iconst 1, 1) := by decide +kernel
theorem dX0_raise_48 : decode cX0_raise 48 = .ok (.iadd, 1) := by decide +kernel
theorem dX0_raise_49 : decode cX0_raise 49 = .ok (.putfield 21, 3) := by decide +kernel
theorem dX0_raise_52 : decode cX0_raise 52 = .ok (.iconst 1, 1) := by decide +kernel
theorem dX0_raise_53 : decode cX0_raise 53 = .ok (.istore_n 2, 1) := by decide +kernel
theorem dX0_raise_54 : decode cX0_raise 54 = .ok (.iconst 0, 1) := by decide +kernel
theorem dX0_raise_55 : decode cX0_raise 55 = .ok (.istore_n 3, 1) := by decide +kernel
theorem dX0_raise_56 : decode cX0_raise 56 = .ok (.goto 31, 3) := by decide +kernel
theorem dX0_raise_59 : decode cX0_raise 59 = .ok (.aload_n 0, 1) := by decide +kernel
theorem dX0_raise_60 : decode cX0_raise 60 = .ok (.getfield 24, 3) := by decide +kernel
theorem dX0_raise_63 : decode cX0_raise 63 = .ok (.iload 5, 2) := by decide +kernel
theorem dX0_raise_65 : decode cX0_raise 65 = .ok (.iaload, 1) := by decide +kernel
theorem dX0_raise_66 : decode cX0_raise 66 = .ok (.ifCond .le 21, 3) := by decide +kernel
theorem dX0_raise_69 : decode cX0_raise 69 = .ok (.iinc 3 1, 3) := by decide +kernel
theorem dX0_raise_72 : decode cX0_raise 72 = .ok (.iload_n 2, 1) := by decide +kernel
theorem dX0_raise_73 : decode cX0_raise 73 = .ok (.ifCond .eq 12, 3) := by decide +kernel
theorem dX0_raise_76 : decode cX0_raise 76 = .ok (.iload_n 3, 1) := by decide +kernel
theorem dX0_raise_77 : decode cX0_raise 77 = .ok (.iload_n 1, 1) := by decide +kernel
theorem dX0_raise_78 : decode cX0_raise 78 = .ok (.if_icmp .ge 7, 3) := by decide +kernel
theorem dX0_raise_81 : decode cX0_raise 81 = .ok (.iconst 1, 1) := by decide +kernel
theorem dX0_raise_82 : decode cX0_raise 82 = .ok (.goto 4, 3) := by decide +kernel
theorem dX0_raise_85 : decode cX0_raise 85 = .ok (.iconst 0, 1) := by decide +kernel
theorem dX0_raise_86 : decode cX0_raise 86 = .ok (.istore_n 2, 1) := by decide +kernel
theorem dX0_raise_87 : decode cX0_raise 87 = .ok (.aload_n 0, 1) := by decide +kernel
theorem dX0_raise_88 : decode cX0_raise 88 = .ok (.getfield 32, 3) := by decide +kernel
theorem dX0_raise_91 : decode cX0_raise 91 = .ok (.iload 5, 2) := by decide +kernel
theorem dX0_raise_93 : decode cX0_raise 93 = .ok (.iload_n 2, 1) := by decide +kernel
theorem dX0_raise_94 : decode cX0_raise 94 = .ok (.bastore, 1) := by decide +kernel
theorem dX0_raise_95 : decode cX0_raise 95 = .ok (.iload 4, 2) := by decide +kernel
theorem dX0_raise_97 : decode cX0_raise 97 = .ok (.iload_n 2, 1) := by decide +kernel
theorem dX0_raise_98 : decode cX0_raise 98 = .ok (.ifCond .eq 7, 3) := by decide +kernel
theorem dX0_raise_101 : decode cX0_raise 101 = .ok (.iconst 1, 1) := by decide +kernel
theorem dX0_raise_102 : decode cX0_raise 102 = .ok (.goto 4, 3) := by decide +kernel
theorem dX0_raise_105 : decode cX0_raise 105 = .ok (.iconst 0, 1) := by decide +kernel
theorem dX0_raise_106 : decode cX0_raise 106 = .ok (.iadd, 1) := by decide +kernel
theorem dX0_raise_107 : decode cX0_raise 107 = .ok (.istore 4, 2) := by decide +kernel
theorem dX0_raise_109 : decode cX0_raise 109 = .ok (.iinc 5 1, 3) := by decide +kernel
theorem dX0_raise_112 : decode cX0_raise 112 = .ok (.goto (-97), 3) := by decide +kernel
theorem dX0_raise_115 : decode cX0_raise 115 = .ok (.iload 4, 2) := by decide +kernel
theorem dX0_raise_117 : decode cX0_raise 117 = .ok (.ireturn, 1) := by decide +kernel
theorem dX1_init_0 : decode cX1_init 0 = .ok (.aload_n 0, 1) := by decide +kernel
theorem dX1_init_1 : decode cX1_init 1 = .ok (.invokespecial 5, 3) := by decide +kernel
theorem dX1_init_4 : decode cX1_init 4 = .ok (.aload_n 0, 1) := by decide +kernel
theorem dX1_init_5 : decode cX1_init 5 = .ok (.iconst 0, 1) := by decide +kernel
theorem dX1_init_6 : decode cX1_init 6 = .ok (.putfield 11, 3) := by decide +kernel
theorem dX1_init_9 : decode cX1_init 9 = .ok (.aload_n 0, 1) := by decide +kernel
theorem dX1_init_10 : decode cX1_init 10 = .ok (.iconst 0, 1) := by decide +kernel
theorem dX1_init_11 : decode cX1_init 11 = .ok (.putfield 15, 3) := by decide +kernel
theorem dX1_init_14 : decode cX1_init 14 = .ok (.aload_n 0, 1) := by decide +kernel
theorem dX1_init_15 : decode cX1_init 15 = .ok (.bipush 10, 2) := by decide +kernel
theorem dX1_init_17 : decode cX1_init 17 = .ok (.newarray .int, 2) := by decide +kernel
theorem dX1_init_19 : decode cX1_init 19 = .ok (.putfield 18, 3) := by decide +kernel
theorem dX1_init_22 : decode cX1_init 22 = .ok (.aload_n 0, 1) := by decide +kernel
theorem dX1_init_23 : decode cX1_init 23 = .ok (.bipush 10, 2) := by decide +kernel
theorem dX1_init_25 : decode cX1_init 25 = .ok (.newarray .int, 2) := by decide +kernel
theorem dX1_init_27 : decode cX1_init 27 = .ok (.putfield 22, 3) := by decide +kernel
theorem dX1_init_30 : decode cX1_init 30 = .ok (.aload_n 0, 1) := by decide +kernel
theorem dX1_init_31 : decode cX1_init 31 = .ok (.sipush 4221, 3) := by decide +kernel
theorem dX1_init_34 : decode cX1_init 34 = .ok (.newarray .int, 2) := by decide +kernel
theorem dX1_init_36 : decode cX1_init 36 = .ok (.putfield 25, 3) := by decide +kernel
theorem dX1_init_39 : decode cX1_init 39 = .ok (.return_, 1) := by decide +kernel
set_option maxRecDepth 20000 in
theorem ggX1_take_X2_withSort : GoodIn wsX1_take wsX2_withSort := goodIn_r _ [9, 10, 11, 12, 13, 26, 27, 28, 29] (by decide +kernel) (by decide +kernel)
set_option maxRecDepth 20000 in
theorem gX1_take_X2_withSort : GoodIn wsX1_take (wsV RX1 28 RX2 yX2_withSort wsX2_withSort) := goodIn_app (goodIn_of _ (by decide +kernel)) ggX1_take_X2_withSort
set_option maxRecDepth 20000 in
theorem ggX1_take_J13_bitCount_95d88 : GoodIn wsX1_take wsJ13_bitCount_95d88 := goodIn_r _ [17, 18, 19, 20] (by decide +kernel) (by decide +kernel)
set_option maxRecDepth 20000 in
theorem gX1_take_J13_bitCount_95d88 : GoodIn wsX1_take (va_wsS RX1 34 yJ13_bitCount_95d88 wsJ13_bitCount_95d88) := goodIn_app (goodIn_of _ (by decide +kernel)) ggX1_take_J13_bitCount_95d88
theorem dX1_take_0 : decode cX1_take 0 = .ok (.aload_n 0, 1) := by decide +kernel
theorem dX1_take_1 : decode cX1_take 1 = .ok (.iconst 0, 1) := by decide +kernel
theorem dX1_take_2 : decode cX1_take 2 = .ok (.putfield 11, 3) := by decide +kernel
theorem dX1_take_5 : decode cX1_take 5 = .ok (.aload_n 0, 1) := by decide +kernel
theorem dX1_take_6 : decode cX1_take 6 = .ok (.iconst 0, 1) := by decide +kernel
theorem dX1_take_7 : decode cX1_take 7 = .ok (.putfield 15, 3) := by decide +kernel
theorem dX1_take_10 : decode cX1_take 10 = .ok (.iconst 0, 1) := by decide +kernel
theorem dX1_take_11 : decode cX1_take 11 = .ok (.istore 7, 2) := by decide +kernel
theorem dX1_take_13 : decode cX1_take 13 = .ok (.iload 7, 2) := by decide +kernel
theorem dX1_take_15 : decode cX1_take 15 = .ok (.bipush 10, 2) := by decide +kernel
theorem dX1_take_17 : decode cX1_take 17 = .ok (.if_icmp .ge 80, 3) := by decide +kernel
theorem dX1_take_20 : decode cX1_take 20 = .ok (.aload_n 0, 1) := by decide +kernel
theorem dX1_take_21 : decode cX1_take 21 = .ok (.getfield 18, 3) := by decide +kernel
theorem dX1_take_24 : decode cX1_take 24 = .ok (.iload 7, 2) := by decide +kernel
theorem dX1_take_26 : decode cX1_take 26 = .ok (.aload_n 1, 1) := by decide +kernel
theorem dX1_take_27 : decode cX1_take 27 = .ok (.iload_n 2, 1) := by decide +kernel
theorem dX1_take_28 : decode cX1_take 28 = .ok (.iload 7, 2) := by decide +kernel
theorem dX1_take_30 : decode cX1_take 30 = .ok (.invokevirtual 28, 3) := by decide +kernel
theorem dX1_take_33 : decode cX1_take 33 = .ok (.lload_n 3, 1) := by decide +kernel
theorem dX1_take_34 : decode cX1_take 34 = .ok (.land, 1) := by decide +kernel
theorem dX1_take_35 : decode cX1_take 35 = .ok (.invokestatic 34, 3) := by decide +kernel
theorem dX1_take_38 : decode cX1_take 38 = .ok (.iastore, 1) := by decide +kernel
theorem dX1_take_39 : decode cX1_take 39 = .ok (.aload_n 0, 1) := by decide +kernel
theorem dX1_take_40 : decode cX1_take 40 = .ok (.getfield 22, 3) := by decide +kernel
theorem dX1_take_43 : decode cX1_take 43 = .ok (.iload 7, 2) := by decide +kernel
theorem dX1_take_45 : decode cX1_take 45 = .ok (.aload_n 1, 1) := by decide +kernel
theorem dX1_take_46 : decode cX1_take 46 = .ok (.iload_n 2, 1) := by decide +kernel
theorem dX1_take_47 : decode cX1_take 47 = .ok (.iload 7, 2) := by decide +kernel
theorem dX1_take_49 : decode cX1_take 49 = .ok (.invokevirtual 28, 3) := by decide +kernel
theorem dX1_take_52 : decode cX1_take 52 = .ok (.lload 5, 2) := by decide +kernel
theorem dX1_take_54 : decode cX1_take 54 = .ok (.land, 1) := by decide +kernel
theorem dX1_take_55 : decode cX1_take 55 = .ok (.invokestatic 34, 3) := by decide +kernel
theorem dX1_take_58 : decode cX1_take 58 = .ok (.iastore, 1) := by decide +kernel
theorem dX1_take_59 : decode cX1_take 59 = .ok (.aload_n 0, 1) := by decide +kernel
theorem dX1_take_60 : decode cX1_take 60 = .ok (.dup, 1) := by decide +kernel
theorem dX1_take_61 : decode cX1_take 61 = .ok (.getfield 11, 3) := by decide +kernel
theorem dX1_take_64 : decode cX1_take 64 = .ok (.aload_n 0, 1) := by decide +kernel
theorem dX1_take_65 : decode cX1_take 65 = .ok (.getfield 18, 3) := by decide +kernel
theorem dX1_take_68 : decode cX1_take 68 = .ok (.iload 7, 2) := by decide +kernel
theorem dX1_take_70 : decode cX1_take 70 = .ok (.iaload, 1) := by decide +kernel
theorem dX1_take_71 : decode cX1_take 71 = .ok (.iadd, 1) := by decide +kernel
theorem dX1_take_72 : decode cX1_take 72 = .ok (.putfield 11, 3) := by decide +kernel
theorem dX1_take_75 : decode cX1_take 75 = .ok (.aload_n 0, 1) := by decide +kernel
theorem dX1_take_76 : decode cX1_take 76 = .ok (.dup, 1) := by decide +kernel
theorem dX1_take_77 : decode cX1_take 77 = .ok (.getfield 15, 3) := by decide +kernel
theorem dX1_take_80 : decode cX1_take 80 = .ok (.aload_n 0, 1) := by decide +kernel
theorem dX1_take_81 : decode cX1_take 81 = .ok (.getfield 22, 3) := by decide +kernel
theorem dX1_take_84 : decode cX1_take 84 = .ok (.iload 7, 2) := by decide +kernel
theorem dX1_take_86 : decode cX1_take 86 = .ok (.iaload, 1) := by decide +kernel
theorem dX1_take_87 : decode cX1_take 87 = .ok (.iadd, 1) := by decide +kernel
theorem dX1_take_88 : decode cX1_take 88 = .ok (.putfield 15, 3) := by decide +kernel
theorem dX1_take_91 : decode cX1_take 91 = .ok (.iinc 7 1, 3) := by decide +kernel
theorem dX1_take_94 : decode cX1_take 94 = .ok (.goto (-81), 3) := by decide +kernel
theorem dX1_take_97 : decode cX1_take 97 = .ok (.return_, 1) := by decide +kernel
theorem dX1_risen_0 : decode cX1_risen 0 = .ok (.iconst 0, 1) := by decide +kernel
theorem dX1_risen_1 : decode cX1_risen 1 = .ok (.istore_n 1, 1) := by decide +kernel
theorem dX1_risen_2 : decode cX1_risen 2 = .ok (.iconst 0, 1) := by decide +kernel
theorem dX1_risen_3 : decode cX1_risen 3 = .ok (.istore_n 2, 1) := by decide +kernel
theorem dX1_risen_4 : decode cX1_risen 4 = .ok (.iconst 0, 1) := by decide +kernel
theorem dX1_risen_5 : decode cX1_risen 5 = .ok (.istore_n 3, 1) := by decide +kernel
theorem dX1_risen_6 : decode cX1_risen 6 = .ok (.iload_n 3, 1) := by decide +kernel
theorem dX1_risen_7 : decode cX1_risen 7 = .ok (.bipush 10, 2) := by decide +kernel
theorem dX1_risen_9 : decode cX1_risen 9 = .ok (.if_icmp .ge 38, 3) := by decide +kernel
theorem dX1_risen_12 : decode cX1_risen 12 = .ok (.iload_n 2, 1) := by decide +kernel
theorem dX1_risen_13 : decode cX1_risen 13 = .ok (.aload_n 0, 1) := by decide +kernel
theorem dX1_risen_14 : decode cX1_risen 14 = .ok (.getfield 22, 3) := by decide +kernel
theorem dX1_risen_17 : decode cX1_risen 17 = .ok (.iload_n 3, 1) := by decide +kernel
theorem dX1_risen_18 : decode cX1_risen 18 = .ok (.iaload, 1) := by decide +kernel
theorem dX1_risen_19 : decode cX1_risen 19 = .ok (.iconst 2, 1) := by decide +kernel
theorem dX1_risen_20 : decode cX1_risen 20 = .ok (.iload_n 1, 1) := by decide +kernel
theorem dX1_risen_21 : decode cX1_risen 21 = .ok (.imul, 1) := by decide +kernel
theorem dX1_risen_22 : decode cX1_risen 22 = .ok (.aload_n 0, 1) := by decide +kernel
theorem dX1_risen_23 : decode cX1_risen 23 = .ok (.getfield 18, 3) := by decide +kernel
theorem dX1_risen_26 : decode cX1_risen 26 = .ok (.iload_n 3, 1) := by decide +kernel
theorem dX1_risen_27 : decode cX1_risen 27 = .ok (.iaload, 1) := by decide +kernel
theorem dX1_risen_28 : decode cX1_risen 28 = .ok (.iadd, 1) := by decide +kernel
theorem dX1_risen_29 : decode cX1_risen 29 = .ok (.imul, 1) := by decide +kernel
theorem dX1_risen_30 : decode cX1_risen 30 = .ok (.iadd, 1) := by decide +kernel
theorem dX1_risen_31 : decode cX1_risen 31 = .ok (.istore_n 2, 1) := by decide +kernel
theorem dX1_risen_32 : decode cX1_risen 32 = .ok (.iload_n 1, 1) := by decide +kernel
theorem dX1_risen_33 : decode cX1_risen 33 = .ok (.aload_n 0, 1) := by decide +kernel
theorem dX1_risen_34 : decode cX1_risen 34 = .ok (.getfield 18, 3) := by decide +kernel
theorem dX1_risen_37 : decode cX1_risen 37 = .ok (.iload_n 3, 1) := by decide +kernel
theorem dX1_risen_38 : decode cX1_risen 38 = .ok (.iaload, 1) := by decide +kernel
theorem dX1_risen_39 : decode cX1_risen 39 = .ok (.iadd, 1) := by decide +kernel
theorem dX1_risen_40 : decode cX1_risen 40 = .ok (.istore_n 1, 1) := by decide +kernel
theorem dX1_risen_41 : decode cX1_risen 41 = .ok (.iinc 3 1, 3) := by decide +kernel
theorem dX1_risen_44 : decode cX1_risen 44 = .ok (.goto (-38), 3) := by decide +kernel
theorem dX1_risen_47 : decode cX1_risen 47 = .ok (.iload_n 2, 1) := by decide +kernel
theorem dX1_risen_48 : decode cX1_risen 48 = .ok (.ireturn, 1) := by decide +kernel
set_option maxRecDepth 20000 in
theorem ggX1_waysToRise_J7_fill_53178 : GoodIn wsX1_waysToRise wsJ7_fill_53178 := goodIn_r _ [13] (by decide +kernel) (by decide +kernel)
set_option maxRecDepth 20000 in
theorem gX1_waysToRise_J7_fill_53178 : GoodIn wsX1_waysToRise (va_wsS RX1 40 yJ7_fill_53178 wsJ7_fill_53178) := goodIn_app (goodIn_of _ (by decide +kernel)) ggX1_waysToRise_J7_fill_53178
set_option maxRecDepth 20000 in
theorem ggX1_waysToRise_X1_addGroup : GoodIn wsX1_waysToRise wsX1_addGroup := goodIn_r _ [18, 1, 19, 20, 8, 21, 22, 23, 24, 17, 25, 3, 26, 27, 28, 29, 30, 31, 32, 33] (by decide +kernel) (by decide +kernel)
set_option maxRecDepth 20000 in
theorem gX1_waysToRise_X1_addGroup : GoodIn wsX1_waysToRise (wsV RX1 46 RX1 yX1_addGroup wsX1_addGroup) := goodIn_app (goodIn_of _ (by decide +kernel)) ggX1_waysToRise_X1_addGroup
theorem dX1_waysToRise_0 : decode cX1_waysToRise 0 = .ok (.aload_n 0, 1) := by decide +kernel
theorem dX1_waysToRise_1 : decode cX1_waysToRise 1 = .ok (.getfield 11, 3) := by decide +kernel
theorem dX1_waysToRise_4 : decode cX1_waysToRise 4 = .ok (.aload_n 0, 1) := by decide +kernel
theorem dX1_waysToRise_5 : decode cX1_waysToRise 5 = .ok (.getfield 15, 3) := by decide +kernel
theorem dX1_waysToRise_8 : decode cX1_waysToRise 8 = .ok (.iadd, 1) := by decide +kernel
theorem dX1_waysToRise_9 : decode cX1_waysToRise 9 = .ok (.bipush 20, 2) := by decide +kernel
theorem dX1_waysToRise_11 : decode cX1_waysToRise 11 = .ok (.if_icmp .le 5, 3) := by decide +kernel
theorem dX1_waysToRise_14 : decode cX1_waysToRise 14 = .ok (.iconst 0, 1) := by decide +kernel
theorem dX1_waysToRise_15 : decode cX1_waysToRise 15 = .ok (.ireturn, 1) := by decide +kernel
theorem dX1_waysToRise_16 : decode cX1_waysToRise 16 = .ok (.aload_n 0, 1) := by decide +kernel
theorem dX1_waysToRise_17 : decode cX1_waysToRise 17 = .ok (.getfield 25, 3) := by decide +kernel
theorem dX1_waysToRise_20 : decode cX1_waysToRise 20 = .ok (.iconst 0, 1) := by decide +kernel
theorem dX1_waysToRise_21 : decode cX1_waysToRise 21 = .ok (.invokestatic 40, 3) := by decide +kernel
theorem dX1_waysToRise_24 : decode cX1_waysToRise 24 = .ok (.aload_n 0, 1) := by decide +kernel
theorem dX1_waysToRise_25 : decode cX1_waysToRise 25 = .ok (.getfield 25, 3) := by decide +kernel
theorem dX1_waysToRise_28 : decode cX1_waysToRise 28 = .ok (.iconst 0, 1) := by decide +kernel
theorem dX1_waysToRise_29 : decode cX1_waysToRise 29 = .ok (.iconst 1, 1) := by decide +kernel
theorem dX1_waysToRise_30 : decode cX1_waysToRise 30 = .ok (.iastore, 1) := by decide +kernel
theorem dX1_waysToRise_31 : decode cX1_waysToRise 31 = .ok (.iconst 0, 1) := by decide +kernel
theorem dX1_waysToRise_32 : decode cX1_waysToRise 32 = .ok (.istore_n 2, 1) := by decide +kernel
theorem dX1_waysToRise_33 : decode cX1_waysToRise 33 = .ok (.iconst 0, 1) := by decide +kernel
theorem dX1_waysToRise_34 : decode cX1_waysToRise 34 = .ok (.istore_n 3, 1) := by decide +kernel
theorem dX1_waysToRise_35 : decode cX1_waysToRise 35 = .ok (.iload_n 3, 1) := by decide +kernel
theorem dX1_waysToRise_36 : decode cX1_waysToRise 36 = .ok (.bipush 10, 2) := by decide +kernel
theorem dX1_waysToRise_38 : decode cX1_waysToRise 38 = .ok (.if_icmp .ge 36, 3) := by decide +kernel
theorem dX1_waysToRise_41 : decode cX1_waysToRise 41 = .ok (.aload_n 0, 1) := by decide +kernel
theorem dX1_waysToRise_42 : decode cX1_waysToRise 42 = .ok (.getfield 18, 3) := by decide +kernel
theorem dX1_waysToRise_45 : decode cX1_waysToRise 45 = .ok (.iload_n 3, 1) := by decide +kernel
theorem dX1_waysToRise_46 : decode cX1_waysToRise 46 = .ok (.iaload, 1) := by decide +kernel
theorem dX1_waysToRise_47 : decode cX1_waysToRise 47 = .ok (.aload_n 0, 1) := by decide +kernel
theorem dX1_waysToRise_48 : decode cX1_waysToRise 48 = .ok (.getfield 22, 3) := by decide +kernel
theorem dX1_waysToRise_51 : decode cX1_waysToRise 51 = .ok (.iload_n 3, 1) := by decide +kernel
theorem dX1_waysToRise_52 : decode cX1_waysToRise 52 = .ok (.iaload, 1) := by decide +kernel
theorem dX1_waysToRise_53 : decode cX1_waysToRise 53 = .ok (.iadd, 1) := by decide +kernel
theorem dX1_waysToRise_54 : decode cX1_waysToRise 54 = .ok (.istore 4, 2) := by decide +kernel
theorem dX1_waysToRise_56 : decode cX1_waysToRise 56 = .ok (.aload_n 0, 1) := by decide +kernel
theorem dX1_waysToRise_57 : decode cX1_waysToRise 57 = .ok (.iload_n 2, 1) := by decide +kernel
theorem dX1_waysToRise_58 : decode cX1_waysToRise 58 = .ok (.iload 4, 2) := by decide +kernel
theorem dX1_waysToRise_60 : decode cX1_waysToRise 60 = .ok (.invokevirtual 46, 3) := by decide +kernel
theorem dX1_waysToRise_63 : decode cX1_waysToRise 63 = .ok (.iload_n 2, 1) := by decide +kernel
theorem dX1_waysToRise_64 : decode cX1_waysToRise 64 = .ok (.iload 4, 2) := by decide +kernel
theorem dX1_waysToRise_66 : decode cX1_waysToRise 66 = .ok (.iadd, 1) := by decide +kernel
theorem dX1_waysToRise_67 : decode cX1_waysToRise 67 = .ok (.istore_n 2, 1) := by decide +kernel
theorem dX1_waysToRise_68 : decode cX1_waysToRise 68 = .ok (.iinc 3 1, 3) := by decide +kernel
theorem dX1_waysToRise_71 : decode cX1_waysToRise 71 = .ok (.goto (-36), 3) := by decide +kernel
theorem dX1_waysToRise_74 : decode cX1_waysToRise 74 = .ok (.iconst 0, 1) := by decide +kernel
theorem dX1_waysToRise_75 : decode cX1_waysToRise 75 = .ok (.istore_n 3, 1) := by decide +kernel
theorem dX1_waysToRise_76 : decode cX1_waysToRise 76 = .ok (.iconst 0, 1) := by decide +kernel
theorem dX1_waysToRise_77 : decode cX1_waysToRise 77 = .ok (.iload_n 1, 1) := by decide +kernel
theorem dX1_waysToRise_78 : decode cX1_waysToRise 78 = .ok (.invokestatic 50, 3) := by decide +kernel
theorem dX1_waysToRise_81 : decode cX1_waysToRise 81 = .ok (.istore 4, 2) := by decide +kernel
theorem dX1_waysToRise_83 : decode cX1_waysToRise 83 = .ok (.iload 4, 2) := by decide +kernel
theorem dX1_waysToRise_85 : decode cX1_waysToRise 85 = .ok (.sipush 200, 3) := by decide +kernel
theorem dX1_waysToRise_88 : decode cX1_waysToRise 88 = .ok (.if_icmp .gt 28, 3) := by decide +kernel
theorem dX1_waysToRise_91 : decode cX1_waysToRise 91 = .ok (.iload_n 3, 1) := by decide +kernel
theorem dX1_waysToRise_92 : decode cX1_waysToRise 92 = .ok (.aload_n 0, 1) := by decide +kernel
theorem dX1_waysToRise_93 : decode cX1_waysToRise 93 = .ok (.getfield 25, 3) := by decide +kernel
theorem dX1_waysToRise_96 : decode cX1_waysToRise 96 = .ok (.aload_n 0, 1) := by decide +kernel
theorem dX1_waysToRise_97 : decode cX1_waysToRise 97 = .ok (.getfield 11, 3) := by decide +kernel
theorem dX1_waysToRise_100 : decode cX1_waysToRise 100 = .ok (.sipush 201, 3) := by decide +kernel
theorem dX1_waysToRise_103 : decode cX1_waysToRise 103 = .ok (.imul, 1) := by decide +kernel
theorem dX1_waysToRise_104 : decode cX1_waysToRise 104 = .ok (.iload 4, 2) := by decide +kernel
theorem dX1_waysToRise_106 : decode cX1_waysToRise 106 = .ok (.iadd, 1) := by decide +kernel
theorem dX1_waysToRise_107 : decode cX1_waysToRise 107 = .ok (.iaload, 1) := by decide +kernel
theorem dX1_waysToRise_108 : decode cX1_waysToRise 108 = .ok (.iadd, 1) := by decide +kernel
theorem dX1_waysToRise_109 : decode cX1_waysToRise 109 = .ok (.istore_n 3, 1) := by decide +kernel
theorem dX1_waysToRise_110 : decode cX1_waysToRise 110 = .ok (.iinc 4 1, 3) := by decide +kernel
theorem dX1_waysToRise_113 : decode cX1_waysToRise 113 = .ok (.goto (-30), 3) := by decide +kernel
theorem dX1_waysToRise_116 : decode cX1_waysToRise 116 = .ok (.iload_n 3, 1) := by decide +kernel
theorem dX1_waysToRise_117 : decode cX1_waysToRise 117 = .ok (.ireturn, 1) := by decide +kernel
set_option maxRecDepth 20000 in
theorem ggX1_addGroup_X1_moveWays : GoodIn wsX1_addGroup wsX1_moveWays := goodIn_r _ [10, 11, 1, 12, 13, 14, 15, 16, 17, 18, 19] (by decide +kernel) (by decide +kernel)
set_option maxRecDepth 20000 in
theorem gX1_addGroup_X1_moveWays : GoodIn wsX1_addGroup (wsV RX1 59 RX1 yX1_moveWays wsX1_moveWays) := goodIn_app (goodIn_of _ (by decide +kernel)) ggX1_addGroup_X1_moveWays
theorem dX1_addGroup_0 : decode cX1_addGroup 0 = .ok (.iload_n 1, 1) := by decide +kernel
theorem dX1_addGroup_1 : decode cX1_addGroup 1 = .ok (.aload_n 0, 1) := by decide +kernel
theorem dX1_addGroup_2 : decode cX1_addGroup 2 = .ok (.getfield 11, 3) := by decide +kernel
theorem dX1_addGroup_5 : decode cX1_addGroup 5 = .ok (.invokestatic 56, 3) := by decide +kernel
theorem dX1_addGroup_8 : decode cX1_addGroup 8 = .ok (.istore_n 3, 1) := by decide +kernel
theorem dX1_addGroup_9 : decode cX1_addGroup 9 = .ok (.iload_n 3, 1) := by decide +kernel
theorem dX1_addGroup_10 : decode cX1_addGroup 10 = .ok (.ifCond .lt 37, 3) := by decide +kernel
theorem dX1_addGroup_13 : decode cX1_addGroup 13 = .ok (.iconst 2, 1) := by decide +kernel
theorem dX1_addGroup_14 : decode cX1_addGroup 14 = .ok (.iload_n 3, 1) := by decide +kernel
theorem dX1_addGroup_15 : decode cX1_addGroup 15 = .ok (.imul, 1) := by decide +kernel
theorem dX1_addGroup_16 : decode cX1_addGroup 16 = .ok (.iload_n 1, 1) := by decide +kernel
theorem dX1_addGroup_17 : decode cX1_addGroup 17 = .ok (.iload_n 3, 1) := by decide +kernel
theorem dX1_addGroup_18 : decode cX1_addGroup 18 = .ok (.isub, 1) := by decide +kernel
theorem dX1_addGroup_19 : decode cX1_addGroup 19 = .ok (.imul, 1) := by decide +kernel
theorem dX1_addGroup_20 : decode cX1_addGroup 20 = .ok (.istore 4, 2) := by decide +kernel
theorem dX1_addGroup_22 : decode cX1_addGroup 22 = .ok (.iload 4, 2) := by decide +kernel
theorem dX1_addGroup_24 : decode cX1_addGroup 24 = .ok (.ifCond .lt 17, 3) := by decide +kernel
theorem dX1_addGroup_27 : decode cX1_addGroup 27 = .ok (.aload_n 0, 1) := by decide +kernel
theorem dX1_addGroup_28 : decode cX1_addGroup 28 = .ok (.iload_n 3, 1) := by decide +kernel
theorem dX1_addGroup_29 : decode cX1_addGroup 29 = .ok (.iload 4, 2) := by decide +kernel
theorem dX1_addGroup_31 : decode cX1_addGroup 31 = .ok (.iload_n 2, 1) := by decide +kernel
theorem dX1_addGroup_32 : decode cX1_addGroup 32 = .ok (.invokevirtual 59, 3) := by decide +kernel
theorem dX1_addGroup_35 : decode cX1_addGroup 35 = .ok (.iinc 4 (-1), 3) := by decide +kernel
theorem dX1_addGroup_38 : decode cX1_addGroup 38 = .ok (.goto (-16), 3) := by decide +kernel
theorem dX1_addGroup_41 : decode cX1_addGroup 41 = .ok (.iinc 3 (-1), 3) := by decide +kernel
theorem dX1_addGroup_44 : decode cX1_addGroup 44 = .ok (.goto (-35), 3) := by decide +kernel
theorem dX1_addGroup_47 : decode cX1_addGroup 47 = .ok (.return_, 1) := by decide +kernel
set_option maxRecDepth 20000 in
theorem ggX1_moveWays_X4_waysToChoose : GoodIn wsX1_moveWays wsX4_waysToChoose := goodIn_r _ [5] (by decide +kernel) (by decide +kernel)
set_option maxRecDepth 20000 in
theorem gX1_moveWays_X4_waysToChoose_n63 : GoodIn wsX1_moveWays (wsX4_waysToChoose) := ggX1_moveWays_X4_waysToChoose
theorem dX1_moveWays_0 : decode cX1_moveWays 0 = .ok (.iload_n 1, 1) := by decide +kernel
theorem dX1_moveWays_1 : decode cX1_moveWays 1 = .ok (.sipush 201, 3) := by decide +kernel
theorem dX1_moveWays_4 : decode cX1_moveWays 4 = .ok (.imul, 1) := by decide +kernel
theorem dX1_moveWays_5 : decode cX1_moveWays 5 = .ok (.iload_n 2, 1) := by decide +kernel
theorem dX1_moveWays_6 : decode cX1_moveWays 6 = .ok (.iadd, 1) := by decide +kernel
theorem dX1_moveWays_7 : decode cX1_moveWays 7 = .ok (.istore 4, 2) := by decide +kernel
theorem dX1_moveWays_9 : decode cX1_moveWays 9 = .ok (.aload_n 0, 1) := by decide +kernel
theorem dX1_moveWays_10 : decode cX1_moveWays 10 = .ok (.getfield 25, 3) := by decide +kernel
theorem dX1_moveWays_13 : decode cX1_moveWays 13 = .ok (.iload 4, 2) := by decide +kernel
theorem dX1_moveWays_15 : decode cX1_moveWays 15 = .ok (.iaload, 1) := by decide +kernel
theorem dX1_moveWays_16 : decode cX1_moveWays 16 = .ok (.istore 5, 2) := by decide +kernel
theorem dX1_moveWays_18 : decode cX1_moveWays 18 = .ok (.iload 5, 2) := by decide +kernel
theorem dX1_moveWays_20 : decode cX1_moveWays 20 = .ok (.ifCond .ne 4, 3) := by decide +kernel
theorem dX1_moveWays_23 : decode cX1_moveWays 23 = .ok (.return_, 1) := by decide +kernel
theorem dX1_moveWays_24 : decode cX1_moveWays 24 = .ok (.aload_n 0, 1) := by decide +kernel
theorem dX1_moveWays_25 : decode cX1_moveWays 25 = .ok (.getfield 25, 3) := by decide +kernel
theorem dX1_moveWays_28 : decode cX1_moveWays 28 = .ok (.iload 4, 2) := by decide +kernel
theorem dX1_moveWays_30 : decode cX1_moveWays 30 = .ok (.iconst 0, 1) := by decide +kernel
theorem dX1_moveWays_31 : decode cX1_moveWays 31 = .ok (.iastore, 1) := by decide +kernel
theorem dX1_moveWays_32 : decode cX1_moveWays 32 = .ok (.iconst 0, 1) := by decide +kernel
theorem dX1_moveWays_33 : decode cX1_moveWays 33 = .ok (.istore 6, 2) := by decide +kernel
theorem dX1_moveWays_35 : decode cX1_moveWays 35 = .ok (.iload 6, 2) := by decide +kernel
theorem dX1_moveWays_37 : decode cX1_moveWays 37 = .ok (.iload_n 3, 1) := by decide +kernel
theorem dX1_moveWays_38 : decode cX1_moveWays 38 = .ok (.if_icmp .gt 71, 3) := by decide +kernel
theorem dX1_moveWays_41 : decode cX1_moveWays 41 = .ok (.iload_n 1, 1) := by decide +kernel
theorem dX1_moveWays_42 : decode cX1_moveWays 42 = .ok (.iload 6, 2) := by decide +kernel
theorem dX1_moveWays_44 : decode cX1_moveWays 44 = .ok (.iadd, 1) := by decide +kernel
theorem dX1_moveWays_45 : decode cX1_moveWays 45 = .ok (.aload_n 0, 1) := by decide +kernel
theorem dX1_moveWays_46 : decode cX1_moveWays 46 = .ok (.getfield 11, 3) := by decide +kernel
theorem dX1_moveWays_49 : decode cX1_moveWays 49 = .ok (.if_icmp .gt 60, 3) := by decide +kernel
theorem dX1_moveWays_52 : decode cX1_moveWays 52 = .ok (.iload_n 2, 1) := by decide +kernel
theorem dX1_moveWays_53 : decode cX1_moveWays 53 = .ok (.iload_n 3, 1) := by decide +kernel
theorem dX1_moveWays_54 : decode cX1_moveWays 54 = .ok (.iload 6, 2) := by decide +kernel
theorem dX1_moveWays_56 : decode cX1_moveWays 56 = .ok (.isub, 1) := by decide +kernel
theorem dX1_moveWays_57 : decode cX1_moveWays 57 = .ok (.iconst 2, 1) := by decide +kernel
theorem dX1_moveWays_58 : decode cX1_moveWays 58 = .ok (.iload_n 1, 1) := by decide +kernel
theorem dX1_moveWays_59 : decode cX1_moveWays 59 = .ok (.imul, 1) := by decide +kernel
theorem dX1_moveWays_60 : decode cX1_moveWays 60 = .ok (.iload 6, 2) := by decide +kernel
theorem dX1_moveWays_62 : decode cX1_moveWays 62 = .ok (.iadd, 1) := by decide +kernel
theorem dX1_moveWays_63 : decode cX1_moveWays 63 = .ok (.imul, 1) := by decide +kernel
theorem dX1_moveWays_64 : decode cX1_moveWays 64 = .ok (.iadd, 1) := by decide +kernel
theorem dX1_moveWays_65 : decode cX1_moveWays 65 = .ok (.istore 7, 2) := by decide +kernel
theorem dX1_moveWays_67 : decode cX1_moveWays 67 = .ok (.iload 7, 2) := by decide +kernel
theorem dX1_moveWays_69 : decode cX1_moveWays 69 = .ok (.sipush 200, 3) := by decide +kernel
theorem dX1_moveWays_72 : decode cX1_moveWays 72 = .ok (.if_icmp .gt 31, 3) := by decide +kernel
theorem dX1_moveWays_75 : decode cX1_moveWays 75 = .ok (.aload_n 0, 1) := by decide +kernel
theorem dX1_moveWays_76 : decode cX1_moveWays 76 = .ok (.getfield 25, 3) := by decide +kernel
theorem dX1_moveWays_79 : decode cX1_moveWays 79 = .ok (.iload_n 1, 1) := by decide +kernel
theorem dX1_moveWays_80 : decode cX1_moveWays 80 = .ok (.iload 6, 2) := by decide +kernel
theorem dX1_moveWays_82 : decode cX1_moveWays 82 = .ok (.iadd, 1) := by decide +kernel
theorem dX1_moveWays_83 : decode cX1_moveWays 83 = .ok (.sipush 201, 3) := by decide +kernel
theorem dX1_moveWays_86 : decode cX1_moveWays 86 = .ok (.imul, 1) := by decide +kernel
theorem dX1_moveWays_87 : decode cX1_moveWays 87 = .ok (.iload 7, 2) := by decide +kernel
theorem dX1_moveWays_89 : decode cX1_moveWays 89 = .ok (.iadd, 1) := by decide +kernel
theorem dX1_moveWays_90 : decode cX1_moveWays 90 = .ok (.dup2, 1) := by decide +kernel
theorem dX1_moveWays_91 : decode cX1_moveWays 91 = .ok (.iaload, 1) := by decide +kernel
theorem dX1_moveWays_92 : decode cX1_moveWays 92 = .ok (.iload 5, 2) := by decide +kernel
theorem dX1_moveWays_94 : decode cX1_moveWays 94 = .ok (.iload_n 3, 1) := by decide +kernel
theorem dX1_moveWays_95 : decode cX1_moveWays 95 = .ok (.iload 6, 2) := by decide +kernel
theorem dX1_moveWays_97 : decode cX1_moveWays 97 = .ok (.invokestatic 63, 3) := by decide +kernel
theorem dX1_moveWays_100 : decode cX1_moveWays 100 = .ok (.imul, 1) := by decide +kernel
theorem dX1_moveWays_101 : decode cX1_moveWays 101 = .ok (.iadd, 1) := by decide +kernel
theorem dX1_moveWays_102 : decode cX1_moveWays 102 = .ok (.iastore, 1) := by decide +kernel
theorem dX1_moveWays_103 : decode cX1_moveWays 103 = .ok (.iinc 6 1, 3) := by decide +kernel
theorem dX1_moveWays_106 : decode cX1_moveWays 106 = .ok (.goto (-71), 3) := by decide +kernel
theorem dX1_moveWays_109 : decode cX1_moveWays 109 = .ok (.return_, 1) := by decide +kernel
theorem dX2_init_0 : decode cX2_init 0 = .ok (.aload_n 0, 1) := by decide +kernel
theorem dX2_init_1 : decode cX2_init 1 = .ok (.invokespecial 3, 3) := by decide +kernel
theorem dX2_init_4 : decode cX2_init 4 = .ok (.aload_n 0, 1) := by decide +kernel
theorem dX2_init_5 : decode cX2_init 5 = .ok (.iconst 0, 1) := by decide +kernel
theorem dX2_init_6 : decode cX2_init 6 = .ok (.putfield 9, 3) := by decide +kernel
theorem dX2_init_9 : decode cX2_init 9 = .ok (.aload_n 0, 1) := by decide +kernel
theorem dX2_init_10 : decode cX2_init 10 = .ok (.lconst 0, 1) := by decide +kernel
theorem dX2_init_11 : decode cX2_init 11 = .ok (.putfield 15, 3) := by decide +kernel
theorem dX2_init_14 : decode cX2_init 14 = .ok (.aload_n 0, 1) := by decide +kernel
theorem dX2_init_15 : decode cX2_init 15 = .ok (.bipush 48, 2) := by decide +kernel
theorem dX2_init_17 : decode cX2_init 17 = .ok (.newarray .int, 2) := by decide +kernel
theorem dX2_init_19 : decode cX2_init 19 = .ok (.putfield 19, 3) := by decide +kernel
theorem dX2_init_22 : decode cX2_init 22 = .ok (.aload_n 0, 1) := by decide +kernel
theorem dX2_init_23 : decode cX2_init 23 = .ok (.bipush 55, 2) := by decide +kernel
theorem dX2_init_25 : decode cX2_init 25 = .ok (.newarray .long, 2) := by decide +kernel
theorem dX2_init_27 : decode cX2_init 27 = .ok (.putfield 23, 3) := by decide +kernel
theorem dX2_init_30 : decode cX2_init 30 = .ok (.return_, 1) := by decide +kernel
set_option maxRecDepth 20000 in
theorem ggX2_has_X4_isWithin : GoodIn wsX2_has wsX4_isWithin := goodIn_r _ [4] (by decide +kernel) (by decide +kernel)
set_option maxRecDepth 20000 in
theorem gX2_has_X4_isWithin_n27 : GoodIn wsX2_has (wsX4_isWithin) := ggX2_has_X4_isWithin
theorem dX2_has_0 : decode cX2_has 0 = .ok (.iload_n 1, 1) := by decide +kernel
theorem dX2_has_1 : decode cX2_has 1 = .ok (.iconst 0, 1) := by decide +kernel
theorem dX2_has_2 : decode cX2_has 2 = .ok (.aload_n 0, 1) := by decide +kernel
theorem dX2_has_3 : decode cX2_has 3 = .ok (.getfield 9, 3) := by decide +kernel
theorem dX2_has_6 : decode cX2_has 6 = .ok (.iconst 1, 1) := by decide +kernel
theorem dX2_has_7 : decode cX2_has 7 = .ok (.isub, 1) := by decide +kernel
theorem dX2_has_8 : decode cX2_has 8 = .ok (.invokestatic 27, 3) := by decide +kernel
theorem dX2_has_11 : decode cX2_has 11 = .ok (.ireturn, 1) := by decide +kernel
set_option maxRecDepth 20000 in
theorem ggX2_add_X4_conditionOf : GoodIn wsX2_add wsX4_conditionOf := goodIn_r _ [7] (by decide +kernel) (by decide +kernel)
set_option maxRecDepth 20000 in
theorem gX2_add_X4_conditionOf_n31 : GoodIn wsX2_add (wsX4_conditionOf) := ggX2_add_X4_conditionOf
theorem dX2_add_0 : decode cX2_add 0 = .ok (.aload_n 0, 1) := by decide +kernel
theorem dX2_add_1 : decode cX2_add 1 = .ok (.getfield 9, 3) := by decide +kernel
theorem dX2_add_4 : decode cX2_add 4 = .ok (.istore_n 3, 1) := by decide +kernel
theorem dX2_add_5 : decode cX2_add 5 = .ok (.aload_n 0, 1) := by decide +kernel
theorem dX2_add_6 : decode cX2_add 6 = .ok (.getfield 19, 3) := by decide +kernel
theorem dX2_add_9 : decode cX2_add 9 = .ok (.iload_n 3, 1) := by decide +kernel
theorem dX2_add_10 : decode cX2_add 10 = .ok (.iload_n 1, 1) := by decide +kernel
theorem dX2_add_11 : decode cX2_add 11 = .ok (.iastore, 1) := by decide +kernel
theorem dX2_add_12 : decode cX2_add 12 = .ok (.iload_n 2, 1) := by decide +kernel
theorem dX2_add_13 : decode cX2_add 13 = .ok (.ifCond .eq 15, 3) := by decide +kernel
theorem dX2_add_16 : decode cX2_add 16 = .ok (.aload_n 0, 1) := by decide +kernel
theorem dX2_add_17 : decode cX2_add 17 = .ok (.dup, 1) := by decide +kernel
theorem dX2_add_18 : decode cX2_add 18 = .ok (.getfield 15, 3) := by decide +kernel
theorem dX2_add_21 : decode cX2_add 21 = .ok (.lconst 1, 1) := by decide +kernel
theorem dX2_add_22 : decode cX2_add 22 = .ok (.iload_n 3, 1) := by decide +kernel
theorem dX2_add_23 : decode cX2_add 23 = .ok (.lshl, 1) := by decide +kernel
theorem dX2_add_24 : decode cX2_add 24 = .ok (.lor, 1) := by decide +kernel
theorem dX2_add_25 : decode cX2_add 25 = .ok (.putfield 15, 3) := by decide +kernel
theorem dX2_add_28 : decode cX2_add 28 = .ok (.iconst 0, 1) := by decide +kernel
theorem dX2_add_29 : decode cX2_add 29 = .ok (.istore 4, 2) := by decide +kernel
theorem dX2_add_31 : decode cX2_add 31 = .ok (.iload 4, 2) := by decide +kernel
theorem dX2_add_33 : decode cX2_add 33 = .ok (.iconst 5, 1) := by decide +kernel
theorem dX2_add_34 : decode cX2_add 34 = .ok (.if_icmp .ge 27, 3) := by decide +kernel
theorem dX2_add_37 : decode cX2_add 37 = .ok (.aload_n 0, 1) := by decide +kernel
theorem dX2_add_38 : decode cX2_add 38 = .ok (.getfield 23, 3) := by decide +kernel
theorem dX2_add_41 : decode cX2_add 41 = .ok (.iload 4, 2) := by decide +kernel
theorem dX2_add_43 : decode cX2_add 43 = .ok (.bipush 10, 2) := by decide +kernel
theorem dX2_add_45 : decode cX2_add 45 = .ok (.invokestatic 31, 3) := by decide +kernel
theorem dX2_add_48 : decode cX2_add 48 = .ok (.dup2, 1) := by decide +kernel
theorem dX2_add_49 : decode cX2_add 49 = .ok (.laload, 1) := by decide +kernel
theorem dX2_add_50 : decode cX2_add 50 = .ok (.lconst 1, 1) := by decide +kernel
theorem dX2_add_51 : decode cX2_add 51 = .ok (.iload_n 3, 1) := by decide +kernel
theorem dX2_add_52 : decode cX2_add 52 = .ok (.lshl, 1) := by decide +kernel
theorem dX2_add_53 : decode cX2_add 53 = .ok (.lor, 1) := by decide +kernel
theorem dX2_add_54 : decode cX2_add 54 = .ok (.lastore, 1) := by decide +kernel
theorem dX2_add_55 : decode cX2_add 55 = .ok (.iinc 4 1, 3) := by decide +kernel
theorem dX2_add_58 : decode cX2_add 58 = .ok (.goto (-27), 3) := by decide +kernel
theorem dX2_add_61 : decode cX2_add 61 = .ok (.aload_n 0, 1) := by decide +kernel
theorem dX2_add_62 : decode cX2_add 62 = .ok (.dup, 1) := by decide +kernel
theorem dX2_add_63 : decode cX2_add 63 = .ok (.getfield 9, 3) := by decide +kernel
theorem dX2_add_66 : decode cX2_add 66 = .ok (.iconst 1, 1) := by decide +kernel
theorem dX2_add_67 : decode cX2_add 67 = .ok (.iadd, 1) := by decide +kernel
theorem dX2_add_68 : decode cX2_add 68 = .ok (.putfield 9, 3) := by decide +kernel
theorem dX2_add_71 : decode cX2_add 71 = .ok (.iload_n 3, 1) := by decide +kernel
theorem dX2_add_72 : decode cX2_add 72 = .ok (.ireturn, 1) := by decide +kernel
set_option maxRecDepth 20000 in
theorem ggX2_change_X2_sortAt : GoodIn wsX2_change wsX2_sortAt := goodIn_r _ [7, 8, 9, 10, 6, 11, 1, 12, 13, 14, 15, 16, 17, 18] (by decide +kernel) (by decide +kernel)
set_option maxRecDepth 20000 in
theorem gX2_change_X2_sortAt : GoodIn wsX2_change (wsV RX2 35 RX2 yX2_sortAt wsX2_sortAt) := goodIn_app (goodIn_of _ (by decide +kernel)) ggX2_change_X2_sortAt
set_option maxRecDepth 20000 in
theorem ggX2_change_X4_conditionOf : GoodIn wsX2_change wsX4_conditionOf := goodIn_r _ [14] (by decide +kernel) (by decide +kernel)
set_option maxRecDepth 20000 in
theorem gX2_change_X4_conditionOf_n31 : GoodIn wsX2_change (wsX4_conditionOf) := ggX2_change_X4_conditionOf
theorem dX2_change_0 : decode cX2_change 0 = .ok (.aload_n 0, 1) := by decide +kernel
theorem dX2_change_1 : decode cX2_change 1 = .ok (.iload_n 1, 1) := by decide +kernel
theorem dX2_change_2 : decode cX2_change 2 = .ok (.iload_n 2, 1) := by decide +kernel
theorem dX2_change_3 : decode cX2_change 3 = .ok (.invokevirtual 35, 3) := by decide +kernel
theorem dX2_change_6 : decode cX2_change 6 = .ok (.istore 4, 2) := by decide +kernel
theorem dX2_change_8 : decode cX2_change 8 = .ok (.aload_n 0, 1) := by decide +kernel
theorem dX2_change_9 : decode cX2_change 9 = .ok (.getfield 23, 3) := by decide +kernel
theorem dX2_change_12 : decode cX2_change 12 = .ok (.iload_n 2, 1) := by decide +kernel
theorem dX2_change_13 : decode cX2_change 13 = .ok (.iload 4, 2) := by decide +kernel
theorem dX2_change_15 : decode cX2_change 15 = .ok (.invokestatic 31, 3) := by decide +kernel
theorem dX2_change_18 : decode cX2_change 18 = .ok (.dup2, 1) := by decide +kernel
theorem dX2_change_19 : decode cX2_change 19 = .ok (.laload, 1) := by decide +kernel
theorem dX2_change_20 : decode cX2_change 20 = .ok (.lconst 1, 1) := by decide +kernel
theorem dX2_change_21 : decode cX2_change 21 = .ok (.iload_n 1, 1) := by decide +kernel
theorem dX2_change_22 : decode cX2_change 22 = .ok (.lshl, 1) := by decide +kernel
theorem dX2_change_23 : decode cX2_change 23 = .ok (.ldc2_w 38, 3) := by decide +kernel
theorem dX2_change_26 : decode cX2_change 26 = .ok (.lxor, 1) := by decide +kernel
theorem dX2_change_27 : decode cX2_change 27 = .ok (.land, 1) := by decide +kernel
theorem dX2_change_28 : decode cX2_change 28 = .ok (.lastore, 1) := by decide +kernel
theorem dX2_change_29 : decode cX2_change 29 = .ok (.aload_n 0, 1) := by decide +kernel
theorem dX2_change_30 : decode cX2_change 30 = .ok (.getfield 23, 3) := by decide +kernel
theorem dX2_change_33 : decode cX2_change 33 = .ok (.iload_n 2, 1) := by decide +kernel
theorem dX2_change_34 : decode cX2_change 34 = .ok (.iload_n 3, 1) := by decide +kernel
theorem dX2_change_35 : decode cX2_change 35 = .ok (.invokestatic 31, 3) := by decide +kernel
theorem dX2_change_38 : decode cX2_change 38 = .ok (.dup2, 1) := by decide +kernel
theorem dX2_change_39 : decode cX2_change 39 = .ok (.laload, 1) := by decide +kernel
theorem dX2_change_40 : decode cX2_change 40 = .ok (.lconst 1, 1) := by decide +kernel
theorem dX2_change_41 : decode cX2_change 41 = .ok (.iload_n 1, 1) := by decide +kernel
theorem dX2_change_42 : decode cX2_change 42 = .ok (.lshl, 1) := by decide +kernel
theorem dX2_change_43 : decode cX2_change 43 = .ok (.lor, 1) := by decide +kernel
theorem dX2_change_44 : decode cX2_change 44 = .ok (.lastore, 1) := by decide +kernel
theorem dX2_change_45 : decode cX2_change 45 = .ok (.iload 4, 2) := by decide +kernel
theorem dX2_change_47 : decode cX2_change 47 = .ok (.ireturn, 1) := by decide +kernel
set_option maxRecDepth 20000 in
theorem ggX2_sortAt_X2_withSort : GoodIn wsX2_sortAt wsX2_withSort := goodIn_r _ [5, 6, 7, 8, 9, 10, 11, 12, 13] (by decide +kernel) (by decide +kernel)
set_option maxRecDepth 20000 in
theorem gX2_sortAt_X2_withSort : GoodIn wsX2_sortAt (wsV RX2 40 RX2 yX2_withSort wsX2_withSort) := goodIn_app (goodIn_of _ (by decide +kernel)) ggX2_sortAt_X2_withSort
theorem dX2_sortAt_0 : decode cX2_sortAt 0 = .ok (.iconst 0, 1) := by decide +kernel
theorem dX2_sortAt_1 : decode cX2_sortAt 1 = .ok (.istore_n 3, 1) := by decide +kernel
theorem dX2_sortAt_2 : decode cX2_sortAt 2 = .ok (.iload_n 3, 1) := by decide +kernel
theorem dX2_sortAt_3 : decode cX2_sortAt 3 = .ok (.bipush 10, 2) := by decide +kernel
theorem dX2_sortAt_5 : decode cX2_sortAt 5 = .ok (.if_icmp .ge 26, 3) := by decide +kernel
theorem dX2_sortAt_8 : decode cX2_sortAt 8 = .ok (.aload_n 0, 1) := by decide +kernel
theorem dX2_sortAt_9 : decode cX2_sortAt 9 = .ok (.iload_n 2, 1) := by decide +kernel
theorem dX2_sortAt_10 : decode cX2_sortAt 10 = .ok (.iload_n 3, 1) := by decide +kernel
theorem dX2_sortAt_11 : decode cX2_sortAt 11 = .ok (.invokevirtual 40, 3) := by decide +kernel
theorem dX2_sortAt_14 : decode cX2_sortAt 14 = .ok (.lconst 1, 1) := by decide +kernel
theorem dX2_sortAt_15 : decode cX2_sortAt 15 = .ok (.iload_n 1, 1) := by decide +kernel
theorem dX2_sortAt_16 : decode cX2_sortAt 16 = .ok (.lshl, 1) := by decide +kernel
theorem dX2_sortAt_17 : decode cX2_sortAt 17 = .ok (.land, 1) := by decide +kernel
theorem dX2_sortAt_18 : decode cX2_sortAt 18 = .ok (.lconst 0, 1) := by decide +kernel
theorem dX2_sortAt_19 : decode cX2_sortAt 19 = .ok (.lcmp, 1) := by decide +kernel
theorem dX2_sortAt_20 : decode cX2_sortAt 20 = .ok (.ifCond .eq 5, 3) := by decide +kernel
theorem dX2_sortAt_23 : decode cX2_sortAt 23 = .ok (.iload_n 3, 1) := by decide +kernel
theorem dX2_sortAt_24 : decode cX2_sortAt 24 = .ok (.ireturn, 1) := by decide +kernel
theorem dX2_sortAt_25 : decode cX2_sortAt 25 = .ok (.iinc 3 1, 3) := by decide +kernel
theorem dX2_sortAt_28 : decode cX2_sortAt 28 = .ok (.goto (-26), 3) := by decide +kernel
theorem dX2_sortAt_31 : decode cX2_sortAt 31 = .ok (.bipush 10, 2) := by decide +kernel
theorem dX2_sortAt_33 : decode cX2_sortAt 33 = .ok (.ireturn, 1) := by decide +kernel
set_option maxRecDepth 20000 in
theorem ggX2_withSort_X4_conditionOf : GoodIn wsX2_withSort wsX4_conditionOf := goodIn_r _ [4] (by decide +kernel) (by decide +kernel)
set_option maxRecDepth 20000 in
theorem gX2_withSort_X4_conditionOf_n31 : GoodIn wsX2_withSort (wsX4_conditionOf) := ggX2_withSort_X4_conditionOf
theorem dX2_withSort_0 : decode cX2_withSort 0 = .ok (.aload_n 0, 1) := by decide +kernel
theorem dX2_withSort_1 : decode cX2_withSort 1 = .ok (.getfield 23, 3) := by decide +kernel
theorem dX2_withSort_4 : decode cX2_withSort 4 = .ok (.iload_n 1, 1) := by decide +kernel
theorem dX2_withSort_5 : decode cX2_withSort 5 = .ok (.iload_n 2, 1) := by decide +kernel
theorem dX2_withSort_6 : decode cX2_withSort 6 = .ok (.invokestatic 31, 3) := by decide +kernel
theorem dX2_withSort_9 : decode cX2_withSort 9 = .ok (.laload, 1) := by decide +kernel
theorem dX2_withSort_10 : decode cX2_withSort 10 = .ok (.lreturn, 1) := by decide +kernel
theorem dX2_between_0 : decode cX2_between 0 = .ok (.lconst 0, 1) := by decide +kernel
theorem dX2_between_1 : decode cX2_between 1 = .ok (.lstore_n 3, 1) := by decide +kernel
theorem dX2_between_2 : decode cX2_between 2 = .ok (.iconst 0, 1) := by decide +kernel
theorem dX2_between_3 : decode cX2_between 3 = .ok (.istore 5, 2) := by decide +kernel
theorem dX2_between_5 : decode cX2_between 5 = .ok (.iload 5, 2) := by decide +kernel
theorem dX2_between_7 : decode cX2_between 7 = .ok (.aload_n 0, 1) := by decide +kernel
theorem dX2_between_8 : decode cX2_between 8 = .ok (.getfield 9, 3) := by decide +kernel
theorem dX2_between_11 : decode cX2_between 11 = .ok (.if_icmp .ge 38, 3) := by decide +kernel
theorem dX2_between_14 : decode cX2_between 14 = .ok (.aload_n 0, 1) := by decide +kernel
theorem dX2_between_15 : decode cX2_between 15 = .ok (.getfield 19, 3) := by decide +kernel
theorem dX2_between_18 : decode cX2_between 18 = .ok (.iload 5, 2) := by decide +kernel
theorem dX2_between_20 : decode cX2_between 20 = .ok (.iaload, 1) := by decide +kernel
theorem dX2_between_21 : decode cX2_between 21 = .ok (.iload_n 1, 1) := by decide +kernel
theorem dX2_between_22 : decode cX2_between 22 = .ok (.if_icmp .lt 21, 3) := by decide +kernel
theorem dX2_between_25 : decode cX2_between 25 = .ok (.aload_n 0, 1) := by decide +kernel
theorem dX2_between_26 : decode cX2_between 26 = .ok (.getfield 19, 3) := by decide +kernel
theorem dX2_between_29 : decode cX2_between 29 = .ok (.iload 5, 2) := by decide +kernel
theorem dX2_between_31 : decode cX2_between 31 = .ok (.iaload, 1) := by decide +kernel
theorem dX2_between_32 : decode cX2_between 32 = .ok (.iload_n 2, 1) := by decide +kernel
theorem dX2_between_33 : decode cX2_between 33 = .ok (.if_icmp .ge 10, 3) := by decide +kernel
theorem dX2_between_36 : decode cX2_between 36 = .ok (.lload_n 3, 1) := by decide +kernel
theorem dX2_between_37 : decode cX2_between 37 = .ok (.lconst 1, 1) := by decide +kernel
theorem dX2_between_38 : decode cX2_between 38 = .ok (.iload 5, 2) := by decide +kernel
theorem dX2_between_40 : decode cX2_between 40 = .ok (.lshl, 1) := by decide +kernel
theorem dX2_between_41 : decode cX2_between 41 = .ok (.lor, 1) := by decide +kernel
theorem dX2_between_42 : decode cX2_between 42 = .ok (.lstore_n 3, 1) := by decide +kernel
theorem dX2_between_43 : decode cX2_between 43 = .ok (.iinc 5 1, 3) := by decide +kernel
theorem dX2_between_46 : decode cX2_between 46 = .ok (.goto (-41), 3) := by decide +kernel
theorem dX2_between_49 : decode cX2_between 49 = .ok (.lload_n 3, 1) := by decide +kernel
theorem dX2_between_50 : decode cX2_between 50 = .ok (.lreturn, 1) := by decide +kernel
set_option maxRecDepth 20000 in
theorem ggX2_lackingSome_X2_withSort : GoodIn wsX2_lackingSome wsX2_withSort := goodIn_r _ [5, 6, 7, 8, 9, 10, 11, 12, 13] (by decide +kernel) (by decide +kernel)
set_option maxRecDepth 20000 in
theorem gX2_lackingSome_X2_withSort : GoodIn wsX2_lackingSome (wsV RX2 40 RX2 yX2_withSort wsX2_withSort) := goodIn_app (goodIn_of _ (by decide +kernel)) ggX2_lackingSome_X2_withSort
theorem dX2_lackingSome_0 : decode cX2_lackingSome 0 = .ok (.lconst 0, 1) := by decide +kernel
theorem dX2_lackingSome_1 : decode cX2_lackingSome 1 = .ok (.lstore_n 1, 1) := by decide +kernel
theorem dX2_lackingSome_2 : decode cX2_lackingSome 2 = .ok (.iconst 0, 1) := by decide +kernel
theorem dX2_lackingSome_3 : decode cX2_lackingSome 3 = .ok (.istore_n 3, 1) := by decide +kernel
theorem dX2_lackingSome_4 : decode cX2_lackingSome 4 = .ok (.iload_n 3, 1) := by decide +kernel
theorem dX2_lackingSome_5 : decode cX2_lackingSome 5 = .ok (.iconst 5, 1) := by decide +kernel
theorem dX2_lackingSome_6 : decode cX2_lackingSome 6 = .ok (.if_icmp .ge 19, 3) := by decide +kernel
theorem dX2_lackingSome_9 : decode cX2_lackingSome 9 = .ok (.lload_n 1, 1) := by decide +kernel
theorem dX2_lackingSome_10 : decode cX2_lackingSome 10 = .ok (.aload_n 0, 1) := by decide +kernel
theorem dX2_lackingSome_11 : decode cX2_lackingSome 11 = .ok (.iload_n 3, 1) := by decide +kernel
theorem dX2_lackingSome_12 : decode cX2_lackingSome 12 = .ok (.bipush 10, 2) := by decide +kernel
theorem dX2_lackingSome_14 : decode cX2_lackingSome 14 = .ok (.invokevirtual 40, 3) := by decide +kernel
theorem dX2_lackingSome_17 : decode cX2_lackingSome 17 = .ok (.lor, 1) := by decide +kernel
theorem dX2_lackingSome_18 : decode cX2_lackingSome 18 = .ok (.lstore_n 1, 1) := by decide +kernel
theorem dX2_lackingSome_19 : decode cX2_lackingSome 19 = .ok (.iinc 3 1, 3) := by decide +kernel
theorem dX2_lackingSome_22 : decode cX2_lackingSome 22 = .ok (.goto (-18), 3) := by decide +kernel
theorem dX2_lackingSome_25 : decode cX2_lackingSome 25 = .ok (.lload_n 1, 1) := by decide +kernel
theorem dX2_lackingSome_26 : decode cX2_lackingSome 26 = .ok (.lreturn, 1) := by decide +kernel
set_option maxRecDepth 20000 in
theorem ggX2_driftAbove_J13_bitCount_95d88 : GoodIn wsX2_driftAbove wsJ13_bitCount_95d88 := goodIn_r _ [8, 9, 10, 11] (by decide +kernel) (by decide +kernel)
set_option maxRecDepth 20000 in
theorem gX2_driftAbove_J13_bitCount_95d88 : GoodIn wsX2_driftAbove (va_wsS RX2 44 yJ13_bitCount_95d88 wsJ13_bitCount_95d88) := goodIn_app (goodIn_of _ (by decide +kernel)) ggX2_driftAbove_J13_bitCount_95d88
set_option maxRecDepth 20000 in
theorem ggX2_driftAbove_X2_withSort : GoodIn wsX2_driftAbove wsX2_withSort := goodIn_r _ [16, 17, 18, 19, 20, 21, 22, 23, 24] (by decide +kernel) (by decide +kernel)
set_option maxRecDepth 20000 in
theorem gX2_driftAbove_X2_withSort : GoodIn wsX2_driftAbove (wsV RX2 40 RX2 yX2_withSort wsX2_withSort) := goodIn_app (goodIn_of _ (by decide +kernel)) ggX2_driftAbove_X2_withSort
theorem dX2_driftAbove_0 : decode cX2_driftAbove 0 = .ok (.lload_n 2, 1) := by decide +kernel
theorem dX2_driftAbove_1 : decode cX2_driftAbove 1 = .ok (.invokestatic 44, 3) := by decide +kernel
theorem dX2_driftAbove_4 : decode cX2_driftAbove 4 = .ok (.istore 6, 2) := by decide +kernel
theorem dX2_driftAbove_6 : decode cX2_driftAbove 6 = .ok (.lload 4, 2) := by decide +kernel
theorem dX2_driftAbove_8 : decode cX2_driftAbove 8 = .ok (.invokestatic 44, 3) := by decide +kernel
theorem dX2_driftAbove_11 : decode cX2_driftAbove 11 = .ok (.istore 7, 2) := by decide +kernel
theorem dX2_driftAbove_13 : decode cX2_driftAbove 13 = .ok (.iconst 0, 1) := by decide +kernel
theorem dX2_driftAbove_14 : decode cX2_driftAbove 14 = .ok (.istore 8, 2) := by decide +kernel
theorem dX2_driftAbove_16 : decode cX2_driftAbove 16 = .ok (.iconst 0, 1) := by decide +kernel
theorem dX2_driftAbove_17 : decode cX2_driftAbove 17 = .ok (.istore 9, 2) := by decide +kernel
theorem dX2_driftAbove_19 : decode cX2_driftAbove 19 = .ok (.iload 9, 2) := by decide +kernel
theorem dX2_driftAbove_21 : decode cX2_driftAbove 21 = .ok (.bipush 11, 2) := by decide +kernel
theorem dX2_driftAbove_23 : decode cX2_driftAbove 23 = .ok (.if_icmp .ge 48, 3) := by decide +kernel
theorem dX2_driftAbove_26 : decode cX2_driftAbove 26 = .ok (.aload_n 0, 1) := by decide +kernel
theorem dX2_driftAbove_27 : decode cX2_driftAbove 27 = .ok (.iload_n 1, 1) := by decide +kernel
theorem dX2_driftAbove_28 : decode cX2_driftAbove 28 = .ok (.iload 9, 2) := by decide +kernel
theorem dX2_driftAbove_30 : decode cX2_driftAbove 30 = .ok (.invokevirtual 40, 3) := by decide +kernel
theorem dX2_driftAbove_33 : decode cX2_driftAbove 33 = .ok (.lstore 10, 2) := by decide +kernel
theorem dX2_driftAbove_35 : decode cX2_driftAbove 35 = .ok (.iload 8, 2) := by decide +kernel
theorem dX2_driftAbove_37 : decode cX2_driftAbove 37 = .ok (.lload 10, 2) := by decide +kernel
theorem dX2_driftAbove_39 : decode cX2_driftAbove 39 = .ok (.lload_n 2, 1) := by decide +kernel
theorem dX2_driftAbove_40 : decode cX2_driftAbove 40 = .ok (.land, 1) := by decide +kernel
theorem dX2_driftAbove_41 : decode cX2_driftAbove 41 = .ok (.invokestatic 44, 3) := by decide +kernel
theorem dX2_driftAbove_44 : decode cX2_driftAbove 44 = .ok (.iload 7, 2) := by decide +kernel
theorem dX2_driftAbove_46 : decode cX2_driftAbove 46 = .ok (.imul, 1) := by decide +kernel
theorem dX2_driftAbove_47 : decode cX2_driftAbove 47 = .ok (.lload 10, 2) := by decide +kernel
theorem dX2_driftAbove_49 : decode cX2_driftAbove 49 = .ok (.lload 4, 2) := by decide +kernel
theorem dX2_driftAbove_51 : decode cX2_driftAbove 51 = .ok (.land, 1) := by decide +kernel
theorem dX2_driftAbove_52 : decode cX2_driftAbove 52 = .ok (.invokestatic 44, 3) := by decide +kernel
theorem dX2_driftAbove_55 : decode cX2_driftAbove 55 = .ok (.iload 6, 2) := by decide +kernel
theorem dX2_driftAbove_57 : decode cX2_driftAbove 57 = .ok (.imul, 1) := by decide +kernel
theorem dX2_driftAbove_58 : decode cX2_driftAbove 58 = .ok (.isub, 1) := by decide +kernel
theorem dX2_driftAbove_59 : decode cX2_driftAbove 59 = .ok (.invokestatic 50, 3) := by decide +kernel
theorem dX2_driftAbove_62 : decode cX2_driftAbove 62 = .ok (.iadd, 1) := by decide +kernel
theorem dX2_driftAbove_63 : decode cX2_driftAbove 63 = .ok (.istore 8, 2) := by decide +kernel
theorem dX2_driftAbove_65 : decode cX2_driftAbove 65 = .ok (.iinc 9 1, 3) := by decide +kernel
theorem dX2_driftAbove_68 : decode cX2_driftAbove 68 = .ok (.goto (-49), 3) := by decide +kernel
theorem dX2_driftAbove_71 : decode cX2_driftAbove 71 = .ok (.iload 8, 2) := by decide +kernel
theorem dX2_driftAbove_73 : decode cX2_driftAbove 73 = .ok (.ireturn, 1) := by decide +kernel
set_option maxRecDepth 20000 in
theorem ggX2_placeByDrift_X2_driftAbove : GoodIn wsX2_placeByDrift wsX2_driftAbove := goodIn_r _ [5, 6, 7, 8, 9, 10, 11, 12, 13, 14, 15, 16, 17, 18, 19, 4, 20, 21, 22, 23, 24, 25, 26, 27, 28] (by decide +kernel) (by decide +kernel)
set_option maxRecDepth 20000 in
theorem gX2_placeByDrift_X2_driftAbove : GoodIn wsX2_placeByDrift (wsV RX2 56 RX2 yX2_driftAbove wsX2_driftAbove) := goodIn_app (goodIn_of _ (by decide +kernel)) ggX2_placeByDrift_X2_driftAbove
theorem dX2_placeByDrift_0 : decode cX2_placeByDrift 0 = .ok (.aload_n 0, 1) := by decide +kernel
theorem dX2_placeByDrift_1 : decode cX2_placeByDrift 1 = .ok (.iload_n 1, 1) := by decide +kernel
theorem dX2_placeByDrift_2 : decode cX2_placeByDrift 2 = .ok (.lload_n 2, 1) := by decide +kernel
theorem dX2_placeByDrift_3 : decode cX2_placeByDrift 3 = .ok (.lload 4, 2) := by decide +kernel
theorem dX2_placeByDrift_5 : decode cX2_placeByDrift 5 = .ok (.invokevirtual 56, 3) := by decide +kernel
theorem dX2_placeByDrift_8 : decode cX2_placeByDrift 8 = .ok (.istore 6, 2) := by decide +kernel
theorem dX2_placeByDrift_10 : decode cX2_placeByDrift 10 = .ok (.iconst 0, 1) := by decide +kernel
theorem dX2_placeByDrift_11 : decode cX2_placeByDrift 11 = .ok (.istore 7, 2) := by decide +kernel
theorem dX2_placeByDrift_13 : decode cX2_placeByDrift 13 = .ok (.iconst 0, 1) := by decide +kernel
theorem dX2_placeByDrift_14 : decode cX2_placeByDrift 14 = .ok (.istore 8, 2) := by decide +kernel
theorem dX2_placeByDrift_16 : decode cX2_placeByDrift 16 = .ok (.iload 8, 2) := by decide +kernel
theorem dX2_placeByDrift_18 : decode cX2_placeByDrift 18 = .ok (.iconst 5, 1) := by decide +kernel
theorem dX2_placeByDrift_19 : decode cX2_placeByDrift 19 = .ok (.if_icmp .ge 43, 3) := by decide +kernel
theorem dX2_placeByDrift_22 : decode cX2_placeByDrift 22 = .ok (.aload_n 0, 1) := by decide +kernel
theorem dX2_placeByDrift_23 : decode cX2_placeByDrift 23 = .ok (.iload 8, 2) := by decide +kernel
theorem dX2_placeByDrift_25 : decode cX2_placeByDrift 25 = .ok (.lload_n 2, 1) := by decide +kernel
theorem dX2_placeByDrift_26 : decode cX2_placeByDrift 26 = .ok (.lload 4, 2) := by decide +kernel
theorem dX2_placeByDrift_28 : decode cX2_placeByDrift 28 = .ok (.invokevirtual 56, 3) := by decide +kernel
theorem dX2_placeByDrift_31 : decode cX2_placeByDrift 31 = .ok (.istore 9, 2) := by decide +kernel
theorem dX2_placeByDrift_33 : decode cX2_placeByDrift 33 = .ok (.iload 9, 2) := by decide +kernel
theorem dX2_placeByDrift_35 : decode cX2_placeByDrift 35 = .ok (.iload 6, 2) := by decide +kernel
theorem dX2_placeByDrift_37 : decode cX2_placeByDrift 37 = .ok (.if_icmp .gt 16, 3) := by decide +kernel
theorem dX2_placeByDrift_40 : decode cX2_placeByDrift 40 = .ok (.iload 9, 2) := by decide +kernel
theorem dX2_placeByDrift_42 : decode cX2_placeByDrift 42 = .ok (.iload 6, 2) := by decide +kernel
theorem dX2_placeByDrift_44 : decode cX2_placeByDrift 44 = .ok (.if_icmp .ne 12, 3) := by decide +kernel
theorem dX2_placeByDrift_47 : decode cX2_placeByDrift 47 = .ok (.iload 8, 2) := by decide +kernel
theorem dX2_placeByDrift_49 : decode cX2_placeByDrift 49 = .ok (.iload_n 1, 1) := by decide +kernel
theorem dX2_placeByDrift_50 : decode cX2_placeByDrift 50 = .ok (.if_icmp .ge 6, 3) := by decide +kernel
theorem dX2_placeByDrift_53 : decode cX2_placeByDrift 53 = .ok (.iinc 7 1, 3) := by decide +kernel
theorem dX2_placeByDrift_56 : decode cX2_placeByDrift 56 = .ok (.iinc 8 1, 3) := by decide +kernel
theorem dX2_placeByDrift_59 : decode cX2_placeByDrift 59 = .ok (.goto (-43), 3) := by decide +kernel
theorem dX2_placeByDrift_62 : decode cX2_placeByDrift 62 = .ok (.iload 7, 2) := by decide +kernel
theorem dX2_placeByDrift_64 : decode cX2_placeByDrift 64 = .ok (.ireturn, 1) := by decide +kernel
theorem dX3_init_0 : decode cX3_init 0 = .ok (.aload_n 0, 1) := by decide +kernel
theorem dX3_init_1 : decode cX3_init 1 = .ok (.invokespecial 3, 3) := by decide +kernel
theorem dX3_init_4 : decode cX3_init 4 = .ok (.aload_n 0, 1) := by decide +kernel
theorem dX3_init_5 : decode cX3_init 5 = .ok (.iconst 0, 1) := by decide +kernel
theorem dX3_init_6 : decode cX3_init 6 = .ok (.putfield 9, 3) := by decide +kernel
theorem dX3_init_9 : decode cX3_init 9 = .ok (.aload_n 0, 1) := by decide +kernel
theorem dX3_init_10 : decode cX3_init 10 = .ok (.lconst 0, 1) := by decide +kernel
theorem dX3_init_11 : decode cX3_init 11 = .ok (.putfield 15, 3) := by decide +kernel
theorem dX3_init_14 : decode cX3_init 14 = .ok (.aload_n 0, 1) := by decide +kernel
theorem dX3_init_15 : decode cX3_init 15 = .ok (.sipush 535, 3) := by decide +kernel
theorem dX3_init_18 : decode cX3_init 18 = .ok (.newarray .long, 2) := by decide +kernel
theorem dX3_init_20 : decode cX3_init 20 = .ok (.putfield 19, 3) := by decide +kernel
theorem dX3_init_23 : decode cX3_init 23 = .ok (.aload_n 0, 1) := by decide +kernel
theorem dX3_init_24 : decode cX3_init 24 = .ok (.sipush 535, 3) := by decide +kernel
theorem dX3_init_27 : decode cX3_init 27 = .ok (.newarray .int, 2) := by decide +kernel
theorem dX3_init_29 : decode cX3_init 29 = .ok (.putfield 23, 3) := by decide +kernel
theorem dX3_init_32 : decode cX3_init 32 = .ok (.aload_n 0, 1) := by decide +kernel
theorem dX3_init_33 : decode cX3_init 33 = .ok (.sipush 535, 3) := by decide +kernel
theorem dX3_init_36 : decode cX3_init 36 = .ok (.newarray .int, 2) := by decide +kernel
theorem dX3_init_38 : decode cX3_init 38 = .ok (.putfield 27, 3) := by decide +kernel
theorem dX3_init_41 : decode cX3_init 41 = .ok (.return_, 1) := by decide +kernel
set_option maxRecDepth 20000 in
theorem ggX3_has_X4_isWithin : GoodIn wsX3_has wsX4_isWithin := goodIn_r _ [4] (by decide +kernel) (by decide +kernel)
set_option maxRecDepth 20000 in
theorem gX3_has_X4_isWithin_n30 : GoodIn wsX3_has (wsX4_isWithin) := ggX3_has_X4_isWithin
theorem dX3_has_0 : decode cX3_has 0 = .ok (.iload_n 1, 1) := by decide +kernel
theorem dX3_has_1 : decode cX3_has 1 = .ok (.iconst 0, 1) := by decide +kernel
theorem dX3_has_2 : decode cX3_has 2 = .ok (.aload_n 0, 1) := by decide +kernel
theorem dX3_has_3 : decode cX3_has 3 = .ok (.getfield 9, 3) := by decide +kernel
theorem dX3_has_6 : decode cX3_has 6 = .ok (.iconst 1, 1) := by decide +kernel
theorem dX3_has_7 : decode cX3_has 7 = .ok (.isub, 1) := by decide +kernel
theorem dX3_has_8 : decode cX3_has 8 = .ok (.invokestatic 30, 3) := by decide +kernel
theorem dX3_has_11 : decode cX3_has 11 = .ok (.ireturn, 1) := by decide +kernel
set_option maxRecDepth 20000 in
theorem ggX3_make_J13_bitCount_95d88 : GoodIn wsX3_make wsJ13_bitCount_95d88 := goodIn_r _ [6, 7, 8, 9] (by decide +kernel) (by decide +kernel)
set_option maxRecDepth 20000 in
theorem gX3_make_J13_bitCount_95d88 : GoodIn wsX3_make (va_wsS RX3 40 yJ13_bitCount_95d88 wsJ13_bitCount_95d88) := goodIn_app (goodIn_of _ (by decide +kernel)) ggX3_make_J13_bitCount_95d88
set_option maxRecDepth 20000 in
theorem ggX3_make_X3_insert : GoodIn wsX3_make wsX3_insert := goodIn_r _ [14, 1, 15, 16, 17, 18, 19, 20, 21, 22, 23, 24, 13, 25, 26, 27, 28, 29, 2, 3, 4, 5, 6, 7, 8, 9, 30, 31, 32, 33, 34, 43, 44, 45, 46, 47] (by decide +kernel) (by decide +kernel)
set_option maxRecDepth 20000 in
theorem gX3_make_X3_insert : GoodIn wsX3_make (wsV RX3 46 RX3 yX3_insert wsX3_insert) := goodIn_app (goodIn_of _ (by decide +kernel)) ggX3_make_X3_insert
set_option maxRecDepth 20000 in
theorem ggX3_make_X3_insertPairs : GoodIn wsX3_make wsX3_insertPairs := goodIn_r _ [38, 39, 31, 40, 41, 42, 3, 4, 5, 6, 7, 8, 9, 10, 11, 12, 13, 14, 1, 15, 16, 17, 18, 19, 20, 21, 22, 23, 24, 25, 26, 27, 28, 29, 2, 30, 32, 33, 34, 48, 49, 50, 51, 43, 44, 45, 46, 47] (by decide +kernel) (by decide +kernel)
set_option maxRecDepth 20000 in
theorem gX3_make_X3_insertPairs : GoodIn wsX3_make (wsV RX3 50 RX3 yX3_insertPairs wsX3_insertPairs) := goodIn_app (goodIn_of _ (by decide +kernel)) ggX3_make_X3_insertPairs
theorem dX3_make_0 : decode cX3_make 0 = .ok (.aload_n 0, 1) := by decide +kernel
theorem dX3_make_1 : decode cX3_make 1 = .ok (.iconst 0, 1) := by decide +kernel
theorem dX3_make_2 : decode cX3_make 2 = .ok (.putfield 9, 3) := by decide +kernel
theorem dX3_make_5 : decode cX3_make 5 = .ok (.aload_n 0, 1) := by decide +kernel
theorem dX3_make_6 : decode cX3_make 6 = .ok (.aload_n 1, 1) := by decide +kernel
theorem dX3_make_7 : decode cX3_make 7 = .ok (.getfield 34, 3) := by decide +kernel
theorem dX3_make_10 : decode cX3_make 10 = .ok (.putfield 15, 3) := by decide +kernel
theorem dX3_make_13 : decode cX3_make 13 = .ok (.iconst 0, 1) := by decide +kernel
theorem dX3_make_14 : decode cX3_make 14 = .ok (.istore 4, 2) := by decide +kernel
theorem dX3_make_16 : decode cX3_make 16 = .ok (.iload 4, 2) := by decide +kernel
theorem dX3_make_18 : decode cX3_make 18 = .ok (.bipush 55, 2) := by decide +kernel
theorem dX3_make_20 : decode cX3_make 20 = .ok (.if_icmp .ge 48, 3) := by decide +kernel
theorem dX3_make_23 : decode cX3_make 23 = .ok (.aload_n 1, 1) := by decide +kernel
theorem dX3_make_24 : decode cX3_make 24 = .ok (.getfield 37, 3) := by decide +kernel
theorem dX3_make_27 : decode cX3_make 27 = .ok (.iload 4, 2) := by decide +kernel
theorem dX3_make_29 : decode cX3_make 29 = .ok (.laload, 1) := by decide +kernel
theorem dX3_make_30 : decode cX3_make 30 = .ok (.lstore 5, 2) := by decide +kernel
theorem dX3_make_32 : decode cX3_make 32 = .ok (.lload 5, 2) := by decide +kernel
theorem dX3_make_34 : decode cX3_make 34 = .ok (.invokestatic 40, 3) := by decide +kernel
theorem dX3_make_37 : decode cX3_make 37 = .ok (.iload_n 2, 1) := by decide +kernel
theorem dX3_make_38 : decode cX3_make 38 = .ok (.if_icmp .lt 24, 3) := by decide +kernel
theorem dX3_make_41 : decode cX3_make 41 = .ok (.aload_n 0, 1) := by decide +kernel
theorem dX3_make_42 : decode cX3_make 42 = .ok (.lload 5, 2) := by decide +kernel
theorem dX3_make_44 : decode cX3_make 44 = .ok (.iload 4, 2) := by decide +kernel
theorem dX3_make_46 : decode cX3_make 46 = .ok (.iconst (-1), 1) := by decide +kernel
theorem dX3_make_47 : decode cX3_make 47 = .ok (.invokevirtual 46, 3) := by decide +kernel
theorem dX3_make_50 : decode cX3_make 50 = .ok (.iload_n 3, 1) := by decide +kernel
theorem dX3_make_51 : decode cX3_make 51 = .ok (.ifCond .eq 11, 3) := by decide +kernel
theorem dX3_make_54 : decode cX3_make 54 = .ok (.aload_n 0, 1) := by decide +kernel
theorem dX3_make_55 : decode cX3_make 55 = .ok (.aload_n 1, 1) := by decide +kernel
theorem dX3_make_56 : decode cX3_make 56 = .ok (.iload_n 2, 1) := by decide +kernel
theorem dX3_make_57 : decode cX3_make 57 = .ok (.iload 4, 2) := by decide +kernel
theorem dX3_make_59 : decode cX3_make 59 = .ok (.invokevirtual 50, 3) := by decide +kernel
theorem dX3_make_62 : decode cX3_make 62 = .ok (.iinc 4 1, 3) := by decide +kernel
theorem dX3_make_65 : decode cX3_make 65 = .ok (.goto (-49), 3) := by decide +kernel
theorem dX3_make_68 : decode cX3_make 68 = .ok (.return_, 1) := by decide +kernel
set_option maxRecDepth 20000 in
theorem ggX3_insertPairs_X4_columnOf : GoodIn wsX3_insertPairs wsX4_columnOf := goodIn_r _ [3] (by decide +kernel) (by decide +kernel)
set_option maxRecDepth 20000 in
theorem gX3_insertPairs_X4_columnOf_n54 : GoodIn wsX3_insertPairs (wsX4_columnOf) := ggX3_insertPairs_X4_columnOf
set_option maxRecDepth 20000 in
theorem ggX3_insertPairs_X4_conditionOf : GoodIn wsX3_insertPairs wsX4_conditionOf := goodIn_r _ [5] (by decide +kernel) (by decide +kernel)
set_option maxRecDepth 20000 in
theorem gX3_insertPairs_X4_conditionOf_n58 : GoodIn wsX3_insertPairs (wsX4_conditionOf) := ggX3_insertPairs_X4_conditionOf
set_option maxRecDepth 20000 in
theorem ggX3_insertPairs_J13_bitCount_95d88 : GoodIn wsX3_insertPairs wsJ13_bitCount_95d88 := goodIn_r _ [9, 10, 11, 12] (by decide +kernel) (by decide +kernel)
set_option maxRecDepth 20000 in
theorem gX3_insertPairs_J13_bitCount_95d88 : GoodIn wsX3_insertPairs (va_wsS RX3 40 yJ13_bitCount_95d88 wsJ13_bitCount_95d88) := goodIn_app (goodIn_of _ (by decide +kernel)) ggX3_insertPairs_J13_bitCount_95d88
set_option maxRecDepth 20000 in
theorem ggX3_insertPairs_X3_insert : GoodIn wsX3_insertPairs wsX3_insert := goodIn_r _ [17, 18, 19, 20, 21, 22, 23, 24, 25, 26, 27, 28, 16, 29, 30, 31, 32, 33, 34, 6, 7, 8, 9, 10, 11, 12, 35, 2, 36, 37, 38, 43, 44, 45, 46, 47] (by decide +kernel) (by decide +kernel)
set_option maxRecDepth 20000 in
theorem gX3_insertPairs_X3_insert : GoodIn wsX3_insertPairs (wsV RX3 46 RX3 yX3_insert wsX3_insert) := goodIn_app (goodIn_of _ (by decide +kernel)) ggX3_insertPairs_X3_insert
theorem dX3_insertPairs_0 : decode cX3_insertPairs 0 = .ok (.aload_n 1, 1) := by decide +kernel
theorem dX3_insertPairs_1 : decode cX3_insertPairs 1 = .ok (.getfield 37, 3) := by decide +kernel
theorem dX3_insertPairs_4 : decode cX3_insertPairs 4 = .ok (.iload_n 3, 1) := by decide +kernel
theorem dX3_insertPairs_5 : decode cX3_insertPairs 5 = .ok (.laload, 1) := by decide +kernel
theorem dX3_insertPairs_6 : decode cX3_insertPairs 6 = .ok (.lstore 4, 2) := by decide +kernel
theorem dX3_insertPairs_8 : decode cX3_insertPairs 8 = .ok (.iload_n 3, 1) := by decide +kernel
theorem dX3_insertPairs_9 : decode cX3_insertPairs 9 = .ok (.invokestatic 54, 3) := by decide +kernel
theorem dX3_insertPairs_12 : decode cX3_insertPairs 12 = .ok (.iconst 1, 1) := by decide +kernel
theorem dX3_insertPairs_13 : decode cX3_insertPairs 13 = .ok (.iadd, 1) := by decide +kernel
theorem dX3_insertPairs_14 : decode cX3_insertPairs 14 = .ok (.iconst 0, 1) := by decide +kernel
theorem dX3_insertPairs_15 : decode cX3_insertPairs 15 = .ok (.invokestatic 58, 3) := by decide +kernel
theorem dX3_insertPairs_18 : decode cX3_insertPairs 18 = .ok (.istore 6, 2) := by decide +kernel
theorem dX3_insertPairs_20 : decode cX3_insertPairs 20 = .ok (.iload 6, 2) := by decide +kernel
theorem dX3_insertPairs_22 : decode cX3_insertPairs 22 = .ok (.bipush 55, 2) := by decide +kernel
theorem dX3_insertPairs_24 : decode cX3_insertPairs 24 = .ok (.if_icmp .ge 59, 3) := by decide +kernel
theorem dX3_insertPairs_27 : decode cX3_insertPairs 27 = .ok (.aload_n 1, 1) := by decide +kernel
theorem dX3_insertPairs_28 : decode cX3_insertPairs 28 = .ok (.getfield 37, 3) := by decide +kernel
theorem dX3_insertPairs_31 : decode cX3_insertPairs 31 = .ok (.iload 6, 2) := by decide +kernel
theorem dX3_insertPairs_33 : decode cX3_insertPairs 33 = .ok (.laload, 1) := by decide +kernel
theorem dX3_insertPairs_34 : decode cX3_insertPairs 34 = .ok (.lstore 7, 2) := by decide +kernel
theorem dX3_insertPairs_36 : decode cX3_insertPairs 36 = .ok (.lload 4, 2) := by decide +kernel
theorem dX3_insertPairs_38 : decode cX3_insertPairs 38 = .ok (.lload 7, 2) := by decide +kernel
theorem dX3_insertPairs_40 : decode cX3_insertPairs 40 = .ok (.land, 1) := by decide +kernel
theorem dX3_insertPairs_41 : decode cX3_insertPairs 41 = .ok (.lstore 9, 2) := by decide +kernel
theorem dX3_insertPairs_43 : decode cX3_insertPairs 43 = .ok (.lload 9, 2) := by decide +kernel
theorem dX3_insertPairs_45 : decode cX3_insertPairs 45 = .ok (.invokestatic 40, 3) := by decide +kernel
theorem dX3_insertPairs_48 : decode cX3_insertPairs 48 = .ok (.iload_n 2, 1) := by decide +kernel
theorem dX3_insertPairs_49 : decode cX3_insertPairs 49 = .ok (.if_icmp .lt 28, 3) := by decide +kernel
theorem dX3_insertPairs_52 : decode cX3_insertPairs 52 = .ok (.lload 9, 2) := by decide +kernel
theorem dX3_insertPairs_54 : decode cX3_insertPairs 54 = .ok (.lload 4, 2) := by decide +kernel
theorem dX3_insertPairs_56 : decode cX3_insertPairs 56 = .ok (.lcmp, 1) := by decide +kernel
theorem dX3_insertPairs_57 : decode cX3_insertPairs 57 = .ok (.ifCond .eq 20, 3) := by decide +kernel
theorem dX3_insertPairs_60 : decode cX3_insertPairs 60 = .ok (.lload 9, 2) := by decide +kernel
theorem dX3_insertPairs_62 : decode cX3_insertPairs 62 = .ok (.lload 7, 2) := by decide +kernel
theorem dX3_insertPairs_64 : decode cX3_insertPairs 64 = .ok (.lcmp, 1) := by decide +kernel
theorem dX3_insertPairs_65 : decode cX3_insertPairs 65 = .ok (.ifCond .eq 12, 3) := by decide +kernel
theorem dX3_insertPairs_68 : decode cX3_insertPairs 68 = .ok (.aload_n 0, 1) := by decide +kernel
theorem dX3_insertPairs_69 : decode cX3_insertPairs 69 = .ok (.lload 9, 2) := by decide +kernel
theorem dX3_insertPairs_71 : decode cX3_insertPairs 71 = .ok (.iload_n 3, 1) := by decide +kernel
theorem dX3_insertPairs_72 : decode cX3_insertPairs 72 = .ok (.iload 6, 2) := by decide +kernel
theorem dX3_insertPairs_74 : decode cX3_insertPairs 74 = .ok (.invokevirtual 46, 3) := by decide +kernel
theorem dX3_insertPairs_77 : decode cX3_insertPairs 77 = .ok (.iinc 6 1, 3) := by decide +kernel
theorem dX3_insertPairs_80 : decode cX3_insertPairs 80 = .ok (.goto (-60), 3) := by decide +kernel
theorem dX3_insertPairs_83 : decode cX3_insertPairs 83 = .ok (.return_, 1) := by decide +kernel
set_option maxRecDepth 20000 in
theorem ggX3_insert_X3_placeFor : GoodIn wsX3_insert wsX3_placeFor := goodIn_r _ [13, 1, 2, 14, 15, 16, 12, 17, 18, 19, 20, 21, 22, 23, 24, 25, 26, 27, 28, 29, 30, 31, 32, 33, 34, 35] (by decide +kernel) (by decide +kernel)
set_option maxRecDepth 20000 in
theorem gX3_insert_X3_placeFor : GoodIn wsX3_insert (wsV RX3 62 RX3 yX3_placeFor wsX3_placeFor) := goodIn_app (goodIn_of _ (by decide +kernel)) ggX3_insert_X3_placeFor
theorem dX3_insert_0 : decode cX3_insert 0 = .ok (.aload_n 0, 1) := by decide +kernel
theorem dX3_insert_1 : decode cX3_insert 1 = .ok (.getfield 9, 3) := by decide +kernel
theorem dX3_insert_4 : decode cX3_insert 4 = .ok (.sipush 535, 3) := by decide +kernel
theorem dX3_insert_7 : decode cX3_insert 7 = .ok (.if_icmp .lt 4, 3) := by decide +kernel
theorem dX3_insert_10 : decode cX3_insert 10 = .ok (.return_, 1) := by decide +kernel
theorem dX3_insert_11 : decode cX3_insert 11 = .ok (.aload_n 0, 1) := by decide +kernel
theorem dX3_insert_12 : decode cX3_insert 12 = .ok (.lload_n 1, 1) := by decide +kernel
theorem dX3_insert_13 : decode cX3_insert 13 = .ok (.invokevirtual 62, 3) := by decide +kernel
theorem dX3_insert_16 : decode cX3_insert 16 = .ok (.istore 5, 2) := by decide +kernel
theorem dX3_insert_18 : decode cX3_insert 18 = .ok (.aload_n 0, 1) := by decide +kernel
theorem dX3_insert_19 : decode cX3_insert 19 = .ok (.getfield 19, 3) := by decide +kernel
theorem dX3_insert_22 : decode cX3_insert 22 = .ok (.iload 5, 2) := by decide +kernel
theorem dX3_insert_24 : decode cX3_insert 24 = .ok (.aload_n 0, 1) := by decide +kernel
theorem dX3_insert_25 : decode cX3_insert 25 = .ok (.getfield 19, 3) := by decide +kernel
theorem dX3_insert_28 : decode cX3_insert 28 = .ok (.iload 5, 2) := by decide +kernel
end
section
theorem dX3_insert_30 : decode cX3_insert 30 = .ok (.iconst 1, 1) := by decide +kernel
theorem dX3_insert_31 : decode cX3_insert 31 = .ok (.iadd, 1) := by decide +kernel
theorem dX3_insert_32 : decode cX3_insert 32 = .ok (.aload_n 0, 1) := by decide +kernel
theorem dX3_insert_33 : decode cX3_insert 33 = .ok (.getfield 9, 3) := by decide +kernel
theorem dX3_insert_36 : decode cX3_insert 36 = .ok (.iload 5, 2) := by decide +kernel
theorem dX3_insert_38 : decode cX3_insert 38 = .ok (.isub, 1) := by decide +kernel
theorem dX3_insert_39 : decode cX3_insert 39 = .ok (.invokestatic 65, 3) := by decide +kernel
theorem dX3_insert_42 : decode cX3_insert 42 = .ok (.aload_n 0, 1) := by decide +kernel
theorem dX3_insert_43 : decode cX3_insert 43 = .ok (.getfield 23, 3) := by decide +kernel
theorem dX3_insert_46 : decode cX3_insert 46 = .ok (.iload 5, 2) := by decide +kernel
theorem dX3_insert_48 : decode cX3_insert 48 = .ok (.aload_n 0, 1) := by decide +kernel
theorem dX3_insert_49 : decode cX3_insert 49 = .ok (.getfield 23, 3) := by decide +kernel
theorem dX3_insert_52 : decode cX3_insert 52 = .ok (.iload 5, 2) := by decide +kernel
theorem dX3_insert_54 : decode cX3_insert 54 = .ok (.iconst 1, 1) := by decide +kernel
theorem dX3_insert_55 : decode cX3_insert 55 = .ok (.iadd, 1) := by decide +kernel
theorem dX3_insert_56 : decode cX3_insert 56 = .ok (.aload_n 0, 1) := by decide +kernel
theorem dX3_insert_57 : decode cX3_insert 57 = .ok (.getfield 9, 3) := by decide +kernel
theorem dX3_insert_60 : decode cX3_insert 60 = .ok (.iload 5, 2) := by decide +kernel
theorem dX3_insert_62 : decode cX3_insert 62 = .ok (.isub, 1) := by decide +kernel
theorem dX3_insert_63 : decode cX3_insert 63 = .ok (.invokestatic 65, 3) := by decide +kernel
theorem dX3_insert_66 : decode cX3_insert 66 = .ok (.aload_n 0, 1) := by decide +kernel
theorem dX3_insert_67 : decode cX3_insert 67 = .ok (.getfield 27, 3) := by decide +kernel
theorem dX3_insert_70 : decode cX3_insert 70 = .ok (.iload 5, 2) := by decide +kernel
theorem dX3_insert_72 : decode cX3_insert 72 = .ok (.aload_n 0, 1) := by decide +kernel
theorem dX3_insert_73 : decode cX3_insert 73 = .ok (.getfield 27, 3) := by decide +kernel
theorem dX3_insert_76 : decode cX3_insert 76 = .ok (.iload 5, 2) := by decide +kernel
theorem dX3_insert_78 : decode cX3_insert 78 = .ok (.iconst 1, 1) := by decide +kernel
theorem dX3_insert_79 : decode cX3_insert 79 = .ok (.iadd, 1) := by decide +kernel
theorem dX3_insert_80 : decode cX3_insert 80 = .ok (.aload_n 0, 1) := by decide +kernel
theorem dX3_insert_81 : decode cX3_insert 81 = .ok (.getfield 9, 3) := by decide +kernel
theorem dX3_insert_84 : decode cX3_insert 84 = .ok (.iload 5, 2) := by decide +kernel
theorem dX3_insert_86 : decode cX3_insert 86 = .ok (.isub, 1) := by decide +kernel
theorem dX3_insert_87 : decode cX3_insert 87 = .ok (.invokestatic 65, 3) := by decide +kernel
theorem dX3_insert_90 : decode cX3_insert 90 = .ok (.aload_n 0, 1) := by decide +kernel
theorem dX3_insert_91 : decode cX3_insert 91 = .ok (.getfield 19, 3) := by decide +kernel
theorem dX3_insert_94 : decode cX3_insert 94 = .ok (.iload 5, 2) := by decide +kernel
theorem dX3_insert_96 : decode cX3_insert 96 = .ok (.lload_n 1, 1) := by decide +kernel
theorem dX3_insert_97 : decode cX3_insert 97 = .ok (.lastore, 1) := by decide +kernel
theorem dX3_insert_98 : decode cX3_insert 98 = .ok (.aload_n 0, 1) := by decide +kernel
theorem dX3_insert_99 : decode cX3_insert 99 = .ok (.getfield 23, 3) := by decide +kernel
theorem dX3_insert_102 : decode cX3_insert 102 = .ok (.iload 5, 2) := by decide +kernel
theorem dX3_insert_104 : decode cX3_insert 104 = .ok (.iload_n 3, 1) := by decide +kernel
theorem dX3_insert_105 : decode cX3_insert 105 = .ok (.iastore, 1) := by decide +kernel
theorem dX3_insert_106 : decode cX3_insert 106 = .ok (.aload_n 0, 1) := by decide +kernel
theorem dX3_insert_107 : decode cX3_insert 107 = .ok (.getfield 27, 3) := by decide +kernel
theorem dX3_insert_110 : decode cX3_insert 110 = .ok (.iload 5, 2) := by decide +kernel
theorem dX3_insert_112 : decode cX3_insert 112 = .ok (.iload 4, 2) := by decide +kernel
theorem dX3_insert_114 : decode cX3_insert 114 = .ok (.iastore, 1) := by decide +kernel
theorem dX3_insert_115 : decode cX3_insert 115 = .ok (.aload_n 0, 1) := by decide +kernel
theorem dX3_insert_116 : decode cX3_insert 116 = .ok (.dup, 1) := by decide +kernel
theorem dX3_insert_117 : decode cX3_insert 117 = .ok (.getfield 9, 3) := by decide +kernel
theorem dX3_insert_120 : decode cX3_insert 120 = .ok (.iconst 1, 1) := by decide +kernel
theorem dX3_insert_121 : decode cX3_insert 121 = .ok (.iadd, 1) := by decide +kernel
theorem dX3_insert_122 : decode cX3_insert 122 = .ok (.putfield 9, 3) := by decide +kernel
theorem dX3_insert_125 : decode cX3_insert 125 = .ok (.return_, 1) := by decide +kernel
set_option maxRecDepth 20000 in
theorem ggX3_placeFor_X3_isAhead : GoodIn wsX3_placeFor wsX3_isAhead := goodIn_r _ [7, 8, 9, 10, 11, 12, 13, 14, 15, 16, 17, 18, 19, 20, 21, 22, 23, 24, 25] (by decide +kernel) (by decide +kernel)
set_option maxRecDepth 20000 in
theorem gX3_placeFor_X3_isAhead : GoodIn wsX3_placeFor (wsV RX3 71 RX3 yX3_isAhead wsX3_isAhead) := goodIn_app (goodIn_of _ (by decide +kernel)) ggX3_placeFor_X3_isAhead
theorem dX3_placeFor_0 : decode cX3_placeFor 0 = .ok (.iconst 0, 1) := by decide +kernel
theorem dX3_placeFor_1 : decode cX3_placeFor 1 = .ok (.istore_n 3, 1) := by decide +kernel
theorem dX3_placeFor_2 : decode cX3_placeFor 2 = .ok (.aload_n 0, 1) := by decide +kernel
theorem dX3_placeFor_3 : decode cX3_placeFor 3 = .ok (.getfield 9, 3) := by decide +kernel
theorem dX3_placeFor_6 : decode cX3_placeFor 6 = .ok (.istore 4, 2) := by decide +kernel
theorem dX3_placeFor_8 : decode cX3_placeFor 8 = .ok (.iconst 0, 1) := by decide +kernel
theorem dX3_placeFor_9 : decode cX3_placeFor 9 = .ok (.istore 5, 2) := by decide +kernel
theorem dX3_placeFor_11 : decode cX3_placeFor 11 = .ok (.iload 5, 2) := by decide +kernel
theorem dX3_placeFor_13 : decode cX3_placeFor 13 = .ok (.sipush 535, 3) := by decide +kernel
theorem dX3_placeFor_16 : decode cX3_placeFor 16 = .ok (.if_icmp .ge 50, 3) := by decide +kernel
theorem dX3_placeFor_19 : decode cX3_placeFor 19 = .ok (.iload_n 3, 1) := by decide +kernel
theorem dX3_placeFor_20 : decode cX3_placeFor 20 = .ok (.iload 4, 2) := by decide +kernel
theorem dX3_placeFor_22 : decode cX3_placeFor 22 = .ok (.if_icmp .ge 44, 3) := by decide +kernel
theorem dX3_placeFor_25 : decode cX3_placeFor 25 = .ok (.iload_n 3, 1) := by decide +kernel
theorem dX3_placeFor_26 : decode cX3_placeFor 26 = .ok (.iload 4, 2) := by decide +kernel
theorem dX3_placeFor_28 : decode cX3_placeFor 28 = .ok (.iadd, 1) := by decide +kernel
theorem dX3_placeFor_29 : decode cX3_placeFor 29 = .ok (.iconst 2, 1) := by decide +kernel
theorem dX3_placeFor_30 : decode cX3_placeFor 30 = .ok (.idiv, 1) := by decide +kernel
theorem dX3_placeFor_31 : decode cX3_placeFor 31 = .ok (.istore 6, 2) := by decide +kernel
theorem dX3_placeFor_33 : decode cX3_placeFor 33 = .ok (.aload_n 0, 1) := by decide +kernel
theorem dX3_placeFor_34 : decode cX3_placeFor 34 = .ok (.lload_n 1, 1) := by decide +kernel
theorem dX3_placeFor_35 : decode cX3_placeFor 35 = .ok (.aload_n 0, 1) := by decide +kernel
theorem dX3_placeFor_36 : decode cX3_placeFor 36 = .ok (.getfield 19, 3) := by decide +kernel
theorem dX3_placeFor_39 : decode cX3_placeFor 39 = .ok (.iload 6, 2) := by decide +kernel
theorem dX3_placeFor_41 : decode cX3_placeFor 41 = .ok (.laload, 1) := by decide +kernel
theorem dX3_placeFor_42 : decode cX3_placeFor 42 = .ok (.invokevirtual 71, 3) := by decide +kernel
theorem dX3_placeFor_45 : decode cX3_placeFor 45 = .ok (.ifCond .eq 10, 3) := by decide +kernel
theorem dX3_placeFor_48 : decode cX3_placeFor 48 = .ok (.iload 6, 2) := by decide +kernel
theorem dX3_placeFor_50 : decode cX3_placeFor 50 = .ok (.istore 4, 2) := by decide +kernel
theorem dX3_placeFor_52 : decode cX3_placeFor 52 = .ok (.goto 8, 3) := by decide +kernel
theorem dX3_placeFor_55 : decode cX3_placeFor 55 = .ok (.iload 6, 2) := by decide +kernel
theorem dX3_placeFor_57 : decode cX3_placeFor 57 = .ok (.iconst 1, 1) := by decide +kernel
theorem dX3_placeFor_58 : decode cX3_placeFor 58 = .ok (.iadd, 1) := by decide +kernel
theorem dX3_placeFor_59 : decode cX3_placeFor 59 = .ok (.istore_n 3, 1) := by decide +kernel
theorem dX3_placeFor_60 : decode cX3_placeFor 60 = .ok (.iinc 5 1, 3) := by decide +kernel
theorem dX3_placeFor_63 : decode cX3_placeFor 63 = .ok (.goto (-52), 3) := by decide +kernel
theorem dX3_placeFor_66 : decode cX3_placeFor 66 = .ok (.iload_n 3, 1) := by decide +kernel
theorem dX3_placeFor_67 : decode cX3_placeFor 67 = .ok (.ireturn, 1) := by decide +kernel
set_option maxRecDepth 20000 in
theorem ggX3_isAhead_J13_bitCount_95d88 : GoodIn wsX3_isAhead wsJ13_bitCount_95d88 := goodIn_r _ [5, 6, 7, 8] (by decide +kernel) (by decide +kernel)
set_option maxRecDepth 20000 in
theorem gX3_isAhead_J13_bitCount_95d88 : GoodIn wsX3_isAhead (va_wsS RX3 40 yJ13_bitCount_95d88 wsJ13_bitCount_95d88) := goodIn_app (goodIn_of _ (by decide +kernel)) ggX3_isAhead_J13_bitCount_95d88
set_option maxRecDepth 20000 in
theorem ggX3_isAhead_X4_boundAbove : GoodIn wsX3_isAhead wsX4_boundAbove := goodIn_r _ [11] (by decide +kernel) (by decide +kernel)
set_option maxRecDepth 20000 in
theorem gX3_isAhead_X4_boundAbove_n75 : GoodIn wsX3_isAhead (wsX4_boundAbove) := ggX3_isAhead_X4_boundAbove
set_option maxRecDepth 20000 in
theorem ggX3_isAhead_X4_boundBelow : GoodIn wsX3_isAhead wsX4_boundBelow := goodIn_r _ [13] (by decide +kernel) (by decide +kernel)
set_option maxRecDepth 20000 in
theorem gX3_isAhead_X4_boundBelow_n78 : GoodIn wsX3_isAhead (wsX4_boundBelow) := ggX3_isAhead_X4_boundBelow
theorem dX3_isAhead_0 : decode cX3_isAhead 0 = .ok (.lload_n 1, 1) := by decide +kernel
theorem dX3_isAhead_1 : decode cX3_isAhead 1 = .ok (.invokestatic 40, 3) := by decide +kernel
theorem dX3_isAhead_4 : decode cX3_isAhead 4 = .ok (.istore 5, 2) := by decide +kernel
theorem dX3_isAhead_6 : decode cX3_isAhead 6 = .ok (.lload_n 3, 1) := by decide +kernel
theorem dX3_isAhead_7 : decode cX3_isAhead 7 = .ok (.invokestatic 40, 3) := by decide +kernel
theorem dX3_isAhead_10 : decode cX3_isAhead 10 = .ok (.istore 6, 2) := by decide +kernel
theorem dX3_isAhead_12 : decode cX3_isAhead 12 = .ok (.lload_n 1, 1) := by decide +kernel
theorem dX3_isAhead_13 : decode cX3_isAhead 13 = .ok (.aload_n 0, 1) := by decide +kernel
theorem dX3_isAhead_14 : decode cX3_isAhead 14 = .ok (.getfield 15, 3) := by decide +kernel
theorem dX3_isAhead_17 : decode cX3_isAhead 17 = .ok (.land, 1) := by decide +kernel
theorem dX3_isAhead_18 : decode cX3_isAhead 18 = .ok (.invokestatic 40, 3) := by decide +kernel
theorem dX3_isAhead_21 : decode cX3_isAhead 21 = .ok (.invokestatic 75, 3) := by decide +kernel
theorem dX3_isAhead_24 : decode cX3_isAhead 24 = .ok (.iload 6, 2) := by decide +kernel
theorem dX3_isAhead_26 : decode cX3_isAhead 26 = .ok (.invokestatic 78, 3) := by decide +kernel
theorem dX3_isAhead_29 : decode cX3_isAhead 29 = .ok (.imul, 1) := by decide +kernel
theorem dX3_isAhead_30 : decode cX3_isAhead 30 = .ok (.istore 7, 2) := by decide +kernel
theorem dX3_isAhead_32 : decode cX3_isAhead 32 = .ok (.lload_n 3, 1) := by decide +kernel
theorem dX3_isAhead_33 : decode cX3_isAhead 33 = .ok (.aload_n 0, 1) := by decide +kernel
theorem dX3_isAhead_34 : decode cX3_isAhead 34 = .ok (.getfield 15, 3) := by decide +kernel
theorem dX3_isAhead_37 : decode cX3_isAhead 37 = .ok (.land, 1) := by decide +kernel
theorem dX3_isAhead_38 : decode cX3_isAhead 38 = .ok (.invokestatic 40, 3) := by decide +kernel
theorem dX3_isAhead_41 : decode cX3_isAhead 41 = .ok (.invokestatic 75, 3) := by decide +kernel
theorem dX3_isAhead_44 : decode cX3_isAhead 44 = .ok (.iload 5, 2) := by decide +kernel
theorem dX3_isAhead_46 : decode cX3_isAhead 46 = .ok (.invokestatic 78, 3) := by decide +kernel
theorem dX3_isAhead_49 : decode cX3_isAhead 49 = .ok (.imul, 1) := by decide +kernel
theorem dX3_isAhead_50 : decode cX3_isAhead 50 = .ok (.istore 8, 2) := by decide +kernel
theorem dX3_isAhead_52 : decode cX3_isAhead 52 = .ok (.iload 7, 2) := by decide +kernel
theorem dX3_isAhead_54 : decode cX3_isAhead 54 = .ok (.iload 8, 2) := by decide +kernel
theorem dX3_isAhead_56 : decode cX3_isAhead 56 = .ok (.if_icmp .lt 17, 3) := by decide +kernel
theorem dX3_isAhead_59 : decode cX3_isAhead 59 = .ok (.iload 7, 2) := by decide +kernel
theorem dX3_isAhead_61 : decode cX3_isAhead 61 = .ok (.iload 8, 2) := by decide +kernel
theorem dX3_isAhead_63 : decode cX3_isAhead 63 = .ok (.if_icmp .ne 14, 3) := by decide +kernel
theorem dX3_isAhead_66 : decode cX3_isAhead 66 = .ok (.iload 5, 2) := by decide +kernel
theorem dX3_isAhead_68 : decode cX3_isAhead 68 = .ok (.iload 6, 2) := by decide +kernel
theorem dX3_isAhead_70 : decode cX3_isAhead 70 = .ok (.if_icmp .le 7, 3) := by decide +kernel
theorem dX3_isAhead_73 : decode cX3_isAhead 73 = .ok (.iconst 1, 1) := by decide +kernel
theorem dX3_isAhead_74 : decode cX3_isAhead 74 = .ok (.goto 4, 3) := by decide +kernel
theorem dX3_isAhead_77 : decode cX3_isAhead 77 = .ok (.iconst 0, 1) := by decide +kernel
theorem dX3_isAhead_78 : decode cX3_isAhead 78 = .ok (.ireturn, 1) := by decide +kernel
set_option maxRecDepth 20000 in
theorem ggX4_init_X2_init : GoodIn wsX4_init wsX2_init := goodIn_r _ [21, 22, 2, 3, 23, 24, 25, 26, 27, 28, 56, 57, 58, 59] (by decide +kernel) (by decide +kernel)
set_option maxRecDepth 20000 in
theorem gX4_init_X2_init_n9 : GoodIn wsX4_init (wsX2_init) := ggX4_init_X2_init
set_option maxRecDepth 20000 in
theorem ggX4_init_X3_init : GoodIn wsX4_init wsX3_init := goodIn_r _ [30, 31, 2, 3, 32, 33, 27, 34, 25, 35, 36, 64, 65, 66, 67, 68] (by decide +kernel) (by decide +kernel)
set_option maxRecDepth 20000 in
theorem gX4_init_X3_init_n18 : GoodIn wsX4_init (wsX3_init) := ggX4_init_X3_init
set_option maxRecDepth 20000 in
theorem ggX4_init_X1_init : GoodIn wsX4_init wsX1_init := goodIn_r _ [38, 39, 2, 3, 40, 41, 25, 42, 43, 44, 69, 70, 71, 72, 73] (by decide +kernel) (by decide +kernel)
set_option maxRecDepth 20000 in
theorem gX4_init_X1_init_n25 : GoodIn wsX4_init (wsX1_init) := ggX4_init_X1_init
set_option maxRecDepth 20000 in
theorem ggX4_init_X0_init : GoodIn wsX4_init wsX0_init := goodIn_r _ [46, 47, 2, 3, 48, 49, 50, 51, 25, 52, 53, 54, 55, 74, 75, 76, 77, 78, 79, 80] (by decide +kernel) (by decide +kernel)
set_option maxRecDepth 20000 in
theorem gX4_init_X0_init_n32 : GoodIn wsX4_init (wsX0_init) := ggX4_init_X0_init
theorem dX4_init_0 : decode cX4_init 0 = .ok (.aload_n 0, 1) := by decide +kernel
theorem dX4_init_1 : decode cX4_init 1 = .ok (.invokespecial 1, 3) := by decide +kernel
theorem dX4_init_4 : decode cX4_init 4 = .ok (.aload_n 0, 1) := by decide +kernel
theorem dX4_init_5 : decode cX4_init 5 = .ok (.new 7, 3) := by decide +kernel
theorem dX4_init_8 : decode cX4_init 8 = .ok (.dup, 1) := by decide +kernel
theorem dX4_init_9 : decode cX4_init 9 = .ok (.invokespecial 9, 3) := by decide +kernel
theorem dX4_init_12 : decode cX4_init 12 = .ok (.putfield 10, 3) := by decide +kernel
theorem dX4_init_15 : decode cX4_init 15 = .ok (.aload_n 0, 1) := by decide +kernel
theorem dX4_init_16 : decode cX4_init 16 = .ok (.new 16, 3) := by decide +kernel
theorem dX4_init_19 : decode cX4_init 19 = .ok (.dup, 1) := by decide +kernel
theorem dX4_init_20 : decode cX4_init 20 = .ok (.invokespecial 18, 3) := by decide +kernel
theorem dX4_init_23 : decode cX4_init 23 = .ok (.putfield 19, 3) := by decide +kernel
theorem dX4_init_26 : decode cX4_init 26 = .ok (.aload_n 0, 1) := by decide +kernel
theorem dX4_init_27 : decode cX4_init 27 = .ok (.new 23, 3) := by decide +kernel
theorem dX4_init_30 : decode cX4_init 30 = .ok (.dup, 1) := by decide +kernel
theorem dX4_init_31 : decode cX4_init 31 = .ok (.invokespecial 25, 3) := by decide +kernel
theorem dX4_init_34 : decode cX4_init 34 = .ok (.putfield 26, 3) := by decide +kernel
theorem dX4_init_37 : decode cX4_init 37 = .ok (.aload_n 0, 1) := by decide +kernel
theorem dX4_init_38 : decode cX4_init 38 = .ok (.new 30, 3) := by decide +kernel
theorem dX4_init_41 : decode cX4_init 41 = .ok (.dup, 1) := by decide +kernel
theorem dX4_init_42 : decode cX4_init 42 = .ok (.invokespecial 32, 3) := by decide +kernel
theorem dX4_init_45 : decode cX4_init 45 = .ok (.putfield 33, 3) := by decide +kernel
theorem dX4_init_48 : decode cX4_init 48 = .ok (.return_, 1) := by decide +kernel
set_option maxRecDepth 20000 in
theorem ggX4_row_X4_isWithin : GoodIn wsX4_row wsX4_isWithin := goodIn_r _ [7] (by decide +kernel) (by decide +kernel)
set_option maxRecDepth 20000 in
theorem gX4_row_X4_isWithin : GoodIn wsX4_row (va_wsS RX4 37 yX4_isWithin wsX4_isWithin) := goodIn_app (goodIn_of _ (by decide +kernel)) ggX4_row_X4_isWithin
set_option maxRecDepth 20000 in
theorem ggX4_row_X2_add : GoodIn wsX4_row wsX2_add := goodIn_r _ [12, 13, 14, 15, 16, 17, 6, 18, 23, 24, 25, 26] (by decide +kernel) (by decide +kernel)
set_option maxRecDepth 20000 in
theorem gX4_row_X2_add : GoodIn wsX4_row (wsV RX4 47 RX2 yX2_add wsX2_add) := goodIn_app (goodIn_of _ (by decide +kernel)) ggX4_row_X2_add
theorem dX4_row_0 : decode cX4_row 0 = .ok (.iload_n 1, 1) := by decide +kernel
theorem dX4_row_1 : decode cX4_row 1 = .ok (.iconst 0, 1) := by decide +kernel
theorem dX4_row_2 : decode cX4_row 2 = .ok (.sipush 999, 3) := by decide +kernel
theorem dX4_row_5 : decode cX4_row 5 = .ok (.invokestatic 37, 3) := by decide +kernel
theorem dX4_row_8 : decode cX4_row 8 = .ok (.ifCond .ne 6, 3) := by decide +kernel
theorem dX4_row_11 : decode cX4_row 11 = .ok (.ldc 41, 2) := by decide +kernel
theorem dX4_row_13 : decode cX4_row 13 = .ok (.ireturn, 1) := by decide +kernel
theorem dX4_row_14 : decode cX4_row 14 = .ok (.aload_n 0, 1) := by decide +kernel
theorem dX4_row_15 : decode cX4_row 15 = .ok (.getfield 10, 3) := by decide +kernel
theorem dX4_row_18 : decode cX4_row 18 = .ok (.getfield 42, 3) := by decide +kernel
theorem dX4_row_21 : decode cX4_row 21 = .ok (.bipush 48, 2) := by decide +kernel
theorem dX4_row_23 : decode cX4_row 23 = .ok (.if_icmp .lt 6, 3) := by decide +kernel
theorem dX4_row_26 : decode cX4_row 26 = .ok (.ldc 46, 2) := by decide +kernel
theorem dX4_row_28 : decode cX4_row 28 = .ok (.ireturn, 1) := by decide +kernel
theorem dX4_row_29 : decode cX4_row 29 = .ok (.aload_n 0, 1) := by decide +kernel
theorem dX4_row_30 : decode cX4_row 30 = .ok (.getfield 10, 3) := by decide +kernel
theorem dX4_row_33 : decode cX4_row 33 = .ok (.iload_n 1, 1) := by decide +kernel
theorem dX4_row_34 : decode cX4_row 34 = .ok (.iload_n 2, 1) := by decide +kernel
theorem dX4_row_35 : decode cX4_row 35 = .ok (.invokevirtual 47, 3) := by decide +kernel
theorem dX4_row_38 : decode cX4_row 38 = .ok (.ireturn, 1) := by decide +kernel
set_option maxRecDepth 20000 in
theorem ggX4_put_X2_has : GoodIn wsX4_put wsX2_has := goodIn_r _ [8, 9, 10, 11, 12, 37, 38, 39, 40] (by decide +kernel) (by decide +kernel)
set_option maxRecDepth 20000 in
theorem gX4_put_X2_has : GoodIn wsX4_put (wsV RX4 51 RX2 yX2_has wsX2_has) := goodIn_app (goodIn_of _ (by decide +kernel)) ggX4_put_X2_has
set_option maxRecDepth 20000 in
theorem ggX4_put_X4_isColumn : GoodIn wsX4_put wsX4_isColumn := goodIn_r _ [15, 16, 10, 11, 12] (by decide +kernel) (by decide +kernel)
set_option maxRecDepth 20000 in
theorem gX4_put_X4_isColumn : GoodIn wsX4_put (va_wsS RX4 55 yX4_isColumn wsX4_isColumn) := goodIn_app (goodIn_of _ (by decide +kernel)) ggX4_put_X4_isColumn
set_option maxRecDepth 20000 in
theorem ggX4_put_X4_isWithin : GoodIn wsX4_put wsX4_isWithin := goodIn_r _ [12] (by decide +kernel) (by decide +kernel)
set_option maxRecDepth 20000 in
theorem gX4_put_X4_isWithin : GoodIn wsX4_put (va_wsS RX4 37 yX4_isWithin wsX4_isWithin) := goodIn_app (goodIn_of _ (by decide +kernel)) ggX4_put_X4_isWithin
set_option maxRecDepth 20000 in
theorem ggX4_put_X2_change : GoodIn wsX4_put wsX2_change := goodIn_r _ [20, 21, 22, 23, 24, 25, 7, 26, 27, 28, 29, 30, 31, 11, 32, 37, 38, 39, 40] (by decide +kernel) (by decide +kernel)
set_option maxRecDepth 20000 in
theorem gX4_put_X2_change : GoodIn wsX4_put (wsV RX4 59 RX2 yX2_change wsX2_change) := goodIn_app (goodIn_of _ (by decide +kernel)) ggX4_put_X2_change
theorem dX4_put_0 : decode cX4_put 0 = .ok (.aload_n 0, 1) := by decide +kernel
theorem dX4_put_1 : decode cX4_put 1 = .ok (.getfield 10, 3) := by decide +kernel
theorem dX4_put_4 : decode cX4_put 4 = .ok (.iload_n 1, 1) := by decide +kernel
theorem dX4_put_5 : decode cX4_put 5 = .ok (.invokevirtual 51, 3) := by decide +kernel
theorem dX4_put_8 : decode cX4_put 8 = .ok (.ifCond .eq 10, 3) := by decide +kernel
theorem dX4_put_11 : decode cX4_put 11 = .ok (.iload_n 2, 1) := by decide +kernel
theorem dX4_put_12 : decode cX4_put 12 = .ok (.invokestatic 55, 3) := by decide +kernel
theorem dX4_put_15 : decode cX4_put 15 = .ok (.ifCond .ne 6, 3) := by decide +kernel
theorem dX4_put_18 : decode cX4_put 18 = .ok (.ldc 58, 2) := by decide +kernel
theorem dX4_put_20 : decode cX4_put 20 = .ok (.ireturn, 1) := by decide +kernel
theorem dX4_put_21 : decode cX4_put 21 = .ok (.iload_n 3, 1) := by decide +kernel
theorem dX4_put_22 : decode cX4_put 22 = .ok (.iconst (-1), 1) := by decide +kernel
theorem dX4_put_23 : decode cX4_put 23 = .ok (.bipush 9, 2) := by decide +kernel
theorem dX4_put_25 : decode cX4_put 25 = .ok (.invokestatic 37, 3) := by decide +kernel
theorem dX4_put_28 : decode cX4_put 28 = .ok (.ifCond .ne 6, 3) := by decide +kernel
theorem dX4_put_31 : decode cX4_put 31 = .ok (.ldc 41, 2) := by decide +kernel
theorem dX4_put_33 : decode cX4_put 33 = .ok (.ireturn, 1) := by decide +kernel
theorem dX4_put_34 : decode cX4_put 34 = .ok (.aload_n 0, 1) := by decide +kernel
theorem dX4_put_35 : decode cX4_put 35 = .ok (.getfield 10, 3) := by decide +kernel
theorem dX4_put_38 : decode cX4_put 38 = .ok (.iload_n 1, 1) := by decide +kernel
theorem dX4_put_39 : decode cX4_put 39 = .ok (.iload_n 2, 1) := by decide +kernel
theorem dX4_put_40 : decode cX4_put 40 = .ok (.iload_n 3, 1) := by decide +kernel
theorem dX4_put_41 : decode cX4_put 41 = .ok (.iconst (-1), 1) := by decide +kernel
theorem dX4_put_42 : decode cX4_put 42 = .ok (.if_icmp .ne 8, 3) := by decide +kernel
theorem dX4_put_45 : decode cX4_put 45 = .ok (.bipush 10, 2) := by decide +kernel
theorem dX4_put_47 : decode cX4_put 47 = .ok (.goto 4, 3) := by decide +kernel
theorem dX4_put_50 : decode cX4_put 50 = .ok (.iload_n 3, 1) := by decide +kernel
theorem dX4_put_51 : decode cX4_put 51 = .ok (.invokevirtual 59, 3) := by decide +kernel
theorem dX4_put_54 : decode cX4_put 54 = .ok (.ireturn, 1) := by decide +kernel
set_option maxRecDepth 20000 in
theorem ggX4_of_X2_has : GoodIn wsX4_of wsX2_has := goodIn_r _ [7, 8, 9, 10, 11, 31, 32, 33, 34] (by decide +kernel) (by decide +kernel)
set_option maxRecDepth 20000 in
theorem gX4_of_X2_has : GoodIn wsX4_of (wsV RX4 51 RX2 yX2_has wsX2_has) := goodIn_app (goodIn_of _ (by decide +kernel)) ggX4_of_X2_has
set_option maxRecDepth 20000 in
theorem ggX4_of_X4_isWithin : GoodIn wsX4_of wsX4_isWithin := goodIn_r _ [11] (by decide +kernel) (by decide +kernel)
set_option maxRecDepth 20000 in
theorem gX4_of_X4_isWithin : GoodIn wsX4_of (va_wsS RX4 37 yX4_isWithin wsX4_isWithin) := goodIn_app (goodIn_of _ (by decide +kernel)) ggX4_of_X4_isWithin
set_option maxRecDepth 20000 in
theorem ggX4_of_X4_asNumber : GoodIn wsX4_of wsX4_asNumber := goodIn_r _ [15] (by decide +kernel) (by decide +kernel)
set_option maxRecDepth 20000 in
theorem gX4_of_X4_asNumber : GoodIn wsX4_of (va_wsS RX4 71 yX4_asNumber wsX4_asNumber) := goodIn_app (goodIn_of _ (by decide +kernel)) ggX4_of_X4_asNumber
set_option maxRecDepth 20000 in
theorem ggX4_of_X2_sortAt : GoodIn wsX4_of wsX2_sortAt := goodIn_r _ [19, 20, 21, 22, 6, 23, 24, 25, 10, 26, 31, 32, 33, 34] (by decide +kernel) (by decide +kernel)
set_option maxRecDepth 20000 in
theorem gX4_of_X2_sortAt : GoodIn wsX4_of (wsV RX4 75 RX2 yX2_sortAt wsX2_sortAt) := goodIn_app (goodIn_of _ (by decide +kernel)) ggX4_of_X2_sortAt
theorem dX4_of_0 : decode cX4_of 0 = .ok (.aload_n 0, 1) := by decide +kernel
theorem dX4_of_1 : decode cX4_of 1 = .ok (.getfield 10, 3) := by decide +kernel
theorem dX4_of_4 : decode cX4_of 4 = .ok (.iload_n 1, 1) := by decide +kernel
theorem dX4_of_5 : decode cX4_of 5 = .ok (.invokevirtual 51, 3) := by decide +kernel
theorem dX4_of_8 : decode cX4_of 8 = .ok (.ifCond .eq 13, 3) := by decide +kernel
theorem dX4_of_11 : decode cX4_of 11 = .ok (.iload_n 2, 1) := by decide +kernel
theorem dX4_of_12 : decode cX4_of 12 = .ok (.iconst 0, 1) := by decide +kernel
theorem dX4_of_13 : decode cX4_of 13 = .ok (.bipush 6, 2) := by decide +kernel
theorem dX4_of_15 : decode cX4_of 15 = .ok (.invokestatic 37, 3) := by decide +kernel
theorem dX4_of_18 : decode cX4_of 18 = .ok (.ifCond .ne 6, 3) := by decide +kernel
theorem dX4_of_21 : decode cX4_of 21 = .ok (.ldc 58, 2) := by decide +kernel
theorem dX4_of_23 : decode cX4_of 23 = .ok (.ireturn, 1) := by decide +kernel
theorem dX4_of_24 : decode cX4_of 24 = .ok (.iload_n 2, 1) := by decide +kernel
theorem dX4_of_25 : decode cX4_of 25 = .ok (.iconst 5, 1) := by decide +kernel
theorem dX4_of_26 : decode cX4_of 26 = .ok (.if_icmp .ne 13, 3) := by decide +kernel
theorem dX4_of_29 : decode cX4_of 29 = .ok (.aload_n 0, 1) := by decide +kernel
theorem dX4_of_30 : decode cX4_of 30 = .ok (.getfield 10, 3) := by decide +kernel
theorem dX4_of_33 : decode cX4_of 33 = .ok (.getfield 63, 3) := by decide +kernel
theorem dX4_of_36 : decode cX4_of 36 = .ok (.iload_n 1, 1) := by decide +kernel
theorem dX4_of_37 : decode cX4_of 37 = .ok (.iaload, 1) := by decide +kernel
theorem dX4_of_38 : decode cX4_of 38 = .ok (.ireturn, 1) := by decide +kernel
theorem dX4_of_39 : decode cX4_of 39 = .ok (.iload_n 2, 1) := by decide +kernel
theorem dX4_of_40 : decode cX4_of 40 = .ok (.bipush 6, 2) := by decide +kernel
theorem dX4_of_42 : decode cX4_of 42 = .ok (.if_icmp .ne 28, 3) := by decide +kernel
theorem dX4_of_45 : decode cX4_of 45 = .ok (.aload_n 0, 1) := by decide +kernel
theorem dX4_of_46 : decode cX4_of 46 = .ok (.getfield 10, 3) := by decide +kernel
theorem dX4_of_49 : decode cX4_of 49 = .ok (.getfield 67, 3) := by decide +kernel
theorem dX4_of_52 : decode cX4_of 52 = .ok (.lconst 1, 1) := by decide +kernel
theorem dX4_of_53 : decode cX4_of 53 = .ok (.iload_n 1, 1) := by decide +kernel
theorem dX4_of_54 : decode cX4_of 54 = .ok (.lshl, 1) := by decide +kernel
theorem dX4_of_55 : decode cX4_of 55 = .ok (.land, 1) := by decide +kernel
theorem dX4_of_56 : decode cX4_of 56 = .ok (.lconst 0, 1) := by decide +kernel
theorem dX4_of_57 : decode cX4_of 57 = .ok (.lcmp, 1) := by decide +kernel
theorem dX4_of_58 : decode cX4_of 58 = .ok (.ifCond .eq 7, 3) := by decide +kernel
theorem dX4_of_61 : decode cX4_of 61 = .ok (.iconst 1, 1) := by decide +kernel
theorem dX4_of_62 : decode cX4_of 62 = .ok (.goto 4, 3) := by decide +kernel
theorem dX4_of_65 : decode cX4_of 65 = .ok (.iconst 0, 1) := by decide +kernel
theorem dX4_of_66 : decode cX4_of 66 = .ok (.invokestatic 71, 3) := by decide +kernel
theorem dX4_of_69 : decode cX4_of 69 = .ok (.ireturn, 1) := by decide +kernel
theorem dX4_of_70 : decode cX4_of 70 = .ok (.aload_n 0, 1) := by decide +kernel
theorem dX4_of_71 : decode cX4_of 71 = .ok (.getfield 10, 3) := by decide +kernel
theorem dX4_of_74 : decode cX4_of 74 = .ok (.iload_n 1, 1) := by decide +kernel
theorem dX4_of_75 : decode cX4_of 75 = .ok (.iload_n 2, 1) := by decide +kernel
theorem dX4_of_76 : decode cX4_of 76 = .ok (.invokevirtual 75, 3) := by decide +kernel
theorem dX4_of_79 : decode cX4_of 79 = .ok (.ireturn, 1) := by decide +kernel
set_option maxRecDepth 20000 in
theorem ggX4_slices_X4_isWithin : GoodIn wsX4_slices wsX4_isWithin := goodIn_r _ [7] (by decide +kernel) (by decide +kernel)
set_option maxRecDepth 20000 in
theorem gX4_slices_X4_isWithin : GoodIn wsX4_slices (va_wsS RX4 37 yX4_isWithin wsX4_isWithin) := goodIn_app (goodIn_of _ (by decide +kernel)) ggX4_slices_X4_isWithin
set_option maxRecDepth 20000 in
theorem ggX4_slices_X3_make : GoodIn wsX4_slices wsX3_make := goodIn_r _ [12, 13, 14, 15, 16, 17, 18, 19, 20, 21, 22, 23, 24, 11, 25, 26, 27, 28, 29, 30, 31, 32, 33, 34, 35, 36, 37, 38, 39, 40, 41, 6, 42, 43, 44, 45, 46, 47, 48, 49, 50, 51, 52, 57, 58, 59, 60, 61, 62, 63, 64, 65] (by decide +kernel) (by decide +kernel)
set_option maxRecDepth 20000 in
theorem gX4_slices_X3_make : GoodIn wsX4_slices (wsV RX4 79 RX3 yX3_make wsX3_make) := goodIn_app (goodIn_of _ (by decide +kernel)) ggX4_slices_X3_make
theorem dX4_slices_0 : decode cX4_slices 0 = .ok (.iload_n 1, 1) := by decide +kernel
theorem dX4_slices_1 : decode cX4_slices 1 = .ok (.iconst 1, 1) := by decide +kernel
theorem dX4_slices_2 : decode cX4_slices 2 = .ok (.bipush 48, 2) := by decide +kernel
theorem dX4_slices_4 : decode cX4_slices 4 = .ok (.invokestatic 37, 3) := by decide +kernel
theorem dX4_slices_7 : decode cX4_slices 7 = .ok (.ifCond .eq 12, 3) := by decide +kernel
theorem dX4_slices_10 : decode cX4_slices 10 = .ok (.iload_n 2, 1) := by decide +kernel
theorem dX4_slices_11 : decode cX4_slices 11 = .ok (.iconst 1, 1) := by decide +kernel
theorem dX4_slices_12 : decode cX4_slices 12 = .ok (.iconst 2, 1) := by decide +kernel
theorem dX4_slices_13 : decode cX4_slices 13 = .ok (.invokestatic 37, 3) := by decide +kernel
theorem dX4_slices_16 : decode cX4_slices 16 = .ok (.ifCond .ne 6, 3) := by decide +kernel
theorem dX4_slices_19 : decode cX4_slices 19 = .ok (.ldc 41, 2) := by decide +kernel
theorem dX4_slices_21 : decode cX4_slices 21 = .ok (.ireturn, 1) := by decide +kernel
theorem dX4_slices_22 : decode cX4_slices 22 = .ok (.aload_n 0, 1) := by decide +kernel
theorem dX4_slices_23 : decode cX4_slices 23 = .ok (.getfield 19, 3) := by decide +kernel
theorem dX4_slices_26 : decode cX4_slices 26 = .ok (.aload_n 0, 1) := by decide +kernel
theorem dX4_slices_27 : decode cX4_slices 27 = .ok (.getfield 10, 3) := by decide +kernel
theorem dX4_slices_30 : decode cX4_slices 30 = .ok (.iload_n 1, 1) := by decide +kernel
theorem dX4_slices_31 : decode cX4_slices 31 = .ok (.iload_n 2, 1) := by decide +kernel
theorem dX4_slices_32 : decode cX4_slices 32 = .ok (.iconst 2, 1) := by decide +kernel
theorem dX4_slices_33 : decode cX4_slices 33 = .ok (.if_icmp .ne 7, 3) := by decide +kernel
theorem dX4_slices_36 : decode cX4_slices 36 = .ok (.iconst 1, 1) := by decide +kernel
theorem dX4_slices_37 : decode cX4_slices 37 = .ok (.goto 4, 3) := by decide +kernel
theorem dX4_slices_40 : decode cX4_slices 40 = .ok (.iconst 0, 1) := by decide +kernel
theorem dX4_slices_41 : decode cX4_slices 41 = .ok (.invokevirtual 79, 3) := by decide +kernel
theorem dX4_slices_44 : decode cX4_slices 44 = .ok (.aload_n 0, 1) := by decide +kernel
theorem dX4_slices_45 : decode cX4_slices 45 = .ok (.getfield 19, 3) := by decide +kernel
theorem dX4_slices_48 : decode cX4_slices 48 = .ok (.getfield 83, 3) := by decide +kernel
theorem dX4_slices_51 : decode cX4_slices 51 = .ok (.ireturn, 1) := by decide +kernel
set_option maxRecDepth 20000 in
theorem ggX4_slice_X3_has : GoodIn wsX4_slice wsX3_has := goodIn_r _ [7, 8, 9, 10, 11, 29, 30, 31, 32, 33] (by decide +kernel) (by decide +kernel)
set_option maxRecDepth 20000 in
theorem gX4_slice_X3_has : GoodIn wsX4_slice (wsV RX4 84 RX3 yX3_has wsX3_has) := goodIn_app (goodIn_of _ (by decide +kernel)) ggX4_slice_X3_has
set_option maxRecDepth 20000 in
theorem ggX4_slice_X4_columnOf : GoodIn wsX4_slice wsX4_columnOf := goodIn_r _ [14] (by decide +kernel) (by decide +kernel)
set_option maxRecDepth 20000 in
theorem gX4_slice_X4_columnOf : GoodIn wsX4_slice (va_wsS RX4 88 yX4_columnOf wsX4_columnOf) := goodIn_app (goodIn_of _ (by decide +kernel)) ggX4_slice_X4_columnOf
set_option maxRecDepth 20000 in
theorem ggX4_slice_X4_sortOf : GoodIn wsX4_slice wsX4_sortOf := goodIn_r _ [17] (by decide +kernel) (by decide +kernel)
set_option maxRecDepth 20000 in
theorem gX4_slice_X4_sortOf : GoodIn wsX4_slice (va_wsS RX4 92 yX4_sortOf wsX4_sortOf) := goodIn_app (goodIn_of _ (by decide +kernel)) ggX4_slice_X4_sortOf
set_option maxRecDepth 20000 in
theorem ggX4_slice_J13_bitCount_95d88 : GoodIn wsX4_slice wsJ13_bitCount_95d88 := goodIn_r _ [21, 22, 23, 24] (by decide +kernel) (by decide +kernel)
set_option maxRecDepth 20000 in
theorem gX4_slice_J13_bitCount_95d88 : GoodIn wsX4_slice (va_wsS RX4 102 yJ13_bitCount_95d88 wsJ13_bitCount_95d88) := goodIn_app (goodIn_of _ (by decide +kernel)) ggX4_slice_J13_bitCount_95d88
theorem dX4_slice_0 : decode cX4_slice 0 = .ok (.aload_n 0, 1) := by decide +kernel
theorem dX4_slice_1 : decode cX4_slice 1 = .ok (.getfield 19, 3) := by decide +kernel
theorem dX4_slice_4 : decode cX4_slice 4 = .ok (.iload_n 1, 1) := by decide +kernel
theorem dX4_slice_5 : decode cX4_slice 5 = .ok (.invokevirtual 84, 3) := by decide +kernel
theorem dX4_slice_8 : decode cX4_slice 8 = .ok (.ifCond .ne 6, 3) := by decide +kernel
theorem dX4_slice_11 : decode cX4_slice 11 = .ok (.ldc 58, 2) := by decide +kernel
theorem dX4_slice_13 : decode cX4_slice 13 = .ok (.ireturn, 1) := by decide +kernel
theorem dX4_slice_14 : decode cX4_slice 14 = .ok (.iload_n 2, 1) := by decide +kernel
theorem dX4_slice_15 : decode cX4_slice 15 = .ok (.tableswitch 123 0 5 #[37, 50, 63, 76, 89, 102], 37) := by decide +kernel
theorem dX4_slice_52 : decode cX4_slice 52 = .ok (.aload_n 0, 1) := by decide +kernel
theorem dX4_slice_53 : decode cX4_slice 53 = .ok (.getfield 19, 3) := by decide +kernel
theorem dX4_slice_56 : decode cX4_slice 56 = .ok (.getfield 85, 3) := by decide +kernel
theorem dX4_slice_59 : decode cX4_slice 59 = .ok (.iload_n 1, 1) := by decide +kernel
theorem dX4_slice_60 : decode cX4_slice 60 = .ok (.iaload, 1) := by decide +kernel
theorem dX4_slice_61 : decode cX4_slice 61 = .ok (.invokestatic 88, 3) := by decide +kernel
theorem dX4_slice_64 : decode cX4_slice 64 = .ok (.ireturn, 1) := by decide +kernel
theorem dX4_slice_65 : decode cX4_slice 65 = .ok (.aload_n 0, 1) := by decide +kernel
theorem dX4_slice_66 : decode cX4_slice 66 = .ok (.getfield 19, 3) := by decide +kernel
theorem dX4_slice_69 : decode cX4_slice 69 = .ok (.getfield 85, 3) := by decide +kernel
theorem dX4_slice_72 : decode cX4_slice 72 = .ok (.iload_n 1, 1) := by decide +kernel
theorem dX4_slice_73 : decode cX4_slice 73 = .ok (.iaload, 1) := by decide +kernel
theorem dX4_slice_74 : decode cX4_slice 74 = .ok (.invokestatic 92, 3) := by decide +kernel
theorem dX4_slice_77 : decode cX4_slice 77 = .ok (.ireturn, 1) := by decide +kernel
theorem dX4_slice_78 : decode cX4_slice 78 = .ok (.aload_n 0, 1) := by decide +kernel
theorem dX4_slice_79 : decode cX4_slice 79 = .ok (.getfield 19, 3) := by decide +kernel
theorem dX4_slice_82 : decode cX4_slice 82 = .ok (.getfield 95, 3) := by decide +kernel
theorem dX4_slice_85 : decode cX4_slice 85 = .ok (.iload_n 1, 1) := by decide +kernel
theorem dX4_slice_86 : decode cX4_slice 86 = .ok (.iaload, 1) := by decide +kernel
theorem dX4_slice_87 : decode cX4_slice 87 = .ok (.invokestatic 88, 3) := by decide +kernel
theorem dX4_slice_90 : decode cX4_slice 90 = .ok (.ireturn, 1) := by decide +kernel
theorem dX4_slice_91 : decode cX4_slice 91 = .ok (.aload_n 0, 1) := by decide +kernel
theorem dX4_slice_92 : decode cX4_slice 92 = .ok (.getfield 19, 3) := by decide +kernel
theorem dX4_slice_95 : decode cX4_slice 95 = .ok (.getfield 95, 3) := by decide +kernel
theorem dX4_slice_98 : decode cX4_slice 98 = .ok (.iload_n 1, 1) := by decide +kernel
theorem dX4_slice_99 : decode cX4_slice 99 = .ok (.iaload, 1) := by decide +kernel
theorem dX4_slice_100 : decode cX4_slice 100 = .ok (.invokestatic 92, 3) := by decide +kernel
theorem dX4_slice_103 : decode cX4_slice 103 = .ok (.ireturn, 1) := by decide +kernel
theorem dX4_slice_104 : decode cX4_slice 104 = .ok (.aload_n 0, 1) := by decide +kernel
theorem dX4_slice_105 : decode cX4_slice 105 = .ok (.getfield 19, 3) := by decide +kernel
theorem dX4_slice_108 : decode cX4_slice 108 = .ok (.getfield 98, 3) := by decide +kernel
theorem dX4_slice_111 : decode cX4_slice 111 = .ok (.iload_n 1, 1) := by decide +kernel
theorem dX4_slice_112 : decode cX4_slice 112 = .ok (.laload, 1) := by decide +kernel
theorem dX4_slice_113 : decode cX4_slice 113 = .ok (.invokestatic 102, 3) := by decide +kernel
theorem dX4_slice_116 : decode cX4_slice 116 = .ok (.ireturn, 1) := by decide +kernel
theorem dX4_slice_117 : decode cX4_slice 117 = .ok (.aload_n 0, 1) := by decide +kernel
theorem dX4_slice_118 : decode cX4_slice 118 = .ok (.getfield 19, 3) := by decide +kernel
theorem dX4_slice_121 : decode cX4_slice 121 = .ok (.getfield 98, 3) := by decide +kernel
theorem dX4_slice_124 : decode cX4_slice 124 = .ok (.iload_n 1, 1) := by decide +kernel
theorem dX4_slice_125 : decode cX4_slice 125 = .ok (.laload, 1) := by decide +kernel
theorem dX4_slice_126 : decode cX4_slice 126 = .ok (.aload_n 0, 1) := by decide +kernel
theorem dX4_slice_127 : decode cX4_slice 127 = .ok (.getfield 19, 3) := by decide +kernel
theorem dX4_slice_130 : decode cX4_slice 130 = .ok (.getfield 108, 3) := by decide +kernel
theorem dX4_slice_133 : decode cX4_slice 133 = .ok (.land, 1) := by decide +kernel
theorem dX4_slice_134 : decode cX4_slice 134 = .ok (.invokestatic 102, 3) := by decide +kernel
theorem dX4_slice_137 : decode cX4_slice 137 = .ok (.ireturn, 1) := by decide +kernel
theorem dX4_slice_138 : decode cX4_slice 138 = .ok (.ldc 58, 2) := by decide +kernel
theorem dX4_slice_140 : decode cX4_slice 140 = .ok (.ireturn, 1) := by decide +kernel
set_option maxRecDepth 20000 in
theorem ggX4_member_X3_has : GoodIn wsX4_member wsX3_has := goodIn_r _ [8, 9, 10, 11, 12, 17, 18, 19, 20, 21] (by decide +kernel) (by decide +kernel)
set_option maxRecDepth 20000 in
theorem gX4_member_X3_has : GoodIn wsX4_member (wsV RX4 84 RX3 yX3_has wsX3_has) := goodIn_app (goodIn_of _ (by decide +kernel)) ggX4_member_X3_has
theorem dX4_member_0 : decode cX4_member 0 = .ok (.aload_n 0, 1) := by decide +kernel
theorem dX4_member_1 : decode cX4_member 1 = .ok (.getfield 19, 3) := by decide +kernel
theorem dX4_member_4 : decode cX4_member 4 = .ok (.iload_n 1, 1) := by decide +kernel
theorem dX4_member_5 : decode cX4_member 5 = .ok (.invokevirtual 84, 3) := by decide +kernel
theorem dX4_member_8 : decode cX4_member 8 = .ok (.ifCond .ne 6, 3) := by decide +kernel
theorem dX4_member_11 : decode cX4_member 11 = .ok (.ldc 58, 2) := by decide +kernel
theorem dX4_member_13 : decode cX4_member 13 = .ok (.ireturn, 1) := by decide +kernel
theorem dX4_member_14 : decode cX4_member 14 = .ok (.iload_n 2, 1) := by decide +kernel
theorem dX4_member_15 : decode cX4_member 15 = .ok (.ifCond .ge 6, 3) := by decide +kernel
theorem dX4_member_18 : decode cX4_member 18 = .ok (.ldc 41, 2) := by decide +kernel
theorem dX4_member_20 : decode cX4_member 20 = .ok (.ireturn, 1) := by decide +kernel
theorem dX4_member_21 : decode cX4_member 21 = .ok (.iload_n 2, 1) := by decide +kernel
theorem dX4_member_22 : decode cX4_member 22 = .ok (.istore_n 3, 1) := by decide +kernel
theorem dX4_member_23 : decode cX4_member 23 = .ok (.iconst 0, 1) := by decide +kernel
theorem dX4_member_24 : decode cX4_member 24 = .ok (.istore 4, 2) := by decide +kernel
theorem dX4_member_26 : decode cX4_member 26 = .ok (.iload 4, 2) := by decide +kernel
theorem dX4_member_28 : decode cX4_member 28 = .ok (.bipush 48, 2) := by decide +kernel
theorem dX4_member_30 : decode cX4_member 30 = .ok (.if_icmp .ge 38, 3) := by decide +kernel
theorem dX4_member_33 : decode cX4_member 33 = .ok (.aload_n 0, 1) := by decide +kernel
theorem dX4_member_34 : decode cX4_member 34 = .ok (.getfield 19, 3) := by decide +kernel
theorem dX4_member_37 : decode cX4_member 37 = .ok (.getfield 98, 3) := by decide +kernel
theorem dX4_member_40 : decode cX4_member 40 = .ok (.iload_n 1, 1) := by decide +kernel
theorem dX4_member_41 : decode cX4_member 41 = .ok (.laload, 1) := by decide +kernel
theorem dX4_member_42 : decode cX4_member 42 = .ok (.lconst 1, 1) := by decide +kernel
theorem dX4_member_43 : decode cX4_member 43 = .ok (.iload 4, 2) := by decide +kernel
theorem dX4_member_45 : decode cX4_member 45 = .ok (.lshl, 1) := by decide +kernel
theorem dX4_member_46 : decode cX4_member 46 = .ok (.land, 1) := by decide +kernel
theorem dX4_member_47 : decode cX4_member 47 = .ok (.lconst 0, 1) := by decide +kernel
theorem dX4_member_48 : decode cX4_member 48 = .ok (.lcmp, 1) := by decide +kernel
theorem dX4_member_49 : decode cX4_member 49 = .ok (.ifCond .eq 13, 3) := by decide +kernel
theorem dX4_member_52 : decode cX4_member 52 = .ok (.iload_n 3, 1) := by decide +kernel
theorem dX4_member_53 : decode cX4_member 53 = .ok (.ifCond .ne 6, 3) := by decide +kernel
theorem dX4_member_56 : decode cX4_member 56 = .ok (.iload 4, 2) := by decide +kernel
theorem dX4_member_58 : decode cX4_member 58 = .ok (.ireturn, 1) := by decide +kernel
theorem dX4_member_59 : decode cX4_member 59 = .ok (.iinc 3 (-1), 3) := by decide +kernel
theorem dX4_member_62 : decode cX4_member 62 = .ok (.iinc 4 1, 3) := by decide +kernel
theorem dX4_member_65 : decode cX4_member 65 = .ok (.goto (-39), 3) := by decide +kernel
theorem dX4_member_68 : decode cX4_member 68 = .ok (.iconst (-1), 1) := by decide +kernel
theorem dX4_member_69 : decode cX4_member 69 = .ok (.ireturn, 1) := by decide +kernel
set_option maxRecDepth 20000 in
theorem ggX4_share_X3_has : GoodIn wsX4_share wsX3_has := goodIn_r _ [8, 9, 10, 11, 12, 47, 48, 49, 50, 51] (by decide +kernel) (by decide +kernel)
set_option maxRecDepth 20000 in
theorem gX4_share_X3_has : GoodIn wsX4_share (wsV RX4 84 RX3 yX3_has wsX3_has) := goodIn_app (goodIn_of _ (by decide +kernel)) ggX4_share_X3_has
set_option maxRecDepth 20000 in
theorem ggX4_share_X4_isWithin : GoodIn wsX4_share wsX4_isWithin := goodIn_r _ [12] (by decide +kernel) (by decide +kernel)
set_option maxRecDepth 20000 in
theorem gX4_share_X4_isWithin : GoodIn wsX4_share (va_wsS RX4 37 yX4_isWithin wsX4_isWithin) := goodIn_app (goodIn_of _ (by decide +kernel)) ggX4_share_X4_isWithin
set_option maxRecDepth 20000 in
theorem ggX4_share_X4_isPart : GoodIn wsX4_share wsX4_isPart := goodIn_r _ [16, 13, 10, 11, 12] (by decide +kernel) (by decide +kernel)
set_option maxRecDepth 20000 in
theorem gX4_share_X4_isPart : GoodIn wsX4_share (va_wsS RX4 111 yX4_isPart wsX4_isPart) := goodIn_app (goodIn_of _ (by decide +kernel)) ggX4_share_X4_isPart
set_option maxRecDepth 20000 in
theorem ggX4_share_J13_bitCount_95d88 : GoodIn wsX4_share wsJ13_bitCount_95d88 := goodIn_r _ [20, 21, 22, 23] (by decide +kernel) (by decide +kernel)
set_option maxRecDepth 20000 in
theorem gX4_share_J13_bitCount_95d88 : GoodIn wsX4_share (va_wsS RX4 102 yJ13_bitCount_95d88 wsJ13_bitCount_95d88) := goodIn_app (goodIn_of _ (by decide +kernel)) ggX4_share_J13_bitCount_95d88
set_option maxRecDepth 20000 in
theorem ggX4_share_X4_lowest : GoodIn wsX4_share wsX4_lowest := goodIn_r _ [26, 27, 28, 29, 30, 31, 32, 11, 33, 34, 35, 36] (by decide +kernel) (by decide +kernel)
set_option maxRecDepth 20000 in
theorem gX4_share_X4_lowest : GoodIn wsX4_share (va_wsS RX4 116 yX4_lowest wsX4_lowest) := goodIn_app (goodIn_of _ (by decide +kernel)) ggX4_share_X4_lowest
set_option maxRecDepth 20000 in
theorem ggX4_share_X4_boundAbove : GoodIn wsX4_share wsX4_boundAbove := goodIn_r _ [39] (by decide +kernel) (by decide +kernel)
set_option maxRecDepth 20000 in
theorem gX4_share_X4_boundAbove : GoodIn wsX4_share (va_wsS RX4 120 yX4_boundAbove wsX4_boundAbove) := goodIn_app (goodIn_of _ (by decide +kernel)) ggX4_share_X4_boundAbove
set_option maxRecDepth 20000 in
theorem ggX4_share_X4_boundBelow : GoodIn wsX4_share wsX4_boundBelow := goodIn_r _ [42] (by decide +kernel) (by decide +kernel)
set_option maxRecDepth 20000 in
theorem gX4_share_X4_boundBelow : GoodIn wsX4_share (va_wsS RX4 123 yX4_boundBelow wsX4_boundBelow) := goodIn_app (goodIn_of _ (by decide +kernel)) ggX4_share_X4_boundBelow
theorem dX4_share_0 : decode cX4_share 0 = .ok (.aload_n 0, 1) := by decide +kernel
theorem dX4_share_1 : decode cX4_share 1 = .ok (.getfield 19, 3) := by decide +kernel
theorem dX4_share_4 : decode cX4_share 4 = .ok (.iload_n 1, 1) := by decide +kernel
theorem dX4_share_5 : decode cX4_share 5 = .ok (.invokevirtual 84, 3) := by decide +kernel
theorem dX4_share_8 : decode cX4_share 8 = .ok (.ifCond .ne 7, 3) := by decide +kernel
theorem dX4_share_11 : decode cX4_share 11 = .ok (.ldc2_w 109, 3) := by decide +kernel
theorem dX4_share_14 : decode cX4_share 14 = .ok (.lreturn, 1) := by decide +kernel
theorem dX4_share_15 : decode cX4_share 15 = .ok (.iload_n 2, 1) := by decide +kernel
theorem dX4_share_16 : decode cX4_share 16 = .ok (.iconst 0, 1) := by decide +kernel
theorem dX4_share_17 : decode cX4_share 17 = .ok (.iconst 1, 1) := by decide +kernel
theorem dX4_share_18 : decode cX4_share 18 = .ok (.invokestatic 37, 3) := by decide +kernel
theorem dX4_share_21 : decode cX4_share 21 = .ok (.ifCond .eq 10, 3) := by decide +kernel
theorem dX4_share_24 : decode cX4_share 24 = .ok (.iload_n 3, 1) := by decide +kernel
theorem dX4_share_25 : decode cX4_share 25 = .ok (.invokestatic 111, 3) := by decide +kernel
theorem dX4_share_28 : decode cX4_share 28 = .ok (.ifCond .ne 7, 3) := by decide +kernel
theorem dX4_share_31 : decode cX4_share 31 = .ok (.ldc2_w 114, 3) := by decide +kernel
theorem dX4_share_34 : decode cX4_share 34 = .ok (.lreturn, 1) := by decide +kernel
theorem dX4_share_35 : decode cX4_share 35 = .ok (.aload_n 0, 1) := by decide +kernel
theorem dX4_share_36 : decode cX4_share 36 = .ok (.getfield 19, 3) := by decide +kernel
theorem dX4_share_39 : decode cX4_share 39 = .ok (.getfield 98, 3) := by decide +kernel
theorem dX4_share_42 : decode cX4_share 42 = .ok (.iload_n 1, 1) := by decide +kernel
theorem dX4_share_43 : decode cX4_share 43 = .ok (.laload, 1) := by decide +kernel
theorem dX4_share_44 : decode cX4_share 44 = .ok (.invokestatic 102, 3) := by decide +kernel
theorem dX4_share_47 : decode cX4_share 47 = .ok (.istore 4, 2) := by decide +kernel
theorem dX4_share_49 : decode cX4_share 49 = .ok (.aload_n 0, 1) := by decide +kernel
theorem dX4_share_50 : decode cX4_share 50 = .ok (.getfield 19, 3) := by decide +kernel
theorem dX4_share_53 : decode cX4_share 53 = .ok (.getfield 98, 3) := by decide +kernel
theorem dX4_share_56 : decode cX4_share 56 = .ok (.iload_n 1, 1) := by decide +kernel
theorem dX4_share_57 : decode cX4_share 57 = .ok (.laload, 1) := by decide +kernel
theorem dX4_share_58 : decode cX4_share 58 = .ok (.aload_n 0, 1) := by decide +kernel
theorem dX4_share_59 : decode cX4_share 59 = .ok (.getfield 19, 3) := by decide +kernel
theorem dX4_share_62 : decode cX4_share 62 = .ok (.getfield 108, 3) := by decide +kernel
theorem dX4_share_65 : decode cX4_share 65 = .ok (.land, 1) := by decide +kernel
theorem dX4_share_66 : decode cX4_share 66 = .ok (.invokestatic 102, 3) := by decide +kernel
theorem dX4_share_69 : decode cX4_share 69 = .ok (.istore 5, 2) := by decide +kernel
theorem dX4_share_71 : decode cX4_share 71 = .ok (.iload_n 2, 1) := by decide +kernel
theorem dX4_share_72 : decode cX4_share 72 = .ok (.ifCond .ne 16, 3) := by decide +kernel
theorem dX4_share_75 : decode cX4_share 75 = .ok (.iload 5, 2) := by decide +kernel
theorem dX4_share_77 : decode cX4_share 77 = .ok (.i2l, 1) := by decide +kernel
theorem dX4_share_78 : decode cX4_share 78 = .ok (.iload 4, 2) := by decide +kernel
theorem dX4_share_80 : decode cX4_share 80 = .ok (.i2l, 1) := by decide +kernel
theorem dX4_share_81 : decode cX4_share 81 = .ok (.iload_n 3, 1) := by decide +kernel
theorem dX4_share_82 : decode cX4_share 82 = .ok (.invokestatic 116, 3) := by decide +kernel
theorem dX4_share_85 : decode cX4_share 85 = .ok (.goto 19, 3) := by decide +kernel
theorem dX4_share_88 : decode cX4_share 88 = .ok (.iload 5, 2) := by decide +kernel
theorem dX4_share_90 : decode cX4_share 90 = .ok (.invokestatic 120, 3) := by decide +kernel
theorem dX4_share_93 : decode cX4_share 93 = .ok (.i2l, 1) := by decide +kernel
theorem dX4_share_94 : decode cX4_share 94 = .ok (.iload 4, 2) := by decide +kernel
theorem dX4_share_96 : decode cX4_share 96 = .ok (.invokestatic 123, 3) := by decide +kernel
theorem dX4_share_99 : decode cX4_share 99 = .ok (.i2l, 1) := by decide +kernel
theorem dX4_share_100 : decode cX4_share 100 = .ok (.iload_n 3, 1) := by decide +kernel
theorem dX4_share_101 : decode cX4_share 101 = .ok (.invokestatic 116, 3) := by decide +kernel
theorem dX4_share_104 : decode cX4_share 104 = .ok (.lreturn, 1) := by decide +kernel
set_option maxRecDepth 20000 in
theorem ggX4_gap_X4_isColumn : GoodIn wsX4_gap wsX4_isColumn := goodIn_r _ [9, 10, 11, 8, 12] (by decide +kernel) (by decide +kernel)
set_option maxRecDepth 20000 in
theorem gX4_gap_X4_isColumn : GoodIn wsX4_gap (va_wsS RX4 55 yX4_isColumn wsX4_isColumn) := goodIn_app (goodIn_of _ (by decide +kernel)) ggX4_gap_X4_isColumn
set_option maxRecDepth 20000 in
theorem ggX4_gap_X4_isSort : GoodIn wsX4_gap wsX4_isSort := goodIn_r _ [15, 10, 11, 8, 12] (by decide +kernel) (by decide +kernel)
set_option maxRecDepth 20000 in
theorem gX4_gap_X4_isSort : GoodIn wsX4_gap (va_wsS RX4 126 yX4_isSort wsX4_isSort) := goodIn_app (goodIn_of _ (by decide +kernel)) ggX4_gap_X4_isSort
set_option maxRecDepth 20000 in
theorem ggX4_gap_X4_isPart : GoodIn wsX4_gap wsX4_isPart := goodIn_r _ [18, 10, 11, 8, 12] (by decide +kernel) (by decide +kernel)
set_option maxRecDepth 20000 in
theorem gX4_gap_X4_isPart : GoodIn wsX4_gap (va_wsS RX4 111 yX4_isPart wsX4_isPart) := goodIn_app (goodIn_of _ (by decide +kernel)) ggX4_gap_X4_isPart
set_option maxRecDepth 20000 in
theorem ggX4_gap_X2_withSort : GoodIn wsX4_gap wsX2_withSort := goodIn_r _ [23, 24, 25, 8, 26, 51, 52, 53, 54] (by decide +kernel) (by decide +kernel)
set_option maxRecDepth 20000 in
theorem gX4_gap_X2_withSort : GoodIn wsX4_gap (wsV RX4 129 RX2 yX2_withSort wsX2_withSort) := goodIn_app (goodIn_of _ (by decide +kernel)) ggX4_gap_X2_withSort
set_option maxRecDepth 20000 in
theorem ggX4_gap_J13_bitCount_95d88 : GoodIn wsX4_gap wsJ13_bitCount_95d88 := goodIn_r _ [30, 31, 32, 33] (by decide +kernel) (by decide +kernel)
set_option maxRecDepth 20000 in
theorem gX4_gap_J13_bitCount_95d88 : GoodIn wsX4_gap (va_wsS RX4 102 yJ13_bitCount_95d88 wsJ13_bitCount_95d88) := goodIn_app (goodIn_of _ (by decide +kernel)) ggX4_gap_J13_bitCount_95d88
set_option maxRecDepth 20000 in
theorem ggX4_gap_X4_lowest : GoodIn wsX4_gap wsX4_lowest := goodIn_r _ [36, 37, 38, 39, 40, 41, 42, 8, 43, 44, 45, 46] (by decide +kernel) (by decide +kernel)
set_option maxRecDepth 20000 in
theorem gX4_gap_X4_lowest : GoodIn wsX4_gap (va_wsS RX4 116 yX4_lowest wsX4_lowest) := goodIn_app (goodIn_of _ (by decide +kernel)) ggX4_gap_X4_lowest
theorem dX4_gap_0 : decode cX4_gap 0 = .ok (.iload_n 1, 1) := by decide +kernel
theorem dX4_gap_1 : decode cX4_gap 1 = .ok (.invokestatic 55, 3) := by decide +kernel
theorem dX4_gap_4 : decode cX4_gap 4 = .ok (.ifCond .ne 7, 3) := by decide +kernel
theorem dX4_gap_7 : decode cX4_gap 7 = .ok (.ldc2_w 109, 3) := by decide +kernel
theorem dX4_gap_10 : decode cX4_gap 10 = .ok (.lreturn, 1) := by decide +kernel
theorem dX4_gap_11 : decode cX4_gap 11 = .ok (.iload_n 2, 1) := by decide +kernel
theorem dX4_gap_12 : decode cX4_gap 12 = .ok (.invokestatic 126, 3) := by decide +kernel
theorem dX4_gap_15 : decode cX4_gap 15 = .ok (.ifCond .eq 18, 3) := by decide +kernel
theorem dX4_gap_18 : decode cX4_gap 18 = .ok (.iload_n 3, 1) := by decide +kernel
theorem dX4_gap_19 : decode cX4_gap 19 = .ok (.invokestatic 126, 3) := by decide +kernel
theorem dX4_gap_22 : decode cX4_gap 22 = .ok (.ifCond .eq 11, 3) := by decide +kernel
theorem dX4_gap_25 : decode cX4_gap 25 = .ok (.iload 4, 2) := by decide +kernel
theorem dX4_gap_27 : decode cX4_gap 27 = .ok (.invokestatic 111, 3) := by decide +kernel
theorem dX4_gap_30 : decode cX4_gap 30 = .ok (.ifCond .ne 7, 3) := by decide +kernel
theorem dX4_gap_33 : decode cX4_gap 33 = .ok (.ldc2_w 114, 3) := by decide +kernel
theorem dX4_gap_36 : decode cX4_gap 36 = .ok (.lreturn, 1) := by decide +kernel
theorem dX4_gap_37 : decode cX4_gap 37 = .ok (.aload_n 0, 1) := by decide +kernel
theorem dX4_gap_38 : decode cX4_gap 38 = .ok (.getfield 10, 3) := by decide +kernel
theorem dX4_gap_41 : decode cX4_gap 41 = .ok (.iload_n 1, 1) := by decide +kernel
theorem dX4_gap_42 : decode cX4_gap 42 = .ok (.iload_n 2, 1) := by decide +kernel
theorem dX4_gap_43 : decode cX4_gap 43 = .ok (.invokevirtual 129, 3) := by decide +kernel
theorem dX4_gap_46 : decode cX4_gap 46 = .ok (.lstore 5, 2) := by decide +kernel
theorem dX4_gap_48 : decode cX4_gap 48 = .ok (.aload_n 0, 1) := by decide +kernel
theorem dX4_gap_49 : decode cX4_gap 49 = .ok (.getfield 10, 3) := by decide +kernel
theorem dX4_gap_52 : decode cX4_gap 52 = .ok (.iload_n 1, 1) := by decide +kernel
theorem dX4_gap_53 : decode cX4_gap 53 = .ok (.iload_n 3, 1) := by decide +kernel
theorem dX4_gap_54 : decode cX4_gap 54 = .ok (.invokevirtual 129, 3) := by decide +kernel
theorem dX4_gap_57 : decode cX4_gap 57 = .ok (.lstore 7, 2) := by decide +kernel
theorem dX4_gap_59 : decode cX4_gap 59 = .ok (.lload 5, 2) := by decide +kernel
theorem dX4_gap_61 : decode cX4_gap 61 = .ok (.lconst 0, 1) := by decide +kernel
theorem dX4_gap_62 : decode cX4_gap 62 = .ok (.lcmp, 1) := by decide +kernel
theorem dX4_gap_63 : decode cX4_gap 63 = .ok (.ifCond .eq 10, 3) := by decide +kernel
theorem dX4_gap_66 : decode cX4_gap 66 = .ok (.lload 7, 2) := by decide +kernel
theorem dX4_gap_68 : decode cX4_gap 68 = .ok (.lconst 0, 1) := by decide +kernel
theorem dX4_gap_69 : decode cX4_gap 69 = .ok (.lcmp, 1) := by decide +kernel
theorem dX4_gap_70 : decode cX4_gap 70 = .ok (.ifCond .ne 13, 3) := by decide +kernel
theorem dX4_gap_73 : decode cX4_gap 73 = .ok (.new 133, 3) := by decide +kernel
theorem dX4_gap_76 : decode cX4_gap 76 = .ok (.dup, 1) := by decide +kernel
theorem dX4_gap_77 : decode cX4_gap 77 = .ok (.ldc 135, 2) := by decide +kernel
theorem dX4_gap_79 : decode cX4_gap 79 = .ok (.invokespecial 137, 3) := by decide +kernel
theorem dX4_gap_82 : decode cX4_gap 82 = .ok (.athrow, 1) := by decide +kernel
theorem dX4_gap_83 : decode cX4_gap 83 = .ok (.lload 5, 2) := by decide +kernel
theorem dX4_gap_85 : decode cX4_gap 85 = .ok (.invokestatic 102, 3) := by decide +kernel
theorem dX4_gap_88 : decode cX4_gap 88 = .ok (.istore 9, 2) := by decide +kernel
theorem dX4_gap_90 : decode cX4_gap 90 = .ok (.lload 7, 2) := by decide +kernel
theorem dX4_gap_92 : decode cX4_gap 92 = .ok (.invokestatic 102, 3) := by decide +kernel
theorem dX4_gap_95 : decode cX4_gap 95 = .ok (.istore 10, 2) := by decide +kernel
theorem dX4_gap_97 : decode cX4_gap 97 = .ok (.lload 5, 2) := by decide +kernel
theorem dX4_gap_99 : decode cX4_gap 99 = .ok (.aload_n 0, 1) := by decide +kernel
theorem dX4_gap_100 : decode cX4_gap 100 = .ok (.getfield 10, 3) := by decide +kernel
theorem dX4_gap_103 : decode cX4_gap 103 = .ok (.getfield 67, 3) := by decide +kernel
theorem dX4_gap_106 : decode cX4_gap 106 = .ok (.land, 1) := by decide +kernel
theorem dX4_gap_107 : decode cX4_gap 107 = .ok (.invokestatic 102, 3) := by decide +kernel
theorem dX4_gap_110 : decode cX4_gap 110 = .ok (.istore 11, 2) := by decide +kernel
theorem dX4_gap_112 : decode cX4_gap 112 = .ok (.lload 7, 2) := by decide +kernel
theorem dX4_gap_114 : decode cX4_gap 114 = .ok (.aload_n 0, 1) := by decide +kernel
theorem dX4_gap_115 : decode cX4_gap 115 = .ok (.getfield 10, 3) := by decide +kernel
theorem dX4_gap_118 : decode cX4_gap 118 = .ok (.getfield 67, 3) := by decide +kernel
theorem dX4_gap_121 : decode cX4_gap 121 = .ok (.land, 1) := by decide +kernel
theorem dX4_gap_122 : decode cX4_gap 122 = .ok (.invokestatic 102, 3) := by decide +kernel
theorem dX4_gap_125 : decode cX4_gap 125 = .ok (.istore 12, 2) := by decide +kernel
theorem dX4_gap_127 : decode cX4_gap 127 = .ok (.iload 11, 2) := by decide +kernel
theorem dX4_gap_129 : decode cX4_gap 129 = .ok (.iload 10, 2) := by decide +kernel
theorem dX4_gap_131 : decode cX4_gap 131 = .ok (.imul, 1) := by decide +kernel
theorem dX4_gap_132 : decode cX4_gap 132 = .ok (.iload 12, 2) := by decide +kernel
theorem dX4_gap_134 : decode cX4_gap 134 = .ok (.iload 9, 2) := by decide +kernel
theorem dX4_gap_136 : decode cX4_gap 136 = .ok (.imul, 1) := by decide +kernel
theorem dX4_gap_137 : decode cX4_gap 137 = .ok (.isub, 1) := by decide +kernel
theorem dX4_gap_138 : decode cX4_gap 138 = .ok (.i2l, 1) := by decide +kernel
theorem dX4_gap_139 : decode cX4_gap 139 = .ok (.iload 9, 2) := by decide +kernel
theorem dX4_gap_141 : decode cX4_gap 141 = .ok (.iload 10, 2) := by decide +kernel
theorem dX4_gap_143 : decode cX4_gap 143 = .ok (.imul, 1) := by decide +kernel
theorem dX4_gap_144 : decode cX4_gap 144 = .ok (.i2l, 1) := by decide +kernel
theorem dX4_gap_145 : decode cX4_gap 145 = .ok (.iload 4, 2) := by decide +kernel
theorem dX4_gap_147 : decode cX4_gap 147 = .ok (.invokestatic 116, 3) := by decide +kernel
theorem dX4_gap_150 : decode cX4_gap 150 = .ok (.lreturn, 1) := by decide +kernel
set_option maxRecDepth 20000 in
theorem ggX4_window_X4_areTimes : GoodIn wsX4_window wsX4_areTimes := goodIn_r _ [6] (by decide +kernel) (by decide +kernel)
set_option maxRecDepth 20000 in
theorem gX4_window_X4_areTimes : GoodIn wsX4_window (va_wsS RX4 140 yX4_areTimes wsX4_areTimes) := goodIn_app (goodIn_of _ (by decide +kernel)) ggX4_window_X4_areTimes
set_option maxRecDepth 20000 in
theorem ggX4_window_X2_between : GoodIn wsX4_window wsX2_between := goodIn_r _ [11, 12, 13, 25, 26, 27, 28] (by decide +kernel) (by decide +kernel)
set_option maxRecDepth 20000 in
theorem gX4_window_X2_between : GoodIn wsX4_window (wsV RX4 143 RX2 yX2_between wsX2_between) := goodIn_app (goodIn_of _ (by decide +kernel)) ggX4_window_X2_between
set_option maxRecDepth 20000 in
theorem ggX4_window_J13_bitCount_95d88 : GoodIn wsX4_window wsJ13_bitCount_95d88 := goodIn_r _ [17, 18, 19, 20] (by decide +kernel) (by decide +kernel)
set_option maxRecDepth 20000 in
theorem gX4_window_J13_bitCount_95d88 : GoodIn wsX4_window (va_wsS RX4 102 yJ13_bitCount_95d88 wsJ13_bitCount_95d88) := goodIn_app (goodIn_of _ (by decide +kernel)) ggX4_window_J13_bitCount_95d88
theorem dX4_window_0 : decode cX4_window 0 = .ok (.iload_n 1, 1) := by decide +kernel
theorem dX4_window_1 : decode cX4_window 1 = .ok (.iload_n 1, 1) := by decide +kernel
theorem dX4_window_2 : decode cX4_window 2 = .ok (.iload_n 2, 1) := by decide +kernel
theorem dX4_window_3 : decode cX4_window 3 = .ok (.invokestatic 140, 3) := by decide +kernel
theorem dX4_window_6 : decode cX4_window 6 = .ok (.ifCond .ne 6, 3) := by decide +kernel
theorem dX4_window_9 : decode cX4_window 9 = .ok (.ldc 41, 2) := by decide +kernel
theorem dX4_window_11 : decode cX4_window 11 = .ok (.ireturn, 1) := by decide +kernel
theorem dX4_window_12 : decode cX4_window 12 = .ok (.aload_n 0, 1) := by decide +kernel
theorem dX4_window_13 : decode cX4_window 13 = .ok (.getfield 10, 3) := by decide +kernel
theorem dX4_window_16 : decode cX4_window 16 = .ok (.iload_n 1, 1) := by decide +kernel
theorem dX4_window_17 : decode cX4_window 17 = .ok (.iload_n 2, 1) := by decide +kernel
theorem dX4_window_18 : decode cX4_window 18 = .ok (.invokevirtual 143, 3) := by decide +kernel
theorem dX4_window_21 : decode cX4_window 21 = .ok (.invokestatic 102, 3) := by decide +kernel
theorem dX4_window_24 : decode cX4_window 24 = .ok (.ireturn, 1) := by decide +kernel
set_option maxRecDepth 20000 in
theorem ggX4_drift_X4_isColumn : GoodIn wsX4_drift wsX4_isColumn := goodIn_r _ [9, 10, 11, 8, 12] (by decide +kernel) (by decide +kernel)
set_option maxRecDepth 20000 in
theorem gX4_drift_X4_isColumn : GoodIn wsX4_drift (va_wsS RX4 55 yX4_isColumn wsX4_isColumn) := goodIn_app (goodIn_of _ (by decide +kernel)) ggX4_drift_X4_isColumn
set_option maxRecDepth 20000 in
theorem ggX4_drift_X4_areTimes : GoodIn wsX4_drift wsX4_areTimes := goodIn_r _ [15] (by decide +kernel) (by decide +kernel)
set_option maxRecDepth 20000 in
theorem gX4_drift_X4_areTimes : GoodIn wsX4_drift (va_wsS RX4 140 yX4_areTimes wsX4_areTimes) := goodIn_app (goodIn_of _ (by decide +kernel)) ggX4_drift_X4_areTimes
set_option maxRecDepth 20000 in
theorem ggX4_drift_X4_isPart : GoodIn wsX4_drift wsX4_isPart := goodIn_r _ [18, 10, 11, 8, 12] (by decide +kernel) (by decide +kernel)
set_option maxRecDepth 20000 in
theorem gX4_drift_X4_isPart : GoodIn wsX4_drift (va_wsS RX4 111 yX4_isPart wsX4_isPart) := goodIn_app (goodIn_of _ (by decide +kernel)) ggX4_drift_X4_isPart
set_option maxRecDepth 20000 in
theorem ggX4_drift_X2_between : GoodIn wsX4_drift wsX2_between := goodIn_r _ [23, 24, 25, 68, 69, 70, 71] (by decide +kernel) (by decide +kernel)
set_option maxRecDepth 20000 in
theorem gX4_drift_X2_between : GoodIn wsX4_drift (wsV RX4 143 RX2 yX2_between wsX2_between) := goodIn_app (goodIn_of _ (by decide +kernel)) ggX4_drift_X2_between
set_option maxRecDepth 20000 in
theorem ggX4_drift_X2_driftAbove : GoodIn wsX4_drift wsX2_driftAbove := goodIn_r _ [29, 30, 31, 32, 33, 34, 35, 36, 37, 38, 39, 40, 41, 42, 43, 22, 44, 45, 46, 8, 47, 68, 69, 70, 71] (by decide +kernel) (by decide +kernel)
set_option maxRecDepth 20000 in
theorem gX4_drift_X2_driftAbove : GoodIn wsX4_drift (wsV RX4 148 RX2 yX2_driftAbove wsX2_driftAbove) := goodIn_app (goodIn_of _ (by decide +kernel)) ggX4_drift_X2_driftAbove
set_option maxRecDepth 20000 in
theorem ggX4_drift_X4_driftBelow : GoodIn wsX4_drift wsX4_driftBelow := goodIn_r _ [50, 51, 35, 36, 37, 38, 39, 40] (by decide +kernel) (by decide +kernel)
set_option maxRecDepth 20000 in
theorem gX4_drift_X4_driftBelow : GoodIn wsX4_drift (va_wsS RX4 152 yX4_driftBelow wsX4_driftBelow) := goodIn_app (goodIn_of _ (by decide +kernel)) ggX4_drift_X4_driftBelow
set_option maxRecDepth 20000 in
theorem ggX4_drift_X4_lowest : GoodIn wsX4_drift wsX4_lowest := goodIn_r _ [54, 55, 56, 32, 57, 58, 59, 8, 60, 61, 62, 63] (by decide +kernel) (by decide +kernel)
set_option maxRecDepth 20000 in
theorem gX4_drift_X4_lowest : GoodIn wsX4_drift (va_wsS RX4 116 yX4_lowest wsX4_lowest) := goodIn_app (goodIn_of _ (by decide +kernel)) ggX4_drift_X4_lowest
theorem dX4_drift_0 : decode cX4_drift 0 = .ok (.iload_n 1, 1) := by decide +kernel
theorem dX4_drift_1 : decode cX4_drift 1 = .ok (.invokestatic 55, 3) := by decide +kernel
theorem dX4_drift_4 : decode cX4_drift 4 = .ok (.ifCond .ne 7, 3) := by decide +kernel
theorem dX4_drift_7 : decode cX4_drift 7 = .ok (.ldc2_w 109, 3) := by decide +kernel
theorem dX4_drift_10 : decode cX4_drift 10 = .ok (.lreturn, 1) := by decide +kernel
theorem dX4_drift_11 : decode cX4_drift 11 = .ok (.iload_n 2, 1) := by decide +kernel
theorem dX4_drift_12 : decode cX4_drift 12 = .ok (.iload_n 3, 1) := by decide +kernel
theorem dX4_drift_13 : decode cX4_drift 13 = .ok (.iload 4, 2) := by decide +kernel
theorem dX4_drift_15 : decode cX4_drift 15 = .ok (.invokestatic 140, 3) := by decide +kernel
theorem dX4_drift_18 : decode cX4_drift 18 = .ok (.ifCond .eq 11, 3) := by decide +kernel
theorem dX4_drift_21 : decode cX4_drift 21 = .ok (.iload 5, 2) := by decide +kernel
theorem dX4_drift_23 : decode cX4_drift 23 = .ok (.invokestatic 111, 3) := by decide +kernel
theorem dX4_drift_26 : decode cX4_drift 26 = .ok (.ifCond .ne 7, 3) := by decide +kernel
theorem dX4_drift_29 : decode cX4_drift 29 = .ok (.ldc2_w 114, 3) := by decide +kernel
theorem dX4_drift_32 : decode cX4_drift 32 = .ok (.lreturn, 1) := by decide +kernel
theorem dX4_drift_33 : decode cX4_drift 33 = .ok (.aload_n 0, 1) := by decide +kernel
theorem dX4_drift_34 : decode cX4_drift 34 = .ok (.getfield 10, 3) := by decide +kernel
theorem dX4_drift_37 : decode cX4_drift 37 = .ok (.iload_n 2, 1) := by decide +kernel
theorem dX4_drift_38 : decode cX4_drift 38 = .ok (.iload_n 3, 1) := by decide +kernel
theorem dX4_drift_39 : decode cX4_drift 39 = .ok (.invokevirtual 143, 3) := by decide +kernel
theorem dX4_drift_42 : decode cX4_drift 42 = .ok (.lstore 6, 2) := by decide +kernel
theorem dX4_drift_44 : decode cX4_drift 44 = .ok (.aload_n 0, 1) := by decide +kernel
theorem dX4_drift_45 : decode cX4_drift 45 = .ok (.getfield 10, 3) := by decide +kernel
theorem dX4_drift_48 : decode cX4_drift 48 = .ok (.iload_n 3, 1) := by decide +kernel
theorem dX4_drift_49 : decode cX4_drift 49 = .ok (.iload 4, 2) := by decide +kernel
theorem dX4_drift_51 : decode cX4_drift 51 = .ok (.invokevirtual 143, 3) := by decide +kernel
theorem dX4_drift_54 : decode cX4_drift 54 = .ok (.lstore 8, 2) := by decide +kernel
theorem dX4_drift_56 : decode cX4_drift 56 = .ok (.lload 6, 2) := by decide +kernel
theorem dX4_drift_58 : decode cX4_drift 58 = .ok (.lconst 0, 1) := by decide +kernel
theorem dX4_drift_59 : decode cX4_drift 59 = .ok (.lcmp, 1) := by decide +kernel
theorem dX4_drift_60 : decode cX4_drift 60 = .ok (.ifCond .eq 10, 3) := by decide +kernel
theorem dX4_drift_63 : decode cX4_drift 63 = .ok (.lload 8, 2) := by decide +kernel
theorem dX4_drift_65 : decode cX4_drift 65 = .ok (.lconst 0, 1) := by decide +kernel
theorem dX4_drift_66 : decode cX4_drift 66 = .ok (.lcmp, 1) := by decide +kernel
theorem dX4_drift_67 : decode cX4_drift 67 = .ok (.ifCond .ne 13, 3) := by decide +kernel
theorem dX4_drift_70 : decode cX4_drift 70 = .ok (.new 133, 3) := by decide +kernel
theorem dX4_drift_73 : decode cX4_drift 73 = .ok (.dup, 1) := by decide +kernel
theorem dX4_drift_74 : decode cX4_drift 74 = .ok (.ldc 146, 2) := by decide +kernel
theorem dX4_drift_76 : decode cX4_drift 76 = .ok (.invokespecial 137, 3) := by decide +kernel
theorem dX4_drift_79 : decode cX4_drift 79 = .ok (.athrow, 1) := by decide +kernel
theorem dX4_drift_80 : decode cX4_drift 80 = .ok (.aload_n 0, 1) := by decide +kernel
theorem dX4_drift_81 : decode cX4_drift 81 = .ok (.getfield 10, 3) := by decide +kernel
theorem dX4_drift_84 : decode cX4_drift 84 = .ok (.iload_n 1, 1) := by decide +kernel
theorem dX4_drift_85 : decode cX4_drift 85 = .ok (.lload 6, 2) := by decide +kernel
theorem dX4_drift_87 : decode cX4_drift 87 = .ok (.lload 8, 2) := by decide +kernel
theorem dX4_drift_89 : decode cX4_drift 89 = .ok (.invokevirtual 148, 3) := by decide +kernel
theorem dX4_drift_92 : decode cX4_drift 92 = .ok (.i2l, 1) := by decide +kernel
theorem dX4_drift_93 : decode cX4_drift 93 = .ok (.lload 6, 2) := by decide +kernel
theorem dX4_drift_95 : decode cX4_drift 95 = .ok (.lload 8, 2) := by decide +kernel
theorem dX4_drift_97 : decode cX4_drift 97 = .ok (.invokestatic 152, 3) := by decide +kernel
theorem dX4_drift_100 : decode cX4_drift 100 = .ok (.i2l, 1) := by decide +kernel
theorem dX4_drift_101 : decode cX4_drift 101 = .ok (.iload 5, 2) := by decide +kernel
theorem dX4_drift_103 : decode cX4_drift 103 = .ok (.invokestatic 116, 3) := by decide +kernel
theorem dX4_drift_106 : decode cX4_drift 106 = .ok (.lreturn, 1) := by decide +kernel
set_option maxRecDepth 20000 in
theorem ggX4_rise_X4_isColumn : GoodIn wsX4_rise wsX4_isColumn := goodIn_r _ [8, 9, 10, 7, 11] (by decide +kernel) (by decide +kernel)
set_option maxRecDepth 20000 in
theorem gX4_rise_X4_isColumn : GoodIn wsX4_rise (va_wsS RX4 55 yX4_isColumn wsX4_isColumn) := goodIn_app (goodIn_of _ (by decide +kernel)) ggX4_rise_X4_isColumn
set_option maxRecDepth 20000 in
theorem ggX4_rise_X4_areTimes : GoodIn wsX4_rise wsX4_areTimes := goodIn_r _ [14] (by decide +kernel) (by decide +kernel)
set_option maxRecDepth 20000 in
theorem gX4_rise_X4_areTimes : GoodIn wsX4_rise (va_wsS RX4 140 yX4_areTimes wsX4_areTimes) := goodIn_app (goodIn_of _ (by decide +kernel)) ggX4_rise_X4_areTimes
set_option maxRecDepth 20000 in
theorem ggX4_rise_X2_between : GoodIn wsX4_rise wsX2_between := goodIn_r _ [19, 20, 21, 53, 54, 55, 56] (by decide +kernel) (by decide +kernel)
set_option maxRecDepth 20000 in
theorem gX4_rise_X2_between : GoodIn wsX4_rise (wsV RX4 143 RX2 yX2_between wsX2_between) := goodIn_app (goodIn_of _ (by decide +kernel)) ggX4_rise_X2_between
set_option maxRecDepth 20000 in
theorem ggX4_rise_X1_take : GoodIn wsX4_rise wsX1_take := goodIn_r _ [26, 27, 28, 29, 30, 31, 32, 33, 18, 34, 35, 36, 7, 37, 38, 39, 40, 41, 42, 43, 44, 57, 58, 59, 60, 61, 53, 54, 55, 56] (by decide +kernel) (by decide +kernel)
set_option maxRecDepth 20000 in
theorem gX4_rise_X1_take : GoodIn wsX4_rise (wsV RX4 156 RX1 yX1_take wsX1_take) := goodIn_app (goodIn_of _ (by decide +kernel)) ggX4_rise_X1_take
set_option maxRecDepth 20000 in
theorem ggX4_rise_X1_risen : GoodIn wsX4_rise wsX1_risen := goodIn_r _ [48, 30, 29, 57, 58, 59, 60, 61] (by decide +kernel) (by decide +kernel)
set_option maxRecDepth 20000 in
theorem gX4_rise_X1_risen : GoodIn wsX4_rise (wsV RX4 160 RX1 yX1_risen wsX1_risen) := goodIn_app (goodIn_of _ (by decide +kernel)) ggX4_rise_X1_risen
theorem dX4_rise_0 : decode cX4_rise 0 = .ok (.iload_n 1, 1) := by decide +kernel
theorem dX4_rise_1 : decode cX4_rise 1 = .ok (.invokestatic 55, 3) := by decide +kernel
theorem dX4_rise_4 : decode cX4_rise 4 = .ok (.ifCond .ne 6, 3) := by decide +kernel
theorem dX4_rise_7 : decode cX4_rise 7 = .ok (.ldc 58, 2) := by decide +kernel
theorem dX4_rise_9 : decode cX4_rise 9 = .ok (.ireturn, 1) := by decide +kernel
theorem dX4_rise_10 : decode cX4_rise 10 = .ok (.iload_n 2, 1) := by decide +kernel
theorem dX4_rise_11 : decode cX4_rise 11 = .ok (.iload_n 3, 1) := by decide +kernel
theorem dX4_rise_12 : decode cX4_rise 12 = .ok (.iload 4, 2) := by decide +kernel
theorem dX4_rise_14 : decode cX4_rise 14 = .ok (.invokestatic 140, 3) := by decide +kernel
theorem dX4_rise_17 : decode cX4_rise 17 = .ok (.ifCond .ne 6, 3) := by decide +kernel
theorem dX4_rise_20 : decode cX4_rise 20 = .ok (.ldc 41, 2) := by decide +kernel
theorem dX4_rise_22 : decode cX4_rise 22 = .ok (.ireturn, 1) := by decide +kernel
theorem dX4_rise_23 : decode cX4_rise 23 = .ok (.aload_n 0, 1) := by decide +kernel
theorem dX4_rise_24 : decode cX4_rise 24 = .ok (.getfield 26, 3) := by decide +kernel
theorem dX4_rise_27 : decode cX4_rise 27 = .ok (.aload_n 0, 1) := by decide +kernel
theorem dX4_rise_28 : decode cX4_rise 28 = .ok (.getfield 10, 3) := by decide +kernel
theorem dX4_rise_31 : decode cX4_rise 31 = .ok (.iload_n 1, 1) := by decide +kernel
theorem dX4_rise_32 : decode cX4_rise 32 = .ok (.aload_n 0, 1) := by decide +kernel
theorem dX4_rise_33 : decode cX4_rise 33 = .ok (.getfield 10, 3) := by decide +kernel
theorem dX4_rise_36 : decode cX4_rise 36 = .ok (.iload_n 2, 1) := by decide +kernel
theorem dX4_rise_37 : decode cX4_rise 37 = .ok (.iload_n 3, 1) := by decide +kernel
theorem dX4_rise_38 : decode cX4_rise 38 = .ok (.invokevirtual 143, 3) := by decide +kernel
theorem dX4_rise_41 : decode cX4_rise 41 = .ok (.aload_n 0, 1) := by decide +kernel
theorem dX4_rise_42 : decode cX4_rise 42 = .ok (.getfield 10, 3) := by decide +kernel
theorem dX4_rise_45 : decode cX4_rise 45 = .ok (.iload_n 3, 1) := by decide +kernel
theorem dX4_rise_46 : decode cX4_rise 46 = .ok (.iload 4, 2) := by decide +kernel
theorem dX4_rise_48 : decode cX4_rise 48 = .ok (.invokevirtual 143, 3) := by decide +kernel
theorem dX4_rise_51 : decode cX4_rise 51 = .ok (.invokevirtual 156, 3) := by decide +kernel
theorem dX4_rise_54 : decode cX4_rise 54 = .ok (.aload_n 0, 1) := by decide +kernel
theorem dX4_rise_55 : decode cX4_rise 55 = .ok (.getfield 26, 3) := by decide +kernel
theorem dX4_rise_58 : decode cX4_rise 58 = .ok (.invokevirtual 160, 3) := by decide +kernel
theorem dX4_rise_61 : decode cX4_rise 61 = .ok (.ireturn, 1) := by decide +kernel
set_option maxRecDepth 20000 in
theorem ggX4_odds_X4_isColumn : GoodIn wsX4_odds wsX4_isColumn := goodIn_r _ [9, 10, 11, 8, 12] (by decide +kernel) (by decide +kernel)
set_option maxRecDepth 20000 in
theorem gX4_odds_X4_isColumn : GoodIn wsX4_odds (va_wsS RX4 55 yX4_isColumn wsX4_isColumn) := goodIn_app (goodIn_of _ (by decide +kernel)) ggX4_odds_X4_isColumn
set_option maxRecDepth 20000 in
theorem ggX4_odds_X4_areTimes : GoodIn wsX4_odds wsX4_areTimes := goodIn_r _ [15] (by decide +kernel) (by decide +kernel)
set_option maxRecDepth 20000 in
theorem gX4_odds_X4_areTimes : GoodIn wsX4_odds (va_wsS RX4 140 yX4_areTimes wsX4_areTimes) := goodIn_app (goodIn_of _ (by decide +kernel)) ggX4_odds_X4_areTimes
set_option maxRecDepth 20000 in
theorem ggX4_odds_X4_isPart : GoodIn wsX4_odds wsX4_isPart := goodIn_r _ [18, 10, 11, 8, 12] (by decide +kernel) (by decide +kernel)
set_option maxRecDepth 20000 in
theorem gX4_odds_X4_isPart : GoodIn wsX4_odds (va_wsS RX4 111 yX4_isPart wsX4_isPart) := goodIn_app (goodIn_of _ (by decide +kernel)) ggX4_odds_X4_isPart
set_option maxRecDepth 20000 in
theorem ggX4_odds_X2_between : GoodIn wsX4_odds wsX2_between := goodIn_r _ [23, 24, 25, 101, 102, 103, 104] (by decide +kernel) (by decide +kernel)
set_option maxRecDepth 20000 in
theorem gX4_odds_X2_between : GoodIn wsX4_odds (wsV RX4 143 RX2 yX2_between wsX2_between) := goodIn_app (goodIn_of _ (by decide +kernel)) ggX4_odds_X2_between
set_option maxRecDepth 20000 in
theorem ggX4_odds_X1_take : GoodIn wsX4_odds wsX1_take := goodIn_r _ [30, 31, 32, 33, 34, 35, 36, 37, 22, 38, 39, 40, 8, 41, 42, 43, 44, 45, 46, 47, 48, 96, 97, 98, 99, 100, 101, 102, 103, 104] (by decide +kernel) (by decide +kernel)
set_option maxRecDepth 20000 in
theorem gX4_odds_X1_take : GoodIn wsX4_odds (wsV RX4 156 RX1 yX1_take wsX1_take) := goodIn_app (goodIn_of _ (by decide +kernel)) ggX4_odds_X1_take
set_option maxRecDepth 20000 in
theorem ggX4_odds_X1_risen : GoodIn wsX4_odds wsX1_risen := goodIn_r _ [52, 34, 33, 96, 97, 98, 99, 100] (by decide +kernel) (by decide +kernel)
set_option maxRecDepth 20000 in
theorem gX4_odds_X1_risen : GoodIn wsX4_odds (wsV RX4 160 RX1 yX1_risen wsX1_risen) := goodIn_app (goodIn_of _ (by decide +kernel)) ggX4_odds_X1_risen
set_option maxRecDepth 20000 in
theorem ggX4_odds_X1_waysToRise : GoodIn wsX4_odds wsX1_waysToRise := goodIn_r _ [56, 31, 32, 57, 33, 34, 58, 59, 60, 61, 62, 63, 64, 65, 66, 67, 68, 29, 69, 70, 71, 72, 73, 74, 75, 76, 77, 8, 78, 96, 97, 98, 99, 100] (by decide +kernel) (by decide +kernel)
set_option maxRecDepth 20000 in
theorem gX4_odds_X1_waysToRise : GoodIn wsX4_odds (wsV RX4 172 RX1 yX1_waysToRise wsX1_waysToRise) := goodIn_app (goodIn_of _ (by decide +kernel)) ggX4_odds_X1_waysToRise
set_option maxRecDepth 20000 in
theorem ggX4_odds_X4_waysToChoose : GoodIn wsX4_odds wsX4_waysToChoose := goodIn_r _ [78] (by decide +kernel) (by decide +kernel)
set_option maxRecDepth 20000 in
theorem gX4_odds_X4_waysToChoose : GoodIn wsX4_odds (va_wsS RX4 175 yX4_waysToChoose wsX4_waysToChoose) := goodIn_app (goodIn_of _ (by decide +kernel)) ggX4_odds_X4_waysToChoose
set_option maxRecDepth 20000 in
theorem ggX4_odds_X4_lowest : GoodIn wsX4_odds wsX4_lowest := goodIn_r _ [82, 83, 84, 60, 85, 86, 87, 8, 88, 89, 90, 91] (by decide +kernel) (by decide +kernel)
set_option maxRecDepth 20000 in
theorem gX4_odds_X4_lowest : GoodIn wsX4_odds (va_wsS RX4 116 yX4_lowest wsX4_lowest) := goodIn_app (goodIn_of _ (by decide +kernel)) ggX4_odds_X4_lowest
theorem dX4_odds_0 : decode cX4_odds 0 = .ok (.iload_n 1, 1) := by decide +kernel
theorem dX4_odds_1 : decode cX4_odds 1 = .ok (.invokestatic 55, 3) := by decide +kernel
theorem dX4_odds_4 : decode cX4_odds 4 = .ok (.ifCond .ne 7, 3) := by decide +kernel
theorem dX4_odds_7 : decode cX4_odds 7 = .ok (.ldc2_w 109, 3) := by decide +kernel
theorem dX4_odds_10 : decode cX4_odds 10 = .ok (.lreturn, 1) := by decide +kernel
theorem dX4_odds_11 : decode cX4_odds 11 = .ok (.iload_n 2, 1) := by decide +kernel
theorem dX4_odds_12 : decode cX4_odds 12 = .ok (.iload_n 3, 1) := by decide +kernel
theorem dX4_odds_13 : decode cX4_odds 13 = .ok (.iload 4, 2) := by decide +kernel
theorem dX4_odds_15 : decode cX4_odds 15 = .ok (.invokestatic 140, 3) := by decide +kernel
theorem dX4_odds_18 : decode cX4_odds 18 = .ok (.ifCond .eq 11, 3) := by decide +kernel
theorem dX4_odds_21 : decode cX4_odds 21 = .ok (.iload 5, 2) := by decide +kernel
theorem dX4_odds_23 : decode cX4_odds 23 = .ok (.invokestatic 111, 3) := by decide +kernel
theorem dX4_odds_26 : decode cX4_odds 26 = .ok (.ifCond .ne 7, 3) := by decide +kernel
theorem dX4_odds_29 : decode cX4_odds 29 = .ok (.ldc2_w 114, 3) := by decide +kernel
theorem dX4_odds_32 : decode cX4_odds 32 = .ok (.lreturn, 1) := by decide +kernel
theorem dX4_odds_33 : decode cX4_odds 33 = .ok (.aload_n 0, 1) := by decide +kernel
theorem dX4_odds_34 : decode cX4_odds 34 = .ok (.getfield 26, 3) := by decide +kernel
theorem dX4_odds_37 : decode cX4_odds 37 = .ok (.aload_n 0, 1) := by decide +kernel
theorem dX4_odds_38 : decode cX4_odds 38 = .ok (.getfield 10, 3) := by decide +kernel
theorem dX4_odds_41 : decode cX4_odds 41 = .ok (.iload_n 1, 1) := by decide +kernel
theorem dX4_odds_42 : decode cX4_odds 42 = .ok (.aload_n 0, 1) := by decide +kernel
theorem dX4_odds_43 : decode cX4_odds 43 = .ok (.getfield 10, 3) := by decide +kernel
theorem dX4_odds_46 : decode cX4_odds 46 = .ok (.iload_n 2, 1) := by decide +kernel
theorem dX4_odds_47 : decode cX4_odds 47 = .ok (.iload_n 3, 1) := by decide +kernel
theorem dX4_odds_48 : decode cX4_odds 48 = .ok (.invokevirtual 143, 3) := by decide +kernel
theorem dX4_odds_51 : decode cX4_odds 51 = .ok (.aload_n 0, 1) := by decide +kernel
theorem dX4_odds_52 : decode cX4_odds 52 = .ok (.getfield 10, 3) := by decide +kernel
theorem dX4_odds_55 : decode cX4_odds 55 = .ok (.iload_n 3, 1) := by decide +kernel
theorem dX4_odds_56 : decode cX4_odds 56 = .ok (.iload 4, 2) := by decide +kernel
theorem dX4_odds_58 : decode cX4_odds 58 = .ok (.invokevirtual 143, 3) := by decide +kernel
theorem dX4_odds_61 : decode cX4_odds 61 = .ok (.invokevirtual 156, 3) := by decide +kernel
theorem dX4_odds_64 : decode cX4_odds 64 = .ok (.aload_n 0, 1) := by decide +kernel
theorem dX4_odds_65 : decode cX4_odds 65 = .ok (.getfield 26, 3) := by decide +kernel
theorem dX4_odds_68 : decode cX4_odds 68 = .ok (.getfield 164, 3) := by decide +kernel
theorem dX4_odds_71 : decode cX4_odds 71 = .ok (.aload_n 0, 1) := by decide +kernel
theorem dX4_odds_72 : decode cX4_odds 72 = .ok (.getfield 26, 3) := by decide +kernel
theorem dX4_odds_75 : decode cX4_odds 75 = .ok (.getfield 167, 3) := by decide +kernel
theorem dX4_odds_78 : decode cX4_odds 78 = .ok (.iadd, 1) := by decide +kernel
theorem dX4_odds_79 : decode cX4_odds 79 = .ok (.istore 6, 2) := by decide +kernel
theorem dX4_odds_81 : decode cX4_odds 81 = .ok (.iload 6, 2) := by decide +kernel
theorem dX4_odds_83 : decode cX4_odds 83 = .ok (.bipush 20, 2) := by decide +kernel
theorem dX4_odds_85 : decode cX4_odds 85 = .ok (.if_icmp .le 7, 3) := by decide +kernel
theorem dX4_odds_88 : decode cX4_odds 88 = .ok (.ldc2_w 170, 3) := by decide +kernel
theorem dX4_odds_91 : decode cX4_odds 91 = .ok (.lreturn, 1) := by decide +kernel
theorem dX4_odds_92 : decode cX4_odds 92 = .ok (.aload_n 0, 1) := by decide +kernel
theorem dX4_odds_93 : decode cX4_odds 93 = .ok (.getfield 26, 3) := by decide +kernel
theorem dX4_odds_96 : decode cX4_odds 96 = .ok (.aload_n 0, 1) := by decide +kernel
theorem dX4_odds_97 : decode cX4_odds 97 = .ok (.getfield 26, 3) := by decide +kernel
theorem dX4_odds_100 : decode cX4_odds 100 = .ok (.invokevirtual 160, 3) := by decide +kernel
theorem dX4_odds_103 : decode cX4_odds 103 = .ok (.invokevirtual 172, 3) := by decide +kernel
theorem dX4_odds_106 : decode cX4_odds 106 = .ok (.i2l, 1) := by decide +kernel
theorem dX4_odds_107 : decode cX4_odds 107 = .ok (.iload 6, 2) := by decide +kernel
theorem dX4_odds_109 : decode cX4_odds 109 = .ok (.aload_n 0, 1) := by decide +kernel
theorem dX4_odds_110 : decode cX4_odds 110 = .ok (.getfield 26, 3) := by decide +kernel
theorem dX4_odds_113 : decode cX4_odds 113 = .ok (.getfield 164, 3) := by decide +kernel
theorem dX4_odds_116 : decode cX4_odds 116 = .ok (.invokestatic 175, 3) := by decide +kernel
theorem dX4_odds_119 : decode cX4_odds 119 = .ok (.i2l, 1) := by decide +kernel
theorem dX4_odds_120 : decode cX4_odds 120 = .ok (.iload 5, 2) := by decide +kernel
theorem dX4_odds_122 : decode cX4_odds 122 = .ok (.invokestatic 116, 3) := by decide +kernel
theorem dX4_odds_125 : decode cX4_odds 125 = .ok (.lreturn, 1) := by decide +kernel
set_option maxRecDepth 20000 in
theorem ggX4_fresh_X4_isColumn : GoodIn wsX4_fresh wsX4_isColumn := goodIn_r _ [7, 8, 9, 6, 10] (by decide +kernel) (by decide +kernel)
set_option maxRecDepth 20000 in
theorem gX4_fresh_X4_isColumn : GoodIn wsX4_fresh (va_wsS RX4 55 yX4_isColumn wsX4_isColumn) := goodIn_app (goodIn_of _ (by decide +kernel)) ggX4_fresh_X4_isColumn
set_option maxRecDepth 20000 in
theorem ggX4_fresh_X4_areTimes : GoodIn wsX4_fresh wsX4_areTimes := goodIn_r _ [13] (by decide +kernel) (by decide +kernel)
set_option maxRecDepth 20000 in
theorem gX4_fresh_X4_areTimes : GoodIn wsX4_fresh (va_wsS RX4 140 yX4_areTimes wsX4_areTimes) := goodIn_app (goodIn_of _ (by decide +kernel)) ggX4_fresh_X4_areTimes
set_option maxRecDepth 20000 in
theorem ggX4_fresh_X2_between : GoodIn wsX4_fresh wsX2_between := goodIn_r _ [18, 19, 20, 32, 33, 34, 35] (by decide +kernel) (by decide +kernel)
set_option maxRecDepth 20000 in
theorem gX4_fresh_X2_between : GoodIn wsX4_fresh (wsV RX4 143 RX2 yX2_between wsX2_between) := goodIn_app (goodIn_of _ (by decide +kernel)) ggX4_fresh_X2_between
set_option maxRecDepth 20000 in
theorem ggX4_fresh_X2_withSort : GoodIn wsX4_fresh wsX2_withSort := goodIn_r _ [24, 25, 26, 6, 27, 32, 33, 34, 35] (by decide +kernel) (by decide +kernel)
set_option maxRecDepth 20000 in
theorem gX4_fresh_X2_withSort : GoodIn wsX4_fresh (wsV RX4 129 RX2 yX2_withSort wsX2_withSort) := goodIn_app (goodIn_of _ (by decide +kernel)) ggX4_fresh_X2_withSort
theorem dX4_fresh_0 : decode cX4_fresh 0 = .ok (.iload_n 1, 1) := by decide +kernel
theorem dX4_fresh_1 : decode cX4_fresh 1 = .ok (.invokestatic 55, 3) := by decide +kernel
theorem dX4_fresh_4 : decode cX4_fresh 4 = .ok (.ifCond .ne 6, 3) := by decide +kernel
theorem dX4_fresh_7 : decode cX4_fresh 7 = .ok (.ldc 58, 2) := by decide +kernel
theorem dX4_fresh_9 : decode cX4_fresh 9 = .ok (.ireturn, 1) := by decide +kernel
theorem dX4_fresh_10 : decode cX4_fresh 10 = .ok (.iload_n 2, 1) := by decide +kernel
theorem dX4_fresh_11 : decode cX4_fresh 11 = .ok (.iload_n 3, 1) := by decide +kernel
theorem dX4_fresh_12 : decode cX4_fresh 12 = .ok (.iload 4, 2) := by decide +kernel
theorem dX4_fresh_14 : decode cX4_fresh 14 = .ok (.invokestatic 140, 3) := by decide +kernel
theorem dX4_fresh_17 : decode cX4_fresh 17 = .ok (.ifCond .eq 9, 3) := by decide +kernel
theorem dX4_fresh_20 : decode cX4_fresh 20 = .ok (.iload 5, 2) := by decide +kernel
theorem dX4_fresh_22 : decode cX4_fresh 22 = .ok (.iconst (-1), 1) := by decide +kernel
theorem dX4_fresh_23 : decode cX4_fresh 23 = .ok (.if_icmp .ge 6, 3) := by decide +kernel
theorem dX4_fresh_26 : decode cX4_fresh 26 = .ok (.ldc 41, 2) := by decide +kernel
theorem dX4_fresh_28 : decode cX4_fresh 28 = .ok (.ireturn, 1) := by decide +kernel
theorem dX4_fresh_29 : decode cX4_fresh 29 = .ok (.aload_n 0, 1) := by decide +kernel
theorem dX4_fresh_30 : decode cX4_fresh 30 = .ok (.getfield 10, 3) := by decide +kernel
theorem dX4_fresh_33 : decode cX4_fresh 33 = .ok (.iload_n 2, 1) := by decide +kernel
theorem dX4_fresh_34 : decode cX4_fresh 34 = .ok (.iload_n 3, 1) := by decide +kernel
theorem dX4_fresh_35 : decode cX4_fresh 35 = .ok (.invokevirtual 143, 3) := by decide +kernel
theorem dX4_fresh_38 : decode cX4_fresh 38 = .ok (.lstore 6, 2) := by decide +kernel
theorem dX4_fresh_40 : decode cX4_fresh 40 = .ok (.aload_n 0, 1) := by decide +kernel
theorem dX4_fresh_41 : decode cX4_fresh 41 = .ok (.getfield 10, 3) := by decide +kernel
theorem dX4_fresh_44 : decode cX4_fresh 44 = .ok (.iload_n 3, 1) := by decide +kernel
theorem dX4_fresh_45 : decode cX4_fresh 45 = .ok (.iload 4, 2) := by decide +kernel
theorem dX4_fresh_47 : decode cX4_fresh 47 = .ok (.invokevirtual 143, 3) := by decide +kernel
theorem dX4_fresh_50 : decode cX4_fresh 50 = .ok (.lstore 8, 2) := by decide +kernel
theorem dX4_fresh_52 : decode cX4_fresh 52 = .ok (.iconst 0, 1) := by decide +kernel
theorem dX4_fresh_53 : decode cX4_fresh 53 = .ok (.istore 10, 2) := by decide +kernel
theorem dX4_fresh_55 : decode cX4_fresh 55 = .ok (.iconst 0, 1) := by decide +kernel
theorem dX4_fresh_56 : decode cX4_fresh 56 = .ok (.istore 11, 2) := by decide +kernel
theorem dX4_fresh_58 : decode cX4_fresh 58 = .ok (.iload 11, 2) := by decide +kernel
theorem dX4_fresh_60 : decode cX4_fresh 60 = .ok (.bipush 10, 2) := by decide +kernel
theorem dX4_fresh_62 : decode cX4_fresh 62 = .ok (.if_icmp .ge 54, 3) := by decide +kernel
theorem dX4_fresh_65 : decode cX4_fresh 65 = .ok (.aload_n 0, 1) := by decide +kernel
theorem dX4_fresh_66 : decode cX4_fresh 66 = .ok (.getfield 10, 3) := by decide +kernel
theorem dX4_fresh_69 : decode cX4_fresh 69 = .ok (.iload_n 1, 1) := by decide +kernel
theorem dX4_fresh_70 : decode cX4_fresh 70 = .ok (.iload 11, 2) := by decide +kernel
theorem dX4_fresh_72 : decode cX4_fresh 72 = .ok (.invokevirtual 129, 3) := by decide +kernel
theorem dX4_fresh_75 : decode cX4_fresh 75 = .ok (.lstore 12, 2) := by decide +kernel
theorem dX4_fresh_77 : decode cX4_fresh 77 = .ok (.lload 12, 2) := by decide +kernel
theorem dX4_fresh_79 : decode cX4_fresh 79 = .ok (.lload 6, 2) := by decide +kernel
theorem dX4_fresh_81 : decode cX4_fresh 81 = .ok (.land, 1) := by decide +kernel
theorem dX4_fresh_82 : decode cX4_fresh 82 = .ok (.lconst 0, 1) := by decide +kernel
theorem dX4_fresh_83 : decode cX4_fresh 83 = .ok (.lcmp, 1) := by decide +kernel
theorem dX4_fresh_84 : decode cX4_fresh 84 = .ok (.ifCond .ne 26, 3) := by decide +kernel
theorem dX4_fresh_87 : decode cX4_fresh 87 = .ok (.lload 12, 2) := by decide +kernel
theorem dX4_fresh_89 : decode cX4_fresh 89 = .ok (.lload 8, 2) := by decide +kernel
theorem dX4_fresh_91 : decode cX4_fresh 91 = .ok (.land, 1) := by decide +kernel
theorem dX4_fresh_92 : decode cX4_fresh 92 = .ok (.lconst 0, 1) := by decide +kernel
theorem dX4_fresh_93 : decode cX4_fresh 93 = .ok (.lcmp, 1) := by decide +kernel
theorem dX4_fresh_94 : decode cX4_fresh 94 = .ok (.ifCond .eq 16, 3) := by decide +kernel
theorem dX4_fresh_97 : decode cX4_fresh 97 = .ok (.iload 10, 2) := by decide +kernel
theorem dX4_fresh_99 : decode cX4_fresh 99 = .ok (.iload 5, 2) := by decide +kernel
theorem dX4_fresh_101 : decode cX4_fresh 101 = .ok (.if_icmp .ne 6, 3) := by decide +kernel
theorem dX4_fresh_104 : decode cX4_fresh 104 = .ok (.iload 11, 2) := by decide +kernel
theorem dX4_fresh_106 : decode cX4_fresh 106 = .ok (.ireturn, 1) := by decide +kernel
theorem dX4_fresh_107 : decode cX4_fresh 107 = .ok (.iinc 10 1, 3) := by decide +kernel
theorem dX4_fresh_110 : decode cX4_fresh 110 = .ok (.iinc 11 1, 3) := by decide +kernel
theorem dX4_fresh_113 : decode cX4_fresh 113 = .ok (.goto (-55), 3) := by decide +kernel
theorem dX4_fresh_116 : decode cX4_fresh 116 = .ok (.iload 5, 2) := by decide +kernel
theorem dX4_fresh_118 : decode cX4_fresh 118 = .ok (.iconst (-1), 1) := by decide +kernel
theorem dX4_fresh_119 : decode cX4_fresh 119 = .ok (.if_icmp .ne 8, 3) := by decide +kernel
theorem dX4_fresh_122 : decode cX4_fresh 122 = .ok (.iload 10, 2) := by decide +kernel
theorem dX4_fresh_124 : decode cX4_fresh 124 = .ok (.goto 4, 3) := by decide +kernel
theorem dX4_fresh_127 : decode cX4_fresh 127 = .ok (.iconst (-1), 1) := by decide +kernel
theorem dX4_fresh_128 : decode cX4_fresh 128 = .ok (.ireturn, 1) := by decide +kernel
set_option maxRecDepth 20000 in
theorem ggX4_shift_X4_isColumn : GoodIn wsX4_shift wsX4_isColumn := goodIn_r _ [10, 11, 12, 9, 13] (by decide +kernel) (by decide +kernel)
set_option maxRecDepth 20000 in
theorem gX4_shift_X4_isColumn : GoodIn wsX4_shift (va_wsS RX4 55 yX4_isColumn wsX4_isColumn) := goodIn_app (goodIn_of _ (by decide +kernel)) ggX4_shift_X4_isColumn
set_option maxRecDepth 20000 in
theorem ggX4_shift_X4_areTimes : GoodIn wsX4_shift wsX4_areTimes := goodIn_r _ [16] (by decide +kernel) (by decide +kernel)
set_option maxRecDepth 20000 in
theorem gX4_shift_X4_areTimes : GoodIn wsX4_shift (va_wsS RX4 140 yX4_areTimes wsX4_areTimes) := goodIn_app (goodIn_of _ (by decide +kernel)) ggX4_shift_X4_areTimes
set_option maxRecDepth 20000 in
theorem ggX4_shift_X4_isPart : GoodIn wsX4_shift wsX4_isPart := goodIn_r _ [19, 11, 12, 9, 13] (by decide +kernel) (by decide +kernel)
set_option maxRecDepth 20000 in
theorem gX4_shift_X4_isPart : GoodIn wsX4_shift (va_wsS RX4 111 yX4_isPart wsX4_isPart) := goodIn_app (goodIn_of _ (by decide +kernel)) ggX4_shift_X4_isPart
set_option maxRecDepth 20000 in
theorem ggX4_shift_X2_between : GoodIn wsX4_shift wsX2_between := goodIn_r _ [24, 25, 26, 58, 59, 60, 61] (by decide +kernel) (by decide +kernel)
set_option maxRecDepth 20000 in
theorem gX4_shift_X2_between : GoodIn wsX4_shift (wsV RX4 143 RX2 yX2_between wsX2_between) := goodIn_app (goodIn_of _ (by decide +kernel)) ggX4_shift_X2_between
set_option maxRecDepth 20000 in
theorem ggX4_shift_X2_withSort : GoodIn wsX4_shift wsX2_withSort := goodIn_r _ [30, 31, 32, 9, 33, 58, 59, 60, 61] (by decide +kernel) (by decide +kernel)
set_option maxRecDepth 20000 in
theorem gX4_shift_X2_withSort : GoodIn wsX4_shift (wsV RX4 129 RX2 yX2_withSort wsX2_withSort) := goodIn_app (goodIn_of _ (by decide +kernel)) ggX4_shift_X2_withSort
set_option maxRecDepth 20000 in
theorem ggX4_shift_J13_bitCount_95d88 : GoodIn wsX4_shift wsJ13_bitCount_95d88 := goodIn_r _ [37, 38, 39, 40] (by decide +kernel) (by decide +kernel)
set_option maxRecDepth 20000 in
theorem gX4_shift_J13_bitCount_95d88 : GoodIn wsX4_shift (va_wsS RX4 102 yJ13_bitCount_95d88 wsJ13_bitCount_95d88) := goodIn_app (goodIn_of _ (by decide +kernel)) ggX4_shift_J13_bitCount_95d88
set_option maxRecDepth 20000 in
theorem ggX4_shift_X4_lowest : GoodIn wsX4_shift wsX4_lowest := goodIn_r _ [43, 44, 45, 46, 47, 48, 49, 9, 50, 51, 52, 53] (by decide +kernel) (by decide +kernel)
set_option maxRecDepth 20000 in
theorem gX4_shift_X4_lowest : GoodIn wsX4_shift (va_wsS RX4 116 yX4_lowest wsX4_lowest) := goodIn_app (goodIn_of _ (by decide +kernel)) ggX4_shift_X4_lowest
theorem dX4_shift_0 : decode cX4_shift 0 = .ok (.iload_n 1, 1) := by decide +kernel
theorem dX4_shift_1 : decode cX4_shift 1 = .ok (.invokestatic 55, 3) := by decide +kernel
theorem dX4_shift_4 : decode cX4_shift 4 = .ok (.ifCond .eq 15, 3) := by decide +kernel
theorem dX4_shift_7 : decode cX4_shift 7 = .ok (.iload_n 2, 1) := by decide +kernel
theorem dX4_shift_8 : decode cX4_shift 8 = .ok (.invokestatic 55, 3) := by decide +kernel
theorem dX4_shift_11 : decode cX4_shift 11 = .ok (.ifCond .eq 8, 3) := by decide +kernel
theorem dX4_shift_14 : decode cX4_shift 14 = .ok (.iload_n 1, 1) := by decide +kernel
theorem dX4_shift_15 : decode cX4_shift 15 = .ok (.iload_n 2, 1) := by decide +kernel
theorem dX4_shift_16 : decode cX4_shift 16 = .ok (.if_icmp .ne 7, 3) := by decide +kernel
theorem dX4_shift_19 : decode cX4_shift 19 = .ok (.ldc2_w 109, 3) := by decide +kernel
theorem dX4_shift_22 : decode cX4_shift 22 = .ok (.lreturn, 1) := by decide +kernel
theorem dX4_shift_23 : decode cX4_shift 23 = .ok (.iload_n 3, 1) := by decide +kernel
theorem dX4_shift_24 : decode cX4_shift 24 = .ok (.iload 4, 2) := by decide +kernel
theorem dX4_shift_26 : decode cX4_shift 26 = .ok (.iload 5, 2) := by decide +kernel
theorem dX4_shift_28 : decode cX4_shift 28 = .ok (.invokestatic 140, 3) := by decide +kernel
theorem dX4_shift_31 : decode cX4_shift 31 = .ok (.ifCond .eq 11, 3) := by decide +kernel
theorem dX4_shift_34 : decode cX4_shift 34 = .ok (.iload 6, 2) := by decide +kernel
theorem dX4_shift_36 : decode cX4_shift 36 = .ok (.invokestatic 111, 3) := by decide +kernel
theorem dX4_shift_39 : decode cX4_shift 39 = .ok (.ifCond .ne 7, 3) := by decide +kernel
theorem dX4_shift_42 : decode cX4_shift 42 = .ok (.ldc2_w 114, 3) := by decide +kernel
theorem dX4_shift_45 : decode cX4_shift 45 = .ok (.lreturn, 1) := by decide +kernel
theorem dX4_shift_46 : decode cX4_shift 46 = .ok (.aload_n 0, 1) := by decide +kernel
theorem dX4_shift_47 : decode cX4_shift 47 = .ok (.getfield 10, 3) := by decide +kernel
theorem dX4_shift_50 : decode cX4_shift 50 = .ok (.iload_n 3, 1) := by decide +kernel
theorem dX4_shift_51 : decode cX4_shift 51 = .ok (.iload 4, 2) := by decide +kernel
end
section
theorem dX4_shift_53 : decode cX4_shift 53 = .ok (.invokevirtual 143, 3) := by decide +kernel
theorem dX4_shift_56 : decode cX4_shift 56 = .ok (.lstore 7, 2) := by decide +kernel
theorem dX4_shift_58 : decode cX4_shift 58 = .ok (.aload_n 0, 1) := by decide +kernel
theorem dX4_shift_59 : decode cX4_shift 59 = .ok (.getfield 10, 3) := by decide +kernel
theorem dX4_shift_62 : decode cX4_shift 62 = .ok (.iload_n 2, 1) := by decide +kernel
theorem dX4_shift_63 : decode cX4_shift 63 = .ok (.iconst 1, 1) := by decide +kernel
theorem dX4_shift_64 : decode cX4_shift 64 = .ok (.invokevirtual 129, 3) := by decide +kernel
theorem dX4_shift_67 : decode cX4_shift 67 = .ok (.lstore 9, 2) := by decide +kernel
theorem dX4_shift_69 : decode cX4_shift 69 = .ok (.lload 9, 2) := by decide +kernel
theorem dX4_shift_71 : decode cX4_shift 71 = .ok (.aload_n 0, 1) := by decide +kernel
theorem dX4_shift_72 : decode cX4_shift 72 = .ok (.getfield 10, 3) := by decide +kernel
theorem dX4_shift_75 : decode cX4_shift 75 = .ok (.iload_n 2, 1) := by decide +kernel
theorem dX4_shift_76 : decode cX4_shift 76 = .ok (.iconst 0, 1) := by decide +kernel
theorem dX4_shift_77 : decode cX4_shift 77 = .ok (.invokevirtual 129, 3) := by decide +kernel
theorem dX4_shift_80 : decode cX4_shift 80 = .ok (.lor, 1) := by decide +kernel
theorem dX4_shift_81 : decode cX4_shift 81 = .ok (.lstore 11, 2) := by decide +kernel
theorem dX4_shift_83 : decode cX4_shift 83 = .ok (.lload 7, 2) := by decide +kernel
theorem dX4_shift_85 : decode cX4_shift 85 = .ok (.lload 11, 2) := by decide +kernel
theorem dX4_shift_87 : decode cX4_shift 87 = .ok (.land, 1) := by decide +kernel
theorem dX4_shift_88 : decode cX4_shift 88 = .ok (.aload_n 0, 1) := by decide +kernel
theorem dX4_shift_89 : decode cX4_shift 89 = .ok (.getfield 10, 3) := by decide +kernel
theorem dX4_shift_92 : decode cX4_shift 92 = .ok (.iload_n 1, 1) := by decide +kernel
theorem dX4_shift_93 : decode cX4_shift 93 = .ok (.iconst 1, 1) := by decide +kernel
theorem dX4_shift_94 : decode cX4_shift 94 = .ok (.invokevirtual 129, 3) := by decide +kernel
theorem dX4_shift_97 : decode cX4_shift 97 = .ok (.land, 1) := by decide +kernel
theorem dX4_shift_98 : decode cX4_shift 98 = .ok (.lstore 13, 2) := by decide +kernel
theorem dX4_shift_100 : decode cX4_shift 100 = .ok (.lload 7, 2) := by decide +kernel
theorem dX4_shift_102 : decode cX4_shift 102 = .ok (.lload 11, 2) := by decide +kernel
theorem dX4_shift_104 : decode cX4_shift 104 = .ok (.land, 1) := by decide +kernel
theorem dX4_shift_105 : decode cX4_shift 105 = .ok (.aload_n 0, 1) := by decide +kernel
theorem dX4_shift_106 : decode cX4_shift 106 = .ok (.getfield 10, 3) := by decide +kernel
theorem dX4_shift_109 : decode cX4_shift 109 = .ok (.iload_n 1, 1) := by decide +kernel
theorem dX4_shift_110 : decode cX4_shift 110 = .ok (.iconst 0, 1) := by decide +kernel
theorem dX4_shift_111 : decode cX4_shift 111 = .ok (.invokevirtual 129, 3) := by decide +kernel
theorem dX4_shift_114 : decode cX4_shift 114 = .ok (.land, 1) := by decide +kernel
theorem dX4_shift_115 : decode cX4_shift 115 = .ok (.lstore 15, 2) := by decide +kernel
theorem dX4_shift_117 : decode cX4_shift 117 = .ok (.lload 11, 2) := by decide +kernel
theorem dX4_shift_119 : decode cX4_shift 119 = .ok (.aload_n 0, 1) := by decide +kernel
theorem dX4_shift_120 : decode cX4_shift 120 = .ok (.getfield 10, 3) := by decide +kernel
theorem dX4_shift_123 : decode cX4_shift 123 = .ok (.iload 4, 2) := by decide +kernel
theorem dX4_shift_125 : decode cX4_shift 125 = .ok (.iload 5, 2) := by decide +kernel
theorem dX4_shift_127 : decode cX4_shift 127 = .ok (.invokevirtual 143, 3) := by decide +kernel
theorem dX4_shift_130 : decode cX4_shift 130 = .ok (.land, 1) := by decide +kernel
theorem dX4_shift_131 : decode cX4_shift 131 = .ok (.lstore 17, 2) := by decide +kernel
theorem dX4_shift_133 : decode cX4_shift 133 = .ok (.lload 13, 2) := by decide +kernel
theorem dX4_shift_135 : decode cX4_shift 135 = .ok (.lconst 0, 1) := by decide +kernel
theorem dX4_shift_136 : decode cX4_shift 136 = .ok (.lcmp, 1) := by decide +kernel
theorem dX4_shift_137 : decode cX4_shift 137 = .ok (.ifCond .eq 17, 3) := by decide +kernel
theorem dX4_shift_140 : decode cX4_shift 140 = .ok (.lload 15, 2) := by decide +kernel
theorem dX4_shift_142 : decode cX4_shift 142 = .ok (.lconst 0, 1) := by decide +kernel
theorem dX4_shift_143 : decode cX4_shift 143 = .ok (.lcmp, 1) := by decide +kernel
theorem dX4_shift_144 : decode cX4_shift 144 = .ok (.ifCond .eq 10, 3) := by decide +kernel
theorem dX4_shift_147 : decode cX4_shift 147 = .ok (.lload 17, 2) := by decide +kernel
theorem dX4_shift_149 : decode cX4_shift 149 = .ok (.lconst 0, 1) := by decide +kernel
theorem dX4_shift_150 : decode cX4_shift 150 = .ok (.lcmp, 1) := by decide +kernel
theorem dX4_shift_151 : decode cX4_shift 151 = .ok (.ifCond .ne 13, 3) := by decide +kernel
theorem dX4_shift_154 : decode cX4_shift 154 = .ok (.new 133, 3) := by decide +kernel
theorem dX4_shift_157 : decode cX4_shift 157 = .ok (.dup, 1) := by decide +kernel
theorem dX4_shift_158 : decode cX4_shift 158 = .ok (.ldc 178, 2) := by decide +kernel
theorem dX4_shift_160 : decode cX4_shift 160 = .ok (.invokespecial 137, 3) := by decide +kernel
theorem dX4_shift_163 : decode cX4_shift 163 = .ok (.athrow, 1) := by decide +kernel
theorem dX4_shift_164 : decode cX4_shift 164 = .ok (.lload 13, 2) := by decide +kernel
theorem dX4_shift_166 : decode cX4_shift 166 = .ok (.invokestatic 102, 3) := by decide +kernel
theorem dX4_shift_169 : decode cX4_shift 169 = .ok (.istore 19, 2) := by decide +kernel
theorem dX4_shift_171 : decode cX4_shift 171 = .ok (.lload 15, 2) := by decide +kernel
theorem dX4_shift_173 : decode cX4_shift 173 = .ok (.invokestatic 102, 3) := by decide +kernel
theorem dX4_shift_176 : decode cX4_shift 176 = .ok (.istore 20, 2) := by decide +kernel
theorem dX4_shift_178 : decode cX4_shift 178 = .ok (.lload 17, 2) := by decide +kernel
theorem dX4_shift_180 : decode cX4_shift 180 = .ok (.invokestatic 102, 3) := by decide +kernel
theorem dX4_shift_183 : decode cX4_shift 183 = .ok (.istore 21, 2) := by decide +kernel
theorem dX4_shift_185 : decode cX4_shift 185 = .ok (.lload 15, 2) := by decide +kernel
theorem dX4_shift_187 : decode cX4_shift 187 = .ok (.lload 9, 2) := by decide +kernel
theorem dX4_shift_189 : decode cX4_shift 189 = .ok (.land, 1) := by decide +kernel
theorem dX4_shift_190 : decode cX4_shift 190 = .ok (.invokestatic 102, 3) := by decide +kernel
theorem dX4_shift_193 : decode cX4_shift 193 = .ok (.istore 22, 2) := by decide +kernel
theorem dX4_shift_195 : decode cX4_shift 195 = .ok (.lload 13, 2) := by decide +kernel
theorem dX4_shift_197 : decode cX4_shift 197 = .ok (.lload 9, 2) := by decide +kernel
theorem dX4_shift_199 : decode cX4_shift 199 = .ok (.land, 1) := by decide +kernel
theorem dX4_shift_200 : decode cX4_shift 200 = .ok (.invokestatic 102, 3) := by decide +kernel
theorem dX4_shift_203 : decode cX4_shift 203 = .ok (.iload 20, 2) := by decide +kernel
theorem dX4_shift_205 : decode cX4_shift 205 = .ok (.imul, 1) := by decide +kernel
theorem dX4_shift_206 : decode cX4_shift 206 = .ok (.iload 22, 2) := by decide +kernel
theorem dX4_shift_208 : decode cX4_shift 208 = .ok (.iload 19, 2) := by decide +kernel
theorem dX4_shift_210 : decode cX4_shift 210 = .ok (.imul, 1) := by decide +kernel
theorem dX4_shift_211 : decode cX4_shift 211 = .ok (.isub, 1) := by decide +kernel
theorem dX4_shift_212 : decode cX4_shift 212 = .ok (.istore 23, 2) := by decide +kernel
theorem dX4_shift_214 : decode cX4_shift 214 = .ok (.iload 23, 2) := by decide +kernel
theorem dX4_shift_216 : decode cX4_shift 216 = .ok (.ifCond .ne 7, 3) := by decide +kernel
theorem dX4_shift_219 : decode cX4_shift 219 = .ok (.ldc2_w 170, 3) := by decide +kernel
theorem dX4_shift_222 : decode cX4_shift 222 = .ok (.lreturn, 1) := by decide +kernel
theorem dX4_shift_223 : decode cX4_shift 223 = .ok (.lload 17, 2) := by decide +kernel
theorem dX4_shift_225 : decode cX4_shift 225 = .ok (.lload 9, 2) := by decide +kernel
theorem dX4_shift_227 : decode cX4_shift 227 = .ok (.land, 1) := by decide +kernel
theorem dX4_shift_228 : decode cX4_shift 228 = .ok (.invokestatic 102, 3) := by decide +kernel
theorem dX4_shift_231 : decode cX4_shift 231 = .ok (.iload 20, 2) := by decide +kernel
theorem dX4_shift_233 : decode cX4_shift 233 = .ok (.imul, 1) := by decide +kernel
theorem dX4_shift_234 : decode cX4_shift 234 = .ok (.iload 22, 2) := by decide +kernel
theorem dX4_shift_236 : decode cX4_shift 236 = .ok (.iload 21, 2) := by decide +kernel
theorem dX4_shift_238 : decode cX4_shift 238 = .ok (.imul, 1) := by decide +kernel
theorem dX4_shift_239 : decode cX4_shift 239 = .ok (.isub, 1) := by decide +kernel
theorem dX4_shift_240 : decode cX4_shift 240 = .ok (.istore 24, 2) := by decide +kernel
theorem dX4_shift_242 : decode cX4_shift 242 = .ok (.iload 24, 2) := by decide +kernel
theorem dX4_shift_244 : decode cX4_shift 244 = .ok (.iload 19, 2) := by decide +kernel
theorem dX4_shift_246 : decode cX4_shift 246 = .ok (.imul, 1) := by decide +kernel
theorem dX4_shift_247 : decode cX4_shift 247 = .ok (.i2l, 1) := by decide +kernel
theorem dX4_shift_248 : decode cX4_shift 248 = .ok (.iload 23, 2) := by decide +kernel
theorem dX4_shift_250 : decode cX4_shift 250 = .ok (.iload 21, 2) := by decide +kernel
theorem dX4_shift_252 : decode cX4_shift 252 = .ok (.imul, 1) := by decide +kernel
theorem dX4_shift_253 : decode cX4_shift 253 = .ok (.i2l, 1) := by decide +kernel
theorem dX4_shift_254 : decode cX4_shift 254 = .ok (.iload 6, 2) := by decide +kernel
theorem dX4_shift_256 : decode cX4_shift 256 = .ok (.invokestatic 116, 3) := by decide +kernel
theorem dX4_shift_259 : decode cX4_shift 259 = .ok (.lreturn, 1) := by decide +kernel
set_option maxRecDepth 20000 in
theorem ggX4_order_X4_isColumn : GoodIn wsX4_order wsX4_isColumn := goodIn_r _ [9, 10, 11, 8, 12] (by decide +kernel) (by decide +kernel)
set_option maxRecDepth 20000 in
theorem gX4_order_X4_isColumn : GoodIn wsX4_order (va_wsS RX4 55 yX4_isColumn wsX4_isColumn) := goodIn_app (goodIn_of _ (by decide +kernel)) ggX4_order_X4_isColumn
set_option maxRecDepth 20000 in
theorem ggX4_order_X4_areTimes : GoodIn wsX4_order wsX4_areTimes := goodIn_r _ [15] (by decide +kernel) (by decide +kernel)
set_option maxRecDepth 20000 in
theorem gX4_order_X4_areTimes : GoodIn wsX4_order (va_wsS RX4 140 yX4_areTimes wsX4_areTimes) := goodIn_app (goodIn_of _ (by decide +kernel)) ggX4_order_X4_areTimes
set_option maxRecDepth 20000 in
theorem ggX4_order_X2_between : GoodIn wsX4_order wsX2_between := goodIn_r _ [20, 21, 22, 53, 54, 55, 56] (by decide +kernel) (by decide +kernel)
set_option maxRecDepth 20000 in
theorem gX4_order_X2_between : GoodIn wsX4_order (wsV RX4 143 RX2 yX2_between wsX2_between) := goodIn_app (goodIn_of _ (by decide +kernel)) ggX4_order_X2_between
set_option maxRecDepth 20000 in
theorem ggX4_order_X2_placeByDrift : GoodIn wsX4_order wsX2_placeByDrift := goodIn_r _ [26, 27, 28, 29, 19, 30, 31, 32, 33, 34, 35, 36, 37, 38, 39, 40, 41, 42, 43, 44, 45, 46, 47, 8, 48, 53, 54, 55, 56] (by decide +kernel) (by decide +kernel)
set_option maxRecDepth 20000 in
theorem gX4_order_X2_placeByDrift : GoodIn wsX4_order (wsV RX4 180 RX2 yX2_placeByDrift wsX2_placeByDrift) := goodIn_app (goodIn_of _ (by decide +kernel)) ggX4_order_X2_placeByDrift
theorem dX4_order_0 : decode cX4_order 0 = .ok (.iload 4, 2) := by decide +kernel
theorem dX4_order_2 : decode cX4_order 2 = .ok (.invokestatic 55, 3) := by decide +kernel
theorem dX4_order_5 : decode cX4_order 5 = .ok (.ifCond .ne 6, 3) := by decide +kernel
theorem dX4_order_8 : decode cX4_order 8 = .ok (.ldc 58, 2) := by decide +kernel
theorem dX4_order_10 : decode cX4_order 10 = .ok (.ireturn, 1) := by decide +kernel
theorem dX4_order_11 : decode cX4_order 11 = .ok (.iload_n 1, 1) := by decide +kernel
theorem dX4_order_12 : decode cX4_order 12 = .ok (.iload_n 2, 1) := by decide +kernel
theorem dX4_order_13 : decode cX4_order 13 = .ok (.iload_n 3, 1) := by decide +kernel
theorem dX4_order_14 : decode cX4_order 14 = .ok (.invokestatic 140, 3) := by decide +kernel
theorem dX4_order_17 : decode cX4_order 17 = .ok (.ifCond .ne 6, 3) := by decide +kernel
theorem dX4_order_20 : decode cX4_order 20 = .ok (.ldc 41, 2) := by decide +kernel
theorem dX4_order_22 : decode cX4_order 22 = .ok (.ireturn, 1) := by decide +kernel
theorem dX4_order_23 : decode cX4_order 23 = .ok (.aload_n 0, 1) := by decide +kernel
theorem dX4_order_24 : decode cX4_order 24 = .ok (.getfield 10, 3) := by decide +kernel
theorem dX4_order_27 : decode cX4_order 27 = .ok (.iload_n 1, 1) := by decide +kernel
theorem dX4_order_28 : decode cX4_order 28 = .ok (.iload_n 2, 1) := by decide +kernel
theorem dX4_order_29 : decode cX4_order 29 = .ok (.invokevirtual 143, 3) := by decide +kernel
theorem dX4_order_32 : decode cX4_order 32 = .ok (.lstore 5, 2) := by decide +kernel
theorem dX4_order_34 : decode cX4_order 34 = .ok (.aload_n 0, 1) := by decide +kernel
theorem dX4_order_35 : decode cX4_order 35 = .ok (.getfield 10, 3) := by decide +kernel
theorem dX4_order_38 : decode cX4_order 38 = .ok (.iload_n 2, 1) := by decide +kernel
theorem dX4_order_39 : decode cX4_order 39 = .ok (.iload_n 3, 1) := by decide +kernel
theorem dX4_order_40 : decode cX4_order 40 = .ok (.invokevirtual 143, 3) := by decide +kernel
theorem dX4_order_43 : decode cX4_order 43 = .ok (.lstore 7, 2) := by decide +kernel
theorem dX4_order_45 : decode cX4_order 45 = .ok (.lload 5, 2) := by decide +kernel
theorem dX4_order_47 : decode cX4_order 47 = .ok (.lconst 0, 1) := by decide +kernel
theorem dX4_order_48 : decode cX4_order 48 = .ok (.lcmp, 1) := by decide +kernel
theorem dX4_order_49 : decode cX4_order 49 = .ok (.ifCond .eq 10, 3) := by decide +kernel
theorem dX4_order_52 : decode cX4_order 52 = .ok (.lload 7, 2) := by decide +kernel
theorem dX4_order_54 : decode cX4_order 54 = .ok (.lconst 0, 1) := by decide +kernel
theorem dX4_order_55 : decode cX4_order 55 = .ok (.lcmp, 1) := by decide +kernel
theorem dX4_order_56 : decode cX4_order 56 = .ok (.ifCond .ne 13, 3) := by decide +kernel
theorem dX4_order_59 : decode cX4_order 59 = .ok (.new 133, 3) := by decide +kernel
theorem dX4_order_62 : decode cX4_order 62 = .ok (.dup, 1) := by decide +kernel
theorem dX4_order_63 : decode cX4_order 63 = .ok (.ldc 146, 2) := by decide +kernel
theorem dX4_order_65 : decode cX4_order 65 = .ok (.invokespecial 137, 3) := by decide +kernel
theorem dX4_order_68 : decode cX4_order 68 = .ok (.athrow, 1) := by decide +kernel
theorem dX4_order_69 : decode cX4_order 69 = .ok (.iconst 0, 1) := by decide +kernel
theorem dX4_order_70 : decode cX4_order 70 = .ok (.istore 9, 2) := by decide +kernel
theorem dX4_order_72 : decode cX4_order 72 = .ok (.iload 9, 2) := by decide +kernel
theorem dX4_order_74 : decode cX4_order 74 = .ok (.iconst 5, 1) := by decide +kernel
theorem dX4_order_75 : decode cX4_order 75 = .ok (.if_icmp .ge 30, 3) := by decide +kernel
theorem dX4_order_78 : decode cX4_order 78 = .ok (.aload_n 0, 1) := by decide +kernel
theorem dX4_order_79 : decode cX4_order 79 = .ok (.getfield 10, 3) := by decide +kernel
theorem dX4_order_82 : decode cX4_order 82 = .ok (.iload 9, 2) := by decide +kernel
theorem dX4_order_84 : decode cX4_order 84 = .ok (.lload 5, 2) := by decide +kernel
theorem dX4_order_86 : decode cX4_order 86 = .ok (.lload 7, 2) := by decide +kernel
theorem dX4_order_88 : decode cX4_order 88 = .ok (.invokevirtual 180, 3) := by decide +kernel
theorem dX4_order_91 : decode cX4_order 91 = .ok (.iload 4, 2) := by decide +kernel
theorem dX4_order_93 : decode cX4_order 93 = .ok (.if_icmp .ne 6, 3) := by decide +kernel
theorem dX4_order_96 : decode cX4_order 96 = .ok (.iload 9, 2) := by decide +kernel
theorem dX4_order_98 : decode cX4_order 98 = .ok (.ireturn, 1) := by decide +kernel
theorem dX4_order_99 : decode cX4_order 99 = .ok (.iinc 9 1, 3) := by decide +kernel
theorem dX4_order_102 : decode cX4_order 102 = .ok (.goto (-30), 3) := by decide +kernel
theorem dX4_order_105 : decode cX4_order 105 = .ok (.iconst (-1), 1) := by decide +kernel
theorem dX4_order_106 : decode cX4_order 106 = .ok (.ireturn, 1) := by decide +kernel
set_option maxRecDepth 20000 in
theorem ggX4_watch_X4_isColumn : GoodIn wsX4_watch wsX4_isColumn := goodIn_r _ [9, 10, 11, 8, 12] (by decide +kernel) (by decide +kernel)
set_option maxRecDepth 20000 in
theorem gX4_watch_X4_isColumn : GoodIn wsX4_watch (va_wsS RX4 55 yX4_isColumn wsX4_isColumn) := goodIn_app (goodIn_of _ (by decide +kernel)) ggX4_watch_X4_isColumn
set_option maxRecDepth 20000 in
theorem ggX4_watch_X4_isWithin : GoodIn wsX4_watch wsX4_isWithin := goodIn_r _ [12] (by decide +kernel) (by decide +kernel)
set_option maxRecDepth 20000 in
theorem gX4_watch_X4_isWithin : GoodIn wsX4_watch (va_wsS RX4 37 yX4_isWithin wsX4_isWithin) := goodIn_app (goodIn_of _ (by decide +kernel)) ggX4_watch_X4_isWithin
set_option maxRecDepth 20000 in
theorem ggX4_watch_X2_between : GoodIn wsX4_watch wsX2_between := goodIn_r _ [17, 18, 19, 78, 79, 80, 81] (by decide +kernel) (by decide +kernel)
set_option maxRecDepth 20000 in
theorem gX4_watch_X2_between : GoodIn wsX4_watch (wsV RX4 143 RX2 yX2_between wsX2_between) := goodIn_app (goodIn_of _ (by decide +kernel)) ggX4_watch_X2_between
set_option maxRecDepth 20000 in
theorem ggX4_watch_X0_begin : GoodIn wsX4_watch wsX0_begin := goodIn_r _ [24, 25, 26, 27, 28, 29, 30, 23, 31, 82, 83, 84, 85, 86, 87, 88] (by decide +kernel) (by decide +kernel)
set_option maxRecDepth 20000 in
theorem gX4_watch_X0_begin : GoodIn wsX4_watch (wsV RX4 184 RX0 yX0_begin wsX0_begin) := goodIn_app (goodIn_of _ (by decide +kernel)) ggX4_watch_X0_begin
set_option maxRecDepth 20000 in
theorem ggX4_watch_X0_measure : GoodIn wsX4_watch wsX0_measure := goodIn_r _ [35, 25, 27, 36, 37, 38, 39, 40, 41, 42, 14, 15, 16, 17, 18, 19, 28, 29, 30, 23, 31, 26, 43, 44, 45, 46, 47, 48, 49, 50, 51, 52, 53, 54, 55, 56, 57, 58, 59, 60, 61, 62, 63, 8, 64, 65, 66, 67, 82, 83, 84, 85, 86, 87, 88, 78, 79, 80, 81] (by decide +kernel) (by decide +kernel)
set_option maxRecDepth 20000 in
theorem gX4_watch_X0_measure : GoodIn wsX4_watch (wsV RX4 188 RX0 yX0_measure wsX0_measure) := goodIn_app (goodIn_of _ (by decide +kernel)) ggX4_watch_X0_measure
set_option maxRecDepth 20000 in
theorem ggX4_watch_X0_raise : GoodIn wsX4_watch wsX0_raise := goodIn_r _ [71, 72, 27, 41, 40, 73, 82, 83, 84, 85, 86, 87, 88] (by decide +kernel) (by decide +kernel)
set_option maxRecDepth 20000 in
theorem gX4_watch_X0_raise : GoodIn wsX4_watch (wsV RX4 192 RX0 yX0_raise wsX0_raise) := goodIn_app (goodIn_of _ (by decide +kernel)) ggX4_watch_X0_raise
theorem dX4_watch_0 : decode cX4_watch 0 = .ok (.iload_n 1, 1) := by decide +kernel
theorem dX4_watch_1 : decode cX4_watch 1 = .ok (.invokestatic 55, 3) := by decide +kernel
theorem dX4_watch_4 : decode cX4_watch 4 = .ok (.ifCond .ne 6, 3) := by decide +kernel
theorem dX4_watch_7 : decode cX4_watch 7 = .ok (.ldc 58, 2) := by decide +kernel
theorem dX4_watch_9 : decode cX4_watch 9 = .ok (.ireturn, 1) := by decide +kernel
theorem dX4_watch_10 : decode cX4_watch 10 = .ok (.iload_n 2, 1) := by decide +kernel
theorem dX4_watch_11 : decode cX4_watch 11 = .ok (.iconst 1, 1) := by decide +kernel
theorem dX4_watch_12 : decode cX4_watch 12 = .ok (.sipush 999, 3) := by decide +kernel
theorem dX4_watch_15 : decode cX4_watch 15 = .ok (.invokestatic 37, 3) := by decide +kernel
theorem dX4_watch_18 : decode cX4_watch 18 = .ok (.ifCond .eq 37, 3) := by decide +kernel
theorem dX4_watch_21 : decode cX4_watch 21 = .ok (.iload_n 3, 1) := by decide +kernel
theorem dX4_watch_22 : decode cX4_watch 22 = .ok (.iconst 1, 1) := by decide +kernel
theorem dX4_watch_23 : decode cX4_watch 23 = .ok (.sipush 999, 3) := by decide +kernel
theorem dX4_watch_26 : decode cX4_watch 26 = .ok (.invokestatic 37, 3) := by decide +kernel
theorem dX4_watch_29 : decode cX4_watch 29 = .ok (.ifCond .eq 26, 3) := by decide +kernel
theorem dX4_watch_32 : decode cX4_watch 32 = .ok (.iload 4, 2) := by decide +kernel
theorem dX4_watch_34 : decode cX4_watch 34 = .ok (.iconst 1, 1) := by decide +kernel
theorem dX4_watch_35 : decode cX4_watch 35 = .ok (.bipush 100, 2) := by decide +kernel
theorem dX4_watch_37 : decode cX4_watch 37 = .ok (.invokestatic 37, 3) := by decide +kernel
theorem dX4_watch_40 : decode cX4_watch 40 = .ok (.ifCond .eq 15, 3) := by decide +kernel
theorem dX4_watch_43 : decode cX4_watch 43 = .ok (.iload 5, 2) := by decide +kernel
theorem dX4_watch_45 : decode cX4_watch 45 = .ok (.iconst 1, 1) := by decide +kernel
theorem dX4_watch_46 : decode cX4_watch 46 = .ok (.sipush 1000, 3) := by decide +kernel
theorem dX4_watch_49 : decode cX4_watch 49 = .ok (.invokestatic 37, 3) := by decide +kernel
theorem dX4_watch_52 : decode cX4_watch 52 = .ok (.ifCond .ne 6, 3) := by decide +kernel
theorem dX4_watch_55 : decode cX4_watch 55 = .ok (.ldc 41, 2) := by decide +kernel
theorem dX4_watch_57 : decode cX4_watch 57 = .ok (.ireturn, 1) := by decide +kernel
theorem dX4_watch_58 : decode cX4_watch 58 = .ok (.aload_n 0, 1) := by decide +kernel
theorem dX4_watch_59 : decode cX4_watch 59 = .ok (.getfield 10, 3) := by decide +kernel
theorem dX4_watch_62 : decode cX4_watch 62 = .ok (.iconst 0, 1) := by decide +kernel
theorem dX4_watch_63 : decode cX4_watch 63 = .ok (.iload_n 2, 1) := by decide +kernel
theorem dX4_watch_64 : decode cX4_watch 64 = .ok (.invokevirtual 143, 3) := by decide +kernel
theorem dX4_watch_67 : decode cX4_watch 67 = .ok (.lconst 0, 1) := by decide +kernel
theorem dX4_watch_68 : decode cX4_watch 68 = .ok (.lcmp, 1) := by decide +kernel
theorem dX4_watch_69 : decode cX4_watch 69 = .ok (.ifCond .ne 6, 3) := by decide +kernel
theorem dX4_watch_72 : decode cX4_watch 72 = .ok (.ldc 183, 2) := by decide +kernel
theorem dX4_watch_74 : decode cX4_watch 74 = .ok (.ireturn, 1) := by decide +kernel
theorem dX4_watch_75 : decode cX4_watch 75 = .ok (.aload_n 0, 1) := by decide +kernel
theorem dX4_watch_76 : decode cX4_watch 76 = .ok (.getfield 33, 3) := by decide +kernel
theorem dX4_watch_79 : decode cX4_watch 79 = .ok (.iload_n 2, 1) := by decide +kernel
theorem dX4_watch_80 : decode cX4_watch 80 = .ok (.iload_n 3, 1) := by decide +kernel
theorem dX4_watch_81 : decode cX4_watch 81 = .ok (.invokevirtual 184, 3) := by decide +kernel
theorem dX4_watch_84 : decode cX4_watch 84 = .ok (.aload_n 0, 1) := by decide +kernel
theorem dX4_watch_85 : decode cX4_watch 85 = .ok (.getfield 33, 3) := by decide +kernel
theorem dX4_watch_88 : decode cX4_watch 88 = .ok (.aload_n 0, 1) := by decide +kernel
theorem dX4_watch_89 : decode cX4_watch 89 = .ok (.getfield 10, 3) := by decide +kernel
theorem dX4_watch_92 : decode cX4_watch 92 = .ok (.iload_n 1, 1) := by decide +kernel
theorem dX4_watch_93 : decode cX4_watch 93 = .ok (.iload 5, 2) := by decide +kernel
theorem dX4_watch_95 : decode cX4_watch 95 = .ok (.invokevirtual 188, 3) := by decide +kernel
theorem dX4_watch_98 : decode cX4_watch 98 = .ok (.aload_n 0, 1) := by decide +kernel
theorem dX4_watch_99 : decode cX4_watch 99 = .ok (.getfield 33, 3) := by decide +kernel
theorem dX4_watch_102 : decode cX4_watch 102 = .ok (.iload 4, 2) := by decide +kernel
theorem dX4_watch_104 : decode cX4_watch 104 = .ok (.invokevirtual 192, 3) := by decide +kernel
theorem dX4_watch_107 : decode cX4_watch 107 = .ok (.ireturn, 1) := by decide +kernel
set_option maxRecDepth 20000 in
theorem ggX4_step_X4_isWithin : GoodIn wsX4_step wsX4_isWithin := goodIn_r _ [6] (by decide +kernel) (by decide +kernel)
set_option maxRecDepth 20000 in
theorem gX4_step_X4_isWithin : GoodIn wsX4_step (va_wsS RX4 37 yX4_isWithin wsX4_isWithin) := goodIn_app (goodIn_of _ (by decide +kernel)) ggX4_step_X4_isWithin
set_option maxRecDepth 20000 in
theorem ggX4_step_X4_asNumber : GoodIn wsX4_step wsX4_asNumber := goodIn_r _ [9] (by decide +kernel) (by decide +kernel)
set_option maxRecDepth 20000 in
theorem gX4_step_X4_asNumber : GoodIn wsX4_step (va_wsS RX4 71 yX4_asNumber wsX4_asNumber) := goodIn_app (goodIn_of _ (by decide +kernel)) ggX4_step_X4_asNumber
set_option maxRecDepth 20000 in
theorem ggX4_step_X0_beginOf : GoodIn wsX4_step wsX0_beginOf := goodIn_r _ [14, 15, 16, 21, 22, 23, 24, 25, 26, 27] (by decide +kernel) (by decide +kernel)
set_option maxRecDepth 20000 in
theorem gX4_step_X0_beginOf : GoodIn wsX4_step (wsV RX4 206 RX0 yX0_beginOf wsX0_beginOf) := goodIn_app (goodIn_of _ (by decide +kernel)) ggX4_step_X0_beginOf
theorem dX4_step_0 : decode cX4_step 0 = .ok (.iload_n 1, 1) := by decide +kernel
theorem dX4_step_1 : decode cX4_step 1 = .ok (.iconst 0, 1) := by decide +kernel
theorem dX4_step_2 : decode cX4_step 2 = .ok (.aload_n 0, 1) := by decide +kernel
theorem dX4_step_3 : decode cX4_step 3 = .ok (.getfield 33, 3) := by decide +kernel
theorem dX4_step_6 : decode cX4_step 6 = .ok (.getfield 195, 3) := by decide +kernel
theorem dX4_step_9 : decode cX4_step 9 = .ok (.iconst 1, 1) := by decide +kernel
theorem dX4_step_10 : decode cX4_step 10 = .ok (.isub, 1) := by decide +kernel
theorem dX4_step_11 : decode cX4_step 11 = .ok (.invokestatic 37, 3) := by decide +kernel
theorem dX4_step_14 : decode cX4_step 14 = .ok (.ifCond .ne 6, 3) := by decide +kernel
theorem dX4_step_17 : decode cX4_step 17 = .ok (.ldc 58, 2) := by decide +kernel
theorem dX4_step_19 : decode cX4_step 19 = .ok (.ireturn, 1) := by decide +kernel
theorem dX4_step_20 : decode cX4_step 20 = .ok (.iload_n 2, 1) := by decide +kernel
theorem dX4_step_21 : decode cX4_step 21 = .ok (.tableswitch 76 0 3 #[31, 44, 57, 67], 31) := by decide +kernel
theorem dX4_step_52 : decode cX4_step 52 = .ok (.aload_n 0, 1) := by decide +kernel
theorem dX4_step_53 : decode cX4_step 53 = .ok (.getfield 33, 3) := by decide +kernel
theorem dX4_step_56 : decode cX4_step 56 = .ok (.getfield 196, 3) := by decide +kernel
theorem dX4_step_59 : decode cX4_step 59 = .ok (.iload_n 1, 1) := by decide +kernel
theorem dX4_step_60 : decode cX4_step 60 = .ok (.baload, 1) := by decide +kernel
theorem dX4_step_61 : decode cX4_step 61 = .ok (.invokestatic 71, 3) := by decide +kernel
theorem dX4_step_64 : decode cX4_step 64 = .ok (.ireturn, 1) := by decide +kernel
theorem dX4_step_65 : decode cX4_step 65 = .ok (.aload_n 0, 1) := by decide +kernel
theorem dX4_step_66 : decode cX4_step 66 = .ok (.getfield 33, 3) := by decide +kernel
theorem dX4_step_69 : decode cX4_step 69 = .ok (.getfield 200, 3) := by decide +kernel
theorem dX4_step_72 : decode cX4_step 72 = .ok (.iload_n 1, 1) := by decide +kernel
theorem dX4_step_73 : decode cX4_step 73 = .ok (.baload, 1) := by decide +kernel
theorem dX4_step_74 : decode cX4_step 74 = .ok (.invokestatic 71, 3) := by decide +kernel
theorem dX4_step_77 : decode cX4_step 77 = .ok (.ireturn, 1) := by decide +kernel
theorem dX4_step_78 : decode cX4_step 78 = .ok (.aload_n 0, 1) := by decide +kernel
theorem dX4_step_79 : decode cX4_step 79 = .ok (.getfield 33, 3) := by decide +kernel
theorem dX4_step_82 : decode cX4_step 82 = .ok (.getfield 203, 3) := by decide +kernel
theorem dX4_step_85 : decode cX4_step 85 = .ok (.iload_n 1, 1) := by decide +kernel
theorem dX4_step_86 : decode cX4_step 86 = .ok (.iaload, 1) := by decide +kernel
theorem dX4_step_87 : decode cX4_step 87 = .ok (.ireturn, 1) := by decide +kernel
theorem dX4_step_88 : decode cX4_step 88 = .ok (.aload_n 0, 1) := by decide +kernel
theorem dX4_step_89 : decode cX4_step 89 = .ok (.getfield 33, 3) := by decide +kernel
theorem dX4_step_92 : decode cX4_step 92 = .ok (.iload_n 1, 1) := by decide +kernel
theorem dX4_step_93 : decode cX4_step 93 = .ok (.invokevirtual 206, 3) := by decide +kernel
theorem dX4_step_96 : decode cX4_step 96 = .ok (.ireturn, 1) := by decide +kernel
theorem dX4_step_97 : decode cX4_step 97 = .ok (.ldc 58, 2) := by decide +kernel
theorem dX4_step_99 : decode cX4_step 99 = .ok (.ireturn, 1) := by decide +kernel
set_option maxRecDepth 20000 in
theorem ggX4_count_J13_bitCount_95d88 : GoodIn wsX4_count wsJ13_bitCount_95d88 := goodIn_r _ [8, 9, 10, 11] (by decide +kernel) (by decide +kernel)
set_option maxRecDepth 20000 in
theorem gX4_count_J13_bitCount_95d88 : GoodIn wsX4_count (va_wsS RX4 102 yJ13_bitCount_95d88 wsJ13_bitCount_95d88) := goodIn_app (goodIn_of _ (by decide +kernel)) ggX4_count_J13_bitCount_95d88
set_option maxRecDepth 20000 in
theorem ggX4_count_X2_lackingSome : GoodIn wsX4_count wsX2_lackingSome := goodIn_r _ [16, 17, 18, 19, 15, 20, 21, 22, 23, 24, 29, 30, 31, 32] (by decide +kernel) (by decide +kernel)
set_option maxRecDepth 20000 in
theorem gX4_count_X2_lackingSome : GoodIn wsX4_count (wsV RX4 212 RX2 yX2_lackingSome wsX2_lackingSome) := goodIn_app (goodIn_of _ (by decide +kernel)) ggX4_count_X2_lackingSome
theorem dX4_count_0 : decode cX4_count 0 = .ok (.iload_n 1, 1) := by decide +kernel
theorem dX4_count_1 : decode cX4_count 1 = .ok (.tableswitch 93 0 5 #[39, 47, 58, 66, 74, 82], 39) := by decide +kernel
theorem dX4_count_40 : decode cX4_count 40 = .ok (.aload_n 0, 1) := by decide +kernel
theorem dX4_count_41 : decode cX4_count 41 = .ok (.getfield 10, 3) := by decide +kernel
theorem dX4_count_44 : decode cX4_count 44 = .ok (.getfield 42, 3) := by decide +kernel
theorem dX4_count_47 : decode cX4_count 47 = .ok (.ireturn, 1) := by decide +kernel
theorem dX4_count_48 : decode cX4_count 48 = .ok (.aload_n 0, 1) := by decide +kernel
theorem dX4_count_49 : decode cX4_count 49 = .ok (.getfield 10, 3) := by decide +kernel
theorem dX4_count_52 : decode cX4_count 52 = .ok (.getfield 67, 3) := by decide +kernel
theorem dX4_count_55 : decode cX4_count 55 = .ok (.invokestatic 102, 3) := by decide +kernel
theorem dX4_count_58 : decode cX4_count 58 = .ok (.ireturn, 1) := by decide +kernel
theorem dX4_count_59 : decode cX4_count 59 = .ok (.aload_n 0, 1) := by decide +kernel
theorem dX4_count_60 : decode cX4_count 60 = .ok (.getfield 19, 3) := by decide +kernel
theorem dX4_count_63 : decode cX4_count 63 = .ok (.getfield 83, 3) := by decide +kernel
theorem dX4_count_66 : decode cX4_count 66 = .ok (.ireturn, 1) := by decide +kernel
theorem dX4_count_67 : decode cX4_count 67 = .ok (.aload_n 0, 1) := by decide +kernel
theorem dX4_count_68 : decode cX4_count 68 = .ok (.getfield 33, 3) := by decide +kernel
theorem dX4_count_71 : decode cX4_count 71 = .ok (.getfield 195, 3) := by decide +kernel
theorem dX4_count_74 : decode cX4_count 74 = .ok (.ireturn, 1) := by decide +kernel
theorem dX4_count_75 : decode cX4_count 75 = .ok (.aload_n 0, 1) := by decide +kernel
theorem dX4_count_76 : decode cX4_count 76 = .ok (.getfield 33, 3) := by decide +kernel
theorem dX4_count_79 : decode cX4_count 79 = .ok (.getfield 209, 3) := by decide +kernel
theorem dX4_count_82 : decode cX4_count 82 = .ok (.ireturn, 1) := by decide +kernel
theorem dX4_count_83 : decode cX4_count 83 = .ok (.aload_n 0, 1) := by decide +kernel
theorem dX4_count_84 : decode cX4_count 84 = .ok (.getfield 10, 3) := by decide +kernel
theorem dX4_count_87 : decode cX4_count 87 = .ok (.invokevirtual 212, 3) := by decide +kernel
theorem dX4_count_90 : decode cX4_count 90 = .ok (.invokestatic 102, 3) := by decide +kernel
theorem dX4_count_93 : decode cX4_count 93 = .ok (.ireturn, 1) := by decide +kernel
theorem dX4_count_94 : decode cX4_count 94 = .ok (.ldc 58, 2) := by decide +kernel
theorem dX4_count_96 : decode cX4_count 96 = .ok (.ireturn, 1) := by decide +kernel
theorem dX4_isWithin_0 : decode cX4_isWithin 0 = .ok (.iload_n 0, 1) := by decide +kernel
theorem dX4_isWithin_1 : decode cX4_isWithin 1 = .ok (.iload_n 1, 1) := by decide +kernel
theorem dX4_isWithin_2 : decode cX4_isWithin 2 = .ok (.if_icmp .lt 12, 3) := by decide +kernel
theorem dX4_isWithin_5 : decode cX4_isWithin 5 = .ok (.iload_n 0, 1) := by decide +kernel
theorem dX4_isWithin_6 : decode cX4_isWithin 6 = .ok (.iload_n 2, 1) := by decide +kernel
theorem dX4_isWithin_7 : decode cX4_isWithin 7 = .ok (.if_icmp .gt 7, 3) := by decide +kernel
theorem dX4_isWithin_10 : decode cX4_isWithin 10 = .ok (.iconst 1, 1) := by decide +kernel
theorem dX4_isWithin_11 : decode cX4_isWithin 11 = .ok (.goto 4, 3) := by decide +kernel
theorem dX4_isWithin_14 : decode cX4_isWithin 14 = .ok (.iconst 0, 1) := by decide +kernel
theorem dX4_isWithin_15 : decode cX4_isWithin 15 = .ok (.ireturn, 1) := by decide +kernel
set_option maxRecDepth 20000 in
theorem ggX4_isColumn_X4_isWithin : GoodIn wsX4_isColumn wsX4_isWithin := goodIn_r _ [4] (by decide +kernel) (by decide +kernel)
set_option maxRecDepth 20000 in
theorem gX4_isColumn_X4_isWithin : GoodIn wsX4_isColumn (va_wsS RX4 37 yX4_isWithin wsX4_isWithin) := goodIn_app (goodIn_of _ (by decide +kernel)) ggX4_isColumn_X4_isWithin
theorem dX4_isColumn_0 : decode cX4_isColumn 0 = .ok (.iload_n 0, 1) := by decide +kernel
theorem dX4_isColumn_1 : decode cX4_isColumn 1 = .ok (.iconst 0, 1) := by decide +kernel
theorem dX4_isColumn_2 : decode cX4_isColumn 2 = .ok (.iconst 4, 1) := by decide +kernel
theorem dX4_isColumn_3 : decode cX4_isColumn 3 = .ok (.invokestatic 37, 3) := by decide +kernel
theorem dX4_isColumn_6 : decode cX4_isColumn 6 = .ok (.ireturn, 1) := by decide +kernel
set_option maxRecDepth 20000 in
theorem ggX4_isSort_X4_isWithin : GoodIn wsX4_isSort wsX4_isWithin := goodIn_r _ [4] (by decide +kernel) (by decide +kernel)
set_option maxRecDepth 20000 in
theorem gX4_isSort_X4_isWithin : GoodIn wsX4_isSort (va_wsS RX4 37 yX4_isWithin wsX4_isWithin) := goodIn_app (goodIn_of _ (by decide +kernel)) ggX4_isSort_X4_isWithin
theorem dX4_isSort_0 : decode cX4_isSort 0 = .ok (.iload_n 0, 1) := by decide +kernel
theorem dX4_isSort_1 : decode cX4_isSort 1 = .ok (.iconst 0, 1) := by decide +kernel
theorem dX4_isSort_2 : decode cX4_isSort 2 = .ok (.bipush 10, 2) := by decide +kernel
theorem dX4_isSort_4 : decode cX4_isSort 4 = .ok (.invokestatic 37, 3) := by decide +kernel
theorem dX4_isSort_7 : decode cX4_isSort 7 = .ok (.ireturn, 1) := by decide +kernel
set_option maxRecDepth 20000 in
theorem ggX4_isPart_X4_isWithin : GoodIn wsX4_isPart wsX4_isWithin := goodIn_r _ [4] (by decide +kernel) (by decide +kernel)
set_option maxRecDepth 20000 in
theorem gX4_isPart_X4_isWithin : GoodIn wsX4_isPart (va_wsS RX4 37 yX4_isWithin wsX4_isWithin) := goodIn_app (goodIn_of _ (by decide +kernel)) ggX4_isPart_X4_isWithin
theorem dX4_isPart_0 : decode cX4_isPart 0 = .ok (.iload_n 0, 1) := by decide +kernel
theorem dX4_isPart_1 : decode cX4_isPart 1 = .ok (.iconst 0, 1) := by decide +kernel
theorem dX4_isPart_2 : decode cX4_isPart 2 = .ok (.iconst 1, 1) := by decide +kernel
theorem dX4_isPart_3 : decode cX4_isPart 3 = .ok (.invokestatic 37, 3) := by decide +kernel
theorem dX4_isPart_6 : decode cX4_isPart 6 = .ok (.ireturn, 1) := by decide +kernel
theorem dX4_areTimes_0 : decode cX4_areTimes 0 = .ok (.iconst 0, 1) := by decide +kernel
theorem dX4_areTimes_1 : decode cX4_areTimes 1 = .ok (.iload_n 0, 1) := by decide +kernel
theorem dX4_areTimes_2 : decode cX4_areTimes 2 = .ok (.if_icmp .gt 24, 3) := by decide +kernel
theorem dX4_areTimes_5 : decode cX4_areTimes 5 = .ok (.iload_n 0, 1) := by decide +kernel
theorem dX4_areTimes_6 : decode cX4_areTimes 6 = .ok (.iload_n 1, 1) := by decide +kernel
theorem dX4_areTimes_7 : decode cX4_areTimes 7 = .ok (.if_icmp .gt 19, 3) := by decide +kernel
theorem dX4_areTimes_10 : decode cX4_areTimes 10 = .ok (.iload_n 1, 1) := by decide +kernel
theorem dX4_areTimes_11 : decode cX4_areTimes 11 = .ok (.iload_n 2, 1) := by decide +kernel
theorem dX4_areTimes_12 : decode cX4_areTimes 12 = .ok (.if_icmp .gt 14, 3) := by decide +kernel
theorem dX4_areTimes_15 : decode cX4_areTimes 15 = .ok (.iload_n 2, 1) := by decide +kernel
theorem dX4_areTimes_16 : decode cX4_areTimes 16 = .ok (.sipush 1000, 3) := by decide +kernel
theorem dX4_areTimes_19 : decode cX4_areTimes 19 = .ok (.if_icmp .gt 7, 3) := by decide +kernel
theorem dX4_areTimes_22 : decode cX4_areTimes 22 = .ok (.iconst 1, 1) := by decide +kernel
theorem dX4_areTimes_23 : decode cX4_areTimes 23 = .ok (.goto 4, 3) := by decide +kernel
theorem dX4_areTimes_26 : decode cX4_areTimes 26 = .ok (.iconst 0, 1) := by decide +kernel
theorem dX4_areTimes_27 : decode cX4_areTimes 27 = .ok (.ireturn, 1) := by decide +kernel
theorem dX4_asNumber_0 : decode cX4_asNumber 0 = .ok (.iload_n 0, 1) := by decide +kernel
theorem dX4_asNumber_1 : decode cX4_asNumber 1 = .ok (.ifCond .eq 7, 3) := by decide +kernel
theorem dX4_asNumber_4 : decode cX4_asNumber 4 = .ok (.iconst 1, 1) := by decide +kernel
theorem dX4_asNumber_5 : decode cX4_asNumber 5 = .ok (.goto 4, 3) := by decide +kernel
theorem dX4_asNumber_8 : decode cX4_asNumber 8 = .ok (.iconst 0, 1) := by decide +kernel
theorem dX4_asNumber_9 : decode cX4_asNumber 9 = .ok (.ireturn, 1) := by decide +kernel
theorem dX4_conditionOf_0 : decode cX4_conditionOf 0 = .ok (.iload_n 0, 1) := by decide +kernel
theorem dX4_conditionOf_1 : decode cX4_conditionOf 1 = .ok (.bipush 11, 2) := by decide +kernel
theorem dX4_conditionOf_3 : decode cX4_conditionOf 3 = .ok (.imul, 1) := by decide +kernel
theorem dX4_conditionOf_4 : decode cX4_conditionOf 4 = .ok (.iload_n 1, 1) := by decide +kernel
theorem dX4_conditionOf_5 : decode cX4_conditionOf 5 = .ok (.iadd, 1) := by decide +kernel
theorem dX4_conditionOf_6 : decode cX4_conditionOf 6 = .ok (.ireturn, 1) := by decide +kernel
theorem dX4_columnOf_0 : decode cX4_columnOf 0 = .ok (.iload_n 0, 1) := by decide +kernel
theorem dX4_columnOf_1 : decode cX4_columnOf 1 = .ok (.iconst (-1), 1) := by decide +kernel
theorem dX4_columnOf_2 : decode cX4_columnOf 2 = .ok (.if_icmp .ne 7, 3) := by decide +kernel
theorem dX4_columnOf_5 : decode cX4_columnOf 5 = .ok (.iconst (-1), 1) := by decide +kernel
theorem dX4_columnOf_6 : decode cX4_columnOf 6 = .ok (.goto 7, 3) := by decide +kernel
theorem dX4_columnOf_9 : decode cX4_columnOf 9 = .ok (.iload_n 0, 1) := by decide +kernel
theorem dX4_columnOf_10 : decode cX4_columnOf 10 = .ok (.bipush 11, 2) := by decide +kernel
theorem dX4_columnOf_12 : decode cX4_columnOf 12 = .ok (.idiv, 1) := by decide +kernel
theorem dX4_columnOf_13 : decode cX4_columnOf 13 = .ok (.ireturn, 1) := by decide +kernel
theorem dX4_sortOf_0 : decode cX4_sortOf 0 = .ok (.iload_n 0, 1) := by decide +kernel
theorem dX4_sortOf_1 : decode cX4_sortOf 1 = .ok (.iconst (-1), 1) := by decide +kernel
theorem dX4_sortOf_2 : decode cX4_sortOf 2 = .ok (.if_icmp .ne 7, 3) := by decide +kernel
theorem dX4_sortOf_5 : decode cX4_sortOf 5 = .ok (.iconst (-1), 1) := by decide +kernel
theorem dX4_sortOf_6 : decode cX4_sortOf 6 = .ok (.goto 7, 3) := by decide +kernel
theorem dX4_sortOf_9 : decode cX4_sortOf 9 = .ok (.iload_n 0, 1) := by decide +kernel
theorem dX4_sortOf_10 : decode cX4_sortOf 10 = .ok (.bipush 11, 2) := by decide +kernel
theorem dX4_sortOf_12 : decode cX4_sortOf 12 = .ok (.irem, 1) := by decide +kernel
theorem dX4_sortOf_13 : decode cX4_sortOf 13 = .ok (.ireturn, 1) := by decide +kernel
theorem dX4_boundAbove_0 : decode cX4_boundAbove 0 = .ok (.iload_n 0, 1) := by decide +kernel
theorem dX4_boundAbove_1 : decode cX4_boundAbove 1 = .ok (.iconst 2, 1) := by decide +kernel
theorem dX4_boundAbove_2 : decode cX4_boundAbove 2 = .ok (.iadd, 1) := by decide +kernel
theorem dX4_boundAbove_3 : decode cX4_boundAbove 3 = .ok (.ireturn, 1) := by decide +kernel
theorem dX4_boundBelow_0 : decode cX4_boundBelow 0 = .ok (.iload_n 0, 1) := by decide +kernel
theorem dX4_boundBelow_1 : decode cX4_boundBelow 1 = .ok (.iconst 4, 1) := by decide +kernel
theorem dX4_boundBelow_2 : decode cX4_boundBelow 2 = .ok (.iadd, 1) := by decide +kernel
theorem dX4_boundBelow_3 : decode cX4_boundBelow 3 = .ok (.ireturn, 1) := by decide +kernel
set_option maxRecDepth 20000 in
theorem ggX4_driftBelow_J13_bitCount_95d88 : GoodIn wsX4_driftBelow wsJ13_bitCount_95d88 := goodIn_r _ [4, 5, 6, 7] (by decide +kernel) (by decide +kernel)
set_option maxRecDepth 20000 in
theorem gX4_driftBelow_J13_bitCount_95d88 : GoodIn wsX4_driftBelow (va_wsS RX4 102 yJ13_bitCount_95d88 wsJ13_bitCount_95d88) := goodIn_app (goodIn_of _ (by decide +kernel)) ggX4_driftBelow_J13_bitCount_95d88
theorem dX4_driftBelow_0 : decode cX4_driftBelow 0 = .ok (.iconst 2, 1) := by decide +kernel
theorem dX4_driftBelow_1 : decode cX4_driftBelow 1 = .ok (.lload_n 0, 1) := by decide +kernel
theorem dX4_driftBelow_2 : decode cX4_driftBelow 2 = .ok (.invokestatic 102, 3) := by decide +kernel
theorem dX4_driftBelow_5 : decode cX4_driftBelow 5 = .ok (.imul, 1) := by decide +kernel
theorem dX4_driftBelow_6 : decode cX4_driftBelow 6 = .ok (.lload_n 2, 1) := by decide +kernel
theorem dX4_driftBelow_7 : decode cX4_driftBelow 7 = .ok (.invokestatic 102, 3) := by decide +kernel
theorem dX4_driftBelow_10 : decode cX4_driftBelow 10 = .ok (.imul, 1) := by decide +kernel
theorem dX4_driftBelow_11 : decode cX4_driftBelow 11 = .ok (.ireturn, 1) := by decide +kernel
set_option maxRecDepth 20000 in
theorem ggX4_lowest_X4_commonDivisor : GoodIn wsX4_lowest wsX4_commonDivisor := goodIn_r _ [8, 9, 10, 3, 11] (by decide +kernel) (by decide +kernel)
set_option maxRecDepth 20000 in
theorem gX4_lowest_X4_commonDivisor : GoodIn wsX4_lowest (va_wsS RX4 222 yX4_commonDivisor wsX4_commonDivisor) := goodIn_app (goodIn_of _ (by decide +kernel)) ggX4_lowest_X4_commonDivisor
theorem dX4_lowest_0 : decode cX4_lowest 0 = .ok (.lload_n 0, 1) := by decide +kernel
theorem dX4_lowest_1 : decode cX4_lowest 1 = .ok (.invokestatic 216, 3) := by decide +kernel
theorem dX4_lowest_4 : decode cX4_lowest 4 = .ok (.lload_n 2, 1) := by decide +kernel
theorem dX4_lowest_5 : decode cX4_lowest 5 = .ok (.invokestatic 216, 3) := by decide +kernel
theorem dX4_lowest_8 : decode cX4_lowest 8 = .ok (.invokestatic 222, 3) := by decide +kernel
theorem dX4_lowest_11 : decode cX4_lowest 11 = .ok (.lstore 5, 2) := by decide +kernel
theorem dX4_lowest_13 : decode cX4_lowest 13 = .ok (.iload 4, 2) := by decide +kernel
theorem dX4_lowest_15 : decode cX4_lowest 15 = .ok (.iconst 1, 1) := by decide +kernel
theorem dX4_lowest_16 : decode cX4_lowest 16 = .ok (.if_icmp .ne 11, 3) := by decide +kernel
theorem dX4_lowest_19 : decode cX4_lowest 19 = .ok (.lload_n 2, 1) := by decide +kernel
theorem dX4_lowest_20 : decode cX4_lowest 20 = .ok (.invokestatic 216, 3) := by decide +kernel
theorem dX4_lowest_23 : decode cX4_lowest 23 = .ok (.lload 5, 2) := by decide +kernel
theorem dX4_lowest_25 : decode cX4_lowest 25 = .ok (.ldiv, 1) := by decide +kernel
theorem dX4_lowest_26 : decode cX4_lowest 26 = .ok (.lreturn, 1) := by decide +kernel
theorem dX4_lowest_27 : decode cX4_lowest 27 = .ok (.lload_n 2, 1) := by decide +kernel
theorem dX4_lowest_28 : decode cX4_lowest 28 = .ok (.lconst 0, 1) := by decide +kernel
theorem dX4_lowest_29 : decode cX4_lowest 29 = .ok (.lcmp, 1) := by decide +kernel
theorem dX4_lowest_30 : decode cX4_lowest 30 = .ok (.ifCond .ge 8, 3) := by decide +kernel
theorem dX4_lowest_33 : decode cX4_lowest 33 = .ok (.lload_n 0, 1) := by decide +kernel
theorem dX4_lowest_34 : decode cX4_lowest 34 = .ok (.lneg, 1) := by decide +kernel
theorem dX4_lowest_35 : decode cX4_lowest 35 = .ok (.goto 4, 3) := by decide +kernel
theorem dX4_lowest_38 : decode cX4_lowest 38 = .ok (.lload_n 0, 1) := by decide +kernel
theorem dX4_lowest_39 : decode cX4_lowest 39 = .ok (.lload 5, 2) := by decide +kernel
theorem dX4_lowest_41 : decode cX4_lowest 41 = .ok (.ldiv, 1) := by decide +kernel
theorem dX4_lowest_42 : decode cX4_lowest 42 = .ok (.lreturn, 1) := by decide +kernel
theorem dX4_commonDivisor_0 : decode cX4_commonDivisor 0 = .ok (.lload_n 0, 1) := by decide +kernel
theorem dX4_commonDivisor_1 : decode cX4_commonDivisor 1 = .ok (.lstore 4, 2) := by decide +kernel
theorem dX4_commonDivisor_3 : decode cX4_commonDivisor 3 = .ok (.lload_n 2, 1) := by decide +kernel
theorem dX4_commonDivisor_4 : decode cX4_commonDivisor 4 = .ok (.lstore 6, 2) := by decide +kernel
theorem dX4_commonDivisor_6 : decode cX4_commonDivisor 6 = .ok (.iconst 0, 1) := by decide +kernel
theorem dX4_commonDivisor_7 : decode cX4_commonDivisor 7 = .ok (.istore 8, 2) := by decide +kernel
theorem dX4_commonDivisor_9 : decode cX4_commonDivisor 9 = .ok (.iload 8, 2) := by decide +kernel
theorem dX4_commonDivisor_11 : decode cX4_commonDivisor 11 = .ok (.sipush 128, 3) := by decide +kernel
theorem dX4_commonDivisor_14 : decode cX4_commonDivisor 14 = .ok (.if_icmp .ge 31, 3) := by decide +kernel
theorem dX4_commonDivisor_17 : decode cX4_commonDivisor 17 = .ok (.lload 6, 2) := by decide +kernel
theorem dX4_commonDivisor_19 : decode cX4_commonDivisor 19 = .ok (.lconst 0, 1) := by decide +kernel
theorem dX4_commonDivisor_20 : decode cX4_commonDivisor 20 = .ok (.lcmp, 1) := by decide +kernel
theorem dX4_commonDivisor_21 : decode cX4_commonDivisor 21 = .ok (.ifCond .eq 24, 3) := by decide +kernel
theorem dX4_commonDivisor_24 : decode cX4_commonDivisor 24 = .ok (.lload 4, 2) := by decide +kernel
theorem dX4_commonDivisor_26 : decode cX4_commonDivisor 26 = .ok (.lload 6, 2) := by decide +kernel
theorem dX4_commonDivisor_28 : decode cX4_commonDivisor 28 = .ok (.lrem, 1) := by decide +kernel
theorem dX4_commonDivisor_29 : decode cX4_commonDivisor 29 = .ok (.lstore 9, 2) := by decide +kernel
theorem dX4_commonDivisor_31 : decode cX4_commonDivisor 31 = .ok (.lload 6, 2) := by decide +kernel
theorem dX4_commonDivisor_33 : decode cX4_commonDivisor 33 = .ok (.lstore 4, 2) := by decide +kernel
theorem dX4_commonDivisor_35 : decode cX4_commonDivisor 35 = .ok (.lload 9, 2) := by decide +kernel
theorem dX4_commonDivisor_37 : decode cX4_commonDivisor 37 = .ok (.lstore 6, 2) := by decide +kernel
theorem dX4_commonDivisor_39 : decode cX4_commonDivisor 39 = .ok (.iinc 8 1, 3) := by decide +kernel
theorem dX4_commonDivisor_42 : decode cX4_commonDivisor 42 = .ok (.goto (-33), 3) := by decide +kernel
theorem dX4_commonDivisor_45 : decode cX4_commonDivisor 45 = .ok (.lconst 1, 1) := by decide +kernel
theorem dX4_commonDivisor_46 : decode cX4_commonDivisor 46 = .ok (.lload 4, 2) := by decide +kernel
theorem dX4_commonDivisor_48 : decode cX4_commonDivisor 48 = .ok (.invokestatic 226, 3) := by decide +kernel
theorem dX4_commonDivisor_51 : decode cX4_commonDivisor 51 = .ok (.lreturn, 1) := by decide +kernel
theorem dX4_waysToChoose_0 : decode cX4_waysToChoose 0 = .ok (.iconst 1, 1) := by decide +kernel
theorem dX4_waysToChoose_1 : decode cX4_waysToChoose 1 = .ok (.istore_n 2, 1) := by decide +kernel
theorem dX4_waysToChoose_2 : decode cX4_waysToChoose 2 = .ok (.iconst 1, 1) := by decide +kernel
theorem dX4_waysToChoose_3 : decode cX4_waysToChoose 3 = .ok (.istore_n 3, 1) := by decide +kernel
theorem dX4_waysToChoose_4 : decode cX4_waysToChoose 4 = .ok (.iload_n 3, 1) := by decide +kernel
theorem dX4_waysToChoose_5 : decode cX4_waysToChoose 5 = .ok (.iload_n 1, 1) := by decide +kernel
theorem dX4_waysToChoose_6 : decode cX4_waysToChoose 6 = .ok (.if_icmp .gt 19, 3) := by decide +kernel
theorem dX4_waysToChoose_9 : decode cX4_waysToChoose 9 = .ok (.iload_n 2, 1) := by decide +kernel
theorem dX4_waysToChoose_10 : decode cX4_waysToChoose 10 = .ok (.iload_n 0, 1) := by decide +kernel
theorem dX4_waysToChoose_11 : decode cX4_waysToChoose 11 = .ok (.iload_n 1, 1) := by decide +kernel
theorem dX4_waysToChoose_12 : decode cX4_waysToChoose 12 = .ok (.isub, 1) := by decide +kernel
theorem dX4_waysToChoose_13 : decode cX4_waysToChoose 13 = .ok (.iload_n 3, 1) := by decide +kernel
theorem dX4_waysToChoose_14 : decode cX4_waysToChoose 14 = .ok (.iadd, 1) := by decide +kernel
theorem dX4_waysToChoose_15 : decode cX4_waysToChoose 15 = .ok (.imul, 1) := by decide +kernel
theorem dX4_waysToChoose_16 : decode cX4_waysToChoose 16 = .ok (.iload_n 3, 1) := by decide +kernel
theorem dX4_waysToChoose_17 : decode cX4_waysToChoose 17 = .ok (.idiv, 1) := by decide +kernel
theorem dX4_waysToChoose_18 : decode cX4_waysToChoose 18 = .ok (.istore_n 2, 1) := by decide +kernel
theorem dX4_waysToChoose_19 : decode cX4_waysToChoose 19 = .ok (.iinc 3 1, 3) := by decide +kernel
theorem dX4_waysToChoose_22 : decode cX4_waysToChoose 22 = .ok (.goto (-18), 3) := by decide +kernel
theorem dX4_waysToChoose_25 : decode cX4_waysToChoose 25 = .ok (.iload_n 2, 1) := by decide +kernel
theorem dX4_waysToChoose_26 : decode cX4_waysToChoose 26 = .ok (.ireturn, 1) := by decide +kernel
theorem dJ13_bitCount_95d88_0 : decode cJ13_bitCount_95d88 0 = .ok (.lload_n 0, 1) := by decide +kernel
theorem dJ13_bitCount_95d88_1 : decode cJ13_bitCount_95d88 1 = .ok (.lload_n 0, 1) := by decide +kernel
theorem dJ13_bitCount_95d88_2 : decode cJ13_bitCount_95d88 2 = .ok (.iconst 1, 1) := by decide +kernel
theorem dJ13_bitCount_95d88_3 : decode cJ13_bitCount_95d88 3 = .ok (.lushr, 1) := by decide +kernel
theorem dJ13_bitCount_95d88_4 : decode cJ13_bitCount_95d88 4 = .ok (.ldc2_w 314, 3) := by decide +kernel
theorem dJ13_bitCount_95d88_7 : decode cJ13_bitCount_95d88 7 = .ok (.land, 1) := by decide +kernel
theorem dJ13_bitCount_95d88_8 : decode cJ13_bitCount_95d88 8 = .ok (.lsub, 1) := by decide +kernel
theorem dJ13_bitCount_95d88_9 : decode cJ13_bitCount_95d88 9 = .ok (.lstore_n 0, 1) := by decide +kernel
theorem dJ13_bitCount_95d88_10 : decode cJ13_bitCount_95d88 10 = .ok (.lload_n 0, 1) := by decide +kernel
theorem dJ13_bitCount_95d88_11 : decode cJ13_bitCount_95d88 11 = .ok (.ldc2_w 316, 3) := by decide +kernel
theorem dJ13_bitCount_95d88_14 : decode cJ13_bitCount_95d88 14 = .ok (.land, 1) := by decide +kernel
theorem dJ13_bitCount_95d88_15 : decode cJ13_bitCount_95d88 15 = .ok (.lload_n 0, 1) := by decide +kernel
theorem dJ13_bitCount_95d88_16 : decode cJ13_bitCount_95d88 16 = .ok (.iconst 2, 1) := by decide +kernel
theorem dJ13_bitCount_95d88_17 : decode cJ13_bitCount_95d88 17 = .ok (.lushr, 1) := by decide +kernel
theorem dJ13_bitCount_95d88_18 : decode cJ13_bitCount_95d88 18 = .ok (.ldc2_w 316, 3) := by decide +kernel
theorem dJ13_bitCount_95d88_21 : decode cJ13_bitCount_95d88 21 = .ok (.land, 1) := by decide +kernel
theorem dJ13_bitCount_95d88_22 : decode cJ13_bitCount_95d88 22 = .ok (.ladd, 1) := by decide +kernel
theorem dJ13_bitCount_95d88_23 : decode cJ13_bitCount_95d88 23 = .ok (.lstore_n 0, 1) := by decide +kernel
theorem dJ13_bitCount_95d88_24 : decode cJ13_bitCount_95d88 24 = .ok (.lload_n 0, 1) := by decide +kernel
theorem dJ13_bitCount_95d88_25 : decode cJ13_bitCount_95d88 25 = .ok (.lload_n 0, 1) := by decide +kernel
theorem dJ13_bitCount_95d88_26 : decode cJ13_bitCount_95d88 26 = .ok (.iconst 4, 1) := by decide +kernel
theorem dJ13_bitCount_95d88_27 : decode cJ13_bitCount_95d88 27 = .ok (.lushr, 1) := by decide +kernel
theorem dJ13_bitCount_95d88_28 : decode cJ13_bitCount_95d88 28 = .ok (.ladd, 1) := by decide +kernel
theorem dJ13_bitCount_95d88_29 : decode cJ13_bitCount_95d88 29 = .ok (.ldc2_w 318, 3) := by decide +kernel
theorem dJ13_bitCount_95d88_32 : decode cJ13_bitCount_95d88 32 = .ok (.land, 1) := by decide +kernel
theorem dJ13_bitCount_95d88_33 : decode cJ13_bitCount_95d88 33 = .ok (.lstore_n 0, 1) := by decide +kernel
theorem dJ13_bitCount_95d88_34 : decode cJ13_bitCount_95d88 34 = .ok (.lload_n 0, 1) := by decide +kernel
theorem dJ13_bitCount_95d88_35 : decode cJ13_bitCount_95d88 35 = .ok (.lload_n 0, 1) := by decide +kernel
theorem dJ13_bitCount_95d88_36 : decode cJ13_bitCount_95d88 36 = .ok (.bipush 8, 2) := by decide +kernel
theorem dJ13_bitCount_95d88_38 : decode cJ13_bitCount_95d88 38 = .ok (.lushr, 1) := by decide +kernel
theorem dJ13_bitCount_95d88_39 : decode cJ13_bitCount_95d88 39 = .ok (.ladd, 1) := by decide +kernel
theorem dJ13_bitCount_95d88_40 : decode cJ13_bitCount_95d88 40 = .ok (.lstore_n 0, 1) := by decide +kernel
theorem dJ13_bitCount_95d88_41 : decode cJ13_bitCount_95d88 41 = .ok (.lload_n 0, 1) := by decide +kernel
theorem dJ13_bitCount_95d88_42 : decode cJ13_bitCount_95d88 42 = .ok (.lload_n 0, 1) := by decide +kernel
theorem dJ13_bitCount_95d88_43 : decode cJ13_bitCount_95d88 43 = .ok (.bipush 16, 2) := by decide +kernel
theorem dJ13_bitCount_95d88_45 : decode cJ13_bitCount_95d88 45 = .ok (.lushr, 1) := by decide +kernel
theorem dJ13_bitCount_95d88_46 : decode cJ13_bitCount_95d88 46 = .ok (.ladd, 1) := by decide +kernel
theorem dJ13_bitCount_95d88_47 : decode cJ13_bitCount_95d88 47 = .ok (.lstore_n 0, 1) := by decide +kernel
theorem dJ13_bitCount_95d88_48 : decode cJ13_bitCount_95d88 48 = .ok (.lload_n 0, 1) := by decide +kernel
theorem dJ13_bitCount_95d88_49 : decode cJ13_bitCount_95d88 49 = .ok (.lload_n 0, 1) := by decide +kernel
theorem dJ13_bitCount_95d88_50 : decode cJ13_bitCount_95d88 50 = .ok (.bipush 32, 2) := by decide +kernel
theorem dJ13_bitCount_95d88_52 : decode cJ13_bitCount_95d88 52 = .ok (.lushr, 1) := by decide +kernel
theorem dJ13_bitCount_95d88_53 : decode cJ13_bitCount_95d88 53 = .ok (.ladd, 1) := by decide +kernel
theorem dJ13_bitCount_95d88_54 : decode cJ13_bitCount_95d88 54 = .ok (.lstore_n 0, 1) := by decide +kernel
theorem dJ13_bitCount_95d88_55 : decode cJ13_bitCount_95d88 55 = .ok (.lload_n 0, 1) := by decide +kernel
theorem dJ13_bitCount_95d88_56 : decode cJ13_bitCount_95d88 56 = .ok (.l2i, 1) := by decide +kernel
theorem dJ13_bitCount_95d88_57 : decode cJ13_bitCount_95d88 57 = .ok (.bipush 127, 2) := by decide +kernel
theorem dJ13_bitCount_95d88_59 : decode cJ13_bitCount_95d88 59 = .ok (.iand, 1) := by decide +kernel
theorem dJ13_bitCount_95d88_60 : decode cJ13_bitCount_95d88 60 = .ok (.ireturn, 1) := by decide +kernel
theorem dJ9_abs_0f7a4_0 : decode cJ9_abs_0f7a4 0 = .ok (.iload_n 0, 1) := by decide +kernel
theorem dJ9_abs_0f7a4_1 : decode cJ9_abs_0f7a4 1 = .ok (.ifCond .ge 8, 3) := by decide +kernel
theorem dJ9_abs_0f7a4_4 : decode cJ9_abs_0f7a4 4 = .ok (.iload_n 0, 1) := by decide +kernel
theorem dJ9_abs_0f7a4_5 : decode cJ9_abs_0f7a4 5 = .ok (.ineg, 1) := by decide +kernel
theorem dJ9_abs_0f7a4_6 : decode cJ9_abs_0f7a4 6 = .ok (.goto 4, 3) := by decide +kernel
theorem dJ9_abs_0f7a4_9 : decode cJ9_abs_0f7a4 9 = .ok (.iload_n 0, 1) := by decide +kernel
theorem dJ9_abs_0f7a4_10 : decode cJ9_abs_0f7a4 10 = .ok (.ireturn, 1) := by decide +kernel
theorem dJ9_abs_067f4_0 : decode cJ9_abs_067f4 0 = .ok (.lload_n 0, 1) := by decide +kernel
theorem dJ9_abs_067f4_1 : decode cJ9_abs_067f4 1 = .ok (.lconst 0, 1) := by decide +kernel
theorem dJ9_abs_067f4_2 : decode cJ9_abs_067f4 2 = .ok (.lcmp, 1) := by decide +kernel
theorem dJ9_abs_067f4_3 : decode cJ9_abs_067f4 3 = .ok (.ifCond .ge 8, 3) := by decide +kernel
theorem dJ9_abs_067f4_6 : decode cJ9_abs_067f4 6 = .ok (.lload_n 0, 1) := by decide +kernel
theorem dJ9_abs_067f4_7 : decode cJ9_abs_067f4 7 = .ok (.lneg, 1) := by decide +kernel
theorem dJ9_abs_067f4_8 : decode cJ9_abs_067f4 8 = .ok (.goto 4, 3) := by decide +kernel
theorem dJ9_abs_067f4_11 : decode cJ9_abs_067f4 11 = .ok (.lload_n 0, 1) := by decide +kernel
theorem dJ9_abs_067f4_12 : decode cJ9_abs_067f4 12 = .ok (.lreturn, 1) := by decide +kernel
theorem dJ9_max_7cf53_0 : decode cJ9_max_7cf53 0 = .ok (.iload_n 0, 1) := by decide +kernel
theorem dJ9_max_7cf53_1 : decode cJ9_max_7cf53 1 = .ok (.iload_n 1, 1) := by decide +kernel
theorem dJ9_max_7cf53_2 : decode cJ9_max_7cf53 2 = .ok (.if_icmp .lt 7, 3) := by decide +kernel
theorem dJ9_max_7cf53_5 : decode cJ9_max_7cf53 5 = .ok (.iload_n 0, 1) := by decide +kernel
theorem dJ9_max_7cf53_6 : decode cJ9_max_7cf53 6 = .ok (.goto 4, 3) := by decide +kernel
theorem dJ9_max_7cf53_9 : decode cJ9_max_7cf53 9 = .ok (.iload_n 1, 1) := by decide +kernel
theorem dJ9_max_7cf53_10 : decode cJ9_max_7cf53 10 = .ok (.ireturn, 1) := by decide +kernel
theorem dJ9_max_f86c9_0 : decode cJ9_max_f86c9 0 = .ok (.lload_n 0, 1) := by decide +kernel
theorem dJ9_max_f86c9_1 : decode cJ9_max_f86c9 1 = .ok (.lload_n 2, 1) := by decide +kernel
theorem dJ9_max_f86c9_2 : decode cJ9_max_f86c9 2 = .ok (.lcmp, 1) := by decide +kernel
theorem dJ9_max_f86c9_3 : decode cJ9_max_f86c9 3 = .ok (.ifCond .lt 7, 3) := by decide +kernel
theorem dJ9_max_f86c9_6 : decode cJ9_max_f86c9 6 = .ok (.lload_n 0, 1) := by decide +kernel
theorem dJ9_max_f86c9_7 : decode cJ9_max_f86c9 7 = .ok (.goto 4, 3) := by decide +kernel
theorem dJ9_max_f86c9_10 : decode cJ9_max_f86c9 10 = .ok (.lload_n 2, 1) := by decide +kernel
theorem dJ9_max_f86c9_11 : decode cJ9_max_f86c9 11 = .ok (.lreturn, 1) := by decide +kernel
theorem dJ9_min_7cf53_0 : decode cJ9_min_7cf53 0 = .ok (.iload_n 0, 1) := by decide +kernel
theorem dJ9_min_7cf53_1 : decode cJ9_min_7cf53 1 = .ok (.iload_n 1, 1) := by decide +kernel
theorem dJ9_min_7cf53_2 : decode cJ9_min_7cf53 2 = .ok (.if_icmp .gt 7, 3) := by decide +kernel
theorem dJ9_min_7cf53_5 : decode cJ9_min_7cf53 5 = .ok (.iload_n 0, 1) := by decide +kernel
theorem dJ9_min_7cf53_6 : decode cJ9_min_7cf53 6 = .ok (.goto 4, 3) := by decide +kernel
theorem dJ9_min_7cf53_9 : decode cJ9_min_7cf53 9 = .ok (.iload_n 1, 1) := by decide +kernel
theorem dJ9_min_7cf53_10 : decode cJ9_min_7cf53 10 = .ok (.ireturn, 1) := by decide +kernel
theorem dJ7_fill_53178_0 : decode cJ7_fill_53178 0 = .ok (.iconst 0, 1) := by decide +kernel
theorem dJ7_fill_53178_1 : decode cJ7_fill_53178 1 = .ok (.istore_n 2, 1) := by decide +kernel
theorem dJ7_fill_53178_2 : decode cJ7_fill_53178 2 = .ok (.aload_n 0, 1) := by decide +kernel
theorem dJ7_fill_53178_3 : decode cJ7_fill_53178 3 = .ok (.arraylength, 1) := by decide +kernel
theorem dJ7_fill_53178_4 : decode cJ7_fill_53178 4 = .ok (.istore_n 3, 1) := by decide +kernel
theorem dJ7_fill_53178_5 : decode cJ7_fill_53178 5 = .ok (.iload_n 2, 1) := by decide +kernel
theorem dJ7_fill_53178_6 : decode cJ7_fill_53178 6 = .ok (.iload_n 3, 1) := by decide +kernel
theorem dJ7_fill_53178_7 : decode cJ7_fill_53178 7 = .ok (.if_icmp .ge 13, 3) := by decide +kernel
theorem dJ7_fill_53178_10 : decode cJ7_fill_53178 10 = .ok (.aload_n 0, 1) := by decide +kernel
theorem dJ7_fill_53178_11 : decode cJ7_fill_53178 11 = .ok (.iload_n 2, 1) := by decide +kernel
theorem dJ7_fill_53178_12 : decode cJ7_fill_53178 12 = .ok (.iload_n 1, 1) := by decide +kernel
theorem dJ7_fill_53178_13 : decode cJ7_fill_53178 13 = .ok (.iastore, 1) := by decide +kernel
theorem dJ7_fill_53178_14 : decode cJ7_fill_53178 14 = .ok (.iinc 2 1, 3) := by decide +kernel
theorem dJ7_fill_53178_17 : decode cJ7_fill_53178 17 = .ok (.goto (-12), 3) := by decide +kernel
theorem dJ7_fill_53178_20 : decode cJ7_fill_53178 20 = .ok (.return_, 1) := by decide +kernel
end
section
theorem dX5_init_0 : decode cX5_init 0 = .ok (.aload_n 0, 1) := by decide +kernel
theorem dX5_init_1 : decode cX5_init 1 = .ok (.invokespecial 1, 3) := by decide +kernel
theorem dX5_init_4 : decode cX5_init 4 = .ok (.aload_n 0, 1) := by decide +kernel
theorem dX5_init_5 : decode cX5_init 5 = .ok (.bipush 48, 2) := by decide +kernel
theorem dX5_init_7 : decode cX5_init 7 = .ok (.newarray .int, 2) := by decide +kernel
theorem dX5_init_9 : decode cX5_init 9 = .ok (.putfield 7, 3) := by decide +kernel
theorem dX5_init_12 : decode cX5_init 12 = .ok (.aload_n 0, 1) := by decide +kernel
theorem dX5_init_13 : decode cX5_init 13 = .ok (.bipush 48, 2) := by decide +kernel
theorem dX5_init_15 : decode cX5_init 15 = .ok (.newarray .boolean, 2) := by decide +kernel
theorem dX5_init_17 : decode cX5_init 17 = .ok (.putfield 13, 3) := by decide +kernel
theorem dX5_init_20 : decode cX5_init 20 = .ok (.aload_n 0, 1) := by decide +kernel
theorem dX5_init_21 : decode cX5_init 21 = .ok (.sipush 240, 3) := by decide +kernel
theorem dX5_init_24 : decode cX5_init 24 = .ok (.newarray .int, 2) := by decide +kernel
theorem dX5_init_26 : decode cX5_init 26 = .ok (.putfield 17, 3) := by decide +kernel
theorem dX5_init_29 : decode cX5_init 29 = .ok (.aload_n 0, 1) := by decide +kernel
theorem dX5_init_30 : decode cX5_init 30 = .ok (.sipush 700, 3) := by decide +kernel
theorem dX5_init_33 : decode cX5_init 33 = .ok (.newarray .int, 2) := by decide +kernel
theorem dX5_init_35 : decode cX5_init 35 = .ok (.putfield 20, 3) := by decide +kernel
theorem dX5_init_38 : decode cX5_init 38 = .ok (.aload_n 0, 1) := by decide +kernel
theorem dX5_init_39 : decode cX5_init 39 = .ok (.sipush 700, 3) := by decide +kernel
theorem dX5_init_42 : decode cX5_init 42 = .ok (.newarray .int, 2) := by decide +kernel
theorem dX5_init_44 : decode cX5_init 44 = .ok (.putfield 23, 3) := by decide +kernel
theorem dX5_init_47 : decode cX5_init 47 = .ok (.aload_n 0, 1) := by decide +kernel
theorem dX5_init_48 : decode cX5_init 48 = .ok (.sipush 700, 3) := by decide +kernel
theorem dX5_init_51 : decode cX5_init 51 = .ok (.newarray .int, 2) := by decide +kernel
theorem dX5_init_53 : decode cX5_init 53 = .ok (.putfield 26, 3) := by decide +kernel
theorem dX5_init_56 : decode cX5_init 56 = .ok (.aload_n 0, 1) := by decide +kernel
theorem dX5_init_57 : decode cX5_init 57 = .ok (.sipush 700, 3) := by decide +kernel
theorem dX5_init_60 : decode cX5_init 60 = .ok (.newarray .int, 2) := by decide +kernel
theorem dX5_init_62 : decode cX5_init 62 = .ok (.putfield 29, 3) := by decide +kernel
theorem dX5_init_65 : decode cX5_init 65 = .ok (.aload_n 0, 1) := by decide +kernel
theorem dX5_init_66 : decode cX5_init 66 = .ok (.sipush 700, 3) := by decide +kernel
theorem dX5_init_69 : decode cX5_init 69 = .ok (.newarray .long, 2) := by decide +kernel
theorem dX5_init_71 : decode cX5_init 71 = .ok (.putfield 32, 3) := by decide +kernel
theorem dX5_init_74 : decode cX5_init 74 = .ok (.aload_n 0, 1) := by decide +kernel
theorem dX5_init_75 : decode cX5_init 75 = .ok (.sipush 700, 3) := by decide +kernel
theorem dX5_init_78 : decode cX5_init 78 = .ok (.newarray .int, 2) := by decide +kernel
theorem dX5_init_80 : decode cX5_init 80 = .ok (.putfield 36, 3) := by decide +kernel
theorem dX5_init_83 : decode cX5_init 83 = .ok (.aload_n 0, 1) := by decide +kernel
theorem dX5_init_84 : decode cX5_init 84 = .ok (.sipush 700, 3) := by decide +kernel
theorem dX5_init_87 : decode cX5_init 87 = .ok (.newarray .int, 2) := by decide +kernel
theorem dX5_init_89 : decode cX5_init 89 = .ok (.putfield 39, 3) := by decide +kernel
theorem dX5_init_92 : decode cX5_init 92 = .ok (.aload_n 0, 1) := by decide +kernel
theorem dX5_init_93 : decode cX5_init 93 = .ok (.bipush 11, 2) := by decide +kernel
theorem dX5_init_95 : decode cX5_init 95 = .ok (.newarray .int, 2) := by decide +kernel
theorem dX5_init_97 : decode cX5_init 97 = .ok (.putfield 42, 3) := by decide +kernel
theorem dX5_init_100 : decode cX5_init 100 = .ok (.aload_n 0, 1) := by decide +kernel
theorem dX5_init_101 : decode cX5_init 101 = .ok (.bipush 11, 2) := by decide +kernel
theorem dX5_init_103 : decode cX5_init 103 = .ok (.newarray .int, 2) := by decide +kernel
theorem dX5_init_105 : decode cX5_init 105 = .ok (.putfield 45, 3) := by decide +kernel
theorem dX5_init_108 : decode cX5_init 108 = .ok (.aload_n 0, 1) := by decide +kernel
theorem dX5_init_109 : decode cX5_init 109 = .ok (.sipush 8421, 3) := by decide +kernel
theorem dX5_init_112 : decode cX5_init 112 = .ok (.newarray .long, 2) := by decide +kernel
theorem dX5_init_114 : decode cX5_init 114 = .ok (.putfield 48, 3) := by decide +kernel
theorem dX5_init_117 : decode cX5_init 117 = .ok (.aload_n 0, 1) := by decide +kernel
theorem dX5_init_118 : decode cX5_init 118 = .ok (.sipush 8421, 3) := by decide +kernel
theorem dX5_init_121 : decode cX5_init 121 = .ok (.newarray .long, 2) := by decide +kernel
theorem dX5_init_123 : decode cX5_init 123 = .ok (.putfield 51, 3) := by decide +kernel
theorem dX5_init_126 : decode cX5_init 126 = .ok (.aload_n 0, 1) := by decide +kernel
theorem dX5_init_127 : decode cX5_init 127 = .ok (.sipush 441, 3) := by decide +kernel
theorem dX5_init_130 : decode cX5_init 130 = .ok (.newarray .long, 2) := by decide +kernel
theorem dX5_init_132 : decode cX5_init 132 = .ok (.putfield 54, 3) := by decide +kernel
theorem dX5_init_135 : decode cX5_init 135 = .ok (.aload_n 0, 1) := by decide +kernel
theorem dX5_init_136 : decode cX5_init 136 = .ok (.iconst 5, 1) := by decide +kernel
theorem dX5_init_137 : decode cX5_init 137 = .ok (.newarray .long, 2) := by decide +kernel
theorem dX5_init_139 : decode cX5_init 139 = .ok (.putfield 57, 3) := by decide +kernel
theorem dX5_init_142 : decode cX5_init 142 = .ok (.aload_n 0, 1) := by decide +kernel
theorem dX5_init_143 : decode cX5_init 143 = .ok (.iconst 5, 1) := by decide +kernel
theorem dX5_init_144 : decode cX5_init 144 = .ok (.newarray .int, 2) := by decide +kernel
theorem dX5_init_146 : decode cX5_init 146 = .ok (.putfield 60, 3) := by decide +kernel
theorem dX5_init_149 : decode cX5_init 149 = .ok (.aload_n 0, 1) := by decide +kernel
theorem dX5_init_150 : decode cX5_init 150 = .ok (.bipush 100, 2) := by decide +kernel
theorem dX5_init_152 : decode cX5_init 152 = .ok (.newarray .boolean, 2) := by decide +kernel
theorem dX5_init_154 : decode cX5_init 154 = .ok (.putfield 63, 3) := by decide +kernel
theorem dX5_init_157 : decode cX5_init 157 = .ok (.aload_n 0, 1) := by decide +kernel
theorem dX5_init_158 : decode cX5_init 158 = .ok (.bipush 100, 2) := by decide +kernel
theorem dX5_init_160 : decode cX5_init 160 = .ok (.newarray .boolean, 2) := by decide +kernel
theorem dX5_init_162 : decode cX5_init 162 = .ok (.putfield 66, 3) := by decide +kernel
theorem dX5_init_165 : decode cX5_init 165 = .ok (.aload_n 0, 1) := by decide +kernel
theorem dX5_init_166 : decode cX5_init 166 = .ok (.bipush 100, 2) := by decide +kernel
theorem dX5_init_168 : decode cX5_init 168 = .ok (.newarray .int, 2) := by decide +kernel
theorem dX5_init_170 : decode cX5_init 170 = .ok (.putfield 69, 3) := by decide +kernel
theorem dX5_init_173 : decode cX5_init 173 = .ok (.aload_n 0, 1) := by decide +kernel
theorem dX5_init_174 : decode cX5_init 174 = .ok (.bipush 100, 2) := by decide +kernel
theorem dX5_init_176 : decode cX5_init 176 = .ok (.newarray .int, 2) := by decide +kernel
theorem dX5_init_178 : decode cX5_init 178 = .ok (.putfield 72, 3) := by decide +kernel
theorem dX5_init_181 : decode cX5_init 181 = .ok (.return_, 1) := by decide +kernel
theorem dX5_thrown_0 : decode cX5_thrown 0 = .ok (.aload_n 0, 1) := by decide +kernel
theorem dX5_thrown_1 : decode cX5_thrown 1 = .ok (.getfield 75, 3) := by decide +kernel
theorem dX5_thrown_4 : decode cX5_thrown 4 = .ok (.ireturn, 1) := by decide +kernel
theorem dX5_in_0 : decode cX5_in 0 = .ok (.iload_n 0, 1) := by decide +kernel
theorem dX5_in_1 : decode cX5_in 1 = .ok (.iload_n 1, 1) := by decide +kernel
theorem dX5_in_2 : decode cX5_in 2 = .ok (.if_icmp .lt 12, 3) := by decide +kernel
theorem dX5_in_5 : decode cX5_in 5 = .ok (.iload_n 0, 1) := by decide +kernel
theorem dX5_in_6 : decode cX5_in 6 = .ok (.iload_n 2, 1) := by decide +kernel
theorem dX5_in_7 : decode cX5_in 7 = .ok (.if_icmp .gt 7, 3) := by decide +kernel
theorem dX5_in_10 : decode cX5_in 10 = .ok (.iconst 1, 1) := by decide +kernel
theorem dX5_in_11 : decode cX5_in 11 = .ok (.goto 4, 3) := by decide +kernel
theorem dX5_in_14 : decode cX5_in 14 = .ok (.iconst 0, 1) := by decide +kernel
theorem dX5_in_15 : decode cX5_in 15 = .ok (.ireturn, 1) := by decide +kernel
set_option maxRecDepth 20000 in
theorem ggX5_row_X5_in : GoodIn wsX5_row wsX5_in := goodIn_r _ [11] (by decide +kernel) (by decide +kernel)
set_option maxRecDepth 20000 in
theorem gX5_row_X5_in : GoodIn wsX5_row (va_wsS RX5 79 yX5_in wsX5_in) := goodIn_app (goodIn_of _ (by decide +kernel)) ggX5_row_X5_in
theorem dX5_row_0 : decode cX5_row 0 = .ok (.aload_n 0, 1) := by decide +kernel
theorem dX5_row_1 : decode cX5_row 1 = .ok (.iconst 0, 1) := by decide +kernel
theorem dX5_row_2 : decode cX5_row 2 = .ok (.putfield 75, 3) := by decide +kernel
theorem dX5_row_5 : decode cX5_row 5 = .ok (.iload_n 1, 1) := by decide +kernel
theorem dX5_row_6 : decode cX5_row 6 = .ok (.iconst 0, 1) := by decide +kernel
theorem dX5_row_7 : decode cX5_row 7 = .ok (.sipush 999, 3) := by decide +kernel
theorem dX5_row_10 : decode cX5_row 10 = .ok (.invokestatic 79, 3) := by decide +kernel
theorem dX5_row_13 : decode cX5_row 13 = .ok (.ifCond .ne 6, 3) := by decide +kernel
theorem dX5_row_16 : decode cX5_row 16 = .ok (.ldc 83, 2) := by decide +kernel
theorem dX5_row_18 : decode cX5_row 18 = .ok (.ireturn, 1) := by decide +kernel
theorem dX5_row_19 : decode cX5_row 19 = .ok (.aload_n 0, 1) := by decide +kernel
theorem dX5_row_20 : decode cX5_row 20 = .ok (.getfield 84, 3) := by decide +kernel
theorem dX5_row_23 : decode cX5_row 23 = .ok (.bipush 48, 2) := by decide +kernel
theorem dX5_row_25 : decode cX5_row 25 = .ok (.if_icmp .ne 6, 3) := by decide +kernel
theorem dX5_row_28 : decode cX5_row 28 = .ok (.ldc 87, 2) := by decide +kernel
theorem dX5_row_30 : decode cX5_row 30 = .ok (.ireturn, 1) := by decide +kernel
theorem dX5_row_31 : decode cX5_row 31 = .ok (.aload_n 0, 1) := by decide +kernel
theorem dX5_row_32 : decode cX5_row 32 = .ok (.getfield 7, 3) := by decide +kernel
theorem dX5_row_35 : decode cX5_row 35 = .ok (.aload_n 0, 1) := by decide +kernel
theorem dX5_row_36 : decode cX5_row 36 = .ok (.getfield 84, 3) := by decide +kernel
theorem dX5_row_39 : decode cX5_row 39 = .ok (.iload_n 1, 1) := by decide +kernel
theorem dX5_row_40 : decode cX5_row 40 = .ok (.iastore, 1) := by decide +kernel
theorem dX5_row_41 : decode cX5_row 41 = .ok (.aload_n 0, 1) := by decide +kernel
theorem dX5_row_42 : decode cX5_row 42 = .ok (.getfield 13, 3) := by decide +kernel
theorem dX5_row_45 : decode cX5_row 45 = .ok (.aload_n 0, 1) := by decide +kernel
theorem dX5_row_46 : decode cX5_row 46 = .ok (.getfield 84, 3) := by decide +kernel
theorem dX5_row_49 : decode cX5_row 49 = .ok (.iload_n 2, 1) := by decide +kernel
theorem dX5_row_50 : decode cX5_row 50 = .ok (.bastore, 1) := by decide +kernel
theorem dX5_row_51 : decode cX5_row 51 = .ok (.iconst 0, 1) := by decide +kernel
theorem dX5_row_52 : decode cX5_row 52 = .ok (.istore_n 3, 1) := by decide +kernel
theorem dX5_row_53 : decode cX5_row 53 = .ok (.iload_n 3, 1) := by decide +kernel
theorem dX5_row_54 : decode cX5_row 54 = .ok (.iconst 5, 1) := by decide +kernel
theorem dX5_row_55 : decode cX5_row 55 = .ok (.if_icmp .ge 24, 3) := by decide +kernel
theorem dX5_row_58 : decode cX5_row 58 = .ok (.aload_n 0, 1) := by decide +kernel
theorem dX5_row_59 : decode cX5_row 59 = .ok (.getfield 17, 3) := by decide +kernel
theorem dX5_row_62 : decode cX5_row 62 = .ok (.iconst 5, 1) := by decide +kernel
theorem dX5_row_63 : decode cX5_row 63 = .ok (.aload_n 0, 1) := by decide +kernel
theorem dX5_row_64 : decode cX5_row 64 = .ok (.getfield 84, 3) := by decide +kernel
theorem dX5_row_67 : decode cX5_row 67 = .ok (.imul, 1) := by decide +kernel
theorem dX5_row_68 : decode cX5_row 68 = .ok (.iload_n 3, 1) := by decide +kernel
theorem dX5_row_69 : decode cX5_row 69 = .ok (.iadd, 1) := by decide +kernel
theorem dX5_row_70 : decode cX5_row 70 = .ok (.bipush 10, 2) := by decide +kernel
theorem dX5_row_72 : decode cX5_row 72 = .ok (.iastore, 1) := by decide +kernel
theorem dX5_row_73 : decode cX5_row 73 = .ok (.iinc 3 1, 3) := by decide +kernel
theorem dX5_row_76 : decode cX5_row 76 = .ok (.goto (-23), 3) := by decide +kernel
theorem dX5_row_79 : decode cX5_row 79 = .ok (.aload_n 0, 1) := by decide +kernel
theorem dX5_row_80 : decode cX5_row 80 = .ok (.dup, 1) := by decide +kernel
theorem dX5_row_81 : decode cX5_row 81 = .ok (.getfield 84, 3) := by decide +kernel
theorem dX5_row_84 : decode cX5_row 84 = .ok (.iconst 1, 1) := by decide +kernel
theorem dX5_row_85 : decode cX5_row 85 = .ok (.iadd, 1) := by decide +kernel
theorem dX5_row_86 : decode cX5_row 86 = .ok (.putfield 84, 3) := by decide +kernel
theorem dX5_row_89 : decode cX5_row 89 = .ok (.aload_n 0, 1) := by decide +kernel
theorem dX5_row_90 : decode cX5_row 90 = .ok (.getfield 84, 3) := by decide +kernel
theorem dX5_row_93 : decode cX5_row 93 = .ok (.iconst 1, 1) := by decide +kernel
theorem dX5_row_94 : decode cX5_row 94 = .ok (.isub, 1) := by decide +kernel
theorem dX5_row_95 : decode cX5_row 95 = .ok (.ireturn, 1) := by decide +kernel
set_option maxRecDepth 20000 in
theorem ggX5_put_X5_in : GoodIn wsX5_put wsX5_in := goodIn_r _ [9] (by decide +kernel) (by decide +kernel)
set_option maxRecDepth 20000 in
theorem gX5_put_X5_in : GoodIn wsX5_put (va_wsS RX5 79 yX5_in wsX5_in) := goodIn_app (goodIn_of _ (by decide +kernel)) ggX5_put_X5_in
theorem dX5_put_0 : decode cX5_put 0 = .ok (.aload_n 0, 1) := by decide +kernel
theorem dX5_put_1 : decode cX5_put 1 = .ok (.iconst 0, 1) := by decide +kernel
theorem dX5_put_2 : decode cX5_put 2 = .ok (.putfield 75, 3) := by decide +kernel
theorem dX5_put_5 : decode cX5_put 5 = .ok (.iload_n 1, 1) := by decide +kernel
theorem dX5_put_6 : decode cX5_put 6 = .ok (.iconst 0, 1) := by decide +kernel
theorem dX5_put_7 : decode cX5_put 7 = .ok (.aload_n 0, 1) := by decide +kernel
theorem dX5_put_8 : decode cX5_put 8 = .ok (.getfield 84, 3) := by decide +kernel
theorem dX5_put_11 : decode cX5_put 11 = .ok (.iconst 1, 1) := by decide +kernel
theorem dX5_put_12 : decode cX5_put 12 = .ok (.isub, 1) := by decide +kernel
theorem dX5_put_13 : decode cX5_put 13 = .ok (.invokestatic 79, 3) := by decide +kernel
theorem dX5_put_16 : decode cX5_put 16 = .ok (.ifCond .eq 12, 3) := by decide +kernel
theorem dX5_put_19 : decode cX5_put 19 = .ok (.iload_n 2, 1) := by decide +kernel
theorem dX5_put_20 : decode cX5_put 20 = .ok (.iconst 0, 1) := by decide +kernel
theorem dX5_put_21 : decode cX5_put 21 = .ok (.iconst 4, 1) := by decide +kernel
theorem dX5_put_22 : decode cX5_put 22 = .ok (.invokestatic 79, 3) := by decide +kernel
theorem dX5_put_25 : decode cX5_put 25 = .ok (.ifCond .ne 6, 3) := by decide +kernel
theorem dX5_put_28 : decode cX5_put 28 = .ok (.ldc 88, 2) := by decide +kernel
theorem dX5_put_30 : decode cX5_put 30 = .ok (.ireturn, 1) := by decide +kernel
theorem dX5_put_31 : decode cX5_put 31 = .ok (.iload_n 3, 1) := by decide +kernel
theorem dX5_put_32 : decode cX5_put 32 = .ok (.iconst (-1), 1) := by decide +kernel
theorem dX5_put_33 : decode cX5_put 33 = .ok (.bipush 9, 2) := by decide +kernel
theorem dX5_put_35 : decode cX5_put 35 = .ok (.invokestatic 79, 3) := by decide +kernel
theorem dX5_put_38 : decode cX5_put 38 = .ok (.ifCond .ne 6, 3) := by decide +kernel
theorem dX5_put_41 : decode cX5_put 41 = .ok (.ldc 83, 2) := by decide +kernel
theorem dX5_put_43 : decode cX5_put 43 = .ok (.ireturn, 1) := by decide +kernel
theorem dX5_put_44 : decode cX5_put 44 = .ok (.aload_n 0, 1) := by decide +kernel
theorem dX5_put_45 : decode cX5_put 45 = .ok (.getfield 17, 3) := by decide +kernel
theorem dX5_put_48 : decode cX5_put 48 = .ok (.iconst 5, 1) := by decide +kernel
theorem dX5_put_49 : decode cX5_put 49 = .ok (.iload_n 1, 1) := by decide +kernel
theorem dX5_put_50 : decode cX5_put 50 = .ok (.imul, 1) := by decide +kernel
theorem dX5_put_51 : decode cX5_put 51 = .ok (.iload_n 2, 1) := by decide +kernel
theorem dX5_put_52 : decode cX5_put 52 = .ok (.iadd, 1) := by decide +kernel
theorem dX5_put_53 : decode cX5_put 53 = .ok (.iaload, 1) := by decide +kernel
theorem dX5_put_54 : decode cX5_put 54 = .ok (.istore 4, 2) := by decide +kernel
theorem dX5_put_56 : decode cX5_put 56 = .ok (.aload_n 0, 1) := by decide +kernel
theorem dX5_put_57 : decode cX5_put 57 = .ok (.getfield 17, 3) := by decide +kernel
theorem dX5_put_60 : decode cX5_put 60 = .ok (.iconst 5, 1) := by decide +kernel
theorem dX5_put_61 : decode cX5_put 61 = .ok (.iload_n 1, 1) := by decide +kernel
theorem dX5_put_62 : decode cX5_put 62 = .ok (.imul, 1) := by decide +kernel
theorem dX5_put_63 : decode cX5_put 63 = .ok (.iload_n 2, 1) := by decide +kernel
theorem dX5_put_64 : decode cX5_put 64 = .ok (.iadd, 1) := by decide +kernel
theorem dX5_put_65 : decode cX5_put 65 = .ok (.iload_n 3, 1) := by decide +kernel
theorem dX5_put_66 : decode cX5_put 66 = .ok (.iconst (-1), 1) := by decide +kernel
theorem dX5_put_67 : decode cX5_put 67 = .ok (.if_icmp .ne 8, 3) := by decide +kernel
theorem dX5_put_70 : decode cX5_put 70 = .ok (.bipush 10, 2) := by decide +kernel
theorem dX5_put_72 : decode cX5_put 72 = .ok (.goto 4, 3) := by decide +kernel
theorem dX5_put_75 : decode cX5_put 75 = .ok (.iload_n 3, 1) := by decide +kernel
theorem dX5_put_76 : decode cX5_put 76 = .ok (.iastore, 1) := by decide +kernel
theorem dX5_put_77 : decode cX5_put 77 = .ok (.iload 4, 2) := by decide +kernel
theorem dX5_put_79 : decode cX5_put 79 = .ok (.ireturn, 1) := by decide +kernel
set_option maxRecDepth 20000 in
theorem ggX5_of_X5_in : GoodIn wsX5_of wsX5_in := goodIn_r _ [10] (by decide +kernel) (by decide +kernel)
set_option maxRecDepth 20000 in
theorem gX5_of_X5_in : GoodIn wsX5_of (va_wsS RX5 79 yX5_in wsX5_in) := goodIn_app (goodIn_of _ (by decide +kernel)) ggX5_of_X5_in
theorem dX5_of_0 : decode cX5_of 0 = .ok (.aload_n 0, 1) := by decide +kernel
theorem dX5_of_1 : decode cX5_of 1 = .ok (.iconst 0, 1) := by decide +kernel
theorem dX5_of_2 : decode cX5_of 2 = .ok (.putfield 75, 3) := by decide +kernel
theorem dX5_of_5 : decode cX5_of 5 = .ok (.iload_n 1, 1) := by decide +kernel
theorem dX5_of_6 : decode cX5_of 6 = .ok (.iconst 0, 1) := by decide +kernel
theorem dX5_of_7 : decode cX5_of 7 = .ok (.aload_n 0, 1) := by decide +kernel
theorem dX5_of_8 : decode cX5_of 8 = .ok (.getfield 84, 3) := by decide +kernel
theorem dX5_of_11 : decode cX5_of 11 = .ok (.iconst 1, 1) := by decide +kernel
theorem dX5_of_12 : decode cX5_of 12 = .ok (.isub, 1) := by decide +kernel
theorem dX5_of_13 : decode cX5_of 13 = .ok (.invokestatic 79, 3) := by decide +kernel
theorem dX5_of_16 : decode cX5_of 16 = .ok (.ifCond .eq 13, 3) := by decide +kernel
theorem dX5_of_19 : decode cX5_of 19 = .ok (.iload_n 2, 1) := by decide +kernel
theorem dX5_of_20 : decode cX5_of 20 = .ok (.iconst 0, 1) := by decide +kernel
theorem dX5_of_21 : decode cX5_of 21 = .ok (.bipush 6, 2) := by decide +kernel
theorem dX5_of_23 : decode cX5_of 23 = .ok (.invokestatic 79, 3) := by decide +kernel
theorem dX5_of_26 : decode cX5_of 26 = .ok (.ifCond .ne 6, 3) := by decide +kernel
theorem dX5_of_29 : decode cX5_of 29 = .ok (.ldc 88, 2) := by decide +kernel
theorem dX5_of_31 : decode cX5_of 31 = .ok (.ireturn, 1) := by decide +kernel
theorem dX5_of_32 : decode cX5_of 32 = .ok (.iload_n 2, 1) := by decide +kernel
theorem dX5_of_33 : decode cX5_of 33 = .ok (.iconst 5, 1) := by decide +kernel
theorem dX5_of_34 : decode cX5_of 34 = .ok (.if_icmp .ge 16, 3) := by decide +kernel
theorem dX5_of_37 : decode cX5_of 37 = .ok (.aload_n 0, 1) := by decide +kernel
theorem dX5_of_38 : decode cX5_of 38 = .ok (.getfield 17, 3) := by decide +kernel
theorem dX5_of_41 : decode cX5_of 41 = .ok (.iconst 5, 1) := by decide +kernel
theorem dX5_of_42 : decode cX5_of 42 = .ok (.iload_n 1, 1) := by decide +kernel
theorem dX5_of_43 : decode cX5_of 43 = .ok (.imul, 1) := by decide +kernel
theorem dX5_of_44 : decode cX5_of 44 = .ok (.iload_n 2, 1) := by decide +kernel
theorem dX5_of_45 : decode cX5_of 45 = .ok (.iadd, 1) := by decide +kernel
theorem dX5_of_46 : decode cX5_of 46 = .ok (.iaload, 1) := by decide +kernel
theorem dX5_of_47 : decode cX5_of 47 = .ok (.goto 31, 3) := by decide +kernel
theorem dX5_of_50 : decode cX5_of 50 = .ok (.iload_n 2, 1) := by decide +kernel
theorem dX5_of_51 : decode cX5_of 51 = .ok (.iconst 5, 1) := by decide +kernel
theorem dX5_of_52 : decode cX5_of 52 = .ok (.if_icmp .ne 12, 3) := by decide +kernel
theorem dX5_of_55 : decode cX5_of 55 = .ok (.aload_n 0, 1) := by decide +kernel
theorem dX5_of_56 : decode cX5_of 56 = .ok (.getfield 7, 3) := by decide +kernel
theorem dX5_of_59 : decode cX5_of 59 = .ok (.iload_n 1, 1) := by decide +kernel
theorem dX5_of_60 : decode cX5_of 60 = .ok (.iaload, 1) := by decide +kernel
theorem dX5_of_61 : decode cX5_of 61 = .ok (.goto 17, 3) := by decide +kernel
theorem dX5_of_64 : decode cX5_of 64 = .ok (.aload_n 0, 1) := by decide +kernel
theorem dX5_of_65 : decode cX5_of 65 = .ok (.getfield 13, 3) := by decide +kernel
theorem dX5_of_68 : decode cX5_of 68 = .ok (.iload_n 1, 1) := by decide +kernel
theorem dX5_of_69 : decode cX5_of 69 = .ok (.baload, 1) := by decide +kernel
theorem dX5_of_70 : decode cX5_of 70 = .ok (.ifCond .eq 7, 3) := by decide +kernel
theorem dX5_of_73 : decode cX5_of 73 = .ok (.iconst 1, 1) := by decide +kernel
theorem dX5_of_74 : decode cX5_of 74 = .ok (.goto 4, 3) := by decide +kernel
theorem dX5_of_77 : decode cX5_of 77 = .ok (.iconst 0, 1) := by decide +kernel
theorem dX5_of_78 : decode cX5_of 78 = .ok (.ireturn, 1) := by decide +kernel
theorem dX5_gcd_0 : decode cX5_gcd 0 = .ok (.lload_n 0, 1) := by decide +kernel
theorem dX5_gcd_1 : decode cX5_gcd 1 = .ok (.lconst 0, 1) := by decide +kernel
theorem dX5_gcd_2 : decode cX5_gcd 2 = .ok (.lcmp, 1) := by decide +kernel
theorem dX5_gcd_3 : decode cX5_gcd 3 = .ok (.ifCond .ge 8, 3) := by decide +kernel
theorem dX5_gcd_6 : decode cX5_gcd 6 = .ok (.lload_n 0, 1) := by decide +kernel
theorem dX5_gcd_7 : decode cX5_gcd 7 = .ok (.lneg, 1) := by decide +kernel
theorem dX5_gcd_8 : decode cX5_gcd 8 = .ok (.goto 4, 3) := by decide +kernel
theorem dX5_gcd_11 : decode cX5_gcd 11 = .ok (.lload_n 0, 1) := by decide +kernel
theorem dX5_gcd_12 : decode cX5_gcd 12 = .ok (.lstore 4, 2) := by decide +kernel
theorem dX5_gcd_14 : decode cX5_gcd 14 = .ok (.lload_n 2, 1) := by decide +kernel
theorem dX5_gcd_15 : decode cX5_gcd 15 = .ok (.lstore 6, 2) := by decide +kernel
theorem dX5_gcd_17 : decode cX5_gcd 17 = .ok (.lload 6, 2) := by decide +kernel
theorem dX5_gcd_19 : decode cX5_gcd 19 = .ok (.lconst 0, 1) := by decide +kernel
theorem dX5_gcd_20 : decode cX5_gcd 20 = .ok (.lcmp, 1) := by decide +kernel
theorem dX5_gcd_21 : decode cX5_gcd 21 = .ok (.ifCond .eq 21, 3) := by decide +kernel
theorem dX5_gcd_24 : decode cX5_gcd 24 = .ok (.lload 4, 2) := by decide +kernel
theorem dX5_gcd_26 : decode cX5_gcd 26 = .ok (.lload 6, 2) := by decide +kernel
theorem dX5_gcd_28 : decode cX5_gcd 28 = .ok (.lrem, 1) := by decide +kernel
theorem dX5_gcd_29 : decode cX5_gcd 29 = .ok (.lstore 8, 2) := by decide +kernel
theorem dX5_gcd_31 : decode cX5_gcd 31 = .ok (.lload 6, 2) := by decide +kernel
theorem dX5_gcd_33 : decode cX5_gcd 33 = .ok (.lstore 4, 2) := by decide +kernel
theorem dX5_gcd_35 : decode cX5_gcd 35 = .ok (.lload 8, 2) := by decide +kernel
theorem dX5_gcd_37 : decode cX5_gcd 37 = .ok (.lstore 6, 2) := by decide +kernel
theorem dX5_gcd_39 : decode cX5_gcd 39 = .ok (.goto (-22), 3) := by decide +kernel
theorem dX5_gcd_42 : decode cX5_gcd 42 = .ok (.lload 4, 2) := by decide +kernel
theorem dX5_gcd_44 : decode cX5_gcd 44 = .ok (.lreturn, 1) := by decide +kernel
set_option maxRecDepth 20000 in
theorem ggX5_part_X5_gcd : GoodIn wsX5_part wsX5_gcd := goodIn_r _ [4] (by decide +kernel) (by decide +kernel)
set_option maxRecDepth 20000 in
theorem gX5_part_X5_gcd : GoodIn wsX5_part (va_wsS RX5 89 yX5_gcd wsX5_gcd) := goodIn_app (goodIn_of _ (by decide +kernel)) ggX5_part_X5_gcd
theorem dX5_part_0 : decode cX5_part 0 = .ok (.lload_n 0, 1) := by decide +kernel
theorem dX5_part_1 : decode cX5_part 1 = .ok (.lload_n 2, 1) := by decide +kernel
theorem dX5_part_2 : decode cX5_part 2 = .ok (.invokestatic 89, 3) := by decide +kernel
theorem dX5_part_5 : decode cX5_part 5 = .ok (.lstore 5, 2) := by decide +kernel
theorem dX5_part_7 : decode cX5_part 7 = .ok (.iload 4, 2) := by decide +kernel
theorem dX5_part_9 : decode cX5_part 9 = .ok (.ifCond .ne 10, 3) := by decide +kernel
theorem dX5_part_12 : decode cX5_part 12 = .ok (.lload_n 0, 1) := by decide +kernel
theorem dX5_part_13 : decode cX5_part 13 = .ok (.lload 5, 2) := by decide +kernel
theorem dX5_part_15 : decode cX5_part 15 = .ok (.ldiv, 1) := by decide +kernel
theorem dX5_part_16 : decode cX5_part 16 = .ok (.goto 7, 3) := by decide +kernel
theorem dX5_part_19 : decode cX5_part 19 = .ok (.lload_n 2, 1) := by decide +kernel
theorem dX5_part_20 : decode cX5_part 20 = .ok (.lload 5, 2) := by decide +kernel
theorem dX5_part_22 : decode cX5_part 22 = .ok (.ldiv, 1) := by decide +kernel
theorem dX5_part_23 : decode cX5_part 23 = .ok (.lreturn, 1) := by decide +kernel
theorem dX5_rowsOf_0 : decode cX5_rowsOf 0 = .ok (.lconst 0, 1) := by decide +kernel
theorem dX5_rowsOf_1 : decode cX5_rowsOf 1 = .ok (.lstore_n 3, 1) := by decide +kernel
theorem dX5_rowsOf_2 : decode cX5_rowsOf 2 = .ok (.iconst 0, 1) := by decide +kernel
theorem dX5_rowsOf_3 : decode cX5_rowsOf 3 = .ok (.istore 5, 2) := by decide +kernel
theorem dX5_rowsOf_5 : decode cX5_rowsOf 5 = .ok (.iload 5, 2) := by decide +kernel
theorem dX5_rowsOf_7 : decode cX5_rowsOf 7 = .ok (.aload_n 0, 1) := by decide +kernel
theorem dX5_rowsOf_8 : decode cX5_rowsOf 8 = .ok (.getfield 84, 3) := by decide +kernel
theorem dX5_rowsOf_11 : decode cX5_rowsOf 11 = .ok (.if_icmp .ge 35, 3) := by decide +kernel
theorem dX5_rowsOf_14 : decode cX5_rowsOf 14 = .ok (.lload_n 3, 1) := by decide +kernel
theorem dX5_rowsOf_15 : decode cX5_rowsOf 15 = .ok (.aload_n 0, 1) := by decide +kernel
theorem dX5_rowsOf_16 : decode cX5_rowsOf 16 = .ok (.getfield 17, 3) := by decide +kernel
theorem dX5_rowsOf_19 : decode cX5_rowsOf 19 = .ok (.iconst 5, 1) := by decide +kernel
theorem dX5_rowsOf_20 : decode cX5_rowsOf 20 = .ok (.iload 5, 2) := by decide +kernel
theorem dX5_rowsOf_22 : decode cX5_rowsOf 22 = .ok (.imul, 1) := by decide +kernel
theorem dX5_rowsOf_23 : decode cX5_rowsOf 23 = .ok (.iload_n 1, 1) := by decide +kernel
theorem dX5_rowsOf_24 : decode cX5_rowsOf 24 = .ok (.iadd, 1) := by decide +kernel
theorem dX5_rowsOf_25 : decode cX5_rowsOf 25 = .ok (.iaload, 1) := by decide +kernel
theorem dX5_rowsOf_26 : decode cX5_rowsOf 26 = .ok (.iload_n 2, 1) := by decide +kernel
theorem dX5_rowsOf_27 : decode cX5_rowsOf 27 = .ok (.if_icmp .ne 10, 3) := by decide +kernel
theorem dX5_rowsOf_30 : decode cX5_rowsOf 30 = .ok (.lconst 1, 1) := by decide +kernel
theorem dX5_rowsOf_31 : decode cX5_rowsOf 31 = .ok (.iload 5, 2) := by decide +kernel
theorem dX5_rowsOf_33 : decode cX5_rowsOf 33 = .ok (.lshl, 1) := by decide +kernel
theorem dX5_rowsOf_34 : decode cX5_rowsOf 34 = .ok (.goto 4, 3) := by decide +kernel
theorem dX5_rowsOf_37 : decode cX5_rowsOf 37 = .ok (.lconst 0, 1) := by decide +kernel
theorem dX5_rowsOf_38 : decode cX5_rowsOf 38 = .ok (.lor, 1) := by decide +kernel
theorem dX5_rowsOf_39 : decode cX5_rowsOf 39 = .ok (.lstore_n 3, 1) := by decide +kernel
theorem dX5_rowsOf_40 : decode cX5_rowsOf 40 = .ok (.iinc 5 1, 3) := by decide +kernel
theorem dX5_rowsOf_43 : decode cX5_rowsOf 43 = .ok (.goto (-38), 3) := by decide +kernel
theorem dX5_rowsOf_46 : decode cX5_rowsOf 46 = .ok (.lload_n 3, 1) := by decide +kernel
theorem dX5_rowsOf_47 : decode cX5_rowsOf 47 = .ok (.lreturn, 1) := by decide +kernel
theorem dX5_countOf_0 : decode cX5_countOf 0 = .ok (.iconst 0, 1) := by decide +kernel
theorem dX5_countOf_1 : decode cX5_countOf 1 = .ok (.istore_n 2, 1) := by decide +kernel
theorem dX5_countOf_2 : decode cX5_countOf 2 = .ok (.iconst 0, 1) := by decide +kernel
theorem dX5_countOf_3 : decode cX5_countOf 3 = .ok (.istore_n 3, 1) := by decide +kernel
theorem dX5_countOf_4 : decode cX5_countOf 4 = .ok (.iload_n 3, 1) := by decide +kernel
theorem dX5_countOf_5 : decode cX5_countOf 5 = .ok (.bipush 48, 2) := by decide +kernel
theorem dX5_countOf_7 : decode cX5_countOf 7 = .ok (.if_icmp .ge 18, 3) := by decide +kernel
theorem dX5_countOf_10 : decode cX5_countOf 10 = .ok (.iload_n 2, 1) := by decide +kernel
theorem dX5_countOf_11 : decode cX5_countOf 11 = .ok (.lload_n 0, 1) := by decide +kernel
theorem dX5_countOf_12 : decode cX5_countOf 12 = .ok (.iload_n 3, 1) := by decide +kernel
theorem dX5_countOf_13 : decode cX5_countOf 13 = .ok (.lshr, 1) := by decide +kernel
theorem dX5_countOf_14 : decode cX5_countOf 14 = .ok (.lconst 1, 1) := by decide +kernel
theorem dX5_countOf_15 : decode cX5_countOf 15 = .ok (.land, 1) := by decide +kernel
theorem dX5_countOf_16 : decode cX5_countOf 16 = .ok (.l2i, 1) := by decide +kernel
theorem dX5_countOf_17 : decode cX5_countOf 17 = .ok (.iadd, 1) := by decide +kernel
theorem dX5_countOf_18 : decode cX5_countOf 18 = .ok (.istore_n 2, 1) := by decide +kernel
theorem dX5_countOf_19 : decode cX5_countOf 19 = .ok (.iinc 3 1, 3) := by decide +kernel
theorem dX5_countOf_22 : decode cX5_countOf 22 = .ok (.goto (-18), 3) := by decide +kernel
theorem dX5_countOf_25 : decode cX5_countOf 25 = .ok (.iload_n 2, 1) := by decide +kernel
theorem dX5_countOf_26 : decode cX5_countOf 26 = .ok (.ireturn, 1) := by decide +kernel
theorem dX5_hitsOf_0 : decode cX5_hitsOf 0 = .ok (.iconst 0, 1) := by decide +kernel
theorem dX5_hitsOf_1 : decode cX5_hitsOf 1 = .ok (.istore_n 3, 1) := by decide +kernel
theorem dX5_hitsOf_2 : decode cX5_hitsOf 2 = .ok (.iconst 0, 1) := by decide +kernel
theorem dX5_hitsOf_3 : decode cX5_hitsOf 3 = .ok (.istore 4, 2) := by decide +kernel
theorem dX5_hitsOf_5 : decode cX5_hitsOf 5 = .ok (.iload 4, 2) := by decide +kernel
theorem dX5_hitsOf_7 : decode cX5_hitsOf 7 = .ok (.aload_n 0, 1) := by decide +kernel
theorem dX5_hitsOf_8 : decode cX5_hitsOf 8 = .ok (.getfield 84, 3) := by decide +kernel
theorem dX5_hitsOf_11 : decode cX5_hitsOf 11 = .ok (.if_icmp .ge 38, 3) := by decide +kernel
theorem dX5_hitsOf_14 : decode cX5_hitsOf 14 = .ok (.iload_n 3, 1) := by decide +kernel
theorem dX5_hitsOf_15 : decode cX5_hitsOf 15 = .ok (.lload_n 1, 1) := by decide +kernel
theorem dX5_hitsOf_16 : decode cX5_hitsOf 16 = .ok (.iload 4, 2) := by decide +kernel
theorem dX5_hitsOf_18 : decode cX5_hitsOf 18 = .ok (.lshr, 1) := by decide +kernel
theorem dX5_hitsOf_19 : decode cX5_hitsOf 19 = .ok (.lconst 1, 1) := by decide +kernel
theorem dX5_hitsOf_20 : decode cX5_hitsOf 20 = .ok (.land, 1) := by decide +kernel
theorem dX5_hitsOf_21 : decode cX5_hitsOf 21 = .ok (.lconst 1, 1) := by decide +kernel
theorem dX5_hitsOf_22 : decode cX5_hitsOf 22 = .ok (.lcmp, 1) := by decide +kernel
theorem dX5_hitsOf_23 : decode cX5_hitsOf 23 = .ok (.ifCond .ne 17, 3) := by decide +kernel
theorem dX5_hitsOf_26 : decode cX5_hitsOf 26 = .ok (.aload_n 0, 1) := by decide +kernel
theorem dX5_hitsOf_27 : decode cX5_hitsOf 27 = .ok (.getfield 13, 3) := by decide +kernel
theorem dX5_hitsOf_30 : decode cX5_hitsOf 30 = .ok (.iload 4, 2) := by decide +kernel
theorem dX5_hitsOf_32 : decode cX5_hitsOf 32 = .ok (.baload, 1) := by decide +kernel
theorem dX5_hitsOf_33 : decode cX5_hitsOf 33 = .ok (.ifCond .eq 7, 3) := by decide +kernel
theorem dX5_hitsOf_36 : decode cX5_hitsOf 36 = .ok (.iconst 1, 1) := by decide +kernel
theorem dX5_hitsOf_37 : decode cX5_hitsOf 37 = .ok (.goto 4, 3) := by decide +kernel
theorem dX5_hitsOf_40 : decode cX5_hitsOf 40 = .ok (.iconst 0, 1) := by decide +kernel
theorem dX5_hitsOf_41 : decode cX5_hitsOf 41 = .ok (.iadd, 1) := by decide +kernel
theorem dX5_hitsOf_42 : decode cX5_hitsOf 42 = .ok (.istore_n 3, 1) := by decide +kernel
theorem dX5_hitsOf_43 : decode cX5_hitsOf 43 = .ok (.iinc 4 1, 3) := by decide +kernel
theorem dX5_hitsOf_46 : decode cX5_hitsOf 46 = .ok (.goto (-41), 3) := by decide +kernel
theorem dX5_hitsOf_49 : decode cX5_hitsOf 49 = .ok (.iload_n 3, 1) := by decide +kernel
theorem dX5_hitsOf_50 : decode cX5_hitsOf 50 = .ok (.ireturn, 1) := by decide +kernel
theorem dX5_goesBefore_0 : decode cX5_goesBefore 0 = .ok (.iload_n 2, 1) := by decide +kernel
theorem dX5_goesBefore_1 : decode cX5_goesBefore 1 = .ok (.iconst 2, 1) := by decide +kernel
theorem dX5_goesBefore_2 : decode cX5_goesBefore 2 = .ok (.iadd, 1) := by decide +kernel
theorem dX5_goesBefore_3 : decode cX5_goesBefore 3 = .ok (.aload_n 0, 1) := by decide +kernel
theorem dX5_goesBefore_4 : decode cX5_goesBefore 4 = .ok (.getfield 36, 3) := by decide +kernel
theorem dX5_goesBefore_7 : decode cX5_goesBefore 7 = .ok (.iload 7, 2) := by decide +kernel
theorem dX5_goesBefore_9 : decode cX5_goesBefore 9 = .ok (.iaload, 1) := by decide +kernel
theorem dX5_goesBefore_10 : decode cX5_goesBefore 10 = .ok (.iconst 4, 1) := by decide +kernel
theorem dX5_goesBefore_11 : decode cX5_goesBefore 11 = .ok (.iadd, 1) := by decide +kernel
theorem dX5_goesBefore_12 : decode cX5_goesBefore 12 = .ok (.imul, 1) := by decide +kernel
theorem dX5_goesBefore_13 : decode cX5_goesBefore 13 = .ok (.istore 8, 2) := by decide +kernel
theorem dX5_goesBefore_15 : decode cX5_goesBefore 15 = .ok (.aload_n 0, 1) := by decide +kernel
theorem dX5_goesBefore_16 : decode cX5_goesBefore 16 = .ok (.getfield 39, 3) := by decide +kernel
theorem dX5_goesBefore_19 : decode cX5_goesBefore 19 = .ok (.iload 7, 2) := by decide +kernel
theorem dX5_goesBefore_21 : decode cX5_goesBefore 21 = .ok (.iaload, 1) := by decide +kernel
theorem dX5_goesBefore_22 : decode cX5_goesBefore 22 = .ok (.iconst 2, 1) := by decide +kernel
theorem dX5_goesBefore_23 : decode cX5_goesBefore 23 = .ok (.iadd, 1) := by decide +kernel
theorem dX5_goesBefore_24 : decode cX5_goesBefore 24 = .ok (.iload_n 1, 1) := by decide +kernel
theorem dX5_goesBefore_25 : decode cX5_goesBefore 25 = .ok (.iconst 4, 1) := by decide +kernel
theorem dX5_goesBefore_26 : decode cX5_goesBefore 26 = .ok (.iadd, 1) := by decide +kernel
theorem dX5_goesBefore_27 : decode cX5_goesBefore 27 = .ok (.imul, 1) := by decide +kernel
theorem dX5_goesBefore_28 : decode cX5_goesBefore 28 = .ok (.istore 9, 2) := by decide +kernel
theorem dX5_goesBefore_30 : decode cX5_goesBefore 30 = .ok (.iload 8, 2) := by decide +kernel
theorem dX5_goesBefore_32 : decode cX5_goesBefore 32 = .ok (.iload 9, 2) := by decide +kernel
theorem dX5_goesBefore_34 : decode cX5_goesBefore 34 = .ok (.if_icmp .eq 16, 3) := by decide +kernel
theorem dX5_goesBefore_37 : decode cX5_goesBefore 37 = .ok (.iload 8, 2) := by decide +kernel
theorem dX5_goesBefore_39 : decode cX5_goesBefore 39 = .ok (.iload 9, 2) := by decide +kernel
theorem dX5_goesBefore_41 : decode cX5_goesBefore 41 = .ok (.if_icmp .ge 7, 3) := by decide +kernel
theorem dX5_goesBefore_44 : decode cX5_goesBefore 44 = .ok (.iconst 1, 1) := by decide +kernel
theorem dX5_goesBefore_45 : decode cX5_goesBefore 45 = .ok (.goto 4, 3) := by decide +kernel
theorem dX5_goesBefore_48 : decode cX5_goesBefore 48 = .ok (.iconst 0, 1) := by decide +kernel
theorem dX5_goesBefore_49 : decode cX5_goesBefore 49 = .ok (.ireturn, 1) := by decide +kernel
theorem dX5_goesBefore_50 : decode cX5_goesBefore 50 = .ok (.iload_n 1, 1) := by decide +kernel
theorem dX5_goesBefore_51 : decode cX5_goesBefore 51 = .ok (.aload_n 0, 1) := by decide +kernel
theorem dX5_goesBefore_52 : decode cX5_goesBefore 52 = .ok (.getfield 36, 3) := by decide +kernel
theorem dX5_goesBefore_55 : decode cX5_goesBefore 55 = .ok (.iload 7, 2) := by decide +kernel
theorem dX5_goesBefore_57 : decode cX5_goesBefore 57 = .ok (.iaload, 1) := by decide +kernel
theorem dX5_goesBefore_58 : decode cX5_goesBefore 58 = .ok (.if_icmp .eq 20, 3) := by decide +kernel
theorem dX5_goesBefore_61 : decode cX5_goesBefore 61 = .ok (.iload_n 1, 1) := by decide +kernel
theorem dX5_goesBefore_62 : decode cX5_goesBefore 62 = .ok (.aload_n 0, 1) := by decide +kernel
theorem dX5_goesBefore_63 : decode cX5_goesBefore 63 = .ok (.getfield 36, 3) := by decide +kernel
theorem dX5_goesBefore_66 : decode cX5_goesBefore 66 = .ok (.iload 7, 2) := by decide +kernel
theorem dX5_goesBefore_68 : decode cX5_goesBefore 68 = .ok (.iaload, 1) := by decide +kernel
theorem dX5_goesBefore_69 : decode cX5_goesBefore 69 = .ok (.if_icmp .le 7, 3) := by decide +kernel
theorem dX5_goesBefore_72 : decode cX5_goesBefore 72 = .ok (.iconst 1, 1) := by decide +kernel
theorem dX5_goesBefore_73 : decode cX5_goesBefore 73 = .ok (.goto 4, 3) := by decide +kernel
theorem dX5_goesBefore_76 : decode cX5_goesBefore 76 = .ok (.iconst 0, 1) := by decide +kernel
theorem dX5_goesBefore_77 : decode cX5_goesBefore 77 = .ok (.ireturn, 1) := by decide +kernel
theorem dX5_goesBefore_78 : decode cX5_goesBefore 78 = .ok (.iload_n 3, 1) := by decide +kernel
theorem dX5_goesBefore_79 : decode cX5_goesBefore 79 = .ok (.aload_n 0, 1) := by decide +kernel
theorem dX5_goesBefore_80 : decode cX5_goesBefore 80 = .ok (.getfield 20, 3) := by decide +kernel
theorem dX5_goesBefore_83 : decode cX5_goesBefore 83 = .ok (.iload 7, 2) := by decide +kernel
theorem dX5_goesBefore_85 : decode cX5_goesBefore 85 = .ok (.iaload, 1) := by decide +kernel
theorem dX5_goesBefore_86 : decode cX5_goesBefore 86 = .ok (.if_icmp .eq 20, 3) := by decide +kernel
theorem dX5_goesBefore_89 : decode cX5_goesBefore 89 = .ok (.iload_n 3, 1) := by decide +kernel
theorem dX5_goesBefore_90 : decode cX5_goesBefore 90 = .ok (.aload_n 0, 1) := by decide +kernel
theorem dX5_goesBefore_91 : decode cX5_goesBefore 91 = .ok (.getfield 20, 3) := by decide +kernel
theorem dX5_goesBefore_94 : decode cX5_goesBefore 94 = .ok (.iload 7, 2) := by decide +kernel
theorem dX5_goesBefore_96 : decode cX5_goesBefore 96 = .ok (.iaload, 1) := by decide +kernel
theorem dX5_goesBefore_97 : decode cX5_goesBefore 97 = .ok (.if_icmp .ge 7, 3) := by decide +kernel
theorem dX5_goesBefore_100 : decode cX5_goesBefore 100 = .ok (.iconst 1, 1) := by decide +kernel
theorem dX5_goesBefore_101 : decode cX5_goesBefore 101 = .ok (.goto 4, 3) := by decide +kernel
theorem dX5_goesBefore_104 : decode cX5_goesBefore 104 = .ok (.iconst 0, 1) := by decide +kernel
theorem dX5_goesBefore_105 : decode cX5_goesBefore 105 = .ok (.ireturn, 1) := by decide +kernel
theorem dX5_goesBefore_106 : decode cX5_goesBefore 106 = .ok (.iload 4, 2) := by decide +kernel
theorem dX5_goesBefore_108 : decode cX5_goesBefore 108 = .ok (.aload_n 0, 1) := by decide +kernel
theorem dX5_goesBefore_109 : decode cX5_goesBefore 109 = .ok (.getfield 23, 3) := by decide +kernel
theorem dX5_goesBefore_112 : decode cX5_goesBefore 112 = .ok (.iload 7, 2) := by decide +kernel
theorem dX5_goesBefore_114 : decode cX5_goesBefore 114 = .ok (.iaload, 1) := by decide +kernel
theorem dX5_goesBefore_115 : decode cX5_goesBefore 115 = .ok (.if_icmp .eq 21, 3) := by decide +kernel
theorem dX5_goesBefore_118 : decode cX5_goesBefore 118 = .ok (.iload 4, 2) := by decide +kernel
theorem dX5_goesBefore_120 : decode cX5_goesBefore 120 = .ok (.aload_n 0, 1) := by decide +kernel
theorem dX5_goesBefore_121 : decode cX5_goesBefore 121 = .ok (.getfield 23, 3) := by decide +kernel
theorem dX5_goesBefore_124 : decode cX5_goesBefore 124 = .ok (.iload 7, 2) := by decide +kernel
theorem dX5_goesBefore_126 : decode cX5_goesBefore 126 = .ok (.iaload, 1) := by decide +kernel
theorem dX5_goesBefore_127 : decode cX5_goesBefore 127 = .ok (.if_icmp .ge 7, 3) := by decide +kernel
theorem dX5_goesBefore_130 : decode cX5_goesBefore 130 = .ok (.iconst 1, 1) := by decide +kernel
theorem dX5_goesBefore_131 : decode cX5_goesBefore 131 = .ok (.goto 4, 3) := by decide +kernel
theorem dX5_goesBefore_134 : decode cX5_goesBefore 134 = .ok (.iconst 0, 1) := by decide +kernel
theorem dX5_goesBefore_135 : decode cX5_goesBefore 135 = .ok (.ireturn, 1) := by decide +kernel
theorem dX5_goesBefore_136 : decode cX5_goesBefore 136 = .ok (.iload 5, 2) := by decide +kernel
theorem dX5_goesBefore_138 : decode cX5_goesBefore 138 = .ok (.aload_n 0, 1) := by decide +kernel
theorem dX5_goesBefore_139 : decode cX5_goesBefore 139 = .ok (.getfield 26, 3) := by decide +kernel
theorem dX5_goesBefore_142 : decode cX5_goesBefore 142 = .ok (.iload 7, 2) := by decide +kernel
theorem dX5_goesBefore_144 : decode cX5_goesBefore 144 = .ok (.iaload, 1) := by decide +kernel
theorem dX5_goesBefore_145 : decode cX5_goesBefore 145 = .ok (.if_icmp .lt 27, 3) := by decide +kernel
theorem dX5_goesBefore_148 : decode cX5_goesBefore 148 = .ok (.iload 5, 2) := by decide +kernel
theorem dX5_goesBefore_150 : decode cX5_goesBefore 150 = .ok (.aload_n 0, 1) := by decide +kernel
theorem dX5_goesBefore_151 : decode cX5_goesBefore 151 = .ok (.getfield 26, 3) := by decide +kernel
theorem dX5_goesBefore_154 : decode cX5_goesBefore 154 = .ok (.iload 7, 2) := by decide +kernel
theorem dX5_goesBefore_156 : decode cX5_goesBefore 156 = .ok (.iaload, 1) := by decide +kernel
theorem dX5_goesBefore_157 : decode cX5_goesBefore 157 = .ok (.if_icmp .ne 19, 3) := by decide +kernel
theorem dX5_goesBefore_160 : decode cX5_goesBefore 160 = .ok (.iload 6, 2) := by decide +kernel
theorem dX5_goesBefore_162 : decode cX5_goesBefore 162 = .ok (.aload_n 0, 1) := by decide +kernel
theorem dX5_goesBefore_163 : decode cX5_goesBefore 163 = .ok (.getfield 29, 3) := by decide +kernel
theorem dX5_goesBefore_166 : decode cX5_goesBefore 166 = .ok (.iload 7, 2) := by decide +kernel
theorem dX5_goesBefore_168 : decode cX5_goesBefore 168 = .ok (.iaload, 1) := by decide +kernel
theorem dX5_goesBefore_169 : decode cX5_goesBefore 169 = .ok (.if_icmp .ge 7, 3) := by decide +kernel
theorem dX5_goesBefore_172 : decode cX5_goesBefore 172 = .ok (.iconst 1, 1) := by decide +kernel
theorem dX5_goesBefore_173 : decode cX5_goesBefore 173 = .ok (.goto 4, 3) := by decide +kernel
theorem dX5_goesBefore_176 : decode cX5_goesBefore 176 = .ok (.iconst 0, 1) := by decide +kernel
theorem dX5_goesBefore_177 : decode cX5_goesBefore 177 = .ok (.ireturn, 1) := by decide +kernel
set_option maxRecDepth 20000 in
theorem ggX5_judge_X5_countOf : GoodIn wsX5_judge wsX5_countOf := goodIn_r _ [12] (by decide +kernel) (by decide +kernel)
set_option maxRecDepth 20000 in
theorem gX5_judge_X5_countOf : GoodIn wsX5_judge (va_wsS RX5 93 yX5_countOf wsX5_countOf) := goodIn_app (goodIn_of _ (by decide +kernel)) ggX5_judge_X5_countOf
set_option maxRecDepth 20000 in
theorem ggX5_judge_X5_hitsOf : GoodIn wsX5_judge wsX5_hitsOf := goodIn_r _ [16, 17, 18, 23, 24, 25, 26, 27, 28, 29, 30, 31, 32, 33, 34, 35, 36, 37, 38, 39, 40, 41, 42, 43, 44, 45, 46, 47, 48, 49, 50, 51, 52] (by decide +kernel) (by decide +kernel)
set_option maxRecDepth 20000 in
theorem gX5_judge_X5_hitsOf : GoodIn wsX5_judge (wsV RX5 97 RX5 yX5_hitsOf wsX5_hitsOf) := goodIn_app (goodIn_of _ (by decide +kernel)) ggX5_judge_X5_hitsOf
set_option maxRecDepth 20000 in
theorem ggX5_judge_X5_goesBefore : GoodIn wsX5_judge wsX5_goesBefore := goodIn_r _ [22, 7, 8, 2, 3, 4, 5, 23, 24, 25, 26, 27, 28, 29, 30, 31, 32, 33, 34, 35, 36, 37, 38, 39, 40, 41, 42, 43, 44, 45, 46, 47, 48, 49, 50, 51, 52] (by decide +kernel) (by decide +kernel)
set_option maxRecDepth 20000 in
theorem gX5_judge_X5_goesBefore : GoodIn wsX5_judge (wsV RX5 103 RX5 yX5_goesBefore wsX5_goesBefore) := goodIn_app (goodIn_of _ (by decide +kernel)) ggX5_judge_X5_goesBefore
theorem dX5_judge_0 : decode cX5_judge 0 = .ok (.lload_n 1, 1) := by decide +kernel
theorem dX5_judge_1 : decode cX5_judge 1 = .ok (.invokestatic 93, 3) := by decide +kernel
theorem dX5_judge_4 : decode cX5_judge 4 = .ok (.istore 8, 2) := by decide +kernel
theorem dX5_judge_6 : decode cX5_judge 6 = .ok (.iload 8, 2) := by decide +kernel
theorem dX5_judge_8 : decode cX5_judge 8 = .ok (.iload_n 3, 1) := by decide +kernel
theorem dX5_judge_9 : decode cX5_judge 9 = .ok (.if_icmp .ge 4, 3) := by decide +kernel
theorem dX5_judge_12 : decode cX5_judge 12 = .ok (.return_, 1) := by decide +kernel
theorem dX5_judge_13 : decode cX5_judge 13 = .ok (.aload_n 0, 1) := by decide +kernel
theorem dX5_judge_14 : decode cX5_judge 14 = .ok (.lload_n 1, 1) := by decide +kernel
theorem dX5_judge_15 : decode cX5_judge 15 = .ok (.invokevirtual 97, 3) := by decide +kernel
theorem dX5_judge_18 : decode cX5_judge 18 = .ok (.istore 9, 2) := by decide +kernel
theorem dX5_judge_20 : decode cX5_judge 20 = .ok (.aload_n 0, 1) := by decide +kernel
theorem dX5_judge_21 : decode cX5_judge 21 = .ok (.getfield 100, 3) := by decide +kernel
theorem dX5_judge_24 : decode cX5_judge 24 = .ok (.istore 10, 2) := by decide +kernel
theorem dX5_judge_26 : decode cX5_judge 26 = .ok (.iload 10, 2) := by decide +kernel
theorem dX5_judge_28 : decode cX5_judge 28 = .ok (.ifCond .le 144, 3) := by decide +kernel
theorem dX5_judge_31 : decode cX5_judge 31 = .ok (.aload_n 0, 1) := by decide +kernel
theorem dX5_judge_32 : decode cX5_judge 32 = .ok (.iload 8, 2) := by decide +kernel
theorem dX5_judge_34 : decode cX5_judge 34 = .ok (.iload 9, 2) := by decide +kernel
theorem dX5_judge_36 : decode cX5_judge 36 = .ok (.iload 4, 2) := by decide +kernel
theorem dX5_judge_38 : decode cX5_judge 38 = .ok (.iload 5, 2) := by decide +kernel
theorem dX5_judge_40 : decode cX5_judge 40 = .ok (.iload 6, 2) := by decide +kernel
theorem dX5_judge_42 : decode cX5_judge 42 = .ok (.iload 7, 2) := by decide +kernel
theorem dX5_judge_44 : decode cX5_judge 44 = .ok (.iload 10, 2) := by decide +kernel
theorem dX5_judge_46 : decode cX5_judge 46 = .ok (.iconst 1, 1) := by decide +kernel
theorem dX5_judge_47 : decode cX5_judge 47 = .ok (.isub, 1) := by decide +kernel
theorem dX5_judge_48 : decode cX5_judge 48 = .ok (.invokevirtual 103, 3) := by decide +kernel
theorem dX5_judge_51 : decode cX5_judge 51 = .ok (.ifCond .eq 121, 3) := by decide +kernel
theorem dX5_judge_54 : decode cX5_judge 54 = .ok (.aload_n 0, 1) := by decide +kernel
theorem dX5_judge_55 : decode cX5_judge 55 = .ok (.getfield 20, 3) := by decide +kernel
theorem dX5_judge_58 : decode cX5_judge 58 = .ok (.iload 10, 2) := by decide +kernel
theorem dX5_judge_60 : decode cX5_judge 60 = .ok (.aload_n 0, 1) := by decide +kernel
theorem dX5_judge_61 : decode cX5_judge 61 = .ok (.getfield 20, 3) := by decide +kernel
theorem dX5_judge_64 : decode cX5_judge 64 = .ok (.iload 10, 2) := by decide +kernel
theorem dX5_judge_66 : decode cX5_judge 66 = .ok (.iconst 1, 1) := by decide +kernel
theorem dX5_judge_67 : decode cX5_judge 67 = .ok (.isub, 1) := by decide +kernel
theorem dX5_judge_68 : decode cX5_judge 68 = .ok (.iaload, 1) := by decide +kernel
theorem dX5_judge_69 : decode cX5_judge 69 = .ok (.iastore, 1) := by decide +kernel
theorem dX5_judge_70 : decode cX5_judge 70 = .ok (.aload_n 0, 1) := by decide +kernel
theorem dX5_judge_71 : decode cX5_judge 71 = .ok (.getfield 23, 3) := by decide +kernel
theorem dX5_judge_74 : decode cX5_judge 74 = .ok (.iload 10, 2) := by decide +kernel
theorem dX5_judge_76 : decode cX5_judge 76 = .ok (.aload_n 0, 1) := by decide +kernel
theorem dX5_judge_77 : decode cX5_judge 77 = .ok (.getfield 23, 3) := by decide +kernel
theorem dX5_judge_80 : decode cX5_judge 80 = .ok (.iload 10, 2) := by decide +kernel
theorem dX5_judge_82 : decode cX5_judge 82 = .ok (.iconst 1, 1) := by decide +kernel
theorem dX5_judge_83 : decode cX5_judge 83 = .ok (.isub, 1) := by decide +kernel
theorem dX5_judge_84 : decode cX5_judge 84 = .ok (.iaload, 1) := by decide +kernel
theorem dX5_judge_85 : decode cX5_judge 85 = .ok (.iastore, 1) := by decide +kernel
theorem dX5_judge_86 : decode cX5_judge 86 = .ok (.aload_n 0, 1) := by decide +kernel
theorem dX5_judge_87 : decode cX5_judge 87 = .ok (.getfield 26, 3) := by decide +kernel
theorem dX5_judge_90 : decode cX5_judge 90 = .ok (.iload 10, 2) := by decide +kernel
theorem dX5_judge_92 : decode cX5_judge 92 = .ok (.aload_n 0, 1) := by decide +kernel
theorem dX5_judge_93 : decode cX5_judge 93 = .ok (.getfield 26, 3) := by decide +kernel
theorem dX5_judge_96 : decode cX5_judge 96 = .ok (.iload 10, 2) := by decide +kernel
theorem dX5_judge_98 : decode cX5_judge 98 = .ok (.iconst 1, 1) := by decide +kernel
theorem dX5_judge_99 : decode cX5_judge 99 = .ok (.isub, 1) := by decide +kernel
theorem dX5_judge_100 : decode cX5_judge 100 = .ok (.iaload, 1) := by decide +kernel
theorem dX5_judge_101 : decode cX5_judge 101 = .ok (.iastore, 1) := by decide +kernel
theorem dX5_judge_102 : decode cX5_judge 102 = .ok (.aload_n 0, 1) := by decide +kernel
theorem dX5_judge_103 : decode cX5_judge 103 = .ok (.getfield 29, 3) := by decide +kernel
theorem dX5_judge_106 : decode cX5_judge 106 = .ok (.iload 10, 2) := by decide +kernel
theorem dX5_judge_108 : decode cX5_judge 108 = .ok (.aload_n 0, 1) := by decide +kernel
theorem dX5_judge_109 : decode cX5_judge 109 = .ok (.getfield 29, 3) := by decide +kernel
theorem dX5_judge_112 : decode cX5_judge 112 = .ok (.iload 10, 2) := by decide +kernel
theorem dX5_judge_114 : decode cX5_judge 114 = .ok (.iconst 1, 1) := by decide +kernel
theorem dX5_judge_115 : decode cX5_judge 115 = .ok (.isub, 1) := by decide +kernel
theorem dX5_judge_116 : decode cX5_judge 116 = .ok (.iaload, 1) := by decide +kernel
theorem dX5_judge_117 : decode cX5_judge 117 = .ok (.iastore, 1) := by decide +kernel
theorem dX5_judge_118 : decode cX5_judge 118 = .ok (.aload_n 0, 1) := by decide +kernel
theorem dX5_judge_119 : decode cX5_judge 119 = .ok (.getfield 32, 3) := by decide +kernel
theorem dX5_judge_122 : decode cX5_judge 122 = .ok (.iload 10, 2) := by decide +kernel
theorem dX5_judge_124 : decode cX5_judge 124 = .ok (.aload_n 0, 1) := by decide +kernel
theorem dX5_judge_125 : decode cX5_judge 125 = .ok (.getfield 32, 3) := by decide +kernel
theorem dX5_judge_128 : decode cX5_judge 128 = .ok (.iload 10, 2) := by decide +kernel
theorem dX5_judge_130 : decode cX5_judge 130 = .ok (.iconst 1, 1) := by decide +kernel
theorem dX5_judge_131 : decode cX5_judge 131 = .ok (.isub, 1) := by decide +kernel
theorem dX5_judge_132 : decode cX5_judge 132 = .ok (.laload, 1) := by decide +kernel
theorem dX5_judge_133 : decode cX5_judge 133 = .ok (.lastore, 1) := by decide +kernel
theorem dX5_judge_134 : decode cX5_judge 134 = .ok (.aload_n 0, 1) := by decide +kernel
theorem dX5_judge_135 : decode cX5_judge 135 = .ok (.getfield 36, 3) := by decide +kernel
theorem dX5_judge_138 : decode cX5_judge 138 = .ok (.iload 10, 2) := by decide +kernel
theorem dX5_judge_140 : decode cX5_judge 140 = .ok (.aload_n 0, 1) := by decide +kernel
theorem dX5_judge_141 : decode cX5_judge 141 = .ok (.getfield 36, 3) := by decide +kernel
theorem dX5_judge_144 : decode cX5_judge 144 = .ok (.iload 10, 2) := by decide +kernel
theorem dX5_judge_146 : decode cX5_judge 146 = .ok (.iconst 1, 1) := by decide +kernel
theorem dX5_judge_147 : decode cX5_judge 147 = .ok (.isub, 1) := by decide +kernel
theorem dX5_judge_148 : decode cX5_judge 148 = .ok (.iaload, 1) := by decide +kernel
theorem dX5_judge_149 : decode cX5_judge 149 = .ok (.iastore, 1) := by decide +kernel
theorem dX5_judge_150 : decode cX5_judge 150 = .ok (.aload_n 0, 1) := by decide +kernel
theorem dX5_judge_151 : decode cX5_judge 151 = .ok (.getfield 39, 3) := by decide +kernel
theorem dX5_judge_154 : decode cX5_judge 154 = .ok (.iload 10, 2) := by decide +kernel
theorem dX5_judge_156 : decode cX5_judge 156 = .ok (.aload_n 0, 1) := by decide +kernel
theorem dX5_judge_157 : decode cX5_judge 157 = .ok (.getfield 39, 3) := by decide +kernel
theorem dX5_judge_160 : decode cX5_judge 160 = .ok (.iload 10, 2) := by decide +kernel
theorem dX5_judge_162 : decode cX5_judge 162 = .ok (.iconst 1, 1) := by decide +kernel
theorem dX5_judge_163 : decode cX5_judge 163 = .ok (.isub, 1) := by decide +kernel
theorem dX5_judge_164 : decode cX5_judge 164 = .ok (.iaload, 1) := by decide +kernel
theorem dX5_judge_165 : decode cX5_judge 165 = .ok (.iastore, 1) := by decide +kernel
theorem dX5_judge_166 : decode cX5_judge 166 = .ok (.iinc 10 (-1), 3) := by decide +kernel
theorem dX5_judge_169 : decode cX5_judge 169 = .ok (.goto (-143), 3) := by decide +kernel
theorem dX5_judge_172 : decode cX5_judge 172 = .ok (.aload_n 0, 1) := by decide +kernel
theorem dX5_judge_173 : decode cX5_judge 173 = .ok (.getfield 20, 3) := by decide +kernel
theorem dX5_judge_176 : decode cX5_judge 176 = .ok (.iload 10, 2) := by decide +kernel
theorem dX5_judge_178 : decode cX5_judge 178 = .ok (.iload 4, 2) := by decide +kernel
theorem dX5_judge_180 : decode cX5_judge 180 = .ok (.iastore, 1) := by decide +kernel
theorem dX5_judge_181 : decode cX5_judge 181 = .ok (.aload_n 0, 1) := by decide +kernel
theorem dX5_judge_182 : decode cX5_judge 182 = .ok (.getfield 23, 3) := by decide +kernel
theorem dX5_judge_185 : decode cX5_judge 185 = .ok (.iload 10, 2) := by decide +kernel
theorem dX5_judge_187 : decode cX5_judge 187 = .ok (.iload 5, 2) := by decide +kernel
theorem dX5_judge_189 : decode cX5_judge 189 = .ok (.iastore, 1) := by decide +kernel
theorem dX5_judge_190 : decode cX5_judge 190 = .ok (.aload_n 0, 1) := by decide +kernel
theorem dX5_judge_191 : decode cX5_judge 191 = .ok (.getfield 26, 3) := by decide +kernel
theorem dX5_judge_194 : decode cX5_judge 194 = .ok (.iload 10, 2) := by decide +kernel
theorem dX5_judge_196 : decode cX5_judge 196 = .ok (.iload 6, 2) := by decide +kernel
theorem dX5_judge_198 : decode cX5_judge 198 = .ok (.iastore, 1) := by decide +kernel
theorem dX5_judge_199 : decode cX5_judge 199 = .ok (.aload_n 0, 1) := by decide +kernel
theorem dX5_judge_200 : decode cX5_judge 200 = .ok (.getfield 29, 3) := by decide +kernel
theorem dX5_judge_203 : decode cX5_judge 203 = .ok (.iload 10, 2) := by decide +kernel
theorem dX5_judge_205 : decode cX5_judge 205 = .ok (.iload 7, 2) := by decide +kernel
theorem dX5_judge_207 : decode cX5_judge 207 = .ok (.iastore, 1) := by decide +kernel
theorem dX5_judge_208 : decode cX5_judge 208 = .ok (.aload_n 0, 1) := by decide +kernel
theorem dX5_judge_209 : decode cX5_judge 209 = .ok (.getfield 32, 3) := by decide +kernel
theorem dX5_judge_212 : decode cX5_judge 212 = .ok (.iload 10, 2) := by decide +kernel
theorem dX5_judge_214 : decode cX5_judge 214 = .ok (.lload_n 1, 1) := by decide +kernel
theorem dX5_judge_215 : decode cX5_judge 215 = .ok (.lastore, 1) := by decide +kernel
theorem dX5_judge_216 : decode cX5_judge 216 = .ok (.aload_n 0, 1) := by decide +kernel
theorem dX5_judge_217 : decode cX5_judge 217 = .ok (.getfield 36, 3) := by decide +kernel
theorem dX5_judge_220 : decode cX5_judge 220 = .ok (.iload 10, 2) := by decide +kernel
theorem dX5_judge_222 : decode cX5_judge 222 = .ok (.iload 8, 2) := by decide +kernel
theorem dX5_judge_224 : decode cX5_judge 224 = .ok (.iastore, 1) := by decide +kernel
theorem dX5_judge_225 : decode cX5_judge 225 = .ok (.aload_n 0, 1) := by decide +kernel
theorem dX5_judge_226 : decode cX5_judge 226 = .ok (.getfield 39, 3) := by decide +kernel
theorem dX5_judge_229 : decode cX5_judge 229 = .ok (.iload 10, 2) := by decide +kernel
theorem dX5_judge_231 : decode cX5_judge 231 = .ok (.iload 9, 2) := by decide +kernel
theorem dX5_judge_233 : decode cX5_judge 233 = .ok (.iastore, 1) := by decide +kernel
theorem dX5_judge_234 : decode cX5_judge 234 = .ok (.aload_n 0, 1) := by decide +kernel
theorem dX5_judge_235 : decode cX5_judge 235 = .ok (.dup, 1) := by decide +kernel
theorem dX5_judge_236 : decode cX5_judge 236 = .ok (.getfield 100, 3) := by decide +kernel
theorem dX5_judge_239 : decode cX5_judge 239 = .ok (.iconst 1, 1) := by decide +kernel
theorem dX5_judge_240 : decode cX5_judge 240 = .ok (.iadd, 1) := by decide +kernel
theorem dX5_judge_241 : decode cX5_judge 241 = .ok (.putfield 100, 3) := by decide +kernel
theorem dX5_judge_244 : decode cX5_judge 244 = .ok (.return_, 1) := by decide +kernel
set_option maxRecDepth 20000 in
theorem ggX5_slices_X5_in : GoodIn wsX5_slices wsX5_in := goodIn_r _ [7] (by decide +kernel) (by decide +kernel)
set_option maxRecDepth 20000 in
theorem gX5_slices_X5_in : GoodIn wsX5_slices (va_wsS RX5 79 yX5_in wsX5_in) := goodIn_app (goodIn_of _ (by decide +kernel)) ggX5_slices_X5_in
set_option maxRecDepth 20000 in
theorem ggX5_slices_X5_rowsOf : GoodIn wsX5_slices wsX5_rowsOf := goodIn_r _ [11, 12, 13, 37, 38, 39, 40, 41, 42, 43, 44, 45, 46, 47, 48, 49, 50, 51, 52, 53, 54, 55, 56, 57, 58, 59, 60, 61, 62, 63, 64, 65, 66] (by decide +kernel) (by decide +kernel)
set_option maxRecDepth 20000 in
theorem gX5_slices_X5_rowsOf : GoodIn wsX5_slices (wsV RX5 107 RX5 yX5_rowsOf wsX5_rowsOf) := goodIn_app (goodIn_of _ (by decide +kernel)) ggX5_slices_X5_rowsOf
set_option maxRecDepth 20000 in
theorem ggX5_slices_X5_judge : GoodIn wsX5_slices wsX5_judge := goodIn_r _ [17, 3, 18, 19, 20, 21, 22, 23, 24, 25, 26, 6, 27, 28, 29, 30, 31, 12, 32, 33, 34, 35, 36, 37, 38, 39, 40, 41, 42, 43, 44, 45, 46, 47, 48, 49, 50, 51, 52, 53, 54, 55, 56, 57, 58, 59, 60, 61, 62, 63, 64, 65, 66] (by decide +kernel) (by decide +kernel)
set_option maxRecDepth 20000 in
theorem gX5_slices_X5_judge : GoodIn wsX5_slices (wsV RX5 111 RX5 yX5_judge wsX5_judge) := goodIn_app (goodIn_of _ (by decide +kernel)) ggX5_slices_X5_judge
theorem dX5_slices_0 : decode cX5_slices 0 = .ok (.aload_n 0, 1) := by decide +kernel
theorem dX5_slices_1 : decode cX5_slices 1 = .ok (.iconst 0, 1) := by decide +kernel
theorem dX5_slices_2 : decode cX5_slices 2 = .ok (.putfield 75, 3) := by decide +kernel
theorem dX5_slices_5 : decode cX5_slices 5 = .ok (.iload_n 1, 1) := by decide +kernel
theorem dX5_slices_6 : decode cX5_slices 6 = .ok (.iconst 1, 1) := by decide +kernel
theorem dX5_slices_7 : decode cX5_slices 7 = .ok (.bipush 48, 2) := by decide +kernel
theorem dX5_slices_9 : decode cX5_slices 9 = .ok (.invokestatic 79, 3) := by decide +kernel
theorem dX5_slices_12 : decode cX5_slices 12 = .ok (.ifCond .eq 12, 3) := by decide +kernel
theorem dX5_slices_15 : decode cX5_slices 15 = .ok (.iload_n 2, 1) := by decide +kernel
theorem dX5_slices_16 : decode cX5_slices 16 = .ok (.iconst 1, 1) := by decide +kernel
theorem dX5_slices_17 : decode cX5_slices 17 = .ok (.iconst 2, 1) := by decide +kernel
theorem dX5_slices_18 : decode cX5_slices 18 = .ok (.invokestatic 79, 3) := by decide +kernel
theorem dX5_slices_21 : decode cX5_slices 21 = .ok (.ifCond .ne 6, 3) := by decide +kernel
theorem dX5_slices_24 : decode cX5_slices 24 = .ok (.ldc 83, 2) := by decide +kernel
theorem dX5_slices_26 : decode cX5_slices 26 = .ok (.ireturn, 1) := by decide +kernel
theorem dX5_slices_27 : decode cX5_slices 27 = .ok (.aload_n 0, 1) := by decide +kernel
theorem dX5_slices_28 : decode cX5_slices 28 = .ok (.iconst 0, 1) := by decide +kernel
theorem dX5_slices_29 : decode cX5_slices 29 = .ok (.putfield 100, 3) := by decide +kernel
theorem dX5_slices_32 : decode cX5_slices 32 = .ok (.iconst 0, 1) := by decide +kernel
theorem dX5_slices_33 : decode cX5_slices 33 = .ok (.istore_n 3, 1) := by decide +kernel
theorem dX5_slices_34 : decode cX5_slices 34 = .ok (.iload_n 3, 1) := by decide +kernel
theorem dX5_slices_35 : decode cX5_slices 35 = .ok (.iconst 5, 1) := by decide +kernel
theorem dX5_slices_36 : decode cX5_slices 36 = .ok (.if_icmp .ge 145, 3) := by decide +kernel
theorem dX5_slices_39 : decode cX5_slices 39 = .ok (.iconst 0, 1) := by decide +kernel
theorem dX5_slices_40 : decode cX5_slices 40 = .ok (.istore 4, 2) := by decide +kernel
theorem dX5_slices_42 : decode cX5_slices 42 = .ok (.iload 4, 2) := by decide +kernel
theorem dX5_slices_44 : decode cX5_slices 44 = .ok (.bipush 11, 2) := by decide +kernel
theorem dX5_slices_46 : decode cX5_slices 46 = .ok (.if_icmp .ge 129, 3) := by decide +kernel
theorem dX5_slices_49 : decode cX5_slices 49 = .ok (.aload_n 0, 1) := by decide +kernel
theorem dX5_slices_50 : decode cX5_slices 50 = .ok (.iload_n 3, 1) := by decide +kernel
theorem dX5_slices_51 : decode cX5_slices 51 = .ok (.iload 4, 2) := by decide +kernel
theorem dX5_slices_53 : decode cX5_slices 53 = .ok (.invokevirtual 107, 3) := by decide +kernel
theorem dX5_slices_56 : decode cX5_slices 56 = .ok (.lstore 5, 2) := by decide +kernel
theorem dX5_slices_58 : decode cX5_slices 58 = .ok (.aload_n 0, 1) := by decide +kernel
theorem dX5_slices_59 : decode cX5_slices 59 = .ok (.lload 5, 2) := by decide +kernel
theorem dX5_slices_61 : decode cX5_slices 61 = .ok (.iload_n 1, 1) := by decide +kernel
theorem dX5_slices_62 : decode cX5_slices 62 = .ok (.iload_n 3, 1) := by decide +kernel
theorem dX5_slices_63 : decode cX5_slices 63 = .ok (.iload 4, 2) := by decide +kernel
theorem dX5_slices_65 : decode cX5_slices 65 = .ok (.iconst (-1), 1) := by decide +kernel
theorem dX5_slices_66 : decode cX5_slices 66 = .ok (.iconst (-1), 1) := by decide +kernel
theorem dX5_slices_67 : decode cX5_slices 67 = .ok (.invokevirtual 111, 3) := by decide +kernel
theorem dX5_slices_70 : decode cX5_slices 70 = .ok (.iload_n 3, 1) := by decide +kernel
theorem dX5_slices_71 : decode cX5_slices 71 = .ok (.iconst 1, 1) := by decide +kernel
theorem dX5_slices_72 : decode cX5_slices 72 = .ok (.iadd, 1) := by decide +kernel
theorem dX5_slices_73 : decode cX5_slices 73 = .ok (.istore 7, 2) := by decide +kernel
theorem dX5_slices_75 : decode cX5_slices 75 = .ok (.iload 7, 2) := by decide +kernel
theorem dX5_slices_77 : decode cX5_slices 77 = .ok (.iconst 5, 1) := by decide +kernel
theorem dX5_slices_78 : decode cX5_slices 78 = .ok (.if_icmp .ge 91, 3) := by decide +kernel
theorem dX5_slices_81 : decode cX5_slices 81 = .ok (.iload_n 2, 1) := by decide +kernel
theorem dX5_slices_82 : decode cX5_slices 82 = .ok (.iconst 2, 1) := by decide +kernel
theorem dX5_slices_83 : decode cX5_slices 83 = .ok (.if_icmp .ne 86, 3) := by decide +kernel
theorem dX5_slices_86 : decode cX5_slices 86 = .ok (.lload 5, 2) := by decide +kernel
theorem dX5_slices_88 : decode cX5_slices 88 = .ok (.lconst 0, 1) := by decide +kernel
theorem dX5_slices_89 : decode cX5_slices 89 = .ok (.lcmp, 1) := by decide +kernel
theorem dX5_slices_90 : decode cX5_slices 90 = .ok (.ifCond .eq 79, 3) := by decide +kernel
theorem dX5_slices_93 : decode cX5_slices 93 = .ok (.iconst 0, 1) := by decide +kernel
theorem dX5_slices_94 : decode cX5_slices 94 = .ok (.istore 8, 2) := by decide +kernel
theorem dX5_slices_96 : decode cX5_slices 96 = .ok (.iload 8, 2) := by decide +kernel
theorem dX5_slices_98 : decode cX5_slices 98 = .ok (.bipush 11, 2) := by decide +kernel
theorem dX5_slices_100 : decode cX5_slices 100 = .ok (.if_icmp .ge 63, 3) := by decide +kernel
theorem dX5_slices_103 : decode cX5_slices 103 = .ok (.aload_n 0, 1) := by decide +kernel
theorem dX5_slices_104 : decode cX5_slices 104 = .ok (.iload 7, 2) := by decide +kernel
theorem dX5_slices_106 : decode cX5_slices 106 = .ok (.iload 8, 2) := by decide +kernel
theorem dX5_slices_108 : decode cX5_slices 108 = .ok (.invokevirtual 107, 3) := by decide +kernel
theorem dX5_slices_111 : decode cX5_slices 111 = .ok (.lstore 9, 2) := by decide +kernel
theorem dX5_slices_113 : decode cX5_slices 113 = .ok (.lload 5, 2) := by decide +kernel
theorem dX5_slices_115 : decode cX5_slices 115 = .ok (.lload 9, 2) := by decide +kernel
theorem dX5_slices_117 : decode cX5_slices 117 = .ok (.land, 1) := by decide +kernel
theorem dX5_slices_118 : decode cX5_slices 118 = .ok (.lstore 11, 2) := by decide +kernel
theorem dX5_slices_120 : decode cX5_slices 120 = .ok (.lload 11, 2) := by decide +kernel
theorem dX5_slices_122 : decode cX5_slices 122 = .ok (.lconst 0, 1) := by decide +kernel
theorem dX5_slices_123 : decode cX5_slices 123 = .ok (.lcmp, 1) := by decide +kernel
theorem dX5_slices_124 : decode cX5_slices 124 = .ok (.ifCond .eq 33, 3) := by decide +kernel
theorem dX5_slices_127 : decode cX5_slices 127 = .ok (.lload 11, 2) := by decide +kernel
theorem dX5_slices_129 : decode cX5_slices 129 = .ok (.lload 5, 2) := by decide +kernel
theorem dX5_slices_131 : decode cX5_slices 131 = .ok (.lcmp, 1) := by decide +kernel
theorem dX5_slices_132 : decode cX5_slices 132 = .ok (.ifCond .eq 25, 3) := by decide +kernel
theorem dX5_slices_135 : decode cX5_slices 135 = .ok (.lload 11, 2) := by decide +kernel
theorem dX5_slices_137 : decode cX5_slices 137 = .ok (.lload 9, 2) := by decide +kernel
theorem dX5_slices_139 : decode cX5_slices 139 = .ok (.lcmp, 1) := by decide +kernel
theorem dX5_slices_140 : decode cX5_slices 140 = .ok (.ifCond .eq 17, 3) := by decide +kernel
theorem dX5_slices_143 : decode cX5_slices 143 = .ok (.aload_n 0, 1) := by decide +kernel
theorem dX5_slices_144 : decode cX5_slices 144 = .ok (.lload 11, 2) := by decide +kernel
theorem dX5_slices_146 : decode cX5_slices 146 = .ok (.iload_n 1, 1) := by decide +kernel
theorem dX5_slices_147 : decode cX5_slices 147 = .ok (.iload_n 3, 1) := by decide +kernel
theorem dX5_slices_148 : decode cX5_slices 148 = .ok (.iload 4, 2) := by decide +kernel
theorem dX5_slices_150 : decode cX5_slices 150 = .ok (.iload 7, 2) := by decide +kernel
theorem dX5_slices_152 : decode cX5_slices 152 = .ok (.iload 8, 2) := by decide +kernel
theorem dX5_slices_154 : decode cX5_slices 154 = .ok (.invokevirtual 111, 3) := by decide +kernel
theorem dX5_slices_157 : decode cX5_slices 157 = .ok (.iinc 8 1, 3) := by decide +kernel
theorem dX5_slices_160 : decode cX5_slices 160 = .ok (.goto (-64), 3) := by decide +kernel
theorem dX5_slices_163 : decode cX5_slices 163 = .ok (.iinc 7 1, 3) := by decide +kernel
theorem dX5_slices_166 : decode cX5_slices 166 = .ok (.goto (-91), 3) := by decide +kernel
theorem dX5_slices_169 : decode cX5_slices 169 = .ok (.iinc 4 1, 3) := by decide +kernel
theorem dX5_slices_172 : decode cX5_slices 172 = .ok (.goto (-130), 3) := by decide +kernel
theorem dX5_slices_175 : decode cX5_slices 175 = .ok (.iinc 3 1, 3) := by decide +kernel
theorem dX5_slices_178 : decode cX5_slices 178 = .ok (.goto (-144), 3) := by decide +kernel
theorem dX5_slices_181 : decode cX5_slices 181 = .ok (.aload_n 0, 1) := by decide +kernel
theorem dX5_slices_182 : decode cX5_slices 182 = .ok (.getfield 100, 3) := by decide +kernel
theorem dX5_slices_185 : decode cX5_slices 185 = .ok (.ireturn, 1) := by decide +kernel
set_option maxRecDepth 20000 in
theorem ggX5_slice_X5_in : GoodIn wsX5_slice wsX5_in := goodIn_r _ [13] (by decide +kernel) (by decide +kernel)
set_option maxRecDepth 20000 in
theorem gX5_slice_X5_in : GoodIn wsX5_slice (va_wsS RX5 79 yX5_in wsX5_in) := goodIn_app (goodIn_of _ (by decide +kernel)) ggX5_slice_X5_in
theorem dX5_slice_0 : decode cX5_slice 0 = .ok (.aload_n 0, 1) := by decide +kernel
theorem dX5_slice_1 : decode cX5_slice 1 = .ok (.iconst 0, 1) := by decide +kernel
theorem dX5_slice_2 : decode cX5_slice 2 = .ok (.putfield 75, 3) := by decide +kernel
theorem dX5_slice_5 : decode cX5_slice 5 = .ok (.iload_n 1, 1) := by decide +kernel
theorem dX5_slice_6 : decode cX5_slice 6 = .ok (.iconst 0, 1) := by decide +kernel
theorem dX5_slice_7 : decode cX5_slice 7 = .ok (.aload_n 0, 1) := by decide +kernel
theorem dX5_slice_8 : decode cX5_slice 8 = .ok (.getfield 100, 3) := by decide +kernel
theorem dX5_slice_11 : decode cX5_slice 11 = .ok (.iconst 1, 1) := by decide +kernel
theorem dX5_slice_12 : decode cX5_slice 12 = .ok (.isub, 1) := by decide +kernel
theorem dX5_slice_13 : decode cX5_slice 13 = .ok (.invokestatic 79, 3) := by decide +kernel
theorem dX5_slice_16 : decode cX5_slice 16 = .ok (.ifCond .ne 6, 3) := by decide +kernel
theorem dX5_slice_19 : decode cX5_slice 19 = .ok (.ldc 88, 2) := by decide +kernel
theorem dX5_slice_21 : decode cX5_slice 21 = .ok (.ireturn, 1) := by decide +kernel
theorem dX5_slice_22 : decode cX5_slice 22 = .ok (.iload_n 2, 1) := by decide +kernel
theorem dX5_slice_23 : decode cX5_slice 23 = .ok (.tableswitch 79 0 5 #[37, 44, 51, 58, 65, 72], 37) := by decide +kernel
theorem dX5_slice_60 : decode cX5_slice 60 = .ok (.aload_n 0, 1) := by decide +kernel
theorem dX5_slice_61 : decode cX5_slice 61 = .ok (.getfield 20, 3) := by decide +kernel
theorem dX5_slice_64 : decode cX5_slice 64 = .ok (.iload_n 1, 1) := by decide +kernel
theorem dX5_slice_65 : decode cX5_slice 65 = .ok (.iaload, 1) := by decide +kernel
theorem dX5_slice_66 : decode cX5_slice 66 = .ok (.ireturn, 1) := by decide +kernel
theorem dX5_slice_67 : decode cX5_slice 67 = .ok (.aload_n 0, 1) := by decide +kernel
theorem dX5_slice_68 : decode cX5_slice 68 = .ok (.getfield 23, 3) := by decide +kernel
theorem dX5_slice_71 : decode cX5_slice 71 = .ok (.iload_n 1, 1) := by decide +kernel
theorem dX5_slice_72 : decode cX5_slice 72 = .ok (.iaload, 1) := by decide +kernel
theorem dX5_slice_73 : decode cX5_slice 73 = .ok (.ireturn, 1) := by decide +kernel
theorem dX5_slice_74 : decode cX5_slice 74 = .ok (.aload_n 0, 1) := by decide +kernel
theorem dX5_slice_75 : decode cX5_slice 75 = .ok (.getfield 26, 3) := by decide +kernel
theorem dX5_slice_78 : decode cX5_slice 78 = .ok (.iload_n 1, 1) := by decide +kernel
theorem dX5_slice_79 : decode cX5_slice 79 = .ok (.iaload, 1) := by decide +kernel
theorem dX5_slice_80 : decode cX5_slice 80 = .ok (.ireturn, 1) := by decide +kernel
theorem dX5_slice_81 : decode cX5_slice 81 = .ok (.aload_n 0, 1) := by decide +kernel
theorem dX5_slice_82 : decode cX5_slice 82 = .ok (.getfield 29, 3) := by decide +kernel
theorem dX5_slice_85 : decode cX5_slice 85 = .ok (.iload_n 1, 1) := by decide +kernel
theorem dX5_slice_86 : decode cX5_slice 86 = .ok (.iaload, 1) := by decide +kernel
theorem dX5_slice_87 : decode cX5_slice 87 = .ok (.ireturn, 1) := by decide +kernel
theorem dX5_slice_88 : decode cX5_slice 88 = .ok (.aload_n 0, 1) := by decide +kernel
theorem dX5_slice_89 : decode cX5_slice 89 = .ok (.getfield 36, 3) := by decide +kernel
theorem dX5_slice_92 : decode cX5_slice 92 = .ok (.iload_n 1, 1) := by decide +kernel
theorem dX5_slice_93 : decode cX5_slice 93 = .ok (.iaload, 1) := by decide +kernel
theorem dX5_slice_94 : decode cX5_slice 94 = .ok (.ireturn, 1) := by decide +kernel
theorem dX5_slice_95 : decode cX5_slice 95 = .ok (.aload_n 0, 1) := by decide +kernel
theorem dX5_slice_96 : decode cX5_slice 96 = .ok (.getfield 39, 3) := by decide +kernel
theorem dX5_slice_99 : decode cX5_slice 99 = .ok (.iload_n 1, 1) := by decide +kernel
theorem dX5_slice_100 : decode cX5_slice 100 = .ok (.iaload, 1) := by decide +kernel
theorem dX5_slice_101 : decode cX5_slice 101 = .ok (.ireturn, 1) := by decide +kernel
theorem dX5_slice_102 : decode cX5_slice 102 = .ok (.ldc 88, 2) := by decide +kernel
theorem dX5_slice_104 : decode cX5_slice 104 = .ok (.ireturn, 1) := by decide +kernel
set_option maxRecDepth 20000 in
theorem ggX5_member_X5_in : GoodIn wsX5_member wsX5_in := goodIn_r _ [9] (by decide +kernel) (by decide +kernel)
set_option maxRecDepth 20000 in
theorem gX5_member_X5_in : GoodIn wsX5_member (va_wsS RX5 79 yX5_in wsX5_in) := goodIn_app (goodIn_of _ (by decide +kernel)) ggX5_member_X5_in
theorem dX5_member_0 : decode cX5_member 0 = .ok (.aload_n 0, 1) := by decide +kernel
theorem dX5_member_1 : decode cX5_member 1 = .ok (.iconst 0, 1) := by decide +kernel
theorem dX5_member_2 : decode cX5_member 2 = .ok (.putfield 75, 3) := by decide +kernel
theorem dX5_member_5 : decode cX5_member 5 = .ok (.iload_n 1, 1) := by decide +kernel
theorem dX5_member_6 : decode cX5_member 6 = .ok (.iconst 0, 1) := by decide +kernel
theorem dX5_member_7 : decode cX5_member 7 = .ok (.aload_n 0, 1) := by decide +kernel
theorem dX5_member_8 : decode cX5_member 8 = .ok (.getfield 100, 3) := by decide +kernel
theorem dX5_member_11 : decode cX5_member 11 = .ok (.iconst 1, 1) := by decide +kernel
theorem dX5_member_12 : decode cX5_member 12 = .ok (.isub, 1) := by decide +kernel
theorem dX5_member_13 : decode cX5_member 13 = .ok (.invokestatic 79, 3) := by decide +kernel
theorem dX5_member_16 : decode cX5_member 16 = .ok (.ifCond .ne 6, 3) := by decide +kernel
theorem dX5_member_19 : decode cX5_member 19 = .ok (.ldc 88, 2) := by decide +kernel
theorem dX5_member_21 : decode cX5_member 21 = .ok (.ireturn, 1) := by decide +kernel
theorem dX5_member_22 : decode cX5_member 22 = .ok (.iload_n 2, 1) := by decide +kernel
theorem dX5_member_23 : decode cX5_member 23 = .ok (.ifCond .ge 6, 3) := by decide +kernel
theorem dX5_member_26 : decode cX5_member 26 = .ok (.ldc 83, 2) := by decide +kernel
theorem dX5_member_28 : decode cX5_member 28 = .ok (.ireturn, 1) := by decide +kernel
theorem dX5_member_29 : decode cX5_member 29 = .ok (.iconst 0, 1) := by decide +kernel
theorem dX5_member_30 : decode cX5_member 30 = .ok (.istore_n 3, 1) := by decide +kernel
theorem dX5_member_31 : decode cX5_member 31 = .ok (.iconst 0, 1) := by decide +kernel
theorem dX5_member_32 : decode cX5_member 32 = .ok (.istore 4, 2) := by decide +kernel
theorem dX5_member_34 : decode cX5_member 34 = .ok (.iload 4, 2) := by decide +kernel
theorem dX5_member_36 : decode cX5_member 36 = .ok (.bipush 48, 2) := by decide +kernel
theorem dX5_member_38 : decode cX5_member 38 = .ok (.if_icmp .ge 36, 3) := by decide +kernel
theorem dX5_member_41 : decode cX5_member 41 = .ok (.aload_n 0, 1) := by decide +kernel
theorem dX5_member_42 : decode cX5_member 42 = .ok (.getfield 32, 3) := by decide +kernel
theorem dX5_member_45 : decode cX5_member 45 = .ok (.iload_n 1, 1) := by decide +kernel
theorem dX5_member_46 : decode cX5_member 46 = .ok (.laload, 1) := by decide +kernel
theorem dX5_member_47 : decode cX5_member 47 = .ok (.iload 4, 2) := by decide +kernel
theorem dX5_member_49 : decode cX5_member 49 = .ok (.lshr, 1) := by decide +kernel
theorem dX5_member_50 : decode cX5_member 50 = .ok (.lconst 1, 1) := by decide +kernel
theorem dX5_member_51 : decode cX5_member 51 = .ok (.land, 1) := by decide +kernel
theorem dX5_member_52 : decode cX5_member 52 = .ok (.lconst 1, 1) := by decide +kernel
theorem dX5_member_53 : decode cX5_member 53 = .ok (.lcmp, 1) := by decide +kernel
theorem dX5_member_54 : decode cX5_member 54 = .ok (.ifCond .ne 14, 3) := by decide +kernel
theorem dX5_member_57 : decode cX5_member 57 = .ok (.iload_n 3, 1) := by decide +kernel
theorem dX5_member_58 : decode cX5_member 58 = .ok (.iload_n 2, 1) := by decide +kernel
theorem dX5_member_59 : decode cX5_member 59 = .ok (.if_icmp .ne 6, 3) := by decide +kernel
theorem dX5_member_62 : decode cX5_member 62 = .ok (.iload 4, 2) := by decide +kernel
theorem dX5_member_64 : decode cX5_member 64 = .ok (.ireturn, 1) := by decide +kernel
theorem dX5_member_65 : decode cX5_member 65 = .ok (.iinc 3 1, 3) := by decide +kernel
theorem dX5_member_68 : decode cX5_member 68 = .ok (.iinc 4 1, 3) := by decide +kernel
theorem dX5_member_71 : decode cX5_member 71 = .ok (.goto (-37), 3) := by decide +kernel
theorem dX5_member_74 : decode cX5_member 74 = .ok (.iconst (-1), 1) := by decide +kernel
theorem dX5_member_75 : decode cX5_member 75 = .ok (.ireturn, 1) := by decide +kernel
set_option maxRecDepth 20000 in
theorem ggX5_share_X5_in : GoodIn wsX5_share wsX5_in := goodIn_r _ [10] (by decide +kernel) (by decide +kernel)
set_option maxRecDepth 20000 in
theorem gX5_share_X5_in : GoodIn wsX5_share (va_wsS RX5 79 yX5_in wsX5_in) := goodIn_app (goodIn_of _ (by decide +kernel)) ggX5_share_X5_in
set_option maxRecDepth 20000 in
theorem ggX5_share_X5_part : GoodIn wsX5_share wsX5_part := goodIn_r _ [13, 14, 15, 9, 16] (by decide +kernel) (by decide +kernel)
set_option maxRecDepth 20000 in
theorem gX5_share_X5_part : GoodIn wsX5_share (va_wsS RX5 119 yX5_part wsX5_part) := goodIn_app (goodIn_of _ (by decide +kernel)) ggX5_share_X5_part
theorem dX5_share_0 : decode cX5_share 0 = .ok (.aload_n 0, 1) := by decide +kernel
theorem dX5_share_1 : decode cX5_share 1 = .ok (.iconst 0, 1) := by decide +kernel
theorem dX5_share_2 : decode cX5_share 2 = .ok (.putfield 75, 3) := by decide +kernel
theorem dX5_share_5 : decode cX5_share 5 = .ok (.iload_n 1, 1) := by decide +kernel
theorem dX5_share_6 : decode cX5_share 6 = .ok (.iconst 0, 1) := by decide +kernel
theorem dX5_share_7 : decode cX5_share 7 = .ok (.aload_n 0, 1) := by decide +kernel
theorem dX5_share_8 : decode cX5_share 8 = .ok (.getfield 100, 3) := by decide +kernel
theorem dX5_share_11 : decode cX5_share 11 = .ok (.iconst 1, 1) := by decide +kernel
theorem dX5_share_12 : decode cX5_share 12 = .ok (.isub, 1) := by decide +kernel
theorem dX5_share_13 : decode cX5_share 13 = .ok (.invokestatic 79, 3) := by decide +kernel
theorem dX5_share_16 : decode cX5_share 16 = .ok (.ifCond .ne 7, 3) := by decide +kernel
theorem dX5_share_19 : decode cX5_share 19 = .ok (.ldc2_w 115, 3) := by decide +kernel
theorem dX5_share_22 : decode cX5_share 22 = .ok (.lreturn, 1) := by decide +kernel
theorem dX5_share_23 : decode cX5_share 23 = .ok (.iload_n 2, 1) := by decide +kernel
theorem dX5_share_24 : decode cX5_share 24 = .ok (.iconst 0, 1) := by decide +kernel
theorem dX5_share_25 : decode cX5_share 25 = .ok (.iconst 1, 1) := by decide +kernel
theorem dX5_share_26 : decode cX5_share 26 = .ok (.invokestatic 79, 3) := by decide +kernel
theorem dX5_share_29 : decode cX5_share 29 = .ok (.ifCond .eq 12, 3) := by decide +kernel
theorem dX5_share_32 : decode cX5_share 32 = .ok (.iload_n 3, 1) := by decide +kernel
theorem dX5_share_33 : decode cX5_share 33 = .ok (.iconst 0, 1) := by decide +kernel
theorem dX5_share_34 : decode cX5_share 34 = .ok (.iconst 1, 1) := by decide +kernel
theorem dX5_share_35 : decode cX5_share 35 = .ok (.invokestatic 79, 3) := by decide +kernel
theorem dX5_share_38 : decode cX5_share 38 = .ok (.ifCond .ne 7, 3) := by decide +kernel
theorem dX5_share_41 : decode cX5_share 41 = .ok (.ldc2_w 117, 3) := by decide +kernel
theorem dX5_share_44 : decode cX5_share 44 = .ok (.lreturn, 1) := by decide +kernel
theorem dX5_share_45 : decode cX5_share 45 = .ok (.iload_n 2, 1) := by decide +kernel
theorem dX5_share_46 : decode cX5_share 46 = .ok (.ifCond .ne 24, 3) := by decide +kernel
theorem dX5_share_49 : decode cX5_share 49 = .ok (.aload_n 0, 1) := by decide +kernel
theorem dX5_share_50 : decode cX5_share 50 = .ok (.getfield 39, 3) := by decide +kernel
theorem dX5_share_53 : decode cX5_share 53 = .ok (.iload_n 1, 1) := by decide +kernel
theorem dX5_share_54 : decode cX5_share 54 = .ok (.iaload, 1) := by decide +kernel
theorem dX5_share_55 : decode cX5_share 55 = .ok (.i2l, 1) := by decide +kernel
theorem dX5_share_56 : decode cX5_share 56 = .ok (.aload_n 0, 1) := by decide +kernel
theorem dX5_share_57 : decode cX5_share 57 = .ok (.getfield 36, 3) := by decide +kernel
theorem dX5_share_60 : decode cX5_share 60 = .ok (.iload_n 1, 1) := by decide +kernel
theorem dX5_share_61 : decode cX5_share 61 = .ok (.iaload, 1) := by decide +kernel
theorem dX5_share_62 : decode cX5_share 62 = .ok (.i2l, 1) := by decide +kernel
theorem dX5_share_63 : decode cX5_share 63 = .ok (.iload_n 3, 1) := by decide +kernel
theorem dX5_share_64 : decode cX5_share 64 = .ok (.invokestatic 119, 3) := by decide +kernel
theorem dX5_share_67 : decode cX5_share 67 = .ok (.goto 25, 3) := by decide +kernel
theorem dX5_share_70 : decode cX5_share 70 = .ok (.aload_n 0, 1) := by decide +kernel
theorem dX5_share_71 : decode cX5_share 71 = .ok (.getfield 39, 3) := by decide +kernel
theorem dX5_share_74 : decode cX5_share 74 = .ok (.iload_n 1, 1) := by decide +kernel
theorem dX5_share_75 : decode cX5_share 75 = .ok (.iaload, 1) := by decide +kernel
theorem dX5_share_76 : decode cX5_share 76 = .ok (.iconst 2, 1) := by decide +kernel
theorem dX5_share_77 : decode cX5_share 77 = .ok (.iadd, 1) := by decide +kernel
theorem dX5_share_78 : decode cX5_share 78 = .ok (.i2l, 1) := by decide +kernel
theorem dX5_share_79 : decode cX5_share 79 = .ok (.aload_n 0, 1) := by decide +kernel
theorem dX5_share_80 : decode cX5_share 80 = .ok (.getfield 36, 3) := by decide +kernel
theorem dX5_share_83 : decode cX5_share 83 = .ok (.iload_n 1, 1) := by decide +kernel
theorem dX5_share_84 : decode cX5_share 84 = .ok (.iaload, 1) := by decide +kernel
theorem dX5_share_85 : decode cX5_share 85 = .ok (.iconst 4, 1) := by decide +kernel
theorem dX5_share_86 : decode cX5_share 86 = .ok (.iadd, 1) := by decide +kernel
theorem dX5_share_87 : decode cX5_share 87 = .ok (.i2l, 1) := by decide +kernel
theorem dX5_share_88 : decode cX5_share 88 = .ok (.iload_n 3, 1) := by decide +kernel
theorem dX5_share_89 : decode cX5_share 89 = .ok (.invokestatic 119, 3) := by decide +kernel
theorem dX5_share_92 : decode cX5_share 92 = .ok (.lreturn, 1) := by decide +kernel
set_option maxRecDepth 20000 in
theorem ggX5_gap_X5_in : GoodIn wsX5_gap wsX5_in := goodIn_r _ [7] (by decide +kernel) (by decide +kernel)
set_option maxRecDepth 20000 in
theorem gX5_gap_X5_in : GoodIn wsX5_gap (va_wsS RX5 79 yX5_in wsX5_in) := goodIn_app (goodIn_of _ (by decide +kernel)) ggX5_gap_X5_in
set_option maxRecDepth 20000 in
theorem ggX5_gap_X5_rowsOf : GoodIn wsX5_gap wsX5_rowsOf := goodIn_r _ [11, 12, 13, 28, 29, 30, 31, 32, 33, 34, 35, 36, 37, 38, 39, 40, 41, 42, 43, 44, 45, 46, 47, 48, 49, 50, 51, 52, 53, 54, 55, 56, 57] (by decide +kernel) (by decide +kernel)
set_option maxRecDepth 20000 in
theorem gX5_gap_X5_rowsOf : GoodIn wsX5_gap (wsV RX5 107 RX5 yX5_rowsOf wsX5_rowsOf) := goodIn_app (goodIn_of _ (by decide +kernel)) ggX5_gap_X5_rowsOf
set_option maxRecDepth 20000 in
theorem ggX5_gap_X5_countOf : GoodIn wsX5_gap wsX5_countOf := goodIn_r _ [16] (by decide +kernel) (by decide +kernel)
end
section
set_option maxRecDepth 20000 in
theorem gX5_gap_X5_countOf : GoodIn wsX5_gap (va_wsS RX5 93 yX5_countOf wsX5_countOf) := goodIn_app (goodIn_of _ (by decide +kernel)) ggX5_gap_X5_countOf
set_option maxRecDepth 20000 in
theorem ggX5_gap_X5_hitsOf : GoodIn wsX5_gap wsX5_hitsOf := goodIn_r _ [20, 12, 21, 28, 29, 30, 31, 32, 33, 34, 35, 36, 37, 38, 39, 40, 41, 42, 43, 44, 45, 46, 47, 48, 49, 50, 51, 52, 53, 54, 55, 56, 57] (by decide +kernel) (by decide +kernel)
set_option maxRecDepth 20000 in
theorem gX5_gap_X5_hitsOf : GoodIn wsX5_gap (wsV RX5 97 RX5 yX5_hitsOf wsX5_hitsOf) := goodIn_app (goodIn_of _ (by decide +kernel)) ggX5_gap_X5_hitsOf
set_option maxRecDepth 20000 in
theorem ggX5_gap_X5_part : GoodIn wsX5_gap wsX5_part := goodIn_r _ [24, 25, 26, 6, 27] (by decide +kernel) (by decide +kernel)
set_option maxRecDepth 20000 in
theorem gX5_gap_X5_part : GoodIn wsX5_gap (va_wsS RX5 119 yX5_part wsX5_part) := goodIn_app (goodIn_of _ (by decide +kernel)) ggX5_gap_X5_part
theorem dX5_gap_0 : decode cX5_gap 0 = .ok (.aload_n 0, 1) := by decide +kernel
theorem dX5_gap_1 : decode cX5_gap 1 = .ok (.iconst 0, 1) := by decide +kernel
theorem dX5_gap_2 : decode cX5_gap 2 = .ok (.putfield 75, 3) := by decide +kernel
theorem dX5_gap_5 : decode cX5_gap 5 = .ok (.iload_n 1, 1) := by decide +kernel
theorem dX5_gap_6 : decode cX5_gap 6 = .ok (.iconst 0, 1) := by decide +kernel
theorem dX5_gap_7 : decode cX5_gap 7 = .ok (.iconst 4, 1) := by decide +kernel
theorem dX5_gap_8 : decode cX5_gap 8 = .ok (.invokestatic 79, 3) := by decide +kernel
theorem dX5_gap_11 : decode cX5_gap 11 = .ok (.ifCond .ne 7, 3) := by decide +kernel
theorem dX5_gap_14 : decode cX5_gap 14 = .ok (.ldc2_w 115, 3) := by decide +kernel
theorem dX5_gap_17 : decode cX5_gap 17 = .ok (.lreturn, 1) := by decide +kernel
theorem dX5_gap_18 : decode cX5_gap 18 = .ok (.iload_n 2, 1) := by decide +kernel
theorem dX5_gap_19 : decode cX5_gap 19 = .ok (.iconst 0, 1) := by decide +kernel
theorem dX5_gap_20 : decode cX5_gap 20 = .ok (.bipush 10, 2) := by decide +kernel
theorem dX5_gap_22 : decode cX5_gap 22 = .ok (.invokestatic 79, 3) := by decide +kernel
theorem dX5_gap_25 : decode cX5_gap 25 = .ok (.ifCond .eq 23, 3) := by decide +kernel
theorem dX5_gap_28 : decode cX5_gap 28 = .ok (.iload_n 3, 1) := by decide +kernel
theorem dX5_gap_29 : decode cX5_gap 29 = .ok (.iconst 0, 1) := by decide +kernel
theorem dX5_gap_30 : decode cX5_gap 30 = .ok (.bipush 10, 2) := by decide +kernel
theorem dX5_gap_32 : decode cX5_gap 32 = .ok (.invokestatic 79, 3) := by decide +kernel
theorem dX5_gap_35 : decode cX5_gap 35 = .ok (.ifCond .eq 13, 3) := by decide +kernel
theorem dX5_gap_38 : decode cX5_gap 38 = .ok (.iload 4, 2) := by decide +kernel
theorem dX5_gap_40 : decode cX5_gap 40 = .ok (.iconst 0, 1) := by decide +kernel
theorem dX5_gap_41 : decode cX5_gap 41 = .ok (.iconst 1, 1) := by decide +kernel
theorem dX5_gap_42 : decode cX5_gap 42 = .ok (.invokestatic 79, 3) := by decide +kernel
theorem dX5_gap_45 : decode cX5_gap 45 = .ok (.ifCond .ne 7, 3) := by decide +kernel
theorem dX5_gap_48 : decode cX5_gap 48 = .ok (.ldc2_w 117, 3) := by decide +kernel
theorem dX5_gap_51 : decode cX5_gap 51 = .ok (.lreturn, 1) := by decide +kernel
theorem dX5_gap_52 : decode cX5_gap 52 = .ok (.aload_n 0, 1) := by decide +kernel
theorem dX5_gap_53 : decode cX5_gap 53 = .ok (.iload_n 1, 1) := by decide +kernel
theorem dX5_gap_54 : decode cX5_gap 54 = .ok (.iload_n 2, 1) := by decide +kernel
theorem dX5_gap_55 : decode cX5_gap 55 = .ok (.invokevirtual 107, 3) := by decide +kernel
theorem dX5_gap_58 : decode cX5_gap 58 = .ok (.lstore 5, 2) := by decide +kernel
theorem dX5_gap_60 : decode cX5_gap 60 = .ok (.aload_n 0, 1) := by decide +kernel
theorem dX5_gap_61 : decode cX5_gap 61 = .ok (.iload_n 1, 1) := by decide +kernel
theorem dX5_gap_62 : decode cX5_gap 62 = .ok (.iload_n 3, 1) := by decide +kernel
theorem dX5_gap_63 : decode cX5_gap 63 = .ok (.invokevirtual 107, 3) := by decide +kernel
theorem dX5_gap_66 : decode cX5_gap 66 = .ok (.lstore 7, 2) := by decide +kernel
theorem dX5_gap_68 : decode cX5_gap 68 = .ok (.lload 5, 2) := by decide +kernel
theorem dX5_gap_70 : decode cX5_gap 70 = .ok (.lconst 0, 1) := by decide +kernel
theorem dX5_gap_71 : decode cX5_gap 71 = .ok (.lcmp, 1) := by decide +kernel
theorem dX5_gap_72 : decode cX5_gap 72 = .ok (.ifCond .eq 10, 3) := by decide +kernel
theorem dX5_gap_75 : decode cX5_gap 75 = .ok (.lload 7, 2) := by decide +kernel
theorem dX5_gap_77 : decode cX5_gap 77 = .ok (.lconst 0, 1) := by decide +kernel
theorem dX5_gap_78 : decode cX5_gap 78 = .ok (.lcmp, 1) := by decide +kernel
theorem dX5_gap_79 : decode cX5_gap 79 = .ok (.ifCond .ne 10, 3) := by decide +kernel
theorem dX5_gap_82 : decode cX5_gap 82 = .ok (.aload_n 0, 1) := by decide +kernel
theorem dX5_gap_83 : decode cX5_gap 83 = .ok (.iconst 1, 1) := by decide +kernel
theorem dX5_gap_84 : decode cX5_gap 84 = .ok (.putfield 75, 3) := by decide +kernel
theorem dX5_gap_87 : decode cX5_gap 87 = .ok (.lconst 0, 1) := by decide +kernel
theorem dX5_gap_88 : decode cX5_gap 88 = .ok (.lreturn, 1) := by decide +kernel
theorem dX5_gap_89 : decode cX5_gap 89 = .ok (.lload 5, 2) := by decide +kernel
theorem dX5_gap_91 : decode cX5_gap 91 = .ok (.invokestatic 93, 3) := by decide +kernel
theorem dX5_gap_94 : decode cX5_gap 94 = .ok (.i2l, 1) := by decide +kernel
theorem dX5_gap_95 : decode cX5_gap 95 = .ok (.lstore 9, 2) := by decide +kernel
theorem dX5_gap_97 : decode cX5_gap 97 = .ok (.lload 7, 2) := by decide +kernel
theorem dX5_gap_99 : decode cX5_gap 99 = .ok (.invokestatic 93, 3) := by decide +kernel
theorem dX5_gap_102 : decode cX5_gap 102 = .ok (.i2l, 1) := by decide +kernel
theorem dX5_gap_103 : decode cX5_gap 103 = .ok (.lstore 11, 2) := by decide +kernel
theorem dX5_gap_105 : decode cX5_gap 105 = .ok (.aload_n 0, 1) := by decide +kernel
theorem dX5_gap_106 : decode cX5_gap 106 = .ok (.lload 5, 2) := by decide +kernel
theorem dX5_gap_108 : decode cX5_gap 108 = .ok (.invokevirtual 97, 3) := by decide +kernel
theorem dX5_gap_111 : decode cX5_gap 111 = .ok (.i2l, 1) := by decide +kernel
theorem dX5_gap_112 : decode cX5_gap 112 = .ok (.lload 11, 2) := by decide +kernel
theorem dX5_gap_114 : decode cX5_gap 114 = .ok (.lmul, 1) := by decide +kernel
theorem dX5_gap_115 : decode cX5_gap 115 = .ok (.aload_n 0, 1) := by decide +kernel
theorem dX5_gap_116 : decode cX5_gap 116 = .ok (.lload 7, 2) := by decide +kernel
theorem dX5_gap_118 : decode cX5_gap 118 = .ok (.invokevirtual 97, 3) := by decide +kernel
theorem dX5_gap_121 : decode cX5_gap 121 = .ok (.i2l, 1) := by decide +kernel
theorem dX5_gap_122 : decode cX5_gap 122 = .ok (.lload 9, 2) := by decide +kernel
theorem dX5_gap_124 : decode cX5_gap 124 = .ok (.lmul, 1) := by decide +kernel
theorem dX5_gap_125 : decode cX5_gap 125 = .ok (.lsub, 1) := by decide +kernel
theorem dX5_gap_126 : decode cX5_gap 126 = .ok (.lload 9, 2) := by decide +kernel
theorem dX5_gap_128 : decode cX5_gap 128 = .ok (.lload 11, 2) := by decide +kernel
theorem dX5_gap_130 : decode cX5_gap 130 = .ok (.lmul, 1) := by decide +kernel
theorem dX5_gap_131 : decode cX5_gap 131 = .ok (.iload 4, 2) := by decide +kernel
theorem dX5_gap_133 : decode cX5_gap 133 = .ok (.invokestatic 119, 3) := by decide +kernel
theorem dX5_gap_136 : decode cX5_gap 136 = .ok (.lreturn, 1) := by decide +kernel
theorem dX5_isWindow_0 : decode cX5_isWindow 0 = .ok (.iload_n 0, 1) := by decide +kernel
theorem dX5_isWindow_1 : decode cX5_isWindow 1 = .ok (.ifCond .lt 19, 3) := by decide +kernel
theorem dX5_isWindow_4 : decode cX5_isWindow 4 = .ok (.iload_n 0, 1) := by decide +kernel
theorem dX5_isWindow_5 : decode cX5_isWindow 5 = .ok (.iload_n 1, 1) := by decide +kernel
theorem dX5_isWindow_6 : decode cX5_isWindow 6 = .ok (.if_icmp .gt 14, 3) := by decide +kernel
theorem dX5_isWindow_9 : decode cX5_isWindow 9 = .ok (.iload_n 1, 1) := by decide +kernel
theorem dX5_isWindow_10 : decode cX5_isWindow 10 = .ok (.sipush 1000, 3) := by decide +kernel
theorem dX5_isWindow_13 : decode cX5_isWindow 13 = .ok (.if_icmp .gt 7, 3) := by decide +kernel
theorem dX5_isWindow_16 : decode cX5_isWindow 16 = .ok (.iconst 1, 1) := by decide +kernel
theorem dX5_isWindow_17 : decode cX5_isWindow 17 = .ok (.goto 4, 3) := by decide +kernel
theorem dX5_isWindow_20 : decode cX5_isWindow 20 = .ok (.iconst 0, 1) := by decide +kernel
theorem dX5_isWindow_21 : decode cX5_isWindow 21 = .ok (.ireturn, 1) := by decide +kernel
theorem dX5_isIn_0 : decode cX5_isIn 0 = .ok (.aload_n 0, 1) := by decide +kernel
theorem dX5_isIn_1 : decode cX5_isIn 1 = .ok (.getfield 7, 3) := by decide +kernel
theorem dX5_isIn_4 : decode cX5_isIn 4 = .ok (.iload_n 1, 1) := by decide +kernel
theorem dX5_isIn_5 : decode cX5_isIn 5 = .ok (.iaload, 1) := by decide +kernel
theorem dX5_isIn_6 : decode cX5_isIn 6 = .ok (.iload_n 2, 1) := by decide +kernel
theorem dX5_isIn_7 : decode cX5_isIn 7 = .ok (.if_icmp .lt 17, 3) := by decide +kernel
theorem dX5_isIn_10 : decode cX5_isIn 10 = .ok (.aload_n 0, 1) := by decide +kernel
theorem dX5_isIn_11 : decode cX5_isIn 11 = .ok (.getfield 7, 3) := by decide +kernel
theorem dX5_isIn_14 : decode cX5_isIn 14 = .ok (.iload_n 1, 1) := by decide +kernel
theorem dX5_isIn_15 : decode cX5_isIn 15 = .ok (.iaload, 1) := by decide +kernel
theorem dX5_isIn_16 : decode cX5_isIn 16 = .ok (.iload_n 3, 1) := by decide +kernel
theorem dX5_isIn_17 : decode cX5_isIn 17 = .ok (.if_icmp .ge 7, 3) := by decide +kernel
theorem dX5_isIn_20 : decode cX5_isIn 20 = .ok (.iconst 1, 1) := by decide +kernel
theorem dX5_isIn_21 : decode cX5_isIn 21 = .ok (.goto 4, 3) := by decide +kernel
theorem dX5_isIn_24 : decode cX5_isIn 24 = .ok (.iconst 0, 1) := by decide +kernel
theorem dX5_isIn_25 : decode cX5_isIn 25 = .ok (.ireturn, 1) := by decide +kernel
set_option maxRecDepth 20000 in
theorem ggX5_window_X5_isWindow : GoodIn wsX5_window wsX5_isWindow := goodIn_r _ [7] (by decide +kernel) (by decide +kernel)
set_option maxRecDepth 20000 in
theorem gX5_window_X5_isWindow : GoodIn wsX5_window (va_wsS RX5 123 yX5_isWindow wsX5_isWindow) := goodIn_app (goodIn_of _ (by decide +kernel)) ggX5_window_X5_isWindow
set_option maxRecDepth 20000 in
theorem ggX5_window_X5_isIn : GoodIn wsX5_window wsX5_isIn := goodIn_r _ [11, 12, 13, 14, 15, 16, 17, 18, 19, 20, 21, 22, 23, 24, 25, 26, 27, 28, 29, 30, 31, 32, 33, 34, 35, 36, 37, 38, 39, 40, 41, 42] (by decide +kernel) (by decide +kernel)
set_option maxRecDepth 20000 in
theorem gX5_window_X5_isIn : GoodIn wsX5_window (wsV RX5 127 RX5 yX5_isIn wsX5_isIn) := goodIn_app (goodIn_of _ (by decide +kernel)) ggX5_window_X5_isIn
theorem dX5_window_0 : decode cX5_window 0 = .ok (.aload_n 0, 1) := by decide +kernel
theorem dX5_window_1 : decode cX5_window 1 = .ok (.iconst 0, 1) := by decide +kernel
theorem dX5_window_2 : decode cX5_window 2 = .ok (.putfield 75, 3) := by decide +kernel
theorem dX5_window_5 : decode cX5_window 5 = .ok (.iload_n 1, 1) := by decide +kernel
theorem dX5_window_6 : decode cX5_window 6 = .ok (.iload_n 2, 1) := by decide +kernel
theorem dX5_window_7 : decode cX5_window 7 = .ok (.invokestatic 123, 3) := by decide +kernel
theorem dX5_window_10 : decode cX5_window 10 = .ok (.ifCond .ne 6, 3) := by decide +kernel
theorem dX5_window_13 : decode cX5_window 13 = .ok (.ldc 83, 2) := by decide +kernel
theorem dX5_window_15 : decode cX5_window 15 = .ok (.ireturn, 1) := by decide +kernel
theorem dX5_window_16 : decode cX5_window 16 = .ok (.iconst 0, 1) := by decide +kernel
theorem dX5_window_17 : decode cX5_window 17 = .ok (.istore_n 3, 1) := by decide +kernel
theorem dX5_window_18 : decode cX5_window 18 = .ok (.iconst 0, 1) := by decide +kernel
theorem dX5_window_19 : decode cX5_window 19 = .ok (.istore 4, 2) := by decide +kernel
theorem dX5_window_21 : decode cX5_window 21 = .ok (.iload 4, 2) := by decide +kernel
theorem dX5_window_23 : decode cX5_window 23 = .ok (.aload_n 0, 1) := by decide +kernel
theorem dX5_window_24 : decode cX5_window 24 = .ok (.getfield 84, 3) := by decide +kernel
theorem dX5_window_27 : decode cX5_window 27 = .ok (.if_icmp .ge 28, 3) := by decide +kernel
theorem dX5_window_30 : decode cX5_window 30 = .ok (.iload_n 3, 1) := by decide +kernel
theorem dX5_window_31 : decode cX5_window 31 = .ok (.aload_n 0, 1) := by decide +kernel
theorem dX5_window_32 : decode cX5_window 32 = .ok (.iload 4, 2) := by decide +kernel
theorem dX5_window_34 : decode cX5_window 34 = .ok (.iload_n 1, 1) := by decide +kernel
theorem dX5_window_35 : decode cX5_window 35 = .ok (.iload_n 2, 1) := by decide +kernel
theorem dX5_window_36 : decode cX5_window 36 = .ok (.invokevirtual 127, 3) := by decide +kernel
theorem dX5_window_39 : decode cX5_window 39 = .ok (.ifCond .eq 7, 3) := by decide +kernel
theorem dX5_window_42 : decode cX5_window 42 = .ok (.iconst 1, 1) := by decide +kernel
theorem dX5_window_43 : decode cX5_window 43 = .ok (.goto 4, 3) := by decide +kernel
theorem dX5_window_46 : decode cX5_window 46 = .ok (.iconst 0, 1) := by decide +kernel
theorem dX5_window_47 : decode cX5_window 47 = .ok (.iadd, 1) := by decide +kernel
theorem dX5_window_48 : decode cX5_window 48 = .ok (.istore_n 3, 1) := by decide +kernel
theorem dX5_window_49 : decode cX5_window 49 = .ok (.iinc 4 1, 3) := by decide +kernel
theorem dX5_window_52 : decode cX5_window 52 = .ok (.goto (-31), 3) := by decide +kernel
theorem dX5_window_55 : decode cX5_window 55 = .ok (.iload_n 3, 1) := by decide +kernel
theorem dX5_window_56 : decode cX5_window 56 = .ok (.ireturn, 1) := by decide +kernel
set_option maxRecDepth 20000 in
theorem ggX5_counts_X5_isIn : GoodIn wsX5_counts wsX5_isIn := goodIn_r _ [11, 12, 13, 14, 15, 16, 17, 18, 19, 20, 21, 22, 23, 24, 25, 26, 27, 28, 29, 30, 31, 32, 33, 34, 35, 36, 37, 38, 39, 40, 41, 42] (by decide +kernel) (by decide +kernel)
set_option maxRecDepth 20000 in
theorem gX5_counts_X5_isIn : GoodIn wsX5_counts (wsV RX5 127 RX5 yX5_isIn wsX5_isIn) := goodIn_app (goodIn_of _ (by decide +kernel)) ggX5_counts_X5_isIn
theorem dX5_counts_0 : decode cX5_counts 0 = .ok (.aload_n 0, 1) := by decide +kernel
theorem dX5_counts_1 : decode cX5_counts 1 = .ok (.iconst 0, 1) := by decide +kernel
theorem dX5_counts_2 : decode cX5_counts 2 = .ok (.putfield 130, 3) := by decide +kernel
theorem dX5_counts_5 : decode cX5_counts 5 = .ok (.aload_n 0, 1) := by decide +kernel
theorem dX5_counts_6 : decode cX5_counts 6 = .ok (.iconst 0, 1) := by decide +kernel
theorem dX5_counts_7 : decode cX5_counts 7 = .ok (.putfield 133, 3) := by decide +kernel
theorem dX5_counts_10 : decode cX5_counts 10 = .ok (.iconst 0, 1) := by decide +kernel
theorem dX5_counts_11 : decode cX5_counts 11 = .ok (.istore 6, 2) := by decide +kernel
theorem dX5_counts_13 : decode cX5_counts 13 = .ok (.iload 6, 2) := by decide +kernel
theorem dX5_counts_15 : decode cX5_counts 15 = .ok (.bipush 11, 2) := by decide +kernel
theorem dX5_counts_17 : decode cX5_counts 17 = .ok (.if_icmp .ge 25, 3) := by decide +kernel
theorem dX5_counts_20 : decode cX5_counts 20 = .ok (.aload_n 0, 1) := by decide +kernel
theorem dX5_counts_21 : decode cX5_counts 21 = .ok (.getfield 42, 3) := by decide +kernel
theorem dX5_counts_24 : decode cX5_counts 24 = .ok (.iload 6, 2) := by decide +kernel
theorem dX5_counts_26 : decode cX5_counts 26 = .ok (.iconst 0, 1) := by decide +kernel
theorem dX5_counts_27 : decode cX5_counts 27 = .ok (.iastore, 1) := by decide +kernel
theorem dX5_counts_28 : decode cX5_counts 28 = .ok (.aload_n 0, 1) := by decide +kernel
theorem dX5_counts_29 : decode cX5_counts 29 = .ok (.getfield 45, 3) := by decide +kernel
theorem dX5_counts_32 : decode cX5_counts 32 = .ok (.iload 6, 2) := by decide +kernel
theorem dX5_counts_34 : decode cX5_counts 34 = .ok (.iconst 0, 1) := by decide +kernel
theorem dX5_counts_35 : decode cX5_counts 35 = .ok (.iastore, 1) := by decide +kernel
theorem dX5_counts_36 : decode cX5_counts 36 = .ok (.iinc 6 1, 3) := by decide +kernel
theorem dX5_counts_39 : decode cX5_counts 39 = .ok (.goto (-26), 3) := by decide +kernel
theorem dX5_counts_42 : decode cX5_counts 42 = .ok (.iconst 0, 1) := by decide +kernel
theorem dX5_counts_43 : decode cX5_counts 43 = .ok (.istore 6, 2) := by decide +kernel
theorem dX5_counts_45 : decode cX5_counts 45 = .ok (.iload 6, 2) := by decide +kernel
theorem dX5_counts_47 : decode cX5_counts 47 = .ok (.aload_n 0, 1) := by decide +kernel
theorem dX5_counts_48 : decode cX5_counts 48 = .ok (.getfield 84, 3) := by decide +kernel
theorem dX5_counts_51 : decode cX5_counts 51 = .ok (.if_icmp .ge 88, 3) := by decide +kernel
theorem dX5_counts_54 : decode cX5_counts 54 = .ok (.aload_n 0, 1) := by decide +kernel
theorem dX5_counts_55 : decode cX5_counts 55 = .ok (.getfield 17, 3) := by decide +kernel
theorem dX5_counts_58 : decode cX5_counts 58 = .ok (.iconst 5, 1) := by decide +kernel
theorem dX5_counts_59 : decode cX5_counts 59 = .ok (.iload 6, 2) := by decide +kernel
theorem dX5_counts_61 : decode cX5_counts 61 = .ok (.imul, 1) := by decide +kernel
theorem dX5_counts_62 : decode cX5_counts 62 = .ok (.iload_n 1, 1) := by decide +kernel
theorem dX5_counts_63 : decode cX5_counts 63 = .ok (.iadd, 1) := by decide +kernel
theorem dX5_counts_64 : decode cX5_counts 64 = .ok (.iaload, 1) := by decide +kernel
theorem dX5_counts_65 : decode cX5_counts 65 = .ok (.istore 7, 2) := by decide +kernel
theorem dX5_counts_67 : decode cX5_counts 67 = .ok (.aload_n 0, 1) := by decide +kernel
theorem dX5_counts_68 : decode cX5_counts 68 = .ok (.iload 6, 2) := by decide +kernel
theorem dX5_counts_70 : decode cX5_counts 70 = .ok (.iload_n 2, 1) := by decide +kernel
theorem dX5_counts_71 : decode cX5_counts 71 = .ok (.iload_n 3, 1) := by decide +kernel
theorem dX5_counts_72 : decode cX5_counts 72 = .ok (.invokevirtual 127, 3) := by decide +kernel
theorem dX5_counts_75 : decode cX5_counts 75 = .ok (.ifCond .eq 24, 3) := by decide +kernel
theorem dX5_counts_78 : decode cX5_counts 78 = .ok (.aload_n 0, 1) := by decide +kernel
theorem dX5_counts_79 : decode cX5_counts 79 = .ok (.getfield 42, 3) := by decide +kernel
theorem dX5_counts_82 : decode cX5_counts 82 = .ok (.iload 7, 2) := by decide +kernel
theorem dX5_counts_84 : decode cX5_counts 84 = .ok (.dup2, 1) := by decide +kernel
theorem dX5_counts_85 : decode cX5_counts 85 = .ok (.iaload, 1) := by decide +kernel
theorem dX5_counts_86 : decode cX5_counts 86 = .ok (.iconst 1, 1) := by decide +kernel
theorem dX5_counts_87 : decode cX5_counts 87 = .ok (.iadd, 1) := by decide +kernel
theorem dX5_counts_88 : decode cX5_counts 88 = .ok (.iastore, 1) := by decide +kernel
theorem dX5_counts_89 : decode cX5_counts 89 = .ok (.aload_n 0, 1) := by decide +kernel
theorem dX5_counts_90 : decode cX5_counts 90 = .ok (.dup, 1) := by decide +kernel
theorem dX5_counts_91 : decode cX5_counts 91 = .ok (.getfield 130, 3) := by decide +kernel
theorem dX5_counts_94 : decode cX5_counts 94 = .ok (.iconst 1, 1) := by decide +kernel
theorem dX5_counts_95 : decode cX5_counts 95 = .ok (.iadd, 1) := by decide +kernel
theorem dX5_counts_96 : decode cX5_counts 96 = .ok (.putfield 130, 3) := by decide +kernel
theorem dX5_counts_99 : decode cX5_counts 99 = .ok (.aload_n 0, 1) := by decide +kernel
theorem dX5_counts_100 : decode cX5_counts 100 = .ok (.iload 6, 2) := by decide +kernel
theorem dX5_counts_102 : decode cX5_counts 102 = .ok (.iload 4, 2) := by decide +kernel
theorem dX5_counts_104 : decode cX5_counts 104 = .ok (.iload 5, 2) := by decide +kernel
theorem dX5_counts_106 : decode cX5_counts 106 = .ok (.invokevirtual 127, 3) := by decide +kernel
theorem dX5_counts_109 : decode cX5_counts 109 = .ok (.ifCond .eq 24, 3) := by decide +kernel
theorem dX5_counts_112 : decode cX5_counts 112 = .ok (.aload_n 0, 1) := by decide +kernel
theorem dX5_counts_113 : decode cX5_counts 113 = .ok (.getfield 45, 3) := by decide +kernel
theorem dX5_counts_116 : decode cX5_counts 116 = .ok (.iload 7, 2) := by decide +kernel
theorem dX5_counts_118 : decode cX5_counts 118 = .ok (.dup2, 1) := by decide +kernel
theorem dX5_counts_119 : decode cX5_counts 119 = .ok (.iaload, 1) := by decide +kernel
theorem dX5_counts_120 : decode cX5_counts 120 = .ok (.iconst 1, 1) := by decide +kernel
theorem dX5_counts_121 : decode cX5_counts 121 = .ok (.iadd, 1) := by decide +kernel
theorem dX5_counts_122 : decode cX5_counts 122 = .ok (.iastore, 1) := by decide +kernel
theorem dX5_counts_123 : decode cX5_counts 123 = .ok (.aload_n 0, 1) := by decide +kernel
theorem dX5_counts_124 : decode cX5_counts 124 = .ok (.dup, 1) := by decide +kernel
theorem dX5_counts_125 : decode cX5_counts 125 = .ok (.getfield 133, 3) := by decide +kernel
theorem dX5_counts_128 : decode cX5_counts 128 = .ok (.iconst 1, 1) := by decide +kernel
theorem dX5_counts_129 : decode cX5_counts 129 = .ok (.iadd, 1) := by decide +kernel
theorem dX5_counts_130 : decode cX5_counts 130 = .ok (.putfield 133, 3) := by decide +kernel
theorem dX5_counts_133 : decode cX5_counts 133 = .ok (.iinc 6 1, 3) := by decide +kernel
theorem dX5_counts_136 : decode cX5_counts 136 = .ok (.goto (-91), 3) := by decide +kernel
theorem dX5_counts_139 : decode cX5_counts 139 = .ok (.return_, 1) := by decide +kernel
theorem dX5_drifts_0 : decode cX5_drifts 0 = .ok (.aload_n 0, 1) := by decide +kernel
theorem dX5_drifts_1 : decode cX5_drifts 1 = .ok (.getfield 130, 3) := by decide +kernel
theorem dX5_drifts_4 : decode cX5_drifts 4 = .ok (.ifCond .eq 10, 3) := by decide +kernel
theorem dX5_drifts_7 : decode cX5_drifts 7 = .ok (.aload_n 0, 1) := by decide +kernel
theorem dX5_drifts_8 : decode cX5_drifts 8 = .ok (.getfield 133, 3) := by decide +kernel
theorem dX5_drifts_11 : decode cX5_drifts 11 = .ok (.ifCond .ne 5, 3) := by decide +kernel
theorem dX5_drifts_14 : decode cX5_drifts 14 = .ok (.iconst 0, 1) := by decide +kernel
theorem dX5_drifts_15 : decode cX5_drifts 15 = .ok (.ireturn, 1) := by decide +kernel
theorem dX5_drifts_16 : decode cX5_drifts 16 = .ok (.aload_n 0, 1) := by decide +kernel
theorem dX5_drifts_17 : decode cX5_drifts 17 = .ok (.lconst 0, 1) := by decide +kernel
theorem dX5_drifts_18 : decode cX5_drifts 18 = .ok (.putfield 136, 3) := by decide +kernel
theorem dX5_drifts_21 : decode cX5_drifts 21 = .ok (.iconst 0, 1) := by decide +kernel
theorem dX5_drifts_22 : decode cX5_drifts 22 = .ok (.istore_n 1, 1) := by decide +kernel
theorem dX5_drifts_23 : decode cX5_drifts 23 = .ok (.iload_n 1, 1) := by decide +kernel
theorem dX5_drifts_24 : decode cX5_drifts 24 = .ok (.bipush 11, 2) := by decide +kernel
theorem dX5_drifts_26 : decode cX5_drifts 26 = .ok (.if_icmp .ge 58, 3) := by decide +kernel
theorem dX5_drifts_29 : decode cX5_drifts 29 = .ok (.aload_n 0, 1) := by decide +kernel
theorem dX5_drifts_30 : decode cX5_drifts 30 = .ok (.getfield 42, 3) := by decide +kernel
theorem dX5_drifts_33 : decode cX5_drifts 33 = .ok (.iload_n 1, 1) := by decide +kernel
theorem dX5_drifts_34 : decode cX5_drifts 34 = .ok (.iaload, 1) := by decide +kernel
theorem dX5_drifts_35 : decode cX5_drifts 35 = .ok (.i2l, 1) := by decide +kernel
theorem dX5_drifts_36 : decode cX5_drifts 36 = .ok (.aload_n 0, 1) := by decide +kernel
theorem dX5_drifts_37 : decode cX5_drifts 37 = .ok (.getfield 133, 3) := by decide +kernel
theorem dX5_drifts_40 : decode cX5_drifts 40 = .ok (.i2l, 1) := by decide +kernel
theorem dX5_drifts_41 : decode cX5_drifts 41 = .ok (.lmul, 1) := by decide +kernel
theorem dX5_drifts_42 : decode cX5_drifts 42 = .ok (.aload_n 0, 1) := by decide +kernel
theorem dX5_drifts_43 : decode cX5_drifts 43 = .ok (.getfield 45, 3) := by decide +kernel
theorem dX5_drifts_46 : decode cX5_drifts 46 = .ok (.iload_n 1, 1) := by decide +kernel
theorem dX5_drifts_47 : decode cX5_drifts 47 = .ok (.iaload, 1) := by decide +kernel
theorem dX5_drifts_48 : decode cX5_drifts 48 = .ok (.i2l, 1) := by decide +kernel
theorem dX5_drifts_49 : decode cX5_drifts 49 = .ok (.aload_n 0, 1) := by decide +kernel
theorem dX5_drifts_50 : decode cX5_drifts 50 = .ok (.getfield 130, 3) := by decide +kernel
theorem dX5_drifts_53 : decode cX5_drifts 53 = .ok (.i2l, 1) := by decide +kernel
theorem dX5_drifts_54 : decode cX5_drifts 54 = .ok (.lmul, 1) := by decide +kernel
theorem dX5_drifts_55 : decode cX5_drifts 55 = .ok (.lsub, 1) := by decide +kernel
theorem dX5_drifts_56 : decode cX5_drifts 56 = .ok (.lstore_n 2, 1) := by decide +kernel
theorem dX5_drifts_57 : decode cX5_drifts 57 = .ok (.aload_n 0, 1) := by decide +kernel
theorem dX5_drifts_58 : decode cX5_drifts 58 = .ok (.dup, 1) := by decide +kernel
theorem dX5_drifts_59 : decode cX5_drifts 59 = .ok (.getfield 136, 3) := by decide +kernel
theorem dX5_drifts_62 : decode cX5_drifts 62 = .ok (.lload_n 2, 1) := by decide +kernel
theorem dX5_drifts_63 : decode cX5_drifts 63 = .ok (.lconst 0, 1) := by decide +kernel
theorem dX5_drifts_64 : decode cX5_drifts 64 = .ok (.lcmp, 1) := by decide +kernel
theorem dX5_drifts_65 : decode cX5_drifts 65 = .ok (.ifCond .ge 8, 3) := by decide +kernel
theorem dX5_drifts_68 : decode cX5_drifts 68 = .ok (.lload_n 2, 1) := by decide +kernel
theorem dX5_drifts_69 : decode cX5_drifts 69 = .ok (.lneg, 1) := by decide +kernel
theorem dX5_drifts_70 : decode cX5_drifts 70 = .ok (.goto 4, 3) := by decide +kernel
theorem dX5_drifts_73 : decode cX5_drifts 73 = .ok (.lload_n 2, 1) := by decide +kernel
theorem dX5_drifts_74 : decode cX5_drifts 74 = .ok (.ladd, 1) := by decide +kernel
theorem dX5_drifts_75 : decode cX5_drifts 75 = .ok (.putfield 136, 3) := by decide +kernel
theorem dX5_drifts_78 : decode cX5_drifts 78 = .ok (.iinc 1 1, 3) := by decide +kernel
theorem dX5_drifts_81 : decode cX5_drifts 81 = .ok (.goto (-58), 3) := by decide +kernel
theorem dX5_drifts_84 : decode cX5_drifts 84 = .ok (.aload_n 0, 1) := by decide +kernel
theorem dX5_drifts_85 : decode cX5_drifts 85 = .ok (.ldc2_w 140, 3) := by decide +kernel
theorem dX5_drifts_88 : decode cX5_drifts 88 = .ok (.aload_n 0, 1) := by decide +kernel
theorem dX5_drifts_89 : decode cX5_drifts 89 = .ok (.getfield 130, 3) := by decide +kernel
theorem dX5_drifts_92 : decode cX5_drifts 92 = .ok (.i2l, 1) := by decide +kernel
theorem dX5_drifts_93 : decode cX5_drifts 93 = .ok (.lmul, 1) := by decide +kernel
theorem dX5_drifts_94 : decode cX5_drifts 94 = .ok (.aload_n 0, 1) := by decide +kernel
theorem dX5_drifts_95 : decode cX5_drifts 95 = .ok (.getfield 133, 3) := by decide +kernel
theorem dX5_drifts_98 : decode cX5_drifts 98 = .ok (.i2l, 1) := by decide +kernel
theorem dX5_drifts_99 : decode cX5_drifts 99 = .ok (.lmul, 1) := by decide +kernel
theorem dX5_drifts_100 : decode cX5_drifts 100 = .ok (.putfield 142, 3) := by decide +kernel
theorem dX5_drifts_103 : decode cX5_drifts 103 = .ok (.iconst 1, 1) := by decide +kernel
theorem dX5_drifts_104 : decode cX5_drifts 104 = .ok (.ireturn, 1) := by decide +kernel
set_option maxRecDepth 20000 in
theorem ggX5_areWindows_X5_isWindow : GoodIn wsX5_areWindows wsX5_isWindow := goodIn_r _ [4] (by decide +kernel) (by decide +kernel)
set_option maxRecDepth 20000 in
theorem gX5_areWindows_X5_isWindow : GoodIn wsX5_areWindows (va_wsS RX5 123 yX5_isWindow wsX5_isWindow) := goodIn_app (goodIn_of _ (by decide +kernel)) ggX5_areWindows_X5_isWindow
theorem dX5_areWindows_0 : decode cX5_areWindows 0 = .ok (.iload_n 0, 1) := by decide +kernel
theorem dX5_areWindows_1 : decode cX5_areWindows 1 = .ok (.iload_n 1, 1) := by decide +kernel
theorem dX5_areWindows_2 : decode cX5_areWindows 2 = .ok (.invokestatic 123, 3) := by decide +kernel
theorem dX5_areWindows_5 : decode cX5_areWindows 5 = .ok (.ifCond .eq 15, 3) := by decide +kernel
theorem dX5_areWindows_8 : decode cX5_areWindows 8 = .ok (.iload_n 1, 1) := by decide +kernel
theorem dX5_areWindows_9 : decode cX5_areWindows 9 = .ok (.iload_n 2, 1) := by decide +kernel
theorem dX5_areWindows_10 : decode cX5_areWindows 10 = .ok (.invokestatic 123, 3) := by decide +kernel
theorem dX5_areWindows_13 : decode cX5_areWindows 13 = .ok (.ifCond .eq 7, 3) := by decide +kernel
theorem dX5_areWindows_16 : decode cX5_areWindows 16 = .ok (.iconst 1, 1) := by decide +kernel
theorem dX5_areWindows_17 : decode cX5_areWindows 17 = .ok (.goto 4, 3) := by decide +kernel
theorem dX5_areWindows_20 : decode cX5_areWindows 20 = .ok (.iconst 0, 1) := by decide +kernel
theorem dX5_areWindows_21 : decode cX5_areWindows 21 = .ok (.ireturn, 1) := by decide +kernel
set_option maxRecDepth 20000 in
theorem ggX5_drift_X5_in : GoodIn wsX5_drift wsX5_in := goodIn_r _ [9] (by decide +kernel) (by decide +kernel)
set_option maxRecDepth 20000 in
theorem gX5_drift_X5_in : GoodIn wsX5_drift (va_wsS RX5 79 yX5_in wsX5_in) := goodIn_app (goodIn_of _ (by decide +kernel)) ggX5_drift_X5_in
set_option maxRecDepth 20000 in
theorem ggX5_drift_X5_areWindows : GoodIn wsX5_drift wsX5_areWindows := goodIn_r _ [12, 13, 14, 8, 15] (by decide +kernel) (by decide +kernel)
set_option maxRecDepth 20000 in
theorem gX5_drift_X5_areWindows : GoodIn wsX5_drift (va_wsS RX5 145 yX5_areWindows wsX5_areWindows) := goodIn_app (goodIn_of _ (by decide +kernel)) ggX5_drift_X5_areWindows
set_option maxRecDepth 20000 in
theorem ggX5_drift_X5_counts : GoodIn wsX5_drift wsX5_counts := goodIn_r _ [19, 20, 21, 22, 23, 24, 25, 26, 27, 28, 8, 29, 30, 42, 43, 44, 45, 46, 47, 48, 49, 50, 51, 52, 53, 54, 55, 56, 57, 58, 59, 60, 61, 62, 63, 64, 65, 66, 67, 68, 69, 70, 71] (by decide +kernel) (by decide +kernel)
set_option maxRecDepth 20000 in
theorem gX5_drift_X5_counts : GoodIn wsX5_drift (wsV RX5 148 RX5 yX5_counts wsX5_counts) := goodIn_app (goodIn_of _ (by decide +kernel)) ggX5_drift_X5_counts
set_option maxRecDepth 20000 in
theorem ggX5_drift_X5_drifts : GoodIn wsX5_drift wsX5_drifts := goodIn_r _ [34, 20, 21, 4, 22, 23, 35, 5, 42, 43, 44, 45, 46, 47, 48, 49, 50, 51, 52, 53, 54, 55, 56, 57, 58, 59, 60, 61, 62, 63, 64, 65, 66, 67, 68, 69, 70, 71] (by decide +kernel) (by decide +kernel)
set_option maxRecDepth 20000 in
theorem gX5_drift_X5_drifts : GoodIn wsX5_drift (wsV RX5 152 RX5 yX5_drifts wsX5_drifts) := goodIn_app (goodIn_of _ (by decide +kernel)) ggX5_drift_X5_drifts
set_option maxRecDepth 20000 in
theorem ggX5_drift_X5_part : GoodIn wsX5_drift wsX5_part := goodIn_r _ [38, 39, 40, 8, 41] (by decide +kernel) (by decide +kernel)
set_option maxRecDepth 20000 in
theorem gX5_drift_X5_part : GoodIn wsX5_drift (va_wsS RX5 119 yX5_part wsX5_part) := goodIn_app (goodIn_of _ (by decide +kernel)) ggX5_drift_X5_part
theorem dX5_drift_0 : decode cX5_drift 0 = .ok (.aload_n 0, 1) := by decide +kernel
theorem dX5_drift_1 : decode cX5_drift 1 = .ok (.iconst 0, 1) := by decide +kernel
theorem dX5_drift_2 : decode cX5_drift 2 = .ok (.putfield 75, 3) := by decide +kernel
theorem dX5_drift_5 : decode cX5_drift 5 = .ok (.iload_n 1, 1) := by decide +kernel
theorem dX5_drift_6 : decode cX5_drift 6 = .ok (.iconst 0, 1) := by decide +kernel
theorem dX5_drift_7 : decode cX5_drift 7 = .ok (.iconst 4, 1) := by decide +kernel
theorem dX5_drift_8 : decode cX5_drift 8 = .ok (.invokestatic 79, 3) := by decide +kernel
theorem dX5_drift_11 : decode cX5_drift 11 = .ok (.ifCond .ne 7, 3) := by decide +kernel
theorem dX5_drift_14 : decode cX5_drift 14 = .ok (.ldc2_w 115, 3) := by decide +kernel
theorem dX5_drift_17 : decode cX5_drift 17 = .ok (.lreturn, 1) := by decide +kernel
theorem dX5_drift_18 : decode cX5_drift 18 = .ok (.iload_n 2, 1) := by decide +kernel
theorem dX5_drift_19 : decode cX5_drift 19 = .ok (.iload_n 3, 1) := by decide +kernel
theorem dX5_drift_20 : decode cX5_drift 20 = .ok (.iload 4, 2) := by decide +kernel
theorem dX5_drift_22 : decode cX5_drift 22 = .ok (.invokestatic 145, 3) := by decide +kernel
theorem dX5_drift_25 : decode cX5_drift 25 = .ok (.ifCond .eq 13, 3) := by decide +kernel
theorem dX5_drift_28 : decode cX5_drift 28 = .ok (.iload 5, 2) := by decide +kernel
theorem dX5_drift_30 : decode cX5_drift 30 = .ok (.iconst 0, 1) := by decide +kernel
theorem dX5_drift_31 : decode cX5_drift 31 = .ok (.iconst 1, 1) := by decide +kernel
theorem dX5_drift_32 : decode cX5_drift 32 = .ok (.invokestatic 79, 3) := by decide +kernel
theorem dX5_drift_35 : decode cX5_drift 35 = .ok (.ifCond .ne 7, 3) := by decide +kernel
theorem dX5_drift_38 : decode cX5_drift 38 = .ok (.ldc2_w 117, 3) := by decide +kernel
theorem dX5_drift_41 : decode cX5_drift 41 = .ok (.lreturn, 1) := by decide +kernel
theorem dX5_drift_42 : decode cX5_drift 42 = .ok (.aload_n 0, 1) := by decide +kernel
theorem dX5_drift_43 : decode cX5_drift 43 = .ok (.iload_n 1, 1) := by decide +kernel
theorem dX5_drift_44 : decode cX5_drift 44 = .ok (.iload_n 2, 1) := by decide +kernel
theorem dX5_drift_45 : decode cX5_drift 45 = .ok (.iload_n 3, 1) := by decide +kernel
theorem dX5_drift_46 : decode cX5_drift 46 = .ok (.iload_n 3, 1) := by decide +kernel
theorem dX5_drift_47 : decode cX5_drift 47 = .ok (.iload 4, 2) := by decide +kernel
theorem dX5_drift_49 : decode cX5_drift 49 = .ok (.invokevirtual 148, 3) := by decide +kernel
theorem dX5_drift_52 : decode cX5_drift 52 = .ok (.aload_n 0, 1) := by decide +kernel
theorem dX5_drift_53 : decode cX5_drift 53 = .ok (.invokevirtual 152, 3) := by decide +kernel
theorem dX5_drift_56 : decode cX5_drift 56 = .ok (.ifCond .ne 10, 3) := by decide +kernel
theorem dX5_drift_59 : decode cX5_drift 59 = .ok (.aload_n 0, 1) := by decide +kernel
theorem dX5_drift_60 : decode cX5_drift 60 = .ok (.iconst 1, 1) := by decide +kernel
theorem dX5_drift_61 : decode cX5_drift 61 = .ok (.putfield 75, 3) := by decide +kernel
theorem dX5_drift_64 : decode cX5_drift 64 = .ok (.lconst 0, 1) := by decide +kernel
theorem dX5_drift_65 : decode cX5_drift 65 = .ok (.lreturn, 1) := by decide +kernel
theorem dX5_drift_66 : decode cX5_drift 66 = .ok (.aload_n 0, 1) := by decide +kernel
theorem dX5_drift_67 : decode cX5_drift 67 = .ok (.getfield 136, 3) := by decide +kernel
theorem dX5_drift_70 : decode cX5_drift 70 = .ok (.aload_n 0, 1) := by decide +kernel
theorem dX5_drift_71 : decode cX5_drift 71 = .ok (.getfield 142, 3) := by decide +kernel
theorem dX5_drift_74 : decode cX5_drift 74 = .ok (.iload 5, 2) := by decide +kernel
theorem dX5_drift_76 : decode cX5_drift 76 = .ok (.invokestatic 119, 3) := by decide +kernel
theorem dX5_drift_79 : decode cX5_drift 79 = .ok (.lreturn, 1) := by decide +kernel
theorem dX5_riseOf_0 : decode cX5_riseOf 0 = .ok (.iconst 0, 1) := by decide +kernel
theorem dX5_riseOf_1 : decode cX5_riseOf 1 = .ok (.istore_n 1, 1) := by decide +kernel
theorem dX5_riseOf_2 : decode cX5_riseOf 2 = .ok (.iconst 0, 1) := by decide +kernel
theorem dX5_riseOf_3 : decode cX5_riseOf 3 = .ok (.istore_n 2, 1) := by decide +kernel
theorem dX5_riseOf_4 : decode cX5_riseOf 4 = .ok (.iload_n 2, 1) := by decide +kernel
theorem dX5_riseOf_5 : decode cX5_riseOf 5 = .ok (.bipush 10, 2) := by decide +kernel
theorem dX5_riseOf_7 : decode cX5_riseOf 7 = .ok (.if_icmp .ge 59, 3) := by decide +kernel
theorem dX5_riseOf_10 : decode cX5_riseOf 10 = .ok (.iconst 0, 1) := by decide +kernel
theorem dX5_riseOf_11 : decode cX5_riseOf 11 = .ok (.istore_n 3, 1) := by decide +kernel
theorem dX5_riseOf_12 : decode cX5_riseOf 12 = .ok (.iload_n 3, 1) := by decide +kernel
theorem dX5_riseOf_13 : decode cX5_riseOf 13 = .ok (.bipush 10, 2) := by decide +kernel
theorem dX5_riseOf_15 : decode cX5_riseOf 15 = .ok (.if_icmp .ge 45, 3) := by decide +kernel
theorem dX5_riseOf_18 : decode cX5_riseOf 18 = .ok (.iload_n 1, 1) := by decide +kernel
theorem dX5_riseOf_19 : decode cX5_riseOf 19 = .ok (.aload_n 0, 1) := by decide +kernel
theorem dX5_riseOf_20 : decode cX5_riseOf 20 = .ok (.getfield 42, 3) := by decide +kernel
theorem dX5_riseOf_23 : decode cX5_riseOf 23 = .ok (.iload_n 2, 1) := by decide +kernel
theorem dX5_riseOf_24 : decode cX5_riseOf 24 = .ok (.iaload, 1) := by decide +kernel
theorem dX5_riseOf_25 : decode cX5_riseOf 25 = .ok (.aload_n 0, 1) := by decide +kernel
theorem dX5_riseOf_26 : decode cX5_riseOf 26 = .ok (.getfield 45, 3) := by decide +kernel
theorem dX5_riseOf_29 : decode cX5_riseOf 29 = .ok (.iload_n 3, 1) := by decide +kernel
theorem dX5_riseOf_30 : decode cX5_riseOf 30 = .ok (.iaload, 1) := by decide +kernel
theorem dX5_riseOf_31 : decode cX5_riseOf 31 = .ok (.imul, 1) := by decide +kernel
theorem dX5_riseOf_32 : decode cX5_riseOf 32 = .ok (.iload_n 3, 1) := by decide +kernel
theorem dX5_riseOf_33 : decode cX5_riseOf 33 = .ok (.iload_n 2, 1) := by decide +kernel
theorem dX5_riseOf_34 : decode cX5_riseOf 34 = .ok (.if_icmp .le 7, 3) := by decide +kernel
theorem dX5_riseOf_37 : decode cX5_riseOf 37 = .ok (.iconst 2, 1) := by decide +kernel
theorem dX5_riseOf_38 : decode cX5_riseOf 38 = .ok (.goto 13, 3) := by decide +kernel
theorem dX5_riseOf_41 : decode cX5_riseOf 41 = .ok (.iload_n 3, 1) := by decide +kernel
theorem dX5_riseOf_42 : decode cX5_riseOf 42 = .ok (.iload_n 2, 1) := by decide +kernel
theorem dX5_riseOf_43 : decode cX5_riseOf 43 = .ok (.if_icmp .ne 7, 3) := by decide +kernel
theorem dX5_riseOf_46 : decode cX5_riseOf 46 = .ok (.iconst 1, 1) := by decide +kernel
theorem dX5_riseOf_47 : decode cX5_riseOf 47 = .ok (.goto 4, 3) := by decide +kernel
theorem dX5_riseOf_50 : decode cX5_riseOf 50 = .ok (.iconst 0, 1) := by decide +kernel
theorem dX5_riseOf_51 : decode cX5_riseOf 51 = .ok (.imul, 1) := by decide +kernel
theorem dX5_riseOf_52 : decode cX5_riseOf 52 = .ok (.iadd, 1) := by decide +kernel
theorem dX5_riseOf_53 : decode cX5_riseOf 53 = .ok (.istore_n 1, 1) := by decide +kernel
theorem dX5_riseOf_54 : decode cX5_riseOf 54 = .ok (.iinc 3 1, 3) := by decide +kernel
theorem dX5_riseOf_57 : decode cX5_riseOf 57 = .ok (.goto (-45), 3) := by decide +kernel
theorem dX5_riseOf_60 : decode cX5_riseOf 60 = .ok (.iinc 2 1, 3) := by decide +kernel
theorem dX5_riseOf_63 : decode cX5_riseOf 63 = .ok (.goto (-59), 3) := by decide +kernel
theorem dX5_riseOf_66 : decode cX5_riseOf 66 = .ok (.iload_n 1, 1) := by decide +kernel
theorem dX5_riseOf_67 : decode cX5_riseOf 67 = .ok (.ireturn, 1) := by decide +kernel
set_option maxRecDepth 20000 in
theorem ggX5_rise_X5_in : GoodIn wsX5_rise wsX5_in := goodIn_r _ [7] (by decide +kernel) (by decide +kernel)
set_option maxRecDepth 20000 in
theorem gX5_rise_X5_in : GoodIn wsX5_rise (va_wsS RX5 79 yX5_in wsX5_in) := goodIn_app (goodIn_of _ (by decide +kernel)) ggX5_rise_X5_in
set_option maxRecDepth 20000 in
theorem ggX5_rise_X5_areWindows : GoodIn wsX5_rise wsX5_areWindows := goodIn_r _ [10, 11, 12, 6, 13] (by decide +kernel) (by decide +kernel)
set_option maxRecDepth 20000 in
theorem gX5_rise_X5_areWindows : GoodIn wsX5_rise (va_wsS RX5 145 yX5_areWindows wsX5_areWindows) := goodIn_app (goodIn_of _ (by decide +kernel)) ggX5_rise_X5_areWindows
set_option maxRecDepth 20000 in
theorem ggX5_rise_X5_counts : GoodIn wsX5_rise wsX5_counts := goodIn_r _ [17, 18, 19, 20, 21, 22, 23, 24, 25, 26, 6, 27, 28, 33, 34, 35, 36, 37, 38, 39, 40, 41, 42, 43, 44, 45, 46, 47, 48, 49, 50, 51, 52, 53, 54, 55, 56, 57, 58, 59, 60, 61, 62] (by decide +kernel) (by decide +kernel)
set_option maxRecDepth 20000 in
theorem gX5_rise_X5_counts : GoodIn wsX5_rise (wsV RX5 148 RX5 yX5_counts wsX5_counts) := goodIn_app (goodIn_of _ (by decide +kernel)) ggX5_rise_X5_counts
set_option maxRecDepth 20000 in
theorem ggX5_rise_X5_riseOf : GoodIn wsX5_rise wsX5_riseOf := goodIn_r _ [32, 20, 21, 33, 34, 35, 36, 37, 38, 39, 40, 41, 42, 43, 44, 45, 46, 47, 48, 49, 50, 51, 52, 53, 54, 55, 56, 57, 58, 59, 60, 61, 62] (by decide +kernel) (by decide +kernel)
set_option maxRecDepth 20000 in
theorem gX5_rise_X5_riseOf : GoodIn wsX5_rise (wsV RX5 156 RX5 yX5_riseOf wsX5_riseOf) := goodIn_app (goodIn_of _ (by decide +kernel)) ggX5_rise_X5_riseOf
theorem dX5_rise_0 : decode cX5_rise 0 = .ok (.aload_n 0, 1) := by decide +kernel
theorem dX5_rise_1 : decode cX5_rise 1 = .ok (.iconst 0, 1) := by decide +kernel
theorem dX5_rise_2 : decode cX5_rise 2 = .ok (.putfield 75, 3) := by decide +kernel
theorem dX5_rise_5 : decode cX5_rise 5 = .ok (.iload_n 1, 1) := by decide +kernel
theorem dX5_rise_6 : decode cX5_rise 6 = .ok (.iconst 0, 1) := by decide +kernel
theorem dX5_rise_7 : decode cX5_rise 7 = .ok (.iconst 4, 1) := by decide +kernel
theorem dX5_rise_8 : decode cX5_rise 8 = .ok (.invokestatic 79, 3) := by decide +kernel
theorem dX5_rise_11 : decode cX5_rise 11 = .ok (.ifCond .ne 6, 3) := by decide +kernel
theorem dX5_rise_14 : decode cX5_rise 14 = .ok (.ldc 88, 2) := by decide +kernel
theorem dX5_rise_16 : decode cX5_rise 16 = .ok (.ireturn, 1) := by decide +kernel
theorem dX5_rise_17 : decode cX5_rise 17 = .ok (.iload_n 2, 1) := by decide +kernel
theorem dX5_rise_18 : decode cX5_rise 18 = .ok (.iload_n 3, 1) := by decide +kernel
theorem dX5_rise_19 : decode cX5_rise 19 = .ok (.iload 4, 2) := by decide +kernel
theorem dX5_rise_21 : decode cX5_rise 21 = .ok (.invokestatic 145, 3) := by decide +kernel
theorem dX5_rise_24 : decode cX5_rise 24 = .ok (.ifCond .ne 6, 3) := by decide +kernel
theorem dX5_rise_27 : decode cX5_rise 27 = .ok (.ldc 83, 2) := by decide +kernel
theorem dX5_rise_29 : decode cX5_rise 29 = .ok (.ireturn, 1) := by decide +kernel
theorem dX5_rise_30 : decode cX5_rise 30 = .ok (.aload_n 0, 1) := by decide +kernel
theorem dX5_rise_31 : decode cX5_rise 31 = .ok (.iload_n 1, 1) := by decide +kernel
theorem dX5_rise_32 : decode cX5_rise 32 = .ok (.iload_n 2, 1) := by decide +kernel
theorem dX5_rise_33 : decode cX5_rise 33 = .ok (.iload_n 3, 1) := by decide +kernel
theorem dX5_rise_34 : decode cX5_rise 34 = .ok (.iload_n 3, 1) := by decide +kernel
theorem dX5_rise_35 : decode cX5_rise 35 = .ok (.iload 4, 2) := by decide +kernel
theorem dX5_rise_37 : decode cX5_rise 37 = .ok (.invokevirtual 148, 3) := by decide +kernel
theorem dX5_rise_40 : decode cX5_rise 40 = .ok (.aload_n 0, 1) := by decide +kernel
theorem dX5_rise_41 : decode cX5_rise 41 = .ok (.invokevirtual 156, 3) := by decide +kernel
theorem dX5_rise_44 : decode cX5_rise 44 = .ok (.ireturn, 1) := by decide +kernel
theorem dX5_setChoose_0 : decode cX5_setChoose 0 = .ok (.iconst 0, 1) := by decide +kernel
theorem dX5_setChoose_1 : decode cX5_setChoose 1 = .ok (.istore_n 1, 1) := by decide +kernel
theorem dX5_setChoose_2 : decode cX5_setChoose 2 = .ok (.iload_n 1, 1) := by decide +kernel
theorem dX5_setChoose_3 : decode cX5_setChoose 3 = .ok (.bipush 21, 2) := by decide +kernel
theorem dX5_setChoose_5 : decode cX5_setChoose 5 = .ok (.if_icmp .ge 79, 3) := by decide +kernel
theorem dX5_setChoose_8 : decode cX5_setChoose 8 = .ok (.iconst 0, 1) := by decide +kernel
theorem dX5_setChoose_9 : decode cX5_setChoose 9 = .ok (.istore_n 2, 1) := by decide +kernel
theorem dX5_setChoose_10 : decode cX5_setChoose 10 = .ok (.iload_n 2, 1) := by decide +kernel
theorem dX5_setChoose_11 : decode cX5_setChoose 11 = .ok (.bipush 21, 2) := by decide +kernel
theorem dX5_setChoose_13 : decode cX5_setChoose 13 = .ok (.if_icmp .ge 65, 3) := by decide +kernel
theorem dX5_setChoose_16 : decode cX5_setChoose 16 = .ok (.aload_n 0, 1) := by decide +kernel
theorem dX5_setChoose_17 : decode cX5_setChoose 17 = .ok (.getfield 54, 3) := by decide +kernel
theorem dX5_setChoose_20 : decode cX5_setChoose 20 = .ok (.bipush 21, 2) := by decide +kernel
theorem dX5_setChoose_22 : decode cX5_setChoose 22 = .ok (.iload_n 1, 1) := by decide +kernel
theorem dX5_setChoose_23 : decode cX5_setChoose 23 = .ok (.imul, 1) := by decide +kernel
theorem dX5_setChoose_24 : decode cX5_setChoose 24 = .ok (.iload_n 2, 1) := by decide +kernel
theorem dX5_setChoose_25 : decode cX5_setChoose 25 = .ok (.iadd, 1) := by decide +kernel
theorem dX5_setChoose_26 : decode cX5_setChoose 26 = .ok (.iload_n 2, 1) := by decide +kernel
theorem dX5_setChoose_27 : decode cX5_setChoose 27 = .ok (.ifCond .ne 7, 3) := by decide +kernel
theorem dX5_setChoose_30 : decode cX5_setChoose 30 = .ok (.lconst 1, 1) := by decide +kernel
theorem dX5_setChoose_31 : decode cX5_setChoose 31 = .ok (.goto 40, 3) := by decide +kernel
theorem dX5_setChoose_34 : decode cX5_setChoose 34 = .ok (.iload_n 1, 1) := by decide +kernel
theorem dX5_setChoose_35 : decode cX5_setChoose 35 = .ok (.ifCond .ne 7, 3) := by decide +kernel
theorem dX5_setChoose_38 : decode cX5_setChoose 38 = .ok (.lconst 0, 1) := by decide +kernel
theorem dX5_setChoose_39 : decode cX5_setChoose 39 = .ok (.goto 32, 3) := by decide +kernel
theorem dX5_setChoose_42 : decode cX5_setChoose 42 = .ok (.aload_n 0, 1) := by decide +kernel
theorem dX5_setChoose_43 : decode cX5_setChoose 43 = .ok (.getfield 54, 3) := by decide +kernel
theorem dX5_setChoose_46 : decode cX5_setChoose 46 = .ok (.bipush 21, 2) := by decide +kernel
theorem dX5_setChoose_48 : decode cX5_setChoose 48 = .ok (.iload_n 1, 1) := by decide +kernel
theorem dX5_setChoose_49 : decode cX5_setChoose 49 = .ok (.iconst 1, 1) := by decide +kernel
theorem dX5_setChoose_50 : decode cX5_setChoose 50 = .ok (.isub, 1) := by decide +kernel
theorem dX5_setChoose_51 : decode cX5_setChoose 51 = .ok (.imul, 1) := by decide +kernel
theorem dX5_setChoose_52 : decode cX5_setChoose 52 = .ok (.iload_n 2, 1) := by decide +kernel
theorem dX5_setChoose_53 : decode cX5_setChoose 53 = .ok (.iadd, 1) := by decide +kernel
theorem dX5_setChoose_54 : decode cX5_setChoose 54 = .ok (.laload, 1) := by decide +kernel
theorem dX5_setChoose_55 : decode cX5_setChoose 55 = .ok (.aload_n 0, 1) := by decide +kernel
theorem dX5_setChoose_56 : decode cX5_setChoose 56 = .ok (.getfield 54, 3) := by decide +kernel
theorem dX5_setChoose_59 : decode cX5_setChoose 59 = .ok (.bipush 21, 2) := by decide +kernel
theorem dX5_setChoose_61 : decode cX5_setChoose 61 = .ok (.iload_n 1, 1) := by decide +kernel
theorem dX5_setChoose_62 : decode cX5_setChoose 62 = .ok (.iconst 1, 1) := by decide +kernel
theorem dX5_setChoose_63 : decode cX5_setChoose 63 = .ok (.isub, 1) := by decide +kernel
theorem dX5_setChoose_64 : decode cX5_setChoose 64 = .ok (.imul, 1) := by decide +kernel
theorem dX5_setChoose_65 : decode cX5_setChoose 65 = .ok (.iload_n 2, 1) := by decide +kernel
theorem dX5_setChoose_66 : decode cX5_setChoose 66 = .ok (.iadd, 1) := by decide +kernel
theorem dX5_setChoose_67 : decode cX5_setChoose 67 = .ok (.iconst 1, 1) := by decide +kernel
theorem dX5_setChoose_68 : decode cX5_setChoose 68 = .ok (.isub, 1) := by decide +kernel
theorem dX5_setChoose_69 : decode cX5_setChoose 69 = .ok (.laload, 1) := by decide +kernel
theorem dX5_setChoose_70 : decode cX5_setChoose 70 = .ok (.ladd, 1) := by decide +kernel
theorem dX5_setChoose_71 : decode cX5_setChoose 71 = .ok (.lastore, 1) := by decide +kernel
theorem dX5_setChoose_72 : decode cX5_setChoose 72 = .ok (.iinc 2 1, 3) := by decide +kernel
theorem dX5_setChoose_75 : decode cX5_setChoose 75 = .ok (.goto (-65), 3) := by decide +kernel
theorem dX5_setChoose_78 : decode cX5_setChoose 78 = .ok (.iinc 1 1, 3) := by decide +kernel
theorem dX5_setChoose_81 : decode cX5_setChoose 81 = .ok (.goto (-79), 3) := by decide +kernel
theorem dX5_setChoose_84 : decode cX5_setChoose 84 = .ok (.return_, 1) := by decide +kernel
set_option maxRecDepth 20000 in
theorem ggX5_odds_X5_in : GoodIn wsX5_odds wsX5_in := goodIn_r _ [15] (by decide +kernel) (by decide +kernel)
set_option maxRecDepth 20000 in
theorem gX5_odds_X5_in : GoodIn wsX5_odds (va_wsS RX5 79 yX5_in wsX5_in) := goodIn_app (goodIn_of _ (by decide +kernel)) ggX5_odds_X5_in
set_option maxRecDepth 20000 in
theorem ggX5_odds_X5_areWindows : GoodIn wsX5_odds wsX5_areWindows := goodIn_r _ [18, 19, 20, 14, 21] (by decide +kernel) (by decide +kernel)
set_option maxRecDepth 20000 in
theorem gX5_odds_X5_areWindows : GoodIn wsX5_odds (va_wsS RX5 145 yX5_areWindows wsX5_areWindows) := goodIn_app (goodIn_of _ (by decide +kernel)) ggX5_odds_X5_areWindows
set_option maxRecDepth 20000 in
theorem ggX5_odds_X5_counts : GoodIn wsX5_odds wsX5_counts := goodIn_r _ [25, 4, 6, 5, 7, 26, 27, 28, 29, 30, 14, 31, 32, 47, 48, 49, 50, 51, 52, 53, 54, 55, 56, 57, 58, 59, 60, 61, 62, 63, 64, 65, 66, 67, 68, 69, 70, 71, 72, 73, 74, 75, 76] (by decide +kernel) (by decide +kernel)
set_option maxRecDepth 20000 in
theorem gX5_odds_X5_counts : GoodIn wsX5_odds (wsV RX5 148 RX5 yX5_counts wsX5_counts) := goodIn_app (goodIn_of _ (by decide +kernel)) ggX5_odds_X5_counts
set_option maxRecDepth 20000 in
theorem ggX5_odds_X5_setChoose : GoodIn wsX5_odds wsX5_setChoose := goodIn_r _ [36, 11, 47, 48, 49, 50, 51, 52, 53, 54, 55, 56, 57, 58, 59, 60, 61, 62, 63, 64, 65, 66, 67, 68, 69, 70, 71, 72, 73, 74, 75, 76] (by decide +kernel) (by decide +kernel)
set_option maxRecDepth 20000 in
theorem gX5_odds_X5_setChoose : GoodIn wsX5_odds (wsV RX5 162 RX5 yX5_setChoose wsX5_setChoose) := goodIn_app (goodIn_of _ (by decide +kernel)) ggX5_odds_X5_setChoose
set_option maxRecDepth 20000 in
theorem ggX5_odds_X5_riseOf : GoodIn wsX5_odds wsX5_riseOf := goodIn_r _ [40, 5, 7, 47, 48, 49, 50, 51, 52, 53, 54, 55, 56, 57, 58, 59, 60, 61, 62, 63, 64, 65, 66, 67, 68, 69, 70, 71, 72, 73, 74, 75, 76] (by decide +kernel) (by decide +kernel)
set_option maxRecDepth 20000 in
theorem gX5_odds_X5_riseOf : GoodIn wsX5_odds (wsV RX5 156 RX5 yX5_riseOf wsX5_riseOf) := goodIn_app (goodIn_of _ (by decide +kernel)) ggX5_odds_X5_riseOf
set_option maxRecDepth 20000 in
theorem ggX5_odds_X5_part : GoodIn wsX5_odds wsX5_part := goodIn_r _ [43, 44, 45, 14, 46] (by decide +kernel) (by decide +kernel)
set_option maxRecDepth 20000 in
theorem gX5_odds_X5_part : GoodIn wsX5_odds (va_wsS RX5 119 yX5_part wsX5_part) := goodIn_app (goodIn_of _ (by decide +kernel)) ggX5_odds_X5_part
theorem dX5_odds_0 : decode cX5_odds 0 = .ok (.aload_n 0, 1) := by decide +kernel
theorem dX5_odds_1 : decode cX5_odds 1 = .ok (.iconst 0, 1) := by decide +kernel
theorem dX5_odds_2 : decode cX5_odds 2 = .ok (.putfield 75, 3) := by decide +kernel
theorem dX5_odds_5 : decode cX5_odds 5 = .ok (.iload_n 1, 1) := by decide +kernel
theorem dX5_odds_6 : decode cX5_odds 6 = .ok (.iconst 0, 1) := by decide +kernel
theorem dX5_odds_7 : decode cX5_odds 7 = .ok (.iconst 4, 1) := by decide +kernel
theorem dX5_odds_8 : decode cX5_odds 8 = .ok (.invokestatic 79, 3) := by decide +kernel
theorem dX5_odds_11 : decode cX5_odds 11 = .ok (.ifCond .ne 7, 3) := by decide +kernel
theorem dX5_odds_14 : decode cX5_odds 14 = .ok (.ldc2_w 115, 3) := by decide +kernel
theorem dX5_odds_17 : decode cX5_odds 17 = .ok (.lreturn, 1) := by decide +kernel
theorem dX5_odds_18 : decode cX5_odds 18 = .ok (.iload_n 2, 1) := by decide +kernel
theorem dX5_odds_19 : decode cX5_odds 19 = .ok (.iload_n 3, 1) := by decide +kernel
theorem dX5_odds_20 : decode cX5_odds 20 = .ok (.iload 4, 2) := by decide +kernel
theorem dX5_odds_22 : decode cX5_odds 22 = .ok (.invokestatic 145, 3) := by decide +kernel
theorem dX5_odds_25 : decode cX5_odds 25 = .ok (.ifCond .eq 13, 3) := by decide +kernel
theorem dX5_odds_28 : decode cX5_odds 28 = .ok (.iload 5, 2) := by decide +kernel
theorem dX5_odds_30 : decode cX5_odds 30 = .ok (.iconst 0, 1) := by decide +kernel
theorem dX5_odds_31 : decode cX5_odds 31 = .ok (.iconst 1, 1) := by decide +kernel
theorem dX5_odds_32 : decode cX5_odds 32 = .ok (.invokestatic 79, 3) := by decide +kernel
theorem dX5_odds_35 : decode cX5_odds 35 = .ok (.ifCond .ne 7, 3) := by decide +kernel
theorem dX5_odds_38 : decode cX5_odds 38 = .ok (.ldc2_w 117, 3) := by decide +kernel
theorem dX5_odds_41 : decode cX5_odds 41 = .ok (.lreturn, 1) := by decide +kernel
theorem dX5_odds_42 : decode cX5_odds 42 = .ok (.aload_n 0, 1) := by decide +kernel
theorem dX5_odds_43 : decode cX5_odds 43 = .ok (.iload_n 1, 1) := by decide +kernel
theorem dX5_odds_44 : decode cX5_odds 44 = .ok (.iload_n 2, 1) := by decide +kernel
theorem dX5_odds_45 : decode cX5_odds 45 = .ok (.iload_n 3, 1) := by decide +kernel
theorem dX5_odds_46 : decode cX5_odds 46 = .ok (.iload_n 3, 1) := by decide +kernel
theorem dX5_odds_47 : decode cX5_odds 47 = .ok (.iload 4, 2) := by decide +kernel
theorem dX5_odds_49 : decode cX5_odds 49 = .ok (.invokevirtual 148, 3) := by decide +kernel
theorem dX5_odds_52 : decode cX5_odds 52 = .ok (.aload_n 0, 1) := by decide +kernel
theorem dX5_odds_53 : decode cX5_odds 53 = .ok (.getfield 130, 3) := by decide +kernel
theorem dX5_odds_56 : decode cX5_odds 56 = .ok (.aload_n 0, 1) := by decide +kernel
theorem dX5_odds_57 : decode cX5_odds 57 = .ok (.getfield 42, 3) := by decide +kernel
theorem dX5_odds_60 : decode cX5_odds 60 = .ok (.bipush 10, 2) := by decide +kernel
theorem dX5_odds_62 : decode cX5_odds 62 = .ok (.iaload, 1) := by decide +kernel
theorem dX5_odds_63 : decode cX5_odds 63 = .ok (.isub, 1) := by decide +kernel
theorem dX5_odds_64 : decode cX5_odds 64 = .ok (.istore 6, 2) := by decide +kernel
theorem dX5_odds_66 : decode cX5_odds 66 = .ok (.iload 6, 2) := by decide +kernel
theorem dX5_odds_68 : decode cX5_odds 68 = .ok (.aload_n 0, 1) := by decide +kernel
theorem dX5_odds_69 : decode cX5_odds 69 = .ok (.getfield 133, 3) := by decide +kernel
theorem dX5_odds_72 : decode cX5_odds 72 = .ok (.iadd, 1) := by decide +kernel
theorem dX5_odds_73 : decode cX5_odds 73 = .ok (.aload_n 0, 1) := by decide +kernel
theorem dX5_odds_74 : decode cX5_odds 74 = .ok (.getfield 45, 3) := by decide +kernel
theorem dX5_odds_77 : decode cX5_odds 77 = .ok (.bipush 10, 2) := by decide +kernel
theorem dX5_odds_79 : decode cX5_odds 79 = .ok (.iaload, 1) := by decide +kernel
theorem dX5_odds_80 : decode cX5_odds 80 = .ok (.isub, 1) := by decide +kernel
theorem dX5_odds_81 : decode cX5_odds 81 = .ok (.istore 7, 2) := by decide +kernel
theorem dX5_odds_83 : decode cX5_odds 83 = .ok (.iload 7, 2) := by decide +kernel
theorem dX5_odds_85 : decode cX5_odds 85 = .ok (.bipush 20, 2) := by decide +kernel
theorem dX5_odds_87 : decode cX5_odds 87 = .ok (.if_icmp .le 7, 3) := by decide +kernel
theorem dX5_odds_90 : decode cX5_odds 90 = .ok (.ldc2_w 160, 3) := by decide +kernel
theorem dX5_odds_93 : decode cX5_odds 93 = .ok (.lreturn, 1) := by decide +kernel
theorem dX5_odds_94 : decode cX5_odds 94 = .ok (.aload_n 0, 1) := by decide +kernel
theorem dX5_odds_95 : decode cX5_odds 95 = .ok (.invokevirtual 162, 3) := by decide +kernel
theorem dX5_odds_98 : decode cX5_odds 98 = .ok (.iconst 0, 1) := by decide +kernel
theorem dX5_odds_99 : decode cX5_odds 99 = .ok (.istore 8, 2) := by decide +kernel
theorem dX5_odds_101 : decode cX5_odds 101 = .ok (.iload 8, 2) := by decide +kernel
theorem dX5_odds_103 : decode cX5_odds 103 = .ok (.sipush 8421, 3) := by decide +kernel
theorem dX5_odds_106 : decode cX5_odds 106 = .ok (.if_icmp .ge 26, 3) := by decide +kernel
theorem dX5_odds_109 : decode cX5_odds 109 = .ok (.aload_n 0, 1) := by decide +kernel
theorem dX5_odds_110 : decode cX5_odds 110 = .ok (.getfield 48, 3) := by decide +kernel
theorem dX5_odds_113 : decode cX5_odds 113 = .ok (.iload 8, 2) := by decide +kernel
theorem dX5_odds_115 : decode cX5_odds 115 = .ok (.iload 8, 2) := by decide +kernel
theorem dX5_odds_117 : decode cX5_odds 117 = .ok (.ifCond .ne 7, 3) := by decide +kernel
theorem dX5_odds_120 : decode cX5_odds 120 = .ok (.lconst 1, 1) := by decide +kernel
theorem dX5_odds_121 : decode cX5_odds 121 = .ok (.goto 4, 3) := by decide +kernel
theorem dX5_odds_124 : decode cX5_odds 124 = .ok (.lconst 0, 1) := by decide +kernel
theorem dX5_odds_125 : decode cX5_odds 125 = .ok (.lastore, 1) := by decide +kernel
theorem dX5_odds_126 : decode cX5_odds 126 = .ok (.iinc 8 1, 3) := by decide +kernel
theorem dX5_odds_129 : decode cX5_odds 129 = .ok (.goto (-28), 3) := by decide +kernel
theorem dX5_odds_132 : decode cX5_odds 132 = .ok (.iconst 0, 1) := by decide +kernel
theorem dX5_odds_133 : decode cX5_odds 133 = .ok (.istore 8, 2) := by decide +kernel
theorem dX5_odds_135 : decode cX5_odds 135 = .ok (.iload 8, 2) := by decide +kernel
theorem dX5_odds_137 : decode cX5_odds 137 = .ok (.bipush 10, 2) := by decide +kernel
theorem dX5_odds_139 : decode cX5_odds 139 = .ok (.if_icmp .ge 210, 3) := by decide +kernel
theorem dX5_odds_142 : decode cX5_odds 142 = .ok (.aload_n 0, 1) := by decide +kernel
theorem dX5_odds_143 : decode cX5_odds 143 = .ok (.getfield 42, 3) := by decide +kernel
theorem dX5_odds_146 : decode cX5_odds 146 = .ok (.iload 8, 2) := by decide +kernel
theorem dX5_odds_148 : decode cX5_odds 148 = .ok (.iaload, 1) := by decide +kernel
theorem dX5_odds_149 : decode cX5_odds 149 = .ok (.aload_n 0, 1) := by decide +kernel
theorem dX5_odds_150 : decode cX5_odds 150 = .ok (.getfield 45, 3) := by decide +kernel
theorem dX5_odds_153 : decode cX5_odds 153 = .ok (.iload 8, 2) := by decide +kernel
theorem dX5_odds_155 : decode cX5_odds 155 = .ok (.iaload, 1) := by decide +kernel
theorem dX5_odds_156 : decode cX5_odds 156 = .ok (.iadd, 1) := by decide +kernel
theorem dX5_odds_157 : decode cX5_odds 157 = .ok (.istore 9, 2) := by decide +kernel
theorem dX5_odds_159 : decode cX5_odds 159 = .ok (.iconst 0, 1) := by decide +kernel
theorem dX5_odds_160 : decode cX5_odds 160 = .ok (.istore 10, 2) := by decide +kernel
theorem dX5_odds_162 : decode cX5_odds 162 = .ok (.iload 10, 2) := by decide +kernel
theorem dX5_odds_164 : decode cX5_odds 164 = .ok (.sipush 8421, 3) := by decide +kernel
theorem dX5_odds_167 : decode cX5_odds 167 = .ok (.if_icmp .ge 17, 3) := by decide +kernel
theorem dX5_odds_170 : decode cX5_odds 170 = .ok (.aload_n 0, 1) := by decide +kernel
theorem dX5_odds_171 : decode cX5_odds 171 = .ok (.getfield 51, 3) := by decide +kernel
theorem dX5_odds_174 : decode cX5_odds 174 = .ok (.iload 10, 2) := by decide +kernel
theorem dX5_odds_176 : decode cX5_odds 176 = .ok (.lconst 0, 1) := by decide +kernel
theorem dX5_odds_177 : decode cX5_odds 177 = .ok (.lastore, 1) := by decide +kernel
theorem dX5_odds_178 : decode cX5_odds 178 = .ok (.iinc 10 1, 3) := by decide +kernel
theorem dX5_odds_181 : decode cX5_odds 181 = .ok (.goto (-19), 3) := by decide +kernel
theorem dX5_odds_184 : decode cX5_odds 184 = .ok (.iconst 0, 1) := by decide +kernel
theorem dX5_odds_185 : decode cX5_odds 185 = .ok (.istore 10, 2) := by decide +kernel
theorem dX5_odds_187 : decode cX5_odds 187 = .ok (.iload 10, 2) := by decide +kernel
theorem dX5_odds_189 : decode cX5_odds 189 = .ok (.bipush 21, 2) := by decide +kernel
theorem dX5_odds_191 : decode cX5_odds 191 = .ok (.if_icmp .ge 121, 3) := by decide +kernel
theorem dX5_odds_194 : decode cX5_odds 194 = .ok (.iconst 0, 1) := by decide +kernel
theorem dX5_odds_195 : decode cX5_odds 195 = .ok (.istore 11, 2) := by decide +kernel
theorem dX5_odds_197 : decode cX5_odds 197 = .ok (.iload 11, 2) := by decide +kernel
theorem dX5_odds_199 : decode cX5_odds 199 = .ok (.iload 9, 2) := by decide +kernel
theorem dX5_odds_201 : decode cX5_odds 201 = .ok (.if_icmp .gt 105, 3) := by decide +kernel
theorem dX5_odds_204 : decode cX5_odds 204 = .ok (.iload 10, 2) := by decide +kernel
theorem dX5_odds_206 : decode cX5_odds 206 = .ok (.iload 11, 2) := by decide +kernel
theorem dX5_odds_208 : decode cX5_odds 208 = .ok (.iadd, 1) := by decide +kernel
theorem dX5_odds_209 : decode cX5_odds 209 = .ok (.bipush 21, 2) := by decide +kernel
theorem dX5_odds_211 : decode cX5_odds 211 = .ok (.if_icmp .ge 95, 3) := by decide +kernel
theorem dX5_odds_214 : decode cX5_odds 214 = .ok (.iload 9, 2) := by decide +kernel
theorem dX5_odds_216 : decode cX5_odds 216 = .ok (.iload 11, 2) := by decide +kernel
theorem dX5_odds_218 : decode cX5_odds 218 = .ok (.isub, 1) := by decide +kernel
theorem dX5_odds_219 : decode cX5_odds 219 = .ok (.iconst 2, 1) := by decide +kernel
theorem dX5_odds_220 : decode cX5_odds 220 = .ok (.iload 10, 2) := by decide +kernel
theorem dX5_odds_222 : decode cX5_odds 222 = .ok (.imul, 1) := by decide +kernel
theorem dX5_odds_223 : decode cX5_odds 223 = .ok (.iload 11, 2) := by decide +kernel
theorem dX5_odds_225 : decode cX5_odds 225 = .ok (.iadd, 1) := by decide +kernel
theorem dX5_odds_226 : decode cX5_odds 226 = .ok (.imul, 1) := by decide +kernel
theorem dX5_odds_227 : decode cX5_odds 227 = .ok (.istore 12, 2) := by decide +kernel
theorem dX5_odds_229 : decode cX5_odds 229 = .ok (.iconst 0, 1) := by decide +kernel
theorem dX5_odds_230 : decode cX5_odds 230 = .ok (.istore 13, 2) := by decide +kernel
theorem dX5_odds_232 : decode cX5_odds 232 = .ok (.iload 13, 2) := by decide +kernel
theorem dX5_odds_234 : decode cX5_odds 234 = .ok (.iload 12, 2) := by decide +kernel
theorem dX5_odds_236 : decode cX5_odds 236 = .ok (.iadd, 1) := by decide +kernel
theorem dX5_odds_237 : decode cX5_odds 237 = .ok (.sipush 401, 3) := by decide +kernel
theorem dX5_odds_240 : decode cX5_odds 240 = .ok (.if_icmp .ge 60, 3) := by decide +kernel
theorem dX5_odds_243 : decode cX5_odds 243 = .ok (.aload_n 0, 1) := by decide +kernel
theorem dX5_odds_244 : decode cX5_odds 244 = .ok (.getfield 51, 3) := by decide +kernel
theorem dX5_odds_247 : decode cX5_odds 247 = .ok (.sipush 401, 3) := by decide +kernel
theorem dX5_odds_250 : decode cX5_odds 250 = .ok (.iload 10, 2) := by decide +kernel
theorem dX5_odds_252 : decode cX5_odds 252 = .ok (.iload 11, 2) := by decide +kernel
theorem dX5_odds_254 : decode cX5_odds 254 = .ok (.iadd, 1) := by decide +kernel
theorem dX5_odds_255 : decode cX5_odds 255 = .ok (.imul, 1) := by decide +kernel
theorem dX5_odds_256 : decode cX5_odds 256 = .ok (.iload 13, 2) := by decide +kernel
theorem dX5_odds_258 : decode cX5_odds 258 = .ok (.iadd, 1) := by decide +kernel
theorem dX5_odds_259 : decode cX5_odds 259 = .ok (.iload 12, 2) := by decide +kernel
theorem dX5_odds_261 : decode cX5_odds 261 = .ok (.iadd, 1) := by decide +kernel
theorem dX5_odds_262 : decode cX5_odds 262 = .ok (.dup2, 1) := by decide +kernel
theorem dX5_odds_263 : decode cX5_odds 263 = .ok (.laload, 1) := by decide +kernel
theorem dX5_odds_264 : decode cX5_odds 264 = .ok (.aload_n 0, 1) := by decide +kernel
theorem dX5_odds_265 : decode cX5_odds 265 = .ok (.getfield 48, 3) := by decide +kernel
theorem dX5_odds_268 : decode cX5_odds 268 = .ok (.sipush 401, 3) := by decide +kernel
theorem dX5_odds_271 : decode cX5_odds 271 = .ok (.iload 10, 2) := by decide +kernel
theorem dX5_odds_273 : decode cX5_odds 273 = .ok (.imul, 1) := by decide +kernel
theorem dX5_odds_274 : decode cX5_odds 274 = .ok (.iload 13, 2) := by decide +kernel
theorem dX5_odds_276 : decode cX5_odds 276 = .ok (.iadd, 1) := by decide +kernel
theorem dX5_odds_277 : decode cX5_odds 277 = .ok (.laload, 1) := by decide +kernel
theorem dX5_odds_278 : decode cX5_odds 278 = .ok (.aload_n 0, 1) := by decide +kernel
theorem dX5_odds_279 : decode cX5_odds 279 = .ok (.getfield 54, 3) := by decide +kernel
theorem dX5_odds_282 : decode cX5_odds 282 = .ok (.bipush 21, 2) := by decide +kernel
theorem dX5_odds_284 : decode cX5_odds 284 = .ok (.iload 9, 2) := by decide +kernel
theorem dX5_odds_286 : decode cX5_odds 286 = .ok (.imul, 1) := by decide +kernel
theorem dX5_odds_287 : decode cX5_odds 287 = .ok (.iload 11, 2) := by decide +kernel
theorem dX5_odds_289 : decode cX5_odds 289 = .ok (.iadd, 1) := by decide +kernel
theorem dX5_odds_290 : decode cX5_odds 290 = .ok (.laload, 1) := by decide +kernel
theorem dX5_odds_291 : decode cX5_odds 291 = .ok (.lmul, 1) := by decide +kernel
theorem dX5_odds_292 : decode cX5_odds 292 = .ok (.ladd, 1) := by decide +kernel
theorem dX5_odds_293 : decode cX5_odds 293 = .ok (.lastore, 1) := by decide +kernel
theorem dX5_odds_294 : decode cX5_odds 294 = .ok (.iinc 13 1, 3) := by decide +kernel
theorem dX5_odds_297 : decode cX5_odds 297 = .ok (.goto (-65), 3) := by decide +kernel
theorem dX5_odds_300 : decode cX5_odds 300 = .ok (.iinc 11 1, 3) := by decide +kernel
theorem dX5_odds_303 : decode cX5_odds 303 = .ok (.goto (-106), 3) := by decide +kernel
theorem dX5_odds_306 : decode cX5_odds 306 = .ok (.iinc 10 1, 3) := by decide +kernel
theorem dX5_odds_309 : decode cX5_odds 309 = .ok (.goto (-122), 3) := by decide +kernel
theorem dX5_odds_312 : decode cX5_odds 312 = .ok (.iconst 0, 1) := by decide +kernel
theorem dX5_odds_313 : decode cX5_odds 313 = .ok (.istore 10, 2) := by decide +kernel
theorem dX5_odds_315 : decode cX5_odds 315 = .ok (.iload 10, 2) := by decide +kernel
theorem dX5_odds_317 : decode cX5_odds 317 = .ok (.sipush 8421, 3) := by decide +kernel
theorem dX5_odds_320 : decode cX5_odds 320 = .ok (.if_icmp .ge 23, 3) := by decide +kernel
theorem dX5_odds_323 : decode cX5_odds 323 = .ok (.aload_n 0, 1) := by decide +kernel
theorem dX5_odds_324 : decode cX5_odds 324 = .ok (.getfield 48, 3) := by decide +kernel
theorem dX5_odds_327 : decode cX5_odds 327 = .ok (.iload 10, 2) := by decide +kernel
theorem dX5_odds_329 : decode cX5_odds 329 = .ok (.aload_n 0, 1) := by decide +kernel
theorem dX5_odds_330 : decode cX5_odds 330 = .ok (.getfield 51, 3) := by decide +kernel
theorem dX5_odds_333 : decode cX5_odds 333 = .ok (.iload 10, 2) := by decide +kernel
theorem dX5_odds_335 : decode cX5_odds 335 = .ok (.laload, 1) := by decide +kernel
theorem dX5_odds_336 : decode cX5_odds 336 = .ok (.lastore, 1) := by decide +kernel
theorem dX5_odds_337 : decode cX5_odds 337 = .ok (.iinc 10 1, 3) := by decide +kernel
theorem dX5_odds_340 : decode cX5_odds 340 = .ok (.goto (-25), 3) := by decide +kernel
theorem dX5_odds_343 : decode cX5_odds 343 = .ok (.iinc 8 1, 3) := by decide +kernel
theorem dX5_odds_346 : decode cX5_odds 346 = .ok (.goto (-211), 3) := by decide +kernel
theorem dX5_odds_349 : decode cX5_odds 349 = .ok (.lconst 0, 1) := by decide +kernel
theorem dX5_odds_350 : decode cX5_odds 350 = .ok (.lstore 8, 2) := by decide +kernel
theorem dX5_odds_352 : decode cX5_odds 352 = .ok (.aload_n 0, 1) := by decide +kernel
theorem dX5_odds_353 : decode cX5_odds 353 = .ok (.invokevirtual 156, 3) := by decide +kernel
theorem dX5_odds_356 : decode cX5_odds 356 = .ok (.istore 10, 2) := by decide +kernel
theorem dX5_odds_358 : decode cX5_odds 358 = .ok (.iload 10, 2) := by decide +kernel
theorem dX5_odds_360 : decode cX5_odds 360 = .ok (.sipush 401, 3) := by decide +kernel
theorem dX5_odds_363 : decode cX5_odds 363 = .ok (.if_icmp .ge 28, 3) := by decide +kernel
theorem dX5_odds_366 : decode cX5_odds 366 = .ok (.lload 8, 2) := by decide +kernel
theorem dX5_odds_368 : decode cX5_odds 368 = .ok (.aload_n 0, 1) := by decide +kernel
theorem dX5_odds_369 : decode cX5_odds 369 = .ok (.getfield 48, 3) := by decide +kernel
theorem dX5_odds_372 : decode cX5_odds 372 = .ok (.sipush 401, 3) := by decide +kernel
theorem dX5_odds_375 : decode cX5_odds 375 = .ok (.iload 6, 2) := by decide +kernel
theorem dX5_odds_377 : decode cX5_odds 377 = .ok (.imul, 1) := by decide +kernel
theorem dX5_odds_378 : decode cX5_odds 378 = .ok (.iload 10, 2) := by decide +kernel
theorem dX5_odds_380 : decode cX5_odds 380 = .ok (.iadd, 1) := by decide +kernel
theorem dX5_odds_381 : decode cX5_odds 381 = .ok (.laload, 1) := by decide +kernel
theorem dX5_odds_382 : decode cX5_odds 382 = .ok (.ladd, 1) := by decide +kernel
theorem dX5_odds_383 : decode cX5_odds 383 = .ok (.lstore 8, 2) := by decide +kernel
theorem dX5_odds_385 : decode cX5_odds 385 = .ok (.iinc 10 1, 3) := by decide +kernel
theorem dX5_odds_388 : decode cX5_odds 388 = .ok (.goto (-30), 3) := by decide +kernel
theorem dX5_odds_391 : decode cX5_odds 391 = .ok (.lload 8, 2) := by decide +kernel
theorem dX5_odds_393 : decode cX5_odds 393 = .ok (.aload_n 0, 1) := by decide +kernel
theorem dX5_odds_394 : decode cX5_odds 394 = .ok (.getfield 54, 3) := by decide +kernel
theorem dX5_odds_397 : decode cX5_odds 397 = .ok (.bipush 21, 2) := by decide +kernel
theorem dX5_odds_399 : decode cX5_odds 399 = .ok (.iload 7, 2) := by decide +kernel
theorem dX5_odds_401 : decode cX5_odds 401 = .ok (.imul, 1) := by decide +kernel
theorem dX5_odds_402 : decode cX5_odds 402 = .ok (.iload 6, 2) := by decide +kernel
theorem dX5_odds_404 : decode cX5_odds 404 = .ok (.iadd, 1) := by decide +kernel
theorem dX5_odds_405 : decode cX5_odds 405 = .ok (.laload, 1) := by decide +kernel
theorem dX5_odds_406 : decode cX5_odds 406 = .ok (.iload 5, 2) := by decide +kernel
theorem dX5_odds_408 : decode cX5_odds 408 = .ok (.invokestatic 119, 3) := by decide +kernel
theorem dX5_odds_411 : decode cX5_odds 411 = .ok (.lreturn, 1) := by decide +kernel
set_option maxRecDepth 20000 in
theorem ggX5_fresh_X5_in : GoodIn wsX5_fresh wsX5_in := goodIn_r _ [9] (by decide +kernel) (by decide +kernel)
set_option maxRecDepth 20000 in
theorem gX5_fresh_X5_in : GoodIn wsX5_fresh (va_wsS RX5 79 yX5_in wsX5_in) := goodIn_app (goodIn_of _ (by decide +kernel)) ggX5_fresh_X5_in
set_option maxRecDepth 20000 in
theorem ggX5_fresh_X5_areWindows : GoodIn wsX5_fresh wsX5_areWindows := goodIn_r _ [12, 13, 14, 8, 15] (by decide +kernel) (by decide +kernel)
set_option maxRecDepth 20000 in
theorem gX5_fresh_X5_areWindows : GoodIn wsX5_fresh (va_wsS RX5 145 yX5_areWindows wsX5_areWindows) := goodIn_app (goodIn_of _ (by decide +kernel)) ggX5_fresh_X5_areWindows
set_option maxRecDepth 20000 in
theorem ggX5_fresh_X5_counts : GoodIn wsX5_fresh wsX5_counts := goodIn_r _ [19, 20, 21, 5, 4, 22, 23, 24, 25, 26, 8, 27, 28, 29, 30, 31, 32, 33, 34, 35, 36, 37, 38, 39, 40, 41, 42, 43, 44, 45, 46, 47, 48, 49, 50, 51, 52, 53, 54, 55, 56, 57, 58] (by decide +kernel) (by decide +kernel)
set_option maxRecDepth 20000 in
theorem gX5_fresh_X5_counts : GoodIn wsX5_fresh (wsV RX5 148 RX5 yX5_counts wsX5_counts) := goodIn_app (goodIn_of _ (by decide +kernel)) ggX5_fresh_X5_counts
theorem dX5_fresh_0 : decode cX5_fresh 0 = .ok (.aload_n 0, 1) := by decide +kernel
theorem dX5_fresh_1 : decode cX5_fresh 1 = .ok (.iconst 0, 1) := by decide +kernel
theorem dX5_fresh_2 : decode cX5_fresh 2 = .ok (.putfield 75, 3) := by decide +kernel
theorem dX5_fresh_5 : decode cX5_fresh 5 = .ok (.iload_n 1, 1) := by decide +kernel
theorem dX5_fresh_6 : decode cX5_fresh 6 = .ok (.iconst 0, 1) := by decide +kernel
theorem dX5_fresh_7 : decode cX5_fresh 7 = .ok (.iconst 4, 1) := by decide +kernel
theorem dX5_fresh_8 : decode cX5_fresh 8 = .ok (.invokestatic 79, 3) := by decide +kernel
theorem dX5_fresh_11 : decode cX5_fresh 11 = .ok (.ifCond .ne 6, 3) := by decide +kernel
theorem dX5_fresh_14 : decode cX5_fresh 14 = .ok (.ldc 88, 2) := by decide +kernel
theorem dX5_fresh_16 : decode cX5_fresh 16 = .ok (.ireturn, 1) := by decide +kernel
theorem dX5_fresh_17 : decode cX5_fresh 17 = .ok (.iload_n 2, 1) := by decide +kernel
theorem dX5_fresh_18 : decode cX5_fresh 18 = .ok (.iload_n 3, 1) := by decide +kernel
theorem dX5_fresh_19 : decode cX5_fresh 19 = .ok (.iload 4, 2) := by decide +kernel
theorem dX5_fresh_21 : decode cX5_fresh 21 = .ok (.invokestatic 145, 3) := by decide +kernel
theorem dX5_fresh_24 : decode cX5_fresh 24 = .ok (.ifCond .eq 9, 3) := by decide +kernel
theorem dX5_fresh_27 : decode cX5_fresh 27 = .ok (.iload 5, 2) := by decide +kernel
theorem dX5_fresh_29 : decode cX5_fresh 29 = .ok (.iconst (-1), 1) := by decide +kernel
theorem dX5_fresh_30 : decode cX5_fresh 30 = .ok (.if_icmp .ge 6, 3) := by decide +kernel
theorem dX5_fresh_33 : decode cX5_fresh 33 = .ok (.ldc 83, 2) := by decide +kernel
theorem dX5_fresh_35 : decode cX5_fresh 35 = .ok (.ireturn, 1) := by decide +kernel
theorem dX5_fresh_36 : decode cX5_fresh 36 = .ok (.aload_n 0, 1) := by decide +kernel
theorem dX5_fresh_37 : decode cX5_fresh 37 = .ok (.iload_n 1, 1) := by decide +kernel
theorem dX5_fresh_38 : decode cX5_fresh 38 = .ok (.iload_n 2, 1) := by decide +kernel
theorem dX5_fresh_39 : decode cX5_fresh 39 = .ok (.iload_n 3, 1) := by decide +kernel
theorem dX5_fresh_40 : decode cX5_fresh 40 = .ok (.iload_n 3, 1) := by decide +kernel
theorem dX5_fresh_41 : decode cX5_fresh 41 = .ok (.iload 4, 2) := by decide +kernel
theorem dX5_fresh_43 : decode cX5_fresh 43 = .ok (.invokevirtual 148, 3) := by decide +kernel
theorem dX5_fresh_46 : decode cX5_fresh 46 = .ok (.iconst 0, 1) := by decide +kernel
theorem dX5_fresh_47 : decode cX5_fresh 47 = .ok (.istore 6, 2) := by decide +kernel
theorem dX5_fresh_49 : decode cX5_fresh 49 = .ok (.iconst 0, 1) := by decide +kernel
theorem dX5_fresh_50 : decode cX5_fresh 50 = .ok (.istore 7, 2) := by decide +kernel
theorem dX5_fresh_52 : decode cX5_fresh 52 = .ok (.iload 7, 2) := by decide +kernel
theorem dX5_fresh_54 : decode cX5_fresh 54 = .ok (.bipush 10, 2) := by decide +kernel
theorem dX5_fresh_56 : decode cX5_fresh 56 = .ok (.if_icmp .ge 42, 3) := by decide +kernel
theorem dX5_fresh_59 : decode cX5_fresh 59 = .ok (.aload_n 0, 1) := by decide +kernel
theorem dX5_fresh_60 : decode cX5_fresh 60 = .ok (.getfield 45, 3) := by decide +kernel
theorem dX5_fresh_63 : decode cX5_fresh 63 = .ok (.iload 7, 2) := by decide +kernel
theorem dX5_fresh_65 : decode cX5_fresh 65 = .ok (.iaload, 1) := by decide +kernel
theorem dX5_fresh_66 : decode cX5_fresh 66 = .ok (.ifCond .le 26, 3) := by decide +kernel
theorem dX5_fresh_69 : decode cX5_fresh 69 = .ok (.aload_n 0, 1) := by decide +kernel
theorem dX5_fresh_70 : decode cX5_fresh 70 = .ok (.getfield 42, 3) := by decide +kernel
theorem dX5_fresh_73 : decode cX5_fresh 73 = .ok (.iload 7, 2) := by decide +kernel
theorem dX5_fresh_75 : decode cX5_fresh 75 = .ok (.iaload, 1) := by decide +kernel
theorem dX5_fresh_76 : decode cX5_fresh 76 = .ok (.ifCond .ne 16, 3) := by decide +kernel
theorem dX5_fresh_79 : decode cX5_fresh 79 = .ok (.iload 6, 2) := by decide +kernel
theorem dX5_fresh_81 : decode cX5_fresh 81 = .ok (.iload 5, 2) := by decide +kernel
theorem dX5_fresh_83 : decode cX5_fresh 83 = .ok (.if_icmp .ne 6, 3) := by decide +kernel
theorem dX5_fresh_86 : decode cX5_fresh 86 = .ok (.iload 7, 2) := by decide +kernel
theorem dX5_fresh_88 : decode cX5_fresh 88 = .ok (.ireturn, 1) := by decide +kernel
theorem dX5_fresh_89 : decode cX5_fresh 89 = .ok (.iinc 6 1, 3) := by decide +kernel
theorem dX5_fresh_92 : decode cX5_fresh 92 = .ok (.iinc 7 1, 3) := by decide +kernel
theorem dX5_fresh_95 : decode cX5_fresh 95 = .ok (.goto (-43), 3) := by decide +kernel
theorem dX5_fresh_98 : decode cX5_fresh 98 = .ok (.iload 5, 2) := by decide +kernel
theorem dX5_fresh_100 : decode cX5_fresh 100 = .ok (.iconst (-1), 1) := by decide +kernel
theorem dX5_fresh_101 : decode cX5_fresh 101 = .ok (.if_icmp .ne 8, 3) := by decide +kernel
theorem dX5_fresh_104 : decode cX5_fresh 104 = .ok (.iload 6, 2) := by decide +kernel
theorem dX5_fresh_106 : decode cX5_fresh 106 = .ok (.goto 4, 3) := by decide +kernel
theorem dX5_fresh_109 : decode cX5_fresh 109 = .ok (.iconst (-1), 1) := by decide +kernel
theorem dX5_fresh_110 : decode cX5_fresh 110 = .ok (.ireturn, 1) := by decide +kernel
set_option maxRecDepth 20000 in
theorem ggX5_shift_X5_in : GoodIn wsX5_shift wsX5_in := goodIn_r _ [10] (by decide +kernel) (by decide +kernel)
set_option maxRecDepth 20000 in
theorem gX5_shift_X5_in : GoodIn wsX5_shift (va_wsS RX5 79 yX5_in wsX5_in) := goodIn_app (goodIn_of _ (by decide +kernel)) ggX5_shift_X5_in
set_option maxRecDepth 20000 in
theorem ggX5_shift_X5_areWindows : GoodIn wsX5_shift wsX5_areWindows := goodIn_r _ [13, 14, 15, 9, 16] (by decide +kernel) (by decide +kernel)
set_option maxRecDepth 20000 in
theorem gX5_shift_X5_areWindows : GoodIn wsX5_shift (va_wsS RX5 145 yX5_areWindows wsX5_areWindows) := goodIn_app (goodIn_of _ (by decide +kernel)) ggX5_shift_X5_areWindows
set_option maxRecDepth 20000 in
theorem ggX5_shift_X5_isIn : GoodIn wsX5_shift wsX5_isIn := goodIn_r _ [20, 21, 28, 29, 30, 31, 32, 33, 34, 35, 36, 37, 38, 39, 40, 41, 42, 43, 44, 45, 46, 47, 48, 49, 50, 51, 52, 53, 54, 55, 56, 57] (by decide +kernel) (by decide +kernel)
set_option maxRecDepth 20000 in
theorem gX5_shift_X5_isIn : GoodIn wsX5_shift (wsV RX5 127 RX5 yX5_isIn wsX5_isIn) := goodIn_app (goodIn_of _ (by decide +kernel)) ggX5_shift_X5_isIn
set_option maxRecDepth 20000 in
theorem ggX5_shift_X5_part : GoodIn wsX5_shift wsX5_part := goodIn_r _ [24, 25, 26, 9, 27] (by decide +kernel) (by decide +kernel)
set_option maxRecDepth 20000 in
theorem gX5_shift_X5_part : GoodIn wsX5_shift (va_wsS RX5 119 yX5_part wsX5_part) := goodIn_app (goodIn_of _ (by decide +kernel)) ggX5_shift_X5_part
theorem dX5_shift_0 : decode cX5_shift 0 = .ok (.aload_n 0, 1) := by decide +kernel
theorem dX5_shift_1 : decode cX5_shift 1 = .ok (.iconst 0, 1) := by decide +kernel
theorem dX5_shift_2 : decode cX5_shift 2 = .ok (.putfield 75, 3) := by decide +kernel
theorem dX5_shift_5 : decode cX5_shift 5 = .ok (.iload_n 1, 1) := by decide +kernel
theorem dX5_shift_6 : decode cX5_shift 6 = .ok (.iconst 0, 1) := by decide +kernel
theorem dX5_shift_7 : decode cX5_shift 7 = .ok (.iconst 4, 1) := by decide +kernel
theorem dX5_shift_8 : decode cX5_shift 8 = .ok (.invokestatic 79, 3) := by decide +kernel
theorem dX5_shift_11 : decode cX5_shift 11 = .ok (.ifCond .eq 17, 3) := by decide +kernel
theorem dX5_shift_14 : decode cX5_shift 14 = .ok (.iload_n 2, 1) := by decide +kernel
theorem dX5_shift_15 : decode cX5_shift 15 = .ok (.iconst 0, 1) := by decide +kernel
theorem dX5_shift_16 : decode cX5_shift 16 = .ok (.iconst 4, 1) := by decide +kernel
theorem dX5_shift_17 : decode cX5_shift 17 = .ok (.invokestatic 79, 3) := by decide +kernel
theorem dX5_shift_20 : decode cX5_shift 20 = .ok (.ifCond .eq 8, 3) := by decide +kernel
theorem dX5_shift_23 : decode cX5_shift 23 = .ok (.iload_n 1, 1) := by decide +kernel
theorem dX5_shift_24 : decode cX5_shift 24 = .ok (.iload_n 2, 1) := by decide +kernel
theorem dX5_shift_25 : decode cX5_shift 25 = .ok (.if_icmp .ne 7, 3) := by decide +kernel
theorem dX5_shift_28 : decode cX5_shift 28 = .ok (.ldc2_w 115, 3) := by decide +kernel
theorem dX5_shift_31 : decode cX5_shift 31 = .ok (.lreturn, 1) := by decide +kernel
theorem dX5_shift_32 : decode cX5_shift 32 = .ok (.iload_n 3, 1) := by decide +kernel
theorem dX5_shift_33 : decode cX5_shift 33 = .ok (.iload 4, 2) := by decide +kernel
theorem dX5_shift_35 : decode cX5_shift 35 = .ok (.iload 5, 2) := by decide +kernel
theorem dX5_shift_37 : decode cX5_shift 37 = .ok (.invokestatic 145, 3) := by decide +kernel
theorem dX5_shift_40 : decode cX5_shift 40 = .ok (.ifCond .eq 13, 3) := by decide +kernel
theorem dX5_shift_43 : decode cX5_shift 43 = .ok (.iload 6, 2) := by decide +kernel
theorem dX5_shift_45 : decode cX5_shift 45 = .ok (.iconst 0, 1) := by decide +kernel
theorem dX5_shift_46 : decode cX5_shift 46 = .ok (.iconst 1, 1) := by decide +kernel
theorem dX5_shift_47 : decode cX5_shift 47 = .ok (.invokestatic 79, 3) := by decide +kernel
theorem dX5_shift_50 : decode cX5_shift 50 = .ok (.ifCond .ne 7, 3) := by decide +kernel
theorem dX5_shift_53 : decode cX5_shift 53 = .ok (.ldc2_w 117, 3) := by decide +kernel
theorem dX5_shift_56 : decode cX5_shift 56 = .ok (.lreturn, 1) := by decide +kernel
theorem dX5_shift_57 : decode cX5_shift 57 = .ok (.lconst 0, 1) := by decide +kernel
theorem dX5_shift_58 : decode cX5_shift 58 = .ok (.lstore 7, 2) := by decide +kernel
theorem dX5_shift_60 : decode cX5_shift 60 = .ok (.lconst 0, 1) := by decide +kernel
theorem dX5_shift_61 : decode cX5_shift 61 = .ok (.lstore 9, 2) := by decide +kernel
theorem dX5_shift_63 : decode cX5_shift 63 = .ok (.lconst 0, 1) := by decide +kernel
theorem dX5_shift_64 : decode cX5_shift 64 = .ok (.lstore 11, 2) := by decide +kernel
theorem dX5_shift_66 : decode cX5_shift 66 = .ok (.lconst 0, 1) := by decide +kernel
theorem dX5_shift_67 : decode cX5_shift 67 = .ok (.lstore 13, 2) := by decide +kernel
theorem dX5_shift_69 : decode cX5_shift 69 = .ok (.lconst 0, 1) := by decide +kernel
theorem dX5_shift_70 : decode cX5_shift 70 = .ok (.lstore 15, 2) := by decide +kernel
theorem dX5_shift_72 : decode cX5_shift 72 = .ok (.lconst 0, 1) := by decide +kernel
theorem dX5_shift_73 : decode cX5_shift 73 = .ok (.lstore 17, 2) := by decide +kernel
theorem dX5_shift_75 : decode cX5_shift 75 = .ok (.iconst 0, 1) := by decide +kernel
theorem dX5_shift_76 : decode cX5_shift 76 = .ok (.istore 19, 2) := by decide +kernel
theorem dX5_shift_78 : decode cX5_shift 78 = .ok (.iload 19, 2) := by decide +kernel
theorem dX5_shift_80 : decode cX5_shift 80 = .ok (.aload_n 0, 1) := by decide +kernel
theorem dX5_shift_81 : decode cX5_shift 81 = .ok (.getfield 84, 3) := by decide +kernel
theorem dX5_shift_84 : decode cX5_shift 84 = .ok (.if_icmp .ge 152, 3) := by decide +kernel
theorem dX5_shift_87 : decode cX5_shift 87 = .ok (.aload_n 0, 1) := by decide +kernel
theorem dX5_shift_88 : decode cX5_shift 88 = .ok (.getfield 17, 3) := by decide +kernel
theorem dX5_shift_91 : decode cX5_shift 91 = .ok (.iconst 5, 1) := by decide +kernel
theorem dX5_shift_92 : decode cX5_shift 92 = .ok (.iload 19, 2) := by decide +kernel
theorem dX5_shift_94 : decode cX5_shift 94 = .ok (.imul, 1) := by decide +kernel
theorem dX5_shift_95 : decode cX5_shift 95 = .ok (.iload_n 2, 1) := by decide +kernel
theorem dX5_shift_96 : decode cX5_shift 96 = .ok (.iadd, 1) := by decide +kernel
theorem dX5_shift_97 : decode cX5_shift 97 = .ok (.iaload, 1) := by decide +kernel
theorem dX5_shift_98 : decode cX5_shift 98 = .ok (.istore 20, 2) := by decide +kernel
theorem dX5_shift_100 : decode cX5_shift 100 = .ok (.aload_n 0, 1) := by decide +kernel
theorem dX5_shift_101 : decode cX5_shift 101 = .ok (.getfield 17, 3) := by decide +kernel
theorem dX5_shift_104 : decode cX5_shift 104 = .ok (.iconst 5, 1) := by decide +kernel
theorem dX5_shift_105 : decode cX5_shift 105 = .ok (.iload 19, 2) := by decide +kernel
theorem dX5_shift_107 : decode cX5_shift 107 = .ok (.imul, 1) := by decide +kernel
theorem dX5_shift_108 : decode cX5_shift 108 = .ok (.iload_n 1, 1) := by decide +kernel
theorem dX5_shift_109 : decode cX5_shift 109 = .ok (.iadd, 1) := by decide +kernel
theorem dX5_shift_110 : decode cX5_shift 110 = .ok (.iaload, 1) := by decide +kernel
theorem dX5_shift_111 : decode cX5_shift 111 = .ok (.istore 21, 2) := by decide +kernel
theorem dX5_shift_113 : decode cX5_shift 113 = .ok (.iload 20, 2) := by decide +kernel
theorem dX5_shift_115 : decode cX5_shift 115 = .ok (.iconst 2, 1) := by decide +kernel
theorem dX5_shift_116 : decode cX5_shift 116 = .ok (.if_icmp .ge 81, 3) := by decide +kernel
theorem dX5_shift_119 : decode cX5_shift 119 = .ok (.aload_n 0, 1) := by decide +kernel
theorem dX5_shift_120 : decode cX5_shift 120 = .ok (.iload 19, 2) := by decide +kernel
theorem dX5_shift_122 : decode cX5_shift 122 = .ok (.iload_n 3, 1) := by decide +kernel
theorem dX5_shift_123 : decode cX5_shift 123 = .ok (.iload 4, 2) := by decide +kernel
theorem dX5_shift_125 : decode cX5_shift 125 = .ok (.invokevirtual 127, 3) := by decide +kernel
theorem dX5_shift_128 : decode cX5_shift 128 = .ok (.ifCond .eq 69, 3) := by decide +kernel
theorem dX5_shift_131 : decode cX5_shift 131 = .ok (.lload 7, 2) := by decide +kernel
theorem dX5_shift_133 : decode cX5_shift 133 = .ok (.iload 21, 2) := by decide +kernel
theorem dX5_shift_135 : decode cX5_shift 135 = .ok (.ifCond .ne 7, 3) := by decide +kernel
theorem dX5_shift_138 : decode cX5_shift 138 = .ok (.lconst 1, 1) := by decide +kernel
theorem dX5_shift_139 : decode cX5_shift 139 = .ok (.goto 4, 3) := by decide +kernel
theorem dX5_shift_142 : decode cX5_shift 142 = .ok (.lconst 0, 1) := by decide +kernel
theorem dX5_shift_143 : decode cX5_shift 143 = .ok (.ladd, 1) := by decide +kernel
theorem dX5_shift_144 : decode cX5_shift 144 = .ok (.lstore 7, 2) := by decide +kernel
theorem dX5_shift_146 : decode cX5_shift 146 = .ok (.lload 9, 2) := by decide +kernel
theorem dX5_shift_148 : decode cX5_shift 148 = .ok (.iload 21, 2) := by decide +kernel
theorem dX5_shift_150 : decode cX5_shift 150 = .ok (.ifCond .ne 9, 3) := by decide +kernel
theorem dX5_shift_153 : decode cX5_shift 153 = .ok (.iload 20, 2) := by decide +kernel
theorem dX5_shift_155 : decode cX5_shift 155 = .ok (.i2l, 1) := by decide +kernel
theorem dX5_shift_156 : decode cX5_shift 156 = .ok (.goto 4, 3) := by decide +kernel
theorem dX5_shift_159 : decode cX5_shift 159 = .ok (.lconst 0, 1) := by decide +kernel
theorem dX5_shift_160 : decode cX5_shift 160 = .ok (.ladd, 1) := by decide +kernel
theorem dX5_shift_161 : decode cX5_shift 161 = .ok (.lstore 9, 2) := by decide +kernel
theorem dX5_shift_163 : decode cX5_shift 163 = .ok (.lload 11, 2) := by decide +kernel
theorem dX5_shift_165 : decode cX5_shift 165 = .ok (.iload 21, 2) := by decide +kernel
theorem dX5_shift_167 : decode cX5_shift 167 = .ok (.iconst 1, 1) := by decide +kernel
theorem dX5_shift_168 : decode cX5_shift 168 = .ok (.if_icmp .ne 7, 3) := by decide +kernel
theorem dX5_shift_171 : decode cX5_shift 171 = .ok (.lconst 1, 1) := by decide +kernel
theorem dX5_shift_172 : decode cX5_shift 172 = .ok (.goto 4, 3) := by decide +kernel
theorem dX5_shift_175 : decode cX5_shift 175 = .ok (.lconst 0, 1) := by decide +kernel
theorem dX5_shift_176 : decode cX5_shift 176 = .ok (.ladd, 1) := by decide +kernel
theorem dX5_shift_177 : decode cX5_shift 177 = .ok (.lstore 11, 2) := by decide +kernel
theorem dX5_shift_179 : decode cX5_shift 179 = .ok (.lload 13, 2) := by decide +kernel
theorem dX5_shift_181 : decode cX5_shift 181 = .ok (.iload 21, 2) := by decide +kernel
theorem dX5_shift_183 : decode cX5_shift 183 = .ok (.iconst 1, 1) := by decide +kernel
theorem dX5_shift_184 : decode cX5_shift 184 = .ok (.if_icmp .ne 9, 3) := by decide +kernel
end
section
theorem dX5_shift_187 : decode cX5_shift 187 = .ok (.iload 20, 2) := by decide +kernel
theorem dX5_shift_189 : decode cX5_shift 189 = .ok (.i2l, 1) := by decide +kernel
theorem dX5_shift_190 : decode cX5_shift 190 = .ok (.goto 4, 3) := by decide +kernel
theorem dX5_shift_193 : decode cX5_shift 193 = .ok (.lconst 0, 1) := by decide +kernel
theorem dX5_shift_194 : decode cX5_shift 194 = .ok (.ladd, 1) := by decide +kernel
theorem dX5_shift_195 : decode cX5_shift 195 = .ok (.lstore 13, 2) := by decide +kernel
theorem dX5_shift_197 : decode cX5_shift 197 = .ok (.iload 20, 2) := by decide +kernel
theorem dX5_shift_199 : decode cX5_shift 199 = .ok (.iconst 2, 1) := by decide +kernel
theorem dX5_shift_200 : decode cX5_shift 200 = .ok (.if_icmp .ge 30, 3) := by decide +kernel
theorem dX5_shift_203 : decode cX5_shift 203 = .ok (.aload_n 0, 1) := by decide +kernel
theorem dX5_shift_204 : decode cX5_shift 204 = .ok (.iload 19, 2) := by decide +kernel
theorem dX5_shift_206 : decode cX5_shift 206 = .ok (.iload 4, 2) := by decide +kernel
theorem dX5_shift_208 : decode cX5_shift 208 = .ok (.iload 5, 2) := by decide +kernel
theorem dX5_shift_210 : decode cX5_shift 210 = .ok (.invokevirtual 127, 3) := by decide +kernel
theorem dX5_shift_213 : decode cX5_shift 213 = .ok (.ifCond .eq 17, 3) := by decide +kernel
theorem dX5_shift_216 : decode cX5_shift 216 = .ok (.lload 15, 2) := by decide +kernel
theorem dX5_shift_218 : decode cX5_shift 218 = .ok (.lconst 1, 1) := by decide +kernel
theorem dX5_shift_219 : decode cX5_shift 219 = .ok (.ladd, 1) := by decide +kernel
theorem dX5_shift_220 : decode cX5_shift 220 = .ok (.lstore 15, 2) := by decide +kernel
theorem dX5_shift_222 : decode cX5_shift 222 = .ok (.lload 17, 2) := by decide +kernel
theorem dX5_shift_224 : decode cX5_shift 224 = .ok (.iload 20, 2) := by decide +kernel
theorem dX5_shift_226 : decode cX5_shift 226 = .ok (.i2l, 1) := by decide +kernel
theorem dX5_shift_227 : decode cX5_shift 227 = .ok (.ladd, 1) := by decide +kernel
theorem dX5_shift_228 : decode cX5_shift 228 = .ok (.lstore 17, 2) := by decide +kernel
theorem dX5_shift_230 : decode cX5_shift 230 = .ok (.iinc 19 1, 3) := by decide +kernel
theorem dX5_shift_233 : decode cX5_shift 233 = .ok (.goto (-155), 3) := by decide +kernel
theorem dX5_shift_236 : decode cX5_shift 236 = .ok (.lload 7, 2) := by decide +kernel
theorem dX5_shift_238 : decode cX5_shift 238 = .ok (.lconst 0, 1) := by decide +kernel
theorem dX5_shift_239 : decode cX5_shift 239 = .ok (.lcmp, 1) := by decide +kernel
theorem dX5_shift_240 : decode cX5_shift 240 = .ok (.ifCond .eq 17, 3) := by decide +kernel
theorem dX5_shift_243 : decode cX5_shift 243 = .ok (.lload 11, 2) := by decide +kernel
theorem dX5_shift_245 : decode cX5_shift 245 = .ok (.lconst 0, 1) := by decide +kernel
theorem dX5_shift_246 : decode cX5_shift 246 = .ok (.lcmp, 1) := by decide +kernel
theorem dX5_shift_247 : decode cX5_shift 247 = .ok (.ifCond .eq 10, 3) := by decide +kernel
theorem dX5_shift_250 : decode cX5_shift 250 = .ok (.lload 15, 2) := by decide +kernel
theorem dX5_shift_252 : decode cX5_shift 252 = .ok (.lconst 0, 1) := by decide +kernel
theorem dX5_shift_253 : decode cX5_shift 253 = .ok (.lcmp, 1) := by decide +kernel
theorem dX5_shift_254 : decode cX5_shift 254 = .ok (.ifCond .ne 10, 3) := by decide +kernel
theorem dX5_shift_257 : decode cX5_shift 257 = .ok (.aload_n 0, 1) := by decide +kernel
theorem dX5_shift_258 : decode cX5_shift 258 = .ok (.iconst 1, 1) := by decide +kernel
theorem dX5_shift_259 : decode cX5_shift 259 = .ok (.putfield 75, 3) := by decide +kernel
theorem dX5_shift_262 : decode cX5_shift 262 = .ok (.lconst 0, 1) := by decide +kernel
theorem dX5_shift_263 : decode cX5_shift 263 = .ok (.lreturn, 1) := by decide +kernel
theorem dX5_shift_264 : decode cX5_shift 264 = .ok (.lload 13, 2) := by decide +kernel
theorem dX5_shift_266 : decode cX5_shift 266 = .ok (.lload 7, 2) := by decide +kernel
theorem dX5_shift_268 : decode cX5_shift 268 = .ok (.lmul, 1) := by decide +kernel
theorem dX5_shift_269 : decode cX5_shift 269 = .ok (.lload 9, 2) := by decide +kernel
theorem dX5_shift_271 : decode cX5_shift 271 = .ok (.lload 11, 2) := by decide +kernel
theorem dX5_shift_273 : decode cX5_shift 273 = .ok (.lmul, 1) := by decide +kernel
theorem dX5_shift_274 : decode cX5_shift 274 = .ok (.lsub, 1) := by decide +kernel
theorem dX5_shift_275 : decode cX5_shift 275 = .ok (.lload 15, 2) := by decide +kernel
theorem dX5_shift_277 : decode cX5_shift 277 = .ok (.lmul, 1) := by decide +kernel
theorem dX5_shift_278 : decode cX5_shift 278 = .ok (.lstore 19, 2) := by decide +kernel
theorem dX5_shift_280 : decode cX5_shift 280 = .ok (.lload 17, 2) := by decide +kernel
theorem dX5_shift_282 : decode cX5_shift 282 = .ok (.lload 7, 2) := by decide +kernel
theorem dX5_shift_284 : decode cX5_shift 284 = .ok (.lmul, 1) := by decide +kernel
theorem dX5_shift_285 : decode cX5_shift 285 = .ok (.lload 9, 2) := by decide +kernel
theorem dX5_shift_287 : decode cX5_shift 287 = .ok (.lload 15, 2) := by decide +kernel
theorem dX5_shift_289 : decode cX5_shift 289 = .ok (.lmul, 1) := by decide +kernel
theorem dX5_shift_290 : decode cX5_shift 290 = .ok (.lsub, 1) := by decide +kernel
theorem dX5_shift_291 : decode cX5_shift 291 = .ok (.lload 11, 2) := by decide +kernel
theorem dX5_shift_293 : decode cX5_shift 293 = .ok (.lmul, 1) := by decide +kernel
theorem dX5_shift_294 : decode cX5_shift 294 = .ok (.lstore 21, 2) := by decide +kernel
theorem dX5_shift_296 : decode cX5_shift 296 = .ok (.lload 19, 2) := by decide +kernel
theorem dX5_shift_298 : decode cX5_shift 298 = .ok (.lconst 0, 1) := by decide +kernel
theorem dX5_shift_299 : decode cX5_shift 299 = .ok (.lcmp, 1) := by decide +kernel
theorem dX5_shift_300 : decode cX5_shift 300 = .ok (.ifCond .ne 7, 3) := by decide +kernel
theorem dX5_shift_303 : decode cX5_shift 303 = .ok (.ldc2_w 160, 3) := by decide +kernel
theorem dX5_shift_306 : decode cX5_shift 306 = .ok (.lreturn, 1) := by decide +kernel
theorem dX5_shift_307 : decode cX5_shift 307 = .ok (.lload 19, 2) := by decide +kernel
theorem dX5_shift_309 : decode cX5_shift 309 = .ok (.lconst 0, 1) := by decide +kernel
theorem dX5_shift_310 : decode cX5_shift 310 = .ok (.lcmp, 1) := by decide +kernel
theorem dX5_shift_311 : decode cX5_shift 311 = .ok (.ifCond .ge 17, 3) := by decide +kernel
theorem dX5_shift_314 : decode cX5_shift 314 = .ok (.lload 21, 2) := by decide +kernel
theorem dX5_shift_316 : decode cX5_shift 316 = .ok (.lneg, 1) := by decide +kernel
theorem dX5_shift_317 : decode cX5_shift 317 = .ok (.lload 19, 2) := by decide +kernel
theorem dX5_shift_319 : decode cX5_shift 319 = .ok (.lneg, 1) := by decide +kernel
theorem dX5_shift_320 : decode cX5_shift 320 = .ok (.iload 6, 2) := by decide +kernel
theorem dX5_shift_322 : decode cX5_shift 322 = .ok (.invokestatic 119, 3) := by decide +kernel
theorem dX5_shift_325 : decode cX5_shift 325 = .ok (.goto 12, 3) := by decide +kernel
theorem dX5_shift_328 : decode cX5_shift 328 = .ok (.lload 21, 2) := by decide +kernel
theorem dX5_shift_330 : decode cX5_shift 330 = .ok (.lload 19, 2) := by decide +kernel
theorem dX5_shift_332 : decode cX5_shift 332 = .ok (.iload 6, 2) := by decide +kernel
theorem dX5_shift_334 : decode cX5_shift 334 = .ok (.invokestatic 119, 3) := by decide +kernel
theorem dX5_shift_337 : decode cX5_shift 337 = .ok (.lreturn, 1) := by decide +kernel
set_option maxRecDepth 20000 in
theorem ggX5_order_X5_in : GoodIn wsX5_order wsX5_in := goodIn_r _ [10] (by decide +kernel) (by decide +kernel)
set_option maxRecDepth 20000 in
theorem gX5_order_X5_in : GoodIn wsX5_order (va_wsS RX5 79 yX5_in wsX5_in) := goodIn_app (goodIn_of _ (by decide +kernel)) ggX5_order_X5_in
set_option maxRecDepth 20000 in
theorem ggX5_order_X5_areWindows : GoodIn wsX5_order wsX5_areWindows := goodIn_r _ [13, 14, 15, 9, 16] (by decide +kernel) (by decide +kernel)
set_option maxRecDepth 20000 in
theorem gX5_order_X5_areWindows : GoodIn wsX5_order (va_wsS RX5 145 yX5_areWindows wsX5_areWindows) := goodIn_app (goodIn_of _ (by decide +kernel)) ggX5_order_X5_areWindows
set_option maxRecDepth 20000 in
theorem ggX5_order_X5_counts : GoodIn wsX5_order wsX5_counts := goodIn_r _ [20, 21, 22, 23, 24, 25, 26, 27, 28, 29, 9, 30, 31, 38, 39, 40, 41, 42, 43, 44, 45, 46, 47, 48, 49, 50, 51, 52, 53, 54, 55, 56, 57, 58, 59, 60, 61, 62, 63, 64, 65, 66, 67] (by decide +kernel) (by decide +kernel)
set_option maxRecDepth 20000 in
theorem gX5_order_X5_counts : GoodIn wsX5_order (wsV RX5 148 RX5 yX5_counts wsX5_counts) := goodIn_app (goodIn_of _ (by decide +kernel)) ggX5_order_X5_counts
set_option maxRecDepth 20000 in
theorem ggX5_order_X5_drifts : GoodIn wsX5_order wsX5_drifts := goodIn_r _ [35, 21, 22, 5, 23, 24, 36, 37, 38, 39, 40, 41, 42, 43, 44, 45, 46, 47, 48, 49, 50, 51, 52, 53, 54, 55, 56, 57, 58, 59, 60, 61, 62, 63, 64, 65, 66, 67] (by decide +kernel) (by decide +kernel)
set_option maxRecDepth 20000 in
theorem gX5_order_X5_drifts : GoodIn wsX5_order (wsV RX5 152 RX5 yX5_drifts wsX5_drifts) := goodIn_app (goodIn_of _ (by decide +kernel)) ggX5_order_X5_drifts
theorem dX5_order_0 : decode cX5_order 0 = .ok (.aload_n 0, 1) := by decide +kernel
theorem dX5_order_1 : decode cX5_order 1 = .ok (.iconst 0, 1) := by decide +kernel
theorem dX5_order_2 : decode cX5_order 2 = .ok (.putfield 75, 3) := by decide +kernel
theorem dX5_order_5 : decode cX5_order 5 = .ok (.iload 4, 2) := by decide +kernel
theorem dX5_order_7 : decode cX5_order 7 = .ok (.iconst 0, 1) := by decide +kernel
theorem dX5_order_8 : decode cX5_order 8 = .ok (.iconst 4, 1) := by decide +kernel
theorem dX5_order_9 : decode cX5_order 9 = .ok (.invokestatic 79, 3) := by decide +kernel
theorem dX5_order_12 : decode cX5_order 12 = .ok (.ifCond .ne 6, 3) := by decide +kernel
theorem dX5_order_15 : decode cX5_order 15 = .ok (.ldc 88, 2) := by decide +kernel
theorem dX5_order_17 : decode cX5_order 17 = .ok (.ireturn, 1) := by decide +kernel
theorem dX5_order_18 : decode cX5_order 18 = .ok (.iload_n 1, 1) := by decide +kernel
theorem dX5_order_19 : decode cX5_order 19 = .ok (.iload_n 2, 1) := by decide +kernel
theorem dX5_order_20 : decode cX5_order 20 = .ok (.iload_n 3, 1) := by decide +kernel
theorem dX5_order_21 : decode cX5_order 21 = .ok (.invokestatic 145, 3) := by decide +kernel
theorem dX5_order_24 : decode cX5_order 24 = .ok (.ifCond .ne 6, 3) := by decide +kernel
theorem dX5_order_27 : decode cX5_order 27 = .ok (.ldc 83, 2) := by decide +kernel
theorem dX5_order_29 : decode cX5_order 29 = .ok (.ireturn, 1) := by decide +kernel
theorem dX5_order_30 : decode cX5_order 30 = .ok (.iconst 0, 1) := by decide +kernel
theorem dX5_order_31 : decode cX5_order 31 = .ok (.istore 5, 2) := by decide +kernel
theorem dX5_order_33 : decode cX5_order 33 = .ok (.iload 5, 2) := by decide +kernel
theorem dX5_order_35 : decode cX5_order 35 = .ok (.iconst 5, 1) := by decide +kernel
theorem dX5_order_36 : decode cX5_order 36 = .ok (.if_icmp .ge 106, 3) := by decide +kernel
theorem dX5_order_39 : decode cX5_order 39 = .ok (.aload_n 0, 1) := by decide +kernel
theorem dX5_order_40 : decode cX5_order 40 = .ok (.iload 5, 2) := by decide +kernel
theorem dX5_order_42 : decode cX5_order 42 = .ok (.iload_n 1, 1) := by decide +kernel
theorem dX5_order_43 : decode cX5_order 43 = .ok (.iload_n 2, 1) := by decide +kernel
theorem dX5_order_44 : decode cX5_order 44 = .ok (.iload_n 2, 1) := by decide +kernel
theorem dX5_order_45 : decode cX5_order 45 = .ok (.iload_n 3, 1) := by decide +kernel
theorem dX5_order_46 : decode cX5_order 46 = .ok (.invokevirtual 148, 3) := by decide +kernel
theorem dX5_order_49 : decode cX5_order 49 = .ok (.aload_n 0, 1) := by decide +kernel
theorem dX5_order_50 : decode cX5_order 50 = .ok (.invokevirtual 152, 3) := by decide +kernel
theorem dX5_order_53 : decode cX5_order 53 = .ok (.ifCond .ne 10, 3) := by decide +kernel
theorem dX5_order_56 : decode cX5_order 56 = .ok (.aload_n 0, 1) := by decide +kernel
theorem dX5_order_57 : decode cX5_order 57 = .ok (.iconst 1, 1) := by decide +kernel
theorem dX5_order_58 : decode cX5_order 58 = .ok (.putfield 75, 3) := by decide +kernel
theorem dX5_order_61 : decode cX5_order 61 = .ok (.iconst 0, 1) := by decide +kernel
theorem dX5_order_62 : decode cX5_order 62 = .ok (.ireturn, 1) := by decide +kernel
theorem dX5_order_63 : decode cX5_order 63 = .ok (.aload_n 0, 1) := by decide +kernel
theorem dX5_order_64 : decode cX5_order 64 = .ok (.getfield 57, 3) := by decide +kernel
theorem dX5_order_67 : decode cX5_order 67 = .ok (.iload 5, 2) := by decide +kernel
theorem dX5_order_69 : decode cX5_order 69 = .ok (.aload_n 0, 1) := by decide +kernel
theorem dX5_order_70 : decode cX5_order 70 = .ok (.getfield 136, 3) := by decide +kernel
theorem dX5_order_73 : decode cX5_order 73 = .ok (.lastore, 1) := by decide +kernel
theorem dX5_order_74 : decode cX5_order 74 = .ok (.iload 5, 2) := by decide +kernel
theorem dX5_order_76 : decode cX5_order 76 = .ok (.istore 6, 2) := by decide +kernel
theorem dX5_order_78 : decode cX5_order 78 = .ok (.iload 6, 2) := by decide +kernel
theorem dX5_order_80 : decode cX5_order 80 = .ok (.ifCond .le 47, 3) := by decide +kernel
theorem dX5_order_83 : decode cX5_order 83 = .ok (.aload_n 0, 1) := by decide +kernel
theorem dX5_order_84 : decode cX5_order 84 = .ok (.getfield 57, 3) := by decide +kernel
theorem dX5_order_87 : decode cX5_order 87 = .ok (.aload_n 0, 1) := by decide +kernel
theorem dX5_order_88 : decode cX5_order 88 = .ok (.getfield 60, 3) := by decide +kernel
theorem dX5_order_91 : decode cX5_order 91 = .ok (.iload 6, 2) := by decide +kernel
theorem dX5_order_93 : decode cX5_order 93 = .ok (.iconst 1, 1) := by decide +kernel
theorem dX5_order_94 : decode cX5_order 94 = .ok (.isub, 1) := by decide +kernel
theorem dX5_order_95 : decode cX5_order 95 = .ok (.iaload, 1) := by decide +kernel
theorem dX5_order_96 : decode cX5_order 96 = .ok (.laload, 1) := by decide +kernel
theorem dX5_order_97 : decode cX5_order 97 = .ok (.aload_n 0, 1) := by decide +kernel
theorem dX5_order_98 : decode cX5_order 98 = .ok (.getfield 136, 3) := by decide +kernel
theorem dX5_order_101 : decode cX5_order 101 = .ok (.lcmp, 1) := by decide +kernel
theorem dX5_order_102 : decode cX5_order 102 = .ok (.ifCond .ge 25, 3) := by decide +kernel
theorem dX5_order_105 : decode cX5_order 105 = .ok (.aload_n 0, 1) := by decide +kernel
theorem dX5_order_106 : decode cX5_order 106 = .ok (.getfield 60, 3) := by decide +kernel
theorem dX5_order_109 : decode cX5_order 109 = .ok (.iload 6, 2) := by decide +kernel
theorem dX5_order_111 : decode cX5_order 111 = .ok (.aload_n 0, 1) := by decide +kernel
theorem dX5_order_112 : decode cX5_order 112 = .ok (.getfield 60, 3) := by decide +kernel
theorem dX5_order_115 : decode cX5_order 115 = .ok (.iload 6, 2) := by decide +kernel
theorem dX5_order_117 : decode cX5_order 117 = .ok (.iconst 1, 1) := by decide +kernel
theorem dX5_order_118 : decode cX5_order 118 = .ok (.isub, 1) := by decide +kernel
theorem dX5_order_119 : decode cX5_order 119 = .ok (.iaload, 1) := by decide +kernel
theorem dX5_order_120 : decode cX5_order 120 = .ok (.iastore, 1) := by decide +kernel
theorem dX5_order_121 : decode cX5_order 121 = .ok (.iinc 6 (-1), 3) := by decide +kernel
theorem dX5_order_124 : decode cX5_order 124 = .ok (.goto (-46), 3) := by decide +kernel
theorem dX5_order_127 : decode cX5_order 127 = .ok (.aload_n 0, 1) := by decide +kernel
theorem dX5_order_128 : decode cX5_order 128 = .ok (.getfield 60, 3) := by decide +kernel
theorem dX5_order_131 : decode cX5_order 131 = .ok (.iload 6, 2) := by decide +kernel
theorem dX5_order_133 : decode cX5_order 133 = .ok (.iload 5, 2) := by decide +kernel
theorem dX5_order_135 : decode cX5_order 135 = .ok (.iastore, 1) := by decide +kernel
theorem dX5_order_136 : decode cX5_order 136 = .ok (.iinc 5 1, 3) := by decide +kernel
theorem dX5_order_139 : decode cX5_order 139 = .ok (.goto (-106), 3) := by decide +kernel
theorem dX5_order_142 : decode cX5_order 142 = .ok (.aload_n 0, 1) := by decide +kernel
theorem dX5_order_143 : decode cX5_order 143 = .ok (.getfield 60, 3) := by decide +kernel
theorem dX5_order_146 : decode cX5_order 146 = .ok (.iload 4, 2) := by decide +kernel
theorem dX5_order_148 : decode cX5_order 148 = .ok (.iaload, 1) := by decide +kernel
theorem dX5_order_149 : decode cX5_order 149 = .ok (.ireturn, 1) := by decide +kernel
set_option maxRecDepth 20000 in
theorem ggX5_watch_X5_in : GoodIn wsX5_watch wsX5_in := goodIn_r _ [19] (by decide +kernel) (by decide +kernel)
set_option maxRecDepth 20000 in
theorem gX5_watch_X5_in : GoodIn wsX5_watch (va_wsS RX5 79 yX5_in wsX5_in) := goodIn_app (goodIn_of _ (by decide +kernel)) ggX5_watch_X5_in
set_option maxRecDepth 20000 in
theorem ggX5_watch_X5_counts : GoodIn wsX5_watch wsX5_counts := goodIn_r _ [23, 4, 14, 24, 25, 26, 27, 28, 29, 30, 18, 31, 32, 38, 39, 40, 41, 42, 43, 44, 45, 46, 47, 48, 49, 50, 51, 52, 53, 54, 55, 56, 57, 58, 59, 60, 61, 62, 63, 64, 65, 66, 67] (by decide +kernel) (by decide +kernel)
set_option maxRecDepth 20000 in
theorem gX5_watch_X5_counts : GoodIn wsX5_watch (wsV RX5 148 RX5 yX5_counts wsX5_counts) := goodIn_app (goodIn_of _ (by decide +kernel)) ggX5_watch_X5_counts
set_option maxRecDepth 20000 in
theorem ggX5_watch_X5_drifts : GoodIn wsX5_watch wsX5_drifts := goodIn_r _ [36, 4, 14, 9, 24, 25, 37, 10, 38, 39, 40, 41, 42, 43, 44, 45, 46, 47, 48, 49, 50, 51, 52, 53, 54, 55, 56, 57, 58, 59, 60, 61, 62, 63, 64, 65, 66, 67] (by decide +kernel) (by decide +kernel)
set_option maxRecDepth 20000 in
theorem gX5_watch_X5_drifts : GoodIn wsX5_watch (wsV RX5 152 RX5 yX5_drifts wsX5_drifts) := goodIn_app (goodIn_of _ (by decide +kernel)) ggX5_watch_X5_drifts
theorem dX5_watch_0 : decode cX5_watch 0 = .ok (.aload_n 0, 1) := by decide +kernel
theorem dX5_watch_1 : decode cX5_watch 1 = .ok (.iconst 0, 1) := by decide +kernel
theorem dX5_watch_2 : decode cX5_watch 2 = .ok (.putfield 75, 3) := by decide +kernel
theorem dX5_watch_5 : decode cX5_watch 5 = .ok (.iload_n 1, 1) := by decide +kernel
theorem dX5_watch_6 : decode cX5_watch 6 = .ok (.iconst 0, 1) := by decide +kernel
theorem dX5_watch_7 : decode cX5_watch 7 = .ok (.iconst 4, 1) := by decide +kernel
theorem dX5_watch_8 : decode cX5_watch 8 = .ok (.invokestatic 79, 3) := by decide +kernel
theorem dX5_watch_11 : decode cX5_watch 11 = .ok (.ifCond .ne 6, 3) := by decide +kernel
theorem dX5_watch_14 : decode cX5_watch 14 = .ok (.ldc 88, 2) := by decide +kernel
theorem dX5_watch_16 : decode cX5_watch 16 = .ok (.ireturn, 1) := by decide +kernel
theorem dX5_watch_17 : decode cX5_watch 17 = .ok (.iload_n 2, 1) := by decide +kernel
theorem dX5_watch_18 : decode cX5_watch 18 = .ok (.iconst 1, 1) := by decide +kernel
theorem dX5_watch_19 : decode cX5_watch 19 = .ok (.sipush 999, 3) := by decide +kernel
theorem dX5_watch_22 : decode cX5_watch 22 = .ok (.invokestatic 79, 3) := by decide +kernel
theorem dX5_watch_25 : decode cX5_watch 25 = .ok (.ifCond .eq 37, 3) := by decide +kernel
theorem dX5_watch_28 : decode cX5_watch 28 = .ok (.iload_n 3, 1) := by decide +kernel
theorem dX5_watch_29 : decode cX5_watch 29 = .ok (.iconst 1, 1) := by decide +kernel
theorem dX5_watch_30 : decode cX5_watch 30 = .ok (.sipush 999, 3) := by decide +kernel
theorem dX5_watch_33 : decode cX5_watch 33 = .ok (.invokestatic 79, 3) := by decide +kernel
theorem dX5_watch_36 : decode cX5_watch 36 = .ok (.ifCond .eq 26, 3) := by decide +kernel
theorem dX5_watch_39 : decode cX5_watch 39 = .ok (.iload 4, 2) := by decide +kernel
theorem dX5_watch_41 : decode cX5_watch 41 = .ok (.iconst 1, 1) := by decide +kernel
theorem dX5_watch_42 : decode cX5_watch 42 = .ok (.bipush 100, 2) := by decide +kernel
theorem dX5_watch_44 : decode cX5_watch 44 = .ok (.invokestatic 79, 3) := by decide +kernel
theorem dX5_watch_47 : decode cX5_watch 47 = .ok (.ifCond .eq 15, 3) := by decide +kernel
theorem dX5_watch_50 : decode cX5_watch 50 = .ok (.iload 5, 2) := by decide +kernel
theorem dX5_watch_52 : decode cX5_watch 52 = .ok (.iconst 1, 1) := by decide +kernel
theorem dX5_watch_53 : decode cX5_watch 53 = .ok (.sipush 1000, 3) := by decide +kernel
theorem dX5_watch_56 : decode cX5_watch 56 = .ok (.invokestatic 79, 3) := by decide +kernel
theorem dX5_watch_59 : decode cX5_watch 59 = .ok (.ifCond .ne 6, 3) := by decide +kernel
theorem dX5_watch_62 : decode cX5_watch 62 = .ok (.ldc 83, 2) := by decide +kernel
theorem dX5_watch_64 : decode cX5_watch 64 = .ok (.ireturn, 1) := by decide +kernel
theorem dX5_watch_65 : decode cX5_watch 65 = .ok (.aload_n 0, 1) := by decide +kernel
theorem dX5_watch_66 : decode cX5_watch 66 = .ok (.iload_n 1, 1) := by decide +kernel
theorem dX5_watch_67 : decode cX5_watch 67 = .ok (.iconst 0, 1) := by decide +kernel
theorem dX5_watch_68 : decode cX5_watch 68 = .ok (.iload_n 2, 1) := by decide +kernel
theorem dX5_watch_69 : decode cX5_watch 69 = .ok (.iload_n 2, 1) := by decide +kernel
theorem dX5_watch_70 : decode cX5_watch 70 = .ok (.iload_n 2, 1) := by decide +kernel
theorem dX5_watch_71 : decode cX5_watch 71 = .ok (.invokevirtual 148, 3) := by decide +kernel
theorem dX5_watch_74 : decode cX5_watch 74 = .ok (.aload_n 0, 1) := by decide +kernel
theorem dX5_watch_75 : decode cX5_watch 75 = .ok (.getfield 130, 3) := by decide +kernel
theorem dX5_watch_78 : decode cX5_watch 78 = .ok (.ifCond .ne 6, 3) := by decide +kernel
theorem dX5_watch_81 : decode cX5_watch 81 = .ok (.ldc 165, 2) := by decide +kernel
theorem dX5_watch_83 : decode cX5_watch 83 = .ok (.ireturn, 1) := by decide +kernel
theorem dX5_watch_84 : decode cX5_watch 84 = .ok (.aload_n 0, 1) := by decide +kernel
theorem dX5_watch_85 : decode cX5_watch 85 = .ok (.iconst 0, 1) := by decide +kernel
theorem dX5_watch_86 : decode cX5_watch 86 = .ok (.putfield 166, 3) := by decide +kernel
theorem dX5_watch_89 : decode cX5_watch 89 = .ok (.aload_n 0, 1) := by decide +kernel
theorem dX5_watch_90 : decode cX5_watch 90 = .ok (.iconst 0, 1) := by decide +kernel
theorem dX5_watch_91 : decode cX5_watch 91 = .ok (.putfield 169, 3) := by decide +kernel
theorem dX5_watch_94 : decode cX5_watch 94 = .ok (.iconst 0, 1) := by decide +kernel
theorem dX5_watch_95 : decode cX5_watch 95 = .ok (.istore 6, 2) := by decide +kernel
theorem dX5_watch_97 : decode cX5_watch 97 = .ok (.iconst 0, 1) := by decide +kernel
theorem dX5_watch_98 : decode cX5_watch 98 = .ok (.istore 7, 2) := by decide +kernel
theorem dX5_watch_100 : decode cX5_watch 100 = .ok (.iconst 0, 1) := by decide +kernel
theorem dX5_watch_101 : decode cX5_watch 101 = .ok (.istore 8, 2) := by decide +kernel
theorem dX5_watch_103 : decode cX5_watch 103 = .ok (.iload_n 2, 1) := by decide +kernel
theorem dX5_watch_104 : decode cX5_watch 104 = .ok (.istore 9, 2) := by decide +kernel
theorem dX5_watch_106 : decode cX5_watch 106 = .ok (.iload 9, 2) := by decide +kernel
theorem dX5_watch_108 : decode cX5_watch 108 = .ok (.sipush 1000, 3) := by decide +kernel
theorem dX5_watch_111 : decode cX5_watch 111 = .ok (.if_icmp .ge 223, 3) := by decide +kernel
theorem dX5_watch_114 : decode cX5_watch 114 = .ok (.aload_n 0, 1) := by decide +kernel
theorem dX5_watch_115 : decode cX5_watch 115 = .ok (.getfield 166, 3) := by decide +kernel
theorem dX5_watch_118 : decode cX5_watch 118 = .ok (.bipush 100, 2) := by decide +kernel
theorem dX5_watch_120 : decode cX5_watch 120 = .ok (.if_icmp .ge 214, 3) := by decide +kernel
theorem dX5_watch_123 : decode cX5_watch 123 = .ok (.iload 9, 2) := by decide +kernel
theorem dX5_watch_125 : decode cX5_watch 125 = .ok (.iload_n 3, 1) := by decide +kernel
theorem dX5_watch_126 : decode cX5_watch 126 = .ok (.iadd, 1) := by decide +kernel
theorem dX5_watch_127 : decode cX5_watch 127 = .ok (.sipush 1000, 3) := by decide +kernel
theorem dX5_watch_130 : decode cX5_watch 130 = .ok (.if_icmp .le 9, 3) := by decide +kernel
theorem dX5_watch_133 : decode cX5_watch 133 = .ok (.sipush 1000, 3) := by decide +kernel
theorem dX5_watch_136 : decode cX5_watch 136 = .ok (.goto 7, 3) := by decide +kernel
theorem dX5_watch_139 : decode cX5_watch 139 = .ok (.iload 9, 2) := by decide +kernel
theorem dX5_watch_141 : decode cX5_watch 141 = .ok (.iload_n 3, 1) := by decide +kernel
theorem dX5_watch_142 : decode cX5_watch 142 = .ok (.iadd, 1) := by decide +kernel
theorem dX5_watch_143 : decode cX5_watch 143 = .ok (.istore 10, 2) := by decide +kernel
theorem dX5_watch_145 : decode cX5_watch 145 = .ok (.aload_n 0, 1) := by decide +kernel
theorem dX5_watch_146 : decode cX5_watch 146 = .ok (.iload_n 1, 1) := by decide +kernel
theorem dX5_watch_147 : decode cX5_watch 147 = .ok (.iconst 0, 1) := by decide +kernel
theorem dX5_watch_148 : decode cX5_watch 148 = .ok (.iload_n 2, 1) := by decide +kernel
theorem dX5_watch_149 : decode cX5_watch 149 = .ok (.iload 9, 2) := by decide +kernel
theorem dX5_watch_151 : decode cX5_watch 151 = .ok (.iload 10, 2) := by decide +kernel
theorem dX5_watch_153 : decode cX5_watch 153 = .ok (.invokevirtual 148, 3) := by decide +kernel
theorem dX5_watch_156 : decode cX5_watch 156 = .ok (.aload_n 0, 1) := by decide +kernel
theorem dX5_watch_157 : decode cX5_watch 157 = .ok (.invokevirtual 152, 3) := by decide +kernel
theorem dX5_watch_160 : decode cX5_watch 160 = .ok (.istore 11, 2) := by decide +kernel
theorem dX5_watch_162 : decode cX5_watch 162 = .ok (.iload 11, 2) := by decide +kernel
theorem dX5_watch_164 : decode cX5_watch 164 = .ok (.ifCond .eq 27, 3) := by decide +kernel
theorem dX5_watch_167 : decode cX5_watch 167 = .ok (.ldc2_w 172, 3) := by decide +kernel
theorem dX5_watch_170 : decode cX5_watch 170 = .ok (.aload_n 0, 1) := by decide +kernel
theorem dX5_watch_171 : decode cX5_watch 171 = .ok (.getfield 136, 3) := by decide +kernel
theorem dX5_watch_174 : decode cX5_watch 174 = .ok (.lmul, 1) := by decide +kernel
theorem dX5_watch_175 : decode cX5_watch 175 = .ok (.iload 5, 2) := by decide +kernel
theorem dX5_watch_177 : decode cX5_watch 177 = .ok (.i2l, 1) := by decide +kernel
theorem dX5_watch_178 : decode cX5_watch 178 = .ok (.aload_n 0, 1) := by decide +kernel
theorem dX5_watch_179 : decode cX5_watch 179 = .ok (.getfield 142, 3) := by decide +kernel
theorem dX5_watch_182 : decode cX5_watch 182 = .ok (.lmul, 1) := by decide +kernel
theorem dX5_watch_183 : decode cX5_watch 183 = .ok (.lcmp, 1) := by decide +kernel
theorem dX5_watch_184 : decode cX5_watch 184 = .ok (.ifCond .lt 7, 3) := by decide +kernel
theorem dX5_watch_187 : decode cX5_watch 187 = .ok (.iconst 1, 1) := by decide +kernel
theorem dX5_watch_188 : decode cX5_watch 188 = .ok (.goto 4, 3) := by decide +kernel
theorem dX5_watch_191 : decode cX5_watch 191 = .ok (.iconst 0, 1) := by decide +kernel
theorem dX5_watch_192 : decode cX5_watch 192 = .ok (.istore 12, 2) := by decide +kernel
theorem dX5_watch_194 : decode cX5_watch 194 = .ok (.iload 12, 2) := by decide +kernel
theorem dX5_watch_196 : decode cX5_watch 196 = .ok (.ifCond .eq 31, 3) := by decide +kernel
theorem dX5_watch_199 : decode cX5_watch 199 = .ok (.aload_n 0, 1) := by decide +kernel
theorem dX5_watch_200 : decode cX5_watch 200 = .ok (.dup, 1) := by decide +kernel
theorem dX5_watch_201 : decode cX5_watch 201 = .ok (.getfield 169, 3) := by decide +kernel
theorem dX5_watch_204 : decode cX5_watch 204 = .ok (.iload 6, 2) := by decide +kernel
theorem dX5_watch_206 : decode cX5_watch 206 = .ok (.ifCond .eq 7, 3) := by decide +kernel
theorem dX5_watch_209 : decode cX5_watch 209 = .ok (.iconst 0, 1) := by decide +kernel
theorem dX5_watch_210 : decode cX5_watch 210 = .ok (.goto 4, 3) := by decide +kernel
theorem dX5_watch_213 : decode cX5_watch 213 = .ok (.iconst 1, 1) := by decide +kernel
theorem dX5_watch_214 : decode cX5_watch 214 = .ok (.iadd, 1) := by decide +kernel
theorem dX5_watch_215 : decode cX5_watch 215 = .ok (.putfield 169, 3) := by decide +kernel
theorem dX5_watch_218 : decode cX5_watch 218 = .ok (.iconst 1, 1) := by decide +kernel
theorem dX5_watch_219 : decode cX5_watch 219 = .ok (.istore 6, 2) := by decide +kernel
theorem dX5_watch_221 : decode cX5_watch 221 = .ok (.iconst 0, 1) := by decide +kernel
theorem dX5_watch_222 : decode cX5_watch 222 = .ok (.istore 7, 2) := by decide +kernel
theorem dX5_watch_224 : decode cX5_watch 224 = .ok (.goto 30, 3) := by decide +kernel
theorem dX5_watch_227 : decode cX5_watch 227 = .ok (.iload 11, 2) := by decide +kernel
theorem dX5_watch_229 : decode cX5_watch 229 = .ok (.ifCond .eq 25, 3) := by decide +kernel
theorem dX5_watch_232 : decode cX5_watch 232 = .ok (.iload 6, 2) := by decide +kernel
theorem dX5_watch_234 : decode cX5_watch 234 = .ok (.ifCond .eq 20, 3) := by decide +kernel
theorem dX5_watch_237 : decode cX5_watch 237 = .ok (.iinc 7 1, 3) := by decide +kernel
theorem dX5_watch_240 : decode cX5_watch 240 = .ok (.iload 7, 2) := by decide +kernel
theorem dX5_watch_242 : decode cX5_watch 242 = .ok (.iload 4, 2) := by decide +kernel
theorem dX5_watch_244 : decode cX5_watch 244 = .ok (.if_icmp .ge 7, 3) := by decide +kernel
theorem dX5_watch_247 : decode cX5_watch 247 = .ok (.iconst 1, 1) := by decide +kernel
theorem dX5_watch_248 : decode cX5_watch 248 = .ok (.goto 4, 3) := by decide +kernel
theorem dX5_watch_251 : decode cX5_watch 251 = .ok (.iconst 0, 1) := by decide +kernel
theorem dX5_watch_252 : decode cX5_watch 252 = .ok (.istore 6, 2) := by decide +kernel
theorem dX5_watch_254 : decode cX5_watch 254 = .ok (.aload_n 0, 1) := by decide +kernel
theorem dX5_watch_255 : decode cX5_watch 255 = .ok (.getfield 63, 3) := by decide +kernel
theorem dX5_watch_258 : decode cX5_watch 258 = .ok (.aload_n 0, 1) := by decide +kernel
theorem dX5_watch_259 : decode cX5_watch 259 = .ok (.getfield 166, 3) := by decide +kernel
theorem dX5_watch_262 : decode cX5_watch 262 = .ok (.iload 6, 2) := by decide +kernel
theorem dX5_watch_264 : decode cX5_watch 264 = .ok (.bastore, 1) := by decide +kernel
theorem dX5_watch_265 : decode cX5_watch 265 = .ok (.aload_n 0, 1) := by decide +kernel
theorem dX5_watch_266 : decode cX5_watch 266 = .ok (.getfield 66, 3) := by decide +kernel
theorem dX5_watch_269 : decode cX5_watch 269 = .ok (.aload_n 0, 1) := by decide +kernel
theorem dX5_watch_270 : decode cX5_watch 270 = .ok (.getfield 166, 3) := by decide +kernel
theorem dX5_watch_273 : decode cX5_watch 273 = .ok (.iload 12, 2) := by decide +kernel
theorem dX5_watch_275 : decode cX5_watch 275 = .ok (.bastore, 1) := by decide +kernel
theorem dX5_watch_276 : decode cX5_watch 276 = .ok (.aload_n 0, 1) := by decide +kernel
theorem dX5_watch_277 : decode cX5_watch 277 = .ok (.getfield 69, 3) := by decide +kernel
theorem dX5_watch_280 : decode cX5_watch 280 = .ok (.aload_n 0, 1) := by decide +kernel
theorem dX5_watch_281 : decode cX5_watch 281 = .ok (.getfield 166, 3) := by decide +kernel
theorem dX5_watch_284 : decode cX5_watch 284 = .ok (.aload_n 0, 1) := by decide +kernel
theorem dX5_watch_285 : decode cX5_watch 285 = .ok (.getfield 133, 3) := by decide +kernel
theorem dX5_watch_288 : decode cX5_watch 288 = .ok (.iastore, 1) := by decide +kernel
theorem dX5_watch_289 : decode cX5_watch 289 = .ok (.aload_n 0, 1) := by decide +kernel
theorem dX5_watch_290 : decode cX5_watch 290 = .ok (.getfield 72, 3) := by decide +kernel
theorem dX5_watch_293 : decode cX5_watch 293 = .ok (.aload_n 0, 1) := by decide +kernel
theorem dX5_watch_294 : decode cX5_watch 294 = .ok (.getfield 166, 3) := by decide +kernel
theorem dX5_watch_297 : decode cX5_watch 297 = .ok (.iload 9, 2) := by decide +kernel
theorem dX5_watch_299 : decode cX5_watch 299 = .ok (.iastore, 1) := by decide +kernel
theorem dX5_watch_300 : decode cX5_watch 300 = .ok (.iload 8, 2) := by decide +kernel
theorem dX5_watch_302 : decode cX5_watch 302 = .ok (.iload 6, 2) := by decide +kernel
theorem dX5_watch_304 : decode cX5_watch 304 = .ok (.ifCond .eq 7, 3) := by decide +kernel
theorem dX5_watch_307 : decode cX5_watch 307 = .ok (.iconst 1, 1) := by decide +kernel
theorem dX5_watch_308 : decode cX5_watch 308 = .ok (.goto 4, 3) := by decide +kernel
theorem dX5_watch_311 : decode cX5_watch 311 = .ok (.iconst 0, 1) := by decide +kernel
theorem dX5_watch_312 : decode cX5_watch 312 = .ok (.iadd, 1) := by decide +kernel
theorem dX5_watch_313 : decode cX5_watch 313 = .ok (.istore 8, 2) := by decide +kernel
theorem dX5_watch_315 : decode cX5_watch 315 = .ok (.aload_n 0, 1) := by decide +kernel
theorem dX5_watch_316 : decode cX5_watch 316 = .ok (.dup, 1) := by decide +kernel
theorem dX5_watch_317 : decode cX5_watch 317 = .ok (.getfield 166, 3) := by decide +kernel
theorem dX5_watch_320 : decode cX5_watch 320 = .ok (.iconst 1, 1) := by decide +kernel
theorem dX5_watch_321 : decode cX5_watch 321 = .ok (.iadd, 1) := by decide +kernel
theorem dX5_watch_322 : decode cX5_watch 322 = .ok (.putfield 166, 3) := by decide +kernel
theorem dX5_watch_325 : decode cX5_watch 325 = .ok (.iload 9, 2) := by decide +kernel
theorem dX5_watch_327 : decode cX5_watch 327 = .ok (.iload_n 3, 1) := by decide +kernel
theorem dX5_watch_328 : decode cX5_watch 328 = .ok (.iadd, 1) := by decide +kernel
theorem dX5_watch_329 : decode cX5_watch 329 = .ok (.istore 9, 2) := by decide +kernel
theorem dX5_watch_331 : decode cX5_watch 331 = .ok (.goto (-225), 3) := by decide +kernel
theorem dX5_watch_334 : decode cX5_watch 334 = .ok (.iload 8, 2) := by decide +kernel
theorem dX5_watch_336 : decode cX5_watch 336 = .ok (.ireturn, 1) := by decide +kernel
set_option maxRecDepth 20000 in
theorem ggX5_step_X5_in : GoodIn wsX5_step wsX5_in := goodIn_r _ [11] (by decide +kernel) (by decide +kernel)
set_option maxRecDepth 20000 in
theorem gX5_step_X5_in : GoodIn wsX5_step (va_wsS RX5 79 yX5_in wsX5_in) := goodIn_app (goodIn_of _ (by decide +kernel)) ggX5_step_X5_in
theorem dX5_step_0 : decode cX5_step 0 = .ok (.aload_n 0, 1) := by decide +kernel
theorem dX5_step_1 : decode cX5_step 1 = .ok (.iconst 0, 1) := by decide +kernel
theorem dX5_step_2 : decode cX5_step 2 = .ok (.putfield 75, 3) := by decide +kernel
theorem dX5_step_5 : decode cX5_step 5 = .ok (.iload_n 1, 1) := by decide +kernel
theorem dX5_step_6 : decode cX5_step 6 = .ok (.iconst 0, 1) := by decide +kernel
theorem dX5_step_7 : decode cX5_step 7 = .ok (.aload_n 0, 1) := by decide +kernel
theorem dX5_step_8 : decode cX5_step 8 = .ok (.getfield 166, 3) := by decide +kernel
theorem dX5_step_11 : decode cX5_step 11 = .ok (.iconst 1, 1) := by decide +kernel
theorem dX5_step_12 : decode cX5_step 12 = .ok (.isub, 1) := by decide +kernel
theorem dX5_step_13 : decode cX5_step 13 = .ok (.invokestatic 79, 3) := by decide +kernel
theorem dX5_step_16 : decode cX5_step 16 = .ok (.ifCond .ne 6, 3) := by decide +kernel
theorem dX5_step_19 : decode cX5_step 19 = .ok (.ldc 88, 2) := by decide +kernel
theorem dX5_step_21 : decode cX5_step 21 = .ok (.ireturn, 1) := by decide +kernel
theorem dX5_step_22 : decode cX5_step 22 = .ok (.iload_n 2, 1) := by decide +kernel
theorem dX5_step_23 : decode cX5_step 23 = .ok (.tableswitch 73 0 3 #[29, 44, 59, 66], 29) := by decide +kernel
theorem dX5_step_52 : decode cX5_step 52 = .ok (.aload_n 0, 1) := by decide +kernel
theorem dX5_step_53 : decode cX5_step 53 = .ok (.getfield 63, 3) := by decide +kernel
theorem dX5_step_56 : decode cX5_step 56 = .ok (.iload_n 1, 1) := by decide +kernel
theorem dX5_step_57 : decode cX5_step 57 = .ok (.baload, 1) := by decide +kernel
theorem dX5_step_58 : decode cX5_step 58 = .ok (.ifCond .eq 7, 3) := by decide +kernel
theorem dX5_step_61 : decode cX5_step 61 = .ok (.iconst 1, 1) := by decide +kernel
theorem dX5_step_62 : decode cX5_step 62 = .ok (.goto 4, 3) := by decide +kernel
theorem dX5_step_65 : decode cX5_step 65 = .ok (.iconst 0, 1) := by decide +kernel
theorem dX5_step_66 : decode cX5_step 66 = .ok (.ireturn, 1) := by decide +kernel
theorem dX5_step_67 : decode cX5_step 67 = .ok (.aload_n 0, 1) := by decide +kernel
theorem dX5_step_68 : decode cX5_step 68 = .ok (.getfield 66, 3) := by decide +kernel
theorem dX5_step_71 : decode cX5_step 71 = .ok (.iload_n 1, 1) := by decide +kernel
theorem dX5_step_72 : decode cX5_step 72 = .ok (.baload, 1) := by decide +kernel
theorem dX5_step_73 : decode cX5_step 73 = .ok (.ifCond .eq 7, 3) := by decide +kernel
theorem dX5_step_76 : decode cX5_step 76 = .ok (.iconst 1, 1) := by decide +kernel
theorem dX5_step_77 : decode cX5_step 77 = .ok (.goto 4, 3) := by decide +kernel
theorem dX5_step_80 : decode cX5_step 80 = .ok (.iconst 0, 1) := by decide +kernel
theorem dX5_step_81 : decode cX5_step 81 = .ok (.ireturn, 1) := by decide +kernel
theorem dX5_step_82 : decode cX5_step 82 = .ok (.aload_n 0, 1) := by decide +kernel
theorem dX5_step_83 : decode cX5_step 83 = .ok (.getfield 69, 3) := by decide +kernel
theorem dX5_step_86 : decode cX5_step 86 = .ok (.iload_n 1, 1) := by decide +kernel
theorem dX5_step_87 : decode cX5_step 87 = .ok (.iaload, 1) := by decide +kernel
theorem dX5_step_88 : decode cX5_step 88 = .ok (.ireturn, 1) := by decide +kernel
theorem dX5_step_89 : decode cX5_step 89 = .ok (.aload_n 0, 1) := by decide +kernel
theorem dX5_step_90 : decode cX5_step 90 = .ok (.getfield 72, 3) := by decide +kernel
theorem dX5_step_93 : decode cX5_step 93 = .ok (.iload_n 1, 1) := by decide +kernel
theorem dX5_step_94 : decode cX5_step 94 = .ok (.iaload, 1) := by decide +kernel
theorem dX5_step_95 : decode cX5_step 95 = .ok (.ireturn, 1) := by decide +kernel
theorem dX5_step_96 : decode cX5_step 96 = .ok (.ldc 88, 2) := by decide +kernel
theorem dX5_step_98 : decode cX5_step 98 = .ok (.ireturn, 1) := by decide +kernel
set_option maxRecDepth 20000 in
theorem ggX5_count_X5_hitsOf : GoodIn wsX5_count wsX5_hitsOf := goodIn_r _ [13, 2, 14, 15, 16, 17, 18, 19, 20, 21, 22, 23, 24, 25, 26, 27, 28, 29, 30, 31, 32, 33, 34, 35, 36, 37, 38, 39, 40, 41, 42, 43, 44] (by decide +kernel) (by decide +kernel)
set_option maxRecDepth 20000 in
theorem gX5_count_X5_hitsOf : GoodIn wsX5_count (wsV RX5 97 RX5 yX5_hitsOf wsX5_hitsOf) := goodIn_app (goodIn_of _ (by decide +kernel)) ggX5_count_X5_hitsOf
theorem dX5_count_0 : decode cX5_count 0 = .ok (.aload_n 0, 1) := by decide +kernel
theorem dX5_count_1 : decode cX5_count 1 = .ok (.iconst 0, 1) := by decide +kernel
theorem dX5_count_2 : decode cX5_count 2 = .ok (.putfield 75, 3) := by decide +kernel
theorem dX5_count_5 : decode cX5_count 5 = .ok (.iconst 0, 1) := by decide +kernel
theorem dX5_count_6 : decode cX5_count 6 = .ok (.istore_n 2, 1) := by decide +kernel
theorem dX5_count_7 : decode cX5_count 7 = .ok (.iload_n 1, 1) := by decide +kernel
theorem dX5_count_8 : decode cX5_count 8 = .ok (.tableswitch 145 0 5 #[40, 45, 53, 58, 63, 68], 40) := by decide +kernel
theorem dX5_count_48 : decode cX5_count 48 = .ok (.aload_n 0, 1) := by decide +kernel
theorem dX5_count_49 : decode cX5_count 49 = .ok (.getfield 84, 3) := by decide +kernel
theorem dX5_count_52 : decode cX5_count 52 = .ok (.ireturn, 1) := by decide +kernel
theorem dX5_count_53 : decode cX5_count 53 = .ok (.aload_n 0, 1) := by decide +kernel
theorem dX5_count_54 : decode cX5_count 54 = .ok (.ldc2_w 174, 3) := by decide +kernel
theorem dX5_count_57 : decode cX5_count 57 = .ok (.invokevirtual 97, 3) := by decide +kernel
theorem dX5_count_60 : decode cX5_count 60 = .ok (.ireturn, 1) := by decide +kernel
theorem dX5_count_61 : decode cX5_count 61 = .ok (.aload_n 0, 1) := by decide +kernel
theorem dX5_count_62 : decode cX5_count 62 = .ok (.getfield 100, 3) := by decide +kernel
theorem dX5_count_65 : decode cX5_count 65 = .ok (.ireturn, 1) := by decide +kernel
theorem dX5_count_66 : decode cX5_count 66 = .ok (.aload_n 0, 1) := by decide +kernel
theorem dX5_count_67 : decode cX5_count 67 = .ok (.getfield 166, 3) := by decide +kernel
theorem dX5_count_70 : decode cX5_count 70 = .ok (.ireturn, 1) := by decide +kernel
theorem dX5_count_71 : decode cX5_count 71 = .ok (.aload_n 0, 1) := by decide +kernel
theorem dX5_count_72 : decode cX5_count 72 = .ok (.getfield 169, 3) := by decide +kernel
theorem dX5_count_75 : decode cX5_count 75 = .ok (.ireturn, 1) := by decide +kernel
theorem dX5_count_76 : decode cX5_count 76 = .ok (.iconst 0, 1) := by decide +kernel
theorem dX5_count_77 : decode cX5_count 77 = .ok (.istore_n 3, 1) := by decide +kernel
theorem dX5_count_78 : decode cX5_count 78 = .ok (.iload_n 3, 1) := by decide +kernel
theorem dX5_count_79 : decode cX5_count 79 = .ok (.aload_n 0, 1) := by decide +kernel
theorem dX5_count_80 : decode cX5_count 80 = .ok (.getfield 84, 3) := by decide +kernel
theorem dX5_count_83 : decode cX5_count 83 = .ok (.if_icmp .ge 68, 3) := by decide +kernel
theorem dX5_count_86 : decode cX5_count 86 = .ok (.iconst 0, 1) := by decide +kernel
theorem dX5_count_87 : decode cX5_count 87 = .ok (.istore 4, 2) := by decide +kernel
theorem dX5_count_89 : decode cX5_count 89 = .ok (.iconst 0, 1) := by decide +kernel
theorem dX5_count_90 : decode cX5_count 90 = .ok (.istore 5, 2) := by decide +kernel
theorem dX5_count_92 : decode cX5_count 92 = .ok (.iload 5, 2) := by decide +kernel
theorem dX5_count_94 : decode cX5_count 94 = .ok (.iconst 5, 1) := by decide +kernel
theorem dX5_count_95 : decode cX5_count 95 = .ok (.if_icmp .ge 37, 3) := by decide +kernel
theorem dX5_count_98 : decode cX5_count 98 = .ok (.iload 4, 2) := by decide +kernel
theorem dX5_count_100 : decode cX5_count 100 = .ok (.ifCond .ne 19, 3) := by decide +kernel
theorem dX5_count_103 : decode cX5_count 103 = .ok (.aload_n 0, 1) := by decide +kernel
theorem dX5_count_104 : decode cX5_count 104 = .ok (.getfield 17, 3) := by decide +kernel
theorem dX5_count_107 : decode cX5_count 107 = .ok (.iconst 5, 1) := by decide +kernel
theorem dX5_count_108 : decode cX5_count 108 = .ok (.iload_n 3, 1) := by decide +kernel
theorem dX5_count_109 : decode cX5_count 109 = .ok (.imul, 1) := by decide +kernel
theorem dX5_count_110 : decode cX5_count 110 = .ok (.iload 5, 2) := by decide +kernel
theorem dX5_count_112 : decode cX5_count 112 = .ok (.iadd, 1) := by decide +kernel
theorem dX5_count_113 : decode cX5_count 113 = .ok (.iaload, 1) := by decide +kernel
theorem dX5_count_114 : decode cX5_count 114 = .ok (.bipush 10, 2) := by decide +kernel
theorem dX5_count_116 : decode cX5_count 116 = .ok (.if_icmp .ne 7, 3) := by decide +kernel
theorem dX5_count_119 : decode cX5_count 119 = .ok (.iconst 1, 1) := by decide +kernel
theorem dX5_count_120 : decode cX5_count 120 = .ok (.goto 4, 3) := by decide +kernel
theorem dX5_count_123 : decode cX5_count 123 = .ok (.iconst 0, 1) := by decide +kernel
theorem dX5_count_124 : decode cX5_count 124 = .ok (.istore 4, 2) := by decide +kernel
theorem dX5_count_126 : decode cX5_count 126 = .ok (.iinc 5 1, 3) := by decide +kernel
theorem dX5_count_129 : decode cX5_count 129 = .ok (.goto (-37), 3) := by decide +kernel
theorem dX5_count_132 : decode cX5_count 132 = .ok (.iload_n 2, 1) := by decide +kernel
theorem dX5_count_133 : decode cX5_count 133 = .ok (.iload 4, 2) := by decide +kernel
theorem dX5_count_135 : decode cX5_count 135 = .ok (.ifCond .eq 7, 3) := by decide +kernel
theorem dX5_count_138 : decode cX5_count 138 = .ok (.iconst 1, 1) := by decide +kernel
theorem dX5_count_139 : decode cX5_count 139 = .ok (.goto 4, 3) := by decide +kernel
theorem dX5_count_142 : decode cX5_count 142 = .ok (.iconst 0, 1) := by decide +kernel
theorem dX5_count_143 : decode cX5_count 143 = .ok (.iadd, 1) := by decide +kernel
theorem dX5_count_144 : decode cX5_count 144 = .ok (.istore_n 2, 1) := by decide +kernel
theorem dX5_count_145 : decode cX5_count 145 = .ok (.iinc 3 1, 3) := by decide +kernel
theorem dX5_count_148 : decode cX5_count 148 = .ok (.goto (-70), 3) := by decide +kernel
theorem dX5_count_151 : decode cX5_count 151 = .ok (.iload_n 2, 1) := by decide +kernel
theorem dX5_count_152 : decode cX5_count 152 = .ok (.ireturn, 1) := by decide +kernel
theorem dX5_count_153 : decode cX5_count 153 = .ok (.ldc 88, 2) := by decide +kernel
theorem dX5_count_155 : decode cX5_count 155 = .ok (.ireturn, 1) := by decide +kernel
end
section
/-! ===== the nest words, carried from the start; readers and writers; calls of them ===== -/
def nwM : List (String × Nat × MethodName × String) := [(RX4, 9, yX2_init, "SliceDrift"), (RX4, 18, yX3_init, "SliceDrift"), (RX4, 25, yX1_init, "SliceDrift"), (RX4, 32, yX0_init, "SliceDrift"), (RX0, 61, yX4_driftBelow, "SliceDrift"), (RX1, 63, yX4_waysToChoose, "SliceDrift"), (RX2, 27, yX4_isWithin, "SliceDrift"), (RX2, 31, yX4_conditionOf, "SliceDrift"), (RX3, 30, yX4_isWithin, "SliceDrift"), (RX3, 54, yX4_columnOf, "SliceDrift"), (RX3, 58, yX4_conditionOf, "SliceDrift"), (RX3, 75, yX4_boundAbove, "SliceDrift"), (RX3, 78, yX4_boundBelow, "SliceDrift")]
def nwF : List (String × Nat × String × String × String × String) := [(RX4, 108, RX3, "hits", "J", "SliceDrift"), (RX4, 164, RX1, "firstRows", "I", "SliceDrift"), (RX4, 167, RX1, "secondRows", "I", "SliceDrift"), (RX4, 195, RX0, "size", "I", "SliceDrift"), (RX4, 196, RX0, "up", "[Z", "SliceDrift"), (RX4, 200, RX0, "off", "[Z", "SliceDrift"), (RX4, 203, RX0, "stepRows", "[I", "SliceDrift"), (RX4, 209, RX0, "begun", "I", "SliceDrift"), (RX4, 42, RX2, "size", "I", "SliceDrift"), (RX4, 63, RX2, "times", "[I", "SliceDrift"), (RX4, 67, RX2, "hits", "J", "SliceDrift"), (RX4, 83, RX3, "size", "I", "SliceDrift"), (RX4, 85, RX3, "firsts", "[I", "SliceDrift"), (RX4, 95, RX3, "seconds", "[I", "SliceDrift"), (RX4, 98, RX3, "members", "[J", "SliceDrift"), (RX3, 34, RX2, "hits", "J", "SliceDrift"), (RX3, 37, RX2, "having", "[J", "SliceDrift")]
def NW (U : State) : Prop := (∀ q ∈ nwM, va_Nw (.methodLinkNest q.1 q.2.1 q.2.2.1 q.2.2.2) U) ∧ ∀ q ∈ nwF, va_Nw (.fieldLinkNest q.1 q.2.1 q.2.2.1 q.2.2.2.1 q.2.2.2.2.1 q.2.2.2.2.2) U
theorem NW.warm {s U : State} (hW : s.WarmedH U.vm) (h : NW s) : NW U := ⟨fun q hq => va_Nw.warmM hW (h.1 q hq), fun q hq => va_Nw.warmF hW (h.2 q hq)⟩
theorem NW.same {u U : State} (e : u.vm = U.vm) (h : NW u) : NW U := ⟨fun q hq => va_Nw.same rfl e (h.1 q hq), fun q hq => va_Nw.same rfl e (h.2 q hq)⟩
theorem NW.m {U : State} (h : NW U) (k : Nat) {a : String} {i : Nat} {y : MethodName} {o : String} (hk : nwM[k]? = some (a, i, y, o)) : va_Nw (.methodLinkNest a i y o) U := h.1 _ (List.mem_of_getElem? hk)
theorem NW.f {U : State} (h : NW U) (k : Nat) {a : String} {i : Nat} {b n d o : String} (hk : nwF[k]? = some (a, i, b, n, d, o)) {args : Array Value} : (Cond.fieldLinkNest a i b n d o).before args U = true := va_Nw.use rfl (h.2 _ (List.mem_of_getElem? hk))
/-- what a reader starts from -/
def Rd (dd : va_G) (tys : List (ClassId × FieldType)) (ws : va_W) (U : State) : Prop := NW U ∧ va_P dd vwCl ws U.heap ∧ va_K dd vwCl tys U
/-- what a writer starts from -/
def Wr (dd : va_G) (tys : List (ClassId × FieldType)) (ws : va_W) (sz : Nat) (U : State) : Prop := U.heap.size = sz ∧ NW U ∧ va_P dd vwCl ws U.heap ∧ va_K dd vwCl tys U ∧ va_D (fun _ => True) ws
/-- the cells behind a writer -/
def WQ {S : Type} (dd : va_G) (ws : va_W) (sz : Nat) (wf : S → va_W) (u : S) (U : State) : Prop := va_P dd vwCl (wf u) U.heap ∧ va_D (va_A ws sz) (wf u)
theorem Rd.blind {As : List Value} {dd : va_G} {tys : List (ClassId × FieldType)} {ws : va_W} : FrameBlind (va_Pc As (Rd dd tys ws)) := by
  intro a U g mk q
  obtain ⟨q0, qN, qP, qK⟩ := q
  exact ⟨q0, NW.same (u := U) rfl qN, qP, va_K.moved (u := U) (U := U.calling g mk a) (Vm.Alike.refl U.vm) qK⟩
theorem Wr.blind {As : List Value} {dd : va_G} {tys : List (ClassId × FieldType)} {ws : va_W} {sz : Nat} : FrameBlind (va_Pc As (Wr dd tys ws sz)) := by
  intro a U g mk q
  obtain ⟨q0, q1, qN, qP, qK, qD⟩ := q
  exact ⟨q0, q1, NW.same (u := U) rfl qN, qP, va_K.moved (u := U) (U := U.calling g mk a) (Vm.Alike.refl U.vm) qK, qD⟩
/-- a reader's proof begins -/
theorem mkR {l : Launch} {y : MethodName} {wsy ws' : List Cond} {rm : Room} {As : List Value} {dd : va_G} {tys : List (ClassId × FieldType)} {ws : va_W} {Qc : Array Value → State → Outcome → State → Prop} {cc : ByteArray} {maxL : Nat} {ret : Option FieldType} {lv0 : List (Nat × Value)}
    (hy : plainName y.cls = true) (hw : wsy = .code y cc maxL ret :: ws') (hlv : (lg_sl As).length ≤ maxL) (hl0 : lv_args 0 As = lv0)
    (body : ∀ (p : Program) (e : Env) (s : State) (m : MethodId) (below : List Frame) (meth : Method) (c : Code) (ls : Array Slot), p.tables.exec = Jvm.exec → c.code = cc → meth.sig.returnType = ret → c.maxLocals = maxL → s.vm.findClass y.cls = some m.cls → meth.locks = false → (∀ w ∈ wsy, w.before As.toArray s = true) → NW s → va_P dd vwCl ws s.heap → va_K dd vwCl tys s → lv_has ls maxL lv0 →
      W p l e rm s m As.toArray below meth c s.heap [] 0 0 (MQ below Qc As.toArray s 0 0 (fun _ => False)) (F0 m 0 ls [])) : Met l y wsy rm (va_Pc As (Rd dd tys ws)) Qc 0 0 (fun _ => False) := by
  refine Met.ofW (cc := cc) (maxL := maxL) (ret := ret) hy hw ?_
  intro p e s m args below meth c s₁ B hml hv
  obtain ⟨rfl, hN, hP, hK⟩ := hv
  have hl := lv_entry As (n := maxL) hlv
  rw [lg_entry_eq]
  rw [hl0] at hl
  exact body p e s m below meth c _ B.exec B.bytes B.returns hml (findClass_of_methodNamed B.named) B.notSynchronized (atoms_spec (ws := wsy) B.pre) hN hP hK hl
/-- a writer's proof begins -/
theorem mkW {l : Launch} {y : MethodName} {wsy ws' : List Cond} {rm : Room} {As : List Value} {dd : va_G} {tys : List (ClassId × FieldType)} {ws : va_W} {sz : Nat} {Qc : (Nat → Prop) → Array Value → State → Outcome → State → Prop} {cc : ByteArray} {maxL mc ms : Nat} {ret : Option FieldType} {lv0 : List (Nat × Value)}
    (hy : plainName y.cls = true) (hw : wsy = .code y cc maxL ret :: ws') (hlv : (lg_sl As).length ≤ maxL) (hl0 : lv_args 0 As = lv0)
    (body : ∀ (p : Program) (e : Env) (s : State) (m : MethodId) (below : List Frame) (meth : Method) (c : Code) (ls : Array Slot) (H : Heap) (A : Nat → Prop), p.tables.exec = Jvm.exec → c.code = cc → meth.sig.returnType = ret → c.maxLocals = maxL → s.vm.findClass y.cls = some m.cls → meth.locks = false → (∀ w ∈ wsy, w.before As.toArray s = true) → (meth.name = y.name) → NW s → va_P dd vwCl ws H → va_K dd vwCl tys s → va_D A ws → va_S A s.heap H [] → (∀ q : Nat, s.heap.size ≤ q → A q) → (A = va_A ws sz) → lv_has ls maxL lv0 →
      W p l e rm s m As.toArray below meth c H [] 0 0 (MQ below (Qc A) As.toArray s mc ms A) (F0 m 0 ls [])) : Met l y wsy rm (va_Pc As (Wr dd tys ws sz)) (Qc (va_A ws sz)) mc ms (va_A ws sz) := by
  refine Met.ofW (cc := cc) (maxL := maxL) (ret := ret) hy hw ?_
  intro p e s m args below meth c s₁ B hml hv
  obtain ⟨rfl, hsz, hN, hP, hK, hD0⟩ := hv
  subst hsz
  have hl := lv_entry As (n := maxL) hlv
  rw [lg_entry_eq]
  rw [hl0] at hl
  exact body p e s m below meth c _ s.heap _ B.exec B.bytes B.returns hml (findClass_of_methodNamed B.named) B.notSynchronized (atoms_spec (ws := wsy) B.pre) (name_of_methodNamed B.named B.method).1 hN hP hK hD0.self va_S.rf (fun q h => Or.inr h) rfl hl
section CLR
variable {p : Program} {l : Launch} {e : Env} {R : Room} {s : State} {m : MethodId} {args : Array Value} {below : List Frame} {meth : Method} {c : Code} {H : Heap} {locs : List Loc} {cells slots : Nat} {Q : State → Prop}
variable {pc : Nat} {ls : Array Slot} {rest st0 : List Value}
theorem tpi {x y : Int32} (h : x = y) (k : W p l e R s m args below meth c H locs cells slots Q (F0 m pc ls (.int y :: rest))) : W p l e R s m args below meth c H locs cells slots Q (F0 m pc ls (.int x :: rest)) := h ▸ k
theorem tpl {x y : Int64} (h : x = y) (k : W p l e R s m args below meth c H locs cells slots Q (F0 m pc ls (.long y :: rest))) : W p l e R s m args below meth c H locs cells slots Q (F0 m pc ls (.long x :: rest)) := h ▸ k
theorem tpi2 {x y : Int32} {v : Value} (h : x = y) (k : W p l e R s m args below meth c H locs cells slots Q (F0 m pc ls (v :: .int y :: rest))) : W p l e R s m args below meth c H locs cells slots Q (F0 m pc ls (v :: .int x :: rest)) := h ▸ k
variable {y : MethodName} {bytes cc : ByteArray} {maxL nL n index : Nat} {ret : Option FieldType} {wsy wsy' Ts : List Cond} {rm : Room} {own host C : String} {b : Addr} {As : List Value} {dd : va_G} {tys : List (ClassId × FieldType)} {wc : va_W}
/-- a static reader, by a plain link -/
theorem clSi {post : Int32 → Prop} (S : CallFix p m c cc nL s args Ts own) (hM : Met l y wsy rm (va_Pc As (Rd dd tys wc)) (vp_Si post) 0 0 (fun _ => False)) (hG : GoodIn Ts (va_wsS own index y wsy)) (hw : wsy = Cond.code y bytes maxL ret :: wsy') (hrm : rm.cells = 0 ∧ rm.slots = 0)
    (hd : y.cls ≠ "java/lang/invoke/MethodHandle" ∧ y.cls ≠ "java/lang/invoke/VarHandle" ∧ (parseMethodDescriptor y.desc).map (fun d => d.parameters.length) = some n) (hR : rm.frames + 1 ≤ R.frames ∧ 8 + (maxL + 11) + rm.locals ≤ R.locals) (hN : NW s) (hK : va_K dd vwCl tys s) (hP : va_P dd vwCl wc H)
    (hn : As.length = n) (hsz : ls.size = nL) (hst : st0 = As.reverse ++ rest) (hW : (rest.map fun v => v.category).sum ≤ 8) (hdg : decode cc pc = .ok (.invokestatic index, 3)) (hf : cells ≤ R.cells ∧ slots ≤ R.slots)
    (kk : ∀ r : Int32, post r → W p l e R s m args below meth c H locs cells slots Q (F0 m (pc + 3) ls (.int r :: rest))) : W p l e R s m args below meth c H locs cells slots Q (F0 m pc ls st0) :=
  vp_callSi (W.runS (As := As) (rest := rest) S hM (va_cwS n S.2.2.2.2 hG hw hrm.1 hrm.2 hd hR) ⟨Rd.blind, fun U hU hW => ⟨rfl, hN.warm hW, by rw [hU]; exact hP, va_K.moved hW.alike hK⟩⟩ rfl hn hsz hst (lv_room hW) hdg hf) kk
theorem clSl {post : Int64 → Prop} (S : CallFix p m c cc nL s args Ts own) (hM : Met l y wsy rm (va_Pc As (Rd dd tys wc)) (vp_Sl post) 0 0 (fun _ => False)) (hG : GoodIn Ts (va_wsS own index y wsy)) (hw : wsy = Cond.code y bytes maxL ret :: wsy') (hrm : rm.cells = 0 ∧ rm.slots = 0)
    (hd : y.cls ≠ "java/lang/invoke/MethodHandle" ∧ y.cls ≠ "java/lang/invoke/VarHandle" ∧ (parseMethodDescriptor y.desc).map (fun d => d.parameters.length) = some n) (hR : rm.frames + 1 ≤ R.frames ∧ 8 + (maxL + 11) + rm.locals ≤ R.locals) (hN : NW s) (hK : va_K dd vwCl tys s) (hP : va_P dd vwCl wc H)
    (hn : As.length = n) (hsz : ls.size = nL) (hst : st0 = As.reverse ++ rest) (hW : (rest.map fun v => v.category).sum ≤ 8) (hdg : decode cc pc = .ok (.invokestatic index, 3)) (hf : cells ≤ R.cells ∧ slots ≤ R.slots)
    (kk : ∀ r : Int64, post r → W p l e R s m args below meth c H locs cells slots Q (F0 m (pc + 3) ls (.long r :: rest))) : W p l e R s m args below meth c H locs cells slots Q (F0 m pc ls st0) :=
  vp_callSl (W.runS (As := As) (rest := rest) S hM (va_cwS n S.2.2.2.2 hG hw hrm.1 hrm.2 hd hR) ⟨Rd.blind, fun U hU hW => ⟨rfl, hN.warm hW, by rw [hU]; exact hP, va_K.moved hW.alike hK⟩⟩ rfl hn hsz hst (lv_room hW) hdg hf) kk
/-- a static reader, a nest mate's private one -/
theorem clNi {post : Int32 → Prop} (S : CallFix p m c cc nL s args Ts own) (hM : Met l y wsy rm (va_Pc As (Rd dd tys wc)) (vp_Si post) 0 0 (fun _ => False)) (hG : GoodIn Ts wsy) (hl : va_Nw (.methodLinkNest own index y host) s) (hini : (Cond.initialized y.cls).before args s = true) (hstat : (Cond.static y).before args s = true) (hw : wsy = Cond.code y bytes maxL ret :: wsy') (hrm : rm.cells = 0 ∧ rm.slots = 0)
    (hd : y.cls ≠ "java/lang/invoke/MethodHandle" ∧ y.cls ≠ "java/lang/invoke/VarHandle" ∧ (parseMethodDescriptor y.desc).map (fun d => d.parameters.length) = some n) (hR : rm.frames + 1 ≤ R.frames ∧ 8 + (maxL + 11) + rm.locals ≤ R.locals) (hN : NW s) (hK : va_K dd vwCl tys s) (hP : va_P dd vwCl wc H)
    (hn : As.length = n) (hsz : ls.size = nL) (hst : st0 = As.reverse ++ rest) (hW : (rest.map fun v => v.category).sum ≤ 8) (hdg : decode cc pc = .ok (.invokestatic index, 3)) (hf : cells ≤ R.cells ∧ slots ≤ R.slots)
    (kk : ∀ r : Int32, post r → W p l e R s m args below meth c H locs cells slots Q (F0 m (pc + 3) ls (.int r :: rest))) : W p l e R s m args below meth c H locs cells slots Q (F0 m pc ls st0) :=
  vp_callSi (va_Run.run (va_runSN (As := As) (rest := rest) S hM ⟨va_cnB n S.2.2.2.2 hG hw hrm.1 hrm.2 hl hini hd hR, hstat, trivial⟩ ⟨Rd.blind, fun U hU hW => ⟨rfl, hN.warm hW, by rw [hU]; exact hP, va_K.moved hW.alike hK⟩⟩ rfl hn hsz hst (lv_room hW) hdg hf)) kk
/-- a reader of an object -/
theorem clVi {post : Int32 → Prop} {ci q0 : Nat} {vc : vw_C} {fs : List Value} (S : CallFix p m c cc nL s args Ts own) (hM : Met l y wsy rm (va_Pc (.ref b :: As) (Rd dd tys wc)) (vp_Si post) 0 0 (fun _ => False)) (hG : GoodIn Ts (wsV own index vc.1 y wsy)) (hc : vwCl[ci]? = some vc) (he : wc[q0]? = some (b, .inr (ci, fs))) (hw : wsy = Cond.code y bytes maxL ret :: wsy') (hrm : rm.cells = 0 ∧ rm.slots = 0)
    (hd : y.cls = vc.1 ∧ y.cls ≠ "java/lang/invoke/MethodHandle" ∧ y.cls ≠ "java/lang/invoke/VarHandle" ∧ (parseMethodDescriptor y.desc).map (fun d => d.parameters.length) = some n) (hR : rm.frames + 1 ≤ R.frames ∧ 8 + (maxL + 11) + rm.locals ≤ R.locals) (hN : NW s) (hK : va_K dd vwCl tys s) (hP : va_P dd vwCl wc H)
    (hn : As.length = n) (hsz : ls.size = nL) (hst : st0 = As.reverse ++ .ref b :: rest) (hW : (rest.map fun v => v.category).sum ≤ 8) (hdg : decode cc pc = .ok (.invokevirtual index, 3)) (hf : cells ≤ R.cells ∧ slots ≤ R.slots)
    (kk : ∀ r : Int32, post r → W p l e R s m args below meth c H locs cells slots Q (F0 m (pc + 3) ls (.int r :: rest))) : W p l e R s m args below meth c H locs cells slots Q (F0 m pc ls st0) :=
  vp_callSi (W.runV (As := As) (rest := rest) (b := b) S hM (cwV n S.2.2.2.2 hG hw hrm.1 hrm.2 hd hR) ⟨Rd.blind, va_recv hK hP hc he, fun U hU hW => ⟨rfl, hN.warm hW, by rw [hU]; exact hP, va_K.moved hW.alike hK⟩⟩ rfl hn hsz hst (lv_room hW) hdg hf) kk
theorem clVl {post : Int64 → Prop} {ci q0 : Nat} {vc : vw_C} {fs : List Value} (S : CallFix p m c cc nL s args Ts own) (hM : Met l y wsy rm (va_Pc (.ref b :: As) (Rd dd tys wc)) (vp_Sl post) 0 0 (fun _ => False)) (hG : GoodIn Ts (wsV own index vc.1 y wsy)) (hc : vwCl[ci]? = some vc) (he : wc[q0]? = some (b, .inr (ci, fs))) (hw : wsy = Cond.code y bytes maxL ret :: wsy') (hrm : rm.cells = 0 ∧ rm.slots = 0)
    (hd : y.cls = vc.1 ∧ y.cls ≠ "java/lang/invoke/MethodHandle" ∧ y.cls ≠ "java/lang/invoke/VarHandle" ∧ (parseMethodDescriptor y.desc).map (fun d => d.parameters.length) = some n) (hR : rm.frames + 1 ≤ R.frames ∧ 8 + (maxL + 11) + rm.locals ≤ R.locals) (hN : NW s) (hK : va_K dd vwCl tys s) (hP : va_P dd vwCl wc H)
    (hn : As.length = n) (hsz : ls.size = nL) (hst : st0 = As.reverse ++ .ref b :: rest) (hW : (rest.map fun v => v.category).sum ≤ 8) (hdg : decode cc pc = .ok (.invokevirtual index, 3)) (hf : cells ≤ R.cells ∧ slots ≤ R.slots)
    (kk : ∀ r : Int64, post r → W p l e R s m args below meth c H locs cells slots Q (F0 m (pc + 3) ls (.long r :: rest))) : W p l e R s m args below meth c H locs cells slots Q (F0 m pc ls st0) :=
  vp_callSl (W.runV (As := As) (rest := rest) (b := b) S hM (cwV n S.2.2.2.2 hG hw hrm.1 hrm.2 hd hR) ⟨Rd.blind, va_recv hK hP hc he, fun U hU hW => ⟨rfl, hN.warm hW, by rw [hU]; exact hP, va_K.moved hW.alike hK⟩⟩ rfl hn hsz hst (lv_room hW) hdg hf) kk
/-- readers end -/
theorem edI {post : Int32 → Prop} {v : Int32} (hexec : p.tables.exec = Jvm.exec) (hb : c.code = cc) (hr : meth.sig.returnType = some .int) (hlocks : meth.locks = false) (hdg : decode cc pc = .ok (.ireturn, 1)) (hq : post v) : W p l e R s m args below meth c s.heap [] 0 0 (MQ below (vp_Si post) args s 0 0 (fun _ => False)) (F0 m pc ls [.int v]) :=
  W.iret hexec hb hr (fun _ ht _ => ⟨v, rfl, hq, ht⟩) (fun _ h => nomatch h) hdg hlocks
theorem edZ {post : Int32 → Prop} {v : Int32} (hexec : p.tables.exec = Jvm.exec) (hb : c.code = cc) (hr : meth.sig.returnType = some .boolean) (hlocks : meth.locks = false) (hdg : decode cc pc = .ok (.ireturn, 1)) (hn : narrow .boolean (.int v) = .int v) (hq : post v) : W p l e R s m args below meth c s.heap [] 0 0 (MQ below (vp_Si post) args s 0 0 (fun _ => False)) (F0 m pc ls [.int v]) :=
  W.zret hexec hb hr hn (fun _ ht _ => ⟨v, rfl, hq, ht⟩) (fun _ h => nomatch h) hdg hlocks
theorem edL {post : Int64 → Prop} {v : Int64} (hexec : p.tables.exec = Jvm.exec) (hb : c.code = cc) (hr : meth.sig.returnType = some .long) (hlocks : meth.locks = false) (hdg : decode cc pc = .ok (.lreturn, 1)) (hq : post v) : W p l e R s m args below meth c s.heap [] 0 0 (MQ below (vp_Sl post) args s 0 0 (fun _ => False)) (F0 m pc ls [.long v]) :=
  W.lret hexec hb hr (fun _ ht _ => ⟨v, rfl, hq, ht⟩) (fun _ h => nomatch h) hdg hlocks
end CLR
section CLW
variable {p : Program} {l : Launch} {e : Env} {R : Room} {s : State} {m : MethodId} {args : Array Value} {below : List Frame} {meth : Method} {c : Code} {H : Heap} {locs : List Loc} {cells slots : Nat} {Q : State → Prop}
variable {pc : Nat} {ls : Array Slot} {rest st0 : List Value}
variable {y : MethodName} {bytes cc : ByteArray} {maxL nL n index mc ms : Nat} {ret : Option FieldType} {wsy wsy' Ts : List Cond} {rm : Room} {own host : String} {b : Addr} {As : List Value} {dd : va_G} {tys : List (ClassId × FieldType)} {ws wc wr : va_W} {A0 : Nat → Prop} {H0 : Heap}
/-- a writer of an object -/
theorem clVwi {S : Type} {post : Int32 → S → Prop} {wf : S → va_W} {ci q0 : Nat} {vc : vw_C} {fs : List Value} (S0 : CallFix p m c cc nL s args Ts own) (hM : ∀ sz, Met l y wsy rm (va_Pc (.ref b :: As) (Wr dd tys wc sz)) (va_Qi post (WQ dd wc sz wf) (va_A wc sz)) mc ms (va_A wc sz)) (hG : GoodIn Ts (wsV own index vc.1 y wsy)) (hc : vwCl[ci]? = some vc) (he : wc[q0]? = some (b, .inr (ci, fs))) (hw : wsy = Cond.code y bytes maxL ret :: wsy') (hrm : rm.cells = mc ∧ rm.slots = ms)
    (hd : y.cls = vc.1 ∧ y.cls ≠ "java/lang/invoke/MethodHandle" ∧ y.cls ≠ "java/lang/invoke/VarHandle" ∧ (parseMethodDescriptor y.desc).map (fun d => d.parameters.length) = some n) (hR : rm.frames + 1 ≤ R.frames ∧ 8 + (maxL + 11) + rm.locals ≤ R.locals) (hN : NW s) (hK : va_K dd vwCl tys s) (hP : va_P dd vwCl ws H) (hD : va_D A0 ws) (hS : va_S A0 H0 H locs) (hA : ∀ q, H0.size ≤ q → A0 q)
    (isC isR : List Nat) (hC : isC.map (fun i => ws[i]?) = wc.map some) (hC2 : isC.filterMap (fun i => ws[i]?) = wc) (hnC : va_nd isC = true) (hRr : isR.map (fun i => ws[i]?) = wr.map some) (hnd : va_nd isR = true) (hdis : ∀ i ∈ isR, i ∉ isC)
    (hn : As.length = n) (hsz : ls.size = nL) (hst : st0 = As.reverse ++ .ref b :: rest) (hW : (rest.map fun v => v.category).sum ≤ 8) (hdg : decode cc pc = .ok (.invokevirtual index, 3)) (hf : cells + mc ≤ R.cells ∧ slots + ms ≤ R.slots)
    (kk : ∀ (r : Int32) (u : S) (H1 : Heap) (locs1 : List Loc), post r u → va_P dd vwCl (wr ++ wf u) H1 → va_D A0 (wr ++ wf u) → va_S A0 H0 H1 locs1 → W p l e R s m args below meth c H1 locs1 (cells + mc) (slots + ms) Q (F0 m (pc + 3) ls (.int r :: rest))) : W p l e R s m args below meth c H locs cells slots Q (F0 m pc ls st0) := by
  have hPc := hP.sub isC hC2
  have hDc := hD.sub isC hnC hC
  have hFc := va_free hD hS hA isC hC
  refine va_calli (va_runV (As := As) (rest := rest) (b := b) S0 (hM H.size) (cwV n S0.2.2.2.2 hG hw hrm.1 hrm.2 hd hR) ⟨Wr.blind, va_recv hK hPc hc he, fun U hU hW => ⟨rfl, by rw [hU], hN.warm hW, by rw [hU]; exact hPc, va_K.moved hW.alike hK, hDc.weaken (fun _ _ _ _ => trivial)⟩⟩ rfl hn hsz hst (lv_room hW) hdg hf) hS (fun q _ h => hFc q h) hFc (fun r u t H1 locs1 ht hvm hw hB hz1 hk1 hS1 => ?_)
  obtain ⟨hP1, hD1⟩ := hB
  rw [ht] at hP1
  obtain ⟨hP2, hD2⟩ := va_join (wr := wr) (w1 := wf u) hP hD isC isR hC hRr hnd hdis hk1 hFc hP1 hD1
  exact kk r u H1 locs1 hw hP2 hD2 hS1
theorem clVwl {S : Type} {post : Int64 → S → Prop} {wf : S → va_W} {ci q0 : Nat} {vc : vw_C} {fs : List Value} (S0 : CallFix p m c cc nL s args Ts own) (hM : ∀ sz, Met l y wsy rm (va_Pc (.ref b :: As) (Wr dd tys wc sz)) (va_Ql post (WQ dd wc sz wf) (va_A wc sz)) mc ms (va_A wc sz)) (hG : GoodIn Ts (wsV own index vc.1 y wsy)) (hc : vwCl[ci]? = some vc) (he : wc[q0]? = some (b, .inr (ci, fs))) (hw : wsy = Cond.code y bytes maxL ret :: wsy') (hrm : rm.cells = mc ∧ rm.slots = ms)
    (hd : y.cls = vc.1 ∧ y.cls ≠ "java/lang/invoke/MethodHandle" ∧ y.cls ≠ "java/lang/invoke/VarHandle" ∧ (parseMethodDescriptor y.desc).map (fun d => d.parameters.length) = some n) (hR : rm.frames + 1 ≤ R.frames ∧ 8 + (maxL + 11) + rm.locals ≤ R.locals) (hN : NW s) (hK : va_K dd vwCl tys s) (hP : va_P dd vwCl ws H) (hD : va_D A0 ws) (hS : va_S A0 H0 H locs) (hA : ∀ q, H0.size ≤ q → A0 q)
    (isC isR : List Nat) (hC : isC.map (fun i => ws[i]?) = wc.map some) (hC2 : isC.filterMap (fun i => ws[i]?) = wc) (hnC : va_nd isC = true) (hRr : isR.map (fun i => ws[i]?) = wr.map some) (hnd : va_nd isR = true) (hdis : ∀ i ∈ isR, i ∉ isC)
    (hn : As.length = n) (hsz : ls.size = nL) (hst : st0 = As.reverse ++ .ref b :: rest) (hW : (rest.map fun v => v.category).sum ≤ 8) (hdg : decode cc pc = .ok (.invokevirtual index, 3)) (hf : cells + mc ≤ R.cells ∧ slots + ms ≤ R.slots)
    (kk : ∀ (r : Int64) (u : S) (H1 : Heap) (locs1 : List Loc), post r u → va_P dd vwCl (wr ++ wf u) H1 → va_D A0 (wr ++ wf u) → va_S A0 H0 H1 locs1 → W p l e R s m args below meth c H1 locs1 (cells + mc) (slots + ms) Q (F0 m (pc + 3) ls (.long r :: rest))) : W p l e R s m args below meth c H locs cells slots Q (F0 m pc ls st0) := by
  have hPc := hP.sub isC hC2
  have hDc := hD.sub isC hnC hC
  have hFc := va_free hD hS hA isC hC
  refine va_calll (va_runV (As := As) (rest := rest) (b := b) S0 (hM H.size) (cwV n S0.2.2.2.2 hG hw hrm.1 hrm.2 hd hR) ⟨Wr.blind, va_recv hK hPc hc he, fun U hU hW => ⟨rfl, by rw [hU], hN.warm hW, by rw [hU]; exact hPc, va_K.moved hW.alike hK, hDc.weaken (fun _ _ _ _ => trivial)⟩⟩ rfl hn hsz hst (lv_room hW) hdg hf) hS (fun q _ h => hFc q h) hFc (fun r u t H1 locs1 ht hvm hw hB hz1 hk1 hS1 => ?_)
  obtain ⟨hP1, hD1⟩ := hB
  rw [ht] at hP1
  obtain ⟨hP2, hD2⟩ := va_join (wr := wr) (w1 := wf u) hP hD isC isR hC hRr hnd hdis hk1 hFc hP1 hD1
  exact kk r u H1 locs1 hw hP2 hD2 hS1
theorem clVwv {S : Type} {post : S → Prop} {wf : S → va_W} {ci q0 : Nat} {vc : vw_C} {fs : List Value} (S0 : CallFix p m c cc nL s args Ts own) (hM : ∀ sz, Met l y wsy rm (va_Pc (.ref b :: As) (Wr dd tys wc sz)) (va_Qv post (WQ dd wc sz wf) (va_A wc sz)) mc ms (va_A wc sz)) (hG : GoodIn Ts (wsV own index vc.1 y wsy)) (hc : vwCl[ci]? = some vc) (he : wc[q0]? = some (b, .inr (ci, fs))) (hw : wsy = Cond.code y bytes maxL ret :: wsy') (hrm : rm.cells = mc ∧ rm.slots = ms)
    (hd : y.cls = vc.1 ∧ y.cls ≠ "java/lang/invoke/MethodHandle" ∧ y.cls ≠ "java/lang/invoke/VarHandle" ∧ (parseMethodDescriptor y.desc).map (fun d => d.parameters.length) = some n) (hR : rm.frames + 1 ≤ R.frames ∧ 8 + (maxL + 11) + rm.locals ≤ R.locals) (hN : NW s) (hK : va_K dd vwCl tys s) (hP : va_P dd vwCl ws H) (hD : va_D A0 ws) (hS : va_S A0 H0 H locs) (hA : ∀ q, H0.size ≤ q → A0 q)
    (isC isR : List Nat) (hC : isC.map (fun i => ws[i]?) = wc.map some) (hC2 : isC.filterMap (fun i => ws[i]?) = wc) (hnC : va_nd isC = true) (hRr : isR.map (fun i => ws[i]?) = wr.map some) (hnd : va_nd isR = true) (hdis : ∀ i ∈ isR, i ∉ isC)
    (hn : As.length = n) (hsz : ls.size = nL) (hst : st0 = As.reverse ++ .ref b :: rest) (hW : (rest.map fun v => v.category).sum ≤ 8) (hdg : decode cc pc = .ok (.invokevirtual index, 3)) (hf : cells + mc ≤ R.cells ∧ slots + ms ≤ R.slots)
    (kk : ∀ (u : S) (H1 : Heap) (locs1 : List Loc), post u → va_P dd vwCl (wr ++ wf u) H1 → va_D A0 (wr ++ wf u) → va_S A0 H0 H1 locs1 → W p l e R s m args below meth c H1 locs1 (cells + mc) (slots + ms) Q (F0 m (pc + 3) ls rest)) : W p l e R s m args below meth c H locs cells slots Q (F0 m pc ls st0) := by
  have hPc := hP.sub isC hC2
  have hDc := hD.sub isC hnC hC
  have hFc := va_free hD hS hA isC hC
  refine va_callv (va_runV (As := As) (rest := rest) (b := b) S0 (hM H.size) (cwV n S0.2.2.2.2 hG hw hrm.1 hrm.2 hd hR) ⟨Wr.blind, va_recv hK hPc hc he, fun U hU hW => ⟨rfl, by rw [hU], hN.warm hW, by rw [hU]; exact hPc, va_K.moved hW.alike hK, hDc.weaken (fun _ _ _ _ => trivial)⟩⟩ rfl hn hsz hst (lv_room hW) hdg hf) hS (fun q _ h => hFc q h) hFc (fun u t H1 locs1 ht hvm hw hB hz1 hk1 hS1 => ?_)
  obtain ⟨hP1, hD1⟩ := hB
  rw [ht] at hP1
  obtain ⟨hP2, hD2⟩ := va_join (wr := wr) (w1 := wf u) hP hD isC isR hC hRr hnd hdis hk1 hFc hP1 hD1
  exact kk u H1 locs1 hw hP2 hD2 hS1
/-- writers end -/
theorem ewI {S : Type} {A : Nat → Prop} {post : Int32 → S → Prop} {wf : S → va_W} {ws0 : va_W} {sz : Nat} {v : Int32} (u : S) (hexec : p.tables.exec = Jvm.exec) (hb : c.code = cc) (hr : meth.sig.returnType = some .int) (hlocks : meth.locks = false) (hAe : A = va_A ws0 sz) (hS : va_S A s.heap H locs) (hdg : decode cc pc = .ok (.ireturn, 1)) (hq : post v u) (hP : va_P dd vwCl (wf u) H) (hD : va_D A (wf u)) : W p l e R s m args below meth c H locs mc ms (MQ below (va_Qi post (WQ dd ws0 sz wf) A) args s mc ms A) (F0 m pc ls [.int v]) :=
  W.iret hexec hb hr (fun t ht _ => ⟨⟨v, u, rfl, hq, by rw [ht]; exact hP, hAe ▸ hD⟩, hS.F ht⟩) hS.2.2 hdg hlocks
theorem ewZ {S : Type} {A : Nat → Prop} {post : Int32 → S → Prop} {wf : S → va_W} {ws0 : va_W} {sz : Nat} {v : Int32} (u : S) (hexec : p.tables.exec = Jvm.exec) (hb : c.code = cc) (hr : meth.sig.returnType = some .boolean) (hlocks : meth.locks = false) (hAe : A = va_A ws0 sz) (hS : va_S A s.heap H locs) (hdg : decode cc pc = .ok (.ireturn, 1)) (hn : narrow .boolean (.int v) = .int v) (hq : post v u) (hP : va_P dd vwCl (wf u) H) (hD : va_D A (wf u)) : W p l e R s m args below meth c H locs mc ms (MQ below (va_Qi post (WQ dd ws0 sz wf) A) args s mc ms A) (F0 m pc ls [.int v]) :=
  W.zret hexec hb hr hn (fun t ht _ => ⟨⟨v, u, rfl, hq, by rw [ht]; exact hP, hAe ▸ hD⟩, hS.F ht⟩) hS.2.2 hdg hlocks
theorem ewL {S : Type} {A : Nat → Prop} {post : Int64 → S → Prop} {wf : S → va_W} {ws0 : va_W} {sz : Nat} {v : Int64} (u : S) (hexec : p.tables.exec = Jvm.exec) (hb : c.code = cc) (hr : meth.sig.returnType = some .long) (hlocks : meth.locks = false) (hAe : A = va_A ws0 sz) (hS : va_S A s.heap H locs) (hdg : decode cc pc = .ok (.lreturn, 1)) (hq : post v u) (hP : va_P dd vwCl (wf u) H) (hD : va_D A (wf u)) : W p l e R s m args below meth c H locs mc ms (MQ below (va_Ql post (WQ dd ws0 sz wf) A) args s mc ms A) (F0 m pc ls [.long v]) :=
  W.lret hexec hb hr (fun t ht _ => ⟨⟨v, u, rfl, hq, by rw [ht]; exact hP, hAe ▸ hD⟩, hS.F ht⟩) hS.2.2 hdg hlocks
theorem ewV {S : Type} {A : Nat → Prop} {post : S → Prop} {wf : S → va_W} {ws0 : va_W} {sz : Nat} (u : S) (hexec : p.tables.exec = Jvm.exec) (hb : c.code = cc) (hr : meth.sig.returnType = none) (hlocks : meth.locks = false) (hAe : A = va_A ws0 sz) (hS : va_S A s.heap H locs) (hdg : decode cc pc = .ok (.return_, 1)) (hq : post u) (hP : va_P dd vwCl (wf u) H) (hD : va_D A (wf u)) : W p l e R s m args below meth c H locs mc ms (MQ below (va_Qv post (WQ dd ws0 sz wf) A) args s mc ms A) (F0 m pc ls []) :=
  W.vret hexec hb hr (fun t ht _ => ⟨⟨u, rfl, hq, by rw [ht]; exact hP, hAe ▸ hD⟩, hS.F ht⟩) hS.2.2 hdg hlocks
end CLW
end
section
/-! ===== lN n to 2^64: shifts, and, or, masks, one bit ===== -/
theorem wb_tb (n : Nat) : (lN n).toBitVec = BitVec.ofNat 64 n := rfl
theorem wb_inj {a b : Int64} (h : a.toBitVec = b.toBitVec) : a = b := Int64.toBitVec_inj.mp h
theorem wb_tn {n : Nat} (h : n < 2 ^ 64) : (lN n).toBitVec.toNat = n := by rw [wb_tb, BitVec.toNat_ofNat, Nat.mod_eq_of_lt h]
theorem wb_of (x : Int64) : ∃ n, n < 2 ^ 64 ∧ x = lN n := ⟨x.toBitVec.toNat, x.toBitVec.isLt, wb_inj (by rw [wb_tb]; simp)⟩
theorem wb_of32 (x : Int32) : ∃ n, n < 2 ^ 32 ∧ x = nI n := ⟨x.toBitVec.toNat, x.toBitVec.isLt, Int32.toBitVec_inj.mp (by show _ = BitVec.ofNat 32 _; simp)⟩
theorem wb_c : ∀ k, k < 64 → ((nI k).toInt64 &&& 63) = lN k := by decide +kernel
theorem wb_cu : ∀ k, k < 64 → ((nI k).toInt64.toUInt64 &&& Int64.toUInt64 63) = UInt64.ofNat k := by decide +kernel
theorem wb_sm : ∀ k, k < 64 → (BitVec.ofNat 64 k).smod 64 = BitVec.ofNat 64 k := by decide +kernel
theorem wb_pw {a b : Nat} (h : a ≤ b) : 2 ^ b = 2 ^ a * 2 ^ (b - a) := by rw [← Nat.pow_add]; congr 1; omega
theorem wb_lt2 {a b : Nat} (h : a < b) : 2 ^ a < 2 ^ b := Nat.pow_lt_pow_right (by decide) h
theorem wb_mod (n : Nat) : lN n = lN (n % 2 ^ 64) := wb_inj (by rw [wb_tb, wb_tb]; apply BitVec.eq_of_toNat_eq; rw [BitVec.toNat_ofNat, BitVec.toNat_ofNat, Nat.mod_mod])
theorem wb_shr {n k : Nat} (hn : n < 2 ^ 64) (hk : k < 64) : ((lN n).toUInt64 >>> ((nI k).toInt64.toUInt64 &&& Int64.toUInt64 63)).toInt64 = lN (n / 2 ^ k) := by
  rw [wb_cu k hk]
  apply wb_inj
  apply BitVec.eq_of_toNat_eq
  show ((lN n).toUInt64 >>> UInt64.ofNat k).toNat = (BitVec.ofNat 64 _).toNat
  have h1 : (UInt64.ofNat k).toNat = k := by
    show (BitVec.ofNat 64 k).toNat = k
    rw [BitVec.toNat_ofNat, Nat.mod_eq_of_lt (by omega)]
  have h2 : (lN n).toUInt64.toNat = n := wb_tn hn
  rw [UInt64.toNat_shiftRight, h1, h2, Nat.mod_eq_of_lt hk, Nat.shiftRight_eq_div_pow, BitVec.toNat_ofNat, Nat.mod_eq_of_lt (Nat.lt_of_le_of_lt (Nat.div_le_self _ _) hn)]
theorem wb_shl (n : Nat) {k : Nat} (hk : k < 64) : lN n <<< ((nI k).toInt64 &&& 63) = lN (n * 2 ^ k) := by
  rw [wb_c k hk]
  apply wb_inj
  rw [Int64.toBitVec_shiftLeft, wb_tb, wb_tb, wb_tb, wb_sm k hk]
  apply BitVec.eq_of_toNat_eq
  rw [BitVec.shiftLeft_eq', BitVec.toNat_shiftLeft, BitVec.toNat_ofNat, BitVec.toNat_ofNat, BitVec.toNat_ofNat, Nat.mod_eq_of_lt (show k < 2 ^ 64 by omega), Nat.shiftLeft_eq, Nat.mul_mod, Nat.mod_mod, ← Nat.mul_mod]
theorem wb_and {a b : Nat} (ha : a < 2 ^ 64) (hb : b < 2 ^ 64) : lN a &&& lN b = lN (a &&& b) := by
  apply wb_inj
  rw [Int64.toBitVec_and, wb_tb, wb_tb, wb_tb]
  apply BitVec.eq_of_toNat_eq
  rw [BitVec.toNat_and, BitVec.toNat_ofNat, BitVec.toNat_ofNat, BitVec.toNat_ofNat, Nat.mod_eq_of_lt ha, Nat.mod_eq_of_lt hb, Nat.mod_eq_of_lt (Nat.and_lt_two_pow _ hb)]
theorem wb_or {a b : Nat} (ha : a < 2 ^ 64) (hb : b < 2 ^ 64) : lN a ||| lN b = lN (a ||| b) := by
  apply wb_inj
  rw [Int64.toBitVec_or, wb_tb, wb_tb, wb_tb]
  apply BitVec.eq_of_toNat_eq
  rw [BitVec.toNat_or, BitVec.toNat_ofNat, BitVec.toNat_ofNat, BitVec.toNat_ofNat, Nat.mod_eq_of_lt ha, Nat.mod_eq_of_lt hb, Nat.mod_eq_of_lt (Nat.or_lt_two_pow ha hb)]
theorem wb_mask {n k : Nat} (hn : n < 2 ^ 64) (hk : k < 64) : lN n &&& lN (2 ^ k - 1) = lN (n % 2 ^ k) := by
  rw [wb_and hn (by have := wb_lt2 hk; omega), Nat.and_two_pow_sub_one_eq_mod]
theorem wb_a1 {n : Nat} (hn : n < 2 ^ 64) : lN n &&& 1 = lN (n % 2) := wb_mask (k := 1) hn (by decide)
theorem wb_bit {n k : Nat} (hn : n < 2 ^ 64) (hk : k < 64) : ((lN n).toUInt64 >>> ((nI k).toInt64.toUInt64 &&& Int64.toUInt64 63)).toInt64 &&& 1 = lN (n / 2 ^ k % 2) := by
  rw [wb_shr hn hk, wb_a1 (Nat.lt_of_le_of_lt (Nat.div_le_self _ _) hn)]
theorem wb_xor {q k : Nat} (hk : k < 63) (h : 2 ^ k ≤ q) (h2 : q < 2 ^ (k + 1)) : lN q ^^^ lN (2 ^ k) = lN (q - 2 ^ k) := by
  obtain ⟨r, rfl⟩ : ∃ r, q = 2 ^ k + r := ⟨q - 2 ^ k, by omega⟩
  have hr : r < 2 ^ k := by rw [Nat.pow_succ] at h2; omega
  have hx : (2 ^ k + r) ^^^ 2 ^ k = r := by
    apply Nat.eq_of_testBit_eq
    intro i
    rw [Nat.testBit_xor, Nat.testBit_two_pow]
    rcases Nat.lt_trichotomy i k with h | h | h
    · rw [Nat.testBit_two_pow_add_gt h]
      simp [show ¬ k = i by omega]
    · subst h
      rw [Nat.testBit_two_pow_add_eq]
      simp
    · have a1 : 2 ^ (k + 1) ≤ 2 ^ i := Nat.pow_le_pow_right (by decide) h
      rw [Nat.testBit_lt_two_pow (show 2 ^ k + r < 2 ^ i by omega), Nat.testBit_lt_two_pow (show r < 2 ^ i by omega)]
      simp [show ¬ k = i by omega]
  have b1 := wb_lt2 (show k + 1 < 64 by omega)
  have b2 := wb_lt2 (show k < 64 by omega)
  apply wb_inj
  rw [Int64.toBitVec_xor, wb_tb, wb_tb, wb_tb]
  apply BitVec.eq_of_toNat_eq
  rw [BitVec.toNat_xor, BitVec.toNat_ofNat, BitVec.toNat_ofNat, BitVec.toNat_ofNat, Nat.mod_eq_of_lt (by omega : 2 ^ k + r < 2 ^ 64), Nat.mod_eq_of_lt b2, hx, Nat.add_sub_cancel_left, Nat.mod_eq_of_lt (by omega)]
/-! ===== lN to 2^62 under >> and >>> ===== -/
theorem pf_lI {a : Nat} (h : a < 2 ^ 63) : (lN a).toInt = (a : Int) := lg_ofNat_toInt h
theorem pf_shr {a d : Nat} {D : Int64} (hD : (D.toBitVec.smod 64).toNat = d) (h : a < 2 ^ 62) : lN a >>> D = lN (a / 2 ^ d) := by
  have hd : a / 2 ^ d ≤ a := Nat.div_le_self _ _
  apply Int64.toInt_inj.mp
  have e : (lN a >>> D).toInt = (lN a).toInt >>> d := by
    rw [← hD]
    exact BitVec.toInt_sshiftRight ..
  rw [e, Int.shiftRight_eq_div_pow, pf_lI (by omega), pf_lI (by omega)]
  rfl
theorem pf_ushr {a d : Nat} {D : UInt64} (hD : D.toNat % 64 = d) (h : a < 2 ^ 62) : ((lN a).toUInt64 >>> D).toInt64 = lN (a / 2 ^ d) := by
  have hd : a / 2 ^ d ≤ a := Nat.div_le_self _ _
  have e : (lN a).toUInt64 >>> D = UInt64.ofNat (a / 2 ^ d) := UInt64.toNat_inj.mp (by
    rw [UInt64.toNat_shiftRight, hD, Nat.shiftRight_eq_div_pow, UInt64.toNat_ofNat']
    show (UInt64.ofNat a).toNat / 2 ^ d = _
    rw [UInt64.toNat_ofNat', Nat.mod_eq_of_lt (by omega), Nat.mod_eq_of_lt (by omega)])
  rw [e]
  rfl
theorem pf_andw (x : Int64) : ∃ m, m < 2 ^ 32 ∧ x &&& 4294967295 = lN m := ⟨x.toBitVec.toNat % 2 ^ 32, Nat.mod_lt _ (by decide), Int64.toBitVec_inj.mp (BitVec.eq_of_toNat_eq (by
  show (x.toBitVec &&& 4294967295#64).toNat = (BitVec.ofNat 64 (x.toBitVec.toNat % 2 ^ 32)).toNat
  rw [BitVec.toNat_and, show (4294967295#64).toNat = 2 ^ 32 - 1 from by decide, Nat.and_two_pow_sub_one_eq_mod, BitVec.toNat_ofNat]
  omega))⟩
/-! ===== order of Int32 ===== -/
theorem ilt {a b : Int32} (h : a < b) : ¬ b ≤ a := by
  rw [Int32.le_iff_toInt_le]; rw [Int32.lt_iff_toInt_lt] at h; omega
theorem inl {a b : Int32} (h : ¬ a < b) : b ≤ a := by
  rw [Int32.le_iff_toInt_le]; rw [Int32.lt_iff_toInt_lt] at h; omega
theorem ile {a b : Int32} (h : a ≤ b) : ¬ b < a := by
  rw [Int32.lt_iff_toInt_lt]; rw [Int32.le_iff_toInt_le] at h; omega
theorem inle {a b : Int32} (h : ¬ a ≤ b) : b < a := by
  rw [Int32.lt_iff_toInt_lt]; rw [Int32.le_iff_toInt_le] at h; omega
/-! ===== sets of rows as numbers ===== -/
def mk (f : Nat → Bool) : Nat → Nat
  | 0 => 0
  | n + 1 => mk f n + (if f n = true then 2 ^ n else 0)
def cnt (f : Nat → Bool) : Nat → Nat
  | 0 => 0
  | n + 1 => cnt f n + (if f n = true then 1 else 0)
theorem mk_lt (f : Nat → Bool) : ∀ n, mk f n < 2 ^ n
  | 0 => by simp [mk]
  | n + 1 => by
    have h := mk_lt f n
    have h2 : 2 ^ (n + 1) = 2 ^ n + 2 ^ n := by rw [Nat.pow_succ]; omega
    simp only [mk]
    split <;> omega
theorem mk_bit (f : Nat → Bool) : ∀ n i, (mk f n).testBit i = (decide (i < n) && f i)
  | 0, i => by simp [mk]
  | n + 1, i => by
    have h := mk_bit f n i
    have hn := mk_lt f n
    simp only [mk]
    by_cases hf : f n = true
    · rw [if_pos hf, Nat.add_comm]
      rcases Nat.lt_trichotomy i n with hi | hi | hi
      · rw [Nat.testBit_two_pow_add_gt hi, h]
        simp [hi, Nat.lt_succ_of_lt hi]
      · subst hi
        rw [Nat.testBit_two_pow_add_eq, Nat.testBit_lt_two_pow hn]
        simp [hf]
      · have h2 : 2 ^ (n + 1) ≤ 2 ^ i := Nat.pow_le_pow_right (by decide) hi
        have h3 : 2 ^ (n + 1) = 2 ^ n + 2 ^ n := by rw [Nat.pow_succ]; omega
        rw [Nat.testBit_lt_two_pow (by omega)]
        simp [show ¬ i < n + 1 by omega]
    · rw [if_neg hf, Nat.add_zero, h]
      by_cases hi : i = n
      · subst hi
        simp [Bool.eq_false_iff.mpr hf]
      · simp [show (i < n + 1) = (i < n) from by apply propext; omega]
theorem mk_congr {f g : Nat → Bool} : ∀ {n : Nat}, (∀ i, i < n → f i = g i) → mk f n = mk g n
  | 0, _ => rfl
  | n + 1, h => by
    simp only [mk]
    rw [mk_congr (n := n) (fun i hi => h i (Nat.lt_succ_of_lt hi)), h n (Nat.lt_succ_self n)]
theorem cnt_congr {f g : Nat → Bool} : ∀ {n : Nat}, (∀ i, i < n → f i = g i) → cnt f n = cnt g n
  | 0, _ => rfl
  | n + 1, h => by
    simp only [cnt]
    rw [cnt_congr (n := n) (fun i hi => h i (Nat.lt_succ_of_lt hi)), h n (Nat.lt_succ_self n)]
theorem mk_and (f g : Nat → Bool) (n : Nat) : mk f n &&& mk g n = mk (fun i => f i && g i) n := by
  apply Nat.eq_of_testBit_eq
  intro i
  rw [Nat.testBit_and, mk_bit, mk_bit, mk_bit]
  cases decide (i < n) <;> simp
theorem mk_or (f g : Nat → Bool) (n : Nat) : mk f n ||| mk g n = mk (fun i => f i || g i) n := by
  apply Nat.eq_of_testBit_eq
  intro i
  rw [Nat.testBit_or, mk_bit, mk_bit, mk_bit]
  cases decide (i < n) <;> simp
/-- one row more -/
theorem mk_put (f : Nat → Bool) (n k : Nat) (hk : k < n) : mk f n ||| 2 ^ k = mk (fun i => f i || decide (i = k)) n := by
  apply Nat.eq_of_testBit_eq
  intro i
  rw [Nat.testBit_or, mk_bit, mk_bit, Nat.testBit_two_pow]
  by_cases h : i = k
  · subst h; simp [hk]
  · simp [h, Ne.symm h]
theorem mk_top (f : Nat → Bool) (n : Nat) : mk f n ||| 2 ^ n = mk f n + 2 ^ n := by
  rw [Nat.or_comm, Nat.add_comm]
  have h := Nat.shiftLeft_add_eq_or_of_lt (mk_lt f n) 1
  rw [Nat.shiftLeft_eq, Nat.one_mul] at h
  exact h.symm
theorem mk_zero {f : Nat → Bool} {n : Nat} : mk f n = 0 ↔ ∀ i, i < n → f i = false := by
  constructor
  · intro h i hi
    have := mk_bit f n i
    rw [h] at this
    simpa [hi] using this.symm
  · intro h
    apply Nat.eq_of_testBit_eq
    intro i
    rw [mk_bit]
    by_cases hi : i < n
    · simp [h i hi]
    · simp [hi]
theorem mk_inj {f g : Nat → Bool} {n : Nat} (h : mk f n = mk g n) (i : Nat) (hi : i < n) : f i = g i := by
  have a := mk_bit f n i
  rw [h, mk_bit] at a
  simpa [hi] using a.symm
theorem mk_test {f : Nat → Bool} {n k : Nat} (hk : k < n) : mk f n &&& 2 ^ k = if f k = true then 2 ^ k else 0 := by
  apply Nat.eq_of_testBit_eq
  intro i
  rw [Nat.testBit_and, mk_bit, Nat.testBit_two_pow]
  by_cases h : i = k
  · subst h
    cases hf : f i <;> simp [hk, hf, Nat.testBit_two_pow]
  · cases hf : f k <;> simp [Ne.symm h, Nat.testBit_two_pow]
theorem cnt_le (f : Nat → Bool) : ∀ n, cnt f n ≤ n
  | 0 => Nat.le_refl 0
  | n + 1 => by
    have := cnt_le f n
    simp only [cnt]
    split <;> omega
theorem cnt_zero {f : Nat → Bool} : ∀ {n : Nat}, cnt f n = 0 ↔ ∀ i, i < n → f i = false
  | 0 => by simp [cnt]
  | n + 1 => by
    have h := cnt_zero (f := f) (n := n)
    simp only [cnt]
    constructor
    · intro e i hi
      have e1 : cnt f n = 0 := by omega
      by_cases hin : i = n
      · subst hin
        cases hf : f i
        · rfl
        · rw [if_pos hf] at e; omega
      · exact h.mp e1 i (by omega)
    · intro e
      rw [h.mpr (fun i hi => e i (by omega)), if_neg (by rw [e n (by omega)]; decide)]
theorem cnt_mono {f g : Nat → Bool} (h : ∀ i, f i = true → g i = true) : ∀ n, cnt f n ≤ cnt g n
  | 0 => Nat.le_refl 0
  | n + 1 => by
    have := cnt_mono h n
    simp only [cnt]
    by_cases hf : f n = true
    · rw [if_pos hf, if_pos (h n hf)]; omega
    · rw [if_neg hf]; omega
theorem cnt_add (f : Nat → Bool) (a : Nat) : ∀ b, cnt f (a + b) = cnt f a + cnt (fun i => f (a + i)) b
  | 0 => by simp [cnt]
  | b + 1 => by
    rw [← Nat.add_assoc]
    simp only [cnt]
    rw [cnt_add f a b]
    omega
theorem cnt_out {f : Nat → Bool} {n : Nat} : ∀ {m : Nat}, n ≤ m → cnt (fun i => decide (i < n) && f i) m = cnt f n
  | 0, h => by
    have : n = 0 := by omega
    subst this
    rfl
  | m + 1, h => by
    by_cases e : n = m + 1
    · subst e
      exact cnt_congr (fun i hi => by simp [hi])
    · simp only [cnt]
      rw [cnt_out (m := m) (by omega)]
      simp [show ¬ m < n by omega]
theorem cnt_mk (f : Nat → Bool) {n : Nat} (hn : n ≤ 64) : cnt (mk f n).testBit 64 = cnt f n := by
  rw [cnt_congr (g := fun i => decide (i < n) && f i) (fun i _ => mk_bit f n i), cnt_out hn]
/-! ===== Long.bitCount ===== -/
theorem and_split {a b c d : Nat} (hb : b < 256) (hd : d < 256) : (256 * a + b) &&& (256 * c + d) = 256 * (a &&& c) + (b &&& d) := by
  have h1 := Nat.and_div_two_pow (a := 256 * a + b) (b := 256 * c + d) (n := 8)
  have h2 := Nat.and_mod_two_pow (a := 256 * a + b) (b := 256 * c + d) (n := 8)
  have e1 : (256 * a + b) / 2 ^ 8 = a := by omega
  have e2 : (256 * c + d) / 2 ^ 8 = c := by omega
  have e3 : (256 * a + b) % 2 ^ 8 = b := by omega
  have e4 : (256 * c + d) % 2 ^ 8 = d := by omega
  rw [e1, e2] at h1
  rw [e3, e4] at h2
  have := Nat.div_add_mod ((256 * a + b) &&& (256 * c + d)) (2 ^ 8)
  rw [h1, h2] at this
  omega
theorem dvm {a b c n : Nat} (h : a = n * b + c) (hc : c < n) : a / n = b := by
  rw [h, Nat.mul_add_div (by omega), Nat.div_eq_of_lt hc, Nat.add_zero]
def f55 : Nat → Nat
  | 0 => 0
  | k + 1 => 256 * f55 k + 85
def f33 : Nat → Nat
  | 0 => 0
  | k + 1 => 256 * f33 k + 51
def f0f : Nat → Nat
  | 0 => 0
  | k + 1 => 256 * f0f k + 15
def bc1 (k x : Nat) : Nat := x - (x / 2 &&& f55 k)
def bc2 (k x : Nat) : Nat := (x &&& f33 k) + (x / 4 &&& f33 k)
def bc3 (k x : Nat) : Nat := (x + x / 16) &&& f0f k
theorem bc_d1 : ∀ e, e < 2 → ∀ b, b < 256 → (128 * e + b / 2) &&& 85 = (b / 2) &&& 85 := by decide +kernel
theorem bc_d2 : ∀ e, e < 4 → ∀ b, b < 256 → (64 * e + b / 4) &&& 51 = (b / 4) &&& 51 := by decide +kernel
theorem bc_d3 : ∀ e, e < 7 → ∀ b, b < 103 → (b + b / 16 + 16 * e) &&& 15 = (b + b / 16) &&& 15 := by decide +kernel
theorem bc_d4 : ∀ b, b < 256 → b / 2 &&& 85 ≤ b ∧ (b &&& 51) + (b / 4 &&& 51) < 103 := by decide +kernel
theorem bc_s1 (k h b : Nat) (hb : b < 256) : bc1 (k + 1) (256 * h + b) = 256 * bc1 k h + (b - (b / 2 &&& 85)) := by
  unfold bc1
  rw [show (256 * h + b) / 2 = 256 * (h / 2) + (128 * (h % 2) + b / 2) by omega, f55, and_split (by omega) (by decide), bc_d1 (h % 2) (by omega) b hb]
  have h1 : h / 2 &&& f55 k ≤ h / 2 := Nat.and_le_left
  have h2 := (bc_d4 b hb).1
  omega
theorem bc_s2 (k h b : Nat) (hb : b < 256) : bc2 (k + 1) (256 * h + b) = 256 * bc2 k h + ((b &&& 51) + (b / 4 &&& 51)) := by
  unfold bc2
  rw [show (256 * h + b) / 4 = 256 * (h / 4) + (64 * (h % 4) + b / 4) by omega, f33, and_split hb (by decide), and_split (by omega) (by decide), bc_d2 (h % 4) (by omega) b hb]
  omega
theorem f33_m : ∀ k, f33 k % 2 ^ 4 ≤ 3
  | 0 => by decide
  | k + 1 => by rw [f33]; omega
theorem bc2_m (k x : Nat) : bc2 k x % 16 < 7 := by
  have a : (x &&& f33 k) % 2 ^ 4 ≤ 3 := by rw [Nat.and_mod_two_pow]; exact Nat.le_trans Nat.and_le_right (f33_m k)
  have b : (x / 4 &&& f33 k) % 2 ^ 4 ≤ 3 := by rw [Nat.and_mod_two_pow]; exact Nat.le_trans Nat.and_le_right (f33_m k)
  unfold bc2
  omega
theorem bc_s3 (k h b : Nat) (hb : b < 103) (hh : h % 16 < 7) : bc3 (k + 1) (256 * h + b) = 256 * bc3 k h + ((b + b / 16) &&& 15) := by
  unfold bc3
  rw [show 256 * h + b + (256 * h + b) / 16 = 256 * (h + h / 16) + (b + b / 16 + 16 * (h % 16)) by omega, f0f, and_split (by omega) (by decide), bc_d3 (h % 16) hh b hb]
def bcF (k x : Nat) : Nat := bc3 k (bc2 k (bc1 k x))
theorem bc_b : ∀ b, b < 256 → ((((b - (b / 2 &&& 85)) &&& 51) + ((b - (b / 2 &&& 85)) / 4 &&& 51)) + (((b - (b / 2 &&& 85)) &&& 51) + ((b - (b / 2 &&& 85)) / 4 &&& 51)) / 16) &&& 15 = cnt b.testBit 8 := by decide +kernel
theorem bc_s (k h b : Nat) (hb : b < 256) : bcF (k + 1) (256 * h + b) = 256 * bcF k h + cnt b.testBit 8 := by
  unfold bcF
  rw [bc_s1 k h b hb, bc_s2 _ _ _ (by omega), bc_s3 _ _ _ (bc_d4 _ (by omega)).2 (bc2_m _ _), bc_b b hb]
theorem cnt_byte (k h b : Nat) (hb : b < 256) : cnt (256 * h + b).testBit (8 * (k + 1)) = cnt b.testBit 8 + cnt h.testBit (8 * k) := by
  rw [show 8 * (k + 1) = 8 + 8 * k by omega, cnt_add]
  congr 1
  · apply cnt_congr
    intro i hi
    have := Nat.testBit_mod_two_pow (256 * h + b) 8 i
    rw [show (256 * h + b) % 2 ^ 8 = b by omega] at this
    rw [this]
    simp [hi]
  · apply cnt_congr
    intro i hi
    have := Nat.testBit_div_two_pow (n := 8) (256 * h + b) i
    rw [show (256 * h + b) / 2 ^ 8 = h by omega] at this
    rw [this, Nat.add_comm 8 i]
theorem bc_e1 (q0 q1 q2 q3 q4 q5 q6 q7 : Nat) : 256 * (256 * (256 * (256 * (256 * (256 * (256 * (256 * 0 + q7) + q6) + q5) + q4) + q3) + q2) + q1) + q0 + (256 * (256 * (256 * (256 * (256 * (256 * q7 + q6) + q5) + q4) + q3) + q2) + q1) = 65536 * (256 * (256 * (256 * (256 * (256 * q7 + (q6 + q7)) + (q5 + q6)) + (q4 + q5)) + (q3 + q4)) + (q2 + q3)) + (256 * (q1 + q2) + (q0 + q1)) := by omega
theorem bc_e2 (q0 q1 q2 q3 q4 q5 q6 q7 : Nat) : 65536 * (256 * (256 * (256 * (256 * (256 * q7 + (q6 + q7)) + (q5 + q6)) + (q4 + q5)) + (q3 + q4)) + (q2 + q3)) + (256 * (q1 + q2) + (q0 + q1)) + (256 * (256 * (256 * (256 * (256 * q7 + (q6 + q7)) + (q5 + q6)) + (q4 + q5)) + (q3 + q4)) + (q2 + q3)) = 4294967296 * (256 * (256 * (256 * q7 + (q6 + q7)) + (q5 + q6 + q7)) + (q4 + q5 + q6 + q7)) + (256 * (256 * (256 * (q3 + q4 + q5 + q6) + (q2 + q3 + q4 + q5)) + (q1 + q2 + q3 + q4)) + (q0 + q1 + q2 + q3)) := by omega
theorem bc_e3 (q0 q1 q2 q3 q4 q5 q6 q7 : Nat) : 4294967296 * (256 * (256 * (256 * q7 + (q6 + q7)) + (q5 + q6 + q7)) + (q4 + q5 + q6 + q7)) + (256 * (256 * (256 * (q3 + q4 + q5 + q6) + (q2 + q3 + q4 + q5)) + (q1 + q2 + q3 + q4)) + (q0 + q1 + q2 + q3)) + (256 * (256 * (256 * q7 + (q6 + q7)) + (q5 + q6 + q7)) + (q4 + q5 + q6 + q7)) = 128 * (2 * (256 * (256 * (256 * (256 * (256 * (256 * q7 + (q6 + q7)) + (q5 + q6 + q7)) + (q4 + q5 + q6 + q7)) + (q3 + q4 + q5 + q6 + q7)) + (q2 + q3 + q4 + q5 + q6 + q7)) + (q1 + q2 + q3 + q4 + q5 + q6 + q7))) + (q0 + (q1 + (q2 + (q3 + (q4 + (q5 + (q6 + (q7 + 0)))))))) := by omega
theorem bc_sum (q0 q1 q2 q3 q4 q5 q6 q7 : Nat) (c0 : q0 ≤ 8) (c1 : q1 ≤ 8) (c2 : q2 ≤ 8) (c3 : q3 ≤ 8) (c4 : q4 ≤ 8) (c5 : q5 ≤ 8) (c6 : q6 ≤ 8) (c7 : q7 ≤ 8) {y : Nat} (hy : y = 256 * (256 * (256 * (256 * (256 * (256 * (256 * (256 * 0 + q7) + q6) + q5) + q4) + q3) + q2) + q1) + q0) :
    (y + y / 256 + (y + y / 256) / 65536 + (y + y / 256 + (y + y / 256) / 65536) / 4294967296) % 128 = q0 + (q1 + (q2 + (q3 + (q4 + (q5 + (q6 + (q7 + 0))))))) := by
  have d3 : y / 256 = 256 * (256 * (256 * (256 * (256 * (256 * q7 + q6) + q5) + q4) + q3) + q2) + q1 := by
    rw [Nat.mul_zero, Nat.zero_add] at hy
    exact dvm hy (by omega)
  rw [d3, hy, bc_e1, dvm (n := 65536) (c := 256 * (q1 + q2) + (q0 + q1)) rfl (by omega), bc_e2, dvm (n := 4294967296) (c := 256 * (256 * (256 * (q3 + q4 + q5 + q6) + (q2 + q3 + q4 + q5)) + (q1 + q2 + q3 + q4)) + (q0 + q1 + q2 + q3)) rfl (by omega), bc_e3, Nat.mul_add_mod, Nat.mod_eq_of_lt (by omega)]
theorem bc_all {x : Nat} (hx : x < 2 ^ 64) : (bcF 8 x + bcF 8 x / 256 + (bcF 8 x + bcF 8 x / 256) / 65536 + (bcF 8 x + bcF 8 x / 256 + (bcF 8 x + bcF 8 x / 256) / 65536) / 4294967296) % 128 = cnt x.testBit 64 := by
  obtain ⟨h1, b0, e0, l0⟩ : ∃ h b, x = 256 * h + b ∧ b < 256 := ⟨x / 256, x % 256, by omega, by omega⟩
  obtain ⟨h2, b1, e1, l1⟩ : ∃ h b, h1 = 256 * h + b ∧ b < 256 := ⟨h1 / 256, h1 % 256, by omega, by omega⟩
  obtain ⟨h3, b2, e2, l2⟩ : ∃ h b, h2 = 256 * h + b ∧ b < 256 := ⟨h2 / 256, h2 % 256, by omega, by omega⟩
  obtain ⟨h4, b3, e3, l3⟩ : ∃ h b, h3 = 256 * h + b ∧ b < 256 := ⟨h3 / 256, h3 % 256, by omega, by omega⟩
  obtain ⟨h5, b4, e4, l4⟩ : ∃ h b, h4 = 256 * h + b ∧ b < 256 := ⟨h4 / 256, h4 % 256, by omega, by omega⟩
  obtain ⟨h6, b5, e5, l5⟩ : ∃ h b, h5 = 256 * h + b ∧ b < 256 := ⟨h5 / 256, h5 % 256, by omega, by omega⟩
  obtain ⟨h7, b6, e6, l6⟩ : ∃ h b, h6 = 256 * h + b ∧ b < 256 := ⟨h6 / 256, h6 % 256, by omega, by omega⟩
  obtain ⟨h8, b7, e7, l7⟩ : ∃ h b, h7 = 256 * h + b ∧ b < 256 := ⟨h7 / 256, h7 % 256, by omega, by omega⟩
  have z : h8 = 0 := by omega
  subst z
  have B : bcF 8 x = 256 * (256 * (256 * (256 * (256 * (256 * (256 * (256 * bcF 0 0 + cnt b7.testBit 8) + cnt b6.testBit 8) + cnt b5.testBit 8) + cnt b4.testBit 8) + cnt b3.testBit 8) + cnt b2.testBit 8) + cnt b1.testBit 8) + cnt b0.testBit 8 := by
    rw [e0, bc_s 7 _ _ l0, e1, bc_s 6 _ _ l1, e2, bc_s 5 _ _ l2, e3, bc_s 4 _ _ l3, e4, bc_s 3 _ _ l4, e5, bc_s 2 _ _ l5, e6, bc_s 1 _ _ l6, e7, bc_s 0 _ _ l7]
  have Z : bcF 0 0 = 0 := by decide
  have C : cnt x.testBit 64 = cnt b0.testBit 8 + (cnt b1.testBit 8 + (cnt b2.testBit 8 + (cnt b3.testBit 8 + (cnt b4.testBit 8 + (cnt b5.testBit 8 + (cnt b6.testBit 8 + (cnt b7.testBit 8 + 0))))))) := by
    rw [show 64 = 8 * (7 + 1) from rfl, e0, cnt_byte 7 _ _ l0, show 8 * 7 = 8 * (6 + 1) from rfl, e1, cnt_byte 6 _ _ l1, show 8 * 6 = 8 * (5 + 1) from rfl, e2, cnt_byte 5 _ _ l2, show 8 * 5 = 8 * (4 + 1) from rfl, e3, cnt_byte 4 _ _ l3, show 8 * 4 = 8 * (3 + 1) from rfl, e4, cnt_byte 3 _ _ l4, show 8 * 3 = 8 * (2 + 1) from rfl, e5, cnt_byte 2 _ _ l5, show 8 * 2 = 8 * (1 + 1) from rfl, e6, cnt_byte 1 _ _ l6, show 8 * 1 = 8 * (0 + 1) from rfl, e7, cnt_byte 0 _ _ l7]
    rfl
  rw [Z] at B
  rw [C]
  have c0 := cnt_le b0.testBit 8
  have c1 := cnt_le b1.testBit 8
  have c2 := cnt_le b2.testBit 8
  have c3 := cnt_le b3.testBit 8
  have c4 := cnt_le b4.testBit 8
  have c5 := cnt_le b5.testBit 8
  have c6 := cnt_le b6.testBit 8
  have c7 := cnt_le b7.testBit 8
  exact bc_sum _ _ _ _ _ _ _ _ c0 c1 c2 c3 c4 c5 c6 c7 B
end
section
set_option maxHeartbeats 4000000 in
set_option maxRecDepth 100000 in
theorem c_isWithin (l : Launch) (dd : va_G) (cyI cyJ cyZ : ClassId) (a b c0 : Int32) : Met l yX4_isWithin wsX4_isWithin ({ frames := 0, cells := 0, slots := 0, locals := 0 } : Room) (va_Pc [.int a, .int b, .int c0] (Rd dd [(cyI, .int), (cyJ, .long), (cyZ, .boolean)] [])) (vp_Si (fun r => (r = 1 ∧ b ≤ a ∧ a ≤ c0) ∨ (r = 0 ∧ ¬ (b ≤ a ∧ a ≤ c0)))) 0 0 (fun _ => False) := by
  refine mkR (cc := cX4_isWithin) (maxL := 3) (by decide) rfl (Nat.le_of_ble_eq_true rfl) (lv0 := [(0, .int a), (1, .int b), (2, .int c0)]) rfl ?_
  intro p e s m below meth c ls hx hb hr hml hown hlocks hts hN hP hK hl
  have hown : s.vm.findClass RX4 = some m.cls := hown
  refine lv_iload_n hx hb dX4_isWithin_0 rfl (lv_at hl 0 rfl) ?_
  refine lv_iload_n hx hb dX4_isWithin_1 rfl (lv_at hl 1 rfl) ?_
  refine lv_icmp_lt (tgt := 14) hx hb dX4_isWithin_2 (by decide) (fun k1 => ?_) (fun k1 => ?_)
  · refine lv_iconst (v := 0) hx hb dX4_isWithin_14 (by decide) ?_
    exact edZ hx hb hr hlocks dX4_isWithin_15 rfl (Or.inr ⟨rfl, fun q => ilt k1 q.1⟩)
  · refine lv_iload_n hx hb dX4_isWithin_5 rfl (lv_at hl 0 rfl) ?_
    refine lv_iload_n hx hb dX4_isWithin_6 rfl (lv_at hl 2 rfl) ?_
    refine lv_icmp_gt (tgt := 14) hx hb dX4_isWithin_7 (by decide) (fun k2 => ?_) (fun k2 => ?_)
    · refine lv_iconst (v := 0) hx hb dX4_isWithin_14 (by decide) ?_
      exact edZ hx hb hr hlocks dX4_isWithin_15 rfl (Or.inr ⟨rfl, fun q => ile q.2 k2⟩)
    · refine lv_iconst (v := 1) hx hb dX4_isWithin_10 (by decide) ?_
      refine lv_goto (tgt := 15) hx hb dX4_isWithin_11 (by decide) ?_
      exact edZ hx hb hr hlocks dX4_isWithin_15 rfl (Or.inl ⟨rfl, inl k1, inl k2⟩)

set_option maxHeartbeats 4000000 in
set_option maxRecDepth 100000 in
theorem c_isColumn (l : Launch) (dd : va_G) (cyI cyJ cyZ : ClassId) (a : Int32) : Met l yX4_isColumn wsX4_isColumn ({ frames := 1, cells := 0, slots := 0, locals := 22 } : Room) (va_Pc [.int a] (Rd dd [(cyI, .int), (cyJ, .long), (cyZ, .boolean)] [])) (vp_Si (fun r => (r = 1 ∧ 0 ≤ a ∧ a ≤ 4) ∨ (r = 0 ∧ ¬ (0 ≤ a ∧ a ≤ 4)))) 0 0 (fun _ => False) := by
  refine mkR (cc := cX4_isColumn) (maxL := 1) (by decide) rfl (Nat.le_of_ble_eq_true rfl) (lv0 := [(0, .int a)]) rfl ?_
  intro p e s m below meth c ls hx hb hr hml hown hlocks hts hN hP hK hl
  have hown : s.vm.findClass RX4 = some m.cls := hown
  refine lv_iload_n hx hb dX4_isColumn_0 rfl (lv_at hl 0 rfl) ?_
  refine lv_iconst (v := 0) hx hb dX4_isColumn_1 (by decide) ?_
  refine lv_iconst (v := 4) hx hb dX4_isColumn_2 (by decide) ?_
  refine clSi (As := [.int a, .int 0, .int 4]) (rest := []) ⟨hx, hb, hml, hown, hts⟩ (c_isWithin l dd cyI cyJ cyZ a 0 4) gX4_isColumn_X4_isWithin (n := 3) rfl ⟨rfl, rfl⟩ (by decide +kernel) ⟨Nat.le_of_ble_eq_true rfl, Nat.le_of_ble_eq_true rfl⟩ hN hK (hP.sub [] rfl) rfl hl.1 rfl (Nat.le_of_ble_eq_true rfl) dX4_isColumn_3 ⟨Nat.le_of_ble_eq_true rfl, Nat.le_of_ble_eq_true rfl⟩ (fun r hw => ?_)
  exact edZ hx hb hr hlocks dX4_isColumn_6 (by rcases hw with ⟨h, -⟩ | ⟨h, -⟩ <;> rw [h] <;> rfl) hw

set_option maxHeartbeats 4000000 in
set_option maxRecDepth 100000 in
theorem c_isSort (l : Launch) (dd : va_G) (cyI cyJ cyZ : ClassId) (a : Int32) : Met l yX4_isSort wsX4_isSort ({ frames := 1, cells := 0, slots := 0, locals := 22 } : Room) (va_Pc [.int a] (Rd dd [(cyI, .int), (cyJ, .long), (cyZ, .boolean)] [])) (vp_Si (fun r => (r = 1 ∧ 0 ≤ a ∧ a ≤ 10) ∨ (r = 0 ∧ ¬ (0 ≤ a ∧ a ≤ 10)))) 0 0 (fun _ => False) := by
  refine mkR (cc := cX4_isSort) (maxL := 1) (by decide) rfl (Nat.le_of_ble_eq_true rfl) (lv0 := [(0, .int a)]) rfl ?_
  intro p e s m below meth c ls hx hb hr hml hown hlocks hts hN hP hK hl
  have hown : s.vm.findClass RX4 = some m.cls := hown
  refine lv_iload_n hx hb dX4_isSort_0 rfl (lv_at hl 0 rfl) ?_
  refine lv_iconst (v := 0) hx hb dX4_isSort_1 (by decide) ?_
  refine lv_bipush (v := 10) hx hb dX4_isSort_2 (by decide) ?_
  refine clSi (As := [.int a, .int 0, .int 10]) (rest := []) ⟨hx, hb, hml, hown, hts⟩ (c_isWithin l dd cyI cyJ cyZ a 0 10) gX4_isSort_X4_isWithin (n := 3) rfl ⟨rfl, rfl⟩ (by decide +kernel) ⟨Nat.le_of_ble_eq_true rfl, Nat.le_of_ble_eq_true rfl⟩ hN hK (hP.sub [] rfl) rfl hl.1 rfl (Nat.le_of_ble_eq_true rfl) dX4_isSort_4 ⟨Nat.le_of_ble_eq_true rfl, Nat.le_of_ble_eq_true rfl⟩ (fun r hw => ?_)
  exact edZ hx hb hr hlocks dX4_isSort_7 (by rcases hw with ⟨h, -⟩ | ⟨h, -⟩ <;> rw [h] <;> rfl) hw

set_option maxHeartbeats 4000000 in
set_option maxRecDepth 100000 in
theorem c_isPart (l : Launch) (dd : va_G) (cyI cyJ cyZ : ClassId) (a : Int32) : Met l yX4_isPart wsX4_isPart ({ frames := 1, cells := 0, slots := 0, locals := 22 } : Room) (va_Pc [.int a] (Rd dd [(cyI, .int), (cyJ, .long), (cyZ, .boolean)] [])) (vp_Si (fun r => (r = 1 ∧ 0 ≤ a ∧ a ≤ 1) ∨ (r = 0 ∧ ¬ (0 ≤ a ∧ a ≤ 1)))) 0 0 (fun _ => False) := by
  refine mkR (cc := cX4_isPart) (maxL := 1) (by decide) rfl (Nat.le_of_ble_eq_true rfl) (lv0 := [(0, .int a)]) rfl ?_
  intro p e s m below meth c ls hx hb hr hml hown hlocks hts hN hP hK hl
  have hown : s.vm.findClass RX4 = some m.cls := hown
  refine lv_iload_n hx hb dX4_isPart_0 rfl (lv_at hl 0 rfl) ?_
  refine lv_iconst (v := 0) hx hb dX4_isPart_1 (by decide) ?_
  refine lv_iconst (v := 1) hx hb dX4_isPart_2 (by decide) ?_
  refine clSi (As := [.int a, .int 0, .int 1]) (rest := []) ⟨hx, hb, hml, hown, hts⟩ (c_isWithin l dd cyI cyJ cyZ a 0 1) gX4_isPart_X4_isWithin (n := 3) rfl ⟨rfl, rfl⟩ (by decide +kernel) ⟨Nat.le_of_ble_eq_true rfl, Nat.le_of_ble_eq_true rfl⟩ hN hK (hP.sub [] rfl) rfl hl.1 rfl (Nat.le_of_ble_eq_true rfl) dX4_isPart_3 ⟨Nat.le_of_ble_eq_true rfl, Nat.le_of_ble_eq_true rfl⟩ (fun r hw => ?_)
  exact edZ hx hb hr hlocks dX4_isPart_6 (by rcases hw with ⟨h, -⟩ | ⟨h, -⟩ <;> rw [h] <;> rfl) hw

set_option maxHeartbeats 4000000 in
set_option maxRecDepth 100000 in
theorem c_areTimes (l : Launch) (dd : va_G) (cyI cyJ cyZ : ClassId) (a b c0 : Int32) : Met l yX4_areTimes wsX4_areTimes ({ frames := 0, cells := 0, slots := 0, locals := 0 } : Room) (va_Pc [.int a, .int b, .int c0] (Rd dd [(cyI, .int), (cyJ, .long), (cyZ, .boolean)] [])) (vp_Si (fun r => (r = 1 ∧ 0 ≤ a ∧ a ≤ b ∧ b ≤ c0 ∧ c0 ≤ 1000) ∨ (r = 0 ∧ ¬ (0 ≤ a ∧ a ≤ b ∧ b ≤ c0 ∧ c0 ≤ 1000)))) 0 0 (fun _ => False) := by
  refine mkR (cc := cX4_areTimes) (maxL := 3) (by decide) rfl (Nat.le_of_ble_eq_true rfl) (lv0 := [(0, .int a), (1, .int b), (2, .int c0)]) rfl ?_
  intro p e s m below meth c ls hx hb hr hml hown hlocks hts hN hP hK hl
  have hown : s.vm.findClass RX4 = some m.cls := hown
  refine lv_iconst (v := 0) hx hb dX4_areTimes_0 (by decide) ?_
  refine lv_iload_n hx hb dX4_areTimes_1 rfl (lv_at hl 0 rfl) ?_
  refine lv_icmp_gt (tgt := 26) hx hb dX4_areTimes_2 (by decide) (fun k1 => ?_) (fun k1 => ?_)
  · refine lv_iconst (v := 0) hx hb dX4_areTimes_26 (by decide) ?_
    exact edZ hx hb hr hlocks dX4_areTimes_27 rfl (Or.inr ⟨rfl, fun q => ile q.1 k1⟩)
  · refine lv_iload_n hx hb dX4_areTimes_5 rfl (lv_at hl 0 rfl) ?_
    refine lv_iload_n hx hb dX4_areTimes_6 rfl (lv_at hl 1 rfl) ?_
    refine lv_icmp_gt (tgt := 26) hx hb dX4_areTimes_7 (by decide) (fun k2 => ?_) (fun k2 => ?_)
    · refine lv_iconst (v := 0) hx hb dX4_areTimes_26 (by decide) ?_
      exact edZ hx hb hr hlocks dX4_areTimes_27 rfl (Or.inr ⟨rfl, fun q => ile q.2.1 k2⟩)
    · refine lv_iload_n hx hb dX4_areTimes_10 rfl (lv_at hl 1 rfl) ?_
      refine lv_iload_n hx hb dX4_areTimes_11 rfl (lv_at hl 2 rfl) ?_
      refine lv_icmp_gt (tgt := 26) hx hb dX4_areTimes_12 (by decide) (fun k3 => ?_) (fun k3 => ?_)
      · refine lv_iconst (v := 0) hx hb dX4_areTimes_26 (by decide) ?_
        exact edZ hx hb hr hlocks dX4_areTimes_27 rfl (Or.inr ⟨rfl, fun q => ile q.2.2.1 k3⟩)
      · refine lv_iload_n hx hb dX4_areTimes_15 rfl (lv_at hl 2 rfl) ?_
        refine lv_sipush (v := 1000) hx hb dX4_areTimes_16 (by decide) ?_
        refine lv_icmp_gt (tgt := 26) hx hb dX4_areTimes_19 (by decide) (fun k4 => ?_) (fun k4 => ?_)
        · refine lv_iconst (v := 0) hx hb dX4_areTimes_26 (by decide) ?_
          exact edZ hx hb hr hlocks dX4_areTimes_27 rfl (Or.inr ⟨rfl, fun q => ile q.2.2.2 k4⟩)
        · refine lv_iconst (v := 1) hx hb dX4_areTimes_22 (by decide) ?_
          refine lv_goto (tgt := 27) hx hb dX4_areTimes_23 (by decide) ?_
          exact edZ hx hb hr hlocks dX4_areTimes_27 rfl (Or.inl ⟨rfl, inl k1, inl k2, inl k3, inl k4⟩)

set_option maxHeartbeats 4000000 in
set_option maxRecDepth 100000 in
theorem c_asNumber (l : Launch) (dd : va_G) (cyI cyJ cyZ : ClassId) (a : Int32) : Met l yX4_asNumber wsX4_asNumber ({ frames := 0, cells := 0, slots := 0, locals := 0 } : Room) (va_Pc [.int a] (Rd dd [(cyI, .int), (cyJ, .long), (cyZ, .boolean)] [])) (vp_Si (fun r => r = if a = 0 then 0 else 1)) 0 0 (fun _ => False) := by
  refine mkR (cc := cX4_asNumber) (maxL := 1) (by decide) rfl (Nat.le_of_ble_eq_true rfl) (lv0 := [(0, .int a)]) rfl ?_
  intro p e s m below meth c ls hx hb hr hml hown hlocks hts hN hP hK hl
  have hown : s.vm.findClass RX4 = some m.cls := hown
  refine lv_iload_n hx hb dX4_asNumber_0 rfl (lv_at hl 0 rfl) ?_
  refine lv_if_eq (tgt := 8) hx hb dX4_asNumber_1 (by decide) (fun k1 => ?_) (fun k1 => ?_)
  · refine lv_iconst (v := 0) hx hb dX4_asNumber_8 (by decide) ?_
    exact edI hx hb hr hlocks dX4_asNumber_9 (by rw [if_pos k1])
  · refine lv_iconst (v := 1) hx hb dX4_asNumber_4 (by decide) ?_
    refine lv_goto (tgt := 9) hx hb dX4_asNumber_5 (by decide) ?_
    exact edI hx hb hr hlocks dX4_asNumber_9 (by rw [if_neg k1])

set_option maxHeartbeats 4000000 in
set_option maxRecDepth 100000 in
theorem c_conditionOf (l : Launch) (dd : va_G) (cyI cyJ cyZ : ClassId) (a b : Int32) : Met l yX4_conditionOf wsX4_conditionOf ({ frames := 0, cells := 0, slots := 0, locals := 0 } : Room) (va_Pc [.int a, .int b] (Rd dd [(cyI, .int), (cyJ, .long), (cyZ, .boolean)] [])) (vp_Si (fun r => r = a * 11 + b)) 0 0 (fun _ => False) := by
  refine mkR (cc := cX4_conditionOf) (maxL := 2) (by decide) rfl (Nat.le_of_ble_eq_true rfl) (lv0 := [(0, .int a), (1, .int b)]) rfl ?_
  intro p e s m below meth c ls hx hb hr hml hown hlocks hts hN hP hK hl
  have hown : s.vm.findClass RX4 = some m.cls := hown
  refine lv_iload_n hx hb dX4_conditionOf_0 rfl (lv_at hl 0 rfl) ?_
  refine lv_bipush (v := 11) hx hb dX4_conditionOf_1 (by decide) ?_
  refine lv_imul hx hb dX4_conditionOf_3 ?_
  refine lv_iload_n hx hb dX4_conditionOf_4 rfl (lv_at hl 1 rfl) ?_
  refine lv_iadd hx hb dX4_conditionOf_5 ?_
  exact edI hx hb hr hlocks dX4_conditionOf_6 rfl

set_option maxHeartbeats 4000000 in
set_option maxRecDepth 100000 in
theorem c_columnOf (l : Launch) (dd : va_G) (cyI cyJ cyZ : ClassId) (a : Int32) : Met l yX4_columnOf wsX4_columnOf ({ frames := 0, cells := 0, slots := 0, locals := 0 } : Room) (va_Pc [.int a] (Rd dd [(cyI, .int), (cyJ, .long), (cyZ, .boolean)] [])) (vp_Si (fun r => r = if a = -1 then -1 else a / 11)) 0 0 (fun _ => False) := by
  refine mkR (cc := cX4_columnOf) (maxL := 1) (by decide) rfl (Nat.le_of_ble_eq_true rfl) (lv0 := [(0, .int a)]) rfl ?_
  intro p e s m below meth c ls hx hb hr hml hown hlocks hts hN hP hK hl
  have hown : s.vm.findClass RX4 = some m.cls := hown
  refine lv_iload_n hx hb dX4_columnOf_0 rfl (lv_at hl 0 rfl) ?_
  refine lv_iconst (v := (-1)) hx hb dX4_columnOf_1 (by decide) ?_
  refine lv_icmp_ne (tgt := 9) hx hb dX4_columnOf_2 (by decide) (fun k1 => ?_) (fun k1 => ?_)
  · refine lv_iload_n hx hb dX4_columnOf_9 rfl (lv_at hl 0 rfl) ?_
    refine lv_bipush (v := 11) hx hb dX4_columnOf_10 (by decide) ?_
    refine lv_idiv hx hb dX4_columnOf_12 (by decide) ?_
    exact edI hx hb hr hlocks dX4_columnOf_13 (by rw [if_neg k1])
  · refine lv_iconst (v := (-1)) hx hb dX4_columnOf_5 (by decide) ?_
    refine lv_goto (tgt := 13) hx hb dX4_columnOf_6 (by decide) ?_
    exact edI hx hb hr hlocks dX4_columnOf_13 (by rw [if_pos k1])

set_option maxHeartbeats 4000000 in
set_option maxRecDepth 100000 in
theorem c_sortOf (l : Launch) (dd : va_G) (cyI cyJ cyZ : ClassId) (a : Int32) : Met l yX4_sortOf wsX4_sortOf ({ frames := 0, cells := 0, slots := 0, locals := 0 } : Room) (va_Pc [.int a] (Rd dd [(cyI, .int), (cyJ, .long), (cyZ, .boolean)] [])) (vp_Si (fun r => r = if a = -1 then -1 else a - a / 11 * 11)) 0 0 (fun _ => False) := by
  refine mkR (cc := cX4_sortOf) (maxL := 1) (by decide) rfl (Nat.le_of_ble_eq_true rfl) (lv0 := [(0, .int a)]) rfl ?_
  intro p e s m below meth c ls hx hb hr hml hown hlocks hts hN hP hK hl
  have hown : s.vm.findClass RX4 = some m.cls := hown
  refine lv_iload_n hx hb dX4_sortOf_0 rfl (lv_at hl 0 rfl) ?_
  refine lv_iconst (v := (-1)) hx hb dX4_sortOf_1 (by decide) ?_
  refine lv_icmp_ne (tgt := 9) hx hb dX4_sortOf_2 (by decide) (fun k1 => ?_) (fun k1 => ?_)
  · refine lv_iload_n hx hb dX4_sortOf_9 rfl (lv_at hl 0 rfl) ?_
    refine lv_bipush (v := 11) hx hb dX4_sortOf_10 (by decide) ?_
    refine lv_irem hx hb dX4_sortOf_12 (by decide) ?_
    exact edI hx hb hr hlocks dX4_sortOf_13 (by rw [if_neg k1])
  · refine lv_iconst (v := (-1)) hx hb dX4_sortOf_5 (by decide) ?_
    refine lv_goto (tgt := 13) hx hb dX4_sortOf_6 (by decide) ?_
    exact edI hx hb hr hlocks dX4_sortOf_13 (by rw [if_pos k1])

set_option maxHeartbeats 4000000 in
set_option maxRecDepth 100000 in
theorem c_boundAbove (l : Launch) (dd : va_G) (cyI cyJ cyZ : ClassId) (a : Int32) : Met l yX4_boundAbove wsX4_boundAbove ({ frames := 0, cells := 0, slots := 0, locals := 0 } : Room) (va_Pc [.int a] (Rd dd [(cyI, .int), (cyJ, .long), (cyZ, .boolean)] [])) (vp_Si (fun r => r = a + 2)) 0 0 (fun _ => False) := by
  refine mkR (cc := cX4_boundAbove) (maxL := 1) (by decide) rfl (Nat.le_of_ble_eq_true rfl) (lv0 := [(0, .int a)]) rfl ?_
  intro p e s m below meth c ls hx hb hr hml hown hlocks hts hN hP hK hl
  have hown : s.vm.findClass RX4 = some m.cls := hown
  refine lv_iload_n hx hb dX4_boundAbove_0 rfl (lv_at hl 0 rfl) ?_
  refine lv_iconst (v := 2) hx hb dX4_boundAbove_1 (by decide) ?_
  refine lv_iadd hx hb dX4_boundAbove_2 ?_
  exact edI hx hb hr hlocks dX4_boundAbove_3 rfl

set_option maxHeartbeats 4000000 in
set_option maxRecDepth 100000 in
theorem c_boundBelow (l : Launch) (dd : va_G) (cyI cyJ cyZ : ClassId) (a : Int32) : Met l yX4_boundBelow wsX4_boundBelow ({ frames := 0, cells := 0, slots := 0, locals := 0 } : Room) (va_Pc [.int a] (Rd dd [(cyI, .int), (cyJ, .long), (cyZ, .boolean)] [])) (vp_Si (fun r => r = a + 4)) 0 0 (fun _ => False) := by
  refine mkR (cc := cX4_boundBelow) (maxL := 1) (by decide) rfl (Nat.le_of_ble_eq_true rfl) (lv0 := [(0, .int a)]) rfl ?_
  intro p e s m below meth c ls hx hb hr hml hown hlocks hts hN hP hK hl
  have hown : s.vm.findClass RX4 = some m.cls := hown
  refine lv_iload_n hx hb dX4_boundBelow_0 rfl (lv_at hl 0 rfl) ?_
  refine lv_iconst (v := 4) hx hb dX4_boundBelow_1 (by decide) ?_
  refine lv_iadd hx hb dX4_boundBelow_2 ?_
  exact edI hx hb hr hlocks dX4_boundBelow_3 rfl

theorem bcl1 {x : Nat} (hx : x < 2 ^ 64) : lN x - (((lN x).toUInt64 >>> ((1 : Int32).toInt64.toUInt64 &&& Int64.toUInt64 63)).toInt64 &&& 6148914691236517205) = lN (bc1 8 x) := by
  have h := wb_shr (n := x) (k := 1) hx (by decide)
  rw [show (1 : Int32) = nI 1 from rfl, h, show (6148914691236517205 : Int64) = lN (f55 8) from by decide +kernel, wb_and (by omega) (by decide), lN_sub (Nat.le_trans Nat.and_le_left (Nat.div_le_self _ _))]
  rfl
theorem bcl2 {x : Nat} (hx : x < 2 ^ 64) : (lN x &&& 3689348814741910323) + (((lN x).toUInt64 >>> ((2 : Int32).toInt64.toUInt64 &&& Int64.toUInt64 63)).toInt64 &&& 3689348814741910323) = lN (bc2 8 x) := by
  have h := wb_shr (n := x) (k := 2) hx (by decide)
  rw [show (2 : Int32) = nI 2 from rfl, h, show (3689348814741910323 : Int64) = lN (f33 8) from by decide +kernel, wb_and hx (by decide), wb_and (by omega) (by decide), lN_add]
  rfl
theorem bcl3 {x : Nat} (hx : x < 2 ^ 63) : (lN x + ((lN x).toUInt64 >>> ((4 : Int32).toInt64.toUInt64 &&& Int64.toUInt64 63)).toInt64) &&& 1085102592571150095 = lN (bc3 8 x) := by
  have h := wb_shr (n := x) (k := 4) (by omega) (by decide)
  rw [show (4 : Int32) = nI 4 from rfl, h, show (1085102592571150095 : Int64) = lN (f0f 8) from by decide +kernel, lN_add, wb_and (by omega) (by decide)]
  rfl
theorem bcl4 {x : Nat} (hx : x < 2 ^ 64) : lN x + ((lN x).toUInt64 >>> ((8 : Int32).toInt64.toUInt64 &&& Int64.toUInt64 63)).toInt64 = lN (x + x / 256) := by
  have h := wb_shr (n := x) (k := 8) (by omega) (by decide)
  rw [show (8 : Int32) = nI 8 from rfl, h, lN_add]
theorem bcl5 {x : Nat} (hx : x < 2 ^ 64) : lN x + ((lN x).toUInt64 >>> ((16 : Int32).toInt64.toUInt64 &&& Int64.toUInt64 63)).toInt64 = lN (x + x / 65536) := by
  have h := wb_shr (n := x) (k := 16) (by omega) (by decide)
  rw [show (16 : Int32) = nI 16 from rfl, h, lN_add]
theorem bcl6 {x : Nat} (hx : x < 2 ^ 64) : lN x + ((lN x).toUInt64 >>> ((32 : Int32).toInt64.toUInt64 &&& Int64.toUInt64 63)).toInt64 = lN (x + x / 4294967296) := by
  have h := wb_shr (n := x) (k := 32) (by omega) (by decide)
  rw [show (32 : Int32) = nI 32 from rfl, h, lN_add]
theorem bcl7 (x : Nat) : nI x &&& 127 = nI (x % 128) := by
  rw [pk_and (nI x) (m := 127) 7 (by decide)]
  show nI ((BitVec.ofNat 32 x).toNat % 128) = _
  rw [BitVec.toNat_ofNat]
  congr 1
  omega
theorem bc1_le (x : Nat) : bc1 8 x ≤ x := Nat.sub_le _ _
theorem bc2_le (x : Nat) : bc2 8 x ≤ 2 * f33 8 := by
  have a : x &&& f33 8 ≤ f33 8 := Nat.and_le_right
  have b : x / 4 &&& f33 8 ≤ f33 8 := Nat.and_le_right
  unfold bc2
  omega
theorem bc3_le (x : Nat) : bc3 8 x ≤ f0f 8 := Nat.and_le_right
theorem f33_8 : f33 8 = 3689348814741910323 := by decide
theorem f0f_8 : f0f 8 = 1085102592571150095 := by decide

set_option maxHeartbeats 4000000 in
set_option maxRecDepth 100000 in
theorem c_bitCount (l : Launch) (dd : va_G) (cyI cyJ cyZ : ClassId) (x : Nat) (hx0 : x < 2 ^ 64) : Met l yJ13_bitCount_95d88 wsJ13_bitCount_95d88 ({ frames := 0, cells := 0, slots := 0, locals := 0 } : Room) (va_Pc [.long (lN x)] (Rd dd [(cyI, .int), (cyJ, .long), (cyZ, .boolean)] [])) (vp_Si (fun r => r = nI (cnt x.testBit 64))) 0 0 (fun _ => False) := by
  refine mkR (cc := cJ13_bitCount_95d88) (maxL := 2) (by decide) rfl (Nat.le_of_ble_eq_true rfl) (lv0 := [(0, .long (lN x))]) rfl ?_
  intro p e s m below meth c ls hx hb hr hml hown hlocks hts hN hP hK hl
  have hown : s.vm.findClass RJ13 = some m.cls := hown
  have b1 := bc1_le x
  have b2 := bc2_le (bc1 8 x)
  have b3 := bc3_le (bc2 8 (bc1 8 x))
  rw [f33_8] at b2
  rw [f0f_8] at b3
  refine lv_lload_n hx hb dJ13_bitCount_95d88_0 rfl (lv_at hl 0 rfl) ?_
  refine lv_lload_n hx hb dJ13_bitCount_95d88_1 rfl (lv_at hl 0 rfl) ?_
  refine lv_iconst (v := 1) hx hb dJ13_bitCount_95d88_2 (by decide) ?_
  refine lv_lushr hx hb dJ13_bitCount_95d88_3 rfl ?_
  refine lv_ldc2 (v := 6148914691236517205) hx hb hown (hts (.constantLong RJ13 314 6148914691236517205) (by decide +kernel)) dJ13_bitCount_95d88_4 ?_
  refine lv_land hx hb dJ13_bitCount_95d88_7 ?_
  refine lv_lsub hx hb dJ13_bitCount_95d88_8 ?_
  refine tpl (show ((lN x) - ((((lN x).toUInt64 >>> ((1 : Int32).toInt64.toUInt64 &&& Int64.toUInt64 63)).toInt64) &&& 6148914691236517205) : Int64) = lN (bc1 8 x) from bcl1 hx0) ?_
  refine lv_lstore_n (lv' := [(0, .long (lN (bc1 8 x)))]) hx hb dJ13_bitCount_95d88_9 rfl hl (by decide) rfl (fun ls hl => ?_)
  refine lv_lload_n hx hb dJ13_bitCount_95d88_10 rfl (lv_at hl 0 rfl) ?_
  refine lv_ldc2 (v := 3689348814741910323) hx hb hown (hts (.constantLong RJ13 316 3689348814741910323) (by decide +kernel)) dJ13_bitCount_95d88_11 ?_
  refine lv_land hx hb dJ13_bitCount_95d88_14 ?_
  refine lv_lload_n hx hb dJ13_bitCount_95d88_15 rfl (lv_at hl 0 rfl) ?_
  refine lv_iconst (v := 2) hx hb dJ13_bitCount_95d88_16 (by decide) ?_
  refine lv_lushr hx hb dJ13_bitCount_95d88_17 rfl ?_
  refine lv_ldc2 (v := 3689348814741910323) hx hb hown (hts (.constantLong RJ13 316 3689348814741910323) (by decide +kernel)) dJ13_bitCount_95d88_18 ?_
  refine lv_land hx hb dJ13_bitCount_95d88_21 ?_
  refine lv_ladd hx hb dJ13_bitCount_95d88_22 ?_
  refine tpl (show (((lN (bc1 8 x)) &&& 3689348814741910323) + ((((lN (bc1 8 x)).toUInt64 >>> ((2 : Int32).toInt64.toUInt64 &&& Int64.toUInt64 63)).toInt64) &&& 3689348814741910323) : Int64) = lN (bc2 8 (bc1 8 x)) from bcl2 (by omega)) ?_
  refine lv_lstore_n (lv' := [(0, .long (lN (bc2 8 (bc1 8 x))))]) hx hb dJ13_bitCount_95d88_23 rfl hl (by decide) rfl (fun ls hl => ?_)
  refine lv_lload_n hx hb dJ13_bitCount_95d88_24 rfl (lv_at hl 0 rfl) ?_
  refine lv_lload_n hx hb dJ13_bitCount_95d88_25 rfl (lv_at hl 0 rfl) ?_
  refine lv_iconst (v := 4) hx hb dJ13_bitCount_95d88_26 (by decide) ?_
  refine lv_lushr hx hb dJ13_bitCount_95d88_27 rfl ?_
  refine lv_ladd hx hb dJ13_bitCount_95d88_28 ?_
  refine lv_ldc2 (v := 1085102592571150095) hx hb hown (hts (.constantLong RJ13 318 1085102592571150095) (by decide +kernel)) dJ13_bitCount_95d88_29 ?_
  refine lv_land hx hb dJ13_bitCount_95d88_32 ?_
  refine tpl (show (((lN (bc2 8 (bc1 8 x))) + (((lN (bc2 8 (bc1 8 x))).toUInt64 >>> ((4 : Int32).toInt64.toUInt64 &&& Int64.toUInt64 63)).toInt64)) &&& 1085102592571150095 : Int64) = lN (bcF 8 x) from bcl3 (by omega)) ?_
  obtain ⟨f, ef⟩ : ∃ f, f = bcF 8 x := ⟨_, rfl⟩
  have hf : f ≤ 1085102592571150095 := by rw [ef]; exact b3
  rw [← ef]
  refine lv_lstore_n (lv' := [(0, .long (lN f))]) hx hb dJ13_bitCount_95d88_33 rfl hl (by decide) rfl (fun ls hl => ?_)
  refine lv_lload_n hx hb dJ13_bitCount_95d88_34 rfl (lv_at hl 0 rfl) ?_
  refine lv_lload_n hx hb dJ13_bitCount_95d88_35 rfl (lv_at hl 0 rfl) ?_
  refine lv_bipush (v := 8) hx hb dJ13_bitCount_95d88_36 (by decide) ?_
  refine lv_lushr hx hb dJ13_bitCount_95d88_38 rfl ?_
  refine lv_ladd hx hb dJ13_bitCount_95d88_39 ?_
  refine tpl (show ((lN f) + (((lN f).toUInt64 >>> ((8 : Int32).toInt64.toUInt64 &&& Int64.toUInt64 63)).toInt64) : Int64) = lN (f + f / 256) from bcl4 (by omega)) ?_
  refine lv_lstore_n (lv' := [(0, .long (lN (f + f / 256)))]) hx hb dJ13_bitCount_95d88_40 rfl hl (by decide) rfl (fun ls hl => ?_)
  refine lv_lload_n hx hb dJ13_bitCount_95d88_41 rfl (lv_at hl 0 rfl) ?_
  refine lv_lload_n hx hb dJ13_bitCount_95d88_42 rfl (lv_at hl 0 rfl) ?_
  refine lv_bipush (v := 16) hx hb dJ13_bitCount_95d88_43 (by decide) ?_
  refine lv_lushr hx hb dJ13_bitCount_95d88_45 rfl ?_
  refine lv_ladd hx hb dJ13_bitCount_95d88_46 ?_
  refine tpl (show ((lN (f + f / 256)) + (((lN (f + f / 256)).toUInt64 >>> ((16 : Int32).toInt64.toUInt64 &&& Int64.toUInt64 63)).toInt64) : Int64) = lN (f + f / 256 + (f + f / 256) / 65536) from bcl5 (by omega)) ?_
  refine lv_lstore_n (lv' := [(0, .long (lN (f + f / 256 + (f + f / 256) / 65536)))]) hx hb dJ13_bitCount_95d88_47 rfl hl (by decide) rfl (fun ls hl => ?_)
  refine lv_lload_n hx hb dJ13_bitCount_95d88_48 rfl (lv_at hl 0 rfl) ?_
  refine lv_lload_n hx hb dJ13_bitCount_95d88_49 rfl (lv_at hl 0 rfl) ?_
  refine lv_bipush (v := 32) hx hb dJ13_bitCount_95d88_50 (by decide) ?_
  refine lv_lushr hx hb dJ13_bitCount_95d88_52 rfl ?_
  refine lv_ladd hx hb dJ13_bitCount_95d88_53 ?_
  refine tpl (show ((lN (f + f / 256 + (f + f / 256) / 65536)) + (((lN (f + f / 256 + (f + f / 256) / 65536)).toUInt64 >>> ((32 : Int32).toInt64.toUInt64 &&& Int64.toUInt64 63)).toInt64) : Int64) = lN (f + f / 256 + (f + f / 256) / 65536 + (f + f / 256 + (f + f / 256) / 65536) / 4294967296) from bcl6 (by omega)) ?_
  refine lv_lstore_n (lv' := [(0, .long (lN (f + f / 256 + (f + f / 256) / 65536 + (f + f / 256 + (f + f / 256) / 65536) / 4294967296)))]) hx hb dJ13_bitCount_95d88_54 rfl hl (by decide) rfl (fun ls hl => ?_)
  refine lv_lload_n hx hb dJ13_bitCount_95d88_55 rfl (lv_at hl 0 rfl) ?_
  refine lv_l2i hx hb dJ13_bitCount_95d88_56 rfl ?_
  refine tpi (show ((lN (f + f / 256 + (f + f / 256) / 65536 + (f + f / 256 + (f + f / 256) / 65536) / 4294967296)).toInt32 : Int32) = nI (f + f / 256 + (f + f / 256) / 65536 + (f + f / 256 + (f + f / 256) / 65536) / 4294967296) from lN_i _) ?_
  refine lv_bipush (v := 127) hx hb dJ13_bitCount_95d88_57 (by decide) ?_
  refine lv_iand hx hb dJ13_bitCount_95d88_59 ?_
  exact edI hx hb hr hlocks dJ13_bitCount_95d88_60 (by rw [bcl7, ← bc_all hx0, ef])

set_option maxHeartbeats 4000000 in
set_option maxRecDepth 100000 in
theorem c_driftBelow (l : Launch) (dd : va_G) (cyI cyJ cyZ : ClassId) (x z : Nat) (hx0 : x < 2 ^ 64) (hz0 : z < 2 ^ 64) : Met l yX4_driftBelow wsX4_driftBelow ({ frames := 1, cells := 0, slots := 0, locals := 21 } : Room) (va_Pc [.long (lN x), .long (lN z)] (Rd dd [(cyI, .int), (cyJ, .long), (cyZ, .boolean)] [])) (vp_Si (fun r => r = nI (2 * cnt x.testBit 64 * cnt z.testBit 64))) 0 0 (fun _ => False) := by
  refine mkR (cc := cX4_driftBelow) (maxL := 4) (by decide) rfl (Nat.le_of_ble_eq_true rfl) (lv0 := [(0, .long (lN x)), (2, .long (lN z))]) rfl ?_
  intro p e s m below meth c ls hx hb hr hml hown hlocks hts hN hP hK hl
  have hown : s.vm.findClass RX4 = some m.cls := hown
  refine lv_iconst (v := 2) hx hb dX4_driftBelow_0 (by decide) ?_
  refine lv_lload_n hx hb dX4_driftBelow_1 rfl (lv_at hl 0 rfl) ?_
  refine clSi (As := [.long (lN x)]) (rest := [.int 2]) ⟨hx, hb, hml, hown, hts⟩ (c_bitCount l dd cyI cyJ cyZ x hx0) gX4_driftBelow_J13_bitCount_95d88 (n := 1) rfl ⟨rfl, rfl⟩ (by decide +kernel) ⟨Nat.le_of_ble_eq_true rfl, Nat.le_of_ble_eq_true rfl⟩ hN hK (hP.sub [] rfl) rfl hl.1 rfl (Nat.le_of_ble_eq_true rfl) dX4_driftBelow_2 ⟨Nat.le_of_ble_eq_true rfl, Nat.le_of_ble_eq_true rfl⟩ (fun r1 h1 => ?_)
  subst h1
  refine lv_imul hx hb dX4_driftBelow_5 ?_
  refine lv_lload_n hx hb dX4_driftBelow_6 rfl (lv_at hl 1 rfl) ?_
  refine clSi (As := [.long (lN z)]) (rest := [.int (2 * (nI (cnt x.testBit 64)))]) ⟨hx, hb, hml, hown, hts⟩ (c_bitCount l dd cyI cyJ cyZ z hz0) gX4_driftBelow_J13_bitCount_95d88 (n := 1) rfl ⟨rfl, rfl⟩ (by decide +kernel) ⟨Nat.le_of_ble_eq_true rfl, Nat.le_of_ble_eq_true rfl⟩ hN hK (hP.sub [] rfl) rfl hl.1 rfl (Nat.le_of_ble_eq_true rfl) dX4_driftBelow_7 ⟨Nat.le_of_ble_eq_true rfl, Nat.le_of_ble_eq_true rfl⟩ (fun r2 h2 => ?_)
  subst h2
  refine lv_imul hx hb dX4_driftBelow_10 ?_
  exact edI hx hb hr hlocks dX4_driftBelow_11 (by rw [show (2 : Int32) = nI 2 from rfl, pk_mul, pk_mul])
end
section
def eu : Nat → Nat → Nat → Nat
  | 0, a, _ => a
  | n + 1, a, b => if b = 0 then a else eu n b (a % b)
theorem eu_0 (n a : Nat) : eu n a 0 = a := by cases n <;> simp [eu]
theorem eu_gcd : ∀ (k n a b : Nat), b < 2 ^ k → 2 * k ≤ n → eu n a b = Nat.gcd a b
  | 0, n, a, b, h, _ => by
    have : b = 0 := by simpa using h
    subst this
    rw [eu_0, Nat.gcd_zero_right]
  | k + 1, n, a, b, h, hn => by
    obtain ⟨n, rfl⟩ : ∃ j, n = j + 2 := ⟨n - 2, by omega⟩
    by_cases hb : b = 0
    · subst hb
      rw [eu_0, Nat.gcd_zero_right]
    · have g : Nat.gcd a b = Nat.gcd (a % b) b := by rw [Nat.gcd_comm, Nat.gcd_rec]
      simp only [eu, hb, if_false]
      by_cases hr : a % b = 0
      · rw [if_pos hr, g, hr, Nat.gcd_zero_left]
      · rw [if_neg hr]
        have h1 : a % b < b := Nat.mod_lt _ (by omega)
        have h2 : b % (a % b) < a % b := Nat.mod_lt _ (by omega)
        have h3 := Nat.div_add_mod b (a % b)
        have h4 : 1 ≤ b / (a % b) := Nat.div_pos (by omega) (by omega)
        have h5 : (a % b) * 1 ≤ (a % b) * (b / (a % b)) := Nat.mul_le_mul_left _ h4
        have h6 : 2 ^ (k + 1) = 2 * 2 ^ k := by rw [Nat.pow_succ, Nat.mul_comm]
        rw [eu_gcd k n (a % b) (b % (a % b)) (by omega) (by omega), g, Nat.gcd_comm (a % b) b, Nat.gcd_comm b (a % b), Nat.gcd_rec (a % b) b, Nat.gcd_comm]
theorem mx1 {a : Nat} (ha : a < 2 ^ 63) : (if lN a < 1 then 1 else lN a) = lN (max 1 a) := by
  rw [show (1 : Int64) = lN 1 from rfl]
  by_cases h : a < 1
  · rw [if_pos ((pk_lLT ha (by decide)).mpr h)]
    congr 1
    omega
  · rw [if_neg (fun q => h ((pk_lLT ha (by decide)).mp q))]
    congr 1
    omega

set_option maxHeartbeats 4000000 in
set_option maxRecDepth 100000 in
theorem c_commonDivisor (l : Launch) (dd : va_G) (cyI cyJ cyZ : ClassId) (x z : Nat) (hx0 : x < 2 ^ 63) (hz0 : z < 2 ^ 63) : Met l yX4_commonDivisor wsX4_commonDivisor ({ frames := 1, cells := 0, slots := 0, locals := 20 } : Room) (va_Pc [.long (lN x), .long (lN z)] (Rd dd [(cyI, .int), (cyJ, .long), (cyZ, .boolean)] [])) (vp_Sl (fun r => r = lN (max 1 (eu 128 x z)))) 0 0 (fun _ => False) := by
  refine mkR (cc := cX4_commonDivisor) (maxL := 11) (by decide) rfl (Nat.le_of_ble_eq_true rfl) (lv0 := [(0, .long (lN x)), (2, .long (lN z))]) rfl ?_
  intro p e s m below meth c ls hx hb hr hml hown hlocks hts hN hP hK hl
  have hown : s.vm.findClass RX4 = some m.cls := hown
  refine lv_lload_n hx hb dX4_commonDivisor_0 rfl (lv_at hl 0 rfl) ?_
  refine lv_lstore (lv' := [(4, .long (lN x)), (0, .long (lN x)), (2, .long (lN z))]) hx hb dX4_commonDivisor_1 hl (by decide) rfl (fun ls hl => ?_)
  refine lv_lload_n hx hb dX4_commonDivisor_3 rfl (lv_at hl 2 rfl) ?_
  refine lv_lstore (lv' := [(6, .long (lN z)), (4, .long (lN x)), (0, .long (lN x)), (2, .long (lN z))]) hx hb dX4_commonDivisor_4 hl (by decide) rfl (fun ls hl => ?_)
  refine lv_iconst (v := 0) hx hb dX4_commonDivisor_6 (by decide) ?_
  refine lv_istore (lv' := [(8, .int 0), (6, .long (lN z)), (4, .long (lN x)), (0, .long (lN x)), (2, .long (lN z))]) hx hb dX4_commonDivisor_7 hl (by decide) rfl (fun ls hl => ?_)
  have loop : ∀ (k : Nat) (t a b : Nat), t + k = 128 → a < 2 ^ 63 → b < 2 ^ 63 → eu k a b = eu 128 x z → ∀ ls : Array Slot, lv_has ls 11 [(8, .int (nI t)), (6, .long (lN b)), (4, .long (lN a))] → W p l e ({ frames := 1, cells := 0, slots := 0, locals := 20 } : Room) s m ([.long (lN x), .long (lN z)] : List Value).toArray below meth c s.heap [] 0 0 (MQ below (vp_Sl (fun r => r = lN (max 1 (eu 128 x z)))) ([.long (lN x), .long (lN z)] : List Value).toArray s 0 0 (fun _ => False)) (F0 m 9 ls []) := by
    intro k
    induction k with
    | zero =>
      intro t a b ht ha hb9 he ls hl
      refine lv_iload hx hb dX4_commonDivisor_9 (lv_at hl 0 rfl) ?_
      refine lv_sipush (v := 128) hx hb dX4_commonDivisor_11 (by decide) ?_
      refine lv_icmp_ge (tgt := 45) hx hb dX4_commonDivisor_14 (by decide) (fun q => ?_) (fun q => ?_)
      · refine lv_lconst (v := 1) hx hb dX4_commonDivisor_45 (by decide) ?_
        refine lv_lload hx hb dX4_commonDivisor_46 (lv_at hl 2 rfl) ?_
        refine va_mmax_long hx hb (hml.trans hl.1.symm) hown (hts (.methodLink RX4 226 Lib.MathLoose.max_long.x) (by decide +kernel)) (hts (.static Lib.MathLoose.max_long.x) (by decide +kernel)) (hts (.initialized "java/lang/Math") (by decide +kernel)) (hts (.code Lib.MathLoose.max_long.x Lib.MathLoose.max_long.code 4 (some .long)) (by decide +kernel)) (Nat.le_of_ble_eq_true rfl) (Nat.le_of_ble_eq_true rfl) (Nat.le_of_ble_eq_true rfl) (Nat.le_of_ble_eq_true rfl) dX4_commonDivisor_48 ?_
        refine tpl (show (if (lN a) < 1 then 1 else lN a : Int64) = lN (max 1 a) from mx1 ha) ?_
        exact edL hx hb hr hlocks dX4_commonDivisor_51 (by rw [← he]; rfl)
      · exact absurd (show (128 : Int32) ≤ nI t from nI_le (a := 128) (by omega) (by omega)) q
    | succ k ih =>
      intro t a b ht ha hb9 he ls hl
      refine lv_iload hx hb dX4_commonDivisor_9 (lv_at hl 0 rfl) ?_
      refine lv_sipush (v := 128) hx hb dX4_commonDivisor_11 (by decide) ?_
      refine lv_icmp_ge (tgt := 45) hx hb dX4_commonDivisor_14 (by decide) (fun q => ?_) (fun q => ?_)
      · exact absurd q (nI_ge (b := 128) (by omega) (by decide))
      · refine lv_lload hx hb dX4_commonDivisor_17 (lv_at hl 1 rfl) ?_
        refine lv_lconst (v := 0) hx hb dX4_commonDivisor_19 (by decide) ?_
        refine W.lcmp hx hb dX4_commonDivisor_20 ?_
        refine lv_if_eq (tgt := 45) hx hb dX4_commonDivisor_21 (by decide) (fun q2 => ?_) (fun q2 => ?_)
        · have hb0 : b = 0 := (pk_lEQ (b := 0) hb9 (by decide)).mp ((lg_cmp_eq _ _).mp q2)
          subst hb0
          refine lv_lconst (v := 1) hx hb dX4_commonDivisor_45 (by decide) ?_
          refine lv_lload hx hb dX4_commonDivisor_46 (lv_at hl 2 rfl) ?_
          refine va_mmax_long hx hb (hml.trans hl.1.symm) hown (hts (.methodLink RX4 226 Lib.MathLoose.max_long.x) (by decide +kernel)) (hts (.static Lib.MathLoose.max_long.x) (by decide +kernel)) (hts (.initialized "java/lang/Math") (by decide +kernel)) (hts (.code Lib.MathLoose.max_long.x Lib.MathLoose.max_long.code 4 (some .long)) (by decide +kernel)) (Nat.le_of_ble_eq_true rfl) (Nat.le_of_ble_eq_true rfl) (Nat.le_of_ble_eq_true rfl) (Nat.le_of_ble_eq_true rfl) dX4_commonDivisor_48 ?_
          refine tpl (show (if (lN a) < 1 then 1 else lN a : Int64) = lN (max 1 a) from mx1 ha) ?_
          exact edL hx hb hr hlocks dX4_commonDivisor_51 (by rw [← he, eu_0])
        · have hb0 : 0 < b := Nat.pos_of_ne_zero (fun q0 => q2 ((lg_cmp_eq _ _).mpr (by rw [q0]; rfl)))
          refine lv_lload hx hb dX4_commonDivisor_24 (lv_at hl 2 rfl) ?_
          refine lv_lload hx hb dX4_commonDivisor_26 (lv_at hl 1 rfl) ?_
          refine lv_lrem hx hb dX4_commonDivisor_28 (fun q0 => by have := (pk_lEQ (b := 0) hb9 (by decide)).mp q0; omega) ?_
          refine tpl (show ((lN a) - (lN a) / (lN b) * (lN b) : Int64) = lN (a % b) from pk_lRem ha hb0 hb9) ?_
          refine lv_lstore (lv' := [(9, .long (lN (a % b))), (8, .int (nI t)), (6, .long (lN b)), (4, .long (lN a))]) hx hb dX4_commonDivisor_29 hl (by decide) rfl (fun ls hl => ?_)
          refine lv_lload hx hb dX4_commonDivisor_31 (lv_at hl 2 rfl) ?_
          refine lv_lstore (lv' := [(4, .long (lN b)), (9, .long (lN (a % b))), (8, .int (nI t)), (6, .long (lN b))]) hx hb dX4_commonDivisor_33 hl (by decide) rfl (fun ls hl => ?_)
          refine lv_lload hx hb dX4_commonDivisor_35 (lv_at hl 1 rfl) ?_
          refine lv_lstore (lv' := [(6, .long (lN (a % b))), (4, .long (lN b)), (9, .long (lN (a % b))), (8, .int (nI t))]) hx hb dX4_commonDivisor_37 hl (by decide) rfl (fun ls hl => ?_)
          refine lv_iinc (v := nI (t + 1)) (lv' := [(8, .int (nI (t + 1))), (6, .long (lN (a % b))), (4, .long (lN b)), (9, .long (lN (a % b)))]) hx hb dX4_commonDivisor_39 hl (k := 3) rfl (nI_1 t) (by decide) rfl (fun ls hl => ?_)
          refine lv_goto (tgt := 9) hx hb dX4_commonDivisor_42 (by decide) ?_
          exact ih (t + 1) b (a % b) (by omega) hb9 (Nat.lt_of_lt_of_le (Nat.mod_lt _ hb0) (Nat.le_of_lt hb9)) (by rw [← he, eu, if_neg (by omega)]) ls (lv_sub hl [0, 1, 2] rfl)
  exact loop 128 0 x z rfl hx0 hz0 rfl ls (lv_sub hl [0, 1, 2] rfl)

def lI (z : Int) : Int64 := Int64.ofInt z
theorem lI_toInt {z : Int} (h : z.natAbs < 2 ^ 62) : (lI z).toInt = z := Int64.toInt_ofInt_of_le (by omega) (by omega)
theorem lN_lI (n : Nat) : lN n = lI n := Int64.ofInt_eq_ofNat.symm
theorem labs {z : Int} (h : z.natAbs < 2 ^ 62) : (if 0 < lI z then lI z else -lI z) = lN z.natAbs := by
  by_cases q : 0 < z
  · rw [if_pos (by rw [Int64.lt_iff_toInt_lt, lI_toInt h]; exact q), lN_lI]
    congr 1
    omega
  · rw [if_neg (by rw [Int64.lt_iff_toInt_lt, lI_toInt h]; exact q), lN_lI]
    unfold lI
    rw [← Int64.ofInt_neg]
    congr 1
    omega
theorem ldiv_lI {z : Int} {g : Nat} (h : z.natAbs < 2 ^ 62) (hg : g < 2 ^ 62) (h0 : 0 < g) : lI z / lN g = lI (z.tdiv g) := by
  apply Int64.toInt_inj.mp
  have hz := lI_toInt h
  have hgn : (lN g).toInt = (g : Int) := pk_lT (by omega)
  have e : (z.tdiv g).natAbs ≤ z.natAbs := by
    rw [Int.natAbs_tdiv]
    exact Nat.div_le_self _ _
  rw [Int64.toInt_div_of_ne_right _ _ (fun q => by rw [q] at hgn; have : (-1 : Int64).toInt = -1 := by decide
                                                   omega), hz, hgn, lI_toInt (by omega)]
/-- what a fraction's part is -/
def fr (u d : Int) (pt : Int32) : Int := if pt = 1 then ((d.natAbs / Nat.gcd u.natAbs d.natAbs : Nat) : Int) else (if d < 0 then -u else u).tdiv (Nat.gcd u.natAbs d.natAbs : Nat)

set_option maxHeartbeats 4000000 in
set_option maxRecDepth 100000 in
theorem c_lowest (l : Launch) (dd : va_G) (cyI cyJ cyZ : ClassId) (u d : Int) (pt : Int32) (hu : u.natAbs < 2 ^ 62) (hd : d.natAbs < 2 ^ 62) (hd0 : d ≠ 0) : Met l yX4_lowest wsX4_lowest ({ frames := 2, cells := 0, slots := 0, locals := 60 } : Room) (va_Pc [.long (lI u), .long (lI d), .int pt] (Rd dd [(cyI, .int), (cyJ, .long), (cyZ, .boolean)] [])) (vp_Sl (fun r => r = lI (fr u d pt))) 0 0 (fun _ => False) := by
  refine mkR (cc := cX4_lowest) (maxL := 7) (by decide) rfl (Nat.le_of_ble_eq_true rfl) (lv0 := [(0, .long (lI u)), (2, .long (lI d)), (4, .int pt)]) rfl ?_
  intro p e s m below meth c ls hx hb hr hml hown hlocks hts hN hP hK hl
  have hown : s.vm.findClass RX4 = some m.cls := hown
  have hg0 : 0 < Nat.gcd u.natAbs d.natAbs := Nat.gcd_pos_of_pos_right _ (by omega)
  have hg1 : Nat.gcd u.natAbs d.natAbs ≤ d.natAbs := Nat.gcd_le_right _ (by omega)
  refine lv_lload_n hx hb dX4_lowest_0 rfl (lv_at hl 0 rfl) ?_
  refine va_mabs_long hx hb (hml.trans hl.1.symm) hown (hts (.methodLink RX4 216 Lib.MathLoose.abs_long.x) (by decide +kernel)) (hts (.static Lib.MathLoose.abs_long.x) (by decide +kernel)) (hts (.initialized "java/lang/Math") (by decide +kernel)) (hts (.code Lib.MathLoose.abs_long.x Lib.MathLoose.abs_long.code 2 (some .long)) (by decide +kernel)) (Nat.le_of_ble_eq_true rfl) (Nat.le_of_ble_eq_true rfl) (Nat.le_of_ble_eq_true rfl) (Nat.le_of_ble_eq_true rfl) dX4_lowest_1 ?_
  refine tpl (show (if 0 < (lI u) then lI u else -(lI u) : Int64) = lN u.natAbs from labs hu) ?_
  refine lv_lload_n hx hb dX4_lowest_4 rfl (lv_at hl 1 rfl) ?_
  refine va_mabs_long hx hb (hml.trans hl.1.symm) hown (hts (.methodLink RX4 216 Lib.MathLoose.abs_long.x) (by decide +kernel)) (hts (.static Lib.MathLoose.abs_long.x) (by decide +kernel)) (hts (.initialized "java/lang/Math") (by decide +kernel)) (hts (.code Lib.MathLoose.abs_long.x Lib.MathLoose.abs_long.code 2 (some .long)) (by decide +kernel)) (Nat.le_of_ble_eq_true rfl) (Nat.le_of_ble_eq_true rfl) (Nat.le_of_ble_eq_true rfl) (Nat.le_of_ble_eq_true rfl) dX4_lowest_5 ?_
  refine tpl (show (if 0 < (lI d) then lI d else -(lI d) : Int64) = lN d.natAbs from labs hd) ?_
  refine clSl (As := [.long (lN u.natAbs), .long (lN d.natAbs)]) (rest := []) ⟨hx, hb, hml, hown, hts⟩ (c_commonDivisor l dd cyI cyJ cyZ u.natAbs d.natAbs (by omega) (by omega)) gX4_lowest_X4_commonDivisor (n := 2) rfl ⟨rfl, rfl⟩ (by decide +kernel) ⟨Nat.le_of_ble_eq_true rfl, Nat.le_of_ble_eq_true rfl⟩ hN hK (hP.sub [] rfl) rfl hl.1 rfl (Nat.le_of_ble_eq_true rfl) dX4_lowest_8 ⟨Nat.le_of_ble_eq_true rfl, Nat.le_of_ble_eq_true rfl⟩ (fun g hg => ?_)
  have hg : g = lN (Nat.gcd u.natAbs d.natAbs) := by rw [hg, eu_gcd 63 128 _ _ (by omega) (by decide)]; congr 1; omega
  subst hg
  refine lv_lstore (lv' := [(5, .long (lN (Nat.gcd u.natAbs d.natAbs))), (0, .long (lI u)), (2, .long (lI d)), (4, .int pt)]) hx hb dX4_lowest_11 hl (by decide) rfl (fun ls hl => ?_)
  refine lv_iload hx hb dX4_lowest_13 (lv_at hl 3 rfl) ?_
  refine lv_iconst (v := 1) hx hb dX4_lowest_15 (by decide) ?_
  refine lv_icmp_ne (tgt := 27) hx hb dX4_lowest_16 (by decide) (fun q => ?_) (fun q => ?_)
  · refine lv_lload_n hx hb dX4_lowest_27 rfl (lv_at hl 2 rfl) ?_
    refine lv_lconst (v := 0) hx hb dX4_lowest_28 (by decide) ?_
    refine W.lcmp hx hb dX4_lowest_29 ?_
    refine lv_if_ge (tgt := 38) hx hb dX4_lowest_30 (by decide) (fun q2 => ?_) (fun q2 => ?_)
    · refine lv_lload_n hx hb dX4_lowest_38 rfl (lv_at hl 1 rfl) ?_
      refine lv_lload hx hb dX4_lowest_39 (lv_at hl 0 rfl) ?_
      refine lv_ldiv hx hb dX4_lowest_41 (fun q0 => by have := (pk_lEQ (b := 0) (by omega) (by decide)).mp q0; omega) ?_
      refine tpl (show ((lI u) / (lN (Nat.gcd u.natAbs d.natAbs)) : Int64) = lI (u.tdiv (Nat.gcd u.natAbs d.natAbs : Nat)) from ldiv_lI hu (by omega) hg0) ?_
      have hp : ¬ d < 0 := fun h => by have := (lg_cmp_ge _ _).mp q2; rw [Int64.le_iff_toInt_le, lI_toInt hd] at this; exact absurd this (by simpa using h)
      exact edL hx hb hr hlocks dX4_lowest_42 (by rw [fr, if_neg q, if_neg hp])
    · refine lv_lload_n hx hb dX4_lowest_33 rfl (lv_at hl 1 rfl) ?_
      refine lv_lneg hx hb dX4_lowest_34 ?_
      refine tpl (show (-(lI u) : Int64) = lI (-u) from (Int64.ofInt_neg u).symm) ?_
      refine lv_goto (tgt := 39) hx hb dX4_lowest_35 (by decide) ?_
      refine lv_lload hx hb dX4_lowest_39 (lv_at hl 0 rfl) ?_
      refine lv_ldiv hx hb dX4_lowest_41 (fun q0 => by have := (pk_lEQ (b := 0) (by omega) (by decide)).mp q0; omega) ?_
      refine tpl (show ((lI (-u)) / (lN (Nat.gcd u.natAbs d.natAbs)) : Int64) = lI ((-u).tdiv (Nat.gcd u.natAbs d.natAbs : Nat)) from ldiv_lI (by omega) (by omega) hg0) ?_
      have hp : d < 0 := by have := Int64.not_le.mp (fun h => q2 ((lg_cmp_ge _ _).mpr h)); rw [Int64.lt_iff_toInt_lt, lI_toInt hd] at this; simpa using this
      exact edL hx hb hr hlocks dX4_lowest_42 (by rw [fr, if_neg q, if_pos hp])
  · refine lv_lload_n hx hb dX4_lowest_19 rfl (lv_at hl 2 rfl) ?_
    refine va_mabs_long hx hb (hml.trans hl.1.symm) hown (hts (.methodLink RX4 216 Lib.MathLoose.abs_long.x) (by decide +kernel)) (hts (.static Lib.MathLoose.abs_long.x) (by decide +kernel)) (hts (.initialized "java/lang/Math") (by decide +kernel)) (hts (.code Lib.MathLoose.abs_long.x Lib.MathLoose.abs_long.code 2 (some .long)) (by decide +kernel)) (Nat.le_of_ble_eq_true rfl) (Nat.le_of_ble_eq_true rfl) (Nat.le_of_ble_eq_true rfl) (Nat.le_of_ble_eq_true rfl) dX4_lowest_20 ?_
    refine tpl (show (if 0 < (lI d) then lI d else -(lI d) : Int64) = lN d.natAbs from labs hd) ?_
    refine lv_lload hx hb dX4_lowest_23 (lv_at hl 0 rfl) ?_
    refine lv_ldiv hx hb dX4_lowest_25 (fun q0 => by have := (pk_lEQ (b := 0) (by omega) (by decide)).mp q0; omega) ?_
    refine tpl (show ((lN d.natAbs) / (lN (Nat.gcd u.natAbs d.natAbs)) : Int64) = lN (d.natAbs / Nat.gcd u.natAbs d.natAbs) from pk_lDiv (by omega) hg0 (by omega)) ?_
    exact edL hx hb hr hlocks dX4_lowest_26 (by rw [fr, if_pos q, lN_lI])
end
section
theorem shl1 {i : Nat} (h : i < 64) : (1 : Int64) <<< ((nI i).toInt64 &&& 63) = lN (2 ^ i) := by
  have := wb_shl 1 h
  rw [Nat.one_mul] at this
  exact this
theorem p63 {n : Nat} (h : n ≤ 48) : 2 ^ n < 2 ^ 64 := Nat.pow_lt_pow_right (by decide) (by omega)
theorem mk64 (f : Nat → Bool) {n : Nat} (h : n ≤ 48) : mk f n < 2 ^ 64 := Nat.lt_trans (mk_lt f n) (p63 h)
theorem mk62 (f : Nat → Bool) {n : Nat} (h : n ≤ 48) : mk f n < 2 ^ 62 := Nat.lt_trans (mk_lt f n) (Nat.pow_lt_pow_right (by decide) (by omega))
theorem mk_tst {f : Nat → Bool} {n i : Nat} (hi : i < n) (hn : n ≤ 48) : lN (mk f n) &&& lN (2 ^ i) = lN (if f i = true then 2 ^ i else 0) := by
  rw [wb_and (mk64 f hn) (p63 (by omega)), mk_test hi]
theorem tst0 {b : Bool} {i : Nat} (h : i < 48) : lg_cmp (lN (if b = true then 2 ^ i else 0)) 0 = 0 ↔ b = false := by
  rw [lg_cmp_eq]
  have h1 : 2 ^ i < 2 ^ 63 := Nat.pow_lt_pow_right (by decide) (by omega)
  have h2 : 0 < 2 ^ i := Nat.pow_pos (by decide)
  cases b
  · exact ⟨fun _ => rfl, fun _ => rfl⟩
  · refine ⟨fun q => ?_, fun q => by cases q⟩
    have := (pk_lEQ (b := 0) (by simpa using h1) (by decide)).mp q
    simp at this
theorem lN_and {f g : Nat → Bool} {n : Nat} (hn : n ≤ 48) : lN (mk f n) &&& lN (mk g n) = lN (mk (fun i => f i && g i) n) := by rw [wb_and (mk64 f hn) (mk64 g hn), mk_and]
theorem lN_or {f g : Nat → Bool} {n : Nat} (hn : n ≤ 48) : lN (mk f n) ||| lN (mk g n) = lN (mk (fun i => f i || g i) n) := by rw [wb_or (mk64 f hn) (mk64 g hn), mk_or]
/-- the rows of a window, by the times as they stand in the array -/
def win (tI : Nat → Int32) (f t : Int32) (i : Nat) : Bool := decide (f ≤ tI i) && decide (tI i < t)
/-- the rows that have a sort -/
def hav (sI : Nat → Int32) (co k : Nat) (i : Nat) : Bool := decide (sI (5 * i + co) = nI k)
def hit (hI : Nat → Int32) (i : Nat) : Bool := decide (¬ hI i = 0)
/-- the class's sets of rows tell what the arrays of the reference hold -/
def RowsOk (n : Nat) (hI sI : Nat → Int32) (hi : Int64) (hv : Nat → Int64) : Prop :=
  n ≤ 48 ∧ hi = lN (mk (hit hI) n) ∧ (∀ co, co < 5 → ∀ k, k < 11 → hv (co * 11 + k) = lN (mk (hav sI co k) n)) ∧ (∀ i, i < n → ∀ co, co < 5 → ∃ k, k < 11 ∧ sI (5 * i + co) = nI k) ∧ ∀ i, i < n → hI i = 0 ∨ hI i = 1
theorem lor_top {f : Nat → Bool} {i : Nat} (h : i < 48) (hf : f i = true) : lN (mk f i) ||| lN (2 ^ i) = lN (mk f (i + 1)) := by
  rw [wb_or (mk64 f (by omega)) (p63 (by omega)), mk_top]
  congr 1
  simp only [mk]
  rw [if_pos hf]
theorem mk_skip {f : Nat → Bool} {i : Nat} (hf : f i = false) : mk f (i + 1) = mk f i := by
  simp only [mk]
  rw [if_neg (by rw [hf]; decide), Nat.add_zero]

set_option maxHeartbeats 4000000 in
set_option maxRecDepth 100000 in
theorem c_Rows_has (l : Launch) (dd : va_G) (cyI cyJ cyZ : ClassId) (qr qt qh n : Nat) (hi : Int64) (tI : Nat → Int32) (hv : Nat → Int64) (a : Int32) : Met l yX2_has wsX2_has ({ frames := 1, cells := 0, slots := 0, locals := 22 } : Room) (va_Pc [.ref qr, .int a] (Rd dd [(cyI, .int), (cyJ, .long), (cyZ, .boolean)] [(qr, .inr (2, [.int (nI n), .long hi, .ref qt, .ref qh])), (qt, .inl (cyI, 48, .inl tI)), (qh, .inl (cyJ, 55, .inr (.inl hv)))])) (vp_Si (fun r => (r = 1 ∧ 0 ≤ a ∧ a ≤ nI n - 1) ∨ (r = 0 ∧ ¬ (0 ≤ a ∧ a ≤ nI n - 1)))) 0 0 (fun _ => False) := by
  refine mkR (cc := cX2_has) (maxL := 2) (by decide) rfl (Nat.le_of_ble_eq_true rfl) (lv0 := [(0, .ref qr), (1, .int a)]) rfl ?_
  intro p e s m below meth c ls hx hb hr hml hown hlocks hts hN hP hK hl
  have hown : s.vm.findClass RX2 = some m.cls := hown
  have hiX2 : ∀ w ∈ wsX20, w ∈ wsX2_has := by decide +kernel
  refine lv_iload_n hx hb dX2_has_0 rfl (lv_at hl 1 rfl) ?_
  refine lv_iconst (v := 0) hx hb dX2_has_1 (by decide) ?_
  refine lv_aload_n hx hb dX2_has_2 rfl (lv_at hl 0 rfl) ?_
  refine va_get (D := dd) (ci := 2) (C := RX2) (T := TX2) (N := 4) (v := .int (nI n)) hx hb hts hiX2 hown hK hP 0 rfl rfl 0 (by decide) (hts (.fieldLink RX2 9 "SliceDrift$Rows" "size" "I") (by decide +kernel)) (fun _ h9 => h9) rfl dX2_has_3 ?_
  refine lv_iconst (v := 1) hx hb dX2_has_6 (by decide) ?_
  refine lv_isub hx hb dX2_has_7 ?_
  refine clNi (As := [.int a, .int 0, .int ((nI n) - 1)]) (rest := []) ⟨hx, hb, hml, hown, hts⟩ (c_isWithin l dd cyI cyJ cyZ a 0 (nI n - 1)) gX2_has_X4_isWithin_n27 (hN.m 6 rfl) (hts (.initialized RX4) (by decide +kernel)) (hts (.static yX4_isWithin) (by decide +kernel)) (n := 3) rfl ⟨rfl, rfl⟩ (by decide +kernel) ⟨Nat.le_of_ble_eq_true rfl, Nat.le_of_ble_eq_true rfl⟩ hN hK (hP.sub [] rfl) rfl hl.1 rfl (Nat.le_of_ble_eq_true rfl) dX2_has_8 ⟨Nat.le_of_ble_eq_true rfl, Nat.le_of_ble_eq_true rfl⟩ (fun r hw => ?_)
  exact edZ hx hb hr hlocks dX2_has_11 (by rcases hw with ⟨h, -⟩ | ⟨h, -⟩ <;> rw [h] <;> rfl) hw

set_option maxHeartbeats 4000000 in
set_option maxRecDepth 100000 in
theorem c_withSort (l : Launch) (dd : va_G) (cyI cyJ cyZ : ClassId) (qr qt qh n : Nat) (hi : Int64) (tI : Nat → Int32) (hv : Nat → Int64) (co k : Nat) (hco : co < 5) (hk : k < 11) : Met l yX2_withSort wsX2_withSort ({ frames := 1, cells := 0, slots := 0, locals := 21 } : Room) (va_Pc [.ref qr, .int (nI co), .int (nI k)] (Rd dd [(cyI, .int), (cyJ, .long), (cyZ, .boolean)] [(qr, .inr (2, [.int (nI n), .long hi, .ref qt, .ref qh])), (qt, .inl (cyI, 48, .inl tI)), (qh, .inl (cyJ, 55, .inr (.inl hv)))])) (vp_Sl (fun r => r = hv (co * 11 + k))) 0 0 (fun _ => False) := by
  refine mkR (cc := cX2_withSort) (maxL := 3) (by decide) rfl (Nat.le_of_ble_eq_true rfl) (lv0 := [(0, .ref qr), (1, .int (nI co)), (2, .int (nI k))]) rfl ?_
  intro p e s m below meth c ls hx hb hr hml hown hlocks hts hN hP hK hl
  have hown : s.vm.findClass RX2 = some m.cls := hown
  have hiX2 : ∀ w ∈ wsX20, w ∈ wsX2_withSort := by decide +kernel
  refine lv_aload_n hx hb dX2_withSort_0 rfl (lv_at hl 0 rfl) ?_
  refine va_get (D := dd) (ci := 2) (C := RX2) (T := TX2) (N := 4) (v := .ref qh) hx hb hts hiX2 hown hK hP 0 rfl rfl 3 (by decide) (hts (.fieldLink RX2 23 "SliceDrift$Rows" "having" "[J") (by decide +kernel)) (fun _ h9 => h9) rfl dX2_withSort_1 ?_
  refine lv_iload_n hx hb dX2_withSort_4 rfl (lv_at hl 1 rfl) ?_
  refine lv_iload_n hx hb dX2_withSort_5 rfl (lv_at hl 2 rfl) ?_
  refine clNi (As := [.int (nI co), .int (nI k)]) (rest := [.ref qh]) ⟨hx, hb, hml, hown, hts⟩ (c_conditionOf l dd cyI cyJ cyZ (nI co) (nI k)) gX2_withSort_X4_conditionOf_n31 (hN.m 7 rfl) (hts (.initialized RX4) (by decide +kernel)) (hts (.static yX4_conditionOf) (by decide +kernel)) (n := 2) rfl ⟨rfl, rfl⟩ (by decide +kernel) ⟨Nat.le_of_ble_eq_true rfl, Nat.le_of_ble_eq_true rfl⟩ hN hK (hP.sub [] rfl) rfl hl.1 rfl (Nat.le_of_ble_eq_true rfl) dX2_withSort_6 ⟨Nat.le_of_ble_eq_true rfl, Nat.le_of_ble_eq_true rfl⟩ (fun r1 h1 => ?_)
  subst h1
  refine tpi (show (nI co * 11 + nI k : Int32) = nI (co * 11 + k) from by rw [show (11 : Int32) = nI 11 from rfl, pk_mul, nI_add]) ?_
  refine va_lald hx hb hK hP 2 1 rfl rfl (i := nI (co * 11 + k)) (vp_in_nI (show (co * 11 + k) < 55 from (by omega)) (by decide)) dX2_withSort_9 ?_
  rw [nI_clamp (show (co * 11 + k) < 2 ^ 31 from Nat.lt_trans (show (co * 11 + k) < 55 from (by omega)) (by decide))]
  exact edL hx hb hr hlocks dX2_withSort_10 rfl

set_option maxHeartbeats 4000000 in
set_option maxRecDepth 100000 in
theorem c_sortAt (l : Launch) (dd : va_G) (cyI cyJ cyZ : ClassId) (qr qt qh n : Nat) (hi : Int64) (tI : Nat → Int32) (hv : Nat → Int64) (hI sI : Nat → Int32) (hR : RowsOk n hI sI hi hv) (i co : Nat) (hin : i < n) (hco : co < 5) : Met l yX2_sortAt wsX2_sortAt ({ frames := 2, cells := 0, slots := 0, locals := 43 } : Room) (va_Pc [.ref qr, .int (nI i), .int (nI co)] (Rd dd [(cyI, .int), (cyJ, .long), (cyZ, .boolean)] [(qr, .inr (2, [.int (nI n), .long hi, .ref qt, .ref qh])), (qt, .inl (cyI, 48, .inl tI)), (qh, .inl (cyJ, 55, .inr (.inl hv)))])) (vp_Si (fun r => r = sI (5 * i + co))) 0 0 (fun _ => False) := by
  refine mkR (cc := cX2_sortAt) (maxL := 4) (by decide) rfl (Nat.le_of_ble_eq_true rfl) (lv0 := [(0, .ref qr), (1, .int (nI i)), (2, .int (nI co))]) rfl ?_
  intro p e s m below meth c ls hx hb hr hml hown hlocks hts hN hP hK hl
  have hown : s.vm.findClass RX2 = some m.cls := hown
  have hiX2 : ∀ w ∈ wsX20, w ∈ wsX2_sortAt := by decide +kernel
  obtain ⟨hn, -, hH, hS, -⟩ := hR
  refine lv_iconst (v := 0) hx hb dX2_sortAt_0 (by decide) ?_
  refine lv_istore_n (lv' := [(3, .int 0), (0, .ref qr), (1, .int (nI i)), (2, .int (nI co))]) hx hb dX2_sortAt_1 rfl hl (by decide) rfl (fun ls hl => ?_)
  have loop : ∀ (k : Nat) (v : Nat), v + k = 10 → (∀ j, j < v → ¬ sI (5 * i + co) = nI j) → ∀ ls : Array Slot, lv_has ls 4 [(3, .int (nI v)), (0, .ref qr), (1, .int (nI i)), (2, .int (nI co))] → W p l e ({ frames := 2, cells := 0, slots := 0, locals := 43 } : Room) s m ([.ref qr, .int (nI i), .int (nI co)] : List Value).toArray below meth c s.heap [] 0 0 (MQ below (vp_Si (fun r => r = sI (5 * i + co))) ([.ref qr, .int (nI i), .int (nI co)] : List Value).toArray s 0 0 (fun _ => False)) (F0 m 2 ls []) := by
    intro k
    induction k with
    | zero =>
      intro v hv9 hno ls hl
      refine lv_iload_n hx hb dX2_sortAt_2 rfl (lv_at hl 0 rfl) ?_
      refine lv_bipush (v := 10) hx hb dX2_sortAt_3 (by decide) ?_
      refine lv_icmp_ge (tgt := 31) hx hb dX2_sortAt_5 (by decide) (fun q => ?_) (fun q => ?_)
      · refine lv_bipush (v := 10) hx hb dX2_sortAt_31 (by decide) ?_
        obtain ⟨j, hj, ej⟩ := hS i hin co hco
        have hj9 : j = 10 := (Nat.lt_or_ge j v).elim (fun h => absurd ej (hno j h)) (fun h => by omega)
        exact edI hx hb hr hlocks dX2_sortAt_33 (by rw [ej, hj9]; rfl)
      · exact absurd (nI_le (a := 10) (by omega) (by omega)) q
    | succ k ih =>
      intro v hv9 hno ls hl
      refine lv_iload_n hx hb dX2_sortAt_2 rfl (lv_at hl 0 rfl) ?_
      refine lv_bipush (v := 10) hx hb dX2_sortAt_3 (by decide) ?_
      refine lv_icmp_ge (tgt := 31) hx hb dX2_sortAt_5 (by decide) (fun q => ?_) (fun q => ?_)
      · exact absurd q (nI_ge (b := 10) (by omega) (by decide))
      · refine lv_aload_n hx hb dX2_sortAt_8 rfl (lv_at hl 1 rfl) ?_
        refine lv_iload_n hx hb dX2_sortAt_9 rfl (lv_at hl 3 rfl) ?_
        refine lv_iload_n hx hb dX2_sortAt_10 rfl (lv_at hl 0 rfl) ?_
        refine clVl (As := [.int (nI co), .int (nI v)]) (rest := []) (b := qr) (vc := (RX2, TX2, 4)) ⟨hx, hb, hml, hown, hts⟩ (c_withSort l dd cyI cyJ cyZ qr qt qh n hi tI hv co v hco (by omega)) gX2_sortAt_X2_withSort (ci := 2) rfl (q0 := 0) rfl (n := 2) rfl ⟨rfl, rfl⟩ (by decide +kernel) ⟨Nat.le_of_ble_eq_true rfl, Nat.le_of_ble_eq_true rfl⟩ hN hK (hP.sub [0, 1, 2] rfl) rfl hl.1 rfl (Nat.le_of_ble_eq_true rfl) dX2_sortAt_11 ⟨Nat.le_of_ble_eq_true rfl, Nat.le_of_ble_eq_true rfl⟩ (fun r1 h1 => ?_)
        rw [hH co hco v (by omega)] at h1
        subst h1
        refine lv_lconst (v := 1) hx hb dX2_sortAt_14 (by decide) ?_
        refine lv_iload_n hx hb dX2_sortAt_15 rfl (lv_at hl 2 rfl) ?_
        refine lv_lshl hx hb dX2_sortAt_16 rfl ?_
        refine tpl (show (1 <<< ((nI i).toInt64 &&& 63) : Int64) = lN (2 ^ i) from shl1 (by omega)) ?_
        refine lv_land hx hb dX2_sortAt_17 ?_
        refine tpl (show ((lN (mk (hav sI co v) n)) &&& (lN (2 ^ i)) : Int64) = lN (if hav sI co v i = true then 2 ^ i else 0) from mk_tst hin hn) ?_
        refine lv_lconst (v := 0) hx hb dX2_sortAt_18 (by decide) ?_
        refine W.lcmp hx hb dX2_sortAt_19 ?_
        refine lv_if_eq (tgt := 25) hx hb dX2_sortAt_20 (by decide) (fun q2 => ?_) (fun q2 => ?_)
        · refine lv_iinc (v := nI (v + 1)) (lv' := [(3, .int (nI (v + 1))), (0, .ref qr), (1, .int (nI i)), (2, .int (nI co))]) hx hb dX2_sortAt_25 hl (k := 0) rfl (nI_1 v) (by decide) rfl (fun ls hl => ?_)
          refine lv_goto (tgt := 2) hx hb dX2_sortAt_28 (by decide) ?_
          exact ih (v + 1) (by omega) (fun j hj => (Nat.lt_or_ge j v).elim (hno j) (fun h => by rw [show j = v by omega]; exact of_decide_eq_false ((tst0 (by omega)).mp q2))) ls (lv_sub hl [0, 1, 2, 3] rfl)
        · refine lv_iload_n hx hb dX2_sortAt_23 rfl (lv_at hl 0 rfl) ?_
          have hy : hav sI co v i = true := (Bool.not_eq_false _).mp (fun hz => q2 ((tst0 (by omega)).mpr hz))
          exact edI hx hb hr hlocks dX2_sortAt_24 ((of_decide_eq_true hy).symm)
  exact loop 10 0 rfl (fun j h => absurd h (Nat.not_lt_zero j)) ls (lv_sub hl [0, 1, 2, 3] rfl)

set_option maxHeartbeats 4000000 in
set_option maxRecDepth 100000 in
theorem c_between (l : Launch) (dd : va_G) (cyI cyJ cyZ : ClassId) (qr qt qh n : Nat) (hi : Int64) (tI : Nat → Int32) (hv : Nat → Int64) (f t : Int32) (hn : n ≤ 48) : Met l yX2_between wsX2_between ({ frames := 0, cells := 0, slots := 0, locals := 0 } : Room) (va_Pc [.ref qr, .int f, .int t] (Rd dd [(cyI, .int), (cyJ, .long), (cyZ, .boolean)] [(qr, .inr (2, [.int (nI n), .long hi, .ref qt, .ref qh])), (qt, .inl (cyI, 48, .inl tI)), (qh, .inl (cyJ, 55, .inr (.inl hv)))])) (vp_Sl (fun r => r = lN (mk (win tI f t) n))) 0 0 (fun _ => False) := by
  refine mkR (cc := cX2_between) (maxL := 6) (by decide) rfl (Nat.le_of_ble_eq_true rfl) (lv0 := [(0, .ref qr), (1, .int f), (2, .int t)]) rfl ?_
  intro p e s m below meth c ls hx hb hr hml hown hlocks hts hN hP hK hl
  have hown : s.vm.findClass RX2 = some m.cls := hown
  have hiX2 : ∀ w ∈ wsX20, w ∈ wsX2_between := by decide +kernel
  refine lv_lconst (v := 0) hx hb dX2_between_0 (by decide) ?_
  refine lv_lstore_n (lv' := [(3, .long 0), (0, .ref qr), (1, .int f), (2, .int t)]) hx hb dX2_between_1 rfl hl (by decide) rfl (fun ls hl => ?_)
  refine lv_iconst (v := 0) hx hb dX2_between_2 (by decide) ?_
  refine lv_istore (lv' := [(5, .int 0), (3, .long 0), (0, .ref qr), (1, .int f), (2, .int t)]) hx hb dX2_between_3 hl (by decide) rfl (fun ls hl => ?_)
  have loop : ∀ (k : Nat) (i : Nat), i + k = n → ∀ ls : Array Slot, lv_has ls 6 [(5, .int (nI i)), (3, .long (lN (mk (win tI f t) i))), (0, .ref qr), (1, .int f), (2, .int t)] → W p l e ({ frames := 0, cells := 0, slots := 0, locals := 0 } : Room) s m ([.ref qr, .int f, .int t] : List Value).toArray below meth c s.heap [] 0 0 (MQ below (vp_Sl (fun r => r = lN (mk (win tI f t) n))) ([.ref qr, .int f, .int t] : List Value).toArray s 0 0 (fun _ => False)) (F0 m 5 ls []) := by
    intro k
    induction k with
    | zero =>
      intro i hi9 ls hl
      refine lv_iload hx hb dX2_between_5 (lv_at hl 0 rfl) ?_
      refine lv_aload_n hx hb dX2_between_7 rfl (lv_at hl 2 rfl) ?_
      refine va_get (D := dd) (ci := 2) (C := RX2) (T := TX2) (N := 4) (v := .int (nI n)) hx hb hts hiX2 hown hK hP 0 rfl rfl 0 (by decide) (hts (.fieldLink RX2 9 "SliceDrift$Rows" "size" "I") (by decide +kernel)) (fun _ h9 => h9) rfl dX2_between_8 ?_
      refine lv_icmp_ge (tgt := 49) hx hb dX2_between_11 (by decide) (fun q => ?_) (fun q => ?_)
      · refine lv_lload_n hx hb dX2_between_49 rfl (lv_at hl 1 rfl) ?_
        exact edL hx hb hr hlocks dX2_between_50 (by rw [show n = i by omega])
      · exact absurd (nI_le (show n ≤ i by omega) (by omega)) q
    | succ k ih =>
      intro i hi9 ls hl
      refine lv_iload hx hb dX2_between_5 (lv_at hl 0 rfl) ?_
      refine lv_aload_n hx hb dX2_between_7 rfl (lv_at hl 2 rfl) ?_
      refine va_get (D := dd) (ci := 2) (C := RX2) (T := TX2) (N := 4) (v := .int (nI n)) hx hb hts hiX2 hown hK hP 0 rfl rfl 0 (by decide) (hts (.fieldLink RX2 9 "SliceDrift$Rows" "size" "I") (by decide +kernel)) (fun _ h9 => h9) rfl dX2_between_8 ?_
      refine lv_icmp_ge (tgt := 49) hx hb dX2_between_11 (by decide) (fun q => ?_) (fun q => ?_)
      · exact absurd q (nI_ge (show i < n by omega) (by omega))
      · refine lv_aload_n hx hb dX2_between_14 rfl (lv_at hl 2 rfl) ?_
        refine va_get (D := dd) (ci := 2) (C := RX2) (T := TX2) (N := 4) (v := .ref qt) hx hb hts hiX2 hown hK hP 0 rfl rfl 2 (by decide) (hts (.fieldLink RX2 19 "SliceDrift$Rows" "times" "[I") (by decide +kernel)) (fun _ h9 => h9) rfl dX2_between_15 ?_
        refine lv_iload hx hb dX2_between_18 (lv_at hl 0 rfl) ?_
        refine va_iald hx hb hK hP 1 0 rfl rfl (i := nI i) (vp_in_nI (show i < 48 from (by omega)) (by decide)) dX2_between_20 ?_
        rw [nI_clamp (show i < 2 ^ 31 from Nat.lt_trans (show i < 48 from (by omega)) (by decide))]
        refine lv_iload_n hx hb dX2_between_21 rfl (lv_at hl 3 rfl) ?_
        refine lv_icmp_lt (tgt := 43) hx hb dX2_between_22 (by decide) (fun q2 => ?_) (fun q2 => ?_)
        · refine lv_iinc (v := nI (i + 1)) (lv' := [(5, .int (nI (i + 1))), (3, .long (lN (mk (win tI f t) i))), (0, .ref qr), (1, .int f), (2, .int t)]) hx hb dX2_between_43 hl (k := 0) rfl (nI_1 i) (by decide) rfl (fun ls hl => ?_)
          refine lv_goto (tgt := 5) hx hb dX2_between_46 (by decide) ?_
          exact ih (i + 1) (by omega) ls (by rw [mk_skip (f := win tI f t) (i := i) (by simp [win, ilt q2])]; exact (lv_sub hl [0, 1, 2, 3, 4] rfl))
        · refine lv_aload_n hx hb dX2_between_25 rfl (lv_at hl 2 rfl) ?_
          refine va_get (D := dd) (ci := 2) (C := RX2) (T := TX2) (N := 4) (v := .ref qt) hx hb hts hiX2 hown hK hP 0 rfl rfl 2 (by decide) (hts (.fieldLink RX2 19 "SliceDrift$Rows" "times" "[I") (by decide +kernel)) (fun _ h9 => h9) rfl dX2_between_26 ?_
          refine lv_iload hx hb dX2_between_29 (lv_at hl 0 rfl) ?_
          refine va_iald hx hb hK hP 1 0 rfl rfl (i := nI i) (vp_in_nI (show i < 48 from (by omega)) (by decide)) dX2_between_31 ?_
          rw [nI_clamp (show i < 2 ^ 31 from Nat.lt_trans (show i < 48 from (by omega)) (by decide))]
          refine lv_iload_n hx hb dX2_between_32 rfl (lv_at hl 4 rfl) ?_
          refine lv_icmp_ge (tgt := 43) hx hb dX2_between_33 (by decide) (fun q3 => ?_) (fun q3 => ?_)
          · refine lv_iinc (v := nI (i + 1)) (lv' := [(5, .int (nI (i + 1))), (3, .long (lN (mk (win tI f t) i))), (0, .ref qr), (1, .int f), (2, .int t)]) hx hb dX2_between_43 hl (k := 0) rfl (nI_1 i) (by decide) rfl (fun ls hl => ?_)
            refine lv_goto (tgt := 5) hx hb dX2_between_46 (by decide) ?_
            exact ih (i + 1) (by omega) ls (by rw [mk_skip (f := win tI f t) (i := i) (by simp [win, ile q3])]; exact (lv_sub hl [0, 1, 2, 3, 4] rfl))
          · refine lv_lload_n hx hb dX2_between_36 rfl (lv_at hl 1 rfl) ?_
            refine lv_lconst (v := 1) hx hb dX2_between_37 (by decide) ?_
            refine lv_iload hx hb dX2_between_38 (lv_at hl 0 rfl) ?_
            refine lv_lshl hx hb dX2_between_40 rfl ?_
            refine tpl (show (1 <<< ((nI i).toInt64 &&& 63) : Int64) = lN (2 ^ i) from shl1 (by omega)) ?_
            refine lv_lor hx hb dX2_between_41 ?_
            refine tpl (show ((lN (mk (win tI f t) i)) ||| (lN (2 ^ i)) : Int64) = lN (mk (win tI f t) (i + 1)) from lor_top (by omega) (by simp [win, inl q2, inle q3])) ?_
            refine lv_lstore_n (lv' := [(3, .long (lN (mk (win tI f t) (i + 1)))), (5, .int (nI i)), (0, .ref qr), (1, .int f), (2, .int t)]) hx hb dX2_between_42 rfl hl (by decide) rfl (fun ls hl => ?_)
            refine lv_iinc (v := nI (i + 1)) (lv' := [(5, .int (nI (i + 1))), (3, .long (lN (mk (win tI f t) (i + 1)))), (0, .ref qr), (1, .int f), (2, .int t)]) hx hb dX2_between_43 hl (k := 1) rfl (nI_1 i) (by decide) rfl (fun ls hl => ?_)
            refine lv_goto (tgt := 5) hx hb dX2_between_46 (by decide) ?_
            exact ih (i + 1) (by omega) ls (lv_sub hl [0, 1, 2, 3, 4] rfl)
  exact loop n 0 (by omega) ls (lv_sub hl [0, 1, 2, 3, 4] rfl)

/-- the rows that lack a value in one of the first columns -/
def lak (sI : Nat → Int32) : Nat → Nat → Bool
  | 0, _ => false
  | co + 1, i => lak sI co i || hav sI co 10 i
theorem lak0 (sI : Nat → Int32) (n : Nat) : mk (lak sI 0) n = 0 := mk_zero.mpr (fun _ _ => rfl)

set_option maxHeartbeats 4000000 in
set_option maxRecDepth 100000 in
theorem c_lackingSome (l : Launch) (dd : va_G) (cyI cyJ cyZ : ClassId) (qr qt qh n : Nat) (hi : Int64) (tI : Nat → Int32) (hv : Nat → Int64) (hI sI : Nat → Int32) (hR : RowsOk n hI sI hi hv) : Met l yX2_lackingSome wsX2_lackingSome ({ frames := 2, cells := 0, slots := 0, locals := 43 } : Room) (va_Pc [.ref qr] (Rd dd [(cyI, .int), (cyJ, .long), (cyZ, .boolean)] [(qr, .inr (2, [.int (nI n), .long hi, .ref qt, .ref qh])), (qt, .inl (cyI, 48, .inl tI)), (qh, .inl (cyJ, 55, .inr (.inl hv)))])) (vp_Sl (fun r => r = lN (mk (lak sI 5) n))) 0 0 (fun _ => False) := by
  refine mkR (cc := cX2_lackingSome) (maxL := 4) (by decide) rfl (Nat.le_of_ble_eq_true rfl) (lv0 := [(0, .ref qr)]) rfl ?_
  intro p e s m below meth c ls hx hb hr hml hown hlocks hts hN hP hK hl
  have hown : s.vm.findClass RX2 = some m.cls := hown
  have hiX2 : ∀ w ∈ wsX20, w ∈ wsX2_lackingSome := by decide +kernel
  obtain ⟨hn, -, hH, -, -⟩ := hR
  refine lv_lconst (v := 0) hx hb dX2_lackingSome_0 (by decide) ?_
  refine lv_lstore_n (lv' := [(1, .long 0), (0, .ref qr)]) hx hb dX2_lackingSome_1 rfl hl (by decide) rfl (fun ls hl => ?_)
  refine lv_iconst (v := 0) hx hb dX2_lackingSome_2 (by decide) ?_
  refine lv_istore_n (lv' := [(3, .int 0), (1, .long 0), (0, .ref qr)]) hx hb dX2_lackingSome_3 rfl hl (by decide) rfl (fun ls hl => ?_)
  have loop : ∀ (k : Nat) (i : Nat), i + k = 5 → ∀ ls : Array Slot, lv_has ls 4 [(3, .int (nI i)), (1, .long (lN (mk (lak sI i) n))), (0, .ref qr)] → W p l e ({ frames := 2, cells := 0, slots := 0, locals := 43 } : Room) s m ([.ref qr] : List Value).toArray below meth c s.heap [] 0 0 (MQ below (vp_Sl (fun r => r = lN (mk (lak sI 5) n))) ([.ref qr] : List Value).toArray s 0 0 (fun _ => False)) (F0 m 4 ls []) := by
    intro k
    induction k with
    | zero =>
      intro i hi9 ls hl
      refine lv_iload_n hx hb dX2_lackingSome_4 rfl (lv_at hl 0 rfl) ?_
      refine lv_iconst (v := 5) hx hb dX2_lackingSome_5 (by decide) ?_
      refine lv_icmp_ge (tgt := 25) hx hb dX2_lackingSome_6 (by decide) (fun q => ?_) (fun q => ?_)
      · refine lv_lload_n hx hb dX2_lackingSome_25 rfl (lv_at hl 1 rfl) ?_
        exact edL hx hb hr hlocks dX2_lackingSome_26 (by rw [show i = 5 by omega])
      · exact absurd (nI_le (show 5 ≤ i by omega) (by omega)) q
    | succ k ih =>
      intro i hi9 ls hl
      refine lv_iload_n hx hb dX2_lackingSome_4 rfl (lv_at hl 0 rfl) ?_
      refine lv_iconst (v := 5) hx hb dX2_lackingSome_5 (by decide) ?_
      refine lv_icmp_ge (tgt := 25) hx hb dX2_lackingSome_6 (by decide) (fun q => ?_) (fun q => ?_)
      · exact absurd q (nI_ge (show i < 5 by omega) (by decide))
      · refine lv_lload_n hx hb dX2_lackingSome_9 rfl (lv_at hl 1 rfl) ?_
        refine lv_aload_n hx hb dX2_lackingSome_10 rfl (lv_at hl 2 rfl) ?_
        refine lv_iload_n hx hb dX2_lackingSome_11 rfl (lv_at hl 0 rfl) ?_
        refine lv_bipush (v := 10) hx hb dX2_lackingSome_12 (by decide) ?_
        refine clVl (As := [.int (nI i), .int 10]) (rest := [.long (lN (mk (lak sI i) n))]) (b := qr) (vc := (RX2, TX2, 4)) ⟨hx, hb, hml, hown, hts⟩ (c_withSort l dd cyI cyJ cyZ qr qt qh n hi tI hv i 10 (by omega) (by decide)) gX2_lackingSome_X2_withSort (ci := 2) rfl (q0 := 0) rfl (n := 2) rfl ⟨rfl, rfl⟩ (by decide +kernel) ⟨Nat.le_of_ble_eq_true rfl, Nat.le_of_ble_eq_true rfl⟩ hN hK (hP.sub [0, 1, 2] rfl) rfl hl.1 rfl (Nat.le_of_ble_eq_true rfl) dX2_lackingSome_14 ⟨Nat.le_of_ble_eq_true rfl, Nat.le_of_ble_eq_true rfl⟩ (fun r1 h1 => ?_)
        rw [hH i (by omega) 10 (by decide)] at h1
        subst h1
        refine lv_lor hx hb dX2_lackingSome_17 ?_
        refine tpl (show ((lN (mk (lak sI i) n)) ||| (lN (mk (hav sI i 10) n)) : Int64) = lN (mk (lak sI (i + 1)) n) from lN_or hn) ?_
        refine lv_lstore_n (lv' := [(1, .long (lN (mk (lak sI (i + 1)) n))), (3, .int (nI i)), (0, .ref qr)]) hx hb dX2_lackingSome_18 rfl hl (by decide) rfl (fun ls hl => ?_)
        refine lv_iinc (v := nI (i + 1)) (lv' := [(3, .int (nI (i + 1))), (1, .long (lN (mk (lak sI (i + 1)) n))), (0, .ref qr)]) hx hb dX2_lackingSome_19 hl (k := 1) rfl (nI_1 i) (by decide) rfl (fun ls hl => ?_)
        refine lv_goto (tgt := 4) hx hb dX2_lackingSome_22 (by decide) ?_
        exact ih (i + 1) (by omega) ls (lv_sub hl [0, 1, 2] rfl)
  exact loop 5 0 rfl ls (by rw [lak0]; exact (lv_sub hl [0, 1, 2] rfl))
end
section
/-- how many rows of f have the sort k -/
def cs (f : Nat → Bool) (sI : Nat → Int32) (co n k : Nat) : Nat := cnt (fun i => hav sI co k i && f i) n
/-- what stands above in a drift, of the first k sorts -/
def dsu (f g : Nat → Bool) (sI : Nat → Int32) (co n : Nat) : Nat → Nat
  | 0 => 0
  | k + 1 => dsu f g sI co n k + (((cs f sI co n k * cnt g n : Nat) : Int) - ((cs g sI co n k * cnt f n : Nat) : Int)).natAbs
theorem cs_le (f : Nat → Bool) (sI : Nat → Int32) (co n k : Nat) : cs f sI co n k ≤ n := cnt_le _ _
theorem c48 {a b n : Nat} (hn : n ≤ 48) (ha : a ≤ n) (hb : b ≤ n) : a * b ≤ 2304 := Nat.le_trans (Nat.mul_le_mul (Nat.le_trans ha hn) (Nat.le_trans hb hn)) (by decide)
theorem dsu_le (f g : Nat → Bool) (sI : Nat → Int32) (co : Nat) {n : Nat} (hn : n ≤ 48) : ∀ k, dsu f g sI co n k ≤ 2304 * k
  | 0 => Nat.le_refl 0
  | k + 1 => by
    have h := dsu_le f g sI co hn k
    have h1 := c48 hn (cs_le f sI co n k) (cnt_le g n)
    have h2 := c48 hn (cs_le g sI co n k) (cnt_le f n)
    simp only [dsu]
    omega
theorem iabs {a b : Nat} (ha : a < 2 ^ 30) (hb : b < 2 ^ 30) : (if 0 ≤ nI a - nI b then nI a - nI b else 0 - (nI a - nI b)) = nI (((a : Nat) : Int) - ((b : Nat) : Int)).natAbs := by
  have hz : (0 : Int32).toInt = 0 := by decide
  have e := pk_sub_toInt ha hb
  by_cases q : b ≤ a
  · rw [if_pos (by rw [Int32.le_iff_toInt_le, e, hz]; omega), pk_sub q]
    congr 1
    omega
  · rw [if_neg (by rw [Int32.le_iff_toInt_le, e, hz]; omega), show nI a - nI b = -(nI b - nI a) from (Int32.neg_sub ..).symm, pk_sub (by omega : a ≤ b), Int32.zero_sub, Int32.neg_neg]
    congr 1
    omega

set_option maxHeartbeats 4000000 in
set_option maxRecDepth 100000 in
theorem c_driftAbove (l : Launch) (dd : va_G) (cyI cyJ cyZ : ClassId) (qr qt qh n : Nat) (hi : Int64) (tI : Nat → Int32) (hv : Nat → Int64) (hI sI : Nat → Int32) (hR : RowsOk n hI sI hi hv) (co : Nat) (hco : co < 5) (f g : Nat → Bool) : Met l yX2_driftAbove wsX2_driftAbove ({ frames := 2, cells := 0, slots := 0, locals := 43 } : Room) (va_Pc [.ref qr, .int (nI co), .long (lN (mk f n)), .long (lN (mk g n))] (Rd dd [(cyI, .int), (cyJ, .long), (cyZ, .boolean)] [(qr, .inr (2, [.int (nI n), .long hi, .ref qt, .ref qh])), (qt, .inl (cyI, 48, .inl tI)), (qh, .inl (cyJ, 55, .inr (.inl hv)))])) (vp_Si (fun r => r = nI (dsu f g sI co n 11))) 0 0 (fun _ => False) := by
  refine mkR (cc := cX2_driftAbove) (maxL := 12) (by decide) rfl (Nat.le_of_ble_eq_true rfl) (lv0 := [(0, .ref qr), (1, .int (nI co)), (2, .long (lN (mk f n))), (4, .long (lN (mk g n)))]) rfl ?_
  intro p e s m below meth c ls hx hb hr hml hown hlocks hts hN hP hK hl
  have hown : s.vm.findClass RX2 = some m.cls := hown
  have hiX2 : ∀ w ∈ wsX20, w ∈ wsX2_driftAbove := by decide +kernel
  obtain ⟨hn, -, hH, -, -⟩ := hR
  refine lv_lload_n hx hb dX2_driftAbove_0 rfl (lv_at hl 2 rfl) ?_
  refine clSi (As := [.long (lN (mk f n))]) (rest := []) ⟨hx, hb, hml, hown, hts⟩ (c_bitCount l dd cyI cyJ cyZ (mk (f) n) (mk64 _ hn)) gX2_driftAbove_J13_bitCount_95d88 (n := 1) rfl ⟨rfl, rfl⟩ (by decide +kernel) ⟨Nat.le_of_ble_eq_true rfl, Nat.le_of_ble_eq_true rfl⟩ hN hK (hP.sub [] rfl) rfl hl.1 rfl (Nat.le_of_ble_eq_true rfl) dX2_driftAbove_1 ⟨Nat.le_of_ble_eq_true rfl, Nat.le_of_ble_eq_true rfl⟩ (fun r1 hr1 => ?_)
  rw [cnt_mk _ (Nat.le_trans hn (by decide))] at hr1
  subst hr1
  refine lv_istore (lv' := [(6, .int (nI (cnt (f) n))), (0, .ref qr), (1, .int (nI co)), (2, .long (lN (mk f n))), (4, .long (lN (mk g n)))]) hx hb dX2_driftAbove_4 hl (by decide) rfl (fun ls hl => ?_)
  refine lv_lload hx hb dX2_driftAbove_6 (lv_at hl 4 rfl) ?_
  refine clSi (As := [.long (lN (mk g n))]) (rest := []) ⟨hx, hb, hml, hown, hts⟩ (c_bitCount l dd cyI cyJ cyZ (mk (g) n) (mk64 _ hn)) gX2_driftAbove_J13_bitCount_95d88 (n := 1) rfl ⟨rfl, rfl⟩ (by decide +kernel) ⟨Nat.le_of_ble_eq_true rfl, Nat.le_of_ble_eq_true rfl⟩ hN hK (hP.sub [] rfl) rfl hl.1 rfl (Nat.le_of_ble_eq_true rfl) dX2_driftAbove_8 ⟨Nat.le_of_ble_eq_true rfl, Nat.le_of_ble_eq_true rfl⟩ (fun r2 hr2 => ?_)
  rw [cnt_mk _ (Nat.le_trans hn (by decide))] at hr2
  subst hr2
  refine lv_istore (lv' := [(7, .int (nI (cnt (g) n))), (6, .int (nI (cnt (f) n))), (0, .ref qr), (1, .int (nI co)), (2, .long (lN (mk f n))), (4, .long (lN (mk g n)))]) hx hb dX2_driftAbove_11 hl (by decide) rfl (fun ls hl => ?_)
  refine lv_iconst (v := 0) hx hb dX2_driftAbove_13 (by decide) ?_
  refine lv_istore (lv' := [(8, .int 0), (7, .int (nI (cnt (g) n))), (6, .int (nI (cnt (f) n))), (0, .ref qr), (1, .int (nI co)), (2, .long (lN (mk f n))), (4, .long (lN (mk g n)))]) hx hb dX2_driftAbove_14 hl (by decide) rfl (fun ls hl => ?_)
  refine lv_iconst (v := 0) hx hb dX2_driftAbove_16 (by decide) ?_
  refine lv_istore (lv' := [(9, .int 0), (8, .int 0), (7, .int (nI (cnt (g) n))), (6, .int (nI (cnt (f) n))), (0, .ref qr), (1, .int (nI co)), (2, .long (lN (mk f n))), (4, .long (lN (mk g n)))]) hx hb dX2_driftAbove_17 hl (by decide) rfl (fun ls hl => ?_)
  have loop : ∀ (k : Nat) (k9 : Nat), k9 + k = 11 → ∀ ls : Array Slot, lv_has ls 12 [(9, .int (nI k9)), (8, .int (nI (dsu f g sI co n k9))), (7, .int (nI (cnt g n))), (6, .int (nI (cnt f n))), (0, .ref qr), (1, .int (nI co)), (2, .long (lN (mk f n))), (4, .long (lN (mk g n)))] → W p l e ({ frames := 2, cells := 0, slots := 0, locals := 43 } : Room) s m ([.ref qr, .int (nI co), .long (lN (mk f n)), .long (lN (mk g n))] : List Value).toArray below meth c s.heap [] 0 0 (MQ below (vp_Si (fun r => r = nI (dsu f g sI co n 11))) ([.ref qr, .int (nI co), .long (lN (mk f n)), .long (lN (mk g n))] : List Value).toArray s 0 0 (fun _ => False)) (F0 m 19 ls []) := by
    intro k
    induction k with
    | zero =>
      intro k9 hk9 ls hl
      refine lv_iload hx hb dX2_driftAbove_19 (lv_at hl 0 rfl) ?_
      refine lv_bipush (v := 11) hx hb dX2_driftAbove_21 (by decide) ?_
      refine lv_icmp_ge (tgt := 71) hx hb dX2_driftAbove_23 (by decide) (fun q => ?_) (fun q => ?_)
      · refine lv_iload hx hb dX2_driftAbove_71 (lv_at hl 1 rfl) ?_
        exact edI hx hb hr hlocks dX2_driftAbove_73 (by rw [show k9 = 11 by omega])
      · exact absurd (nI_le (show 11 ≤ k9 by omega) (by omega)) q
    | succ k ih =>
      intro k9 hk9 ls hl
      refine lv_iload hx hb dX2_driftAbove_19 (lv_at hl 0 rfl) ?_
      refine lv_bipush (v := 11) hx hb dX2_driftAbove_21 (by decide) ?_
      refine lv_icmp_ge (tgt := 71) hx hb dX2_driftAbove_23 (by decide) (fun q => ?_) (fun q => ?_)
      · exact absurd q (nI_ge (show k9 < 11 by omega) (by decide))
      · refine lv_aload_n hx hb dX2_driftAbove_26 rfl (lv_at hl 4 rfl) ?_
        refine lv_iload_n hx hb dX2_driftAbove_27 rfl (lv_at hl 5 rfl) ?_
        refine lv_iload hx hb dX2_driftAbove_28 (lv_at hl 0 rfl) ?_
        refine clVl (As := [.int (nI co), .int (nI k9)]) (rest := []) (b := qr) (vc := (RX2, TX2, 4)) ⟨hx, hb, hml, hown, hts⟩ (c_withSort l dd cyI cyJ cyZ qr qt qh n hi tI hv co k9 hco (by omega)) gX2_driftAbove_X2_withSort (ci := 2) rfl (q0 := 0) rfl (n := 2) rfl ⟨rfl, rfl⟩ (by decide +kernel) ⟨Nat.le_of_ble_eq_true rfl, Nat.le_of_ble_eq_true rfl⟩ hN hK (hP.sub [0, 1, 2] rfl) rfl hl.1 rfl (Nat.le_of_ble_eq_true rfl) dX2_driftAbove_30 ⟨Nat.le_of_ble_eq_true rfl, Nat.le_of_ble_eq_true rfl⟩ (fun r1 h1 => ?_)
        rw [hH co hco k9 (by omega)] at h1
        subst h1
        refine lv_lstore (lv' := [(10, .long (lN (mk (hav sI co k9) n))), (9, .int (nI k9)), (8, .int (nI (dsu f g sI co n k9))), (7, .int (nI (cnt g n))), (6, .int (nI (cnt f n))), (0, .ref qr), (1, .int (nI co)), (2, .long (lN (mk f n))), (4, .long (lN (mk g n)))]) hx hb dX2_driftAbove_33 hl (by decide) rfl (fun ls hl => ?_)
        refine lv_iload hx hb dX2_driftAbove_35 (lv_at hl 2 rfl) ?_
        refine lv_lload hx hb dX2_driftAbove_37 (lv_at hl 0 rfl) ?_
        refine lv_lload_n hx hb dX2_driftAbove_39 rfl (lv_at hl 7 rfl) ?_
        refine lv_land hx hb dX2_driftAbove_40 ?_
        refine tpl (show ((lN (mk (hav sI co k9) n)) &&& (lN (mk f n)) : Int64) = lN (mk (fun i => hav sI co k9 i && f i) n) from lN_and hn) ?_
        refine clSi (As := [.long (lN (mk (fun i => hav sI co k9 i && f i) n))]) (rest := [.int (nI (dsu f g sI co n k9))]) ⟨hx, hb, hml, hown, hts⟩ (c_bitCount l dd cyI cyJ cyZ (mk (fun i => hav sI co k9 i && f i) n) (mk64 _ hn)) gX2_driftAbove_J13_bitCount_95d88 (n := 1) rfl ⟨rfl, rfl⟩ (by decide +kernel) ⟨Nat.le_of_ble_eq_true rfl, Nat.le_of_ble_eq_true rfl⟩ hN hK (hP.sub [] rfl) rfl hl.1 rfl (Nat.le_of_ble_eq_true rfl) dX2_driftAbove_41 ⟨Nat.le_of_ble_eq_true rfl, Nat.le_of_ble_eq_true rfl⟩ (fun r3 hr3 => ?_)
        rw [cnt_mk _ (Nat.le_trans hn (by decide))] at hr3
        subst hr3
        refine lv_iload hx hb dX2_driftAbove_44 (lv_at hl 3 rfl) ?_
        refine lv_imul hx hb dX2_driftAbove_46 ?_
        refine tpi (show ((nI (cnt (fun i => hav sI co k9 i && f i) n)) * (nI (cnt g n)) : Int32) = nI (cs f sI co n k9 * cnt g n) from pk_mul _ _) ?_
        refine lv_lload hx hb dX2_driftAbove_47 (lv_at hl 0 rfl) ?_
        refine lv_lload hx hb dX2_driftAbove_49 (lv_at hl 8 rfl) ?_
        refine lv_land hx hb dX2_driftAbove_51 ?_
        refine tpl (show ((lN (mk (hav sI co k9) n)) &&& (lN (mk g n)) : Int64) = lN (mk (fun i => hav sI co k9 i && g i) n) from lN_and hn) ?_
        refine clSi (As := [.long (lN (mk (fun i => hav sI co k9 i && g i) n))]) (rest := [.int (nI (cs f sI co n k9 * cnt g n)), .int (nI (dsu f g sI co n k9))]) ⟨hx, hb, hml, hown, hts⟩ (c_bitCount l dd cyI cyJ cyZ (mk (fun i => hav sI co k9 i && g i) n) (mk64 _ hn)) gX2_driftAbove_J13_bitCount_95d88 (n := 1) rfl ⟨rfl, rfl⟩ (by decide +kernel) ⟨Nat.le_of_ble_eq_true rfl, Nat.le_of_ble_eq_true rfl⟩ hN hK (hP.sub [] rfl) rfl hl.1 rfl (Nat.le_of_ble_eq_true rfl) dX2_driftAbove_52 ⟨Nat.le_of_ble_eq_true rfl, Nat.le_of_ble_eq_true rfl⟩ (fun r4 hr4 => ?_)
        rw [cnt_mk _ (Nat.le_trans hn (by decide))] at hr4
        subst hr4
        refine lv_iload hx hb dX2_driftAbove_55 (lv_at hl 4 rfl) ?_
        refine lv_imul hx hb dX2_driftAbove_57 ?_
        refine tpi (show ((nI (cnt (fun i => hav sI co k9 i && g i) n)) * (nI (cnt f n)) : Int32) = nI (cs g sI co n k9 * cnt f n) from pk_mul _ _) ?_
        refine lv_isub hx hb dX2_driftAbove_58 ?_
        refine va_mabs hx hb (hml.trans hl.1.symm) hown (hts (.methodLink RX2 50 Lib.Math.abs.name) (by decide +kernel)) (hts (.static Lib.Math.abs.name) (by decide +kernel)) (hts (.initialized "java/lang/Math") (by decide +kernel)) (hts (.code Lib.Math.abs.name Lib.Math.abs.code 1 (some .int)) (by decide +kernel)) (Nat.le_of_ble_eq_true rfl) (Nat.le_of_ble_eq_true rfl) (Nat.le_of_ble_eq_true rfl) (Nat.le_of_ble_eq_true rfl) dX2_driftAbove_59 ?_
        have b1 := c48 hn (cs_le f sI co n k9) (cnt_le g n)
        have b2 := c48 hn (cs_le g sI co n k9) (cnt_le f n)
        refine tpi (show (if 0 ≤ ((nI (cs f sI co n k9 * cnt g n)) - (nI (cs g sI co n k9 * cnt f n))) then (nI (cs f sI co n k9 * cnt g n)) - (nI (cs g sI co n k9 * cnt f n)) else 0 - ((nI (cs f sI co n k9 * cnt g n)) - (nI (cs g sI co n k9 * cnt f n))) : Int32) = nI (((cs f sI co n k9 * cnt g n : Nat) : Int) - ((cs g sI co n k9 * cnt f n : Nat) : Int)).natAbs from iabs (by omega) (by omega)) ?_
        refine lv_iadd hx hb dX2_driftAbove_62 ?_
        refine tpi (show ((nI (dsu f g sI co n k9)) + (nI (((cs f sI co n k9 * cnt g n : Nat) : Int) - ((cs g sI co n k9 * cnt f n : Nat) : Int)).natAbs) : Int32) = nI (dsu f g sI co n (k9 + 1)) from nI_add _ _) ?_
        refine lv_istore (lv' := [(8, .int (nI (dsu f g sI co n (k9 + 1)))), (10, .long (lN (mk (hav sI co k9) n))), (9, .int (nI k9)), (7, .int (nI (cnt g n))), (6, .int (nI (cnt f n))), (0, .ref qr), (1, .int (nI co)), (2, .long (lN (mk f n))), (4, .long (lN (mk g n)))]) hx hb dX2_driftAbove_63 hl (by decide) rfl (fun ls hl => ?_)
        refine lv_iinc (v := nI (k9 + 1)) (lv' := [(9, .int (nI (k9 + 1))), (8, .int (nI (dsu f g sI co n (k9 + 1)))), (10, .long (lN (mk (hav sI co k9) n))), (7, .int (nI (cnt g n))), (6, .int (nI (cnt f n))), (0, .ref qr), (1, .int (nI co)), (2, .long (lN (mk f n))), (4, .long (lN (mk g n)))]) hx hb dX2_driftAbove_65 hl (k := 2) rfl (nI_1 k9) (by decide) rfl (fun ls hl => ?_)
        refine lv_goto (tgt := 19) hx hb dX2_driftAbove_68 (by decide) ?_
        exact ih (k9 + 1) (by omega) ls (lv_sub hl [0, 1, 3, 4, 5, 6, 7, 8] rfl)
  exact loop 11 0 rfl ls (lv_sub hl [0, 1, 2, 3, 4, 5, 6, 7] rfl)

/-- how many of the first k columns stand ahead of co by drift -/
def plc (f g : Nat → Bool) (sI : Nat → Int32) (n co : Nat) : Nat → Nat
  | 0 => 0
  | k + 1 => plc f g sI n co k + (if dsu f g sI co n 11 < dsu f g sI k n 11 ∨ (dsu f g sI k n 11 = dsu f g sI co n 11 ∧ k < co) then 1 else 0)
theorem plc_y {f g : Nat → Bool} {sI : Nat → Int32} {n co k : Nat} (h : dsu f g sI co n 11 < dsu f g sI k n 11 ∨ (dsu f g sI k n 11 = dsu f g sI co n 11 ∧ k < co)) : plc f g sI n co (k + 1) = plc f g sI n co k + 1 := by
  simp only [plc]
  rw [if_pos h]
theorem plc_n {f g : Nat → Bool} {sI : Nat → Int32} {n co k : Nat} (h : ¬ (dsu f g sI co n 11 < dsu f g sI k n 11 ∨ (dsu f g sI k n 11 = dsu f g sI co n 11 ∧ k < co))) : plc f g sI n co (k + 1) = plc f g sI n co k := by
  simp only [plc]
  rw [if_neg h, Nat.add_zero]

set_option maxHeartbeats 4000000 in
set_option maxRecDepth 100000 in
theorem c_placeByDrift (l : Launch) (dd : va_G) (cyI cyJ cyZ : ClassId) (qr qt qh n : Nat) (hi : Int64) (tI : Nat → Int32) (hv : Nat → Int64) (hI sI : Nat → Int32) (hR : RowsOk n hI sI hi hv) (co : Nat) (hco : co < 5) (f g : Nat → Bool) : Met l yX2_placeByDrift wsX2_placeByDrift ({ frames := 3, cells := 0, slots := 0, locals := 74 } : Room) (va_Pc [.ref qr, .int (nI co), .long (lN (mk f n)), .long (lN (mk g n))] (Rd dd [(cyI, .int), (cyJ, .long), (cyZ, .boolean)] [(qr, .inr (2, [.int (nI n), .long hi, .ref qt, .ref qh])), (qt, .inl (cyI, 48, .inl tI)), (qh, .inl (cyJ, 55, .inr (.inl hv)))])) (vp_Si (fun r => r = nI (plc f g sI n co 5))) 0 0 (fun _ => False) := by
  refine mkR (cc := cX2_placeByDrift) (maxL := 10) (by decide) rfl (Nat.le_of_ble_eq_true rfl) (lv0 := [(0, .ref qr), (1, .int (nI co)), (2, .long (lN (mk f n))), (4, .long (lN (mk g n)))]) rfl ?_
  intro p e s m below meth c ls hx hb hr hml hown hlocks hts hN hP hK hl
  have hown : s.vm.findClass RX2 = some m.cls := hown
  have hiX2 : ∀ w ∈ wsX20, w ∈ wsX2_placeByDrift := by decide +kernel
  have hn := hR.1
  have hb1 : ∀ o, dsu f g sI o n 11 < 2 ^ 31 := fun o => Nat.lt_of_le_of_lt (dsu_le f g sI o hn 11) (by decide)
  refine lv_aload_n hx hb dX2_placeByDrift_0 rfl (lv_at hl 0 rfl) ?_
  refine lv_iload_n hx hb dX2_placeByDrift_1 rfl (lv_at hl 1 rfl) ?_
  refine lv_lload_n hx hb dX2_placeByDrift_2 rfl (lv_at hl 2 rfl) ?_
  refine lv_lload hx hb dX2_placeByDrift_3 (lv_at hl 3 rfl) ?_
  refine clVi (As := [.int (nI co), .long (lN (mk f n)), .long (lN (mk g n))]) (rest := []) (b := qr) (vc := (RX2, TX2, 4)) ⟨hx, hb, hml, hown, hts⟩ (c_driftAbove l dd cyI cyJ cyZ qr qt qh n hi tI hv hI sI hR co hco f g) gX2_placeByDrift_X2_driftAbove (ci := 2) rfl (q0 := 0) rfl (n := 3) rfl ⟨rfl, rfl⟩ (by decide +kernel) ⟨Nat.le_of_ble_eq_true rfl, Nat.le_of_ble_eq_true rfl⟩ hN hK (hP.sub [0, 1, 2] rfl) rfl hl.1 rfl (Nat.le_of_ble_eq_true rfl) dX2_placeByDrift_5 ⟨Nat.le_of_ble_eq_true rfl, Nat.le_of_ble_eq_true rfl⟩ (fun r1 hr1 => ?_)
  subst hr1
  refine lv_istore (lv' := [(6, .int (nI (dsu f g sI co n 11))), (0, .ref qr), (1, .int (nI co)), (2, .long (lN (mk f n))), (4, .long (lN (mk g n)))]) hx hb dX2_placeByDrift_8 hl (by decide) rfl (fun ls hl => ?_)
  refine lv_iconst (v := 0) hx hb dX2_placeByDrift_10 (by decide) ?_
  refine lv_istore (lv' := [(7, .int 0), (6, .int (nI (dsu f g sI co n 11))), (0, .ref qr), (1, .int (nI co)), (2, .long (lN (mk f n))), (4, .long (lN (mk g n)))]) hx hb dX2_placeByDrift_11 hl (by decide) rfl (fun ls hl => ?_)
  refine lv_iconst (v := 0) hx hb dX2_placeByDrift_13 (by decide) ?_
  refine lv_istore (lv' := [(8, .int 0), (7, .int 0), (6, .int (nI (dsu f g sI co n 11))), (0, .ref qr), (1, .int (nI co)), (2, .long (lN (mk f n))), (4, .long (lN (mk g n)))]) hx hb dX2_placeByDrift_14 hl (by decide) rfl (fun ls hl => ?_)
  have loop : ∀ (k : Nat) (o : Nat), o + k = 5 → ∀ ls : Array Slot, lv_has ls 10 [(8, .int (nI o)), (7, .int (nI (plc f g sI n co o))), (6, .int (nI (dsu f g sI co n 11))), (0, .ref qr), (1, .int (nI co)), (2, .long (lN (mk f n))), (4, .long (lN (mk g n)))] → W p l e ({ frames := 3, cells := 0, slots := 0, locals := 74 } : Room) s m ([.ref qr, .int (nI co), .long (lN (mk f n)), .long (lN (mk g n))] : List Value).toArray below meth c s.heap [] 0 0 (MQ below (vp_Si (fun r => r = nI (plc f g sI n co 5))) ([.ref qr, .int (nI co), .long (lN (mk f n)), .long (lN (mk g n))] : List Value).toArray s 0 0 (fun _ => False)) (F0 m 16 ls []) := by
    intro k
    induction k with
    | zero =>
      intro o ho ls hl
      refine lv_iload hx hb dX2_placeByDrift_16 (lv_at hl 0 rfl) ?_
      refine lv_iconst (v := 5) hx hb dX2_placeByDrift_18 (by decide) ?_
      refine lv_icmp_ge (tgt := 62) hx hb dX2_placeByDrift_19 (by decide) (fun q => ?_) (fun q => ?_)
      · refine lv_iload hx hb dX2_placeByDrift_62 (lv_at hl 1 rfl) ?_
        exact edI hx hb hr hlocks dX2_placeByDrift_64 (by rw [show o = 5 by omega])
      · exact absurd (nI_le (show 5 ≤ o by omega) (by omega)) q
    | succ k ih =>
      intro o ho ls hl
      refine lv_iload hx hb dX2_placeByDrift_16 (lv_at hl 0 rfl) ?_
      refine lv_iconst (v := 5) hx hb dX2_placeByDrift_18 (by decide) ?_
      refine lv_icmp_ge (tgt := 62) hx hb dX2_placeByDrift_19 (by decide) (fun q => ?_) (fun q => ?_)
      · exact absurd q (nI_ge (show o < 5 by omega) (by decide))
      · refine lv_aload_n hx hb dX2_placeByDrift_22 rfl (lv_at hl 3 rfl) ?_
        refine lv_iload hx hb dX2_placeByDrift_23 (lv_at hl 0 rfl) ?_
        refine lv_lload_n hx hb dX2_placeByDrift_25 rfl (lv_at hl 5 rfl) ?_
        refine lv_lload hx hb dX2_placeByDrift_26 (lv_at hl 6 rfl) ?_
        refine clVi (As := [.int (nI o), .long (lN (mk f n)), .long (lN (mk g n))]) (rest := []) (b := qr) (vc := (RX2, TX2, 4)) ⟨hx, hb, hml, hown, hts⟩ (c_driftAbove l dd cyI cyJ cyZ qr qt qh n hi tI hv hI sI hR o (by omega) f g) gX2_placeByDrift_X2_driftAbove (ci := 2) rfl (q0 := 0) rfl (n := 3) rfl ⟨rfl, rfl⟩ (by decide +kernel) ⟨Nat.le_of_ble_eq_true rfl, Nat.le_of_ble_eq_true rfl⟩ hN hK (hP.sub [0, 1, 2] rfl) rfl hl.1 rfl (Nat.le_of_ble_eq_true rfl) dX2_placeByDrift_28 ⟨Nat.le_of_ble_eq_true rfl, Nat.le_of_ble_eq_true rfl⟩ (fun r2 hr2 => ?_)
        subst hr2
        refine lv_istore (lv' := [(9, .int (nI (dsu f g sI o n 11))), (8, .int (nI o)), (7, .int (nI (plc f g sI n co o))), (6, .int (nI (dsu f g sI co n 11))), (0, .ref qr), (1, .int (nI co)), (2, .long (lN (mk f n))), (4, .long (lN (mk g n)))]) hx hb dX2_placeByDrift_31 hl (by decide) rfl (fun ls hl => ?_)
        refine lv_iload hx hb dX2_placeByDrift_33 (lv_at hl 0 rfl) ?_
        refine lv_iload hx hb dX2_placeByDrift_35 (lv_at hl 3 rfl) ?_
        refine lv_icmp_gt (tgt := 53) hx hb dX2_placeByDrift_37 (by decide) (fun q2 => ?_) (fun q2 => ?_)
        · refine lv_iinc (v := nI (plc f g sI n co o + 1)) (lv' := [(7, .int (nI (plc f g sI n co o + 1))), (9, .int (nI (dsu f g sI o n 11))), (8, .int (nI o)), (6, .int (nI (dsu f g sI co n 11))), (0, .ref qr), (1, .int (nI co)), (2, .long (lN (mk f n))), (4, .long (lN (mk g n)))]) hx hb dX2_placeByDrift_53 hl (k := 2) rfl (nI_1 _) (by decide) rfl (fun ls hl => ?_)
          refine lv_iinc (v := nI (o + 1)) (lv' := [(8, .int (nI (o + 1))), (7, .int (nI (plc f g sI n co o + 1))), (9, .int (nI (dsu f g sI o n 11))), (6, .int (nI (dsu f g sI co n 11))), (0, .ref qr), (1, .int (nI co)), (2, .long (lN (mk f n))), (4, .long (lN (mk g n)))]) hx hb dX2_placeByDrift_56 hl (k := 2) rfl (nI_1 o) (by decide) rfl (fun ls hl => ?_)
          refine lv_goto (tgt := 16) hx hb dX2_placeByDrift_59 (by decide) ?_
          exact ih (o + 1) (by omega) ls (by rw [plc_y (Or.inl ((nI_ltI (hb1 co) (hb1 o)).mp q2))]; exact (lv_sub hl [0, 1, 3, 4, 5, 6, 7] rfl))
        · refine lv_iload hx hb dX2_placeByDrift_40 (lv_at hl 0 rfl) ?_
          refine lv_iload hx hb dX2_placeByDrift_42 (lv_at hl 3 rfl) ?_
          refine lv_icmp_ne (tgt := 56) hx hb dX2_placeByDrift_44 (by decide) (fun q3 => ?_) (fun q3 => ?_)
          · refine lv_iinc (v := nI (o + 1)) (lv' := [(8, .int (nI (o + 1))), (9, .int (nI (dsu f g sI o n 11))), (7, .int (nI (plc f g sI n co o))), (6, .int (nI (dsu f g sI co n 11))), (0, .ref qr), (1, .int (nI co)), (2, .long (lN (mk f n))), (4, .long (lN (mk g n)))]) hx hb dX2_placeByDrift_56 hl (k := 1) rfl (nI_1 o) (by decide) rfl (fun ls hl => ?_)
            refine lv_goto (tgt := 16) hx hb dX2_placeByDrift_59 (by decide) ?_
            exact ih (o + 1) (by omega) ls (by rw [plc_n (fun h => h.elim (fun a => q2 (nI_lt a (hb1 o))) (fun a => q3 (by rw [a.1])))]; exact (lv_sub hl [0, 2, 3, 4, 5, 6, 7] rfl))
          · refine lv_iload hx hb dX2_placeByDrift_47 (lv_at hl 1 rfl) ?_
            refine lv_iload_n hx hb dX2_placeByDrift_49 rfl (lv_at hl 5 rfl) ?_
            refine lv_icmp_ge (tgt := 56) hx hb dX2_placeByDrift_50 (by decide) (fun q4 => ?_) (fun q4 => ?_)
            · refine lv_iinc (v := nI (o + 1)) (lv' := [(8, .int (nI (o + 1))), (9, .int (nI (dsu f g sI o n 11))), (7, .int (nI (plc f g sI n co o))), (6, .int (nI (dsu f g sI co n 11))), (0, .ref qr), (1, .int (nI co)), (2, .long (lN (mk f n))), (4, .long (lN (mk g n)))]) hx hb dX2_placeByDrift_56 hl (k := 1) rfl (nI_1 o) (by decide) rfl (fun ls hl => ?_)
              refine lv_goto (tgt := 16) hx hb dX2_placeByDrift_59 (by decide) ?_
              exact ih (o + 1) (by omega) ls (by rw [plc_n (fun h => h.elim (fun a => q2 (nI_lt a (hb1 o))) (fun a => absurd q4 (nI_ge a.2 (by omega))))]; exact (lv_sub hl [0, 2, 3, 4, 5, 6, 7] rfl))
            · refine lv_iinc (v := nI (plc f g sI n co o + 1)) (lv' := [(7, .int (nI (plc f g sI n co o + 1))), (9, .int (nI (dsu f g sI o n 11))), (8, .int (nI o)), (6, .int (nI (dsu f g sI co n 11))), (0, .ref qr), (1, .int (nI co)), (2, .long (lN (mk f n))), (4, .long (lN (mk g n)))]) hx hb dX2_placeByDrift_53 hl (k := 2) rfl (nI_1 _) (by decide) rfl (fun ls hl => ?_)
              refine lv_iinc (v := nI (o + 1)) (lv' := [(8, .int (nI (o + 1))), (7, .int (nI (plc f g sI n co o + 1))), (9, .int (nI (dsu f g sI o n 11))), (6, .int (nI (dsu f g sI co n 11))), (0, .ref qr), (1, .int (nI co)), (2, .long (lN (mk f n))), (4, .long (lN (mk g n)))]) hx hb dX2_placeByDrift_56 hl (k := 2) rfl (nI_1 o) (by decide) rfl (fun ls hl => ?_)
              refine lv_goto (tgt := 16) hx hb dX2_placeByDrift_59 (by decide) ?_
              exact ih (o + 1) (by omega) ls (by rw [plc_y (Or.inr ⟨(nI_eq (hb1 o) (hb1 co)).mp q3, Nat.lt_of_not_le (fun a => q4 (nI_le a (by omega)))⟩)]; exact (lv_sub hl [0, 1, 3, 4, 5, 6, 7] rfl))
  exact loop 5 0 rfl ls (lv_sub hl [0, 1, 2, 3, 4, 5, 6] rfl)
end
section
/-- the sorts behind a new row -/
def nrow (sI : Nat → Int32) (n : Nat) : Nat → Int32 := fun j => if 5 * n ≤ j ∧ j < 5 * n + 5 then nI 10 else sI j
/-- the sets, with row n in the first c columns' last ones -/
def adh (hv : Nat → Int64) (n c : Nat) : Nat → Int64 := fun j => if j % 11 = 10 ∧ j / 11 < c then hv j ||| lN (2 ^ n) else hv j
theorem adh_0 (hv : Nat → Int64) (n : Nat) : adh hv n 0 = hv := by
  funext j
  simp [adh]
theorem adh_s (hv : Nat → Int64) (n c : Nat) : vp_updL (adh hv n c) (c * 11 + 10) (adh hv n c (c * 11 + 10) ||| lN (2 ^ n)) = adh hv n (c + 1) := by
  funext j
  by_cases h : j = c * 11 + 10
  · subst h
    rw [pk_uLs]
    unfold adh
    rw [if_neg (by omega), if_pos (by omega)]
  · rw [pk_uLn h]
    unfold adh
    by_cases q : j % 11 = 10 ∧ j / 11 < c
    · rw [if_pos q, if_pos (by omega)]
    · rw [if_neg q, if_neg (by omega)]
theorem nI_ne {a b : Nat} (ha : a < 2 ^ 31) (hb : b < 2 ^ 31) (h : a ≠ b) : ¬ nI a = nI b := fun q => h ((nI_eq ha hb).mp q)
theorem hav_old {sI : Nat → Int32} {n co k i : Nat} (hi : i < n) (hco : co < 5) : hav (nrow sI n) co k i = hav sI co k i := by
  unfold hav nrow
  rw [if_neg (by omega)]
theorem hav_new {sI : Nat → Int32} {n co k : Nat} (hco : co < 5) : hav (nrow sI n) co k n = decide (nI 10 = nI k) := by
  unfold hav nrow
  rw [if_pos (by omega)]
theorem hit_old {hI : Nat → Int32} {n i : Nat} {z : Int32} (hi : i < n) : hit (upd hI n z) i = hit hI i := by
  unfold hit
  rw [pk_un (by omega)]
theorem hit_new {hI : Nat → Int32} {n : Nat} {z : Int32} : hit (upd hI n z) n = decide (¬ z = 0) := by
  unfold hit
  rw [pk_us]
theorem add_ok {n : Nat} {hI sI : Nat → Int32} {hi : Int64} {hv : Nat → Int64} (h : RowsOk n hI sI hi hv) (hn : n < 48) {z : Int32} (hz : z = 0 ∨ z = 1) : RowsOk (n + 1) (upd hI n z) (nrow sI n) (lN (mk (hit (upd hI n z)) (n + 1))) (adh hv n 5) := by
  obtain ⟨h0, h1, h2, h3, h4⟩ := h
  refine ⟨by omega, rfl, fun co hco k hk => ?_, fun i hi co hco => ?_, fun i hi => ?_⟩
  · have e : mk (hav sI co k) n = mk (hav (nrow sI n) co k) n := mk_congr (fun i hi => (hav_old hi hco).symm)
    by_cases hk10 : k = 10
    · subst hk10
      unfold adh
      rw [if_pos (by omega), h2 co hco 10 hk, e]
      exact lor_top hn (by rw [hav_new hco]; exact decide_eq_true rfl)
    · unfold adh
      rw [if_neg (by omega), h2 co hco k hk, e, mk_skip]
      rw [hav_new hco]
      exact decide_eq_false (nI_ne (by decide) (by omega) (Ne.symm hk10))
  · by_cases hin : i = n
    · subst hin
      exact ⟨10, by decide, by unfold nrow; rw [if_pos (by omega)]⟩
    · obtain ⟨k, hk, e⟩ := h3 i (by omega) co hco
      exact ⟨k, hk, by unfold nrow; rw [if_neg (by omega)]; exact e⟩
  · by_cases hin : i = n
    · subst hin
      rw [pk_us]
      exact hz
    · rw [pk_un hin]
      exact h4 i (by omega)
theorem hits0 {hI : Nat → Int32} {n : Nat} {z : Int32} (hz : z = 0) : lN (mk (hit hI) n) = lN (mk (hit (upd hI n z)) (n + 1)) := by
  rw [mk_skip (by rw [hit_new]; simp [hz]), mk_congr (fun i hi => hit_old (z := z) hi)]
theorem hits1 {hI : Nat → Int32} {n : Nat} {z : Int32} (hn : n < 48) (hz : ¬ z = 0) : lN (mk (hit hI) n) ||| lN (2 ^ n) = lN (mk (hit (upd hI n z)) (n + 1)) := by
  rw [mk_congr (fun i hi => (hit_old (z := z) hi).symm)]
  exact lor_top hn (by rw [hit_new]; simp [hz])

set_option maxHeartbeats 4000000 in
set_option maxRecDepth 100000 in
theorem c_Rows_add (l : Launch) (dd : va_G) (cyI cyJ cyZ : ClassId) (qr qt qh n : Nat) (hi : Int64) (tI : Nat → Int32) (hv : Nat → Int64) (hI sI : Nat → Int32) (hR : RowsOk n hI sI hi hv) (hlt : n < 48) (t0 z : Int32) (hz : z = 0 ∨ z = 1) (sz : Nat) : Met l yX2_add wsX2_add ({ frames := 1, cells := 0, slots := 0, locals := 21 } : Room) (va_Pc [.ref qr, .int t0, .int z] (Wr dd [(cyI, .int), (cyJ, .long), (cyZ, .boolean)] [(qr, .inr (2, [.int (nI n), .long hi, .ref qt, .ref qh])), (qt, .inl (cyI, 48, .inl tI)), (qh, .inl (cyJ, 55, .inr (.inl hv)))] sz)) (va_Qi (S := Int64 × (Nat → Int64)) (fun (r : Int32) (u : Int64 × (Nat → Int64)) => r = nI n ∧ RowsOk (n + 1) (upd hI n z) (nrow sI n) u.1 u.2) (WQ dd [(qr, .inr (2, [.int (nI n), .long hi, .ref qt, .ref qh])), (qt, .inl (cyI, 48, .inl tI)), (qh, .inl (cyJ, 55, .inr (.inl hv)))] sz (fun u => [(qr, .inr (2, [.int (nI (n + 1)), .long u.1, .ref qt, .ref qh])), (qt, .inl (cyI, 48, .inl (upd tI n t0))), (qh, .inl (cyJ, 55, .inr (.inl u.2)))])) (va_A [(qr, .inr (2, [.int (nI n), .long hi, .ref qt, .ref qh])), (qt, .inl (cyI, 48, .inl tI)), (qh, .inl (cyJ, 55, .inr (.inl hv)))] sz)) 0 0 (va_A [(qr, .inr (2, [.int (nI n), .long hi, .ref qt, .ref qh])), (qt, .inl (cyI, 48, .inl tI)), (qh, .inl (cyJ, 55, .inr (.inl hv)))] sz) := by
  refine mkW (Qc := fun A => (va_Qi (S := Int64 × (Nat → Int64)) (fun (r : Int32) (u : Int64 × (Nat → Int64)) => r = nI n ∧ RowsOk (n + 1) (upd hI n z) (nrow sI n) u.1 u.2) (WQ dd [(qr, .inr (2, [.int (nI n), .long hi, .ref qt, .ref qh])), (qt, .inl (cyI, 48, .inl tI)), (qh, .inl (cyJ, 55, .inr (.inl hv)))] sz (fun u => [(qr, .inr (2, [.int (nI (n + 1)), .long u.1, .ref qt, .ref qh])), (qt, .inl (cyI, 48, .inl (upd tI n t0))), (qh, .inl (cyJ, 55, .inr (.inl u.2)))])) A)) (cc := cX2_add) (maxL := 5) (by decide) rfl (Nat.le_of_ble_eq_true rfl) (lv0 := [(0, .ref qr), (1, .int t0), (2, .int z)]) rfl ?_
  intro p e s m below meth c ls H A hx hb hr hml hown hlocks hts hmn hN hP hK hD hS hA hAe hl
  have hown : s.vm.findClass RX2 = some m.cls := hown
  have hiX2 : ∀ w ∈ wsX20, w ∈ wsX2_add := by decide +kernel
  have loop : ∀ (k : Nat) (c9 : Nat) (hh : Int64) (H : Heap) (locs : List Loc), c9 + k = 5 → hh = lN (mk (hit (upd hI n z)) (n + 1)) → va_P dd vwCl [(qr, .inr (2, [.int (nI n), .long hh, .ref qt, .ref qh])), (qt, .inl (cyI, 48, .inl (upd tI n t0))), (qh, .inl (cyJ, 55, .inr (.inl (adh hv n c9))))] H → va_D A [(qr, .inr (2, [.int (nI n), .long hh, .ref qt, .ref qh])), (qt, .inl (cyI, 48, .inl (upd tI n t0))), (qh, .inl (cyJ, 55, .inr (.inl (adh hv n c9))))] → va_S A s.heap H locs → ∀ ls : Array Slot, lv_has ls 5 [(4, .int (nI c9)), (3, .int (nI n)), (0, .ref qr)] → W p l e ({ frames := 1, cells := 0, slots := 0, locals := 21 } : Room) s m ([.ref qr, .int t0, .int z] : List Value).toArray below meth c H locs 0 0 (MQ below (va_Qi (S := Int64 × (Nat → Int64)) (fun (r : Int32) (u : Int64 × (Nat → Int64)) => r = nI n ∧ RowsOk (n + 1) (upd hI n z) (nrow sI n) u.1 u.2) (WQ dd [(qr, .inr (2, [.int (nI n), .long hi, .ref qt, .ref qh])), (qt, .inl (cyI, 48, .inl tI)), (qh, .inl (cyJ, 55, .inr (.inl hv)))] sz (fun u => [(qr, .inr (2, [.int (nI (n + 1)), .long u.1, .ref qt, .ref qh])), (qt, .inl (cyI, 48, .inl (upd tI n t0))), (qh, .inl (cyJ, 55, .inr (.inl u.2)))])) A) ([.ref qr, .int t0, .int z] : List Value).toArray s 0 0 A) (F0 m 31 ls []) := by
    intro k
    induction k with
    | zero =>
      intro c9 hh H locs hc9 hh9 hP hD hS ls hl
      refine lv_iload hx hb dX2_add_31 (lv_at hl 0 rfl) ?_
      refine lv_iconst (v := 5) hx hb dX2_add_33 (by decide) ?_
      refine lv_icmp_ge (tgt := 61) hx hb dX2_add_34 (by decide) (fun q => ?_) (fun q => ?_)
      · refine lv_aload_n hx hb dX2_add_61 rfl (lv_at hl 2 rfl) ?_
        refine lv_dup hx hb dX2_add_62 rfl ?_
        refine va_get (D := dd) (ci := 2) (C := RX2) (T := TX2) (N := 4) (v := .int (nI n)) hx hb hts hiX2 hown hK hP 0 rfl rfl 0 (by decide) (hts (.fieldLink RX2 9 "SliceDrift$Rows" "size" "I") (by decide +kernel)) (fun _ h9 => h9) rfl dX2_add_63 ?_
        refine lv_iconst (v := 1) hx hb dX2_add_66 (by decide) ?_
        refine lv_iadd hx hb dX2_add_67 ?_
        refine tpi (show ((nI n) + 1 : Int32) = nI (n + 1) from nI_1 n) ?_
        refine va_put (D := dd) (ci := 2) (v := .int (nI (n + 1))) (ty := .int) (C := RX2) (T := TX2) (N := 4) hx hb hts hiX2 tyX2 tyX2_ok nmX2 hown hK hP hD hS 0 rfl rfl 0 (by decide) (hts (.fieldLink RX2 9 "SliceDrift$Rows" "size" "I") (by decide +kernel)) (fun _ h9 => h9) rfl (by decide +kernel) rfl rfl (Nat.le_of_ble_eq_true rfl) dX2_add_68 (fun H locs hP hD hS => ?_)
        have hP : va_P dd vwCl [(qr, .inr (2, [.int (nI (n + 1)), .long hh, .ref qt, .ref qh])), (qt, .inl (cyI, 48, .inl (upd tI n t0))), (qh, .inl (cyJ, 55, .inr (.inl (adh hv n c9))))] H := hP
        have hD : va_D A [(qr, .inr (2, [.int (nI (n + 1)), .long hh, .ref qt, .ref qh])), (qt, .inl (cyI, 48, .inl (upd tI n t0))), (qh, .inl (cyJ, 55, .inr (.inl (adh hv n c9))))] := hD
        refine lv_iload_n hx hb dX2_add_71 rfl (lv_at hl 1 rfl) ?_
        subst hh9
        exact ewI (lN (mk (hit (upd hI n z)) (n + 1)), adh hv n c9) hx hb hr hlocks hAe hS dX2_add_72 (⟨rfl, by rw [show c9 = 5 by omega]; exact add_ok hR hlt hz⟩) (hP.sub [0, 1, 2] rfl) (hD.sub [0, 1, 2] (by decide) rfl)
      · exact absurd (nI_le (show 5 ≤ c9 by omega) (by omega)) q
    | succ k ih =>
      intro c9 hh H locs hc9 hh9 hP hD hS ls hl
      refine lv_iload hx hb dX2_add_31 (lv_at hl 0 rfl) ?_
      refine lv_iconst (v := 5) hx hb dX2_add_33 (by decide) ?_
      refine lv_icmp_ge (tgt := 61) hx hb dX2_add_34 (by decide) (fun q => ?_) (fun q => ?_)
      · exact absurd q (nI_ge (show c9 < 5 by omega) (by decide))
      · refine lv_aload_n hx hb dX2_add_37 rfl (lv_at hl 2 rfl) ?_
        refine va_get (D := dd) (ci := 2) (C := RX2) (T := TX2) (N := 4) (v := .ref qh) hx hb hts hiX2 hown hK hP 0 rfl rfl 3 (by decide) (hts (.fieldLink RX2 23 "SliceDrift$Rows" "having" "[J") (by decide +kernel)) (fun _ h9 => h9) rfl dX2_add_38 ?_
        refine lv_iload hx hb dX2_add_41 (lv_at hl 0 rfl) ?_
        refine lv_bipush (v := 10) hx hb dX2_add_43 (by decide) ?_
        refine clNi (As := [.int (nI c9), .int 10]) (rest := [.ref qh]) ⟨hx, hb, hml, hown, hts⟩ (c_conditionOf l dd cyI cyJ cyZ (nI c9) 10) gX2_add_X4_conditionOf_n31 (hN.m 7 rfl) (hts (.initialized RX4) (by decide +kernel)) (hts (.static yX4_conditionOf) (by decide +kernel)) (n := 2) rfl ⟨rfl, rfl⟩ (by decide +kernel) ⟨Nat.le_of_ble_eq_true rfl, Nat.le_of_ble_eq_true rfl⟩ hN hK (hP.sub [] rfl) rfl hl.1 rfl (Nat.le_of_ble_eq_true rfl) dX2_add_45 ⟨Nat.le_of_ble_eq_true rfl, Nat.le_of_ble_eq_true rfl⟩ (fun r1 h1 => ?_)
        subst h1
        refine tpi (show (nI c9 * 11 + 10 : Int32) = nI (c9 * 11 + 10) from by rw [show (11 : Int32) = nI 11 from rfl, show (10 : Int32) = nI 10 from rfl, pk_mul, nI_add]) ?_
        refine lv_dup2_11 hx hb dX2_add_48 rfl rfl ?_
        refine va_lald hx hb hK hP 2 1 rfl rfl (i := nI (c9 * 11 + 10)) (vp_in_nI (show (c9 * 11 + 10) < 55 from (by omega)) (by decide)) dX2_add_49 ?_
        rw [nI_clamp (show (c9 * 11 + 10) < 2 ^ 31 from Nat.lt_trans (show (c9 * 11 + 10) < 55 from (by omega)) (by decide))]
        refine lv_lconst (v := 1) hx hb dX2_add_50 (by decide) ?_
        refine lv_iload_n hx hb dX2_add_51 rfl (lv_at hl 1 rfl) ?_
        refine lv_lshl hx hb dX2_add_52 rfl ?_
        refine tpl (show (1 <<< ((nI n).toInt64 &&& 63) : Int64) = lN (2 ^ n) from shl1 (by omega)) ?_
        refine lv_lor hx hb dX2_add_53 ?_
        refine va_last hx hb hK hP hD hS 2 1 rfl rfl (i := nI (c9 * 11 + 10)) (vp_in_nI (show (c9 * 11 + 10) < 55 from (by omega)) (by decide)) dX2_add_54 (fun H locs hP hD hS => ?_)
        rw [nI_clamp (show (c9 * 11 + 10) < 2 ^ 31 from Nat.lt_trans (show (c9 * 11 + 10) < 55 from (by omega)) (by decide))] at hP hD
        have hP : va_P dd vwCl [(qr, .inr (2, [.int (nI n), .long hh, .ref qt, .ref qh])), (qt, .inl (cyI, 48, .inl (upd tI n t0))), (qh, .inl (cyJ, 55, .inr (.inl (vp_updL (adh hv n c9) (c9 * 11 + 10) (((adh hv n c9) (c9 * 11 + 10)) ||| (lN (2 ^ n)))))))] H := hP
        have hD : va_D A [(qr, .inr (2, [.int (nI n), .long hh, .ref qt, .ref qh])), (qt, .inl (cyI, 48, .inl (upd tI n t0))), (qh, .inl (cyJ, 55, .inr (.inl (vp_updL (adh hv n c9) (c9 * 11 + 10) (((adh hv n c9) (c9 * 11 + 10)) ||| (lN (2 ^ n)))))))] := hD
        rw [adh_s] at hP hD
        refine lv_iinc (v := nI (c9 + 1)) (lv' := [(4, .int (nI (c9 + 1))), (3, .int (nI n)), (0, .ref qr)]) hx hb dX2_add_55 hl (k := 0) rfl (nI_1 c9) (by decide) rfl (fun ls hl => ?_)
        refine lv_goto (tgt := 31) hx hb dX2_add_58 (by decide) ?_
        exact ih (c9 + 1) hh H locs (by omega) hh9 hP hD hS ls (lv_sub hl [0, 1, 2] rfl)
  refine lv_aload_n hx hb dX2_add_0 rfl (lv_at hl 0 rfl) ?_
  refine va_get (D := dd) (ci := 2) (C := RX2) (T := TX2) (N := 4) (v := .int (nI n)) hx hb hts hiX2 hown hK hP 0 rfl rfl 0 (by decide) (hts (.fieldLink RX2 9 "SliceDrift$Rows" "size" "I") (by decide +kernel)) (fun _ h9 => h9) rfl dX2_add_1 ?_
  refine lv_istore_n (lv' := [(3, .int (nI n)), (0, .ref qr), (1, .int t0), (2, .int z)]) hx hb dX2_add_4 rfl hl (by decide) rfl (fun ls hl => ?_)
  refine lv_aload_n hx hb dX2_add_5 rfl (lv_at hl 1 rfl) ?_
  refine va_get (D := dd) (ci := 2) (C := RX2) (T := TX2) (N := 4) (v := .ref qt) hx hb hts hiX2 hown hK hP 0 rfl rfl 2 (by decide) (hts (.fieldLink RX2 19 "SliceDrift$Rows" "times" "[I") (by decide +kernel)) (fun _ h9 => h9) rfl dX2_add_6 ?_
  refine lv_iload_n hx hb dX2_add_9 rfl (lv_at hl 0 rfl) ?_
  refine lv_iload_n hx hb dX2_add_10 rfl (lv_at hl 2 rfl) ?_
  refine va_iast hx hb hK hP hD hS 1 0 rfl rfl (i := nI n) (vp_in_nI (show n < 48 from hlt) (by decide)) dX2_add_11 (fun H locs hP hD hS => ?_)
  rw [nI_clamp (show n < 2 ^ 31 from Nat.lt_trans (show n < 48 from hlt) (by decide))] at hP hD
  have hP : va_P dd vwCl [(qr, .inr (2, [.int (nI n), .long hi, .ref qt, .ref qh])), (qt, .inl (cyI, 48, .inl (upd tI n t0))), (qh, .inl (cyJ, 55, .inr (.inl hv)))] H := hP
  have hD : va_D A [(qr, .inr (2, [.int (nI n), .long hi, .ref qt, .ref qh])), (qt, .inl (cyI, 48, .inl (upd tI n t0))), (qh, .inl (cyJ, 55, .inr (.inl hv)))] := hD
  refine lv_iload_n hx hb dX2_add_12 rfl (lv_at hl 3 rfl) ?_
  have hi9 := hR.2.1
  refine lv_if_eq (tgt := 28) hx hb dX2_add_13 (by decide) (fun q => ?_) (fun q => ?_)
  · refine lv_iconst (v := 0) hx hb dX2_add_28 (by decide) ?_
    refine lv_istore (lv' := [(4, .int 0), (3, .int (nI n)), (0, .ref qr), (1, .int t0), (2, .int z)]) hx hb dX2_add_29 hl (by decide) rfl (fun ls hl => ?_)
    exact loop 5 0 hi H _ rfl (hi9.trans (hits0 q)) (by rw [adh_0]; exact hP) (by rw [adh_0]; exact hD) hS ls (lv_sub hl [0, 1, 2] rfl)
  · refine lv_aload_n hx hb dX2_add_16 rfl (lv_at hl 1 rfl) ?_
    refine lv_dup hx hb dX2_add_17 rfl ?_
    refine va_get (D := dd) (ci := 2) (C := RX2) (T := TX2) (N := 4) (v := .long hi) hx hb hts hiX2 hown hK hP 0 rfl rfl 1 (by decide) (hts (.fieldLink RX2 15 "SliceDrift$Rows" "hits" "J") (by decide +kernel)) (fun _ h9 => h9) rfl dX2_add_18 ?_
    refine lv_lconst (v := 1) hx hb dX2_add_21 (by decide) ?_
    refine lv_iload_n hx hb dX2_add_22 rfl (lv_at hl 0 rfl) ?_
    refine lv_lshl hx hb dX2_add_23 rfl ?_
    refine tpl (show (1 <<< ((nI n).toInt64 &&& 63) : Int64) = lN (2 ^ n) from shl1 (by omega)) ?_
    refine lv_lor hx hb dX2_add_24 ?_
    refine va_put (D := dd) (ci := 2) (v := .long (hi ||| (lN (2 ^ n)))) (ty := .long) (C := RX2) (T := TX2) (N := 4) hx hb hts hiX2 tyX2 tyX2_ok nmX2 hown hK hP hD hS 0 rfl rfl 1 (by decide) (hts (.fieldLink RX2 15 "SliceDrift$Rows" "hits" "J") (by decide +kernel)) (fun _ h9 => h9) rfl (by decide +kernel) rfl rfl (Nat.le_of_ble_eq_true rfl) dX2_add_25 (fun H locs hP hD hS => ?_)
    have hP : va_P dd vwCl [(qr, .inr (2, [.int (nI n), .long (hi ||| (lN (2 ^ n))), .ref qt, .ref qh])), (qt, .inl (cyI, 48, .inl (upd tI n t0))), (qh, .inl (cyJ, 55, .inr (.inl hv)))] H := hP
    have hD : va_D A [(qr, .inr (2, [.int (nI n), .long (hi ||| (lN (2 ^ n))), .ref qt, .ref qh])), (qt, .inl (cyI, 48, .inl (upd tI n t0))), (qh, .inl (cyJ, 55, .inr (.inl hv)))] := hD
    refine lv_iconst (v := 0) hx hb dX2_add_28 (by decide) ?_
    refine lv_istore (lv' := [(4, .int 0), (3, .int (nI n)), (0, .ref qr), (1, .int t0), (2, .int z)]) hx hb dX2_add_29 hl (by decide) rfl (fun ls hl => ?_)
    exact loop 5 0 (hi ||| lN (2 ^ n)) H _ rfl (by rw [hi9]; exact hits1 hlt q) (by rw [adh_0]; exact hP) (by rw [adh_0]; exact hD) hS ls (lv_sub hl [0, 1, 2] rfl)

theorem lgb {a j : Nat} (hj : j < 64) : (lN a).toBitVec.getLsbD j = a.testBit j := by
  rw [wb_tb, BitVec.getLsbD_ofNat]
  simp [hj]
theorem lclr {f : Nat → Bool} {n i : Nat} (hn : n ≤ 48) : lN (mk f n) &&& (lN (2 ^ i) ^^^ (-1)) = lN (mk (fun r => f r && !decide (r = i)) n) := by
  apply wb_inj
  apply BitVec.eq_of_getLsbD_eq
  intro j hj
  rw [Int64.toBitVec_and, Int64.toBitVec_xor, BitVec.getLsbD_and, BitVec.getLsbD_xor, lgb hj, lgb hj, lgb hj, mk_bit, mk_bit, Nat.testBit_two_pow, show (-1 : Int64).toBitVec = BitVec.allOnes 64 from by decide, BitVec.getLsbD_allOnes]
  by_cases h : j = i
  · subst h; simp [hj]
  · simp [h, Ne.symm h, hj]
theorem lset {f : Nat → Bool} {n i : Nat} (hn : n ≤ 48) (hi : i < n) : lN (mk f n) ||| lN (2 ^ i) = lN (mk (fun r => f r || decide (r = i)) n) := by
  rw [wb_or (mk64 f hn) (p63 (by omega)), mk_put f n i hi]
theorem hav_ne {sI : Nat → Int32} {co k i r c2 k2 : Nat} (hco : co < 5) (hc2 : c2 < 5) (h : ¬ (r = i ∧ c2 = co)) : hav (upd sI (5 * i + co) (nI k)) c2 k2 r = hav sI c2 k2 r := by
  unfold hav
  rw [pk_un (by omega)]
theorem hav_eq {sI : Nat → Int32} {co k i k2 : Nat} : hav (upd sI (5 * i + co) (nI k)) co k2 i = decide (nI k = nI k2) := by
  unfold hav
  rw [pk_us]
theorem chg_ok {n : Nat} {hI sI : Nat → Int32} {hi : Int64} {hv : Nat → Int64} (h : RowsOk n hI sI hi hv) {i co k k0 : Nat} (hin : i < n) (hco : co < 5) (hk : k < 11) (hk0 : k0 < 11) (e0 : sI (5 * i + co) = nI k0) {hv1 : Nat → Int64} (e1 : hv1 = vp_updL hv (co * 11 + k0) (hv (co * 11 + k0) &&& (lN (2 ^ i) ^^^ (-1)))) :
    RowsOk n hI (upd sI (5 * i + co) (nI k)) hi (vp_updL hv1 (co * 11 + k) (hv1 (co * 11 + k) ||| lN (2 ^ i))) := by
  obtain ⟨h0, h1, h2, h3, h4⟩ := h
  have d0 : ∀ r, hav sI co k0 r = hav sI co k0 r := fun _ => rfl
  refine ⟨h0, h1, fun c2 hc2 k2 hk2 => ?_, fun r hr c2 hc2 => ?_, h4⟩
  · by_cases q : c2 * 11 + k2 = co * 11 + k
    · have qa : c2 = co := by omega
      have qb : k2 = k := by omega
      subst qa qb
      rw [pk_uLs, e1]
      by_cases q0 : k2 = k0
      · subst q0
        rw [pk_uLs, h2 c2 hc2 k2 hk2, lclr h0, lset h0 hin]
        congr 1
        apply mk_congr
        intro r hr
        by_cases hri : r = i
        · subst hri
          rw [hav_eq]
          simp
        · rw [hav_ne hc2 hc2 (fun z => hri z.1)]
          simp [hri]
      · rw [pk_uLn (by omega), h2 c2 hc2 k2 hk2, lset h0 hin]
        congr 1
        apply mk_congr
        intro r hr
        by_cases hri : r = i
        · subst hri
          rw [hav_eq]
          simp
        · rw [hav_ne hc2 hc2 (fun z => hri z.1)]
          simp [hri]
    · rw [pk_uLn q, e1]
      by_cases q0 : c2 * 11 + k2 = co * 11 + k0
      · have qa : c2 = co := by omega
        have qb : k2 = k0 := by omega
        subst qa qb
        rw [pk_uLs, h2 c2 hc2 k2 hk2, lclr h0]
        congr 1
        apply mk_congr
        intro r hr
        by_cases hri : r = i
        · subst hri
          rw [hav_eq, decide_eq_false (nI_ne (by omega) (by omega) (by omega))]
          simp
        · rw [hav_ne hc2 hc2 (fun z => hri z.1)]
          simp [hri]
      · rw [pk_uLn q0, h2 c2 hc2 k2 hk2]
        congr 1
        apply mk_congr
        intro r hr
        by_cases hri : r = i ∧ c2 = co
        · obtain ⟨rfl, rfl⟩ := hri
          rw [hav_eq, decide_eq_false (nI_ne (by omega) (by omega) (by omega))]
          unfold hav
          rw [e0]
          exact decide_eq_false (nI_ne (by omega) (by omega) (by omega))
        · rw [hav_ne hco hc2 hri]
  · by_cases hri : r = i ∧ c2 = co
    · obtain ⟨rfl, rfl⟩ := hri
      exact ⟨k, hk, pk_us⟩
    · rw [pk_un (by omega)]
      exact h3 r hr c2 hc2

set_option maxHeartbeats 4000000 in
set_option maxRecDepth 100000 in
theorem c_change (l : Launch) (dd : va_G) (cyI cyJ cyZ : ClassId) (qr qt qh n : Nat) (hi : Int64) (tI : Nat → Int32) (hv : Nat → Int64) (hI sI : Nat → Int32) (hR : RowsOk n hI sI hi hv) (i co k : Nat) (hin : i < n) (hco : co < 5) (hk : k < 11) (sz : Nat) : Met l yX2_change wsX2_change ({ frames := 3, cells := 0, slots := 0, locals := 66 } : Room) (va_Pc [.ref qr, .int (nI i), .int (nI co), .int (nI k)] (Wr dd [(cyI, .int), (cyJ, .long), (cyZ, .boolean)] [(qr, .inr (2, [.int (nI n), .long hi, .ref qt, .ref qh])), (qt, .inl (cyI, 48, .inl tI)), (qh, .inl (cyJ, 55, .inr (.inl hv)))] sz)) (va_Qi (S := (Nat → Int64)) (fun (r : Int32) (u : Nat → Int64) => r = sI (5 * i + co) ∧ RowsOk n hI (upd sI (5 * i + co) (nI k)) hi u) (WQ dd [(qr, .inr (2, [.int (nI n), .long hi, .ref qt, .ref qh])), (qt, .inl (cyI, 48, .inl tI)), (qh, .inl (cyJ, 55, .inr (.inl hv)))] sz (fun u => [(qr, .inr (2, [.int (nI n), .long hi, .ref qt, .ref qh])), (qt, .inl (cyI, 48, .inl tI)), (qh, .inl (cyJ, 55, .inr (.inl u)))])) (va_A [(qr, .inr (2, [.int (nI n), .long hi, .ref qt, .ref qh])), (qt, .inl (cyI, 48, .inl tI)), (qh, .inl (cyJ, 55, .inr (.inl hv)))] sz)) 0 0 (va_A [(qr, .inr (2, [.int (nI n), .long hi, .ref qt, .ref qh])), (qt, .inl (cyI, 48, .inl tI)), (qh, .inl (cyJ, 55, .inr (.inl hv)))] sz) := by
  refine mkW (Qc := fun A => (va_Qi (S := (Nat → Int64)) (fun (r : Int32) (u : Nat → Int64) => r = sI (5 * i + co) ∧ RowsOk n hI (upd sI (5 * i + co) (nI k)) hi u) (WQ dd [(qr, .inr (2, [.int (nI n), .long hi, .ref qt, .ref qh])), (qt, .inl (cyI, 48, .inl tI)), (qh, .inl (cyJ, 55, .inr (.inl hv)))] sz (fun u => [(qr, .inr (2, [.int (nI n), .long hi, .ref qt, .ref qh])), (qt, .inl (cyI, 48, .inl tI)), (qh, .inl (cyJ, 55, .inr (.inl u)))])) A)) (cc := cX2_change) (maxL := 5) (by decide) rfl (Nat.le_of_ble_eq_true rfl) (lv0 := [(0, .ref qr), (1, .int (nI i)), (2, .int (nI co)), (3, .int (nI k))]) rfl ?_
  intro p e s m below meth c ls H A hx hb hr hml hown hlocks hts hmn hN hP hK hD hS hA hAe hl
  have hown : s.vm.findClass RX2 = some m.cls := hown
  have hiX2 : ∀ w ∈ wsX20, w ∈ wsX2_change := by decide +kernel
  have hn := hR.1
  obtain ⟨k0, hk0, e0⟩ := hR.2.2.2.1 i hin co hco
  refine lv_aload_n hx hb dX2_change_0 rfl (lv_at hl 0 rfl) ?_
  refine lv_iload_n hx hb dX2_change_1 rfl (lv_at hl 1 rfl) ?_
  refine lv_iload_n hx hb dX2_change_2 rfl (lv_at hl 2 rfl) ?_
  refine clVi (As := [.int (nI i), .int (nI co)]) (rest := []) (b := qr) (vc := (RX2, TX2, 4)) ⟨hx, hb, hml, hown, hts⟩ (c_sortAt l dd cyI cyJ cyZ qr qt qh n hi tI hv hI sI hR i co hin hco) gX2_change_X2_sortAt (ci := 2) rfl (q0 := 0) rfl (n := 2) rfl ⟨rfl, rfl⟩ (by decide +kernel) ⟨Nat.le_of_ble_eq_true rfl, Nat.le_of_ble_eq_true rfl⟩ hN hK (hP.sub [0, 1, 2] rfl) rfl hl.1 rfl (Nat.le_of_ble_eq_true rfl) dX2_change_3 ⟨Nat.le_of_ble_eq_true rfl, Nat.le_of_ble_eq_true rfl⟩ (fun r1 h1 => ?_)
  rw [e0] at h1
  subst h1
  refine lv_istore (lv' := [(4, .int (nI k0)), (0, .ref qr), (1, .int (nI i)), (2, .int (nI co)), (3, .int (nI k))]) hx hb dX2_change_6 hl (by decide) rfl (fun ls hl => ?_)
  refine lv_aload_n hx hb dX2_change_8 rfl (lv_at hl 1 rfl) ?_
  refine va_get (D := dd) (ci := 2) (C := RX2) (T := TX2) (N := 4) (v := .ref qh) hx hb hts hiX2 hown hK hP 0 rfl rfl 3 (by decide) (hts (.fieldLink RX2 23 "SliceDrift$Rows" "having" "[J") (by decide +kernel)) (fun _ h9 => h9) rfl dX2_change_9 ?_
  refine lv_iload_n hx hb dX2_change_12 rfl (lv_at hl 3 rfl) ?_
  refine lv_iload hx hb dX2_change_13 (lv_at hl 0 rfl) ?_
  refine clNi (As := [.int (nI co), .int (nI k0)]) (rest := [.ref qh]) ⟨hx, hb, hml, hown, hts⟩ (c_conditionOf l dd cyI cyJ cyZ (nI co) (nI k0)) gX2_change_X4_conditionOf_n31 (hN.m 7 rfl) (hts (.initialized RX4) (by decide +kernel)) (hts (.static yX4_conditionOf) (by decide +kernel)) (n := 2) rfl ⟨rfl, rfl⟩ (by decide +kernel) ⟨Nat.le_of_ble_eq_true rfl, Nat.le_of_ble_eq_true rfl⟩ hN hK (hP.sub [] rfl) rfl hl.1 rfl (Nat.le_of_ble_eq_true rfl) dX2_change_15 ⟨Nat.le_of_ble_eq_true rfl, Nat.le_of_ble_eq_true rfl⟩ (fun r2 hr2 => ?_)
  subst hr2
  refine tpi (show (nI co * 11 + nI k0 : Int32) = nI (co * 11 + k0) from by rw [show (11 : Int32) = nI 11 from rfl, pk_mul, nI_add]) ?_
  refine lv_dup2_11 hx hb dX2_change_18 rfl rfl ?_
  refine va_lald hx hb hK hP 2 1 rfl rfl (i := nI (co * 11 + k0)) (vp_in_nI (show (co * 11 + k0) < 55 from (by omega)) (by decide)) dX2_change_19 ?_
  rw [nI_clamp (show (co * 11 + k0) < 2 ^ 31 from Nat.lt_trans (show (co * 11 + k0) < 55 from (by omega)) (by decide))]
  refine lv_lconst (v := 1) hx hb dX2_change_20 (by decide) ?_
  refine lv_iload_n hx hb dX2_change_21 rfl (lv_at hl 2 rfl) ?_
  refine lv_lshl hx hb dX2_change_22 rfl ?_
  refine tpl (show (1 <<< ((nI i).toInt64 &&& 63) : Int64) = lN (2 ^ i) from shl1 (by omega)) ?_
  refine lv_ldc2 (v := (-1)) hx hb hown (hts (.constantLong RX2 38 (-1)) (by decide +kernel)) dX2_change_23 ?_
  refine lv_lxor hx hb dX2_change_26 ?_
  refine lv_land hx hb dX2_change_27 ?_
  refine va_last hx hb hK hP hD hS 2 1 rfl rfl (i := nI (co * 11 + k0)) (vp_in_nI (show (co * 11 + k0) < 55 from (by omega)) (by decide)) dX2_change_28 (fun H locs hP hD hS => ?_)
  rw [nI_clamp (show (co * 11 + k0) < 2 ^ 31 from Nat.lt_trans (show (co * 11 + k0) < 55 from (by omega)) (by decide))] at hP hD
  have hP : va_P dd vwCl [(qr, .inr (2, [.int (nI n), .long hi, .ref qt, .ref qh])), (qt, .inl (cyI, 48, .inl tI)), (qh, .inl (cyJ, 55, .inr (.inl (vp_updL hv (co * 11 + k0) ((hv (co * 11 + k0)) &&& ((lN (2 ^ i)) ^^^ (-1)))))))] H := hP
  have hD : va_D A [(qr, .inr (2, [.int (nI n), .long hi, .ref qt, .ref qh])), (qt, .inl (cyI, 48, .inl tI)), (qh, .inl (cyJ, 55, .inr (.inl (vp_updL hv (co * 11 + k0) ((hv (co * 11 + k0)) &&& ((lN (2 ^ i)) ^^^ (-1)))))))] := hD
  obtain ⟨hv1, e1⟩ : ∃ f, f = vp_updL hv (co * 11 + k0) (hv (co * 11 + k0) &&& (lN (2 ^ i) ^^^ (-1))) := ⟨_, rfl⟩
  rw [← e1] at hP hD
  refine lv_aload_n hx hb dX2_change_29 rfl (lv_at hl 1 rfl) ?_
  refine va_get (D := dd) (ci := 2) (C := RX2) (T := TX2) (N := 4) (v := .ref qh) hx hb hts hiX2 hown hK hP 0 rfl rfl 3 (by decide) (hts (.fieldLink RX2 23 "SliceDrift$Rows" "having" "[J") (by decide +kernel)) (fun _ h9 => h9) rfl dX2_change_30 ?_
  refine lv_iload_n hx hb dX2_change_33 rfl (lv_at hl 3 rfl) ?_
  refine lv_iload_n hx hb dX2_change_34 rfl (lv_at hl 4 rfl) ?_
  refine clNi (As := [.int (nI co), .int (nI k)]) (rest := [.ref qh]) ⟨hx, hb, hml, hown, hts⟩ (c_conditionOf l dd cyI cyJ cyZ (nI co) (nI k)) gX2_change_X4_conditionOf_n31 (hN.m 7 rfl) (hts (.initialized RX4) (by decide +kernel)) (hts (.static yX4_conditionOf) (by decide +kernel)) (n := 2) rfl ⟨rfl, rfl⟩ (by decide +kernel) ⟨Nat.le_of_ble_eq_true rfl, Nat.le_of_ble_eq_true rfl⟩ hN hK (hP.sub [] rfl) rfl hl.1 rfl (Nat.le_of_ble_eq_true rfl) dX2_change_35 ⟨Nat.le_of_ble_eq_true rfl, Nat.le_of_ble_eq_true rfl⟩ (fun r3 hr3 => ?_)
  subst hr3
  refine tpi (show (nI co * 11 + nI k : Int32) = nI (co * 11 + k) from by rw [show (11 : Int32) = nI 11 from rfl, pk_mul, nI_add]) ?_
  refine lv_dup2_11 hx hb dX2_change_38 rfl rfl ?_
  refine va_lald hx hb hK hP 2 1 rfl rfl (i := nI (co * 11 + k)) (vp_in_nI (show (co * 11 + k) < 55 from (by omega)) (by decide)) dX2_change_39 ?_
  rw [nI_clamp (show (co * 11 + k) < 2 ^ 31 from Nat.lt_trans (show (co * 11 + k) < 55 from (by omega)) (by decide))]
  refine lv_lconst (v := 1) hx hb dX2_change_40 (by decide) ?_
  refine lv_iload_n hx hb dX2_change_41 rfl (lv_at hl 2 rfl) ?_
  refine lv_lshl hx hb dX2_change_42 rfl ?_
  refine tpl (show (1 <<< ((nI i).toInt64 &&& 63) : Int64) = lN (2 ^ i) from shl1 (by omega)) ?_
  refine lv_lor hx hb dX2_change_43 ?_
  refine va_last hx hb hK hP hD hS 2 1 rfl rfl (i := nI (co * 11 + k)) (vp_in_nI (show (co * 11 + k) < 55 from (by omega)) (by decide)) dX2_change_44 (fun H locs hP hD hS => ?_)
  rw [nI_clamp (show (co * 11 + k) < 2 ^ 31 from Nat.lt_trans (show (co * 11 + k) < 55 from (by omega)) (by decide))] at hP hD
  have hP : va_P dd vwCl [(qr, .inr (2, [.int (nI n), .long hi, .ref qt, .ref qh])), (qt, .inl (cyI, 48, .inl tI)), (qh, .inl (cyJ, 55, .inr (.inl (vp_updL hv1 (co * 11 + k) ((hv1 (co * 11 + k)) ||| (lN (2 ^ i)))))))] H := hP
  have hD : va_D A [(qr, .inr (2, [.int (nI n), .long hi, .ref qt, .ref qh])), (qt, .inl (cyI, 48, .inl tI)), (qh, .inl (cyJ, 55, .inr (.inl (vp_updL hv1 (co * 11 + k) ((hv1 (co * 11 + k)) ||| (lN (2 ^ i)))))))] := hD
  refine lv_iload hx hb dX2_change_45 (lv_at hl 0 rfl) ?_
  exact ewI _ hx hb hr hlocks hAe hS dX2_change_47 (⟨e0.symm, chg_ok hR hin hco hk hk0 e0 e1⟩) (hP.sub [0, 1, 2] rfl) (hD.sub [0, 1, 2] (by decide) rfl)
end
section
/-- the reference's object: the arrays by their addresses, the numbers -/
abbrev mo (a : Nat → Nat) (th ro li fm sm : Int32) (ab be : Int64) (st al : Int32) : List Value := [.int th, .int ro, .ref (a 2), .ref (a 3), .ref (a 4), .int li, .ref (a 6), .ref (a 7), .ref (a 8), .ref (a 9), .ref (a 10), .ref (a 11), .ref (a 12), .ref (a 13), .ref (a 14), .int fm, .int sm, .long ab, .long be, .ref (a 19), .ref (a 20), .ref (a 21), .ref (a 22), .ref (a 23), .int st, .int al, .ref (a 26), .ref (a 27), .ref (a 28), .ref (a 29)]

set_option maxHeartbeats 4000000 in
set_option maxRecDepth 100000 in
theorem r_in (l : Launch) (dd : va_G) (cyI cyJ cyZ : ClassId) (v b c0 : Int32) : Met l yX5_in wsX5_in ({ frames := 0, cells := 0, slots := 0, locals := 0 } : Room) (va_Pc [.int v, .int b, .int c0] (Rd dd [(cyI, .int), (cyJ, .long), (cyZ, .boolean)] [])) (vp_Si (fun r => (r = 1 ∧ b ≤ v ∧ v ≤ c0) ∨ (r = 0 ∧ ¬ (b ≤ v ∧ v ≤ c0)))) 0 0 (fun _ => False) := by
  refine mkR (cc := cX5_in) (maxL := 3) (by decide) rfl (Nat.le_of_ble_eq_true rfl) (lv0 := [(0, .int v), (1, .int b), (2, .int c0)]) rfl ?_
  intro p e s m below meth c ls hx hb hr hml hown hlocks hts hN hP hK hl
  have hown : s.vm.findClass RX5 = some m.cls := hown
  refine lv_iload_n hx hb dX5_in_0 rfl (lv_at hl 0 rfl) ?_
  refine lv_iload_n hx hb dX5_in_1 rfl (lv_at hl 1 rfl) ?_
  refine lv_icmp_lt (tgt := 14) hx hb dX5_in_2 (by decide) (fun k1 => ?_) (fun k1 => ?_)
  · refine lv_iconst (v := 0) hx hb dX5_in_14 (by decide) ?_
    exact edZ hx hb hr hlocks dX5_in_15 rfl (Or.inr ⟨rfl, fun q => ilt k1 q.1⟩)
  · refine lv_iload_n hx hb dX5_in_5 rfl (lv_at hl 0 rfl) ?_
    refine lv_iload_n hx hb dX5_in_6 rfl (lv_at hl 2 rfl) ?_
    refine lv_icmp_gt (tgt := 14) hx hb dX5_in_7 (by decide) (fun k2 => ?_) (fun k2 => ?_)
    · refine lv_iconst (v := 0) hx hb dX5_in_14 (by decide) ?_
      exact edZ hx hb hr hlocks dX5_in_15 rfl (Or.inr ⟨rfl, fun q => ile q.2 k2⟩)
    · refine lv_iconst (v := 1) hx hb dX5_in_10 (by decide) ?_
      refine lv_goto (tgt := 15) hx hb dX5_in_11 (by decide) ?_
      exact edZ hx hb hr hlocks dX5_in_15 rfl (Or.inl ⟨rfl, inl k1, inl k2⟩)

set_option maxHeartbeats 4000000 in
set_option maxRecDepth 100000 in
theorem r_isWindow (l : Launch) (dd : va_G) (cyI cyJ cyZ : ClassId) (f t : Int32) : Met l yX5_isWindow wsX5_isWindow ({ frames := 0, cells := 0, slots := 0, locals := 0 } : Room) (va_Pc [.int f, .int t] (Rd dd [(cyI, .int), (cyJ, .long), (cyZ, .boolean)] [])) (vp_Si (fun r => (r = 1 ∧ 0 ≤ f ∧ f ≤ t ∧ t ≤ 1000) ∨ (r = 0 ∧ ¬ (0 ≤ f ∧ f ≤ t ∧ t ≤ 1000)))) 0 0 (fun _ => False) := by
  refine mkR (cc := cX5_isWindow) (maxL := 2) (by decide) rfl (Nat.le_of_ble_eq_true rfl) (lv0 := [(0, .int f), (1, .int t)]) rfl ?_
  intro p e s m below meth c ls hx hb hr hml hown hlocks hts hN hP hK hl
  have hown : s.vm.findClass RX5 = some m.cls := hown
  refine lv_iload_n hx hb dX5_isWindow_0 rfl (lv_at hl 0 rfl) ?_
  refine lv_if_lt (tgt := 20) hx hb dX5_isWindow_1 (by decide) (fun k1 => ?_) (fun k1 => ?_)
  · refine lv_iconst (v := 0) hx hb dX5_isWindow_20 (by decide) ?_
    exact edZ hx hb hr hlocks dX5_isWindow_21 rfl (Or.inr ⟨rfl, fun q => ilt k1 q.1⟩)
  · refine lv_iload_n hx hb dX5_isWindow_4 rfl (lv_at hl 0 rfl) ?_
    refine lv_iload_n hx hb dX5_isWindow_5 rfl (lv_at hl 1 rfl) ?_
    refine lv_icmp_gt (tgt := 20) hx hb dX5_isWindow_6 (by decide) (fun k2 => ?_) (fun k2 => ?_)
    · refine lv_iconst (v := 0) hx hb dX5_isWindow_20 (by decide) ?_
      exact edZ hx hb hr hlocks dX5_isWindow_21 rfl (Or.inr ⟨rfl, fun q => ile q.2.1 k2⟩)
    · refine lv_iload_n hx hb dX5_isWindow_9 rfl (lv_at hl 1 rfl) ?_
      refine lv_sipush (v := 1000) hx hb dX5_isWindow_10 (by decide) ?_
      refine lv_icmp_gt (tgt := 20) hx hb dX5_isWindow_13 (by decide) (fun k3 => ?_) (fun k3 => ?_)
      · refine lv_iconst (v := 0) hx hb dX5_isWindow_20 (by decide) ?_
        exact edZ hx hb hr hlocks dX5_isWindow_21 rfl (Or.inr ⟨rfl, fun q => ile q.2.2 k3⟩)
      · refine lv_iconst (v := 1) hx hb dX5_isWindow_16 (by decide) ?_
        refine lv_goto (tgt := 21) hx hb dX5_isWindow_17 (by decide) ?_
        exact edZ hx hb hr hlocks dX5_isWindow_21 rfl (Or.inl ⟨rfl, inl k1, inl k2, inl k3⟩)

set_option maxHeartbeats 4000000 in
set_option maxRecDepth 100000 in
theorem r_areWindows (l : Launch) (dd : va_G) (cyI cyJ cyZ : ClassId) (f b t : Int32) : Met l yX5_areWindows wsX5_areWindows ({ frames := 1, cells := 0, slots := 0, locals := 21 } : Room) (va_Pc [.int f, .int b, .int t] (Rd dd [(cyI, .int), (cyJ, .long), (cyZ, .boolean)] [])) (vp_Si (fun r => (r = 1 ∧ 0 ≤ f ∧ f ≤ b ∧ b ≤ t ∧ t ≤ 1000) ∨ (r = 0 ∧ ¬ (0 ≤ f ∧ f ≤ b ∧ b ≤ t ∧ t ≤ 1000)))) 0 0 (fun _ => False) := by
  refine mkR (cc := cX5_areWindows) (maxL := 3) (by decide) rfl (Nat.le_of_ble_eq_true rfl) (lv0 := [(0, .int f), (1, .int b), (2, .int t)]) rfl ?_
  intro p e s m below meth c ls hx hb hr hml hown hlocks hts hN hP hK hl
  have hown : s.vm.findClass RX5 = some m.cls := hown
  have tr : ∀ {x y z : Int32}, x ≤ y → y ≤ z → x ≤ z := fun h1 h2 => by rw [Int32.le_iff_toInt_le] at *; omega
  refine lv_iload_n hx hb dX5_areWindows_0 rfl (lv_at hl 0 rfl) ?_
  refine lv_iload_n hx hb dX5_areWindows_1 rfl (lv_at hl 1 rfl) ?_
  refine clSi (As := [.int f, .int b]) (rest := []) ⟨hx, hb, hml, hown, hts⟩ (r_isWindow l dd cyI cyJ cyZ f b) gX5_areWindows_X5_isWindow (n := 2) rfl ⟨rfl, rfl⟩ (by decide +kernel) ⟨Nat.le_of_ble_eq_true rfl, Nat.le_of_ble_eq_true rfl⟩ hN hK (hP.sub [] rfl) rfl hl.1 rfl (Nat.le_of_ble_eq_true rfl) dX5_areWindows_2 ⟨Nat.le_of_ble_eq_true rfl, Nat.le_of_ble_eq_true rfl⟩ (fun r1 h1 => ?_)
  refine lv_if_eq (tgt := 20) hx hb dX5_areWindows_5 (by decide) (fun q1 => ?_) (fun q1 => ?_)
  · refine lv_iconst (v := 0) hx hb dX5_areWindows_20 (by decide) ?_
    have hn : ¬ (0 ≤ f ∧ f ≤ b ∧ b ≤ 1000) := h1.elim (fun h => absurd (h.1.symm.trans q1) (by decide)) (fun h => h.2)
    exact edZ hx hb hr hlocks dX5_areWindows_21 rfl (Or.inr ⟨rfl, fun h => hn ⟨h.1, h.2.1, tr h.2.2.1 h.2.2.2⟩⟩)
  · have h1 : 0 ≤ f ∧ f ≤ b ∧ b ≤ 1000 := h1.elim (fun h => h.2) (fun h => absurd h.1 q1)
    refine lv_iload_n hx hb dX5_areWindows_8 rfl (lv_at hl 1 rfl) ?_
    refine lv_iload_n hx hb dX5_areWindows_9 rfl (lv_at hl 2 rfl) ?_
    refine clSi (As := [.int b, .int t]) (rest := []) ⟨hx, hb, hml, hown, hts⟩ (r_isWindow l dd cyI cyJ cyZ b t) gX5_areWindows_X5_isWindow (n := 2) rfl ⟨rfl, rfl⟩ (by decide +kernel) ⟨Nat.le_of_ble_eq_true rfl, Nat.le_of_ble_eq_true rfl⟩ hN hK (hP.sub [] rfl) rfl hl.1 rfl (Nat.le_of_ble_eq_true rfl) dX5_areWindows_10 ⟨Nat.le_of_ble_eq_true rfl, Nat.le_of_ble_eq_true rfl⟩ (fun r2 h2 => ?_)
    refine lv_if_eq (tgt := 20) hx hb dX5_areWindows_13 (by decide) (fun q2 => ?_) (fun q2 => ?_)
    · refine lv_iconst (v := 0) hx hb dX5_areWindows_20 (by decide) ?_
      have hn : ¬ (0 ≤ b ∧ b ≤ t ∧ t ≤ 1000) := h2.elim (fun h => absurd (h.1.symm.trans q2) (by decide)) (fun h => h.2)
      exact edZ hx hb hr hlocks dX5_areWindows_21 rfl (Or.inr ⟨rfl, fun h => hn ⟨tr h.1 h.2.1, h.2.2.1, h.2.2.2⟩⟩)
    · have h2 : 0 ≤ b ∧ b ≤ t ∧ t ≤ 1000 := h2.elim (fun h => h.2) (fun h => absurd h.1 q2)
      refine lv_iconst (v := 1) hx hb dX5_areWindows_16 (by decide) ?_
      refine lv_goto (tgt := 21) hx hb dX5_areWindows_17 (by decide) ?_
      exact edZ hx hb hr hlocks dX5_areWindows_21 rfl (Or.inl ⟨rfl, h1.1, h1.2.1, h2.2.1, h2.2.2⟩)

set_option maxHeartbeats 4000000 in
set_option maxRecDepth 100000 in
theorem r_isIn (l : Launch) (dd : va_G) (cyI cyJ cyZ : ClassId) (qm : Nat) (a : Nat → Nat) (th ro li fm sm : Int32) (ab be : Int64) (st al : Int32) (tI : Nat → Int32) (i : Nat) (hi : i < 48) (f t : Int32) : Met l yX5_isIn wsX5_isIn ({ frames := 0, cells := 0, slots := 0, locals := 0 } : Room) (va_Pc [.ref qm, .int (nI i), .int f, .int t] (Rd dd [(cyI, .int), (cyJ, .long), (cyZ, .boolean)] [(qm, .inr (5, mo a th ro li fm sm ab be st al)), (a 2, .inl (cyI, 48, .inl tI))])) (vp_Si (fun r => r = if win tI f t i = true then 1 else 0)) 0 0 (fun _ => False) := by
  refine mkR (cc := cX5_isIn) (maxL := 4) (by decide) rfl (Nat.le_of_ble_eq_true rfl) (lv0 := [(0, .ref qm), (1, .int (nI i)), (2, .int f), (3, .int t)]) rfl ?_
  intro p e s m below meth c ls hx hb hr hml hown hlocks hts hN hP hK hl
  have hown : s.vm.findClass RX5 = some m.cls := hown
  have hiX5 : ∀ w ∈ wsX50, w ∈ wsX5_isIn := by decide +kernel
  refine lv_aload_n hx hb dX5_isIn_0 rfl (lv_at hl 0 rfl) ?_
  refine va_get (D := dd) (ci := 5) (C := RX5) (T := TX5) (N := 30) (v := .ref (a 2)) hx hb hts hiX5 hown hK hP 0 rfl rfl 2 (by decide) (hts (.fieldLink RX5 7 "SliceDriftModel" "time" "[I") (by decide +kernel)) (fun _ h9 => h9) rfl dX5_isIn_1 ?_
  refine lv_iload_n hx hb dX5_isIn_4 rfl (lv_at hl 1 rfl) ?_
  refine va_iald hx hb hK hP 1 0 rfl rfl (i := nI i) (vp_in_nI (show i < 48 from hi) (by decide)) dX5_isIn_5 ?_
  rw [nI_clamp (show i < 2 ^ 31 from Nat.lt_trans (show i < 48 from hi) (by decide))]
  refine lv_iload_n hx hb dX5_isIn_6 rfl (lv_at hl 2 rfl) ?_
  refine lv_icmp_lt (tgt := 24) hx hb dX5_isIn_7 (by decide) (fun q1 => ?_) (fun q1 => ?_)
  · refine lv_iconst (v := 0) hx hb dX5_isIn_24 (by decide) ?_
    exact edZ hx hb hr hlocks dX5_isIn_25 rfl (by rw [if_neg (by simp [win, ilt q1])])
  · refine lv_aload_n hx hb dX5_isIn_10 rfl (lv_at hl 0 rfl) ?_
    refine va_get (D := dd) (ci := 5) (C := RX5) (T := TX5) (N := 30) (v := .ref (a 2)) hx hb hts hiX5 hown hK hP 0 rfl rfl 2 (by decide) (hts (.fieldLink RX5 7 "SliceDriftModel" "time" "[I") (by decide +kernel)) (fun _ h9 => h9) rfl dX5_isIn_11 ?_
    refine lv_iload_n hx hb dX5_isIn_14 rfl (lv_at hl 1 rfl) ?_
    refine va_iald hx hb hK hP 1 0 rfl rfl (i := nI i) (vp_in_nI (show i < 48 from hi) (by decide)) dX5_isIn_15 ?_
    rw [nI_clamp (show i < 2 ^ 31 from Nat.lt_trans (show i < 48 from hi) (by decide))]
    refine lv_iload_n hx hb dX5_isIn_16 rfl (lv_at hl 3 rfl) ?_
    refine lv_icmp_ge (tgt := 24) hx hb dX5_isIn_17 (by decide) (fun q2 => ?_) (fun q2 => ?_)
    · refine lv_iconst (v := 0) hx hb dX5_isIn_24 (by decide) ?_
      exact edZ hx hb hr hlocks dX5_isIn_25 rfl (by rw [if_neg (by simp [win, ile q2])])
    · refine lv_iconst (v := 1) hx hb dX5_isIn_20 (by decide) ?_
      refine lv_goto (tgt := 25) hx hb dX5_isIn_21 (by decide) ?_
      exact edZ hx hb hr hlocks dX5_isIn_25 rfl (by rw [if_pos (by simp [win, inl q1, inle q2])])

set_option maxHeartbeats 4000000 in
set_option maxRecDepth 100000 in
theorem r_rowsOf (l : Launch) (dd : va_G) (cyI cyJ cyZ : ClassId) (qm : Nat) (a : Nat → Nat) (th li fm sm : Int32) (ab be : Int64) (st al : Int32) (n : Nat) (hn : n ≤ 48) (sI : Nat → Int32) (co k : Nat) (hco : co < 5) : Met l yX5_rowsOf wsX5_rowsOf ({ frames := 0, cells := 0, slots := 0, locals := 0 } : Room) (va_Pc [.ref qm, .int (nI co), .int (nI k)] (Rd dd [(cyI, .int), (cyJ, .long), (cyZ, .boolean)] [(qm, .inr (5, mo a th (nI n) li fm sm ab be st al)), (a 4, .inl (cyI, 240, .inl sI))])) (vp_Sl (fun r => r = lN (mk (hav sI co k) n))) 0 0 (fun _ => False) := by
  refine mkR (cc := cX5_rowsOf) (maxL := 6) (by decide) rfl (Nat.le_of_ble_eq_true rfl) (lv0 := [(0, .ref qm), (1, .int (nI co)), (2, .int (nI k))]) rfl ?_
  intro p e s m below meth c ls hx hb hr hml hown hlocks hts hN hP hK hl
  have hown : s.vm.findClass RX5 = some m.cls := hown
  have hiX5 : ∀ w ∈ wsX50, w ∈ wsX5_rowsOf := by decide +kernel
  refine lv_lconst (v := 0) hx hb dX5_rowsOf_0 (by decide) ?_
  refine lv_lstore_n (lv' := [(3, .long 0), (0, .ref qm), (1, .int (nI co)), (2, .int (nI k))]) hx hb dX5_rowsOf_1 rfl hl (by decide) rfl (fun ls hl => ?_)
  refine lv_iconst (v := 0) hx hb dX5_rowsOf_2 (by decide) ?_
  refine lv_istore (lv' := [(5, .int 0), (3, .long 0), (0, .ref qm), (1, .int (nI co)), (2, .int (nI k))]) hx hb dX5_rowsOf_3 hl (by decide) rfl (fun ls hl => ?_)
  have loop : ∀ (k9 : Nat) (i : Nat), i + k9 = n → ∀ ls : Array Slot, lv_has ls 6 [(5, .int (nI i)), (3, .long (lN (mk (hav sI co k) i))), (0, .ref qm), (1, .int (nI co)), (2, .int (nI k))] → W p l e ({ frames := 0, cells := 0, slots := 0, locals := 0 } : Room) s m ([.ref qm, .int (nI co), .int (nI k)] : List Value).toArray below meth c s.heap [] 0 0 (MQ below (vp_Sl (fun r => r = lN (mk (hav sI co k) n))) ([.ref qm, .int (nI co), .int (nI k)] : List Value).toArray s 0 0 (fun _ => False)) (F0 m 5 ls []) := by
    intro k9
    induction k9 with
    | zero =>
      intro i hi9 ls hl
      refine lv_iload hx hb dX5_rowsOf_5 (lv_at hl 0 rfl) ?_
      refine lv_aload_n hx hb dX5_rowsOf_7 rfl (lv_at hl 2 rfl) ?_
      refine va_get (D := dd) (ci := 5) (C := RX5) (T := TX5) (N := 30) (v := .int (nI n)) hx hb hts hiX5 hown hK hP 0 rfl rfl 1 (by decide) (hts (.fieldLink RX5 84 "SliceDriftModel" "rows" "I") (by decide +kernel)) (fun _ h9 => h9) rfl dX5_rowsOf_8 ?_
      refine lv_icmp_ge (tgt := 46) hx hb dX5_rowsOf_11 (by decide) (fun q => ?_) (fun q => ?_)
      · refine lv_lload_n hx hb dX5_rowsOf_46 rfl (lv_at hl 1 rfl) ?_
        exact edL hx hb hr hlocks dX5_rowsOf_47 (by rw [show n = i by omega])
      · exact absurd (nI_le (show n ≤ i by omega) (by omega)) q
    | succ k9 ih =>
      intro i hi9 ls hl
      refine lv_iload hx hb dX5_rowsOf_5 (lv_at hl 0 rfl) ?_
      refine lv_aload_n hx hb dX5_rowsOf_7 rfl (lv_at hl 2 rfl) ?_
      refine va_get (D := dd) (ci := 5) (C := RX5) (T := TX5) (N := 30) (v := .int (nI n)) hx hb hts hiX5 hown hK hP 0 rfl rfl 1 (by decide) (hts (.fieldLink RX5 84 "SliceDriftModel" "rows" "I") (by decide +kernel)) (fun _ h9 => h9) rfl dX5_rowsOf_8 ?_
      refine lv_icmp_ge (tgt := 46) hx hb dX5_rowsOf_11 (by decide) (fun q => ?_) (fun q => ?_)
      · exact absurd q (nI_ge (show i < n by omega) (by omega))
      · refine lv_lload_n hx hb dX5_rowsOf_14 rfl (lv_at hl 1 rfl) ?_
        refine lv_aload_n hx hb dX5_rowsOf_15 rfl (lv_at hl 2 rfl) ?_
        refine va_get (D := dd) (ci := 5) (C := RX5) (T := TX5) (N := 30) (v := .ref (a 4)) hx hb hts hiX5 hown hK hP 0 rfl rfl 4 (by decide) (hts (.fieldLink RX5 17 "SliceDriftModel" "sort" "[I") (by decide +kernel)) (fun _ h9 => h9) rfl dX5_rowsOf_16 ?_
        refine lv_iconst (v := 5) hx hb dX5_rowsOf_19 (by decide) ?_
        refine lv_iload hx hb dX5_rowsOf_20 (lv_at hl 0 rfl) ?_
        refine lv_imul hx hb dX5_rowsOf_22 ?_
        refine lv_iload_n hx hb dX5_rowsOf_23 rfl (lv_at hl 3 rfl) ?_
        refine lv_iadd hx hb dX5_rowsOf_24 ?_
        refine tpi (show ((5 * (nI i)) + (nI co) : Int32) = nI (5 * i + co) from by rw [show (5 : Int32) = nI 5 from rfl, pk_mul, nI_add]) ?_
        refine va_iald hx hb hK hP 1 0 rfl rfl (i := nI (5 * i + co)) (vp_in_nI (show (5 * i + co) < 240 from (by omega)) (by decide)) dX5_rowsOf_25 ?_
        rw [nI_clamp (show (5 * i + co) < 2 ^ 31 from Nat.lt_trans (show (5 * i + co) < 240 from (by omega)) (by decide))]
        refine lv_iload_n hx hb dX5_rowsOf_26 rfl (lv_at hl 4 rfl) ?_
        refine lv_icmp_ne (tgt := 37) hx hb dX5_rowsOf_27 (by decide) (fun q2 => ?_) (fun q2 => ?_)
        · refine lv_lconst (v := 0) hx hb dX5_rowsOf_37 (by decide) ?_
          refine lv_lor hx hb dX5_rowsOf_38 ?_
          refine tpl (show ((lN (mk (hav sI co k) i)) ||| 0 : Int64) = lN (mk (hav sI co k) (i + 1)) from by rw [mk_skip (f := hav sI co k) (decide_eq_false q2), Int64.or_zero]) ?_
          refine lv_lstore_n (lv' := [(3, .long (lN (mk (hav sI co k) (i + 1)))), (5, .int (nI i)), (0, .ref qm), (1, .int (nI co)), (2, .int (nI k))]) hx hb dX5_rowsOf_39 rfl hl (by decide) rfl (fun ls hl => ?_)
          refine lv_iinc (v := nI (i + 1)) (lv' := [(5, .int (nI (i + 1))), (3, .long (lN (mk (hav sI co k) (i + 1)))), (0, .ref qm), (1, .int (nI co)), (2, .int (nI k))]) hx hb dX5_rowsOf_40 hl (k := 1) rfl (nI_1 i) (by decide) rfl (fun ls hl => ?_)
          refine lv_goto (tgt := 5) hx hb dX5_rowsOf_43 (by decide) ?_
          exact ih (i + 1) (by omega) ls (lv_sub hl [0, 1, 2, 3, 4] rfl)
        · refine lv_lconst (v := 1) hx hb dX5_rowsOf_30 (by decide) ?_
          refine lv_iload hx hb dX5_rowsOf_31 (lv_at hl 0 rfl) ?_
          refine lv_lshl hx hb dX5_rowsOf_33 rfl ?_
          refine tpl (show (1 <<< ((nI i).toInt64 &&& 63) : Int64) = lN (2 ^ i) from shl1 (by omega)) ?_
          refine lv_goto (tgt := 38) hx hb dX5_rowsOf_34 (by decide) ?_
          refine lv_lor hx hb dX5_rowsOf_38 ?_
          refine tpl (show ((lN (mk (hav sI co k) i)) ||| (lN (2 ^ i)) : Int64) = lN (mk (hav sI co k) (i + 1)) from lor_top (by omega) (decide_eq_true q2)) ?_
          refine lv_lstore_n (lv' := [(3, .long (lN (mk (hav sI co k) (i + 1)))), (5, .int (nI i)), (0, .ref qm), (1, .int (nI co)), (2, .int (nI k))]) hx hb dX5_rowsOf_39 rfl hl (by decide) rfl (fun ls hl => ?_)
          refine lv_iinc (v := nI (i + 1)) (lv' := [(5, .int (nI (i + 1))), (3, .long (lN (mk (hav sI co k) (i + 1)))), (0, .ref qm), (1, .int (nI co)), (2, .int (nI k))]) hx hb dX5_rowsOf_40 hl (k := 1) rfl (nI_1 i) (by decide) rfl (fun ls hl => ?_)
          refine lv_goto (tgt := 5) hx hb dX5_rowsOf_43 (by decide) ?_
          exact ih (i + 1) (by omega) ls (lv_sub hl [0, 1, 2, 3, 4] rfl)
  exact loop n 0 (by omega) ls (lv_sub hl [0, 1, 2, 3, 4] rfl)

/-- a long's bits as its shifts tell them -/
def bits (b : Int64) (t : Nat → Bool) : Prop := ∀ r, r < 48 → b >>> ((nI r).toInt64 &&& 63) &&& 1 = if t r = true then 1 else 0
theorem shc : ∀ r, r < 48 → (((nI r).toInt64 &&& 63).toBitVec.smod 64).toNat = r := by decide +kernel
theorem bits_lN {x : Nat} (h : x < 2 ^ 62) : bits (lN x) x.testBit := by
  intro r hr
  rw [pf_shr (shc r hr) h, wb_a1 (by have := Nat.div_le_self x (2 ^ r); omega), Nat.testBit_eq_decide_div_mod_eq]
  rcases Nat.mod_two_eq_zero_or_one (x / 2 ^ r) with e | e
  · rw [e]; rfl
  · rw [e]; rfl
theorem bits_m1 : bits (-1) (fun _ => true) := by
  unfold bits
  decide +kernel

set_option maxHeartbeats 4000000 in
set_option maxRecDepth 100000 in
theorem r_countOf (l : Launch) (dd : va_G) (cyI cyJ cyZ : ClassId) (b : Int64) (f : Nat → Bool) (hbt : bits b f) : Met l yX5_countOf wsX5_countOf ({ frames := 0, cells := 0, slots := 0, locals := 0 } : Room) (va_Pc [.long b] (Rd dd [(cyI, .int), (cyJ, .long), (cyZ, .boolean)] [])) (vp_Si (fun r => r = nI (cnt f 48))) 0 0 (fun _ => False) := by
  refine mkR (cc := cX5_countOf) (maxL := 4) (by decide) rfl (Nat.le_of_ble_eq_true rfl) (lv0 := [(0, .long b)]) rfl ?_
  intro p e s m below meth c ls hx hb hr hml hown hlocks hts hN hP hK hl
  have hown : s.vm.findClass RX5 = some m.cls := hown
  refine lv_iconst (v := 0) hx hb dX5_countOf_0 (by decide) ?_
  refine lv_istore_n (lv' := [(2, .int 0), (0, .long b)]) hx hb dX5_countOf_1 rfl hl (by decide) rfl (fun ls hl => ?_)
  refine lv_iconst (v := 0) hx hb dX5_countOf_2 (by decide) ?_
  refine lv_istore_n (lv' := [(3, .int 0), (2, .int 0), (0, .long b)]) hx hb dX5_countOf_3 rfl hl (by decide) rfl (fun ls hl => ?_)
  have loop : ∀ (k : Nat) (i : Nat), i + k = 48 → ∀ ls : Array Slot, lv_has ls 4 [(3, .int (nI i)), (2, .int (nI (cnt f i))), (0, .long b)] → W p l e ({ frames := 0, cells := 0, slots := 0, locals := 0 } : Room) s m ([.long b] : List Value).toArray below meth c s.heap [] 0 0 (MQ below (vp_Si (fun r => r = nI (cnt f 48))) ([.long b] : List Value).toArray s 0 0 (fun _ => False)) (F0 m 4 ls []) := by
    intro k
    induction k with
    | zero =>
      intro i hi9 ls hl
      refine lv_iload_n hx hb dX5_countOf_4 rfl (lv_at hl 0 rfl) ?_
      refine lv_bipush (v := 48) hx hb dX5_countOf_5 (by decide) ?_
      refine lv_icmp_ge (tgt := 25) hx hb dX5_countOf_7 (by decide) (fun q => ?_) (fun q => ?_)
      · refine lv_iload_n hx hb dX5_countOf_25 rfl (lv_at hl 1 rfl) ?_
        exact edI hx hb hr hlocks dX5_countOf_26 (by rw [show i = 48 by omega])
      · exact absurd (nI_le (show 48 ≤ i by omega) (by omega)) q
    | succ k ih =>
      intro i hi9 ls hl
      refine lv_iload_n hx hb dX5_countOf_4 rfl (lv_at hl 0 rfl) ?_
      refine lv_bipush (v := 48) hx hb dX5_countOf_5 (by decide) ?_
      refine lv_icmp_ge (tgt := 25) hx hb dX5_countOf_7 (by decide) (fun q => ?_) (fun q => ?_)
      · exact absurd q (nI_ge (show i < 48 by omega) (by decide))
      · refine lv_iload_n hx hb dX5_countOf_10 rfl (lv_at hl 1 rfl) ?_
        refine lv_lload_n hx hb dX5_countOf_11 rfl (lv_at hl 2 rfl) ?_
        refine lv_iload_n hx hb dX5_countOf_12 rfl (lv_at hl 0 rfl) ?_
        refine lv_lshr hx hb dX5_countOf_13 rfl ?_
        refine lv_lconst (v := 1) hx hb dX5_countOf_14 (by decide) ?_
        refine lv_land hx hb dX5_countOf_15 ?_
        refine tpl (show ((b >>> ((nI i).toInt64 &&& 63)) &&& 1 : Int64) = if f i = true then (1 : Int64) else 0 from hbt i (by omega)) ?_
        refine lv_l2i hx hb dX5_countOf_16 rfl ?_
        refine lv_iadd hx hb dX5_countOf_17 ?_
        refine tpi (show ((nI (cnt f i)) + ((if f i = true then (1 : Int64) else 0).toInt32) : Int32) = nI (cnt f (i + 1)) from by simp only [cnt]; rw [← nI_add]; cases f i <;> rfl) ?_
        refine lv_istore_n (lv' := [(2, .int (nI (cnt f (i + 1)))), (3, .int (nI i)), (0, .long b)]) hx hb dX5_countOf_18 rfl hl (by decide) rfl (fun ls hl => ?_)
        refine lv_iinc (v := nI (i + 1)) (lv' := [(3, .int (nI (i + 1))), (2, .int (nI (cnt f (i + 1)))), (0, .long b)]) hx hb dX5_countOf_19 hl (k := 1) rfl (nI_1 i) (by decide) rfl (fun ls hl => ?_)
        refine lv_goto (tgt := 4) hx hb dX5_countOf_22 (by decide) ?_
        exact ih (i + 1) (by omega) ls (lv_sub hl [0, 1, 2] rfl)
  exact loop 48 0 rfl ls (lv_sub hl [0, 1, 2] rfl)

set_option maxHeartbeats 4000000 in
set_option maxRecDepth 100000 in
theorem r_hitsOf (l : Launch) (dd : va_G) (cyI cyJ cyZ : ClassId) (qm : Nat) (a : Nat → Nat) (th li fm sm : Int32) (ab be : Int64) (st al : Int32) (n : Nat) (hn : n ≤ 48) (hI : Nat → Int32) (b : Int64) (f : Nat → Bool) (hbt : bits b f) : Met l yX5_hitsOf wsX5_hitsOf ({ frames := 0, cells := 0, slots := 0, locals := 0 } : Room) (va_Pc [.ref qm, .long b] (Rd dd [(cyI, .int), (cyJ, .long), (cyZ, .boolean)] [(qm, .inr (5, mo a th (nI n) li fm sm ab be st al)), (a 3, .inl (cyZ, 48, .inl hI))])) (vp_Si (fun r => r = nI (cnt (fun i => f i && hit hI i) n))) 0 0 (fun _ => False) := by
  refine mkR (cc := cX5_hitsOf) (maxL := 5) (by decide) rfl (Nat.le_of_ble_eq_true rfl) (lv0 := [(0, .ref qm), (1, .long b)]) rfl ?_
  intro p e s m below meth c ls hx hb hr hml hown hlocks hts hN hP hK hl
  have hown : s.vm.findClass RX5 = some m.cls := hown
  have hiX5 : ∀ w ∈ wsX50, w ∈ wsX5_hitsOf := by decide +kernel
  refine lv_iconst (v := 0) hx hb dX5_hitsOf_0 (by decide) ?_
  refine lv_istore_n (lv' := [(3, .int 0), (0, .ref qm), (1, .long b)]) hx hb dX5_hitsOf_1 rfl hl (by decide) rfl (fun ls hl => ?_)
  refine lv_iconst (v := 0) hx hb dX5_hitsOf_2 (by decide) ?_
  refine lv_istore (lv' := [(4, .int 0), (3, .int 0), (0, .ref qm), (1, .long b)]) hx hb dX5_hitsOf_3 hl (by decide) rfl (fun ls hl => ?_)
  have loop : ∀ (k : Nat) (i : Nat), i + k = n → ∀ ls : Array Slot, lv_has ls 5 [(4, .int (nI i)), (3, .int (nI (cnt (fun i => f i && hit hI i) i))), (0, .ref qm), (1, .long b)] → W p l e ({ frames := 0, cells := 0, slots := 0, locals := 0 } : Room) s m ([.ref qm, .long b] : List Value).toArray below meth c s.heap [] 0 0 (MQ below (vp_Si (fun r => r = nI (cnt (fun i => f i && hit hI i) n))) ([.ref qm, .long b] : List Value).toArray s 0 0 (fun _ => False)) (F0 m 5 ls []) := by
    intro k
    induction k with
    | zero =>
      intro i hi9 ls hl
      refine lv_iload hx hb dX5_hitsOf_5 (lv_at hl 0 rfl) ?_
      refine lv_aload_n hx hb dX5_hitsOf_7 rfl (lv_at hl 2 rfl) ?_
      refine va_get (D := dd) (ci := 5) (C := RX5) (T := TX5) (N := 30) (v := .int (nI n)) hx hb hts hiX5 hown hK hP 0 rfl rfl 1 (by decide) (hts (.fieldLink RX5 84 "SliceDriftModel" "rows" "I") (by decide +kernel)) (fun _ h9 => h9) rfl dX5_hitsOf_8 ?_
      refine lv_icmp_ge (tgt := 49) hx hb dX5_hitsOf_11 (by decide) (fun q => ?_) (fun q => ?_)
      · refine lv_iload_n hx hb dX5_hitsOf_49 rfl (lv_at hl 1 rfl) ?_
        exact edI hx hb hr hlocks dX5_hitsOf_50 (by rw [show n = i by omega])
      · exact absurd (nI_le (show n ≤ i by omega) (by omega)) q
    | succ k ih =>
      intro i hi9 ls hl
      refine lv_iload hx hb dX5_hitsOf_5 (lv_at hl 0 rfl) ?_
      refine lv_aload_n hx hb dX5_hitsOf_7 rfl (lv_at hl 2 rfl) ?_
      refine va_get (D := dd) (ci := 5) (C := RX5) (T := TX5) (N := 30) (v := .int (nI n)) hx hb hts hiX5 hown hK hP 0 rfl rfl 1 (by decide) (hts (.fieldLink RX5 84 "SliceDriftModel" "rows" "I") (by decide +kernel)) (fun _ h9 => h9) rfl dX5_hitsOf_8 ?_
      refine lv_icmp_ge (tgt := 49) hx hb dX5_hitsOf_11 (by decide) (fun q => ?_) (fun q => ?_)
      · exact absurd q (nI_ge (show i < n by omega) (by omega))
      · refine lv_iload_n hx hb dX5_hitsOf_14 rfl (lv_at hl 1 rfl) ?_
        refine lv_lload_n hx hb dX5_hitsOf_15 rfl (lv_at hl 3 rfl) ?_
        refine lv_iload hx hb dX5_hitsOf_16 (lv_at hl 0 rfl) ?_
        refine lv_lshr hx hb dX5_hitsOf_18 rfl ?_
        refine lv_lconst (v := 1) hx hb dX5_hitsOf_19 (by decide) ?_
        refine lv_land hx hb dX5_hitsOf_20 ?_
        refine tpl (show ((b >>> ((nI i).toInt64 &&& 63)) &&& 1 : Int64) = if f i = true then (1 : Int64) else 0 from hbt i (by omega)) ?_
        refine lv_lconst (v := 1) hx hb dX5_hitsOf_21 (by decide) ?_
        refine W.lcmp hx hb dX5_hitsOf_22 ?_
        refine lv_if_ne (tgt := 40) hx hb dX5_hitsOf_23 (by decide) (fun q2 => ?_) (fun q2 => ?_)
        · have hf : f i = false := (Bool.not_eq_true _).mp (fun h => q2 (by rw [h]; decide))
          refine lv_iconst (v := 0) hx hb dX5_hitsOf_40 (by decide) ?_
          refine lv_iadd hx hb dX5_hitsOf_41 ?_
          refine tpi (show ((nI (cnt (fun i => f i && hit hI i) i)) + 0 : Int32) = nI (cnt (fun i => f i && hit hI i) (i + 1)) from by simp only [cnt, hf, Bool.false_and]; exact Int32.add_zero _) ?_
          refine lv_istore_n (lv' := [(3, .int (nI (cnt (fun i => f i && hit hI i) (i + 1)))), (4, .int (nI i)), (0, .ref qm), (1, .long b)]) hx hb dX5_hitsOf_42 rfl hl (by decide) rfl (fun ls hl => ?_)
          refine lv_iinc (v := nI (i + 1)) (lv' := [(4, .int (nI (i + 1))), (3, .int (nI (cnt (fun i => f i && hit hI i) (i + 1)))), (0, .ref qm), (1, .long b)]) hx hb dX5_hitsOf_43 hl (k := 1) rfl (nI_1 i) (by decide) rfl (fun ls hl => ?_)
          refine lv_goto (tgt := 5) hx hb dX5_hitsOf_46 (by decide) ?_
          exact ih (i + 1) (by omega) ls (lv_sub hl [0, 1, 2, 3] rfl)
        · have hf : f i = true := (Bool.not_eq_false _).mp (fun h => absurd q2 (by rw [h]; decide))
          refine lv_aload_n hx hb dX5_hitsOf_26 rfl (lv_at hl 2 rfl) ?_
          refine va_get (D := dd) (ci := 5) (C := RX5) (T := TX5) (N := 30) (v := .ref (a 3)) hx hb hts hiX5 hown hK hP 0 rfl rfl 3 (by decide) (hts (.fieldLink RX5 13 "SliceDriftModel" "isHit" "[Z") (by decide +kernel)) (fun _ h9 => h9) rfl dX5_hitsOf_27 ?_
          refine lv_iload hx hb dX5_hitsOf_30 (lv_at hl 0 rfl) ?_
          refine va_zald hx hb hK hP 1 2 rfl rfl (i := nI i) (vp_in_nI (show i < 48 from (by omega)) (by decide)) dX5_hitsOf_32 ?_
          rw [nI_clamp (show i < 2 ^ 31 from Nat.lt_trans (show i < 48 from (by omega)) (by decide))]
          refine lv_if_eq (tgt := 40) hx hb dX5_hitsOf_33 (by decide) (fun q3 => ?_) (fun q3 => ?_)
          · refine lv_iconst (v := 0) hx hb dX5_hitsOf_40 (by decide) ?_
            refine lv_iadd hx hb dX5_hitsOf_41 ?_
            refine tpi (show ((nI (cnt (fun i => f i && hit hI i) i)) + 0 : Int32) = nI (cnt (fun i => f i && hit hI i) (i + 1)) from by simp only [cnt, hf, hit, q3, Bool.true_and]; exact Int32.add_zero _) ?_
            refine lv_istore_n (lv' := [(3, .int (nI (cnt (fun i => f i && hit hI i) (i + 1)))), (4, .int (nI i)), (0, .ref qm), (1, .long b)]) hx hb dX5_hitsOf_42 rfl hl (by decide) rfl (fun ls hl => ?_)
            refine lv_iinc (v := nI (i + 1)) (lv' := [(4, .int (nI (i + 1))), (3, .int (nI (cnt (fun i => f i && hit hI i) (i + 1)))), (0, .ref qm), (1, .long b)]) hx hb dX5_hitsOf_43 hl (k := 1) rfl (nI_1 i) (by decide) rfl (fun ls hl => ?_)
            refine lv_goto (tgt := 5) hx hb dX5_hitsOf_46 (by decide) ?_
            exact ih (i + 1) (by omega) ls (lv_sub hl [0, 1, 2, 3] rfl)
          · refine lv_iconst (v := 1) hx hb dX5_hitsOf_36 (by decide) ?_
            refine lv_goto (tgt := 41) hx hb dX5_hitsOf_37 (by decide) ?_
            refine lv_iadd hx hb dX5_hitsOf_41 ?_
            refine tpi (show ((nI (cnt (fun i => f i && hit hI i) i)) + 1 : Int32) = nI (cnt (fun i => f i && hit hI i) (i + 1)) from by simp only [cnt, hf, hit, q3, Bool.true_and]; exact nI_1 _) ?_
            refine lv_istore_n (lv' := [(3, .int (nI (cnt (fun i => f i && hit hI i) (i + 1)))), (4, .int (nI i)), (0, .ref qm), (1, .long b)]) hx hb dX5_hitsOf_42 rfl hl (by decide) rfl (fun ls hl => ?_)
            refine lv_iinc (v := nI (i + 1)) (lv' := [(4, .int (nI (i + 1))), (3, .int (nI (cnt (fun i => f i && hit hI i) (i + 1)))), (0, .ref qm), (1, .long b)]) hx hb dX5_hitsOf_43 hl (k := 1) rfl (nI_1 i) (by decide) rfl (fun ls hl => ?_)
            refine lv_goto (tgt := 5) hx hb dX5_hitsOf_46 (by decide) ?_
            exact ih (i + 1) (by omega) ls (lv_sub hl [0, 1, 2, 3] rfl)
  exact loop n 0 (by omega) ls (lv_sub hl [0, 1, 2, 3] rfl)

set_option maxHeartbeats 4000000 in
set_option maxRecDepth 100000 in
theorem r_gcd (l : Launch) (dd : va_G) (cyI cyJ cyZ : ClassId) (u : Int) (d : Nat) (hu : u.natAbs < 2 ^ 62) (hd : d < 2 ^ 62) : Met l yX5_gcd wsX5_gcd ({ frames := 0, cells := 0, slots := 0, locals := 0 } : Room) (va_Pc [.long (lI u), .long (lN d)] (Rd dd [(cyI, .int), (cyJ, .long), (cyZ, .boolean)] [])) (vp_Sl (fun r => r = lN (Nat.gcd u.natAbs d))) 0 0 (fun _ => False) := by
  refine mkR (cc := cX5_gcd) (maxL := 10) (by decide) rfl (Nat.le_of_ble_eq_true rfl) (lv0 := [(0, .long (lI u)), (2, .long (lN d))]) rfl ?_
  intro p e s m below meth c ls hx hb hr hml hown hlocks hts hN hP hK hl
  have hown : s.vm.findClass RX5 = some m.cls := hown
  have loop : ∀ (k : Nat) (x z : Nat), z ≤ k → x < 2 ^ 62 → z < 2 ^ 62 → Nat.gcd x z = Nat.gcd u.natAbs d → ∀ ls : Array Slot, lv_has ls 10 [(6, .long (lN z)), (4, .long (lN x))] → W p l e ({ frames := 0, cells := 0, slots := 0, locals := 0 } : Room) s m ([.long (lI u), .long (lN d)] : List Value).toArray below meth c s.heap [] 0 0 (MQ below (vp_Sl (fun r => r = lN (Nat.gcd u.natAbs d))) ([.long (lI u), .long (lN d)] : List Value).toArray s 0 0 (fun _ => False)) (F0 m 17 ls []) := by
    intro k
    induction k with
    | zero =>
      intro x z hk hx9 hz9 hg ls hl
      refine lv_lload hx hb dX5_gcd_17 (lv_at hl 0 rfl) ?_
      refine lv_lconst (v := 0) hx hb dX5_gcd_19 (by decide) ?_
      refine W.lcmp hx hb dX5_gcd_20 ?_
      refine lv_if_eq (tgt := 42) hx hb dX5_gcd_21 (by decide) (fun q => ?_) (fun q => ?_)
      · have hz0 : z = 0 := (pk_lEQ (b := 0) (by omega) (by decide)).mp ((lg_cmp_eq _ _).mp q)
        refine lv_lload hx hb dX5_gcd_42 (lv_at hl 1 rfl) ?_
        exact edL hx hb hr hlocks dX5_gcd_44 (by rw [← hg, hz0, Nat.gcd_zero_right])
      · exact absurd ((lg_cmp_eq _ _).mpr (by rw [show z = 0 by omega]; rfl)) q
    | succ k ih =>
      intro x z hk hx9 hz9 hg ls hl
      refine lv_lload hx hb dX5_gcd_17 (lv_at hl 0 rfl) ?_
      refine lv_lconst (v := 0) hx hb dX5_gcd_19 (by decide) ?_
      refine W.lcmp hx hb dX5_gcd_20 ?_
      refine lv_if_eq (tgt := 42) hx hb dX5_gcd_21 (by decide) (fun q => ?_) (fun q => ?_)
      · have hz0 : z = 0 := (pk_lEQ (b := 0) (by omega) (by decide)).mp ((lg_cmp_eq _ _).mp q)
        refine lv_lload hx hb dX5_gcd_42 (lv_at hl 1 rfl) ?_
        exact edL hx hb hr hlocks dX5_gcd_44 (by rw [← hg, hz0, Nat.gcd_zero_right])
      · have hz0 : 0 < z := Nat.pos_of_ne_zero (fun q0 => q ((lg_cmp_eq _ _).mpr (by rw [q0]; rfl)))
        have hlt := Nat.mod_lt x hz0
        refine lv_lload hx hb dX5_gcd_24 (lv_at hl 1 rfl) ?_
        refine lv_lload hx hb dX5_gcd_26 (lv_at hl 0 rfl) ?_
        refine lv_lrem hx hb dX5_gcd_28 (fun q0 => by have := (pk_lEQ (b := 0) (by omega) (by decide)).mp q0; omega) ?_
        refine tpl (show ((lN x) - (lN x) / (lN z) * (lN z) : Int64) = lN (x % z) from pk_lRem (by omega) hz0 (by omega)) ?_
        refine lv_lstore (lv' := [(8, .long (lN (x % z))), (6, .long (lN z)), (4, .long (lN x))]) hx hb dX5_gcd_29 hl (by decide) rfl (fun ls hl => ?_)
        refine lv_lload hx hb dX5_gcd_31 (lv_at hl 1 rfl) ?_
        refine lv_lstore (lv' := [(4, .long (lN z)), (8, .long (lN (x % z))), (6, .long (lN z))]) hx hb dX5_gcd_33 hl (by decide) rfl (fun ls hl => ?_)
        refine lv_lload hx hb dX5_gcd_35 (lv_at hl 1 rfl) ?_
        refine lv_lstore (lv' := [(6, .long (lN (x % z))), (4, .long (lN z)), (8, .long (lN (x % z)))]) hx hb dX5_gcd_37 hl (by decide) rfl (fun ls hl => ?_)
        refine lv_goto (tgt := 17) hx hb dX5_gcd_39 (by decide) ?_
        exact ih z (x % z) (by omega) hz9 (by omega) (by rw [← hg, Nat.gcd_comm x z, Nat.gcd_rec z x, Nat.gcd_comm]) ls (lv_sub hl [0, 1] rfl)
  refine lv_lload_n hx hb dX5_gcd_0 rfl (lv_at hl 0 rfl) ?_
  refine lv_lconst (v := 0) hx hb dX5_gcd_1 (by decide) ?_
  refine W.lcmp hx hb dX5_gcd_2 ?_
  refine lv_if_ge (tgt := 11) hx hb dX5_gcd_3 (by decide) (fun q0 => ?_) (fun q0 => ?_)
  · have hp : 0 ≤ u := by have := (lg_cmp_ge _ _).mp q0; rw [Int64.le_iff_toInt_le, lI_toInt hu] at this; simpa using this
    refine lv_lload_n hx hb dX5_gcd_11 rfl (lv_at hl 0 rfl) ?_
    refine tpl (show (lI u : Int64) = lN u.natAbs from by rw [lN_lI]; congr 1; omega) ?_
    refine lv_lstore (lv' := [(4, .long (lN u.natAbs)), (0, .long (lI u)), (2, .long (lN d))]) hx hb dX5_gcd_12 hl (by decide) rfl (fun ls hl => ?_)
    refine lv_lload_n hx hb dX5_gcd_14 rfl (lv_at hl 2 rfl) ?_
    refine lv_lstore (lv' := [(6, .long (lN d)), (4, .long (lN u.natAbs)), (0, .long (lI u)), (2, .long (lN d))]) hx hb dX5_gcd_15 hl (by decide) rfl (fun ls hl => ?_)
    exact loop d u.natAbs d (Nat.le_refl d) hu hd rfl ls (lv_sub hl [0, 1] rfl)
  · have hp : u < 0 := by have := Int64.not_le.mp (fun h => q0 ((lg_cmp_ge _ _).mpr h)); rw [Int64.lt_iff_toInt_lt, lI_toInt hu] at this; simpa using this
    refine lv_lload_n hx hb dX5_gcd_6 rfl (lv_at hl 0 rfl) ?_
    refine lv_lneg hx hb dX5_gcd_7 ?_
    refine lv_goto (tgt := 12) hx hb dX5_gcd_8 (by decide) ?_
    refine tpl (show (-(lI u) : Int64) = lN u.natAbs from by rw [lN_lI]; unfold lI; rw [← Int64.ofInt_neg]; congr 1; omega) ?_
    refine lv_lstore (lv' := [(4, .long (lN u.natAbs)), (0, .long (lI u)), (2, .long (lN d))]) hx hb dX5_gcd_12 hl (by decide) rfl (fun ls hl => ?_)
    refine lv_lload_n hx hb dX5_gcd_14 rfl (lv_at hl 2 rfl) ?_
    refine lv_lstore (lv' := [(6, .long (lN d)), (4, .long (lN u.natAbs)), (0, .long (lI u)), (2, .long (lN d))]) hx hb dX5_gcd_15 hl (by decide) rfl (fun ls hl => ?_)
    exact loop d u.natAbs d (Nat.le_refl d) hu hd rfl ls (lv_sub hl [0, 1] rfl)

set_option maxHeartbeats 4000000 in
set_option maxRecDepth 100000 in
theorem r_part (l : Launch) (dd : va_G) (cyI cyJ cyZ : ClassId) (u : Int) (d : Nat) (pt : Int32) (hu : u.natAbs < 2 ^ 62) (hd : d < 2 ^ 62) (hd0 : 0 < d) (hpt : pt = 0 ∨ pt = 1) : Met l yX5_part wsX5_part ({ frames := 1, cells := 0, slots := 0, locals := 29 } : Room) (va_Pc [.long (lI u), .long (lN d), .int pt] (Rd dd [(cyI, .int), (cyJ, .long), (cyZ, .boolean)] [])) (vp_Sl (fun r => r = lI (fr u d pt))) 0 0 (fun _ => False) := by
  refine mkR (cc := cX5_part) (maxL := 7) (by decide) rfl (Nat.le_of_ble_eq_true rfl) (lv0 := [(0, .long (lI u)), (2, .long (lN d)), (4, .int pt)]) rfl ?_
  intro p e s m below meth c ls hx hb hr hml hown hlocks hts hN hP hK hl
  have hown : s.vm.findClass RX5 = some m.cls := hown
  have hg0 : 0 < Nat.gcd u.natAbs d := Nat.gcd_pos_of_pos_right _ hd0
  have hg1 : Nat.gcd u.natAbs d ≤ d := Nat.gcd_le_right _ hd0
  have hdn : ((d : Nat) : Int).natAbs = d := Int.natAbs_natCast d
  refine lv_lload_n hx hb dX5_part_0 rfl (lv_at hl 0 rfl) ?_
  refine lv_lload_n hx hb dX5_part_1 rfl (lv_at hl 1 rfl) ?_
  refine clSl (As := [.long (lI u), .long (lN d)]) (rest := []) ⟨hx, hb, hml, hown, hts⟩ (r_gcd l dd cyI cyJ cyZ u d hu hd) gX5_part_X5_gcd (n := 2) rfl ⟨rfl, rfl⟩ (by decide +kernel) ⟨Nat.le_of_ble_eq_true rfl, Nat.le_of_ble_eq_true rfl⟩ hN hK (hP.sub [] rfl) rfl hl.1 rfl (Nat.le_of_ble_eq_true rfl) dX5_part_2 ⟨Nat.le_of_ble_eq_true rfl, Nat.le_of_ble_eq_true rfl⟩ (fun g hg => ?_)
  subst hg
  refine lv_lstore (lv' := [(5, .long (lN (Nat.gcd u.natAbs d))), (0, .long (lI u)), (2, .long (lN d)), (4, .int pt)]) hx hb dX5_part_5 hl (by decide) rfl (fun ls hl => ?_)
  refine lv_iload hx hb dX5_part_7 (lv_at hl 3 rfl) ?_
  refine lv_if_ne (tgt := 19) hx hb dX5_part_9 (by decide) (fun q => ?_) (fun q => ?_)
  · refine lv_lload_n hx hb dX5_part_19 rfl (lv_at hl 2 rfl) ?_
    refine lv_lload hx hb dX5_part_20 (lv_at hl 0 rfl) ?_
    refine lv_ldiv hx hb dX5_part_22 (fun q0 => by have := (pk_lEQ (b := 0) (by omega) (by decide)).mp q0; omega) ?_
    refine tpl (show ((lN d) / (lN (Nat.gcd u.natAbs d)) : Int64) = lN (d / Nat.gcd u.natAbs d) from pk_lDiv (by omega) hg0 (by omega)) ?_
    exact edL hx hb hr hlocks dX5_part_23 (by rw [fr, if_pos (hpt.resolve_left q), hdn, lN_lI])
  · refine lv_lload_n hx hb dX5_part_12 rfl (lv_at hl 1 rfl) ?_
    refine lv_lload hx hb dX5_part_13 (lv_at hl 0 rfl) ?_
    refine lv_ldiv hx hb dX5_part_15 (fun q0 => by have := (pk_lEQ (b := 0) (by omega) (by decide)).mp q0; omega) ?_
    refine tpl (show ((lI u) / (lN (Nat.gcd u.natAbs d)) : Int64) = lI (u.tdiv (Nat.gcd u.natAbs d : Nat)) from ldiv_lI hu (by omega) hg0) ?_
    refine lv_goto (tgt := 23) hx hb dX5_part_16 (by decide) ?_
    exact edL hx hb hr hlocks dX5_part_23 (by rw [fr, if_neg (by rw [q]; decide), if_neg (by omega), hdn])
end
section
theorem cnt_y {f : Nat → Bool} {i : Nat} (hf : f i = true) : cnt f (i + 1) = cnt f i + 1 := by
  simp only [cnt]
  rw [if_pos hf]
theorem cnt_n {f : Nat → Bool} {i : Nat} (hf : f i = false) : cnt f (i + 1) = cnt f i := by
  simp only [cnt]
  rw [if_neg (by rw [hf]; decide), Nat.add_zero]
theorem cs_y {f : Nat → Bool} {sI : Nat → Int32} {co i k k0 : Nat} (hk : k < 11) (h0 : k0 < 11) (e : sI (5 * i + co) = nI k0) (hf : f i = true) : cs f sI co (i + 1) k = cs f sI co i k + (if k = k0 then 1 else 0) := by
  have : hav sI co k i = decide (k = k0) := by
    unfold hav
    rw [e]
    by_cases q : k = k0
    · subst q; simp
    · rw [decide_eq_false (nI_ne (by omega) (by omega) (Ne.symm q)), decide_eq_false q]
  unfold cs
  by_cases q : k = k0
  · rw [if_pos q]
    exact cnt_y (by show (hav sI co k i && f i) = true; rw [this, hf, decide_eq_true q]; rfl)
  · rw [if_neg q, Nat.add_zero]
    exact cnt_n (by show (hav sI co k i && f i) = false; rw [this, decide_eq_false q]; rfl)
theorem cs_n {f : Nat → Bool} {sI : Nat → Int32} {co i k : Nat} (hf : f i = false) : cs f sI co (i + 1) k = cs f sI co i k := cnt_n (by show (hav sI co k i && f i) = false; rw [hf, Bool.and_false])
theorem cnts_y {f : Nat → Bool} {sI fA : Nat → Int32} {co i k0 : Nat} (h0 : k0 < 11) (e : sI (5 * i + co) = nI k0) (hf : f i = true) (h : ∀ k, k < 11 → fA k = nI (cs f sI co i k)) : ∀ k, k < 11 → upd fA k0 (fA k0 + 1) k = nI (cs f sI co (i + 1) k) := by
  intro k hk
  rw [cs_y hk h0 e hf]
  by_cases q : k = k0
  · subst q
    rw [pk_us, h k hk, if_pos rfl, nI_1]
  · rw [pk_un q, h k hk, if_neg q, Nat.add_zero]
theorem cnts_n {f : Nat → Bool} {sI fA : Nat → Int32} {co i : Nat} (hf : f i = false) (h : ∀ k, k < 11 → fA k = nI (cs f sI co i k)) : ∀ k, k < 11 → fA k = nI (cs f sI co (i + 1) k) := by
  intro k hk
  rw [cs_n hf]
  exact h k hk

set_option maxHeartbeats 4000000 in
set_option maxRecDepth 100000 in
theorem r_counts (l : Launch) (dd : va_G) (cyI cyJ cyZ : ClassId) (qm : Nat) (a : Nat → Nat) (th li fm sm : Int32) (ab be : Int64) (st al : Int32) (n : Nat) (hn : n ≤ 48) (tI sI fA gA : Nat → Int32) (co : Nat) (hco : co < 5) (hSo : ∀ i, i < n → ∃ k, k < 11 ∧ sI (5 * i + co) = nI k) (f1 f2 g1 g2 : Int32) (sz : Nat) : Met l yX5_counts wsX5_counts ({ frames := 1, cells := 0, slots := 0, locals := 23 } : Room) (va_Pc [.ref qm, .int (nI co), .int f1, .int f2, .int g1, .int g2] (Wr dd [(cyI, .int), (cyJ, .long), (cyZ, .boolean)] [(qm, .inr (5, mo a th (nI n) li fm sm ab be st al)), (a 2, .inl (cyI, 48, .inl tI)), (a 4, .inl (cyI, 240, .inl sI)), (a 13, .inl (cyI, 11, .inl fA)), (a 14, .inl (cyI, 11, .inl gA))] sz)) (va_Qv (S := (Nat → Int32) × (Nat → Int32)) (fun (u : (Nat → Int32) × (Nat → Int32)) => ∀ k, k < 11 → u.1 k = nI (cs (win tI f1 f2) sI co n k) ∧ u.2 k = nI (cs (win tI g1 g2) sI co n k)) (WQ dd [(qm, .inr (5, mo a th (nI n) li fm sm ab be st al)), (a 2, .inl (cyI, 48, .inl tI)), (a 4, .inl (cyI, 240, .inl sI)), (a 13, .inl (cyI, 11, .inl fA)), (a 14, .inl (cyI, 11, .inl gA))] sz (fun u => [(qm, .inr (5, mo a th (nI n) li (nI (cnt (win tI f1 f2) n)) (nI (cnt (win tI g1 g2) n)) ab be st al)), (a 2, .inl (cyI, 48, .inl tI)), (a 4, .inl (cyI, 240, .inl sI)), (a 13, .inl (cyI, 11, .inl u.1)), (a 14, .inl (cyI, 11, .inl u.2))])) (va_A [(qm, .inr (5, mo a th (nI n) li fm sm ab be st al)), (a 2, .inl (cyI, 48, .inl tI)), (a 4, .inl (cyI, 240, .inl sI)), (a 13, .inl (cyI, 11, .inl fA)), (a 14, .inl (cyI, 11, .inl gA))] sz)) 0 0 (va_A [(qm, .inr (5, mo a th (nI n) li fm sm ab be st al)), (a 2, .inl (cyI, 48, .inl tI)), (a 4, .inl (cyI, 240, .inl sI)), (a 13, .inl (cyI, 11, .inl fA)), (a 14, .inl (cyI, 11, .inl gA))] sz) := by
  refine mkW (Qc := fun A => (va_Qv (S := (Nat → Int32) × (Nat → Int32)) (fun (u : (Nat → Int32) × (Nat → Int32)) => ∀ k, k < 11 → u.1 k = nI (cs (win tI f1 f2) sI co n k) ∧ u.2 k = nI (cs (win tI g1 g2) sI co n k)) (WQ dd [(qm, .inr (5, mo a th (nI n) li fm sm ab be st al)), (a 2, .inl (cyI, 48, .inl tI)), (a 4, .inl (cyI, 240, .inl sI)), (a 13, .inl (cyI, 11, .inl fA)), (a 14, .inl (cyI, 11, .inl gA))] sz (fun u => [(qm, .inr (5, mo a th (nI n) li (nI (cnt (win tI f1 f2) n)) (nI (cnt (win tI g1 g2) n)) ab be st al)), (a 2, .inl (cyI, 48, .inl tI)), (a 4, .inl (cyI, 240, .inl sI)), (a 13, .inl (cyI, 11, .inl u.1)), (a 14, .inl (cyI, 11, .inl u.2))])) A)) (cc := cX5_counts) (maxL := 8) (by decide) rfl (Nat.le_of_ble_eq_true rfl) (lv0 := [(0, .ref qm), (1, .int (nI co)), (2, .int f1), (3, .int f2), (4, .int g1), (5, .int g2)]) rfl ?_
  intro p e s m below meth c ls H A hx hb hr hml hown hlocks hts hmn hN hP hK hD hS hA hAe hl
  have hown : s.vm.findClass RX5 = some m.cls := hown
  have hiX5 : ∀ w ∈ wsX50, w ∈ wsX5_counts := by decide +kernel
  obtain ⟨f, ef⟩ : ∃ f, f = win tI f1 f2 := ⟨_, rfl⟩
  obtain ⟨g, eg⟩ : ∃ g, g = win tI g1 g2 := ⟨_, rfl⟩
  rw [← ef, ← eg]
  have loop2 : ∀ (k9 : Nat) (i : Nat) (fB gB : Nat → Int32) (H : Heap) (locs : List Loc), i + k9 = n → (∀ k, k < 11 → fB k = nI (cs f sI co i k)) → (∀ k, k < 11 → gB k = nI (cs g sI co i k)) → va_P dd vwCl [(qm, .inr (5, mo a th (nI n) li (nI (cnt f i)) (nI (cnt g i)) ab be st al)), (a 2, .inl (cyI, 48, .inl tI)), (a 4, .inl (cyI, 240, .inl sI)), (a 13, .inl (cyI, 11, .inl fB)), (a 14, .inl (cyI, 11, .inl gB))] H → va_D A [(qm, .inr (5, mo a th (nI n) li (nI (cnt f i)) (nI (cnt g i)) ab be st al)), (a 2, .inl (cyI, 48, .inl tI)), (a 4, .inl (cyI, 240, .inl sI)), (a 13, .inl (cyI, 11, .inl fB)), (a 14, .inl (cyI, 11, .inl gB))] → va_S A s.heap H locs → ∀ ls : Array Slot, lv_has ls 8 [(6, .int (nI i)), (0, .ref qm), (1, .int (nI co)), (2, .int f1), (3, .int f2), (4, .int g1), (5, .int g2)] → W p l e ({ frames := 1, cells := 0, slots := 0, locals := 23 } : Room) s m ([.ref qm, .int (nI co), .int f1, .int f2, .int g1, .int g2] : List Value).toArray below meth c H locs 0 0 (MQ below (va_Qv (S := (Nat → Int32) × (Nat → Int32)) (fun (u : (Nat → Int32) × (Nat → Int32)) => ∀ k, k < 11 → u.1 k = nI (cs f sI co n k) ∧ u.2 k = nI (cs g sI co n k)) (WQ dd [(qm, .inr (5, mo a th (nI n) li fm sm ab be st al)), (a 2, .inl (cyI, 48, .inl tI)), (a 4, .inl (cyI, 240, .inl sI)), (a 13, .inl (cyI, 11, .inl fA)), (a 14, .inl (cyI, 11, .inl gA))] sz (fun u => [(qm, .inr (5, mo a th (nI n) li (nI (cnt f n)) (nI (cnt g n)) ab be st al)), (a 2, .inl (cyI, 48, .inl tI)), (a 4, .inl (cyI, 240, .inl sI)), (a 13, .inl (cyI, 11, .inl u.1)), (a 14, .inl (cyI, 11, .inl u.2))])) A) ([.ref qm, .int (nI co), .int f1, .int f2, .int g1, .int g2] : List Value).toArray s 0 0 A) (F0 m 45 ls []) := by
    intro k9
    induction k9 with
    | zero =>
      intro i fB gB H locs hi9 hf9 hg9 hP hD hS ls hl
      refine lv_iload hx hb dX5_counts_45 (lv_at hl 0 rfl) ?_
      refine lv_aload_n hx hb dX5_counts_47 rfl (lv_at hl 1 rfl) ?_
      refine va_get (D := dd) (ci := 5) (C := RX5) (T := TX5) (N := 30) (v := .int (nI n)) hx hb hts hiX5 hown hK hP 0 rfl rfl 1 (by decide) (hts (.fieldLink RX5 84 "SliceDriftModel" "rows" "I") (by decide +kernel)) (fun _ h9 => h9) rfl dX5_counts_48 ?_
      refine lv_icmp_ge (tgt := 139) hx hb dX5_counts_51 (by decide) (fun q => ?_) (fun q => ?_)
      · have hin : i = n := by omega
        subst hin
        exact ewV (fB, gB) hx hb hr hlocks hAe hS dX5_counts_139 (fun k hk => ⟨hf9 k hk, hg9 k hk⟩) (hP.sub [0, 1, 2, 3, 4] rfl) (hD.sub [0, 1, 2, 3, 4] (by decide) rfl)
      · exact absurd (nI_le (show n ≤ i by omega) (by omega)) q
    | succ k9 ih =>
      intro i fB gB H locs hi9 hf9 hg9 hP hD hS ls hl
      refine lv_iload hx hb dX5_counts_45 (lv_at hl 0 rfl) ?_
      refine lv_aload_n hx hb dX5_counts_47 rfl (lv_at hl 1 rfl) ?_
      refine va_get (D := dd) (ci := 5) (C := RX5) (T := TX5) (N := 30) (v := .int (nI n)) hx hb hts hiX5 hown hK hP 0 rfl rfl 1 (by decide) (hts (.fieldLink RX5 84 "SliceDriftModel" "rows" "I") (by decide +kernel)) (fun _ h9 => h9) rfl dX5_counts_48 ?_
      refine lv_icmp_ge (tgt := 139) hx hb dX5_counts_51 (by decide) (fun q => ?_) (fun q => ?_)
      · exact absurd q (nI_ge (show i < n by omega) (by omega))
      · obtain ⟨k0, hk0, e0⟩ := hSo i (by omega)
        refine lv_aload_n hx hb dX5_counts_54 rfl (lv_at hl 1 rfl) ?_
        refine va_get (D := dd) (ci := 5) (C := RX5) (T := TX5) (N := 30) (v := .ref (a 4)) hx hb hts hiX5 hown hK hP 0 rfl rfl 4 (by decide) (hts (.fieldLink RX5 17 "SliceDriftModel" "sort" "[I") (by decide +kernel)) (fun _ h9 => h9) rfl dX5_counts_55 ?_
        refine lv_iconst (v := 5) hx hb dX5_counts_58 (by decide) ?_
        refine lv_iload hx hb dX5_counts_59 (lv_at hl 0 rfl) ?_
        refine lv_imul hx hb dX5_counts_61 ?_
        refine lv_iload_n hx hb dX5_counts_62 rfl (lv_at hl 2 rfl) ?_
        refine lv_iadd hx hb dX5_counts_63 ?_
        refine tpi (show ((5 * (nI i)) + (nI co) : Int32) = nI (5 * i + co) from by rw [show (5 : Int32) = nI 5 from rfl, pk_mul, nI_add]) ?_
        refine va_iald hx hb hK hP 2 0 rfl rfl (i := nI (5 * i + co)) (vp_in_nI (show (5 * i + co) < 240 from (by omega)) (by decide)) dX5_counts_64 ?_
        rw [nI_clamp (show (5 * i + co) < 2 ^ 31 from Nat.lt_trans (show (5 * i + co) < 240 from (by omega)) (by decide))]
        refine tpi (show (sI (5 * i + co) : Int32) = nI k0 from e0) ?_
        refine lv_istore (lv' := [(7, .int (nI k0)), (6, .int (nI i)), (0, .ref qm), (1, .int (nI co)), (2, .int f1), (3, .int f2), (4, .int g1), (5, .int g2)]) hx hb dX5_counts_65 hl (by decide) rfl (fun ls hl => ?_)
        refine lv_aload_n hx hb dX5_counts_67 rfl (lv_at hl 2 rfl) ?_
        refine lv_iload hx hb dX5_counts_68 (lv_at hl 1 rfl) ?_
        refine lv_iload_n hx hb dX5_counts_70 rfl (lv_at hl 4 rfl) ?_
        refine lv_iload_n hx hb dX5_counts_71 rfl (lv_at hl 5 rfl) ?_
        refine clVi (As := [.int (nI i), .int f1, .int f2]) (rest := []) (b := qm) (vc := (RX5, TX5, 30)) ⟨hx, hb, hml, hown, hts⟩ (r_isIn l dd cyI cyJ cyZ qm a th (nI n) li _ _ ab be st al tI i (by omega) f1 f2) gX5_counts_X5_isIn (ci := 5) rfl (q0 := 0) rfl (n := 3) rfl ⟨rfl, rfl⟩ (by decide +kernel) ⟨Nat.le_of_ble_eq_true rfl, Nat.le_of_ble_eq_true rfl⟩ hN hK (hP.sub [0, 1] rfl) rfl hl.1 rfl (Nat.le_of_ble_eq_true rfl) dX5_counts_72 ⟨Nat.le_of_ble_eq_true rfl, Nat.le_of_ble_eq_true rfl⟩ (fun b1 hb1 => ?_)
        rw [← ef] at hb1
        refine lv_if_eq (tgt := 99) hx hb dX5_counts_75 (by decide) (fun q1 => ?_) (fun q1 => ?_)
        · have f0 : f i = false := (Bool.not_eq_true _).mp (fun h => by rw [if_pos h] at hb1; exact absurd (hb1.symm.trans q1) (by decide))
          refine lv_aload_n hx hb dX5_counts_99 rfl (lv_at hl 2 rfl) ?_
          refine lv_iload hx hb dX5_counts_100 (lv_at hl 1 rfl) ?_
          refine lv_iload hx hb dX5_counts_102 (lv_at hl 6 rfl) ?_
          refine lv_iload hx hb dX5_counts_104 (lv_at hl 7 rfl) ?_
          refine clVi (As := [.int (nI i), .int g1, .int g2]) (rest := []) (b := qm) (vc := (RX5, TX5, 30)) ⟨hx, hb, hml, hown, hts⟩ (r_isIn l dd cyI cyJ cyZ qm a th (nI n) li _ _ ab be st al tI i (by omega) g1 g2) gX5_counts_X5_isIn (ci := 5) rfl (q0 := 0) rfl (n := 3) rfl ⟨rfl, rfl⟩ (by decide +kernel) ⟨Nat.le_of_ble_eq_true rfl, Nat.le_of_ble_eq_true rfl⟩ hN hK (hP.sub [0, 1] rfl) rfl hl.1 rfl (Nat.le_of_ble_eq_true rfl) dX5_counts_106 ⟨Nat.le_of_ble_eq_true rfl, Nat.le_of_ble_eq_true rfl⟩ (fun b2 hb2 => ?_)
          rw [← eg] at hb2
          refine lv_if_eq (tgt := 133) hx hb dX5_counts_109 (by decide) (fun q2 => ?_) (fun q2 => ?_)
          · have g0 : g i = false := (Bool.not_eq_true _).mp (fun h => by rw [if_pos h] at hb2; exact absurd (hb2.symm.trans q2) (by decide))
            refine lv_iinc (v := nI (i + 1)) (lv' := [(6, .int (nI (i + 1))), (7, .int (nI k0)), (0, .ref qm), (1, .int (nI co)), (2, .int f1), (3, .int f2), (4, .int g1), (5, .int g2)]) hx hb dX5_counts_133 hl (k := 1) rfl (nI_1 i) (by decide) rfl (fun ls hl => ?_)
            refine lv_goto (tgt := 45) hx hb dX5_counts_136 (by decide) ?_
            exact ih (i + 1) fB gB H locs (by omega) (cnts_n f0 hf9) (cnts_n g0 hg9) (by rw [cnt_n f0, cnt_n g0]; exact hP) (by rw [cnt_n f0, cnt_n g0]; exact hD) hS ls (lv_sub hl [0, 2, 3, 4, 5, 6, 7] rfl)
          · have g0 : g i = true := (Bool.not_eq_false _).mp (fun h => q2 (by rw [hb2, if_neg (by rw [h]; decide)]))
            refine lv_aload_n hx hb dX5_counts_112 rfl (lv_at hl 2 rfl) ?_
            refine va_get (D := dd) (ci := 5) (C := RX5) (T := TX5) (N := 30) (v := .ref (a 14)) hx hb hts hiX5 hown hK hP 0 rfl rfl 14 (by decide) (hts (.fieldLink RX5 45 "SliceDriftModel" "second" "[I") (by decide +kernel)) (fun _ h9 => h9) rfl dX5_counts_113 ?_
            refine lv_iload hx hb dX5_counts_116 (lv_at hl 0 rfl) ?_
            refine lv_dup2_11 hx hb dX5_counts_118 rfl rfl ?_
            refine va_iald hx hb hK hP 4 0 rfl rfl (i := nI k0) (vp_in_nI (show k0 < 11 from hk0) (by decide)) dX5_counts_119 ?_
            rw [nI_clamp (show k0 < 2 ^ 31 from Nat.lt_trans (show k0 < 11 from hk0) (by decide))]
            refine lv_iconst (v := 1) hx hb dX5_counts_120 (by decide) ?_
            refine lv_iadd hx hb dX5_counts_121 ?_
            refine va_iast hx hb hK hP hD hS 4 0 rfl rfl (i := nI k0) (vp_in_nI (show k0 < 11 from hk0) (by decide)) dX5_counts_122 (fun H locs hP hD hS => ?_)
            rw [nI_clamp (show k0 < 2 ^ 31 from Nat.lt_trans (show k0 < 11 from hk0) (by decide))] at hP hD
            have hP : va_P dd vwCl [(qm, .inr (5, mo a th (nI n) li (nI (cnt f i)) (nI (cnt g i)) ab be st al)), (a 2, .inl (cyI, 48, .inl tI)), (a 4, .inl (cyI, 240, .inl sI)), (a 13, .inl (cyI, 11, .inl fB)), (a 14, .inl (cyI, 11, .inl (upd gB k0 ((gB k0) + 1))))] H := hP
            have hD : va_D A [(qm, .inr (5, mo a th (nI n) li (nI (cnt f i)) (nI (cnt g i)) ab be st al)), (a 2, .inl (cyI, 48, .inl tI)), (a 4, .inl (cyI, 240, .inl sI)), (a 13, .inl (cyI, 11, .inl fB)), (a 14, .inl (cyI, 11, .inl (upd gB k0 ((gB k0) + 1))))] := hD
            refine lv_aload_n hx hb dX5_counts_123 rfl (lv_at hl 2 rfl) ?_
            refine lv_dup hx hb dX5_counts_124 rfl ?_
            refine va_get (D := dd) (ci := 5) (C := RX5) (T := TX5) (N := 30) (v := .int (nI (cnt g i))) hx hb hts hiX5 hown hK hP 0 rfl rfl 16 (by decide) (hts (.fieldLink RX5 133 "SliceDriftModel" "secondMany" "I") (by decide +kernel)) (fun _ h9 => h9) rfl dX5_counts_125 ?_
            refine lv_iconst (v := 1) hx hb dX5_counts_128 (by decide) ?_
            refine lv_iadd hx hb dX5_counts_129 ?_
            refine tpi (show ((nI (cnt g i)) + 1 : Int32) = nI (cnt g i + 1) from nI_1 _) ?_
            refine va_put (D := dd) (ci := 5) (v := .int (nI (cnt g i + 1))) (ty := .int) (C := RX5) (T := TX5) (N := 30) hx hb hts hiX5 tyX5 tyX5_ok nmX5 hown hK hP hD hS 0 rfl rfl 16 (by decide) (hts (.fieldLink RX5 133 "SliceDriftModel" "secondMany" "I") (by decide +kernel)) (fun _ h9 => h9) rfl (by decide +kernel) rfl rfl (Nat.le_of_ble_eq_true rfl) dX5_counts_130 (fun H locs hP hD hS => ?_)
            have hP : va_P dd vwCl [(qm, .inr (5, mo a th (nI n) li (nI (cnt f i)) (nI (cnt g i + 1)) ab be st al)), (a 2, .inl (cyI, 48, .inl tI)), (a 4, .inl (cyI, 240, .inl sI)), (a 13, .inl (cyI, 11, .inl fB)), (a 14, .inl (cyI, 11, .inl (upd gB k0 ((gB k0) + 1))))] H := hP
            have hD : va_D A [(qm, .inr (5, mo a th (nI n) li (nI (cnt f i)) (nI (cnt g i + 1)) ab be st al)), (a 2, .inl (cyI, 48, .inl tI)), (a 4, .inl (cyI, 240, .inl sI)), (a 13, .inl (cyI, 11, .inl fB)), (a 14, .inl (cyI, 11, .inl (upd gB k0 ((gB k0) + 1))))] := hD
            refine lv_iinc (v := nI (i + 1)) (lv' := [(6, .int (nI (i + 1))), (7, .int (nI k0)), (0, .ref qm), (1, .int (nI co)), (2, .int f1), (3, .int f2), (4, .int g1), (5, .int g2)]) hx hb dX5_counts_133 hl (k := 1) rfl (nI_1 i) (by decide) rfl (fun ls hl => ?_)
            refine lv_goto (tgt := 45) hx hb dX5_counts_136 (by decide) ?_
            exact ih (i + 1) fB (upd gB k0 (gB k0 + 1)) H locs (by omega) (cnts_n f0 hf9) (cnts_y hk0 e0 g0 hg9) (by rw [cnt_n f0, cnt_y g0]; exact hP) (by rw [cnt_n f0, cnt_y g0]; exact hD) hS ls (lv_sub hl [0, 2, 3, 4, 5, 6, 7] rfl)
        · have f0 : f i = true := (Bool.not_eq_false _).mp (fun h => q1 (by rw [hb1, if_neg (by rw [h]; decide)]))
          refine lv_aload_n hx hb dX5_counts_78 rfl (lv_at hl 2 rfl) ?_
          refine va_get (D := dd) (ci := 5) (C := RX5) (T := TX5) (N := 30) (v := .ref (a 13)) hx hb hts hiX5 hown hK hP 0 rfl rfl 13 (by decide) (hts (.fieldLink RX5 42 "SliceDriftModel" "first" "[I") (by decide +kernel)) (fun _ h9 => h9) rfl dX5_counts_79 ?_
          refine lv_iload hx hb dX5_counts_82 (lv_at hl 0 rfl) ?_
          refine lv_dup2_11 hx hb dX5_counts_84 rfl rfl ?_
          refine va_iald hx hb hK hP 3 0 rfl rfl (i := nI k0) (vp_in_nI (show k0 < 11 from hk0) (by decide)) dX5_counts_85 ?_
          rw [nI_clamp (show k0 < 2 ^ 31 from Nat.lt_trans (show k0 < 11 from hk0) (by decide))]
          refine lv_iconst (v := 1) hx hb dX5_counts_86 (by decide) ?_
          refine lv_iadd hx hb dX5_counts_87 ?_
          refine va_iast hx hb hK hP hD hS 3 0 rfl rfl (i := nI k0) (vp_in_nI (show k0 < 11 from hk0) (by decide)) dX5_counts_88 (fun H locs hP hD hS => ?_)
          rw [nI_clamp (show k0 < 2 ^ 31 from Nat.lt_trans (show k0 < 11 from hk0) (by decide))] at hP hD
          have hP : va_P dd vwCl [(qm, .inr (5, mo a th (nI n) li (nI (cnt f i)) (nI (cnt g i)) ab be st al)), (a 2, .inl (cyI, 48, .inl tI)), (a 4, .inl (cyI, 240, .inl sI)), (a 13, .inl (cyI, 11, .inl (upd fB k0 ((fB k0) + 1)))), (a 14, .inl (cyI, 11, .inl gB))] H := hP
          have hD : va_D A [(qm, .inr (5, mo a th (nI n) li (nI (cnt f i)) (nI (cnt g i)) ab be st al)), (a 2, .inl (cyI, 48, .inl tI)), (a 4, .inl (cyI, 240, .inl sI)), (a 13, .inl (cyI, 11, .inl (upd fB k0 ((fB k0) + 1)))), (a 14, .inl (cyI, 11, .inl gB))] := hD
          refine lv_aload_n hx hb dX5_counts_89 rfl (lv_at hl 2 rfl) ?_
          refine lv_dup hx hb dX5_counts_90 rfl ?_
          refine va_get (D := dd) (ci := 5) (C := RX5) (T := TX5) (N := 30) (v := .int (nI (cnt f i))) hx hb hts hiX5 hown hK hP 0 rfl rfl 15 (by decide) (hts (.fieldLink RX5 130 "SliceDriftModel" "firstMany" "I") (by decide +kernel)) (fun _ h9 => h9) rfl dX5_counts_91 ?_
          refine lv_iconst (v := 1) hx hb dX5_counts_94 (by decide) ?_
          refine lv_iadd hx hb dX5_counts_95 ?_
          refine tpi (show ((nI (cnt f i)) + 1 : Int32) = nI (cnt f i + 1) from nI_1 _) ?_
          refine va_put (D := dd) (ci := 5) (v := .int (nI (cnt f i + 1))) (ty := .int) (C := RX5) (T := TX5) (N := 30) hx hb hts hiX5 tyX5 tyX5_ok nmX5 hown hK hP hD hS 0 rfl rfl 15 (by decide) (hts (.fieldLink RX5 130 "SliceDriftModel" "firstMany" "I") (by decide +kernel)) (fun _ h9 => h9) rfl (by decide +kernel) rfl rfl (Nat.le_of_ble_eq_true rfl) dX5_counts_96 (fun H locs hP hD hS => ?_)
          have hP : va_P dd vwCl [(qm, .inr (5, mo a th (nI n) li (nI (cnt f i + 1)) (nI (cnt g i)) ab be st al)), (a 2, .inl (cyI, 48, .inl tI)), (a 4, .inl (cyI, 240, .inl sI)), (a 13, .inl (cyI, 11, .inl (upd fB k0 ((fB k0) + 1)))), (a 14, .inl (cyI, 11, .inl gB))] H := hP
          have hD : va_D A [(qm, .inr (5, mo a th (nI n) li (nI (cnt f i + 1)) (nI (cnt g i)) ab be st al)), (a 2, .inl (cyI, 48, .inl tI)), (a 4, .inl (cyI, 240, .inl sI)), (a 13, .inl (cyI, 11, .inl (upd fB k0 ((fB k0) + 1)))), (a 14, .inl (cyI, 11, .inl gB))] := hD
          refine lv_aload_n hx hb dX5_counts_99 rfl (lv_at hl 2 rfl) ?_
          refine lv_iload hx hb dX5_counts_100 (lv_at hl 1 rfl) ?_
          refine lv_iload hx hb dX5_counts_102 (lv_at hl 6 rfl) ?_
          refine lv_iload hx hb dX5_counts_104 (lv_at hl 7 rfl) ?_
          refine clVi (As := [.int (nI i), .int g1, .int g2]) (rest := []) (b := qm) (vc := (RX5, TX5, 30)) ⟨hx, hb, hml, hown, hts⟩ (r_isIn l dd cyI cyJ cyZ qm a th (nI n) li _ _ ab be st al tI i (by omega) g1 g2) gX5_counts_X5_isIn (ci := 5) rfl (q0 := 0) rfl (n := 3) rfl ⟨rfl, rfl⟩ (by decide +kernel) ⟨Nat.le_of_ble_eq_true rfl, Nat.le_of_ble_eq_true rfl⟩ hN hK (hP.sub [0, 1] rfl) rfl hl.1 rfl (Nat.le_of_ble_eq_true rfl) dX5_counts_106 ⟨Nat.le_of_ble_eq_true rfl, Nat.le_of_ble_eq_true rfl⟩ (fun b2 hb2 => ?_)
          rw [← eg] at hb2
          refine lv_if_eq (tgt := 133) hx hb dX5_counts_109 (by decide) (fun q2 => ?_) (fun q2 => ?_)
          · have g0 : g i = false := (Bool.not_eq_true _).mp (fun h => by rw [if_pos h] at hb2; exact absurd (hb2.symm.trans q2) (by decide))
            refine lv_iinc (v := nI (i + 1)) (lv' := [(6, .int (nI (i + 1))), (7, .int (nI k0)), (0, .ref qm), (1, .int (nI co)), (2, .int f1), (3, .int f2), (4, .int g1), (5, .int g2)]) hx hb dX5_counts_133 hl (k := 1) rfl (nI_1 i) (by decide) rfl (fun ls hl => ?_)
            refine lv_goto (tgt := 45) hx hb dX5_counts_136 (by decide) ?_
            exact ih (i + 1) (upd fB k0 (fB k0 + 1)) gB H locs (by omega) (cnts_y hk0 e0 f0 hf9) (cnts_n g0 hg9) (by rw [cnt_y f0, cnt_n g0]; exact hP) (by rw [cnt_y f0, cnt_n g0]; exact hD) hS ls (lv_sub hl [0, 2, 3, 4, 5, 6, 7] rfl)
          · have g0 : g i = true := (Bool.not_eq_false _).mp (fun h => q2 (by rw [hb2, if_neg (by rw [h]; decide)]))
            refine lv_aload_n hx hb dX5_counts_112 rfl (lv_at hl 2 rfl) ?_
            refine va_get (D := dd) (ci := 5) (C := RX5) (T := TX5) (N := 30) (v := .ref (a 14)) hx hb hts hiX5 hown hK hP 0 rfl rfl 14 (by decide) (hts (.fieldLink RX5 45 "SliceDriftModel" "second" "[I") (by decide +kernel)) (fun _ h9 => h9) rfl dX5_counts_113 ?_
            refine lv_iload hx hb dX5_counts_116 (lv_at hl 0 rfl) ?_
            refine lv_dup2_11 hx hb dX5_counts_118 rfl rfl ?_
            refine va_iald hx hb hK hP 4 0 rfl rfl (i := nI k0) (vp_in_nI (show k0 < 11 from hk0) (by decide)) dX5_counts_119 ?_
            rw [nI_clamp (show k0 < 2 ^ 31 from Nat.lt_trans (show k0 < 11 from hk0) (by decide))]
            refine lv_iconst (v := 1) hx hb dX5_counts_120 (by decide) ?_
            refine lv_iadd hx hb dX5_counts_121 ?_
            refine va_iast hx hb hK hP hD hS 4 0 rfl rfl (i := nI k0) (vp_in_nI (show k0 < 11 from hk0) (by decide)) dX5_counts_122 (fun H locs hP hD hS => ?_)
            rw [nI_clamp (show k0 < 2 ^ 31 from Nat.lt_trans (show k0 < 11 from hk0) (by decide))] at hP hD
            have hP : va_P dd vwCl [(qm, .inr (5, mo a th (nI n) li (nI (cnt f i + 1)) (nI (cnt g i)) ab be st al)), (a 2, .inl (cyI, 48, .inl tI)), (a 4, .inl (cyI, 240, .inl sI)), (a 13, .inl (cyI, 11, .inl (upd fB k0 ((fB k0) + 1)))), (a 14, .inl (cyI, 11, .inl (upd gB k0 ((gB k0) + 1))))] H := hP
            have hD : va_D A [(qm, .inr (5, mo a th (nI n) li (nI (cnt f i + 1)) (nI (cnt g i)) ab be st al)), (a 2, .inl (cyI, 48, .inl tI)), (a 4, .inl (cyI, 240, .inl sI)), (a 13, .inl (cyI, 11, .inl (upd fB k0 ((fB k0) + 1)))), (a 14, .inl (cyI, 11, .inl (upd gB k0 ((gB k0) + 1))))] := hD
            refine lv_aload_n hx hb dX5_counts_123 rfl (lv_at hl 2 rfl) ?_
            refine lv_dup hx hb dX5_counts_124 rfl ?_
            refine va_get (D := dd) (ci := 5) (C := RX5) (T := TX5) (N := 30) (v := .int (nI (cnt g i))) hx hb hts hiX5 hown hK hP 0 rfl rfl 16 (by decide) (hts (.fieldLink RX5 133 "SliceDriftModel" "secondMany" "I") (by decide +kernel)) (fun _ h9 => h9) rfl dX5_counts_125 ?_
            refine lv_iconst (v := 1) hx hb dX5_counts_128 (by decide) ?_
            refine lv_iadd hx hb dX5_counts_129 ?_
            refine tpi (show ((nI (cnt g i)) + 1 : Int32) = nI (cnt g i + 1) from nI_1 _) ?_
            refine va_put (D := dd) (ci := 5) (v := .int (nI (cnt g i + 1))) (ty := .int) (C := RX5) (T := TX5) (N := 30) hx hb hts hiX5 tyX5 tyX5_ok nmX5 hown hK hP hD hS 0 rfl rfl 16 (by decide) (hts (.fieldLink RX5 133 "SliceDriftModel" "secondMany" "I") (by decide +kernel)) (fun _ h9 => h9) rfl (by decide +kernel) rfl rfl (Nat.le_of_ble_eq_true rfl) dX5_counts_130 (fun H locs hP hD hS => ?_)
            have hP : va_P dd vwCl [(qm, .inr (5, mo a th (nI n) li (nI (cnt f i + 1)) (nI (cnt g i + 1)) ab be st al)), (a 2, .inl (cyI, 48, .inl tI)), (a 4, .inl (cyI, 240, .inl sI)), (a 13, .inl (cyI, 11, .inl (upd fB k0 ((fB k0) + 1)))), (a 14, .inl (cyI, 11, .inl (upd gB k0 ((gB k0) + 1))))] H := hP
            have hD : va_D A [(qm, .inr (5, mo a th (nI n) li (nI (cnt f i + 1)) (nI (cnt g i + 1)) ab be st al)), (a 2, .inl (cyI, 48, .inl tI)), (a 4, .inl (cyI, 240, .inl sI)), (a 13, .inl (cyI, 11, .inl (upd fB k0 ((fB k0) + 1)))), (a 14, .inl (cyI, 11, .inl (upd gB k0 ((gB k0) + 1))))] := hD
            refine lv_iinc (v := nI (i + 1)) (lv' := [(6, .int (nI (i + 1))), (7, .int (nI k0)), (0, .ref qm), (1, .int (nI co)), (2, .int f1), (3, .int f2), (4, .int g1), (5, .int g2)]) hx hb dX5_counts_133 hl (k := 1) rfl (nI_1 i) (by decide) rfl (fun ls hl => ?_)
            refine lv_goto (tgt := 45) hx hb dX5_counts_136 (by decide) ?_
            exact ih (i + 1) (upd fB k0 (fB k0 + 1)) (upd gB k0 (gB k0 + 1)) H locs (by omega) (cnts_y hk0 e0 f0 hf9) (cnts_y hk0 e0 g0 hg9) (by rw [cnt_y f0, cnt_y g0]; exact hP) (by rw [cnt_y f0, cnt_y g0]; exact hD) hS ls (lv_sub hl [0, 2, 3, 4, 5, 6, 7] rfl)
  have loop1 : ∀ (k9 : Nat) (j : Nat) (fB gB : Nat → Int32) (H : Heap) (locs : List Loc), j + k9 = 11 → (∀ k, k < j → fB k = 0 ∧ gB k = 0) → va_P dd vwCl [(qm, .inr (5, mo a th (nI n) li 0 0 ab be st al)), (a 2, .inl (cyI, 48, .inl tI)), (a 4, .inl (cyI, 240, .inl sI)), (a 13, .inl (cyI, 11, .inl fB)), (a 14, .inl (cyI, 11, .inl gB))] H → va_D A [(qm, .inr (5, mo a th (nI n) li 0 0 ab be st al)), (a 2, .inl (cyI, 48, .inl tI)), (a 4, .inl (cyI, 240, .inl sI)), (a 13, .inl (cyI, 11, .inl fB)), (a 14, .inl (cyI, 11, .inl gB))] → va_S A s.heap H locs → ∀ ls : Array Slot, lv_has ls 8 [(6, .int (nI j)), (0, .ref qm), (1, .int (nI co)), (2, .int f1), (3, .int f2), (4, .int g1), (5, .int g2)] → W p l e ({ frames := 1, cells := 0, slots := 0, locals := 23 } : Room) s m ([.ref qm, .int (nI co), .int f1, .int f2, .int g1, .int g2] : List Value).toArray below meth c H locs 0 0 (MQ below (va_Qv (S := (Nat → Int32) × (Nat → Int32)) (fun (u : (Nat → Int32) × (Nat → Int32)) => ∀ k, k < 11 → u.1 k = nI (cs f sI co n k) ∧ u.2 k = nI (cs g sI co n k)) (WQ dd [(qm, .inr (5, mo a th (nI n) li fm sm ab be st al)), (a 2, .inl (cyI, 48, .inl tI)), (a 4, .inl (cyI, 240, .inl sI)), (a 13, .inl (cyI, 11, .inl fA)), (a 14, .inl (cyI, 11, .inl gA))] sz (fun u => [(qm, .inr (5, mo a th (nI n) li (nI (cnt f n)) (nI (cnt g n)) ab be st al)), (a 2, .inl (cyI, 48, .inl tI)), (a 4, .inl (cyI, 240, .inl sI)), (a 13, .inl (cyI, 11, .inl u.1)), (a 14, .inl (cyI, 11, .inl u.2))])) A) ([.ref qm, .int (nI co), .int f1, .int f2, .int g1, .int g2] : List Value).toArray s 0 0 A) (F0 m 13 ls []) := by
    intro k9
    induction k9 with
    | zero =>
      intro j fB gB H locs hj9 hz9 hP hD hS ls hl
      refine lv_iload hx hb dX5_counts_13 (lv_at hl 0 rfl) ?_
      refine lv_bipush (v := 11) hx hb dX5_counts_15 (by decide) ?_
      refine lv_icmp_ge (tgt := 42) hx hb dX5_counts_17 (by decide) (fun q => ?_) (fun q => ?_)
      · refine lv_iconst (v := 0) hx hb dX5_counts_42 (by decide) ?_
        refine lv_istore (lv' := [(6, .int 0), (0, .ref qm), (1, .int (nI co)), (2, .int f1), (3, .int f2), (4, .int g1), (5, .int g2)]) hx hb dX5_counts_43 hl (by decide) rfl (fun ls hl => ?_)
        exact loop2 n 0 fB gB H locs (by omega) (fun k hk => (hz9 k (by omega)).1) (fun k hk => (hz9 k (by omega)).2) hP hD hS ls (lv_sub hl [0, 1, 2, 3, 4, 5, 6] rfl)
      · exact absurd (nI_le (show 11 ≤ j by omega) (by omega)) q
    | succ k9 ih =>
      intro j fB gB H locs hj9 hz9 hP hD hS ls hl
      refine lv_iload hx hb dX5_counts_13 (lv_at hl 0 rfl) ?_
      refine lv_bipush (v := 11) hx hb dX5_counts_15 (by decide) ?_
      refine lv_icmp_ge (tgt := 42) hx hb dX5_counts_17 (by decide) (fun q => ?_) (fun q => ?_)
      · exact absurd q (nI_ge (show j < 11 by omega) (by decide))
      · refine lv_aload_n hx hb dX5_counts_20 rfl (lv_at hl 1 rfl) ?_
        refine va_get (D := dd) (ci := 5) (C := RX5) (T := TX5) (N := 30) (v := .ref (a 13)) hx hb hts hiX5 hown hK hP 0 rfl rfl 13 (by decide) (hts (.fieldLink RX5 42 "SliceDriftModel" "first" "[I") (by decide +kernel)) (fun _ h9 => h9) rfl dX5_counts_21 ?_
        refine lv_iload hx hb dX5_counts_24 (lv_at hl 0 rfl) ?_
        refine lv_iconst (v := 0) hx hb dX5_counts_26 (by decide) ?_
        refine va_iast hx hb hK hP hD hS 3 0 rfl rfl (i := nI j) (vp_in_nI (show j < 11 from (by omega)) (by decide)) dX5_counts_27 (fun H locs hP hD hS => ?_)
        rw [nI_clamp (show j < 2 ^ 31 from Nat.lt_trans (show j < 11 from (by omega)) (by decide))] at hP hD
        have hP : va_P dd vwCl [(qm, .inr (5, mo a th (nI n) li 0 0 ab be st al)), (a 2, .inl (cyI, 48, .inl tI)), (a 4, .inl (cyI, 240, .inl sI)), (a 13, .inl (cyI, 11, .inl (upd fB j 0))), (a 14, .inl (cyI, 11, .inl gB))] H := hP
        have hD : va_D A [(qm, .inr (5, mo a th (nI n) li 0 0 ab be st al)), (a 2, .inl (cyI, 48, .inl tI)), (a 4, .inl (cyI, 240, .inl sI)), (a 13, .inl (cyI, 11, .inl (upd fB j 0))), (a 14, .inl (cyI, 11, .inl gB))] := hD
        refine lv_aload_n hx hb dX5_counts_28 rfl (lv_at hl 1 rfl) ?_
        refine va_get (D := dd) (ci := 5) (C := RX5) (T := TX5) (N := 30) (v := .ref (a 14)) hx hb hts hiX5 hown hK hP 0 rfl rfl 14 (by decide) (hts (.fieldLink RX5 45 "SliceDriftModel" "second" "[I") (by decide +kernel)) (fun _ h9 => h9) rfl dX5_counts_29 ?_
        refine lv_iload hx hb dX5_counts_32 (lv_at hl 0 rfl) ?_
        refine lv_iconst (v := 0) hx hb dX5_counts_34 (by decide) ?_
        refine va_iast hx hb hK hP hD hS 4 0 rfl rfl (i := nI j) (vp_in_nI (show j < 11 from (by omega)) (by decide)) dX5_counts_35 (fun H locs hP hD hS => ?_)
        rw [nI_clamp (show j < 2 ^ 31 from Nat.lt_trans (show j < 11 from (by omega)) (by decide))] at hP hD
        have hP : va_P dd vwCl [(qm, .inr (5, mo a th (nI n) li 0 0 ab be st al)), (a 2, .inl (cyI, 48, .inl tI)), (a 4, .inl (cyI, 240, .inl sI)), (a 13, .inl (cyI, 11, .inl (upd fB j 0))), (a 14, .inl (cyI, 11, .inl (upd gB j 0)))] H := hP
        have hD : va_D A [(qm, .inr (5, mo a th (nI n) li 0 0 ab be st al)), (a 2, .inl (cyI, 48, .inl tI)), (a 4, .inl (cyI, 240, .inl sI)), (a 13, .inl (cyI, 11, .inl (upd fB j 0))), (a 14, .inl (cyI, 11, .inl (upd gB j 0)))] := hD
        refine lv_iinc (v := nI (j + 1)) (lv' := [(6, .int (nI (j + 1))), (0, .ref qm), (1, .int (nI co)), (2, .int f1), (3, .int f2), (4, .int g1), (5, .int g2)]) hx hb dX5_counts_36 hl (k := 0) rfl (nI_1 j) (by decide) rfl (fun ls hl => ?_)
        refine lv_goto (tgt := 13) hx hb dX5_counts_39 (by decide) ?_
        exact ih (j + 1) (upd fB j 0) (upd gB j 0) H locs (by omega) (fun k hk => (Nat.lt_or_ge k j).elim (fun h => by rw [pk_un (by omega), pk_un (by omega)]; exact hz9 k h) (fun h => by rw [show k = j by omega, pk_us, pk_us]; exact ⟨rfl, rfl⟩)) hP hD hS ls (lv_sub hl [0, 1, 2, 3, 4, 5, 6] rfl)
  refine lv_aload_n hx hb dX5_counts_0 rfl (lv_at hl 0 rfl) ?_
  refine lv_iconst (v := 0) hx hb dX5_counts_1 (by decide) ?_
  refine va_put (D := dd) (ci := 5) (v := .int 0) (ty := .int) (C := RX5) (T := TX5) (N := 30) hx hb hts hiX5 tyX5 tyX5_ok nmX5 hown hK hP hD hS 0 rfl rfl 15 (by decide) (hts (.fieldLink RX5 130 "SliceDriftModel" "firstMany" "I") (by decide +kernel)) (fun _ h9 => h9) rfl (by decide +kernel) rfl rfl (Nat.le_of_ble_eq_true rfl) dX5_counts_2 (fun H locs hP hD hS => ?_)
  have hP : va_P dd vwCl [(qm, .inr (5, mo a th (nI n) li 0 sm ab be st al)), (a 2, .inl (cyI, 48, .inl tI)), (a 4, .inl (cyI, 240, .inl sI)), (a 13, .inl (cyI, 11, .inl fA)), (a 14, .inl (cyI, 11, .inl gA))] H := hP
  have hD : va_D A [(qm, .inr (5, mo a th (nI n) li 0 sm ab be st al)), (a 2, .inl (cyI, 48, .inl tI)), (a 4, .inl (cyI, 240, .inl sI)), (a 13, .inl (cyI, 11, .inl fA)), (a 14, .inl (cyI, 11, .inl gA))] := hD
  refine lv_aload_n hx hb dX5_counts_5 rfl (lv_at hl 0 rfl) ?_
  refine lv_iconst (v := 0) hx hb dX5_counts_6 (by decide) ?_
  refine va_put (D := dd) (ci := 5) (v := .int 0) (ty := .int) (C := RX5) (T := TX5) (N := 30) hx hb hts hiX5 tyX5 tyX5_ok nmX5 hown hK hP hD hS 0 rfl rfl 16 (by decide) (hts (.fieldLink RX5 133 "SliceDriftModel" "secondMany" "I") (by decide +kernel)) (fun _ h9 => h9) rfl (by decide +kernel) rfl rfl (Nat.le_of_ble_eq_true rfl) dX5_counts_7 (fun H locs hP hD hS => ?_)
  have hP : va_P dd vwCl [(qm, .inr (5, mo a th (nI n) li 0 0 ab be st al)), (a 2, .inl (cyI, 48, .inl tI)), (a 4, .inl (cyI, 240, .inl sI)), (a 13, .inl (cyI, 11, .inl fA)), (a 14, .inl (cyI, 11, .inl gA))] H := hP
  have hD : va_D A [(qm, .inr (5, mo a th (nI n) li 0 0 ab be st al)), (a 2, .inl (cyI, 48, .inl tI)), (a 4, .inl (cyI, 240, .inl sI)), (a 13, .inl (cyI, 11, .inl fA)), (a 14, .inl (cyI, 11, .inl gA))] := hD
  refine lv_iconst (v := 0) hx hb dX5_counts_10 (by decide) ?_
  refine lv_istore (lv' := [(6, .int 0), (0, .ref qm), (1, .int (nI co)), (2, .int f1), (3, .int f2), (4, .int g1), (5, .int g2)]) hx hb dX5_counts_11 hl (by decide) rfl (fun ls hl => ?_)
  exact loop1 11 0 fA gA H locs rfl (fun k h => absurd h (Nat.not_lt_zero k)) hP hD hS ls (lv_sub hl [0, 1, 2, 3, 4, 5, 6] rfl)
end
section
/-- what stands above in a drift, by counts -/
def dsg (pp qq : Nat → Nat) (F G : Nat) : Nat → Nat
  | 0 => 0
  | k + 1 => dsg pp qq F G k + (((pp k * G : Nat) : Int) - ((qq k * F : Nat) : Int)).natAbs
theorem dsu_dsg (f g : Nat → Bool) (sI : Nat → Int32) (co n : Nat) : ∀ k, dsu f g sI co n k = dsg (cs f sI co n) (cs g sI co n) (cnt f n) (cnt g n) k
  | 0 => rfl
  | k + 1 => by simp only [dsu, dsg]; rw [dsu_dsg f g sI co n k]
theorem lsubI (x z : Nat) : lN x - lN z = lI (((x : Nat) : Int) - ((z : Nat) : Int)) := by
  rw [lN_lI, lN_lI]
  exact (Int64.ofInt_sub _ _).symm
theorem lneg_abs {z : Int} (h : z < 0) : -lI z = lN z.natAbs := by
  rw [lN_lI]
  unfold lI
  rw [← Int64.ofInt_neg]
  congr 1
  omega
theorem lpos_abs {z : Int} (h : 0 ≤ z) : lI z = lN z.natAbs := by
  rw [lN_lI]
  congr 1
  omega
theorem lI_ge {z : Int} (h : z.natAbs < 2 ^ 62) : 0 ≤ lg_cmp (lI z) 0 ↔ 0 ≤ z := by
  rw [lg_cmp_ge, Int64.le_iff_toInt_le, lI_toInt h]
  rfl

set_option maxHeartbeats 4000000 in
set_option maxRecDepth 100000 in
theorem r_drifts (l : Launch) (dd : va_G) (cyI cyJ cyZ : ClassId) (qm : Nat) (a : Nat → Nat) (th ro li : Int32) (ab be : Int64) (st al : Int32) (F G : Nat) (hF : F ≤ 48) (hG : G ≤ 48) (pp qq : Nat → Nat) (fA gA : Nat → Int32) (hfA : ∀ k, k < 11 → fA k = nI (pp k) ∧ pp k ≤ 48) (hgA : ∀ k, k < 11 → gA k = nI (qq k) ∧ qq k ≤ 48) (sz : Nat) : Met l yX5_drifts wsX5_drifts ({ frames := 0, cells := 0, slots := 0, locals := 0 } : Room) (va_Pc [.ref qm] (Wr dd [(cyI, .int), (cyJ, .long), (cyZ, .boolean)] [(qm, .inr (5, mo a th ro li (nI F) (nI G) ab be st al)), (a 13, .inl (cyI, 11, .inl fA)), (a 14, .inl (cyI, 11, .inl gA))] sz)) (va_Qi (S := Int64 × Int64) (fun (r : Int32) (u : Int64 × Int64) => (r = 0 ∧ (F = 0 ∨ G = 0) ∧ u = (ab, be)) ∨ (r = 1 ∧ ¬ (F = 0 ∨ G = 0) ∧ u = (lN (dsg pp qq F G 11), lN (2 * F * G)))) (WQ dd [(qm, .inr (5, mo a th ro li (nI F) (nI G) ab be st al)), (a 13, .inl (cyI, 11, .inl fA)), (a 14, .inl (cyI, 11, .inl gA))] sz (fun u => [(qm, .inr (5, mo a th ro li (nI F) (nI G) u.1 u.2 st al)), (a 13, .inl (cyI, 11, .inl fA)), (a 14, .inl (cyI, 11, .inl gA))])) (va_A [(qm, .inr (5, mo a th ro li (nI F) (nI G) ab be st al)), (a 13, .inl (cyI, 11, .inl fA)), (a 14, .inl (cyI, 11, .inl gA))] sz)) 0 0 (va_A [(qm, .inr (5, mo a th ro li (nI F) (nI G) ab be st al)), (a 13, .inl (cyI, 11, .inl fA)), (a 14, .inl (cyI, 11, .inl gA))] sz) := by
  refine mkW (Qc := fun A => (va_Qi (S := Int64 × Int64) (fun (r : Int32) (u : Int64 × Int64) => (r = 0 ∧ (F = 0 ∨ G = 0) ∧ u = (ab, be)) ∨ (r = 1 ∧ ¬ (F = 0 ∨ G = 0) ∧ u = (lN (dsg pp qq F G 11), lN (2 * F * G)))) (WQ dd [(qm, .inr (5, mo a th ro li (nI F) (nI G) ab be st al)), (a 13, .inl (cyI, 11, .inl fA)), (a 14, .inl (cyI, 11, .inl gA))] sz (fun u => [(qm, .inr (5, mo a th ro li (nI F) (nI G) u.1 u.2 st al)), (a 13, .inl (cyI, 11, .inl fA)), (a 14, .inl (cyI, 11, .inl gA))])) A)) (cc := cX5_drifts) (maxL := 4) (by decide) rfl (Nat.le_of_ble_eq_true rfl) (lv0 := [(0, .ref qm)]) rfl ?_
  intro p e s m below meth c ls H A hx hb hr hml hown hlocks hts hmn hN hP hK hD hS hA hAe hl
  have hown : s.vm.findClass RX5 = some m.cls := hown
  have hiX5 : ∀ w ∈ wsX50, w ∈ wsX5_drifts := by decide +kernel
  refine lv_aload_n hx hb dX5_drifts_0 rfl (lv_at hl 0 rfl) ?_
  refine va_get (D := dd) (ci := 5) (C := RX5) (T := TX5) (N := 30) (v := .int (nI F)) hx hb hts hiX5 hown hK hP 0 rfl rfl 15 (by decide) (hts (.fieldLink RX5 130 "SliceDriftModel" "firstMany" "I") (by decide +kernel)) (fun _ h9 => h9) rfl dX5_drifts_1 ?_
  refine lv_if_eq (tgt := 14) hx hb dX5_drifts_4 (by decide) (fun q1 => ?_) (fun q1 => ?_)
  · refine lv_iconst (v := 0) hx hb dX5_drifts_14 (by decide) ?_
    exact ewZ (ab, be) hx hb hr hlocks hAe hS dX5_drifts_15 rfl (Or.inl ⟨rfl, Or.inl ((nI_eq (b := 0) (by omega) (by decide)).mp q1), rfl⟩) (hP.sub [0, 1, 2] rfl) (hD.sub [0, 1, 2] (by decide) rfl)
  · have hF0 : F ≠ 0 := fun h => q1 (by rw [h]; rfl)
    refine lv_aload_n hx hb dX5_drifts_7 rfl (lv_at hl 0 rfl) ?_
    refine va_get (D := dd) (ci := 5) (C := RX5) (T := TX5) (N := 30) (v := .int (nI G)) hx hb hts hiX5 hown hK hP 0 rfl rfl 16 (by decide) (hts (.fieldLink RX5 133 "SliceDriftModel" "secondMany" "I") (by decide +kernel)) (fun _ h9 => h9) rfl dX5_drifts_8 ?_
    refine lv_if_ne (tgt := 16) hx hb dX5_drifts_11 (by decide) (fun q3 => ?_) (fun q3 => ?_)
    · have hG0 : G ≠ 0 := fun h => q3 (by rw [h]; rfl)
      have hnz : ¬ (F = 0 ∨ G = 0) := fun h => h.elim hF0 hG0
      refine lv_aload_n hx hb dX5_drifts_16 rfl (lv_at hl 0 rfl) ?_
      refine lv_lconst (v := 0) hx hb dX5_drifts_17 (by decide) ?_
      refine va_put (D := dd) (ci := 5) (v := .long 0) (ty := .long) (C := RX5) (T := TX5) (N := 30) hx hb hts hiX5 tyX5 tyX5_ok nmX5 hown hK hP hD hS 0 rfl rfl 17 (by decide) (hts (.fieldLink RX5 136 "SliceDriftModel" "above" "J") (by decide +kernel)) (fun _ h9 => h9) rfl (by decide +kernel) rfl rfl (Nat.le_of_ble_eq_true rfl) dX5_drifts_18 (fun H locs hP hD hS => ?_)
      have hP : va_P dd vwCl [(qm, .inr (5, mo a th ro li (nI F) (nI G) 0 be st al)), (a 13, .inl (cyI, 11, .inl fA)), (a 14, .inl (cyI, 11, .inl gA))] H := hP
      have hD : va_D A [(qm, .inr (5, mo a th ro li (nI F) (nI G) 0 be st al)), (a 13, .inl (cyI, 11, .inl fA)), (a 14, .inl (cyI, 11, .inl gA))] := hD
      refine lv_iconst (v := 0) hx hb dX5_drifts_21 (by decide) ?_
      refine lv_istore_n (lv' := [(1, .int 0), (0, .ref qm)]) hx hb dX5_drifts_22 rfl hl (by decide) rfl (fun ls hl => ?_)
      have loop : ∀ (k : Nat) (k9 : Nat) (H : Heap) (locs : List Loc), k9 + k = 11 → va_P dd vwCl [(qm, .inr (5, mo a th ro li (nI F) (nI G) (lN (dsg pp qq F G k9)) be st al)), (a 13, .inl (cyI, 11, .inl fA)), (a 14, .inl (cyI, 11, .inl gA))] H → va_D A [(qm, .inr (5, mo a th ro li (nI F) (nI G) (lN (dsg pp qq F G k9)) be st al)), (a 13, .inl (cyI, 11, .inl fA)), (a 14, .inl (cyI, 11, .inl gA))] → va_S A s.heap H locs → ∀ ls : Array Slot, lv_has ls 4 [(1, .int (nI k9)), (0, .ref qm)] → W p l e ({ frames := 0, cells := 0, slots := 0, locals := 0 } : Room) s m ([.ref qm] : List Value).toArray below meth c H locs 0 0 (MQ below (va_Qi (S := Int64 × Int64) (fun (r : Int32) (u : Int64 × Int64) => (r = 0 ∧ (F = 0 ∨ G = 0) ∧ u = (ab, be)) ∨ (r = 1 ∧ ¬ (F = 0 ∨ G = 0) ∧ u = (lN (dsg pp qq F G 11), lN (2 * F * G)))) (WQ dd [(qm, .inr (5, mo a th ro li (nI F) (nI G) ab be st al)), (a 13, .inl (cyI, 11, .inl fA)), (a 14, .inl (cyI, 11, .inl gA))] sz (fun u => [(qm, .inr (5, mo a th ro li (nI F) (nI G) u.1 u.2 st al)), (a 13, .inl (cyI, 11, .inl fA)), (a 14, .inl (cyI, 11, .inl gA))])) A) ([.ref qm] : List Value).toArray s 0 0 A) (F0 m 23 ls []) := by
        intro k
        induction k with
        | zero =>
          intro k9 H locs hk9 hP hD hS ls hl
          refine lv_iload_n hx hb dX5_drifts_23 rfl (lv_at hl 0 rfl) ?_
          refine lv_bipush (v := 11) hx hb dX5_drifts_24 (by decide) ?_
          refine lv_icmp_ge (tgt := 84) hx hb dX5_drifts_26 (by decide) (fun q => ?_) (fun q => ?_)
          · have hk11 : k9 = 11 := by omega
            subst hk11
            refine lv_aload_n hx hb dX5_drifts_84 rfl (lv_at hl 1 rfl) ?_
            refine lv_ldc2 (v := 2) hx hb hown (hts (.constantLong RX5 140 2) (by decide +kernel)) dX5_drifts_85 ?_
            refine lv_aload_n hx hb dX5_drifts_88 rfl (lv_at hl 1 rfl) ?_
            refine va_get (D := dd) (ci := 5) (C := RX5) (T := TX5) (N := 30) (v := .int (nI F)) hx hb hts hiX5 hown hK hP 0 rfl rfl 15 (by decide) (hts (.fieldLink RX5 130 "SliceDriftModel" "firstMany" "I") (by decide +kernel)) (fun _ h9 => h9) rfl dX5_drifts_89 ?_
            refine lv_i2l hx hb dX5_drifts_92 rfl ?_
            refine tpl (show ((nI F).toInt64 : Int64) = lN F from nI_l (by omega)) ?_
            refine lv_lmul hx hb dX5_drifts_93 ?_
            refine tpl (show (2 * (lN F) : Int64) = lN (2 * F) from lN_mul 2 F) ?_
            refine lv_aload_n hx hb dX5_drifts_94 rfl (lv_at hl 1 rfl) ?_
            refine va_get (D := dd) (ci := 5) (C := RX5) (T := TX5) (N := 30) (v := .int (nI G)) hx hb hts hiX5 hown hK hP 0 rfl rfl 16 (by decide) (hts (.fieldLink RX5 133 "SliceDriftModel" "secondMany" "I") (by decide +kernel)) (fun _ h9 => h9) rfl dX5_drifts_95 ?_
            refine lv_i2l hx hb dX5_drifts_98 rfl ?_
            refine tpl (show ((nI G).toInt64 : Int64) = lN G from nI_l (by omega)) ?_
            refine lv_lmul hx hb dX5_drifts_99 ?_
            refine tpl (show ((lN (2 * F)) * (lN G) : Int64) = lN (2 * F * G) from lN_mul _ _) ?_
            refine va_put (D := dd) (ci := 5) (v := .long (lN (2 * F * G))) (ty := .long) (C := RX5) (T := TX5) (N := 30) hx hb hts hiX5 tyX5 tyX5_ok nmX5 hown hK hP hD hS 0 rfl rfl 18 (by decide) (hts (.fieldLink RX5 142 "SliceDriftModel" "below" "J") (by decide +kernel)) (fun _ h9 => h9) rfl (by decide +kernel) rfl rfl (Nat.le_of_ble_eq_true rfl) dX5_drifts_100 (fun H locs hP hD hS => ?_)
            have hP : va_P dd vwCl [(qm, .inr (5, mo a th ro li (nI F) (nI G) (lN (dsg pp qq F G 11)) (lN (2 * F * G)) st al)), (a 13, .inl (cyI, 11, .inl fA)), (a 14, .inl (cyI, 11, .inl gA))] H := hP
            have hD : va_D A [(qm, .inr (5, mo a th ro li (nI F) (nI G) (lN (dsg pp qq F G 11)) (lN (2 * F * G)) st al)), (a 13, .inl (cyI, 11, .inl fA)), (a 14, .inl (cyI, 11, .inl gA))] := hD
            refine lv_iconst (v := 1) hx hb dX5_drifts_103 (by decide) ?_
            exact ewZ (lN (dsg pp qq F G 11), lN (2 * F * G)) hx hb hr hlocks hAe hS dX5_drifts_104 rfl (Or.inr ⟨rfl, hnz, rfl⟩) (hP.sub [0, 1, 2] rfl) (hD.sub [0, 1, 2] (by decide) rfl)
          · exact absurd (nI_le (show 11 ≤ k9 by omega) (by omega)) q
        | succ k ih =>
          intro k9 H locs hk9 hP hD hS ls hl
          refine lv_iload_n hx hb dX5_drifts_23 rfl (lv_at hl 0 rfl) ?_
          refine lv_bipush (v := 11) hx hb dX5_drifts_24 (by decide) ?_
          refine lv_icmp_ge (tgt := 84) hx hb dX5_drifts_26 (by decide) (fun q => ?_) (fun q => ?_)
          · exact absurd q (nI_ge (show k9 < 11 by omega) (by decide))
          · obtain ⟨ef, hf4⟩ := hfA k9 (by omega)
            obtain ⟨eg, hg4⟩ := hgA k9 (by omega)
            have b1 : pp k9 * G ≤ 2304 := Nat.le_trans (Nat.mul_le_mul hf4 hG) (by decide)
            have b2 : qq k9 * F ≤ 2304 := Nat.le_trans (Nat.mul_le_mul hg4 hF) (by decide)
            refine lv_aload_n hx hb dX5_drifts_29 rfl (lv_at hl 1 rfl) ?_
            refine va_get (D := dd) (ci := 5) (C := RX5) (T := TX5) (N := 30) (v := .ref (a 13)) hx hb hts hiX5 hown hK hP 0 rfl rfl 13 (by decide) (hts (.fieldLink RX5 42 "SliceDriftModel" "first" "[I") (by decide +kernel)) (fun _ h9 => h9) rfl dX5_drifts_30 ?_
            refine lv_iload_n hx hb dX5_drifts_33 rfl (lv_at hl 0 rfl) ?_
            refine va_iald hx hb hK hP 1 0 rfl rfl (i := nI k9) (vp_in_nI (show k9 < 11 from (by omega)) (by decide)) dX5_drifts_34 ?_
            rw [nI_clamp (show k9 < 2 ^ 31 from Nat.lt_trans (show k9 < 11 from (by omega)) (by decide))]
            refine tpi (show (fA k9 : Int32) = nI (pp k9) from ef) ?_
            refine lv_i2l hx hb dX5_drifts_35 rfl ?_
            refine tpl (show ((nI (pp k9)).toInt64 : Int64) = lN (pp k9) from nI_l (by omega)) ?_
            refine lv_aload_n hx hb dX5_drifts_36 rfl (lv_at hl 1 rfl) ?_
            refine va_get (D := dd) (ci := 5) (C := RX5) (T := TX5) (N := 30) (v := .int (nI G)) hx hb hts hiX5 hown hK hP 0 rfl rfl 16 (by decide) (hts (.fieldLink RX5 133 "SliceDriftModel" "secondMany" "I") (by decide +kernel)) (fun _ h9 => h9) rfl dX5_drifts_37 ?_
            refine lv_i2l hx hb dX5_drifts_40 rfl ?_
            refine tpl (show ((nI G).toInt64 : Int64) = lN G from nI_l (by omega)) ?_
            refine lv_lmul hx hb dX5_drifts_41 ?_
            refine tpl (show ((lN (pp k9)) * (lN G) : Int64) = lN (pp k9 * G) from lN_mul _ _) ?_
            refine lv_aload_n hx hb dX5_drifts_42 rfl (lv_at hl 1 rfl) ?_
            refine va_get (D := dd) (ci := 5) (C := RX5) (T := TX5) (N := 30) (v := .ref (a 14)) hx hb hts hiX5 hown hK hP 0 rfl rfl 14 (by decide) (hts (.fieldLink RX5 45 "SliceDriftModel" "second" "[I") (by decide +kernel)) (fun _ h9 => h9) rfl dX5_drifts_43 ?_
            refine lv_iload_n hx hb dX5_drifts_46 rfl (lv_at hl 0 rfl) ?_
            refine va_iald hx hb hK hP 2 0 rfl rfl (i := nI k9) (vp_in_nI (show k9 < 11 from (by omega)) (by decide)) dX5_drifts_47 ?_
            rw [nI_clamp (show k9 < 2 ^ 31 from Nat.lt_trans (show k9 < 11 from (by omega)) (by decide))]
            refine tpi (show (gA k9 : Int32) = nI (qq k9) from eg) ?_
            refine lv_i2l hx hb dX5_drifts_48 rfl ?_
            refine tpl (show ((nI (qq k9)).toInt64 : Int64) = lN (qq k9) from nI_l (by omega)) ?_
            refine lv_aload_n hx hb dX5_drifts_49 rfl (lv_at hl 1 rfl) ?_
            refine va_get (D := dd) (ci := 5) (C := RX5) (T := TX5) (N := 30) (v := .int (nI F)) hx hb hts hiX5 hown hK hP 0 rfl rfl 15 (by decide) (hts (.fieldLink RX5 130 "SliceDriftModel" "firstMany" "I") (by decide +kernel)) (fun _ h9 => h9) rfl dX5_drifts_50 ?_
            refine lv_i2l hx hb dX5_drifts_53 rfl ?_
            refine tpl (show ((nI F).toInt64 : Int64) = lN F from nI_l (by omega)) ?_
            refine lv_lmul hx hb dX5_drifts_54 ?_
            refine tpl (show ((lN (qq k9)) * (lN F) : Int64) = lN (qq k9 * F) from lN_mul _ _) ?_
            refine lv_lsub hx hb dX5_drifts_55 ?_
            refine tpl (show ((lN (pp k9 * G)) - (lN (qq k9 * F)) : Int64) = lI (((pp k9 * G : Nat) : Int) - ((qq k9 * F : Nat) : Int)) from lsubI _ _) ?_
            obtain ⟨z, ez⟩ : ∃ z : Int, z = ((pp k9 * G : Nat) : Int) - ((qq k9 * F : Nat) : Int) := ⟨_, rfl⟩
            have hz : z.natAbs < 2 ^ 62 := by omega
            rw [← ez]
            refine lv_lstore_n (lv' := [(2, .long (lI z)), (1, .int (nI k9)), (0, .ref qm)]) hx hb dX5_drifts_56 rfl hl (by decide) rfl (fun ls hl => ?_)
            refine lv_aload_n hx hb dX5_drifts_57 rfl (lv_at hl 2 rfl) ?_
            refine lv_dup hx hb dX5_drifts_58 rfl ?_
            refine va_get (D := dd) (ci := 5) (C := RX5) (T := TX5) (N := 30) (v := .long (lN (dsg pp qq F G k9))) hx hb hts hiX5 hown hK hP 0 rfl rfl 17 (by decide) (hts (.fieldLink RX5 136 "SliceDriftModel" "above" "J") (by decide +kernel)) (fun _ h9 => h9) rfl dX5_drifts_59 ?_
            refine lv_lload_n hx hb dX5_drifts_62 rfl (lv_at hl 0 rfl) ?_
            refine lv_lconst (v := 0) hx hb dX5_drifts_63 (by decide) ?_
            refine W.lcmp hx hb dX5_drifts_64 ?_
            refine lv_if_ge (tgt := 73) hx hb dX5_drifts_65 (by decide) (fun q2 => ?_) (fun q2 => ?_)
            · refine lv_lload_n hx hb dX5_drifts_73 rfl (lv_at hl 0 rfl) ?_
              refine tpl (show (lI z : Int64) = lN z.natAbs from lpos_abs ((lI_ge hz).mp q2)) ?_
              refine lv_ladd hx hb dX5_drifts_74 ?_
              refine tpl (show ((lN (dsg pp qq F G k9)) + (lN z.natAbs) : Int64) = lN (dsg pp qq F G (k9 + 1)) from by rw [lN_add, ez]; rfl) ?_
              refine va_put (D := dd) (ci := 5) (v := .long (lN (dsg pp qq F G (k9 + 1)))) (ty := .long) (C := RX5) (T := TX5) (N := 30) hx hb hts hiX5 tyX5 tyX5_ok nmX5 hown hK hP hD hS 0 rfl rfl 17 (by decide) (hts (.fieldLink RX5 136 "SliceDriftModel" "above" "J") (by decide +kernel)) (fun _ h9 => h9) rfl (by decide +kernel) rfl rfl (Nat.le_of_ble_eq_true rfl) dX5_drifts_75 (fun H locs hP hD hS => ?_)
              have hP : va_P dd vwCl [(qm, .inr (5, mo a th ro li (nI F) (nI G) (lN (dsg pp qq F G (k9 + 1))) be st al)), (a 13, .inl (cyI, 11, .inl fA)), (a 14, .inl (cyI, 11, .inl gA))] H := hP
              have hD : va_D A [(qm, .inr (5, mo a th ro li (nI F) (nI G) (lN (dsg pp qq F G (k9 + 1))) be st al)), (a 13, .inl (cyI, 11, .inl fA)), (a 14, .inl (cyI, 11, .inl gA))] := hD
              refine lv_iinc (v := nI (k9 + 1)) (lv' := [(1, .int (nI (k9 + 1))), (2, .long (lI z)), (0, .ref qm)]) hx hb dX5_drifts_78 hl (k := 1) rfl (nI_1 k9) (by decide) rfl (fun ls hl => ?_)
              refine lv_goto (tgt := 23) hx hb dX5_drifts_81 (by decide) ?_
              exact ih (k9 + 1) H locs (by omega) hP hD hS ls (lv_sub hl [0, 2] rfl)
            · refine lv_lload_n hx hb dX5_drifts_68 rfl (lv_at hl 0 rfl) ?_
              refine lv_lneg hx hb dX5_drifts_69 ?_
              refine lv_goto (tgt := 74) hx hb dX5_drifts_70 (by decide) ?_
              refine tpl (show (-(lI z) : Int64) = lN z.natAbs from lneg_abs (Int.not_le.mp (fun h => q2 ((lI_ge hz).mpr h)))) ?_
              refine lv_ladd hx hb dX5_drifts_74 ?_
              refine tpl (show ((lN (dsg pp qq F G k9)) + (lN z.natAbs) : Int64) = lN (dsg pp qq F G (k9 + 1)) from by rw [lN_add, ez]; rfl) ?_
              refine va_put (D := dd) (ci := 5) (v := .long (lN (dsg pp qq F G (k9 + 1)))) (ty := .long) (C := RX5) (T := TX5) (N := 30) hx hb hts hiX5 tyX5 tyX5_ok nmX5 hown hK hP hD hS 0 rfl rfl 17 (by decide) (hts (.fieldLink RX5 136 "SliceDriftModel" "above" "J") (by decide +kernel)) (fun _ h9 => h9) rfl (by decide +kernel) rfl rfl (Nat.le_of_ble_eq_true rfl) dX5_drifts_75 (fun H locs hP hD hS => ?_)
              have hP : va_P dd vwCl [(qm, .inr (5, mo a th ro li (nI F) (nI G) (lN (dsg pp qq F G (k9 + 1))) be st al)), (a 13, .inl (cyI, 11, .inl fA)), (a 14, .inl (cyI, 11, .inl gA))] H := hP
              have hD : va_D A [(qm, .inr (5, mo a th ro li (nI F) (nI G) (lN (dsg pp qq F G (k9 + 1))) be st al)), (a 13, .inl (cyI, 11, .inl fA)), (a 14, .inl (cyI, 11, .inl gA))] := hD
              refine lv_iinc (v := nI (k9 + 1)) (lv' := [(1, .int (nI (k9 + 1))), (2, .long (lI z)), (0, .ref qm)]) hx hb dX5_drifts_78 hl (k := 1) rfl (nI_1 k9) (by decide) rfl (fun ls hl => ?_)
              refine lv_goto (tgt := 23) hx hb dX5_drifts_81 (by decide) ?_
              exact ih (k9 + 1) H locs (by omega) hP hD hS ls (lv_sub hl [0, 2] rfl)
      exact loop 11 0 H _ rfl hP hD hS ls (lv_sub hl [0, 1] rfl)
    · refine lv_iconst (v := 0) hx hb dX5_drifts_14 (by decide) ?_
      exact ewZ (ab, be) hx hb hr hlocks hAe hS dX5_drifts_15 rfl (Or.inl ⟨rfl, Or.inr ((nI_eq (b := 0) (by omega) (by decide)).mp q3), rfl⟩) (hP.sub [0, 1, 2] rfl) (hD.sub [0, 1, 2] (by decide) rfl)

def wgt (x z : Nat) : Nat := if x < z then 2 else if x = z then 1 else 0
def rsI (pp qq : Nat → Nat) (x : Nat) : Nat → Nat
  | 0 => 0
  | z + 1 => rsI pp qq x z + pp x * qq z * wgt x z
def rsO (pp qq : Nat → Nat) : Nat → Nat
  | 0 => 0
  | x + 1 => rsO pp qq x + rsI pp qq x 10

set_option maxHeartbeats 4000000 in
set_option maxRecDepth 100000 in
theorem r_riseOf (l : Launch) (dd : va_G) (cyI cyJ cyZ : ClassId) (qm : Nat) (a : Nat → Nat) (th ro li fm sm : Int32) (ab be : Int64) (st al : Int32) (pp qq : Nat → Nat) (fA gA : Nat → Int32) (hfA : ∀ k, k < 11 → fA k = nI (pp k) ∧ pp k ≤ 48) (hgA : ∀ k, k < 11 → gA k = nI (qq k) ∧ qq k ≤ 48) : Met l yX5_riseOf wsX5_riseOf ({ frames := 0, cells := 0, slots := 0, locals := 0 } : Room) (va_Pc [.ref qm] (Rd dd [(cyI, .int), (cyJ, .long), (cyZ, .boolean)] [(qm, .inr (5, mo a th ro li fm sm ab be st al)), (a 13, .inl (cyI, 11, .inl fA)), (a 14, .inl (cyI, 11, .inl gA))])) (vp_Si (fun r => r = nI (rsO pp qq 10))) 0 0 (fun _ => False) := by
  refine mkR (cc := cX5_riseOf) (maxL := 4) (by decide) rfl (Nat.le_of_ble_eq_true rfl) (lv0 := [(0, .ref qm)]) rfl ?_
  intro p e s m below meth c ls hx hb hr hml hown hlocks hts hN hP hK hl
  have hown : s.vm.findClass RX5 = some m.cls := hown
  have hiX5 : ∀ w ∈ wsX50, w ∈ wsX5_riseOf := by decide +kernel
  refine lv_iconst (v := 0) hx hb dX5_riseOf_0 (by decide) ?_
  refine lv_istore_n (lv' := [(1, .int 0), (0, .ref qm)]) hx hb dX5_riseOf_1 rfl hl (by decide) rfl (fun ls hl => ?_)
  refine lv_iconst (v := 0) hx hb dX5_riseOf_2 (by decide) ?_
  refine lv_istore_n (lv' := [(2, .int 0), (1, .int 0), (0, .ref qm)]) hx hb dX5_riseOf_3 rfl hl (by decide) rfl (fun ls hl => ?_)
  have loop : ∀ (k : Nat) (x : Nat), x + k = 10 → ∀ ls : Array Slot, lv_has ls 4 [(2, .int (nI x)), (1, .int (nI (rsO pp qq x))), (0, .ref qm)] → W p l e ({ frames := 0, cells := 0, slots := 0, locals := 0 } : Room) s m ([.ref qm] : List Value).toArray below meth c s.heap [] 0 0 (MQ below (vp_Si (fun r => r = nI (rsO pp qq 10))) ([.ref qm] : List Value).toArray s 0 0 (fun _ => False)) (F0 m 4 ls []) := by
    intro k
    induction k with
    | zero =>
      intro x hx9 ls hl
      refine lv_iload_n hx hb dX5_riseOf_4 rfl (lv_at hl 0 rfl) ?_
      refine lv_bipush (v := 10) hx hb dX5_riseOf_5 (by decide) ?_
      refine lv_icmp_ge (tgt := 66) hx hb dX5_riseOf_7 (by decide) (fun q => ?_) (fun q => ?_)
      · refine lv_iload_n hx hb dX5_riseOf_66 rfl (lv_at hl 1 rfl) ?_
        exact edI hx hb hr hlocks dX5_riseOf_67 (by rw [show x = 10 by omega])
      · exact absurd (nI_le (show 10 ≤ x by omega) (by omega)) q
    | succ k ih =>
      intro x hx9 ls hl
      refine lv_iload_n hx hb dX5_riseOf_4 rfl (lv_at hl 0 rfl) ?_
      refine lv_bipush (v := 10) hx hb dX5_riseOf_5 (by decide) ?_
      refine lv_icmp_ge (tgt := 66) hx hb dX5_riseOf_7 (by decide) (fun q => ?_) (fun q => ?_)
      · exact absurd q (nI_ge (show x < 10 by omega) (by decide))
      · refine lv_iconst (v := 0) hx hb dX5_riseOf_10 (by decide) ?_
        refine lv_istore_n (lv' := [(3, .int 0), (2, .int (nI x)), (1, .int (nI (rsO pp qq x))), (0, .ref qm)]) hx hb dX5_riseOf_11 rfl hl (by decide) rfl (fun ls hl => ?_)
        have loop2 : ∀ (k2 : Nat) (z : Nat), z + k2 = 10 → ∀ ls : Array Slot, lv_has ls 4 [(3, .int (nI z)), (1, .int (nI (rsO pp qq x + rsI pp qq x z))), (2, .int (nI x)), (0, .ref qm)] → W p l e ({ frames := 0, cells := 0, slots := 0, locals := 0 } : Room) s m ([.ref qm] : List Value).toArray below meth c s.heap [] 0 0 (MQ below (vp_Si (fun r => r = nI (rsO pp qq 10))) ([.ref qm] : List Value).toArray s 0 0 (fun _ => False)) (F0 m 12 ls []) := by
          intro k2
          induction k2 with
          | zero =>
            intro z hz9 ls hl
            refine lv_iload_n hx hb dX5_riseOf_12 rfl (lv_at hl 0 rfl) ?_
            refine lv_bipush (v := 10) hx hb dX5_riseOf_13 (by decide) ?_
            refine lv_icmp_ge (tgt := 60) hx hb dX5_riseOf_15 (by decide) (fun q2 => ?_) (fun q2 => ?_)
            · refine lv_iinc (v := nI (x + 1)) (lv' := [(2, .int (nI (x + 1))), (3, .int (nI z)), (1, .int (nI (rsO pp qq x + rsI pp qq x z))), (0, .ref qm)]) hx hb dX5_riseOf_60 hl (k := 2) rfl (nI_1 x) (by decide) rfl (fun ls hl => ?_)
              refine lv_goto (tgt := 4) hx hb dX5_riseOf_63 (by decide) ?_
              exact ih (x + 1) (by omega) ls (by rw [show z = 10 by omega] at hl; exact (lv_sub hl [0, 2, 3] rfl))
            · exact absurd (nI_le (show 10 ≤ z by omega) (by omega)) q2
          | succ k2 ih2 =>
            intro z hz9 ls hl
            refine lv_iload_n hx hb dX5_riseOf_12 rfl (lv_at hl 0 rfl) ?_
            refine lv_bipush (v := 10) hx hb dX5_riseOf_13 (by decide) ?_
            refine lv_icmp_ge (tgt := 60) hx hb dX5_riseOf_15 (by decide) (fun q2 => ?_) (fun q2 => ?_)
            · exact absurd q2 (nI_ge (show z < 10 by omega) (by decide))
            · obtain ⟨ef, -⟩ := hfA x (by omega)
              obtain ⟨eg, -⟩ := hgA z (by omega)
              refine lv_iload_n hx hb dX5_riseOf_18 rfl (lv_at hl 1 rfl) ?_
              refine lv_aload_n hx hb dX5_riseOf_19 rfl (lv_at hl 3 rfl) ?_
              refine va_get (D := dd) (ci := 5) (C := RX5) (T := TX5) (N := 30) (v := .ref (a 13)) hx hb hts hiX5 hown hK hP 0 rfl rfl 13 (by decide) (hts (.fieldLink RX5 42 "SliceDriftModel" "first" "[I") (by decide +kernel)) (fun _ h9 => h9) rfl dX5_riseOf_20 ?_
              refine lv_iload_n hx hb dX5_riseOf_23 rfl (lv_at hl 2 rfl) ?_
              refine va_iald hx hb hK hP 1 0 rfl rfl (i := nI x) (vp_in_nI (show x < 11 from (by omega)) (by decide)) dX5_riseOf_24 ?_
              rw [nI_clamp (show x < 2 ^ 31 from Nat.lt_trans (show x < 11 from (by omega)) (by decide))]
              refine tpi (show (fA x : Int32) = nI (pp x) from ef) ?_
              refine lv_aload_n hx hb dX5_riseOf_25 rfl (lv_at hl 3 rfl) ?_
              refine va_get (D := dd) (ci := 5) (C := RX5) (T := TX5) (N := 30) (v := .ref (a 14)) hx hb hts hiX5 hown hK hP 0 rfl rfl 14 (by decide) (hts (.fieldLink RX5 45 "SliceDriftModel" "second" "[I") (by decide +kernel)) (fun _ h9 => h9) rfl dX5_riseOf_26 ?_
              refine lv_iload_n hx hb dX5_riseOf_29 rfl (lv_at hl 0 rfl) ?_
              refine va_iald hx hb hK hP 2 0 rfl rfl (i := nI z) (vp_in_nI (show z < 11 from (by omega)) (by decide)) dX5_riseOf_30 ?_
              rw [nI_clamp (show z < 2 ^ 31 from Nat.lt_trans (show z < 11 from (by omega)) (by decide))]
              refine tpi (show (gA z : Int32) = nI (qq z) from eg) ?_
              refine lv_imul hx hb dX5_riseOf_31 ?_
              refine tpi (show ((nI (pp x)) * (nI (qq z)) : Int32) = nI (pp x * qq z) from pk_mul _ _) ?_
              refine lv_iload_n hx hb dX5_riseOf_32 rfl (lv_at hl 0 rfl) ?_
              refine lv_iload_n hx hb dX5_riseOf_33 rfl (lv_at hl 2 rfl) ?_
              refine lv_icmp_le (tgt := 41) hx hb dX5_riseOf_34 (by decide) (fun q3 => ?_) (fun q3 => ?_)
              · have hle : z ≤ x := (nI_leI (by omega) (by omega)).mp q3
                refine lv_iload_n hx hb dX5_riseOf_41 rfl (lv_at hl 0 rfl) ?_
                refine lv_iload_n hx hb dX5_riseOf_42 rfl (lv_at hl 2 rfl) ?_
                refine lv_icmp_ne (tgt := 50) hx hb dX5_riseOf_43 (by decide) (fun q4 => ?_) (fun q4 => ?_)
                · refine lv_iconst (v := 0) hx hb dX5_riseOf_50 (by decide) ?_
                  refine tpi (show (0 : Int32) = nI (wgt x z) from by rw [wgt, if_neg (by omega), if_neg (fun h => q4 (by rw [h]))]; rfl) ?_
                  refine lv_imul hx hb dX5_riseOf_51 ?_
                  refine tpi (show ((nI (pp x * qq z)) * (nI (wgt x z)) : Int32) = nI (pp x * qq z * wgt x z) from pk_mul _ _) ?_
                  refine lv_iadd hx hb dX5_riseOf_52 ?_
                  refine tpi (show ((nI (rsO pp qq x + rsI pp qq x z)) + (nI (pp x * qq z * wgt x z)) : Int32) = nI (rsO pp qq x + rsI pp qq x (z + 1)) from by rw [nI_add, Nat.add_assoc]; rfl) ?_
                  refine lv_istore_n (lv' := [(1, .int (nI (rsO pp qq x + rsI pp qq x (z + 1)))), (3, .int (nI z)), (2, .int (nI x)), (0, .ref qm)]) hx hb dX5_riseOf_53 rfl hl (by decide) rfl (fun ls hl => ?_)
                  refine lv_iinc (v := nI (z + 1)) (lv' := [(3, .int (nI (z + 1))), (1, .int (nI (rsO pp qq x + rsI pp qq x (z + 1)))), (2, .int (nI x)), (0, .ref qm)]) hx hb dX5_riseOf_54 hl (k := 1) rfl (nI_1 z) (by decide) rfl (fun ls hl => ?_)
                  refine lv_goto (tgt := 12) hx hb dX5_riseOf_57 (by decide) ?_
                  exact ih2 (z + 1) (by omega) ls (lv_sub hl [0, 1, 2, 3] rfl)
                · refine lv_iconst (v := 1) hx hb dX5_riseOf_46 (by decide) ?_
                  refine lv_goto (tgt := 51) hx hb dX5_riseOf_47 (by decide) ?_
                  refine tpi (show (1 : Int32) = nI (wgt x z) from by rw [wgt, if_neg (by omega), if_pos ((nI_eq (by omega) (by omega)).mp q4).symm]; rfl) ?_
                  refine lv_imul hx hb dX5_riseOf_51 ?_
                  refine tpi (show ((nI (pp x * qq z)) * (nI (wgt x z)) : Int32) = nI (pp x * qq z * wgt x z) from pk_mul _ _) ?_
                  refine lv_iadd hx hb dX5_riseOf_52 ?_
                  refine tpi (show ((nI (rsO pp qq x + rsI pp qq x z)) + (nI (pp x * qq z * wgt x z)) : Int32) = nI (rsO pp qq x + rsI pp qq x (z + 1)) from by rw [nI_add, Nat.add_assoc]; rfl) ?_
                  refine lv_istore_n (lv' := [(1, .int (nI (rsO pp qq x + rsI pp qq x (z + 1)))), (3, .int (nI z)), (2, .int (nI x)), (0, .ref qm)]) hx hb dX5_riseOf_53 rfl hl (by decide) rfl (fun ls hl => ?_)
                  refine lv_iinc (v := nI (z + 1)) (lv' := [(3, .int (nI (z + 1))), (1, .int (nI (rsO pp qq x + rsI pp qq x (z + 1)))), (2, .int (nI x)), (0, .ref qm)]) hx hb dX5_riseOf_54 hl (k := 1) rfl (nI_1 z) (by decide) rfl (fun ls hl => ?_)
                  refine lv_goto (tgt := 12) hx hb dX5_riseOf_57 (by decide) ?_
                  exact ih2 (z + 1) (by omega) ls (lv_sub hl [0, 1, 2, 3] rfl)
              · have hgt : x < z := Nat.lt_of_not_le (fun h => q3 (nI_le h (by omega)))
                refine lv_iconst (v := 2) hx hb dX5_riseOf_37 (by decide) ?_
                refine lv_goto (tgt := 51) hx hb dX5_riseOf_38 (by decide) ?_
                refine tpi (show (2 : Int32) = nI (wgt x z) from by rw [wgt, if_pos hgt]; rfl) ?_
                refine lv_imul hx hb dX5_riseOf_51 ?_
                refine tpi (show ((nI (pp x * qq z)) * (nI (wgt x z)) : Int32) = nI (pp x * qq z * wgt x z) from pk_mul _ _) ?_
                refine lv_iadd hx hb dX5_riseOf_52 ?_
                refine tpi (show ((nI (rsO pp qq x + rsI pp qq x z)) + (nI (pp x * qq z * wgt x z)) : Int32) = nI (rsO pp qq x + rsI pp qq x (z + 1)) from by rw [nI_add, Nat.add_assoc]; rfl) ?_
                refine lv_istore_n (lv' := [(1, .int (nI (rsO pp qq x + rsI pp qq x (z + 1)))), (3, .int (nI z)), (2, .int (nI x)), (0, .ref qm)]) hx hb dX5_riseOf_53 rfl hl (by decide) rfl (fun ls hl => ?_)
                refine lv_iinc (v := nI (z + 1)) (lv' := [(3, .int (nI (z + 1))), (1, .int (nI (rsO pp qq x + rsI pp qq x (z + 1)))), (2, .int (nI x)), (0, .ref qm)]) hx hb dX5_riseOf_54 hl (k := 1) rfl (nI_1 z) (by decide) rfl (fun ls hl => ?_)
                refine lv_goto (tgt := 12) hx hb dX5_riseOf_57 (by decide) ?_
                exact ih2 (z + 1) (by omega) ls (lv_sub hl [0, 1, 2, 3] rfl)
        exact loop2 10 0 rfl ls (lv_sub hl [0, 2, 1, 3] rfl)
  exact loop 10 0 rfl ls (lv_sub hl [0, 1, 2] rfl)

set_option maxHeartbeats 4000000 in
set_option maxRecDepth 100000 in
theorem r_thrown (l : Launch) (dd : va_G) (cyI cyJ cyZ : ClassId) (qm : Nat) (a : Nat → Nat) (th ro li fm sm : Int32) (ab be : Int64) (st al : Int32) : Met l yX5_thrown wsX5_thrown ({ frames := 0, cells := 0, slots := 0, locals := 0 } : Room) (va_Pc [.ref qm] (Rd dd [(cyI, .int), (cyJ, .long), (cyZ, .boolean)] [(qm, .inr (5, mo a th ro li fm sm ab be st al))])) (vp_Si (fun r => r = th)) 0 0 (fun _ => False) := by
  refine mkR (cc := cX5_thrown) (maxL := 1) (by decide) rfl (Nat.le_of_ble_eq_true rfl) (lv0 := [(0, .ref qm)]) rfl ?_
  intro p e s m below meth c ls hx hb hr hml hown hlocks hts hN hP hK hl
  have hown : s.vm.findClass RX5 = some m.cls := hown
  have hiX5 : ∀ w ∈ wsX50, w ∈ wsX5_thrown := by decide +kernel
  refine lv_aload_n hx hb dX5_thrown_0 rfl (lv_at hl 0 rfl) ?_
  refine va_get (D := dd) (ci := 5) (C := RX5) (T := TX5) (N := 30) (v := .int th) hx hb hts hiX5 hown hK hP 0 rfl rfl 0 (by decide) (hts (.fieldLink RX5 75 "SliceDriftModel" "thrown" "I") (by decide +kernel)) (fun _ h9 => h9) rfl dX5_thrown_1 ?_
  exact edI hx hb hr hlocks dX5_thrown_4 rfl
end
