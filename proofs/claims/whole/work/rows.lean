section
-- ===== PART A: goes FIRST, ahead of the names: the tables' words, and 'selects' of the private methods out of them =====
/-- a private method of a class that the tables say can be made, by its rows of tables_1 -/
def lw_okq (q : MethodName × Nat) : Prop := (q.1.cls ≠ "java/lang/invoke/MethodHandle" ∧ q.1.cls ≠ "java/lang/invoke/VarHandle") ∧ Cond.instantiable q.1.cls q.2 ∈ tables_1 ∧ Cond.privateMethod q.1 ∈ tables_1 ∧ Cond.instanceMethod q.1 ∈ tables_1
theorem lw_p0 : lw_okq (⟨"java/lang/Throwable", "fillInStackTrace", "(I)Ljava/lang/Throwable;"⟩, 6) := ⟨⟨by decide +kernel, by decide +kernel⟩, List.mem_of_getElem? (i := 207) (by decide +kernel), List.mem_of_getElem? (i := 205) (by decide +kernel), List.mem_of_getElem? (i := 206) (by decide +kernel)⟩
theorem lw_p1 : lw_okq (⟨"HoseTests", "reasonBarred", "(I)I"⟩, 6) := ⟨⟨by decide +kernel, by decide +kernel⟩, List.mem_of_getElem? (i := 16) (by decide +kernel), List.mem_of_getElem? (i := 350) (by decide +kernel), List.mem_of_getElem? (i := 351) (by decide +kernel)⟩
theorem lw_p2 : lw_okq (⟨"HoseTests", "oldFrom", "(I)I"⟩, 6) := ⟨⟨by decide +kernel, by decide +kernel⟩, List.mem_of_getElem? (i := 16) (by decide +kernel), List.mem_of_getElem? (i := 358) (by decide +kernel), List.mem_of_getElem? (i := 359) (by decide +kernel)⟩
theorem lw_p3 : lw_okq (⟨"HoseTests", "someTestDueFrom", "(I)I"⟩, 6) := ⟨⟨by decide +kernel, by decide +kernel⟩, List.mem_of_getElem? (i := 16) (by decide +kernel), List.mem_of_getElem? (i := 363) (by decide +kernel), List.mem_of_getElem? (i := 364) (by decide +kernel)⟩
theorem lw_p4 : lw_okq (⟨"HoseTests", "dueFrom", "(II)I"⟩, 6) := ⟨⟨by decide +kernel, by decide +kernel⟩, List.mem_of_getElem? (i := 16) (by decide +kernel), List.mem_of_getElem? (i := 367) (by decide +kernel), List.mem_of_getElem? (i := 368) (by decide +kernel)⟩
theorem lw_p5 : lw_okq (⟨"HoseTests$Things", "isLeftOf", "(II)Z"⟩, 12) := ⟨⟨by decide +kernel, by decide +kernel⟩, List.mem_of_getElem? (i := 52) (by decide +kernel), List.mem_of_getElem? (i := 425) (by decide +kernel), List.mem_of_getElem? (i := 426) (by decide +kernel)⟩
theorem lw_p6 : lw_okq (⟨"HoseTests", "endOf", "(I)I"⟩, 6) := ⟨⟨by decide +kernel, by decide +kernel⟩, List.mem_of_getElem? (i := 16) (by decide +kernel), List.mem_of_getElem? (i := 455) (by decide +kernel), List.mem_of_getElem? (i := 456) (by decide +kernel)⟩
theorem lw_p7 : lw_okq (⟨"HoseTests", "fillEndRow", "(II)V"⟩, 6) := ⟨⟨by decide +kernel, by decide +kernel⟩, List.mem_of_getElem? (i := 16) (by decide +kernel), List.mem_of_getElem? (i := 467) (by decide +kernel), List.mem_of_getElem? (i := 468) (by decide +kernel)⟩
theorem lw_p8 : lw_okq (⟨"HoseTests", "countEndingBefore", "(I)I"⟩, 6) := ⟨⟨by decide +kernel, by decide +kernel⟩, List.mem_of_getElem? (i := 16) (by decide +kernel), List.mem_of_getElem? (i := 471) (by decide +kernel), List.mem_of_getElem? (i := 472) (by decide +kernel)⟩
theorem lw_p9 : lw_okq (⟨"HoseTests$Plan", "putFrom", "(II)V"⟩, 7) := ⟨⟨by decide +kernel, by decide +kernel⟩, List.mem_of_getElem? (i := 106) (by decide +kernel), List.mem_of_getElem? (i := 531) (by decide +kernel), List.mem_of_getElem? (i := 532) (by decide +kernel)⟩
theorem lw_p10 : lw_okq (⟨"HoseTests$Plan", "keepTried", "(I)V"⟩, 7) := ⟨⟨by decide +kernel, by decide +kernel⟩, List.mem_of_getElem? (i := 106) (by decide +kernel), List.mem_of_getElem? (i := 535) (by decide +kernel), List.mem_of_getElem? (i := 536) (by decide +kernel)⟩
theorem lw_p11 : lw_okq (⟨"HoseTestsModel", "throwing", "(ZZZZ)Z"⟩, 23) := ⟨⟨by decide +kernel, by decide +kernel⟩, List.mem_of_getElem? (i := 547) (by decide +kernel), List.mem_of_getElem? (i := 632) (by decide +kernel), List.mem_of_getElem? (i := 633) (by decide +kernel)⟩
theorem lw_p12 : lw_okq (⟨"HoseTestsModel", "isThing", "(I)Z"⟩, 23) := ⟨⟨by decide +kernel, by decide +kernel⟩, List.mem_of_getElem? (i := 547) (by decide +kernel), List.mem_of_getElem? (i := 673) (by decide +kernel), List.mem_of_getElem? (i := 674) (by decide +kernel)⟩
theorem lw_p13 : lw_okq (⟨"HoseTestsModel", "reason", "(I)I"⟩, 23) := ⟨⟨by decide +kernel, by decide +kernel⟩, List.mem_of_getElem? (i := 547) (by decide +kernel), List.mem_of_getElem? (i := 677) (by decide +kernel), List.mem_of_getElem? (i := 678) (by decide +kernel)⟩
theorem lw_p14 : lw_okq (⟨"HoseTestsModel", "isDue", "(II)Z"⟩, 23) := ⟨⟨by decide +kernel, by decide +kernel⟩, List.mem_of_getElem? (i := 547) (by decide +kernel), List.mem_of_getElem? (i := 681) (by decide +kernel), List.mem_of_getElem? (i := 682) (by decide +kernel)⟩
theorem lw_p15 : lw_okq (⟨"HoseTestsModel", "stateOf", "(I)I"⟩, 23) := ⟨⟨by decide +kernel, by decide +kernel⟩, List.mem_of_getElem? (i := 547) (by decide +kernel), List.mem_of_getElem? (i := 685) (by decide +kernel), List.mem_of_getElem? (i := 686) (by decide +kernel)⟩
def lw_privs_1 : List (MethodName × Nat) := [(⟨"java/lang/Throwable", "fillInStackTrace", "(I)Ljava/lang/Throwable;"⟩, 6), (⟨"HoseTests", "reasonBarred", "(I)I"⟩, 6), (⟨"HoseTests", "oldFrom", "(I)I"⟩, 6), (⟨"HoseTests", "someTestDueFrom", "(I)I"⟩, 6), (⟨"HoseTests", "dueFrom", "(II)I"⟩, 6), (⟨"HoseTests$Things", "isLeftOf", "(II)Z"⟩, 12), (⟨"HoseTests", "endOf", "(I)I"⟩, 6), (⟨"HoseTests", "fillEndRow", "(II)V"⟩, 6), (⟨"HoseTests", "countEndingBefore", "(I)I"⟩, 6), (⟨"HoseTests$Plan", "putFrom", "(II)V"⟩, 7), (⟨"HoseTests$Plan", "keepTried", "(I)V"⟩, 7), (⟨"HoseTestsModel", "throwing", "(ZZZZ)Z"⟩, 23), (⟨"HoseTestsModel", "isThing", "(I)Z"⟩, 23), (⟨"HoseTestsModel", "reason", "(I)I"⟩, 23), (⟨"HoseTestsModel", "isDue", "(II)Z"⟩, 23), (⟨"HoseTestsModel", "stateOf", "(I)I"⟩, 23)]
theorem lw_r1 : ∀ q ∈ lw_privs_1, lw_okq q := List.forall_mem_cons.mpr ⟨lw_p0, List.forall_mem_cons.mpr ⟨lw_p1, List.forall_mem_cons.mpr ⟨lw_p2, List.forall_mem_cons.mpr ⟨lw_p3, List.forall_mem_cons.mpr ⟨lw_p4, List.forall_mem_cons.mpr ⟨lw_p5, List.forall_mem_cons.mpr ⟨lw_p6, List.forall_mem_cons.mpr ⟨lw_p7, List.forall_mem_cons.mpr ⟨lw_p8, List.forall_mem_cons.mpr ⟨lw_p9, List.forall_mem_cons.mpr ⟨lw_p10, List.forall_mem_cons.mpr ⟨lw_p11, List.forall_mem_cons.mpr ⟨lw_p12, List.forall_mem_cons.mpr ⟨lw_p13, List.forall_mem_cons.mpr ⟨lw_p14, List.forall_mem_cons.mpr ⟨lw_p15, fun _ h => absurd h List.not_mem_nil⟩⟩⟩⟩⟩⟩⟩⟩⟩⟩⟩⟩⟩⟩⟩⟩
theorem lw_p16 : lw_okq (⟨"HoseTestsModel", "leftOf", "(I)I"⟩, 23) := ⟨⟨by decide +kernel, by decide +kernel⟩, List.mem_of_getElem? (i := 547) (by decide +kernel), List.mem_of_getElem? (i := 705) (by decide +kernel), List.mem_of_getElem? (i := 706) (by decide +kernel)⟩
theorem lw_p17 : lw_okq (⟨"HoseTestsModel", "endOf", "(I)I"⟩, 23) := ⟨⟨by decide +kernel, by decide +kernel⟩, List.mem_of_getElem? (i := 547) (by decide +kernel), List.mem_of_getElem? (i := 721) (by decide +kernel), List.mem_of_getElem? (i := 722) (by decide +kernel)⟩
theorem lw_p18 : lw_okq (⟨"HoseTestsModel", "greatest", "(IJIII)I"⟩, 23) := ⟨⟨by decide +kernel, by decide +kernel⟩, List.mem_of_getElem? (i := 547) (by decide +kernel), List.mem_of_getElem? (i := 742) (by decide +kernel), List.mem_of_getElem? (i := 743) (by decide +kernel)⟩
def lw_privs_2 : List (MethodName × Nat) := [(⟨"HoseTestsModel", "leftOf", "(I)I"⟩, 23), (⟨"HoseTestsModel", "endOf", "(I)I"⟩, 23), (⟨"HoseTestsModel", "greatest", "(IJIII)I"⟩, 23)]
theorem lw_r2 : ∀ q ∈ lw_privs_2, lw_okq q := List.forall_mem_cons.mpr ⟨lw_p16, List.forall_mem_cons.mpr ⟨lw_p17, List.forall_mem_cons.mpr ⟨lw_p18, fun _ h => absurd h List.not_mem_nil⟩⟩⟩
def lw_privs : List (MethodName × Nat) := lw_privs_1 ++ (lw_privs_2)
def lw_tbl : List Cond := k2_sels lw_privs ++ tables_1
theorem lw_privs_ok : ∀ q ∈ lw_privs, lw_okq q := by
  show ∀ q ∈ lw_privs_1 ++ (lw_privs_2), lw_okq q
  exact List.forall_mem_append.mpr ⟨lw_r1, lw_r2⟩
end
section
/-! ===== BEGIN words of one list among another's, by their places ===== -/
theorem goodIn_r {big : List Cond} (ws : List Cond) (ps : List Nat) (hp : ws = ps.filterMap (fun i => big[i]?)) (h : ws.all goodWord = true) : GoodIn big ws := by
  intro w hw
  have h1 := List.all_eq_true.mp h w hw
  rw [hp] at hw
  obtain ⟨i, -, hi⟩ := List.mem_filterMap.mp hw
  have hm : w ∈ big := by first | exact List.mem_of_getElem? hi | exact List.getElem?_mem hi
  exact ⟨hm, good_of_word h1⟩
theorem goodIn_app {big a b : List Cond} (ha : GoodIn big a) (hb : GoodIn big b) : GoodIn big (a ++ b) := fun w h => (List.mem_append.mp h).elim (ha w) (hb w)
theorem goodIn_ca {big a b : List Cond} {c : Cond} (ha : GoodIn big (c :: a)) (hb : GoodIn big b) : GoodIn big (c :: (a ++ b)) := fun w h => (List.mem_cons.mp h).elim (fun e => ha w (List.mem_cons.mpr (Or.inl e))) (fun h => (List.mem_append.mp h).elim (fun h => ha w (List.mem_cons.mpr (Or.inr h))) (hb w))
theorem goodIn_sub {big ws : List Cond} (hm : ∀ w ∈ ws, w ∈ big) (h : ws.all goodWord = true) : GoodIn big ws := fun w hw => ⟨hm w hw, good_of_word (List.all_eq_true.mp h w hw)⟩
/-! ===== END ===== -/

/-! ===== BEGIN exceptions that leave a method, and their catching by the caller (launches without stack traces) ===== -/
section VXA
/-! The laws vx_back, vx_callV, vx_callS, vx_callSW, vx_throw0, vx_throwS follow proofs of the library, with one case more: JvmDerived/Free/Laws.lean (Back.of_free), Shelf42/LK1.lean (callV, callS), Shelf/KitTraced.lean (throwNew0V, throwNewS). -/
/-- where a method has thrown q: the class by its name, the cell, what was written, the world -/
def vx_T (XC : String → State → State → Prop) (st : State) (q : Addr) (t : State) (mc ms : Nat) (free : Addr → Prop) : Prop :=
  ∃ (E : String) (ce : Cell) (L : List Loc), XC E st t ∧ t.heap[q]? = some ce ∧ ce.vm = .none ∧ st.vm.findClass E = some ce.cls ∧ st.WarmedH t.vm ∧ st.sameButNew ({ t with vm := st.vm } : State) L mc ms ∧ ∀ z ∈ L, free z.base
def vx_Q (Qc : Array Value → State → Outcome → State → Prop) (XC : String → State → State → Prop) (mc ms : Nat) (free : Addr → Prop) : Array Value → State → Outcome → State → Prop := fun a st o t =>
  (Qc a st o t ∧ ∃ L, FrameEnd st o t L mc ms ∧ ∀ q ∈ L, free q.base) ∨ ∃ q, o = .threw q ∧ vx_T XC st q t mc ms free
/-- a callee that returns or throws -/
def vx_Met (l : Launch) (y : MethodName) (ws : List Cond) (rm : Room) (Pc : Array Value → State → Prop) (Qc : Array Value → State → Outcome → State → Prop) (XC : String → State → State → Prop) (mc ms : Nat) (free : Addr → Prop) : Prop :=
  MetFree l y (headSpec ws rm) Pc (fun _ _ _ _ _ => True) (vx_Q Qc XC mc ms free)
def vx_Post (XC : String → State → State → Prop) (mc ms : Nat) (free : Addr → Prop) : Pt → Array Value → Addr → Pt → Prop := fun A a q B =>
  ∃ (g : JFrame) (mk : MethodId) (t : State) (L : List Loc) (E : String) (ce : Cell), B.U.heap = t.heap ∧ B.U.vm = t.vm ∧ XC E (A.U.calling g mk a) t ∧ t.heap[q]? = some ce ∧ ce.vm = .none ∧ A.U.vm.findClass E = some ce.cls ∧ B.locs = A.locs ++ L ∧ (∀ z ∈ L, free z.base) ∧ B.cells = A.cells + mc ∧ B.slots = A.slots + ms
def vx_Back (l : Launch) (R : Room) (p : Program) (e : Env) (below : List Frame) (s : State) (sargs : Array Value) (y : MethodName) (len W9 : Nat)
    (Pre : Pt → Array Value → Prop) (Post : Pt → Array Value → Option Value → Pt → Prop) (PostX : Pt → Array Value → Addr → Pt → Prop) : Prop :=
  ∀ (m : MethodId) (meth : Method) (c : Code) (A : Pt) (g : JFrame) (ig : Instr) (mk : MethodId) (a : Array Value),
    Stand p l e R s m sargs below meth c A.U A.locs A.cells A.slots → g.method = m → g.locals.size = c.maxLocals → decode c.code g.pc = .ok (ig, len) →
    2 * g.monitorRoom + (g.stack.map fun v => v.category).sum ≤ W9 → A.U.methodNamed? y = some mk → Pre A a →
    (∃ (v : Option Value) (B : Pt), Stand p l e R s m sargs below meth c B.U B.locs B.cells B.slots ∧ Post A a v B ∧
      Steps p.tables e below (doInvoke e (A.U.setTop g) [] mk a).1 (B.U.setTop { g with pc := g.pc + len, stack := v.toList ++ g.stack })) ∨
    (∃ (q : Addr) (B : Pt), Stand p l e R s m sargs below meth c B.U B.locs B.cells B.slots ∧ PostX A a q B ∧
      Steps p.tables e below (doInvoke e (A.U.setTop g) [] mk a).1 ((B.U.setTop g).pushFrame (.throwing q)))
section Payer
variable {l : Launch} {R : Room} {p : Program} {e : Env} {below : List Frame} {s : State} {sargs : Array Value} {y : MethodName} {len W9 : Nat}
theorem vx_back {ws : List Cond} {rm : Room} {Pc : Array Value → State → Prop} {Qc : Array Value → State → Outcome → State → Prop} {XC : String → State → State → Prop} {mc ms : Nat} {free : Addr → Prop} {bytes : ByteArray} {maxL : Nat} {ret : Option FieldType}
    (hM : vx_Met l y ws rm Pc Qc XC mc ms free) (hblind : FrameBlind Pc) (hrc : rm.cells = mc) (hrs : rm.slots = ms)
    (hframes : rm.frames + 1 ≤ R.frames) (hlocals : W9 + (maxL + 11) + rm.locals ≤ R.locals)
    (hws : ∀ w ∈ ws, ∀ a' U, s.WarmedH U.vm → w.before a' U = true) (hcode : Cond.code y bytes maxL ret ∈ ws) (hinit : ∀ a' U, s.WarmedH U.vm → (Cond.initialized y.cls).before a' U = true) :
    vx_Back l R p e below s sargs y len W9 (PreOf R mc ms Pc) (PostOf Qc mc ms free) (vx_Post XC mc ms free) := by
  intro m meth c A g ig mk a X hg hsize hdg hW hn hp
  have h1 : (headSpec ws rm).pre.before a A.U = true := atoms_intro fun w hw => hws w hw _ _ X.warmed
  have h2 : (Cond.code y bytes maxL ret).before a A.U = true := hws _ hcode _ _ X.warmed
  have h3 : (Cond.initialized y.cls).before a A.U = true := hinit _ _ X.warmed
  have h4 : A.cells + (headSpec ws rm).room.cells ≤ R.cells := by rw [show (headSpec ws rm).room.cells = mc from hrc]; exact hp.1
  have h5 : A.slots + (headSpec ws rm).room.slots ≤ R.slots := by rw [show (headSpec ws rm).room.slots = ms from hrs]; exact hp.2.1
  have hPc : Pc a (A.U.calling g mk a) := hblind _ _ _ _ hp.2.2
  obtain ⟨U, Ls, c0, s0⟩ := A
  dsimp only [Pt.U, Pt.locs, Pt.cells, Pt.slots] at h1 h2 h3 h4 h5 X hn hPc ⊢
  obtain ⟨methY, cY, hmY, hcY, -, hlY, -, -, -, -⟩ := Cond.code_spec hn h2
  obtain ⟨kY, hkY, -⟩ := className_of_methodNamed hn
  have hinitY : kY.init = .initialized := Cond.initialized_spec (findClass_of_methodNamed hn) hkY h3
  have h : At U g.method c below := by rw [hg]; exact X.here
  have hlocals9 : W9 + (maxL + 11) + (headSpec ws rm).room.locals ≤ R.locals := hlocals
  have happ : (headSpec ws rm).appliesLoose y e.platform (U.calling g mk a) = true :=
    Spec.appliesLoose_calling (g := g) h hdg hn hkY hinitY
      (X.room_calling (g := g) (R' := (headSpec ws rm).room) hsize hmY hcY hframes (by rw [hlY]; omega) h4 h5) h1
  obtain ⟨mid, hmid⟩ := h.above
  have hfr : (U.setTop g).frames = (.java g :: mid) ++ below := by rw [State.frames_setTop' g h.top, hmid]; rfl
  obtain ⟨o, s₂, hsteps, -, hend, hq⟩ := Steps.callFree hM p X.admits X.cas X.clock (acts := []) hfr happ hPc trivial
  have hq' : vx_Q Qc XC mc ms free a (U.calling g mk a) o s₂ := hq
  rw [State.frames_setTop' g h.top] at hend
  obtain ⟨g₀, hg0⟩ := Option.isSome_iff_exists.mp h.top
  obtain ⟨r, hr⟩ := State.topJava?_eq_some.mp hg0
  have hr' : (({ U with heap := s₂.heap, slotsUsed := s₂.slotsUsed } : State).setVm s₂.vm).frames = .java g₀ :: r := hr
  rcases hq' with ⟨hqc, L, hfe, hL⟩ | ⟨q, rfl, E, ce, L, hx, hce, hcv, hcl, hW₂, hsm, hL⟩
  · obtain ⟨⟨v, rfl⟩, hW₂, e2, q2, q3, q4, q5, q6⟩ := id hfe
    have e3 : s₂ = ({ (U.calling g mk a).setFrames s₂.frames with heap := s₂.heap, slotsUsed := s₂.slotsUsed } : State).setVm s₂.vm := by
      have : s₂ = ({ s₂ with vm := (U.calling g mk a).vm } : State).setVm s₂.vm := rfl
      rw [e2] at this
      exact this
    obtain ⟨c₂, i₂, len₂, hc₂, hd₂, hf₂⟩ := hend
    have hW' : U.WarmedH s₂.vm := hW₂
    have hcc : c₂ = c := by
      have h1 : s₂.code? g.method = U.code? g.method := by
        rw [State.code?_eq, State.code?_eq, hW'.alike.method?]
      exact Option.some.inj (hc₂.symm.trans (h1.trans h.code))
    subst hcc
    have hlen : len₂ = len := by rw [hdg] at hd₂; cases hd₂; rfl
    subst hlen
    have hs₂ : s₂ = (({ U with heap := s₂.heap, slotsUsed := s₂.slotsUsed } : State).setVm s₂.vm).setTop { g with pc := g.pc + len₂, stack := v.toList ++ g.stack } := by
      refine e3.trans ?_
      rw [hf₂, State.calling_eq h.top, State.setFrames_setFrames, State.setTop_of_frames _ hr', hr]
      rfl
    have hsame : U.sameButNew ({ U with heap := s₂.heap, slotsUsed := s₂.slotsUsed } : State) L mc ms := by
      refine ⟨?_, q2, q3, q4, q5, q6⟩
      obtain ⟨t, ht, -⟩ := State.frames_cons hr
      show ({ U with heap := s₂.heap, slotsUsed := s₂.slotsUsed } : State) = { U.setFrames U.frames with heap := s₂.heap, slotsUsed := s₂.slotsUsed }
      rw [State.setFrames_self ht]
    subst hg
    refine Or.inl ⟨v, ⟨(({ U with heap := s₂.heap, slotsUsed := s₂.slotsUsed } : State).setVm s₂.vm), Ls ++ L, c0 + mc, s0 + ms⟩,
      ⟨X.admits, X.cas, X.clock, X.frames, X.room, X.hears, X.method, X.code, (X.here.setHeapUsed s₂.heap s₂.slotsUsed).setVm hW'.alike, X.tail, State.WarmedH.trans X.warmed hW', X.limits, X.bytes, X.same.trans (hsame.setVm s.vm)⟩,
      ⟨g, mk, s₂, L, rfl, rfl, hqc, rfl, hL, rfl, rfl⟩, ?_⟩
    show Steps p.tables e below _ ((({ U with heap := s₂.heap, slotsUsed := s₂.slotsUsed } : State).setVm s₂.vm).setTop { g with pc := g.pc + len₂, stack := v.toList ++ g.stack })
    rw [← hs₂]
    exact hsteps
  · obtain ⟨e2, q2, q3, q4, q5, q6⟩ := id hsm
    have e3 : s₂ = ({ (U.calling g mk a).setFrames s₂.frames with heap := s₂.heap, slotsUsed := s₂.slotsUsed } : State).setVm s₂.vm := by
      have : s₂ = ({ s₂ with vm := (U.calling g mk a).vm } : State).setVm s₂.vm := rfl
      rw [e2] at this
      exact this
    have hf₂ : s₂.frames = .throwing q :: .java g :: U.frames.tail := hend
    have hW' : U.WarmedH s₂.vm := hW₂
    have hs₂ : s₂ = ((({ U with heap := s₂.heap, slotsUsed := s₂.slotsUsed } : State).setVm s₂.vm).setTop g).pushFrame (.throwing q) := by
      refine e3.trans ?_
      rw [hf₂, State.calling_eq h.top, State.setFrames_setFrames, State.pushFrame, State.frames_setTop _ hr', State.setTop_of_frames _ hr', State.setFrames_setFrames, hr]
      rfl
    have hsame : U.sameButNew ({ U with heap := s₂.heap, slotsUsed := s₂.slotsUsed } : State) L mc ms := by
      refine ⟨?_, q2, q3, q4, q5, q6⟩
      obtain ⟨t, ht, -⟩ := State.frames_cons hr
      show ({ U with heap := s₂.heap, slotsUsed := s₂.slotsUsed } : State) = { U.setFrames U.frames with heap := s₂.heap, slotsUsed := s₂.slotsUsed }
      rw [State.setFrames_self ht]
    subst hg
    refine Or.inr ⟨q, ⟨(({ U with heap := s₂.heap, slotsUsed := s₂.slotsUsed } : State).setVm s₂.vm), Ls ++ L, c0 + mc, s0 + ms⟩,
      ⟨X.admits, X.cas, X.clock, X.frames, X.room, X.hears, X.method, X.code, (X.here.setHeapUsed s₂.heap s₂.slotsUsed).setVm hW'.alike, X.tail, State.WarmedH.trans X.warmed hW', X.limits, X.bytes, X.same.trans (hsame.setVm s.vm)⟩,
      ⟨g, mk, s₂, L, E, ce, rfl, rfl, hx, hce, hcv, hcl, rfl, hL, rfl, rfl⟩, ?_⟩
    show Steps p.tables e below _ (((({ U with heap := s₂.heap, slotsUsed := s₂.slotsUsed } : State).setVm s₂.vm).setTop g).pushFrame (.throwing q))
    rw [← hs₂]
    exact hsteps
end Payer
section Calls
variable {p : Program} {l : Launch} {e : Env} {R : Room} {s : State} {m : MethodId} {args : Array Value} {below : List Frame} {meth : Method} {c : Code} {T : State} {locs : List Loc} {cells slots : Nat}
theorem vx_callV (X : Stand p l e R s m args below meth c T locs cells slots) (hexec : p.tables.exec = Jvm.exec) {own C : String} {index : Nat} {y : MethodName} {bytes : ByteArray} {maxL : Nat} {ret : Option FieldType}
    (hown : s.vm.findClass own = some m.cls) (hlink : (Cond.methodLink own index y).before args s = true) (hinst : (Cond.instanceMethod y).before args s = true) (hsel : (Cond.selects C y y).before args s = true)
    (hcode : (Cond.code y bytes maxL ret).before args s = true) (hy : y.cls ≠ "java/lang/invoke/MethodHandle" ∧ y.cls ≠ "java/lang/invoke/VarHandle")
    {W9 : Nat} {Pre : Pt → Array Value → Prop} {Post : Pt → Array Value → Option Value → Pt → Prop} {PostX : Pt → Array Value → Addr → Pt → Prop} (hK : vx_Back l R p e below s args y 3 W9 Pre Post PostX)
    {b : Addr} {cellB : Cell} (hcell : T.heap[b]? = some cellB) (hobj : cellB.vm.isStatics = false) (hcls : s.vm.findClass C = some cellB.cls)
    {g : JFrame} (hg : g.method = m) (hsize : g.locals.size = c.maxLocals) {argsL rest : List Value} (hlen : ∀ sig, parseMethodDescriptor y.desc = some sig → argsL.length = sig.parameters.length)
    (hstack : g.stack = argsL.reverse ++ .ref b :: rest) (hW : 2 * g.monitorRoom + (rest.map fun v => v.category).sum ≤ W9) (hdg : decode c.code g.pc = .ok (.invokevirtual index, 3))
    (hpre : ∀ vm₁, s.WarmedH vm₁ → Pre ⟨T.setVm vm₁, locs, cells, slots⟩ (Value.ref b :: argsL).toArray) :
    (∃ (v : Option Value) (vm₁ : Vm) (B : Pt), s.WarmedH vm₁ ∧ Stand p l e R s m args below meth c B.U B.locs B.cells B.slots ∧ Post ⟨T.setVm vm₁, locs, cells, slots⟩ (Value.ref b :: argsL).toArray v B ∧
      ∀ target, Steps p.tables e below (B.U.setTop { g with pc := g.pc + 3, stack := v.toList ++ rest }) target → Steps p.tables e below (T.setTop g) target) ∨
    (∃ (q : Addr) (vm₁ : Vm) (B : Pt), s.WarmedH vm₁ ∧ Stand p l e R s m args below meth c B.U B.locs B.cells B.slots ∧ PostX ⟨T.setVm vm₁, locs, cells, slots⟩ (Value.ref b :: argsL).toArray q B ∧
      Steps p.tables e below (T.setTop g) ((B.U.setTop { g with stack := rest }).pushFrame (.throwing q))) := by
  obtain ⟨mk, methM, hnamed, hmethM, hstM, habM⟩ := Cond.instanceMethod_spec hinst
  obtain ⟨methM', cM, hmethM', -, -, -, -, -, -, hsigM⟩ := Cond.code_spec hnamed hcode
  cases hmethM.symm.trans hmethM'
  obtain ⟨c2, r2, m2, q1, q2, q3, q4, kP, hkP, hkPi⟩ := Cond.selects_spec hsel
  cases hcls.symm.trans q1
  cases (State.methodFound?_of_named hnamed hy).symm.trans q2
  cases hnamed.symm.trans q3
  have hselP : selectMethod e.platform s.vm cellB.cls mk = .method mk := by rw [Launch.admits_selectMethod X.admits]; exact q4
  obtain ⟨vm₁, X₁, hstep₁⟩ := X.invokevirtual hexec hown hlink hnamed hmethM hstM hkP hkPi hy (a := b) (cell := cellB) hcell
    (fun z h => by rw [h] at hobj; cases hobj) hselP hmethM habM hkP hkPi (g := g) hg (argsL := argsL) (rest := rest) (hlen _ hsigM) hstack hdg
  rcases hK m meth c ⟨T.setVm vm₁, locs, cells, slots⟩ { g with stack := rest } (.invokevirtual index) mk (Value.ref b :: argsL).toArray X₁ hg hsize hdg hW (X₁.named hnamed) (hpre vm₁ X₁.warmed) with ⟨v, B, X', hpost, hsteps⟩ | ⟨q, B, X', hpost, hsteps⟩
  · exact Or.inl ⟨v, vm₁, B, X₁.warmed, X', hpost, fun target h => hstep₁ _ fun acts => by rw [doInvoke_state]; exact hsteps.trans h⟩
  · exact Or.inr ⟨q, vm₁, B, X₁.warmed, X', hpost, hstep₁ _ fun acts => by rw [doInvoke_state]; exact hsteps⟩
theorem vx_callS (X : Stand p l e R s m args below meth c T locs cells slots) (hexec : p.tables.exec = Jvm.exec) {own : String} {index : Nat} {y : MethodName} {bytes : ByteArray} {maxL : Nat} {ret : Option FieldType}
    (hown : s.vm.findClass own = some m.cls) (hlink : (Cond.methodLink own index y).before args s = true) (hstat : (Cond.static y).before args s = true) (hinit : (Cond.initialized y.cls).before args s = true)
    (hcode : (Cond.code y bytes maxL ret).before args s = true) (hy : y.cls ≠ "java/lang/invoke/MethodHandle" ∧ y.cls ≠ "java/lang/invoke/VarHandle")
    {W9 : Nat} {Pre : Pt → Array Value → Prop} {Post : Pt → Array Value → Option Value → Pt → Prop} {PostX : Pt → Array Value → Addr → Pt → Prop} (hK : vx_Back l R p e below s args y 3 W9 Pre Post PostX)
    {g : JFrame} (hg : g.method = m) (hsize : g.locals.size = c.maxLocals) {argsL rest : List Value} (hlen : ∀ sig, parseMethodDescriptor y.desc = some sig → argsL.length = sig.parameters.length)
    (hstack : g.stack = argsL.reverse ++ rest) (hW : 2 * g.monitorRoom + (rest.map fun v => v.category).sum ≤ W9) (hdg : decode c.code g.pc = .ok (.invokestatic index, 3))
    (hpre : ∀ vm₁, s.WarmedH vm₁ → Pre ⟨T.setVm vm₁, locs, cells, slots⟩ argsL.toArray) :
    (∃ (v : Option Value) (vm₁ : Vm) (B : Pt), s.WarmedH vm₁ ∧ Stand p l e R s m args below meth c B.U B.locs B.cells B.slots ∧ Post ⟨T.setVm vm₁, locs, cells, slots⟩ argsL.toArray v B ∧
      ∀ target, Steps p.tables e below (B.U.setTop { g with pc := g.pc + 3, stack := v.toList ++ rest }) target → Steps p.tables e below (T.setTop g) target) ∨
    (∃ (q : Addr) (vm₁ : Vm) (B : Pt), s.WarmedH vm₁ ∧ Stand p l e R s m args below meth c B.U B.locs B.cells B.slots ∧ PostX ⟨T.setVm vm₁, locs, cells, slots⟩ argsL.toArray q B ∧
      Steps p.tables e below (T.setTop g) ((B.U.setTop { g with stack := rest }).pushFrame (.throwing q))) := by
  obtain ⟨mk, hnamed⟩ := Cond.code_named hcode
  obtain ⟨methM, cM, hmethM, -, -, -, -, -, -, hsigM⟩ := Cond.code_spec hnamed hcode
  have hstatic : methM.isStatic = true := Cond.static_spec hnamed hmethM hstat
  obtain ⟨kP, hkP, -⟩ := className_of_methodNamed hnamed
  have hinitP : kP.init = .initialized := Cond.initialized_spec (findClass_of_methodNamed hnamed) hkP hinit
  obtain ⟨vm₁, X₁, hstep₁⟩ := X.invokestatic hexec hown hlink hnamed hmethM hstatic hkP hinitP hy (g := g) hg (argsL := argsL) (rest := rest) (hlen _ hsigM) hstack hdg
  rcases hK m meth c ⟨T.setVm vm₁, locs, cells, slots⟩ { g with stack := rest } (.invokestatic index) mk argsL.toArray X₁ hg hsize hdg hW (X₁.named hnamed) (hpre vm₁ X₁.warmed) with ⟨v, B, X', hpost, hsteps⟩ | ⟨q, B, X', hpost, hsteps⟩
  · exact Or.inl ⟨v, vm₁, B, X₁.warmed, X', hpost, fun target h => hstep₁ _ fun acts => by rw [doInvoke_state]; exact hsteps.trans h⟩
  · exact Or.inr ⟨q, vm₁, B, X₁.warmed, X', hpost, hstep₁ _ fun acts => by rw [doInvoke_state]; exact hsteps⟩
end Calls
theorem vx_cls {s : State} {T : State} {vm₁ : Vm} {E : String} {k : ClassId} (hW : s.WarmedH vm₁) (h : (T.setVm vm₁).vm.findClass E = some k) : s.vm.findClass E = some k := by
  have h1 : vm₁.findClass E = some k := h
  rw [hW.alike.findClass] at h1
  exact h1
/-- the method's frame g, with q thrown over it -/
def vx_W (p : Program) (l : Launch) (e : Env) (R : Room) (s : State) (m : MethodId) (args : Array Value) (below : List Frame) (meth : Method) (c : Code) (H : Heap) (locs : List Loc) (cells slots : Nat) (Q : State → Prop) (g : JFrame) (q : Addr) : Prop :=
  ∀ T : State, T.heap = H → Stand p l e R s m args below meth c T locs cells slots → ∃ t, Steps p.tables e below ((T.setTop g).pushFrame (.throwing q)) t ∧ Q t
def vx_Run (p : Program) (l : Launch) (e : Env) (R : Room) (s : State) (m : MethodId) (args : Array Value) (below : List Frame) (meth : Method) (c : Code) (H : Heap) (locs : List Loc) (cells slots mc ms : Nat) (g : JFrame) (rest : List Value) (Qa : State → Outcome → State → Prop) (XC : String → State → State → Prop) (free : Addr → Prop) : Prop :=
  ∀ T : State, T.heap = H → Stand p l e R s m args below meth c T locs cells slots →
    (∃ (v : Option Value) (st₀ t T' : State) (L : List Loc), st₀.heap = H ∧ Stand p l e R s m args below meth c T' (locs ++ L) (cells + mc) (slots + ms) ∧ (∀ q ∈ L, free q.base) ∧ T'.heap = t.heap ∧ T'.vm = t.vm ∧ Qa st₀ (.returned v) t ∧
      Goes p e below T g T' { g with pc := g.pc + 3, stack := v.toList ++ rest }) ∨
    (∃ (q : Addr) (st₀ t T' : State) (L : List Loc) (E : String) (ce : Cell), st₀.heap = H ∧ Stand p l e R s m args below meth c T' (locs ++ L) (cells + mc) (slots + ms) ∧ (∀ z ∈ L, free z.base) ∧ T'.heap = t.heap ∧ T'.vm = t.vm ∧ XC E st₀ t ∧ t.heap[q]? = some ce ∧ ce.vm = .none ∧ s.vm.findClass E = some ce.cls ∧
      Steps p.tables e below (T.setTop g) ((T'.setTop { g with stack := rest }).pushFrame (.throwing q)))
def vx_X {S : Type} (px : S → Prop) (B : String → S → State → Prop) (A : Nat → Prop) : String → State → State → Prop := fun E st t => ∃ u : S, px u ∧ B E u t ∧ va_F A st t
section Runs
variable {p : Program} {l : Launch} {e : Env} {R : Room} {s : State} {m : MethodId} {args : Array Value} {below : List Frame} {meth : Method} {c : Code} {H : Heap} {locs : List Loc} {cells slots : Nat}
variable {y : MethodName} {bytes cc : ByteArray} {maxL nL mc ms n index : Nat} {ret : Option FieldType} {ws : List Cond} {rm : Room} {Pc : Array Value → State → Prop} {Qc : Array Value → State → Outcome → State → Prop} {XC : String → State → State → Prop} {free : Addr → Prop} {Ts : List Cond} {own C : String} {b : Addr} {As rest : List Value} {g : JFrame}
theorem vx_callBack (cb : CallB R s args own index y bytes maxL ret ws rm mc ms n) (hM : vx_Met l y ws rm Pc Qc XC mc ms free) (hbl : FrameBlind Pc) : vx_Back l R p e below s args y 3 8 (PreOf R mc ms Pc) (PostOf Qc mc ms free) (vx_Post XC mc ms free) := by
  obtain ⟨hrc, hrs, hfr, hlo, hws, hcw, -, hini, -⟩ := cb
  exact vx_back (bytes := bytes) (maxL := maxL) (ret := ret) hM hbl hrc hrs hfr hlo hws hcw (fun a' U hW => word_at hW (Or.inl (by first | rfl | simp [Cond.onTables, Cond.keeps, Cond.steady])) hini)
theorem vx_runV (S : CallFix p m c cc nL s args Ts own) (hM : vx_Met l y ws rm Pc Qc XC mc ms free) (cw : CallW R s args own C index y bytes maxL ret ws rm mc ms n) (hp : PreV s H C b Pc As)
    (hg : g.method = m) (hn : As.length = n) (hsize : g.locals.size = nL) (hstack : g.stack = As.reverse ++ .ref b :: rest) (hW : 2 * g.monitorRoom + (rest.map fun v => v.category).sum ≤ 8) (hdg : decode cc g.pc = .ok (.invokevirtual index, 3)) (hf : cells + mc ≤ R.cells ∧ slots + ms ≤ R.slots) :
    vx_Run p l e R s m args below meth c H locs cells slots mc ms g rest (Qc (Value.ref b :: As).toArray) XC free := by
  have hK : vx_Back l R p e below s args y 3 8 (PreOf R mc ms Pc) (PostOf Qc mc ms free) (vx_Post XC mc ms free) := vx_callBack cw.1 hM hp.1
  obtain ⟨⟨-, -, -, -, -, -, hcode, -, hy, hlen, hl⟩, hin, hse⟩ := cw
  obtain ⟨hx, hb, hml, ho, -⟩ := S
  obtain ⟨-, ⟨cellB, hcB, hoB, hclB⟩, hPc⟩ := hp
  intro T hT X
  rcases vx_callV X hx (C := C) (bytes := bytes) (maxL := maxL) (ret := ret) ho hl hin hse hcode hy hK (by rw [hT]; exact hcB) hoB hclB hg (hsize.trans hml.symm) (argsL := As) (rest := rest) (fun sig h => hn.trans (hlen sig h)) hstack hW (by rw [hb]; exact hdg)
    (fun vm₁ hW₁ => ⟨hf.1, hf.2, hPc (T.setVm vm₁) hT hW₁⟩) with ⟨v, vm₁, ⟨U', l2, c2, s2⟩, hW₁, X', ⟨g', mk, t, L, e1, e2, hq, h1, hL, h2, h3⟩, st⟩ | ⟨q, vm₁, ⟨U', l2, c2, s2⟩, hW₁, X', ⟨g', mk, t, L, E, ce, e1, e2, hq, hce, hcv, hcl, h1, hL, h2, h3⟩, st⟩
  · dsimp only [Pt.U, Pt.locs, Pt.cells, Pt.slots] at X' e1 e2 h1 h2 h3 st
    subst h1; subst h2; subst h3
    exact Or.inl ⟨v, (T.setVm vm₁).calling g' mk (Value.ref b :: As).toArray, t, U', L, hT, X', hL, e1, e2, hq, st⟩
  · dsimp only [Pt.U, Pt.locs, Pt.cells, Pt.slots] at X' e1 e2 h1 h2 h3 st hcl
    subst h1; subst h2; subst h3
    exact Or.inr ⟨q, (T.setVm vm₁).calling g' mk (Value.ref b :: As).toArray, t, U', L, E, ce, hT, X', hL, e1, e2, hq, hce, hcv, vx_cls hW₁ hcl, st⟩
theorem vx_runS (S : CallFix p m c cc nL s args Ts own) (hM : vx_Met l y ws rm Pc Qc XC mc ms free) (cw : CallB R s args own index y bytes maxL ret ws rm mc ms n ∧ (Cond.static y).before args s = true) (hp : PreS s H Pc As)
    (hg : g.method = m) (hn : As.length = n) (hsize : g.locals.size = nL) (hstack : g.stack = As.reverse ++ rest) (hW : 2 * g.monitorRoom + (rest.map fun v => v.category).sum ≤ 8) (hdg : decode cc g.pc = .ok (.invokestatic index, 3)) (hf : cells + mc ≤ R.cells ∧ slots + ms ≤ R.slots) :
    vx_Run p l e R s m args below meth c H locs cells slots mc ms g rest (Qc As.toArray) XC free := by
  have hK : vx_Back l R p e below s args y 3 8 (PreOf R mc ms Pc) (PostOf Qc mc ms free) (vx_Post XC mc ms free) := vx_callBack cw.1 hM hp.1
  obtain ⟨⟨-, -, -, -, -, -, hcode, hini, hy, hlen, hl⟩, hstt⟩ := cw
  obtain ⟨hx, hb, hml, ho, -⟩ := S
  intro T hT X
  rcases vx_callS X hx (bytes := bytes) (maxL := maxL) (ret := ret) ho hl hstt hini hcode hy hK hg (hsize.trans hml.symm) (argsL := As) (rest := rest) (fun sig h => hn.trans (hlen sig h)) hstack hW (by rw [hb]; exact hdg)
    (fun vm₁ hW₁ => ⟨hf.1, hf.2, hp.2 (T.setVm vm₁) hT hW₁⟩) with ⟨v, vm₁, ⟨U', l2, c2, s2⟩, hW₁, X', ⟨g', mk, t, L, e1, e2, hq, h1, hL, h2, h3⟩, st⟩ | ⟨q, vm₁, ⟨U', l2, c2, s2⟩, hW₁, X', ⟨g', mk, t, L, E, ce, e1, e2, hq, hce, hcv, hcl, h1, hL, h2, h3⟩, st⟩
  · dsimp only [Pt.U, Pt.locs, Pt.cells, Pt.slots] at X' e1 e2 h1 h2 h3 st
    subst h1; subst h2; subst h3
    exact Or.inl ⟨v, (T.setVm vm₁).calling g' mk As.toArray, t, U', L, hT, X', hL, e1, e2, hq, st⟩
  · dsimp only [Pt.U, Pt.locs, Pt.cells, Pt.slots] at X' e1 e2 h1 h2 h3 st hcl
    subst h1; subst h2; subst h3
    exact Or.inr ⟨q, (T.setVm vm₁).calling g' mk As.toArray, t, U', L, E, ce, hT, X', hL, e1, e2, hq, hce, hcv, vx_cls hW₁ hcl, st⟩
end Runs
section Rows
variable {p : Program} {l : Launch} {e : Env} {R : Room} {s : State} {m : MethodId} {args : Array Value} {below : List Frame} {meth : Method} {c : Code} {H : Heap} {locs : List Loc} {cells slots : Nat} {Q : State → Prop}
variable {mc ms : Nat} {free : Addr → Prop} {A0 A1 : Nat → Prop} {H0 : Heap} {a : Array Value} {pc : Nat} {ls : Array Slot} {st0 rest : List Value}
theorem vx_keep {st₀ t T' : State} {L : List Loc} (h0 : st₀.heap = H) (e1 : T'.heap = t.heap) (hS : va_S A0 H0 H locs) (hA : ∀ q, q < H.size → A1 q → A0 q) (hf : ∀ q, free q → A0 q) (hL : ∀ q ∈ L, free q.base) (hF : va_F A1 st₀ t) :
    H.size ≤ T'.heap.size ∧ (∀ q : Nat, q < H.size → ¬ A1 q → T'.heap[q]? = H[q]?) ∧ va_S A0 H0 T'.heap (locs ++ L) := by
  obtain ⟨hz, hk⟩ := hF
  rw [h0] at hz hk
  exact ⟨by rw [e1]; exact hz, fun q h1 h2 => by rw [e1]; exact hk q h1 h2,
    ⟨Nat.le_trans hS.1 (by rw [e1]; exact hz), fun q h1 h2 => by rw [e1, hk q (Nat.lt_of_lt_of_le h1 hS.1) (fun z => h2 (hA q (Nat.lt_of_lt_of_le h1 hS.1) z))]; exact hS.2.1 q h1 h2, fun q hq => by
      rcases List.mem_append.mp hq with h | h
      · exact hS.2.2 q h
      · exact hf _ (hL q h)⟩⟩
theorem vx_calli {S SX : Type} {post : Int32 → S → Prop} {px : SX → Prop} {B : S → State → Prop} {BX : String → SX → State → Prop} {AX : Nat → Prop} (hr : vx_Run p l e R s m args below meth c H locs cells slots mc ms (F0 m pc ls st0) rest (va_Qi post B A1 a) (vx_X px BX AX) free) (hS : va_S A0 H0 H locs) (hA : ∀ q, q < H.size → A1 q → A0 q) (hf : ∀ q, free q → A0 q) (hAX : ∀ q, q < H.size → AX q → A0 q)
    (kx : ∀ (E : String) (ce : Cell) (q9 : Addr) (u : SX) (t : State) (H1 : Heap) (locs1 : List Loc), t.heap = H1 → s.vm.Alike t.vm → px u → BX E u t → H.size ≤ H1.size → (∀ q : Nat, q < H.size → ¬ AX q → H1[q]? = H[q]?) → va_S A0 H0 H1 locs1 → H1[q9]? = some ce → ce.vm = .none → s.vm.findClass E = some ce.cls → vx_W p l e R s m args below meth c H1 locs1 (cells + mc) (slots + ms) Q (F0 m pc ls rest) q9)
    (kk : ∀ (r : Int32) (u : S) (t : State) (H1 : Heap) (locs1 : List Loc), t.heap = H1 → s.vm.Alike t.vm → post r u → B u t → H.size ≤ H1.size → (∀ q : Nat, q < H.size → ¬ A1 q → H1[q]? = H[q]?) → va_S A0 H0 H1 locs1 → W p l e R s m args below meth c H1 locs1 (cells + mc) (slots + ms) Q (F0 m (pc + 3) ls (.int r :: rest))) : W p l e R s m args below meth c H locs cells slots Q (F0 m pc ls st0) := by
  intro T hT X
  rcases hr T hT X with ⟨v, st₀, t, T', L, h0, X', hL, e1, e2, ⟨⟨r, u, hv, hp, hb⟩, hF⟩, st⟩ | ⟨q, st₀, t, T', L, E, ce, h0, X', hL, e1, e2, ⟨u, hp, hb, hF⟩, hce, hcv, hcl, st⟩
  · cases hv
    obtain ⟨k1, k2, k3⟩ := vx_keep h0 e1 hS hA hf hL hF
    obtain ⟨t2, a1, b1⟩ := kk r u t T'.heap (locs ++ L) e1.symm (by rw [← e2]; exact X'.warmed.alike) hp hb k1 k2 k3 T' rfl X'
    exact ⟨t2, st t2 a1, b1⟩
  · obtain ⟨k1, k2, k3⟩ := vx_keep h0 e1 hS hAX hf hL hF
    obtain ⟨t2, a1, b1⟩ := kx E ce q u t T'.heap (locs ++ L) e1.symm (by rw [← e2]; exact X'.warmed.alike) hp hb k1 k2 k3 (by rw [e1]; exact hce) hcv hcl T' rfl X'
    exact ⟨t2, st.trans a1, b1⟩
theorem vx_calll {S SX : Type} {post : Int64 → S → Prop} {px : SX → Prop} {B : S → State → Prop} {BX : String → SX → State → Prop} {AX : Nat → Prop} (hr : vx_Run p l e R s m args below meth c H locs cells slots mc ms (F0 m pc ls st0) rest (va_Ql post B A1 a) (vx_X px BX AX) free) (hS : va_S A0 H0 H locs) (hA : ∀ q, q < H.size → A1 q → A0 q) (hf : ∀ q, free q → A0 q) (hAX : ∀ q, q < H.size → AX q → A0 q)
    (kx : ∀ (E : String) (ce : Cell) (q9 : Addr) (u : SX) (t : State) (H1 : Heap) (locs1 : List Loc), t.heap = H1 → s.vm.Alike t.vm → px u → BX E u t → H.size ≤ H1.size → (∀ q : Nat, q < H.size → ¬ AX q → H1[q]? = H[q]?) → va_S A0 H0 H1 locs1 → H1[q9]? = some ce → ce.vm = .none → s.vm.findClass E = some ce.cls → vx_W p l e R s m args below meth c H1 locs1 (cells + mc) (slots + ms) Q (F0 m pc ls rest) q9)
    (kk : ∀ (r : Int64) (u : S) (t : State) (H1 : Heap) (locs1 : List Loc), t.heap = H1 → s.vm.Alike t.vm → post r u → B u t → H.size ≤ H1.size → (∀ q : Nat, q < H.size → ¬ A1 q → H1[q]? = H[q]?) → va_S A0 H0 H1 locs1 → W p l e R s m args below meth c H1 locs1 (cells + mc) (slots + ms) Q (F0 m (pc + 3) ls (.long r :: rest))) : W p l e R s m args below meth c H locs cells slots Q (F0 m pc ls st0) := by
  intro T hT X
  rcases hr T hT X with ⟨v, st₀, t, T', L, h0, X', hL, e1, e2, ⟨⟨r, u, hv, hp, hb⟩, hF⟩, st⟩ | ⟨q, st₀, t, T', L, E, ce, h0, X', hL, e1, e2, ⟨u, hp, hb, hF⟩, hce, hcv, hcl, st⟩
  · cases hv
    obtain ⟨k1, k2, k3⟩ := vx_keep h0 e1 hS hA hf hL hF
    obtain ⟨t2, a1, b1⟩ := kk r u t T'.heap (locs ++ L) e1.symm (by rw [← e2]; exact X'.warmed.alike) hp hb k1 k2 k3 T' rfl X'
    exact ⟨t2, st t2 a1, b1⟩
  · obtain ⟨k1, k2, k3⟩ := vx_keep h0 e1 hS hAX hf hL hF
    obtain ⟨t2, a1, b1⟩ := kx E ce q u t T'.heap (locs ++ L) e1.symm (by rw [← e2]; exact X'.warmed.alike) hp hb k1 k2 k3 (by rw [e1]; exact hce) hcv hcl T' rfl X'
    exact ⟨t2, st.trans a1, b1⟩
theorem vx_callf {S SX : Type} {post : UInt32 → S → Prop} {px : SX → Prop} {B : S → State → Prop} {BX : String → SX → State → Prop} {AX : Nat → Prop} (hr : vx_Run p l e R s m args below meth c H locs cells slots mc ms (F0 m pc ls st0) rest (va_Qf post B A1 a) (vx_X px BX AX) free) (hS : va_S A0 H0 H locs) (hA : ∀ q, q < H.size → A1 q → A0 q) (hf : ∀ q, free q → A0 q) (hAX : ∀ q, q < H.size → AX q → A0 q)
    (kx : ∀ (E : String) (ce : Cell) (q9 : Addr) (u : SX) (t : State) (H1 : Heap) (locs1 : List Loc), t.heap = H1 → s.vm.Alike t.vm → px u → BX E u t → H.size ≤ H1.size → (∀ q : Nat, q < H.size → ¬ AX q → H1[q]? = H[q]?) → va_S A0 H0 H1 locs1 → H1[q9]? = some ce → ce.vm = .none → s.vm.findClass E = some ce.cls → vx_W p l e R s m args below meth c H1 locs1 (cells + mc) (slots + ms) Q (F0 m pc ls rest) q9)
    (kk : ∀ (r : UInt32) (u : S) (t : State) (H1 : Heap) (locs1 : List Loc), t.heap = H1 → s.vm.Alike t.vm → post r u → B u t → H.size ≤ H1.size → (∀ q : Nat, q < H.size → ¬ A1 q → H1[q]? = H[q]?) → va_S A0 H0 H1 locs1 → W p l e R s m args below meth c H1 locs1 (cells + mc) (slots + ms) Q (F0 m (pc + 3) ls (.float r :: rest))) : W p l e R s m args below meth c H locs cells slots Q (F0 m pc ls st0) := by
  intro T hT X
  rcases hr T hT X with ⟨v, st₀, t, T', L, h0, X', hL, e1, e2, ⟨⟨r, u, hv, hp, hb⟩, hF⟩, st⟩ | ⟨q, st₀, t, T', L, E, ce, h0, X', hL, e1, e2, ⟨u, hp, hb, hF⟩, hce, hcv, hcl, st⟩
  · cases hv
    obtain ⟨k1, k2, k3⟩ := vx_keep h0 e1 hS hA hf hL hF
    obtain ⟨t2, a1, b1⟩ := kk r u t T'.heap (locs ++ L) e1.symm (by rw [← e2]; exact X'.warmed.alike) hp hb k1 k2 k3 T' rfl X'
    exact ⟨t2, st t2 a1, b1⟩
  · obtain ⟨k1, k2, k3⟩ := vx_keep h0 e1 hS hAX hf hL hF
    obtain ⟨t2, a1, b1⟩ := kx E ce q u t T'.heap (locs ++ L) e1.symm (by rw [← e2]; exact X'.warmed.alike) hp hb k1 k2 k3 (by rw [e1]; exact hce) hcv hcl T' rfl X'
    exact ⟨t2, st.trans a1, b1⟩
theorem vx_calld {S SX : Type} {post : UInt64 → S → Prop} {px : SX → Prop} {B : S → State → Prop} {BX : String → SX → State → Prop} {AX : Nat → Prop} (hr : vx_Run p l e R s m args below meth c H locs cells slots mc ms (F0 m pc ls st0) rest (va_Qd post B A1 a) (vx_X px BX AX) free) (hS : va_S A0 H0 H locs) (hA : ∀ q, q < H.size → A1 q → A0 q) (hf : ∀ q, free q → A0 q) (hAX : ∀ q, q < H.size → AX q → A0 q)
    (kx : ∀ (E : String) (ce : Cell) (q9 : Addr) (u : SX) (t : State) (H1 : Heap) (locs1 : List Loc), t.heap = H1 → s.vm.Alike t.vm → px u → BX E u t → H.size ≤ H1.size → (∀ q : Nat, q < H.size → ¬ AX q → H1[q]? = H[q]?) → va_S A0 H0 H1 locs1 → H1[q9]? = some ce → ce.vm = .none → s.vm.findClass E = some ce.cls → vx_W p l e R s m args below meth c H1 locs1 (cells + mc) (slots + ms) Q (F0 m pc ls rest) q9)
    (kk : ∀ (r : UInt64) (u : S) (t : State) (H1 : Heap) (locs1 : List Loc), t.heap = H1 → s.vm.Alike t.vm → post r u → B u t → H.size ≤ H1.size → (∀ q : Nat, q < H.size → ¬ A1 q → H1[q]? = H[q]?) → va_S A0 H0 H1 locs1 → W p l e R s m args below meth c H1 locs1 (cells + mc) (slots + ms) Q (F0 m (pc + 3) ls (.double r :: rest))) : W p l e R s m args below meth c H locs cells slots Q (F0 m pc ls st0) := by
  intro T hT X
  rcases hr T hT X with ⟨v, st₀, t, T', L, h0, X', hL, e1, e2, ⟨⟨r, u, hv, hp, hb⟩, hF⟩, st⟩ | ⟨q, st₀, t, T', L, E, ce, h0, X', hL, e1, e2, ⟨u, hp, hb, hF⟩, hce, hcv, hcl, st⟩
  · cases hv
    obtain ⟨k1, k2, k3⟩ := vx_keep h0 e1 hS hA hf hL hF
    obtain ⟨t2, a1, b1⟩ := kk r u t T'.heap (locs ++ L) e1.symm (by rw [← e2]; exact X'.warmed.alike) hp hb k1 k2 k3 T' rfl X'
    exact ⟨t2, st t2 a1, b1⟩
  · obtain ⟨k1, k2, k3⟩ := vx_keep h0 e1 hS hAX hf hL hF
    obtain ⟨t2, a1, b1⟩ := kx E ce q u t T'.heap (locs ++ L) e1.symm (by rw [← e2]; exact X'.warmed.alike) hp hb k1 k2 k3 (by rw [e1]; exact hce) hcv hcl T' rfl X'
    exact ⟨t2, st.trans a1, b1⟩
theorem vx_callv {S SX : Type} {post : S → Prop} {px : SX → Prop} {B : S → State → Prop} {BX : String → SX → State → Prop} {AX : Nat → Prop} (hr : vx_Run p l e R s m args below meth c H locs cells slots mc ms (F0 m pc ls st0) rest (va_Qv post B A1 a) (vx_X px BX AX) free) (hS : va_S A0 H0 H locs) (hA : ∀ q, q < H.size → A1 q → A0 q) (hf : ∀ q, free q → A0 q) (hAX : ∀ q, q < H.size → AX q → A0 q)
    (kx : ∀ (E : String) (ce : Cell) (q9 : Addr) (u : SX) (t : State) (H1 : Heap) (locs1 : List Loc), t.heap = H1 → s.vm.Alike t.vm → px u → BX E u t → H.size ≤ H1.size → (∀ q : Nat, q < H.size → ¬ AX q → H1[q]? = H[q]?) → va_S A0 H0 H1 locs1 → H1[q9]? = some ce → ce.vm = .none → s.vm.findClass E = some ce.cls → vx_W p l e R s m args below meth c H1 locs1 (cells + mc) (slots + ms) Q (F0 m pc ls rest) q9)
    (kk : ∀ (u : S) (t : State) (H1 : Heap) (locs1 : List Loc), t.heap = H1 → s.vm.Alike t.vm → post u → B u t → H.size ≤ H1.size → (∀ q : Nat, q < H.size → ¬ A1 q → H1[q]? = H[q]?) → va_S A0 H0 H1 locs1 → W p l e R s m args below meth c H1 locs1 (cells + mc) (slots + ms) Q (F0 m (pc + 3) ls (rest))) : W p l e R s m args below meth c H locs cells slots Q (F0 m pc ls st0) := by
  intro T hT X
  rcases hr T hT X with ⟨v, st₀, t, T', L, h0, X', hL, e1, e2, ⟨⟨u, hv, hp, hb⟩, hF⟩, st⟩ | ⟨q, st₀, t, T', L, E, ce, h0, X', hL, e1, e2, ⟨u, hp, hb, hF⟩, hce, hcv, hcl, st⟩
  · cases hv
    obtain ⟨k1, k2, k3⟩ := vx_keep h0 e1 hS hA hf hL hF
    obtain ⟨t2, a1, b1⟩ := kk u t T'.heap (locs ++ L) e1.symm (by rw [← e2]; exact X'.warmed.alike) hp hb k1 k2 k3 T' rfl X'
    exact ⟨t2, st t2 a1, b1⟩
  · obtain ⟨k1, k2, k3⟩ := vx_keep h0 e1 hS hAX hf hL hF
    obtain ⟨t2, a1, b1⟩ := kx E ce q u t T'.heap (locs ++ L) e1.symm (by rw [← e2]; exact X'.warmed.alike) hp hb k1 k2 k3 (by rw [e1]; exact hce) hcv hcl T' rfl X'
    exact ⟨t2, st.trans a1, b1⟩
/-- caught by the row x of this method's table; the rows ahead don't take it -/
theorem vx_catch {own name : String} {E : String} {ce : Cell} {q : Addr} (hown : s.vm.findClass own = some m.cls) (pre : List ExceptionTableEntry) (x : ExceptionTableEntry) (suf : List ExceptionTableEntry) (hsplit : c.exceptionTable.toList = pre ++ x :: suf)
    (hpass : ∀ z ∈ pre, covers z pc = false ∨ (z.catchType ≠ 0 ∧ ∃ nm : String, (Cond.classLink own z.catchType nm).before args s = true ∧ va_Nc E nm s)) (hx : covers x pc = true) (h0 : x.catchType ≠ 0)
    (hlink : (Cond.classLink own x.catchType name).before args s = true) (hcast : (Cond.castable E name).before args s = true) (hcell : H[q]? = some ce) (hv : ce.vm = .none) (hcl : s.vm.findClass E = some ce.cls)
    (kk : W p l e R s m args below meth c H locs cells slots Q (F0 m x.handlerPc ls [.ref q])) : vx_W p l e R s m args below meth c H locs cells slots Q (F0 m pc ls rest) q := by
  intro T hT X
  have hpl : e.platform.magicAccessors = ({} : Platform).magicAccessors := by rw [X.admits.platform]
  obtain ⟨c3, c4, hc3, hc4, hasg⟩ := Cond.castable_spec hcast
  cases Option.some.inj (hc3.symm.trans hcl)
  obtain ⟨c5, hc5, hcl5⟩ := Cond.classLink_spec hown hlink e.platform hpl
  cases Option.some.inj (hc4.symm.trans hc5)
  obtain ⟨vm', X', st⟩ := X.thenCaughtThrough q (g := F0 m pc ls rest) rfl (Steps.refl _) (by rw [hT]; exact hcell) (by rw [hv]; rfl) (by obtain ⟨k9, h9, -⟩ := Vm.findClass_spec hcl; exact ⟨k9, h9⟩) pre x suf hsplit
    (fun z hz => by
      rcases hpass z hz with h | ⟨hz0, nm, hl1, hn1⟩
      · exact Or.inl h
      · obtain ⟨c6, hc6, hcl6⟩ := Cond.classLink_spec hown hl1 e.platform hpl
        obtain ⟨a8, b8, h1, h2, h3⟩ := hn1
        cases Option.some.inj (h1.symm.trans hcl)
        cases Option.some.inj (h2.symm.trans hc6)
        exact Or.inr ⟨hz0, _, hcl6, h3⟩) hx (Or.inr ⟨h0, c4, hcl5, hasg⟩)
  obtain ⟨t, a1, b1⟩ := kk (T.setVm vm') hT X'
  exact ⟨t, st.trans a1, b1⟩
end Rows
section Ends
variable {p : Program} {l : Launch} {e : Env} {R : Room} {s : State} {m : MethodId} {args : Array Value} {below : List Frame} {meth : Method} {c : Code} {H : Heap} {locs : List Loc} {cells slots : Nat} {Q : State → Prop}
variable {mc ms : Nat} {free : Addr → Prop} {A0 A1 : Nat → Prop} {H0 : Heap} {a : Array Value} {ls : Array Slot} {st0 rest : List Value}
variable {Qc : Array Value → State → Outcome → State → Prop} {XC : String → State → State → Prop}
/-- what a body that may throw owes at its end -/
def vx_MQ (below : List Frame) (Qc : Array Value → State → Outcome → State → Prop) (XC : String → State → State → Prop) (a : Array Value) (s : State) (mc ms : Nat) (free : Addr → Prop) : State → Prop := fun t =>
  ∃ o, t.status = .running ∧ Ended t below o ∧ vx_Q Qc XC mc ms free a s o t
theorem vx_ret {g : JFrame} {mc ms : Nat} (k : W p l e R s m args below meth c H locs cells slots (MQ below Qc args s mc ms free) g) : W p l e R s m args below meth c H locs cells slots (vx_MQ below Qc XC args s mc ms free) g := by
  intro T hT X
  obtain ⟨t, a1, o, b1, b2, b3, b4⟩ := k T hT X
  exact ⟨t, a1, o, b1, b2, Or.inl ⟨b3, b4⟩⟩
/-- not caught here: it goes on to the caller -/
theorem vx_widen {g : JFrame} {q : Addr} {k n : Nat} (h1 : cells ≤ k) (h2 : slots ≤ n) (kk : vx_W p l e R s m args below meth c H locs k n Q g q) : vx_W p l e R s m args below meth c H locs cells slots Q g q := fun T hT X => kk T hT (stand_widen X h1 h2)
theorem vx_out {pc : Nat} {E : String} {ce : Cell} {q : Addr} {mc ms : Nat} (hout : ∀ x ∈ c.exceptionTable.toList, covers x pc = false) (hlocks : meth.locks = false) (hcell : H[q]? = some ce) (hv : ce.vm = .none) (hcl : s.vm.findClass E = some ce.cls)
    (hx : ∀ t : State, t.heap = H → s.vm.Alike t.vm → XC E s t) (hf : ∀ z ∈ locs, free z.base) (hc : cells ≤ mc) (hs : slots ≤ ms) :
    vx_W p l e R s m args below meth c H locs cells slots (vx_MQ below Qc XC args s mc ms free) (F0 m pc ls rest) q := by
  intro T hT X
  obtain ⟨st1, hrun, hend, hW, hsm⟩ := X.leaveThrown q (g := F0 m pc ls rest) rfl rfl rfl hout hlocks
  have hcell9 : (T.setFrames (.throwing q :: below)).heap[q]? = some ce := by
    show T.heap[q]? = some ce
    rw [hT]; exact hcell
  exact ⟨_, st1, .threw q, hrun, hend, Or.inr ⟨q, rfl, E, ce, locs, hx _ hT hW.alike, hcell9, hv, hcl, hW, hsm.mono hc hs, hf⟩⟩
theorem vx_frame {U : State} {k n : Nat} (h : s.sameButNew ({ U with vm := s.vm } : State) locs k n) : s.heap.size ≤ U.heap.size ∧ ∀ q : Nat, q < s.heap.size → (∀ z ∈ locs, z.base ≠ q) → U.heap[q]? = s.heap[q]? := by
  obtain ⟨-, h2, -, -, -, h6⟩ := h
  refine ⟨h2, fun q hq hz => ?_⟩
  obtain ⟨c9, e1, e2, e3, e4⟩ := h6 q _ (Array.getElem?_eq_getElem hq)
  have hs : c9.slots = (s.heap[q]).slots := Array.ext_getElem? fun i => e4 i fun hm => hz _ hm rfl
  have h9 : c9 = s.heap[q] := by
    rw [hs] at e2
    exact e2
  have e5 : U.heap[q]? = some c9 := e1
  rw [e5, h9, Array.getElem?_eq_getElem hq]
/-- the words of a throw but the four that speak of the heap -/
def vx_no (w : Cond) : Bool := decide (w ≠ .isRef (.static Bundle.tN "UNASSIGNED_STACK" Bundle.steD)) && decide (w ≠ .isRef (.static Bundle.tN "SUPPRESSED_SENTINEL" Bundle.listD)) && decide (w ≠ .laysStatic Bundle.tN "UNASSIGNED_STACK" Bundle.steD) && decide (w ≠ .laysStatic Bundle.tN "SUPPRESSED_SENTINEL" Bundle.listD)
def vx_at0 (own : String) (ic : Nat) (X : String) (names : List String) : List Cond := (Bundle.ownAtoms0 own ic X names).filter vx_no
def vx_atS (own : String) (ic : Nat) (X : String) (names : List String) : List Cond := (Bundle.ownAtoms own ic X names).filter vx_no
/-- a word that the tables alone decide, or a good one -/
def vx_ot (w : Cond) : Bool := w.onTables || goodWord w
theorem vx_ot_at {args a' : Array Value} {s U : State} {w : Cond} (hW : s.WarmedH U.vm) (hvm : s.vm = U.vm) (hg : vx_ot w = true) (h : w.before args s = true) : w.before a' U = true := by
  simp only [vx_ot, Bool.or_eq_true] at hg
  rcases hg with hg | hg
  · exact va_tabs hg hvm h
  · exact word_at hW (good_of_word hg) h
/-- a list's words: the good ones out of the method's own list, the others by premises of their own -/
theorem vx_hat {args : Array Value} {s : State} {L B : List Cond} (h1 : ∀ w ∈ L.filter goodWord, w.before args s = true) (h2 : ∀ w ∈ L.filter (fun w => !goodWord w), w ∈ B) (h3 : ∀ w ∈ B, w.before args s = true) : ∀ w ∈ L, w.before args s = true := by
  intro w hw
  by_cases g : goodWord w = true
  · exact h1 w (List.mem_filter.mpr ⟨hw, g⟩)
  · refine h3 w (h2 w (List.mem_filter.mpr ⟨hw, ?_⟩))
    show (!goodWord w) = true
    cases hgw : goodWord w
    · rfl
    · exact absurd hgw g
theorem vx_c {args : Array Value} {s : State} {w : Cond} {B : List Cond} (h : w.before args s = true) (t : ∀ w ∈ B, w.before args s = true) : ∀ w' ∈ w :: B, w'.before args s = true := fun w' h' => (List.mem_cons.mp h').elim (fun e => by rw [e]; exact h) (t w')
theorem vx_n {args : Array Value} {s : State} : ∀ w ∈ ([] : List Cond), w.before args s = true := fun _ h => nomatch h
theorem vx_own {args : Array Value} {s : State} {L : List Cond} (h1 : ∀ w ∈ L.filter vx_no, w.before args s = true)
    (hU : (Cond.isRef (.static Bundle.tN "UNASSIGNED_STACK" Bundle.steD)).before args s = true) (hN : (Cond.isRef (.static Bundle.tN "SUPPRESSED_SENTINEL" Bundle.listD)).before args s = true)
    (lU : (Cond.laysStatic Bundle.tN "UNASSIGNED_STACK" Bundle.steD).before args s = true) (lN : (Cond.laysStatic Bundle.tN "SUPPRESSED_SENTINEL" Bundle.listD).before args s = true) : ∀ w ∈ L, w.before args s = true := by
  intro w hw
  by_cases e1 : w = .isRef (.static Bundle.tN "UNASSIGNED_STACK" Bundle.steD)
  · rw [e1]; exact hU
  · by_cases e2 : w = .isRef (.static Bundle.tN "SUPPRESSED_SENTINEL" Bundle.listD)
    · rw [e2]; exact hN
    · by_cases e3 : w = .laysStatic Bundle.tN "UNASSIGNED_STACK" Bundle.steD
      · rw [e3]; exact lU
      · by_cases e4 : w = .laysStatic Bundle.tN "SUPPRESSED_SENTINEL" Bundle.listD
        · rw [e4]; exact lN
        · exact h1 w (List.mem_filter.mpr ⟨hw, by unfold vx_no; rw [decide_eq_true e1, decide_eq_true e2, decide_eq_true e3, decide_eq_true e4]; rfl⟩)
/-- where a static field lies, its class's statics cell in H -/
def vx_L (C n d : String) (A : Nat → Prop) (U : State) (H : Heap) : Prop := ∃ (c : ClassId) (k : Class) (i : Nat) (f : Field) (a : Nat) (cell : Cell), U.vm.findClass C = some c ∧ U.fieldFound? C n d = some (c, k, i, f) ∧ f.isStatic = true ∧ k.statics = some a ∧ H[a]? = some cell ∧ cell.vm.isStatics = true ∧ cell.cls = c ∧ f.slot < cell.slots.size ∧ k.staticTypes[f.slot]? = some f.type ∧ ¬ A a
theorem vx_L.moved {C n d : String} {A : Nat → Prop} {u U : State} {H : Heap} (hvm : u.vm.Alike U.vm) (h : vx_L C n d A u H) : vx_L C n d A U H := by
  obtain ⟨c, k, i, f, a, cell, h1, h2, h3, h4, h5, h6, h7, h8, h9, h10⟩ := h
  obtain ⟨k', hi', he⟩ := State.fieldFound?_setVm hvm h2
  exact ⟨c, k', i, f, a, cell, by rw [hvm.findClass]; exact h1, hi', h3, by rw [he]; exact h4, h5, h6, h7, h8, by rw [he]; exact h9, h10⟩
theorem vx_L.kept {C n d : String} {A : Nat → Prop} {U : State} {H H1 : Heap} (h : vx_L C n d A U H) (hq : ∀ a : Nat, a < H.size → ¬ A a → H1[a]? = H[a]?) : vx_L C n d A U H1 := by
  obtain ⟨c, k, i, f, a, cell, h1, h2, h3, h4, h5, h6, h7, h8, h9, h10⟩ := h
  exact ⟨c, k, i, f, a, cell, h1, h2, h3, h4, by rw [hq a (Array.getElem?_eq_some_iff.mp h5).1 h10]; exact h5, h6, h7, h8, h9, h10⟩
theorem vx_L.narrow {C n d : String} {A B : Nat → Prop} {U : State} {H : Heap} (h : vx_L C n d A U H) (hAB : ∀ q, B q → A q) : vx_L C n d B U H := by
  obtain ⟨c, k, i, f, a, cell, h1, h2, h3, h4, h5, h6, h7, h8, h9, h10⟩ := h
  exact ⟨c, k, i, f, a, cell, h1, h2, h3, h4, h5, h6, h7, h8, h9, fun z => h10 (hAB _ z)⟩
theorem vx_L.word {C n d : String} {A : Nat → Prop} {s : State} {args : Array Value} (h : vx_L C n d A s s.heap) : (Cond.laysStatic C n d).before args s = true := by
  obtain ⟨c, k, i, f, a, cell, h1, h2, h3, h4, h5, h6, h7, h8, h9, -⟩ := h
  show (Cond.laysStatic C n d).holds args s none s [] = true
  exact Cond.laysStatic_of h1 h2 h3 h4 h5 h6 h7 h8 h9
/-- .. and what it holds: null or some reference -/
def vx_Zq (C n d : String) (A : Nat → Prop) (U : State) (H : Heap) : Prop := va_Zq C n d A U H ∧ vx_L C n d A U H
theorem vx_Zq.moved {C n d : String} {A : Nat → Prop} {u U : State} {H : Heap} (hvm : u.vm.Alike U.vm) (h : vx_Zq C n d A u H) : vx_Zq C n d A U H := ⟨va_Zq.moved hvm h.1, vx_L.moved hvm h.2⟩
theorem vx_Zq.kept {C n d : String} {A : Nat → Prop} {U : State} {H H1 : Heap} (h : vx_Zq C n d A U H) (hq : ∀ a : Nat, a < H.size → ¬ A a → H1[a]? = H[a]?) : vx_Zq C n d A U H1 := ⟨va_Zq.kept h.1 hq, vx_L.kept h.2 hq⟩
theorem vx_Zq.narrow {C n d : String} {A B : Nat → Prop} {U : State} {H : Heap} (h : vx_Zq C n d A U H) (hAB : ∀ q, B q → A q) : vx_Zq C n d B U H := ⟨va_Zq.narrow h.1 hAB, vx_L.narrow h.2 hAB⟩
theorem vx_Zqof {args : Array Value} {s : State} {C n d : String} {A : Nat → Prop} (hl : (Cond.laysStatic C n d).before args s = true) (hini : (Cond.initialized C).before args s = true) (h : (Cond.isRef (.static C n d)).before args s = true) (hA : ∀ a : Nat, a < s.heap.size → ¬ A a) : vx_Zq C n d A s s.heap := by
  refine ⟨va_Zqof hl hini h hA, ?_⟩
  obtain ⟨c, k, i, f, a, cell, h1, h2, h3, h4, h5, h6, h7, h8, h9⟩ := Cond.laysStatic_spec hl
  exact ⟨c, k, i, f, a, cell, h1, h2, h3, h4, h5, h6, h7, h8, h9, hA a (Array.getElem?_eq_some_iff.mp h5).1⟩
theorem vx_isRef {C n d : String} {v : Value} {A : Nat → Prop} {s : State} {args : Array Value} (h : va_Z C n d v A s s.heap) (hv : v.isRef = true) : (Cond.isRef (.static C n d)).before args s = true := by
  obtain ⟨cf, kf, fi, f, a, cell, h1, h2, h3, h4, h5, h6, h7, -⟩ := h
  have he : (Term.static C n d).eval args s none [] s = some v := by
    simp [Term.eval, State.fieldNamed?, h1, h2, h4, h5, h6, h7]
  simp only [Cond.before, Cond.holds, Cond.value, he]
  cases v <;> simp_all [Value.isRef]
theorem vx_isRefq {C n d : String} {A : Nat → Prop} {s : State} {args : Array Value} (h : va_Zq C n d A s s.heap) : (Cond.isRef (.static C n d)).before args s = true := by
  rcases h with h | ⟨t, h⟩
  · exact vx_isRef h rfl
  · exact vx_isRef h rfl
/-- the same frame, seen from here: as if the method were called anew in this heap -/
theorem vx_rebase {T : State} (X : Stand p l e R s m args below meth c T locs cells slots) {R' : Room} (hf : R'.frames ≤ R.frames) (hl : R'.locals ≤ R.locals) (hc : cells + R'.cells ≤ R.cells) (hs : slots + R'.slots ≤ R.slots) :
    Stand p l e R' ((T.setVm s.vm).setFrames (.invoking m args :: below)) m args below meth c T [] 0 0 := by
  have htop : (T.setVm s.vm).topJava?.isSome := X.here.top
  have hF : ((T.setVm s.vm).setFrames (.invoking m args :: below)).frames = .invoking m args :: below := State.frames_setFrames _ (State.cur_lt_of_top htop)
  obtain ⟨g₀, hg0⟩ := Option.isSome_iff_exists.mp htop
  obtain ⟨r, hr⟩ := State.topJava?_eq_some.mp hg0
  have hl9 : e.platform.stackLimits (T.setVm s.vm).me = e.platform.stackLimits s.me := X.limits
  have hb9 : (T.setVm s.vm).me.stackBytes = s.me.stackBytes := X.bytes
  refine ⟨X.admits, X.cas, X.clock, hF, ?_, X.hears, X.method, X.code, X.here, X.tail, X.warmed, ?_, ?_, ?_⟩
  · have h := X.room
    have hU : ((T.setVm s.vm).setFrames (.invoking m args :: below)).localsInUse = s.localsInUse := by
      rw [State.localsInUse_invoking hF (meth := meth) (c := c) X.method X.code, State.localsInUse_invoking X.frames X.method X.code]
    simp only [State.hasRoom, Bool.and_eq_true, decide_eq_true_eq] at h ⊢
    obtain ⟨⟨⟨⟨h1, h2, h3, h4, h5, h6⟩, h7⟩, h8⟩, h9⟩ := h
    rw [X.frames, List.length_cons] at h2 h3
    have q1 := X.heapSize
    have q2 := X.used
    simp only [hF, hU, List.length_cons, State.stackLimits_setFrames, State.stackBytes_setFrames, hl9, hb9]
    refine ⟨⟨⟨⟨by omega, by omega, by omega, by omega, by omega, h6⟩, ?_⟩, ?_⟩, X.book⟩
    · show T.heap.size + R'.cells ≤ e.platform.maxCells
      omega
    · show T.slotsUsed + R'.slots ≤ e.platform.maxSlots
      omega
  · rw [State.stackLimits_setFrames]; rfl
  · rw [State.stackBytes_setFrames]; rfl
  · refine ⟨?_, Nat.le_refl _, Nat.le_refl _, ?_, ?_, fun a c9 h9 => ⟨c9, h9, rfl, rfl, fun _ _ => rfl⟩⟩
    · obtain ⟨t, ht, -⟩ := State.frames_cons hr
      show T.setVm s.vm = { ((T.setVm s.vm).setFrames (.invoking m args :: below)).setFrames (T.setVm s.vm).frames with heap := T.heap, slotsUsed := T.slotsUsed }
      rw [State.setFrames_setFrames, State.setFrames_self ht]
      rfl
    · show T.slotsUsed = T.slotsUsed + ((T.heap.toList.drop T.heap.size).map (·.slots.size)).sum
      rw [List.drop_eq_nil_of_le (Nat.le_of_eq Array.length_toList)]
      rfl
    · show ((T.heap.toList.drop T.heap.size).map (·.slots.size)).sum ≤ 0
      rw [List.drop_eq_nil_of_le (Nat.le_of_eq Array.length_toList)]
      exact Nat.le_refl _
/-- 'throw new E()': new; dup; invokespecial; athrow -/
theorem vx_throw0 {cc : ByteArray} {pc : Nat} (hexec : p.tables.exec = Jvm.exec) (hb : c.code = cc) (hl : l.stackTraces = false) {own cls : String} {names : List String} {ik ic mc ms : Nat} {A : Nat → Prop}
    (hown : s.vm.findClass own = some m.cls) (hcls : Bundle.fit cls = true) (hnames : ∀ n ∈ names, Bundle.fit n = true)
    (hk : (Cond.classLink own ik cls).before args s = true) (hini : (Cond.initialized cls).before args s = true) (hat : ∀ w ∈ vx_at0 own ic cls names, w.before args s = true)
    (hgood : ∀ w ∈ Cond.classLink own ik cls :: Cond.initialized cls :: vx_at0 own ic cls names, vx_ot w = true)
    (hU : vx_Zq Bundle.tN "UNASSIGNED_STACK" Bundle.steD A s s.heap) (hN : vx_Zq Bundle.tN "SUPPRESSED_SENTINEL" Bundle.listD A s s.heap) (hS : va_S A s.heap H locs) (hsize : ls.size = c.maxLocals)
    (d0 : decode cc pc = .ok (.new ik, 3)) (d3 : decode cc (pc + 3) = .ok (.dup, 1)) (d4 : decode cc (pc + 4) = .ok (.invokespecial ic, 3)) (d7 : decode cc (pc + 7) = .ok (.athrow, 1))
    (hout : ∀ x ∈ c.exceptionTable.toList, covers x (pc + 7) = false)
    (hRframes : names.length + 3 < R.frames) (hRlocals : (rest.map fun v => v.category).sum + (13 * (names.length + 1) + 42) ≤ R.locals) (hRcells : cells + 1 ≤ R.cells) (hRslots : slots + 6 ≤ R.slots) (hlocks : meth.locks = false)
    (hx : ∀ t : State, s.vm.Alike t.vm → H.size ≤ t.heap.size → (∀ q : Nat, q < H.size → t.heap[q]? = H[q]?) → XC cls s t)
    (hf : ∀ z ∈ locs, free z.base) (hc : cells + 1 ≤ mc) (hs : slots + 6 ≤ ms) :
    W p l e R s m args below meth c H locs cells slots (vx_MQ below Qc XC args s mc ms free) (F0 m pc ls rest) := by
  intro T hT X
  have htr : e.platform.stackTraces = false := (show e.platform.stackTraces = l.stackTraces by rw [X.admits.platform]).trans hl
  have Y := vx_rebase X (R' := { frames := R.frames, locals := R.locals, cells := 1, slots := 6 }) (Nat.le_refl _) (Nat.le_refl _) hRcells hRslots
  obtain ⟨s', hA⟩ : ∃ z, z = (T.setVm s.vm).setFrames (.invoking m args :: below) := ⟨_, rfl⟩
  rw [← hA] at Y
  have hvm : s'.vm = s.vm := by rw [hA]; rfl
  have hhp : s'.heap = H := by rw [hA]; exact hT
  have hW0 : s.WarmedH s'.vm := by rw [hvm]; exact State.WarmedH.refl s
  have hat' : ∀ w ∈ vx_at0 own ic cls names, w.before args s' = true := fun w hw => vx_ot_at hW0 hvm.symm (hgood w (List.mem_cons_of_mem _ (List.mem_cons_of_mem _ hw))) (hat w hw)
  have hk' : (Cond.classLink own ik cls).before args s' = true := vx_ot_at hW0 hvm.symm (hgood _ List.mem_cons_self) hk
  have hini' : (Cond.initialized cls).before args s' = true := vx_ot_at hW0 hvm.symm (hgood _ (List.mem_cons_of_mem _ List.mem_cons_self)) hini
  have hU' : vx_Zq Bundle.tN "UNASSIGNED_STACK" Bundle.steD A s' s'.heap := by rw [hhp]; exact vx_Zq.moved hW0.alike (hU.kept hS.2.1)
  have hN' : vx_Zq Bundle.tN "SUPPRESSED_SENTINEL" Bundle.listD A s' s'.heap := by rw [hhp]; exact vx_Zq.moved hW0.alike (hN.kept hS.2.1)
  have h : ∀ w ∈ Bundle.ownAtoms0 own ic cls names, w.before args s' = true := vx_own hat' (vx_isRefq hU'.1) (vx_isRefq hN'.1) hU'.2.word hN'.2.word
  have hown' : s'.vm.findClass own = some m.cls := by rw [hvm]; exact hown
  have hins : (Cond.instantiable cls 6).before args s' = true := h _ (by simp [Bundle.ownAtoms0])
  obtain ⟨vm₁, cX, kX, hfX, hkX, -, -, X₁, st1⟩ := Y.newCold hexec (own := own) (C := cls) (index := ik) (n := 6) hown' hk' hins hini'
    (g := F0 m pc ls rest) rfl (by rw [hb]; exact d0) (Nat.le_refl _) (Nat.le_refl _)
  generalize hT1 : (T.setVm vm₁).pushCell { cls := cX, slots := kX.instanceTypes.map defaultValue, vm := .none } = T1 at X₁ st1
  have hcat : (Value.ref T.heap.size).category = 1 := rfl
  have hcellA : T1.heap[T.heap.size]? = some (freshCell cX kX) := by rw [← hT1]; exact State.heap_pushCell_size _ _
  have d3' : decode c.code (pc + 3) = .ok (.dup, 1) := by rw [hb]; exact d3
  obtain ⟨U, hsteps, hrun, hend, hW, hsame, ce, hce, hO⟩ := X₁.ctorThrow0 hexec htr (own := own) (cls := cls) (names := names) (ic := ic) hown' hcls hnames h (fun x hx => nomatch hx) hfX hkX hcellA (by rw [hhp, hT]; exact Nat.le_refl _)
    (g := { method := m, pc := pc + 4, locals := ls, stack := .ref T.heap.size :: .ref T.heap.size :: rest, locked := none }) rfl hsize rfl rfl (rest := rest) rfl
    (by rw [hb]; exact d4) (by rw [hb]; exact d7) hout hRframes (by simp only [List.map_cons, List.sum_cons, hcat]; omega) hlocks
  obtain ⟨f1, f2⟩ := vx_frame hsame
  rw [hhp] at f1 f2
  have hWs : s.WarmedH U.vm := State.WarmedH.trans hW0 hW
  have hcl : s.vm.findClass cls = some ce.cls := by
    have h9 := hO.cls
    rw [hvm] at h9
    exact h9
  have hall : s.sameButNew ({ U with vm := s.vm } : State) locs mc ms := by
    subst hA
    obtain ⟨e1, e2⟩ := hsame
    rw [State.setFrames_setFrames] at e1
    have h2 : (T.setVm s.vm).sameButNew ({ U with vm := s.vm } : State) [] (0 + 1) (0 + 6) := ⟨e1, e2⟩
    have h3 := X.same.trans h2
    rw [List.append_nil] at h3
    exact h3.mono hc hs
  refine ⟨U, ?_, .threw T.heap.size, hrun, hend, Or.inr ⟨T.heap.size, rfl, cls, ce, locs, hx U hWs.alike f1 (fun q hq => f2 q hq (fun z hz => nomatch hz)), hce, hO.vm, hcl, hWs, hall, hf⟩⟩
  refine st1 _ ?_
  show Steps p.tables e below (T1.setTop { method := m, pc := pc + 3, locals := ls, stack := .ref T.heap.size :: rest, locked := none }) _
  jvm_step X₁.here [X₁.here.top, hexec, d3', Value.category]
  exact hsteps
/-- 'throw new E("text")': new; dup; ldc; invokespecial; athrow -/
theorem vx_throwS {cc : ByteArray} {pc : Nat} (hexec : p.tables.exec = Jvm.exec) (hb : c.code = cc) (hl : l.stackTraces = false) {own cls text : String} {names : List String} {ik is ic mc ms sa : Nat} {A : Nat → Prop}
    (hown : s.vm.findClass own = some m.cls) (hcls : Bundle.fit cls = true) (hnames : ∀ n ∈ names, Bundle.fit n = true)
    (hk : (Cond.classLink own ik cls).before args s = true) (hini : (Cond.initialized cls).before args s = true) (hstr : vk_R own is text sa s) (hat : ∀ w ∈ vx_atS own ic cls names, w.before args s = true)
    (hgood : ∀ w ∈ Cond.classLink own ik cls :: Cond.initialized cls :: vx_atS own ic cls names, vx_ot w = true)
    (hU : vx_Zq Bundle.tN "UNASSIGNED_STACK" Bundle.steD A s s.heap) (hN : vx_Zq Bundle.tN "SUPPRESSED_SENTINEL" Bundle.listD A s s.heap) (hS : va_S A s.heap H locs) (hsize : ls.size = c.maxLocals)
    (d0 : decode cc pc = .ok (.new ik, 3)) (d3 : decode cc (pc + 3) = .ok (.dup, 1)) (d4 : decode cc (pc + 4) = .ok (.ldc is, 2)) (d6 : decode cc (pc + 6) = .ok (.invokespecial ic, 3)) (d9 : decode cc (pc + 9) = .ok (.athrow, 1))
    (hout : ∀ x ∈ c.exceptionTable.toList, covers x (pc + 9) = false)
    (hRframes : names.length + 3 < R.frames) (hRlocals : (rest.map fun v => v.category).sum + (13 * (names.length + 1) + 43) ≤ R.locals) (hRcells : cells + 1 ≤ R.cells) (hRslots : slots + 6 ≤ R.slots) (hlocks : meth.locks = false)
    (hx : ∀ t : State, s.vm.Alike t.vm → H.size ≤ t.heap.size → (∀ q : Nat, q < H.size → t.heap[q]? = H[q]?) → XC cls s t)
    (hf : ∀ z ∈ locs, free z.base) (hc : cells + 1 ≤ mc) (hs : slots + 6 ≤ ms) :
    W p l e R s m args below meth c H locs cells slots (vx_MQ below Qc XC args s mc ms free) (F0 m pc ls rest) := by
  intro T hT X
  have htr : e.platform.stackTraces = false := (show e.platform.stackTraces = l.stackTraces by rw [X.admits.platform]).trans hl
  have Y := vx_rebase X (R' := { frames := R.frames, locals := R.locals, cells := 1, slots := 6 }) (Nat.le_refl _) (Nat.le_refl _) hRcells hRslots
  obtain ⟨s', hA⟩ : ∃ z, z = (T.setVm s.vm).setFrames (.invoking m args :: below) := ⟨_, rfl⟩
  rw [← hA] at Y
  have hvm : s'.vm = s.vm := by rw [hA]; rfl
  have hhp : s'.heap = H := by rw [hA]; exact hT
  have hW0 : s.WarmedH s'.vm := by rw [hvm]; exact State.WarmedH.refl s
  have hat' : ∀ w ∈ vx_atS own ic cls names, w.before args s' = true := fun w hw => vx_ot_at hW0 hvm.symm (hgood w (List.mem_cons_of_mem _ (List.mem_cons_of_mem _ hw))) (hat w hw)
  have hk' : (Cond.classLink own ik cls).before args s' = true := vx_ot_at hW0 hvm.symm (hgood _ List.mem_cons_self) hk
  have hini' : (Cond.initialized cls).before args s' = true := vx_ot_at hW0 hvm.symm (hgood _ (List.mem_cons_of_mem _ List.mem_cons_self)) hini
  have hU' : vx_Zq Bundle.tN "UNASSIGNED_STACK" Bundle.steD A s' s'.heap := by rw [hhp]; exact vx_Zq.moved hW0.alike (hU.kept hS.2.1)
  have hN' : vx_Zq Bundle.tN "SUPPRESSED_SENTINEL" Bundle.listD A s' s'.heap := by rw [hhp]; exact vx_Zq.moved hW0.alike (hN.kept hS.2.1)
  have h : ∀ w ∈ Bundle.ownAtoms own ic cls names, w.before args s' = true := vx_own hat' (vx_isRefq hU'.1) (vx_isRefq hN'.1) hU'.2.word hN'.2.word
  have hown' : s'.vm.findClass own = some m.cls := by rw [hvm]; exact hown
  have hins : (Cond.instantiable cls 6).before args s' = true := h _ (by simp [Bundle.ownAtoms])
  obtain ⟨vm₁, cX, kX, hfX, hkX, -, -, X₁, st1⟩ := Y.newCold hexec (own := own) (C := cls) (index := ik) (n := 6) hown' hk' hins hini'
    (g := F0 m pc ls rest) rfl (by rw [hb]; exact d0) (Nat.le_refl _) (Nat.le_refl _)
  generalize hT1 : (T.setVm vm₁).pushCell { cls := cX, slots := kX.instanceTypes.map defaultValue, vm := .none } = T1 at X₁ st1
  have hcat : (Value.ref T.heap.size).category = 1 := rfl
  have hcellA : T1.heap[T.heap.size]? = some (freshCell cX kX) := by rw [← hT1]; exact State.heap_pushCell_size _ _
  have d3' : decode c.code (pc + 3) = .ok (.dup, 1) := by rw [hb]; exact d3
  have d4' : decode c.code (pc + 4) = .ok (.ldc is, 2) := by rw [hb]; exact d4
  have hstr' : vk_R own is text sa s' := vk_R.warm hW0 hstr
  obtain ⟨U, hsteps, hrun, hend, hW, hsame, ce, hce, hO⟩ := X₁.ctorThrowS hexec htr (own := own) (cls := cls) (names := names) (ic := ic) hown' hcls hnames h (fun x hx => nomatch hx) hfX hkX hcellA (by rw [hhp, hT]; exact Nat.le_refl _) (msg := .ref sa) rfl
    (g := { method := m, pc := pc + 6, locals := ls, stack := .ref sa :: .ref T.heap.size :: .ref T.heap.size :: rest, locked := none }) rfl hsize rfl rfl (rest := rest) rfl
    (by rw [hb]; exact d6) (by rw [hb]; exact d9) hout hRframes (by simp only [List.map_cons, List.sum_cons, hcat]; omega) hlocks
  obtain ⟨f1, f2⟩ := vx_frame hsame
  rw [hhp] at f1 f2
  have hWs : s.WarmedH U.vm := State.WarmedH.trans hW0 hW
  have hcl : s.vm.findClass cls = some ce.cls := by
    have h9 := hO.cls
    rw [hvm] at h9
    exact h9
  have hall : s.sameButNew ({ U with vm := s.vm } : State) locs mc ms := by
    subst hA
    obtain ⟨e1, e2⟩ := hsame
    rw [State.setFrames_setFrames] at e1
    have h2 : (T.setVm s.vm).sameButNew ({ U with vm := s.vm } : State) [] (0 + 1) (0 + 6) := ⟨e1, e2⟩
    have h3 := X.same.trans h2
    rw [List.append_nil] at h3
    exact h3.mono hc hs
  refine ⟨U, ?_, .threw T.heap.size, hrun, hend, Or.inr ⟨T.heap.size, rfl, cls, ce, locs, hx U hWs.alike f1 (fun q hq => f2 q hq (fun z hz => nomatch hz)), hce, hO.vm, hcl, hWs, hall, hf⟩⟩
  refine st1 _ ?_
  show Steps p.tables e below (T1.setTop { method := m, pc := pc + 3, locals := ls, stack := .ref T.heap.size :: rest, locked := none }) _
  jvm_step X₁.here [X₁.here.top, hexec, d3', Value.category]
  exact X₁.ldcString hexec (own := own) (text := text) (index := is) (a := sa) hown' hstr'.1 hstr'.2
    (g := { method := m, pc := pc + 4, locals := ls, stack := .ref T.heap.size :: .ref T.heap.size :: rest, locked := none }) rfl d4' _ hsteps
/-- 'throw new E("text")', the text by a wide index -/
theorem vx_throwSW {cc : ByteArray} {pc : Nat} (hexec : p.tables.exec = Jvm.exec) (hb : c.code = cc) (hl : l.stackTraces = false) {own cls text : String} {names : List String} {ik is ic mc ms sa : Nat} {A : Nat → Prop}
    (hown : s.vm.findClass own = some m.cls) (hcls : Bundle.fit cls = true) (hnames : ∀ n ∈ names, Bundle.fit n = true)
    (hk : (Cond.classLink own ik cls).before args s = true) (hini : (Cond.initialized cls).before args s = true) (hstr : vk_R own is text sa s) (hat : ∀ w ∈ vx_atS own ic cls names, w.before args s = true)
    (hgood : ∀ w ∈ Cond.classLink own ik cls :: Cond.initialized cls :: vx_atS own ic cls names, vx_ot w = true)
    (hU : vx_Zq Bundle.tN "UNASSIGNED_STACK" Bundle.steD A s s.heap) (hN : vx_Zq Bundle.tN "SUPPRESSED_SENTINEL" Bundle.listD A s s.heap) (hS : va_S A s.heap H locs) (hsize : ls.size = c.maxLocals)
    (d0 : decode cc pc = .ok (.new ik, 3)) (d3 : decode cc (pc + 3) = .ok (.dup, 1)) (d4 : decode cc (pc + 4) = .ok (.ldc_w is, 3)) (d7 : decode cc (pc + 7) = .ok (.invokespecial ic, 3)) (d10 : decode cc (pc + 10) = .ok (.athrow, 1))
    (hout : ∀ x ∈ c.exceptionTable.toList, covers x (pc + 10) = false)
    (hRframes : names.length + 3 < R.frames) (hRlocals : (rest.map fun v => v.category).sum + (13 * (names.length + 1) + 43) ≤ R.locals) (hRcells : cells + 1 ≤ R.cells) (hRslots : slots + 6 ≤ R.slots) (hlocks : meth.locks = false)
    (hx : ∀ t : State, s.vm.Alike t.vm → H.size ≤ t.heap.size → (∀ q : Nat, q < H.size → t.heap[q]? = H[q]?) → XC cls s t)
    (hf : ∀ z ∈ locs, free z.base) (hc : cells + 1 ≤ mc) (hs : slots + 6 ≤ ms) :
    W p l e R s m args below meth c H locs cells slots (vx_MQ below Qc XC args s mc ms free) (F0 m pc ls rest) := by
  intro T hT X
  have htr : e.platform.stackTraces = false := (show e.platform.stackTraces = l.stackTraces by rw [X.admits.platform]).trans hl
  have Y := vx_rebase X (R' := { frames := R.frames, locals := R.locals, cells := 1, slots := 6 }) (Nat.le_refl _) (Nat.le_refl _) hRcells hRslots
  obtain ⟨s', hA⟩ : ∃ z, z = (T.setVm s.vm).setFrames (.invoking m args :: below) := ⟨_, rfl⟩
  rw [← hA] at Y
  have hvm : s'.vm = s.vm := by rw [hA]; rfl
  have hhp : s'.heap = H := by rw [hA]; exact hT
  have hW0 : s.WarmedH s'.vm := by rw [hvm]; exact State.WarmedH.refl s
  have hat' : ∀ w ∈ vx_atS own ic cls names, w.before args s' = true := fun w hw => vx_ot_at hW0 hvm.symm (hgood w (List.mem_cons_of_mem _ (List.mem_cons_of_mem _ hw))) (hat w hw)
  have hk' : (Cond.classLink own ik cls).before args s' = true := vx_ot_at hW0 hvm.symm (hgood _ List.mem_cons_self) hk
  have hini' : (Cond.initialized cls).before args s' = true := vx_ot_at hW0 hvm.symm (hgood _ (List.mem_cons_of_mem _ List.mem_cons_self)) hini
  have hU' : vx_Zq Bundle.tN "UNASSIGNED_STACK" Bundle.steD A s' s'.heap := by rw [hhp]; exact vx_Zq.moved hW0.alike (hU.kept hS.2.1)
  have hN' : vx_Zq Bundle.tN "SUPPRESSED_SENTINEL" Bundle.listD A s' s'.heap := by rw [hhp]; exact vx_Zq.moved hW0.alike (hN.kept hS.2.1)
  have h : ∀ w ∈ Bundle.ownAtoms own ic cls names, w.before args s' = true := vx_own hat' (vx_isRefq hU'.1) (vx_isRefq hN'.1) hU'.2.word hN'.2.word
  have hown' : s'.vm.findClass own = some m.cls := by rw [hvm]; exact hown
  have hins : (Cond.instantiable cls 6).before args s' = true := h _ (by simp [Bundle.ownAtoms])
  obtain ⟨vm₁, cX, kX, hfX, hkX, -, -, X₁, st1⟩ := Y.newCold hexec (own := own) (C := cls) (index := ik) (n := 6) hown' hk' hins hini'
    (g := F0 m pc ls rest) rfl (by rw [hb]; exact d0) (Nat.le_refl _) (Nat.le_refl _)
  generalize hT1 : (T.setVm vm₁).pushCell { cls := cX, slots := kX.instanceTypes.map defaultValue, vm := .none } = T1 at X₁ st1
  have hcat : (Value.ref T.heap.size).category = 1 := rfl
  have hcellA : T1.heap[T.heap.size]? = some (freshCell cX kX) := by rw [← hT1]; exact State.heap_pushCell_size _ _
  have d3' : decode c.code (pc + 3) = .ok (.dup, 1) := by rw [hb]; exact d3
  have d4' : decode c.code (pc + 4) = .ok (.ldc_w is, 3) := by rw [hb]; exact d4
  have hstr' : vk_R own is text sa s' := vk_R.warm hW0 hstr
  obtain ⟨U, hsteps, hrun, hend, hW, hsame, ce, hce, hO⟩ := X₁.ctorThrowS hexec htr (own := own) (cls := cls) (names := names) (ic := ic) hown' hcls hnames h (fun x hx => nomatch hx) hfX hkX hcellA (by rw [hhp, hT]; exact Nat.le_refl _) (msg := .ref sa) rfl
    (g := { method := m, pc := pc + 7, locals := ls, stack := .ref sa :: .ref T.heap.size :: .ref T.heap.size :: rest, locked := none }) rfl hsize rfl rfl (rest := rest) rfl
    (by rw [hb]; exact d7) (by rw [hb]; exact d10) hout hRframes (by simp only [List.map_cons, List.sum_cons, hcat]; omega) hlocks
  obtain ⟨f1, f2⟩ := vx_frame hsame
  rw [hhp] at f1 f2
  have hWs : s.WarmedH U.vm := State.WarmedH.trans hW0 hW
  have hcl : s.vm.findClass cls = some ce.cls := by
    have h9 := hO.cls
    rw [hvm] at h9
    exact h9
  have hall : s.sameButNew ({ U with vm := s.vm } : State) locs mc ms := by
    subst hA
    obtain ⟨e1, e2⟩ := hsame
    rw [State.setFrames_setFrames] at e1
    have h2 : (T.setVm s.vm).sameButNew ({ U with vm := s.vm } : State) [] (0 + 1) (0 + 6) := ⟨e1, e2⟩
    have h3 := X.same.trans h2
    rw [List.append_nil] at h3
    exact h3.mono hc hs
  refine ⟨U, ?_, .threw T.heap.size, hrun, hend, Or.inr ⟨T.heap.size, rfl, cls, ce, locs, hx U hWs.alike f1 (fun q hq => f2 q hq (fun z hz => nomatch hz)), hce, hO.vm, hcl, hWs, hall, hf⟩⟩
  refine st1 _ ?_
  show Steps p.tables e below (T1.setTop { method := m, pc := pc + 3, locals := ls, stack := .ref T.heap.size :: rest, locked := none }) _
  jvm_step X₁.here [X₁.here.top, hexec, d3', Value.category]
  exact X₁.ldcStringW hexec (own := own) (text := text) (index := is) (a := sa) hown' hstr'.1 hstr'.2
    (g := { method := m, pc := pc + 4, locals := ls, stack := .ref T.heap.size :: .ref T.heap.size :: rest, locked := none }) rfl d4' _ hsteps
end Ends
section Bodies
variable {l : Launch}
theorem vx_ofW {y : MethodName} {ws ws' : List Cond} {rm : Room} {Pc : Array Value → State → Prop} {Qc : Array Value → State → Outcome → State → Prop} {XC : String → State → State → Prop} {mc ms : Nat} {free : Addr → Prop} {cc : ByteArray} {maxL : Nat} {ret : Option FieldType}
    (hy : plainName y.cls = true) (hw : ws = Cond.code y cc maxL ret :: ws')
    (body : ∀ p e s m args below meth c s₁, BodyLoose p l y (headSpec ws rm) cc maxL ret e s m args below meth c s₁ → c.maxLocals = maxL → (∀ x ∈ c.exceptionTable.toList, False) → Pc args s →
      W p l e (headSpec ws rm).room s m args below meth c s.heap [] 0 0 (vx_MQ below Qc XC args s mc ms free) (entryFrame m args maxL)) : vx_Met l y ws rm Pc Qc XC mc ms free := by
  refine MetFree.of_bodyS (code := cc) (maxLocals := maxL) (ret := ret) hy ?_ ?_
  · intro args s m h hn
    obtain ⟨meth, c, h1, h2, h3, h4, h5, h6, -, -⟩ := Cond.code_spec hn (atoms_spec (ws := ws) h _ (by rw [hw]; exact List.mem_cons_self))
    exact ⟨meth, c, h1, h2, h3, h4, h5, h6⟩
  · intro p e s m args below meth c s₁ B hml hP _
    have hh0 : s₁.heap = s.heap := by rw [B.state]; rfl
    have ht : ∀ x ∈ c.exceptionTable.toList, False := by
      obtain ⟨meth9, c9, h1, h2, -, -, -, -, h7, -⟩ := Cond.code_spec B.named (atoms_spec (ws := ws) B.pre _ (by rw [hw]; exact List.mem_cons_self))
      cases Option.some.inj (h1.symm.trans B.method)
      cases Option.some.inj (h2.symm.trans (Stand.of_body B).code)
      intro x hx
      rw [Array.isEmpty_iff.mp h7] at hx
      cases hx
    obtain ⟨t, a1, o, b1, b2, b3⟩ := body p e s m args below meth c s₁ B hml ht hP s₁ hh0 (Stand.of_body B)
    exact ⟨t, o, a1, b1, b2, b3⟩
/-- the table of a body with handlers -/
theorem vx_table {p : Program} {x y : MethodName} {S : Spec} {cc bytes : ByteArray} {maxL maxL' : Nat} {ret ret' : Option FieldType} {e : Env} {s s₁ : State} {m : MethodId} {args : Array Value} {below : List Frame} {meth : Method} {c : Code} {hh : List (Nat × Nat × Nat × Nat)}
    (B : BodyLoose p l y S cc maxL ret e s m args below meth c s₁) (h : (Cond.codeWith y bytes maxL' ret' hh).before args s = true) : c.exceptionTable.toList = tableOf hh := by
  obtain ⟨m9, meth9, c9, hn9, h1, h2, -, -, h6, -⟩ := Cond.codeWith_spec h
  cases Option.some.inj (hn9.symm.trans B.named)
  cases Option.some.inj (h1.symm.trans B.method)
  cases Option.some.inj (h2.symm.trans (Stand.of_body B).code)
  rw [← h6, table_eq]
end Bodies
end VXA
/-! ===== END ===== -/
/-! ===== BEGIN a static call of a method with an exception table ===== -/
section VXS
variable {p : Program} {l : Launch} {e : Env} {R : Room} {s : State} {m : MethodId} {args : Array Value} {below : List Frame} {meth : Method} {c : Code} {T : State} {H : Heap} {locs : List Loc} {cells slots : Nat}
abbrev vx_CSW (R : Room) (s : State) (args : Array Value) (own : String) (index : Nat) (y : MethodName) (bytes : ByteArray) (maxL : Nat) (ret : Option FieldType) (hh : List (Nat × Nat × Nat × Nat)) (ws : List Cond) (rm : Room) (mc ms n : Nat) : Prop :=
  (rm.cells = mc ∧ rm.slots = ms ∧ rm.frames + 1 ≤ R.frames ∧ 8 + (maxL + 11) + rm.locals ≤ R.locals ∧ (∀ w ∈ ws, ∀ (a' : Array Value) (U : State), s.WarmedH U.vm → w.before a' U = true) ∧ Cond.codeWith y bytes maxL ret hh ∈ ws) ∧
  (Cond.codeWith y bytes maxL ret hh).before args s = true ∧ (Cond.initialized y.cls).before args s = true ∧ (y.cls ≠ "java/lang/invoke/MethodHandle" ∧ y.cls ≠ "java/lang/invoke/VarHandle") ∧
  (∀ sig, parseMethodDescriptor y.desc = some sig → n = sig.parameters.length) ∧ (Cond.methodLink own index y).before args s = true ∧ (Cond.static y).before args s = true
theorem vx_cwSW {own : String} {index maxL mc ms : Nat} {y : MethodName} {bytes : ByteArray} {ret : Option FieldType} {hh : List (Nat × Nat × Nat × Nat)} {Ts ws ws' : List Cond} {rm : Room} (n : Nat) (ht : ∀ w ∈ Ts, w.before args s = true) (hT : GoodIn Ts (va_wsS own index y ws)) (hw : ws = Cond.codeWith y bytes maxL ret hh :: ws') (hrc : rm.cells = mc) (hrs : rm.slots = ms)
    (hd : y.cls ≠ "java/lang/invoke/MethodHandle" ∧ y.cls ≠ "java/lang/invoke/VarHandle" ∧ (parseMethodDescriptor y.desc).map (fun d => d.parameters.length) = some n) (hR : rm.frames + 1 ≤ R.frames ∧ 8 + (maxL + 11) + rm.locals ≤ R.locals) :
    vx_CSW R s args own index y bytes maxL ret hh ws rm mc ms n := by
  have ok : ∀ w ∈ va_wsS own index y ws, w.before args s = true := fun w h => ht w (hT w h).1
  have hG : GoodIn Ts ws := fun w h => hT w (by unfold va_wsS; exact List.mem_append_right _ h)
  have hc : Cond.codeWith y bytes maxL ret hh ∈ ws := by rw [hw]; exact List.mem_cons_self
  refine ⟨⟨hrc, hrs, hR.1, hR.2, pay_in ht hG, hc⟩, ht _ (hG _ hc).1, ok _ (by simp [va_wsS]), ⟨hd.1, hd.2.1⟩, fun sig h => ?_, ok _ (by simp [va_wsS]), ok _ (by simp [va_wsS])⟩
  have h2 := hd.2.2
  rw [h] at h2
  exact (Option.some.inj h2).symm
theorem vx_callSW (X : Stand p l e R s m args below meth c T locs cells slots) (hexec : p.tables.exec = Jvm.exec) {own : String} {index : Nat} {y : MethodName} {bytes : ByteArray} {maxL : Nat} {ret : Option FieldType} {hh : List (Nat × Nat × Nat × Nat)}
    (hown : s.vm.findClass own = some m.cls) (hlink : (Cond.methodLink own index y).before args s = true) (hstat : (Cond.static y).before args s = true) (hinit : (Cond.initialized y.cls).before args s = true)
    (hcode : (Cond.codeWith y bytes maxL ret hh).before args s = true) (hy : y.cls ≠ "java/lang/invoke/MethodHandle" ∧ y.cls ≠ "java/lang/invoke/VarHandle")
    {W9 : Nat} {Pre : Pt → Array Value → Prop} {Post : Pt → Array Value → Option Value → Pt → Prop} (hK : Back l R p e below s args y 3 W9 Pre Post)
    {g : JFrame} (hg : g.method = m) (hsize : g.locals.size = c.maxLocals) {argsL rest : List Value} (hlen : ∀ sig, parseMethodDescriptor y.desc = some sig → argsL.length = sig.parameters.length)
    (hstack : g.stack = argsL.reverse ++ rest) (hW : 2 * g.monitorRoom + (rest.map fun v => v.category).sum ≤ W9) (hdg : decode c.code g.pc = .ok (.invokestatic index, 3))
    (hpre : ∀ vm₁, s.WarmedH vm₁ → Pre ⟨T.setVm vm₁, locs, cells, slots⟩ argsL.toArray) :
    ∃ (v : Option Value) (vm₁ : Vm) (B : Pt), s.WarmedH vm₁ ∧ Stand p l e R s m args below meth c B.U B.locs B.cells B.slots ∧ Post ⟨T.setVm vm₁, locs, cells, slots⟩ argsL.toArray v B ∧
      ∀ target, Steps p.tables e below (B.U.setTop { g with pc := g.pc + 3, stack := v.toList ++ rest }) target → Steps p.tables e below (T.setTop g) target := by
  obtain ⟨mk, methM, cM, hnamed, hmethM, -, -, -, -, -, -, hsigM⟩ := Cond.codeWith_spec hcode
  have hstatic : methM.isStatic = true := Cond.static_spec hnamed hmethM hstat
  obtain ⟨kP, hkP, -⟩ := className_of_methodNamed hnamed
  have hinitP : kP.init = .initialized := Cond.initialized_spec (findClass_of_methodNamed hnamed) hkP hinit
  obtain ⟨vm₁, X₁, hstep₁⟩ := X.invokestatic hexec hown hlink hnamed hmethM hstatic hkP hinitP hy (g := g) hg (argsL := argsL) (rest := rest) (hlen _ hsigM) hstack hdg
  obtain ⟨v, B, X', hpost, hsteps⟩ := hK m meth c ⟨T.setVm vm₁, locs, cells, slots⟩ { g with stack := rest } (.invokestatic index) mk argsL.toArray X₁ hg hsize hdg hW (X₁.named hnamed) (hpre vm₁ X₁.warmed)
  exact ⟨v, vm₁, B, X₁.warmed, X', hpost, fun target h => hstep₁ _ fun acts => by rw [doInvoke_state]; exact hsteps.trans h⟩
theorem vx_runSW {y : MethodName} {bytes cc : ByteArray} {maxL nL mc ms n index : Nat} {ret : Option FieldType} {hh : List (Nat × Nat × Nat × Nat)} {ws : List Cond} {rm : Room} {Pc : Array Value → State → Prop} {Qc : Array Value → State → Outcome → State → Prop} {free : Addr → Prop} {Ts : List Cond} {own : String} {As rest : List Value} {g : JFrame}
    (S : CallFix p m c cc nL s args Ts own) (hM : Met l y ws rm Pc Qc mc ms free) (cw : vx_CSW R s args own index y bytes maxL ret hh ws rm mc ms n) (hp : PreS s H Pc As)
    (hg : g.method = m) (hn : As.length = n) (hsize : g.locals.size = nL) (hstack : g.stack = As.reverse ++ rest) (hW : 2 * g.monitorRoom + (rest.map fun v => v.category).sum ≤ 8) (hdg : decode cc g.pc = .ok (.invokestatic index, 3)) (hf : cells + mc ≤ R.cells ∧ slots + ms ≤ R.slots) :
    va_Run p l e R s m args below meth c H locs cells slots mc ms g rest (Qc As.toArray) (free) := by
  obtain ⟨⟨hrc, hrs, hfr, hlo, hws, hcw⟩, hcode, hini, hy, hlen, hl, hstt⟩ := cw
  have hK : Back l R p e below s args y 3 8 (PreOf R mc ms Pc) (PostOf Qc mc ms free) := va_backW (hh := hh) (bytes := bytes) (maxL := maxL) (ret := ret) hM hp.1 hrc hrs hfr hlo hws hcw (fun a' U hW => word_at hW (Or.inl (by first | rfl | simp [Cond.onTables, Cond.keeps, Cond.steady])) hini)
  obtain ⟨hx, hb, hml, ho, -⟩ := S
  intro T hT X
  obtain ⟨v, vm₁, ⟨U', l2, c2, s2⟩, hW₁, X', ⟨g', mk, t, L, e1, e2, hq, h1, hL, h2, h3⟩, st⟩ := vx_callSW X hx (hh := hh) (bytes := bytes) (maxL := maxL) (ret := ret) ho hl hstt hini hcode hy hK hg (hsize.trans hml.symm) (argsL := As) (rest := rest) (fun sig h => hn.trans (hlen sig h)) hstack hW (by rw [hb]; exact hdg)
    (fun vm₁ hW₁ => ⟨hf.1, hf.2, hp.2 (T.setVm vm₁) hT hW₁⟩)
  dsimp only [Pt.U, Pt.locs, Pt.cells, Pt.slots] at X' e1 e2 h1 h2 h3 st
  subst h1; subst h2; subst h3
  exact ⟨v, (T.setVm vm₁).calling g' mk As.toArray, t, U', L, hT, X', hL, e1, e2, hq, st⟩
/-- not caught here, past rows that name other classes: it goes on to the caller -/
theorem vx_outP {p : Program} {l : Launch} {e : Env} {R : Room} {s : State} {m : MethodId} {args : Array Value} {below : List Frame} {meth : Method} {c : Code} {H : Heap} {locs : List Loc} {cells slots : Nat} {free : Addr → Prop} {ls : Array Slot} {rest : List Value} {Qc : Array Value → State → Outcome → State → Prop} {XC : String → State → State → Prop}
    {pc : Nat} {own E : String} {ce : Cell} {q : Addr} {mc ms : Nat} (hown : s.vm.findClass own = some m.cls) (hlocks : meth.locks = false)
    (hpass : ∀ z ∈ c.exceptionTable.toList, covers z pc = false ∨ (z.catchType ≠ 0 ∧ ∃ nm : String, (Cond.classLink own z.catchType nm).before args s = true ∧ va_Nc E nm s)) (hcell : H[q]? = some ce) (hv : ce.vm = .none) (hcl : s.vm.findClass E = some ce.cls)
    (hx : ∀ t : State, t.heap = H → s.vm.Alike t.vm → XC E s t) (hf : ∀ z ∈ locs, free z.base) (hc : cells ≤ mc) (hs : slots ≤ ms) :
    vx_W p l e R s m args below meth c H locs cells slots (vx_MQ below Qc XC args s mc ms free) (F0 m pc ls rest) q := by
  intro T hT X
  have hpl : e.platform.magicAccessors = ({} : Platform).magicAccessors := by rw [X.admits.platform]
  obtain ⟨vm', hW', X', st⟩ := X.outThrough hlocks q (g := F0 m pc ls rest) rfl rfl rfl (cell := ce) (by rw [hT]; exact hcell) (by rw [hv]; rfl)
    (by obtain ⟨k9, h9, -⟩ := Vm.findClass_spec hcl; exact ⟨k9, h9⟩) (fun z hz => by
      rcases hpass z hz with h | ⟨hz0, nm, hl1, hn1⟩
      · exact Or.inl h
      · obtain ⟨c6, hc6, hcl6⟩ := Cond.classLink_spec hown hl1 e.platform hpl
        obtain ⟨a8, b8, h1, h2, h3⟩ := hn1
        cases Option.some.inj (h1.symm.trans hcl)
        cases Option.some.inj (h2.symm.trans hc6)
        exact Or.inr ⟨hz0, _, hcl6, h3⟩)
  obtain ⟨g₀, hfr⟩ := X'.frames_eq
  have hcell9 : ((T.setVm vm').setFrames (.throwing q :: below)).heap[q]? = some ce := by
    show T.heap[q]? = some ce
    rw [hT]; exact hcell
  have hend : Ended ((T.setVm vm').setFrames (.throwing q :: below)) below (.threw q) := State.frames_setFrames _ (State.cur_lt_of_frames hfr)
  refine ⟨(T.setVm vm').setFrames (.throwing q :: below), ?_, .threw q, X'.here.running, hend, Or.inr ⟨q, rfl, E, ce, locs, hx _ hT (X'.ends _).1.alike, hcell9, hv, hcl, (X'.ends _).1, (X'.ends _).2.mono hc hs, hf⟩⟩
  rw [X.pushThrowing_eq]
  exact st
/-- a thing of a world lies in the heap -/
theorem vx_lt {D : va_G} {cl : List vw_C} {ws : va_W} {H1 : Heap} (h : va_P D cl ws H1) {k : Nat} {q : Nat × va_E} (hk : ws[k]? = some q) : q.1 < H1.size := (h k q hk).lt
end VXS
/-! ===== END ===== -/
/-! ===== BEGIN methods with a table of their own: called by a name, returning or throwing ===== -/
section VXH
/-! vx_backW, vx_callVX, vx_callSX, vx_callVW, vx_runVW, vx_runVX, vx_runSX, vx_ofWH follow the same proofs as their sisters above (Free/Laws.lean, Shelf42/LK1.lean); vx_outP calls Shelf42/NT130.lean (outThrough). -/
section
variable {l : Launch} {R : Room} {p : Program} {e : Env} {below : List Frame} {s : State} {sargs : Array Value} {y : MethodName} {len W9 : Nat}
theorem vx_backW {ws : List Cond} {rm : Room} {Pc : Array Value → State → Prop} {Qc : Array Value → State → Outcome → State → Prop} {XC : String → State → State → Prop} {mc ms : Nat} {free : Addr → Prop} {bytes : ByteArray} {maxL : Nat} {ret : Option FieldType} {hh : List (Nat × Nat × Nat × Nat)}
    (hM : vx_Met l y ws rm Pc Qc XC mc ms free) (hblind : FrameBlind Pc) (hrc : rm.cells = mc) (hrs : rm.slots = ms)
    (hframes : rm.frames + 1 ≤ R.frames) (hlocals : W9 + (maxL + 11) + rm.locals ≤ R.locals)
    (hws : ∀ w ∈ ws, ∀ a' U, s.WarmedH U.vm → w.before a' U = true) (hcode : Cond.codeWith y bytes maxL ret hh ∈ ws) (hinit : ∀ a' U, s.WarmedH U.vm → (Cond.initialized y.cls).before a' U = true) :
    vx_Back l R p e below s sargs y len W9 (PreOf R mc ms Pc) (PostOf Qc mc ms free) (vx_Post XC mc ms free) := by
  intro m meth c A g ig mk a X hg hsize hdg hW hn hp
  have h1 : (headSpec ws rm).pre.before a A.U = true := atoms_intro fun w hw => hws w hw _ _ X.warmed
  have h2 : (Cond.codeWith y bytes maxL ret hh).before a A.U = true := hws _ hcode _ _ X.warmed
  have h3 : (Cond.initialized y.cls).before a A.U = true := hinit _ _ X.warmed
  have h4 : A.cells + (headSpec ws rm).room.cells ≤ R.cells := by rw [show (headSpec ws rm).room.cells = mc from hrc]; exact hp.1
  have h5 : A.slots + (headSpec ws rm).room.slots ≤ R.slots := by rw [show (headSpec ws rm).room.slots = ms from hrs]; exact hp.2.1
  have hPc : Pc a (A.U.calling g mk a) := hblind _ _ _ _ hp.2.2
  obtain ⟨U, Ls, c0, s0⟩ := A
  dsimp only [Pt.U, Pt.locs, Pt.cells, Pt.slots] at h1 h2 h3 h4 h5 X hn hPc ⊢
  obtain ⟨m9, methY, cY, hn9, hmY, hcY, -, hlY, -⟩ := Cond.codeWith_spec h2
  cases Option.some.inj (hn9.symm.trans hn)
  obtain ⟨kY, hkY, -⟩ := className_of_methodNamed hn
  have hinitY : kY.init = .initialized := Cond.initialized_spec (findClass_of_methodNamed hn) hkY h3
  have h : At U g.method c below := by rw [hg]; exact X.here
  have hlocals9 : W9 + (maxL + 11) + (headSpec ws rm).room.locals ≤ R.locals := hlocals
  have happ : (headSpec ws rm).appliesLoose y e.platform (U.calling g mk a) = true :=
    Spec.appliesLoose_calling (g := g) h hdg hn hkY hinitY
      (X.room_calling (g := g) (R' := (headSpec ws rm).room) hsize hmY hcY hframes (by rw [hlY]; omega) h4 h5) h1
  obtain ⟨mid, hmid⟩ := h.above
  have hfr : (U.setTop g).frames = (.java g :: mid) ++ below := by rw [State.frames_setTop' g h.top, hmid]; rfl
  obtain ⟨o, s₂, hsteps, -, hend, hq⟩ := Steps.callFree hM p X.admits X.cas X.clock (acts := []) hfr happ hPc trivial
  have hq' : vx_Q Qc XC mc ms free a (U.calling g mk a) o s₂ := hq
  rw [State.frames_setTop' g h.top] at hend
  obtain ⟨g₀, hg0⟩ := Option.isSome_iff_exists.mp h.top
  obtain ⟨r, hr⟩ := State.topJava?_eq_some.mp hg0
  have hr' : (({ U with heap := s₂.heap, slotsUsed := s₂.slotsUsed } : State).setVm s₂.vm).frames = .java g₀ :: r := hr
  rcases hq' with ⟨hqc, L, hfe, hL⟩ | ⟨q, rfl, E, ce, L, hx, hce, hcv, hcl, hW₂, hsm, hL⟩
  · obtain ⟨⟨v, rfl⟩, hW₂, e2, q2, q3, q4, q5, q6⟩ := id hfe
    have e3 : s₂ = ({ (U.calling g mk a).setFrames s₂.frames with heap := s₂.heap, slotsUsed := s₂.slotsUsed } : State).setVm s₂.vm := by
      have : s₂ = ({ s₂ with vm := (U.calling g mk a).vm } : State).setVm s₂.vm := rfl
      rw [e2] at this
      exact this
    obtain ⟨c₂, i₂, len₂, hc₂, hd₂, hf₂⟩ := hend
    have hW' : U.WarmedH s₂.vm := hW₂
    have hcc : c₂ = c := by
      have h1 : s₂.code? g.method = U.code? g.method := by
        rw [State.code?_eq, State.code?_eq, hW'.alike.method?]
      exact Option.some.inj (hc₂.symm.trans (h1.trans h.code))
    subst hcc
    have hlen : len₂ = len := by rw [hdg] at hd₂; cases hd₂; rfl
    subst hlen
    have hs₂ : s₂ = (({ U with heap := s₂.heap, slotsUsed := s₂.slotsUsed } : State).setVm s₂.vm).setTop { g with pc := g.pc + len₂, stack := v.toList ++ g.stack } := by
      refine e3.trans ?_
      rw [hf₂, State.calling_eq h.top, State.setFrames_setFrames, State.setTop_of_frames _ hr', hr]
      rfl
    have hsame : U.sameButNew ({ U with heap := s₂.heap, slotsUsed := s₂.slotsUsed } : State) L mc ms := by
      refine ⟨?_, q2, q3, q4, q5, q6⟩
      obtain ⟨t, ht, -⟩ := State.frames_cons hr
      show ({ U with heap := s₂.heap, slotsUsed := s₂.slotsUsed } : State) = { U.setFrames U.frames with heap := s₂.heap, slotsUsed := s₂.slotsUsed }
      rw [State.setFrames_self ht]
    subst hg
    refine Or.inl ⟨v, ⟨(({ U with heap := s₂.heap, slotsUsed := s₂.slotsUsed } : State).setVm s₂.vm), Ls ++ L, c0 + mc, s0 + ms⟩,
      ⟨X.admits, X.cas, X.clock, X.frames, X.room, X.hears, X.method, X.code, (X.here.setHeapUsed s₂.heap s₂.slotsUsed).setVm hW'.alike, X.tail, State.WarmedH.trans X.warmed hW', X.limits, X.bytes, X.same.trans (hsame.setVm s.vm)⟩,
      ⟨g, mk, s₂, L, rfl, rfl, hqc, rfl, hL, rfl, rfl⟩, ?_⟩
    show Steps p.tables e below _ ((({ U with heap := s₂.heap, slotsUsed := s₂.slotsUsed } : State).setVm s₂.vm).setTop { g with pc := g.pc + len₂, stack := v.toList ++ g.stack })
    rw [← hs₂]
    exact hsteps
  · obtain ⟨e2, q2, q3, q4, q5, q6⟩ := id hsm
    have e3 : s₂ = ({ (U.calling g mk a).setFrames s₂.frames with heap := s₂.heap, slotsUsed := s₂.slotsUsed } : State).setVm s₂.vm := by
      have : s₂ = ({ s₂ with vm := (U.calling g mk a).vm } : State).setVm s₂.vm := rfl
      rw [e2] at this
      exact this
    have hf₂ : s₂.frames = .throwing q :: .java g :: U.frames.tail := hend
    have hW' : U.WarmedH s₂.vm := hW₂
    have hs₂ : s₂ = ((({ U with heap := s₂.heap, slotsUsed := s₂.slotsUsed } : State).setVm s₂.vm).setTop g).pushFrame (.throwing q) := by
      refine e3.trans ?_
      rw [hf₂, State.calling_eq h.top, State.setFrames_setFrames, State.pushFrame, State.frames_setTop _ hr', State.setTop_of_frames _ hr', State.setFrames_setFrames, hr]
      rfl
    have hsame : U.sameButNew ({ U with heap := s₂.heap, slotsUsed := s₂.slotsUsed } : State) L mc ms := by
      refine ⟨?_, q2, q3, q4, q5, q6⟩
      obtain ⟨t, ht, -⟩ := State.frames_cons hr
      show ({ U with heap := s₂.heap, slotsUsed := s₂.slotsUsed } : State) = { U.setFrames U.frames with heap := s₂.heap, slotsUsed := s₂.slotsUsed }
      rw [State.setFrames_self ht]
    subst hg
    refine Or.inr ⟨q, ⟨(({ U with heap := s₂.heap, slotsUsed := s₂.slotsUsed } : State).setVm s₂.vm), Ls ++ L, c0 + mc, s0 + ms⟩,
      ⟨X.admits, X.cas, X.clock, X.frames, X.room, X.hears, X.method, X.code, (X.here.setHeapUsed s₂.heap s₂.slotsUsed).setVm hW'.alike, X.tail, State.WarmedH.trans X.warmed hW', X.limits, X.bytes, X.same.trans (hsame.setVm s.vm)⟩,
      ⟨g, mk, s₂, L, E, ce, rfl, rfl, hx, hce, hcv, hcl, rfl, hL, rfl, rfl⟩, ?_⟩
    show Steps p.tables e below _ (((({ U with heap := s₂.heap, slotsUsed := s₂.slotsUsed } : State).setVm s₂.vm).setTop g).pushFrame (.throwing q))
    rw [← hs₂]
    exact hsteps
end
variable {p : Program} {l : Launch} {e : Env} {R : Room} {s : State} {m : MethodId} {args : Array Value} {below : List Frame} {meth : Method} {c : Code} {T : State} {H : Heap} {locs : List Loc} {cells slots : Nat}
theorem vx_callVX (X : Stand p l e R s m args below meth c T locs cells slots) (hexec : p.tables.exec = Jvm.exec) {own C : String} {index : Nat} {y : MethodName} {bytes : ByteArray} {maxL : Nat} {ret : Option FieldType} {hh : List (Nat × Nat × Nat × Nat)}
    (hown : s.vm.findClass own = some m.cls) (hlink : (Cond.methodLink own index y).before args s = true) (hinst : (Cond.instanceMethod y).before args s = true) (hsel : (Cond.selects C y y).before args s = true)
    (hcode : (Cond.codeWith y bytes maxL ret hh).before args s = true) (hy : y.cls ≠ "java/lang/invoke/MethodHandle" ∧ y.cls ≠ "java/lang/invoke/VarHandle")
    {W9 : Nat} {Pre : Pt → Array Value → Prop} {Post : Pt → Array Value → Option Value → Pt → Prop} {PostX : Pt → Array Value → Addr → Pt → Prop} (hK : vx_Back l R p e below s args y 3 W9 Pre Post PostX)
    {b : Addr} {cellB : Cell} (hcell : T.heap[b]? = some cellB) (hobj : cellB.vm.isStatics = false) (hcls : s.vm.findClass C = some cellB.cls)
    {g : JFrame} (hg : g.method = m) (hsize : g.locals.size = c.maxLocals) {argsL rest : List Value} (hlen : ∀ sig, parseMethodDescriptor y.desc = some sig → argsL.length = sig.parameters.length)
    (hstack : g.stack = argsL.reverse ++ .ref b :: rest) (hW : 2 * g.monitorRoom + (rest.map fun v => v.category).sum ≤ W9) (hdg : decode c.code g.pc = .ok (.invokevirtual index, 3))
    (hpre : ∀ vm₁, s.WarmedH vm₁ → Pre ⟨T.setVm vm₁, locs, cells, slots⟩ (Value.ref b :: argsL).toArray) :
    (∃ (v : Option Value) (vm₁ : Vm) (B : Pt), s.WarmedH vm₁ ∧ Stand p l e R s m args below meth c B.U B.locs B.cells B.slots ∧ Post ⟨T.setVm vm₁, locs, cells, slots⟩ (Value.ref b :: argsL).toArray v B ∧
      ∀ target, Steps p.tables e below (B.U.setTop { g with pc := g.pc + 3, stack := v.toList ++ rest }) target → Steps p.tables e below (T.setTop g) target) ∨
    (∃ (q : Addr) (vm₁ : Vm) (B : Pt), s.WarmedH vm₁ ∧ Stand p l e R s m args below meth c B.U B.locs B.cells B.slots ∧ PostX ⟨T.setVm vm₁, locs, cells, slots⟩ (Value.ref b :: argsL).toArray q B ∧
      Steps p.tables e below (T.setTop g) ((B.U.setTop { g with stack := rest }).pushFrame (.throwing q))) := by
  obtain ⟨mk, methM, hnamed, hmethM, hstM, habM⟩ := Cond.instanceMethod_spec hinst
  obtain ⟨m8, methM', cM, hn8, hmethM', -, -, -, -, -, -, hsigM⟩ := Cond.codeWith_spec hcode
  cases Option.some.inj (hn8.symm.trans hnamed)
  cases hmethM.symm.trans hmethM'
  obtain ⟨c2, r2, m2, q1, q2, q3, q4, kP, hkP, hkPi⟩ := Cond.selects_spec hsel
  cases hcls.symm.trans q1
  cases (State.methodFound?_of_named hnamed hy).symm.trans q2
  cases hnamed.symm.trans q3
  have hselP : selectMethod e.platform s.vm cellB.cls mk = .method mk := by rw [Launch.admits_selectMethod X.admits]; exact q4
  obtain ⟨vm₁, X₁, hstep₁⟩ := X.invokevirtual hexec hown hlink hnamed hmethM hstM hkP hkPi hy (a := b) (cell := cellB) hcell
    (fun z h => by rw [h] at hobj; cases hobj) hselP hmethM habM hkP hkPi (g := g) hg (argsL := argsL) (rest := rest) (hlen _ hsigM) hstack hdg
  rcases hK m meth c ⟨T.setVm vm₁, locs, cells, slots⟩ { g with stack := rest } (.invokevirtual index) mk (Value.ref b :: argsL).toArray X₁ hg hsize hdg hW (X₁.named hnamed) (hpre vm₁ X₁.warmed) with ⟨v, B, X', hpost, hsteps⟩ | ⟨q, B, X', hpost, hsteps⟩
  · exact Or.inl ⟨v, vm₁, B, X₁.warmed, X', hpost, fun target h => hstep₁ _ fun acts => by rw [doInvoke_state]; exact hsteps.trans h⟩
  · exact Or.inr ⟨q, vm₁, B, X₁.warmed, X', hpost, hstep₁ _ fun acts => by rw [doInvoke_state]; exact hsteps⟩
theorem vx_callSX (X : Stand p l e R s m args below meth c T locs cells slots) (hexec : p.tables.exec = Jvm.exec) {own : String} {index : Nat} {y : MethodName} {bytes : ByteArray} {maxL : Nat} {ret : Option FieldType} {hh : List (Nat × Nat × Nat × Nat)}
    (hown : s.vm.findClass own = some m.cls) (hlink : (Cond.methodLink own index y).before args s = true) (hstat : (Cond.static y).before args s = true) (hinit : (Cond.initialized y.cls).before args s = true)
    (hcode : (Cond.codeWith y bytes maxL ret hh).before args s = true) (hy : y.cls ≠ "java/lang/invoke/MethodHandle" ∧ y.cls ≠ "java/lang/invoke/VarHandle")
    {W9 : Nat} {Pre : Pt → Array Value → Prop} {Post : Pt → Array Value → Option Value → Pt → Prop} {PostX : Pt → Array Value → Addr → Pt → Prop} (hK : vx_Back l R p e below s args y 3 W9 Pre Post PostX)
    {g : JFrame} (hg : g.method = m) (hsize : g.locals.size = c.maxLocals) {argsL rest : List Value} (hlen : ∀ sig, parseMethodDescriptor y.desc = some sig → argsL.length = sig.parameters.length)
    (hstack : g.stack = argsL.reverse ++ rest) (hW : 2 * g.monitorRoom + (rest.map fun v => v.category).sum ≤ W9) (hdg : decode c.code g.pc = .ok (.invokestatic index, 3))
    (hpre : ∀ vm₁, s.WarmedH vm₁ → Pre ⟨T.setVm vm₁, locs, cells, slots⟩ argsL.toArray) :
    (∃ (v : Option Value) (vm₁ : Vm) (B : Pt), s.WarmedH vm₁ ∧ Stand p l e R s m args below meth c B.U B.locs B.cells B.slots ∧ Post ⟨T.setVm vm₁, locs, cells, slots⟩ argsL.toArray v B ∧
      ∀ target, Steps p.tables e below (B.U.setTop { g with pc := g.pc + 3, stack := v.toList ++ rest }) target → Steps p.tables e below (T.setTop g) target) ∨
    (∃ (q : Addr) (vm₁ : Vm) (B : Pt), s.WarmedH vm₁ ∧ Stand p l e R s m args below meth c B.U B.locs B.cells B.slots ∧ PostX ⟨T.setVm vm₁, locs, cells, slots⟩ argsL.toArray q B ∧
      Steps p.tables e below (T.setTop g) ((B.U.setTop { g with stack := rest }).pushFrame (.throwing q))) := by
  obtain ⟨mk, methM, cM, hnamed, hmethM, -, -, -, -, -, -, hsigM⟩ := Cond.codeWith_spec hcode
  have hstatic : methM.isStatic = true := Cond.static_spec hnamed hmethM hstat
  obtain ⟨kP, hkP, -⟩ := className_of_methodNamed hnamed
  have hinitP : kP.init = .initialized := Cond.initialized_spec (findClass_of_methodNamed hnamed) hkP hinit
  obtain ⟨vm₁, X₁, hstep₁⟩ := X.invokestatic hexec hown hlink hnamed hmethM hstatic hkP hinitP hy (g := g) hg (argsL := argsL) (rest := rest) (hlen _ hsigM) hstack hdg
  rcases hK m meth c ⟨T.setVm vm₁, locs, cells, slots⟩ { g with stack := rest } (.invokestatic index) mk argsL.toArray X₁ hg hsize hdg hW (X₁.named hnamed) (hpre vm₁ X₁.warmed) with ⟨v, B, X', hpost, hsteps⟩ | ⟨q, B, X', hpost, hsteps⟩
  · exact Or.inl ⟨v, vm₁, B, X₁.warmed, X', hpost, fun target h => hstep₁ _ fun acts => by rw [doInvoke_state]; exact hsteps.trans h⟩
  · exact Or.inr ⟨q, vm₁, B, X₁.warmed, X', hpost, hstep₁ _ fun acts => by rw [doInvoke_state]; exact hsteps⟩
theorem vx_callVW (X : Stand p l e R s m args below meth c T locs cells slots) (hexec : p.tables.exec = Jvm.exec) {own C : String} {index : Nat} {y : MethodName} {bytes : ByteArray} {maxL : Nat} {ret : Option FieldType} {hh : List (Nat × Nat × Nat × Nat)}
    (hown : s.vm.findClass own = some m.cls) (hlink : (Cond.methodLink own index y).before args s = true) (hinst : (Cond.instanceMethod y).before args s = true) (hsel : (Cond.selects C y y).before args s = true)
    (hcode : (Cond.codeWith y bytes maxL ret hh).before args s = true) (hy : y.cls ≠ "java/lang/invoke/MethodHandle" ∧ y.cls ≠ "java/lang/invoke/VarHandle")
    {W9 : Nat} {Pre : Pt → Array Value → Prop} {Post : Pt → Array Value → Option Value → Pt → Prop} (hK : Back l R p e below s args y 3 W9 Pre Post)
    {b : Addr} {cellB : Cell} (hcell : T.heap[b]? = some cellB) (hobj : cellB.vm.isStatics = false) (hcls : s.vm.findClass C = some cellB.cls)
    {g : JFrame} (hg : g.method = m) (hsize : g.locals.size = c.maxLocals) {argsL rest : List Value} (hlen : ∀ sig, parseMethodDescriptor y.desc = some sig → argsL.length = sig.parameters.length)
    (hstack : g.stack = argsL.reverse ++ .ref b :: rest) (hW : 2 * g.monitorRoom + (rest.map fun v => v.category).sum ≤ W9) (hdg : decode c.code g.pc = .ok (.invokevirtual index, 3))
    (hpre : ∀ vm₁, s.WarmedH vm₁ → Pre ⟨T.setVm vm₁, locs, cells, slots⟩ (Value.ref b :: argsL).toArray) :
    ∃ (v : Option Value) (vm₁ : Vm) (B : Pt), s.WarmedH vm₁ ∧ Stand p l e R s m args below meth c B.U B.locs B.cells B.slots ∧ Post ⟨T.setVm vm₁, locs, cells, slots⟩ (Value.ref b :: argsL).toArray v B ∧
      ∀ target, Steps p.tables e below (B.U.setTop { g with pc := g.pc + 3, stack := v.toList ++ rest }) target → Steps p.tables e below (T.setTop g) target := by
  obtain ⟨mk, methM, hnamed, hmethM, hstM, habM⟩ := Cond.instanceMethod_spec hinst
  obtain ⟨m8, methM', cM, hn8, hmethM', -, -, -, -, -, -, hsigM⟩ := Cond.codeWith_spec hcode
  cases Option.some.inj (hn8.symm.trans hnamed)
  cases hmethM.symm.trans hmethM'
  obtain ⟨c2, r2, m2, q1, q2, q3, q4, kP, hkP, hkPi⟩ := Cond.selects_spec hsel
  cases hcls.symm.trans q1
  cases (State.methodFound?_of_named hnamed hy).symm.trans q2
  cases hnamed.symm.trans q3
  have hselP : selectMethod e.platform s.vm cellB.cls mk = .method mk := by rw [Launch.admits_selectMethod X.admits]; exact q4
  obtain ⟨vm₁, X₁, hstep₁⟩ := X.invokevirtual hexec hown hlink hnamed hmethM hstM hkP hkPi hy (a := b) (cell := cellB) hcell
    (fun z h => by rw [h] at hobj; cases hobj) hselP hmethM habM hkP hkPi (g := g) hg (argsL := argsL) (rest := rest) (hlen _ hsigM) hstack hdg
  obtain ⟨v, B, X', hpost, hsteps⟩ := hK m meth c ⟨T.setVm vm₁, locs, cells, slots⟩ { g with stack := rest } (.invokevirtual index) mk (Value.ref b :: argsL).toArray X₁ hg hsize hdg hW (X₁.named hnamed) (hpre vm₁ X₁.warmed)
  exact ⟨v, vm₁, B, X₁.warmed, X', hpost, fun target h => hstep₁ _ fun acts => by rw [doInvoke_state]; exact hsteps.trans h⟩
abbrev vx_CVW (R : Room) (s : State) (args : Array Value) (own C : String) (index : Nat) (y : MethodName) (bytes : ByteArray) (maxL : Nat) (ret : Option FieldType) (hh : List (Nat × Nat × Nat × Nat)) (ws : List Cond) (rm : Room) (mc ms n : Nat) : Prop :=
  (rm.cells = mc ∧ rm.slots = ms ∧ rm.frames + 1 ≤ R.frames ∧ 8 + (maxL + 11) + rm.locals ≤ R.locals ∧ (∀ w ∈ ws, ∀ (a' : Array Value) (U : State), s.WarmedH U.vm → w.before a' U = true) ∧ Cond.codeWith y bytes maxL ret hh ∈ ws) ∧
  (Cond.codeWith y bytes maxL ret hh).before args s = true ∧ (Cond.initialized y.cls).before args s = true ∧ (y.cls ≠ "java/lang/invoke/MethodHandle" ∧ y.cls ≠ "java/lang/invoke/VarHandle") ∧
  (∀ sig, parseMethodDescriptor y.desc = some sig → n = sig.parameters.length) ∧ (Cond.methodLink own index y).before args s = true ∧ (Cond.instanceMethod y).before args s = true ∧ (Cond.selects C y y).before args s = true
theorem vx_cwVW {own C : String} {index maxL mc ms : Nat} {y : MethodName} {bytes : ByteArray} {ret : Option FieldType} {hh : List (Nat × Nat × Nat × Nat)} {Ts ws ws' : List Cond} {rm : Room} (n : Nat) (ht : ∀ w ∈ Ts, w.before args s = true) (hT : GoodIn Ts (wsV own index C y ws)) (hw : ws = Cond.codeWith y bytes maxL ret hh :: ws') (hrc : rm.cells = mc) (hrs : rm.slots = ms)
    (hd : y.cls = C ∧ y.cls ≠ "java/lang/invoke/MethodHandle" ∧ y.cls ≠ "java/lang/invoke/VarHandle" ∧ (parseMethodDescriptor y.desc).map (fun d => d.parameters.length) = some n) (hR : rm.frames + 1 ≤ R.frames ∧ 8 + (maxL + 11) + rm.locals ≤ R.locals) :
    vx_CVW R s args own C index y bytes maxL ret hh ws rm mc ms n := by
  obtain ⟨hC, hd⟩ := hd
  subst hC
  have ok : ∀ w ∈ wsV own index y.cls y ws, w.before args s = true := fun w h => ht w (hT w h).1
  have hG : GoodIn Ts ws := fun w h => hT w (by unfold wsV; exact List.mem_append_right _ h)
  have hc : Cond.codeWith y bytes maxL ret hh ∈ ws := by rw [hw]; exact List.mem_cons_self
  refine ⟨⟨hrc, hrs, hR.1, hR.2, pay_in ht hG, hc⟩, ht _ (hG _ hc).1, ok _ (by simp [wsV]), ⟨hd.1, hd.2.1⟩, fun sig h => ?_, ok _ (by simp [wsV]), ok _ (by simp [wsV]), ok _ (by simp [wsV])⟩
  have h2 := hd.2.2
  rw [h] at h2
  exact (Option.some.inj h2).symm
theorem vx_runVW {y : MethodName} {bytes cc : ByteArray} {maxL nL mc ms n index : Nat} {ret : Option FieldType} {hh : List (Nat × Nat × Nat × Nat)} {ws : List Cond} {rm : Room} {Pc : Array Value → State → Prop} {Qc : Array Value → State → Outcome → State → Prop} {free : Addr → Prop} {Ts : List Cond} {own C : String} {b : Addr} {As rest : List Value} {g : JFrame}
    (S : CallFix p m c cc nL s args Ts own) (hM : Met l y ws rm Pc Qc mc ms free) (cw : vx_CVW R s args own C index y bytes maxL ret hh ws rm mc ms n) (hp : PreV s H C b Pc As)
    (hg : g.method = m) (hn : As.length = n) (hsize : g.locals.size = nL) (hstack : g.stack = As.reverse ++ .ref b :: rest) (hW : 2 * g.monitorRoom + (rest.map fun v => v.category).sum ≤ 8) (hdg : decode cc g.pc = .ok (.invokevirtual index, 3)) (hf : cells + mc ≤ R.cells ∧ slots + ms ≤ R.slots) :
    va_Run p l e R s m args below meth c H locs cells slots mc ms g rest (Qc (Value.ref b :: As).toArray) free := by
  obtain ⟨⟨hrc, hrs, hfr, hlo, hws, hcw⟩, hcode, hini, hy, hlen, hl, hin, hse⟩ := cw
  have hK : Back l R p e below s args y 3 8 (PreOf R mc ms Pc) (PostOf Qc mc ms free) := va_backW (hh := hh) (bytes := bytes) (maxL := maxL) (ret := ret) hM hp.1 hrc hrs hfr hlo hws hcw (fun a' U hW => word_at hW (Or.inl (by first | rfl | simp [Cond.onTables, Cond.keeps, Cond.steady])) hini)
  obtain ⟨hx, hb, hml, ho, -⟩ := S
  obtain ⟨-, ⟨cellB, hcB, hoB, hclB⟩, hPc⟩ := hp
  intro T hT X
  obtain ⟨v, vm₁, ⟨U', l2, c2, s2⟩, hW₁, X', ⟨g', mk, t, L, e1, e2, hq, h1, hL, h2, h3⟩, st⟩ := vx_callVW X hx (C := C) (hh := hh) (bytes := bytes) (maxL := maxL) (ret := ret) ho hl hin hse hcode hy hK (by rw [hT]; exact hcB) hoB hclB hg (hsize.trans hml.symm) (argsL := As) (rest := rest) (fun sig h => hn.trans (hlen sig h)) hstack hW (by rw [hb]; exact hdg)
    (fun vm₁ hW₁ => ⟨hf.1, hf.2, hPc (T.setVm vm₁) hT hW₁⟩)
  dsimp only [Pt.U, Pt.locs, Pt.cells, Pt.slots] at X' e1 e2 h1 h2 h3 st
  subst h1; subst h2; subst h3
  exact ⟨v, (T.setVm vm₁).calling g' mk (Value.ref b :: As).toArray, t, U', L, hT, X', hL, e1, e2, hq, st⟩
section
variable {y : MethodName} {bytes cc : ByteArray} {maxL nL mc ms n index : Nat} {ret : Option FieldType} {ws : List Cond} {rm : Room} {Pc : Array Value → State → Prop} {Qc : Array Value → State → Outcome → State → Prop} {XC : String → State → State → Prop} {free : Addr → Prop} {Ts : List Cond} {own C : String} {b : Addr} {As rest : List Value} {g : JFrame}
theorem vx_runVX {hh : List (Nat × Nat × Nat × Nat)} (S : CallFix p m c cc nL s args Ts own) (hM : vx_Met l y ws rm Pc Qc XC mc ms free) (cw : vx_CVW R s args own C index y bytes maxL ret hh ws rm mc ms n) (hp : PreV s H C b Pc As)
    (hg : g.method = m) (hn : As.length = n) (hsize : g.locals.size = nL) (hstack : g.stack = As.reverse ++ .ref b :: rest) (hW : 2 * g.monitorRoom + (rest.map fun v => v.category).sum ≤ 8) (hdg : decode cc g.pc = .ok (.invokevirtual index, 3)) (hf : cells + mc ≤ R.cells ∧ slots + ms ≤ R.slots) :
    vx_Run p l e R s m args below meth c H locs cells slots mc ms g rest (Qc (Value.ref b :: As).toArray) XC free := by
  obtain ⟨⟨hrc, hrs, hfr, hlo, hws, hcw⟩, hcode, hini, hy, hlen, hl, hin, hse⟩ := cw
  have hK : vx_Back l R p e below s args y 3 8 (PreOf R mc ms Pc) (PostOf Qc mc ms free) (vx_Post XC mc ms free) := vx_backW (hh := hh) (bytes := bytes) (maxL := maxL) (ret := ret) hM hp.1 hrc hrs hfr hlo hws hcw (fun a' U hW => word_at hW (Or.inl (by first | rfl | simp [Cond.onTables, Cond.keeps, Cond.steady])) hini)
  obtain ⟨hx, hb, hml, ho, -⟩ := S
  obtain ⟨-, ⟨cellB, hcB, hoB, hclB⟩, hPc⟩ := hp
  intro T hT X
  rcases vx_callVX X hx (C := C) (hh := hh) (bytes := bytes) (maxL := maxL) (ret := ret) ho hl hin hse hcode hy hK (by rw [hT]; exact hcB) hoB hclB hg (hsize.trans hml.symm) (argsL := As) (rest := rest) (fun sig h => hn.trans (hlen sig h)) hstack hW (by rw [hb]; exact hdg)
    (fun vm₁ hW₁ => ⟨hf.1, hf.2, hPc (T.setVm vm₁) hT hW₁⟩) with ⟨v, vm₁, ⟨U', l2, c2, s2⟩, hW₁, X', ⟨g', mk, t, L, e1, e2, hq, h1, hL, h2, h3⟩, st⟩ | ⟨q, vm₁, ⟨U', l2, c2, s2⟩, hW₁, X', ⟨g', mk, t, L, E, ce, e1, e2, hq, hce, hcv, hcl, h1, hL, h2, h3⟩, st⟩
  · dsimp only [Pt.U, Pt.locs, Pt.cells, Pt.slots] at X' e1 e2 h1 h2 h3 st
    subst h1; subst h2; subst h3
    exact Or.inl ⟨v, (T.setVm vm₁).calling g' mk (Value.ref b :: As).toArray, t, U', L, hT, X', hL, e1, e2, hq, st⟩
  · dsimp only [Pt.U, Pt.locs, Pt.cells, Pt.slots] at X' e1 e2 h1 h2 h3 st hcl
    subst h1; subst h2; subst h3
    exact Or.inr ⟨q, (T.setVm vm₁).calling g' mk (Value.ref b :: As).toArray, t, U', L, E, ce, hT, X', hL, e1, e2, hq, hce, hcv, vx_cls hW₁ hcl, st⟩
theorem vx_runSX {hh : List (Nat × Nat × Nat × Nat)} (S : CallFix p m c cc nL s args Ts own) (hM : vx_Met l y ws rm Pc Qc XC mc ms free) (cw : vx_CSW R s args own index y bytes maxL ret hh ws rm mc ms n) (hp : PreS s H Pc As)
    (hg : g.method = m) (hn : As.length = n) (hsize : g.locals.size = nL) (hstack : g.stack = As.reverse ++ rest) (hW : 2 * g.monitorRoom + (rest.map fun v => v.category).sum ≤ 8) (hdg : decode cc g.pc = .ok (.invokestatic index, 3)) (hf : cells + mc ≤ R.cells ∧ slots + ms ≤ R.slots) :
    vx_Run p l e R s m args below meth c H locs cells slots mc ms g rest (Qc As.toArray) XC free := by
  obtain ⟨⟨hrc, hrs, hfr, hlo, hws, hcw⟩, hcode, hini, hy, hlen, hl, hstt⟩ := cw
  have hK : vx_Back l R p e below s args y 3 8 (PreOf R mc ms Pc) (PostOf Qc mc ms free) (vx_Post XC mc ms free) := vx_backW (hh := hh) (bytes := bytes) (maxL := maxL) (ret := ret) hM hp.1 hrc hrs hfr hlo hws hcw (fun a' U hW => word_at hW (Or.inl (by first | rfl | simp [Cond.onTables, Cond.keeps, Cond.steady])) hini)
  obtain ⟨hx, hb, hml, ho, -⟩ := S
  intro T hT X
  rcases vx_callSX X hx (hh := hh) (bytes := bytes) (maxL := maxL) (ret := ret) ho hl hstt hini hcode hy hK hg (hsize.trans hml.symm) (argsL := As) (rest := rest) (fun sig h => hn.trans (hlen sig h)) hstack hW (by rw [hb]; exact hdg)
    (fun vm₁ hW₁ => ⟨hf.1, hf.2, hp.2 (T.setVm vm₁) hT hW₁⟩) with ⟨v, vm₁, ⟨U', l2, c2, s2⟩, hW₁, X', ⟨g', mk, t, L, e1, e2, hq, h1, hL, h2, h3⟩, st⟩ | ⟨q, vm₁, ⟨U', l2, c2, s2⟩, hW₁, X', ⟨g', mk, t, L, E, ce, e1, e2, hq, hce, hcv, hcl, h1, hL, h2, h3⟩, st⟩
  · dsimp only [Pt.U, Pt.locs, Pt.cells, Pt.slots] at X' e1 e2 h1 h2 h3 st
    subst h1; subst h2; subst h3
    exact Or.inl ⟨v, (T.setVm vm₁).calling g' mk As.toArray, t, U', L, hT, X', hL, e1, e2, hq, st⟩
  · dsimp only [Pt.U, Pt.locs, Pt.cells, Pt.slots] at X' e1 e2 h1 h2 h3 st hcl
    subst h1; subst h2; subst h3
    exact Or.inr ⟨q, (T.setVm vm₁).calling g' mk As.toArray, t, U', L, E, ce, hT, X', hL, e1, e2, hq, hce, hcv, vx_cls hW₁ hcl, st⟩
end
end VXH
theorem vx_ofWH {l : Launch} {y : MethodName} {ws ws' : List Cond} {rm : Room} {Pc : Array Value → State → Prop} {Qc : Array Value → State → Outcome → State → Prop} {XC : String → State → State → Prop} {mc ms : Nat} {free : Addr → Prop} {cc : ByteArray} {maxL : Nat} {ret : Option FieldType} {hh : List (Nat × Nat × Nat × Nat)}
    (hy : plainName y.cls = true) (hw : ws = Cond.codeWith y cc maxL ret hh :: ws')
    (body : ∀ p e s m args below meth c s₁, BodyLoose p l y (headSpec ws rm) cc maxL ret e s m args below meth c s₁ → c.maxLocals = maxL → Pc args s →
      W p l e (headSpec ws rm).room s m args below meth c s.heap [] 0 0 (vx_MQ below Qc XC args s mc ms free) (entryFrame m args maxL)) : vx_Met l y ws rm Pc Qc XC mc ms free := by
  refine MetFree.of_bodyS (code := cc) (maxLocals := maxL) (ret := ret) hy ?_ ?_
  · intro args s m h hn
    obtain ⟨m9, meth, c, hn9, h1, h2, h3, h4, -, h5, h6, -⟩ := Cond.codeWith_spec (atoms_spec (ws := ws) h _ (by rw [hw]; exact List.mem_cons_self))
    cases hn.symm.trans hn9
    exact ⟨meth, c, h1, h2, h3, h4, h5, h6⟩
  · intro p e s m args below meth c s₁ B hml hP _
    have hh0 : s₁.heap = s.heap := by rw [B.state]; rfl
    obtain ⟨t, a1, o, b1, b2, b3⟩ := body p e s m args below meth c s₁ B hml hP s₁ hh0 (Stand.of_body B)
    exact ⟨t, o, a1, b1, b2, b3⟩
/-! ===== END ===== -/
end
section
def bigW : List Cond := lw_tbl.filter goodWord
theorem mem_big {w : Cond} (i : Nat) (h : lw_tbl[i]? = some w) (g : goodWord w = true) : w ∈ bigW := List.mem_filter.mpr ⟨List.mem_of_getElem? h, g⟩
theorem kc {w w0 : Cond} (h : w ∈ bigW) : w ∈ w0 :: bigW := List.mem_cons_of_mem _ h
theorem big_of {ws : List Cond} (h : GoodIn lw_tbl ws) (g : ws.all goodWord = true) : ∀ w ∈ ws, w ∈ bigW := fun w hw => List.mem_filter.mpr ⟨(h w hw).1, List.all_eq_true.mp g w hw⟩
theorem gd_big {w : Cond} (h : w ∈ bigW) : (w.onTables && w.keeps) = true ∨ ∃ ty, w = .arrayClass ty := good_of_word (List.mem_filter.mp h).2
theorem gI {w0 w1 : Cond} (h1 : w1 ∈ bigW) : GoodIn (w0 :: bigW) (w1 :: bigW) := by
  intro w hw
  rcases List.mem_cons.mp hw with rfl | h
  · exact ⟨kc h1, gd_big h1⟩
  · exact ⟨kc h, gd_big h⟩
theorem gV {w0 w1 : Cond} {own C : String} {idx : Nat} {y : MethodName} (a : Cond.methodLink own idx y ∈ bigW) (b : Cond.instanceMethod y ∈ bigW) (c : Cond.selects C y y ∈ bigW) (d : Cond.initialized C ∈ bigW) (h1 : w1 ∈ bigW) : GoodIn (w0 :: bigW) (wsV own idx C y (w1 :: bigW)) := by
  intro w hw
  rcases List.mem_append.mp hw with h | h
  · simp only [List.mem_cons, List.not_mem_nil, or_false] at h
    rcases h with rfl | rfl | rfl | rfl
    · exact ⟨kc a, gd_big a⟩
    · exact ⟨kc b, gd_big b⟩
    · exact ⟨kc c, gd_big c⟩
    · exact ⟨kc d, gd_big d⟩
  · exact gI h1 w h
theorem gS {w0 w1 : Cond} {own : String} {idx : Nat} {y : MethodName} (a : Cond.methodLink own idx y ∈ bigW) (b : Cond.static y ∈ bigW) (d : Cond.initialized own ∈ bigW) (h1 : w1 ∈ bigW) : GoodIn (w0 :: bigW) (wsS own idx y (w1 :: bigW)) := by
  intro w hw
  rcases List.mem_append.mp hw with h | h
  · simp only [List.mem_cons, List.not_mem_nil, or_false] at h
    rcases h with rfl | rfl | rfl
    · exact ⟨kc a, gd_big a⟩
    · exact ⟨kc b, gd_big b⟩
    · exact ⟨kc d, gd_big d⟩
  · exact gI h1 w h
abbrev RX0 : String := "HoseTests$Kinds"
def TX0 : u_T := fun k => match k with
  | 0 => ("HoseTests$Kinds", "ages", "[I", true)
  | 1 => ("HoseTests$Kinds", "testDays", "[I", true)
  | 2 => ("HoseTests$Kinds", "testUses", "[I", true)
  | 3 => ("HoseTests$Kinds", "lows", "[I", true)
  | _ => ("HoseTests$Kinds", "passes", "[I", true)
def tyX0 : Nat → FieldType := fun k => match k with
  | 0 => .array .int
  | 1 => .array .int
  | 2 => .array .int
  | 3 => .array .int
  | _ => .array .int
theorem nmX0 : ∀ a, a < 5 → ∀ b, b < 5 → a ≠ b → (TX0 a).2.1 ≠ (TX0 b).2.1 := by decide +kernel
theorem tyX0_ok : ∀ k, k < 5 → parseFieldDescriptor (TX0 k).2.2.1 = some (tyX0 k) := by decide +kernel
theorem iwX0 (w0 : Cond) : ∀ w ∈ u_ws RX0 TX0 5, w ∈ w0 :: bigW := fun w h => kc (big_of (goodIn_r (big := lw_tbl) _ [58, 60, 62, 64, 66] (by decide +kernel) (by decide +kernel)) (by decide +kernel) w h)
abbrev RX1 : String := "HoseTests$Plan"
def TX1 : u_T := fun k => match k with
  | 0 => ("HoseTests$Plan", "testLoads", "[I", true)
  | 1 => ("HoseTests$Plan", "lastWeeks", "[I", true)
  | 2 => ("HoseTests$Plan", "triedWeeks", "[I", true)
  | 3 => ("HoseTests$Plan", "bestWeeks", "[I", true)
  | 4 => ("HoseTests$Plan", "weekSums", "[I", true)
  | 5 => ("HoseTests$Plan", "planned", "I", false)
  | _ => ("HoseTests$Plan", "least", "I", false)
def tyX1 : Nat → FieldType := fun k => match k with
  | 0 => .array .int
  | 1 => .array .int
  | 2 => .array .int
  | 3 => .array .int
  | 4 => .array .int
  | 5 => .int
  | _ => .int
theorem nmX1 : ∀ a, a < 7 → ∀ b, b < 7 → a ≠ b → (TX1 a).2.1 ≠ (TX1 b).2.1 := by decide +kernel
theorem tyX1_ok : ∀ k, k < 7 → parseFieldDescriptor (TX1 k).2.2.1 = some (tyX1 k) := by decide +kernel
theorem iwX1 (w0 : Cond) : ∀ w ∈ u_ws RX1 TX1 7, w ∈ w0 :: bigW := fun w h => kc (big_of (goodIn_r (big := lw_tbl) _ [139, 141, 143, 145, 147, 149, 151] (by decide +kernel) (by decide +kernel)) (by decide +kernel) w h)
abbrev RX2 : String := "HoseTests$Things"
def TX2 : u_T := fun k => match k with
  | 0 => ("HoseTests$Things", "kindOf", "[I", true)
  | 1 => ("HoseTests$Things", "serials", "[I", true)
  | 2 => ("HoseTests$Things", "batches", "[I", true)
  | 3 => ("HoseTests$Things", "places", "[I", true)
  | 4 => ("HoseTests$Things", "madeDays", "[I", true)
  | 5 => ("HoseTests$Things", "scrapDays", "[I", true)
  | 6 => ("HoseTests$Things", "washes", "[I", true)
  | 7 => ("HoseTests$Things", "wet", "[Z", true)
  | 8 => ("HoseTests$Things", "latestDays", "[I", true)
  | 9 => ("HoseTests$Things", "usesSince", "[I", true)
  | 10 => ("HoseTests$Things", "grades", "[I", true)
  | _ => ("HoseTests$Things", "count", "I", false)
def tyX2 : Nat → FieldType := fun k => match k with
  | 0 => .array .int
  | 1 => .array .int
  | 2 => .array .int
  | 3 => .array .int
  | 4 => .array .int
  | 5 => .array .int
  | 6 => .array .int
  | 7 => .array .boolean
  | 8 => .array .int
  | 9 => .array .int
  | 10 => .array .int
  | _ => .int
theorem nmX2 : ∀ a, a < 12 → ∀ b, b < 12 → a ≠ b → (TX2 a).2.1 ≠ (TX2 b).2.1 := by decide +kernel
theorem tyX2_ok : ∀ k, k < 12 → parseFieldDescriptor (TX2 k).2.2.1 = some (tyX2 k) := by decide +kernel
theorem iwX2 (w0 : Cond) : ∀ w ∈ u_ws RX2 TX2 12, w ∈ w0 :: bigW := fun w h => kc (big_of (goodIn_r (big := lw_tbl) _ [98, 100, 102, 104, 106, 108, 110, 112, 114, 116, 118, 120] (by decide +kernel) (by decide +kernel)) (by decide +kernel) w h)
abbrev RX3 : String := "HoseTests"
def TX3 : u_T := fun k => match k with
  | 0 => ("HoseTests", "kinds", "LHoseTests$Kinds;", true)
  | 1 => ("HoseTests", "things", "LHoseTests$Things;", true)
  | 2 => ("HoseTests", "latestPlan", "LHoseTests$Plan;", true)
  | 3 => ("HoseTests", "recalledBatches", "[Z", true)
  | 4 => ("HoseTests", "endRow", "[I", true)
  | _ => ("HoseTests", "today", "I", false)
def tyX3 : Nat → FieldType := fun k => match k with
  | 0 => .object "HoseTests$Kinds"
  | 1 => .object "HoseTests$Things"
  | 2 => .object "HoseTests$Plan"
  | 3 => .array .boolean
  | 4 => .array .int
  | _ => .int
theorem nmX3 : ∀ a, a < 6 → ∀ b, b < 6 → a ≠ b → (TX3 a).2.1 ≠ (TX3 b).2.1 := by decide +kernel
theorem tyX3_ok : ∀ k, k < 6 → parseFieldDescriptor (TX3 k).2.2.1 = some (tyX3 k) := by decide +kernel
theorem iwX3 (w0 : Cond) : ∀ w ∈ u_ws RX3 TX3 6, w ∈ w0 :: bigW := fun w h => kc (big_of (goodIn_r (big := lw_tbl) _ [160, 162, 164, 166, 168, 170] (by decide +kernel) (by decide +kernel)) (by decide +kernel) w h)
abbrev RX4 : String := "HoseTestsModel"
def TX4 : u_T := fun k => match k with
  | 0 => ("HoseTestsModel", "thrown", "I", false)
  | 1 => ("HoseTestsModel", "day", "I", false)
  | 2 => ("HoseTestsModel", "age", "[I", true)
  | 3 => ("HoseTestsModel", "days", "[I", true)
  | 4 => ("HoseTestsModel", "uses", "[I", true)
  | 5 => ("HoseTestsModel", "low", "[I", true)
  | 6 => ("HoseTestsModel", "pass", "[I", true)
  | 7 => ("HoseTestsModel", "things", "I", false)
  | 8 => ("HoseTestsModel", "kind", "[I", true)
  | 9 => ("HoseTestsModel", "serial", "[I", true)
  | 10 => ("HoseTestsModel", "batch", "[I", true)
  | 11 => ("HoseTestsModel", "place", "[I", true)
  | 12 => ("HoseTestsModel", "made", "[I", true)
  | 13 => ("HoseTestsModel", "gone", "[I", true)
  | 14 => ("HoseTestsModel", "washed", "[I", true)
  | 15 => ("HoseTestsModel", "wet", "[Z", true)
  | 16 => ("HoseTestsModel", "latest", "[I", true)
  | 17 => ("HoseTestsModel", "since", "[I", true)
  | 18 => ("HoseTestsModel", "grade", "[I", true)
  | 19 => ("HoseTestsModel", "called", "[Z", true)
  | 20 => ("HoseTestsModel", "planned", "I", false)
  | 21 => ("HoseTestsModel", "week", "[I", true)
  | _ => ("HoseTestsModel", "sums", "[I", true)
def tyX4 : Nat → FieldType := fun k => match k with
  | 0 => .int
  | 1 => .int
  | 2 => .array .int
  | 3 => .array .int
  | 4 => .array .int
  | 5 => .array .int
  | 6 => .array .int
  | 7 => .int
  | 8 => .array .int
  | 9 => .array .int
  | 10 => .array .int
  | 11 => .array .int
  | 12 => .array .int
  | 13 => .array .int
  | 14 => .array .int
  | 15 => .array .boolean
  | 16 => .array .int
  | 17 => .array .int
  | 18 => .array .int
  | 19 => .array .boolean
  | 20 => .int
  | 21 => .array .int
  | _ => .array .int
theorem nmX4 : ∀ a, a < 23 → ∀ b, b < 23 → a ≠ b → (TX4 a).2.1 ≠ (TX4 b).2.1 := by decide +kernel
theorem tyX4_ok : ∀ k, k < 23 → parseFieldDescriptor (TX4 k).2.2.1 = some (tyX4 k) := by decide +kernel
theorem iwX4 (w0 : Cond) : ∀ w ∈ u_ws RX4 TX4 23, w ∈ w0 :: bigW := fun w h => kc (big_of (goodIn_r (big := lw_tbl) _ [594, 596, 598, 600, 602, 604, 606, 608, 610, 612, 614, 616, 618, 620, 622, 624, 626, 628, 630, 632, 634, 636, 638] (by decide +kernel) (by decide +kernel)) (by decide +kernel) w h)
abbrev RL : String := "HoseTestsLaw"
abbrev cX3_init : ByteArray := prog_1_method_1_code
abbrev yX3_init : MethodName := ⟨"HoseTests", "<init>", "()V"⟩
abbrev wsX3_init : List Cond := .code yX3_init cX3_init 1 none :: bigW
abbrev cX3_day : ByteArray := prog_1_method_2_code
abbrev yX3_day : MethodName := ⟨"HoseTests", "day", "(I)V"⟩
abbrev wsX3_day : List Cond := .code yX3_day cX3_day 2 none :: bigW
abbrev cX3_age : ByteArray := prog_1_method_3_code
abbrev yX3_age : MethodName := ⟨"HoseTests", "age", "(II)V"⟩
abbrev wsX3_age : List Cond := .code yX3_age cX3_age 3 none :: bigW
abbrev cX3_test : ByteArray := prog_1_method_4_code
abbrev yX3_test : MethodName := ⟨"HoseTests", "test", "(IIII)V"⟩
abbrev wsX3_test : List Cond := .code yX3_test cX3_test 6 none :: bigW
abbrev cX3_bounds : ByteArray := prog_1_method_5_code
abbrev yX3_bounds : MethodName := ⟨"HoseTests", "bounds", "(IIII)V"⟩
abbrev wsX3_bounds : List Cond := .code yX3_bounds cX3_bounds 6 none :: bigW
abbrev cX3_thing : ByteArray := prog_1_method_6_code
abbrev yX3_thing : MethodName := ⟨"HoseTests", "thing", "(IIIIII)I"⟩
abbrev wsX3_thing : List Cond := .code yX3_thing cX3_thing 7 (some .int) :: bigW
abbrev cX3_letter : ByteArray := prog_1_method_7_code
abbrev yX3_letter : MethodName := ⟨"HoseTests", "letter", "(I)I"⟩
abbrev wsX3_letter : List Cond := .code yX3_letter cX3_letter 2 (some .int) :: bigW
abbrev cX3_use : ByteArray := prog_1_method_8_code
abbrev yX3_use : MethodName := ⟨"HoseTests", "use", "(I)V"⟩
abbrev wsX3_use : List Cond := .code yX3_use cX3_use 2 none :: bigW
abbrev cX3_wash : ByteArray := prog_1_method_9_code
abbrev yX3_wash : MethodName := ⟨"HoseTests", "wash", "(IZ)I"⟩
abbrev wsX3_wash : List Cond := .code yX3_wash cX3_wash 3 (some .int) :: bigW
abbrev cX3_result : ByteArray := prog_1_method_10_code
abbrev yX3_result : MethodName := ⟨"HoseTests", "result", "(III)I"⟩
abbrev wsX3_result : List Cond := .code yX3_result cX3_result 5 (some .int) :: bigW
abbrev cX3_load : ByteArray := prog_1_method_11_code
abbrev yX3_load : MethodName := ⟨"HoseTests", "load", "(II)V"⟩
abbrev wsX3_load : List Cond := .code yX3_load cX3_load 3 none :: bigW
abbrev cX3_recall : ByteArray := prog_1_method_12_code
abbrev yX3_recall : MethodName := ⟨"HoseTests", "recall", "(IZ)I"⟩
abbrev wsX3_recall : List Cond := .code yX3_recall cX3_recall 3 (some .int) :: bigW
abbrev cX3_recalled : ByteArray := prog_1_method_13_code
abbrev yX3_recalled : MethodName := ⟨"HoseTests", "recalled", "(II)I"⟩
abbrev wsX3_recalled : List Cond := .code yX3_recalled cX3_recalled 4 (some .int) :: bigW
abbrev cX3_barred : ByteArray := prog_1_method_14_code
abbrev yX3_barred : MethodName := ⟨"HoseTests", "barred", "(I)I"⟩
abbrev wsX3_barred : List Cond := .code yX3_barred cX3_barred 2 (some .int) :: bigW
abbrev cX3_ends : ByteArray := prog_1_method_15_code
abbrev yX3_ends : MethodName := ⟨"HoseTests", "ends", "(I)I"⟩
abbrev wsX3_ends : List Cond := .code yX3_ends cX3_ends 2 (some .int) :: bigW
abbrev cX3_soon : ByteArray := prog_1_method_16_code
abbrev yX3_soon : MethodName := ⟨"HoseTests", "soon", "(III)I"⟩
abbrev wsX3_soon : List Cond := .code yX3_soon cX3_soon 5 (some .int) :: bigW
abbrev cX3_thingAt : ByteArray := prog_1_method_17_code
abbrev yX3_thingAt : MethodName := ⟨"HoseTests", "thingAt", "(II)I"⟩
abbrev wsX3_thingAt : List Cond := .code yX3_thingAt cX3_thingAt 3 (some .int) :: bigW
abbrev cX3_life : ByteArray := prog_1_method_18_code
abbrev yX3_life : MethodName := ⟨"HoseTests", "life", "(II)I"⟩
abbrev wsX3_life : List Cond := .code yX3_life cX3_life 6 (some .int) :: bigW
abbrev cX3_plan : ByteArray := prog_1_method_19_code
abbrev yX3_plan : MethodName := ⟨"HoseTests", "plan", "(JIII)I"⟩
abbrev wsX3_plan : List Cond := .code yX3_plan cX3_plan 6 (some .int) :: bigW
abbrev cX3_week : ByteArray := prog_1_method_20_code
abbrev yX3_week : MethodName := ⟨"HoseTests", "week", "(I)I"⟩
abbrev wsX3_week : List Cond := .code yX3_week cX3_week 2 (some .int) :: bigW
abbrev cX3_needKnown : ByteArray := prog_1_method_21_code
abbrev yX3_needKnown : MethodName := ⟨"HoseTests", "needKnown", "(II)V"⟩
abbrev wsX3_needKnown : List Cond := .code yX3_needKnown cX3_needKnown 2 none :: bigW
abbrev cX3_needRange : ByteArray := prog_1_method_22_code
abbrev yX3_needRange : MethodName := ⟨"HoseTests", "needRange", "(III)V"⟩
abbrev wsX3_needRange : List Cond := .code yX3_needRange cX3_needRange 3 none :: bigW
abbrev cX3_needState : ByteArray := prog_1_method_23_code
abbrev yX3_needState : MethodName := ⟨"HoseTests", "needState", "(Z)V"⟩
abbrev wsX3_needState : List Cond := .code yX3_needState cX3_needState 1 none :: bigW
abbrev cX3_checkLetter : ByteArray := prog_1_method_24_code
abbrev yX3_checkLetter : MethodName := ⟨"HoseTests", "checkLetter", "(I)I"⟩
abbrev wsX3_checkLetter : List Cond := .code yX3_checkLetter cX3_checkLetter 4 (some .int) :: bigW
abbrev cX3_commonDivisor : ByteArray := prog_1_method_25_code
abbrev yX3_commonDivisor : MethodName := ⟨"HoseTests", "commonDivisor", "(II)I"⟩
abbrev wsX3_commonDivisor : List Cond := .code yX3_commonDivisor cX3_commonDivisor 3 (some .int) :: bigW
abbrev cX3_reasonBarred : ByteArray := prog_1_method_26_code
abbrev yX3_reasonBarred : MethodName := ⟨"HoseTests", "reasonBarred", "(I)I"⟩
abbrev wsX3_reasonBarred : List Cond := .code yX3_reasonBarred cX3_reasonBarred 2 (some .int) :: bigW
abbrev cX3_oldFrom : ByteArray := prog_1_method_27_code
abbrev yX3_oldFrom : MethodName := ⟨"HoseTests", "oldFrom", "(I)I"⟩
abbrev wsX3_oldFrom : List Cond := .code yX3_oldFrom cX3_oldFrom 3 (some .int) :: bigW
abbrev cX3_someTestDueFrom : ByteArray := prog_1_method_28_code
abbrev yX3_someTestDueFrom : MethodName := ⟨"HoseTests", "someTestDueFrom", "(I)I"⟩
abbrev wsX3_someTestDueFrom : List Cond := .code yX3_someTestDueFrom cX3_someTestDueFrom 4 (some .int) :: bigW
abbrev cX3_dueFrom : ByteArray := prog_1_method_29_code
abbrev yX3_dueFrom : MethodName := ⟨"HoseTests", "dueFrom", "(II)I"⟩
abbrev wsX3_dueFrom : List Cond := .code yX3_dueFrom cX3_dueFrom 7 (some .int) :: bigW
abbrev cX3_endOf : ByteArray := prog_1_method_30_code
abbrev yX3_endOf : MethodName := ⟨"HoseTests", "endOf", "(I)I"⟩
abbrev wsX3_endOf : List Cond := .code yX3_endOf cX3_endOf 3 (some .int) :: bigW
abbrev cX3_fillEndRow : ByteArray := prog_1_method_31_code
abbrev yX3_fillEndRow : MethodName := ⟨"HoseTests", "fillEndRow", "(II)V"⟩
abbrev wsX3_fillEndRow : List Cond := .code yX3_fillEndRow cX3_fillEndRow 5 none :: bigW
abbrev cX3_countEndingBefore : ByteArray := prog_1_method_32_code
abbrev yX3_countEndingBefore : MethodName := ⟨"HoseTests", "countEndingBefore", "(I)I"⟩
abbrev wsX3_countEndingBefore : List Cond := .code yX3_countEndingBefore cX3_countEndingBefore 6 (some .int) :: bigW
abbrev cX4_init : ByteArray := prog_6_method_1_code
abbrev yX4_init : MethodName := ⟨"HoseTestsModel", "<init>", "()V"⟩
abbrev wsX4_init : List Cond := .code yX4_init cX4_init 1 none :: bigW
abbrev cX4_thrown : ByteArray := prog_6_method_2_code
abbrev yX4_thrown : MethodName := ⟨"HoseTestsModel", "thrown", "()I"⟩
abbrev wsX4_thrown : List Cond := .code yX4_thrown cX4_thrown 1 (some .int) :: bigW
abbrev cX4_throwing : ByteArray := prog_6_method_3_code
abbrev yX4_throwing : MethodName := ⟨"HoseTestsModel", "throwing", "(ZZZZ)Z"⟩
abbrev wsX4_throwing : List Cond := .code yX4_throwing cX4_throwing 5 (some .boolean) :: bigW
abbrev cX4_in : ByteArray := prog_6_method_4_code
abbrev yX4_in : MethodName := ⟨"HoseTestsModel", "in", "(III)Z"⟩
abbrev wsX4_in : List Cond := .code yX4_in cX4_in 3 (some .boolean) :: bigW
abbrev cX4_isThing : ByteArray := prog_6_method_5_code
abbrev yX4_isThing : MethodName := ⟨"HoseTestsModel", "isThing", "(I)Z"⟩
abbrev wsX4_isThing : List Cond := .code yX4_isThing cX4_isThing 2 (some .boolean) :: bigW
abbrev cX4_isTest : ByteArray := prog_6_method_6_code
abbrev yX4_isTest : MethodName := ⟨"HoseTestsModel", "isTest", "(II)Z"⟩
abbrev wsX4_isTest : List Cond := .code yX4_isTest cX4_isTest 2 (some .boolean) :: bigW
abbrev cX4_day : ByteArray := prog_6_method_7_code
abbrev yX4_day : MethodName := ⟨"HoseTestsModel", "day", "(I)V"⟩
abbrev wsX4_day : List Cond := .code yX4_day cX4_day 2 none :: bigW
abbrev cX4_age : ByteArray := prog_6_method_8_code
abbrev yX4_age : MethodName := ⟨"HoseTestsModel", "age", "(II)V"⟩
abbrev wsX4_age : List Cond := .code yX4_age cX4_age 3 none :: bigW
abbrev cX4_test : ByteArray := prog_6_method_9_code
abbrev yX4_test : MethodName := ⟨"HoseTestsModel", "test", "(IIII)V"⟩
abbrev wsX4_test : List Cond := .code yX4_test cX4_test 5 none :: bigW
abbrev cX4_bounds : ByteArray := prog_6_method_10_code
abbrev yX4_bounds : MethodName := ⟨"HoseTestsModel", "bounds", "(IIII)V"⟩
abbrev wsX4_bounds : List Cond := .code yX4_bounds cX4_bounds 5 none :: bigW
abbrev cX4_letterOf : ByteArray := prog_6_method_11_code
abbrev yX4_letterOf : MethodName := ⟨"HoseTestsModel", "letterOf", "(I)I"⟩
abbrev wsX4_letterOf : List Cond := .code yX4_letterOf cX4_letterOf 4 (some .int) :: bigW
abbrev cX4_isSerial : ByteArray := prog_6_method_12_code
abbrev yX4_isSerial : MethodName := ⟨"HoseTestsModel", "isSerial", "(I)Z"⟩
abbrev wsX4_isSerial : List Cond := .code yX4_isSerial cX4_isSerial 1 (some .boolean) :: bigW
abbrev cX4_letter : ByteArray := prog_6_method_13_code
abbrev yX4_letter : MethodName := ⟨"HoseTestsModel", "letter", "(I)I"⟩
abbrev wsX4_letter : List Cond := .code yX4_letter cX4_letter 2 (some .int) :: bigW
abbrev cX4_thing : ByteArray := prog_6_method_14_code
abbrev yX4_thing : MethodName := ⟨"HoseTestsModel", "thing", "(IIIIII)I"⟩
abbrev wsX4_thing : List Cond := .code yX4_thing cX4_thing 11 (some .int) :: bigW
abbrev cX4_isDue : ByteArray := prog_6_method_15_code
abbrev yX4_isDue : MethodName := ⟨"HoseTestsModel", "isDue", "(II)Z"⟩
abbrev wsX4_isDue : List Cond := .code yX4_isDue cX4_isDue 5 (some .boolean) :: bigW
abbrev cX4_stateOf : ByteArray := prog_6_method_16_code
abbrev yX4_stateOf : MethodName := ⟨"HoseTestsModel", "stateOf", "(I)I"⟩
abbrev wsX4_stateOf : List Cond := .code yX4_stateOf cX4_stateOf 4 (some .int) :: bigW
abbrev cX4_reason : ByteArray := prog_6_method_17_code
abbrev yX4_reason : MethodName := ⟨"HoseTestsModel", "reason", "(I)I"⟩
abbrev wsX4_reason : List Cond := .code yX4_reason cX4_reason 2 (some .int) :: bigW
abbrev cX4_use : ByteArray := prog_6_method_18_code
abbrev yX4_use : MethodName := ⟨"HoseTestsModel", "use", "(I)V"⟩
abbrev wsX4_use : List Cond := .code yX4_use cX4_use 4 none :: bigW
abbrev cX4_wash : ByteArray := prog_6_method_19_code
abbrev yX4_wash : MethodName := ⟨"HoseTestsModel", "wash", "(IZ)I"⟩
abbrev wsX4_wash : List Cond := .code yX4_wash cX4_wash 4 (some .int) :: bigW
abbrev cX4_result : ByteArray := prog_6_method_20_code
abbrev yX4_result : MethodName := ⟨"HoseTestsModel", "result", "(III)I"⟩
abbrev wsX4_result : List Cond := .code yX4_result cX4_result 8 (some .int) :: bigW
abbrev cX4_load : ByteArray := prog_6_method_21_code
abbrev yX4_load : MethodName := ⟨"HoseTestsModel", "load", "(II)V"⟩
abbrev wsX4_load : List Cond := .code yX4_load cX4_load 4 none :: bigW
abbrev cX4_leftOf : ByteArray := prog_6_method_22_code
abbrev yX4_leftOf : MethodName := ⟨"HoseTestsModel", "leftOf", "(I)I"⟩
abbrev wsX4_leftOf : List Cond := .code yX4_leftOf cX4_leftOf 4 (some .int) :: bigW
abbrev cX4_recall : ByteArray := prog_6_method_23_code
abbrev yX4_recall : MethodName := ⟨"HoseTestsModel", "recall", "(IZ)I"⟩
abbrev wsX4_recall : List Cond := .code yX4_recall cX4_recall 4 (some .int) :: bigW
abbrev cX4_recalled : ByteArray := prog_6_method_24_code
abbrev yX4_recalled : MethodName := ⟨"HoseTestsModel", "recalled", "(II)I"⟩
abbrev wsX4_recalled : List Cond := .code yX4_recalled cX4_recalled 5 (some .int) :: bigW
abbrev cX4_barred : ByteArray := prog_6_method_25_code
abbrev yX4_barred : MethodName := ⟨"HoseTestsModel", "barred", "(I)I"⟩
abbrev wsX4_barred : List Cond := .code yX4_barred cX4_barred 2 (some .int) :: bigW
abbrev cX4_endOf : ByteArray := prog_6_method_26_code
abbrev yX4_endOf : MethodName := ⟨"HoseTestsModel", "endOf", "(I)I"⟩
abbrev wsX4_endOf : List Cond := .code yX4_endOf cX4_endOf 6 (some .int) :: bigW
abbrev cX4_ends : ByteArray := prog_6_method_27_code
abbrev yX4_ends : MethodName := ⟨"HoseTestsModel", "ends", "(I)I"⟩
abbrev wsX4_ends : List Cond := .code yX4_ends cX4_ends 3 (some .int) :: bigW
abbrev cX4_soon : ByteArray := prog_6_method_28_code
abbrev yX4_soon : MethodName := ⟨"HoseTestsModel", "soon", "(III)I"⟩
abbrev wsX4_soon : List Cond := .code yX4_soon cX4_soon 7 (some .int) :: bigW
abbrev cX4_thingAt : ByteArray := prog_6_method_29_code
abbrev yX4_thingAt : MethodName := ⟨"HoseTestsModel", "thingAt", "(II)I"⟩
abbrev wsX4_thingAt : List Cond := .code yX4_thingAt cX4_thingAt 3 (some .int) :: bigW
abbrev cX4_life : ByteArray := prog_6_method_30_code
abbrev yX4_life : MethodName := ⟨"HoseTestsModel", "life", "(II)I"⟩
abbrev wsX4_life : List Cond := .code yX4_life cX4_life 9 (some .int) :: bigW
abbrev cX4_weekIn : ByteArray := prog_6_method_31_code
abbrev yX4_weekIn : MethodName := ⟨"HoseTestsModel", "weekIn", "(IIII)I"⟩
abbrev wsX4_weekIn : List Cond := .code yX4_weekIn cX4_weekIn 6 (some .int) :: bigW
abbrev cX4_greatest : ByteArray := prog_6_method_32_code
abbrev yX4_greatest : MethodName := ⟨"HoseTestsModel", "greatest", "(IJIII)I"⟩
abbrev wsX4_greatest : List Cond := .code yX4_greatest cX4_greatest 9 (some .int) :: bigW
abbrev cX4_plan : ByteArray := prog_6_method_33_code
abbrev yX4_plan : MethodName := ⟨"HoseTestsModel", "plan", "(JIII)I"⟩
abbrev wsX4_plan : List Cond := .code yX4_plan cX4_plan 11 (some .int) :: bigW
abbrev cX4_week : ByteArray := prog_6_method_34_code
abbrev yX4_week : MethodName := ⟨"HoseTestsModel", "week", "(I)I"⟩
abbrev wsX4_week : List Cond := .code yX4_week cX4_week 2 (some .int) :: bigW
abbrev cX0_init : ByteArray := prog_2_method_1_code
abbrev yX0_init : MethodName := ⟨"HoseTests$Kinds", "<init>", "()V"⟩
abbrev wsX0_init : List Cond := .code yX0_init cX0_init 1 none :: bigW
abbrev cX0_gradeOf : ByteArray := prog_2_method_2_code
abbrev yX0_gradeOf : MethodName := ⟨"HoseTests$Kinds", "gradeOf", "(III)I"⟩
abbrev wsX0_gradeOf : List Cond := .code yX0_gradeOf cX0_gradeOf 5 (some .int) :: bigW
abbrev cX1_init : ByteArray := prog_3_method_1_code
abbrev yX1_init : MethodName := ⟨"HoseTests$Plan", "<init>", "()V"⟩
abbrev wsX1_init : List Cond := .code yX1_init cX1_init 1 none :: bigW
abbrev cX1_make : ByteArray := prog_3_method_2_code
abbrev yX1_make : MethodName := ⟨"HoseTests$Plan", "make", "(JIII)I"⟩
abbrev wsX1_make : List Cond := .code yX1_make cX1_make 7 (some .int) :: bigW
abbrev cX1_putFrom : ByteArray := prog_3_method_3_code
abbrev yX1_putFrom : MethodName := ⟨"HoseTests$Plan", "putFrom", "(II)V"⟩
abbrev wsX1_putFrom : List Cond := .code yX1_putFrom cX1_putFrom 4 none :: bigW
abbrev cX1_keepTried : ByteArray := prog_3_method_4_code
abbrev yX1_keepTried : MethodName := ⟨"HoseTests$Plan", "keepTried", "(I)V"⟩
abbrev wsX1_keepTried : List Cond := .code yX1_keepTried cX1_keepTried 3 none :: bigW
abbrev cX2_init : ByteArray := prog_4_method_1_code
abbrev yX2_init : MethodName := ⟨"HoseTests$Things", "<init>", "()V"⟩
abbrev wsX2_init : List Cond := .code yX2_init cX2_init 1 none :: bigW
abbrev cX2_hasSerial : ByteArray := prog_4_method_2_code
abbrev yX2_hasSerial : MethodName := ⟨"HoseTests$Things", "hasSerial", "(I)Z"⟩
abbrev wsX2_hasSerial : List Cond := .code yX2_hasSerial cX2_hasSerial 3 (some .boolean) :: bigW
abbrev cX2_add : ByteArray := prog_4_method_3_code
abbrev yX2_add : MethodName := ⟨"HoseTests$Things", "add", "(IIIII)I"⟩
abbrev wsX2_add : List Cond := .code yX2_add cX2_add 8 (some .int) :: bigW
abbrev cX2_isScrapped : ByteArray := prog_4_method_4_code
abbrev yX2_isScrapped : MethodName := ⟨"HoseTests$Things", "isScrapped", "(I)Z"⟩
abbrev wsX2_isScrapped : List Cond := .code yX2_isScrapped cX2_isScrapped 2 (some .boolean) :: bigW
abbrev cX2_conditionOf : ByteArray := prog_4_method_5_code
abbrev yX2_conditionOf : MethodName := ⟨"HoseTests$Things", "conditionOf", "(I)I"⟩
abbrev wsX2_conditionOf : List Cond := .code yX2_conditionOf cX2_conditionOf 4 (some .int) :: bigW
abbrev cX2_countUse : ByteArray := prog_4_method_6_code
abbrev yX2_countUse : MethodName := ⟨"HoseTests$Things", "countUse", "(II)V"⟩
abbrev wsX2_countUse : List Cond := .code yX2_countUse cX2_countUse 5 none :: bigW
abbrev cX2_enterGrade : ByteArray := prog_4_method_7_code
abbrev yX2_enterGrade : MethodName := ⟨"HoseTests$Things", "enterGrade", "(IIII)I"⟩
abbrev wsX2_enterGrade : List Cond := .code yX2_enterGrade cX2_enterGrade 6 (some .int) :: bigW
abbrev cX2_countLeftOf : ByteArray := prog_4_method_8_code
abbrev yX2_countLeftOf : MethodName := ⟨"HoseTests$Things", "countLeftOf", "(I)I"⟩
abbrev wsX2_countLeftOf : List Cond := .code yX2_countLeftOf cX2_countLeftOf 4 (some .int) :: bigW
abbrev cX2_findLeftOf : ByteArray := prog_4_method_9_code
abbrev yX2_findLeftOf : MethodName := ⟨"HoseTests$Things", "findLeftOf", "(II)I"⟩
abbrev wsX2_findLeftOf : List Cond := .code yX2_findLeftOf cX2_findLeftOf 5 (some .int) :: bigW
abbrev cX2_isLeftOf : ByteArray := prog_4_method_10_code
abbrev yX2_isLeftOf : MethodName := ⟨"HoseTests$Things", "isLeftOf", "(II)Z"⟩
abbrev wsX2_isLeftOf : List Cond := .code yX2_isLeftOf cX2_isLeftOf 3 (some .boolean) :: bigW
abbrev cX2_countScrapped : ByteArray := prog_4_method_11_code
abbrev yX2_countScrapped : MethodName := ⟨"HoseTests$Things", "countScrapped", "(I)I"⟩
abbrev wsX2_countScrapped : List Cond := .code yX2_countScrapped cX2_countScrapped 4 (some .int) :: bigW
abbrev cX2_sumOfLives : ByteArray := prog_4_method_12_code
abbrev yX2_sumOfLives : MethodName := ⟨"HoseTests$Things", "sumOfLives", "(I)I"⟩
abbrev wsX2_sumOfLives : List Cond := .code yX2_sumOfLives cX2_sumOfLives 4 (some .int) :: bigW
abbrev cL_day : ByteArray := method_3_code
abbrev yL_day : MethodName := ⟨"HoseTestsLaw", "day", "(LHoseTests;I)I"⟩
abbrev wsL_day : List Cond := .codeWith yL_day cL_day 3 (some .int) [(0, 5, 8, 13)] :: bigW
abbrev cL_age : ByteArray := method_4_code
abbrev yL_age : MethodName := ⟨"HoseTestsLaw", "age", "(LHoseTests;II)I"⟩
abbrev wsL_age : List Cond := .codeWith yL_age cL_age 4 (some .int) [(0, 6, 9, 19), (0, 6, 12, 13)] :: bigW
abbrev cL_test : ByteArray := method_5_code
abbrev yL_test : MethodName := ⟨"HoseTestsLaw", "test", "(LHoseTests;IIII)I"⟩
abbrev wsL_test : List Cond := .codeWith yL_test cL_test 6 (some .int) [(0, 9, 12, 19), (0, 9, 16, 13)] :: bigW
abbrev cL_bounds : ByteArray := method_6_code
abbrev yL_bounds : MethodName := ⟨"HoseTestsLaw", "bounds", "(LHoseTests;IIII)I"⟩
abbrev wsL_bounds : List Cond := .codeWith yL_bounds cL_bounds 6 (some .int) [(0, 9, 12, 19), (0, 9, 16, 13)] :: bigW
abbrev cL_thing : ByteArray := method_7_code
abbrev yL_thing : MethodName := ⟨"HoseTestsLaw", "thing", "(LHoseTests;IIIIII[J)I"⟩
abbrev wsL_thing : List Cond := .codeWith yL_thing cL_thing 9 (some .int) [(0, 18, 21, 19), (0, 18, 25, 13), (0, 18, 29, 32), (0, 18, 33, 34)] :: bigW
abbrev cL_letter : ByteArray := method_8_code
abbrev yL_letter : MethodName := ⟨"HoseTestsLaw", "letter", "(LHoseTests;I[J)I"⟩
abbrev wsL_letter : List Cond := .codeWith yL_letter cL_letter 4 (some .int) [(0, 9, 12, 13)] :: bigW
abbrev cL_use : ByteArray := method_9_code
abbrev yL_use : MethodName := ⟨"HoseTestsLaw", "use", "(LHoseTests;I)I"⟩
abbrev wsL_use : List Cond := .codeWith yL_use cL_use 3 (some .int) [(0, 5, 8, 19), (0, 5, 11, 32)] :: bigW
abbrev cL_wash : ByteArray := method_10_code
abbrev yL_wash : MethodName := ⟨"HoseTestsLaw", "wash", "(LHoseTests;IZ[J)I"⟩
abbrev wsL_wash : List Cond := .codeWith yL_wash cL_wash 5 (some .int) [(0, 10, 13, 19), (0, 10, 17, 32)] :: bigW
abbrev cL_result : ByteArray := method_11_code
abbrev yL_result : MethodName := ⟨"HoseTestsLaw", "result", "(LHoseTests;III[J)I"⟩
abbrev wsL_result : List Cond := .codeWith yL_result cL_result 6 (some .int) [(0, 12, 15, 19), (0, 12, 19, 13), (0, 12, 23, 32)] :: bigW
abbrev cL_load : ByteArray := method_12_code
abbrev yL_load : MethodName := ⟨"HoseTestsLaw", "load", "(LHoseTests;II)I"⟩
abbrev wsL_load : List Cond := .codeWith yL_load cL_load 4 (some .int) [(0, 6, 9, 19), (0, 6, 12, 32)] :: bigW
abbrev cL_recall : ByteArray := method_13_code
abbrev yL_recall : MethodName := ⟨"HoseTestsLaw", "recall", "(LHoseTests;IZ[J)I"⟩
abbrev wsL_recall : List Cond := .codeWith yL_recall cL_recall 5 (some .int) [(0, 10, 13, 19), (0, 10, 17, 32)] :: bigW
abbrev cL_recalled : ByteArray := method_14_code
abbrev yL_recalled : MethodName := ⟨"HoseTestsLaw", "recalled", "(LHoseTests;II[J)I"⟩
abbrev wsL_recalled : List Cond := .codeWith yL_recalled cL_recalled 5 (some .int) [(0, 10, 13, 19), (0, 10, 17, 13)] :: bigW
abbrev cL_barred : ByteArray := method_15_code
abbrev yL_barred : MethodName := ⟨"HoseTestsLaw", "barred", "(LHoseTests;I[J)I"⟩
abbrev wsL_barred : List Cond := .codeWith yL_barred cL_barred 4 (some .int) [(0, 9, 12, 19)] :: bigW
abbrev cL_ends : ByteArray := method_16_code
abbrev yL_ends : MethodName := ⟨"HoseTestsLaw", "ends", "(LHoseTests;I[J)I"⟩
abbrev wsL_ends : List Cond := .codeWith yL_ends cL_ends 4 (some .int) [(0, 9, 12, 19)] :: bigW
abbrev cL_soon : ByteArray := method_17_code
abbrev yL_soon : MethodName := ⟨"HoseTestsLaw", "soon", "(LHoseTests;III[J)I"⟩
abbrev wsL_soon : List Cond := .codeWith yL_soon cL_soon 6 (some .int) [(0, 12, 15, 19), (0, 12, 19, 13)] :: bigW
abbrev cL_thingAt : ByteArray := method_18_code
abbrev yL_thingAt : MethodName := ⟨"HoseTestsLaw", "thingAt", "(LHoseTests;II[J)I"⟩
abbrev wsL_thingAt : List Cond := .codeWith yL_thingAt cL_thingAt 5 (some .int) [(0, 10, 13, 19)] :: bigW
abbrev cL_life : ByteArray := method_19_code
abbrev yL_life : MethodName := ⟨"HoseTestsLaw", "life", "(LHoseTests;II[J)I"⟩
abbrev wsL_life : List Cond := .codeWith yL_life cL_life 5 (some .int) [(0, 10, 13, 19), (0, 10, 17, 76)] :: bigW
abbrev cL_plan : ByteArray := method_20_code
abbrev yL_plan : MethodName := ⟨"HoseTestsLaw", "plan", "(LHoseTests;JIII[J)I"⟩
abbrev wsL_plan : List Cond := .codeWith yL_plan cL_plan 8 (some .int) [(0, 15, 18, 13)] :: bigW
abbrev cL_week : ByteArray := method_21_code
abbrev yL_week : MethodName := ⟨"HoseTestsLaw", "week", "(LHoseTests;I[J)I"⟩
abbrev wsL_week : List Cond := .codeWith yL_week cL_week 4 (some .int) [(0, 9, 12, 19)] :: bigW
abbrev cL_law : ByteArray := code
abbrev vwCl : List vw_C := [(RX0, TX0, 5), (RX1, TX1, 7), (RX2, TX2, 12), (RX3, TX3, 6), (RX4, TX4, 23)]
end
section
theorem dX3_init_0 : decode cX3_init 0 = .ok (.aload_n 0, 1) := by decide +kernel
theorem dX3_init_1 : decode cX3_init 1 = .ok (.invokespecial 3, 3) := by decide +kernel
theorem dX3_init_4 : decode cX3_init 4 = .ok (.aload_n 0, 1) := by decide +kernel
theorem dX3_init_5 : decode cX3_init 5 = .ok (.new 9, 3) := by decide +kernel
theorem dX3_init_8 : decode cX3_init 8 = .ok (.dup, 1) := by decide +kernel
theorem dX3_init_9 : decode cX3_init 9 = .ok (.invokespecial 11, 3) := by decide +kernel
theorem dX3_init_12 : decode cX3_init 12 = .ok (.putfield 12, 3) := by decide +kernel
theorem dX3_init_15 : decode cX3_init 15 = .ok (.aload_n 0, 1) := by decide +kernel
theorem dX3_init_16 : decode cX3_init 16 = .ok (.new 16, 3) := by decide +kernel
theorem dX3_init_19 : decode cX3_init 19 = .ok (.dup, 1) := by decide +kernel
theorem dX3_init_20 : decode cX3_init 20 = .ok (.invokespecial 18, 3) := by decide +kernel
theorem dX3_init_23 : decode cX3_init 23 = .ok (.putfield 19, 3) := by decide +kernel
theorem dX3_init_26 : decode cX3_init 26 = .ok (.aload_n 0, 1) := by decide +kernel
theorem dX3_init_27 : decode cX3_init 27 = .ok (.new 23, 3) := by decide +kernel
theorem dX3_init_30 : decode cX3_init 30 = .ok (.dup, 1) := by decide +kernel
theorem dX3_init_31 : decode cX3_init 31 = .ok (.invokespecial 25, 3) := by decide +kernel
theorem dX3_init_34 : decode cX3_init 34 = .ok (.putfield 26, 3) := by decide +kernel
theorem dX3_init_37 : decode cX3_init 37 = .ok (.aload_n 0, 1) := by decide +kernel
theorem dX3_init_38 : decode cX3_init 38 = .ok (.bipush 10, 2) := by decide +kernel
theorem dX3_init_40 : decode cX3_init 40 = .ok (.newarray .boolean, 2) := by decide +kernel
theorem dX3_init_42 : decode cX3_init 42 = .ok (.putfield 30, 3) := by decide +kernel
theorem dX3_init_45 : decode cX3_init 45 = .ok (.aload_n 0, 1) := by decide +kernel
theorem dX3_init_46 : decode cX3_init 46 = .ok (.bipush 40, 2) := by decide +kernel
theorem dX3_init_48 : decode cX3_init 48 = .ok (.newarray .int, 2) := by decide +kernel
theorem dX3_init_50 : decode cX3_init 50 = .ok (.putfield 34, 3) := by decide +kernel
theorem dX3_init_53 : decode cX3_init 53 = .ok (.aload_n 0, 1) := by decide +kernel
theorem dX3_init_54 : decode cX3_init 54 = .ok (.iconst 0, 1) := by decide +kernel
theorem dX3_init_55 : decode cX3_init 55 = .ok (.putfield 38, 3) := by decide +kernel
theorem dX3_init_58 : decode cX3_init 58 = .ok (.return_, 1) := by decide +kernel
theorem dX3_day_0 : decode cX3_day 0 = .ok (.iload_n 1, 1) := by decide +kernel
theorem dX3_day_1 : decode cX3_day 1 = .ok (.aload_n 0, 1) := by decide +kernel
theorem dX3_day_2 : decode cX3_day 2 = .ok (.getfield 38, 3) := by decide +kernel
theorem dX3_day_5 : decode cX3_day 5 = .ok (.ldc 42, 2) := by decide +kernel
theorem dX3_day_7 : decode cX3_day 7 = .ok (.invokestatic 43, 3) := by decide +kernel
theorem dX3_day_10 : decode cX3_day 10 = .ok (.aload_n 0, 1) := by decide +kernel
theorem dX3_day_11 : decode cX3_day 11 = .ok (.iload_n 1, 1) := by decide +kernel
theorem dX3_day_12 : decode cX3_day 12 = .ok (.putfield 38, 3) := by decide +kernel
theorem dX3_day_15 : decode cX3_day 15 = .ok (.return_, 1) := by decide +kernel
theorem dX3_age_0 : decode cX3_age 0 = .ok (.iload_n 1, 1) := by decide +kernel
theorem dX3_age_1 : decode cX3_age 1 = .ok (.iconst 5, 1) := by decide +kernel
theorem dX3_age_2 : decode cX3_age 2 = .ok (.invokestatic 47, 3) := by decide +kernel
theorem dX3_age_5 : decode cX3_age 5 = .ok (.iload_n 2, 1) := by decide +kernel
theorem dX3_age_6 : decode cX3_age 6 = .ok (.iconst 0, 1) := by decide +kernel
theorem dX3_age_7 : decode cX3_age 7 = .ok (.sipush 20000, 3) := by decide +kernel
theorem dX3_age_10 : decode cX3_age 10 = .ok (.invokestatic 43, 3) := by decide +kernel
theorem dX3_age_13 : decode cX3_age 13 = .ok (.aload_n 0, 1) := by decide +kernel
theorem dX3_age_14 : decode cX3_age 14 = .ok (.getfield 12, 3) := by decide +kernel
theorem dX3_age_17 : decode cX3_age 17 = .ok (.getfield 51, 3) := by decide +kernel
theorem dX3_age_20 : decode cX3_age 20 = .ok (.iload_n 1, 1) := by decide +kernel
theorem dX3_age_21 : decode cX3_age 21 = .ok (.iload_n 2, 1) := by decide +kernel
theorem dX3_age_22 : decode cX3_age 22 = .ok (.iastore, 1) := by decide +kernel
theorem dX3_age_23 : decode cX3_age 23 = .ok (.return_, 1) := by decide +kernel
theorem dX3_test_0 : decode cX3_test 0 = .ok (.iload_n 1, 1) := by decide +kernel
theorem dX3_test_1 : decode cX3_test 1 = .ok (.iconst 5, 1) := by decide +kernel
theorem dX3_test_2 : decode cX3_test 2 = .ok (.invokestatic 47, 3) := by decide +kernel
theorem dX3_test_5 : decode cX3_test 5 = .ok (.iload_n 2, 1) := by decide +kernel
theorem dX3_test_6 : decode cX3_test 6 = .ok (.iconst 3, 1) := by decide +kernel
theorem dX3_test_7 : decode cX3_test 7 = .ok (.invokestatic 47, 3) := by decide +kernel
theorem dX3_test_10 : decode cX3_test 10 = .ok (.iload_n 3, 1) := by decide +kernel
theorem dX3_test_11 : decode cX3_test 11 = .ok (.iconst 0, 1) := by decide +kernel
theorem dX3_test_12 : decode cX3_test 12 = .ok (.sipush 5000, 3) := by decide +kernel
theorem dX3_test_15 : decode cX3_test 15 = .ok (.invokestatic 43, 3) := by decide +kernel
theorem dX3_test_18 : decode cX3_test 18 = .ok (.iload 4, 2) := by decide +kernel
theorem dX3_test_20 : decode cX3_test 20 = .ok (.iconst 0, 1) := by decide +kernel
theorem dX3_test_21 : decode cX3_test 21 = .ok (.sipush 1000, 3) := by decide +kernel
theorem dX3_test_24 : decode cX3_test 24 = .ok (.invokestatic 43, 3) := by decide +kernel
theorem dX3_test_27 : decode cX3_test 27 = .ok (.iload_n 1, 1) := by decide +kernel
theorem dX3_test_28 : decode cX3_test 28 = .ok (.iconst 3, 1) := by decide +kernel
theorem dX3_test_29 : decode cX3_test 29 = .ok (.imul, 1) := by decide +kernel
theorem dX3_test_30 : decode cX3_test 30 = .ok (.iload_n 2, 1) := by decide +kernel
theorem dX3_test_31 : decode cX3_test 31 = .ok (.iadd, 1) := by decide +kernel
theorem dX3_test_32 : decode cX3_test 32 = .ok (.istore 5, 2) := by decide +kernel
theorem dX3_test_34 : decode cX3_test 34 = .ok (.aload_n 0, 1) := by decide +kernel
theorem dX3_test_35 : decode cX3_test 35 = .ok (.getfield 12, 3) := by decide +kernel
theorem dX3_test_38 : decode cX3_test 38 = .ok (.getfield 54, 3) := by decide +kernel
theorem dX3_test_41 : decode cX3_test 41 = .ok (.iload 5, 2) := by decide +kernel
theorem dX3_test_43 : decode cX3_test 43 = .ok (.iload_n 3, 1) := by decide +kernel
theorem dX3_test_44 : decode cX3_test 44 = .ok (.iastore, 1) := by decide +kernel
theorem dX3_test_45 : decode cX3_test 45 = .ok (.aload_n 0, 1) := by decide +kernel
theorem dX3_test_46 : decode cX3_test 46 = .ok (.getfield 12, 3) := by decide +kernel
theorem dX3_test_49 : decode cX3_test 49 = .ok (.getfield 57, 3) := by decide +kernel
theorem dX3_test_52 : decode cX3_test 52 = .ok (.iload 5, 2) := by decide +kernel
theorem dX3_test_54 : decode cX3_test 54 = .ok (.iload 4, 2) := by decide +kernel
theorem dX3_test_56 : decode cX3_test 56 = .ok (.iastore, 1) := by decide +kernel
theorem dX3_test_57 : decode cX3_test 57 = .ok (.return_, 1) := by decide +kernel
theorem dX3_bounds_0 : decode cX3_bounds 0 = .ok (.iload_n 1, 1) := by decide +kernel
theorem dX3_bounds_1 : decode cX3_bounds 1 = .ok (.iconst 5, 1) := by decide +kernel
theorem dX3_bounds_2 : decode cX3_bounds 2 = .ok (.invokestatic 47, 3) := by decide +kernel
theorem dX3_bounds_5 : decode cX3_bounds 5 = .ok (.iload_n 2, 1) := by decide +kernel
theorem dX3_bounds_6 : decode cX3_bounds 6 = .ok (.iconst 3, 1) := by decide +kernel
theorem dX3_bounds_7 : decode cX3_bounds 7 = .ok (.invokestatic 47, 3) := by decide +kernel
theorem dX3_bounds_10 : decode cX3_bounds 10 = .ok (.iload 4, 2) := by decide +kernel
theorem dX3_bounds_12 : decode cX3_bounds 12 = .ok (.iconst 0, 1) := by decide +kernel
theorem dX3_bounds_13 : decode cX3_bounds 13 = .ok (.sipush 10000, 3) := by decide +kernel
theorem dX3_bounds_16 : decode cX3_bounds 16 = .ok (.invokestatic 43, 3) := by decide +kernel
theorem dX3_bounds_19 : decode cX3_bounds 19 = .ok (.iload_n 3, 1) := by decide +kernel
theorem dX3_bounds_20 : decode cX3_bounds 20 = .ok (.iconst 0, 1) := by decide +kernel
theorem dX3_bounds_21 : decode cX3_bounds 21 = .ok (.iload 4, 2) := by decide +kernel
theorem dX3_bounds_23 : decode cX3_bounds 23 = .ok (.invokestatic 43, 3) := by decide +kernel
theorem dX3_bounds_26 : decode cX3_bounds 26 = .ok (.iload_n 1, 1) := by decide +kernel
theorem dX3_bounds_27 : decode cX3_bounds 27 = .ok (.iconst 3, 1) := by decide +kernel
theorem dX3_bounds_28 : decode cX3_bounds 28 = .ok (.imul, 1) := by decide +kernel
theorem dX3_bounds_29 : decode cX3_bounds 29 = .ok (.iload_n 2, 1) := by decide +kernel
theorem dX3_bounds_30 : decode cX3_bounds 30 = .ok (.iadd, 1) := by decide +kernel
theorem dX3_bounds_31 : decode cX3_bounds 31 = .ok (.istore 5, 2) := by decide +kernel
theorem dX3_bounds_33 : decode cX3_bounds 33 = .ok (.aload_n 0, 1) := by decide +kernel
theorem dX3_bounds_34 : decode cX3_bounds 34 = .ok (.getfield 12, 3) := by decide +kernel
theorem dX3_bounds_37 : decode cX3_bounds 37 = .ok (.getfield 60, 3) := by decide +kernel
theorem dX3_bounds_40 : decode cX3_bounds 40 = .ok (.iload 5, 2) := by decide +kernel
theorem dX3_bounds_42 : decode cX3_bounds 42 = .ok (.iload_n 3, 1) := by decide +kernel
theorem dX3_bounds_43 : decode cX3_bounds 43 = .ok (.iastore, 1) := by decide +kernel
theorem dX3_bounds_44 : decode cX3_bounds 44 = .ok (.aload_n 0, 1) := by decide +kernel
theorem dX3_bounds_45 : decode cX3_bounds 45 = .ok (.getfield 12, 3) := by decide +kernel
theorem dX3_bounds_48 : decode cX3_bounds 48 = .ok (.getfield 63, 3) := by decide +kernel
theorem dX3_bounds_51 : decode cX3_bounds 51 = .ok (.iload 5, 2) := by decide +kernel
theorem dX3_bounds_53 : decode cX3_bounds 53 = .ok (.iload 4, 2) := by decide +kernel
theorem dX3_bounds_55 : decode cX3_bounds 55 = .ok (.iastore, 1) := by decide +kernel
theorem dX3_bounds_56 : decode cX3_bounds 56 = .ok (.return_, 1) := by decide +kernel
theorem dX3_thing_0 : decode cX3_thing 0 = .ok (.iload_n 1, 1) := by decide +kernel
theorem dX3_thing_1 : decode cX3_thing 1 = .ok (.iconst 5, 1) := by decide +kernel
theorem dX3_thing_2 : decode cX3_thing 2 = .ok (.invokestatic 47, 3) := by decide +kernel
theorem dX3_thing_5 : decode cX3_thing 5 = .ok (.iload 4, 2) := by decide +kernel
theorem dX3_thing_7 : decode cX3_thing 7 = .ok (.bipush 10, 2) := by decide +kernel
theorem dX3_thing_9 : decode cX3_thing 9 = .ok (.invokestatic 47, 3) := by decide +kernel
theorem dX3_thing_12 : decode cX3_thing 12 = .ok (.iload 5, 2) := by decide +kernel
theorem dX3_thing_14 : decode cX3_thing 14 = .ok (.bipush 20, 2) := by decide +kernel
theorem dX3_thing_16 : decode cX3_thing 16 = .ok (.invokestatic 47, 3) := by decide +kernel
theorem dX3_thing_19 : decode cX3_thing 19 = .ok (.iload_n 2, 1) := by decide +kernel
theorem dX3_thing_20 : decode cX3_thing 20 = .ok (.iconst 0, 1) := by decide +kernel
theorem dX3_thing_21 : decode cX3_thing 21 = .ok (.ldc 66, 2) := by decide +kernel
theorem dX3_thing_23 : decode cX3_thing 23 = .ok (.invokestatic 43, 3) := by decide +kernel
theorem dX3_thing_26 : decode cX3_thing 26 = .ok (.iload 6, 2) := by decide +kernel
theorem dX3_thing_28 : decode cX3_thing 28 = .ok (.iconst 0, 1) := by decide +kernel
theorem dX3_thing_29 : decode cX3_thing 29 = .ok (.aload_n 0, 1) := by decide +kernel
theorem dX3_thing_30 : decode cX3_thing 30 = .ok (.getfield 38, 3) := by decide +kernel
theorem dX3_thing_33 : decode cX3_thing 33 = .ok (.invokestatic 43, 3) := by decide +kernel
theorem dX3_thing_36 : decode cX3_thing 36 = .ok (.iload_n 3, 1) := by decide +kernel
theorem dX3_thing_37 : decode cX3_thing 37 = .ok (.iload_n 2, 1) := by decide +kernel
theorem dX3_thing_38 : decode cX3_thing 38 = .ok (.invokestatic 67, 3) := by decide +kernel
theorem dX3_thing_41 : decode cX3_thing 41 = .ok (.if_icmp .ne 7, 3) := by decide +kernel
theorem dX3_thing_44 : decode cX3_thing 44 = .ok (.iconst 1, 1) := by decide +kernel
theorem dX3_thing_45 : decode cX3_thing 45 = .ok (.goto 4, 3) := by decide +kernel
theorem dX3_thing_48 : decode cX3_thing 48 = .ok (.iconst 0, 1) := by decide +kernel
theorem dX3_thing_49 : decode cX3_thing 49 = .ok (.invokestatic 71, 3) := by decide +kernel
theorem dX3_thing_52 : decode cX3_thing 52 = .ok (.aload_n 0, 1) := by decide +kernel
theorem dX3_thing_53 : decode cX3_thing 53 = .ok (.getfield 19, 3) := by decide +kernel
theorem dX3_thing_56 : decode cX3_thing 56 = .ok (.iload_n 2, 1) := by decide +kernel
theorem dX3_thing_57 : decode cX3_thing 57 = .ok (.invokevirtual 75, 3) := by decide +kernel
theorem dX3_thing_60 : decode cX3_thing 60 = .ok (.ifCond .ne 7, 3) := by decide +kernel
theorem dX3_thing_63 : decode cX3_thing 63 = .ok (.iconst 1, 1) := by decide +kernel
theorem dX3_thing_64 : decode cX3_thing 64 = .ok (.goto 4, 3) := by decide +kernel
theorem dX3_thing_67 : decode cX3_thing 67 = .ok (.iconst 0, 1) := by decide +kernel
theorem dX3_thing_68 : decode cX3_thing 68 = .ok (.invokestatic 71, 3) := by decide +kernel
theorem dX3_thing_71 : decode cX3_thing 71 = .ok (.aload_n 0, 1) := by decide +kernel
theorem dX3_thing_72 : decode cX3_thing 72 = .ok (.getfield 19, 3) := by decide +kernel
theorem dX3_thing_75 : decode cX3_thing 75 = .ok (.getfield 79, 3) := by decide +kernel
theorem dX3_thing_78 : decode cX3_thing 78 = .ok (.bipush 40, 2) := by decide +kernel
theorem dX3_thing_80 : decode cX3_thing 80 = .ok (.if_icmp .lt 13, 3) := by decide +kernel
theorem dX3_thing_83 : decode cX3_thing 83 = .ok (.new 82, 3) := by decide +kernel
theorem dX3_thing_86 : decode cX3_thing 86 = .ok (.dup, 1) := by decide +kernel
theorem dX3_thing_87 : decode cX3_thing 87 = .ok (.ldc 84, 2) := by decide +kernel
theorem dX3_thing_89 : decode cX3_thing 89 = .ok (.invokespecial 86, 3) := by decide +kernel
theorem dX3_thing_92 : decode cX3_thing 92 = .ok (.athrow, 1) := by decide +kernel
theorem dX3_thing_93 : decode cX3_thing 93 = .ok (.aload_n 0, 1) := by decide +kernel
theorem dX3_thing_94 : decode cX3_thing 94 = .ok (.getfield 19, 3) := by decide +kernel
theorem dX3_thing_97 : decode cX3_thing 97 = .ok (.iload_n 1, 1) := by decide +kernel
theorem dX3_thing_98 : decode cX3_thing 98 = .ok (.iload_n 2, 1) := by decide +kernel
theorem dX3_thing_99 : decode cX3_thing 99 = .ok (.iload 4, 2) := by decide +kernel
theorem dX3_thing_101 : decode cX3_thing 101 = .ok (.iload 5, 2) := by decide +kernel
theorem dX3_thing_103 : decode cX3_thing 103 = .ok (.iload 6, 2) := by decide +kernel
theorem dX3_thing_105 : decode cX3_thing 105 = .ok (.invokevirtual 89, 3) := by decide +kernel
theorem dX3_thing_108 : decode cX3_thing 108 = .ok (.ireturn, 1) := by decide +kernel
theorem dX3_letter_0 : decode cX3_letter 0 = .ok (.iload_n 1, 1) := by decide +kernel
theorem dX3_letter_1 : decode cX3_letter 1 = .ok (.iconst 0, 1) := by decide +kernel
theorem dX3_letter_2 : decode cX3_letter 2 = .ok (.ldc 66, 2) := by decide +kernel
theorem dX3_letter_4 : decode cX3_letter 4 = .ok (.invokestatic 43, 3) := by decide +kernel
theorem dX3_letter_7 : decode cX3_letter 7 = .ok (.iload_n 1, 1) := by decide +kernel
theorem dX3_letter_8 : decode cX3_letter 8 = .ok (.invokestatic 67, 3) := by decide +kernel
theorem dX3_letter_11 : decode cX3_letter 11 = .ok (.ireturn, 1) := by decide +kernel
theorem dX3_use_0 : decode cX3_use 0 = .ok (.iload_n 1, 1) := by decide +kernel
theorem dX3_use_1 : decode cX3_use 1 = .ok (.aload_n 0, 1) := by decide +kernel
theorem dX3_use_2 : decode cX3_use 2 = .ok (.getfield 19, 3) := by decide +kernel
theorem dX3_use_5 : decode cX3_use 5 = .ok (.getfield 79, 3) := by decide +kernel
theorem dX3_use_8 : decode cX3_use 8 = .ok (.invokestatic 47, 3) := by decide +kernel
theorem dX3_use_11 : decode cX3_use 11 = .ok (.aload_n 0, 1) := by decide +kernel
theorem dX3_use_12 : decode cX3_use 12 = .ok (.iload_n 1, 1) := by decide +kernel
theorem dX3_use_13 : decode cX3_use 13 = .ok (.invokevirtual 93, 3) := by decide +kernel
theorem dX3_use_16 : decode cX3_use 16 = .ok (.ifCond .ne 7, 3) := by decide +kernel
theorem dX3_use_19 : decode cX3_use 19 = .ok (.iconst 1, 1) := by decide +kernel
theorem dX3_use_20 : decode cX3_use 20 = .ok (.goto 4, 3) := by decide +kernel
theorem dX3_use_23 : decode cX3_use 23 = .ok (.iconst 0, 1) := by decide +kernel
theorem dX3_use_24 : decode cX3_use 24 = .ok (.invokestatic 71, 3) := by decide +kernel
theorem dX3_use_27 : decode cX3_use 27 = .ok (.aload_n 0, 1) := by decide +kernel
theorem dX3_use_28 : decode cX3_use 28 = .ok (.getfield 19, 3) := by decide +kernel
theorem dX3_use_31 : decode cX3_use 31 = .ok (.iload_n 1, 1) := by decide +kernel
theorem dX3_use_32 : decode cX3_use 32 = .ok (.aload_n 0, 1) := by decide +kernel
theorem dX3_use_33 : decode cX3_use 33 = .ok (.getfield 38, 3) := by decide +kernel
theorem dX3_use_36 : decode cX3_use 36 = .ok (.invokevirtual 96, 3) := by decide +kernel
theorem dX3_use_39 : decode cX3_use 39 = .ok (.return_, 1) := by decide +kernel
theorem dX3_wash_0 : decode cX3_wash 0 = .ok (.iload_n 1, 1) := by decide +kernel
theorem dX3_wash_1 : decode cX3_wash 1 = .ok (.aload_n 0, 1) := by decide +kernel
theorem dX3_wash_2 : decode cX3_wash 2 = .ok (.getfield 19, 3) := by decide +kernel
theorem dX3_wash_5 : decode cX3_wash 5 = .ok (.getfield 79, 3) := by decide +kernel
theorem dX3_wash_8 : decode cX3_wash 8 = .ok (.invokestatic 47, 3) := by decide +kernel
theorem dX3_wash_11 : decode cX3_wash 11 = .ok (.aload_n 0, 1) := by decide +kernel
theorem dX3_wash_12 : decode cX3_wash 12 = .ok (.getfield 19, 3) := by decide +kernel
theorem dX3_wash_15 : decode cX3_wash 15 = .ok (.iload_n 1, 1) := by decide +kernel
theorem dX3_wash_16 : decode cX3_wash 16 = .ok (.invokevirtual 99, 3) := by decide +kernel
theorem dX3_wash_19 : decode cX3_wash 19 = .ok (.ifCond .ne 7, 3) := by decide +kernel
theorem dX3_wash_22 : decode cX3_wash 22 = .ok (.iconst 1, 1) := by decide +kernel
theorem dX3_wash_23 : decode cX3_wash 23 = .ok (.goto 4, 3) := by decide +kernel
theorem dX3_wash_26 : decode cX3_wash 26 = .ok (.iconst 0, 1) := by decide +kernel
theorem dX3_wash_27 : decode cX3_wash 27 = .ok (.invokestatic 71, 3) := by decide +kernel
theorem dX3_wash_30 : decode cX3_wash 30 = .ok (.aload_n 0, 1) := by decide +kernel
theorem dX3_wash_31 : decode cX3_wash 31 = .ok (.getfield 19, 3) := by decide +kernel
theorem dX3_wash_34 : decode cX3_wash 34 = .ok (.getfield 102, 3) := by decide +kernel
theorem dX3_wash_37 : decode cX3_wash 37 = .ok (.iload_n 1, 1) := by decide +kernel
theorem dX3_wash_38 : decode cX3_wash 38 = .ok (.baload, 1) := by decide +kernel
theorem dX3_wash_39 : decode cX3_wash 39 = .ok (.iload_n 2, 1) := by decide +kernel
theorem dX3_wash_40 : decode cX3_wash 40 = .ok (.if_icmp .ne 7, 3) := by decide +kernel
theorem dX3_wash_43 : decode cX3_wash 43 = .ok (.iconst 1, 1) := by decide +kernel
theorem dX3_wash_44 : decode cX3_wash 44 = .ok (.goto 4, 3) := by decide +kernel
theorem dX3_wash_47 : decode cX3_wash 47 = .ok (.iconst 0, 1) := by decide +kernel
theorem dX3_wash_48 : decode cX3_wash 48 = .ok (.invokestatic 71, 3) := by decide +kernel
theorem dX3_wash_51 : decode cX3_wash 51 = .ok (.aload_n 0, 1) := by decide +kernel
theorem dX3_wash_52 : decode cX3_wash 52 = .ok (.getfield 19, 3) := by decide +kernel
theorem dX3_wash_55 : decode cX3_wash 55 = .ok (.getfield 102, 3) := by decide +kernel
theorem dX3_wash_58 : decode cX3_wash 58 = .ok (.iload_n 1, 1) := by decide +kernel
theorem dX3_wash_59 : decode cX3_wash 59 = .ok (.iload_n 2, 1) := by decide +kernel
theorem dX3_wash_60 : decode cX3_wash 60 = .ok (.ifCond .ne 7, 3) := by decide +kernel
theorem dX3_wash_63 : decode cX3_wash 63 = .ok (.iconst 1, 1) := by decide +kernel
theorem dX3_wash_64 : decode cX3_wash 64 = .ok (.goto 4, 3) := by decide +kernel
theorem dX3_wash_67 : decode cX3_wash 67 = .ok (.iconst 0, 1) := by decide +kernel
theorem dX3_wash_68 : decode cX3_wash 68 = .ok (.bastore, 1) := by decide +kernel
theorem dX3_wash_69 : decode cX3_wash 69 = .ok (.iload_n 2, 1) := by decide +kernel
theorem dX3_wash_70 : decode cX3_wash 70 = .ok (.ifCond .ne 16, 3) := by decide +kernel
theorem dX3_wash_73 : decode cX3_wash 73 = .ok (.aload_n 0, 1) := by decide +kernel
theorem dX3_wash_74 : decode cX3_wash 74 = .ok (.getfield 19, 3) := by decide +kernel
theorem dX3_wash_77 : decode cX3_wash 77 = .ok (.getfield 105, 3) := by decide +kernel
theorem dX3_wash_80 : decode cX3_wash 80 = .ok (.iload_n 1, 1) := by decide +kernel
theorem dX3_wash_81 : decode cX3_wash 81 = .ok (.dup2, 1) := by decide +kernel
theorem dX3_wash_82 : decode cX3_wash 82 = .ok (.iaload, 1) := by decide +kernel
theorem dX3_wash_83 : decode cX3_wash 83 = .ok (.iconst 1, 1) := by decide +kernel
theorem dX3_wash_84 : decode cX3_wash 84 = .ok (.iadd, 1) := by decide +kernel
theorem dX3_wash_85 : decode cX3_wash 85 = .ok (.iastore, 1) := by decide +kernel
theorem dX3_wash_86 : decode cX3_wash 86 = .ok (.aload_n 0, 1) := by decide +kernel
theorem dX3_wash_87 : decode cX3_wash 87 = .ok (.getfield 19, 3) := by decide +kernel
theorem dX3_wash_90 : decode cX3_wash 90 = .ok (.getfield 105, 3) := by decide +kernel
theorem dX3_wash_93 : decode cX3_wash 93 = .ok (.iload_n 1, 1) := by decide +kernel
theorem dX3_wash_94 : decode cX3_wash 94 = .ok (.iaload, 1) := by decide +kernel
theorem dX3_wash_95 : decode cX3_wash 95 = .ok (.ireturn, 1) := by decide +kernel
theorem dX3_result_0 : decode cX3_result 0 = .ok (.iload_n 1, 1) := by decide +kernel
theorem dX3_result_1 : decode cX3_result 1 = .ok (.aload_n 0, 1) := by decide +kernel
theorem dX3_result_2 : decode cX3_result 2 = .ok (.getfield 19, 3) := by decide +kernel
theorem dX3_result_5 : decode cX3_result 5 = .ok (.getfield 79, 3) := by decide +kernel
theorem dX3_result_8 : decode cX3_result 8 = .ok (.invokestatic 47, 3) := by decide +kernel
theorem dX3_result_11 : decode cX3_result 11 = .ok (.iload_n 2, 1) := by decide +kernel
theorem dX3_result_12 : decode cX3_result 12 = .ok (.iconst 3, 1) := by decide +kernel
theorem dX3_result_13 : decode cX3_result 13 = .ok (.invokestatic 47, 3) := by decide +kernel
theorem dX3_result_16 : decode cX3_result 16 = .ok (.iload_n 3, 1) := by decide +kernel
theorem dX3_result_17 : decode cX3_result 17 = .ok (.iconst 0, 1) := by decide +kernel
theorem dX3_result_18 : decode cX3_result 18 = .ok (.sipush 10000, 3) := by decide +kernel
theorem dX3_result_21 : decode cX3_result 21 = .ok (.invokestatic 43, 3) := by decide +kernel
theorem dX3_result_24 : decode cX3_result 24 = .ok (.aload_n 0, 1) := by decide +kernel
theorem dX3_result_25 : decode cX3_result 25 = .ok (.getfield 19, 3) := by decide +kernel
theorem dX3_result_28 : decode cX3_result 28 = .ok (.iload_n 1, 1) := by decide +kernel
theorem dX3_result_29 : decode cX3_result 29 = .ok (.invokevirtual 99, 3) := by decide +kernel
theorem dX3_result_32 : decode cX3_result 32 = .ok (.ifCond .ne 7, 3) := by decide +kernel
theorem dX3_result_35 : decode cX3_result 35 = .ok (.iconst 1, 1) := by decide +kernel
theorem dX3_result_36 : decode cX3_result 36 = .ok (.goto 4, 3) := by decide +kernel
theorem dX3_result_39 : decode cX3_result 39 = .ok (.iconst 0, 1) := by decide +kernel
theorem dX3_result_40 : decode cX3_result 40 = .ok (.invokestatic 71, 3) := by decide +kernel
theorem dX3_result_43 : decode cX3_result 43 = .ok (.aload_n 0, 1) := by decide +kernel
theorem dX3_result_44 : decode cX3_result 44 = .ok (.getfield 12, 3) := by decide +kernel
theorem dX3_result_47 : decode cX3_result 47 = .ok (.aload_n 0, 1) := by decide +kernel
theorem dX3_result_48 : decode cX3_result 48 = .ok (.getfield 19, 3) := by decide +kernel
theorem dX3_result_51 : decode cX3_result 51 = .ok (.getfield 108, 3) := by decide +kernel
theorem dX3_result_54 : decode cX3_result 54 = .ok (.iload_n 1, 1) := by decide +kernel
theorem dX3_result_55 : decode cX3_result 55 = .ok (.iaload, 1) := by decide +kernel
theorem dX3_result_56 : decode cX3_result 56 = .ok (.iload_n 2, 1) := by decide +kernel
theorem dX3_result_57 : decode cX3_result 57 = .ok (.iload_n 3, 1) := by decide +kernel
theorem dX3_result_58 : decode cX3_result 58 = .ok (.invokevirtual 111, 3) := by decide +kernel
theorem dX3_result_61 : decode cX3_result 61 = .ok (.istore 4, 2) := by decide +kernel
theorem dX3_result_63 : decode cX3_result 63 = .ok (.aload_n 0, 1) := by decide +kernel
theorem dX3_result_64 : decode cX3_result 64 = .ok (.getfield 19, 3) := by decide +kernel
theorem dX3_result_67 : decode cX3_result 67 = .ok (.iload_n 1, 1) := by decide +kernel
theorem dX3_result_68 : decode cX3_result 68 = .ok (.iload_n 2, 1) := by decide +kernel
theorem dX3_result_69 : decode cX3_result 69 = .ok (.iload 4, 2) := by decide +kernel
theorem dX3_result_71 : decode cX3_result 71 = .ok (.aload_n 0, 1) := by decide +kernel
theorem dX3_result_72 : decode cX3_result 72 = .ok (.getfield 38, 3) := by decide +kernel
theorem dX3_result_75 : decode cX3_result 75 = .ok (.invokevirtual 115, 3) := by decide +kernel
theorem dX3_result_78 : decode cX3_result 78 = .ok (.ireturn, 1) := by decide +kernel
theorem dX3_load_0 : decode cX3_load 0 = .ok (.iload_n 1, 1) := by decide +kernel
theorem dX3_load_1 : decode cX3_load 1 = .ok (.aload_n 0, 1) := by decide +kernel
theorem dX3_load_2 : decode cX3_load 2 = .ok (.getfield 19, 3) := by decide +kernel
theorem dX3_load_5 : decode cX3_load 5 = .ok (.getfield 79, 3) := by decide +kernel
theorem dX3_load_8 : decode cX3_load 8 = .ok (.invokestatic 47, 3) := by decide +kernel
theorem dX3_load_11 : decode cX3_load 11 = .ok (.iload_n 2, 1) := by decide +kernel
theorem dX3_load_12 : decode cX3_load 12 = .ok (.bipush 20, 2) := by decide +kernel
theorem dX3_load_14 : decode cX3_load 14 = .ok (.invokestatic 47, 3) := by decide +kernel
theorem dX3_load_17 : decode cX3_load 17 = .ok (.aload_n 0, 1) := by decide +kernel
theorem dX3_load_18 : decode cX3_load 18 = .ok (.iload_n 1, 1) := by decide +kernel
theorem dX3_load_19 : decode cX3_load 19 = .ok (.invokevirtual 93, 3) := by decide +kernel
theorem dX3_load_22 : decode cX3_load 22 = .ok (.ifCond .ne 7, 3) := by decide +kernel
theorem dX3_load_25 : decode cX3_load 25 = .ok (.iconst 1, 1) := by decide +kernel
theorem dX3_load_26 : decode cX3_load 26 = .ok (.goto 4, 3) := by decide +kernel
theorem dX3_load_29 : decode cX3_load 29 = .ok (.iconst 0, 1) := by decide +kernel
theorem dX3_load_30 : decode cX3_load 30 = .ok (.invokestatic 71, 3) := by decide +kernel
theorem dX3_load_33 : decode cX3_load 33 = .ok (.aload_n 0, 1) := by decide +kernel
theorem dX3_load_34 : decode cX3_load 34 = .ok (.getfield 19, 3) := by decide +kernel
theorem dX3_load_37 : decode cX3_load 37 = .ok (.getfield 119, 3) := by decide +kernel
theorem dX3_load_40 : decode cX3_load 40 = .ok (.iload_n 1, 1) := by decide +kernel
theorem dX3_load_41 : decode cX3_load 41 = .ok (.iload_n 2, 1) := by decide +kernel
theorem dX3_load_42 : decode cX3_load 42 = .ok (.iastore, 1) := by decide +kernel
theorem dX3_load_43 : decode cX3_load 43 = .ok (.return_, 1) := by decide +kernel
theorem dX3_recall_0 : decode cX3_recall 0 = .ok (.iload_n 1, 1) := by decide +kernel
theorem dX3_recall_1 : decode cX3_recall 1 = .ok (.bipush 10, 2) := by decide +kernel
theorem dX3_recall_3 : decode cX3_recall 3 = .ok (.invokestatic 47, 3) := by decide +kernel
theorem dX3_recall_6 : decode cX3_recall 6 = .ok (.aload_n 0, 1) := by decide +kernel
theorem dX3_recall_7 : decode cX3_recall 7 = .ok (.getfield 30, 3) := by decide +kernel
theorem dX3_recall_10 : decode cX3_recall 10 = .ok (.iload_n 1, 1) := by decide +kernel
theorem dX3_recall_11 : decode cX3_recall 11 = .ok (.baload, 1) := by decide +kernel
theorem dX3_recall_12 : decode cX3_recall 12 = .ok (.iload_n 2, 1) := by decide +kernel
theorem dX3_recall_13 : decode cX3_recall 13 = .ok (.if_icmp .eq 7, 3) := by decide +kernel
theorem dX3_recall_16 : decode cX3_recall 16 = .ok (.iconst 1, 1) := by decide +kernel
theorem dX3_recall_17 : decode cX3_recall 17 = .ok (.goto 4, 3) := by decide +kernel
theorem dX3_recall_20 : decode cX3_recall 20 = .ok (.iconst 0, 1) := by decide +kernel
theorem dX3_recall_21 : decode cX3_recall 21 = .ok (.invokestatic 71, 3) := by decide +kernel
theorem dX3_recall_24 : decode cX3_recall 24 = .ok (.aload_n 0, 1) := by decide +kernel
theorem dX3_recall_25 : decode cX3_recall 25 = .ok (.getfield 30, 3) := by decide +kernel
theorem dX3_recall_28 : decode cX3_recall 28 = .ok (.iload_n 1, 1) := by decide +kernel
theorem dX3_recall_29 : decode cX3_recall 29 = .ok (.iload_n 2, 1) := by decide +kernel
theorem dX3_recall_30 : decode cX3_recall 30 = .ok (.bastore, 1) := by decide +kernel
theorem dX3_recall_31 : decode cX3_recall 31 = .ok (.aload_n 0, 1) := by decide +kernel
theorem dX3_recall_32 : decode cX3_recall 32 = .ok (.getfield 19, 3) := by decide +kernel
theorem dX3_recall_35 : decode cX3_recall 35 = .ok (.iload_n 1, 1) := by decide +kernel
theorem dX3_recall_36 : decode cX3_recall 36 = .ok (.invokevirtual 122, 3) := by decide +kernel
theorem dX3_recall_39 : decode cX3_recall 39 = .ok (.ireturn, 1) := by decide +kernel
theorem dX3_recalled_0 : decode cX3_recalled 0 = .ok (.iload_n 1, 1) := by decide +kernel
theorem dX3_recalled_1 : decode cX3_recalled 1 = .ok (.bipush 10, 2) := by decide +kernel
theorem dX3_recalled_3 : decode cX3_recalled 3 = .ok (.invokestatic 47, 3) := by decide +kernel
theorem dX3_recalled_6 : decode cX3_recalled 6 = .ok (.iload_n 2, 1) := by decide +kernel
theorem dX3_recalled_7 : decode cX3_recalled 7 = .ok (.iconst 0, 1) := by decide +kernel
theorem dX3_recalled_8 : decode cX3_recalled 8 = .ok (.ldc 125, 2) := by decide +kernel
theorem dX3_recalled_10 : decode cX3_recalled 10 = .ok (.invokestatic 43, 3) := by decide +kernel
theorem dX3_recalled_13 : decode cX3_recalled 13 = .ok (.aload_n 0, 1) := by decide +kernel
theorem dX3_recalled_14 : decode cX3_recalled 14 = .ok (.getfield 19, 3) := by decide +kernel
theorem dX3_recalled_17 : decode cX3_recalled 17 = .ok (.iload_n 1, 1) := by decide +kernel
theorem dX3_recalled_18 : decode cX3_recalled 18 = .ok (.iload_n 2, 1) := by decide +kernel
theorem dX3_recalled_19 : decode cX3_recalled 19 = .ok (.invokevirtual 126, 3) := by decide +kernel
theorem dX3_recalled_22 : decode cX3_recalled 22 = .ok (.istore_n 3, 1) := by decide +kernel
theorem dX3_recalled_23 : decode cX3_recalled 23 = .ok (.iload_n 3, 1) := by decide +kernel
theorem dX3_recalled_24 : decode cX3_recalled 24 = .ok (.iconst (-1), 1) := by decide +kernel
theorem dX3_recalled_25 : decode cX3_recalled 25 = .ok (.if_icmp .ne 7, 3) := by decide +kernel
theorem dX3_recalled_28 : decode cX3_recalled 28 = .ok (.iconst (-1), 1) := by decide +kernel
theorem dX3_recalled_29 : decode cX3_recalled 29 = .ok (.goto 17, 3) := by decide +kernel
theorem dX3_recalled_32 : decode cX3_recalled 32 = .ok (.bipush 100, 2) := by decide +kernel
theorem dX3_recalled_34 : decode cX3_recalled 34 = .ok (.iload_n 3, 1) := by decide +kernel
theorem dX3_recalled_35 : decode cX3_recalled 35 = .ok (.imul, 1) := by decide +kernel
theorem dX3_recalled_36 : decode cX3_recalled 36 = .ok (.aload_n 0, 1) := by decide +kernel
theorem dX3_recalled_37 : decode cX3_recalled 37 = .ok (.getfield 19, 3) := by decide +kernel
theorem dX3_recalled_40 : decode cX3_recalled 40 = .ok (.getfield 119, 3) := by decide +kernel
theorem dX3_recalled_43 : decode cX3_recalled 43 = .ok (.iload_n 3, 1) := by decide +kernel
theorem dX3_recalled_44 : decode cX3_recalled 44 = .ok (.iaload, 1) := by decide +kernel
theorem dX3_recalled_45 : decode cX3_recalled 45 = .ok (.iadd, 1) := by decide +kernel
theorem dX3_recalled_46 : decode cX3_recalled 46 = .ok (.ireturn, 1) := by decide +kernel
theorem dX3_barred_0 : decode cX3_barred 0 = .ok (.iload_n 1, 1) := by decide +kernel
theorem dX3_barred_1 : decode cX3_barred 1 = .ok (.aload_n 0, 1) := by decide +kernel
theorem dX3_barred_2 : decode cX3_barred 2 = .ok (.getfield 19, 3) := by decide +kernel
theorem dX3_barred_5 : decode cX3_barred 5 = .ok (.getfield 79, 3) := by decide +kernel
theorem dX3_barred_8 : decode cX3_barred 8 = .ok (.invokestatic 47, 3) := by decide +kernel
theorem dX3_barred_11 : decode cX3_barred 11 = .ok (.aload_n 0, 1) := by decide +kernel
theorem dX3_barred_12 : decode cX3_barred 12 = .ok (.iload_n 1, 1) := by decide +kernel
theorem dX3_barred_13 : decode cX3_barred 13 = .ok (.invokevirtual 93, 3) := by decide +kernel
theorem dX3_barred_16 : decode cX3_barred 16 = .ok (.ireturn, 1) := by decide +kernel
theorem dX3_ends_0 : decode cX3_ends 0 = .ok (.iload_n 1, 1) := by decide +kernel
theorem dX3_ends_1 : decode cX3_ends 1 = .ok (.aload_n 0, 1) := by decide +kernel
theorem dX3_ends_2 : decode cX3_ends 2 = .ok (.getfield 19, 3) := by decide +kernel
theorem dX3_ends_5 : decode cX3_ends 5 = .ok (.getfield 79, 3) := by decide +kernel
theorem dX3_ends_8 : decode cX3_ends 8 = .ok (.invokestatic 47, 3) := by decide +kernel
theorem dX3_ends_11 : decode cX3_ends 11 = .ok (.aload_n 0, 1) := by decide +kernel
theorem dX3_ends_12 : decode cX3_ends 12 = .ok (.iload_n 1, 1) := by decide +kernel
theorem dX3_ends_13 : decode cX3_ends 13 = .ok (.invokevirtual 130, 3) := by decide +kernel
theorem dX3_ends_16 : decode cX3_ends 16 = .ok (.ireturn, 1) := by decide +kernel
theorem dX3_soon_0 : decode cX3_soon 0 = .ok (.iload_n 1, 1) := by decide +kernel
theorem dX3_soon_1 : decode cX3_soon 1 = .ok (.bipush 20, 2) := by decide +kernel
theorem dX3_soon_3 : decode cX3_soon 3 = .ok (.invokestatic 47, 3) := by decide +kernel
theorem dX3_soon_6 : decode cX3_soon 6 = .ok (.iload_n 2, 1) := by decide +kernel
theorem dX3_soon_7 : decode cX3_soon 7 = .ok (.iconst 0, 1) := by decide +kernel
theorem dX3_soon_8 : decode cX3_soon 8 = .ok (.sipush 30000, 3) := by decide +kernel
theorem dX3_soon_11 : decode cX3_soon 11 = .ok (.invokestatic 43, 3) := by decide +kernel
theorem dX3_soon_14 : decode cX3_soon 14 = .ok (.iload_n 3, 1) := by decide +kernel
theorem dX3_soon_15 : decode cX3_soon 15 = .ok (.iconst 0, 1) := by decide +kernel
theorem dX3_soon_16 : decode cX3_soon 16 = .ok (.ldc 125, 2) := by decide +kernel
theorem dX3_soon_18 : decode cX3_soon 18 = .ok (.invokestatic 43, 3) := by decide +kernel
theorem dX3_soon_21 : decode cX3_soon 21 = .ok (.aload_n 0, 1) := by decide +kernel
theorem dX3_soon_22 : decode cX3_soon 22 = .ok (.iload_n 1, 1) := by decide +kernel
theorem dX3_soon_23 : decode cX3_soon 23 = .ok (.aload_n 0, 1) := by decide +kernel
theorem dX3_soon_24 : decode cX3_soon 24 = .ok (.getfield 38, 3) := by decide +kernel
theorem dX3_soon_27 : decode cX3_soon 27 = .ok (.iload_n 2, 1) := by decide +kernel
theorem dX3_soon_28 : decode cX3_soon 28 = .ok (.iadd, 1) := by decide +kernel
theorem dX3_soon_29 : decode cX3_soon 29 = .ok (.invokevirtual 133, 3) := by decide +kernel
theorem dX3_soon_32 : decode cX3_soon 32 = .ok (.iconst 0, 1) := by decide +kernel
theorem dX3_soon_33 : decode cX3_soon 33 = .ok (.istore 4, 2) := by decide +kernel
theorem dX3_soon_35 : decode cX3_soon 35 = .ok (.iload 4, 2) := by decide +kernel
theorem dX3_soon_37 : decode cX3_soon 37 = .ok (.aload_n 0, 1) := by decide +kernel
theorem dX3_soon_38 : decode cX3_soon 38 = .ok (.getfield 19, 3) := by decide +kernel
theorem dX3_soon_41 : decode cX3_soon 41 = .ok (.getfield 79, 3) := by decide +kernel
theorem dX3_soon_44 : decode cX3_soon 44 = .ok (.if_icmp .ge 33, 3) := by decide +kernel
theorem dX3_soon_47 : decode cX3_soon 47 = .ok (.aload_n 0, 1) := by decide +kernel
theorem dX3_soon_48 : decode cX3_soon 48 = .ok (.getfield 34, 3) := by decide +kernel
theorem dX3_soon_51 : decode cX3_soon 51 = .ok (.iload 4, 2) := by decide +kernel
theorem dX3_soon_53 : decode cX3_soon 53 = .ok (.iaload, 1) := by decide +kernel
theorem dX3_soon_54 : decode cX3_soon 54 = .ok (.iconst (-1), 1) := by decide +kernel
theorem dX3_soon_55 : decode cX3_soon 55 = .ok (.if_icmp .eq 16, 3) := by decide +kernel
theorem dX3_soon_58 : decode cX3_soon 58 = .ok (.aload_n 0, 1) := by decide +kernel
theorem dX3_soon_59 : decode cX3_soon 59 = .ok (.iload 4, 2) := by decide +kernel
theorem dX3_soon_61 : decode cX3_soon 61 = .ok (.invokevirtual 136, 3) := by decide +kernel
theorem dX3_soon_64 : decode cX3_soon 64 = .ok (.iload_n 3, 1) := by decide +kernel
theorem dX3_soon_65 : decode cX3_soon 65 = .ok (.if_icmp .ne 6, 3) := by decide +kernel
theorem dX3_soon_68 : decode cX3_soon 68 = .ok (.iload 4, 2) := by decide +kernel
theorem dX3_soon_70 : decode cX3_soon 70 = .ok (.ireturn, 1) := by decide +kernel
theorem dX3_soon_71 : decode cX3_soon 71 = .ok (.iinc 4 1, 3) := by decide +kernel
theorem dX3_soon_74 : decode cX3_soon 74 = .ok (.goto (-39), 3) := by decide +kernel
theorem dX3_soon_77 : decode cX3_soon 77 = .ok (.iconst (-1), 1) := by decide +kernel
theorem dX3_soon_78 : decode cX3_soon 78 = .ok (.ireturn, 1) := by decide +kernel
theorem dX3_thingAt_0 : decode cX3_thingAt 0 = .ok (.iload_n 1, 1) := by decide +kernel
theorem dX3_thingAt_1 : decode cX3_thingAt 1 = .ok (.aload_n 0, 1) := by decide +kernel
theorem dX3_thingAt_2 : decode cX3_thingAt 2 = .ok (.getfield 19, 3) := by decide +kernel
theorem dX3_thingAt_5 : decode cX3_thingAt 5 = .ok (.getfield 79, 3) := by decide +kernel
theorem dX3_thingAt_8 : decode cX3_thingAt 8 = .ok (.invokestatic 47, 3) := by decide +kernel
theorem dX3_thingAt_11 : decode cX3_thingAt 11 = .ok (.iload_n 2, 1) := by decide +kernel
theorem dX3_thingAt_12 : decode cX3_thingAt 12 = .ok (.tableswitch 150 0 10 #[60, 69, 79, 89, 107, 107, 107, 123, 123, 123, 140], 60) := by decide +kernel
theorem dX3_thingAt_72 : decode cX3_thingAt 72 = .ok (.aload_n 0, 1) := by decide +kernel
theorem dX3_thingAt_73 : decode cX3_thingAt 73 = .ok (.getfield 19, 3) := by decide +kernel
theorem dX3_thingAt_76 : decode cX3_thingAt 76 = .ok (.iload_n 1, 1) := by decide +kernel
theorem dX3_thingAt_77 : decode cX3_thingAt 77 = .ok (.invokevirtual 139, 3) := by decide +kernel
theorem dX3_thingAt_80 : decode cX3_thingAt 80 = .ok (.ireturn, 1) := by decide +kernel
theorem dX3_thingAt_81 : decode cX3_thingAt 81 = .ok (.aload_n 0, 1) := by decide +kernel
theorem dX3_thingAt_82 : decode cX3_thingAt 82 = .ok (.getfield 19, 3) := by decide +kernel
theorem dX3_thingAt_85 : decode cX3_thingAt 85 = .ok (.getfield 119, 3) := by decide +kernel
theorem dX3_thingAt_88 : decode cX3_thingAt 88 = .ok (.iload_n 1, 1) := by decide +kernel
theorem dX3_thingAt_89 : decode cX3_thingAt 89 = .ok (.iaload, 1) := by decide +kernel
theorem dX3_thingAt_90 : decode cX3_thingAt 90 = .ok (.ireturn, 1) := by decide +kernel
theorem dX3_thingAt_91 : decode cX3_thingAt 91 = .ok (.aload_n 0, 1) := by decide +kernel
theorem dX3_thingAt_92 : decode cX3_thingAt 92 = .ok (.getfield 19, 3) := by decide +kernel
theorem dX3_thingAt_95 : decode cX3_thingAt 95 = .ok (.getfield 105, 3) := by decide +kernel
theorem dX3_thingAt_98 : decode cX3_thingAt 98 = .ok (.iload_n 1, 1) := by decide +kernel
theorem dX3_thingAt_99 : decode cX3_thingAt 99 = .ok (.iaload, 1) := by decide +kernel
theorem dX3_thingAt_100 : decode cX3_thingAt 100 = .ok (.ireturn, 1) := by decide +kernel
theorem dX3_thingAt_101 : decode cX3_thingAt 101 = .ok (.aload_n 0, 1) := by decide +kernel
theorem dX3_thingAt_102 : decode cX3_thingAt 102 = .ok (.getfield 19, 3) := by decide +kernel
theorem dX3_thingAt_105 : decode cX3_thingAt 105 = .ok (.getfield 102, 3) := by decide +kernel
theorem dX3_thingAt_108 : decode cX3_thingAt 108 = .ok (.iload_n 1, 1) := by decide +kernel
theorem dX3_thingAt_109 : decode cX3_thingAt 109 = .ok (.baload, 1) := by decide +kernel
theorem dX3_thingAt_110 : decode cX3_thingAt 110 = .ok (.ifCond .eq 7, 3) := by decide +kernel
theorem dX3_thingAt_113 : decode cX3_thingAt 113 = .ok (.iconst 1, 1) := by decide +kernel
theorem dX3_thingAt_114 : decode cX3_thingAt 114 = .ok (.goto 4, 3) := by decide +kernel
theorem dX3_thingAt_117 : decode cX3_thingAt 117 = .ok (.iconst 0, 1) := by decide +kernel
theorem dX3_thingAt_118 : decode cX3_thingAt 118 = .ok (.ireturn, 1) := by decide +kernel
theorem dX3_thingAt_119 : decode cX3_thingAt 119 = .ok (.aload_n 0, 1) := by decide +kernel
theorem dX3_thingAt_120 : decode cX3_thingAt 120 = .ok (.getfield 19, 3) := by decide +kernel
theorem dX3_thingAt_123 : decode cX3_thingAt 123 = .ok (.getfield 142, 3) := by decide +kernel
theorem dX3_thingAt_126 : decode cX3_thingAt 126 = .ok (.iload_n 1, 1) := by decide +kernel
theorem dX3_thingAt_127 : decode cX3_thingAt 127 = .ok (.iconst 3, 1) := by decide +kernel
theorem dX3_thingAt_128 : decode cX3_thingAt 128 = .ok (.imul, 1) := by decide +kernel
theorem dX3_thingAt_129 : decode cX3_thingAt 129 = .ok (.iload_n 2, 1) := by decide +kernel
theorem dX3_thingAt_130 : decode cX3_thingAt 130 = .ok (.iadd, 1) := by decide +kernel
theorem dX3_thingAt_131 : decode cX3_thingAt 131 = .ok (.iconst 4, 1) := by decide +kernel
theorem dX3_thingAt_132 : decode cX3_thingAt 132 = .ok (.isub, 1) := by decide +kernel
theorem dX3_thingAt_133 : decode cX3_thingAt 133 = .ok (.iaload, 1) := by decide +kernel
theorem dX3_thingAt_134 : decode cX3_thingAt 134 = .ok (.ireturn, 1) := by decide +kernel
theorem dX3_thingAt_135 : decode cX3_thingAt 135 = .ok (.aload_n 0, 1) := by decide +kernel
theorem dX3_thingAt_136 : decode cX3_thingAt 136 = .ok (.getfield 19, 3) := by decide +kernel
theorem dX3_thingAt_139 : decode cX3_thingAt 139 = .ok (.getfield 145, 3) := by decide +kernel
theorem dX3_thingAt_142 : decode cX3_thingAt 142 = .ok (.iload_n 1, 1) := by decide +kernel
theorem dX3_thingAt_143 : decode cX3_thingAt 143 = .ok (.iconst 3, 1) := by decide +kernel
theorem dX3_thingAt_144 : decode cX3_thingAt 144 = .ok (.imul, 1) := by decide +kernel
theorem dX3_thingAt_145 : decode cX3_thingAt 145 = .ok (.iload_n 2, 1) := by decide +kernel
theorem dX3_thingAt_146 : decode cX3_thingAt 146 = .ok (.iadd, 1) := by decide +kernel
theorem dX3_thingAt_147 : decode cX3_thingAt 147 = .ok (.bipush 7, 2) := by decide +kernel
theorem dX3_thingAt_149 : decode cX3_thingAt 149 = .ok (.isub, 1) := by decide +kernel
theorem dX3_thingAt_150 : decode cX3_thingAt 150 = .ok (.iaload, 1) := by decide +kernel
theorem dX3_thingAt_151 : decode cX3_thingAt 151 = .ok (.ireturn, 1) := by decide +kernel
theorem dX3_thingAt_152 : decode cX3_thingAt 152 = .ok (.aload_n 0, 1) := by decide +kernel
theorem dX3_thingAt_153 : decode cX3_thingAt 153 = .ok (.getfield 19, 3) := by decide +kernel
theorem dX3_thingAt_156 : decode cX3_thingAt 156 = .ok (.getfield 148, 3) := by decide +kernel
theorem dX3_thingAt_159 : decode cX3_thingAt 159 = .ok (.iload_n 1, 1) := by decide +kernel
theorem dX3_thingAt_160 : decode cX3_thingAt 160 = .ok (.iaload, 1) := by decide +kernel
theorem dX3_thingAt_161 : decode cX3_thingAt 161 = .ok (.ireturn, 1) := by decide +kernel
theorem dX3_thingAt_162 : decode cX3_thingAt 162 = .ok (.new 151, 3) := by decide +kernel
theorem dX3_thingAt_165 : decode cX3_thingAt 165 = .ok (.dup, 1) := by decide +kernel
theorem dX3_thingAt_166 : decode cX3_thingAt 166 = .ok (.ldc 153, 2) := by decide +kernel
theorem dX3_thingAt_168 : decode cX3_thingAt 168 = .ok (.invokespecial 155, 3) := by decide +kernel
theorem dX3_thingAt_171 : decode cX3_thingAt 171 = .ok (.athrow, 1) := by decide +kernel
theorem dX3_life_0 : decode cX3_life 0 = .ok (.iload_n 1, 1) := by decide +kernel
theorem dX3_life_1 : decode cX3_life 1 = .ok (.iconst 5, 1) := by decide +kernel
theorem dX3_life_2 : decode cX3_life 2 = .ok (.invokestatic 47, 3) := by decide +kernel
theorem dX3_life_5 : decode cX3_life 5 = .ok (.iload_n 2, 1) := by decide +kernel
theorem dX3_life_6 : decode cX3_life 6 = .ok (.iconst 2, 1) := by decide +kernel
end
section
theorem dX3_life_7 : decode cX3_life 7 = .ok (.invokestatic 47, 3) := by decide +kernel
theorem dX3_life_10 : decode cX3_life 10 = .ok (.aload_n 0, 1) := by decide +kernel
theorem dX3_life_11 : decode cX3_life 11 = .ok (.getfield 19, 3) := by decide +kernel
theorem dX3_life_14 : decode cX3_life 14 = .ok (.iload_n 1, 1) := by decide +kernel
theorem dX3_life_15 : decode cX3_life 15 = .ok (.invokevirtual 156, 3) := by decide +kernel
theorem dX3_life_18 : decode cX3_life 18 = .ok (.istore_n 3, 1) := by decide +kernel
theorem dX3_life_19 : decode cX3_life 19 = .ok (.iload_n 3, 1) := by decide +kernel
theorem dX3_life_20 : decode cX3_life 20 = .ok (.ifCond .ne 13, 3) := by decide +kernel
theorem dX3_life_23 : decode cX3_life 23 = .ok (.new 159, 3) := by decide +kernel
theorem dX3_life_26 : decode cX3_life 26 = .ok (.dup, 1) := by decide +kernel
theorem dX3_life_27 : decode cX3_life 27 = .ok (.ldc 161, 2) := by decide +kernel
theorem dX3_life_29 : decode cX3_life 29 = .ok (.invokespecial 163, 3) := by decide +kernel
theorem dX3_life_32 : decode cX3_life 32 = .ok (.athrow, 1) := by decide +kernel
theorem dX3_life_33 : decode cX3_life 33 = .ok (.aload_n 0, 1) := by decide +kernel
theorem dX3_life_34 : decode cX3_life 34 = .ok (.getfield 19, 3) := by decide +kernel
theorem dX3_life_37 : decode cX3_life 37 = .ok (.iload_n 1, 1) := by decide +kernel
theorem dX3_life_38 : decode cX3_life 38 = .ok (.invokevirtual 164, 3) := by decide +kernel
theorem dX3_life_41 : decode cX3_life 41 = .ok (.istore 4, 2) := by decide +kernel
theorem dX3_life_43 : decode cX3_life 43 = .ok (.iload 4, 2) := by decide +kernel
theorem dX3_life_45 : decode cX3_life 45 = .ok (.iload_n 3, 1) := by decide +kernel
theorem dX3_life_46 : decode cX3_life 46 = .ok (.invokestatic 167, 3) := by decide +kernel
theorem dX3_life_49 : decode cX3_life 49 = .ok (.istore 5, 2) := by decide +kernel
theorem dX3_life_51 : decode cX3_life 51 = .ok (.iload_n 2, 1) := by decide +kernel
theorem dX3_life_52 : decode cX3_life 52 = .ok (.ifCond .ne 8, 3) := by decide +kernel
theorem dX3_life_55 : decode cX3_life 55 = .ok (.iload 4, 2) := by decide +kernel
theorem dX3_life_57 : decode cX3_life 57 = .ok (.goto 4, 3) := by decide +kernel
theorem dX3_life_60 : decode cX3_life 60 = .ok (.iload_n 3, 1) := by decide +kernel
theorem dX3_life_61 : decode cX3_life 61 = .ok (.iload 5, 2) := by decide +kernel
theorem dX3_life_63 : decode cX3_life 63 = .ok (.idiv, 1) := by decide +kernel
theorem dX3_life_64 : decode cX3_life 64 = .ok (.ireturn, 1) := by decide +kernel
theorem dX3_plan_0 : decode cX3_plan 0 = .ok (.iload 4, 2) := by decide +kernel
theorem dX3_plan_2 : decode cX3_plan 2 = .ok (.iconst 0, 1) := by decide +kernel
theorem dX3_plan_3 : decode cX3_plan 3 = .ok (.bipush 6, 2) := by decide +kernel
theorem dX3_plan_5 : decode cX3_plan 5 = .ok (.invokestatic 43, 3) := by decide +kernel
theorem dX3_plan_8 : decode cX3_plan 8 = .ok (.iload 5, 2) := by decide +kernel
theorem dX3_plan_10 : decode cX3_plan 10 = .ok (.iconst 1, 1) := by decide +kernel
theorem dX3_plan_11 : decode cX3_plan 11 = .ok (.iconst 4, 1) := by decide +kernel
theorem dX3_plan_12 : decode cX3_plan 12 = .ok (.invokestatic 43, 3) := by decide +kernel
theorem dX3_plan_15 : decode cX3_plan 15 = .ok (.aload_n 0, 1) := by decide +kernel
theorem dX3_plan_16 : decode cX3_plan 16 = .ok (.getfield 26, 3) := by decide +kernel
theorem dX3_plan_19 : decode cX3_plan 19 = .ok (.lload_n 1, 1) := by decide +kernel
theorem dX3_plan_20 : decode cX3_plan 20 = .ok (.iload_n 3, 1) := by decide +kernel
theorem dX3_plan_21 : decode cX3_plan 21 = .ok (.iload 4, 2) := by decide +kernel
theorem dX3_plan_23 : decode cX3_plan 23 = .ok (.iload 5, 2) := by decide +kernel
theorem dX3_plan_25 : decode cX3_plan 25 = .ok (.invokevirtual 170, 3) := by decide +kernel
theorem dX3_plan_28 : decode cX3_plan 28 = .ok (.ireturn, 1) := by decide +kernel
theorem dX3_week_0 : decode cX3_week 0 = .ok (.iload_n 1, 1) := by decide +kernel
theorem dX3_week_1 : decode cX3_week 1 = .ok (.aload_n 0, 1) := by decide +kernel
theorem dX3_week_2 : decode cX3_week 2 = .ok (.getfield 26, 3) := by decide +kernel
theorem dX3_week_5 : decode cX3_week 5 = .ok (.getfield 174, 3) := by decide +kernel
theorem dX3_week_8 : decode cX3_week 8 = .ok (.invokestatic 47, 3) := by decide +kernel
theorem dX3_week_11 : decode cX3_week 11 = .ok (.aload_n 0, 1) := by decide +kernel
theorem dX3_week_12 : decode cX3_week 12 = .ok (.getfield 26, 3) := by decide +kernel
theorem dX3_week_15 : decode cX3_week 15 = .ok (.getfield 177, 3) := by decide +kernel
theorem dX3_week_18 : decode cX3_week 18 = .ok (.iload_n 1, 1) := by decide +kernel
theorem dX3_week_19 : decode cX3_week 19 = .ok (.iaload, 1) := by decide +kernel
theorem dX3_week_20 : decode cX3_week 20 = .ok (.ireturn, 1) := by decide +kernel
theorem dX3_needKnown_0 : decode cX3_needKnown 0 = .ok (.iload_n 0, 1) := by decide +kernel
theorem dX3_needKnown_1 : decode cX3_needKnown 1 = .ok (.ifCond .lt 8, 3) := by decide +kernel
theorem dX3_needKnown_4 : decode cX3_needKnown 4 = .ok (.iload_n 0, 1) := by decide +kernel
theorem dX3_needKnown_5 : decode cX3_needKnown 5 = .ok (.iload_n 1, 1) := by decide +kernel
theorem dX3_needKnown_6 : decode cX3_needKnown 6 = .ok (.if_icmp .lt 13, 3) := by decide +kernel
theorem dX3_needKnown_9 : decode cX3_needKnown 9 = .ok (.new 151, 3) := by decide +kernel
theorem dX3_needKnown_12 : decode cX3_needKnown 12 = .ok (.dup, 1) := by decide +kernel
theorem dX3_needKnown_13 : decode cX3_needKnown 13 = .ok (.ldc 180, 2) := by decide +kernel
theorem dX3_needKnown_15 : decode cX3_needKnown 15 = .ok (.invokespecial 155, 3) := by decide +kernel
theorem dX3_needKnown_18 : decode cX3_needKnown 18 = .ok (.athrow, 1) := by decide +kernel
theorem dX3_needKnown_19 : decode cX3_needKnown 19 = .ok (.return_, 1) := by decide +kernel
theorem dX3_needRange_0 : decode cX3_needRange 0 = .ok (.iload_n 0, 1) := by decide +kernel
theorem dX3_needRange_1 : decode cX3_needRange 1 = .ok (.iload_n 1, 1) := by decide +kernel
theorem dX3_needRange_2 : decode cX3_needRange 2 = .ok (.if_icmp .lt 8, 3) := by decide +kernel
theorem dX3_needRange_5 : decode cX3_needRange 5 = .ok (.iload_n 0, 1) := by decide +kernel
theorem dX3_needRange_6 : decode cX3_needRange 6 = .ok (.iload_n 2, 1) := by decide +kernel
theorem dX3_needRange_7 : decode cX3_needRange 7 = .ok (.if_icmp .le 13, 3) := by decide +kernel
theorem dX3_needRange_10 : decode cX3_needRange 10 = .ok (.new 182, 3) := by decide +kernel
theorem dX3_needRange_13 : decode cX3_needRange 13 = .ok (.dup, 1) := by decide +kernel
theorem dX3_needRange_14 : decode cX3_needRange 14 = .ok (.ldc 184, 2) := by decide +kernel
theorem dX3_needRange_16 : decode cX3_needRange 16 = .ok (.invokespecial 186, 3) := by decide +kernel
theorem dX3_needRange_19 : decode cX3_needRange 19 = .ok (.athrow, 1) := by decide +kernel
theorem dX3_needRange_20 : decode cX3_needRange 20 = .ok (.return_, 1) := by decide +kernel
theorem dX3_needState_0 : decode cX3_needState 0 = .ok (.iload_n 0, 1) := by decide +kernel
theorem dX3_needState_1 : decode cX3_needState 1 = .ok (.ifCond .ne 13, 3) := by decide +kernel
theorem dX3_needState_4 : decode cX3_needState 4 = .ok (.new 187, 3) := by decide +kernel
theorem dX3_needState_7 : decode cX3_needState 7 = .ok (.dup, 1) := by decide +kernel
theorem dX3_needState_8 : decode cX3_needState 8 = .ok (.ldc 189, 2) := by decide +kernel
theorem dX3_needState_10 : decode cX3_needState 10 = .ok (.invokespecial 191, 3) := by decide +kernel
theorem dX3_needState_13 : decode cX3_needState 13 = .ok (.athrow, 1) := by decide +kernel
theorem dX3_needState_14 : decode cX3_needState 14 = .ok (.return_, 1) := by decide +kernel
theorem dX3_checkLetter_0 : decode cX3_checkLetter 0 = .ok (.iload_n 0, 1) := by decide +kernel
theorem dX3_checkLetter_1 : decode cX3_checkLetter 1 = .ok (.istore_n 1, 1) := by decide +kernel
theorem dX3_checkLetter_2 : decode cX3_checkLetter 2 = .ok (.iconst 0, 1) := by decide +kernel
theorem dX3_checkLetter_3 : decode cX3_checkLetter 3 = .ok (.istore_n 2, 1) := by decide +kernel
theorem dX3_checkLetter_4 : decode cX3_checkLetter 4 = .ok (.iconst 0, 1) := by decide +kernel
theorem dX3_checkLetter_5 : decode cX3_checkLetter 5 = .ok (.istore_n 3, 1) := by decide +kernel
theorem dX3_checkLetter_6 : decode cX3_checkLetter 6 = .ok (.iload_n 3, 1) := by decide +kernel
theorem dX3_checkLetter_7 : decode cX3_checkLetter 7 = .ok (.getstatic 192, 3) := by decide +kernel
theorem dX3_checkLetter_10 : decode cX3_checkLetter 10 = .ok (.arraylength, 1) := by decide +kernel
theorem dX3_checkLetter_11 : decode cX3_checkLetter 11 = .ok (.if_icmp .ge 27, 3) := by decide +kernel
theorem dX3_checkLetter_14 : decode cX3_checkLetter 14 = .ok (.iload_n 2, 1) := by decide +kernel
theorem dX3_checkLetter_15 : decode cX3_checkLetter 15 = .ok (.iload_n 1, 1) := by decide +kernel
theorem dX3_checkLetter_16 : decode cX3_checkLetter 16 = .ok (.bipush 10, 2) := by decide +kernel
theorem dX3_checkLetter_18 : decode cX3_checkLetter 18 = .ok (.irem, 1) := by decide +kernel
theorem dX3_checkLetter_19 : decode cX3_checkLetter 19 = .ok (.getstatic 192, 3) := by decide +kernel
theorem dX3_checkLetter_22 : decode cX3_checkLetter 22 = .ok (.iload_n 3, 1) := by decide +kernel
theorem dX3_checkLetter_23 : decode cX3_checkLetter 23 = .ok (.iaload, 1) := by decide +kernel
theorem dX3_checkLetter_24 : decode cX3_checkLetter 24 = .ok (.imul, 1) := by decide +kernel
theorem dX3_checkLetter_25 : decode cX3_checkLetter 25 = .ok (.iadd, 1) := by decide +kernel
theorem dX3_checkLetter_26 : decode cX3_checkLetter 26 = .ok (.istore_n 2, 1) := by decide +kernel
theorem dX3_checkLetter_27 : decode cX3_checkLetter 27 = .ok (.iload_n 1, 1) := by decide +kernel
theorem dX3_checkLetter_28 : decode cX3_checkLetter 28 = .ok (.bipush 10, 2) := by decide +kernel
theorem dX3_checkLetter_30 : decode cX3_checkLetter 30 = .ok (.idiv, 1) := by decide +kernel
theorem dX3_checkLetter_31 : decode cX3_checkLetter 31 = .ok (.istore_n 1, 1) := by decide +kernel
theorem dX3_checkLetter_32 : decode cX3_checkLetter 32 = .ok (.iinc 3 1, 3) := by decide +kernel
theorem dX3_checkLetter_35 : decode cX3_checkLetter 35 = .ok (.goto (-29), 3) := by decide +kernel
theorem dX3_checkLetter_38 : decode cX3_checkLetter 38 = .ok (.bipush 65, 2) := by decide +kernel
theorem dX3_checkLetter_40 : decode cX3_checkLetter 40 = .ok (.iload_n 2, 1) := by decide +kernel
theorem dX3_checkLetter_41 : decode cX3_checkLetter 41 = .ok (.bipush 23, 2) := by decide +kernel
theorem dX3_checkLetter_43 : decode cX3_checkLetter 43 = .ok (.irem, 1) := by decide +kernel
theorem dX3_checkLetter_44 : decode cX3_checkLetter 44 = .ok (.iadd, 1) := by decide +kernel
theorem dX3_checkLetter_45 : decode cX3_checkLetter 45 = .ok (.ireturn, 1) := by decide +kernel
theorem dX3_commonDivisor_0 : decode cX3_commonDivisor 0 = .ok (.iload_n 1, 1) := by decide +kernel
theorem dX3_commonDivisor_1 : decode cX3_commonDivisor 1 = .ok (.istore_n 2, 1) := by decide +kernel
theorem dX3_commonDivisor_2 : decode cX3_commonDivisor 2 = .ok (.iload_n 2, 1) := by decide +kernel
theorem dX3_commonDivisor_3 : decode cX3_commonDivisor 3 = .ok (.iconst 1, 1) := by decide +kernel
theorem dX3_commonDivisor_4 : decode cX3_commonDivisor 4 = .ok (.if_icmp .le 23, 3) := by decide +kernel
theorem dX3_commonDivisor_7 : decode cX3_commonDivisor 7 = .ok (.iload_n 1, 1) := by decide +kernel
theorem dX3_commonDivisor_8 : decode cX3_commonDivisor 8 = .ok (.iload_n 2, 1) := by decide +kernel
theorem dX3_commonDivisor_9 : decode cX3_commonDivisor 9 = .ok (.irem, 1) := by decide +kernel
theorem dX3_commonDivisor_10 : decode cX3_commonDivisor 10 = .ok (.ifCond .ne 11, 3) := by decide +kernel
theorem dX3_commonDivisor_13 : decode cX3_commonDivisor 13 = .ok (.iload_n 0, 1) := by decide +kernel
theorem dX3_commonDivisor_14 : decode cX3_commonDivisor 14 = .ok (.iload_n 2, 1) := by decide +kernel
theorem dX3_commonDivisor_15 : decode cX3_commonDivisor 15 = .ok (.irem, 1) := by decide +kernel
theorem dX3_commonDivisor_16 : decode cX3_commonDivisor 16 = .ok (.ifCond .ne 5, 3) := by decide +kernel
theorem dX3_commonDivisor_19 : decode cX3_commonDivisor 19 = .ok (.iload_n 2, 1) := by decide +kernel
theorem dX3_commonDivisor_20 : decode cX3_commonDivisor 20 = .ok (.ireturn, 1) := by decide +kernel
theorem dX3_commonDivisor_21 : decode cX3_commonDivisor 21 = .ok (.iinc 2 (-1), 3) := by decide +kernel
theorem dX3_commonDivisor_24 : decode cX3_commonDivisor 24 = .ok (.goto (-22), 3) := by decide +kernel
theorem dX3_commonDivisor_27 : decode cX3_commonDivisor 27 = .ok (.iconst 1, 1) := by decide +kernel
theorem dX3_commonDivisor_28 : decode cX3_commonDivisor 28 = .ok (.ireturn, 1) := by decide +kernel
theorem dX3_reasonBarred_0 : decode cX3_reasonBarred 0 = .ok (.aload_n 0, 1) := by decide +kernel
theorem dX3_reasonBarred_1 : decode cX3_reasonBarred 1 = .ok (.getfield 19, 3) := by decide +kernel
theorem dX3_reasonBarred_4 : decode cX3_reasonBarred 4 = .ok (.iload_n 1, 1) := by decide +kernel
theorem dX3_reasonBarred_5 : decode cX3_reasonBarred 5 = .ok (.invokevirtual 99, 3) := by decide +kernel
theorem dX3_reasonBarred_8 : decode cX3_reasonBarred 8 = .ok (.ifCond .eq 5, 3) := by decide +kernel
theorem dX3_reasonBarred_11 : decode cX3_reasonBarred 11 = .ok (.iconst 1, 1) := by decide +kernel
theorem dX3_reasonBarred_12 : decode cX3_reasonBarred 12 = .ok (.ireturn, 1) := by decide +kernel
theorem dX3_reasonBarred_13 : decode cX3_reasonBarred 13 = .ok (.aload_n 0, 1) := by decide +kernel
theorem dX3_reasonBarred_14 : decode cX3_reasonBarred 14 = .ok (.getfield 30, 3) := by decide +kernel
theorem dX3_reasonBarred_17 : decode cX3_reasonBarred 17 = .ok (.aload_n 0, 1) := by decide +kernel
theorem dX3_reasonBarred_18 : decode cX3_reasonBarred 18 = .ok (.getfield 19, 3) := by decide +kernel
theorem dX3_reasonBarred_21 : decode cX3_reasonBarred 21 = .ok (.getfield 195, 3) := by decide +kernel
theorem dX3_reasonBarred_24 : decode cX3_reasonBarred 24 = .ok (.iload_n 1, 1) := by decide +kernel
theorem dX3_reasonBarred_25 : decode cX3_reasonBarred 25 = .ok (.iaload, 1) := by decide +kernel
theorem dX3_reasonBarred_26 : decode cX3_reasonBarred 26 = .ok (.baload, 1) := by decide +kernel
theorem dX3_reasonBarred_27 : decode cX3_reasonBarred 27 = .ok (.ifCond .eq 5, 3) := by decide +kernel
theorem dX3_reasonBarred_30 : decode cX3_reasonBarred 30 = .ok (.iconst 2, 1) := by decide +kernel
theorem dX3_reasonBarred_31 : decode cX3_reasonBarred 31 = .ok (.ireturn, 1) := by decide +kernel
theorem dX3_reasonBarred_32 : decode cX3_reasonBarred 32 = .ok (.aload_n 0, 1) := by decide +kernel
theorem dX3_reasonBarred_33 : decode cX3_reasonBarred 33 = .ok (.iload_n 1, 1) := by decide +kernel
theorem dX3_reasonBarred_34 : decode cX3_reasonBarred 34 = .ok (.invokevirtual 198, 3) := by decide +kernel
theorem dX3_reasonBarred_37 : decode cX3_reasonBarred 37 = .ok (.aload_n 0, 1) := by decide +kernel
theorem dX3_reasonBarred_38 : decode cX3_reasonBarred 38 = .ok (.getfield 38, 3) := by decide +kernel
theorem dX3_reasonBarred_41 : decode cX3_reasonBarred 41 = .ok (.if_icmp .gt 5, 3) := by decide +kernel
theorem dX3_reasonBarred_44 : decode cX3_reasonBarred 44 = .ok (.iconst 3, 1) := by decide +kernel
theorem dX3_reasonBarred_45 : decode cX3_reasonBarred 45 = .ok (.ireturn, 1) := by decide +kernel
theorem dX3_reasonBarred_46 : decode cX3_reasonBarred 46 = .ok (.aload_n 0, 1) := by decide +kernel
theorem dX3_reasonBarred_47 : decode cX3_reasonBarred 47 = .ok (.iload_n 1, 1) := by decide +kernel
theorem dX3_reasonBarred_48 : decode cX3_reasonBarred 48 = .ok (.invokevirtual 201, 3) := by decide +kernel
theorem dX3_reasonBarred_51 : decode cX3_reasonBarred 51 = .ok (.aload_n 0, 1) := by decide +kernel
theorem dX3_reasonBarred_52 : decode cX3_reasonBarred 52 = .ok (.getfield 38, 3) := by decide +kernel
theorem dX3_reasonBarred_55 : decode cX3_reasonBarred 55 = .ok (.if_icmp .gt 5, 3) := by decide +kernel
theorem dX3_reasonBarred_58 : decode cX3_reasonBarred 58 = .ok (.iconst 4, 1) := by decide +kernel
theorem dX3_reasonBarred_59 : decode cX3_reasonBarred 59 = .ok (.ireturn, 1) := by decide +kernel
theorem dX3_reasonBarred_60 : decode cX3_reasonBarred 60 = .ok (.aload_n 0, 1) := by decide +kernel
theorem dX3_reasonBarred_61 : decode cX3_reasonBarred 61 = .ok (.getfield 19, 3) := by decide +kernel
theorem dX3_reasonBarred_64 : decode cX3_reasonBarred 64 = .ok (.iload_n 1, 1) := by decide +kernel
theorem dX3_reasonBarred_65 : decode cX3_reasonBarred 65 = .ok (.invokevirtual 139, 3) := by decide +kernel
theorem dX3_reasonBarred_68 : decode cX3_reasonBarred 68 = .ok (.iconst 1, 1) := by decide +kernel
theorem dX3_reasonBarred_69 : decode cX3_reasonBarred 69 = .ok (.if_icmp .ne 5, 3) := by decide +kernel
theorem dX3_reasonBarred_72 : decode cX3_reasonBarred 72 = .ok (.iconst 5, 1) := by decide +kernel
theorem dX3_reasonBarred_73 : decode cX3_reasonBarred 73 = .ok (.ireturn, 1) := by decide +kernel
theorem dX3_reasonBarred_74 : decode cX3_reasonBarred 74 = .ok (.aload_n 0, 1) := by decide +kernel
theorem dX3_reasonBarred_75 : decode cX3_reasonBarred 75 = .ok (.getfield 19, 3) := by decide +kernel
theorem dX3_reasonBarred_78 : decode cX3_reasonBarred 78 = .ok (.getfield 102, 3) := by decide +kernel
theorem dX3_reasonBarred_81 : decode cX3_reasonBarred 81 = .ok (.iload_n 1, 1) := by decide +kernel
theorem dX3_reasonBarred_82 : decode cX3_reasonBarred 82 = .ok (.baload, 1) := by decide +kernel
theorem dX3_reasonBarred_83 : decode cX3_reasonBarred 83 = .ok (.ifCond .eq 8, 3) := by decide +kernel
theorem dX3_reasonBarred_86 : decode cX3_reasonBarred 86 = .ok (.bipush 6, 2) := by decide +kernel
theorem dX3_reasonBarred_88 : decode cX3_reasonBarred 88 = .ok (.goto 4, 3) := by decide +kernel
theorem dX3_reasonBarred_91 : decode cX3_reasonBarred 91 = .ok (.iconst 0, 1) := by decide +kernel
theorem dX3_reasonBarred_92 : decode cX3_reasonBarred 92 = .ok (.ireturn, 1) := by decide +kernel
theorem dX3_oldFrom_0 : decode cX3_oldFrom 0 = .ok (.aload_n 0, 1) := by decide +kernel
theorem dX3_oldFrom_1 : decode cX3_oldFrom 1 = .ok (.getfield 12, 3) := by decide +kernel
theorem dX3_oldFrom_4 : decode cX3_oldFrom 4 = .ok (.getfield 51, 3) := by decide +kernel
theorem dX3_oldFrom_7 : decode cX3_oldFrom 7 = .ok (.aload_n 0, 1) := by decide +kernel
theorem dX3_oldFrom_8 : decode cX3_oldFrom 8 = .ok (.getfield 19, 3) := by decide +kernel
theorem dX3_oldFrom_11 : decode cX3_oldFrom 11 = .ok (.getfield 108, 3) := by decide +kernel
theorem dX3_oldFrom_14 : decode cX3_oldFrom 14 = .ok (.iload_n 1, 1) := by decide +kernel
theorem dX3_oldFrom_15 : decode cX3_oldFrom 15 = .ok (.iaload, 1) := by decide +kernel
theorem dX3_oldFrom_16 : decode cX3_oldFrom 16 = .ok (.iaload, 1) := by decide +kernel
theorem dX3_oldFrom_17 : decode cX3_oldFrom 17 = .ok (.istore_n 2, 1) := by decide +kernel
theorem dX3_oldFrom_18 : decode cX3_oldFrom 18 = .ok (.iload_n 2, 1) := by decide +kernel
theorem dX3_oldFrom_19 : decode cX3_oldFrom 19 = .ok (.ifCond .ne 8, 3) := by decide +kernel
theorem dX3_oldFrom_22 : decode cX3_oldFrom 22 = .ok (.ldc 125, 2) := by decide +kernel
theorem dX3_oldFrom_24 : decode cX3_oldFrom 24 = .ok (.goto 14, 3) := by decide +kernel
theorem dX3_oldFrom_27 : decode cX3_oldFrom 27 = .ok (.aload_n 0, 1) := by decide +kernel
theorem dX3_oldFrom_28 : decode cX3_oldFrom 28 = .ok (.getfield 19, 3) := by decide +kernel
theorem dX3_oldFrom_31 : decode cX3_oldFrom 31 = .ok (.getfield 204, 3) := by decide +kernel
theorem dX3_oldFrom_34 : decode cX3_oldFrom 34 = .ok (.iload_n 1, 1) := by decide +kernel
theorem dX3_oldFrom_35 : decode cX3_oldFrom 35 = .ok (.iaload, 1) := by decide +kernel
theorem dX3_oldFrom_36 : decode cX3_oldFrom 36 = .ok (.iload_n 2, 1) := by decide +kernel
theorem dX3_oldFrom_37 : decode cX3_oldFrom 37 = .ok (.iadd, 1) := by decide +kernel
theorem dX3_oldFrom_38 : decode cX3_oldFrom 38 = .ok (.ireturn, 1) := by decide +kernel
theorem dX3_someTestDueFrom_0 : decode cX3_someTestDueFrom 0 = .ok (.ldc 125, 2) := by decide +kernel
theorem dX3_someTestDueFrom_2 : decode cX3_someTestDueFrom 2 = .ok (.istore_n 2, 1) := by decide +kernel
theorem dX3_someTestDueFrom_3 : decode cX3_someTestDueFrom 3 = .ok (.iconst 0, 1) := by decide +kernel
theorem dX3_someTestDueFrom_4 : decode cX3_someTestDueFrom 4 = .ok (.istore_n 3, 1) := by decide +kernel
theorem dX3_someTestDueFrom_5 : decode cX3_someTestDueFrom 5 = .ok (.iload_n 3, 1) := by decide +kernel
theorem dX3_someTestDueFrom_6 : decode cX3_someTestDueFrom 6 = .ok (.iconst 3, 1) := by decide +kernel
theorem dX3_someTestDueFrom_7 : decode cX3_someTestDueFrom 7 = .ok (.if_icmp .ge 20, 3) := by decide +kernel
theorem dX3_someTestDueFrom_10 : decode cX3_someTestDueFrom 10 = .ok (.iload_n 2, 1) := by decide +kernel
theorem dX3_someTestDueFrom_11 : decode cX3_someTestDueFrom 11 = .ok (.aload_n 0, 1) := by decide +kernel
theorem dX3_someTestDueFrom_12 : decode cX3_someTestDueFrom 12 = .ok (.iload_n 1, 1) := by decide +kernel
theorem dX3_someTestDueFrom_13 : decode cX3_someTestDueFrom 13 = .ok (.iload_n 3, 1) := by decide +kernel
theorem dX3_someTestDueFrom_14 : decode cX3_someTestDueFrom 14 = .ok (.invokevirtual 207, 3) := by decide +kernel
theorem dX3_someTestDueFrom_17 : decode cX3_someTestDueFrom 17 = .ok (.invokestatic 210, 3) := by decide +kernel
theorem dX3_someTestDueFrom_20 : decode cX3_someTestDueFrom 20 = .ok (.istore_n 2, 1) := by decide +kernel
theorem dX3_someTestDueFrom_21 : decode cX3_someTestDueFrom 21 = .ok (.iinc 3 1, 3) := by decide +kernel
theorem dX3_someTestDueFrom_24 : decode cX3_someTestDueFrom 24 = .ok (.goto (-19), 3) := by decide +kernel
theorem dX3_someTestDueFrom_27 : decode cX3_someTestDueFrom 27 = .ok (.iload_n 2, 1) := by decide +kernel
theorem dX3_someTestDueFrom_28 : decode cX3_someTestDueFrom 28 = .ok (.ireturn, 1) := by decide +kernel
theorem dX3_dueFrom_0 : decode cX3_dueFrom 0 = .ok (.aload_n 0, 1) := by decide +kernel
theorem dX3_dueFrom_1 : decode cX3_dueFrom 1 = .ok (.getfield 19, 3) := by decide +kernel
theorem dX3_dueFrom_4 : decode cX3_dueFrom 4 = .ok (.getfield 108, 3) := by decide +kernel
theorem dX3_dueFrom_7 : decode cX3_dueFrom 7 = .ok (.iload_n 1, 1) := by decide +kernel
theorem dX3_dueFrom_8 : decode cX3_dueFrom 8 = .ok (.iaload, 1) := by decide +kernel
theorem dX3_dueFrom_9 : decode cX3_dueFrom 9 = .ok (.iconst 3, 1) := by decide +kernel
theorem dX3_dueFrom_10 : decode cX3_dueFrom 10 = .ok (.imul, 1) := by decide +kernel
theorem dX3_dueFrom_11 : decode cX3_dueFrom 11 = .ok (.iload_n 2, 1) := by decide +kernel
theorem dX3_dueFrom_12 : decode cX3_dueFrom 12 = .ok (.iadd, 1) := by decide +kernel
theorem dX3_dueFrom_13 : decode cX3_dueFrom 13 = .ok (.istore_n 3, 1) := by decide +kernel
theorem dX3_dueFrom_14 : decode cX3_dueFrom 14 = .ok (.iload_n 1, 1) := by decide +kernel
theorem dX3_dueFrom_15 : decode cX3_dueFrom 15 = .ok (.iconst 3, 1) := by decide +kernel
theorem dX3_dueFrom_16 : decode cX3_dueFrom 16 = .ok (.imul, 1) := by decide +kernel
theorem dX3_dueFrom_17 : decode cX3_dueFrom 17 = .ok (.iload_n 2, 1) := by decide +kernel
theorem dX3_dueFrom_18 : decode cX3_dueFrom 18 = .ok (.iadd, 1) := by decide +kernel
theorem dX3_dueFrom_19 : decode cX3_dueFrom 19 = .ok (.istore 4, 2) := by decide +kernel
theorem dX3_dueFrom_21 : decode cX3_dueFrom 21 = .ok (.aload_n 0, 1) := by decide +kernel
theorem dX3_dueFrom_22 : decode cX3_dueFrom 22 = .ok (.getfield 12, 3) := by decide +kernel
theorem dX3_dueFrom_25 : decode cX3_dueFrom 25 = .ok (.getfield 57, 3) := by decide +kernel
theorem dX3_dueFrom_28 : decode cX3_dueFrom 28 = .ok (.iload_n 3, 1) := by decide +kernel
theorem dX3_dueFrom_29 : decode cX3_dueFrom 29 = .ok (.iaload, 1) := by decide +kernel
theorem dX3_dueFrom_30 : decode cX3_dueFrom 30 = .ok (.istore 5, 2) := by decide +kernel
theorem dX3_dueFrom_32 : decode cX3_dueFrom 32 = .ok (.iload 5, 2) := by decide +kernel
theorem dX3_dueFrom_34 : decode cX3_dueFrom 34 = .ok (.ifCond .le 23, 3) := by decide +kernel
theorem dX3_dueFrom_37 : decode cX3_dueFrom 37 = .ok (.aload_n 0, 1) := by decide +kernel
theorem dX3_dueFrom_38 : decode cX3_dueFrom 38 = .ok (.getfield 19, 3) := by decide +kernel
theorem dX3_dueFrom_41 : decode cX3_dueFrom 41 = .ok (.getfield 142, 3) := by decide +kernel
theorem dX3_dueFrom_44 : decode cX3_dueFrom 44 = .ok (.iload 4, 2) := by decide +kernel
theorem dX3_dueFrom_46 : decode cX3_dueFrom 46 = .ok (.iaload, 1) := by decide +kernel
theorem dX3_dueFrom_47 : decode cX3_dueFrom 47 = .ok (.iload 5, 2) := by decide +kernel
theorem dX3_dueFrom_49 : decode cX3_dueFrom 49 = .ok (.if_icmp .lt 8, 3) := by decide +kernel
theorem dX3_dueFrom_52 : decode cX3_dueFrom 52 = .ok (.aload_n 0, 1) := by decide +kernel
theorem dX3_dueFrom_53 : decode cX3_dueFrom 53 = .ok (.getfield 38, 3) := by decide +kernel
theorem dX3_dueFrom_56 : decode cX3_dueFrom 56 = .ok (.ireturn, 1) := by decide +kernel
theorem dX3_dueFrom_57 : decode cX3_dueFrom 57 = .ok (.aload_n 0, 1) := by decide +kernel
theorem dX3_dueFrom_58 : decode cX3_dueFrom 58 = .ok (.getfield 12, 3) := by decide +kernel
theorem dX3_dueFrom_61 : decode cX3_dueFrom 61 = .ok (.getfield 54, 3) := by decide +kernel
theorem dX3_dueFrom_64 : decode cX3_dueFrom 64 = .ok (.iload_n 3, 1) := by decide +kernel
theorem dX3_dueFrom_65 : decode cX3_dueFrom 65 = .ok (.iaload, 1) := by decide +kernel
theorem dX3_dueFrom_66 : decode cX3_dueFrom 66 = .ok (.istore 6, 2) := by decide +kernel
theorem dX3_dueFrom_68 : decode cX3_dueFrom 68 = .ok (.iload 6, 2) := by decide +kernel
theorem dX3_dueFrom_70 : decode cX3_dueFrom 70 = .ok (.ifCond .ne 8, 3) := by decide +kernel
theorem dX3_dueFrom_73 : decode cX3_dueFrom 73 = .ok (.ldc 125, 2) := by decide +kernel
theorem dX3_dueFrom_75 : decode cX3_dueFrom 75 = .ok (.goto 16, 3) := by decide +kernel
theorem dX3_dueFrom_78 : decode cX3_dueFrom 78 = .ok (.aload_n 0, 1) := by decide +kernel
theorem dX3_dueFrom_79 : decode cX3_dueFrom 79 = .ok (.getfield 19, 3) := by decide +kernel
theorem dX3_dueFrom_82 : decode cX3_dueFrom 82 = .ok (.getfield 145, 3) := by decide +kernel
theorem dX3_dueFrom_85 : decode cX3_dueFrom 85 = .ok (.iload 4, 2) := by decide +kernel
theorem dX3_dueFrom_87 : decode cX3_dueFrom 87 = .ok (.iaload, 1) := by decide +kernel
theorem dX3_dueFrom_88 : decode cX3_dueFrom 88 = .ok (.iload 6, 2) := by decide +kernel
theorem dX3_dueFrom_90 : decode cX3_dueFrom 90 = .ok (.iadd, 1) := by decide +kernel
theorem dX3_dueFrom_91 : decode cX3_dueFrom 91 = .ok (.ireturn, 1) := by decide +kernel
theorem dX3_endOf_0 : decode cX3_endOf 0 = .ok (.aload_n 0, 1) := by decide +kernel
theorem dX3_endOf_1 : decode cX3_endOf 1 = .ok (.getfield 19, 3) := by decide +kernel
theorem dX3_endOf_4 : decode cX3_endOf 4 = .ok (.iload_n 1, 1) := by decide +kernel
theorem dX3_endOf_5 : decode cX3_endOf 5 = .ok (.invokevirtual 99, 3) := by decide +kernel
theorem dX3_endOf_8 : decode cX3_endOf 8 = .ok (.ifCond .eq 5, 3) := by decide +kernel
theorem dX3_endOf_11 : decode cX3_endOf 11 = .ok (.iconst (-1), 1) := by decide +kernel
theorem dX3_endOf_12 : decode cX3_endOf 12 = .ok (.ireturn, 1) := by decide +kernel
theorem dX3_endOf_13 : decode cX3_endOf 13 = .ok (.aload_n 0, 1) := by decide +kernel
theorem dX3_endOf_14 : decode cX3_endOf 14 = .ok (.iload_n 1, 1) := by decide +kernel
theorem dX3_endOf_15 : decode cX3_endOf 15 = .ok (.invokevirtual 198, 3) := by decide +kernel
theorem dX3_endOf_18 : decode cX3_endOf 18 = .ok (.aload_n 0, 1) := by decide +kernel
theorem dX3_endOf_19 : decode cX3_endOf 19 = .ok (.iload_n 1, 1) := by decide +kernel
theorem dX3_endOf_20 : decode cX3_endOf 20 = .ok (.invokevirtual 201, 3) := by decide +kernel
theorem dX3_endOf_23 : decode cX3_endOf 23 = .ok (.invokestatic 210, 3) := by decide +kernel
theorem dX3_endOf_26 : decode cX3_endOf 26 = .ok (.istore_n 2, 1) := by decide +kernel
theorem dX3_endOf_27 : decode cX3_endOf 27 = .ok (.iload_n 2, 1) := by decide +kernel
theorem dX3_endOf_28 : decode cX3_endOf 28 = .ok (.ldc 125, 2) := by decide +kernel
theorem dX3_endOf_30 : decode cX3_endOf 30 = .ok (.if_icmp .ne 7, 3) := by decide +kernel
theorem dX3_endOf_33 : decode cX3_endOf 33 = .ok (.iconst (-1), 1) := by decide +kernel
theorem dX3_endOf_34 : decode cX3_endOf 34 = .ok (.goto 11, 3) := by decide +kernel
theorem dX3_endOf_37 : decode cX3_endOf 37 = .ok (.iload_n 2, 1) := by decide +kernel
theorem dX3_endOf_38 : decode cX3_endOf 38 = .ok (.aload_n 0, 1) := by decide +kernel
theorem dX3_endOf_39 : decode cX3_endOf 39 = .ok (.getfield 38, 3) := by decide +kernel
theorem dX3_endOf_42 : decode cX3_endOf 42 = .ok (.invokestatic 215, 3) := by decide +kernel
theorem dX3_endOf_45 : decode cX3_endOf 45 = .ok (.ireturn, 1) := by decide +kernel
theorem dX3_fillEndRow_0 : decode cX3_fillEndRow 0 = .ok (.iconst 0, 1) := by decide +kernel
theorem dX3_fillEndRow_1 : decode cX3_fillEndRow 1 = .ok (.istore_n 3, 1) := by decide +kernel
theorem dX3_fillEndRow_2 : decode cX3_fillEndRow 2 = .ok (.iload_n 3, 1) := by decide +kernel
theorem dX3_fillEndRow_3 : decode cX3_fillEndRow 3 = .ok (.aload_n 0, 1) := by decide +kernel
theorem dX3_fillEndRow_4 : decode cX3_fillEndRow 4 = .ok (.getfield 19, 3) := by decide +kernel
theorem dX3_fillEndRow_7 : decode cX3_fillEndRow 7 = .ok (.getfield 79, 3) := by decide +kernel
theorem dX3_fillEndRow_10 : decode cX3_fillEndRow 10 = .ok (.if_icmp .ge 51, 3) := by decide +kernel
theorem dX3_fillEndRow_13 : decode cX3_fillEndRow 13 = .ok (.aload_n 0, 1) := by decide +kernel
theorem dX3_fillEndRow_14 : decode cX3_fillEndRow 14 = .ok (.getfield 19, 3) := by decide +kernel
theorem dX3_fillEndRow_17 : decode cX3_fillEndRow 17 = .ok (.getfield 119, 3) := by decide +kernel
theorem dX3_fillEndRow_20 : decode cX3_fillEndRow 20 = .ok (.iload_n 3, 1) := by decide +kernel
theorem dX3_fillEndRow_21 : decode cX3_fillEndRow 21 = .ok (.iaload, 1) := by decide +kernel
theorem dX3_fillEndRow_22 : decode cX3_fillEndRow 22 = .ok (.iload_n 1, 1) := by decide +kernel
theorem dX3_fillEndRow_23 : decode cX3_fillEndRow 23 = .ok (.if_icmp .ne 11, 3) := by decide +kernel
theorem dX3_fillEndRow_26 : decode cX3_fillEndRow 26 = .ok (.aload_n 0, 1) := by decide +kernel
theorem dX3_fillEndRow_27 : decode cX3_fillEndRow 27 = .ok (.iload_n 3, 1) := by decide +kernel
theorem dX3_fillEndRow_28 : decode cX3_fillEndRow 28 = .ok (.invokevirtual 130, 3) := by decide +kernel
theorem dX3_fillEndRow_31 : decode cX3_fillEndRow 31 = .ok (.goto 4, 3) := by decide +kernel
theorem dX3_fillEndRow_34 : decode cX3_fillEndRow 34 = .ok (.iconst (-1), 1) := by decide +kernel
theorem dX3_fillEndRow_35 : decode cX3_fillEndRow 35 = .ok (.istore 4, 2) := by decide +kernel
theorem dX3_fillEndRow_37 : decode cX3_fillEndRow 37 = .ok (.aload_n 0, 1) := by decide +kernel
theorem dX3_fillEndRow_38 : decode cX3_fillEndRow 38 = .ok (.getfield 34, 3) := by decide +kernel
theorem dX3_fillEndRow_41 : decode cX3_fillEndRow 41 = .ok (.iload_n 3, 1) := by decide +kernel
theorem dX3_fillEndRow_42 : decode cX3_fillEndRow 42 = .ok (.iload 4, 2) := by decide +kernel
theorem dX3_fillEndRow_44 : decode cX3_fillEndRow 44 = .ok (.iload_n 2, 1) := by decide +kernel
theorem dX3_fillEndRow_45 : decode cX3_fillEndRow 45 = .ok (.if_icmp .gt 8, 3) := by decide +kernel
theorem dX3_fillEndRow_48 : decode cX3_fillEndRow 48 = .ok (.iload 4, 2) := by decide +kernel
theorem dX3_fillEndRow_50 : decode cX3_fillEndRow 50 = .ok (.goto 4, 3) := by decide +kernel
theorem dX3_fillEndRow_53 : decode cX3_fillEndRow 53 = .ok (.iconst (-1), 1) := by decide +kernel
theorem dX3_fillEndRow_54 : decode cX3_fillEndRow 54 = .ok (.iastore, 1) := by decide +kernel
theorem dX3_fillEndRow_55 : decode cX3_fillEndRow 55 = .ok (.iinc 3 1, 3) := by decide +kernel
theorem dX3_fillEndRow_58 : decode cX3_fillEndRow 58 = .ok (.goto (-56), 3) := by decide +kernel
theorem dX3_fillEndRow_61 : decode cX3_fillEndRow 61 = .ok (.return_, 1) := by decide +kernel
theorem dX3_countEndingBefore_0 : decode cX3_countEndingBefore 0 = .ok (.iconst 0, 1) := by decide +kernel
theorem dX3_countEndingBefore_1 : decode cX3_countEndingBefore 1 = .ok (.istore_n 2, 1) := by decide +kernel
theorem dX3_countEndingBefore_2 : decode cX3_countEndingBefore 2 = .ok (.iconst 0, 1) := by decide +kernel
theorem dX3_countEndingBefore_3 : decode cX3_countEndingBefore 3 = .ok (.istore_n 3, 1) := by decide +kernel
theorem dX3_countEndingBefore_4 : decode cX3_countEndingBefore 4 = .ok (.iload_n 3, 1) := by decide +kernel
theorem dX3_countEndingBefore_5 : decode cX3_countEndingBefore 5 = .ok (.aload_n 0, 1) := by decide +kernel
theorem dX3_countEndingBefore_6 : decode cX3_countEndingBefore 6 = .ok (.getfield 19, 3) := by decide +kernel
theorem dX3_countEndingBefore_9 : decode cX3_countEndingBefore 9 = .ok (.getfield 79, 3) := by decide +kernel
theorem dX3_countEndingBefore_12 : decode cX3_countEndingBefore 12 = .ok (.if_icmp .ge 81, 3) := by decide +kernel
theorem dX3_countEndingBefore_15 : decode cX3_countEndingBefore 15 = .ok (.aload_n 0, 1) := by decide +kernel
theorem dX3_countEndingBefore_16 : decode cX3_countEndingBefore 16 = .ok (.getfield 34, 3) := by decide +kernel
theorem dX3_countEndingBefore_19 : decode cX3_countEndingBefore 19 = .ok (.iload_n 3, 1) := by decide +kernel
theorem dX3_countEndingBefore_20 : decode cX3_countEndingBefore 20 = .ok (.iaload, 1) := by decide +kernel
theorem dX3_countEndingBefore_21 : decode cX3_countEndingBefore 21 = .ok (.aload_n 0, 1) := by decide +kernel
theorem dX3_countEndingBefore_22 : decode cX3_countEndingBefore 22 = .ok (.getfield 34, 3) := by decide +kernel
theorem dX3_countEndingBefore_25 : decode cX3_countEndingBefore 25 = .ok (.iload_n 1, 1) := by decide +kernel
theorem dX3_countEndingBefore_26 : decode cX3_countEndingBefore 26 = .ok (.iaload, 1) := by decide +kernel
theorem dX3_countEndingBefore_27 : decode cX3_countEndingBefore 27 = .ok (.if_icmp .ge 7, 3) := by decide +kernel
theorem dX3_countEndingBefore_30 : decode cX3_countEndingBefore 30 = .ok (.iconst 1, 1) := by decide +kernel
theorem dX3_countEndingBefore_31 : decode cX3_countEndingBefore 31 = .ok (.goto 4, 3) := by decide +kernel
theorem dX3_countEndingBefore_34 : decode cX3_countEndingBefore 34 = .ok (.iconst 0, 1) := by decide +kernel
theorem dX3_countEndingBefore_35 : decode cX3_countEndingBefore 35 = .ok (.istore 4, 2) := by decide +kernel
theorem dX3_countEndingBefore_37 : decode cX3_countEndingBefore 37 = .ok (.aload_n 0, 1) := by decide +kernel
theorem dX3_countEndingBefore_38 : decode cX3_countEndingBefore 38 = .ok (.getfield 34, 3) := by decide +kernel
theorem dX3_countEndingBefore_41 : decode cX3_countEndingBefore 41 = .ok (.iload_n 3, 1) := by decide +kernel
theorem dX3_countEndingBefore_42 : decode cX3_countEndingBefore 42 = .ok (.iaload, 1) := by decide +kernel
theorem dX3_countEndingBefore_43 : decode cX3_countEndingBefore 43 = .ok (.aload_n 0, 1) := by decide +kernel
theorem dX3_countEndingBefore_44 : decode cX3_countEndingBefore 44 = .ok (.getfield 34, 3) := by decide +kernel
theorem dX3_countEndingBefore_47 : decode cX3_countEndingBefore 47 = .ok (.iload_n 1, 1) := by decide +kernel
theorem dX3_countEndingBefore_48 : decode cX3_countEndingBefore 48 = .ok (.iaload, 1) := by decide +kernel
theorem dX3_countEndingBefore_49 : decode cX3_countEndingBefore 49 = .ok (.if_icmp .ne 12, 3) := by decide +kernel
theorem dX3_countEndingBefore_52 : decode cX3_countEndingBefore 52 = .ok (.iload_n 3, 1) := by decide +kernel
theorem dX3_countEndingBefore_53 : decode cX3_countEndingBefore 53 = .ok (.iload_n 1, 1) := by decide +kernel
theorem dX3_countEndingBefore_54 : decode cX3_countEndingBefore 54 = .ok (.if_icmp .ge 7, 3) := by decide +kernel
theorem dX3_countEndingBefore_57 : decode cX3_countEndingBefore 57 = .ok (.iconst 1, 1) := by decide +kernel
theorem dX3_countEndingBefore_58 : decode cX3_countEndingBefore 58 = .ok (.goto 4, 3) := by decide +kernel
theorem dX3_countEndingBefore_61 : decode cX3_countEndingBefore 61 = .ok (.iconst 0, 1) := by decide +kernel
theorem dX3_countEndingBefore_62 : decode cX3_countEndingBefore 62 = .ok (.istore 5, 2) := by decide +kernel
theorem dX3_countEndingBefore_64 : decode cX3_countEndingBefore 64 = .ok (.aload_n 0, 1) := by decide +kernel
theorem dX3_countEndingBefore_65 : decode cX3_countEndingBefore 65 = .ok (.getfield 34, 3) := by decide +kernel
theorem dX3_countEndingBefore_68 : decode cX3_countEndingBefore 68 = .ok (.iload_n 3, 1) := by decide +kernel
theorem dX3_countEndingBefore_69 : decode cX3_countEndingBefore 69 = .ok (.iaload, 1) := by decide +kernel
theorem dX3_countEndingBefore_70 : decode cX3_countEndingBefore 70 = .ok (.iconst (-1), 1) := by decide +kernel
theorem dX3_countEndingBefore_71 : decode cX3_countEndingBefore 71 = .ok (.if_icmp .eq 16, 3) := by decide +kernel
theorem dX3_countEndingBefore_74 : decode cX3_countEndingBefore 74 = .ok (.iload 4, 2) := by decide +kernel
theorem dX3_countEndingBefore_76 : decode cX3_countEndingBefore 76 = .ok (.ifCond .ne 8, 3) := by decide +kernel
theorem dX3_countEndingBefore_79 : decode cX3_countEndingBefore 79 = .ok (.iload 5, 2) := by decide +kernel
theorem dX3_countEndingBefore_81 : decode cX3_countEndingBefore 81 = .ok (.ifCond .eq 6, 3) := by decide +kernel
theorem dX3_countEndingBefore_84 : decode cX3_countEndingBefore 84 = .ok (.iinc 2 1, 3) := by decide +kernel
theorem dX3_countEndingBefore_87 : decode cX3_countEndingBefore 87 = .ok (.iinc 3 1, 3) := by decide +kernel
theorem dX3_countEndingBefore_90 : decode cX3_countEndingBefore 90 = .ok (.goto (-86), 3) := by decide +kernel
theorem dX3_countEndingBefore_93 : decode cX3_countEndingBefore 93 = .ok (.iload_n 2, 1) := by decide +kernel
theorem dX3_countEndingBefore_94 : decode cX3_countEndingBefore 94 = .ok (.ireturn, 1) := by decide +kernel
theorem dX0_init_0 : decode cX0_init 0 = .ok (.aload_n 0, 1) := by decide +kernel
theorem dX0_init_1 : decode cX0_init 1 = .ok (.invokespecial 3, 3) := by decide +kernel
theorem dX0_init_4 : decode cX0_init 4 = .ok (.aload_n 0, 1) := by decide +kernel
theorem dX0_init_5 : decode cX0_init 5 = .ok (.iconst 5, 1) := by decide +kernel
theorem dX0_init_6 : decode cX0_init 6 = .ok (.newarray .int, 2) := by decide +kernel
theorem dX0_init_8 : decode cX0_init 8 = .ok (.putfield 9, 3) := by decide +kernel
theorem dX0_init_11 : decode cX0_init 11 = .ok (.aload_n 0, 1) := by decide +kernel
theorem dX0_init_12 : decode cX0_init 12 = .ok (.bipush 15, 2) := by decide +kernel
theorem dX0_init_14 : decode cX0_init 14 = .ok (.newarray .int, 2) := by decide +kernel
theorem dX0_init_16 : decode cX0_init 16 = .ok (.putfield 15, 3) := by decide +kernel
theorem dX0_init_19 : decode cX0_init 19 = .ok (.aload_n 0, 1) := by decide +kernel
theorem dX0_init_20 : decode cX0_init 20 = .ok (.bipush 15, 2) := by decide +kernel
theorem dX0_init_22 : decode cX0_init 22 = .ok (.newarray .int, 2) := by decide +kernel
theorem dX0_init_24 : decode cX0_init 24 = .ok (.putfield 18, 3) := by decide +kernel
theorem dX0_init_27 : decode cX0_init 27 = .ok (.aload_n 0, 1) := by decide +kernel
theorem dX0_init_28 : decode cX0_init 28 = .ok (.bipush 15, 2) := by decide +kernel
theorem dX0_init_30 : decode cX0_init 30 = .ok (.newarray .int, 2) := by decide +kernel
theorem dX0_init_32 : decode cX0_init 32 = .ok (.putfield 21, 3) := by decide +kernel
theorem dX0_init_35 : decode cX0_init 35 = .ok (.aload_n 0, 1) := by decide +kernel
theorem dX0_init_36 : decode cX0_init 36 = .ok (.bipush 15, 2) := by decide +kernel
theorem dX0_init_38 : decode cX0_init 38 = .ok (.newarray .int, 2) := by decide +kernel
theorem dX0_init_40 : decode cX0_init 40 = .ok (.putfield 24, 3) := by decide +kernel
theorem dX0_init_43 : decode cX0_init 43 = .ok (.return_, 1) := by decide +kernel
theorem dX0_gradeOf_0 : decode cX0_gradeOf 0 = .ok (.iload_n 1, 1) := by decide +kernel
theorem dX0_gradeOf_1 : decode cX0_gradeOf 1 = .ok (.iconst 3, 1) := by decide +kernel
theorem dX0_gradeOf_2 : decode cX0_gradeOf 2 = .ok (.imul, 1) := by decide +kernel
theorem dX0_gradeOf_3 : decode cX0_gradeOf 3 = .ok (.iload_n 2, 1) := by decide +kernel
theorem dX0_gradeOf_4 : decode cX0_gradeOf 4 = .ok (.iadd, 1) := by decide +kernel
theorem dX0_gradeOf_5 : decode cX0_gradeOf 5 = .ok (.istore 4, 2) := by decide +kernel
theorem dX0_gradeOf_7 : decode cX0_gradeOf 7 = .ok (.iload_n 3, 1) := by decide +kernel
theorem dX0_gradeOf_8 : decode cX0_gradeOf 8 = .ok (.aload_n 0, 1) := by decide +kernel
theorem dX0_gradeOf_9 : decode cX0_gradeOf 9 = .ok (.getfield 24, 3) := by decide +kernel
theorem dX0_gradeOf_12 : decode cX0_gradeOf 12 = .ok (.iload 4, 2) := by decide +kernel
theorem dX0_gradeOf_14 : decode cX0_gradeOf 14 = .ok (.iaload, 1) := by decide +kernel
theorem dX0_gradeOf_15 : decode cX0_gradeOf 15 = .ok (.if_icmp .lt 5, 3) := by decide +kernel
theorem dX0_gradeOf_18 : decode cX0_gradeOf 18 = .ok (.iconst 0, 1) := by decide +kernel
theorem dX0_gradeOf_19 : decode cX0_gradeOf 19 = .ok (.ireturn, 1) := by decide +kernel
theorem dX0_gradeOf_20 : decode cX0_gradeOf 20 = .ok (.iload_n 3, 1) := by decide +kernel
theorem dX0_gradeOf_21 : decode cX0_gradeOf 21 = .ok (.aload_n 0, 1) := by decide +kernel
theorem dX0_gradeOf_22 : decode cX0_gradeOf 22 = .ok (.getfield 21, 3) := by decide +kernel
theorem dX0_gradeOf_25 : decode cX0_gradeOf 25 = .ok (.iload 4, 2) := by decide +kernel
theorem dX0_gradeOf_27 : decode cX0_gradeOf 27 = .ok (.iaload, 1) := by decide +kernel
theorem dX0_gradeOf_28 : decode cX0_gradeOf 28 = .ok (.if_icmp .lt 7, 3) := by decide +kernel
theorem dX0_gradeOf_31 : decode cX0_gradeOf 31 = .ok (.iconst 1, 1) := by decide +kernel
theorem dX0_gradeOf_32 : decode cX0_gradeOf 32 = .ok (.goto 4, 3) := by decide +kernel
theorem dX0_gradeOf_35 : decode cX0_gradeOf 35 = .ok (.iconst 2, 1) := by decide +kernel
theorem dX0_gradeOf_36 : decode cX0_gradeOf 36 = .ok (.ireturn, 1) := by decide +kernel
theorem dX1_init_0 : decode cX1_init 0 = .ok (.aload_n 0, 1) := by decide +kernel
theorem dX1_init_1 : decode cX1_init 1 = .ok (.invokespecial 3, 3) := by decide +kernel
theorem dX1_init_4 : decode cX1_init 4 = .ok (.aload_n 0, 1) := by decide +kernel
theorem dX1_init_5 : decode cX1_init 5 = .ok (.bipush 6, 2) := by decide +kernel
theorem dX1_init_7 : decode cX1_init 7 = .ok (.newarray .int, 2) := by decide +kernel
theorem dX1_init_9 : decode cX1_init 9 = .ok (.putfield 9, 3) := by decide +kernel
theorem dX1_init_12 : decode cX1_init 12 = .ok (.aload_n 0, 1) := by decide +kernel
theorem dX1_init_13 : decode cX1_init 13 = .ok (.bipush 6, 2) := by decide +kernel
theorem dX1_init_15 : decode cX1_init 15 = .ok (.newarray .int, 2) := by decide +kernel
theorem dX1_init_17 : decode cX1_init 17 = .ok (.putfield 15, 3) := by decide +kernel
theorem dX1_init_20 : decode cX1_init 20 = .ok (.aload_n 0, 1) := by decide +kernel
theorem dX1_init_21 : decode cX1_init 21 = .ok (.bipush 6, 2) := by decide +kernel
theorem dX1_init_23 : decode cX1_init 23 = .ok (.newarray .int, 2) := by decide +kernel
theorem dX1_init_25 : decode cX1_init 25 = .ok (.putfield 18, 3) := by decide +kernel
theorem dX1_init_28 : decode cX1_init 28 = .ok (.aload_n 0, 1) := by decide +kernel
theorem dX1_init_29 : decode cX1_init 29 = .ok (.bipush 6, 2) := by decide +kernel
theorem dX1_init_31 : decode cX1_init 31 = .ok (.newarray .int, 2) := by decide +kernel
theorem dX1_init_33 : decode cX1_init 33 = .ok (.putfield 21, 3) := by decide +kernel
theorem dX1_init_36 : decode cX1_init 36 = .ok (.aload_n 0, 1) := by decide +kernel
theorem dX1_init_37 : decode cX1_init 37 = .ok (.iconst 4, 1) := by decide +kernel
theorem dX1_init_38 : decode cX1_init 38 = .ok (.newarray .int, 2) := by decide +kernel
theorem dX1_init_40 : decode cX1_init 40 = .ok (.putfield 24, 3) := by decide +kernel
theorem dX1_init_43 : decode cX1_init 43 = .ok (.aload_n 0, 1) := by decide +kernel
theorem dX1_init_44 : decode cX1_init 44 = .ok (.iconst 0, 1) := by decide +kernel
theorem dX1_init_45 : decode cX1_init 45 = .ok (.putfield 27, 3) := by decide +kernel
theorem dX1_init_48 : decode cX1_init 48 = .ok (.aload_n 0, 1) := by decide +kernel
theorem dX1_init_49 : decode cX1_init 49 = .ok (.iconst 0, 1) := by decide +kernel
theorem dX1_init_50 : decode cX1_init 50 = .ok (.putfield 31, 3) := by decide +kernel
theorem dX1_init_53 : decode cX1_init 53 = .ok (.return_, 1) := by decide +kernel
theorem dX1_make_0 : decode cX1_make 0 = .ok (.iconst 0, 1) := by decide +kernel
theorem dX1_make_1 : decode cX1_make 1 = .ok (.istore 6, 2) := by decide +kernel
theorem dX1_make_3 : decode cX1_make 3 = .ok (.iload 6, 2) := by decide +kernel
theorem dX1_make_5 : decode cX1_make 5 = .ok (.iload 4, 2) := by decide +kernel
theorem dX1_make_7 : decode cX1_make 7 = .ok (.if_icmp .ge 50, 3) := by decide +kernel
theorem dX1_make_10 : decode cX1_make 10 = .ok (.aload_n 0, 1) := by decide +kernel
theorem dX1_make_11 : decode cX1_make 11 = .ok (.getfield 9, 3) := by decide +kernel
theorem dX1_make_14 : decode cX1_make 14 = .ok (.iload 6, 2) := by decide +kernel
theorem dX1_make_16 : decode cX1_make 16 = .ok (.lload_n 1, 1) := by decide +kernel
theorem dX1_make_17 : decode cX1_make 17 = .ok (.bipush 8, 2) := by decide +kernel
theorem dX1_make_19 : decode cX1_make 19 = .ok (.iload 6, 2) := by decide +kernel
theorem dX1_make_21 : decode cX1_make 21 = .ok (.imul, 1) := by decide +kernel
theorem dX1_make_22 : decode cX1_make 22 = .ok (.lushr, 1) := by decide +kernel
theorem dX1_make_23 : decode cX1_make 23 = .ok (.l2i, 1) := by decide +kernel
theorem dX1_make_24 : decode cX1_make 24 = .ok (.sipush 255, 3) := by decide +kernel
theorem dX1_make_27 : decode cX1_make 27 = .ok (.iand, 1) := by decide +kernel
theorem dX1_make_28 : decode cX1_make 28 = .ok (.iastore, 1) := by decide +kernel
theorem dX1_make_29 : decode cX1_make 29 = .ok (.aload_n 0, 1) := by decide +kernel
theorem dX1_make_30 : decode cX1_make 30 = .ok (.getfield 15, 3) := by decide +kernel
theorem dX1_make_33 : decode cX1_make 33 = .ok (.iload 6, 2) := by decide +kernel
theorem dX1_make_35 : decode cX1_make 35 = .ok (.iload_n 3, 1) := by decide +kernel
theorem dX1_make_36 : decode cX1_make 36 = .ok (.iconst 2, 1) := by decide +kernel
theorem dX1_make_37 : decode cX1_make 37 = .ok (.iload 6, 2) := by decide +kernel
theorem dX1_make_39 : decode cX1_make 39 = .ok (.imul, 1) := by decide +kernel
theorem dX1_make_40 : decode cX1_make 40 = .ok (.iushr, 1) := by decide +kernel
theorem dX1_make_41 : decode cX1_make 41 = .ok (.iconst 3, 1) := by decide +kernel
theorem dX1_make_42 : decode cX1_make 42 = .ok (.iand, 1) := by decide +kernel
theorem dX1_make_43 : decode cX1_make 43 = .ok (.iload 5, 2) := by decide +kernel
theorem dX1_make_45 : decode cX1_make 45 = .ok (.iconst 1, 1) := by decide +kernel
theorem dX1_make_46 : decode cX1_make 46 = .ok (.isub, 1) := by decide +kernel
end
section
theorem dX1_make_47 : decode cX1_make 47 = .ok (.invokestatic 34, 3) := by decide +kernel
theorem dX1_make_50 : decode cX1_make 50 = .ok (.iastore, 1) := by decide +kernel
theorem dX1_make_51 : decode cX1_make 51 = .ok (.iinc 6 1, 3) := by decide +kernel
theorem dX1_make_54 : decode cX1_make 54 = .ok (.goto (-51), 3) := by decide +kernel
theorem dX1_make_57 : decode cX1_make 57 = .ok (.aload_n 0, 1) := by decide +kernel
theorem dX1_make_58 : decode cX1_make 58 = .ok (.iload 4, 2) := by decide +kernel
theorem dX1_make_60 : decode cX1_make 60 = .ok (.putfield 27, 3) := by decide +kernel
theorem dX1_make_63 : decode cX1_make 63 = .ok (.aload_n 0, 1) := by decide +kernel
theorem dX1_make_64 : decode cX1_make 64 = .ok (.ldc 40, 2) := by decide +kernel
theorem dX1_make_66 : decode cX1_make 66 = .ok (.putfield 31, 3) := by decide +kernel
theorem dX1_make_69 : decode cX1_make 69 = .ok (.aload_n 0, 1) := by decide +kernel
theorem dX1_make_70 : decode cX1_make 70 = .ok (.iconst 0, 1) := by decide +kernel
theorem dX1_make_71 : decode cX1_make 71 = .ok (.iconst 0, 1) := by decide +kernel
theorem dX1_make_72 : decode cX1_make 72 = .ok (.invokevirtual 41, 3) := by decide +kernel
theorem dX1_make_75 : decode cX1_make 75 = .ok (.aload_n 0, 1) := by decide +kernel
theorem dX1_make_76 : decode cX1_make 76 = .ok (.getfield 31, 3) := by decide +kernel
theorem dX1_make_79 : decode cX1_make 79 = .ok (.ireturn, 1) := by decide +kernel
theorem dX1_putFrom_0 : decode cX1_putFrom 0 = .ok (.iload_n 2, 1) := by decide +kernel
theorem dX1_putFrom_1 : decode cX1_putFrom 1 = .ok (.aload_n 0, 1) := by decide +kernel
theorem dX1_putFrom_2 : decode cX1_putFrom 2 = .ok (.getfield 31, 3) := by decide +kernel
theorem dX1_putFrom_5 : decode cX1_putFrom 5 = .ok (.if_icmp .lt 4, 3) := by decide +kernel
theorem dX1_putFrom_8 : decode cX1_putFrom 8 = .ok (.return_, 1) := by decide +kernel
theorem dX1_putFrom_9 : decode cX1_putFrom 9 = .ok (.iload_n 1, 1) := by decide +kernel
theorem dX1_putFrom_10 : decode cX1_putFrom 10 = .ok (.aload_n 0, 1) := by decide +kernel
theorem dX1_putFrom_11 : decode cX1_putFrom 11 = .ok (.getfield 27, 3) := by decide +kernel
theorem dX1_putFrom_14 : decode cX1_putFrom 14 = .ok (.if_icmp .lt 9, 3) := by decide +kernel
theorem dX1_putFrom_17 : decode cX1_putFrom 17 = .ok (.aload_n 0, 1) := by decide +kernel
theorem dX1_putFrom_18 : decode cX1_putFrom 18 = .ok (.iload_n 2, 1) := by decide +kernel
theorem dX1_putFrom_19 : decode cX1_putFrom 19 = .ok (.invokevirtual 45, 3) := by decide +kernel
theorem dX1_putFrom_22 : decode cX1_putFrom 22 = .ok (.return_, 1) := by decide +kernel
theorem dX1_putFrom_23 : decode cX1_putFrom 23 = .ok (.iconst 0, 1) := by decide +kernel
theorem dX1_putFrom_24 : decode cX1_putFrom 24 = .ok (.istore_n 3, 1) := by decide +kernel
theorem dX1_putFrom_25 : decode cX1_putFrom 25 = .ok (.iload_n 3, 1) := by decide +kernel
theorem dX1_putFrom_26 : decode cX1_putFrom 26 = .ok (.aload_n 0, 1) := by decide +kernel
theorem dX1_putFrom_27 : decode cX1_putFrom 27 = .ok (.getfield 15, 3) := by decide +kernel
theorem dX1_putFrom_30 : decode cX1_putFrom 30 = .ok (.iload_n 1, 1) := by decide +kernel
theorem dX1_putFrom_31 : decode cX1_putFrom 31 = .ok (.iaload, 1) := by decide +kernel
theorem dX1_putFrom_32 : decode cX1_putFrom 32 = .ok (.if_icmp .gt 63, 3) := by decide +kernel
theorem dX1_putFrom_35 : decode cX1_putFrom 35 = .ok (.aload_n 0, 1) := by decide +kernel
theorem dX1_putFrom_36 : decode cX1_putFrom 36 = .ok (.getfield 18, 3) := by decide +kernel
theorem dX1_putFrom_39 : decode cX1_putFrom 39 = .ok (.iload_n 1, 1) := by decide +kernel
theorem dX1_putFrom_40 : decode cX1_putFrom 40 = .ok (.iload_n 3, 1) := by decide +kernel
theorem dX1_putFrom_41 : decode cX1_putFrom 41 = .ok (.iastore, 1) := by decide +kernel
theorem dX1_putFrom_42 : decode cX1_putFrom 42 = .ok (.aload_n 0, 1) := by decide +kernel
theorem dX1_putFrom_43 : decode cX1_putFrom 43 = .ok (.getfield 24, 3) := by decide +kernel
theorem dX1_putFrom_46 : decode cX1_putFrom 46 = .ok (.iload_n 3, 1) := by decide +kernel
theorem dX1_putFrom_47 : decode cX1_putFrom 47 = .ok (.dup2, 1) := by decide +kernel
theorem dX1_putFrom_48 : decode cX1_putFrom 48 = .ok (.iaload, 1) := by decide +kernel
theorem dX1_putFrom_49 : decode cX1_putFrom 49 = .ok (.aload_n 0, 1) := by decide +kernel
theorem dX1_putFrom_50 : decode cX1_putFrom 50 = .ok (.getfield 9, 3) := by decide +kernel
theorem dX1_putFrom_53 : decode cX1_putFrom 53 = .ok (.iload_n 1, 1) := by decide +kernel
theorem dX1_putFrom_54 : decode cX1_putFrom 54 = .ok (.iaload, 1) := by decide +kernel
theorem dX1_putFrom_55 : decode cX1_putFrom 55 = .ok (.iadd, 1) := by decide +kernel
theorem dX1_putFrom_56 : decode cX1_putFrom 56 = .ok (.iastore, 1) := by decide +kernel
theorem dX1_putFrom_57 : decode cX1_putFrom 57 = .ok (.aload_n 0, 1) := by decide +kernel
theorem dX1_putFrom_58 : decode cX1_putFrom 58 = .ok (.iload_n 1, 1) := by decide +kernel
theorem dX1_putFrom_59 : decode cX1_putFrom 59 = .ok (.iconst 1, 1) := by decide +kernel
theorem dX1_putFrom_60 : decode cX1_putFrom 60 = .ok (.iadd, 1) := by decide +kernel
theorem dX1_putFrom_61 : decode cX1_putFrom 61 = .ok (.iload_n 2, 1) := by decide +kernel
theorem dX1_putFrom_62 : decode cX1_putFrom 62 = .ok (.aload_n 0, 1) := by decide +kernel
theorem dX1_putFrom_63 : decode cX1_putFrom 63 = .ok (.getfield 24, 3) := by decide +kernel
theorem dX1_putFrom_66 : decode cX1_putFrom 66 = .ok (.iload_n 3, 1) := by decide +kernel
theorem dX1_putFrom_67 : decode cX1_putFrom 67 = .ok (.iaload, 1) := by decide +kernel
theorem dX1_putFrom_68 : decode cX1_putFrom 68 = .ok (.invokestatic 49, 3) := by decide +kernel
theorem dX1_putFrom_71 : decode cX1_putFrom 71 = .ok (.invokevirtual 41, 3) := by decide +kernel
theorem dX1_putFrom_74 : decode cX1_putFrom 74 = .ok (.aload_n 0, 1) := by decide +kernel
theorem dX1_putFrom_75 : decode cX1_putFrom 75 = .ok (.getfield 24, 3) := by decide +kernel
theorem dX1_putFrom_78 : decode cX1_putFrom 78 = .ok (.iload_n 3, 1) := by decide +kernel
theorem dX1_putFrom_79 : decode cX1_putFrom 79 = .ok (.dup2, 1) := by decide +kernel
theorem dX1_putFrom_80 : decode cX1_putFrom 80 = .ok (.iaload, 1) := by decide +kernel
theorem dX1_putFrom_81 : decode cX1_putFrom 81 = .ok (.aload_n 0, 1) := by decide +kernel
theorem dX1_putFrom_82 : decode cX1_putFrom 82 = .ok (.getfield 9, 3) := by decide +kernel
theorem dX1_putFrom_85 : decode cX1_putFrom 85 = .ok (.iload_n 1, 1) := by decide +kernel
theorem dX1_putFrom_86 : decode cX1_putFrom 86 = .ok (.iaload, 1) := by decide +kernel
theorem dX1_putFrom_87 : decode cX1_putFrom 87 = .ok (.isub, 1) := by decide +kernel
theorem dX1_putFrom_88 : decode cX1_putFrom 88 = .ok (.iastore, 1) := by decide +kernel
theorem dX1_putFrom_89 : decode cX1_putFrom 89 = .ok (.iinc 3 1, 3) := by decide +kernel
theorem dX1_putFrom_92 : decode cX1_putFrom 92 = .ok (.goto (-67), 3) := by decide +kernel
theorem dX1_putFrom_95 : decode cX1_putFrom 95 = .ok (.return_, 1) := by decide +kernel
theorem dX1_keepTried_0 : decode cX1_keepTried 0 = .ok (.aload_n 0, 1) := by decide +kernel
theorem dX1_keepTried_1 : decode cX1_keepTried 1 = .ok (.iload_n 1, 1) := by decide +kernel
theorem dX1_keepTried_2 : decode cX1_keepTried 2 = .ok (.putfield 31, 3) := by decide +kernel
theorem dX1_keepTried_5 : decode cX1_keepTried 5 = .ok (.iconst 0, 1) := by decide +kernel
theorem dX1_keepTried_6 : decode cX1_keepTried 6 = .ok (.istore_n 2, 1) := by decide +kernel
theorem dX1_keepTried_7 : decode cX1_keepTried 7 = .ok (.iload_n 2, 1) := by decide +kernel
theorem dX1_keepTried_8 : decode cX1_keepTried 8 = .ok (.aload_n 0, 1) := by decide +kernel
theorem dX1_keepTried_9 : decode cX1_keepTried 9 = .ok (.getfield 27, 3) := by decide +kernel
theorem dX1_keepTried_12 : decode cX1_keepTried 12 = .ok (.if_icmp .ge 21, 3) := by decide +kernel
theorem dX1_keepTried_15 : decode cX1_keepTried 15 = .ok (.aload_n 0, 1) := by decide +kernel
theorem dX1_keepTried_16 : decode cX1_keepTried 16 = .ok (.getfield 21, 3) := by decide +kernel
theorem dX1_keepTried_19 : decode cX1_keepTried 19 = .ok (.iload_n 2, 1) := by decide +kernel
theorem dX1_keepTried_20 : decode cX1_keepTried 20 = .ok (.aload_n 0, 1) := by decide +kernel
theorem dX1_keepTried_21 : decode cX1_keepTried 21 = .ok (.getfield 18, 3) := by decide +kernel
theorem dX1_keepTried_24 : decode cX1_keepTried 24 = .ok (.iload_n 2, 1) := by decide +kernel
theorem dX1_keepTried_25 : decode cX1_keepTried 25 = .ok (.iaload, 1) := by decide +kernel
theorem dX1_keepTried_26 : decode cX1_keepTried 26 = .ok (.iastore, 1) := by decide +kernel
theorem dX1_keepTried_27 : decode cX1_keepTried 27 = .ok (.iinc 2 1, 3) := by decide +kernel
theorem dX1_keepTried_30 : decode cX1_keepTried 30 = .ok (.goto (-23), 3) := by decide +kernel
theorem dX1_keepTried_33 : decode cX1_keepTried 33 = .ok (.return_, 1) := by decide +kernel
theorem dX2_init_0 : decode cX2_init 0 = .ok (.aload_n 0, 1) := by decide +kernel
theorem dX2_init_1 : decode cX2_init 1 = .ok (.invokespecial 3, 3) := by decide +kernel
theorem dX2_init_4 : decode cX2_init 4 = .ok (.aload_n 0, 1) := by decide +kernel
theorem dX2_init_5 : decode cX2_init 5 = .ok (.bipush 40, 2) := by decide +kernel
theorem dX2_init_7 : decode cX2_init 7 = .ok (.newarray .int, 2) := by decide +kernel
theorem dX2_init_9 : decode cX2_init 9 = .ok (.putfield 9, 3) := by decide +kernel
theorem dX2_init_12 : decode cX2_init 12 = .ok (.aload_n 0, 1) := by decide +kernel
theorem dX2_init_13 : decode cX2_init 13 = .ok (.bipush 40, 2) := by decide +kernel
theorem dX2_init_15 : decode cX2_init 15 = .ok (.newarray .int, 2) := by decide +kernel
theorem dX2_init_17 : decode cX2_init 17 = .ok (.putfield 15, 3) := by decide +kernel
theorem dX2_init_20 : decode cX2_init 20 = .ok (.aload_n 0, 1) := by decide +kernel
theorem dX2_init_21 : decode cX2_init 21 = .ok (.bipush 40, 2) := by decide +kernel
theorem dX2_init_23 : decode cX2_init 23 = .ok (.newarray .int, 2) := by decide +kernel
theorem dX2_init_25 : decode cX2_init 25 = .ok (.putfield 18, 3) := by decide +kernel
theorem dX2_init_28 : decode cX2_init 28 = .ok (.aload_n 0, 1) := by decide +kernel
theorem dX2_init_29 : decode cX2_init 29 = .ok (.bipush 40, 2) := by decide +kernel
theorem dX2_init_31 : decode cX2_init 31 = .ok (.newarray .int, 2) := by decide +kernel
theorem dX2_init_33 : decode cX2_init 33 = .ok (.putfield 21, 3) := by decide +kernel
theorem dX2_init_36 : decode cX2_init 36 = .ok (.aload_n 0, 1) := by decide +kernel
theorem dX2_init_37 : decode cX2_init 37 = .ok (.bipush 40, 2) := by decide +kernel
theorem dX2_init_39 : decode cX2_init 39 = .ok (.newarray .int, 2) := by decide +kernel
theorem dX2_init_41 : decode cX2_init 41 = .ok (.putfield 24, 3) := by decide +kernel
theorem dX2_init_44 : decode cX2_init 44 = .ok (.aload_n 0, 1) := by decide +kernel
theorem dX2_init_45 : decode cX2_init 45 = .ok (.bipush 40, 2) := by decide +kernel
theorem dX2_init_47 : decode cX2_init 47 = .ok (.newarray .int, 2) := by decide +kernel
theorem dX2_init_49 : decode cX2_init 49 = .ok (.putfield 27, 3) := by decide +kernel
theorem dX2_init_52 : decode cX2_init 52 = .ok (.aload_n 0, 1) := by decide +kernel
theorem dX2_init_53 : decode cX2_init 53 = .ok (.bipush 40, 2) := by decide +kernel
theorem dX2_init_55 : decode cX2_init 55 = .ok (.newarray .int, 2) := by decide +kernel
theorem dX2_init_57 : decode cX2_init 57 = .ok (.putfield 30, 3) := by decide +kernel
theorem dX2_init_60 : decode cX2_init 60 = .ok (.aload_n 0, 1) := by decide +kernel
theorem dX2_init_61 : decode cX2_init 61 = .ok (.bipush 40, 2) := by decide +kernel
theorem dX2_init_63 : decode cX2_init 63 = .ok (.newarray .boolean, 2) := by decide +kernel
theorem dX2_init_65 : decode cX2_init 65 = .ok (.putfield 33, 3) := by decide +kernel
theorem dX2_init_68 : decode cX2_init 68 = .ok (.aload_n 0, 1) := by decide +kernel
theorem dX2_init_69 : decode cX2_init 69 = .ok (.bipush 120, 2) := by decide +kernel
theorem dX2_init_71 : decode cX2_init 71 = .ok (.newarray .int, 2) := by decide +kernel
theorem dX2_init_73 : decode cX2_init 73 = .ok (.putfield 37, 3) := by decide +kernel
theorem dX2_init_76 : decode cX2_init 76 = .ok (.aload_n 0, 1) := by decide +kernel
theorem dX2_init_77 : decode cX2_init 77 = .ok (.bipush 120, 2) := by decide +kernel
theorem dX2_init_79 : decode cX2_init 79 = .ok (.newarray .int, 2) := by decide +kernel
theorem dX2_init_81 : decode cX2_init 81 = .ok (.putfield 40, 3) := by decide +kernel
theorem dX2_init_84 : decode cX2_init 84 = .ok (.aload_n 0, 1) := by decide +kernel
theorem dX2_init_85 : decode cX2_init 85 = .ok (.bipush 120, 2) := by decide +kernel
theorem dX2_init_87 : decode cX2_init 87 = .ok (.newarray .int, 2) := by decide +kernel
theorem dX2_init_89 : decode cX2_init 89 = .ok (.putfield 43, 3) := by decide +kernel
theorem dX2_init_92 : decode cX2_init 92 = .ok (.aload_n 0, 1) := by decide +kernel
theorem dX2_init_93 : decode cX2_init 93 = .ok (.iconst 0, 1) := by decide +kernel
theorem dX2_init_94 : decode cX2_init 94 = .ok (.putfield 46, 3) := by decide +kernel
theorem dX2_init_97 : decode cX2_init 97 = .ok (.return_, 1) := by decide +kernel
theorem dX2_hasSerial_0 : decode cX2_hasSerial 0 = .ok (.iconst 0, 1) := by decide +kernel
theorem dX2_hasSerial_1 : decode cX2_hasSerial 1 = .ok (.istore_n 2, 1) := by decide +kernel
theorem dX2_hasSerial_2 : decode cX2_hasSerial 2 = .ok (.iload_n 2, 1) := by decide +kernel
theorem dX2_hasSerial_3 : decode cX2_hasSerial 3 = .ok (.aload_n 0, 1) := by decide +kernel
theorem dX2_hasSerial_4 : decode cX2_hasSerial 4 = .ok (.getfield 46, 3) := by decide +kernel
theorem dX2_hasSerial_7 : decode cX2_hasSerial 7 = .ok (.if_icmp .ge 21, 3) := by decide +kernel
theorem dX2_hasSerial_10 : decode cX2_hasSerial 10 = .ok (.aload_n 0, 1) := by decide +kernel
theorem dX2_hasSerial_11 : decode cX2_hasSerial 11 = .ok (.getfield 15, 3) := by decide +kernel
theorem dX2_hasSerial_14 : decode cX2_hasSerial 14 = .ok (.iload_n 2, 1) := by decide +kernel
theorem dX2_hasSerial_15 : decode cX2_hasSerial 15 = .ok (.iaload, 1) := by decide +kernel
theorem dX2_hasSerial_16 : decode cX2_hasSerial 16 = .ok (.iload_n 1, 1) := by decide +kernel
theorem dX2_hasSerial_17 : decode cX2_hasSerial 17 = .ok (.if_icmp .ne 5, 3) := by decide +kernel
theorem dX2_hasSerial_20 : decode cX2_hasSerial 20 = .ok (.iconst 1, 1) := by decide +kernel
theorem dX2_hasSerial_21 : decode cX2_hasSerial 21 = .ok (.ireturn, 1) := by decide +kernel
theorem dX2_hasSerial_22 : decode cX2_hasSerial 22 = .ok (.iinc 2 1, 3) := by decide +kernel
theorem dX2_hasSerial_25 : decode cX2_hasSerial 25 = .ok (.goto (-23), 3) := by decide +kernel
theorem dX2_hasSerial_28 : decode cX2_hasSerial 28 = .ok (.iconst 0, 1) := by decide +kernel
theorem dX2_hasSerial_29 : decode cX2_hasSerial 29 = .ok (.ireturn, 1) := by decide +kernel
theorem dX2_add_0 : decode cX2_add 0 = .ok (.aload_n 0, 1) := by decide +kernel
theorem dX2_add_1 : decode cX2_add 1 = .ok (.getfield 46, 3) := by decide +kernel
theorem dX2_add_4 : decode cX2_add 4 = .ok (.istore 6, 2) := by decide +kernel
theorem dX2_add_6 : decode cX2_add 6 = .ok (.aload_n 0, 1) := by decide +kernel
theorem dX2_add_7 : decode cX2_add 7 = .ok (.getfield 9, 3) := by decide +kernel
theorem dX2_add_10 : decode cX2_add 10 = .ok (.iload 6, 2) := by decide +kernel
theorem dX2_add_12 : decode cX2_add 12 = .ok (.iload_n 1, 1) := by decide +kernel
theorem dX2_add_13 : decode cX2_add 13 = .ok (.iastore, 1) := by decide +kernel
theorem dX2_add_14 : decode cX2_add 14 = .ok (.aload_n 0, 1) := by decide +kernel
theorem dX2_add_15 : decode cX2_add 15 = .ok (.getfield 15, 3) := by decide +kernel
theorem dX2_add_18 : decode cX2_add 18 = .ok (.iload 6, 2) := by decide +kernel
theorem dX2_add_20 : decode cX2_add 20 = .ok (.iload_n 2, 1) := by decide +kernel
theorem dX2_add_21 : decode cX2_add 21 = .ok (.iastore, 1) := by decide +kernel
theorem dX2_add_22 : decode cX2_add 22 = .ok (.aload_n 0, 1) := by decide +kernel
theorem dX2_add_23 : decode cX2_add 23 = .ok (.getfield 18, 3) := by decide +kernel
theorem dX2_add_26 : decode cX2_add 26 = .ok (.iload 6, 2) := by decide +kernel
theorem dX2_add_28 : decode cX2_add 28 = .ok (.iload_n 3, 1) := by decide +kernel
theorem dX2_add_29 : decode cX2_add 29 = .ok (.iastore, 1) := by decide +kernel
theorem dX2_add_30 : decode cX2_add 30 = .ok (.aload_n 0, 1) := by decide +kernel
theorem dX2_add_31 : decode cX2_add 31 = .ok (.getfield 21, 3) := by decide +kernel
theorem dX2_add_34 : decode cX2_add 34 = .ok (.iload 6, 2) := by decide +kernel
theorem dX2_add_36 : decode cX2_add 36 = .ok (.iload 4, 2) := by decide +kernel
theorem dX2_add_38 : decode cX2_add 38 = .ok (.iastore, 1) := by decide +kernel
theorem dX2_add_39 : decode cX2_add 39 = .ok (.aload_n 0, 1) := by decide +kernel
theorem dX2_add_40 : decode cX2_add 40 = .ok (.getfield 24, 3) := by decide +kernel
theorem dX2_add_43 : decode cX2_add 43 = .ok (.iload 6, 2) := by decide +kernel
theorem dX2_add_45 : decode cX2_add 45 = .ok (.iload 5, 2) := by decide +kernel
theorem dX2_add_47 : decode cX2_add 47 = .ok (.iastore, 1) := by decide +kernel
theorem dX2_add_48 : decode cX2_add 48 = .ok (.aload_n 0, 1) := by decide +kernel
theorem dX2_add_49 : decode cX2_add 49 = .ok (.getfield 27, 3) := by decide +kernel
theorem dX2_add_52 : decode cX2_add 52 = .ok (.iload 6, 2) := by decide +kernel
theorem dX2_add_54 : decode cX2_add 54 = .ok (.iconst (-1), 1) := by decide +kernel
theorem dX2_add_55 : decode cX2_add 55 = .ok (.iastore, 1) := by decide +kernel
theorem dX2_add_56 : decode cX2_add 56 = .ok (.iconst 0, 1) := by decide +kernel
theorem dX2_add_57 : decode cX2_add 57 = .ok (.istore 7, 2) := by decide +kernel
theorem dX2_add_59 : decode cX2_add 59 = .ok (.iload 7, 2) := by decide +kernel
theorem dX2_add_61 : decode cX2_add 61 = .ok (.iconst 3, 1) := by decide +kernel
theorem dX2_add_62 : decode cX2_add 62 = .ok (.if_icmp .ge 23, 3) := by decide +kernel
theorem dX2_add_65 : decode cX2_add 65 = .ok (.aload_n 0, 1) := by decide +kernel
theorem dX2_add_66 : decode cX2_add 66 = .ok (.getfield 37, 3) := by decide +kernel
theorem dX2_add_69 : decode cX2_add 69 = .ok (.iload 6, 2) := by decide +kernel
theorem dX2_add_71 : decode cX2_add 71 = .ok (.iconst 3, 1) := by decide +kernel
theorem dX2_add_72 : decode cX2_add 72 = .ok (.imul, 1) := by decide +kernel
theorem dX2_add_73 : decode cX2_add 73 = .ok (.iload 7, 2) := by decide +kernel
theorem dX2_add_75 : decode cX2_add 75 = .ok (.iadd, 1) := by decide +kernel
theorem dX2_add_76 : decode cX2_add 76 = .ok (.iload 5, 2) := by decide +kernel
theorem dX2_add_78 : decode cX2_add 78 = .ok (.iastore, 1) := by decide +kernel
theorem dX2_add_79 : decode cX2_add 79 = .ok (.iinc 7 1, 3) := by decide +kernel
theorem dX2_add_82 : decode cX2_add 82 = .ok (.goto (-23), 3) := by decide +kernel
theorem dX2_add_85 : decode cX2_add 85 = .ok (.aload_n 0, 1) := by decide +kernel
theorem dX2_add_86 : decode cX2_add 86 = .ok (.dup, 1) := by decide +kernel
theorem dX2_add_87 : decode cX2_add 87 = .ok (.getfield 46, 3) := by decide +kernel
theorem dX2_add_90 : decode cX2_add 90 = .ok (.iconst 1, 1) := by decide +kernel
theorem dX2_add_91 : decode cX2_add 91 = .ok (.iadd, 1) := by decide +kernel
theorem dX2_add_92 : decode cX2_add 92 = .ok (.putfield 46, 3) := by decide +kernel
theorem dX2_add_95 : decode cX2_add 95 = .ok (.iload 6, 2) := by decide +kernel
theorem dX2_add_97 : decode cX2_add 97 = .ok (.ireturn, 1) := by decide +kernel
theorem dX2_isScrapped_0 : decode cX2_isScrapped 0 = .ok (.aload_n 0, 1) := by decide +kernel
theorem dX2_isScrapped_1 : decode cX2_isScrapped 1 = .ok (.getfield 27, 3) := by decide +kernel
theorem dX2_isScrapped_4 : decode cX2_isScrapped 4 = .ok (.iload_n 1, 1) := by decide +kernel
theorem dX2_isScrapped_5 : decode cX2_isScrapped 5 = .ok (.iaload, 1) := by decide +kernel
theorem dX2_isScrapped_6 : decode cX2_isScrapped 6 = .ok (.iconst (-1), 1) := by decide +kernel
theorem dX2_isScrapped_7 : decode cX2_isScrapped 7 = .ok (.if_icmp .eq 7, 3) := by decide +kernel
theorem dX2_isScrapped_10 : decode cX2_isScrapped 10 = .ok (.iconst 1, 1) := by decide +kernel
theorem dX2_isScrapped_11 : decode cX2_isScrapped 11 = .ok (.goto 4, 3) := by decide +kernel
theorem dX2_isScrapped_14 : decode cX2_isScrapped 14 = .ok (.iconst 0, 1) := by decide +kernel
theorem dX2_isScrapped_15 : decode cX2_isScrapped 15 = .ok (.ireturn, 1) := by decide +kernel
theorem dX2_conditionOf_0 : decode cX2_conditionOf 0 = .ok (.iconst 0, 1) := by decide +kernel
theorem dX2_conditionOf_1 : decode cX2_conditionOf 1 = .ok (.istore_n 2, 1) := by decide +kernel
theorem dX2_conditionOf_2 : decode cX2_conditionOf 2 = .ok (.iconst 0, 1) := by decide +kernel
theorem dX2_conditionOf_3 : decode cX2_conditionOf 3 = .ok (.istore_n 3, 1) := by decide +kernel
theorem dX2_conditionOf_4 : decode cX2_conditionOf 4 = .ok (.iload_n 3, 1) := by decide +kernel
theorem dX2_conditionOf_5 : decode cX2_conditionOf 5 = .ok (.iconst 3, 1) := by decide +kernel
theorem dX2_conditionOf_6 : decode cX2_conditionOf 6 = .ok (.if_icmp .ge 24, 3) := by decide +kernel
theorem dX2_conditionOf_9 : decode cX2_conditionOf 9 = .ok (.iload_n 2, 1) := by decide +kernel
theorem dX2_conditionOf_10 : decode cX2_conditionOf 10 = .ok (.aload_n 0, 1) := by decide +kernel
theorem dX2_conditionOf_11 : decode cX2_conditionOf 11 = .ok (.getfield 43, 3) := by decide +kernel
theorem dX2_conditionOf_14 : decode cX2_conditionOf 14 = .ok (.iload_n 1, 1) := by decide +kernel
theorem dX2_conditionOf_15 : decode cX2_conditionOf 15 = .ok (.iconst 3, 1) := by decide +kernel
theorem dX2_conditionOf_16 : decode cX2_conditionOf 16 = .ok (.imul, 1) := by decide +kernel
theorem dX2_conditionOf_17 : decode cX2_conditionOf 17 = .ok (.iload_n 3, 1) := by decide +kernel
theorem dX2_conditionOf_18 : decode cX2_conditionOf 18 = .ok (.iadd, 1) := by decide +kernel
theorem dX2_conditionOf_19 : decode cX2_conditionOf 19 = .ok (.iaload, 1) := by decide +kernel
theorem dX2_conditionOf_20 : decode cX2_conditionOf 20 = .ok (.invokestatic 50, 3) := by decide +kernel
theorem dX2_conditionOf_23 : decode cX2_conditionOf 23 = .ok (.istore_n 2, 1) := by decide +kernel
theorem dX2_conditionOf_24 : decode cX2_conditionOf 24 = .ok (.iinc 3 1, 3) := by decide +kernel
theorem dX2_conditionOf_27 : decode cX2_conditionOf 27 = .ok (.goto (-23), 3) := by decide +kernel
theorem dX2_conditionOf_30 : decode cX2_conditionOf 30 = .ok (.iload_n 2, 1) := by decide +kernel
theorem dX2_conditionOf_31 : decode cX2_conditionOf 31 = .ok (.ireturn, 1) := by decide +kernel
theorem dX2_countUse_0 : decode cX2_countUse 0 = .ok (.iconst 0, 1) := by decide +kernel
theorem dX2_countUse_1 : decode cX2_countUse 1 = .ok (.istore_n 3, 1) := by decide +kernel
theorem dX2_countUse_2 : decode cX2_countUse 2 = .ok (.iload_n 3, 1) := by decide +kernel
theorem dX2_countUse_3 : decode cX2_countUse 3 = .ok (.iconst 3, 1) := by decide +kernel
theorem dX2_countUse_4 : decode cX2_countUse 4 = .ok (.if_icmp .ge 38, 3) := by decide +kernel
theorem dX2_countUse_7 : decode cX2_countUse 7 = .ok (.iload_n 1, 1) := by decide +kernel
theorem dX2_countUse_8 : decode cX2_countUse 8 = .ok (.iconst 3, 1) := by decide +kernel
theorem dX2_countUse_9 : decode cX2_countUse 9 = .ok (.imul, 1) := by decide +kernel
theorem dX2_countUse_10 : decode cX2_countUse 10 = .ok (.iload_n 3, 1) := by decide +kernel
theorem dX2_countUse_11 : decode cX2_countUse 11 = .ok (.iadd, 1) := by decide +kernel
theorem dX2_countUse_12 : decode cX2_countUse 12 = .ok (.istore 4, 2) := by decide +kernel
theorem dX2_countUse_14 : decode cX2_countUse 14 = .ok (.aload_n 0, 1) := by decide +kernel
theorem dX2_countUse_15 : decode cX2_countUse 15 = .ok (.getfield 37, 3) := by decide +kernel
theorem dX2_countUse_18 : decode cX2_countUse 18 = .ok (.iload 4, 2) := by decide +kernel
theorem dX2_countUse_20 : decode cX2_countUse 20 = .ok (.iaload, 1) := by decide +kernel
theorem dX2_countUse_21 : decode cX2_countUse 21 = .ok (.iload_n 2, 1) := by decide +kernel
theorem dX2_countUse_22 : decode cX2_countUse 22 = .ok (.if_icmp .eq 14, 3) := by decide +kernel
theorem dX2_countUse_25 : decode cX2_countUse 25 = .ok (.aload_n 0, 1) := by decide +kernel
theorem dX2_countUse_26 : decode cX2_countUse 26 = .ok (.getfield 40, 3) := by decide +kernel
theorem dX2_countUse_29 : decode cX2_countUse 29 = .ok (.iload 4, 2) := by decide +kernel
theorem dX2_countUse_31 : decode cX2_countUse 31 = .ok (.dup2, 1) := by decide +kernel
theorem dX2_countUse_32 : decode cX2_countUse 32 = .ok (.iaload, 1) := by decide +kernel
theorem dX2_countUse_33 : decode cX2_countUse 33 = .ok (.iconst 1, 1) := by decide +kernel
theorem dX2_countUse_34 : decode cX2_countUse 34 = .ok (.iadd, 1) := by decide +kernel
theorem dX2_countUse_35 : decode cX2_countUse 35 = .ok (.iastore, 1) := by decide +kernel
theorem dX2_countUse_36 : decode cX2_countUse 36 = .ok (.iinc 3 1, 3) := by decide +kernel
theorem dX2_countUse_39 : decode cX2_countUse 39 = .ok (.goto (-37), 3) := by decide +kernel
theorem dX2_countUse_42 : decode cX2_countUse 42 = .ok (.return_, 1) := by decide +kernel
theorem dX2_enterGrade_0 : decode cX2_enterGrade 0 = .ok (.iload_n 1, 1) := by decide +kernel
theorem dX2_enterGrade_1 : decode cX2_enterGrade 1 = .ok (.iconst 3, 1) := by decide +kernel
theorem dX2_enterGrade_2 : decode cX2_enterGrade 2 = .ok (.imul, 1) := by decide +kernel
theorem dX2_enterGrade_3 : decode cX2_enterGrade 3 = .ok (.iload_n 2, 1) := by decide +kernel
theorem dX2_enterGrade_4 : decode cX2_enterGrade 4 = .ok (.iadd, 1) := by decide +kernel
theorem dX2_enterGrade_5 : decode cX2_enterGrade 5 = .ok (.istore 5, 2) := by decide +kernel
theorem dX2_enterGrade_7 : decode cX2_enterGrade 7 = .ok (.aload_n 0, 1) := by decide +kernel
theorem dX2_enterGrade_8 : decode cX2_enterGrade 8 = .ok (.getfield 43, 3) := by decide +kernel
theorem dX2_enterGrade_11 : decode cX2_enterGrade 11 = .ok (.iload 5, 2) := by decide +kernel
theorem dX2_enterGrade_13 : decode cX2_enterGrade 13 = .ok (.aload_n 0, 1) := by decide +kernel
theorem dX2_enterGrade_14 : decode cX2_enterGrade 14 = .ok (.getfield 37, 3) := by decide +kernel
theorem dX2_enterGrade_17 : decode cX2_enterGrade 17 = .ok (.iload 5, 2) := by decide +kernel
theorem dX2_enterGrade_19 : decode cX2_enterGrade 19 = .ok (.iaload, 1) := by decide +kernel
theorem dX2_enterGrade_20 : decode cX2_enterGrade 20 = .ok (.iload 4, 2) := by decide +kernel
theorem dX2_enterGrade_22 : decode cX2_enterGrade 22 = .ok (.if_icmp .ne 17, 3) := by decide +kernel
theorem dX2_enterGrade_25 : decode cX2_enterGrade 25 = .ok (.aload_n 0, 1) := by decide +kernel
theorem dX2_enterGrade_26 : decode cX2_enterGrade 26 = .ok (.getfield 43, 3) := by decide +kernel
theorem dX2_enterGrade_29 : decode cX2_enterGrade 29 = .ok (.iload 5, 2) := by decide +kernel
theorem dX2_enterGrade_31 : decode cX2_enterGrade 31 = .ok (.iaload, 1) := by decide +kernel
theorem dX2_enterGrade_32 : decode cX2_enterGrade 32 = .ok (.iload_n 3, 1) := by decide +kernel
theorem dX2_enterGrade_33 : decode cX2_enterGrade 33 = .ok (.invokestatic 50, 3) := by decide +kernel
theorem dX2_enterGrade_36 : decode cX2_enterGrade 36 = .ok (.goto 4, 3) := by decide +kernel
theorem dX2_enterGrade_39 : decode cX2_enterGrade 39 = .ok (.iload_n 3, 1) := by decide +kernel
theorem dX2_enterGrade_40 : decode cX2_enterGrade 40 = .ok (.iastore, 1) := by decide +kernel
theorem dX2_enterGrade_41 : decode cX2_enterGrade 41 = .ok (.aload_n 0, 1) := by decide +kernel
theorem dX2_enterGrade_42 : decode cX2_enterGrade 42 = .ok (.getfield 37, 3) := by decide +kernel
theorem dX2_enterGrade_45 : decode cX2_enterGrade 45 = .ok (.iload 5, 2) := by decide +kernel
theorem dX2_enterGrade_47 : decode cX2_enterGrade 47 = .ok (.iload 4, 2) := by decide +kernel
theorem dX2_enterGrade_49 : decode cX2_enterGrade 49 = .ok (.iastore, 1) := by decide +kernel
theorem dX2_enterGrade_50 : decode cX2_enterGrade 50 = .ok (.aload_n 0, 1) := by decide +kernel
theorem dX2_enterGrade_51 : decode cX2_enterGrade 51 = .ok (.getfield 40, 3) := by decide +kernel
theorem dX2_enterGrade_54 : decode cX2_enterGrade 54 = .ok (.iload 5, 2) := by decide +kernel
theorem dX2_enterGrade_56 : decode cX2_enterGrade 56 = .ok (.iconst 0, 1) := by decide +kernel
theorem dX2_enterGrade_57 : decode cX2_enterGrade 57 = .ok (.iastore, 1) := by decide +kernel
theorem dX2_enterGrade_58 : decode cX2_enterGrade 58 = .ok (.iload_n 3, 1) := by decide +kernel
theorem dX2_enterGrade_59 : decode cX2_enterGrade 59 = .ok (.iconst 2, 1) := by decide +kernel
theorem dX2_enterGrade_60 : decode cX2_enterGrade 60 = .ok (.if_icmp .ne 11, 3) := by decide +kernel
theorem dX2_enterGrade_63 : decode cX2_enterGrade 63 = .ok (.aload_n 0, 1) := by decide +kernel
theorem dX2_enterGrade_64 : decode cX2_enterGrade 64 = .ok (.getfield 27, 3) := by decide +kernel
theorem dX2_enterGrade_67 : decode cX2_enterGrade 67 = .ok (.iload_n 1, 1) := by decide +kernel
theorem dX2_enterGrade_68 : decode cX2_enterGrade 68 = .ok (.iload 4, 2) := by decide +kernel
theorem dX2_enterGrade_70 : decode cX2_enterGrade 70 = .ok (.iastore, 1) := by decide +kernel
theorem dX2_enterGrade_71 : decode cX2_enterGrade 71 = .ok (.aload_n 0, 1) := by decide +kernel
theorem dX2_enterGrade_72 : decode cX2_enterGrade 72 = .ok (.getfield 43, 3) := by decide +kernel
theorem dX2_enterGrade_75 : decode cX2_enterGrade 75 = .ok (.iload 5, 2) := by decide +kernel
theorem dX2_enterGrade_77 : decode cX2_enterGrade 77 = .ok (.iaload, 1) := by decide +kernel
theorem dX2_enterGrade_78 : decode cX2_enterGrade 78 = .ok (.ireturn, 1) := by decide +kernel
theorem dX2_countLeftOf_0 : decode cX2_countLeftOf 0 = .ok (.iconst 0, 1) := by decide +kernel
theorem dX2_countLeftOf_1 : decode cX2_countLeftOf 1 = .ok (.istore_n 2, 1) := by decide +kernel
theorem dX2_countLeftOf_2 : decode cX2_countLeftOf 2 = .ok (.iconst 0, 1) := by decide +kernel
theorem dX2_countLeftOf_3 : decode cX2_countLeftOf 3 = .ok (.istore_n 3, 1) := by decide +kernel
theorem dX2_countLeftOf_4 : decode cX2_countLeftOf 4 = .ok (.iload_n 3, 1) := by decide +kernel
theorem dX2_countLeftOf_5 : decode cX2_countLeftOf 5 = .ok (.aload_n 0, 1) := by decide +kernel
theorem dX2_countLeftOf_6 : decode cX2_countLeftOf 6 = .ok (.getfield 46, 3) := by decide +kernel
theorem dX2_countLeftOf_9 : decode cX2_countLeftOf 9 = .ok (.if_icmp .ge 21, 3) := by decide +kernel
theorem dX2_countLeftOf_12 : decode cX2_countLeftOf 12 = .ok (.aload_n 0, 1) := by decide +kernel
theorem dX2_countLeftOf_13 : decode cX2_countLeftOf 13 = .ok (.iload_n 1, 1) := by decide +kernel
theorem dX2_countLeftOf_14 : decode cX2_countLeftOf 14 = .ok (.iload_n 3, 1) := by decide +kernel
theorem dX2_countLeftOf_15 : decode cX2_countLeftOf 15 = .ok (.invokevirtual 56, 3) := by decide +kernel
theorem dX2_countLeftOf_18 : decode cX2_countLeftOf 18 = .ok (.ifCond .eq 6, 3) := by decide +kernel
theorem dX2_countLeftOf_21 : decode cX2_countLeftOf 21 = .ok (.iinc 2 1, 3) := by decide +kernel
theorem dX2_countLeftOf_24 : decode cX2_countLeftOf 24 = .ok (.iinc 3 1, 3) := by decide +kernel
theorem dX2_countLeftOf_27 : decode cX2_countLeftOf 27 = .ok (.goto (-23), 3) := by decide +kernel
theorem dX2_countLeftOf_30 : decode cX2_countLeftOf 30 = .ok (.iload_n 2, 1) := by decide +kernel
theorem dX2_countLeftOf_31 : decode cX2_countLeftOf 31 = .ok (.ireturn, 1) := by decide +kernel
theorem dX2_findLeftOf_0 : decode cX2_findLeftOf 0 = .ok (.iconst 0, 1) := by decide +kernel
theorem dX2_findLeftOf_1 : decode cX2_findLeftOf 1 = .ok (.istore_n 3, 1) := by decide +kernel
theorem dX2_findLeftOf_2 : decode cX2_findLeftOf 2 = .ok (.iconst 0, 1) := by decide +kernel
theorem dX2_findLeftOf_3 : decode cX2_findLeftOf 3 = .ok (.istore 4, 2) := by decide +kernel
theorem dX2_findLeftOf_5 : decode cX2_findLeftOf 5 = .ok (.iload 4, 2) := by decide +kernel
theorem dX2_findLeftOf_7 : decode cX2_findLeftOf 7 = .ok (.aload_n 0, 1) := by decide +kernel
theorem dX2_findLeftOf_8 : decode cX2_findLeftOf 8 = .ok (.getfield 46, 3) := by decide +kernel
theorem dX2_findLeftOf_11 : decode cX2_findLeftOf 11 = .ok (.if_icmp .ge 30, 3) := by decide +kernel
theorem dX2_findLeftOf_14 : decode cX2_findLeftOf 14 = .ok (.aload_n 0, 1) := by decide +kernel
theorem dX2_findLeftOf_15 : decode cX2_findLeftOf 15 = .ok (.iload_n 1, 1) := by decide +kernel
theorem dX2_findLeftOf_16 : decode cX2_findLeftOf 16 = .ok (.iload 4, 2) := by decide +kernel
theorem dX2_findLeftOf_18 : decode cX2_findLeftOf 18 = .ok (.invokevirtual 56, 3) := by decide +kernel
theorem dX2_findLeftOf_21 : decode cX2_findLeftOf 21 = .ok (.ifCond .eq 14, 3) := by decide +kernel
theorem dX2_findLeftOf_24 : decode cX2_findLeftOf 24 = .ok (.iload_n 3, 1) := by decide +kernel
theorem dX2_findLeftOf_25 : decode cX2_findLeftOf 25 = .ok (.iload_n 2, 1) := by decide +kernel
theorem dX2_findLeftOf_26 : decode cX2_findLeftOf 26 = .ok (.if_icmp .ne 6, 3) := by decide +kernel
theorem dX2_findLeftOf_29 : decode cX2_findLeftOf 29 = .ok (.iload 4, 2) := by decide +kernel
theorem dX2_findLeftOf_31 : decode cX2_findLeftOf 31 = .ok (.ireturn, 1) := by decide +kernel
theorem dX2_findLeftOf_32 : decode cX2_findLeftOf 32 = .ok (.iinc 3 1, 3) := by decide +kernel
theorem dX2_findLeftOf_35 : decode cX2_findLeftOf 35 = .ok (.iinc 4 1, 3) := by decide +kernel
theorem dX2_findLeftOf_38 : decode cX2_findLeftOf 38 = .ok (.goto (-33), 3) := by decide +kernel
theorem dX2_findLeftOf_41 : decode cX2_findLeftOf 41 = .ok (.iconst (-1), 1) := by decide +kernel
theorem dX2_findLeftOf_42 : decode cX2_findLeftOf 42 = .ok (.ireturn, 1) := by decide +kernel
theorem dX2_isLeftOf_0 : decode cX2_isLeftOf 0 = .ok (.aload_n 0, 1) := by decide +kernel
theorem dX2_isLeftOf_1 : decode cX2_isLeftOf 1 = .ok (.getfield 18, 3) := by decide +kernel
theorem dX2_isLeftOf_4 : decode cX2_isLeftOf 4 = .ok (.iload_n 2, 1) := by decide +kernel
theorem dX2_isLeftOf_5 : decode cX2_isLeftOf 5 = .ok (.iaload, 1) := by decide +kernel
theorem dX2_isLeftOf_6 : decode cX2_isLeftOf 6 = .ok (.iload_n 1, 1) := by decide +kernel
theorem dX2_isLeftOf_7 : decode cX2_isLeftOf 7 = .ok (.if_icmp .ne 15, 3) := by decide +kernel
theorem dX2_isLeftOf_10 : decode cX2_isLeftOf 10 = .ok (.aload_n 0, 1) := by decide +kernel
theorem dX2_isLeftOf_11 : decode cX2_isLeftOf 11 = .ok (.iload_n 2, 1) := by decide +kernel
theorem dX2_isLeftOf_12 : decode cX2_isLeftOf 12 = .ok (.invokevirtual 60, 3) := by decide +kernel
theorem dX2_isLeftOf_15 : decode cX2_isLeftOf 15 = .ok (.ifCond .ne 7, 3) := by decide +kernel
theorem dX2_isLeftOf_18 : decode cX2_isLeftOf 18 = .ok (.iconst 1, 1) := by decide +kernel
theorem dX2_isLeftOf_19 : decode cX2_isLeftOf 19 = .ok (.goto 4, 3) := by decide +kernel
theorem dX2_isLeftOf_22 : decode cX2_isLeftOf 22 = .ok (.iconst 0, 1) := by decide +kernel
theorem dX2_isLeftOf_23 : decode cX2_isLeftOf 23 = .ok (.ireturn, 1) := by decide +kernel
theorem dX2_countScrapped_0 : decode cX2_countScrapped 0 = .ok (.iconst 0, 1) := by decide +kernel
theorem dX2_countScrapped_1 : decode cX2_countScrapped 1 = .ok (.istore_n 2, 1) := by decide +kernel
theorem dX2_countScrapped_2 : decode cX2_countScrapped 2 = .ok (.iconst 0, 1) := by decide +kernel
theorem dX2_countScrapped_3 : decode cX2_countScrapped 3 = .ok (.istore_n 3, 1) := by decide +kernel
theorem dX2_countScrapped_4 : decode cX2_countScrapped 4 = .ok (.iload_n 3, 1) := by decide +kernel
theorem dX2_countScrapped_5 : decode cX2_countScrapped 5 = .ok (.aload_n 0, 1) := by decide +kernel
theorem dX2_countScrapped_6 : decode cX2_countScrapped 6 = .ok (.getfield 46, 3) := by decide +kernel
theorem dX2_countScrapped_9 : decode cX2_countScrapped 9 = .ok (.if_icmp .ge 30, 3) := by decide +kernel
theorem dX2_countScrapped_12 : decode cX2_countScrapped 12 = .ok (.aload_n 0, 1) := by decide +kernel
theorem dX2_countScrapped_13 : decode cX2_countScrapped 13 = .ok (.getfield 9, 3) := by decide +kernel
theorem dX2_countScrapped_16 : decode cX2_countScrapped 16 = .ok (.iload_n 3, 1) := by decide +kernel
theorem dX2_countScrapped_17 : decode cX2_countScrapped 17 = .ok (.iaload, 1) := by decide +kernel
theorem dX2_countScrapped_18 : decode cX2_countScrapped 18 = .ok (.iload_n 1, 1) := by decide +kernel
theorem dX2_countScrapped_19 : decode cX2_countScrapped 19 = .ok (.if_icmp .ne 14, 3) := by decide +kernel
theorem dX2_countScrapped_22 : decode cX2_countScrapped 22 = .ok (.aload_n 0, 1) := by decide +kernel
theorem dX2_countScrapped_23 : decode cX2_countScrapped 23 = .ok (.iload_n 3, 1) := by decide +kernel
theorem dX2_countScrapped_24 : decode cX2_countScrapped 24 = .ok (.invokevirtual 60, 3) := by decide +kernel
theorem dX2_countScrapped_27 : decode cX2_countScrapped 27 = .ok (.ifCond .eq 6, 3) := by decide +kernel
theorem dX2_countScrapped_30 : decode cX2_countScrapped 30 = .ok (.iinc 2 1, 3) := by decide +kernel
theorem dX2_countScrapped_33 : decode cX2_countScrapped 33 = .ok (.iinc 3 1, 3) := by decide +kernel
theorem dX2_countScrapped_36 : decode cX2_countScrapped 36 = .ok (.goto (-32), 3) := by decide +kernel
theorem dX2_countScrapped_39 : decode cX2_countScrapped 39 = .ok (.iload_n 2, 1) := by decide +kernel
theorem dX2_countScrapped_40 : decode cX2_countScrapped 40 = .ok (.ireturn, 1) := by decide +kernel
theorem dX2_sumOfLives_0 : decode cX2_sumOfLives 0 = .ok (.iconst 0, 1) := by decide +kernel
theorem dX2_sumOfLives_1 : decode cX2_sumOfLives 1 = .ok (.istore_n 2, 1) := by decide +kernel
theorem dX2_sumOfLives_2 : decode cX2_sumOfLives 2 = .ok (.iconst 0, 1) := by decide +kernel
theorem dX2_sumOfLives_3 : decode cX2_sumOfLives 3 = .ok (.istore_n 3, 1) := by decide +kernel
theorem dX2_sumOfLives_4 : decode cX2_sumOfLives 4 = .ok (.iload_n 3, 1) := by decide +kernel
theorem dX2_sumOfLives_5 : decode cX2_sumOfLives 5 = .ok (.aload_n 0, 1) := by decide +kernel
theorem dX2_sumOfLives_6 : decode cX2_sumOfLives 6 = .ok (.getfield 46, 3) := by decide +kernel
theorem dX2_sumOfLives_9 : decode cX2_sumOfLives 9 = .ok (.if_icmp .ge 43, 3) := by decide +kernel
theorem dX2_sumOfLives_12 : decode cX2_sumOfLives 12 = .ok (.aload_n 0, 1) := by decide +kernel
theorem dX2_sumOfLives_13 : decode cX2_sumOfLives 13 = .ok (.getfield 9, 3) := by decide +kernel
theorem dX2_sumOfLives_16 : decode cX2_sumOfLives 16 = .ok (.iload_n 3, 1) := by decide +kernel
theorem dX2_sumOfLives_17 : decode cX2_sumOfLives 17 = .ok (.iaload, 1) := by decide +kernel
theorem dX2_sumOfLives_18 : decode cX2_sumOfLives 18 = .ok (.iload_n 1, 1) := by decide +kernel
theorem dX2_sumOfLives_19 : decode cX2_sumOfLives 19 = .ok (.if_icmp .ne 27, 3) := by decide +kernel
theorem dX2_sumOfLives_22 : decode cX2_sumOfLives 22 = .ok (.aload_n 0, 1) := by decide +kernel
theorem dX2_sumOfLives_23 : decode cX2_sumOfLives 23 = .ok (.iload_n 3, 1) := by decide +kernel
theorem dX2_sumOfLives_24 : decode cX2_sumOfLives 24 = .ok (.invokevirtual 60, 3) := by decide +kernel
theorem dX2_sumOfLives_27 : decode cX2_sumOfLives 27 = .ok (.ifCond .eq 19, 3) := by decide +kernel
theorem dX2_sumOfLives_30 : decode cX2_sumOfLives 30 = .ok (.iload_n 2, 1) := by decide +kernel
theorem dX2_sumOfLives_31 : decode cX2_sumOfLives 31 = .ok (.aload_n 0, 1) := by decide +kernel
theorem dX2_sumOfLives_32 : decode cX2_sumOfLives 32 = .ok (.getfield 27, 3) := by decide +kernel
theorem dX2_sumOfLives_35 : decode cX2_sumOfLives 35 = .ok (.iload_n 3, 1) := by decide +kernel
theorem dX2_sumOfLives_36 : decode cX2_sumOfLives 36 = .ok (.iaload, 1) := by decide +kernel
theorem dX2_sumOfLives_37 : decode cX2_sumOfLives 37 = .ok (.aload_n 0, 1) := by decide +kernel
theorem dX2_sumOfLives_38 : decode cX2_sumOfLives 38 = .ok (.getfield 24, 3) := by decide +kernel
theorem dX2_sumOfLives_41 : decode cX2_sumOfLives 41 = .ok (.iload_n 3, 1) := by decide +kernel
theorem dX2_sumOfLives_42 : decode cX2_sumOfLives 42 = .ok (.iaload, 1) := by decide +kernel
theorem dX2_sumOfLives_43 : decode cX2_sumOfLives 43 = .ok (.isub, 1) := by decide +kernel
theorem dX2_sumOfLives_44 : decode cX2_sumOfLives 44 = .ok (.iadd, 1) := by decide +kernel
theorem dX2_sumOfLives_45 : decode cX2_sumOfLives 45 = .ok (.istore_n 2, 1) := by decide +kernel
theorem dX2_sumOfLives_46 : decode cX2_sumOfLives 46 = .ok (.iinc 3 1, 3) := by decide +kernel
theorem dX2_sumOfLives_49 : decode cX2_sumOfLives 49 = .ok (.goto (-45), 3) := by decide +kernel
theorem dX2_sumOfLives_52 : decode cX2_sumOfLives 52 = .ok (.iload_n 2, 1) := by decide +kernel
theorem dX2_sumOfLives_53 : decode cX2_sumOfLives 53 = .ok (.ireturn, 1) := by decide +kernel
end
section
theorem k_1 : (Cond.selects "HoseTests" ⟨"HoseTests", "reasonBarred", "(I)I"⟩ ⟨"HoseTests", "reasonBarred", "(I)I"⟩ : Cond) ∈ bigW := mem_big 1 (by decide +kernel) (by decide +kernel)
theorem k_2 : (Cond.selects "HoseTests" ⟨"HoseTests", "oldFrom", "(I)I"⟩ ⟨"HoseTests", "oldFrom", "(I)I"⟩ : Cond) ∈ bigW := mem_big 2 (by decide +kernel) (by decide +kernel)
theorem k_3 : (Cond.selects "HoseTests" ⟨"HoseTests", "someTestDueFrom", "(I)I"⟩ ⟨"HoseTests", "someTestDueFrom", "(I)I"⟩ : Cond) ∈ bigW := mem_big 3 (by decide +kernel) (by decide +kernel)
theorem k_4 : (Cond.selects "HoseTests" ⟨"HoseTests", "dueFrom", "(II)I"⟩ ⟨"HoseTests", "dueFrom", "(II)I"⟩ : Cond) ∈ bigW := mem_big 4 (by decide +kernel) (by decide +kernel)
theorem k_5 : (Cond.selects "HoseTests$Things" ⟨"HoseTests$Things", "isLeftOf", "(II)Z"⟩ ⟨"HoseTests$Things", "isLeftOf", "(II)Z"⟩ : Cond) ∈ bigW := mem_big 5 (by decide +kernel) (by decide +kernel)
theorem k_6 : (Cond.selects "HoseTests" ⟨"HoseTests", "endOf", "(I)I"⟩ ⟨"HoseTests", "endOf", "(I)I"⟩ : Cond) ∈ bigW := mem_big 6 (by decide +kernel) (by decide +kernel)
theorem k_7 : (Cond.selects "HoseTests" ⟨"HoseTests", "fillEndRow", "(II)V"⟩ ⟨"HoseTests", "fillEndRow", "(II)V"⟩ : Cond) ∈ bigW := mem_big 7 (by decide +kernel) (by decide +kernel)
theorem k_8 : (Cond.selects "HoseTests" ⟨"HoseTests", "countEndingBefore", "(I)I"⟩ ⟨"HoseTests", "countEndingBefore", "(I)I"⟩ : Cond) ∈ bigW := mem_big 8 (by decide +kernel) (by decide +kernel)
theorem k_9 : (Cond.selects "HoseTests$Plan" ⟨"HoseTests$Plan", "putFrom", "(II)V"⟩ ⟨"HoseTests$Plan", "putFrom", "(II)V"⟩ : Cond) ∈ bigW := mem_big 9 (by decide +kernel) (by decide +kernel)
theorem k_10 : (Cond.selects "HoseTests$Plan" ⟨"HoseTests$Plan", "keepTried", "(I)V"⟩ ⟨"HoseTests$Plan", "keepTried", "(I)V"⟩ : Cond) ∈ bigW := mem_big 10 (by decide +kernel) (by decide +kernel)
theorem k_20 : (Cond.initialized "HoseTests" : Cond) ∈ bigW := mem_big 20 (by decide +kernel) (by decide +kernel)
theorem k_21 : (Cond.initialized "HoseTests$Kinds" : Cond) ∈ bigW := mem_big 21 (by decide +kernel) (by decide +kernel)
theorem k_22 : (Cond.initialized "HoseTests$Things" : Cond) ∈ bigW := mem_big 22 (by decide +kernel) (by decide +kernel)
theorem k_23 : (Cond.initialized "HoseTests$Plan" : Cond) ∈ bigW := mem_big 23 (by decide +kernel) (by decide +kernel)
theorem k_28 : (Cond.initialized "java/lang/IndexOutOfBoundsException" : Cond) ∈ bigW := mem_big 28 (by decide +kernel) (by decide +kernel)
theorem k_29 : (Cond.initialized "java/lang/IllegalArgumentException" : Cond) ∈ bigW := mem_big 29 (by decide +kernel) (by decide +kernel)
theorem k_30 : (Cond.initialized "java/lang/IllegalStateException" : Cond) ∈ bigW := mem_big 30 (by decide +kernel) (by decide +kernel)
theorem k_31 : (Cond.initialized "java/lang/UnsupportedOperationException" : Cond) ∈ bigW := mem_big 31 (by decide +kernel) (by decide +kernel)
theorem k_32 : (Cond.initialized "java/lang/Math" : Cond) ∈ bigW := mem_big 32 (by decide +kernel) (by decide +kernel)
theorem k_33 : (Cond.initialized "java/lang/ArithmeticException" : Cond) ∈ bigW := mem_big 33 (by decide +kernel) (by decide +kernel)
theorem k_49 : (Cond.fieldLink "HoseTests" 51 "HoseTests$Kinds" "ages" "[I" : Cond) ∈ bigW := mem_big 49 (by decide +kernel) (by decide +kernel)
theorem k_51 : (Cond.fieldLink "HoseTests" 54 "HoseTests$Kinds" "testDays" "[I" : Cond) ∈ bigW := mem_big 51 (by decide +kernel) (by decide +kernel)
theorem k_53 : (Cond.fieldLink "HoseTests" 57 "HoseTests$Kinds" "testUses" "[I" : Cond) ∈ bigW := mem_big 53 (by decide +kernel) (by decide +kernel)
theorem k_54 : (Cond.fieldLink "HoseTests$Kinds" 21 "HoseTests$Kinds" "lows" "[I" : Cond) ∈ bigW := mem_big 54 (by decide +kernel) (by decide +kernel)
theorem k_55 : (Cond.fieldLink "HoseTests" 60 "HoseTests$Kinds" "lows" "[I" : Cond) ∈ bigW := mem_big 55 (by decide +kernel) (by decide +kernel)
theorem k_56 : (Cond.fieldLink "HoseTests$Kinds" 24 "HoseTests$Kinds" "passes" "[I" : Cond) ∈ bigW := mem_big 56 (by decide +kernel) (by decide +kernel)
theorem k_57 : (Cond.fieldLink "HoseTests" 63 "HoseTests$Kinds" "passes" "[I" : Cond) ∈ bigW := mem_big 57 (by decide +kernel) (by decide +kernel)
theorem k_76 : (Cond.fieldLink "HoseTests$Things" 9 "HoseTests$Things" "kindOf" "[I" : Cond) ∈ bigW := mem_big 76 (by decide +kernel) (by decide +kernel)
theorem k_77 : (Cond.fieldLink "HoseTests" 108 "HoseTests$Things" "kindOf" "[I" : Cond) ∈ bigW := mem_big 77 (by decide +kernel) (by decide +kernel)
theorem k_78 : (Cond.fieldLink "HoseTests$Things" 15 "HoseTests$Things" "serials" "[I" : Cond) ∈ bigW := mem_big 78 (by decide +kernel) (by decide +kernel)
theorem k_79 : (Cond.fieldLink "HoseTests$Things" 18 "HoseTests$Things" "batches" "[I" : Cond) ∈ bigW := mem_big 79 (by decide +kernel) (by decide +kernel)
theorem k_80 : (Cond.fieldLink "HoseTests" 195 "HoseTests$Things" "batches" "[I" : Cond) ∈ bigW := mem_big 80 (by decide +kernel) (by decide +kernel)
theorem k_81 : (Cond.fieldLink "HoseTests$Things" 21 "HoseTests$Things" "places" "[I" : Cond) ∈ bigW := mem_big 81 (by decide +kernel) (by decide +kernel)
theorem k_82 : (Cond.fieldLink "HoseTests" 119 "HoseTests$Things" "places" "[I" : Cond) ∈ bigW := mem_big 82 (by decide +kernel) (by decide +kernel)
theorem k_83 : (Cond.fieldLink "HoseTests$Things" 24 "HoseTests$Things" "madeDays" "[I" : Cond) ∈ bigW := mem_big 83 (by decide +kernel) (by decide +kernel)
theorem k_84 : (Cond.fieldLink "HoseTests" 204 "HoseTests$Things" "madeDays" "[I" : Cond) ∈ bigW := mem_big 84 (by decide +kernel) (by decide +kernel)
theorem k_85 : (Cond.fieldLink "HoseTests$Things" 27 "HoseTests$Things" "scrapDays" "[I" : Cond) ∈ bigW := mem_big 85 (by decide +kernel) (by decide +kernel)
theorem k_86 : (Cond.fieldLink "HoseTests" 148 "HoseTests$Things" "scrapDays" "[I" : Cond) ∈ bigW := mem_big 86 (by decide +kernel) (by decide +kernel)
theorem k_88 : (Cond.fieldLink "HoseTests" 105 "HoseTests$Things" "washes" "[I" : Cond) ∈ bigW := mem_big 88 (by decide +kernel) (by decide +kernel)
theorem k_90 : (Cond.fieldLink "HoseTests" 102 "HoseTests$Things" "wet" "[Z" : Cond) ∈ bigW := mem_big 90 (by decide +kernel) (by decide +kernel)
theorem k_91 : (Cond.fieldLink "HoseTests$Things" 37 "HoseTests$Things" "latestDays" "[I" : Cond) ∈ bigW := mem_big 91 (by decide +kernel) (by decide +kernel)
theorem k_92 : (Cond.fieldLink "HoseTests" 145 "HoseTests$Things" "latestDays" "[I" : Cond) ∈ bigW := mem_big 92 (by decide +kernel) (by decide +kernel)
theorem k_93 : (Cond.fieldLink "HoseTests$Things" 40 "HoseTests$Things" "usesSince" "[I" : Cond) ∈ bigW := mem_big 93 (by decide +kernel) (by decide +kernel)
theorem k_94 : (Cond.fieldLink "HoseTests" 142 "HoseTests$Things" "usesSince" "[I" : Cond) ∈ bigW := mem_big 94 (by decide +kernel) (by decide +kernel)
theorem k_95 : (Cond.fieldLink "HoseTests$Things" 43 "HoseTests$Things" "grades" "[I" : Cond) ∈ bigW := mem_big 95 (by decide +kernel) (by decide +kernel)
theorem k_96 : (Cond.fieldLink "HoseTests$Things" 46 "HoseTests$Things" "count" "I" : Cond) ∈ bigW := mem_big 96 (by decide +kernel) (by decide +kernel)
theorem k_97 : (Cond.fieldLink "HoseTests" 79 "HoseTests$Things" "count" "I" : Cond) ∈ bigW := mem_big 97 (by decide +kernel) (by decide +kernel)
theorem k_130 : (Cond.fieldLink "HoseTests$Plan" 9 "HoseTests$Plan" "testLoads" "[I" : Cond) ∈ bigW := mem_big 130 (by decide +kernel) (by decide +kernel)
theorem k_131 : (Cond.fieldLink "HoseTests$Plan" 15 "HoseTests$Plan" "lastWeeks" "[I" : Cond) ∈ bigW := mem_big 131 (by decide +kernel) (by decide +kernel)
theorem k_132 : (Cond.fieldLink "HoseTests$Plan" 18 "HoseTests$Plan" "triedWeeks" "[I" : Cond) ∈ bigW := mem_big 132 (by decide +kernel) (by decide +kernel)
theorem k_133 : (Cond.fieldLink "HoseTests$Plan" 21 "HoseTests$Plan" "bestWeeks" "[I" : Cond) ∈ bigW := mem_big 133 (by decide +kernel) (by decide +kernel)
theorem k_134 : (Cond.fieldLink "HoseTests" 177 "HoseTests$Plan" "bestWeeks" "[I" : Cond) ∈ bigW := mem_big 134 (by decide +kernel) (by decide +kernel)
theorem k_135 : (Cond.fieldLink "HoseTests$Plan" 24 "HoseTests$Plan" "weekSums" "[I" : Cond) ∈ bigW := mem_big 135 (by decide +kernel) (by decide +kernel)
theorem k_136 : (Cond.fieldLink "HoseTests$Plan" 27 "HoseTests$Plan" "planned" "I" : Cond) ∈ bigW := mem_big 136 (by decide +kernel) (by decide +kernel)
theorem k_137 : (Cond.fieldLink "HoseTests" 174 "HoseTests$Plan" "planned" "I" : Cond) ∈ bigW := mem_big 137 (by decide +kernel) (by decide +kernel)
theorem k_138 : (Cond.fieldLink "HoseTests$Plan" 31 "HoseTests$Plan" "least" "I" : Cond) ∈ bigW := mem_big 138 (by decide +kernel) (by decide +kernel)
theorem k_154 : (Cond.fieldLink "HoseTests" 12 "HoseTests" "kinds" "LHoseTests$Kinds;" : Cond) ∈ bigW := mem_big 154 (by decide +kernel) (by decide +kernel)
theorem k_155 : (Cond.fieldLink "HoseTests" 19 "HoseTests" "things" "LHoseTests$Things;" : Cond) ∈ bigW := mem_big 155 (by decide +kernel) (by decide +kernel)
theorem k_156 : (Cond.fieldLink "HoseTests" 26 "HoseTests" "latestPlan" "LHoseTests$Plan;" : Cond) ∈ bigW := mem_big 156 (by decide +kernel) (by decide +kernel)
theorem k_157 : (Cond.fieldLink "HoseTests" 30 "HoseTests" "recalledBatches" "[Z" : Cond) ∈ bigW := mem_big 157 (by decide +kernel) (by decide +kernel)
theorem k_158 : (Cond.fieldLink "HoseTests" 34 "HoseTests" "endRow" "[I" : Cond) ∈ bigW := mem_big 158 (by decide +kernel) (by decide +kernel)
theorem k_159 : (Cond.fieldLink "HoseTests" 38 "HoseTests" "today" "I" : Cond) ∈ bigW := mem_big 159 (by decide +kernel) (by decide +kernel)
theorem k_181 : (Cond.constant "HoseTests" 42 99999 : Cond) ∈ bigW := mem_big 181 (by decide +kernel) (by decide +kernel)
theorem k_182 : (Cond.methodLink "HoseTests" 43 ⟨"HoseTests", "needRange", "(III)V"⟩ : Cond) ∈ bigW := mem_big 182 (by decide +kernel) (by decide +kernel)
theorem k_183 : (Cond.static ⟨"HoseTests", "needRange", "(III)V"⟩ : Cond) ∈ bigW := mem_big 183 (by decide +kernel) (by decide +kernel)
theorem k_184 : (Cond.code ⟨"HoseTests", "needRange", "(III)V"⟩ prog_1_method_22_code 3 none : Cond) ∈ bigW := mem_big 184 (by decide +kernel) (by decide +kernel)
theorem k_185 : (Cond.classLink "HoseTests" 182 "java/lang/IndexOutOfBoundsException" : Cond) ∈ bigW := mem_big 185 (by decide +kernel) (by decide +kernel)
theorem k_263 : (Cond.methodLink "HoseTests" 47 ⟨"HoseTests", "needKnown", "(II)V"⟩ : Cond) ∈ bigW := mem_big 263 (by decide +kernel) (by decide +kernel)
theorem k_264 : (Cond.static ⟨"HoseTests", "needKnown", "(II)V"⟩ : Cond) ∈ bigW := mem_big 264 (by decide +kernel) (by decide +kernel)
theorem k_265 : (Cond.code ⟨"HoseTests", "needKnown", "(II)V"⟩ prog_1_method_21_code 2 none : Cond) ∈ bigW := mem_big 265 (by decide +kernel) (by decide +kernel)
theorem k_266 : (Cond.classLink "HoseTests" 151 "java/lang/IllegalArgumentException" : Cond) ∈ bigW := mem_big 266 (by decide +kernel) (by decide +kernel)
theorem k_305 : (Cond.constant "HoseTests" 66 999999 : Cond) ∈ bigW := mem_big 305 (by decide +kernel) (by decide +kernel)
theorem k_306 : (Cond.methodLink "HoseTests" 67 ⟨"HoseTests", "checkLetter", "(I)I"⟩ : Cond) ∈ bigW := mem_big 306 (by decide +kernel) (by decide +kernel)
theorem k_307 : (Cond.static ⟨"HoseTests", "checkLetter", "(I)I"⟩ : Cond) ∈ bigW := mem_big 307 (by decide +kernel) (by decide +kernel)
theorem k_308 : (Cond.code ⟨"HoseTests", "checkLetter", "(I)I"⟩ prog_1_method_24_code 4 (some .int) : Cond) ∈ bigW := mem_big 308 (by decide +kernel) (by decide +kernel)
theorem k_309 : (Cond.fieldLink "HoseTests" 192 "HoseTests" "DIGIT_WEIGHTS" "[I" : Cond) ∈ bigW := mem_big 309 (by decide +kernel) (by decide +kernel)
theorem k_311 : (Cond.methodLink "HoseTests" 71 ⟨"HoseTests", "needState", "(Z)V"⟩ : Cond) ∈ bigW := mem_big 311 (by decide +kernel) (by decide +kernel)
theorem k_312 : (Cond.static ⟨"HoseTests", "needState", "(Z)V"⟩ : Cond) ∈ bigW := mem_big 312 (by decide +kernel) (by decide +kernel)
theorem k_313 : (Cond.code ⟨"HoseTests", "needState", "(Z)V"⟩ prog_1_method_23_code 1 none : Cond) ∈ bigW := mem_big 313 (by decide +kernel) (by decide +kernel)
theorem k_314 : (Cond.classLink "HoseTests" 187 "java/lang/IllegalStateException" : Cond) ∈ bigW := mem_big 314 (by decide +kernel) (by decide +kernel)
theorem k_330 : (Cond.methodLink "HoseTests" 75 ⟨"HoseTests$Things", "hasSerial", "(I)Z"⟩ : Cond) ∈ bigW := mem_big 330 (by decide +kernel) (by decide +kernel)
theorem k_331 : (Cond.instanceMethod ⟨"HoseTests$Things", "hasSerial", "(I)Z"⟩ : Cond) ∈ bigW := mem_big 331 (by decide +kernel) (by decide +kernel)
theorem k_332 : (Cond.selects "HoseTests$Things" ⟨"HoseTests$Things", "hasSerial", "(I)Z"⟩ ⟨"HoseTests$Things", "hasSerial", "(I)Z"⟩ : Cond) ∈ bigW := mem_big 332 (by decide +kernel) (by decide +kernel)
theorem k_333 : (Cond.code ⟨"HoseTests$Things", "hasSerial", "(I)Z"⟩ prog_4_method_2_code 3 (some .boolean) : Cond) ∈ bigW := mem_big 333 (by decide +kernel) (by decide +kernel)
theorem k_334 : (Cond.classLink "HoseTests" 82 "java/lang/UnsupportedOperationException" : Cond) ∈ bigW := mem_big 334 (by decide +kernel) (by decide +kernel)
theorem k_350 : (Cond.methodLink "HoseTests" 89 ⟨"HoseTests$Things", "add", "(IIIII)I"⟩ : Cond) ∈ bigW := mem_big 350 (by decide +kernel) (by decide +kernel)
theorem k_351 : (Cond.instanceMethod ⟨"HoseTests$Things", "add", "(IIIII)I"⟩ : Cond) ∈ bigW := mem_big 351 (by decide +kernel) (by decide +kernel)
theorem k_352 : (Cond.selects "HoseTests$Things" ⟨"HoseTests$Things", "add", "(IIIII)I"⟩ ⟨"HoseTests$Things", "add", "(IIIII)I"⟩ : Cond) ∈ bigW := mem_big 352 (by decide +kernel) (by decide +kernel)
theorem k_353 : (Cond.code ⟨"HoseTests$Things", "add", "(IIIII)I"⟩ prog_4_method_3_code 8 (some .int) : Cond) ∈ bigW := mem_big 353 (by decide +kernel) (by decide +kernel)
theorem k_368 : (Cond.methodLink "HoseTests" 93 ⟨"HoseTests", "reasonBarred", "(I)I"⟩ : Cond) ∈ bigW := mem_big 368 (by decide +kernel) (by decide +kernel)
theorem k_370 : (Cond.instanceMethod ⟨"HoseTests", "reasonBarred", "(I)I"⟩ : Cond) ∈ bigW := mem_big 370 (by decide +kernel) (by decide +kernel)
theorem k_371 : (Cond.code ⟨"HoseTests", "reasonBarred", "(I)I"⟩ prog_1_method_26_code 2 (some .int) : Cond) ∈ bigW := mem_big 371 (by decide +kernel) (by decide +kernel)
theorem k_372 : (Cond.methodLink "HoseTests" 99 ⟨"HoseTests$Things", "isScrapped", "(I)Z"⟩ : Cond) ∈ bigW := mem_big 372 (by decide +kernel) (by decide +kernel)
theorem k_373 : (Cond.instanceMethod ⟨"HoseTests$Things", "isScrapped", "(I)Z"⟩ : Cond) ∈ bigW := mem_big 373 (by decide +kernel) (by decide +kernel)
theorem k_374 : (Cond.selects "HoseTests$Things" ⟨"HoseTests$Things", "isScrapped", "(I)Z"⟩ ⟨"HoseTests$Things", "isScrapped", "(I)Z"⟩ : Cond) ∈ bigW := mem_big 374 (by decide +kernel) (by decide +kernel)
theorem k_375 : (Cond.code ⟨"HoseTests$Things", "isScrapped", "(I)Z"⟩ prog_4_method_4_code 2 (some .boolean) : Cond) ∈ bigW := mem_big 375 (by decide +kernel) (by decide +kernel)
theorem k_376 : (Cond.methodLink "HoseTests" 198 ⟨"HoseTests", "oldFrom", "(I)I"⟩ : Cond) ∈ bigW := mem_big 376 (by decide +kernel) (by decide +kernel)
theorem k_378 : (Cond.instanceMethod ⟨"HoseTests", "oldFrom", "(I)I"⟩ : Cond) ∈ bigW := mem_big 378 (by decide +kernel) (by decide +kernel)
theorem k_379 : (Cond.code ⟨"HoseTests", "oldFrom", "(I)I"⟩ prog_1_method_27_code 3 (some .int) : Cond) ∈ bigW := mem_big 379 (by decide +kernel) (by decide +kernel)
theorem k_380 : (Cond.constant "HoseTests" 125 2147483647 : Cond) ∈ bigW := mem_big 380 (by decide +kernel) (by decide +kernel)
theorem k_381 : (Cond.methodLink "HoseTests" 201 ⟨"HoseTests", "someTestDueFrom", "(I)I"⟩ : Cond) ∈ bigW := mem_big 381 (by decide +kernel) (by decide +kernel)
theorem k_383 : (Cond.instanceMethod ⟨"HoseTests", "someTestDueFrom", "(I)I"⟩ : Cond) ∈ bigW := mem_big 383 (by decide +kernel) (by decide +kernel)
theorem k_384 : (Cond.code ⟨"HoseTests", "someTestDueFrom", "(I)I"⟩ prog_1_method_28_code 4 (some .int) : Cond) ∈ bigW := mem_big 384 (by decide +kernel) (by decide +kernel)
theorem k_385 : (Cond.methodLink "HoseTests" 207 ⟨"HoseTests", "dueFrom", "(II)I"⟩ : Cond) ∈ bigW := mem_big 385 (by decide +kernel) (by decide +kernel)
theorem k_387 : (Cond.instanceMethod ⟨"HoseTests", "dueFrom", "(II)I"⟩ : Cond) ∈ bigW := mem_big 387 (by decide +kernel) (by decide +kernel)
theorem k_388 : (Cond.code ⟨"HoseTests", "dueFrom", "(II)I"⟩ prog_1_method_29_code 7 (some .int) : Cond) ∈ bigW := mem_big 388 (by decide +kernel) (by decide +kernel)
theorem k_389 : (Cond.methodLink "HoseTests" 210 ⟨"java/lang/Math", "min", "(II)I"⟩ : Cond) ∈ bigW := mem_big 389 (by decide +kernel) (by decide +kernel)
theorem k_390 : (Cond.static ⟨"java/lang/Math", "min", "(II)I"⟩ : Cond) ∈ bigW := mem_big 390 (by decide +kernel) (by decide +kernel)
theorem k_391 : (Cond.code ⟨"java/lang/Math", "min", "(II)I"⟩ prog_12_method_69_code 2 (some .int) : Cond) ∈ bigW := mem_big 391 (by decide +kernel) (by decide +kernel)
theorem k_392 : (Cond.methodLink "HoseTests" 139 ⟨"HoseTests$Things", "conditionOf", "(I)I"⟩ : Cond) ∈ bigW := mem_big 392 (by decide +kernel) (by decide +kernel)
theorem k_393 : (Cond.instanceMethod ⟨"HoseTests$Things", "conditionOf", "(I)I"⟩ : Cond) ∈ bigW := mem_big 393 (by decide +kernel) (by decide +kernel)
theorem k_394 : (Cond.selects "HoseTests$Things" ⟨"HoseTests$Things", "conditionOf", "(I)I"⟩ ⟨"HoseTests$Things", "conditionOf", "(I)I"⟩ : Cond) ∈ bigW := mem_big 394 (by decide +kernel) (by decide +kernel)
theorem k_395 : (Cond.code ⟨"HoseTests$Things", "conditionOf", "(I)I"⟩ prog_4_method_5_code 4 (some .int) : Cond) ∈ bigW := mem_big 395 (by decide +kernel) (by decide +kernel)
theorem k_396 : (Cond.methodLink "HoseTests$Things" 50 ⟨"java/lang/Math", "max", "(II)I"⟩ : Cond) ∈ bigW := mem_big 396 (by decide +kernel) (by decide +kernel)
theorem k_397 : (Cond.static ⟨"java/lang/Math", "max", "(II)I"⟩ : Cond) ∈ bigW := mem_big 397 (by decide +kernel) (by decide +kernel)
theorem k_398 : (Cond.code ⟨"java/lang/Math", "max", "(II)I"⟩ prog_12_method_65_code 2 (some .int) : Cond) ∈ bigW := mem_big 398 (by decide +kernel) (by decide +kernel)
theorem k_399 : (Cond.methodLink "HoseTests" 96 ⟨"HoseTests$Things", "countUse", "(II)V"⟩ : Cond) ∈ bigW := mem_big 399 (by decide +kernel) (by decide +kernel)
theorem k_400 : (Cond.instanceMethod ⟨"HoseTests$Things", "countUse", "(II)V"⟩ : Cond) ∈ bigW := mem_big 400 (by decide +kernel) (by decide +kernel)
theorem k_401 : (Cond.selects "HoseTests$Things" ⟨"HoseTests$Things", "countUse", "(II)V"⟩ ⟨"HoseTests$Things", "countUse", "(II)V"⟩ : Cond) ∈ bigW := mem_big 401 (by decide +kernel) (by decide +kernel)
theorem k_402 : (Cond.code ⟨"HoseTests$Things", "countUse", "(II)V"⟩ prog_4_method_6_code 5 none : Cond) ∈ bigW := mem_big 402 (by decide +kernel) (by decide +kernel)
theorem k_417 : (Cond.methodLink "HoseTests" 111 ⟨"HoseTests$Kinds", "gradeOf", "(III)I"⟩ : Cond) ∈ bigW := mem_big 417 (by decide +kernel) (by decide +kernel)
theorem k_418 : (Cond.instanceMethod ⟨"HoseTests$Kinds", "gradeOf", "(III)I"⟩ : Cond) ∈ bigW := mem_big 418 (by decide +kernel) (by decide +kernel)
theorem k_419 : (Cond.selects "HoseTests$Kinds" ⟨"HoseTests$Kinds", "gradeOf", "(III)I"⟩ ⟨"HoseTests$Kinds", "gradeOf", "(III)I"⟩ : Cond) ∈ bigW := mem_big 419 (by decide +kernel) (by decide +kernel)
theorem k_420 : (Cond.code ⟨"HoseTests$Kinds", "gradeOf", "(III)I"⟩ prog_2_method_2_code 5 (some .int) : Cond) ∈ bigW := mem_big 420 (by decide +kernel) (by decide +kernel)
theorem k_421 : (Cond.methodLink "HoseTests" 115 ⟨"HoseTests$Things", "enterGrade", "(IIII)I"⟩ : Cond) ∈ bigW := mem_big 421 (by decide +kernel) (by decide +kernel)
theorem k_422 : (Cond.instanceMethod ⟨"HoseTests$Things", "enterGrade", "(IIII)I"⟩ : Cond) ∈ bigW := mem_big 422 (by decide +kernel) (by decide +kernel)
theorem k_423 : (Cond.selects "HoseTests$Things" ⟨"HoseTests$Things", "enterGrade", "(IIII)I"⟩ ⟨"HoseTests$Things", "enterGrade", "(IIII)I"⟩ : Cond) ∈ bigW := mem_big 423 (by decide +kernel) (by decide +kernel)
theorem k_424 : (Cond.code ⟨"HoseTests$Things", "enterGrade", "(IIII)I"⟩ prog_4_method_7_code 6 (some .int) : Cond) ∈ bigW := mem_big 424 (by decide +kernel) (by decide +kernel)
theorem k_439 : (Cond.methodLink "HoseTests" 122 ⟨"HoseTests$Things", "countLeftOf", "(I)I"⟩ : Cond) ∈ bigW := mem_big 439 (by decide +kernel) (by decide +kernel)
theorem k_440 : (Cond.instanceMethod ⟨"HoseTests$Things", "countLeftOf", "(I)I"⟩ : Cond) ∈ bigW := mem_big 440 (by decide +kernel) (by decide +kernel)
theorem k_441 : (Cond.selects "HoseTests$Things" ⟨"HoseTests$Things", "countLeftOf", "(I)I"⟩ ⟨"HoseTests$Things", "countLeftOf", "(I)I"⟩ : Cond) ∈ bigW := mem_big 441 (by decide +kernel) (by decide +kernel)
theorem k_442 : (Cond.code ⟨"HoseTests$Things", "countLeftOf", "(I)I"⟩ prog_4_method_8_code 4 (some .int) : Cond) ∈ bigW := mem_big 442 (by decide +kernel) (by decide +kernel)
theorem k_443 : (Cond.methodLink "HoseTests$Things" 56 ⟨"HoseTests$Things", "isLeftOf", "(II)Z"⟩ : Cond) ∈ bigW := mem_big 443 (by decide +kernel) (by decide +kernel)
theorem k_445 : (Cond.instanceMethod ⟨"HoseTests$Things", "isLeftOf", "(II)Z"⟩ : Cond) ∈ bigW := mem_big 445 (by decide +kernel) (by decide +kernel)
theorem k_446 : (Cond.code ⟨"HoseTests$Things", "isLeftOf", "(II)Z"⟩ prog_4_method_10_code 3 (some .boolean) : Cond) ∈ bigW := mem_big 446 (by decide +kernel) (by decide +kernel)
theorem k_447 : (Cond.methodLink "HoseTests$Things" 60 ⟨"HoseTests$Things", "isScrapped", "(I)Z"⟩ : Cond) ∈ bigW := mem_big 447 (by decide +kernel) (by decide +kernel)
theorem k_455 : (Cond.methodLink "HoseTests" 126 ⟨"HoseTests$Things", "findLeftOf", "(II)I"⟩ : Cond) ∈ bigW := mem_big 455 (by decide +kernel) (by decide +kernel)
theorem k_456 : (Cond.instanceMethod ⟨"HoseTests$Things", "findLeftOf", "(II)I"⟩ : Cond) ∈ bigW := mem_big 456 (by decide +kernel) (by decide +kernel)
theorem k_457 : (Cond.selects "HoseTests$Things" ⟨"HoseTests$Things", "findLeftOf", "(II)I"⟩ ⟨"HoseTests$Things", "findLeftOf", "(II)I"⟩ : Cond) ∈ bigW := mem_big 457 (by decide +kernel) (by decide +kernel)
theorem k_458 : (Cond.code ⟨"HoseTests$Things", "findLeftOf", "(II)I"⟩ prog_4_method_9_code 5 (some .int) : Cond) ∈ bigW := mem_big 458 (by decide +kernel) (by decide +kernel)
theorem k_473 : (Cond.methodLink "HoseTests" 130 ⟨"HoseTests", "endOf", "(I)I"⟩ : Cond) ∈ bigW := mem_big 473 (by decide +kernel) (by decide +kernel)
theorem k_475 : (Cond.instanceMethod ⟨"HoseTests", "endOf", "(I)I"⟩ : Cond) ∈ bigW := mem_big 475 (by decide +kernel) (by decide +kernel)
theorem k_476 : (Cond.code ⟨"HoseTests", "endOf", "(I)I"⟩ prog_1_method_30_code 3 (some .int) : Cond) ∈ bigW := mem_big 476 (by decide +kernel) (by decide +kernel)
theorem k_477 : (Cond.methodLink "HoseTests" 215 ⟨"java/lang/Math", "max", "(II)I"⟩ : Cond) ∈ bigW := mem_big 477 (by decide +kernel) (by decide +kernel)
theorem k_485 : (Cond.methodLink "HoseTests" 133 ⟨"HoseTests", "fillEndRow", "(II)V"⟩ : Cond) ∈ bigW := mem_big 485 (by decide +kernel) (by decide +kernel)
theorem k_487 : (Cond.instanceMethod ⟨"HoseTests", "fillEndRow", "(II)V"⟩ : Cond) ∈ bigW := mem_big 487 (by decide +kernel) (by decide +kernel)
theorem k_488 : (Cond.code ⟨"HoseTests", "fillEndRow", "(II)V"⟩ prog_1_method_31_code 5 none : Cond) ∈ bigW := mem_big 488 (by decide +kernel) (by decide +kernel)
theorem k_489 : (Cond.methodLink "HoseTests" 136 ⟨"HoseTests", "countEndingBefore", "(I)I"⟩ : Cond) ∈ bigW := mem_big 489 (by decide +kernel) (by decide +kernel)
theorem k_491 : (Cond.instanceMethod ⟨"HoseTests", "countEndingBefore", "(I)I"⟩ : Cond) ∈ bigW := mem_big 491 (by decide +kernel) (by decide +kernel)
theorem k_492 : (Cond.code ⟨"HoseTests", "countEndingBefore", "(I)I"⟩ prog_1_method_32_code 6 (some .int) : Cond) ∈ bigW := mem_big 492 (by decide +kernel) (by decide +kernel)
theorem k_509 : (Cond.methodLink "HoseTests" 156 ⟨"HoseTests$Things", "countScrapped", "(I)I"⟩ : Cond) ∈ bigW := mem_big 509 (by decide +kernel) (by decide +kernel)
theorem k_510 : (Cond.instanceMethod ⟨"HoseTests$Things", "countScrapped", "(I)I"⟩ : Cond) ∈ bigW := mem_big 510 (by decide +kernel) (by decide +kernel)
theorem k_511 : (Cond.selects "HoseTests$Things" ⟨"HoseTests$Things", "countScrapped", "(I)I"⟩ ⟨"HoseTests$Things", "countScrapped", "(I)I"⟩ : Cond) ∈ bigW := mem_big 511 (by decide +kernel) (by decide +kernel)
theorem k_512 : (Cond.code ⟨"HoseTests$Things", "countScrapped", "(I)I"⟩ prog_4_method_11_code 4 (some .int) : Cond) ∈ bigW := mem_big 512 (by decide +kernel) (by decide +kernel)
theorem k_513 : (Cond.classLink "HoseTests" 159 "java/lang/ArithmeticException" : Cond) ∈ bigW := mem_big 513 (by decide +kernel) (by decide +kernel)
theorem k_529 : (Cond.methodLink "HoseTests" 164 ⟨"HoseTests$Things", "sumOfLives", "(I)I"⟩ : Cond) ∈ bigW := mem_big 529 (by decide +kernel) (by decide +kernel)
theorem k_530 : (Cond.instanceMethod ⟨"HoseTests$Things", "sumOfLives", "(I)I"⟩ : Cond) ∈ bigW := mem_big 530 (by decide +kernel) (by decide +kernel)
theorem k_531 : (Cond.selects "HoseTests$Things" ⟨"HoseTests$Things", "sumOfLives", "(I)I"⟩ ⟨"HoseTests$Things", "sumOfLives", "(I)I"⟩ : Cond) ∈ bigW := mem_big 531 (by decide +kernel) (by decide +kernel)
theorem k_532 : (Cond.code ⟨"HoseTests$Things", "sumOfLives", "(I)I"⟩ prog_4_method_12_code 4 (some .int) : Cond) ∈ bigW := mem_big 532 (by decide +kernel) (by decide +kernel)
theorem k_533 : (Cond.methodLink "HoseTests" 167 ⟨"HoseTests", "commonDivisor", "(II)I"⟩ : Cond) ∈ bigW := mem_big 533 (by decide +kernel) (by decide +kernel)
theorem k_534 : (Cond.static ⟨"HoseTests", "commonDivisor", "(II)I"⟩ : Cond) ∈ bigW := mem_big 534 (by decide +kernel) (by decide +kernel)
theorem k_535 : (Cond.code ⟨"HoseTests", "commonDivisor", "(II)I"⟩ prog_1_method_25_code 3 (some .int) : Cond) ∈ bigW := mem_big 535 (by decide +kernel) (by decide +kernel)
theorem k_543 : (Cond.methodLink "HoseTests" 170 ⟨"HoseTests$Plan", "make", "(JIII)I"⟩ : Cond) ∈ bigW := mem_big 543 (by decide +kernel) (by decide +kernel)
theorem k_544 : (Cond.instanceMethod ⟨"HoseTests$Plan", "make", "(JIII)I"⟩ : Cond) ∈ bigW := mem_big 544 (by decide +kernel) (by decide +kernel)
theorem k_545 : (Cond.selects "HoseTests$Plan" ⟨"HoseTests$Plan", "make", "(JIII)I"⟩ ⟨"HoseTests$Plan", "make", "(JIII)I"⟩ : Cond) ∈ bigW := mem_big 545 (by decide +kernel) (by decide +kernel)
theorem k_546 : (Cond.code ⟨"HoseTests$Plan", "make", "(JIII)I"⟩ prog_3_method_2_code 7 (some .int) : Cond) ∈ bigW := mem_big 546 (by decide +kernel) (by decide +kernel)
theorem k_547 : (Cond.methodLink "HoseTests$Plan" 34 ⟨"java/lang/Math", "min", "(II)I"⟩ : Cond) ∈ bigW := mem_big 547 (by decide +kernel) (by decide +kernel)
theorem k_548 : (Cond.constant "HoseTests$Plan" 40 2147483647 : Cond) ∈ bigW := mem_big 548 (by decide +kernel) (by decide +kernel)
theorem k_549 : (Cond.methodLink "HoseTests$Plan" 41 ⟨"HoseTests$Plan", "putFrom", "(II)V"⟩ : Cond) ∈ bigW := mem_big 549 (by decide +kernel) (by decide +kernel)
theorem k_551 : (Cond.instanceMethod ⟨"HoseTests$Plan", "putFrom", "(II)V"⟩ : Cond) ∈ bigW := mem_big 551 (by decide +kernel) (by decide +kernel)
theorem k_552 : (Cond.code ⟨"HoseTests$Plan", "putFrom", "(II)V"⟩ prog_3_method_3_code 4 none : Cond) ∈ bigW := mem_big 552 (by decide +kernel) (by decide +kernel)
theorem k_553 : (Cond.methodLink "HoseTests$Plan" 45 ⟨"HoseTests$Plan", "keepTried", "(I)V"⟩ : Cond) ∈ bigW := mem_big 553 (by decide +kernel) (by decide +kernel)
theorem k_555 : (Cond.instanceMethod ⟨"HoseTests$Plan", "keepTried", "(I)V"⟩ : Cond) ∈ bigW := mem_big 555 (by decide +kernel) (by decide +kernel)
theorem k_556 : (Cond.code ⟨"HoseTests$Plan", "keepTried", "(I)V"⟩ prog_3_method_4_code 3 none : Cond) ∈ bigW := mem_big 556 (by decide +kernel) (by decide +kernel)
theorem k_557 : (Cond.methodLink "HoseTests$Plan" 49 ⟨"java/lang/Math", "max", "(II)I"⟩ : Cond) ∈ bigW := mem_big 557 (by decide +kernel) (by decide +kernel)
end
section
/-! my own rows: the class's state as a function of places, and small rows for the walks -/
abbrev St : Type := Nat → Nat → Int32
/-- the state with number k of place q set to v -/
def su (σ : St) (q k : Nat) (v : Int32) : St := va_up σ q (upd (σ q) k v)
theorem su_same (σ : St) (q k : Nat) (v : Int32) : su σ q k v q k = v := by simp [su, va_up, upd]
theorem su_ne (σ : St) {q k q' k' : Nat} (v : Int32) (h : ¬ (q' = q ∧ k' = k)) : su σ q k v q' k' = σ q' k' := by
  unfold su va_up upd
  by_cases h1 : q' = q
  · subst h1
    rw [if_pos rfl]
    exact if_neg (fun h2 => h ⟨rfl, h2⟩)
  · rw [if_neg h1]
theorem su_nq (σ : St) {q k q' : Nat} (v : Int32) (h : q' ≠ q) : su σ q k v q' = σ q' := by
  unfold su va_up
  exact if_neg h
theorem ht_3 : (3 : Int32) = nI 3 := by decide
theorem lpE {B : Int32} {N k : Nat} (h : B = nI N) (hk : k + 0 = N) (hN : N < 2 ^ 31) : B ≤ nI k := by
  subst h
  exact nI_le (by omega) (by omega)
theorem lpB {B : Int32} {N k n : Nat} (h : B = nI N) (hk : k + (n + 1) = N) (hN : N < 2 ^ 31) : ¬ B ≤ nI k := by
  subst h
  exact nI_ge (by omega) hN
theorem vp_in_le {x : Int32} {m n : Nat} (h : vp_in x m) (hmn : m ≤ n) : vp_in x n := by
  obtain ⟨a, b⟩ := vp_in_iff.mp h
  exact vp_in_iff.mpr ⟨a, by omega⟩
theorem in_m3 {a b : Int32} {n N : Nat} (ha : vp_in a n) (hb : vp_in b 3) (hn : n ≤ 1000) (hN : n * 3 = N) : vp_in (a * (3 : Int32) + b) N := by
  obtain ⟨i, hi, rfl⟩ := vp_in_of ha (by omega)
  obtain ⟨j, hj, rfl⟩ := vp_in_of hb (by omega)
  rw [ht_3, pk_mul, nI_add]
  exact vp_in_nI (by omega) (by omega)
theorem fr_all {A0 : Nat → Prop} {ws : va_W} {H0 H : Heap} {locs : List Loc} (hD : va_D A0 ws) (hS : va_S A0 H0 H locs) (hA : ∀ q, H0.size ≤ q → A0 q) : ∀ q, va_A ws H.size q → A0 q := by
  intro q h
  rcases h with ⟨k, e, hk⟩ | h
  · exact hD.2 k (q, e) hk
  · exact hA q (Nat.le_trans hS.1 h)
theorem W_ofH {p : Program} {l : Launch} {e : Env} {R : Room} {s : State} {m : MethodId} {args : Array Value} {below : List Frame} {meth : Method} {c : Code} {H : Heap} {locs : List Loc} {cells slots : Nat} {Q : State → Prop} {g : JFrame} (h1 : H = s.heap) (h2 : locs = []) (k : W p l e R s m args below meth c H locs cells slots Q g) : W p l e R s m args below meth c s.heap [] cells slots Q g := by
  subst h1
  subst h2
  exact k
theorem ps_0 {s : State} {H : Heap} {As : List Value} : PreS s H (va_Pc As (fun _ => True)) As := ⟨fun _ _ _ _ q => q, fun _ _ _ => ⟨rfl, trivial⟩⟩
def okKnown (x n : Int32) : Bool := !(decide (x < 0)) && decide (x < n)
def okRange (x lo hi : Int32) : Bool := !(decide (x < lo)) && decide (x ≤ hi)
def okState (b : Int32) : Bool := !(decide (b = 0))
theorem okK_in {x B : Int32} {n : Nat} (h : okKnown x B = true) (hB : B = nI n) (hn : n < 2 ^ 31) : vp_in x n := by
  subst hB
  simp only [okKnown, Bool.and_eq_true, Bool.not_eq_true', decide_eq_false_iff_not, decide_eq_true_eq] at h
  rcases pk_ix x hn with h1 | h1 | ⟨j, hj, rfl⟩
  · exact absurd h1 h.1
  · exact absurd h.2 (Int32.not_lt.mpr h1)
  · exact vp_in_nI hj hn
end
section
/-! the class's world (27 cells at the addresses a 0 .. a 26) and its invariant -/
def cw (cI cZ : ClassId) (a : Nat → Nat) (σ : St) : va_W := [(a 0, .inr (3, [.ref (a 1), .ref (a 7), .ref (a 19), .ref (a 25), .ref (a 26), .int (σ 0 5)])),
  (a 1, .inr (0, [.ref (a 2), .ref (a 3), .ref (a 4), .ref (a 5), .ref (a 6)])),
  (a 2, .inl (cI, 5, .inl (σ 2))),
  (a 3, .inl (cI, 15, .inl (σ 3))),
  (a 4, .inl (cI, 15, .inl (σ 4))),
  (a 5, .inl (cI, 15, .inl (σ 5))),
  (a 6, .inl (cI, 15, .inl (σ 6))),
  (a 7, .inr (2, [.ref (a 8), .ref (a 9), .ref (a 10), .ref (a 11), .ref (a 12), .ref (a 13), .ref (a 14), .ref (a 15), .ref (a 16), .ref (a 17), .ref (a 18), .int (σ 7 11)])),
  (a 8, .inl (cI, 40, .inl (σ 8))),
  (a 9, .inl (cI, 40, .inl (σ 9))),
  (a 10, .inl (cI, 40, .inl (σ 10))),
  (a 11, .inl (cI, 40, .inl (σ 11))),
  (a 12, .inl (cI, 40, .inl (σ 12))),
  (a 13, .inl (cI, 40, .inl (σ 13))),
  (a 14, .inl (cI, 40, .inl (σ 14))),
  (a 15, .inl (cZ, 40, .inl (σ 15))),
  (a 16, .inl (cI, 120, .inl (σ 16))),
  (a 17, .inl (cI, 120, .inl (σ 17))),
  (a 18, .inl (cI, 120, .inl (σ 18))),
  (a 19, .inr (1, [.ref (a 20), .ref (a 21), .ref (a 22), .ref (a 23), .ref (a 24), .int (σ 19 5), .int (σ 19 6)])),
  (a 20, .inl (cI, 6, .inl (σ 20))),
  (a 21, .inl (cI, 6, .inl (σ 21))),
  (a 22, .inl (cI, 6, .inl (σ 22))),
  (a 23, .inl (cI, 6, .inl (σ 23))),
  (a 24, .inl (cI, 4, .inl (σ 24))),
  (a 25, .inl (cZ, 10, .inl (σ 25))),
  (a 26, .inl (cI, 40, .inl (σ 26)))]
abbrev pRo (dC : Nat → ClassId) (dI : Nat → Nat → Nat) (cI cZ : ClassId) (a : Nat → Nat) (σ : St) (av : List Value) : Array Value → State → Prop := va_Pc av (fun U => va_P (dC, dI) vwCl (cw cI cZ a σ) U.heap ∧ va_K (dC, dI) vwCl [(cI, .int), (cZ, .boolean)] U)
abbrev pMu (dC : Nat → ClassId) (dI : Nat → Nat → Nat) (cI cZ : ClassId) (a : Nat → Nat) (sz : Nat) (σ : St) (av : List Value) : Array Value → State → Prop := va_Pc av (fun U => U.heap.size = sz ∧ va_P (dC, dI) vwCl (cw cI cZ a σ) U.heap ∧ va_K (dC, dI) vwCl [(cI, .int), (cZ, .boolean)] U ∧ va_D (fun _ => True) (cw cI cZ a σ))
abbrev bMu (dC : Nat → ClassId) (dI : Nat → Nat → Nat) (cI cZ : ClassId) (a : Nat → Nat) (A : Nat → Prop) (σ : St) (t : State) : Prop := va_P (dC, dI) vwCl (cw cI cZ a σ) t.heap ∧ va_K (dC, dI) vwCl [(cI, .int), (cZ, .boolean)] t ∧ va_D A (cw cI cZ a σ)
abbrev bXu (dC : Nat → ClassId) (dI : Nat → Nat → Nat) (cI cZ : ClassId) (a : Nat → Nat) (A : Nat → Prop) (σ : St) (E u : String) (t : State) : Prop := E = u ∧ bMu dC dI cI cZ a A σ t
theorem pv_ro {s : State} {H : Heap} {dC : Nat → ClassId} {dI : Nat → Nat → Nat} {cI cZ : ClassId} {a : Nat → Nat} {σ : St} {b q0 ci : Nat} {q : vw_C} {fs : List Value} {As : List Value} (hK : va_K (dC, dI) vwCl [(cI, .int), (cZ, .boolean)] s) (hP : va_P (dC, dI) vwCl (cw cI cZ a σ) H) (hc : vwCl[ci]? = some q) (he : (cw cI cZ a σ)[q0]? = some (b, .inr (ci, fs))) : PreV s H q.1 b (pRo dC dI cI cZ a σ (.ref b :: As)) As := by
  refine ⟨fun a U g mk h => ?_, va_recv hK hP hc he, fun U hU hW => ⟨rfl, by rw [hU]; exact hP, va_K.moved hW.alike hK⟩⟩
  obtain ⟨q0, qP, qK⟩ := h
  exact ⟨q0, qP, va_K.moved (u := U) (U := U.calling g mk a) (Vm.Alike.refl U.vm) qK⟩
theorem pv_mu {s : State} {H : Heap} {dC : Nat → ClassId} {dI : Nat → Nat → Nat} {cI cZ : ClassId} {a : Nat → Nat} {σ : St} {b q0 ci : Nat} {q : vw_C} {fs : List Value} {As : List Value} {A : Nat → Prop} (hK : va_K (dC, dI) vwCl [(cI, .int), (cZ, .boolean)] s) (hP : va_P (dC, dI) vwCl (cw cI cZ a σ) H) (hD : va_D A (cw cI cZ a σ)) (hc : vwCl[ci]? = some q) (he : (cw cI cZ a σ)[q0]? = some (b, .inr (ci, fs))) : PreV s H q.1 b (pMu dC dI cI cZ a H.size σ (.ref b :: As)) As := by
  refine ⟨fun a U g mk h => ?_, va_recv hK hP hc he, fun U hU hW => ⟨rfl, by rw [hU], by rw [hU]; exact hP, va_K.moved hW.alike hK, hD.weaken (fun _ _ _ _ => trivial)⟩⟩
  obtain ⟨q0, q1, qP, qK, qD⟩ := h
  exact ⟨q0, q1, qP, va_K.moved (u := U) (U := U.calling g mk a) (Vm.Alike.refl U.vm) qK, qD⟩
def cntN (σ : St) : Nat := (σ 7 11).toNatClampNeg
def plnN (σ : St) : Nat := (σ 19 5).toNatClampNeg
def IV (σ : St) : Prop := σ 7 11 = nI (cntN σ) ∧ cntN σ ≤ 40 ∧ (∀ j, j < 40 → vp_in (σ 8 j) 5) ∧ (∀ j, j < 40 → vp_in (σ 10 j) 10) ∧ σ 19 5 = nI (plnN σ) ∧ plnN σ ≤ 6 ∧ ∀ j, j < 6 → vp_in (σ 21 j) 4
theorem iv_cnt {σ : St} (h : IV σ) : σ 7 11 = nI (cntN σ) := h.1
theorem iv_le {σ : St} (h : IV σ) : cntN σ ≤ 40 := h.2.1
theorem iv_pln {σ : St} (h : IV σ) : σ 19 5 = nI (plnN σ) := h.2.2.2.2.1
theorem iv_pl6 {σ : St} (h : IV σ) : plnN σ ≤ 6 := h.2.2.2.2.2.1
theorem vp_lt {x : Int32} {n : Nat} (h : vp_in x n) : x.toNatClampNeg < n := Nat.not_le.mp fun q => h (Or.inr q)
theorem iv_k {σ : St} {x : Int32} (h : IV σ) (hx : vp_in x 40) : vp_in (σ 8 x.toNatClampNeg) 5 := h.2.2.1 _ (vp_lt hx)
theorem iv_b {σ : St} {x : Int32} (h : IV σ) (hx : vp_in x 40) : vp_in (σ 10 x.toNatClampNeg) 10 := h.2.2.2.1 _ (vp_lt hx)
theorem iv_w {σ : St} {x : Int32} (h : IV σ) (hx : vp_in x 6) : vp_in (σ 21 x.toNatClampNeg) 4 := h.2.2.2.2.2.2 _ (vp_lt hx)
theorem iv_cnt2 {σ σ1 : St} (h : IV σ1) (hc : cntN σ1 = cntN σ) : σ1 7 11 = nI (cntN σ) := by rw [← hc]; exact h.1
theorem iv_suq {σ : St} {q k : Nat} {v : Int32} (h : IV σ) (hq : q ≠ 7 ∧ q ≠ 8 ∧ q ≠ 10 ∧ q ≠ 19 ∧ q ≠ 21) : IV (su σ q k v) := by
  obtain ⟨h7, h8, h10, h19, h21⟩ := hq
  have e7 := su_nq σ (k := k) v (Ne.symm h7)
  have e8 := su_nq σ (k := k) v (Ne.symm h8)
  have e10 := su_nq σ (k := k) v (Ne.symm h10)
  have e19 := su_nq σ (k := k) v (Ne.symm h19)
  have e21 := su_nq σ (k := k) v (Ne.symm h21)
  unfold IV cntN plnN at h ⊢
  rw [e7, e8, e10, e19, e21]
  exact h
theorem okK_cnt {σ : St} {x : Int32} (h : IV σ) (hx : okKnown x (σ 7 11) = true) : vp_in x 40 := vp_in_le (okK_in hx (iv_cnt h) (by have := iv_le h; omega)) (iv_le h)
theorem okK_pln {σ : St} {x : Int32} (h : IV σ) (hx : okKnown x (σ 19 5) = true) : vp_in x 6 := vp_in_le (okK_in hx (iv_pln h) (by have := iv_pl6 h; omega)) (iv_pl6 h)
theorem cnt_in40 {σ : St} (h : IV σ) (hx : σ 7 11 < (40 : Int32)) : vp_in (σ 7 11) 40 := by
  rw [iv_cnt h] at hx ⊢
  have h1 := iv_le h
  rw [show (40 : Int32) = nI 40 from by decide, nI_ltI (by omega) (by omega)] at hx
  exact vp_in_nI hx (by omega)
theorem in_swK {a x m : Int32} {kx km : Nat} (ha : vp_in a 40) (hx : x = nI kx) (hm : m = nI km) (h1 : km ≤ kx) (h2 : kx - km < 3) (h3 : kx < 100) : vp_in (a * (3 : Int32) + x - m) 120 := by
  obtain ⟨i, hi, rfl⟩ := vp_in_of ha (by omega)
  subst hx hm
  rw [ht_3, pk_mul, nI_add, pk_sub (by omega)]
  exact vp_in_nI (by omega) (by omega)
end
section
theorem P_cw_0_5 {D : va_G} {cl : List vw_C} {H : Heap} {cI cZ : ClassId} {a : Nat → Nat} {σ : St} {v : Int32} (h : va_P D cl ((cw cI cZ a σ).set 0 (a 0, .inr (3, List.set [.ref (a 1), .ref (a 7), .ref (a 19), .ref (a 25), .ref (a 26), .int (σ 0 5)] 5 (.int v)))) H) : va_P D cl (cw cI cZ a (su σ 0 5 v)) H := h
theorem D_cw_0_5 {A : Nat → Prop} {cI cZ : ClassId} {a : Nat → Nat} {σ : St} {v : Int32} (h : va_D A ((cw cI cZ a σ).set 0 (a 0, .inr (3, List.set [.ref (a 1), .ref (a 7), .ref (a 19), .ref (a 25), .ref (a 26), .int (σ 0 5)] 5 (.int v))))) : va_D A (cw cI cZ a (su σ 0 5 v)) := h
theorem P_cw_2 {D : va_G} {cl : List vw_C} {H : Heap} {cI cZ : ClassId} {a : Nat → Nat} {σ : St} {v : Int32} {k : Nat} (h : va_P D cl ((cw cI cZ a σ).set 2 (a 2, .inl (cI, 5, .inl (upd (σ 2) k v)))) H) : va_P D cl (cw cI cZ a (su σ 2 k v)) H := h
theorem D_cw_2 {A : Nat → Prop} {cI cZ : ClassId} {a : Nat → Nat} {σ : St} {v : Int32} {k : Nat} (h : va_D A ((cw cI cZ a σ).set 2 (a 2, .inl (cI, 5, .inl (upd (σ 2) k v))))) : va_D A (cw cI cZ a (su σ 2 k v)) := h
theorem P_cw_3 {D : va_G} {cl : List vw_C} {H : Heap} {cI cZ : ClassId} {a : Nat → Nat} {σ : St} {v : Int32} {k : Nat} (h : va_P D cl ((cw cI cZ a σ).set 3 (a 3, .inl (cI, 15, .inl (upd (σ 3) k v)))) H) : va_P D cl (cw cI cZ a (su σ 3 k v)) H := h
theorem D_cw_3 {A : Nat → Prop} {cI cZ : ClassId} {a : Nat → Nat} {σ : St} {v : Int32} {k : Nat} (h : va_D A ((cw cI cZ a σ).set 3 (a 3, .inl (cI, 15, .inl (upd (σ 3) k v))))) : va_D A (cw cI cZ a (su σ 3 k v)) := h
theorem P_cw_4 {D : va_G} {cl : List vw_C} {H : Heap} {cI cZ : ClassId} {a : Nat → Nat} {σ : St} {v : Int32} {k : Nat} (h : va_P D cl ((cw cI cZ a σ).set 4 (a 4, .inl (cI, 15, .inl (upd (σ 4) k v)))) H) : va_P D cl (cw cI cZ a (su σ 4 k v)) H := h
theorem D_cw_4 {A : Nat → Prop} {cI cZ : ClassId} {a : Nat → Nat} {σ : St} {v : Int32} {k : Nat} (h : va_D A ((cw cI cZ a σ).set 4 (a 4, .inl (cI, 15, .inl (upd (σ 4) k v))))) : va_D A (cw cI cZ a (su σ 4 k v)) := h
theorem P_cw_5 {D : va_G} {cl : List vw_C} {H : Heap} {cI cZ : ClassId} {a : Nat → Nat} {σ : St} {v : Int32} {k : Nat} (h : va_P D cl ((cw cI cZ a σ).set 5 (a 5, .inl (cI, 15, .inl (upd (σ 5) k v)))) H) : va_P D cl (cw cI cZ a (su σ 5 k v)) H := h
theorem D_cw_5 {A : Nat → Prop} {cI cZ : ClassId} {a : Nat → Nat} {σ : St} {v : Int32} {k : Nat} (h : va_D A ((cw cI cZ a σ).set 5 (a 5, .inl (cI, 15, .inl (upd (σ 5) k v))))) : va_D A (cw cI cZ a (su σ 5 k v)) := h
theorem P_cw_6 {D : va_G} {cl : List vw_C} {H : Heap} {cI cZ : ClassId} {a : Nat → Nat} {σ : St} {v : Int32} {k : Nat} (h : va_P D cl ((cw cI cZ a σ).set 6 (a 6, .inl (cI, 15, .inl (upd (σ 6) k v)))) H) : va_P D cl (cw cI cZ a (su σ 6 k v)) H := h
theorem D_cw_6 {A : Nat → Prop} {cI cZ : ClassId} {a : Nat → Nat} {σ : St} {v : Int32} {k : Nat} (h : va_D A ((cw cI cZ a σ).set 6 (a 6, .inl (cI, 15, .inl (upd (σ 6) k v))))) : va_D A (cw cI cZ a (su σ 6 k v)) := h
theorem P_cw_7_11 {D : va_G} {cl : List vw_C} {H : Heap} {cI cZ : ClassId} {a : Nat → Nat} {σ : St} {v : Int32} (h : va_P D cl ((cw cI cZ a σ).set 7 (a 7, .inr (2, List.set [.ref (a 8), .ref (a 9), .ref (a 10), .ref (a 11), .ref (a 12), .ref (a 13), .ref (a 14), .ref (a 15), .ref (a 16), .ref (a 17), .ref (a 18), .int (σ 7 11)] 11 (.int v)))) H) : va_P D cl (cw cI cZ a (su σ 7 11 v)) H := h
theorem D_cw_7_11 {A : Nat → Prop} {cI cZ : ClassId} {a : Nat → Nat} {σ : St} {v : Int32} (h : va_D A ((cw cI cZ a σ).set 7 (a 7, .inr (2, List.set [.ref (a 8), .ref (a 9), .ref (a 10), .ref (a 11), .ref (a 12), .ref (a 13), .ref (a 14), .ref (a 15), .ref (a 16), .ref (a 17), .ref (a 18), .int (σ 7 11)] 11 (.int v))))) : va_D A (cw cI cZ a (su σ 7 11 v)) := h
theorem P_cw_8 {D : va_G} {cl : List vw_C} {H : Heap} {cI cZ : ClassId} {a : Nat → Nat} {σ : St} {v : Int32} {k : Nat} (h : va_P D cl ((cw cI cZ a σ).set 8 (a 8, .inl (cI, 40, .inl (upd (σ 8) k v)))) H) : va_P D cl (cw cI cZ a (su σ 8 k v)) H := h
theorem D_cw_8 {A : Nat → Prop} {cI cZ : ClassId} {a : Nat → Nat} {σ : St} {v : Int32} {k : Nat} (h : va_D A ((cw cI cZ a σ).set 8 (a 8, .inl (cI, 40, .inl (upd (σ 8) k v))))) : va_D A (cw cI cZ a (su σ 8 k v)) := h
theorem P_cw_9 {D : va_G} {cl : List vw_C} {H : Heap} {cI cZ : ClassId} {a : Nat → Nat} {σ : St} {v : Int32} {k : Nat} (h : va_P D cl ((cw cI cZ a σ).set 9 (a 9, .inl (cI, 40, .inl (upd (σ 9) k v)))) H) : va_P D cl (cw cI cZ a (su σ 9 k v)) H := h
theorem D_cw_9 {A : Nat → Prop} {cI cZ : ClassId} {a : Nat → Nat} {σ : St} {v : Int32} {k : Nat} (h : va_D A ((cw cI cZ a σ).set 9 (a 9, .inl (cI, 40, .inl (upd (σ 9) k v))))) : va_D A (cw cI cZ a (su σ 9 k v)) := h
theorem P_cw_10 {D : va_G} {cl : List vw_C} {H : Heap} {cI cZ : ClassId} {a : Nat → Nat} {σ : St} {v : Int32} {k : Nat} (h : va_P D cl ((cw cI cZ a σ).set 10 (a 10, .inl (cI, 40, .inl (upd (σ 10) k v)))) H) : va_P D cl (cw cI cZ a (su σ 10 k v)) H := h
theorem D_cw_10 {A : Nat → Prop} {cI cZ : ClassId} {a : Nat → Nat} {σ : St} {v : Int32} {k : Nat} (h : va_D A ((cw cI cZ a σ).set 10 (a 10, .inl (cI, 40, .inl (upd (σ 10) k v))))) : va_D A (cw cI cZ a (su σ 10 k v)) := h
theorem P_cw_11 {D : va_G} {cl : List vw_C} {H : Heap} {cI cZ : ClassId} {a : Nat → Nat} {σ : St} {v : Int32} {k : Nat} (h : va_P D cl ((cw cI cZ a σ).set 11 (a 11, .inl (cI, 40, .inl (upd (σ 11) k v)))) H) : va_P D cl (cw cI cZ a (su σ 11 k v)) H := h
theorem D_cw_11 {A : Nat → Prop} {cI cZ : ClassId} {a : Nat → Nat} {σ : St} {v : Int32} {k : Nat} (h : va_D A ((cw cI cZ a σ).set 11 (a 11, .inl (cI, 40, .inl (upd (σ 11) k v))))) : va_D A (cw cI cZ a (su σ 11 k v)) := h
theorem P_cw_12 {D : va_G} {cl : List vw_C} {H : Heap} {cI cZ : ClassId} {a : Nat → Nat} {σ : St} {v : Int32} {k : Nat} (h : va_P D cl ((cw cI cZ a σ).set 12 (a 12, .inl (cI, 40, .inl (upd (σ 12) k v)))) H) : va_P D cl (cw cI cZ a (su σ 12 k v)) H := h
theorem D_cw_12 {A : Nat → Prop} {cI cZ : ClassId} {a : Nat → Nat} {σ : St} {v : Int32} {k : Nat} (h : va_D A ((cw cI cZ a σ).set 12 (a 12, .inl (cI, 40, .inl (upd (σ 12) k v))))) : va_D A (cw cI cZ a (su σ 12 k v)) := h
theorem P_cw_13 {D : va_G} {cl : List vw_C} {H : Heap} {cI cZ : ClassId} {a : Nat → Nat} {σ : St} {v : Int32} {k : Nat} (h : va_P D cl ((cw cI cZ a σ).set 13 (a 13, .inl (cI, 40, .inl (upd (σ 13) k v)))) H) : va_P D cl (cw cI cZ a (su σ 13 k v)) H := h
theorem D_cw_13 {A : Nat → Prop} {cI cZ : ClassId} {a : Nat → Nat} {σ : St} {v : Int32} {k : Nat} (h : va_D A ((cw cI cZ a σ).set 13 (a 13, .inl (cI, 40, .inl (upd (σ 13) k v))))) : va_D A (cw cI cZ a (su σ 13 k v)) := h
theorem P_cw_14 {D : va_G} {cl : List vw_C} {H : Heap} {cI cZ : ClassId} {a : Nat → Nat} {σ : St} {v : Int32} {k : Nat} (h : va_P D cl ((cw cI cZ a σ).set 14 (a 14, .inl (cI, 40, .inl (upd (σ 14) k v)))) H) : va_P D cl (cw cI cZ a (su σ 14 k v)) H := h
theorem D_cw_14 {A : Nat → Prop} {cI cZ : ClassId} {a : Nat → Nat} {σ : St} {v : Int32} {k : Nat} (h : va_D A ((cw cI cZ a σ).set 14 (a 14, .inl (cI, 40, .inl (upd (σ 14) k v))))) : va_D A (cw cI cZ a (su σ 14 k v)) := h
theorem P_cw_15 {D : va_G} {cl : List vw_C} {H : Heap} {cI cZ : ClassId} {a : Nat → Nat} {σ : St} {v : Int32} {k : Nat} (h : va_P D cl ((cw cI cZ a σ).set 15 (a 15, .inl (cZ, 40, .inl (upd (σ 15) k v)))) H) : va_P D cl (cw cI cZ a (su σ 15 k v)) H := h
theorem D_cw_15 {A : Nat → Prop} {cI cZ : ClassId} {a : Nat → Nat} {σ : St} {v : Int32} {k : Nat} (h : va_D A ((cw cI cZ a σ).set 15 (a 15, .inl (cZ, 40, .inl (upd (σ 15) k v))))) : va_D A (cw cI cZ a (su σ 15 k v)) := h
theorem P_cw_16 {D : va_G} {cl : List vw_C} {H : Heap} {cI cZ : ClassId} {a : Nat → Nat} {σ : St} {v : Int32} {k : Nat} (h : va_P D cl ((cw cI cZ a σ).set 16 (a 16, .inl (cI, 120, .inl (upd (σ 16) k v)))) H) : va_P D cl (cw cI cZ a (su σ 16 k v)) H := h
theorem D_cw_16 {A : Nat → Prop} {cI cZ : ClassId} {a : Nat → Nat} {σ : St} {v : Int32} {k : Nat} (h : va_D A ((cw cI cZ a σ).set 16 (a 16, .inl (cI, 120, .inl (upd (σ 16) k v))))) : va_D A (cw cI cZ a (su σ 16 k v)) := h
theorem P_cw_17 {D : va_G} {cl : List vw_C} {H : Heap} {cI cZ : ClassId} {a : Nat → Nat} {σ : St} {v : Int32} {k : Nat} (h : va_P D cl ((cw cI cZ a σ).set 17 (a 17, .inl (cI, 120, .inl (upd (σ 17) k v)))) H) : va_P D cl (cw cI cZ a (su σ 17 k v)) H := h
theorem D_cw_17 {A : Nat → Prop} {cI cZ : ClassId} {a : Nat → Nat} {σ : St} {v : Int32} {k : Nat} (h : va_D A ((cw cI cZ a σ).set 17 (a 17, .inl (cI, 120, .inl (upd (σ 17) k v))))) : va_D A (cw cI cZ a (su σ 17 k v)) := h
theorem P_cw_18 {D : va_G} {cl : List vw_C} {H : Heap} {cI cZ : ClassId} {a : Nat → Nat} {σ : St} {v : Int32} {k : Nat} (h : va_P D cl ((cw cI cZ a σ).set 18 (a 18, .inl (cI, 120, .inl (upd (σ 18) k v)))) H) : va_P D cl (cw cI cZ a (su σ 18 k v)) H := h
theorem D_cw_18 {A : Nat → Prop} {cI cZ : ClassId} {a : Nat → Nat} {σ : St} {v : Int32} {k : Nat} (h : va_D A ((cw cI cZ a σ).set 18 (a 18, .inl (cI, 120, .inl (upd (σ 18) k v))))) : va_D A (cw cI cZ a (su σ 18 k v)) := h
theorem P_cw_19_5 {D : va_G} {cl : List vw_C} {H : Heap} {cI cZ : ClassId} {a : Nat → Nat} {σ : St} {v : Int32} (h : va_P D cl ((cw cI cZ a σ).set 19 (a 19, .inr (1, List.set [.ref (a 20), .ref (a 21), .ref (a 22), .ref (a 23), .ref (a 24), .int (σ 19 5), .int (σ 19 6)] 5 (.int v)))) H) : va_P D cl (cw cI cZ a (su σ 19 5 v)) H := h
theorem D_cw_19_5 {A : Nat → Prop} {cI cZ : ClassId} {a : Nat → Nat} {σ : St} {v : Int32} (h : va_D A ((cw cI cZ a σ).set 19 (a 19, .inr (1, List.set [.ref (a 20), .ref (a 21), .ref (a 22), .ref (a 23), .ref (a 24), .int (σ 19 5), .int (σ 19 6)] 5 (.int v))))) : va_D A (cw cI cZ a (su σ 19 5 v)) := h
theorem P_cw_19_6 {D : va_G} {cl : List vw_C} {H : Heap} {cI cZ : ClassId} {a : Nat → Nat} {σ : St} {v : Int32} (h : va_P D cl ((cw cI cZ a σ).set 19 (a 19, .inr (1, List.set [.ref (a 20), .ref (a 21), .ref (a 22), .ref (a 23), .ref (a 24), .int (σ 19 5), .int (σ 19 6)] 6 (.int v)))) H) : va_P D cl (cw cI cZ a (su σ 19 6 v)) H := h
theorem D_cw_19_6 {A : Nat → Prop} {cI cZ : ClassId} {a : Nat → Nat} {σ : St} {v : Int32} (h : va_D A ((cw cI cZ a σ).set 19 (a 19, .inr (1, List.set [.ref (a 20), .ref (a 21), .ref (a 22), .ref (a 23), .ref (a 24), .int (σ 19 5), .int (σ 19 6)] 6 (.int v))))) : va_D A (cw cI cZ a (su σ 19 6 v)) := h
theorem P_cw_20 {D : va_G} {cl : List vw_C} {H : Heap} {cI cZ : ClassId} {a : Nat → Nat} {σ : St} {v : Int32} {k : Nat} (h : va_P D cl ((cw cI cZ a σ).set 20 (a 20, .inl (cI, 6, .inl (upd (σ 20) k v)))) H) : va_P D cl (cw cI cZ a (su σ 20 k v)) H := h
theorem D_cw_20 {A : Nat → Prop} {cI cZ : ClassId} {a : Nat → Nat} {σ : St} {v : Int32} {k : Nat} (h : va_D A ((cw cI cZ a σ).set 20 (a 20, .inl (cI, 6, .inl (upd (σ 20) k v))))) : va_D A (cw cI cZ a (su σ 20 k v)) := h
theorem P_cw_21 {D : va_G} {cl : List vw_C} {H : Heap} {cI cZ : ClassId} {a : Nat → Nat} {σ : St} {v : Int32} {k : Nat} (h : va_P D cl ((cw cI cZ a σ).set 21 (a 21, .inl (cI, 6, .inl (upd (σ 21) k v)))) H) : va_P D cl (cw cI cZ a (su σ 21 k v)) H := h
theorem D_cw_21 {A : Nat → Prop} {cI cZ : ClassId} {a : Nat → Nat} {σ : St} {v : Int32} {k : Nat} (h : va_D A ((cw cI cZ a σ).set 21 (a 21, .inl (cI, 6, .inl (upd (σ 21) k v))))) : va_D A (cw cI cZ a (su σ 21 k v)) := h
theorem P_cw_22 {D : va_G} {cl : List vw_C} {H : Heap} {cI cZ : ClassId} {a : Nat → Nat} {σ : St} {v : Int32} {k : Nat} (h : va_P D cl ((cw cI cZ a σ).set 22 (a 22, .inl (cI, 6, .inl (upd (σ 22) k v)))) H) : va_P D cl (cw cI cZ a (su σ 22 k v)) H := h
theorem D_cw_22 {A : Nat → Prop} {cI cZ : ClassId} {a : Nat → Nat} {σ : St} {v : Int32} {k : Nat} (h : va_D A ((cw cI cZ a σ).set 22 (a 22, .inl (cI, 6, .inl (upd (σ 22) k v))))) : va_D A (cw cI cZ a (su σ 22 k v)) := h
theorem P_cw_23 {D : va_G} {cl : List vw_C} {H : Heap} {cI cZ : ClassId} {a : Nat → Nat} {σ : St} {v : Int32} {k : Nat} (h : va_P D cl ((cw cI cZ a σ).set 23 (a 23, .inl (cI, 6, .inl (upd (σ 23) k v)))) H) : va_P D cl (cw cI cZ a (su σ 23 k v)) H := h
theorem D_cw_23 {A : Nat → Prop} {cI cZ : ClassId} {a : Nat → Nat} {σ : St} {v : Int32} {k : Nat} (h : va_D A ((cw cI cZ a σ).set 23 (a 23, .inl (cI, 6, .inl (upd (σ 23) k v))))) : va_D A (cw cI cZ a (su σ 23 k v)) := h
theorem P_cw_24 {D : va_G} {cl : List vw_C} {H : Heap} {cI cZ : ClassId} {a : Nat → Nat} {σ : St} {v : Int32} {k : Nat} (h : va_P D cl ((cw cI cZ a σ).set 24 (a 24, .inl (cI, 4, .inl (upd (σ 24) k v)))) H) : va_P D cl (cw cI cZ a (su σ 24 k v)) H := h
theorem D_cw_24 {A : Nat → Prop} {cI cZ : ClassId} {a : Nat → Nat} {σ : St} {v : Int32} {k : Nat} (h : va_D A ((cw cI cZ a σ).set 24 (a 24, .inl (cI, 4, .inl (upd (σ 24) k v))))) : va_D A (cw cI cZ a (su σ 24 k v)) := h
theorem P_cw_25 {D : va_G} {cl : List vw_C} {H : Heap} {cI cZ : ClassId} {a : Nat → Nat} {σ : St} {v : Int32} {k : Nat} (h : va_P D cl ((cw cI cZ a σ).set 25 (a 25, .inl (cZ, 10, .inl (upd (σ 25) k v)))) H) : va_P D cl (cw cI cZ a (su σ 25 k v)) H := h
theorem D_cw_25 {A : Nat → Prop} {cI cZ : ClassId} {a : Nat → Nat} {σ : St} {v : Int32} {k : Nat} (h : va_D A ((cw cI cZ a σ).set 25 (a 25, .inl (cZ, 10, .inl (upd (σ 25) k v))))) : va_D A (cw cI cZ a (su σ 25 k v)) := h
theorem P_cw_26 {D : va_G} {cl : List vw_C} {H : Heap} {cI cZ : ClassId} {a : Nat → Nat} {σ : St} {v : Int32} {k : Nat} (h : va_P D cl ((cw cI cZ a σ).set 26 (a 26, .inl (cI, 40, .inl (upd (σ 26) k v)))) H) : va_P D cl (cw cI cZ a (su σ 26 k v)) H := h
theorem D_cw_26 {A : Nat → Prop} {cI cZ : ClassId} {a : Nat → Nat} {σ : St} {v : Int32} {k : Nat} (h : va_D A ((cw cI cZ a σ).set 26 (a 26, .inl (cI, 40, .inl (upd (σ 26) k v))))) : va_D A (cw cI cZ a (su σ 26 k v)) := h
end
section
/-! pure rows ahead of the specs -/
def wtF (j : Nat) : Int32 := ([1, 3, 7, 1, 3, 7] : List Int32).getD j 0
theorem ht_6 : (6 : Int32) = nI 6 := by decide
theorem cd_gt {n d : Nat} (h : n + 1 ≤ d) (hd : d < 1000) : ¬ nI (n + 1 + 1) ≤ (1 : Int32) := by
  rw [show (1 : Int32) = nI 1 from by decide]
  exact nI_ge (by omega) (by omega)
theorem cd_n {x : Int32} {d : Nat} (h : x = nI (d + 1)) (hd : d < 1000) : x.toNatClampNeg - 1 = d := by
  rw [h, nI_clamp (by omega)]
  omega
theorem iv_su196 {σ : St} {v : Int32} (h : IV σ) : IV (su σ 19 6 v) := h
theorem iv_su195 {σ : St} {v : Int32} (h : IV σ) (hn : v = nI v.toNatClampNeg) (hn6 : v.toNatClampNeg ≤ 6) : IV (su σ 19 5 v) := ⟨h.1, h.2.1, h.2.2.1, h.2.2.2.1, hn, hn6, h.2.2.2.2.2.2⟩
theorem iv_su21 {σ : St} {k : Nat} {v : Int32} (h : IV σ) (hv : vp_in v 4) : IV (su σ 21 k v) := by
  refine ⟨h.1, h.2.1, h.2.2.1, h.2.2.2.1, h.2.2.2.2.1, h.2.2.2.2.2.1, fun j hj => ?_⟩
  by_cases hk : j = k
  · subst hk
    rw [su_same]
    exact hv
  · rw [su_ne σ v (fun q => hk q.2)]
    exact h.2.2.2.2.2.2 j hj
theorem mk_in {A y : Int32} (h : vp_in y 4) : vp_in (if y < (A &&& (3 : Int32)) then y else (A &&& (3 : Int32))) 4 := by
  split
  · exact h
  · exact pk_andIn A 2 (m := 3) (by decide) (by decide)
theorem okR_two {x lo hi : Int32} (h : okRange x lo hi = true) : ¬ x < lo ∧ x ≤ hi := by
  simpa only [okRange, Bool.and_eq_true, Bool.not_eq_true', decide_eq_false_iff_not, decide_eq_true_eq] using h
theorem okR_n {x : Int32} (h : okRange x (0 : Int32) (6 : Int32) = true) : x = nI x.toNatClampNeg ∧ x.toNatClampNeg ≤ 6 := by
  obtain ⟨h1, h2⟩ := okR_two h
  obtain ⟨j, hj, rfl⟩ := nI_of2 (M := 6) (n := 6) (by decide) h1 h2
  rw [nI_clamp (by omega)]
  exact ⟨rfl, hj⟩
theorem okR_w {x : Int32} (h : okRange x (1 : Int32) (4 : Int32) = true) : vp_in (x - (1 : Int32)) 4 := by
  obtain ⟨h1, h2⟩ := okR_two h
  have h0 : ¬ x < 0 := by
    intro q
    rw [Int32.lt_iff_toInt_lt] at q h1
    rw [show (0 : Int32).toInt = 0 from by decide] at q
    rw [show (1 : Int32).toInt = 1 from by decide] at h1
    omega
  obtain ⟨j, hj, rfl⟩ := nI_of2 (M := 4) (n := 4) (by decide) h0 h2
  rw [show (1 : Int32) = nI 1 from by decide] at h1 ⊢
  rw [nI_ltI (by omega) (by omega)] at h1
  rw [pk_sub (by omega)]
  exact vp_in_nI (by omega) (by omega)
theorem pf_tl {σ : St} {x : Int32} {t : Nat} (h : IV σ) (ht : x = nI t) (htp : t ≤ plnN σ) (c : x < σ 19 5) : t < plnN σ := by
  have h6 := iv_pl6 h
  rw [ht, iv_pln h, nI_ltI (by omega) (by omega)] at c
  exact c
theorem pf_x6 {σ : St} {x : Int32} {t : Nat} (h : IV σ) (ht : x = nI t) (htp : t ≤ plnN σ) (c : x < σ 19 5) : vp_in x 6 := by
  have h6 := iv_pl6 h
  have h7 := pf_tl h ht htp c
  rw [ht]
  exact vp_in_nI (by omega) (by omega)
theorem pf_nlt {σ : St} {x : Int32} {t : Nat} (h : IV σ) (ht : x = nI t) (htp : t ≤ plnN σ) (htd : plnN σ ≤ t + 0) : ¬ x < σ 19 5 := by
  intro c
  have := pf_tl h ht htp c
  omega
theorem pf_k4 {v : Int32} {k : Nat} (hv : vp_in v 4) (hk : k < 2 ^ 31) (c : ¬ v < nI k) : vp_in (nI k) 4 := by
  obtain ⟨j, hj, rfl⟩ := vp_in_of hv (by omega)
  rw [nI_ltI (by omega) hk] at c
  exact vp_in_nI (by omega) (by omega)
theorem pf_l5 {v : Int32} {k : Nat} (hv : vp_in v 4) (hk : k + 0 = 5) : v < nI k := by
  obtain ⟨j, hj, rfl⟩ := vp_in_of hv (by omega)
  exact nI_lt (by omega) (by omega)
end
section
def sp_gradeOf (σ : St) (x1 : Int32) (x2 : Int32) (x3 : Int32) : Int32 := if x3 < (σ 6 ((x1 * (3 : Int32)) + x2).toNatClampNeg) then (if x3 < (σ 5 ((x1 * (3 : Int32)) + x2).toNatClampNeg) then (2 : Int32) else (1 : Int32)) else (0 : Int32)
def sp_hasSerial_2 (σ : St) (x1 : Int32) : Nat → Nat → Int32
  | 0, k => (0 : Int32)
  | n + 1, k => if (σ 9 (nI k).toNatClampNeg) = x1 then (1 : Int32) else (sp_hasSerial_2 σ x1 n (k + 1))
theorem sp_hasSerial_2_0 (σ : St) (x1 : Int32) (k : Nat) : sp_hasSerial_2 σ x1 0 k = ((0 : Int32)) := rfl
theorem sp_hasSerial_2_s (σ : St) (x1 : Int32) (n k : Nat) : sp_hasSerial_2 σ x1 (n + 1) k = (if (σ 9 (nI k).toNatClampNeg) = x1 then (1 : Int32) else (sp_hasSerial_2 σ x1 n (k + 1))) := rfl
def sp_hasSerial (σ : St) (x1 : Int32) : Int32 := sp_hasSerial_2 σ x1 (cntN σ) 0
def sp_isScrapped (σ : St) (x1 : Int32) : Int32 := if (σ 13 x1.toNatClampNeg) = (-1 : Int32) then (0 : Int32) else (1 : Int32)
def sp_conditionOf_4 (σ : St) (x1 : Int32) : Nat → Nat → Int32 → Int32
  | 0, k, x2 => x2
  | n + 1, k, x2 => sp_conditionOf_4 σ x1 n (k + 1) (if x2 < (σ 18 ((x1 * (3 : Int32)) + (nI k)).toNatClampNeg) then (σ 18 ((x1 * (3 : Int32)) + (nI k)).toNatClampNeg) else x2)
theorem sp_conditionOf_4_0 (σ : St) (x1 : Int32) (k : Nat) (x2 : Int32) : sp_conditionOf_4 σ x1 0 k x2 = (x2) := rfl
theorem sp_conditionOf_4_s (σ : St) (x1 : Int32) (n k : Nat) (x2 : Int32) : sp_conditionOf_4 σ x1 (n + 1) k x2 = (sp_conditionOf_4 σ x1 n (k + 1) (if x2 < (σ 18 ((x1 * (3 : Int32)) + (nI k)).toNatClampNeg) then (σ 18 ((x1 * (3 : Int32)) + (nI k)).toNatClampNeg) else x2)) := rfl
def sp_conditionOf (σ : St) (x1 : Int32) : Int32 := sp_conditionOf_4 σ x1 3 0 (0 : Int32)
def sp_isLeftOf (σ : St) (x1 : Int32) (x2 : Int32) : Int32 := if (σ 10 x2.toNatClampNeg) = x1 then (if (sp_isScrapped σ x2) = 0 then (1 : Int32) else (0 : Int32)) else (0 : Int32)
def sp_countLeftOf_4 (σ : St) (x1 : Int32) : Nat → Nat → Int32 → Int32
  | 0, k, x2 => x2
  | n + 1, k, x2 => if (sp_isLeftOf σ x1 (nI k)) = 0 then (sp_countLeftOf_4 σ x1 n (k + 1) x2) else (sp_countLeftOf_4 σ x1 n (k + 1) (x2 + (1 : Int32)))
theorem sp_countLeftOf_4_0 (σ : St) (x1 : Int32) (k : Nat) (x2 : Int32) : sp_countLeftOf_4 σ x1 0 k x2 = (x2) := rfl
theorem sp_countLeftOf_4_s (σ : St) (x1 : Int32) (n k : Nat) (x2 : Int32) : sp_countLeftOf_4 σ x1 (n + 1) k x2 = (if (sp_isLeftOf σ x1 (nI k)) = 0 then (sp_countLeftOf_4 σ x1 n (k + 1) x2) else (sp_countLeftOf_4 σ x1 n (k + 1) (x2 + (1 : Int32)))) := rfl
def sp_countLeftOf (σ : St) (x1 : Int32) : Int32 := sp_countLeftOf_4 σ x1 (cntN σ) 0 (0 : Int32)
def sp_findLeftOf_5 (σ : St) (x1 : Int32) (x2 : Int32) : Nat → Nat → Int32 → Int32
  | 0, k, x3 => (-1 : Int32)
  | n + 1, k, x3 => if (sp_isLeftOf σ x1 (nI k)) = 0 then (sp_findLeftOf_5 σ x1 x2 n (k + 1) x3) else (if x3 = x2 then (nI k) else (sp_findLeftOf_5 σ x1 x2 n (k + 1) (x3 + (1 : Int32))))
theorem sp_findLeftOf_5_0 (σ : St) (x1 : Int32) (x2 : Int32) (k : Nat) (x3 : Int32) : sp_findLeftOf_5 σ x1 x2 0 k x3 = ((-1 : Int32)) := rfl
theorem sp_findLeftOf_5_s (σ : St) (x1 : Int32) (x2 : Int32) (n k : Nat) (x3 : Int32) : sp_findLeftOf_5 σ x1 x2 (n + 1) k x3 = (if (sp_isLeftOf σ x1 (nI k)) = 0 then (sp_findLeftOf_5 σ x1 x2 n (k + 1) x3) else (if x3 = x2 then (nI k) else (sp_findLeftOf_5 σ x1 x2 n (k + 1) (x3 + (1 : Int32))))) := rfl
def sp_findLeftOf (σ : St) (x1 : Int32) (x2 : Int32) : Int32 := sp_findLeftOf_5 σ x1 x2 (cntN σ) 0 (0 : Int32)
def sp_countScrapped_4 (σ : St) (x1 : Int32) : Nat → Nat → Int32 → Int32
  | 0, k, x2 => x2
  | n + 1, k, x2 => if (σ 8 (nI k).toNatClampNeg) = x1 then (if (sp_isScrapped σ (nI k)) = 0 then (sp_countScrapped_4 σ x1 n (k + 1) x2) else (sp_countScrapped_4 σ x1 n (k + 1) (x2 + (1 : Int32)))) else (sp_countScrapped_4 σ x1 n (k + 1) x2)
theorem sp_countScrapped_4_0 (σ : St) (x1 : Int32) (k : Nat) (x2 : Int32) : sp_countScrapped_4 σ x1 0 k x2 = (x2) := rfl
theorem sp_countScrapped_4_s (σ : St) (x1 : Int32) (n k : Nat) (x2 : Int32) : sp_countScrapped_4 σ x1 (n + 1) k x2 = (if (σ 8 (nI k).toNatClampNeg) = x1 then (if (sp_isScrapped σ (nI k)) = 0 then (sp_countScrapped_4 σ x1 n (k + 1) x2) else (sp_countScrapped_4 σ x1 n (k + 1) (x2 + (1 : Int32)))) else (sp_countScrapped_4 σ x1 n (k + 1) x2)) := rfl
def sp_countScrapped (σ : St) (x1 : Int32) : Int32 := sp_countScrapped_4 σ x1 (cntN σ) 0 (0 : Int32)
def sp_sumOfLives_4 (σ : St) (x1 : Int32) : Nat → Nat → Int32 → Int32
  | 0, k, x2 => x2
  | n + 1, k, x2 => if (σ 8 (nI k).toNatClampNeg) = x1 then (if (sp_isScrapped σ (nI k)) = 0 then (sp_sumOfLives_4 σ x1 n (k + 1) x2) else (sp_sumOfLives_4 σ x1 n (k + 1) (x2 + ((σ 13 (nI k).toNatClampNeg) - (σ 12 (nI k).toNatClampNeg))))) else (sp_sumOfLives_4 σ x1 n (k + 1) x2)
theorem sp_sumOfLives_4_0 (σ : St) (x1 : Int32) (k : Nat) (x2 : Int32) : sp_sumOfLives_4 σ x1 0 k x2 = (x2) := rfl
theorem sp_sumOfLives_4_s (σ : St) (x1 : Int32) (n k : Nat) (x2 : Int32) : sp_sumOfLives_4 σ x1 (n + 1) k x2 = (if (σ 8 (nI k).toNatClampNeg) = x1 then (if (sp_isScrapped σ (nI k)) = 0 then (sp_sumOfLives_4 σ x1 n (k + 1) x2) else (sp_sumOfLives_4 σ x1 n (k + 1) (x2 + ((σ 13 (nI k).toNatClampNeg) - (σ 12 (nI k).toNatClampNeg))))) else (sp_sumOfLives_4 σ x1 n (k + 1) x2)) := rfl
def sp_sumOfLives (σ : St) (x1 : Int32) : Int32 := sp_sumOfLives_4 σ x1 (cntN σ) 0 (0 : Int32)
def sp_add_59 (σ : St) (x1 : Int32) (x2 : Int32) (x3 : Int32) (x4 : Int32) (x5 : Int32) : St → Nat → Nat → Int32 × St
  | σ1, 0, k => let σ_8 : St := su σ1 7 11 ((σ1 7 11) + (1 : Int32)); (σ 7 11, σ_8)
  | σ1, n + 1, k => let σ_10 : St := su σ1 16 ((((σ 7 11) * (3 : Int32)) + (nI k)).toNatClampNeg) x5; sp_add_59 σ x1 x2 x3 x4 x5 σ_10 n (k + 1)
theorem sp_add_59_0 (σ : St) (x1 : Int32) (x2 : Int32) (x3 : Int32) (x4 : Int32) (x5 : Int32) (σ1 : St) (k : Nat) : sp_add_59 σ x1 x2 x3 x4 x5 σ1 0 k = (let σ_8 : St := su σ1 7 11 ((σ1 7 11) + (1 : Int32)); (σ 7 11, σ_8)) := rfl
theorem sp_add_59_s (σ : St) (x1 : Int32) (x2 : Int32) (x3 : Int32) (x4 : Int32) (x5 : Int32) (σ1 : St) (n k : Nat) : sp_add_59 σ x1 x2 x3 x4 x5 σ1 (n + 1) k = (let σ_10 : St := su σ1 16 ((((σ 7 11) * (3 : Int32)) + (nI k)).toNatClampNeg) x5; sp_add_59 σ x1 x2 x3 x4 x5 σ_10 n (k + 1)) := rfl
def sp_add (σ : St) (x1 : Int32) (x2 : Int32) (x3 : Int32) (x4 : Int32) (x5 : Int32) : Int32 × St := let σ_1 : St := su σ 8 ((σ 7 11).toNatClampNeg) x1; let σ_2 : St := su σ_1 9 ((σ 7 11).toNatClampNeg) x2; let σ_3 : St := su σ_2 10 ((σ 7 11).toNatClampNeg) x3; let σ_4 : St := su σ_3 11 ((σ 7 11).toNatClampNeg) x4; let σ_5 : St := su σ_4 12 ((σ 7 11).toNatClampNeg) x5; let σ_6 : St := su σ_5 13 ((σ 7 11).toNatClampNeg) (-1 : Int32); sp_add_59 σ x1 x2 x3 x4 x5 σ_6 3 0
def sp_countUse_2 (σ : St) (x1 : Int32) (x2 : Int32) : St → Nat → Nat → St
  | σ1, 0, k => σ1
  | σ1, n + 1, k => if (σ1 16 ((x1 * (3 : Int32)) + (nI k)).toNatClampNeg) = x2 then (sp_countUse_2 σ x1 x2 σ1 n (k + 1)) else (let σ_4 : St := su σ1 17 (((x1 * (3 : Int32)) + (nI k)).toNatClampNeg) ((σ1 17 ((x1 * (3 : Int32)) + (nI k)).toNatClampNeg) + (1 : Int32)); sp_countUse_2 σ x1 x2 σ_4 n (k + 1))
theorem sp_countUse_2_0 (σ : St) (x1 : Int32) (x2 : Int32) (σ1 : St) (k : Nat) : sp_countUse_2 σ x1 x2 σ1 0 k = (σ1) := rfl
theorem sp_countUse_2_s (σ : St) (x1 : Int32) (x2 : Int32) (σ1 : St) (n k : Nat) : sp_countUse_2 σ x1 x2 σ1 (n + 1) k = (if (σ1 16 ((x1 * (3 : Int32)) + (nI k)).toNatClampNeg) = x2 then (sp_countUse_2 σ x1 x2 σ1 n (k + 1)) else (let σ_4 : St := su σ1 17 (((x1 * (3 : Int32)) + (nI k)).toNatClampNeg) ((σ1 17 ((x1 * (3 : Int32)) + (nI k)).toNatClampNeg) + (1 : Int32)); sp_countUse_2 σ x1 x2 σ_4 n (k + 1))) := rfl
def sp_countUse (σ : St) (x1 : Int32) (x2 : Int32) : St := sp_countUse_2 σ x1 x2 σ 3 0
def sp_enterGrade (σ : St) (x1 : Int32) (x2 : Int32) (x3 : Int32) (x4 : Int32) : Int32 × St := if (σ 16 ((x1 * (3 : Int32)) + x2).toNatClampNeg) = x4 then (let σ_7 : St := su σ 18 (((x1 * (3 : Int32)) + x2).toNatClampNeg) (if (σ 18 ((x1 * (3 : Int32)) + x2).toNatClampNeg) < x3 then x3 else (σ 18 ((x1 * (3 : Int32)) + x2).toNatClampNeg)); let σ_8 : St := su σ_7 16 (((x1 * (3 : Int32)) + x2).toNatClampNeg) x4; let σ_9 : St := su σ_8 17 (((x1 * (3 : Int32)) + x2).toNatClampNeg) (0 : Int32); if x3 = (2 : Int32) then (let σ_11 : St := su σ_9 13 x1.toNatClampNeg x4; (σ_11 18 ((x1 * (3 : Int32)) + x2).toNatClampNeg, σ_11)) else (σ_9 18 ((x1 * (3 : Int32)) + x2).toNatClampNeg, σ_9)) else (let σ_2 : St := su σ 18 (((x1 * (3 : Int32)) + x2).toNatClampNeg) x3; let σ_3 : St := su σ_2 16 (((x1 * (3 : Int32)) + x2).toNatClampNeg) x4; let σ_4 : St := su σ_3 17 (((x1 * (3 : Int32)) + x2).toNatClampNeg) (0 : Int32); if x3 = (2 : Int32) then (let σ_6 : St := su σ_4 13 x1.toNatClampNeg x4; (σ_6 18 ((x1 * (3 : Int32)) + x2).toNatClampNeg, σ_6)) else (σ_4 18 ((x1 * (3 : Int32)) + x2).toNatClampNeg, σ_4))
def sp_oldFrom (σ : St) (x1 : Int32) : Int32 := if (σ 2 (σ 8 x1.toNatClampNeg).toNatClampNeg) = 0 then (2147483647 : Int32) else ((σ 12 x1.toNatClampNeg) + (σ 2 (σ 8 x1.toNatClampNeg).toNatClampNeg))
def sp_dueFrom (σ : St) (x1 : Int32) (x2 : Int32) : Int32 := if (σ 4 (((σ 8 x1.toNatClampNeg) * (3 : Int32)) + x2).toNatClampNeg) ≤ 0 then (if (σ 3 (((σ 8 x1.toNatClampNeg) * (3 : Int32)) + x2).toNatClampNeg) = 0 then (2147483647 : Int32) else ((σ 16 ((x1 * (3 : Int32)) + x2).toNatClampNeg) + (σ 3 (((σ 8 x1.toNatClampNeg) * (3 : Int32)) + x2).toNatClampNeg))) else (if (σ 17 ((x1 * (3 : Int32)) + x2).toNatClampNeg) < (σ 4 (((σ 8 x1.toNatClampNeg) * (3 : Int32)) + x2).toNatClampNeg) then (if (σ 3 (((σ 8 x1.toNatClampNeg) * (3 : Int32)) + x2).toNatClampNeg) = 0 then (2147483647 : Int32) else ((σ 16 ((x1 * (3 : Int32)) + x2).toNatClampNeg) + (σ 3 (((σ 8 x1.toNatClampNeg) * (3 : Int32)) + x2).toNatClampNeg))) else (σ 0 5))
def sp_someTestDueFrom_5 (σ : St) (x1 : Int32) : Nat → Nat → Int32 → Int32
  | 0, k, x2 => x2
  | n + 1, k, x2 => sp_someTestDueFrom_5 σ x1 n (k + 1) (if (sp_dueFrom σ x1 (nI k)) < x2 then (sp_dueFrom σ x1 (nI k)) else x2)
theorem sp_someTestDueFrom_5_0 (σ : St) (x1 : Int32) (k : Nat) (x2 : Int32) : sp_someTestDueFrom_5 σ x1 0 k x2 = (x2) := rfl
theorem sp_someTestDueFrom_5_s (σ : St) (x1 : Int32) (n k : Nat) (x2 : Int32) : sp_someTestDueFrom_5 σ x1 (n + 1) k x2 = (sp_someTestDueFrom_5 σ x1 n (k + 1) (if (sp_dueFrom σ x1 (nI k)) < x2 then (sp_dueFrom σ x1 (nI k)) else x2)) := rfl
def sp_someTestDueFrom (σ : St) (x1 : Int32) : Int32 := sp_someTestDueFrom_5 σ x1 3 0 (2147483647 : Int32)
def sp_reasonBarred (σ : St) (x1 : Int32) : Int32 := if (sp_isScrapped σ x1) = 0 then (if (σ 25 (σ 10 x1.toNatClampNeg).toNatClampNeg) = 0 then (if (σ 0 5) < (sp_oldFrom σ x1) then (if (σ 0 5) < (sp_someTestDueFrom σ x1) then (if (sp_conditionOf σ x1) = (1 : Int32) then (5 : Int32) else (if (σ 15 x1.toNatClampNeg) = 0 then (0 : Int32) else (6 : Int32))) else (4 : Int32)) else (3 : Int32)) else (2 : Int32)) else (1 : Int32)
def sp_endOf (σ : St) (x1 : Int32) : Int32 := if (sp_isScrapped σ x1) = 0 then (if (if (sp_someTestDueFrom σ x1) < (sp_oldFrom σ x1) then (sp_someTestDueFrom σ x1) else (sp_oldFrom σ x1)) = (2147483647 : Int32) then (-1 : Int32) else (if (if (sp_someTestDueFrom σ x1) < (sp_oldFrom σ x1) then (sp_someTestDueFrom σ x1) else (sp_oldFrom σ x1)) < (σ 0 5) then (σ 0 5) else (if (sp_someTestDueFrom σ x1) < (sp_oldFrom σ x1) then (sp_someTestDueFrom σ x1) else (sp_oldFrom σ x1)))) else (-1 : Int32)
def sp_countEndingBefore_4 (σ : St) (x1 : Int32) : Nat → Nat → Int32 → Int32
  | 0, k, x2 => x2
  | n + 1, k, x2 => if (σ 26 x1.toNatClampNeg) ≤ (σ 26 (nI k).toNatClampNeg) then (if (σ 26 (nI k).toNatClampNeg) = (σ 26 x1.toNatClampNeg) then (if x1 ≤ (nI k) then (if (σ 26 (nI k).toNatClampNeg) = (-1 : Int32) then (sp_countEndingBefore_4 σ x1 n (k + 1) x2) else (sp_countEndingBefore_4 σ x1 n (k + 1) x2)) else (if (σ 26 (nI k).toNatClampNeg) = (-1 : Int32) then (sp_countEndingBefore_4 σ x1 n (k + 1) x2) else (sp_countEndingBefore_4 σ x1 n (k + 1) (x2 + (1 : Int32))))) else (if (σ 26 (nI k).toNatClampNeg) = (-1 : Int32) then (sp_countEndingBefore_4 σ x1 n (k + 1) x2) else (sp_countEndingBefore_4 σ x1 n (k + 1) x2))) else (if (σ 26 (nI k).toNatClampNeg) = (σ 26 x1.toNatClampNeg) then (if x1 ≤ (nI k) then (if (σ 26 (nI k).toNatClampNeg) = (-1 : Int32) then (sp_countEndingBefore_4 σ x1 n (k + 1) x2) else (sp_countEndingBefore_4 σ x1 n (k + 1) (x2 + (1 : Int32)))) else (if (σ 26 (nI k).toNatClampNeg) = (-1 : Int32) then (sp_countEndingBefore_4 σ x1 n (k + 1) x2) else (sp_countEndingBefore_4 σ x1 n (k + 1) (x2 + (1 : Int32))))) else (if (σ 26 (nI k).toNatClampNeg) = (-1 : Int32) then (sp_countEndingBefore_4 σ x1 n (k + 1) x2) else (sp_countEndingBefore_4 σ x1 n (k + 1) (x2 + (1 : Int32)))))
theorem sp_countEndingBefore_4_0 (σ : St) (x1 : Int32) (k : Nat) (x2 : Int32) : sp_countEndingBefore_4 σ x1 0 k x2 = (x2) := rfl
theorem sp_countEndingBefore_4_s (σ : St) (x1 : Int32) (n k : Nat) (x2 : Int32) : sp_countEndingBefore_4 σ x1 (n + 1) k x2 = (if (σ 26 x1.toNatClampNeg) ≤ (σ 26 (nI k).toNatClampNeg) then (if (σ 26 (nI k).toNatClampNeg) = (σ 26 x1.toNatClampNeg) then (if x1 ≤ (nI k) then (if (σ 26 (nI k).toNatClampNeg) = (-1 : Int32) then (sp_countEndingBefore_4 σ x1 n (k + 1) x2) else (sp_countEndingBefore_4 σ x1 n (k + 1) x2)) else (if (σ 26 (nI k).toNatClampNeg) = (-1 : Int32) then (sp_countEndingBefore_4 σ x1 n (k + 1) x2) else (sp_countEndingBefore_4 σ x1 n (k + 1) (x2 + (1 : Int32))))) else (if (σ 26 (nI k).toNatClampNeg) = (-1 : Int32) then (sp_countEndingBefore_4 σ x1 n (k + 1) x2) else (sp_countEndingBefore_4 σ x1 n (k + 1) x2))) else (if (σ 26 (nI k).toNatClampNeg) = (σ 26 x1.toNatClampNeg) then (if x1 ≤ (nI k) then (if (σ 26 (nI k).toNatClampNeg) = (-1 : Int32) then (sp_countEndingBefore_4 σ x1 n (k + 1) x2) else (sp_countEndingBefore_4 σ x1 n (k + 1) (x2 + (1 : Int32)))) else (if (σ 26 (nI k).toNatClampNeg) = (-1 : Int32) then (sp_countEndingBefore_4 σ x1 n (k + 1) x2) else (sp_countEndingBefore_4 σ x1 n (k + 1) (x2 + (1 : Int32))))) else (if (σ 26 (nI k).toNatClampNeg) = (-1 : Int32) then (sp_countEndingBefore_4 σ x1 n (k + 1) x2) else (sp_countEndingBefore_4 σ x1 n (k + 1) (x2 + (1 : Int32)))))) := rfl
def sp_countEndingBefore (σ : St) (x1 : Int32) : Int32 := sp_countEndingBefore_4 σ x1 (cntN σ) 0 (0 : Int32)
def sp_fillEndRow_2 (σ : St) (x1 : Int32) (x2 : Int32) : St → Nat → Nat → St
  | σ1, 0, k => σ1
  | σ1, n + 1, k => if (σ1 11 (nI k).toNatClampNeg) = x1 then (if x2 < (sp_endOf σ1 (nI k)) then (let σ_10 : St := su σ1 26 ((nI k).toNatClampNeg) (-1 : Int32); sp_fillEndRow_2 σ x1 x2 σ_10 n (k + 1)) else (let σ_12 : St := su σ1 26 ((nI k).toNatClampNeg) (sp_endOf σ1 (nI k)); sp_fillEndRow_2 σ x1 x2 σ_12 n (k + 1))) else (if x2 < (-1 : Int32) then (let σ_5 : St := su σ1 26 ((nI k).toNatClampNeg) (-1 : Int32); sp_fillEndRow_2 σ x1 x2 σ_5 n (k + 1)) else (let σ_7 : St := su σ1 26 ((nI k).toNatClampNeg) (-1 : Int32); sp_fillEndRow_2 σ x1 x2 σ_7 n (k + 1)))
theorem sp_fillEndRow_2_0 (σ : St) (x1 : Int32) (x2 : Int32) (σ1 : St) (k : Nat) : sp_fillEndRow_2 σ x1 x2 σ1 0 k = (σ1) := rfl
theorem sp_fillEndRow_2_s (σ : St) (x1 : Int32) (x2 : Int32) (σ1 : St) (n k : Nat) : sp_fillEndRow_2 σ x1 x2 σ1 (n + 1) k = (if (σ1 11 (nI k).toNatClampNeg) = x1 then (if x2 < (sp_endOf σ1 (nI k)) then (let σ_10 : St := su σ1 26 ((nI k).toNatClampNeg) (-1 : Int32); sp_fillEndRow_2 σ x1 x2 σ_10 n (k + 1)) else (let σ_12 : St := su σ1 26 ((nI k).toNatClampNeg) (sp_endOf σ1 (nI k)); sp_fillEndRow_2 σ x1 x2 σ_12 n (k + 1))) else (if x2 < (-1 : Int32) then (let σ_5 : St := su σ1 26 ((nI k).toNatClampNeg) (-1 : Int32); sp_fillEndRow_2 σ x1 x2 σ_5 n (k + 1)) else (let σ_7 : St := su σ1 26 ((nI k).toNatClampNeg) (-1 : Int32); sp_fillEndRow_2 σ x1 x2 σ_7 n (k + 1)))) := rfl
def sp_fillEndRow (σ : St) (x1 : Int32) (x2 : Int32) : St := sp_fillEndRow_2 σ x1 x2 σ (cntN σ) 0
def sp_keepTried_7 (σ : St) (x1 : Int32) : St → Nat → Nat → St
  | σ1, 0, k => σ1
  | σ1, n + 1, k => let σ_4 : St := su σ1 23 ((nI k).toNatClampNeg) (σ1 22 (nI k).toNatClampNeg); sp_keepTried_7 σ x1 σ_4 n (k + 1)
theorem sp_keepTried_7_0 (σ : St) (x1 : Int32) (σ1 : St) (k : Nat) : sp_keepTried_7 σ x1 σ1 0 k = (σ1) := rfl
theorem sp_keepTried_7_s (σ : St) (x1 : Int32) (σ1 : St) (n k : Nat) : sp_keepTried_7 σ x1 σ1 (n + 1) k = (let σ_4 : St := su σ1 23 ((nI k).toNatClampNeg) (σ1 22 (nI k).toNatClampNeg); sp_keepTried_7 σ x1 σ_4 n (k + 1)) := rfl
def sp_keepTried (σ : St) (x1 : Int32) : St := let σ_1 : St := su σ 19 6 x1; sp_keepTried_7 σ x1 σ_1 (plnN σ) 0
def sp_putFrom_25 (rc : St → Int32 → Int32 → St) (x1 : Int32) (x2 : Int32) : St → Nat → Nat → St
  | σ1, 0, k => σ1
  | σ1, n + 1, k => if (σ1 21 x1.toNatClampNeg) < (nI k) then σ1 else (let σ_5 : St := su σ1 22 x1.toNatClampNeg (nI k); let σ_7 : St := su σ_5 24 ((nI k).toNatClampNeg) ((σ_5 24 (nI k).toNatClampNeg) + (σ_5 20 x1.toNatClampNeg)); let σ_10 : St := su (rc σ_7 (x1 + (1 : Int32)) (if x2 < (σ_7 24 (nI k).toNatClampNeg) then (σ_7 24 (nI k).toNatClampNeg) else x2)) 24 ((nI k).toNatClampNeg) (((rc σ_7 (x1 + (1 : Int32)) (if x2 < (σ_7 24 (nI k).toNatClampNeg) then (σ_7 24 (nI k).toNatClampNeg) else x2)) 24 (nI k).toNatClampNeg) - ((rc σ_7 (x1 + (1 : Int32)) (if x2 < (σ_7 24 (nI k).toNatClampNeg) then (σ_7 24 (nI k).toNatClampNeg) else x2)) 20 x1.toNatClampNeg)); sp_putFrom_25 rc x1 x2 σ_10 n (k + 1))
theorem sp_putFrom_25_0 (rc : St → Int32 → Int32 → St) (x1 : Int32) (x2 : Int32) (σ1 : St) (k : Nat) : sp_putFrom_25 rc x1 x2 σ1 0 k = (σ1) := rfl
theorem sp_putFrom_25_s (rc : St → Int32 → Int32 → St) (x1 : Int32) (x2 : Int32) (σ1 : St) (n k : Nat) : sp_putFrom_25 rc x1 x2 σ1 (n + 1) k = (if (σ1 21 x1.toNatClampNeg) < (nI k) then σ1 else (let σ_5 : St := su σ1 22 x1.toNatClampNeg (nI k); let σ_7 : St := su σ_5 24 ((nI k).toNatClampNeg) ((σ_5 24 (nI k).toNatClampNeg) + (σ_5 20 x1.toNatClampNeg)); let σ_10 : St := su (rc σ_7 (x1 + (1 : Int32)) (if x2 < (σ_7 24 (nI k).toNatClampNeg) then (σ_7 24 (nI k).toNatClampNeg) else x2)) 24 ((nI k).toNatClampNeg) (((rc σ_7 (x1 + (1 : Int32)) (if x2 < (σ_7 24 (nI k).toNatClampNeg) then (σ_7 24 (nI k).toNatClampNeg) else x2)) 24 (nI k).toNatClampNeg) - ((rc σ_7 (x1 + (1 : Int32)) (if x2 < (σ_7 24 (nI k).toNatClampNeg) then (σ_7 24 (nI k).toNatClampNeg) else x2)) 20 x1.toNatClampNeg)); sp_putFrom_25 rc x1 x2 σ_10 n (k + 1))) := rfl
def sp_putFrom : Nat → St → Int32 → Int32 → St
  | 0, σ, x1, x2 => if x2 < (σ 19 6) then (sp_keepTried σ x2) else σ
  | D + 1, σ, x1, x2 => if x2 < (σ 19 6) then (if x1 < (σ 19 5) then (sp_putFrom_25 (sp_putFrom D) x1 x2 σ 5 0) else (sp_keepTried σ x2)) else σ
theorem sp_putFrom_0 (σ : St) (x1 x2 : Int32) : sp_putFrom 0 σ x1 x2 = (if x2 < (σ 19 6) then (sp_keepTried σ x2) else σ) := rfl
theorem sp_putFrom_s (D : Nat) (σ : St) (x1 x2 : Int32) : sp_putFrom (D + 1) σ x1 x2 = (if x2 < (σ 19 6) then (if x1 < (σ 19 5) then (sp_putFrom_25 (sp_putFrom D) x1 x2 σ 5 0) else (sp_keepTried σ x2)) else σ) := rfl
def sp_make_3 (σ : St) (x1 : Int64) (x3 : Int32) (x4 : Int32) (x5 : Int32) : St → Nat → Nat → Int32 × St
  | σ1, 0, k => let σ_2 : St := su σ1 19 5 x4; let σ_4 : St := su σ_2 19 6 (2147483647 : Int32); ((sp_putFrom 6 σ_4 (0 : Int32) (0 : Int32)) 19 6, sp_putFrom 6 σ_4 (0 : Int32) (0 : Int32))
  | σ1, n + 1, k => let σ_7 : St := su σ1 20 ((nI k).toNatClampNeg) ((((x1.toUInt64 >>> (((8 : Int32) * (nI k)).toInt64.toUInt64 &&& Int64.toUInt64 63)).toInt64).toInt32) &&& (255 : Int32)); let σ_9 : St := su σ_7 21 ((nI k).toNatClampNeg) (if (x5 - (1 : Int32)) < (((x3.toUInt32 >>> (((2 : Int32) * (nI k)).toUInt32 &&& Int32.toUInt32 31)).toInt32) &&& (3 : Int32)) then (x5 - (1 : Int32)) else (((x3.toUInt32 >>> (((2 : Int32) * (nI k)).toUInt32 &&& Int32.toUInt32 31)).toInt32) &&& (3 : Int32))); sp_make_3 σ x1 x3 x4 x5 σ_9 n (k + 1)
theorem sp_make_3_0 (σ : St) (x1 : Int64) (x3 : Int32) (x4 : Int32) (x5 : Int32) (σ1 : St) (k : Nat) : sp_make_3 σ x1 x3 x4 x5 σ1 0 k = (let σ_2 : St := su σ1 19 5 x4; let σ_4 : St := su σ_2 19 6 (2147483647 : Int32); ((sp_putFrom 6 σ_4 (0 : Int32) (0 : Int32)) 19 6, sp_putFrom 6 σ_4 (0 : Int32) (0 : Int32))) := rfl
theorem sp_make_3_s (σ : St) (x1 : Int64) (x3 : Int32) (x4 : Int32) (x5 : Int32) (σ1 : St) (n k : Nat) : sp_make_3 σ x1 x3 x4 x5 σ1 (n + 1) k = (let σ_7 : St := su σ1 20 ((nI k).toNatClampNeg) ((((x1.toUInt64 >>> (((8 : Int32) * (nI k)).toInt64.toUInt64 &&& Int64.toUInt64 63)).toInt64).toInt32) &&& (255 : Int32)); let σ_9 : St := su σ_7 21 ((nI k).toNatClampNeg) (if (x5 - (1 : Int32)) < (((x3.toUInt32 >>> (((2 : Int32) * (nI k)).toUInt32 &&& Int32.toUInt32 31)).toInt32) &&& (3 : Int32)) then (x5 - (1 : Int32)) else (((x3.toUInt32 >>> (((2 : Int32) * (nI k)).toUInt32 &&& Int32.toUInt32 31)).toInt32) &&& (3 : Int32))); sp_make_3 σ x1 x3 x4 x5 σ_9 n (k + 1)) := rfl
def sp_make (σ : St) (x1 : Int64) (x3 : Int32) (x4 : Int32) (x5 : Int32) : Int32 × St := sp_make_3 σ x1 x3 x4 x5 σ x4.toNatClampNeg 0
def sp_checkLetter_6 (x0 : Int32) : Nat → Nat → Int32 → Int32 → Int32
  | 0, k, x1, x2 => (65 : Int32) + (x2 - x2 / (23 : Int32) * (23 : Int32))
  | n + 1, k, x1, x2 => sp_checkLetter_6 x0 n (k + 1) (x1 / (10 : Int32)) (x2 + ((x1 - x1 / (10 : Int32) * (10 : Int32)) * (wtF (nI k).toNatClampNeg)))
theorem sp_checkLetter_6_0 (x0 : Int32) (k : Nat) (x1 : Int32) (x2 : Int32) : sp_checkLetter_6 x0 0 k x1 x2 = ((65 : Int32) + (x2 - x2 / (23 : Int32) * (23 : Int32))) := rfl
theorem sp_checkLetter_6_s (x0 : Int32) (n k : Nat) (x1 : Int32) (x2 : Int32) : sp_checkLetter_6 x0 (n + 1) k x1 x2 = (sp_checkLetter_6 x0 n (k + 1) (x1 / (10 : Int32)) (x2 + ((x1 - x1 / (10 : Int32) * (10 : Int32)) * (wtF (nI k).toNatClampNeg)))) := rfl
def sp_checkLetter (x0 : Int32) : Int32 := sp_checkLetter_6 x0 6 0 x0 (0 : Int32)
def sp_commonDivisor_2 (x0 : Int32) (x1 : Int32) : Nat → Int32
  | 0 => (1 : Int32)
  | n + 1 => if (x1 - x1 / (nI (n + 1 + 1)) * (nI (n + 1 + 1))) = 0 then (if (x0 - x0 / (nI (n + 1 + 1)) * (nI (n + 1 + 1))) = 0 then (nI (n + 1 + 1)) else (sp_commonDivisor_2 x0 x1 n)) else (sp_commonDivisor_2 x0 x1 n)
theorem sp_commonDivisor_2_0 (x0 : Int32) (x1 : Int32) : sp_commonDivisor_2 x0 x1 0 = ((1 : Int32)) := rfl
theorem sp_commonDivisor_2_s (x0 : Int32) (x1 : Int32) (n : Nat) : sp_commonDivisor_2 x0 x1 (n + 1) = (if (x1 - x1 / (nI (n + 1 + 1)) * (nI (n + 1 + 1))) = 0 then (if (x0 - x0 / (nI (n + 1 + 1)) * (nI (n + 1 + 1))) = 0 then (nI (n + 1 + 1)) else (sp_commonDivisor_2 x0 x1 n)) else (sp_commonDivisor_2 x0 x1 n)) := rfl
def sp_commonDivisor (x0 : Int32) (x1 : Int32) : Int32 := sp_commonDivisor_2 x0 x1 (x1.toNatClampNeg - 1)
def sp_day (σ : St) (x1 : Int32) : Except String (Int32 × St) := if okRange x1 (σ 0 5) (99999 : Int32) = true then (let σ_2 : St := su σ 0 5 x1; .ok (0, σ_2)) else .error "java/lang/IndexOutOfBoundsException"
def sp_age (σ : St) (x1 : Int32) (x2 : Int32) : Except String (Int32 × St) := if okKnown x1 (5 : Int32) = true then (if okRange x2 (0 : Int32) (20000 : Int32) = true then (let σ_4 : St := su σ 2 x1.toNatClampNeg x2; .ok (0, σ_4)) else .error "java/lang/IndexOutOfBoundsException") else .error "java/lang/IllegalArgumentException"
def sp_test (σ : St) (x1 : Int32) (x2 : Int32) (x3 : Int32) (x4 : Int32) : Except String (Int32 × St) := if okKnown x1 (5 : Int32) = true then (if okKnown x2 (3 : Int32) = true then (if okRange x3 (0 : Int32) (5000 : Int32) = true then (if okRange x4 (0 : Int32) (1000 : Int32) = true then (let σ_7 : St := su σ 3 (((x1 * (3 : Int32)) + x2).toNatClampNeg) x3; let σ_9 : St := su σ_7 4 (((x1 * (3 : Int32)) + x2).toNatClampNeg) x4; .ok (0, σ_9)) else .error "java/lang/IndexOutOfBoundsException") else .error "java/lang/IndexOutOfBoundsException") else .error "java/lang/IllegalArgumentException") else .error "java/lang/IllegalArgumentException"
def sp_bounds (σ : St) (x1 : Int32) (x2 : Int32) (x3 : Int32) (x4 : Int32) : Except String (Int32 × St) := if okKnown x1 (5 : Int32) = true then (if okKnown x2 (3 : Int32) = true then (if okRange x4 (0 : Int32) (10000 : Int32) = true then (if okRange x3 (0 : Int32) x4 = true then (let σ_7 : St := su σ 5 (((x1 * (3 : Int32)) + x2).toNatClampNeg) x3; let σ_9 : St := su σ_7 6 (((x1 * (3 : Int32)) + x2).toNatClampNeg) x4; .ok (0, σ_9)) else .error "java/lang/IndexOutOfBoundsException") else .error "java/lang/IndexOutOfBoundsException") else .error "java/lang/IllegalArgumentException") else .error "java/lang/IllegalArgumentException"
def sp_thing (σ : St) (x1 : Int32) (x2 : Int32) (x3 : Int32) (x4 : Int32) (x5 : Int32) (x6 : Int32) : Except String (Int32 × St) := if okKnown x1 (5 : Int32) = true then (if okKnown x4 (10 : Int32) = true then (if okKnown x5 (20 : Int32) = true then (if okRange x2 (0 : Int32) (999999 : Int32) = true then (if okRange x6 (0 : Int32) (σ 0 5) = true then (if x3 = (sp_checkLetter x2) then (if (sp_hasSerial σ x2) = 0 then (if (σ 7 11) < (40 : Int32) then (.ok ((sp_add σ x1 x2 x4 x5 x6).1, (sp_add σ x1 x2 x4 x5 x6).2)) else (.error "java/lang/UnsupportedOperationException")) else (.error "java/lang/IllegalStateException")) else (.error "java/lang/IllegalStateException")) else .error "java/lang/IndexOutOfBoundsException") else .error "java/lang/IndexOutOfBoundsException") else .error "java/lang/IllegalArgumentException") else .error "java/lang/IllegalArgumentException") else .error "java/lang/IllegalArgumentException"
def sp_letter (σ : St) (x1 : Int32) : Except String (Int32 × St) := if okRange x1 (0 : Int32) (999999 : Int32) = true then (.ok (sp_checkLetter x1, σ)) else .error "java/lang/IndexOutOfBoundsException"
def sp_use (σ : St) (x1 : Int32) : Except String (Int32 × St) := if okKnown x1 (σ 7 11) = true then (if (sp_reasonBarred σ x1) = 0 then (.ok (0, sp_countUse σ x1 (σ 0 5))) else (.error "java/lang/IllegalStateException")) else .error "java/lang/IllegalArgumentException"
def sp_wash (σ : St) (x1 : Int32) (x2 : Int32) : Except String (Int32 × St) := if okKnown x1 (σ 7 11) = true then (if (sp_isScrapped σ x1) = 0 then (if (σ 15 x1.toNatClampNeg) = x2 then (if x2 = 0 then (let σ_15 : St := su σ 15 x1.toNatClampNeg (vp_nar .boolean (1 : Int32)); if x2 = 0 then (let σ_18 : St := su σ_15 14 x1.toNatClampNeg ((σ_15 14 x1.toNatClampNeg) + (1 : Int32)); .ok (σ_18 14 x1.toNatClampNeg, σ_18)) else (.ok (σ_15 14 x1.toNatClampNeg, σ_15))) else (let σ_10 : St := su σ 15 x1.toNatClampNeg (vp_nar .boolean (0 : Int32)); if x2 = 0 then (let σ_13 : St := su σ_10 14 x1.toNatClampNeg ((σ_10 14 x1.toNatClampNeg) + (1 : Int32)); .ok (σ_13 14 x1.toNatClampNeg, σ_13)) else (.ok (σ_10 14 x1.toNatClampNeg, σ_10)))) else (.error "java/lang/IllegalStateException")) else (.error "java/lang/IllegalStateException")) else .error "java/lang/IllegalArgumentException"
def sp_result (σ : St) (x1 : Int32) (x2 : Int32) (x3 : Int32) : Except String (Int32 × St) := if okKnown x1 (σ 7 11) = true then (if okKnown x2 (3 : Int32) = true then (if okRange x3 (0 : Int32) (10000 : Int32) = true then (if (sp_isScrapped σ x1) = 0 then (.ok ((sp_enterGrade σ x1 x2 (sp_gradeOf σ (σ 8 x1.toNatClampNeg) x2 x3) (σ 0 5)).1, (sp_enterGrade σ x1 x2 (sp_gradeOf σ (σ 8 x1.toNatClampNeg) x2 x3) (σ 0 5)).2)) else (.error "java/lang/IllegalStateException")) else .error "java/lang/IndexOutOfBoundsException") else .error "java/lang/IllegalArgumentException") else .error "java/lang/IllegalArgumentException"
def sp_load (σ : St) (x1 : Int32) (x2 : Int32) : Except String (Int32 × St) := if okKnown x1 (σ 7 11) = true then (if okKnown x2 (20 : Int32) = true then (if (sp_reasonBarred σ x1) = 0 then (let σ_8 : St := su σ 11 x1.toNatClampNeg x2; .ok (0, σ_8)) else (.error "java/lang/IllegalStateException")) else .error "java/lang/IllegalArgumentException") else .error "java/lang/IllegalArgumentException"
def sp_recall (σ : St) (x1 : Int32) (x2 : Int32) : Except String (Int32 × St) := if okKnown x1 (10 : Int32) = true then (if (σ 25 x1.toNatClampNeg) = x2 then (.error "java/lang/IllegalStateException") else (let σ_6 : St := su σ 25 x1.toNatClampNeg (vp_nar .boolean x2); .ok (sp_countLeftOf σ_6 x1, σ_6))) else .error "java/lang/IllegalArgumentException"
def sp_recalled (σ : St) (x1 : Int32) (x2 : Int32) : Except String (Int32 × St) := if okKnown x1 (10 : Int32) = true then (if okRange x2 (0 : Int32) (2147483647 : Int32) = true then (if (sp_findLeftOf σ x1 x2) = (-1 : Int32) then (.ok ((-1 : Int32), σ)) else (.ok (((100 : Int32) * (sp_findLeftOf σ x1 x2)) + (σ 11 (sp_findLeftOf σ x1 x2).toNatClampNeg), σ))) else .error "java/lang/IndexOutOfBoundsException") else .error "java/lang/IllegalArgumentException"
def sp_barred (σ : St) (x1 : Int32) : Except String (Int32 × St) := if okKnown x1 (σ 7 11) = true then (.ok (sp_reasonBarred σ x1, σ)) else .error "java/lang/IllegalArgumentException"
def sp_ends (σ : St) (x1 : Int32) : Except String (Int32 × St) := if okKnown x1 (σ 7 11) = true then (.ok (sp_endOf σ x1, σ)) else .error "java/lang/IllegalArgumentException"
def sp_soon_35 (σ : St) (x1 : Int32) (x2 : Int32) (x3 : Int32) : St → Nat → Nat → Except String (Int32 × St)
  | σ1, 0, k => .ok ((-1 : Int32), σ1)
  | σ1, n + 1, k => if (σ1 26 (nI k).toNatClampNeg) = (-1 : Int32) then (sp_soon_35 σ x1 x2 x3 σ1 n (k + 1)) else (if (sp_countEndingBefore σ1 (nI k)) = x3 then (.ok (nI k, σ1)) else (sp_soon_35 σ x1 x2 x3 σ1 n (k + 1)))
theorem sp_soon_35_0 (σ : St) (x1 : Int32) (x2 : Int32) (x3 : Int32) (σ1 : St) (k : Nat) : sp_soon_35 σ x1 x2 x3 σ1 0 k = (.ok ((-1 : Int32), σ1)) := rfl
theorem sp_soon_35_s (σ : St) (x1 : Int32) (x2 : Int32) (x3 : Int32) (σ1 : St) (n k : Nat) : sp_soon_35 σ x1 x2 x3 σ1 (n + 1) k = (if (σ1 26 (nI k).toNatClampNeg) = (-1 : Int32) then (sp_soon_35 σ x1 x2 x3 σ1 n (k + 1)) else (if (sp_countEndingBefore σ1 (nI k)) = x3 then (.ok (nI k, σ1)) else (sp_soon_35 σ x1 x2 x3 σ1 n (k + 1)))) := rfl
def sp_soon (σ : St) (x1 : Int32) (x2 : Int32) (x3 : Int32) : Except String (Int32 × St) := if okKnown x1 (20 : Int32) = true then (if okRange x2 (0 : Int32) (30000 : Int32) = true then (if okRange x3 (0 : Int32) (2147483647 : Int32) = true then (sp_soon_35 σ x1 x2 x3 (sp_fillEndRow σ x1 ((σ 0 5) + x2)) (cntN σ) 0) else .error "java/lang/IndexOutOfBoundsException") else .error "java/lang/IndexOutOfBoundsException") else .error "java/lang/IllegalArgumentException"
def sp_thingAt (σ : St) (x1 : Int32) (x2 : Int32) : Except String (Int32 × St) := if okKnown x1 (σ 7 11) = true then (if x2 = (0 : Int32) then (.ok (sp_conditionOf σ x1, σ)) else (if x2 = (1 : Int32) then (.ok (σ 11 x1.toNatClampNeg, σ)) else (if x2 = (2 : Int32) then (.ok (σ 14 x1.toNatClampNeg, σ)) else (if x2 = (3 : Int32) then (if (σ 15 x1.toNatClampNeg) = 0 then (.ok ((0 : Int32), σ)) else (.ok ((1 : Int32), σ))) else (if x2 = (4 : Int32) then (.ok (σ 17 (((x1 * (3 : Int32)) + x2) - (4 : Int32)).toNatClampNeg, σ)) else (if x2 = (5 : Int32) then (.ok (σ 17 (((x1 * (3 : Int32)) + x2) - (4 : Int32)).toNatClampNeg, σ)) else (if x2 = (6 : Int32) then (.ok (σ 17 (((x1 * (3 : Int32)) + x2) - (4 : Int32)).toNatClampNeg, σ)) else (if x2 = (7 : Int32) then (.ok (σ 16 (((x1 * (3 : Int32)) + x2) - (7 : Int32)).toNatClampNeg, σ)) else (if x2 = (8 : Int32) then (.ok (σ 16 (((x1 * (3 : Int32)) + x2) - (7 : Int32)).toNatClampNeg, σ)) else (if x2 = (9 : Int32) then (.ok (σ 16 (((x1 * (3 : Int32)) + x2) - (7 : Int32)).toNatClampNeg, σ)) else (if x2 = (10 : Int32) then (.ok (σ 13 x1.toNatClampNeg, σ)) else (.error "java/lang/IllegalArgumentException")))))))))))) else .error "java/lang/IllegalArgumentException"
def sp_life (σ : St) (x1 : Int32) (x2 : Int32) : Except String (Int32 × St) := if okKnown x1 (5 : Int32) = true then (if okKnown x2 (2 : Int32) = true then (if (sp_countScrapped σ x1) = 0 then (.error "java/lang/ArithmeticException") else (if x2 = 0 then (.ok ((sp_sumOfLives σ x1) / (sp_commonDivisor (sp_sumOfLives σ x1) (sp_countScrapped σ x1)), σ)) else (.ok ((sp_countScrapped σ x1) / (sp_commonDivisor (sp_sumOfLives σ x1) (sp_countScrapped σ x1)), σ)))) else .error "java/lang/IllegalArgumentException") else .error "java/lang/IllegalArgumentException"
def sp_plan (σ : St) (x1 : Int64) (x3 : Int32) (x4 : Int32) (x5 : Int32) : Except String (Int32 × St) := if okRange x4 (0 : Int32) (6 : Int32) = true then (if okRange x5 (1 : Int32) (4 : Int32) = true then (.ok ((sp_make σ x1 x3 x4 x5).1, (sp_make σ x1 x3 x4 x5).2)) else .error "java/lang/IndexOutOfBoundsException") else .error "java/lang/IndexOutOfBoundsException"
def sp_week (σ : St) (x1 : Int32) : Except String (Int32 × St) := if okKnown x1 (σ 19 5) = true then (.ok (σ 23 x1.toNatClampNeg, σ)) else .error "java/lang/IllegalArgumentException"
end
section
/-! pure rows behind the specs, that the walks need -/
theorem fl_in (σ : St) (x1 x2 : Int32) : ∀ (n k : Nat) (x3 : Int32), k + n ≤ 40 → sp_findLeftOf_5 σ x1 x2 n k x3 = (-1 : Int32) ∨ vp_in (sp_findLeftOf_5 σ x1 x2 n k x3) 40 := by
  intro n
  induction n with
  | zero => intro k x3 _; exact Or.inl rfl
  | succ n ih =>
    intro k x3 h
    rw [sp_findLeftOf_5_s]
    split
    · exact ih _ _ (by omega)
    · split
      · exact Or.inr (vp_in_nI (by omega) (by decide))
      · exact ih _ _ (by omega)
theorem find_in {σ : St} {x1 x2 : Int32} (h : IV σ) (c : ¬ sp_findLeftOf σ x1 x2 = (-1 : Int32)) : vp_in (sp_findLeftOf σ x1 x2) 40 := by
  have h1 := iv_le h
  rcases fl_in σ x1 x2 (cntN σ) 0 (0 : Int32) (by omega) with h2 | h2
  · exact absurd h2 c
  · exact h2
theorem cs_nI (σ : St) (x1 : Int32) : ∀ (n k j : Nat), ∃ c, c ≤ j + n ∧ sp_countScrapped_4 σ x1 n k (nI j) = nI c := by
  intro n
  induction n with
  | zero => intro k j; exact ⟨j, by omega, rfl⟩
  | succ n ih =>
    intro k j
    rw [sp_countScrapped_4_s]
    have h0 : ∃ c, c ≤ j + (n + 1) ∧ sp_countScrapped_4 σ x1 n (k + 1) (nI j) = nI c := by
      obtain ⟨c, h1, h2⟩ := ih (k + 1) j
      exact ⟨c, by omega, h2⟩
    split
    · split
      · exact h0
      · obtain ⟨c, h1, h2⟩ := ih (k + 1) (j + 1)
        refine ⟨c, by omega, ?_⟩
        rw [← h2, ← nI_1]
    · exact h0
theorem cs_dv {σ : St} {x1 : Int32} (h : IV σ) (c : ¬ sp_countScrapped σ x1 = 0) : ∃ dv, sp_countScrapped σ x1 = nI (dv + 1) ∧ dv < 1000 := by
  have h1 := iv_le h
  obtain ⟨j, h2, h3⟩ := cs_nI σ x1 (cntN σ) 0 0
  have h4 : sp_countScrapped σ x1 = nI j := h3
  cases j with
  | zero => exact absurd h4 c
  | succ j => exact ⟨j, h4, by omega⟩
theorem cd_ne0_2 (x0 x1 : Int32) : ∀ n, n < 1000 → ¬ sp_commonDivisor_2 x0 x1 n = 0 := by
  intro n
  induction n with
  | zero => intro _; rw [sp_commonDivisor_2_0]; decide
  | succ n ih =>
    intro h
    rw [sp_commonDivisor_2_s]
    split
    · split
      · exact nI_ne0 (by omega) (by omega)
      · exact ih (by omega)
    · exact ih (by omega)
theorem cd_ne0 {x0 x1 : Int32} {d : Nat} (hd : x1 = nI (d + 1)) (hd1 : d < 1000) : ¬ sp_commonDivisor x0 x1 = 0 := by
  unfold sp_commonDivisor
  rw [cd_n hd hd1]
  exact cd_ne0_2 x0 x1 d hd1
theorem iv_fill2 (σ : St) (x1 x2 : Int32) : ∀ (n k : Nat) (σ1 : St), IV σ1 → IV (sp_fillEndRow_2 σ x1 x2 σ1 n k) ∧ cntN (sp_fillEndRow_2 σ x1 x2 σ1 n k) = cntN σ1 := by
  intro n
  induction n with
  | zero => intro k σ1 h; exact ⟨h, rfl⟩
  | succ n ih =>
    intro k σ1 h
    rw [sp_fillEndRow_2_s]
    split
    · split
      · exact ih _ _ (iv_suq h (by decide))
      · exact ih _ _ (iv_suq h (by decide))
    · split
      · exact ih _ _ (iv_suq h (by decide))
      · exact ih _ _ (iv_suq h (by decide))
theorem iv_fill {σ : St} (h : IV σ) (x1 x2 : Int32) : IV (sp_fillEndRow σ x1 x2) := (iv_fill2 σ x1 x2 _ _ _ h).1
theorem cnt_fill {σ : St} (h : IV σ) (x1 x2 : Int32) : cntN (sp_fillEndRow σ x1 x2) = cntN σ := (iv_fill2 σ x1 x2 _ _ _ h).2
theorem kt_keep (σ : St) (x1 : Int32) {q j : Nat} (hq : q ≠ 23) : ∀ (n k : Nat) (σ1 : St), sp_keepTried_7 σ x1 σ1 n k q j = σ1 q j := by
  intro n
  induction n with
  | zero => intro k σ1; rfl
  | succ n ih =>
    intro k σ1
    rw [sp_keepTried_7_s, ih, su_nq _ _ hq]
theorem pl_keep (rc : St → Int32 → Int32 → St) (x1 x2 : Int32) {q j : Nat} (hrc : ∀ σ x y, rc σ x y q j = σ q j) (h22 : q ≠ 22) (h24 : q ≠ 24) : ∀ (n k : Nat) (σ1 : St), sp_putFrom_25 rc x1 x2 σ1 n k q j = σ1 q j := by
  intro n
  induction n with
  | zero => intro k σ1; rfl
  | succ n ih =>
    intro k σ1
    rw [sp_putFrom_25_s]
    split
    · rfl
    · rw [ih, su_nq _ _ h24, hrc, su_nq _ _ h24, su_nq _ _ h22]
theorem pf_keep {q j : Nat} (h22 : q ≠ 22) (h23 : q ≠ 23) (h24 : q ≠ 24) (h6 : ¬ (q = 19 ∧ j = 6)) : ∀ (D : Nat) (σ : St) (x1 x2 : Int32), sp_putFrom D σ x1 x2 q j = σ q j := by
  have hk : ∀ (σ : St) (x2 : Int32), sp_keepTried σ x2 q j = σ q j := by
    intro σ x2
    unfold sp_keepTried
    rw [kt_keep _ _ h23, su_ne _ _ h6]
  intro D
  induction D with
  | zero =>
    intro σ x1 x2
    rw [sp_putFrom_0]
    split
    · exact hk σ x2
    · rfl
  | succ D ih =>
    intro σ x1 x2
    rw [sp_putFrom_s]
    split
    · split
      · exact pl_keep _ _ _ ih h22 h24 _ _ _
      · exact hk σ x2
    · rfl
theorem pf_pln (D : Nat) (σ : St) (x1 x2 : Int32) : plnN (sp_putFrom D σ x1 x2) = plnN σ := by
  unfold plnN
  rw [pf_keep (by decide) (by decide) (by decide) (by decide)]
theorem iv_pf {σ : St} (h : IV σ) (D : Nat) (x1 x2 : Int32) : IV (sp_putFrom D σ x1 x2) := by
  have h1 := h
  unfold IV cntN plnN at h1 ⊢
  rw [pf_keep (q := 7) (j := 11) (by decide) (by decide) (by decide) (by decide), pf_keep (q := 19) (j := 5) (by decide) (by decide) (by decide) (by decide)]
  refine ⟨h1.1, h1.2.1, fun j hj => ?_, fun j hj => ?_, h1.2.2.2.2.1, h1.2.2.2.2.2.1, fun j hj => ?_⟩
  · rw [pf_keep (by decide) (by decide) (by decide) (fun q => absurd q.1 (by decide))]; exact h1.2.2.1 j hj
  · rw [pf_keep (by decide) (by decide) (by decide) (fun q => absurd q.1 (by decide))]; exact h1.2.2.2.1 j hj
  · rw [pf_keep (by decide) (by decide) (by decide) (fun q => absurd q.1 (by decide))]; exact h1.2.2.2.2.2.2 j hj
end
section
set_option maxRecDepth 20000 in
theorem at_155 : ∀ w ∈ (vx_atS "HoseTests" 155 "java/lang/IllegalArgumentException" ["java/lang/RuntimeException", "java/lang/Exception"]).filter goodWord, w ∈ bigW := fun w h => List.mem_filter.mpr ⟨(by decide +kernel : ∀ w ∈ (vx_atS "HoseTests" 155 "java/lang/IllegalArgumentException" ["java/lang/RuntimeException", "java/lang/Exception"]).filter goodWord, w ∈ lw_tbl) w h, (List.mem_filter.mp h).2⟩
set_option maxRecDepth 20000 in
theorem ab_155 : ∀ w ∈ (vx_atS "HoseTests" 155 "java/lang/IllegalArgumentException" ["java/lang/RuntimeException", "java/lang/Exception"]).filter (fun w => !goodWord w), w ∈ ([.castable "java/lang/IllegalArgumentException" "java/lang/IllegalArgumentException", .declares ⟨"java/lang/RuntimeException", "<init>", "(Ljava/lang/String;)V"⟩, .declares ⟨"java/lang/Exception", "<init>", "(Ljava/lang/String;)V"⟩, .declares ⟨"java/lang/Throwable", "<init>", "(Ljava/lang/String;)V"⟩] : List Cond) := by decide +kernel
set_option maxRecDepth 20000 in
theorem go_151_155 : ∀ w ∈ Cond.classLink "HoseTests" 151 "java/lang/IllegalArgumentException" :: Cond.initialized "java/lang/IllegalArgumentException" :: vx_atS "HoseTests" 155 "java/lang/IllegalArgumentException" ["java/lang/RuntimeException", "java/lang/Exception"], vx_ot w = true := by decide +kernel
set_option maxRecDepth 20000 in
theorem at_186 : ∀ w ∈ (vx_atS "HoseTests" 186 "java/lang/IndexOutOfBoundsException" ["java/lang/RuntimeException", "java/lang/Exception"]).filter goodWord, w ∈ bigW := fun w h => List.mem_filter.mpr ⟨(by decide +kernel : ∀ w ∈ (vx_atS "HoseTests" 186 "java/lang/IndexOutOfBoundsException" ["java/lang/RuntimeException", "java/lang/Exception"]).filter goodWord, w ∈ lw_tbl) w h, (List.mem_filter.mp h).2⟩
set_option maxRecDepth 20000 in
theorem ab_186 : ∀ w ∈ (vx_atS "HoseTests" 186 "java/lang/IndexOutOfBoundsException" ["java/lang/RuntimeException", "java/lang/Exception"]).filter (fun w => !goodWord w), w ∈ ([.castable "java/lang/IndexOutOfBoundsException" "java/lang/IndexOutOfBoundsException", .declares ⟨"java/lang/RuntimeException", "<init>", "(Ljava/lang/String;)V"⟩, .declares ⟨"java/lang/Exception", "<init>", "(Ljava/lang/String;)V"⟩, .declares ⟨"java/lang/Throwable", "<init>", "(Ljava/lang/String;)V"⟩] : List Cond) := by decide +kernel
set_option maxRecDepth 20000 in
theorem go_182_186 : ∀ w ∈ Cond.classLink "HoseTests" 182 "java/lang/IndexOutOfBoundsException" :: Cond.initialized "java/lang/IndexOutOfBoundsException" :: vx_atS "HoseTests" 186 "java/lang/IndexOutOfBoundsException" ["java/lang/RuntimeException", "java/lang/Exception"], vx_ot w = true := by decide +kernel
set_option maxRecDepth 20000 in
theorem at_191 : ∀ w ∈ (vx_atS "HoseTests" 191 "java/lang/IllegalStateException" ["java/lang/RuntimeException", "java/lang/Exception"]).filter goodWord, w ∈ bigW := fun w h => List.mem_filter.mpr ⟨(by decide +kernel : ∀ w ∈ (vx_atS "HoseTests" 191 "java/lang/IllegalStateException" ["java/lang/RuntimeException", "java/lang/Exception"]).filter goodWord, w ∈ lw_tbl) w h, (List.mem_filter.mp h).2⟩
set_option maxRecDepth 20000 in
theorem ab_191 : ∀ w ∈ (vx_atS "HoseTests" 191 "java/lang/IllegalStateException" ["java/lang/RuntimeException", "java/lang/Exception"]).filter (fun w => !goodWord w), w ∈ ([.castable "java/lang/IllegalStateException" "java/lang/IllegalStateException", .declares ⟨"java/lang/RuntimeException", "<init>", "(Ljava/lang/String;)V"⟩, .declares ⟨"java/lang/Exception", "<init>", "(Ljava/lang/String;)V"⟩, .declares ⟨"java/lang/Throwable", "<init>", "(Ljava/lang/String;)V"⟩] : List Cond) := by decide +kernel
set_option maxRecDepth 20000 in
theorem go_187_191 : ∀ w ∈ Cond.classLink "HoseTests" 187 "java/lang/IllegalStateException" :: Cond.initialized "java/lang/IllegalStateException" :: vx_atS "HoseTests" 191 "java/lang/IllegalStateException" ["java/lang/RuntimeException", "java/lang/Exception"], vx_ot w = true := by decide +kernel
set_option maxRecDepth 20000 in
theorem at_86 : ∀ w ∈ (vx_atS "HoseTests" 86 "java/lang/UnsupportedOperationException" ["java/lang/RuntimeException", "java/lang/Exception"]).filter goodWord, w ∈ bigW := fun w h => List.mem_filter.mpr ⟨(by decide +kernel : ∀ w ∈ (vx_atS "HoseTests" 86 "java/lang/UnsupportedOperationException" ["java/lang/RuntimeException", "java/lang/Exception"]).filter goodWord, w ∈ lw_tbl) w h, (List.mem_filter.mp h).2⟩
set_option maxRecDepth 20000 in
theorem ab_86 : ∀ w ∈ (vx_atS "HoseTests" 86 "java/lang/UnsupportedOperationException" ["java/lang/RuntimeException", "java/lang/Exception"]).filter (fun w => !goodWord w), w ∈ ([.castable "java/lang/UnsupportedOperationException" "java/lang/UnsupportedOperationException", .declares ⟨"java/lang/RuntimeException", "<init>", "(Ljava/lang/String;)V"⟩, .declares ⟨"java/lang/Exception", "<init>", "(Ljava/lang/String;)V"⟩, .declares ⟨"java/lang/Throwable", "<init>", "(Ljava/lang/String;)V"⟩] : List Cond) := by decide +kernel
set_option maxRecDepth 20000 in
theorem go_82_86 : ∀ w ∈ Cond.classLink "HoseTests" 82 "java/lang/UnsupportedOperationException" :: Cond.initialized "java/lang/UnsupportedOperationException" :: vx_atS "HoseTests" 86 "java/lang/UnsupportedOperationException" ["java/lang/RuntimeException", "java/lang/Exception"], vx_ot w = true := by decide +kernel
set_option maxRecDepth 20000 in
theorem at_163 : ∀ w ∈ (vx_atS "HoseTests" 163 "java/lang/ArithmeticException" ["java/lang/RuntimeException", "java/lang/Exception"]).filter goodWord, w ∈ bigW := fun w h => List.mem_filter.mpr ⟨(by decide +kernel : ∀ w ∈ (vx_atS "HoseTests" 163 "java/lang/ArithmeticException" ["java/lang/RuntimeException", "java/lang/Exception"]).filter goodWord, w ∈ lw_tbl) w h, (List.mem_filter.mp h).2⟩
set_option maxRecDepth 20000 in
theorem ab_163 : ∀ w ∈ (vx_atS "HoseTests" 163 "java/lang/ArithmeticException" ["java/lang/RuntimeException", "java/lang/Exception"]).filter (fun w => !goodWord w), w ∈ ([.castable "java/lang/ArithmeticException" "java/lang/ArithmeticException", .declares ⟨"java/lang/RuntimeException", "<init>", "(Ljava/lang/String;)V"⟩, .declares ⟨"java/lang/Exception", "<init>", "(Ljava/lang/String;)V"⟩, .declares ⟨"java/lang/Throwable", "<init>", "(Ljava/lang/String;)V"⟩] : List Cond) := by decide +kernel
set_option maxRecDepth 20000 in
theorem go_159_163 : ∀ w ∈ Cond.classLink "HoseTests" 159 "java/lang/ArithmeticException" :: Cond.initialized "java/lang/ArithmeticException" :: vx_atS "HoseTests" 163 "java/lang/ArithmeticException" ["java/lang/RuntimeException", "java/lang/Exception"], vx_ot w = true := by decide +kernel
end
section
/-! exceptions: what is carried of the start, the three needs, their calls -/
def wtV (j : Nat) : Value := .int (wtF j)
def zT (zk : Nat → Nat) (A : Nat → Prop) (U : State) (H : Heap) : Prop := va_Z "HoseTests" "DIGIT_WEIGHTS" "[I" (.ref (zk 9)) A U H ∧ va_T .int (zk 9) 6 wtV A U H
def exL : List String := ["java/lang/IllegalArgumentException", "java/lang/IndexOutOfBoundsException", "java/lang/IllegalStateException", "java/lang/UnsupportedOperationException", "java/lang/ArithmeticException"]
def dcL : List MethodName := [⟨"java/lang/RuntimeException", "<init>", "(Ljava/lang/String;)V"⟩, ⟨"java/lang/Exception", "<init>", "(Ljava/lang/String;)V"⟩, ⟨"java/lang/Throwable", "<init>", "(Ljava/lang/String;)V"⟩]
def nsL : List (Nat × MethodName) := [(11, yX0_init), (18, yX2_init), (25, yX1_init)]
def stL : List (Nat × String) := [(180, "an unknown number"), (184, "a number outside its range"), (189, "not in this state"), (84, "no room for one more thing"), (153, "no such what"), (161, "no thing of this kind was scrapped")]
/-- words of the tables that are carried by themselves -/
def zw (U : State) : Prop := (∀ E ∈ exL, va_Nw (.castable E E) U) ∧ (∀ x ∈ dcL, va_Nw (.declares x) U) ∧ (∀ q ∈ nsL, va_Nw (.methodLinkNest "HoseTests" q.1 q.2 "HoseTests") U) ∧ ∀ E ∈ exL, ∀ T ∈ exL, E ≠ T → va_Nc E T U
def zs (zk : Nat → Nat) (U : State) : Prop := ∀ (i : Nat) (q : Nat × String), stL[i]? = some q → vk_R "HoseTests" q.1 q.2 (zk i) U
def zz (zk : Nat → Nat) (A : Nat → Prop) (U : State) (H : Heap) : Prop :=
  vx_Zq Bundle.tN "UNASSIGNED_STACK" Bundle.steD A U H ∧ vx_Zq Bundle.tN "SUPPRESSED_SENTINEL" Bundle.listD A U H ∧ zs zk U ∧ zw U ∧ zT zk A U H
theorem zw.warm {s U : State} (hW : s.WarmedH U.vm) (h : zw s) : zw U := ⟨fun E hE => va_Nw.warmC hW (h.1 E hE), fun x hx => va_Nw.warmD hW (h.2.1 x hx), fun q hq => va_Nw.warmM hW (h.2.2.1 q hq), fun E hE T hT hn => va_Nc.moved hW.alike (h.2.2.2 E hE T hT hn)⟩
theorem zw.same {s U : State} (hv : U.vm = s.vm) (h : zw s) : zw U := ⟨fun E hE => va_Nw.same rfl hv.symm (h.1 E hE), fun x hx => va_Nw.same rfl hv.symm (h.2.1 x hx), fun q hq => va_Nw.same rfl hv.symm (h.2.2.1 q hq), fun E hE T hT hn => va_Nc.moved (by rw [hv]; exact Vm.Alike.refl _) (h.2.2.2 E hE T hT hn)⟩
theorem zT.warm {zk : Nat → Nat} {A : Nat → Prop} {s U : State} {H : Heap} (hW : s.vm.Alike U.vm) (h : zT zk A s H) : zT zk A U H := ⟨va_Z.moved hW h.1, va_T.moved hW h.2⟩
theorem zT.kept {zk : Nat → Nat} {A : Nat → Prop} {U : State} {H H1 : Heap} (h : zT zk A U H) (hq : ∀ a : Nat, a < H.size → ¬ A a → H1[a]? = H[a]?) : zT zk A U H1 := ⟨h.1.kept hq, h.2.kept hq⟩
theorem zT.narrow {zk : Nat → Nat} {A B : Nat → Prop} {U : State} {H : Heap} (h : zT zk A U H) (hAB : ∀ q, B q → A q) : zT zk B U H := ⟨h.1.narrow hAB, h.2.narrow hAB⟩
theorem zz.warm {zk : Nat → Nat} {A : Nat → Prop} {s U : State} {H : Heap} (hW : s.WarmedH U.vm) (h : zz zk A s H) : zz zk A U H := by
  obtain ⟨h1, h2, h3, h4, h5⟩ := h
  exact ⟨vx_Zq.moved hW.alike h1, vx_Zq.moved hW.alike h2, fun i q hq => vk_R.warm hW (h3 i q hq), h4.warm hW, zT.warm hW.alike h5⟩
theorem zz.same {zk : Nat → Nat} {A : Nat → Prop} {s U : State} {H : Heap} (hv : U.vm = s.vm) (h : zz zk A s H) : zz zk A U H := by
  obtain ⟨h1, h2, h3, h4, h5⟩ := h
  have hW : s.vm.Alike U.vm := by rw [hv]; exact Vm.Alike.refl _
  exact ⟨vx_Zq.moved hW h1, vx_Zq.moved hW h2, fun i q hq => vk_R.same hv (h3 i q hq), h4.same hv, zT.warm hW h5⟩
theorem zz.kept {zk : Nat → Nat} {A : Nat → Prop} {U : State} {H H1 : Heap} (h : zz zk A U H) (hq : ∀ a : Nat, a < H.size → ¬ A a → H1[a]? = H[a]?) : zz zk A U H1 := by
  obtain ⟨h1, h2, h3, h4, h5⟩ := h
  exact ⟨h1.kept hq, h2.kept hq, h3, h4, h5.kept hq⟩
theorem zz.narrow {zk : Nat → Nat} {A B : Nat → Prop} {U : State} {H : Heap} (h : zz zk A U H) (hAB : ∀ q, B q → A q) : zz zk B U H := by
  obtain ⟨h1, h2, h3, h4, h5⟩ := h
  exact ⟨h1.narrow hAB, h2.narrow hAB, h3, h4, h5.narrow hAB⟩
abbrev pPu (dC : Nat → ClassId) (dI : Nat → Nat → Nat) (cI cZ : ClassId) (a : Nat → Nat) (zk : Nat → Nat) (sz : Nat) (σ : St) (av : List Value) : Array Value → State → Prop := va_Pc av (fun U => U.heap.size = sz ∧ va_P (dC, dI) vwCl (cw cI cZ a σ) U.heap ∧ va_K (dC, dI) vwCl [(cI, .int), (cZ, .boolean)] U ∧ va_D (fun _ => True) (cw cI cZ a σ) ∧ zz zk (va_A (cw cI cZ a σ) sz) U U.heap)
abbrev pNd (zk : Nat → Nat) (sz : Nat) (av : List Value) : Array Value → State → Prop := va_Pc av (fun U => U.heap.size = sz ∧ zz zk (va_A [] sz) U U.heap)
def nx_Q (okc : Bool) : Array Value → State → Outcome → State → Prop := fun _ st o t => o = .returned none ∧ okc = true ∧ t.heap = st.heap
def nx_X (E0 : String) (okc : Bool) : String → State → State → Prop := fun E st t => E = E0 ∧ ¬ okc = true ∧ st.heap.size ≤ t.heap.size ∧ ∀ q : Nat, q < st.heap.size → t.heap[q]? = st.heap[q]?
theorem pn_need {zk : Nat → Nat} {A : Nat → Prop} {s : State} {H : Heap} {locs : List Loc} {As : List Value} (hz : zz zk A s s.heap) (hS : va_S A s.heap H locs) (hA : ∀ q, s.heap.size ≤ q → A q) : PreS s H (pNd zk H.size As) As := by
  refine ⟨fun a U g mk h => ?_, fun U hU hW => ⟨rfl, by rw [hU], ?_⟩⟩
  · obtain ⟨q0, q1, qz⟩ := h
    exact ⟨q0, q1, qz.same rfl⟩
  · rw [hU]
    refine (((hz.kept hS.2.1).narrow (fun q h => ?_)).warm hW)
    rcases h with ⟨k, e, h⟩ | h
    · simp at h
    · exact hA q (Nat.le_trans hS.1 h)
theorem pz_T {zk : Nat → Nat} {A : Nat → Prop} {s : State} {H : Heap} {locs : List Loc} {As : List Value} (hz : zz zk A s s.heap) (hS : va_S A s.heap H locs) : PreS s H (va_Pc As (fun U => zT zk (fun _ => False) U U.heap)) As := by
  refine ⟨fun a U g mk h => ?_, fun U hU hW => ⟨rfl, ?_⟩⟩
  · obtain ⟨q0, qz⟩ := h
    exact ⟨q0, zT.warm (s := U) (Vm.Alike.refl _) qz⟩
  · show zT zk (fun _ => False) U U.heap
    rw [hU]
    obtain ⟨h1, h2, h3, h4, h9⟩ := hz
    exact ((h9.kept hS.2.1).narrow (fun _ h => h.elim)).warm hW.alike
theorem nx_call {p : Program} {l : Launch} {e : Env} {R : Room} {s : State} {m : MethodId} {args : Array Value} {below : List Frame} {meth : Method} {c : Code} {H : Heap} {locs : List Loc} {cells slots mc ms : Nat} {Q : State → Prop} {pc : Nat} {ls : Array Slot} {st0 rest : List Value} {a : Array Value} {A : Nat → Prop} {H0 : Heap} {okc : Bool} {E0 : String} {D : va_G} {cl : List vw_C} {ws0 : va_W}
    (hr : vx_Run p l e R s m args below meth c H locs cells slots mc ms (F0 m pc ls st0) rest (nx_Q okc a) (nx_X E0 okc) (fun _ => False)) (hP : va_P D cl ws0 H) (hD : va_D A ws0) (hS : va_S A H0 H locs) (hA : ∀ q, H0.size ≤ q → A q)
    (kk : okc = true → W p l e R s m args below meth c H locs (cells + mc) (slots + ms) Q (F0 m (pc + 3) ls rest))
    (kx : ¬ okc = true → ∀ (H1 : Heap) (q9 : Addr) (ce : Cell), va_P D cl ws0 H1 → va_S A H0 H1 locs → H1[q9]? = some ce → ce.vm = .none → s.vm.findClass E0 = some ce.cls → vx_W p l e R s m args below meth c H1 locs (cells + mc) (slots + ms) Q (F0 m pc ls rest) q9) : W p l e R s m args below meth c H locs cells slots Q (F0 m pc ls st0) := by
  intro T hT X
  rcases hr T hT X with ⟨v, st₀, t, T', L, h0, X', hL, e1, e2, ⟨hv, hok, hh⟩, st⟩ | ⟨q, st₀, t, T', L, E, ce, h0, X', hL, e1, e2, ⟨hE, hok, hz, hk⟩, hce, hcv, hcl, st⟩
  · cases hv
    obtain ⟨t2, a1, b1⟩ := kk hok T' (by rw [e1, hh, h0]) (Stand.forget X' (fun q h => (hL q h).elim))
    exact ⟨t2, st t2 a1, b1⟩
  · subst hE
    rw [h0] at hz hk
    obtain ⟨t2, a1, b1⟩ := kx hok T'.heap q ce (hP.kept (fun k x hx => by rw [e1]; exact hk x.1 ((hP k x hx).lt)))
      ⟨Nat.le_trans hS.1 (by rw [e1]; exact hz), fun x h1 h2 => by rw [e1, hk x (Nat.lt_of_lt_of_le h1 hS.1)]; exact hS.2.1 x h1 h2, hS.2.2⟩ (by rw [e1]; exact hce) hcv hcl T' rfl (Stand.forget X' (fun q h => (hL q h).elim))
    exact ⟨t2, st.trans a1, b1⟩
end
section
set_option maxHeartbeats 4000000 in
set_option maxRecDepth 100000 in
theorem m_X3_needKnown (l : Launch) (hl9 : l.stackTraces = false) (zk : Nat → Nat) (sz : Nat) (x0 x1 : Int32) : vx_Met l yX3_needKnown wsX3_needKnown ({ frames := 6, cells := 1, slots := 6, locals := 90 }) (pNd zk sz [.int x0, .int x1]) (nx_Q (okKnown x0 x1)) (nx_X "java/lang/IllegalArgumentException" (okKnown x0 x1)) 1 6 (fun _ => False) := by
  refine vx_ofW (cc := cX3_needKnown) (maxL := 2) (ret := none) (by decide) rfl ?_
  intro p e s m args below meth c s₁ B hml hEx hv
  obtain ⟨rfl, hsz, hz⟩ := hv
  have hx := B.exec
  have hb := B.bytes
  have hr := B.returns
  have hts := atoms_spec (ws := wsX3_needKnown) B.pre
  have hown : s.vm.findClass RX3 = some m.cls := findClass_of_methodNamed B.named
  have hlocks := B.notSynchronized
  subst hsz
  have hS : va_S (va_A [] s.heap.size) s.heap s.heap [] := va_S.rf
  have hl := lv_entry ([.int x0, .int x1]) (n := 2) (Nat.le_of_ble_eq_true rfl)
  rw [lg_entry_eq]
  generalize (lg_sl ([.int x0, .int x1]) ++ List.replicate (2 - (lg_sl ([.int x0, .int x1])).length) Slot.unset).toArray = ls at hl ⊢
  have hl : lv_has ls 2 [(0, .int x0), (1, .int x1)] := hl
  refine lv_iload_n hx hb dX3_needKnown_0 rfl (lv_at hl 0 rfl) ?_
  refine lv_if_lt (tgt := 9) hx hb dX3_needKnown_1 (by decide) (fun c_1_1 => ?_) (fun c_1_1 => ?_)
  · skip
    exact vx_throwS (own := RX3) (cls := "java/lang/IllegalArgumentException") (text := "an unknown number") (names := ["java/lang/RuntimeException", "java/lang/Exception"]) hx hb hl9 hown (by decide) (by decide) (hts _ (kc k_266)) (hts _ (kc k_29)) (hz.2.2.1 0 _ rfl) (vx_hat (fun w hw9 => hts w (kc (at_155 w hw9))) ab_155 (vx_c (va_Nw.use rfl (hz.2.2.2.1.1 _ (by decide))) (vx_c (va_Nw.use rfl (hz.2.2.2.1.2.1 _ (by decide))) (vx_c (va_Nw.use rfl (hz.2.2.2.1.2.1 _ (by decide))) (vx_c (va_Nw.use rfl (hz.2.2.2.1.2.1 _ (by decide))) vx_n))))) go_151_155 hz.1 hz.2.1 hS (hl.1.trans hml.symm) dX3_needKnown_9 dX3_needKnown_12 dX3_needKnown_13 dX3_needKnown_15 dX3_needKnown_18 (fun x hx9 => (hEx x hx9).elim) (Nat.le_of_ble_eq_true rfl) (Nat.le_of_ble_eq_true rfl) (Nat.le_of_ble_eq_true rfl) (Nat.le_of_ble_eq_true rfl) hlocks (fun t hvm h1 h2 => ⟨rfl, by simp [okKnown, c_1_1], h1, h2⟩) (fun _ h => by cases h) (Nat.le_of_ble_eq_true rfl) (Nat.le_of_ble_eq_true rfl)
  · skip
    refine lv_iload_n hx hb dX3_needKnown_4 rfl (lv_at hl 0 rfl) ?_
    refine lv_iload_n hx hb dX3_needKnown_5 rfl (lv_at hl 1 rfl) ?_
    refine lv_icmp_lt (tgt := 19) hx hb dX3_needKnown_6 (by decide) (fun c_6_2 => ?_) (fun c_6_2 => ?_)
    · skip
      refine vx_ret ?_
      refine W.widen (k := 1) (n := 6) (Nat.le_of_ble_eq_true rfl) (Nat.le_of_ble_eq_true rfl) ?_
      exact W.vret hx hb hr (fun t ht hW => ⟨rfl, by simp [okKnown, c_1_1, c_6_2], ht⟩) (fun _ h => by cases h) dX3_needKnown_19
    · skip
      exact vx_throwS (own := RX3) (cls := "java/lang/IllegalArgumentException") (text := "an unknown number") (names := ["java/lang/RuntimeException", "java/lang/Exception"]) hx hb hl9 hown (by decide) (by decide) (hts _ (kc k_266)) (hts _ (kc k_29)) (hz.2.2.1 0 _ rfl) (vx_hat (fun w hw9 => hts w (kc (at_155 w hw9))) ab_155 (vx_c (va_Nw.use rfl (hz.2.2.2.1.1 _ (by decide))) (vx_c (va_Nw.use rfl (hz.2.2.2.1.2.1 _ (by decide))) (vx_c (va_Nw.use rfl (hz.2.2.2.1.2.1 _ (by decide))) (vx_c (va_Nw.use rfl (hz.2.2.2.1.2.1 _ (by decide))) vx_n))))) go_151_155 hz.1 hz.2.1 hS (hl.1.trans hml.symm) dX3_needKnown_9 dX3_needKnown_12 dX3_needKnown_13 dX3_needKnown_15 dX3_needKnown_18 (fun x hx9 => (hEx x hx9).elim) (Nat.le_of_ble_eq_true rfl) (Nat.le_of_ble_eq_true rfl) (Nat.le_of_ble_eq_true rfl) (Nat.le_of_ble_eq_true rfl) hlocks (fun t hvm h1 h2 => ⟨rfl, by simp [okKnown, c_1_1, c_6_2], h1, h2⟩) (fun _ h => by cases h) (Nat.le_of_ble_eq_true rfl) (Nat.le_of_ble_eq_true rfl)
set_option maxHeartbeats 4000000 in
set_option maxRecDepth 100000 in
theorem m_X3_needRange (l : Launch) (hl9 : l.stackTraces = false) (zk : Nat → Nat) (sz : Nat) (x0 x1 x2 : Int32) : vx_Met l yX3_needRange wsX3_needRange ({ frames := 6, cells := 1, slots := 6, locals := 90 }) (pNd zk sz [.int x0, .int x1, .int x2]) (nx_Q (okRange x0 x1 x2)) (nx_X "java/lang/IndexOutOfBoundsException" (okRange x0 x1 x2)) 1 6 (fun _ => False) := by
  refine vx_ofW (cc := cX3_needRange) (maxL := 3) (ret := none) (by decide) rfl ?_
  intro p e s m args below meth c s₁ B hml hEx hv
  obtain ⟨rfl, hsz, hz⟩ := hv
  have hx := B.exec
  have hb := B.bytes
  have hr := B.returns
  have hts := atoms_spec (ws := wsX3_needRange) B.pre
  have hown : s.vm.findClass RX3 = some m.cls := findClass_of_methodNamed B.named
  have hlocks := B.notSynchronized
  subst hsz
  have hS : va_S (va_A [] s.heap.size) s.heap s.heap [] := va_S.rf
  have hl := lv_entry ([.int x0, .int x1, .int x2]) (n := 3) (Nat.le_of_ble_eq_true rfl)
  rw [lg_entry_eq]
  generalize (lg_sl ([.int x0, .int x1, .int x2]) ++ List.replicate (3 - (lg_sl ([.int x0, .int x1, .int x2])).length) Slot.unset).toArray = ls at hl ⊢
  have hl : lv_has ls 3 [(0, .int x0), (1, .int x1), (2, .int x2)] := hl
  refine lv_iload_n hx hb dX3_needRange_0 rfl (lv_at hl 0 rfl) ?_
  refine lv_iload_n hx hb dX3_needRange_1 rfl (lv_at hl 1 rfl) ?_
  refine lv_icmp_lt (tgt := 10) hx hb dX3_needRange_2 (by decide) (fun c_2_1 => ?_) (fun c_2_1 => ?_)
  · skip
    exact vx_throwS (own := RX3) (cls := "java/lang/IndexOutOfBoundsException") (text := "a number outside its range") (names := ["java/lang/RuntimeException", "java/lang/Exception"]) hx hb hl9 hown (by decide) (by decide) (hts _ (kc k_185)) (hts _ (kc k_28)) (hz.2.2.1 1 _ rfl) (vx_hat (fun w hw9 => hts w (kc (at_186 w hw9))) ab_186 (vx_c (va_Nw.use rfl (hz.2.2.2.1.1 _ (by decide))) (vx_c (va_Nw.use rfl (hz.2.2.2.1.2.1 _ (by decide))) (vx_c (va_Nw.use rfl (hz.2.2.2.1.2.1 _ (by decide))) (vx_c (va_Nw.use rfl (hz.2.2.2.1.2.1 _ (by decide))) vx_n))))) go_182_186 hz.1 hz.2.1 hS (hl.1.trans hml.symm) dX3_needRange_10 dX3_needRange_13 dX3_needRange_14 dX3_needRange_16 dX3_needRange_19 (fun x hx9 => (hEx x hx9).elim) (Nat.le_of_ble_eq_true rfl) (Nat.le_of_ble_eq_true rfl) (Nat.le_of_ble_eq_true rfl) (Nat.le_of_ble_eq_true rfl) hlocks (fun t hvm h1 h2 => ⟨rfl, by simp [okRange, c_2_1], h1, h2⟩) (fun _ h => by cases h) (Nat.le_of_ble_eq_true rfl) (Nat.le_of_ble_eq_true rfl)
  · skip
    refine lv_iload_n hx hb dX3_needRange_5 rfl (lv_at hl 0 rfl) ?_
    refine lv_iload_n hx hb dX3_needRange_6 rfl (lv_at hl 2 rfl) ?_
    refine lv_icmp_le (tgt := 20) hx hb dX3_needRange_7 (by decide) (fun c_7_2 => ?_) (fun c_7_2 => ?_)
    · skip
      refine vx_ret ?_
      refine W.widen (k := 1) (n := 6) (Nat.le_of_ble_eq_true rfl) (Nat.le_of_ble_eq_true rfl) ?_
      exact W.vret hx hb hr (fun t ht hW => ⟨rfl, by simp [okRange, c_2_1, c_7_2], ht⟩) (fun _ h => by cases h) dX3_needRange_20
    · skip
      exact vx_throwS (own := RX3) (cls := "java/lang/IndexOutOfBoundsException") (text := "a number outside its range") (names := ["java/lang/RuntimeException", "java/lang/Exception"]) hx hb hl9 hown (by decide) (by decide) (hts _ (kc k_185)) (hts _ (kc k_28)) (hz.2.2.1 1 _ rfl) (vx_hat (fun w hw9 => hts w (kc (at_186 w hw9))) ab_186 (vx_c (va_Nw.use rfl (hz.2.2.2.1.1 _ (by decide))) (vx_c (va_Nw.use rfl (hz.2.2.2.1.2.1 _ (by decide))) (vx_c (va_Nw.use rfl (hz.2.2.2.1.2.1 _ (by decide))) (vx_c (va_Nw.use rfl (hz.2.2.2.1.2.1 _ (by decide))) vx_n))))) go_182_186 hz.1 hz.2.1 hS (hl.1.trans hml.symm) dX3_needRange_10 dX3_needRange_13 dX3_needRange_14 dX3_needRange_16 dX3_needRange_19 (fun x hx9 => (hEx x hx9).elim) (Nat.le_of_ble_eq_true rfl) (Nat.le_of_ble_eq_true rfl) (Nat.le_of_ble_eq_true rfl) (Nat.le_of_ble_eq_true rfl) hlocks (fun t hvm h1 h2 => ⟨rfl, by simp [okRange, c_2_1, c_7_2], h1, h2⟩) (fun _ h => by cases h) (Nat.le_of_ble_eq_true rfl) (Nat.le_of_ble_eq_true rfl)
set_option maxHeartbeats 4000000 in
set_option maxRecDepth 100000 in
theorem m_X3_needState (l : Launch) (hl9 : l.stackTraces = false) (zk : Nat → Nat) (sz : Nat) (x0 : Int32) : vx_Met l yX3_needState wsX3_needState ({ frames := 6, cells := 1, slots := 6, locals := 90 }) (pNd zk sz [.int x0]) (nx_Q (okState x0)) (nx_X "java/lang/IllegalStateException" (okState x0)) 1 6 (fun _ => False) := by
  refine vx_ofW (cc := cX3_needState) (maxL := 1) (ret := none) (by decide) rfl ?_
  intro p e s m args below meth c s₁ B hml hEx hv
  obtain ⟨rfl, hsz, hz⟩ := hv
  have hx := B.exec
  have hb := B.bytes
  have hr := B.returns
  have hts := atoms_spec (ws := wsX3_needState) B.pre
  have hown : s.vm.findClass RX3 = some m.cls := findClass_of_methodNamed B.named
  have hlocks := B.notSynchronized
  subst hsz
  have hS : va_S (va_A [] s.heap.size) s.heap s.heap [] := va_S.rf
  have hl := lv_entry ([.int x0]) (n := 1) (Nat.le_of_ble_eq_true rfl)
  rw [lg_entry_eq]
  generalize (lg_sl ([.int x0]) ++ List.replicate (1 - (lg_sl ([.int x0])).length) Slot.unset).toArray = ls at hl ⊢
  have hl : lv_has ls 1 [(0, .int x0)] := hl
  refine lv_iload_n hx hb dX3_needState_0 rfl (lv_at hl 0 rfl) ?_
  refine lv_if_ne (tgt := 14) hx hb dX3_needState_1 (by decide) (fun c_1_1 => ?_) (fun c_1_1 => ?_)
  · skip
    refine vx_ret ?_
    refine W.widen (k := 1) (n := 6) (Nat.le_of_ble_eq_true rfl) (Nat.le_of_ble_eq_true rfl) ?_
    exact W.vret hx hb hr (fun t ht hW => ⟨rfl, by simp [okState, c_1_1], ht⟩) (fun _ h => by cases h) dX3_needState_14
  · skip
    exact vx_throwS (own := RX3) (cls := "java/lang/IllegalStateException") (text := "not in this state") (names := ["java/lang/RuntimeException", "java/lang/Exception"]) hx hb hl9 hown (by decide) (by decide) (hts _ (kc k_314)) (hts _ (kc k_30)) (hz.2.2.1 2 _ rfl) (vx_hat (fun w hw9 => hts w (kc (at_191 w hw9))) ab_191 (vx_c (va_Nw.use rfl (hz.2.2.2.1.1 _ (by decide))) (vx_c (va_Nw.use rfl (hz.2.2.2.1.2.1 _ (by decide))) (vx_c (va_Nw.use rfl (hz.2.2.2.1.2.1 _ (by decide))) (vx_c (va_Nw.use rfl (hz.2.2.2.1.2.1 _ (by decide))) vx_n))))) go_187_191 hz.1 hz.2.1 hS (hl.1.trans hml.symm) dX3_needState_4 dX3_needState_7 dX3_needState_8 dX3_needState_10 dX3_needState_13 (fun x hx9 => (hEx x hx9).elim) (Nat.le_of_ble_eq_true rfl) (Nat.le_of_ble_eq_true rfl) (Nat.le_of_ble_eq_true rfl) (Nat.le_of_ble_eq_true rfl) hlocks (fun t hvm h1 h2 => ⟨rfl, by simp [okState, c_1_1], h1, h2⟩) (fun _ h => by cases h) (Nat.le_of_ble_eq_true rfl) (Nat.le_of_ble_eq_true rfl)
end
section
set_option maxHeartbeats 4000000 in
set_option maxRecDepth 100000 in
theorem m_X0_gradeOf (l : Launch) (dC : Nat → ClassId) (dI : Nat → Nat → Nat) (cI cZ : ClassId) (a : Nat → Nat) (σ : St) (x1 : Int32) (x2 : Int32) (x3 : Int32) (h1 : vp_in x1 5) (h2 : vp_in x2 3) : Met l yX0_gradeOf wsX0_gradeOf ({ frames := 0, cells := 0, slots := 0, locals := 0 }) (pRo dC dI cI cZ a σ [.ref (a 1), .int x1, .int x2, .int x3]) (vp_Si (fun r => r = sp_gradeOf σ x1 x2 x3)) 0 0 (fun _ => False) := by
  refine Met.ofW (cc := cX0_gradeOf) (maxL := 5) (ret := (some .int)) (by decide) rfl ?_
  intro p e s m args below meth c s₁ B hml hv
  obtain ⟨rfl, hP, hK⟩ := hv
  have hx := B.exec
  have hb := B.bytes
  have hr := B.returns
  have hts := atoms_spec (ws := wsX0_gradeOf) B.pre
  have hown : s.vm.findClass RX0 = some m.cls := findClass_of_methodNamed B.named
  have hlocks := B.notSynchronized
  have hl := lv_entry ([.ref (a 1), .int x1, .int x2, .int x3]) (n := 5) (Nat.le_of_ble_eq_true rfl)
  rw [lg_entry_eq]
  generalize (lg_sl ([.ref (a 1), .int x1, .int x2, .int x3]) ++ List.replicate (5 - (lg_sl ([.ref (a 1), .int x1, .int x2, .int x3])).length) Slot.unset).toArray = ls at hl ⊢
  have hl : lv_has ls 5 [(0, .ref (a 1)), (1, .int x1), (2, .int x2), (3, .int x3)] := hl
  obtain ⟨R, hR⟩ : ∃ z, z = sp_gradeOf σ x1 x2 x3 := ⟨_, rfl⟩
  have hw := hR
  unfold sp_gradeOf at hw
  refine lv_iload_n hx hb dX0_gradeOf_0 rfl (lv_at hl 1 rfl) ?_
  refine lv_iconst (v := 3) hx hb dX0_gradeOf_1 (by decide) ?_
  refine lv_imul hx hb dX0_gradeOf_2 ?_
  refine lv_iload_n hx hb dX0_gradeOf_3 rfl (lv_at hl 2 rfl) ?_
  refine lv_iadd hx hb dX0_gradeOf_4 ?_
  refine lv_istore (lv' := [(4, .int ((x1 * (3 : Int32)) + x2)), (0, .ref (a 1)), (1, .int x1), (2, .int x2), (3, .int x3)]) hx hb dX0_gradeOf_5 hl (by decide) rfl (fun ls hl => ?_)
  refine lv_iload_n hx hb dX0_gradeOf_7 rfl (lv_at hl 4 rfl) ?_
  refine lv_aload_n hx hb dX0_gradeOf_8 rfl (lv_at hl 1 rfl) ?_
  refine va_get (D := (dC, dI)) (ci := 0) (v := .ref (a 6)) (C := RX0) (T := TX0) (N := 5) hx hb hts (iwX0 _) hown hK hP 1 rfl rfl 4 (by decide) (hts _ (kc k_56)) (fun _ h9 => h9) rfl dX0_gradeOf_9 ?_
  refine lv_iload hx hb dX0_gradeOf_12 (lv_at hl 0 rfl) ?_
  refine va_iald (D := (dC, dI)) (f := σ 6) hx hb hK hP 6 0 rfl rfl (i := (x1 * (3 : Int32)) + x2) (in_m3 (n := 5) h1 h2 (by decide) (by decide)) dX0_gradeOf_14 ?_
  refine lv_icmp_lt (tgt := 20) hx hb dX0_gradeOf_15 (by decide) (fun c_15_1 => ?_) (fun c_15_1 => ?_)
  · skip
    rw [if_pos c_15_1] at hw
    refine lv_iload_n hx hb dX0_gradeOf_20 rfl (lv_at hl 4 rfl) ?_
    refine lv_aload_n hx hb dX0_gradeOf_21 rfl (lv_at hl 1 rfl) ?_
    refine va_get (D := (dC, dI)) (ci := 0) (v := .ref (a 5)) (C := RX0) (T := TX0) (N := 5) hx hb hts (iwX0 _) hown hK hP 1 rfl rfl 3 (by decide) (hts _ (kc k_54)) (fun _ h9 => h9) rfl dX0_gradeOf_22 ?_
    refine lv_iload hx hb dX0_gradeOf_25 (lv_at hl 0 rfl) ?_
    refine va_iald (D := (dC, dI)) (f := σ 5) hx hb hK hP 5 0 rfl rfl (i := (x1 * (3 : Int32)) + x2) (in_m3 (n := 5) h1 h2 (by decide) (by decide)) dX0_gradeOf_27 ?_
    refine lv_icmp_lt (tgt := 35) hx hb dX0_gradeOf_28 (by decide) (fun c_28_2 => ?_) (fun c_28_2 => ?_)
    · skip
      rw [if_pos c_28_2] at hw
      refine lv_iconst (v := 2) hx hb dX0_gradeOf_35 (by decide) ?_
      exact W.iret (v := (2 : Int32)) hx hb hr (fun t ht hW => ⟨_, rfl, hw.symm.trans hR, ht⟩) (fun _ h => by cases h) dX0_gradeOf_36
    · skip
      rw [if_neg c_28_2] at hw
      refine lv_iconst (v := 1) hx hb dX0_gradeOf_31 (by decide) ?_
      refine lv_goto (tgt := 36) hx hb dX0_gradeOf_32 (by decide) ?_
      exact W.iret (v := (1 : Int32)) hx hb hr (fun t ht hW => ⟨_, rfl, hw.symm.trans hR, ht⟩) (fun _ h => by cases h) dX0_gradeOf_36
  · skip
    rw [if_neg c_15_1] at hw
    refine lv_iconst (v := 0) hx hb dX0_gradeOf_18 (by decide) ?_
    exact W.iret (v := (0 : Int32)) hx hb hr (fun t ht hW => ⟨_, rfl, hw.symm.trans hR, ht⟩) (fun _ h => by cases h) dX0_gradeOf_19
set_option maxHeartbeats 4000000 in
set_option maxRecDepth 100000 in
theorem m_X2_hasSerial (l : Launch) (dC : Nat → ClassId) (dI : Nat → Nat → Nat) (cI cZ : ClassId) (a : Nat → Nat) (σ : St) (x1 : Int32) (hiv : IV σ) : Met l yX2_hasSerial wsX2_hasSerial ({ frames := 0, cells := 0, slots := 0, locals := 0 }) (pRo dC dI cI cZ a σ [.ref (a 7), .int x1]) (vp_Si (fun r => r = sp_hasSerial σ x1)) 0 0 (fun _ => False) := by
  refine Met.ofW (cc := cX2_hasSerial) (maxL := 3) (ret := (some .boolean)) (by decide) rfl ?_
  intro p e s m args below meth c s₁ B hml hv
  obtain ⟨rfl, hP, hK⟩ := hv
  have hx := B.exec
  have hb := B.bytes
  have hr := B.returns
  have hts := atoms_spec (ws := wsX2_hasSerial) B.pre
  have hown : s.vm.findClass RX2 = some m.cls := findClass_of_methodNamed B.named
  have hlocks := B.notSynchronized
  have hl := lv_entry ([.ref (a 7), .int x1]) (n := 3) (Nat.le_of_ble_eq_true rfl)
  rw [lg_entry_eq]
  generalize (lg_sl ([.ref (a 7), .int x1]) ++ List.replicate (3 - (lg_sl ([.ref (a 7), .int x1])).length) Slot.unset).toArray = ls at hl ⊢
  have hl : lv_has ls 3 [(0, .ref (a 7)), (1, .int x1)] := hl
  obtain ⟨R, hR⟩ : ∃ z, z = sp_hasSerial σ x1 := ⟨_, rfl⟩
  have hw := hR
  unfold sp_hasSerial at hw
  have hle := iv_le hiv
  refine lv_iconst (v := 0) hx hb dX2_hasSerial_0 (by decide) ?_
  refine lv_istore_n (lv' := [(2, .int (0 : Int32)), (0, .ref (a 7)), (1, .int x1)]) hx hb dX2_hasSerial_1 rfl hl (by decide) rfl (fun ls hl => ?_)
  have loop : ∀ (n k : Nat) (ls : Array Slot), k + n = cntN σ → lv_has ls 3 [(0, .ref (a 7)), (1, .int x1), (2, .int (nI k))] → R = sp_hasSerial_2 σ x1 n k → W p l e (headSpec wsX2_hasSerial ({ frames := 0, cells := 0, slots := 0, locals := 0 })).room s m [.ref (a 7), .int x1].toArray below meth c s.heap [] 0 0 (MQ below (vp_Si (fun r => r = sp_hasSerial σ x1)) [.ref (a 7), .int x1].toArray s 0 0 (fun _ => False)) (F0 m 2 ls []) := by
    intro n
    induction n with
    | zero =>
      intro k ls hkn hl hw
      rw [sp_hasSerial_2_0] at hw
      refine lv_iload_n hx hb dX2_hasSerial_2 rfl (lv_at hl 2 rfl) ?_
      refine lv_aload_n hx hb dX2_hasSerial_3 rfl (lv_at hl 0 rfl) ?_
      refine va_get (D := (dC, dI)) (ci := 2) (v := .int (σ 7 11)) (C := RX2) (T := TX2) (N := 12) hx hb hts (iwX2 _) hown hK hP 7 rfl rfl 11 (by decide) (hts _ (kc k_96)) (fun _ h9 => h9) rfl dX2_hasSerial_4 ?_
      refine lv_icmp_ge (tgt := 28) hx hb dX2_hasSerial_7 (by decide) (fun c_7_1 => ?_) (fun c_7_1 => ?_)
      · skip
        refine lv_iconst (v := 0) hx hb dX2_hasSerial_28 (by decide) ?_
        exact W.zret (v := (0 : Int32)) (ty := .boolean) hx hb hr (by decide) (fun t ht hW => ⟨_, rfl, hw.symm.trans hR, ht⟩) (fun _ h => by cases h) dX2_hasSerial_29
      · skip
        exact absurd (lpE (iv_cnt hiv) hkn (by omega)) c_7_1
    | succ n ih =>
      intro k ls hkn hl hw
      rw [sp_hasSerial_2_s] at hw
      have hkf : vp_in (nI k) 40 := vp_in_nI (by omega) (by decide)
      refine lv_iload_n hx hb dX2_hasSerial_2 rfl (lv_at hl 2 rfl) ?_
      refine lv_aload_n hx hb dX2_hasSerial_3 rfl (lv_at hl 0 rfl) ?_
      refine va_get (D := (dC, dI)) (ci := 2) (v := .int (σ 7 11)) (C := RX2) (T := TX2) (N := 12) hx hb hts (iwX2 _) hown hK hP 7 rfl rfl 11 (by decide) (hts _ (kc k_96)) (fun _ h9 => h9) rfl dX2_hasSerial_4 ?_
      refine lv_icmp_ge (tgt := 28) hx hb dX2_hasSerial_7 (by decide) (fun c_7_2 => ?_) (fun c_7_2 => ?_)
      · skip
        exact absurd c_7_2 (lpB (iv_cnt hiv) hkn (by omega))
      · skip
        refine lv_aload_n hx hb dX2_hasSerial_10 rfl (lv_at hl 0 rfl) ?_
        refine va_get (D := (dC, dI)) (ci := 2) (v := .ref (a 9)) (C := RX2) (T := TX2) (N := 12) hx hb hts (iwX2 _) hown hK hP 7 rfl rfl 1 (by decide) (hts _ (kc k_78)) (fun _ h9 => h9) rfl dX2_hasSerial_11 ?_
        refine lv_iload_n hx hb dX2_hasSerial_14 rfl (lv_at hl 2 rfl) ?_
        refine va_iald (D := (dC, dI)) (f := σ 9) hx hb hK hP 9 0 rfl rfl (i := nI k) hkf dX2_hasSerial_15 ?_
        refine lv_iload_n hx hb dX2_hasSerial_16 rfl (lv_at hl 1 rfl) ?_
        refine lv_icmp_ne (tgt := 22) hx hb dX2_hasSerial_17 (by decide) (fun c_17_3 => ?_) (fun c_17_3 => ?_)
        · skip
          rw [if_neg c_17_3] at hw
          refine lv_iinc (v := (nI (k + 1))) (lv' := [(2, .int (nI (k + 1))), (0, .ref (a 7)), (1, .int x1)]) hx hb dX2_hasSerial_22 hl (k := 2) rfl (nI_1 k) (by decide) rfl (fun ls hl => ?_)
          refine lv_goto (tgt := 2) hx hb dX2_hasSerial_25 (by decide) ?_
          exact ih (k + 1) ls (by omega) (lv_sub hl [1, 2, 0] rfl) hw
        · skip
          rw [if_pos c_17_3] at hw
          refine lv_iconst (v := 1) hx hb dX2_hasSerial_20 (by decide) ?_
          exact W.zret (v := (1 : Int32)) (ty := .boolean) hx hb hr (by decide) (fun t ht hW => ⟨_, rfl, hw.symm.trans hR, ht⟩) (fun _ h => by cases h) dX2_hasSerial_21
  exact loop (cntN σ) 0 ls (Nat.zero_add _) (lv_sub hl [1, 2, 0] rfl) hw
set_option maxHeartbeats 4000000 in
set_option maxRecDepth 100000 in
theorem m_X2_isScrapped (l : Launch) (dC : Nat → ClassId) (dI : Nat → Nat → Nat) (cI cZ : ClassId) (a : Nat → Nat) (σ : St) (x1 : Int32) (h1 : vp_in x1 40) : Met l yX2_isScrapped wsX2_isScrapped ({ frames := 0, cells := 0, slots := 0, locals := 0 }) (pRo dC dI cI cZ a σ [.ref (a 7), .int x1]) (vp_Si (fun r => r = sp_isScrapped σ x1)) 0 0 (fun _ => False) := by
  refine Met.ofW (cc := cX2_isScrapped) (maxL := 2) (ret := (some .boolean)) (by decide) rfl ?_
  intro p e s m args below meth c s₁ B hml hv
  obtain ⟨rfl, hP, hK⟩ := hv
  have hx := B.exec
  have hb := B.bytes
  have hr := B.returns
  have hts := atoms_spec (ws := wsX2_isScrapped) B.pre
  have hown : s.vm.findClass RX2 = some m.cls := findClass_of_methodNamed B.named
  have hlocks := B.notSynchronized
  have hl := lv_entry ([.ref (a 7), .int x1]) (n := 2) (Nat.le_of_ble_eq_true rfl)
  rw [lg_entry_eq]
  generalize (lg_sl ([.ref (a 7), .int x1]) ++ List.replicate (2 - (lg_sl ([.ref (a 7), .int x1])).length) Slot.unset).toArray = ls at hl ⊢
  have hl : lv_has ls 2 [(0, .ref (a 7)), (1, .int x1)] := hl
  obtain ⟨R, hR⟩ : ∃ z, z = sp_isScrapped σ x1 := ⟨_, rfl⟩
  have hw := hR
  unfold sp_isScrapped at hw
  refine lv_aload_n hx hb dX2_isScrapped_0 rfl (lv_at hl 0 rfl) ?_
  refine va_get (D := (dC, dI)) (ci := 2) (v := .ref (a 13)) (C := RX2) (T := TX2) (N := 12) hx hb hts (iwX2 _) hown hK hP 7 rfl rfl 5 (by decide) (hts _ (kc k_85)) (fun _ h9 => h9) rfl dX2_isScrapped_1 ?_
  refine lv_iload_n hx hb dX2_isScrapped_4 rfl (lv_at hl 1 rfl) ?_
  refine va_iald (D := (dC, dI)) (f := σ 13) hx hb hK hP 13 0 rfl rfl (i := x1) h1 dX2_isScrapped_5 ?_
  refine lv_iconst (v := -1) hx hb dX2_isScrapped_6 (by decide) ?_
  refine lv_icmp_eq (tgt := 14) hx hb dX2_isScrapped_7 (by decide) (fun c_7_1 => ?_) (fun c_7_1 => ?_)
  · skip
    rw [if_pos c_7_1] at hw
    refine lv_iconst (v := 0) hx hb dX2_isScrapped_14 (by decide) ?_
    exact W.zret (v := (0 : Int32)) (ty := .boolean) hx hb hr (by decide) (fun t ht hW => ⟨_, rfl, hw.symm.trans hR, ht⟩) (fun _ h => by cases h) dX2_isScrapped_15
  · skip
    rw [if_neg c_7_1] at hw
    refine lv_iconst (v := 1) hx hb dX2_isScrapped_10 (by decide) ?_
    refine lv_goto (tgt := 15) hx hb dX2_isScrapped_11 (by decide) ?_
    exact W.zret (v := (1 : Int32)) (ty := .boolean) hx hb hr (by decide) (fun t ht hW => ⟨_, rfl, hw.symm.trans hR, ht⟩) (fun _ h => by cases h) dX2_isScrapped_15
set_option maxHeartbeats 4000000 in
set_option maxRecDepth 100000 in
theorem m_X2_conditionOf (l : Launch) (dC : Nat → ClassId) (dI : Nat → Nat → Nat) (cI cZ : ClassId) (a : Nat → Nat) (σ : St) (x1 : Int32) (h1 : vp_in x1 40) : Met l yX2_conditionOf wsX2_conditionOf ({ frames := 1, cells := 0, slots := 0, locals := 21 }) (pRo dC dI cI cZ a σ [.ref (a 7), .int x1]) (vp_Si (fun r => r = sp_conditionOf σ x1)) 0 0 (fun _ => False) := by
  refine Met.ofW (cc := cX2_conditionOf) (maxL := 4) (ret := (some .int)) (by decide) rfl ?_
  intro p e s m args below meth c s₁ B hml hv
  obtain ⟨rfl, hP, hK⟩ := hv
  have hx := B.exec
  have hb := B.bytes
  have hr := B.returns
  have hts := atoms_spec (ws := wsX2_conditionOf) B.pre
  have hown : s.vm.findClass RX2 = some m.cls := findClass_of_methodNamed B.named
  have hlocks := B.notSynchronized
  have hl := lv_entry ([.ref (a 7), .int x1]) (n := 4) (Nat.le_of_ble_eq_true rfl)
  rw [lg_entry_eq]
  generalize (lg_sl ([.ref (a 7), .int x1]) ++ List.replicate (4 - (lg_sl ([.ref (a 7), .int x1])).length) Slot.unset).toArray = ls at hl ⊢
  have hl : lv_has ls 4 [(0, .ref (a 7)), (1, .int x1)] := hl
  obtain ⟨R, hR⟩ : ∃ z, z = sp_conditionOf σ x1 := ⟨_, rfl⟩
  have hw := hR
  unfold sp_conditionOf at hw
  refine lv_iconst (v := 0) hx hb dX2_conditionOf_0 (by decide) ?_
  refine lv_istore_n (lv' := [(2, .int (0 : Int32)), (0, .ref (a 7)), (1, .int x1)]) hx hb dX2_conditionOf_1 rfl hl (by decide) rfl (fun ls hl => ?_)
  refine lv_iconst (v := 0) hx hb dX2_conditionOf_2 (by decide) ?_
  refine lv_istore_n (lv' := [(3, .int (0 : Int32)), (2, .int (0 : Int32)), (0, .ref (a 7)), (1, .int x1)]) hx hb dX2_conditionOf_3 rfl hl (by decide) rfl (fun ls hl => ?_)
  have loop : ∀ (n k : Nat) (x2 : Int32) (ls : Array Slot), k + n = 3 → lv_has ls 4 [(0, .ref (a 7)), (1, .int x1), (2, .int x2), (3, .int (nI k))] → R = sp_conditionOf_4 σ x1 n k x2 → W p l e (headSpec wsX2_conditionOf ({ frames := 1, cells := 0, slots := 0, locals := 21 })).room s m [.ref (a 7), .int x1].toArray below meth c s.heap [] 0 0 (MQ below (vp_Si (fun r => r = sp_conditionOf σ x1)) [.ref (a 7), .int x1].toArray s 0 0 (fun _ => False)) (F0 m 4 ls []) := by
    intro n
    induction n with
    | zero =>
      intro k x2 ls hkn hl hw
      rw [sp_conditionOf_4_0] at hw
      refine lv_iload_n hx hb dX2_conditionOf_4 rfl (lv_at hl 3 rfl) ?_
      refine lv_iconst (v := 3) hx hb dX2_conditionOf_5 (by decide) ?_
      refine lv_icmp_ge (tgt := 30) hx hb dX2_conditionOf_6 (by decide) (fun c_6_1 => ?_) (fun c_6_1 => ?_)
      · skip
        refine lv_iload_n hx hb dX2_conditionOf_30 rfl (lv_at hl 2 rfl) ?_
        exact W.iret (v := x2) hx hb hr (fun t ht hW => ⟨_, rfl, hw.symm.trans hR, ht⟩) (fun _ h => by cases h) dX2_conditionOf_31
      · skip
        exact absurd (lpE ht_3 hkn (by omega)) c_6_1
    | succ n ih =>
      intro k x2 ls hkn hl hw
      rw [sp_conditionOf_4_s] at hw
      have hkf : vp_in (nI k) 3 := vp_in_nI (by omega) (by decide)
      refine lv_iload_n hx hb dX2_conditionOf_4 rfl (lv_at hl 3 rfl) ?_
      refine lv_iconst (v := 3) hx hb dX2_conditionOf_5 (by decide) ?_
      refine lv_icmp_ge (tgt := 30) hx hb dX2_conditionOf_6 (by decide) (fun c_6_2 => ?_) (fun c_6_2 => ?_)
      · skip
        exact absurd c_6_2 (lpB ht_3 hkn (by omega))
      · skip
        refine lv_iload_n hx hb dX2_conditionOf_9 rfl (lv_at hl 2 rfl) ?_
        refine lv_aload_n hx hb dX2_conditionOf_10 rfl (lv_at hl 0 rfl) ?_
        refine va_get (D := (dC, dI)) (ci := 2) (v := .ref (a 18)) (C := RX2) (T := TX2) (N := 12) hx hb hts (iwX2 _) hown hK hP 7 rfl rfl 10 (by decide) (hts _ (kc k_95)) (fun _ h9 => h9) rfl dX2_conditionOf_11 ?_
        refine lv_iload_n hx hb dX2_conditionOf_14 rfl (lv_at hl 1 rfl) ?_
        refine lv_iconst (v := 3) hx hb dX2_conditionOf_15 (by decide) ?_
        refine lv_imul hx hb dX2_conditionOf_16 ?_
        refine lv_iload_n hx hb dX2_conditionOf_17 rfl (lv_at hl 3 rfl) ?_
        refine lv_iadd hx hb dX2_conditionOf_18 ?_
        refine va_iald (D := (dC, dI)) (f := σ 18) hx hb hK hP 18 0 rfl rfl (i := (x1 * (3 : Int32)) + (nI k)) (in_m3 (n := 40) h1 hkf (by decide) (by decide)) dX2_conditionOf_19 ?_
        refine va_mmax hx hb (hml.trans hl.1.symm) hown (hts _ (kc k_396)) (hts _ (kc k_397)) (hts _ (kc k_32)) (hts _ (kc k_398)) (Nat.le_of_ble_eq_true rfl) (Nat.le_of_ble_eq_true rfl) (Nat.le_of_ble_eq_true rfl) (Nat.le_of_ble_eq_true rfl) dX2_conditionOf_20 ?_
        refine lv_istore_n (lv' := [(2, .int (if x2 < (σ 18 ((x1 * (3 : Int32)) + (nI k)).toNatClampNeg) then (σ 18 ((x1 * (3 : Int32)) + (nI k)).toNatClampNeg) else x2)), (0, .ref (a 7)), (1, .int x1), (3, .int (nI k))]) hx hb dX2_conditionOf_23 rfl hl (by decide) rfl (fun ls hl => ?_)
        refine lv_iinc (v := (nI (k + 1))) (lv' := [(3, .int (nI (k + 1))), (2, .int (if x2 < (σ 18 ((x1 * (3 : Int32)) + (nI k)).toNatClampNeg) then (σ 18 ((x1 * (3 : Int32)) + (nI k)).toNatClampNeg) else x2)), (0, .ref (a 7)), (1, .int x1)]) hx hb dX2_conditionOf_24 hl (k := 3) rfl (nI_1 k) (by decide) rfl (fun ls hl => ?_)
        refine lv_goto (tgt := 4) hx hb dX2_conditionOf_27 (by decide) ?_
        exact ih (k + 1) (if x2 < (σ 18 ((x1 * (3 : Int32)) + (nI k)).toNatClampNeg) then (σ 18 ((x1 * (3 : Int32)) + (nI k)).toNatClampNeg) else x2) ls (by omega) (lv_sub hl [2, 3, 1, 0] rfl) hw
  exact loop 3 0 (0 : Int32) ls (Nat.zero_add _) (lv_sub hl [2, 3, 1, 0] rfl) hw
set_option maxHeartbeats 4000000 in
set_option maxRecDepth 100000 in
theorem m_X2_isLeftOf (l : Launch) (dC : Nat → ClassId) (dI : Nat → Nat → Nat) (cI cZ : ClassId) (a : Nat → Nat) (σ : St) (x1 : Int32) (x2 : Int32) (h2 : vp_in x2 40) : Met l yX2_isLeftOf wsX2_isLeftOf ({ frames := 1, cells := 0, slots := 0, locals := 21 }) (pRo dC dI cI cZ a σ [.ref (a 7), .int x1, .int x2]) (vp_Si (fun r => r = sp_isLeftOf σ x1 x2)) 0 0 (fun _ => False) := by
  refine Met.ofW (cc := cX2_isLeftOf) (maxL := 3) (ret := (some .boolean)) (by decide) rfl ?_
  intro p e s m args below meth c s₁ B hml hv
  obtain ⟨rfl, hP, hK⟩ := hv
  have hx := B.exec
  have hb := B.bytes
  have hr := B.returns
  have hts := atoms_spec (ws := wsX2_isLeftOf) B.pre
  have hown : s.vm.findClass RX2 = some m.cls := findClass_of_methodNamed B.named
  have hlocks := B.notSynchronized
  have hl := lv_entry ([.ref (a 7), .int x1, .int x2]) (n := 3) (Nat.le_of_ble_eq_true rfl)
  rw [lg_entry_eq]
  generalize (lg_sl ([.ref (a 7), .int x1, .int x2]) ++ List.replicate (3 - (lg_sl ([.ref (a 7), .int x1, .int x2])).length) Slot.unset).toArray = ls at hl ⊢
  have hl : lv_has ls 3 [(0, .ref (a 7)), (1, .int x1), (2, .int x2)] := hl
  obtain ⟨R, hR⟩ : ∃ z, z = sp_isLeftOf σ x1 x2 := ⟨_, rfl⟩
  have hw := hR
  unfold sp_isLeftOf at hw
  refine lv_aload_n hx hb dX2_isLeftOf_0 rfl (lv_at hl 0 rfl) ?_
  refine va_get (D := (dC, dI)) (ci := 2) (v := .ref (a 10)) (C := RX2) (T := TX2) (N := 12) hx hb hts (iwX2 _) hown hK hP 7 rfl rfl 2 (by decide) (hts _ (kc k_79)) (fun _ h9 => h9) rfl dX2_isLeftOf_1 ?_
  refine lv_iload_n hx hb dX2_isLeftOf_4 rfl (lv_at hl 2 rfl) ?_
  refine va_iald (D := (dC, dI)) (f := σ 10) hx hb hK hP 10 0 rfl rfl (i := x2) h2 dX2_isLeftOf_5 ?_
  refine lv_iload_n hx hb dX2_isLeftOf_6 rfl (lv_at hl 1 rfl) ?_
  refine lv_icmp_ne (tgt := 22) hx hb dX2_isLeftOf_7 (by decide) (fun c_7_1 => ?_) (fun c_7_1 => ?_)
  · skip
    rw [if_neg c_7_1] at hw
    refine lv_iconst (v := 0) hx hb dX2_isLeftOf_22 (by decide) ?_
    exact W.zret (v := (0 : Int32)) (ty := .boolean) hx hb hr (by decide) (fun t ht hW => ⟨_, rfl, hw.symm.trans hR, ht⟩) (fun _ h => by cases h) dX2_isLeftOf_23
  · skip
    rw [if_pos c_7_1] at hw
    refine lv_aload_n hx hb dX2_isLeftOf_10 rfl (lv_at hl 0 rfl) ?_
    refine lv_iload_n hx hb dX2_isLeftOf_11 rfl (lv_at hl 2 rfl) ?_
    refine vp_callSi (W.runV (As := [.int x2]) (rest := []) ⟨hx, hb, hml, hown, hts⟩ (m_X2_isScrapped l dC dI cI cZ a σ x2 h2) (cwV 1 hts (gV k_447 k_373 k_374 k_22 k_375) rfl rfl rfl (by decide +kernel) ⟨Nat.le_of_ble_eq_true rfl, Nat.le_of_ble_eq_true rfl⟩) (pv_ro (q := (RX2, TX2, 12)) (q0 := 7) (ci := 2) hK hP rfl rfl) rfl rfl hl.1 rfl (lv_room (Nat.le_of_ble_eq_true rfl)) dX2_isLeftOf_12 ⟨Nat.le_of_ble_eq_true rfl, Nat.le_of_ble_eq_true rfl⟩) (fun r hrr => ?_)
    subst hrr
    refine lv_if_ne (tgt := 22) hx hb dX2_isLeftOf_15 (by decide) (fun c_15_2 => ?_) (fun c_15_2 => ?_)
    · skip
      rw [if_neg c_15_2] at hw
      refine lv_iconst (v := 0) hx hb dX2_isLeftOf_22 (by decide) ?_
      exact W.zret (v := (0 : Int32)) (ty := .boolean) hx hb hr (by decide) (fun t ht hW => ⟨_, rfl, hw.symm.trans hR, ht⟩) (fun _ h => by cases h) dX2_isLeftOf_23
    · skip
      rw [if_pos c_15_2] at hw
      refine lv_iconst (v := 1) hx hb dX2_isLeftOf_18 (by decide) ?_
      refine lv_goto (tgt := 23) hx hb dX2_isLeftOf_19 (by decide) ?_
      exact W.zret (v := (1 : Int32)) (ty := .boolean) hx hb hr (by decide) (fun t ht hW => ⟨_, rfl, hw.symm.trans hR, ht⟩) (fun _ h => by cases h) dX2_isLeftOf_23
set_option maxHeartbeats 4000000 in
set_option maxRecDepth 100000 in
theorem m_X2_countLeftOf (l : Launch) (dC : Nat → ClassId) (dI : Nat → Nat → Nat) (cI cZ : ClassId) (a : Nat → Nat) (σ : St) (x1 : Int32) (hiv : IV σ) : Met l yX2_countLeftOf wsX2_countLeftOf ({ frames := 2, cells := 0, slots := 0, locals := 43 }) (pRo dC dI cI cZ a σ [.ref (a 7), .int x1]) (vp_Si (fun r => r = sp_countLeftOf σ x1)) 0 0 (fun _ => False) := by
  refine Met.ofW (cc := cX2_countLeftOf) (maxL := 4) (ret := (some .int)) (by decide) rfl ?_
  intro p e s m args below meth c s₁ B hml hv
  obtain ⟨rfl, hP, hK⟩ := hv
  have hx := B.exec
  have hb := B.bytes
  have hr := B.returns
  have hts := atoms_spec (ws := wsX2_countLeftOf) B.pre
  have hown : s.vm.findClass RX2 = some m.cls := findClass_of_methodNamed B.named
  have hlocks := B.notSynchronized
  have hl := lv_entry ([.ref (a 7), .int x1]) (n := 4) (Nat.le_of_ble_eq_true rfl)
  rw [lg_entry_eq]
  generalize (lg_sl ([.ref (a 7), .int x1]) ++ List.replicate (4 - (lg_sl ([.ref (a 7), .int x1])).length) Slot.unset).toArray = ls at hl ⊢
  have hl : lv_has ls 4 [(0, .ref (a 7)), (1, .int x1)] := hl
  obtain ⟨R, hR⟩ : ∃ z, z = sp_countLeftOf σ x1 := ⟨_, rfl⟩
  have hw := hR
  unfold sp_countLeftOf at hw
  have hle := iv_le hiv
  refine lv_iconst (v := 0) hx hb dX2_countLeftOf_0 (by decide) ?_
  refine lv_istore_n (lv' := [(2, .int (0 : Int32)), (0, .ref (a 7)), (1, .int x1)]) hx hb dX2_countLeftOf_1 rfl hl (by decide) rfl (fun ls hl => ?_)
  refine lv_iconst (v := 0) hx hb dX2_countLeftOf_2 (by decide) ?_
  refine lv_istore_n (lv' := [(3, .int (0 : Int32)), (2, .int (0 : Int32)), (0, .ref (a 7)), (1, .int x1)]) hx hb dX2_countLeftOf_3 rfl hl (by decide) rfl (fun ls hl => ?_)
  have loop : ∀ (n k : Nat) (x2 : Int32) (ls : Array Slot), k + n = cntN σ → lv_has ls 4 [(0, .ref (a 7)), (1, .int x1), (2, .int x2), (3, .int (nI k))] → R = sp_countLeftOf_4 σ x1 n k x2 → W p l e (headSpec wsX2_countLeftOf ({ frames := 2, cells := 0, slots := 0, locals := 43 })).room s m [.ref (a 7), .int x1].toArray below meth c s.heap [] 0 0 (MQ below (vp_Si (fun r => r = sp_countLeftOf σ x1)) [.ref (a 7), .int x1].toArray s 0 0 (fun _ => False)) (F0 m 4 ls []) := by
    intro n
    induction n with
    | zero =>
      intro k x2 ls hkn hl hw
      rw [sp_countLeftOf_4_0] at hw
      refine lv_iload_n hx hb dX2_countLeftOf_4 rfl (lv_at hl 3 rfl) ?_
      refine lv_aload_n hx hb dX2_countLeftOf_5 rfl (lv_at hl 0 rfl) ?_
      refine va_get (D := (dC, dI)) (ci := 2) (v := .int (σ 7 11)) (C := RX2) (T := TX2) (N := 12) hx hb hts (iwX2 _) hown hK hP 7 rfl rfl 11 (by decide) (hts _ (kc k_96)) (fun _ h9 => h9) rfl dX2_countLeftOf_6 ?_
      refine lv_icmp_ge (tgt := 30) hx hb dX2_countLeftOf_9 (by decide) (fun c_9_1 => ?_) (fun c_9_1 => ?_)
      · skip
        refine lv_iload_n hx hb dX2_countLeftOf_30 rfl (lv_at hl 2 rfl) ?_
        exact W.iret (v := x2) hx hb hr (fun t ht hW => ⟨_, rfl, hw.symm.trans hR, ht⟩) (fun _ h => by cases h) dX2_countLeftOf_31
      · skip
        exact absurd (lpE (iv_cnt hiv) hkn (by omega)) c_9_1
    | succ n ih =>
      intro k x2 ls hkn hl hw
      rw [sp_countLeftOf_4_s] at hw
      have hkf : vp_in (nI k) 40 := vp_in_nI (by omega) (by decide)
      refine lv_iload_n hx hb dX2_countLeftOf_4 rfl (lv_at hl 3 rfl) ?_
      refine lv_aload_n hx hb dX2_countLeftOf_5 rfl (lv_at hl 0 rfl) ?_
      refine va_get (D := (dC, dI)) (ci := 2) (v := .int (σ 7 11)) (C := RX2) (T := TX2) (N := 12) hx hb hts (iwX2 _) hown hK hP 7 rfl rfl 11 (by decide) (hts _ (kc k_96)) (fun _ h9 => h9) rfl dX2_countLeftOf_6 ?_
      refine lv_icmp_ge (tgt := 30) hx hb dX2_countLeftOf_9 (by decide) (fun c_9_2 => ?_) (fun c_9_2 => ?_)
      · skip
        exact absurd c_9_2 (lpB (iv_cnt hiv) hkn (by omega))
      · skip
        refine lv_aload_n hx hb dX2_countLeftOf_12 rfl (lv_at hl 0 rfl) ?_
        refine lv_iload_n hx hb dX2_countLeftOf_13 rfl (lv_at hl 1 rfl) ?_
        refine lv_iload_n hx hb dX2_countLeftOf_14 rfl (lv_at hl 3 rfl) ?_
        refine vp_callSi (W.runV (As := [.int x1, .int (nI k)]) (rest := []) ⟨hx, hb, hml, hown, hts⟩ (m_X2_isLeftOf l dC dI cI cZ a σ x1 (nI k) hkf) (cwV 2 hts (gV k_443 k_445 k_5 k_22 k_446) rfl rfl rfl (by decide +kernel) ⟨Nat.le_of_ble_eq_true rfl, Nat.le_of_ble_eq_true rfl⟩) (pv_ro (q := (RX2, TX2, 12)) (q0 := 7) (ci := 2) hK hP rfl rfl) rfl rfl hl.1 rfl (lv_room (Nat.le_of_ble_eq_true rfl)) dX2_countLeftOf_15 ⟨Nat.le_of_ble_eq_true rfl, Nat.le_of_ble_eq_true rfl⟩) (fun r hrr => ?_)
        subst hrr
        refine lv_if_eq (tgt := 24) hx hb dX2_countLeftOf_18 (by decide) (fun c_18_3 => ?_) (fun c_18_3 => ?_)
        · skip
          rw [if_pos c_18_3] at hw
          refine lv_iinc (v := (nI (k + 1))) (lv' := [(3, .int (nI (k + 1))), (0, .ref (a 7)), (1, .int x1), (2, .int x2)]) hx hb dX2_countLeftOf_24 hl (k := 3) rfl (nI_1 k) (by decide) rfl (fun ls hl => ?_)
          refine lv_goto (tgt := 4) hx hb dX2_countLeftOf_27 (by decide) ?_
          exact ih (k + 1) x2 ls (by omega) (lv_sub hl [1, 2, 3, 0] rfl) hw
        · skip
          rw [if_neg c_18_3] at hw
          refine lv_iinc (v := (x2 + (1 : Int32))) (lv' := [(2, .int (x2 + (1 : Int32))), (0, .ref (a 7)), (1, .int x1), (3, .int (nI k))]) hx hb dX2_countLeftOf_21 hl (k := 2) rfl rfl (by decide) rfl (fun ls hl => ?_)
          refine lv_iinc (v := (nI (k + 1))) (lv' := [(3, .int (nI (k + 1))), (2, .int (x2 + (1 : Int32))), (0, .ref (a 7)), (1, .int x1)]) hx hb dX2_countLeftOf_24 hl (k := 3) rfl (nI_1 k) (by decide) rfl (fun ls hl => ?_)
          refine lv_goto (tgt := 4) hx hb dX2_countLeftOf_27 (by decide) ?_
          exact ih (k + 1) (x2 + (1 : Int32)) ls (by omega) (lv_sub hl [2, 3, 1, 0] rfl) hw
  exact loop (cntN σ) 0 (0 : Int32) ls (Nat.zero_add _) (lv_sub hl [2, 3, 1, 0] rfl) hw
end
section
set_option maxHeartbeats 4000000 in
set_option maxRecDepth 100000 in
theorem m_X2_findLeftOf (l : Launch) (dC : Nat → ClassId) (dI : Nat → Nat → Nat) (cI cZ : ClassId) (a : Nat → Nat) (σ : St) (x1 : Int32) (x2 : Int32) (hiv : IV σ) : Met l yX2_findLeftOf wsX2_findLeftOf ({ frames := 2, cells := 0, slots := 0, locals := 43 }) (pRo dC dI cI cZ a σ [.ref (a 7), .int x1, .int x2]) (vp_Si (fun r => r = sp_findLeftOf σ x1 x2)) 0 0 (fun _ => False) := by
  refine Met.ofW (cc := cX2_findLeftOf) (maxL := 5) (ret := (some .int)) (by decide) rfl ?_
  intro p e s m args below meth c s₁ B hml hv
  obtain ⟨rfl, hP, hK⟩ := hv
  have hx := B.exec
  have hb := B.bytes
  have hr := B.returns
  have hts := atoms_spec (ws := wsX2_findLeftOf) B.pre
  have hown : s.vm.findClass RX2 = some m.cls := findClass_of_methodNamed B.named
  have hlocks := B.notSynchronized
  have hl := lv_entry ([.ref (a 7), .int x1, .int x2]) (n := 5) (Nat.le_of_ble_eq_true rfl)
  rw [lg_entry_eq]
  generalize (lg_sl ([.ref (a 7), .int x1, .int x2]) ++ List.replicate (5 - (lg_sl ([.ref (a 7), .int x1, .int x2])).length) Slot.unset).toArray = ls at hl ⊢
  have hl : lv_has ls 5 [(0, .ref (a 7)), (1, .int x1), (2, .int x2)] := hl
  obtain ⟨R, hR⟩ : ∃ z, z = sp_findLeftOf σ x1 x2 := ⟨_, rfl⟩
  have hw := hR
  unfold sp_findLeftOf at hw
  have hle := iv_le hiv
  refine lv_iconst (v := 0) hx hb dX2_findLeftOf_0 (by decide) ?_
  refine lv_istore_n (lv' := [(3, .int (0 : Int32)), (0, .ref (a 7)), (1, .int x1), (2, .int x2)]) hx hb dX2_findLeftOf_1 rfl hl (by decide) rfl (fun ls hl => ?_)
  refine lv_iconst (v := 0) hx hb dX2_findLeftOf_2 (by decide) ?_
  refine lv_istore (lv' := [(4, .int (0 : Int32)), (3, .int (0 : Int32)), (0, .ref (a 7)), (1, .int x1), (2, .int x2)]) hx hb dX2_findLeftOf_3 hl (by decide) rfl (fun ls hl => ?_)
  have loop : ∀ (n k : Nat) (x3 : Int32) (ls : Array Slot), k + n = cntN σ → lv_has ls 5 [(0, .ref (a 7)), (1, .int x1), (2, .int x2), (3, .int x3), (4, .int (nI k))] → R = sp_findLeftOf_5 σ x1 x2 n k x3 → W p l e (headSpec wsX2_findLeftOf ({ frames := 2, cells := 0, slots := 0, locals := 43 })).room s m [.ref (a 7), .int x1, .int x2].toArray below meth c s.heap [] 0 0 (MQ below (vp_Si (fun r => r = sp_findLeftOf σ x1 x2)) [.ref (a 7), .int x1, .int x2].toArray s 0 0 (fun _ => False)) (F0 m 5 ls []) := by
    intro n
    induction n with
    | zero =>
      intro k x3 ls hkn hl hw
      rw [sp_findLeftOf_5_0] at hw
      refine lv_iload hx hb dX2_findLeftOf_5 (lv_at hl 4 rfl) ?_
      refine lv_aload_n hx hb dX2_findLeftOf_7 rfl (lv_at hl 0 rfl) ?_
      refine va_get (D := (dC, dI)) (ci := 2) (v := .int (σ 7 11)) (C := RX2) (T := TX2) (N := 12) hx hb hts (iwX2 _) hown hK hP 7 rfl rfl 11 (by decide) (hts _ (kc k_96)) (fun _ h9 => h9) rfl dX2_findLeftOf_8 ?_
      refine lv_icmp_ge (tgt := 41) hx hb dX2_findLeftOf_11 (by decide) (fun c_11_1 => ?_) (fun c_11_1 => ?_)
      · skip
        refine lv_iconst (v := -1) hx hb dX2_findLeftOf_41 (by decide) ?_
        exact W.iret (v := (-1 : Int32)) hx hb hr (fun t ht hW => ⟨_, rfl, hw.symm.trans hR, ht⟩) (fun _ h => by cases h) dX2_findLeftOf_42
      · skip
        exact absurd (lpE (iv_cnt hiv) hkn (by omega)) c_11_1
    | succ n ih =>
      intro k x3 ls hkn hl hw
      rw [sp_findLeftOf_5_s] at hw
      have hkf : vp_in (nI k) 40 := vp_in_nI (by omega) (by decide)
      refine lv_iload hx hb dX2_findLeftOf_5 (lv_at hl 4 rfl) ?_
      refine lv_aload_n hx hb dX2_findLeftOf_7 rfl (lv_at hl 0 rfl) ?_
      refine va_get (D := (dC, dI)) (ci := 2) (v := .int (σ 7 11)) (C := RX2) (T := TX2) (N := 12) hx hb hts (iwX2 _) hown hK hP 7 rfl rfl 11 (by decide) (hts _ (kc k_96)) (fun _ h9 => h9) rfl dX2_findLeftOf_8 ?_
      refine lv_icmp_ge (tgt := 41) hx hb dX2_findLeftOf_11 (by decide) (fun c_11_2 => ?_) (fun c_11_2 => ?_)
      · skip
        exact absurd c_11_2 (lpB (iv_cnt hiv) hkn (by omega))
      · skip
        refine lv_aload_n hx hb dX2_findLeftOf_14 rfl (lv_at hl 0 rfl) ?_
        refine lv_iload_n hx hb dX2_findLeftOf_15 rfl (lv_at hl 1 rfl) ?_
        refine lv_iload hx hb dX2_findLeftOf_16 (lv_at hl 4 rfl) ?_
        refine vp_callSi (W.runV (As := [.int x1, .int (nI k)]) (rest := []) ⟨hx, hb, hml, hown, hts⟩ (m_X2_isLeftOf l dC dI cI cZ a σ x1 (nI k) hkf) (cwV 2 hts (gV k_443 k_445 k_5 k_22 k_446) rfl rfl rfl (by decide +kernel) ⟨Nat.le_of_ble_eq_true rfl, Nat.le_of_ble_eq_true rfl⟩) (pv_ro (q := (RX2, TX2, 12)) (q0 := 7) (ci := 2) hK hP rfl rfl) rfl rfl hl.1 rfl (lv_room (Nat.le_of_ble_eq_true rfl)) dX2_findLeftOf_18 ⟨Nat.le_of_ble_eq_true rfl, Nat.le_of_ble_eq_true rfl⟩) (fun r hrr => ?_)
        subst hrr
        refine lv_if_eq (tgt := 35) hx hb dX2_findLeftOf_21 (by decide) (fun c_21_3 => ?_) (fun c_21_3 => ?_)
        · skip
          rw [if_pos c_21_3] at hw
          refine lv_iinc (v := (nI (k + 1))) (lv' := [(4, .int (nI (k + 1))), (0, .ref (a 7)), (1, .int x1), (2, .int x2), (3, .int x3)]) hx hb dX2_findLeftOf_35 hl (k := 4) rfl (nI_1 k) (by decide) rfl (fun ls hl => ?_)
          refine lv_goto (tgt := 5) hx hb dX2_findLeftOf_38 (by decide) ?_
          exact ih (k + 1) x3 ls (by omega) (lv_sub hl [1, 2, 3, 4, 0] rfl) hw
        · skip
          rw [if_neg c_21_3] at hw
          refine lv_iload_n hx hb dX2_findLeftOf_24 rfl (lv_at hl 3 rfl) ?_
          refine lv_iload_n hx hb dX2_findLeftOf_25 rfl (lv_at hl 2 rfl) ?_
          refine lv_icmp_ne (tgt := 32) hx hb dX2_findLeftOf_26 (by decide) (fun c_26_4 => ?_) (fun c_26_4 => ?_)
          · skip
            rw [if_neg c_26_4] at hw
            refine lv_iinc (v := (x3 + (1 : Int32))) (lv' := [(3, .int (x3 + (1 : Int32))), (0, .ref (a 7)), (1, .int x1), (2, .int x2), (4, .int (nI k))]) hx hb dX2_findLeftOf_32 hl (k := 3) rfl rfl (by decide) rfl (fun ls hl => ?_)
            refine lv_iinc (v := (nI (k + 1))) (lv' := [(4, .int (nI (k + 1))), (3, .int (x3 + (1 : Int32))), (0, .ref (a 7)), (1, .int x1), (2, .int x2)]) hx hb dX2_findLeftOf_35 hl (k := 4) rfl (nI_1 k) (by decide) rfl (fun ls hl => ?_)
            refine lv_goto (tgt := 5) hx hb dX2_findLeftOf_38 (by decide) ?_
            exact ih (k + 1) (x3 + (1 : Int32)) ls (by omega) (lv_sub hl [2, 3, 4, 1, 0] rfl) hw
          · skip
            rw [if_pos c_26_4] at hw
            refine lv_iload hx hb dX2_findLeftOf_29 (lv_at hl 4 rfl) ?_
            exact W.iret (v := nI k) hx hb hr (fun t ht hW => ⟨_, rfl, hw.symm.trans hR, ht⟩) (fun _ h => by cases h) dX2_findLeftOf_31
  exact loop (cntN σ) 0 (0 : Int32) ls (Nat.zero_add _) (lv_sub hl [2, 3, 4, 1, 0] rfl) hw
set_option maxHeartbeats 4000000 in
set_option maxRecDepth 100000 in
theorem m_X2_countScrapped (l : Launch) (dC : Nat → ClassId) (dI : Nat → Nat → Nat) (cI cZ : ClassId) (a : Nat → Nat) (σ : St) (x1 : Int32) (hiv : IV σ) : Met l yX2_countScrapped wsX2_countScrapped ({ frames := 1, cells := 0, slots := 0, locals := 21 }) (pRo dC dI cI cZ a σ [.ref (a 7), .int x1]) (vp_Si (fun r => r = sp_countScrapped σ x1)) 0 0 (fun _ => False) := by
  refine Met.ofW (cc := cX2_countScrapped) (maxL := 4) (ret := (some .int)) (by decide) rfl ?_
  intro p e s m args below meth c s₁ B hml hv
  obtain ⟨rfl, hP, hK⟩ := hv
  have hx := B.exec
  have hb := B.bytes
  have hr := B.returns
  have hts := atoms_spec (ws := wsX2_countScrapped) B.pre
  have hown : s.vm.findClass RX2 = some m.cls := findClass_of_methodNamed B.named
  have hlocks := B.notSynchronized
  have hl := lv_entry ([.ref (a 7), .int x1]) (n := 4) (Nat.le_of_ble_eq_true rfl)
  rw [lg_entry_eq]
  generalize (lg_sl ([.ref (a 7), .int x1]) ++ List.replicate (4 - (lg_sl ([.ref (a 7), .int x1])).length) Slot.unset).toArray = ls at hl ⊢
  have hl : lv_has ls 4 [(0, .ref (a 7)), (1, .int x1)] := hl
  obtain ⟨R, hR⟩ : ∃ z, z = sp_countScrapped σ x1 := ⟨_, rfl⟩
  have hw := hR
  unfold sp_countScrapped at hw
  have hle := iv_le hiv
  refine lv_iconst (v := 0) hx hb dX2_countScrapped_0 (by decide) ?_
  refine lv_istore_n (lv' := [(2, .int (0 : Int32)), (0, .ref (a 7)), (1, .int x1)]) hx hb dX2_countScrapped_1 rfl hl (by decide) rfl (fun ls hl => ?_)
  refine lv_iconst (v := 0) hx hb dX2_countScrapped_2 (by decide) ?_
  refine lv_istore_n (lv' := [(3, .int (0 : Int32)), (2, .int (0 : Int32)), (0, .ref (a 7)), (1, .int x1)]) hx hb dX2_countScrapped_3 rfl hl (by decide) rfl (fun ls hl => ?_)
  have loop : ∀ (n k : Nat) (x2 : Int32) (ls : Array Slot), k + n = cntN σ → lv_has ls 4 [(0, .ref (a 7)), (1, .int x1), (2, .int x2), (3, .int (nI k))] → R = sp_countScrapped_4 σ x1 n k x2 → W p l e (headSpec wsX2_countScrapped ({ frames := 1, cells := 0, slots := 0, locals := 21 })).room s m [.ref (a 7), .int x1].toArray below meth c s.heap [] 0 0 (MQ below (vp_Si (fun r => r = sp_countScrapped σ x1)) [.ref (a 7), .int x1].toArray s 0 0 (fun _ => False)) (F0 m 4 ls []) := by
    intro n
    induction n with
    | zero =>
      intro k x2 ls hkn hl hw
      rw [sp_countScrapped_4_0] at hw
      refine lv_iload_n hx hb dX2_countScrapped_4 rfl (lv_at hl 3 rfl) ?_
      refine lv_aload_n hx hb dX2_countScrapped_5 rfl (lv_at hl 0 rfl) ?_
      refine va_get (D := (dC, dI)) (ci := 2) (v := .int (σ 7 11)) (C := RX2) (T := TX2) (N := 12) hx hb hts (iwX2 _) hown hK hP 7 rfl rfl 11 (by decide) (hts _ (kc k_96)) (fun _ h9 => h9) rfl dX2_countScrapped_6 ?_
      refine lv_icmp_ge (tgt := 39) hx hb dX2_countScrapped_9 (by decide) (fun c_9_1 => ?_) (fun c_9_1 => ?_)
      · skip
        refine lv_iload_n hx hb dX2_countScrapped_39 rfl (lv_at hl 2 rfl) ?_
        exact W.iret (v := x2) hx hb hr (fun t ht hW => ⟨_, rfl, hw.symm.trans hR, ht⟩) (fun _ h => by cases h) dX2_countScrapped_40
      · skip
        exact absurd (lpE (iv_cnt hiv) hkn (by omega)) c_9_1
    | succ n ih =>
      intro k x2 ls hkn hl hw
      rw [sp_countScrapped_4_s] at hw
      have hkf : vp_in (nI k) 40 := vp_in_nI (by omega) (by decide)
      refine lv_iload_n hx hb dX2_countScrapped_4 rfl (lv_at hl 3 rfl) ?_
      refine lv_aload_n hx hb dX2_countScrapped_5 rfl (lv_at hl 0 rfl) ?_
      refine va_get (D := (dC, dI)) (ci := 2) (v := .int (σ 7 11)) (C := RX2) (T := TX2) (N := 12) hx hb hts (iwX2 _) hown hK hP 7 rfl rfl 11 (by decide) (hts _ (kc k_96)) (fun _ h9 => h9) rfl dX2_countScrapped_6 ?_
      refine lv_icmp_ge (tgt := 39) hx hb dX2_countScrapped_9 (by decide) (fun c_9_2 => ?_) (fun c_9_2 => ?_)
      · skip
        exact absurd c_9_2 (lpB (iv_cnt hiv) hkn (by omega))
      · skip
        refine lv_aload_n hx hb dX2_countScrapped_12 rfl (lv_at hl 0 rfl) ?_
        refine va_get (D := (dC, dI)) (ci := 2) (v := .ref (a 8)) (C := RX2) (T := TX2) (N := 12) hx hb hts (iwX2 _) hown hK hP 7 rfl rfl 0 (by decide) (hts _ (kc k_76)) (fun _ h9 => h9) rfl dX2_countScrapped_13 ?_
        refine lv_iload_n hx hb dX2_countScrapped_16 rfl (lv_at hl 3 rfl) ?_
        refine va_iald (D := (dC, dI)) (f := σ 8) hx hb hK hP 8 0 rfl rfl (i := nI k) hkf dX2_countScrapped_17 ?_
        refine lv_iload_n hx hb dX2_countScrapped_18 rfl (lv_at hl 1 rfl) ?_
        refine lv_icmp_ne (tgt := 33) hx hb dX2_countScrapped_19 (by decide) (fun c_19_3 => ?_) (fun c_19_3 => ?_)
        · skip
          rw [if_neg c_19_3] at hw
          refine lv_iinc (v := (nI (k + 1))) (lv' := [(3, .int (nI (k + 1))), (0, .ref (a 7)), (1, .int x1), (2, .int x2)]) hx hb dX2_countScrapped_33 hl (k := 3) rfl (nI_1 k) (by decide) rfl (fun ls hl => ?_)
          refine lv_goto (tgt := 4) hx hb dX2_countScrapped_36 (by decide) ?_
          exact ih (k + 1) x2 ls (by omega) (lv_sub hl [1, 2, 3, 0] rfl) hw
        · skip
          rw [if_pos c_19_3] at hw
          refine lv_aload_n hx hb dX2_countScrapped_22 rfl (lv_at hl 0 rfl) ?_
          refine lv_iload_n hx hb dX2_countScrapped_23 rfl (lv_at hl 3 rfl) ?_
          refine vp_callSi (W.runV (As := [.int (nI k)]) (rest := []) ⟨hx, hb, hml, hown, hts⟩ (m_X2_isScrapped l dC dI cI cZ a σ (nI k) hkf) (cwV 1 hts (gV k_447 k_373 k_374 k_22 k_375) rfl rfl rfl (by decide +kernel) ⟨Nat.le_of_ble_eq_true rfl, Nat.le_of_ble_eq_true rfl⟩) (pv_ro (q := (RX2, TX2, 12)) (q0 := 7) (ci := 2) hK hP rfl rfl) rfl rfl hl.1 rfl (lv_room (Nat.le_of_ble_eq_true rfl)) dX2_countScrapped_24 ⟨Nat.le_of_ble_eq_true rfl, Nat.le_of_ble_eq_true rfl⟩) (fun r hrr => ?_)
          subst hrr
          refine lv_if_eq (tgt := 33) hx hb dX2_countScrapped_27 (by decide) (fun c_27_4 => ?_) (fun c_27_4 => ?_)
          · skip
            rw [if_pos c_27_4] at hw
            refine lv_iinc (v := (nI (k + 1))) (lv' := [(3, .int (nI (k + 1))), (0, .ref (a 7)), (1, .int x1), (2, .int x2)]) hx hb dX2_countScrapped_33 hl (k := 3) rfl (nI_1 k) (by decide) rfl (fun ls hl => ?_)
            refine lv_goto (tgt := 4) hx hb dX2_countScrapped_36 (by decide) ?_
            exact ih (k + 1) x2 ls (by omega) (lv_sub hl [1, 2, 3, 0] rfl) hw
          · skip
            rw [if_neg c_27_4] at hw
            refine lv_iinc (v := (x2 + (1 : Int32))) (lv' := [(2, .int (x2 + (1 : Int32))), (0, .ref (a 7)), (1, .int x1), (3, .int (nI k))]) hx hb dX2_countScrapped_30 hl (k := 2) rfl rfl (by decide) rfl (fun ls hl => ?_)
            refine lv_iinc (v := (nI (k + 1))) (lv' := [(3, .int (nI (k + 1))), (2, .int (x2 + (1 : Int32))), (0, .ref (a 7)), (1, .int x1)]) hx hb dX2_countScrapped_33 hl (k := 3) rfl (nI_1 k) (by decide) rfl (fun ls hl => ?_)
            refine lv_goto (tgt := 4) hx hb dX2_countScrapped_36 (by decide) ?_
            exact ih (k + 1) (x2 + (1 : Int32)) ls (by omega) (lv_sub hl [2, 3, 1, 0] rfl) hw
  exact loop (cntN σ) 0 (0 : Int32) ls (Nat.zero_add _) (lv_sub hl [2, 3, 1, 0] rfl) hw
set_option maxHeartbeats 4000000 in
set_option maxRecDepth 100000 in
theorem m_X2_sumOfLives (l : Launch) (dC : Nat → ClassId) (dI : Nat → Nat → Nat) (cI cZ : ClassId) (a : Nat → Nat) (σ : St) (x1 : Int32) (hiv : IV σ) : Met l yX2_sumOfLives wsX2_sumOfLives ({ frames := 1, cells := 0, slots := 0, locals := 21 }) (pRo dC dI cI cZ a σ [.ref (a 7), .int x1]) (vp_Si (fun r => r = sp_sumOfLives σ x1)) 0 0 (fun _ => False) := by
  refine Met.ofW (cc := cX2_sumOfLives) (maxL := 4) (ret := (some .int)) (by decide) rfl ?_
  intro p e s m args below meth c s₁ B hml hv
  obtain ⟨rfl, hP, hK⟩ := hv
  have hx := B.exec
  have hb := B.bytes
  have hr := B.returns
  have hts := atoms_spec (ws := wsX2_sumOfLives) B.pre
  have hown : s.vm.findClass RX2 = some m.cls := findClass_of_methodNamed B.named
  have hlocks := B.notSynchronized
  have hl := lv_entry ([.ref (a 7), .int x1]) (n := 4) (Nat.le_of_ble_eq_true rfl)
  rw [lg_entry_eq]
  generalize (lg_sl ([.ref (a 7), .int x1]) ++ List.replicate (4 - (lg_sl ([.ref (a 7), .int x1])).length) Slot.unset).toArray = ls at hl ⊢
  have hl : lv_has ls 4 [(0, .ref (a 7)), (1, .int x1)] := hl
  obtain ⟨R, hR⟩ : ∃ z, z = sp_sumOfLives σ x1 := ⟨_, rfl⟩
  have hw := hR
  unfold sp_sumOfLives at hw
  have hle := iv_le hiv
  refine lv_iconst (v := 0) hx hb dX2_sumOfLives_0 (by decide) ?_
  refine lv_istore_n (lv' := [(2, .int (0 : Int32)), (0, .ref (a 7)), (1, .int x1)]) hx hb dX2_sumOfLives_1 rfl hl (by decide) rfl (fun ls hl => ?_)
  refine lv_iconst (v := 0) hx hb dX2_sumOfLives_2 (by decide) ?_
  refine lv_istore_n (lv' := [(3, .int (0 : Int32)), (2, .int (0 : Int32)), (0, .ref (a 7)), (1, .int x1)]) hx hb dX2_sumOfLives_3 rfl hl (by decide) rfl (fun ls hl => ?_)
  have loop : ∀ (n k : Nat) (x2 : Int32) (ls : Array Slot), k + n = cntN σ → lv_has ls 4 [(0, .ref (a 7)), (1, .int x1), (2, .int x2), (3, .int (nI k))] → R = sp_sumOfLives_4 σ x1 n k x2 → W p l e (headSpec wsX2_sumOfLives ({ frames := 1, cells := 0, slots := 0, locals := 21 })).room s m [.ref (a 7), .int x1].toArray below meth c s.heap [] 0 0 (MQ below (vp_Si (fun r => r = sp_sumOfLives σ x1)) [.ref (a 7), .int x1].toArray s 0 0 (fun _ => False)) (F0 m 4 ls []) := by
    intro n
    induction n with
    | zero =>
      intro k x2 ls hkn hl hw
      rw [sp_sumOfLives_4_0] at hw
      refine lv_iload_n hx hb dX2_sumOfLives_4 rfl (lv_at hl 3 rfl) ?_
      refine lv_aload_n hx hb dX2_sumOfLives_5 rfl (lv_at hl 0 rfl) ?_
      refine va_get (D := (dC, dI)) (ci := 2) (v := .int (σ 7 11)) (C := RX2) (T := TX2) (N := 12) hx hb hts (iwX2 _) hown hK hP 7 rfl rfl 11 (by decide) (hts _ (kc k_96)) (fun _ h9 => h9) rfl dX2_sumOfLives_6 ?_
      refine lv_icmp_ge (tgt := 52) hx hb dX2_sumOfLives_9 (by decide) (fun c_9_1 => ?_) (fun c_9_1 => ?_)
      · skip
        refine lv_iload_n hx hb dX2_sumOfLives_52 rfl (lv_at hl 2 rfl) ?_
        exact W.iret (v := x2) hx hb hr (fun t ht hW => ⟨_, rfl, hw.symm.trans hR, ht⟩) (fun _ h => by cases h) dX2_sumOfLives_53
      · skip
        exact absurd (lpE (iv_cnt hiv) hkn (by omega)) c_9_1
    | succ n ih =>
      intro k x2 ls hkn hl hw
      rw [sp_sumOfLives_4_s] at hw
      have hkf : vp_in (nI k) 40 := vp_in_nI (by omega) (by decide)
      refine lv_iload_n hx hb dX2_sumOfLives_4 rfl (lv_at hl 3 rfl) ?_
      refine lv_aload_n hx hb dX2_sumOfLives_5 rfl (lv_at hl 0 rfl) ?_
      refine va_get (D := (dC, dI)) (ci := 2) (v := .int (σ 7 11)) (C := RX2) (T := TX2) (N := 12) hx hb hts (iwX2 _) hown hK hP 7 rfl rfl 11 (by decide) (hts _ (kc k_96)) (fun _ h9 => h9) rfl dX2_sumOfLives_6 ?_
      refine lv_icmp_ge (tgt := 52) hx hb dX2_sumOfLives_9 (by decide) (fun c_9_2 => ?_) (fun c_9_2 => ?_)
      · skip
        exact absurd c_9_2 (lpB (iv_cnt hiv) hkn (by omega))
      · skip
        refine lv_aload_n hx hb dX2_sumOfLives_12 rfl (lv_at hl 0 rfl) ?_
        refine va_get (D := (dC, dI)) (ci := 2) (v := .ref (a 8)) (C := RX2) (T := TX2) (N := 12) hx hb hts (iwX2 _) hown hK hP 7 rfl rfl 0 (by decide) (hts _ (kc k_76)) (fun _ h9 => h9) rfl dX2_sumOfLives_13 ?_
        refine lv_iload_n hx hb dX2_sumOfLives_16 rfl (lv_at hl 3 rfl) ?_
        refine va_iald (D := (dC, dI)) (f := σ 8) hx hb hK hP 8 0 rfl rfl (i := nI k) hkf dX2_sumOfLives_17 ?_
        refine lv_iload_n hx hb dX2_sumOfLives_18 rfl (lv_at hl 1 rfl) ?_
        refine lv_icmp_ne (tgt := 46) hx hb dX2_sumOfLives_19 (by decide) (fun c_19_3 => ?_) (fun c_19_3 => ?_)
        · skip
          rw [if_neg c_19_3] at hw
          refine lv_iinc (v := (nI (k + 1))) (lv' := [(3, .int (nI (k + 1))), (0, .ref (a 7)), (1, .int x1), (2, .int x2)]) hx hb dX2_sumOfLives_46 hl (k := 3) rfl (nI_1 k) (by decide) rfl (fun ls hl => ?_)
          refine lv_goto (tgt := 4) hx hb dX2_sumOfLives_49 (by decide) ?_
          exact ih (k + 1) x2 ls (by omega) (lv_sub hl [1, 2, 3, 0] rfl) hw
        · skip
          rw [if_pos c_19_3] at hw
          refine lv_aload_n hx hb dX2_sumOfLives_22 rfl (lv_at hl 0 rfl) ?_
          refine lv_iload_n hx hb dX2_sumOfLives_23 rfl (lv_at hl 3 rfl) ?_
          refine vp_callSi (W.runV (As := [.int (nI k)]) (rest := []) ⟨hx, hb, hml, hown, hts⟩ (m_X2_isScrapped l dC dI cI cZ a σ (nI k) hkf) (cwV 1 hts (gV k_447 k_373 k_374 k_22 k_375) rfl rfl rfl (by decide +kernel) ⟨Nat.le_of_ble_eq_true rfl, Nat.le_of_ble_eq_true rfl⟩) (pv_ro (q := (RX2, TX2, 12)) (q0 := 7) (ci := 2) hK hP rfl rfl) rfl rfl hl.1 rfl (lv_room (Nat.le_of_ble_eq_true rfl)) dX2_sumOfLives_24 ⟨Nat.le_of_ble_eq_true rfl, Nat.le_of_ble_eq_true rfl⟩) (fun r hrr => ?_)
          subst hrr
          refine lv_if_eq (tgt := 46) hx hb dX2_sumOfLives_27 (by decide) (fun c_27_4 => ?_) (fun c_27_4 => ?_)
          · skip
            rw [if_pos c_27_4] at hw
            refine lv_iinc (v := (nI (k + 1))) (lv' := [(3, .int (nI (k + 1))), (0, .ref (a 7)), (1, .int x1), (2, .int x2)]) hx hb dX2_sumOfLives_46 hl (k := 3) rfl (nI_1 k) (by decide) rfl (fun ls hl => ?_)
            refine lv_goto (tgt := 4) hx hb dX2_sumOfLives_49 (by decide) ?_
            exact ih (k + 1) x2 ls (by omega) (lv_sub hl [1, 2, 3, 0] rfl) hw
          · skip
            rw [if_neg c_27_4] at hw
            refine lv_iload_n hx hb dX2_sumOfLives_30 rfl (lv_at hl 2 rfl) ?_
            refine lv_aload_n hx hb dX2_sumOfLives_31 rfl (lv_at hl 0 rfl) ?_
            refine va_get (D := (dC, dI)) (ci := 2) (v := .ref (a 13)) (C := RX2) (T := TX2) (N := 12) hx hb hts (iwX2 _) hown hK hP 7 rfl rfl 5 (by decide) (hts _ (kc k_85)) (fun _ h9 => h9) rfl dX2_sumOfLives_32 ?_
            refine lv_iload_n hx hb dX2_sumOfLives_35 rfl (lv_at hl 3 rfl) ?_
            refine va_iald (D := (dC, dI)) (f := σ 13) hx hb hK hP 13 0 rfl rfl (i := nI k) hkf dX2_sumOfLives_36 ?_
            refine lv_aload_n hx hb dX2_sumOfLives_37 rfl (lv_at hl 0 rfl) ?_
            refine va_get (D := (dC, dI)) (ci := 2) (v := .ref (a 12)) (C := RX2) (T := TX2) (N := 12) hx hb hts (iwX2 _) hown hK hP 7 rfl rfl 4 (by decide) (hts _ (kc k_83)) (fun _ h9 => h9) rfl dX2_sumOfLives_38 ?_
            refine lv_iload_n hx hb dX2_sumOfLives_41 rfl (lv_at hl 3 rfl) ?_
            refine va_iald (D := (dC, dI)) (f := σ 12) hx hb hK hP 12 0 rfl rfl (i := nI k) hkf dX2_sumOfLives_42 ?_
            refine lv_isub hx hb dX2_sumOfLives_43 ?_
            refine lv_iadd hx hb dX2_sumOfLives_44 ?_
            refine lv_istore_n (lv' := [(2, .int (x2 + ((σ 13 (nI k).toNatClampNeg) - (σ 12 (nI k).toNatClampNeg)))), (0, .ref (a 7)), (1, .int x1), (3, .int (nI k))]) hx hb dX2_sumOfLives_45 rfl hl (by decide) rfl (fun ls hl => ?_)
            refine lv_iinc (v := (nI (k + 1))) (lv' := [(3, .int (nI (k + 1))), (2, .int (x2 + ((σ 13 (nI k).toNatClampNeg) - (σ 12 (nI k).toNatClampNeg)))), (0, .ref (a 7)), (1, .int x1)]) hx hb dX2_sumOfLives_46 hl (k := 3) rfl (nI_1 k) (by decide) rfl (fun ls hl => ?_)
            refine lv_goto (tgt := 4) hx hb dX2_sumOfLives_49 (by decide) ?_
            exact ih (k + 1) (x2 + ((σ 13 (nI k).toNatClampNeg) - (σ 12 (nI k).toNatClampNeg))) ls (by omega) (lv_sub hl [2, 3, 1, 0] rfl) hw
  exact loop (cntN σ) 0 (0 : Int32) ls (Nat.zero_add _) (lv_sub hl [2, 3, 1, 0] rfl) hw
set_option maxHeartbeats 4000000 in
set_option maxRecDepth 100000 in
theorem m_X2_add (l : Launch) (dC : Nat → ClassId) (dI : Nat → Nat → Nat) (cI cZ : ClassId) (a : Nat → Nat) (sz : Nat) (σ : St) (x1 : Int32) (x2 : Int32) (x3 : Int32) (x4 : Int32) (x5 : Int32) (h6 : vp_in (σ 7 11) 40) : Met l yX2_add wsX2_add ({ frames := 0, cells := 0, slots := 0, locals := 0 }) (pMu dC dI cI cZ a sz σ [.ref (a 7), .int x1, .int x2, .int x3, .int x4, .int x5]) (va_Qi (fun r σ9 => (r, σ9) = sp_add σ x1 x2 x3 x4 x5) (bMu dC dI cI cZ a (va_A (cw cI cZ a σ) sz)) (va_A (cw cI cZ a σ) sz)) 0 0 (va_A (cw cI cZ a σ) sz) := by
  refine Met.ofW (cc := cX2_add) (maxL := 8) (ret := (some .int)) (by decide) rfl ?_
  intro p e s m args below meth c s₁ B hml hv
  obtain ⟨rfl, hsz, hP, hK, hD0⟩ := hv
  have hx := B.exec
  have hb := B.bytes
  have hr := B.returns
  have hts := atoms_spec (ws := wsX2_add) B.pre
  have hown : s.vm.findClass RX2 = some m.cls := findClass_of_methodNamed B.named
  have hlocks := B.notSynchronized
  subst hsz
  have hD := hD0.self (sz := s.heap.size)
  generalize hAe : va_A (cw cI cZ a σ) s.heap.size = A at hD ⊢
  have hA : ∀ q : Nat, s.heap.size ≤ q → A q := fun q h => by rw [← hAe]; exact Or.inr h
  clear hAe hD0
  obtain ⟨H, hHe⟩ : ∃ z, z = s.heap := ⟨_, rfl⟩
  obtain ⟨locs, hLe⟩ : ∃ z : List Loc, z = [] := ⟨_, rfl⟩
  have hS : va_S A s.heap H locs := by rw [hHe, hLe]; exact va_S.rf
  have hP : va_P (dC, dI) vwCl (cw cI cZ a σ) H := by rw [hHe]; exact hP
  refine W_ofH hHe hLe ?_
  clear hHe hLe
  have hl := lv_entry ([.ref (a 7), .int x1, .int x2, .int x3, .int x4, .int x5]) (n := 8) (Nat.le_of_ble_eq_true rfl)
  rw [lg_entry_eq]
  generalize (lg_sl ([.ref (a 7), .int x1, .int x2, .int x3, .int x4, .int x5]) ++ List.replicate (8 - (lg_sl ([.ref (a 7), .int x1, .int x2, .int x3, .int x4, .int x5])).length) Slot.unset).toArray = ls at hl ⊢
  have hl : lv_has ls 8 [(0, .ref (a 7)), (1, .int x1), (2, .int x2), (3, .int x3), (4, .int x4), (5, .int x5)] := hl
  obtain ⟨R, hR⟩ : ∃ z, z = sp_add σ x1 x2 x3 x4 x5 := ⟨_, rfl⟩
  have hw := hR
  unfold sp_add at hw
  refine lv_aload_n hx hb dX2_add_0 rfl (lv_at hl 0 rfl) ?_
  refine va_get (D := (dC, dI)) (ci := 2) (v := .int (σ 7 11)) (C := RX2) (T := TX2) (N := 12) hx hb hts (iwX2 _) hown hK hP 7 rfl rfl 11 (by decide) (hts _ (kc k_96)) (fun _ h9 => h9) rfl dX2_add_1 ?_
  refine lv_istore (lv' := [(6, .int (σ 7 11)), (0, .ref (a 7)), (1, .int x1), (2, .int x2), (3, .int x3), (4, .int x4), (5, .int x5)]) hx hb dX2_add_4 hl (by decide) rfl (fun ls hl => ?_)
  refine lv_aload_n hx hb dX2_add_6 rfl (lv_at hl 1 rfl) ?_
  refine va_get (D := (dC, dI)) (ci := 2) (v := .ref (a 8)) (C := RX2) (T := TX2) (N := 12) hx hb hts (iwX2 _) hown hK hP 7 rfl rfl 0 (by decide) (hts _ (kc k_76)) (fun _ h9 => h9) rfl dX2_add_7 ?_
  refine lv_iload hx hb dX2_add_10 (lv_at hl 0 rfl) ?_
  refine lv_iload_n hx hb dX2_add_12 rfl (lv_at hl 2 rfl) ?_
  refine va_iast (D := (dC, dI)) (f := σ 8) hx hb hK hP hD hS 8 0 rfl rfl (i := σ 7 11) (x := x1) h6 dX2_add_13 (fun H locs hP hD hS => ?_)
  obtain ⟨σ_1, eσ_1⟩ : ∃ z : St, z = su σ 8 ((σ 7 11).toNatClampNeg) x1 := ⟨_, rfl⟩
  replace hP := P_cw_8 hP
  replace hD := D_cw_8 hD
  rw [← eσ_1] at hP hD
  replace hw : R = (let σ_2 : St := su σ_1 9 ((σ 7 11).toNatClampNeg) x2; let σ_3 : St := su σ_2 10 ((σ 7 11).toNatClampNeg) x3; let σ_4 : St := su σ_3 11 ((σ 7 11).toNatClampNeg) x4; let σ_5 : St := su σ_4 12 ((σ 7 11).toNatClampNeg) x5; let σ_6 : St := su σ_5 13 ((σ 7 11).toNatClampNeg) (-1 : Int32); sp_add_59 σ x1 x2 x3 x4 x5 σ_6 3 0) := by subst eσ_1; exact hw
  refine lv_aload_n hx hb dX2_add_14 rfl (lv_at hl 1 rfl) ?_
  refine va_get (D := (dC, dI)) (ci := 2) (v := .ref (a 9)) (C := RX2) (T := TX2) (N := 12) hx hb hts (iwX2 _) hown hK hP 7 rfl rfl 1 (by decide) (hts _ (kc k_78)) (fun _ h9 => h9) rfl dX2_add_15 ?_
  refine lv_iload hx hb dX2_add_18 (lv_at hl 0 rfl) ?_
  refine lv_iload_n hx hb dX2_add_20 rfl (lv_at hl 3 rfl) ?_
  refine va_iast (D := (dC, dI)) (f := σ_1 9) hx hb hK hP hD hS 9 0 rfl rfl (i := σ 7 11) (x := x2) h6 dX2_add_21 (fun H locs hP hD hS => ?_)
  obtain ⟨σ_2, eσ_2⟩ : ∃ z : St, z = su σ_1 9 ((σ 7 11).toNatClampNeg) x2 := ⟨_, rfl⟩
  replace hP := P_cw_9 hP
  replace hD := D_cw_9 hD
  rw [← eσ_2] at hP hD
  replace hw : R = (let σ_3 : St := su σ_2 10 ((σ 7 11).toNatClampNeg) x3; let σ_4 : St := su σ_3 11 ((σ 7 11).toNatClampNeg) x4; let σ_5 : St := su σ_4 12 ((σ 7 11).toNatClampNeg) x5; let σ_6 : St := su σ_5 13 ((σ 7 11).toNatClampNeg) (-1 : Int32); sp_add_59 σ x1 x2 x3 x4 x5 σ_6 3 0) := by subst eσ_2; exact hw
  refine lv_aload_n hx hb dX2_add_22 rfl (lv_at hl 1 rfl) ?_
  refine va_get (D := (dC, dI)) (ci := 2) (v := .ref (a 10)) (C := RX2) (T := TX2) (N := 12) hx hb hts (iwX2 _) hown hK hP 7 rfl rfl 2 (by decide) (hts _ (kc k_79)) (fun _ h9 => h9) rfl dX2_add_23 ?_
  refine lv_iload hx hb dX2_add_26 (lv_at hl 0 rfl) ?_
  refine lv_iload_n hx hb dX2_add_28 rfl (lv_at hl 4 rfl) ?_
  refine va_iast (D := (dC, dI)) (f := σ_2 10) hx hb hK hP hD hS 10 0 rfl rfl (i := σ 7 11) (x := x3) h6 dX2_add_29 (fun H locs hP hD hS => ?_)
  obtain ⟨σ_3, eσ_3⟩ : ∃ z : St, z = su σ_2 10 ((σ 7 11).toNatClampNeg) x3 := ⟨_, rfl⟩
  replace hP := P_cw_10 hP
  replace hD := D_cw_10 hD
  rw [← eσ_3] at hP hD
  replace hw : R = (let σ_4 : St := su σ_3 11 ((σ 7 11).toNatClampNeg) x4; let σ_5 : St := su σ_4 12 ((σ 7 11).toNatClampNeg) x5; let σ_6 : St := su σ_5 13 ((σ 7 11).toNatClampNeg) (-1 : Int32); sp_add_59 σ x1 x2 x3 x4 x5 σ_6 3 0) := by subst eσ_3; exact hw
  refine lv_aload_n hx hb dX2_add_30 rfl (lv_at hl 1 rfl) ?_
  refine va_get (D := (dC, dI)) (ci := 2) (v := .ref (a 11)) (C := RX2) (T := TX2) (N := 12) hx hb hts (iwX2 _) hown hK hP 7 rfl rfl 3 (by decide) (hts _ (kc k_81)) (fun _ h9 => h9) rfl dX2_add_31 ?_
  refine lv_iload hx hb dX2_add_34 (lv_at hl 0 rfl) ?_
  refine lv_iload hx hb dX2_add_36 (lv_at hl 5 rfl) ?_
  refine va_iast (D := (dC, dI)) (f := σ_3 11) hx hb hK hP hD hS 11 0 rfl rfl (i := σ 7 11) (x := x4) h6 dX2_add_38 (fun H locs hP hD hS => ?_)
  obtain ⟨σ_4, eσ_4⟩ : ∃ z : St, z = su σ_3 11 ((σ 7 11).toNatClampNeg) x4 := ⟨_, rfl⟩
  replace hP := P_cw_11 hP
  replace hD := D_cw_11 hD
  rw [← eσ_4] at hP hD
  replace hw : R = (let σ_5 : St := su σ_4 12 ((σ 7 11).toNatClampNeg) x5; let σ_6 : St := su σ_5 13 ((σ 7 11).toNatClampNeg) (-1 : Int32); sp_add_59 σ x1 x2 x3 x4 x5 σ_6 3 0) := by subst eσ_4; exact hw
  refine lv_aload_n hx hb dX2_add_39 rfl (lv_at hl 1 rfl) ?_
  refine va_get (D := (dC, dI)) (ci := 2) (v := .ref (a 12)) (C := RX2) (T := TX2) (N := 12) hx hb hts (iwX2 _) hown hK hP 7 rfl rfl 4 (by decide) (hts _ (kc k_83)) (fun _ h9 => h9) rfl dX2_add_40 ?_
  refine lv_iload hx hb dX2_add_43 (lv_at hl 0 rfl) ?_
  refine lv_iload hx hb dX2_add_45 (lv_at hl 6 rfl) ?_
  refine va_iast (D := (dC, dI)) (f := σ_4 12) hx hb hK hP hD hS 12 0 rfl rfl (i := σ 7 11) (x := x5) h6 dX2_add_47 (fun H locs hP hD hS => ?_)
  obtain ⟨σ_5, eσ_5⟩ : ∃ z : St, z = su σ_4 12 ((σ 7 11).toNatClampNeg) x5 := ⟨_, rfl⟩
  replace hP := P_cw_12 hP
  replace hD := D_cw_12 hD
  rw [← eσ_5] at hP hD
  replace hw : R = (let σ_6 : St := su σ_5 13 ((σ 7 11).toNatClampNeg) (-1 : Int32); sp_add_59 σ x1 x2 x3 x4 x5 σ_6 3 0) := by subst eσ_5; exact hw
  refine lv_aload_n hx hb dX2_add_48 rfl (lv_at hl 1 rfl) ?_
  refine va_get (D := (dC, dI)) (ci := 2) (v := .ref (a 13)) (C := RX2) (T := TX2) (N := 12) hx hb hts (iwX2 _) hown hK hP 7 rfl rfl 5 (by decide) (hts _ (kc k_85)) (fun _ h9 => h9) rfl dX2_add_49 ?_
  refine lv_iload hx hb dX2_add_52 (lv_at hl 0 rfl) ?_
  refine lv_iconst (v := -1) hx hb dX2_add_54 (by decide) ?_
  refine va_iast (D := (dC, dI)) (f := σ_5 13) hx hb hK hP hD hS 13 0 rfl rfl (i := σ 7 11) (x := (-1 : Int32)) h6 dX2_add_55 (fun H locs hP hD hS => ?_)
  obtain ⟨σ_6, eσ_6⟩ : ∃ z : St, z = su σ_5 13 ((σ 7 11).toNatClampNeg) (-1 : Int32) := ⟨_, rfl⟩
  replace hP := P_cw_13 hP
  replace hD := D_cw_13 hD
  rw [← eσ_6] at hP hD
  replace hw : R = (sp_add_59 σ x1 x2 x3 x4 x5 σ_6 3 0) := by subst eσ_6; exact hw
  refine lv_iconst (v := 0) hx hb dX2_add_56 (by decide) ?_
  refine lv_istore (lv' := [(7, .int (0 : Int32)), (6, .int (σ 7 11)), (0, .ref (a 7)), (1, .int x1), (2, .int x2), (3, .int x3), (4, .int x4), (5, .int x5)]) hx hb dX2_add_57 hl (by decide) rfl (fun ls hl => ?_)
  have loop : ∀ (n k : Nat) (σ1 : St) (H : Heap) (locs : List Loc) (ls : Array Slot), k + n = 3 → va_P (dC, dI) vwCl (cw cI cZ a σ1) H → va_D A (cw cI cZ a σ1) → va_S A s.heap H locs → lv_has ls 8 [(0, .ref (a 7)), (1, .int x1), (2, .int x2), (3, .int x3), (4, .int x4), (5, .int x5), (6, .int (σ 7 11)), (7, .int (nI k))] → R = sp_add_59 σ x1 x2 x3 x4 x5 σ1 n k → W p l e (headSpec wsX2_add ({ frames := 0, cells := 0, slots := 0, locals := 0 })).room s m [.ref (a 7), .int x1, .int x2, .int x3, .int x4, .int x5].toArray below meth c H locs 0 0 (MQ below (va_Qi (fun r σ9 => (r, σ9) = sp_add σ x1 x2 x3 x4 x5) (bMu dC dI cI cZ a A) A) [.ref (a 7), .int x1, .int x2, .int x3, .int x4, .int x5].toArray s 0 0 A) (F0 m 59 ls []) := by
    intro n
    induction n with
    | zero =>
      intro k σ1 H locs ls hkn hP hD hS hl hw
      rw [sp_add_59_0] at hw
      refine lv_iload hx hb dX2_add_59 (lv_at hl 7 rfl) ?_
      refine lv_iconst (v := 3) hx hb dX2_add_61 (by decide) ?_
      refine lv_icmp_ge (tgt := 85) hx hb dX2_add_62 (by decide) (fun c_62_7 => ?_) (fun c_62_7 => ?_)
      · skip
        refine lv_aload_n hx hb dX2_add_85 rfl (lv_at hl 0 rfl) ?_
        refine lv_dup hx hb dX2_add_86 rfl ?_
        refine va_get (D := (dC, dI)) (ci := 2) (v := .int (σ1 7 11)) (C := RX2) (T := TX2) (N := 12) hx hb hts (iwX2 _) hown hK hP 7 rfl rfl 11 (by decide) (hts _ (kc k_96)) (fun _ h9 => h9) rfl dX2_add_87 ?_
        refine lv_iconst (v := 1) hx hb dX2_add_90 (by decide) ?_
        refine lv_iadd hx hb dX2_add_91 ?_
        refine va_put (D := (dC, dI)) (ci := 2) (v := .int ((σ1 7 11) + (1 : Int32))) (ty := .int) (C := RX2) (T := TX2) (N := 12) hx hb hts (iwX2 _) tyX2 tyX2_ok nmX2 hown hK hP hD hS 7 rfl rfl 11 (by decide) (hts _ (kc k_96)) (fun _ h9 => h9) rfl (by decide +kernel) rfl rfl (Nat.le_of_ble_eq_true rfl) dX2_add_92 (fun H locs hP hD hS => ?_)
        obtain ⟨σ_8, eσ_8⟩ : ∃ z : St, z = su σ1 7 11 ((σ1 7 11) + (1 : Int32)) := ⟨_, rfl⟩
        replace hP := P_cw_7_11 hP
        replace hD := D_cw_7_11 hD
        rw [← eσ_8] at hP hD
        replace hw : R = ((σ 7 11, σ_8)) := by subst eσ_8; exact hw
        refine lv_iload hx hb dX2_add_95 (lv_at hl 6 rfl) ?_
        exact W.iret (v := σ 7 11) hx hb hr (fun t ht hW => ⟨⟨σ 7 11, σ_8, rfl, hw.symm.trans hR, by rw [ht]; exact hP, va_K.moved hW.alike hK, hD⟩, hS.F ht⟩) hS.2.2 dX2_add_97
      · skip
        exact absurd (lpE ht_3 hkn (by omega)) c_62_7
    | succ n ih =>
      intro k σ1 H locs ls hkn hP hD hS hl hw
      rw [sp_add_59_s] at hw
      have hkf : vp_in (nI k) 3 := vp_in_nI (by omega) (by decide)
      refine lv_iload hx hb dX2_add_59 (lv_at hl 7 rfl) ?_
      refine lv_iconst (v := 3) hx hb dX2_add_61 (by decide) ?_
      refine lv_icmp_ge (tgt := 85) hx hb dX2_add_62 (by decide) (fun c_62_9 => ?_) (fun c_62_9 => ?_)
      · skip
        exact absurd c_62_9 (lpB ht_3 hkn (by omega))
      · skip
        refine lv_aload_n hx hb dX2_add_65 rfl (lv_at hl 0 rfl) ?_
        refine va_get (D := (dC, dI)) (ci := 2) (v := .ref (a 16)) (C := RX2) (T := TX2) (N := 12) hx hb hts (iwX2 _) hown hK hP 7 rfl rfl 8 (by decide) (hts _ (kc k_91)) (fun _ h9 => h9) rfl dX2_add_66 ?_
        refine lv_iload hx hb dX2_add_69 (lv_at hl 6 rfl) ?_
        refine lv_iconst (v := 3) hx hb dX2_add_71 (by decide) ?_
        refine lv_imul hx hb dX2_add_72 ?_
        refine lv_iload hx hb dX2_add_73 (lv_at hl 7 rfl) ?_
        refine lv_iadd hx hb dX2_add_75 ?_
        refine lv_iload hx hb dX2_add_76 (lv_at hl 5 rfl) ?_
        refine va_iast (D := (dC, dI)) (f := σ1 16) hx hb hK hP hD hS 16 0 rfl rfl (i := ((σ 7 11) * (3 : Int32)) + (nI k)) (x := x5) (in_m3 (n := 40) h6 hkf (by decide) (by decide)) dX2_add_78 (fun H locs hP hD hS => ?_)
        obtain ⟨σ_10, eσ_10⟩ : ∃ z : St, z = su σ1 16 ((((σ 7 11) * (3 : Int32)) + (nI k)).toNatClampNeg) x5 := ⟨_, rfl⟩
        replace hP := P_cw_16 hP
        replace hD := D_cw_16 hD
        rw [← eσ_10] at hP hD
        replace hw : R = (sp_add_59 σ x1 x2 x3 x4 x5 σ_10 n (k + 1)) := by subst eσ_10; exact hw
        refine lv_iinc (v := (nI (k + 1))) (lv' := [(7, .int (nI (k + 1))), (0, .ref (a 7)), (1, .int x1), (2, .int x2), (3, .int x3), (4, .int x4), (5, .int x5), (6, .int (σ 7 11))]) hx hb dX2_add_79 hl (k := 7) rfl (nI_1 k) (by decide) rfl (fun ls hl => ?_)
        refine lv_goto (tgt := 59) hx hb dX2_add_82 (by decide) ?_
        exact ih (k + 1) σ_10 H locs ls (by omega) hP hD hS (lv_sub hl [1, 2, 3, 4, 5, 6, 7, 0] rfl) hw
  exact loop 3 0 σ_6 H locs ls (Nat.zero_add _) hP hD hS (lv_sub hl [2, 3, 4, 5, 6, 7, 1, 0] rfl) hw
set_option maxHeartbeats 4000000 in
set_option maxRecDepth 100000 in
theorem m_X2_countUse (l : Launch) (dC : Nat → ClassId) (dI : Nat → Nat → Nat) (cI cZ : ClassId) (a : Nat → Nat) (sz : Nat) (σ : St) (x1 : Int32) (x2 : Int32) (h1 : vp_in x1 40) : Met l yX2_countUse wsX2_countUse ({ frames := 0, cells := 0, slots := 0, locals := 0 }) (pMu dC dI cI cZ a sz σ [.ref (a 7), .int x1, .int x2]) (va_Qv (fun σ9 => σ9 = sp_countUse σ x1 x2) (bMu dC dI cI cZ a (va_A (cw cI cZ a σ) sz)) (va_A (cw cI cZ a σ) sz)) 0 0 (va_A (cw cI cZ a σ) sz) := by
  refine Met.ofW (cc := cX2_countUse) (maxL := 5) (ret := none) (by decide) rfl ?_
  intro p e s m args below meth c s₁ B hml hv
  obtain ⟨rfl, hsz, hP, hK, hD0⟩ := hv
  have hx := B.exec
  have hb := B.bytes
  have hr := B.returns
  have hts := atoms_spec (ws := wsX2_countUse) B.pre
  have hown : s.vm.findClass RX2 = some m.cls := findClass_of_methodNamed B.named
  have hlocks := B.notSynchronized
  subst hsz
  have hD := hD0.self (sz := s.heap.size)
  generalize hAe : va_A (cw cI cZ a σ) s.heap.size = A at hD ⊢
  have hA : ∀ q : Nat, s.heap.size ≤ q → A q := fun q h => by rw [← hAe]; exact Or.inr h
  clear hAe hD0
  obtain ⟨H, hHe⟩ : ∃ z, z = s.heap := ⟨_, rfl⟩
  obtain ⟨locs, hLe⟩ : ∃ z : List Loc, z = [] := ⟨_, rfl⟩
  have hS : va_S A s.heap H locs := by rw [hHe, hLe]; exact va_S.rf
  have hP : va_P (dC, dI) vwCl (cw cI cZ a σ) H := by rw [hHe]; exact hP
  refine W_ofH hHe hLe ?_
  clear hHe hLe
  have hl := lv_entry ([.ref (a 7), .int x1, .int x2]) (n := 5) (Nat.le_of_ble_eq_true rfl)
  rw [lg_entry_eq]
  generalize (lg_sl ([.ref (a 7), .int x1, .int x2]) ++ List.replicate (5 - (lg_sl ([.ref (a 7), .int x1, .int x2])).length) Slot.unset).toArray = ls at hl ⊢
  have hl : lv_has ls 5 [(0, .ref (a 7)), (1, .int x1), (2, .int x2)] := hl
  obtain ⟨R, hR⟩ : ∃ z, z = sp_countUse σ x1 x2 := ⟨_, rfl⟩
  have hw := hR
  unfold sp_countUse at hw
  refine lv_iconst (v := 0) hx hb dX2_countUse_0 (by decide) ?_
  refine lv_istore_n (lv' := [(3, .int (0 : Int32)), (0, .ref (a 7)), (1, .int x1), (2, .int x2)]) hx hb dX2_countUse_1 rfl hl (by decide) rfl (fun ls hl => ?_)
  have loop : ∀ (n k : Nat) (σ1 : St) (H : Heap) (locs : List Loc) (ls : Array Slot), k + n = 3 → va_P (dC, dI) vwCl (cw cI cZ a σ1) H → va_D A (cw cI cZ a σ1) → va_S A s.heap H locs → lv_has ls 5 [(0, .ref (a 7)), (1, .int x1), (2, .int x2), (3, .int (nI k))] → R = sp_countUse_2 σ x1 x2 σ1 n k → W p l e (headSpec wsX2_countUse ({ frames := 0, cells := 0, slots := 0, locals := 0 })).room s m [.ref (a 7), .int x1, .int x2].toArray below meth c H locs 0 0 (MQ below (va_Qv (fun σ9 => σ9 = sp_countUse σ x1 x2) (bMu dC dI cI cZ a A) A) [.ref (a 7), .int x1, .int x2].toArray s 0 0 A) (F0 m 2 ls []) := by
    intro n
    induction n with
    | zero =>
      intro k σ1 H locs ls hkn hP hD hS hl hw
      rw [sp_countUse_2_0] at hw
      refine lv_iload_n hx hb dX2_countUse_2 rfl (lv_at hl 3 rfl) ?_
      refine lv_iconst (v := 3) hx hb dX2_countUse_3 (by decide) ?_
      refine lv_icmp_ge (tgt := 42) hx hb dX2_countUse_4 (by decide) (fun c_4_1 => ?_) (fun c_4_1 => ?_)
      · skip
        exact W.vret hx hb hr (fun t ht hW => ⟨⟨σ1, rfl, hw.symm.trans hR, by rw [ht]; exact hP, va_K.moved hW.alike hK, hD⟩, hS.F ht⟩) hS.2.2 dX2_countUse_42
      · skip
        exact absurd (lpE ht_3 hkn (by omega)) c_4_1
    | succ n ih =>
      intro k σ1 H locs ls hkn hP hD hS hl hw
      rw [sp_countUse_2_s] at hw
      have hkf : vp_in (nI k) 3 := vp_in_nI (by omega) (by decide)
      refine lv_iload_n hx hb dX2_countUse_2 rfl (lv_at hl 3 rfl) ?_
      refine lv_iconst (v := 3) hx hb dX2_countUse_3 (by decide) ?_
      refine lv_icmp_ge (tgt := 42) hx hb dX2_countUse_4 (by decide) (fun c_4_2 => ?_) (fun c_4_2 => ?_)
      · skip
        exact absurd c_4_2 (lpB ht_3 hkn (by omega))
      · skip
        refine lv_iload_n hx hb dX2_countUse_7 rfl (lv_at hl 1 rfl) ?_
        refine lv_iconst (v := 3) hx hb dX2_countUse_8 (by decide) ?_
        refine lv_imul hx hb dX2_countUse_9 ?_
        refine lv_iload_n hx hb dX2_countUse_10 rfl (lv_at hl 3 rfl) ?_
        refine lv_iadd hx hb dX2_countUse_11 ?_
        refine lv_istore (lv' := [(4, .int ((x1 * (3 : Int32)) + (nI k))), (0, .ref (a 7)), (1, .int x1), (2, .int x2), (3, .int (nI k))]) hx hb dX2_countUse_12 hl (by decide) rfl (fun ls hl => ?_)
        refine lv_aload_n hx hb dX2_countUse_14 rfl (lv_at hl 1 rfl) ?_
        refine va_get (D := (dC, dI)) (ci := 2) (v := .ref (a 16)) (C := RX2) (T := TX2) (N := 12) hx hb hts (iwX2 _) hown hK hP 7 rfl rfl 8 (by decide) (hts _ (kc k_91)) (fun _ h9 => h9) rfl dX2_countUse_15 ?_
        refine lv_iload hx hb dX2_countUse_18 (lv_at hl 0 rfl) ?_
        refine va_iald (D := (dC, dI)) (f := σ1 16) hx hb hK hP 16 0 rfl rfl (i := (x1 * (3 : Int32)) + (nI k)) (in_m3 (n := 40) h1 hkf (by decide) (by decide)) dX2_countUse_20 ?_
        refine lv_iload_n hx hb dX2_countUse_21 rfl (lv_at hl 3 rfl) ?_
        refine lv_icmp_eq (tgt := 36) hx hb dX2_countUse_22 (by decide) (fun c_22_3 => ?_) (fun c_22_3 => ?_)
        · skip
          rw [if_pos c_22_3] at hw
          refine lv_iinc (v := (nI (k + 1))) (lv' := [(3, .int (nI (k + 1))), (4, .int ((x1 * (3 : Int32)) + (nI k))), (0, .ref (a 7)), (1, .int x1), (2, .int x2)]) hx hb dX2_countUse_36 hl (k := 4) rfl (nI_1 k) (by decide) rfl (fun ls hl => ?_)
          refine lv_goto (tgt := 2) hx hb dX2_countUse_39 (by decide) ?_
          exact ih (k + 1) σ1 H locs ls (by omega) hP hD hS (lv_sub hl [2, 3, 4, 0] rfl) hw
        · skip
          rw [if_neg c_22_3] at hw
          refine lv_aload_n hx hb dX2_countUse_25 rfl (lv_at hl 1 rfl) ?_
          refine va_get (D := (dC, dI)) (ci := 2) (v := .ref (a 17)) (C := RX2) (T := TX2) (N := 12) hx hb hts (iwX2 _) hown hK hP 7 rfl rfl 9 (by decide) (hts _ (kc k_93)) (fun _ h9 => h9) rfl dX2_countUse_26 ?_
          refine lv_iload hx hb dX2_countUse_29 (lv_at hl 0 rfl) ?_
          refine lv_dup2_11 hx hb dX2_countUse_31 rfl rfl ?_
          refine va_iald (D := (dC, dI)) (f := σ1 17) hx hb hK hP 17 0 rfl rfl (i := (x1 * (3 : Int32)) + (nI k)) (in_m3 (n := 40) h1 hkf (by decide) (by decide)) dX2_countUse_32 ?_
          refine lv_iconst (v := 1) hx hb dX2_countUse_33 (by decide) ?_
          refine lv_iadd hx hb dX2_countUse_34 ?_
          refine va_iast (D := (dC, dI)) (f := σ1 17) hx hb hK hP hD hS 17 0 rfl rfl (i := (x1 * (3 : Int32)) + (nI k)) (x := (σ1 17 ((x1 * (3 : Int32)) + (nI k)).toNatClampNeg) + (1 : Int32)) (in_m3 (n := 40) h1 hkf (by decide) (by decide)) dX2_countUse_35 (fun H locs hP hD hS => ?_)
          obtain ⟨σ_4, eσ_4⟩ : ∃ z : St, z = su σ1 17 (((x1 * (3 : Int32)) + (nI k)).toNatClampNeg) ((σ1 17 ((x1 * (3 : Int32)) + (nI k)).toNatClampNeg) + (1 : Int32)) := ⟨_, rfl⟩
          replace hP := P_cw_17 hP
          replace hD := D_cw_17 hD
          rw [← eσ_4] at hP hD
          replace hw : R = (sp_countUse_2 σ x1 x2 σ_4 n (k + 1)) := by subst eσ_4; exact hw
          refine lv_iinc (v := (nI (k + 1))) (lv' := [(3, .int (nI (k + 1))), (4, .int ((x1 * (3 : Int32)) + (nI k))), (0, .ref (a 7)), (1, .int x1), (2, .int x2)]) hx hb dX2_countUse_36 hl (k := 4) rfl (nI_1 k) (by decide) rfl (fun ls hl => ?_)
          refine lv_goto (tgt := 2) hx hb dX2_countUse_39 (by decide) ?_
          exact ih (k + 1) σ_4 H locs ls (by omega) hP hD hS (lv_sub hl [2, 3, 4, 0] rfl) hw
  exact loop 3 0 σ H locs ls (Nat.zero_add _) hP hD hS (lv_sub hl [1, 2, 3, 0] rfl) hw
set_option maxHeartbeats 4000000 in
set_option maxRecDepth 100000 in
theorem m_X2_enterGrade (l : Launch) (dC : Nat → ClassId) (dI : Nat → Nat → Nat) (cI cZ : ClassId) (a : Nat → Nat) (sz : Nat) (σ : St) (x1 : Int32) (x2 : Int32) (x3 : Int32) (x4 : Int32) (h1 : vp_in x1 40) (h2 : vp_in x2 3) : Met l yX2_enterGrade wsX2_enterGrade ({ frames := 1, cells := 0, slots := 0, locals := 21 }) (pMu dC dI cI cZ a sz σ [.ref (a 7), .int x1, .int x2, .int x3, .int x4]) (va_Qi (fun r σ9 => (r, σ9) = sp_enterGrade σ x1 x2 x3 x4) (bMu dC dI cI cZ a (va_A (cw cI cZ a σ) sz)) (va_A (cw cI cZ a σ) sz)) 0 0 (va_A (cw cI cZ a σ) sz) := by
  refine Met.ofW (cc := cX2_enterGrade) (maxL := 6) (ret := (some .int)) (by decide) rfl ?_
  intro p e s m args below meth c s₁ B hml hv
  obtain ⟨rfl, hsz, hP, hK, hD0⟩ := hv
  have hx := B.exec
  have hb := B.bytes
  have hr := B.returns
  have hts := atoms_spec (ws := wsX2_enterGrade) B.pre
  have hown : s.vm.findClass RX2 = some m.cls := findClass_of_methodNamed B.named
  have hlocks := B.notSynchronized
  subst hsz
  have hD := hD0.self (sz := s.heap.size)
  generalize hAe : va_A (cw cI cZ a σ) s.heap.size = A at hD ⊢
  have hA : ∀ q : Nat, s.heap.size ≤ q → A q := fun q h => by rw [← hAe]; exact Or.inr h
  clear hAe hD0
  obtain ⟨H, hHe⟩ : ∃ z, z = s.heap := ⟨_, rfl⟩
  obtain ⟨locs, hLe⟩ : ∃ z : List Loc, z = [] := ⟨_, rfl⟩
  have hS : va_S A s.heap H locs := by rw [hHe, hLe]; exact va_S.rf
  have hP : va_P (dC, dI) vwCl (cw cI cZ a σ) H := by rw [hHe]; exact hP
  refine W_ofH hHe hLe ?_
  clear hHe hLe
  have hl := lv_entry ([.ref (a 7), .int x1, .int x2, .int x3, .int x4]) (n := 6) (Nat.le_of_ble_eq_true rfl)
  rw [lg_entry_eq]
  generalize (lg_sl ([.ref (a 7), .int x1, .int x2, .int x3, .int x4]) ++ List.replicate (6 - (lg_sl ([.ref (a 7), .int x1, .int x2, .int x3, .int x4])).length) Slot.unset).toArray = ls at hl ⊢
  have hl : lv_has ls 6 [(0, .ref (a 7)), (1, .int x1), (2, .int x2), (3, .int x3), (4, .int x4)] := hl
  obtain ⟨R, hR⟩ : ∃ z, z = sp_enterGrade σ x1 x2 x3 x4 := ⟨_, rfl⟩
  have hw := hR
  unfold sp_enterGrade at hw
  refine lv_iload_n hx hb dX2_enterGrade_0 rfl (lv_at hl 1 rfl) ?_
  refine lv_iconst (v := 3) hx hb dX2_enterGrade_1 (by decide) ?_
  refine lv_imul hx hb dX2_enterGrade_2 ?_
  refine lv_iload_n hx hb dX2_enterGrade_3 rfl (lv_at hl 2 rfl) ?_
  refine lv_iadd hx hb dX2_enterGrade_4 ?_
  refine lv_istore (lv' := [(5, .int ((x1 * (3 : Int32)) + x2)), (0, .ref (a 7)), (1, .int x1), (2, .int x2), (3, .int x3), (4, .int x4)]) hx hb dX2_enterGrade_5 hl (by decide) rfl (fun ls hl => ?_)
  refine lv_aload_n hx hb dX2_enterGrade_7 rfl (lv_at hl 1 rfl) ?_
  refine va_get (D := (dC, dI)) (ci := 2) (v := .ref (a 18)) (C := RX2) (T := TX2) (N := 12) hx hb hts (iwX2 _) hown hK hP 7 rfl rfl 10 (by decide) (hts _ (kc k_95)) (fun _ h9 => h9) rfl dX2_enterGrade_8 ?_
  refine lv_iload hx hb dX2_enterGrade_11 (lv_at hl 0 rfl) ?_
  refine lv_aload_n hx hb dX2_enterGrade_13 rfl (lv_at hl 1 rfl) ?_
  refine va_get (D := (dC, dI)) (ci := 2) (v := .ref (a 16)) (C := RX2) (T := TX2) (N := 12) hx hb hts (iwX2 _) hown hK hP 7 rfl rfl 8 (by decide) (hts _ (kc k_91)) (fun _ h9 => h9) rfl dX2_enterGrade_14 ?_
  refine lv_iload hx hb dX2_enterGrade_17 (lv_at hl 0 rfl) ?_
  refine va_iald (D := (dC, dI)) (f := σ 16) hx hb hK hP 16 0 rfl rfl (i := (x1 * (3 : Int32)) + x2) (in_m3 (n := 40) h1 h2 (by decide) (by decide)) dX2_enterGrade_19 ?_
  refine lv_iload hx hb dX2_enterGrade_20 (lv_at hl 5 rfl) ?_
  refine lv_icmp_ne (tgt := 39) hx hb dX2_enterGrade_22 (by decide) (fun c_22_1 => ?_) (fun c_22_1 => ?_)
  · skip
    rw [if_neg c_22_1] at hw
    refine lv_iload_n hx hb dX2_enterGrade_39 rfl (lv_at hl 4 rfl) ?_
    refine va_iast (D := (dC, dI)) (f := σ 18) hx hb hK hP hD hS 18 0 rfl rfl (i := (x1 * (3 : Int32)) + x2) (x := x3) (in_m3 (n := 40) h1 h2 (by decide) (by decide)) dX2_enterGrade_40 (fun H locs hP hD hS => ?_)
    obtain ⟨σ_2, eσ_2⟩ : ∃ z : St, z = su σ 18 (((x1 * (3 : Int32)) + x2).toNatClampNeg) x3 := ⟨_, rfl⟩
    replace hP := P_cw_18 hP
    replace hD := D_cw_18 hD
    rw [← eσ_2] at hP hD
    replace hw : R = (let σ_3 : St := su σ_2 16 (((x1 * (3 : Int32)) + x2).toNatClampNeg) x4; let σ_4 : St := su σ_3 17 (((x1 * (3 : Int32)) + x2).toNatClampNeg) (0 : Int32); if x3 = (2 : Int32) then (let σ_6 : St := su σ_4 13 x1.toNatClampNeg x4; (σ_6 18 ((x1 * (3 : Int32)) + x2).toNatClampNeg, σ_6)) else (σ_4 18 ((x1 * (3 : Int32)) + x2).toNatClampNeg, σ_4)) := by subst eσ_2; exact hw
    refine lv_aload_n hx hb dX2_enterGrade_41 rfl (lv_at hl 1 rfl) ?_
    refine va_get (D := (dC, dI)) (ci := 2) (v := .ref (a 16)) (C := RX2) (T := TX2) (N := 12) hx hb hts (iwX2 _) hown hK hP 7 rfl rfl 8 (by decide) (hts _ (kc k_91)) (fun _ h9 => h9) rfl dX2_enterGrade_42 ?_
    refine lv_iload hx hb dX2_enterGrade_45 (lv_at hl 0 rfl) ?_
    refine lv_iload hx hb dX2_enterGrade_47 (lv_at hl 5 rfl) ?_
    refine va_iast (D := (dC, dI)) (f := σ_2 16) hx hb hK hP hD hS 16 0 rfl rfl (i := (x1 * (3 : Int32)) + x2) (x := x4) (in_m3 (n := 40) h1 h2 (by decide) (by decide)) dX2_enterGrade_49 (fun H locs hP hD hS => ?_)
    obtain ⟨σ_3, eσ_3⟩ : ∃ z : St, z = su σ_2 16 (((x1 * (3 : Int32)) + x2).toNatClampNeg) x4 := ⟨_, rfl⟩
    replace hP := P_cw_16 hP
    replace hD := D_cw_16 hD
    rw [← eσ_3] at hP hD
    replace hw : R = (let σ_4 : St := su σ_3 17 (((x1 * (3 : Int32)) + x2).toNatClampNeg) (0 : Int32); if x3 = (2 : Int32) then (let σ_6 : St := su σ_4 13 x1.toNatClampNeg x4; (σ_6 18 ((x1 * (3 : Int32)) + x2).toNatClampNeg, σ_6)) else (σ_4 18 ((x1 * (3 : Int32)) + x2).toNatClampNeg, σ_4)) := by subst eσ_3; exact hw
    refine lv_aload_n hx hb dX2_enterGrade_50 rfl (lv_at hl 1 rfl) ?_
    refine va_get (D := (dC, dI)) (ci := 2) (v := .ref (a 17)) (C := RX2) (T := TX2) (N := 12) hx hb hts (iwX2 _) hown hK hP 7 rfl rfl 9 (by decide) (hts _ (kc k_93)) (fun _ h9 => h9) rfl dX2_enterGrade_51 ?_
    refine lv_iload hx hb dX2_enterGrade_54 (lv_at hl 0 rfl) ?_
    refine lv_iconst (v := 0) hx hb dX2_enterGrade_56 (by decide) ?_
    refine va_iast (D := (dC, dI)) (f := σ_3 17) hx hb hK hP hD hS 17 0 rfl rfl (i := (x1 * (3 : Int32)) + x2) (x := (0 : Int32)) (in_m3 (n := 40) h1 h2 (by decide) (by decide)) dX2_enterGrade_57 (fun H locs hP hD hS => ?_)
    obtain ⟨σ_4, eσ_4⟩ : ∃ z : St, z = su σ_3 17 (((x1 * (3 : Int32)) + x2).toNatClampNeg) (0 : Int32) := ⟨_, rfl⟩
    replace hP := P_cw_17 hP
    replace hD := D_cw_17 hD
    rw [← eσ_4] at hP hD
    replace hw : R = (if x3 = (2 : Int32) then (let σ_6 : St := su σ_4 13 x1.toNatClampNeg x4; (σ_6 18 ((x1 * (3 : Int32)) + x2).toNatClampNeg, σ_6)) else (σ_4 18 ((x1 * (3 : Int32)) + x2).toNatClampNeg, σ_4)) := by subst eσ_4; exact hw
    refine lv_iload_n hx hb dX2_enterGrade_58 rfl (lv_at hl 4 rfl) ?_
    refine lv_iconst (v := 2) hx hb dX2_enterGrade_59 (by decide) ?_
    refine lv_icmp_ne (tgt := 71) hx hb dX2_enterGrade_60 (by decide) (fun c_60_5 => ?_) (fun c_60_5 => ?_)
    · skip
      rw [if_neg c_60_5] at hw
      refine lv_aload_n hx hb dX2_enterGrade_71 rfl (lv_at hl 1 rfl) ?_
      refine va_get (D := (dC, dI)) (ci := 2) (v := .ref (a 18)) (C := RX2) (T := TX2) (N := 12) hx hb hts (iwX2 _) hown hK hP 7 rfl rfl 10 (by decide) (hts _ (kc k_95)) (fun _ h9 => h9) rfl dX2_enterGrade_72 ?_
      refine lv_iload hx hb dX2_enterGrade_75 (lv_at hl 0 rfl) ?_
      refine va_iald (D := (dC, dI)) (f := σ_4 18) hx hb hK hP 18 0 rfl rfl (i := (x1 * (3 : Int32)) + x2) (in_m3 (n := 40) h1 h2 (by decide) (by decide)) dX2_enterGrade_77 ?_
      exact W.iret (v := σ_4 18 ((x1 * (3 : Int32)) + x2).toNatClampNeg) hx hb hr (fun t ht hW => ⟨⟨σ_4 18 ((x1 * (3 : Int32)) + x2).toNatClampNeg, σ_4, rfl, hw.symm.trans hR, by rw [ht]; exact hP, va_K.moved hW.alike hK, hD⟩, hS.F ht⟩) hS.2.2 dX2_enterGrade_78
    · skip
      rw [if_pos c_60_5] at hw
      refine lv_aload_n hx hb dX2_enterGrade_63 rfl (lv_at hl 1 rfl) ?_
      refine va_get (D := (dC, dI)) (ci := 2) (v := .ref (a 13)) (C := RX2) (T := TX2) (N := 12) hx hb hts (iwX2 _) hown hK hP 7 rfl rfl 5 (by decide) (hts _ (kc k_85)) (fun _ h9 => h9) rfl dX2_enterGrade_64 ?_
      refine lv_iload_n hx hb dX2_enterGrade_67 rfl (lv_at hl 2 rfl) ?_
      refine lv_iload hx hb dX2_enterGrade_68 (lv_at hl 5 rfl) ?_
      refine va_iast (D := (dC, dI)) (f := σ_4 13) hx hb hK hP hD hS 13 0 rfl rfl (i := x1) (x := x4) h1 dX2_enterGrade_70 (fun H locs hP hD hS => ?_)
      obtain ⟨σ_6, eσ_6⟩ : ∃ z : St, z = su σ_4 13 x1.toNatClampNeg x4 := ⟨_, rfl⟩
      replace hP := P_cw_13 hP
      replace hD := D_cw_13 hD
      rw [← eσ_6] at hP hD
      replace hw : R = ((σ_6 18 ((x1 * (3 : Int32)) + x2).toNatClampNeg, σ_6)) := by subst eσ_6; exact hw
      refine lv_aload_n hx hb dX2_enterGrade_71 rfl (lv_at hl 1 rfl) ?_
      refine va_get (D := (dC, dI)) (ci := 2) (v := .ref (a 18)) (C := RX2) (T := TX2) (N := 12) hx hb hts (iwX2 _) hown hK hP 7 rfl rfl 10 (by decide) (hts _ (kc k_95)) (fun _ h9 => h9) rfl dX2_enterGrade_72 ?_
      refine lv_iload hx hb dX2_enterGrade_75 (lv_at hl 0 rfl) ?_
      refine va_iald (D := (dC, dI)) (f := σ_6 18) hx hb hK hP 18 0 rfl rfl (i := (x1 * (3 : Int32)) + x2) (in_m3 (n := 40) h1 h2 (by decide) (by decide)) dX2_enterGrade_77 ?_
      exact W.iret (v := σ_6 18 ((x1 * (3 : Int32)) + x2).toNatClampNeg) hx hb hr (fun t ht hW => ⟨⟨σ_6 18 ((x1 * (3 : Int32)) + x2).toNatClampNeg, σ_6, rfl, hw.symm.trans hR, by rw [ht]; exact hP, va_K.moved hW.alike hK, hD⟩, hS.F ht⟩) hS.2.2 dX2_enterGrade_78
  · skip
    rw [if_pos c_22_1] at hw
    refine lv_aload_n hx hb dX2_enterGrade_25 rfl (lv_at hl 1 rfl) ?_
    refine va_get (D := (dC, dI)) (ci := 2) (v := .ref (a 18)) (C := RX2) (T := TX2) (N := 12) hx hb hts (iwX2 _) hown hK hP 7 rfl rfl 10 (by decide) (hts _ (kc k_95)) (fun _ h9 => h9) rfl dX2_enterGrade_26 ?_
    refine lv_iload hx hb dX2_enterGrade_29 (lv_at hl 0 rfl) ?_
    refine va_iald (D := (dC, dI)) (f := σ 18) hx hb hK hP 18 0 rfl rfl (i := (x1 * (3 : Int32)) + x2) (in_m3 (n := 40) h1 h2 (by decide) (by decide)) dX2_enterGrade_31 ?_
    refine lv_iload_n hx hb dX2_enterGrade_32 rfl (lv_at hl 4 rfl) ?_
    refine va_mmax hx hb (hml.trans hl.1.symm) hown (hts _ (kc k_396)) (hts _ (kc k_397)) (hts _ (kc k_32)) (hts _ (kc k_398)) (Nat.le_of_ble_eq_true rfl) (Nat.le_of_ble_eq_true rfl) (Nat.le_of_ble_eq_true rfl) (Nat.le_of_ble_eq_true rfl) dX2_enterGrade_33 ?_
    refine lv_goto (tgt := 40) hx hb dX2_enterGrade_36 (by decide) ?_
    refine va_iast (D := (dC, dI)) (f := σ 18) hx hb hK hP hD hS 18 0 rfl rfl (i := (x1 * (3 : Int32)) + x2) (x := (if (σ 18 ((x1 * (3 : Int32)) + x2).toNatClampNeg) < x3 then x3 else (σ 18 ((x1 * (3 : Int32)) + x2).toNatClampNeg))) (in_m3 (n := 40) h1 h2 (by decide) (by decide)) dX2_enterGrade_40 (fun H locs hP hD hS => ?_)
    obtain ⟨σ_7, eσ_7⟩ : ∃ z : St, z = su σ 18 (((x1 * (3 : Int32)) + x2).toNatClampNeg) (if (σ 18 ((x1 * (3 : Int32)) + x2).toNatClampNeg) < x3 then x3 else (σ 18 ((x1 * (3 : Int32)) + x2).toNatClampNeg)) := ⟨_, rfl⟩
    replace hP := P_cw_18 hP
    replace hD := D_cw_18 hD
    rw [← eσ_7] at hP hD
    replace hw : R = (let σ_8 : St := su σ_7 16 (((x1 * (3 : Int32)) + x2).toNatClampNeg) x4; let σ_9 : St := su σ_8 17 (((x1 * (3 : Int32)) + x2).toNatClampNeg) (0 : Int32); if x3 = (2 : Int32) then (let σ_11 : St := su σ_9 13 x1.toNatClampNeg x4; (σ_11 18 ((x1 * (3 : Int32)) + x2).toNatClampNeg, σ_11)) else (σ_9 18 ((x1 * (3 : Int32)) + x2).toNatClampNeg, σ_9)) := by subst eσ_7; exact hw
    refine lv_aload_n hx hb dX2_enterGrade_41 rfl (lv_at hl 1 rfl) ?_
    refine va_get (D := (dC, dI)) (ci := 2) (v := .ref (a 16)) (C := RX2) (T := TX2) (N := 12) hx hb hts (iwX2 _) hown hK hP 7 rfl rfl 8 (by decide) (hts _ (kc k_91)) (fun _ h9 => h9) rfl dX2_enterGrade_42 ?_
    refine lv_iload hx hb dX2_enterGrade_45 (lv_at hl 0 rfl) ?_
    refine lv_iload hx hb dX2_enterGrade_47 (lv_at hl 5 rfl) ?_
    refine va_iast (D := (dC, dI)) (f := σ_7 16) hx hb hK hP hD hS 16 0 rfl rfl (i := (x1 * (3 : Int32)) + x2) (x := x4) (in_m3 (n := 40) h1 h2 (by decide) (by decide)) dX2_enterGrade_49 (fun H locs hP hD hS => ?_)
    obtain ⟨σ_8, eσ_8⟩ : ∃ z : St, z = su σ_7 16 (((x1 * (3 : Int32)) + x2).toNatClampNeg) x4 := ⟨_, rfl⟩
    replace hP := P_cw_16 hP
    replace hD := D_cw_16 hD
    rw [← eσ_8] at hP hD
    replace hw : R = (let σ_9 : St := su σ_8 17 (((x1 * (3 : Int32)) + x2).toNatClampNeg) (0 : Int32); if x3 = (2 : Int32) then (let σ_11 : St := su σ_9 13 x1.toNatClampNeg x4; (σ_11 18 ((x1 * (3 : Int32)) + x2).toNatClampNeg, σ_11)) else (σ_9 18 ((x1 * (3 : Int32)) + x2).toNatClampNeg, σ_9)) := by subst eσ_8; exact hw
    refine lv_aload_n hx hb dX2_enterGrade_50 rfl (lv_at hl 1 rfl) ?_
    refine va_get (D := (dC, dI)) (ci := 2) (v := .ref (a 17)) (C := RX2) (T := TX2) (N := 12) hx hb hts (iwX2 _) hown hK hP 7 rfl rfl 9 (by decide) (hts _ (kc k_93)) (fun _ h9 => h9) rfl dX2_enterGrade_51 ?_
    refine lv_iload hx hb dX2_enterGrade_54 (lv_at hl 0 rfl) ?_
    refine lv_iconst (v := 0) hx hb dX2_enterGrade_56 (by decide) ?_
    refine va_iast (D := (dC, dI)) (f := σ_8 17) hx hb hK hP hD hS 17 0 rfl rfl (i := (x1 * (3 : Int32)) + x2) (x := (0 : Int32)) (in_m3 (n := 40) h1 h2 (by decide) (by decide)) dX2_enterGrade_57 (fun H locs hP hD hS => ?_)
    obtain ⟨σ_9, eσ_9⟩ : ∃ z : St, z = su σ_8 17 (((x1 * (3 : Int32)) + x2).toNatClampNeg) (0 : Int32) := ⟨_, rfl⟩
    replace hP := P_cw_17 hP
    replace hD := D_cw_17 hD
    rw [← eσ_9] at hP hD
    replace hw : R = (if x3 = (2 : Int32) then (let σ_11 : St := su σ_9 13 x1.toNatClampNeg x4; (σ_11 18 ((x1 * (3 : Int32)) + x2).toNatClampNeg, σ_11)) else (σ_9 18 ((x1 * (3 : Int32)) + x2).toNatClampNeg, σ_9)) := by subst eσ_9; exact hw
    refine lv_iload_n hx hb dX2_enterGrade_58 rfl (lv_at hl 4 rfl) ?_
    refine lv_iconst (v := 2) hx hb dX2_enterGrade_59 (by decide) ?_
    refine lv_icmp_ne (tgt := 71) hx hb dX2_enterGrade_60 (by decide) (fun c_60_10 => ?_) (fun c_60_10 => ?_)
    · skip
      rw [if_neg c_60_10] at hw
      refine lv_aload_n hx hb dX2_enterGrade_71 rfl (lv_at hl 1 rfl) ?_
      refine va_get (D := (dC, dI)) (ci := 2) (v := .ref (a 18)) (C := RX2) (T := TX2) (N := 12) hx hb hts (iwX2 _) hown hK hP 7 rfl rfl 10 (by decide) (hts _ (kc k_95)) (fun _ h9 => h9) rfl dX2_enterGrade_72 ?_
      refine lv_iload hx hb dX2_enterGrade_75 (lv_at hl 0 rfl) ?_
      refine va_iald (D := (dC, dI)) (f := σ_9 18) hx hb hK hP 18 0 rfl rfl (i := (x1 * (3 : Int32)) + x2) (in_m3 (n := 40) h1 h2 (by decide) (by decide)) dX2_enterGrade_77 ?_
      exact W.iret (v := σ_9 18 ((x1 * (3 : Int32)) + x2).toNatClampNeg) hx hb hr (fun t ht hW => ⟨⟨σ_9 18 ((x1 * (3 : Int32)) + x2).toNatClampNeg, σ_9, rfl, hw.symm.trans hR, by rw [ht]; exact hP, va_K.moved hW.alike hK, hD⟩, hS.F ht⟩) hS.2.2 dX2_enterGrade_78
    · skip
      rw [if_pos c_60_10] at hw
      refine lv_aload_n hx hb dX2_enterGrade_63 rfl (lv_at hl 1 rfl) ?_
      refine va_get (D := (dC, dI)) (ci := 2) (v := .ref (a 13)) (C := RX2) (T := TX2) (N := 12) hx hb hts (iwX2 _) hown hK hP 7 rfl rfl 5 (by decide) (hts _ (kc k_85)) (fun _ h9 => h9) rfl dX2_enterGrade_64 ?_
      refine lv_iload_n hx hb dX2_enterGrade_67 rfl (lv_at hl 2 rfl) ?_
      refine lv_iload hx hb dX2_enterGrade_68 (lv_at hl 5 rfl) ?_
      refine va_iast (D := (dC, dI)) (f := σ_9 13) hx hb hK hP hD hS 13 0 rfl rfl (i := x1) (x := x4) h1 dX2_enterGrade_70 (fun H locs hP hD hS => ?_)
      obtain ⟨σ_11, eσ_11⟩ : ∃ z : St, z = su σ_9 13 x1.toNatClampNeg x4 := ⟨_, rfl⟩
      replace hP := P_cw_13 hP
      replace hD := D_cw_13 hD
      rw [← eσ_11] at hP hD
      replace hw : R = ((σ_11 18 ((x1 * (3 : Int32)) + x2).toNatClampNeg, σ_11)) := by subst eσ_11; exact hw
      refine lv_aload_n hx hb dX2_enterGrade_71 rfl (lv_at hl 1 rfl) ?_
      refine va_get (D := (dC, dI)) (ci := 2) (v := .ref (a 18)) (C := RX2) (T := TX2) (N := 12) hx hb hts (iwX2 _) hown hK hP 7 rfl rfl 10 (by decide) (hts _ (kc k_95)) (fun _ h9 => h9) rfl dX2_enterGrade_72 ?_
      refine lv_iload hx hb dX2_enterGrade_75 (lv_at hl 0 rfl) ?_
      refine va_iald (D := (dC, dI)) (f := σ_11 18) hx hb hK hP 18 0 rfl rfl (i := (x1 * (3 : Int32)) + x2) (in_m3 (n := 40) h1 h2 (by decide) (by decide)) dX2_enterGrade_77 ?_
      exact W.iret (v := σ_11 18 ((x1 * (3 : Int32)) + x2).toNatClampNeg) hx hb hr (fun t ht hW => ⟨⟨σ_11 18 ((x1 * (3 : Int32)) + x2).toNatClampNeg, σ_11, rfl, hw.symm.trans hR, by rw [ht]; exact hP, va_K.moved hW.alike hK, hD⟩, hS.F ht⟩) hS.2.2 dX2_enterGrade_78
end
section
set_option maxHeartbeats 4000000 in
set_option maxRecDepth 100000 in
theorem m_X3_oldFrom (l : Launch) (dC : Nat → ClassId) (dI : Nat → Nat → Nat) (cI cZ : ClassId) (a : Nat → Nat) (σ : St) (x1 : Int32) (hiv : IV σ) (h1 : vp_in x1 40) : Met l yX3_oldFrom wsX3_oldFrom ({ frames := 0, cells := 0, slots := 0, locals := 0 }) (pRo dC dI cI cZ a σ [.ref (a 0), .int x1]) (vp_Si (fun r => r = sp_oldFrom σ x1)) 0 0 (fun _ => False) := by
  refine Met.ofW (cc := cX3_oldFrom) (maxL := 3) (ret := (some .int)) (by decide) rfl ?_
  intro p e s m args below meth c s₁ B hml hv
  obtain ⟨rfl, hP, hK⟩ := hv
  have hx := B.exec
  have hb := B.bytes
  have hr := B.returns
  have hts := atoms_spec (ws := wsX3_oldFrom) B.pre
  have hown : s.vm.findClass RX3 = some m.cls := findClass_of_methodNamed B.named
  have hlocks := B.notSynchronized
  have hl := lv_entry ([.ref (a 0), .int x1]) (n := 3) (Nat.le_of_ble_eq_true rfl)
  rw [lg_entry_eq]
  generalize (lg_sl ([.ref (a 0), .int x1]) ++ List.replicate (3 - (lg_sl ([.ref (a 0), .int x1])).length) Slot.unset).toArray = ls at hl ⊢
  have hl : lv_has ls 3 [(0, .ref (a 0)), (1, .int x1)] := hl
  obtain ⟨R, hR⟩ : ∃ z, z = sp_oldFrom σ x1 := ⟨_, rfl⟩
  have hw := hR
  unfold sp_oldFrom at hw
  refine lv_aload_n hx hb dX3_oldFrom_0 rfl (lv_at hl 0 rfl) ?_
  refine va_get (D := (dC, dI)) (ci := 3) (v := .ref (a 1)) (C := RX3) (T := TX3) (N := 6) hx hb hts (iwX3 _) hown hK hP 0 rfl rfl 0 (by decide) (hts _ (kc k_154)) (fun _ h9 => h9) rfl dX3_oldFrom_1 ?_
  refine va_get (D := (dC, dI)) (ci := 0) (v := .ref (a 2)) (C := RX0) (T := TX0) (N := 5) hx hb hts (iwX0 _) hown hK hP 1 rfl rfl 0 (by decide) (hts _ (kc k_49)) (fun _ h9 => h9) rfl dX3_oldFrom_4 ?_
  refine lv_aload_n hx hb dX3_oldFrom_7 rfl (lv_at hl 0 rfl) ?_
  refine va_get (D := (dC, dI)) (ci := 3) (v := .ref (a 7)) (C := RX3) (T := TX3) (N := 6) hx hb hts (iwX3 _) hown hK hP 0 rfl rfl 1 (by decide) (hts _ (kc k_155)) (fun _ h9 => h9) rfl dX3_oldFrom_8 ?_
  refine va_get (D := (dC, dI)) (ci := 2) (v := .ref (a 8)) (C := RX2) (T := TX2) (N := 12) hx hb hts (iwX2 _) hown hK hP 7 rfl rfl 0 (by decide) (hts _ (kc k_77)) (fun _ h9 => h9) rfl dX3_oldFrom_11 ?_
  refine lv_iload_n hx hb dX3_oldFrom_14 rfl (lv_at hl 1 rfl) ?_
  refine va_iald (D := (dC, dI)) (f := σ 8) hx hb hK hP 8 0 rfl rfl (i := x1) h1 dX3_oldFrom_15 ?_
  refine va_iald (D := (dC, dI)) (f := σ 2) hx hb hK hP 2 0 rfl rfl (i := σ 8 x1.toNatClampNeg) (iv_k hiv h1) dX3_oldFrom_16 ?_
  refine lv_istore_n (lv' := [(2, .int (σ 2 (σ 8 x1.toNatClampNeg).toNatClampNeg)), (0, .ref (a 0)), (1, .int x1)]) hx hb dX3_oldFrom_17 rfl hl (by decide) rfl (fun ls hl => ?_)
  refine lv_iload_n hx hb dX3_oldFrom_18 rfl (lv_at hl 0 rfl) ?_
  refine lv_if_ne (tgt := 27) hx hb dX3_oldFrom_19 (by decide) (fun c_19_1 => ?_) (fun c_19_1 => ?_)
  · skip
    rw [if_neg c_19_1] at hw
    refine lv_aload_n hx hb dX3_oldFrom_27 rfl (lv_at hl 1 rfl) ?_
    refine va_get (D := (dC, dI)) (ci := 3) (v := .ref (a 7)) (C := RX3) (T := TX3) (N := 6) hx hb hts (iwX3 _) hown hK hP 0 rfl rfl 1 (by decide) (hts _ (kc k_155)) (fun _ h9 => h9) rfl dX3_oldFrom_28 ?_
    refine va_get (D := (dC, dI)) (ci := 2) (v := .ref (a 12)) (C := RX2) (T := TX2) (N := 12) hx hb hts (iwX2 _) hown hK hP 7 rfl rfl 4 (by decide) (hts _ (kc k_84)) (fun _ h9 => h9) rfl dX3_oldFrom_31 ?_
    refine lv_iload_n hx hb dX3_oldFrom_34 rfl (lv_at hl 2 rfl) ?_
    refine va_iald (D := (dC, dI)) (f := σ 12) hx hb hK hP 12 0 rfl rfl (i := x1) h1 dX3_oldFrom_35 ?_
    refine lv_iload_n hx hb dX3_oldFrom_36 rfl (lv_at hl 0 rfl) ?_
    refine lv_iadd hx hb dX3_oldFrom_37 ?_
    exact W.iret (v := (σ 12 x1.toNatClampNeg) + (σ 2 (σ 8 x1.toNatClampNeg).toNatClampNeg)) hx hb hr (fun t ht hW => ⟨_, rfl, hw.symm.trans hR, ht⟩) (fun _ h => by cases h) dX3_oldFrom_38
  · skip
    rw [if_pos c_19_1] at hw
    refine lv_ldc (own := RX3) (v := 2147483647) hx hb hown (hts _ (kc k_380)) dX3_oldFrom_22 ?_
    refine lv_goto (tgt := 38) hx hb dX3_oldFrom_24 (by decide) ?_
    exact W.iret (v := (2147483647 : Int32)) hx hb hr (fun t ht hW => ⟨_, rfl, hw.symm.trans hR, ht⟩) (fun _ h => by cases h) dX3_oldFrom_38
set_option maxHeartbeats 4000000 in
set_option maxRecDepth 100000 in
theorem m_X3_dueFrom (l : Launch) (dC : Nat → ClassId) (dI : Nat → Nat → Nat) (cI cZ : ClassId) (a : Nat → Nat) (σ : St) (x1 : Int32) (x2 : Int32) (hiv : IV σ) (h1 : vp_in x1 40) (h2 : vp_in x2 3) : Met l yX3_dueFrom wsX3_dueFrom ({ frames := 0, cells := 0, slots := 0, locals := 0 }) (pRo dC dI cI cZ a σ [.ref (a 0), .int x1, .int x2]) (vp_Si (fun r => r = sp_dueFrom σ x1 x2)) 0 0 (fun _ => False) := by
  refine Met.ofW (cc := cX3_dueFrom) (maxL := 7) (ret := (some .int)) (by decide) rfl ?_
  intro p e s m args below meth c s₁ B hml hv
  obtain ⟨rfl, hP, hK⟩ := hv
  have hx := B.exec
  have hb := B.bytes
  have hr := B.returns
  have hts := atoms_spec (ws := wsX3_dueFrom) B.pre
  have hown : s.vm.findClass RX3 = some m.cls := findClass_of_methodNamed B.named
  have hlocks := B.notSynchronized
  have hl := lv_entry ([.ref (a 0), .int x1, .int x2]) (n := 7) (Nat.le_of_ble_eq_true rfl)
  rw [lg_entry_eq]
  generalize (lg_sl ([.ref (a 0), .int x1, .int x2]) ++ List.replicate (7 - (lg_sl ([.ref (a 0), .int x1, .int x2])).length) Slot.unset).toArray = ls at hl ⊢
  have hl : lv_has ls 7 [(0, .ref (a 0)), (1, .int x1), (2, .int x2)] := hl
  obtain ⟨R, hR⟩ : ∃ z, z = sp_dueFrom σ x1 x2 := ⟨_, rfl⟩
  have hw := hR
  unfold sp_dueFrom at hw
  refine lv_aload_n hx hb dX3_dueFrom_0 rfl (lv_at hl 0 rfl) ?_
  refine va_get (D := (dC, dI)) (ci := 3) (v := .ref (a 7)) (C := RX3) (T := TX3) (N := 6) hx hb hts (iwX3 _) hown hK hP 0 rfl rfl 1 (by decide) (hts _ (kc k_155)) (fun _ h9 => h9) rfl dX3_dueFrom_1 ?_
  refine va_get (D := (dC, dI)) (ci := 2) (v := .ref (a 8)) (C := RX2) (T := TX2) (N := 12) hx hb hts (iwX2 _) hown hK hP 7 rfl rfl 0 (by decide) (hts _ (kc k_77)) (fun _ h9 => h9) rfl dX3_dueFrom_4 ?_
  refine lv_iload_n hx hb dX3_dueFrom_7 rfl (lv_at hl 1 rfl) ?_
  refine va_iald (D := (dC, dI)) (f := σ 8) hx hb hK hP 8 0 rfl rfl (i := x1) h1 dX3_dueFrom_8 ?_
  refine lv_iconst (v := 3) hx hb dX3_dueFrom_9 (by decide) ?_
  refine lv_imul hx hb dX3_dueFrom_10 ?_
  refine lv_iload_n hx hb dX3_dueFrom_11 rfl (lv_at hl 2 rfl) ?_
  refine lv_iadd hx hb dX3_dueFrom_12 ?_
  refine lv_istore_n (lv' := [(3, .int (((σ 8 x1.toNatClampNeg) * (3 : Int32)) + x2)), (0, .ref (a 0)), (1, .int x1), (2, .int x2)]) hx hb dX3_dueFrom_13 rfl hl (by decide) rfl (fun ls hl => ?_)
  refine lv_iload_n hx hb dX3_dueFrom_14 rfl (lv_at hl 2 rfl) ?_
  refine lv_iconst (v := 3) hx hb dX3_dueFrom_15 (by decide) ?_
  refine lv_imul hx hb dX3_dueFrom_16 ?_
  refine lv_iload_n hx hb dX3_dueFrom_17 rfl (lv_at hl 3 rfl) ?_
  refine lv_iadd hx hb dX3_dueFrom_18 ?_
  refine lv_istore (lv' := [(4, .int ((x1 * (3 : Int32)) + x2)), (3, .int (((σ 8 x1.toNatClampNeg) * (3 : Int32)) + x2)), (0, .ref (a 0)), (1, .int x1), (2, .int x2)]) hx hb dX3_dueFrom_19 hl (by decide) rfl (fun ls hl => ?_)
  refine lv_aload_n hx hb dX3_dueFrom_21 rfl (lv_at hl 2 rfl) ?_
  refine va_get (D := (dC, dI)) (ci := 3) (v := .ref (a 1)) (C := RX3) (T := TX3) (N := 6) hx hb hts (iwX3 _) hown hK hP 0 rfl rfl 0 (by decide) (hts _ (kc k_154)) (fun _ h9 => h9) rfl dX3_dueFrom_22 ?_
  refine va_get (D := (dC, dI)) (ci := 0) (v := .ref (a 4)) (C := RX0) (T := TX0) (N := 5) hx hb hts (iwX0 _) hown hK hP 1 rfl rfl 2 (by decide) (hts _ (kc k_53)) (fun _ h9 => h9) rfl dX3_dueFrom_25 ?_
  refine lv_iload_n hx hb dX3_dueFrom_28 rfl (lv_at hl 1 rfl) ?_
  refine va_iald (D := (dC, dI)) (f := σ 4) hx hb hK hP 4 0 rfl rfl (i := ((σ 8 x1.toNatClampNeg) * (3 : Int32)) + x2) (in_m3 (n := 5) (iv_k hiv h1) h2 (by decide) (by decide)) dX3_dueFrom_29 ?_
  refine lv_istore (lv' := [(5, .int (σ 4 (((σ 8 x1.toNatClampNeg) * (3 : Int32)) + x2).toNatClampNeg)), (4, .int ((x1 * (3 : Int32)) + x2)), (3, .int (((σ 8 x1.toNatClampNeg) * (3 : Int32)) + x2)), (0, .ref (a 0)), (1, .int x1), (2, .int x2)]) hx hb dX3_dueFrom_30 hl (by decide) rfl (fun ls hl => ?_)
  refine lv_iload hx hb dX3_dueFrom_32 (lv_at hl 0 rfl) ?_
  refine lv_if_le (tgt := 57) hx hb dX3_dueFrom_34 (by decide) (fun c_34_1 => ?_) (fun c_34_1 => ?_)
  · skip
    rw [if_pos c_34_1] at hw
    refine lv_aload_n hx hb dX3_dueFrom_57 rfl (lv_at hl 3 rfl) ?_
    refine va_get (D := (dC, dI)) (ci := 3) (v := .ref (a 1)) (C := RX3) (T := TX3) (N := 6) hx hb hts (iwX3 _) hown hK hP 0 rfl rfl 0 (by decide) (hts _ (kc k_154)) (fun _ h9 => h9) rfl dX3_dueFrom_58 ?_
    refine va_get (D := (dC, dI)) (ci := 0) (v := .ref (a 3)) (C := RX0) (T := TX0) (N := 5) hx hb hts (iwX0 _) hown hK hP 1 rfl rfl 1 (by decide) (hts _ (kc k_51)) (fun _ h9 => h9) rfl dX3_dueFrom_61 ?_
    refine lv_iload_n hx hb dX3_dueFrom_64 rfl (lv_at hl 2 rfl) ?_
    refine va_iald (D := (dC, dI)) (f := σ 3) hx hb hK hP 3 0 rfl rfl (i := ((σ 8 x1.toNatClampNeg) * (3 : Int32)) + x2) (in_m3 (n := 5) (iv_k hiv h1) h2 (by decide) (by decide)) dX3_dueFrom_65 ?_
    refine lv_istore (lv' := [(6, .int (σ 3 (((σ 8 x1.toNatClampNeg) * (3 : Int32)) + x2).toNatClampNeg)), (5, .int (σ 4 (((σ 8 x1.toNatClampNeg) * (3 : Int32)) + x2).toNatClampNeg)), (4, .int ((x1 * (3 : Int32)) + x2)), (3, .int (((σ 8 x1.toNatClampNeg) * (3 : Int32)) + x2)), (0, .ref (a 0)), (1, .int x1), (2, .int x2)]) hx hb dX3_dueFrom_66 hl (by decide) rfl (fun ls hl => ?_)
    refine lv_iload hx hb dX3_dueFrom_68 (lv_at hl 0 rfl) ?_
    refine lv_if_ne (tgt := 78) hx hb dX3_dueFrom_70 (by decide) (fun c_70_2 => ?_) (fun c_70_2 => ?_)
    · skip
      rw [if_neg c_70_2] at hw
      refine lv_aload_n hx hb dX3_dueFrom_78 rfl (lv_at hl 4 rfl) ?_
      refine va_get (D := (dC, dI)) (ci := 3) (v := .ref (a 7)) (C := RX3) (T := TX3) (N := 6) hx hb hts (iwX3 _) hown hK hP 0 rfl rfl 1 (by decide) (hts _ (kc k_155)) (fun _ h9 => h9) rfl dX3_dueFrom_79 ?_
      refine va_get (D := (dC, dI)) (ci := 2) (v := .ref (a 16)) (C := RX2) (T := TX2) (N := 12) hx hb hts (iwX2 _) hown hK hP 7 rfl rfl 8 (by decide) (hts _ (kc k_92)) (fun _ h9 => h9) rfl dX3_dueFrom_82 ?_
      refine lv_iload hx hb dX3_dueFrom_85 (lv_at hl 2 rfl) ?_
      refine va_iald (D := (dC, dI)) (f := σ 16) hx hb hK hP 16 0 rfl rfl (i := (x1 * (3 : Int32)) + x2) (in_m3 (n := 40) h1 h2 (by decide) (by decide)) dX3_dueFrom_87 ?_
      refine lv_iload hx hb dX3_dueFrom_88 (lv_at hl 0 rfl) ?_
      refine lv_iadd hx hb dX3_dueFrom_90 ?_
      exact W.iret (v := (σ 16 ((x1 * (3 : Int32)) + x2).toNatClampNeg) + (σ 3 (((σ 8 x1.toNatClampNeg) * (3 : Int32)) + x2).toNatClampNeg)) hx hb hr (fun t ht hW => ⟨_, rfl, hw.symm.trans hR, ht⟩) (fun _ h => by cases h) dX3_dueFrom_91
    · skip
      rw [if_pos c_70_2] at hw
      refine lv_ldc (own := RX3) (v := 2147483647) hx hb hown (hts _ (kc k_380)) dX3_dueFrom_73 ?_
      refine lv_goto (tgt := 91) hx hb dX3_dueFrom_75 (by decide) ?_
      exact W.iret (v := (2147483647 : Int32)) hx hb hr (fun t ht hW => ⟨_, rfl, hw.symm.trans hR, ht⟩) (fun _ h => by cases h) dX3_dueFrom_91
  · skip
    rw [if_neg c_34_1] at hw
    refine lv_aload_n hx hb dX3_dueFrom_37 rfl (lv_at hl 3 rfl) ?_
    refine va_get (D := (dC, dI)) (ci := 3) (v := .ref (a 7)) (C := RX3) (T := TX3) (N := 6) hx hb hts (iwX3 _) hown hK hP 0 rfl rfl 1 (by decide) (hts _ (kc k_155)) (fun _ h9 => h9) rfl dX3_dueFrom_38 ?_
    refine va_get (D := (dC, dI)) (ci := 2) (v := .ref (a 17)) (C := RX2) (T := TX2) (N := 12) hx hb hts (iwX2 _) hown hK hP 7 rfl rfl 9 (by decide) (hts _ (kc k_94)) (fun _ h9 => h9) rfl dX3_dueFrom_41 ?_
    refine lv_iload hx hb dX3_dueFrom_44 (lv_at hl 1 rfl) ?_
    refine va_iald (D := (dC, dI)) (f := σ 17) hx hb hK hP 17 0 rfl rfl (i := (x1 * (3 : Int32)) + x2) (in_m3 (n := 40) h1 h2 (by decide) (by decide)) dX3_dueFrom_46 ?_
    refine lv_iload hx hb dX3_dueFrom_47 (lv_at hl 0 rfl) ?_
    refine lv_icmp_lt (tgt := 57) hx hb dX3_dueFrom_49 (by decide) (fun c_49_3 => ?_) (fun c_49_3 => ?_)
    · skip
      rw [if_pos c_49_3] at hw
      refine lv_aload_n hx hb dX3_dueFrom_57 rfl (lv_at hl 3 rfl) ?_
      refine va_get (D := (dC, dI)) (ci := 3) (v := .ref (a 1)) (C := RX3) (T := TX3) (N := 6) hx hb hts (iwX3 _) hown hK hP 0 rfl rfl 0 (by decide) (hts _ (kc k_154)) (fun _ h9 => h9) rfl dX3_dueFrom_58 ?_
      refine va_get (D := (dC, dI)) (ci := 0) (v := .ref (a 3)) (C := RX0) (T := TX0) (N := 5) hx hb hts (iwX0 _) hown hK hP 1 rfl rfl 1 (by decide) (hts _ (kc k_51)) (fun _ h9 => h9) rfl dX3_dueFrom_61 ?_
      refine lv_iload_n hx hb dX3_dueFrom_64 rfl (lv_at hl 2 rfl) ?_
      refine va_iald (D := (dC, dI)) (f := σ 3) hx hb hK hP 3 0 rfl rfl (i := ((σ 8 x1.toNatClampNeg) * (3 : Int32)) + x2) (in_m3 (n := 5) (iv_k hiv h1) h2 (by decide) (by decide)) dX3_dueFrom_65 ?_
      refine lv_istore (lv' := [(6, .int (σ 3 (((σ 8 x1.toNatClampNeg) * (3 : Int32)) + x2).toNatClampNeg)), (5, .int (σ 4 (((σ 8 x1.toNatClampNeg) * (3 : Int32)) + x2).toNatClampNeg)), (4, .int ((x1 * (3 : Int32)) + x2)), (3, .int (((σ 8 x1.toNatClampNeg) * (3 : Int32)) + x2)), (0, .ref (a 0)), (1, .int x1), (2, .int x2)]) hx hb dX3_dueFrom_66 hl (by decide) rfl (fun ls hl => ?_)
      refine lv_iload hx hb dX3_dueFrom_68 (lv_at hl 0 rfl) ?_
      refine lv_if_ne (tgt := 78) hx hb dX3_dueFrom_70 (by decide) (fun c_70_4 => ?_) (fun c_70_4 => ?_)
      · skip
        rw [if_neg c_70_4] at hw
        refine lv_aload_n hx hb dX3_dueFrom_78 rfl (lv_at hl 4 rfl) ?_
        refine va_get (D := (dC, dI)) (ci := 3) (v := .ref (a 7)) (C := RX3) (T := TX3) (N := 6) hx hb hts (iwX3 _) hown hK hP 0 rfl rfl 1 (by decide) (hts _ (kc k_155)) (fun _ h9 => h9) rfl dX3_dueFrom_79 ?_
        refine va_get (D := (dC, dI)) (ci := 2) (v := .ref (a 16)) (C := RX2) (T := TX2) (N := 12) hx hb hts (iwX2 _) hown hK hP 7 rfl rfl 8 (by decide) (hts _ (kc k_92)) (fun _ h9 => h9) rfl dX3_dueFrom_82 ?_
        refine lv_iload hx hb dX3_dueFrom_85 (lv_at hl 2 rfl) ?_
        refine va_iald (D := (dC, dI)) (f := σ 16) hx hb hK hP 16 0 rfl rfl (i := (x1 * (3 : Int32)) + x2) (in_m3 (n := 40) h1 h2 (by decide) (by decide)) dX3_dueFrom_87 ?_
        refine lv_iload hx hb dX3_dueFrom_88 (lv_at hl 0 rfl) ?_
        refine lv_iadd hx hb dX3_dueFrom_90 ?_
        exact W.iret (v := (σ 16 ((x1 * (3 : Int32)) + x2).toNatClampNeg) + (σ 3 (((σ 8 x1.toNatClampNeg) * (3 : Int32)) + x2).toNatClampNeg)) hx hb hr (fun t ht hW => ⟨_, rfl, hw.symm.trans hR, ht⟩) (fun _ h => by cases h) dX3_dueFrom_91
      · skip
        rw [if_pos c_70_4] at hw
        refine lv_ldc (own := RX3) (v := 2147483647) hx hb hown (hts _ (kc k_380)) dX3_dueFrom_73 ?_
        refine lv_goto (tgt := 91) hx hb dX3_dueFrom_75 (by decide) ?_
        exact W.iret (v := (2147483647 : Int32)) hx hb hr (fun t ht hW => ⟨_, rfl, hw.symm.trans hR, ht⟩) (fun _ h => by cases h) dX3_dueFrom_91
    · skip
      rw [if_neg c_49_3] at hw
      refine lv_aload_n hx hb dX3_dueFrom_52 rfl (lv_at hl 3 rfl) ?_
      refine va_get (D := (dC, dI)) (ci := 3) (v := .int (σ 0 5)) (C := RX3) (T := TX3) (N := 6) hx hb hts (iwX3 _) hown hK hP 0 rfl rfl 5 (by decide) (hts _ (kc k_159)) (fun _ h9 => h9) rfl dX3_dueFrom_53 ?_
      exact W.iret (v := σ 0 5) hx hb hr (fun t ht hW => ⟨_, rfl, hw.symm.trans hR, ht⟩) (fun _ h => by cases h) dX3_dueFrom_56
set_option maxHeartbeats 4000000 in
set_option maxRecDepth 100000 in
theorem m_X3_someTestDueFrom (l : Launch) (dC : Nat → ClassId) (dI : Nat → Nat → Nat) (cI cZ : ClassId) (a : Nat → Nat) (σ : St) (x1 : Int32) (hiv : IV σ) (h1 : vp_in x1 40) : Met l yX3_someTestDueFrom wsX3_someTestDueFrom ({ frames := 1, cells := 0, slots := 0, locals := 26 }) (pRo dC dI cI cZ a σ [.ref (a 0), .int x1]) (vp_Si (fun r => r = sp_someTestDueFrom σ x1)) 0 0 (fun _ => False) := by
  refine Met.ofW (cc := cX3_someTestDueFrom) (maxL := 4) (ret := (some .int)) (by decide) rfl ?_
  intro p e s m args below meth c s₁ B hml hv
  obtain ⟨rfl, hP, hK⟩ := hv
  have hx := B.exec
  have hb := B.bytes
  have hr := B.returns
  have hts := atoms_spec (ws := wsX3_someTestDueFrom) B.pre
  have hown : s.vm.findClass RX3 = some m.cls := findClass_of_methodNamed B.named
  have hlocks := B.notSynchronized
  have hl := lv_entry ([.ref (a 0), .int x1]) (n := 4) (Nat.le_of_ble_eq_true rfl)
  rw [lg_entry_eq]
  generalize (lg_sl ([.ref (a 0), .int x1]) ++ List.replicate (4 - (lg_sl ([.ref (a 0), .int x1])).length) Slot.unset).toArray = ls at hl ⊢
  have hl : lv_has ls 4 [(0, .ref (a 0)), (1, .int x1)] := hl
  obtain ⟨R, hR⟩ : ∃ z, z = sp_someTestDueFrom σ x1 := ⟨_, rfl⟩
  have hw := hR
  unfold sp_someTestDueFrom at hw
  refine lv_ldc (own := RX3) (v := 2147483647) hx hb hown (hts _ (kc k_380)) dX3_someTestDueFrom_0 ?_
  refine lv_istore_n (lv' := [(2, .int (2147483647 : Int32)), (0, .ref (a 0)), (1, .int x1)]) hx hb dX3_someTestDueFrom_2 rfl hl (by decide) rfl (fun ls hl => ?_)
  refine lv_iconst (v := 0) hx hb dX3_someTestDueFrom_3 (by decide) ?_
  refine lv_istore_n (lv' := [(3, .int (0 : Int32)), (2, .int (2147483647 : Int32)), (0, .ref (a 0)), (1, .int x1)]) hx hb dX3_someTestDueFrom_4 rfl hl (by decide) rfl (fun ls hl => ?_)
  have loop : ∀ (n k : Nat) (x2 : Int32) (ls : Array Slot), k + n = 3 → lv_has ls 4 [(0, .ref (a 0)), (1, .int x1), (2, .int x2), (3, .int (nI k))] → R = sp_someTestDueFrom_5 σ x1 n k x2 → W p l e (headSpec wsX3_someTestDueFrom ({ frames := 1, cells := 0, slots := 0, locals := 26 })).room s m [.ref (a 0), .int x1].toArray below meth c s.heap [] 0 0 (MQ below (vp_Si (fun r => r = sp_someTestDueFrom σ x1)) [.ref (a 0), .int x1].toArray s 0 0 (fun _ => False)) (F0 m 5 ls []) := by
    intro n
    induction n with
    | zero =>
      intro k x2 ls hkn hl hw
      rw [sp_someTestDueFrom_5_0] at hw
      refine lv_iload_n hx hb dX3_someTestDueFrom_5 rfl (lv_at hl 3 rfl) ?_
      refine lv_iconst (v := 3) hx hb dX3_someTestDueFrom_6 (by decide) ?_
      refine lv_icmp_ge (tgt := 27) hx hb dX3_someTestDueFrom_7 (by decide) (fun c_7_1 => ?_) (fun c_7_1 => ?_)
      · skip
        refine lv_iload_n hx hb dX3_someTestDueFrom_27 rfl (lv_at hl 2 rfl) ?_
        exact W.iret (v := x2) hx hb hr (fun t ht hW => ⟨_, rfl, hw.symm.trans hR, ht⟩) (fun _ h => by cases h) dX3_someTestDueFrom_28
      · skip
        exact absurd (lpE ht_3 hkn (by omega)) c_7_1
    | succ n ih =>
      intro k x2 ls hkn hl hw
      rw [sp_someTestDueFrom_5_s] at hw
      have hkf : vp_in (nI k) 3 := vp_in_nI (by omega) (by decide)
      refine lv_iload_n hx hb dX3_someTestDueFrom_5 rfl (lv_at hl 3 rfl) ?_
      refine lv_iconst (v := 3) hx hb dX3_someTestDueFrom_6 (by decide) ?_
      refine lv_icmp_ge (tgt := 27) hx hb dX3_someTestDueFrom_7 (by decide) (fun c_7_2 => ?_) (fun c_7_2 => ?_)
      · skip
        exact absurd c_7_2 (lpB ht_3 hkn (by omega))
      · skip
        refine lv_iload_n hx hb dX3_someTestDueFrom_10 rfl (lv_at hl 2 rfl) ?_
        refine lv_aload_n hx hb dX3_someTestDueFrom_11 rfl (lv_at hl 0 rfl) ?_
        refine lv_iload_n hx hb dX3_someTestDueFrom_12 rfl (lv_at hl 1 rfl) ?_
        refine lv_iload_n hx hb dX3_someTestDueFrom_13 rfl (lv_at hl 3 rfl) ?_
        refine vp_callSi (W.runV (As := [.int x1, .int (nI k)]) (rest := [.int x2]) ⟨hx, hb, hml, hown, hts⟩ (m_X3_dueFrom l dC dI cI cZ a σ x1 (nI k) hiv h1 hkf) (cwV 2 hts (gV k_385 k_387 k_4 k_20 k_388) rfl rfl rfl (by decide +kernel) ⟨Nat.le_of_ble_eq_true rfl, Nat.le_of_ble_eq_true rfl⟩) (pv_ro (q := (RX3, TX3, 6)) (q0 := 0) (ci := 3) hK hP rfl rfl) rfl rfl hl.1 rfl (lv_room (Nat.le_of_ble_eq_true rfl)) dX3_someTestDueFrom_14 ⟨Nat.le_of_ble_eq_true rfl, Nat.le_of_ble_eq_true rfl⟩) (fun r hrr => ?_)
        subst hrr
        refine va_mmin hx hb (hml.trans hl.1.symm) hown (hts _ (kc k_389)) (hts _ (kc k_390)) (hts _ (kc k_32)) (hts _ (kc k_391)) (Nat.le_of_ble_eq_true rfl) (Nat.le_of_ble_eq_true rfl) (Nat.le_of_ble_eq_true rfl) (Nat.le_of_ble_eq_true rfl) dX3_someTestDueFrom_17 ?_
        refine lv_istore_n (lv' := [(2, .int (if (sp_dueFrom σ x1 (nI k)) < x2 then (sp_dueFrom σ x1 (nI k)) else x2)), (0, .ref (a 0)), (1, .int x1), (3, .int (nI k))]) hx hb dX3_someTestDueFrom_20 rfl hl (by decide) rfl (fun ls hl => ?_)
        refine lv_iinc (v := (nI (k + 1))) (lv' := [(3, .int (nI (k + 1))), (2, .int (if (sp_dueFrom σ x1 (nI k)) < x2 then (sp_dueFrom σ x1 (nI k)) else x2)), (0, .ref (a 0)), (1, .int x1)]) hx hb dX3_someTestDueFrom_21 hl (k := 3) rfl (nI_1 k) (by decide) rfl (fun ls hl => ?_)
        refine lv_goto (tgt := 5) hx hb dX3_someTestDueFrom_24 (by decide) ?_
        exact ih (k + 1) (if (sp_dueFrom σ x1 (nI k)) < x2 then (sp_dueFrom σ x1 (nI k)) else x2) ls (by omega) (lv_sub hl [2, 3, 1, 0] rfl) hw
  exact loop 3 0 (2147483647 : Int32) ls (Nat.zero_add _) (lv_sub hl [2, 3, 1, 0] rfl) hw
set_option maxHeartbeats 4000000 in
set_option maxRecDepth 100000 in
theorem m_X3_reasonBarred (l : Launch) (dC : Nat → ClassId) (dI : Nat → Nat → Nat) (cI cZ : ClassId) (a : Nat → Nat) (σ : St) (x1 : Int32) (hiv : IV σ) (h1 : vp_in x1 40) : Met l yX3_reasonBarred wsX3_reasonBarred ({ frames := 2, cells := 0, slots := 0, locals := 49 }) (pRo dC dI cI cZ a σ [.ref (a 0), .int x1]) (vp_Si (fun r => r = sp_reasonBarred σ x1)) 0 0 (fun _ => False) := by
  refine Met.ofW (cc := cX3_reasonBarred) (maxL := 2) (ret := (some .int)) (by decide) rfl ?_
  intro p e s m args below meth c s₁ B hml hv
  obtain ⟨rfl, hP, hK⟩ := hv
  have hx := B.exec
  have hb := B.bytes
  have hr := B.returns
  have hts := atoms_spec (ws := wsX3_reasonBarred) B.pre
  have hown : s.vm.findClass RX3 = some m.cls := findClass_of_methodNamed B.named
  have hlocks := B.notSynchronized
  have hl := lv_entry ([.ref (a 0), .int x1]) (n := 2) (Nat.le_of_ble_eq_true rfl)
  rw [lg_entry_eq]
  generalize (lg_sl ([.ref (a 0), .int x1]) ++ List.replicate (2 - (lg_sl ([.ref (a 0), .int x1])).length) Slot.unset).toArray = ls at hl ⊢
  have hl : lv_has ls 2 [(0, .ref (a 0)), (1, .int x1)] := hl
  obtain ⟨R, hR⟩ : ∃ z, z = sp_reasonBarred σ x1 := ⟨_, rfl⟩
  have hw := hR
  unfold sp_reasonBarred at hw
  refine lv_aload_n hx hb dX3_reasonBarred_0 rfl (lv_at hl 0 rfl) ?_
  refine va_get (D := (dC, dI)) (ci := 3) (v := .ref (a 7)) (C := RX3) (T := TX3) (N := 6) hx hb hts (iwX3 _) hown hK hP 0 rfl rfl 1 (by decide) (hts _ (kc k_155)) (fun _ h9 => h9) rfl dX3_reasonBarred_1 ?_
  refine lv_iload_n hx hb dX3_reasonBarred_4 rfl (lv_at hl 1 rfl) ?_
  refine vp_callSi (W.runV (As := [.int x1]) (rest := []) ⟨hx, hb, hml, hown, hts⟩ (m_X2_isScrapped l dC dI cI cZ a σ x1 h1) (cwV 1 hts (gV k_372 k_373 k_374 k_22 k_375) rfl rfl rfl (by decide +kernel) ⟨Nat.le_of_ble_eq_true rfl, Nat.le_of_ble_eq_true rfl⟩) (pv_ro (q := (RX2, TX2, 12)) (q0 := 7) (ci := 2) hK hP rfl rfl) rfl rfl hl.1 rfl (lv_room (Nat.le_of_ble_eq_true rfl)) dX3_reasonBarred_5 ⟨Nat.le_of_ble_eq_true rfl, Nat.le_of_ble_eq_true rfl⟩) (fun r hrr => ?_)
  subst hrr
  refine lv_if_eq (tgt := 13) hx hb dX3_reasonBarred_8 (by decide) (fun c_8_1 => ?_) (fun c_8_1 => ?_)
  · skip
    rw [if_pos c_8_1] at hw
    refine lv_aload_n hx hb dX3_reasonBarred_13 rfl (lv_at hl 0 rfl) ?_
    refine va_get (D := (dC, dI)) (ci := 3) (v := .ref (a 25)) (C := RX3) (T := TX3) (N := 6) hx hb hts (iwX3 _) hown hK hP 0 rfl rfl 3 (by decide) (hts _ (kc k_157)) (fun _ h9 => h9) rfl dX3_reasonBarred_14 ?_
    refine lv_aload_n hx hb dX3_reasonBarred_17 rfl (lv_at hl 0 rfl) ?_
    refine va_get (D := (dC, dI)) (ci := 3) (v := .ref (a 7)) (C := RX3) (T := TX3) (N := 6) hx hb hts (iwX3 _) hown hK hP 0 rfl rfl 1 (by decide) (hts _ (kc k_155)) (fun _ h9 => h9) rfl dX3_reasonBarred_18 ?_
    refine va_get (D := (dC, dI)) (ci := 2) (v := .ref (a 10)) (C := RX2) (T := TX2) (N := 12) hx hb hts (iwX2 _) hown hK hP 7 rfl rfl 2 (by decide) (hts _ (kc k_80)) (fun _ h9 => h9) rfl dX3_reasonBarred_21 ?_
    refine lv_iload_n hx hb dX3_reasonBarred_24 rfl (lv_at hl 1 rfl) ?_
    refine va_iald (D := (dC, dI)) (f := σ 10) hx hb hK hP 10 0 rfl rfl (i := x1) h1 dX3_reasonBarred_25 ?_
    refine va_zald (D := (dC, dI)) (f := σ 25) hx hb hK hP 25 1 rfl rfl (i := σ 10 x1.toNatClampNeg) (iv_b hiv h1) dX3_reasonBarred_26 ?_
    refine lv_if_eq (tgt := 32) hx hb dX3_reasonBarred_27 (by decide) (fun c_27_2 => ?_) (fun c_27_2 => ?_)
    · skip
      rw [if_pos c_27_2] at hw
      refine lv_aload_n hx hb dX3_reasonBarred_32 rfl (lv_at hl 0 rfl) ?_
      refine lv_iload_n hx hb dX3_reasonBarred_33 rfl (lv_at hl 1 rfl) ?_
      refine vp_callSi (W.runV (As := [.int x1]) (rest := []) ⟨hx, hb, hml, hown, hts⟩ (m_X3_oldFrom l dC dI cI cZ a σ x1 hiv h1) (cwV 1 hts (gV k_376 k_378 k_2 k_20 k_379) rfl rfl rfl (by decide +kernel) ⟨Nat.le_of_ble_eq_true rfl, Nat.le_of_ble_eq_true rfl⟩) (pv_ro (q := (RX3, TX3, 6)) (q0 := 0) (ci := 3) hK hP rfl rfl) rfl rfl hl.1 rfl (lv_room (Nat.le_of_ble_eq_true rfl)) dX3_reasonBarred_34 ⟨Nat.le_of_ble_eq_true rfl, Nat.le_of_ble_eq_true rfl⟩) (fun r hrr => ?_)
      subst hrr
      refine lv_aload_n hx hb dX3_reasonBarred_37 rfl (lv_at hl 0 rfl) ?_
      refine va_get (D := (dC, dI)) (ci := 3) (v := .int (σ 0 5)) (C := RX3) (T := TX3) (N := 6) hx hb hts (iwX3 _) hown hK hP 0 rfl rfl 5 (by decide) (hts _ (kc k_159)) (fun _ h9 => h9) rfl dX3_reasonBarred_38 ?_
      refine lv_icmp_gt (tgt := 46) hx hb dX3_reasonBarred_41 (by decide) (fun c_41_3 => ?_) (fun c_41_3 => ?_)
      · skip
        rw [if_pos c_41_3] at hw
        refine lv_aload_n hx hb dX3_reasonBarred_46 rfl (lv_at hl 0 rfl) ?_
        refine lv_iload_n hx hb dX3_reasonBarred_47 rfl (lv_at hl 1 rfl) ?_
        refine vp_callSi (W.runV (As := [.int x1]) (rest := []) ⟨hx, hb, hml, hown, hts⟩ (m_X3_someTestDueFrom l dC dI cI cZ a σ x1 hiv h1) (cwV 1 hts (gV k_381 k_383 k_3 k_20 k_384) rfl rfl rfl (by decide +kernel) ⟨Nat.le_of_ble_eq_true rfl, Nat.le_of_ble_eq_true rfl⟩) (pv_ro (q := (RX3, TX3, 6)) (q0 := 0) (ci := 3) hK hP rfl rfl) rfl rfl hl.1 rfl (lv_room (Nat.le_of_ble_eq_true rfl)) dX3_reasonBarred_48 ⟨Nat.le_of_ble_eq_true rfl, Nat.le_of_ble_eq_true rfl⟩) (fun r hrr => ?_)
        subst hrr
        refine lv_aload_n hx hb dX3_reasonBarred_51 rfl (lv_at hl 0 rfl) ?_
        refine va_get (D := (dC, dI)) (ci := 3) (v := .int (σ 0 5)) (C := RX3) (T := TX3) (N := 6) hx hb hts (iwX3 _) hown hK hP 0 rfl rfl 5 (by decide) (hts _ (kc k_159)) (fun _ h9 => h9) rfl dX3_reasonBarred_52 ?_
        refine lv_icmp_gt (tgt := 60) hx hb dX3_reasonBarred_55 (by decide) (fun c_55_4 => ?_) (fun c_55_4 => ?_)
        · skip
          rw [if_pos c_55_4] at hw
          refine lv_aload_n hx hb dX3_reasonBarred_60 rfl (lv_at hl 0 rfl) ?_
          refine va_get (D := (dC, dI)) (ci := 3) (v := .ref (a 7)) (C := RX3) (T := TX3) (N := 6) hx hb hts (iwX3 _) hown hK hP 0 rfl rfl 1 (by decide) (hts _ (kc k_155)) (fun _ h9 => h9) rfl dX3_reasonBarred_61 ?_
          refine lv_iload_n hx hb dX3_reasonBarred_64 rfl (lv_at hl 1 rfl) ?_
          refine vp_callSi (W.runV (As := [.int x1]) (rest := []) ⟨hx, hb, hml, hown, hts⟩ (m_X2_conditionOf l dC dI cI cZ a σ x1 h1) (cwV 1 hts (gV k_392 k_393 k_394 k_22 k_395) rfl rfl rfl (by decide +kernel) ⟨Nat.le_of_ble_eq_true rfl, Nat.le_of_ble_eq_true rfl⟩) (pv_ro (q := (RX2, TX2, 12)) (q0 := 7) (ci := 2) hK hP rfl rfl) rfl rfl hl.1 rfl (lv_room (Nat.le_of_ble_eq_true rfl)) dX3_reasonBarred_65 ⟨Nat.le_of_ble_eq_true rfl, Nat.le_of_ble_eq_true rfl⟩) (fun r hrr => ?_)
          subst hrr
          refine lv_iconst (v := 1) hx hb dX3_reasonBarred_68 (by decide) ?_
          refine lv_icmp_ne (tgt := 74) hx hb dX3_reasonBarred_69 (by decide) (fun c_69_5 => ?_) (fun c_69_5 => ?_)
          · skip
            rw [if_neg c_69_5] at hw
            refine lv_aload_n hx hb dX3_reasonBarred_74 rfl (lv_at hl 0 rfl) ?_
            refine va_get (D := (dC, dI)) (ci := 3) (v := .ref (a 7)) (C := RX3) (T := TX3) (N := 6) hx hb hts (iwX3 _) hown hK hP 0 rfl rfl 1 (by decide) (hts _ (kc k_155)) (fun _ h9 => h9) rfl dX3_reasonBarred_75 ?_
            refine va_get (D := (dC, dI)) (ci := 2) (v := .ref (a 15)) (C := RX2) (T := TX2) (N := 12) hx hb hts (iwX2 _) hown hK hP 7 rfl rfl 7 (by decide) (hts _ (kc k_90)) (fun _ h9 => h9) rfl dX3_reasonBarred_78 ?_
            refine lv_iload_n hx hb dX3_reasonBarred_81 rfl (lv_at hl 1 rfl) ?_
            refine va_zald (D := (dC, dI)) (f := σ 15) hx hb hK hP 15 1 rfl rfl (i := x1) h1 dX3_reasonBarred_82 ?_
            refine lv_if_eq (tgt := 91) hx hb dX3_reasonBarred_83 (by decide) (fun c_83_6 => ?_) (fun c_83_6 => ?_)
            · skip
              rw [if_pos c_83_6] at hw
              refine lv_iconst (v := 0) hx hb dX3_reasonBarred_91 (by decide) ?_
              exact W.iret (v := (0 : Int32)) hx hb hr (fun t ht hW => ⟨_, rfl, hw.symm.trans hR, ht⟩) (fun _ h => by cases h) dX3_reasonBarred_92
            · skip
              rw [if_neg c_83_6] at hw
              refine lv_bipush (v := 6) hx hb dX3_reasonBarred_86 (by decide) ?_
              refine lv_goto (tgt := 92) hx hb dX3_reasonBarred_88 (by decide) ?_
              exact W.iret (v := (6 : Int32)) hx hb hr (fun t ht hW => ⟨_, rfl, hw.symm.trans hR, ht⟩) (fun _ h => by cases h) dX3_reasonBarred_92
          · skip
            rw [if_pos c_69_5] at hw
            refine lv_iconst (v := 5) hx hb dX3_reasonBarred_72 (by decide) ?_
            exact W.iret (v := (5 : Int32)) hx hb hr (fun t ht hW => ⟨_, rfl, hw.symm.trans hR, ht⟩) (fun _ h => by cases h) dX3_reasonBarred_73
        · skip
          rw [if_neg c_55_4] at hw
          refine lv_iconst (v := 4) hx hb dX3_reasonBarred_58 (by decide) ?_
          exact W.iret (v := (4 : Int32)) hx hb hr (fun t ht hW => ⟨_, rfl, hw.symm.trans hR, ht⟩) (fun _ h => by cases h) dX3_reasonBarred_59
      · skip
        rw [if_neg c_41_3] at hw
        refine lv_iconst (v := 3) hx hb dX3_reasonBarred_44 (by decide) ?_
        exact W.iret (v := (3 : Int32)) hx hb hr (fun t ht hW => ⟨_, rfl, hw.symm.trans hR, ht⟩) (fun _ h => by cases h) dX3_reasonBarred_45
    · skip
      rw [if_neg c_27_2] at hw
      refine lv_iconst (v := 2) hx hb dX3_reasonBarred_30 (by decide) ?_
      exact W.iret (v := (2 : Int32)) hx hb hr (fun t ht hW => ⟨_, rfl, hw.symm.trans hR, ht⟩) (fun _ h => by cases h) dX3_reasonBarred_31
  · skip
    rw [if_neg c_8_1] at hw
    refine lv_iconst (v := 1) hx hb dX3_reasonBarred_11 (by decide) ?_
    exact W.iret (v := (1 : Int32)) hx hb hr (fun t ht hW => ⟨_, rfl, hw.symm.trans hR, ht⟩) (fun _ h => by cases h) dX3_reasonBarred_12
set_option maxHeartbeats 4000000 in
set_option maxRecDepth 100000 in
theorem m_X3_endOf (l : Launch) (dC : Nat → ClassId) (dI : Nat → Nat → Nat) (cI cZ : ClassId) (a : Nat → Nat) (σ : St) (x1 : Int32) (hiv : IV σ) (h1 : vp_in x1 40) : Met l yX3_endOf wsX3_endOf ({ frames := 2, cells := 0, slots := 0, locals := 49 }) (pRo dC dI cI cZ a σ [.ref (a 0), .int x1]) (vp_Si (fun r => r = sp_endOf σ x1)) 0 0 (fun _ => False) := by
  refine Met.ofW (cc := cX3_endOf) (maxL := 3) (ret := (some .int)) (by decide) rfl ?_
  intro p e s m args below meth c s₁ B hml hv
  obtain ⟨rfl, hP, hK⟩ := hv
  have hx := B.exec
  have hb := B.bytes
  have hr := B.returns
  have hts := atoms_spec (ws := wsX3_endOf) B.pre
  have hown : s.vm.findClass RX3 = some m.cls := findClass_of_methodNamed B.named
  have hlocks := B.notSynchronized
  have hl := lv_entry ([.ref (a 0), .int x1]) (n := 3) (Nat.le_of_ble_eq_true rfl)
  rw [lg_entry_eq]
  generalize (lg_sl ([.ref (a 0), .int x1]) ++ List.replicate (3 - (lg_sl ([.ref (a 0), .int x1])).length) Slot.unset).toArray = ls at hl ⊢
  have hl : lv_has ls 3 [(0, .ref (a 0)), (1, .int x1)] := hl
  obtain ⟨R, hR⟩ : ∃ z, z = sp_endOf σ x1 := ⟨_, rfl⟩
  have hw := hR
  unfold sp_endOf at hw
  refine lv_aload_n hx hb dX3_endOf_0 rfl (lv_at hl 0 rfl) ?_
  refine va_get (D := (dC, dI)) (ci := 3) (v := .ref (a 7)) (C := RX3) (T := TX3) (N := 6) hx hb hts (iwX3 _) hown hK hP 0 rfl rfl 1 (by decide) (hts _ (kc k_155)) (fun _ h9 => h9) rfl dX3_endOf_1 ?_
  refine lv_iload_n hx hb dX3_endOf_4 rfl (lv_at hl 1 rfl) ?_
  refine vp_callSi (W.runV (As := [.int x1]) (rest := []) ⟨hx, hb, hml, hown, hts⟩ (m_X2_isScrapped l dC dI cI cZ a σ x1 h1) (cwV 1 hts (gV k_372 k_373 k_374 k_22 k_375) rfl rfl rfl (by decide +kernel) ⟨Nat.le_of_ble_eq_true rfl, Nat.le_of_ble_eq_true rfl⟩) (pv_ro (q := (RX2, TX2, 12)) (q0 := 7) (ci := 2) hK hP rfl rfl) rfl rfl hl.1 rfl (lv_room (Nat.le_of_ble_eq_true rfl)) dX3_endOf_5 ⟨Nat.le_of_ble_eq_true rfl, Nat.le_of_ble_eq_true rfl⟩) (fun r hrr => ?_)
  subst hrr
  refine lv_if_eq (tgt := 13) hx hb dX3_endOf_8 (by decide) (fun c_8_1 => ?_) (fun c_8_1 => ?_)
  · skip
    rw [if_pos c_8_1] at hw
    refine lv_aload_n hx hb dX3_endOf_13 rfl (lv_at hl 0 rfl) ?_
    refine lv_iload_n hx hb dX3_endOf_14 rfl (lv_at hl 1 rfl) ?_
    refine vp_callSi (W.runV (As := [.int x1]) (rest := []) ⟨hx, hb, hml, hown, hts⟩ (m_X3_oldFrom l dC dI cI cZ a σ x1 hiv h1) (cwV 1 hts (gV k_376 k_378 k_2 k_20 k_379) rfl rfl rfl (by decide +kernel) ⟨Nat.le_of_ble_eq_true rfl, Nat.le_of_ble_eq_true rfl⟩) (pv_ro (q := (RX3, TX3, 6)) (q0 := 0) (ci := 3) hK hP rfl rfl) rfl rfl hl.1 rfl (lv_room (Nat.le_of_ble_eq_true rfl)) dX3_endOf_15 ⟨Nat.le_of_ble_eq_true rfl, Nat.le_of_ble_eq_true rfl⟩) (fun r hrr => ?_)
    subst hrr
    refine lv_aload_n hx hb dX3_endOf_18 rfl (lv_at hl 0 rfl) ?_
    refine lv_iload_n hx hb dX3_endOf_19 rfl (lv_at hl 1 rfl) ?_
    refine vp_callSi (W.runV (As := [.int x1]) (rest := [.int (sp_oldFrom σ x1)]) ⟨hx, hb, hml, hown, hts⟩ (m_X3_someTestDueFrom l dC dI cI cZ a σ x1 hiv h1) (cwV 1 hts (gV k_381 k_383 k_3 k_20 k_384) rfl rfl rfl (by decide +kernel) ⟨Nat.le_of_ble_eq_true rfl, Nat.le_of_ble_eq_true rfl⟩) (pv_ro (q := (RX3, TX3, 6)) (q0 := 0) (ci := 3) hK hP rfl rfl) rfl rfl hl.1 rfl (lv_room (Nat.le_of_ble_eq_true rfl)) dX3_endOf_20 ⟨Nat.le_of_ble_eq_true rfl, Nat.le_of_ble_eq_true rfl⟩) (fun r hrr => ?_)
    subst hrr
    refine va_mmin hx hb (hml.trans hl.1.symm) hown (hts _ (kc k_389)) (hts _ (kc k_390)) (hts _ (kc k_32)) (hts _ (kc k_391)) (Nat.le_of_ble_eq_true rfl) (Nat.le_of_ble_eq_true rfl) (Nat.le_of_ble_eq_true rfl) (Nat.le_of_ble_eq_true rfl) dX3_endOf_23 ?_
    refine lv_istore_n (lv' := [(2, .int (if (sp_someTestDueFrom σ x1) < (sp_oldFrom σ x1) then (sp_someTestDueFrom σ x1) else (sp_oldFrom σ x1))), (0, .ref (a 0)), (1, .int x1)]) hx hb dX3_endOf_26 rfl hl (by decide) rfl (fun ls hl => ?_)
    refine lv_iload_n hx hb dX3_endOf_27 rfl (lv_at hl 0 rfl) ?_
    refine lv_ldc (own := RX3) (v := 2147483647) hx hb hown (hts _ (kc k_380)) dX3_endOf_28 ?_
    refine lv_icmp_ne (tgt := 37) hx hb dX3_endOf_30 (by decide) (fun c_30_2 => ?_) (fun c_30_2 => ?_)
    · skip
      rw [if_neg c_30_2] at hw
      refine lv_iload_n hx hb dX3_endOf_37 rfl (lv_at hl 0 rfl) ?_
      refine lv_aload_n hx hb dX3_endOf_38 rfl (lv_at hl 1 rfl) ?_
      refine va_get (D := (dC, dI)) (ci := 3) (v := .int (σ 0 5)) (C := RX3) (T := TX3) (N := 6) hx hb hts (iwX3 _) hown hK hP 0 rfl rfl 5 (by decide) (hts _ (kc k_159)) (fun _ h9 => h9) rfl dX3_endOf_39 ?_
      refine va_mmax hx hb (hml.trans hl.1.symm) hown (hts _ (kc k_477)) (hts _ (kc k_397)) (hts _ (kc k_32)) (hts _ (kc k_398)) (Nat.le_of_ble_eq_true rfl) (Nat.le_of_ble_eq_true rfl) (Nat.le_of_ble_eq_true rfl) (Nat.le_of_ble_eq_true rfl) dX3_endOf_42 ?_
      exact W.iret (v := (if (if (sp_someTestDueFrom σ x1) < (sp_oldFrom σ x1) then (sp_someTestDueFrom σ x1) else (sp_oldFrom σ x1)) < (σ 0 5) then (σ 0 5) else (if (sp_someTestDueFrom σ x1) < (sp_oldFrom σ x1) then (sp_someTestDueFrom σ x1) else (sp_oldFrom σ x1)))) hx hb hr (fun t ht hW => ⟨_, rfl, hw.symm.trans hR, ht⟩) (fun _ h => by cases h) dX3_endOf_45
    · skip
      rw [if_pos c_30_2] at hw
      refine lv_iconst (v := -1) hx hb dX3_endOf_33 (by decide) ?_
      refine lv_goto (tgt := 45) hx hb dX3_endOf_34 (by decide) ?_
      exact W.iret (v := (-1 : Int32)) hx hb hr (fun t ht hW => ⟨_, rfl, hw.symm.trans hR, ht⟩) (fun _ h => by cases h) dX3_endOf_45
  · skip
    rw [if_neg c_8_1] at hw
    refine lv_iconst (v := -1) hx hb dX3_endOf_11 (by decide) ?_
    exact W.iret (v := (-1 : Int32)) hx hb hr (fun t ht hW => ⟨_, rfl, hw.symm.trans hR, ht⟩) (fun _ h => by cases h) dX3_endOf_12
set_option maxHeartbeats 4000000 in
set_option maxRecDepth 100000 in
theorem m_X3_countEndingBefore (l : Launch) (dC : Nat → ClassId) (dI : Nat → Nat → Nat) (cI cZ : ClassId) (a : Nat → Nat) (σ : St) (x1 : Int32) (hiv : IV σ) (h1 : vp_in x1 40) : Met l yX3_countEndingBefore wsX3_countEndingBefore ({ frames := 0, cells := 0, slots := 0, locals := 0 }) (pRo dC dI cI cZ a σ [.ref (a 0), .int x1]) (vp_Si (fun r => r = sp_countEndingBefore σ x1)) 0 0 (fun _ => False) := by
  refine Met.ofW (cc := cX3_countEndingBefore) (maxL := 6) (ret := (some .int)) (by decide) rfl ?_
  intro p e s m args below meth c s₁ B hml hv
  obtain ⟨rfl, hP, hK⟩ := hv
  have hx := B.exec
  have hb := B.bytes
  have hr := B.returns
  have hts := atoms_spec (ws := wsX3_countEndingBefore) B.pre
  have hown : s.vm.findClass RX3 = some m.cls := findClass_of_methodNamed B.named
  have hlocks := B.notSynchronized
  have hl := lv_entry ([.ref (a 0), .int x1]) (n := 6) (Nat.le_of_ble_eq_true rfl)
  rw [lg_entry_eq]
  generalize (lg_sl ([.ref (a 0), .int x1]) ++ List.replicate (6 - (lg_sl ([.ref (a 0), .int x1])).length) Slot.unset).toArray = ls at hl ⊢
  have hl : lv_has ls 6 [(0, .ref (a 0)), (1, .int x1)] := hl
  obtain ⟨R, hR⟩ : ∃ z, z = sp_countEndingBefore σ x1 := ⟨_, rfl⟩
  have hw := hR
  unfold sp_countEndingBefore at hw
  have hle := iv_le hiv
  refine lv_iconst (v := 0) hx hb dX3_countEndingBefore_0 (by decide) ?_
  refine lv_istore_n (lv' := [(2, .int (0 : Int32)), (0, .ref (a 0)), (1, .int x1)]) hx hb dX3_countEndingBefore_1 rfl hl (by decide) rfl (fun ls hl => ?_)
  refine lv_iconst (v := 0) hx hb dX3_countEndingBefore_2 (by decide) ?_
  refine lv_istore_n (lv' := [(3, .int (0 : Int32)), (2, .int (0 : Int32)), (0, .ref (a 0)), (1, .int x1)]) hx hb dX3_countEndingBefore_3 rfl hl (by decide) rfl (fun ls hl => ?_)
  have loop : ∀ (n k : Nat) (x2 : Int32) (ls : Array Slot), k + n = cntN σ → lv_has ls 6 [(0, .ref (a 0)), (1, .int x1), (2, .int x2), (3, .int (nI k))] → R = sp_countEndingBefore_4 σ x1 n k x2 → W p l e (headSpec wsX3_countEndingBefore ({ frames := 0, cells := 0, slots := 0, locals := 0 })).room s m [.ref (a 0), .int x1].toArray below meth c s.heap [] 0 0 (MQ below (vp_Si (fun r => r = sp_countEndingBefore σ x1)) [.ref (a 0), .int x1].toArray s 0 0 (fun _ => False)) (F0 m 4 ls []) := by
    intro n
    induction n with
    | zero =>
      intro k x2 ls hkn hl hw
      rw [sp_countEndingBefore_4_0] at hw
      refine lv_iload_n hx hb dX3_countEndingBefore_4 rfl (lv_at hl 3 rfl) ?_
      refine lv_aload_n hx hb dX3_countEndingBefore_5 rfl (lv_at hl 0 rfl) ?_
      refine va_get (D := (dC, dI)) (ci := 3) (v := .ref (a 7)) (C := RX3) (T := TX3) (N := 6) hx hb hts (iwX3 _) hown hK hP 0 rfl rfl 1 (by decide) (hts _ (kc k_155)) (fun _ h9 => h9) rfl dX3_countEndingBefore_6 ?_
      refine va_get (D := (dC, dI)) (ci := 2) (v := .int (σ 7 11)) (C := RX2) (T := TX2) (N := 12) hx hb hts (iwX2 _) hown hK hP 7 rfl rfl 11 (by decide) (hts _ (kc k_97)) (fun _ h9 => h9) rfl dX3_countEndingBefore_9 ?_
      refine lv_icmp_ge (tgt := 93) hx hb dX3_countEndingBefore_12 (by decide) (fun c_12_1 => ?_) (fun c_12_1 => ?_)
      · skip
        refine lv_iload_n hx hb dX3_countEndingBefore_93 rfl (lv_at hl 2 rfl) ?_
        exact W.iret (v := x2) hx hb hr (fun t ht hW => ⟨_, rfl, hw.symm.trans hR, ht⟩) (fun _ h => by cases h) dX3_countEndingBefore_94
      · skip
        exact absurd (lpE (iv_cnt hiv) hkn (by omega)) c_12_1
    | succ n ih =>
      intro k x2 ls hkn hl hw
      rw [sp_countEndingBefore_4_s] at hw
      have hkf : vp_in (nI k) 40 := vp_in_nI (by omega) (by decide)
      refine lv_iload_n hx hb dX3_countEndingBefore_4 rfl (lv_at hl 3 rfl) ?_
      refine lv_aload_n hx hb dX3_countEndingBefore_5 rfl (lv_at hl 0 rfl) ?_
      refine va_get (D := (dC, dI)) (ci := 3) (v := .ref (a 7)) (C := RX3) (T := TX3) (N := 6) hx hb hts (iwX3 _) hown hK hP 0 rfl rfl 1 (by decide) (hts _ (kc k_155)) (fun _ h9 => h9) rfl dX3_countEndingBefore_6 ?_
      refine va_get (D := (dC, dI)) (ci := 2) (v := .int (σ 7 11)) (C := RX2) (T := TX2) (N := 12) hx hb hts (iwX2 _) hown hK hP 7 rfl rfl 11 (by decide) (hts _ (kc k_97)) (fun _ h9 => h9) rfl dX3_countEndingBefore_9 ?_
      refine lv_icmp_ge (tgt := 93) hx hb dX3_countEndingBefore_12 (by decide) (fun c_12_2 => ?_) (fun c_12_2 => ?_)
      · skip
        exact absurd c_12_2 (lpB (iv_cnt hiv) hkn (by omega))
      · skip
        refine lv_aload_n hx hb dX3_countEndingBefore_15 rfl (lv_at hl 0 rfl) ?_
        refine va_get (D := (dC, dI)) (ci := 3) (v := .ref (a 26)) (C := RX3) (T := TX3) (N := 6) hx hb hts (iwX3 _) hown hK hP 0 rfl rfl 4 (by decide) (hts _ (kc k_158)) (fun _ h9 => h9) rfl dX3_countEndingBefore_16 ?_
        refine lv_iload_n hx hb dX3_countEndingBefore_19 rfl (lv_at hl 3 rfl) ?_
        refine va_iald (D := (dC, dI)) (f := σ 26) hx hb hK hP 26 0 rfl rfl (i := nI k) hkf dX3_countEndingBefore_20 ?_
        refine lv_aload_n hx hb dX3_countEndingBefore_21 rfl (lv_at hl 0 rfl) ?_
        refine va_get (D := (dC, dI)) (ci := 3) (v := .ref (a 26)) (C := RX3) (T := TX3) (N := 6) hx hb hts (iwX3 _) hown hK hP 0 rfl rfl 4 (by decide) (hts _ (kc k_158)) (fun _ h9 => h9) rfl dX3_countEndingBefore_22 ?_
        refine lv_iload_n hx hb dX3_countEndingBefore_25 rfl (lv_at hl 1 rfl) ?_
        refine va_iald (D := (dC, dI)) (f := σ 26) hx hb hK hP 26 0 rfl rfl (i := x1) h1 dX3_countEndingBefore_26 ?_
        refine lv_icmp_ge (tgt := 34) hx hb dX3_countEndingBefore_27 (by decide) (fun c_27_3 => ?_) (fun c_27_3 => ?_)
        · skip
          rw [if_pos c_27_3] at hw
          refine lv_iconst (v := 0) hx hb dX3_countEndingBefore_34 (by decide) ?_
          refine lv_istore (lv' := [(4, .int (0 : Int32)), (0, .ref (a 0)), (1, .int x1), (2, .int x2), (3, .int (nI k))]) hx hb dX3_countEndingBefore_35 hl (by decide) rfl (fun ls hl => ?_)
          refine lv_aload_n hx hb dX3_countEndingBefore_37 rfl (lv_at hl 1 rfl) ?_
          refine va_get (D := (dC, dI)) (ci := 3) (v := .ref (a 26)) (C := RX3) (T := TX3) (N := 6) hx hb hts (iwX3 _) hown hK hP 0 rfl rfl 4 (by decide) (hts _ (kc k_158)) (fun _ h9 => h9) rfl dX3_countEndingBefore_38 ?_
          refine lv_iload_n hx hb dX3_countEndingBefore_41 rfl (lv_at hl 4 rfl) ?_
          refine va_iald (D := (dC, dI)) (f := σ 26) hx hb hK hP 26 0 rfl rfl (i := nI k) hkf dX3_countEndingBefore_42 ?_
          refine lv_aload_n hx hb dX3_countEndingBefore_43 rfl (lv_at hl 1 rfl) ?_
          refine va_get (D := (dC, dI)) (ci := 3) (v := .ref (a 26)) (C := RX3) (T := TX3) (N := 6) hx hb hts (iwX3 _) hown hK hP 0 rfl rfl 4 (by decide) (hts _ (kc k_158)) (fun _ h9 => h9) rfl dX3_countEndingBefore_44 ?_
          refine lv_iload_n hx hb dX3_countEndingBefore_47 rfl (lv_at hl 2 rfl) ?_
          refine va_iald (D := (dC, dI)) (f := σ 26) hx hb hK hP 26 0 rfl rfl (i := x1) h1 dX3_countEndingBefore_48 ?_
          refine lv_icmp_ne (tgt := 61) hx hb dX3_countEndingBefore_49 (by decide) (fun c_49_4 => ?_) (fun c_49_4 => ?_)
          · skip
            rw [if_neg c_49_4] at hw
            refine lv_iconst (v := 0) hx hb dX3_countEndingBefore_61 (by decide) ?_
            refine lv_istore (lv' := [(5, .int (0 : Int32)), (4, .int (0 : Int32)), (0, .ref (a 0)), (1, .int x1), (2, .int x2), (3, .int (nI k))]) hx hb dX3_countEndingBefore_62 hl (by decide) rfl (fun ls hl => ?_)
            refine lv_aload_n hx hb dX3_countEndingBefore_64 rfl (lv_at hl 2 rfl) ?_
            refine va_get (D := (dC, dI)) (ci := 3) (v := .ref (a 26)) (C := RX3) (T := TX3) (N := 6) hx hb hts (iwX3 _) hown hK hP 0 rfl rfl 4 (by decide) (hts _ (kc k_158)) (fun _ h9 => h9) rfl dX3_countEndingBefore_65 ?_
            refine lv_iload_n hx hb dX3_countEndingBefore_68 rfl (lv_at hl 5 rfl) ?_
            refine va_iald (D := (dC, dI)) (f := σ 26) hx hb hK hP 26 0 rfl rfl (i := nI k) hkf dX3_countEndingBefore_69 ?_
            refine lv_iconst (v := -1) hx hb dX3_countEndingBefore_70 (by decide) ?_
            refine lv_icmp_eq (tgt := 87) hx hb dX3_countEndingBefore_71 (by decide) (fun c_71_5 => ?_) (fun c_71_5 => ?_)
            · skip
              rw [if_pos c_71_5] at hw
              refine lv_iinc (v := (nI (k + 1))) (lv' := [(3, .int (nI (k + 1))), (5, .int (0 : Int32)), (4, .int (0 : Int32)), (0, .ref (a 0)), (1, .int x1), (2, .int x2)]) hx hb dX3_countEndingBefore_87 hl (k := 5) rfl (nI_1 k) (by decide) rfl (fun ls hl => ?_)
              refine lv_goto (tgt := 4) hx hb dX3_countEndingBefore_90 (by decide) ?_
              exact ih (k + 1) x2 ls (by omega) (lv_sub hl [3, 4, 5, 0] rfl) hw
            · skip
              rw [if_neg c_71_5] at hw
              refine lv_iload hx hb dX3_countEndingBefore_74 (lv_at hl 1 rfl) ?_
              refine lv_if_ne (tgt := 84) hx hb dX3_countEndingBefore_76 (by decide) (fun c_76_6 => ?_) (fun c_76_6 => ?_)
              · skip
                exact absurd c_76_6 (by decide)
              · skip
                refine lv_iload hx hb dX3_countEndingBefore_79 (lv_at hl 0 rfl) ?_
                refine lv_if_eq (tgt := 87) hx hb dX3_countEndingBefore_81 (by decide) (fun c_81_7 => ?_) (fun c_81_7 => ?_)
                · skip
                  refine lv_iinc (v := (nI (k + 1))) (lv' := [(3, .int (nI (k + 1))), (5, .int (0 : Int32)), (4, .int (0 : Int32)), (0, .ref (a 0)), (1, .int x1), (2, .int x2)]) hx hb dX3_countEndingBefore_87 hl (k := 5) rfl (nI_1 k) (by decide) rfl (fun ls hl => ?_)
                  refine lv_goto (tgt := 4) hx hb dX3_countEndingBefore_90 (by decide) ?_
                  exact ih (k + 1) x2 ls (by omega) (lv_sub hl [3, 4, 5, 0] rfl) hw
                · skip
                  exact absurd c_81_7 (by decide)
          · skip
            rw [if_pos c_49_4] at hw
            refine lv_iload_n hx hb dX3_countEndingBefore_52 rfl (lv_at hl 4 rfl) ?_
            refine lv_iload_n hx hb dX3_countEndingBefore_53 rfl (lv_at hl 2 rfl) ?_
            refine lv_icmp_ge (tgt := 61) hx hb dX3_countEndingBefore_54 (by decide) (fun c_54_8 => ?_) (fun c_54_8 => ?_)
            · skip
              rw [if_pos c_54_8] at hw
              refine lv_iconst (v := 0) hx hb dX3_countEndingBefore_61 (by decide) ?_
              refine lv_istore (lv' := [(5, .int (0 : Int32)), (4, .int (0 : Int32)), (0, .ref (a 0)), (1, .int x1), (2, .int x2), (3, .int (nI k))]) hx hb dX3_countEndingBefore_62 hl (by decide) rfl (fun ls hl => ?_)
              refine lv_aload_n hx hb dX3_countEndingBefore_64 rfl (lv_at hl 2 rfl) ?_
              refine va_get (D := (dC, dI)) (ci := 3) (v := .ref (a 26)) (C := RX3) (T := TX3) (N := 6) hx hb hts (iwX3 _) hown hK hP 0 rfl rfl 4 (by decide) (hts _ (kc k_158)) (fun _ h9 => h9) rfl dX3_countEndingBefore_65 ?_
              refine lv_iload_n hx hb dX3_countEndingBefore_68 rfl (lv_at hl 5 rfl) ?_
              refine va_iald (D := (dC, dI)) (f := σ 26) hx hb hK hP 26 0 rfl rfl (i := nI k) hkf dX3_countEndingBefore_69 ?_
              refine lv_iconst (v := -1) hx hb dX3_countEndingBefore_70 (by decide) ?_
              refine lv_icmp_eq (tgt := 87) hx hb dX3_countEndingBefore_71 (by decide) (fun c_71_9 => ?_) (fun c_71_9 => ?_)
              · skip
                rw [if_pos c_71_9] at hw
                refine lv_iinc (v := (nI (k + 1))) (lv' := [(3, .int (nI (k + 1))), (5, .int (0 : Int32)), (4, .int (0 : Int32)), (0, .ref (a 0)), (1, .int x1), (2, .int x2)]) hx hb dX3_countEndingBefore_87 hl (k := 5) rfl (nI_1 k) (by decide) rfl (fun ls hl => ?_)
                refine lv_goto (tgt := 4) hx hb dX3_countEndingBefore_90 (by decide) ?_
                exact ih (k + 1) x2 ls (by omega) (lv_sub hl [3, 4, 5, 0] rfl) hw
              · skip
                rw [if_neg c_71_9] at hw
                refine lv_iload hx hb dX3_countEndingBefore_74 (lv_at hl 1 rfl) ?_
                refine lv_if_ne (tgt := 84) hx hb dX3_countEndingBefore_76 (by decide) (fun c_76_10 => ?_) (fun c_76_10 => ?_)
                · skip
                  exact absurd c_76_10 (by decide)
                · skip
                  refine lv_iload hx hb dX3_countEndingBefore_79 (lv_at hl 0 rfl) ?_
                  refine lv_if_eq (tgt := 87) hx hb dX3_countEndingBefore_81 (by decide) (fun c_81_11 => ?_) (fun c_81_11 => ?_)
                  · skip
                    refine lv_iinc (v := (nI (k + 1))) (lv' := [(3, .int (nI (k + 1))), (5, .int (0 : Int32)), (4, .int (0 : Int32)), (0, .ref (a 0)), (1, .int x1), (2, .int x2)]) hx hb dX3_countEndingBefore_87 hl (k := 5) rfl (nI_1 k) (by decide) rfl (fun ls hl => ?_)
                    refine lv_goto (tgt := 4) hx hb dX3_countEndingBefore_90 (by decide) ?_
                    exact ih (k + 1) x2 ls (by omega) (lv_sub hl [3, 4, 5, 0] rfl) hw
                  · skip
                    exact absurd c_81_11 (by decide)
            · skip
              rw [if_neg c_54_8] at hw
              refine lv_iconst (v := 1) hx hb dX3_countEndingBefore_57 (by decide) ?_
              refine lv_goto (tgt := 62) hx hb dX3_countEndingBefore_58 (by decide) ?_
              refine lv_istore (lv' := [(5, .int (1 : Int32)), (4, .int (0 : Int32)), (0, .ref (a 0)), (1, .int x1), (2, .int x2), (3, .int (nI k))]) hx hb dX3_countEndingBefore_62 hl (by decide) rfl (fun ls hl => ?_)
              refine lv_aload_n hx hb dX3_countEndingBefore_64 rfl (lv_at hl 2 rfl) ?_
              refine va_get (D := (dC, dI)) (ci := 3) (v := .ref (a 26)) (C := RX3) (T := TX3) (N := 6) hx hb hts (iwX3 _) hown hK hP 0 rfl rfl 4 (by decide) (hts _ (kc k_158)) (fun _ h9 => h9) rfl dX3_countEndingBefore_65 ?_
              refine lv_iload_n hx hb dX3_countEndingBefore_68 rfl (lv_at hl 5 rfl) ?_
              refine va_iald (D := (dC, dI)) (f := σ 26) hx hb hK hP 26 0 rfl rfl (i := nI k) hkf dX3_countEndingBefore_69 ?_
              refine lv_iconst (v := -1) hx hb dX3_countEndingBefore_70 (by decide) ?_
              refine lv_icmp_eq (tgt := 87) hx hb dX3_countEndingBefore_71 (by decide) (fun c_71_12 => ?_) (fun c_71_12 => ?_)
              · skip
                rw [if_pos c_71_12] at hw
                refine lv_iinc (v := (nI (k + 1))) (lv' := [(3, .int (nI (k + 1))), (5, .int (1 : Int32)), (4, .int (0 : Int32)), (0, .ref (a 0)), (1, .int x1), (2, .int x2)]) hx hb dX3_countEndingBefore_87 hl (k := 5) rfl (nI_1 k) (by decide) rfl (fun ls hl => ?_)
                refine lv_goto (tgt := 4) hx hb dX3_countEndingBefore_90 (by decide) ?_
                exact ih (k + 1) x2 ls (by omega) (lv_sub hl [3, 4, 5, 0] rfl) hw
              · skip
                rw [if_neg c_71_12] at hw
                refine lv_iload hx hb dX3_countEndingBefore_74 (lv_at hl 1 rfl) ?_
                refine lv_if_ne (tgt := 84) hx hb dX3_countEndingBefore_76 (by decide) (fun c_76_13 => ?_) (fun c_76_13 => ?_)
                · skip
                  exact absurd c_76_13 (by decide)
                · skip
                  refine lv_iload hx hb dX3_countEndingBefore_79 (lv_at hl 0 rfl) ?_
                  refine lv_if_eq (tgt := 87) hx hb dX3_countEndingBefore_81 (by decide) (fun c_81_14 => ?_) (fun c_81_14 => ?_)
                  · skip
                    exact absurd c_81_14 (by decide)
                  · skip
                    refine lv_iinc (v := (x2 + (1 : Int32))) (lv' := [(2, .int (x2 + (1 : Int32))), (5, .int (1 : Int32)), (4, .int (0 : Int32)), (0, .ref (a 0)), (1, .int x1), (3, .int (nI k))]) hx hb dX3_countEndingBefore_84 hl (k := 4) rfl rfl (by decide) rfl (fun ls hl => ?_)
                    refine lv_iinc (v := (nI (k + 1))) (lv' := [(3, .int (nI (k + 1))), (2, .int (x2 + (1 : Int32))), (5, .int (1 : Int32)), (4, .int (0 : Int32)), (0, .ref (a 0)), (1, .int x1)]) hx hb dX3_countEndingBefore_87 hl (k := 5) rfl (nI_1 k) (by decide) rfl (fun ls hl => ?_)
                    refine lv_goto (tgt := 4) hx hb dX3_countEndingBefore_90 (by decide) ?_
                    exact ih (k + 1) (x2 + (1 : Int32)) ls (by omega) (lv_sub hl [4, 5, 1, 0] rfl) hw
        · skip
          rw [if_neg c_27_3] at hw
          refine lv_iconst (v := 1) hx hb dX3_countEndingBefore_30 (by decide) ?_
          refine lv_goto (tgt := 35) hx hb dX3_countEndingBefore_31 (by decide) ?_
          refine lv_istore (lv' := [(4, .int (1 : Int32)), (0, .ref (a 0)), (1, .int x1), (2, .int x2), (3, .int (nI k))]) hx hb dX3_countEndingBefore_35 hl (by decide) rfl (fun ls hl => ?_)
          refine lv_aload_n hx hb dX3_countEndingBefore_37 rfl (lv_at hl 1 rfl) ?_
          refine va_get (D := (dC, dI)) (ci := 3) (v := .ref (a 26)) (C := RX3) (T := TX3) (N := 6) hx hb hts (iwX3 _) hown hK hP 0 rfl rfl 4 (by decide) (hts _ (kc k_158)) (fun _ h9 => h9) rfl dX3_countEndingBefore_38 ?_
          refine lv_iload_n hx hb dX3_countEndingBefore_41 rfl (lv_at hl 4 rfl) ?_
          refine va_iald (D := (dC, dI)) (f := σ 26) hx hb hK hP 26 0 rfl rfl (i := nI k) hkf dX3_countEndingBefore_42 ?_
          refine lv_aload_n hx hb dX3_countEndingBefore_43 rfl (lv_at hl 1 rfl) ?_
          refine va_get (D := (dC, dI)) (ci := 3) (v := .ref (a 26)) (C := RX3) (T := TX3) (N := 6) hx hb hts (iwX3 _) hown hK hP 0 rfl rfl 4 (by decide) (hts _ (kc k_158)) (fun _ h9 => h9) rfl dX3_countEndingBefore_44 ?_
          refine lv_iload_n hx hb dX3_countEndingBefore_47 rfl (lv_at hl 2 rfl) ?_
          refine va_iald (D := (dC, dI)) (f := σ 26) hx hb hK hP 26 0 rfl rfl (i := x1) h1 dX3_countEndingBefore_48 ?_
          refine lv_icmp_ne (tgt := 61) hx hb dX3_countEndingBefore_49 (by decide) (fun c_49_15 => ?_) (fun c_49_15 => ?_)
          · skip
            rw [if_neg c_49_15] at hw
            refine lv_iconst (v := 0) hx hb dX3_countEndingBefore_61 (by decide) ?_
            refine lv_istore (lv' := [(5, .int (0 : Int32)), (4, .int (1 : Int32)), (0, .ref (a 0)), (1, .int x1), (2, .int x2), (3, .int (nI k))]) hx hb dX3_countEndingBefore_62 hl (by decide) rfl (fun ls hl => ?_)
            refine lv_aload_n hx hb dX3_countEndingBefore_64 rfl (lv_at hl 2 rfl) ?_
            refine va_get (D := (dC, dI)) (ci := 3) (v := .ref (a 26)) (C := RX3) (T := TX3) (N := 6) hx hb hts (iwX3 _) hown hK hP 0 rfl rfl 4 (by decide) (hts _ (kc k_158)) (fun _ h9 => h9) rfl dX3_countEndingBefore_65 ?_
            refine lv_iload_n hx hb dX3_countEndingBefore_68 rfl (lv_at hl 5 rfl) ?_
            refine va_iald (D := (dC, dI)) (f := σ 26) hx hb hK hP 26 0 rfl rfl (i := nI k) hkf dX3_countEndingBefore_69 ?_
            refine lv_iconst (v := -1) hx hb dX3_countEndingBefore_70 (by decide) ?_
            refine lv_icmp_eq (tgt := 87) hx hb dX3_countEndingBefore_71 (by decide) (fun c_71_16 => ?_) (fun c_71_16 => ?_)
            · skip
              rw [if_pos c_71_16] at hw
              refine lv_iinc (v := (nI (k + 1))) (lv' := [(3, .int (nI (k + 1))), (5, .int (0 : Int32)), (4, .int (1 : Int32)), (0, .ref (a 0)), (1, .int x1), (2, .int x2)]) hx hb dX3_countEndingBefore_87 hl (k := 5) rfl (nI_1 k) (by decide) rfl (fun ls hl => ?_)
              refine lv_goto (tgt := 4) hx hb dX3_countEndingBefore_90 (by decide) ?_
              exact ih (k + 1) x2 ls (by omega) (lv_sub hl [3, 4, 5, 0] rfl) hw
            · skip
              rw [if_neg c_71_16] at hw
              refine lv_iload hx hb dX3_countEndingBefore_74 (lv_at hl 1 rfl) ?_
              refine lv_if_ne (tgt := 84) hx hb dX3_countEndingBefore_76 (by decide) (fun c_76_17 => ?_) (fun c_76_17 => ?_)
              · skip
                refine lv_iinc (v := (x2 + (1 : Int32))) (lv' := [(2, .int (x2 + (1 : Int32))), (5, .int (0 : Int32)), (4, .int (1 : Int32)), (0, .ref (a 0)), (1, .int x1), (3, .int (nI k))]) hx hb dX3_countEndingBefore_84 hl (k := 4) rfl rfl (by decide) rfl (fun ls hl => ?_)
                refine lv_iinc (v := (nI (k + 1))) (lv' := [(3, .int (nI (k + 1))), (2, .int (x2 + (1 : Int32))), (5, .int (0 : Int32)), (4, .int (1 : Int32)), (0, .ref (a 0)), (1, .int x1)]) hx hb dX3_countEndingBefore_87 hl (k := 5) rfl (nI_1 k) (by decide) rfl (fun ls hl => ?_)
                refine lv_goto (tgt := 4) hx hb dX3_countEndingBefore_90 (by decide) ?_
                exact ih (k + 1) (x2 + (1 : Int32)) ls (by omega) (lv_sub hl [4, 5, 1, 0] rfl) hw
              · skip
                exact absurd c_76_17 (by decide)
          · skip
            rw [if_pos c_49_15] at hw
            refine lv_iload_n hx hb dX3_countEndingBefore_52 rfl (lv_at hl 4 rfl) ?_
            refine lv_iload_n hx hb dX3_countEndingBefore_53 rfl (lv_at hl 2 rfl) ?_
            refine lv_icmp_ge (tgt := 61) hx hb dX3_countEndingBefore_54 (by decide) (fun c_54_18 => ?_) (fun c_54_18 => ?_)
            · skip
              rw [if_pos c_54_18] at hw
              refine lv_iconst (v := 0) hx hb dX3_countEndingBefore_61 (by decide) ?_
              refine lv_istore (lv' := [(5, .int (0 : Int32)), (4, .int (1 : Int32)), (0, .ref (a 0)), (1, .int x1), (2, .int x2), (3, .int (nI k))]) hx hb dX3_countEndingBefore_62 hl (by decide) rfl (fun ls hl => ?_)
              refine lv_aload_n hx hb dX3_countEndingBefore_64 rfl (lv_at hl 2 rfl) ?_
              refine va_get (D := (dC, dI)) (ci := 3) (v := .ref (a 26)) (C := RX3) (T := TX3) (N := 6) hx hb hts (iwX3 _) hown hK hP 0 rfl rfl 4 (by decide) (hts _ (kc k_158)) (fun _ h9 => h9) rfl dX3_countEndingBefore_65 ?_
              refine lv_iload_n hx hb dX3_countEndingBefore_68 rfl (lv_at hl 5 rfl) ?_
              refine va_iald (D := (dC, dI)) (f := σ 26) hx hb hK hP 26 0 rfl rfl (i := nI k) hkf dX3_countEndingBefore_69 ?_
              refine lv_iconst (v := -1) hx hb dX3_countEndingBefore_70 (by decide) ?_
              refine lv_icmp_eq (tgt := 87) hx hb dX3_countEndingBefore_71 (by decide) (fun c_71_19 => ?_) (fun c_71_19 => ?_)
              · skip
                rw [if_pos c_71_19] at hw
                refine lv_iinc (v := (nI (k + 1))) (lv' := [(3, .int (nI (k + 1))), (5, .int (0 : Int32)), (4, .int (1 : Int32)), (0, .ref (a 0)), (1, .int x1), (2, .int x2)]) hx hb dX3_countEndingBefore_87 hl (k := 5) rfl (nI_1 k) (by decide) rfl (fun ls hl => ?_)
                refine lv_goto (tgt := 4) hx hb dX3_countEndingBefore_90 (by decide) ?_
                exact ih (k + 1) x2 ls (by omega) (lv_sub hl [3, 4, 5, 0] rfl) hw
              · skip
                rw [if_neg c_71_19] at hw
                refine lv_iload hx hb dX3_countEndingBefore_74 (lv_at hl 1 rfl) ?_
                refine lv_if_ne (tgt := 84) hx hb dX3_countEndingBefore_76 (by decide) (fun c_76_20 => ?_) (fun c_76_20 => ?_)
                · skip
                  refine lv_iinc (v := (x2 + (1 : Int32))) (lv' := [(2, .int (x2 + (1 : Int32))), (5, .int (0 : Int32)), (4, .int (1 : Int32)), (0, .ref (a 0)), (1, .int x1), (3, .int (nI k))]) hx hb dX3_countEndingBefore_84 hl (k := 4) rfl rfl (by decide) rfl (fun ls hl => ?_)
                  refine lv_iinc (v := (nI (k + 1))) (lv' := [(3, .int (nI (k + 1))), (2, .int (x2 + (1 : Int32))), (5, .int (0 : Int32)), (4, .int (1 : Int32)), (0, .ref (a 0)), (1, .int x1)]) hx hb dX3_countEndingBefore_87 hl (k := 5) rfl (nI_1 k) (by decide) rfl (fun ls hl => ?_)
                  refine lv_goto (tgt := 4) hx hb dX3_countEndingBefore_90 (by decide) ?_
                  exact ih (k + 1) (x2 + (1 : Int32)) ls (by omega) (lv_sub hl [4, 5, 1, 0] rfl) hw
                · skip
                  exact absurd c_76_20 (by decide)
            · skip
              rw [if_neg c_54_18] at hw
              refine lv_iconst (v := 1) hx hb dX3_countEndingBefore_57 (by decide) ?_
              refine lv_goto (tgt := 62) hx hb dX3_countEndingBefore_58 (by decide) ?_
              refine lv_istore (lv' := [(5, .int (1 : Int32)), (4, .int (1 : Int32)), (0, .ref (a 0)), (1, .int x1), (2, .int x2), (3, .int (nI k))]) hx hb dX3_countEndingBefore_62 hl (by decide) rfl (fun ls hl => ?_)
              refine lv_aload_n hx hb dX3_countEndingBefore_64 rfl (lv_at hl 2 rfl) ?_
              refine va_get (D := (dC, dI)) (ci := 3) (v := .ref (a 26)) (C := RX3) (T := TX3) (N := 6) hx hb hts (iwX3 _) hown hK hP 0 rfl rfl 4 (by decide) (hts _ (kc k_158)) (fun _ h9 => h9) rfl dX3_countEndingBefore_65 ?_
              refine lv_iload_n hx hb dX3_countEndingBefore_68 rfl (lv_at hl 5 rfl) ?_
              refine va_iald (D := (dC, dI)) (f := σ 26) hx hb hK hP 26 0 rfl rfl (i := nI k) hkf dX3_countEndingBefore_69 ?_
              refine lv_iconst (v := -1) hx hb dX3_countEndingBefore_70 (by decide) ?_
              refine lv_icmp_eq (tgt := 87) hx hb dX3_countEndingBefore_71 (by decide) (fun c_71_21 => ?_) (fun c_71_21 => ?_)
              · skip
                rw [if_pos c_71_21] at hw
                refine lv_iinc (v := (nI (k + 1))) (lv' := [(3, .int (nI (k + 1))), (5, .int (1 : Int32)), (4, .int (1 : Int32)), (0, .ref (a 0)), (1, .int x1), (2, .int x2)]) hx hb dX3_countEndingBefore_87 hl (k := 5) rfl (nI_1 k) (by decide) rfl (fun ls hl => ?_)
                refine lv_goto (tgt := 4) hx hb dX3_countEndingBefore_90 (by decide) ?_
                exact ih (k + 1) x2 ls (by omega) (lv_sub hl [3, 4, 5, 0] rfl) hw
              · skip
                rw [if_neg c_71_21] at hw
                refine lv_iload hx hb dX3_countEndingBefore_74 (lv_at hl 1 rfl) ?_
                refine lv_if_ne (tgt := 84) hx hb dX3_countEndingBefore_76 (by decide) (fun c_76_22 => ?_) (fun c_76_22 => ?_)
                · skip
                  refine lv_iinc (v := (x2 + (1 : Int32))) (lv' := [(2, .int (x2 + (1 : Int32))), (5, .int (1 : Int32)), (4, .int (1 : Int32)), (0, .ref (a 0)), (1, .int x1), (3, .int (nI k))]) hx hb dX3_countEndingBefore_84 hl (k := 4) rfl rfl (by decide) rfl (fun ls hl => ?_)
                  refine lv_iinc (v := (nI (k + 1))) (lv' := [(3, .int (nI (k + 1))), (2, .int (x2 + (1 : Int32))), (5, .int (1 : Int32)), (4, .int (1 : Int32)), (0, .ref (a 0)), (1, .int x1)]) hx hb dX3_countEndingBefore_87 hl (k := 5) rfl (nI_1 k) (by decide) rfl (fun ls hl => ?_)
                  refine lv_goto (tgt := 4) hx hb dX3_countEndingBefore_90 (by decide) ?_
                  exact ih (k + 1) (x2 + (1 : Int32)) ls (by omega) (lv_sub hl [4, 5, 1, 0] rfl) hw
                · skip
                  exact absurd c_76_22 (by decide)
  exact loop (cntN σ) 0 (0 : Int32) ls (Nat.zero_add _) (lv_sub hl [2, 3, 1, 0] rfl) hw
end
section
set_option maxHeartbeats 4000000 in
set_option maxRecDepth 100000 in
theorem m_X3_fillEndRow (l : Launch) (dC : Nat → ClassId) (dI : Nat → Nat → Nat) (cI cZ : ClassId) (a : Nat → Nat) (sz : Nat) (σ : St) (x1 : Int32) (x2 : Int32) (hiv : IV σ) : Met l yX3_fillEndRow wsX3_fillEndRow ({ frames := 3, cells := 0, slots := 0, locals := 71 }) (pMu dC dI cI cZ a sz σ [.ref (a 0), .int x1, .int x2]) (va_Qv (fun σ9 => σ9 = sp_fillEndRow σ x1 x2) (bMu dC dI cI cZ a (va_A (cw cI cZ a σ) sz)) (va_A (cw cI cZ a σ) sz)) 0 0 (va_A (cw cI cZ a σ) sz) := by
  refine Met.ofW (cc := cX3_fillEndRow) (maxL := 5) (ret := none) (by decide) rfl ?_
  intro p e s m args below meth c s₁ B hml hv
  obtain ⟨rfl, hsz, hP, hK, hD0⟩ := hv
  have hx := B.exec
  have hb := B.bytes
  have hr := B.returns
  have hts := atoms_spec (ws := wsX3_fillEndRow) B.pre
  have hown : s.vm.findClass RX3 = some m.cls := findClass_of_methodNamed B.named
  have hlocks := B.notSynchronized
  subst hsz
  have hD := hD0.self (sz := s.heap.size)
  generalize hAe : va_A (cw cI cZ a σ) s.heap.size = A at hD ⊢
  have hA : ∀ q : Nat, s.heap.size ≤ q → A q := fun q h => by rw [← hAe]; exact Or.inr h
  clear hAe hD0
  obtain ⟨H, hHe⟩ : ∃ z, z = s.heap := ⟨_, rfl⟩
  obtain ⟨locs, hLe⟩ : ∃ z : List Loc, z = [] := ⟨_, rfl⟩
  have hS : va_S A s.heap H locs := by rw [hHe, hLe]; exact va_S.rf
  have hP : va_P (dC, dI) vwCl (cw cI cZ a σ) H := by rw [hHe]; exact hP
  refine W_ofH hHe hLe ?_
  clear hHe hLe
  have hl := lv_entry ([.ref (a 0), .int x1, .int x2]) (n := 5) (Nat.le_of_ble_eq_true rfl)
  rw [lg_entry_eq]
  generalize (lg_sl ([.ref (a 0), .int x1, .int x2]) ++ List.replicate (5 - (lg_sl ([.ref (a 0), .int x1, .int x2])).length) Slot.unset).toArray = ls at hl ⊢
  have hl : lv_has ls 5 [(0, .ref (a 0)), (1, .int x1), (2, .int x2)] := hl
  obtain ⟨R, hR⟩ : ∃ z, z = sp_fillEndRow σ x1 x2 := ⟨_, rfl⟩
  have hw := hR
  unfold sp_fillEndRow at hw
  have hle := iv_le hiv
  refine lv_iconst (v := 0) hx hb dX3_fillEndRow_0 (by decide) ?_
  refine lv_istore_n (lv' := [(3, .int (0 : Int32)), (0, .ref (a 0)), (1, .int x1), (2, .int x2)]) hx hb dX3_fillEndRow_1 rfl hl (by decide) rfl (fun ls hl => ?_)
  have loop : ∀ (n k : Nat) (σ1 : St) (H : Heap) (locs : List Loc) (ls : Array Slot), k + n = cntN σ → IV σ1 → cntN σ1 = cntN σ → va_P (dC, dI) vwCl (cw cI cZ a σ1) H → va_D A (cw cI cZ a σ1) → va_S A s.heap H locs → lv_has ls 5 [(0, .ref (a 0)), (1, .int x1), (2, .int x2), (3, .int (nI k))] → R = sp_fillEndRow_2 σ x1 x2 σ1 n k → W p l e (headSpec wsX3_fillEndRow ({ frames := 3, cells := 0, slots := 0, locals := 71 })).room s m [.ref (a 0), .int x1, .int x2].toArray below meth c H locs 0 0 (MQ below (va_Qv (fun σ9 => σ9 = sp_fillEndRow σ x1 x2) (bMu dC dI cI cZ a A) A) [.ref (a 0), .int x1, .int x2].toArray s 0 0 A) (F0 m 2 ls []) := by
    intro n
    induction n with
    | zero =>
      intro k σ1 H locs ls hkn hiv1 hc1 hP hD hS hl hw
      rw [sp_fillEndRow_2_0] at hw
      refine lv_iload_n hx hb dX3_fillEndRow_2 rfl (lv_at hl 3 rfl) ?_
      refine lv_aload_n hx hb dX3_fillEndRow_3 rfl (lv_at hl 0 rfl) ?_
      refine va_get (D := (dC, dI)) (ci := 3) (v := .ref (a 7)) (C := RX3) (T := TX3) (N := 6) hx hb hts (iwX3 _) hown hK hP 0 rfl rfl 1 (by decide) (hts _ (kc k_155)) (fun _ h9 => h9) rfl dX3_fillEndRow_4 ?_
      refine va_get (D := (dC, dI)) (ci := 2) (v := .int (σ1 7 11)) (C := RX2) (T := TX2) (N := 12) hx hb hts (iwX2 _) hown hK hP 7 rfl rfl 11 (by decide) (hts _ (kc k_97)) (fun _ h9 => h9) rfl dX3_fillEndRow_7 ?_
      refine lv_icmp_ge (tgt := 61) hx hb dX3_fillEndRow_10 (by decide) (fun c_10_1 => ?_) (fun c_10_1 => ?_)
      · skip
        exact W.vret hx hb hr (fun t ht hW => ⟨⟨σ1, rfl, hw.symm.trans hR, by rw [ht]; exact hP, va_K.moved hW.alike hK, hD⟩, hS.F ht⟩) hS.2.2 dX3_fillEndRow_61
      · skip
        exact absurd (lpE (iv_cnt2 hiv1 hc1) hkn (by omega)) c_10_1
    | succ n ih =>
      intro k σ1 H locs ls hkn hiv1 hc1 hP hD hS hl hw
      rw [sp_fillEndRow_2_s] at hw
      have hkf : vp_in (nI k) 40 := vp_in_nI (by omega) (by decide)
      refine lv_iload_n hx hb dX3_fillEndRow_2 rfl (lv_at hl 3 rfl) ?_
      refine lv_aload_n hx hb dX3_fillEndRow_3 rfl (lv_at hl 0 rfl) ?_
      refine va_get (D := (dC, dI)) (ci := 3) (v := .ref (a 7)) (C := RX3) (T := TX3) (N := 6) hx hb hts (iwX3 _) hown hK hP 0 rfl rfl 1 (by decide) (hts _ (kc k_155)) (fun _ h9 => h9) rfl dX3_fillEndRow_4 ?_
      refine va_get (D := (dC, dI)) (ci := 2) (v := .int (σ1 7 11)) (C := RX2) (T := TX2) (N := 12) hx hb hts (iwX2 _) hown hK hP 7 rfl rfl 11 (by decide) (hts _ (kc k_97)) (fun _ h9 => h9) rfl dX3_fillEndRow_7 ?_
      refine lv_icmp_ge (tgt := 61) hx hb dX3_fillEndRow_10 (by decide) (fun c_10_2 => ?_) (fun c_10_2 => ?_)
      · skip
        exact absurd c_10_2 (lpB (iv_cnt2 hiv1 hc1) hkn (by omega))
      · skip
        refine lv_aload_n hx hb dX3_fillEndRow_13 rfl (lv_at hl 0 rfl) ?_
        refine va_get (D := (dC, dI)) (ci := 3) (v := .ref (a 7)) (C := RX3) (T := TX3) (N := 6) hx hb hts (iwX3 _) hown hK hP 0 rfl rfl 1 (by decide) (hts _ (kc k_155)) (fun _ h9 => h9) rfl dX3_fillEndRow_14 ?_
        refine va_get (D := (dC, dI)) (ci := 2) (v := .ref (a 11)) (C := RX2) (T := TX2) (N := 12) hx hb hts (iwX2 _) hown hK hP 7 rfl rfl 3 (by decide) (hts _ (kc k_82)) (fun _ h9 => h9) rfl dX3_fillEndRow_17 ?_
        refine lv_iload_n hx hb dX3_fillEndRow_20 rfl (lv_at hl 3 rfl) ?_
        refine va_iald (D := (dC, dI)) (f := σ1 11) hx hb hK hP 11 0 rfl rfl (i := nI k) hkf dX3_fillEndRow_21 ?_
        refine lv_iload_n hx hb dX3_fillEndRow_22 rfl (lv_at hl 1 rfl) ?_
        refine lv_icmp_ne (tgt := 34) hx hb dX3_fillEndRow_23 (by decide) (fun c_23_3 => ?_) (fun c_23_3 => ?_)
        · skip
          rw [if_neg c_23_3] at hw
          refine lv_iconst (v := -1) hx hb dX3_fillEndRow_34 (by decide) ?_
          refine lv_istore (lv' := [(4, .int (-1 : Int32)), (0, .ref (a 0)), (1, .int x1), (2, .int x2), (3, .int (nI k))]) hx hb dX3_fillEndRow_35 hl (by decide) rfl (fun ls hl => ?_)
          refine lv_aload_n hx hb dX3_fillEndRow_37 rfl (lv_at hl 1 rfl) ?_
          refine va_get (D := (dC, dI)) (ci := 3) (v := .ref (a 26)) (C := RX3) (T := TX3) (N := 6) hx hb hts (iwX3 _) hown hK hP 0 rfl rfl 4 (by decide) (hts _ (kc k_158)) (fun _ h9 => h9) rfl dX3_fillEndRow_38 ?_
          refine lv_iload_n hx hb dX3_fillEndRow_41 rfl (lv_at hl 4 rfl) ?_
          refine lv_iload hx hb dX3_fillEndRow_42 (lv_at hl 0 rfl) ?_
          refine lv_iload_n hx hb dX3_fillEndRow_44 rfl (lv_at hl 3 rfl) ?_
          refine lv_icmp_gt (tgt := 53) hx hb dX3_fillEndRow_45 (by decide) (fun c_45_4 => ?_) (fun c_45_4 => ?_)
          · skip
            rw [if_pos c_45_4] at hw
            refine lv_iconst (v := -1) hx hb dX3_fillEndRow_53 (by decide) ?_
            refine va_iast (D := (dC, dI)) (f := σ1 26) hx hb hK hP hD hS 26 0 rfl rfl (i := nI k) (x := (-1 : Int32)) hkf dX3_fillEndRow_54 (fun H locs hP hD hS => ?_)
            obtain ⟨σ_5, eσ_5⟩ : ∃ z : St, z = su σ1 26 ((nI k).toNatClampNeg) (-1 : Int32) := ⟨_, rfl⟩
            replace hP := P_cw_26 hP
            replace hD := D_cw_26 hD
            rw [← eσ_5] at hP hD
            replace hw : R = (sp_fillEndRow_2 σ x1 x2 σ_5 n (k + 1)) := by subst eσ_5; exact hw
            have hiv_6 : IV σ_5 := by rw [eσ_5]; exact (iv_suq hiv1 (by decide))
            refine lv_iinc (v := (nI (k + 1))) (lv' := [(3, .int (nI (k + 1))), (4, .int (-1 : Int32)), (0, .ref (a 0)), (1, .int x1), (2, .int x2)]) hx hb dX3_fillEndRow_55 hl (k := 4) rfl (nI_1 k) (by decide) rfl (fun ls hl => ?_)
            refine lv_goto (tgt := 2) hx hb dX3_fillEndRow_58 (by decide) ?_
            exact ih (k + 1) σ_5 H locs ls (by omega) hiv_6 (by rw [eσ_5]; exact hc1) hP hD hS (lv_sub hl [2, 3, 4, 0] rfl) hw
          · skip
            rw [if_neg c_45_4] at hw
            refine lv_iload hx hb dX3_fillEndRow_48 (lv_at hl 0 rfl) ?_
            refine lv_goto (tgt := 54) hx hb dX3_fillEndRow_50 (by decide) ?_
            refine va_iast (D := (dC, dI)) (f := σ1 26) hx hb hK hP hD hS 26 0 rfl rfl (i := nI k) (x := (-1 : Int32)) hkf dX3_fillEndRow_54 (fun H locs hP hD hS => ?_)
            obtain ⟨σ_7, eσ_7⟩ : ∃ z : St, z = su σ1 26 ((nI k).toNatClampNeg) (-1 : Int32) := ⟨_, rfl⟩
            replace hP := P_cw_26 hP
            replace hD := D_cw_26 hD
            rw [← eσ_7] at hP hD
            replace hw : R = (sp_fillEndRow_2 σ x1 x2 σ_7 n (k + 1)) := by subst eσ_7; exact hw
            have hiv_8 : IV σ_7 := by rw [eσ_7]; exact (iv_suq hiv1 (by decide))
            refine lv_iinc (v := (nI (k + 1))) (lv' := [(3, .int (nI (k + 1))), (4, .int (-1 : Int32)), (0, .ref (a 0)), (1, .int x1), (2, .int x2)]) hx hb dX3_fillEndRow_55 hl (k := 4) rfl (nI_1 k) (by decide) rfl (fun ls hl => ?_)
            refine lv_goto (tgt := 2) hx hb dX3_fillEndRow_58 (by decide) ?_
            exact ih (k + 1) σ_7 H locs ls (by omega) hiv_8 (by rw [eσ_7]; exact hc1) hP hD hS (lv_sub hl [2, 3, 4, 0] rfl) hw
        · skip
          rw [if_pos c_23_3] at hw
          refine lv_aload_n hx hb dX3_fillEndRow_26 rfl (lv_at hl 0 rfl) ?_
          refine lv_iload_n hx hb dX3_fillEndRow_27 rfl (lv_at hl 3 rfl) ?_
          refine vp_callSi (W.runV (As := [.int (nI k)]) (rest := []) ⟨hx, hb, hml, hown, hts⟩ (m_X3_endOf l dC dI cI cZ a σ1 (nI k) hiv1 hkf) (cwV 1 hts (gV k_473 k_475 k_6 k_20 k_476) rfl rfl rfl (by decide +kernel) ⟨Nat.le_of_ble_eq_true rfl, Nat.le_of_ble_eq_true rfl⟩) (pv_ro (q := (RX3, TX3, 6)) (q0 := 0) (ci := 3) hK hP rfl rfl) rfl rfl hl.1 rfl (lv_room (Nat.le_of_ble_eq_true rfl)) dX3_fillEndRow_28 ⟨Nat.le_of_ble_eq_true rfl, Nat.le_of_ble_eq_true rfl⟩) (fun r hrr => ?_)
          subst hrr
          refine lv_goto (tgt := 35) hx hb dX3_fillEndRow_31 (by decide) ?_
          refine lv_istore (lv' := [(4, .int (sp_endOf σ1 (nI k))), (0, .ref (a 0)), (1, .int x1), (2, .int x2), (3, .int (nI k))]) hx hb dX3_fillEndRow_35 hl (by decide) rfl (fun ls hl => ?_)
          refine lv_aload_n hx hb dX3_fillEndRow_37 rfl (lv_at hl 1 rfl) ?_
          refine va_get (D := (dC, dI)) (ci := 3) (v := .ref (a 26)) (C := RX3) (T := TX3) (N := 6) hx hb hts (iwX3 _) hown hK hP 0 rfl rfl 4 (by decide) (hts _ (kc k_158)) (fun _ h9 => h9) rfl dX3_fillEndRow_38 ?_
          refine lv_iload_n hx hb dX3_fillEndRow_41 rfl (lv_at hl 4 rfl) ?_
          refine lv_iload hx hb dX3_fillEndRow_42 (lv_at hl 0 rfl) ?_
          refine lv_iload_n hx hb dX3_fillEndRow_44 rfl (lv_at hl 3 rfl) ?_
          refine lv_icmp_gt (tgt := 53) hx hb dX3_fillEndRow_45 (by decide) (fun c_45_9 => ?_) (fun c_45_9 => ?_)
          · skip
            rw [if_pos c_45_9] at hw
            refine lv_iconst (v := -1) hx hb dX3_fillEndRow_53 (by decide) ?_
            refine va_iast (D := (dC, dI)) (f := σ1 26) hx hb hK hP hD hS 26 0 rfl rfl (i := nI k) (x := (-1 : Int32)) hkf dX3_fillEndRow_54 (fun H locs hP hD hS => ?_)
            obtain ⟨σ_10, eσ_10⟩ : ∃ z : St, z = su σ1 26 ((nI k).toNatClampNeg) (-1 : Int32) := ⟨_, rfl⟩
            replace hP := P_cw_26 hP
            replace hD := D_cw_26 hD
            rw [← eσ_10] at hP hD
            replace hw : R = (sp_fillEndRow_2 σ x1 x2 σ_10 n (k + 1)) := by subst eσ_10; exact hw
            have hiv_11 : IV σ_10 := by rw [eσ_10]; exact (iv_suq hiv1 (by decide))
            refine lv_iinc (v := (nI (k + 1))) (lv' := [(3, .int (nI (k + 1))), (4, .int (sp_endOf σ1 (nI k))), (0, .ref (a 0)), (1, .int x1), (2, .int x2)]) hx hb dX3_fillEndRow_55 hl (k := 4) rfl (nI_1 k) (by decide) rfl (fun ls hl => ?_)
            refine lv_goto (tgt := 2) hx hb dX3_fillEndRow_58 (by decide) ?_
            exact ih (k + 1) σ_10 H locs ls (by omega) hiv_11 (by rw [eσ_10]; exact hc1) hP hD hS (lv_sub hl [2, 3, 4, 0] rfl) hw
          · skip
            rw [if_neg c_45_9] at hw
            refine lv_iload hx hb dX3_fillEndRow_48 (lv_at hl 0 rfl) ?_
            refine lv_goto (tgt := 54) hx hb dX3_fillEndRow_50 (by decide) ?_
            refine va_iast (D := (dC, dI)) (f := σ1 26) hx hb hK hP hD hS 26 0 rfl rfl (i := nI k) (x := sp_endOf σ1 (nI k)) hkf dX3_fillEndRow_54 (fun H locs hP hD hS => ?_)
            obtain ⟨σ_12, eσ_12⟩ : ∃ z : St, z = su σ1 26 ((nI k).toNatClampNeg) (sp_endOf σ1 (nI k)) := ⟨_, rfl⟩
            replace hP := P_cw_26 hP
            replace hD := D_cw_26 hD
            rw [← eσ_12] at hP hD
            replace hw : R = (sp_fillEndRow_2 σ x1 x2 σ_12 n (k + 1)) := by subst eσ_12; exact hw
            have hiv_13 : IV σ_12 := by rw [eσ_12]; exact (iv_suq hiv1 (by decide))
            refine lv_iinc (v := (nI (k + 1))) (lv' := [(3, .int (nI (k + 1))), (4, .int (sp_endOf σ1 (nI k))), (0, .ref (a 0)), (1, .int x1), (2, .int x2)]) hx hb dX3_fillEndRow_55 hl (k := 4) rfl (nI_1 k) (by decide) rfl (fun ls hl => ?_)
            refine lv_goto (tgt := 2) hx hb dX3_fillEndRow_58 (by decide) ?_
            exact ih (k + 1) σ_12 H locs ls (by omega) hiv_13 (by rw [eσ_12]; exact hc1) hP hD hS (lv_sub hl [2, 3, 4, 0] rfl) hw
  exact loop (cntN σ) 0 σ H locs ls (Nat.zero_add _) hiv rfl hP hD hS (lv_sub hl [1, 2, 3, 0] rfl) hw
set_option maxHeartbeats 4000000 in
set_option maxRecDepth 100000 in
theorem m_X1_keepTried (l : Launch) (dC : Nat → ClassId) (dI : Nat → Nat → Nat) (cI cZ : ClassId) (a : Nat → Nat) (sz : Nat) (σ : St) (x1 : Int32) (hp : σ 19 5 = nI (plnN σ)) (hp6 : plnN σ ≤ 6) : Met l yX1_keepTried wsX1_keepTried ({ frames := 0, cells := 0, slots := 0, locals := 0 }) (pMu dC dI cI cZ a sz σ [.ref (a 19), .int x1]) (va_Qv (fun σ9 => σ9 = sp_keepTried σ x1) (bMu dC dI cI cZ a (va_A (cw cI cZ a σ) sz)) (va_A (cw cI cZ a σ) sz)) 0 0 (va_A (cw cI cZ a σ) sz) := by
  refine Met.ofW (cc := cX1_keepTried) (maxL := 3) (ret := none) (by decide) rfl ?_
  intro p e s m args below meth c s₁ B hml hv
  obtain ⟨rfl, hsz, hP, hK, hD0⟩ := hv
  have hx := B.exec
  have hb := B.bytes
  have hr := B.returns
  have hts := atoms_spec (ws := wsX1_keepTried) B.pre
  have hown : s.vm.findClass RX1 = some m.cls := findClass_of_methodNamed B.named
  have hlocks := B.notSynchronized
  subst hsz
  have hD := hD0.self (sz := s.heap.size)
  generalize hAe : va_A (cw cI cZ a σ) s.heap.size = A at hD ⊢
  have hA : ∀ q : Nat, s.heap.size ≤ q → A q := fun q h => by rw [← hAe]; exact Or.inr h
  clear hAe hD0
  obtain ⟨H, hHe⟩ : ∃ z, z = s.heap := ⟨_, rfl⟩
  obtain ⟨locs, hLe⟩ : ∃ z : List Loc, z = [] := ⟨_, rfl⟩
  have hS : va_S A s.heap H locs := by rw [hHe, hLe]; exact va_S.rf
  have hP : va_P (dC, dI) vwCl (cw cI cZ a σ) H := by rw [hHe]; exact hP
  refine W_ofH hHe hLe ?_
  clear hHe hLe
  have hl := lv_entry ([.ref (a 19), .int x1]) (n := 3) (Nat.le_of_ble_eq_true rfl)
  rw [lg_entry_eq]
  generalize (lg_sl ([.ref (a 19), .int x1]) ++ List.replicate (3 - (lg_sl ([.ref (a 19), .int x1])).length) Slot.unset).toArray = ls at hl ⊢
  have hl : lv_has ls 3 [(0, .ref (a 19)), (1, .int x1)] := hl
  obtain ⟨R, hR⟩ : ∃ z, z = sp_keepTried σ x1 := ⟨_, rfl⟩
  have hw := hR
  unfold sp_keepTried at hw
  refine lv_aload_n hx hb dX1_keepTried_0 rfl (lv_at hl 0 rfl) ?_
  refine lv_iload_n hx hb dX1_keepTried_1 rfl (lv_at hl 1 rfl) ?_
  refine va_put (D := (dC, dI)) (ci := 1) (v := .int x1) (ty := .int) (C := RX1) (T := TX1) (N := 7) hx hb hts (iwX1 _) tyX1 tyX1_ok nmX1 hown hK hP hD hS 19 rfl rfl 6 (by decide) (hts _ (kc k_138)) (fun _ h9 => h9) rfl (by decide +kernel) rfl rfl (Nat.le_of_ble_eq_true rfl) dX1_keepTried_2 (fun H locs hP hD hS => ?_)
  obtain ⟨σ_1, eσ_1⟩ : ∃ z : St, z = su σ 19 6 x1 := ⟨_, rfl⟩
  replace hP := P_cw_19_6 hP
  replace hD := D_cw_19_6 hD
  rw [← eσ_1] at hP hD
  replace hw : R = (sp_keepTried_7 σ x1 σ_1 (plnN σ) 0) := by subst eσ_1; exact hw
  refine lv_iconst (v := 0) hx hb dX1_keepTried_5 (by decide) ?_
  refine lv_istore_n (lv' := [(2, .int (0 : Int32)), (0, .ref (a 19)), (1, .int x1)]) hx hb dX1_keepTried_6 rfl hl (by decide) rfl (fun ls hl => ?_)
  have loop : ∀ (n k : Nat) (σ1 : St) (H : Heap) (locs : List Loc) (ls : Array Slot), k + n = plnN σ → σ1 19 5 = nI (plnN σ) → va_P (dC, dI) vwCl (cw cI cZ a σ1) H → va_D A (cw cI cZ a σ1) → va_S A s.heap H locs → lv_has ls 3 [(0, .ref (a 19)), (1, .int x1), (2, .int (nI k))] → R = sp_keepTried_7 σ x1 σ1 n k → W p l e (headSpec wsX1_keepTried ({ frames := 0, cells := 0, slots := 0, locals := 0 })).room s m [.ref (a 19), .int x1].toArray below meth c H locs 0 0 (MQ below (va_Qv (fun σ9 => σ9 = sp_keepTried σ x1) (bMu dC dI cI cZ a A) A) [.ref (a 19), .int x1].toArray s 0 0 A) (F0 m 7 ls []) := by
    intro n
    induction n with
    | zero =>
      intro k σ1 H locs ls hkn hp1 hP hD hS hl hw
      rw [sp_keepTried_7_0] at hw
      refine lv_iload_n hx hb dX1_keepTried_7 rfl (lv_at hl 2 rfl) ?_
      refine lv_aload_n hx hb dX1_keepTried_8 rfl (lv_at hl 0 rfl) ?_
      refine va_get (D := (dC, dI)) (ci := 1) (v := .int (σ1 19 5)) (C := RX1) (T := TX1) (N := 7) hx hb hts (iwX1 _) hown hK hP 19 rfl rfl 5 (by decide) (hts _ (kc k_136)) (fun _ h9 => h9) rfl dX1_keepTried_9 ?_
      refine lv_icmp_ge (tgt := 33) hx hb dX1_keepTried_12 (by decide) (fun c_12_2 => ?_) (fun c_12_2 => ?_)
      · skip
        exact W.vret hx hb hr (fun t ht hW => ⟨⟨σ1, rfl, hw.symm.trans hR, by rw [ht]; exact hP, va_K.moved hW.alike hK, hD⟩, hS.F ht⟩) hS.2.2 dX1_keepTried_33
      · skip
        exact absurd (lpE hp1 hkn (by omega)) c_12_2
    | succ n ih =>
      intro k σ1 H locs ls hkn hp1 hP hD hS hl hw
      rw [sp_keepTried_7_s] at hw
      have hkf : vp_in (nI k) 6 := vp_in_nI (by omega) (by decide)
      refine lv_iload_n hx hb dX1_keepTried_7 rfl (lv_at hl 2 rfl) ?_
      refine lv_aload_n hx hb dX1_keepTried_8 rfl (lv_at hl 0 rfl) ?_
      refine va_get (D := (dC, dI)) (ci := 1) (v := .int (σ1 19 5)) (C := RX1) (T := TX1) (N := 7) hx hb hts (iwX1 _) hown hK hP 19 rfl rfl 5 (by decide) (hts _ (kc k_136)) (fun _ h9 => h9) rfl dX1_keepTried_9 ?_
      refine lv_icmp_ge (tgt := 33) hx hb dX1_keepTried_12 (by decide) (fun c_12_3 => ?_) (fun c_12_3 => ?_)
      · skip
        exact absurd c_12_3 (lpB hp1 hkn (by omega))
      · skip
        refine lv_aload_n hx hb dX1_keepTried_15 rfl (lv_at hl 0 rfl) ?_
        refine va_get (D := (dC, dI)) (ci := 1) (v := .ref (a 23)) (C := RX1) (T := TX1) (N := 7) hx hb hts (iwX1 _) hown hK hP 19 rfl rfl 3 (by decide) (hts _ (kc k_133)) (fun _ h9 => h9) rfl dX1_keepTried_16 ?_
        refine lv_iload_n hx hb dX1_keepTried_19 rfl (lv_at hl 2 rfl) ?_
        refine lv_aload_n hx hb dX1_keepTried_20 rfl (lv_at hl 0 rfl) ?_
        refine va_get (D := (dC, dI)) (ci := 1) (v := .ref (a 22)) (C := RX1) (T := TX1) (N := 7) hx hb hts (iwX1 _) hown hK hP 19 rfl rfl 2 (by decide) (hts _ (kc k_132)) (fun _ h9 => h9) rfl dX1_keepTried_21 ?_
        refine lv_iload_n hx hb dX1_keepTried_24 rfl (lv_at hl 2 rfl) ?_
        refine va_iald (D := (dC, dI)) (f := σ1 22) hx hb hK hP 22 0 rfl rfl (i := nI k) hkf dX1_keepTried_25 ?_
        refine va_iast (D := (dC, dI)) (f := σ1 23) hx hb hK hP hD hS 23 0 rfl rfl (i := nI k) (x := σ1 22 (nI k).toNatClampNeg) hkf dX1_keepTried_26 (fun H locs hP hD hS => ?_)
        obtain ⟨σ_4, eσ_4⟩ : ∃ z : St, z = su σ1 23 ((nI k).toNatClampNeg) (σ1 22 (nI k).toNatClampNeg) := ⟨_, rfl⟩
        replace hP := P_cw_23 hP
        replace hD := D_cw_23 hD
        rw [← eσ_4] at hP hD
        replace hw : R = (sp_keepTried_7 σ x1 σ_4 n (k + 1)) := by subst eσ_4; exact hw
        refine lv_iinc (v := (nI (k + 1))) (lv' := [(2, .int (nI (k + 1))), (0, .ref (a 19)), (1, .int x1)]) hx hb dX1_keepTried_27 hl (k := 2) rfl (nI_1 k) (by decide) rfl (fun ls hl => ?_)
        refine lv_goto (tgt := 7) hx hb dX1_keepTried_30 (by decide) ?_
        exact ih (k + 1) σ_4 H locs ls (by omega) (by rw [eσ_4]; exact hp1) hP hD hS (lv_sub hl [1, 2, 0] rfl) hw
  exact loop (plnN σ) 0 σ_1 H locs ls (Nat.zero_add _) (by rw [eσ_1]; exact hp) hP hD hS (lv_sub hl [1, 2, 0] rfl) hw
set_option maxHeartbeats 4000000 in
set_option maxRecDepth 100000 in
theorem m_X1_putFrom (l : Launch) (dC : Nat → ClassId) (dI : Nat → Nat → Nat) (cI cZ : ClassId) (a : Nat → Nat) : ∀ (D sz : Nat) (σ : St) (x1 x2 : Int32) (hiv : IV σ) (t : Nat) (ht : x1 = nI t) (htp : t ≤ plnN σ) (htd : plnN σ ≤ t + D), Met l yX1_putFrom wsX1_putFrom ({ frames := 2 + D, cells := 0, slots := 0, locals := 60 + 23 * D }) (pMu dC dI cI cZ a sz σ [.ref (a 19), .int x1, .int x2]) (va_Qv (fun σ9 => σ9 = sp_putFrom D σ x1 x2) (bMu dC dI cI cZ a (va_A (cw cI cZ a σ) sz)) (va_A (cw cI cZ a σ) sz)) 0 0 (va_A (cw cI cZ a σ) sz) := by
  intro D
  induction D with
  | zero =>
    intro sz σ x1 x2 hiv t ht htp htd
    refine Met.ofW (cc := cX1_putFrom) (maxL := 4) (ret := none) (by decide) rfl ?_
    intro p e s m args below meth c s₁ B hml hv
    obtain ⟨rfl, hsz, hP, hK, hD0⟩ := hv
    have hx := B.exec
    have hb := B.bytes
    have hr := B.returns
    have hts := atoms_spec (ws := wsX1_putFrom) B.pre
    have hown : s.vm.findClass RX1 = some m.cls := findClass_of_methodNamed B.named
    have hlocks := B.notSynchronized
    subst hsz
    have hD := hD0.self (sz := s.heap.size)
    generalize hAe : va_A (cw cI cZ a σ) s.heap.size = A at hD ⊢
    have hA : ∀ q : Nat, s.heap.size ≤ q → A q := fun q h => by rw [← hAe]; exact Or.inr h
    clear hAe hD0
    obtain ⟨H, hHe⟩ : ∃ z, z = s.heap := ⟨_, rfl⟩
    obtain ⟨locs, hLe⟩ : ∃ z : List Loc, z = [] := ⟨_, rfl⟩
    have hS : va_S A s.heap H locs := by rw [hHe, hLe]; exact va_S.rf
    have hP : va_P (dC, dI) vwCl (cw cI cZ a σ) H := by rw [hHe]; exact hP
    refine W_ofH hHe hLe ?_
    clear hHe hLe
    have hl := lv_entry ([.ref (a 19), .int x1, .int x2]) (n := 4) (Nat.le_of_ble_eq_true rfl)
    rw [lg_entry_eq]
    generalize (lg_sl ([.ref (a 19), .int x1, .int x2]) ++ List.replicate (4 - (lg_sl ([.ref (a 19), .int x1, .int x2])).length) Slot.unset).toArray = ls at hl ⊢
    have hl : lv_has ls 4 [(0, .ref (a 19)), (1, .int x1), (2, .int x2)] := hl
    obtain ⟨R, hR⟩ : ∃ z, z = sp_putFrom 0 σ x1 x2 := ⟨_, rfl⟩
    have hw := hR
    rw [sp_putFrom_0] at hw
    refine lv_iload_n hx hb dX1_putFrom_0 rfl (lv_at hl 2 rfl) ?_
    refine lv_aload_n hx hb dX1_putFrom_1 rfl (lv_at hl 0 rfl) ?_
    refine va_get (D := (dC, dI)) (ci := 1) (v := .int (σ 19 6)) (C := RX1) (T := TX1) (N := 7) hx hb hts (iwX1 _) hown hK hP 19 rfl rfl 6 (by decide) (hts _ (kc k_138)) (fun _ h9 => h9) rfl dX1_putFrom_2 ?_
    refine lv_icmp_lt (tgt := 9) hx hb dX1_putFrom_5 (by decide) (fun c_5_1 => ?_) (fun c_5_1 => ?_)
    · skip
      rw [if_pos c_5_1] at hw
      refine lv_iload_n hx hb dX1_putFrom_9 rfl (lv_at hl 1 rfl) ?_
      refine lv_aload_n hx hb dX1_putFrom_10 rfl (lv_at hl 0 rfl) ?_
      refine va_get (D := (dC, dI)) (ci := 1) (v := .int (σ 19 5)) (C := RX1) (T := TX1) (N := 7) hx hb hts (iwX1 _) hown hK hP 19 rfl rfl 5 (by decide) (hts _ (kc k_136)) (fun _ h9 => h9) rfl dX1_putFrom_11 ?_
      refine lv_icmp_lt (tgt := 23) hx hb dX1_putFrom_14 (by decide) (fun c_14_2 => ?_) (fun c_14_2 => ?_)
      · skip
        exact absurd c_14_2 (pf_nlt hiv ht htp htd)
      · skip
        refine lv_aload_n hx hb dX1_putFrom_17 rfl (lv_at hl 0 rfl) ?_
        refine lv_iload_n hx hb dX1_putFrom_18 rfl (lv_at hl 2 rfl) ?_
        have hFc := fr_all hD hS hA
        refine va_callv (va_runV (As := [.int x2]) (rest := []) ⟨hx, hb, hml, hown, hts⟩ (m_X1_keepTried l dC dI cI cZ a H.size σ x2 (iv_pln hiv) (iv_pl6 hiv)) (cwV 1 hts (gV k_553 k_555 k_10 k_23 k_556) rfl rfl rfl (by decide +kernel) ⟨Nat.le_of_ble_eq_true rfl, Nat.le_of_ble_eq_true rfl⟩) (pv_mu (q := (RX1, TX1, 7)) (q0 := 19) (ci := 1) hK hP hD rfl rfl) rfl rfl hl.1 rfl (lv_room (Nat.le_of_ble_eq_true rfl)) dX1_putFrom_19 ⟨Nat.le_of_ble_eq_true rfl, Nat.le_of_ble_eq_true rfl⟩) hS (fun q _ h => hFc q h) hFc (fun σ9 t H1 locs ht hvm hw9 hB hz1 hk1 hS => ?_)
        obtain ⟨hP, hK1, hD1⟩ := hB
        rw [ht] at hP
        have hD := hD1.weaken (fun _ _ _ h => hFc _ h)
        clear hFc hD1 hK1
        subst hw9
        generalize H1 = H at hP hS ⊢
        exact W.vret hx hb hr (fun t ht hW => ⟨⟨sp_keepTried σ x2, rfl, hw.symm.trans hR, by rw [ht]; exact hP, va_K.moved hW.alike hK, hD⟩, hS.F ht⟩) hS.2.2 dX1_putFrom_22
    · skip
      rw [if_neg c_5_1] at hw
      exact W.vret hx hb hr (fun t ht hW => ⟨⟨σ, rfl, hw.symm.trans hR, by rw [ht]; exact hP, va_K.moved hW.alike hK, hD⟩, hS.F ht⟩) hS.2.2 dX1_putFrom_8
  | succ D ih =>
    intro sz σ x1 x2 hiv t ht htp htd
    refine Met.ofW (cc := cX1_putFrom) (maxL := 4) (ret := none) (by decide) rfl ?_
    intro p e s m args below meth c s₁ B hml hv
    obtain ⟨rfl, hsz, hP, hK, hD0⟩ := hv
    have hx := B.exec
    have hb := B.bytes
    have hr := B.returns
    have hts := atoms_spec (ws := wsX1_putFrom) B.pre
    have hown : s.vm.findClass RX1 = some m.cls := findClass_of_methodNamed B.named
    have hlocks := B.notSynchronized
    subst hsz
    have hD := hD0.self (sz := s.heap.size)
    generalize hAe : va_A (cw cI cZ a σ) s.heap.size = A at hD ⊢
    have hA : ∀ q : Nat, s.heap.size ≤ q → A q := fun q h => by rw [← hAe]; exact Or.inr h
    clear hAe hD0
    obtain ⟨H, hHe⟩ : ∃ z, z = s.heap := ⟨_, rfl⟩
    obtain ⟨locs, hLe⟩ : ∃ z : List Loc, z = [] := ⟨_, rfl⟩
    have hS : va_S A s.heap H locs := by rw [hHe, hLe]; exact va_S.rf
    have hP : va_P (dC, dI) vwCl (cw cI cZ a σ) H := by rw [hHe]; exact hP
    refine W_ofH hHe hLe ?_
    clear hHe hLe
    have hl := lv_entry ([.ref (a 19), .int x1, .int x2]) (n := 4) (Nat.le_of_ble_eq_true rfl)
    rw [lg_entry_eq]
    generalize (lg_sl ([.ref (a 19), .int x1, .int x2]) ++ List.replicate (4 - (lg_sl ([.ref (a 19), .int x1, .int x2])).length) Slot.unset).toArray = ls at hl ⊢
    have hl : lv_has ls 4 [(0, .ref (a 19)), (1, .int x1), (2, .int x2)] := hl
    obtain ⟨R, hR⟩ : ∃ z, z = sp_putFrom (D + 1) σ x1 x2 := ⟨_, rfl⟩
    have hw := hR
    rw [sp_putFrom_s] at hw
    refine lv_iload_n hx hb dX1_putFrom_0 rfl (lv_at hl 2 rfl) ?_
    refine lv_aload_n hx hb dX1_putFrom_1 rfl (lv_at hl 0 rfl) ?_
    refine va_get (D := (dC, dI)) (ci := 1) (v := .int (σ 19 6)) (C := RX1) (T := TX1) (N := 7) hx hb hts (iwX1 _) hown hK hP 19 rfl rfl 6 (by decide) (hts _ (kc k_138)) (fun _ h9 => h9) rfl dX1_putFrom_2 ?_
    refine lv_icmp_lt (tgt := 9) hx hb dX1_putFrom_5 (by decide) (fun c_5_1 => ?_) (fun c_5_1 => ?_)
    · skip
      rw [if_pos c_5_1] at hw
      refine lv_iload_n hx hb dX1_putFrom_9 rfl (lv_at hl 1 rfl) ?_
      refine lv_aload_n hx hb dX1_putFrom_10 rfl (lv_at hl 0 rfl) ?_
      refine va_get (D := (dC, dI)) (ci := 1) (v := .int (σ 19 5)) (C := RX1) (T := TX1) (N := 7) hx hb hts (iwX1 _) hown hK hP 19 rfl rfl 5 (by decide) (hts _ (kc k_136)) (fun _ h9 => h9) rfl dX1_putFrom_11 ?_
      refine lv_icmp_lt (tgt := 23) hx hb dX1_putFrom_14 (by decide) (fun c_14_2 => ?_) (fun c_14_2 => ?_)
      · skip
        rw [if_pos c_14_2] at hw
        have hx6 : vp_in x1 6 := pf_x6 hiv ht htp c_14_2
        have htl : t < plnN σ := pf_tl hiv ht htp c_14_2
        refine lv_iconst (v := 0) hx hb dX1_putFrom_23 (by decide) ?_
        refine lv_istore_n (lv' := [(3, .int (0 : Int32)), (0, .ref (a 19)), (1, .int x1), (2, .int x2)]) hx hb dX1_putFrom_24 rfl hl (by decide) rfl (fun ls hl => ?_)
        have loop : ∀ (n k : Nat) (σ1 : St) (H : Heap) (locs : List Loc) (ls : Array Slot), k + n = 5 → IV σ1 → plnN σ1 = plnN σ → va_P (dC, dI) vwCl (cw cI cZ a σ1) H → va_D A (cw cI cZ a σ1) → va_S A s.heap H locs → lv_has ls 4 [(0, .ref (a 19)), (1, .int x1), (2, .int x2), (3, .int (nI k))] → R = sp_putFrom_25 (sp_putFrom D) x1 x2 σ1 n k → W p l e (headSpec wsX1_putFrom ({ frames := 2 + (D + 1), cells := 0, slots := 0, locals := 60 + 23 * (D + 1) })).room s m [.ref (a 19), .int x1, .int x2].toArray below meth c H locs 0 0 (MQ below (va_Qv (fun σ9 => σ9 = sp_putFrom (D + 1) σ x1 x2) (bMu dC dI cI cZ a A) A) [.ref (a 19), .int x1, .int x2].toArray s 0 0 A) (F0 m 25 ls []) := by
          intro n
          induction n with
          | zero =>
            intro k σ1 H locs ls hkn hiv1 hp1 hP hD hS hl hw
            rw [sp_putFrom_25_0] at hw
            refine lv_iload_n hx hb dX1_putFrom_25 rfl (lv_at hl 3 rfl) ?_
            refine lv_aload_n hx hb dX1_putFrom_26 rfl (lv_at hl 0 rfl) ?_
            refine va_get (D := (dC, dI)) (ci := 1) (v := .ref (a 21)) (C := RX1) (T := TX1) (N := 7) hx hb hts (iwX1 _) hown hK hP 19 rfl rfl 1 (by decide) (hts _ (kc k_131)) (fun _ h9 => h9) rfl dX1_putFrom_27 ?_
            refine lv_iload_n hx hb dX1_putFrom_30 rfl (lv_at hl 1 rfl) ?_
            refine va_iald (D := (dC, dI)) (f := σ1 21) hx hb hK hP 21 0 rfl rfl (i := x1) hx6 dX1_putFrom_31 ?_
            refine lv_icmp_gt (tgt := 95) hx hb dX1_putFrom_32 (by decide) (fun c_32_3 => ?_) (fun c_32_3 => ?_)
            · skip
              exact W.vret hx hb hr (fun t ht hW => ⟨⟨σ1, rfl, hw.symm.trans hR, by rw [ht]; exact hP, va_K.moved hW.alike hK, hD⟩, hS.F ht⟩) hS.2.2 dX1_putFrom_95
            · skip
              exact absurd (pf_l5 (iv_w hiv1 hx6) hkn) c_32_3
          | succ n ihn =>
            intro k σ1 H locs ls hkn hiv1 hp1 hP hD hS hl hw
            rw [sp_putFrom_25_s] at hw
            refine lv_iload_n hx hb dX1_putFrom_25 rfl (lv_at hl 3 rfl) ?_
            refine lv_aload_n hx hb dX1_putFrom_26 rfl (lv_at hl 0 rfl) ?_
            refine va_get (D := (dC, dI)) (ci := 1) (v := .ref (a 21)) (C := RX1) (T := TX1) (N := 7) hx hb hts (iwX1 _) hown hK hP 19 rfl rfl 1 (by decide) (hts _ (kc k_131)) (fun _ h9 => h9) rfl dX1_putFrom_27 ?_
            refine lv_iload_n hx hb dX1_putFrom_30 rfl (lv_at hl 1 rfl) ?_
            refine va_iald (D := (dC, dI)) (f := σ1 21) hx hb hK hP 21 0 rfl rfl (i := x1) hx6 dX1_putFrom_31 ?_
            refine lv_icmp_gt (tgt := 95) hx hb dX1_putFrom_32 (by decide) (fun c_32_4 => ?_) (fun c_32_4 => ?_)
            · skip
              rw [if_pos c_32_4] at hw
              exact W.vret hx hb hr (fun t ht hW => ⟨⟨σ1, rfl, hw.symm.trans hR, by rw [ht]; exact hP, va_K.moved hW.alike hK, hD⟩, hS.F ht⟩) hS.2.2 dX1_putFrom_95
            · skip
              rw [if_neg c_32_4] at hw
              have hk4 : vp_in (nI k) 4 := pf_k4 (iv_w hiv1 hx6) (by omega) c_32_4
              refine lv_aload_n hx hb dX1_putFrom_35 rfl (lv_at hl 0 rfl) ?_
              refine va_get (D := (dC, dI)) (ci := 1) (v := .ref (a 22)) (C := RX1) (T := TX1) (N := 7) hx hb hts (iwX1 _) hown hK hP 19 rfl rfl 2 (by decide) (hts _ (kc k_132)) (fun _ h9 => h9) rfl dX1_putFrom_36 ?_
              refine lv_iload_n hx hb dX1_putFrom_39 rfl (lv_at hl 1 rfl) ?_
              refine lv_iload_n hx hb dX1_putFrom_40 rfl (lv_at hl 3 rfl) ?_
              refine va_iast (D := (dC, dI)) (f := σ1 22) hx hb hK hP hD hS 22 0 rfl rfl (i := x1) (x := nI k) hx6 dX1_putFrom_41 (fun H locs hP hD hS => ?_)
              obtain ⟨σ_5, eσ_5⟩ : ∃ z : St, z = su σ1 22 x1.toNatClampNeg (nI k) := ⟨_, rfl⟩
              replace hP := P_cw_22 hP
              replace hD := D_cw_22 hD
              rw [← eσ_5] at hP hD
              replace hw : R = (let σ_7 : St := su σ_5 24 ((nI k).toNatClampNeg) ((σ_5 24 (nI k).toNatClampNeg) + (σ_5 20 x1.toNatClampNeg)); let σ_10 : St := su (sp_putFrom D σ_7 (x1 + (1 : Int32)) (if x2 < (σ_7 24 (nI k).toNatClampNeg) then (σ_7 24 (nI k).toNatClampNeg) else x2)) 24 ((nI k).toNatClampNeg) (((sp_putFrom D σ_7 (x1 + (1 : Int32)) (if x2 < (σ_7 24 (nI k).toNatClampNeg) then (σ_7 24 (nI k).toNatClampNeg) else x2)) 24 (nI k).toNatClampNeg) - ((sp_putFrom D σ_7 (x1 + (1 : Int32)) (if x2 < (σ_7 24 (nI k).toNatClampNeg) then (σ_7 24 (nI k).toNatClampNeg) else x2)) 20 x1.toNatClampNeg)); sp_putFrom_25 (sp_putFrom D) x1 x2 σ_10 n (k + 1)) := by subst eσ_5; exact hw
              have hiv_6 : IV σ_5 := by rw [eσ_5]; exact (iv_suq hiv1 (by decide))
              refine lv_aload_n hx hb dX1_putFrom_42 rfl (lv_at hl 0 rfl) ?_
              refine va_get (D := (dC, dI)) (ci := 1) (v := .ref (a 24)) (C := RX1) (T := TX1) (N := 7) hx hb hts (iwX1 _) hown hK hP 19 rfl rfl 4 (by decide) (hts _ (kc k_135)) (fun _ h9 => h9) rfl dX1_putFrom_43 ?_
              refine lv_iload_n hx hb dX1_putFrom_46 rfl (lv_at hl 3 rfl) ?_
              refine lv_dup2_11 hx hb dX1_putFrom_47 rfl rfl ?_
              refine va_iald (D := (dC, dI)) (f := σ_5 24) hx hb hK hP 24 0 rfl rfl (i := nI k) hk4 dX1_putFrom_48 ?_
              refine lv_aload_n hx hb dX1_putFrom_49 rfl (lv_at hl 0 rfl) ?_
              refine va_get (D := (dC, dI)) (ci := 1) (v := .ref (a 20)) (C := RX1) (T := TX1) (N := 7) hx hb hts (iwX1 _) hown hK hP 19 rfl rfl 0 (by decide) (hts _ (kc k_130)) (fun _ h9 => h9) rfl dX1_putFrom_50 ?_
              refine lv_iload_n hx hb dX1_putFrom_53 rfl (lv_at hl 1 rfl) ?_
              refine va_iald (D := (dC, dI)) (f := σ_5 20) hx hb hK hP 20 0 rfl rfl (i := x1) hx6 dX1_putFrom_54 ?_
              refine lv_iadd hx hb dX1_putFrom_55 ?_
              refine va_iast (D := (dC, dI)) (f := σ_5 24) hx hb hK hP hD hS 24 0 rfl rfl (i := nI k) (x := (σ_5 24 (nI k).toNatClampNeg) + (σ_5 20 x1.toNatClampNeg)) hk4 dX1_putFrom_56 (fun H locs hP hD hS => ?_)
              obtain ⟨σ_7, eσ_7⟩ : ∃ z : St, z = su σ_5 24 ((nI k).toNatClampNeg) ((σ_5 24 (nI k).toNatClampNeg) + (σ_5 20 x1.toNatClampNeg)) := ⟨_, rfl⟩
              replace hP := P_cw_24 hP
              replace hD := D_cw_24 hD
              rw [← eσ_7] at hP hD
              replace hw : R = (let σ_10 : St := su (sp_putFrom D σ_7 (x1 + (1 : Int32)) (if x2 < (σ_7 24 (nI k).toNatClampNeg) then (σ_7 24 (nI k).toNatClampNeg) else x2)) 24 ((nI k).toNatClampNeg) (((sp_putFrom D σ_7 (x1 + (1 : Int32)) (if x2 < (σ_7 24 (nI k).toNatClampNeg) then (σ_7 24 (nI k).toNatClampNeg) else x2)) 24 (nI k).toNatClampNeg) - ((sp_putFrom D σ_7 (x1 + (1 : Int32)) (if x2 < (σ_7 24 (nI k).toNatClampNeg) then (σ_7 24 (nI k).toNatClampNeg) else x2)) 20 x1.toNatClampNeg)); sp_putFrom_25 (sp_putFrom D) x1 x2 σ_10 n (k + 1)) := by subst eσ_7; exact hw
              have hiv_8 : IV σ_7 := by rw [eσ_7]; exact (iv_suq hiv_6 (by decide))
              refine lv_aload_n hx hb dX1_putFrom_57 rfl (lv_at hl 0 rfl) ?_
              refine lv_iload_n hx hb dX1_putFrom_58 rfl (lv_at hl 1 rfl) ?_
              refine lv_iconst (v := 1) hx hb dX1_putFrom_59 (by decide) ?_
              refine lv_iadd hx hb dX1_putFrom_60 ?_
              refine lv_iload_n hx hb dX1_putFrom_61 rfl (lv_at hl 2 rfl) ?_
              refine lv_aload_n hx hb dX1_putFrom_62 rfl (lv_at hl 0 rfl) ?_
              refine va_get (D := (dC, dI)) (ci := 1) (v := .ref (a 24)) (C := RX1) (T := TX1) (N := 7) hx hb hts (iwX1 _) hown hK hP 19 rfl rfl 4 (by decide) (hts _ (kc k_135)) (fun _ h9 => h9) rfl dX1_putFrom_63 ?_
              refine lv_iload_n hx hb dX1_putFrom_66 rfl (lv_at hl 3 rfl) ?_
              refine va_iald (D := (dC, dI)) (f := σ_7 24) hx hb hK hP 24 0 rfl rfl (i := nI k) hk4 dX1_putFrom_67 ?_
              refine va_mmax hx hb (hml.trans hl.1.symm) hown (hts _ (kc k_557)) (hts _ (kc k_397)) (hts _ (kc k_32)) (hts _ (kc k_398)) (by first | exact Nat.le_of_ble_eq_true rfl | (dsimp only [headSpec]; omega)) (by first | exact Nat.le_of_ble_eq_true rfl | (dsimp only [headSpec]; omega)) (by first | exact Nat.le_of_ble_eq_true rfl | (dsimp only [headSpec]; omega)) (by first | exact Nat.le_of_ble_eq_true rfl | (dsimp only [headSpec]; omega)) dX1_putFrom_68 ?_
              have hFc := fr_all hD hS hA
              have hpc : plnN σ_7 = plnN σ := (by rw [eσ_7, eσ_5]; exact hp1)
              refine va_callv (va_runV (As := [.int (x1 + (1 : Int32)), .int (if x2 < (σ_7 24 (nI k).toNatClampNeg) then (σ_7 24 (nI k).toNatClampNeg) else x2)]) (rest := []) ⟨hx, hb, hml, hown, hts⟩ (ih H.size σ_7 (x1 + (1 : Int32)) (if x2 < (σ_7 24 (nI k).toNatClampNeg) then (σ_7 24 (nI k).toNatClampNeg) else x2) hiv_8 (t + 1) (by rw [ht]; exact nI_1 t) (by omega) (by omega)) (cwV 2 hts (gV k_549 k_551 k_9 k_23 k_552) rfl rfl rfl (by decide +kernel) ⟨(by first | exact Nat.le_of_ble_eq_true rfl | (dsimp only [headSpec]; omega)), (by first | exact Nat.le_of_ble_eq_true rfl | (dsimp only [headSpec]; omega))⟩) (pv_mu (q := (RX1, TX1, 7)) (q0 := 19) (ci := 1) hK hP hD rfl rfl) rfl rfl hl.1 rfl (lv_room (Nat.le_of_ble_eq_true rfl)) dX1_putFrom_71 ⟨(by first | exact Nat.le_of_ble_eq_true rfl | (dsimp only [headSpec]; omega)), (by first | exact Nat.le_of_ble_eq_true rfl | (dsimp only [headSpec]; omega))⟩) hS (fun q _ h => hFc q h) hFc (fun σ9 t9 H1 locs ht9 hvm hw9 hB hz1 hk1 hS => ?_)
              obtain ⟨hP, hK1, hD1⟩ := hB
              rw [ht9] at hP
              have hD := hD1.weaken (fun _ _ _ h => hFc _ h)
              clear hFc hD1 hK1
              subst hw9
              generalize H1 = H at hP hS ⊢
              have hiv_9 : IV (sp_putFrom D σ_7 (x1 + (1 : Int32)) (if x2 < (σ_7 24 (nI k).toNatClampNeg) then (σ_7 24 (nI k).toNatClampNeg) else x2)) := iv_pf hiv_8 _ _ _
              have hpc : plnN (sp_putFrom D σ_7 (x1 + (1 : Int32)) (if x2 < (σ_7 24 (nI k).toNatClampNeg) then (σ_7 24 (nI k).toNatClampNeg) else x2)) = plnN σ := (pf_pln _ _ _ _).trans hpc
              refine lv_aload_n hx hb dX1_putFrom_74 rfl (lv_at hl 0 rfl) ?_
              refine va_get (D := (dC, dI)) (ci := 1) (v := .ref (a 24)) (C := RX1) (T := TX1) (N := 7) hx hb hts (iwX1 _) hown hK hP 19 rfl rfl 4 (by decide) (hts _ (kc k_135)) (fun _ h9 => h9) rfl dX1_putFrom_75 ?_
              refine lv_iload_n hx hb dX1_putFrom_78 rfl (lv_at hl 3 rfl) ?_
              refine lv_dup2_11 hx hb dX1_putFrom_79 rfl rfl ?_
              refine va_iald (D := (dC, dI)) (f := (sp_putFrom D σ_7 (x1 + (1 : Int32)) (if x2 < (σ_7 24 (nI k).toNatClampNeg) then (σ_7 24 (nI k).toNatClampNeg) else x2)) 24) hx hb hK hP 24 0 rfl rfl (i := nI k) hk4 dX1_putFrom_80 ?_
              refine lv_aload_n hx hb dX1_putFrom_81 rfl (lv_at hl 0 rfl) ?_
              refine va_get (D := (dC, dI)) (ci := 1) (v := .ref (a 20)) (C := RX1) (T := TX1) (N := 7) hx hb hts (iwX1 _) hown hK hP 19 rfl rfl 0 (by decide) (hts _ (kc k_130)) (fun _ h9 => h9) rfl dX1_putFrom_82 ?_
              refine lv_iload_n hx hb dX1_putFrom_85 rfl (lv_at hl 1 rfl) ?_
              refine va_iald (D := (dC, dI)) (f := (sp_putFrom D σ_7 (x1 + (1 : Int32)) (if x2 < (σ_7 24 (nI k).toNatClampNeg) then (σ_7 24 (nI k).toNatClampNeg) else x2)) 20) hx hb hK hP 20 0 rfl rfl (i := x1) hx6 dX1_putFrom_86 ?_
              refine lv_isub hx hb dX1_putFrom_87 ?_
              refine va_iast (D := (dC, dI)) (f := (sp_putFrom D σ_7 (x1 + (1 : Int32)) (if x2 < (σ_7 24 (nI k).toNatClampNeg) then (σ_7 24 (nI k).toNatClampNeg) else x2)) 24) hx hb hK hP hD hS 24 0 rfl rfl (i := nI k) (x := ((sp_putFrom D σ_7 (x1 + (1 : Int32)) (if x2 < (σ_7 24 (nI k).toNatClampNeg) then (σ_7 24 (nI k).toNatClampNeg) else x2)) 24 (nI k).toNatClampNeg) - ((sp_putFrom D σ_7 (x1 + (1 : Int32)) (if x2 < (σ_7 24 (nI k).toNatClampNeg) then (σ_7 24 (nI k).toNatClampNeg) else x2)) 20 x1.toNatClampNeg)) hk4 dX1_putFrom_88 (fun H locs hP hD hS => ?_)
              obtain ⟨σ_10, eσ_10⟩ : ∃ z : St, z = su (sp_putFrom D σ_7 (x1 + (1 : Int32)) (if x2 < (σ_7 24 (nI k).toNatClampNeg) then (σ_7 24 (nI k).toNatClampNeg) else x2)) 24 ((nI k).toNatClampNeg) (((sp_putFrom D σ_7 (x1 + (1 : Int32)) (if x2 < (σ_7 24 (nI k).toNatClampNeg) then (σ_7 24 (nI k).toNatClampNeg) else x2)) 24 (nI k).toNatClampNeg) - ((sp_putFrom D σ_7 (x1 + (1 : Int32)) (if x2 < (σ_7 24 (nI k).toNatClampNeg) then (σ_7 24 (nI k).toNatClampNeg) else x2)) 20 x1.toNatClampNeg)) := ⟨_, rfl⟩
              replace hP := P_cw_24 hP
              replace hD := D_cw_24 hD
              rw [← eσ_10] at hP hD
              replace hw : R = (sp_putFrom_25 (sp_putFrom D) x1 x2 σ_10 n (k + 1)) := by subst eσ_10; exact hw
              have hiv_11 : IV σ_10 := by rw [eσ_10]; exact (iv_suq hiv_9 (by decide))
              refine lv_iinc (v := (nI (k + 1))) (lv' := [(3, .int (nI (k + 1))), (0, .ref (a 19)), (1, .int x1), (2, .int x2)]) hx hb dX1_putFrom_89 hl (k := 3) rfl (nI_1 k) (by decide) rfl (fun ls hl => ?_)
              refine lv_goto (tgt := 25) hx hb dX1_putFrom_92 (by decide) ?_
              exact ihn (k + 1) σ_10 H locs ls (by omega) hiv_11 (by rw [eσ_10]; exact hpc) hP hD hS (lv_sub hl [1, 2, 3, 0] rfl) hw
        exact loop 5 0 σ H locs ls rfl hiv rfl hP hD hS (lv_sub hl [1, 2, 3, 0] rfl) hw
      · skip
        rw [if_neg c_14_2] at hw
        refine lv_aload_n hx hb dX1_putFrom_17 rfl (lv_at hl 0 rfl) ?_
        refine lv_iload_n hx hb dX1_putFrom_18 rfl (lv_at hl 2 rfl) ?_
        have hFc := fr_all hD hS hA
        refine va_callv (va_runV (As := [.int x2]) (rest := []) ⟨hx, hb, hml, hown, hts⟩ (m_X1_keepTried l dC dI cI cZ a H.size σ x2 (iv_pln hiv) (iv_pl6 hiv)) (cwV 1 hts (gV k_553 k_555 k_10 k_23 k_556) rfl rfl rfl (by decide +kernel) ⟨(by first | exact Nat.le_of_ble_eq_true rfl | (dsimp only [headSpec]; omega)), (by first | exact Nat.le_of_ble_eq_true rfl | (dsimp only [headSpec]; omega))⟩) (pv_mu (q := (RX1, TX1, 7)) (q0 := 19) (ci := 1) hK hP hD rfl rfl) rfl rfl hl.1 rfl (lv_room (Nat.le_of_ble_eq_true rfl)) dX1_putFrom_19 ⟨(by first | exact Nat.le_of_ble_eq_true rfl | (dsimp only [headSpec]; omega)), (by first | exact Nat.le_of_ble_eq_true rfl | (dsimp only [headSpec]; omega))⟩) hS (fun q _ h => hFc q h) hFc (fun σ9 t H1 locs ht hvm hw9 hB hz1 hk1 hS => ?_)
        obtain ⟨hP, hK1, hD1⟩ := hB
        rw [ht] at hP
        have hD := hD1.weaken (fun _ _ _ h => hFc _ h)
        clear hFc hD1 hK1
        subst hw9
        generalize H1 = H at hP hS ⊢
        exact W.vret hx hb hr (fun t ht hW => ⟨⟨sp_keepTried σ x2, rfl, hw.symm.trans hR, by rw [ht]; exact hP, va_K.moved hW.alike hK, hD⟩, hS.F ht⟩) hS.2.2 dX1_putFrom_22
    · skip
      rw [if_neg c_5_1] at hw
      exact W.vret hx hb hr (fun t ht hW => ⟨⟨σ, rfl, hw.symm.trans hR, by rw [ht]; exact hP, va_K.moved hW.alike hK, hD⟩, hS.F ht⟩) hS.2.2 dX1_putFrom_8
set_option maxHeartbeats 4000000 in
set_option maxRecDepth 100000 in
theorem m_X1_make (l : Launch) (dC : Nat → ClassId) (dI : Nat → Nat → Nat) (cI cZ : ClassId) (a : Nat → Nat) (sz : Nat) (σ : St) (x1 : Int64) (x3 : Int32) (x4 : Int32) (x5 : Int32) (hiv : IV σ) (hn : x4 = nI x4.toNatClampNeg) (hn6 : x4.toNatClampNeg ≤ 6) (h5 : vp_in (x5 - (1 : Int32)) 4) : Met l yX1_make wsX1_make ({ frames := 9, cells := 0, slots := 0, locals := 221 }) (pMu dC dI cI cZ a sz σ [.ref (a 19), .long x1, .int x3, .int x4, .int x5]) (va_Qi (fun r σ9 => (r, σ9) = sp_make σ x1 x3 x4 x5) (bMu dC dI cI cZ a (va_A (cw cI cZ a σ) sz)) (va_A (cw cI cZ a σ) sz)) 0 0 (va_A (cw cI cZ a σ) sz) := by
  refine Met.ofW (cc := cX1_make) (maxL := 7) (ret := (some .int)) (by decide) rfl ?_
  intro p e s m args below meth c s₁ B hml hv
  obtain ⟨rfl, hsz, hP, hK, hD0⟩ := hv
  have hx := B.exec
  have hb := B.bytes
  have hr := B.returns
  have hts := atoms_spec (ws := wsX1_make) B.pre
  have hown : s.vm.findClass RX1 = some m.cls := findClass_of_methodNamed B.named
  have hlocks := B.notSynchronized
  subst hsz
  have hD := hD0.self (sz := s.heap.size)
  generalize hAe : va_A (cw cI cZ a σ) s.heap.size = A at hD ⊢
  have hA : ∀ q : Nat, s.heap.size ≤ q → A q := fun q h => by rw [← hAe]; exact Or.inr h
  clear hAe hD0
  obtain ⟨H, hHe⟩ : ∃ z, z = s.heap := ⟨_, rfl⟩
  obtain ⟨locs, hLe⟩ : ∃ z : List Loc, z = [] := ⟨_, rfl⟩
  have hS : va_S A s.heap H locs := by rw [hHe, hLe]; exact va_S.rf
  have hP : va_P (dC, dI) vwCl (cw cI cZ a σ) H := by rw [hHe]; exact hP
  refine W_ofH hHe hLe ?_
  clear hHe hLe
  have hl := lv_entry ([.ref (a 19), .long x1, .int x3, .int x4, .int x5]) (n := 7) (Nat.le_of_ble_eq_true rfl)
  rw [lg_entry_eq]
  generalize (lg_sl ([.ref (a 19), .long x1, .int x3, .int x4, .int x5]) ++ List.replicate (7 - (lg_sl ([.ref (a 19), .long x1, .int x3, .int x4, .int x5])).length) Slot.unset).toArray = ls at hl ⊢
  have hl : lv_has ls 7 [(0, .ref (a 19)), (1, .long x1), (3, .int x3), (4, .int x4), (5, .int x5)] := hl
  obtain ⟨R, hR⟩ : ∃ z, z = sp_make σ x1 x3 x4 x5 := ⟨_, rfl⟩
  have hw := hR
  unfold sp_make at hw
  refine lv_iconst (v := 0) hx hb dX1_make_0 (by decide) ?_
  refine lv_istore (lv' := [(6, .int (0 : Int32)), (0, .ref (a 19)), (1, .long x1), (3, .int x3), (4, .int x4), (5, .int x5)]) hx hb dX1_make_1 hl (by decide) rfl (fun ls hl => ?_)
  have loop : ∀ (n k : Nat) (σ1 : St) (H : Heap) (locs : List Loc) (ls : Array Slot), k + n = x4.toNatClampNeg → IV σ1 → va_P (dC, dI) vwCl (cw cI cZ a σ1) H → va_D A (cw cI cZ a σ1) → va_S A s.heap H locs → lv_has ls 7 [(0, .ref (a 19)), (1, .long x1), (3, .int x3), (4, .int x4), (5, .int x5), (6, .int (nI k))] → R = sp_make_3 σ x1 x3 x4 x5 σ1 n k → W p l e (headSpec wsX1_make ({ frames := 9, cells := 0, slots := 0, locals := 221 })).room s m [.ref (a 19), .long x1, .int x3, .int x4, .int x5].toArray below meth c H locs 0 0 (MQ below (va_Qi (fun r σ9 => (r, σ9) = sp_make σ x1 x3 x4 x5) (bMu dC dI cI cZ a A) A) [.ref (a 19), .long x1, .int x3, .int x4, .int x5].toArray s 0 0 A) (F0 m 3 ls []) := by
    intro n
    induction n with
    | zero =>
      intro k σ1 H locs ls hkn hiv1 hP hD hS hl hw
      rw [sp_make_3_0] at hw
      refine lv_iload hx hb dX1_make_3 (lv_at hl 5 rfl) ?_
      refine lv_iload hx hb dX1_make_5 (lv_at hl 3 rfl) ?_
      refine lv_icmp_ge (tgt := 57) hx hb dX1_make_7 (by decide) (fun c_7_1 => ?_) (fun c_7_1 => ?_)
      · skip
        refine lv_aload_n hx hb dX1_make_57 rfl (lv_at hl 0 rfl) ?_
        refine lv_iload hx hb dX1_make_58 (lv_at hl 3 rfl) ?_
        refine va_put (D := (dC, dI)) (ci := 1) (v := .int x4) (ty := .int) (C := RX1) (T := TX1) (N := 7) hx hb hts (iwX1 _) tyX1 tyX1_ok nmX1 hown hK hP hD hS 19 rfl rfl 5 (by decide) (hts _ (kc k_136)) (fun _ h9 => h9) rfl (by decide +kernel) rfl rfl (Nat.le_of_ble_eq_true rfl) dX1_make_60 (fun H locs hP hD hS => ?_)
        obtain ⟨σ_2, eσ_2⟩ : ∃ z : St, z = su σ1 19 5 x4 := ⟨_, rfl⟩
        replace hP := P_cw_19_5 hP
        replace hD := D_cw_19_5 hD
        rw [← eσ_2] at hP hD
        replace hw : R = (let σ_4 : St := su σ_2 19 6 (2147483647 : Int32); ((sp_putFrom 6 σ_4 (0 : Int32) (0 : Int32)) 19 6, sp_putFrom 6 σ_4 (0 : Int32) (0 : Int32))) := by subst eσ_2; exact hw
        have hiv_3 : IV σ_2 := by rw [eσ_2]; exact (iv_su195 hiv1 hn hn6)
        refine lv_aload_n hx hb dX1_make_63 rfl (lv_at hl 0 rfl) ?_
        refine lv_ldc (own := RX1) (v := 2147483647) hx hb hown (hts _ (kc k_548)) dX1_make_64 ?_
        refine va_put (D := (dC, dI)) (ci := 1) (v := .int (2147483647 : Int32)) (ty := .int) (C := RX1) (T := TX1) (N := 7) hx hb hts (iwX1 _) tyX1 tyX1_ok nmX1 hown hK hP hD hS 19 rfl rfl 6 (by decide) (hts _ (kc k_138)) (fun _ h9 => h9) rfl (by decide +kernel) rfl rfl (Nat.le_of_ble_eq_true rfl) dX1_make_66 (fun H locs hP hD hS => ?_)
        obtain ⟨σ_4, eσ_4⟩ : ∃ z : St, z = su σ_2 19 6 (2147483647 : Int32) := ⟨_, rfl⟩
        replace hP := P_cw_19_6 hP
        replace hD := D_cw_19_6 hD
        rw [← eσ_4] at hP hD
        replace hw : R = (((sp_putFrom 6 σ_4 (0 : Int32) (0 : Int32)) 19 6, sp_putFrom 6 σ_4 (0 : Int32) (0 : Int32))) := by subst eσ_4; exact hw
        have hiv_5 : IV σ_4 := by rw [eσ_4]; exact (iv_su196 hiv_3)
        refine lv_aload_n hx hb dX1_make_69 rfl (lv_at hl 0 rfl) ?_
        refine lv_iconst (v := 0) hx hb dX1_make_70 (by decide) ?_
        refine lv_iconst (v := 0) hx hb dX1_make_71 (by decide) ?_
        have hFc := fr_all hD hS hA
        refine va_callv (va_runV (As := [.int (0 : Int32), .int (0 : Int32)]) (rest := []) ⟨hx, hb, hml, hown, hts⟩ (m_X1_putFrom l dC dI cI cZ a 6 H.size σ_4 (0 : Int32) (0 : Int32) hiv_5 0 rfl (Nat.zero_le _) (by have := iv_pl6 hiv_5; omega)) (cwV 2 hts (gV k_549 k_551 k_9 k_23 k_552) rfl rfl rfl (by decide +kernel) ⟨Nat.le_of_ble_eq_true rfl, Nat.le_of_ble_eq_true rfl⟩) (pv_mu (q := (RX1, TX1, 7)) (q0 := 19) (ci := 1) hK hP hD rfl rfl) rfl rfl hl.1 rfl (lv_room (Nat.le_of_ble_eq_true rfl)) dX1_make_72 ⟨Nat.le_of_ble_eq_true rfl, Nat.le_of_ble_eq_true rfl⟩) hS (fun q _ h => hFc q h) hFc (fun σ9 t H1 locs ht hvm hw9 hB hz1 hk1 hS => ?_)
        obtain ⟨hP, hK1, hD1⟩ := hB
        rw [ht] at hP
        have hD := hD1.weaken (fun _ _ _ h => hFc _ h)
        clear hFc hD1 hK1
        subst hw9
        generalize H1 = H at hP hS ⊢
        refine lv_aload_n hx hb dX1_make_75 rfl (lv_at hl 0 rfl) ?_
        refine va_get (D := (dC, dI)) (ci := 1) (v := .int ((sp_putFrom 6 σ_4 (0 : Int32) (0 : Int32)) 19 6)) (C := RX1) (T := TX1) (N := 7) hx hb hts (iwX1 _) hown hK hP 19 rfl rfl 6 (by decide) (hts _ (kc k_138)) (fun _ h9 => h9) rfl dX1_make_76 ?_
        exact W.iret (v := (sp_putFrom 6 σ_4 (0 : Int32) (0 : Int32)) 19 6) hx hb hr (fun t ht hW => ⟨⟨(sp_putFrom 6 σ_4 (0 : Int32) (0 : Int32)) 19 6, sp_putFrom 6 σ_4 (0 : Int32) (0 : Int32), rfl, hw.symm.trans hR, by rw [ht]; exact hP, va_K.moved hW.alike hK, hD⟩, hS.F ht⟩) hS.2.2 dX1_make_79
      · skip
        exact absurd (lpE hn hkn (by omega)) c_7_1
    | succ n ih =>
      intro k σ1 H locs ls hkn hiv1 hP hD hS hl hw
      rw [sp_make_3_s] at hw
      have hkf : vp_in (nI k) 6 := vp_in_nI (by omega) (by decide)
      refine lv_iload hx hb dX1_make_3 (lv_at hl 5 rfl) ?_
      refine lv_iload hx hb dX1_make_5 (lv_at hl 3 rfl) ?_
      refine lv_icmp_ge (tgt := 57) hx hb dX1_make_7 (by decide) (fun c_7_6 => ?_) (fun c_7_6 => ?_)
      · skip
        exact absurd c_7_6 (lpB hn hkn (by omega))
      · skip
        refine lv_aload_n hx hb dX1_make_10 rfl (lv_at hl 0 rfl) ?_
        refine va_get (D := (dC, dI)) (ci := 1) (v := .ref (a 20)) (C := RX1) (T := TX1) (N := 7) hx hb hts (iwX1 _) hown hK hP 19 rfl rfl 0 (by decide) (hts _ (kc k_130)) (fun _ h9 => h9) rfl dX1_make_11 ?_
        refine lv_iload hx hb dX1_make_14 (lv_at hl 5 rfl) ?_
        refine lv_lload_n hx hb dX1_make_16 rfl (lv_at hl 1 rfl) ?_
        refine lv_bipush (v := 8) hx hb dX1_make_17 (by decide) ?_
        refine lv_iload hx hb dX1_make_19 (lv_at hl 5 rfl) ?_
        refine lv_imul hx hb dX1_make_21 ?_
        refine lv_lushr hx hb dX1_make_22 rfl ?_
        refine lv_l2i hx hb dX1_make_23 rfl ?_
        refine lv_sipush (v := 255) hx hb dX1_make_24 (by decide) ?_
        refine lv_iand hx hb dX1_make_27 ?_
        refine va_iast (D := (dC, dI)) (f := σ1 20) hx hb hK hP hD hS 20 0 rfl rfl (i := nI k) (x := (((x1.toUInt64 >>> (((8 : Int32) * (nI k)).toInt64.toUInt64 &&& Int64.toUInt64 63)).toInt64).toInt32) &&& (255 : Int32)) hkf dX1_make_28 (fun H locs hP hD hS => ?_)
        obtain ⟨σ_7, eσ_7⟩ : ∃ z : St, z = su σ1 20 ((nI k).toNatClampNeg) ((((x1.toUInt64 >>> (((8 : Int32) * (nI k)).toInt64.toUInt64 &&& Int64.toUInt64 63)).toInt64).toInt32) &&& (255 : Int32)) := ⟨_, rfl⟩
        replace hP := P_cw_20 hP
        replace hD := D_cw_20 hD
        rw [← eσ_7] at hP hD
        replace hw : R = (let σ_9 : St := su σ_7 21 ((nI k).toNatClampNeg) (if (x5 - (1 : Int32)) < (((x3.toUInt32 >>> (((2 : Int32) * (nI k)).toUInt32 &&& Int32.toUInt32 31)).toInt32) &&& (3 : Int32)) then (x5 - (1 : Int32)) else (((x3.toUInt32 >>> (((2 : Int32) * (nI k)).toUInt32 &&& Int32.toUInt32 31)).toInt32) &&& (3 : Int32))); sp_make_3 σ x1 x3 x4 x5 σ_9 n (k + 1)) := by subst eσ_7; exact hw
        have hiv_8 : IV σ_7 := by rw [eσ_7]; exact (iv_suq hiv1 (by decide))
        refine lv_aload_n hx hb dX1_make_29 rfl (lv_at hl 0 rfl) ?_
        refine va_get (D := (dC, dI)) (ci := 1) (v := .ref (a 21)) (C := RX1) (T := TX1) (N := 7) hx hb hts (iwX1 _) hown hK hP 19 rfl rfl 1 (by decide) (hts _ (kc k_131)) (fun _ h9 => h9) rfl dX1_make_30 ?_
        refine lv_iload hx hb dX1_make_33 (lv_at hl 5 rfl) ?_
        refine lv_iload_n hx hb dX1_make_35 rfl (lv_at hl 2 rfl) ?_
        refine lv_iconst (v := 2) hx hb dX1_make_36 (by decide) ?_
        refine lv_iload hx hb dX1_make_37 (lv_at hl 5 rfl) ?_
        refine lv_imul hx hb dX1_make_39 ?_
        refine lv_iushr hx hb dX1_make_40 rfl ?_
        refine lv_iconst (v := 3) hx hb dX1_make_41 (by decide) ?_
        refine lv_iand hx hb dX1_make_42 ?_
        refine lv_iload hx hb dX1_make_43 (lv_at hl 4 rfl) ?_
        refine lv_iconst (v := 1) hx hb dX1_make_45 (by decide) ?_
        refine lv_isub hx hb dX1_make_46 ?_
        refine va_mmin hx hb (hml.trans hl.1.symm) hown (hts _ (kc k_547)) (hts _ (kc k_390)) (hts _ (kc k_32)) (hts _ (kc k_391)) (Nat.le_of_ble_eq_true rfl) (Nat.le_of_ble_eq_true rfl) (Nat.le_of_ble_eq_true rfl) (Nat.le_of_ble_eq_true rfl) dX1_make_47 ?_
        refine va_iast (D := (dC, dI)) (f := σ_7 21) hx hb hK hP hD hS 21 0 rfl rfl (i := nI k) (x := (if (x5 - (1 : Int32)) < (((x3.toUInt32 >>> (((2 : Int32) * (nI k)).toUInt32 &&& Int32.toUInt32 31)).toInt32) &&& (3 : Int32)) then (x5 - (1 : Int32)) else (((x3.toUInt32 >>> (((2 : Int32) * (nI k)).toUInt32 &&& Int32.toUInt32 31)).toInt32) &&& (3 : Int32)))) hkf dX1_make_50 (fun H locs hP hD hS => ?_)
        obtain ⟨σ_9, eσ_9⟩ : ∃ z : St, z = su σ_7 21 ((nI k).toNatClampNeg) (if (x5 - (1 : Int32)) < (((x3.toUInt32 >>> (((2 : Int32) * (nI k)).toUInt32 &&& Int32.toUInt32 31)).toInt32) &&& (3 : Int32)) then (x5 - (1 : Int32)) else (((x3.toUInt32 >>> (((2 : Int32) * (nI k)).toUInt32 &&& Int32.toUInt32 31)).toInt32) &&& (3 : Int32))) := ⟨_, rfl⟩
        replace hP := P_cw_21 hP
        replace hD := D_cw_21 hD
        rw [← eσ_9] at hP hD
        replace hw : R = (sp_make_3 σ x1 x3 x4 x5 σ_9 n (k + 1)) := by subst eσ_9; exact hw
        have hiv_10 : IV σ_9 := by rw [eσ_9]; exact (iv_su21 hiv_8 (mk_in h5))
        refine lv_iinc (v := (nI (k + 1))) (lv' := [(6, .int (nI (k + 1))), (0, .ref (a 19)), (1, .long x1), (3, .int x3), (4, .int x4), (5, .int x5)]) hx hb dX1_make_51 hl (k := 5) rfl (nI_1 k) (by decide) rfl (fun ls hl => ?_)
        refine lv_goto (tgt := 3) hx hb dX1_make_54 (by decide) ?_
        exact ih (k + 1) σ_9 H locs ls (by omega) hiv_10 hP hD hS (lv_sub hl [1, 2, 3, 4, 5, 0] rfl) hw
  exact loop x4.toNatClampNeg 0 σ H locs ls (Nat.zero_add _) hiv hP hD hS (lv_sub hl [1, 2, 3, 4, 5, 0] rfl) hw
set_option maxHeartbeats 4000000 in
set_option maxRecDepth 100000 in
theorem m_X3_checkLetter (l : Launch) (zk : Nat → Nat) (x0 : Int32) : Met l yX3_checkLetter wsX3_checkLetter ({ frames := 0, cells := 0, slots := 0, locals := 0 }) (va_Pc [.int x0] (fun U => zT zk (fun _ => False) U U.heap)) (vp_Si (fun r => r = sp_checkLetter x0)) 0 0 (fun _ => False) := by
  refine Met.ofW (cc := cX3_checkLetter) (maxL := 4) (ret := (some .int)) (by decide) rfl ?_
  intro p e s m args below meth c s₁ B hml hv
  obtain ⟨rfl, hZ, hT⟩ := hv
  have hx := B.exec
  have hb := B.bytes
  have hr := B.returns
  have hts := atoms_spec (ws := wsX3_checkLetter) B.pre
  have hown : s.vm.findClass RX3 = some m.cls := findClass_of_methodNamed B.named
  have hlocks := B.notSynchronized
  have hl := lv_entry ([.int x0]) (n := 4) (Nat.le_of_ble_eq_true rfl)
  rw [lg_entry_eq]
  generalize (lg_sl ([.int x0]) ++ List.replicate (4 - (lg_sl ([.int x0])).length) Slot.unset).toArray = ls at hl ⊢
  have hl : lv_has ls 4 [(0, .int x0)] := hl
  obtain ⟨R, hR⟩ : ∃ z, z = sp_checkLetter x0 := ⟨_, rfl⟩
  have hw := hR
  unfold sp_checkLetter at hw
  have hS : va_S (fun _ => False) s.heap s.heap [] := va_S.rf
  refine lv_iload_n hx hb dX3_checkLetter_0 rfl (lv_at hl 0 rfl) ?_
  refine lv_istore_n (lv' := [(1, .int x0), (0, .int x0)]) hx hb dX3_checkLetter_1 rfl hl (by decide) rfl (fun ls hl => ?_)
  refine lv_iconst (v := 0) hx hb dX3_checkLetter_2 (by decide) ?_
  refine lv_istore_n (lv' := [(2, .int (0 : Int32)), (1, .int x0), (0, .int x0)]) hx hb dX3_checkLetter_3 rfl hl (by decide) rfl (fun ls hl => ?_)
  refine lv_iconst (v := 0) hx hb dX3_checkLetter_4 (by decide) ?_
  refine lv_istore_n (lv' := [(3, .int (0 : Int32)), (2, .int (0 : Int32)), (1, .int x0), (0, .int x0)]) hx hb dX3_checkLetter_5 rfl hl (by decide) rfl (fun ls hl => ?_)
  have loop : ∀ (n k : Nat) (x1 : Int32) (x2 : Int32) (ls : Array Slot), k + n = 6 → lv_has ls 4 [(0, .int x0), (1, .int x1), (2, .int x2), (3, .int (nI k))] → R = sp_checkLetter_6 x0 n k x1 x2 → W p l e (headSpec wsX3_checkLetter ({ frames := 0, cells := 0, slots := 0, locals := 0 })).room s m [.int x0].toArray below meth c s.heap [] 0 0 (MQ below (vp_Si (fun r => r = sp_checkLetter x0)) [.int x0].toArray s 0 0 (fun _ => False)) (F0 m 6 ls []) := by
    intro n
    induction n with
    | zero =>
      intro k x1 x2 ls hkn hl hw
      rw [sp_checkLetter_6_0] at hw
      refine lv_iload_n hx hb dX3_checkLetter_6 rfl (lv_at hl 3 rfl) ?_
      refine va_gets (C := "HoseTests") (n := "DIGIT_WEIGHTS") (d := "[I") (v := .ref (zk 9)) hx hb hZ hS hown (hts _ (kc k_309)) (fun _ h9 => h9) dX3_checkLetter_7 ?_
      refine va_tlen hx hb hT hS (v := 6) rfl dX3_checkLetter_10 ?_
      refine lv_icmp_ge (tgt := 38) hx hb dX3_checkLetter_11 (by decide) (fun c_11_1 => ?_) (fun c_11_1 => ?_)
      · skip
        refine lv_bipush (v := 65) hx hb dX3_checkLetter_38 (by decide) ?_
        refine lv_iload_n hx hb dX3_checkLetter_40 rfl (lv_at hl 2 rfl) ?_
        refine lv_bipush (v := 23) hx hb dX3_checkLetter_41 (by decide) ?_
        refine lv_irem hx hb dX3_checkLetter_43 (by decide) ?_
        refine lv_iadd hx hb dX3_checkLetter_44 ?_
        exact W.iret (v := (65 : Int32) + (x2 - x2 / (23 : Int32) * (23 : Int32))) hx hb hr (fun t ht hW => ⟨_, rfl, hw.symm.trans hR, ht⟩) (fun _ h => by cases h) dX3_checkLetter_45
      · skip
        exact absurd (lpE ht_6 hkn (by omega)) c_11_1
    | succ n ih =>
      intro k x1 x2 ls hkn hl hw
      rw [sp_checkLetter_6_s] at hw
      have hkf : vp_in (nI k) 6 := vp_in_nI (by omega) (by decide)
      refine lv_iload_n hx hb dX3_checkLetter_6 rfl (lv_at hl 3 rfl) ?_
      refine va_gets (C := "HoseTests") (n := "DIGIT_WEIGHTS") (d := "[I") (v := .ref (zk 9)) hx hb hZ hS hown (hts _ (kc k_309)) (fun _ h9 => h9) dX3_checkLetter_7 ?_
      refine va_tlen hx hb hT hS (v := 6) rfl dX3_checkLetter_10 ?_
      refine lv_icmp_ge (tgt := 38) hx hb dX3_checkLetter_11 (by decide) (fun c_11_2 => ?_) (fun c_11_2 => ?_)
      · skip
        exact absurd c_11_2 (lpB ht_6 hkn (by omega))
      · skip
        refine lv_iload_n hx hb dX3_checkLetter_14 rfl (lv_at hl 2 rfl) ?_
        refine lv_iload_n hx hb dX3_checkLetter_15 rfl (lv_at hl 1 rfl) ?_
        refine lv_bipush (v := 10) hx hb dX3_checkLetter_16 (by decide) ?_
        refine lv_irem hx hb dX3_checkLetter_18 (by decide) ?_
        refine va_gets (C := "HoseTests") (n := "DIGIT_WEIGHTS") (d := "[I") (v := .ref (zk 9)) hx hb hZ hS hown (hts _ (kc k_309)) (fun _ h9 => h9) dX3_checkLetter_19 ?_
        refine lv_iload_n hx hb dX3_checkLetter_22 rfl (lv_at hl 3 rfl) ?_
        refine va_ti hx hb hT hS (i := nI k) hkf (v := .int (wtF (nI k).toNatClampNeg)) rfl dX3_checkLetter_23 ?_
        refine lv_imul hx hb dX3_checkLetter_24 ?_
        refine lv_iadd hx hb dX3_checkLetter_25 ?_
        refine lv_istore_n (lv' := [(2, .int (x2 + ((x1 - x1 / (10 : Int32) * (10 : Int32)) * (wtF (nI k).toNatClampNeg)))), (0, .int x0), (1, .int x1), (3, .int (nI k))]) hx hb dX3_checkLetter_26 rfl hl (by decide) rfl (fun ls hl => ?_)
        refine lv_iload_n hx hb dX3_checkLetter_27 rfl (lv_at hl 2 rfl) ?_
        refine lv_bipush (v := 10) hx hb dX3_checkLetter_28 (by decide) ?_
        refine lv_idiv hx hb dX3_checkLetter_30 (by decide) ?_
        refine lv_istore_n (lv' := [(1, .int (x1 / (10 : Int32))), (2, .int (x2 + ((x1 - x1 / (10 : Int32) * (10 : Int32)) * (wtF (nI k).toNatClampNeg)))), (0, .int x0), (3, .int (nI k))]) hx hb dX3_checkLetter_31 rfl hl (by decide) rfl (fun ls hl => ?_)
        refine lv_iinc (v := (nI (k + 1))) (lv' := [(3, .int (nI (k + 1))), (1, .int (x1 / (10 : Int32))), (2, .int (x2 + ((x1 - x1 / (10 : Int32) * (10 : Int32)) * (wtF (nI k).toNatClampNeg)))), (0, .int x0)]) hx hb dX3_checkLetter_32 hl (k := 3) rfl (nI_1 k) (by decide) rfl (fun ls hl => ?_)
        refine lv_goto (tgt := 6) hx hb dX3_checkLetter_35 (by decide) ?_
        exact ih (k + 1) (x1 / (10 : Int32)) (x2 + ((x1 - x1 / (10 : Int32) * (10 : Int32)) * (wtF (nI k).toNatClampNeg))) ls (by omega) (lv_sub hl [3, 1, 2, 0] rfl) hw
  exact loop 6 0 x0 (0 : Int32) ls (Nat.zero_add _) (lv_sub hl [3, 2, 1, 0] rfl) hw
set_option maxHeartbeats 4000000 in
set_option maxRecDepth 100000 in
theorem m_X3_commonDivisor (l : Launch) (x0 : Int32) (x1 : Int32) (d : Nat) (hd : x1 = nI (d + 1)) (hd1 : d < 1000) : Met l yX3_commonDivisor wsX3_commonDivisor ({ frames := 0, cells := 0, slots := 0, locals := 0 }) (va_Pc [.int x0, .int x1] (fun _ => True)) (vp_Si (fun r => r = sp_commonDivisor x0 x1)) 0 0 (fun _ => False) := by
  refine Met.ofW (cc := cX3_commonDivisor) (maxL := 3) (ret := (some .int)) (by decide) rfl ?_
  intro p e s m args below meth c s₁ B hml hv
  obtain ⟨rfl, -⟩ := hv
  have hx := B.exec
  have hb := B.bytes
  have hr := B.returns
  have hts := atoms_spec (ws := wsX3_commonDivisor) B.pre
  have hown : s.vm.findClass RX3 = some m.cls := findClass_of_methodNamed B.named
  have hlocks := B.notSynchronized
  have hl := lv_entry ([.int x0, .int x1]) (n := 3) (Nat.le_of_ble_eq_true rfl)
  rw [lg_entry_eq]
  generalize (lg_sl ([.int x0, .int x1]) ++ List.replicate (3 - (lg_sl ([.int x0, .int x1])).length) Slot.unset).toArray = ls at hl ⊢
  have hl : lv_has ls 3 [(0, .int x0), (1, .int x1)] := hl
  obtain ⟨R, hR⟩ : ∃ z, z = sp_commonDivisor x0 x1 := ⟨_, rfl⟩
  have hw := hR
  unfold sp_commonDivisor at hw
  refine lv_iload_n hx hb dX3_commonDivisor_0 rfl (lv_at hl 1 rfl) ?_
  refine lv_istore_n (lv' := [(2, .int x1), (0, .int x0), (1, .int x1)]) hx hb dX3_commonDivisor_1 rfl hl (by decide) rfl (fun ls hl => ?_)
  have loop : ∀ (n : Nat) (ls : Array Slot), n ≤ d → lv_has ls 3 [(0, .int x0), (1, .int x1), (2, .int (nI (n + 1)))] → R = sp_commonDivisor_2 x0 x1 n → W p l e (headSpec wsX3_commonDivisor ({ frames := 0, cells := 0, slots := 0, locals := 0 })).room s m [.int x0, .int x1].toArray below meth c s.heap [] 0 0 (MQ below (vp_Si (fun r => r = sp_commonDivisor x0 x1)) [.int x0, .int x1].toArray s 0 0 (fun _ => False)) (F0 m 2 ls []) := by
    intro n
    induction n with
    | zero =>
      intro ls hn hl hw
      rw [sp_commonDivisor_2_0] at hw
      refine lv_iload_n hx hb dX3_commonDivisor_2 rfl (lv_at hl 2 rfl) ?_
      refine lv_iconst (v := 1) hx hb dX3_commonDivisor_3 (by decide) ?_
      refine lv_icmp_le (tgt := 27) hx hb dX3_commonDivisor_4 (by decide) (fun c_4_1 => ?_) (fun c_4_1 => ?_)
      · skip
        refine lv_iconst (v := 1) hx hb dX3_commonDivisor_27 (by decide) ?_
        exact W.iret (v := (1 : Int32)) hx hb hr (fun t ht hW => ⟨_, rfl, hw.symm.trans hR, ht⟩) (fun _ h => by cases h) dX3_commonDivisor_28
      · skip
        exact absurd (by decide) c_4_1
    | succ n ih =>
      intro ls hn hl hw
      rw [sp_commonDivisor_2_s] at hw
      refine lv_iload_n hx hb dX3_commonDivisor_2 rfl (lv_at hl 2 rfl) ?_
      refine lv_iconst (v := 1) hx hb dX3_commonDivisor_3 (by decide) ?_
      refine lv_icmp_le (tgt := 27) hx hb dX3_commonDivisor_4 (by decide) (fun c_4_2 => ?_) (fun c_4_2 => ?_)
      · skip
        exact absurd c_4_2 (cd_gt hn hd1)
      · skip
        refine lv_iload_n hx hb dX3_commonDivisor_7 rfl (lv_at hl 1 rfl) ?_
        refine lv_iload_n hx hb dX3_commonDivisor_8 rfl (lv_at hl 2 rfl) ?_
        refine lv_irem hx hb dX3_commonDivisor_9 (nI_ne0 (by omega) (by omega)) ?_
        refine lv_if_ne (tgt := 21) hx hb dX3_commonDivisor_10 (by decide) (fun c_10_3 => ?_) (fun c_10_3 => ?_)
        · skip
          rw [if_neg c_10_3] at hw
          refine lv_iinc (v := (nI (n + 1))) (lv' := [(2, .int (nI (n + 1))), (0, .int x0), (1, .int x1)]) hx hb dX3_commonDivisor_21 hl (k := 2) rfl (pk_m1 (n + 1)) (by decide) rfl (fun ls hl => ?_)
          refine lv_goto (tgt := 2) hx hb dX3_commonDivisor_24 (by decide) ?_
          exact ih ls (by omega) (lv_sub hl [1, 2, 0] rfl) hw
        · skip
          rw [if_pos c_10_3] at hw
          refine lv_iload_n hx hb dX3_commonDivisor_13 rfl (lv_at hl 0 rfl) ?_
          refine lv_iload_n hx hb dX3_commonDivisor_14 rfl (lv_at hl 2 rfl) ?_
          refine lv_irem hx hb dX3_commonDivisor_15 (nI_ne0 (by omega) (by omega)) ?_
          refine lv_if_ne (tgt := 21) hx hb dX3_commonDivisor_16 (by decide) (fun c_16_4 => ?_) (fun c_16_4 => ?_)
          · skip
            rw [if_neg c_16_4] at hw
            refine lv_iinc (v := (nI (n + 1))) (lv' := [(2, .int (nI (n + 1))), (0, .int x0), (1, .int x1)]) hx hb dX3_commonDivisor_21 hl (k := 2) rfl (pk_m1 (n + 1)) (by decide) rfl (fun ls hl => ?_)
            refine lv_goto (tgt := 2) hx hb dX3_commonDivisor_24 (by decide) ?_
            exact ih ls (by omega) (lv_sub hl [1, 2, 0] rfl) hw
          · skip
            rw [if_pos c_16_4] at hw
            refine lv_iload_n hx hb dX3_commonDivisor_19 rfl (lv_at hl 2 rfl) ?_
            exact W.iret (v := nI (n + 1 + 1)) hx hb hr (fun t ht hW => ⟨_, rfl, hw.symm.trans hR, ht⟩) (fun _ h => by cases h) dX3_commonDivisor_20
  exact loop d ls (Nat.le_refl d) (by rw [← hd]; exact lv_sub hl [1, 2, 0] rfl) (by rw [cd_n hd hd1] at hw; exact hw)
end
section
set_option maxHeartbeats 4000000 in
set_option maxRecDepth 100000 in
theorem m_X3_day (l : Launch) (hl9 : l.stackTraces = false) (dC : Nat → ClassId) (dI : Nat → Nat → Nat) (cI cZ : ClassId) (a : Nat → Nat) (zk : Nat → Nat) (sz : Nat) (σ : St) (x1 : Int32) (hiv : IV σ) : vx_Met l yX3_day wsX3_day ({ frames := 7, cells := 1, slots := 6, locals := 112 }) (pPu dC dI cI cZ a zk sz σ [.ref (a 0), .int x1]) (va_Qv (fun σ9 => sp_day σ x1 = .ok (0, σ9)) (bMu dC dI cI cZ a (va_A (cw cI cZ a σ) sz)) (va_A (cw cI cZ a σ) sz)) (vx_X (fun E : String => sp_day σ x1 = .error E) (bXu dC dI cI cZ a (va_A (cw cI cZ a σ) sz) σ) (va_A (cw cI cZ a σ) sz)) 1 6 (va_A (cw cI cZ a σ) sz) := by
  refine vx_ofW (cc := cX3_day) (maxL := 2) (ret := none) (by decide) rfl ?_
  intro p e s m args below meth c s₁ B hml hEx hv
  obtain ⟨rfl, hsz, hP, hK, hD0, hz⟩ := hv
  have hx := B.exec
  have hb := B.bytes
  have hr := B.returns
  have hts := atoms_spec (ws := wsX3_day) B.pre
  have hown : s.vm.findClass RX3 = some m.cls := findClass_of_methodNamed B.named
  have hlocks := B.notSynchronized
  subst hsz
  have hD := hD0.self (sz := s.heap.size)
  generalize hAe : va_A (cw cI cZ a σ) s.heap.size = A at hD hz ⊢
  have hA : ∀ q : Nat, s.heap.size ≤ q → A q := fun q h => by rw [← hAe]; exact Or.inr h
  clear hAe hD0
  obtain ⟨H, hHe⟩ : ∃ z, z = s.heap := ⟨_, rfl⟩
  obtain ⟨locs, hLe⟩ : ∃ z : List Loc, z = [] := ⟨_, rfl⟩
  have hS : va_S A s.heap H locs := by rw [hHe, hLe]; exact va_S.rf
  have hP : va_P (dC, dI) vwCl (cw cI cZ a σ) H := by rw [hHe]; exact hP
  refine W_ofH hHe hLe ?_
  clear hHe hLe
  have hl := lv_entry ([.ref (a 0), .int x1]) (n := 2) (Nat.le_of_ble_eq_true rfl)
  rw [lg_entry_eq]
  generalize (lg_sl ([.ref (a 0), .int x1]) ++ List.replicate (2 - (lg_sl ([.ref (a 0), .int x1])).length) Slot.unset).toArray = ls at hl ⊢
  have hl : lv_has ls 2 [(0, .ref (a 0)), (1, .int x1)] := hl
  obtain ⟨R, hR⟩ : ∃ z, z = sp_day σ x1 := ⟨_, rfl⟩
  have hw := hR
  unfold sp_day at hw
  refine lv_iload_n hx hb dX3_day_0 rfl (lv_at hl 1 rfl) ?_
  refine lv_aload_n hx hb dX3_day_1 rfl (lv_at hl 0 rfl) ?_
  refine va_get (D := (dC, dI)) (ci := 3) (v := .int (σ 0 5)) (C := RX3) (T := TX3) (N := 6) hx hb hts (iwX3 _) hown hK hP 0 rfl rfl 5 (by decide) (hts _ (kc k_159)) (fun _ h9 => h9) rfl dX3_day_2 ?_
  refine lv_ldc (own := RX3) (v := 99999) hx hb hown (hts _ (kc k_181)) dX3_day_5 ?_
  refine nx_call (vx_runS (As := [.int x1, .int (σ 0 5), .int (99999 : Int32)]) (rest := []) ⟨hx, hb, hml, hown, hts⟩ (m_X3_needRange l hl9 zk H.size x1 (σ 0 5) (99999 : Int32)) (cwS 3 hts (gS k_182 k_183 k_20 k_184) rfl rfl rfl (by decide +kernel) ⟨Nat.le_of_ble_eq_true rfl, Nat.le_of_ble_eq_true rfl⟩) (pn_need hz hS hA) rfl rfl hl.1 rfl (lv_room (Nat.le_of_ble_eq_true rfl)) dX3_day_7 ⟨Nat.le_of_ble_eq_true rfl, Nat.le_of_ble_eq_true rfl⟩) hP hD hS hA (fun c_7_1 => ?_) (fun c_7_1 H1 q9 ce hP1 hS1 hc1 hc2 hc3 => vx_out (fun x hx9 => (hEx x hx9).elim) hlocks hc1 hc2 hc3 (fun t ht hvm => ⟨_, hR.symm.trans (hw.trans (if_neg c_7_1)), ⟨rfl, by rw [ht]; exact hP1, va_K.moved hvm hK, hD⟩, hS1.F ht⟩) hS1.2.2 (Nat.le_of_ble_eq_true rfl) (Nat.le_of_ble_eq_true rfl))
  rw [if_pos c_7_1] at hw
  refine lv_aload_n hx hb dX3_day_10 rfl (lv_at hl 0 rfl) ?_
  refine lv_iload_n hx hb dX3_day_11 rfl (lv_at hl 1 rfl) ?_
  refine va_put (D := (dC, dI)) (ci := 3) (v := .int x1) (ty := .int) (C := RX3) (T := TX3) (N := 6) hx hb hts (iwX3 _) tyX3 tyX3_ok nmX3 hown hK hP hD hS 0 rfl rfl 5 (by decide) (hts _ (kc k_159)) (fun _ h9 => h9) rfl (by decide +kernel) rfl rfl (Nat.le_of_ble_eq_true rfl) dX3_day_12 (fun H locs hP hD hS => ?_)
  obtain ⟨σ_2, eσ_2⟩ : ∃ z : St, z = su σ 0 5 x1 := ⟨_, rfl⟩
  replace hP := P_cw_0_5 hP
  replace hD := D_cw_0_5 hD
  rw [← eσ_2] at hP hD
  replace hw : R = (.ok (0, σ_2)) := by subst eσ_2; exact hw
  have hiv_3 : IV σ_2 := by rw [eσ_2]; exact (iv_suq hiv (by decide))
  refine vx_ret ?_
  refine W.widen (k := 1) (n := 6) (Nat.le_of_ble_eq_true rfl) (Nat.le_of_ble_eq_true rfl) ?_
  exact W.vret hx hb hr (fun t ht hW => ⟨⟨σ_2, rfl, hR.symm.trans hw, by rw [ht]; exact hP, va_K.moved hW.alike hK, hD⟩, hS.F ht⟩) hS.2.2 dX3_day_15
set_option maxHeartbeats 4000000 in
set_option maxRecDepth 100000 in
theorem m_X3_age (l : Launch) (hl9 : l.stackTraces = false) (dC : Nat → ClassId) (dI : Nat → Nat → Nat) (cI cZ : ClassId) (a : Nat → Nat) (zk : Nat → Nat) (sz : Nat) (σ : St) (x1 : Int32) (x2 : Int32) (hiv : IV σ) : vx_Met l yX3_age wsX3_age ({ frames := 7, cells := 2, slots := 12, locals := 112 }) (pPu dC dI cI cZ a zk sz σ [.ref (a 0), .int x1, .int x2]) (va_Qv (fun σ9 => sp_age σ x1 x2 = .ok (0, σ9)) (bMu dC dI cI cZ a (va_A (cw cI cZ a σ) sz)) (va_A (cw cI cZ a σ) sz)) (vx_X (fun E : String => sp_age σ x1 x2 = .error E) (bXu dC dI cI cZ a (va_A (cw cI cZ a σ) sz) σ) (va_A (cw cI cZ a σ) sz)) 2 12 (va_A (cw cI cZ a σ) sz) := by
  refine vx_ofW (cc := cX3_age) (maxL := 3) (ret := none) (by decide) rfl ?_
  intro p e s m args below meth c s₁ B hml hEx hv
  obtain ⟨rfl, hsz, hP, hK, hD0, hz⟩ := hv
  have hx := B.exec
  have hb := B.bytes
  have hr := B.returns
  have hts := atoms_spec (ws := wsX3_age) B.pre
  have hown : s.vm.findClass RX3 = some m.cls := findClass_of_methodNamed B.named
  have hlocks := B.notSynchronized
  subst hsz
  have hD := hD0.self (sz := s.heap.size)
  generalize hAe : va_A (cw cI cZ a σ) s.heap.size = A at hD hz ⊢
  have hA : ∀ q : Nat, s.heap.size ≤ q → A q := fun q h => by rw [← hAe]; exact Or.inr h
  clear hAe hD0
  obtain ⟨H, hHe⟩ : ∃ z, z = s.heap := ⟨_, rfl⟩
  obtain ⟨locs, hLe⟩ : ∃ z : List Loc, z = [] := ⟨_, rfl⟩
  have hS : va_S A s.heap H locs := by rw [hHe, hLe]; exact va_S.rf
  have hP : va_P (dC, dI) vwCl (cw cI cZ a σ) H := by rw [hHe]; exact hP
  refine W_ofH hHe hLe ?_
  clear hHe hLe
  have hl := lv_entry ([.ref (a 0), .int x1, .int x2]) (n := 3) (Nat.le_of_ble_eq_true rfl)
  rw [lg_entry_eq]
  generalize (lg_sl ([.ref (a 0), .int x1, .int x2]) ++ List.replicate (3 - (lg_sl ([.ref (a 0), .int x1, .int x2])).length) Slot.unset).toArray = ls at hl ⊢
  have hl : lv_has ls 3 [(0, .ref (a 0)), (1, .int x1), (2, .int x2)] := hl
  obtain ⟨R, hR⟩ : ∃ z, z = sp_age σ x1 x2 := ⟨_, rfl⟩
  have hw := hR
  unfold sp_age at hw
  refine lv_iload_n hx hb dX3_age_0 rfl (lv_at hl 1 rfl) ?_
  refine lv_iconst (v := 5) hx hb dX3_age_1 (by decide) ?_
  refine nx_call (vx_runS (As := [.int x1, .int (5 : Int32)]) (rest := []) ⟨hx, hb, hml, hown, hts⟩ (m_X3_needKnown l hl9 zk H.size x1 (5 : Int32)) (cwS 2 hts (gS k_263 k_264 k_20 k_265) rfl rfl rfl (by decide +kernel) ⟨Nat.le_of_ble_eq_true rfl, Nat.le_of_ble_eq_true rfl⟩) (pn_need hz hS hA) rfl rfl hl.1 rfl (lv_room (Nat.le_of_ble_eq_true rfl)) dX3_age_2 ⟨Nat.le_of_ble_eq_true rfl, Nat.le_of_ble_eq_true rfl⟩) hP hD hS hA (fun c_2_1 => ?_) (fun c_2_1 H1 q9 ce hP1 hS1 hc1 hc2 hc3 => vx_out (fun x hx9 => (hEx x hx9).elim) hlocks hc1 hc2 hc3 (fun t ht hvm => ⟨_, hR.symm.trans (hw.trans (if_neg c_2_1)), ⟨rfl, by rw [ht]; exact hP1, va_K.moved hvm hK, hD⟩, hS1.F ht⟩) hS1.2.2 (Nat.le_of_ble_eq_true rfl) (Nat.le_of_ble_eq_true rfl))
  rw [if_pos c_2_1] at hw
  have hn_2 : vp_in x1 5 := okK_in c_2_1 (n := 5) (by decide) (by decide)
  refine lv_iload_n hx hb dX3_age_5 rfl (lv_at hl 2 rfl) ?_
  refine lv_iconst (v := 0) hx hb dX3_age_6 (by decide) ?_
  refine lv_sipush (v := 20000) hx hb dX3_age_7 (by decide) ?_
  refine nx_call (vx_runS (As := [.int x2, .int (0 : Int32), .int (20000 : Int32)]) (rest := []) ⟨hx, hb, hml, hown, hts⟩ (m_X3_needRange l hl9 zk H.size x2 (0 : Int32) (20000 : Int32)) (cwS 3 hts (gS k_182 k_183 k_20 k_184) rfl rfl rfl (by decide +kernel) ⟨Nat.le_of_ble_eq_true rfl, Nat.le_of_ble_eq_true rfl⟩) (pn_need hz hS hA) rfl rfl hl.1 rfl (lv_room (Nat.le_of_ble_eq_true rfl)) dX3_age_10 ⟨Nat.le_of_ble_eq_true rfl, Nat.le_of_ble_eq_true rfl⟩) hP hD hS hA (fun c_10_3 => ?_) (fun c_10_3 H1 q9 ce hP1 hS1 hc1 hc2 hc3 => vx_out (fun x hx9 => (hEx x hx9).elim) hlocks hc1 hc2 hc3 (fun t ht hvm => ⟨_, hR.symm.trans (hw.trans (if_neg c_10_3)), ⟨rfl, by rw [ht]; exact hP1, va_K.moved hvm hK, hD⟩, hS1.F ht⟩) hS1.2.2 (Nat.le_of_ble_eq_true rfl) (Nat.le_of_ble_eq_true rfl))
  rw [if_pos c_10_3] at hw
  refine lv_aload_n hx hb dX3_age_13 rfl (lv_at hl 0 rfl) ?_
  refine va_get (D := (dC, dI)) (ci := 3) (v := .ref (a 1)) (C := RX3) (T := TX3) (N := 6) hx hb hts (iwX3 _) hown hK hP 0 rfl rfl 0 (by decide) (hts _ (kc k_154)) (fun _ h9 => h9) rfl dX3_age_14 ?_
  refine va_get (D := (dC, dI)) (ci := 0) (v := .ref (a 2)) (C := RX0) (T := TX0) (N := 5) hx hb hts (iwX0 _) hown hK hP 1 rfl rfl 0 (by decide) (hts _ (kc k_49)) (fun _ h9 => h9) rfl dX3_age_17 ?_
  refine lv_iload_n hx hb dX3_age_20 rfl (lv_at hl 1 rfl) ?_
  refine lv_iload_n hx hb dX3_age_21 rfl (lv_at hl 2 rfl) ?_
  refine va_iast (D := (dC, dI)) (f := σ 2) hx hb hK hP hD hS 2 0 rfl rfl (i := x1) (x := x2) hn_2 dX3_age_22 (fun H locs hP hD hS => ?_)
  obtain ⟨σ_4, eσ_4⟩ : ∃ z : St, z = su σ 2 x1.toNatClampNeg x2 := ⟨_, rfl⟩
  replace hP := P_cw_2 hP
  replace hD := D_cw_2 hD
  rw [← eσ_4] at hP hD
  replace hw : R = (.ok (0, σ_4)) := by subst eσ_4; exact hw
  have hiv_5 : IV σ_4 := by rw [eσ_4]; exact (iv_suq hiv (by decide))
  refine vx_ret ?_
  refine W.widen (k := 2) (n := 12) (Nat.le_of_ble_eq_true rfl) (Nat.le_of_ble_eq_true rfl) ?_
  exact W.vret hx hb hr (fun t ht hW => ⟨⟨σ_4, rfl, hR.symm.trans hw, by rw [ht]; exact hP, va_K.moved hW.alike hK, hD⟩, hS.F ht⟩) hS.2.2 dX3_age_23
set_option maxHeartbeats 4000000 in
set_option maxRecDepth 100000 in
theorem m_X3_test (l : Launch) (hl9 : l.stackTraces = false) (dC : Nat → ClassId) (dI : Nat → Nat → Nat) (cI cZ : ClassId) (a : Nat → Nat) (zk : Nat → Nat) (sz : Nat) (σ : St) (x1 : Int32) (x2 : Int32) (x3 : Int32) (x4 : Int32) (hiv : IV σ) : vx_Met l yX3_test wsX3_test ({ frames := 7, cells := 4, slots := 24, locals := 112 }) (pPu dC dI cI cZ a zk sz σ [.ref (a 0), .int x1, .int x2, .int x3, .int x4]) (va_Qv (fun σ9 => sp_test σ x1 x2 x3 x4 = .ok (0, σ9)) (bMu dC dI cI cZ a (va_A (cw cI cZ a σ) sz)) (va_A (cw cI cZ a σ) sz)) (vx_X (fun E : String => sp_test σ x1 x2 x3 x4 = .error E) (bXu dC dI cI cZ a (va_A (cw cI cZ a σ) sz) σ) (va_A (cw cI cZ a σ) sz)) 4 24 (va_A (cw cI cZ a σ) sz) := by
  refine vx_ofW (cc := cX3_test) (maxL := 6) (ret := none) (by decide) rfl ?_
  intro p e s m args below meth c s₁ B hml hEx hv
  obtain ⟨rfl, hsz, hP, hK, hD0, hz⟩ := hv
  have hx := B.exec
  have hb := B.bytes
  have hr := B.returns
  have hts := atoms_spec (ws := wsX3_test) B.pre
  have hown : s.vm.findClass RX3 = some m.cls := findClass_of_methodNamed B.named
  have hlocks := B.notSynchronized
  subst hsz
  have hD := hD0.self (sz := s.heap.size)
  generalize hAe : va_A (cw cI cZ a σ) s.heap.size = A at hD hz ⊢
  have hA : ∀ q : Nat, s.heap.size ≤ q → A q := fun q h => by rw [← hAe]; exact Or.inr h
  clear hAe hD0
  obtain ⟨H, hHe⟩ : ∃ z, z = s.heap := ⟨_, rfl⟩
  obtain ⟨locs, hLe⟩ : ∃ z : List Loc, z = [] := ⟨_, rfl⟩
  have hS : va_S A s.heap H locs := by rw [hHe, hLe]; exact va_S.rf
  have hP : va_P (dC, dI) vwCl (cw cI cZ a σ) H := by rw [hHe]; exact hP
  refine W_ofH hHe hLe ?_
  clear hHe hLe
  have hl := lv_entry ([.ref (a 0), .int x1, .int x2, .int x3, .int x4]) (n := 6) (Nat.le_of_ble_eq_true rfl)
  rw [lg_entry_eq]
  generalize (lg_sl ([.ref (a 0), .int x1, .int x2, .int x3, .int x4]) ++ List.replicate (6 - (lg_sl ([.ref (a 0), .int x1, .int x2, .int x3, .int x4])).length) Slot.unset).toArray = ls at hl ⊢
  have hl : lv_has ls 6 [(0, .ref (a 0)), (1, .int x1), (2, .int x2), (3, .int x3), (4, .int x4)] := hl
  obtain ⟨R, hR⟩ : ∃ z, z = sp_test σ x1 x2 x3 x4 := ⟨_, rfl⟩
  have hw := hR
  unfold sp_test at hw
  refine lv_iload_n hx hb dX3_test_0 rfl (lv_at hl 1 rfl) ?_
  refine lv_iconst (v := 5) hx hb dX3_test_1 (by decide) ?_
  refine nx_call (vx_runS (As := [.int x1, .int (5 : Int32)]) (rest := []) ⟨hx, hb, hml, hown, hts⟩ (m_X3_needKnown l hl9 zk H.size x1 (5 : Int32)) (cwS 2 hts (gS k_263 k_264 k_20 k_265) rfl rfl rfl (by decide +kernel) ⟨Nat.le_of_ble_eq_true rfl, Nat.le_of_ble_eq_true rfl⟩) (pn_need hz hS hA) rfl rfl hl.1 rfl (lv_room (Nat.le_of_ble_eq_true rfl)) dX3_test_2 ⟨Nat.le_of_ble_eq_true rfl, Nat.le_of_ble_eq_true rfl⟩) hP hD hS hA (fun c_2_1 => ?_) (fun c_2_1 H1 q9 ce hP1 hS1 hc1 hc2 hc3 => vx_out (fun x hx9 => (hEx x hx9).elim) hlocks hc1 hc2 hc3 (fun t ht hvm => ⟨_, hR.symm.trans (hw.trans (if_neg c_2_1)), ⟨rfl, by rw [ht]; exact hP1, va_K.moved hvm hK, hD⟩, hS1.F ht⟩) hS1.2.2 (Nat.le_of_ble_eq_true rfl) (Nat.le_of_ble_eq_true rfl))
  rw [if_pos c_2_1] at hw
  have hn_2 : vp_in x1 5 := okK_in c_2_1 (n := 5) (by decide) (by decide)
  refine lv_iload_n hx hb dX3_test_5 rfl (lv_at hl 2 rfl) ?_
  refine lv_iconst (v := 3) hx hb dX3_test_6 (by decide) ?_
  refine nx_call (vx_runS (As := [.int x2, .int (3 : Int32)]) (rest := []) ⟨hx, hb, hml, hown, hts⟩ (m_X3_needKnown l hl9 zk H.size x2 (3 : Int32)) (cwS 2 hts (gS k_263 k_264 k_20 k_265) rfl rfl rfl (by decide +kernel) ⟨Nat.le_of_ble_eq_true rfl, Nat.le_of_ble_eq_true rfl⟩) (pn_need hz hS hA) rfl rfl hl.1 rfl (lv_room (Nat.le_of_ble_eq_true rfl)) dX3_test_7 ⟨Nat.le_of_ble_eq_true rfl, Nat.le_of_ble_eq_true rfl⟩) hP hD hS hA (fun c_7_3 => ?_) (fun c_7_3 H1 q9 ce hP1 hS1 hc1 hc2 hc3 => vx_out (fun x hx9 => (hEx x hx9).elim) hlocks hc1 hc2 hc3 (fun t ht hvm => ⟨_, hR.symm.trans (hw.trans (if_neg c_7_3)), ⟨rfl, by rw [ht]; exact hP1, va_K.moved hvm hK, hD⟩, hS1.F ht⟩) hS1.2.2 (Nat.le_of_ble_eq_true rfl) (Nat.le_of_ble_eq_true rfl))
  rw [if_pos c_7_3] at hw
  have hn_4 : vp_in x2 3 := okK_in c_7_3 (n := 3) (by decide) (by decide)
  refine lv_iload_n hx hb dX3_test_10 rfl (lv_at hl 3 rfl) ?_
  refine lv_iconst (v := 0) hx hb dX3_test_11 (by decide) ?_
  refine lv_sipush (v := 5000) hx hb dX3_test_12 (by decide) ?_
  refine nx_call (vx_runS (As := [.int x3, .int (0 : Int32), .int (5000 : Int32)]) (rest := []) ⟨hx, hb, hml, hown, hts⟩ (m_X3_needRange l hl9 zk H.size x3 (0 : Int32) (5000 : Int32)) (cwS 3 hts (gS k_182 k_183 k_20 k_184) rfl rfl rfl (by decide +kernel) ⟨Nat.le_of_ble_eq_true rfl, Nat.le_of_ble_eq_true rfl⟩) (pn_need hz hS hA) rfl rfl hl.1 rfl (lv_room (Nat.le_of_ble_eq_true rfl)) dX3_test_15 ⟨Nat.le_of_ble_eq_true rfl, Nat.le_of_ble_eq_true rfl⟩) hP hD hS hA (fun c_15_5 => ?_) (fun c_15_5 H1 q9 ce hP1 hS1 hc1 hc2 hc3 => vx_out (fun x hx9 => (hEx x hx9).elim) hlocks hc1 hc2 hc3 (fun t ht hvm => ⟨_, hR.symm.trans (hw.trans (if_neg c_15_5)), ⟨rfl, by rw [ht]; exact hP1, va_K.moved hvm hK, hD⟩, hS1.F ht⟩) hS1.2.2 (Nat.le_of_ble_eq_true rfl) (Nat.le_of_ble_eq_true rfl))
  rw [if_pos c_15_5] at hw
  refine lv_iload hx hb dX3_test_18 (lv_at hl 4 rfl) ?_
  refine lv_iconst (v := 0) hx hb dX3_test_20 (by decide) ?_
  refine lv_sipush (v := 1000) hx hb dX3_test_21 (by decide) ?_
  refine nx_call (vx_runS (As := [.int x4, .int (0 : Int32), .int (1000 : Int32)]) (rest := []) ⟨hx, hb, hml, hown, hts⟩ (m_X3_needRange l hl9 zk H.size x4 (0 : Int32) (1000 : Int32)) (cwS 3 hts (gS k_182 k_183 k_20 k_184) rfl rfl rfl (by decide +kernel) ⟨Nat.le_of_ble_eq_true rfl, Nat.le_of_ble_eq_true rfl⟩) (pn_need hz hS hA) rfl rfl hl.1 rfl (lv_room (Nat.le_of_ble_eq_true rfl)) dX3_test_24 ⟨Nat.le_of_ble_eq_true rfl, Nat.le_of_ble_eq_true rfl⟩) hP hD hS hA (fun c_24_6 => ?_) (fun c_24_6 H1 q9 ce hP1 hS1 hc1 hc2 hc3 => vx_out (fun x hx9 => (hEx x hx9).elim) hlocks hc1 hc2 hc3 (fun t ht hvm => ⟨_, hR.symm.trans (hw.trans (if_neg c_24_6)), ⟨rfl, by rw [ht]; exact hP1, va_K.moved hvm hK, hD⟩, hS1.F ht⟩) hS1.2.2 (Nat.le_of_ble_eq_true rfl) (Nat.le_of_ble_eq_true rfl))
  rw [if_pos c_24_6] at hw
  refine lv_iload_n hx hb dX3_test_27 rfl (lv_at hl 1 rfl) ?_
  refine lv_iconst (v := 3) hx hb dX3_test_28 (by decide) ?_
  refine lv_imul hx hb dX3_test_29 ?_
  refine lv_iload_n hx hb dX3_test_30 rfl (lv_at hl 2 rfl) ?_
  refine lv_iadd hx hb dX3_test_31 ?_
  refine lv_istore (lv' := [(5, .int ((x1 * (3 : Int32)) + x2)), (0, .ref (a 0)), (1, .int x1), (2, .int x2), (3, .int x3), (4, .int x4)]) hx hb dX3_test_32 hl (by decide) rfl (fun ls hl => ?_)
  refine lv_aload_n hx hb dX3_test_34 rfl (lv_at hl 1 rfl) ?_
  refine va_get (D := (dC, dI)) (ci := 3) (v := .ref (a 1)) (C := RX3) (T := TX3) (N := 6) hx hb hts (iwX3 _) hown hK hP 0 rfl rfl 0 (by decide) (hts _ (kc k_154)) (fun _ h9 => h9) rfl dX3_test_35 ?_
  refine va_get (D := (dC, dI)) (ci := 0) (v := .ref (a 3)) (C := RX0) (T := TX0) (N := 5) hx hb hts (iwX0 _) hown hK hP 1 rfl rfl 1 (by decide) (hts _ (kc k_51)) (fun _ h9 => h9) rfl dX3_test_38 ?_
  refine lv_iload hx hb dX3_test_41 (lv_at hl 0 rfl) ?_
  refine lv_iload_n hx hb dX3_test_43 rfl (lv_at hl 4 rfl) ?_
  refine va_iast (D := (dC, dI)) (f := σ 3) hx hb hK hP hD hS 3 0 rfl rfl (i := (x1 * (3 : Int32)) + x2) (x := x3) (in_m3 (n := 5) hn_2 hn_4 (by decide) (by decide)) dX3_test_44 (fun H locs hP hD hS => ?_)
  obtain ⟨σ_7, eσ_7⟩ : ∃ z : St, z = su σ 3 (((x1 * (3 : Int32)) + x2).toNatClampNeg) x3 := ⟨_, rfl⟩
  replace hP := P_cw_3 hP
  replace hD := D_cw_3 hD
  rw [← eσ_7] at hP hD
  replace hw : R = (let σ_9 : St := su σ_7 4 (((x1 * (3 : Int32)) + x2).toNatClampNeg) x4; .ok (0, σ_9)) := by subst eσ_7; exact hw
  have hiv_8 : IV σ_7 := by rw [eσ_7]; exact (iv_suq hiv (by decide))
  refine lv_aload_n hx hb dX3_test_45 rfl (lv_at hl 1 rfl) ?_
  refine va_get (D := (dC, dI)) (ci := 3) (v := .ref (a 1)) (C := RX3) (T := TX3) (N := 6) hx hb hts (iwX3 _) hown hK hP 0 rfl rfl 0 (by decide) (hts _ (kc k_154)) (fun _ h9 => h9) rfl dX3_test_46 ?_
  refine va_get (D := (dC, dI)) (ci := 0) (v := .ref (a 4)) (C := RX0) (T := TX0) (N := 5) hx hb hts (iwX0 _) hown hK hP 1 rfl rfl 2 (by decide) (hts _ (kc k_53)) (fun _ h9 => h9) rfl dX3_test_49 ?_
  refine lv_iload hx hb dX3_test_52 (lv_at hl 0 rfl) ?_
  refine lv_iload hx hb dX3_test_54 (lv_at hl 5 rfl) ?_
  refine va_iast (D := (dC, dI)) (f := σ_7 4) hx hb hK hP hD hS 4 0 rfl rfl (i := (x1 * (3 : Int32)) + x2) (x := x4) (in_m3 (n := 5) hn_2 hn_4 (by decide) (by decide)) dX3_test_56 (fun H locs hP hD hS => ?_)
  obtain ⟨σ_9, eσ_9⟩ : ∃ z : St, z = su σ_7 4 (((x1 * (3 : Int32)) + x2).toNatClampNeg) x4 := ⟨_, rfl⟩
  replace hP := P_cw_4 hP
  replace hD := D_cw_4 hD
  rw [← eσ_9] at hP hD
  replace hw : R = (.ok (0, σ_9)) := by subst eσ_9; exact hw
  have hiv_10 : IV σ_9 := by rw [eσ_9]; exact (iv_suq hiv_8 (by decide))
  refine vx_ret ?_
  refine W.widen (k := 4) (n := 24) (Nat.le_of_ble_eq_true rfl) (Nat.le_of_ble_eq_true rfl) ?_
  exact W.vret hx hb hr (fun t ht hW => ⟨⟨σ_9, rfl, hR.symm.trans hw, by rw [ht]; exact hP, va_K.moved hW.alike hK, hD⟩, hS.F ht⟩) hS.2.2 dX3_test_57
set_option maxHeartbeats 4000000 in
set_option maxRecDepth 100000 in
theorem m_X3_bounds (l : Launch) (hl9 : l.stackTraces = false) (dC : Nat → ClassId) (dI : Nat → Nat → Nat) (cI cZ : ClassId) (a : Nat → Nat) (zk : Nat → Nat) (sz : Nat) (σ : St) (x1 : Int32) (x2 : Int32) (x3 : Int32) (x4 : Int32) (hiv : IV σ) : vx_Met l yX3_bounds wsX3_bounds ({ frames := 7, cells := 4, slots := 24, locals := 112 }) (pPu dC dI cI cZ a zk sz σ [.ref (a 0), .int x1, .int x2, .int x3, .int x4]) (va_Qv (fun σ9 => sp_bounds σ x1 x2 x3 x4 = .ok (0, σ9)) (bMu dC dI cI cZ a (va_A (cw cI cZ a σ) sz)) (va_A (cw cI cZ a σ) sz)) (vx_X (fun E : String => sp_bounds σ x1 x2 x3 x4 = .error E) (bXu dC dI cI cZ a (va_A (cw cI cZ a σ) sz) σ) (va_A (cw cI cZ a σ) sz)) 4 24 (va_A (cw cI cZ a σ) sz) := by
  refine vx_ofW (cc := cX3_bounds) (maxL := 6) (ret := none) (by decide) rfl ?_
  intro p e s m args below meth c s₁ B hml hEx hv
  obtain ⟨rfl, hsz, hP, hK, hD0, hz⟩ := hv
  have hx := B.exec
  have hb := B.bytes
  have hr := B.returns
  have hts := atoms_spec (ws := wsX3_bounds) B.pre
  have hown : s.vm.findClass RX3 = some m.cls := findClass_of_methodNamed B.named
  have hlocks := B.notSynchronized
  subst hsz
  have hD := hD0.self (sz := s.heap.size)
  generalize hAe : va_A (cw cI cZ a σ) s.heap.size = A at hD hz ⊢
  have hA : ∀ q : Nat, s.heap.size ≤ q → A q := fun q h => by rw [← hAe]; exact Or.inr h
  clear hAe hD0
  obtain ⟨H, hHe⟩ : ∃ z, z = s.heap := ⟨_, rfl⟩
  obtain ⟨locs, hLe⟩ : ∃ z : List Loc, z = [] := ⟨_, rfl⟩
  have hS : va_S A s.heap H locs := by rw [hHe, hLe]; exact va_S.rf
  have hP : va_P (dC, dI) vwCl (cw cI cZ a σ) H := by rw [hHe]; exact hP
  refine W_ofH hHe hLe ?_
  clear hHe hLe
  have hl := lv_entry ([.ref (a 0), .int x1, .int x2, .int x3, .int x4]) (n := 6) (Nat.le_of_ble_eq_true rfl)
  rw [lg_entry_eq]
  generalize (lg_sl ([.ref (a 0), .int x1, .int x2, .int x3, .int x4]) ++ List.replicate (6 - (lg_sl ([.ref (a 0), .int x1, .int x2, .int x3, .int x4])).length) Slot.unset).toArray = ls at hl ⊢
  have hl : lv_has ls 6 [(0, .ref (a 0)), (1, .int x1), (2, .int x2), (3, .int x3), (4, .int x4)] := hl
  obtain ⟨R, hR⟩ : ∃ z, z = sp_bounds σ x1 x2 x3 x4 := ⟨_, rfl⟩
  have hw := hR
  unfold sp_bounds at hw
  refine lv_iload_n hx hb dX3_bounds_0 rfl (lv_at hl 1 rfl) ?_
  refine lv_iconst (v := 5) hx hb dX3_bounds_1 (by decide) ?_
  refine nx_call (vx_runS (As := [.int x1, .int (5 : Int32)]) (rest := []) ⟨hx, hb, hml, hown, hts⟩ (m_X3_needKnown l hl9 zk H.size x1 (5 : Int32)) (cwS 2 hts (gS k_263 k_264 k_20 k_265) rfl rfl rfl (by decide +kernel) ⟨Nat.le_of_ble_eq_true rfl, Nat.le_of_ble_eq_true rfl⟩) (pn_need hz hS hA) rfl rfl hl.1 rfl (lv_room (Nat.le_of_ble_eq_true rfl)) dX3_bounds_2 ⟨Nat.le_of_ble_eq_true rfl, Nat.le_of_ble_eq_true rfl⟩) hP hD hS hA (fun c_2_1 => ?_) (fun c_2_1 H1 q9 ce hP1 hS1 hc1 hc2 hc3 => vx_out (fun x hx9 => (hEx x hx9).elim) hlocks hc1 hc2 hc3 (fun t ht hvm => ⟨_, hR.symm.trans (hw.trans (if_neg c_2_1)), ⟨rfl, by rw [ht]; exact hP1, va_K.moved hvm hK, hD⟩, hS1.F ht⟩) hS1.2.2 (Nat.le_of_ble_eq_true rfl) (Nat.le_of_ble_eq_true rfl))
  rw [if_pos c_2_1] at hw
  have hn_2 : vp_in x1 5 := okK_in c_2_1 (n := 5) (by decide) (by decide)
  refine lv_iload_n hx hb dX3_bounds_5 rfl (lv_at hl 2 rfl) ?_
  refine lv_iconst (v := 3) hx hb dX3_bounds_6 (by decide) ?_
  refine nx_call (vx_runS (As := [.int x2, .int (3 : Int32)]) (rest := []) ⟨hx, hb, hml, hown, hts⟩ (m_X3_needKnown l hl9 zk H.size x2 (3 : Int32)) (cwS 2 hts (gS k_263 k_264 k_20 k_265) rfl rfl rfl (by decide +kernel) ⟨Nat.le_of_ble_eq_true rfl, Nat.le_of_ble_eq_true rfl⟩) (pn_need hz hS hA) rfl rfl hl.1 rfl (lv_room (Nat.le_of_ble_eq_true rfl)) dX3_bounds_7 ⟨Nat.le_of_ble_eq_true rfl, Nat.le_of_ble_eq_true rfl⟩) hP hD hS hA (fun c_7_3 => ?_) (fun c_7_3 H1 q9 ce hP1 hS1 hc1 hc2 hc3 => vx_out (fun x hx9 => (hEx x hx9).elim) hlocks hc1 hc2 hc3 (fun t ht hvm => ⟨_, hR.symm.trans (hw.trans (if_neg c_7_3)), ⟨rfl, by rw [ht]; exact hP1, va_K.moved hvm hK, hD⟩, hS1.F ht⟩) hS1.2.2 (Nat.le_of_ble_eq_true rfl) (Nat.le_of_ble_eq_true rfl))
  rw [if_pos c_7_3] at hw
  have hn_4 : vp_in x2 3 := okK_in c_7_3 (n := 3) (by decide) (by decide)
  refine lv_iload hx hb dX3_bounds_10 (lv_at hl 4 rfl) ?_
  refine lv_iconst (v := 0) hx hb dX3_bounds_12 (by decide) ?_
  refine lv_sipush (v := 10000) hx hb dX3_bounds_13 (by decide) ?_
  refine nx_call (vx_runS (As := [.int x4, .int (0 : Int32), .int (10000 : Int32)]) (rest := []) ⟨hx, hb, hml, hown, hts⟩ (m_X3_needRange l hl9 zk H.size x4 (0 : Int32) (10000 : Int32)) (cwS 3 hts (gS k_182 k_183 k_20 k_184) rfl rfl rfl (by decide +kernel) ⟨Nat.le_of_ble_eq_true rfl, Nat.le_of_ble_eq_true rfl⟩) (pn_need hz hS hA) rfl rfl hl.1 rfl (lv_room (Nat.le_of_ble_eq_true rfl)) dX3_bounds_16 ⟨Nat.le_of_ble_eq_true rfl, Nat.le_of_ble_eq_true rfl⟩) hP hD hS hA (fun c_16_5 => ?_) (fun c_16_5 H1 q9 ce hP1 hS1 hc1 hc2 hc3 => vx_out (fun x hx9 => (hEx x hx9).elim) hlocks hc1 hc2 hc3 (fun t ht hvm => ⟨_, hR.symm.trans (hw.trans (if_neg c_16_5)), ⟨rfl, by rw [ht]; exact hP1, va_K.moved hvm hK, hD⟩, hS1.F ht⟩) hS1.2.2 (Nat.le_of_ble_eq_true rfl) (Nat.le_of_ble_eq_true rfl))
  rw [if_pos c_16_5] at hw
  refine lv_iload_n hx hb dX3_bounds_19 rfl (lv_at hl 3 rfl) ?_
  refine lv_iconst (v := 0) hx hb dX3_bounds_20 (by decide) ?_
  refine lv_iload hx hb dX3_bounds_21 (lv_at hl 4 rfl) ?_
  refine nx_call (vx_runS (As := [.int x3, .int (0 : Int32), .int x4]) (rest := []) ⟨hx, hb, hml, hown, hts⟩ (m_X3_needRange l hl9 zk H.size x3 (0 : Int32) x4) (cwS 3 hts (gS k_182 k_183 k_20 k_184) rfl rfl rfl (by decide +kernel) ⟨Nat.le_of_ble_eq_true rfl, Nat.le_of_ble_eq_true rfl⟩) (pn_need hz hS hA) rfl rfl hl.1 rfl (lv_room (Nat.le_of_ble_eq_true rfl)) dX3_bounds_23 ⟨Nat.le_of_ble_eq_true rfl, Nat.le_of_ble_eq_true rfl⟩) hP hD hS hA (fun c_23_6 => ?_) (fun c_23_6 H1 q9 ce hP1 hS1 hc1 hc2 hc3 => vx_out (fun x hx9 => (hEx x hx9).elim) hlocks hc1 hc2 hc3 (fun t ht hvm => ⟨_, hR.symm.trans (hw.trans (if_neg c_23_6)), ⟨rfl, by rw [ht]; exact hP1, va_K.moved hvm hK, hD⟩, hS1.F ht⟩) hS1.2.2 (Nat.le_of_ble_eq_true rfl) (Nat.le_of_ble_eq_true rfl))
  rw [if_pos c_23_6] at hw
  refine lv_iload_n hx hb dX3_bounds_26 rfl (lv_at hl 1 rfl) ?_
  refine lv_iconst (v := 3) hx hb dX3_bounds_27 (by decide) ?_
  refine lv_imul hx hb dX3_bounds_28 ?_
  refine lv_iload_n hx hb dX3_bounds_29 rfl (lv_at hl 2 rfl) ?_
  refine lv_iadd hx hb dX3_bounds_30 ?_
  refine lv_istore (lv' := [(5, .int ((x1 * (3 : Int32)) + x2)), (0, .ref (a 0)), (1, .int x1), (2, .int x2), (3, .int x3), (4, .int x4)]) hx hb dX3_bounds_31 hl (by decide) rfl (fun ls hl => ?_)
  refine lv_aload_n hx hb dX3_bounds_33 rfl (lv_at hl 1 rfl) ?_
  refine va_get (D := (dC, dI)) (ci := 3) (v := .ref (a 1)) (C := RX3) (T := TX3) (N := 6) hx hb hts (iwX3 _) hown hK hP 0 rfl rfl 0 (by decide) (hts _ (kc k_154)) (fun _ h9 => h9) rfl dX3_bounds_34 ?_
  refine va_get (D := (dC, dI)) (ci := 0) (v := .ref (a 5)) (C := RX0) (T := TX0) (N := 5) hx hb hts (iwX0 _) hown hK hP 1 rfl rfl 3 (by decide) (hts _ (kc k_55)) (fun _ h9 => h9) rfl dX3_bounds_37 ?_
  refine lv_iload hx hb dX3_bounds_40 (lv_at hl 0 rfl) ?_
  refine lv_iload_n hx hb dX3_bounds_42 rfl (lv_at hl 4 rfl) ?_
  refine va_iast (D := (dC, dI)) (f := σ 5) hx hb hK hP hD hS 5 0 rfl rfl (i := (x1 * (3 : Int32)) + x2) (x := x3) (in_m3 (n := 5) hn_2 hn_4 (by decide) (by decide)) dX3_bounds_43 (fun H locs hP hD hS => ?_)
  obtain ⟨σ_7, eσ_7⟩ : ∃ z : St, z = su σ 5 (((x1 * (3 : Int32)) + x2).toNatClampNeg) x3 := ⟨_, rfl⟩
  replace hP := P_cw_5 hP
  replace hD := D_cw_5 hD
  rw [← eσ_7] at hP hD
  replace hw : R = (let σ_9 : St := su σ_7 6 (((x1 * (3 : Int32)) + x2).toNatClampNeg) x4; .ok (0, σ_9)) := by subst eσ_7; exact hw
  have hiv_8 : IV σ_7 := by rw [eσ_7]; exact (iv_suq hiv (by decide))
  refine lv_aload_n hx hb dX3_bounds_44 rfl (lv_at hl 1 rfl) ?_
  refine va_get (D := (dC, dI)) (ci := 3) (v := .ref (a 1)) (C := RX3) (T := TX3) (N := 6) hx hb hts (iwX3 _) hown hK hP 0 rfl rfl 0 (by decide) (hts _ (kc k_154)) (fun _ h9 => h9) rfl dX3_bounds_45 ?_
  refine va_get (D := (dC, dI)) (ci := 0) (v := .ref (a 6)) (C := RX0) (T := TX0) (N := 5) hx hb hts (iwX0 _) hown hK hP 1 rfl rfl 4 (by decide) (hts _ (kc k_57)) (fun _ h9 => h9) rfl dX3_bounds_48 ?_
  refine lv_iload hx hb dX3_bounds_51 (lv_at hl 0 rfl) ?_
  refine lv_iload hx hb dX3_bounds_53 (lv_at hl 5 rfl) ?_
  refine va_iast (D := (dC, dI)) (f := σ_7 6) hx hb hK hP hD hS 6 0 rfl rfl (i := (x1 * (3 : Int32)) + x2) (x := x4) (in_m3 (n := 5) hn_2 hn_4 (by decide) (by decide)) dX3_bounds_55 (fun H locs hP hD hS => ?_)
  obtain ⟨σ_9, eσ_9⟩ : ∃ z : St, z = su σ_7 6 (((x1 * (3 : Int32)) + x2).toNatClampNeg) x4 := ⟨_, rfl⟩
  replace hP := P_cw_6 hP
  replace hD := D_cw_6 hD
  rw [← eσ_9] at hP hD
  replace hw : R = (.ok (0, σ_9)) := by subst eσ_9; exact hw
  have hiv_10 : IV σ_9 := by rw [eσ_9]; exact (iv_suq hiv_8 (by decide))
  refine vx_ret ?_
  refine W.widen (k := 4) (n := 24) (Nat.le_of_ble_eq_true rfl) (Nat.le_of_ble_eq_true rfl) ?_
  exact W.vret hx hb hr (fun t ht hW => ⟨⟨σ_9, rfl, hR.symm.trans hw, by rw [ht]; exact hP, va_K.moved hW.alike hK, hD⟩, hS.F ht⟩) hS.2.2 dX3_bounds_56
set_option maxHeartbeats 4000000 in
set_option maxRecDepth 100000 in
theorem m_X3_thing (l : Launch) (hl9 : l.stackTraces = false) (dC : Nat → ClassId) (dI : Nat → Nat → Nat) (cI cZ : ClassId) (a : Nat → Nat) (zk : Nat → Nat) (sz : Nat) (σ : St) (x1 : Int32) (x2 : Int32) (x3 : Int32) (x4 : Int32) (x5 : Int32) (x6 : Int32) (hiv : IV σ) : vx_Met l yX3_thing wsX3_thing ({ frames := 7, cells := 8, slots := 48, locals := 112 }) (pPu dC dI cI cZ a zk sz σ [.ref (a 0), .int x1, .int x2, .int x3, .int x4, .int x5, .int x6]) (va_Qi (fun r σ9 => sp_thing σ x1 x2 x3 x4 x5 x6 = .ok (r, σ9)) (bMu dC dI cI cZ a (va_A (cw cI cZ a σ) sz)) (va_A (cw cI cZ a σ) sz)) (vx_X (fun E : String => sp_thing σ x1 x2 x3 x4 x5 x6 = .error E) (bXu dC dI cI cZ a (va_A (cw cI cZ a σ) sz) σ) (va_A (cw cI cZ a σ) sz)) 8 48 (va_A (cw cI cZ a σ) sz) := by
  refine vx_ofW (cc := cX3_thing) (maxL := 7) (ret := (some .int)) (by decide) rfl ?_
  intro p e s m args below meth c s₁ B hml hEx hv
  obtain ⟨rfl, hsz, hP, hK, hD0, hz⟩ := hv
  have hx := B.exec
  have hb := B.bytes
  have hr := B.returns
  have hts := atoms_spec (ws := wsX3_thing) B.pre
  have hown : s.vm.findClass RX3 = some m.cls := findClass_of_methodNamed B.named
  have hlocks := B.notSynchronized
  subst hsz
  have hD := hD0.self (sz := s.heap.size)
  generalize hAe : va_A (cw cI cZ a σ) s.heap.size = A at hD hz ⊢
  have hA : ∀ q : Nat, s.heap.size ≤ q → A q := fun q h => by rw [← hAe]; exact Or.inr h
  clear hAe hD0
  obtain ⟨H, hHe⟩ : ∃ z, z = s.heap := ⟨_, rfl⟩
  obtain ⟨locs, hLe⟩ : ∃ z : List Loc, z = [] := ⟨_, rfl⟩
  have hS : va_S A s.heap H locs := by rw [hHe, hLe]; exact va_S.rf
  have hP : va_P (dC, dI) vwCl (cw cI cZ a σ) H := by rw [hHe]; exact hP
  refine W_ofH hHe hLe ?_
  clear hHe hLe
  have hl := lv_entry ([.ref (a 0), .int x1, .int x2, .int x3, .int x4, .int x5, .int x6]) (n := 7) (Nat.le_of_ble_eq_true rfl)
  rw [lg_entry_eq]
  generalize (lg_sl ([.ref (a 0), .int x1, .int x2, .int x3, .int x4, .int x5, .int x6]) ++ List.replicate (7 - (lg_sl ([.ref (a 0), .int x1, .int x2, .int x3, .int x4, .int x5, .int x6])).length) Slot.unset).toArray = ls at hl ⊢
  have hl : lv_has ls 7 [(0, .ref (a 0)), (1, .int x1), (2, .int x2), (3, .int x3), (4, .int x4), (5, .int x5), (6, .int x6)] := hl
  obtain ⟨R, hR⟩ : ∃ z, z = sp_thing σ x1 x2 x3 x4 x5 x6 := ⟨_, rfl⟩
  have hw := hR
  unfold sp_thing at hw
  refine lv_iload_n hx hb dX3_thing_0 rfl (lv_at hl 1 rfl) ?_
  refine lv_iconst (v := 5) hx hb dX3_thing_1 (by decide) ?_
  refine nx_call (vx_runS (As := [.int x1, .int (5 : Int32)]) (rest := []) ⟨hx, hb, hml, hown, hts⟩ (m_X3_needKnown l hl9 zk H.size x1 (5 : Int32)) (cwS 2 hts (gS k_263 k_264 k_20 k_265) rfl rfl rfl (by decide +kernel) ⟨Nat.le_of_ble_eq_true rfl, Nat.le_of_ble_eq_true rfl⟩) (pn_need hz hS hA) rfl rfl hl.1 rfl (lv_room (Nat.le_of_ble_eq_true rfl)) dX3_thing_2 ⟨Nat.le_of_ble_eq_true rfl, Nat.le_of_ble_eq_true rfl⟩) hP hD hS hA (fun c_2_1 => ?_) (fun c_2_1 H1 q9 ce hP1 hS1 hc1 hc2 hc3 => vx_out (fun x hx9 => (hEx x hx9).elim) hlocks hc1 hc2 hc3 (fun t ht hvm => ⟨_, hR.symm.trans (hw.trans (if_neg c_2_1)), ⟨rfl, by rw [ht]; exact hP1, va_K.moved hvm hK, hD⟩, hS1.F ht⟩) hS1.2.2 (Nat.le_of_ble_eq_true rfl) (Nat.le_of_ble_eq_true rfl))
  rw [if_pos c_2_1] at hw
  have hn_2 : vp_in x1 5 := okK_in c_2_1 (n := 5) (by decide) (by decide)
  refine lv_iload hx hb dX3_thing_5 (lv_at hl 4 rfl) ?_
  refine lv_bipush (v := 10) hx hb dX3_thing_7 (by decide) ?_
  refine nx_call (vx_runS (As := [.int x4, .int (10 : Int32)]) (rest := []) ⟨hx, hb, hml, hown, hts⟩ (m_X3_needKnown l hl9 zk H.size x4 (10 : Int32)) (cwS 2 hts (gS k_263 k_264 k_20 k_265) rfl rfl rfl (by decide +kernel) ⟨Nat.le_of_ble_eq_true rfl, Nat.le_of_ble_eq_true rfl⟩) (pn_need hz hS hA) rfl rfl hl.1 rfl (lv_room (Nat.le_of_ble_eq_true rfl)) dX3_thing_9 ⟨Nat.le_of_ble_eq_true rfl, Nat.le_of_ble_eq_true rfl⟩) hP hD hS hA (fun c_9_3 => ?_) (fun c_9_3 H1 q9 ce hP1 hS1 hc1 hc2 hc3 => vx_out (fun x hx9 => (hEx x hx9).elim) hlocks hc1 hc2 hc3 (fun t ht hvm => ⟨_, hR.symm.trans (hw.trans (if_neg c_9_3)), ⟨rfl, by rw [ht]; exact hP1, va_K.moved hvm hK, hD⟩, hS1.F ht⟩) hS1.2.2 (Nat.le_of_ble_eq_true rfl) (Nat.le_of_ble_eq_true rfl))
  rw [if_pos c_9_3] at hw
  have hn_4 : vp_in x4 10 := okK_in c_9_3 (n := 10) (by decide) (by decide)
  refine lv_iload hx hb dX3_thing_12 (lv_at hl 5 rfl) ?_
  refine lv_bipush (v := 20) hx hb dX3_thing_14 (by decide) ?_
  refine nx_call (vx_runS (As := [.int x5, .int (20 : Int32)]) (rest := []) ⟨hx, hb, hml, hown, hts⟩ (m_X3_needKnown l hl9 zk H.size x5 (20 : Int32)) (cwS 2 hts (gS k_263 k_264 k_20 k_265) rfl rfl rfl (by decide +kernel) ⟨Nat.le_of_ble_eq_true rfl, Nat.le_of_ble_eq_true rfl⟩) (pn_need hz hS hA) rfl rfl hl.1 rfl (lv_room (Nat.le_of_ble_eq_true rfl)) dX3_thing_16 ⟨Nat.le_of_ble_eq_true rfl, Nat.le_of_ble_eq_true rfl⟩) hP hD hS hA (fun c_16_5 => ?_) (fun c_16_5 H1 q9 ce hP1 hS1 hc1 hc2 hc3 => vx_out (fun x hx9 => (hEx x hx9).elim) hlocks hc1 hc2 hc3 (fun t ht hvm => ⟨_, hR.symm.trans (hw.trans (if_neg c_16_5)), ⟨rfl, by rw [ht]; exact hP1, va_K.moved hvm hK, hD⟩, hS1.F ht⟩) hS1.2.2 (Nat.le_of_ble_eq_true rfl) (Nat.le_of_ble_eq_true rfl))
  rw [if_pos c_16_5] at hw
  have hn_6 : vp_in x5 20 := okK_in c_16_5 (n := 20) (by decide) (by decide)
  refine lv_iload_n hx hb dX3_thing_19 rfl (lv_at hl 2 rfl) ?_
  refine lv_iconst (v := 0) hx hb dX3_thing_20 (by decide) ?_
  refine lv_ldc (own := RX3) (v := 999999) hx hb hown (hts _ (kc k_305)) dX3_thing_21 ?_
  refine nx_call (vx_runS (As := [.int x2, .int (0 : Int32), .int (999999 : Int32)]) (rest := []) ⟨hx, hb, hml, hown, hts⟩ (m_X3_needRange l hl9 zk H.size x2 (0 : Int32) (999999 : Int32)) (cwS 3 hts (gS k_182 k_183 k_20 k_184) rfl rfl rfl (by decide +kernel) ⟨Nat.le_of_ble_eq_true rfl, Nat.le_of_ble_eq_true rfl⟩) (pn_need hz hS hA) rfl rfl hl.1 rfl (lv_room (Nat.le_of_ble_eq_true rfl)) dX3_thing_23 ⟨Nat.le_of_ble_eq_true rfl, Nat.le_of_ble_eq_true rfl⟩) hP hD hS hA (fun c_23_7 => ?_) (fun c_23_7 H1 q9 ce hP1 hS1 hc1 hc2 hc3 => vx_out (fun x hx9 => (hEx x hx9).elim) hlocks hc1 hc2 hc3 (fun t ht hvm => ⟨_, hR.symm.trans (hw.trans (if_neg c_23_7)), ⟨rfl, by rw [ht]; exact hP1, va_K.moved hvm hK, hD⟩, hS1.F ht⟩) hS1.2.2 (Nat.le_of_ble_eq_true rfl) (Nat.le_of_ble_eq_true rfl))
  rw [if_pos c_23_7] at hw
  refine lv_iload hx hb dX3_thing_26 (lv_at hl 6 rfl) ?_
  refine lv_iconst (v := 0) hx hb dX3_thing_28 (by decide) ?_
  refine lv_aload_n hx hb dX3_thing_29 rfl (lv_at hl 0 rfl) ?_
  refine va_get (D := (dC, dI)) (ci := 3) (v := .int (σ 0 5)) (C := RX3) (T := TX3) (N := 6) hx hb hts (iwX3 _) hown hK hP 0 rfl rfl 5 (by decide) (hts _ (kc k_159)) (fun _ h9 => h9) rfl dX3_thing_30 ?_
  refine nx_call (vx_runS (As := [.int x6, .int (0 : Int32), .int (σ 0 5)]) (rest := []) ⟨hx, hb, hml, hown, hts⟩ (m_X3_needRange l hl9 zk H.size x6 (0 : Int32) (σ 0 5)) (cwS 3 hts (gS k_182 k_183 k_20 k_184) rfl rfl rfl (by decide +kernel) ⟨Nat.le_of_ble_eq_true rfl, Nat.le_of_ble_eq_true rfl⟩) (pn_need hz hS hA) rfl rfl hl.1 rfl (lv_room (Nat.le_of_ble_eq_true rfl)) dX3_thing_33 ⟨Nat.le_of_ble_eq_true rfl, Nat.le_of_ble_eq_true rfl⟩) hP hD hS hA (fun c_33_8 => ?_) (fun c_33_8 H1 q9 ce hP1 hS1 hc1 hc2 hc3 => vx_out (fun x hx9 => (hEx x hx9).elim) hlocks hc1 hc2 hc3 (fun t ht hvm => ⟨_, hR.symm.trans (hw.trans (if_neg c_33_8)), ⟨rfl, by rw [ht]; exact hP1, va_K.moved hvm hK, hD⟩, hS1.F ht⟩) hS1.2.2 (Nat.le_of_ble_eq_true rfl) (Nat.le_of_ble_eq_true rfl))
  rw [if_pos c_33_8] at hw
  refine lv_iload_n hx hb dX3_thing_36 rfl (lv_at hl 3 rfl) ?_
  refine lv_iload_n hx hb dX3_thing_37 rfl (lv_at hl 2 rfl) ?_
  refine vp_callSi (W.runS (As := [.int x2]) (rest := [.int x3]) ⟨hx, hb, hml, hown, hts⟩ (m_X3_checkLetter l zk x2) (cwS 1 hts (gS k_306 k_307 k_20 k_308) rfl rfl rfl (by decide +kernel) ⟨Nat.le_of_ble_eq_true rfl, Nat.le_of_ble_eq_true rfl⟩) (pz_T hz hS) rfl rfl hl.1 rfl (lv_room (Nat.le_of_ble_eq_true rfl)) dX3_thing_38 ⟨Nat.le_of_ble_eq_true rfl, Nat.le_of_ble_eq_true rfl⟩) (fun r hrr => ?_)
  subst hrr
  refine lv_icmp_ne (tgt := 48) hx hb dX3_thing_41 (by decide) (fun c_41_9 => ?_) (fun c_41_9 => ?_)
  · skip
    rw [if_neg c_41_9] at hw
    refine lv_iconst (v := 0) hx hb dX3_thing_48 (by decide) ?_
    exact nx_call (vx_runS (As := [.int (0 : Int32)]) (rest := []) ⟨hx, hb, hml, hown, hts⟩ (m_X3_needState l hl9 zk H.size (0 : Int32)) (cwS 1 hts (gS k_311 k_312 k_20 k_313) rfl rfl rfl (by decide +kernel) ⟨Nat.le_of_ble_eq_true rfl, Nat.le_of_ble_eq_true rfl⟩) (pn_need hz hS hA) rfl rfl hl.1 rfl (lv_room (Nat.le_of_ble_eq_true rfl)) dX3_thing_49 ⟨Nat.le_of_ble_eq_true rfl, Nat.le_of_ble_eq_true rfl⟩) hP hD hS hA (fun c_49_10 => absurd c_49_10 (by decide)) (fun c_49_10 H1 q9 ce hP1 hS1 hc1 hc2 hc3 => vx_out (fun x hx9 => (hEx x hx9).elim) hlocks hc1 hc2 hc3 (fun t ht hvm => ⟨_, hR.symm.trans hw, ⟨rfl, by rw [ht]; exact hP1, va_K.moved hvm hK, hD⟩, hS1.F ht⟩) hS1.2.2 (Nat.le_of_ble_eq_true rfl) (Nat.le_of_ble_eq_true rfl))
  · skip
    rw [if_pos c_41_9] at hw
    refine lv_iconst (v := 1) hx hb dX3_thing_44 (by decide) ?_
    refine lv_goto (tgt := 49) hx hb dX3_thing_45 (by decide) ?_
    refine nx_call (vx_runS (As := [.int (1 : Int32)]) (rest := []) ⟨hx, hb, hml, hown, hts⟩ (m_X3_needState l hl9 zk H.size (1 : Int32)) (cwS 1 hts (gS k_311 k_312 k_20 k_313) rfl rfl rfl (by decide +kernel) ⟨Nat.le_of_ble_eq_true rfl, Nat.le_of_ble_eq_true rfl⟩) (pn_need hz hS hA) rfl rfl hl.1 rfl (lv_room (Nat.le_of_ble_eq_true rfl)) dX3_thing_49 ⟨Nat.le_of_ble_eq_true rfl, Nat.le_of_ble_eq_true rfl⟩) hP hD hS hA (fun c_49_11 => ?_) (fun c_49_11 => absurd (by decide) c_49_11)
    refine lv_aload_n hx hb dX3_thing_52 rfl (lv_at hl 0 rfl) ?_
    refine va_get (D := (dC, dI)) (ci := 3) (v := .ref (a 7)) (C := RX3) (T := TX3) (N := 6) hx hb hts (iwX3 _) hown hK hP 0 rfl rfl 1 (by decide) (hts _ (kc k_155)) (fun _ h9 => h9) rfl dX3_thing_53 ?_
    refine lv_iload_n hx hb dX3_thing_56 rfl (lv_at hl 2 rfl) ?_
    refine vp_callSi (W.runV (As := [.int x2]) (rest := []) ⟨hx, hb, hml, hown, hts⟩ (m_X2_hasSerial l dC dI cI cZ a σ x2 hiv) (cwV 1 hts (gV k_330 k_331 k_332 k_22 k_333) rfl rfl rfl (by decide +kernel) ⟨Nat.le_of_ble_eq_true rfl, Nat.le_of_ble_eq_true rfl⟩) (pv_ro (q := (RX2, TX2, 12)) (q0 := 7) (ci := 2) hK hP rfl rfl) rfl rfl hl.1 rfl (lv_room (Nat.le_of_ble_eq_true rfl)) dX3_thing_57 ⟨Nat.le_of_ble_eq_true rfl, Nat.le_of_ble_eq_true rfl⟩) (fun r hrr => ?_)
    subst hrr
    refine lv_if_ne (tgt := 67) hx hb dX3_thing_60 (by decide) (fun c_60_12 => ?_) (fun c_60_12 => ?_)
    · skip
      rw [if_neg c_60_12] at hw
      refine lv_iconst (v := 0) hx hb dX3_thing_67 (by decide) ?_
      exact nx_call (vx_runS (As := [.int (0 : Int32)]) (rest := []) ⟨hx, hb, hml, hown, hts⟩ (m_X3_needState l hl9 zk H.size (0 : Int32)) (cwS 1 hts (gS k_311 k_312 k_20 k_313) rfl rfl rfl (by decide +kernel) ⟨Nat.le_of_ble_eq_true rfl, Nat.le_of_ble_eq_true rfl⟩) (pn_need hz hS hA) rfl rfl hl.1 rfl (lv_room (Nat.le_of_ble_eq_true rfl)) dX3_thing_68 ⟨Nat.le_of_ble_eq_true rfl, Nat.le_of_ble_eq_true rfl⟩) hP hD hS hA (fun c_68_13 => absurd c_68_13 (by decide)) (fun c_68_13 H1 q9 ce hP1 hS1 hc1 hc2 hc3 => vx_out (fun x hx9 => (hEx x hx9).elim) hlocks hc1 hc2 hc3 (fun t ht hvm => ⟨_, hR.symm.trans hw, ⟨rfl, by rw [ht]; exact hP1, va_K.moved hvm hK, hD⟩, hS1.F ht⟩) hS1.2.2 (Nat.le_of_ble_eq_true rfl) (Nat.le_of_ble_eq_true rfl))
    · skip
      rw [if_pos c_60_12] at hw
      refine lv_iconst (v := 1) hx hb dX3_thing_63 (by decide) ?_
      refine lv_goto (tgt := 68) hx hb dX3_thing_64 (by decide) ?_
      refine nx_call (vx_runS (As := [.int (1 : Int32)]) (rest := []) ⟨hx, hb, hml, hown, hts⟩ (m_X3_needState l hl9 zk H.size (1 : Int32)) (cwS 1 hts (gS k_311 k_312 k_20 k_313) rfl rfl rfl (by decide +kernel) ⟨Nat.le_of_ble_eq_true rfl, Nat.le_of_ble_eq_true rfl⟩) (pn_need hz hS hA) rfl rfl hl.1 rfl (lv_room (Nat.le_of_ble_eq_true rfl)) dX3_thing_68 ⟨Nat.le_of_ble_eq_true rfl, Nat.le_of_ble_eq_true rfl⟩) hP hD hS hA (fun c_68_14 => ?_) (fun c_68_14 => absurd (by decide) c_68_14)
      refine lv_aload_n hx hb dX3_thing_71 rfl (lv_at hl 0 rfl) ?_
      refine va_get (D := (dC, dI)) (ci := 3) (v := .ref (a 7)) (C := RX3) (T := TX3) (N := 6) hx hb hts (iwX3 _) hown hK hP 0 rfl rfl 1 (by decide) (hts _ (kc k_155)) (fun _ h9 => h9) rfl dX3_thing_72 ?_
      refine va_get (D := (dC, dI)) (ci := 2) (v := .int (σ 7 11)) (C := RX2) (T := TX2) (N := 12) hx hb hts (iwX2 _) hown hK hP 7 rfl rfl 11 (by decide) (hts _ (kc k_97)) (fun _ h9 => h9) rfl dX3_thing_75 ?_
      refine lv_bipush (v := 40) hx hb dX3_thing_78 (by decide) ?_
      refine lv_icmp_lt (tgt := 93) hx hb dX3_thing_80 (by decide) (fun c_80_15 => ?_) (fun c_80_15 => ?_)
      · skip
        rw [if_pos c_80_15] at hw
        have h640 : vp_in (σ 7 11) 40 := cnt_in40 hiv c_80_15
        refine lv_aload_n hx hb dX3_thing_93 rfl (lv_at hl 0 rfl) ?_
        refine va_get (D := (dC, dI)) (ci := 3) (v := .ref (a 7)) (C := RX3) (T := TX3) (N := 6) hx hb hts (iwX3 _) hown hK hP 0 rfl rfl 1 (by decide) (hts _ (kc k_155)) (fun _ h9 => h9) rfl dX3_thing_94 ?_
        refine lv_iload_n hx hb dX3_thing_97 rfl (lv_at hl 1 rfl) ?_
        refine lv_iload_n hx hb dX3_thing_98 rfl (lv_at hl 2 rfl) ?_
        refine lv_iload hx hb dX3_thing_99 (lv_at hl 4 rfl) ?_
        refine lv_iload hx hb dX3_thing_101 (lv_at hl 5 rfl) ?_
        refine lv_iload hx hb dX3_thing_103 (lv_at hl 6 rfl) ?_
        have hFc := fr_all hD hS hA
        refine va_calli (va_runV (As := [.int x1, .int x2, .int x4, .int x5, .int x6]) (rest := []) ⟨hx, hb, hml, hown, hts⟩ (m_X2_add l dC dI cI cZ a H.size σ x1 x2 x4 x5 x6 h640) (cwV 5 hts (gV k_350 k_351 k_352 k_22 k_353) rfl rfl rfl (by decide +kernel) ⟨Nat.le_of_ble_eq_true rfl, Nat.le_of_ble_eq_true rfl⟩) (pv_mu (q := (RX2, TX2, 12)) (q0 := 7) (ci := 2) hK hP hD rfl rfl) rfl rfl hl.1 rfl (lv_room (Nat.le_of_ble_eq_true rfl)) dX3_thing_105 ⟨Nat.le_of_ble_eq_true rfl, Nat.le_of_ble_eq_true rfl⟩) hS (fun q _ h => hFc q h) hFc (fun r σ9 t H1 locs ht hvm hw9 hB hz1 hk1 hS => ?_)
        obtain ⟨hP, hK1, hD1⟩ := hB
        rw [ht] at hP
        have hD := hD1.weaken (fun _ _ _ h => hFc _ h)
        clear hFc hD1 hK1
        obtain ⟨rfl, rfl⟩ : r = (sp_add σ x1 x2 x4 x5 x6).1 ∧ σ9 = (sp_add σ x1 x2 x4 x5 x6).2 := ⟨congrArg Prod.fst hw9, congrArg Prod.snd hw9⟩
        generalize H1 = H at hP hS ⊢
        refine vx_ret ?_
        refine W.widen (k := 8) (n := 48) (Nat.le_of_ble_eq_true rfl) (Nat.le_of_ble_eq_true rfl) ?_
        exact W.iret (v := (sp_add σ x1 x2 x4 x5 x6).1) hx hb hr (fun t ht hW => ⟨⟨(sp_add σ x1 x2 x4 x5 x6).1, (sp_add σ x1 x2 x4 x5 x6).2, rfl, hR.symm.trans hw, by rw [ht]; exact hP, va_K.moved hW.alike hK, hD⟩, hS.F ht⟩) hS.2.2 dX3_thing_108
      · skip
        rw [if_neg c_80_15] at hw
        exact vx_throwS (own := RX3) (cls := "java/lang/UnsupportedOperationException") (text := "no room for one more thing") (names := ["java/lang/RuntimeException", "java/lang/Exception"]) hx hb hl9 hown (by decide) (by decide) (hts _ (kc k_334)) (hts _ (kc k_31)) (hz.2.2.1 3 _ rfl) (vx_hat (fun w hw9 => hts w (kc (at_86 w hw9))) ab_86 (vx_c (va_Nw.use rfl (hz.2.2.2.1.1 _ (by decide))) (vx_c (va_Nw.use rfl (hz.2.2.2.1.2.1 _ (by decide))) (vx_c (va_Nw.use rfl (hz.2.2.2.1.2.1 _ (by decide))) (vx_c (va_Nw.use rfl (hz.2.2.2.1.2.1 _ (by decide))) vx_n))))) go_82_86 hz.1 hz.2.1 hS (hl.1.trans hml.symm) dX3_thing_83 dX3_thing_86 dX3_thing_87 dX3_thing_89 dX3_thing_92 (fun x hx9 => (hEx x hx9).elim) (Nat.le_of_ble_eq_true rfl) (Nat.le_of_ble_eq_true rfl) (Nat.le_of_ble_eq_true rfl) (Nat.le_of_ble_eq_true rfl) hlocks (fun t hvm h1 h2 => ⟨_, hR.symm.trans hw, ⟨rfl, hP.kept (fun k q hq => h2 q.1 ((hP k q hq).lt)), va_K.moved hvm hK, hD⟩, Nat.le_trans hS.1 h1, fun q g1 g2 => by rw [h2 q (Nat.lt_of_lt_of_le g1 hS.1)]; exact hS.2.1 q g1 g2⟩) hS.2.2 (Nat.le_of_ble_eq_true rfl) (Nat.le_of_ble_eq_true rfl)
set_option maxHeartbeats 4000000 in
set_option maxRecDepth 100000 in
theorem m_X3_letter (l : Launch) (hl9 : l.stackTraces = false) (dC : Nat → ClassId) (dI : Nat → Nat → Nat) (cI cZ : ClassId) (a : Nat → Nat) (zk : Nat → Nat) (sz : Nat) (σ : St) (x1 : Int32) (hiv : IV σ) : vx_Met l yX3_letter wsX3_letter ({ frames := 7, cells := 1, slots := 6, locals := 112 }) (pPu dC dI cI cZ a zk sz σ [.ref (a 0), .int x1]) (va_Qi (fun r σ9 => sp_letter σ x1 = .ok (r, σ9)) (bMu dC dI cI cZ a (va_A (cw cI cZ a σ) sz)) (va_A (cw cI cZ a σ) sz)) (vx_X (fun E : String => sp_letter σ x1 = .error E) (bXu dC dI cI cZ a (va_A (cw cI cZ a σ) sz) σ) (va_A (cw cI cZ a σ) sz)) 1 6 (va_A (cw cI cZ a σ) sz) := by
  refine vx_ofW (cc := cX3_letter) (maxL := 2) (ret := (some .int)) (by decide) rfl ?_
  intro p e s m args below meth c s₁ B hml hEx hv
  obtain ⟨rfl, hsz, hP, hK, hD0, hz⟩ := hv
  have hx := B.exec
  have hb := B.bytes
  have hr := B.returns
  have hts := atoms_spec (ws := wsX3_letter) B.pre
  have hown : s.vm.findClass RX3 = some m.cls := findClass_of_methodNamed B.named
  have hlocks := B.notSynchronized
  subst hsz
  have hD := hD0.self (sz := s.heap.size)
  generalize hAe : va_A (cw cI cZ a σ) s.heap.size = A at hD hz ⊢
  have hA : ∀ q : Nat, s.heap.size ≤ q → A q := fun q h => by rw [← hAe]; exact Or.inr h
  clear hAe hD0
  obtain ⟨H, hHe⟩ : ∃ z, z = s.heap := ⟨_, rfl⟩
  obtain ⟨locs, hLe⟩ : ∃ z : List Loc, z = [] := ⟨_, rfl⟩
  have hS : va_S A s.heap H locs := by rw [hHe, hLe]; exact va_S.rf
  have hP : va_P (dC, dI) vwCl (cw cI cZ a σ) H := by rw [hHe]; exact hP
  refine W_ofH hHe hLe ?_
  clear hHe hLe
  have hl := lv_entry ([.ref (a 0), .int x1]) (n := 2) (Nat.le_of_ble_eq_true rfl)
  rw [lg_entry_eq]
  generalize (lg_sl ([.ref (a 0), .int x1]) ++ List.replicate (2 - (lg_sl ([.ref (a 0), .int x1])).length) Slot.unset).toArray = ls at hl ⊢
  have hl : lv_has ls 2 [(0, .ref (a 0)), (1, .int x1)] := hl
  obtain ⟨R, hR⟩ : ∃ z, z = sp_letter σ x1 := ⟨_, rfl⟩
  have hw := hR
  unfold sp_letter at hw
  refine lv_iload_n hx hb dX3_letter_0 rfl (lv_at hl 1 rfl) ?_
  refine lv_iconst (v := 0) hx hb dX3_letter_1 (by decide) ?_
  refine lv_ldc (own := RX3) (v := 999999) hx hb hown (hts _ (kc k_305)) dX3_letter_2 ?_
  refine nx_call (vx_runS (As := [.int x1, .int (0 : Int32), .int (999999 : Int32)]) (rest := []) ⟨hx, hb, hml, hown, hts⟩ (m_X3_needRange l hl9 zk H.size x1 (0 : Int32) (999999 : Int32)) (cwS 3 hts (gS k_182 k_183 k_20 k_184) rfl rfl rfl (by decide +kernel) ⟨Nat.le_of_ble_eq_true rfl, Nat.le_of_ble_eq_true rfl⟩) (pn_need hz hS hA) rfl rfl hl.1 rfl (lv_room (Nat.le_of_ble_eq_true rfl)) dX3_letter_4 ⟨Nat.le_of_ble_eq_true rfl, Nat.le_of_ble_eq_true rfl⟩) hP hD hS hA (fun c_4_1 => ?_) (fun c_4_1 H1 q9 ce hP1 hS1 hc1 hc2 hc3 => vx_out (fun x hx9 => (hEx x hx9).elim) hlocks hc1 hc2 hc3 (fun t ht hvm => ⟨_, hR.symm.trans (hw.trans (if_neg c_4_1)), ⟨rfl, by rw [ht]; exact hP1, va_K.moved hvm hK, hD⟩, hS1.F ht⟩) hS1.2.2 (Nat.le_of_ble_eq_true rfl) (Nat.le_of_ble_eq_true rfl))
  rw [if_pos c_4_1] at hw
  refine lv_iload_n hx hb dX3_letter_7 rfl (lv_at hl 1 rfl) ?_
  refine vp_callSi (W.runS (As := [.int x1]) (rest := []) ⟨hx, hb, hml, hown, hts⟩ (m_X3_checkLetter l zk x1) (cwS 1 hts (gS k_306 k_307 k_20 k_308) rfl rfl rfl (by decide +kernel) ⟨Nat.le_of_ble_eq_true rfl, Nat.le_of_ble_eq_true rfl⟩) (pz_T hz hS) rfl rfl hl.1 rfl (lv_room (Nat.le_of_ble_eq_true rfl)) dX3_letter_8 ⟨Nat.le_of_ble_eq_true rfl, Nat.le_of_ble_eq_true rfl⟩) (fun r hrr => ?_)
  subst hrr
  refine vx_ret ?_
  refine W.widen (k := 1) (n := 6) (Nat.le_of_ble_eq_true rfl) (Nat.le_of_ble_eq_true rfl) ?_
  exact W.iret (v := sp_checkLetter x1) hx hb hr (fun t ht hW => ⟨⟨sp_checkLetter x1, σ, rfl, hR.symm.trans hw, by rw [ht]; exact hP, va_K.moved hW.alike hK, hD⟩, hS.F ht⟩) hS.2.2 dX3_letter_11
end
section
set_option maxHeartbeats 4000000 in
set_option maxRecDepth 100000 in
theorem m_X3_use (l : Launch) (hl9 : l.stackTraces = false) (dC : Nat → ClassId) (dI : Nat → Nat → Nat) (cI cZ : ClassId) (a : Nat → Nat) (zk : Nat → Nat) (sz : Nat) (σ : St) (x1 : Int32) (hiv : IV σ) : vx_Met l yX3_use wsX3_use ({ frames := 7, cells := 2, slots := 12, locals := 111 }) (pPu dC dI cI cZ a zk sz σ [.ref (a 0), .int x1]) (va_Qv (fun σ9 => sp_use σ x1 = .ok (0, σ9)) (bMu dC dI cI cZ a (va_A (cw cI cZ a σ) sz)) (va_A (cw cI cZ a σ) sz)) (vx_X (fun E : String => sp_use σ x1 = .error E) (bXu dC dI cI cZ a (va_A (cw cI cZ a σ) sz) σ) (va_A (cw cI cZ a σ) sz)) 2 12 (va_A (cw cI cZ a σ) sz) := by
  refine vx_ofW (cc := cX3_use) (maxL := 2) (ret := none) (by decide) rfl ?_
  intro p e s m args below meth c s₁ B hml hEx hv
  obtain ⟨rfl, hsz, hP, hK, hD0, hz⟩ := hv
  have hx := B.exec
  have hb := B.bytes
  have hr := B.returns
  have hts := atoms_spec (ws := wsX3_use) B.pre
  have hown : s.vm.findClass RX3 = some m.cls := findClass_of_methodNamed B.named
  have hlocks := B.notSynchronized
  subst hsz
  have hD := hD0.self (sz := s.heap.size)
  generalize hAe : va_A (cw cI cZ a σ) s.heap.size = A at hD hz ⊢
  have hA : ∀ q : Nat, s.heap.size ≤ q → A q := fun q h => by rw [← hAe]; exact Or.inr h
  clear hAe hD0
  obtain ⟨H, hHe⟩ : ∃ z, z = s.heap := ⟨_, rfl⟩
  obtain ⟨locs, hLe⟩ : ∃ z : List Loc, z = [] := ⟨_, rfl⟩
  have hS : va_S A s.heap H locs := by rw [hHe, hLe]; exact va_S.rf
  have hP : va_P (dC, dI) vwCl (cw cI cZ a σ) H := by rw [hHe]; exact hP
  refine W_ofH hHe hLe ?_
  clear hHe hLe
  have hl := lv_entry ([.ref (a 0), .int x1]) (n := 2) (Nat.le_of_ble_eq_true rfl)
  rw [lg_entry_eq]
  generalize (lg_sl ([.ref (a 0), .int x1]) ++ List.replicate (2 - (lg_sl ([.ref (a 0), .int x1])).length) Slot.unset).toArray = ls at hl ⊢
  have hl : lv_has ls 2 [(0, .ref (a 0)), (1, .int x1)] := hl
  obtain ⟨R, hR⟩ : ∃ z, z = sp_use σ x1 := ⟨_, rfl⟩
  have hw := hR
  unfold sp_use at hw
  refine lv_iload_n hx hb dX3_use_0 rfl (lv_at hl 1 rfl) ?_
  refine lv_aload_n hx hb dX3_use_1 rfl (lv_at hl 0 rfl) ?_
  refine va_get (D := (dC, dI)) (ci := 3) (v := .ref (a 7)) (C := RX3) (T := TX3) (N := 6) hx hb hts (iwX3 _) hown hK hP 0 rfl rfl 1 (by decide) (hts _ (kc k_155)) (fun _ h9 => h9) rfl dX3_use_2 ?_
  refine va_get (D := (dC, dI)) (ci := 2) (v := .int (σ 7 11)) (C := RX2) (T := TX2) (N := 12) hx hb hts (iwX2 _) hown hK hP 7 rfl rfl 11 (by decide) (hts _ (kc k_97)) (fun _ h9 => h9) rfl dX3_use_5 ?_
  refine nx_call (vx_runS (As := [.int x1, .int (σ 7 11)]) (rest := []) ⟨hx, hb, hml, hown, hts⟩ (m_X3_needKnown l hl9 zk H.size x1 (σ 7 11)) (cwS 2 hts (gS k_263 k_264 k_20 k_265) rfl rfl rfl (by decide +kernel) ⟨Nat.le_of_ble_eq_true rfl, Nat.le_of_ble_eq_true rfl⟩) (pn_need hz hS hA) rfl rfl hl.1 rfl (lv_room (Nat.le_of_ble_eq_true rfl)) dX3_use_8 ⟨Nat.le_of_ble_eq_true rfl, Nat.le_of_ble_eq_true rfl⟩) hP hD hS hA (fun c_8_1 => ?_) (fun c_8_1 H1 q9 ce hP1 hS1 hc1 hc2 hc3 => vx_out (fun x hx9 => (hEx x hx9).elim) hlocks hc1 hc2 hc3 (fun t ht hvm => ⟨_, hR.symm.trans (hw.trans (if_neg c_8_1)), ⟨rfl, by rw [ht]; exact hP1, va_K.moved hvm hK, hD⟩, hS1.F ht⟩) hS1.2.2 (Nat.le_of_ble_eq_true rfl) (Nat.le_of_ble_eq_true rfl))
  rw [if_pos c_8_1] at hw
  have hn_2 : vp_in x1 40 := okK_cnt hiv c_8_1
  refine lv_aload_n hx hb dX3_use_11 rfl (lv_at hl 0 rfl) ?_
  refine lv_iload_n hx hb dX3_use_12 rfl (lv_at hl 1 rfl) ?_
  refine vp_callSi (W.runV (As := [.int x1]) (rest := []) ⟨hx, hb, hml, hown, hts⟩ (m_X3_reasonBarred l dC dI cI cZ a σ x1 hiv hn_2) (cwV 1 hts (gV k_368 k_370 k_1 k_20 k_371) rfl rfl rfl (by decide +kernel) ⟨Nat.le_of_ble_eq_true rfl, Nat.le_of_ble_eq_true rfl⟩) (pv_ro (q := (RX3, TX3, 6)) (q0 := 0) (ci := 3) hK hP rfl rfl) rfl rfl hl.1 rfl (lv_room (Nat.le_of_ble_eq_true rfl)) dX3_use_13 ⟨Nat.le_of_ble_eq_true rfl, Nat.le_of_ble_eq_true rfl⟩) (fun r hrr => ?_)
  subst hrr
  refine lv_if_ne (tgt := 23) hx hb dX3_use_16 (by decide) (fun c_16_3 => ?_) (fun c_16_3 => ?_)
  · skip
    rw [if_neg c_16_3] at hw
    refine lv_iconst (v := 0) hx hb dX3_use_23 (by decide) ?_
    exact nx_call (vx_runS (As := [.int (0 : Int32)]) (rest := []) ⟨hx, hb, hml, hown, hts⟩ (m_X3_needState l hl9 zk H.size (0 : Int32)) (cwS 1 hts (gS k_311 k_312 k_20 k_313) rfl rfl rfl (by decide +kernel) ⟨Nat.le_of_ble_eq_true rfl, Nat.le_of_ble_eq_true rfl⟩) (pn_need hz hS hA) rfl rfl hl.1 rfl (lv_room (Nat.le_of_ble_eq_true rfl)) dX3_use_24 ⟨Nat.le_of_ble_eq_true rfl, Nat.le_of_ble_eq_true rfl⟩) hP hD hS hA (fun c_24_4 => absurd c_24_4 (by decide)) (fun c_24_4 H1 q9 ce hP1 hS1 hc1 hc2 hc3 => vx_out (fun x hx9 => (hEx x hx9).elim) hlocks hc1 hc2 hc3 (fun t ht hvm => ⟨_, hR.symm.trans hw, ⟨rfl, by rw [ht]; exact hP1, va_K.moved hvm hK, hD⟩, hS1.F ht⟩) hS1.2.2 (Nat.le_of_ble_eq_true rfl) (Nat.le_of_ble_eq_true rfl))
  · skip
    rw [if_pos c_16_3] at hw
    refine lv_iconst (v := 1) hx hb dX3_use_19 (by decide) ?_
    refine lv_goto (tgt := 24) hx hb dX3_use_20 (by decide) ?_
    refine nx_call (vx_runS (As := [.int (1 : Int32)]) (rest := []) ⟨hx, hb, hml, hown, hts⟩ (m_X3_needState l hl9 zk H.size (1 : Int32)) (cwS 1 hts (gS k_311 k_312 k_20 k_313) rfl rfl rfl (by decide +kernel) ⟨Nat.le_of_ble_eq_true rfl, Nat.le_of_ble_eq_true rfl⟩) (pn_need hz hS hA) rfl rfl hl.1 rfl (lv_room (Nat.le_of_ble_eq_true rfl)) dX3_use_24 ⟨Nat.le_of_ble_eq_true rfl, Nat.le_of_ble_eq_true rfl⟩) hP hD hS hA (fun c_24_5 => ?_) (fun c_24_5 => absurd (by decide) c_24_5)
    refine lv_aload_n hx hb dX3_use_27 rfl (lv_at hl 0 rfl) ?_
    refine va_get (D := (dC, dI)) (ci := 3) (v := .ref (a 7)) (C := RX3) (T := TX3) (N := 6) hx hb hts (iwX3 _) hown hK hP 0 rfl rfl 1 (by decide) (hts _ (kc k_155)) (fun _ h9 => h9) rfl dX3_use_28 ?_
    refine lv_iload_n hx hb dX3_use_31 rfl (lv_at hl 1 rfl) ?_
    refine lv_aload_n hx hb dX3_use_32 rfl (lv_at hl 0 rfl) ?_
    refine va_get (D := (dC, dI)) (ci := 3) (v := .int (σ 0 5)) (C := RX3) (T := TX3) (N := 6) hx hb hts (iwX3 _) hown hK hP 0 rfl rfl 5 (by decide) (hts _ (kc k_159)) (fun _ h9 => h9) rfl dX3_use_33 ?_
    have hFc := fr_all hD hS hA
    refine va_callv (va_runV (As := [.int x1, .int (σ 0 5)]) (rest := []) ⟨hx, hb, hml, hown, hts⟩ (m_X2_countUse l dC dI cI cZ a H.size σ x1 (σ 0 5) hn_2) (cwV 2 hts (gV k_399 k_400 k_401 k_22 k_402) rfl rfl rfl (by decide +kernel) ⟨Nat.le_of_ble_eq_true rfl, Nat.le_of_ble_eq_true rfl⟩) (pv_mu (q := (RX2, TX2, 12)) (q0 := 7) (ci := 2) hK hP hD rfl rfl) rfl rfl hl.1 rfl (lv_room (Nat.le_of_ble_eq_true rfl)) dX3_use_36 ⟨Nat.le_of_ble_eq_true rfl, Nat.le_of_ble_eq_true rfl⟩) hS (fun q _ h => hFc q h) hFc (fun σ9 t H1 locs ht hvm hw9 hB hz1 hk1 hS => ?_)
    obtain ⟨hP, hK1, hD1⟩ := hB
    rw [ht] at hP
    have hD := hD1.weaken (fun _ _ _ h => hFc _ h)
    clear hFc hD1 hK1
    subst hw9
    generalize H1 = H at hP hS ⊢
    refine vx_ret ?_
    refine W.widen (k := 2) (n := 12) (Nat.le_of_ble_eq_true rfl) (Nat.le_of_ble_eq_true rfl) ?_
    exact W.vret hx hb hr (fun t ht hW => ⟨⟨sp_countUse σ x1 (σ 0 5), rfl, hR.symm.trans hw, by rw [ht]; exact hP, va_K.moved hW.alike hK, hD⟩, hS.F ht⟩) hS.2.2 dX3_use_39
set_option maxHeartbeats 4000000 in
set_option maxRecDepth 100000 in
theorem m_X3_wash (l : Launch) (hl9 : l.stackTraces = false) (dC : Nat → ClassId) (dI : Nat → Nat → Nat) (cI cZ : ClassId) (a : Nat → Nat) (zk : Nat → Nat) (sz : Nat) (σ : St) (x1 : Int32) (x2 : Int32) (hiv : IV σ) : vx_Met l yX3_wash wsX3_wash ({ frames := 7, cells := 3, slots := 18, locals := 111 }) (pPu dC dI cI cZ a zk sz σ [.ref (a 0), .int x1, .int x2]) (va_Qi (fun r σ9 => sp_wash σ x1 x2 = .ok (r, σ9)) (bMu dC dI cI cZ a (va_A (cw cI cZ a σ) sz)) (va_A (cw cI cZ a σ) sz)) (vx_X (fun E : String => sp_wash σ x1 x2 = .error E) (bXu dC dI cI cZ a (va_A (cw cI cZ a σ) sz) σ) (va_A (cw cI cZ a σ) sz)) 3 18 (va_A (cw cI cZ a σ) sz) := by
  refine vx_ofW (cc := cX3_wash) (maxL := 3) (ret := (some .int)) (by decide) rfl ?_
  intro p e s m args below meth c s₁ B hml hEx hv
  obtain ⟨rfl, hsz, hP, hK, hD0, hz⟩ := hv
  have hx := B.exec
  have hb := B.bytes
  have hr := B.returns
  have hts := atoms_spec (ws := wsX3_wash) B.pre
  have hown : s.vm.findClass RX3 = some m.cls := findClass_of_methodNamed B.named
  have hlocks := B.notSynchronized
  subst hsz
  have hD := hD0.self (sz := s.heap.size)
  generalize hAe : va_A (cw cI cZ a σ) s.heap.size = A at hD hz ⊢
  have hA : ∀ q : Nat, s.heap.size ≤ q → A q := fun q h => by rw [← hAe]; exact Or.inr h
  clear hAe hD0
  obtain ⟨H, hHe⟩ : ∃ z, z = s.heap := ⟨_, rfl⟩
  obtain ⟨locs, hLe⟩ : ∃ z : List Loc, z = [] := ⟨_, rfl⟩
  have hS : va_S A s.heap H locs := by rw [hHe, hLe]; exact va_S.rf
  have hP : va_P (dC, dI) vwCl (cw cI cZ a σ) H := by rw [hHe]; exact hP
  refine W_ofH hHe hLe ?_
  clear hHe hLe
  have hl := lv_entry ([.ref (a 0), .int x1, .int x2]) (n := 3) (Nat.le_of_ble_eq_true rfl)
  rw [lg_entry_eq]
  generalize (lg_sl ([.ref (a 0), .int x1, .int x2]) ++ List.replicate (3 - (lg_sl ([.ref (a 0), .int x1, .int x2])).length) Slot.unset).toArray = ls at hl ⊢
  have hl : lv_has ls 3 [(0, .ref (a 0)), (1, .int x1), (2, .int x2)] := hl
  obtain ⟨R, hR⟩ : ∃ z, z = sp_wash σ x1 x2 := ⟨_, rfl⟩
  have hw := hR
  unfold sp_wash at hw
  refine lv_iload_n hx hb dX3_wash_0 rfl (lv_at hl 1 rfl) ?_
  refine lv_aload_n hx hb dX3_wash_1 rfl (lv_at hl 0 rfl) ?_
  refine va_get (D := (dC, dI)) (ci := 3) (v := .ref (a 7)) (C := RX3) (T := TX3) (N := 6) hx hb hts (iwX3 _) hown hK hP 0 rfl rfl 1 (by decide) (hts _ (kc k_155)) (fun _ h9 => h9) rfl dX3_wash_2 ?_
  refine va_get (D := (dC, dI)) (ci := 2) (v := .int (σ 7 11)) (C := RX2) (T := TX2) (N := 12) hx hb hts (iwX2 _) hown hK hP 7 rfl rfl 11 (by decide) (hts _ (kc k_97)) (fun _ h9 => h9) rfl dX3_wash_5 ?_
  refine nx_call (vx_runS (As := [.int x1, .int (σ 7 11)]) (rest := []) ⟨hx, hb, hml, hown, hts⟩ (m_X3_needKnown l hl9 zk H.size x1 (σ 7 11)) (cwS 2 hts (gS k_263 k_264 k_20 k_265) rfl rfl rfl (by decide +kernel) ⟨Nat.le_of_ble_eq_true rfl, Nat.le_of_ble_eq_true rfl⟩) (pn_need hz hS hA) rfl rfl hl.1 rfl (lv_room (Nat.le_of_ble_eq_true rfl)) dX3_wash_8 ⟨Nat.le_of_ble_eq_true rfl, Nat.le_of_ble_eq_true rfl⟩) hP hD hS hA (fun c_8_1 => ?_) (fun c_8_1 H1 q9 ce hP1 hS1 hc1 hc2 hc3 => vx_out (fun x hx9 => (hEx x hx9).elim) hlocks hc1 hc2 hc3 (fun t ht hvm => ⟨_, hR.symm.trans (hw.trans (if_neg c_8_1)), ⟨rfl, by rw [ht]; exact hP1, va_K.moved hvm hK, hD⟩, hS1.F ht⟩) hS1.2.2 (Nat.le_of_ble_eq_true rfl) (Nat.le_of_ble_eq_true rfl))
  rw [if_pos c_8_1] at hw
  have hn_2 : vp_in x1 40 := okK_cnt hiv c_8_1
  refine lv_aload_n hx hb dX3_wash_11 rfl (lv_at hl 0 rfl) ?_
  refine va_get (D := (dC, dI)) (ci := 3) (v := .ref (a 7)) (C := RX3) (T := TX3) (N := 6) hx hb hts (iwX3 _) hown hK hP 0 rfl rfl 1 (by decide) (hts _ (kc k_155)) (fun _ h9 => h9) rfl dX3_wash_12 ?_
  refine lv_iload_n hx hb dX3_wash_15 rfl (lv_at hl 1 rfl) ?_
  refine vp_callSi (W.runV (As := [.int x1]) (rest := []) ⟨hx, hb, hml, hown, hts⟩ (m_X2_isScrapped l dC dI cI cZ a σ x1 hn_2) (cwV 1 hts (gV k_372 k_373 k_374 k_22 k_375) rfl rfl rfl (by decide +kernel) ⟨Nat.le_of_ble_eq_true rfl, Nat.le_of_ble_eq_true rfl⟩) (pv_ro (q := (RX2, TX2, 12)) (q0 := 7) (ci := 2) hK hP rfl rfl) rfl rfl hl.1 rfl (lv_room (Nat.le_of_ble_eq_true rfl)) dX3_wash_16 ⟨Nat.le_of_ble_eq_true rfl, Nat.le_of_ble_eq_true rfl⟩) (fun r hrr => ?_)
  subst hrr
  refine lv_if_ne (tgt := 26) hx hb dX3_wash_19 (by decide) (fun c_19_3 => ?_) (fun c_19_3 => ?_)
  · skip
    rw [if_neg c_19_3] at hw
    refine lv_iconst (v := 0) hx hb dX3_wash_26 (by decide) ?_
    exact nx_call (vx_runS (As := [.int (0 : Int32)]) (rest := []) ⟨hx, hb, hml, hown, hts⟩ (m_X3_needState l hl9 zk H.size (0 : Int32)) (cwS 1 hts (gS k_311 k_312 k_20 k_313) rfl rfl rfl (by decide +kernel) ⟨Nat.le_of_ble_eq_true rfl, Nat.le_of_ble_eq_true rfl⟩) (pn_need hz hS hA) rfl rfl hl.1 rfl (lv_room (Nat.le_of_ble_eq_true rfl)) dX3_wash_27 ⟨Nat.le_of_ble_eq_true rfl, Nat.le_of_ble_eq_true rfl⟩) hP hD hS hA (fun c_27_4 => absurd c_27_4 (by decide)) (fun c_27_4 H1 q9 ce hP1 hS1 hc1 hc2 hc3 => vx_out (fun x hx9 => (hEx x hx9).elim) hlocks hc1 hc2 hc3 (fun t ht hvm => ⟨_, hR.symm.trans hw, ⟨rfl, by rw [ht]; exact hP1, va_K.moved hvm hK, hD⟩, hS1.F ht⟩) hS1.2.2 (Nat.le_of_ble_eq_true rfl) (Nat.le_of_ble_eq_true rfl))
  · skip
    rw [if_pos c_19_3] at hw
    refine lv_iconst (v := 1) hx hb dX3_wash_22 (by decide) ?_
    refine lv_goto (tgt := 27) hx hb dX3_wash_23 (by decide) ?_
    refine nx_call (vx_runS (As := [.int (1 : Int32)]) (rest := []) ⟨hx, hb, hml, hown, hts⟩ (m_X3_needState l hl9 zk H.size (1 : Int32)) (cwS 1 hts (gS k_311 k_312 k_20 k_313) rfl rfl rfl (by decide +kernel) ⟨Nat.le_of_ble_eq_true rfl, Nat.le_of_ble_eq_true rfl⟩) (pn_need hz hS hA) rfl rfl hl.1 rfl (lv_room (Nat.le_of_ble_eq_true rfl)) dX3_wash_27 ⟨Nat.le_of_ble_eq_true rfl, Nat.le_of_ble_eq_true rfl⟩) hP hD hS hA (fun c_27_5 => ?_) (fun c_27_5 => absurd (by decide) c_27_5)
    refine lv_aload_n hx hb dX3_wash_30 rfl (lv_at hl 0 rfl) ?_
    refine va_get (D := (dC, dI)) (ci := 3) (v := .ref (a 7)) (C := RX3) (T := TX3) (N := 6) hx hb hts (iwX3 _) hown hK hP 0 rfl rfl 1 (by decide) (hts _ (kc k_155)) (fun _ h9 => h9) rfl dX3_wash_31 ?_
    refine va_get (D := (dC, dI)) (ci := 2) (v := .ref (a 15)) (C := RX2) (T := TX2) (N := 12) hx hb hts (iwX2 _) hown hK hP 7 rfl rfl 7 (by decide) (hts _ (kc k_90)) (fun _ h9 => h9) rfl dX3_wash_34 ?_
    refine lv_iload_n hx hb dX3_wash_37 rfl (lv_at hl 1 rfl) ?_
    refine va_zald (D := (dC, dI)) (f := σ 15) hx hb hK hP 15 1 rfl rfl (i := x1) hn_2 dX3_wash_38 ?_
    refine lv_iload_n hx hb dX3_wash_39 rfl (lv_at hl 2 rfl) ?_
    refine lv_icmp_ne (tgt := 47) hx hb dX3_wash_40 (by decide) (fun c_40_6 => ?_) (fun c_40_6 => ?_)
    · skip
      rw [if_neg c_40_6] at hw
      refine lv_iconst (v := 0) hx hb dX3_wash_47 (by decide) ?_
      exact nx_call (vx_runS (As := [.int (0 : Int32)]) (rest := []) ⟨hx, hb, hml, hown, hts⟩ (m_X3_needState l hl9 zk H.size (0 : Int32)) (cwS 1 hts (gS k_311 k_312 k_20 k_313) rfl rfl rfl (by decide +kernel) ⟨Nat.le_of_ble_eq_true rfl, Nat.le_of_ble_eq_true rfl⟩) (pn_need hz hS hA) rfl rfl hl.1 rfl (lv_room (Nat.le_of_ble_eq_true rfl)) dX3_wash_48 ⟨Nat.le_of_ble_eq_true rfl, Nat.le_of_ble_eq_true rfl⟩) hP hD hS hA (fun c_48_7 => absurd c_48_7 (by decide)) (fun c_48_7 H1 q9 ce hP1 hS1 hc1 hc2 hc3 => vx_out (fun x hx9 => (hEx x hx9).elim) hlocks hc1 hc2 hc3 (fun t ht hvm => ⟨_, hR.symm.trans hw, ⟨rfl, by rw [ht]; exact hP1, va_K.moved hvm hK, hD⟩, hS1.F ht⟩) hS1.2.2 (Nat.le_of_ble_eq_true rfl) (Nat.le_of_ble_eq_true rfl))
    · skip
      rw [if_pos c_40_6] at hw
      refine lv_iconst (v := 1) hx hb dX3_wash_43 (by decide) ?_
      refine lv_goto (tgt := 48) hx hb dX3_wash_44 (by decide) ?_
      refine nx_call (vx_runS (As := [.int (1 : Int32)]) (rest := []) ⟨hx, hb, hml, hown, hts⟩ (m_X3_needState l hl9 zk H.size (1 : Int32)) (cwS 1 hts (gS k_311 k_312 k_20 k_313) rfl rfl rfl (by decide +kernel) ⟨Nat.le_of_ble_eq_true rfl, Nat.le_of_ble_eq_true rfl⟩) (pn_need hz hS hA) rfl rfl hl.1 rfl (lv_room (Nat.le_of_ble_eq_true rfl)) dX3_wash_48 ⟨Nat.le_of_ble_eq_true rfl, Nat.le_of_ble_eq_true rfl⟩) hP hD hS hA (fun c_48_8 => ?_) (fun c_48_8 => absurd (by decide) c_48_8)
      refine lv_aload_n hx hb dX3_wash_51 rfl (lv_at hl 0 rfl) ?_
      refine va_get (D := (dC, dI)) (ci := 3) (v := .ref (a 7)) (C := RX3) (T := TX3) (N := 6) hx hb hts (iwX3 _) hown hK hP 0 rfl rfl 1 (by decide) (hts _ (kc k_155)) (fun _ h9 => h9) rfl dX3_wash_52 ?_
      refine va_get (D := (dC, dI)) (ci := 2) (v := .ref (a 15)) (C := RX2) (T := TX2) (N := 12) hx hb hts (iwX2 _) hown hK hP 7 rfl rfl 7 (by decide) (hts _ (kc k_90)) (fun _ h9 => h9) rfl dX3_wash_55 ?_
      refine lv_iload_n hx hb dX3_wash_58 rfl (lv_at hl 1 rfl) ?_
      refine lv_iload_n hx hb dX3_wash_59 rfl (lv_at hl 2 rfl) ?_
      refine lv_if_ne (tgt := 67) hx hb dX3_wash_60 (by decide) (fun c_60_9 => ?_) (fun c_60_9 => ?_)
      · skip
        rw [if_neg c_60_9] at hw
        refine lv_iconst (v := 0) hx hb dX3_wash_67 (by decide) ?_
        refine va_zast (D := (dC, dI)) (f := σ 15) hx hb hK hP hD hS 15 1 rfl rfl (i := x1) (x := (0 : Int32)) hn_2 dX3_wash_68 (fun H locs hP hD hS => ?_)
        obtain ⟨σ_10, eσ_10⟩ : ∃ z : St, z = su σ 15 x1.toNatClampNeg (vp_nar .boolean (0 : Int32)) := ⟨_, rfl⟩
        replace hP := P_cw_15 hP
        replace hD := D_cw_15 hD
        rw [← eσ_10] at hP hD
        replace hw : R = (if x2 = 0 then (let σ_13 : St := su σ_10 14 x1.toNatClampNeg ((σ_10 14 x1.toNatClampNeg) + (1 : Int32)); .ok (σ_13 14 x1.toNatClampNeg, σ_13)) else (.ok (σ_10 14 x1.toNatClampNeg, σ_10))) := by subst eσ_10; exact hw
        have hiv_11 : IV σ_10 := by rw [eσ_10]; exact (iv_suq hiv (by decide))
        refine lv_iload_n hx hb dX3_wash_69 rfl (lv_at hl 2 rfl) ?_
        refine lv_if_ne (tgt := 86) hx hb dX3_wash_70 (by decide) (fun c_70_12 => ?_) (fun c_70_12 => ?_)
        · skip
          rw [if_neg c_70_12] at hw
          refine lv_aload_n hx hb dX3_wash_86 rfl (lv_at hl 0 rfl) ?_
          refine va_get (D := (dC, dI)) (ci := 3) (v := .ref (a 7)) (C := RX3) (T := TX3) (N := 6) hx hb hts (iwX3 _) hown hK hP 0 rfl rfl 1 (by decide) (hts _ (kc k_155)) (fun _ h9 => h9) rfl dX3_wash_87 ?_
          refine va_get (D := (dC, dI)) (ci := 2) (v := .ref (a 14)) (C := RX2) (T := TX2) (N := 12) hx hb hts (iwX2 _) hown hK hP 7 rfl rfl 6 (by decide) (hts _ (kc k_88)) (fun _ h9 => h9) rfl dX3_wash_90 ?_
          refine lv_iload_n hx hb dX3_wash_93 rfl (lv_at hl 1 rfl) ?_
          refine va_iald (D := (dC, dI)) (f := σ_10 14) hx hb hK hP 14 0 rfl rfl (i := x1) hn_2 dX3_wash_94 ?_
          refine vx_ret ?_
          refine W.widen (k := 3) (n := 18) (Nat.le_of_ble_eq_true rfl) (Nat.le_of_ble_eq_true rfl) ?_
          exact W.iret (v := σ_10 14 x1.toNatClampNeg) hx hb hr (fun t ht hW => ⟨⟨σ_10 14 x1.toNatClampNeg, σ_10, rfl, hR.symm.trans hw, by rw [ht]; exact hP, va_K.moved hW.alike hK, hD⟩, hS.F ht⟩) hS.2.2 dX3_wash_95
        · skip
          rw [if_pos c_70_12] at hw
          refine lv_aload_n hx hb dX3_wash_73 rfl (lv_at hl 0 rfl) ?_
          refine va_get (D := (dC, dI)) (ci := 3) (v := .ref (a 7)) (C := RX3) (T := TX3) (N := 6) hx hb hts (iwX3 _) hown hK hP 0 rfl rfl 1 (by decide) (hts _ (kc k_155)) (fun _ h9 => h9) rfl dX3_wash_74 ?_
          refine va_get (D := (dC, dI)) (ci := 2) (v := .ref (a 14)) (C := RX2) (T := TX2) (N := 12) hx hb hts (iwX2 _) hown hK hP 7 rfl rfl 6 (by decide) (hts _ (kc k_88)) (fun _ h9 => h9) rfl dX3_wash_77 ?_
          refine lv_iload_n hx hb dX3_wash_80 rfl (lv_at hl 1 rfl) ?_
          refine lv_dup2_11 hx hb dX3_wash_81 rfl rfl ?_
          refine va_iald (D := (dC, dI)) (f := σ_10 14) hx hb hK hP 14 0 rfl rfl (i := x1) hn_2 dX3_wash_82 ?_
          refine lv_iconst (v := 1) hx hb dX3_wash_83 (by decide) ?_
          refine lv_iadd hx hb dX3_wash_84 ?_
          refine va_iast (D := (dC, dI)) (f := σ_10 14) hx hb hK hP hD hS 14 0 rfl rfl (i := x1) (x := (σ_10 14 x1.toNatClampNeg) + (1 : Int32)) hn_2 dX3_wash_85 (fun H locs hP hD hS => ?_)
          obtain ⟨σ_13, eσ_13⟩ : ∃ z : St, z = su σ_10 14 x1.toNatClampNeg ((σ_10 14 x1.toNatClampNeg) + (1 : Int32)) := ⟨_, rfl⟩
          replace hP := P_cw_14 hP
          replace hD := D_cw_14 hD
          rw [← eσ_13] at hP hD
          replace hw : R = (.ok (σ_13 14 x1.toNatClampNeg, σ_13)) := by subst eσ_13; exact hw
          have hiv_14 : IV σ_13 := by rw [eσ_13]; exact (iv_suq hiv_11 (by decide))
          refine lv_aload_n hx hb dX3_wash_86 rfl (lv_at hl 0 rfl) ?_
          refine va_get (D := (dC, dI)) (ci := 3) (v := .ref (a 7)) (C := RX3) (T := TX3) (N := 6) hx hb hts (iwX3 _) hown hK hP 0 rfl rfl 1 (by decide) (hts _ (kc k_155)) (fun _ h9 => h9) rfl dX3_wash_87 ?_
          refine va_get (D := (dC, dI)) (ci := 2) (v := .ref (a 14)) (C := RX2) (T := TX2) (N := 12) hx hb hts (iwX2 _) hown hK hP 7 rfl rfl 6 (by decide) (hts _ (kc k_88)) (fun _ h9 => h9) rfl dX3_wash_90 ?_
          refine lv_iload_n hx hb dX3_wash_93 rfl (lv_at hl 1 rfl) ?_
          refine va_iald (D := (dC, dI)) (f := σ_13 14) hx hb hK hP 14 0 rfl rfl (i := x1) hn_2 dX3_wash_94 ?_
          refine vx_ret ?_
          refine W.widen (k := 3) (n := 18) (Nat.le_of_ble_eq_true rfl) (Nat.le_of_ble_eq_true rfl) ?_
          exact W.iret (v := σ_13 14 x1.toNatClampNeg) hx hb hr (fun t ht hW => ⟨⟨σ_13 14 x1.toNatClampNeg, σ_13, rfl, hR.symm.trans hw, by rw [ht]; exact hP, va_K.moved hW.alike hK, hD⟩, hS.F ht⟩) hS.2.2 dX3_wash_95
      · skip
        rw [if_pos c_60_9] at hw
        refine lv_iconst (v := 1) hx hb dX3_wash_63 (by decide) ?_
        refine lv_goto (tgt := 68) hx hb dX3_wash_64 (by decide) ?_
        refine va_zast (D := (dC, dI)) (f := σ 15) hx hb hK hP hD hS 15 1 rfl rfl (i := x1) (x := (1 : Int32)) hn_2 dX3_wash_68 (fun H locs hP hD hS => ?_)
        obtain ⟨σ_15, eσ_15⟩ : ∃ z : St, z = su σ 15 x1.toNatClampNeg (vp_nar .boolean (1 : Int32)) := ⟨_, rfl⟩
        replace hP := P_cw_15 hP
        replace hD := D_cw_15 hD
        rw [← eσ_15] at hP hD
        replace hw : R = (if x2 = 0 then (let σ_18 : St := su σ_15 14 x1.toNatClampNeg ((σ_15 14 x1.toNatClampNeg) + (1 : Int32)); .ok (σ_18 14 x1.toNatClampNeg, σ_18)) else (.ok (σ_15 14 x1.toNatClampNeg, σ_15))) := by subst eσ_15; exact hw
        have hiv_16 : IV σ_15 := by rw [eσ_15]; exact (iv_suq hiv (by decide))
        refine lv_iload_n hx hb dX3_wash_69 rfl (lv_at hl 2 rfl) ?_
        refine lv_if_ne (tgt := 86) hx hb dX3_wash_70 (by decide) (fun c_70_17 => ?_) (fun c_70_17 => ?_)
        · skip
          rw [if_neg c_70_17] at hw
          refine lv_aload_n hx hb dX3_wash_86 rfl (lv_at hl 0 rfl) ?_
          refine va_get (D := (dC, dI)) (ci := 3) (v := .ref (a 7)) (C := RX3) (T := TX3) (N := 6) hx hb hts (iwX3 _) hown hK hP 0 rfl rfl 1 (by decide) (hts _ (kc k_155)) (fun _ h9 => h9) rfl dX3_wash_87 ?_
          refine va_get (D := (dC, dI)) (ci := 2) (v := .ref (a 14)) (C := RX2) (T := TX2) (N := 12) hx hb hts (iwX2 _) hown hK hP 7 rfl rfl 6 (by decide) (hts _ (kc k_88)) (fun _ h9 => h9) rfl dX3_wash_90 ?_
          refine lv_iload_n hx hb dX3_wash_93 rfl (lv_at hl 1 rfl) ?_
          refine va_iald (D := (dC, dI)) (f := σ_15 14) hx hb hK hP 14 0 rfl rfl (i := x1) hn_2 dX3_wash_94 ?_
          refine vx_ret ?_
          refine W.widen (k := 3) (n := 18) (Nat.le_of_ble_eq_true rfl) (Nat.le_of_ble_eq_true rfl) ?_
          exact W.iret (v := σ_15 14 x1.toNatClampNeg) hx hb hr (fun t ht hW => ⟨⟨σ_15 14 x1.toNatClampNeg, σ_15, rfl, hR.symm.trans hw, by rw [ht]; exact hP, va_K.moved hW.alike hK, hD⟩, hS.F ht⟩) hS.2.2 dX3_wash_95
        · skip
          rw [if_pos c_70_17] at hw
          refine lv_aload_n hx hb dX3_wash_73 rfl (lv_at hl 0 rfl) ?_
          refine va_get (D := (dC, dI)) (ci := 3) (v := .ref (a 7)) (C := RX3) (T := TX3) (N := 6) hx hb hts (iwX3 _) hown hK hP 0 rfl rfl 1 (by decide) (hts _ (kc k_155)) (fun _ h9 => h9) rfl dX3_wash_74 ?_
          refine va_get (D := (dC, dI)) (ci := 2) (v := .ref (a 14)) (C := RX2) (T := TX2) (N := 12) hx hb hts (iwX2 _) hown hK hP 7 rfl rfl 6 (by decide) (hts _ (kc k_88)) (fun _ h9 => h9) rfl dX3_wash_77 ?_
          refine lv_iload_n hx hb dX3_wash_80 rfl (lv_at hl 1 rfl) ?_
          refine lv_dup2_11 hx hb dX3_wash_81 rfl rfl ?_
          refine va_iald (D := (dC, dI)) (f := σ_15 14) hx hb hK hP 14 0 rfl rfl (i := x1) hn_2 dX3_wash_82 ?_
          refine lv_iconst (v := 1) hx hb dX3_wash_83 (by decide) ?_
          refine lv_iadd hx hb dX3_wash_84 ?_
          refine va_iast (D := (dC, dI)) (f := σ_15 14) hx hb hK hP hD hS 14 0 rfl rfl (i := x1) (x := (σ_15 14 x1.toNatClampNeg) + (1 : Int32)) hn_2 dX3_wash_85 (fun H locs hP hD hS => ?_)
          obtain ⟨σ_18, eσ_18⟩ : ∃ z : St, z = su σ_15 14 x1.toNatClampNeg ((σ_15 14 x1.toNatClampNeg) + (1 : Int32)) := ⟨_, rfl⟩
          replace hP := P_cw_14 hP
          replace hD := D_cw_14 hD
          rw [← eσ_18] at hP hD
          replace hw : R = (.ok (σ_18 14 x1.toNatClampNeg, σ_18)) := by subst eσ_18; exact hw
          have hiv_19 : IV σ_18 := by rw [eσ_18]; exact (iv_suq hiv_16 (by decide))
          refine lv_aload_n hx hb dX3_wash_86 rfl (lv_at hl 0 rfl) ?_
          refine va_get (D := (dC, dI)) (ci := 3) (v := .ref (a 7)) (C := RX3) (T := TX3) (N := 6) hx hb hts (iwX3 _) hown hK hP 0 rfl rfl 1 (by decide) (hts _ (kc k_155)) (fun _ h9 => h9) rfl dX3_wash_87 ?_
          refine va_get (D := (dC, dI)) (ci := 2) (v := .ref (a 14)) (C := RX2) (T := TX2) (N := 12) hx hb hts (iwX2 _) hown hK hP 7 rfl rfl 6 (by decide) (hts _ (kc k_88)) (fun _ h9 => h9) rfl dX3_wash_90 ?_
          refine lv_iload_n hx hb dX3_wash_93 rfl (lv_at hl 1 rfl) ?_
          refine va_iald (D := (dC, dI)) (f := σ_18 14) hx hb hK hP 14 0 rfl rfl (i := x1) hn_2 dX3_wash_94 ?_
          refine vx_ret ?_
          refine W.widen (k := 3) (n := 18) (Nat.le_of_ble_eq_true rfl) (Nat.le_of_ble_eq_true rfl) ?_
          exact W.iret (v := σ_18 14 x1.toNatClampNeg) hx hb hr (fun t ht hW => ⟨⟨σ_18 14 x1.toNatClampNeg, σ_18, rfl, hR.symm.trans hw, by rw [ht]; exact hP, va_K.moved hW.alike hK, hD⟩, hS.F ht⟩) hS.2.2 dX3_wash_95
set_option maxHeartbeats 4000000 in
set_option maxRecDepth 100000 in
theorem m_X3_result (l : Launch) (hl9 : l.stackTraces = false) (dC : Nat → ClassId) (dI : Nat → Nat → Nat) (cI cZ : ClassId) (a : Nat → Nat) (zk : Nat → Nat) (sz : Nat) (σ : St) (x1 : Int32) (x2 : Int32) (x3 : Int32) (hiv : IV σ) : vx_Met l yX3_result wsX3_result ({ frames := 7, cells := 4, slots := 24, locals := 112 }) (pPu dC dI cI cZ a zk sz σ [.ref (a 0), .int x1, .int x2, .int x3]) (va_Qi (fun r σ9 => sp_result σ x1 x2 x3 = .ok (r, σ9)) (bMu dC dI cI cZ a (va_A (cw cI cZ a σ) sz)) (va_A (cw cI cZ a σ) sz)) (vx_X (fun E : String => sp_result σ x1 x2 x3 = .error E) (bXu dC dI cI cZ a (va_A (cw cI cZ a σ) sz) σ) (va_A (cw cI cZ a σ) sz)) 4 24 (va_A (cw cI cZ a σ) sz) := by
  refine vx_ofW (cc := cX3_result) (maxL := 5) (ret := (some .int)) (by decide) rfl ?_
  intro p e s m args below meth c s₁ B hml hEx hv
  obtain ⟨rfl, hsz, hP, hK, hD0, hz⟩ := hv
  have hx := B.exec
  have hb := B.bytes
  have hr := B.returns
  have hts := atoms_spec (ws := wsX3_result) B.pre
  have hown : s.vm.findClass RX3 = some m.cls := findClass_of_methodNamed B.named
  have hlocks := B.notSynchronized
  subst hsz
  have hD := hD0.self (sz := s.heap.size)
  generalize hAe : va_A (cw cI cZ a σ) s.heap.size = A at hD hz ⊢
  have hA : ∀ q : Nat, s.heap.size ≤ q → A q := fun q h => by rw [← hAe]; exact Or.inr h
  clear hAe hD0
  obtain ⟨H, hHe⟩ : ∃ z, z = s.heap := ⟨_, rfl⟩
  obtain ⟨locs, hLe⟩ : ∃ z : List Loc, z = [] := ⟨_, rfl⟩
  have hS : va_S A s.heap H locs := by rw [hHe, hLe]; exact va_S.rf
  have hP : va_P (dC, dI) vwCl (cw cI cZ a σ) H := by rw [hHe]; exact hP
  refine W_ofH hHe hLe ?_
  clear hHe hLe
  have hl := lv_entry ([.ref (a 0), .int x1, .int x2, .int x3]) (n := 5) (Nat.le_of_ble_eq_true rfl)
  rw [lg_entry_eq]
  generalize (lg_sl ([.ref (a 0), .int x1, .int x2, .int x3]) ++ List.replicate (5 - (lg_sl ([.ref (a 0), .int x1, .int x2, .int x3])).length) Slot.unset).toArray = ls at hl ⊢
  have hl : lv_has ls 5 [(0, .ref (a 0)), (1, .int x1), (2, .int x2), (3, .int x3)] := hl
  obtain ⟨R, hR⟩ : ∃ z, z = sp_result σ x1 x2 x3 := ⟨_, rfl⟩
  have hw := hR
  unfold sp_result at hw
  refine lv_iload_n hx hb dX3_result_0 rfl (lv_at hl 1 rfl) ?_
  refine lv_aload_n hx hb dX3_result_1 rfl (lv_at hl 0 rfl) ?_
  refine va_get (D := (dC, dI)) (ci := 3) (v := .ref (a 7)) (C := RX3) (T := TX3) (N := 6) hx hb hts (iwX3 _) hown hK hP 0 rfl rfl 1 (by decide) (hts _ (kc k_155)) (fun _ h9 => h9) rfl dX3_result_2 ?_
  refine va_get (D := (dC, dI)) (ci := 2) (v := .int (σ 7 11)) (C := RX2) (T := TX2) (N := 12) hx hb hts (iwX2 _) hown hK hP 7 rfl rfl 11 (by decide) (hts _ (kc k_97)) (fun _ h9 => h9) rfl dX3_result_5 ?_
  refine nx_call (vx_runS (As := [.int x1, .int (σ 7 11)]) (rest := []) ⟨hx, hb, hml, hown, hts⟩ (m_X3_needKnown l hl9 zk H.size x1 (σ 7 11)) (cwS 2 hts (gS k_263 k_264 k_20 k_265) rfl rfl rfl (by decide +kernel) ⟨Nat.le_of_ble_eq_true rfl, Nat.le_of_ble_eq_true rfl⟩) (pn_need hz hS hA) rfl rfl hl.1 rfl (lv_room (Nat.le_of_ble_eq_true rfl)) dX3_result_8 ⟨Nat.le_of_ble_eq_true rfl, Nat.le_of_ble_eq_true rfl⟩) hP hD hS hA (fun c_8_1 => ?_) (fun c_8_1 H1 q9 ce hP1 hS1 hc1 hc2 hc3 => vx_out (fun x hx9 => (hEx x hx9).elim) hlocks hc1 hc2 hc3 (fun t ht hvm => ⟨_, hR.symm.trans (hw.trans (if_neg c_8_1)), ⟨rfl, by rw [ht]; exact hP1, va_K.moved hvm hK, hD⟩, hS1.F ht⟩) hS1.2.2 (Nat.le_of_ble_eq_true rfl) (Nat.le_of_ble_eq_true rfl))
  rw [if_pos c_8_1] at hw
  have hn_2 : vp_in x1 40 := okK_cnt hiv c_8_1
  refine lv_iload_n hx hb dX3_result_11 rfl (lv_at hl 2 rfl) ?_
  refine lv_iconst (v := 3) hx hb dX3_result_12 (by decide) ?_
  refine nx_call (vx_runS (As := [.int x2, .int (3 : Int32)]) (rest := []) ⟨hx, hb, hml, hown, hts⟩ (m_X3_needKnown l hl9 zk H.size x2 (3 : Int32)) (cwS 2 hts (gS k_263 k_264 k_20 k_265) rfl rfl rfl (by decide +kernel) ⟨Nat.le_of_ble_eq_true rfl, Nat.le_of_ble_eq_true rfl⟩) (pn_need hz hS hA) rfl rfl hl.1 rfl (lv_room (Nat.le_of_ble_eq_true rfl)) dX3_result_13 ⟨Nat.le_of_ble_eq_true rfl, Nat.le_of_ble_eq_true rfl⟩) hP hD hS hA (fun c_13_3 => ?_) (fun c_13_3 H1 q9 ce hP1 hS1 hc1 hc2 hc3 => vx_out (fun x hx9 => (hEx x hx9).elim) hlocks hc1 hc2 hc3 (fun t ht hvm => ⟨_, hR.symm.trans (hw.trans (if_neg c_13_3)), ⟨rfl, by rw [ht]; exact hP1, va_K.moved hvm hK, hD⟩, hS1.F ht⟩) hS1.2.2 (Nat.le_of_ble_eq_true rfl) (Nat.le_of_ble_eq_true rfl))
  rw [if_pos c_13_3] at hw
  have hn_4 : vp_in x2 3 := okK_in c_13_3 (n := 3) (by decide) (by decide)
  refine lv_iload_n hx hb dX3_result_16 rfl (lv_at hl 3 rfl) ?_
  refine lv_iconst (v := 0) hx hb dX3_result_17 (by decide) ?_
  refine lv_sipush (v := 10000) hx hb dX3_result_18 (by decide) ?_
  refine nx_call (vx_runS (As := [.int x3, .int (0 : Int32), .int (10000 : Int32)]) (rest := []) ⟨hx, hb, hml, hown, hts⟩ (m_X3_needRange l hl9 zk H.size x3 (0 : Int32) (10000 : Int32)) (cwS 3 hts (gS k_182 k_183 k_20 k_184) rfl rfl rfl (by decide +kernel) ⟨Nat.le_of_ble_eq_true rfl, Nat.le_of_ble_eq_true rfl⟩) (pn_need hz hS hA) rfl rfl hl.1 rfl (lv_room (Nat.le_of_ble_eq_true rfl)) dX3_result_21 ⟨Nat.le_of_ble_eq_true rfl, Nat.le_of_ble_eq_true rfl⟩) hP hD hS hA (fun c_21_5 => ?_) (fun c_21_5 H1 q9 ce hP1 hS1 hc1 hc2 hc3 => vx_out (fun x hx9 => (hEx x hx9).elim) hlocks hc1 hc2 hc3 (fun t ht hvm => ⟨_, hR.symm.trans (hw.trans (if_neg c_21_5)), ⟨rfl, by rw [ht]; exact hP1, va_K.moved hvm hK, hD⟩, hS1.F ht⟩) hS1.2.2 (Nat.le_of_ble_eq_true rfl) (Nat.le_of_ble_eq_true rfl))
  rw [if_pos c_21_5] at hw
  refine lv_aload_n hx hb dX3_result_24 rfl (lv_at hl 0 rfl) ?_
  refine va_get (D := (dC, dI)) (ci := 3) (v := .ref (a 7)) (C := RX3) (T := TX3) (N := 6) hx hb hts (iwX3 _) hown hK hP 0 rfl rfl 1 (by decide) (hts _ (kc k_155)) (fun _ h9 => h9) rfl dX3_result_25 ?_
  refine lv_iload_n hx hb dX3_result_28 rfl (lv_at hl 1 rfl) ?_
  refine vp_callSi (W.runV (As := [.int x1]) (rest := []) ⟨hx, hb, hml, hown, hts⟩ (m_X2_isScrapped l dC dI cI cZ a σ x1 hn_2) (cwV 1 hts (gV k_372 k_373 k_374 k_22 k_375) rfl rfl rfl (by decide +kernel) ⟨Nat.le_of_ble_eq_true rfl, Nat.le_of_ble_eq_true rfl⟩) (pv_ro (q := (RX2, TX2, 12)) (q0 := 7) (ci := 2) hK hP rfl rfl) rfl rfl hl.1 rfl (lv_room (Nat.le_of_ble_eq_true rfl)) dX3_result_29 ⟨Nat.le_of_ble_eq_true rfl, Nat.le_of_ble_eq_true rfl⟩) (fun r hrr => ?_)
  subst hrr
  refine lv_if_ne (tgt := 39) hx hb dX3_result_32 (by decide) (fun c_32_6 => ?_) (fun c_32_6 => ?_)
  · skip
    rw [if_neg c_32_6] at hw
    refine lv_iconst (v := 0) hx hb dX3_result_39 (by decide) ?_
    exact nx_call (vx_runS (As := [.int (0 : Int32)]) (rest := []) ⟨hx, hb, hml, hown, hts⟩ (m_X3_needState l hl9 zk H.size (0 : Int32)) (cwS 1 hts (gS k_311 k_312 k_20 k_313) rfl rfl rfl (by decide +kernel) ⟨Nat.le_of_ble_eq_true rfl, Nat.le_of_ble_eq_true rfl⟩) (pn_need hz hS hA) rfl rfl hl.1 rfl (lv_room (Nat.le_of_ble_eq_true rfl)) dX3_result_40 ⟨Nat.le_of_ble_eq_true rfl, Nat.le_of_ble_eq_true rfl⟩) hP hD hS hA (fun c_40_7 => absurd c_40_7 (by decide)) (fun c_40_7 H1 q9 ce hP1 hS1 hc1 hc2 hc3 => vx_out (fun x hx9 => (hEx x hx9).elim) hlocks hc1 hc2 hc3 (fun t ht hvm => ⟨_, hR.symm.trans hw, ⟨rfl, by rw [ht]; exact hP1, va_K.moved hvm hK, hD⟩, hS1.F ht⟩) hS1.2.2 (Nat.le_of_ble_eq_true rfl) (Nat.le_of_ble_eq_true rfl))
  · skip
    rw [if_pos c_32_6] at hw
    refine lv_iconst (v := 1) hx hb dX3_result_35 (by decide) ?_
    refine lv_goto (tgt := 40) hx hb dX3_result_36 (by decide) ?_
    refine nx_call (vx_runS (As := [.int (1 : Int32)]) (rest := []) ⟨hx, hb, hml, hown, hts⟩ (m_X3_needState l hl9 zk H.size (1 : Int32)) (cwS 1 hts (gS k_311 k_312 k_20 k_313) rfl rfl rfl (by decide +kernel) ⟨Nat.le_of_ble_eq_true rfl, Nat.le_of_ble_eq_true rfl⟩) (pn_need hz hS hA) rfl rfl hl.1 rfl (lv_room (Nat.le_of_ble_eq_true rfl)) dX3_result_40 ⟨Nat.le_of_ble_eq_true rfl, Nat.le_of_ble_eq_true rfl⟩) hP hD hS hA (fun c_40_8 => ?_) (fun c_40_8 => absurd (by decide) c_40_8)
    refine lv_aload_n hx hb dX3_result_43 rfl (lv_at hl 0 rfl) ?_
    refine va_get (D := (dC, dI)) (ci := 3) (v := .ref (a 1)) (C := RX3) (T := TX3) (N := 6) hx hb hts (iwX3 _) hown hK hP 0 rfl rfl 0 (by decide) (hts _ (kc k_154)) (fun _ h9 => h9) rfl dX3_result_44 ?_
    refine lv_aload_n hx hb dX3_result_47 rfl (lv_at hl 0 rfl) ?_
    refine va_get (D := (dC, dI)) (ci := 3) (v := .ref (a 7)) (C := RX3) (T := TX3) (N := 6) hx hb hts (iwX3 _) hown hK hP 0 rfl rfl 1 (by decide) (hts _ (kc k_155)) (fun _ h9 => h9) rfl dX3_result_48 ?_
    refine va_get (D := (dC, dI)) (ci := 2) (v := .ref (a 8)) (C := RX2) (T := TX2) (N := 12) hx hb hts (iwX2 _) hown hK hP 7 rfl rfl 0 (by decide) (hts _ (kc k_77)) (fun _ h9 => h9) rfl dX3_result_51 ?_
    refine lv_iload_n hx hb dX3_result_54 rfl (lv_at hl 1 rfl) ?_
    refine va_iald (D := (dC, dI)) (f := σ 8) hx hb hK hP 8 0 rfl rfl (i := x1) hn_2 dX3_result_55 ?_
    refine lv_iload_n hx hb dX3_result_56 rfl (lv_at hl 2 rfl) ?_
    refine lv_iload_n hx hb dX3_result_57 rfl (lv_at hl 3 rfl) ?_
    refine vp_callSi (W.runV (As := [.int (σ 8 x1.toNatClampNeg), .int x2, .int x3]) (rest := []) ⟨hx, hb, hml, hown, hts⟩ (m_X0_gradeOf l dC dI cI cZ a σ (σ 8 x1.toNatClampNeg) x2 x3 (iv_k hiv hn_2) hn_4) (cwV 3 hts (gV k_417 k_418 k_419 k_21 k_420) rfl rfl rfl (by decide +kernel) ⟨Nat.le_of_ble_eq_true rfl, Nat.le_of_ble_eq_true rfl⟩) (pv_ro (q := (RX0, TX0, 5)) (q0 := 1) (ci := 0) hK hP rfl rfl) rfl rfl hl.1 rfl (lv_room (Nat.le_of_ble_eq_true rfl)) dX3_result_58 ⟨Nat.le_of_ble_eq_true rfl, Nat.le_of_ble_eq_true rfl⟩) (fun r hrr => ?_)
    subst hrr
    refine lv_istore (lv' := [(4, .int (sp_gradeOf σ (σ 8 x1.toNatClampNeg) x2 x3)), (0, .ref (a 0)), (1, .int x1), (2, .int x2), (3, .int x3)]) hx hb dX3_result_61 hl (by decide) rfl (fun ls hl => ?_)
    refine lv_aload_n hx hb dX3_result_63 rfl (lv_at hl 1 rfl) ?_
    refine va_get (D := (dC, dI)) (ci := 3) (v := .ref (a 7)) (C := RX3) (T := TX3) (N := 6) hx hb hts (iwX3 _) hown hK hP 0 rfl rfl 1 (by decide) (hts _ (kc k_155)) (fun _ h9 => h9) rfl dX3_result_64 ?_
    refine lv_iload_n hx hb dX3_result_67 rfl (lv_at hl 2 rfl) ?_
    refine lv_iload_n hx hb dX3_result_68 rfl (lv_at hl 3 rfl) ?_
    refine lv_iload hx hb dX3_result_69 (lv_at hl 0 rfl) ?_
    refine lv_aload_n hx hb dX3_result_71 rfl (lv_at hl 1 rfl) ?_
    refine va_get (D := (dC, dI)) (ci := 3) (v := .int (σ 0 5)) (C := RX3) (T := TX3) (N := 6) hx hb hts (iwX3 _) hown hK hP 0 rfl rfl 5 (by decide) (hts _ (kc k_159)) (fun _ h9 => h9) rfl dX3_result_72 ?_
    have hFc := fr_all hD hS hA
    refine va_calli (va_runV (As := [.int x1, .int x2, .int (sp_gradeOf σ (σ 8 x1.toNatClampNeg) x2 x3), .int (σ 0 5)]) (rest := []) ⟨hx, hb, hml, hown, hts⟩ (m_X2_enterGrade l dC dI cI cZ a H.size σ x1 x2 (sp_gradeOf σ (σ 8 x1.toNatClampNeg) x2 x3) (σ 0 5) hn_2 hn_4) (cwV 4 hts (gV k_421 k_422 k_423 k_22 k_424) rfl rfl rfl (by decide +kernel) ⟨Nat.le_of_ble_eq_true rfl, Nat.le_of_ble_eq_true rfl⟩) (pv_mu (q := (RX2, TX2, 12)) (q0 := 7) (ci := 2) hK hP hD rfl rfl) rfl rfl hl.1 rfl (lv_room (Nat.le_of_ble_eq_true rfl)) dX3_result_75 ⟨Nat.le_of_ble_eq_true rfl, Nat.le_of_ble_eq_true rfl⟩) hS (fun q _ h => hFc q h) hFc (fun r σ9 t H1 locs ht hvm hw9 hB hz1 hk1 hS => ?_)
    obtain ⟨hP, hK1, hD1⟩ := hB
    rw [ht] at hP
    have hD := hD1.weaken (fun _ _ _ h => hFc _ h)
    clear hFc hD1 hK1
    obtain ⟨rfl, rfl⟩ : r = (sp_enterGrade σ x1 x2 (sp_gradeOf σ (σ 8 x1.toNatClampNeg) x2 x3) (σ 0 5)).1 ∧ σ9 = (sp_enterGrade σ x1 x2 (sp_gradeOf σ (σ 8 x1.toNatClampNeg) x2 x3) (σ 0 5)).2 := ⟨congrArg Prod.fst hw9, congrArg Prod.snd hw9⟩
    generalize H1 = H at hP hS ⊢
    refine vx_ret ?_
    refine W.widen (k := 4) (n := 24) (Nat.le_of_ble_eq_true rfl) (Nat.le_of_ble_eq_true rfl) ?_
    exact W.iret (v := (sp_enterGrade σ x1 x2 (sp_gradeOf σ (σ 8 x1.toNatClampNeg) x2 x3) (σ 0 5)).1) hx hb hr (fun t ht hW => ⟨⟨(sp_enterGrade σ x1 x2 (sp_gradeOf σ (σ 8 x1.toNatClampNeg) x2 x3) (σ 0 5)).1, (sp_enterGrade σ x1 x2 (sp_gradeOf σ (σ 8 x1.toNatClampNeg) x2 x3) (σ 0 5)).2, rfl, hR.symm.trans hw, by rw [ht]; exact hP, va_K.moved hW.alike hK, hD⟩, hS.F ht⟩) hS.2.2 dX3_result_78
set_option maxHeartbeats 4000000 in
set_option maxRecDepth 100000 in
theorem m_X3_load (l : Launch) (hl9 : l.stackTraces = false) (dC : Nat → ClassId) (dI : Nat → Nat → Nat) (cI cZ : ClassId) (a : Nat → Nat) (zk : Nat → Nat) (sz : Nat) (σ : St) (x1 : Int32) (x2 : Int32) (hiv : IV σ) : vx_Met l yX3_load wsX3_load ({ frames := 7, cells := 3, slots := 18, locals := 111 }) (pPu dC dI cI cZ a zk sz σ [.ref (a 0), .int x1, .int x2]) (va_Qv (fun σ9 => sp_load σ x1 x2 = .ok (0, σ9)) (bMu dC dI cI cZ a (va_A (cw cI cZ a σ) sz)) (va_A (cw cI cZ a σ) sz)) (vx_X (fun E : String => sp_load σ x1 x2 = .error E) (bXu dC dI cI cZ a (va_A (cw cI cZ a σ) sz) σ) (va_A (cw cI cZ a σ) sz)) 3 18 (va_A (cw cI cZ a σ) sz) := by
  refine vx_ofW (cc := cX3_load) (maxL := 3) (ret := none) (by decide) rfl ?_
  intro p e s m args below meth c s₁ B hml hEx hv
  obtain ⟨rfl, hsz, hP, hK, hD0, hz⟩ := hv
  have hx := B.exec
  have hb := B.bytes
  have hr := B.returns
  have hts := atoms_spec (ws := wsX3_load) B.pre
  have hown : s.vm.findClass RX3 = some m.cls := findClass_of_methodNamed B.named
  have hlocks := B.notSynchronized
  subst hsz
  have hD := hD0.self (sz := s.heap.size)
  generalize hAe : va_A (cw cI cZ a σ) s.heap.size = A at hD hz ⊢
  have hA : ∀ q : Nat, s.heap.size ≤ q → A q := fun q h => by rw [← hAe]; exact Or.inr h
  clear hAe hD0
  obtain ⟨H, hHe⟩ : ∃ z, z = s.heap := ⟨_, rfl⟩
  obtain ⟨locs, hLe⟩ : ∃ z : List Loc, z = [] := ⟨_, rfl⟩
  have hS : va_S A s.heap H locs := by rw [hHe, hLe]; exact va_S.rf
  have hP : va_P (dC, dI) vwCl (cw cI cZ a σ) H := by rw [hHe]; exact hP
  refine W_ofH hHe hLe ?_
  clear hHe hLe
  have hl := lv_entry ([.ref (a 0), .int x1, .int x2]) (n := 3) (Nat.le_of_ble_eq_true rfl)
  rw [lg_entry_eq]
  generalize (lg_sl ([.ref (a 0), .int x1, .int x2]) ++ List.replicate (3 - (lg_sl ([.ref (a 0), .int x1, .int x2])).length) Slot.unset).toArray = ls at hl ⊢
  have hl : lv_has ls 3 [(0, .ref (a 0)), (1, .int x1), (2, .int x2)] := hl
  obtain ⟨R, hR⟩ : ∃ z, z = sp_load σ x1 x2 := ⟨_, rfl⟩
  have hw := hR
  unfold sp_load at hw
  refine lv_iload_n hx hb dX3_load_0 rfl (lv_at hl 1 rfl) ?_
  refine lv_aload_n hx hb dX3_load_1 rfl (lv_at hl 0 rfl) ?_
  refine va_get (D := (dC, dI)) (ci := 3) (v := .ref (a 7)) (C := RX3) (T := TX3) (N := 6) hx hb hts (iwX3 _) hown hK hP 0 rfl rfl 1 (by decide) (hts _ (kc k_155)) (fun _ h9 => h9) rfl dX3_load_2 ?_
  refine va_get (D := (dC, dI)) (ci := 2) (v := .int (σ 7 11)) (C := RX2) (T := TX2) (N := 12) hx hb hts (iwX2 _) hown hK hP 7 rfl rfl 11 (by decide) (hts _ (kc k_97)) (fun _ h9 => h9) rfl dX3_load_5 ?_
  refine nx_call (vx_runS (As := [.int x1, .int (σ 7 11)]) (rest := []) ⟨hx, hb, hml, hown, hts⟩ (m_X3_needKnown l hl9 zk H.size x1 (σ 7 11)) (cwS 2 hts (gS k_263 k_264 k_20 k_265) rfl rfl rfl (by decide +kernel) ⟨Nat.le_of_ble_eq_true rfl, Nat.le_of_ble_eq_true rfl⟩) (pn_need hz hS hA) rfl rfl hl.1 rfl (lv_room (Nat.le_of_ble_eq_true rfl)) dX3_load_8 ⟨Nat.le_of_ble_eq_true rfl, Nat.le_of_ble_eq_true rfl⟩) hP hD hS hA (fun c_8_1 => ?_) (fun c_8_1 H1 q9 ce hP1 hS1 hc1 hc2 hc3 => vx_out (fun x hx9 => (hEx x hx9).elim) hlocks hc1 hc2 hc3 (fun t ht hvm => ⟨_, hR.symm.trans (hw.trans (if_neg c_8_1)), ⟨rfl, by rw [ht]; exact hP1, va_K.moved hvm hK, hD⟩, hS1.F ht⟩) hS1.2.2 (Nat.le_of_ble_eq_true rfl) (Nat.le_of_ble_eq_true rfl))
  rw [if_pos c_8_1] at hw
  have hn_2 : vp_in x1 40 := okK_cnt hiv c_8_1
  refine lv_iload_n hx hb dX3_load_11 rfl (lv_at hl 2 rfl) ?_
  refine lv_bipush (v := 20) hx hb dX3_load_12 (by decide) ?_
  refine nx_call (vx_runS (As := [.int x2, .int (20 : Int32)]) (rest := []) ⟨hx, hb, hml, hown, hts⟩ (m_X3_needKnown l hl9 zk H.size x2 (20 : Int32)) (cwS 2 hts (gS k_263 k_264 k_20 k_265) rfl rfl rfl (by decide +kernel) ⟨Nat.le_of_ble_eq_true rfl, Nat.le_of_ble_eq_true rfl⟩) (pn_need hz hS hA) rfl rfl hl.1 rfl (lv_room (Nat.le_of_ble_eq_true rfl)) dX3_load_14 ⟨Nat.le_of_ble_eq_true rfl, Nat.le_of_ble_eq_true rfl⟩) hP hD hS hA (fun c_14_3 => ?_) (fun c_14_3 H1 q9 ce hP1 hS1 hc1 hc2 hc3 => vx_out (fun x hx9 => (hEx x hx9).elim) hlocks hc1 hc2 hc3 (fun t ht hvm => ⟨_, hR.symm.trans (hw.trans (if_neg c_14_3)), ⟨rfl, by rw [ht]; exact hP1, va_K.moved hvm hK, hD⟩, hS1.F ht⟩) hS1.2.2 (Nat.le_of_ble_eq_true rfl) (Nat.le_of_ble_eq_true rfl))
  rw [if_pos c_14_3] at hw
  have hn_4 : vp_in x2 20 := okK_in c_14_3 (n := 20) (by decide) (by decide)
  refine lv_aload_n hx hb dX3_load_17 rfl (lv_at hl 0 rfl) ?_
  refine lv_iload_n hx hb dX3_load_18 rfl (lv_at hl 1 rfl) ?_
  refine vp_callSi (W.runV (As := [.int x1]) (rest := []) ⟨hx, hb, hml, hown, hts⟩ (m_X3_reasonBarred l dC dI cI cZ a σ x1 hiv hn_2) (cwV 1 hts (gV k_368 k_370 k_1 k_20 k_371) rfl rfl rfl (by decide +kernel) ⟨Nat.le_of_ble_eq_true rfl, Nat.le_of_ble_eq_true rfl⟩) (pv_ro (q := (RX3, TX3, 6)) (q0 := 0) (ci := 3) hK hP rfl rfl) rfl rfl hl.1 rfl (lv_room (Nat.le_of_ble_eq_true rfl)) dX3_load_19 ⟨Nat.le_of_ble_eq_true rfl, Nat.le_of_ble_eq_true rfl⟩) (fun r hrr => ?_)
  subst hrr
  refine lv_if_ne (tgt := 29) hx hb dX3_load_22 (by decide) (fun c_22_5 => ?_) (fun c_22_5 => ?_)
  · skip
    rw [if_neg c_22_5] at hw
    refine lv_iconst (v := 0) hx hb dX3_load_29 (by decide) ?_
    exact nx_call (vx_runS (As := [.int (0 : Int32)]) (rest := []) ⟨hx, hb, hml, hown, hts⟩ (m_X3_needState l hl9 zk H.size (0 : Int32)) (cwS 1 hts (gS k_311 k_312 k_20 k_313) rfl rfl rfl (by decide +kernel) ⟨Nat.le_of_ble_eq_true rfl, Nat.le_of_ble_eq_true rfl⟩) (pn_need hz hS hA) rfl rfl hl.1 rfl (lv_room (Nat.le_of_ble_eq_true rfl)) dX3_load_30 ⟨Nat.le_of_ble_eq_true rfl, Nat.le_of_ble_eq_true rfl⟩) hP hD hS hA (fun c_30_6 => absurd c_30_6 (by decide)) (fun c_30_6 H1 q9 ce hP1 hS1 hc1 hc2 hc3 => vx_out (fun x hx9 => (hEx x hx9).elim) hlocks hc1 hc2 hc3 (fun t ht hvm => ⟨_, hR.symm.trans hw, ⟨rfl, by rw [ht]; exact hP1, va_K.moved hvm hK, hD⟩, hS1.F ht⟩) hS1.2.2 (Nat.le_of_ble_eq_true rfl) (Nat.le_of_ble_eq_true rfl))
  · skip
    rw [if_pos c_22_5] at hw
    refine lv_iconst (v := 1) hx hb dX3_load_25 (by decide) ?_
    refine lv_goto (tgt := 30) hx hb dX3_load_26 (by decide) ?_
    refine nx_call (vx_runS (As := [.int (1 : Int32)]) (rest := []) ⟨hx, hb, hml, hown, hts⟩ (m_X3_needState l hl9 zk H.size (1 : Int32)) (cwS 1 hts (gS k_311 k_312 k_20 k_313) rfl rfl rfl (by decide +kernel) ⟨Nat.le_of_ble_eq_true rfl, Nat.le_of_ble_eq_true rfl⟩) (pn_need hz hS hA) rfl rfl hl.1 rfl (lv_room (Nat.le_of_ble_eq_true rfl)) dX3_load_30 ⟨Nat.le_of_ble_eq_true rfl, Nat.le_of_ble_eq_true rfl⟩) hP hD hS hA (fun c_30_7 => ?_) (fun c_30_7 => absurd (by decide) c_30_7)
    refine lv_aload_n hx hb dX3_load_33 rfl (lv_at hl 0 rfl) ?_
    refine va_get (D := (dC, dI)) (ci := 3) (v := .ref (a 7)) (C := RX3) (T := TX3) (N := 6) hx hb hts (iwX3 _) hown hK hP 0 rfl rfl 1 (by decide) (hts _ (kc k_155)) (fun _ h9 => h9) rfl dX3_load_34 ?_
    refine va_get (D := (dC, dI)) (ci := 2) (v := .ref (a 11)) (C := RX2) (T := TX2) (N := 12) hx hb hts (iwX2 _) hown hK hP 7 rfl rfl 3 (by decide) (hts _ (kc k_82)) (fun _ h9 => h9) rfl dX3_load_37 ?_
    refine lv_iload_n hx hb dX3_load_40 rfl (lv_at hl 1 rfl) ?_
    refine lv_iload_n hx hb dX3_load_41 rfl (lv_at hl 2 rfl) ?_
    refine va_iast (D := (dC, dI)) (f := σ 11) hx hb hK hP hD hS 11 0 rfl rfl (i := x1) (x := x2) hn_2 dX3_load_42 (fun H locs hP hD hS => ?_)
    obtain ⟨σ_8, eσ_8⟩ : ∃ z : St, z = su σ 11 x1.toNatClampNeg x2 := ⟨_, rfl⟩
    replace hP := P_cw_11 hP
    replace hD := D_cw_11 hD
    rw [← eσ_8] at hP hD
    replace hw : R = (.ok (0, σ_8)) := by subst eσ_8; exact hw
    have hiv_9 : IV σ_8 := by rw [eσ_8]; exact (iv_suq hiv (by decide))
    refine vx_ret ?_
    refine W.widen (k := 3) (n := 18) (Nat.le_of_ble_eq_true rfl) (Nat.le_of_ble_eq_true rfl) ?_
    exact W.vret hx hb hr (fun t ht hW => ⟨⟨σ_8, rfl, hR.symm.trans hw, by rw [ht]; exact hP, va_K.moved hW.alike hK, hD⟩, hS.F ht⟩) hS.2.2 dX3_load_43
set_option maxHeartbeats 4000000 in
set_option maxRecDepth 100000 in
theorem m_X3_recall (l : Launch) (hl9 : l.stackTraces = false) (dC : Nat → ClassId) (dI : Nat → Nat → Nat) (cI cZ : ClassId) (a : Nat → Nat) (zk : Nat → Nat) (sz : Nat) (σ : St) (x1 : Int32) (x2 : Int32) (hiv : IV σ) : vx_Met l yX3_recall wsX3_recall ({ frames := 7, cells := 2, slots := 12, locals := 111 }) (pPu dC dI cI cZ a zk sz σ [.ref (a 0), .int x1, .int x2]) (va_Qi (fun r σ9 => sp_recall σ x1 x2 = .ok (r, σ9)) (bMu dC dI cI cZ a (va_A (cw cI cZ a σ) sz)) (va_A (cw cI cZ a σ) sz)) (vx_X (fun E : String => sp_recall σ x1 x2 = .error E) (bXu dC dI cI cZ a (va_A (cw cI cZ a σ) sz) σ) (va_A (cw cI cZ a σ) sz)) 2 12 (va_A (cw cI cZ a σ) sz) := by
  refine vx_ofW (cc := cX3_recall) (maxL := 3) (ret := (some .int)) (by decide) rfl ?_
  intro p e s m args below meth c s₁ B hml hEx hv
  obtain ⟨rfl, hsz, hP, hK, hD0, hz⟩ := hv
  have hx := B.exec
  have hb := B.bytes
  have hr := B.returns
  have hts := atoms_spec (ws := wsX3_recall) B.pre
  have hown : s.vm.findClass RX3 = some m.cls := findClass_of_methodNamed B.named
  have hlocks := B.notSynchronized
  subst hsz
  have hD := hD0.self (sz := s.heap.size)
  generalize hAe : va_A (cw cI cZ a σ) s.heap.size = A at hD hz ⊢
  have hA : ∀ q : Nat, s.heap.size ≤ q → A q := fun q h => by rw [← hAe]; exact Or.inr h
  clear hAe hD0
  obtain ⟨H, hHe⟩ : ∃ z, z = s.heap := ⟨_, rfl⟩
  obtain ⟨locs, hLe⟩ : ∃ z : List Loc, z = [] := ⟨_, rfl⟩
  have hS : va_S A s.heap H locs := by rw [hHe, hLe]; exact va_S.rf
  have hP : va_P (dC, dI) vwCl (cw cI cZ a σ) H := by rw [hHe]; exact hP
  refine W_ofH hHe hLe ?_
  clear hHe hLe
  have hl := lv_entry ([.ref (a 0), .int x1, .int x2]) (n := 3) (Nat.le_of_ble_eq_true rfl)
  rw [lg_entry_eq]
  generalize (lg_sl ([.ref (a 0), .int x1, .int x2]) ++ List.replicate (3 - (lg_sl ([.ref (a 0), .int x1, .int x2])).length) Slot.unset).toArray = ls at hl ⊢
  have hl : lv_has ls 3 [(0, .ref (a 0)), (1, .int x1), (2, .int x2)] := hl
  obtain ⟨R, hR⟩ : ∃ z, z = sp_recall σ x1 x2 := ⟨_, rfl⟩
  have hw := hR
  unfold sp_recall at hw
  refine lv_iload_n hx hb dX3_recall_0 rfl (lv_at hl 1 rfl) ?_
  refine lv_bipush (v := 10) hx hb dX3_recall_1 (by decide) ?_
  refine nx_call (vx_runS (As := [.int x1, .int (10 : Int32)]) (rest := []) ⟨hx, hb, hml, hown, hts⟩ (m_X3_needKnown l hl9 zk H.size x1 (10 : Int32)) (cwS 2 hts (gS k_263 k_264 k_20 k_265) rfl rfl rfl (by decide +kernel) ⟨Nat.le_of_ble_eq_true rfl, Nat.le_of_ble_eq_true rfl⟩) (pn_need hz hS hA) rfl rfl hl.1 rfl (lv_room (Nat.le_of_ble_eq_true rfl)) dX3_recall_3 ⟨Nat.le_of_ble_eq_true rfl, Nat.le_of_ble_eq_true rfl⟩) hP hD hS hA (fun c_3_1 => ?_) (fun c_3_1 H1 q9 ce hP1 hS1 hc1 hc2 hc3 => vx_out (fun x hx9 => (hEx x hx9).elim) hlocks hc1 hc2 hc3 (fun t ht hvm => ⟨_, hR.symm.trans (hw.trans (if_neg c_3_1)), ⟨rfl, by rw [ht]; exact hP1, va_K.moved hvm hK, hD⟩, hS1.F ht⟩) hS1.2.2 (Nat.le_of_ble_eq_true rfl) (Nat.le_of_ble_eq_true rfl))
  rw [if_pos c_3_1] at hw
  have hn_2 : vp_in x1 10 := okK_in c_3_1 (n := 10) (by decide) (by decide)
  refine lv_aload_n hx hb dX3_recall_6 rfl (lv_at hl 0 rfl) ?_
  refine va_get (D := (dC, dI)) (ci := 3) (v := .ref (a 25)) (C := RX3) (T := TX3) (N := 6) hx hb hts (iwX3 _) hown hK hP 0 rfl rfl 3 (by decide) (hts _ (kc k_157)) (fun _ h9 => h9) rfl dX3_recall_7 ?_
  refine lv_iload_n hx hb dX3_recall_10 rfl (lv_at hl 1 rfl) ?_
  refine va_zald (D := (dC, dI)) (f := σ 25) hx hb hK hP 25 1 rfl rfl (i := x1) hn_2 dX3_recall_11 ?_
  refine lv_iload_n hx hb dX3_recall_12 rfl (lv_at hl 2 rfl) ?_
  refine lv_icmp_eq (tgt := 20) hx hb dX3_recall_13 (by decide) (fun c_13_3 => ?_) (fun c_13_3 => ?_)
  · skip
    rw [if_pos c_13_3] at hw
    refine lv_iconst (v := 0) hx hb dX3_recall_20 (by decide) ?_
    exact nx_call (vx_runS (As := [.int (0 : Int32)]) (rest := []) ⟨hx, hb, hml, hown, hts⟩ (m_X3_needState l hl9 zk H.size (0 : Int32)) (cwS 1 hts (gS k_311 k_312 k_20 k_313) rfl rfl rfl (by decide +kernel) ⟨Nat.le_of_ble_eq_true rfl, Nat.le_of_ble_eq_true rfl⟩) (pn_need hz hS hA) rfl rfl hl.1 rfl (lv_room (Nat.le_of_ble_eq_true rfl)) dX3_recall_21 ⟨Nat.le_of_ble_eq_true rfl, Nat.le_of_ble_eq_true rfl⟩) hP hD hS hA (fun c_21_4 => absurd c_21_4 (by decide)) (fun c_21_4 H1 q9 ce hP1 hS1 hc1 hc2 hc3 => vx_out (fun x hx9 => (hEx x hx9).elim) hlocks hc1 hc2 hc3 (fun t ht hvm => ⟨_, hR.symm.trans hw, ⟨rfl, by rw [ht]; exact hP1, va_K.moved hvm hK, hD⟩, hS1.F ht⟩) hS1.2.2 (Nat.le_of_ble_eq_true rfl) (Nat.le_of_ble_eq_true rfl))
  · skip
    rw [if_neg c_13_3] at hw
    refine lv_iconst (v := 1) hx hb dX3_recall_16 (by decide) ?_
    refine lv_goto (tgt := 21) hx hb dX3_recall_17 (by decide) ?_
    refine nx_call (vx_runS (As := [.int (1 : Int32)]) (rest := []) ⟨hx, hb, hml, hown, hts⟩ (m_X3_needState l hl9 zk H.size (1 : Int32)) (cwS 1 hts (gS k_311 k_312 k_20 k_313) rfl rfl rfl (by decide +kernel) ⟨Nat.le_of_ble_eq_true rfl, Nat.le_of_ble_eq_true rfl⟩) (pn_need hz hS hA) rfl rfl hl.1 rfl (lv_room (Nat.le_of_ble_eq_true rfl)) dX3_recall_21 ⟨Nat.le_of_ble_eq_true rfl, Nat.le_of_ble_eq_true rfl⟩) hP hD hS hA (fun c_21_5 => ?_) (fun c_21_5 => absurd (by decide) c_21_5)
    refine lv_aload_n hx hb dX3_recall_24 rfl (lv_at hl 0 rfl) ?_
    refine va_get (D := (dC, dI)) (ci := 3) (v := .ref (a 25)) (C := RX3) (T := TX3) (N := 6) hx hb hts (iwX3 _) hown hK hP 0 rfl rfl 3 (by decide) (hts _ (kc k_157)) (fun _ h9 => h9) rfl dX3_recall_25 ?_
    refine lv_iload_n hx hb dX3_recall_28 rfl (lv_at hl 1 rfl) ?_
    refine lv_iload_n hx hb dX3_recall_29 rfl (lv_at hl 2 rfl) ?_
    refine va_zast (D := (dC, dI)) (f := σ 25) hx hb hK hP hD hS 25 1 rfl rfl (i := x1) (x := x2) hn_2 dX3_recall_30 (fun H locs hP hD hS => ?_)
    obtain ⟨σ_6, eσ_6⟩ : ∃ z : St, z = su σ 25 x1.toNatClampNeg (vp_nar .boolean x2) := ⟨_, rfl⟩
    replace hP := P_cw_25 hP
    replace hD := D_cw_25 hD
    rw [← eσ_6] at hP hD
    replace hw : R = (.ok (sp_countLeftOf σ_6 x1, σ_6)) := by subst eσ_6; exact hw
    have hiv_7 : IV σ_6 := by rw [eσ_6]; exact (iv_suq hiv (by decide))
    refine lv_aload_n hx hb dX3_recall_31 rfl (lv_at hl 0 rfl) ?_
    refine va_get (D := (dC, dI)) (ci := 3) (v := .ref (a 7)) (C := RX3) (T := TX3) (N := 6) hx hb hts (iwX3 _) hown hK hP 0 rfl rfl 1 (by decide) (hts _ (kc k_155)) (fun _ h9 => h9) rfl dX3_recall_32 ?_
    refine lv_iload_n hx hb dX3_recall_35 rfl (lv_at hl 1 rfl) ?_
    refine vp_callSi (W.runV (As := [.int x1]) (rest := []) ⟨hx, hb, hml, hown, hts⟩ (m_X2_countLeftOf l dC dI cI cZ a σ_6 x1 hiv_7) (cwV 1 hts (gV k_439 k_440 k_441 k_22 k_442) rfl rfl rfl (by decide +kernel) ⟨Nat.le_of_ble_eq_true rfl, Nat.le_of_ble_eq_true rfl⟩) (pv_ro (q := (RX2, TX2, 12)) (q0 := 7) (ci := 2) hK hP rfl rfl) rfl rfl hl.1 rfl (lv_room (Nat.le_of_ble_eq_true rfl)) dX3_recall_36 ⟨Nat.le_of_ble_eq_true rfl, Nat.le_of_ble_eq_true rfl⟩) (fun r hrr => ?_)
    subst hrr
    refine vx_ret ?_
    refine W.widen (k := 2) (n := 12) (Nat.le_of_ble_eq_true rfl) (Nat.le_of_ble_eq_true rfl) ?_
    exact W.iret (v := sp_countLeftOf σ_6 x1) hx hb hr (fun t ht hW => ⟨⟨sp_countLeftOf σ_6 x1, σ_6, rfl, hR.symm.trans hw, by rw [ht]; exact hP, va_K.moved hW.alike hK, hD⟩, hS.F ht⟩) hS.2.2 dX3_recall_39
set_option maxHeartbeats 4000000 in
set_option maxRecDepth 100000 in
theorem m_X3_recalled (l : Launch) (hl9 : l.stackTraces = false) (dC : Nat → ClassId) (dI : Nat → Nat → Nat) (cI cZ : ClassId) (a : Nat → Nat) (zk : Nat → Nat) (sz : Nat) (σ : St) (x1 : Int32) (x2 : Int32) (hiv : IV σ) : vx_Met l yX3_recalled wsX3_recalled ({ frames := 7, cells := 2, slots := 12, locals := 112 }) (pPu dC dI cI cZ a zk sz σ [.ref (a 0), .int x1, .int x2]) (va_Qi (fun r σ9 => sp_recalled σ x1 x2 = .ok (r, σ9)) (bMu dC dI cI cZ a (va_A (cw cI cZ a σ) sz)) (va_A (cw cI cZ a σ) sz)) (vx_X (fun E : String => sp_recalled σ x1 x2 = .error E) (bXu dC dI cI cZ a (va_A (cw cI cZ a σ) sz) σ) (va_A (cw cI cZ a σ) sz)) 2 12 (va_A (cw cI cZ a σ) sz) := by
  refine vx_ofW (cc := cX3_recalled) (maxL := 4) (ret := (some .int)) (by decide) rfl ?_
  intro p e s m args below meth c s₁ B hml hEx hv
  obtain ⟨rfl, hsz, hP, hK, hD0, hz⟩ := hv
  have hx := B.exec
  have hb := B.bytes
  have hr := B.returns
  have hts := atoms_spec (ws := wsX3_recalled) B.pre
  have hown : s.vm.findClass RX3 = some m.cls := findClass_of_methodNamed B.named
  have hlocks := B.notSynchronized
  subst hsz
  have hD := hD0.self (sz := s.heap.size)
  generalize hAe : va_A (cw cI cZ a σ) s.heap.size = A at hD hz ⊢
  have hA : ∀ q : Nat, s.heap.size ≤ q → A q := fun q h => by rw [← hAe]; exact Or.inr h
  clear hAe hD0
  obtain ⟨H, hHe⟩ : ∃ z, z = s.heap := ⟨_, rfl⟩
  obtain ⟨locs, hLe⟩ : ∃ z : List Loc, z = [] := ⟨_, rfl⟩
  have hS : va_S A s.heap H locs := by rw [hHe, hLe]; exact va_S.rf
  have hP : va_P (dC, dI) vwCl (cw cI cZ a σ) H := by rw [hHe]; exact hP
  refine W_ofH hHe hLe ?_
  clear hHe hLe
  have hl := lv_entry ([.ref (a 0), .int x1, .int x2]) (n := 4) (Nat.le_of_ble_eq_true rfl)
  rw [lg_entry_eq]
  generalize (lg_sl ([.ref (a 0), .int x1, .int x2]) ++ List.replicate (4 - (lg_sl ([.ref (a 0), .int x1, .int x2])).length) Slot.unset).toArray = ls at hl ⊢
  have hl : lv_has ls 4 [(0, .ref (a 0)), (1, .int x1), (2, .int x2)] := hl
  obtain ⟨R, hR⟩ : ∃ z, z = sp_recalled σ x1 x2 := ⟨_, rfl⟩
  have hw := hR
  unfold sp_recalled at hw
  refine lv_iload_n hx hb dX3_recalled_0 rfl (lv_at hl 1 rfl) ?_
  refine lv_bipush (v := 10) hx hb dX3_recalled_1 (by decide) ?_
  refine nx_call (vx_runS (As := [.int x1, .int (10 : Int32)]) (rest := []) ⟨hx, hb, hml, hown, hts⟩ (m_X3_needKnown l hl9 zk H.size x1 (10 : Int32)) (cwS 2 hts (gS k_263 k_264 k_20 k_265) rfl rfl rfl (by decide +kernel) ⟨Nat.le_of_ble_eq_true rfl, Nat.le_of_ble_eq_true rfl⟩) (pn_need hz hS hA) rfl rfl hl.1 rfl (lv_room (Nat.le_of_ble_eq_true rfl)) dX3_recalled_3 ⟨Nat.le_of_ble_eq_true rfl, Nat.le_of_ble_eq_true rfl⟩) hP hD hS hA (fun c_3_1 => ?_) (fun c_3_1 H1 q9 ce hP1 hS1 hc1 hc2 hc3 => vx_out (fun x hx9 => (hEx x hx9).elim) hlocks hc1 hc2 hc3 (fun t ht hvm => ⟨_, hR.symm.trans (hw.trans (if_neg c_3_1)), ⟨rfl, by rw [ht]; exact hP1, va_K.moved hvm hK, hD⟩, hS1.F ht⟩) hS1.2.2 (Nat.le_of_ble_eq_true rfl) (Nat.le_of_ble_eq_true rfl))
  rw [if_pos c_3_1] at hw
  have hn_2 : vp_in x1 10 := okK_in c_3_1 (n := 10) (by decide) (by decide)
  refine lv_iload_n hx hb dX3_recalled_6 rfl (lv_at hl 2 rfl) ?_
  refine lv_iconst (v := 0) hx hb dX3_recalled_7 (by decide) ?_
  refine lv_ldc (own := RX3) (v := 2147483647) hx hb hown (hts _ (kc k_380)) dX3_recalled_8 ?_
  refine nx_call (vx_runS (As := [.int x2, .int (0 : Int32), .int (2147483647 : Int32)]) (rest := []) ⟨hx, hb, hml, hown, hts⟩ (m_X3_needRange l hl9 zk H.size x2 (0 : Int32) (2147483647 : Int32)) (cwS 3 hts (gS k_182 k_183 k_20 k_184) rfl rfl rfl (by decide +kernel) ⟨Nat.le_of_ble_eq_true rfl, Nat.le_of_ble_eq_true rfl⟩) (pn_need hz hS hA) rfl rfl hl.1 rfl (lv_room (Nat.le_of_ble_eq_true rfl)) dX3_recalled_10 ⟨Nat.le_of_ble_eq_true rfl, Nat.le_of_ble_eq_true rfl⟩) hP hD hS hA (fun c_10_3 => ?_) (fun c_10_3 H1 q9 ce hP1 hS1 hc1 hc2 hc3 => vx_out (fun x hx9 => (hEx x hx9).elim) hlocks hc1 hc2 hc3 (fun t ht hvm => ⟨_, hR.symm.trans (hw.trans (if_neg c_10_3)), ⟨rfl, by rw [ht]; exact hP1, va_K.moved hvm hK, hD⟩, hS1.F ht⟩) hS1.2.2 (Nat.le_of_ble_eq_true rfl) (Nat.le_of_ble_eq_true rfl))
  rw [if_pos c_10_3] at hw
  refine lv_aload_n hx hb dX3_recalled_13 rfl (lv_at hl 0 rfl) ?_
  refine va_get (D := (dC, dI)) (ci := 3) (v := .ref (a 7)) (C := RX3) (T := TX3) (N := 6) hx hb hts (iwX3 _) hown hK hP 0 rfl rfl 1 (by decide) (hts _ (kc k_155)) (fun _ h9 => h9) rfl dX3_recalled_14 ?_
  refine lv_iload_n hx hb dX3_recalled_17 rfl (lv_at hl 1 rfl) ?_
  refine lv_iload_n hx hb dX3_recalled_18 rfl (lv_at hl 2 rfl) ?_
  refine vp_callSi (W.runV (As := [.int x1, .int x2]) (rest := []) ⟨hx, hb, hml, hown, hts⟩ (m_X2_findLeftOf l dC dI cI cZ a σ x1 x2 hiv) (cwV 2 hts (gV k_455 k_456 k_457 k_22 k_458) rfl rfl rfl (by decide +kernel) ⟨Nat.le_of_ble_eq_true rfl, Nat.le_of_ble_eq_true rfl⟩) (pv_ro (q := (RX2, TX2, 12)) (q0 := 7) (ci := 2) hK hP rfl rfl) rfl rfl hl.1 rfl (lv_room (Nat.le_of_ble_eq_true rfl)) dX3_recalled_19 ⟨Nat.le_of_ble_eq_true rfl, Nat.le_of_ble_eq_true rfl⟩) (fun r hrr => ?_)
  subst hrr
  refine lv_istore_n (lv' := [(3, .int (sp_findLeftOf σ x1 x2)), (0, .ref (a 0)), (1, .int x1), (2, .int x2)]) hx hb dX3_recalled_22 rfl hl (by decide) rfl (fun ls hl => ?_)
  refine lv_iload_n hx hb dX3_recalled_23 rfl (lv_at hl 0 rfl) ?_
  refine lv_iconst (v := -1) hx hb dX3_recalled_24 (by decide) ?_
  refine lv_icmp_ne (tgt := 32) hx hb dX3_recalled_25 (by decide) (fun c_25_4 => ?_) (fun c_25_4 => ?_)
  · skip
    rw [if_neg c_25_4] at hw
    have hf_5 : vp_in (sp_findLeftOf σ x1 x2) 40 := find_in hiv c_25_4
    refine lv_bipush (v := 100) hx hb dX3_recalled_32 (by decide) ?_
    refine lv_iload_n hx hb dX3_recalled_34 rfl (lv_at hl 0 rfl) ?_
    refine lv_imul hx hb dX3_recalled_35 ?_
    refine lv_aload_n hx hb dX3_recalled_36 rfl (lv_at hl 1 rfl) ?_
    refine va_get (D := (dC, dI)) (ci := 3) (v := .ref (a 7)) (C := RX3) (T := TX3) (N := 6) hx hb hts (iwX3 _) hown hK hP 0 rfl rfl 1 (by decide) (hts _ (kc k_155)) (fun _ h9 => h9) rfl dX3_recalled_37 ?_
    refine va_get (D := (dC, dI)) (ci := 2) (v := .ref (a 11)) (C := RX2) (T := TX2) (N := 12) hx hb hts (iwX2 _) hown hK hP 7 rfl rfl 3 (by decide) (hts _ (kc k_82)) (fun _ h9 => h9) rfl dX3_recalled_40 ?_
    refine lv_iload_n hx hb dX3_recalled_43 rfl (lv_at hl 0 rfl) ?_
    refine va_iald (D := (dC, dI)) (f := σ 11) hx hb hK hP 11 0 rfl rfl (i := sp_findLeftOf σ x1 x2) hf_5 dX3_recalled_44 ?_
    refine lv_iadd hx hb dX3_recalled_45 ?_
    refine vx_ret ?_
    refine W.widen (k := 2) (n := 12) (Nat.le_of_ble_eq_true rfl) (Nat.le_of_ble_eq_true rfl) ?_
    exact W.iret (v := ((100 : Int32) * (sp_findLeftOf σ x1 x2)) + (σ 11 (sp_findLeftOf σ x1 x2).toNatClampNeg)) hx hb hr (fun t ht hW => ⟨⟨((100 : Int32) * (sp_findLeftOf σ x1 x2)) + (σ 11 (sp_findLeftOf σ x1 x2).toNatClampNeg), σ, rfl, hR.symm.trans hw, by rw [ht]; exact hP, va_K.moved hW.alike hK, hD⟩, hS.F ht⟩) hS.2.2 dX3_recalled_46
  · skip
    rw [if_pos c_25_4] at hw
    refine lv_iconst (v := -1) hx hb dX3_recalled_28 (by decide) ?_
    refine lv_goto (tgt := 46) hx hb dX3_recalled_29 (by decide) ?_
    refine vx_ret ?_
    refine W.widen (k := 2) (n := 12) (Nat.le_of_ble_eq_true rfl) (Nat.le_of_ble_eq_true rfl) ?_
    exact W.iret (v := (-1 : Int32)) hx hb hr (fun t ht hW => ⟨⟨(-1 : Int32), σ, rfl, hR.symm.trans hw, by rw [ht]; exact hP, va_K.moved hW.alike hK, hD⟩, hS.F ht⟩) hS.2.2 dX3_recalled_46
end
section
set_option maxHeartbeats 4000000 in
set_option maxRecDepth 100000 in
theorem m_X3_barred (l : Launch) (hl9 : l.stackTraces = false) (dC : Nat → ClassId) (dI : Nat → Nat → Nat) (cI cZ : ClassId) (a : Nat → Nat) (zk : Nat → Nat) (sz : Nat) (σ : St) (x1 : Int32) (hiv : IV σ) : vx_Met l yX3_barred wsX3_barred ({ frames := 7, cells := 1, slots := 6, locals := 111 }) (pPu dC dI cI cZ a zk sz σ [.ref (a 0), .int x1]) (va_Qi (fun r σ9 => sp_barred σ x1 = .ok (r, σ9)) (bMu dC dI cI cZ a (va_A (cw cI cZ a σ) sz)) (va_A (cw cI cZ a σ) sz)) (vx_X (fun E : String => sp_barred σ x1 = .error E) (bXu dC dI cI cZ a (va_A (cw cI cZ a σ) sz) σ) (va_A (cw cI cZ a σ) sz)) 1 6 (va_A (cw cI cZ a σ) sz) := by
  refine vx_ofW (cc := cX3_barred) (maxL := 2) (ret := (some .int)) (by decide) rfl ?_
  intro p e s m args below meth c s₁ B hml hEx hv
  obtain ⟨rfl, hsz, hP, hK, hD0, hz⟩ := hv
  have hx := B.exec
  have hb := B.bytes
  have hr := B.returns
  have hts := atoms_spec (ws := wsX3_barred) B.pre
  have hown : s.vm.findClass RX3 = some m.cls := findClass_of_methodNamed B.named
  have hlocks := B.notSynchronized
  subst hsz
  have hD := hD0.self (sz := s.heap.size)
  generalize hAe : va_A (cw cI cZ a σ) s.heap.size = A at hD hz ⊢
  have hA : ∀ q : Nat, s.heap.size ≤ q → A q := fun q h => by rw [← hAe]; exact Or.inr h
  clear hAe hD0
  obtain ⟨H, hHe⟩ : ∃ z, z = s.heap := ⟨_, rfl⟩
  obtain ⟨locs, hLe⟩ : ∃ z : List Loc, z = [] := ⟨_, rfl⟩
  have hS : va_S A s.heap H locs := by rw [hHe, hLe]; exact va_S.rf
  have hP : va_P (dC, dI) vwCl (cw cI cZ a σ) H := by rw [hHe]; exact hP
  refine W_ofH hHe hLe ?_
  clear hHe hLe
  have hl := lv_entry ([.ref (a 0), .int x1]) (n := 2) (Nat.le_of_ble_eq_true rfl)
  rw [lg_entry_eq]
  generalize (lg_sl ([.ref (a 0), .int x1]) ++ List.replicate (2 - (lg_sl ([.ref (a 0), .int x1])).length) Slot.unset).toArray = ls at hl ⊢
  have hl : lv_has ls 2 [(0, .ref (a 0)), (1, .int x1)] := hl
  obtain ⟨R, hR⟩ : ∃ z, z = sp_barred σ x1 := ⟨_, rfl⟩
  have hw := hR
  unfold sp_barred at hw
  refine lv_iload_n hx hb dX3_barred_0 rfl (lv_at hl 1 rfl) ?_
  refine lv_aload_n hx hb dX3_barred_1 rfl (lv_at hl 0 rfl) ?_
  refine va_get (D := (dC, dI)) (ci := 3) (v := .ref (a 7)) (C := RX3) (T := TX3) (N := 6) hx hb hts (iwX3 _) hown hK hP 0 rfl rfl 1 (by decide) (hts _ (kc k_155)) (fun _ h9 => h9) rfl dX3_barred_2 ?_
  refine va_get (D := (dC, dI)) (ci := 2) (v := .int (σ 7 11)) (C := RX2) (T := TX2) (N := 12) hx hb hts (iwX2 _) hown hK hP 7 rfl rfl 11 (by decide) (hts _ (kc k_97)) (fun _ h9 => h9) rfl dX3_barred_5 ?_
  refine nx_call (vx_runS (As := [.int x1, .int (σ 7 11)]) (rest := []) ⟨hx, hb, hml, hown, hts⟩ (m_X3_needKnown l hl9 zk H.size x1 (σ 7 11)) (cwS 2 hts (gS k_263 k_264 k_20 k_265) rfl rfl rfl (by decide +kernel) ⟨Nat.le_of_ble_eq_true rfl, Nat.le_of_ble_eq_true rfl⟩) (pn_need hz hS hA) rfl rfl hl.1 rfl (lv_room (Nat.le_of_ble_eq_true rfl)) dX3_barred_8 ⟨Nat.le_of_ble_eq_true rfl, Nat.le_of_ble_eq_true rfl⟩) hP hD hS hA (fun c_8_1 => ?_) (fun c_8_1 H1 q9 ce hP1 hS1 hc1 hc2 hc3 => vx_out (fun x hx9 => (hEx x hx9).elim) hlocks hc1 hc2 hc3 (fun t ht hvm => ⟨_, hR.symm.trans (hw.trans (if_neg c_8_1)), ⟨rfl, by rw [ht]; exact hP1, va_K.moved hvm hK, hD⟩, hS1.F ht⟩) hS1.2.2 (Nat.le_of_ble_eq_true rfl) (Nat.le_of_ble_eq_true rfl))
  rw [if_pos c_8_1] at hw
  have hn_2 : vp_in x1 40 := okK_cnt hiv c_8_1
  refine lv_aload_n hx hb dX3_barred_11 rfl (lv_at hl 0 rfl) ?_
  refine lv_iload_n hx hb dX3_barred_12 rfl (lv_at hl 1 rfl) ?_
  refine vp_callSi (W.runV (As := [.int x1]) (rest := []) ⟨hx, hb, hml, hown, hts⟩ (m_X3_reasonBarred l dC dI cI cZ a σ x1 hiv hn_2) (cwV 1 hts (gV k_368 k_370 k_1 k_20 k_371) rfl rfl rfl (by decide +kernel) ⟨Nat.le_of_ble_eq_true rfl, Nat.le_of_ble_eq_true rfl⟩) (pv_ro (q := (RX3, TX3, 6)) (q0 := 0) (ci := 3) hK hP rfl rfl) rfl rfl hl.1 rfl (lv_room (Nat.le_of_ble_eq_true rfl)) dX3_barred_13 ⟨Nat.le_of_ble_eq_true rfl, Nat.le_of_ble_eq_true rfl⟩) (fun r hrr => ?_)
  subst hrr
  refine vx_ret ?_
  refine W.widen (k := 1) (n := 6) (Nat.le_of_ble_eq_true rfl) (Nat.le_of_ble_eq_true rfl) ?_
  exact W.iret (v := sp_reasonBarred σ x1) hx hb hr (fun t ht hW => ⟨⟨sp_reasonBarred σ x1, σ, rfl, hR.symm.trans hw, by rw [ht]; exact hP, va_K.moved hW.alike hK, hD⟩, hS.F ht⟩) hS.2.2 dX3_barred_16
set_option maxHeartbeats 4000000 in
set_option maxRecDepth 100000 in
theorem m_X3_ends (l : Launch) (hl9 : l.stackTraces = false) (dC : Nat → ClassId) (dI : Nat → Nat → Nat) (cI cZ : ClassId) (a : Nat → Nat) (zk : Nat → Nat) (sz : Nat) (σ : St) (x1 : Int32) (hiv : IV σ) : vx_Met l yX3_ends wsX3_ends ({ frames := 7, cells := 1, slots := 6, locals := 111 }) (pPu dC dI cI cZ a zk sz σ [.ref (a 0), .int x1]) (va_Qi (fun r σ9 => sp_ends σ x1 = .ok (r, σ9)) (bMu dC dI cI cZ a (va_A (cw cI cZ a σ) sz)) (va_A (cw cI cZ a σ) sz)) (vx_X (fun E : String => sp_ends σ x1 = .error E) (bXu dC dI cI cZ a (va_A (cw cI cZ a σ) sz) σ) (va_A (cw cI cZ a σ) sz)) 1 6 (va_A (cw cI cZ a σ) sz) := by
  refine vx_ofW (cc := cX3_ends) (maxL := 2) (ret := (some .int)) (by decide) rfl ?_
  intro p e s m args below meth c s₁ B hml hEx hv
  obtain ⟨rfl, hsz, hP, hK, hD0, hz⟩ := hv
  have hx := B.exec
  have hb := B.bytes
  have hr := B.returns
  have hts := atoms_spec (ws := wsX3_ends) B.pre
  have hown : s.vm.findClass RX3 = some m.cls := findClass_of_methodNamed B.named
  have hlocks := B.notSynchronized
  subst hsz
  have hD := hD0.self (sz := s.heap.size)
  generalize hAe : va_A (cw cI cZ a σ) s.heap.size = A at hD hz ⊢
  have hA : ∀ q : Nat, s.heap.size ≤ q → A q := fun q h => by rw [← hAe]; exact Or.inr h
  clear hAe hD0
  obtain ⟨H, hHe⟩ : ∃ z, z = s.heap := ⟨_, rfl⟩
  obtain ⟨locs, hLe⟩ : ∃ z : List Loc, z = [] := ⟨_, rfl⟩
  have hS : va_S A s.heap H locs := by rw [hHe, hLe]; exact va_S.rf
  have hP : va_P (dC, dI) vwCl (cw cI cZ a σ) H := by rw [hHe]; exact hP
  refine W_ofH hHe hLe ?_
  clear hHe hLe
  have hl := lv_entry ([.ref (a 0), .int x1]) (n := 2) (Nat.le_of_ble_eq_true rfl)
  rw [lg_entry_eq]
  generalize (lg_sl ([.ref (a 0), .int x1]) ++ List.replicate (2 - (lg_sl ([.ref (a 0), .int x1])).length) Slot.unset).toArray = ls at hl ⊢
  have hl : lv_has ls 2 [(0, .ref (a 0)), (1, .int x1)] := hl
  obtain ⟨R, hR⟩ : ∃ z, z = sp_ends σ x1 := ⟨_, rfl⟩
  have hw := hR
  unfold sp_ends at hw
  refine lv_iload_n hx hb dX3_ends_0 rfl (lv_at hl 1 rfl) ?_
  refine lv_aload_n hx hb dX3_ends_1 rfl (lv_at hl 0 rfl) ?_
  refine va_get (D := (dC, dI)) (ci := 3) (v := .ref (a 7)) (C := RX3) (T := TX3) (N := 6) hx hb hts (iwX3 _) hown hK hP 0 rfl rfl 1 (by decide) (hts _ (kc k_155)) (fun _ h9 => h9) rfl dX3_ends_2 ?_
  refine va_get (D := (dC, dI)) (ci := 2) (v := .int (σ 7 11)) (C := RX2) (T := TX2) (N := 12) hx hb hts (iwX2 _) hown hK hP 7 rfl rfl 11 (by decide) (hts _ (kc k_97)) (fun _ h9 => h9) rfl dX3_ends_5 ?_
  refine nx_call (vx_runS (As := [.int x1, .int (σ 7 11)]) (rest := []) ⟨hx, hb, hml, hown, hts⟩ (m_X3_needKnown l hl9 zk H.size x1 (σ 7 11)) (cwS 2 hts (gS k_263 k_264 k_20 k_265) rfl rfl rfl (by decide +kernel) ⟨Nat.le_of_ble_eq_true rfl, Nat.le_of_ble_eq_true rfl⟩) (pn_need hz hS hA) rfl rfl hl.1 rfl (lv_room (Nat.le_of_ble_eq_true rfl)) dX3_ends_8 ⟨Nat.le_of_ble_eq_true rfl, Nat.le_of_ble_eq_true rfl⟩) hP hD hS hA (fun c_8_1 => ?_) (fun c_8_1 H1 q9 ce hP1 hS1 hc1 hc2 hc3 => vx_out (fun x hx9 => (hEx x hx9).elim) hlocks hc1 hc2 hc3 (fun t ht hvm => ⟨_, hR.symm.trans (hw.trans (if_neg c_8_1)), ⟨rfl, by rw [ht]; exact hP1, va_K.moved hvm hK, hD⟩, hS1.F ht⟩) hS1.2.2 (Nat.le_of_ble_eq_true rfl) (Nat.le_of_ble_eq_true rfl))
  rw [if_pos c_8_1] at hw
  have hn_2 : vp_in x1 40 := okK_cnt hiv c_8_1
  refine lv_aload_n hx hb dX3_ends_11 rfl (lv_at hl 0 rfl) ?_
  refine lv_iload_n hx hb dX3_ends_12 rfl (lv_at hl 1 rfl) ?_
  refine vp_callSi (W.runV (As := [.int x1]) (rest := []) ⟨hx, hb, hml, hown, hts⟩ (m_X3_endOf l dC dI cI cZ a σ x1 hiv hn_2) (cwV 1 hts (gV k_473 k_475 k_6 k_20 k_476) rfl rfl rfl (by decide +kernel) ⟨Nat.le_of_ble_eq_true rfl, Nat.le_of_ble_eq_true rfl⟩) (pv_ro (q := (RX3, TX3, 6)) (q0 := 0) (ci := 3) hK hP rfl rfl) rfl rfl hl.1 rfl (lv_room (Nat.le_of_ble_eq_true rfl)) dX3_ends_13 ⟨Nat.le_of_ble_eq_true rfl, Nat.le_of_ble_eq_true rfl⟩) (fun r hrr => ?_)
  subst hrr
  refine vx_ret ?_
  refine W.widen (k := 1) (n := 6) (Nat.le_of_ble_eq_true rfl) (Nat.le_of_ble_eq_true rfl) ?_
  exact W.iret (v := sp_endOf σ x1) hx hb hr (fun t ht hW => ⟨⟨sp_endOf σ x1, σ, rfl, hR.symm.trans hw, by rw [ht]; exact hP, va_K.moved hW.alike hK, hD⟩, hS.F ht⟩) hS.2.2 dX3_ends_16
set_option maxHeartbeats 4000000 in
set_option maxRecDepth 100000 in
theorem m_X3_soon (l : Launch) (hl9 : l.stackTraces = false) (dC : Nat → ClassId) (dI : Nat → Nat → Nat) (cI cZ : ClassId) (a : Nat → Nat) (zk : Nat → Nat) (sz : Nat) (σ : St) (x1 : Int32) (x2 : Int32) (x3 : Int32) (hiv : IV σ) : vx_Met l yX3_soon wsX3_soon ({ frames := 7, cells := 3, slots := 18, locals := 112 }) (pPu dC dI cI cZ a zk sz σ [.ref (a 0), .int x1, .int x2, .int x3]) (va_Qi (fun r σ9 => sp_soon σ x1 x2 x3 = .ok (r, σ9)) (bMu dC dI cI cZ a (va_A (cw cI cZ a σ) sz)) (va_A (cw cI cZ a σ) sz)) (vx_X (fun E : String => sp_soon σ x1 x2 x3 = .error E) (bXu dC dI cI cZ a (va_A (cw cI cZ a σ) sz) σ) (va_A (cw cI cZ a σ) sz)) 3 18 (va_A (cw cI cZ a σ) sz) := by
  refine vx_ofW (cc := cX3_soon) (maxL := 5) (ret := (some .int)) (by decide) rfl ?_
  intro p e s m args below meth c s₁ B hml hEx hv
  obtain ⟨rfl, hsz, hP, hK, hD0, hz⟩ := hv
  have hx := B.exec
  have hb := B.bytes
  have hr := B.returns
  have hts := atoms_spec (ws := wsX3_soon) B.pre
  have hown : s.vm.findClass RX3 = some m.cls := findClass_of_methodNamed B.named
  have hlocks := B.notSynchronized
  subst hsz
  have hD := hD0.self (sz := s.heap.size)
  generalize hAe : va_A (cw cI cZ a σ) s.heap.size = A at hD hz ⊢
  have hA : ∀ q : Nat, s.heap.size ≤ q → A q := fun q h => by rw [← hAe]; exact Or.inr h
  clear hAe hD0
  obtain ⟨H, hHe⟩ : ∃ z, z = s.heap := ⟨_, rfl⟩
  obtain ⟨locs, hLe⟩ : ∃ z : List Loc, z = [] := ⟨_, rfl⟩
  have hS : va_S A s.heap H locs := by rw [hHe, hLe]; exact va_S.rf
  have hP : va_P (dC, dI) vwCl (cw cI cZ a σ) H := by rw [hHe]; exact hP
  refine W_ofH hHe hLe ?_
  clear hHe hLe
  have hl := lv_entry ([.ref (a 0), .int x1, .int x2, .int x3]) (n := 5) (Nat.le_of_ble_eq_true rfl)
  rw [lg_entry_eq]
  generalize (lg_sl ([.ref (a 0), .int x1, .int x2, .int x3]) ++ List.replicate (5 - (lg_sl ([.ref (a 0), .int x1, .int x2, .int x3])).length) Slot.unset).toArray = ls at hl ⊢
  have hl : lv_has ls 5 [(0, .ref (a 0)), (1, .int x1), (2, .int x2), (3, .int x3)] := hl
  obtain ⟨R, hR⟩ : ∃ z, z = sp_soon σ x1 x2 x3 := ⟨_, rfl⟩
  have hw := hR
  unfold sp_soon at hw
  have hle := iv_le hiv
  refine lv_iload_n hx hb dX3_soon_0 rfl (lv_at hl 1 rfl) ?_
  refine lv_bipush (v := 20) hx hb dX3_soon_1 (by decide) ?_
  refine nx_call (vx_runS (As := [.int x1, .int (20 : Int32)]) (rest := []) ⟨hx, hb, hml, hown, hts⟩ (m_X3_needKnown l hl9 zk H.size x1 (20 : Int32)) (cwS 2 hts (gS k_263 k_264 k_20 k_265) rfl rfl rfl (by decide +kernel) ⟨Nat.le_of_ble_eq_true rfl, Nat.le_of_ble_eq_true rfl⟩) (pn_need hz hS hA) rfl rfl hl.1 rfl (lv_room (Nat.le_of_ble_eq_true rfl)) dX3_soon_3 ⟨Nat.le_of_ble_eq_true rfl, Nat.le_of_ble_eq_true rfl⟩) hP hD hS hA (fun c_3_1 => ?_) (fun c_3_1 H1 q9 ce hP1 hS1 hc1 hc2 hc3 => vx_out (fun x hx9 => (hEx x hx9).elim) hlocks hc1 hc2 hc3 (fun t ht hvm => ⟨_, hR.symm.trans (hw.trans (if_neg c_3_1)), ⟨rfl, by rw [ht]; exact hP1, va_K.moved hvm hK, hD⟩, hS1.F ht⟩) hS1.2.2 (Nat.le_of_ble_eq_true rfl) (Nat.le_of_ble_eq_true rfl))
  rw [if_pos c_3_1] at hw
  have hn_2 : vp_in x1 20 := okK_in c_3_1 (n := 20) (by decide) (by decide)
  refine lv_iload_n hx hb dX3_soon_6 rfl (lv_at hl 2 rfl) ?_
  refine lv_iconst (v := 0) hx hb dX3_soon_7 (by decide) ?_
  refine lv_sipush (v := 30000) hx hb dX3_soon_8 (by decide) ?_
  refine nx_call (vx_runS (As := [.int x2, .int (0 : Int32), .int (30000 : Int32)]) (rest := []) ⟨hx, hb, hml, hown, hts⟩ (m_X3_needRange l hl9 zk H.size x2 (0 : Int32) (30000 : Int32)) (cwS 3 hts (gS k_182 k_183 k_20 k_184) rfl rfl rfl (by decide +kernel) ⟨Nat.le_of_ble_eq_true rfl, Nat.le_of_ble_eq_true rfl⟩) (pn_need hz hS hA) rfl rfl hl.1 rfl (lv_room (Nat.le_of_ble_eq_true rfl)) dX3_soon_11 ⟨Nat.le_of_ble_eq_true rfl, Nat.le_of_ble_eq_true rfl⟩) hP hD hS hA (fun c_11_3 => ?_) (fun c_11_3 H1 q9 ce hP1 hS1 hc1 hc2 hc3 => vx_out (fun x hx9 => (hEx x hx9).elim) hlocks hc1 hc2 hc3 (fun t ht hvm => ⟨_, hR.symm.trans (hw.trans (if_neg c_11_3)), ⟨rfl, by rw [ht]; exact hP1, va_K.moved hvm hK, hD⟩, hS1.F ht⟩) hS1.2.2 (Nat.le_of_ble_eq_true rfl) (Nat.le_of_ble_eq_true rfl))
  rw [if_pos c_11_3] at hw
  refine lv_iload_n hx hb dX3_soon_14 rfl (lv_at hl 3 rfl) ?_
  refine lv_iconst (v := 0) hx hb dX3_soon_15 (by decide) ?_
  refine lv_ldc (own := RX3) (v := 2147483647) hx hb hown (hts _ (kc k_380)) dX3_soon_16 ?_
  refine nx_call (vx_runS (As := [.int x3, .int (0 : Int32), .int (2147483647 : Int32)]) (rest := []) ⟨hx, hb, hml, hown, hts⟩ (m_X3_needRange l hl9 zk H.size x3 (0 : Int32) (2147483647 : Int32)) (cwS 3 hts (gS k_182 k_183 k_20 k_184) rfl rfl rfl (by decide +kernel) ⟨Nat.le_of_ble_eq_true rfl, Nat.le_of_ble_eq_true rfl⟩) (pn_need hz hS hA) rfl rfl hl.1 rfl (lv_room (Nat.le_of_ble_eq_true rfl)) dX3_soon_18 ⟨Nat.le_of_ble_eq_true rfl, Nat.le_of_ble_eq_true rfl⟩) hP hD hS hA (fun c_18_4 => ?_) (fun c_18_4 H1 q9 ce hP1 hS1 hc1 hc2 hc3 => vx_out (fun x hx9 => (hEx x hx9).elim) hlocks hc1 hc2 hc3 (fun t ht hvm => ⟨_, hR.symm.trans (hw.trans (if_neg c_18_4)), ⟨rfl, by rw [ht]; exact hP1, va_K.moved hvm hK, hD⟩, hS1.F ht⟩) hS1.2.2 (Nat.le_of_ble_eq_true rfl) (Nat.le_of_ble_eq_true rfl))
  rw [if_pos c_18_4] at hw
  refine lv_aload_n hx hb dX3_soon_21 rfl (lv_at hl 0 rfl) ?_
  refine lv_iload_n hx hb dX3_soon_22 rfl (lv_at hl 1 rfl) ?_
  refine lv_aload_n hx hb dX3_soon_23 rfl (lv_at hl 0 rfl) ?_
  refine va_get (D := (dC, dI)) (ci := 3) (v := .int (σ 0 5)) (C := RX3) (T := TX3) (N := 6) hx hb hts (iwX3 _) hown hK hP 0 rfl rfl 5 (by decide) (hts _ (kc k_159)) (fun _ h9 => h9) rfl dX3_soon_24 ?_
  refine lv_iload_n hx hb dX3_soon_27 rfl (lv_at hl 2 rfl) ?_
  refine lv_iadd hx hb dX3_soon_28 ?_
  have hFc := fr_all hD hS hA
  refine va_callv (va_runV (As := [.int x1, .int ((σ 0 5) + x2)]) (rest := []) ⟨hx, hb, hml, hown, hts⟩ (m_X3_fillEndRow l dC dI cI cZ a H.size σ x1 ((σ 0 5) + x2) hiv) (cwV 2 hts (gV k_485 k_487 k_7 k_20 k_488) rfl rfl rfl (by decide +kernel) ⟨Nat.le_of_ble_eq_true rfl, Nat.le_of_ble_eq_true rfl⟩) (pv_mu (q := (RX3, TX3, 6)) (q0 := 0) (ci := 3) hK hP hD rfl rfl) rfl rfl hl.1 rfl (lv_room (Nat.le_of_ble_eq_true rfl)) dX3_soon_29 ⟨Nat.le_of_ble_eq_true rfl, Nat.le_of_ble_eq_true rfl⟩) hS (fun q _ h => hFc q h) hFc (fun σ9 t H1 locs ht hvm hw9 hB hz1 hk1 hS => ?_)
  obtain ⟨hP, hK1, hD1⟩ := hB
  rw [ht] at hP
  have hD := hD1.weaken (fun _ _ _ h => hFc _ h)
  clear hFc hD1 hK1
  subst hw9
  generalize H1 = H at hP hS ⊢
  have hivF := iv_fill hiv x1 ((σ 0 5) + x2)
  refine lv_iconst (v := 0) hx hb dX3_soon_32 (by decide) ?_
  refine lv_istore (lv' := [(4, .int (0 : Int32)), (0, .ref (a 0)), (1, .int x1), (2, .int x2), (3, .int x3)]) hx hb dX3_soon_33 hl (by decide) rfl (fun ls hl => ?_)
  refine W.widen (k := 3) (n := 18) (Nat.le_of_ble_eq_true rfl) (Nat.le_of_ble_eq_true rfl) ?_
  have loop : ∀ (n k : Nat) (σ1 : St) (H : Heap) (locs : List Loc) (ls : Array Slot), k + n = cntN σ → IV σ1 → cntN σ1 = cntN σ → va_P (dC, dI) vwCl (cw cI cZ a σ1) H → va_D A (cw cI cZ a σ1) → va_S A s.heap H locs → lv_has ls 5 [(0, .ref (a 0)), (1, .int x1), (2, .int x2), (3, .int x3), (4, .int (nI k))] → R = sp_soon_35 σ x1 x2 x3 σ1 n k → W p l e (headSpec wsX3_soon ({ frames := 7, cells := 3, slots := 18, locals := 112 })).room s m [.ref (a 0), .int x1, .int x2, .int x3].toArray below meth c H locs 3 18 (vx_MQ below (va_Qi (fun r σ9 => sp_soon σ x1 x2 x3 = .ok (r, σ9)) (bMu dC dI cI cZ a A) A) (vx_X (fun E : String => sp_soon σ x1 x2 x3 = .error E) (bXu dC dI cI cZ a A σ) A) [.ref (a 0), .int x1, .int x2, .int x3].toArray s 3 18 A) (F0 m 35 ls []) := by
    intro n
    induction n with
    | zero =>
      intro k σ1 H locs ls hkn hiv1 hc1 hP hD hS hl hw
      rw [sp_soon_35_0] at hw
      refine lv_iload hx hb dX3_soon_35 (lv_at hl 4 rfl) ?_
      refine lv_aload_n hx hb dX3_soon_37 rfl (lv_at hl 0 rfl) ?_
      refine va_get (D := (dC, dI)) (ci := 3) (v := .ref (a 7)) (C := RX3) (T := TX3) (N := 6) hx hb hts (iwX3 _) hown hK hP 0 rfl rfl 1 (by decide) (hts _ (kc k_155)) (fun _ h9 => h9) rfl dX3_soon_38 ?_
      refine va_get (D := (dC, dI)) (ci := 2) (v := .int (σ1 7 11)) (C := RX2) (T := TX2) (N := 12) hx hb hts (iwX2 _) hown hK hP 7 rfl rfl 11 (by decide) (hts _ (kc k_97)) (fun _ h9 => h9) rfl dX3_soon_41 ?_
      refine lv_icmp_ge (tgt := 77) hx hb dX3_soon_44 (by decide) (fun c_44_5 => ?_) (fun c_44_5 => ?_)
      · skip
        refine lv_iconst (v := -1) hx hb dX3_soon_77 (by decide) ?_
        refine vx_ret ?_
        refine W.widen (k := 3) (n := 18) (Nat.le_of_ble_eq_true rfl) (Nat.le_of_ble_eq_true rfl) ?_
        exact W.iret (v := (-1 : Int32)) hx hb hr (fun t ht hW => ⟨⟨(-1 : Int32), σ1, rfl, hR.symm.trans hw, by rw [ht]; exact hP, va_K.moved hW.alike hK, hD⟩, hS.F ht⟩) hS.2.2 dX3_soon_78
      · skip
        exact absurd (lpE (iv_cnt2 hiv1 hc1) hkn (by omega)) c_44_5
    | succ n ih =>
      intro k σ1 H locs ls hkn hiv1 hc1 hP hD hS hl hw
      rw [sp_soon_35_s] at hw
      have hkf : vp_in (nI k) 40 := vp_in_nI (by omega) (by decide)
      refine lv_iload hx hb dX3_soon_35 (lv_at hl 4 rfl) ?_
      refine lv_aload_n hx hb dX3_soon_37 rfl (lv_at hl 0 rfl) ?_
      refine va_get (D := (dC, dI)) (ci := 3) (v := .ref (a 7)) (C := RX3) (T := TX3) (N := 6) hx hb hts (iwX3 _) hown hK hP 0 rfl rfl 1 (by decide) (hts _ (kc k_155)) (fun _ h9 => h9) rfl dX3_soon_38 ?_
      refine va_get (D := (dC, dI)) (ci := 2) (v := .int (σ1 7 11)) (C := RX2) (T := TX2) (N := 12) hx hb hts (iwX2 _) hown hK hP 7 rfl rfl 11 (by decide) (hts _ (kc k_97)) (fun _ h9 => h9) rfl dX3_soon_41 ?_
      refine lv_icmp_ge (tgt := 77) hx hb dX3_soon_44 (by decide) (fun c_44_6 => ?_) (fun c_44_6 => ?_)
      · skip
        exact absurd c_44_6 (lpB (iv_cnt2 hiv1 hc1) hkn (by omega))
      · skip
        refine lv_aload_n hx hb dX3_soon_47 rfl (lv_at hl 0 rfl) ?_
        refine va_get (D := (dC, dI)) (ci := 3) (v := .ref (a 26)) (C := RX3) (T := TX3) (N := 6) hx hb hts (iwX3 _) hown hK hP 0 rfl rfl 4 (by decide) (hts _ (kc k_158)) (fun _ h9 => h9) rfl dX3_soon_48 ?_
        refine lv_iload hx hb dX3_soon_51 (lv_at hl 4 rfl) ?_
        refine va_iald (D := (dC, dI)) (f := σ1 26) hx hb hK hP 26 0 rfl rfl (i := nI k) hkf dX3_soon_53 ?_
        refine lv_iconst (v := -1) hx hb dX3_soon_54 (by decide) ?_
        refine lv_icmp_eq (tgt := 71) hx hb dX3_soon_55 (by decide) (fun c_55_7 => ?_) (fun c_55_7 => ?_)
        · skip
          rw [if_pos c_55_7] at hw
          refine lv_iinc (v := (nI (k + 1))) (lv' := [(4, .int (nI (k + 1))), (0, .ref (a 0)), (1, .int x1), (2, .int x2), (3, .int x3)]) hx hb dX3_soon_71 hl (k := 4) rfl (nI_1 k) (by decide) rfl (fun ls hl => ?_)
          refine lv_goto (tgt := 35) hx hb dX3_soon_74 (by decide) ?_
          exact ih (k + 1) σ1 H locs ls (by omega) hiv1 hc1 hP hD hS (lv_sub hl [1, 2, 3, 4, 0] rfl) hw
        · skip
          rw [if_neg c_55_7] at hw
          refine lv_aload_n hx hb dX3_soon_58 rfl (lv_at hl 0 rfl) ?_
          refine lv_iload hx hb dX3_soon_59 (lv_at hl 4 rfl) ?_
          refine vp_callSi (W.runV (As := [.int (nI k)]) (rest := []) ⟨hx, hb, hml, hown, hts⟩ (m_X3_countEndingBefore l dC dI cI cZ a σ1 (nI k) hiv1 hkf) (cwV 1 hts (gV k_489 k_491 k_8 k_20 k_492) rfl rfl rfl (by decide +kernel) ⟨Nat.le_of_ble_eq_true rfl, Nat.le_of_ble_eq_true rfl⟩) (pv_ro (q := (RX3, TX3, 6)) (q0 := 0) (ci := 3) hK hP rfl rfl) rfl rfl hl.1 rfl (lv_room (Nat.le_of_ble_eq_true rfl)) dX3_soon_61 ⟨Nat.le_of_ble_eq_true rfl, Nat.le_of_ble_eq_true rfl⟩) (fun r hrr => ?_)
          subst hrr
          refine lv_iload_n hx hb dX3_soon_64 rfl (lv_at hl 3 rfl) ?_
          refine lv_icmp_ne (tgt := 71) hx hb dX3_soon_65 (by decide) (fun c_65_8 => ?_) (fun c_65_8 => ?_)
          · skip
            rw [if_neg c_65_8] at hw
            refine lv_iinc (v := (nI (k + 1))) (lv' := [(4, .int (nI (k + 1))), (0, .ref (a 0)), (1, .int x1), (2, .int x2), (3, .int x3)]) hx hb dX3_soon_71 hl (k := 4) rfl (nI_1 k) (by decide) rfl (fun ls hl => ?_)
            refine lv_goto (tgt := 35) hx hb dX3_soon_74 (by decide) ?_
            exact ih (k + 1) σ1 H locs ls (by omega) hiv1 hc1 hP hD hS (lv_sub hl [1, 2, 3, 4, 0] rfl) hw
          · skip
            rw [if_pos c_65_8] at hw
            refine lv_iload hx hb dX3_soon_68 (lv_at hl 4 rfl) ?_
            refine vx_ret ?_
            refine W.widen (k := 3) (n := 18) (Nat.le_of_ble_eq_true rfl) (Nat.le_of_ble_eq_true rfl) ?_
            exact W.iret (v := nI k) hx hb hr (fun t ht hW => ⟨⟨nI k, σ1, rfl, hR.symm.trans hw, by rw [ht]; exact hP, va_K.moved hW.alike hK, hD⟩, hS.F ht⟩) hS.2.2 dX3_soon_70
  exact loop (cntN σ) 0 (sp_fillEndRow σ x1 ((σ 0 5) + x2)) H locs ls (Nat.zero_add _) hivF (cnt_fill hiv _ _) hP hD hS (lv_sub hl [1, 2, 3, 4, 0] rfl) hw
set_option maxHeartbeats 4000000 in
set_option maxRecDepth 100000 in
theorem m_X3_thingAt (l : Launch) (hl9 : l.stackTraces = false) (dC : Nat → ClassId) (dI : Nat → Nat → Nat) (cI cZ : ClassId) (a : Nat → Nat) (zk : Nat → Nat) (sz : Nat) (σ : St) (x1 : Int32) (x2 : Int32) (hiv : IV σ) : vx_Met l yX3_thingAt wsX3_thingAt ({ frames := 7, cells := 2, slots := 12, locals := 111 }) (pPu dC dI cI cZ a zk sz σ [.ref (a 0), .int x1, .int x2]) (va_Qi (fun r σ9 => sp_thingAt σ x1 x2 = .ok (r, σ9)) (bMu dC dI cI cZ a (va_A (cw cI cZ a σ) sz)) (va_A (cw cI cZ a σ) sz)) (vx_X (fun E : String => sp_thingAt σ x1 x2 = .error E) (bXu dC dI cI cZ a (va_A (cw cI cZ a σ) sz) σ) (va_A (cw cI cZ a σ) sz)) 2 12 (va_A (cw cI cZ a σ) sz) := by
  refine vx_ofW (cc := cX3_thingAt) (maxL := 3) (ret := (some .int)) (by decide) rfl ?_
  intro p e s m args below meth c s₁ B hml hEx hv
  obtain ⟨rfl, hsz, hP, hK, hD0, hz⟩ := hv
  have hx := B.exec
  have hb := B.bytes
  have hr := B.returns
  have hts := atoms_spec (ws := wsX3_thingAt) B.pre
  have hown : s.vm.findClass RX3 = some m.cls := findClass_of_methodNamed B.named
  have hlocks := B.notSynchronized
  subst hsz
  have hD := hD0.self (sz := s.heap.size)
  generalize hAe : va_A (cw cI cZ a σ) s.heap.size = A at hD hz ⊢
  have hA : ∀ q : Nat, s.heap.size ≤ q → A q := fun q h => by rw [← hAe]; exact Or.inr h
  clear hAe hD0
  obtain ⟨H, hHe⟩ : ∃ z, z = s.heap := ⟨_, rfl⟩
  obtain ⟨locs, hLe⟩ : ∃ z : List Loc, z = [] := ⟨_, rfl⟩
  have hS : va_S A s.heap H locs := by rw [hHe, hLe]; exact va_S.rf
  have hP : va_P (dC, dI) vwCl (cw cI cZ a σ) H := by rw [hHe]; exact hP
  refine W_ofH hHe hLe ?_
  clear hHe hLe
  have hl := lv_entry ([.ref (a 0), .int x1, .int x2]) (n := 3) (Nat.le_of_ble_eq_true rfl)
  rw [lg_entry_eq]
  generalize (lg_sl ([.ref (a 0), .int x1, .int x2]) ++ List.replicate (3 - (lg_sl ([.ref (a 0), .int x1, .int x2])).length) Slot.unset).toArray = ls at hl ⊢
  have hl : lv_has ls 3 [(0, .ref (a 0)), (1, .int x1), (2, .int x2)] := hl
  obtain ⟨R, hR⟩ : ∃ z, z = sp_thingAt σ x1 x2 := ⟨_, rfl⟩
  have hw := hR
  unfold sp_thingAt at hw
  refine lv_iload_n hx hb dX3_thingAt_0 rfl (lv_at hl 1 rfl) ?_
  refine lv_aload_n hx hb dX3_thingAt_1 rfl (lv_at hl 0 rfl) ?_
  refine va_get (D := (dC, dI)) (ci := 3) (v := .ref (a 7)) (C := RX3) (T := TX3) (N := 6) hx hb hts (iwX3 _) hown hK hP 0 rfl rfl 1 (by decide) (hts _ (kc k_155)) (fun _ h9 => h9) rfl dX3_thingAt_2 ?_
  refine va_get (D := (dC, dI)) (ci := 2) (v := .int (σ 7 11)) (C := RX2) (T := TX2) (N := 12) hx hb hts (iwX2 _) hown hK hP 7 rfl rfl 11 (by decide) (hts _ (kc k_97)) (fun _ h9 => h9) rfl dX3_thingAt_5 ?_
  refine nx_call (vx_runS (As := [.int x1, .int (σ 7 11)]) (rest := []) ⟨hx, hb, hml, hown, hts⟩ (m_X3_needKnown l hl9 zk H.size x1 (σ 7 11)) (cwS 2 hts (gS k_263 k_264 k_20 k_265) rfl rfl rfl (by decide +kernel) ⟨Nat.le_of_ble_eq_true rfl, Nat.le_of_ble_eq_true rfl⟩) (pn_need hz hS hA) rfl rfl hl.1 rfl (lv_room (Nat.le_of_ble_eq_true rfl)) dX3_thingAt_8 ⟨Nat.le_of_ble_eq_true rfl, Nat.le_of_ble_eq_true rfl⟩) hP hD hS hA (fun c_8_1 => ?_) (fun c_8_1 H1 q9 ce hP1 hS1 hc1 hc2 hc3 => vx_out (fun x hx9 => (hEx x hx9).elim) hlocks hc1 hc2 hc3 (fun t ht hvm => ⟨_, hR.symm.trans (hw.trans (if_neg c_8_1)), ⟨rfl, by rw [ht]; exact hP1, va_K.moved hvm hK, hD⟩, hS1.F ht⟩) hS1.2.2 (Nat.le_of_ble_eq_true rfl) (Nat.le_of_ble_eq_true rfl))
  rw [if_pos c_8_1] at hw
  have hn_2 : vp_in x1 40 := okK_cnt hiv c_8_1
  refine lv_iload_n hx hb dX3_thingAt_11 rfl (lv_at hl 2 rfl) ?_
  by_cases c_12_3 : x2 = (0 : Int32)
  · skip
    rw [if_pos c_12_3] at hw
    refine lv_tableIn (tgt := 72) hx hb dX3_thingAt_12 (by rw [c_12_3]; decide) (by rw [c_12_3]; decide) (by rw [c_12_3]; rfl) (by decide) ?_
    refine lv_aload_n hx hb dX3_thingAt_72 rfl (lv_at hl 0 rfl) ?_
    refine va_get (D := (dC, dI)) (ci := 3) (v := .ref (a 7)) (C := RX3) (T := TX3) (N := 6) hx hb hts (iwX3 _) hown hK hP 0 rfl rfl 1 (by decide) (hts _ (kc k_155)) (fun _ h9 => h9) rfl dX3_thingAt_73 ?_
    refine lv_iload_n hx hb dX3_thingAt_76 rfl (lv_at hl 1 rfl) ?_
    refine vp_callSi (W.runV (As := [.int x1]) (rest := []) ⟨hx, hb, hml, hown, hts⟩ (m_X2_conditionOf l dC dI cI cZ a σ x1 hn_2) (cwV 1 hts (gV k_392 k_393 k_394 k_22 k_395) rfl rfl rfl (by decide +kernel) ⟨Nat.le_of_ble_eq_true rfl, Nat.le_of_ble_eq_true rfl⟩) (pv_ro (q := (RX2, TX2, 12)) (q0 := 7) (ci := 2) hK hP rfl rfl) rfl rfl hl.1 rfl (lv_room (Nat.le_of_ble_eq_true rfl)) dX3_thingAt_77 ⟨Nat.le_of_ble_eq_true rfl, Nat.le_of_ble_eq_true rfl⟩) (fun r hrr => ?_)
    subst hrr
    refine vx_ret ?_
    refine W.widen (k := 2) (n := 12) (Nat.le_of_ble_eq_true rfl) (Nat.le_of_ble_eq_true rfl) ?_
    exact W.iret (v := sp_conditionOf σ x1) hx hb hr (fun t ht hW => ⟨⟨sp_conditionOf σ x1, σ, rfl, hR.symm.trans hw, by rw [ht]; exact hP, va_K.moved hW.alike hK, hD⟩, hS.F ht⟩) hS.2.2 dX3_thingAt_80
  rw [if_neg c_12_3] at hw
  by_cases c_12_4 : x2 = (1 : Int32)
  · skip
    rw [if_pos c_12_4] at hw
    refine lv_tableIn (tgt := 81) hx hb dX3_thingAt_12 (by rw [c_12_4]; decide) (by rw [c_12_4]; decide) (by rw [c_12_4]; rfl) (by decide) ?_
    refine lv_aload_n hx hb dX3_thingAt_81 rfl (lv_at hl 0 rfl) ?_
    refine va_get (D := (dC, dI)) (ci := 3) (v := .ref (a 7)) (C := RX3) (T := TX3) (N := 6) hx hb hts (iwX3 _) hown hK hP 0 rfl rfl 1 (by decide) (hts _ (kc k_155)) (fun _ h9 => h9) rfl dX3_thingAt_82 ?_
    refine va_get (D := (dC, dI)) (ci := 2) (v := .ref (a 11)) (C := RX2) (T := TX2) (N := 12) hx hb hts (iwX2 _) hown hK hP 7 rfl rfl 3 (by decide) (hts _ (kc k_82)) (fun _ h9 => h9) rfl dX3_thingAt_85 ?_
    refine lv_iload_n hx hb dX3_thingAt_88 rfl (lv_at hl 1 rfl) ?_
    refine va_iald (D := (dC, dI)) (f := σ 11) hx hb hK hP 11 0 rfl rfl (i := x1) hn_2 dX3_thingAt_89 ?_
    refine vx_ret ?_
    refine W.widen (k := 2) (n := 12) (Nat.le_of_ble_eq_true rfl) (Nat.le_of_ble_eq_true rfl) ?_
    exact W.iret (v := σ 11 x1.toNatClampNeg) hx hb hr (fun t ht hW => ⟨⟨σ 11 x1.toNatClampNeg, σ, rfl, hR.symm.trans hw, by rw [ht]; exact hP, va_K.moved hW.alike hK, hD⟩, hS.F ht⟩) hS.2.2 dX3_thingAt_90
  rw [if_neg c_12_4] at hw
  by_cases c_12_5 : x2 = (2 : Int32)
  · skip
    rw [if_pos c_12_5] at hw
    refine lv_tableIn (tgt := 91) hx hb dX3_thingAt_12 (by rw [c_12_5]; decide) (by rw [c_12_5]; decide) (by rw [c_12_5]; rfl) (by decide) ?_
    refine lv_aload_n hx hb dX3_thingAt_91 rfl (lv_at hl 0 rfl) ?_
    refine va_get (D := (dC, dI)) (ci := 3) (v := .ref (a 7)) (C := RX3) (T := TX3) (N := 6) hx hb hts (iwX3 _) hown hK hP 0 rfl rfl 1 (by decide) (hts _ (kc k_155)) (fun _ h9 => h9) rfl dX3_thingAt_92 ?_
    refine va_get (D := (dC, dI)) (ci := 2) (v := .ref (a 14)) (C := RX2) (T := TX2) (N := 12) hx hb hts (iwX2 _) hown hK hP 7 rfl rfl 6 (by decide) (hts _ (kc k_88)) (fun _ h9 => h9) rfl dX3_thingAt_95 ?_
    refine lv_iload_n hx hb dX3_thingAt_98 rfl (lv_at hl 1 rfl) ?_
    refine va_iald (D := (dC, dI)) (f := σ 14) hx hb hK hP 14 0 rfl rfl (i := x1) hn_2 dX3_thingAt_99 ?_
    refine vx_ret ?_
    refine W.widen (k := 2) (n := 12) (Nat.le_of_ble_eq_true rfl) (Nat.le_of_ble_eq_true rfl) ?_
    exact W.iret (v := σ 14 x1.toNatClampNeg) hx hb hr (fun t ht hW => ⟨⟨σ 14 x1.toNatClampNeg, σ, rfl, hR.symm.trans hw, by rw [ht]; exact hP, va_K.moved hW.alike hK, hD⟩, hS.F ht⟩) hS.2.2 dX3_thingAt_100
  rw [if_neg c_12_5] at hw
  by_cases c_12_6 : x2 = (3 : Int32)
  · skip
    rw [if_pos c_12_6] at hw
    refine lv_tableIn (tgt := 101) hx hb dX3_thingAt_12 (by rw [c_12_6]; decide) (by rw [c_12_6]; decide) (by rw [c_12_6]; rfl) (by decide) ?_
    refine lv_aload_n hx hb dX3_thingAt_101 rfl (lv_at hl 0 rfl) ?_
    refine va_get (D := (dC, dI)) (ci := 3) (v := .ref (a 7)) (C := RX3) (T := TX3) (N := 6) hx hb hts (iwX3 _) hown hK hP 0 rfl rfl 1 (by decide) (hts _ (kc k_155)) (fun _ h9 => h9) rfl dX3_thingAt_102 ?_
    refine va_get (D := (dC, dI)) (ci := 2) (v := .ref (a 15)) (C := RX2) (T := TX2) (N := 12) hx hb hts (iwX2 _) hown hK hP 7 rfl rfl 7 (by decide) (hts _ (kc k_90)) (fun _ h9 => h9) rfl dX3_thingAt_105 ?_
    refine lv_iload_n hx hb dX3_thingAt_108 rfl (lv_at hl 1 rfl) ?_
    refine va_zald (D := (dC, dI)) (f := σ 15) hx hb hK hP 15 1 rfl rfl (i := x1) hn_2 dX3_thingAt_109 ?_
    refine lv_if_eq (tgt := 117) hx hb dX3_thingAt_110 (by decide) (fun c_110_7 => ?_) (fun c_110_7 => ?_)
    · skip
      rw [if_pos c_110_7] at hw
      refine lv_iconst (v := 0) hx hb dX3_thingAt_117 (by decide) ?_
      refine vx_ret ?_
      refine W.widen (k := 2) (n := 12) (Nat.le_of_ble_eq_true rfl) (Nat.le_of_ble_eq_true rfl) ?_
      exact W.iret (v := (0 : Int32)) hx hb hr (fun t ht hW => ⟨⟨(0 : Int32), σ, rfl, hR.symm.trans hw, by rw [ht]; exact hP, va_K.moved hW.alike hK, hD⟩, hS.F ht⟩) hS.2.2 dX3_thingAt_118
    · skip
      rw [if_neg c_110_7] at hw
      refine lv_iconst (v := 1) hx hb dX3_thingAt_113 (by decide) ?_
      refine lv_goto (tgt := 118) hx hb dX3_thingAt_114 (by decide) ?_
      refine vx_ret ?_
      refine W.widen (k := 2) (n := 12) (Nat.le_of_ble_eq_true rfl) (Nat.le_of_ble_eq_true rfl) ?_
      exact W.iret (v := (1 : Int32)) hx hb hr (fun t ht hW => ⟨⟨(1 : Int32), σ, rfl, hR.symm.trans hw, by rw [ht]; exact hP, va_K.moved hW.alike hK, hD⟩, hS.F ht⟩) hS.2.2 dX3_thingAt_118
  rw [if_neg c_12_6] at hw
  by_cases c_12_8 : x2 = (4 : Int32)
  · skip
    rw [if_pos c_12_8] at hw
    refine lv_tableIn (tgt := 119) hx hb dX3_thingAt_12 (by rw [c_12_8]; decide) (by rw [c_12_8]; decide) (by rw [c_12_8]; rfl) (by decide) ?_
    refine lv_aload_n hx hb dX3_thingAt_119 rfl (lv_at hl 0 rfl) ?_
    refine va_get (D := (dC, dI)) (ci := 3) (v := .ref (a 7)) (C := RX3) (T := TX3) (N := 6) hx hb hts (iwX3 _) hown hK hP 0 rfl rfl 1 (by decide) (hts _ (kc k_155)) (fun _ h9 => h9) rfl dX3_thingAt_120 ?_
    refine va_get (D := (dC, dI)) (ci := 2) (v := .ref (a 17)) (C := RX2) (T := TX2) (N := 12) hx hb hts (iwX2 _) hown hK hP 7 rfl rfl 9 (by decide) (hts _ (kc k_94)) (fun _ h9 => h9) rfl dX3_thingAt_123 ?_
    refine lv_iload_n hx hb dX3_thingAt_126 rfl (lv_at hl 1 rfl) ?_
    refine lv_iconst (v := 3) hx hb dX3_thingAt_127 (by decide) ?_
    refine lv_imul hx hb dX3_thingAt_128 ?_
    refine lv_iload_n hx hb dX3_thingAt_129 rfl (lv_at hl 2 rfl) ?_
    refine lv_iadd hx hb dX3_thingAt_130 ?_
    refine lv_iconst (v := 4) hx hb dX3_thingAt_131 (by decide) ?_
    refine lv_isub hx hb dX3_thingAt_132 ?_
    refine va_iald (D := (dC, dI)) (f := σ 17) hx hb hK hP 17 0 rfl rfl (i := ((x1 * (3 : Int32)) + x2) - (4 : Int32)) (in_swK hn_2 (kx := 4) (km := 4) (c_12_8.trans (by decide)) (by decide) (by decide) (by decide) (by decide)) dX3_thingAt_133 ?_
    refine vx_ret ?_
    refine W.widen (k := 2) (n := 12) (Nat.le_of_ble_eq_true rfl) (Nat.le_of_ble_eq_true rfl) ?_
    exact W.iret (v := σ 17 (((x1 * (3 : Int32)) + x2) - (4 : Int32)).toNatClampNeg) hx hb hr (fun t ht hW => ⟨⟨σ 17 (((x1 * (3 : Int32)) + x2) - (4 : Int32)).toNatClampNeg, σ, rfl, hR.symm.trans hw, by rw [ht]; exact hP, va_K.moved hW.alike hK, hD⟩, hS.F ht⟩) hS.2.2 dX3_thingAt_134
  rw [if_neg c_12_8] at hw
  by_cases c_12_9 : x2 = (5 : Int32)
  · skip
    rw [if_pos c_12_9] at hw
    refine lv_tableIn (tgt := 119) hx hb dX3_thingAt_12 (by rw [c_12_9]; decide) (by rw [c_12_9]; decide) (by rw [c_12_9]; rfl) (by decide) ?_
    refine lv_aload_n hx hb dX3_thingAt_119 rfl (lv_at hl 0 rfl) ?_
    refine va_get (D := (dC, dI)) (ci := 3) (v := .ref (a 7)) (C := RX3) (T := TX3) (N := 6) hx hb hts (iwX3 _) hown hK hP 0 rfl rfl 1 (by decide) (hts _ (kc k_155)) (fun _ h9 => h9) rfl dX3_thingAt_120 ?_
    refine va_get (D := (dC, dI)) (ci := 2) (v := .ref (a 17)) (C := RX2) (T := TX2) (N := 12) hx hb hts (iwX2 _) hown hK hP 7 rfl rfl 9 (by decide) (hts _ (kc k_94)) (fun _ h9 => h9) rfl dX3_thingAt_123 ?_
    refine lv_iload_n hx hb dX3_thingAt_126 rfl (lv_at hl 1 rfl) ?_
    refine lv_iconst (v := 3) hx hb dX3_thingAt_127 (by decide) ?_
    refine lv_imul hx hb dX3_thingAt_128 ?_
    refine lv_iload_n hx hb dX3_thingAt_129 rfl (lv_at hl 2 rfl) ?_
    refine lv_iadd hx hb dX3_thingAt_130 ?_
    refine lv_iconst (v := 4) hx hb dX3_thingAt_131 (by decide) ?_
    refine lv_isub hx hb dX3_thingAt_132 ?_
    refine va_iald (D := (dC, dI)) (f := σ 17) hx hb hK hP 17 0 rfl rfl (i := ((x1 * (3 : Int32)) + x2) - (4 : Int32)) (in_swK hn_2 (kx := 5) (km := 4) (c_12_9.trans (by decide)) (by decide) (by decide) (by decide) (by decide)) dX3_thingAt_133 ?_
    refine vx_ret ?_
    refine W.widen (k := 2) (n := 12) (Nat.le_of_ble_eq_true rfl) (Nat.le_of_ble_eq_true rfl) ?_
    exact W.iret (v := σ 17 (((x1 * (3 : Int32)) + x2) - (4 : Int32)).toNatClampNeg) hx hb hr (fun t ht hW => ⟨⟨σ 17 (((x1 * (3 : Int32)) + x2) - (4 : Int32)).toNatClampNeg, σ, rfl, hR.symm.trans hw, by rw [ht]; exact hP, va_K.moved hW.alike hK, hD⟩, hS.F ht⟩) hS.2.2 dX3_thingAt_134
  rw [if_neg c_12_9] at hw
  by_cases c_12_10 : x2 = (6 : Int32)
  · skip
    rw [if_pos c_12_10] at hw
    refine lv_tableIn (tgt := 119) hx hb dX3_thingAt_12 (by rw [c_12_10]; decide) (by rw [c_12_10]; decide) (by rw [c_12_10]; rfl) (by decide) ?_
    refine lv_aload_n hx hb dX3_thingAt_119 rfl (lv_at hl 0 rfl) ?_
    refine va_get (D := (dC, dI)) (ci := 3) (v := .ref (a 7)) (C := RX3) (T := TX3) (N := 6) hx hb hts (iwX3 _) hown hK hP 0 rfl rfl 1 (by decide) (hts _ (kc k_155)) (fun _ h9 => h9) rfl dX3_thingAt_120 ?_
    refine va_get (D := (dC, dI)) (ci := 2) (v := .ref (a 17)) (C := RX2) (T := TX2) (N := 12) hx hb hts (iwX2 _) hown hK hP 7 rfl rfl 9 (by decide) (hts _ (kc k_94)) (fun _ h9 => h9) rfl dX3_thingAt_123 ?_
    refine lv_iload_n hx hb dX3_thingAt_126 rfl (lv_at hl 1 rfl) ?_
    refine lv_iconst (v := 3) hx hb dX3_thingAt_127 (by decide) ?_
    refine lv_imul hx hb dX3_thingAt_128 ?_
    refine lv_iload_n hx hb dX3_thingAt_129 rfl (lv_at hl 2 rfl) ?_
    refine lv_iadd hx hb dX3_thingAt_130 ?_
    refine lv_iconst (v := 4) hx hb dX3_thingAt_131 (by decide) ?_
    refine lv_isub hx hb dX3_thingAt_132 ?_
    refine va_iald (D := (dC, dI)) (f := σ 17) hx hb hK hP 17 0 rfl rfl (i := ((x1 * (3 : Int32)) + x2) - (4 : Int32)) (in_swK hn_2 (kx := 6) (km := 4) (c_12_10.trans (by decide)) (by decide) (by decide) (by decide) (by decide)) dX3_thingAt_133 ?_
    refine vx_ret ?_
    refine W.widen (k := 2) (n := 12) (Nat.le_of_ble_eq_true rfl) (Nat.le_of_ble_eq_true rfl) ?_
    exact W.iret (v := σ 17 (((x1 * (3 : Int32)) + x2) - (4 : Int32)).toNatClampNeg) hx hb hr (fun t ht hW => ⟨⟨σ 17 (((x1 * (3 : Int32)) + x2) - (4 : Int32)).toNatClampNeg, σ, rfl, hR.symm.trans hw, by rw [ht]; exact hP, va_K.moved hW.alike hK, hD⟩, hS.F ht⟩) hS.2.2 dX3_thingAt_134
  rw [if_neg c_12_10] at hw
  by_cases c_12_11 : x2 = (7 : Int32)
  · skip
    rw [if_pos c_12_11] at hw
    refine lv_tableIn (tgt := 135) hx hb dX3_thingAt_12 (by rw [c_12_11]; decide) (by rw [c_12_11]; decide) (by rw [c_12_11]; rfl) (by decide) ?_
    refine lv_aload_n hx hb dX3_thingAt_135 rfl (lv_at hl 0 rfl) ?_
    refine va_get (D := (dC, dI)) (ci := 3) (v := .ref (a 7)) (C := RX3) (T := TX3) (N := 6) hx hb hts (iwX3 _) hown hK hP 0 rfl rfl 1 (by decide) (hts _ (kc k_155)) (fun _ h9 => h9) rfl dX3_thingAt_136 ?_
    refine va_get (D := (dC, dI)) (ci := 2) (v := .ref (a 16)) (C := RX2) (T := TX2) (N := 12) hx hb hts (iwX2 _) hown hK hP 7 rfl rfl 8 (by decide) (hts _ (kc k_92)) (fun _ h9 => h9) rfl dX3_thingAt_139 ?_
    refine lv_iload_n hx hb dX3_thingAt_142 rfl (lv_at hl 1 rfl) ?_
    refine lv_iconst (v := 3) hx hb dX3_thingAt_143 (by decide) ?_
    refine lv_imul hx hb dX3_thingAt_144 ?_
    refine lv_iload_n hx hb dX3_thingAt_145 rfl (lv_at hl 2 rfl) ?_
    refine lv_iadd hx hb dX3_thingAt_146 ?_
    refine lv_bipush (v := 7) hx hb dX3_thingAt_147 (by decide) ?_
    refine lv_isub hx hb dX3_thingAt_149 ?_
    refine va_iald (D := (dC, dI)) (f := σ 16) hx hb hK hP 16 0 rfl rfl (i := ((x1 * (3 : Int32)) + x2) - (7 : Int32)) (in_swK hn_2 (kx := 7) (km := 7) (c_12_11.trans (by decide)) (by decide) (by decide) (by decide) (by decide)) dX3_thingAt_150 ?_
    refine vx_ret ?_
    refine W.widen (k := 2) (n := 12) (Nat.le_of_ble_eq_true rfl) (Nat.le_of_ble_eq_true rfl) ?_
    exact W.iret (v := σ 16 (((x1 * (3 : Int32)) + x2) - (7 : Int32)).toNatClampNeg) hx hb hr (fun t ht hW => ⟨⟨σ 16 (((x1 * (3 : Int32)) + x2) - (7 : Int32)).toNatClampNeg, σ, rfl, hR.symm.trans hw, by rw [ht]; exact hP, va_K.moved hW.alike hK, hD⟩, hS.F ht⟩) hS.2.2 dX3_thingAt_151
  rw [if_neg c_12_11] at hw
  by_cases c_12_12 : x2 = (8 : Int32)
  · skip
    rw [if_pos c_12_12] at hw
    refine lv_tableIn (tgt := 135) hx hb dX3_thingAt_12 (by rw [c_12_12]; decide) (by rw [c_12_12]; decide) (by rw [c_12_12]; rfl) (by decide) ?_
    refine lv_aload_n hx hb dX3_thingAt_135 rfl (lv_at hl 0 rfl) ?_
    refine va_get (D := (dC, dI)) (ci := 3) (v := .ref (a 7)) (C := RX3) (T := TX3) (N := 6) hx hb hts (iwX3 _) hown hK hP 0 rfl rfl 1 (by decide) (hts _ (kc k_155)) (fun _ h9 => h9) rfl dX3_thingAt_136 ?_
    refine va_get (D := (dC, dI)) (ci := 2) (v := .ref (a 16)) (C := RX2) (T := TX2) (N := 12) hx hb hts (iwX2 _) hown hK hP 7 rfl rfl 8 (by decide) (hts _ (kc k_92)) (fun _ h9 => h9) rfl dX3_thingAt_139 ?_
    refine lv_iload_n hx hb dX3_thingAt_142 rfl (lv_at hl 1 rfl) ?_
    refine lv_iconst (v := 3) hx hb dX3_thingAt_143 (by decide) ?_
    refine lv_imul hx hb dX3_thingAt_144 ?_
    refine lv_iload_n hx hb dX3_thingAt_145 rfl (lv_at hl 2 rfl) ?_
    refine lv_iadd hx hb dX3_thingAt_146 ?_
    refine lv_bipush (v := 7) hx hb dX3_thingAt_147 (by decide) ?_
    refine lv_isub hx hb dX3_thingAt_149 ?_
    refine va_iald (D := (dC, dI)) (f := σ 16) hx hb hK hP 16 0 rfl rfl (i := ((x1 * (3 : Int32)) + x2) - (7 : Int32)) (in_swK hn_2 (kx := 8) (km := 7) (c_12_12.trans (by decide)) (by decide) (by decide) (by decide) (by decide)) dX3_thingAt_150 ?_
    refine vx_ret ?_
    refine W.widen (k := 2) (n := 12) (Nat.le_of_ble_eq_true rfl) (Nat.le_of_ble_eq_true rfl) ?_
    exact W.iret (v := σ 16 (((x1 * (3 : Int32)) + x2) - (7 : Int32)).toNatClampNeg) hx hb hr (fun t ht hW => ⟨⟨σ 16 (((x1 * (3 : Int32)) + x2) - (7 : Int32)).toNatClampNeg, σ, rfl, hR.symm.trans hw, by rw [ht]; exact hP, va_K.moved hW.alike hK, hD⟩, hS.F ht⟩) hS.2.2 dX3_thingAt_151
  rw [if_neg c_12_12] at hw
  by_cases c_12_13 : x2 = (9 : Int32)
  · skip
    rw [if_pos c_12_13] at hw
    refine lv_tableIn (tgt := 135) hx hb dX3_thingAt_12 (by rw [c_12_13]; decide) (by rw [c_12_13]; decide) (by rw [c_12_13]; rfl) (by decide) ?_
    refine lv_aload_n hx hb dX3_thingAt_135 rfl (lv_at hl 0 rfl) ?_
    refine va_get (D := (dC, dI)) (ci := 3) (v := .ref (a 7)) (C := RX3) (T := TX3) (N := 6) hx hb hts (iwX3 _) hown hK hP 0 rfl rfl 1 (by decide) (hts _ (kc k_155)) (fun _ h9 => h9) rfl dX3_thingAt_136 ?_
    refine va_get (D := (dC, dI)) (ci := 2) (v := .ref (a 16)) (C := RX2) (T := TX2) (N := 12) hx hb hts (iwX2 _) hown hK hP 7 rfl rfl 8 (by decide) (hts _ (kc k_92)) (fun _ h9 => h9) rfl dX3_thingAt_139 ?_
    refine lv_iload_n hx hb dX3_thingAt_142 rfl (lv_at hl 1 rfl) ?_
    refine lv_iconst (v := 3) hx hb dX3_thingAt_143 (by decide) ?_
    refine lv_imul hx hb dX3_thingAt_144 ?_
    refine lv_iload_n hx hb dX3_thingAt_145 rfl (lv_at hl 2 rfl) ?_
    refine lv_iadd hx hb dX3_thingAt_146 ?_
    refine lv_bipush (v := 7) hx hb dX3_thingAt_147 (by decide) ?_
    refine lv_isub hx hb dX3_thingAt_149 ?_
    refine va_iald (D := (dC, dI)) (f := σ 16) hx hb hK hP 16 0 rfl rfl (i := ((x1 * (3 : Int32)) + x2) - (7 : Int32)) (in_swK hn_2 (kx := 9) (km := 7) (c_12_13.trans (by decide)) (by decide) (by decide) (by decide) (by decide)) dX3_thingAt_150 ?_
    refine vx_ret ?_
    refine W.widen (k := 2) (n := 12) (Nat.le_of_ble_eq_true rfl) (Nat.le_of_ble_eq_true rfl) ?_
    exact W.iret (v := σ 16 (((x1 * (3 : Int32)) + x2) - (7 : Int32)).toNatClampNeg) hx hb hr (fun t ht hW => ⟨⟨σ 16 (((x1 * (3 : Int32)) + x2) - (7 : Int32)).toNatClampNeg, σ, rfl, hR.symm.trans hw, by rw [ht]; exact hP, va_K.moved hW.alike hK, hD⟩, hS.F ht⟩) hS.2.2 dX3_thingAt_151
  rw [if_neg c_12_13] at hw
  by_cases c_12_14 : x2 = (10 : Int32)
  · skip
    rw [if_pos c_12_14] at hw
    refine lv_tableIn (tgt := 152) hx hb dX3_thingAt_12 (by rw [c_12_14]; decide) (by rw [c_12_14]; decide) (by rw [c_12_14]; rfl) (by decide) ?_
    refine lv_aload_n hx hb dX3_thingAt_152 rfl (lv_at hl 0 rfl) ?_
    refine va_get (D := (dC, dI)) (ci := 3) (v := .ref (a 7)) (C := RX3) (T := TX3) (N := 6) hx hb hts (iwX3 _) hown hK hP 0 rfl rfl 1 (by decide) (hts _ (kc k_155)) (fun _ h9 => h9) rfl dX3_thingAt_153 ?_
    refine va_get (D := (dC, dI)) (ci := 2) (v := .ref (a 13)) (C := RX2) (T := TX2) (N := 12) hx hb hts (iwX2 _) hown hK hP 7 rfl rfl 5 (by decide) (hts _ (kc k_86)) (fun _ h9 => h9) rfl dX3_thingAt_156 ?_
    refine lv_iload_n hx hb dX3_thingAt_159 rfl (lv_at hl 1 rfl) ?_
    refine va_iald (D := (dC, dI)) (f := σ 13) hx hb hK hP 13 0 rfl rfl (i := x1) hn_2 dX3_thingAt_160 ?_
    refine vx_ret ?_
    refine W.widen (k := 2) (n := 12) (Nat.le_of_ble_eq_true rfl) (Nat.le_of_ble_eq_true rfl) ?_
    exact W.iret (v := σ 13 x1.toNatClampNeg) hx hb hr (fun t ht hW => ⟨⟨σ 13 x1.toNatClampNeg, σ, rfl, hR.symm.trans hw, by rw [ht]; exact hP, va_K.moved hW.alike hK, hD⟩, hS.F ht⟩) hS.2.2 dX3_thingAt_161
  rw [if_neg c_12_14] at hw
  refine lv_tableOut (tgt := 162) hx hb dX3_thingAt_12 (by have hc_12_3 := lv_neT c_12_3 (a := 0) (by decide); have hc_12_4 := lv_neT c_12_4 (a := 1) (by decide); have hc_12_5 := lv_neT c_12_5 (a := 2) (by decide); have hc_12_6 := lv_neT c_12_6 (a := 3) (by decide); have hc_12_8 := lv_neT c_12_8 (a := 4) (by decide); have hc_12_9 := lv_neT c_12_9 (a := 5) (by decide); have hc_12_10 := lv_neT c_12_10 (a := 6) (by decide); have hc_12_11 := lv_neT c_12_11 (a := 7) (by decide); have hc_12_12 := lv_neT c_12_12 (a := 8) (by decide); have hc_12_13 := lv_neT c_12_13 (a := 9) (by decide); have hc_12_14 := lv_neT c_12_14 (a := 10) (by decide); omega) (by decide) ?_
  exact vx_throwS (own := RX3) (cls := "java/lang/IllegalArgumentException") (text := "no such what") (names := ["java/lang/RuntimeException", "java/lang/Exception"]) hx hb hl9 hown (by decide) (by decide) (hts _ (kc k_266)) (hts _ (kc k_29)) (hz.2.2.1 4 _ rfl) (vx_hat (fun w hw9 => hts w (kc (at_155 w hw9))) ab_155 (vx_c (va_Nw.use rfl (hz.2.2.2.1.1 _ (by decide))) (vx_c (va_Nw.use rfl (hz.2.2.2.1.2.1 _ (by decide))) (vx_c (va_Nw.use rfl (hz.2.2.2.1.2.1 _ (by decide))) (vx_c (va_Nw.use rfl (hz.2.2.2.1.2.1 _ (by decide))) vx_n))))) go_151_155 hz.1 hz.2.1 hS (hl.1.trans hml.symm) dX3_thingAt_162 dX3_thingAt_165 dX3_thingAt_166 dX3_thingAt_168 dX3_thingAt_171 (fun x hx9 => (hEx x hx9).elim) (Nat.le_of_ble_eq_true rfl) (Nat.le_of_ble_eq_true rfl) (Nat.le_of_ble_eq_true rfl) (Nat.le_of_ble_eq_true rfl) hlocks (fun t hvm h1 h2 => ⟨_, hR.symm.trans hw, ⟨rfl, hP.kept (fun k q hq => h2 q.1 ((hP k q hq).lt)), va_K.moved hvm hK, hD⟩, Nat.le_trans hS.1 h1, fun q g1 g2 => by rw [h2 q (Nat.lt_of_lt_of_le g1 hS.1)]; exact hS.2.1 q g1 g2⟩) hS.2.2 (Nat.le_of_ble_eq_true rfl) (Nat.le_of_ble_eq_true rfl)
set_option maxHeartbeats 4000000 in
set_option maxRecDepth 100000 in
theorem m_X3_life (l : Launch) (hl9 : l.stackTraces = false) (dC : Nat → ClassId) (dI : Nat → Nat → Nat) (cI cZ : ClassId) (a : Nat → Nat) (zk : Nat → Nat) (sz : Nat) (σ : St) (x1 : Int32) (x2 : Int32) (hiv : IV σ) : vx_Met l yX3_life wsX3_life ({ frames := 7, cells := 3, slots := 18, locals := 111 }) (pPu dC dI cI cZ a zk sz σ [.ref (a 0), .int x1, .int x2]) (va_Qi (fun r σ9 => sp_life σ x1 x2 = .ok (r, σ9)) (bMu dC dI cI cZ a (va_A (cw cI cZ a σ) sz)) (va_A (cw cI cZ a σ) sz)) (vx_X (fun E : String => sp_life σ x1 x2 = .error E) (bXu dC dI cI cZ a (va_A (cw cI cZ a σ) sz) σ) (va_A (cw cI cZ a σ) sz)) 3 18 (va_A (cw cI cZ a σ) sz) := by
  refine vx_ofW (cc := cX3_life) (maxL := 6) (ret := (some .int)) (by decide) rfl ?_
  intro p e s m args below meth c s₁ B hml hEx hv
  obtain ⟨rfl, hsz, hP, hK, hD0, hz⟩ := hv
  have hx := B.exec
  have hb := B.bytes
  have hr := B.returns
  have hts := atoms_spec (ws := wsX3_life) B.pre
  have hown : s.vm.findClass RX3 = some m.cls := findClass_of_methodNamed B.named
  have hlocks := B.notSynchronized
  subst hsz
  have hD := hD0.self (sz := s.heap.size)
  generalize hAe : va_A (cw cI cZ a σ) s.heap.size = A at hD hz ⊢
  have hA : ∀ q : Nat, s.heap.size ≤ q → A q := fun q h => by rw [← hAe]; exact Or.inr h
  clear hAe hD0
  obtain ⟨H, hHe⟩ : ∃ z, z = s.heap := ⟨_, rfl⟩
  obtain ⟨locs, hLe⟩ : ∃ z : List Loc, z = [] := ⟨_, rfl⟩
  have hS : va_S A s.heap H locs := by rw [hHe, hLe]; exact va_S.rf
  have hP : va_P (dC, dI) vwCl (cw cI cZ a σ) H := by rw [hHe]; exact hP
  refine W_ofH hHe hLe ?_
  clear hHe hLe
  have hl := lv_entry ([.ref (a 0), .int x1, .int x2]) (n := 6) (Nat.le_of_ble_eq_true rfl)
  rw [lg_entry_eq]
  generalize (lg_sl ([.ref (a 0), .int x1, .int x2]) ++ List.replicate (6 - (lg_sl ([.ref (a 0), .int x1, .int x2])).length) Slot.unset).toArray = ls at hl ⊢
  have hl : lv_has ls 6 [(0, .ref (a 0)), (1, .int x1), (2, .int x2)] := hl
  obtain ⟨R, hR⟩ : ∃ z, z = sp_life σ x1 x2 := ⟨_, rfl⟩
  have hw := hR
  unfold sp_life at hw
  refine lv_iload_n hx hb dX3_life_0 rfl (lv_at hl 1 rfl) ?_
  refine lv_iconst (v := 5) hx hb dX3_life_1 (by decide) ?_
  refine nx_call (vx_runS (As := [.int x1, .int (5 : Int32)]) (rest := []) ⟨hx, hb, hml, hown, hts⟩ (m_X3_needKnown l hl9 zk H.size x1 (5 : Int32)) (cwS 2 hts (gS k_263 k_264 k_20 k_265) rfl rfl rfl (by decide +kernel) ⟨Nat.le_of_ble_eq_true rfl, Nat.le_of_ble_eq_true rfl⟩) (pn_need hz hS hA) rfl rfl hl.1 rfl (lv_room (Nat.le_of_ble_eq_true rfl)) dX3_life_2 ⟨Nat.le_of_ble_eq_true rfl, Nat.le_of_ble_eq_true rfl⟩) hP hD hS hA (fun c_2_1 => ?_) (fun c_2_1 H1 q9 ce hP1 hS1 hc1 hc2 hc3 => vx_out (fun x hx9 => (hEx x hx9).elim) hlocks hc1 hc2 hc3 (fun t ht hvm => ⟨_, hR.symm.trans (hw.trans (if_neg c_2_1)), ⟨rfl, by rw [ht]; exact hP1, va_K.moved hvm hK, hD⟩, hS1.F ht⟩) hS1.2.2 (Nat.le_of_ble_eq_true rfl) (Nat.le_of_ble_eq_true rfl))
  rw [if_pos c_2_1] at hw
  have hn_2 : vp_in x1 5 := okK_in c_2_1 (n := 5) (by decide) (by decide)
  refine lv_iload_n hx hb dX3_life_5 rfl (lv_at hl 2 rfl) ?_
  refine lv_iconst (v := 2) hx hb dX3_life_6 (by decide) ?_
  refine nx_call (vx_runS (As := [.int x2, .int (2 : Int32)]) (rest := []) ⟨hx, hb, hml, hown, hts⟩ (m_X3_needKnown l hl9 zk H.size x2 (2 : Int32)) (cwS 2 hts (gS k_263 k_264 k_20 k_265) rfl rfl rfl (by decide +kernel) ⟨Nat.le_of_ble_eq_true rfl, Nat.le_of_ble_eq_true rfl⟩) (pn_need hz hS hA) rfl rfl hl.1 rfl (lv_room (Nat.le_of_ble_eq_true rfl)) dX3_life_7 ⟨Nat.le_of_ble_eq_true rfl, Nat.le_of_ble_eq_true rfl⟩) hP hD hS hA (fun c_7_3 => ?_) (fun c_7_3 H1 q9 ce hP1 hS1 hc1 hc2 hc3 => vx_out (fun x hx9 => (hEx x hx9).elim) hlocks hc1 hc2 hc3 (fun t ht hvm => ⟨_, hR.symm.trans (hw.trans (if_neg c_7_3)), ⟨rfl, by rw [ht]; exact hP1, va_K.moved hvm hK, hD⟩, hS1.F ht⟩) hS1.2.2 (Nat.le_of_ble_eq_true rfl) (Nat.le_of_ble_eq_true rfl))
  rw [if_pos c_7_3] at hw
  have hn_4 : vp_in x2 2 := okK_in c_7_3 (n := 2) (by decide) (by decide)
  refine lv_aload_n hx hb dX3_life_10 rfl (lv_at hl 0 rfl) ?_
  refine va_get (D := (dC, dI)) (ci := 3) (v := .ref (a 7)) (C := RX3) (T := TX3) (N := 6) hx hb hts (iwX3 _) hown hK hP 0 rfl rfl 1 (by decide) (hts _ (kc k_155)) (fun _ h9 => h9) rfl dX3_life_11 ?_
  refine lv_iload_n hx hb dX3_life_14 rfl (lv_at hl 1 rfl) ?_
  refine vp_callSi (W.runV (As := [.int x1]) (rest := []) ⟨hx, hb, hml, hown, hts⟩ (m_X2_countScrapped l dC dI cI cZ a σ x1 hiv) (cwV 1 hts (gV k_509 k_510 k_511 k_22 k_512) rfl rfl rfl (by decide +kernel) ⟨Nat.le_of_ble_eq_true rfl, Nat.le_of_ble_eq_true rfl⟩) (pv_ro (q := (RX2, TX2, 12)) (q0 := 7) (ci := 2) hK hP rfl rfl) rfl rfl hl.1 rfl (lv_room (Nat.le_of_ble_eq_true rfl)) dX3_life_15 ⟨Nat.le_of_ble_eq_true rfl, Nat.le_of_ble_eq_true rfl⟩) (fun r hrr => ?_)
  subst hrr
  refine lv_istore_n (lv' := [(3, .int (sp_countScrapped σ x1)), (0, .ref (a 0)), (1, .int x1), (2, .int x2)]) hx hb dX3_life_18 rfl hl (by decide) rfl (fun ls hl => ?_)
  refine lv_iload_n hx hb dX3_life_19 rfl (lv_at hl 0 rfl) ?_
  refine lv_if_ne (tgt := 33) hx hb dX3_life_20 (by decide) (fun c_20_5 => ?_) (fun c_20_5 => ?_)
  · skip
    rw [if_neg c_20_5] at hw
    obtain ⟨dv, hdv, hdv1⟩ := cs_dv hiv c_20_5
    refine lv_aload_n hx hb dX3_life_33 rfl (lv_at hl 1 rfl) ?_
    refine va_get (D := (dC, dI)) (ci := 3) (v := .ref (a 7)) (C := RX3) (T := TX3) (N := 6) hx hb hts (iwX3 _) hown hK hP 0 rfl rfl 1 (by decide) (hts _ (kc k_155)) (fun _ h9 => h9) rfl dX3_life_34 ?_
    refine lv_iload_n hx hb dX3_life_37 rfl (lv_at hl 2 rfl) ?_
    refine vp_callSi (W.runV (As := [.int x1]) (rest := []) ⟨hx, hb, hml, hown, hts⟩ (m_X2_sumOfLives l dC dI cI cZ a σ x1 hiv) (cwV 1 hts (gV k_529 k_530 k_531 k_22 k_532) rfl rfl rfl (by decide +kernel) ⟨Nat.le_of_ble_eq_true rfl, Nat.le_of_ble_eq_true rfl⟩) (pv_ro (q := (RX2, TX2, 12)) (q0 := 7) (ci := 2) hK hP rfl rfl) rfl rfl hl.1 rfl (lv_room (Nat.le_of_ble_eq_true rfl)) dX3_life_38 ⟨Nat.le_of_ble_eq_true rfl, Nat.le_of_ble_eq_true rfl⟩) (fun r hrr => ?_)
    subst hrr
    refine lv_istore (lv' := [(4, .int (sp_sumOfLives σ x1)), (3, .int (sp_countScrapped σ x1)), (0, .ref (a 0)), (1, .int x1), (2, .int x2)]) hx hb dX3_life_41 hl (by decide) rfl (fun ls hl => ?_)
    refine lv_iload hx hb dX3_life_43 (lv_at hl 0 rfl) ?_
    refine lv_iload_n hx hb dX3_life_45 rfl (lv_at hl 1 rfl) ?_
    refine vp_callSi (W.runS (As := [.int (sp_sumOfLives σ x1), .int (sp_countScrapped σ x1)]) (rest := []) ⟨hx, hb, hml, hown, hts⟩ (m_X3_commonDivisor l (sp_sumOfLives σ x1) (sp_countScrapped σ x1) dv hdv hdv1) (cwS 2 hts (gS k_533 k_534 k_20 k_535) rfl rfl rfl (by decide +kernel) ⟨Nat.le_of_ble_eq_true rfl, Nat.le_of_ble_eq_true rfl⟩) ps_0 rfl rfl hl.1 rfl (lv_room (Nat.le_of_ble_eq_true rfl)) dX3_life_46 ⟨Nat.le_of_ble_eq_true rfl, Nat.le_of_ble_eq_true rfl⟩) (fun r hrr => ?_)
    subst hrr
    refine lv_istore (lv' := [(5, .int (sp_commonDivisor (sp_sumOfLives σ x1) (sp_countScrapped σ x1))), (4, .int (sp_sumOfLives σ x1)), (3, .int (sp_countScrapped σ x1)), (0, .ref (a 0)), (1, .int x1), (2, .int x2)]) hx hb dX3_life_49 hl (by decide) rfl (fun ls hl => ?_)
    refine lv_iload_n hx hb dX3_life_51 rfl (lv_at hl 5 rfl) ?_
    refine lv_if_ne (tgt := 60) hx hb dX3_life_52 (by decide) (fun c_52_6 => ?_) (fun c_52_6 => ?_)
    · skip
      rw [if_neg c_52_6] at hw
      refine lv_iload_n hx hb dX3_life_60 rfl (lv_at hl 2 rfl) ?_
      refine lv_iload hx hb dX3_life_61 (lv_at hl 0 rfl) ?_
      refine lv_idiv hx hb dX3_life_63 (cd_ne0 hdv hdv1) ?_
      refine vx_ret ?_
      refine W.widen (k := 3) (n := 18) (Nat.le_of_ble_eq_true rfl) (Nat.le_of_ble_eq_true rfl) ?_
      exact W.iret (v := (sp_countScrapped σ x1) / (sp_commonDivisor (sp_sumOfLives σ x1) (sp_countScrapped σ x1))) hx hb hr (fun t ht hW => ⟨⟨(sp_countScrapped σ x1) / (sp_commonDivisor (sp_sumOfLives σ x1) (sp_countScrapped σ x1)), σ, rfl, hR.symm.trans hw, by rw [ht]; exact hP, va_K.moved hW.alike hK, hD⟩, hS.F ht⟩) hS.2.2 dX3_life_64
    · skip
      rw [if_pos c_52_6] at hw
      refine lv_iload hx hb dX3_life_55 (lv_at hl 1 rfl) ?_
      refine lv_goto (tgt := 61) hx hb dX3_life_57 (by decide) ?_
      refine lv_iload hx hb dX3_life_61 (lv_at hl 0 rfl) ?_
      refine lv_idiv hx hb dX3_life_63 (cd_ne0 hdv hdv1) ?_
      refine vx_ret ?_
      refine W.widen (k := 3) (n := 18) (Nat.le_of_ble_eq_true rfl) (Nat.le_of_ble_eq_true rfl) ?_
      exact W.iret (v := (sp_sumOfLives σ x1) / (sp_commonDivisor (sp_sumOfLives σ x1) (sp_countScrapped σ x1))) hx hb hr (fun t ht hW => ⟨⟨(sp_sumOfLives σ x1) / (sp_commonDivisor (sp_sumOfLives σ x1) (sp_countScrapped σ x1)), σ, rfl, hR.symm.trans hw, by rw [ht]; exact hP, va_K.moved hW.alike hK, hD⟩, hS.F ht⟩) hS.2.2 dX3_life_64
  · skip
    rw [if_pos c_20_5] at hw
    exact vx_throwS (own := RX3) (cls := "java/lang/ArithmeticException") (text := "no thing of this kind was scrapped") (names := ["java/lang/RuntimeException", "java/lang/Exception"]) hx hb hl9 hown (by decide) (by decide) (hts _ (kc k_513)) (hts _ (kc k_33)) (hz.2.2.1 5 _ rfl) (vx_hat (fun w hw9 => hts w (kc (at_163 w hw9))) ab_163 (vx_c (va_Nw.use rfl (hz.2.2.2.1.1 _ (by decide))) (vx_c (va_Nw.use rfl (hz.2.2.2.1.2.1 _ (by decide))) (vx_c (va_Nw.use rfl (hz.2.2.2.1.2.1 _ (by decide))) (vx_c (va_Nw.use rfl (hz.2.2.2.1.2.1 _ (by decide))) vx_n))))) go_159_163 hz.1 hz.2.1 hS (hl.1.trans hml.symm) dX3_life_23 dX3_life_26 dX3_life_27 dX3_life_29 dX3_life_32 (fun x hx9 => (hEx x hx9).elim) (Nat.le_of_ble_eq_true rfl) (Nat.le_of_ble_eq_true rfl) (Nat.le_of_ble_eq_true rfl) (Nat.le_of_ble_eq_true rfl) hlocks (fun t hvm h1 h2 => ⟨_, hR.symm.trans hw, ⟨rfl, hP.kept (fun k q hq => h2 q.1 ((hP k q hq).lt)), va_K.moved hvm hK, hD⟩, Nat.le_trans hS.1 h1, fun q g1 g2 => by rw [h2 q (Nat.lt_of_lt_of_le g1 hS.1)]; exact hS.2.1 q g1 g2⟩) hS.2.2 (Nat.le_of_ble_eq_true rfl) (Nat.le_of_ble_eq_true rfl)
set_option maxHeartbeats 4000000 in
set_option maxRecDepth 100000 in
theorem m_X3_plan (l : Launch) (hl9 : l.stackTraces = false) (dC : Nat → ClassId) (dI : Nat → Nat → Nat) (cI cZ : ClassId) (a : Nat → Nat) (zk : Nat → Nat) (sz : Nat) (σ : St) (x1 : Int64) (x3 : Int32) (x4 : Int32) (x5 : Int32) (hiv : IV σ) : vx_Met l yX3_plan wsX3_plan ({ frames := 10, cells := 2, slots := 12, locals := 247 }) (pPu dC dI cI cZ a zk sz σ [.ref (a 0), .long x1, .int x3, .int x4, .int x5]) (va_Qi (fun r σ9 => sp_plan σ x1 x3 x4 x5 = .ok (r, σ9)) (bMu dC dI cI cZ a (va_A (cw cI cZ a σ) sz)) (va_A (cw cI cZ a σ) sz)) (vx_X (fun E : String => sp_plan σ x1 x3 x4 x5 = .error E) (bXu dC dI cI cZ a (va_A (cw cI cZ a σ) sz) σ) (va_A (cw cI cZ a σ) sz)) 2 12 (va_A (cw cI cZ a σ) sz) := by
  refine vx_ofW (cc := cX3_plan) (maxL := 6) (ret := (some .int)) (by decide) rfl ?_
  intro p e s m args below meth c s₁ B hml hEx hv
  obtain ⟨rfl, hsz, hP, hK, hD0, hz⟩ := hv
  have hx := B.exec
  have hb := B.bytes
  have hr := B.returns
  have hts := atoms_spec (ws := wsX3_plan) B.pre
  have hown : s.vm.findClass RX3 = some m.cls := findClass_of_methodNamed B.named
  have hlocks := B.notSynchronized
  subst hsz
  have hD := hD0.self (sz := s.heap.size)
  generalize hAe : va_A (cw cI cZ a σ) s.heap.size = A at hD hz ⊢
  have hA : ∀ q : Nat, s.heap.size ≤ q → A q := fun q h => by rw [← hAe]; exact Or.inr h
  clear hAe hD0
  obtain ⟨H, hHe⟩ : ∃ z, z = s.heap := ⟨_, rfl⟩
  obtain ⟨locs, hLe⟩ : ∃ z : List Loc, z = [] := ⟨_, rfl⟩
  have hS : va_S A s.heap H locs := by rw [hHe, hLe]; exact va_S.rf
  have hP : va_P (dC, dI) vwCl (cw cI cZ a σ) H := by rw [hHe]; exact hP
  refine W_ofH hHe hLe ?_
  clear hHe hLe
  have hl := lv_entry ([.ref (a 0), .long x1, .int x3, .int x4, .int x5]) (n := 6) (Nat.le_of_ble_eq_true rfl)
  rw [lg_entry_eq]
  generalize (lg_sl ([.ref (a 0), .long x1, .int x3, .int x4, .int x5]) ++ List.replicate (6 - (lg_sl ([.ref (a 0), .long x1, .int x3, .int x4, .int x5])).length) Slot.unset).toArray = ls at hl ⊢
  have hl : lv_has ls 6 [(0, .ref (a 0)), (1, .long x1), (3, .int x3), (4, .int x4), (5, .int x5)] := hl
  obtain ⟨R, hR⟩ : ∃ z, z = sp_plan σ x1 x3 x4 x5 := ⟨_, rfl⟩
  have hw := hR
  unfold sp_plan at hw
  refine lv_iload hx hb dX3_plan_0 (lv_at hl 3 rfl) ?_
  refine lv_iconst (v := 0) hx hb dX3_plan_2 (by decide) ?_
  refine lv_bipush (v := 6) hx hb dX3_plan_3 (by decide) ?_
  refine nx_call (vx_runS (As := [.int x4, .int (0 : Int32), .int (6 : Int32)]) (rest := []) ⟨hx, hb, hml, hown, hts⟩ (m_X3_needRange l hl9 zk H.size x4 (0 : Int32) (6 : Int32)) (cwS 3 hts (gS k_182 k_183 k_20 k_184) rfl rfl rfl (by decide +kernel) ⟨Nat.le_of_ble_eq_true rfl, Nat.le_of_ble_eq_true rfl⟩) (pn_need hz hS hA) rfl rfl hl.1 rfl (lv_room (Nat.le_of_ble_eq_true rfl)) dX3_plan_5 ⟨Nat.le_of_ble_eq_true rfl, Nat.le_of_ble_eq_true rfl⟩) hP hD hS hA (fun c_5_1 => ?_) (fun c_5_1 H1 q9 ce hP1 hS1 hc1 hc2 hc3 => vx_out (fun x hx9 => (hEx x hx9).elim) hlocks hc1 hc2 hc3 (fun t ht hvm => ⟨_, hR.symm.trans (hw.trans (if_neg c_5_1)), ⟨rfl, by rw [ht]; exact hP1, va_K.moved hvm hK, hD⟩, hS1.F ht⟩) hS1.2.2 (Nat.le_of_ble_eq_true rfl) (Nat.le_of_ble_eq_true rfl))
  rw [if_pos c_5_1] at hw
  obtain ⟨hn4, hn46⟩ := okR_n c_5_1
  refine lv_iload hx hb dX3_plan_8 (lv_at hl 4 rfl) ?_
  refine lv_iconst (v := 1) hx hb dX3_plan_10 (by decide) ?_
  refine lv_iconst (v := 4) hx hb dX3_plan_11 (by decide) ?_
  refine nx_call (vx_runS (As := [.int x5, .int (1 : Int32), .int (4 : Int32)]) (rest := []) ⟨hx, hb, hml, hown, hts⟩ (m_X3_needRange l hl9 zk H.size x5 (1 : Int32) (4 : Int32)) (cwS 3 hts (gS k_182 k_183 k_20 k_184) rfl rfl rfl (by decide +kernel) ⟨Nat.le_of_ble_eq_true rfl, Nat.le_of_ble_eq_true rfl⟩) (pn_need hz hS hA) rfl rfl hl.1 rfl (lv_room (Nat.le_of_ble_eq_true rfl)) dX3_plan_12 ⟨Nat.le_of_ble_eq_true rfl, Nat.le_of_ble_eq_true rfl⟩) hP hD hS hA (fun c_12_2 => ?_) (fun c_12_2 H1 q9 ce hP1 hS1 hc1 hc2 hc3 => vx_out (fun x hx9 => (hEx x hx9).elim) hlocks hc1 hc2 hc3 (fun t ht hvm => ⟨_, hR.symm.trans (hw.trans (if_neg c_12_2)), ⟨rfl, by rw [ht]; exact hP1, va_K.moved hvm hK, hD⟩, hS1.F ht⟩) hS1.2.2 (Nat.le_of_ble_eq_true rfl) (Nat.le_of_ble_eq_true rfl))
  rw [if_pos c_12_2] at hw
  have hn5 := okR_w c_12_2
  refine lv_aload_n hx hb dX3_plan_15 rfl (lv_at hl 0 rfl) ?_
  refine va_get (D := (dC, dI)) (ci := 3) (v := .ref (a 19)) (C := RX3) (T := TX3) (N := 6) hx hb hts (iwX3 _) hown hK hP 0 rfl rfl 2 (by decide) (hts _ (kc k_156)) (fun _ h9 => h9) rfl dX3_plan_16 ?_
  refine lv_lload_n hx hb dX3_plan_19 rfl (lv_at hl 1 rfl) ?_
  refine lv_iload_n hx hb dX3_plan_20 rfl (lv_at hl 2 rfl) ?_
  refine lv_iload hx hb dX3_plan_21 (lv_at hl 3 rfl) ?_
  refine lv_iload hx hb dX3_plan_23 (lv_at hl 4 rfl) ?_
  have hFc := fr_all hD hS hA
  refine va_calli (va_runV (As := [.long x1, .int x3, .int x4, .int x5]) (rest := []) ⟨hx, hb, hml, hown, hts⟩ (m_X1_make l dC dI cI cZ a H.size σ x1 x3 x4 x5 hiv hn4 hn46 hn5) (cwV 4 hts (gV k_543 k_544 k_545 k_23 k_546) rfl rfl rfl (by decide +kernel) ⟨Nat.le_of_ble_eq_true rfl, Nat.le_of_ble_eq_true rfl⟩) (pv_mu (q := (RX1, TX1, 7)) (q0 := 19) (ci := 1) hK hP hD rfl rfl) rfl rfl hl.1 rfl (lv_room (Nat.le_of_ble_eq_true rfl)) dX3_plan_25 ⟨Nat.le_of_ble_eq_true rfl, Nat.le_of_ble_eq_true rfl⟩) hS (fun q _ h => hFc q h) hFc (fun r σ9 t H1 locs ht hvm hw9 hB hz1 hk1 hS => ?_)
  obtain ⟨hP, hK1, hD1⟩ := hB
  rw [ht] at hP
  have hD := hD1.weaken (fun _ _ _ h => hFc _ h)
  clear hFc hD1 hK1
  obtain ⟨rfl, rfl⟩ : r = (sp_make σ x1 x3 x4 x5).1 ∧ σ9 = (sp_make σ x1 x3 x4 x5).2 := ⟨congrArg Prod.fst hw9, congrArg Prod.snd hw9⟩
  generalize H1 = H at hP hS ⊢
  refine vx_ret ?_
  refine W.widen (k := 2) (n := 12) (Nat.le_of_ble_eq_true rfl) (Nat.le_of_ble_eq_true rfl) ?_
  exact W.iret (v := (sp_make σ x1 x3 x4 x5).1) hx hb hr (fun t ht hW => ⟨⟨(sp_make σ x1 x3 x4 x5).1, (sp_make σ x1 x3 x4 x5).2, rfl, hR.symm.trans hw, by rw [ht]; exact hP, va_K.moved hW.alike hK, hD⟩, hS.F ht⟩) hS.2.2 dX3_plan_28
end
section
set_option maxHeartbeats 4000000 in
set_option maxRecDepth 100000 in
theorem m_X3_week (l : Launch) (hl9 : l.stackTraces = false) (dC : Nat → ClassId) (dI : Nat → Nat → Nat) (cI cZ : ClassId) (a : Nat → Nat) (zk : Nat → Nat) (sz : Nat) (σ : St) (x1 : Int32) (hiv : IV σ) : vx_Met l yX3_week wsX3_week ({ frames := 7, cells := 1, slots := 6, locals := 111 }) (pPu dC dI cI cZ a zk sz σ [.ref (a 0), .int x1]) (va_Qi (fun r σ9 => sp_week σ x1 = .ok (r, σ9)) (bMu dC dI cI cZ a (va_A (cw cI cZ a σ) sz)) (va_A (cw cI cZ a σ) sz)) (vx_X (fun E : String => sp_week σ x1 = .error E) (bXu dC dI cI cZ a (va_A (cw cI cZ a σ) sz) σ) (va_A (cw cI cZ a σ) sz)) 1 6 (va_A (cw cI cZ a σ) sz) := by
  refine vx_ofW (cc := cX3_week) (maxL := 2) (ret := (some .int)) (by decide) rfl ?_
  intro p e s m args below meth c s₁ B hml hEx hv
  obtain ⟨rfl, hsz, hP, hK, hD0, hz⟩ := hv
  have hx := B.exec
  have hb := B.bytes
  have hr := B.returns
  have hts := atoms_spec (ws := wsX3_week) B.pre
  have hown : s.vm.findClass RX3 = some m.cls := findClass_of_methodNamed B.named
  have hlocks := B.notSynchronized
  subst hsz
  have hD := hD0.self (sz := s.heap.size)
  generalize hAe : va_A (cw cI cZ a σ) s.heap.size = A at hD hz ⊢
  have hA : ∀ q : Nat, s.heap.size ≤ q → A q := fun q h => by rw [← hAe]; exact Or.inr h
  clear hAe hD0
  obtain ⟨H, hHe⟩ : ∃ z, z = s.heap := ⟨_, rfl⟩
  obtain ⟨locs, hLe⟩ : ∃ z : List Loc, z = [] := ⟨_, rfl⟩
  have hS : va_S A s.heap H locs := by rw [hHe, hLe]; exact va_S.rf
  have hP : va_P (dC, dI) vwCl (cw cI cZ a σ) H := by rw [hHe]; exact hP
  refine W_ofH hHe hLe ?_
  clear hHe hLe
  have hl := lv_entry ([.ref (a 0), .int x1]) (n := 2) (Nat.le_of_ble_eq_true rfl)
  rw [lg_entry_eq]
  generalize (lg_sl ([.ref (a 0), .int x1]) ++ List.replicate (2 - (lg_sl ([.ref (a 0), .int x1])).length) Slot.unset).toArray = ls at hl ⊢
  have hl : lv_has ls 2 [(0, .ref (a 0)), (1, .int x1)] := hl
  obtain ⟨R, hR⟩ : ∃ z, z = sp_week σ x1 := ⟨_, rfl⟩
  have hw := hR
  unfold sp_week at hw
  refine lv_iload_n hx hb dX3_week_0 rfl (lv_at hl 1 rfl) ?_
  refine lv_aload_n hx hb dX3_week_1 rfl (lv_at hl 0 rfl) ?_
  refine va_get (D := (dC, dI)) (ci := 3) (v := .ref (a 19)) (C := RX3) (T := TX3) (N := 6) hx hb hts (iwX3 _) hown hK hP 0 rfl rfl 2 (by decide) (hts _ (kc k_156)) (fun _ h9 => h9) rfl dX3_week_2 ?_
  refine va_get (D := (dC, dI)) (ci := 1) (v := .int (σ 19 5)) (C := RX1) (T := TX1) (N := 7) hx hb hts (iwX1 _) hown hK hP 19 rfl rfl 5 (by decide) (hts _ (kc k_137)) (fun _ h9 => h9) rfl dX3_week_5 ?_
  refine nx_call (vx_runS (As := [.int x1, .int (σ 19 5)]) (rest := []) ⟨hx, hb, hml, hown, hts⟩ (m_X3_needKnown l hl9 zk H.size x1 (σ 19 5)) (cwS 2 hts (gS k_263 k_264 k_20 k_265) rfl rfl rfl (by decide +kernel) ⟨Nat.le_of_ble_eq_true rfl, Nat.le_of_ble_eq_true rfl⟩) (pn_need hz hS hA) rfl rfl hl.1 rfl (lv_room (Nat.le_of_ble_eq_true rfl)) dX3_week_8 ⟨Nat.le_of_ble_eq_true rfl, Nat.le_of_ble_eq_true rfl⟩) hP hD hS hA (fun c_8_1 => ?_) (fun c_8_1 H1 q9 ce hP1 hS1 hc1 hc2 hc3 => vx_out (fun x hx9 => (hEx x hx9).elim) hlocks hc1 hc2 hc3 (fun t ht hvm => ⟨_, hR.symm.trans (hw.trans (if_neg c_8_1)), ⟨rfl, by rw [ht]; exact hP1, va_K.moved hvm hK, hD⟩, hS1.F ht⟩) hS1.2.2 (Nat.le_of_ble_eq_true rfl) (Nat.le_of_ble_eq_true rfl))
  rw [if_pos c_8_1] at hw
  have hn_2 : vp_in x1 6 := okK_pln hiv c_8_1
  refine lv_aload_n hx hb dX3_week_11 rfl (lv_at hl 0 rfl) ?_
  refine va_get (D := (dC, dI)) (ci := 3) (v := .ref (a 19)) (C := RX3) (T := TX3) (N := 6) hx hb hts (iwX3 _) hown hK hP 0 rfl rfl 2 (by decide) (hts _ (kc k_156)) (fun _ h9 => h9) rfl dX3_week_12 ?_
  refine va_get (D := (dC, dI)) (ci := 1) (v := .ref (a 23)) (C := RX1) (T := TX1) (N := 7) hx hb hts (iwX1 _) hown hK hP 19 rfl rfl 3 (by decide) (hts _ (kc k_134)) (fun _ h9 => h9) rfl dX3_week_15 ?_
  refine lv_iload_n hx hb dX3_week_18 rfl (lv_at hl 1 rfl) ?_
  refine va_iald (D := (dC, dI)) (f := σ 23) hx hb hK hP 23 0 rfl rfl (i := x1) hn_2 dX3_week_19 ?_
  refine vx_ret ?_
  refine W.widen (k := 1) (n := 6) (Nat.le_of_ble_eq_true rfl) (Nat.le_of_ble_eq_true rfl) ?_
  exact W.iret (v := σ 23 x1.toNatClampNeg) hx hb hr (fun t ht hW => ⟨⟨σ 23 x1.toNatClampNeg, σ, rfl, hR.symm.trans hw, by rw [ht]; exact hP, va_K.moved hW.alike hK, hD⟩, hS.F ht⟩) hS.2.2 dX3_week_20
end
