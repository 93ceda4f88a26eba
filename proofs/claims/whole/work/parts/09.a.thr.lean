/-! exceptions: what is carried of the start, the three needs, their calls -/
def wtV (j : Nat) : Value := .int (wtF j)
def zT (zk : Nat → Nat) (A : Nat → Prop) (U : State) (H : Heap) : Prop := va_Z "HoseTests" "DIGIT_WEIGHTS" "[I" (.ref (zk 9)) A U H ∧ va_T .int (zk 9) 6 wtV A U H
def exL : List String := ["java/lang/IllegalArgumentException", "java/lang/IndexOutOfBoundsException", "java/lang/IllegalStateException", "java/lang/UnsupportedOperationException", "java/lang/ArithmeticException"]
def dcL : List MethodName := [⟨"java/lang/RuntimeException", "<init>", "(Ljava/lang/String;)V"⟩, ⟨"java/lang/Exception", "<init>", "(Ljava/lang/String;)V"⟩, ⟨"java/lang/Throwable", "<init>", "(Ljava/lang/String;)V"⟩]
def nsL : List (Nat × MethodName) := [(11, yX0_init), (18, yX2_init), (25, yX1_init)]
def stL : List (Nat × String) := [(180, "an unknown number"), (184, "a number outside its range"), (189, "not in this state"), (84, "no room for one more thing"), (153, "no such what"), (161, "no thing of this kind was scrapped")]
/-- words of the tables that are carried by themselves -/
def zw (U : State) : Prop := (∀ E ∈ exL, va_Nw (.castable E E) U) ∧ (∀ x ∈ dcL, va_Nw (.declares x) U) ∧ (∀ q ∈ nsL, va_Nw (.methodLinkNest "HoseTests" q.1 q.2 "HoseTests") U) ∧ ∀ E ∈ exL, ∀ T ∈ exL, E ≠ T → va_Nc E T U
def zs (zk : Nat → Nat) (U : State) : Prop := ∀ (i : Nat) (q : Nat × String), stL[i]? = some q → vk_R "HoseTests" q.1 q.2 (zk i) U
def zz (zk : Nat → Nat) (A : Nat → Prop) (U : State) (H : Heap) : Prop :=
  vx_Zq Bundle.tN "UNASSIGNED_STACK" Bundle.steD A U H ∧ vx_Zq Bundle.tN "SUPPRESSED_SENTINEL" Bundle.listD A U H ∧ zs zk U ∧ zw U ∧ zT zk A U H
theorem zw.warm {s U : State} (hW : s.WarmedH U.vm) (h : zw s) : zw U := ⟨fun E hE => va_Nw.warmC hW (h.1 E hE), fun x hx => va_Nw.warmD hW (h.2.1 x hx), fun q hq => va_Nw.warmM hW (h.2.2.1 q hq), fun E hE T hT hn => va_Nc.moved hW.alike (h.2.2.2 E hE T hT hn)⟩
theorem zw.same {s U : State} (hv : U.vm = s.vm) (h : zw s) : zw U := ⟨fun E hE => va_Nw.same rfl hv.symm (h.1 E hE), fun x hx => va_Nw.same rfl hv.symm (h.2.1 x hx), fun q hq => va_Nw.same rfl hv.symm (h.2.2.1 q hq), fun E hE T hT hn => va_Nc.moved (by rw [hv]; exact Vm.Alike.refl _) (h.2.2.2 E hE T hT hn)⟩
theorem zT.warm {zk : Nat → Nat} {A : Nat → Prop} {s U : State} {H : Heap} (hW : s.vm.Alike U.vm) (h : zT zk A s H) : zT zk A U H := ⟨va_Z.moved hW h.1, va_T.moved hW h.2⟩
theorem zT.kept {zk : Nat → Nat} {A : Nat → Prop} {U : State} {H H1 : Heap} (h : zT zk A U H) (hq : ∀ a : Nat, a < H.size → ¬ A a → H1[a]? = H[a]?) : zT zk A U H1 := ⟨h.1.kept hq, h.2.kept hq⟩
theorem zT.narrow {zk : Nat → Nat} {A B : Nat → Prop} {U : State} {H : Heap} (h : zT zk A U H) (hAB : ∀ q, B q → A q) : zT zk B U H := ⟨h.1.narrow hAB, h.2.narrow hAB⟩
theorem zz.warm {zk : Nat → Nat} {A : Nat → Prop} {s U : State} {H : Heap} (hW : s.WarmedH U.vm) (h : zz zk A s H) : zz zk A U H := by
  obtain ⟨h1, h2, h3, h4, h5⟩ := h
  exact ⟨vx_Zq.moved hW.alike h1, vx_Zq.moved hW.alike h2, fun i q hq => vk_R.warm hW (h3 i q hq), h4.warm hW, zT.warm hW.alike h5⟩
theorem zz.same {zk : Nat → Nat} {A : Nat → Prop} {s U : State} {H : Heap} (hv : U.vm = s.vm) (h : zz zk A s H) : zz zk A U H := by
  obtain ⟨h1, h2, h3, h4, h5⟩ := h
  have hW : s.vm.Alike U.vm := by rw [hv]; exact Vm.Alike.refl _
  exact ⟨vx_Zq.moved hW h1, vx_Zq.moved hW h2, fun i q hq => vk_R.same hv (h3 i q hq), h4.same hv, zT.warm hW h5⟩
theorem zz.kept {zk : Nat → Nat} {A : Nat → Prop} {U : State} {H H1 : Heap} (h : zz zk A U H) (hq : ∀ a : Nat, a < H.size → ¬ A a → H1[a]? = H[a]?) : zz zk A U H1 := by
  obtain ⟨h1, h2, h3, h4, h5⟩ := h
  exact ⟨h1.kept hq, h2.kept hq, h3, h4, h5.kept hq⟩
theorem zz.narrow {zk : Nat → Nat} {A B : Nat → Prop} {U : State} {H : Heap} (h : zz zk A U H) (hAB : ∀ q, B q → A q) : zz zk B U H := by
  obtain ⟨h1, h2, h3, h4, h5⟩ := h
  exact ⟨h1.narrow hAB, h2.narrow hAB, h3, h4, h5.narrow hAB⟩
abbrev pPu (dC : Nat → ClassId) (dI : Nat → Nat → Nat) (cI cZ : ClassId) (a : Nat → Nat) (zk : Nat → Nat) (sz : Nat) (σ : St) (av : List Value) : Array Value → State → Prop := va_Pc av (fun U => U.heap.size = sz ∧ va_P (dC, dI) vwCl (cw cI cZ a σ) U.heap ∧ va_K (dC, dI) vwCl [(cI, .int), (cZ, .boolean)] U ∧ va_D (fun _ => True) (cw cI cZ a σ) ∧ zz zk (va_A (cw cI cZ a σ) sz) U U.heap)
abbrev pNd (zk : Nat → Nat) (sz : Nat) (av : List Value) : Array Value → State → Prop := va_Pc av (fun U => U.heap.size = sz ∧ zz zk (va_A [] sz) U U.heap)
def nx_Q (okc : Bool) : Array Value → State → Outcome → State → Prop := fun _ st o t => o = .returned none ∧ okc = true ∧ t.heap = st.heap
def nx_X (E0 : String) (okc : Bool) : String → State → State → Prop := fun E st t => E = E0 ∧ ¬ okc = true ∧ st.heap.size ≤ t.heap.size ∧ ∀ q : Nat, q < st.heap.size → t.heap[q]? = st.heap[q]?
theorem pn_need {zk : Nat → Nat} {A : Nat → Prop} {s : State} {H : Heap} {locs : List Loc} {As : List Value} (hz : zz zk A s s.heap) (hS : va_S A s.heap H locs) (hA : ∀ q, s.heap.size ≤ q → A q) : PreS s H (pNd zk H.size As) As := by
  refine ⟨fun a U g mk h => ?_, fun U hU hW => ⟨rfl, by rw [hU], ?_⟩⟩
  · obtain ⟨q0, q1, qz⟩ := h
    exact ⟨q0, q1, qz.same rfl⟩
  · rw [hU]
    refine (((hz.kept hS.2.1).narrow (fun q h => ?_)).warm hW)
    rcases h with ⟨k, e, h⟩ | h
    · simp at h
    · exact hA q (Nat.le_trans hS.1 h)
theorem pz_T {zk : Nat → Nat} {A : Nat → Prop} {s : State} {H : Heap} {locs : List Loc} {As : List Value} (hz : zz zk A s s.heap) (hS : va_S A s.heap H locs) : PreS s H (va_Pc As (fun U => zT zk (fun _ => False) U U.heap)) As := by
  refine ⟨fun a U g mk h => ?_, fun U hU hW => ⟨rfl, ?_⟩⟩
  · obtain ⟨q0, qz⟩ := h
    exact ⟨q0, zT.warm (s := U) (Vm.Alike.refl _) qz⟩
  · show zT zk (fun _ => False) U U.heap
    rw [hU]
    obtain ⟨h1, h2, h3, h4, h9⟩ := hz
    exact ((h9.kept hS.2.1).narrow (fun _ h => h.elim)).warm hW.alike
theorem nx_call {p : Program} {l : Launch} {e : Env} {R : Room} {s : State} {m : MethodId} {args : Array Value} {below : List Frame} {meth : Method} {c : Code} {H : Heap} {locs : List Loc} {cells slots mc ms : Nat} {Q : State → Prop} {pc : Nat} {ls : Array Slot} {st0 rest : List Value} {a : Array Value} {A : Nat → Prop} {H0 : Heap} {okc : Bool} {E0 : String} {D : va_G} {cl : List vw_C} {ws0 : va_W}
    (hr : vx_Run p l e R s m args below meth c H locs cells slots mc ms (F0 m pc ls st0) rest (nx_Q okc a) (nx_X E0 okc) (fun _ => False)) (hP : va_P D cl ws0 H) (hD : va_D A ws0) (hS : va_S A H0 H locs) (hA : ∀ q, H0.size ≤ q → A q)
    (kk : okc = true → W p l e R s m args below meth c H locs (cells + mc) (slots + ms) Q (F0 m (pc + 3) ls rest))
    (kx : ¬ okc = true → ∀ (H1 : Heap) (q9 : Addr) (ce : Cell), va_P D cl ws0 H1 → va_S A H0 H1 locs → H1[q9]? = some ce → ce.vm = .none → s.vm.findClass E0 = some ce.cls → vx_W p l e R s m args below meth c H1 locs (cells + mc) (slots + ms) Q (F0 m pc ls rest) q9) : W p l e R s m args below meth c H locs cells slots Q (F0 m pc ls st0) := by
  intro T hT X
  rcases hr T hT X with ⟨v, st₀, t, T', L, h0, X', hL, e1, e2, ⟨hv, hok, hh⟩, st⟩ | ⟨q, st₀, t, T', L, E, ce, h0, X', hL, e1, e2, ⟨hE, hok, hz, hk⟩, hce, hcv, hcl, st⟩
  · cases hv
    obtain ⟨t2, a1, b1⟩ := kk hok T' (by rw [e1, hh, h0]) (Stand.forget X' (fun q h => (hL q h).elim))
    exact ⟨t2, st t2 a1, b1⟩
  · subst hE
    rw [h0] at hz hk
    obtain ⟨t2, a1, b1⟩ := kx hok T'.heap q ce (hP.kept (fun k x hx => by rw [e1]; exact hk x.1 ((hP k x hx).lt)))
      ⟨Nat.le_trans hS.1 (by rw [e1]; exact hz), fun x h1 h2 => by rw [e1, hk x (Nat.lt_of_lt_of_le h1 hS.1)]; exact hS.2.1 x h1 h2, hS.2.2⟩ (by rw [e1]; exact hce) hcv hcl T' rfl (Stand.forget X' (fun q h => (hL q h).elim))
    exact ⟨t2, st.trans a1, b1⟩

