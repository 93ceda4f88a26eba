/-! the reference's world and its invariant -/
def rw (cI cZ : ClassId) (a : Nat → Nat) (σ : St) : va_W := [(a 0, .inr (4, [.int (σ 0 0), .int (σ 0 1), .ref (a 2), .ref (a 3), .ref (a 4), .ref (a 5), .ref (a 6), .int (σ 0 7), .ref (a 8), .ref (a 9), .ref (a 10), .ref (a 11), .ref (a 12), .ref (a 13), .ref (a 14), .ref (a 15), .ref (a 16), .ref (a 17), .ref (a 18), .ref (a 19), .int (σ 0 20), .ref (a 21), .ref (a 22)])),
  (a 2, .inl (cI, 5, .inl (σ 2))),
  (a 3, .inl (cI, 15, .inl (σ 3))),
  (a 4, .inl (cI, 15, .inl (σ 4))),
  (a 5, .inl (cI, 15, .inl (σ 5))),
  (a 6, .inl (cI, 15, .inl (σ 6))),
  (a 8, .inl (cI, 40, .inl (σ 8))),
  (a 9, .inl (cI, 40, .inl (σ 9))),
  (a 10, .inl (cI, 40, .inl (σ 10))),
  (a 11, .inl (cI, 40, .inl (σ 11))),
  (a 12, .inl (cI, 40, .inl (σ 12))),
  (a 13, .inl (cI, 40, .inl (σ 13))),
  (a 14, .inl (cI, 40, .inl (σ 14))),
  (a 15, .inl (cZ, 40, .inl (σ 15))),
  (a 16, .inl (cI, 120, .inl (σ 16))),
  (a 17, .inl (cI, 120, .inl (σ 17))),
  (a 18, .inl (cI, 120, .inl (σ 18))),
  (a 19, .inl (cZ, 10, .inl (σ 19))),
  (a 21, .inl (cI, 6, .inl (σ 21))),
  (a 22, .inl (cI, 4, .inl (σ 22)))]
abbrev pRr (dC : Nat → ClassId) (dI : Nat → Nat → Nat) (cI cZ : ClassId) (a : Nat → Nat) (σ : St) (av : List Value) : Array Value → State → Prop := va_Pc av (fun U => va_P (dC, dI) vwCl (rw cI cZ a σ) U.heap ∧ va_K (dC, dI) vwCl [(cI, .int), (cZ, .boolean)] U)
abbrev pMr (dC : Nat → ClassId) (dI : Nat → Nat → Nat) (cI cZ : ClassId) (a : Nat → Nat) (sz : Nat) (σ : St) (av : List Value) : Array Value → State → Prop := va_Pc av (fun U => U.heap.size = sz ∧ va_P (dC, dI) vwCl (rw cI cZ a σ) U.heap ∧ va_K (dC, dI) vwCl [(cI, .int), (cZ, .boolean)] U ∧ va_D (fun _ => True) (rw cI cZ a σ))
abbrev bMr (dC : Nat → ClassId) (dI : Nat → Nat → Nat) (cI cZ : ClassId) (a : Nat → Nat) (A : Nat → Prop) (σ : St) (t : State) : Prop := va_P (dC, dI) vwCl (rw cI cZ a σ) t.heap ∧ va_K (dC, dI) vwCl [(cI, .int), (cZ, .boolean)] t ∧ va_D A (rw cI cZ a σ)
theorem pv_rr {s : State} {H : Heap} {dC : Nat → ClassId} {dI : Nat → Nat → Nat} {cI cZ : ClassId} {a : Nat → Nat} {σ : St} {b q0 ci : Nat} {q : vw_C} {fs : List Value} {As : List Value} (hK : va_K (dC, dI) vwCl [(cI, .int), (cZ, .boolean)] s) (hP : va_P (dC, dI) vwCl (rw cI cZ a σ) H) (hc : vwCl[ci]? = some q) (he : (rw cI cZ a σ)[q0]? = some (b, .inr (ci, fs))) : PreV s H q.1 b (pRr dC dI cI cZ a σ (.ref b :: As)) As := by
  refine ⟨fun a U g mk h => ?_, va_recv hK hP hc he, fun U hU hW => ⟨rfl, by rw [hU]; exact hP, va_K.moved hW.alike hK⟩⟩
  obtain ⟨q0, qP, qK⟩ := h
  exact ⟨q0, qP, va_K.moved (u := U) (U := U.calling g mk a) (Vm.Alike.refl U.vm) qK⟩
theorem pv_mr {s : State} {H : Heap} {dC : Nat → ClassId} {dI : Nat → Nat → Nat} {cI cZ : ClassId} {a : Nat → Nat} {σ : St} {b q0 ci : Nat} {q : vw_C} {fs : List Value} {As : List Value} {A : Nat → Prop} (hK : va_K (dC, dI) vwCl [(cI, .int), (cZ, .boolean)] s) (hP : va_P (dC, dI) vwCl (rw cI cZ a σ) H) (hD : va_D A (rw cI cZ a σ)) (hc : vwCl[ci]? = some q) (he : (rw cI cZ a σ)[q0]? = some (b, .inr (ci, fs))) : PreV s H q.1 b (pMr dC dI cI cZ a H.size σ (.ref b :: As)) As := by
  refine ⟨fun a U g mk h => ?_, va_recv hK hP hc he, fun U hU hW => ⟨rfl, by rw [hU], by rw [hU]; exact hP, va_K.moved hW.alike hK, hD.weaken (fun _ _ _ _ => trivial)⟩⟩
  obtain ⟨q0, q1, qP, qK, qD⟩ := h
  exact ⟨q0, q1, qP, va_K.moved (u := U) (U := U.calling g mk a) (Vm.Alike.refl U.vm) qK, qD⟩
def cntR (σ : St) : Nat := (σ 0 7).toNatClampNeg
def plnR (σ : St) : Nat := (σ 0 20).toNatClampNeg
def IVr (σ : St) : Prop := σ 0 7 = nI (cntR σ) ∧ cntR σ ≤ 40 ∧ (∀ j, j < 40 → vp_in (σ 8 j) 5) ∧ (∀ j, j < 40 → vp_in (σ 10 j) 10) ∧ σ 0 20 = nI (plnR σ) ∧ plnR σ ≤ 6
theorem ir_cnt {σ : St} (h : IVr σ) : σ 0 7 = nI (cntR σ) := h.1
theorem ir_le {σ : St} (h : IVr σ) : cntR σ ≤ 40 := h.2.1
theorem ir_k {σ : St} {x : Int32} (h : IVr σ) (hx : vp_in x 40) : vp_in (σ 8 x.toNatClampNeg) 5 := h.2.2.1 _ (vp_lt hx)
theorem ir_b {σ : St} {x : Int32} (h : IVr σ) (hx : vp_in x 40) : vp_in (σ 10 x.toNatClampNeg) 10 := h.2.2.2.1 _ (vp_lt hx)
theorem ir_cnt2 {σ σ1 : St} (h : IVr σ1) (hc : cntR σ1 = cntR σ) : σ1 0 7 = nI (cntR σ) := by rw [← hc]; exact h.1
theorem ir_suq {σ : St} {q k : Nat} {v : Int32} (h : IVr σ) (hq : q ≠ 0 ∧ q ≠ 8 ∧ q ≠ 10) : IVr (su σ q k v) := by
  obtain ⟨h0, h8, h10⟩ := hq
  have e0 := su_nq σ (k := k) v (Ne.symm h0)
  have e8 := su_nq σ (k := k) v (Ne.symm h8)
  have e10 := su_nq σ (k := k) v (Ne.symm h10)
  unfold IVr cntR plnR at h ⊢
  rw [e0, e8, e10]
  exact h
theorem ir_su0 {σ : St} {k : Nat} {v : Int32} (h : IVr σ) (hk : k ≠ 7 ∧ k ≠ 20) : IVr (su σ 0 k v) := by
  have e7 := su_ne σ (q := 0) (k := k) (q' := 0) (k' := 7) v (fun q => hk.1 q.2.symm)
  have e20 := su_ne σ (q := 0) (k := k) (q' := 0) (k' := 20) v (fun q => hk.2 q.2.symm)
  have e8 := su_nq σ (q := 0) (k := k) (q' := 8) v (by decide)
  have e10 := su_nq σ (q := 0) (k := k) (q' := 10) v (by decide)
  unfold IVr cntR plnR at h ⊢
  rw [e7, e20, e8, e10]
  exact h
theorem vp_lit (k : Nat) {n : Nat} (h : k < n ∧ n < 2 ^ 31) : vp_in (nI k) n := vp_in_nI h.1 h.2
theorem in_3m {a b : Int32} {n N : Nat} (ha : vp_in a n) (hb : vp_in b 3) (hn : n ≤ 1000) (hN : n * 3 = N) : vp_in ((3 : Int32) * a + b) N := by
  rw [Int32.mul_comm]
  exact in_m3 ha hb hn hN

