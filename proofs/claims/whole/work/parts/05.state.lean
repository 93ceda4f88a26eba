/-! the class's world (27 cells at the addresses a 0 .. a 26) and its invariant -/
def cw (cI cZ : ClassId) (a : Nat → Nat) (σ : St) : va_W := [(a 0, .inr (3, [.ref (a 1), .ref (a 7), .ref (a 19), .ref (a 25), .ref (a 26), .int (σ 0 5)])),
  (a 1, .inr (0, [.ref (a 2), .ref (a 3), .ref (a 4), .ref (a 5), .ref (a 6)])),
  (a 2, .inl (cI, 5, .inl (σ 2))),
  (a 3, .inl (cI, 15, .inl (σ 3))),
  (a 4, .inl (cI, 15, .inl (σ 4))),
  (a 5, .inl (cI, 15, .inl (σ 5))),
  (a 6, .inl (cI, 15, .inl (σ 6))),
  (a 7, .inr (2, [.ref (a 8), .ref (a 9), .ref (a 10), .ref (a 11), .ref (a 12), .ref (a 13), .ref (a 14), .ref (a 15), .ref (a 16), .ref (a 17), .ref (a 18), .int (σ 7 11)])),
  (a 8, .inl (cI, 40, .inl (σ 8))),
  (a 9, .inl (cI, 40, .inl (σ 9))),
  (a 10, .inl (cI, 40, .inl (σ 10))),
  (a 11, .inl (cI, 40, .inl (σ 11))),
  (a 12, .inl (cI, 40, .inl (σ 12))),
  (a 13, .inl (cI, 40, .inl (σ 13))),
  (a 14, .inl (cI, 40, .inl (σ 14))),
  (a 15, .inl (cZ, 40, .inl (σ 15))),
  (a 16, .inl (cI, 120, .inl (σ 16))),
  (a 17, .inl (cI, 120, .inl (σ 17))),
  (a 18, .inl (cI, 120, .inl (σ 18))),
  (a 19, .inr (1, [.ref (a 20), .ref (a 21), .ref (a 22), .ref (a 23), .ref (a 24), .int (σ 19 5), .int (σ 19 6)])),
  (a 20, .inl (cI, 6, .inl (σ 20))),
  (a 21, .inl (cI, 6, .inl (σ 21))),
  (a 22, .inl (cI, 6, .inl (σ 22))),
  (a 23, .inl (cI, 6, .inl (σ 23))),
  (a 24, .inl (cI, 4, .inl (σ 24))),
  (a 25, .inl (cZ, 10, .inl (σ 25))),
  (a 26, .inl (cI, 40, .inl (σ 26)))]
abbrev pRo (dC : Nat → ClassId) (dI : Nat → Nat → Nat) (cI cZ : ClassId) (a : Nat → Nat) (σ : St) (av : List Value) : Array Value → State → Prop := va_Pc av (fun U => va_P (dC, dI) vwCl (cw cI cZ a σ) U.heap ∧ va_K (dC, dI) vwCl [(cI, .int), (cZ, .boolean)] U)
abbrev pMu (dC : Nat → ClassId) (dI : Nat → Nat → Nat) (cI cZ : ClassId) (a : Nat → Nat) (sz : Nat) (σ : St) (av : List Value) : Array Value → State → Prop := va_Pc av (fun U => U.heap.size = sz ∧ va_P (dC, dI) vwCl (cw cI cZ a σ) U.heap ∧ va_K (dC, dI) vwCl [(cI, .int), (cZ, .boolean)] U ∧ va_D (fun _ => True) (cw cI cZ a σ))
abbrev bMu (dC : Nat → ClassId) (dI : Nat → Nat → Nat) (cI cZ : ClassId) (a : Nat → Nat) (A : Nat → Prop) (σ : St) (t : State) : Prop := va_P (dC, dI) vwCl (cw cI cZ a σ) t.heap ∧ va_K (dC, dI) vwCl [(cI, .int), (cZ, .boolean)] t ∧ va_D A (cw cI cZ a σ)
abbrev bXu (dC : Nat → ClassId) (dI : Nat → Nat → Nat) (cI cZ : ClassId) (a : Nat → Nat) (A : Nat → Prop) (σ : St) (E u : String) (t : State) : Prop := E = u ∧ bMu dC dI cI cZ a A σ t
theorem pv_ro {s : State} {H : Heap} {dC : Nat → ClassId} {dI : Nat → Nat → Nat} {cI cZ : ClassId} {a : Nat → Nat} {σ : St} {b q0 ci : Nat} {q : vw_C} {fs : List Value} {As : List Value} (hK : va_K (dC, dI) vwCl [(cI, .int), (cZ, .boolean)] s) (hP : va_P (dC, dI) vwCl (cw cI cZ a σ) H) (hc : vwCl[ci]? = some q) (he : (cw cI cZ a σ)[q0]? = some (b, .inr (ci, fs))) : PreV s H q.1 b (pRo dC dI cI cZ a σ (.ref b :: As)) As := by
  refine ⟨fun a U g mk h => ?_, va_recv hK hP hc he, fun U hU hW => ⟨rfl, by rw [hU]; exact hP, va_K.moved hW.alike hK⟩⟩
  obtain ⟨q0, qP, qK⟩ := h
  exact ⟨q0, qP, va_K.moved (u := U) (U := U.calling g mk a) (Vm.Alike.refl U.vm) qK⟩
theorem pv_mu {s : State} {H : Heap} {dC : Nat → ClassId} {dI : Nat → Nat → Nat} {cI cZ : ClassId} {a : Nat → Nat} {σ : St} {b q0 ci : Nat} {q : vw_C} {fs : List Value} {As : List Value} {A : Nat → Prop} (hK : va_K (dC, dI) vwCl [(cI, .int), (cZ, .boolean)] s) (hP : va_P (dC, dI) vwCl (cw cI cZ a σ) H) (hD : va_D A (cw cI cZ a σ)) (hc : vwCl[ci]? = some q) (he : (cw cI cZ a σ)[q0]? = some (b, .inr (ci, fs))) : PreV s H q.1 b (pMu dC dI cI cZ a H.size σ (.ref b :: As)) As := by
  refine ⟨fun a U g mk h => ?_, va_recv hK hP hc he, fun U hU hW => ⟨rfl, by rw [hU], by rw [hU]; exact hP, va_K.moved hW.alike hK, hD.weaken (fun _ _ _ _ => trivial)⟩⟩
  obtain ⟨q0, q1, qP, qK, qD⟩ := h
  exact ⟨q0, q1, qP, va_K.moved (u := U) (U := U.calling g mk a) (Vm.Alike.refl U.vm) qK, qD⟩
def cntN (σ : St) : Nat := (σ 7 11).toNatClampNeg
def plnN (σ : St) : Nat := (σ 19 5).toNatClampNeg
def IV (σ : St) : Prop := σ 7 11 = nI (cntN σ) ∧ cntN σ ≤ 40 ∧ (∀ j, j < 40 → vp_in (σ 8 j) 5) ∧ (∀ j, j < 40 → vp_in (σ 10 j) 10) ∧ σ 19 5 = nI (plnN σ) ∧ plnN σ ≤ 6 ∧ ∀ j, j < 6 → vp_in (σ 21 j) 4
theorem iv_cnt {σ : St} (h : IV σ) : σ 7 11 = nI (cntN σ) := h.1
theorem iv_le {σ : St} (h : IV σ) : cntN σ ≤ 40 := h.2.1
theorem iv_pln {σ : St} (h : IV σ) : σ 19 5 = nI (plnN σ) := h.2.2.2.2.1
theorem iv_pl6 {σ : St} (h : IV σ) : plnN σ ≤ 6 := h.2.2.2.2.2.1
theorem vp_lt {x : Int32} {n : Nat} (h : vp_in x n) : x.toNatClampNeg < n := Nat.not_le.mp fun q => h (Or.inr q)
theorem iv_k {σ : St} {x : Int32} (h : IV σ) (hx : vp_in x 40) : vp_in (σ 8 x.toNatClampNeg) 5 := h.2.2.1 _ (vp_lt hx)
theorem iv_b {σ : St} {x : Int32} (h : IV σ) (hx : vp_in x 40) : vp_in (σ 10 x.toNatClampNeg) 10 := h.2.2.2.1 _ (vp_lt hx)
theorem iv_w {σ : St} {x : Int32} (h : IV σ) (hx : vp_in x 6) : vp_in (σ 21 x.toNatClampNeg) 4 := h.2.2.2.2.2.2 _ (vp_lt hx)
theorem iv_cnt2 {σ σ1 : St} (h : IV σ1) (hc : cntN σ1 = cntN σ) : σ1 7 11 = nI (cntN σ) := by rw [← hc]; exact h.1
theorem iv_suq {σ : St} {q k : Nat} {v : Int32} (h : IV σ) (hq : q ≠ 7 ∧ q ≠ 8 ∧ q ≠ 10 ∧ q ≠ 19 ∧ q ≠ 21) : IV (su σ q k v) := by
  obtain ⟨h7, h8, h10, h19, h21⟩ := hq
  have e7 := su_nq σ (k := k) v (Ne.symm h7)
  have e8 := su_nq σ (k := k) v (Ne.symm h8)
  have e10 := su_nq σ (k := k) v (Ne.symm h10)
  have e19 := su_nq σ (k := k) v (Ne.symm h19)
  have e21 := su_nq σ (k := k) v (Ne.symm h21)
  unfold IV cntN plnN at h ⊢
  rw [e7, e8, e10, e19, e21]
  exact h
theorem okK_cnt {σ : St} {x : Int32} (h : IV σ) (hx : okKnown x (σ 7 11) = true) : vp_in x 40 := vp_in_le (okK_in hx (iv_cnt h) (by have := iv_le h; omega)) (iv_le h)
theorem okK_pln {σ : St} {x : Int32} (h : IV σ) (hx : okKnown x (σ 19 5) = true) : vp_in x 6 := vp_in_le (okK_in hx (iv_pln h) (by have := iv_pl6 h; omega)) (iv_pl6 h)
theorem cnt_in40 {σ : St} (h : IV σ) (hx : σ 7 11 < (40 : Int32)) : vp_in (σ 7 11) 40 := by
  rw [iv_cnt h] at hx ⊢
  have h1 := iv_le h
  rw [show (40 : Int32) = nI 40 from by decide, nI_ltI (by omega) (by omega)] at hx
  exact vp_in_nI hx (by omega)
theorem in_swK {a x m : Int32} {kx km : Nat} (ha : vp_in a 40) (hx : x = nI kx) (hm : m = nI km) (h1 : km ≤ kx) (h2 : kx - km < 3) (h3 : kx < 100) : vp_in (a * (3 : Int32) + x - m) 120 := by
  obtain ⟨i, hi, rfl⟩ := vp_in_of ha (by omega)
  subst hx hm
  rw [ht_3, pk_mul, nI_add, pk_sub (by omega)]
  exact vp_in_nI (by omega) (by omega)

