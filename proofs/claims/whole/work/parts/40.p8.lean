theorem su_r (σ : St) {q k q' k' : Nat} (v : Int32) : su σ q k v q' k' = if q' = q ∧ k' = k then v else σ q' k' := by
  split
  · rename_i h
    rw [h.1, h.2, su_same]
  · rename_i h
    exact su_ne _ _ h
/-- GI of a state that was made of σ by a result -/
theorem gi_mk {σ τ : St} (h : GI σ) {a : Nat} {v : Int32} {F : Nat → Int32} (t0 : τ 0 5 = σ 0 5) (t2 : τ 2 = σ 2) (t3 : τ 3 = σ 3) (t7 : cntN τ = cntN σ) (t12 : τ 12 = σ 12) (t13 : τ 13 = F) (t16 : ∀ j, τ 16 j = if j = a then σ 0 5 else σ 16 j) (t18 : ∀ j, τ 18 j = if j = a then v else σ 18 j) (t24 : τ 24 = σ 24) (hv : 0 ≤ v ∧ v ≤ 2) (hF : ∀ j, F j = -1 ∨ (σ 12 j ≤ F j ∧ F j ≤ σ 0 5)) (h7 : ∀ x, F x = -1 → ∀ u, u < 3 → (if 3 * x + u = a then v else σ 18 (3 * x + u)) ≤ 1) (h8 : ∀ x, x < cntN σ → ¬ F x = -1 → ∃ u, u < 3 ∧ (if 3 * x + u = a then v else σ 18 (3 * x + u)) = 2) (h9 : ∀ x, cntN σ ≤ x → ∀ u, u < 3 → (if 3 * x + u = a then v else σ 18 (3 * x + u)) = 0) : GI τ := by
  obtain ⟨a0, a1, a2, a3, a4, a5, a6, a7, a8, a9, a10⟩ := h
  unfold GI
  rw [t0, t2, t3, t7, t12, t13, t24]
  refine ⟨a0, a1, a2, a3, hF, fun j => ?_, fun j => ?_, fun x hx u hu => ?_, fun x hx hy => ?_, fun x hx u hu => ?_, a10⟩
  · rw [t16]
    split
    · exact ⟨a0.1, Int32.le_refl _⟩
    · exact a5 j
  · rw [t18]
    split
    · exact hv
    · exact a6 j
  · rw [t18]
    exact h7 x hx u hu
  · obtain ⟨u, hu, e⟩ := h8 x hx hy
    exact ⟨u, hu, by rw [t18]; exact e⟩
  · rw [t18]
    exact h9 x hx u hu
theorem gi_res {σ : St} (h : GI σ) {i t : Nat} (hi : i < cntN σ) (ht : t < 3) (hs : σ 13 i = -1) {v : Int32} (hv : 0 ≤ v ∧ v ≤ 1) : GI (su (su (su σ 18 (3 * i + t) v) 16 (3 * i + t) (σ 0 5)) 17 (3 * i + t) 0) := by
  have h' := h
  obtain ⟨a0, a1, a2, a3, a4, a5, a6, a7, a8, a9, a10⟩ := h'
  refine gi_mk h (a := 3 * i + t) (v := v) (F := σ 13) rfl rfl rfl rfl rfl rfl (fun j => ?_) (fun j => ?_) rfl ⟨hv.1, by grind⟩ a4 (fun x hx u hu => ?_) (fun x hx hy => ?_) (fun x hx u hu => ?_)
  · simp [su_r]
  · simp [su_r]
  · split
    · exact hv.2
    · exact a7 x hx u hu
  · obtain ⟨u, hu, e⟩ := a8 x hx hy
    refine ⟨u, hu, ?_⟩
    rw [if_neg (fun z => ?_)]
    · exact e
    · have : x = i := by omega
      subst this
      exact hy hs
  · rw [if_neg (fun z => by omega)]
    exact a9 x hx u hu
theorem gi_scr {σ : St} (h : GI σ) {i t : Nat} (hi : i < cntN σ) (ht : t < 3) (hs : σ 13 i = -1) : GI (su (su (su (su σ 18 (3 * i + t) 2) 16 (3 * i + t) (σ 0 5)) 17 (3 * i + t) 0) 13 i (σ 0 5)) := by
  have h' := h
  obtain ⟨a0, a1, a2, a3, a4, a5, a6, a7, a8, a9, a10⟩ := h'
  have ne : ¬ σ 0 5 = -1 := by grind
  refine gi_mk h (a := 3 * i + t) (v := 2) (F := fun j => if j = i then σ 0 5 else σ 13 j) rfl rfl rfl rfl rfl ?_ (fun j => ?_) (fun j => ?_) rfl (by decide) (fun j => ?_) (fun x hx u hu => ?_) (fun x hx hy => ?_) (fun x hx u hu => ?_)
  · funext j
    simp [su_r]
  · simp [su_r]
  · simp [su_r]
  · split
    · exact Or.inr ⟨(a3 j).2, Int32.le_refl _⟩
    · exact a4 j
  · by_cases e : x = i
    · rw [if_pos e] at hx
      exact absurd hx ne
    · rw [if_neg e] at hx
      rw [if_neg (fun z => by omega)]
      exact a7 x hx u hu
  · by_cases e : x = i
    · subst e
      exact ⟨t, ht, if_pos rfl⟩
    · rw [if_neg e] at hy
      obtain ⟨u, hu, g⟩ := a8 x hx hy
      exact ⟨u, hu, by rw [if_neg (fun z => by omega)]; exact g⟩
  · rw [if_neg (fun z => by omega)]
    exact a9 x hx u hu
theorem t3_n {y : Int32} (c : okKnown y 3 = true) : ∃ t, t < 3 ∧ y = nI t := by
  obtain ⟨i, hi, rfl⟩ := vp_in_of (okK_in (n := 3) c (by decide) (by decide)) (by omega)
  exact ⟨i, hi, rfl⟩
