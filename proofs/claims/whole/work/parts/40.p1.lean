theorem gi_day {σ : St} (h : GI σ) {x : Int32} (h1 : σ 0 5 ≤ x) (h2 : x ≤ 99999) : GI (su σ 0 5 x) := by
  obtain ⟨a0, a1, a2, a3, a4, a5, a6, a7, a8, a9, a10⟩ := h
  have e : (su σ 0 5 x) 0 5 = x := su_same _ _ _ _
  unfold GI
  rw [e]
  refine ⟨by grind, a1, a2, fun j => ?_, fun j => ?_, fun j => ?_, a6, a7, a8, a9, a10⟩
  · have := a3 j
    show 0 ≤ σ 12 j ∧ σ 12 j ≤ x
    grind
  · have := a4 j
    show σ 13 j = -1 ∨ (σ 12 j ≤ σ 13 j ∧ σ 13 j ≤ x)
    grind
  · have := a5 j
    show 0 ≤ σ 16 j ∧ σ 16 j ≤ x
    grind
theorem eq_day {σ ρ : St} (h : EQ σ ρ) (x : Int32) : EQ (su σ 0 5 x) (su ρ 0 1 x) := by
  obtain ⟨h1, h2, h3, h4, h5, h6⟩ := h
  refine ⟨fun z hz => ?_, h2, h3, ?_, h5, h6⟩
  · have n : z ≠ 0 := by rintro rfl; exact absurd hz (by decide)
    rw [su_nq _ _ n, su_nq _ _ n]
    exact h1 z hz
  · rw [su_same, su_same]
theorem st_day {σ ρ : St} (h : Rel σ ρ) (x1 : Int32) : stV ["java/lang/IndexOutOfBoundsException"] σ (sp_day σ x1) (rf_day ρ x1) := by
  have ed : ρ 0 1 = σ 0 5 := h.1.2.2.2.1.symm
  unfold sp_day rf_day
  simp only [rf_thr, ed]
  by_cases c : okRange x1 (σ 0 5) (99999 : Int32) = true
  · obtain ⟨c1, c2⟩ := okR_two c
    simp only [c, c1, c2, if_true, if_false, thrv]
    refine st_ok ⟨eq_day (eq_thr h.1 _) x1, ?_, ?_, gi_day h.2.2.2 (by grind) c2⟩ rfl
    · exact h.2.1
    · exact ir_su0 (ir_su0 h.2.2.1 (by decide)) (by decide)
  · have e : (if x1 < σ 0 5 then (1 : Int32) else if x1 ≤ 99999 then 0 else 1) = 1 := by
      unfold okRange at c
      by_cases c1 : x1 < σ 0 5
      · simp [c1]
      · simp [c1] at c
        have : ¬ x1 ≤ 99999 := by grind
        simp [c1, this]
    simp only [c, e]
    exact st_err h (by first | decide | (simp [thrv]; decide))
theorem gi_q {σ τ : St} (h : GI σ) (e : ∀ q, q ∈ [0, 2, 3, 7, 12, 13, 16, 18, 24] → τ q = σ q) : GI τ := by
  unfold GI cntN at h ⊢
  rw [e 0 (by decide), e 2 (by decide), e 3 (by decide), e 7 (by decide), e 12 (by decide), e 13 (by decide), e 16 (by decide), e 18 (by decide), e 24 (by decide)]
  exact h
theorem su_ge {σ : St} {q k j : Nat} {v : Int32} {P : Int32 → Prop} (h : P (σ q j)) (hv : P v) : P (su σ q k v q j) := by
  by_cases e : j = k
  · subst e
    rw [su_same]
    exact hv
  · rw [su_ne _ _ (fun z => e z.2)]
    exact h
theorem gi_2 {σ : St} (h : GI σ) {x : Int32} (k : Nat) (h1 : 0 ≤ x ∧ x ≤ 20000) : GI (su σ 2 k x) := by
  obtain ⟨a0, a1, a2, a3, a4, a5, a6, a7, a8, a9, a10⟩ := h
  exact ⟨a0, fun j => su_ge (P := fun z => 0 ≤ z ∧ z ≤ 20000) (a1 j) h1, a2, a3, a4, a5, a6, a7, a8, a9, a10⟩
theorem gi_3 {σ : St} (h : GI σ) {x : Int32} (k : Nat) (h1 : 0 ≤ x ∧ x ≤ 5000) : GI (su σ 3 k x) := by
  obtain ⟨a0, a1, a2, a3, a4, a5, a6, a7, a8, a9, a10⟩ := h
  exact ⟨a0, a1, fun j => su_ge (P := fun z => 0 ≤ z ∧ z ≤ 5000) (a2 j) h1, a3, a4, a5, a6, a7, a8, a9, a10⟩
theorem okR_in {x lo hi : Int32} (h : okRange x lo hi = true) : lo ≤ x ∧ x ≤ hi := by
  obtain ⟨a, b⟩ := okR_two h
  exact ⟨by grind, b⟩
theorem st_age {σ ρ : St} (h : Rel σ ρ) (x1 x2 : Int32) : stV ["java/lang/IllegalArgumentException", "java/lang/IndexOutOfBoundsException"] σ (sp_age σ x1 x2) (rf_age ρ x1 x2) := by
  unfold sp_age rf_age
  simp only [rf_thr, ri_R, rk_5, gt_1]
  by_cases c1 : okKnown x1 5 = true
  · by_cases c2 : okRange x2 0 20000 = true
    · simp only [c1, c2, if_true, if_false, thrv, not_true]
      refine st_ok ⟨eq_su (eq_thr h.1 _) (by decide) _ _, iv_suq h.2.1 (by decide), ir_suq (ir_su0 h.2.2.1 (by decide)) (by decide), gi_2 h.2.2.2 _ (okR_in c2)⟩ rfl
    · simp only [c1, c2]
      exact st_err h (by first | decide | (simp [thrv]; decide))
  · simp only [c1]
    exact st_err h (by first | decide | (simp [thrv]; decide))
theorem ri_test (x y : Int32) : rf_isTest x y = if okKnown x 5 = true ∧ okKnown y 3 = true then 1 else 0 := by
  unfold rf_isTest
  simp only [ri_R, rk_5, rk_3, gt_1]
  by_cases c1 : okKnown x 5 = true <;> by_cases c2 : okKnown y 3 = true <;> simp [c1, c2]
theorem gt_p {P : Prop} [Decidable P] : ((if P then (1 : Int32) else 0) = 0) ↔ ¬ P := by
  by_cases h : P
  · simp [h]
  · simp [h]
theorem st_test {σ ρ : St} (h : Rel σ ρ) (x1 x2 x3 x4 : Int32) : stV ["java/lang/IllegalArgumentException", "java/lang/IndexOutOfBoundsException"] σ (sp_test σ x1 x2 x3 x4) (rf_test ρ x1 x2 x3 x4) := by
  unfold sp_test rf_test
  simp only [rf_thr, ri_R, ri_test, gt_p, i3_c]
  by_cases c1 : okKnown x1 5 = true
  · by_cases c2 : okKnown x2 3 = true
    · by_cases c3 : okRange x3 0 5000 = true
      · by_cases c4 : okRange x4 0 1000 = true
        · simp only [c1, c2, c3, c4, if_true, if_false, thrv, not_true, and_self]
          refine st_ok (rel_su ⟨eq_su (eq_thr h.1 _) (by decide) _ _, iv_suq h.2.1 (by decide), ir_suq (ir_su0 h.2.2.1 (by decide)) (by decide), gi_3 h.2.2.2 _ (okR_in c3)⟩ (by decide) _ _) rfl
        · simp only [c1, c2, c3, c4]
          exact st_err h (by first | decide | (simp [thrv]; decide))
      · simp only [c1, c2, c3]
        exact st_err h (by first | decide | (simp [thrv]; decide))
    · simp only [c1, c2]
      by_cases c3 : okRange x3 0 5000 = true <;> by_cases c4 : okRange x4 0 1000 = true <;> (simp only [c3, c4]; exact st_err h (by first | decide | (simp [thrv]; decide)))
  · simp only [c1]
    exact st_err h (by first | decide | (simp [thrv]; decide))
theorem st_bounds {σ ρ : St} (h : Rel σ ρ) (x1 x2 x3 x4 : Int32) : stV ["java/lang/IllegalArgumentException", "java/lang/IndexOutOfBoundsException"] σ (sp_bounds σ x1 x2 x3 x4) (rf_bounds ρ x1 x2 x3 x4) := by
  unfold sp_bounds rf_bounds
  have e : (if x3 < 0 then (1 : Int32) else if x4 < x3 then 1 else if x4 ≤ 10000 then 0 else 1) = if okRange x4 0 10000 = true ∧ okRange x3 0 x4 = true then 0 else 1 := by
    unfold okRange
    simp only [Bool.and_eq_true, Bool.not_eq_true', decide_eq_false_iff_not, decide_eq_true_eq]
    grind
  simp only [rf_thr, ri_test, gt_p, i3_c, e]
  by_cases c1 : okKnown x1 5 = true
  · by_cases c2 : okKnown x2 3 = true
    · by_cases c3 : okRange x4 0 10000 = true
      · by_cases c4 : okRange x3 0 x4 = true
        · simp only [c1, c2, c3, c4, if_true, if_false, thrv, not_true, and_self]
          refine st_ok (rel_su (rel_su (rel_thr h _) (by decide) _ _) (by decide) _ _) rfl
        · simp only [c1, c2, c3, c4]
          exact st_err h (by first | decide | (simp [thrv]; decide))
      · simp only [c1, c2, c3]
        exact st_err h (by first | decide | (simp [thrv]; decide))
    · simp only [c1, c2]
      exact st_err h (by first | decide | (simp [thrv]; decide))
  · simp only [c1]
    exact st_err h (by first | decide | (simp [thrv]; decide))
