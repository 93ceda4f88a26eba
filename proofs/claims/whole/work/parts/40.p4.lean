theorem su_id (σ : St) (q k : Nat) : su σ q k (σ q k) = σ := by
  funext z j
  by_cases e : z = q ∧ j = k
  · obtain ⟨rfl, rfl⟩ := e
    exact su_same _ _ _ _
  · exact su_ne _ _ e
theorem ad_0 (x : Int32) : x + 0 = x := by grind
theorem sc_lt {σ : St} (h : GI σ) (j : Nat) : (σ 13 j = -1 ∧ σ 13 j < 0 ∧ ¬ 0 ≤ σ 13 j) ∨ (¬ σ 13 j = -1 ∧ ¬ σ 13 j < 0 ∧ 0 ≤ σ 13 j) := by
  have g := h.2.2.2.2.1 j
  have g0 := h.2.2.2.1 j
  grind
theorem st_wash {σ ρ : St} (h : Rel σ ρ) (x1 x2 : Int32) : stO ["java/lang/IllegalArgumentException", "java/lang/IllegalStateException"] σ (sp_wash σ x1 x2) (rf_wash ρ x1 x2) := by
  have e13 : ρ 13 = σ 13 := eq_q h.1 (by decide)
  have e15 : ρ 15 = σ 15 := eq_q h.1 (by decide)
  have e14 : ρ 14 = σ 14 := eq_q h.1 (by decide)
  unfold sp_wash rf_wash sp_isScrapped
  simp only [rf_thr, ri_T h, gt_p, e13, e15]
  by_cases c1 : okKnown x1 (σ 7 11) = true
  · rcases sc_lt h.2.2.2 x1.toNatClampNeg with ⟨c2, -, c3⟩ | ⟨c2, -, c3⟩
    · by_cases c4 : σ 15 x1.toNatClampNeg = x2
      · by_cases c5 : x2 = 0
        · subst c5
          simp only [c1, c3, c4, if_true, if_false, thrv, not_true, not_false_eq_true, ite_self]
          rw [if_pos c2]
          simp only [if_true]
          refine so_ok (σ' := su (su σ 15 x1.toNatClampNeg (vp_nar .boolean 1)) 14 x1.toNatClampNeg (su σ 15 x1.toNatClampNeg (vp_nar .boolean 1) 14 x1.toNatClampNeg + 1)) ?_ rfl ?_
          · have e : su (su ρ 0 0 0) 15 x1.toNatClampNeg (vp_nar .boolean 1) 14 x1.toNatClampNeg = su σ 15 x1.toNatClampNeg (vp_nar .boolean 1) 14 x1.toNatClampNeg := congrFun e14 _
            rw [e]
            exact rel_su (rel_su (rel_thr h _) (by decide) _ _) (by decide) _ _
          · rw [su_same, su_same]
            exact congrArg (· + (1 : Int32)) (congrFun e14 _).symm
        · simp only [c1, c3, c4, c5, if_true, if_false, thrv, not_true, not_false_eq_true, ite_self]
          rw [if_pos c2]
          simp only [if_true]
          rw [ad_0]
          refine so_ok ?_ ?_ ?_
          · rw [su_id]
            exact rel_su (rel_thr h _) (by decide) _ _
          · rfl
          · rw [su_same]
            exact (congrFun e14 _).symm
      · simp only [c1, c2, c3, c4, if_true, if_false, thrv, not_true, not_false_eq_true, ite_self]
        exact so_err h (by first | decide | (simp [thrv]; decide)) (by decide)
    · simp only [c1, c2, c3, if_true, if_false, thrv, not_true, not_false_eq_true, ite_self]
      exact so_err h (by first | decide | (simp [thrv]; decide)) (by decide)
  · simp only [c1]
    exact so_err h (by first | decide | (simp [thrv]; decide)) (by decide)
