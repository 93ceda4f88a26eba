theorem eg_eq (σ : St) (x1 x2 g d : Int32) : sp_enterGrade σ x1 x2 g d = (let v : Int32 := if σ 16 (x1 * 3 + x2).toNatClampNeg = d then (if σ 18 (x1 * 3 + x2).toNatClampNeg < g then g else σ 18 (x1 * 3 + x2).toNatClampNeg) else g; let τ : St := su (su (su σ 18 (x1 * 3 + x2).toNatClampNeg v) 16 (x1 * 3 + x2).toNatClampNeg d) 17 (x1 * 3 + x2).toNatClampNeg 0; if g = 2 then (v, su τ 13 x1.toNatClampNeg d) else (v, τ)) := by
  unfold sp_enterGrade
  dsimp only
  by_cases c : σ 16 (x1 * 3 + x2).toNatClampNeg = d
  · rw [if_pos c, if_pos c]
    by_cases c2 : g = 2
    · rw [if_pos c2, if_pos c2]
      refine congrArg (fun z => (z, _)) ?_
      simp [su_r]
    · rw [if_neg c2, if_neg c2]
      refine congrArg (fun z => (z, _)) ?_
      simp [su_r]
  · rw [if_neg c, if_neg c]
    by_cases c2 : g = 2
    · rw [if_pos c2, if_pos c2]
      refine congrArg (fun z => (z, _)) ?_
      simp [su_r]
    · rw [if_neg c2, if_neg c2]
      refine congrArg (fun z => (z, _)) ?_
      simp [su_r]
theorem rl_res {σ ρ : St} (h : Rel σ ρ) {i t : Nat} (hi : i < cntN σ) (ht : t < 3) (hs : σ 13 i = -1) {v : Int32} (hv : 0 ≤ v ∧ v ≤ 1) : Rel (su (su (su σ 18 (3 * i + t) v) 16 (3 * i + t) (σ 0 5)) 17 (3 * i + t) 0) (su (su (su ρ 18 (3 * i + t) v) 16 (3 * i + t) (σ 0 5)) 17 (3 * i + t) 0) :=
  ⟨eq_su (eq_su (eq_su h.1 (by decide) _ _) (by decide) _ _) (by decide) _ _, iv_suq (iv_suq (iv_suq h.2.1 (by decide)) (by decide)) (by decide), ir_suq (ir_suq (ir_suq h.2.2.1 (by decide)) (by decide)) (by decide), gi_res h.2.2.2 hi ht hs hv⟩
theorem rl_scr {σ ρ : St} (h : Rel σ ρ) {i t : Nat} (hi : i < cntN σ) (ht : t < 3) (hs : σ 13 i = -1) : Rel (su (su (su (su σ 18 (3 * i + t) 2) 16 (3 * i + t) (σ 0 5)) 17 (3 * i + t) 0) 13 i (σ 0 5)) (su (su (su (su ρ 18 (3 * i + t) 2) 16 (3 * i + t) (σ 0 5)) 17 (3 * i + t) 0) 13 i (σ 0 5)) :=
  ⟨eq_su (eq_su (eq_su (eq_su h.1 (by decide) _ _) (by decide) _ _) (by decide) _ _) (by decide) _ _, iv_suq (iv_suq (iv_suq (iv_suq h.2.1 (by decide)) (by decide)) (by decide)) (by decide), ir_suq (ir_suq (ir_suq (ir_suq h.2.2.1 (by decide)) (by decide)) (by decide)) (by decide), gi_scr h.2.2.2 hi ht hs⟩
theorem st_result {σ ρ : St} (h : Rel σ ρ) (x1 x2 x3 : Int32) : stO ["java/lang/IllegalArgumentException", "java/lang/IndexOutOfBoundsException", "java/lang/IllegalStateException"] σ (sp_result σ x1 x2 x3) (rf_result ρ x1 x2 x3) := by
  have e0 : ρ 0 1 = σ 0 5 := h.1.2.2.2.1.symm
  have e5 : ρ 5 = σ 5 := eq_q h.1 (by decide)
  have e6 : ρ 6 = σ 6 := eq_q h.1 (by decide)
  have e8 : ρ 8 = σ 8 := eq_q h.1 (by decide)
  have e13 : ρ 13 = σ 13 := eq_q h.1 (by decide)
  have e16 : ρ 16 = σ 16 := eq_q h.1 (by decide)
  have e18 : ρ 18 = σ 18 := eq_q h.1 (by decide)
  unfold sp_result rf_result
  simp only [rf_thr, ri_T h, gt_p, ri_R, rk_3, e13]
  by_cases c1 : okKnown x1 (σ 7 11) = true
  · obtain ⟨i, hc, hi, rfl⟩ := th_n h.2.1 c1
    by_cases c2 : okKnown x2 3 = true
    · obtain ⟨t, ht, rfl⟩ := t3_n c2
      by_cases c3 : okRange x3 0 10000 = true
      · rcases sc_lt h.2.2.2 (nI i).toNatClampNeg with ⟨c4, c5, c6⟩ | ⟨c4, c5, c6⟩
        · have c7 : sp_isScrapped σ (nI i) = 0 := if_pos c4
          rw [nI_clamp (by omega)] at c4
          simp only [c1, c2, c3, c5, c7, if_true, if_false, thrv, not_true, not_false_eq_true, ite_self]
          rw [if_pos (show (if (0 : Int32) ≤ 0 then (0 : Int32) else 1) = 0 from by decide)]
          simp only [eg_eq]
          unfold sp_gradeOf
          simp only [i3_c, i3_a (show i < 1000 by omega) (show t < 1000 by omega), nI_clamp (show i < 2 ^ 31 by omega)]
          have hr := rel_thr h 0
          have r6 : su ρ 0 0 0 6 = σ 6 := e6
          have r5 : su ρ 0 0 0 5 = σ 5 := e5
          have r8 : su ρ 0 0 0 8 = σ 8 := e8
          have r16 : su ρ 0 0 0 16 = σ 16 := e16
          have r18 : su ρ 0 0 0 18 = σ 18 := e18
          have r01 : su ρ 0 0 0 0 1 = σ 0 5 := e0
          have r00 : su ρ 0 0 0 0 0 = 0 := su_same _ _ _ _
          simp only [r6, r5, r8, r16, r18, r01]
          have g7 := h.2.2.2.2.2.2.2.2.2.2.1 i c4 t ht
          have g6 := h.2.2.2.2.2.2.2.2.2.1 (3 * i + t)
          generalize hg : (if x3 < σ 6 (σ 8 i * 3 + nI t).toNatClampNeg then if x3 < σ 5 (σ 8 i * 3 + nI t).toNatClampNeg then (2 : Int32) else 1 else 0) = g
          have hg2 : g = 0 ∨ g = 1 ∨ g = 2 := by grind
          clear hg r6 r5 r8 r16 r18
          have mx2 : (if σ 18 (3 * i + t) ≤ g then g else σ 18 (3 * i + t)) = (if σ 18 (3 * i + t) < g then g else σ 18 (3 * i + t)) := by grind
          simp only [mx2]
          generalize su ρ 0 0 0 = ρ' at hr r01 r00 ⊢
          generalize hv : (if σ 16 (3 * i + t) = σ 0 5 then (if σ 18 (3 * i + t) < g then g else σ 18 (3 * i + t)) else g) = v
          by_cases d : g = 2
          · subst d
            have hv2 : v = 2 := by grind
            subst hv2
            simp only [if_true]
            refine so_ok (σ' := su (su (su (su σ 18 (3 * i + t) 2) 16 (3 * i + t) (σ 0 5)) 17 (3 * i + t) 0) 13 i (σ 0 5)) ?_ ?_ ?_
            · have q : ∀ z, su (su (su ρ' 18 (3 * i + t) 2) 16 (3 * i + t) z) 17 (3 * i + t) 0 0 1 = σ 0 5 := fun z => r01
              have q2 : su ρ' 18 (3 * i + t) 2 0 1 = σ 0 5 := r01
              rw [q, q2]
              exact rl_scr hr hc ht c4
            · exact r00
            · simp [su_r]
          · have hv1 : 0 ≤ v ∧ v ≤ 1 := by grind
            simp only [d, if_false]
            refine so_ok (σ' := su (su (su σ 18 (3 * i + t) v) 16 (3 * i + t) (σ 0 5)) 17 (3 * i + t) 0) ?_ ?_ ?_
            · have q2 : su ρ' 18 (3 * i + t) v 0 1 = σ 0 5 := r01
              rw [q2]
              exact rl_res hr hc ht c4 hv1
            · exact r00
            · simp [su_r]
        · have c7 : ¬ sp_isScrapped σ (nI i) = 0 := by unfold sp_isScrapped; rw [if_neg c4]; decide
          simp only [c1, c2, c3, c5, c7, if_true, if_false, thrv, not_true, not_false_eq_true, ite_self]
          exact so_err h (by first | decide | (simp [thrv]; decide)) (by decide)
      · simp only [c1, c2, c3]
        exact so_err h (by first | decide | (simp [thrv]; decide)) (by decide)
    · simp only [c1, c2]
      exact so_err h (by first | decide | (simp [thrv]; decide)) (by decide)
  · simp only [c1]
    exact so_err h (by first | decide | (simp [thrv]; decide)) (by decide)
