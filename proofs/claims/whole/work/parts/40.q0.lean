theorem lf_ind {σ ρ : St} (h : GI σ) (e10 : ρ 10 = σ 10) (e13 : ρ 13 = σ 13) (x : Int32) : ∀ (n k : Nat) (a : Int32), rf_leftOf_4 ρ x n k a = sp_countLeftOf_4 σ x n k a := by
  intro n
  induction n with
  | zero => intro k a; rfl
  | succ n ih =>
    intro k a
    rw [rf_leftOf_4_s, sp_countLeftOf_4_s, e10, e13]
    dsimp only
    unfold sp_isLeftOf sp_isScrapped
    rw [ih]
    by_cases c : σ 10 (nI k).toNatClampNeg = x
    · rw [if_pos c, if_pos c]
      rcases sc_lt h (nI k).toNatClampNeg with ⟨c4, c5, c6⟩ | ⟨c4, c5, c6⟩
      · rw [if_neg c6, if_pos c4, if_pos rfl]
        rw [if_neg (by decide)]
      · rw [if_pos c6, if_neg c4, ad_0, if_neg (show ¬ (1 : Int32) = 0 from by decide), if_pos rfl]
    · rw [if_neg c, if_neg c, ad_0, if_pos rfl]
theorem eq_25 {σ ρ : St} (h : EQ σ ρ) (k : Nat) (v : Int32) : EQ (su σ 25 k v) (su ρ 19 k v) := by
  obtain ⟨h1, h2, h3, h4, h5, h6⟩ := h
  refine ⟨fun z hz => ?_, ?_, h3, h4, h5, h6⟩
  · rw [su_nq _ _ (by rintro rfl; exact absurd hz (by decide)), su_nq _ _ (by rintro rfl; exact absurd hz (by decide))]
    exact h1 z hz
  · unfold su va_up
    rw [if_pos rfl, if_pos rfl, h2]
theorem st_recall {σ ρ : St} (h : Rel σ ρ) (x1 x2 : Int32) : stO ["java/lang/IllegalArgumentException", "java/lang/IllegalStateException"] σ (sp_recall σ x1 x2) (rf_recall ρ x1 x2) := by
  have e25 : ρ 19 = σ 25 := h.1.2.1.symm
  unfold sp_recall rf_recall
  simp only [rf_thr, ri_R, rk_10, gt_p, e25]
  by_cases c1 : okKnown x1 10 = true
  · simp only [c1, if_true, if_false, thrv, not_true, not_false_eq_true, ite_self]
    by_cases c2 : σ 25 x1.toNatClampNeg = x2
    · simp only [c2, if_true]
      exact so_err h (by first | decide | (simp [thrv]; decide)) (by decide)
    · simp only [c2, if_false, if_true]
      rw [if_pos (show (if (0 : Int32) ≤ 0 then (0 : Int32) else 1) = 0 from by decide)]
      have hr : Rel (su σ 25 x1.toNatClampNeg (vp_nar .boolean x2)) (su (su ρ 0 0 0) 19 x1.toNatClampNeg (vp_nar .boolean x2)) := ⟨eq_25 (eq_thr h.1 _) _ _, iv_suq h.2.1 (by decide), ir_suq (ir_su0 h.2.2.1 (by decide)) (by decide), gi_suq h.2.2.2 (by decide)⟩
      refine so_ok hr rfl ?_
      unfold rf_leftOf sp_countLeftOf
      rw [cnt_eq hr.1]
      exact (lf_ind hr.2.2.2 (eq_q hr.1 (by decide)) (eq_q hr.1 (by decide)) x1 _ _ _).symm
  · simp only [c1]
    exact so_err h (by first | decide | (simp [thrv]; decide)) (by decide)
theorem rc_ind {σ ρ : St} (h : GI σ) (e10 : ρ 10 = σ 10) (e11 : ρ 11 = σ 11) (e13 : ρ 13 = σ 13) (s : St) (x1 x2 z : Int32) : ∀ (n k : Nat) (a : Int32), k + n ≤ 40 → rf_recalled_40 s x1 z ρ n k (x2 - a) = (if sp_findLeftOf_5 σ x1 x2 n k a = -1 then -1 else 100 * sp_findLeftOf_5 σ x1 x2 n k a + σ 11 (sp_findLeftOf_5 σ x1 x2 n k a).toNatClampNeg, ρ) := by
  intro n
  induction n with
  | zero =>
    intro k a _
    rw [rf_recalled_40_0, sp_findLeftOf_5_0, if_pos rfl]
  | succ n ih =>
    intro k a hk
    rw [rf_recalled_40_s, sp_findLeftOf_5_s, e10, e13, e11]
    unfold sp_isLeftOf sp_isScrapped
    by_cases c : σ 10 (nI k).toNatClampNeg = x1
    · rw [if_pos c, if_pos c]
      rcases sc_lt h (nI k).toNatClampNeg with ⟨c4, c5, c6⟩ | ⟨c4, c5, c6⟩
      · rw [if_neg c6, if_pos c4, if_pos rfl, if_neg (show ¬ (1 : Int32) = 0 from by decide)]
        by_cases d : a = x2
        · rw [if_pos (show x2 - a = 0 from by grind), if_pos d]
          have : ¬ nI k = -1 := by
            intro q
            have := congrArg Int32.toInt q
            rw [nI_toInt (by omega), show (-1 : Int32).toInt = -1 from by decide] at this
            omega
          rw [if_neg this]
        · rw [if_neg (show ¬ x2 - a = 0 from by grind), if_neg d, show x2 - a + -1 = x2 - (a + 1) from by grind]
          exact ih _ _ (by omega)
      · rw [if_pos c6, if_neg c4, if_neg (show ¬ (1 : Int32) = 0 from by decide), if_pos rfl]
        exact ih _ _ (by omega)
    · rw [if_neg c, if_neg c, if_pos rfl]
      exact ih _ _ (by omega)
theorem rn_0 (x : Int32) : okRange x 0 2147483647 = true ↔ 0 ≤ x := by
  unfold okRange
  simp only [Bool.and_eq_true, Bool.not_eq_true', decide_eq_false_iff_not, decide_eq_true_eq]
  grind
theorem st_recalled {σ ρ : St} (h : Rel σ ρ) (x1 x2 : Int32) : stO ["java/lang/IllegalArgumentException", "java/lang/IndexOutOfBoundsException"] σ (sp_recalled σ x1 x2) (rf_recalled ρ x1 x2) := by
  unfold sp_recalled rf_recalled
  simp only [rf_thr, ri_R, rk_10, gt_p, rn_0]
  by_cases c1 : okKnown x1 10 = true
  · by_cases c2 : 0 ≤ x2
    · simp only [c1, c2, if_true, if_false, thrv, not_true, not_false_eq_true, ite_self]
      rw [if_pos (show (if (0 : Int32) ≤ 0 then (0 : Int32) else 1) = 0 from by decide)]
      have hr := rel_thr h 0
      have q := rc_ind (ρ := su ρ 0 0 0) h.2.2.2 (eq_q hr.1 (by decide)) (eq_q hr.1 (by decide)) (eq_q hr.1 (by decide)) ρ x1 x2 x2 (cntN σ) 0 0 (by have := iv_le h.2.1; omega)
      rw [show x2 - 0 = x2 from by grind] at q
      rw [cnt_eq h.1, q]
      unfold sp_findLeftOf
      by_cases d : sp_findLeftOf_5 σ x1 x2 (cntN σ) 0 0 = -1
      · rw [if_pos d, if_pos d]
        exact so_ok hr rfl rfl
      · rw [if_neg d, if_neg d]
        exact so_ok hr rfl rfl
    · simp only [c1, c2]
      exact so_err h (by first | decide | (simp [thrv]; decide)) (by decide)
  · simp only [c1]
    exact so_err h (by first | decide | (simp [thrv]; decide)) (by decide)
