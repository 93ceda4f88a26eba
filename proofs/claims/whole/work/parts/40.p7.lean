theorem st_barred {σ ρ : St} (h : Rel σ ρ) (x1 : Int32) : stO ["java/lang/IllegalArgumentException"] σ (sp_barred σ x1) (rf_barred ρ x1) := by
  unfold sp_barred rf_barred
  simp only [rf_thr, ri_T h, gt_p]
  by_cases c1 : okKnown x1 (σ 7 11) = true
  · obtain ⟨i, hc, hi, rfl⟩ := th_n h.2.1 c1
    simp only [c1, if_true, if_false, thrv, not_true]
    exact so_ok (rel_thr h _) rfl (re_rel (rel_thr h _) hi).symm
  · simp only [c1]
    exact so_err h (by first | decide | (simp [thrv]; decide)) (by decide)
theorem st_ends {σ ρ : St} (h : Rel σ ρ) (x1 : Int32) : stO ["java/lang/IllegalArgumentException"] σ (sp_ends σ x1) (rf_ends ρ x1) := by
  unfold sp_ends rf_ends
  simp only [rf_thr, ri_T h, gt_p]
  by_cases c1 : okKnown x1 (σ 7 11) = true
  · obtain ⟨i, hc, hi, rfl⟩ := th_n h.2.1 c1
    simp only [c1, if_true, if_false, thrv, not_true]
    rw [if_pos (show (if (0 : Int32) ≤ 0 then (0 : Int32) else 1) = 0 from by decide)]
    rcases en_rel (rel_thr h 0) (nI i) with ⟨e1, e2⟩ | ⟨e1, e2, e3⟩
    · rw [if_pos e1]
      exact so_ok (rel_thr h _) rfl e2
    · have a0 := h.2.2.2.1
      rw [if_neg (by rw [e1]; grind)]
      exact so_ok (rel_thr h _) rfl e1.symm
  · simp only [c1]
    exact so_err h (by first | decide | (simp [thrv]; decide)) (by decide)
theorem cu_ind {x : Int32} {r s : St} : ∀ (n k : Nat) (σ ρ : St), Rel σ ρ → Rel (sp_countUse_2 r x (σ 0 5) σ n k) (rf_use_44 s x ρ n k) ∧ (rf_use_44 s x ρ n k) 0 0 = ρ 0 0 := by
  intro n
  induction n with
  | zero => intro k σ ρ h; exact ⟨h, rfl⟩
  | succ n ih =>
    intro k σ ρ h
    rw [sp_countUse_2_s, rf_use_44_s, i3_c]
    have e0 : ρ 0 1 = σ 0 5 := h.1.2.2.2.1.symm
    have e16 : ρ 16 = σ 16 := eq_q h.1 (by decide)
    have e17 : ρ 17 = σ 17 := eq_q h.1 (by decide)
    have a2 := h.2.2.2.2.2.2.2.2.1 ((x * 3 + nI k).toNatClampNeg)
    rw [e0, e16]
    by_cases c : σ 16 (x * 3 + nI k).toNatClampNeg = σ 0 5
    · rw [if_pos c]
      have c2 : σ 0 5 ≤ σ 16 (x * 3 + nI k).toNatClampNeg := by grind
      rw [if_pos c2]
      dsimp only
      rw [ad_0, su_id]
      exact ih _ _ _ h
    · rw [if_neg c]
      have c2 : ¬ σ 0 5 ≤ σ 16 (x * 3 + nI k).toNatClampNeg := by grind
      rw [if_neg c2]
      dsimp only
      rw [e17]
      have q := ih (k + 1) _ _ (rel_su h (q := 17) (by decide) (x * 3 + nI k).toNatClampNeg (σ 17 (x * 3 + nI k).toNatClampNeg + 1))
      exact ⟨q.1, q.2⟩
theorem ba_0 {σ : St} (x : Int32) : sp_reasonBarred σ x ≤ 0 ↔ sp_reasonBarred σ x = 0 := by
  have : 0 ≤ sp_reasonBarred σ x := by
    unfold sp_reasonBarred
    repeat' split
    all_goals decide
  grind
theorem st_use {σ ρ : St} (h : Rel σ ρ) (x1 : Int32) : stV ["java/lang/IllegalArgumentException", "java/lang/IllegalStateException"] σ (sp_use σ x1) (rf_use ρ x1) := by
  unfold sp_use rf_use
  simp only [rf_thr, ri_T h, gt_p]
  by_cases c1 : okKnown x1 (σ 7 11) = true
  · obtain ⟨i, hc, hi, rfl⟩ := th_n h.2.1 c1
    simp only [c1, if_true, if_false, thrv, not_true, not_false_eq_true, re_rel h hi, ba_0]
    by_cases c2 : sp_reasonBarred σ (nI i) = 0
    · simp only [c2, if_true, ite_self]
      rw [if_pos (show (if (0 : Int32) ≤ 0 then (0 : Int32) else 1) = 0 from by decide)]
      unfold sp_countUse
      have q := cu_ind (x := nI i) (r := σ) (s := ρ) 3 0 σ _ (rel_thr h 0)
      exact st_ok q.1 q.2
    · simp only [c2, if_false]
      exact st_err h (by first | decide | (simp [thrv]; decide))
  · simp only [c1]
    exact st_err h (by first | decide | (simp [thrv]; decide))
theorem st_load {σ ρ : St} (h : Rel σ ρ) (x1 x2 : Int32) : stV ["java/lang/IllegalArgumentException", "java/lang/IllegalStateException"] σ (sp_load σ x1 x2) (rf_load ρ x1 x2) := by
  unfold sp_load rf_load
  simp only [rf_thr, ri_T h, gt_p, ri_R, rk_20]
  by_cases c1 : okKnown x1 (σ 7 11) = true
  · obtain ⟨i, hc, hi, rfl⟩ := th_n h.2.1 c1
    by_cases c3 : okKnown x2 20 = true
    · simp only [c1, c3, if_true, if_false, thrv, not_true, not_false_eq_true, re_rel h hi, ba_0]
      by_cases c2 : sp_reasonBarred σ (nI i) = 0
      · simp only [c2, if_true, ite_self]
        exact st_ok (rel_su (rel_thr h 0) (by decide) _ _) rfl
      · simp only [c2, if_false]
        exact st_err h (by first | decide | (simp [thrv]; decide))
    · simp only [c1, c3]
      exact st_err h (by first | decide | (simp [thrv]; decide))
  · simp only [c1]
    exact st_err h (by first | decide | (simp [thrv]; decide))
theorem st_thingAt {σ ρ : St} (h : Rel σ ρ) (x1 x2 : Int32) : stO ["java/lang/IllegalArgumentException"] σ (sp_thingAt σ x1 x2) (rf_thingAt ρ x1 x2) := by
  have e11 : ρ 11 = σ 11 := eq_q h.1 (by decide)
  have e13 : ρ 13 = σ 13 := eq_q h.1 (by decide)
  have e14 : ρ 14 = σ 14 := eq_q h.1 (by decide)
  have e15 : ρ 15 = σ 15 := eq_q h.1 (by decide)
  have e16 : ρ 16 = σ 16 := eq_q h.1 (by decide)
  have e17 : ρ 17 = σ 17 := eq_q h.1 (by decide)
  unfold rf_thingAt sp_thingAt
  simp only [rf_thr, ri_T h, gt_p, ri_R]
  by_cases c1 : okKnown x1 (σ 7 11) = true
  · obtain ⟨i, hc, hi, rfl⟩ := th_n h.2.1 c1
    by_cases c3 : okRange x2 0 10 = true
    · have c4 := okR_in c3
      have hr := rel_thr h 0
      simp only [c1, c3, if_true, if_false, thrv, not_true, not_false_eq_true]
      have fq : ∀ q j, q ≠ 0 → su ρ 0 0 0 q j = ρ q j := fun q j hq => su_ne _ _ (fun z => hq z.1)
      by_cases d0 : x2 = 0
      · subst d0
        simp only [if_true]
        refine so_ok hr rfl ?_
        unfold rf_stateOf
        rw [fq 13 _ (by decide), e13, nI_clamp (by omega)]
        rcases sc_lt h.2.2.2 i with ⟨c2, c3, c4⟩ | ⟨c2, c3, c4⟩
        · rw [if_pos c3, co_rel hr]
        · rw [if_neg c3]
          exact (co_val h.2.2.2 hi).2 hc c2
      rw [if_neg d0]
      by_cases d1 : x2 = 1
      · subst d1
        exact so_ok hr rfl (congrFun e11 _).symm
      rw [if_neg d1]
      by_cases d2 : x2 = 2
      · subst d2
        exact so_ok hr rfl (congrFun e14 _).symm
      rw [if_neg d2]
      by_cases d3 : x2 = 3
      · subst d3
        have : su ρ 0 0 0 15 (nI i).toNatClampNeg = σ 15 (nI i).toNatClampNeg := congrFun e15 _
        simp only [this, if_true]
        by_cases z : σ 15 (nI i).toNatClampNeg = 0
        · simp only [z, if_true]
          exact so_ok hr rfl rfl
        · simp only [z, if_false]
          exact so_ok hr rfl rfl
      rw [if_neg d3]
      by_cases d4 : x2 = 4
      · subst d4
        exact so_ok hr rfl (by rw [i3_c]; exact (congrFun e17 _).symm)
      rw [if_neg d4]
      by_cases d5 : x2 = 5
      · subst d5
        exact so_ok hr rfl (by rw [i3_c]; exact (congrFun e17 _).symm)
      rw [if_neg d5]
      by_cases d6 : x2 = 6
      · subst d6
        exact so_ok hr rfl (by rw [i3_c]; exact (congrFun e17 _).symm)
      rw [if_neg d6]
      by_cases d7 : x2 = 7
      · subst d7
        exact so_ok hr rfl (by rw [i3_c]; exact (congrFun e16 _).symm)
      rw [if_neg d7]
      by_cases d8 : x2 = 8
      · subst d8
        exact so_ok hr rfl (by rw [i3_c]; exact (congrFun e16 _).symm)
      rw [if_neg d8]
      by_cases d9 : x2 = 9
      · subst d9
        exact so_ok hr rfl (by rw [i3_c]; exact (congrFun e16 _).symm)
      rw [if_neg d9]
      have d10 : x2 = 10 := by grind
      subst d10
      exact so_ok hr rfl (congrFun e13 _).symm
    · simp only [c1, c3]
      have hn : ∀ z : Int32, 0 ≤ z → z ≤ 10 → ¬ x2 = z := by
        intro z a b e
        subst e
        exact c3 (by unfold okRange; simp; grind)
      simp only [hn 0 (by decide) (by decide), hn 1 (by decide) (by decide), hn 2 (by decide) (by decide), hn 3 (by decide) (by decide), hn 4 (by decide) (by decide), hn 5 (by decide) (by decide), hn 6 (by decide) (by decide), hn 7 (by decide) (by decide), hn 8 (by decide) (by decide), hn 9 (by decide) (by decide), hn 10 (by decide) (by decide), if_false, if_true]
      exact so_err h (by first | decide | (simp [thrv]; decide)) (by decide)
  · simp only [c1]
    exact so_err h (by first | decide | (simp [thrv]; decide)) (by decide)
