theorem st_letter {σ ρ : St} (h : Rel σ ρ) (x1 : Int32) : stO ["java/lang/IndexOutOfBoundsException"] σ (sp_letter σ x1) (rf_letter ρ x1) := by
  unfold sp_letter rf_letter rf_isSerial
  simp only [rf_thr, ri_R, gt_p]
  by_cases c1 : okRange x1 0 999999 = true
  · simp only [c1, if_true, if_false, thrv, not_true]
    exact so_ok (rel_thr h _) rfl (lt_eq x1).symm
  · simp only [c1]
    exact so_err h (by first | decide | (simp [thrv]; decide)) (by decide)
theorem st_week {σ ρ : St} (h : Rel σ ρ) (x1 : Int32) : stO ["java/lang/IllegalArgumentException"] σ (sp_week σ x1) (rf_week ρ x1) := by
  unfold sp_week rf_week
  simp only [rf_thr, ri_R, gt_p, ri_W h]
  by_cases c1 : okKnown x1 (σ 19 5) = true
  · simp only [c1, if_true, if_false, thrv, not_true]
    exact so_ok (rel_thr h _) rfl (congrFun h.1.2.2.1 _)
  · simp only [c1]
    exact so_err h (by first | decide | (simp [thrv]; decide)) (by decide)
