theorem lf_sum {σ ρ : St} (h : GI σ) (e8 : ρ 8 = σ 8) (e12 : ρ 12 = σ 12) (e13 : ρ 13 = σ 13) (x1 x2 x3 : Int32) : ∀ (n k : Nat) (a b : Int32), rf_life_33 ρ x1 x2 n k x3 a b = rf_life_33 ρ x1 x2 0 0 x3 (sp_sumOfLives_4 σ x1 n k a) (sp_countScrapped_4 σ x1 n k b) := by
  intro n
  induction n with
  | zero => intro k a b; rw [rf_life_33_0, rf_life_33_0, sp_sumOfLives_4_0, sp_countScrapped_4_0]
  | succ n ih =>
    intro k a b
    rw [rf_life_33_s, sp_sumOfLives_4_s, sp_countScrapped_4_s, e8, e12, e13]
    unfold sp_isScrapped
    by_cases c : σ 8 (nI k).toNatClampNeg = x1
    · rw [if_pos c, if_pos c, if_pos c]
      rcases sc_lt h (nI k).toNatClampNeg with ⟨c4, c5, c6⟩ | ⟨c4, c5, c6⟩
      · rw [if_pos c5, if_pos c4, if_pos rfl, if_pos rfl]
        exact ih _ _ _
      · rw [if_neg c5, if_neg c4, if_neg (show ¬ (1 : Int32) = 0 from by decide), if_neg (show ¬ (1 : Int32) = 0 from by decide)]
        exact ih _ _ _
    · rw [if_neg c, if_neg c, if_neg c]
      exact ih _ _ _
theorem sm_nI {σ : St} (h : GI σ) (x1 : Int32) {B : Nat} (hB : 99999 ≤ B) : ∀ (n k j : Nat), ∃ s, s ≤ j + n * B ∧ sp_sumOfLives_4 σ x1 n k (nI j) = nI s := by
  intro n
  induction n with
  | zero => intro k j; exact ⟨j, Nat.le_add_right _ _, rfl⟩
  | succ n ih =>
    intro k j
    rw [sp_sumOfLives_4_s, Nat.succ_mul]
    have h0 : ∃ s, s ≤ j + (n * B + B) ∧ sp_sumOfLives_4 σ x1 n (k + 1) (nI j) = nI s := by
      obtain ⟨c, h1, h2⟩ := ih (k + 1) j
      exact ⟨c, by omega, h2⟩
    unfold sp_isScrapped
    split
    · rcases sc_lt h (nI k).toNatClampNeg with ⟨c4, c5, c6⟩ | ⟨c4, c5, c6⟩
      · rw [if_pos c4, if_pos rfl]
        exact h0
      · rw [if_neg c4, if_neg (show ¬ (1 : Int32) = 0 from by decide)]
        have g := h.2.2.2.2.1 (nI k).toNatClampNeg
        have g0 := h.2.2.2.1 (nI k).toNatClampNeg
        have a0 := h.1
        have b1 : ¬ σ 13 (nI k).toNatClampNeg - σ 12 (nI k).toNatClampNeg < 0 := by grind
        have b2 : σ 13 (nI k).toNatClampNeg - σ 12 (nI k).toNatClampNeg ≤ 99999 := by grind
        obtain ⟨m, hm, e⟩ := nI_of2 (n := 99999) (by decide) b1 b2
        rw [e, nI_add]
        obtain ⟨c, h1, h2⟩ := ih (k + 1) (j + m)
        exact ⟨c, by omega, h2⟩
    · exact h0
theorem cd_gcd {S C : Nat} (hS : S < 2 ^ 31) (hC : C < 2 ^ 31) (hC1 : 1 ≤ C) : ∀ n, n < 1000 → Nat.gcd S C ≤ n + 1 → sp_commonDivisor_2 (nI S) (nI C) n = nI (Nat.gcd S C) := by
  have hg : 0 < Nat.gcd S C := Nat.gcd_pos_of_pos_right _ hC1
  intro n
  induction n with
  | zero =>
    intro _ h
    rw [sp_commonDivisor_2_0, show Nat.gcd S C = 1 by omega]
    rfl
  | succ n ih =>
    intro hn h
    rw [sp_commonDivisor_2_s, pk_rem hC (by omega) (by omega), pk_rem hS (by omega) (by omega)]
    have z : ∀ m, m % (n + 1 + 1) < 2 ^ 31 := fun m => Nat.lt_of_lt_of_le (Nat.mod_lt _ (by omega)) (by omega)
    by_cases c1 : C % (n + 1 + 1) = 0
    · rw [c1, if_pos nI_0]
      by_cases c2 : S % (n + 1 + 1) = 0
      · rw [c2, if_pos nI_0]
        have d := Nat.le_of_dvd hg (Nat.dvd_gcd (Nat.dvd_of_mod_eq_zero c2) (Nat.dvd_of_mod_eq_zero c1))
        exact congrArg nI (by omega)
      · rw [if_neg (nI_ne0 (by omega) (z _))]
        refine ih (by omega) ?_
        rcases Nat.lt_or_ge (Nat.gcd S C) (n + 1 + 1) with q | q
        · omega
        · exact absurd (by rw [show n + 1 + 1 = Nat.gcd S C by omega]; exact Nat.mod_eq_zero_of_dvd (Nat.gcd_dvd_left _ _)) c2
    · rw [if_neg (nI_ne0 (by omega) (z _))]
      refine ih (by omega) ?_
      rcases Nat.lt_or_ge (Nat.gcd S C) (n + 1 + 1) with q | q
      · omega
      · exact absurd (by rw [show n + 1 + 1 = Nat.gcd S C by omega]; exact Nat.mod_eq_zero_of_dvd (Nat.gcd_dvd_right _ _)) c1
theorem eu_gcd : ∀ (f a b : Nat), a < 2 ^ 31 → b < 2 ^ 31 → b ≤ f → rf_life_122 f (nI a) (nI b) = nI (Nat.gcd a b) := by
  intro f
  induction f with
  | zero =>
    intro a b _ _ hb
    rw [rf_life_122_0, show b = 0 by omega, Nat.gcd_zero_right]
  | succ f ih =>
    intro a b ha hb hf
    rw [rf_life_122_s]
    rcases Nat.eq_zero_or_pos b with h0 | h0
    · subst h0
      rw [if_pos (by decide), Nat.gcd_zero_right]
    · have hm := Nat.mod_lt a h0
      rw [if_neg (nI_nle h0 hb), pk_rem ha h0 hb, ih b (a % b) hb (by omega) (by omega), Nat.gcd_comm a b, Nat.gcd_rec b a, Nat.gcd_comm]
theorem st_life {σ ρ : St} (h : Rel σ ρ) (x1 x2 : Int32) : stO ["java/lang/IllegalArgumentException", "java/lang/ArithmeticException"] σ (sp_life σ x1 x2) (rf_life ρ x1 x2) := by
  have hle := iv_le h.2.1
  unfold sp_life rf_life
  simp only [ri_R, rk_5, rk_2, gt_p]
  rw [lf_sum h.2.2.2 (eq_q h.1 (by decide)) (eq_q h.1 (by decide)) (eq_q h.1 (by decide)), rf_life_33_0, cnt_eq h.1]
  obtain ⟨S, hS, eS⟩ := sm_nI h.2.2.2 x1 (Nat.le_refl 99999) (cntN σ) 0 0
  have hS : S < 2 ^ 31 := by
    have := Nat.mul_le_mul_right 99999 hle
    omega
  obtain ⟨C, hC, eC⟩ := cs_nI σ x1 (cntN σ) 0 0
  have eS : sp_sumOfLives_4 σ x1 (cntN σ) 0 0 = nI S := eS
  have eC : sp_countScrapped_4 σ x1 (cntN σ) 0 0 = nI C := eC
  unfold sp_countScrapped sp_sumOfLives sp_commonDivisor
  rw [eS, eC]
  simp only [rf_thr]
  by_cases c1 : okKnown x1 5 = true
  · by_cases c2 : okKnown x2 2 = true
    · rcases Nat.eq_zero_or_pos C with h0 | h0
      · subst h0
        simp only [c1, c2, if_true, if_false, not_true]
        rw [if_pos nI_0, if_pos nI_0]
        exact so_err h (by first | decide | (simp [thrv]; decide)) (by decide)
      · have n0 : ¬ nI C = 0 := nI_ne0 h0 (by omega)
        simp only [c1, c2, n0, if_true, if_false, thrv, not_true]
        rw [if_pos (show (if (0 : Int32) ≤ 0 then (0 : Int32) else 1) = 0 from by decide), nI_clamp (show C < 2 ^ 31 by omega), eu_gcd C S C hS (by omega) (Nat.le_refl _), cd_gcd hS (by omega) h0 (C - 1) (by omega) (by have := Nat.le_of_dvd h0 (Nat.gcd_dvd_right S C); omega)]
        by_cases c3 : x2 = 0
        · rw [if_pos c3, if_pos c3]
          exact so_ok (rel_thr h 0) rfl rfl
        · rw [if_neg c3, if_neg c3]
          exact so_ok (rel_thr h 0) rfl rfl
    · simp only [c1, c2]
      exact so_err h (by first | decide | (simp [thrv]; decide)) (by decide)
  · simp only [c1]
    exact so_err h (by first | decide | (simp [thrv]; decide)) (by decide)
