/-! pure rows behind the specs, that the walks need -/
theorem fl_in (σ : St) (x1 x2 : Int32) : ∀ (n k : Nat) (x3 : Int32), k + n ≤ 40 → sp_findLeftOf_5 σ x1 x2 n k x3 = (-1 : Int32) ∨ vp_in (sp_findLeftOf_5 σ x1 x2 n k x3) 40 := by
  intro n
  induction n with
  | zero => intro k x3 _; exact Or.inl rfl
  | succ n ih =>
    intro k x3 h
    rw [sp_findLeftOf_5_s]
    split
    · exact ih _ _ (by omega)
    · split
      · exact Or.inr (vp_in_nI (by omega) (by decide))
      · exact ih _ _ (by omega)
theorem find_in {σ : St} {x1 x2 : Int32} (h : IV σ) (c : ¬ sp_findLeftOf σ x1 x2 = (-1 : Int32)) : vp_in (sp_findLeftOf σ x1 x2) 40 := by
  have h1 := iv_le h
  rcases fl_in σ x1 x2 (cntN σ) 0 (0 : Int32) (by omega) with h2 | h2
  · exact absurd h2 c
  · exact h2
theorem cs_nI (σ : St) (x1 : Int32) : ∀ (n k j : Nat), ∃ c, c ≤ j + n ∧ sp_countScrapped_4 σ x1 n k (nI j) = nI c := by
  intro n
  induction n with
  | zero => intro k j; exact ⟨j, by omega, rfl⟩
  | succ n ih =>
    intro k j
    rw [sp_countScrapped_4_s]
    have h0 : ∃ c, c ≤ j + (n + 1) ∧ sp_countScrapped_4 σ x1 n (k + 1) (nI j) = nI c := by
      obtain ⟨c, h1, h2⟩ := ih (k + 1) j
      exact ⟨c, by omega, h2⟩
    split
    · split
      · exact h0
      · obtain ⟨c, h1, h2⟩ := ih (k + 1) (j + 1)
        refine ⟨c, by omega, ?_⟩
        rw [← h2, ← nI_1]
    · exact h0
theorem cs_dv {σ : St} {x1 : Int32} (h : IV σ) (c : ¬ sp_countScrapped σ x1 = 0) : ∃ dv, sp_countScrapped σ x1 = nI (dv + 1) ∧ dv < 1000 := by
  have h1 := iv_le h
  obtain ⟨j, h2, h3⟩ := cs_nI σ x1 (cntN σ) 0 0
  have h4 : sp_countScrapped σ x1 = nI j := h3
  cases j with
  | zero => exact absurd h4 c
  | succ j => exact ⟨j, h4, by omega⟩
theorem cd_ne0_2 (x0 x1 : Int32) : ∀ n, n < 1000 → ¬ sp_commonDivisor_2 x0 x1 n = 0 := by
  intro n
  induction n with
  | zero => intro _; rw [sp_commonDivisor_2_0]; decide
  | succ n ih =>
    intro h
    rw [sp_commonDivisor_2_s]
    split
    · split
      · exact nI_ne0 (by omega) (by omega)
      · exact ih (by omega)
    · exact ih (by omega)
theorem cd_ne0 {x0 x1 : Int32} {d : Nat} (hd : x1 = nI (d + 1)) (hd1 : d < 1000) : ¬ sp_commonDivisor x0 x1 = 0 := by
  unfold sp_commonDivisor
  rw [cd_n hd hd1]
  exact cd_ne0_2 x0 x1 d hd1
theorem iv_fill2 (σ : St) (x1 x2 : Int32) : ∀ (n k : Nat) (σ1 : St), IV σ1 → IV (sp_fillEndRow_2 σ x1 x2 σ1 n k) ∧ cntN (sp_fillEndRow_2 σ x1 x2 σ1 n k) = cntN σ1 := by
  intro n
  induction n with
  | zero => intro k σ1 h; exact ⟨h, rfl⟩
  | succ n ih =>
    intro k σ1 h
    rw [sp_fillEndRow_2_s]
    split
    · split
      · exact ih _ _ (iv_suq h (by decide))
      · exact ih _ _ (iv_suq h (by decide))
    · split
      · exact ih _ _ (iv_suq h (by decide))
      · exact ih _ _ (iv_suq h (by decide))
theorem iv_fill {σ : St} (h : IV σ) (x1 x2 : Int32) : IV (sp_fillEndRow σ x1 x2) := (iv_fill2 σ x1 x2 _ _ _ h).1
theorem cnt_fill {σ : St} (h : IV σ) (x1 x2 : Int32) : cntN (sp_fillEndRow σ x1 x2) = cntN σ := (iv_fill2 σ x1 x2 _ _ _ h).2
theorem kt_keep (σ : St) (x1 : Int32) {q j : Nat} (hq : q ≠ 23) : ∀ (n k : Nat) (σ1 : St), sp_keepTried_7 σ x1 σ1 n k q j = σ1 q j := by
  intro n
  induction n with
  | zero => intro k σ1; rfl
  | succ n ih =>
    intro k σ1
    rw [sp_keepTried_7_s, ih, su_nq _ _ hq]
theorem pl_keep (rc : St → Int32 → Int32 → St) (x1 x2 : Int32) {q j : Nat} (hrc : ∀ σ x y, rc σ x y q j = σ q j) (h22 : q ≠ 22) (h24 : q ≠ 24) : ∀ (n k : Nat) (σ1 : St), sp_putFrom_25 rc x1 x2 σ1 n k q j = σ1 q j := by
  intro n
  induction n with
  | zero => intro k σ1; rfl
  | succ n ih =>
    intro k σ1
    rw [sp_putFrom_25_s]
    split
    · rfl
    · rw [ih, su_nq _ _ h24, hrc, su_nq _ _ h24, su_nq _ _ h22]
theorem pf_keep {q j : Nat} (h22 : q ≠ 22) (h23 : q ≠ 23) (h24 : q ≠ 24) (h6 : ¬ (q = 19 ∧ j = 6)) : ∀ (D : Nat) (σ : St) (x1 x2 : Int32), sp_putFrom D σ x1 x2 q j = σ q j := by
  have hk : ∀ (σ : St) (x2 : Int32), sp_keepTried σ x2 q j = σ q j := by
    intro σ x2
    unfold sp_keepTried
    rw [kt_keep _ _ h23, su_ne _ _ h6]
  intro D
  induction D with
  | zero =>
    intro σ x1 x2
    rw [sp_putFrom_0]
    split
    · exact hk σ x2
    · rfl
  | succ D ih =>
    intro σ x1 x2
    rw [sp_putFrom_s]
    split
    · split
      · exact pl_keep _ _ _ ih h22 h24 _ _ _
      · exact hk σ x2
    · rfl
theorem pf_pln (D : Nat) (σ : St) (x1 x2 : Int32) : plnN (sp_putFrom D σ x1 x2) = plnN σ := by
  unfold plnN
  rw [pf_keep (by decide) (by decide) (by decide) (by decide)]
theorem iv_pf {σ : St} (h : IV σ) (D : Nat) (x1 x2 : Int32) : IV (sp_putFrom D σ x1 x2) := by
  have h1 := h
  unfold IV cntN plnN at h1 ⊢
  rw [pf_keep (q := 7) (j := 11) (by decide) (by decide) (by decide) (by decide), pf_keep (q := 19) (j := 5) (by decide) (by decide) (by decide) (by decide)]
  refine ⟨h1.1, h1.2.1, fun j hj => ?_, fun j hj => ?_, h1.2.2.2.2.1, h1.2.2.2.2.2.1, fun j hj => ?_⟩
  · rw [pf_keep (by decide) (by decide) (by decide) (fun q => absurd q.1 (by decide))]; exact h1.2.2.1 j hj
  · rw [pf_keep (by decide) (by decide) (by decide) (fun q => absurd q.1 (by decide))]; exact h1.2.2.2.1 j hj
  · rw [pf_keep (by decide) (by decide) (by decide) (fun q => absurd q.1 (by decide))]; exact h1.2.2.2.2.2.2 j hj

