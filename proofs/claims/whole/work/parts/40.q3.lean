theorem du_cong {σ τ : St} (h : ∀ q, q ≠ 26 → τ q = σ q) (x y : Int32) : sp_dueFrom τ x y = sp_dueFrom σ x y := by
  unfold sp_dueFrom
  rw [h 0 (by decide), h 3 (by decide), h 4 (by decide), h 8 (by decide), h 16 (by decide), h 17 (by decide)]
theorem od_cong {σ τ : St} (h : ∀ q, q ≠ 26 → τ q = σ q) (x : Int32) : sp_oldFrom τ x = sp_oldFrom σ x := by
  unfold sp_oldFrom
  rw [h 2 (by decide), h 8 (by decide), h 12 (by decide)]
theorem en_cong {σ τ : St} (h : ∀ q, q ≠ 26 → τ q = σ q) (x : Int32) : sp_endOf τ x = sp_endOf σ x := by
  have e : sp_someTestDueFrom τ x = sp_someTestDueFrom σ x := by rw [sd_eq, sd_eq, du_cong h, du_cong h, du_cong h]
  unfold sp_endOf sp_isScrapped
  rw [e, od_cong h, h 0 (by decide), h 13 (by decide)]
def roW (σ : St) (p L : Int32) (j : Nat) : Int32 := if σ 11 j = p then (if L < sp_endOf σ (nI j) then -1 else sp_endOf σ (nI j)) else -1
theorem fr_ind {σ : St} (s : St) (p L : Int32) : ∀ (n k : Nat) (σ1 : St), k + n ≤ 40 → (∀ q, q ≠ 26 → σ1 q = σ q) → (∀ q, q ≠ 26 → sp_fillEndRow_2 s p L σ1 n k q = σ q) ∧ (∀ j, j < k → sp_fillEndRow_2 s p L σ1 n k 26 j = σ1 26 j) ∧ (∀ j, k ≤ j → j < k + n → sp_fillEndRow_2 s p L σ1 n k 26 j = roW σ p L j) := by
  intro n
  induction n with
  | zero => intro k σ1 _ h; exact ⟨h, fun _ _ => rfl, fun j h1 h2 => by omega⟩
  | succ n ih =>
    intro k σ1 hk h
    have key : sp_fillEndRow_2 s p L σ1 (n + 1) k = sp_fillEndRow_2 s p L (su σ1 26 k (roW σ p L k)) n (k + 1) := by
      rw [sp_fillEndRow_2_s, nI_clamp (show k < 2 ^ 31 by omega), en_cong h, h 11 (by decide)]
      unfold roW
      dsimp only
      by_cases c : σ 11 k = p
      · rw [if_pos c, if_pos c]
        by_cases d : L < sp_endOf σ (nI k)
        · rw [if_pos d, if_pos d]
        · rw [if_neg d, if_neg d]
      · rw [if_neg c, if_neg c, ite_self]
    rw [key]
    have h' : ∀ q, q ≠ 26 → su σ1 26 k (roW σ p L k) q = σ q := fun q hq => by rw [su_nq _ _ hq]; exact h q hq
    obtain ⟨i1, i2, i3⟩ := ih (k + 1) (su σ1 26 k (roW σ p L k)) (by omega) h'
    refine ⟨i1, fun j hj => ?_, fun j h1 h2 => ?_⟩
    · rw [i2 j (by omega), su_ne _ _ (fun z => by omega)]
    · by_cases e : j = k
      · subst e
        rw [i2 j (by omega), su_same]
      · exact i3 j (by omega) (by omega)
theorem cb_s (τ : St) (x : Int32) (n k : Nat) (a : Int32) : sp_countEndingBefore_4 τ x (n + 1) k a = sp_countEndingBefore_4 τ x n (k + 1) (a + if (¬ τ 26 (nI k).toNatClampNeg = -1) ∧ (τ 26 (nI k).toNatClampNeg < τ 26 x.toNatClampNeg ∨ (τ 26 (nI k).toNatClampNeg = τ 26 x.toNatClampNeg ∧ ¬ x ≤ nI k)) then 1 else 0) := by
  rw [sp_countEndingBefore_4_s]
  generalize τ 26 (nI k).toNatClampNeg = u
  generalize τ 26 x.toNatClampNeg = v
  by_cases c3 : u = -1
  · simp only [c3, not_true, false_and, if_false, if_true, ad_0]
    repeat' split
    all_goals rfl
  · simp only [c3, not_false_eq_true, true_and, if_false]
    by_cases c1 : v ≤ u
    · have c1' : ¬ u < v := by grind
      by_cases c2 : u = v
      · by_cases c4 : x ≤ nI k
        · simp only [c1, c1', c2, c4, if_true, if_false, not_true, and_false, or_false, Int32.le_refl, ad_0]
          simp
        · simp [c1, c1', c2, c4]
      · simp [c1, c1', c2]
    · have c1' : u < v := by grind
      simp only [c1, c1', if_false, true_or, if_true]
      repeat' split
      all_goals rfl
theorem rW_k {σ ρ : St} (h : Rel σ ρ) {p x2 : Int32} (h2 : 0 ≤ x2 ∧ x2 ≤ 30000) (j : Nat) : (σ 11 j = p ∧ ¬ x2 < rf_endOf ρ (nI j) - σ 0 5 ∧ roW σ p (σ 0 5 + x2) j = rf_endOf ρ (nI j) ∧ 0 ≤ rf_endOf ρ (nI j) ∧ rf_endOf ρ (nI j) ≤ σ 0 5 + x2) ∨ (roW σ p (σ 0 5 + x2) j = -1 ∧ (σ 11 j = p → x2 < rf_endOf ρ (nI j) - σ 0 5 ∧ σ 0 5 + x2 < rf_endOf ρ (nI j))) := by
  have a0 := h.2.2.2.1
  unfold roW
  have b1 : 0 ≤ σ 0 5 + x2 := by grind
  have b2 : σ 0 5 + x2 ≤ 129999 := by grind
  by_cases c : σ 11 j = p
  · simp only [c, if_true, true_and, forall_const]
    rcases en_rel h (nI j) with ⟨e1, e2⟩ | ⟨e1, e2, e3⟩
    · rw [e1, e2]
      right
      refine ⟨by grind, by grind, by grind⟩
    · rw [e1]
      have b3 : x2 < sp_endOf σ (nI j) - σ 0 5 ↔ σ 0 5 + x2 < sp_endOf σ (nI j) := by
        generalize sp_endOf σ (nI j) = e at *
        generalize σ 0 5 = d at *
        clear e1 h
        grind
      rw [b3]
      by_cases d : σ 0 5 + x2 < sp_endOf σ (nI j)
      · right
        rw [if_pos d]
        exact ⟨rfl, d, d⟩
      · left
        rw [if_neg d]
        exact ⟨d, rfl, by grind, by grind⟩
  · right
    simp only [c, if_false, false_implies, and_true]
theorem ah_ind {σ ρ τ : St} (h : Rel σ ρ) {p x2 : Int32} (h2 : 0 ≤ x2 ∧ x2 ≤ 30000) {N x : Nat} (hN : N ≤ 40) (hx : x < N) (ht : ∀ j, j < N → τ 26 j = roW σ p (σ 0 5 + x2) j) (hp : ¬ roW σ p (σ 0 5 + x2) x = -1) : ∀ (n k : Nat) (a : Int32), k + n ≤ N → rf_soon_64 ρ p x n k a = sp_countEndingBefore_4 τ (nI x) n k a := by
  have e11 : ρ 11 = σ 11 := eq_q h.1 (by decide)
  intro n
  induction n with
  | zero => intro k a _; rfl
  | succ n ih =>
    intro k a hk
    rw [rf_soon_64_s, cb_s, ih _ _ (by omega), nI_clamp (show k < 2 ^ 31 by omega), nI_clamp (show x < 2 ^ 31 by omega), ht k (by omega), ht x (by omega), e11]
    refine congrArg (fun z => sp_countEndingBefore_4 τ (nI x) n (k + 1) (a + z)) ?_
    rcases rW_k h h2 (p := p) x with ⟨b1, b2, b3, b4, b5⟩ | ⟨b1, b2⟩
    · rcases rW_k h h2 (p := p) k with ⟨d1, d2, d3, d4, d5⟩ | ⟨d1, d2⟩
      · rw [b3, d3]
        clear ih ht hp e11
        generalize rf_endOf ρ (nI k) = ek at *
        generalize rf_endOf ρ (nI x) = ex at *
        generalize nI k = nk at *
        generalize nI x = nx at *
        rw [if_pos d1]
        have : ¬ ek = -1 := by grind
        grind
      · rw [d1, b3]
        by_cases c : σ 11 k = p
        · have d3 := (d2 c).2
          clear ih ht hp e11 d2
          generalize rf_endOf ρ (nI k) = ek at *
          generalize rf_endOf ρ (nI x) = ex at *
          generalize σ 0 5 + x2 = L at *
          have c1 : ¬ ek < ex := by grind
          have c2 : ¬ ek = ex := by grind
          simp [c, c1, c2]
        · simp [c]
    · exact absurd b1 hp
theorem so_ind {σ ρ τ : St} (h : Rel σ ρ) {p x2 x3 : Int32} (h2 : 0 ≤ x2 ∧ x2 ≤ 30000) {N : Nat} (hN : N ≤ 40) (ht : ∀ j, j < N → τ 26 j = roW σ p (σ 0 5 + x2) j) (r s : St) (hr : cntR r = N) (htc : cntN τ = N) : ∀ (n k : Nat), k + n = N → ∃ v, sp_soon_35 s p x2 x3 τ n k = .ok (v, τ) ∧ rf_soon_49 r p x2 x3 ρ n k = (v, ρ) := by
  have e11 : ρ 11 = σ 11 := eq_q h.1 (by decide)
  have e0 : ρ 0 1 = σ 0 5 := h.1.2.2.2.1.symm
  intro n
  induction n with
  | zero => intro k _; exact ⟨-1, rfl, rfl⟩
  | succ n ih =>
    intro k hk
    rw [sp_soon_35_s, rf_soon_49_s, nI_clamp (show k < 2 ^ 31 by omega), ht k (by omega), e11, e0]
    dsimp only
    rcases rW_k h h2 (p := p) k with ⟨d1, d2, d3, d4, d5⟩ | ⟨d1, d2⟩
    · have hp : ¬ roW σ p (σ 0 5 + x2) k = -1 := by rw [d3]; grind
      rw [if_neg hp, if_pos d1, if_neg d2, hr, ah_ind h h2 hN (by omega) ht hp N 0 0 (by omega)]
      unfold sp_countEndingBefore
      rw [htc]
      by_cases c : sp_countEndingBefore_4 τ (nI k) N 0 0 = x3
      · rw [if_pos c, if_pos c]
        exact ⟨_, rfl, rfl⟩
      · rw [if_neg c, if_neg c]
        exact ih (k + 1) (by omega)
    · rw [if_pos d1]
      by_cases c : σ 11 k = p
      · rw [if_pos c, if_pos (d2 c).1]
        exact ih (k + 1) (by omega)
      · rw [if_neg c]
        exact ih (k + 1) (by omega)
theorem st_soon {σ ρ : St} (h : Rel σ ρ) (x1 x2 x3 : Int32) : stO ["java/lang/IllegalArgumentException", "java/lang/IndexOutOfBoundsException"] σ (sp_soon σ x1 x2 x3) (rf_soon ρ x1 x2 x3) := by
  unfold sp_soon rf_soon
  simp only [rf_thr, ri_R, rk_20, gt_p, rn_0]
  by_cases c1 : okKnown x1 20 = true
  · by_cases c2 : okRange x2 0 30000 = true
    · by_cases c3 : 0 ≤ x3
      · simp only [c1, c2, c3, if_true, if_false, thrv, not_true, not_false_eq_true, ite_self]
        rw [if_pos (show (if (0 : Int32) ≤ 0 then (0 : Int32) else 1) = 0 from by decide)]
        have hr := rel_thr h 0
        have hle := iv_le h.2.1
        obtain ⟨f1, f2, f3⟩ := fr_ind (σ := σ) σ x1 (σ 0 5 + x2) (cntN σ) 0 σ (by omega) (fun _ _ => rfl)
        have f1 : ∀ q, q ≠ 26 → sp_fillEndRow σ x1 (σ 0 5 + x2) q = σ q := f1
        have f3 : ∀ j, 0 ≤ j → j < 0 + cntN σ → sp_fillEndRow σ x1 (σ 0 5 + x2) 26 j = roW σ x1 (σ 0 5 + x2) j := f3
        have hc : cntN (sp_fillEndRow σ x1 (σ 0 5 + x2)) = cntN σ := cnt_fill h.2.1 _ _
        have hi := iv_fill h.2.1 x1 (σ 0 5 + x2)
        generalize sp_fillEndRow σ x1 (σ 0 5 + x2) = τ at f1 f3 hc hi ⊢
        obtain ⟨v, v1, v2⟩ := so_ind (τ := τ) (x3 := x3) hr (okR_in c2) hle (fun j hj => f3 j (by omega) (by omega)) ρ σ (cnt_eq h.1) hc (cntN σ) 0 (by omega)
        rw [v1, cnt_eq h.1, v2]
        refine so_ok ⟨?_, hi, hr.2.2.1, gi_q h.2.2.2 (fun q hq => f1 q (by rintro rfl; exact absurd hq (by decide)))⟩ (su_same _ _ _ _) rfl
        obtain ⟨g1, g2, g3, g4, g5, g6⟩ := hr.1
        unfold EQ
        rw [f1 25 (by decide), f1 23 (by decide), f1 0 (by decide), f1 7 (by decide), f1 19 (by decide)]
        exact ⟨fun q hq => by rw [f1 q (by rintro rfl; exact absurd hq (by decide))]; exact g1 q hq, g2, g3, g4, g5, g6⟩
      · simp only [c1, c2, c3]
        exact so_err h (by first | decide | (simp [thrv]; decide)) (by decide)
    · simp only [c1, c2]
      exact so_err h (by first | decide | (simp [thrv]; decide)) (by decide)
  · simp only [c1]
    exact so_err h (by first | decide | (simp [thrv]; decide)) (by decide)
