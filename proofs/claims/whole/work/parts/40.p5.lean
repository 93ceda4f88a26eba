/-! ends and reasons -/
theorem th_n {σ : St} (h : IV σ) {x : Int32} (c : okKnown x (σ 7 11) = true) : ∃ i, i < cntN σ ∧ i < 40 ∧ x = nI i := by
  have h1 := iv_le h
  obtain ⟨i, hi, rfl⟩ := vp_in_of (okK_in c (iv_cnt h) (by omega)) (by omega)
  exact ⟨i, hi, by omega, rfl⟩
theorem sb_iff {t la d : Int32} (a0 : 0 ≤ t ∧ t ≤ 99999) (a1 : 0 ≤ la ∧ la ≤ t) (a2 : 0 ≤ d ∧ d ≤ 20000) : (t - la < d ↔ t < la + d) ∧ 0 ≤ la + d ∧ la + d ≤ t + d ∧ t + d ≤ 119999 := by
  refine ⟨by grind, by grind, by grind, by grind⟩
/-- the day from which test t of thing x is due: the class's number, the reference's number -/
theorem du_rel {σ ρ : St} (h : Rel σ ρ) (x y : Int32) : (sp_dueFrom σ x y = 2147483647 ∨ (0 ≤ sp_dueFrom σ x y ∧ sp_dueFrom σ x y ≤ 104999)) ∧ (rf_isDue ρ x y = 0 ↔ σ 0 5 < sp_dueFrom σ x y) := by
  have e0 : ρ 0 1 = σ 0 5 := h.1.2.2.2.1.symm
  have e3 : ρ 3 = σ 3 := eq_q h.1 (by decide)
  have e4 : ρ 4 = σ 4 := eq_q h.1 (by decide)
  have e8 : ρ 8 = σ 8 := eq_q h.1 (by decide)
  have e16 : ρ 16 = σ 16 := eq_q h.1 (by decide)
  have e17 : ρ 17 = σ 17 := eq_q h.1 (by decide)
  have a0 := h.2.2.2.1
  have a1 := h.2.2.2.2.2.1 ((σ 8 x.toNatClampNeg * 3 + y).toNatClampNeg)
  have a2 := h.2.2.2.2.2.2.2.2.1 ((x * 3 + y).toNatClampNeg)
  unfold rf_isDue sp_dueFrom
  simp only [i3_c, e0, e3, e4, e8, e16, e17]
  generalize σ 3 ((σ 8 x.toNatClampNeg * 3 + y).toNatClampNeg) = d at *
  generalize σ 16 ((x * 3 + y).toNatClampNeg) = la at *
  generalize σ 4 ((σ 8 x.toNatClampNeg * 3 + y).toNatClampNeg) = u at *
  generalize σ 17 ((x * 3 + y).toNatClampNeg) = n at *
  generalize σ 0 5 = t at *
  clear e0 e3 e4 e8 e16 e17 h
  obtain ⟨b1, b2, b3, b4⟩ := sb_iff a0 a2 (d := d) ⟨a1.1, by grind⟩
  have b5 : la + d ≤ 104999 := by grind
  simp only [b1]
  generalize la + d = m at *
  clear b1
  refine ⟨by grind, ?_⟩
  split <;> split <;> grind
theorem od_rel {σ ρ : St} (h : Rel σ ρ) (x : Int32) : (sp_oldFrom σ x = 2147483647 ∨ (0 ≤ sp_oldFrom σ x ∧ sp_oldFrom σ x ≤ 119999)) ∧ (σ 0 5 < sp_oldFrom σ x ↔ (ρ 2 (ρ 8 x.toNatClampNeg).toNatClampNeg ≤ 0 ∨ ρ 0 1 - ρ 12 x.toNatClampNeg < ρ 2 (ρ 8 x.toNatClampNeg).toNatClampNeg)) ∧ (if ρ 2 (ρ 8 x.toNatClampNeg).toNatClampNeg ≤ 0 then (1000000 : Int32) else ρ 12 x.toNatClampNeg + ρ 2 (ρ 8 x.toNatClampNeg).toNatClampNeg) = (if sp_oldFrom σ x = 2147483647 then 1000000 else sp_oldFrom σ x) := by
  have e0 : ρ 0 1 = σ 0 5 := h.1.2.2.2.1.symm
  have e2 : ρ 2 = σ 2 := eq_q h.1 (by decide)
  have e8 : ρ 8 = σ 8 := eq_q h.1 (by decide)
  have e12 : ρ 12 = σ 12 := eq_q h.1 (by decide)
  have a0 := h.2.2.2.1
  have a1 := h.2.2.2.2.1 ((σ 8 x.toNatClampNeg).toNatClampNeg)
  have a2 := h.2.2.2.2.2.2.1 (x.toNatClampNeg)
  unfold sp_oldFrom
  simp only [e0, e2, e8, e12]
  generalize σ 2 ((σ 8 x.toNatClampNeg).toNatClampNeg) = d at *
  generalize σ 12 (x.toNatClampNeg) = la at *
  generalize σ 0 5 = t at *
  clear e0 e2 e8 e12 h
  obtain ⟨b1, b2, b3, b4⟩ := sb_iff a0 a2 (d := d) ⟨a1.1, by grind⟩
  have b5 : la + d ≤ 119999 := by grind
  simp only [b1]
  generalize la + d = m at *
  clear b1
  refine ⟨by grind, by grind, by grind⟩
theorem sd_eq (σ : St) (x : Int32) : sp_someTestDueFrom σ x = (let a := if sp_dueFrom σ x 0 < 2147483647 then sp_dueFrom σ x 0 else 2147483647; let b := if sp_dueFrom σ x 1 < a then sp_dueFrom σ x 1 else a; if sp_dueFrom σ x 2 < b then sp_dueFrom σ x 2 else b) := rfl
theorem sd_rel {σ ρ : St} (h : Rel σ ρ) (x : Int32) : (σ 0 5 < sp_someTestDueFrom σ x ↔ (rf_isDue ρ x 0 = 0 ∧ rf_isDue ρ x 1 = 0 ∧ rf_isDue ρ x 2 = 0)) := by
  obtain ⟨b0, c0⟩ := du_rel h x 0
  obtain ⟨b1, c1⟩ := du_rel h x 1
  obtain ⟨b2, c2⟩ := du_rel h x 2
  have a0 := h.2.2.2.1
  rw [sd_eq, c0, c1, c2]
  generalize sp_dueFrom σ x 0 = d0 at *
  generalize sp_dueFrom σ x 1 = d1 at *
  generalize sp_dueFrom σ x 2 = d2 at *
  generalize σ 0 5 = t at *
  clear c0 c1 c2 h
  dsimp only
  grind
theorem mx_c (a b : Int32) : (if a ≤ b then b else a) = (if b < a then a else b) := by grind
theorem co_ind {σ ρ : St} (e18 : ρ 18 = σ 18) (x : Int32) : ∀ (n k : Nat) (a : Int32), rf_stateOf_15 ρ x n k a = sp_conditionOf_4 σ x n k a := by
  intro n
  induction n with
  | zero => intro k a; rfl
  | succ n ih =>
    intro k a
    rw [rf_stateOf_15_s, sp_conditionOf_4_s, i3_c, mx_c, e18]
    exact ih _ _
theorem co_rel {σ ρ : St} (h : Rel σ ρ) (x : Int32) : rf_stateOf_15 ρ x 3 0 0 = sp_conditionOf σ x := co_ind (eq_q h.1 (by decide)) x 3 0 0
theorem i3_0 {i : Nat} (hi : i < 1000) : (nI i * (3 : Int32) + nI 0).toNatClampNeg = 3 * i + 0 := i3_a hi (by decide)
theorem co_val {σ : St} (h : GI σ) {i : Nat} (hi : i < 40) : (σ 13 i = -1 → sp_conditionOf σ (nI i) = 0 ∨ sp_conditionOf σ (nI i) = 1) ∧ (i < cntN σ → ¬ σ 13 i = -1 → sp_conditionOf σ (nI i) = 2) := by
  have g0 := h.2.2.2.2.2.2.1 (3 * i + 0)
  have g1 := h.2.2.2.2.2.2.1 (3 * i + 1)
  have g2 := h.2.2.2.2.2.2.1 (3 * i + 2)
  have k1 := h.2.2.2.2.2.2.2.1 i
  have k2 := h.2.2.2.2.2.2.2.2.1 i
  unfold sp_conditionOf
  simp only [sp_conditionOf_4_s, sp_conditionOf_4_0, Nat.zero_add, Nat.reduceAdd]
  rw [i3_a (t := 0) (by omega) (by omega), i3_a (t := 1) (by omega) (by omega), i3_a (t := 2) (by omega) (by omega)]
  refine ⟨fun c => ?_, fun c1 c2 => ?_⟩
  · have l0 := k1 c 0 (by omega)
    have l1 := k1 c 1 (by omega)
    have l2 := k1 c 2 (by omega)
    clear k1 k2
    generalize σ 18 (3 * i + 0) = u0 at *
    generalize σ 18 (3 * i + 1) = u1 at *
    generalize σ 18 (3 * i + 2) = u2 at *
    grind
  · obtain ⟨t, ht, l⟩ := k2 c1 c2
    clear k1 k2
    have l' : σ 18 (3 * i + 0) = 2 ∨ σ 18 (3 * i + 1) = 2 ∨ σ 18 (3 * i + 2) = 2 := by
      rcases (show t = 0 ∨ t = 1 ∨ t = 2 by omega) with rfl | rfl | rfl
      · exact Or.inl l
      · exact Or.inr (Or.inl l)
      · exact Or.inr (Or.inr l)
    clear l
    generalize σ 18 (3 * i + 0) = u0 at *
    generalize σ 18 (3 * i + 1) = u1 at *
    generalize σ 18 (3 * i + 2) = u2 at *
    grind
theorem re_rel {σ ρ : St} (h : Rel σ ρ) {i : Nat} (hi : i < 40) : rf_reason ρ (nI i) = sp_reasonBarred σ (nI i) := by
  have e13 : ρ 13 = σ 13 := eq_q h.1 (by decide)
  have e10 : ρ 10 = σ 10 := eq_q h.1 (by decide)
  have e15 : ρ 15 = σ 15 := eq_q h.1 (by decide)
  have e25 : ρ 19 = σ 25 := h.1.2.1.symm
  have o := (od_rel h (nI i)).2.1
  have s := sd_rel h (nI i)
  have c := (co_val h.2.2.2 hi).1
  unfold rf_reason sp_reasonBarred sp_isScrapped rf_stateOf
  rw [co_rel h, e13, e10, e15, e25]
  rw [nI_clamp (by omega)] at o ⊢
  rcases sc_lt h.2.2.2 i with ⟨c2, c3, c4⟩ | ⟨c2, c3, c4⟩
  · have c := c c2
    simp only [c2, c3, if_true]
    rw [if_pos (by decide)]
    simp only [o, s, if_true]
    split
    · by_cases b0 : rf_isDue ρ (nI i) 0 = 0 <;> by_cases b1 : rf_isDue ρ (nI i) 1 = 0 <;> by_cases b2 : rf_isDue ρ (nI i) 2 = 0 <;> grind
    · rfl
  · simp only [c2, c3, if_false]
    rfl
