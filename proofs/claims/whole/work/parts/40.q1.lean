theorem hs_ind {σ ρ : St} (e9 : ρ 9 = σ 9) (x1 x2 x3 x4 x5 x6 x7 x8 : Int32) : ∀ (n k : Nat) (a : Int32), (a = 0 ∨ a = 1) → rf_thing_88 ρ x1 x2 x3 x4 x5 x6 n k x7 x8 a = rf_thing_88 ρ x1 x2 x3 x4 x5 x6 0 0 x7 x8 (if a = 0 then sp_hasSerial_2 σ x2 n k else 1) := by
  intro n
  induction n with
  | zero =>
    intro k a ha
    rw [sp_hasSerial_2_0, rf_thing_88_0, rf_thing_88_0]
    rcases ha with rfl | rfl
    · rfl
    · rfl
  | succ n ih =>
    intro k a ha
    rw [rf_thing_88_s, sp_hasSerial_2_s, e9]
    dsimp only
    rcases ha with rfl | rfl
    · rw [if_pos rfl, if_pos rfl]
      by_cases c : σ 9 (nI k).toNatClampNeg = x2
      · rw [if_pos c, if_pos c, ih _ _ (Or.inr rfl), if_neg (by decide)]
      · rw [if_neg c, if_neg c, ih _ _ (Or.inl rfl), if_pos rfl]
    · rw [if_neg (show ¬ (1 : Int32) = 0 from by decide), if_neg (show ¬ (1 : Int32) = 0 from by decide), ih _ _ (Or.inr rfl), if_neg (by decide)]
theorem hs_01 (σ : St) (x : Int32) : ∀ (n k : Nat), sp_hasSerial_2 σ x n k = 0 ∨ sp_hasSerial_2 σ x n k = 1 := by
  intro n
  induction n with
  | zero => intro k; exact Or.inl rfl
  | succ n ih =>
    intro k
    rw [sp_hasSerial_2_s]
    split
    · exact Or.inr rfl
    · exact ih _
theorem iv_su8 {σ : St} {k : Nat} {v : Int32} (h : IV σ) (hv : vp_in v 5) : IV (su σ 8 k v) := by
  refine ⟨h.1, h.2.1, fun j hj => ?_, h.2.2.2.1, h.2.2.2.2.1, h.2.2.2.2.2.1, h.2.2.2.2.2.2⟩
  exact su_ge (P := fun z => vp_in z 5) (h.2.2.1 j hj) hv
theorem iv_su10 {σ : St} {k : Nat} {v : Int32} (h : IV σ) (hv : vp_in v 10) : IV (su σ 10 k v) := by
  refine ⟨h.1, h.2.1, h.2.2.1, fun j hj => ?_, h.2.2.2.2.1, h.2.2.2.2.2.1, h.2.2.2.2.2.2⟩
  exact su_ge (P := fun z => vp_in z 10) (h.2.2.2.1 j hj) hv
theorem ir_su8 {σ : St} {k : Nat} {v : Int32} (h : IVr σ) (hv : vp_in v 5) : IVr (su σ 8 k v) := by
  refine ⟨h.1, h.2.1, fun j hj => ?_, h.2.2.2.1, h.2.2.2.2.1, h.2.2.2.2.2⟩
  exact su_ge (P := fun z => vp_in z 5) (h.2.2.1 j hj) hv
theorem ir_su10 {σ : St} {k : Nat} {v : Int32} (h : IVr σ) (hv : vp_in v 10) : IVr (su σ 10 k v) := by
  refine ⟨h.1, h.2.1, h.2.2.1, fun j hj => ?_, h.2.2.2.2.1, h.2.2.2.2.2⟩
  exact su_ge (P := fun z => vp_in z 10) (h.2.2.2.1 j hj) hv
theorem iv_su7 {σ : St} {v : Int32} (h : IV σ) (hv : vp_in v 41) : IV (su σ 7 11 v) := by
  obtain ⟨j, hj, rfl⟩ := vp_in_of hv (by omega)
  have e : cntN (su σ 7 11 (nI j)) = j := by
    unfold cntN
    rw [su_same, nI_clamp (by omega)]
  refine ⟨?_, ?_, h.2.2.1, h.2.2.2.1, h.2.2.2.2.1, h.2.2.2.2.2.1, h.2.2.2.2.2.2⟩
  · rw [e, su_same]
  · rw [e]
    omega
theorem ir_su7 {σ : St} {v : Int32} (h : IVr σ) (hv : vp_in v 41) : IVr (su σ 0 7 v) := by
  obtain ⟨j, hj, rfl⟩ := vp_in_of hv (by omega)
  have e : cntR (su σ 0 7 (nI j)) = j := by
    unfold cntR
    rw [su_same, nI_clamp (by omega)]
  refine ⟨?_, ?_, h.2.2.1, h.2.2.2.1, h.2.2.2.2.1, h.2.2.2.2.2⟩
  · rw [e, su_same]
  · rw [e]
    omega
theorem eq_7 {σ ρ : St} (h : EQ σ ρ) (v : Int32) : EQ (su σ 7 11 v) (su ρ 0 7 v) := by
  obtain ⟨h1, h2, h3, h4, h5, h6⟩ := h
  refine ⟨fun z hz => ?_, h2, h3, h4, ?_, h6⟩
  · rw [su_nq _ _ (by rintro rfl; exact absurd hz (by decide)), su_nq _ _ (by rintro rfl; exact absurd hz (by decide))]
    exact h1 z hz
  · rw [su_same, su_same]
/-- the state with thing number c added -/
def adS (σ : St) (c : Nat) (x1 x2 x4 x5 x6 : Int32) : St := su (su (su (su (su (su (su (su (su σ 8 c x1) 9 c x2) 10 c x4) 11 c x5) 12 c x6) 13 c (-1)) 16 (3 * c + 0) x6) 16 (3 * c + 1) x6) 16 (3 * c + 2) x6
theorem gi_add {σ : St} (h : GI σ) {c : Nat} (hc : cntN σ = c) (hc4 : c < 40) {x1 x2 x4 x5 x6 v : Int32} (h6 : 0 ≤ x6 ∧ x6 ≤ σ 0 5) (hv : v = nI (c + 1)) : GI (su (adS σ c x1 x2 x4 x5 x6) 7 11 v) := by
  have h' := h
  obtain ⟨a0, a1, a2, a3, a4, a5, a6, a7, a8, a9, a10⟩ := h'
  generalize hτ : su (adS σ c x1 x2 x4 x5 x6) 7 11 v = τ
  have t0 : τ 0 = σ 0 := by rw [← hτ]; rfl
  have t2 : τ 2 = σ 2 := by rw [← hτ]; rfl
  have t3 : τ 3 = σ 3 := by rw [← hτ]; rfl
  have t7 : cntN τ = c + 1 := by
    unfold cntN
    rw [← hτ, su_same, hv, nI_clamp (by omega)]
  have t18 : τ 18 = σ 18 := by rw [← hτ]; rfl
  have t24 : τ 24 = σ 24 := by rw [← hτ]; rfl
  have t12 : ∀ j, τ 12 j = if j = c then x6 else σ 12 j := by intro j; rw [← hτ]; unfold adS; simp [su_r]
  have t13 : ∀ j, τ 13 j = if j = c then -1 else σ 13 j := by intro j; rw [← hτ]; unfold adS; simp [su_r]
  have t16 : ∀ j, τ 16 j = x6 ∨ τ 16 j = σ 16 j := by
    intro j
    rw [← hτ]
    unfold adS
    simp only [su_r]
    repeat' split
    all_goals first | exact Or.inl rfl | exact Or.inr rfl | omega | skip
  clear hτ
  unfold GI
  rw [t0, t2, t3, t7, t18, t24]
  refine ⟨a0, a1, a2, fun j => ?_, fun j => ?_, fun j => ?_, a6, fun x hx u hu => ?_, fun x hx hy => ?_, fun x hx u hu => ?_, a10⟩
  · rw [t12]
    split
    · exact h6
    · exact a3 j
  · rw [t12, t13]
    by_cases e : j = c
    · rw [if_pos e]
      exact Or.inl rfl
    · rw [if_neg e, if_neg e]
      exact a4 j
  · rcases t16 j with e | e
    · rw [e]; exact h6
    · rw [e]; exact a5 j
  · by_cases e : x = c
    · rw [a9 x (by omega) u hu]
      decide
    · rw [t13, if_neg e] at hx
      exact a7 x hx u hu
  · by_cases e : x = c
    · rw [t13, if_pos e] at hy
      exact absurd rfl hy
    · rw [t13, if_neg e] at hy
      exact a8 x (by omega) hy
  · exact a9 x (by omega) u hu
theorem rl_add {σ ρ : St} (h : Rel σ ρ) {c : Nat} (hc : cntN σ = c) (hc4 : c < 40) {x1 x2 x4 x5 x6 v : Int32} (h1 : vp_in x1 5) (h4 : vp_in x4 10) (h6 : 0 ≤ x6 ∧ x6 ≤ σ 0 5) (hv : v = nI (c + 1)) : Rel (su (adS σ c x1 x2 x4 x5 x6) 7 11 v) (su (adS ρ c x1 x2 x4 x5 x6) 0 7 v) := by
  have hv' : vp_in v 41 := by rw [hv]; exact vp_in_nI (by omega) (by omega)
  refine ⟨eq_7 ?_ _, iv_su7 ?_ hv', ir_su7 ?_ hv', gi_add h.2.2.2 hc hc4 h6 hv⟩
  · unfold adS
    exact eq_su (eq_su (eq_su (eq_su (eq_su (eq_su (eq_su (eq_su (eq_su h.1 (by decide) _ _) (by decide) _ _) (by decide) _ _) (by decide) _ _) (by decide) _ _) (by decide) _ _) (by decide) _ _) (by decide) _ _) (by decide) _ _
  · unfold adS
    exact iv_suq (iv_suq (iv_suq (iv_suq (iv_suq (iv_suq (iv_su10 (iv_suq (iv_su8 h.2.1 h1) (by decide)) h4) (by decide)) (by decide)) (by decide)) (by decide)) (by decide)) (by decide)
  · unfold adS
    exact ir_suq (ir_suq (ir_suq (ir_suq (ir_suq (ir_suq (ir_su10 (ir_suq (ir_su8 h.2.2.1 h1) (by decide)) h4) (by decide)) (by decide)) (by decide)) (by decide)) (by decide)) (by decide)
