/-! the pure part: related states answer alike -/
def shL : List Nat := [2, 3, 4, 5, 6, 8, 9, 10, 11, 12, 13, 14, 15, 16, 17, 18]
def EQ (σ ρ : St) : Prop := (∀ q, q ∈ shL → σ q = ρ q) ∧ σ 25 = ρ 19 ∧ σ 23 = ρ 21 ∧ σ 0 5 = ρ 0 1 ∧ σ 7 11 = ρ 0 7 ∧ σ 19 5 = ρ 0 20
def GI (σ : St) : Prop :=
  (0 ≤ σ 0 5 ∧ σ 0 5 ≤ 99999) ∧
  (∀ j, 0 ≤ σ 2 j ∧ σ 2 j ≤ 20000) ∧
  (∀ j, 0 ≤ σ 3 j ∧ σ 3 j ≤ 5000) ∧
  (∀ j, 0 ≤ σ 12 j ∧ σ 12 j ≤ σ 0 5) ∧
  (∀ j, σ 13 j = -1 ∨ (σ 12 j ≤ σ 13 j ∧ σ 13 j ≤ σ 0 5)) ∧
  (∀ j, 0 ≤ σ 16 j ∧ σ 16 j ≤ σ 0 5) ∧
  (∀ j, 0 ≤ σ 18 j ∧ σ 18 j ≤ 2) ∧
  (∀ x, σ 13 x = -1 → ∀ t, t < 3 → σ 18 (3 * x + t) ≤ 1) ∧
  (∀ x, x < cntN σ → σ 13 x ≠ -1 → ∃ t, t < 3 ∧ σ 18 (3 * x + t) = 2) ∧
  (∀ x, cntN σ ≤ x → ∀ t, t < 3 → σ 18 (3 * x + t) = 0) ∧
  (∀ v, v < 4 → σ 24 v = 0)
def Rel (σ ρ : St) : Prop := EQ σ ρ ∧ IV σ ∧ IVr ρ ∧ GI σ
def stV (L : List String) (σ : St) (X : Except String (Int32 × St)) (ρ' : St) : Prop := Rel (wv L σ X).2 ρ' ∧ ρ' 0 0 = (wv L σ X).1
def stO (L : List String) (σ : St) (X : Except String (Int32 × St)) (Y : Int32 × St) : Prop := ∀ g, Rel (wo L σ g X).2.1 Y.2 ∧ Y.2 0 0 = (wo L σ g X).1 ∧ ((wo L σ g X).1 = 0 → (wo L σ g X).2.2 0 = Y.1.toInt64)
theorem eq_q {σ ρ : St} (h : EQ σ ρ) {q : Nat} (hq : q ∈ shL) : ρ q = σ q := (h.1 q hq).symm
theorem eq_thr {σ ρ : St} (h : EQ σ ρ) (v : Int32) : EQ σ (su ρ 0 0 v) := by
  obtain ⟨h1, h2, h3, h4, h5, h6⟩ := h
  refine ⟨fun q hq => ?_, h2, h3, h4, h5, h6⟩
  rw [su_nq _ _ (by rintro rfl; exact absurd hq (by decide))]
  exact h1 q hq
theorem rel_thr {σ ρ : St} (h : Rel σ ρ) (v : Int32) : Rel σ (su ρ 0 0 v) := ⟨eq_thr h.1 v, h.2.1, ir_su0 h.2.2.1 (by decide), h.2.2.2⟩
theorem eq_su {σ ρ : St} (h : EQ σ ρ) {q : Nat} (hq : q ∈ shL) (k : Nat) (v : Int32) : EQ (su σ q k v) (su ρ q k v) := by
  obtain ⟨h1, h2, h3, h4, h5, h6⟩ := h
  have n : ∀ z, z ∈ [0, 7, 19, 20, 21, 22, 23, 24, 25] → z ≠ q := by
    intro z hz e
    subst e
    revert z
    decide
  refine ⟨fun z hz => ?_, ?_, ?_, ?_, ?_, ?_⟩
  · by_cases e : z = q
    · subst e
      unfold su va_up
      rw [if_pos rfl, if_pos rfl, h1 z hz]
    · rw [su_nq _ _ e, su_nq _ _ e]
      exact h1 z hz
  · rw [su_nq _ _ (n 25 (by decide)), su_nq _ _ (n 19 (by decide))]; exact h2
  · rw [su_nq _ _ (n 23 (by decide)), su_nq _ _ (n 21 (by decide))]; exact h3
  · rw [su_nq _ _ (n 0 (by decide)), su_nq _ _ (n 0 (by decide))]; exact h4
  · rw [su_nq _ _ (n 7 (by decide)), su_nq _ _ (n 0 (by decide))]; exact h5
  · rw [su_nq _ _ (n 19 (by decide)), su_nq _ _ (n 0 (by decide))]; exact h6
theorem eq_suL {σ ρ : St} (h : EQ σ ρ) {q : Nat} (hq : q ∈ [20, 21, 22, 24, 26]) (k : Nat) (v : Int32) : EQ (su σ q k v) ρ := by
  obtain ⟨h1, h2, h3, h4, h5, h6⟩ := h
  have n : ∀ z, z ∈ [0, 7, 19, 23, 25] ++ shL → z ≠ q := by
    intro z hz e
    subst e
    revert z
    decide
  refine ⟨fun z hz => ?_, ?_, ?_, ?_, ?_, ?_⟩
  · rw [su_nq _ _ (n z (List.mem_append_right _ hz))]; exact h1 z hz
  · rw [su_nq _ _ (n 25 (by decide))]; exact h2
  · rw [su_nq _ _ (n 23 (by decide))]; exact h3
  · rw [su_nq _ _ (n 0 (by decide))]; exact h4
  · rw [su_nq _ _ (n 7 (by decide))]; exact h5
  · rw [su_nq _ _ (n 19 (by decide))]; exact h6
theorem eq_suR {σ ρ : St} (h : EQ σ ρ) (k : Nat) (v : Int32) : EQ σ (su ρ 22 k v) := by
  obtain ⟨h1, h2, h3, h4, h5, h6⟩ := h
  refine ⟨fun z hz => ?_, h2, h3, h4, h5, h6⟩
  rw [su_nq _ _ (by rintro rfl; exact absurd hz (by decide))]
  exact h1 z hz
theorem gi_suq {σ : St} (h : GI σ) {q k : Nat} {v : Int32} (hq : q ∉ [0, 2, 3, 7, 12, 13, 16, 18, 24]) : GI (su σ q k v) := by
  have n : ∀ z, z ∈ [0, 2, 3, 7, 12, 13, 16, 18, 24] → z ≠ q := fun z hz e => hq (e ▸ hz)
  have e0 := su_nq σ (k := k) v (n 0 (by decide))
  have e2 := su_nq σ (k := k) v (n 2 (by decide))
  have e3 := su_nq σ (k := k) v (n 3 (by decide))
  have e7 := su_nq σ (k := k) v (n 7 (by decide))
  have e12 := su_nq σ (k := k) v (n 12 (by decide))
  have e13 := su_nq σ (k := k) v (n 13 (by decide))
  have e16 := su_nq σ (k := k) v (n 16 (by decide))
  have e18 := su_nq σ (k := k) v (n 18 (by decide))
  have e24 := su_nq σ (k := k) v (n 24 (by decide))
  unfold GI cntN at h ⊢
  rw [e0, e2, e3, e7, e12, e13, e16, e18, e24]
  exact h
theorem rel_su {σ ρ : St} (h : Rel σ ρ) {q : Nat} (hq : q ∈ [4, 5, 6, 9, 11, 14, 15, 17]) (k : Nat) (v : Int32) : Rel (su σ q k v) (su ρ q k v) := by
  have h1 : q ∈ shL := by revert q; decide
  have h2 : q ≠ 7 ∧ q ≠ 8 ∧ q ≠ 10 ∧ q ≠ 19 ∧ q ≠ 21 := by revert q; decide
  have h3 : q ≠ 0 ∧ q ≠ 8 ∧ q ≠ 10 := by revert q; decide
  have h4 : q ∉ [0, 2, 3, 7, 12, 13, 16, 18, 24] := by revert q; decide
  exact ⟨eq_su h.1 h1 k v, iv_suq h.2.1 h2, ir_suq h.2.2.1 h3, gi_suq h.2.2.2 h4⟩
theorem st_err {L : List String} {σ ρ : St} {E : String} {v : Int32} (h : Rel σ ρ) (hv : v = ec L E) : stV L σ (.error E) (su ρ 0 0 v) := ⟨rel_thr h v, by rw [su_same]; exact hv⟩
theorem st_ok {L : List String} {σ σ' ρ' : St} {r : Int32} (h : Rel σ' ρ') (h0 : ρ' 0 0 = 0) : stV L σ (.ok (r, σ')) ρ' := ⟨h, h0⟩
theorem so_err {L : List String} {σ ρ : St} {E : String} {v r : Int32} (h : Rel σ ρ) (hv : v = ec L E) (h0 : ¬ ec L E = 0) : stO L σ (.error E) (r, su ρ 0 0 v) := fun _ => ⟨rel_thr h v, by show su ρ 0 0 v 0 0 = _; rw [su_same]; exact hv, fun h => absurd h h0⟩
theorem so_ok {L : List String} {σ σ' ρ' : St} {r r' : Int32} (h : Rel σ' ρ') (h0 : ρ' 0 0 = 0) (hr : r = r') : stO L σ (.ok (r, σ')) (r', ρ') := fun g => ⟨h, h0, fun _ => by subst hr; show vp_updL g 0 r.toInt64 0 = _; simp [vp_updL]⟩
theorem ri_R (x lo hi : Int32) : rf_in x lo hi = if okRange x lo hi = true then 1 else 0 := by
  unfold rf_in okRange
  by_cases c1 : x < lo
  · simp [c1]
  · by_cases c2 : hi < x
    · have c3 : ¬ x ≤ hi := by grind
      simp [c1, c2, c3]
    · have c3 : x ≤ hi := by grind
      simp [c1, c2, c3]
theorem ri_K {B M : Int32} (h : M = B - 1) (h0 : 0 ≤ B) (x : Int32) : okRange x 0 M = okKnown x B := by
  unfold okRange okKnown
  by_cases c1 : x < 0
  · simp [c1]
  · have : x ≤ M ↔ x < B := by grind
    simp [c1, this]
theorem rk_2 (x : Int32) : okRange x 0 1 = okKnown x 2 := ri_K (by decide) (by decide) x
theorem rk_3 (x : Int32) : okRange x 0 2 = okKnown x 3 := ri_K (by decide) (by decide) x
theorem rk_5 (x : Int32) : okRange x 0 4 = okKnown x 5 := ri_K (by decide) (by decide) x
theorem rk_10 (x : Int32) : okRange x 0 9 = okKnown x 10 := ri_K (by decide) (by decide) x
theorem rk_20 (x : Int32) : okRange x 0 19 = okKnown x 20 := ri_K (by decide) (by decide) x
theorem cnt_0 {σ : St} (h : IV σ) : 0 ≤ σ 7 11 ∧ σ 7 11 ≤ 40 := by
  have h1 := iv_le h
  rw [iv_cnt h]
  exact ⟨nI_le (a := 0) (by omega) (by omega), nI_le (b := 40) (by omega) (by omega)⟩
theorem pln_0 {σ : St} (h : IV σ) : 0 ≤ σ 19 5 := by
  have h1 := iv_pl6 h
  rw [iv_pln h]
  exact nI_le (a := 0) (by omega) (by omega)
theorem ri_T {σ ρ : St} (h : Rel σ ρ) (x : Int32) : rf_isThing ρ x = if okKnown x (σ 7 11) = true then 1 else 0 := by
  unfold rf_isThing
  rw [ri_R, ri_K (B := σ 7 11) (by rw [h.1.2.2.2.2.1]) (cnt_0 h.2.1).1]
theorem ri_W {σ ρ : St} (h : Rel σ ρ) (x : Int32) : okRange x 0 (ρ 0 20 - 1) = okKnown x (σ 19 5) := ri_K (B := σ 19 5) (by rw [h.1.2.2.2.2.2]) (pln_0 h.2.1) x
theorem i3_a {i t : Nat} (hi : i < 1000) (ht : t < 1000) : (nI i * (3 : Int32) + nI t).toNatClampNeg = 3 * i + t := by
  rw [ht_3, pk_mul, nI_add, nI_clamp (by omega)]
  omega
theorem i3_c (x y : Int32) : (3 : Int32) * x + y = x * 3 + y := by rw [Int32.mul_comm]
theorem cnt_eq {σ ρ : St} (h : EQ σ ρ) : cntR ρ = cntN σ := by unfold cntR cntN; rw [h.2.2.2.2.1]
theorem gt_1 {b : Bool} : ((if b = true then (1 : Int32) else 0) = 0) ↔ ¬ b = true := by cases b <;> decide
