theorem rf_in_b (a b c : Int32) : narrow .boolean (.int (rf_in a b c)) = .int (rf_in a b c) := by
  unfold rf_in
  split
  · decide
  · split <;> decide
theorem rf_in_ne {x lo hi : Int32} (h : ¬ rf_in x lo hi = 0) : ¬ x < lo ∧ ¬ hi < x := by
  unfold rf_in at h
  by_cases h1 : x < lo
  · rw [if_pos h1] at h; exact absurd rfl h
  · rw [if_neg h1] at h
    by_cases h2 : hi < x
    · rw [if_pos h2] at h; exact absurd rfl h
    · exact ⟨h1, h2⟩
def thrv (a b c d : Int32) : Int32 := if a = 0 then (if b = 0 then (if c = 0 then (if d = 0 then 0 else 4) else 3) else 2) else 1
theorem rf_thr (σ : St) (a b c d : Int32) : rf_throwing σ a b c d = (if thrv a b c d ≤ 0 then 0 else 1, su σ 0 0 (thrv a b c d)) := by
  have key : ∀ v : Int32, (if su σ 0 0 v 0 0 ≤ 0 then ((0 : Int32), su σ 0 0 v) else ((1 : Int32), su σ 0 0 v)) = (if v ≤ 0 then 0 else 1, su σ 0 0 v) := by
    intro v
    rw [su_same]
    split <;> rfl
  exact key (thrv a b c d)
theorem thr0 {σ : St} {a b c d : Int32} (h : (rf_throwing σ a b c d).1 = 0) : a = 0 ∧ b = 0 ∧ c = 0 ∧ d = 0 := by
  rw [rf_thr] at h
  dsimp only at h
  unfold thrv at h
  by_cases h1 : a = 0
  · by_cases h2 : b = 0
    · by_cases h3 : c = 0
      · by_cases h4 : d = 0
        · exact ⟨h1, h2, h3, h4⟩
        · rw [if_pos h1, if_pos h2, if_pos h3, if_neg h4] at h; exact absurd h (by decide)
      · rw [if_pos h1, if_pos h2, if_neg h3] at h; exact absurd h (by decide)
    · rw [if_pos h1, if_neg h2] at h; exact absurd h (by decide)
  · rw [if_neg h1] at h; exact absurd h (by decide)
theorem ir_thr {σ : St} (h : IVr σ) (a b c d : Int32) : IVr (rf_throwing σ a b c d).2 := by
  rw [rf_thr]
  exact ir_su0 h (by decide)
theorem cnt_thr (σ : St) (a b c d : Int32) : cntR (rf_throwing σ a b c d).2 = cntR σ := by
  rw [rf_thr]
  rfl
theorem bd_0 {b Q : Int32} {P : Prop} [Decidable P] (hb : b = if P then (1 : Int32) else Q) (z : b = 0) : ¬ P ∧ Q = 0 := by
  by_cases h : P
  · rw [if_pos h] at hb; rw [hb] at z; exact absurd z (by decide)
  · rw [if_neg h] at hb; exact ⟨h, hb ▸ z⟩
theorem in_of {x hi : Int32} {n : Nat} (h : ¬ rf_in x (0 : Int32) hi = 0) (hh : hi = nI (n - 1)) (hn : 0 < n ∧ n < 1000) : vp_in x n := by
  obtain ⟨h1, h2⟩ := rf_in_ne h
  obtain ⟨j, hj, rfl⟩ := nI_of h1
  rw [hh, nI_ltI (by omega) hj] at h2
  exact vp_in_nI (by omega) (by omega)
theorem bd_in {b x hi Q : Int32} (hb : b = if rf_in x (0 : Int32) hi = 0 then (1 : Int32) else Q) (z : b = 0) {n : Nat} (hh : hi = nI (n - 1)) (hn : 0 < n ∧ n < 1000) : vp_in x n := in_of (bd_0 hb z).1 hh hn
theorem bd_test {b x y Q : Int32} (hb : b = if rf_isTest x y = 0 then (1 : Int32) else Q) (z : b = 0) : vp_in x 5 ∧ vp_in y 3 := by
  have h := (bd_0 hb z).1
  unfold rf_isTest at h
  by_cases h1 : rf_in x (0 : Int32) (4 : Int32) = 0
  · rw [if_pos h1] at h; exact absurd rfl h
  · rw [if_neg h1] at h
    by_cases h2 : rf_in y (0 : Int32) (2 : Int32) = 0
    · rw [if_pos h2] at h; exact absurd rfl h
    · exact ⟨in_of h1 (n := 5) (by decide) (by decide), in_of h2 (n := 3) (by decide) (by decide)⟩
theorem th_of {σ : St} {x : Int32} (hiv : IVr σ) (h : ¬ rf_isThing σ x = 0) : vp_in x (cntR σ) ∧ vp_in x 40 := by
  have hle := ir_le hiv
  unfold rf_isThing at h
  obtain ⟨h1, h2⟩ := rf_in_ne h
  obtain ⟨j, hj, rfl⟩ := nI_of h1
  rw [ir_cnt hiv] at h2
  cases hc : cntR σ with
  | zero =>
    rw [hc] at h2
    exact absurd (show nI 0 - (1 : Int32) < nI j from by rw [Int32.lt_iff_toInt_lt, nI_toInt hj, show (nI 0 - (1 : Int32)).toInt = -1 from by decide]; omega) h2
  | succ n =>
    rw [hc, nI_pred, nI_ltI (by omega) hj] at h2
    exact ⟨vp_in_nI (by omega) (by omega), vp_in_nI (by omega) (by omega)⟩
theorem bd_thing {σ : St} {b x Q : Int32} (hiv : IVr σ) (hb : b = if rf_isThing σ x = 0 then (1 : Int32) else Q) (z : b = 0) : vp_in x 40 := (th_of hiv (bd_0 hb z).1).2
theorem bd_res {σ : St} {b x y : Int32} (hiv : IVr σ) (hb : b = if rf_isThing σ x = 0 then (1 : Int32) else (if rf_in y (0 : Int32) (2 : Int32) = 0 then (1 : Int32) else (0 : Int32))) (z : b = 0) : vp_in x 40 ∧ vp_in y 3 := by
  obtain ⟨h1, h2⟩ := bd_0 hb z
  exact ⟨(th_of hiv h1).2, bd_in (Q := 0) (b := 0) h2.symm rfl (n := 3) (by decide) (by decide)⟩
theorem bd_week {σ : St} {b x : Int32} (hiv : IVr σ) (hb : b = if rf_in x (0 : Int32) (σ 0 20 - (1 : Int32)) = 0 then (1 : Int32) else (0 : Int32)) (z : b = 0) : vp_in x 6 := by
  have hle := hiv.2.2.2.2.2
  obtain ⟨h1, h2⟩ := rf_in_ne (bd_0 hb z).1
  obtain ⟨j, hj, rfl⟩ := nI_of h1
  rw [hiv.2.2.2.2.1] at h2
  cases hc : plnR σ with
  | zero =>
    rw [hc] at h2
    exact absurd (show nI 0 - (1 : Int32) < nI j from by rw [Int32.lt_iff_toInt_lt, nI_toInt hj, show (nI 0 - (1 : Int32)).toInt = -1 from by decide]; omega) h2
  | succ n =>
    rw [hc, nI_pred, nI_ltI (by omega) hj] at h2
    exact vp_in_nI (by omega) (by omega)
theorem in_wh {x1 x2 lo hi : Int32} {l h : Nat} (h1 : vp_in x1 40) (c : ¬ rf_in x2 lo hi = 0) (hl : lo = nI l) (hh : hi = nI h) (hlh : h = l + 2) (hs : h < 100) : vp_in ((3 : Int32) * x1 + x2 - lo) 120 := by
  obtain ⟨c1, c2⟩ := rf_in_ne c
  have c0 : ¬ x2 < 0 := by
    intro q
    rw [hl] at c1
    rw [Int32.lt_iff_toInt_lt] at q c1
    rw [show (0 : Int32).toInt = 0 from by decide] at q
    rw [nI_toInt (by omega)] at c1
    omega
  obtain ⟨j, hj, rfl⟩ := nI_of c0
  rw [hl, nI_ltI hj (by omega)] at c1
  rw [hh, nI_ltI (by omega) hj] at c2
  rw [Int32.mul_comm]
  exact in_swK h1 rfl hl (by omega) (by omega) (by omega)
theorem in_wh4 {x1 x2 : Int32} (h1 : vp_in x1 40) (c : ¬ rf_in x2 (4 : Int32) (6 : Int32) = 0) : vp_in ((3 : Int32) * x1 + x2 - (4 : Int32)) 120 := in_wh h1 c (l := 4) (h := 6) (by decide) (by decide) rfl (by decide)
theorem in_wh7 {x1 x2 : Int32} (h1 : vp_in x1 40) (c : ¬ rf_in x2 (7 : Int32) (9 : Int32) = 0) : vp_in ((3 : Int32) * x1 + x2 - (7 : Int32)) 120 := in_wh h1 c (l := 7) (h := 9) (by decide) (by decide) rfl (by decide)

