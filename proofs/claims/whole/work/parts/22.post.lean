theorem rf_in_b (a b c : Int32) : narrow .boolean (.int (rf_in a b c)) = .int (rf_in a b c) := by
  unfold rf_in
  split
  · decide
  · split <;> decide
theorem rf_in_ne {x lo hi : Int32} (h : ¬ rf_in x lo hi = 0) : ¬ x < lo ∧ ¬ hi < x := by
  unfold rf_in at h
  by_cases h1 : x < lo
  · rw [if_pos h1] at h; exact absurd rfl h
  · rw [if_neg h1] at h
    by_cases h2 : hi < x
    · rw [if_pos h2] at h; exact absurd rfl h
    · exact ⟨h1, h2⟩
def thrv (a b c d : Int32) : Int32 := if a = 0 then (if b = 0 then (if c = 0 then (if d = 0 then 0 else 4) else 3) else 2) else 1
theorem rf_thr (σ : St) (a b c d : Int32) : rf_throwing σ a b c d = (if thrv a b c d ≤ 0 then 0 else 1, su σ 0 0 (thrv a b c d)) := by
  have key : ∀ v : Int32, (if su σ 0 0 v 0 0 ≤ 0 then ((0 : Int32), su σ 0 0 v) else ((1 : Int32), su σ 0 0 v)) = (if v ≤ 0 then 0 else 1, su σ 0 0 v) := by
    intro v
    rw [su_same]
    split <;> rfl
  exact key (thrv a b c d)
theorem thr0 {σ : St} {a b c d : Int32} (h : (rf_throwing σ a b c d).1 = 0) : a = 0 ∧ b = 0 ∧ c = 0 ∧ d = 0 := by
  rw [rf_thr] at h
  dsimp only at h
  unfold thrv at h
  by_cases h1 : a = 0
  · by_cases h2 : b = 0
    · by_cases h3 : c = 0
      · by_cases h4 : d = 0
        · exact ⟨h1, h2, h3, h4⟩
        · rw [if_pos h1, if_pos h2, if_pos h3, if_neg h4] at h; exact absurd h (by decide)
      · rw [if_pos h1, if_pos h2, if_neg h3] at h; exact absurd h (by decide)
    · rw [if_pos h1, if_neg h2] at h; exact absurd h (by decide)
  · rw [if_neg h1] at h; exact absurd h (by decide)
theorem ir_thr {σ : St} (h : IVr σ) (a b c d : Int32) : IVr (rf_throwing σ a b c d).2 := by
  rw [rf_thr]
  exact ir_su0 h (by decide)
theorem cnt_thr (σ : St) (a b c d : Int32) : cntR (rf_throwing σ a b c d).2 = cntR σ := by
  rw [rf_thr]
  rfl
theorem bd_0 {b Q : Int32} {P : Prop} [Decidable P] (hb : b = if P then (1 : Int32) else Q) (z : b = 0) : ¬ P ∧ Q = 0 := by
  by_cases h : P
  · rw [if_pos h] at hb; rw [hb] at z; exact absurd z (by decide)
  · rw [if_neg h] at hb; exact ⟨h, hb ▸ z⟩
theorem in_of {x hi : Int32} {n : Nat} (h : ¬ rf_in x (0 : Int32) hi = 0) (hh : hi = nI (n - 1)) (hn : 0 < n ∧ n < 1000) : vp_in x n := by
  obtain ⟨h1, h2⟩ := rf_in_ne h
  obtain ⟨j, hj, rfl⟩ := nI_of h1
  rw [hh, nI_ltI (by omega) hj] at h2
  exact vp_in_nI (by omega) (by omega)
theorem bd_in {b x hi Q : Int32} (hb : b = if rf_in x (0 : Int32) hi = 0 then (1 : Int32) else Q) (z : b = 0) {n : Nat} (hh : hi = nI (n - 1)) (hn : 0 < n ∧ n < 1000) : vp_in x n := in_of (bd_0 hb z).1 hh hn
theorem bd_test {b x y Q : Int32} (hb : b = if rf_isTest x y = 0 then (1 : Int32) else Q) (z : b = 0) : vp_in x 5 ∧ vp_in y 3 := by
  have h := (bd_0 hb z).1
  unfold rf_isTest at h
  by_cases h1 : rf_in x (0 : Int32) (4 : Int32) = 0
  · rw [if_pos h1] at h; exact absurd rfl h
  · rw [if_neg h1] at h
    by_cases h2 : rf_in y (0 : Int32) (2 : Int32) = 0
    · rw [if_pos h2] at h; exact absurd rfl h
    · exact ⟨in_of h1 (n := 5) (by decide) (by decide), in_of h2 (n := 3) (by decide) (by decide)⟩
theorem th_of {σ : St} {x : Int32} (hiv : IVr σ) (h : ¬ rf_isThing σ x = 0) : vp_in x (cntR σ) ∧ vp_in x 40 := by
  have hle := ir_le hiv
  unfold rf_isThing at h
  obtain ⟨h1, h2⟩ := rf_in_ne h
  obtain ⟨j, hj, rfl⟩ := nI_of h1
  rw [ir_cnt hiv] at h2
  cases hc : cntR σ with
  | zero =>
    rw [hc] at h2
    exact absurd (show nI 0 - (1 : Int32) < nI j from by rw [Int32.lt_iff_toInt_lt, nI_toInt hj, show (nI 0 - (1 : Int32)).toInt = -1 from by decide]; omega) h2
  | succ n =>
    rw [hc, nI_pred, nI_ltI (by omega) hj] at h2
    exact ⟨vp_in_nI (by omega) (by omega), vp_in_nI (by omega) (by omega)⟩
theorem bd_thing {σ : St} {b x Q : Int32} (hiv : IVr σ) (hb : b = if rf_isThing σ x = 0 then (1 : Int32) else Q) (z : b = 0) : vp_in x 40 := (th_of hiv (bd_0 hb z).1).2
theorem bd_res {σ : St} {b x y : Int32} (hiv : IVr σ) (hb : b = if rf_isThing σ x = 0 then (1 : Int32) else (if rf_in y (0 : Int32) (2 : Int32) = 0 then (1 : Int32) else (0 : Int32))) (z : b = 0) : vp_in x 40 ∧ vp_in y 3 := by
  obtain ⟨h1, h2⟩ := bd_0 hb z
  exact ⟨(th_of hiv h1).2, bd_in (Q := 0) (b := 0) h2.symm rfl (n := 3) (by decide) (by decide)⟩
theorem bd_week {σ : St} {b x : Int32} (hiv : IVr σ) (hb : b = if rf_in x (0 : Int32) (σ 0 20 - (1 : Int32)) = 0 then (1 : Int32) else (0 : Int32)) (z : b = 0) : vp_in x 6 := by
  have hle := hiv.2.2.2.2.2
  obtain ⟨h1, h2⟩ := rf_in_ne (bd_0 hb z).1
  obtain ⟨j, hj, rfl⟩ := nI_of h1
  rw [hiv.2.2.2.2.1] at h2
  cases hc : plnR σ with
  | zero =>
    rw [hc] at h2
    exact absurd (show nI 0 - (1 : Int32) < nI j from by rw [Int32.lt_iff_toInt_lt, nI_toInt hj, show (nI 0 - (1 : Int32)).toInt = -1 from by decide]; omega) h2
  | succ n =>
    rw [hc, nI_pred, nI_ltI (by omega) hj] at h2
    exact vp_in_nI (by omega) (by omega)
theorem in_wh {x1 x2 lo hi : Int32} {l h : Nat} (h1 : vp_in x1 40) (c : ¬ rf_in x2 lo hi = 0) (hl : lo = nI l) (hh : hi = nI h) (hlh : h = l + 2) (hs : h < 100) : vp_in ((3 : Int32) * x1 + x2 - lo) 120 := by
  obtain ⟨c1, c2⟩ := rf_in_ne c
  have c0 : ¬ x2 < 0 := by
    intro q
    rw [hl] at c1
    rw [Int32.lt_iff_toInt_lt] at q c1
    rw [show (0 : Int32).toInt = 0 from by decide] at q
    rw [nI_toInt (by omega)] at c1
    omega
  obtain ⟨j, hj, rfl⟩ := nI_of c0
  rw [hl, nI_ltI hj (by omega)] at c1
  rw [hh, nI_ltI (by omega) hj] at c2
  rw [Int32.mul_comm]
  exact in_swK h1 rfl hl (by omega) (by omega) (by omega)
theorem in_wh4 {x1 x2 : Int32} (h1 : vp_in x1 40) (c : ¬ rf_in x2 (4 : Int32) (6 : Int32) = 0) : vp_in ((3 : Int32) * x1 + x2 - (4 : Int32)) 120 := in_wh h1 c (l := 4) (h := 6) (by decide) (by decide) rfl (by decide)
theorem in_wh7 {x1 x2 : Int32} (h1 : vp_in x1 40) (c : ¬ rf_in x2 (7 : Int32) (9 : Int32) = 0) : vp_in ((3 : Int32) * x1 + x2 - (7 : Int32)) 120 := in_wh h1 c (l := 7) (h := 9) (by decide) (by decide) rfl (by decide)
theorem ht_4 : (4 : Int32) = nI 4 := by decide
theorem bd_new {x1 x4 x5 x7 : Int32} (h7 : x7 = if rf_in x1 (0 : Int32) (4 : Int32) = 0 then (1 : Int32) else (if rf_in x4 (0 : Int32) (9 : Int32) = 0 then (1 : Int32) else (if rf_in x5 (0 : Int32) (19 : Int32) = 0 then (1 : Int32) else (0 : Int32)))) (z : x7 = 0) : vp_in x1 5 ∧ vp_in x4 10 := by
  obtain ⟨h1, h2⟩ := bd_0 h7 z
  obtain ⟨h3, -⟩ := bd_0 h2.symm rfl
  exact ⟨in_of h1 (n := 5) (by decide) (by decide), in_of h3 (n := 10) (by decide) (by decide)⟩
theorem bd_room {σ : St} {b : Int32} (hiv : IVr σ) (hb : b = if σ 0 7 = (40 : Int32) then (1 : Int32) else (0 : Int32)) (z : b = 0) : vp_in (σ 0 7) 40 := by
  obtain ⟨h1, -⟩ := bd_0 hb z
  have hle := ir_le hiv
  rw [ir_cnt hiv] at h1 ⊢
  refine vp_in_nI ?_ (by omega)
  rcases Nat.lt_or_ge (cntR σ) 40 with h | h
  · exact h
  · exact absurd (by rw [show cntR σ = 40 by omega]; decide) h1
theorem wi_0 {x1 : Int32} {t n : Nat} (ht : x1 = nI t) (htn : t < n) (hn6 : n ≤ 6) : nI (t + 0) ≤ x1 := by
  rw [ht]
  exact nI_le (by omega) (by omega)
theorem wi_s {x1 : Int32} {t n j : Nat} (ht : x1 = nI t) (htn : t < n) (hn6 : n ≤ 6) (hj : j + 1 ≤ n) : ¬ nI (t + (j + 1)) ≤ x1 := by
  rw [ht]
  exact nI_ge (by omega) (by omega)
theorem wi_e {x2 : Int32} {t n : Nat} (hn : x2 = nI n) (htn : t < n) : x2 - (1 : Int32) = nI (t + (n - 1 - t)) := by
  rw [hn, show (1 : Int32) = nI 1 from by decide, pk_sub (by omega)]
  exact congrArg nI (by omega)
theorem wi_n {x1 x2 : Int32} {t n : Nat} (ht : x1 = nI t) (hn : x2 = nI n) (htn : t < n) (hn6 : n ≤ 6) : x2.toNatClampNeg - 1 - x1.toNatClampNeg = n - 1 - t := by
  rw [ht, hn, nI_clamp (by omega), nI_clamp (by omega)]
theorem wk8 {w : Nat} (h1 : 1 ≤ w) (h4 : w ≤ 4) : ∀ (j c : Nat), c < 2 ^ 31 → rf_weekIn_8 (nI w) j (nI c) = nI (c / w ^ j % w) := by
  intro j
  induction j with
  | zero =>
    intro c hc
    rw [rf_weekIn_8_0, pk_rem hc (by omega) (by omega)]
    simp
  | succ j ih =>
    intro c hc
    rw [rf_weekIn_8_s, pk_div hc (by omega) (by omega), ih _ (Nat.lt_of_le_of_lt (Nat.div_le_self _ _) hc), Nat.div_div_eq_div_mul, Nat.pow_succ, Nat.mul_comm w]
theorem wk_clamp {x : Int32} : x.toNatClampNeg < 2 ^ 31 := by
  have h := Int32.toInt_lt x
  show x.toInt.toNat < 2 ^ 31
  omega
theorem wk_eq {x1 x5 x6 : Int32} {k : Nat} (hc : x1 = nI x1.toNatClampNeg) (hn56 : x5.toNatClampNeg ≤ 6) (hw6 : x6 = nI x6.toNatClampNeg) (hw61 : 1 ≤ x6.toNatClampNeg) (hw64 : x6.toNatClampNeg ≤ 4) (hk : k < x5.toNatClampNeg) : rf_weekIn x1 (nI k) x5 x6 = nI (x1.toNatClampNeg / x6.toNatClampNeg ^ (x5.toNatClampNeg - 1 - k) % x6.toNatClampNeg) := by
  unfold rf_weekIn
  rw [nI_clamp (n := k) (by omega)]
  have h := wk8 hw61 hw64 (x5.toNatClampNeg - 1 - k) x1.toNatClampNeg wk_clamp
  rw [← hw6, ← hc] at h
  exact h
theorem wk_in {x1 x5 x6 : Int32} {k : Nat} (hc : x1 = nI x1.toNatClampNeg) (hn5 : x5 = nI x5.toNatClampNeg) (hn56 : x5.toNatClampNeg ≤ 6) (hw6 : x6 = nI x6.toNatClampNeg) (hw61 : 1 ≤ x6.toNatClampNeg) (hw64 : x6.toNatClampNeg ≤ 4) (hk : k < x5.toNatClampNeg) : vp_in (rf_weekIn x1 (nI k) x5 x6) 4 := by
  rw [wk_eq hc hn56 hw6 hw61 hw64 hk]
  have := Nat.mod_lt (x1.toNatClampNeg / x6.toNatClampNeg ^ (x5.toNatClampNeg - 1 - k)) (show 0 < x6.toNatClampNeg by omega)
  exact vp_in_nI (by omega) (by omega)
theorem wk_nz {x6 : Int32} (hw6 : x6 = nI x6.toNatClampNeg) (hw61 : 1 ≤ x6.toNatClampNeg) (hw64 : x6.toNatClampNeg ≤ 4) : ¬ x6 = 0 := by
  rw [hw6]
  exact nI_ne0 (by omega) (by omega)
theorem pl_k {k n N : Nat} (h : N ≤ 5000) (hk : k + (n + 1) = N) : nI k = nI (nI k).toNatClampNeg := by rw [nI_clamp (by omega)]
theorem in_two {x lo hi : Int32} {l h : Nat} (c : ¬ rf_in x lo hi = 0) (hl : lo = nI l) (hh : hi = nI h) (hs : l < 1000 ∧ h < 1000) : x = nI x.toNatClampNeg ∧ l ≤ x.toNatClampNeg ∧ x.toNatClampNeg ≤ h := by
  obtain ⟨c1, c2⟩ := rf_in_ne c
  have c0 : ¬ x < 0 := by
    intro q
    rw [hl] at c1
    rw [Int32.lt_iff_toInt_lt] at q c1
    rw [show (0 : Int32).toInt = 0 from by decide] at q
    rw [nI_toInt (by omega)] at c1
    omega
  obtain ⟨j, hj, rfl⟩ := nI_of c0
  rw [hl, nI_ltI hj (by omega)] at c1
  rw [hh, nI_ltI (by omega) hj] at c2
  rw [nI_clamp hj]
  exact ⟨rfl, by omega, by omega⟩
theorem bd_plan {b x4 x5 : Int32} (hb : b = if rf_in x4 (0 : Int32) (6 : Int32) = 0 then (1 : Int32) else (if rf_in x5 (1 : Int32) (4 : Int32) = 0 then (1 : Int32) else (0 : Int32))) (z : b = 0) : x4 = nI x4.toNatClampNeg ∧ x4.toNatClampNeg ≤ 6 ∧ x5 = nI x5.toNatClampNeg ∧ 1 ≤ x5.toNatClampNeg ∧ x5.toNatClampNeg ≤ 4 := by
  obtain ⟨h1, h2⟩ := bd_0 hb z
  obtain ⟨h3, -⟩ := bd_0 h2.symm rfl
  have a := in_two h1 (l := 0) (h := 6) (by decide) (by decide) (by decide)
  have b := in_two h3 (l := 1) (h := 4) (by decide) (by decide) (by decide)
  exact ⟨a.1, a.2.2, b.1, b.2.1, b.2.2⟩
theorem pw_eq {w : Nat} : ∀ (n k a : Nat), rf_plan_44 (nI w) n k (nI a) = nI (a * w ^ n) := by
  intro n
  induction n with
  | zero => intro k a; rw [rf_plan_44_0]; simp
  | succ n ih =>
    intro k a
    rw [rf_plan_44_s, pk_mul, ih, Nat.pow_succ, Nat.mul_assoc, Nat.mul_comm w]
theorem pl_pow {x4 x5 : Int32} (hn5 : x5 = nI x5.toNatClampNeg) : rf_plan_44 x5 x4.toNatClampNeg 0 (1 : Int32) = nI (x5.toNatClampNeg ^ x4.toNatClampNeg) := by
  have h := pw_eq (w := x5.toNatClampNeg) x4.toNatClampNeg 0 1
  rw [← hn5, Nat.one_mul] at h
  exact h
theorem pl_le {a b : Nat} (ha : a ≤ 4) (hb : b ≤ 6) : a ^ b ≤ 4096 := Nat.le_trans (Nat.pow_le_pow_left ha b) (Nat.pow_le_pow_right (by decide) hb)
theorem pl_all {x4 x5 b : Int32} (hn46 : x4.toNatClampNeg ≤ 6) (hn5 : x5 = nI x5.toNatClampNeg) (hn54 : x5.toNatClampNeg ≤ 4) (hb : b = rf_plan_44 x5 x4.toNatClampNeg 0 (1 : Int32)) : b = nI b.toNatClampNeg ∧ b.toNatClampNeg ≤ 5000 := by
  have h := pl_le hn54 hn46
  rw [hb, pl_pow hn5, nI_clamp (by omega)]
  exact ⟨rfl, by omega⟩
theorem gc_0 {x : Int32} (hf : x.toInt ≤ ((0 : Nat) : Int)) : x ≤ 0 := by
  rw [Int32.le_iff_toInt_le, show (0 : Int32).toInt = 0 from by decide]
  exact hf
theorem gc_nz {x6 x7 : Int32} (hor : ¬ x6 = 0 ∨ 0 < x7) (c : x7 ≤ 0) : ¬ x6 = 0 := hor.elim id (fun h => absurd c (Int32.not_le.mpr h))
theorem gc_ne {x7 : Int32} (c : ¬ x7 ≤ 0) : ¬ x7 = 0 := fun h => c (by rw [h]; exact Int32.le_refl _)
theorem gc_rem {x y : Int32} (c : 0 < y.toInt) : (x - x / y * y).toInt = x.toInt.tmod y.toInt := by
  have h1 := Int32.toInt_lt x
  have h2 := Int32.le_toInt x
  have h3 := Int32.toInt_lt y
  have hy : y ≠ -1 := by
    intro h
    rw [h, show (-1 : Int32).toInt = -1 from by decide] at c
    omega
  have e := Int.tdiv_mul_add_tmod x.toInt y.toInt
  have b := tmod_bounds (a := x.toInt) c
  have bd : -2147483648 ≤ x.toInt.tdiv y.toInt * y.toInt ∧ x.toInt.tdiv y.toInt * y.toInt < 2147483648 := by
    rcases Int.le_total 0 x.toInt with h0 | h0
    · have t0 : 0 ≤ x.toInt.tmod y.toInt := Int.tmod_nonneg _ h0
      have t1 : 0 ≤ x.toInt.tdiv y.toInt * y.toInt := Int.mul_nonneg (Int.tdiv_nonneg h0 (by omega)) (by omega)
      omega
    · have t0 : x.toInt.tmod y.toInt ≤ 0 := by
        have := Int.tmod_nonneg (a := -x.toInt) y.toInt (by omega)
        rw [Int.neg_tmod] at this
        omega
      have t1 : x.toInt.tdiv y.toInt * y.toInt ≤ 0 := by
        have := Int.mul_nonneg (Int.tdiv_nonneg (a := -x.toInt) (b := y.toInt) (by omega) (by omega)) (show 0 ≤ y.toInt by omega)
        rw [Int.neg_tdiv, Int.neg_mul] at this
        omega
      omega
  rw [Int32.toInt_sub, Int32.toInt_mul, Int32.toInt_div_of_ne_right _ _ hy, Int.bmod_eq_of_le (n := x.toInt.tdiv y.toInt * y.toInt) (by omega) (by omega)]
  rw [Int.bmod_eq_of_le (by omega) (by omega)]
  omega
theorem gc_s {x6 x7 : Int32} {f : Nat} (hf : x7.toInt ≤ ((f + 1 : Nat) : Int)) (c : ¬ x7 ≤ 0) : (x6 - x6 / x7 * x7).toInt ≤ (f : Int) := by
  have h : 0 < x7.toInt := by
    rw [Int32.le_iff_toInt_le, show (0 : Int32).toInt = 0 from by decide] at c
    omega
  rw [gc_rem h]
  have := tmod_bounds (a := x6.toInt) h
  omega
theorem gc_le {x5 : Int32} (_ : x5 = nI x5.toNatClampNeg) : x5.toInt ≤ (x5.toNatClampNeg : Int) := Int.self_le_toNat _
theorem gc_pos {x5 : Int32} (hn5 : x5 = nI x5.toNatClampNeg) (h : ¬ x5 = 0) : 0 < x5 := by
  rw [hn5] at h ⊢
  have h1 : x5.toNatClampNeg ≠ 0 := fun q => h (by rw [q]; rfl)
  exact nI_lt (a := 0) (by omega) wk_clamp
theorem bd_n0 {b x : Int32} (hb : b = if x = 0 then (1 : Int32) else (0 : Int32)) (z : b = 0) : ¬ x = 0 := (bd_0 hb z).1
theorem gc_i0 : (0 : Int32) = nI (0 : Int32).toNatClampNeg := by decide
theorem gc_c {x5 : Int32} {n : Nat} (hn5 : x5 = nI x5.toNatClampNeg) (h55 : x5.toNatClampNeg + (n + 1) ≤ 40) : (x5 + (1 : Int32)).toNatClampNeg = x5.toNatClampNeg + 1 ∧ x5 + (1 : Int32) = nI (x5.toNatClampNeg + 1) := by
  have e : x5 + (1 : Int32) = nI (x5.toNatClampNeg + 1) := by
    have h := nI_1 x5.toNatClampNeg
    rw [← hn5] at h
    exact h
  exact ⟨by rw [e, nI_clamp (by omega)], e⟩
theorem gc_i {x5 : Int32} {n : Nat} (hn5 : x5 = nI x5.toNatClampNeg) (h55 : x5.toNatClampNeg + (n + 1) ≤ 40) : x5 + (1 : Int32) = nI (x5 + (1 : Int32)).toNatClampNeg := by
  rw [(gc_c hn5 h55).1]
  exact (gc_c hn5 h55).2
theorem gc_j {x5 : Int32} {n : Nat} (hn5 : x5 = nI x5.toNatClampNeg) (h55 : x5.toNatClampNeg + (n + 1) ≤ 40) : (x5 + (1 : Int32)).toNatClampNeg + n ≤ 40 := by
  rw [(gc_c hn5 h55).1]
  omega

