/-- the row of weeks that a code stands for -/
def gbP (w n : Nat) (f0 : Nat → Int32) (b : Int32) : Nat → Int32 := fun i => if i < n then rf_weekIn b (nI i) (nI n) (nI w) else f0 i
theorem gb_n {w n c : Nat} (hw : 1 ≤ w) (hw4 : w ≤ 4) (hn : n ≤ 6) (hc : c < 5000) (f0 f : Nat → Int32) (hf : ∀ i, n ≤ i → f i = f0 i) : sfP w n f c = gbP w n f0 (nI c) := by
  funext i
  unfold sfP gbP
  by_cases h : i < n
  · rw [if_pos h, if_pos h]
    have h := wk_eq (x1 := nI c) (x5 := nI n) (x6 := nI w) (k := i) (by rw [nI_clamp (by omega)]) (by rw [nI_clamp (by omega)]; exact hn) (by rw [nI_clamp (by omega)]) (by rw [nI_clamp (by omega)]; exact hw) (by rw [nI_clamp (by omega)]; exact hw4) (by rw [nI_clamp (by omega)]; omega)
    rw [nI_clamp (n := c) (by omega), nI_clamp (n := w) (by omega), nI_clamp (n := n) (by omega)] at h
    exact h.symm
  · rw [if_neg h, if_neg h]
    exact hf i (by omega)
theorem gb_hi {w n : Nat} {f0 : Nat → Int32} (b : Int32) {i : Nat} (h : n ≤ i) : gbP w n f0 b i = f0 i := if_neg (by omega)
theorem rp_ind {w n : Nat} (hw : 1 ≤ w) (hw4 : w ≤ 4) (hn : n ≤ 6) (r : St) (x1 : Int64) (x3 x6 : Int32) (f0 : Nat → Int32) : ∀ (N c : Nat) (ρ1 : St) (b l : Int32), c + N = w ^ n → ∃ (b2 l2 : Int32) (ρ2 : St), rf_plan_74 r x1 x3 (nI n) (nI w) ρ1 N c x6 b l = rf_plan_130 r x1 x3 (nI n) (nI w) (su ρ2 0 20 (nI n)) n 0 b2 l2 ∧ (∀ q, q ≠ 22 → ρ2 q = ρ1 q) ∧ lpP w n (ldP x1) (laP x3 w) N c (l, gbP w n f0 b) = (l2, gbP w n f0 b2) := by
  intro N
  induction N with
  | zero =>
    intro c ρ1 b l _
    refine ⟨b, l, ρ1, ?_, fun _ _ => rfl, rfl⟩
    rw [rf_plan_74_0, nI_clamp (by omega)]
  | succ N ih =>
    intro c ρ1 b l hc
    have hc5 : c < 5000 := Nat.lt_of_lt_of_le (show c < w ^ n by omega) (Nat.le_trans (pl_le hw4 hn) (by decide))
    obtain ⟨ρ3, g1, g2⟩ := gre_1 (c := c) hw hw4 hn (by omega) ρ1 x1 x3
    have hgl := grP_le (w := w) (ld_le x1) n c
    rw [rf_plan_74_s, g1, lpP_s]
    dsimp only
    unfold stP
    dsimp only
    by_cases v : vlP w (laP x3 w) n c = true
    · simp only [v, if_true, true_and]
      rw [if_neg (nI_pos (by omega))]
      by_cases d : nI (grP w (ldP x1) n c) < l
      · rw [if_pos d, if_neg (by grind), gb_n hw hw4 hn hc5 f0 _ (fun i hi => gb_hi b hi)]
        obtain ⟨b2, l2, ρ2, q1, q2, q3⟩ := ih (c + 1) ρ3 (nI c) (nI (grP w (ldP x1) n c)) (by omega)
        exact ⟨b2, l2, ρ2, q1, fun q hq => by rw [q2 q hq, g2 q hq], q3⟩
      · rw [if_neg d, if_pos (by grind)]
        obtain ⟨b2, l2, ρ2, q1, q2, q3⟩ := ih (c + 1) ρ3 b l (by omega)
        exact ⟨b2, l2, ρ2, q1, fun q hq => by rw [q2 q hq, g2 q hq], q3⟩
    · rw [if_neg v, if_pos (show (-1 : Int32) < 0 from by decide)]
      obtain ⟨b2, l2, ρ2, q1, q2, q3⟩ := ih (c + 1) ρ3 b l (by omega)
      refine ⟨b2, l2, ρ2, q1, fun q hq => by rw [q2 q hq, g2 q hq], ?_⟩
      rw [if_neg (fun z => v z.1)]
      exact q3
theorem r130 {w n : Nat} (hn : n ≤ 6) (r : St) (x1 : Int64) (x3 b l : Int32) : ∀ (m k : Nat) (ρ1 : St), k + m = n → ∃ ρ2 : St, rf_plan_130 r x1 x3 (nI n) (nI w) ρ1 m k b l = (l, ρ2) ∧ (∀ q, q ≠ 21 → ρ2 q = ρ1 q) ∧ ∀ i, ρ2 21 i = if k ≤ i ∧ i < n then rf_weekIn b (nI i) (nI n) (nI w) else ρ1 21 i := by
  intro m
  induction m with
  | zero => intro k ρ1 hk; exact ⟨ρ1, rfl, fun _ _ => rfl, fun i => (if_neg (by omega)).symm⟩
  | succ m ih =>
    intro k ρ1 hk
    rw [rf_plan_130_s]
    dsimp only
    rw [nI_clamp (n := k) (by omega)]
    obtain ⟨ρ2, q1, q2, q3⟩ := ih (k + 1) (su ρ1 21 k (rf_weekIn b (nI k) (nI n) (nI w))) (by omega)
    refine ⟨ρ2, q1, fun q hq => by rw [q2 q hq, su_nq _ _ hq], fun i => ?_⟩
    rw [q3 i]
    by_cases e : i = k
    · subst e
      rw [if_neg (by omega), su_same, if_pos (by omega)]
    · rw [su_ne _ _ (fun z => e z.2)]
      by_cases f : k + 1 ≤ i ∧ i < n
      · rw [if_pos f, if_pos (by omega)]
      · rw [if_neg f, if_neg (by omega)]
