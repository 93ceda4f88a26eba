/-! the reference's side of a plan -/
def laP (x : Int32) (w k : Nat) : Nat := min (mkP x k) (w - 1)
theorem g95_1 {ρ1 : St} {w : Nat} {A : Nat → Nat} (hw : 1 ≤ w) (hw4 : w ≤ 4) (hA : ∀ v, v < 4 → ρ1 22 v = nI (A v)) (hb : ∀ v, A v < 2 ^ 31) (h0 : ∀ v, w ≤ v → A v = 0) (r : St) (x1 : Int32) (x2 : Int64) (x4 x5 x6 : Int32) : rf_greatest_95 r x1 x2 x4 x5 x6 ρ1 w 0 0 = (nI (max (max (A 0) (A 1)) (max (A 2) (A 3))), ρ1) := by
  have mx : ∀ (a k : Nat), a < 2 ^ 31 → k < 4 → (if ρ1 22 (nI k).toNatClampNeg ≤ nI a then nI a else ρ1 22 (nI k).toNatClampNeg) = nI (max a (A k)) := by
    intro a k ha hk
    rw [nI_clamp (show k < 2 ^ 31 by omega), hA k hk]
    by_cases c : A k ≤ a
    · rw [if_pos ((nI_leI (hb k) ha).mpr c), Nat.max_eq_left c]
    · rw [if_neg (fun q => c ((nI_leI (hb k) ha).mp q)), Nat.max_eq_right (by omega)]
  have b0 := hb 0
  have b1 := hb 1
  have b2 := hb 2
  have b3 := hb 3
  have key : ∀ (m k a : Nat), a < 2 ^ 31 → k + (m + 1) ≤ 4 → rf_greatest_95 r x1 x2 x4 x5 x6 ρ1 (m + 1) k (nI a) = rf_greatest_95 r x1 x2 x4 x5 x6 ρ1 m (k + 1) (nI (max a (A k))) := by
    intro m k a ha hk
    rw [rf_greatest_95_s]
    dsimp only
    rw [mx a k ha (by omega)]
  rw [show (0 : Int32) = nI 0 from rfl]
  rcases (show w = 1 ∨ w = 2 ∨ w = 3 ∨ w = 4 by omega) with rfl | rfl | rfl | rfl
  · rw [key 0 0 0 (by omega) (by omega), rf_greatest_95_0, h0 1 (by omega), h0 2 (by omega), h0 3 (by omega)]
    refine congrArg (fun z => (nI z, ρ1)) (by omega)
  · rw [key 1 0 0 (by omega) (by omega), key 0 1 _ (by omega) (by omega), rf_greatest_95_0, h0 2 (by omega), h0 3 (by omega)]
    refine congrArg (fun z => (nI z, ρ1)) (by simp)
  · rw [key 2 0 0 (by omega) (by omega), key 1 1 _ (by omega) (by omega), key 0 2 _ (by omega) (by omega), rf_greatest_95_0, h0 3 (by omega)]
    refine congrArg (fun z => (nI z, ρ1)) (by omega)
  · rw [key 3 0 0 (by omega) (by omega), key 2 1 _ (by omega) (by omega), key 1 2 _ (by omega) (by omega), key 0 3 _ (by omega) (by omega), rf_greatest_95_0]
    refine congrArg (fun z => (nI z, ρ1)) (by omega)
theorem pw_s {w n k : Nat} (hk : k < n) (c : Nat) : c / w ^ (n - 1 - k) / w = c / w ^ (n - k) := by
  rw [Nat.div_div_eq_div_mul, ← Nat.pow_succ, show (n - 1 - k).succ = n - k by omega]
theorem g26_1 {w n c : Nat} (hw : 1 ≤ w) (hw4 : w ≤ 4) (hn : n ≤ 6) (hc : c < 5000) (r : St) (x2 : Int64) (x4 : Int32) : ∀ (m k : Nat) (ρ1 : St), k + m = n → vlP w (laP x4 w) k (c / w ^ (n - k)) = true → (∀ v, v < 4 → ρ1 22 v = nI (smP w (ldP x2) k (c / w ^ (n - k)) v)) → ∃ ρ2 : St, rf_greatest_26 r (nI c) x2 x4 (nI n) (nI w) ρ1 m k = (if vlP w (laP x4 w) n c = true then nI (grP w (ldP x2) n c) else -1, ρ2) ∧ ∀ q, q ≠ 22 → ρ2 q = ρ1 q := by
  intro m
  induction m with
  | zero =>
    intro k ρ1 hk hv hs
    have hkn : k = n := by omega
    subst hkn
    rw [Nat.sub_self, Nat.pow_zero, Nat.div_one] at hv hs
    rw [rf_greatest_26_0, nI_clamp (by omega), if_pos hv, g95_1 hw hw4 hs (fun v => Nat.lt_of_le_of_lt (smP_le (ld_le x2) v k c) (by omega)) (fun v h => smP_hi (by omega) h k c)]
    exact ⟨ρ1, rfl, fun _ _ => rfl⟩
  | succ m ih =>
    intro k ρ1 hk hv hs
    have e : rf_weekIn (nI c) (nI k) (nI n) (nI w) = nI (c / w ^ (n - 1 - k) % w) := by
      have h := wk_eq (x1 := nI c) (x5 := nI n) (x6 := nI w) (k := k) (by rw [nI_clamp (by omega)]) (by rw [nI_clamp (by omega)]; exact hn) (by rw [nI_clamp (by omega)]) (by rw [nI_clamp (by omega)]; exact hw) (by rw [nI_clamp (by omega)]; exact hw4) (by rw [nI_clamp (by omega)]; omega)
      rw [nI_clamp (n := c) (by omega), nI_clamp (n := w) (by omega), nI_clamp (n := n) (by omega)] at h
      exact h
    have hm := Nat.mod_lt (c / w ^ (n - 1 - k)) (show 0 < w by omega)
    have hmk := mk_r x4 k
    rw [rf_greatest_26_s, e, hmk.1, ld_r]
    dsimp only
    rw [nI_clamp (n := c / w ^ (n - 1 - k) % w) (by omega)]
    have ed : n - (k + 1) = n - 1 - k := by omega
    by_cases d : c / w ^ (n - 1 - k) % w ≤ mkP x4 k
    · rw [if_pos ((nI_leI (by omega) (by omega)).mpr d)]
      have hv' : vlP w (laP x4 w) (k + 1) (c / w ^ (n - (k + 1))) = true := by
        rw [vlP_s, ed, pw_s (by omega), hv]
        have : c / w ^ (n - 1 - k) % w ≤ laP x4 w k := by unfold laP; omega
        simp [this]
      obtain ⟨ρ2, q1, q2⟩ := ih (k + 1) (su ρ1 22 (c / w ^ (n - 1 - k) % w) (ρ1 22 (c / w ^ (n - 1 - k) % w) + nI (ldP x2 k))) (by omega) hv' (fun v hv4 => by
        rw [smP_s, ed, pw_s (by omega)]
        by_cases f : c / w ^ (n - 1 - k) % w = v
        · subst f
          rw [su_same, if_pos rfl, hs _ hv4, nI_add]
        · rw [su_ne _ _ (fun z => f z.2.symm), if_neg f, hs v hv4, Nat.add_zero])
      exact ⟨ρ2, q1, fun q hq => by rw [q2 q hq, su_nq _ _ hq]⟩
    · rw [if_neg (fun q => d ((nI_leI (by omega) (by omega)).mp q))]
      refine ⟨ρ1, ?_, fun _ _ => rfl⟩
      have nv : ¬ vlP w (laP x4 w) n c = true := by
        intro z
        have z2 := vlP_pre (w := w) (la := laP x4 w) (n - 1 - k) (k + 1) c (by rw [show k + 1 + (n - 1 - k) = n by omega]; exact z)
        rw [vlP_s, Bool.and_eq_true, decide_eq_true_eq] at z2
        have := z2.2
        unfold laP at this
        omega
      rw [if_neg nv]
theorem gre_1 {w n c : Nat} (hw : 1 ≤ w) (hw4 : w ≤ 4) (hn : n ≤ 6) (hc : c < w ^ n) (r : St) (x2 : Int64) (x4 : Int32) : ∃ ρ2 : St, rf_greatest r (nI c) x2 x4 (nI n) (nI w) = (if vlP w (laP x4 w) n c = true then nI (grP w (ldP x2) n c) else -1, ρ2) ∧ ∀ q, q ≠ 22 → ρ2 q = r q := by
  have hc5 : c < 5000 := Nat.lt_of_lt_of_le hc (Nat.le_trans (pl_le hw4 hn) (by decide))
  unfold rf_greatest
  rw [show rf_greatest_3 r (nI c) x2 x4 (nI n) (nI w) r 4 0 = rf_greatest_3 r (nI c) x2 x4 (nI n) (nI w) r (0 + 1 + 1 + 1 + 1) 0 from rfl, rf_greatest_3_s, rf_greatest_3_s, rf_greatest_3_s, rf_greatest_3_s, rf_greatest_3_0]
  rw [nI_clamp (n := n) (by omega)]
  simp only [Nat.zero_add, Nat.reduceAdd]
  obtain ⟨ρ2, q1, q2⟩ := g26_1 (c := c) hw hw4 hn hc5 r x2 x4 n 0 (su (su (su (su r 22 (nI 0).toNatClampNeg 0) 22 (nI 1).toNatClampNeg 0) 22 (nI 2).toNatClampNeg 0) 22 (nI 3).toNatClampNeg 0) (by omega) rfl (fun v hv => by
    rcases (show v = 0 ∨ v = 1 ∨ v = 2 ∨ v = 3 by omega) with rfl | rfl | rfl | rfl <;> rfl)
  exact ⟨ρ2, q1, fun q hq => by rw [q2 q hq, su_nq _ _ hq, su_nq _ _ hq, su_nq _ _ hq, su_nq _ _ hq]⟩
