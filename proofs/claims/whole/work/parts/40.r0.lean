theorem lp_st {w n : Nat} {ld la : Nat → Nat} (hn : n ≤ 6) (hw : 0 < w) (hl : ∀ i, ld i ≤ 255) (f0 : Nat → Int32) : lpP w n ld la (w ^ n) 0 (2147483647, f0) = lpP w n ld la (w ^ n) 0 (1000000, gbP w n f0 (-1)) := by
  have hp : 0 < w ^ n := Nat.pow_pos hw
  rw [show w ^ n = (w ^ n - 1) + 1 by omega, lpP_s, lpP_s]
  refine congrArg _ ?_
  have gle := grP_le (w := w) hl n 0
  unfold stP
  rw [if_pos ⟨vlP_0 n, by show nI _ < (2147483647 : Int32); exact nI_lt (b := 2147483647) (by omega) (by omega)⟩, if_pos ⟨vlP_0 n, by show nI _ < (1000000 : Int32); exact nI_lt (b := 1000000) (by omega) (by omega)⟩]
  refine congrArg (fun z => (nI (grP w ld n 0), z)) ?_
  funext i
  unfold sfP
  by_cases h : i < n
  · rw [if_pos h, if_pos h]
  · rw [if_neg h, if_neg h]
    exact (gb_hi (-1) (by omega)).symm
theorem mk_ind {w n : Nat} (hw : 1 ≤ w) (hw4 : w ≤ 4) (hn : n ≤ 6) (s : St) (x1 : Int64) (x3 : Int32) : ∀ (m k : Nat) (σ1 : St), k + m = n → IV σ1 → (∀ i, i < k → σ1 20 i = nI (ldP x1 i) ∧ σ1 21 i = nI (laP x3 w i)) → ∃ σ2 : St, sp_make_3 s x1 x3 (nI n) (nI w) σ1 m k = (sp_putFrom 6 (su (su σ2 19 5 (nI n)) 19 6 2147483647) 0 0 19 6, sp_putFrom 6 (su (su σ2 19 5 (nI n)) 19 6 2147483647) 0 0) ∧ (∀ q, q ≠ 20 → q ≠ 21 → σ2 q = σ1 q) ∧ IV σ2 ∧ ∀ i, i < n → σ2 20 i = nI (ldP x1 i) ∧ σ2 21 i = nI (laP x3 w i) := by
  intro m
  induction m with
  | zero =>
    intro k σ1 hk hiv h
    have e : k = n := by omega
    subst e
    exact ⟨σ1, rfl, fun _ _ _ => rfl, hiv, h⟩
  | succ m ih =>
    intro k σ1 hk hiv h
    rw [sp_make_3_s]
    dsimp only
    have hm := mk_r x3 k
    rw [nI_clamp (n := k) (by omega), ld_c x1 (by omega), mk_c x3 (by omega)]
    have e : (if nI w - 1 < nI (mkP x3 k) then nI w - 1 else nI (mkP x3 k)) = nI (laP x3 w k) := by
      rw [show (1 : Int32) = nI 1 from rfl, pk_sub hw]
      unfold laP
      by_cases c : w - 1 < mkP x3 k
      · rw [if_pos (nI_lt c (by omega)), Nat.min_eq_right (by omega)]
      · rw [if_neg (nI_nlt (by omega) (by omega)), Nat.min_eq_left (by omega)]
    rw [e]
    have hla : laP x3 w k < 4 := by unfold laP; omega
    obtain ⟨σ2, q1, q2, q3, q4⟩ := ih (k + 1) (su (su σ1 20 k (nI (ldP x1 k))) 21 k (nI (laP x3 w k))) (by omega) (iv_su21 (iv_suq hiv (by decide)) (vp_in_nI hla (by decide))) (fun i hi => by
      by_cases f : i = k
      · subst f
        exact ⟨(su_ne (q := 21) (q' := 20) _ _ (fun z => absurd z.1 (by decide))).trans (su_same _ _ _ _), su_same _ _ _ _⟩
      · rw [su_ne (q := 21) (q' := 20) _ _ (fun z => absurd z.1 (by decide)), su_ne (q := 20) (q' := 20) _ _ (fun z => f z.2), su_ne (q := 21) (q' := 21) _ _ (fun z => f z.2), su_ne (q := 20) (q' := 21) _ _ (fun z => absurd z.1 (by decide))]
        exact h i (by omega))
    exact ⟨σ2, q1, fun q a b => by rw [q2 q a b, su_nq _ _ b, su_nq _ _ a], q3, q4⟩
theorem n_w {x : Int32} (h : okRange x 1 4 = true) : ∃ w, 1 ≤ w ∧ w ≤ 4 ∧ x = nI w := by
  obtain ⟨a, b⟩ := okR_in h
  obtain ⟨j, hj, rfl⟩ := nI_of2 (M := 4) (n := 4) (by decide) (show ¬ x < 0 by grind) b
  rw [show (1 : Int32) = nI 1 from rfl, nI_leI (by omega) (by omega)] at a
  exact ⟨j, a, hj, rfl⟩
theorem n_n {x : Int32} (h : okRange x 0 6 = true) : ∃ n, n ≤ 6 ∧ x = nI n := by
  obtain ⟨a, b⟩ := okR_in h
  obtain ⟨j, hj, rfl⟩ := nI_of2 (M := 6) (n := 6) (by decide) (show ¬ x < 0 by grind) b
  exact ⟨j, hj, rfl⟩
theorem st_plan {σ ρ : St} (h : Rel σ ρ) (x1 : Int64) (x3 x4 x5 : Int32) : stO ["java/lang/IndexOutOfBoundsException"] σ (sp_plan σ x1 x3 x4 x5) (rf_plan ρ x1 x3 x4 x5) := by
  unfold sp_plan rf_plan
  simp only [rf_thr, ri_R, gt_p]
  by_cases c1 : okRange x4 0 6 = true
  · by_cases c2 : okRange x5 1 4 = true
    · obtain ⟨n, hn, rfl⟩ := n_n c1
      obtain ⟨w, hw, hw4, rfl⟩ := n_w c2
      simp only [c1, c2, if_true, if_false, thrv, not_true]
      rw [if_pos (show (if (0 : Int32) ≤ 0 then (0 : Int32) else 1) = 0 from by decide)]
      have hr := rel_thr h 0
      generalize hρ : su ρ 0 0 0 = ρ' at hr ⊢
      have e00 : ρ' 0 0 = 0 := by rw [← hρ]; exact su_same _ _ _ _
      have hpw := pl_pow (x4 := nI n) (x5 := nI w) (by rw [nI_clamp (by omega)])
      rw [nI_clamp (n := w) (by omega), nI_clamp (n := n) (by omega)] at hpw
      have hle := pl_le hw4 hn
      rw [nI_clamp (n := n) (by omega), hpw, nI_clamp (n := w ^ n) (by omega)]
      obtain ⟨b, l, ρ2, p1, p2, p3⟩ := rp_ind hw hw4 hn ρ x1 x3 (nI (w ^ n)) (σ 23) (w ^ n) 0 ρ' (-1) 1000000 (by omega)
      obtain ⟨ρ3, r1, r2, r3⟩ := r130 (w := w) hn ρ x1 x3 b l n 0 (su ρ2 0 20 (nI n)) (by omega)
      rw [p1, r1]
      unfold sp_make
      rw [nI_clamp (n := n) (by omega)]
      obtain ⟨σ2, m1, m2, m3, m4⟩ := mk_ind hw hw4 hn σ x1 x3 n 0 σ (by omega) h.2.1 (fun i hi => by omega)
      rw [m1]
      have s4 : psP w n (ldP x1) (laP x3 w) (su (su σ2 19 5 (nI n)) 19 6 2147483647) 0 0 := by
        refine ⟨rfl, fun i hi => (m4 i hi).1, fun i hi => (m4 i hi).2, fun i hi => by omega, fun v hv => ?_⟩
        show σ2 24 v = _
        rw [m2 24 (by decide) (by decide)]
        exact h.2.2.2.2.2.2.2.2.2.2.2.2.2 v hv
      obtain ⟨k1, k2, -⟩ := pf_main (show 0 < w by omega) hw4 hn (ld_le x1) (fun i => by unfold laP; omega) 6 0 0 _ (by omega) (by omega) s4 rfl
      have ez : nI (grP w (ldP x1) 0 0) = 0 := rfl
      rw [ez, show nI 0 = (0 : Int32) from rfl] at k1 k2
      rw [Nat.sub_zero, Nat.zero_mul] at k1
      have e23 : su (su σ2 19 5 (nI n)) 19 6 2147483647 23 = σ 23 := m2 23 (by decide) (by decide)
      rw [su_same, e23, lp_st hn (by omega) (ld_le x1), p3] at k1
      have kk : ∀ q, q ≠ 19 → q ≠ 20 → q ≠ 21 → q ≠ 22 → q ≠ 23 → q ≠ 24 → sp_putFrom 6 (su (su σ2 19 5 (nI n)) 19 6 2147483647) 0 0 q = σ q := by
        intro q a19 a20 a21 a22 a23 a24
        funext j
        rw [pf_keep a22 a23 a24 (fun z => a19 z.1), su_nq _ _ a19, su_nq _ _ a19, m2 q a20 a21]
      have k24 : sp_putFrom 6 (su (su σ2 19 5 (nI n)) 19 6 2147483647) 0 0 24 = σ 24 := by
        rw [k2]
        exact m2 24 (by decide) (by decide)
      have k195 : sp_putFrom 6 (su (su σ2 19 5 (nI n)) 19 6 2147483647) 0 0 19 5 = nI n := pf_keep (by decide) (by decide) (by decide) (by decide) _ _ _ _
      have kiv : IV (sp_putFrom 6 (su (su σ2 19 5 (nI n)) 19 6 2147483647) 0 0) := iv_pf (iv_su196 (iv_su195 m3 (by rw [nI_clamp (by omega)]) (by rw [nI_clamp (by omega)]; exact hn))) _ _ _
      generalize sp_putFrom 6 (su (su σ2 19 5 (nI n)) 19 6 2147483647) 0 0 = τ at k1 k2 kk k24 k195 kiv ⊢
      obtain ⟨k3, k4⟩ := Prod.mk.inj k1
      have f21 : ρ' 21 = σ 23 := hr.1.2.2.1.symm
      have rq : ∀ q, q ≠ 21 → q ≠ 22 → q ≠ 0 → ρ3 q = ρ' q := fun q a b c => by rw [r2 q a, su_nq _ _ c, p2 q b]
      have r0 : ∀ j, j ≠ 20 → ρ3 0 j = ρ' 0 j := fun j hj => by rw [r2 0 (by decide), su_ne _ _ (fun z => hj z.2), p2 0 (by decide)]
      have r020 : ρ3 0 20 = nI n := by rw [r2 0 (by decide), su_same]
      obtain ⟨g1, g2, g3, g4, g5, g6⟩ := hr.1
      have hir := hr.2.2.1
      refine so_ok ⟨⟨fun q hq => ?_, ?_, ?_, ?_, ?_, ?_⟩, kiv, ?_, ?_⟩ ((r0 0 (by decide)).trans e00) k3
      · have hne : q ≠ 19 ∧ q ≠ 20 ∧ q ≠ 21 ∧ q ≠ 22 ∧ q ≠ 23 ∧ q ≠ 24 ∧ q ≠ 0 := by revert q; decide
        obtain ⟨a, b, c, d, e, f, g⟩ := hne
        show τ q = ρ3 q
        rw [kk q a b c d e f, rq q c d g]
        exact g1 q hq
      · show τ 25 = ρ3 19
        rw [kk 25 (by decide) (by decide) (by decide) (by decide) (by decide) (by decide), rq 19 (by decide) (by decide) (by decide)]
        exact g2
      · show τ 23 = ρ3 21
        rw [k4]
        funext i
        rw [r3 i]
        unfold gbP
        by_cases c : i < n
        · rw [if_pos c, if_pos ⟨by omega, c⟩]
        · rw [if_neg c, if_neg (fun z => c z.2), su_nq _ _ (by decide), p2 21 (by decide), f21]
      · show τ 0 5 = ρ3 0 1
        rw [kk 0 (by decide) (by decide) (by decide) (by decide) (by decide) (by decide), r0 1 (by decide)]
        exact g4
      · show τ 7 11 = ρ3 0 7
        rw [kk 7 (by decide) (by decide) (by decide) (by decide) (by decide) (by decide), r0 7 (by decide)]
        exact g5
      · show τ 19 5 = ρ3 0 20
        rw [k195, r020]
      · obtain ⟨z1, z2, z3, z4, z5, z6⟩ := hir
        have zc : cntR ρ3 = cntR ρ' := by unfold cntR; rw [r0 7 (by decide)]
        have zp : plnR ρ3 = n := by unfold plnR; rw [r020, nI_clamp (by omega)]
        refine ⟨by rw [zc, r0 7 (by decide)]; exact z1, by rw [zc]; exact z2, by rw [rq 8 (by decide) (by decide) (by decide)]; exact z3, by rw [rq 10 (by decide) (by decide) (by decide)]; exact z4, by rw [zp]; exact r020, by rw [zp]; exact hn⟩
      · refine gi_q h.2.2.2 (fun q hq => ?_)
        by_cases e : q = 24
        · subst e
          exact k24
        · have hne : q ≠ 19 ∧ q ≠ 20 ∧ q ≠ 21 ∧ q ≠ 22 ∧ q ≠ 23 := by revert q; decide
          obtain ⟨a, b, c, d, f⟩ := hne
          exact kk q a b c d f e
    · simp only [c1, c2]
      exact so_err h (by first | decide | (simp [thrv]; decide)) (by decide)
  · simp only [c1]
    exact so_err h (by first | decide | (simp [thrv]; decide)) (by decide)
