/-! the class's side of a plan -/
def psP (w n : Nat) (ld la : Nat → Nat) (σ : St) (t p : Nat) : Prop := σ 19 5 = nI n ∧ (∀ i, i < n → σ 20 i = nI (ld i)) ∧ (∀ i, i < n → σ 21 i = nI (la i)) ∧ (∀ i, i < t → σ 22 i = nI (p / w ^ (t - 1 - i) % w)) ∧ ∀ v, v < 4 → σ 24 v = nI (smP w ld t p v)
def poP (w n : Nat) (ld la : Nat → Nat) (σ τ : St) (t N c : Nat) : Prop := (τ 19 6, τ 23) = lpP w n ld la N c (σ 19 6, σ 23) ∧ τ 24 = σ 24 ∧ ∀ i, i < t → τ 22 i = σ 22 i
theorem kt_23 (s : St) (x : Int32) : ∀ (m k : Nat) (σ1 : St), k + m ≤ 100 → ∀ i, sp_keepTried_7 s x σ1 m k 23 i = if k ≤ i ∧ i < k + m then σ1 22 i else σ1 23 i := by
  intro m
  induction m with
  | zero => intro k σ1 _ i; exact (if_neg (by omega)).symm
  | succ m ih =>
    intro k σ1 hk i
    rw [sp_keepTried_7_s]
    dsimp only
    rw [nI_clamp (n := k) (by omega), ih _ _ (by omega)]
    by_cases e : i = k
    · subst e
      rw [if_neg (by omega), su_same, if_pos (by omega)]
    · rw [su_ne (q := 23) (q' := 23) _ _ (fun z => e z.2), su_ne (q := 23) (q' := 22) _ _ (fun z => absurd z.1 (by decide))]
      by_cases f : k + 1 ≤ i ∧ i < k + 1 + m
      · rw [if_pos f, if_pos (by omega)]
      · rw [if_neg f, if_neg (by omega)]
theorem kt_po {w n : Nat} {ld la : Nat → Nat} (hn : n ≤ 6) (hl : ∀ i, ld i ≤ 255) {σ : St} {p : Nat} (hs : psP w n ld la σ n p) (hv : vlP w la n p = true) (hg : nI (grP w ld n p) < σ 19 6) : poP w n ld la σ (sp_keepTried σ (nI (grP w ld n p))) n (w ^ (n - n)) (p * w ^ (n - n)) := by
  obtain ⟨s1, s2, s3, s4, s5⟩ := hs
  have hp : plnN σ = n := by unfold plnN; rw [s1, nI_clamp (by omega)]
  unfold sp_keepTried
  dsimp only
  rw [hp, Nat.sub_self, Nat.pow_zero, Nat.mul_one]
  refine ⟨?_, ?_, fun i _ => ?_⟩
  · rw [show lpP w n ld la 1 p (σ 19 6, σ 23) = stP w n ld la (σ 19 6, σ 23) p from rfl]
    unfold stP
    rw [if_pos ⟨hv, hg⟩]
    refine Prod.ext ?_ ?_
    · show sp_keepTried_7 _ _ _ _ _ 19 6 = _
      rw [kt_keep _ _ (by decide), su_same]
    · funext i
      show sp_keepTried_7 _ _ _ _ _ 23 i = _
      rw [kt_23 _ _ _ _ _ (by omega)]
      unfold sfP
      dsimp only
      by_cases f : i < n
      · rw [if_pos (by omega), if_pos f]
        exact s4 i f
      · rw [if_neg (by omega), if_neg f]
        rfl
  · funext v
    rw [kt_keep _ _ (by decide)]
    rfl
  · rw [kt_keep _ _ (by decide)]
    rfl
theorem pf_cut {w n : Nat} {ld la : Nat → Nat} (hw : 0 < w) {σ : St} {t p : Nat} (ht : t ≤ n) (hl : ∀ i, ld i ≤ 255) (hn : n ≤ 6) (hg : ¬ nI (grP w ld t p) < σ 19 6) : poP w n ld la σ σ t (w ^ (n - t)) (p * w ^ (n - t)) := by
  refine ⟨?_, rfl, fun _ _ => rfl⟩
  rw [lpP_id]
  intro d h1 h2 ⟨h3, h4⟩
  have e := dv_r hw h1 h2
  have m := grP_pre (w := w) (ld := ld) (n - t) t d
  rw [e, show t + (n - t) = n by omega] at m
  have b := grP_le (w := w) hl n d
  have : nI (grP w ld t p) ≤ nI (grP w ld n d) := nI_le m (by omega)
  dsimp only at h4
  grind
theorem ps_in {w n : Nat} {ld la : Nat → Nat} {σ : St} {t p k : Nat} (hs : psP w n ld la σ t p) (ht : t < n) (hk : k < w) (hw4 : w ≤ 4) : psP w n ld la (su (su σ 22 t (nI k)) 24 k (σ 24 k + nI (ld t))) (t + 1) (p * w + k) := by
  obtain ⟨s1, s2, s3, s4, s5⟩ := hs
  refine ⟨s1, s2, s3, fun i hi => ?_, fun v hv => ?_⟩
  · show su σ 22 t (nI k) 22 i = _
    by_cases e : i = t
    · subst e
      rw [su_same, show i + 1 - 1 - i = 0 by omega, Nat.pow_zero, Nat.div_one, dg_m hk]
    · rw [su_ne _ _ (fun z => e z.2), s4 i (by omega), show t + 1 - 1 - i = (t - 1 - i) + 1 by omega, ← pr_d, dg_d hk]
  · rw [smP_p hk]
    by_cases e : k = v
    · subst e
      rw [su_same, if_pos rfl, s5 k hv, nI_add]
    · rw [su_ne _ _ (fun z => e z.2.symm), if_neg e, Nat.add_zero]
      exact s5 v hv
theorem ps_eq {w n : Nat} {ld la : Nat → Nat} {σ τ : St} {t p : Nat} (hs : psP w n ld la σ t p) (h19 : τ 19 5 = σ 19 5) (h20 : τ 20 = σ 20) (h21 : τ 21 = σ 21) (h24 : τ 24 = σ 24) (h22 : ∀ i, i < t → τ 22 i = σ 22 i) : psP w n ld la τ t p := by
  obtain ⟨s1, s2, s3, s4, s5⟩ := hs
  exact ⟨h19.trans s1, by rw [h20]; exact s2, by rw [h21]; exact s3, fun i hi => (h22 i hi).trans (s4 i hi), by rw [h24]; exact s5⟩
theorem pf_lp {w n : Nat} {ld la : Nat → Nat} (hw : 0 < w) (hw4 : w ≤ 4) (hn : n ≤ 6) (hl : ∀ i, ld i ≤ 255) (hla : ∀ i, la i < w) {D t p : Nat} (ht : t < n) (hv : vlP w la t p = true)
    (ih : ∀ (σ : St) (q : Nat), psP w n ld la σ (t + 1) q → vlP w la (t + 1) q = true → poP w n ld la σ (sp_putFrom D σ (nI (t + 1)) (nI (grP w ld (t + 1) q))) (t + 1) (w ^ (n - (t + 1))) (q * w ^ (n - (t + 1)))) : ∀ (m k : Nat) (σ1 : St), k + m = 5 → k ≤ w → psP w n ld la σ1 t p → poP w n ld la σ1 (sp_putFrom_25 (sp_putFrom D) (nI t) (nI (grP w ld t p)) σ1 m k) t ((w - k) * w ^ (n - (t + 1))) ((p * w + k) * w ^ (n - (t + 1))) := by
  intro m
  induction m with
  | zero => intro k σ1 h1 h2 _; omega
  | succ m ihm =>
    intro k σ1 hkm hkw hs
    have hs' := hs
    obtain ⟨s1, s2, s3, s4, s5⟩ := hs'
    have gle := grP_le (w := w) hl t p
    have lat := hla t
    rw [sp_putFrom_25_s]
    dsimp only
    rw [nI_clamp (n := t) (by omega), nI_clamp (n := k) (by omega), s3 t ht]
    by_cases c : la t < k
    · rw [if_pos (nI_lt c (by omega))]
      refine ⟨?_, rfl, fun _ _ => rfl⟩
      rw [lpP_id]
      intro d h1 h2 ⟨h3, h4⟩
      have z := vlP_pre (w := w) (la := la) (n - (t + 1)) (t + 1) d (by rw [show t + 1 + (n - (t + 1)) = n by omega]; exact h3)
      have hp : 0 < w ^ (n - (t + 1)) := Nat.pow_pos hw
      have l1 : p * w + k ≤ d / w ^ (n - (t + 1)) := (Nat.le_div_iff_mul_le hp).mpr h1
      have l2 : d / w ^ (n - (t + 1)) < p * w + w := by
        rw [Nat.div_lt_iff_lt_mul hp]
        rw [← Nat.add_mul] at h2
        rw [show p * w + w = p * w + k + (w - k) by omega]
        exact h2
      have e : d / w ^ (n - (t + 1)) = p * w + (d / w ^ (n - (t + 1)) - p * w) := by omega
      rw [e, vlP_p (by omega), Bool.and_eq_true, decide_eq_true_eq] at z
      omega
    · have hk : k < w := by omega
      rw [if_neg (nI_nlt (by omega) (by omega))]
      have hs7 := ps_in hs ht hk hw4
      have e24 : su σ1 22 t (nI k) 24 = σ1 24 := rfl
      have e20 : su σ1 22 t (nI k) 20 = σ1 20 := rfl
      rw [e24, e20, s2 t ht]
      generalize h7 : su (su σ1 22 t (nI k)) 24 k (σ1 24 k + nI (ld t)) = σ7 at hs7 ⊢
      have g7 : σ7 24 k = nI (smP w ld (t + 1) (p * w + k) k) := hs7.2.2.2.2 k (by omega)
      have sle := smP_le (w := w) hl k (t + 1) (p * w + k)
      have hx : (if nI (grP w ld t p) < σ7 24 k then σ7 24 k else nI (grP w ld t p)) = nI (grP w ld (t + 1) (p * w + k)) := by
        rw [g7, grP_p hk hw4]
        by_cases f : grP w ld t p < smP w ld (t + 1) (p * w + k) k
        · rw [if_pos (nI_lt f (by omega)), Nat.max_eq_right (by omega)]
        · rw [if_neg (nI_nlt (by omega) (by omega)), Nat.max_eq_left (by omega)]
      rw [hx, nI_1]
      have v7 : vlP w la (t + 1) (p * w + k) = true := by rw [vlP_p hk, hv]; simp; omega
      obtain ⟨i1, i2, i3⟩ := ih σ7 (p * w + k) hs7 v7
      have k20 : sp_putFrom D σ7 (nI (t + 1)) (nI (grP w ld (t + 1) (p * w + k))) 20 = σ7 20 := by
        funext j
        exact pf_keep (by decide) (by decide) (by decide) (fun q => absurd q.1 (by decide)) _ _ _ _
      have k21 : sp_putFrom D σ7 (nI (t + 1)) (nI (grP w ld (t + 1) (p * w + k))) 21 = σ7 21 := by
        funext j
        exact pf_keep (by decide) (by decide) (by decide) (fun q => absurd q.1 (by decide)) _ _ _ _
      have k19 : sp_putFrom D σ7 (nI (t + 1)) (nI (grP w ld (t + 1) (p * w + k))) 19 5 = σ7 19 5 := pf_keep (by decide) (by decide) (by decide) (by decide) _ _ _ _
      generalize sp_putFrom D σ7 (nI (t + 1)) (nI (grP w ld (t + 1) (p * w + k))) = τ1 at i1 i2 i3 k20 k21 k19 ⊢
      have b24 : su τ1 24 k (τ1 24 k - τ1 20 t) 24 = σ1 24 := by
        funext v
        rw [k20, i2, ← h7]
        by_cases e : v = k
        · subst e
          rw [su_same, su_same, show su (su σ1 22 t (nI v)) 24 v (σ1 24 v + nI (ld t)) 20 t = σ1 20 t from rfl, s2 t ht]
          grind
        · rw [su_ne _ _ (fun z => e z.2), i2, ← h7, su_ne _ _ (fun z => e z.2)]
          rfl
      have b22 : ∀ i, i < t → su τ1 24 k (τ1 24 k - τ1 20 t) 22 i = σ1 22 i := by
        intro i hi
        show τ1 22 i = σ1 22 i
        rw [i3 i (by omega), ← h7]
        show su σ1 22 t (nI k) 22 i = σ1 22 i
        exact su_ne _ _ (fun z => by omega)
      have hs10 : psP w n ld la (su τ1 24 k (τ1 24 k - τ1 20 t)) t p := ps_eq hs (by show τ1 19 5 = _; rw [k19, ← h7]; rfl) (by show τ1 20 = _; rw [k20, ← h7]; rfl) (by show τ1 21 = _; rw [k21, ← h7]; rfl) b24 b22
      obtain ⟨j1, j2, j3⟩ := ihm (k + 1) (su τ1 24 k (τ1 24 k - τ1 20 t)) (by omega) (by omega) hs10
      refine ⟨?_, j2.trans b24, fun i hi => (j3 i hi).trans (b22 i hi)⟩
      rw [j1]
      rw [show (w - k) * w ^ (n - (t + 1)) = w ^ (n - (t + 1)) + (w - (k + 1)) * w ^ (n - (t + 1)) by rw [show w - k = 1 + (w - (k + 1)) by omega, Nat.add_mul, Nat.one_mul], lpP_add]
      rw [show (p * w + k) * w ^ (n - (t + 1)) + w ^ (n - (t + 1)) = (p * w + (k + 1)) * w ^ (n - (t + 1)) by rw [← Nat.add_assoc, Nat.succ_mul]]
      refine congrArg _ ?_
      show (τ1 19 6, τ1 23) = _
      rw [i1, ← h7]
      rfl
theorem pf_main {w n : Nat} {ld la : Nat → Nat} (hw : 0 < w) (hw4 : w ≤ 4) (hn : n ≤ 6) (hl : ∀ i, ld i ≤ 255) (hla : ∀ i, la i < w) : ∀ (D t p : Nat) (σ : St), t ≤ n → n ≤ t + D → psP w n ld la σ t p → vlP w la t p = true → poP w n ld la σ (sp_putFrom D σ (nI t) (nI (grP w ld t p))) t (w ^ (n - t)) (p * w ^ (n - t)) := by
  intro D
  induction D with
  | zero =>
    intro t p σ h1 h2 hs hv
    have e : t = n := by omega
    subst e
    rw [sp_putFrom_0]
    by_cases c : nI (grP w ld t p) < σ 19 6
    · rw [if_pos c]
      exact kt_po hn hl hs hv c
    · rw [if_neg c]
      exact pf_cut hw h1 hl hn c
  | succ D ih =>
    intro t p σ h1 h2 hs hv
    rw [sp_putFrom_s]
    by_cases c : nI (grP w ld t p) < σ 19 6
    · rw [if_pos c]
      by_cases d : t < n
      · rw [hs.1, if_pos (nI_lt d (by omega))]
        have q := pf_lp hw hw4 hn hl hla d hv (fun σ' q a b => ih (t + 1) q σ' (by omega) (by omega) a b) 5 0 σ (by omega) (by omega) hs
        rw [Nat.sub_zero, show (p * w + 0) * w ^ (n - (t + 1)) = p * (w * w ^ (n - (t + 1))) from Nat.mul_assoc _ _ _, Nat.mul_comm w, ← Nat.pow_succ, show (n - (t + 1)).succ = n - t by omega] at q
        exact q
      · have e : t = n := by omega
        subst e
        rw [hs.1, if_neg (nI_nlt (by omega) (by omega))]
        exact kt_po hn hl hs hv c
    · rw [if_neg c]
      exact pf_cut hw h1 hl hn c
