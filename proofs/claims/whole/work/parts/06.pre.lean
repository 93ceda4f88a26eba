/-! pure rows ahead of the specs -/
def wtF (j : Nat) : Int32 := ([1, 3, 7, 1, 3, 7] : List Int32).getD j 0
theorem ht_6 : (6 : Int32) = nI 6 := by decide
theorem cd_gt {n d : Nat} (h : n + 1 ≤ d) (hd : d < 1000) : ¬ nI (n + 1 + 1) ≤ (1 : Int32) := by
  rw [show (1 : Int32) = nI 1 from by decide]
  exact nI_ge (by omega) (by omega)
theorem cd_n {x : Int32} {d : Nat} (h : x = nI (d + 1)) (hd : d < 1000) : x.toNatClampNeg - 1 = d := by
  rw [h, nI_clamp (by omega)]
  omega
theorem iv_su196 {σ : St} {v : Int32} (h : IV σ) : IV (su σ 19 6 v) := h
theorem iv_su195 {σ : St} {v : Int32} (h : IV σ) (hn : v = nI v.toNatClampNeg) (hn6 : v.toNatClampNeg ≤ 6) : IV (su σ 19 5 v) := ⟨h.1, h.2.1, h.2.2.1, h.2.2.2.1, hn, hn6, h.2.2.2.2.2.2⟩
theorem iv_su21 {σ : St} {k : Nat} {v : Int32} (h : IV σ) (hv : vp_in v 4) : IV (su σ 21 k v) := by
  refine ⟨h.1, h.2.1, h.2.2.1, h.2.2.2.1, h.2.2.2.2.1, h.2.2.2.2.2.1, fun j hj => ?_⟩
  by_cases hk : j = k
  · subst hk
    rw [su_same]
    exact hv
  · rw [su_ne σ v (fun q => hk q.2)]
    exact h.2.2.2.2.2.2 j hj
theorem mk_in {A y : Int32} (h : vp_in y 4) : vp_in (if y < (A &&& (3 : Int32)) then y else (A &&& (3 : Int32))) 4 := by
  split
  · exact h
  · exact pk_andIn A 2 (m := 3) (by decide) (by decide)
theorem okR_two {x lo hi : Int32} (h : okRange x lo hi = true) : ¬ x < lo ∧ x ≤ hi := by
  simpa only [okRange, Bool.and_eq_true, Bool.not_eq_true', decide_eq_false_iff_not, decide_eq_true_eq] using h
theorem okR_n {x : Int32} (h : okRange x (0 : Int32) (6 : Int32) = true) : x = nI x.toNatClampNeg ∧ x.toNatClampNeg ≤ 6 := by
  obtain ⟨h1, h2⟩ := okR_two h
  obtain ⟨j, hj, rfl⟩ := nI_of2 (M := 6) (n := 6) (by decide) h1 h2
  rw [nI_clamp (by omega)]
  exact ⟨rfl, hj⟩
theorem okR_w {x : Int32} (h : okRange x (1 : Int32) (4 : Int32) = true) : vp_in (x - (1 : Int32)) 4 := by
  obtain ⟨h1, h2⟩ := okR_two h
  have h0 : ¬ x < 0 := by
    intro q
    rw [Int32.lt_iff_toInt_lt] at q h1
    rw [show (0 : Int32).toInt = 0 from by decide] at q
    rw [show (1 : Int32).toInt = 1 from by decide] at h1
    omega
  obtain ⟨j, hj, rfl⟩ := nI_of2 (M := 4) (n := 4) (by decide) h0 h2
  rw [show (1 : Int32) = nI 1 from by decide] at h1 ⊢
  rw [nI_ltI (by omega) (by omega)] at h1
  rw [pk_sub (by omega)]
  exact vp_in_nI (by omega) (by omega)
theorem pf_tl {σ : St} {x : Int32} {t : Nat} (h : IV σ) (ht : x = nI t) (htp : t ≤ plnN σ) (c : x < σ 19 5) : t < plnN σ := by
  have h6 := iv_pl6 h
  rw [ht, iv_pln h, nI_ltI (by omega) (by omega)] at c
  exact c
theorem pf_x6 {σ : St} {x : Int32} {t : Nat} (h : IV σ) (ht : x = nI t) (htp : t ≤ plnN σ) (c : x < σ 19 5) : vp_in x 6 := by
  have h6 := iv_pl6 h
  have h7 := pf_tl h ht htp c
  rw [ht]
  exact vp_in_nI (by omega) (by omega)
theorem pf_nlt {σ : St} {x : Int32} {t : Nat} (h : IV σ) (ht : x = nI t) (htp : t ≤ plnN σ) (htd : plnN σ ≤ t + 0) : ¬ x < σ 19 5 := by
  intro c
  have := pf_tl h ht htp c
  omega
theorem pf_k4 {v : Int32} {k : Nat} (hv : vp_in v 4) (hk : k < 2 ^ 31) (c : ¬ v < nI k) : vp_in (nI k) 4 := by
  obtain ⟨j, hj, rfl⟩ := vp_in_of hv (by omega)
  rw [nI_ltI (by omega) hk] at c
  exact vp_in_nI (by omega) (by omega)
theorem pf_l5 {v : Int32} {k : Nat} (hv : vp_in v 4) (hk : k + 0 = 5) : v < nI k := by
  obtain ⟨j, hj, rfl⟩ := vp_in_of hv (by omega)
  exact nI_lt (by omega) (by omega)

