theorem du_end {σ ρ : St} (h : Rel σ ρ) (x y : Int32) : (if ρ 4 ((3 : Int32) * ρ 8 x.toNatClampNeg + y).toNatClampNeg ≤ 0 then (if ρ 3 ((3 : Int32) * ρ 8 x.toNatClampNeg + y).toNatClampNeg ≤ 0 then (1000000 : Int32) else ρ 16 ((3 : Int32) * x + y).toNatClampNeg + ρ 3 ((3 : Int32) * ρ 8 x.toNatClampNeg + y).toNatClampNeg) else (if ρ 17 ((3 : Int32) * x + y).toNatClampNeg < ρ 4 ((3 : Int32) * ρ 8 x.toNatClampNeg + y).toNatClampNeg then (if ρ 3 ((3 : Int32) * ρ 8 x.toNatClampNeg + y).toNatClampNeg ≤ 0 then (1000000 : Int32) else ρ 16 ((3 : Int32) * x + y).toNatClampNeg + ρ 3 ((3 : Int32) * ρ 8 x.toNatClampNeg + y).toNatClampNeg) else ρ 0 1)) = (if sp_dueFrom σ x y = 2147483647 then 1000000 else sp_dueFrom σ x y) := by
  have e0 : ρ 0 1 = σ 0 5 := h.1.2.2.2.1.symm
  have e3 : ρ 3 = σ 3 := eq_q h.1 (by decide)
  have e4 : ρ 4 = σ 4 := eq_q h.1 (by decide)
  have e8 : ρ 8 = σ 8 := eq_q h.1 (by decide)
  have e16 : ρ 16 = σ 16 := eq_q h.1 (by decide)
  have e17 : ρ 17 = σ 17 := eq_q h.1 (by decide)
  have a0 := h.2.2.2.1
  have a1 := h.2.2.2.2.2.1 ((σ 8 x.toNatClampNeg * 3 + y).toNatClampNeg)
  have a2 := h.2.2.2.2.2.2.2.2.1 ((x * 3 + y).toNatClampNeg)
  unfold sp_dueFrom
  simp only [i3_c, e0, e3, e4, e8, e16, e17]
  generalize σ 3 ((σ 8 x.toNatClampNeg * 3 + y).toNatClampNeg) = d at *
  generalize σ 16 ((x * 3 + y).toNatClampNeg) = la at *
  generalize σ 4 ((σ 8 x.toNatClampNeg * 3 + y).toNatClampNeg) = u at *
  generalize σ 17 ((x * 3 + y).toNatClampNeg) = n at *
  generalize σ 0 5 = t at *
  clear e0 e3 e4 e8 e16 e17 h
  obtain ⟨b1, b2, b3, b4⟩ := sb_iff a0 a2 (d := d) ⟨a1.1, by grind⟩
  have b5 : la + d ≤ 104999 := by grind
  clear b1
  generalize la + d = m at *
  have f : (if d ≤ 0 then (1000000 : Int32) else m) = if d = 0 then 1000000 else m := by grind
  rw [f]
  clear f
  split
  · split <;> grind
  · split
    · split <;> grind
    · grind
def ncv (c : Int32) : Int32 := if c = 2147483647 then 1000000 else c
theorem mn_nc {a b : Int32} (ha : a = 2147483647 ∨ (0 ≤ a ∧ a ≤ 119999)) (hb : b = 2147483647 ∨ (0 ≤ b ∧ b ≤ 119999)) : (if ncv a ≤ ncv b then ncv a else ncv b) = ncv (if a ≤ b then a else b) ∧ ((if a ≤ b then a else b) = 2147483647 ∨ (0 ≤ (if a ≤ b then a else b) ∧ (if a ≤ b then a else b) ≤ 119999)) := by
  unfold ncv
  grind
theorem mn_4 (d0 d1 d2 d3 : Int32) (h0 : d0 ≤ 2147483647) : (let s := (let a := if d0 < 2147483647 then d0 else 2147483647; let b := if d1 < a then d1 else a; if d2 < b then d2 else b); if s < d3 then s else d3) = (let e := if d3 ≤ d0 then d3 else d0; let f := if e ≤ d1 then e else d1; if f ≤ d2 then f else d2) := by
  dsimp only
  grind
theorem en_ind {σ ρ : St} (h : Rel σ ρ) (x : Int32) (n k : Nat) (a : Int32) : rf_endOf_52 ρ x (n + 1) k a = rf_endOf_52 ρ x n (k + 1) (if a ≤ (if sp_dueFrom σ x (nI k) = 2147483647 then 1000000 else sp_dueFrom σ x (nI k)) then a else (if sp_dueFrom σ x (nI k) = 2147483647 then 1000000 else sp_dueFrom σ x (nI k))) := by
  rw [rf_endOf_52_s, ← du_end h x (nI k)]
theorem en_rel {σ ρ : St} (h : Rel σ ρ) (x : Int32) : (rf_endOf ρ x = 1000000 ∧ sp_endOf σ x = -1) ∨ (rf_endOf ρ x = sp_endOf σ x ∧ σ 0 5 ≤ sp_endOf σ x ∧ sp_endOf σ x ≤ 119999) := by
  have e13 : ρ 13 = σ 13 := eq_q h.1 (by decide)
  have e0 : ρ 0 1 = σ 0 5 := h.1.2.2.2.1.symm
  obtain ⟨o1, -, o3⟩ := od_rel h x
  have b0 := (du_rel h x (nI 0)).1
  have b1 := (du_rel h x (nI 1)).1
  have b2 := (du_rel h x (nI 2)).1
  have a0 := h.2.2.2.1
  unfold rf_endOf sp_endOf sp_isScrapped
  rw [e13]
  rcases sc_lt h.2.2.2 x.toNatClampNeg with ⟨c2, c3, c4⟩ | ⟨c2, c3, c4⟩
  · rw [if_pos c3, if_pos c2, if_pos rfl]
    dsimp only
    rw [o3, show rf_endOf_52 ρ x 3 0 = rf_endOf_52 ρ x (2 + 1) 0 from rfl, en_ind h, en_ind h, en_ind h, rf_endOf_52_0, sd_eq, e0]
    dsimp only
    rw [show (0 : Int32) = nI 0 from rfl, show (1 : Int32) = nI 1 from rfl, show (2 : Int32) = nI 2 from rfl]
    simp only [Nat.zero_add, Nat.reduceAdd]
    clear o3 e13 e0 h c2 c3 c4
    generalize sp_dueFrom σ x (nI 0) = d0 at *
    generalize sp_dueFrom σ x (nI 1) = d1 at *
    generalize sp_dueFrom σ x (nI 2) = d2 at *
    generalize sp_oldFrom σ x = d3 at *
    generalize σ 0 5 = t at *
    have b0 : d0 = 2147483647 ∨ (0 ≤ d0 ∧ d0 ≤ 119999) := by grind
    have b1 : d1 = 2147483647 ∨ (0 ≤ d1 ∧ d1 ≤ 119999) := by grind
    have b2 : d2 = 2147483647 ∨ (0 ≤ d2 ∧ d2 ≤ 119999) := by grind
    have m := mn_4 d0 d1 d2 d3 (by grind)
    dsimp only at m
    rw [m]
    have n0 := mn_nc o1 b0
    have n1 := mn_nc n0.2 b1
    have n2 := mn_nc n1.2 b2
    have f : ∀ z : Int32, (if z = 2147483647 then (1000000 : Int32) else z) = ncv z := fun _ => rfl
    simp only [f]
    rw [n0.1, n1.1, n2.1]
    have n := n2.2
    clear m n0 n1 n2 b0 b1 b2 o1
    generalize (if (if (if d3 ≤ d0 then d3 else d0) ≤ d1 then (if d3 ≤ d0 then d3 else d0) else d1) ≤ d2 then (if (if d3 ≤ d0 then d3 else d0) ≤ d1 then (if d3 ≤ d0 then d3 else d0) else d1) else d2) = z at *
    unfold ncv
    grind
  · rw [if_neg c3, if_neg c2]
    exact Or.inl ⟨rfl, if_neg (by decide)⟩
