theorem ad_cl {σ : St} {c : Nat} (hc : σ 7 11 = nI c) (hc4 : c < 40) (x1 x2 x4 x5 x6 : Int32) : sp_add σ x1 x2 x4 x5 x6 = (σ 7 11, su (adS σ c x1 x2 x4 x5 x6) 7 11 (nI (c + 1))) := by
  unfold sp_add adS
  dsimp only
  rw [show sp_add_59 σ x1 x2 x4 x5 x6 = fun τ => sp_add_59 σ x1 x2 x4 x5 x6 τ from rfl]
  dsimp only
  rw [sp_add_59_s, sp_add_59_s, sp_add_59_s, sp_add_59_0]
  dsimp only
  rw [hc, nI_clamp (show c < 2 ^ 31 by omega)]
  simp only [Nat.zero_add, Nat.reduceAdd]
  rw [i3_a (t := 0) (by omega) (by omega), i3_a (t := 1) (by omega) (by omega), i3_a (t := 2) (by omega) (by omega)]
  refine congrArg (fun z => (nI c, su _ 7 11 z)) ?_
  rw [← nI_1]
  exact congrArg (· + (1 : Int32)) hc
theorem ad_rf {ρ : St} {c : Nat} (hc : ρ 0 7 = nI c) (hc4 : c < 40) (r : St) (x1 x2 x3 x4 x5 x6 : Int32) : rf_thing_221 r x1 x2 x3 x4 x5 x6 (su (su (su (su (su (su ρ 8 c x1) 9 c x2) 10 c x4) 11 c x5) 12 c x6) 13 c (-1)) 3 0 = (nI c, su (adS ρ c x1 x2 x4 x5 x6) 0 7 (nI (c + 1))) := by
  unfold adS
  generalize hτ : su (su (su (su (su (su ρ 8 c x1) 9 c x2) 10 c x4) 11 c x5) 12 c x6) 13 c (-1) = τ
  have e : τ 0 7 = nI c := by rw [← hτ]; exact hc
  clear hτ
  rw [show rf_thing_221 r x1 x2 x3 x4 x5 x6 τ 3 0 = rf_thing_221 r x1 x2 x3 x4 x5 x6 τ (0 + 1 + 1 + 1) 0 from rfl]
  rw [rf_thing_221_s, rf_thing_221_s, rf_thing_221_s, rf_thing_221_0]
  dsimp only
  have q : ∀ k v, su τ 16 k v 0 7 = nI c := fun k v => e
  have q2 : ∀ k v k2 v2, su (su τ 16 k v) 16 k2 v2 0 7 = nI c := fun k v k2 v2 => e
  have q3 : ∀ k v k2 v2 k3 v3, su (su (su τ 16 k v) 16 k2 v2) 16 k3 v3 0 7 = nI c := fun k v k2 v2 k3 v3 => e
  rw [q3, q2, q, e, i3_c, i3_c, i3_c]
  simp only [Nat.zero_add, Nat.reduceAdd]
  rw [i3_a (t := 0) (by omega) (by omega), i3_a (t := 1) (by omega) (by omega), i3_a (t := 2) (by omega) (by omega)]
  rw [nI_1, su_same, nI_pred]
theorem lt_c {c : Nat} (h : c ≤ 40) : (nI c < (40 : Int32)) ↔ ¬ nI c = (40 : Int32) := by
  have e : (nI c).toInt = c := nI_toInt (by omega)
  have : nI c ≤ 40 := nI_le (b := 40) (by omega) (by omega)
  clear e
  grind
theorem st_thing {σ ρ : St} (h : Rel σ ρ) (x1 x2 x3 x4 x5 x6 : Int32) : stO ["java/lang/IllegalArgumentException", "java/lang/IndexOutOfBoundsException", "java/lang/IllegalStateException", "java/lang/UnsupportedOperationException"] σ (sp_thing σ x1 x2 x3 x4 x5 x6) (rf_thing ρ x1 x2 x3 x4 x5 x6) := by
  have e0 : ρ 0 1 = σ 0 5 := h.1.2.2.2.1.symm
  have e7 : ρ 0 7 = σ 7 11 := h.1.2.2.2.2.1.symm
  have e9 : ρ 9 = σ 9 := eq_q h.1 (by decide)
  unfold sp_thing rf_thing rf_isSerial
  simp only [ri_R, rk_5, rk_10, rk_20, gt_p, e0, lt_eq]
  have a01 : ∀ P : Prop, ∀ _ : Decidable P, ∀ b : Int32, (if b = 0 then (if P then (0 : Int32) else 1) else 0) = 0 ∨ (if b = 0 then (if P then (0 : Int32) else 1) else 0) = 1 := by
    intro P _ b
    split
    · split
      · exact Or.inl rfl
      · exact Or.inr rfl
    · exact Or.inl rfl
  rw [hs_ind e9 _ _ _ _ _ _ _ _ _ _ _ (a01 _ _ _), cnt_eq h.1, rf_thing_88_0]
  simp only [rf_thr, e7]
  have hcc := iv_cnt h.2.1
  have hle := iv_le h.2.1
  have hs := hs_01 σ x2 (cntN σ) 0
  unfold sp_hasSerial
  generalize sp_hasSerial_2 σ x2 (cntN σ) 0 = s9 at hs ⊢
  by_cases c1 : okKnown x1 5 = true
  · by_cases c2 : okKnown x4 10 = true
    · by_cases c3 : okKnown x5 20 = true
      · by_cases c4 : okRange x2 0 999999 = true
        · by_cases c5 : okRange x6 0 (σ 0 5) = true
          · by_cases c6 : x3 = sp_checkLetter x2
            · have c6' : sp_checkLetter x2 = x3 := c6.symm
              simp only [c1, c2, c3, c4, c5, c6', if_true, if_false, not_true]
              rcases hs with rfl | rfl
              · simp only [if_true]
                by_cases c7 : σ 7 11 = 40
                · simp only [c7, if_true]
                  rw [if_neg (show ¬ (40 : Int32) < 40 from by decide)]
                  exact so_err h (by first | decide | (simp [thrv]; decide)) (by decide)
                · have c8 : σ 7 11 < 40 := by rw [hcc] at c7 ⊢; exact (lt_c hle).mpr c7
                  have c9 : cntN σ < 40 := by
                    rcases Nat.lt_or_ge (cntN σ) 40 with q | q
                    · exact q
                    · exact absurd (by rw [hcc, show cntN σ = 40 by omega]; decide) c7
                  simp only [c7, c8, if_true, if_false, thrv]
                  rw [if_pos (show (if (0 : Int32) ≤ 0 then (0 : Int32) else 1) = 0 from by decide), ad_cl hcc c9]
                  have hr := rel_thr h 0
                  generalize hρ : su ρ 0 0 0 = ρ' at hr ⊢
                  have e00 : ρ' 0 0 = 0 := by rw [← hρ]; exact su_same _ _ _ _
                  have e7' : ρ' 0 7 = nI (cntN σ) := by rw [← hcc]; exact hr.1.2.2.2.2.1.symm
                  have q1 : ∀ a b, su ρ' 8 a b 0 7 = nI (cntN σ) := fun _ _ => e7'
                  have q2 : ∀ a b c d, su (su ρ' 8 a b) 9 c d 0 7 = nI (cntN σ) := fun _ _ _ _ => e7'
                  have q3 : ∀ a b c d e f, su (su (su ρ' 8 a b) 9 c d) 10 e f 0 7 = nI (cntN σ) := fun _ _ _ _ _ _ => e7'
                  have q4 : ∀ a b c d e f g i, su (su (su (su ρ' 8 a b) 9 c d) 10 e f) 11 g i 0 7 = nI (cntN σ) := fun _ _ _ _ _ _ _ _ => e7'
                  have q5 : ∀ a b c d e f g i j k, su (su (su (su (su ρ' 8 a b) 9 c d) 10 e f) 11 g i) 12 j k 0 7 = nI (cntN σ) := fun _ _ _ _ _ _ _ _ _ _ => e7'
                  rw [q5, q4, q3, q2, q1, e7', nI_clamp (show cntN σ < 2 ^ 31 by omega), ad_rf e7' c9]
                  refine so_ok (rl_add hr rfl c9 (okK_in (n := 5) c1 (by decide) (by decide)) (okK_in (n := 10) c2 (by decide) (by decide)) (okR_in c5) rfl) ?_ hcc
                  exact e00
              · simp only [show ¬ (1 : Int32) = 0 from by decide, if_false]
                exact so_err h (by first | decide | (simp [thrv]; decide)) (by decide)
            · have c6' : ¬ sp_checkLetter x2 = x3 := fun q => c6 q.symm
              simp only [c1, c2, c3, c4, c5, c6, c6', if_true, if_false, not_true]
              exact so_err h (by first | decide | (simp [thrv]; decide)) (by decide)
          · simp only [c1, c2, c3, c4, c5]
            exact so_err h (by first | decide | (simp [thrv]; decide)) (by decide)
        · simp only [c1, c2, c3, c4]
          exact so_err h (by first | decide | (simp [thrv]; decide)) (by decide)
      · simp only [c1, c2, c3]
        exact so_err h (by first | decide | (simp [thrv]; decide)) (by decide)
    · simp only [c1, c2]
      exact so_err h (by first | decide | (simp [thrv]; decide)) (by decide)
  · simp only [c1]
    exact so_err h (by first | decide | (simp [thrv]; decide)) (by decide)
