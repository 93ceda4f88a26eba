abbrev ow (cI cZ cL : ClassId) (a : Nat → Nat) (o : Nat) (σ : St) (g : Nat → Int64) : va_W := cw cI cZ a σ ++ [(o, .inl (cL, 1, .inr (.inl g)))]
abbrev pOu (dC : Nat → ClassId) (dI : Nat → Nat → Nat) (cI cZ cL : ClassId) (a : Nat → Nat) (o : Nat) (zk : Nat → Nat) (sz : Nat) (σ : St) (g : Nat → Int64) (av : List Value) : Array Value → State → Prop := va_Pc av (fun U => U.heap.size = sz ∧ va_P (dC, dI) vwCl (ow cI cZ cL a o σ g) U.heap ∧ va_K (dC, dI) vwCl [(cI, .int), (cZ, .boolean), (cL, .long)] U ∧ va_D (fun _ => True) (ow cI cZ cL a o σ g) ∧ zz zk (va_A (ow cI cZ cL a o σ g) sz) U U.heap)
abbrev bOu (dC : Nat → ClassId) (dI : Nat → Nat → Nat) (cI cZ cL : ClassId) (a : Nat → Nat) (o : Nat) (A : Nat → Prop) (u : St × (Nat → Int64)) (t : State) : Prop := va_P (dC, dI) vwCl (ow cI cZ cL a o u.1 u.2) t.heap ∧ va_K (dC, dI) vwCl [(cI, .int), (cZ, .boolean), (cL, .long)] t ∧ va_D A (ow cI cZ cL a o u.1 u.2)
def ec (L : List String) (E : String) : Int32 := nI (L.idxOf E + 1)
def wv (L : List String) (σ : St) (x : Except String (Int32 × St)) : Int32 × St := match x with
  | .ok q => (0, q.2)
  | .error E => (ec L E, σ)
def wo (L : List String) (σ : St) (g : Nat → Int64) (x : Except String (Int32 × St)) : Int32 × (St × (Nat → Int64)) := match x with
  | .ok q => (0, (q.2, vp_updL g 0 q.1.toInt64))
  | .error E => (ec L E, (σ, g))
theorem pv_pu {s : State} {H : Heap} {dC : Nat → ClassId} {dI : Nat → Nat → Nat} {cI cZ : ClassId} {a : Nat → Nat} {zk : Nat → Nat} {σ : St} {b q0 ci : Nat} {q : vw_C} {fs : List Value} {As : List Value} {A : Nat → Prop} {locs : List Loc} (hK : va_K (dC, dI) vwCl [(cI, .int), (cZ, .boolean)] s) (hP : va_P (dC, dI) vwCl (cw cI cZ a σ) H) (hD : va_D A (cw cI cZ a σ)) (hz : zz zk A s s.heap) (hS : va_S A s.heap H locs) (hF : ∀ q, va_A (cw cI cZ a σ) H.size q → A q) (hc : vwCl[ci]? = some q) (he : (cw cI cZ a σ)[q0]? = some (b, .inr (ci, fs))) : PreV s H q.1 b (pPu dC dI cI cZ a zk H.size σ (.ref b :: As)) As := by
  refine ⟨fun a U g mk h => ?_, va_recv hK hP hc he, fun U hU hW => ⟨rfl, by rw [hU], by rw [hU]; exact hP, va_K.moved hW.alike hK, hD.weaken (fun _ _ _ _ => trivial), ?_⟩⟩
  · obtain ⟨q0, q1, qP, qK, qD, qz⟩ := h
    exact ⟨q0, q1, qP, va_K.moved (u := U) (U := U.calling g mk a) (Vm.Alike.refl U.vm) qK, qD, qz.same rfl⟩
  · rw [hU]
    exact ((hz.kept hS.2.1).narrow hF).warm hW
theorem sn_ok (σ : St) (x1 x2 x3 : Int32) : ∀ (n k : Nat) (σ1 : St) (E : String), ¬ sp_soon_35 σ x1 x2 x3 σ1 n k = .error E := by
  intro n
  induction n with
  | zero => intro k σ1 E h; rw [sp_soon_35_0] at h; cases h
  | succ n ih =>
    intro k σ1 E h
    rw [sp_soon_35_s] at h
    split at h
    · exact ih _ _ _ h
    · split at h
      · cases h
      · exact ih _ _ _ h
theorem er_day {σ : St} {x1 : Int32} {E : String} (h : sp_day σ x1 = .error E) : E = "java/lang/IndexOutOfBoundsException" := by
  unfold sp_day at h
  repeat' split at h
  all_goals first | exact absurd h (sn_ok _ _ _ _ _ _ _ _) | (injection h with h; subst h; simp; done) | (exfalso; injection h; done) | (exfalso; dsimp only at h; injection h; done)
theorem er_age {σ : St} {x1 : Int32} {x2 : Int32} {E : String} (h : sp_age σ x1 x2 = .error E) : E = "java/lang/IllegalArgumentException" ∨ E = "java/lang/IndexOutOfBoundsException" := by
  unfold sp_age at h
  repeat' split at h
  all_goals first | exact absurd h (sn_ok _ _ _ _ _ _ _ _) | (injection h with h; subst h; simp; done) | (exfalso; injection h; done) | (exfalso; dsimp only at h; injection h; done)
theorem er_test {σ : St} {x1 : Int32} {x2 : Int32} {x3 : Int32} {x4 : Int32} {E : String} (h : sp_test σ x1 x2 x3 x4 = .error E) : E = "java/lang/IllegalArgumentException" ∨ E = "java/lang/IndexOutOfBoundsException" := by
  unfold sp_test at h
  repeat' split at h
  all_goals first | exact absurd h (sn_ok _ _ _ _ _ _ _ _) | (injection h with h; subst h; simp; done) | (exfalso; injection h; done) | (exfalso; dsimp only at h; injection h; done)
theorem er_bounds {σ : St} {x1 : Int32} {x2 : Int32} {x3 : Int32} {x4 : Int32} {E : String} (h : sp_bounds σ x1 x2 x3 x4 = .error E) : E = "java/lang/IllegalArgumentException" ∨ E = "java/lang/IndexOutOfBoundsException" := by
  unfold sp_bounds at h
  repeat' split at h
  all_goals first | exact absurd h (sn_ok _ _ _ _ _ _ _ _) | (injection h with h; subst h; simp; done) | (exfalso; injection h; done) | (exfalso; dsimp only at h; injection h; done)
theorem er_thing {σ : St} {x1 : Int32} {x2 : Int32} {x3 : Int32} {x4 : Int32} {x5 : Int32} {x6 : Int32} {E : String} (h : sp_thing σ x1 x2 x3 x4 x5 x6 = .error E) : E = "java/lang/IllegalArgumentException" ∨ E = "java/lang/IndexOutOfBoundsException" ∨ E = "java/lang/IllegalStateException" ∨ E = "java/lang/UnsupportedOperationException" := by
  unfold sp_thing at h
  repeat' split at h
  all_goals first | exact absurd h (sn_ok _ _ _ _ _ _ _ _) | (injection h with h; subst h; simp; done) | (exfalso; injection h; done) | (exfalso; dsimp only at h; injection h; done)
theorem er_letter {σ : St} {x1 : Int32} {E : String} (h : sp_letter σ x1 = .error E) : E = "java/lang/IndexOutOfBoundsException" := by
  unfold sp_letter at h
  repeat' split at h
  all_goals first | exact absurd h (sn_ok _ _ _ _ _ _ _ _) | (injection h with h; subst h; simp; done) | (exfalso; injection h; done) | (exfalso; dsimp only at h; injection h; done)
theorem er_use {σ : St} {x1 : Int32} {E : String} (h : sp_use σ x1 = .error E) : E = "java/lang/IllegalArgumentException" ∨ E = "java/lang/IllegalStateException" := by
  unfold sp_use at h
  repeat' split at h
  all_goals first | exact absurd h (sn_ok _ _ _ _ _ _ _ _) | (injection h with h; subst h; simp; done) | (exfalso; injection h; done) | (exfalso; dsimp only at h; injection h; done)
theorem er_wash {σ : St} {x1 : Int32} {x2 : Int32} {E : String} (h : sp_wash σ x1 x2 = .error E) : E = "java/lang/IllegalArgumentException" ∨ E = "java/lang/IllegalStateException" := by
  unfold sp_wash at h
  repeat' split at h
  all_goals first | exact absurd h (sn_ok _ _ _ _ _ _ _ _) | (injection h with h; subst h; simp; done) | (exfalso; injection h; done) | (exfalso; dsimp only at h; injection h; done)
theorem er_result {σ : St} {x1 : Int32} {x2 : Int32} {x3 : Int32} {E : String} (h : sp_result σ x1 x2 x3 = .error E) : E = "java/lang/IllegalArgumentException" ∨ E = "java/lang/IndexOutOfBoundsException" ∨ E = "java/lang/IllegalStateException" := by
  unfold sp_result at h
  repeat' split at h
  all_goals first | exact absurd h (sn_ok _ _ _ _ _ _ _ _) | (injection h with h; subst h; simp; done) | (exfalso; injection h; done) | (exfalso; dsimp only at h; injection h; done)
theorem er_load {σ : St} {x1 : Int32} {x2 : Int32} {E : String} (h : sp_load σ x1 x2 = .error E) : E = "java/lang/IllegalArgumentException" ∨ E = "java/lang/IllegalStateException" := by
  unfold sp_load at h
  repeat' split at h
  all_goals first | exact absurd h (sn_ok _ _ _ _ _ _ _ _) | (injection h with h; subst h; simp; done) | (exfalso; injection h; done) | (exfalso; dsimp only at h; injection h; done)
theorem er_recall {σ : St} {x1 : Int32} {x2 : Int32} {E : String} (h : sp_recall σ x1 x2 = .error E) : E = "java/lang/IllegalArgumentException" ∨ E = "java/lang/IllegalStateException" := by
  unfold sp_recall at h
  repeat' split at h
  all_goals first | exact absurd h (sn_ok _ _ _ _ _ _ _ _) | (injection h with h; subst h; simp; done) | (exfalso; injection h; done) | (exfalso; dsimp only at h; injection h; done)
theorem er_recalled {σ : St} {x1 : Int32} {x2 : Int32} {E : String} (h : sp_recalled σ x1 x2 = .error E) : E = "java/lang/IllegalArgumentException" ∨ E = "java/lang/IndexOutOfBoundsException" := by
  unfold sp_recalled at h
  repeat' split at h
  all_goals first | exact absurd h (sn_ok _ _ _ _ _ _ _ _) | (injection h with h; subst h; simp; done) | (exfalso; injection h; done) | (exfalso; dsimp only at h; injection h; done)
theorem er_barred {σ : St} {x1 : Int32} {E : String} (h : sp_barred σ x1 = .error E) : E = "java/lang/IllegalArgumentException" := by
  unfold sp_barred at h
  repeat' split at h
  all_goals first | exact absurd h (sn_ok _ _ _ _ _ _ _ _) | (injection h with h; subst h; simp; done) | (exfalso; injection h; done) | (exfalso; dsimp only at h; injection h; done)
theorem er_ends {σ : St} {x1 : Int32} {E : String} (h : sp_ends σ x1 = .error E) : E = "java/lang/IllegalArgumentException" := by
  unfold sp_ends at h
  repeat' split at h
  all_goals first | exact absurd h (sn_ok _ _ _ _ _ _ _ _) | (injection h with h; subst h; simp; done) | (exfalso; injection h; done) | (exfalso; dsimp only at h; injection h; done)
theorem er_soon {σ : St} {x1 : Int32} {x2 : Int32} {x3 : Int32} {E : String} (h : sp_soon σ x1 x2 x3 = .error E) : E = "java/lang/IllegalArgumentException" ∨ E = "java/lang/IndexOutOfBoundsException" := by
  unfold sp_soon at h
  repeat' split at h
  all_goals first | exact absurd h (sn_ok _ _ _ _ _ _ _ _) | (injection h with h; subst h; simp; done) | (exfalso; injection h; done) | (exfalso; dsimp only at h; injection h; done)
theorem er_thingAt {σ : St} {x1 : Int32} {x2 : Int32} {E : String} (h : sp_thingAt σ x1 x2 = .error E) : E = "java/lang/IllegalArgumentException" := by
  unfold sp_thingAt at h
  by_cases c : okKnown x1 (σ 7 11) = true
  · rw [if_pos c] at h
    by_cases c0 : x2 = (0 : Int32)
    · rw [if_pos c0] at h
      cases h
    rw [if_neg c0] at h
    by_cases c1 : x2 = (1 : Int32)
    · rw [if_pos c1] at h
      cases h
    rw [if_neg c1] at h
    by_cases c2 : x2 = (2 : Int32)
    · rw [if_pos c2] at h
      cases h
    rw [if_neg c2] at h
    by_cases c3 : x2 = (3 : Int32)
    · rw [if_pos c3] at h
      split at h <;> cases h
    rw [if_neg c3] at h
    by_cases c4 : x2 = (4 : Int32)
    · rw [if_pos c4] at h
      cases h
    rw [if_neg c4] at h
    by_cases c5 : x2 = (5 : Int32)
    · rw [if_pos c5] at h
      cases h
    rw [if_neg c5] at h
    by_cases c6 : x2 = (6 : Int32)
    · rw [if_pos c6] at h
      cases h
    rw [if_neg c6] at h
    by_cases c7 : x2 = (7 : Int32)
    · rw [if_pos c7] at h
      cases h
    rw [if_neg c7] at h
    by_cases c8 : x2 = (8 : Int32)
    · rw [if_pos c8] at h
      cases h
    rw [if_neg c8] at h
    by_cases c9 : x2 = (9 : Int32)
    · rw [if_pos c9] at h
      cases h
    rw [if_neg c9] at h
    by_cases c10 : x2 = (10 : Int32)
    · rw [if_pos c10] at h
      cases h
    rw [if_neg c10] at h
    injection h with h
    exact h.symm
  · rw [if_neg c] at h
    injection h with h
    exact h.symm
theorem er_life {σ : St} {x1 : Int32} {x2 : Int32} {E : String} (h : sp_life σ x1 x2 = .error E) : E = "java/lang/IllegalArgumentException" ∨ E = "java/lang/ArithmeticException" := by
  unfold sp_life at h
  repeat' split at h
  all_goals first | exact absurd h (sn_ok _ _ _ _ _ _ _ _) | (injection h with h; subst h; simp; done) | (exfalso; injection h; done) | (exfalso; dsimp only at h; injection h; done)
theorem er_plan {σ : St} {x1 : Int64} {x3 : Int32} {x4 : Int32} {x5 : Int32} {E : String} (h : sp_plan σ x1 x3 x4 x5 = .error E) : E = "java/lang/IndexOutOfBoundsException" := by
  unfold sp_plan at h
  repeat' split at h
  all_goals first | exact absurd h (sn_ok _ _ _ _ _ _ _ _) | (injection h with h; subst h; simp; done) | (exfalso; injection h; done) | (exfalso; dsimp only at h; injection h; done)
theorem er_week {σ : St} {x1 : Int32} {E : String} (h : sp_week σ x1 = .error E) : E = "java/lang/IllegalArgumentException" := by
  unfold sp_week at h
  repeat' split at h
  all_goals first | exact absurd h (sn_ok _ _ _ _ _ _ _ _) | (injection h with h; subst h; simp; done) | (exfalso; injection h; done) | (exfalso; dsimp only at h; injection h; done)
