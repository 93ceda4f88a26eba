/-! the law's own rows: its world, its calls -/
abbrev lA (s : State) : Nat → Prop := fun q => s.heap.size ≤ q
abbrev TY (cI cZ cL : ClassId) : List (ClassId × FieldType) := [(cI, .int), (cZ, .boolean), (cL, .long)]
abbrev LW (cI cZ cL : ClassId) (a : Nat → Nat) (o : Nat) (d : Nat → Nat) (σ : St) (g : Nat → Int64) (ρ : St) : va_W := ow cI cZ cL a o σ g ++ rw cI cZ d ρ
theorem kL {w : Cond} (h : w ∈ bigW) : w ∈ lw_tbl := (List.mem_filter.mp h).1
theorem gIL {w1 : Cond} (h1 : w1 ∈ bigW) : GoodIn lw_tbl (w1 :: bigW) := by
  intro w hw
  rcases List.mem_cons.mp hw with rfl | h
  · exact ⟨kL h1, gd_big h1⟩
  · exact ⟨kL h, gd_big h⟩
theorem gVL {w1 : Cond} {own C : String} {idx : Nat} {y : MethodName} (a : Cond.methodLink own idx y ∈ bigW) (b : Cond.instanceMethod y ∈ bigW) (c : Cond.selects C y y ∈ bigW) (d : Cond.initialized C ∈ bigW) (h1 : w1 ∈ bigW) : GoodIn lw_tbl (wsV own idx C y (w1 :: bigW)) := by
  intro w hw
  rcases List.mem_append.mp hw with h | h
  · simp only [List.mem_cons, List.not_mem_nil, or_false] at h
    rcases h with rfl | rfl | rfl | rfl
    · exact ⟨kL a, gd_big a⟩
    · exact ⟨kL b, gd_big b⟩
    · exact ⟨kL c, gd_big c⟩
    · exact ⟨kL d, gd_big d⟩
  · exact gIL h1 w h
theorem gSL {w1 : Cond} {own : String} {idx : Nat} {y : MethodName} (a : Cond.methodLink own idx y ∈ bigW) (b : Cond.static y ∈ bigW) (d : Cond.initialized y.cls ∈ bigW) (h1 : w1 ∈ bigW) : GoodIn lw_tbl (va_wsS own idx y (w1 :: bigW)) := by
  intro w hw
  rcases List.mem_append.mp hw with h | h
  · simp only [List.mem_cons, List.not_mem_nil, or_false] at h
    rcases h with rfl | rfl | rfl
    · exact ⟨kL a, gd_big a⟩
    · exact ⟨kL b, gd_big b⟩
    · exact ⟨kL d, gd_big d⟩
  · exact gIL h1 w h
theorem ps_pu {s : State} {H : Heap} {dC : Nat → ClassId} {dI : Nat → Nat → Nat} {cI cZ : ClassId} {a : Nat → Nat} {zk : Nat → Nat} {σ : St} {As : List Value} {A : Nat → Prop} {locs : List Loc} (hK : va_K (dC, dI) vwCl [(cI, .int), (cZ, .boolean)] s) (hP : va_P (dC, dI) vwCl (cw cI cZ a σ) H) (hD : va_D A (cw cI cZ a σ)) (hz : zz zk A s s.heap) (hS : va_S A s.heap H locs) (hF : ∀ q, va_A (cw cI cZ a σ) H.size q → A q) : PreS s H (pPu dC dI cI cZ a zk H.size σ As) As := by
  refine ⟨fun a U g mk h => ?_, fun U hU hW => ⟨rfl, by rw [hU], by rw [hU]; exact hP, va_K.moved hW.alike hK, hD.weaken (fun _ _ _ _ => trivial), ?_⟩⟩
  · obtain ⟨q0, q1, qP, qK, qD, qz⟩ := h
    exact ⟨q0, q1, qP, va_K.moved (u := U) (U := U.calling g mk a) (Vm.Alike.refl U.vm) qK, qD, qz.same rfl⟩
  · rw [hU]
    exact ((hz.kept hS.2.1).narrow hF).warm hW
theorem ps_ou {s : State} {H : Heap} {dC : Nat → ClassId} {dI : Nat → Nat → Nat} {cI cZ cL : ClassId} {a : Nat → Nat} {o : Nat} {zk : Nat → Nat} {σ : St} {g : Nat → Int64} {As : List Value} {A : Nat → Prop} {locs : List Loc} (hK : va_K (dC, dI) vwCl [(cI, .int), (cZ, .boolean), (cL, .long)] s) (hP : va_P (dC, dI) vwCl (ow cI cZ cL a o σ g) H) (hD : va_D A (ow cI cZ cL a o σ g)) (hz : zz zk A s s.heap) (hS : va_S A s.heap H locs) (hF : ∀ q, va_A (ow cI cZ cL a o σ g) H.size q → A q) : PreS s H (pOu dC dI cI cZ cL a o zk H.size σ g As) As := by
  refine ⟨fun a U g mk h => ?_, fun U hU hW => ⟨rfl, by rw [hU], by rw [hU]; exact hP, va_K.moved hW.alike hK, hD.weaken (fun _ _ _ _ => trivial), ?_⟩⟩
  · obtain ⟨q0, q1, qP, qK, qD, qz⟩ := h
    exact ⟨q0, q1, qP, va_K.moved (u := U) (U := U.calling g mk a) (Vm.Alike.refl U.vm) qK, qD, qz.same rfl⟩
  · rw [hU]
    exact ((hz.kept hS.2.1).narrow hF).warm hW
theorem ivx {i L k : Nat} {v : Int32} (hk : v = nI k ∧ k < 7) (hi : i + 7 ≤ L) (hL : L ≤ 3584) : vp_in (nI i + v) L := by
  rw [hk.1, nI_add]
  exact vp_in_nI (by omega) (by omega)
theorem lg_0 {x y : Int64} (h : x = y) : lg_cmp x y = 0 := by
  subst h
  simp [lg_cmp]
theorem rel_0 : Rel z0 z0 := by
  refine ⟨⟨fun _ _ => rfl, rfl, rfl, rfl, rfl, rfl⟩, ?_, ?_, ?_⟩
  · exact ⟨by decide, by decide, fun j _ => vp_lit 0 (by decide), fun j _ => vp_lit 0 (by decide), by decide, by decide, fun j _ => vp_lit 0 (by decide)⟩
  · exact ⟨by decide, by decide, fun j _ => vp_lit 0 (by decide), fun j _ => vp_lit 0 (by decide), by decide, by decide⟩
  · refine ⟨by decide, fun j => by show (0 : Int32) ≤ 0 ∧ (0 : Int32) ≤ 20000; decide, fun j => by show (0 : Int32) ≤ 0 ∧ (0 : Int32) ≤ 5000; decide, fun j => by show (0 : Int32) ≤ 0 ∧ (0 : Int32) ≤ 0; decide, fun j => Or.inr (by show (0 : Int32) ≤ 0 ∧ (0 : Int32) ≤ 0; decide), fun j => by show (0 : Int32) ≤ 0 ∧ (0 : Int32) ≤ 0; decide, fun j => by show (0 : Int32) ≤ 0 ∧ (0 : Int32) ≤ 2; decide, fun x hx t ht => by show (0 : Int32) ≤ 1; decide, fun x hx => absurd hx (by show ¬ x < 0; omega), fun x hx t ht => rfl, fun v hv => rfl⟩
