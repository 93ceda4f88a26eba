set_option maxHeartbeats 4000000 in
set_option maxRecDepth 100000 in
theorem m_L_day (l : Launch) (hl9 : l.stackTraces = false) (dC : Nat → ClassId) (dI : Nat → Nat → Nat) (cI cZ : ClassId) (a : Nat → Nat) (zk : Nat → Nat) (sz : Nat) (σ : St) (x1 : Int32) (hiv : IV σ) : Met l yL_day wsL_day ({ frames := 8, cells := 1, slots := 6, locals := 133 }) (pPu dC dI cI cZ a zk sz σ [.ref (a 0), .int x1]) (va_Qi (fun r u => (r, u) = wv ["java/lang/IndexOutOfBoundsException"] σ (sp_day σ x1)) (bMu dC dI cI cZ a (va_A (cw cI cZ a σ) sz)) (va_A (cw cI cZ a σ) sz)) 1 6 (va_A (cw cI cZ a σ) sz) := by
  refine va_MetW (cc := cL_day) (maxL := 3) (ret := (some .int)) (by decide) rfl ?_
  intro p e s m args below meth c s₁ B hml hv
  obtain ⟨rfl, hsz, hP, hK, hD0, hz⟩ := hv
  have hx := B.exec
  have hb := B.bytes
  have hr := B.returns
  have hts := atoms_spec (ws := wsL_day) B.pre
  have hown : s.vm.findClass RL = some m.cls := findClass_of_methodNamed B.named
  have hlocks := B.notSynchronized
  have hTab := vx_table (x := yL_day) B (hts _ List.mem_cons_self)
  subst hsz
  have hD := hD0.self (sz := s.heap.size)
  generalize hAe : va_A (cw cI cZ a σ) s.heap.size = A at hD hz ⊢
  have hA : ∀ q : Nat, s.heap.size ≤ q → A q := fun q h => by rw [← hAe]; exact Or.inr h
  clear hAe hD0
  obtain ⟨H, hHe⟩ : ∃ z, z = s.heap := ⟨_, rfl⟩
  obtain ⟨locs, hLe⟩ : ∃ z : List Loc, z = [] := ⟨_, rfl⟩
  have hS : va_S A s.heap H locs := by rw [hHe, hLe]; exact va_S.rf
  have hP : va_P (dC, dI) vwCl (cw cI cZ a σ) H := by rw [hHe]; exact hP
  refine W_ofH hHe hLe ?_
  clear hHe hLe
  have hl := lv_entry ([.ref (a 0), .int x1]) (n := 3) (Nat.le_of_ble_eq_true rfl)
  rw [lg_entry_eq]
  generalize (lg_sl ([.ref (a 0), .int x1]) ++ List.replicate (3 - (lg_sl ([.ref (a 0), .int x1])).length) Slot.unset).toArray = ls at hl ⊢
  have hl : lv_has ls 3 [(0, .ref (a 0)), (1, .int x1)] := hl
  refine lv_aload_n hx hb dL_day_0 rfl (lv_at hl 0 rfl) ?_
  refine lv_iload_n hx hb dL_day_1 rfl (lv_at hl 1 rfl) ?_
  have hPc := hP
  have hDc := hD
  have hFc := fr_all hD hS hA
  have hKc := hK
  refine vx_callv (vx_runV (As := [.int x1]) (rest := []) ⟨hx, hb, hml, hown, hts⟩ (m_X3_day l hl9 dC dI cI cZ a zk H.size σ x1 hiv) (cwV 1 hts (gV k_177 k_178 k_179 k_20 k_180) rfl rfl rfl (by decide +kernel) ⟨Nat.le_of_ble_eq_true rfl, Nat.le_of_ble_eq_true rfl⟩) (pv_pu (q := (RX3, TX3, 6)) (q0 := 0) (ci := 3) hKc hPc hDc hz hS hFc rfl rfl) rfl rfl hl.1 rfl (lv_room (Nat.le_of_ble_eq_true rfl)) dL_day_2 ⟨Nat.le_of_ble_eq_true rfl, Nat.le_of_ble_eq_true rfl⟩) hS (fun q _ h => hFc q h) hFc (fun q _ h => hFc q h) ?_ ?_
  · intro E ce q9 u t H1 locs ht hvm hpx hB hz1 hk1 hS hc1 hc2 hc3
    obtain ⟨rfl, hP1, hK1, hD1⟩ := hB
    rw [ht] at hP1
    replace hP := hP1
    replace hD := hD1.weaken (fun _ _ _ h => hFc _ h)
    rcases er_day hpx with hE
    · subst hE
      refine vx_catch (name := "java/lang/IndexOutOfBoundsException") hown [] ⟨0, 5, 8, 13⟩ [] hTab (fun z hz9 => by cases hz9) (by decide) (by decide) (hts _ (kc k_176)) (va_Nw.use rfl (hz.2.2.2.1.1 _ (by decide))) hc1 hc2 hc3 ?_
      refine lv_astore_n (lv' := [(2, .ref q9), (0, .ref (a 0)), (1, .int x1)]) hx hb dL_day_8 rfl hl (by decide) rfl (fun ls hl => ?_)
      refine lv_iconst (v := 1) hx hb dL_day_9 (by decide) ?_
      refine W.widen (k := 1) (n := 6) (Nat.le_of_ble_eq_true rfl) (Nat.le_of_ble_eq_true rfl) ?_
      exact W.iret (v := 1) hx hb hr (fun t ht hW => ⟨⟨1, σ, rfl, (by rw [hpx]; exact congrArg (fun z => (z, σ)) (by decide)), by rw [ht]; exact hP, va_K.moved hW.alike hK, hD⟩, hS.F ht⟩) hS.2.2 dL_day_10
  · intro σ9 t H1 locs ht hvm hpo hB hz1 hk1 hS
    obtain ⟨hP1, hK1, hD1⟩ := hB
    rw [ht] at hP1
    replace hP := hP1
    replace hD := hD1.weaken (fun _ _ _ h => hFc _ h)
    refine lv_goto (tgt := 11) hx hb dL_day_5 (by decide) ?_
    refine lv_iconst (v := 0) hx hb dL_day_11 (by decide) ?_
    refine W.widen (k := 1) (n := 6) (Nat.le_of_ble_eq_true rfl) (Nat.le_of_ble_eq_true rfl) ?_
    exact W.iret (v := 0) hx hb hr (fun t ht hW => ⟨⟨0, σ9, rfl, (by rw [hpo]; rfl), by rw [ht]; exact hP, va_K.moved hW.alike hK, hD⟩, hS.F ht⟩) hS.2.2 dL_day_12
set_option maxHeartbeats 4000000 in
set_option maxRecDepth 100000 in
theorem m_L_age (l : Launch) (hl9 : l.stackTraces = false) (dC : Nat → ClassId) (dI : Nat → Nat → Nat) (cI cZ : ClassId) (a : Nat → Nat) (zk : Nat → Nat) (sz : Nat) (σ : St) (x1 : Int32) (x2 : Int32) (hiv : IV σ) : Met l yL_age wsL_age ({ frames := 8, cells := 2, slots := 12, locals := 134 }) (pPu dC dI cI cZ a zk sz σ [.ref (a 0), .int x1, .int x2]) (va_Qi (fun r u => (r, u) = wv ["java/lang/IllegalArgumentException", "java/lang/IndexOutOfBoundsException"] σ (sp_age σ x1 x2)) (bMu dC dI cI cZ a (va_A (cw cI cZ a σ) sz)) (va_A (cw cI cZ a σ) sz)) 2 12 (va_A (cw cI cZ a σ) sz) := by
  refine va_MetW (cc := cL_age) (maxL := 4) (ret := (some .int)) (by decide) rfl ?_
  intro p e s m args below meth c s₁ B hml hv
  obtain ⟨rfl, hsz, hP, hK, hD0, hz⟩ := hv
  have hx := B.exec
  have hb := B.bytes
  have hr := B.returns
  have hts := atoms_spec (ws := wsL_age) B.pre
  have hown : s.vm.findClass RL = some m.cls := findClass_of_methodNamed B.named
  have hlocks := B.notSynchronized
  have hTab := vx_table (x := yL_age) B (hts _ List.mem_cons_self)
  subst hsz
  have hD := hD0.self (sz := s.heap.size)
  generalize hAe : va_A (cw cI cZ a σ) s.heap.size = A at hD hz ⊢
  have hA : ∀ q : Nat, s.heap.size ≤ q → A q := fun q h => by rw [← hAe]; exact Or.inr h
  clear hAe hD0
  obtain ⟨H, hHe⟩ : ∃ z, z = s.heap := ⟨_, rfl⟩
  obtain ⟨locs, hLe⟩ : ∃ z : List Loc, z = [] := ⟨_, rfl⟩
  have hS : va_S A s.heap H locs := by rw [hHe, hLe]; exact va_S.rf
  have hP : va_P (dC, dI) vwCl (cw cI cZ a σ) H := by rw [hHe]; exact hP
  refine W_ofH hHe hLe ?_
  clear hHe hLe
  have hl := lv_entry ([.ref (a 0), .int x1, .int x2]) (n := 4) (Nat.le_of_ble_eq_true rfl)
  rw [lg_entry_eq]
  generalize (lg_sl ([.ref (a 0), .int x1, .int x2]) ++ List.replicate (4 - (lg_sl ([.ref (a 0), .int x1, .int x2])).length) Slot.unset).toArray = ls at hl ⊢
  have hl : lv_has ls 4 [(0, .ref (a 0)), (1, .int x1), (2, .int x2)] := hl
  refine lv_aload_n hx hb dL_age_0 rfl (lv_at hl 0 rfl) ?_
  refine lv_iload_n hx hb dL_age_1 rfl (lv_at hl 1 rfl) ?_
  refine lv_iload_n hx hb dL_age_2 rfl (lv_at hl 2 rfl) ?_
  have hPc := hP
  have hDc := hD
  have hFc := fr_all hD hS hA
  have hKc := hK
  refine vx_callv (vx_runV (As := [.int x1, .int x2]) (rest := []) ⟨hx, hb, hml, hown, hts⟩ (m_X3_age l hl9 dC dI cI cZ a zk H.size σ x1 x2 hiv) (cwV 2 hts (gV k_259 k_260 k_261 k_20 k_262) rfl rfl rfl (by decide +kernel) ⟨Nat.le_of_ble_eq_true rfl, Nat.le_of_ble_eq_true rfl⟩) (pv_pu (q := (RX3, TX3, 6)) (q0 := 0) (ci := 3) hKc hPc hDc hz hS hFc rfl rfl) rfl rfl hl.1 rfl (lv_room (Nat.le_of_ble_eq_true rfl)) dL_age_3 ⟨Nat.le_of_ble_eq_true rfl, Nat.le_of_ble_eq_true rfl⟩) hS (fun q _ h => hFc q h) hFc (fun q _ h => hFc q h) ?_ ?_
  · intro E ce q9 u t H1 locs ht hvm hpx hB hz1 hk1 hS hc1 hc2 hc3
    obtain ⟨rfl, hP1, hK1, hD1⟩ := hB
    rw [ht] at hP1
    replace hP := hP1
    replace hD := hD1.weaken (fun _ _ _ h => hFc _ h)
    rcases er_age hpx with hE | hE
    · subst hE
      refine vx_catch (name := "java/lang/IllegalArgumentException") hown [] ⟨0, 6, 9, 19⟩ [⟨0, 6, 12, 13⟩] hTab (fun z hz9 => by cases hz9) (by decide) (by decide) (hts _ (kc k_258)) (va_Nw.use rfl (hz.2.2.2.1.1 _ (by decide))) hc1 hc2 hc3 ?_
      refine lv_astore_n (lv' := [(3, .ref q9), (0, .ref (a 0)), (1, .int x1), (2, .int x2)]) hx hb dL_age_9 rfl hl (by decide) rfl (fun ls hl => ?_)
      refine lv_iconst (v := 1) hx hb dL_age_10 (by decide) ?_
      refine W.widen (k := 2) (n := 12) (Nat.le_of_ble_eq_true rfl) (Nat.le_of_ble_eq_true rfl) ?_
      exact W.iret (v := 1) hx hb hr (fun t ht hW => ⟨⟨1, σ, rfl, (by rw [hpx]; exact congrArg (fun z => (z, σ)) (by decide)), by rw [ht]; exact hP, va_K.moved hW.alike hK, hD⟩, hS.F ht⟩) hS.2.2 dL_age_11
    · subst hE
      refine vx_catch (name := "java/lang/IndexOutOfBoundsException") hown [⟨0, 6, 9, 19⟩] ⟨0, 6, 12, 13⟩ [] hTab (fun z hz9 => by
        simp only [List.mem_cons, List.not_mem_nil, or_false] at hz9
        rcases hz9 with rfl
        · exact Or.inr ⟨by decide, "java/lang/IllegalArgumentException", (hts _ (kc k_258)), hz.2.2.2.1.2.2.2 _ (by decide) _ (by decide) (by decide)⟩) (by decide) (by decide) (hts _ (kc k_176)) (va_Nw.use rfl (hz.2.2.2.1.1 _ (by decide))) hc1 hc2 hc3 ?_
      refine lv_astore_n (lv' := [(3, .ref q9), (0, .ref (a 0)), (1, .int x1), (2, .int x2)]) hx hb dL_age_12 rfl hl (by decide) rfl (fun ls hl => ?_)
      refine lv_iconst (v := 2) hx hb dL_age_13 (by decide) ?_
      refine W.widen (k := 2) (n := 12) (Nat.le_of_ble_eq_true rfl) (Nat.le_of_ble_eq_true rfl) ?_
      exact W.iret (v := 2) hx hb hr (fun t ht hW => ⟨⟨2, σ, rfl, (by rw [hpx]; exact congrArg (fun z => (z, σ)) (by decide)), by rw [ht]; exact hP, va_K.moved hW.alike hK, hD⟩, hS.F ht⟩) hS.2.2 dL_age_14
  · intro σ9 t H1 locs ht hvm hpo hB hz1 hk1 hS
    obtain ⟨hP1, hK1, hD1⟩ := hB
    rw [ht] at hP1
    replace hP := hP1
    replace hD := hD1.weaken (fun _ _ _ h => hFc _ h)
    refine lv_goto (tgt := 15) hx hb dL_age_6 (by decide) ?_
    refine lv_iconst (v := 0) hx hb dL_age_15 (by decide) ?_
    refine W.widen (k := 2) (n := 12) (Nat.le_of_ble_eq_true rfl) (Nat.le_of_ble_eq_true rfl) ?_
    exact W.iret (v := 0) hx hb hr (fun t ht hW => ⟨⟨0, σ9, rfl, (by rw [hpo]; rfl), by rw [ht]; exact hP, va_K.moved hW.alike hK, hD⟩, hS.F ht⟩) hS.2.2 dL_age_16
set_option maxHeartbeats 4000000 in
set_option maxRecDepth 100000 in
theorem m_L_test (l : Launch) (hl9 : l.stackTraces = false) (dC : Nat → ClassId) (dI : Nat → Nat → Nat) (cI cZ : ClassId) (a : Nat → Nat) (zk : Nat → Nat) (sz : Nat) (σ : St) (x1 : Int32) (x2 : Int32) (x3 : Int32) (x4 : Int32) (hiv : IV σ) : Met l yL_test wsL_test ({ frames := 8, cells := 4, slots := 24, locals := 137 }) (pPu dC dI cI cZ a zk sz σ [.ref (a 0), .int x1, .int x2, .int x3, .int x4]) (va_Qi (fun r u => (r, u) = wv ["java/lang/IllegalArgumentException", "java/lang/IndexOutOfBoundsException"] σ (sp_test σ x1 x2 x3 x4)) (bMu dC dI cI cZ a (va_A (cw cI cZ a σ) sz)) (va_A (cw cI cZ a σ) sz)) 4 24 (va_A (cw cI cZ a σ) sz) := by
  refine va_MetW (cc := cL_test) (maxL := 6) (ret := (some .int)) (by decide) rfl ?_
  intro p e s m args below meth c s₁ B hml hv
  obtain ⟨rfl, hsz, hP, hK, hD0, hz⟩ := hv
  have hx := B.exec
  have hb := B.bytes
  have hr := B.returns
  have hts := atoms_spec (ws := wsL_test) B.pre
  have hown : s.vm.findClass RL = some m.cls := findClass_of_methodNamed B.named
  have hlocks := B.notSynchronized
  have hTab := vx_table (x := yL_test) B (hts _ List.mem_cons_self)
  subst hsz
  have hD := hD0.self (sz := s.heap.size)
  generalize hAe : va_A (cw cI cZ a σ) s.heap.size = A at hD hz ⊢
  have hA : ∀ q : Nat, s.heap.size ≤ q → A q := fun q h => by rw [← hAe]; exact Or.inr h
  clear hAe hD0
  obtain ⟨H, hHe⟩ : ∃ z, z = s.heap := ⟨_, rfl⟩
  obtain ⟨locs, hLe⟩ : ∃ z : List Loc, z = [] := ⟨_, rfl⟩
  have hS : va_S A s.heap H locs := by rw [hHe, hLe]; exact va_S.rf
  have hP : va_P (dC, dI) vwCl (cw cI cZ a σ) H := by rw [hHe]; exact hP
  refine W_ofH hHe hLe ?_
  clear hHe hLe
  have hl := lv_entry ([.ref (a 0), .int x1, .int x2, .int x3, .int x4]) (n := 6) (Nat.le_of_ble_eq_true rfl)
  rw [lg_entry_eq]
  generalize (lg_sl ([.ref (a 0), .int x1, .int x2, .int x3, .int x4]) ++ List.replicate (6 - (lg_sl ([.ref (a 0), .int x1, .int x2, .int x3, .int x4])).length) Slot.unset).toArray = ls at hl ⊢
  have hl : lv_has ls 6 [(0, .ref (a 0)), (1, .int x1), (2, .int x2), (3, .int x3), (4, .int x4)] := hl
  refine lv_aload_n hx hb dL_test_0 rfl (lv_at hl 0 rfl) ?_
  refine lv_iload_n hx hb dL_test_1 rfl (lv_at hl 1 rfl) ?_
  refine lv_iload_n hx hb dL_test_2 rfl (lv_at hl 2 rfl) ?_
  refine lv_iload_n hx hb dL_test_3 rfl (lv_at hl 3 rfl) ?_
  refine lv_iload hx hb dL_test_4 (lv_at hl 4 rfl) ?_
  have hPc := hP
  have hDc := hD
  have hFc := fr_all hD hS hA
  have hKc := hK
  refine vx_callv (vx_runV (As := [.int x1, .int x2, .int x3, .int x4]) (rest := []) ⟨hx, hb, hml, hown, hts⟩ (m_X3_test l hl9 dC dI cI cZ a zk H.size σ x1 x2 x3 x4 hiv) (cwV 4 hts (gV k_285 k_286 k_287 k_20 k_288) rfl rfl rfl (by decide +kernel) ⟨Nat.le_of_ble_eq_true rfl, Nat.le_of_ble_eq_true rfl⟩) (pv_pu (q := (RX3, TX3, 6)) (q0 := 0) (ci := 3) hKc hPc hDc hz hS hFc rfl rfl) rfl rfl hl.1 rfl (lv_room (Nat.le_of_ble_eq_true rfl)) dL_test_6 ⟨Nat.le_of_ble_eq_true rfl, Nat.le_of_ble_eq_true rfl⟩) hS (fun q _ h => hFc q h) hFc (fun q _ h => hFc q h) ?_ ?_
  · intro E ce q9 u t H1 locs ht hvm hpx hB hz1 hk1 hS hc1 hc2 hc3
    obtain ⟨rfl, hP1, hK1, hD1⟩ := hB
    rw [ht] at hP1
    replace hP := hP1
    replace hD := hD1.weaken (fun _ _ _ h => hFc _ h)
    rcases er_test hpx with hE | hE
    · subst hE
      refine vx_catch (name := "java/lang/IllegalArgumentException") hown [] ⟨0, 9, 12, 19⟩ [⟨0, 9, 16, 13⟩] hTab (fun z hz9 => by cases hz9) (by decide) (by decide) (hts _ (kc k_258)) (va_Nw.use rfl (hz.2.2.2.1.1 _ (by decide))) hc1 hc2 hc3 ?_
      refine lv_astore (lv' := [(5, .ref q9), (0, .ref (a 0)), (1, .int x1), (2, .int x2), (3, .int x3), (4, .int x4)]) hx hb dL_test_12 hl (by decide) rfl (fun ls hl => ?_)
      refine lv_iconst (v := 1) hx hb dL_test_14 (by decide) ?_
      refine W.widen (k := 4) (n := 24) (Nat.le_of_ble_eq_true rfl) (Nat.le_of_ble_eq_true rfl) ?_
      exact W.iret (v := 1) hx hb hr (fun t ht hW => ⟨⟨1, σ, rfl, (by rw [hpx]; exact congrArg (fun z => (z, σ)) (by decide)), by rw [ht]; exact hP, va_K.moved hW.alike hK, hD⟩, hS.F ht⟩) hS.2.2 dL_test_15
    · subst hE
      refine vx_catch (name := "java/lang/IndexOutOfBoundsException") hown [⟨0, 9, 12, 19⟩] ⟨0, 9, 16, 13⟩ [] hTab (fun z hz9 => by
        simp only [List.mem_cons, List.not_mem_nil, or_false] at hz9
        rcases hz9 with rfl
        · exact Or.inr ⟨by decide, "java/lang/IllegalArgumentException", (hts _ (kc k_258)), hz.2.2.2.1.2.2.2 _ (by decide) _ (by decide) (by decide)⟩) (by decide) (by decide) (hts _ (kc k_176)) (va_Nw.use rfl (hz.2.2.2.1.1 _ (by decide))) hc1 hc2 hc3 ?_
      refine lv_astore (lv' := [(5, .ref q9), (0, .ref (a 0)), (1, .int x1), (2, .int x2), (3, .int x3), (4, .int x4)]) hx hb dL_test_16 hl (by decide) rfl (fun ls hl => ?_)
      refine lv_iconst (v := 2) hx hb dL_test_18 (by decide) ?_
      refine W.widen (k := 4) (n := 24) (Nat.le_of_ble_eq_true rfl) (Nat.le_of_ble_eq_true rfl) ?_
      exact W.iret (v := 2) hx hb hr (fun t ht hW => ⟨⟨2, σ, rfl, (by rw [hpx]; exact congrArg (fun z => (z, σ)) (by decide)), by rw [ht]; exact hP, va_K.moved hW.alike hK, hD⟩, hS.F ht⟩) hS.2.2 dL_test_19
  · intro σ9 t H1 locs ht hvm hpo hB hz1 hk1 hS
    obtain ⟨hP1, hK1, hD1⟩ := hB
    rw [ht] at hP1
    replace hP := hP1
    replace hD := hD1.weaken (fun _ _ _ h => hFc _ h)
    refine lv_goto (tgt := 20) hx hb dL_test_9 (by decide) ?_
    refine lv_iconst (v := 0) hx hb dL_test_20 (by decide) ?_
    refine W.widen (k := 4) (n := 24) (Nat.le_of_ble_eq_true rfl) (Nat.le_of_ble_eq_true rfl) ?_
    exact W.iret (v := 0) hx hb hr (fun t ht hW => ⟨⟨0, σ9, rfl, (by rw [hpo]; rfl), by rw [ht]; exact hP, va_K.moved hW.alike hK, hD⟩, hS.F ht⟩) hS.2.2 dL_test_21
set_option maxHeartbeats 4000000 in
set_option maxRecDepth 100000 in
theorem m_L_bounds (l : Launch) (hl9 : l.stackTraces = false) (dC : Nat → ClassId) (dI : Nat → Nat → Nat) (cI cZ : ClassId) (a : Nat → Nat) (zk : Nat → Nat) (sz : Nat) (σ : St) (x1 : Int32) (x2 : Int32) (x3 : Int32) (x4 : Int32) (hiv : IV σ) : Met l yL_bounds wsL_bounds ({ frames := 8, cells := 4, slots := 24, locals := 137 }) (pPu dC dI cI cZ a zk sz σ [.ref (a 0), .int x1, .int x2, .int x3, .int x4]) (va_Qi (fun r u => (r, u) = wv ["java/lang/IllegalArgumentException", "java/lang/IndexOutOfBoundsException"] σ (sp_bounds σ x1 x2 x3 x4)) (bMu dC dI cI cZ a (va_A (cw cI cZ a σ) sz)) (va_A (cw cI cZ a σ) sz)) 4 24 (va_A (cw cI cZ a σ) sz) := by
  refine va_MetW (cc := cL_bounds) (maxL := 6) (ret := (some .int)) (by decide) rfl ?_
  intro p e s m args below meth c s₁ B hml hv
  obtain ⟨rfl, hsz, hP, hK, hD0, hz⟩ := hv
  have hx := B.exec
  have hb := B.bytes
  have hr := B.returns
  have hts := atoms_spec (ws := wsL_bounds) B.pre
  have hown : s.vm.findClass RL = some m.cls := findClass_of_methodNamed B.named
  have hlocks := B.notSynchronized
  have hTab := vx_table (x := yL_bounds) B (hts _ List.mem_cons_self)
  subst hsz
  have hD := hD0.self (sz := s.heap.size)
  generalize hAe : va_A (cw cI cZ a σ) s.heap.size = A at hD hz ⊢
  have hA : ∀ q : Nat, s.heap.size ≤ q → A q := fun q h => by rw [← hAe]; exact Or.inr h
  clear hAe hD0
  obtain ⟨H, hHe⟩ : ∃ z, z = s.heap := ⟨_, rfl⟩
  obtain ⟨locs, hLe⟩ : ∃ z : List Loc, z = [] := ⟨_, rfl⟩
  have hS : va_S A s.heap H locs := by rw [hHe, hLe]; exact va_S.rf
  have hP : va_P (dC, dI) vwCl (cw cI cZ a σ) H := by rw [hHe]; exact hP
  refine W_ofH hHe hLe ?_
  clear hHe hLe
  have hl := lv_entry ([.ref (a 0), .int x1, .int x2, .int x3, .int x4]) (n := 6) (Nat.le_of_ble_eq_true rfl)
  rw [lg_entry_eq]
  generalize (lg_sl ([.ref (a 0), .int x1, .int x2, .int x3, .int x4]) ++ List.replicate (6 - (lg_sl ([.ref (a 0), .int x1, .int x2, .int x3, .int x4])).length) Slot.unset).toArray = ls at hl ⊢
  have hl : lv_has ls 6 [(0, .ref (a 0)), (1, .int x1), (2, .int x2), (3, .int x3), (4, .int x4)] := hl
  refine lv_aload_n hx hb dL_bounds_0 rfl (lv_at hl 0 rfl) ?_
  refine lv_iload_n hx hb dL_bounds_1 rfl (lv_at hl 1 rfl) ?_
  refine lv_iload_n hx hb dL_bounds_2 rfl (lv_at hl 2 rfl) ?_
  refine lv_iload_n hx hb dL_bounds_3 rfl (lv_at hl 3 rfl) ?_
  refine lv_iload hx hb dL_bounds_4 (lv_at hl 4 rfl) ?_
  have hPc := hP
  have hDc := hD
  have hFc := fr_all hD hS hA
  have hKc := hK
  refine vx_callv (vx_runV (As := [.int x1, .int x2, .int x3, .int x4]) (rest := []) ⟨hx, hb, hml, hown, hts⟩ (m_X3_bounds l hl9 dC dI cI cZ a zk H.size σ x1 x2 x3 x4 hiv) (cwV 4 hts (gV k_292 k_293 k_294 k_20 k_295) rfl rfl rfl (by decide +kernel) ⟨Nat.le_of_ble_eq_true rfl, Nat.le_of_ble_eq_true rfl⟩) (pv_pu (q := (RX3, TX3, 6)) (q0 := 0) (ci := 3) hKc hPc hDc hz hS hFc rfl rfl) rfl rfl hl.1 rfl (lv_room (Nat.le_of_ble_eq_true rfl)) dL_bounds_6 ⟨Nat.le_of_ble_eq_true rfl, Nat.le_of_ble_eq_true rfl⟩) hS (fun q _ h => hFc q h) hFc (fun q _ h => hFc q h) ?_ ?_
  · intro E ce q9 u t H1 locs ht hvm hpx hB hz1 hk1 hS hc1 hc2 hc3
    obtain ⟨rfl, hP1, hK1, hD1⟩ := hB
    rw [ht] at hP1
    replace hP := hP1
    replace hD := hD1.weaken (fun _ _ _ h => hFc _ h)
    rcases er_bounds hpx with hE | hE
    · subst hE
      refine vx_catch (name := "java/lang/IllegalArgumentException") hown [] ⟨0, 9, 12, 19⟩ [⟨0, 9, 16, 13⟩] hTab (fun z hz9 => by cases hz9) (by decide) (by decide) (hts _ (kc k_258)) (va_Nw.use rfl (hz.2.2.2.1.1 _ (by decide))) hc1 hc2 hc3 ?_
      refine lv_astore (lv' := [(5, .ref q9), (0, .ref (a 0)), (1, .int x1), (2, .int x2), (3, .int x3), (4, .int x4)]) hx hb dL_bounds_12 hl (by decide) rfl (fun ls hl => ?_)
      refine lv_iconst (v := 1) hx hb dL_bounds_14 (by decide) ?_
      refine W.widen (k := 4) (n := 24) (Nat.le_of_ble_eq_true rfl) (Nat.le_of_ble_eq_true rfl) ?_
      exact W.iret (v := 1) hx hb hr (fun t ht hW => ⟨⟨1, σ, rfl, (by rw [hpx]; exact congrArg (fun z => (z, σ)) (by decide)), by rw [ht]; exact hP, va_K.moved hW.alike hK, hD⟩, hS.F ht⟩) hS.2.2 dL_bounds_15
    · subst hE
      refine vx_catch (name := "java/lang/IndexOutOfBoundsException") hown [⟨0, 9, 12, 19⟩] ⟨0, 9, 16, 13⟩ [] hTab (fun z hz9 => by
        simp only [List.mem_cons, List.not_mem_nil, or_false] at hz9
        rcases hz9 with rfl
        · exact Or.inr ⟨by decide, "java/lang/IllegalArgumentException", (hts _ (kc k_258)), hz.2.2.2.1.2.2.2 _ (by decide) _ (by decide) (by decide)⟩) (by decide) (by decide) (hts _ (kc k_176)) (va_Nw.use rfl (hz.2.2.2.1.1 _ (by decide))) hc1 hc2 hc3 ?_
      refine lv_astore (lv' := [(5, .ref q9), (0, .ref (a 0)), (1, .int x1), (2, .int x2), (3, .int x3), (4, .int x4)]) hx hb dL_bounds_16 hl (by decide) rfl (fun ls hl => ?_)
      refine lv_iconst (v := 2) hx hb dL_bounds_18 (by decide) ?_
      refine W.widen (k := 4) (n := 24) (Nat.le_of_ble_eq_true rfl) (Nat.le_of_ble_eq_true rfl) ?_
      exact W.iret (v := 2) hx hb hr (fun t ht hW => ⟨⟨2, σ, rfl, (by rw [hpx]; exact congrArg (fun z => (z, σ)) (by decide)), by rw [ht]; exact hP, va_K.moved hW.alike hK, hD⟩, hS.F ht⟩) hS.2.2 dL_bounds_19
  · intro σ9 t H1 locs ht hvm hpo hB hz1 hk1 hS
    obtain ⟨hP1, hK1, hD1⟩ := hB
    rw [ht] at hP1
    replace hP := hP1
    replace hD := hD1.weaken (fun _ _ _ h => hFc _ h)
    refine lv_goto (tgt := 20) hx hb dL_bounds_9 (by decide) ?_
    refine lv_iconst (v := 0) hx hb dL_bounds_20 (by decide) ?_
    refine W.widen (k := 4) (n := 24) (Nat.le_of_ble_eq_true rfl) (Nat.le_of_ble_eq_true rfl) ?_
    exact W.iret (v := 0) hx hb hr (fun t ht hW => ⟨⟨0, σ9, rfl, (by rw [hpo]; rfl), by rw [ht]; exact hP, va_K.moved hW.alike hK, hD⟩, hS.F ht⟩) hS.2.2 dL_bounds_21
set_option maxHeartbeats 4000000 in
set_option maxRecDepth 100000 in
theorem m_L_thing (l : Launch) (hl9 : l.stackTraces = false) (dC : Nat → ClassId) (dI : Nat → Nat → Nat) (cI cZ cL : ClassId) (a : Nat → Nat) (o : Nat) (zk : Nat → Nat) (sz : Nat) (σ : St) (g : Nat → Int64) (x1 : Int32) (x2 : Int32) (x3 : Int32) (x4 : Int32) (x5 : Int32) (x6 : Int32) (hiv : IV σ) : Met l yL_thing wsL_thing ({ frames := 8, cells := 8, slots := 48, locals := 138 }) (pOu dC dI cI cZ cL a o zk sz σ g [.ref (a 0), .int x1, .int x2, .int x3, .int x4, .int x5, .int x6, .ref o]) (va_Qi (fun r u => (r, u) = wo ["java/lang/IllegalArgumentException", "java/lang/IndexOutOfBoundsException", "java/lang/IllegalStateException", "java/lang/UnsupportedOperationException"] σ g (sp_thing σ x1 x2 x3 x4 x5 x6)) (bOu dC dI cI cZ cL a o (va_A (ow cI cZ cL a o σ g) sz)) (va_A (ow cI cZ cL a o σ g) sz)) 8 48 (va_A (ow cI cZ cL a o σ g) sz) := by
  refine va_MetW (cc := cL_thing) (maxL := 9) (ret := (some .int)) (by decide) rfl ?_
  intro p e s m args below meth c s₁ B hml hv
  obtain ⟨rfl, hsz, hP, hK, hD0, hz⟩ := hv
  have hx := B.exec
  have hb := B.bytes
  have hr := B.returns
  have hts := atoms_spec (ws := wsL_thing) B.pre
  have hown : s.vm.findClass RL = some m.cls := findClass_of_methodNamed B.named
  have hlocks := B.notSynchronized
  have hTab := vx_table (x := yL_thing) B (hts _ List.mem_cons_self)
  subst hsz
  have hD := hD0.self (sz := s.heap.size)
  generalize hAe : va_A (ow cI cZ cL a o σ g) s.heap.size = A at hD hz ⊢
  have hA : ∀ q : Nat, s.heap.size ≤ q → A q := fun q h => by rw [← hAe]; exact Or.inr h
  clear hAe hD0
  obtain ⟨H, hHe⟩ : ∃ z, z = s.heap := ⟨_, rfl⟩
  obtain ⟨locs, hLe⟩ : ∃ z : List Loc, z = [] := ⟨_, rfl⟩
  have hS : va_S A s.heap H locs := by rw [hHe, hLe]; exact va_S.rf
  have hP : va_P (dC, dI) vwCl (ow cI cZ cL a o σ g) H := by rw [hHe]; exact hP
  refine W_ofH hHe hLe ?_
  clear hHe hLe
  have hl := lv_entry ([.ref (a 0), .int x1, .int x2, .int x3, .int x4, .int x5, .int x6, .ref o]) (n := 9) (Nat.le_of_ble_eq_true rfl)
  rw [lg_entry_eq]
  generalize (lg_sl ([.ref (a 0), .int x1, .int x2, .int x3, .int x4, .int x5, .int x6, .ref o]) ++ List.replicate (9 - (lg_sl ([.ref (a 0), .int x1, .int x2, .int x3, .int x4, .int x5, .int x6, .ref o])).length) Slot.unset).toArray = ls at hl ⊢
  have hl : lv_has ls 9 [(0, .ref (a 0)), (1, .int x1), (2, .int x2), (3, .int x3), (4, .int x4), (5, .int x5), (6, .int x6), (7, .ref o)] := hl
  refine lv_aload hx hb dL_thing_0 (lv_at hl 7 rfl) ?_
  refine lv_iconst (v := 0) hx hb dL_thing_2 (by decide) ?_
  refine lv_aload_n hx hb dL_thing_3 rfl (lv_at hl 0 rfl) ?_
  refine lv_iload_n hx hb dL_thing_4 rfl (lv_at hl 1 rfl) ?_
  refine lv_iload_n hx hb dL_thing_5 rfl (lv_at hl 2 rfl) ?_
  refine lv_iload_n hx hb dL_thing_6 rfl (lv_at hl 3 rfl) ?_
  refine lv_iload hx hb dL_thing_7 (lv_at hl 4 rfl) ?_
  refine lv_iload hx hb dL_thing_9 (lv_at hl 5 rfl) ?_
  refine lv_iload hx hb dL_thing_11 (lv_at hl 6 rfl) ?_
  have hPc := hP.sub (ws' := cw cI cZ a σ) [0, 1, 2, 3, 4, 5, 6, 7, 8, 9, 10, 11, 12, 13, 14, 15, 16, 17, 18, 19, 20, 21, 22, 23, 24, 25, 26] rfl
  have hDc := hD.sub (ws' := cw cI cZ a σ) [0, 1, 2, 3, 4, 5, 6, 7, 8, 9, 10, 11, 12, 13, 14, 15, 16, 17, 18, 19, 20, 21, 22, 23, 24, 25, 26] (by decide) rfl
  have hFc := va_free (wc := cw cI cZ a σ) hD hS hA [0, 1, 2, 3, 4, 5, 6, 7, 8, 9, 10, 11, 12, 13, 14, 15, 16, 17, 18, 19, 20, 21, 22, 23, 24, 25, 26] rfl
  have hKc : va_K (dC, dI) vwCl [(cI, .int), (cZ, .boolean)] s := hK.sub [0, 1] rfl
  refine vx_calli (vx_runV (As := [.int x1, .int x2, .int x3, .int x4, .int x5, .int x6]) (rest := [.int 0, .ref o]) ⟨hx, hb, hml, hown, hts⟩ (m_X3_thing l hl9 dC dI cI cZ a zk H.size σ x1 x2 x3 x4 x5 x6 hiv) (cwV 6 hts (gV k_301 k_302 k_303 k_20 k_304) rfl rfl rfl (by decide +kernel) ⟨Nat.le_of_ble_eq_true rfl, Nat.le_of_ble_eq_true rfl⟩) (pv_pu (q := (RX3, TX3, 6)) (q0 := 0) (ci := 3) hKc hPc hDc hz hS hFc rfl rfl) rfl rfl hl.1 rfl (lv_room (Nat.le_of_ble_eq_true rfl)) dL_thing_13 ⟨Nat.le_of_ble_eq_true rfl, Nat.le_of_ble_eq_true rfl⟩) hS (fun q _ h => hFc q h) hFc (fun q _ h => hFc q h) ?_ ?_
  · intro E ce q9 u t H1 locs ht hvm hpx hB hz1 hk1 hS hc1 hc2 hc3
    obtain ⟨rfl, hP1, hK1, hD1⟩ := hB
    rw [ht] at hP1
    obtain ⟨hP2, hD2⟩ := va_join (wr := [(o, .inl (cL, 1, .inr (.inl g)))]) (w1 := cw cI cZ a σ) hP hD [0, 1, 2, 3, 4, 5, 6, 7, 8, 9, 10, 11, 12, 13, 14, 15, 16, 17, 18, 19, 20, 21, 22, 23, 24, 25, 26] [27] rfl rfl (by decide) (by decide) hk1 hFc hP1 hD1
    replace hP := hP2.sub (ws' := ow cI cZ cL a o σ g) [1, 2, 3, 4, 5, 6, 7, 8, 9, 10, 11, 12, 13, 14, 15, 16, 17, 18, 19, 20, 21, 22, 23, 24, 25, 26, 27, 0] rfl
    replace hD := hD2.sub (ws' := ow cI cZ cL a o σ g) [1, 2, 3, 4, 5, 6, 7, 8, 9, 10, 11, 12, 13, 14, 15, 16, 17, 18, 19, 20, 21, 22, 23, 24, 25, 26, 27, 0] (by decide) rfl
    rcases er_thing hpx with hE | hE | hE | hE
    · subst hE
      refine vx_catch (name := "java/lang/IllegalArgumentException") hown [] ⟨0, 18, 21, 19⟩ [⟨0, 18, 25, 13⟩, ⟨0, 18, 29, 32⟩, ⟨0, 18, 33, 34⟩] hTab (fun z hz9 => by cases hz9) (by decide) (by decide) (hts _ (kc k_258)) (va_Nw.use rfl (hz.2.2.2.1.1 _ (by decide))) hc1 hc2 hc3 ?_
      refine lv_astore (lv' := [(8, .ref q9), (0, .ref (a 0)), (1, .int x1), (2, .int x2), (3, .int x3), (4, .int x4), (5, .int x5), (6, .int x6), (7, .ref o)]) hx hb dL_thing_21 hl (by decide) rfl (fun ls hl => ?_)
      refine lv_iconst (v := 1) hx hb dL_thing_23 (by decide) ?_
      refine W.widen (k := 8) (n := 48) (Nat.le_of_ble_eq_true rfl) (Nat.le_of_ble_eq_true rfl) ?_
      exact W.iret (v := 1) hx hb hr (fun t ht hW => ⟨⟨1, (σ, g), rfl, (by rw [hpx]; exact congrArg (fun z => (z, (σ, g))) (by decide)), by rw [ht]; exact hP, va_K.moved hW.alike hK, hD⟩, hS.F ht⟩) hS.2.2 dL_thing_24
    · subst hE
      refine vx_catch (name := "java/lang/IndexOutOfBoundsException") hown [⟨0, 18, 21, 19⟩] ⟨0, 18, 25, 13⟩ [⟨0, 18, 29, 32⟩, ⟨0, 18, 33, 34⟩] hTab (fun z hz9 => by
        simp only [List.mem_cons, List.not_mem_nil, or_false] at hz9
        rcases hz9 with rfl
        · exact Or.inr ⟨by decide, "java/lang/IllegalArgumentException", (hts _ (kc k_258)), hz.2.2.2.1.2.2.2 _ (by decide) _ (by decide) (by decide)⟩) (by decide) (by decide) (hts _ (kc k_176)) (va_Nw.use rfl (hz.2.2.2.1.1 _ (by decide))) hc1 hc2 hc3 ?_
      refine lv_astore (lv' := [(8, .ref q9), (0, .ref (a 0)), (1, .int x1), (2, .int x2), (3, .int x3), (4, .int x4), (5, .int x5), (6, .int x6), (7, .ref o)]) hx hb dL_thing_25 hl (by decide) rfl (fun ls hl => ?_)
      refine lv_iconst (v := 2) hx hb dL_thing_27 (by decide) ?_
      refine W.widen (k := 8) (n := 48) (Nat.le_of_ble_eq_true rfl) (Nat.le_of_ble_eq_true rfl) ?_
      exact W.iret (v := 2) hx hb hr (fun t ht hW => ⟨⟨2, (σ, g), rfl, (by rw [hpx]; exact congrArg (fun z => (z, (σ, g))) (by decide)), by rw [ht]; exact hP, va_K.moved hW.alike hK, hD⟩, hS.F ht⟩) hS.2.2 dL_thing_28
    · subst hE
      refine vx_catch (name := "java/lang/IllegalStateException") hown [⟨0, 18, 21, 19⟩, ⟨0, 18, 25, 13⟩] ⟨0, 18, 29, 32⟩ [⟨0, 18, 33, 34⟩] hTab (fun z hz9 => by
        simp only [List.mem_cons, List.not_mem_nil, or_false] at hz9
        rcases hz9 with rfl | rfl
        · exact Or.inr ⟨by decide, "java/lang/IllegalArgumentException", (hts _ (kc k_258)), hz.2.2.2.1.2.2.2 _ (by decide) _ (by decide) (by decide)⟩
        · exact Or.inr ⟨by decide, "java/lang/IndexOutOfBoundsException", (hts _ (kc k_176)), hz.2.2.2.1.2.2.2 _ (by decide) _ (by decide) (by decide)⟩) (by decide) (by decide) (hts _ (kc k_299)) (va_Nw.use rfl (hz.2.2.2.1.1 _ (by decide))) hc1 hc2 hc3 ?_
      refine lv_astore (lv' := [(8, .ref q9), (0, .ref (a 0)), (1, .int x1), (2, .int x2), (3, .int x3), (4, .int x4), (5, .int x5), (6, .int x6), (7, .ref o)]) hx hb dL_thing_29 hl (by decide) rfl (fun ls hl => ?_)
      refine lv_iconst (v := 3) hx hb dL_thing_31 (by decide) ?_
      refine W.widen (k := 8) (n := 48) (Nat.le_of_ble_eq_true rfl) (Nat.le_of_ble_eq_true rfl) ?_
      exact W.iret (v := 3) hx hb hr (fun t ht hW => ⟨⟨3, (σ, g), rfl, (by rw [hpx]; exact congrArg (fun z => (z, (σ, g))) (by decide)), by rw [ht]; exact hP, va_K.moved hW.alike hK, hD⟩, hS.F ht⟩) hS.2.2 dL_thing_32
    · subst hE
      refine vx_catch (name := "java/lang/UnsupportedOperationException") hown [⟨0, 18, 21, 19⟩, ⟨0, 18, 25, 13⟩, ⟨0, 18, 29, 32⟩] ⟨0, 18, 33, 34⟩ [] hTab (fun z hz9 => by
        simp only [List.mem_cons, List.not_mem_nil, or_false] at hz9
        rcases hz9 with rfl | rfl | rfl
        · exact Or.inr ⟨by decide, "java/lang/IllegalArgumentException", (hts _ (kc k_258)), hz.2.2.2.1.2.2.2 _ (by decide) _ (by decide) (by decide)⟩
        · exact Or.inr ⟨by decide, "java/lang/IndexOutOfBoundsException", (hts _ (kc k_176)), hz.2.2.2.1.2.2.2 _ (by decide) _ (by decide) (by decide)⟩
        · exact Or.inr ⟨by decide, "java/lang/IllegalStateException", (hts _ (kc k_299)), hz.2.2.2.1.2.2.2 _ (by decide) _ (by decide) (by decide)⟩) (by decide) (by decide) (hts _ (kc k_300)) (va_Nw.use rfl (hz.2.2.2.1.1 _ (by decide))) hc1 hc2 hc3 ?_
      refine lv_astore (lv' := [(8, .ref q9), (0, .ref (a 0)), (1, .int x1), (2, .int x2), (3, .int x3), (4, .int x4), (5, .int x5), (6, .int x6), (7, .ref o)]) hx hb dL_thing_33 hl (by decide) rfl (fun ls hl => ?_)
      refine lv_iconst (v := 4) hx hb dL_thing_35 (by decide) ?_
      refine W.widen (k := 8) (n := 48) (Nat.le_of_ble_eq_true rfl) (Nat.le_of_ble_eq_true rfl) ?_
      exact W.iret (v := 4) hx hb hr (fun t ht hW => ⟨⟨4, (σ, g), rfl, (by rw [hpx]; exact congrArg (fun z => (z, (σ, g))) (by decide)), by rw [ht]; exact hP, va_K.moved hW.alike hK, hD⟩, hS.F ht⟩) hS.2.2 dL_thing_36
  · intro r σ9 t H1 locs ht hvm hpo hB hz1 hk1 hS
    obtain ⟨hP1, hK1, hD1⟩ := hB
    rw [ht] at hP1
    obtain ⟨hP2, hD2⟩ := va_join (wr := [(o, .inl (cL, 1, .inr (.inl g)))]) (w1 := cw cI cZ a σ9) hP hD [0, 1, 2, 3, 4, 5, 6, 7, 8, 9, 10, 11, 12, 13, 14, 15, 16, 17, 18, 19, 20, 21, 22, 23, 24, 25, 26] [27] rfl rfl (by decide) (by decide) hk1 hFc hP1 hD1
    replace hP := hP2.sub (ws' := ow cI cZ cL a o σ9 g) [1, 2, 3, 4, 5, 6, 7, 8, 9, 10, 11, 12, 13, 14, 15, 16, 17, 18, 19, 20, 21, 22, 23, 24, 25, 26, 27, 0] rfl
    replace hD := hD2.sub (ws' := ow cI cZ cL a o σ9 g) [1, 2, 3, 4, 5, 6, 7, 8, 9, 10, 11, 12, 13, 14, 15, 16, 17, 18, 19, 20, 21, 22, 23, 24, 25, 26, 27, 0] (by decide) rfl
    refine lv_i2l hx hb dL_thing_16 rfl ?_
    refine va_last (D := (dC, dI)) (f := g) hx hb hK hP hD hS 27 2 rfl rfl (i := 0) (x := r.toInt64) (vp_lit 0 (by decide)) dL_thing_17 (fun H2 locs hP hD hS => ?_)
    replace hP : va_P (dC, dI) vwCl (ow cI cZ cL a o σ9 (vp_updL g 0 r.toInt64)) H2 := hP
    replace hD : va_D A (ow cI cZ cL a o σ9 (vp_updL g 0 r.toInt64)) := hD
    refine lv_goto (tgt := 37) hx hb dL_thing_18 (by decide) ?_
    refine lv_iconst (v := 0) hx hb dL_thing_37 (by decide) ?_
    refine W.widen (k := 8) (n := 48) (Nat.le_of_ble_eq_true rfl) (Nat.le_of_ble_eq_true rfl) ?_
    exact W.iret (v := 0) hx hb hr (fun t ht hW => ⟨⟨0, (σ9, vp_updL g 0 r.toInt64), rfl, (by rw [hpo]; rfl), by rw [ht]; exact hP, va_K.moved hW.alike hK, hD⟩, hS.F ht⟩) hS.2.2 dL_thing_38
set_option maxHeartbeats 4000000 in
set_option maxRecDepth 100000 in
theorem m_L_letter (l : Launch) (hl9 : l.stackTraces = false) (dC : Nat → ClassId) (dI : Nat → Nat → Nat) (cI cZ cL : ClassId) (a : Nat → Nat) (o : Nat) (zk : Nat → Nat) (sz : Nat) (σ : St) (g : Nat → Int64) (x1 : Int32) (hiv : IV σ) : Met l yL_letter wsL_letter ({ frames := 8, cells := 1, slots := 6, locals := 133 }) (pOu dC dI cI cZ cL a o zk sz σ g [.ref (a 0), .int x1, .ref o]) (va_Qi (fun r u => (r, u) = wo ["java/lang/IndexOutOfBoundsException"] σ g (sp_letter σ x1)) (bOu dC dI cI cZ cL a o (va_A (ow cI cZ cL a o σ g) sz)) (va_A (ow cI cZ cL a o σ g) sz)) 1 6 (va_A (ow cI cZ cL a o σ g) sz) := by
  refine va_MetW (cc := cL_letter) (maxL := 4) (ret := (some .int)) (by decide) rfl ?_
  intro p e s m args below meth c s₁ B hml hv
  obtain ⟨rfl, hsz, hP, hK, hD0, hz⟩ := hv
  have hx := B.exec
  have hb := B.bytes
  have hr := B.returns
  have hts := atoms_spec (ws := wsL_letter) B.pre
  have hown : s.vm.findClass RL = some m.cls := findClass_of_methodNamed B.named
  have hlocks := B.notSynchronized
  have hTab := vx_table (x := yL_letter) B (hts _ List.mem_cons_self)
  subst hsz
  have hD := hD0.self (sz := s.heap.size)
  generalize hAe : va_A (ow cI cZ cL a o σ g) s.heap.size = A at hD hz ⊢
  have hA : ∀ q : Nat, s.heap.size ≤ q → A q := fun q h => by rw [← hAe]; exact Or.inr h
  clear hAe hD0
  obtain ⟨H, hHe⟩ : ∃ z, z = s.heap := ⟨_, rfl⟩
  obtain ⟨locs, hLe⟩ : ∃ z : List Loc, z = [] := ⟨_, rfl⟩
  have hS : va_S A s.heap H locs := by rw [hHe, hLe]; exact va_S.rf
  have hP : va_P (dC, dI) vwCl (ow cI cZ cL a o σ g) H := by rw [hHe]; exact hP
  refine W_ofH hHe hLe ?_
  clear hHe hLe
  have hl := lv_entry ([.ref (a 0), .int x1, .ref o]) (n := 4) (Nat.le_of_ble_eq_true rfl)
  rw [lg_entry_eq]
  generalize (lg_sl ([.ref (a 0), .int x1, .ref o]) ++ List.replicate (4 - (lg_sl ([.ref (a 0), .int x1, .ref o])).length) Slot.unset).toArray = ls at hl ⊢
  have hl : lv_has ls 4 [(0, .ref (a 0)), (1, .int x1), (2, .ref o)] := hl
  refine lv_aload_n hx hb dL_letter_0 rfl (lv_at hl 2 rfl) ?_
  refine lv_iconst (v := 0) hx hb dL_letter_1 (by decide) ?_
  refine lv_aload_n hx hb dL_letter_2 rfl (lv_at hl 0 rfl) ?_
  refine lv_iload_n hx hb dL_letter_3 rfl (lv_at hl 1 rfl) ?_
  have hPc := hP.sub (ws' := cw cI cZ a σ) [0, 1, 2, 3, 4, 5, 6, 7, 8, 9, 10, 11, 12, 13, 14, 15, 16, 17, 18, 19, 20, 21, 22, 23, 24, 25, 26] rfl
  have hDc := hD.sub (ws' := cw cI cZ a σ) [0, 1, 2, 3, 4, 5, 6, 7, 8, 9, 10, 11, 12, 13, 14, 15, 16, 17, 18, 19, 20, 21, 22, 23, 24, 25, 26] (by decide) rfl
  have hFc := va_free (wc := cw cI cZ a σ) hD hS hA [0, 1, 2, 3, 4, 5, 6, 7, 8, 9, 10, 11, 12, 13, 14, 15, 16, 17, 18, 19, 20, 21, 22, 23, 24, 25, 26] rfl
  have hKc : va_K (dC, dI) vwCl [(cI, .int), (cZ, .boolean)] s := hK.sub [0, 1] rfl
  refine vx_calli (vx_runV (As := [.int x1]) (rest := [.int 0, .ref o]) ⟨hx, hb, hml, hown, hts⟩ (m_X3_letter l hl9 dC dI cI cZ a zk H.size σ x1 hiv) (cwV 1 hts (gV k_357 k_358 k_359 k_20 k_360) rfl rfl rfl (by decide +kernel) ⟨Nat.le_of_ble_eq_true rfl, Nat.le_of_ble_eq_true rfl⟩) (pv_pu (q := (RX3, TX3, 6)) (q0 := 0) (ci := 3) hKc hPc hDc hz hS hFc rfl rfl) rfl rfl hl.1 rfl (lv_room (Nat.le_of_ble_eq_true rfl)) dL_letter_4 ⟨Nat.le_of_ble_eq_true rfl, Nat.le_of_ble_eq_true rfl⟩) hS (fun q _ h => hFc q h) hFc (fun q _ h => hFc q h) ?_ ?_
  · intro E ce q9 u t H1 locs ht hvm hpx hB hz1 hk1 hS hc1 hc2 hc3
    obtain ⟨rfl, hP1, hK1, hD1⟩ := hB
    rw [ht] at hP1
    obtain ⟨hP2, hD2⟩ := va_join (wr := [(o, .inl (cL, 1, .inr (.inl g)))]) (w1 := cw cI cZ a σ) hP hD [0, 1, 2, 3, 4, 5, 6, 7, 8, 9, 10, 11, 12, 13, 14, 15, 16, 17, 18, 19, 20, 21, 22, 23, 24, 25, 26] [27] rfl rfl (by decide) (by decide) hk1 hFc hP1 hD1
    replace hP := hP2.sub (ws' := ow cI cZ cL a o σ g) [1, 2, 3, 4, 5, 6, 7, 8, 9, 10, 11, 12, 13, 14, 15, 16, 17, 18, 19, 20, 21, 22, 23, 24, 25, 26, 27, 0] rfl
    replace hD := hD2.sub (ws' := ow cI cZ cL a o σ g) [1, 2, 3, 4, 5, 6, 7, 8, 9, 10, 11, 12, 13, 14, 15, 16, 17, 18, 19, 20, 21, 22, 23, 24, 25, 26, 27, 0] (by decide) rfl
    rcases er_letter hpx with hE
    · subst hE
      refine vx_catch (name := "java/lang/IndexOutOfBoundsException") hown [] ⟨0, 9, 12, 13⟩ [] hTab (fun z hz9 => by cases hz9) (by decide) (by decide) (hts _ (kc k_176)) (va_Nw.use rfl (hz.2.2.2.1.1 _ (by decide))) hc1 hc2 hc3 ?_
      refine lv_astore_n (lv' := [(3, .ref q9), (0, .ref (a 0)), (1, .int x1), (2, .ref o)]) hx hb dL_letter_12 rfl hl (by decide) rfl (fun ls hl => ?_)
      refine lv_iconst (v := 1) hx hb dL_letter_13 (by decide) ?_
      refine W.widen (k := 1) (n := 6) (Nat.le_of_ble_eq_true rfl) (Nat.le_of_ble_eq_true rfl) ?_
      exact W.iret (v := 1) hx hb hr (fun t ht hW => ⟨⟨1, (σ, g), rfl, (by rw [hpx]; exact congrArg (fun z => (z, (σ, g))) (by decide)), by rw [ht]; exact hP, va_K.moved hW.alike hK, hD⟩, hS.F ht⟩) hS.2.2 dL_letter_14
  · intro r σ9 t H1 locs ht hvm hpo hB hz1 hk1 hS
    obtain ⟨hP1, hK1, hD1⟩ := hB
    rw [ht] at hP1
    obtain ⟨hP2, hD2⟩ := va_join (wr := [(o, .inl (cL, 1, .inr (.inl g)))]) (w1 := cw cI cZ a σ9) hP hD [0, 1, 2, 3, 4, 5, 6, 7, 8, 9, 10, 11, 12, 13, 14, 15, 16, 17, 18, 19, 20, 21, 22, 23, 24, 25, 26] [27] rfl rfl (by decide) (by decide) hk1 hFc hP1 hD1
    replace hP := hP2.sub (ws' := ow cI cZ cL a o σ9 g) [1, 2, 3, 4, 5, 6, 7, 8, 9, 10, 11, 12, 13, 14, 15, 16, 17, 18, 19, 20, 21, 22, 23, 24, 25, 26, 27, 0] rfl
    replace hD := hD2.sub (ws' := ow cI cZ cL a o σ9 g) [1, 2, 3, 4, 5, 6, 7, 8, 9, 10, 11, 12, 13, 14, 15, 16, 17, 18, 19, 20, 21, 22, 23, 24, 25, 26, 27, 0] (by decide) rfl
    refine lv_i2l hx hb dL_letter_7 rfl ?_
    refine va_last (D := (dC, dI)) (f := g) hx hb hK hP hD hS 27 2 rfl rfl (i := 0) (x := r.toInt64) (vp_lit 0 (by decide)) dL_letter_8 (fun H2 locs hP hD hS => ?_)
    replace hP : va_P (dC, dI) vwCl (ow cI cZ cL a o σ9 (vp_updL g 0 r.toInt64)) H2 := hP
    replace hD : va_D A (ow cI cZ cL a o σ9 (vp_updL g 0 r.toInt64)) := hD
    refine lv_goto (tgt := 15) hx hb dL_letter_9 (by decide) ?_
    refine lv_iconst (v := 0) hx hb dL_letter_15 (by decide) ?_
    refine W.widen (k := 1) (n := 6) (Nat.le_of_ble_eq_true rfl) (Nat.le_of_ble_eq_true rfl) ?_
    exact W.iret (v := 0) hx hb hr (fun t ht hW => ⟨⟨0, (σ9, vp_updL g 0 r.toInt64), rfl, (by rw [hpo]; rfl), by rw [ht]; exact hP, va_K.moved hW.alike hK, hD⟩, hS.F ht⟩) hS.2.2 dL_letter_16
set_option maxHeartbeats 4000000 in
set_option maxRecDepth 100000 in
theorem m_L_use (l : Launch) (hl9 : l.stackTraces = false) (dC : Nat → ClassId) (dI : Nat → Nat → Nat) (cI cZ : ClassId) (a : Nat → Nat) (zk : Nat → Nat) (sz : Nat) (σ : St) (x1 : Int32) (hiv : IV σ) : Met l yL_use wsL_use ({ frames := 8, cells := 2, slots := 12, locals := 132 }) (pPu dC dI cI cZ a zk sz σ [.ref (a 0), .int x1]) (va_Qi (fun r u => (r, u) = wv ["java/lang/IllegalArgumentException", "java/lang/IllegalStateException"] σ (sp_use σ x1)) (bMu dC dI cI cZ a (va_A (cw cI cZ a σ) sz)) (va_A (cw cI cZ a σ) sz)) 2 12 (va_A (cw cI cZ a σ) sz) := by
  refine va_MetW (cc := cL_use) (maxL := 3) (ret := (some .int)) (by decide) rfl ?_
  intro p e s m args below meth c s₁ B hml hv
  obtain ⟨rfl, hsz, hP, hK, hD0, hz⟩ := hv
  have hx := B.exec
  have hb := B.bytes
  have hr := B.returns
  have hts := atoms_spec (ws := wsL_use) B.pre
  have hown : s.vm.findClass RL = some m.cls := findClass_of_methodNamed B.named
  have hlocks := B.notSynchronized
  have hTab := vx_table (x := yL_use) B (hts _ List.mem_cons_self)
  subst hsz
  have hD := hD0.self (sz := s.heap.size)
  generalize hAe : va_A (cw cI cZ a σ) s.heap.size = A at hD hz ⊢
  have hA : ∀ q : Nat, s.heap.size ≤ q → A q := fun q h => by rw [← hAe]; exact Or.inr h
  clear hAe hD0
  obtain ⟨H, hHe⟩ : ∃ z, z = s.heap := ⟨_, rfl⟩
  obtain ⟨locs, hLe⟩ : ∃ z : List Loc, z = [] := ⟨_, rfl⟩
  have hS : va_S A s.heap H locs := by rw [hHe, hLe]; exact va_S.rf
  have hP : va_P (dC, dI) vwCl (cw cI cZ a σ) H := by rw [hHe]; exact hP
  refine W_ofH hHe hLe ?_
  clear hHe hLe
  have hl := lv_entry ([.ref (a 0), .int x1]) (n := 3) (Nat.le_of_ble_eq_true rfl)
  rw [lg_entry_eq]
  generalize (lg_sl ([.ref (a 0), .int x1]) ++ List.replicate (3 - (lg_sl ([.ref (a 0), .int x1])).length) Slot.unset).toArray = ls at hl ⊢
  have hl : lv_has ls 3 [(0, .ref (a 0)), (1, .int x1)] := hl
  refine lv_aload_n hx hb dL_use_0 rfl (lv_at hl 0 rfl) ?_
  refine lv_iload_n hx hb dL_use_1 rfl (lv_at hl 1 rfl) ?_
  have hPc := hP
  have hDc := hD
  have hFc := fr_all hD hS hA
  have hKc := hK
  refine vx_callv (vx_runV (As := [.int x1]) (rest := []) ⟨hx, hb, hml, hown, hts⟩ (m_X3_use l hl9 dC dI cI cZ a zk H.size σ x1 hiv) (cwV 1 hts (gV k_364 k_365 k_366 k_20 k_367) rfl rfl rfl (by decide +kernel) ⟨Nat.le_of_ble_eq_true rfl, Nat.le_of_ble_eq_true rfl⟩) (pv_pu (q := (RX3, TX3, 6)) (q0 := 0) (ci := 3) hKc hPc hDc hz hS hFc rfl rfl) rfl rfl hl.1 rfl (lv_room (Nat.le_of_ble_eq_true rfl)) dL_use_2 ⟨Nat.le_of_ble_eq_true rfl, Nat.le_of_ble_eq_true rfl⟩) hS (fun q _ h => hFc q h) hFc (fun q _ h => hFc q h) ?_ ?_
  · intro E ce q9 u t H1 locs ht hvm hpx hB hz1 hk1 hS hc1 hc2 hc3
    obtain ⟨rfl, hP1, hK1, hD1⟩ := hB
    rw [ht] at hP1
    replace hP := hP1
    replace hD := hD1.weaken (fun _ _ _ h => hFc _ h)
    rcases er_use hpx with hE | hE
    · subst hE
      refine vx_catch (name := "java/lang/IllegalArgumentException") hown [] ⟨0, 5, 8, 19⟩ [⟨0, 5, 11, 32⟩] hTab (fun z hz9 => by cases hz9) (by decide) (by decide) (hts _ (kc k_258)) (va_Nw.use rfl (hz.2.2.2.1.1 _ (by decide))) hc1 hc2 hc3 ?_
      refine lv_astore_n (lv' := [(2, .ref q9), (0, .ref (a 0)), (1, .int x1)]) hx hb dL_use_8 rfl hl (by decide) rfl (fun ls hl => ?_)
      refine lv_iconst (v := 1) hx hb dL_use_9 (by decide) ?_
      refine W.widen (k := 2) (n := 12) (Nat.le_of_ble_eq_true rfl) (Nat.le_of_ble_eq_true rfl) ?_
      exact W.iret (v := 1) hx hb hr (fun t ht hW => ⟨⟨1, σ, rfl, (by rw [hpx]; exact congrArg (fun z => (z, σ)) (by decide)), by rw [ht]; exact hP, va_K.moved hW.alike hK, hD⟩, hS.F ht⟩) hS.2.2 dL_use_10
    · subst hE
      refine vx_catch (name := "java/lang/IllegalStateException") hown [⟨0, 5, 8, 19⟩] ⟨0, 5, 11, 32⟩ [] hTab (fun z hz9 => by
        simp only [List.mem_cons, List.not_mem_nil, or_false] at hz9
        rcases hz9 with rfl
        · exact Or.inr ⟨by decide, "java/lang/IllegalArgumentException", (hts _ (kc k_258)), hz.2.2.2.1.2.2.2 _ (by decide) _ (by decide) (by decide)⟩) (by decide) (by decide) (hts _ (kc k_299)) (va_Nw.use rfl (hz.2.2.2.1.1 _ (by decide))) hc1 hc2 hc3 ?_
      refine lv_astore_n (lv' := [(2, .ref q9), (0, .ref (a 0)), (1, .int x1)]) hx hb dL_use_11 rfl hl (by decide) rfl (fun ls hl => ?_)
      refine lv_iconst (v := 2) hx hb dL_use_12 (by decide) ?_
      refine W.widen (k := 2) (n := 12) (Nat.le_of_ble_eq_true rfl) (Nat.le_of_ble_eq_true rfl) ?_
      exact W.iret (v := 2) hx hb hr (fun t ht hW => ⟨⟨2, σ, rfl, (by rw [hpx]; exact congrArg (fun z => (z, σ)) (by decide)), by rw [ht]; exact hP, va_K.moved hW.alike hK, hD⟩, hS.F ht⟩) hS.2.2 dL_use_13
  · intro σ9 t H1 locs ht hvm hpo hB hz1 hk1 hS
    obtain ⟨hP1, hK1, hD1⟩ := hB
    rw [ht] at hP1
    replace hP := hP1
    replace hD := hD1.weaken (fun _ _ _ h => hFc _ h)
    refine lv_goto (tgt := 14) hx hb dL_use_5 (by decide) ?_
    refine lv_iconst (v := 0) hx hb dL_use_14 (by decide) ?_
    refine W.widen (k := 2) (n := 12) (Nat.le_of_ble_eq_true rfl) (Nat.le_of_ble_eq_true rfl) ?_
    exact W.iret (v := 0) hx hb hr (fun t ht hW => ⟨⟨0, σ9, rfl, (by rw [hpo]; rfl), by rw [ht]; exact hP, va_K.moved hW.alike hK, hD⟩, hS.F ht⟩) hS.2.2 dL_use_15
