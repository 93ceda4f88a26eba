set_option maxHeartbeats 4000000 in
set_option maxRecDepth 100000 in
theorem m_L_wash (l : Launch) (hl9 : l.stackTraces = false) (dC : Nat → ClassId) (dI : Nat → Nat → Nat) (cI cZ cL : ClassId) (a : Nat → Nat) (o : Nat) (zk : Nat → Nat) (sz : Nat) (σ : St) (g : Nat → Int64) (x1 : Int32) (x2 : Int32) (hiv : IV σ) : Met l yL_wash wsL_wash ({ frames := 8, cells := 3, slots := 18, locals := 133 }) (pOu dC dI cI cZ cL a o zk sz σ g [.ref (a 0), .int x1, .int x2, .ref o]) (va_Qi (fun r u => (r, u) = wo ["java/lang/IllegalArgumentException", "java/lang/IllegalStateException"] σ g (sp_wash σ x1 x2)) (bOu dC dI cI cZ cL a o (va_A (ow cI cZ cL a o σ g) sz)) (va_A (ow cI cZ cL a o σ g) sz)) 3 18 (va_A (ow cI cZ cL a o σ g) sz) := by
  refine va_MetW (cc := cL_wash) (maxL := 5) (ret := (some .int)) (by decide) rfl ?_
  intro p e s m args below meth c s₁ B hml hv
  obtain ⟨rfl, hsz, hP, hK, hD0, hz⟩ := hv
  have hx := B.exec
  have hb := B.bytes
  have hr := B.returns
  have hts := atoms_spec (ws := wsL_wash) B.pre
  have hown : s.vm.findClass RL = some m.cls := findClass_of_methodNamed B.named
  have hlocks := B.notSynchronized
  have hTab := vx_table (x := yL_wash) B (hts _ List.mem_cons_self)
  subst hsz
  have hD := hD0.self (sz := s.heap.size)
  generalize hAe : va_A (ow cI cZ cL a o σ g) s.heap.size = A at hD hz ⊢
  have hA : ∀ q : Nat, s.heap.size ≤ q → A q := fun q h => by rw [← hAe]; exact Or.inr h
  clear hAe hD0
  obtain ⟨H, hHe⟩ : ∃ z, z = s.heap := ⟨_, rfl⟩
  obtain ⟨locs, hLe⟩ : ∃ z : List Loc, z = [] := ⟨_, rfl⟩
  have hS : va_S A s.heap H locs := by rw [hHe, hLe]; exact va_S.rf
  have hP : va_P (dC, dI) vwCl (ow cI cZ cL a o σ g) H := by rw [hHe]; exact hP
  refine W_ofH hHe hLe ?_
  clear hHe hLe
  have hl := lv_entry ([.ref (a 0), .int x1, .int x2, .ref o]) (n := 5) (Nat.le_of_ble_eq_true rfl)
  rw [lg_entry_eq]
  generalize (lg_sl ([.ref (a 0), .int x1, .int x2, .ref o]) ++ List.replicate (5 - (lg_sl ([.ref (a 0), .int x1, .int x2, .ref o])).length) Slot.unset).toArray = ls at hl ⊢
  have hl : lv_has ls 5 [(0, .ref (a 0)), (1, .int x1), (2, .int x2), (3, .ref o)] := hl
  refine lv_aload_n hx hb dL_wash_0 rfl (lv_at hl 3 rfl) ?_
  refine lv_iconst (v := 0) hx hb dL_wash_1 (by decide) ?_
  refine lv_aload_n hx hb dL_wash_2 rfl (lv_at hl 0 rfl) ?_
  refine lv_iload_n hx hb dL_wash_3 rfl (lv_at hl 1 rfl) ?_
  refine lv_iload_n hx hb dL_wash_4 rfl (lv_at hl 2 rfl) ?_
  have hPc := hP.sub (ws' := cw cI cZ a σ) [0, 1, 2, 3, 4, 5, 6, 7, 8, 9, 10, 11, 12, 13, 14, 15, 16, 17, 18, 19, 20, 21, 22, 23, 24, 25, 26] rfl
  have hDc := hD.sub (ws' := cw cI cZ a σ) [0, 1, 2, 3, 4, 5, 6, 7, 8, 9, 10, 11, 12, 13, 14, 15, 16, 17, 18, 19, 20, 21, 22, 23, 24, 25, 26] (by decide) rfl
  have hFc := va_free (wc := cw cI cZ a σ) hD hS hA [0, 1, 2, 3, 4, 5, 6, 7, 8, 9, 10, 11, 12, 13, 14, 15, 16, 17, 18, 19, 20, 21, 22, 23, 24, 25, 26] rfl
  have hKc : va_K (dC, dI) vwCl [(cI, .int), (cZ, .boolean)] s := hK.sub [0, 1] rfl
  refine vx_calli (vx_runV (As := [.int x1, .int x2]) (rest := [.int 0, .ref o]) ⟨hx, hb, hml, hown, hts⟩ (m_X3_wash l hl9 dC dI cI cZ a zk H.size σ x1 x2 hiv) (cwV 2 hts (gV k_406 k_407 k_408 k_20 k_409) rfl rfl rfl (by decide +kernel) ⟨Nat.le_of_ble_eq_true rfl, Nat.le_of_ble_eq_true rfl⟩) (pv_pu (q := (RX3, TX3, 6)) (q0 := 0) (ci := 3) hKc hPc hDc hz hS hFc rfl rfl) rfl rfl hl.1 rfl (lv_room (Nat.le_of_ble_eq_true rfl)) dL_wash_5 ⟨Nat.le_of_ble_eq_true rfl, Nat.le_of_ble_eq_true rfl⟩) hS (fun q _ h => hFc q h) hFc (fun q _ h => hFc q h) ?_ ?_
  · intro E ce q9 u t H1 locs ht hvm hpx hB hz1 hk1 hS hc1 hc2 hc3
    obtain ⟨rfl, hP1, hK1, hD1⟩ := hB
    rw [ht] at hP1
    obtain ⟨hP2, hD2⟩ := va_join (wr := [(o, .inl (cL, 1, .inr (.inl g)))]) (w1 := cw cI cZ a σ) hP hD [0, 1, 2, 3, 4, 5, 6, 7, 8, 9, 10, 11, 12, 13, 14, 15, 16, 17, 18, 19, 20, 21, 22, 23, 24, 25, 26] [27] rfl rfl (by decide) (by decide) hk1 hFc hP1 hD1
    replace hP := hP2.sub (ws' := ow cI cZ cL a o σ g) [1, 2, 3, 4, 5, 6, 7, 8, 9, 10, 11, 12, 13, 14, 15, 16, 17, 18, 19, 20, 21, 22, 23, 24, 25, 26, 27, 0] rfl
    replace hD := hD2.sub (ws' := ow cI cZ cL a o σ g) [1, 2, 3, 4, 5, 6, 7, 8, 9, 10, 11, 12, 13, 14, 15, 16, 17, 18, 19, 20, 21, 22, 23, 24, 25, 26, 27, 0] (by decide) rfl
    rcases er_wash hpx with hE | hE
    · subst hE
      refine vx_catch (name := "java/lang/IllegalArgumentException") hown [] ⟨0, 10, 13, 19⟩ [⟨0, 10, 17, 32⟩] hTab (fun z hz9 => by cases hz9) (by decide) (by decide) (hts _ (kc k_258)) (va_Nw.use rfl (hz.2.2.2.1.1 _ (by decide))) hc1 hc2 hc3 ?_
      refine lv_astore (lv' := [(4, .ref q9), (0, .ref (a 0)), (1, .int x1), (2, .int x2), (3, .ref o)]) hx hb dL_wash_13 hl (by decide) rfl (fun ls hl => ?_)
      refine lv_iconst (v := 1) hx hb dL_wash_15 (by decide) ?_
      refine W.widen (k := 3) (n := 18) (Nat.le_of_ble_eq_true rfl) (Nat.le_of_ble_eq_true rfl) ?_
      exact W.iret (v := 1) hx hb hr (fun t ht hW => ⟨⟨1, (σ, g), rfl, (by rw [hpx]; exact congrArg (fun z => (z, (σ, g))) (by decide)), by rw [ht]; exact hP, va_K.moved hW.alike hK, hD⟩, hS.F ht⟩) hS.2.2 dL_wash_16
    · subst hE
      refine vx_catch (name := "java/lang/IllegalStateException") hown [⟨0, 10, 13, 19⟩] ⟨0, 10, 17, 32⟩ [] hTab (fun z hz9 => by
        simp only [List.mem_cons, List.not_mem_nil, or_false] at hz9
        rcases hz9 with rfl
        · exact Or.inr ⟨by decide, "java/lang/IllegalArgumentException", (hts _ (kc k_258)), hz.2.2.2.1.2.2.2 _ (by decide) _ (by decide) (by decide)⟩) (by decide) (by decide) (hts _ (kc k_299)) (va_Nw.use rfl (hz.2.2.2.1.1 _ (by decide))) hc1 hc2 hc3 ?_
      refine lv_astore (lv' := [(4, .ref q9), (0, .ref (a 0)), (1, .int x1), (2, .int x2), (3, .ref o)]) hx hb dL_wash_17 hl (by decide) rfl (fun ls hl => ?_)
      refine lv_iconst (v := 2) hx hb dL_wash_19 (by decide) ?_
      refine W.widen (k := 3) (n := 18) (Nat.le_of_ble_eq_true rfl) (Nat.le_of_ble_eq_true rfl) ?_
      exact W.iret (v := 2) hx hb hr (fun t ht hW => ⟨⟨2, (σ, g), rfl, (by rw [hpx]; exact congrArg (fun z => (z, (σ, g))) (by decide)), by rw [ht]; exact hP, va_K.moved hW.alike hK, hD⟩, hS.F ht⟩) hS.2.2 dL_wash_20
  · intro r σ9 t H1 locs ht hvm hpo hB hz1 hk1 hS
    obtain ⟨hP1, hK1, hD1⟩ := hB
    rw [ht] at hP1
    obtain ⟨hP2, hD2⟩ := va_join (wr := [(o, .inl (cL, 1, .inr (.inl g)))]) (w1 := cw cI cZ a σ9) hP hD [0, 1, 2, 3, 4, 5, 6, 7, 8, 9, 10, 11, 12, 13, 14, 15, 16, 17, 18, 19, 20, 21, 22, 23, 24, 25, 26] [27] rfl rfl (by decide) (by decide) hk1 hFc hP1 hD1
    replace hP := hP2.sub (ws' := ow cI cZ cL a o σ9 g) [1, 2, 3, 4, 5, 6, 7, 8, 9, 10, 11, 12, 13, 14, 15, 16, 17, 18, 19, 20, 21, 22, 23, 24, 25, 26, 27, 0] rfl
    replace hD := hD2.sub (ws' := ow cI cZ cL a o σ9 g) [1, 2, 3, 4, 5, 6, 7, 8, 9, 10, 11, 12, 13, 14, 15, 16, 17, 18, 19, 20, 21, 22, 23, 24, 25, 26, 27, 0] (by decide) rfl
    refine lv_i2l hx hb dL_wash_8 rfl ?_
    refine va_last (D := (dC, dI)) (f := g) hx hb hK hP hD hS 27 2 rfl rfl (i := 0) (x := r.toInt64) (vp_lit 0 (by decide)) dL_wash_9 (fun H2 locs hP hD hS => ?_)
    replace hP : va_P (dC, dI) vwCl (ow cI cZ cL a o σ9 (vp_updL g 0 r.toInt64)) H2 := hP
    replace hD : va_D A (ow cI cZ cL a o σ9 (vp_updL g 0 r.toInt64)) := hD
    refine lv_goto (tgt := 21) hx hb dL_wash_10 (by decide) ?_
    refine lv_iconst (v := 0) hx hb dL_wash_21 (by decide) ?_
    refine W.widen (k := 3) (n := 18) (Nat.le_of_ble_eq_true rfl) (Nat.le_of_ble_eq_true rfl) ?_
    exact W.iret (v := 0) hx hb hr (fun t ht hW => ⟨⟨0, (σ9, vp_updL g 0 r.toInt64), rfl, (by rw [hpo]; rfl), by rw [ht]; exact hP, va_K.moved hW.alike hK, hD⟩, hS.F ht⟩) hS.2.2 dL_wash_22
set_option maxHeartbeats 4000000 in
set_option maxRecDepth 100000 in
theorem m_L_result (l : Launch) (hl9 : l.stackTraces = false) (dC : Nat → ClassId) (dI : Nat → Nat → Nat) (cI cZ cL : ClassId) (a : Nat → Nat) (o : Nat) (zk : Nat → Nat) (sz : Nat) (σ : St) (g : Nat → Int64) (x1 : Int32) (x2 : Int32) (x3 : Int32) (hiv : IV σ) : Met l yL_result wsL_result ({ frames := 8, cells := 4, slots := 24, locals := 136 }) (pOu dC dI cI cZ cL a o zk sz σ g [.ref (a 0), .int x1, .int x2, .int x3, .ref o]) (va_Qi (fun r u => (r, u) = wo ["java/lang/IllegalArgumentException", "java/lang/IndexOutOfBoundsException", "java/lang/IllegalStateException"] σ g (sp_result σ x1 x2 x3)) (bOu dC dI cI cZ cL a o (va_A (ow cI cZ cL a o σ g) sz)) (va_A (ow cI cZ cL a o σ g) sz)) 4 24 (va_A (ow cI cZ cL a o σ g) sz) := by
  refine va_MetW (cc := cL_result) (maxL := 6) (ret := (some .int)) (by decide) rfl ?_
  intro p e s m args below meth c s₁ B hml hv
  obtain ⟨rfl, hsz, hP, hK, hD0, hz⟩ := hv
  have hx := B.exec
  have hb := B.bytes
  have hr := B.returns
  have hts := atoms_spec (ws := wsL_result) B.pre
  have hown : s.vm.findClass RL = some m.cls := findClass_of_methodNamed B.named
  have hlocks := B.notSynchronized
  have hTab := vx_table (x := yL_result) B (hts _ List.mem_cons_self)
  subst hsz
  have hD := hD0.self (sz := s.heap.size)
  generalize hAe : va_A (ow cI cZ cL a o σ g) s.heap.size = A at hD hz ⊢
  have hA : ∀ q : Nat, s.heap.size ≤ q → A q := fun q h => by rw [← hAe]; exact Or.inr h
  clear hAe hD0
  obtain ⟨H, hHe⟩ : ∃ z, z = s.heap := ⟨_, rfl⟩
  obtain ⟨locs, hLe⟩ : ∃ z : List Loc, z = [] := ⟨_, rfl⟩
  have hS : va_S A s.heap H locs := by rw [hHe, hLe]; exact va_S.rf
  have hP : va_P (dC, dI) vwCl (ow cI cZ cL a o σ g) H := by rw [hHe]; exact hP
  refine W_ofH hHe hLe ?_
  clear hHe hLe
  have hl := lv_entry ([.ref (a 0), .int x1, .int x2, .int x3, .ref o]) (n := 6) (Nat.le_of_ble_eq_true rfl)
  rw [lg_entry_eq]
  generalize (lg_sl ([.ref (a 0), .int x1, .int x2, .int x3, .ref o]) ++ List.replicate (6 - (lg_sl ([.ref (a 0), .int x1, .int x2, .int x3, .ref o])).length) Slot.unset).toArray = ls at hl ⊢
  have hl : lv_has ls 6 [(0, .ref (a 0)), (1, .int x1), (2, .int x2), (3, .int x3), (4, .ref o)] := hl
  refine lv_aload hx hb dL_result_0 (lv_at hl 4 rfl) ?_
  refine lv_iconst (v := 0) hx hb dL_result_2 (by decide) ?_
  refine lv_aload_n hx hb dL_result_3 rfl (lv_at hl 0 rfl) ?_
  refine lv_iload_n hx hb dL_result_4 rfl (lv_at hl 1 rfl) ?_
  refine lv_iload_n hx hb dL_result_5 rfl (lv_at hl 2 rfl) ?_
  refine lv_iload_n hx hb dL_result_6 rfl (lv_at hl 3 rfl) ?_
  have hPc := hP.sub (ws' := cw cI cZ a σ) [0, 1, 2, 3, 4, 5, 6, 7, 8, 9, 10, 11, 12, 13, 14, 15, 16, 17, 18, 19, 20, 21, 22, 23, 24, 25, 26] rfl
  have hDc := hD.sub (ws' := cw cI cZ a σ) [0, 1, 2, 3, 4, 5, 6, 7, 8, 9, 10, 11, 12, 13, 14, 15, 16, 17, 18, 19, 20, 21, 22, 23, 24, 25, 26] (by decide) rfl
  have hFc := va_free (wc := cw cI cZ a σ) hD hS hA [0, 1, 2, 3, 4, 5, 6, 7, 8, 9, 10, 11, 12, 13, 14, 15, 16, 17, 18, 19, 20, 21, 22, 23, 24, 25, 26] rfl
  have hKc : va_K (dC, dI) vwCl [(cI, .int), (cZ, .boolean)] s := hK.sub [0, 1] rfl
  refine vx_calli (vx_runV (As := [.int x1, .int x2, .int x3]) (rest := [.int 0, .ref o]) ⟨hx, hb, hml, hown, hts⟩ (m_X3_result l hl9 dC dI cI cZ a zk H.size σ x1 x2 x3 hiv) (cwV 3 hts (gV k_413 k_414 k_415 k_20 k_416) rfl rfl rfl (by decide +kernel) ⟨Nat.le_of_ble_eq_true rfl, Nat.le_of_ble_eq_true rfl⟩) (pv_pu (q := (RX3, TX3, 6)) (q0 := 0) (ci := 3) hKc hPc hDc hz hS hFc rfl rfl) rfl rfl hl.1 rfl (lv_room (Nat.le_of_ble_eq_true rfl)) dL_result_7 ⟨Nat.le_of_ble_eq_true rfl, Nat.le_of_ble_eq_true rfl⟩) hS (fun q _ h => hFc q h) hFc (fun q _ h => hFc q h) ?_ ?_
  · intro E ce q9 u t H1 locs ht hvm hpx hB hz1 hk1 hS hc1 hc2 hc3
    obtain ⟨rfl, hP1, hK1, hD1⟩ := hB
    rw [ht] at hP1
    obtain ⟨hP2, hD2⟩ := va_join (wr := [(o, .inl (cL, 1, .inr (.inl g)))]) (w1 := cw cI cZ a σ) hP hD [0, 1, 2, 3, 4, 5, 6, 7, 8, 9, 10, 11, 12, 13, 14, 15, 16, 17, 18, 19, 20, 21, 22, 23, 24, 25, 26] [27] rfl rfl (by decide) (by decide) hk1 hFc hP1 hD1
    replace hP := hP2.sub (ws' := ow cI cZ cL a o σ g) [1, 2, 3, 4, 5, 6, 7, 8, 9, 10, 11, 12, 13, 14, 15, 16, 17, 18, 19, 20, 21, 22, 23, 24, 25, 26, 27, 0] rfl
    replace hD := hD2.sub (ws' := ow cI cZ cL a o σ g) [1, 2, 3, 4, 5, 6, 7, 8, 9, 10, 11, 12, 13, 14, 15, 16, 17, 18, 19, 20, 21, 22, 23, 24, 25, 26, 27, 0] (by decide) rfl
    rcases er_result hpx with hE | hE | hE
    · subst hE
      refine vx_catch (name := "java/lang/IllegalArgumentException") hown [] ⟨0, 12, 15, 19⟩ [⟨0, 12, 19, 13⟩, ⟨0, 12, 23, 32⟩] hTab (fun z hz9 => by cases hz9) (by decide) (by decide) (hts _ (kc k_258)) (va_Nw.use rfl (hz.2.2.2.1.1 _ (by decide))) hc1 hc2 hc3 ?_
      refine lv_astore (lv' := [(5, .ref q9), (0, .ref (a 0)), (1, .int x1), (2, .int x2), (3, .int x3), (4, .ref o)]) hx hb dL_result_15 hl (by decide) rfl (fun ls hl => ?_)
      refine lv_iconst (v := 1) hx hb dL_result_17 (by decide) ?_
      refine W.widen (k := 4) (n := 24) (Nat.le_of_ble_eq_true rfl) (Nat.le_of_ble_eq_true rfl) ?_
      exact W.iret (v := 1) hx hb hr (fun t ht hW => ⟨⟨1, (σ, g), rfl, (by rw [hpx]; exact congrArg (fun z => (z, (σ, g))) (by decide)), by rw [ht]; exact hP, va_K.moved hW.alike hK, hD⟩, hS.F ht⟩) hS.2.2 dL_result_18
    · subst hE
      refine vx_catch (name := "java/lang/IndexOutOfBoundsException") hown [⟨0, 12, 15, 19⟩] ⟨0, 12, 19, 13⟩ [⟨0, 12, 23, 32⟩] hTab (fun z hz9 => by
        simp only [List.mem_cons, List.not_mem_nil, or_false] at hz9
        rcases hz9 with rfl
        · exact Or.inr ⟨by decide, "java/lang/IllegalArgumentException", (hts _ (kc k_258)), hz.2.2.2.1.2.2.2 _ (by decide) _ (by decide) (by decide)⟩) (by decide) (by decide) (hts _ (kc k_176)) (va_Nw.use rfl (hz.2.2.2.1.1 _ (by decide))) hc1 hc2 hc3 ?_
      refine lv_astore (lv' := [(5, .ref q9), (0, .ref (a 0)), (1, .int x1), (2, .int x2), (3, .int x3), (4, .ref o)]) hx hb dL_result_19 hl (by decide) rfl (fun ls hl => ?_)
      refine lv_iconst (v := 2) hx hb dL_result_21 (by decide) ?_
      refine W.widen (k := 4) (n := 24) (Nat.le_of_ble_eq_true rfl) (Nat.le_of_ble_eq_true rfl) ?_
      exact W.iret (v := 2) hx hb hr (fun t ht hW => ⟨⟨2, (σ, g), rfl, (by rw [hpx]; exact congrArg (fun z => (z, (σ, g))) (by decide)), by rw [ht]; exact hP, va_K.moved hW.alike hK, hD⟩, hS.F ht⟩) hS.2.2 dL_result_22
    · subst hE
      refine vx_catch (name := "java/lang/IllegalStateException") hown [⟨0, 12, 15, 19⟩, ⟨0, 12, 19, 13⟩] ⟨0, 12, 23, 32⟩ [] hTab (fun z hz9 => by
        simp only [List.mem_cons, List.not_mem_nil, or_false] at hz9
        rcases hz9 with rfl | rfl
        · exact Or.inr ⟨by decide, "java/lang/IllegalArgumentException", (hts _ (kc k_258)), hz.2.2.2.1.2.2.2 _ (by decide) _ (by decide) (by decide)⟩
        · exact Or.inr ⟨by decide, "java/lang/IndexOutOfBoundsException", (hts _ (kc k_176)), hz.2.2.2.1.2.2.2 _ (by decide) _ (by decide) (by decide)⟩) (by decide) (by decide) (hts _ (kc k_299)) (va_Nw.use rfl (hz.2.2.2.1.1 _ (by decide))) hc1 hc2 hc3 ?_
      refine lv_astore (lv' := [(5, .ref q9), (0, .ref (a 0)), (1, .int x1), (2, .int x2), (3, .int x3), (4, .ref o)]) hx hb dL_result_23 hl (by decide) rfl (fun ls hl => ?_)
      refine lv_iconst (v := 3) hx hb dL_result_25 (by decide) ?_
      refine W.widen (k := 4) (n := 24) (Nat.le_of_ble_eq_true rfl) (Nat.le_of_ble_eq_true rfl) ?_
      exact W.iret (v := 3) hx hb hr (fun t ht hW => ⟨⟨3, (σ, g), rfl, (by rw [hpx]; exact congrArg (fun z => (z, (σ, g))) (by decide)), by rw [ht]; exact hP, va_K.moved hW.alike hK, hD⟩, hS.F ht⟩) hS.2.2 dL_result_26
  · intro r σ9 t H1 locs ht hvm hpo hB hz1 hk1 hS
    obtain ⟨hP1, hK1, hD1⟩ := hB
    rw [ht] at hP1
    obtain ⟨hP2, hD2⟩ := va_join (wr := [(o, .inl (cL, 1, .inr (.inl g)))]) (w1 := cw cI cZ a σ9) hP hD [0, 1, 2, 3, 4, 5, 6, 7, 8, 9, 10, 11, 12, 13, 14, 15, 16, 17, 18, 19, 20, 21, 22, 23, 24, 25, 26] [27] rfl rfl (by decide) (by decide) hk1 hFc hP1 hD1
    replace hP := hP2.sub (ws' := ow cI cZ cL a o σ9 g) [1, 2, 3, 4, 5, 6, 7, 8, 9, 10, 11, 12, 13, 14, 15, 16, 17, 18, 19, 20, 21, 22, 23, 24, 25, 26, 27, 0] rfl
    replace hD := hD2.sub (ws' := ow cI cZ cL a o σ9 g) [1, 2, 3, 4, 5, 6, 7, 8, 9, 10, 11, 12, 13, 14, 15, 16, 17, 18, 19, 20, 21, 22, 23, 24, 25, 26, 27, 0] (by decide) rfl
    refine lv_i2l hx hb dL_result_10 rfl ?_
    refine va_last (D := (dC, dI)) (f := g) hx hb hK hP hD hS 27 2 rfl rfl (i := 0) (x := r.toInt64) (vp_lit 0 (by decide)) dL_result_11 (fun H2 locs hP hD hS => ?_)
    replace hP : va_P (dC, dI) vwCl (ow cI cZ cL a o σ9 (vp_updL g 0 r.toInt64)) H2 := hP
    replace hD : va_D A (ow cI cZ cL a o σ9 (vp_updL g 0 r.toInt64)) := hD
    refine lv_goto (tgt := 27) hx hb dL_result_12 (by decide) ?_
    refine lv_iconst (v := 0) hx hb dL_result_27 (by decide) ?_
    refine W.widen (k := 4) (n := 24) (Nat.le_of_ble_eq_true rfl) (Nat.le_of_ble_eq_true rfl) ?_
    exact W.iret (v := 0) hx hb hr (fun t ht hW => ⟨⟨0, (σ9, vp_updL g 0 r.toInt64), rfl, (by rw [hpo]; rfl), by rw [ht]; exact hP, va_K.moved hW.alike hK, hD⟩, hS.F ht⟩) hS.2.2 dL_result_28
set_option maxHeartbeats 4000000 in
set_option maxRecDepth 100000 in
theorem m_L_load (l : Launch) (hl9 : l.stackTraces = false) (dC : Nat → ClassId) (dI : Nat → Nat → Nat) (cI cZ : ClassId) (a : Nat → Nat) (zk : Nat → Nat) (sz : Nat) (σ : St) (x1 : Int32) (x2 : Int32) (hiv : IV σ) : Met l yL_load wsL_load ({ frames := 8, cells := 3, slots := 18, locals := 133 }) (pPu dC dI cI cZ a zk sz σ [.ref (a 0), .int x1, .int x2]) (va_Qi (fun r u => (r, u) = wv ["java/lang/IllegalArgumentException", "java/lang/IllegalStateException"] σ (sp_load σ x1 x2)) (bMu dC dI cI cZ a (va_A (cw cI cZ a σ) sz)) (va_A (cw cI cZ a σ) sz)) 3 18 (va_A (cw cI cZ a σ) sz) := by
  refine va_MetW (cc := cL_load) (maxL := 4) (ret := (some .int)) (by decide) rfl ?_
  intro p e s m args below meth c s₁ B hml hv
  obtain ⟨rfl, hsz, hP, hK, hD0, hz⟩ := hv
  have hx := B.exec
  have hb := B.bytes
  have hr := B.returns
  have hts := atoms_spec (ws := wsL_load) B.pre
  have hown : s.vm.findClass RL = some m.cls := findClass_of_methodNamed B.named
  have hlocks := B.notSynchronized
  have hTab := vx_table (x := yL_load) B (hts _ List.mem_cons_self)
  subst hsz
  have hD := hD0.self (sz := s.heap.size)
  generalize hAe : va_A (cw cI cZ a σ) s.heap.size = A at hD hz ⊢
  have hA : ∀ q : Nat, s.heap.size ≤ q → A q := fun q h => by rw [← hAe]; exact Or.inr h
  clear hAe hD0
  obtain ⟨H, hHe⟩ : ∃ z, z = s.heap := ⟨_, rfl⟩
  obtain ⟨locs, hLe⟩ : ∃ z : List Loc, z = [] := ⟨_, rfl⟩
  have hS : va_S A s.heap H locs := by rw [hHe, hLe]; exact va_S.rf
  have hP : va_P (dC, dI) vwCl (cw cI cZ a σ) H := by rw [hHe]; exact hP
  refine W_ofH hHe hLe ?_
  clear hHe hLe
  have hl := lv_entry ([.ref (a 0), .int x1, .int x2]) (n := 4) (Nat.le_of_ble_eq_true rfl)
  rw [lg_entry_eq]
  generalize (lg_sl ([.ref (a 0), .int x1, .int x2]) ++ List.replicate (4 - (lg_sl ([.ref (a 0), .int x1, .int x2])).length) Slot.unset).toArray = ls at hl ⊢
  have hl : lv_has ls 4 [(0, .ref (a 0)), (1, .int x1), (2, .int x2)] := hl
  refine lv_aload_n hx hb dL_load_0 rfl (lv_at hl 0 rfl) ?_
  refine lv_iload_n hx hb dL_load_1 rfl (lv_at hl 1 rfl) ?_
  refine lv_iload_n hx hb dL_load_2 rfl (lv_at hl 2 rfl) ?_
  have hPc := hP
  have hDc := hD
  have hFc := fr_all hD hS hA
  have hKc := hK
  refine vx_callv (vx_runV (As := [.int x1, .int x2]) (rest := []) ⟨hx, hb, hml, hown, hts⟩ (m_X3_load l hl9 dC dI cI cZ a zk H.size σ x1 x2 hiv) (cwV 2 hts (gV k_428 k_429 k_430 k_20 k_431) rfl rfl rfl (by decide +kernel) ⟨Nat.le_of_ble_eq_true rfl, Nat.le_of_ble_eq_true rfl⟩) (pv_pu (q := (RX3, TX3, 6)) (q0 := 0) (ci := 3) hKc hPc hDc hz hS hFc rfl rfl) rfl rfl hl.1 rfl (lv_room (Nat.le_of_ble_eq_true rfl)) dL_load_3 ⟨Nat.le_of_ble_eq_true rfl, Nat.le_of_ble_eq_true rfl⟩) hS (fun q _ h => hFc q h) hFc (fun q _ h => hFc q h) ?_ ?_
  · intro E ce q9 u t H1 locs ht hvm hpx hB hz1 hk1 hS hc1 hc2 hc3
    obtain ⟨rfl, hP1, hK1, hD1⟩ := hB
    rw [ht] at hP1
    replace hP := hP1
    replace hD := hD1.weaken (fun _ _ _ h => hFc _ h)
    rcases er_load hpx with hE | hE
    · subst hE
      refine vx_catch (name := "java/lang/IllegalArgumentException") hown [] ⟨0, 6, 9, 19⟩ [⟨0, 6, 12, 32⟩] hTab (fun z hz9 => by cases hz9) (by decide) (by decide) (hts _ (kc k_258)) (va_Nw.use rfl (hz.2.2.2.1.1 _ (by decide))) hc1 hc2 hc3 ?_
      refine lv_astore_n (lv' := [(3, .ref q9), (0, .ref (a 0)), (1, .int x1), (2, .int x2)]) hx hb dL_load_9 rfl hl (by decide) rfl (fun ls hl => ?_)
      refine lv_iconst (v := 1) hx hb dL_load_10 (by decide) ?_
      refine W.widen (k := 3) (n := 18) (Nat.le_of_ble_eq_true rfl) (Nat.le_of_ble_eq_true rfl) ?_
      exact W.iret (v := 1) hx hb hr (fun t ht hW => ⟨⟨1, σ, rfl, (by rw [hpx]; exact congrArg (fun z => (z, σ)) (by decide)), by rw [ht]; exact hP, va_K.moved hW.alike hK, hD⟩, hS.F ht⟩) hS.2.2 dL_load_11
    · subst hE
      refine vx_catch (name := "java/lang/IllegalStateException") hown [⟨0, 6, 9, 19⟩] ⟨0, 6, 12, 32⟩ [] hTab (fun z hz9 => by
        simp only [List.mem_cons, List.not_mem_nil, or_false] at hz9
        rcases hz9 with rfl
        · exact Or.inr ⟨by decide, "java/lang/IllegalArgumentException", (hts _ (kc k_258)), hz.2.2.2.1.2.2.2 _ (by decide) _ (by decide) (by decide)⟩) (by decide) (by decide) (hts _ (kc k_299)) (va_Nw.use rfl (hz.2.2.2.1.1 _ (by decide))) hc1 hc2 hc3 ?_
      refine lv_astore_n (lv' := [(3, .ref q9), (0, .ref (a 0)), (1, .int x1), (2, .int x2)]) hx hb dL_load_12 rfl hl (by decide) rfl (fun ls hl => ?_)
      refine lv_iconst (v := 2) hx hb dL_load_13 (by decide) ?_
      refine W.widen (k := 3) (n := 18) (Nat.le_of_ble_eq_true rfl) (Nat.le_of_ble_eq_true rfl) ?_
      exact W.iret (v := 2) hx hb hr (fun t ht hW => ⟨⟨2, σ, rfl, (by rw [hpx]; exact congrArg (fun z => (z, σ)) (by decide)), by rw [ht]; exact hP, va_K.moved hW.alike hK, hD⟩, hS.F ht⟩) hS.2.2 dL_load_14
  · intro σ9 t H1 locs ht hvm hpo hB hz1 hk1 hS
    obtain ⟨hP1, hK1, hD1⟩ := hB
    rw [ht] at hP1
    replace hP := hP1
    replace hD := hD1.weaken (fun _ _ _ h => hFc _ h)
    refine lv_goto (tgt := 15) hx hb dL_load_6 (by decide) ?_
    refine lv_iconst (v := 0) hx hb dL_load_15 (by decide) ?_
    refine W.widen (k := 3) (n := 18) (Nat.le_of_ble_eq_true rfl) (Nat.le_of_ble_eq_true rfl) ?_
    exact W.iret (v := 0) hx hb hr (fun t ht hW => ⟨⟨0, σ9, rfl, (by rw [hpo]; rfl), by rw [ht]; exact hP, va_K.moved hW.alike hK, hD⟩, hS.F ht⟩) hS.2.2 dL_load_16
set_option maxHeartbeats 4000000 in
set_option maxRecDepth 100000 in
theorem m_L_recall (l : Launch) (hl9 : l.stackTraces = false) (dC : Nat → ClassId) (dI : Nat → Nat → Nat) (cI cZ cL : ClassId) (a : Nat → Nat) (o : Nat) (zk : Nat → Nat) (sz : Nat) (σ : St) (g : Nat → Int64) (x1 : Int32) (x2 : Int32) (hiv : IV σ) : Met l yL_recall wsL_recall ({ frames := 8, cells := 2, slots := 12, locals := 133 }) (pOu dC dI cI cZ cL a o zk sz σ g [.ref (a 0), .int x1, .int x2, .ref o]) (va_Qi (fun r u => (r, u) = wo ["java/lang/IllegalArgumentException", "java/lang/IllegalStateException"] σ g (sp_recall σ x1 x2)) (bOu dC dI cI cZ cL a o (va_A (ow cI cZ cL a o σ g) sz)) (va_A (ow cI cZ cL a o σ g) sz)) 2 12 (va_A (ow cI cZ cL a o σ g) sz) := by
  refine va_MetW (cc := cL_recall) (maxL := 5) (ret := (some .int)) (by decide) rfl ?_
  intro p e s m args below meth c s₁ B hml hv
  obtain ⟨rfl, hsz, hP, hK, hD0, hz⟩ := hv
  have hx := B.exec
  have hb := B.bytes
  have hr := B.returns
  have hts := atoms_spec (ws := wsL_recall) B.pre
  have hown : s.vm.findClass RL = some m.cls := findClass_of_methodNamed B.named
  have hlocks := B.notSynchronized
  have hTab := vx_table (x := yL_recall) B (hts _ List.mem_cons_self)
  subst hsz
  have hD := hD0.self (sz := s.heap.size)
  generalize hAe : va_A (ow cI cZ cL a o σ g) s.heap.size = A at hD hz ⊢
  have hA : ∀ q : Nat, s.heap.size ≤ q → A q := fun q h => by rw [← hAe]; exact Or.inr h
  clear hAe hD0
  obtain ⟨H, hHe⟩ : ∃ z, z = s.heap := ⟨_, rfl⟩
  obtain ⟨locs, hLe⟩ : ∃ z : List Loc, z = [] := ⟨_, rfl⟩
  have hS : va_S A s.heap H locs := by rw [hHe, hLe]; exact va_S.rf
  have hP : va_P (dC, dI) vwCl (ow cI cZ cL a o σ g) H := by rw [hHe]; exact hP
  refine W_ofH hHe hLe ?_
  clear hHe hLe
  have hl := lv_entry ([.ref (a 0), .int x1, .int x2, .ref o]) (n := 5) (Nat.le_of_ble_eq_true rfl)
  rw [lg_entry_eq]
  generalize (lg_sl ([.ref (a 0), .int x1, .int x2, .ref o]) ++ List.replicate (5 - (lg_sl ([.ref (a 0), .int x1, .int x2, .ref o])).length) Slot.unset).toArray = ls at hl ⊢
  have hl : lv_has ls 5 [(0, .ref (a 0)), (1, .int x1), (2, .int x2), (3, .ref o)] := hl
  refine lv_aload_n hx hb dL_recall_0 rfl (lv_at hl 3 rfl) ?_
  refine lv_iconst (v := 0) hx hb dL_recall_1 (by decide) ?_
  refine lv_aload_n hx hb dL_recall_2 rfl (lv_at hl 0 rfl) ?_
  refine lv_iload_n hx hb dL_recall_3 rfl (lv_at hl 1 rfl) ?_
  refine lv_iload_n hx hb dL_recall_4 rfl (lv_at hl 2 rfl) ?_
  have hPc := hP.sub (ws' := cw cI cZ a σ) [0, 1, 2, 3, 4, 5, 6, 7, 8, 9, 10, 11, 12, 13, 14, 15, 16, 17, 18, 19, 20, 21, 22, 23, 24, 25, 26] rfl
  have hDc := hD.sub (ws' := cw cI cZ a σ) [0, 1, 2, 3, 4, 5, 6, 7, 8, 9, 10, 11, 12, 13, 14, 15, 16, 17, 18, 19, 20, 21, 22, 23, 24, 25, 26] (by decide) rfl
  have hFc := va_free (wc := cw cI cZ a σ) hD hS hA [0, 1, 2, 3, 4, 5, 6, 7, 8, 9, 10, 11, 12, 13, 14, 15, 16, 17, 18, 19, 20, 21, 22, 23, 24, 25, 26] rfl
  have hKc : va_K (dC, dI) vwCl [(cI, .int), (cZ, .boolean)] s := hK.sub [0, 1] rfl
  refine vx_calli (vx_runV (As := [.int x1, .int x2]) (rest := [.int 0, .ref o]) ⟨hx, hb, hml, hown, hts⟩ (m_X3_recall l hl9 dC dI cI cZ a zk H.size σ x1 x2 hiv) (cwV 2 hts (gV k_435 k_436 k_437 k_20 k_438) rfl rfl rfl (by decide +kernel) ⟨Nat.le_of_ble_eq_true rfl, Nat.le_of_ble_eq_true rfl⟩) (pv_pu (q := (RX3, TX3, 6)) (q0 := 0) (ci := 3) hKc hPc hDc hz hS hFc rfl rfl) rfl rfl hl.1 rfl (lv_room (Nat.le_of_ble_eq_true rfl)) dL_recall_5 ⟨Nat.le_of_ble_eq_true rfl, Nat.le_of_ble_eq_true rfl⟩) hS (fun q _ h => hFc q h) hFc (fun q _ h => hFc q h) ?_ ?_
  · intro E ce q9 u t H1 locs ht hvm hpx hB hz1 hk1 hS hc1 hc2 hc3
    obtain ⟨rfl, hP1, hK1, hD1⟩ := hB
    rw [ht] at hP1
    obtain ⟨hP2, hD2⟩ := va_join (wr := [(o, .inl (cL, 1, .inr (.inl g)))]) (w1 := cw cI cZ a σ) hP hD [0, 1, 2, 3, 4, 5, 6, 7, 8, 9, 10, 11, 12, 13, 14, 15, 16, 17, 18, 19, 20, 21, 22, 23, 24, 25, 26] [27] rfl rfl (by decide) (by decide) hk1 hFc hP1 hD1
    replace hP := hP2.sub (ws' := ow cI cZ cL a o σ g) [1, 2, 3, 4, 5, 6, 7, 8, 9, 10, 11, 12, 13, 14, 15, 16, 17, 18, 19, 20, 21, 22, 23, 24, 25, 26, 27, 0] rfl
    replace hD := hD2.sub (ws' := ow cI cZ cL a o σ g) [1, 2, 3, 4, 5, 6, 7, 8, 9, 10, 11, 12, 13, 14, 15, 16, 17, 18, 19, 20, 21, 22, 23, 24, 25, 26, 27, 0] (by decide) rfl
    rcases er_recall hpx with hE | hE
    · subst hE
      refine vx_catch (name := "java/lang/IllegalArgumentException") hown [] ⟨0, 10, 13, 19⟩ [⟨0, 10, 17, 32⟩] hTab (fun z hz9 => by cases hz9) (by decide) (by decide) (hts _ (kc k_258)) (va_Nw.use rfl (hz.2.2.2.1.1 _ (by decide))) hc1 hc2 hc3 ?_
      refine lv_astore (lv' := [(4, .ref q9), (0, .ref (a 0)), (1, .int x1), (2, .int x2), (3, .ref o)]) hx hb dL_recall_13 hl (by decide) rfl (fun ls hl => ?_)
      refine lv_iconst (v := 1) hx hb dL_recall_15 (by decide) ?_
      refine W.widen (k := 2) (n := 12) (Nat.le_of_ble_eq_true rfl) (Nat.le_of_ble_eq_true rfl) ?_
      exact W.iret (v := 1) hx hb hr (fun t ht hW => ⟨⟨1, (σ, g), rfl, (by rw [hpx]; exact congrArg (fun z => (z, (σ, g))) (by decide)), by rw [ht]; exact hP, va_K.moved hW.alike hK, hD⟩, hS.F ht⟩) hS.2.2 dL_recall_16
    · subst hE
      refine vx_catch (name := "java/lang/IllegalStateException") hown [⟨0, 10, 13, 19⟩] ⟨0, 10, 17, 32⟩ [] hTab (fun z hz9 => by
        simp only [List.mem_cons, List.not_mem_nil, or_false] at hz9
        rcases hz9 with rfl
        · exact Or.inr ⟨by decide, "java/lang/IllegalArgumentException", (hts _ (kc k_258)), hz.2.2.2.1.2.2.2 _ (by decide) _ (by decide) (by decide)⟩) (by decide) (by decide) (hts _ (kc k_299)) (va_Nw.use rfl (hz.2.2.2.1.1 _ (by decide))) hc1 hc2 hc3 ?_
      refine lv_astore (lv' := [(4, .ref q9), (0, .ref (a 0)), (1, .int x1), (2, .int x2), (3, .ref o)]) hx hb dL_recall_17 hl (by decide) rfl (fun ls hl => ?_)
      refine lv_iconst (v := 2) hx hb dL_recall_19 (by decide) ?_
      refine W.widen (k := 2) (n := 12) (Nat.le_of_ble_eq_true rfl) (Nat.le_of_ble_eq_true rfl) ?_
      exact W.iret (v := 2) hx hb hr (fun t ht hW => ⟨⟨2, (σ, g), rfl, (by rw [hpx]; exact congrArg (fun z => (z, (σ, g))) (by decide)), by rw [ht]; exact hP, va_K.moved hW.alike hK, hD⟩, hS.F ht⟩) hS.2.2 dL_recall_20
  · intro r σ9 t H1 locs ht hvm hpo hB hz1 hk1 hS
    obtain ⟨hP1, hK1, hD1⟩ := hB
    rw [ht] at hP1
    obtain ⟨hP2, hD2⟩ := va_join (wr := [(o, .inl (cL, 1, .inr (.inl g)))]) (w1 := cw cI cZ a σ9) hP hD [0, 1, 2, 3, 4, 5, 6, 7, 8, 9, 10, 11, 12, 13, 14, 15, 16, 17, 18, 19, 20, 21, 22, 23, 24, 25, 26] [27] rfl rfl (by decide) (by decide) hk1 hFc hP1 hD1
    replace hP := hP2.sub (ws' := ow cI cZ cL a o σ9 g) [1, 2, 3, 4, 5, 6, 7, 8, 9, 10, 11, 12, 13, 14, 15, 16, 17, 18, 19, 20, 21, 22, 23, 24, 25, 26, 27, 0] rfl
    replace hD := hD2.sub (ws' := ow cI cZ cL a o σ9 g) [1, 2, 3, 4, 5, 6, 7, 8, 9, 10, 11, 12, 13, 14, 15, 16, 17, 18, 19, 20, 21, 22, 23, 24, 25, 26, 27, 0] (by decide) rfl
    refine lv_i2l hx hb dL_recall_8 rfl ?_
    refine va_last (D := (dC, dI)) (f := g) hx hb hK hP hD hS 27 2 rfl rfl (i := 0) (x := r.toInt64) (vp_lit 0 (by decide)) dL_recall_9 (fun H2 locs hP hD hS => ?_)
    replace hP : va_P (dC, dI) vwCl (ow cI cZ cL a o σ9 (vp_updL g 0 r.toInt64)) H2 := hP
    replace hD : va_D A (ow cI cZ cL a o σ9 (vp_updL g 0 r.toInt64)) := hD
    refine lv_goto (tgt := 21) hx hb dL_recall_10 (by decide) ?_
    refine lv_iconst (v := 0) hx hb dL_recall_21 (by decide) ?_
    refine W.widen (k := 2) (n := 12) (Nat.le_of_ble_eq_true rfl) (Nat.le_of_ble_eq_true rfl) ?_
    exact W.iret (v := 0) hx hb hr (fun t ht hW => ⟨⟨0, (σ9, vp_updL g 0 r.toInt64), rfl, (by rw [hpo]; rfl), by rw [ht]; exact hP, va_K.moved hW.alike hK, hD⟩, hS.F ht⟩) hS.2.2 dL_recall_22
set_option maxHeartbeats 4000000 in
set_option maxRecDepth 100000 in
theorem m_L_recalled (l : Launch) (hl9 : l.stackTraces = false) (dC : Nat → ClassId) (dI : Nat → Nat → Nat) (cI cZ cL : ClassId) (a : Nat → Nat) (o : Nat) (zk : Nat → Nat) (sz : Nat) (σ : St) (g : Nat → Int64) (x1 : Int32) (x2 : Int32) (hiv : IV σ) : Met l yL_recalled wsL_recalled ({ frames := 8, cells := 2, slots := 12, locals := 135 }) (pOu dC dI cI cZ cL a o zk sz σ g [.ref (a 0), .int x1, .int x2, .ref o]) (va_Qi (fun r u => (r, u) = wo ["java/lang/IllegalArgumentException", "java/lang/IndexOutOfBoundsException"] σ g (sp_recalled σ x1 x2)) (bOu dC dI cI cZ cL a o (va_A (ow cI cZ cL a o σ g) sz)) (va_A (ow cI cZ cL a o σ g) sz)) 2 12 (va_A (ow cI cZ cL a o σ g) sz) := by
  refine va_MetW (cc := cL_recalled) (maxL := 5) (ret := (some .int)) (by decide) rfl ?_
  intro p e s m args below meth c s₁ B hml hv
  obtain ⟨rfl, hsz, hP, hK, hD0, hz⟩ := hv
  have hx := B.exec
  have hb := B.bytes
  have hr := B.returns
  have hts := atoms_spec (ws := wsL_recalled) B.pre
  have hown : s.vm.findClass RL = some m.cls := findClass_of_methodNamed B.named
  have hlocks := B.notSynchronized
  have hTab := vx_table (x := yL_recalled) B (hts _ List.mem_cons_self)
  subst hsz
  have hD := hD0.self (sz := s.heap.size)
  generalize hAe : va_A (ow cI cZ cL a o σ g) s.heap.size = A at hD hz ⊢
  have hA : ∀ q : Nat, s.heap.size ≤ q → A q := fun q h => by rw [← hAe]; exact Or.inr h
  clear hAe hD0
  obtain ⟨H, hHe⟩ : ∃ z, z = s.heap := ⟨_, rfl⟩
  obtain ⟨locs, hLe⟩ : ∃ z : List Loc, z = [] := ⟨_, rfl⟩
  have hS : va_S A s.heap H locs := by rw [hHe, hLe]; exact va_S.rf
  have hP : va_P (dC, dI) vwCl (ow cI cZ cL a o σ g) H := by rw [hHe]; exact hP
  refine W_ofH hHe hLe ?_
  clear hHe hLe
  have hl := lv_entry ([.ref (a 0), .int x1, .int x2, .ref o]) (n := 5) (Nat.le_of_ble_eq_true rfl)
  rw [lg_entry_eq]
  generalize (lg_sl ([.ref (a 0), .int x1, .int x2, .ref o]) ++ List.replicate (5 - (lg_sl ([.ref (a 0), .int x1, .int x2, .ref o])).length) Slot.unset).toArray = ls at hl ⊢
  have hl : lv_has ls 5 [(0, .ref (a 0)), (1, .int x1), (2, .int x2), (3, .ref o)] := hl
  refine lv_aload_n hx hb dL_recalled_0 rfl (lv_at hl 3 rfl) ?_
  refine lv_iconst (v := 0) hx hb dL_recalled_1 (by decide) ?_
  refine lv_aload_n hx hb dL_recalled_2 rfl (lv_at hl 0 rfl) ?_
  refine lv_iload_n hx hb dL_recalled_3 rfl (lv_at hl 1 rfl) ?_
  refine lv_iload_n hx hb dL_recalled_4 rfl (lv_at hl 2 rfl) ?_
  have hPc := hP.sub (ws' := cw cI cZ a σ) [0, 1, 2, 3, 4, 5, 6, 7, 8, 9, 10, 11, 12, 13, 14, 15, 16, 17, 18, 19, 20, 21, 22, 23, 24, 25, 26] rfl
  have hDc := hD.sub (ws' := cw cI cZ a σ) [0, 1, 2, 3, 4, 5, 6, 7, 8, 9, 10, 11, 12, 13, 14, 15, 16, 17, 18, 19, 20, 21, 22, 23, 24, 25, 26] (by decide) rfl
  have hFc := va_free (wc := cw cI cZ a σ) hD hS hA [0, 1, 2, 3, 4, 5, 6, 7, 8, 9, 10, 11, 12, 13, 14, 15, 16, 17, 18, 19, 20, 21, 22, 23, 24, 25, 26] rfl
  have hKc : va_K (dC, dI) vwCl [(cI, .int), (cZ, .boolean)] s := hK.sub [0, 1] rfl
  refine vx_calli (vx_runV (As := [.int x1, .int x2]) (rest := [.int 0, .ref o]) ⟨hx, hb, hml, hown, hts⟩ (m_X3_recalled l hl9 dC dI cI cZ a zk H.size σ x1 x2 hiv) (cwV 2 hts (gV k_451 k_452 k_453 k_20 k_454) rfl rfl rfl (by decide +kernel) ⟨Nat.le_of_ble_eq_true rfl, Nat.le_of_ble_eq_true rfl⟩) (pv_pu (q := (RX3, TX3, 6)) (q0 := 0) (ci := 3) hKc hPc hDc hz hS hFc rfl rfl) rfl rfl hl.1 rfl (lv_room (Nat.le_of_ble_eq_true rfl)) dL_recalled_5 ⟨Nat.le_of_ble_eq_true rfl, Nat.le_of_ble_eq_true rfl⟩) hS (fun q _ h => hFc q h) hFc (fun q _ h => hFc q h) ?_ ?_
  · intro E ce q9 u t H1 locs ht hvm hpx hB hz1 hk1 hS hc1 hc2 hc3
    obtain ⟨rfl, hP1, hK1, hD1⟩ := hB
    rw [ht] at hP1
    obtain ⟨hP2, hD2⟩ := va_join (wr := [(o, .inl (cL, 1, .inr (.inl g)))]) (w1 := cw cI cZ a σ) hP hD [0, 1, 2, 3, 4, 5, 6, 7, 8, 9, 10, 11, 12, 13, 14, 15, 16, 17, 18, 19, 20, 21, 22, 23, 24, 25, 26] [27] rfl rfl (by decide) (by decide) hk1 hFc hP1 hD1
    replace hP := hP2.sub (ws' := ow cI cZ cL a o σ g) [1, 2, 3, 4, 5, 6, 7, 8, 9, 10, 11, 12, 13, 14, 15, 16, 17, 18, 19, 20, 21, 22, 23, 24, 25, 26, 27, 0] rfl
    replace hD := hD2.sub (ws' := ow cI cZ cL a o σ g) [1, 2, 3, 4, 5, 6, 7, 8, 9, 10, 11, 12, 13, 14, 15, 16, 17, 18, 19, 20, 21, 22, 23, 24, 25, 26, 27, 0] (by decide) rfl
    rcases er_recalled hpx with hE | hE
    · subst hE
      refine vx_catch (name := "java/lang/IllegalArgumentException") hown [] ⟨0, 10, 13, 19⟩ [⟨0, 10, 17, 13⟩] hTab (fun z hz9 => by cases hz9) (by decide) (by decide) (hts _ (kc k_258)) (va_Nw.use rfl (hz.2.2.2.1.1 _ (by decide))) hc1 hc2 hc3 ?_
      refine lv_astore (lv' := [(4, .ref q9), (0, .ref (a 0)), (1, .int x1), (2, .int x2), (3, .ref o)]) hx hb dL_recalled_13 hl (by decide) rfl (fun ls hl => ?_)
      refine lv_iconst (v := 1) hx hb dL_recalled_15 (by decide) ?_
      refine W.widen (k := 2) (n := 12) (Nat.le_of_ble_eq_true rfl) (Nat.le_of_ble_eq_true rfl) ?_
      exact W.iret (v := 1) hx hb hr (fun t ht hW => ⟨⟨1, (σ, g), rfl, (by rw [hpx]; exact congrArg (fun z => (z, (σ, g))) (by decide)), by rw [ht]; exact hP, va_K.moved hW.alike hK, hD⟩, hS.F ht⟩) hS.2.2 dL_recalled_16
    · subst hE
      refine vx_catch (name := "java/lang/IndexOutOfBoundsException") hown [⟨0, 10, 13, 19⟩] ⟨0, 10, 17, 13⟩ [] hTab (fun z hz9 => by
        simp only [List.mem_cons, List.not_mem_nil, or_false] at hz9
        rcases hz9 with rfl
        · exact Or.inr ⟨by decide, "java/lang/IllegalArgumentException", (hts _ (kc k_258)), hz.2.2.2.1.2.2.2 _ (by decide) _ (by decide) (by decide)⟩) (by decide) (by decide) (hts _ (kc k_176)) (va_Nw.use rfl (hz.2.2.2.1.1 _ (by decide))) hc1 hc2 hc3 ?_
      refine lv_astore (lv' := [(4, .ref q9), (0, .ref (a 0)), (1, .int x1), (2, .int x2), (3, .ref o)]) hx hb dL_recalled_17 hl (by decide) rfl (fun ls hl => ?_)
      refine lv_iconst (v := 2) hx hb dL_recalled_19 (by decide) ?_
      refine W.widen (k := 2) (n := 12) (Nat.le_of_ble_eq_true rfl) (Nat.le_of_ble_eq_true rfl) ?_
      exact W.iret (v := 2) hx hb hr (fun t ht hW => ⟨⟨2, (σ, g), rfl, (by rw [hpx]; exact congrArg (fun z => (z, (σ, g))) (by decide)), by rw [ht]; exact hP, va_K.moved hW.alike hK, hD⟩, hS.F ht⟩) hS.2.2 dL_recalled_20
  · intro r σ9 t H1 locs ht hvm hpo hB hz1 hk1 hS
    obtain ⟨hP1, hK1, hD1⟩ := hB
    rw [ht] at hP1
    obtain ⟨hP2, hD2⟩ := va_join (wr := [(o, .inl (cL, 1, .inr (.inl g)))]) (w1 := cw cI cZ a σ9) hP hD [0, 1, 2, 3, 4, 5, 6, 7, 8, 9, 10, 11, 12, 13, 14, 15, 16, 17, 18, 19, 20, 21, 22, 23, 24, 25, 26] [27] rfl rfl (by decide) (by decide) hk1 hFc hP1 hD1
    replace hP := hP2.sub (ws' := ow cI cZ cL a o σ9 g) [1, 2, 3, 4, 5, 6, 7, 8, 9, 10, 11, 12, 13, 14, 15, 16, 17, 18, 19, 20, 21, 22, 23, 24, 25, 26, 27, 0] rfl
    replace hD := hD2.sub (ws' := ow cI cZ cL a o σ9 g) [1, 2, 3, 4, 5, 6, 7, 8, 9, 10, 11, 12, 13, 14, 15, 16, 17, 18, 19, 20, 21, 22, 23, 24, 25, 26, 27, 0] (by decide) rfl
    refine lv_i2l hx hb dL_recalled_8 rfl ?_
    refine va_last (D := (dC, dI)) (f := g) hx hb hK hP hD hS 27 2 rfl rfl (i := 0) (x := r.toInt64) (vp_lit 0 (by decide)) dL_recalled_9 (fun H2 locs hP hD hS => ?_)
    replace hP : va_P (dC, dI) vwCl (ow cI cZ cL a o σ9 (vp_updL g 0 r.toInt64)) H2 := hP
    replace hD : va_D A (ow cI cZ cL a o σ9 (vp_updL g 0 r.toInt64)) := hD
    refine lv_goto (tgt := 21) hx hb dL_recalled_10 (by decide) ?_
    refine lv_iconst (v := 0) hx hb dL_recalled_21 (by decide) ?_
    refine W.widen (k := 2) (n := 12) (Nat.le_of_ble_eq_true rfl) (Nat.le_of_ble_eq_true rfl) ?_
    exact W.iret (v := 0) hx hb hr (fun t ht hW => ⟨⟨0, (σ9, vp_updL g 0 r.toInt64), rfl, (by rw [hpo]; rfl), by rw [ht]; exact hP, va_K.moved hW.alike hK, hD⟩, hS.F ht⟩) hS.2.2 dL_recalled_22
set_option maxHeartbeats 4000000 in
set_option maxRecDepth 100000 in
theorem m_L_barred (l : Launch) (hl9 : l.stackTraces = false) (dC : Nat → ClassId) (dI : Nat → Nat → Nat) (cI cZ cL : ClassId) (a : Nat → Nat) (o : Nat) (zk : Nat → Nat) (sz : Nat) (σ : St) (g : Nat → Int64) (x1 : Int32) (hiv : IV σ) : Met l yL_barred wsL_barred ({ frames := 8, cells := 1, slots := 6, locals := 132 }) (pOu dC dI cI cZ cL a o zk sz σ g [.ref (a 0), .int x1, .ref o]) (va_Qi (fun r u => (r, u) = wo ["java/lang/IllegalArgumentException"] σ g (sp_barred σ x1)) (bOu dC dI cI cZ cL a o (va_A (ow cI cZ cL a o σ g) sz)) (va_A (ow cI cZ cL a o σ g) sz)) 1 6 (va_A (ow cI cZ cL a o σ g) sz) := by
  refine va_MetW (cc := cL_barred) (maxL := 4) (ret := (some .int)) (by decide) rfl ?_
  intro p e s m args below meth c s₁ B hml hv
  obtain ⟨rfl, hsz, hP, hK, hD0, hz⟩ := hv
  have hx := B.exec
  have hb := B.bytes
  have hr := B.returns
  have hts := atoms_spec (ws := wsL_barred) B.pre
  have hown : s.vm.findClass RL = some m.cls := findClass_of_methodNamed B.named
  have hlocks := B.notSynchronized
  have hTab := vx_table (x := yL_barred) B (hts _ List.mem_cons_self)
  subst hsz
  have hD := hD0.self (sz := s.heap.size)
  generalize hAe : va_A (ow cI cZ cL a o σ g) s.heap.size = A at hD hz ⊢
  have hA : ∀ q : Nat, s.heap.size ≤ q → A q := fun q h => by rw [← hAe]; exact Or.inr h
  clear hAe hD0
  obtain ⟨H, hHe⟩ : ∃ z, z = s.heap := ⟨_, rfl⟩
  obtain ⟨locs, hLe⟩ : ∃ z : List Loc, z = [] := ⟨_, rfl⟩
  have hS : va_S A s.heap H locs := by rw [hHe, hLe]; exact va_S.rf
  have hP : va_P (dC, dI) vwCl (ow cI cZ cL a o σ g) H := by rw [hHe]; exact hP
  refine W_ofH hHe hLe ?_
  clear hHe hLe
  have hl := lv_entry ([.ref (a 0), .int x1, .ref o]) (n := 4) (Nat.le_of_ble_eq_true rfl)
  rw [lg_entry_eq]
  generalize (lg_sl ([.ref (a 0), .int x1, .ref o]) ++ List.replicate (4 - (lg_sl ([.ref (a 0), .int x1, .ref o])).length) Slot.unset).toArray = ls at hl ⊢
  have hl : lv_has ls 4 [(0, .ref (a 0)), (1, .int x1), (2, .ref o)] := hl
  refine lv_aload_n hx hb dL_barred_0 rfl (lv_at hl 2 rfl) ?_
  refine lv_iconst (v := 0) hx hb dL_barred_1 (by decide) ?_
  refine lv_aload_n hx hb dL_barred_2 rfl (lv_at hl 0 rfl) ?_
  refine lv_iload_n hx hb dL_barred_3 rfl (lv_at hl 1 rfl) ?_
  have hPc := hP.sub (ws' := cw cI cZ a σ) [0, 1, 2, 3, 4, 5, 6, 7, 8, 9, 10, 11, 12, 13, 14, 15, 16, 17, 18, 19, 20, 21, 22, 23, 24, 25, 26] rfl
  have hDc := hD.sub (ws' := cw cI cZ a σ) [0, 1, 2, 3, 4, 5, 6, 7, 8, 9, 10, 11, 12, 13, 14, 15, 16, 17, 18, 19, 20, 21, 22, 23, 24, 25, 26] (by decide) rfl
  have hFc := va_free (wc := cw cI cZ a σ) hD hS hA [0, 1, 2, 3, 4, 5, 6, 7, 8, 9, 10, 11, 12, 13, 14, 15, 16, 17, 18, 19, 20, 21, 22, 23, 24, 25, 26] rfl
  have hKc : va_K (dC, dI) vwCl [(cI, .int), (cZ, .boolean)] s := hK.sub [0, 1] rfl
  refine vx_calli (vx_runV (As := [.int x1]) (rest := [.int 0, .ref o]) ⟨hx, hb, hml, hown, hts⟩ (m_X3_barred l hl9 dC dI cI cZ a zk H.size σ x1 hiv) (cwV 1 hts (gV k_462 k_463 k_464 k_20 k_465) rfl rfl rfl (by decide +kernel) ⟨Nat.le_of_ble_eq_true rfl, Nat.le_of_ble_eq_true rfl⟩) (pv_pu (q := (RX3, TX3, 6)) (q0 := 0) (ci := 3) hKc hPc hDc hz hS hFc rfl rfl) rfl rfl hl.1 rfl (lv_room (Nat.le_of_ble_eq_true rfl)) dL_barred_4 ⟨Nat.le_of_ble_eq_true rfl, Nat.le_of_ble_eq_true rfl⟩) hS (fun q _ h => hFc q h) hFc (fun q _ h => hFc q h) ?_ ?_
  · intro E ce q9 u t H1 locs ht hvm hpx hB hz1 hk1 hS hc1 hc2 hc3
    obtain ⟨rfl, hP1, hK1, hD1⟩ := hB
    rw [ht] at hP1
    obtain ⟨hP2, hD2⟩ := va_join (wr := [(o, .inl (cL, 1, .inr (.inl g)))]) (w1 := cw cI cZ a σ) hP hD [0, 1, 2, 3, 4, 5, 6, 7, 8, 9, 10, 11, 12, 13, 14, 15, 16, 17, 18, 19, 20, 21, 22, 23, 24, 25, 26] [27] rfl rfl (by decide) (by decide) hk1 hFc hP1 hD1
    replace hP := hP2.sub (ws' := ow cI cZ cL a o σ g) [1, 2, 3, 4, 5, 6, 7, 8, 9, 10, 11, 12, 13, 14, 15, 16, 17, 18, 19, 20, 21, 22, 23, 24, 25, 26, 27, 0] rfl
    replace hD := hD2.sub (ws' := ow cI cZ cL a o σ g) [1, 2, 3, 4, 5, 6, 7, 8, 9, 10, 11, 12, 13, 14, 15, 16, 17, 18, 19, 20, 21, 22, 23, 24, 25, 26, 27, 0] (by decide) rfl
    rcases er_barred hpx with hE
    · subst hE
      refine vx_catch (name := "java/lang/IllegalArgumentException") hown [] ⟨0, 9, 12, 19⟩ [] hTab (fun z hz9 => by cases hz9) (by decide) (by decide) (hts _ (kc k_258)) (va_Nw.use rfl (hz.2.2.2.1.1 _ (by decide))) hc1 hc2 hc3 ?_
      refine lv_astore_n (lv' := [(3, .ref q9), (0, .ref (a 0)), (1, .int x1), (2, .ref o)]) hx hb dL_barred_12 rfl hl (by decide) rfl (fun ls hl => ?_)
      refine lv_iconst (v := 1) hx hb dL_barred_13 (by decide) ?_
      refine W.widen (k := 1) (n := 6) (Nat.le_of_ble_eq_true rfl) (Nat.le_of_ble_eq_true rfl) ?_
      exact W.iret (v := 1) hx hb hr (fun t ht hW => ⟨⟨1, (σ, g), rfl, (by rw [hpx]; exact congrArg (fun z => (z, (σ, g))) (by decide)), by rw [ht]; exact hP, va_K.moved hW.alike hK, hD⟩, hS.F ht⟩) hS.2.2 dL_barred_14
  · intro r σ9 t H1 locs ht hvm hpo hB hz1 hk1 hS
    obtain ⟨hP1, hK1, hD1⟩ := hB
    rw [ht] at hP1
    obtain ⟨hP2, hD2⟩ := va_join (wr := [(o, .inl (cL, 1, .inr (.inl g)))]) (w1 := cw cI cZ a σ9) hP hD [0, 1, 2, 3, 4, 5, 6, 7, 8, 9, 10, 11, 12, 13, 14, 15, 16, 17, 18, 19, 20, 21, 22, 23, 24, 25, 26] [27] rfl rfl (by decide) (by decide) hk1 hFc hP1 hD1
    replace hP := hP2.sub (ws' := ow cI cZ cL a o σ9 g) [1, 2, 3, 4, 5, 6, 7, 8, 9, 10, 11, 12, 13, 14, 15, 16, 17, 18, 19, 20, 21, 22, 23, 24, 25, 26, 27, 0] rfl
    replace hD := hD2.sub (ws' := ow cI cZ cL a o σ9 g) [1, 2, 3, 4, 5, 6, 7, 8, 9, 10, 11, 12, 13, 14, 15, 16, 17, 18, 19, 20, 21, 22, 23, 24, 25, 26, 27, 0] (by decide) rfl
    refine lv_i2l hx hb dL_barred_7 rfl ?_
    refine va_last (D := (dC, dI)) (f := g) hx hb hK hP hD hS 27 2 rfl rfl (i := 0) (x := r.toInt64) (vp_lit 0 (by decide)) dL_barred_8 (fun H2 locs hP hD hS => ?_)
    replace hP : va_P (dC, dI) vwCl (ow cI cZ cL a o σ9 (vp_updL g 0 r.toInt64)) H2 := hP
    replace hD : va_D A (ow cI cZ cL a o σ9 (vp_updL g 0 r.toInt64)) := hD
    refine lv_goto (tgt := 15) hx hb dL_barred_9 (by decide) ?_
    refine lv_iconst (v := 0) hx hb dL_barred_15 (by decide) ?_
    refine W.widen (k := 1) (n := 6) (Nat.le_of_ble_eq_true rfl) (Nat.le_of_ble_eq_true rfl) ?_
    exact W.iret (v := 0) hx hb hr (fun t ht hW => ⟨⟨0, (σ9, vp_updL g 0 r.toInt64), rfl, (by rw [hpo]; rfl), by rw [ht]; exact hP, va_K.moved hW.alike hK, hD⟩, hS.F ht⟩) hS.2.2 dL_barred_16
set_option maxHeartbeats 4000000 in
set_option maxRecDepth 100000 in
theorem m_L_ends (l : Launch) (hl9 : l.stackTraces = false) (dC : Nat → ClassId) (dI : Nat → Nat → Nat) (cI cZ cL : ClassId) (a : Nat → Nat) (o : Nat) (zk : Nat → Nat) (sz : Nat) (σ : St) (g : Nat → Int64) (x1 : Int32) (hiv : IV σ) : Met l yL_ends wsL_ends ({ frames := 8, cells := 1, slots := 6, locals := 132 }) (pOu dC dI cI cZ cL a o zk sz σ g [.ref (a 0), .int x1, .ref o]) (va_Qi (fun r u => (r, u) = wo ["java/lang/IllegalArgumentException"] σ g (sp_ends σ x1)) (bOu dC dI cI cZ cL a o (va_A (ow cI cZ cL a o σ g) sz)) (va_A (ow cI cZ cL a o σ g) sz)) 1 6 (va_A (ow cI cZ cL a o σ g) sz) := by
  refine va_MetW (cc := cL_ends) (maxL := 4) (ret := (some .int)) (by decide) rfl ?_
  intro p e s m args below meth c s₁ B hml hv
  obtain ⟨rfl, hsz, hP, hK, hD0, hz⟩ := hv
  have hx := B.exec
  have hb := B.bytes
  have hr := B.returns
  have hts := atoms_spec (ws := wsL_ends) B.pre
  have hown : s.vm.findClass RL = some m.cls := findClass_of_methodNamed B.named
  have hlocks := B.notSynchronized
  have hTab := vx_table (x := yL_ends) B (hts _ List.mem_cons_self)
  subst hsz
  have hD := hD0.self (sz := s.heap.size)
  generalize hAe : va_A (ow cI cZ cL a o σ g) s.heap.size = A at hD hz ⊢
  have hA : ∀ q : Nat, s.heap.size ≤ q → A q := fun q h => by rw [← hAe]; exact Or.inr h
  clear hAe hD0
  obtain ⟨H, hHe⟩ : ∃ z, z = s.heap := ⟨_, rfl⟩
  obtain ⟨locs, hLe⟩ : ∃ z : List Loc, z = [] := ⟨_, rfl⟩
  have hS : va_S A s.heap H locs := by rw [hHe, hLe]; exact va_S.rf
  have hP : va_P (dC, dI) vwCl (ow cI cZ cL a o σ g) H := by rw [hHe]; exact hP
  refine W_ofH hHe hLe ?_
  clear hHe hLe
  have hl := lv_entry ([.ref (a 0), .int x1, .ref o]) (n := 4) (Nat.le_of_ble_eq_true rfl)
  rw [lg_entry_eq]
  generalize (lg_sl ([.ref (a 0), .int x1, .ref o]) ++ List.replicate (4 - (lg_sl ([.ref (a 0), .int x1, .ref o])).length) Slot.unset).toArray = ls at hl ⊢
  have hl : lv_has ls 4 [(0, .ref (a 0)), (1, .int x1), (2, .ref o)] := hl
  refine lv_aload_n hx hb dL_ends_0 rfl (lv_at hl 2 rfl) ?_
  refine lv_iconst (v := 0) hx hb dL_ends_1 (by decide) ?_
  refine lv_aload_n hx hb dL_ends_2 rfl (lv_at hl 0 rfl) ?_
  refine lv_iload_n hx hb dL_ends_3 rfl (lv_at hl 1 rfl) ?_
  have hPc := hP.sub (ws' := cw cI cZ a σ) [0, 1, 2, 3, 4, 5, 6, 7, 8, 9, 10, 11, 12, 13, 14, 15, 16, 17, 18, 19, 20, 21, 22, 23, 24, 25, 26] rfl
  have hDc := hD.sub (ws' := cw cI cZ a σ) [0, 1, 2, 3, 4, 5, 6, 7, 8, 9, 10, 11, 12, 13, 14, 15, 16, 17, 18, 19, 20, 21, 22, 23, 24, 25, 26] (by decide) rfl
  have hFc := va_free (wc := cw cI cZ a σ) hD hS hA [0, 1, 2, 3, 4, 5, 6, 7, 8, 9, 10, 11, 12, 13, 14, 15, 16, 17, 18, 19, 20, 21, 22, 23, 24, 25, 26] rfl
  have hKc : va_K (dC, dI) vwCl [(cI, .int), (cZ, .boolean)] s := hK.sub [0, 1] rfl
  refine vx_calli (vx_runV (As := [.int x1]) (rest := [.int 0, .ref o]) ⟨hx, hb, hml, hown, hts⟩ (m_X3_ends l hl9 dC dI cI cZ a zk H.size σ x1 hiv) (cwV 1 hts (gV k_469 k_470 k_471 k_20 k_472) rfl rfl rfl (by decide +kernel) ⟨Nat.le_of_ble_eq_true rfl, Nat.le_of_ble_eq_true rfl⟩) (pv_pu (q := (RX3, TX3, 6)) (q0 := 0) (ci := 3) hKc hPc hDc hz hS hFc rfl rfl) rfl rfl hl.1 rfl (lv_room (Nat.le_of_ble_eq_true rfl)) dL_ends_4 ⟨Nat.le_of_ble_eq_true rfl, Nat.le_of_ble_eq_true rfl⟩) hS (fun q _ h => hFc q h) hFc (fun q _ h => hFc q h) ?_ ?_
  · intro E ce q9 u t H1 locs ht hvm hpx hB hz1 hk1 hS hc1 hc2 hc3
    obtain ⟨rfl, hP1, hK1, hD1⟩ := hB
    rw [ht] at hP1
    obtain ⟨hP2, hD2⟩ := va_join (wr := [(o, .inl (cL, 1, .inr (.inl g)))]) (w1 := cw cI cZ a σ) hP hD [0, 1, 2, 3, 4, 5, 6, 7, 8, 9, 10, 11, 12, 13, 14, 15, 16, 17, 18, 19, 20, 21, 22, 23, 24, 25, 26] [27] rfl rfl (by decide) (by decide) hk1 hFc hP1 hD1
    replace hP := hP2.sub (ws' := ow cI cZ cL a o σ g) [1, 2, 3, 4, 5, 6, 7, 8, 9, 10, 11, 12, 13, 14, 15, 16, 17, 18, 19, 20, 21, 22, 23, 24, 25, 26, 27, 0] rfl
    replace hD := hD2.sub (ws' := ow cI cZ cL a o σ g) [1, 2, 3, 4, 5, 6, 7, 8, 9, 10, 11, 12, 13, 14, 15, 16, 17, 18, 19, 20, 21, 22, 23, 24, 25, 26, 27, 0] (by decide) rfl
    rcases er_ends hpx with hE
    · subst hE
      refine vx_catch (name := "java/lang/IllegalArgumentException") hown [] ⟨0, 9, 12, 19⟩ [] hTab (fun z hz9 => by cases hz9) (by decide) (by decide) (hts _ (kc k_258)) (va_Nw.use rfl (hz.2.2.2.1.1 _ (by decide))) hc1 hc2 hc3 ?_
      refine lv_astore_n (lv' := [(3, .ref q9), (0, .ref (a 0)), (1, .int x1), (2, .ref o)]) hx hb dL_ends_12 rfl hl (by decide) rfl (fun ls hl => ?_)
      refine lv_iconst (v := 1) hx hb dL_ends_13 (by decide) ?_
      refine W.widen (k := 1) (n := 6) (Nat.le_of_ble_eq_true rfl) (Nat.le_of_ble_eq_true rfl) ?_
      exact W.iret (v := 1) hx hb hr (fun t ht hW => ⟨⟨1, (σ, g), rfl, (by rw [hpx]; exact congrArg (fun z => (z, (σ, g))) (by decide)), by rw [ht]; exact hP, va_K.moved hW.alike hK, hD⟩, hS.F ht⟩) hS.2.2 dL_ends_14
  · intro r σ9 t H1 locs ht hvm hpo hB hz1 hk1 hS
    obtain ⟨hP1, hK1, hD1⟩ := hB
    rw [ht] at hP1
    obtain ⟨hP2, hD2⟩ := va_join (wr := [(o, .inl (cL, 1, .inr (.inl g)))]) (w1 := cw cI cZ a σ9) hP hD [0, 1, 2, 3, 4, 5, 6, 7, 8, 9, 10, 11, 12, 13, 14, 15, 16, 17, 18, 19, 20, 21, 22, 23, 24, 25, 26] [27] rfl rfl (by decide) (by decide) hk1 hFc hP1 hD1
    replace hP := hP2.sub (ws' := ow cI cZ cL a o σ9 g) [1, 2, 3, 4, 5, 6, 7, 8, 9, 10, 11, 12, 13, 14, 15, 16, 17, 18, 19, 20, 21, 22, 23, 24, 25, 26, 27, 0] rfl
    replace hD := hD2.sub (ws' := ow cI cZ cL a o σ9 g) [1, 2, 3, 4, 5, 6, 7, 8, 9, 10, 11, 12, 13, 14, 15, 16, 17, 18, 19, 20, 21, 22, 23, 24, 25, 26, 27, 0] (by decide) rfl
    refine lv_i2l hx hb dL_ends_7 rfl ?_
    refine va_last (D := (dC, dI)) (f := g) hx hb hK hP hD hS 27 2 rfl rfl (i := 0) (x := r.toInt64) (vp_lit 0 (by decide)) dL_ends_8 (fun H2 locs hP hD hS => ?_)
    replace hP : va_P (dC, dI) vwCl (ow cI cZ cL a o σ9 (vp_updL g 0 r.toInt64)) H2 := hP
    replace hD : va_D A (ow cI cZ cL a o σ9 (vp_updL g 0 r.toInt64)) := hD
    refine lv_goto (tgt := 15) hx hb dL_ends_9 (by decide) ?_
    refine lv_iconst (v := 0) hx hb dL_ends_15 (by decide) ?_
    refine W.widen (k := 1) (n := 6) (Nat.le_of_ble_eq_true rfl) (Nat.le_of_ble_eq_true rfl) ?_
    exact W.iret (v := 0) hx hb hr (fun t ht hW => ⟨⟨0, (σ9, vp_updL g 0 r.toInt64), rfl, (by rw [hpo]; rfl), by rw [ht]; exact hP, va_K.moved hW.alike hK, hD⟩, hS.F ht⟩) hS.2.2 dL_ends_16
