set_option maxHeartbeats 4000000 in
set_option maxRecDepth 100000 in
theorem m_L_soon (l : Launch) (hl9 : l.stackTraces = false) (dC : Nat → ClassId) (dI : Nat → Nat → Nat) (cI cZ cL : ClassId) (a : Nat → Nat) (o : Nat) (zk : Nat → Nat) (sz : Nat) (σ : St) (g : Nat → Int64) (x1 : Int32) (x2 : Int32) (x3 : Int32) (hiv : IV σ) : Met l yL_soon wsL_soon ({ frames := 8, cells := 3, slots := 18, locals := 136 }) (pOu dC dI cI cZ cL a o zk sz σ g [.ref (a 0), .int x1, .int x2, .int x3, .ref o]) (va_Qi (fun r u => (r, u) = wo ["java/lang/IllegalArgumentException", "java/lang/IndexOutOfBoundsException"] σ g (sp_soon σ x1 x2 x3)) (bOu dC dI cI cZ cL a o (va_A (ow cI cZ cL a o σ g) sz)) (va_A (ow cI cZ cL a o σ g) sz)) 3 18 (va_A (ow cI cZ cL a o σ g) sz) := by
  refine va_MetW (cc := cL_soon) (maxL := 6) (ret := (some .int)) (by decide) rfl ?_
  intro p e s m args below meth c s₁ B hml hv
  obtain ⟨rfl, hsz, hP, hK, hD0, hz⟩ := hv
  have hx := B.exec
  have hb := B.bytes
  have hr := B.returns
  have hts := atoms_spec (ws := wsL_soon) B.pre
  have hown : s.vm.findClass RL = some m.cls := findClass_of_methodNamed B.named
  have hlocks := B.notSynchronized
  have hTab := vx_table (x := yL_soon) B (hts _ List.mem_cons_self)
  subst hsz
  have hD := hD0.self (sz := s.heap.size)
  generalize hAe : va_A (ow cI cZ cL a o σ g) s.heap.size = A at hD hz ⊢
  have hA : ∀ q : Nat, s.heap.size ≤ q → A q := fun q h => by rw [← hAe]; exact Or.inr h
  clear hAe hD0
  obtain ⟨H, hHe⟩ : ∃ z, z = s.heap := ⟨_, rfl⟩
  obtain ⟨locs, hLe⟩ : ∃ z : List Loc, z = [] := ⟨_, rfl⟩
  have hS : va_S A s.heap H locs := by rw [hHe, hLe]; exact va_S.rf
  have hP : va_P (dC, dI) vwCl (ow cI cZ cL a o σ g) H := by rw [hHe]; exact hP
  refine W_ofH hHe hLe ?_
  clear hHe hLe
  have hl := lv_entry ([.ref (a 0), .int x1, .int x2, .int x3, .ref o]) (n := 6) (Nat.le_of_ble_eq_true rfl)
  rw [lg_entry_eq]
  generalize (lg_sl ([.ref (a 0), .int x1, .int x2, .int x3, .ref o]) ++ List.replicate (6 - (lg_sl ([.ref (a 0), .int x1, .int x2, .int x3, .ref o])).length) Slot.unset).toArray = ls at hl ⊢
  have hl : lv_has ls 6 [(0, .ref (a 0)), (1, .int x1), (2, .int x2), (3, .int x3), (4, .ref o)] := hl
  refine lv_aload hx hb dL_soon_0 (lv_at hl 4 rfl) ?_
  refine lv_iconst (v := 0) hx hb dL_soon_2 (by decide) ?_
  refine lv_aload_n hx hb dL_soon_3 rfl (lv_at hl 0 rfl) ?_
  refine lv_iload_n hx hb dL_soon_4 rfl (lv_at hl 1 rfl) ?_
  refine lv_iload_n hx hb dL_soon_5 rfl (lv_at hl 2 rfl) ?_
  refine lv_iload_n hx hb dL_soon_6 rfl (lv_at hl 3 rfl) ?_
  have hPc := hP.sub (ws' := cw cI cZ a σ) [0, 1, 2, 3, 4, 5, 6, 7, 8, 9, 10, 11, 12, 13, 14, 15, 16, 17, 18, 19, 20, 21, 22, 23, 24, 25, 26] rfl
  have hDc := hD.sub (ws' := cw cI cZ a σ) [0, 1, 2, 3, 4, 5, 6, 7, 8, 9, 10, 11, 12, 13, 14, 15, 16, 17, 18, 19, 20, 21, 22, 23, 24, 25, 26] (by decide) rfl
  have hFc := va_free (wc := cw cI cZ a σ) hD hS hA [0, 1, 2, 3, 4, 5, 6, 7, 8, 9, 10, 11, 12, 13, 14, 15, 16, 17, 18, 19, 20, 21, 22, 23, 24, 25, 26] rfl
  have hKc : va_K (dC, dI) vwCl [(cI, .int), (cZ, .boolean)] s := hK.sub [0, 1] rfl
  refine vx_calli (vx_runV (As := [.int x1, .int x2, .int x3]) (rest := [.int 0, .ref o]) ⟨hx, hb, hml, hown, hts⟩ (m_X3_soon l hl9 dC dI cI cZ a zk H.size σ x1 x2 x3 hiv) (cwV 3 hts (gV k_481 k_482 k_483 k_20 k_484) rfl rfl rfl (by decide +kernel) ⟨Nat.le_of_ble_eq_true rfl, Nat.le_of_ble_eq_true rfl⟩) (pv_pu (q := (RX3, TX3, 6)) (q0 := 0) (ci := 3) hKc hPc hDc hz hS hFc rfl rfl) rfl rfl hl.1 rfl (lv_room (Nat.le_of_ble_eq_true rfl)) dL_soon_7 ⟨Nat.le_of_ble_eq_true rfl, Nat.le_of_ble_eq_true rfl⟩) hS (fun q _ h => hFc q h) hFc (fun q _ h => hFc q h) ?_ ?_
  · intro E ce q9 u t H1 locs ht hvm hpx hB hz1 hk1 hS hc1 hc2 hc3
    obtain ⟨rfl, hP1, hK1, hD1⟩ := hB
    rw [ht] at hP1
    obtain ⟨hP2, hD2⟩ := va_join (wr := [(o, .inl (cL, 1, .inr (.inl g)))]) (w1 := cw cI cZ a σ) hP hD [0, 1, 2, 3, 4, 5, 6, 7, 8, 9, 10, 11, 12, 13, 14, 15, 16, 17, 18, 19, 20, 21, 22, 23, 24, 25, 26] [27] rfl rfl (by decide) (by decide) hk1 hFc hP1 hD1
    replace hP := hP2.sub (ws' := ow cI cZ cL a o σ g) [1, 2, 3, 4, 5, 6, 7, 8, 9, 10, 11, 12, 13, 14, 15, 16, 17, 18, 19, 20, 21, 22, 23, 24, 25, 26, 27, 0] rfl
    replace hD := hD2.sub (ws' := ow cI cZ cL a o σ g) [1, 2, 3, 4, 5, 6, 7, 8, 9, 10, 11, 12, 13, 14, 15, 16, 17, 18, 19, 20, 21, 22, 23, 24, 25, 26, 27, 0] (by decide) rfl
    rcases er_soon hpx with hE | hE
    · subst hE
      refine vx_catch (name := "java/lang/IllegalArgumentException") hown [] ⟨0, 12, 15, 19⟩ [⟨0, 12, 19, 13⟩] hTab (fun z hz9 => by cases hz9) (by decide) (by decide) (hts _ (kc k_258)) (va_Nw.use rfl (hz.2.2.2.1.1 _ (by decide))) hc1 hc2 hc3 ?_
      refine lv_astore (lv' := [(5, .ref q9), (0, .ref (a 0)), (1, .int x1), (2, .int x2), (3, .int x3), (4, .ref o)]) hx hb dL_soon_15 hl (by decide) rfl (fun ls hl => ?_)
      refine lv_iconst (v := 1) hx hb dL_soon_17 (by decide) ?_
      refine W.widen (k := 3) (n := 18) (Nat.le_of_ble_eq_true rfl) (Nat.le_of_ble_eq_true rfl) ?_
      exact W.iret (v := 1) hx hb hr (fun t ht hW => ⟨⟨1, (σ, g), rfl, (by rw [hpx]; exact congrArg (fun z => (z, (σ, g))) (by decide)), by rw [ht]; exact hP, va_K.moved hW.alike hK, hD⟩, hS.F ht⟩) hS.2.2 dL_soon_18
    · subst hE
      refine vx_catch (name := "java/lang/IndexOutOfBoundsException") hown [⟨0, 12, 15, 19⟩] ⟨0, 12, 19, 13⟩ [] hTab (fun z hz9 => by
        simp only [List.mem_cons, List.not_mem_nil, or_false] at hz9
        rcases hz9 with rfl
        · exact Or.inr ⟨by decide, "java/lang/IllegalArgumentException", (hts _ (kc k_258)), hz.2.2.2.1.2.2.2 _ (by decide) _ (by decide) (by decide)⟩) (by decide) (by decide) (hts _ (kc k_176)) (va_Nw.use rfl (hz.2.2.2.1.1 _ (by decide))) hc1 hc2 hc3 ?_
      refine lv_astore (lv' := [(5, .ref q9), (0, .ref (a 0)), (1, .int x1), (2, .int x2), (3, .int x3), (4, .ref o)]) hx hb dL_soon_19 hl (by decide) rfl (fun ls hl => ?_)
      refine lv_iconst (v := 2) hx hb dL_soon_21 (by decide) ?_
      refine W.widen (k := 3) (n := 18) (Nat.le_of_ble_eq_true rfl) (Nat.le_of_ble_eq_true rfl) ?_
      exact W.iret (v := 2) hx hb hr (fun t ht hW => ⟨⟨2, (σ, g), rfl, (by rw [hpx]; exact congrArg (fun z => (z, (σ, g))) (by decide)), by rw [ht]; exact hP, va_K.moved hW.alike hK, hD⟩, hS.F ht⟩) hS.2.2 dL_soon_22
  · intro r σ9 t H1 locs ht hvm hpo hB hz1 hk1 hS
    obtain ⟨hP1, hK1, hD1⟩ := hB
    rw [ht] at hP1
    obtain ⟨hP2, hD2⟩ := va_join (wr := [(o, .inl (cL, 1, .inr (.inl g)))]) (w1 := cw cI cZ a σ9) hP hD [0, 1, 2, 3, 4, 5, 6, 7, 8, 9, 10, 11, 12, 13, 14, 15, 16, 17, 18, 19, 20, 21, 22, 23, 24, 25, 26] [27] rfl rfl (by decide) (by decide) hk1 hFc hP1 hD1
    replace hP := hP2.sub (ws' := ow cI cZ cL a o σ9 g) [1, 2, 3, 4, 5, 6, 7, 8, 9, 10, 11, 12, 13, 14, 15, 16, 17, 18, 19, 20, 21, 22, 23, 24, 25, 26, 27, 0] rfl
    replace hD := hD2.sub (ws' := ow cI cZ cL a o σ9 g) [1, 2, 3, 4, 5, 6, 7, 8, 9, 10, 11, 12, 13, 14, 15, 16, 17, 18, 19, 20, 21, 22, 23, 24, 25, 26, 27, 0] (by decide) rfl
    refine lv_i2l hx hb dL_soon_10 rfl ?_
    refine va_last (D := (dC, dI)) (f := g) hx hb hK hP hD hS 27 2 rfl rfl (i := 0) (x := r.toInt64) (vp_lit 0 (by decide)) dL_soon_11 (fun H2 locs hP hD hS => ?_)
    replace hP : va_P (dC, dI) vwCl (ow cI cZ cL a o σ9 (vp_updL g 0 r.toInt64)) H2 := hP
    replace hD : va_D A (ow cI cZ cL a o σ9 (vp_updL g 0 r.toInt64)) := hD
    refine lv_goto (tgt := 23) hx hb dL_soon_12 (by decide) ?_
    refine lv_iconst (v := 0) hx hb dL_soon_23 (by decide) ?_
    refine W.widen (k := 3) (n := 18) (Nat.le_of_ble_eq_true rfl) (Nat.le_of_ble_eq_true rfl) ?_
    exact W.iret (v := 0) hx hb hr (fun t ht hW => ⟨⟨0, (σ9, vp_updL g 0 r.toInt64), rfl, (by rw [hpo]; rfl), by rw [ht]; exact hP, va_K.moved hW.alike hK, hD⟩, hS.F ht⟩) hS.2.2 dL_soon_24
set_option maxHeartbeats 4000000 in
set_option maxRecDepth 100000 in
theorem m_L_thingAt (l : Launch) (hl9 : l.stackTraces = false) (dC : Nat → ClassId) (dI : Nat → Nat → Nat) (cI cZ cL : ClassId) (a : Nat → Nat) (o : Nat) (zk : Nat → Nat) (sz : Nat) (σ : St) (g : Nat → Int64) (x1 : Int32) (x2 : Int32) (hiv : IV σ) : Met l yL_thingAt wsL_thingAt ({ frames := 8, cells := 2, slots := 12, locals := 133 }) (pOu dC dI cI cZ cL a o zk sz σ g [.ref (a 0), .int x1, .int x2, .ref o]) (va_Qi (fun r u => (r, u) = wo ["java/lang/IllegalArgumentException"] σ g (sp_thingAt σ x1 x2)) (bOu dC dI cI cZ cL a o (va_A (ow cI cZ cL a o σ g) sz)) (va_A (ow cI cZ cL a o σ g) sz)) 2 12 (va_A (ow cI cZ cL a o σ g) sz) := by
  refine va_MetW (cc := cL_thingAt) (maxL := 5) (ret := (some .int)) (by decide) rfl ?_
  intro p e s m args below meth c s₁ B hml hv
  obtain ⟨rfl, hsz, hP, hK, hD0, hz⟩ := hv
  have hx := B.exec
  have hb := B.bytes
  have hr := B.returns
  have hts := atoms_spec (ws := wsL_thingAt) B.pre
  have hown : s.vm.findClass RL = some m.cls := findClass_of_methodNamed B.named
  have hlocks := B.notSynchronized
  have hTab := vx_table (x := yL_thingAt) B (hts _ List.mem_cons_self)
  subst hsz
  have hD := hD0.self (sz := s.heap.size)
  generalize hAe : va_A (ow cI cZ cL a o σ g) s.heap.size = A at hD hz ⊢
  have hA : ∀ q : Nat, s.heap.size ≤ q → A q := fun q h => by rw [← hAe]; exact Or.inr h
  clear hAe hD0
  obtain ⟨H, hHe⟩ : ∃ z, z = s.heap := ⟨_, rfl⟩
  obtain ⟨locs, hLe⟩ : ∃ z : List Loc, z = [] := ⟨_, rfl⟩
  have hS : va_S A s.heap H locs := by rw [hHe, hLe]; exact va_S.rf
  have hP : va_P (dC, dI) vwCl (ow cI cZ cL a o σ g) H := by rw [hHe]; exact hP
  refine W_ofH hHe hLe ?_
  clear hHe hLe
  have hl := lv_entry ([.ref (a 0), .int x1, .int x2, .ref o]) (n := 5) (Nat.le_of_ble_eq_true rfl)
  rw [lg_entry_eq]
  generalize (lg_sl ([.ref (a 0), .int x1, .int x2, .ref o]) ++ List.replicate (5 - (lg_sl ([.ref (a 0), .int x1, .int x2, .ref o])).length) Slot.unset).toArray = ls at hl ⊢
  have hl : lv_has ls 5 [(0, .ref (a 0)), (1, .int x1), (2, .int x2), (3, .ref o)] := hl
  refine lv_aload_n hx hb dL_thingAt_0 rfl (lv_at hl 3 rfl) ?_
  refine lv_iconst (v := 0) hx hb dL_thingAt_1 (by decide) ?_
  refine lv_aload_n hx hb dL_thingAt_2 rfl (lv_at hl 0 rfl) ?_
  refine lv_iload_n hx hb dL_thingAt_3 rfl (lv_at hl 1 rfl) ?_
  refine lv_iload_n hx hb dL_thingAt_4 rfl (lv_at hl 2 rfl) ?_
  have hPc := hP.sub (ws' := cw cI cZ a σ) [0, 1, 2, 3, 4, 5, 6, 7, 8, 9, 10, 11, 12, 13, 14, 15, 16, 17, 18, 19, 20, 21, 22, 23, 24, 25, 26] rfl
  have hDc := hD.sub (ws' := cw cI cZ a σ) [0, 1, 2, 3, 4, 5, 6, 7, 8, 9, 10, 11, 12, 13, 14, 15, 16, 17, 18, 19, 20, 21, 22, 23, 24, 25, 26] (by decide) rfl
  have hFc := va_free (wc := cw cI cZ a σ) hD hS hA [0, 1, 2, 3, 4, 5, 6, 7, 8, 9, 10, 11, 12, 13, 14, 15, 16, 17, 18, 19, 20, 21, 22, 23, 24, 25, 26] rfl
  have hKc : va_K (dC, dI) vwCl [(cI, .int), (cZ, .boolean)] s := hK.sub [0, 1] rfl
  refine vx_calli (vx_runV (As := [.int x1, .int x2]) (rest := [.int 0, .ref o]) ⟨hx, hb, hml, hown, hts⟩ (m_X3_thingAt l hl9 dC dI cI cZ a zk H.size σ x1 x2 hiv) (cwV 2 hts (gV k_496 k_497 k_498 k_20 k_499) rfl rfl rfl (by decide +kernel) ⟨Nat.le_of_ble_eq_true rfl, Nat.le_of_ble_eq_true rfl⟩) (pv_pu (q := (RX3, TX3, 6)) (q0 := 0) (ci := 3) hKc hPc hDc hz hS hFc rfl rfl) rfl rfl hl.1 rfl (lv_room (Nat.le_of_ble_eq_true rfl)) dL_thingAt_5 ⟨Nat.le_of_ble_eq_true rfl, Nat.le_of_ble_eq_true rfl⟩) hS (fun q _ h => hFc q h) hFc (fun q _ h => hFc q h) ?_ ?_
  · intro E ce q9 u t H1 locs ht hvm hpx hB hz1 hk1 hS hc1 hc2 hc3
    obtain ⟨rfl, hP1, hK1, hD1⟩ := hB
    rw [ht] at hP1
    obtain ⟨hP2, hD2⟩ := va_join (wr := [(o, .inl (cL, 1, .inr (.inl g)))]) (w1 := cw cI cZ a σ) hP hD [0, 1, 2, 3, 4, 5, 6, 7, 8, 9, 10, 11, 12, 13, 14, 15, 16, 17, 18, 19, 20, 21, 22, 23, 24, 25, 26] [27] rfl rfl (by decide) (by decide) hk1 hFc hP1 hD1
    replace hP := hP2.sub (ws' := ow cI cZ cL a o σ g) [1, 2, 3, 4, 5, 6, 7, 8, 9, 10, 11, 12, 13, 14, 15, 16, 17, 18, 19, 20, 21, 22, 23, 24, 25, 26, 27, 0] rfl
    replace hD := hD2.sub (ws' := ow cI cZ cL a o σ g) [1, 2, 3, 4, 5, 6, 7, 8, 9, 10, 11, 12, 13, 14, 15, 16, 17, 18, 19, 20, 21, 22, 23, 24, 25, 26, 27, 0] (by decide) rfl
    rcases er_thingAt hpx with hE
    · subst hE
      refine vx_catch (name := "java/lang/IllegalArgumentException") hown [] ⟨0, 10, 13, 19⟩ [] hTab (fun z hz9 => by cases hz9) (by decide) (by decide) (hts _ (kc k_258)) (va_Nw.use rfl (hz.2.2.2.1.1 _ (by decide))) hc1 hc2 hc3 ?_
      refine lv_astore (lv' := [(4, .ref q9), (0, .ref (a 0)), (1, .int x1), (2, .int x2), (3, .ref o)]) hx hb dL_thingAt_13 hl (by decide) rfl (fun ls hl => ?_)
      refine lv_iconst (v := 1) hx hb dL_thingAt_15 (by decide) ?_
      refine W.widen (k := 2) (n := 12) (Nat.le_of_ble_eq_true rfl) (Nat.le_of_ble_eq_true rfl) ?_
      exact W.iret (v := 1) hx hb hr (fun t ht hW => ⟨⟨1, (σ, g), rfl, (by rw [hpx]; exact congrArg (fun z => (z, (σ, g))) (by decide)), by rw [ht]; exact hP, va_K.moved hW.alike hK, hD⟩, hS.F ht⟩) hS.2.2 dL_thingAt_16
  · intro r σ9 t H1 locs ht hvm hpo hB hz1 hk1 hS
    obtain ⟨hP1, hK1, hD1⟩ := hB
    rw [ht] at hP1
    obtain ⟨hP2, hD2⟩ := va_join (wr := [(o, .inl (cL, 1, .inr (.inl g)))]) (w1 := cw cI cZ a σ9) hP hD [0, 1, 2, 3, 4, 5, 6, 7, 8, 9, 10, 11, 12, 13, 14, 15, 16, 17, 18, 19, 20, 21, 22, 23, 24, 25, 26] [27] rfl rfl (by decide) (by decide) hk1 hFc hP1 hD1
    replace hP := hP2.sub (ws' := ow cI cZ cL a o σ9 g) [1, 2, 3, 4, 5, 6, 7, 8, 9, 10, 11, 12, 13, 14, 15, 16, 17, 18, 19, 20, 21, 22, 23, 24, 25, 26, 27, 0] rfl
    replace hD := hD2.sub (ws' := ow cI cZ cL a o σ9 g) [1, 2, 3, 4, 5, 6, 7, 8, 9, 10, 11, 12, 13, 14, 15, 16, 17, 18, 19, 20, 21, 22, 23, 24, 25, 26, 27, 0] (by decide) rfl
    refine lv_i2l hx hb dL_thingAt_8 rfl ?_
    refine va_last (D := (dC, dI)) (f := g) hx hb hK hP hD hS 27 2 rfl rfl (i := 0) (x := r.toInt64) (vp_lit 0 (by decide)) dL_thingAt_9 (fun H2 locs hP hD hS => ?_)
    replace hP : va_P (dC, dI) vwCl (ow cI cZ cL a o σ9 (vp_updL g 0 r.toInt64)) H2 := hP
    replace hD : va_D A (ow cI cZ cL a o σ9 (vp_updL g 0 r.toInt64)) := hD
    refine lv_goto (tgt := 17) hx hb dL_thingAt_10 (by decide) ?_
    refine lv_iconst (v := 0) hx hb dL_thingAt_17 (by decide) ?_
    refine W.widen (k := 2) (n := 12) (Nat.le_of_ble_eq_true rfl) (Nat.le_of_ble_eq_true rfl) ?_
    exact W.iret (v := 0) hx hb hr (fun t ht hW => ⟨⟨0, (σ9, vp_updL g 0 r.toInt64), rfl, (by rw [hpo]; rfl), by rw [ht]; exact hP, va_K.moved hW.alike hK, hD⟩, hS.F ht⟩) hS.2.2 dL_thingAt_18
set_option maxHeartbeats 4000000 in
set_option maxRecDepth 100000 in
theorem m_L_life (l : Launch) (hl9 : l.stackTraces = false) (dC : Nat → ClassId) (dI : Nat → Nat → Nat) (cI cZ cL : ClassId) (a : Nat → Nat) (o : Nat) (zk : Nat → Nat) (sz : Nat) (σ : St) (g : Nat → Int64) (x1 : Int32) (x2 : Int32) (hiv : IV σ) : Met l yL_life wsL_life ({ frames := 8, cells := 3, slots := 18, locals := 136 }) (pOu dC dI cI cZ cL a o zk sz σ g [.ref (a 0), .int x1, .int x2, .ref o]) (va_Qi (fun r u => (r, u) = wo ["java/lang/IllegalArgumentException", "java/lang/ArithmeticException"] σ g (sp_life σ x1 x2)) (bOu dC dI cI cZ cL a o (va_A (ow cI cZ cL a o σ g) sz)) (va_A (ow cI cZ cL a o σ g) sz)) 3 18 (va_A (ow cI cZ cL a o σ g) sz) := by
  refine va_MetW (cc := cL_life) (maxL := 5) (ret := (some .int)) (by decide) rfl ?_
  intro p e s m args below meth c s₁ B hml hv
  obtain ⟨rfl, hsz, hP, hK, hD0, hz⟩ := hv
  have hx := B.exec
  have hb := B.bytes
  have hr := B.returns
  have hts := atoms_spec (ws := wsL_life) B.pre
  have hown : s.vm.findClass RL = some m.cls := findClass_of_methodNamed B.named
  have hlocks := B.notSynchronized
  have hTab := vx_table (x := yL_life) B (hts _ List.mem_cons_self)
  subst hsz
  have hD := hD0.self (sz := s.heap.size)
  generalize hAe : va_A (ow cI cZ cL a o σ g) s.heap.size = A at hD hz ⊢
  have hA : ∀ q : Nat, s.heap.size ≤ q → A q := fun q h => by rw [← hAe]; exact Or.inr h
  clear hAe hD0
  obtain ⟨H, hHe⟩ : ∃ z, z = s.heap := ⟨_, rfl⟩
  obtain ⟨locs, hLe⟩ : ∃ z : List Loc, z = [] := ⟨_, rfl⟩
  have hS : va_S A s.heap H locs := by rw [hHe, hLe]; exact va_S.rf
  have hP : va_P (dC, dI) vwCl (ow cI cZ cL a o σ g) H := by rw [hHe]; exact hP
  refine W_ofH hHe hLe ?_
  clear hHe hLe
  have hl := lv_entry ([.ref (a 0), .int x1, .int x2, .ref o]) (n := 5) (Nat.le_of_ble_eq_true rfl)
  rw [lg_entry_eq]
  generalize (lg_sl ([.ref (a 0), .int x1, .int x2, .ref o]) ++ List.replicate (5 - (lg_sl ([.ref (a 0), .int x1, .int x2, .ref o])).length) Slot.unset).toArray = ls at hl ⊢
  have hl : lv_has ls 5 [(0, .ref (a 0)), (1, .int x1), (2, .int x2), (3, .ref o)] := hl
  refine lv_aload_n hx hb dL_life_0 rfl (lv_at hl 3 rfl) ?_
  refine lv_iconst (v := 0) hx hb dL_life_1 (by decide) ?_
  refine lv_aload_n hx hb dL_life_2 rfl (lv_at hl 0 rfl) ?_
  refine lv_iload_n hx hb dL_life_3 rfl (lv_at hl 1 rfl) ?_
  refine lv_iload_n hx hb dL_life_4 rfl (lv_at hl 2 rfl) ?_
  have hPc := hP.sub (ws' := cw cI cZ a σ) [0, 1, 2, 3, 4, 5, 6, 7, 8, 9, 10, 11, 12, 13, 14, 15, 16, 17, 18, 19, 20, 21, 22, 23, 24, 25, 26] rfl
  have hDc := hD.sub (ws' := cw cI cZ a σ) [0, 1, 2, 3, 4, 5, 6, 7, 8, 9, 10, 11, 12, 13, 14, 15, 16, 17, 18, 19, 20, 21, 22, 23, 24, 25, 26] (by decide) rfl
  have hFc := va_free (wc := cw cI cZ a σ) hD hS hA [0, 1, 2, 3, 4, 5, 6, 7, 8, 9, 10, 11, 12, 13, 14, 15, 16, 17, 18, 19, 20, 21, 22, 23, 24, 25, 26] rfl
  have hKc : va_K (dC, dI) vwCl [(cI, .int), (cZ, .boolean)] s := hK.sub [0, 1] rfl
  refine vx_calli (vx_runV (As := [.int x1, .int x2]) (rest := [.int 0, .ref o]) ⟨hx, hb, hml, hown, hts⟩ (m_X3_life l hl9 dC dI cI cZ a zk H.size σ x1 x2 hiv) (cwV 2 hts (gV k_505 k_506 k_507 k_20 k_508) rfl rfl rfl (by decide +kernel) ⟨Nat.le_of_ble_eq_true rfl, Nat.le_of_ble_eq_true rfl⟩) (pv_pu (q := (RX3, TX3, 6)) (q0 := 0) (ci := 3) hKc hPc hDc hz hS hFc rfl rfl) rfl rfl hl.1 rfl (lv_room (Nat.le_of_ble_eq_true rfl)) dL_life_5 ⟨Nat.le_of_ble_eq_true rfl, Nat.le_of_ble_eq_true rfl⟩) hS (fun q _ h => hFc q h) hFc (fun q _ h => hFc q h) ?_ ?_
  · intro E ce q9 u t H1 locs ht hvm hpx hB hz1 hk1 hS hc1 hc2 hc3
    obtain ⟨rfl, hP1, hK1, hD1⟩ := hB
    rw [ht] at hP1
    obtain ⟨hP2, hD2⟩ := va_join (wr := [(o, .inl (cL, 1, .inr (.inl g)))]) (w1 := cw cI cZ a σ) hP hD [0, 1, 2, 3, 4, 5, 6, 7, 8, 9, 10, 11, 12, 13, 14, 15, 16, 17, 18, 19, 20, 21, 22, 23, 24, 25, 26] [27] rfl rfl (by decide) (by decide) hk1 hFc hP1 hD1
    replace hP := hP2.sub (ws' := ow cI cZ cL a o σ g) [1, 2, 3, 4, 5, 6, 7, 8, 9, 10, 11, 12, 13, 14, 15, 16, 17, 18, 19, 20, 21, 22, 23, 24, 25, 26, 27, 0] rfl
    replace hD := hD2.sub (ws' := ow cI cZ cL a o σ g) [1, 2, 3, 4, 5, 6, 7, 8, 9, 10, 11, 12, 13, 14, 15, 16, 17, 18, 19, 20, 21, 22, 23, 24, 25, 26, 27, 0] (by decide) rfl
    rcases er_life hpx with hE | hE
    · subst hE
      refine vx_catch (name := "java/lang/IllegalArgumentException") hown [] ⟨0, 10, 13, 19⟩ [⟨0, 10, 17, 76⟩] hTab (fun z hz9 => by cases hz9) (by decide) (by decide) (hts _ (kc k_258)) (va_Nw.use rfl (hz.2.2.2.1.1 _ (by decide))) hc1 hc2 hc3 ?_
      refine lv_astore (lv' := [(4, .ref q9), (0, .ref (a 0)), (1, .int x1), (2, .int x2), (3, .ref o)]) hx hb dL_life_13 hl (by decide) rfl (fun ls hl => ?_)
      refine lv_iconst (v := 1) hx hb dL_life_15 (by decide) ?_
      refine W.widen (k := 3) (n := 18) (Nat.le_of_ble_eq_true rfl) (Nat.le_of_ble_eq_true rfl) ?_
      exact W.iret (v := 1) hx hb hr (fun t ht hW => ⟨⟨1, (σ, g), rfl, (by rw [hpx]; exact congrArg (fun z => (z, (σ, g))) (by decide)), by rw [ht]; exact hP, va_K.moved hW.alike hK, hD⟩, hS.F ht⟩) hS.2.2 dL_life_16
    · subst hE
      refine vx_catch (name := "java/lang/ArithmeticException") hown [⟨0, 10, 13, 19⟩] ⟨0, 10, 17, 76⟩ [] hTab (fun z hz9 => by
        simp only [List.mem_cons, List.not_mem_nil, or_false] at hz9
        rcases hz9 with rfl
        · exact Or.inr ⟨by decide, "java/lang/IllegalArgumentException", (hts _ (kc k_258)), hz.2.2.2.1.2.2.2 _ (by decide) _ (by decide) (by decide)⟩) (by decide) (by decide) (hts _ (kc k_504)) (va_Nw.use rfl (hz.2.2.2.1.1 _ (by decide))) hc1 hc2 hc3 ?_
      refine lv_astore (lv' := [(4, .ref q9), (0, .ref (a 0)), (1, .int x1), (2, .int x2), (3, .ref o)]) hx hb dL_life_17 hl (by decide) rfl (fun ls hl => ?_)
      refine lv_iconst (v := 2) hx hb dL_life_19 (by decide) ?_
      refine W.widen (k := 3) (n := 18) (Nat.le_of_ble_eq_true rfl) (Nat.le_of_ble_eq_true rfl) ?_
      exact W.iret (v := 2) hx hb hr (fun t ht hW => ⟨⟨2, (σ, g), rfl, (by rw [hpx]; exact congrArg (fun z => (z, (σ, g))) (by decide)), by rw [ht]; exact hP, va_K.moved hW.alike hK, hD⟩, hS.F ht⟩) hS.2.2 dL_life_20
  · intro r σ9 t H1 locs ht hvm hpo hB hz1 hk1 hS
    obtain ⟨hP1, hK1, hD1⟩ := hB
    rw [ht] at hP1
    obtain ⟨hP2, hD2⟩ := va_join (wr := [(o, .inl (cL, 1, .inr (.inl g)))]) (w1 := cw cI cZ a σ9) hP hD [0, 1, 2, 3, 4, 5, 6, 7, 8, 9, 10, 11, 12, 13, 14, 15, 16, 17, 18, 19, 20, 21, 22, 23, 24, 25, 26] [27] rfl rfl (by decide) (by decide) hk1 hFc hP1 hD1
    replace hP := hP2.sub (ws' := ow cI cZ cL a o σ9 g) [1, 2, 3, 4, 5, 6, 7, 8, 9, 10, 11, 12, 13, 14, 15, 16, 17, 18, 19, 20, 21, 22, 23, 24, 25, 26, 27, 0] rfl
    replace hD := hD2.sub (ws' := ow cI cZ cL a o σ9 g) [1, 2, 3, 4, 5, 6, 7, 8, 9, 10, 11, 12, 13, 14, 15, 16, 17, 18, 19, 20, 21, 22, 23, 24, 25, 26, 27, 0] (by decide) rfl
    refine lv_i2l hx hb dL_life_8 rfl ?_
    refine va_last (D := (dC, dI)) (f := g) hx hb hK hP hD hS 27 2 rfl rfl (i := 0) (x := r.toInt64) (vp_lit 0 (by decide)) dL_life_9 (fun H2 locs hP hD hS => ?_)
    replace hP : va_P (dC, dI) vwCl (ow cI cZ cL a o σ9 (vp_updL g 0 r.toInt64)) H2 := hP
    replace hD : va_D A (ow cI cZ cL a o σ9 (vp_updL g 0 r.toInt64)) := hD
    refine lv_goto (tgt := 21) hx hb dL_life_10 (by decide) ?_
    refine lv_iconst (v := 0) hx hb dL_life_21 (by decide) ?_
    refine W.widen (k := 3) (n := 18) (Nat.le_of_ble_eq_true rfl) (Nat.le_of_ble_eq_true rfl) ?_
    exact W.iret (v := 0) hx hb hr (fun t ht hW => ⟨⟨0, (σ9, vp_updL g 0 r.toInt64), rfl, (by rw [hpo]; rfl), by rw [ht]; exact hP, va_K.moved hW.alike hK, hD⟩, hS.F ht⟩) hS.2.2 dL_life_22
set_option maxHeartbeats 4000000 in
set_option maxRecDepth 100000 in
theorem m_L_plan (l : Launch) (hl9 : l.stackTraces = false) (dC : Nat → ClassId) (dI : Nat → Nat → Nat) (cI cZ cL : ClassId) (a : Nat → Nat) (o : Nat) (zk : Nat → Nat) (sz : Nat) (σ : St) (g : Nat → Int64) (x1 : Int64) (x3 : Int32) (x4 : Int32) (x5 : Int32) (hiv : IV σ) : Met l yL_plan wsL_plan ({ frames := 11, cells := 2, slots := 12, locals := 272 }) (pOu dC dI cI cZ cL a o zk sz σ g [.ref (a 0), .long x1, .int x3, .int x4, .int x5, .ref o]) (va_Qi (fun r u => (r, u) = wo ["java/lang/IndexOutOfBoundsException"] σ g (sp_plan σ x1 x3 x4 x5)) (bOu dC dI cI cZ cL a o (va_A (ow cI cZ cL a o σ g) sz)) (va_A (ow cI cZ cL a o σ g) sz)) 2 12 (va_A (ow cI cZ cL a o σ g) sz) := by
  refine va_MetW (cc := cL_plan) (maxL := 8) (ret := (some .int)) (by decide) rfl ?_
  intro p e s m args below meth c s₁ B hml hv
  obtain ⟨rfl, hsz, hP, hK, hD0, hz⟩ := hv
  have hx := B.exec
  have hb := B.bytes
  have hr := B.returns
  have hts := atoms_spec (ws := wsL_plan) B.pre
  have hown : s.vm.findClass RL = some m.cls := findClass_of_methodNamed B.named
  have hlocks := B.notSynchronized
  have hTab := vx_table (x := yL_plan) B (hts _ List.mem_cons_self)
  subst hsz
  have hD := hD0.self (sz := s.heap.size)
  generalize hAe : va_A (ow cI cZ cL a o σ g) s.heap.size = A at hD hz ⊢
  have hA : ∀ q : Nat, s.heap.size ≤ q → A q := fun q h => by rw [← hAe]; exact Or.inr h
  clear hAe hD0
  obtain ⟨H, hHe⟩ : ∃ z, z = s.heap := ⟨_, rfl⟩
  obtain ⟨locs, hLe⟩ : ∃ z : List Loc, z = [] := ⟨_, rfl⟩
  have hS : va_S A s.heap H locs := by rw [hHe, hLe]; exact va_S.rf
  have hP : va_P (dC, dI) vwCl (ow cI cZ cL a o σ g) H := by rw [hHe]; exact hP
  refine W_ofH hHe hLe ?_
  clear hHe hLe
  have hl := lv_entry ([.ref (a 0), .long x1, .int x3, .int x4, .int x5, .ref o]) (n := 8) (Nat.le_of_ble_eq_true rfl)
  rw [lg_entry_eq]
  generalize (lg_sl ([.ref (a 0), .long x1, .int x3, .int x4, .int x5, .ref o]) ++ List.replicate (8 - (lg_sl ([.ref (a 0), .long x1, .int x3, .int x4, .int x5, .ref o])).length) Slot.unset).toArray = ls at hl ⊢
  have hl : lv_has ls 8 [(0, .ref (a 0)), (1, .long x1), (3, .int x3), (4, .int x4), (5, .int x5), (6, .ref o)] := hl
  refine lv_aload hx hb dL_plan_0 (lv_at hl 5 rfl) ?_
  refine lv_iconst (v := 0) hx hb dL_plan_2 (by decide) ?_
  refine lv_aload_n hx hb dL_plan_3 rfl (lv_at hl 0 rfl) ?_
  refine lv_lload_n hx hb dL_plan_4 rfl (lv_at hl 1 rfl) ?_
  refine lv_iload_n hx hb dL_plan_5 rfl (lv_at hl 2 rfl) ?_
  refine lv_iload hx hb dL_plan_6 (lv_at hl 3 rfl) ?_
  refine lv_iload hx hb dL_plan_8 (lv_at hl 4 rfl) ?_
  have hPc := hP.sub (ws' := cw cI cZ a σ) [0, 1, 2, 3, 4, 5, 6, 7, 8, 9, 10, 11, 12, 13, 14, 15, 16, 17, 18, 19, 20, 21, 22, 23, 24, 25, 26] rfl
  have hDc := hD.sub (ws' := cw cI cZ a σ) [0, 1, 2, 3, 4, 5, 6, 7, 8, 9, 10, 11, 12, 13, 14, 15, 16, 17, 18, 19, 20, 21, 22, 23, 24, 25, 26] (by decide) rfl
  have hFc := va_free (wc := cw cI cZ a σ) hD hS hA [0, 1, 2, 3, 4, 5, 6, 7, 8, 9, 10, 11, 12, 13, 14, 15, 16, 17, 18, 19, 20, 21, 22, 23, 24, 25, 26] rfl
  have hKc : va_K (dC, dI) vwCl [(cI, .int), (cZ, .boolean)] s := hK.sub [0, 1] rfl
  refine vx_calli (vx_runV (As := [.long x1, .int x3, .int x4, .int x5]) (rest := [.int 0, .ref o]) ⟨hx, hb, hml, hown, hts⟩ (m_X3_plan l hl9 dC dI cI cZ a zk H.size σ x1 x3 x4 x5 hiv) (cwV 4 hts (gV k_539 k_540 k_541 k_20 k_542) rfl rfl rfl (by decide +kernel) ⟨Nat.le_of_ble_eq_true rfl, Nat.le_of_ble_eq_true rfl⟩) (pv_pu (q := (RX3, TX3, 6)) (q0 := 0) (ci := 3) hKc hPc hDc hz hS hFc rfl rfl) rfl rfl hl.1 rfl (lv_room (Nat.le_of_ble_eq_true rfl)) dL_plan_10 ⟨Nat.le_of_ble_eq_true rfl, Nat.le_of_ble_eq_true rfl⟩) hS (fun q _ h => hFc q h) hFc (fun q _ h => hFc q h) ?_ ?_
  · intro E ce q9 u t H1 locs ht hvm hpx hB hz1 hk1 hS hc1 hc2 hc3
    obtain ⟨rfl, hP1, hK1, hD1⟩ := hB
    rw [ht] at hP1
    obtain ⟨hP2, hD2⟩ := va_join (wr := [(o, .inl (cL, 1, .inr (.inl g)))]) (w1 := cw cI cZ a σ) hP hD [0, 1, 2, 3, 4, 5, 6, 7, 8, 9, 10, 11, 12, 13, 14, 15, 16, 17, 18, 19, 20, 21, 22, 23, 24, 25, 26] [27] rfl rfl (by decide) (by decide) hk1 hFc hP1 hD1
    replace hP := hP2.sub (ws' := ow cI cZ cL a o σ g) [1, 2, 3, 4, 5, 6, 7, 8, 9, 10, 11, 12, 13, 14, 15, 16, 17, 18, 19, 20, 21, 22, 23, 24, 25, 26, 27, 0] rfl
    replace hD := hD2.sub (ws' := ow cI cZ cL a o σ g) [1, 2, 3, 4, 5, 6, 7, 8, 9, 10, 11, 12, 13, 14, 15, 16, 17, 18, 19, 20, 21, 22, 23, 24, 25, 26, 27, 0] (by decide) rfl
    rcases er_plan hpx with hE
    · subst hE
      refine vx_catch (name := "java/lang/IndexOutOfBoundsException") hown [] ⟨0, 15, 18, 13⟩ [] hTab (fun z hz9 => by cases hz9) (by decide) (by decide) (hts _ (kc k_176)) (va_Nw.use rfl (hz.2.2.2.1.1 _ (by decide))) hc1 hc2 hc3 ?_
      refine lv_astore (lv' := [(7, .ref q9), (0, .ref (a 0)), (1, .long x1), (3, .int x3), (4, .int x4), (5, .int x5), (6, .ref o)]) hx hb dL_plan_18 hl (by decide) rfl (fun ls hl => ?_)
      refine lv_iconst (v := 1) hx hb dL_plan_20 (by decide) ?_
      refine W.widen (k := 2) (n := 12) (Nat.le_of_ble_eq_true rfl) (Nat.le_of_ble_eq_true rfl) ?_
      exact W.iret (v := 1) hx hb hr (fun t ht hW => ⟨⟨1, (σ, g), rfl, (by rw [hpx]; exact congrArg (fun z => (z, (σ, g))) (by decide)), by rw [ht]; exact hP, va_K.moved hW.alike hK, hD⟩, hS.F ht⟩) hS.2.2 dL_plan_21
  · intro r σ9 t H1 locs ht hvm hpo hB hz1 hk1 hS
    obtain ⟨hP1, hK1, hD1⟩ := hB
    rw [ht] at hP1
    obtain ⟨hP2, hD2⟩ := va_join (wr := [(o, .inl (cL, 1, .inr (.inl g)))]) (w1 := cw cI cZ a σ9) hP hD [0, 1, 2, 3, 4, 5, 6, 7, 8, 9, 10, 11, 12, 13, 14, 15, 16, 17, 18, 19, 20, 21, 22, 23, 24, 25, 26] [27] rfl rfl (by decide) (by decide) hk1 hFc hP1 hD1
    replace hP := hP2.sub (ws' := ow cI cZ cL a o σ9 g) [1, 2, 3, 4, 5, 6, 7, 8, 9, 10, 11, 12, 13, 14, 15, 16, 17, 18, 19, 20, 21, 22, 23, 24, 25, 26, 27, 0] rfl
    replace hD := hD2.sub (ws' := ow cI cZ cL a o σ9 g) [1, 2, 3, 4, 5, 6, 7, 8, 9, 10, 11, 12, 13, 14, 15, 16, 17, 18, 19, 20, 21, 22, 23, 24, 25, 26, 27, 0] (by decide) rfl
    refine lv_i2l hx hb dL_plan_13 rfl ?_
    refine va_last (D := (dC, dI)) (f := g) hx hb hK hP hD hS 27 2 rfl rfl (i := 0) (x := r.toInt64) (vp_lit 0 (by decide)) dL_plan_14 (fun H2 locs hP hD hS => ?_)
    replace hP : va_P (dC, dI) vwCl (ow cI cZ cL a o σ9 (vp_updL g 0 r.toInt64)) H2 := hP
    replace hD : va_D A (ow cI cZ cL a o σ9 (vp_updL g 0 r.toInt64)) := hD
    refine lv_goto (tgt := 22) hx hb dL_plan_15 (by decide) ?_
    refine lv_iconst (v := 0) hx hb dL_plan_22 (by decide) ?_
    refine W.widen (k := 2) (n := 12) (Nat.le_of_ble_eq_true rfl) (Nat.le_of_ble_eq_true rfl) ?_
    exact W.iret (v := 0) hx hb hr (fun t ht hW => ⟨⟨0, (σ9, vp_updL g 0 r.toInt64), rfl, (by rw [hpo]; rfl), by rw [ht]; exact hP, va_K.moved hW.alike hK, hD⟩, hS.F ht⟩) hS.2.2 dL_plan_23
set_option maxHeartbeats 4000000 in
set_option maxRecDepth 100000 in
theorem m_L_week (l : Launch) (hl9 : l.stackTraces = false) (dC : Nat → ClassId) (dI : Nat → Nat → Nat) (cI cZ cL : ClassId) (a : Nat → Nat) (o : Nat) (zk : Nat → Nat) (sz : Nat) (σ : St) (g : Nat → Int64) (x1 : Int32) (hiv : IV σ) : Met l yL_week wsL_week ({ frames := 8, cells := 1, slots := 6, locals := 132 }) (pOu dC dI cI cZ cL a o zk sz σ g [.ref (a 0), .int x1, .ref o]) (va_Qi (fun r u => (r, u) = wo ["java/lang/IllegalArgumentException"] σ g (sp_week σ x1)) (bOu dC dI cI cZ cL a o (va_A (ow cI cZ cL a o σ g) sz)) (va_A (ow cI cZ cL a o σ g) sz)) 1 6 (va_A (ow cI cZ cL a o σ g) sz) := by
  refine va_MetW (cc := cL_week) (maxL := 4) (ret := (some .int)) (by decide) rfl ?_
  intro p e s m args below meth c s₁ B hml hv
  obtain ⟨rfl, hsz, hP, hK, hD0, hz⟩ := hv
  have hx := B.exec
  have hb := B.bytes
  have hr := B.returns
  have hts := atoms_spec (ws := wsL_week) B.pre
  have hown : s.vm.findClass RL = some m.cls := findClass_of_methodNamed B.named
  have hlocks := B.notSynchronized
  have hTab := vx_table (x := yL_week) B (hts _ List.mem_cons_self)
  subst hsz
  have hD := hD0.self (sz := s.heap.size)
  generalize hAe : va_A (ow cI cZ cL a o σ g) s.heap.size = A at hD hz ⊢
  have hA : ∀ q : Nat, s.heap.size ≤ q → A q := fun q h => by rw [← hAe]; exact Or.inr h
  clear hAe hD0
  obtain ⟨H, hHe⟩ : ∃ z, z = s.heap := ⟨_, rfl⟩
  obtain ⟨locs, hLe⟩ : ∃ z : List Loc, z = [] := ⟨_, rfl⟩
  have hS : va_S A s.heap H locs := by rw [hHe, hLe]; exact va_S.rf
  have hP : va_P (dC, dI) vwCl (ow cI cZ cL a o σ g) H := by rw [hHe]; exact hP
  refine W_ofH hHe hLe ?_
  clear hHe hLe
  have hl := lv_entry ([.ref (a 0), .int x1, .ref o]) (n := 4) (Nat.le_of_ble_eq_true rfl)
  rw [lg_entry_eq]
  generalize (lg_sl ([.ref (a 0), .int x1, .ref o]) ++ List.replicate (4 - (lg_sl ([.ref (a 0), .int x1, .ref o])).length) Slot.unset).toArray = ls at hl ⊢
  have hl : lv_has ls 4 [(0, .ref (a 0)), (1, .int x1), (2, .ref o)] := hl
  refine lv_aload_n hx hb dL_week_0 rfl (lv_at hl 2 rfl) ?_
  refine lv_iconst (v := 0) hx hb dL_week_1 (by decide) ?_
  refine lv_aload_n hx hb dL_week_2 rfl (lv_at hl 0 rfl) ?_
  refine lv_iload_n hx hb dL_week_3 rfl (lv_at hl 1 rfl) ?_
  have hPc := hP.sub (ws' := cw cI cZ a σ) [0, 1, 2, 3, 4, 5, 6, 7, 8, 9, 10, 11, 12, 13, 14, 15, 16, 17, 18, 19, 20, 21, 22, 23, 24, 25, 26] rfl
  have hDc := hD.sub (ws' := cw cI cZ a σ) [0, 1, 2, 3, 4, 5, 6, 7, 8, 9, 10, 11, 12, 13, 14, 15, 16, 17, 18, 19, 20, 21, 22, 23, 24, 25, 26] (by decide) rfl
  have hFc := va_free (wc := cw cI cZ a σ) hD hS hA [0, 1, 2, 3, 4, 5, 6, 7, 8, 9, 10, 11, 12, 13, 14, 15, 16, 17, 18, 19, 20, 21, 22, 23, 24, 25, 26] rfl
  have hKc : va_K (dC, dI) vwCl [(cI, .int), (cZ, .boolean)] s := hK.sub [0, 1] rfl
  refine vx_calli (vx_runV (As := [.int x1]) (rest := [.int 0, .ref o]) ⟨hx, hb, hml, hown, hts⟩ (m_X3_week l hl9 dC dI cI cZ a zk H.size σ x1 hiv) (cwV 1 hts (gV k_561 k_562 k_563 k_20 k_564) rfl rfl rfl (by decide +kernel) ⟨Nat.le_of_ble_eq_true rfl, Nat.le_of_ble_eq_true rfl⟩) (pv_pu (q := (RX3, TX3, 6)) (q0 := 0) (ci := 3) hKc hPc hDc hz hS hFc rfl rfl) rfl rfl hl.1 rfl (lv_room (Nat.le_of_ble_eq_true rfl)) dL_week_4 ⟨Nat.le_of_ble_eq_true rfl, Nat.le_of_ble_eq_true rfl⟩) hS (fun q _ h => hFc q h) hFc (fun q _ h => hFc q h) ?_ ?_
  · intro E ce q9 u t H1 locs ht hvm hpx hB hz1 hk1 hS hc1 hc2 hc3
    obtain ⟨rfl, hP1, hK1, hD1⟩ := hB
    rw [ht] at hP1
    obtain ⟨hP2, hD2⟩ := va_join (wr := [(o, .inl (cL, 1, .inr (.inl g)))]) (w1 := cw cI cZ a σ) hP hD [0, 1, 2, 3, 4, 5, 6, 7, 8, 9, 10, 11, 12, 13, 14, 15, 16, 17, 18, 19, 20, 21, 22, 23, 24, 25, 26] [27] rfl rfl (by decide) (by decide) hk1 hFc hP1 hD1
    replace hP := hP2.sub (ws' := ow cI cZ cL a o σ g) [1, 2, 3, 4, 5, 6, 7, 8, 9, 10, 11, 12, 13, 14, 15, 16, 17, 18, 19, 20, 21, 22, 23, 24, 25, 26, 27, 0] rfl
    replace hD := hD2.sub (ws' := ow cI cZ cL a o σ g) [1, 2, 3, 4, 5, 6, 7, 8, 9, 10, 11, 12, 13, 14, 15, 16, 17, 18, 19, 20, 21, 22, 23, 24, 25, 26, 27, 0] (by decide) rfl
    rcases er_week hpx with hE
    · subst hE
      refine vx_catch (name := "java/lang/IllegalArgumentException") hown [] ⟨0, 9, 12, 19⟩ [] hTab (fun z hz9 => by cases hz9) (by decide) (by decide) (hts _ (kc k_258)) (va_Nw.use rfl (hz.2.2.2.1.1 _ (by decide))) hc1 hc2 hc3 ?_
      refine lv_astore_n (lv' := [(3, .ref q9), (0, .ref (a 0)), (1, .int x1), (2, .ref o)]) hx hb dL_week_12 rfl hl (by decide) rfl (fun ls hl => ?_)
      refine lv_iconst (v := 1) hx hb dL_week_13 (by decide) ?_
      refine W.widen (k := 1) (n := 6) (Nat.le_of_ble_eq_true rfl) (Nat.le_of_ble_eq_true rfl) ?_
      exact W.iret (v := 1) hx hb hr (fun t ht hW => ⟨⟨1, (σ, g), rfl, (by rw [hpx]; exact congrArg (fun z => (z, (σ, g))) (by decide)), by rw [ht]; exact hP, va_K.moved hW.alike hK, hD⟩, hS.F ht⟩) hS.2.2 dL_week_14
  · intro r σ9 t H1 locs ht hvm hpo hB hz1 hk1 hS
    obtain ⟨hP1, hK1, hD1⟩ := hB
    rw [ht] at hP1
    obtain ⟨hP2, hD2⟩ := va_join (wr := [(o, .inl (cL, 1, .inr (.inl g)))]) (w1 := cw cI cZ a σ9) hP hD [0, 1, 2, 3, 4, 5, 6, 7, 8, 9, 10, 11, 12, 13, 14, 15, 16, 17, 18, 19, 20, 21, 22, 23, 24, 25, 26] [27] rfl rfl (by decide) (by decide) hk1 hFc hP1 hD1
    replace hP := hP2.sub (ws' := ow cI cZ cL a o σ9 g) [1, 2, 3, 4, 5, 6, 7, 8, 9, 10, 11, 12, 13, 14, 15, 16, 17, 18, 19, 20, 21, 22, 23, 24, 25, 26, 27, 0] rfl
    replace hD := hD2.sub (ws' := ow cI cZ cL a o σ9 g) [1, 2, 3, 4, 5, 6, 7, 8, 9, 10, 11, 12, 13, 14, 15, 16, 17, 18, 19, 20, 21, 22, 23, 24, 25, 26, 27, 0] (by decide) rfl
    refine lv_i2l hx hb dL_week_7 rfl ?_
    refine va_last (D := (dC, dI)) (f := g) hx hb hK hP hD hS 27 2 rfl rfl (i := 0) (x := r.toInt64) (vp_lit 0 (by decide)) dL_week_8 (fun H2 locs hP hD hS => ?_)
    replace hP : va_P (dC, dI) vwCl (ow cI cZ cL a o σ9 (vp_updL g 0 r.toInt64)) H2 := hP
    replace hD : va_D A (ow cI cZ cL a o σ9 (vp_updL g 0 r.toInt64)) := hD
    refine lv_goto (tgt := 15) hx hb dL_week_9 (by decide) ?_
    refine lv_iconst (v := 0) hx hb dL_week_15 (by decide) ?_
    refine W.widen (k := 1) (n := 6) (Nat.le_of_ble_eq_true rfl) (Nat.le_of_ble_eq_true rfl) ?_
    exact W.iret (v := 0) hx hb hr (fun t ht hW => ⟨⟨0, (σ9, vp_updL g 0 r.toInt64), rfl, (by rw [hpo]; rfl), by rw [ht]; exact hP, va_K.moved hW.alike hK, hD⟩, hS.F ht⟩) hS.2.2 dL_week_16
