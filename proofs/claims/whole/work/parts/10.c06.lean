set_option maxHeartbeats 4000000 in
set_option maxRecDepth 100000 in
theorem m_X3_barred (l : Launch) (hl9 : l.stackTraces = false) (dC : Nat → ClassId) (dI : Nat → Nat → Nat) (cI cZ : ClassId) (a : Nat → Nat) (zk : Nat → Nat) (sz : Nat) (σ : St) (x1 : Int32) (hiv : IV σ) : vx_Met l yX3_barred wsX3_barred ({ frames := 7, cells := 1, slots := 6, locals := 111 }) (pPu dC dI cI cZ a zk sz σ [.ref (a 0), .int x1]) (va_Qi (fun r σ9 => sp_barred σ x1 = .ok (r, σ9)) (bMu dC dI cI cZ a (va_A (cw cI cZ a σ) sz)) (va_A (cw cI cZ a σ) sz)) (vx_X (fun E : String => sp_barred σ x1 = .error E) (bXu dC dI cI cZ a (va_A (cw cI cZ a σ) sz) σ) (va_A (cw cI cZ a σ) sz)) 1 6 (va_A (cw cI cZ a σ) sz) := by
  refine vx_ofW (cc := cX3_barred) (maxL := 2) (ret := (some .int)) (by decide) rfl ?_
  intro p e s m args below meth c s₁ B hml hEx hv
  obtain ⟨rfl, hsz, hP, hK, hD0, hz⟩ := hv
  have hx := B.exec
  have hb := B.bytes
  have hr := B.returns
  have hts := atoms_spec (ws := wsX3_barred) B.pre
  have hown : s.vm.findClass RX3 = some m.cls := findClass_of_methodNamed B.named
  have hlocks := B.notSynchronized
  subst hsz
  have hD := hD0.self (sz := s.heap.size)
  generalize hAe : va_A (cw cI cZ a σ) s.heap.size = A at hD hz ⊢
  have hA : ∀ q : Nat, s.heap.size ≤ q → A q := fun q h => by rw [← hAe]; exact Or.inr h
  clear hAe hD0
  obtain ⟨H, hHe⟩ : ∃ z, z = s.heap := ⟨_, rfl⟩
  obtain ⟨locs, hLe⟩ : ∃ z : List Loc, z = [] := ⟨_, rfl⟩
  have hS : va_S A s.heap H locs := by rw [hHe, hLe]; exact va_S.rf
  have hP : va_P (dC, dI) vwCl (cw cI cZ a σ) H := by rw [hHe]; exact hP
  refine W_ofH hHe hLe ?_
  clear hHe hLe
  have hl := lv_entry ([.ref (a 0), .int x1]) (n := 2) (Nat.le_of_ble_eq_true rfl)
  rw [lg_entry_eq]
  generalize (lg_sl ([.ref (a 0), .int x1]) ++ List.replicate (2 - (lg_sl ([.ref (a 0), .int x1])).length) Slot.unset).toArray = ls at hl ⊢
  have hl : lv_has ls 2 [(0, .ref (a 0)), (1, .int x1)] := hl
  obtain ⟨R, hR⟩ : ∃ z, z = sp_barred σ x1 := ⟨_, rfl⟩
  have hw := hR
  unfold sp_barred at hw
  refine lv_iload_n hx hb dX3_barred_0 rfl (lv_at hl 1 rfl) ?_
  refine lv_aload_n hx hb dX3_barred_1 rfl (lv_at hl 0 rfl) ?_
  refine va_get (D := (dC, dI)) (ci := 3) (v := .ref (a 7)) (C := RX3) (T := TX3) (N := 6) hx hb hts (iwX3 _) hown hK hP 0 rfl rfl 1 (by decide) (hts _ (kc k_155)) (fun _ h9 => h9) rfl dX3_barred_2 ?_
  refine va_get (D := (dC, dI)) (ci := 2) (v := .int (σ 7 11)) (C := RX2) (T := TX2) (N := 12) hx hb hts (iwX2 _) hown hK hP 7 rfl rfl 11 (by decide) (hts _ (kc k_97)) (fun _ h9 => h9) rfl dX3_barred_5 ?_
  refine nx_call (vx_runS (As := [.int x1, .int (σ 7 11)]) (rest := []) ⟨hx, hb, hml, hown, hts⟩ (m_X3_needKnown l hl9 zk H.size x1 (σ 7 11)) (cwS 2 hts (gS k_263 k_264 k_20 k_265) rfl rfl rfl (by decide +kernel) ⟨Nat.le_of_ble_eq_true rfl, Nat.le_of_ble_eq_true rfl⟩) (pn_need hz hS hA) rfl rfl hl.1 rfl (lv_room (Nat.le_of_ble_eq_true rfl)) dX3_barred_8 ⟨Nat.le_of_ble_eq_true rfl, Nat.le_of_ble_eq_true rfl⟩) hP hD hS hA (fun c_8_1 => ?_) (fun c_8_1 H1 q9 ce hP1 hS1 hc1 hc2 hc3 => vx_out (fun x hx9 => (hEx x hx9).elim) hlocks hc1 hc2 hc3 (fun t ht hvm => ⟨_, hR.symm.trans (hw.trans (if_neg c_8_1)), ⟨rfl, by rw [ht]; exact hP1, va_K.moved hvm hK, hD⟩, hS1.F ht⟩) hS1.2.2 (Nat.le_of_ble_eq_true rfl) (Nat.le_of_ble_eq_true rfl))
  rw [if_pos c_8_1] at hw
  have hn_2 : vp_in x1 40 := okK_cnt hiv c_8_1
  refine lv_aload_n hx hb dX3_barred_11 rfl (lv_at hl 0 rfl) ?_
  refine lv_iload_n hx hb dX3_barred_12 rfl (lv_at hl 1 rfl) ?_
  refine vp_callSi (W.runV (As := [.int x1]) (rest := []) ⟨hx, hb, hml, hown, hts⟩ (m_X3_reasonBarred l dC dI cI cZ a σ x1 hiv hn_2) (cwV 1 hts (gV k_368 k_370 k_1 k_20 k_371) rfl rfl rfl (by decide +kernel) ⟨Nat.le_of_ble_eq_true rfl, Nat.le_of_ble_eq_true rfl⟩) (pv_ro (q := (RX3, TX3, 6)) (q0 := 0) (ci := 3) hK hP rfl rfl) rfl rfl hl.1 rfl (lv_room (Nat.le_of_ble_eq_true rfl)) dX3_barred_13 ⟨Nat.le_of_ble_eq_true rfl, Nat.le_of_ble_eq_true rfl⟩) (fun r hrr => ?_)
  subst hrr
  refine vx_ret ?_
  refine W.widen (k := 1) (n := 6) (Nat.le_of_ble_eq_true rfl) (Nat.le_of_ble_eq_true rfl) ?_
  exact W.iret (v := sp_reasonBarred σ x1) hx hb hr (fun t ht hW => ⟨⟨sp_reasonBarred σ x1, σ, rfl, hR.symm.trans hw, by rw [ht]; exact hP, va_K.moved hW.alike hK, hD⟩, hS.F ht⟩) hS.2.2 dX3_barred_16
set_option maxHeartbeats 4000000 in
set_option maxRecDepth 100000 in
theorem m_X3_ends (l : Launch) (hl9 : l.stackTraces = false) (dC : Nat → ClassId) (dI : Nat → Nat → Nat) (cI cZ : ClassId) (a : Nat → Nat) (zk : Nat → Nat) (sz : Nat) (σ : St) (x1 : Int32) (hiv : IV σ) : vx_Met l yX3_ends wsX3_ends ({ frames := 7, cells := 1, slots := 6, locals := 111 }) (pPu dC dI cI cZ a zk sz σ [.ref (a 0), .int x1]) (va_Qi (fun r σ9 => sp_ends σ x1 = .ok (r, σ9)) (bMu dC dI cI cZ a (va_A (cw cI cZ a σ) sz)) (va_A (cw cI cZ a σ) sz)) (vx_X (fun E : String => sp_ends σ x1 = .error E) (bXu dC dI cI cZ a (va_A (cw cI cZ a σ) sz) σ) (va_A (cw cI cZ a σ) sz)) 1 6 (va_A (cw cI cZ a σ) sz) := by
  refine vx_ofW (cc := cX3_ends) (maxL := 2) (ret := (some .int)) (by decide) rfl ?_
  intro p e s m args below meth c s₁ B hml hEx hv
  obtain ⟨rfl, hsz, hP, hK, hD0, hz⟩ := hv
  have hx := B.exec
  have hb := B.bytes
  have hr := B.returns
  have hts := atoms_spec (ws := wsX3_ends) B.pre
  have hown : s.vm.findClass RX3 = some m.cls := findClass_of_methodNamed B.named
  have hlocks := B.notSynchronized
  subst hsz
  have hD := hD0.self (sz := s.heap.size)
  generalize hAe : va_A (cw cI cZ a σ) s.heap.size = A at hD hz ⊢
  have hA : ∀ q : Nat, s.heap.size ≤ q → A q := fun q h => by rw [← hAe]; exact Or.inr h
  clear hAe hD0
  obtain ⟨H, hHe⟩ : ∃ z, z = s.heap := ⟨_, rfl⟩
  obtain ⟨locs, hLe⟩ : ∃ z : List Loc, z = [] := ⟨_, rfl⟩
  have hS : va_S A s.heap H locs := by rw [hHe, hLe]; exact va_S.rf
  have hP : va_P (dC, dI) vwCl (cw cI cZ a σ) H := by rw [hHe]; exact hP
  refine W_ofH hHe hLe ?_
  clear hHe hLe
  have hl := lv_entry ([.ref (a 0), .int x1]) (n := 2) (Nat.le_of_ble_eq_true rfl)
  rw [lg_entry_eq]
  generalize (lg_sl ([.ref (a 0), .int x1]) ++ List.replicate (2 - (lg_sl ([.ref (a 0), .int x1])).length) Slot.unset).toArray = ls at hl ⊢
  have hl : lv_has ls 2 [(0, .ref (a 0)), (1, .int x1)] := hl
  obtain ⟨R, hR⟩ : ∃ z, z = sp_ends σ x1 := ⟨_, rfl⟩
  have hw := hR
  unfold sp_ends at hw
  refine lv_iload_n hx hb dX3_ends_0 rfl (lv_at hl 1 rfl) ?_
  refine lv_aload_n hx hb dX3_ends_1 rfl (lv_at hl 0 rfl) ?_
  refine va_get (D := (dC, dI)) (ci := 3) (v := .ref (a 7)) (C := RX3) (T := TX3) (N := 6) hx hb hts (iwX3 _) hown hK hP 0 rfl rfl 1 (by decide) (hts _ (kc k_155)) (fun _ h9 => h9) rfl dX3_ends_2 ?_
  refine va_get (D := (dC, dI)) (ci := 2) (v := .int (σ 7 11)) (C := RX2) (T := TX2) (N := 12) hx hb hts (iwX2 _) hown hK hP 7 rfl rfl 11 (by decide) (hts _ (kc k_97)) (fun _ h9 => h9) rfl dX3_ends_5 ?_
  refine nx_call (vx_runS (As := [.int x1, .int (σ 7 11)]) (rest := []) ⟨hx, hb, hml, hown, hts⟩ (m_X3_needKnown l hl9 zk H.size x1 (σ 7 11)) (cwS 2 hts (gS k_263 k_264 k_20 k_265) rfl rfl rfl (by decide +kernel) ⟨Nat.le_of_ble_eq_true rfl, Nat.le_of_ble_eq_true rfl⟩) (pn_need hz hS hA) rfl rfl hl.1 rfl (lv_room (Nat.le_of_ble_eq_true rfl)) dX3_ends_8 ⟨Nat.le_of_ble_eq_true rfl, Nat.le_of_ble_eq_true rfl⟩) hP hD hS hA (fun c_8_1 => ?_) (fun c_8_1 H1 q9 ce hP1 hS1 hc1 hc2 hc3 => vx_out (fun x hx9 => (hEx x hx9).elim) hlocks hc1 hc2 hc3 (fun t ht hvm => ⟨_, hR.symm.trans (hw.trans (if_neg c_8_1)), ⟨rfl, by rw [ht]; exact hP1, va_K.moved hvm hK, hD⟩, hS1.F ht⟩) hS1.2.2 (Nat.le_of_ble_eq_true rfl) (Nat.le_of_ble_eq_true rfl))
  rw [if_pos c_8_1] at hw
  have hn_2 : vp_in x1 40 := okK_cnt hiv c_8_1
  refine lv_aload_n hx hb dX3_ends_11 rfl (lv_at hl 0 rfl) ?_
  refine lv_iload_n hx hb dX3_ends_12 rfl (lv_at hl 1 rfl) ?_
  refine vp_callSi (W.runV (As := [.int x1]) (rest := []) ⟨hx, hb, hml, hown, hts⟩ (m_X3_endOf l dC dI cI cZ a σ x1 hiv hn_2) (cwV 1 hts (gV k_473 k_475 k_6 k_20 k_476) rfl rfl rfl (by decide +kernel) ⟨Nat.le_of_ble_eq_true rfl, Nat.le_of_ble_eq_true rfl⟩) (pv_ro (q := (RX3, TX3, 6)) (q0 := 0) (ci := 3) hK hP rfl rfl) rfl rfl hl.1 rfl (lv_room (Nat.le_of_ble_eq_true rfl)) dX3_ends_13 ⟨Nat.le_of_ble_eq_true rfl, Nat.le_of_ble_eq_true rfl⟩) (fun r hrr => ?_)
  subst hrr
  refine vx_ret ?_
  refine W.widen (k := 1) (n := 6) (Nat.le_of_ble_eq_true rfl) (Nat.le_of_ble_eq_true rfl) ?_
  exact W.iret (v := sp_endOf σ x1) hx hb hr (fun t ht hW => ⟨⟨sp_endOf σ x1, σ, rfl, hR.symm.trans hw, by rw [ht]; exact hP, va_K.moved hW.alike hK, hD⟩, hS.F ht⟩) hS.2.2 dX3_ends_16
set_option maxHeartbeats 4000000 in
set_option maxRecDepth 100000 in
theorem m_X3_soon (l : Launch) (hl9 : l.stackTraces = false) (dC : Nat → ClassId) (dI : Nat → Nat → Nat) (cI cZ : ClassId) (a : Nat → Nat) (zk : Nat → Nat) (sz : Nat) (σ : St) (x1 : Int32) (x2 : Int32) (x3 : Int32) (hiv : IV σ) : vx_Met l yX3_soon wsX3_soon ({ frames := 7, cells := 3, slots := 18, locals := 112 }) (pPu dC dI cI cZ a zk sz σ [.ref (a 0), .int x1, .int x2, .int x3]) (va_Qi (fun r σ9 => sp_soon σ x1 x2 x3 = .ok (r, σ9)) (bMu dC dI cI cZ a (va_A (cw cI cZ a σ) sz)) (va_A (cw cI cZ a σ) sz)) (vx_X (fun E : String => sp_soon σ x1 x2 x3 = .error E) (bXu dC dI cI cZ a (va_A (cw cI cZ a σ) sz) σ) (va_A (cw cI cZ a σ) sz)) 3 18 (va_A (cw cI cZ a σ) sz) := by
  refine vx_ofW (cc := cX3_soon) (maxL := 5) (ret := (some .int)) (by decide) rfl ?_
  intro p e s m args below meth c s₁ B hml hEx hv
  obtain ⟨rfl, hsz, hP, hK, hD0, hz⟩ := hv
  have hx := B.exec
  have hb := B.bytes
  have hr := B.returns
  have hts := atoms_spec (ws := wsX3_soon) B.pre
  have hown : s.vm.findClass RX3 = some m.cls := findClass_of_methodNamed B.named
  have hlocks := B.notSynchronized
  subst hsz
  have hD := hD0.self (sz := s.heap.size)
  generalize hAe : va_A (cw cI cZ a σ) s.heap.size = A at hD hz ⊢
  have hA : ∀ q : Nat, s.heap.size ≤ q → A q := fun q h => by rw [← hAe]; exact Or.inr h
  clear hAe hD0
  obtain ⟨H, hHe⟩ : ∃ z, z = s.heap := ⟨_, rfl⟩
  obtain ⟨locs, hLe⟩ : ∃ z : List Loc, z = [] := ⟨_, rfl⟩
  have hS : va_S A s.heap H locs := by rw [hHe, hLe]; exact va_S.rf
  have hP : va_P (dC, dI) vwCl (cw cI cZ a σ) H := by rw [hHe]; exact hP
  refine W_ofH hHe hLe ?_
  clear hHe hLe
  have hl := lv_entry ([.ref (a 0), .int x1, .int x2, .int x3]) (n := 5) (Nat.le_of_ble_eq_true rfl)
  rw [lg_entry_eq]
  generalize (lg_sl ([.ref (a 0), .int x1, .int x2, .int x3]) ++ List.replicate (5 - (lg_sl ([.ref (a 0), .int x1, .int x2, .int x3])).length) Slot.unset).toArray = ls at hl ⊢
  have hl : lv_has ls 5 [(0, .ref (a 0)), (1, .int x1), (2, .int x2), (3, .int x3)] := hl
  obtain ⟨R, hR⟩ : ∃ z, z = sp_soon σ x1 x2 x3 := ⟨_, rfl⟩
  have hw := hR
  unfold sp_soon at hw
  have hle := iv_le hiv
  refine lv_iload_n hx hb dX3_soon_0 rfl (lv_at hl 1 rfl) ?_
  refine lv_bipush (v := 20) hx hb dX3_soon_1 (by decide) ?_
  refine nx_call (vx_runS (As := [.int x1, .int (20 : Int32)]) (rest := []) ⟨hx, hb, hml, hown, hts⟩ (m_X3_needKnown l hl9 zk H.size x1 (20 : Int32)) (cwS 2 hts (gS k_263 k_264 k_20 k_265) rfl rfl rfl (by decide +kernel) ⟨Nat.le_of_ble_eq_true rfl, Nat.le_of_ble_eq_true rfl⟩) (pn_need hz hS hA) rfl rfl hl.1 rfl (lv_room (Nat.le_of_ble_eq_true rfl)) dX3_soon_3 ⟨Nat.le_of_ble_eq_true rfl, Nat.le_of_ble_eq_true rfl⟩) hP hD hS hA (fun c_3_1 => ?_) (fun c_3_1 H1 q9 ce hP1 hS1 hc1 hc2 hc3 => vx_out (fun x hx9 => (hEx x hx9).elim) hlocks hc1 hc2 hc3 (fun t ht hvm => ⟨_, hR.symm.trans (hw.trans (if_neg c_3_1)), ⟨rfl, by rw [ht]; exact hP1, va_K.moved hvm hK, hD⟩, hS1.F ht⟩) hS1.2.2 (Nat.le_of_ble_eq_true rfl) (Nat.le_of_ble_eq_true rfl))
  rw [if_pos c_3_1] at hw
  have hn_2 : vp_in x1 20 := okK_in c_3_1 (n := 20) (by decide) (by decide)
  refine lv_iload_n hx hb dX3_soon_6 rfl (lv_at hl 2 rfl) ?_
  refine lv_iconst (v := 0) hx hb dX3_soon_7 (by decide) ?_
  refine lv_sipush (v := 30000) hx hb dX3_soon_8 (by decide) ?_
  refine nx_call (vx_runS (As := [.int x2, .int (0 : Int32), .int (30000 : Int32)]) (rest := []) ⟨hx, hb, hml, hown, hts⟩ (m_X3_needRange l hl9 zk H.size x2 (0 : Int32) (30000 : Int32)) (cwS 3 hts (gS k_182 k_183 k_20 k_184) rfl rfl rfl (by decide +kernel) ⟨Nat.le_of_ble_eq_true rfl, Nat.le_of_ble_eq_true rfl⟩) (pn_need hz hS hA) rfl rfl hl.1 rfl (lv_room (Nat.le_of_ble_eq_true rfl)) dX3_soon_11 ⟨Nat.le_of_ble_eq_true rfl, Nat.le_of_ble_eq_true rfl⟩) hP hD hS hA (fun c_11_3 => ?_) (fun c_11_3 H1 q9 ce hP1 hS1 hc1 hc2 hc3 => vx_out (fun x hx9 => (hEx x hx9).elim) hlocks hc1 hc2 hc3 (fun t ht hvm => ⟨_, hR.symm.trans (hw.trans (if_neg c_11_3)), ⟨rfl, by rw [ht]; exact hP1, va_K.moved hvm hK, hD⟩, hS1.F ht⟩) hS1.2.2 (Nat.le_of_ble_eq_true rfl) (Nat.le_of_ble_eq_true rfl))
  rw [if_pos c_11_3] at hw
  refine lv_iload_n hx hb dX3_soon_14 rfl (lv_at hl 3 rfl) ?_
  refine lv_iconst (v := 0) hx hb dX3_soon_15 (by decide) ?_
  refine lv_ldc (own := RX3) (v := 2147483647) hx hb hown (hts _ (kc k_380)) dX3_soon_16 ?_
  refine nx_call (vx_runS (As := [.int x3, .int (0 : Int32), .int (2147483647 : Int32)]) (rest := []) ⟨hx, hb, hml, hown, hts⟩ (m_X3_needRange l hl9 zk H.size x3 (0 : Int32) (2147483647 : Int32)) (cwS 3 hts (gS k_182 k_183 k_20 k_184) rfl rfl rfl (by decide +kernel) ⟨Nat.le_of_ble_eq_true rfl, Nat.le_of_ble_eq_true rfl⟩) (pn_need hz hS hA) rfl rfl hl.1 rfl (lv_room (Nat.le_of_ble_eq_true rfl)) dX3_soon_18 ⟨Nat.le_of_ble_eq_true rfl, Nat.le_of_ble_eq_true rfl⟩) hP hD hS hA (fun c_18_4 => ?_) (fun c_18_4 H1 q9 ce hP1 hS1 hc1 hc2 hc3 => vx_out (fun x hx9 => (hEx x hx9).elim) hlocks hc1 hc2 hc3 (fun t ht hvm => ⟨_, hR.symm.trans (hw.trans (if_neg c_18_4)), ⟨rfl, by rw [ht]; exact hP1, va_K.moved hvm hK, hD⟩, hS1.F ht⟩) hS1.2.2 (Nat.le_of_ble_eq_true rfl) (Nat.le_of_ble_eq_true rfl))
  rw [if_pos c_18_4] at hw
  refine lv_aload_n hx hb dX3_soon_21 rfl (lv_at hl 0 rfl) ?_
  refine lv_iload_n hx hb dX3_soon_22 rfl (lv_at hl 1 rfl) ?_
  refine lv_aload_n hx hb dX3_soon_23 rfl (lv_at hl 0 rfl) ?_
  refine va_get (D := (dC, dI)) (ci := 3) (v := .int (σ 0 5)) (C := RX3) (T := TX3) (N := 6) hx hb hts (iwX3 _) hown hK hP 0 rfl rfl 5 (by decide) (hts _ (kc k_159)) (fun _ h9 => h9) rfl dX3_soon_24 ?_
  refine lv_iload_n hx hb dX3_soon_27 rfl (lv_at hl 2 rfl) ?_
  refine lv_iadd hx hb dX3_soon_28 ?_
  have hFc := fr_all hD hS hA
  refine va_callv (va_runV (As := [.int x1, .int ((σ 0 5) + x2)]) (rest := []) ⟨hx, hb, hml, hown, hts⟩ (m_X3_fillEndRow l dC dI cI cZ a H.size σ x1 ((σ 0 5) + x2) hiv) (cwV 2 hts (gV k_485 k_487 k_7 k_20 k_488) rfl rfl rfl (by decide +kernel) ⟨Nat.le_of_ble_eq_true rfl, Nat.le_of_ble_eq_true rfl⟩) (pv_mu (q := (RX3, TX3, 6)) (q0 := 0) (ci := 3) hK hP hD rfl rfl) rfl rfl hl.1 rfl (lv_room (Nat.le_of_ble_eq_true rfl)) dX3_soon_29 ⟨Nat.le_of_ble_eq_true rfl, Nat.le_of_ble_eq_true rfl⟩) hS (fun q _ h => hFc q h) hFc (fun σ9 t H1 locs ht hvm hw9 hB hz1 hk1 hS => ?_)
  obtain ⟨hP, hK1, hD1⟩ := hB
  rw [ht] at hP
  have hD := hD1.weaken (fun _ _ _ h => hFc _ h)
  clear hFc hD1 hK1
  subst hw9
  generalize H1 = H at hP hS ⊢
  have hivF := iv_fill hiv x1 ((σ 0 5) + x2)
  refine lv_iconst (v := 0) hx hb dX3_soon_32 (by decide) ?_
  refine lv_istore (lv' := [(4, .int (0 : Int32)), (0, .ref (a 0)), (1, .int x1), (2, .int x2), (3, .int x3)]) hx hb dX3_soon_33 hl (by decide) rfl (fun ls hl => ?_)
  refine W.widen (k := 3) (n := 18) (Nat.le_of_ble_eq_true rfl) (Nat.le_of_ble_eq_true rfl) ?_
  have loop : ∀ (n k : Nat) (σ1 : St) (H : Heap) (locs : List Loc) (ls : Array Slot), k + n = cntN σ → IV σ1 → cntN σ1 = cntN σ → va_P (dC, dI) vwCl (cw cI cZ a σ1) H → va_D A (cw cI cZ a σ1) → va_S A s.heap H locs → lv_has ls 5 [(0, .ref (a 0)), (1, .int x1), (2, .int x2), (3, .int x3), (4, .int (nI k))] → R = sp_soon_35 σ x1 x2 x3 σ1 n k → W p l e (headSpec wsX3_soon ({ frames := 7, cells := 3, slots := 18, locals := 112 })).room s m [.ref (a 0), .int x1, .int x2, .int x3].toArray below meth c H locs 3 18 (vx_MQ below (va_Qi (fun r σ9 => sp_soon σ x1 x2 x3 = .ok (r, σ9)) (bMu dC dI cI cZ a A) A) (vx_X (fun E : String => sp_soon σ x1 x2 x3 = .error E) (bXu dC dI cI cZ a A σ) A) [.ref (a 0), .int x1, .int x2, .int x3].toArray s 3 18 A) (F0 m 35 ls []) := by
    intro n
    induction n with
    | zero =>
      intro k σ1 H locs ls hkn hiv1 hc1 hP hD hS hl hw
      rw [sp_soon_35_0] at hw
      refine lv_iload hx hb dX3_soon_35 (lv_at hl 4 rfl) ?_
      refine lv_aload_n hx hb dX3_soon_37 rfl (lv_at hl 0 rfl) ?_
      refine va_get (D := (dC, dI)) (ci := 3) (v := .ref (a 7)) (C := RX3) (T := TX3) (N := 6) hx hb hts (iwX3 _) hown hK hP 0 rfl rfl 1 (by decide) (hts _ (kc k_155)) (fun _ h9 => h9) rfl dX3_soon_38 ?_
      refine va_get (D := (dC, dI)) (ci := 2) (v := .int (σ1 7 11)) (C := RX2) (T := TX2) (N := 12) hx hb hts (iwX2 _) hown hK hP 7 rfl rfl 11 (by decide) (hts _ (kc k_97)) (fun _ h9 => h9) rfl dX3_soon_41 ?_
      refine lv_icmp_ge (tgt := 77) hx hb dX3_soon_44 (by decide) (fun c_44_5 => ?_) (fun c_44_5 => ?_)
      · skip
        refine lv_iconst (v := -1) hx hb dX3_soon_77 (by decide) ?_
        refine vx_ret ?_
        refine W.widen (k := 3) (n := 18) (Nat.le_of_ble_eq_true rfl) (Nat.le_of_ble_eq_true rfl) ?_
        exact W.iret (v := (-1 : Int32)) hx hb hr (fun t ht hW => ⟨⟨(-1 : Int32), σ1, rfl, hR.symm.trans hw, by rw [ht]; exact hP, va_K.moved hW.alike hK, hD⟩, hS.F ht⟩) hS.2.2 dX3_soon_78
      · skip
        exact absurd (lpE (iv_cnt2 hiv1 hc1) hkn (by omega)) c_44_5
    | succ n ih =>
      intro k σ1 H locs ls hkn hiv1 hc1 hP hD hS hl hw
      rw [sp_soon_35_s] at hw
      have hkf : vp_in (nI k) 40 := vp_in_nI (by omega) (by decide)
      refine lv_iload hx hb dX3_soon_35 (lv_at hl 4 rfl) ?_
      refine lv_aload_n hx hb dX3_soon_37 rfl (lv_at hl 0 rfl) ?_
      refine va_get (D := (dC, dI)) (ci := 3) (v := .ref (a 7)) (C := RX3) (T := TX3) (N := 6) hx hb hts (iwX3 _) hown hK hP 0 rfl rfl 1 (by decide) (hts _ (kc k_155)) (fun _ h9 => h9) rfl dX3_soon_38 ?_
      refine va_get (D := (dC, dI)) (ci := 2) (v := .int (σ1 7 11)) (C := RX2) (T := TX2) (N := 12) hx hb hts (iwX2 _) hown hK hP 7 rfl rfl 11 (by decide) (hts _ (kc k_97)) (fun _ h9 => h9) rfl dX3_soon_41 ?_
      refine lv_icmp_ge (tgt := 77) hx hb dX3_soon_44 (by decide) (fun c_44_6 => ?_) (fun c_44_6 => ?_)
      · skip
        exact absurd c_44_6 (lpB (iv_cnt2 hiv1 hc1) hkn (by omega))
      · skip
        refine lv_aload_n hx hb dX3_soon_47 rfl (lv_at hl 0 rfl) ?_
        refine va_get (D := (dC, dI)) (ci := 3) (v := .ref (a 26)) (C := RX3) (T := TX3) (N := 6) hx hb hts (iwX3 _) hown hK hP 0 rfl rfl 4 (by decide) (hts _ (kc k_158)) (fun _ h9 => h9) rfl dX3_soon_48 ?_
        refine lv_iload hx hb dX3_soon_51 (lv_at hl 4 rfl) ?_
        refine va_iald (D := (dC, dI)) (f := σ1 26) hx hb hK hP 26 0 rfl rfl (i := nI k) hkf dX3_soon_53 ?_
        refine lv_iconst (v := -1) hx hb dX3_soon_54 (by decide) ?_
        refine lv_icmp_eq (tgt := 71) hx hb dX3_soon_55 (by decide) (fun c_55_7 => ?_) (fun c_55_7 => ?_)
        · skip
          rw [if_pos c_55_7] at hw
          refine lv_iinc (v := (nI (k + 1))) (lv' := [(4, .int (nI (k + 1))), (0, .ref (a 0)), (1, .int x1), (2, .int x2), (3, .int x3)]) hx hb dX3_soon_71 hl (k := 4) rfl (nI_1 k) (by decide) rfl (fun ls hl => ?_)
          refine lv_goto (tgt := 35) hx hb dX3_soon_74 (by decide) ?_
          exact ih (k + 1) σ1 H locs ls (by omega) hiv1 hc1 hP hD hS (lv_sub hl [1, 2, 3, 4, 0] rfl) hw
        · skip
          rw [if_neg c_55_7] at hw
          refine lv_aload_n hx hb dX3_soon_58 rfl (lv_at hl 0 rfl) ?_
          refine lv_iload hx hb dX3_soon_59 (lv_at hl 4 rfl) ?_
          refine vp_callSi (W.runV (As := [.int (nI k)]) (rest := []) ⟨hx, hb, hml, hown, hts⟩ (m_X3_countEndingBefore l dC dI cI cZ a σ1 (nI k) hiv1 hkf) (cwV 1 hts (gV k_489 k_491 k_8 k_20 k_492) rfl rfl rfl (by decide +kernel) ⟨Nat.le_of_ble_eq_true rfl, Nat.le_of_ble_eq_true rfl⟩) (pv_ro (q := (RX3, TX3, 6)) (q0 := 0) (ci := 3) hK hP rfl rfl) rfl rfl hl.1 rfl (lv_room (Nat.le_of_ble_eq_true rfl)) dX3_soon_61 ⟨Nat.le_of_ble_eq_true rfl, Nat.le_of_ble_eq_true rfl⟩) (fun r hrr => ?_)
          subst hrr
          refine lv_iload_n hx hb dX3_soon_64 rfl (lv_at hl 3 rfl) ?_
          refine lv_icmp_ne (tgt := 71) hx hb dX3_soon_65 (by decide) (fun c_65_8 => ?_) (fun c_65_8 => ?_)
          · skip
            rw [if_neg c_65_8] at hw
            refine lv_iinc (v := (nI (k + 1))) (lv' := [(4, .int (nI (k + 1))), (0, .ref (a 0)), (1, .int x1), (2, .int x2), (3, .int x3)]) hx hb dX3_soon_71 hl (k := 4) rfl (nI_1 k) (by decide) rfl (fun ls hl => ?_)
            refine lv_goto (tgt := 35) hx hb dX3_soon_74 (by decide) ?_
            exact ih (k + 1) σ1 H locs ls (by omega) hiv1 hc1 hP hD hS (lv_sub hl [1, 2, 3, 4, 0] rfl) hw
          · skip
            rw [if_pos c_65_8] at hw
            refine lv_iload hx hb dX3_soon_68 (lv_at hl 4 rfl) ?_
            refine vx_ret ?_
            refine W.widen (k := 3) (n := 18) (Nat.le_of_ble_eq_true rfl) (Nat.le_of_ble_eq_true rfl) ?_
            exact W.iret (v := nI k) hx hb hr (fun t ht hW => ⟨⟨nI k, σ1, rfl, hR.symm.trans hw, by rw [ht]; exact hP, va_K.moved hW.alike hK, hD⟩, hS.F ht⟩) hS.2.2 dX3_soon_70
  exact loop (cntN σ) 0 (sp_fillEndRow σ x1 ((σ 0 5) + x2)) H locs ls (Nat.zero_add _) hivF (cnt_fill hiv _ _) hP hD hS (lv_sub hl [1, 2, 3, 4, 0] rfl) hw
set_option maxHeartbeats 4000000 in
set_option maxRecDepth 100000 in
theorem m_X3_thingAt (l : Launch) (hl9 : l.stackTraces = false) (dC : Nat → ClassId) (dI : Nat → Nat → Nat) (cI cZ : ClassId) (a : Nat → Nat) (zk : Nat → Nat) (sz : Nat) (σ : St) (x1 : Int32) (x2 : Int32) (hiv : IV σ) : vx_Met l yX3_thingAt wsX3_thingAt ({ frames := 7, cells := 2, slots := 12, locals := 111 }) (pPu dC dI cI cZ a zk sz σ [.ref (a 0), .int x1, .int x2]) (va_Qi (fun r σ9 => sp_thingAt σ x1 x2 = .ok (r, σ9)) (bMu dC dI cI cZ a (va_A (cw cI cZ a σ) sz)) (va_A (cw cI cZ a σ) sz)) (vx_X (fun E : String => sp_thingAt σ x1 x2 = .error E) (bXu dC dI cI cZ a (va_A (cw cI cZ a σ) sz) σ) (va_A (cw cI cZ a σ) sz)) 2 12 (va_A (cw cI cZ a σ) sz) := by
  refine vx_ofW (cc := cX3_thingAt) (maxL := 3) (ret := (some .int)) (by decide) rfl ?_
  intro p e s m args below meth c s₁ B hml hEx hv
  obtain ⟨rfl, hsz, hP, hK, hD0, hz⟩ := hv
  have hx := B.exec
  have hb := B.bytes
  have hr := B.returns
  have hts := atoms_spec (ws := wsX3_thingAt) B.pre
  have hown : s.vm.findClass RX3 = some m.cls := findClass_of_methodNamed B.named
  have hlocks := B.notSynchronized
  subst hsz
  have hD := hD0.self (sz := s.heap.size)
  generalize hAe : va_A (cw cI cZ a σ) s.heap.size = A at hD hz ⊢
  have hA : ∀ q : Nat, s.heap.size ≤ q → A q := fun q h => by rw [← hAe]; exact Or.inr h
  clear hAe hD0
  obtain ⟨H, hHe⟩ : ∃ z, z = s.heap := ⟨_, rfl⟩
  obtain ⟨locs, hLe⟩ : ∃ z : List Loc, z = [] := ⟨_, rfl⟩
  have hS : va_S A s.heap H locs := by rw [hHe, hLe]; exact va_S.rf
  have hP : va_P (dC, dI) vwCl (cw cI cZ a σ) H := by rw [hHe]; exact hP
  refine W_ofH hHe hLe ?_
  clear hHe hLe
  have hl := lv_entry ([.ref (a 0), .int x1, .int x2]) (n := 3) (Nat.le_of_ble_eq_true rfl)
  rw [lg_entry_eq]
  generalize (lg_sl ([.ref (a 0), .int x1, .int x2]) ++ List.replicate (3 - (lg_sl ([.ref (a 0), .int x1, .int x2])).length) Slot.unset).toArray = ls at hl ⊢
  have hl : lv_has ls 3 [(0, .ref (a 0)), (1, .int x1), (2, .int x2)] := hl
  obtain ⟨R, hR⟩ : ∃ z, z = sp_thingAt σ x1 x2 := ⟨_, rfl⟩
  have hw := hR
  unfold sp_thingAt at hw
  refine lv_iload_n hx hb dX3_thingAt_0 rfl (lv_at hl 1 rfl) ?_
  refine lv_aload_n hx hb dX3_thingAt_1 rfl (lv_at hl 0 rfl) ?_
  refine va_get (D := (dC, dI)) (ci := 3) (v := .ref (a 7)) (C := RX3) (T := TX3) (N := 6) hx hb hts (iwX3 _) hown hK hP 0 rfl rfl 1 (by decide) (hts _ (kc k_155)) (fun _ h9 => h9) rfl dX3_thingAt_2 ?_
  refine va_get (D := (dC, dI)) (ci := 2) (v := .int (σ 7 11)) (C := RX2) (T := TX2) (N := 12) hx hb hts (iwX2 _) hown hK hP 7 rfl rfl 11 (by decide) (hts _ (kc k_97)) (fun _ h9 => h9) rfl dX3_thingAt_5 ?_
  refine nx_call (vx_runS (As := [.int x1, .int (σ 7 11)]) (rest := []) ⟨hx, hb, hml, hown, hts⟩ (m_X3_needKnown l hl9 zk H.size x1 (σ 7 11)) (cwS 2 hts (gS k_263 k_264 k_20 k_265) rfl rfl rfl (by decide +kernel) ⟨Nat.le_of_ble_eq_true rfl, Nat.le_of_ble_eq_true rfl⟩) (pn_need hz hS hA) rfl rfl hl.1 rfl (lv_room (Nat.le_of_ble_eq_true rfl)) dX3_thingAt_8 ⟨Nat.le_of_ble_eq_true rfl, Nat.le_of_ble_eq_true rfl⟩) hP hD hS hA (fun c_8_1 => ?_) (fun c_8_1 H1 q9 ce hP1 hS1 hc1 hc2 hc3 => vx_out (fun x hx9 => (hEx x hx9).elim) hlocks hc1 hc2 hc3 (fun t ht hvm => ⟨_, hR.symm.trans (hw.trans (if_neg c_8_1)), ⟨rfl, by rw [ht]; exact hP1, va_K.moved hvm hK, hD⟩, hS1.F ht⟩) hS1.2.2 (Nat.le_of_ble_eq_true rfl) (Nat.le_of_ble_eq_true rfl))
  rw [if_pos c_8_1] at hw
  have hn_2 : vp_in x1 40 := okK_cnt hiv c_8_1
  refine lv_iload_n hx hb dX3_thingAt_11 rfl (lv_at hl 2 rfl) ?_
  by_cases c_12_3 : x2 = (0 : Int32)
  · skip
    rw [if_pos c_12_3] at hw
    refine lv_tableIn (tgt := 72) hx hb dX3_thingAt_12 (by rw [c_12_3]; decide) (by rw [c_12_3]; decide) (by rw [c_12_3]; rfl) (by decide) ?_
    refine lv_aload_n hx hb dX3_thingAt_72 rfl (lv_at hl 0 rfl) ?_
    refine va_get (D := (dC, dI)) (ci := 3) (v := .ref (a 7)) (C := RX3) (T := TX3) (N := 6) hx hb hts (iwX3 _) hown hK hP 0 rfl rfl 1 (by decide) (hts _ (kc k_155)) (fun _ h9 => h9) rfl dX3_thingAt_73 ?_
    refine lv_iload_n hx hb dX3_thingAt_76 rfl (lv_at hl 1 rfl) ?_
    refine vp_callSi (W.runV (As := [.int x1]) (rest := []) ⟨hx, hb, hml, hown, hts⟩ (m_X2_conditionOf l dC dI cI cZ a σ x1 hn_2) (cwV 1 hts (gV k_392 k_393 k_394 k_22 k_395) rfl rfl rfl (by decide +kernel) ⟨Nat.le_of_ble_eq_true rfl, Nat.le_of_ble_eq_true rfl⟩) (pv_ro (q := (RX2, TX2, 12)) (q0 := 7) (ci := 2) hK hP rfl rfl) rfl rfl hl.1 rfl (lv_room (Nat.le_of_ble_eq_true rfl)) dX3_thingAt_77 ⟨Nat.le_of_ble_eq_true rfl, Nat.le_of_ble_eq_true rfl⟩) (fun r hrr => ?_)
    subst hrr
    refine vx_ret ?_
    refine W.widen (k := 2) (n := 12) (Nat.le_of_ble_eq_true rfl) (Nat.le_of_ble_eq_true rfl) ?_
    exact W.iret (v := sp_conditionOf σ x1) hx hb hr (fun t ht hW => ⟨⟨sp_conditionOf σ x1, σ, rfl, hR.symm.trans hw, by rw [ht]; exact hP, va_K.moved hW.alike hK, hD⟩, hS.F ht⟩) hS.2.2 dX3_thingAt_80
  rw [if_neg c_12_3] at hw
  by_cases c_12_4 : x2 = (1 : Int32)
  · skip
    rw [if_pos c_12_4] at hw
    refine lv_tableIn (tgt := 81) hx hb dX3_thingAt_12 (by rw [c_12_4]; decide) (by rw [c_12_4]; decide) (by rw [c_12_4]; rfl) (by decide) ?_
    refine lv_aload_n hx hb dX3_thingAt_81 rfl (lv_at hl 0 rfl) ?_
    refine va_get (D := (dC, dI)) (ci := 3) (v := .ref (a 7)) (C := RX3) (T := TX3) (N := 6) hx hb hts (iwX3 _) hown hK hP 0 rfl rfl 1 (by decide) (hts _ (kc k_155)) (fun _ h9 => h9) rfl dX3_thingAt_82 ?_
    refine va_get (D := (dC, dI)) (ci := 2) (v := .ref (a 11)) (C := RX2) (T := TX2) (N := 12) hx hb hts (iwX2 _) hown hK hP 7 rfl rfl 3 (by decide) (hts _ (kc k_82)) (fun _ h9 => h9) rfl dX3_thingAt_85 ?_
    refine lv_iload_n hx hb dX3_thingAt_88 rfl (lv_at hl 1 rfl) ?_
    refine va_iald (D := (dC, dI)) (f := σ 11) hx hb hK hP 11 0 rfl rfl (i := x1) hn_2 dX3_thingAt_89 ?_
    refine vx_ret ?_
    refine W.widen (k := 2) (n := 12) (Nat.le_of_ble_eq_true rfl) (Nat.le_of_ble_eq_true rfl) ?_
    exact W.iret (v := σ 11 x1.toNatClampNeg) hx hb hr (fun t ht hW => ⟨⟨σ 11 x1.toNatClampNeg, σ, rfl, hR.symm.trans hw, by rw [ht]; exact hP, va_K.moved hW.alike hK, hD⟩, hS.F ht⟩) hS.2.2 dX3_thingAt_90
  rw [if_neg c_12_4] at hw
  by_cases c_12_5 : x2 = (2 : Int32)
  · skip
    rw [if_pos c_12_5] at hw
    refine lv_tableIn (tgt := 91) hx hb dX3_thingAt_12 (by rw [c_12_5]; decide) (by rw [c_12_5]; decide) (by rw [c_12_5]; rfl) (by decide) ?_
    refine lv_aload_n hx hb dX3_thingAt_91 rfl (lv_at hl 0 rfl) ?_
    refine va_get (D := (dC, dI)) (ci := 3) (v := .ref (a 7)) (C := RX3) (T := TX3) (N := 6) hx hb hts (iwX3 _) hown hK hP 0 rfl rfl 1 (by decide) (hts _ (kc k_155)) (fun _ h9 => h9) rfl dX3_thingAt_92 ?_
    refine va_get (D := (dC, dI)) (ci := 2) (v := .ref (a 14)) (C := RX2) (T := TX2) (N := 12) hx hb hts (iwX2 _) hown hK hP 7 rfl rfl 6 (by decide) (hts _ (kc k_88)) (fun _ h9 => h9) rfl dX3_thingAt_95 ?_
    refine lv_iload_n hx hb dX3_thingAt_98 rfl (lv_at hl 1 rfl) ?_
    refine va_iald (D := (dC, dI)) (f := σ 14) hx hb hK hP 14 0 rfl rfl (i := x1) hn_2 dX3_thingAt_99 ?_
    refine vx_ret ?_
    refine W.widen (k := 2) (n := 12) (Nat.le_of_ble_eq_true rfl) (Nat.le_of_ble_eq_true rfl) ?_
    exact W.iret (v := σ 14 x1.toNatClampNeg) hx hb hr (fun t ht hW => ⟨⟨σ 14 x1.toNatClampNeg, σ, rfl, hR.symm.trans hw, by rw [ht]; exact hP, va_K.moved hW.alike hK, hD⟩, hS.F ht⟩) hS.2.2 dX3_thingAt_100
  rw [if_neg c_12_5] at hw
  by_cases c_12_6 : x2 = (3 : Int32)
  · skip
    rw [if_pos c_12_6] at hw
    refine lv_tableIn (tgt := 101) hx hb dX3_thingAt_12 (by rw [c_12_6]; decide) (by rw [c_12_6]; decide) (by rw [c_12_6]; rfl) (by decide) ?_
    refine lv_aload_n hx hb dX3_thingAt_101 rfl (lv_at hl 0 rfl) ?_
    refine va_get (D := (dC, dI)) (ci := 3) (v := .ref (a 7)) (C := RX3) (T := TX3) (N := 6) hx hb hts (iwX3 _) hown hK hP 0 rfl rfl 1 (by decide) (hts _ (kc k_155)) (fun _ h9 => h9) rfl dX3_thingAt_102 ?_
    refine va_get (D := (dC, dI)) (ci := 2) (v := .ref (a 15)) (C := RX2) (T := TX2) (N := 12) hx hb hts (iwX2 _) hown hK hP 7 rfl rfl 7 (by decide) (hts _ (kc k_90)) (fun _ h9 => h9) rfl dX3_thingAt_105 ?_
    refine lv_iload_n hx hb dX3_thingAt_108 rfl (lv_at hl 1 rfl) ?_
    refine va_zald (D := (dC, dI)) (f := σ 15) hx hb hK hP 15 1 rfl rfl (i := x1) hn_2 dX3_thingAt_109 ?_
    refine lv_if_eq (tgt := 117) hx hb dX3_thingAt_110 (by decide) (fun c_110_7 => ?_) (fun c_110_7 => ?_)
    · skip
      rw [if_pos c_110_7] at hw
      refine lv_iconst (v := 0) hx hb dX3_thingAt_117 (by decide) ?_
      refine vx_ret ?_
      refine W.widen (k := 2) (n := 12) (Nat.le_of_ble_eq_true rfl) (Nat.le_of_ble_eq_true rfl) ?_
      exact W.iret (v := (0 : Int32)) hx hb hr (fun t ht hW => ⟨⟨(0 : Int32), σ, rfl, hR.symm.trans hw, by rw [ht]; exact hP, va_K.moved hW.alike hK, hD⟩, hS.F ht⟩) hS.2.2 dX3_thingAt_118
    · skip
      rw [if_neg c_110_7] at hw
      refine lv_iconst (v := 1) hx hb dX3_thingAt_113 (by decide) ?_
      refine lv_goto (tgt := 118) hx hb dX3_thingAt_114 (by decide) ?_
      refine vx_ret ?_
      refine W.widen (k := 2) (n := 12) (Nat.le_of_ble_eq_true rfl) (Nat.le_of_ble_eq_true rfl) ?_
      exact W.iret (v := (1 : Int32)) hx hb hr (fun t ht hW => ⟨⟨(1 : Int32), σ, rfl, hR.symm.trans hw, by rw [ht]; exact hP, va_K.moved hW.alike hK, hD⟩, hS.F ht⟩) hS.2.2 dX3_thingAt_118
  rw [if_neg c_12_6] at hw
  by_cases c_12_8 : x2 = (4 : Int32)
  · skip
    rw [if_pos c_12_8] at hw
    refine lv_tableIn (tgt := 119) hx hb dX3_thingAt_12 (by rw [c_12_8]; decide) (by rw [c_12_8]; decide) (by rw [c_12_8]; rfl) (by decide) ?_
    refine lv_aload_n hx hb dX3_thingAt_119 rfl (lv_at hl 0 rfl) ?_
    refine va_get (D := (dC, dI)) (ci := 3) (v := .ref (a 7)) (C := RX3) (T := TX3) (N := 6) hx hb hts (iwX3 _) hown hK hP 0 rfl rfl 1 (by decide) (hts _ (kc k_155)) (fun _ h9 => h9) rfl dX3_thingAt_120 ?_
    refine va_get (D := (dC, dI)) (ci := 2) (v := .ref (a 17)) (C := RX2) (T := TX2) (N := 12) hx hb hts (iwX2 _) hown hK hP 7 rfl rfl 9 (by decide) (hts _ (kc k_94)) (fun _ h9 => h9) rfl dX3_thingAt_123 ?_
    refine lv_iload_n hx hb dX3_thingAt_126 rfl (lv_at hl 1 rfl) ?_
    refine lv_iconst (v := 3) hx hb dX3_thingAt_127 (by decide) ?_
    refine lv_imul hx hb dX3_thingAt_128 ?_
    refine lv_iload_n hx hb dX3_thingAt_129 rfl (lv_at hl 2 rfl) ?_
    refine lv_iadd hx hb dX3_thingAt_130 ?_
    refine lv_iconst (v := 4) hx hb dX3_thingAt_131 (by decide) ?_
    refine lv_isub hx hb dX3_thingAt_132 ?_
    refine va_iald (D := (dC, dI)) (f := σ 17) hx hb hK hP 17 0 rfl rfl (i := ((x1 * (3 : Int32)) + x2) - (4 : Int32)) (in_swK hn_2 (kx := 4) (km := 4) (c_12_8.trans (by decide)) (by decide) (by decide) (by decide) (by decide)) dX3_thingAt_133 ?_
    refine vx_ret ?_
    refine W.widen (k := 2) (n := 12) (Nat.le_of_ble_eq_true rfl) (Nat.le_of_ble_eq_true rfl) ?_
    exact W.iret (v := σ 17 (((x1 * (3 : Int32)) + x2) - (4 : Int32)).toNatClampNeg) hx hb hr (fun t ht hW => ⟨⟨σ 17 (((x1 * (3 : Int32)) + x2) - (4 : Int32)).toNatClampNeg, σ, rfl, hR.symm.trans hw, by rw [ht]; exact hP, va_K.moved hW.alike hK, hD⟩, hS.F ht⟩) hS.2.2 dX3_thingAt_134
  rw [if_neg c_12_8] at hw
  by_cases c_12_9 : x2 = (5 : Int32)
  · skip
    rw [if_pos c_12_9] at hw
    refine lv_tableIn (tgt := 119) hx hb dX3_thingAt_12 (by rw [c_12_9]; decide) (by rw [c_12_9]; decide) (by rw [c_12_9]; rfl) (by decide) ?_
    refine lv_aload_n hx hb dX3_thingAt_119 rfl (lv_at hl 0 rfl) ?_
    refine va_get (D := (dC, dI)) (ci := 3) (v := .ref (a 7)) (C := RX3) (T := TX3) (N := 6) hx hb hts (iwX3 _) hown hK hP 0 rfl rfl 1 (by decide) (hts _ (kc k_155)) (fun _ h9 => h9) rfl dX3_thingAt_120 ?_
    refine va_get (D := (dC, dI)) (ci := 2) (v := .ref (a 17)) (C := RX2) (T := TX2) (N := 12) hx hb hts (iwX2 _) hown hK hP 7 rfl rfl 9 (by decide) (hts _ (kc k_94)) (fun _ h9 => h9) rfl dX3_thingAt_123 ?_
    refine lv_iload_n hx hb dX3_thingAt_126 rfl (lv_at hl 1 rfl) ?_
    refine lv_iconst (v := 3) hx hb dX3_thingAt_127 (by decide) ?_
    refine lv_imul hx hb dX3_thingAt_128 ?_
    refine lv_iload_n hx hb dX3_thingAt_129 rfl (lv_at hl 2 rfl) ?_
    refine lv_iadd hx hb dX3_thingAt_130 ?_
    refine lv_iconst (v := 4) hx hb dX3_thingAt_131 (by decide) ?_
    refine lv_isub hx hb dX3_thingAt_132 ?_
    refine va_iald (D := (dC, dI)) (f := σ 17) hx hb hK hP 17 0 rfl rfl (i := ((x1 * (3 : Int32)) + x2) - (4 : Int32)) (in_swK hn_2 (kx := 5) (km := 4) (c_12_9.trans (by decide)) (by decide) (by decide) (by decide) (by decide)) dX3_thingAt_133 ?_
    refine vx_ret ?_
    refine W.widen (k := 2) (n := 12) (Nat.le_of_ble_eq_true rfl) (Nat.le_of_ble_eq_true rfl) ?_
    exact W.iret (v := σ 17 (((x1 * (3 : Int32)) + x2) - (4 : Int32)).toNatClampNeg) hx hb hr (fun t ht hW => ⟨⟨σ 17 (((x1 * (3 : Int32)) + x2) - (4 : Int32)).toNatClampNeg, σ, rfl, hR.symm.trans hw, by rw [ht]; exact hP, va_K.moved hW.alike hK, hD⟩, hS.F ht⟩) hS.2.2 dX3_thingAt_134
  rw [if_neg c_12_9] at hw
  by_cases c_12_10 : x2 = (6 : Int32)
  · skip
    rw [if_pos c_12_10] at hw
    refine lv_tableIn (tgt := 119) hx hb dX3_thingAt_12 (by rw [c_12_10]; decide) (by rw [c_12_10]; decide) (by rw [c_12_10]; rfl) (by decide) ?_
    refine lv_aload_n hx hb dX3_thingAt_119 rfl (lv_at hl 0 rfl) ?_
    refine va_get (D := (dC, dI)) (ci := 3) (v := .ref (a 7)) (C := RX3) (T := TX3) (N := 6) hx hb hts (iwX3 _) hown hK hP 0 rfl rfl 1 (by decide) (hts _ (kc k_155)) (fun _ h9 => h9) rfl dX3_thingAt_120 ?_
    refine va_get (D := (dC, dI)) (ci := 2) (v := .ref (a 17)) (C := RX2) (T := TX2) (N := 12) hx hb hts (iwX2 _) hown hK hP 7 rfl rfl 9 (by decide) (hts _ (kc k_94)) (fun _ h9 => h9) rfl dX3_thingAt_123 ?_
    refine lv_iload_n hx hb dX3_thingAt_126 rfl (lv_at hl 1 rfl) ?_
    refine lv_iconst (v := 3) hx hb dX3_thingAt_127 (by decide) ?_
    refine lv_imul hx hb dX3_thingAt_128 ?_
    refine lv_iload_n hx hb dX3_thingAt_129 rfl (lv_at hl 2 rfl) ?_
    refine lv_iadd hx hb dX3_thingAt_130 ?_
    refine lv_iconst (v := 4) hx hb dX3_thingAt_131 (by decide) ?_
    refine lv_isub hx hb dX3_thingAt_132 ?_
    refine va_iald (D := (dC, dI)) (f := σ 17) hx hb hK hP 17 0 rfl rfl (i := ((x1 * (3 : Int32)) + x2) - (4 : Int32)) (in_swK hn_2 (kx := 6) (km := 4) (c_12_10.trans (by decide)) (by decide) (by decide) (by decide) (by decide)) dX3_thingAt_133 ?_
    refine vx_ret ?_
    refine W.widen (k := 2) (n := 12) (Nat.le_of_ble_eq_true rfl) (Nat.le_of_ble_eq_true rfl) ?_
    exact W.iret (v := σ 17 (((x1 * (3 : Int32)) + x2) - (4 : Int32)).toNatClampNeg) hx hb hr (fun t ht hW => ⟨⟨σ 17 (((x1 * (3 : Int32)) + x2) - (4 : Int32)).toNatClampNeg, σ, rfl, hR.symm.trans hw, by rw [ht]; exact hP, va_K.moved hW.alike hK, hD⟩, hS.F ht⟩) hS.2.2 dX3_thingAt_134
  rw [if_neg c_12_10] at hw
  by_cases c_12_11 : x2 = (7 : Int32)
  · skip
    rw [if_pos c_12_11] at hw
    refine lv_tableIn (tgt := 135) hx hb dX3_thingAt_12 (by rw [c_12_11]; decide) (by rw [c_12_11]; decide) (by rw [c_12_11]; rfl) (by decide) ?_
    refine lv_aload_n hx hb dX3_thingAt_135 rfl (lv_at hl 0 rfl) ?_
    refine va_get (D := (dC, dI)) (ci := 3) (v := .ref (a 7)) (C := RX3) (T := TX3) (N := 6) hx hb hts (iwX3 _) hown hK hP 0 rfl rfl 1 (by decide) (hts _ (kc k_155)) (fun _ h9 => h9) rfl dX3_thingAt_136 ?_
    refine va_get (D := (dC, dI)) (ci := 2) (v := .ref (a 16)) (C := RX2) (T := TX2) (N := 12) hx hb hts (iwX2 _) hown hK hP 7 rfl rfl 8 (by decide) (hts _ (kc k_92)) (fun _ h9 => h9) rfl dX3_thingAt_139 ?_
    refine lv_iload_n hx hb dX3_thingAt_142 rfl (lv_at hl 1 rfl) ?_
    refine lv_iconst (v := 3) hx hb dX3_thingAt_143 (by decide) ?_
    refine lv_imul hx hb dX3_thingAt_144 ?_
    refine lv_iload_n hx hb dX3_thingAt_145 rfl (lv_at hl 2 rfl) ?_
    refine lv_iadd hx hb dX3_thingAt_146 ?_
    refine lv_bipush (v := 7) hx hb dX3_thingAt_147 (by decide) ?_
    refine lv_isub hx hb dX3_thingAt_149 ?_
    refine va_iald (D := (dC, dI)) (f := σ 16) hx hb hK hP 16 0 rfl rfl (i := ((x1 * (3 : Int32)) + x2) - (7 : Int32)) (in_swK hn_2 (kx := 7) (km := 7) (c_12_11.trans (by decide)) (by decide) (by decide) (by decide) (by decide)) dX3_thingAt_150 ?_
    refine vx_ret ?_
    refine W.widen (k := 2) (n := 12) (Nat.le_of_ble_eq_true rfl) (Nat.le_of_ble_eq_true rfl) ?_
    exact W.iret (v := σ 16 (((x1 * (3 : Int32)) + x2) - (7 : Int32)).toNatClampNeg) hx hb hr (fun t ht hW => ⟨⟨σ 16 (((x1 * (3 : Int32)) + x2) - (7 : Int32)).toNatClampNeg, σ, rfl, hR.symm.trans hw, by rw [ht]; exact hP, va_K.moved hW.alike hK, hD⟩, hS.F ht⟩) hS.2.2 dX3_thingAt_151
  rw [if_neg c_12_11] at hw
  by_cases c_12_12 : x2 = (8 : Int32)
  · skip
    rw [if_pos c_12_12] at hw
    refine lv_tableIn (tgt := 135) hx hb dX3_thingAt_12 (by rw [c_12_12]; decide) (by rw [c_12_12]; decide) (by rw [c_12_12]; rfl) (by decide) ?_
    refine lv_aload_n hx hb dX3_thingAt_135 rfl (lv_at hl 0 rfl) ?_
    refine va_get (D := (dC, dI)) (ci := 3) (v := .ref (a 7)) (C := RX3) (T := TX3) (N := 6) hx hb hts (iwX3 _) hown hK hP 0 rfl rfl 1 (by decide) (hts _ (kc k_155)) (fun _ h9 => h9) rfl dX3_thingAt_136 ?_
    refine va_get (D := (dC, dI)) (ci := 2) (v := .ref (a 16)) (C := RX2) (T := TX2) (N := 12) hx hb hts (iwX2 _) hown hK hP 7 rfl rfl 8 (by decide) (hts _ (kc k_92)) (fun _ h9 => h9) rfl dX3_thingAt_139 ?_
    refine lv_iload_n hx hb dX3_thingAt_142 rfl (lv_at hl 1 rfl) ?_
    refine lv_iconst (v := 3) hx hb dX3_thingAt_143 (by decide) ?_
    refine lv_imul hx hb dX3_thingAt_144 ?_
    refine lv_iload_n hx hb dX3_thingAt_145 rfl (lv_at hl 2 rfl) ?_
    refine lv_iadd hx hb dX3_thingAt_146 ?_
    refine lv_bipush (v := 7) hx hb dX3_thingAt_147 (by decide) ?_
    refine lv_isub hx hb dX3_thingAt_149 ?_
    refine va_iald (D := (dC, dI)) (f := σ 16) hx hb hK hP 16 0 rfl rfl (i := ((x1 * (3 : Int32)) + x2) - (7 : Int32)) (in_swK hn_2 (kx := 8) (km := 7) (c_12_12.trans (by decide)) (by decide) (by decide) (by decide) (by decide)) dX3_thingAt_150 ?_
    refine vx_ret ?_
    refine W.widen (k := 2) (n := 12) (Nat.le_of_ble_eq_true rfl) (Nat.le_of_ble_eq_true rfl) ?_
    exact W.iret (v := σ 16 (((x1 * (3 : Int32)) + x2) - (7 : Int32)).toNatClampNeg) hx hb hr (fun t ht hW => ⟨⟨σ 16 (((x1 * (3 : Int32)) + x2) - (7 : Int32)).toNatClampNeg, σ, rfl, hR.symm.trans hw, by rw [ht]; exact hP, va_K.moved hW.alike hK, hD⟩, hS.F ht⟩) hS.2.2 dX3_thingAt_151
  rw [if_neg c_12_12] at hw
  by_cases c_12_13 : x2 = (9 : Int32)
  · skip
    rw [if_pos c_12_13] at hw
    refine lv_tableIn (tgt := 135) hx hb dX3_thingAt_12 (by rw [c_12_13]; decide) (by rw [c_12_13]; decide) (by rw [c_12_13]; rfl) (by decide) ?_
    refine lv_aload_n hx hb dX3_thingAt_135 rfl (lv_at hl 0 rfl) ?_
    refine va_get (D := (dC, dI)) (ci := 3) (v := .ref (a 7)) (C := RX3) (T := TX3) (N := 6) hx hb hts (iwX3 _) hown hK hP 0 rfl rfl 1 (by decide) (hts _ (kc k_155)) (fun _ h9 => h9) rfl dX3_thingAt_136 ?_
    refine va_get (D := (dC, dI)) (ci := 2) (v := .ref (a 16)) (C := RX2) (T := TX2) (N := 12) hx hb hts (iwX2 _) hown hK hP 7 rfl rfl 8 (by decide) (hts _ (kc k_92)) (fun _ h9 => h9) rfl dX3_thingAt_139 ?_
    refine lv_iload_n hx hb dX3_thingAt_142 rfl (lv_at hl 1 rfl) ?_
    refine lv_iconst (v := 3) hx hb dX3_thingAt_143 (by decide) ?_
    refine lv_imul hx hb dX3_thingAt_144 ?_
    refine lv_iload_n hx hb dX3_thingAt_145 rfl (lv_at hl 2 rfl) ?_
    refine lv_iadd hx hb dX3_thingAt_146 ?_
    refine lv_bipush (v := 7) hx hb dX3_thingAt_147 (by decide) ?_
    refine lv_isub hx hb dX3_thingAt_149 ?_
    refine va_iald (D := (dC, dI)) (f := σ 16) hx hb hK hP 16 0 rfl rfl (i := ((x1 * (3 : Int32)) + x2) - (7 : Int32)) (in_swK hn_2 (kx := 9) (km := 7) (c_12_13.trans (by decide)) (by decide) (by decide) (by decide) (by decide)) dX3_thingAt_150 ?_
    refine vx_ret ?_
    refine W.widen (k := 2) (n := 12) (Nat.le_of_ble_eq_true rfl) (Nat.le_of_ble_eq_true rfl) ?_
    exact W.iret (v := σ 16 (((x1 * (3 : Int32)) + x2) - (7 : Int32)).toNatClampNeg) hx hb hr (fun t ht hW => ⟨⟨σ 16 (((x1 * (3 : Int32)) + x2) - (7 : Int32)).toNatClampNeg, σ, rfl, hR.symm.trans hw, by rw [ht]; exact hP, va_K.moved hW.alike hK, hD⟩, hS.F ht⟩) hS.2.2 dX3_thingAt_151
  rw [if_neg c_12_13] at hw
  by_cases c_12_14 : x2 = (10 : Int32)
  · skip
    rw [if_pos c_12_14] at hw
    refine lv_tableIn (tgt := 152) hx hb dX3_thingAt_12 (by rw [c_12_14]; decide) (by rw [c_12_14]; decide) (by rw [c_12_14]; rfl) (by decide) ?_
    refine lv_aload_n hx hb dX3_thingAt_152 rfl (lv_at hl 0 rfl) ?_
    refine va_get (D := (dC, dI)) (ci := 3) (v := .ref (a 7)) (C := RX3) (T := TX3) (N := 6) hx hb hts (iwX3 _) hown hK hP 0 rfl rfl 1 (by decide) (hts _ (kc k_155)) (fun _ h9 => h9) rfl dX3_thingAt_153 ?_
    refine va_get (D := (dC, dI)) (ci := 2) (v := .ref (a 13)) (C := RX2) (T := TX2) (N := 12) hx hb hts (iwX2 _) hown hK hP 7 rfl rfl 5 (by decide) (hts _ (kc k_86)) (fun _ h9 => h9) rfl dX3_thingAt_156 ?_
    refine lv_iload_n hx hb dX3_thingAt_159 rfl (lv_at hl 1 rfl) ?_
    refine va_iald (D := (dC, dI)) (f := σ 13) hx hb hK hP 13 0 rfl rfl (i := x1) hn_2 dX3_thingAt_160 ?_
    refine vx_ret ?_
    refine W.widen (k := 2) (n := 12) (Nat.le_of_ble_eq_true rfl) (Nat.le_of_ble_eq_true rfl) ?_
    exact W.iret (v := σ 13 x1.toNatClampNeg) hx hb hr (fun t ht hW => ⟨⟨σ 13 x1.toNatClampNeg, σ, rfl, hR.symm.trans hw, by rw [ht]; exact hP, va_K.moved hW.alike hK, hD⟩, hS.F ht⟩) hS.2.2 dX3_thingAt_161
  rw [if_neg c_12_14] at hw
  refine lv_tableOut (tgt := 162) hx hb dX3_thingAt_12 (by have hc_12_3 := lv_neT c_12_3 (a := 0) (by decide); have hc_12_4 := lv_neT c_12_4 (a := 1) (by decide); have hc_12_5 := lv_neT c_12_5 (a := 2) (by decide); have hc_12_6 := lv_neT c_12_6 (a := 3) (by decide); have hc_12_8 := lv_neT c_12_8 (a := 4) (by decide); have hc_12_9 := lv_neT c_12_9 (a := 5) (by decide); have hc_12_10 := lv_neT c_12_10 (a := 6) (by decide); have hc_12_11 := lv_neT c_12_11 (a := 7) (by decide); have hc_12_12 := lv_neT c_12_12 (a := 8) (by decide); have hc_12_13 := lv_neT c_12_13 (a := 9) (by decide); have hc_12_14 := lv_neT c_12_14 (a := 10) (by decide); omega) (by decide) ?_
  exact vx_throwS (own := RX3) (cls := "java/lang/IllegalArgumentException") (text := "no such what") (names := ["java/lang/RuntimeException", "java/lang/Exception"]) hx hb hl9 hown (by decide) (by decide) (hts _ (kc k_266)) (hts _ (kc k_29)) (hz.2.2.1 4 _ rfl) (vx_hat (fun w hw9 => hts w (kc (at_155 w hw9))) ab_155 (vx_c (va_Nw.use rfl (hz.2.2.2.1.1 _ (by decide))) (vx_c (va_Nw.use rfl (hz.2.2.2.1.2.1 _ (by decide))) (vx_c (va_Nw.use rfl (hz.2.2.2.1.2.1 _ (by decide))) (vx_c (va_Nw.use rfl (hz.2.2.2.1.2.1 _ (by decide))) vx_n))))) go_151_155 hz.1 hz.2.1 hS (hl.1.trans hml.symm) dX3_thingAt_162 dX3_thingAt_165 dX3_thingAt_166 dX3_thingAt_168 dX3_thingAt_171 (fun x hx9 => (hEx x hx9).elim) (Nat.le_of_ble_eq_true rfl) (Nat.le_of_ble_eq_true rfl) (Nat.le_of_ble_eq_true rfl) (Nat.le_of_ble_eq_true rfl) hlocks (fun t hvm h1 h2 => ⟨_, hR.symm.trans hw, ⟨rfl, hP.kept (fun k q hq => h2 q.1 ((hP k q hq).lt)), va_K.moved hvm hK, hD⟩, Nat.le_trans hS.1 h1, fun q g1 g2 => by rw [h2 q (Nat.lt_of_lt_of_le g1 hS.1)]; exact hS.2.1 q g1 g2⟩) hS.2.2 (Nat.le_of_ble_eq_true rfl) (Nat.le_of_ble_eq_true rfl)
set_option maxHeartbeats 4000000 in
set_option maxRecDepth 100000 in
theorem m_X3_life (l : Launch) (hl9 : l.stackTraces = false) (dC : Nat → ClassId) (dI : Nat → Nat → Nat) (cI cZ : ClassId) (a : Nat → Nat) (zk : Nat → Nat) (sz : Nat) (σ : St) (x1 : Int32) (x2 : Int32) (hiv : IV σ) : vx_Met l yX3_life wsX3_life ({ frames := 7, cells := 3, slots := 18, locals := 111 }) (pPu dC dI cI cZ a zk sz σ [.ref (a 0), .int x1, .int x2]) (va_Qi (fun r σ9 => sp_life σ x1 x2 = .ok (r, σ9)) (bMu dC dI cI cZ a (va_A (cw cI cZ a σ) sz)) (va_A (cw cI cZ a σ) sz)) (vx_X (fun E : String => sp_life σ x1 x2 = .error E) (bXu dC dI cI cZ a (va_A (cw cI cZ a σ) sz) σ) (va_A (cw cI cZ a σ) sz)) 3 18 (va_A (cw cI cZ a σ) sz) := by
  refine vx_ofW (cc := cX3_life) (maxL := 6) (ret := (some .int)) (by decide) rfl ?_
  intro p e s m args below meth c s₁ B hml hEx hv
  obtain ⟨rfl, hsz, hP, hK, hD0, hz⟩ := hv
  have hx := B.exec
  have hb := B.bytes
  have hr := B.returns
  have hts := atoms_spec (ws := wsX3_life) B.pre
  have hown : s.vm.findClass RX3 = some m.cls := findClass_of_methodNamed B.named
  have hlocks := B.notSynchronized
  subst hsz
  have hD := hD0.self (sz := s.heap.size)
  generalize hAe : va_A (cw cI cZ a σ) s.heap.size = A at hD hz ⊢
  have hA : ∀ q : Nat, s.heap.size ≤ q → A q := fun q h => by rw [← hAe]; exact Or.inr h
  clear hAe hD0
  obtain ⟨H, hHe⟩ : ∃ z, z = s.heap := ⟨_, rfl⟩
  obtain ⟨locs, hLe⟩ : ∃ z : List Loc, z = [] := ⟨_, rfl⟩
  have hS : va_S A s.heap H locs := by rw [hHe, hLe]; exact va_S.rf
  have hP : va_P (dC, dI) vwCl (cw cI cZ a σ) H := by rw [hHe]; exact hP
  refine W_ofH hHe hLe ?_
  clear hHe hLe
  have hl := lv_entry ([.ref (a 0), .int x1, .int x2]) (n := 6) (Nat.le_of_ble_eq_true rfl)
  rw [lg_entry_eq]
  generalize (lg_sl ([.ref (a 0), .int x1, .int x2]) ++ List.replicate (6 - (lg_sl ([.ref (a 0), .int x1, .int x2])).length) Slot.unset).toArray = ls at hl ⊢
  have hl : lv_has ls 6 [(0, .ref (a 0)), (1, .int x1), (2, .int x2)] := hl
  obtain ⟨R, hR⟩ : ∃ z, z = sp_life σ x1 x2 := ⟨_, rfl⟩
  have hw := hR
  unfold sp_life at hw
  refine lv_iload_n hx hb dX3_life_0 rfl (lv_at hl 1 rfl) ?_
  refine lv_iconst (v := 5) hx hb dX3_life_1 (by decide) ?_
  refine nx_call (vx_runS (As := [.int x1, .int (5 : Int32)]) (rest := []) ⟨hx, hb, hml, hown, hts⟩ (m_X3_needKnown l hl9 zk H.size x1 (5 : Int32)) (cwS 2 hts (gS k_263 k_264 k_20 k_265) rfl rfl rfl (by decide +kernel) ⟨Nat.le_of_ble_eq_true rfl, Nat.le_of_ble_eq_true rfl⟩) (pn_need hz hS hA) rfl rfl hl.1 rfl (lv_room (Nat.le_of_ble_eq_true rfl)) dX3_life_2 ⟨Nat.le_of_ble_eq_true rfl, Nat.le_of_ble_eq_true rfl⟩) hP hD hS hA (fun c_2_1 => ?_) (fun c_2_1 H1 q9 ce hP1 hS1 hc1 hc2 hc3 => vx_out (fun x hx9 => (hEx x hx9).elim) hlocks hc1 hc2 hc3 (fun t ht hvm => ⟨_, hR.symm.trans (hw.trans (if_neg c_2_1)), ⟨rfl, by rw [ht]; exact hP1, va_K.moved hvm hK, hD⟩, hS1.F ht⟩) hS1.2.2 (Nat.le_of_ble_eq_true rfl) (Nat.le_of_ble_eq_true rfl))
  rw [if_pos c_2_1] at hw
  have hn_2 : vp_in x1 5 := okK_in c_2_1 (n := 5) (by decide) (by decide)
  refine lv_iload_n hx hb dX3_life_5 rfl (lv_at hl 2 rfl) ?_
  refine lv_iconst (v := 2) hx hb dX3_life_6 (by decide) ?_
  refine nx_call (vx_runS (As := [.int x2, .int (2 : Int32)]) (rest := []) ⟨hx, hb, hml, hown, hts⟩ (m_X3_needKnown l hl9 zk H.size x2 (2 : Int32)) (cwS 2 hts (gS k_263 k_264 k_20 k_265) rfl rfl rfl (by decide +kernel) ⟨Nat.le_of_ble_eq_true rfl, Nat.le_of_ble_eq_true rfl⟩) (pn_need hz hS hA) rfl rfl hl.1 rfl (lv_room (Nat.le_of_ble_eq_true rfl)) dX3_life_7 ⟨Nat.le_of_ble_eq_true rfl, Nat.le_of_ble_eq_true rfl⟩) hP hD hS hA (fun c_7_3 => ?_) (fun c_7_3 H1 q9 ce hP1 hS1 hc1 hc2 hc3 => vx_out (fun x hx9 => (hEx x hx9).elim) hlocks hc1 hc2 hc3 (fun t ht hvm => ⟨_, hR.symm.trans (hw.trans (if_neg c_7_3)), ⟨rfl, by rw [ht]; exact hP1, va_K.moved hvm hK, hD⟩, hS1.F ht⟩) hS1.2.2 (Nat.le_of_ble_eq_true rfl) (Nat.le_of_ble_eq_true rfl))
  rw [if_pos c_7_3] at hw
  have hn_4 : vp_in x2 2 := okK_in c_7_3 (n := 2) (by decide) (by decide)
  refine lv_aload_n hx hb dX3_life_10 rfl (lv_at hl 0 rfl) ?_
  refine va_get (D := (dC, dI)) (ci := 3) (v := .ref (a 7)) (C := RX3) (T := TX3) (N := 6) hx hb hts (iwX3 _) hown hK hP 0 rfl rfl 1 (by decide) (hts _ (kc k_155)) (fun _ h9 => h9) rfl dX3_life_11 ?_
  refine lv_iload_n hx hb dX3_life_14 rfl (lv_at hl 1 rfl) ?_
  refine vp_callSi (W.runV (As := [.int x1]) (rest := []) ⟨hx, hb, hml, hown, hts⟩ (m_X2_countScrapped l dC dI cI cZ a σ x1 hiv) (cwV 1 hts (gV k_509 k_510 k_511 k_22 k_512) rfl rfl rfl (by decide +kernel) ⟨Nat.le_of_ble_eq_true rfl, Nat.le_of_ble_eq_true rfl⟩) (pv_ro (q := (RX2, TX2, 12)) (q0 := 7) (ci := 2) hK hP rfl rfl) rfl rfl hl.1 rfl (lv_room (Nat.le_of_ble_eq_true rfl)) dX3_life_15 ⟨Nat.le_of_ble_eq_true rfl, Nat.le_of_ble_eq_true rfl⟩) (fun r hrr => ?_)
  subst hrr
  refine lv_istore_n (lv' := [(3, .int (sp_countScrapped σ x1)), (0, .ref (a 0)), (1, .int x1), (2, .int x2)]) hx hb dX3_life_18 rfl hl (by decide) rfl (fun ls hl => ?_)
  refine lv_iload_n hx hb dX3_life_19 rfl (lv_at hl 0 rfl) ?_
  refine lv_if_ne (tgt := 33) hx hb dX3_life_20 (by decide) (fun c_20_5 => ?_) (fun c_20_5 => ?_)
  · skip
    rw [if_neg c_20_5] at hw
    obtain ⟨dv, hdv, hdv1⟩ := cs_dv hiv c_20_5
    refine lv_aload_n hx hb dX3_life_33 rfl (lv_at hl 1 rfl) ?_
    refine va_get (D := (dC, dI)) (ci := 3) (v := .ref (a 7)) (C := RX3) (T := TX3) (N := 6) hx hb hts (iwX3 _) hown hK hP 0 rfl rfl 1 (by decide) (hts _ (kc k_155)) (fun _ h9 => h9) rfl dX3_life_34 ?_
    refine lv_iload_n hx hb dX3_life_37 rfl (lv_at hl 2 rfl) ?_
    refine vp_callSi (W.runV (As := [.int x1]) (rest := []) ⟨hx, hb, hml, hown, hts⟩ (m_X2_sumOfLives l dC dI cI cZ a σ x1 hiv) (cwV 1 hts (gV k_529 k_530 k_531 k_22 k_532) rfl rfl rfl (by decide +kernel) ⟨Nat.le_of_ble_eq_true rfl, Nat.le_of_ble_eq_true rfl⟩) (pv_ro (q := (RX2, TX2, 12)) (q0 := 7) (ci := 2) hK hP rfl rfl) rfl rfl hl.1 rfl (lv_room (Nat.le_of_ble_eq_true rfl)) dX3_life_38 ⟨Nat.le_of_ble_eq_true rfl, Nat.le_of_ble_eq_true rfl⟩) (fun r hrr => ?_)
    subst hrr
    refine lv_istore (lv' := [(4, .int (sp_sumOfLives σ x1)), (3, .int (sp_countScrapped σ x1)), (0, .ref (a 0)), (1, .int x1), (2, .int x2)]) hx hb dX3_life_41 hl (by decide) rfl (fun ls hl => ?_)
    refine lv_iload hx hb dX3_life_43 (lv_at hl 0 rfl) ?_
    refine lv_iload_n hx hb dX3_life_45 rfl (lv_at hl 1 rfl) ?_
    refine vp_callSi (W.runS (As := [.int (sp_sumOfLives σ x1), .int (sp_countScrapped σ x1)]) (rest := []) ⟨hx, hb, hml, hown, hts⟩ (m_X3_commonDivisor l (sp_sumOfLives σ x1) (sp_countScrapped σ x1) dv hdv hdv1) (cwS 2 hts (gS k_533 k_534 k_20 k_535) rfl rfl rfl (by decide +kernel) ⟨Nat.le_of_ble_eq_true rfl, Nat.le_of_ble_eq_true rfl⟩) ps_0 rfl rfl hl.1 rfl (lv_room (Nat.le_of_ble_eq_true rfl)) dX3_life_46 ⟨Nat.le_of_ble_eq_true rfl, Nat.le_of_ble_eq_true rfl⟩) (fun r hrr => ?_)
    subst hrr
    refine lv_istore (lv' := [(5, .int (sp_commonDivisor (sp_sumOfLives σ x1) (sp_countScrapped σ x1))), (4, .int (sp_sumOfLives σ x1)), (3, .int (sp_countScrapped σ x1)), (0, .ref (a 0)), (1, .int x1), (2, .int x2)]) hx hb dX3_life_49 hl (by decide) rfl (fun ls hl => ?_)
    refine lv_iload_n hx hb dX3_life_51 rfl (lv_at hl 5 rfl) ?_
    refine lv_if_ne (tgt := 60) hx hb dX3_life_52 (by decide) (fun c_52_6 => ?_) (fun c_52_6 => ?_)
    · skip
      rw [if_neg c_52_6] at hw
      refine lv_iload_n hx hb dX3_life_60 rfl (lv_at hl 2 rfl) ?_
      refine lv_iload hx hb dX3_life_61 (lv_at hl 0 rfl) ?_
      refine lv_idiv hx hb dX3_life_63 (cd_ne0 hdv hdv1) ?_
      refine vx_ret ?_
      refine W.widen (k := 3) (n := 18) (Nat.le_of_ble_eq_true rfl) (Nat.le_of_ble_eq_true rfl) ?_
      exact W.iret (v := (sp_countScrapped σ x1) / (sp_commonDivisor (sp_sumOfLives σ x1) (sp_countScrapped σ x1))) hx hb hr (fun t ht hW => ⟨⟨(sp_countScrapped σ x1) / (sp_commonDivisor (sp_sumOfLives σ x1) (sp_countScrapped σ x1)), σ, rfl, hR.symm.trans hw, by rw [ht]; exact hP, va_K.moved hW.alike hK, hD⟩, hS.F ht⟩) hS.2.2 dX3_life_64
    · skip
      rw [if_pos c_52_6] at hw
      refine lv_iload hx hb dX3_life_55 (lv_at hl 1 rfl) ?_
      refine lv_goto (tgt := 61) hx hb dX3_life_57 (by decide) ?_
      refine lv_iload hx hb dX3_life_61 (lv_at hl 0 rfl) ?_
      refine lv_idiv hx hb dX3_life_63 (cd_ne0 hdv hdv1) ?_
      refine vx_ret ?_
      refine W.widen (k := 3) (n := 18) (Nat.le_of_ble_eq_true rfl) (Nat.le_of_ble_eq_true rfl) ?_
      exact W.iret (v := (sp_sumOfLives σ x1) / (sp_commonDivisor (sp_sumOfLives σ x1) (sp_countScrapped σ x1))) hx hb hr (fun t ht hW => ⟨⟨(sp_sumOfLives σ x1) / (sp_commonDivisor (sp_sumOfLives σ x1) (sp_countScrapped σ x1)), σ, rfl, hR.symm.trans hw, by rw [ht]; exact hP, va_K.moved hW.alike hK, hD⟩, hS.F ht⟩) hS.2.2 dX3_life_64
  · skip
    rw [if_pos c_20_5] at hw
    exact vx_throwS (own := RX3) (cls := "java/lang/ArithmeticException") (text := "no thing of this kind was scrapped") (names := ["java/lang/RuntimeException", "java/lang/Exception"]) hx hb hl9 hown (by decide) (by decide) (hts _ (kc k_513)) (hts _ (kc k_33)) (hz.2.2.1 5 _ rfl) (vx_hat (fun w hw9 => hts w (kc (at_163 w hw9))) ab_163 (vx_c (va_Nw.use rfl (hz.2.2.2.1.1 _ (by decide))) (vx_c (va_Nw.use rfl (hz.2.2.2.1.2.1 _ (by decide))) (vx_c (va_Nw.use rfl (hz.2.2.2.1.2.1 _ (by decide))) (vx_c (va_Nw.use rfl (hz.2.2.2.1.2.1 _ (by decide))) vx_n))))) go_159_163 hz.1 hz.2.1 hS (hl.1.trans hml.symm) dX3_life_23 dX3_life_26 dX3_life_27 dX3_life_29 dX3_life_32 (fun x hx9 => (hEx x hx9).elim) (Nat.le_of_ble_eq_true rfl) (Nat.le_of_ble_eq_true rfl) (Nat.le_of_ble_eq_true rfl) (Nat.le_of_ble_eq_true rfl) hlocks (fun t hvm h1 h2 => ⟨_, hR.symm.trans hw, ⟨rfl, hP.kept (fun k q hq => h2 q.1 ((hP k q hq).lt)), va_K.moved hvm hK, hD⟩, Nat.le_trans hS.1 h1, fun q g1 g2 => by rw [h2 q (Nat.lt_of_lt_of_le g1 hS.1)]; exact hS.2.1 q g1 g2⟩) hS.2.2 (Nat.le_of_ble_eq_true rfl) (Nat.le_of_ble_eq_true rfl)
set_option maxHeartbeats 4000000 in
set_option maxRecDepth 100000 in
theorem m_X3_plan (l : Launch) (hl9 : l.stackTraces = false) (dC : Nat → ClassId) (dI : Nat → Nat → Nat) (cI cZ : ClassId) (a : Nat → Nat) (zk : Nat → Nat) (sz : Nat) (σ : St) (x1 : Int64) (x3 : Int32) (x4 : Int32) (x5 : Int32) (hiv : IV σ) : vx_Met l yX3_plan wsX3_plan ({ frames := 10, cells := 2, slots := 12, locals := 247 }) (pPu dC dI cI cZ a zk sz σ [.ref (a 0), .long x1, .int x3, .int x4, .int x5]) (va_Qi (fun r σ9 => sp_plan σ x1 x3 x4 x5 = .ok (r, σ9)) (bMu dC dI cI cZ a (va_A (cw cI cZ a σ) sz)) (va_A (cw cI cZ a σ) sz)) (vx_X (fun E : String => sp_plan σ x1 x3 x4 x5 = .error E) (bXu dC dI cI cZ a (va_A (cw cI cZ a σ) sz) σ) (va_A (cw cI cZ a σ) sz)) 2 12 (va_A (cw cI cZ a σ) sz) := by
  refine vx_ofW (cc := cX3_plan) (maxL := 6) (ret := (some .int)) (by decide) rfl ?_
  intro p e s m args below meth c s₁ B hml hEx hv
  obtain ⟨rfl, hsz, hP, hK, hD0, hz⟩ := hv
  have hx := B.exec
  have hb := B.bytes
  have hr := B.returns
  have hts := atoms_spec (ws := wsX3_plan) B.pre
  have hown : s.vm.findClass RX3 = some m.cls := findClass_of_methodNamed B.named
  have hlocks := B.notSynchronized
  subst hsz
  have hD := hD0.self (sz := s.heap.size)
  generalize hAe : va_A (cw cI cZ a σ) s.heap.size = A at hD hz ⊢
  have hA : ∀ q : Nat, s.heap.size ≤ q → A q := fun q h => by rw [← hAe]; exact Or.inr h
  clear hAe hD0
  obtain ⟨H, hHe⟩ : ∃ z, z = s.heap := ⟨_, rfl⟩
  obtain ⟨locs, hLe⟩ : ∃ z : List Loc, z = [] := ⟨_, rfl⟩
  have hS : va_S A s.heap H locs := by rw [hHe, hLe]; exact va_S.rf
  have hP : va_P (dC, dI) vwCl (cw cI cZ a σ) H := by rw [hHe]; exact hP
  refine W_ofH hHe hLe ?_
  clear hHe hLe
  have hl := lv_entry ([.ref (a 0), .long x1, .int x3, .int x4, .int x5]) (n := 6) (Nat.le_of_ble_eq_true rfl)
  rw [lg_entry_eq]
  generalize (lg_sl ([.ref (a 0), .long x1, .int x3, .int x4, .int x5]) ++ List.replicate (6 - (lg_sl ([.ref (a 0), .long x1, .int x3, .int x4, .int x5])).length) Slot.unset).toArray = ls at hl ⊢
  have hl : lv_has ls 6 [(0, .ref (a 0)), (1, .long x1), (3, .int x3), (4, .int x4), (5, .int x5)] := hl
  obtain ⟨R, hR⟩ : ∃ z, z = sp_plan σ x1 x3 x4 x5 := ⟨_, rfl⟩
  have hw := hR
  unfold sp_plan at hw
  refine lv_iload hx hb dX3_plan_0 (lv_at hl 3 rfl) ?_
  refine lv_iconst (v := 0) hx hb dX3_plan_2 (by decide) ?_
  refine lv_bipush (v := 6) hx hb dX3_plan_3 (by decide) ?_
  refine nx_call (vx_runS (As := [.int x4, .int (0 : Int32), .int (6 : Int32)]) (rest := []) ⟨hx, hb, hml, hown, hts⟩ (m_X3_needRange l hl9 zk H.size x4 (0 : Int32) (6 : Int32)) (cwS 3 hts (gS k_182 k_183 k_20 k_184) rfl rfl rfl (by decide +kernel) ⟨Nat.le_of_ble_eq_true rfl, Nat.le_of_ble_eq_true rfl⟩) (pn_need hz hS hA) rfl rfl hl.1 rfl (lv_room (Nat.le_of_ble_eq_true rfl)) dX3_plan_5 ⟨Nat.le_of_ble_eq_true rfl, Nat.le_of_ble_eq_true rfl⟩) hP hD hS hA (fun c_5_1 => ?_) (fun c_5_1 H1 q9 ce hP1 hS1 hc1 hc2 hc3 => vx_out (fun x hx9 => (hEx x hx9).elim) hlocks hc1 hc2 hc3 (fun t ht hvm => ⟨_, hR.symm.trans (hw.trans (if_neg c_5_1)), ⟨rfl, by rw [ht]; exact hP1, va_K.moved hvm hK, hD⟩, hS1.F ht⟩) hS1.2.2 (Nat.le_of_ble_eq_true rfl) (Nat.le_of_ble_eq_true rfl))
  rw [if_pos c_5_1] at hw
  obtain ⟨hn4, hn46⟩ := okR_n c_5_1
  refine lv_iload hx hb dX3_plan_8 (lv_at hl 4 rfl) ?_
  refine lv_iconst (v := 1) hx hb dX3_plan_10 (by decide) ?_
  refine lv_iconst (v := 4) hx hb dX3_plan_11 (by decide) ?_
  refine nx_call (vx_runS (As := [.int x5, .int (1 : Int32), .int (4 : Int32)]) (rest := []) ⟨hx, hb, hml, hown, hts⟩ (m_X3_needRange l hl9 zk H.size x5 (1 : Int32) (4 : Int32)) (cwS 3 hts (gS k_182 k_183 k_20 k_184) rfl rfl rfl (by decide +kernel) ⟨Nat.le_of_ble_eq_true rfl, Nat.le_of_ble_eq_true rfl⟩) (pn_need hz hS hA) rfl rfl hl.1 rfl (lv_room (Nat.le_of_ble_eq_true rfl)) dX3_plan_12 ⟨Nat.le_of_ble_eq_true rfl, Nat.le_of_ble_eq_true rfl⟩) hP hD hS hA (fun c_12_2 => ?_) (fun c_12_2 H1 q9 ce hP1 hS1 hc1 hc2 hc3 => vx_out (fun x hx9 => (hEx x hx9).elim) hlocks hc1 hc2 hc3 (fun t ht hvm => ⟨_, hR.symm.trans (hw.trans (if_neg c_12_2)), ⟨rfl, by rw [ht]; exact hP1, va_K.moved hvm hK, hD⟩, hS1.F ht⟩) hS1.2.2 (Nat.le_of_ble_eq_true rfl) (Nat.le_of_ble_eq_true rfl))
  rw [if_pos c_12_2] at hw
  have hn5 := okR_w c_12_2
  refine lv_aload_n hx hb dX3_plan_15 rfl (lv_at hl 0 rfl) ?_
  refine va_get (D := (dC, dI)) (ci := 3) (v := .ref (a 19)) (C := RX3) (T := TX3) (N := 6) hx hb hts (iwX3 _) hown hK hP 0 rfl rfl 2 (by decide) (hts _ (kc k_156)) (fun _ h9 => h9) rfl dX3_plan_16 ?_
  refine lv_lload_n hx hb dX3_plan_19 rfl (lv_at hl 1 rfl) ?_
  refine lv_iload_n hx hb dX3_plan_20 rfl (lv_at hl 2 rfl) ?_
  refine lv_iload hx hb dX3_plan_21 (lv_at hl 3 rfl) ?_
  refine lv_iload hx hb dX3_plan_23 (lv_at hl 4 rfl) ?_
  have hFc := fr_all hD hS hA
  refine va_calli (va_runV (As := [.long x1, .int x3, .int x4, .int x5]) (rest := []) ⟨hx, hb, hml, hown, hts⟩ (m_X1_make l dC dI cI cZ a H.size σ x1 x3 x4 x5 hiv hn4 hn46 hn5) (cwV 4 hts (gV k_543 k_544 k_545 k_23 k_546) rfl rfl rfl (by decide +kernel) ⟨Nat.le_of_ble_eq_true rfl, Nat.le_of_ble_eq_true rfl⟩) (pv_mu (q := (RX1, TX1, 7)) (q0 := 19) (ci := 1) hK hP hD rfl rfl) rfl rfl hl.1 rfl (lv_room (Nat.le_of_ble_eq_true rfl)) dX3_plan_25 ⟨Nat.le_of_ble_eq_true rfl, Nat.le_of_ble_eq_true rfl⟩) hS (fun q _ h => hFc q h) hFc (fun r σ9 t H1 locs ht hvm hw9 hB hz1 hk1 hS => ?_)
  obtain ⟨hP, hK1, hD1⟩ := hB
  rw [ht] at hP
  have hD := hD1.weaken (fun _ _ _ h => hFc _ h)
  clear hFc hD1 hK1
  obtain ⟨rfl, rfl⟩ : r = (sp_make σ x1 x3 x4 x5).1 ∧ σ9 = (sp_make σ x1 x3 x4 x5).2 := ⟨congrArg Prod.fst hw9, congrArg Prod.snd hw9⟩
  generalize H1 = H at hP hS ⊢
  refine vx_ret ?_
  refine W.widen (k := 2) (n := 12) (Nat.le_of_ble_eq_true rfl) (Nat.le_of_ble_eq_true rfl) ?_
  exact W.iret (v := (sp_make σ x1 x3 x4 x5).1) hx hb hr (fun t ht hW => ⟨⟨(sp_make σ x1 x3 x4 x5).1, (sp_make σ x1 x3 x4 x5).2, rfl, hR.symm.trans hw, by rw [ht]; exact hP, va_K.moved hW.alike hK, hD⟩, hS.F ht⟩) hS.2.2 dX3_plan_28
