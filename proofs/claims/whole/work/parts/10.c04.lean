set_option maxHeartbeats 4000000 in
set_option maxRecDepth 100000 in
theorem m_X3_day (l : Launch) (hl9 : l.stackTraces = false) (dC : Nat → ClassId) (dI : Nat → Nat → Nat) (cI cZ : ClassId) (a : Nat → Nat) (zk : Nat → Nat) (sz : Nat) (σ : St) (x1 : Int32) (hiv : IV σ) : vx_Met l yX3_day wsX3_day ({ frames := 7, cells := 1, slots := 6, locals := 112 }) (pPu dC dI cI cZ a zk sz σ [.ref (a 0), .int x1]) (va_Qv (fun σ9 => sp_day σ x1 = .ok (0, σ9)) (bMu dC dI cI cZ a (va_A (cw cI cZ a σ) sz)) (va_A (cw cI cZ a σ) sz)) (vx_X (fun E : String => sp_day σ x1 = .error E) (bXu dC dI cI cZ a (va_A (cw cI cZ a σ) sz) σ) (va_A (cw cI cZ a σ) sz)) 1 6 (va_A (cw cI cZ a σ) sz) := by
  refine vx_ofW (cc := cX3_day) (maxL := 2) (ret := none) (by decide) rfl ?_
  intro p e s m args below meth c s₁ B hml hEx hv
  obtain ⟨rfl, hsz, hP, hK, hD0, hz⟩ := hv
  have hx := B.exec
  have hb := B.bytes
  have hr := B.returns
  have hts := atoms_spec (ws := wsX3_day) B.pre
  have hown : s.vm.findClass RX3 = some m.cls := findClass_of_methodNamed B.named
  have hlocks := B.notSynchronized
  subst hsz
  have hD := hD0.self (sz := s.heap.size)
  generalize hAe : va_A (cw cI cZ a σ) s.heap.size = A at hD hz ⊢
  have hA : ∀ q : Nat, s.heap.size ≤ q → A q := fun q h => by rw [← hAe]; exact Or.inr h
  clear hAe hD0
  obtain ⟨H, hHe⟩ : ∃ z, z = s.heap := ⟨_, rfl⟩
  obtain ⟨locs, hLe⟩ : ∃ z : List Loc, z = [] := ⟨_, rfl⟩
  have hS : va_S A s.heap H locs := by rw [hHe, hLe]; exact va_S.rf
  have hP : va_P (dC, dI) vwCl (cw cI cZ a σ) H := by rw [hHe]; exact hP
  refine W_ofH hHe hLe ?_
  clear hHe hLe
  have hl := lv_entry ([.ref (a 0), .int x1]) (n := 2) (Nat.le_of_ble_eq_true rfl)
  rw [lg_entry_eq]
  generalize (lg_sl ([.ref (a 0), .int x1]) ++ List.replicate (2 - (lg_sl ([.ref (a 0), .int x1])).length) Slot.unset).toArray = ls at hl ⊢
  have hl : lv_has ls 2 [(0, .ref (a 0)), (1, .int x1)] := hl
  obtain ⟨R, hR⟩ : ∃ z, z = sp_day σ x1 := ⟨_, rfl⟩
  have hw := hR
  unfold sp_day at hw
  refine lv_iload_n hx hb dX3_day_0 rfl (lv_at hl 1 rfl) ?_
  refine lv_aload_n hx hb dX3_day_1 rfl (lv_at hl 0 rfl) ?_
  refine va_get (D := (dC, dI)) (ci := 3) (v := .int (σ 0 5)) (C := RX3) (T := TX3) (N := 6) hx hb hts (iwX3 _) hown hK hP 0 rfl rfl 5 (by decide) (hts _ (kc k_159)) (fun _ h9 => h9) rfl dX3_day_2 ?_
  refine lv_ldc (own := RX3) (v := 99999) hx hb hown (hts _ (kc k_181)) dX3_day_5 ?_
  refine nx_call (vx_runS (As := [.int x1, .int (σ 0 5), .int (99999 : Int32)]) (rest := []) ⟨hx, hb, hml, hown, hts⟩ (m_X3_needRange l hl9 zk H.size x1 (σ 0 5) (99999 : Int32)) (cwS 3 hts (gS k_182 k_183 k_20 k_184) rfl rfl rfl (by decide +kernel) ⟨Nat.le_of_ble_eq_true rfl, Nat.le_of_ble_eq_true rfl⟩) (pn_need hz hS hA) rfl rfl hl.1 rfl (lv_room (Nat.le_of_ble_eq_true rfl)) dX3_day_7 ⟨Nat.le_of_ble_eq_true rfl, Nat.le_of_ble_eq_true rfl⟩) hP hD hS hA (fun c_7_1 => ?_) (fun c_7_1 H1 q9 ce hP1 hS1 hc1 hc2 hc3 => vx_out (fun x hx9 => (hEx x hx9).elim) hlocks hc1 hc2 hc3 (fun t ht hvm => ⟨_, hR.symm.trans (hw.trans (if_neg c_7_1)), ⟨rfl, by rw [ht]; exact hP1, va_K.moved hvm hK, hD⟩, hS1.F ht⟩) hS1.2.2 (Nat.le_of_ble_eq_true rfl) (Nat.le_of_ble_eq_true rfl))
  rw [if_pos c_7_1] at hw
  refine lv_aload_n hx hb dX3_day_10 rfl (lv_at hl 0 rfl) ?_
  refine lv_iload_n hx hb dX3_day_11 rfl (lv_at hl 1 rfl) ?_
  refine va_put (D := (dC, dI)) (ci := 3) (v := .int x1) (ty := .int) (C := RX3) (T := TX3) (N := 6) hx hb hts (iwX3 _) tyX3 tyX3_ok nmX3 hown hK hP hD hS 0 rfl rfl 5 (by decide) (hts _ (kc k_159)) (fun _ h9 => h9) rfl (by decide +kernel) rfl rfl (Nat.le_of_ble_eq_true rfl) dX3_day_12 (fun H locs hP hD hS => ?_)
  obtain ⟨σ_2, eσ_2⟩ : ∃ z : St, z = su σ 0 5 x1 := ⟨_, rfl⟩
  replace hP := P_cw_0_5 hP
  replace hD := D_cw_0_5 hD
  rw [← eσ_2] at hP hD
  replace hw : R = (.ok (0, σ_2)) := by subst eσ_2; exact hw
  have hiv_3 : IV σ_2 := by rw [eσ_2]; exact (iv_suq hiv (by decide))
  refine vx_ret ?_
  refine W.widen (k := 1) (n := 6) (Nat.le_of_ble_eq_true rfl) (Nat.le_of_ble_eq_true rfl) ?_
  exact W.vret hx hb hr (fun t ht hW => ⟨⟨σ_2, rfl, hR.symm.trans hw, by rw [ht]; exact hP, va_K.moved hW.alike hK, hD⟩, hS.F ht⟩) hS.2.2 dX3_day_15
set_option maxHeartbeats 4000000 in
set_option maxRecDepth 100000 in
theorem m_X3_age (l : Launch) (hl9 : l.stackTraces = false) (dC : Nat → ClassId) (dI : Nat → Nat → Nat) (cI cZ : ClassId) (a : Nat → Nat) (zk : Nat → Nat) (sz : Nat) (σ : St) (x1 : Int32) (x2 : Int32) (hiv : IV σ) : vx_Met l yX3_age wsX3_age ({ frames := 7, cells := 2, slots := 12, locals := 112 }) (pPu dC dI cI cZ a zk sz σ [.ref (a 0), .int x1, .int x2]) (va_Qv (fun σ9 => sp_age σ x1 x2 = .ok (0, σ9)) (bMu dC dI cI cZ a (va_A (cw cI cZ a σ) sz)) (va_A (cw cI cZ a σ) sz)) (vx_X (fun E : String => sp_age σ x1 x2 = .error E) (bXu dC dI cI cZ a (va_A (cw cI cZ a σ) sz) σ) (va_A (cw cI cZ a σ) sz)) 2 12 (va_A (cw cI cZ a σ) sz) := by
  refine vx_ofW (cc := cX3_age) (maxL := 3) (ret := none) (by decide) rfl ?_
  intro p e s m args below meth c s₁ B hml hEx hv
  obtain ⟨rfl, hsz, hP, hK, hD0, hz⟩ := hv
  have hx := B.exec
  have hb := B.bytes
  have hr := B.returns
  have hts := atoms_spec (ws := wsX3_age) B.pre
  have hown : s.vm.findClass RX3 = some m.cls := findClass_of_methodNamed B.named
  have hlocks := B.notSynchronized
  subst hsz
  have hD := hD0.self (sz := s.heap.size)
  generalize hAe : va_A (cw cI cZ a σ) s.heap.size = A at hD hz ⊢
  have hA : ∀ q : Nat, s.heap.size ≤ q → A q := fun q h => by rw [← hAe]; exact Or.inr h
  clear hAe hD0
  obtain ⟨H, hHe⟩ : ∃ z, z = s.heap := ⟨_, rfl⟩
  obtain ⟨locs, hLe⟩ : ∃ z : List Loc, z = [] := ⟨_, rfl⟩
  have hS : va_S A s.heap H locs := by rw [hHe, hLe]; exact va_S.rf
  have hP : va_P (dC, dI) vwCl (cw cI cZ a σ) H := by rw [hHe]; exact hP
  refine W_ofH hHe hLe ?_
  clear hHe hLe
  have hl := lv_entry ([.ref (a 0), .int x1, .int x2]) (n := 3) (Nat.le_of_ble_eq_true rfl)
  rw [lg_entry_eq]
  generalize (lg_sl ([.ref (a 0), .int x1, .int x2]) ++ List.replicate (3 - (lg_sl ([.ref (a 0), .int x1, .int x2])).length) Slot.unset).toArray = ls at hl ⊢
  have hl : lv_has ls 3 [(0, .ref (a 0)), (1, .int x1), (2, .int x2)] := hl
  obtain ⟨R, hR⟩ : ∃ z, z = sp_age σ x1 x2 := ⟨_, rfl⟩
  have hw := hR
  unfold sp_age at hw
  refine lv_iload_n hx hb dX3_age_0 rfl (lv_at hl 1 rfl) ?_
  refine lv_iconst (v := 5) hx hb dX3_age_1 (by decide) ?_
  refine nx_call (vx_runS (As := [.int x1, .int (5 : Int32)]) (rest := []) ⟨hx, hb, hml, hown, hts⟩ (m_X3_needKnown l hl9 zk H.size x1 (5 : Int32)) (cwS 2 hts (gS k_263 k_264 k_20 k_265) rfl rfl rfl (by decide +kernel) ⟨Nat.le_of_ble_eq_true rfl, Nat.le_of_ble_eq_true rfl⟩) (pn_need hz hS hA) rfl rfl hl.1 rfl (lv_room (Nat.le_of_ble_eq_true rfl)) dX3_age_2 ⟨Nat.le_of_ble_eq_true rfl, Nat.le_of_ble_eq_true rfl⟩) hP hD hS hA (fun c_2_1 => ?_) (fun c_2_1 H1 q9 ce hP1 hS1 hc1 hc2 hc3 => vx_out (fun x hx9 => (hEx x hx9).elim) hlocks hc1 hc2 hc3 (fun t ht hvm => ⟨_, hR.symm.trans (hw.trans (if_neg c_2_1)), ⟨rfl, by rw [ht]; exact hP1, va_K.moved hvm hK, hD⟩, hS1.F ht⟩) hS1.2.2 (Nat.le_of_ble_eq_true rfl) (Nat.le_of_ble_eq_true rfl))
  rw [if_pos c_2_1] at hw
  have hn_2 : vp_in x1 5 := okK_in c_2_1 (n := 5) (by decide) (by decide)
  refine lv_iload_n hx hb dX3_age_5 rfl (lv_at hl 2 rfl) ?_
  refine lv_iconst (v := 0) hx hb dX3_age_6 (by decide) ?_
  refine lv_sipush (v := 20000) hx hb dX3_age_7 (by decide) ?_
  refine nx_call (vx_runS (As := [.int x2, .int (0 : Int32), .int (20000 : Int32)]) (rest := []) ⟨hx, hb, hml, hown, hts⟩ (m_X3_needRange l hl9 zk H.size x2 (0 : Int32) (20000 : Int32)) (cwS 3 hts (gS k_182 k_183 k_20 k_184) rfl rfl rfl (by decide +kernel) ⟨Nat.le_of_ble_eq_true rfl, Nat.le_of_ble_eq_true rfl⟩) (pn_need hz hS hA) rfl rfl hl.1 rfl (lv_room (Nat.le_of_ble_eq_true rfl)) dX3_age_10 ⟨Nat.le_of_ble_eq_true rfl, Nat.le_of_ble_eq_true rfl⟩) hP hD hS hA (fun c_10_3 => ?_) (fun c_10_3 H1 q9 ce hP1 hS1 hc1 hc2 hc3 => vx_out (fun x hx9 => (hEx x hx9).elim) hlocks hc1 hc2 hc3 (fun t ht hvm => ⟨_, hR.symm.trans (hw.trans (if_neg c_10_3)), ⟨rfl, by rw [ht]; exact hP1, va_K.moved hvm hK, hD⟩, hS1.F ht⟩) hS1.2.2 (Nat.le_of_ble_eq_true rfl) (Nat.le_of_ble_eq_true rfl))
  rw [if_pos c_10_3] at hw
  refine lv_aload_n hx hb dX3_age_13 rfl (lv_at hl 0 rfl) ?_
  refine va_get (D := (dC, dI)) (ci := 3) (v := .ref (a 1)) (C := RX3) (T := TX3) (N := 6) hx hb hts (iwX3 _) hown hK hP 0 rfl rfl 0 (by decide) (hts _ (kc k_154)) (fun _ h9 => h9) rfl dX3_age_14 ?_
  refine va_get (D := (dC, dI)) (ci := 0) (v := .ref (a 2)) (C := RX0) (T := TX0) (N := 5) hx hb hts (iwX0 _) hown hK hP 1 rfl rfl 0 (by decide) (hts _ (kc k_49)) (fun _ h9 => h9) rfl dX3_age_17 ?_
  refine lv_iload_n hx hb dX3_age_20 rfl (lv_at hl 1 rfl) ?_
  refine lv_iload_n hx hb dX3_age_21 rfl (lv_at hl 2 rfl) ?_
  refine va_iast (D := (dC, dI)) (f := σ 2) hx hb hK hP hD hS 2 0 rfl rfl (i := x1) (x := x2) hn_2 dX3_age_22 (fun H locs hP hD hS => ?_)
  obtain ⟨σ_4, eσ_4⟩ : ∃ z : St, z = su σ 2 x1.toNatClampNeg x2 := ⟨_, rfl⟩
  replace hP := P_cw_2 hP
  replace hD := D_cw_2 hD
  rw [← eσ_4] at hP hD
  replace hw : R = (.ok (0, σ_4)) := by subst eσ_4; exact hw
  have hiv_5 : IV σ_4 := by rw [eσ_4]; exact (iv_suq hiv (by decide))
  refine vx_ret ?_
  refine W.widen (k := 2) (n := 12) (Nat.le_of_ble_eq_true rfl) (Nat.le_of_ble_eq_true rfl) ?_
  exact W.vret hx hb hr (fun t ht hW => ⟨⟨σ_4, rfl, hR.symm.trans hw, by rw [ht]; exact hP, va_K.moved hW.alike hK, hD⟩, hS.F ht⟩) hS.2.2 dX3_age_23
set_option maxHeartbeats 4000000 in
set_option maxRecDepth 100000 in
theorem m_X3_test (l : Launch) (hl9 : l.stackTraces = false) (dC : Nat → ClassId) (dI : Nat → Nat → Nat) (cI cZ : ClassId) (a : Nat → Nat) (zk : Nat → Nat) (sz : Nat) (σ : St) (x1 : Int32) (x2 : Int32) (x3 : Int32) (x4 : Int32) (hiv : IV σ) : vx_Met l yX3_test wsX3_test ({ frames := 7, cells := 4, slots := 24, locals := 112 }) (pPu dC dI cI cZ a zk sz σ [.ref (a 0), .int x1, .int x2, .int x3, .int x4]) (va_Qv (fun σ9 => sp_test σ x1 x2 x3 x4 = .ok (0, σ9)) (bMu dC dI cI cZ a (va_A (cw cI cZ a σ) sz)) (va_A (cw cI cZ a σ) sz)) (vx_X (fun E : String => sp_test σ x1 x2 x3 x4 = .error E) (bXu dC dI cI cZ a (va_A (cw cI cZ a σ) sz) σ) (va_A (cw cI cZ a σ) sz)) 4 24 (va_A (cw cI cZ a σ) sz) := by
  refine vx_ofW (cc := cX3_test) (maxL := 6) (ret := none) (by decide) rfl ?_
  intro p e s m args below meth c s₁ B hml hEx hv
  obtain ⟨rfl, hsz, hP, hK, hD0, hz⟩ := hv
  have hx := B.exec
  have hb := B.bytes
  have hr := B.returns
  have hts := atoms_spec (ws := wsX3_test) B.pre
  have hown : s.vm.findClass RX3 = some m.cls := findClass_of_methodNamed B.named
  have hlocks := B.notSynchronized
  subst hsz
  have hD := hD0.self (sz := s.heap.size)
  generalize hAe : va_A (cw cI cZ a σ) s.heap.size = A at hD hz ⊢
  have hA : ∀ q : Nat, s.heap.size ≤ q → A q := fun q h => by rw [← hAe]; exact Or.inr h
  clear hAe hD0
  obtain ⟨H, hHe⟩ : ∃ z, z = s.heap := ⟨_, rfl⟩
  obtain ⟨locs, hLe⟩ : ∃ z : List Loc, z = [] := ⟨_, rfl⟩
  have hS : va_S A s.heap H locs := by rw [hHe, hLe]; exact va_S.rf
  have hP : va_P (dC, dI) vwCl (cw cI cZ a σ) H := by rw [hHe]; exact hP
  refine W_ofH hHe hLe ?_
  clear hHe hLe
  have hl := lv_entry ([.ref (a 0), .int x1, .int x2, .int x3, .int x4]) (n := 6) (Nat.le_of_ble_eq_true rfl)
  rw [lg_entry_eq]
  generalize (lg_sl ([.ref (a 0), .int x1, .int x2, .int x3, .int x4]) ++ List.replicate (6 - (lg_sl ([.ref (a 0), .int x1, .int x2, .int x3, .int x4])).length) Slot.unset).toArray = ls at hl ⊢
  have hl : lv_has ls 6 [(0, .ref (a 0)), (1, .int x1), (2, .int x2), (3, .int x3), (4, .int x4)] := hl
  obtain ⟨R, hR⟩ : ∃ z, z = sp_test σ x1 x2 x3 x4 := ⟨_, rfl⟩
  have hw := hR
  unfold sp_test at hw
  refine lv_iload_n hx hb dX3_test_0 rfl (lv_at hl 1 rfl) ?_
  refine lv_iconst (v := 5) hx hb dX3_test_1 (by decide) ?_
  refine nx_call (vx_runS (As := [.int x1, .int (5 : Int32)]) (rest := []) ⟨hx, hb, hml, hown, hts⟩ (m_X3_needKnown l hl9 zk H.size x1 (5 : Int32)) (cwS 2 hts (gS k_263 k_264 k_20 k_265) rfl rfl rfl (by decide +kernel) ⟨Nat.le_of_ble_eq_true rfl, Nat.le_of_ble_eq_true rfl⟩) (pn_need hz hS hA) rfl rfl hl.1 rfl (lv_room (Nat.le_of_ble_eq_true rfl)) dX3_test_2 ⟨Nat.le_of_ble_eq_true rfl, Nat.le_of_ble_eq_true rfl⟩) hP hD hS hA (fun c_2_1 => ?_) (fun c_2_1 H1 q9 ce hP1 hS1 hc1 hc2 hc3 => vx_out (fun x hx9 => (hEx x hx9).elim) hlocks hc1 hc2 hc3 (fun t ht hvm => ⟨_, hR.symm.trans (hw.trans (if_neg c_2_1)), ⟨rfl, by rw [ht]; exact hP1, va_K.moved hvm hK, hD⟩, hS1.F ht⟩) hS1.2.2 (Nat.le_of_ble_eq_true rfl) (Nat.le_of_ble_eq_true rfl))
  rw [if_pos c_2_1] at hw
  have hn_2 : vp_in x1 5 := okK_in c_2_1 (n := 5) (by decide) (by decide)
  refine lv_iload_n hx hb dX3_test_5 rfl (lv_at hl 2 rfl) ?_
  refine lv_iconst (v := 3) hx hb dX3_test_6 (by decide) ?_
  refine nx_call (vx_runS (As := [.int x2, .int (3 : Int32)]) (rest := []) ⟨hx, hb, hml, hown, hts⟩ (m_X3_needKnown l hl9 zk H.size x2 (3 : Int32)) (cwS 2 hts (gS k_263 k_264 k_20 k_265) rfl rfl rfl (by decide +kernel) ⟨Nat.le_of_ble_eq_true rfl, Nat.le_of_ble_eq_true rfl⟩) (pn_need hz hS hA) rfl rfl hl.1 rfl (lv_room (Nat.le_of_ble_eq_true rfl)) dX3_test_7 ⟨Nat.le_of_ble_eq_true rfl, Nat.le_of_ble_eq_true rfl⟩) hP hD hS hA (fun c_7_3 => ?_) (fun c_7_3 H1 q9 ce hP1 hS1 hc1 hc2 hc3 => vx_out (fun x hx9 => (hEx x hx9).elim) hlocks hc1 hc2 hc3 (fun t ht hvm => ⟨_, hR.symm.trans (hw.trans (if_neg c_7_3)), ⟨rfl, by rw [ht]; exact hP1, va_K.moved hvm hK, hD⟩, hS1.F ht⟩) hS1.2.2 (Nat.le_of_ble_eq_true rfl) (Nat.le_of_ble_eq_true rfl))
  rw [if_pos c_7_3] at hw
  have hn_4 : vp_in x2 3 := okK_in c_7_3 (n := 3) (by decide) (by decide)
  refine lv_iload_n hx hb dX3_test_10 rfl (lv_at hl 3 rfl) ?_
  refine lv_iconst (v := 0) hx hb dX3_test_11 (by decide) ?_
  refine lv_sipush (v := 5000) hx hb dX3_test_12 (by decide) ?_
  refine nx_call (vx_runS (As := [.int x3, .int (0 : Int32), .int (5000 : Int32)]) (rest := []) ⟨hx, hb, hml, hown, hts⟩ (m_X3_needRange l hl9 zk H.size x3 (0 : Int32) (5000 : Int32)) (cwS 3 hts (gS k_182 k_183 k_20 k_184) rfl rfl rfl (by decide +kernel) ⟨Nat.le_of_ble_eq_true rfl, Nat.le_of_ble_eq_true rfl⟩) (pn_need hz hS hA) rfl rfl hl.1 rfl (lv_room (Nat.le_of_ble_eq_true rfl)) dX3_test_15 ⟨Nat.le_of_ble_eq_true rfl, Nat.le_of_ble_eq_true rfl⟩) hP hD hS hA (fun c_15_5 => ?_) (fun c_15_5 H1 q9 ce hP1 hS1 hc1 hc2 hc3 => vx_out (fun x hx9 => (hEx x hx9).elim) hlocks hc1 hc2 hc3 (fun t ht hvm => ⟨_, hR.symm.trans (hw.trans (if_neg c_15_5)), ⟨rfl, by rw [ht]; exact hP1, va_K.moved hvm hK, hD⟩, hS1.F ht⟩) hS1.2.2 (Nat.le_of_ble_eq_true rfl) (Nat.le_of_ble_eq_true rfl))
  rw [if_pos c_15_5] at hw
  refine lv_iload hx hb dX3_test_18 (lv_at hl 4 rfl) ?_
  refine lv_iconst (v := 0) hx hb dX3_test_20 (by decide) ?_
  refine lv_sipush (v := 1000) hx hb dX3_test_21 (by decide) ?_
  refine nx_call (vx_runS (As := [.int x4, .int (0 : Int32), .int (1000 : Int32)]) (rest := []) ⟨hx, hb, hml, hown, hts⟩ (m_X3_needRange l hl9 zk H.size x4 (0 : Int32) (1000 : Int32)) (cwS 3 hts (gS k_182 k_183 k_20 k_184) rfl rfl rfl (by decide +kernel) ⟨Nat.le_of_ble_eq_true rfl, Nat.le_of_ble_eq_true rfl⟩) (pn_need hz hS hA) rfl rfl hl.1 rfl (lv_room (Nat.le_of_ble_eq_true rfl)) dX3_test_24 ⟨Nat.le_of_ble_eq_true rfl, Nat.le_of_ble_eq_true rfl⟩) hP hD hS hA (fun c_24_6 => ?_) (fun c_24_6 H1 q9 ce hP1 hS1 hc1 hc2 hc3 => vx_out (fun x hx9 => (hEx x hx9).elim) hlocks hc1 hc2 hc3 (fun t ht hvm => ⟨_, hR.symm.trans (hw.trans (if_neg c_24_6)), ⟨rfl, by rw [ht]; exact hP1, va_K.moved hvm hK, hD⟩, hS1.F ht⟩) hS1.2.2 (Nat.le_of_ble_eq_true rfl) (Nat.le_of_ble_eq_true rfl))
  rw [if_pos c_24_6] at hw
  refine lv_iload_n hx hb dX3_test_27 rfl (lv_at hl 1 rfl) ?_
  refine lv_iconst (v := 3) hx hb dX3_test_28 (by decide) ?_
  refine lv_imul hx hb dX3_test_29 ?_
  refine lv_iload_n hx hb dX3_test_30 rfl (lv_at hl 2 rfl) ?_
  refine lv_iadd hx hb dX3_test_31 ?_
  refine lv_istore (lv' := [(5, .int ((x1 * (3 : Int32)) + x2)), (0, .ref (a 0)), (1, .int x1), (2, .int x2), (3, .int x3), (4, .int x4)]) hx hb dX3_test_32 hl (by decide) rfl (fun ls hl => ?_)
  refine lv_aload_n hx hb dX3_test_34 rfl (lv_at hl 1 rfl) ?_
  refine va_get (D := (dC, dI)) (ci := 3) (v := .ref (a 1)) (C := RX3) (T := TX3) (N := 6) hx hb hts (iwX3 _) hown hK hP 0 rfl rfl 0 (by decide) (hts _ (kc k_154)) (fun _ h9 => h9) rfl dX3_test_35 ?_
  refine va_get (D := (dC, dI)) (ci := 0) (v := .ref (a 3)) (C := RX0) (T := TX0) (N := 5) hx hb hts (iwX0 _) hown hK hP 1 rfl rfl 1 (by decide) (hts _ (kc k_51)) (fun _ h9 => h9) rfl dX3_test_38 ?_
  refine lv_iload hx hb dX3_test_41 (lv_at hl 0 rfl) ?_
  refine lv_iload_n hx hb dX3_test_43 rfl (lv_at hl 4 rfl) ?_
  refine va_iast (D := (dC, dI)) (f := σ 3) hx hb hK hP hD hS 3 0 rfl rfl (i := (x1 * (3 : Int32)) + x2) (x := x3) (in_m3 (n := 5) hn_2 hn_4 (by decide) (by decide)) dX3_test_44 (fun H locs hP hD hS => ?_)
  obtain ⟨σ_7, eσ_7⟩ : ∃ z : St, z = su σ 3 (((x1 * (3 : Int32)) + x2).toNatClampNeg) x3 := ⟨_, rfl⟩
  replace hP := P_cw_3 hP
  replace hD := D_cw_3 hD
  rw [← eσ_7] at hP hD
  replace hw : R = (let σ_9 : St := su σ_7 4 (((x1 * (3 : Int32)) + x2).toNatClampNeg) x4; .ok (0, σ_9)) := by subst eσ_7; exact hw
  have hiv_8 : IV σ_7 := by rw [eσ_7]; exact (iv_suq hiv (by decide))
  refine lv_aload_n hx hb dX3_test_45 rfl (lv_at hl 1 rfl) ?_
  refine va_get (D := (dC, dI)) (ci := 3) (v := .ref (a 1)) (C := RX3) (T := TX3) (N := 6) hx hb hts (iwX3 _) hown hK hP 0 rfl rfl 0 (by decide) (hts _ (kc k_154)) (fun _ h9 => h9) rfl dX3_test_46 ?_
  refine va_get (D := (dC, dI)) (ci := 0) (v := .ref (a 4)) (C := RX0) (T := TX0) (N := 5) hx hb hts (iwX0 _) hown hK hP 1 rfl rfl 2 (by decide) (hts _ (kc k_53)) (fun _ h9 => h9) rfl dX3_test_49 ?_
  refine lv_iload hx hb dX3_test_52 (lv_at hl 0 rfl) ?_
  refine lv_iload hx hb dX3_test_54 (lv_at hl 5 rfl) ?_
  refine va_iast (D := (dC, dI)) (f := σ_7 4) hx hb hK hP hD hS 4 0 rfl rfl (i := (x1 * (3 : Int32)) + x2) (x := x4) (in_m3 (n := 5) hn_2 hn_4 (by decide) (by decide)) dX3_test_56 (fun H locs hP hD hS => ?_)
  obtain ⟨σ_9, eσ_9⟩ : ∃ z : St, z = su σ_7 4 (((x1 * (3 : Int32)) + x2).toNatClampNeg) x4 := ⟨_, rfl⟩
  replace hP := P_cw_4 hP
  replace hD := D_cw_4 hD
  rw [← eσ_9] at hP hD
  replace hw : R = (.ok (0, σ_9)) := by subst eσ_9; exact hw
  have hiv_10 : IV σ_9 := by rw [eσ_9]; exact (iv_suq hiv_8 (by decide))
  refine vx_ret ?_
  refine W.widen (k := 4) (n := 24) (Nat.le_of_ble_eq_true rfl) (Nat.le_of_ble_eq_true rfl) ?_
  exact W.vret hx hb hr (fun t ht hW => ⟨⟨σ_9, rfl, hR.symm.trans hw, by rw [ht]; exact hP, va_K.moved hW.alike hK, hD⟩, hS.F ht⟩) hS.2.2 dX3_test_57
set_option maxHeartbeats 4000000 in
set_option maxRecDepth 100000 in
theorem m_X3_bounds (l : Launch) (hl9 : l.stackTraces = false) (dC : Nat → ClassId) (dI : Nat → Nat → Nat) (cI cZ : ClassId) (a : Nat → Nat) (zk : Nat → Nat) (sz : Nat) (σ : St) (x1 : Int32) (x2 : Int32) (x3 : Int32) (x4 : Int32) (hiv : IV σ) : vx_Met l yX3_bounds wsX3_bounds ({ frames := 7, cells := 4, slots := 24, locals := 112 }) (pPu dC dI cI cZ a zk sz σ [.ref (a 0), .int x1, .int x2, .int x3, .int x4]) (va_Qv (fun σ9 => sp_bounds σ x1 x2 x3 x4 = .ok (0, σ9)) (bMu dC dI cI cZ a (va_A (cw cI cZ a σ) sz)) (va_A (cw cI cZ a σ) sz)) (vx_X (fun E : String => sp_bounds σ x1 x2 x3 x4 = .error E) (bXu dC dI cI cZ a (va_A (cw cI cZ a σ) sz) σ) (va_A (cw cI cZ a σ) sz)) 4 24 (va_A (cw cI cZ a σ) sz) := by
  refine vx_ofW (cc := cX3_bounds) (maxL := 6) (ret := none) (by decide) rfl ?_
  intro p e s m args below meth c s₁ B hml hEx hv
  obtain ⟨rfl, hsz, hP, hK, hD0, hz⟩ := hv
  have hx := B.exec
  have hb := B.bytes
  have hr := B.returns
  have hts := atoms_spec (ws := wsX3_bounds) B.pre
  have hown : s.vm.findClass RX3 = some m.cls := findClass_of_methodNamed B.named
  have hlocks := B.notSynchronized
  subst hsz
  have hD := hD0.self (sz := s.heap.size)
  generalize hAe : va_A (cw cI cZ a σ) s.heap.size = A at hD hz ⊢
  have hA : ∀ q : Nat, s.heap.size ≤ q → A q := fun q h => by rw [← hAe]; exact Or.inr h
  clear hAe hD0
  obtain ⟨H, hHe⟩ : ∃ z, z = s.heap := ⟨_, rfl⟩
  obtain ⟨locs, hLe⟩ : ∃ z : List Loc, z = [] := ⟨_, rfl⟩
  have hS : va_S A s.heap H locs := by rw [hHe, hLe]; exact va_S.rf
  have hP : va_P (dC, dI) vwCl (cw cI cZ a σ) H := by rw [hHe]; exact hP
  refine W_ofH hHe hLe ?_
  clear hHe hLe
  have hl := lv_entry ([.ref (a 0), .int x1, .int x2, .int x3, .int x4]) (n := 6) (Nat.le_of_ble_eq_true rfl)
  rw [lg_entry_eq]
  generalize (lg_sl ([.ref (a 0), .int x1, .int x2, .int x3, .int x4]) ++ List.replicate (6 - (lg_sl ([.ref (a 0), .int x1, .int x2, .int x3, .int x4])).length) Slot.unset).toArray = ls at hl ⊢
  have hl : lv_has ls 6 [(0, .ref (a 0)), (1, .int x1), (2, .int x2), (3, .int x3), (4, .int x4)] := hl
  obtain ⟨R, hR⟩ : ∃ z, z = sp_bounds σ x1 x2 x3 x4 := ⟨_, rfl⟩
  have hw := hR
  unfold sp_bounds at hw
  refine lv_iload_n hx hb dX3_bounds_0 rfl (lv_at hl 1 rfl) ?_
  refine lv_iconst (v := 5) hx hb dX3_bounds_1 (by decide) ?_
  refine nx_call (vx_runS (As := [.int x1, .int (5 : Int32)]) (rest := []) ⟨hx, hb, hml, hown, hts⟩ (m_X3_needKnown l hl9 zk H.size x1 (5 : Int32)) (cwS 2 hts (gS k_263 k_264 k_20 k_265) rfl rfl rfl (by decide +kernel) ⟨Nat.le_of_ble_eq_true rfl, Nat.le_of_ble_eq_true rfl⟩) (pn_need hz hS hA) rfl rfl hl.1 rfl (lv_room (Nat.le_of_ble_eq_true rfl)) dX3_bounds_2 ⟨Nat.le_of_ble_eq_true rfl, Nat.le_of_ble_eq_true rfl⟩) hP hD hS hA (fun c_2_1 => ?_) (fun c_2_1 H1 q9 ce hP1 hS1 hc1 hc2 hc3 => vx_out (fun x hx9 => (hEx x hx9).elim) hlocks hc1 hc2 hc3 (fun t ht hvm => ⟨_, hR.symm.trans (hw.trans (if_neg c_2_1)), ⟨rfl, by rw [ht]; exact hP1, va_K.moved hvm hK, hD⟩, hS1.F ht⟩) hS1.2.2 (Nat.le_of_ble_eq_true rfl) (Nat.le_of_ble_eq_true rfl))
  rw [if_pos c_2_1] at hw
  have hn_2 : vp_in x1 5 := okK_in c_2_1 (n := 5) (by decide) (by decide)
  refine lv_iload_n hx hb dX3_bounds_5 rfl (lv_at hl 2 rfl) ?_
  refine lv_iconst (v := 3) hx hb dX3_bounds_6 (by decide) ?_
  refine nx_call (vx_runS (As := [.int x2, .int (3 : Int32)]) (rest := []) ⟨hx, hb, hml, hown, hts⟩ (m_X3_needKnown l hl9 zk H.size x2 (3 : Int32)) (cwS 2 hts (gS k_263 k_264 k_20 k_265) rfl rfl rfl (by decide +kernel) ⟨Nat.le_of_ble_eq_true rfl, Nat.le_of_ble_eq_true rfl⟩) (pn_need hz hS hA) rfl rfl hl.1 rfl (lv_room (Nat.le_of_ble_eq_true rfl)) dX3_bounds_7 ⟨Nat.le_of_ble_eq_true rfl, Nat.le_of_ble_eq_true rfl⟩) hP hD hS hA (fun c_7_3 => ?_) (fun c_7_3 H1 q9 ce hP1 hS1 hc1 hc2 hc3 => vx_out (fun x hx9 => (hEx x hx9).elim) hlocks hc1 hc2 hc3 (fun t ht hvm => ⟨_, hR.symm.trans (hw.trans (if_neg c_7_3)), ⟨rfl, by rw [ht]; exact hP1, va_K.moved hvm hK, hD⟩, hS1.F ht⟩) hS1.2.2 (Nat.le_of_ble_eq_true rfl) (Nat.le_of_ble_eq_true rfl))
  rw [if_pos c_7_3] at hw
  have hn_4 : vp_in x2 3 := okK_in c_7_3 (n := 3) (by decide) (by decide)
  refine lv_iload hx hb dX3_bounds_10 (lv_at hl 4 rfl) ?_
  refine lv_iconst (v := 0) hx hb dX3_bounds_12 (by decide) ?_
  refine lv_sipush (v := 10000) hx hb dX3_bounds_13 (by decide) ?_
  refine nx_call (vx_runS (As := [.int x4, .int (0 : Int32), .int (10000 : Int32)]) (rest := []) ⟨hx, hb, hml, hown, hts⟩ (m_X3_needRange l hl9 zk H.size x4 (0 : Int32) (10000 : Int32)) (cwS 3 hts (gS k_182 k_183 k_20 k_184) rfl rfl rfl (by decide +kernel) ⟨Nat.le_of_ble_eq_true rfl, Nat.le_of_ble_eq_true rfl⟩) (pn_need hz hS hA) rfl rfl hl.1 rfl (lv_room (Nat.le_of_ble_eq_true rfl)) dX3_bounds_16 ⟨Nat.le_of_ble_eq_true rfl, Nat.le_of_ble_eq_true rfl⟩) hP hD hS hA (fun c_16_5 => ?_) (fun c_16_5 H1 q9 ce hP1 hS1 hc1 hc2 hc3 => vx_out (fun x hx9 => (hEx x hx9).elim) hlocks hc1 hc2 hc3 (fun t ht hvm => ⟨_, hR.symm.trans (hw.trans (if_neg c_16_5)), ⟨rfl, by rw [ht]; exact hP1, va_K.moved hvm hK, hD⟩, hS1.F ht⟩) hS1.2.2 (Nat.le_of_ble_eq_true rfl) (Nat.le_of_ble_eq_true rfl))
  rw [if_pos c_16_5] at hw
  refine lv_iload_n hx hb dX3_bounds_19 rfl (lv_at hl 3 rfl) ?_
  refine lv_iconst (v := 0) hx hb dX3_bounds_20 (by decide) ?_
  refine lv_iload hx hb dX3_bounds_21 (lv_at hl 4 rfl) ?_
  refine nx_call (vx_runS (As := [.int x3, .int (0 : Int32), .int x4]) (rest := []) ⟨hx, hb, hml, hown, hts⟩ (m_X3_needRange l hl9 zk H.size x3 (0 : Int32) x4) (cwS 3 hts (gS k_182 k_183 k_20 k_184) rfl rfl rfl (by decide +kernel) ⟨Nat.le_of_ble_eq_true rfl, Nat.le_of_ble_eq_true rfl⟩) (pn_need hz hS hA) rfl rfl hl.1 rfl (lv_room (Nat.le_of_ble_eq_true rfl)) dX3_bounds_23 ⟨Nat.le_of_ble_eq_true rfl, Nat.le_of_ble_eq_true rfl⟩) hP hD hS hA (fun c_23_6 => ?_) (fun c_23_6 H1 q9 ce hP1 hS1 hc1 hc2 hc3 => vx_out (fun x hx9 => (hEx x hx9).elim) hlocks hc1 hc2 hc3 (fun t ht hvm => ⟨_, hR.symm.trans (hw.trans (if_neg c_23_6)), ⟨rfl, by rw [ht]; exact hP1, va_K.moved hvm hK, hD⟩, hS1.F ht⟩) hS1.2.2 (Nat.le_of_ble_eq_true rfl) (Nat.le_of_ble_eq_true rfl))
  rw [if_pos c_23_6] at hw
  refine lv_iload_n hx hb dX3_bounds_26 rfl (lv_at hl 1 rfl) ?_
  refine lv_iconst (v := 3) hx hb dX3_bounds_27 (by decide) ?_
  refine lv_imul hx hb dX3_bounds_28 ?_
  refine lv_iload_n hx hb dX3_bounds_29 rfl (lv_at hl 2 rfl) ?_
  refine lv_iadd hx hb dX3_bounds_30 ?_
  refine lv_istore (lv' := [(5, .int ((x1 * (3 : Int32)) + x2)), (0, .ref (a 0)), (1, .int x1), (2, .int x2), (3, .int x3), (4, .int x4)]) hx hb dX3_bounds_31 hl (by decide) rfl (fun ls hl => ?_)
  refine lv_aload_n hx hb dX3_bounds_33 rfl (lv_at hl 1 rfl) ?_
  refine va_get (D := (dC, dI)) (ci := 3) (v := .ref (a 1)) (C := RX3) (T := TX3) (N := 6) hx hb hts (iwX3 _) hown hK hP 0 rfl rfl 0 (by decide) (hts _ (kc k_154)) (fun _ h9 => h9) rfl dX3_bounds_34 ?_
  refine va_get (D := (dC, dI)) (ci := 0) (v := .ref (a 5)) (C := RX0) (T := TX0) (N := 5) hx hb hts (iwX0 _) hown hK hP 1 rfl rfl 3 (by decide) (hts _ (kc k_55)) (fun _ h9 => h9) rfl dX3_bounds_37 ?_
  refine lv_iload hx hb dX3_bounds_40 (lv_at hl 0 rfl) ?_
  refine lv_iload_n hx hb dX3_bounds_42 rfl (lv_at hl 4 rfl) ?_
  refine va_iast (D := (dC, dI)) (f := σ 5) hx hb hK hP hD hS 5 0 rfl rfl (i := (x1 * (3 : Int32)) + x2) (x := x3) (in_m3 (n := 5) hn_2 hn_4 (by decide) (by decide)) dX3_bounds_43 (fun H locs hP hD hS => ?_)
  obtain ⟨σ_7, eσ_7⟩ : ∃ z : St, z = su σ 5 (((x1 * (3 : Int32)) + x2).toNatClampNeg) x3 := ⟨_, rfl⟩
  replace hP := P_cw_5 hP
  replace hD := D_cw_5 hD
  rw [← eσ_7] at hP hD
  replace hw : R = (let σ_9 : St := su σ_7 6 (((x1 * (3 : Int32)) + x2).toNatClampNeg) x4; .ok (0, σ_9)) := by subst eσ_7; exact hw
  have hiv_8 : IV σ_7 := by rw [eσ_7]; exact (iv_suq hiv (by decide))
  refine lv_aload_n hx hb dX3_bounds_44 rfl (lv_at hl 1 rfl) ?_
  refine va_get (D := (dC, dI)) (ci := 3) (v := .ref (a 1)) (C := RX3) (T := TX3) (N := 6) hx hb hts (iwX3 _) hown hK hP 0 rfl rfl 0 (by decide) (hts _ (kc k_154)) (fun _ h9 => h9) rfl dX3_bounds_45 ?_
  refine va_get (D := (dC, dI)) (ci := 0) (v := .ref (a 6)) (C := RX0) (T := TX0) (N := 5) hx hb hts (iwX0 _) hown hK hP 1 rfl rfl 4 (by decide) (hts _ (kc k_57)) (fun _ h9 => h9) rfl dX3_bounds_48 ?_
  refine lv_iload hx hb dX3_bounds_51 (lv_at hl 0 rfl) ?_
  refine lv_iload hx hb dX3_bounds_53 (lv_at hl 5 rfl) ?_
  refine va_iast (D := (dC, dI)) (f := σ_7 6) hx hb hK hP hD hS 6 0 rfl rfl (i := (x1 * (3 : Int32)) + x2) (x := x4) (in_m3 (n := 5) hn_2 hn_4 (by decide) (by decide)) dX3_bounds_55 (fun H locs hP hD hS => ?_)
  obtain ⟨σ_9, eσ_9⟩ : ∃ z : St, z = su σ_7 6 (((x1 * (3 : Int32)) + x2).toNatClampNeg) x4 := ⟨_, rfl⟩
  replace hP := P_cw_6 hP
  replace hD := D_cw_6 hD
  rw [← eσ_9] at hP hD
  replace hw : R = (.ok (0, σ_9)) := by subst eσ_9; exact hw
  have hiv_10 : IV σ_9 := by rw [eσ_9]; exact (iv_suq hiv_8 (by decide))
  refine vx_ret ?_
  refine W.widen (k := 4) (n := 24) (Nat.le_of_ble_eq_true rfl) (Nat.le_of_ble_eq_true rfl) ?_
  exact W.vret hx hb hr (fun t ht hW => ⟨⟨σ_9, rfl, hR.symm.trans hw, by rw [ht]; exact hP, va_K.moved hW.alike hK, hD⟩, hS.F ht⟩) hS.2.2 dX3_bounds_56
set_option maxHeartbeats 4000000 in
set_option maxRecDepth 100000 in
theorem m_X3_thing (l : Launch) (hl9 : l.stackTraces = false) (dC : Nat → ClassId) (dI : Nat → Nat → Nat) (cI cZ : ClassId) (a : Nat → Nat) (zk : Nat → Nat) (sz : Nat) (σ : St) (x1 : Int32) (x2 : Int32) (x3 : Int32) (x4 : Int32) (x5 : Int32) (x6 : Int32) (hiv : IV σ) : vx_Met l yX3_thing wsX3_thing ({ frames := 7, cells := 8, slots := 48, locals := 112 }) (pPu dC dI cI cZ a zk sz σ [.ref (a 0), .int x1, .int x2, .int x3, .int x4, .int x5, .int x6]) (va_Qi (fun r σ9 => sp_thing σ x1 x2 x3 x4 x5 x6 = .ok (r, σ9)) (bMu dC dI cI cZ a (va_A (cw cI cZ a σ) sz)) (va_A (cw cI cZ a σ) sz)) (vx_X (fun E : String => sp_thing σ x1 x2 x3 x4 x5 x6 = .error E) (bXu dC dI cI cZ a (va_A (cw cI cZ a σ) sz) σ) (va_A (cw cI cZ a σ) sz)) 8 48 (va_A (cw cI cZ a σ) sz) := by
  refine vx_ofW (cc := cX3_thing) (maxL := 7) (ret := (some .int)) (by decide) rfl ?_
  intro p e s m args below meth c s₁ B hml hEx hv
  obtain ⟨rfl, hsz, hP, hK, hD0, hz⟩ := hv
  have hx := B.exec
  have hb := B.bytes
  have hr := B.returns
  have hts := atoms_spec (ws := wsX3_thing) B.pre
  have hown : s.vm.findClass RX3 = some m.cls := findClass_of_methodNamed B.named
  have hlocks := B.notSynchronized
  subst hsz
  have hD := hD0.self (sz := s.heap.size)
  generalize hAe : va_A (cw cI cZ a σ) s.heap.size = A at hD hz ⊢
  have hA : ∀ q : Nat, s.heap.size ≤ q → A q := fun q h => by rw [← hAe]; exact Or.inr h
  clear hAe hD0
  obtain ⟨H, hHe⟩ : ∃ z, z = s.heap := ⟨_, rfl⟩
  obtain ⟨locs, hLe⟩ : ∃ z : List Loc, z = [] := ⟨_, rfl⟩
  have hS : va_S A s.heap H locs := by rw [hHe, hLe]; exact va_S.rf
  have hP : va_P (dC, dI) vwCl (cw cI cZ a σ) H := by rw [hHe]; exact hP
  refine W_ofH hHe hLe ?_
  clear hHe hLe
  have hl := lv_entry ([.ref (a 0), .int x1, .int x2, .int x3, .int x4, .int x5, .int x6]) (n := 7) (Nat.le_of_ble_eq_true rfl)
  rw [lg_entry_eq]
  generalize (lg_sl ([.ref (a 0), .int x1, .int x2, .int x3, .int x4, .int x5, .int x6]) ++ List.replicate (7 - (lg_sl ([.ref (a 0), .int x1, .int x2, .int x3, .int x4, .int x5, .int x6])).length) Slot.unset).toArray = ls at hl ⊢
  have hl : lv_has ls 7 [(0, .ref (a 0)), (1, .int x1), (2, .int x2), (3, .int x3), (4, .int x4), (5, .int x5), (6, .int x6)] := hl
  obtain ⟨R, hR⟩ : ∃ z, z = sp_thing σ x1 x2 x3 x4 x5 x6 := ⟨_, rfl⟩
  have hw := hR
  unfold sp_thing at hw
  refine lv_iload_n hx hb dX3_thing_0 rfl (lv_at hl 1 rfl) ?_
  refine lv_iconst (v := 5) hx hb dX3_thing_1 (by decide) ?_
  refine nx_call (vx_runS (As := [.int x1, .int (5 : Int32)]) (rest := []) ⟨hx, hb, hml, hown, hts⟩ (m_X3_needKnown l hl9 zk H.size x1 (5 : Int32)) (cwS 2 hts (gS k_263 k_264 k_20 k_265) rfl rfl rfl (by decide +kernel) ⟨Nat.le_of_ble_eq_true rfl, Nat.le_of_ble_eq_true rfl⟩) (pn_need hz hS hA) rfl rfl hl.1 rfl (lv_room (Nat.le_of_ble_eq_true rfl)) dX3_thing_2 ⟨Nat.le_of_ble_eq_true rfl, Nat.le_of_ble_eq_true rfl⟩) hP hD hS hA (fun c_2_1 => ?_) (fun c_2_1 H1 q9 ce hP1 hS1 hc1 hc2 hc3 => vx_out (fun x hx9 => (hEx x hx9).elim) hlocks hc1 hc2 hc3 (fun t ht hvm => ⟨_, hR.symm.trans (hw.trans (if_neg c_2_1)), ⟨rfl, by rw [ht]; exact hP1, va_K.moved hvm hK, hD⟩, hS1.F ht⟩) hS1.2.2 (Nat.le_of_ble_eq_true rfl) (Nat.le_of_ble_eq_true rfl))
  rw [if_pos c_2_1] at hw
  have hn_2 : vp_in x1 5 := okK_in c_2_1 (n := 5) (by decide) (by decide)
  refine lv_iload hx hb dX3_thing_5 (lv_at hl 4 rfl) ?_
  refine lv_bipush (v := 10) hx hb dX3_thing_7 (by decide) ?_
  refine nx_call (vx_runS (As := [.int x4, .int (10 : Int32)]) (rest := []) ⟨hx, hb, hml, hown, hts⟩ (m_X3_needKnown l hl9 zk H.size x4 (10 : Int32)) (cwS 2 hts (gS k_263 k_264 k_20 k_265) rfl rfl rfl (by decide +kernel) ⟨Nat.le_of_ble_eq_true rfl, Nat.le_of_ble_eq_true rfl⟩) (pn_need hz hS hA) rfl rfl hl.1 rfl (lv_room (Nat.le_of_ble_eq_true rfl)) dX3_thing_9 ⟨Nat.le_of_ble_eq_true rfl, Nat.le_of_ble_eq_true rfl⟩) hP hD hS hA (fun c_9_3 => ?_) (fun c_9_3 H1 q9 ce hP1 hS1 hc1 hc2 hc3 => vx_out (fun x hx9 => (hEx x hx9).elim) hlocks hc1 hc2 hc3 (fun t ht hvm => ⟨_, hR.symm.trans (hw.trans (if_neg c_9_3)), ⟨rfl, by rw [ht]; exact hP1, va_K.moved hvm hK, hD⟩, hS1.F ht⟩) hS1.2.2 (Nat.le_of_ble_eq_true rfl) (Nat.le_of_ble_eq_true rfl))
  rw [if_pos c_9_3] at hw
  have hn_4 : vp_in x4 10 := okK_in c_9_3 (n := 10) (by decide) (by decide)
  refine lv_iload hx hb dX3_thing_12 (lv_at hl 5 rfl) ?_
  refine lv_bipush (v := 20) hx hb dX3_thing_14 (by decide) ?_
  refine nx_call (vx_runS (As := [.int x5, .int (20 : Int32)]) (rest := []) ⟨hx, hb, hml, hown, hts⟩ (m_X3_needKnown l hl9 zk H.size x5 (20 : Int32)) (cwS 2 hts (gS k_263 k_264 k_20 k_265) rfl rfl rfl (by decide +kernel) ⟨Nat.le_of_ble_eq_true rfl, Nat.le_of_ble_eq_true rfl⟩) (pn_need hz hS hA) rfl rfl hl.1 rfl (lv_room (Nat.le_of_ble_eq_true rfl)) dX3_thing_16 ⟨Nat.le_of_ble_eq_true rfl, Nat.le_of_ble_eq_true rfl⟩) hP hD hS hA (fun c_16_5 => ?_) (fun c_16_5 H1 q9 ce hP1 hS1 hc1 hc2 hc3 => vx_out (fun x hx9 => (hEx x hx9).elim) hlocks hc1 hc2 hc3 (fun t ht hvm => ⟨_, hR.symm.trans (hw.trans (if_neg c_16_5)), ⟨rfl, by rw [ht]; exact hP1, va_K.moved hvm hK, hD⟩, hS1.F ht⟩) hS1.2.2 (Nat.le_of_ble_eq_true rfl) (Nat.le_of_ble_eq_true rfl))
  rw [if_pos c_16_5] at hw
  have hn_6 : vp_in x5 20 := okK_in c_16_5 (n := 20) (by decide) (by decide)
  refine lv_iload_n hx hb dX3_thing_19 rfl (lv_at hl 2 rfl) ?_
  refine lv_iconst (v := 0) hx hb dX3_thing_20 (by decide) ?_
  refine lv_ldc (own := RX3) (v := 999999) hx hb hown (hts _ (kc k_305)) dX3_thing_21 ?_
  refine nx_call (vx_runS (As := [.int x2, .int (0 : Int32), .int (999999 : Int32)]) (rest := []) ⟨hx, hb, hml, hown, hts⟩ (m_X3_needRange l hl9 zk H.size x2 (0 : Int32) (999999 : Int32)) (cwS 3 hts (gS k_182 k_183 k_20 k_184) rfl rfl rfl (by decide +kernel) ⟨Nat.le_of_ble_eq_true rfl, Nat.le_of_ble_eq_true rfl⟩) (pn_need hz hS hA) rfl rfl hl.1 rfl (lv_room (Nat.le_of_ble_eq_true rfl)) dX3_thing_23 ⟨Nat.le_of_ble_eq_true rfl, Nat.le_of_ble_eq_true rfl⟩) hP hD hS hA (fun c_23_7 => ?_) (fun c_23_7 H1 q9 ce hP1 hS1 hc1 hc2 hc3 => vx_out (fun x hx9 => (hEx x hx9).elim) hlocks hc1 hc2 hc3 (fun t ht hvm => ⟨_, hR.symm.trans (hw.trans (if_neg c_23_7)), ⟨rfl, by rw [ht]; exact hP1, va_K.moved hvm hK, hD⟩, hS1.F ht⟩) hS1.2.2 (Nat.le_of_ble_eq_true rfl) (Nat.le_of_ble_eq_true rfl))
  rw [if_pos c_23_7] at hw
  refine lv_iload hx hb dX3_thing_26 (lv_at hl 6 rfl) ?_
  refine lv_iconst (v := 0) hx hb dX3_thing_28 (by decide) ?_
  refine lv_aload_n hx hb dX3_thing_29 rfl (lv_at hl 0 rfl) ?_
  refine va_get (D := (dC, dI)) (ci := 3) (v := .int (σ 0 5)) (C := RX3) (T := TX3) (N := 6) hx hb hts (iwX3 _) hown hK hP 0 rfl rfl 5 (by decide) (hts _ (kc k_159)) (fun _ h9 => h9) rfl dX3_thing_30 ?_
  refine nx_call (vx_runS (As := [.int x6, .int (0 : Int32), .int (σ 0 5)]) (rest := []) ⟨hx, hb, hml, hown, hts⟩ (m_X3_needRange l hl9 zk H.size x6 (0 : Int32) (σ 0 5)) (cwS 3 hts (gS k_182 k_183 k_20 k_184) rfl rfl rfl (by decide +kernel) ⟨Nat.le_of_ble_eq_true rfl, Nat.le_of_ble_eq_true rfl⟩) (pn_need hz hS hA) rfl rfl hl.1 rfl (lv_room (Nat.le_of_ble_eq_true rfl)) dX3_thing_33 ⟨Nat.le_of_ble_eq_true rfl, Nat.le_of_ble_eq_true rfl⟩) hP hD hS hA (fun c_33_8 => ?_) (fun c_33_8 H1 q9 ce hP1 hS1 hc1 hc2 hc3 => vx_out (fun x hx9 => (hEx x hx9).elim) hlocks hc1 hc2 hc3 (fun t ht hvm => ⟨_, hR.symm.trans (hw.trans (if_neg c_33_8)), ⟨rfl, by rw [ht]; exact hP1, va_K.moved hvm hK, hD⟩, hS1.F ht⟩) hS1.2.2 (Nat.le_of_ble_eq_true rfl) (Nat.le_of_ble_eq_true rfl))
  rw [if_pos c_33_8] at hw
  refine lv_iload_n hx hb dX3_thing_36 rfl (lv_at hl 3 rfl) ?_
  refine lv_iload_n hx hb dX3_thing_37 rfl (lv_at hl 2 rfl) ?_
  refine vp_callSi (W.runS (As := [.int x2]) (rest := [.int x3]) ⟨hx, hb, hml, hown, hts⟩ (m_X3_checkLetter l zk x2) (cwS 1 hts (gS k_306 k_307 k_20 k_308) rfl rfl rfl (by decide +kernel) ⟨Nat.le_of_ble_eq_true rfl, Nat.le_of_ble_eq_true rfl⟩) (pz_T hz hS) rfl rfl hl.1 rfl (lv_room (Nat.le_of_ble_eq_true rfl)) dX3_thing_38 ⟨Nat.le_of_ble_eq_true rfl, Nat.le_of_ble_eq_true rfl⟩) (fun r hrr => ?_)
  subst hrr
  refine lv_icmp_ne (tgt := 48) hx hb dX3_thing_41 (by decide) (fun c_41_9 => ?_) (fun c_41_9 => ?_)
  · skip
    rw [if_neg c_41_9] at hw
    refine lv_iconst (v := 0) hx hb dX3_thing_48 (by decide) ?_
    exact nx_call (vx_runS (As := [.int (0 : Int32)]) (rest := []) ⟨hx, hb, hml, hown, hts⟩ (m_X3_needState l hl9 zk H.size (0 : Int32)) (cwS 1 hts (gS k_311 k_312 k_20 k_313) rfl rfl rfl (by decide +kernel) ⟨Nat.le_of_ble_eq_true rfl, Nat.le_of_ble_eq_true rfl⟩) (pn_need hz hS hA) rfl rfl hl.1 rfl (lv_room (Nat.le_of_ble_eq_true rfl)) dX3_thing_49 ⟨Nat.le_of_ble_eq_true rfl, Nat.le_of_ble_eq_true rfl⟩) hP hD hS hA (fun c_49_10 => absurd c_49_10 (by decide)) (fun c_49_10 H1 q9 ce hP1 hS1 hc1 hc2 hc3 => vx_out (fun x hx9 => (hEx x hx9).elim) hlocks hc1 hc2 hc3 (fun t ht hvm => ⟨_, hR.symm.trans hw, ⟨rfl, by rw [ht]; exact hP1, va_K.moved hvm hK, hD⟩, hS1.F ht⟩) hS1.2.2 (Nat.le_of_ble_eq_true rfl) (Nat.le_of_ble_eq_true rfl))
  · skip
    rw [if_pos c_41_9] at hw
    refine lv_iconst (v := 1) hx hb dX3_thing_44 (by decide) ?_
    refine lv_goto (tgt := 49) hx hb dX3_thing_45 (by decide) ?_
    refine nx_call (vx_runS (As := [.int (1 : Int32)]) (rest := []) ⟨hx, hb, hml, hown, hts⟩ (m_X3_needState l hl9 zk H.size (1 : Int32)) (cwS 1 hts (gS k_311 k_312 k_20 k_313) rfl rfl rfl (by decide +kernel) ⟨Nat.le_of_ble_eq_true rfl, Nat.le_of_ble_eq_true rfl⟩) (pn_need hz hS hA) rfl rfl hl.1 rfl (lv_room (Nat.le_of_ble_eq_true rfl)) dX3_thing_49 ⟨Nat.le_of_ble_eq_true rfl, Nat.le_of_ble_eq_true rfl⟩) hP hD hS hA (fun c_49_11 => ?_) (fun c_49_11 => absurd (by decide) c_49_11)
    refine lv_aload_n hx hb dX3_thing_52 rfl (lv_at hl 0 rfl) ?_
    refine va_get (D := (dC, dI)) (ci := 3) (v := .ref (a 7)) (C := RX3) (T := TX3) (N := 6) hx hb hts (iwX3 _) hown hK hP 0 rfl rfl 1 (by decide) (hts _ (kc k_155)) (fun _ h9 => h9) rfl dX3_thing_53 ?_
    refine lv_iload_n hx hb dX3_thing_56 rfl (lv_at hl 2 rfl) ?_
    refine vp_callSi (W.runV (As := [.int x2]) (rest := []) ⟨hx, hb, hml, hown, hts⟩ (m_X2_hasSerial l dC dI cI cZ a σ x2 hiv) (cwV 1 hts (gV k_330 k_331 k_332 k_22 k_333) rfl rfl rfl (by decide +kernel) ⟨Nat.le_of_ble_eq_true rfl, Nat.le_of_ble_eq_true rfl⟩) (pv_ro (q := (RX2, TX2, 12)) (q0 := 7) (ci := 2) hK hP rfl rfl) rfl rfl hl.1 rfl (lv_room (Nat.le_of_ble_eq_true rfl)) dX3_thing_57 ⟨Nat.le_of_ble_eq_true rfl, Nat.le_of_ble_eq_true rfl⟩) (fun r hrr => ?_)
    subst hrr
    refine lv_if_ne (tgt := 67) hx hb dX3_thing_60 (by decide) (fun c_60_12 => ?_) (fun c_60_12 => ?_)
    · skip
      rw [if_neg c_60_12] at hw
      refine lv_iconst (v := 0) hx hb dX3_thing_67 (by decide) ?_
      exact nx_call (vx_runS (As := [.int (0 : Int32)]) (rest := []) ⟨hx, hb, hml, hown, hts⟩ (m_X3_needState l hl9 zk H.size (0 : Int32)) (cwS 1 hts (gS k_311 k_312 k_20 k_313) rfl rfl rfl (by decide +kernel) ⟨Nat.le_of_ble_eq_true rfl, Nat.le_of_ble_eq_true rfl⟩) (pn_need hz hS hA) rfl rfl hl.1 rfl (lv_room (Nat.le_of_ble_eq_true rfl)) dX3_thing_68 ⟨Nat.le_of_ble_eq_true rfl, Nat.le_of_ble_eq_true rfl⟩) hP hD hS hA (fun c_68_13 => absurd c_68_13 (by decide)) (fun c_68_13 H1 q9 ce hP1 hS1 hc1 hc2 hc3 => vx_out (fun x hx9 => (hEx x hx9).elim) hlocks hc1 hc2 hc3 (fun t ht hvm => ⟨_, hR.symm.trans hw, ⟨rfl, by rw [ht]; exact hP1, va_K.moved hvm hK, hD⟩, hS1.F ht⟩) hS1.2.2 (Nat.le_of_ble_eq_true rfl) (Nat.le_of_ble_eq_true rfl))
    · skip
      rw [if_pos c_60_12] at hw
      refine lv_iconst (v := 1) hx hb dX3_thing_63 (by decide) ?_
      refine lv_goto (tgt := 68) hx hb dX3_thing_64 (by decide) ?_
      refine nx_call (vx_runS (As := [.int (1 : Int32)]) (rest := []) ⟨hx, hb, hml, hown, hts⟩ (m_X3_needState l hl9 zk H.size (1 : Int32)) (cwS 1 hts (gS k_311 k_312 k_20 k_313) rfl rfl rfl (by decide +kernel) ⟨Nat.le_of_ble_eq_true rfl, Nat.le_of_ble_eq_true rfl⟩) (pn_need hz hS hA) rfl rfl hl.1 rfl (lv_room (Nat.le_of_ble_eq_true rfl)) dX3_thing_68 ⟨Nat.le_of_ble_eq_true rfl, Nat.le_of_ble_eq_true rfl⟩) hP hD hS hA (fun c_68_14 => ?_) (fun c_68_14 => absurd (by decide) c_68_14)
      refine lv_aload_n hx hb dX3_thing_71 rfl (lv_at hl 0 rfl) ?_
      refine va_get (D := (dC, dI)) (ci := 3) (v := .ref (a 7)) (C := RX3) (T := TX3) (N := 6) hx hb hts (iwX3 _) hown hK hP 0 rfl rfl 1 (by decide) (hts _ (kc k_155)) (fun _ h9 => h9) rfl dX3_thing_72 ?_
      refine va_get (D := (dC, dI)) (ci := 2) (v := .int (σ 7 11)) (C := RX2) (T := TX2) (N := 12) hx hb hts (iwX2 _) hown hK hP 7 rfl rfl 11 (by decide) (hts _ (kc k_97)) (fun _ h9 => h9) rfl dX3_thing_75 ?_
      refine lv_bipush (v := 40) hx hb dX3_thing_78 (by decide) ?_
      refine lv_icmp_lt (tgt := 93) hx hb dX3_thing_80 (by decide) (fun c_80_15 => ?_) (fun c_80_15 => ?_)
      · skip
        rw [if_pos c_80_15] at hw
        have h640 : vp_in (σ 7 11) 40 := cnt_in40 hiv c_80_15
        refine lv_aload_n hx hb dX3_thing_93 rfl (lv_at hl 0 rfl) ?_
        refine va_get (D := (dC, dI)) (ci := 3) (v := .ref (a 7)) (C := RX3) (T := TX3) (N := 6) hx hb hts (iwX3 _) hown hK hP 0 rfl rfl 1 (by decide) (hts _ (kc k_155)) (fun _ h9 => h9) rfl dX3_thing_94 ?_
        refine lv_iload_n hx hb dX3_thing_97 rfl (lv_at hl 1 rfl) ?_
        refine lv_iload_n hx hb dX3_thing_98 rfl (lv_at hl 2 rfl) ?_
        refine lv_iload hx hb dX3_thing_99 (lv_at hl 4 rfl) ?_
        refine lv_iload hx hb dX3_thing_101 (lv_at hl 5 rfl) ?_
        refine lv_iload hx hb dX3_thing_103 (lv_at hl 6 rfl) ?_
        have hFc := fr_all hD hS hA
        refine va_calli (va_runV (As := [.int x1, .int x2, .int x4, .int x5, .int x6]) (rest := []) ⟨hx, hb, hml, hown, hts⟩ (m_X2_add l dC dI cI cZ a H.size σ x1 x2 x4 x5 x6 h640) (cwV 5 hts (gV k_350 k_351 k_352 k_22 k_353) rfl rfl rfl (by decide +kernel) ⟨Nat.le_of_ble_eq_true rfl, Nat.le_of_ble_eq_true rfl⟩) (pv_mu (q := (RX2, TX2, 12)) (q0 := 7) (ci := 2) hK hP hD rfl rfl) rfl rfl hl.1 rfl (lv_room (Nat.le_of_ble_eq_true rfl)) dX3_thing_105 ⟨Nat.le_of_ble_eq_true rfl, Nat.le_of_ble_eq_true rfl⟩) hS (fun q _ h => hFc q h) hFc (fun r σ9 t H1 locs ht hvm hw9 hB hz1 hk1 hS => ?_)
        obtain ⟨hP, hK1, hD1⟩ := hB
        rw [ht] at hP
        have hD := hD1.weaken (fun _ _ _ h => hFc _ h)
        clear hFc hD1 hK1
        obtain ⟨rfl, rfl⟩ : r = (sp_add σ x1 x2 x4 x5 x6).1 ∧ σ9 = (sp_add σ x1 x2 x4 x5 x6).2 := ⟨congrArg Prod.fst hw9, congrArg Prod.snd hw9⟩
        generalize H1 = H at hP hS ⊢
        refine vx_ret ?_
        refine W.widen (k := 8) (n := 48) (Nat.le_of_ble_eq_true rfl) (Nat.le_of_ble_eq_true rfl) ?_
        exact W.iret (v := (sp_add σ x1 x2 x4 x5 x6).1) hx hb hr (fun t ht hW => ⟨⟨(sp_add σ x1 x2 x4 x5 x6).1, (sp_add σ x1 x2 x4 x5 x6).2, rfl, hR.symm.trans hw, by rw [ht]; exact hP, va_K.moved hW.alike hK, hD⟩, hS.F ht⟩) hS.2.2 dX3_thing_108
      · skip
        rw [if_neg c_80_15] at hw
        exact vx_throwS (own := RX3) (cls := "java/lang/UnsupportedOperationException") (text := "no room for one more thing") (names := ["java/lang/RuntimeException", "java/lang/Exception"]) hx hb hl9 hown (by decide) (by decide) (hts _ (kc k_334)) (hts _ (kc k_31)) (hz.2.2.1 3 _ rfl) (vx_hat (fun w hw9 => hts w (kc (at_86 w hw9))) ab_86 (vx_c (va_Nw.use rfl (hz.2.2.2.1.1 _ (by decide))) (vx_c (va_Nw.use rfl (hz.2.2.2.1.2.1 _ (by decide))) (vx_c (va_Nw.use rfl (hz.2.2.2.1.2.1 _ (by decide))) (vx_c (va_Nw.use rfl (hz.2.2.2.1.2.1 _ (by decide))) vx_n))))) go_82_86 hz.1 hz.2.1 hS (hl.1.trans hml.symm) dX3_thing_83 dX3_thing_86 dX3_thing_87 dX3_thing_89 dX3_thing_92 (fun x hx9 => (hEx x hx9).elim) (Nat.le_of_ble_eq_true rfl) (Nat.le_of_ble_eq_true rfl) (Nat.le_of_ble_eq_true rfl) (Nat.le_of_ble_eq_true rfl) hlocks (fun t hvm h1 h2 => ⟨_, hR.symm.trans hw, ⟨rfl, hP.kept (fun k q hq => h2 q.1 ((hP k q hq).lt)), va_K.moved hvm hK, hD⟩, Nat.le_trans hS.1 h1, fun q g1 g2 => by rw [h2 q (Nat.lt_of_lt_of_le g1 hS.1)]; exact hS.2.1 q g1 g2⟩) hS.2.2 (Nat.le_of_ble_eq_true rfl) (Nat.le_of_ble_eq_true rfl)
set_option maxHeartbeats 4000000 in
set_option maxRecDepth 100000 in
theorem m_X3_letter (l : Launch) (hl9 : l.stackTraces = false) (dC : Nat → ClassId) (dI : Nat → Nat → Nat) (cI cZ : ClassId) (a : Nat → Nat) (zk : Nat → Nat) (sz : Nat) (σ : St) (x1 : Int32) (hiv : IV σ) : vx_Met l yX3_letter wsX3_letter ({ frames := 7, cells := 1, slots := 6, locals := 112 }) (pPu dC dI cI cZ a zk sz σ [.ref (a 0), .int x1]) (va_Qi (fun r σ9 => sp_letter σ x1 = .ok (r, σ9)) (bMu dC dI cI cZ a (va_A (cw cI cZ a σ) sz)) (va_A (cw cI cZ a σ) sz)) (vx_X (fun E : String => sp_letter σ x1 = .error E) (bXu dC dI cI cZ a (va_A (cw cI cZ a σ) sz) σ) (va_A (cw cI cZ a σ) sz)) 1 6 (va_A (cw cI cZ a σ) sz) := by
  refine vx_ofW (cc := cX3_letter) (maxL := 2) (ret := (some .int)) (by decide) rfl ?_
  intro p e s m args below meth c s₁ B hml hEx hv
  obtain ⟨rfl, hsz, hP, hK, hD0, hz⟩ := hv
  have hx := B.exec
  have hb := B.bytes
  have hr := B.returns
  have hts := atoms_spec (ws := wsX3_letter) B.pre
  have hown : s.vm.findClass RX3 = some m.cls := findClass_of_methodNamed B.named
  have hlocks := B.notSynchronized
  subst hsz
  have hD := hD0.self (sz := s.heap.size)
  generalize hAe : va_A (cw cI cZ a σ) s.heap.size = A at hD hz ⊢
  have hA : ∀ q : Nat, s.heap.size ≤ q → A q := fun q h => by rw [← hAe]; exact Or.inr h
  clear hAe hD0
  obtain ⟨H, hHe⟩ : ∃ z, z = s.heap := ⟨_, rfl⟩
  obtain ⟨locs, hLe⟩ : ∃ z : List Loc, z = [] := ⟨_, rfl⟩
  have hS : va_S A s.heap H locs := by rw [hHe, hLe]; exact va_S.rf
  have hP : va_P (dC, dI) vwCl (cw cI cZ a σ) H := by rw [hHe]; exact hP
  refine W_ofH hHe hLe ?_
  clear hHe hLe
  have hl := lv_entry ([.ref (a 0), .int x1]) (n := 2) (Nat.le_of_ble_eq_true rfl)
  rw [lg_entry_eq]
  generalize (lg_sl ([.ref (a 0), .int x1]) ++ List.replicate (2 - (lg_sl ([.ref (a 0), .int x1])).length) Slot.unset).toArray = ls at hl ⊢
  have hl : lv_has ls 2 [(0, .ref (a 0)), (1, .int x1)] := hl
  obtain ⟨R, hR⟩ : ∃ z, z = sp_letter σ x1 := ⟨_, rfl⟩
  have hw := hR
  unfold sp_letter at hw
  refine lv_iload_n hx hb dX3_letter_0 rfl (lv_at hl 1 rfl) ?_
  refine lv_iconst (v := 0) hx hb dX3_letter_1 (by decide) ?_
  refine lv_ldc (own := RX3) (v := 999999) hx hb hown (hts _ (kc k_305)) dX3_letter_2 ?_
  refine nx_call (vx_runS (As := [.int x1, .int (0 : Int32), .int (999999 : Int32)]) (rest := []) ⟨hx, hb, hml, hown, hts⟩ (m_X3_needRange l hl9 zk H.size x1 (0 : Int32) (999999 : Int32)) (cwS 3 hts (gS k_182 k_183 k_20 k_184) rfl rfl rfl (by decide +kernel) ⟨Nat.le_of_ble_eq_true rfl, Nat.le_of_ble_eq_true rfl⟩) (pn_need hz hS hA) rfl rfl hl.1 rfl (lv_room (Nat.le_of_ble_eq_true rfl)) dX3_letter_4 ⟨Nat.le_of_ble_eq_true rfl, Nat.le_of_ble_eq_true rfl⟩) hP hD hS hA (fun c_4_1 => ?_) (fun c_4_1 H1 q9 ce hP1 hS1 hc1 hc2 hc3 => vx_out (fun x hx9 => (hEx x hx9).elim) hlocks hc1 hc2 hc3 (fun t ht hvm => ⟨_, hR.symm.trans (hw.trans (if_neg c_4_1)), ⟨rfl, by rw [ht]; exact hP1, va_K.moved hvm hK, hD⟩, hS1.F ht⟩) hS1.2.2 (Nat.le_of_ble_eq_true rfl) (Nat.le_of_ble_eq_true rfl))
  rw [if_pos c_4_1] at hw
  refine lv_iload_n hx hb dX3_letter_7 rfl (lv_at hl 1 rfl) ?_
  refine vp_callSi (W.runS (As := [.int x1]) (rest := []) ⟨hx, hb, hml, hown, hts⟩ (m_X3_checkLetter l zk x1) (cwS 1 hts (gS k_306 k_307 k_20 k_308) rfl rfl rfl (by decide +kernel) ⟨Nat.le_of_ble_eq_true rfl, Nat.le_of_ble_eq_true rfl⟩) (pz_T hz hS) rfl rfl hl.1 rfl (lv_room (Nat.le_of_ble_eq_true rfl)) dX3_letter_8 ⟨Nat.le_of_ble_eq_true rfl, Nat.le_of_ble_eq_true rfl⟩) (fun r hrr => ?_)
  subst hrr
  refine vx_ret ?_
  refine W.widen (k := 1) (n := 6) (Nat.le_of_ble_eq_true rfl) (Nat.le_of_ble_eq_true rfl) ?_
  exact W.iret (v := sp_checkLetter x1) hx hb hr (fun t ht hW => ⟨⟨sp_checkLetter x1, σ, rfl, hR.symm.trans hw, by rw [ht]; exact hP, va_K.moved hW.alike hK, hD⟩, hS.F ht⟩) hS.2.2 dX3_letter_11
