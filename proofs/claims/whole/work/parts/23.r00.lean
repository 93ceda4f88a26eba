set_option maxHeartbeats 4000000 in
set_option maxRecDepth 100000 in
theorem m_X4_in (l : Launch) (x0 : Int32) (x1 : Int32) (x2 : Int32) : Met l yX4_in wsX4_in ({ frames := 0, cells := 0, slots := 0, locals := 0 }) (va_Pc [.int x0, .int x1, .int x2] (fun _ => True)) (vp_Si (fun r => r = rf_in x0 x1 x2)) 0 0 (fun _ => False) := by
  refine Met.ofW (cc := cX4_in) (maxL := 3) (ret := (some .boolean)) (by decide) rfl ?_
  intro p e s m args below meth c s₁ B hml hv
  obtain ⟨rfl, -⟩ := hv
  have hx := B.exec
  have hb := B.bytes
  have hr := B.returns
  have hts := atoms_spec (ws := wsX4_in) B.pre
  have hown : s.vm.findClass RX4 = some m.cls := findClass_of_methodNamed B.named
  have hlocks := B.notSynchronized
  have hl := lv_entry ([.int x0, .int x1, .int x2]) (n := 3) (Nat.le_of_ble_eq_true rfl)
  rw [lg_entry_eq]
  generalize (lg_sl ([.int x0, .int x1, .int x2]) ++ List.replicate (3 - (lg_sl ([.int x0, .int x1, .int x2])).length) Slot.unset).toArray = ls at hl ⊢
  have hl : lv_has ls 3 [(0, .int x0), (1, .int x1), (2, .int x2)] := hl
  obtain ⟨R, hR⟩ : ∃ z, z = rf_in x0 x1 x2 := ⟨_, rfl⟩
  have hw := hR
  unfold rf_in at hw
  refine lv_iload_n hx hb dX4_in_0 rfl (lv_at hl 0 rfl) ?_
  refine lv_iload_n hx hb dX4_in_1 rfl (lv_at hl 1 rfl) ?_
  refine lv_icmp_lt (tgt := 14) hx hb dX4_in_2 (by decide) (fun c_2_1 => ?_) (fun c_2_1 => ?_)
  · skip
    rw [if_pos c_2_1] at hw
    refine lv_iconst (v := 0) hx hb dX4_in_14 (by decide) ?_
    exact W.zret (v := (0 : Int32)) (ty := .boolean) hx hb hr (by decide) (fun t ht hW => ⟨_, rfl, hw.symm.trans hR, ht⟩) (fun _ h => by cases h) dX4_in_15
  · skip
    rw [if_neg c_2_1] at hw
    refine lv_iload_n hx hb dX4_in_5 rfl (lv_at hl 0 rfl) ?_
    refine lv_iload_n hx hb dX4_in_6 rfl (lv_at hl 2 rfl) ?_
    refine lv_icmp_gt (tgt := 14) hx hb dX4_in_7 (by decide) (fun c_7_2 => ?_) (fun c_7_2 => ?_)
    · skip
      rw [if_pos c_7_2] at hw
      refine lv_iconst (v := 0) hx hb dX4_in_14 (by decide) ?_
      exact W.zret (v := (0 : Int32)) (ty := .boolean) hx hb hr (by decide) (fun t ht hW => ⟨_, rfl, hw.symm.trans hR, ht⟩) (fun _ h => by cases h) dX4_in_15
    · skip
      rw [if_neg c_7_2] at hw
      refine lv_iconst (v := 1) hx hb dX4_in_10 (by decide) ?_
      refine lv_goto (tgt := 15) hx hb dX4_in_11 (by decide) ?_
      exact W.zret (v := (1 : Int32)) (ty := .boolean) hx hb hr (by decide) (fun t ht hW => ⟨_, rfl, hw.symm.trans hR, ht⟩) (fun _ h => by cases h) dX4_in_15
set_option maxHeartbeats 4000000 in
set_option maxRecDepth 100000 in
theorem m_X4_isThing (l : Launch) (dC : Nat → ClassId) (dI : Nat → Nat → Nat) (cI cZ : ClassId) (a : Nat → Nat) (σ : St) (x1 : Int32) : Met l yX4_isThing wsX4_isThing ({ frames := 1, cells := 0, slots := 0, locals := 22 }) (pRr dC dI cI cZ a σ [.ref (a 0), .int x1]) (vp_Si (fun r => r = rf_isThing σ x1)) 0 0 (fun _ => False) := by
  refine Met.ofW (cc := cX4_isThing) (maxL := 2) (ret := (some .boolean)) (by decide) rfl ?_
  intro p e s m args below meth c s₁ B hml hv
  obtain ⟨rfl, hP, hK⟩ := hv
  have hx := B.exec
  have hb := B.bytes
  have hr := B.returns
  have hts := atoms_spec (ws := wsX4_isThing) B.pre
  have hown : s.vm.findClass RX4 = some m.cls := findClass_of_methodNamed B.named
  have hlocks := B.notSynchronized
  have hl := lv_entry ([.ref (a 0), .int x1]) (n := 2) (Nat.le_of_ble_eq_true rfl)
  rw [lg_entry_eq]
  generalize (lg_sl ([.ref (a 0), .int x1]) ++ List.replicate (2 - (lg_sl ([.ref (a 0), .int x1])).length) Slot.unset).toArray = ls at hl ⊢
  have hl : lv_has ls 2 [(0, .ref (a 0)), (1, .int x1)] := hl
  obtain ⟨R, hR⟩ : ∃ z, z = rf_isThing σ x1 := ⟨_, rfl⟩
  have hw := hR
  unfold rf_isThing at hw
  refine lv_iload_n hx hb dX4_isThing_0 rfl (lv_at hl 1 rfl) ?_
  refine lv_iconst (v := 0) hx hb dX4_isThing_1 (by decide) ?_
  refine lv_aload_n hx hb dX4_isThing_2 rfl (lv_at hl 0 rfl) ?_
  refine va_get (D := (dC, dI)) (ci := 4) (v := .int (σ 0 7)) (C := RX4) (T := TX4) (N := 23) hx hb hts (iwX4 _) hown hK hP 0 rfl rfl 7 (by decide) (hts _ (kc k_578)) (fun _ h9 => h9) rfl dX4_isThing_3 ?_
  refine lv_iconst (v := 1) hx hb dX4_isThing_6 (by decide) ?_
  refine lv_isub hx hb dX4_isThing_7 ?_
  refine vp_callSi (W.runS (As := [.int x1, .int (0 : Int32), .int ((σ 0 7) - (1 : Int32))]) (rest := []) ⟨hx, hb, hml, hown, hts⟩ (m_X4_in l x1 (0 : Int32) ((σ 0 7) - (1 : Int32))) (cwS 3 hts (gS k_658 k_659 k_24 k_660) rfl rfl rfl (by decide +kernel) ⟨Nat.le_of_ble_eq_true rfl, Nat.le_of_ble_eq_true rfl⟩) ps_0 rfl rfl hl.1 rfl (lv_room (Nat.le_of_ble_eq_true rfl)) dX4_isThing_8 ⟨Nat.le_of_ble_eq_true rfl, Nat.le_of_ble_eq_true rfl⟩) (fun r hrr => ?_)
  subst hrr
  exact W.zret (v := rf_in x1 (0 : Int32) ((σ 0 7) - (1 : Int32))) (ty := .boolean) hx hb hr (rf_in_b _ _ _) (fun t ht hW => ⟨_, rfl, hw.symm.trans hR, ht⟩) (fun _ h => by cases h) dX4_isThing_11
set_option maxHeartbeats 4000000 in
set_option maxRecDepth 100000 in
theorem m_X4_isTest (l : Launch) (x0 : Int32) (x1 : Int32) : Met l yX4_isTest wsX4_isTest ({ frames := 1, cells := 0, slots := 0, locals := 22 }) (va_Pc [.int x0, .int x1] (fun _ => True)) (vp_Si (fun r => r = rf_isTest x0 x1)) 0 0 (fun _ => False) := by
  refine Met.ofW (cc := cX4_isTest) (maxL := 2) (ret := (some .boolean)) (by decide) rfl ?_
  intro p e s m args below meth c s₁ B hml hv
  obtain ⟨rfl, -⟩ := hv
  have hx := B.exec
  have hb := B.bytes
  have hr := B.returns
  have hts := atoms_spec (ws := wsX4_isTest) B.pre
  have hown : s.vm.findClass RX4 = some m.cls := findClass_of_methodNamed B.named
  have hlocks := B.notSynchronized
  have hl := lv_entry ([.int x0, .int x1]) (n := 2) (Nat.le_of_ble_eq_true rfl)
  rw [lg_entry_eq]
  generalize (lg_sl ([.int x0, .int x1]) ++ List.replicate (2 - (lg_sl ([.int x0, .int x1])).length) Slot.unset).toArray = ls at hl ⊢
  have hl : lv_has ls 2 [(0, .int x0), (1, .int x1)] := hl
  obtain ⟨R, hR⟩ : ∃ z, z = rf_isTest x0 x1 := ⟨_, rfl⟩
  have hw := hR
  unfold rf_isTest at hw
  refine lv_iload_n hx hb dX4_isTest_0 rfl (lv_at hl 0 rfl) ?_
  refine lv_iconst (v := 0) hx hb dX4_isTest_1 (by decide) ?_
  refine lv_iconst (v := 4) hx hb dX4_isTest_2 (by decide) ?_
  refine vp_callSi (W.runS (As := [.int x0, .int (0 : Int32), .int (4 : Int32)]) (rest := []) ⟨hx, hb, hml, hown, hts⟩ (m_X4_in l x0 (0 : Int32) (4 : Int32)) (cwS 3 hts (gS k_658 k_659 k_24 k_660) rfl rfl rfl (by decide +kernel) ⟨Nat.le_of_ble_eq_true rfl, Nat.le_of_ble_eq_true rfl⟩) ps_0 rfl rfl hl.1 rfl (lv_room (Nat.le_of_ble_eq_true rfl)) dX4_isTest_3 ⟨Nat.le_of_ble_eq_true rfl, Nat.le_of_ble_eq_true rfl⟩) (fun r hrr => ?_)
  subst hrr
  refine lv_if_eq (tgt := 22) hx hb dX4_isTest_6 (by decide) (fun c_6_1 => ?_) (fun c_6_1 => ?_)
  · skip
    rw [if_pos c_6_1] at hw
    refine lv_iconst (v := 0) hx hb dX4_isTest_22 (by decide) ?_
    exact W.zret (v := (0 : Int32)) (ty := .boolean) hx hb hr (by decide) (fun t ht hW => ⟨_, rfl, hw.symm.trans hR, ht⟩) (fun _ h => by cases h) dX4_isTest_23
  · skip
    rw [if_neg c_6_1] at hw
    refine lv_iload_n hx hb dX4_isTest_9 rfl (lv_at hl 1 rfl) ?_
    refine lv_iconst (v := 0) hx hb dX4_isTest_10 (by decide) ?_
    refine lv_iconst (v := 2) hx hb dX4_isTest_11 (by decide) ?_
    refine vp_callSi (W.runS (As := [.int x1, .int (0 : Int32), .int (2 : Int32)]) (rest := []) ⟨hx, hb, hml, hown, hts⟩ (m_X4_in l x1 (0 : Int32) (2 : Int32)) (cwS 3 hts (gS k_658 k_659 k_24 k_660) rfl rfl rfl (by decide +kernel) ⟨Nat.le_of_ble_eq_true rfl, Nat.le_of_ble_eq_true rfl⟩) ps_0 rfl rfl hl.1 rfl (lv_room (Nat.le_of_ble_eq_true rfl)) dX4_isTest_12 ⟨Nat.le_of_ble_eq_true rfl, Nat.le_of_ble_eq_true rfl⟩) (fun r hrr => ?_)
    subst hrr
    refine lv_if_eq (tgt := 22) hx hb dX4_isTest_15 (by decide) (fun c_15_2 => ?_) (fun c_15_2 => ?_)
    · skip
      rw [if_pos c_15_2] at hw
      refine lv_iconst (v := 0) hx hb dX4_isTest_22 (by decide) ?_
      exact W.zret (v := (0 : Int32)) (ty := .boolean) hx hb hr (by decide) (fun t ht hW => ⟨_, rfl, hw.symm.trans hR, ht⟩) (fun _ h => by cases h) dX4_isTest_23
    · skip
      rw [if_neg c_15_2] at hw
      refine lv_iconst (v := 1) hx hb dX4_isTest_18 (by decide) ?_
      refine lv_goto (tgt := 23) hx hb dX4_isTest_19 (by decide) ?_
      exact W.zret (v := (1 : Int32)) (ty := .boolean) hx hb hr (by decide) (fun t ht hW => ⟨_, rfl, hw.symm.trans hR, ht⟩) (fun _ h => by cases h) dX4_isTest_23
set_option maxHeartbeats 4000000 in
set_option maxRecDepth 100000 in
theorem m_X4_isSerial (l : Launch) (x0 : Int32) : Met l yX4_isSerial wsX4_isSerial ({ frames := 1, cells := 0, slots := 0, locals := 22 }) (va_Pc [.int x0] (fun _ => True)) (vp_Si (fun r => r = rf_isSerial x0)) 0 0 (fun _ => False) := by
  refine Met.ofW (cc := cX4_isSerial) (maxL := 1) (ret := (some .boolean)) (by decide) rfl ?_
  intro p e s m args below meth c s₁ B hml hv
  obtain ⟨rfl, -⟩ := hv
  have hx := B.exec
  have hb := B.bytes
  have hr := B.returns
  have hts := atoms_spec (ws := wsX4_isSerial) B.pre
  have hown : s.vm.findClass RX4 = some m.cls := findClass_of_methodNamed B.named
  have hlocks := B.notSynchronized
  have hl := lv_entry ([.int x0]) (n := 1) (Nat.le_of_ble_eq_true rfl)
  rw [lg_entry_eq]
  generalize (lg_sl ([.int x0]) ++ List.replicate (1 - (lg_sl ([.int x0])).length) Slot.unset).toArray = ls at hl ⊢
  have hl : lv_has ls 1 [(0, .int x0)] := hl
  obtain ⟨R, hR⟩ : ∃ z, z = rf_isSerial x0 := ⟨_, rfl⟩
  have hw := hR
  unfold rf_isSerial at hw
  refine lv_iload_n hx hb dX4_isSerial_0 rfl (lv_at hl 0 rfl) ?_
  refine lv_iconst (v := 0) hx hb dX4_isSerial_1 (by decide) ?_
  refine lv_ldc (own := RX4) (v := 999999) hx hb hown (hts _ (kc k_679)) dX4_isSerial_2 ?_
  refine vp_callSi (W.runS (As := [.int x0, .int (0 : Int32), .int (999999 : Int32)]) (rest := []) ⟨hx, hb, hml, hown, hts⟩ (m_X4_in l x0 (0 : Int32) (999999 : Int32)) (cwS 3 hts (gS k_658 k_659 k_24 k_660) rfl rfl rfl (by decide +kernel) ⟨Nat.le_of_ble_eq_true rfl, Nat.le_of_ble_eq_true rfl⟩) ps_0 rfl rfl hl.1 rfl (lv_room (Nat.le_of_ble_eq_true rfl)) dX4_isSerial_4 ⟨Nat.le_of_ble_eq_true rfl, Nat.le_of_ble_eq_true rfl⟩) (fun r hrr => ?_)
  subst hrr
  exact W.zret (v := rf_in x0 (0 : Int32) (999999 : Int32)) (ty := .boolean) hx hb hr (rf_in_b _ _ _) (fun t ht hW => ⟨_, rfl, hw.symm.trans hR, ht⟩) (fun _ h => by cases h) dX4_isSerial_7
set_option maxHeartbeats 4000000 in
set_option maxRecDepth 100000 in
theorem m_X4_thrown (l : Launch) (dC : Nat → ClassId) (dI : Nat → Nat → Nat) (cI cZ : ClassId) (a : Nat → Nat) (σ : St)  : Met l yX4_thrown wsX4_thrown ({ frames := 0, cells := 0, slots := 0, locals := 0 }) (pRr dC dI cI cZ a σ [.ref (a 0)]) (vp_Si (fun r => r = rf_thrown σ )) 0 0 (fun _ => False) := by
  refine Met.ofW (cc := cX4_thrown) (maxL := 1) (ret := (some .int)) (by decide) rfl ?_
  intro p e s m args below meth c s₁ B hml hv
  obtain ⟨rfl, hP, hK⟩ := hv
  have hx := B.exec
  have hb := B.bytes
  have hr := B.returns
  have hts := atoms_spec (ws := wsX4_thrown) B.pre
  have hown : s.vm.findClass RX4 = some m.cls := findClass_of_methodNamed B.named
  have hlocks := B.notSynchronized
  have hl := lv_entry ([.ref (a 0)]) (n := 1) (Nat.le_of_ble_eq_true rfl)
  rw [lg_entry_eq]
  generalize (lg_sl ([.ref (a 0)]) ++ List.replicate (1 - (lg_sl ([.ref (a 0)])).length) Slot.unset).toArray = ls at hl ⊢
  have hl : lv_has ls 1 [(0, .ref (a 0))] := hl
  obtain ⟨R, hR⟩ : ∃ z, z = rf_thrown σ  := ⟨_, rfl⟩
  have hw := hR
  unfold rf_thrown at hw
  refine lv_aload_n hx hb dX4_thrown_0 rfl (lv_at hl 0 rfl) ?_
  refine va_get (D := (dC, dI)) (ci := 4) (v := .int (σ 0 0)) (C := RX4) (T := TX4) (N := 23) hx hb hts (iwX4 _) hown hK hP 0 rfl rfl 0 (by decide) (hts _ (kc k_571)) (fun _ h9 => h9) rfl dX4_thrown_1 ?_
  exact W.iret (v := σ 0 0) hx hb hr (fun t ht hW => ⟨_, rfl, hw.symm.trans hR, ht⟩) (fun _ h => by cases h) dX4_thrown_4
set_option maxHeartbeats 4000000 in
set_option maxRecDepth 100000 in
theorem m_X4_throwing (l : Launch) (dC : Nat → ClassId) (dI : Nat → Nat → Nat) (cI cZ : ClassId) (a : Nat → Nat) (sz : Nat) (σ : St) (x1 : Int32) (x2 : Int32) (x3 : Int32) (x4 : Int32) : Met l yX4_throwing wsX4_throwing ({ frames := 0, cells := 0, slots := 0, locals := 0 }) (pMr dC dI cI cZ a sz σ [.ref (a 0), .int x1, .int x2, .int x3, .int x4]) (va_Qi (fun r σ9 => (r, σ9) = rf_throwing σ x1 x2 x3 x4) (bMr dC dI cI cZ a (va_A (rw cI cZ a σ) sz)) (va_A (rw cI cZ a σ) sz)) 0 0 (va_A (rw cI cZ a σ) sz) := by
  refine Met.ofW (cc := cX4_throwing) (maxL := 5) (ret := (some .boolean)) (by decide) rfl ?_
  intro p e s m args below meth c s₁ B hml hv
  obtain ⟨rfl, hsz, hP, hK, hD0⟩ := hv
  have hx := B.exec
  have hb := B.bytes
  have hr := B.returns
  have hts := atoms_spec (ws := wsX4_throwing) B.pre
  have hown : s.vm.findClass RX4 = some m.cls := findClass_of_methodNamed B.named
  have hlocks := B.notSynchronized
  subst hsz
  have hD := hD0.self (sz := s.heap.size)
  generalize hAe : va_A (rw cI cZ a σ) s.heap.size = A at hD ⊢
  have hA : ∀ q : Nat, s.heap.size ≤ q → A q := fun q h => by rw [← hAe]; exact Or.inr h
  clear hAe hD0
  obtain ⟨H, hHe⟩ : ∃ z, z = s.heap := ⟨_, rfl⟩
  obtain ⟨locs, hLe⟩ : ∃ z : List Loc, z = [] := ⟨_, rfl⟩
  have hS : va_S A s.heap H locs := by rw [hHe, hLe]; exact va_S.rf
  have hP : va_P (dC, dI) vwCl (rw cI cZ a σ) H := by rw [hHe]; exact hP
  refine W_ofH hHe hLe ?_
  clear hHe hLe
  have hl := lv_entry ([.ref (a 0), .int x1, .int x2, .int x3, .int x4]) (n := 5) (Nat.le_of_ble_eq_true rfl)
  rw [lg_entry_eq]
  generalize (lg_sl ([.ref (a 0), .int x1, .int x2, .int x3, .int x4]) ++ List.replicate (5 - (lg_sl ([.ref (a 0), .int x1, .int x2, .int x3, .int x4])).length) Slot.unset).toArray = ls at hl ⊢
  have hl : lv_has ls 5 [(0, .ref (a 0)), (1, .int x1), (2, .int x2), (3, .int x3), (4, .int x4)] := hl
  obtain ⟨R, hR⟩ : ∃ z, z = rf_throwing σ x1 x2 x3 x4 := ⟨_, rfl⟩
  have hw := hR
  unfold rf_throwing at hw
  refine lv_aload_n hx hb dX4_throwing_0 rfl (lv_at hl 0 rfl) ?_
  refine lv_iload_n hx hb dX4_throwing_1 rfl (lv_at hl 1 rfl) ?_
  obtain ⟨b_1, hb_1⟩ : ∃ z : Int32, z = (if x1 = 0 then (if x2 = 0 then (if x3 = 0 then (if x4 = 0 then (0 : Int32) else (4 : Int32)) else (3 : Int32)) else (2 : Int32)) else (1 : Int32)) := ⟨_, rfl⟩
  replace hw : R = (let σ_2 : St := su σ 0 0 b_1; if (σ_2 0 0) ≤ 0 then ((0 : Int32), σ_2) else ((1 : Int32), σ_2)) := by subst hb_1; exact hw
  have J_1 : ∀ (v9 : Int32) (ls : Array Slot), b_1 = v9 → lv_has ls 5 [(0, .ref (a 0)), (1, .int x1), (2, .int x2), (3, .int x3), (4, .int x4)] → W p l e (headSpec wsX4_throwing ({ frames := 0, cells := 0, slots := 0, locals := 0 })).room s m [.ref (a 0), .int x1, .int x2, .int x3, .int x4].toArray below meth c H locs 0 0 (MQ below (va_Qi (fun r σ9 => (r, σ9) = rf_throwing σ x1 x2 x3 x4) (bMr dC dI cI cZ a A) A) [.ref (a 0), .int x1, .int x2, .int x3, .int x4].toArray s 0 0 A) (F0 m 35 ls [.int v9, .ref (a 0)]) := by
    intro v9 ls hv9 hl
    subst hv9
    refine va_put (D := (dC, dI)) (ci := 4) (v := .int b_1) (ty := .int) (C := RX4) (T := TX4) (N := 23) hx hb hts (iwX4 _) tyX4 tyX4_ok nmX4 hown hK hP hD hS 0 rfl rfl 0 (by decide) (hts _ (kc k_571)) (fun _ h9 => h9) rfl (by decide +kernel) rfl rfl (Nat.le_of_ble_eq_true rfl) dX4_throwing_35 (fun H locs hP hD hS => ?_)
    obtain ⟨σ_2, eσ_2⟩ : ∃ z : St, z = su σ 0 0 b_1 := ⟨_, rfl⟩
    replace hP := P_rw_0_0 hP
    replace hD := D_rw_0_0 hD
    rw [← eσ_2] at hP hD
    replace hw : R = (if (σ_2 0 0) ≤ 0 then ((0 : Int32), σ_2) else ((1 : Int32), σ_2)) := by subst eσ_2; exact hw
    refine lv_aload_n hx hb dX4_throwing_38 rfl (lv_at hl 0 rfl) ?_
    refine va_get (D := (dC, dI)) (ci := 4) (v := .int (σ_2 0 0)) (C := RX4) (T := TX4) (N := 23) hx hb hts (iwX4 _) hown hK hP 0 rfl rfl 0 (by decide) (hts _ (kc k_571)) (fun _ h9 => h9) rfl dX4_throwing_39 ?_
    refine lv_if_le (tgt := 49) hx hb dX4_throwing_42 (by decide) (fun c_42_3 => ?_) (fun c_42_3 => ?_)
    · skip
      rw [if_pos c_42_3] at hw
      refine lv_iconst (v := 0) hx hb dX4_throwing_49 (by decide) ?_
      exact W.zret (v := (0 : Int32)) (ty := .boolean) hx hb hr (by decide) (fun t ht hW => ⟨⟨(0 : Int32), σ_2, rfl, hw.symm.trans hR, by rw [ht]; exact hP, va_K.moved hW.alike hK, hD⟩, hS.F ht⟩) hS.2.2 dX4_throwing_50
    · skip
      rw [if_neg c_42_3] at hw
      refine lv_iconst (v := 1) hx hb dX4_throwing_45 (by decide) ?_
      refine lv_goto (tgt := 50) hx hb dX4_throwing_46 (by decide) ?_
      exact W.zret (v := (1 : Int32)) (ty := .boolean) hx hb hr (by decide) (fun t ht hW => ⟨⟨(1 : Int32), σ_2, rfl, hw.symm.trans hR, by rw [ht]; exact hP, va_K.moved hW.alike hK, hD⟩, hS.F ht⟩) hS.2.2 dX4_throwing_50
  have hq_1 := hb_1
  refine lv_if_eq (tgt := 9) hx hb dX4_throwing_2 (by decide) (fun c_2_4 => ?_) (fun c_2_4 => ?_)
  · skip
    rw [if_pos c_2_4] at hq_1
    refine lv_iload_n hx hb dX4_throwing_9 rfl (lv_at hl 2 rfl) ?_
    refine lv_if_eq (tgt := 17) hx hb dX4_throwing_10 (by decide) (fun c_10_5 => ?_) (fun c_10_5 => ?_)
    · skip
      rw [if_pos c_10_5] at hq_1
      refine lv_iload_n hx hb dX4_throwing_17 rfl (lv_at hl 3 rfl) ?_
      refine lv_if_eq (tgt := 25) hx hb dX4_throwing_18 (by decide) (fun c_18_6 => ?_) (fun c_18_6 => ?_)
      · skip
        rw [if_pos c_18_6] at hq_1
        refine lv_iload hx hb dX4_throwing_25 (lv_at hl 4 rfl) ?_
        refine lv_if_eq (tgt := 34) hx hb dX4_throwing_27 (by decide) (fun c_27_7 => ?_) (fun c_27_7 => ?_)
        · skip
          rw [if_pos c_27_7] at hq_1
          refine lv_iconst (v := 0) hx hb dX4_throwing_34 (by decide) ?_
          exact J_1 _ ls hq_1 (lv_sub hl [0, 1, 2, 3, 4] rfl)
        · skip
          rw [if_neg c_27_7] at hq_1
          refine lv_iconst (v := 4) hx hb dX4_throwing_30 (by decide) ?_
          refine lv_goto (tgt := 35) hx hb dX4_throwing_31 (by decide) ?_
          exact J_1 _ ls hq_1 (lv_sub hl [0, 1, 2, 3, 4] rfl)
      · skip
        rw [if_neg c_18_6] at hq_1
        refine lv_iconst (v := 3) hx hb dX4_throwing_21 (by decide) ?_
        refine lv_goto (tgt := 35) hx hb dX4_throwing_22 (by decide) ?_
        exact J_1 _ ls hq_1 (lv_sub hl [0, 1, 2, 3, 4] rfl)
    · skip
      rw [if_neg c_10_5] at hq_1
      refine lv_iconst (v := 2) hx hb dX4_throwing_13 (by decide) ?_
      refine lv_goto (tgt := 35) hx hb dX4_throwing_14 (by decide) ?_
      exact J_1 _ ls hq_1 (lv_sub hl [0, 1, 2, 3, 4] rfl)
  · skip
    rw [if_neg c_2_4] at hq_1
    refine lv_iconst (v := 1) hx hb dX4_throwing_5 (by decide) ?_
    refine lv_goto (tgt := 35) hx hb dX4_throwing_6 (by decide) ?_
    exact J_1 _ ls hq_1 (lv_sub hl [0, 1, 2, 3, 4] rfl)
