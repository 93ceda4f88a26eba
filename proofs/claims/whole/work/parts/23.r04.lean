set_option maxHeartbeats 4000000 in
set_option maxRecDepth 100000 in
theorem m_X4_ends (l : Launch) (dC : Nat → ClassId) (dI : Nat → Nat → Nat) (cI cZ : ClassId) (a : Nat → Nat) (sz : Nat) (σ : St) (x1 : Int32) (hiv : IVr σ) : Met l yX4_ends wsX4_ends ({ frames := 2, cells := 0, slots := 0, locals := 43 }) (pMr dC dI cI cZ a sz σ [.ref (a 0), .int x1]) (va_Qi (fun r σ9 => (r, σ9) = rf_ends σ x1) (bMr dC dI cI cZ a (va_A (rw cI cZ a σ) sz)) (va_A (rw cI cZ a σ) sz)) 0 0 (va_A (rw cI cZ a σ) sz) := by
  refine Met.ofW (cc := cX4_ends) (maxL := 3) (ret := (some .int)) (by decide) rfl ?_
  intro p e s m args below meth c s₁ B hml hv
  obtain ⟨rfl, hsz, hP, hK, hD0⟩ := hv
  have hx := B.exec
  have hb := B.bytes
  have hr := B.returns
  have hts := atoms_spec (ws := wsX4_ends) B.pre
  have hown : s.vm.findClass RX4 = some m.cls := findClass_of_methodNamed B.named
  have hlocks := B.notSynchronized
  subst hsz
  have hD := hD0.self (sz := s.heap.size)
  generalize hAe : va_A (rw cI cZ a σ) s.heap.size = A at hD ⊢
  have hA : ∀ q : Nat, s.heap.size ≤ q → A q := fun q h => by rw [← hAe]; exact Or.inr h
  clear hAe hD0
  obtain ⟨H, hHe⟩ : ∃ z, z = s.heap := ⟨_, rfl⟩
  obtain ⟨locs, hLe⟩ : ∃ z : List Loc, z = [] := ⟨_, rfl⟩
  have hS : va_S A s.heap H locs := by rw [hHe, hLe]; exact va_S.rf
  have hP : va_P (dC, dI) vwCl (rw cI cZ a σ) H := by rw [hHe]; exact hP
  refine W_ofH hHe hLe ?_
  clear hHe hLe
  have hl := lv_entry ([.ref (a 0), .int x1]) (n := 3) (Nat.le_of_ble_eq_true rfl)
  rw [lg_entry_eq]
  generalize (lg_sl ([.ref (a 0), .int x1]) ++ List.replicate (3 - (lg_sl ([.ref (a 0), .int x1])).length) Slot.unset).toArray = ls at hl ⊢
  have hl : lv_has ls 3 [(0, .ref (a 0)), (1, .int x1)] := hl
  obtain ⟨R, hR⟩ : ∃ z, z = rf_ends σ x1 := ⟨_, rfl⟩
  have hw := hR
  unfold rf_ends at hw
  refine lv_aload_n hx hb dX4_ends_0 rfl (lv_at hl 0 rfl) ?_
  refine lv_aload_n hx hb dX4_ends_1 rfl (lv_at hl 0 rfl) ?_
  refine lv_iload_n hx hb dX4_ends_2 rfl (lv_at hl 1 rfl) ?_
  refine vp_callSi (W.runV (As := [.int x1]) (rest := [.ref (a 0)]) ⟨hx, hb, hml, hown, hts⟩ (m_X4_isThing l dC dI cI cZ a σ x1) (cwV 1 hts (gV k_691 k_693 k_12 k_24 k_694) rfl rfl rfl (by decide +kernel) ⟨Nat.le_of_ble_eq_true rfl, Nat.le_of_ble_eq_true rfl⟩) (pv_rr (q := (RX4, TX4, 23)) (q0 := 0) (ci := 4) hK hP rfl rfl) rfl rfl hl.1 rfl (lv_room (Nat.le_of_ble_eq_true rfl)) dX4_ends_3 ⟨Nat.le_of_ble_eq_true rfl, Nat.le_of_ble_eq_true rfl⟩) (fun r hrr => ?_)
  subst hrr
  obtain ⟨b_1, hb_1⟩ : ∃ z : Int32, z = (if (rf_isThing σ x1) = 0 then (1 : Int32) else (0 : Int32)) := ⟨_, rfl⟩
  replace hw : R = (let σ_2 : St := (rf_throwing σ b_1 (0 : Int32) (0 : Int32) (0 : Int32)).2; if ((rf_throwing σ b_1 (0 : Int32) (0 : Int32) (0 : Int32)).1) = 0 then (if (rf_endOf σ_2 x1) = (1000000 : Int32) then ((-1 : Int32), σ_2) else (rf_endOf σ_2 x1, σ_2)) else ((0 : Int32), σ_2)) := by subst hb_1; exact hw
  have J_1 : ∀ (v9 : Int32) (ls : Array Slot), b_1 = v9 → lv_has ls 3 [(0, .ref (a 0)), (1, .int x1)] → W p l e (headSpec wsX4_ends ({ frames := 2, cells := 0, slots := 0, locals := 43 })).room s m [.ref (a 0), .int x1].toArray below meth c H locs 0 0 (MQ below (va_Qi (fun r σ9 => (r, σ9) = rf_ends σ x1) (bMr dC dI cI cZ a A) A) [.ref (a 0), .int x1].toArray s 0 0 A) (F0 m 14 ls [.int v9, .ref (a 0)]) := by
    intro v9 ls hv9 hl
    subst hv9
    refine lv_iconst (v := 0) hx hb dX4_ends_14 (by decide) ?_
    refine lv_iconst (v := 0) hx hb dX4_ends_15 (by decide) ?_
    refine lv_iconst (v := 0) hx hb dX4_ends_16 (by decide) ?_
    have hFc := fr_all hD hS hA
    refine va_calli (va_runV (As := [.int b_1, .int (0 : Int32), .int (0 : Int32), .int (0 : Int32)]) (rest := []) ⟨hx, hb, hml, hown, hts⟩ (m_X4_throwing l dC dI cI cZ a H.size σ b_1 (0 : Int32) (0 : Int32) (0 : Int32)) (cwV 4 hts (gV k_650 k_652 k_11 k_24 k_653) rfl rfl rfl (by decide +kernel) ⟨Nat.le_of_ble_eq_true rfl, Nat.le_of_ble_eq_true rfl⟩) (pv_mr (q := (RX4, TX4, 23)) (q0 := 0) (ci := 4) hK hP hD rfl rfl) rfl rfl hl.1 rfl (lv_room (Nat.le_of_ble_eq_true rfl)) dX4_ends_17 ⟨Nat.le_of_ble_eq_true rfl, Nat.le_of_ble_eq_true rfl⟩) hS (fun q _ h => hFc q h) hFc (fun r σ_2 t H1 locs ht hvm hw9 hB hz1 hk1 hS => ?_)
    obtain ⟨hP, hK1, hD1⟩ := hB
    rw [ht] at hP
    have hD := hD1.weaken (fun _ _ _ h => hFc _ h)
    clear hFc hD1 hK1
    obtain ⟨rfl, eσ_2⟩ : r = (rf_throwing σ b_1 (0 : Int32) (0 : Int32) (0 : Int32)).1 ∧ σ_2 = (rf_throwing σ b_1 (0 : Int32) (0 : Int32) (0 : Int32)).2 := ⟨congrArg Prod.fst hw9, congrArg Prod.snd hw9⟩
    clear hw9
    replace hw : R = (if ((rf_throwing σ b_1 (0 : Int32) (0 : Int32) (0 : Int32)).1) = 0 then (if (rf_endOf σ_2 x1) = (1000000 : Int32) then ((-1 : Int32), σ_2) else (rf_endOf σ_2 x1, σ_2)) else ((0 : Int32), σ_2)) := by subst eσ_2; exact hw
    generalize H1 = H at hP hS ⊢
    have hiv_3 : IVr σ_2 := by rw [eσ_2]; exact ir_thr hiv _ _ _ _
    refine lv_if_eq (tgt := 25) hx hb dX4_ends_20 (by decide) (fun c_20_4 => ?_) (fun c_20_4 => ?_)
    · skip
      rw [if_pos c_20_4] at hw
      obtain ⟨z0_5, z1_6, z2_7, z3_8⟩ := thr0 c_20_4
      have hf_9 : vp_in x1 40 := bd_thing hiv hb_1 z0_5
      refine lv_aload_n hx hb dX4_ends_25 rfl (lv_at hl 0 rfl) ?_
      refine lv_iload_n hx hb dX4_ends_26 rfl (lv_at hl 1 rfl) ?_
      refine vp_callSi (W.runV (As := [.int x1]) (rest := []) ⟨hx, hb, hml, hown, hts⟩ (m_X4_endOf l dC dI cI cZ a σ_2 x1 hiv_3 hf_9) (cwV 1 hts (gV k_739 k_741 k_17 k_24 k_742) rfl rfl rfl (by decide +kernel) ⟨Nat.le_of_ble_eq_true rfl, Nat.le_of_ble_eq_true rfl⟩) (pv_rr (q := (RX4, TX4, 23)) (q0 := 0) (ci := 4) hK hP rfl rfl) rfl rfl hl.1 rfl (lv_room (Nat.le_of_ble_eq_true rfl)) dX4_ends_27 ⟨Nat.le_of_ble_eq_true rfl, Nat.le_of_ble_eq_true rfl⟩) (fun r hrr => ?_)
      subst hrr
      refine lv_istore_n (lv' := [(2, .int (rf_endOf σ_2 x1)), (0, .ref (a 0)), (1, .int x1)]) hx hb dX4_ends_30 rfl hl (by decide) rfl (fun ls hl => ?_)
      refine lv_iload_n hx hb dX4_ends_31 rfl (lv_at hl 0 rfl) ?_
      refine lv_ldc (own := RX4) (v := 1000000) hx hb hown (hts _ (kc k_743)) dX4_ends_32 ?_
      refine lv_icmp_ne (tgt := 41) hx hb dX4_ends_34 (by decide) (fun c_34_10 => ?_) (fun c_34_10 => ?_)
      · skip
        rw [if_neg c_34_10] at hw
        refine lv_iload_n hx hb dX4_ends_41 rfl (lv_at hl 0 rfl) ?_
        exact W.iret (v := rf_endOf σ_2 x1) hx hb hr (fun t ht hW => ⟨⟨rf_endOf σ_2 x1, σ_2, rfl, hw.symm.trans hR, by rw [ht]; exact hP, va_K.moved hW.alike hK, hD⟩, hS.F ht⟩) hS.2.2 dX4_ends_42
      · skip
        rw [if_pos c_34_10] at hw
        refine lv_iconst (v := -1) hx hb dX4_ends_37 (by decide) ?_
        refine lv_goto (tgt := 42) hx hb dX4_ends_38 (by decide) ?_
        exact W.iret (v := (-1 : Int32)) hx hb hr (fun t ht hW => ⟨⟨(-1 : Int32), σ_2, rfl, hw.symm.trans hR, by rw [ht]; exact hP, va_K.moved hW.alike hK, hD⟩, hS.F ht⟩) hS.2.2 dX4_ends_42
    · skip
      rw [if_neg c_20_4] at hw
      refine lv_iconst (v := 0) hx hb dX4_ends_23 (by decide) ?_
      exact W.iret (v := (0 : Int32)) hx hb hr (fun t ht hW => ⟨⟨(0 : Int32), σ_2, rfl, hw.symm.trans hR, by rw [ht]; exact hP, va_K.moved hW.alike hK, hD⟩, hS.F ht⟩) hS.2.2 dX4_ends_24
  have hq_1 := hb_1
  refine lv_if_ne (tgt := 13) hx hb dX4_ends_6 (by decide) (fun c_6_11 => ?_) (fun c_6_11 => ?_)
  · skip
    rw [if_neg c_6_11] at hq_1
    refine lv_iconst (v := 0) hx hb dX4_ends_13 (by decide) ?_
    exact J_1 _ ls hq_1 (lv_sub hl [0, 1] rfl)
  · skip
    rw [if_pos c_6_11] at hq_1
    refine lv_iconst (v := 1) hx hb dX4_ends_9 (by decide) ?_
    refine lv_goto (tgt := 14) hx hb dX4_ends_10 (by decide) ?_
    exact J_1 _ ls hq_1 (lv_sub hl [0, 1] rfl)
set_option maxHeartbeats 4000000 in
set_option maxRecDepth 100000 in
theorem m_X4_soon (l : Launch) (dC : Nat → ClassId) (dI : Nat → Nat → Nat) (cI cZ : ClassId) (a : Nat → Nat) (sz : Nat) (σ : St) (x1 : Int32) (x2 : Int32) (x3 : Int32) (hiv : IVr σ) : Met l yX4_soon wsX4_soon ({ frames := 1, cells := 0, slots := 0, locals := 25 }) (pMr dC dI cI cZ a sz σ [.ref (a 0), .int x1, .int x2, .int x3]) (va_Qi (fun r σ9 => (r, σ9) = rf_soon σ x1 x2 x3) (bMr dC dI cI cZ a (va_A (rw cI cZ a σ) sz)) (va_A (rw cI cZ a σ) sz)) 0 0 (va_A (rw cI cZ a σ) sz) := by
  refine Met.ofW (cc := cX4_soon) (maxL := 7) (ret := (some .int)) (by decide) rfl ?_
  intro p e s m args below meth c s₁ B hml hv
  obtain ⟨rfl, hsz, hP, hK, hD0⟩ := hv
  have hx := B.exec
  have hb := B.bytes
  have hr := B.returns
  have hts := atoms_spec (ws := wsX4_soon) B.pre
  have hown : s.vm.findClass RX4 = some m.cls := findClass_of_methodNamed B.named
  have hlocks := B.notSynchronized
  subst hsz
  have hD := hD0.self (sz := s.heap.size)
  generalize hAe : va_A (rw cI cZ a σ) s.heap.size = A at hD ⊢
  have hA : ∀ q : Nat, s.heap.size ≤ q → A q := fun q h => by rw [← hAe]; exact Or.inr h
  clear hAe hD0
  obtain ⟨H, hHe⟩ : ∃ z, z = s.heap := ⟨_, rfl⟩
  obtain ⟨locs, hLe⟩ : ∃ z : List Loc, z = [] := ⟨_, rfl⟩
  have hS : va_S A s.heap H locs := by rw [hHe, hLe]; exact va_S.rf
  have hP : va_P (dC, dI) vwCl (rw cI cZ a σ) H := by rw [hHe]; exact hP
  refine W_ofH hHe hLe ?_
  clear hHe hLe
  have hl := lv_entry ([.ref (a 0), .int x1, .int x2, .int x3]) (n := 7) (Nat.le_of_ble_eq_true rfl)
  rw [lg_entry_eq]
  generalize (lg_sl ([.ref (a 0), .int x1, .int x2, .int x3]) ++ List.replicate (7 - (lg_sl ([.ref (a 0), .int x1, .int x2, .int x3])).length) Slot.unset).toArray = ls at hl ⊢
  have hl : lv_has ls 7 [(0, .ref (a 0)), (1, .int x1), (2, .int x2), (3, .int x3)] := hl
  obtain ⟨R, hR⟩ : ∃ z, z = rf_soon σ x1 x2 x3 := ⟨_, rfl⟩
  have hw := hR
  unfold rf_soon at hw
  have hle := ir_le hiv
  refine lv_aload_n hx hb dX4_soon_0 rfl (lv_at hl 0 rfl) ?_
  refine lv_iload_n hx hb dX4_soon_1 rfl (lv_at hl 1 rfl) ?_
  refine lv_iconst (v := 0) hx hb dX4_soon_2 (by decide) ?_
  refine lv_bipush (v := 19) hx hb dX4_soon_3 (by decide) ?_
  refine vp_callSi (W.runS (As := [.int x1, .int (0 : Int32), .int (19 : Int32)]) (rest := [.ref (a 0)]) ⟨hx, hb, hml, hown, hts⟩ (m_X4_in l x1 (0 : Int32) (19 : Int32)) (cwS 3 hts (gS k_658 k_659 k_24 k_660) rfl rfl rfl (by decide +kernel) ⟨Nat.le_of_ble_eq_true rfl, Nat.le_of_ble_eq_true rfl⟩) ps_0 rfl rfl hl.1 rfl (lv_room (Nat.le_of_ble_eq_true rfl)) dX4_soon_5 ⟨Nat.le_of_ble_eq_true rfl, Nat.le_of_ble_eq_true rfl⟩) (fun r hrr => ?_)
  subst hrr
  obtain ⟨b_1, hb_1⟩ : ∃ z : Int32, z = (if (rf_in x1 (0 : Int32) (19 : Int32)) = 0 then (1 : Int32) else (0 : Int32)) := ⟨_, rfl⟩
  replace hw : R = (let b_2 : Int32 := (if (rf_in x2 (0 : Int32) (30000 : Int32)) = 0 then (1 : Int32) else (if 0 ≤ x3 then (0 : Int32) else (1 : Int32))); let σ_3 : St := (rf_throwing σ b_1 b_2 (0 : Int32) (0 : Int32)).2; if ((rf_throwing σ b_1 b_2 (0 : Int32) (0 : Int32)).1) = 0 then (rf_soon_49 σ x1 x2 x3 σ_3 (cntR σ) 0) else ((0 : Int32), σ_3)) := by subst hb_1; exact hw
  have J_1 : ∀ (v9 : Int32) (ls : Array Slot), b_1 = v9 → lv_has ls 7 [(0, .ref (a 0)), (1, .int x1), (2, .int x2), (3, .int x3)] → W p l e (headSpec wsX4_soon ({ frames := 1, cells := 0, slots := 0, locals := 25 })).room s m [.ref (a 0), .int x1, .int x2, .int x3].toArray below meth c H locs 0 0 (MQ below (va_Qi (fun r σ9 => (r, σ9) = rf_soon σ x1 x2 x3) (bMr dC dI cI cZ a A) A) [.ref (a 0), .int x1, .int x2, .int x3].toArray s 0 0 A) (F0 m 16 ls [.int v9, .ref (a 0)]) := by
    intro v9 ls hv9 hl
    subst hv9
    refine lv_iload_n hx hb dX4_soon_16 rfl (lv_at hl 2 rfl) ?_
    refine lv_iconst (v := 0) hx hb dX4_soon_17 (by decide) ?_
    refine lv_sipush (v := 30000) hx hb dX4_soon_18 (by decide) ?_
    refine vp_callSi (W.runS (As := [.int x2, .int (0 : Int32), .int (30000 : Int32)]) (rest := [.int b_1, .ref (a 0)]) ⟨hx, hb, hml, hown, hts⟩ (m_X4_in l x2 (0 : Int32) (30000 : Int32)) (cwS 3 hts (gS k_658 k_659 k_24 k_660) rfl rfl rfl (by decide +kernel) ⟨Nat.le_of_ble_eq_true rfl, Nat.le_of_ble_eq_true rfl⟩) ps_0 rfl rfl hl.1 rfl (lv_room (Nat.le_of_ble_eq_true rfl)) dX4_soon_21 ⟨Nat.le_of_ble_eq_true rfl, Nat.le_of_ble_eq_true rfl⟩) (fun r hrr => ?_)
    subst hrr
    obtain ⟨b_2, hb_2⟩ : ∃ z : Int32, z = (if (rf_in x2 (0 : Int32) (30000 : Int32)) = 0 then (1 : Int32) else (if 0 ≤ x3 then (0 : Int32) else (1 : Int32))) := ⟨_, rfl⟩
    replace hw : R = (let σ_3 : St := (rf_throwing σ b_1 b_2 (0 : Int32) (0 : Int32)).2; if ((rf_throwing σ b_1 b_2 (0 : Int32) (0 : Int32)).1) = 0 then (rf_soon_49 σ x1 x2 x3 σ_3 (cntR σ) 0) else ((0 : Int32), σ_3)) := by subst hb_2; exact hw
    have J_2 : ∀ (v9 : Int32) (ls : Array Slot), b_2 = v9 → lv_has ls 7 [(0, .ref (a 0)), (1, .int x1), (2, .int x2), (3, .int x3)] → W p l e (headSpec wsX4_soon ({ frames := 1, cells := 0, slots := 0, locals := 25 })).room s m [.ref (a 0), .int x1, .int x2, .int x3].toArray below meth c H locs 0 0 (MQ below (va_Qi (fun r σ9 => (r, σ9) = rf_soon σ x1 x2 x3) (bMr dC dI cI cZ a A) A) [.ref (a 0), .int x1, .int x2, .int x3].toArray s 0 0 A) (F0 m 36 ls [.int v9, .int b_1, .ref (a 0)]) := by
      intro v9 ls hv9 hl
      subst hv9
      refine lv_iconst (v := 0) hx hb dX4_soon_36 (by decide) ?_
      refine lv_iconst (v := 0) hx hb dX4_soon_37 (by decide) ?_
      have hFc := fr_all hD hS hA
      refine va_calli (va_runV (As := [.int b_1, .int b_2, .int (0 : Int32), .int (0 : Int32)]) (rest := []) ⟨hx, hb, hml, hown, hts⟩ (m_X4_throwing l dC dI cI cZ a H.size σ b_1 b_2 (0 : Int32) (0 : Int32)) (cwV 4 hts (gV k_650 k_652 k_11 k_24 k_653) rfl rfl rfl (by decide +kernel) ⟨Nat.le_of_ble_eq_true rfl, Nat.le_of_ble_eq_true rfl⟩) (pv_mr (q := (RX4, TX4, 23)) (q0 := 0) (ci := 4) hK hP hD rfl rfl) rfl rfl hl.1 rfl (lv_room (Nat.le_of_ble_eq_true rfl)) dX4_soon_38 ⟨Nat.le_of_ble_eq_true rfl, Nat.le_of_ble_eq_true rfl⟩) hS (fun q _ h => hFc q h) hFc (fun r σ_3 t H1 locs ht hvm hw9 hB hz1 hk1 hS => ?_)
      obtain ⟨hP, hK1, hD1⟩ := hB
      rw [ht] at hP
      have hD := hD1.weaken (fun _ _ _ h => hFc _ h)
      clear hFc hD1 hK1
      obtain ⟨rfl, eσ_3⟩ : r = (rf_throwing σ b_1 b_2 (0 : Int32) (0 : Int32)).1 ∧ σ_3 = (rf_throwing σ b_1 b_2 (0 : Int32) (0 : Int32)).2 := ⟨congrArg Prod.fst hw9, congrArg Prod.snd hw9⟩
      clear hw9
      replace hw : R = (if ((rf_throwing σ b_1 b_2 (0 : Int32) (0 : Int32)).1) = 0 then (rf_soon_49 σ x1 x2 x3 σ_3 (cntR σ) 0) else ((0 : Int32), σ_3)) := by subst eσ_3; exact hw
      generalize H1 = H at hP hS ⊢
      have hiv_4 : IVr σ_3 := by rw [eσ_3]; exact ir_thr hiv _ _ _ _
      refine lv_if_eq (tgt := 46) hx hb dX4_soon_41 (by decide) (fun c_41_5 => ?_) (fun c_41_5 => ?_)
      · skip
        rw [if_pos c_41_5] at hw
        obtain ⟨z0_6, z1_7, z2_8, z3_9⟩ := thr0 c_41_5
        refine lv_iconst (v := 0) hx hb dX4_soon_46 (by decide) ?_
        refine lv_istore (lv' := [(4, .int (0 : Int32)), (0, .ref (a 0)), (1, .int x1), (2, .int x2), (3, .int x3)]) hx hb dX4_soon_47 hl (by decide) rfl (fun ls hl => ?_)
        have loop : ∀ (n k : Nat) (σ1 : St) (H : Heap) (locs : List Loc) (ls : Array Slot), k + n = cntR σ → IVr σ1 → cntR σ1 = cntR σ → va_P (dC, dI) vwCl (rw cI cZ a σ1) H → va_D A (rw cI cZ a σ1) → va_S A s.heap H locs → lv_has ls 7 [(0, .ref (a 0)), (1, .int x1), (2, .int x2), (3, .int x3), (4, .int (nI k))] → R = rf_soon_49 σ x1 x2 x3 σ1 n k → W p l e (headSpec wsX4_soon ({ frames := 1, cells := 0, slots := 0, locals := 25 })).room s m [.ref (a 0), .int x1, .int x2, .int x3].toArray below meth c H locs 0 0 (MQ below (va_Qi (fun r σ9 => (r, σ9) = rf_soon σ x1 x2 x3) (bMr dC dI cI cZ a A) A) [.ref (a 0), .int x1, .int x2, .int x3].toArray s 0 0 A) (F0 m 49 ls []) := by
          intro n
          induction n with
          | zero =>
            intro k σ1 H locs ls hkn hiv1 hc1 hP hD hS hl hw
            rw [rf_soon_49_0] at hw
            refine lv_iload hx hb dX4_soon_49 (lv_at hl 4 rfl) ?_
            refine lv_aload_n hx hb dX4_soon_51 rfl (lv_at hl 0 rfl) ?_
            refine va_get (D := (dC, dI)) (ci := 4) (v := .int (σ1 0 7)) (C := RX4) (T := TX4) (N := 23) hx hb hts (iwX4 _) hown hK hP 0 rfl rfl 7 (by decide) (hts _ (kc k_578)) (fun _ h9 => h9) rfl dX4_soon_52 ?_
            refine lv_icmp_ge (tgt := 178) hx hb dX4_soon_55 (by decide) (fun c_55_10 => ?_) (fun c_55_10 => ?_)
            · skip
              refine lv_iconst (v := -1) hx hb dX4_soon_178 (by decide) ?_
              exact W.iret (v := (-1 : Int32)) hx hb hr (fun t ht hW => ⟨⟨(-1 : Int32), σ1, rfl, hw.symm.trans hR, by rw [ht]; exact hP, va_K.moved hW.alike hK, hD⟩, hS.F ht⟩) hS.2.2 dX4_soon_179
            · skip
              exact absurd (lpE (ir_cnt2 hiv1 hc1) hkn (by omega)) c_55_10
          | succ n ih =>
            intro k σ1 H locs ls hkn hiv1 hc1 hP hD hS hl hw
            rw [rf_soon_49_s] at hw
            have hkf : vp_in (nI k) 40 := vp_in_nI (by omega) (by decide)
            refine lv_iload hx hb dX4_soon_49 (lv_at hl 4 rfl) ?_
            refine lv_aload_n hx hb dX4_soon_51 rfl (lv_at hl 0 rfl) ?_
            refine va_get (D := (dC, dI)) (ci := 4) (v := .int (σ1 0 7)) (C := RX4) (T := TX4) (N := 23) hx hb hts (iwX4 _) hown hK hP 0 rfl rfl 7 (by decide) (hts _ (kc k_578)) (fun _ h9 => h9) rfl dX4_soon_52 ?_
            refine lv_icmp_ge (tgt := 178) hx hb dX4_soon_55 (by decide) (fun c_55_11 => ?_) (fun c_55_11 => ?_)
            · skip
              exact absurd c_55_11 (lpB (ir_cnt2 hiv1 hc1) hkn (by omega))
            · skip
              refine lv_iconst (v := 0) hx hb dX4_soon_58 (by decide) ?_
              refine lv_istore (lv' := [(5, .int (0 : Int32)), (0, .ref (a 0)), (1, .int x1), (2, .int x2), (3, .int x3), (4, .int (nI k))]) hx hb dX4_soon_59 hl (by decide) rfl (fun ls hl => ?_)
              refine lv_iconst (v := 0) hx hb dX4_soon_61 (by decide) ?_
              refine lv_istore (lv' := [(6, .int (0 : Int32)), (5, .int (0 : Int32)), (0, .ref (a 0)), (1, .int x1), (2, .int x2), (3, .int x3), (4, .int (nI k))]) hx hb dX4_soon_62 hl (by decide) rfl (fun ls hl => ?_)
              obtain ⟨b_12, hb_12⟩ : ∃ z : Int32, z = rf_soon_64 σ1 x1 k (cntR σ) 0 (0 : Int32) := ⟨_, rfl⟩
              replace hw : R = (if (σ1 11 (nI k).toNatClampNeg) = x1 then (if x2 < ((rf_endOf σ1 (nI k)) - (σ1 0 1)) then (rf_soon_49 σ x1 x2 x3 σ1 n (k + 1)) else (if b_12 = x3 then (nI k, σ1) else (rf_soon_49 σ x1 x2 x3 σ1 n (k + 1)))) else (rf_soon_49 σ x1 x2 x3 σ1 n (k + 1))) := by subst hb_12; exact hw
              have J_12 : ∀ (v9 : Int32) (ls : Array Slot), b_12 = v9 → lv_has ls 7 [(0, .ref (a 0)), (1, .int x1), (2, .int x2), (3, .int x3), (4, .int (nI k)), (5, .int v9)] → W p l e (headSpec wsX4_soon ({ frames := 1, cells := 0, slots := 0, locals := 25 })).room s m [.ref (a 0), .int x1, .int x2, .int x3].toArray below meth c H locs 0 0 (MQ below (va_Qi (fun r σ9 => (r, σ9) = rf_soon σ x1 x2 x3) (bMr dC dI cI cZ a A) A) [.ref (a 0), .int x1, .int x2, .int x3].toArray s 0 0 A) (F0 m 137 ls []) := by
                intro v9 ls hv9 hl
                subst hv9
                refine lv_aload_n hx hb dX4_soon_137 rfl (lv_at hl 0 rfl) ?_
                refine va_get (D := (dC, dI)) (ci := 4) (v := .ref (a 11)) (C := RX4) (T := TX4) (N := 23) hx hb hts (iwX4 _) hown hK hP 0 rfl rfl 11 (by decide) (hts _ (kc k_582)) (fun _ h9 => h9) rfl dX4_soon_138 ?_
                refine lv_iload hx hb dX4_soon_141 (lv_at hl 4 rfl) ?_
                refine va_iald (D := (dC, dI)) (f := σ1 11) hx hb hK hP 9 0 rfl rfl (i := nI k) hkf dX4_soon_143 ?_
                refine lv_iload_n hx hb dX4_soon_144 rfl (lv_at hl 1 rfl) ?_
                refine lv_icmp_ne (tgt := 172) hx hb dX4_soon_145 (by decide) (fun c_145_13 => ?_) (fun c_145_13 => ?_)
                · skip
                  rw [if_neg c_145_13] at hw
                  refine lv_iinc (v := (nI (k + 1))) (lv' := [(4, .int (nI (k + 1))), (0, .ref (a 0)), (1, .int x1), (2, .int x2), (3, .int x3), (5, .int b_12)]) hx hb dX4_soon_172 hl (k := 4) rfl (nI_1 k) (by decide) rfl (fun ls hl => ?_)
                  refine lv_goto (tgt := 49) hx hb dX4_soon_175 (by decide) ?_
                  exact ih (k + 1) σ1 H locs ls (by omega) hiv1 hc1 hP hD hS (lv_sub hl [1, 2, 3, 4, 0] rfl) hw
                · skip
                  rw [if_pos c_145_13] at hw
                  refine lv_aload_n hx hb dX4_soon_148 rfl (lv_at hl 0 rfl) ?_
                  refine lv_iload hx hb dX4_soon_149 (lv_at hl 4 rfl) ?_
                  refine vp_callSi (W.runV (As := [.int (nI k)]) (rest := []) ⟨hx, hb, hml, hown, hts⟩ (m_X4_endOf l dC dI cI cZ a σ1 (nI k) hiv1 hkf) (cwV 1 hts (gV k_739 k_741 k_17 k_24 k_742) rfl rfl rfl (by decide +kernel) ⟨Nat.le_of_ble_eq_true rfl, Nat.le_of_ble_eq_true rfl⟩) (pv_rr (q := (RX4, TX4, 23)) (q0 := 0) (ci := 4) hK hP rfl rfl) rfl rfl hl.1 rfl (lv_room (Nat.le_of_ble_eq_true rfl)) dX4_soon_151 ⟨Nat.le_of_ble_eq_true rfl, Nat.le_of_ble_eq_true rfl⟩) (fun r hrr => ?_)
                  subst hrr
                  refine lv_aload_n hx hb dX4_soon_154 rfl (lv_at hl 0 rfl) ?_
                  refine va_get (D := (dC, dI)) (ci := 4) (v := .int (σ1 0 1)) (C := RX4) (T := TX4) (N := 23) hx hb hts (iwX4 _) hown hK hP 0 rfl rfl 1 (by decide) (hts _ (kc k_572)) (fun _ h9 => h9) rfl dX4_soon_155 ?_
                  refine lv_isub hx hb dX4_soon_158 ?_
                  refine lv_iload_n hx hb dX4_soon_159 rfl (lv_at hl 2 rfl) ?_
                  refine lv_icmp_gt (tgt := 172) hx hb dX4_soon_160 (by decide) (fun c_160_14 => ?_) (fun c_160_14 => ?_)
                  · skip
                    rw [if_pos c_160_14] at hw
                    refine lv_iinc (v := (nI (k + 1))) (lv' := [(4, .int (nI (k + 1))), (0, .ref (a 0)), (1, .int x1), (2, .int x2), (3, .int x3), (5, .int b_12)]) hx hb dX4_soon_172 hl (k := 4) rfl (nI_1 k) (by decide) rfl (fun ls hl => ?_)
                    refine lv_goto (tgt := 49) hx hb dX4_soon_175 (by decide) ?_
                    exact ih (k + 1) σ1 H locs ls (by omega) hiv1 hc1 hP hD hS (lv_sub hl [1, 2, 3, 4, 0] rfl) hw
                  · skip
                    rw [if_neg c_160_14] at hw
                    refine lv_iload hx hb dX4_soon_163 (lv_at hl 5 rfl) ?_
                    refine lv_iload_n hx hb dX4_soon_165 rfl (lv_at hl 3 rfl) ?_
                    refine lv_icmp_ne (tgt := 172) hx hb dX4_soon_166 (by decide) (fun c_166_15 => ?_) (fun c_166_15 => ?_)
                    · skip
                      rw [if_neg c_166_15] at hw
                      refine lv_iinc (v := (nI (k + 1))) (lv' := [(4, .int (nI (k + 1))), (0, .ref (a 0)), (1, .int x1), (2, .int x2), (3, .int x3), (5, .int b_12)]) hx hb dX4_soon_172 hl (k := 4) rfl (nI_1 k) (by decide) rfl (fun ls hl => ?_)
                      refine lv_goto (tgt := 49) hx hb dX4_soon_175 (by decide) ?_
                      exact ih (k + 1) σ1 H locs ls (by omega) hiv1 hc1 hP hD hS (lv_sub hl [1, 2, 3, 4, 0] rfl) hw
                    · skip
                      rw [if_pos c_166_15] at hw
                      refine lv_iload hx hb dX4_soon_169 (lv_at hl 4 rfl) ?_
                      exact W.iret (v := nI k) hx hb hr (fun t ht hW => ⟨⟨nI k, σ1, rfl, hw.symm.trans hR, by rw [ht]; exact hP, va_K.moved hW.alike hK, hD⟩, hS.F ht⟩) hS.2.2 dX4_soon_171
              have loop2 : ∀ (n2 k2 : Nat) (x5 : Int32) (ls : Array Slot), k2 + n2 = cntR σ → lv_has ls 7 [(0, .ref (a 0)), (1, .int x1), (2, .int x2), (3, .int x3), (4, .int (nI k)), (5, .int x5), (6, .int (nI k2))] → b_12 = rf_soon_64 σ1 x1 k n2 k2 x5 → W p l e (headSpec wsX4_soon ({ frames := 1, cells := 0, slots := 0, locals := 25 })).room s m [.ref (a 0), .int x1, .int x2, .int x3].toArray below meth c H locs 0 0 (MQ below (va_Qi (fun r σ9 => (r, σ9) = rf_soon σ x1 x2 x3) (bMr dC dI cI cZ a A) A) [.ref (a 0), .int x1, .int x2, .int x3].toArray s 0 0 A) (F0 m 64 ls []) := by
                intro n2
                induction n2 with
                | zero =>
                  intro k2 x5 ls hkn2 hl hq_12
                  rw [rf_soon_64_0] at hq_12
                  refine lv_iload hx hb dX4_soon_64 (lv_at hl 6 rfl) ?_
                  refine lv_aload_n hx hb dX4_soon_66 rfl (lv_at hl 0 rfl) ?_
                  refine va_get (D := (dC, dI)) (ci := 4) (v := .int (σ1 0 7)) (C := RX4) (T := TX4) (N := 23) hx hb hts (iwX4 _) hown hK hP 0 rfl rfl 7 (by decide) (hts _ (kc k_578)) (fun _ h9 => h9) rfl dX4_soon_67 ?_
                  refine lv_icmp_ge (tgt := 137) hx hb dX4_soon_70 (by decide) (fun c_70_16 => ?_) (fun c_70_16 => ?_)
                  · skip
                    exact J_12 _ ls hq_12 (lv_sub hl [0, 1, 2, 3, 4, 5] rfl)
                  · skip
                    exact absurd (lpE (ir_cnt2 hiv1 hc1) hkn2 (by omega)) c_70_16
                | succ n2 ih2 =>
                  intro k2 x5 ls hkn2 hl hq_12
                  rw [rf_soon_64_s] at hq_12
                  have hkf2 : vp_in (nI k2) 40 := vp_in_nI (by omega) (by decide)
                  refine lv_iload hx hb dX4_soon_64 (lv_at hl 6 rfl) ?_
                  refine lv_aload_n hx hb dX4_soon_66 rfl (lv_at hl 0 rfl) ?_
                  refine va_get (D := (dC, dI)) (ci := 4) (v := .int (σ1 0 7)) (C := RX4) (T := TX4) (N := 23) hx hb hts (iwX4 _) hown hK hP 0 rfl rfl 7 (by decide) (hts _ (kc k_578)) (fun _ h9 => h9) rfl dX4_soon_67 ?_
                  refine lv_icmp_ge (tgt := 137) hx hb dX4_soon_70 (by decide) (fun c_70_17 => ?_) (fun c_70_17 => ?_)
                  · skip
                    exact absurd c_70_17 (lpB (ir_cnt2 hiv1 hc1) hkn2 (by omega))
                  · skip
                    refine lv_iload hx hb dX4_soon_73 (lv_at hl 5 rfl) ?_
                    refine lv_aload_n hx hb dX4_soon_75 rfl (lv_at hl 0 rfl) ?_
                    refine va_get (D := (dC, dI)) (ci := 4) (v := .ref (a 11)) (C := RX4) (T := TX4) (N := 23) hx hb hts (iwX4 _) hown hK hP 0 rfl rfl 11 (by decide) (hts _ (kc k_582)) (fun _ h9 => h9) rfl dX4_soon_76 ?_
                    refine lv_iload hx hb dX4_soon_79 (lv_at hl 6 rfl) ?_
                    refine va_iald (D := (dC, dI)) (f := σ1 11) hx hb hK hP 9 0 rfl rfl (i := nI k2) hkf2 dX4_soon_81 ?_
                    refine lv_iload_n hx hb dX4_soon_82 rfl (lv_at hl 1 rfl) ?_
                    obtain ⟨b_18, hb_18⟩ : ∃ z : Int32, z = (if (σ1 11 (nI k2).toNatClampNeg) = x1 then (if (rf_endOf σ1 (nI k2)) < (rf_endOf σ1 (nI k)) then (1 : Int32) else (if (rf_endOf σ1 (nI k2)) = (rf_endOf σ1 (nI k)) then (if (nI k) ≤ (nI k2) then (0 : Int32) else (1 : Int32)) else (0 : Int32))) else (0 : Int32)) := ⟨_, rfl⟩
                    replace hq_12 : b_12 = (rf_soon_64 σ1 x1 k n2 (k2 + 1) (x5 + b_18)) := by subst hb_18; exact hq_12
                    have J_18 : ∀ (v9 : Int32) (ls : Array Slot), b_18 = v9 → lv_has ls 7 [(0, .ref (a 0)), (1, .int x1), (2, .int x2), (3, .int x3), (4, .int (nI k)), (5, .int x5), (6, .int (nI k2))] → W p l e (headSpec wsX4_soon ({ frames := 1, cells := 0, slots := 0, locals := 25 })).room s m [.ref (a 0), .int x1, .int x2, .int x3].toArray below meth c H locs 0 0 (MQ below (va_Qi (fun r σ9 => (r, σ9) = rf_soon σ x1 x2 x3) (bMr dC dI cI cZ a A) A) [.ref (a 0), .int x1, .int x2, .int x3].toArray s 0 0 A) (F0 m 128 ls [.int v9, .int x5]) := by
                      intro v9 ls hv9 hl
                      subst hv9
                      refine lv_iadd hx hb dX4_soon_128 ?_
                      refine lv_istore (lv' := [(5, .int (x5 + b_18)), (0, .ref (a 0)), (1, .int x1), (2, .int x2), (3, .int x3), (4, .int (nI k)), (6, .int (nI k2))]) hx hb dX4_soon_129 hl (by decide) rfl (fun ls hl => ?_)
                      refine lv_iinc (v := (nI (k2 + 1))) (lv' := [(6, .int (nI (k2 + 1))), (5, .int (x5 + b_18)), (0, .ref (a 0)), (1, .int x1), (2, .int x2), (3, .int x3), (4, .int (nI k))]) hx hb dX4_soon_131 hl (k := 6) rfl (nI_1 k2) (by decide) rfl (fun ls hl => ?_)
                      refine lv_goto (tgt := 64) hx hb dX4_soon_134 (by decide) ?_
                      exact ih2 (k2 + 1) (x5 + b_18) ls (by omega) (lv_sub hl [2, 3, 4, 5, 6, 1, 0] rfl) hq_12
                    have hq_18 := hb_18
                    refine lv_icmp_ne (tgt := 127) hx hb dX4_soon_83 (by decide) (fun c_83_19 => ?_) (fun c_83_19 => ?_)
                    · skip
                      rw [if_neg c_83_19] at hq_18
                      refine lv_iconst (v := 0) hx hb dX4_soon_127 (by decide) ?_
                      exact J_18 _ ls hq_18 (lv_sub hl [0, 1, 2, 3, 4, 5, 6] rfl)
                    · skip
                      rw [if_pos c_83_19] at hq_18
                      refine lv_aload_n hx hb dX4_soon_86 rfl (lv_at hl 0 rfl) ?_
                      refine lv_iload hx hb dX4_soon_87 (lv_at hl 6 rfl) ?_
                      refine vp_callSi (W.runV (As := [.int (nI k2)]) (rest := [.int x5]) ⟨hx, hb, hml, hown, hts⟩ (m_X4_endOf l dC dI cI cZ a σ1 (nI k2) hiv1 hkf2) (cwV 1 hts (gV k_739 k_741 k_17 k_24 k_742) rfl rfl rfl (by decide +kernel) ⟨Nat.le_of_ble_eq_true rfl, Nat.le_of_ble_eq_true rfl⟩) (pv_rr (q := (RX4, TX4, 23)) (q0 := 0) (ci := 4) hK hP rfl rfl) rfl rfl hl.1 rfl (lv_room (Nat.le_of_ble_eq_true rfl)) dX4_soon_89 ⟨Nat.le_of_ble_eq_true rfl, Nat.le_of_ble_eq_true rfl⟩) (fun r hrr => ?_)
                      subst hrr
                      refine lv_aload_n hx hb dX4_soon_92 rfl (lv_at hl 0 rfl) ?_
                      refine lv_iload hx hb dX4_soon_93 (lv_at hl 4 rfl) ?_
                      refine vp_callSi (W.runV (As := [.int (nI k)]) (rest := [.int (rf_endOf σ1 (nI k2)), .int x5]) ⟨hx, hb, hml, hown, hts⟩ (m_X4_endOf l dC dI cI cZ a σ1 (nI k) hiv1 hkf) (cwV 1 hts (gV k_739 k_741 k_17 k_24 k_742) rfl rfl rfl (by decide +kernel) ⟨Nat.le_of_ble_eq_true rfl, Nat.le_of_ble_eq_true rfl⟩) (pv_rr (q := (RX4, TX4, 23)) (q0 := 0) (ci := 4) hK hP rfl rfl) rfl rfl hl.1 rfl (lv_room (Nat.le_of_ble_eq_true rfl)) dX4_soon_95 ⟨Nat.le_of_ble_eq_true rfl, Nat.le_of_ble_eq_true rfl⟩) (fun r hrr => ?_)
                      subst hrr
                      refine lv_icmp_lt (tgt := 123) hx hb dX4_soon_98 (by decide) (fun c_98_20 => ?_) (fun c_98_20 => ?_)
                      · skip
                        rw [if_pos c_98_20] at hq_18
                        refine lv_iconst (v := 1) hx hb dX4_soon_123 (by decide) ?_
                        refine lv_goto (tgt := 128) hx hb dX4_soon_124 (by decide) ?_
                        exact J_18 _ ls hq_18 (lv_sub hl [0, 1, 2, 3, 4, 5, 6] rfl)
                      · skip
                        rw [if_neg c_98_20] at hq_18
                        refine lv_aload_n hx hb dX4_soon_101 rfl (lv_at hl 0 rfl) ?_
                        refine lv_iload hx hb dX4_soon_102 (lv_at hl 6 rfl) ?_
                        refine vp_callSi (W.runV (As := [.int (nI k2)]) (rest := [.int x5]) ⟨hx, hb, hml, hown, hts⟩ (m_X4_endOf l dC dI cI cZ a σ1 (nI k2) hiv1 hkf2) (cwV 1 hts (gV k_739 k_741 k_17 k_24 k_742) rfl rfl rfl (by decide +kernel) ⟨Nat.le_of_ble_eq_true rfl, Nat.le_of_ble_eq_true rfl⟩) (pv_rr (q := (RX4, TX4, 23)) (q0 := 0) (ci := 4) hK hP rfl rfl) rfl rfl hl.1 rfl (lv_room (Nat.le_of_ble_eq_true rfl)) dX4_soon_104 ⟨Nat.le_of_ble_eq_true rfl, Nat.le_of_ble_eq_true rfl⟩) (fun r hrr => ?_)
                        subst hrr
                        refine lv_aload_n hx hb dX4_soon_107 rfl (lv_at hl 0 rfl) ?_
                        refine lv_iload hx hb dX4_soon_108 (lv_at hl 4 rfl) ?_
                        refine vp_callSi (W.runV (As := [.int (nI k)]) (rest := [.int (rf_endOf σ1 (nI k2)), .int x5]) ⟨hx, hb, hml, hown, hts⟩ (m_X4_endOf l dC dI cI cZ a σ1 (nI k) hiv1 hkf) (cwV 1 hts (gV k_739 k_741 k_17 k_24 k_742) rfl rfl rfl (by decide +kernel) ⟨Nat.le_of_ble_eq_true rfl, Nat.le_of_ble_eq_true rfl⟩) (pv_rr (q := (RX4, TX4, 23)) (q0 := 0) (ci := 4) hK hP rfl rfl) rfl rfl hl.1 rfl (lv_room (Nat.le_of_ble_eq_true rfl)) dX4_soon_110 ⟨Nat.le_of_ble_eq_true rfl, Nat.le_of_ble_eq_true rfl⟩) (fun r hrr => ?_)
                        subst hrr
                        refine lv_icmp_ne (tgt := 127) hx hb dX4_soon_113 (by decide) (fun c_113_21 => ?_) (fun c_113_21 => ?_)
                        · skip
                          rw [if_neg c_113_21] at hq_18
                          refine lv_iconst (v := 0) hx hb dX4_soon_127 (by decide) ?_
                          exact J_18 _ ls hq_18 (lv_sub hl [0, 1, 2, 3, 4, 5, 6] rfl)
                        · skip
                          rw [if_pos c_113_21] at hq_18
                          refine lv_iload hx hb dX4_soon_116 (lv_at hl 6 rfl) ?_
                          refine lv_iload hx hb dX4_soon_118 (lv_at hl 4 rfl) ?_
                          refine lv_icmp_ge (tgt := 127) hx hb dX4_soon_120 (by decide) (fun c_120_22 => ?_) (fun c_120_22 => ?_)
                          · skip
                            rw [if_pos c_120_22] at hq_18
                            refine lv_iconst (v := 0) hx hb dX4_soon_127 (by decide) ?_
                            exact J_18 _ ls hq_18 (lv_sub hl [0, 1, 2, 3, 4, 5, 6] rfl)
                          · skip
                            rw [if_neg c_120_22] at hq_18
                            refine lv_iconst (v := 1) hx hb dX4_soon_123 (by decide) ?_
                            refine lv_goto (tgt := 128) hx hb dX4_soon_124 (by decide) ?_
                            exact J_18 _ ls hq_18 (lv_sub hl [0, 1, 2, 3, 4, 5, 6] rfl)
              exact loop2 (cntR σ) 0 (0 : Int32) ls (Nat.zero_add _) (lv_sub hl [2, 3, 4, 5, 6, 1, 0] rfl) hb_12
        exact loop (cntR σ) 0 σ_3 H locs ls (Nat.zero_add _) hiv_4 (by rw [eσ_3]; exact cnt_thr _ _ _ _ _) hP hD hS (lv_sub hl [1, 2, 3, 4, 0] rfl) hw
      · skip
        rw [if_neg c_41_5] at hw
        refine lv_iconst (v := 0) hx hb dX4_soon_44 (by decide) ?_
        exact W.iret (v := (0 : Int32)) hx hb hr (fun t ht hW => ⟨⟨(0 : Int32), σ_3, rfl, hw.symm.trans hR, by rw [ht]; exact hP, va_K.moved hW.alike hK, hD⟩, hS.F ht⟩) hS.2.2 dX4_soon_45
    have hq_2 := hb_2
    refine lv_if_eq (tgt := 31) hx hb dX4_soon_24 (by decide) (fun c_24_23 => ?_) (fun c_24_23 => ?_)
    · skip
      rw [if_pos c_24_23] at hq_2
      refine lv_iconst (v := 1) hx hb dX4_soon_31 (by decide) ?_
      refine lv_goto (tgt := 36) hx hb dX4_soon_32 (by decide) ?_
      exact J_2 _ ls hq_2 (lv_sub hl [0, 1, 2, 3] rfl)
    · skip
      rw [if_neg c_24_23] at hq_2
      refine lv_iload_n hx hb dX4_soon_27 rfl (lv_at hl 3 rfl) ?_
      refine lv_if_ge (tgt := 35) hx hb dX4_soon_28 (by decide) (fun c_28_24 => ?_) (fun c_28_24 => ?_)
      · skip
        rw [if_pos c_28_24] at hq_2
        refine lv_iconst (v := 0) hx hb dX4_soon_35 (by decide) ?_
        exact J_2 _ ls hq_2 (lv_sub hl [0, 1, 2, 3] rfl)
      · skip
        rw [if_neg c_28_24] at hq_2
        refine lv_iconst (v := 1) hx hb dX4_soon_31 (by decide) ?_
        refine lv_goto (tgt := 36) hx hb dX4_soon_32 (by decide) ?_
        exact J_2 _ ls hq_2 (lv_sub hl [0, 1, 2, 3] rfl)
  have hq_1 := hb_1
  refine lv_if_ne (tgt := 15) hx hb dX4_soon_8 (by decide) (fun c_8_25 => ?_) (fun c_8_25 => ?_)
  · skip
    rw [if_neg c_8_25] at hq_1
    refine lv_iconst (v := 0) hx hb dX4_soon_15 (by decide) ?_
    exact J_1 _ ls hq_1 (lv_sub hl [0, 1, 2, 3] rfl)
  · skip
    rw [if_pos c_8_25] at hq_1
    refine lv_iconst (v := 1) hx hb dX4_soon_11 (by decide) ?_
    refine lv_goto (tgt := 16) hx hb dX4_soon_12 (by decide) ?_
    exact J_1 _ ls hq_1 (lv_sub hl [0, 1, 2, 3] rfl)
set_option maxHeartbeats 4000000 in
set_option maxRecDepth 100000 in
theorem m_X4_thingAt (l : Launch) (dC : Nat → ClassId) (dI : Nat → Nat → Nat) (cI cZ : ClassId) (a : Nat → Nat) (sz : Nat) (σ : St) (x1 : Int32) (x2 : Int32) (hiv : IVr σ) : Met l yX4_thingAt wsX4_thingAt ({ frames := 2, cells := 0, slots := 0, locals := 43 }) (pMr dC dI cI cZ a sz σ [.ref (a 0), .int x1, .int x2]) (va_Qi (fun r σ9 => (r, σ9) = rf_thingAt σ x1 x2) (bMr dC dI cI cZ a (va_A (rw cI cZ a σ) sz)) (va_A (rw cI cZ a σ) sz)) 0 0 (va_A (rw cI cZ a σ) sz) := by
  refine Met.ofW (cc := cX4_thingAt) (maxL := 3) (ret := (some .int)) (by decide) rfl ?_
  intro p e s m args below meth c s₁ B hml hv
  obtain ⟨rfl, hsz, hP, hK, hD0⟩ := hv
  have hx := B.exec
  have hb := B.bytes
  have hr := B.returns
  have hts := atoms_spec (ws := wsX4_thingAt) B.pre
  have hown : s.vm.findClass RX4 = some m.cls := findClass_of_methodNamed B.named
  have hlocks := B.notSynchronized
  subst hsz
  have hD := hD0.self (sz := s.heap.size)
  generalize hAe : va_A (rw cI cZ a σ) s.heap.size = A at hD ⊢
  have hA : ∀ q : Nat, s.heap.size ≤ q → A q := fun q h => by rw [← hAe]; exact Or.inr h
  clear hAe hD0
  obtain ⟨H, hHe⟩ : ∃ z, z = s.heap := ⟨_, rfl⟩
  obtain ⟨locs, hLe⟩ : ∃ z : List Loc, z = [] := ⟨_, rfl⟩
  have hS : va_S A s.heap H locs := by rw [hHe, hLe]; exact va_S.rf
  have hP : va_P (dC, dI) vwCl (rw cI cZ a σ) H := by rw [hHe]; exact hP
  refine W_ofH hHe hLe ?_
  clear hHe hLe
  have hl := lv_entry ([.ref (a 0), .int x1, .int x2]) (n := 3) (Nat.le_of_ble_eq_true rfl)
  rw [lg_entry_eq]
  generalize (lg_sl ([.ref (a 0), .int x1, .int x2]) ++ List.replicate (3 - (lg_sl ([.ref (a 0), .int x1, .int x2])).length) Slot.unset).toArray = ls at hl ⊢
  have hl : lv_has ls 3 [(0, .ref (a 0)), (1, .int x1), (2, .int x2)] := hl
  obtain ⟨R, hR⟩ : ∃ z, z = rf_thingAt σ x1 x2 := ⟨_, rfl⟩
  have hw := hR
  unfold rf_thingAt at hw
  refine lv_aload_n hx hb dX4_thingAt_0 rfl (lv_at hl 0 rfl) ?_
  refine lv_aload_n hx hb dX4_thingAt_1 rfl (lv_at hl 0 rfl) ?_
  refine lv_iload_n hx hb dX4_thingAt_2 rfl (lv_at hl 1 rfl) ?_
  refine vp_callSi (W.runV (As := [.int x1]) (rest := [.ref (a 0)]) ⟨hx, hb, hml, hown, hts⟩ (m_X4_isThing l dC dI cI cZ a σ x1) (cwV 1 hts (gV k_691 k_693 k_12 k_24 k_694) rfl rfl rfl (by decide +kernel) ⟨Nat.le_of_ble_eq_true rfl, Nat.le_of_ble_eq_true rfl⟩) (pv_rr (q := (RX4, TX4, 23)) (q0 := 0) (ci := 4) hK hP rfl rfl) rfl rfl hl.1 rfl (lv_room (Nat.le_of_ble_eq_true rfl)) dX4_thingAt_3 ⟨Nat.le_of_ble_eq_true rfl, Nat.le_of_ble_eq_true rfl⟩) (fun r hrr => ?_)
  subst hrr
  obtain ⟨b_1, hb_1⟩ : ∃ z : Int32, z = (if (rf_isThing σ x1) = 0 then (1 : Int32) else (if (rf_in x2 (0 : Int32) (10 : Int32)) = 0 then (1 : Int32) else (0 : Int32))) := ⟨_, rfl⟩
  replace hw : R = (let σ_2 : St := (rf_throwing σ b_1 (0 : Int32) (0 : Int32) (0 : Int32)).2; if ((rf_throwing σ b_1 (0 : Int32) (0 : Int32) (0 : Int32)).1) = 0 then (if (rf_in x2 (4 : Int32) (6 : Int32)) = 0 then (if (rf_in x2 (7 : Int32) (9 : Int32)) = 0 then (if x2 = 0 then (rf_stateOf σ_2 x1, σ_2) else (if x2 = (1 : Int32) then (σ_2 11 x1.toNatClampNeg, σ_2) else (if x2 = (2 : Int32) then (σ_2 14 x1.toNatClampNeg, σ_2) else (if x2 = (3 : Int32) then (if (σ_2 15 x1.toNatClampNeg) = 0 then ((0 : Int32), σ_2) else ((1 : Int32), σ_2)) else (σ_2 13 x1.toNatClampNeg, σ_2))))) else (σ_2 16 ((((3 : Int32) * x1) + x2) - (7 : Int32)).toNatClampNeg, σ_2)) else (σ_2 17 ((((3 : Int32) * x1) + x2) - (4 : Int32)).toNatClampNeg, σ_2)) else ((0 : Int32), σ_2)) := by subst hb_1; exact hw
  have J_1 : ∀ (v9 : Int32) (ls : Array Slot), b_1 = v9 → lv_has ls 3 [(0, .ref (a 0)), (1, .int x1), (2, .int x2)] → W p l e (headSpec wsX4_thingAt ({ frames := 2, cells := 0, slots := 0, locals := 43 })).room s m [.ref (a 0), .int x1, .int x2].toArray below meth c H locs 0 0 (MQ below (va_Qi (fun r σ9 => (r, σ9) = rf_thingAt σ x1 x2) (bMr dC dI cI cZ a A) A) [.ref (a 0), .int x1, .int x2].toArray s 0 0 A) (F0 m 24 ls [.int v9, .ref (a 0)]) := by
    intro v9 ls hv9 hl
    subst hv9
    refine lv_iconst (v := 0) hx hb dX4_thingAt_24 (by decide) ?_
    refine lv_iconst (v := 0) hx hb dX4_thingAt_25 (by decide) ?_
    refine lv_iconst (v := 0) hx hb dX4_thingAt_26 (by decide) ?_
    have hFc := fr_all hD hS hA
    refine va_calli (va_runV (As := [.int b_1, .int (0 : Int32), .int (0 : Int32), .int (0 : Int32)]) (rest := []) ⟨hx, hb, hml, hown, hts⟩ (m_X4_throwing l dC dI cI cZ a H.size σ b_1 (0 : Int32) (0 : Int32) (0 : Int32)) (cwV 4 hts (gV k_650 k_652 k_11 k_24 k_653) rfl rfl rfl (by decide +kernel) ⟨Nat.le_of_ble_eq_true rfl, Nat.le_of_ble_eq_true rfl⟩) (pv_mr (q := (RX4, TX4, 23)) (q0 := 0) (ci := 4) hK hP hD rfl rfl) rfl rfl hl.1 rfl (lv_room (Nat.le_of_ble_eq_true rfl)) dX4_thingAt_27 ⟨Nat.le_of_ble_eq_true rfl, Nat.le_of_ble_eq_true rfl⟩) hS (fun q _ h => hFc q h) hFc (fun r σ_2 t H1 locs ht hvm hw9 hB hz1 hk1 hS => ?_)
    obtain ⟨hP, hK1, hD1⟩ := hB
    rw [ht] at hP
    have hD := hD1.weaken (fun _ _ _ h => hFc _ h)
    clear hFc hD1 hK1
    obtain ⟨rfl, eσ_2⟩ : r = (rf_throwing σ b_1 (0 : Int32) (0 : Int32) (0 : Int32)).1 ∧ σ_2 = (rf_throwing σ b_1 (0 : Int32) (0 : Int32) (0 : Int32)).2 := ⟨congrArg Prod.fst hw9, congrArg Prod.snd hw9⟩
    clear hw9
    replace hw : R = (if ((rf_throwing σ b_1 (0 : Int32) (0 : Int32) (0 : Int32)).1) = 0 then (if (rf_in x2 (4 : Int32) (6 : Int32)) = 0 then (if (rf_in x2 (7 : Int32) (9 : Int32)) = 0 then (if x2 = 0 then (rf_stateOf σ_2 x1, σ_2) else (if x2 = (1 : Int32) then (σ_2 11 x1.toNatClampNeg, σ_2) else (if x2 = (2 : Int32) then (σ_2 14 x1.toNatClampNeg, σ_2) else (if x2 = (3 : Int32) then (if (σ_2 15 x1.toNatClampNeg) = 0 then ((0 : Int32), σ_2) else ((1 : Int32), σ_2)) else (σ_2 13 x1.toNatClampNeg, σ_2))))) else (σ_2 16 ((((3 : Int32) * x1) + x2) - (7 : Int32)).toNatClampNeg, σ_2)) else (σ_2 17 ((((3 : Int32) * x1) + x2) - (4 : Int32)).toNatClampNeg, σ_2)) else ((0 : Int32), σ_2)) := by subst eσ_2; exact hw
    generalize H1 = H at hP hS ⊢
    have hiv_3 : IVr σ_2 := by rw [eσ_2]; exact ir_thr hiv _ _ _ _
    refine lv_if_eq (tgt := 35) hx hb dX4_thingAt_30 (by decide) (fun c_30_4 => ?_) (fun c_30_4 => ?_)
    · skip
      rw [if_pos c_30_4] at hw
      obtain ⟨z0_5, z1_6, z2_7, z3_8⟩ := thr0 c_30_4
      have hf_9 : vp_in x1 40 := bd_thing hiv hb_1 z0_5
      refine lv_iload_n hx hb dX4_thingAt_35 rfl (lv_at hl 2 rfl) ?_
      refine lv_iconst (v := 4) hx hb dX4_thingAt_36 (by decide) ?_
      refine lv_bipush (v := 6) hx hb dX4_thingAt_37 (by decide) ?_
      refine vp_callSi (W.runS (As := [.int x2, .int (4 : Int32), .int (6 : Int32)]) (rest := []) ⟨hx, hb, hml, hown, hts⟩ (m_X4_in l x2 (4 : Int32) (6 : Int32)) (cwS 3 hts (gS k_658 k_659 k_24 k_660) rfl rfl rfl (by decide +kernel) ⟨Nat.le_of_ble_eq_true rfl, Nat.le_of_ble_eq_true rfl⟩) ps_0 rfl rfl hl.1 rfl (lv_room (Nat.le_of_ble_eq_true rfl)) dX4_thingAt_39 ⟨Nat.le_of_ble_eq_true rfl, Nat.le_of_ble_eq_true rfl⟩) (fun r hrr => ?_)
      subst hrr
      refine lv_if_eq (tgt := 58) hx hb dX4_thingAt_42 (by decide) (fun c_42_10 => ?_) (fun c_42_10 => ?_)
      · skip
        rw [if_pos c_42_10] at hw
        refine lv_iload_n hx hb dX4_thingAt_58 rfl (lv_at hl 2 rfl) ?_
        refine lv_bipush (v := 7) hx hb dX4_thingAt_59 (by decide) ?_
        refine lv_bipush (v := 9) hx hb dX4_thingAt_61 (by decide) ?_
        refine vp_callSi (W.runS (As := [.int x2, .int (7 : Int32), .int (9 : Int32)]) (rest := []) ⟨hx, hb, hml, hown, hts⟩ (m_X4_in l x2 (7 : Int32) (9 : Int32)) (cwS 3 hts (gS k_658 k_659 k_24 k_660) rfl rfl rfl (by decide +kernel) ⟨Nat.le_of_ble_eq_true rfl, Nat.le_of_ble_eq_true rfl⟩) ps_0 rfl rfl hl.1 rfl (lv_room (Nat.le_of_ble_eq_true rfl)) dX4_thingAt_63 ⟨Nat.le_of_ble_eq_true rfl, Nat.le_of_ble_eq_true rfl⟩) (fun r hrr => ?_)
        subst hrr
        refine lv_if_eq (tgt := 83) hx hb dX4_thingAt_66 (by decide) (fun c_66_11 => ?_) (fun c_66_11 => ?_)
        · skip
          rw [if_pos c_66_11] at hw
          refine lv_iload_n hx hb dX4_thingAt_83 rfl (lv_at hl 2 rfl) ?_
          refine lv_if_ne (tgt := 95) hx hb dX4_thingAt_84 (by decide) (fun c_84_12 => ?_) (fun c_84_12 => ?_)
          · skip
            rw [if_neg c_84_12] at hw
            refine lv_iload_n hx hb dX4_thingAt_95 rfl (lv_at hl 2 rfl) ?_
            refine lv_iconst (v := 1) hx hb dX4_thingAt_96 (by decide) ?_
            refine lv_icmp_ne (tgt := 109) hx hb dX4_thingAt_97 (by decide) (fun c_97_13 => ?_) (fun c_97_13 => ?_)
            · skip
              rw [if_neg c_97_13] at hw
              refine lv_iload_n hx hb dX4_thingAt_109 rfl (lv_at hl 2 rfl) ?_
              refine lv_iconst (v := 2) hx hb dX4_thingAt_110 (by decide) ?_
              refine lv_icmp_ne (tgt := 123) hx hb dX4_thingAt_111 (by decide) (fun c_111_14 => ?_) (fun c_111_14 => ?_)
              · skip
                rw [if_neg c_111_14] at hw
                refine lv_iload_n hx hb dX4_thingAt_123 rfl (lv_at hl 2 rfl) ?_
                refine lv_iconst (v := 3) hx hb dX4_thingAt_124 (by decide) ?_
                refine lv_icmp_ne (tgt := 145) hx hb dX4_thingAt_125 (by decide) (fun c_125_15 => ?_) (fun c_125_15 => ?_)
                · skip
                  rw [if_neg c_125_15] at hw
                  refine lv_aload_n hx hb dX4_thingAt_145 rfl (lv_at hl 0 rfl) ?_
                  refine va_get (D := (dC, dI)) (ci := 4) (v := .ref (a 13)) (C := RX4) (T := TX4) (N := 23) hx hb hts (iwX4 _) hown hK hP 0 rfl rfl 13 (by decide) (hts _ (kc k_584)) (fun _ h9 => h9) rfl dX4_thingAt_146 ?_
                  refine lv_iload_n hx hb dX4_thingAt_149 rfl (lv_at hl 1 rfl) ?_
                  refine va_iald (D := (dC, dI)) (f := σ_2 13) hx hb hK hP 11 0 rfl rfl (i := x1) hf_9 dX4_thingAt_150 ?_
                  exact W.iret (v := σ_2 13 x1.toNatClampNeg) hx hb hr (fun t ht hW => ⟨⟨σ_2 13 x1.toNatClampNeg, σ_2, rfl, hw.symm.trans hR, by rw [ht]; exact hP, va_K.moved hW.alike hK, hD⟩, hS.F ht⟩) hS.2.2 dX4_thingAt_151
                · skip
                  rw [if_pos c_125_15] at hw
                  refine lv_aload_n hx hb dX4_thingAt_128 rfl (lv_at hl 0 rfl) ?_
                  refine va_get (D := (dC, dI)) (ci := 4) (v := .ref (a 15)) (C := RX4) (T := TX4) (N := 23) hx hb hts (iwX4 _) hown hK hP 0 rfl rfl 15 (by decide) (hts _ (kc k_586)) (fun _ h9 => h9) rfl dX4_thingAt_129 ?_
                  refine lv_iload_n hx hb dX4_thingAt_132 rfl (lv_at hl 1 rfl) ?_
                  refine va_zald (D := (dC, dI)) (f := σ_2 15) hx hb hK hP 13 1 rfl rfl (i := x1) hf_9 dX4_thingAt_133 ?_
                  refine lv_if_eq (tgt := 141) hx hb dX4_thingAt_134 (by decide) (fun c_134_16 => ?_) (fun c_134_16 => ?_)
                  · skip
                    rw [if_pos c_134_16] at hw
                    refine lv_iconst (v := 0) hx hb dX4_thingAt_141 (by decide) ?_
                    refine lv_goto (tgt := 151) hx hb dX4_thingAt_142 (by decide) ?_
                    exact W.iret (v := (0 : Int32)) hx hb hr (fun t ht hW => ⟨⟨(0 : Int32), σ_2, rfl, hw.symm.trans hR, by rw [ht]; exact hP, va_K.moved hW.alike hK, hD⟩, hS.F ht⟩) hS.2.2 dX4_thingAt_151
                  · skip
                    rw [if_neg c_134_16] at hw
                    refine lv_iconst (v := 1) hx hb dX4_thingAt_137 (by decide) ?_
                    refine lv_goto (tgt := 151) hx hb dX4_thingAt_138 (by decide) ?_
                    exact W.iret (v := (1 : Int32)) hx hb hr (fun t ht hW => ⟨⟨(1 : Int32), σ_2, rfl, hw.symm.trans hR, by rw [ht]; exact hP, va_K.moved hW.alike hK, hD⟩, hS.F ht⟩) hS.2.2 dX4_thingAt_151
              · skip
                rw [if_pos c_111_14] at hw
                refine lv_aload_n hx hb dX4_thingAt_114 rfl (lv_at hl 0 rfl) ?_
                refine va_get (D := (dC, dI)) (ci := 4) (v := .ref (a 14)) (C := RX4) (T := TX4) (N := 23) hx hb hts (iwX4 _) hown hK hP 0 rfl rfl 14 (by decide) (hts _ (kc k_585)) (fun _ h9 => h9) rfl dX4_thingAt_115 ?_
                refine lv_iload_n hx hb dX4_thingAt_118 rfl (lv_at hl 1 rfl) ?_
                refine va_iald (D := (dC, dI)) (f := σ_2 14) hx hb hK hP 12 0 rfl rfl (i := x1) hf_9 dX4_thingAt_119 ?_
                refine lv_goto (tgt := 151) hx hb dX4_thingAt_120 (by decide) ?_
                exact W.iret (v := σ_2 14 x1.toNatClampNeg) hx hb hr (fun t ht hW => ⟨⟨σ_2 14 x1.toNatClampNeg, σ_2, rfl, hw.symm.trans hR, by rw [ht]; exact hP, va_K.moved hW.alike hK, hD⟩, hS.F ht⟩) hS.2.2 dX4_thingAt_151
            · skip
              rw [if_pos c_97_13] at hw
              refine lv_aload_n hx hb dX4_thingAt_100 rfl (lv_at hl 0 rfl) ?_
              refine va_get (D := (dC, dI)) (ci := 4) (v := .ref (a 11)) (C := RX4) (T := TX4) (N := 23) hx hb hts (iwX4 _) hown hK hP 0 rfl rfl 11 (by decide) (hts _ (kc k_582)) (fun _ h9 => h9) rfl dX4_thingAt_101 ?_
              refine lv_iload_n hx hb dX4_thingAt_104 rfl (lv_at hl 1 rfl) ?_
              refine va_iald (D := (dC, dI)) (f := σ_2 11) hx hb hK hP 9 0 rfl rfl (i := x1) hf_9 dX4_thingAt_105 ?_
              refine lv_goto (tgt := 151) hx hb dX4_thingAt_106 (by decide) ?_
              exact W.iret (v := σ_2 11 x1.toNatClampNeg) hx hb hr (fun t ht hW => ⟨⟨σ_2 11 x1.toNatClampNeg, σ_2, rfl, hw.symm.trans hR, by rw [ht]; exact hP, va_K.moved hW.alike hK, hD⟩, hS.F ht⟩) hS.2.2 dX4_thingAt_151
          · skip
            rw [if_pos c_84_12] at hw
            refine lv_aload_n hx hb dX4_thingAt_87 rfl (lv_at hl 0 rfl) ?_
            refine lv_iload_n hx hb dX4_thingAt_88 rfl (lv_at hl 1 rfl) ?_
            refine vp_callSi (W.runV (As := [.int x1]) (rest := []) ⟨hx, hb, hml, hown, hts⟩ (m_X4_stateOf l dC dI cI cZ a σ_2 x1 hf_9) (cwV 1 hts (gV k_703 k_705 k_15 k_24 k_706) rfl rfl rfl (by decide +kernel) ⟨Nat.le_of_ble_eq_true rfl, Nat.le_of_ble_eq_true rfl⟩) (pv_rr (q := (RX4, TX4, 23)) (q0 := 0) (ci := 4) hK hP rfl rfl) rfl rfl hl.1 rfl (lv_room (Nat.le_of_ble_eq_true rfl)) dX4_thingAt_89 ⟨Nat.le_of_ble_eq_true rfl, Nat.le_of_ble_eq_true rfl⟩) (fun r hrr => ?_)
            subst hrr
            refine lv_goto (tgt := 151) hx hb dX4_thingAt_92 (by decide) ?_
            exact W.iret (v := rf_stateOf σ_2 x1) hx hb hr (fun t ht hW => ⟨⟨rf_stateOf σ_2 x1, σ_2, rfl, hw.symm.trans hR, by rw [ht]; exact hP, va_K.moved hW.alike hK, hD⟩, hS.F ht⟩) hS.2.2 dX4_thingAt_151
        · skip
          rw [if_neg c_66_11] at hw
          refine lv_aload_n hx hb dX4_thingAt_69 rfl (lv_at hl 0 rfl) ?_
          refine va_get (D := (dC, dI)) (ci := 4) (v := .ref (a 16)) (C := RX4) (T := TX4) (N := 23) hx hb hts (iwX4 _) hown hK hP 0 rfl rfl 16 (by decide) (hts _ (kc k_587)) (fun _ h9 => h9) rfl dX4_thingAt_70 ?_
          refine lv_iconst (v := 3) hx hb dX4_thingAt_73 (by decide) ?_
          refine lv_iload_n hx hb dX4_thingAt_74 rfl (lv_at hl 1 rfl) ?_
          refine lv_imul hx hb dX4_thingAt_75 ?_
          refine lv_iload_n hx hb dX4_thingAt_76 rfl (lv_at hl 2 rfl) ?_
          refine lv_iadd hx hb dX4_thingAt_77 ?_
          refine lv_bipush (v := 7) hx hb dX4_thingAt_78 (by decide) ?_
          refine lv_isub hx hb dX4_thingAt_80 ?_
          refine va_iald (D := (dC, dI)) (f := σ_2 16) hx hb hK hP 14 0 rfl rfl (i := (((3 : Int32) * x1) + x2) - (7 : Int32)) (in_wh7 hf_9 c_66_11) dX4_thingAt_81 ?_
          exact W.iret (v := σ_2 16 ((((3 : Int32) * x1) + x2) - (7 : Int32)).toNatClampNeg) hx hb hr (fun t ht hW => ⟨⟨σ_2 16 ((((3 : Int32) * x1) + x2) - (7 : Int32)).toNatClampNeg, σ_2, rfl, hw.symm.trans hR, by rw [ht]; exact hP, va_K.moved hW.alike hK, hD⟩, hS.F ht⟩) hS.2.2 dX4_thingAt_82
      · skip
        rw [if_neg c_42_10] at hw
        refine lv_aload_n hx hb dX4_thingAt_45 rfl (lv_at hl 0 rfl) ?_
        refine va_get (D := (dC, dI)) (ci := 4) (v := .ref (a 17)) (C := RX4) (T := TX4) (N := 23) hx hb hts (iwX4 _) hown hK hP 0 rfl rfl 17 (by decide) (hts _ (kc k_588)) (fun _ h9 => h9) rfl dX4_thingAt_46 ?_
        refine lv_iconst (v := 3) hx hb dX4_thingAt_49 (by decide) ?_
        refine lv_iload_n hx hb dX4_thingAt_50 rfl (lv_at hl 1 rfl) ?_
        refine lv_imul hx hb dX4_thingAt_51 ?_
        refine lv_iload_n hx hb dX4_thingAt_52 rfl (lv_at hl 2 rfl) ?_
        refine lv_iadd hx hb dX4_thingAt_53 ?_
        refine lv_iconst (v := 4) hx hb dX4_thingAt_54 (by decide) ?_
        refine lv_isub hx hb dX4_thingAt_55 ?_
        refine va_iald (D := (dC, dI)) (f := σ_2 17) hx hb hK hP 15 0 rfl rfl (i := (((3 : Int32) * x1) + x2) - (4 : Int32)) (in_wh4 hf_9 c_42_10) dX4_thingAt_56 ?_
        exact W.iret (v := σ_2 17 ((((3 : Int32) * x1) + x2) - (4 : Int32)).toNatClampNeg) hx hb hr (fun t ht hW => ⟨⟨σ_2 17 ((((3 : Int32) * x1) + x2) - (4 : Int32)).toNatClampNeg, σ_2, rfl, hw.symm.trans hR, by rw [ht]; exact hP, va_K.moved hW.alike hK, hD⟩, hS.F ht⟩) hS.2.2 dX4_thingAt_57
    · skip
      rw [if_neg c_30_4] at hw
      refine lv_iconst (v := 0) hx hb dX4_thingAt_33 (by decide) ?_
      exact W.iret (v := (0 : Int32)) hx hb hr (fun t ht hW => ⟨⟨(0 : Int32), σ_2, rfl, hw.symm.trans hR, by rw [ht]; exact hP, va_K.moved hW.alike hK, hD⟩, hS.F ht⟩) hS.2.2 dX4_thingAt_34
  have hq_1 := hb_1
  refine lv_if_eq (tgt := 19) hx hb dX4_thingAt_6 (by decide) (fun c_6_17 => ?_) (fun c_6_17 => ?_)
  · skip
    rw [if_pos c_6_17] at hq_1
    refine lv_iconst (v := 1) hx hb dX4_thingAt_19 (by decide) ?_
    refine lv_goto (tgt := 24) hx hb dX4_thingAt_20 (by decide) ?_
    exact J_1 _ ls hq_1 (lv_sub hl [0, 1, 2] rfl)
  · skip
    rw [if_neg c_6_17] at hq_1
    refine lv_iload_n hx hb dX4_thingAt_9 rfl (lv_at hl 2 rfl) ?_
    refine lv_iconst (v := 0) hx hb dX4_thingAt_10 (by decide) ?_
    refine lv_bipush (v := 10) hx hb dX4_thingAt_11 (by decide) ?_
    refine vp_callSi (W.runS (As := [.int x2, .int (0 : Int32), .int (10 : Int32)]) (rest := [.ref (a 0)]) ⟨hx, hb, hml, hown, hts⟩ (m_X4_in l x2 (0 : Int32) (10 : Int32)) (cwS 3 hts (gS k_658 k_659 k_24 k_660) rfl rfl rfl (by decide +kernel) ⟨Nat.le_of_ble_eq_true rfl, Nat.le_of_ble_eq_true rfl⟩) ps_0 rfl rfl hl.1 rfl (lv_room (Nat.le_of_ble_eq_true rfl)) dX4_thingAt_13 ⟨Nat.le_of_ble_eq_true rfl, Nat.le_of_ble_eq_true rfl⟩) (fun r hrr => ?_)
    subst hrr
    refine lv_if_ne (tgt := 23) hx hb dX4_thingAt_16 (by decide) (fun c_16_18 => ?_) (fun c_16_18 => ?_)
    · skip
      rw [if_neg c_16_18] at hq_1
      refine lv_iconst (v := 0) hx hb dX4_thingAt_23 (by decide) ?_
      exact J_1 _ ls hq_1 (lv_sub hl [0, 1, 2] rfl)
    · skip
      rw [if_pos c_16_18] at hq_1
      refine lv_iconst (v := 1) hx hb dX4_thingAt_19 (by decide) ?_
      refine lv_goto (tgt := 24) hx hb dX4_thingAt_20 (by decide) ?_
      exact J_1 _ ls hq_1 (lv_sub hl [0, 1, 2] rfl)
set_option maxHeartbeats 4000000 in
set_option maxRecDepth 100000 in
theorem m_X4_week (l : Launch) (dC : Nat → ClassId) (dI : Nat → Nat → Nat) (cI cZ : ClassId) (a : Nat → Nat) (sz : Nat) (σ : St) (x1 : Int32) (hiv : IVr σ) : Met l yX4_week wsX4_week ({ frames := 1, cells := 0, slots := 0, locals := 24 }) (pMr dC dI cI cZ a sz σ [.ref (a 0), .int x1]) (va_Qi (fun r σ9 => (r, σ9) = rf_week σ x1) (bMr dC dI cI cZ a (va_A (rw cI cZ a σ) sz)) (va_A (rw cI cZ a σ) sz)) 0 0 (va_A (rw cI cZ a σ) sz) := by
  refine Met.ofW (cc := cX4_week) (maxL := 2) (ret := (some .int)) (by decide) rfl ?_
  intro p e s m args below meth c s₁ B hml hv
  obtain ⟨rfl, hsz, hP, hK, hD0⟩ := hv
  have hx := B.exec
  have hb := B.bytes
  have hr := B.returns
  have hts := atoms_spec (ws := wsX4_week) B.pre
  have hown : s.vm.findClass RX4 = some m.cls := findClass_of_methodNamed B.named
  have hlocks := B.notSynchronized
  subst hsz
  have hD := hD0.self (sz := s.heap.size)
  generalize hAe : va_A (rw cI cZ a σ) s.heap.size = A at hD ⊢
  have hA : ∀ q : Nat, s.heap.size ≤ q → A q := fun q h => by rw [← hAe]; exact Or.inr h
  clear hAe hD0
  obtain ⟨H, hHe⟩ : ∃ z, z = s.heap := ⟨_, rfl⟩
  obtain ⟨locs, hLe⟩ : ∃ z : List Loc, z = [] := ⟨_, rfl⟩
  have hS : va_S A s.heap H locs := by rw [hHe, hLe]; exact va_S.rf
  have hP : va_P (dC, dI) vwCl (rw cI cZ a σ) H := by rw [hHe]; exact hP
  refine W_ofH hHe hLe ?_
  clear hHe hLe
  have hl := lv_entry ([.ref (a 0), .int x1]) (n := 2) (Nat.le_of_ble_eq_true rfl)
  rw [lg_entry_eq]
  generalize (lg_sl ([.ref (a 0), .int x1]) ++ List.replicate (2 - (lg_sl ([.ref (a 0), .int x1])).length) Slot.unset).toArray = ls at hl ⊢
  have hl : lv_has ls 2 [(0, .ref (a 0)), (1, .int x1)] := hl
  obtain ⟨R, hR⟩ : ∃ z, z = rf_week σ x1 := ⟨_, rfl⟩
  have hw := hR
  unfold rf_week at hw
  refine lv_aload_n hx hb dX4_week_0 rfl (lv_at hl 0 rfl) ?_
  refine lv_iload_n hx hb dX4_week_1 rfl (lv_at hl 1 rfl) ?_
  refine lv_iconst (v := 0) hx hb dX4_week_2 (by decide) ?_
  refine lv_aload_n hx hb dX4_week_3 rfl (lv_at hl 0 rfl) ?_
  refine va_get (D := (dC, dI)) (ci := 4) (v := .int (σ 0 20)) (C := RX4) (T := TX4) (N := 23) hx hb hts (iwX4 _) hown hK hP 0 rfl rfl 20 (by decide) (hts _ (kc k_591)) (fun _ h9 => h9) rfl dX4_week_4 ?_
  refine lv_iconst (v := 1) hx hb dX4_week_7 (by decide) ?_
  refine lv_isub hx hb dX4_week_8 ?_
  refine vp_callSi (W.runS (As := [.int x1, .int (0 : Int32), .int ((σ 0 20) - (1 : Int32))]) (rest := [.ref (a 0)]) ⟨hx, hb, hml, hown, hts⟩ (m_X4_in l x1 (0 : Int32) ((σ 0 20) - (1 : Int32))) (cwS 3 hts (gS k_658 k_659 k_24 k_660) rfl rfl rfl (by decide +kernel) ⟨Nat.le_of_ble_eq_true rfl, Nat.le_of_ble_eq_true rfl⟩) ps_0 rfl rfl hl.1 rfl (lv_room (Nat.le_of_ble_eq_true rfl)) dX4_week_9 ⟨Nat.le_of_ble_eq_true rfl, Nat.le_of_ble_eq_true rfl⟩) (fun r hrr => ?_)
  subst hrr
  obtain ⟨b_1, hb_1⟩ : ∃ z : Int32, z = (if (rf_in x1 (0 : Int32) ((σ 0 20) - (1 : Int32))) = 0 then (1 : Int32) else (0 : Int32)) := ⟨_, rfl⟩
  replace hw : R = (let σ_2 : St := (rf_throwing σ b_1 (0 : Int32) (0 : Int32) (0 : Int32)).2; if ((rf_throwing σ b_1 (0 : Int32) (0 : Int32) (0 : Int32)).1) = 0 then (σ_2 21 x1.toNatClampNeg, σ_2) else ((0 : Int32), σ_2)) := by subst hb_1; exact hw
  have J_1 : ∀ (v9 : Int32) (ls : Array Slot), b_1 = v9 → lv_has ls 2 [(0, .ref (a 0)), (1, .int x1)] → W p l e (headSpec wsX4_week ({ frames := 1, cells := 0, slots := 0, locals := 24 })).room s m [.ref (a 0), .int x1].toArray below meth c H locs 0 0 (MQ below (va_Qi (fun r σ9 => (r, σ9) = rf_week σ x1) (bMr dC dI cI cZ a A) A) [.ref (a 0), .int x1].toArray s 0 0 A) (F0 m 20 ls [.int v9, .ref (a 0)]) := by
    intro v9 ls hv9 hl
    subst hv9
    refine lv_iconst (v := 0) hx hb dX4_week_20 (by decide) ?_
    refine lv_iconst (v := 0) hx hb dX4_week_21 (by decide) ?_
    refine lv_iconst (v := 0) hx hb dX4_week_22 (by decide) ?_
    have hFc := fr_all hD hS hA
    refine va_calli (va_runV (As := [.int b_1, .int (0 : Int32), .int (0 : Int32), .int (0 : Int32)]) (rest := []) ⟨hx, hb, hml, hown, hts⟩ (m_X4_throwing l dC dI cI cZ a H.size σ b_1 (0 : Int32) (0 : Int32) (0 : Int32)) (cwV 4 hts (gV k_650 k_652 k_11 k_24 k_653) rfl rfl rfl (by decide +kernel) ⟨Nat.le_of_ble_eq_true rfl, Nat.le_of_ble_eq_true rfl⟩) (pv_mr (q := (RX4, TX4, 23)) (q0 := 0) (ci := 4) hK hP hD rfl rfl) rfl rfl hl.1 rfl (lv_room (Nat.le_of_ble_eq_true rfl)) dX4_week_23 ⟨Nat.le_of_ble_eq_true rfl, Nat.le_of_ble_eq_true rfl⟩) hS (fun q _ h => hFc q h) hFc (fun r σ_2 t H1 locs ht hvm hw9 hB hz1 hk1 hS => ?_)
    obtain ⟨hP, hK1, hD1⟩ := hB
    rw [ht] at hP
    have hD := hD1.weaken (fun _ _ _ h => hFc _ h)
    clear hFc hD1 hK1
    obtain ⟨rfl, eσ_2⟩ : r = (rf_throwing σ b_1 (0 : Int32) (0 : Int32) (0 : Int32)).1 ∧ σ_2 = (rf_throwing σ b_1 (0 : Int32) (0 : Int32) (0 : Int32)).2 := ⟨congrArg Prod.fst hw9, congrArg Prod.snd hw9⟩
    clear hw9
    replace hw : R = (if ((rf_throwing σ b_1 (0 : Int32) (0 : Int32) (0 : Int32)).1) = 0 then (σ_2 21 x1.toNatClampNeg, σ_2) else ((0 : Int32), σ_2)) := by subst eσ_2; exact hw
    generalize H1 = H at hP hS ⊢
    have hiv_3 : IVr σ_2 := by rw [eσ_2]; exact ir_thr hiv _ _ _ _
    refine lv_if_eq (tgt := 31) hx hb dX4_week_26 (by decide) (fun c_26_4 => ?_) (fun c_26_4 => ?_)
    · skip
      rw [if_pos c_26_4] at hw
      obtain ⟨z0_5, z1_6, z2_7, z3_8⟩ := thr0 c_26_4
      have hf_9 : vp_in x1 6 := bd_week hiv hb_1 z0_5
      refine lv_aload_n hx hb dX4_week_31 rfl (lv_at hl 0 rfl) ?_
      refine va_get (D := (dC, dI)) (ci := 4) (v := .ref (a 21)) (C := RX4) (T := TX4) (N := 23) hx hb hts (iwX4 _) hown hK hP 0 rfl rfl 21 (by decide) (hts _ (kc k_592)) (fun _ h9 => h9) rfl dX4_week_32 ?_
      refine lv_iload_n hx hb dX4_week_35 rfl (lv_at hl 1 rfl) ?_
      refine va_iald (D := (dC, dI)) (f := σ_2 21) hx hb hK hP 18 0 rfl rfl (i := x1) hf_9 dX4_week_36 ?_
      exact W.iret (v := σ_2 21 x1.toNatClampNeg) hx hb hr (fun t ht hW => ⟨⟨σ_2 21 x1.toNatClampNeg, σ_2, rfl, hw.symm.trans hR, by rw [ht]; exact hP, va_K.moved hW.alike hK, hD⟩, hS.F ht⟩) hS.2.2 dX4_week_37
    · skip
      rw [if_neg c_26_4] at hw
      refine lv_iconst (v := 0) hx hb dX4_week_29 (by decide) ?_
      exact W.iret (v := (0 : Int32)) hx hb hr (fun t ht hW => ⟨⟨(0 : Int32), σ_2, rfl, hw.symm.trans hR, by rw [ht]; exact hP, va_K.moved hW.alike hK, hD⟩, hS.F ht⟩) hS.2.2 dX4_week_30
  have hq_1 := hb_1
  refine lv_if_ne (tgt := 19) hx hb dX4_week_12 (by decide) (fun c_12_10 => ?_) (fun c_12_10 => ?_)
  · skip
    rw [if_neg c_12_10] at hq_1
    refine lv_iconst (v := 0) hx hb dX4_week_19 (by decide) ?_
    exact J_1 _ ls hq_1 (lv_sub hl [0, 1] rfl)
  · skip
    rw [if_pos c_12_10] at hq_1
    refine lv_iconst (v := 1) hx hb dX4_week_15 (by decide) ?_
    refine lv_goto (tgt := 20) hx hb dX4_week_16 (by decide) ?_
    exact J_1 _ ls hq_1 (lv_sub hl [0, 1] rfl)
set_option maxHeartbeats 4000000 in
set_option maxRecDepth 100000 in
theorem m_X4_thing (l : Launch) (dC : Nat → ClassId) (dI : Nat → Nat → Nat) (cI cZ : ClassId) (a : Nat → Nat) (sz : Nat) (σ : St) (x1 : Int32) (x2 : Int32) (x3 : Int32) (x4 : Int32) (x5 : Int32) (x6 : Int32) (hiv : IVr σ) : Met l yX4_thing wsX4_thing ({ frames := 2, cells := 0, slots := 0, locals := 42 }) (pMr dC dI cI cZ a sz σ [.ref (a 0), .int x1, .int x2, .int x3, .int x4, .int x5, .int x6]) (va_Qi (fun r σ9 => (r, σ9) = rf_thing σ x1 x2 x3 x4 x5 x6) (bMr dC dI cI cZ a (va_A (rw cI cZ a σ) sz)) (va_A (rw cI cZ a σ) sz)) 0 0 (va_A (rw cI cZ a σ) sz) := by
  refine Met.ofW (cc := cX4_thing) (maxL := 11) (ret := (some .int)) (by decide) rfl ?_
  intro p e s m args below meth c s₁ B hml hv
  obtain ⟨rfl, hsz, hP, hK, hD0⟩ := hv
  have hx := B.exec
  have hb := B.bytes
  have hr := B.returns
  have hts := atoms_spec (ws := wsX4_thing) B.pre
  have hown : s.vm.findClass RX4 = some m.cls := findClass_of_methodNamed B.named
  have hlocks := B.notSynchronized
  subst hsz
  have hD := hD0.self (sz := s.heap.size)
  generalize hAe : va_A (rw cI cZ a σ) s.heap.size = A at hD ⊢
  have hA : ∀ q : Nat, s.heap.size ≤ q → A q := fun q h => by rw [← hAe]; exact Or.inr h
  clear hAe hD0
  obtain ⟨H, hHe⟩ : ∃ z, z = s.heap := ⟨_, rfl⟩
  obtain ⟨locs, hLe⟩ : ∃ z : List Loc, z = [] := ⟨_, rfl⟩
  have hS : va_S A s.heap H locs := by rw [hHe, hLe]; exact va_S.rf
  have hP : va_P (dC, dI) vwCl (rw cI cZ a σ) H := by rw [hHe]; exact hP
  refine W_ofH hHe hLe ?_
  clear hHe hLe
  have hl := lv_entry ([.ref (a 0), .int x1, .int x2, .int x3, .int x4, .int x5, .int x6]) (n := 11) (Nat.le_of_ble_eq_true rfl)
  rw [lg_entry_eq]
  generalize (lg_sl ([.ref (a 0), .int x1, .int x2, .int x3, .int x4, .int x5, .int x6]) ++ List.replicate (11 - (lg_sl ([.ref (a 0), .int x1, .int x2, .int x3, .int x4, .int x5, .int x6])).length) Slot.unset).toArray = ls at hl ⊢
  have hl : lv_has ls 11 [(0, .ref (a 0)), (1, .int x1), (2, .int x2), (3, .int x3), (4, .int x4), (5, .int x5), (6, .int x6)] := hl
  obtain ⟨R, hR⟩ : ∃ z, z = rf_thing σ x1 x2 x3 x4 x5 x6 := ⟨_, rfl⟩
  have hw := hR
  unfold rf_thing at hw
  have hle := ir_le hiv
  refine lv_iload_n hx hb dX4_thing_0 rfl (lv_at hl 1 rfl) ?_
  refine lv_iconst (v := 0) hx hb dX4_thing_1 (by decide) ?_
  refine lv_iconst (v := 4) hx hb dX4_thing_2 (by decide) ?_
  refine vp_callSi (W.runS (As := [.int x1, .int (0 : Int32), .int (4 : Int32)]) (rest := []) ⟨hx, hb, hml, hown, hts⟩ (m_X4_in l x1 (0 : Int32) (4 : Int32)) (cwS 3 hts (gS k_658 k_659 k_24 k_660) rfl rfl rfl (by decide +kernel) ⟨Nat.le_of_ble_eq_true rfl, Nat.le_of_ble_eq_true rfl⟩) ps_0 rfl rfl hl.1 rfl (lv_room (Nat.le_of_ble_eq_true rfl)) dX4_thing_3 ⟨Nat.le_of_ble_eq_true rfl, Nat.le_of_ble_eq_true rfl⟩) (fun r hrr => ?_)
  subst hrr
  obtain ⟨b_1, hb_1⟩ : ∃ z : Int32, z = (if (rf_in x1 (0 : Int32) (4 : Int32)) = 0 then (1 : Int32) else (if (rf_in x4 (0 : Int32) (9 : Int32)) = 0 then (1 : Int32) else (if (rf_in x5 (0 : Int32) (19 : Int32)) = 0 then (1 : Int32) else (0 : Int32)))) := ⟨_, rfl⟩
  replace hw : R = (let b_2 : Int32 := (if (rf_isSerial x2) = 0 then (1 : Int32) else (if (rf_in x6 (0 : Int32) (σ 0 1)) = 0 then (1 : Int32) else (0 : Int32))); let b_3 : Int32 := (if b_2 = 0 then (if (rf_letterOf x2) = x3 then (0 : Int32) else (1 : Int32)) else (0 : Int32)); rf_thing_88 σ x1 x2 x3 x4 x5 x6 (cntR σ) 0 b_1 b_2 b_3) := by subst hb_1; exact hw
  have J_1 : ∀ (v9 : Int32) (ls : Array Slot), b_1 = v9 → lv_has ls 11 [(0, .ref (a 0)), (1, .int x1), (2, .int x2), (3, .int x3), (4, .int x4), (5, .int x5), (6, .int x6)] → W p l e (headSpec wsX4_thing ({ frames := 2, cells := 0, slots := 0, locals := 42 })).room s m [.ref (a 0), .int x1, .int x2, .int x3, .int x4, .int x5, .int x6].toArray below meth c H locs 0 0 (MQ below (va_Qi (fun r σ9 => (r, σ9) = rf_thing σ x1 x2 x3 x4 x5 x6) (bMr dC dI cI cZ a A) A) [.ref (a 0), .int x1, .int x2, .int x3, .int x4, .int x5, .int x6].toArray s 0 0 A) (F0 m 36 ls [.int v9]) := by
    intro v9 ls hv9 hl
    subst hv9
    refine lv_istore (lv' := [(7, .int b_1), (0, .ref (a 0)), (1, .int x1), (2, .int x2), (3, .int x3), (4, .int x4), (5, .int x5), (6, .int x6)]) hx hb dX4_thing_36 hl (by decide) rfl (fun ls hl => ?_)
    refine lv_iload_n hx hb dX4_thing_38 rfl (lv_at hl 3 rfl) ?_
    refine vp_callSi (W.runS (As := [.int x2]) (rest := []) ⟨hx, hb, hml, hown, hts⟩ (m_X4_isSerial l x2) (cwS 1 hts (gS k_676 k_677 k_24 k_678) rfl rfl rfl (by decide +kernel) ⟨Nat.le_of_ble_eq_true rfl, Nat.le_of_ble_eq_true rfl⟩) ps_0 rfl rfl hl.1 rfl (lv_room (Nat.le_of_ble_eq_true rfl)) dX4_thing_39 ⟨Nat.le_of_ble_eq_true rfl, Nat.le_of_ble_eq_true rfl⟩) (fun r hrr => ?_)
    subst hrr
    obtain ⟨b_2, hb_2⟩ : ∃ z : Int32, z = (if (rf_isSerial x2) = 0 then (1 : Int32) else (if (rf_in x6 (0 : Int32) (σ 0 1)) = 0 then (1 : Int32) else (0 : Int32))) := ⟨_, rfl⟩
    replace hw : R = (let b_3 : Int32 := (if b_2 = 0 then (if (rf_letterOf x2) = x3 then (0 : Int32) else (1 : Int32)) else (0 : Int32)); rf_thing_88 σ x1 x2 x3 x4 x5 x6 (cntR σ) 0 b_1 b_2 b_3) := by subst hb_2; exact hw
    have J_2 : ∀ (v9 : Int32) (ls : Array Slot), b_2 = v9 → lv_has ls 11 [(0, .ref (a 0)), (1, .int x1), (2, .int x2), (3, .int x3), (4, .int x4), (5, .int x5), (6, .int x6), (7, .int b_1)] → W p l e (headSpec wsX4_thing ({ frames := 2, cells := 0, slots := 0, locals := 42 })).room s m [.ref (a 0), .int x1, .int x2, .int x3, .int x4, .int x5, .int x6].toArray below meth c H locs 0 0 (MQ below (va_Qi (fun r σ9 => (r, σ9) = rf_thing σ x1 x2 x3 x4 x5 x6) (bMr dC dI cI cZ a A) A) [.ref (a 0), .int x1, .int x2, .int x3, .int x4, .int x5, .int x6].toArray s 0 0 A) (F0 m 63 ls [.int v9]) := by
      intro v9 ls hv9 hl
      subst hv9
      refine lv_istore (lv' := [(8, .int b_2), (0, .ref (a 0)), (1, .int x1), (2, .int x2), (3, .int x3), (4, .int x4), (5, .int x5), (6, .int x6), (7, .int b_1)]) hx hb dX4_thing_63 hl (by decide) rfl (fun ls hl => ?_)
      refine lv_iload hx hb dX4_thing_65 (lv_at hl 0 rfl) ?_
      obtain ⟨b_3, hb_3⟩ : ∃ z : Int32, z = (if b_2 = 0 then (if (rf_letterOf x2) = x3 then (0 : Int32) else (1 : Int32)) else (0 : Int32)) := ⟨_, rfl⟩
      replace hw : R = (rf_thing_88 σ x1 x2 x3 x4 x5 x6 (cntR σ) 0 b_1 b_2 b_3) := by subst hb_3; exact hw
      have J_3 : ∀ (v9 : Int32) (ls : Array Slot), b_3 = v9 → lv_has ls 11 [(0, .ref (a 0)), (1, .int x1), (2, .int x2), (3, .int x3), (4, .int x4), (5, .int x5), (6, .int x6), (7, .int b_1), (8, .int b_2)] → W p l e (headSpec wsX4_thing ({ frames := 2, cells := 0, slots := 0, locals := 42 })).room s m [.ref (a 0), .int x1, .int x2, .int x3, .int x4, .int x5, .int x6].toArray below meth c H locs 0 0 (MQ below (va_Qi (fun r σ9 => (r, σ9) = rf_thing σ x1 x2 x3 x4 x5 x6) (bMr dC dI cI cZ a A) A) [.ref (a 0), .int x1, .int x2, .int x3, .int x4, .int x5, .int x6].toArray s 0 0 A) (F0 m 83 ls [.int v9]) := by
        intro v9 ls hv9 hl
        subst hv9
        refine lv_istore (lv' := [(9, .int b_3), (0, .ref (a 0)), (1, .int x1), (2, .int x2), (3, .int x3), (4, .int x4), (5, .int x5), (6, .int x6), (7, .int b_1), (8, .int b_2)]) hx hb dX4_thing_83 hl (by decide) rfl (fun ls hl => ?_)
        refine lv_iconst (v := 0) hx hb dX4_thing_85 (by decide) ?_
        refine lv_istore (lv' := [(10, .int (0 : Int32)), (9, .int b_3), (0, .ref (a 0)), (1, .int x1), (2, .int x2), (3, .int x3), (4, .int x4), (5, .int x5), (6, .int x6), (7, .int b_1), (8, .int b_2)]) hx hb dX4_thing_86 hl (by decide) rfl (fun ls hl => ?_)
        have loop : ∀ (n k : Nat) (x7 : Int32) (x8 : Int32) (x9 : Int32) (ls : Array Slot), k + n = cntR σ → x7 = (if (rf_in x1 (0 : Int32) (4 : Int32)) = 0 then (1 : Int32) else (if (rf_in x4 (0 : Int32) (9 : Int32)) = 0 then (1 : Int32) else (if (rf_in x5 (0 : Int32) (19 : Int32)) = 0 then (1 : Int32) else (0 : Int32)))) → lv_has ls 11 [(0, .ref (a 0)), (1, .int x1), (2, .int x2), (3, .int x3), (4, .int x4), (5, .int x5), (6, .int x6), (7, .int x7), (8, .int x8), (9, .int x9), (10, .int (nI k))] → R = rf_thing_88 σ x1 x2 x3 x4 x5 x6 n k x7 x8 x9 → W p l e (headSpec wsX4_thing ({ frames := 2, cells := 0, slots := 0, locals := 42 })).room s m [.ref (a 0), .int x1, .int x2, .int x3, .int x4, .int x5, .int x6].toArray below meth c H locs 0 0 (MQ below (va_Qi (fun r σ9 => (r, σ9) = rf_thing σ x1 x2 x3 x4 x5 x6) (bMr dC dI cI cZ a A) A) [.ref (a 0), .int x1, .int x2, .int x3, .int x4, .int x5, .int x6].toArray s 0 0 A) (F0 m 88 ls []) := by
          intro n
          induction n with
          | zero =>
            intro k x7 x8 x9 ls hkn h7 hl hw
            rw [rf_thing_88_0] at hw
            refine lv_iload hx hb dX4_thing_88 (lv_at hl 10 rfl) ?_
            refine lv_aload_n hx hb dX4_thing_90 rfl (lv_at hl 0 rfl) ?_
            refine va_get (D := (dC, dI)) (ci := 4) (v := .int (σ 0 7)) (C := RX4) (T := TX4) (N := 23) hx hb hts (iwX4 _) hown hK hP 0 rfl rfl 7 (by decide) (hts _ (kc k_578)) (fun _ h9 => h9) rfl dX4_thing_91 ?_
            refine lv_icmp_ge (tgt := 126) hx hb dX4_thing_94 (by decide) (fun c_94_4 => ?_) (fun c_94_4 => ?_)
            · skip
              refine lv_aload_n hx hb dX4_thing_126 rfl (lv_at hl 0 rfl) ?_
              refine lv_iload hx hb dX4_thing_127 (lv_at hl 7 rfl) ?_
              refine lv_iload hx hb dX4_thing_129 (lv_at hl 8 rfl) ?_
              refine lv_iload hx hb dX4_thing_131 (lv_at hl 9 rfl) ?_
              refine lv_aload_n hx hb dX4_thing_133 rfl (lv_at hl 0 rfl) ?_
              refine va_get (D := (dC, dI)) (ci := 4) (v := .int (σ 0 7)) (C := RX4) (T := TX4) (N := 23) hx hb hts (iwX4 _) hown hK hP 0 rfl rfl 7 (by decide) (hts _ (kc k_578)) (fun _ h9 => h9) rfl dX4_thing_134 ?_
              refine lv_bipush (v := 40) hx hb dX4_thing_137 (by decide) ?_
              obtain ⟨b_5, hb_5⟩ : ∃ z : Int32, z = (if (σ 0 7) = (40 : Int32) then (1 : Int32) else (0 : Int32)) := ⟨_, rfl⟩
              replace hw : R = (let σ_6 : St := (rf_throwing σ x7 x8 x9 b_5).2; if ((rf_throwing σ x7 x8 x9 b_5).1) = 0 then (let σ_14 : St := su σ_6 8 ((σ_6 0 7).toNatClampNeg) x1; let σ_15 : St := su σ_14 9 ((σ_14 0 7).toNatClampNeg) x2; let σ_16 : St := su σ_15 10 ((σ_15 0 7).toNatClampNeg) x4; let σ_17 : St := su σ_16 11 ((σ_16 0 7).toNatClampNeg) x5; let σ_18 : St := su σ_17 12 ((σ_17 0 7).toNatClampNeg) x6; let σ_19 : St := su σ_18 13 ((σ_18 0 7).toNatClampNeg) (-1 : Int32); rf_thing_221 σ x1 x2 x3 x4 x5 x6 σ_19 3 0) else ((0 : Int32), σ_6)) := by subst hb_5; exact hw
              have J_5 : ∀ (v9 : Int32) (ls : Array Slot), b_5 = v9 → lv_has ls 11 [(0, .ref (a 0)), (1, .int x1), (2, .int x2), (3, .int x3), (4, .int x4), (5, .int x5), (6, .int x6), (7, .int x7), (8, .int x8), (9, .int x9), (10, .int (nI k))] → W p l e (headSpec wsX4_thing ({ frames := 2, cells := 0, slots := 0, locals := 42 })).room s m [.ref (a 0), .int x1, .int x2, .int x3, .int x4, .int x5, .int x6].toArray below meth c H locs 0 0 (MQ below (va_Qi (fun r σ9 => (r, σ9) = rf_thing σ x1 x2 x3 x4 x5 x6) (bMr dC dI cI cZ a A) A) [.ref (a 0), .int x1, .int x2, .int x3, .int x4, .int x5, .int x6].toArray s 0 0 A) (F0 m 147 ls [.int v9, .int x9, .int x8, .int x7, .ref (a 0)]) := by
                intro v9 ls hv9 hl
                subst hv9
                have hFc := fr_all hD hS hA
                refine va_calli (va_runV (As := [.int x7, .int x8, .int x9, .int b_5]) (rest := []) ⟨hx, hb, hml, hown, hts⟩ (m_X4_throwing l dC dI cI cZ a H.size σ x7 x8 x9 b_5) (cwV 4 hts (gV k_650 k_652 k_11 k_24 k_653) rfl rfl rfl (by decide +kernel) ⟨Nat.le_of_ble_eq_true rfl, Nat.le_of_ble_eq_true rfl⟩) (pv_mr (q := (RX4, TX4, 23)) (q0 := 0) (ci := 4) hK hP hD rfl rfl) rfl rfl hl.1 rfl (lv_room (Nat.le_of_ble_eq_true rfl)) dX4_thing_147 ⟨Nat.le_of_ble_eq_true rfl, Nat.le_of_ble_eq_true rfl⟩) hS (fun q _ h => hFc q h) hFc (fun r σ_6 t H1 locs ht hvm hw9 hB hz1 hk1 hS => ?_)
                obtain ⟨hP, hK1, hD1⟩ := hB
                rw [ht] at hP
                have hD := hD1.weaken (fun _ _ _ h => hFc _ h)
                clear hFc hD1 hK1
                obtain ⟨rfl, eσ_6⟩ : r = (rf_throwing σ x7 x8 x9 b_5).1 ∧ σ_6 = (rf_throwing σ x7 x8 x9 b_5).2 := ⟨congrArg Prod.fst hw9, congrArg Prod.snd hw9⟩
                clear hw9
                replace hw : R = (if ((rf_throwing σ x7 x8 x9 b_5).1) = 0 then (let σ_14 : St := su σ_6 8 ((σ_6 0 7).toNatClampNeg) x1; let σ_15 : St := su σ_14 9 ((σ_14 0 7).toNatClampNeg) x2; let σ_16 : St := su σ_15 10 ((σ_15 0 7).toNatClampNeg) x4; let σ_17 : St := su σ_16 11 ((σ_16 0 7).toNatClampNeg) x5; let σ_18 : St := su σ_17 12 ((σ_17 0 7).toNatClampNeg) x6; let σ_19 : St := su σ_18 13 ((σ_18 0 7).toNatClampNeg) (-1 : Int32); rf_thing_221 σ x1 x2 x3 x4 x5 x6 σ_19 3 0) else ((0 : Int32), σ_6)) := by subst eσ_6; exact hw
                generalize H1 = H at hP hS ⊢
                have hiv_7 : IVr σ_6 := by rw [eσ_6]; exact ir_thr hiv _ _ _ _
                refine lv_if_eq (tgt := 155) hx hb dX4_thing_150 (by decide) (fun c_150_8 => ?_) (fun c_150_8 => ?_)
                · skip
                  rw [if_pos c_150_8] at hw
                  obtain ⟨z0_9, z1_10, z2_11, z3_12⟩ := thr0 c_150_8
                  obtain ⟨ha_13, hb_13⟩ := bd_new h7 z0_9
                  have hT : vp_in (σ_6 0 7) 40 := by rw [eσ_6, rf_thr]; exact bd_room hiv hb_5 z3_12
                  refine lv_aload_n hx hb dX4_thing_155 rfl (lv_at hl 0 rfl) ?_
                  refine va_get (D := (dC, dI)) (ci := 4) (v := .ref (a 8)) (C := RX4) (T := TX4) (N := 23) hx hb hts (iwX4 _) hown hK hP 0 rfl rfl 8 (by decide) (hts _ (kc k_579)) (fun _ h9 => h9) rfl dX4_thing_156 ?_
                  refine lv_aload_n hx hb dX4_thing_159 rfl (lv_at hl 0 rfl) ?_
                  refine va_get (D := (dC, dI)) (ci := 4) (v := .int (σ_6 0 7)) (C := RX4) (T := TX4) (N := 23) hx hb hts (iwX4 _) hown hK hP 0 rfl rfl 7 (by decide) (hts _ (kc k_578)) (fun _ h9 => h9) rfl dX4_thing_160 ?_
                  refine lv_iload_n hx hb dX4_thing_163 rfl (lv_at hl 1 rfl) ?_
                  refine va_iast (D := (dC, dI)) (f := σ_6 8) hx hb hK hP hD hS 6 0 rfl rfl (i := σ_6 0 7) (x := x1) hT dX4_thing_164 (fun H locs hP hD hS => ?_)
                  obtain ⟨σ_14, eσ_14⟩ : ∃ z : St, z = su σ_6 8 ((σ_6 0 7).toNatClampNeg) x1 := ⟨_, rfl⟩
                  replace hP := P_rw_8 hP
                  replace hD := D_rw_8 hD
                  rw [← eσ_14] at hP hD
                  replace hw : R = (let σ_15 : St := su σ_14 9 ((σ_14 0 7).toNatClampNeg) x2; let σ_16 : St := su σ_15 10 ((σ_15 0 7).toNatClampNeg) x4; let σ_17 : St := su σ_16 11 ((σ_16 0 7).toNatClampNeg) x5; let σ_18 : St := su σ_17 12 ((σ_17 0 7).toNatClampNeg) x6; let σ_19 : St := su σ_18 13 ((σ_18 0 7).toNatClampNeg) (-1 : Int32); rf_thing_221 σ x1 x2 x3 x4 x5 x6 σ_19 3 0) := by subst eσ_14; exact hw
                  refine lv_aload_n hx hb dX4_thing_165 rfl (lv_at hl 0 rfl) ?_
                  refine va_get (D := (dC, dI)) (ci := 4) (v := .ref (a 9)) (C := RX4) (T := TX4) (N := 23) hx hb hts (iwX4 _) hown hK hP 0 rfl rfl 9 (by decide) (hts _ (kc k_580)) (fun _ h9 => h9) rfl dX4_thing_166 ?_
                  refine lv_aload_n hx hb dX4_thing_169 rfl (lv_at hl 0 rfl) ?_
                  refine va_get (D := (dC, dI)) (ci := 4) (v := .int (σ_14 0 7)) (C := RX4) (T := TX4) (N := 23) hx hb hts (iwX4 _) hown hK hP 0 rfl rfl 7 (by decide) (hts _ (kc k_578)) (fun _ h9 => h9) rfl dX4_thing_170 ?_
                  refine lv_iload_n hx hb dX4_thing_173 rfl (lv_at hl 2 rfl) ?_
                  refine va_iast (D := (dC, dI)) (f := σ_14 9) hx hb hK hP hD hS 7 0 rfl rfl (i := σ_14 0 7) (x := x2) (by rw [eσ_14]; exact hT) dX4_thing_174 (fun H locs hP hD hS => ?_)
                  obtain ⟨σ_15, eσ_15⟩ : ∃ z : St, z = su σ_14 9 ((σ_14 0 7).toNatClampNeg) x2 := ⟨_, rfl⟩
                  replace hP := P_rw_9 hP
                  replace hD := D_rw_9 hD
                  rw [← eσ_15] at hP hD
                  replace hw : R = (let σ_16 : St := su σ_15 10 ((σ_15 0 7).toNatClampNeg) x4; let σ_17 : St := su σ_16 11 ((σ_16 0 7).toNatClampNeg) x5; let σ_18 : St := su σ_17 12 ((σ_17 0 7).toNatClampNeg) x6; let σ_19 : St := su σ_18 13 ((σ_18 0 7).toNatClampNeg) (-1 : Int32); rf_thing_221 σ x1 x2 x3 x4 x5 x6 σ_19 3 0) := by subst eσ_15; exact hw
                  refine lv_aload_n hx hb dX4_thing_175 rfl (lv_at hl 0 rfl) ?_
                  refine va_get (D := (dC, dI)) (ci := 4) (v := .ref (a 10)) (C := RX4) (T := TX4) (N := 23) hx hb hts (iwX4 _) hown hK hP 0 rfl rfl 10 (by decide) (hts _ (kc k_581)) (fun _ h9 => h9) rfl dX4_thing_176 ?_
                  refine lv_aload_n hx hb dX4_thing_179 rfl (lv_at hl 0 rfl) ?_
                  refine va_get (D := (dC, dI)) (ci := 4) (v := .int (σ_15 0 7)) (C := RX4) (T := TX4) (N := 23) hx hb hts (iwX4 _) hown hK hP 0 rfl rfl 7 (by decide) (hts _ (kc k_578)) (fun _ h9 => h9) rfl dX4_thing_180 ?_
                  refine lv_iload hx hb dX4_thing_183 (lv_at hl 4 rfl) ?_
                  refine va_iast (D := (dC, dI)) (f := σ_15 10) hx hb hK hP hD hS 8 0 rfl rfl (i := σ_15 0 7) (x := x4) (by rw [eσ_15, eσ_14]; exact hT) dX4_thing_185 (fun H locs hP hD hS => ?_)
                  obtain ⟨σ_16, eσ_16⟩ : ∃ z : St, z = su σ_15 10 ((σ_15 0 7).toNatClampNeg) x4 := ⟨_, rfl⟩
                  replace hP := P_rw_10 hP
                  replace hD := D_rw_10 hD
                  rw [← eσ_16] at hP hD
                  replace hw : R = (let σ_17 : St := su σ_16 11 ((σ_16 0 7).toNatClampNeg) x5; let σ_18 : St := su σ_17 12 ((σ_17 0 7).toNatClampNeg) x6; let σ_19 : St := su σ_18 13 ((σ_18 0 7).toNatClampNeg) (-1 : Int32); rf_thing_221 σ x1 x2 x3 x4 x5 x6 σ_19 3 0) := by subst eσ_16; exact hw
                  refine lv_aload_n hx hb dX4_thing_186 rfl (lv_at hl 0 rfl) ?_
                  refine va_get (D := (dC, dI)) (ci := 4) (v := .ref (a 11)) (C := RX4) (T := TX4) (N := 23) hx hb hts (iwX4 _) hown hK hP 0 rfl rfl 11 (by decide) (hts _ (kc k_582)) (fun _ h9 => h9) rfl dX4_thing_187 ?_
                  refine lv_aload_n hx hb dX4_thing_190 rfl (lv_at hl 0 rfl) ?_
                  refine va_get (D := (dC, dI)) (ci := 4) (v := .int (σ_16 0 7)) (C := RX4) (T := TX4) (N := 23) hx hb hts (iwX4 _) hown hK hP 0 rfl rfl 7 (by decide) (hts _ (kc k_578)) (fun _ h9 => h9) rfl dX4_thing_191 ?_
                  refine lv_iload hx hb dX4_thing_194 (lv_at hl 5 rfl) ?_
                  refine va_iast (D := (dC, dI)) (f := σ_16 11) hx hb hK hP hD hS 9 0 rfl rfl (i := σ_16 0 7) (x := x5) (by rw [eσ_16, eσ_15, eσ_14]; exact hT) dX4_thing_196 (fun H locs hP hD hS => ?_)
                  obtain ⟨σ_17, eσ_17⟩ : ∃ z : St, z = su σ_16 11 ((σ_16 0 7).toNatClampNeg) x5 := ⟨_, rfl⟩
                  replace hP := P_rw_11 hP
                  replace hD := D_rw_11 hD
                  rw [← eσ_17] at hP hD
                  replace hw : R = (let σ_18 : St := su σ_17 12 ((σ_17 0 7).toNatClampNeg) x6; let σ_19 : St := su σ_18 13 ((σ_18 0 7).toNatClampNeg) (-1 : Int32); rf_thing_221 σ x1 x2 x3 x4 x5 x6 σ_19 3 0) := by subst eσ_17; exact hw
                  refine lv_aload_n hx hb dX4_thing_197 rfl (lv_at hl 0 rfl) ?_
                  refine va_get (D := (dC, dI)) (ci := 4) (v := .ref (a 12)) (C := RX4) (T := TX4) (N := 23) hx hb hts (iwX4 _) hown hK hP 0 rfl rfl 12 (by decide) (hts _ (kc k_583)) (fun _ h9 => h9) rfl dX4_thing_198 ?_
                  refine lv_aload_n hx hb dX4_thing_201 rfl (lv_at hl 0 rfl) ?_
                  refine va_get (D := (dC, dI)) (ci := 4) (v := .int (σ_17 0 7)) (C := RX4) (T := TX4) (N := 23) hx hb hts (iwX4 _) hown hK hP 0 rfl rfl 7 (by decide) (hts _ (kc k_578)) (fun _ h9 => h9) rfl dX4_thing_202 ?_
                  refine lv_iload hx hb dX4_thing_205 (lv_at hl 6 rfl) ?_
                  refine va_iast (D := (dC, dI)) (f := σ_17 12) hx hb hK hP hD hS 10 0 rfl rfl (i := σ_17 0 7) (x := x6) (by rw [eσ_17, eσ_16, eσ_15, eσ_14]; exact hT) dX4_thing_207 (fun H locs hP hD hS => ?_)
                  obtain ⟨σ_18, eσ_18⟩ : ∃ z : St, z = su σ_17 12 ((σ_17 0 7).toNatClampNeg) x6 := ⟨_, rfl⟩
                  replace hP := P_rw_12 hP
                  replace hD := D_rw_12 hD
                  rw [← eσ_18] at hP hD
                  replace hw : R = (let σ_19 : St := su σ_18 13 ((σ_18 0 7).toNatClampNeg) (-1 : Int32); rf_thing_221 σ x1 x2 x3 x4 x5 x6 σ_19 3 0) := by subst eσ_18; exact hw
                  refine lv_aload_n hx hb dX4_thing_208 rfl (lv_at hl 0 rfl) ?_
                  refine va_get (D := (dC, dI)) (ci := 4) (v := .ref (a 13)) (C := RX4) (T := TX4) (N := 23) hx hb hts (iwX4 _) hown hK hP 0 rfl rfl 13 (by decide) (hts _ (kc k_584)) (fun _ h9 => h9) rfl dX4_thing_209 ?_
                  refine lv_aload_n hx hb dX4_thing_212 rfl (lv_at hl 0 rfl) ?_
                  refine va_get (D := (dC, dI)) (ci := 4) (v := .int (σ_18 0 7)) (C := RX4) (T := TX4) (N := 23) hx hb hts (iwX4 _) hown hK hP 0 rfl rfl 7 (by decide) (hts _ (kc k_578)) (fun _ h9 => h9) rfl dX4_thing_213 ?_
                  refine lv_iconst (v := -1) hx hb dX4_thing_216 (by decide) ?_
                  refine va_iast (D := (dC, dI)) (f := σ_18 13) hx hb hK hP hD hS 11 0 rfl rfl (i := σ_18 0 7) (x := (-1 : Int32)) (by rw [eσ_18, eσ_17, eσ_16, eσ_15, eσ_14]; exact hT) dX4_thing_217 (fun H locs hP hD hS => ?_)
                  obtain ⟨σ_19, eσ_19⟩ : ∃ z : St, z = su σ_18 13 ((σ_18 0 7).toNatClampNeg) (-1 : Int32) := ⟨_, rfl⟩
                  replace hP := P_rw_13 hP
                  replace hD := D_rw_13 hD
                  rw [← eσ_19] at hP hD
                  replace hw : R = (rf_thing_221 σ x1 x2 x3 x4 x5 x6 σ_19 3 0) := by subst eσ_19; exact hw
                  refine lv_iconst (v := 0) hx hb dX4_thing_218 (by decide) ?_
                  refine lv_istore (lv' := [(10, .int (0 : Int32)), (0, .ref (a 0)), (1, .int x1), (2, .int x2), (3, .int x3), (4, .int x4), (5, .int x5), (6, .int x6), (7, .int x7), (8, .int x8), (9, .int x9)]) hx hb dX4_thing_219 hl (by decide) rfl (fun ls hl => ?_)
                  have loop : ∀ (n k : Nat) (σ1 : St) (H : Heap) (locs : List Loc) (ls : Array Slot), k + n = 3 → vp_in (σ1 0 7) 40 → va_P (dC, dI) vwCl (rw cI cZ a σ1) H → va_D A (rw cI cZ a σ1) → va_S A s.heap H locs → lv_has ls 11 [(0, .ref (a 0)), (1, .int x1), (2, .int x2), (3, .int x3), (4, .int x4), (5, .int x5), (6, .int x6), (10, .int (nI k))] → R = rf_thing_221 σ x1 x2 x3 x4 x5 x6 σ1 n k → W p l e (headSpec wsX4_thing ({ frames := 2, cells := 0, slots := 0, locals := 42 })).room s m [.ref (a 0), .int x1, .int x2, .int x3, .int x4, .int x5, .int x6].toArray below meth c H locs 0 0 (MQ below (va_Qi (fun r σ9 => (r, σ9) = rf_thing σ x1 x2 x3 x4 x5 x6) (bMr dC dI cI cZ a A) A) [.ref (a 0), .int x1, .int x2, .int x3, .int x4, .int x5, .int x6].toArray s 0 0 A) (F0 m 221 ls []) := by
                    intro n
                    induction n with
                    | zero =>
                      intro k σ1 H locs ls hkn hT1 hP hD hS hl hw
                      rw [rf_thing_221_0] at hw
                      refine lv_iload hx hb dX4_thing_221 (lv_at hl 7 rfl) ?_
                      refine lv_iconst (v := 3) hx hb dX4_thing_223 (by decide) ?_
                      refine lv_icmp_ge (tgt := 249) hx hb dX4_thing_224 (by decide) (fun c_224_20 => ?_) (fun c_224_20 => ?_)
                      · skip
                        refine lv_aload_n hx hb dX4_thing_249 rfl (lv_at hl 0 rfl) ?_
                        refine lv_dup hx hb dX4_thing_250 rfl ?_
                        refine va_get (D := (dC, dI)) (ci := 4) (v := .int (σ1 0 7)) (C := RX4) (T := TX4) (N := 23) hx hb hts (iwX4 _) hown hK hP 0 rfl rfl 7 (by decide) (hts _ (kc k_578)) (fun _ h9 => h9) rfl dX4_thing_251 ?_
                        refine lv_iconst (v := 1) hx hb dX4_thing_254 (by decide) ?_
                        refine lv_iadd hx hb dX4_thing_255 ?_
                        refine va_put (D := (dC, dI)) (ci := 4) (v := .int ((σ1 0 7) + (1 : Int32))) (ty := .int) (C := RX4) (T := TX4) (N := 23) hx hb hts (iwX4 _) tyX4 tyX4_ok nmX4 hown hK hP hD hS 0 rfl rfl 7 (by decide) (hts _ (kc k_578)) (fun _ h9 => h9) rfl (by decide +kernel) rfl rfl (Nat.le_of_ble_eq_true rfl) dX4_thing_256 (fun H locs hP hD hS => ?_)
                        obtain ⟨σ_21, eσ_21⟩ : ∃ z : St, z = su σ1 0 7 ((σ1 0 7) + (1 : Int32)) := ⟨_, rfl⟩
                        replace hP := P_rw_0_7 hP
                        replace hD := D_rw_0_7 hD
                        rw [← eσ_21] at hP hD
                        replace hw : R = (((σ_21 0 7) - (1 : Int32), σ_21)) := by subst eσ_21; exact hw
                        refine lv_aload_n hx hb dX4_thing_259 rfl (lv_at hl 0 rfl) ?_
                        refine va_get (D := (dC, dI)) (ci := 4) (v := .int (σ_21 0 7)) (C := RX4) (T := TX4) (N := 23) hx hb hts (iwX4 _) hown hK hP 0 rfl rfl 7 (by decide) (hts _ (kc k_578)) (fun _ h9 => h9) rfl dX4_thing_260 ?_
                        refine lv_iconst (v := 1) hx hb dX4_thing_263 (by decide) ?_
                        refine lv_isub hx hb dX4_thing_264 ?_
                        exact W.iret (v := (σ_21 0 7) - (1 : Int32)) hx hb hr (fun t ht hW => ⟨⟨(σ_21 0 7) - (1 : Int32), σ_21, rfl, hw.symm.trans hR, by rw [ht]; exact hP, va_K.moved hW.alike hK, hD⟩, hS.F ht⟩) hS.2.2 dX4_thing_265
                      · skip
                        exact absurd (lpE ht_3 hkn (by omega)) c_224_20
                    | succ n ih =>
                      intro k σ1 H locs ls hkn hT1 hP hD hS hl hw
                      rw [rf_thing_221_s] at hw
                      have hkf : vp_in (nI k) 3 := vp_in_nI (by omega) (by decide)
                      refine lv_iload hx hb dX4_thing_221 (lv_at hl 7 rfl) ?_
                      refine lv_iconst (v := 3) hx hb dX4_thing_223 (by decide) ?_
                      refine lv_icmp_ge (tgt := 249) hx hb dX4_thing_224 (by decide) (fun c_224_22 => ?_) (fun c_224_22 => ?_)
                      · skip
                        exact absurd c_224_22 (lpB ht_3 hkn (by omega))
                      · skip
                        refine lv_aload_n hx hb dX4_thing_227 rfl (lv_at hl 0 rfl) ?_
                        refine va_get (D := (dC, dI)) (ci := 4) (v := .ref (a 16)) (C := RX4) (T := TX4) (N := 23) hx hb hts (iwX4 _) hown hK hP 0 rfl rfl 16 (by decide) (hts _ (kc k_587)) (fun _ h9 => h9) rfl dX4_thing_228 ?_
                        refine lv_iconst (v := 3) hx hb dX4_thing_231 (by decide) ?_
                        refine lv_aload_n hx hb dX4_thing_232 rfl (lv_at hl 0 rfl) ?_
                        refine va_get (D := (dC, dI)) (ci := 4) (v := .int (σ1 0 7)) (C := RX4) (T := TX4) (N := 23) hx hb hts (iwX4 _) hown hK hP 0 rfl rfl 7 (by decide) (hts _ (kc k_578)) (fun _ h9 => h9) rfl dX4_thing_233 ?_
                        refine lv_imul hx hb dX4_thing_236 ?_
                        refine lv_iload hx hb dX4_thing_237 (lv_at hl 7 rfl) ?_
                        refine lv_iadd hx hb dX4_thing_239 ?_
                        refine lv_iload hx hb dX4_thing_240 (lv_at hl 6 rfl) ?_
                        refine va_iast (D := (dC, dI)) (f := σ1 16) hx hb hK hP hD hS 14 0 rfl rfl (i := ((3 : Int32) * (σ1 0 7)) + (nI k)) (x := x6) (in_3m (n := 40) hT1 hkf (by decide) (by decide)) dX4_thing_242 (fun H locs hP hD hS => ?_)
                        obtain ⟨σ_23, eσ_23⟩ : ∃ z : St, z = su σ1 16 ((((3 : Int32) * (σ1 0 7)) + (nI k)).toNatClampNeg) x6 := ⟨_, rfl⟩
                        replace hP := P_rw_16 hP
                        replace hD := D_rw_16 hD
                        rw [← eσ_23] at hP hD
                        replace hw : R = (rf_thing_221 σ x1 x2 x3 x4 x5 x6 σ_23 n (k + 1)) := by subst eσ_23; exact hw
                        refine lv_iinc (v := (nI (k + 1))) (lv' := [(10, .int (nI (k + 1))), (0, .ref (a 0)), (1, .int x1), (2, .int x2), (3, .int x3), (4, .int x4), (5, .int x5), (6, .int x6)]) hx hb dX4_thing_243 hl (k := 7) rfl (nI_1 k) (by decide) rfl (fun ls hl => ?_)
                        refine lv_goto (tgt := 221) hx hb dX4_thing_246 (by decide) ?_
                        exact ih (k + 1) σ_23 H locs ls (by omega) (by rw [eσ_23]; exact hT1) hP hD hS (lv_sub hl [1, 2, 3, 4, 5, 6, 7, 0] rfl) hw
                  exact loop 3 0 σ_19 H locs ls (Nat.zero_add _) (by rw [eσ_19, eσ_18, eσ_17, eσ_16, eσ_15, eσ_14]; exact hT) hP hD hS (lv_sub hl [1, 2, 3, 4, 5, 6, 7, 0] rfl) hw
                · skip
                  rw [if_neg c_150_8] at hw
                  refine lv_iconst (v := 0) hx hb dX4_thing_153 (by decide) ?_
                  exact W.iret (v := (0 : Int32)) hx hb hr (fun t ht hW => ⟨⟨(0 : Int32), σ_6, rfl, hw.symm.trans hR, by rw [ht]; exact hP, va_K.moved hW.alike hK, hD⟩, hS.F ht⟩) hS.2.2 dX4_thing_154
              have hq_5 := hb_5
              refine lv_icmp_ne (tgt := 146) hx hb dX4_thing_139 (by decide) (fun c_139_24 => ?_) (fun c_139_24 => ?_)
              · skip
                rw [if_neg c_139_24] at hq_5
                refine lv_iconst (v := 0) hx hb dX4_thing_146 (by decide) ?_
                exact J_5 _ ls hq_5 (lv_sub hl [0, 1, 2, 3, 4, 5, 6, 7, 8, 9, 10] rfl)
              · skip
                rw [if_pos c_139_24] at hq_5
                refine lv_iconst (v := 1) hx hb dX4_thing_142 (by decide) ?_
                refine lv_goto (tgt := 147) hx hb dX4_thing_143 (by decide) ?_
                exact J_5 _ ls hq_5 (lv_sub hl [0, 1, 2, 3, 4, 5, 6, 7, 8, 9, 10] rfl)
            · skip
              exact absurd (lpE (ir_cnt hiv) hkn (by omega)) c_94_4
          | succ n ih =>
            intro k x7 x8 x9 ls hkn h7 hl hw
            rw [rf_thing_88_s] at hw
            have hkf : vp_in (nI k) 40 := vp_in_nI (by omega) (by decide)
            refine lv_iload hx hb dX4_thing_88 (lv_at hl 10 rfl) ?_
            refine lv_aload_n hx hb dX4_thing_90 rfl (lv_at hl 0 rfl) ?_
            refine va_get (D := (dC, dI)) (ci := 4) (v := .int (σ 0 7)) (C := RX4) (T := TX4) (N := 23) hx hb hts (iwX4 _) hown hK hP 0 rfl rfl 7 (by decide) (hts _ (kc k_578)) (fun _ h9 => h9) rfl dX4_thing_91 ?_
            refine lv_icmp_ge (tgt := 126) hx hb dX4_thing_94 (by decide) (fun c_94_25 => ?_) (fun c_94_25 => ?_)
            · skip
              exact absurd c_94_25 (lpB (ir_cnt hiv) hkn (by omega))
            · skip
              refine lv_iload hx hb dX4_thing_97 (lv_at hl 9 rfl) ?_
              obtain ⟨b_26, hb_26⟩ : ∃ z : Int32, z = (if x9 = 0 then (if (σ 9 (nI k).toNatClampNeg) = x2 then (1 : Int32) else (0 : Int32)) else (1 : Int32)) := ⟨_, rfl⟩
              replace hw : R = (rf_thing_88 σ x1 x2 x3 x4 x5 x6 n (k + 1) x7 x8 b_26) := by subst hb_26; exact hw
              have J_26 : ∀ (v9 : Int32) (ls : Array Slot), b_26 = v9 → lv_has ls 11 [(0, .ref (a 0)), (1, .int x1), (2, .int x2), (3, .int x3), (4, .int x4), (5, .int x5), (6, .int x6), (7, .int x7), (8, .int x8), (9, .int x9), (10, .int (nI k))] → W p l e (headSpec wsX4_thing ({ frames := 2, cells := 0, slots := 0, locals := 42 })).room s m [.ref (a 0), .int x1, .int x2, .int x3, .int x4, .int x5, .int x6].toArray below meth c H locs 0 0 (MQ below (va_Qi (fun r σ9 => (r, σ9) = rf_thing σ x1 x2 x3 x4 x5 x6) (bMr dC dI cI cZ a A) A) [.ref (a 0), .int x1, .int x2, .int x3, .int x4, .int x5, .int x6].toArray s 0 0 A) (F0 m 118 ls [.int v9]) := by
                intro v9 ls hv9 hl
                subst hv9
                refine lv_istore (lv' := [(9, .int b_26), (0, .ref (a 0)), (1, .int x1), (2, .int x2), (3, .int x3), (4, .int x4), (5, .int x5), (6, .int x6), (7, .int x7), (8, .int x8), (10, .int (nI k))]) hx hb dX4_thing_118 hl (by decide) rfl (fun ls hl => ?_)
                refine lv_iinc (v := (nI (k + 1))) (lv' := [(10, .int (nI (k + 1))), (9, .int b_26), (0, .ref (a 0)), (1, .int x1), (2, .int x2), (3, .int x3), (4, .int x4), (5, .int x5), (6, .int x6), (7, .int x7), (8, .int x8)]) hx hb dX4_thing_120 hl (k := 10) rfl (nI_1 k) (by decide) rfl (fun ls hl => ?_)
                refine lv_goto (tgt := 88) hx hb dX4_thing_123 (by decide) ?_
                exact ih (k + 1) x7 x8 b_26 ls (by omega) h7 (lv_sub hl [2, 3, 4, 5, 6, 7, 8, 9, 10, 1, 0] rfl) hw
              have hq_26 := hb_26
              refine lv_if_ne (tgt := 113) hx hb dX4_thing_99 (by decide) (fun c_99_27 => ?_) (fun c_99_27 => ?_)
              · skip
                rw [if_neg c_99_27] at hq_26
                refine lv_iconst (v := 1) hx hb dX4_thing_113 (by decide) ?_
                refine lv_goto (tgt := 118) hx hb dX4_thing_114 (by decide) ?_
                exact J_26 _ ls hq_26 (lv_sub hl [0, 1, 2, 3, 4, 5, 6, 7, 8, 9, 10] rfl)
              · skip
                rw [if_pos c_99_27] at hq_26
                refine lv_aload_n hx hb dX4_thing_102 rfl (lv_at hl 0 rfl) ?_
                refine va_get (D := (dC, dI)) (ci := 4) (v := .ref (a 9)) (C := RX4) (T := TX4) (N := 23) hx hb hts (iwX4 _) hown hK hP 0 rfl rfl 9 (by decide) (hts _ (kc k_580)) (fun _ h9 => h9) rfl dX4_thing_103 ?_
                refine lv_iload hx hb dX4_thing_106 (lv_at hl 10 rfl) ?_
                refine va_iald (D := (dC, dI)) (f := σ 9) hx hb hK hP 7 0 rfl rfl (i := nI k) hkf dX4_thing_108 ?_
                refine lv_iload_n hx hb dX4_thing_109 rfl (lv_at hl 2 rfl) ?_
                refine lv_icmp_ne (tgt := 117) hx hb dX4_thing_110 (by decide) (fun c_110_28 => ?_) (fun c_110_28 => ?_)
                · skip
                  rw [if_neg c_110_28] at hq_26
                  refine lv_iconst (v := 0) hx hb dX4_thing_117 (by decide) ?_
                  exact J_26 _ ls hq_26 (lv_sub hl [0, 1, 2, 3, 4, 5, 6, 7, 8, 9, 10] rfl)
                · skip
                  rw [if_pos c_110_28] at hq_26
                  refine lv_iconst (v := 1) hx hb dX4_thing_113 (by decide) ?_
                  refine lv_goto (tgt := 118) hx hb dX4_thing_114 (by decide) ?_
                  exact J_26 _ ls hq_26 (lv_sub hl [0, 1, 2, 3, 4, 5, 6, 7, 8, 9, 10] rfl)
        exact loop (cntR σ) 0 b_1 b_2 b_3 ls (Nat.zero_add _) hb_1 (lv_sub hl [2, 3, 4, 5, 6, 7, 8, 9, 10, 1, 0] rfl) hw
      have hq_3 := hb_3
      refine lv_if_ne (tgt := 82) hx hb dX4_thing_67 (by decide) (fun c_67_29 => ?_) (fun c_67_29 => ?_)
      · skip
        rw [if_neg c_67_29] at hq_3
        refine lv_iconst (v := 0) hx hb dX4_thing_82 (by decide) ?_
        exact J_3 _ ls hq_3 (lv_sub hl [1, 2, 3, 4, 5, 6, 7, 8, 0] rfl)
      · skip
        rw [if_pos c_67_29] at hq_3
        refine lv_iload_n hx hb dX4_thing_70 rfl (lv_at hl 3 rfl) ?_
        refine vp_callSi (W.runS (As := [.int x2]) (rest := []) ⟨hx, hb, hml, hown, hts⟩ (m_X4_letterOf l x2) (cwS 1 hts (gS k_680 k_681 k_24 k_682) rfl rfl rfl (by decide +kernel) ⟨Nat.le_of_ble_eq_true rfl, Nat.le_of_ble_eq_true rfl⟩) ps_0 rfl rfl hl.1 rfl (lv_room (Nat.le_of_ble_eq_true rfl)) dX4_thing_71 ⟨Nat.le_of_ble_eq_true rfl, Nat.le_of_ble_eq_true rfl⟩) (fun r hrr => ?_)
        subst hrr
        refine lv_iload_n hx hb dX4_thing_74 rfl (lv_at hl 4 rfl) ?_
        refine lv_icmp_eq (tgt := 82) hx hb dX4_thing_75 (by decide) (fun c_75_30 => ?_) (fun c_75_30 => ?_)
        · skip
          rw [if_pos c_75_30] at hq_3
          refine lv_iconst (v := 0) hx hb dX4_thing_82 (by decide) ?_
          exact J_3 _ ls hq_3 (lv_sub hl [1, 2, 3, 4, 5, 6, 7, 8, 0] rfl)
        · skip
          rw [if_neg c_75_30] at hq_3
          refine lv_iconst (v := 1) hx hb dX4_thing_78 (by decide) ?_
          refine lv_goto (tgt := 83) hx hb dX4_thing_79 (by decide) ?_
          exact J_3 _ ls hq_3 (lv_sub hl [1, 2, 3, 4, 5, 6, 7, 8, 0] rfl)
    have hq_2 := hb_2
    refine lv_if_eq (tgt := 58) hx hb dX4_thing_42 (by decide) (fun c_42_31 => ?_) (fun c_42_31 => ?_)
    · skip
      rw [if_pos c_42_31] at hq_2
      refine lv_iconst (v := 1) hx hb dX4_thing_58 (by decide) ?_
      refine lv_goto (tgt := 63) hx hb dX4_thing_59 (by decide) ?_
      exact J_2 _ ls hq_2 (lv_sub hl [1, 2, 3, 4, 5, 6, 7, 0] rfl)
    · skip
      rw [if_neg c_42_31] at hq_2
      refine lv_iload hx hb dX4_thing_45 (lv_at hl 7 rfl) ?_
      refine lv_iconst (v := 0) hx hb dX4_thing_47 (by decide) ?_
      refine lv_aload_n hx hb dX4_thing_48 rfl (lv_at hl 1 rfl) ?_
      refine va_get (D := (dC, dI)) (ci := 4) (v := .int (σ 0 1)) (C := RX4) (T := TX4) (N := 23) hx hb hts (iwX4 _) hown hK hP 0 rfl rfl 1 (by decide) (hts _ (kc k_572)) (fun _ h9 => h9) rfl dX4_thing_49 ?_
      refine vp_callSi (W.runS (As := [.int x6, .int (0 : Int32), .int (σ 0 1)]) (rest := []) ⟨hx, hb, hml, hown, hts⟩ (m_X4_in l x6 (0 : Int32) (σ 0 1)) (cwS 3 hts (gS k_658 k_659 k_24 k_660) rfl rfl rfl (by decide +kernel) ⟨Nat.le_of_ble_eq_true rfl, Nat.le_of_ble_eq_true rfl⟩) ps_0 rfl rfl hl.1 rfl (lv_room (Nat.le_of_ble_eq_true rfl)) dX4_thing_52 ⟨Nat.le_of_ble_eq_true rfl, Nat.le_of_ble_eq_true rfl⟩) (fun r hrr => ?_)
      subst hrr
      refine lv_if_ne (tgt := 62) hx hb dX4_thing_55 (by decide) (fun c_55_32 => ?_) (fun c_55_32 => ?_)
      · skip
        rw [if_neg c_55_32] at hq_2
        refine lv_iconst (v := 0) hx hb dX4_thing_62 (by decide) ?_
        exact J_2 _ ls hq_2 (lv_sub hl [1, 2, 3, 4, 5, 6, 7, 0] rfl)
      · skip
        rw [if_pos c_55_32] at hq_2
        refine lv_iconst (v := 1) hx hb dX4_thing_58 (by decide) ?_
        refine lv_goto (tgt := 63) hx hb dX4_thing_59 (by decide) ?_
        exact J_2 _ ls hq_2 (lv_sub hl [1, 2, 3, 4, 5, 6, 7, 0] rfl)
  have hq_1 := hb_1
  refine lv_if_eq (tgt := 31) hx hb dX4_thing_6 (by decide) (fun c_6_33 => ?_) (fun c_6_33 => ?_)
  · skip
    rw [if_pos c_6_33] at hq_1
    refine lv_iconst (v := 1) hx hb dX4_thing_31 (by decide) ?_
    refine lv_goto (tgt := 36) hx hb dX4_thing_32 (by decide) ?_
    exact J_1 _ ls hq_1 (lv_sub hl [0, 1, 2, 3, 4, 5, 6] rfl)
  · skip
    rw [if_neg c_6_33] at hq_1
    refine lv_iload hx hb dX4_thing_9 (lv_at hl 4 rfl) ?_
    refine lv_iconst (v := 0) hx hb dX4_thing_11 (by decide) ?_
    refine lv_bipush (v := 9) hx hb dX4_thing_12 (by decide) ?_
    refine vp_callSi (W.runS (As := [.int x4, .int (0 : Int32), .int (9 : Int32)]) (rest := []) ⟨hx, hb, hml, hown, hts⟩ (m_X4_in l x4 (0 : Int32) (9 : Int32)) (cwS 3 hts (gS k_658 k_659 k_24 k_660) rfl rfl rfl (by decide +kernel) ⟨Nat.le_of_ble_eq_true rfl, Nat.le_of_ble_eq_true rfl⟩) ps_0 rfl rfl hl.1 rfl (lv_room (Nat.le_of_ble_eq_true rfl)) dX4_thing_14 ⟨Nat.le_of_ble_eq_true rfl, Nat.le_of_ble_eq_true rfl⟩) (fun r hrr => ?_)
    subst hrr
    refine lv_if_eq (tgt := 31) hx hb dX4_thing_17 (by decide) (fun c_17_34 => ?_) (fun c_17_34 => ?_)
    · skip
      rw [if_pos c_17_34] at hq_1
      refine lv_iconst (v := 1) hx hb dX4_thing_31 (by decide) ?_
      refine lv_goto (tgt := 36) hx hb dX4_thing_32 (by decide) ?_
      exact J_1 _ ls hq_1 (lv_sub hl [0, 1, 2, 3, 4, 5, 6] rfl)
    · skip
      rw [if_neg c_17_34] at hq_1
      refine lv_iload hx hb dX4_thing_20 (lv_at hl 5 rfl) ?_
      refine lv_iconst (v := 0) hx hb dX4_thing_22 (by decide) ?_
      refine lv_bipush (v := 19) hx hb dX4_thing_23 (by decide) ?_
      refine vp_callSi (W.runS (As := [.int x5, .int (0 : Int32), .int (19 : Int32)]) (rest := []) ⟨hx, hb, hml, hown, hts⟩ (m_X4_in l x5 (0 : Int32) (19 : Int32)) (cwS 3 hts (gS k_658 k_659 k_24 k_660) rfl rfl rfl (by decide +kernel) ⟨Nat.le_of_ble_eq_true rfl, Nat.le_of_ble_eq_true rfl⟩) ps_0 rfl rfl hl.1 rfl (lv_room (Nat.le_of_ble_eq_true rfl)) dX4_thing_25 ⟨Nat.le_of_ble_eq_true rfl, Nat.le_of_ble_eq_true rfl⟩) (fun r hrr => ?_)
      subst hrr
      refine lv_if_ne (tgt := 35) hx hb dX4_thing_28 (by decide) (fun c_28_35 => ?_) (fun c_28_35 => ?_)
      · skip
        rw [if_neg c_28_35] at hq_1
        refine lv_iconst (v := 0) hx hb dX4_thing_35 (by decide) ?_
        exact J_1 _ ls hq_1 (lv_sub hl [0, 1, 2, 3, 4, 5, 6] rfl)
      · skip
        rw [if_pos c_28_35] at hq_1
        refine lv_iconst (v := 1) hx hb dX4_thing_31 (by decide) ?_
        refine lv_goto (tgt := 36) hx hb dX4_thing_32 (by decide) ?_
        exact J_1 _ ls hq_1 (lv_sub hl [0, 1, 2, 3, 4, 5, 6] rfl)
set_option maxHeartbeats 4000000 in
set_option maxRecDepth 100000 in
theorem m_X4_weekIn (l : Launch) (x0 : Int32) (x1 : Int32) (x2 : Int32) (x3 : Int32) (t : Nat) (n : Nat) (ht : x1 = nI t) (hn : x2 = nI n) (htn : t < n) (hn6 : n ≤ 6) (h3 : ¬ x3 = 0) : Met l yX4_weekIn wsX4_weekIn ({ frames := 0, cells := 0, slots := 0, locals := 0 }) (va_Pc [.int x0, .int x1, .int x2, .int x3] (fun _ => True)) (vp_Si (fun r => r = rf_weekIn x0 x1 x2 x3)) 0 0 (fun _ => False) := by
  refine Met.ofW (cc := cX4_weekIn) (maxL := 6) (ret := (some .int)) (by decide) rfl ?_
  intro p e s m args below meth c s₁ B hml hv
  obtain ⟨rfl, -⟩ := hv
  have hx := B.exec
  have hb := B.bytes
  have hr := B.returns
  have hts := atoms_spec (ws := wsX4_weekIn) B.pre
  have hown : s.vm.findClass RX4 = some m.cls := findClass_of_methodNamed B.named
  have hlocks := B.notSynchronized
  have hl := lv_entry ([.int x0, .int x1, .int x2, .int x3]) (n := 6) (Nat.le_of_ble_eq_true rfl)
  rw [lg_entry_eq]
  generalize (lg_sl ([.int x0, .int x1, .int x2, .int x3]) ++ List.replicate (6 - (lg_sl ([.int x0, .int x1, .int x2, .int x3])).length) Slot.unset).toArray = ls at hl ⊢
  have hl : lv_has ls 6 [(0, .int x0), (1, .int x1), (2, .int x2), (3, .int x3)] := hl
  obtain ⟨R, hR⟩ : ∃ z, z = rf_weekIn x0 x1 x2 x3 := ⟨_, rfl⟩
  have hw := hR
  unfold rf_weekIn at hw
  refine lv_iload_n hx hb dX4_weekIn_0 rfl (lv_at hl 0 rfl) ?_
  refine lv_istore (lv' := [(4, .int x0), (0, .int x0), (1, .int x1), (2, .int x2), (3, .int x3)]) hx hb dX4_weekIn_1 hl (by decide) rfl (fun ls hl => ?_)
  refine lv_iload_n hx hb dX4_weekIn_3 rfl (lv_at hl 3 rfl) ?_
  refine lv_iconst (v := 1) hx hb dX4_weekIn_4 (by decide) ?_
  refine lv_isub hx hb dX4_weekIn_5 ?_
  refine lv_istore (lv' := [(5, .int (x2 - (1 : Int32))), (4, .int x0), (0, .int x0), (1, .int x1), (2, .int x2), (3, .int x3)]) hx hb dX4_weekIn_6 hl (by decide) rfl (fun ls hl => ?_)
  have loop : ∀ (j : Nat) (x4 : Int32) (ls : Array Slot), j ≤ n → lv_has ls 6 [(0, .int x0), (1, .int x1), (2, .int x2), (3, .int x3), (4, .int x4), (5, .int (nI (t + j)))] → R = rf_weekIn_8 x3 j x4 → W p l e (headSpec wsX4_weekIn ({ frames := 0, cells := 0, slots := 0, locals := 0 })).room s m [.int x0, .int x1, .int x2, .int x3].toArray below meth c s.heap [] 0 0 (MQ below (vp_Si (fun r => r = rf_weekIn x0 x1 x2 x3)) [.int x0, .int x1, .int x2, .int x3].toArray s 0 0 (fun _ => False)) (F0 m 8 ls []) := by
    intro j
    induction j with
    | zero =>
      intro x4 ls hj hl hw
      rw [rf_weekIn_8_0] at hw
      refine lv_iload hx hb dX4_weekIn_8 (lv_at hl 5 rfl) ?_
      refine lv_iload_n hx hb dX4_weekIn_10 rfl (lv_at hl 1 rfl) ?_
      refine lv_icmp_le (tgt := 26) hx hb dX4_weekIn_11 (by decide) (fun c_11_1 => ?_) (fun c_11_1 => ?_)
      · skip
        refine lv_iload hx hb dX4_weekIn_26 (lv_at hl 4 rfl) ?_
        refine lv_iload_n hx hb dX4_weekIn_28 rfl (lv_at hl 3 rfl) ?_
        refine lv_irem hx hb dX4_weekIn_29 h3 ?_
        exact W.iret (v := x4 - x4 / x3 * x3) hx hb hr (fun t ht hW => ⟨_, rfl, hw.symm.trans hR, ht⟩) (fun _ h => by cases h) dX4_weekIn_30
      · skip
        exact absurd (wi_0 ht htn hn6) c_11_1
    | succ j ih =>
      intro x4 ls hj hl hw
      rw [rf_weekIn_8_s] at hw
      refine lv_iload hx hb dX4_weekIn_8 (lv_at hl 5 rfl) ?_
      refine lv_iload_n hx hb dX4_weekIn_10 rfl (lv_at hl 1 rfl) ?_
      refine lv_icmp_le (tgt := 26) hx hb dX4_weekIn_11 (by decide) (fun c_11_2 => ?_) (fun c_11_2 => ?_)
      · skip
        exact absurd c_11_2 (wi_s ht htn hn6 hj)
      · skip
        refine lv_iload hx hb dX4_weekIn_14 (lv_at hl 4 rfl) ?_
        refine lv_iload_n hx hb dX4_weekIn_16 rfl (lv_at hl 3 rfl) ?_
        refine lv_idiv hx hb dX4_weekIn_17 h3 ?_
        refine lv_istore (lv' := [(4, .int (x4 / x3)), (0, .int x0), (1, .int x1), (2, .int x2), (3, .int x3), (5, .int (nI (t + (j + 1))))]) hx hb dX4_weekIn_18 hl (by decide) rfl (fun ls hl => ?_)
        refine lv_iinc (v := (nI (t + j))) (lv' := [(5, .int (nI (t + j))), (4, .int (x4 / x3)), (0, .int x0), (1, .int x1), (2, .int x2), (3, .int x3)]) hx hb dX4_weekIn_20 hl (k := 5) rfl (pk_m1 (t + j)) (by decide) rfl (fun ls hl => ?_)
        refine lv_goto (tgt := 8) hx hb dX4_weekIn_23 (by decide) ?_
        exact ih (x4 / x3) ls (by omega) (lv_sub hl [2, 3, 4, 5, 1, 0] rfl) hw
  exact loop (n - 1 - t) x0 ls (by omega) (by rw [← wi_e hn htn]; exact lv_sub hl [2, 3, 4, 5, 1, 0] rfl) (by rw [wi_n ht hn htn hn6] at hw; exact hw)
