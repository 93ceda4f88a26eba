set_option maxHeartbeats 4000000 in
set_option maxRecDepth 100000 in
theorem m_X4_day (l : Launch) (dC : Nat → ClassId) (dI : Nat → Nat → Nat) (cI cZ : ClassId) (a : Nat → Nat) (sz : Nat) (σ : St) (x1 : Int32) (hiv : IVr σ) : Met l yX4_day wsX4_day ({ frames := 1, cells := 0, slots := 0, locals := 24 }) (pMr dC dI cI cZ a sz σ [.ref (a 0), .int x1]) (va_Qv (fun σ9 => σ9 = rf_day σ x1) (bMr dC dI cI cZ a (va_A (rw cI cZ a σ) sz)) (va_A (rw cI cZ a σ) sz)) 0 0 (va_A (rw cI cZ a σ) sz) := by
  refine Met.ofW (cc := cX4_day) (maxL := 2) (ret := none) (by decide) rfl ?_
  intro p e s m args below meth c s₁ B hml hv
  obtain ⟨rfl, hsz, hP, hK, hD0⟩ := hv
  have hx := B.exec
  have hb := B.bytes
  have hr := B.returns
  have hts := atoms_spec (ws := wsX4_day) B.pre
  have hown : s.vm.findClass RX4 = some m.cls := findClass_of_methodNamed B.named
  have hlocks := B.notSynchronized
  subst hsz
  have hD := hD0.self (sz := s.heap.size)
  generalize hAe : va_A (rw cI cZ a σ) s.heap.size = A at hD ⊢
  have hA : ∀ q : Nat, s.heap.size ≤ q → A q := fun q h => by rw [← hAe]; exact Or.inr h
  clear hAe hD0
  obtain ⟨H, hHe⟩ : ∃ z, z = s.heap := ⟨_, rfl⟩
  obtain ⟨locs, hLe⟩ : ∃ z : List Loc, z = [] := ⟨_, rfl⟩
  have hS : va_S A s.heap H locs := by rw [hHe, hLe]; exact va_S.rf
  have hP : va_P (dC, dI) vwCl (rw cI cZ a σ) H := by rw [hHe]; exact hP
  refine W_ofH hHe hLe ?_
  clear hHe hLe
  have hl := lv_entry ([.ref (a 0), .int x1]) (n := 2) (Nat.le_of_ble_eq_true rfl)
  rw [lg_entry_eq]
  generalize (lg_sl ([.ref (a 0), .int x1]) ++ List.replicate (2 - (lg_sl ([.ref (a 0), .int x1])).length) Slot.unset).toArray = ls at hl ⊢
  have hl : lv_has ls 2 [(0, .ref (a 0)), (1, .int x1)] := hl
  obtain ⟨R, hR⟩ : ∃ z, z = rf_day σ x1 := ⟨_, rfl⟩
  have hw := hR
  unfold rf_day at hw
  refine lv_aload_n hx hb dX4_day_0 rfl (lv_at hl 0 rfl) ?_
  refine lv_iload_n hx hb dX4_day_1 rfl (lv_at hl 1 rfl) ?_
  refine lv_aload_n hx hb dX4_day_2 rfl (lv_at hl 0 rfl) ?_
  refine va_get (D := (dC, dI)) (ci := 4) (v := .int (σ 0 1)) (C := RX4) (T := TX4) (N := 23) hx hb hts (iwX4 _) hown hK hP 0 rfl rfl 1 (by decide) (hts _ (kc k_572)) (fun _ h9 => h9) rfl dX4_day_3 ?_
  obtain ⟨b_1, hb_1⟩ : ∃ z : Int32, z = (if x1 < (σ 0 1) then (1 : Int32) else (if x1 ≤ (99999 : Int32) then (0 : Int32) else (1 : Int32))) := ⟨_, rfl⟩
  replace hw : R = (let σ_2 : St := (rf_throwing σ b_1 (0 : Int32) (0 : Int32) (0 : Int32)).2; if ((rf_throwing σ b_1 (0 : Int32) (0 : Int32) (0 : Int32)).1) = 0 then (let σ_9 : St := su σ_2 0 1 x1; σ_9) else σ_2) := by subst hb_1; exact hw
  have J_1 : ∀ (v9 : Int32) (ls : Array Slot), b_1 = v9 → lv_has ls 2 [(0, .ref (a 0)), (1, .int x1)] → W p l e (headSpec wsX4_day ({ frames := 1, cells := 0, slots := 0, locals := 24 })).room s m [.ref (a 0), .int x1].toArray below meth c H locs 0 0 (MQ below (va_Qv (fun σ9 => σ9 = rf_day σ x1) (bMr dC dI cI cZ a A) A) [.ref (a 0), .int x1].toArray s 0 0 A) (F0 m 20 ls [.int v9, .ref (a 0)]) := by
    intro v9 ls hv9 hl
    subst hv9
    refine lv_iconst (v := 0) hx hb dX4_day_20 (by decide) ?_
    refine lv_iconst (v := 0) hx hb dX4_day_21 (by decide) ?_
    refine lv_iconst (v := 0) hx hb dX4_day_22 (by decide) ?_
    have hFc := fr_all hD hS hA
    refine va_calli (va_runV (As := [.int b_1, .int (0 : Int32), .int (0 : Int32), .int (0 : Int32)]) (rest := []) ⟨hx, hb, hml, hown, hts⟩ (m_X4_throwing l dC dI cI cZ a H.size σ b_1 (0 : Int32) (0 : Int32) (0 : Int32)) (cwV 4 hts (gV k_650 k_652 k_11 k_24 k_653) rfl rfl rfl (by decide +kernel) ⟨Nat.le_of_ble_eq_true rfl, Nat.le_of_ble_eq_true rfl⟩) (pv_mr (q := (RX4, TX4, 23)) (q0 := 0) (ci := 4) hK hP hD rfl rfl) rfl rfl hl.1 rfl (lv_room (Nat.le_of_ble_eq_true rfl)) dX4_day_23 ⟨Nat.le_of_ble_eq_true rfl, Nat.le_of_ble_eq_true rfl⟩) hS (fun q _ h => hFc q h) hFc (fun r σ_2 t H1 locs ht hvm hw9 hB hz1 hk1 hS => ?_)
    obtain ⟨hP, hK1, hD1⟩ := hB
    rw [ht] at hP
    have hD := hD1.weaken (fun _ _ _ h => hFc _ h)
    clear hFc hD1 hK1
    obtain ⟨rfl, eσ_2⟩ : r = (rf_throwing σ b_1 (0 : Int32) (0 : Int32) (0 : Int32)).1 ∧ σ_2 = (rf_throwing σ b_1 (0 : Int32) (0 : Int32) (0 : Int32)).2 := ⟨congrArg Prod.fst hw9, congrArg Prod.snd hw9⟩
    clear hw9
    replace hw : R = (if ((rf_throwing σ b_1 (0 : Int32) (0 : Int32) (0 : Int32)).1) = 0 then (let σ_9 : St := su σ_2 0 1 x1; σ_9) else σ_2) := by subst eσ_2; exact hw
    generalize H1 = H at hP hS ⊢
    have hiv_3 : IVr σ_2 := by rw [eσ_2]; exact ir_thr hiv _ _ _ _
    refine lv_if_eq (tgt := 30) hx hb dX4_day_26 (by decide) (fun c_26_4 => ?_) (fun c_26_4 => ?_)
    · skip
      rw [if_pos c_26_4] at hw
      obtain ⟨z0_5, z1_6, z2_7, z3_8⟩ := thr0 c_26_4
      refine lv_aload_n hx hb dX4_day_30 rfl (lv_at hl 0 rfl) ?_
      refine lv_iload_n hx hb dX4_day_31 rfl (lv_at hl 1 rfl) ?_
      refine va_put (D := (dC, dI)) (ci := 4) (v := .int x1) (ty := .int) (C := RX4) (T := TX4) (N := 23) hx hb hts (iwX4 _) tyX4 tyX4_ok nmX4 hown hK hP hD hS 0 rfl rfl 1 (by decide) (hts _ (kc k_572)) (fun _ h9 => h9) rfl (by decide +kernel) rfl rfl (Nat.le_of_ble_eq_true rfl) dX4_day_32 (fun H locs hP hD hS => ?_)
      obtain ⟨σ_9, eσ_9⟩ : ∃ z : St, z = su σ_2 0 1 x1 := ⟨_, rfl⟩
      replace hP := P_rw_0_1 hP
      replace hD := D_rw_0_1 hD
      rw [← eσ_9] at hP hD
      replace hw : R = (σ_9) := by subst eσ_9; exact hw
      have hiv_10 : IVr σ_9 := by rw [eσ_9]; exact (ir_su0 hiv_3 (by decide))
      exact W.vret hx hb hr (fun t ht hW => ⟨⟨σ_9, rfl, hw.symm.trans hR, by rw [ht]; exact hP, va_K.moved hW.alike hK, hD⟩, hS.F ht⟩) hS.2.2 dX4_day_35
    · skip
      rw [if_neg c_26_4] at hw
      exact W.vret hx hb hr (fun t ht hW => ⟨⟨σ_2, rfl, hw.symm.trans hR, by rw [ht]; exact hP, va_K.moved hW.alike hK, hD⟩, hS.F ht⟩) hS.2.2 dX4_day_29
  have hq_1 := hb_1
  refine lv_icmp_lt (tgt := 15) hx hb dX4_day_6 (by decide) (fun c_6_11 => ?_) (fun c_6_11 => ?_)
  · skip
    rw [if_pos c_6_11] at hq_1
    refine lv_iconst (v := 1) hx hb dX4_day_15 (by decide) ?_
    refine lv_goto (tgt := 20) hx hb dX4_day_16 (by decide) ?_
    exact J_1 _ ls hq_1 (lv_sub hl [0, 1] rfl)
  · skip
    rw [if_neg c_6_11] at hq_1
    refine lv_iload_n hx hb dX4_day_9 rfl (lv_at hl 1 rfl) ?_
    refine lv_ldc (own := RX4) (v := 99999) hx hb hown (hts _ (kc k_649)) dX4_day_10 ?_
    refine lv_icmp_le (tgt := 19) hx hb dX4_day_12 (by decide) (fun c_12_12 => ?_) (fun c_12_12 => ?_)
    · skip
      rw [if_pos c_12_12] at hq_1
      refine lv_iconst (v := 0) hx hb dX4_day_19 (by decide) ?_
      exact J_1 _ ls hq_1 (lv_sub hl [0, 1] rfl)
    · skip
      rw [if_neg c_12_12] at hq_1
      refine lv_iconst (v := 1) hx hb dX4_day_15 (by decide) ?_
      refine lv_goto (tgt := 20) hx hb dX4_day_16 (by decide) ?_
      exact J_1 _ ls hq_1 (lv_sub hl [0, 1] rfl)
set_option maxHeartbeats 4000000 in
set_option maxRecDepth 100000 in
theorem m_X4_age (l : Launch) (dC : Nat → ClassId) (dI : Nat → Nat → Nat) (cI cZ : ClassId) (a : Nat → Nat) (sz : Nat) (σ : St) (x1 : Int32) (x2 : Int32) (hiv : IVr σ) : Met l yX4_age wsX4_age ({ frames := 1, cells := 0, slots := 0, locals := 24 }) (pMr dC dI cI cZ a sz σ [.ref (a 0), .int x1, .int x2]) (va_Qv (fun σ9 => σ9 = rf_age σ x1 x2) (bMr dC dI cI cZ a (va_A (rw cI cZ a σ) sz)) (va_A (rw cI cZ a σ) sz)) 0 0 (va_A (rw cI cZ a σ) sz) := by
  refine Met.ofW (cc := cX4_age) (maxL := 3) (ret := none) (by decide) rfl ?_
  intro p e s m args below meth c s₁ B hml hv
  obtain ⟨rfl, hsz, hP, hK, hD0⟩ := hv
  have hx := B.exec
  have hb := B.bytes
  have hr := B.returns
  have hts := atoms_spec (ws := wsX4_age) B.pre
  have hown : s.vm.findClass RX4 = some m.cls := findClass_of_methodNamed B.named
  have hlocks := B.notSynchronized
  subst hsz
  have hD := hD0.self (sz := s.heap.size)
  generalize hAe : va_A (rw cI cZ a σ) s.heap.size = A at hD ⊢
  have hA : ∀ q : Nat, s.heap.size ≤ q → A q := fun q h => by rw [← hAe]; exact Or.inr h
  clear hAe hD0
  obtain ⟨H, hHe⟩ : ∃ z, z = s.heap := ⟨_, rfl⟩
  obtain ⟨locs, hLe⟩ : ∃ z : List Loc, z = [] := ⟨_, rfl⟩
  have hS : va_S A s.heap H locs := by rw [hHe, hLe]; exact va_S.rf
  have hP : va_P (dC, dI) vwCl (rw cI cZ a σ) H := by rw [hHe]; exact hP
  refine W_ofH hHe hLe ?_
  clear hHe hLe
  have hl := lv_entry ([.ref (a 0), .int x1, .int x2]) (n := 3) (Nat.le_of_ble_eq_true rfl)
  rw [lg_entry_eq]
  generalize (lg_sl ([.ref (a 0), .int x1, .int x2]) ++ List.replicate (3 - (lg_sl ([.ref (a 0), .int x1, .int x2])).length) Slot.unset).toArray = ls at hl ⊢
  have hl : lv_has ls 3 [(0, .ref (a 0)), (1, .int x1), (2, .int x2)] := hl
  obtain ⟨R, hR⟩ : ∃ z, z = rf_age σ x1 x2 := ⟨_, rfl⟩
  have hw := hR
  unfold rf_age at hw
  refine lv_aload_n hx hb dX4_age_0 rfl (lv_at hl 0 rfl) ?_
  refine lv_iload_n hx hb dX4_age_1 rfl (lv_at hl 1 rfl) ?_
  refine lv_iconst (v := 0) hx hb dX4_age_2 (by decide) ?_
  refine lv_iconst (v := 4) hx hb dX4_age_3 (by decide) ?_
  refine vp_callSi (W.runS (As := [.int x1, .int (0 : Int32), .int (4 : Int32)]) (rest := [.ref (a 0)]) ⟨hx, hb, hml, hown, hts⟩ (m_X4_in l x1 (0 : Int32) (4 : Int32)) (cwS 3 hts (gS k_658 k_659 k_24 k_660) rfl rfl rfl (by decide +kernel) ⟨Nat.le_of_ble_eq_true rfl, Nat.le_of_ble_eq_true rfl⟩) ps_0 rfl rfl hl.1 rfl (lv_room (Nat.le_of_ble_eq_true rfl)) dX4_age_4 ⟨Nat.le_of_ble_eq_true rfl, Nat.le_of_ble_eq_true rfl⟩) (fun r hrr => ?_)
  subst hrr
  obtain ⟨b_1, hb_1⟩ : ∃ z : Int32, z = (if (rf_in x1 (0 : Int32) (4 : Int32)) = 0 then (1 : Int32) else (0 : Int32)) := ⟨_, rfl⟩
  replace hw : R = (let b_2 : Int32 := (if (rf_in x2 (0 : Int32) (20000 : Int32)) = 0 then (1 : Int32) else (0 : Int32)); let σ_3 : St := (rf_throwing σ b_1 b_2 (0 : Int32) (0 : Int32)).2; if ((rf_throwing σ b_1 b_2 (0 : Int32) (0 : Int32)).1) = 0 then (let σ_11 : St := su σ_3 2 x1.toNatClampNeg x2; σ_11) else σ_3) := by subst hb_1; exact hw
  have J_1 : ∀ (v9 : Int32) (ls : Array Slot), b_1 = v9 → lv_has ls 3 [(0, .ref (a 0)), (1, .int x1), (2, .int x2)] → W p l e (headSpec wsX4_age ({ frames := 1, cells := 0, slots := 0, locals := 24 })).room s m [.ref (a 0), .int x1, .int x2].toArray below meth c H locs 0 0 (MQ below (va_Qv (fun σ9 => σ9 = rf_age σ x1 x2) (bMr dC dI cI cZ a A) A) [.ref (a 0), .int x1, .int x2].toArray s 0 0 A) (F0 m 15 ls [.int v9, .ref (a 0)]) := by
    intro v9 ls hv9 hl
    subst hv9
    refine lv_iload_n hx hb dX4_age_15 rfl (lv_at hl 2 rfl) ?_
    refine lv_iconst (v := 0) hx hb dX4_age_16 (by decide) ?_
    refine lv_sipush (v := 20000) hx hb dX4_age_17 (by decide) ?_
    refine vp_callSi (W.runS (As := [.int x2, .int (0 : Int32), .int (20000 : Int32)]) (rest := [.int b_1, .ref (a 0)]) ⟨hx, hb, hml, hown, hts⟩ (m_X4_in l x2 (0 : Int32) (20000 : Int32)) (cwS 3 hts (gS k_658 k_659 k_24 k_660) rfl rfl rfl (by decide +kernel) ⟨Nat.le_of_ble_eq_true rfl, Nat.le_of_ble_eq_true rfl⟩) ps_0 rfl rfl hl.1 rfl (lv_room (Nat.le_of_ble_eq_true rfl)) dX4_age_20 ⟨Nat.le_of_ble_eq_true rfl, Nat.le_of_ble_eq_true rfl⟩) (fun r hrr => ?_)
    subst hrr
    obtain ⟨b_2, hb_2⟩ : ∃ z : Int32, z = (if (rf_in x2 (0 : Int32) (20000 : Int32)) = 0 then (1 : Int32) else (0 : Int32)) := ⟨_, rfl⟩
    replace hw : R = (let σ_3 : St := (rf_throwing σ b_1 b_2 (0 : Int32) (0 : Int32)).2; if ((rf_throwing σ b_1 b_2 (0 : Int32) (0 : Int32)).1) = 0 then (let σ_11 : St := su σ_3 2 x1.toNatClampNeg x2; σ_11) else σ_3) := by subst hb_2; exact hw
    have J_2 : ∀ (v9 : Int32) (ls : Array Slot), b_2 = v9 → lv_has ls 3 [(0, .ref (a 0)), (1, .int x1), (2, .int x2)] → W p l e (headSpec wsX4_age ({ frames := 1, cells := 0, slots := 0, locals := 24 })).room s m [.ref (a 0), .int x1, .int x2].toArray below meth c H locs 0 0 (MQ below (va_Qv (fun σ9 => σ9 = rf_age σ x1 x2) (bMr dC dI cI cZ a A) A) [.ref (a 0), .int x1, .int x2].toArray s 0 0 A) (F0 m 31 ls [.int v9, .int b_1, .ref (a 0)]) := by
      intro v9 ls hv9 hl
      subst hv9
      refine lv_iconst (v := 0) hx hb dX4_age_31 (by decide) ?_
      refine lv_iconst (v := 0) hx hb dX4_age_32 (by decide) ?_
      have hFc := fr_all hD hS hA
      refine va_calli (va_runV (As := [.int b_1, .int b_2, .int (0 : Int32), .int (0 : Int32)]) (rest := []) ⟨hx, hb, hml, hown, hts⟩ (m_X4_throwing l dC dI cI cZ a H.size σ b_1 b_2 (0 : Int32) (0 : Int32)) (cwV 4 hts (gV k_650 k_652 k_11 k_24 k_653) rfl rfl rfl (by decide +kernel) ⟨Nat.le_of_ble_eq_true rfl, Nat.le_of_ble_eq_true rfl⟩) (pv_mr (q := (RX4, TX4, 23)) (q0 := 0) (ci := 4) hK hP hD rfl rfl) rfl rfl hl.1 rfl (lv_room (Nat.le_of_ble_eq_true rfl)) dX4_age_33 ⟨Nat.le_of_ble_eq_true rfl, Nat.le_of_ble_eq_true rfl⟩) hS (fun q _ h => hFc q h) hFc (fun r σ_3 t H1 locs ht hvm hw9 hB hz1 hk1 hS => ?_)
      obtain ⟨hP, hK1, hD1⟩ := hB
      rw [ht] at hP
      have hD := hD1.weaken (fun _ _ _ h => hFc _ h)
      clear hFc hD1 hK1
      obtain ⟨rfl, eσ_3⟩ : r = (rf_throwing σ b_1 b_2 (0 : Int32) (0 : Int32)).1 ∧ σ_3 = (rf_throwing σ b_1 b_2 (0 : Int32) (0 : Int32)).2 := ⟨congrArg Prod.fst hw9, congrArg Prod.snd hw9⟩
      clear hw9
      replace hw : R = (if ((rf_throwing σ b_1 b_2 (0 : Int32) (0 : Int32)).1) = 0 then (let σ_11 : St := su σ_3 2 x1.toNatClampNeg x2; σ_11) else σ_3) := by subst eσ_3; exact hw
      generalize H1 = H at hP hS ⊢
      have hiv_4 : IVr σ_3 := by rw [eσ_3]; exact ir_thr hiv _ _ _ _
      refine lv_if_eq (tgt := 40) hx hb dX4_age_36 (by decide) (fun c_36_5 => ?_) (fun c_36_5 => ?_)
      · skip
        rw [if_pos c_36_5] at hw
        obtain ⟨z0_6, z1_7, z2_8, z3_9⟩ := thr0 c_36_5
        have hf_10 : vp_in x1 5 := bd_in hb_1 z0_6 (n := 5) (by decide) (by decide)
        refine lv_aload_n hx hb dX4_age_40 rfl (lv_at hl 0 rfl) ?_
        refine va_get (D := (dC, dI)) (ci := 4) (v := .ref (a 2)) (C := RX4) (T := TX4) (N := 23) hx hb hts (iwX4 _) hown hK hP 0 rfl rfl 2 (by decide) (hts _ (kc k_573)) (fun _ h9 => h9) rfl dX4_age_41 ?_
        refine lv_iload_n hx hb dX4_age_44 rfl (lv_at hl 1 rfl) ?_
        refine lv_iload_n hx hb dX4_age_45 rfl (lv_at hl 2 rfl) ?_
        refine va_iast (D := (dC, dI)) (f := σ_3 2) hx hb hK hP hD hS 1 0 rfl rfl (i := x1) (x := x2) hf_10 dX4_age_46 (fun H locs hP hD hS => ?_)
        obtain ⟨σ_11, eσ_11⟩ : ∃ z : St, z = su σ_3 2 x1.toNatClampNeg x2 := ⟨_, rfl⟩
        replace hP := P_rw_2 hP
        replace hD := D_rw_2 hD
        rw [← eσ_11] at hP hD
        replace hw : R = (σ_11) := by subst eσ_11; exact hw
        have hiv_12 : IVr σ_11 := by rw [eσ_11]; exact (ir_suq hiv_4 (by decide))
        exact W.vret hx hb hr (fun t ht hW => ⟨⟨σ_11, rfl, hw.symm.trans hR, by rw [ht]; exact hP, va_K.moved hW.alike hK, hD⟩, hS.F ht⟩) hS.2.2 dX4_age_47
      · skip
        rw [if_neg c_36_5] at hw
        exact W.vret hx hb hr (fun t ht hW => ⟨⟨σ_3, rfl, hw.symm.trans hR, by rw [ht]; exact hP, va_K.moved hW.alike hK, hD⟩, hS.F ht⟩) hS.2.2 dX4_age_39
    have hq_2 := hb_2
    refine lv_if_ne (tgt := 30) hx hb dX4_age_23 (by decide) (fun c_23_13 => ?_) (fun c_23_13 => ?_)
    · skip
      rw [if_neg c_23_13] at hq_2
      refine lv_iconst (v := 0) hx hb dX4_age_30 (by decide) ?_
      exact J_2 _ ls hq_2 (lv_sub hl [0, 1, 2] rfl)
    · skip
      rw [if_pos c_23_13] at hq_2
      refine lv_iconst (v := 1) hx hb dX4_age_26 (by decide) ?_
      refine lv_goto (tgt := 31) hx hb dX4_age_27 (by decide) ?_
      exact J_2 _ ls hq_2 (lv_sub hl [0, 1, 2] rfl)
  have hq_1 := hb_1
  refine lv_if_ne (tgt := 14) hx hb dX4_age_7 (by decide) (fun c_7_14 => ?_) (fun c_7_14 => ?_)
  · skip
    rw [if_neg c_7_14] at hq_1
    refine lv_iconst (v := 0) hx hb dX4_age_14 (by decide) ?_
    exact J_1 _ ls hq_1 (lv_sub hl [0, 1, 2] rfl)
  · skip
    rw [if_pos c_7_14] at hq_1
    refine lv_iconst (v := 1) hx hb dX4_age_10 (by decide) ?_
    refine lv_goto (tgt := 15) hx hb dX4_age_11 (by decide) ?_
    exact J_1 _ ls hq_1 (lv_sub hl [0, 1, 2] rfl)
set_option maxHeartbeats 4000000 in
set_option maxRecDepth 100000 in
theorem m_X4_test (l : Launch) (dC : Nat → ClassId) (dI : Nat → Nat → Nat) (cI cZ : ClassId) (a : Nat → Nat) (sz : Nat) (σ : St) (x1 : Int32) (x2 : Int32) (x3 : Int32) (x4 : Int32) (hiv : IVr σ) : Met l yX4_test wsX4_test ({ frames := 2, cells := 0, slots := 0, locals := 43 }) (pMr dC dI cI cZ a sz σ [.ref (a 0), .int x1, .int x2, .int x3, .int x4]) (va_Qv (fun σ9 => σ9 = rf_test σ x1 x2 x3 x4) (bMr dC dI cI cZ a (va_A (rw cI cZ a σ) sz)) (va_A (rw cI cZ a σ) sz)) 0 0 (va_A (rw cI cZ a σ) sz) := by
  refine Met.ofW (cc := cX4_test) (maxL := 5) (ret := none) (by decide) rfl ?_
  intro p e s m args below meth c s₁ B hml hv
  obtain ⟨rfl, hsz, hP, hK, hD0⟩ := hv
  have hx := B.exec
  have hb := B.bytes
  have hr := B.returns
  have hts := atoms_spec (ws := wsX4_test) B.pre
  have hown : s.vm.findClass RX4 = some m.cls := findClass_of_methodNamed B.named
  have hlocks := B.notSynchronized
  subst hsz
  have hD := hD0.self (sz := s.heap.size)
  generalize hAe : va_A (rw cI cZ a σ) s.heap.size = A at hD ⊢
  have hA : ∀ q : Nat, s.heap.size ≤ q → A q := fun q h => by rw [← hAe]; exact Or.inr h
  clear hAe hD0
  obtain ⟨H, hHe⟩ : ∃ z, z = s.heap := ⟨_, rfl⟩
  obtain ⟨locs, hLe⟩ : ∃ z : List Loc, z = [] := ⟨_, rfl⟩
  have hS : va_S A s.heap H locs := by rw [hHe, hLe]; exact va_S.rf
  have hP : va_P (dC, dI) vwCl (rw cI cZ a σ) H := by rw [hHe]; exact hP
  refine W_ofH hHe hLe ?_
  clear hHe hLe
  have hl := lv_entry ([.ref (a 0), .int x1, .int x2, .int x3, .int x4]) (n := 5) (Nat.le_of_ble_eq_true rfl)
  rw [lg_entry_eq]
  generalize (lg_sl ([.ref (a 0), .int x1, .int x2, .int x3, .int x4]) ++ List.replicate (5 - (lg_sl ([.ref (a 0), .int x1, .int x2, .int x3, .int x4])).length) Slot.unset).toArray = ls at hl ⊢
  have hl : lv_has ls 5 [(0, .ref (a 0)), (1, .int x1), (2, .int x2), (3, .int x3), (4, .int x4)] := hl
  obtain ⟨R, hR⟩ : ∃ z, z = rf_test σ x1 x2 x3 x4 := ⟨_, rfl⟩
  have hw := hR
  unfold rf_test at hw
  refine lv_aload_n hx hb dX4_test_0 rfl (lv_at hl 0 rfl) ?_
  refine lv_iload_n hx hb dX4_test_1 rfl (lv_at hl 1 rfl) ?_
  refine lv_iload_n hx hb dX4_test_2 rfl (lv_at hl 2 rfl) ?_
  refine vp_callSi (W.runS (As := [.int x1, .int x2]) (rest := [.ref (a 0)]) ⟨hx, hb, hml, hown, hts⟩ (m_X4_isTest l x1 x2) (cwS 2 hts (gS k_665 k_666 k_24 k_667) rfl rfl rfl (by decide +kernel) ⟨Nat.le_of_ble_eq_true rfl, Nat.le_of_ble_eq_true rfl⟩) ps_0 rfl rfl hl.1 rfl (lv_room (Nat.le_of_ble_eq_true rfl)) dX4_test_3 ⟨Nat.le_of_ble_eq_true rfl, Nat.le_of_ble_eq_true rfl⟩) (fun r hrr => ?_)
  subst hrr
  obtain ⟨b_1, hb_1⟩ : ∃ z : Int32, z = (if (rf_isTest x1 x2) = 0 then (1 : Int32) else (0 : Int32)) := ⟨_, rfl⟩
  replace hw : R = (let b_2 : Int32 := (if (rf_in x3 (0 : Int32) (5000 : Int32)) = 0 then (1 : Int32) else (if (rf_in x4 (0 : Int32) (1000 : Int32)) = 0 then (1 : Int32) else (0 : Int32))); let σ_3 : St := (rf_throwing σ b_1 b_2 (0 : Int32) (0 : Int32)).2; if ((rf_throwing σ b_1 b_2 (0 : Int32) (0 : Int32)).1) = 0 then (let σ_11 : St := su σ_3 3 ((((3 : Int32) * x1) + x2).toNatClampNeg) x3; let σ_13 : St := su σ_11 4 ((((3 : Int32) * x1) + x2).toNatClampNeg) x4; σ_13) else σ_3) := by subst hb_1; exact hw
  have J_1 : ∀ (v9 : Int32) (ls : Array Slot), b_1 = v9 → lv_has ls 5 [(0, .ref (a 0)), (1, .int x1), (2, .int x2), (3, .int x3), (4, .int x4)] → W p l e (headSpec wsX4_test ({ frames := 2, cells := 0, slots := 0, locals := 43 })).room s m [.ref (a 0), .int x1, .int x2, .int x3, .int x4].toArray below meth c H locs 0 0 (MQ below (va_Qv (fun σ9 => σ9 = rf_test σ x1 x2 x3 x4) (bMr dC dI cI cZ a A) A) [.ref (a 0), .int x1, .int x2, .int x3, .int x4].toArray s 0 0 A) (F0 m 14 ls [.int v9, .ref (a 0)]) := by
    intro v9 ls hv9 hl
    subst hv9
    refine lv_iload_n hx hb dX4_test_14 rfl (lv_at hl 3 rfl) ?_
    refine lv_iconst (v := 0) hx hb dX4_test_15 (by decide) ?_
    refine lv_sipush (v := 5000) hx hb dX4_test_16 (by decide) ?_
    refine vp_callSi (W.runS (As := [.int x3, .int (0 : Int32), .int (5000 : Int32)]) (rest := [.int b_1, .ref (a 0)]) ⟨hx, hb, hml, hown, hts⟩ (m_X4_in l x3 (0 : Int32) (5000 : Int32)) (cwS 3 hts (gS k_658 k_659 k_24 k_660) rfl rfl rfl (by decide +kernel) ⟨Nat.le_of_ble_eq_true rfl, Nat.le_of_ble_eq_true rfl⟩) ps_0 rfl rfl hl.1 rfl (lv_room (Nat.le_of_ble_eq_true rfl)) dX4_test_19 ⟨Nat.le_of_ble_eq_true rfl, Nat.le_of_ble_eq_true rfl⟩) (fun r hrr => ?_)
    subst hrr
    obtain ⟨b_2, hb_2⟩ : ∃ z : Int32, z = (if (rf_in x3 (0 : Int32) (5000 : Int32)) = 0 then (1 : Int32) else (if (rf_in x4 (0 : Int32) (1000 : Int32)) = 0 then (1 : Int32) else (0 : Int32))) := ⟨_, rfl⟩
    replace hw : R = (let σ_3 : St := (rf_throwing σ b_1 b_2 (0 : Int32) (0 : Int32)).2; if ((rf_throwing σ b_1 b_2 (0 : Int32) (0 : Int32)).1) = 0 then (let σ_11 : St := su σ_3 3 ((((3 : Int32) * x1) + x2).toNatClampNeg) x3; let σ_13 : St := su σ_11 4 ((((3 : Int32) * x1) + x2).toNatClampNeg) x4; σ_13) else σ_3) := by subst hb_2; exact hw
    have J_2 : ∀ (v9 : Int32) (ls : Array Slot), b_2 = v9 → lv_has ls 5 [(0, .ref (a 0)), (1, .int x1), (2, .int x2), (3, .int x3), (4, .int x4)] → W p l e (headSpec wsX4_test ({ frames := 2, cells := 0, slots := 0, locals := 43 })).room s m [.ref (a 0), .int x1, .int x2, .int x3, .int x4].toArray below meth c H locs 0 0 (MQ below (va_Qv (fun σ9 => σ9 = rf_test σ x1 x2 x3 x4) (bMr dC dI cI cZ a A) A) [.ref (a 0), .int x1, .int x2, .int x3, .int x4].toArray s 0 0 A) (F0 m 42 ls [.int v9, .int b_1, .ref (a 0)]) := by
      intro v9 ls hv9 hl
      subst hv9
      refine lv_iconst (v := 0) hx hb dX4_test_42 (by decide) ?_
      refine lv_iconst (v := 0) hx hb dX4_test_43 (by decide) ?_
      have hFc := fr_all hD hS hA
      refine va_calli (va_runV (As := [.int b_1, .int b_2, .int (0 : Int32), .int (0 : Int32)]) (rest := []) ⟨hx, hb, hml, hown, hts⟩ (m_X4_throwing l dC dI cI cZ a H.size σ b_1 b_2 (0 : Int32) (0 : Int32)) (cwV 4 hts (gV k_650 k_652 k_11 k_24 k_653) rfl rfl rfl (by decide +kernel) ⟨Nat.le_of_ble_eq_true rfl, Nat.le_of_ble_eq_true rfl⟩) (pv_mr (q := (RX4, TX4, 23)) (q0 := 0) (ci := 4) hK hP hD rfl rfl) rfl rfl hl.1 rfl (lv_room (Nat.le_of_ble_eq_true rfl)) dX4_test_44 ⟨Nat.le_of_ble_eq_true rfl, Nat.le_of_ble_eq_true rfl⟩) hS (fun q _ h => hFc q h) hFc (fun r σ_3 t H1 locs ht hvm hw9 hB hz1 hk1 hS => ?_)
      obtain ⟨hP, hK1, hD1⟩ := hB
      rw [ht] at hP
      have hD := hD1.weaken (fun _ _ _ h => hFc _ h)
      clear hFc hD1 hK1
      obtain ⟨rfl, eσ_3⟩ : r = (rf_throwing σ b_1 b_2 (0 : Int32) (0 : Int32)).1 ∧ σ_3 = (rf_throwing σ b_1 b_2 (0 : Int32) (0 : Int32)).2 := ⟨congrArg Prod.fst hw9, congrArg Prod.snd hw9⟩
      clear hw9
      replace hw : R = (if ((rf_throwing σ b_1 b_2 (0 : Int32) (0 : Int32)).1) = 0 then (let σ_11 : St := su σ_3 3 ((((3 : Int32) * x1) + x2).toNatClampNeg) x3; let σ_13 : St := su σ_11 4 ((((3 : Int32) * x1) + x2).toNatClampNeg) x4; σ_13) else σ_3) := by subst eσ_3; exact hw
      generalize H1 = H at hP hS ⊢
      have hiv_4 : IVr σ_3 := by rw [eσ_3]; exact ir_thr hiv _ _ _ _
      refine lv_if_eq (tgt := 51) hx hb dX4_test_47 (by decide) (fun c_47_5 => ?_) (fun c_47_5 => ?_)
      · skip
        rw [if_pos c_47_5] at hw
        obtain ⟨z0_6, z1_7, z2_8, z3_9⟩ := thr0 c_47_5
        obtain ⟨ha_10, hb_10⟩ := bd_test hb_1 z0_6
        refine lv_aload_n hx hb dX4_test_51 rfl (lv_at hl 0 rfl) ?_
        refine va_get (D := (dC, dI)) (ci := 4) (v := .ref (a 3)) (C := RX4) (T := TX4) (N := 23) hx hb hts (iwX4 _) hown hK hP 0 rfl rfl 3 (by decide) (hts _ (kc k_574)) (fun _ h9 => h9) rfl dX4_test_52 ?_
        refine lv_iconst (v := 3) hx hb dX4_test_55 (by decide) ?_
        refine lv_iload_n hx hb dX4_test_56 rfl (lv_at hl 1 rfl) ?_
        refine lv_imul hx hb dX4_test_57 ?_
        refine lv_iload_n hx hb dX4_test_58 rfl (lv_at hl 2 rfl) ?_
        refine lv_iadd hx hb dX4_test_59 ?_
        refine lv_iload_n hx hb dX4_test_60 rfl (lv_at hl 3 rfl) ?_
        refine va_iast (D := (dC, dI)) (f := σ_3 3) hx hb hK hP hD hS 2 0 rfl rfl (i := ((3 : Int32) * x1) + x2) (x := x3) (in_3m (n := 5) ha_10 hb_10 (by decide) (by decide)) dX4_test_61 (fun H locs hP hD hS => ?_)
        obtain ⟨σ_11, eσ_11⟩ : ∃ z : St, z = su σ_3 3 ((((3 : Int32) * x1) + x2).toNatClampNeg) x3 := ⟨_, rfl⟩
        replace hP := P_rw_3 hP
        replace hD := D_rw_3 hD
        rw [← eσ_11] at hP hD
        replace hw : R = (let σ_13 : St := su σ_11 4 ((((3 : Int32) * x1) + x2).toNatClampNeg) x4; σ_13) := by subst eσ_11; exact hw
        have hiv_12 : IVr σ_11 := by rw [eσ_11]; exact (ir_suq hiv_4 (by decide))
        refine lv_aload_n hx hb dX4_test_62 rfl (lv_at hl 0 rfl) ?_
        refine va_get (D := (dC, dI)) (ci := 4) (v := .ref (a 4)) (C := RX4) (T := TX4) (N := 23) hx hb hts (iwX4 _) hown hK hP 0 rfl rfl 4 (by decide) (hts _ (kc k_575)) (fun _ h9 => h9) rfl dX4_test_63 ?_
        refine lv_iconst (v := 3) hx hb dX4_test_66 (by decide) ?_
        refine lv_iload_n hx hb dX4_test_67 rfl (lv_at hl 1 rfl) ?_
        refine lv_imul hx hb dX4_test_68 ?_
        refine lv_iload_n hx hb dX4_test_69 rfl (lv_at hl 2 rfl) ?_
        refine lv_iadd hx hb dX4_test_70 ?_
        refine lv_iload hx hb dX4_test_71 (lv_at hl 4 rfl) ?_
        refine va_iast (D := (dC, dI)) (f := σ_11 4) hx hb hK hP hD hS 3 0 rfl rfl (i := ((3 : Int32) * x1) + x2) (x := x4) (in_3m (n := 5) ha_10 hb_10 (by decide) (by decide)) dX4_test_73 (fun H locs hP hD hS => ?_)
        obtain ⟨σ_13, eσ_13⟩ : ∃ z : St, z = su σ_11 4 ((((3 : Int32) * x1) + x2).toNatClampNeg) x4 := ⟨_, rfl⟩
        replace hP := P_rw_4 hP
        replace hD := D_rw_4 hD
        rw [← eσ_13] at hP hD
        replace hw : R = (σ_13) := by subst eσ_13; exact hw
        have hiv_14 : IVr σ_13 := by rw [eσ_13]; exact (ir_suq hiv_12 (by decide))
        exact W.vret hx hb hr (fun t ht hW => ⟨⟨σ_13, rfl, hw.symm.trans hR, by rw [ht]; exact hP, va_K.moved hW.alike hK, hD⟩, hS.F ht⟩) hS.2.2 dX4_test_74
      · skip
        rw [if_neg c_47_5] at hw
        exact W.vret hx hb hr (fun t ht hW => ⟨⟨σ_3, rfl, hw.symm.trans hR, by rw [ht]; exact hP, va_K.moved hW.alike hK, hD⟩, hS.F ht⟩) hS.2.2 dX4_test_50
    have hq_2 := hb_2
    refine lv_if_eq (tgt := 37) hx hb dX4_test_22 (by decide) (fun c_22_15 => ?_) (fun c_22_15 => ?_)
    · skip
      rw [if_pos c_22_15] at hq_2
      refine lv_iconst (v := 1) hx hb dX4_test_37 (by decide) ?_
      refine lv_goto (tgt := 42) hx hb dX4_test_38 (by decide) ?_
      exact J_2 _ ls hq_2 (lv_sub hl [0, 1, 2, 3, 4] rfl)
    · skip
      rw [if_neg c_22_15] at hq_2
      refine lv_iload hx hb dX4_test_25 (lv_at hl 4 rfl) ?_
      refine lv_iconst (v := 0) hx hb dX4_test_27 (by decide) ?_
      refine lv_sipush (v := 1000) hx hb dX4_test_28 (by decide) ?_
      refine vp_callSi (W.runS (As := [.int x4, .int (0 : Int32), .int (1000 : Int32)]) (rest := [.int b_1, .ref (a 0)]) ⟨hx, hb, hml, hown, hts⟩ (m_X4_in l x4 (0 : Int32) (1000 : Int32)) (cwS 3 hts (gS k_658 k_659 k_24 k_660) rfl rfl rfl (by decide +kernel) ⟨Nat.le_of_ble_eq_true rfl, Nat.le_of_ble_eq_true rfl⟩) ps_0 rfl rfl hl.1 rfl (lv_room (Nat.le_of_ble_eq_true rfl)) dX4_test_31 ⟨Nat.le_of_ble_eq_true rfl, Nat.le_of_ble_eq_true rfl⟩) (fun r hrr => ?_)
      subst hrr
      refine lv_if_ne (tgt := 41) hx hb dX4_test_34 (by decide) (fun c_34_16 => ?_) (fun c_34_16 => ?_)
      · skip
        rw [if_neg c_34_16] at hq_2
        refine lv_iconst (v := 0) hx hb dX4_test_41 (by decide) ?_
        exact J_2 _ ls hq_2 (lv_sub hl [0, 1, 2, 3, 4] rfl)
      · skip
        rw [if_pos c_34_16] at hq_2
        refine lv_iconst (v := 1) hx hb dX4_test_37 (by decide) ?_
        refine lv_goto (tgt := 42) hx hb dX4_test_38 (by decide) ?_
        exact J_2 _ ls hq_2 (lv_sub hl [0, 1, 2, 3, 4] rfl)
  have hq_1 := hb_1
  refine lv_if_ne (tgt := 13) hx hb dX4_test_6 (by decide) (fun c_6_17 => ?_) (fun c_6_17 => ?_)
  · skip
    rw [if_neg c_6_17] at hq_1
    refine lv_iconst (v := 0) hx hb dX4_test_13 (by decide) ?_
    exact J_1 _ ls hq_1 (lv_sub hl [0, 1, 2, 3, 4] rfl)
  · skip
    rw [if_pos c_6_17] at hq_1
    refine lv_iconst (v := 1) hx hb dX4_test_9 (by decide) ?_
    refine lv_goto (tgt := 14) hx hb dX4_test_10 (by decide) ?_
    exact J_1 _ ls hq_1 (lv_sub hl [0, 1, 2, 3, 4] rfl)
set_option maxHeartbeats 4000000 in
set_option maxRecDepth 100000 in
theorem m_X4_bounds (l : Launch) (dC : Nat → ClassId) (dI : Nat → Nat → Nat) (cI cZ : ClassId) (a : Nat → Nat) (sz : Nat) (σ : St) (x1 : Int32) (x2 : Int32) (x3 : Int32) (x4 : Int32) (hiv : IVr σ) : Met l yX4_bounds wsX4_bounds ({ frames := 2, cells := 0, slots := 0, locals := 43 }) (pMr dC dI cI cZ a sz σ [.ref (a 0), .int x1, .int x2, .int x3, .int x4]) (va_Qv (fun σ9 => σ9 = rf_bounds σ x1 x2 x3 x4) (bMr dC dI cI cZ a (va_A (rw cI cZ a σ) sz)) (va_A (rw cI cZ a σ) sz)) 0 0 (va_A (rw cI cZ a σ) sz) := by
  refine Met.ofW (cc := cX4_bounds) (maxL := 5) (ret := none) (by decide) rfl ?_
  intro p e s m args below meth c s₁ B hml hv
  obtain ⟨rfl, hsz, hP, hK, hD0⟩ := hv
  have hx := B.exec
  have hb := B.bytes
  have hr := B.returns
  have hts := atoms_spec (ws := wsX4_bounds) B.pre
  have hown : s.vm.findClass RX4 = some m.cls := findClass_of_methodNamed B.named
  have hlocks := B.notSynchronized
  subst hsz
  have hD := hD0.self (sz := s.heap.size)
  generalize hAe : va_A (rw cI cZ a σ) s.heap.size = A at hD ⊢
  have hA : ∀ q : Nat, s.heap.size ≤ q → A q := fun q h => by rw [← hAe]; exact Or.inr h
  clear hAe hD0
  obtain ⟨H, hHe⟩ : ∃ z, z = s.heap := ⟨_, rfl⟩
  obtain ⟨locs, hLe⟩ : ∃ z : List Loc, z = [] := ⟨_, rfl⟩
  have hS : va_S A s.heap H locs := by rw [hHe, hLe]; exact va_S.rf
  have hP : va_P (dC, dI) vwCl (rw cI cZ a σ) H := by rw [hHe]; exact hP
  refine W_ofH hHe hLe ?_
  clear hHe hLe
  have hl := lv_entry ([.ref (a 0), .int x1, .int x2, .int x3, .int x4]) (n := 5) (Nat.le_of_ble_eq_true rfl)
  rw [lg_entry_eq]
  generalize (lg_sl ([.ref (a 0), .int x1, .int x2, .int x3, .int x4]) ++ List.replicate (5 - (lg_sl ([.ref (a 0), .int x1, .int x2, .int x3, .int x4])).length) Slot.unset).toArray = ls at hl ⊢
  have hl : lv_has ls 5 [(0, .ref (a 0)), (1, .int x1), (2, .int x2), (3, .int x3), (4, .int x4)] := hl
  obtain ⟨R, hR⟩ : ∃ z, z = rf_bounds σ x1 x2 x3 x4 := ⟨_, rfl⟩
  have hw := hR
  unfold rf_bounds at hw
  refine lv_aload_n hx hb dX4_bounds_0 rfl (lv_at hl 0 rfl) ?_
  refine lv_iload_n hx hb dX4_bounds_1 rfl (lv_at hl 1 rfl) ?_
  refine lv_iload_n hx hb dX4_bounds_2 rfl (lv_at hl 2 rfl) ?_
  refine vp_callSi (W.runS (As := [.int x1, .int x2]) (rest := [.ref (a 0)]) ⟨hx, hb, hml, hown, hts⟩ (m_X4_isTest l x1 x2) (cwS 2 hts (gS k_665 k_666 k_24 k_667) rfl rfl rfl (by decide +kernel) ⟨Nat.le_of_ble_eq_true rfl, Nat.le_of_ble_eq_true rfl⟩) ps_0 rfl rfl hl.1 rfl (lv_room (Nat.le_of_ble_eq_true rfl)) dX4_bounds_3 ⟨Nat.le_of_ble_eq_true rfl, Nat.le_of_ble_eq_true rfl⟩) (fun r hrr => ?_)
  subst hrr
  obtain ⟨b_1, hb_1⟩ : ∃ z : Int32, z = (if (rf_isTest x1 x2) = 0 then (1 : Int32) else (0 : Int32)) := ⟨_, rfl⟩
  replace hw : R = (let b_2 : Int32 := (if x3 < 0 then (1 : Int32) else (if x4 < x3 then (1 : Int32) else (if x4 ≤ (10000 : Int32) then (0 : Int32) else (1 : Int32)))); let σ_3 : St := (rf_throwing σ b_1 b_2 (0 : Int32) (0 : Int32)).2; if ((rf_throwing σ b_1 b_2 (0 : Int32) (0 : Int32)).1) = 0 then (let σ_11 : St := su σ_3 5 ((((3 : Int32) * x1) + x2).toNatClampNeg) x3; let σ_13 : St := su σ_11 6 ((((3 : Int32) * x1) + x2).toNatClampNeg) x4; σ_13) else σ_3) := by subst hb_1; exact hw
  have J_1 : ∀ (v9 : Int32) (ls : Array Slot), b_1 = v9 → lv_has ls 5 [(0, .ref (a 0)), (1, .int x1), (2, .int x2), (3, .int x3), (4, .int x4)] → W p l e (headSpec wsX4_bounds ({ frames := 2, cells := 0, slots := 0, locals := 43 })).room s m [.ref (a 0), .int x1, .int x2, .int x3, .int x4].toArray below meth c H locs 0 0 (MQ below (va_Qv (fun σ9 => σ9 = rf_bounds σ x1 x2 x3 x4) (bMr dC dI cI cZ a A) A) [.ref (a 0), .int x1, .int x2, .int x3, .int x4].toArray s 0 0 A) (F0 m 14 ls [.int v9, .ref (a 0)]) := by
    intro v9 ls hv9 hl
    subst hv9
    refine lv_iload_n hx hb dX4_bounds_14 rfl (lv_at hl 3 rfl) ?_
    obtain ⟨b_2, hb_2⟩ : ∃ z : Int32, z = (if x3 < 0 then (1 : Int32) else (if x4 < x3 then (1 : Int32) else (if x4 ≤ (10000 : Int32) then (0 : Int32) else (1 : Int32)))) := ⟨_, rfl⟩
    replace hw : R = (let σ_3 : St := (rf_throwing σ b_1 b_2 (0 : Int32) (0 : Int32)).2; if ((rf_throwing σ b_1 b_2 (0 : Int32) (0 : Int32)).1) = 0 then (let σ_11 : St := su σ_3 5 ((((3 : Int32) * x1) + x2).toNatClampNeg) x3; let σ_13 : St := su σ_11 6 ((((3 : Int32) * x1) + x2).toNatClampNeg) x4; σ_13) else σ_3) := by subst hb_2; exact hw
    have J_2 : ∀ (v9 : Int32) (ls : Array Slot), b_2 = v9 → lv_has ls 5 [(0, .ref (a 0)), (1, .int x1), (2, .int x2), (3, .int x3), (4, .int x4)] → W p l e (headSpec wsX4_bounds ({ frames := 2, cells := 0, slots := 0, locals := 43 })).room s m [.ref (a 0), .int x1, .int x2, .int x3, .int x4].toArray below meth c H locs 0 0 (MQ below (va_Qv (fun σ9 => σ9 = rf_bounds σ x1 x2 x3 x4) (bMr dC dI cI cZ a A) A) [.ref (a 0), .int x1, .int x2, .int x3, .int x4].toArray s 0 0 A) (F0 m 37 ls [.int v9, .int b_1, .ref (a 0)]) := by
      intro v9 ls hv9 hl
      subst hv9
      refine lv_iconst (v := 0) hx hb dX4_bounds_37 (by decide) ?_
      refine lv_iconst (v := 0) hx hb dX4_bounds_38 (by decide) ?_
      have hFc := fr_all hD hS hA
      refine va_calli (va_runV (As := [.int b_1, .int b_2, .int (0 : Int32), .int (0 : Int32)]) (rest := []) ⟨hx, hb, hml, hown, hts⟩ (m_X4_throwing l dC dI cI cZ a H.size σ b_1 b_2 (0 : Int32) (0 : Int32)) (cwV 4 hts (gV k_650 k_652 k_11 k_24 k_653) rfl rfl rfl (by decide +kernel) ⟨Nat.le_of_ble_eq_true rfl, Nat.le_of_ble_eq_true rfl⟩) (pv_mr (q := (RX4, TX4, 23)) (q0 := 0) (ci := 4) hK hP hD rfl rfl) rfl rfl hl.1 rfl (lv_room (Nat.le_of_ble_eq_true rfl)) dX4_bounds_39 ⟨Nat.le_of_ble_eq_true rfl, Nat.le_of_ble_eq_true rfl⟩) hS (fun q _ h => hFc q h) hFc (fun r σ_3 t H1 locs ht hvm hw9 hB hz1 hk1 hS => ?_)
      obtain ⟨hP, hK1, hD1⟩ := hB
      rw [ht] at hP
      have hD := hD1.weaken (fun _ _ _ h => hFc _ h)
      clear hFc hD1 hK1
      obtain ⟨rfl, eσ_3⟩ : r = (rf_throwing σ b_1 b_2 (0 : Int32) (0 : Int32)).1 ∧ σ_3 = (rf_throwing σ b_1 b_2 (0 : Int32) (0 : Int32)).2 := ⟨congrArg Prod.fst hw9, congrArg Prod.snd hw9⟩
      clear hw9
      replace hw : R = (if ((rf_throwing σ b_1 b_2 (0 : Int32) (0 : Int32)).1) = 0 then (let σ_11 : St := su σ_3 5 ((((3 : Int32) * x1) + x2).toNatClampNeg) x3; let σ_13 : St := su σ_11 6 ((((3 : Int32) * x1) + x2).toNatClampNeg) x4; σ_13) else σ_3) := by subst eσ_3; exact hw
      generalize H1 = H at hP hS ⊢
      have hiv_4 : IVr σ_3 := by rw [eσ_3]; exact ir_thr hiv _ _ _ _
      refine lv_if_eq (tgt := 46) hx hb dX4_bounds_42 (by decide) (fun c_42_5 => ?_) (fun c_42_5 => ?_)
      · skip
        rw [if_pos c_42_5] at hw
        obtain ⟨z0_6, z1_7, z2_8, z3_9⟩ := thr0 c_42_5
        obtain ⟨ha_10, hb_10⟩ := bd_test hb_1 z0_6
        refine lv_aload_n hx hb dX4_bounds_46 rfl (lv_at hl 0 rfl) ?_
        refine va_get (D := (dC, dI)) (ci := 4) (v := .ref (a 5)) (C := RX4) (T := TX4) (N := 23) hx hb hts (iwX4 _) hown hK hP 0 rfl rfl 5 (by decide) (hts _ (kc k_576)) (fun _ h9 => h9) rfl dX4_bounds_47 ?_
        refine lv_iconst (v := 3) hx hb dX4_bounds_50 (by decide) ?_
        refine lv_iload_n hx hb dX4_bounds_51 rfl (lv_at hl 1 rfl) ?_
        refine lv_imul hx hb dX4_bounds_52 ?_
        refine lv_iload_n hx hb dX4_bounds_53 rfl (lv_at hl 2 rfl) ?_
        refine lv_iadd hx hb dX4_bounds_54 ?_
        refine lv_iload_n hx hb dX4_bounds_55 rfl (lv_at hl 3 rfl) ?_
        refine va_iast (D := (dC, dI)) (f := σ_3 5) hx hb hK hP hD hS 4 0 rfl rfl (i := ((3 : Int32) * x1) + x2) (x := x3) (in_3m (n := 5) ha_10 hb_10 (by decide) (by decide)) dX4_bounds_56 (fun H locs hP hD hS => ?_)
        obtain ⟨σ_11, eσ_11⟩ : ∃ z : St, z = su σ_3 5 ((((3 : Int32) * x1) + x2).toNatClampNeg) x3 := ⟨_, rfl⟩
        replace hP := P_rw_5 hP
        replace hD := D_rw_5 hD
        rw [← eσ_11] at hP hD
        replace hw : R = (let σ_13 : St := su σ_11 6 ((((3 : Int32) * x1) + x2).toNatClampNeg) x4; σ_13) := by subst eσ_11; exact hw
        have hiv_12 : IVr σ_11 := by rw [eσ_11]; exact (ir_suq hiv_4 (by decide))
        refine lv_aload_n hx hb dX4_bounds_57 rfl (lv_at hl 0 rfl) ?_
        refine va_get (D := (dC, dI)) (ci := 4) (v := .ref (a 6)) (C := RX4) (T := TX4) (N := 23) hx hb hts (iwX4 _) hown hK hP 0 rfl rfl 6 (by decide) (hts _ (kc k_577)) (fun _ h9 => h9) rfl dX4_bounds_58 ?_
        refine lv_iconst (v := 3) hx hb dX4_bounds_61 (by decide) ?_
        refine lv_iload_n hx hb dX4_bounds_62 rfl (lv_at hl 1 rfl) ?_
        refine lv_imul hx hb dX4_bounds_63 ?_
        refine lv_iload_n hx hb dX4_bounds_64 rfl (lv_at hl 2 rfl) ?_
        refine lv_iadd hx hb dX4_bounds_65 ?_
        refine lv_iload hx hb dX4_bounds_66 (lv_at hl 4 rfl) ?_
        refine va_iast (D := (dC, dI)) (f := σ_11 6) hx hb hK hP hD hS 5 0 rfl rfl (i := ((3 : Int32) * x1) + x2) (x := x4) (in_3m (n := 5) ha_10 hb_10 (by decide) (by decide)) dX4_bounds_68 (fun H locs hP hD hS => ?_)
        obtain ⟨σ_13, eσ_13⟩ : ∃ z : St, z = su σ_11 6 ((((3 : Int32) * x1) + x2).toNatClampNeg) x4 := ⟨_, rfl⟩
        replace hP := P_rw_6 hP
        replace hD := D_rw_6 hD
        rw [← eσ_13] at hP hD
        replace hw : R = (σ_13) := by subst eσ_13; exact hw
        have hiv_14 : IVr σ_13 := by rw [eσ_13]; exact (ir_suq hiv_12 (by decide))
        exact W.vret hx hb hr (fun t ht hW => ⟨⟨σ_13, rfl, hw.symm.trans hR, by rw [ht]; exact hP, va_K.moved hW.alike hK, hD⟩, hS.F ht⟩) hS.2.2 dX4_bounds_69
      · skip
        rw [if_neg c_42_5] at hw
        exact W.vret hx hb hr (fun t ht hW => ⟨⟨σ_3, rfl, hw.symm.trans hR, by rw [ht]; exact hP, va_K.moved hW.alike hK, hD⟩, hS.F ht⟩) hS.2.2 dX4_bounds_45
    have hq_2 := hb_2
    refine lv_if_lt (tgt := 32) hx hb dX4_bounds_15 (by decide) (fun c_15_15 => ?_) (fun c_15_15 => ?_)
    · skip
      rw [if_pos c_15_15] at hq_2
      refine lv_iconst (v := 1) hx hb dX4_bounds_32 (by decide) ?_
      refine lv_goto (tgt := 37) hx hb dX4_bounds_33 (by decide) ?_
      exact J_2 _ ls hq_2 (lv_sub hl [0, 1, 2, 3, 4] rfl)
    · skip
      rw [if_neg c_15_15] at hq_2
      refine lv_iload_n hx hb dX4_bounds_18 rfl (lv_at hl 3 rfl) ?_
      refine lv_iload hx hb dX4_bounds_19 (lv_at hl 4 rfl) ?_
      refine lv_icmp_gt (tgt := 32) hx hb dX4_bounds_21 (by decide) (fun c_21_16 => ?_) (fun c_21_16 => ?_)
      · skip
        rw [if_pos c_21_16] at hq_2
        refine lv_iconst (v := 1) hx hb dX4_bounds_32 (by decide) ?_
        refine lv_goto (tgt := 37) hx hb dX4_bounds_33 (by decide) ?_
        exact J_2 _ ls hq_2 (lv_sub hl [0, 1, 2, 3, 4] rfl)
      · skip
        rw [if_neg c_21_16] at hq_2
        refine lv_iload hx hb dX4_bounds_24 (lv_at hl 4 rfl) ?_
        refine lv_sipush (v := 10000) hx hb dX4_bounds_26 (by decide) ?_
        refine lv_icmp_le (tgt := 36) hx hb dX4_bounds_29 (by decide) (fun c_29_17 => ?_) (fun c_29_17 => ?_)
        · skip
          rw [if_pos c_29_17] at hq_2
          refine lv_iconst (v := 0) hx hb dX4_bounds_36 (by decide) ?_
          exact J_2 _ ls hq_2 (lv_sub hl [0, 1, 2, 3, 4] rfl)
        · skip
          rw [if_neg c_29_17] at hq_2
          refine lv_iconst (v := 1) hx hb dX4_bounds_32 (by decide) ?_
          refine lv_goto (tgt := 37) hx hb dX4_bounds_33 (by decide) ?_
          exact J_2 _ ls hq_2 (lv_sub hl [0, 1, 2, 3, 4] rfl)
  have hq_1 := hb_1
  refine lv_if_ne (tgt := 13) hx hb dX4_bounds_6 (by decide) (fun c_6_18 => ?_) (fun c_6_18 => ?_)
  · skip
    rw [if_neg c_6_18] at hq_1
    refine lv_iconst (v := 0) hx hb dX4_bounds_13 (by decide) ?_
    exact J_1 _ ls hq_1 (lv_sub hl [0, 1, 2, 3, 4] rfl)
  · skip
    rw [if_pos c_6_18] at hq_1
    refine lv_iconst (v := 1) hx hb dX4_bounds_9 (by decide) ?_
    refine lv_goto (tgt := 14) hx hb dX4_bounds_10 (by decide) ?_
    exact J_1 _ ls hq_1 (lv_sub hl [0, 1, 2, 3, 4] rfl)
set_option maxHeartbeats 4000000 in
set_option maxRecDepth 100000 in
theorem m_X4_letterOf (l : Launch) (x0 : Int32) : Met l yX4_letterOf wsX4_letterOf ({ frames := 0, cells := 0, slots := 0, locals := 0 }) (va_Pc [.int x0] (fun _ => True)) (vp_Si (fun r => r = rf_letterOf x0)) 0 0 (fun _ => False) := by
  refine Met.ofW (cc := cX4_letterOf) (maxL := 4) (ret := (some .int)) (by decide) rfl ?_
  intro p e s m args below meth c s₁ B hml hv
  obtain ⟨rfl, -⟩ := hv
  have hx := B.exec
  have hb := B.bytes
  have hr := B.returns
  have hts := atoms_spec (ws := wsX4_letterOf) B.pre
  have hown : s.vm.findClass RX4 = some m.cls := findClass_of_methodNamed B.named
  have hlocks := B.notSynchronized
  have hl := lv_entry ([.int x0]) (n := 4) (Nat.le_of_ble_eq_true rfl)
  rw [lg_entry_eq]
  generalize (lg_sl ([.int x0]) ++ List.replicate (4 - (lg_sl ([.int x0])).length) Slot.unset).toArray = ls at hl ⊢
  have hl : lv_has ls 4 [(0, .int x0)] := hl
  obtain ⟨R, hR⟩ : ∃ z, z = rf_letterOf x0 := ⟨_, rfl⟩
  have hw := hR
  unfold rf_letterOf at hw
  refine lv_iconst (v := 0) hx hb dX4_letterOf_0 (by decide) ?_
  refine lv_istore_n (lv' := [(1, .int (0 : Int32)), (0, .int x0)]) hx hb dX4_letterOf_1 rfl hl (by decide) rfl (fun ls hl => ?_)
  refine lv_iload_n hx hb dX4_letterOf_2 rfl (lv_at hl 1 rfl) ?_
  refine lv_istore_n (lv' := [(2, .int x0), (1, .int (0 : Int32)), (0, .int x0)]) hx hb dX4_letterOf_3 rfl hl (by decide) rfl (fun ls hl => ?_)
  refine lv_iconst (v := 0) hx hb dX4_letterOf_4 (by decide) ?_
  refine lv_istore_n (lv' := [(3, .int (0 : Int32)), (2, .int x0), (1, .int (0 : Int32)), (0, .int x0)]) hx hb dX4_letterOf_5 rfl hl (by decide) rfl (fun ls hl => ?_)
  have loop : ∀ (n k : Nat) (x1 : Int32) (x2 : Int32) (ls : Array Slot), k + n = 6 → lv_has ls 4 [(0, .int x0), (1, .int x1), (2, .int x2), (3, .int (nI k))] → R = rf_letterOf_6 x0 n k x1 x2 → W p l e (headSpec wsX4_letterOf ({ frames := 0, cells := 0, slots := 0, locals := 0 })).room s m [.int x0].toArray below meth c s.heap [] 0 0 (MQ below (vp_Si (fun r => r = rf_letterOf x0)) [.int x0].toArray s 0 0 (fun _ => False)) (F0 m 6 ls []) := by
    intro n
    induction n with
    | zero =>
      intro k x1 x2 ls hkn hl hw
      rw [rf_letterOf_6_0] at hw
      refine lv_iload_n hx hb dX4_letterOf_6 rfl (lv_at hl 3 rfl) ?_
      refine lv_bipush (v := 6) hx hb dX4_letterOf_7 (by decide) ?_
      refine lv_icmp_ge (tgt := 54) hx hb dX4_letterOf_9 (by decide) (fun c_9_1 => ?_) (fun c_9_1 => ?_)
      · skip
        refine lv_bipush (v := 65) hx hb dX4_letterOf_54 (by decide) ?_
        refine lv_iload_n hx hb dX4_letterOf_56 rfl (lv_at hl 1 rfl) ?_
        refine lv_bipush (v := 23) hx hb dX4_letterOf_57 (by decide) ?_
        refine lv_irem hx hb dX4_letterOf_59 (by decide) ?_
        refine lv_iadd hx hb dX4_letterOf_60 ?_
        exact W.iret (v := (65 : Int32) + (x1 - x1 / (23 : Int32) * (23 : Int32))) hx hb hr (fun t ht hW => ⟨_, rfl, hw.symm.trans hR, ht⟩) (fun _ h => by cases h) dX4_letterOf_61
      · skip
        exact absurd (lpE ht_6 hkn (by omega)) c_9_1
    | succ n ih =>
      intro k x1 x2 ls hkn hl hw
      rw [rf_letterOf_6_s] at hw
      have hkf : vp_in (nI k) 6 := vp_in_nI (by omega) (by decide)
      refine lv_iload_n hx hb dX4_letterOf_6 rfl (lv_at hl 3 rfl) ?_
      refine lv_bipush (v := 6) hx hb dX4_letterOf_7 (by decide) ?_
      refine lv_icmp_ge (tgt := 54) hx hb dX4_letterOf_9 (by decide) (fun c_9_2 => ?_) (fun c_9_2 => ?_)
      · skip
        exact absurd c_9_2 (lpB ht_6 hkn (by omega))
      · skip
        refine lv_iload_n hx hb dX4_letterOf_12 rfl (lv_at hl 1 rfl) ?_
        refine lv_iload_n hx hb dX4_letterOf_13 rfl (lv_at hl 2 rfl) ?_
        refine lv_bipush (v := 10) hx hb dX4_letterOf_14 (by decide) ?_
        refine lv_irem hx hb dX4_letterOf_16 (by decide) ?_
        refine lv_iload_n hx hb dX4_letterOf_17 rfl (lv_at hl 3 rfl) ?_
        refine lv_iconst (v := 3) hx hb dX4_letterOf_18 (by decide) ?_
        refine lv_irem hx hb dX4_letterOf_19 (by decide) ?_
        obtain ⟨b_3, hb_3⟩ : ∃ z : Int32, z = (if ((nI k) - (nI k) / (3 : Int32) * (3 : Int32)) = 0 then (1 : Int32) else (if ((nI k) - (nI k) / (3 : Int32) * (3 : Int32)) = (1 : Int32) then (3 : Int32) else (7 : Int32))) := ⟨_, rfl⟩
        replace hw : R = (rf_letterOf_6 x0 n (k + 1) (x1 + ((x2 - x2 / (10 : Int32) * (10 : Int32)) * b_3)) (x2 / (10 : Int32))) := by subst hb_3; exact hw
        have J_3 : ∀ (v9 : Int32) (ls : Array Slot), b_3 = v9 → lv_has ls 4 [(0, .int x0), (1, .int x1), (2, .int x2), (3, .int (nI k))] → W p l e (headSpec wsX4_letterOf ({ frames := 0, cells := 0, slots := 0, locals := 0 })).room s m [.int x0].toArray below meth c s.heap [] 0 0 (MQ below (vp_Si (fun r => r = rf_letterOf x0)) [.int x0].toArray s 0 0 (fun _ => False)) (F0 m 40 ls [.int v9, .int (x2 - x2 / (10 : Int32) * (10 : Int32)), .int x1]) := by
          intro v9 ls hv9 hl
          subst hv9
          refine lv_imul hx hb dX4_letterOf_40 ?_
          refine lv_iadd hx hb dX4_letterOf_41 ?_
          refine lv_istore_n (lv' := [(1, .int (x1 + ((x2 - x2 / (10 : Int32) * (10 : Int32)) * b_3))), (0, .int x0), (2, .int x2), (3, .int (nI k))]) hx hb dX4_letterOf_42 rfl hl (by decide) rfl (fun ls hl => ?_)
          refine lv_iload_n hx hb dX4_letterOf_43 rfl (lv_at hl 2 rfl) ?_
          refine lv_bipush (v := 10) hx hb dX4_letterOf_44 (by decide) ?_
          refine lv_idiv hx hb dX4_letterOf_46 (by decide) ?_
          refine lv_istore_n (lv' := [(2, .int (x2 / (10 : Int32))), (1, .int (x1 + ((x2 - x2 / (10 : Int32) * (10 : Int32)) * b_3))), (0, .int x0), (3, .int (nI k))]) hx hb dX4_letterOf_47 rfl hl (by decide) rfl (fun ls hl => ?_)
          refine lv_iinc (v := (nI (k + 1))) (lv' := [(3, .int (nI (k + 1))), (2, .int (x2 / (10 : Int32))), (1, .int (x1 + ((x2 - x2 / (10 : Int32) * (10 : Int32)) * b_3))), (0, .int x0)]) hx hb dX4_letterOf_48 hl (k := 3) rfl (nI_1 k) (by decide) rfl (fun ls hl => ?_)
          refine lv_goto (tgt := 6) hx hb dX4_letterOf_51 (by decide) ?_
          exact ih (k + 1) (x1 + ((x2 - x2 / (10 : Int32) * (10 : Int32)) * b_3)) (x2 / (10 : Int32)) ls (by omega) (lv_sub hl [3, 2, 1, 0] rfl) hw
        have hq_3 := hb_3
        refine lv_if_ne (tgt := 27) hx hb dX4_letterOf_20 (by decide) (fun c_20_4 => ?_) (fun c_20_4 => ?_)
        · skip
          rw [if_neg c_20_4] at hq_3
          refine lv_iload_n hx hb dX4_letterOf_27 rfl (lv_at hl 3 rfl) ?_
          refine lv_iconst (v := 3) hx hb dX4_letterOf_28 (by decide) ?_
          refine lv_irem hx hb dX4_letterOf_29 (by decide) ?_
          refine lv_iconst (v := 1) hx hb dX4_letterOf_30 (by decide) ?_
          refine lv_icmp_ne (tgt := 38) hx hb dX4_letterOf_31 (by decide) (fun c_31_5 => ?_) (fun c_31_5 => ?_)
          · skip
            rw [if_neg c_31_5] at hq_3
            refine lv_bipush (v := 7) hx hb dX4_letterOf_38 (by decide) ?_
            exact J_3 _ ls hq_3 (lv_sub hl [0, 1, 2, 3] rfl)
          · skip
            rw [if_pos c_31_5] at hq_3
            refine lv_iconst (v := 3) hx hb dX4_letterOf_34 (by decide) ?_
            refine lv_goto (tgt := 40) hx hb dX4_letterOf_35 (by decide) ?_
            exact J_3 _ ls hq_3 (lv_sub hl [0, 1, 2, 3] rfl)
        · skip
          rw [if_pos c_20_4] at hq_3
          refine lv_iconst (v := 1) hx hb dX4_letterOf_23 (by decide) ?_
          refine lv_goto (tgt := 40) hx hb dX4_letterOf_24 (by decide) ?_
          exact J_3 _ ls hq_3 (lv_sub hl [0, 1, 2, 3] rfl)
  exact loop 6 0 (0 : Int32) x0 ls (Nat.zero_add _) (lv_sub hl [3, 2, 1, 0] rfl) hw
set_option maxHeartbeats 4000000 in
set_option maxRecDepth 100000 in
theorem m_X4_letter (l : Launch) (dC : Nat → ClassId) (dI : Nat → Nat → Nat) (cI cZ : ClassId) (a : Nat → Nat) (sz : Nat) (σ : St) (x1 : Int32) (hiv : IVr σ) : Met l yX4_letter wsX4_letter ({ frames := 2, cells := 0, slots := 0, locals := 42 }) (pMr dC dI cI cZ a sz σ [.ref (a 0), .int x1]) (va_Qi (fun r σ9 => (r, σ9) = rf_letter σ x1) (bMr dC dI cI cZ a (va_A (rw cI cZ a σ) sz)) (va_A (rw cI cZ a σ) sz)) 0 0 (va_A (rw cI cZ a σ) sz) := by
  refine Met.ofW (cc := cX4_letter) (maxL := 2) (ret := (some .int)) (by decide) rfl ?_
  intro p e s m args below meth c s₁ B hml hv
  obtain ⟨rfl, hsz, hP, hK, hD0⟩ := hv
  have hx := B.exec
  have hb := B.bytes
  have hr := B.returns
  have hts := atoms_spec (ws := wsX4_letter) B.pre
  have hown : s.vm.findClass RX4 = some m.cls := findClass_of_methodNamed B.named
  have hlocks := B.notSynchronized
  subst hsz
  have hD := hD0.self (sz := s.heap.size)
  generalize hAe : va_A (rw cI cZ a σ) s.heap.size = A at hD ⊢
  have hA : ∀ q : Nat, s.heap.size ≤ q → A q := fun q h => by rw [← hAe]; exact Or.inr h
  clear hAe hD0
  obtain ⟨H, hHe⟩ : ∃ z, z = s.heap := ⟨_, rfl⟩
  obtain ⟨locs, hLe⟩ : ∃ z : List Loc, z = [] := ⟨_, rfl⟩
  have hS : va_S A s.heap H locs := by rw [hHe, hLe]; exact va_S.rf
  have hP : va_P (dC, dI) vwCl (rw cI cZ a σ) H := by rw [hHe]; exact hP
  refine W_ofH hHe hLe ?_
  clear hHe hLe
  have hl := lv_entry ([.ref (a 0), .int x1]) (n := 2) (Nat.le_of_ble_eq_true rfl)
  rw [lg_entry_eq]
  generalize (lg_sl ([.ref (a 0), .int x1]) ++ List.replicate (2 - (lg_sl ([.ref (a 0), .int x1])).length) Slot.unset).toArray = ls at hl ⊢
  have hl : lv_has ls 2 [(0, .ref (a 0)), (1, .int x1)] := hl
  obtain ⟨R, hR⟩ : ∃ z, z = rf_letter σ x1 := ⟨_, rfl⟩
  have hw := hR
  unfold rf_letter at hw
  refine lv_aload_n hx hb dX4_letter_0 rfl (lv_at hl 0 rfl) ?_
  refine lv_iload_n hx hb dX4_letter_1 rfl (lv_at hl 1 rfl) ?_
  refine vp_callSi (W.runS (As := [.int x1]) (rest := [.ref (a 0)]) ⟨hx, hb, hml, hown, hts⟩ (m_X4_isSerial l x1) (cwS 1 hts (gS k_676 k_677 k_24 k_678) rfl rfl rfl (by decide +kernel) ⟨Nat.le_of_ble_eq_true rfl, Nat.le_of_ble_eq_true rfl⟩) ps_0 rfl rfl hl.1 rfl (lv_room (Nat.le_of_ble_eq_true rfl)) dX4_letter_2 ⟨Nat.le_of_ble_eq_true rfl, Nat.le_of_ble_eq_true rfl⟩) (fun r hrr => ?_)
  subst hrr
  obtain ⟨b_1, hb_1⟩ : ∃ z : Int32, z = (if (rf_isSerial x1) = 0 then (1 : Int32) else (0 : Int32)) := ⟨_, rfl⟩
  replace hw : R = (let σ_2 : St := (rf_throwing σ b_1 (0 : Int32) (0 : Int32) (0 : Int32)).2; if ((rf_throwing σ b_1 (0 : Int32) (0 : Int32) (0 : Int32)).1) = 0 then (rf_letterOf x1, σ_2) else ((0 : Int32), σ_2)) := by subst hb_1; exact hw
  have J_1 : ∀ (v9 : Int32) (ls : Array Slot), b_1 = v9 → lv_has ls 2 [(0, .ref (a 0)), (1, .int x1)] → W p l e (headSpec wsX4_letter ({ frames := 2, cells := 0, slots := 0, locals := 42 })).room s m [.ref (a 0), .int x1].toArray below meth c H locs 0 0 (MQ below (va_Qi (fun r σ9 => (r, σ9) = rf_letter σ x1) (bMr dC dI cI cZ a A) A) [.ref (a 0), .int x1].toArray s 0 0 A) (F0 m 13 ls [.int v9, .ref (a 0)]) := by
    intro v9 ls hv9 hl
    subst hv9
    refine lv_iconst (v := 0) hx hb dX4_letter_13 (by decide) ?_
    refine lv_iconst (v := 0) hx hb dX4_letter_14 (by decide) ?_
    refine lv_iconst (v := 0) hx hb dX4_letter_15 (by decide) ?_
    have hFc := fr_all hD hS hA
    refine va_calli (va_runV (As := [.int b_1, .int (0 : Int32), .int (0 : Int32), .int (0 : Int32)]) (rest := []) ⟨hx, hb, hml, hown, hts⟩ (m_X4_throwing l dC dI cI cZ a H.size σ b_1 (0 : Int32) (0 : Int32) (0 : Int32)) (cwV 4 hts (gV k_650 k_652 k_11 k_24 k_653) rfl rfl rfl (by decide +kernel) ⟨Nat.le_of_ble_eq_true rfl, Nat.le_of_ble_eq_true rfl⟩) (pv_mr (q := (RX4, TX4, 23)) (q0 := 0) (ci := 4) hK hP hD rfl rfl) rfl rfl hl.1 rfl (lv_room (Nat.le_of_ble_eq_true rfl)) dX4_letter_16 ⟨Nat.le_of_ble_eq_true rfl, Nat.le_of_ble_eq_true rfl⟩) hS (fun q _ h => hFc q h) hFc (fun r σ_2 t H1 locs ht hvm hw9 hB hz1 hk1 hS => ?_)
    obtain ⟨hP, hK1, hD1⟩ := hB
    rw [ht] at hP
    have hD := hD1.weaken (fun _ _ _ h => hFc _ h)
    clear hFc hD1 hK1
    obtain ⟨rfl, eσ_2⟩ : r = (rf_throwing σ b_1 (0 : Int32) (0 : Int32) (0 : Int32)).1 ∧ σ_2 = (rf_throwing σ b_1 (0 : Int32) (0 : Int32) (0 : Int32)).2 := ⟨congrArg Prod.fst hw9, congrArg Prod.snd hw9⟩
    clear hw9
    replace hw : R = (if ((rf_throwing σ b_1 (0 : Int32) (0 : Int32) (0 : Int32)).1) = 0 then (rf_letterOf x1, σ_2) else ((0 : Int32), σ_2)) := by subst eσ_2; exact hw
    generalize H1 = H at hP hS ⊢
    have hiv_3 : IVr σ_2 := by rw [eσ_2]; exact ir_thr hiv _ _ _ _
    refine lv_if_eq (tgt := 24) hx hb dX4_letter_19 (by decide) (fun c_19_4 => ?_) (fun c_19_4 => ?_)
    · skip
      rw [if_pos c_19_4] at hw
      obtain ⟨z0_5, z1_6, z2_7, z3_8⟩ := thr0 c_19_4
      refine lv_iload_n hx hb dX4_letter_24 rfl (lv_at hl 1 rfl) ?_
      refine vp_callSi (W.runS (As := [.int x1]) (rest := []) ⟨hx, hb, hml, hown, hts⟩ (m_X4_letterOf l x1) (cwS 1 hts (gS k_680 k_681 k_24 k_682) rfl rfl rfl (by decide +kernel) ⟨Nat.le_of_ble_eq_true rfl, Nat.le_of_ble_eq_true rfl⟩) ps_0 rfl rfl hl.1 rfl (lv_room (Nat.le_of_ble_eq_true rfl)) dX4_letter_25 ⟨Nat.le_of_ble_eq_true rfl, Nat.le_of_ble_eq_true rfl⟩) (fun r hrr => ?_)
      subst hrr
      exact W.iret (v := rf_letterOf x1) hx hb hr (fun t ht hW => ⟨⟨rf_letterOf x1, σ_2, rfl, hw.symm.trans hR, by rw [ht]; exact hP, va_K.moved hW.alike hK, hD⟩, hS.F ht⟩) hS.2.2 dX4_letter_28
    · skip
      rw [if_neg c_19_4] at hw
      refine lv_iconst (v := 0) hx hb dX4_letter_22 (by decide) ?_
      exact W.iret (v := (0 : Int32)) hx hb hr (fun t ht hW => ⟨⟨(0 : Int32), σ_2, rfl, hw.symm.trans hR, by rw [ht]; exact hP, va_K.moved hW.alike hK, hD⟩, hS.F ht⟩) hS.2.2 dX4_letter_23
  have hq_1 := hb_1
  refine lv_if_ne (tgt := 12) hx hb dX4_letter_5 (by decide) (fun c_5_9 => ?_) (fun c_5_9 => ?_)
  · skip
    rw [if_neg c_5_9] at hq_1
    refine lv_iconst (v := 0) hx hb dX4_letter_12 (by decide) ?_
    exact J_1 _ ls hq_1 (lv_sub hl [0, 1] rfl)
  · skip
    rw [if_pos c_5_9] at hq_1
    refine lv_iconst (v := 1) hx hb dX4_letter_8 (by decide) ?_
    refine lv_goto (tgt := 13) hx hb dX4_letter_9 (by decide) ?_
    exact J_1 _ ls hq_1 (lv_sub hl [0, 1] rfl)
