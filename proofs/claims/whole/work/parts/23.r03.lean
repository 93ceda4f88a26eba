set_option maxHeartbeats 4000000 in
set_option maxRecDepth 100000 in
theorem m_X4_wash (l : Launch) (dC : Nat → ClassId) (dI : Nat → Nat → Nat) (cI cZ : ClassId) (a : Nat → Nat) (sz : Nat) (σ : St) (x1 : Int32) (x2 : Int32) (hiv : IVr σ) : Met l yX4_wash wsX4_wash ({ frames := 2, cells := 0, slots := 0, locals := 43 }) (pMr dC dI cI cZ a sz σ [.ref (a 0), .int x1, .int x2]) (va_Qi (fun r σ9 => (r, σ9) = rf_wash σ x1 x2) (bMr dC dI cI cZ a (va_A (rw cI cZ a σ) sz)) (va_A (rw cI cZ a σ) sz)) 0 0 (va_A (rw cI cZ a σ) sz) := by
  refine Met.ofW (cc := cX4_wash) (maxL := 4) (ret := (some .int)) (by decide) rfl ?_
  intro p e s m args below meth c s₁ B hml hv
  obtain ⟨rfl, hsz, hP, hK, hD0⟩ := hv
  have hx := B.exec
  have hb := B.bytes
  have hr := B.returns
  have hts := atoms_spec (ws := wsX4_wash) B.pre
  have hown : s.vm.findClass RX4 = some m.cls := findClass_of_methodNamed B.named
  have hlocks := B.notSynchronized
  subst hsz
  have hD := hD0.self (sz := s.heap.size)
  generalize hAe : va_A (rw cI cZ a σ) s.heap.size = A at hD ⊢
  have hA : ∀ q : Nat, s.heap.size ≤ q → A q := fun q h => by rw [← hAe]; exact Or.inr h
  clear hAe hD0
  obtain ⟨H, hHe⟩ : ∃ z, z = s.heap := ⟨_, rfl⟩
  obtain ⟨locs, hLe⟩ : ∃ z : List Loc, z = [] := ⟨_, rfl⟩
  have hS : va_S A s.heap H locs := by rw [hHe, hLe]; exact va_S.rf
  have hP : va_P (dC, dI) vwCl (rw cI cZ a σ) H := by rw [hHe]; exact hP
  refine W_ofH hHe hLe ?_
  clear hHe hLe
  have hl := lv_entry ([.ref (a 0), .int x1, .int x2]) (n := 4) (Nat.le_of_ble_eq_true rfl)
  rw [lg_entry_eq]
  generalize (lg_sl ([.ref (a 0), .int x1, .int x2]) ++ List.replicate (4 - (lg_sl ([.ref (a 0), .int x1, .int x2])).length) Slot.unset).toArray = ls at hl ⊢
  have hl : lv_has ls 4 [(0, .ref (a 0)), (1, .int x1), (2, .int x2)] := hl
  obtain ⟨R, hR⟩ : ∃ z, z = rf_wash σ x1 x2 := ⟨_, rfl⟩
  have hw := hR
  unfold rf_wash at hw
  refine lv_aload_n hx hb dX4_wash_0 rfl (lv_at hl 0 rfl) ?_
  refine lv_iload_n hx hb dX4_wash_1 rfl (lv_at hl 1 rfl) ?_
  refine vp_callSi (W.runV (As := [.int x1]) (rest := []) ⟨hx, hb, hml, hown, hts⟩ (m_X4_isThing l dC dI cI cZ a σ x1) (cwV 1 hts (gV k_691 k_693 k_12 k_24 k_694) rfl rfl rfl (by decide +kernel) ⟨Nat.le_of_ble_eq_true rfl, Nat.le_of_ble_eq_true rfl⟩) (pv_rr (q := (RX4, TX4, 23)) (q0 := 0) (ci := 4) hK hP rfl rfl) rfl rfl hl.1 rfl (lv_room (Nat.le_of_ble_eq_true rfl)) dX4_wash_2 ⟨Nat.le_of_ble_eq_true rfl, Nat.le_of_ble_eq_true rfl⟩) (fun r hrr => ?_)
  subst hrr
  obtain ⟨b_1, hb_1⟩ : ∃ z : Int32, z = (if (rf_isThing σ x1) = 0 then (1 : Int32) else (0 : Int32)) := ⟨_, rfl⟩
  replace hw : R = (let b_2 : Int32 := (if b_1 = 0 then (if 0 ≤ (σ 13 x1.toNatClampNeg) then (1 : Int32) else (if (σ 15 x1.toNatClampNeg) = x2 then (0 : Int32) else (1 : Int32))) else (0 : Int32)); let σ_3 : St := (rf_throwing σ b_1 b_2 (0 : Int32) (0 : Int32)).2; if ((rf_throwing σ b_1 b_2 (0 : Int32) (0 : Int32)).1) = 0 then (let b_11 : Int32 := (if x2 = 0 then (1 : Int32) else (0 : Int32)); let σ_12 : St := su σ_3 15 x1.toNatClampNeg (vp_nar .boolean b_11); let b_14 : Int32 := (if x2 = 0 then (1 : Int32) else (0 : Int32)); let σ_15 : St := su σ_12 14 x1.toNatClampNeg ((σ_12 14 x1.toNatClampNeg) + b_14); (σ_15 14 x1.toNatClampNeg, σ_15)) else ((0 : Int32), σ_3)) := by subst hb_1; exact hw
  have J_1 : ∀ (v9 : Int32) (ls : Array Slot), b_1 = v9 → lv_has ls 4 [(0, .ref (a 0)), (1, .int x1), (2, .int x2)] → W p l e (headSpec wsX4_wash ({ frames := 2, cells := 0, slots := 0, locals := 43 })).room s m [.ref (a 0), .int x1, .int x2].toArray below meth c H locs 0 0 (MQ below (va_Qi (fun r σ9 => (r, σ9) = rf_wash σ x1 x2) (bMr dC dI cI cZ a A) A) [.ref (a 0), .int x1, .int x2].toArray s 0 0 A) (F0 m 13 ls [.int v9]) := by
    intro v9 ls hv9 hl
    subst hv9
    refine lv_istore_n (lv' := [(3, .int b_1), (0, .ref (a 0)), (1, .int x1), (2, .int x2)]) hx hb dX4_wash_13 rfl hl (by decide) rfl (fun ls hl => ?_)
    refine lv_aload_n hx hb dX4_wash_14 rfl (lv_at hl 1 rfl) ?_
    refine lv_iload_n hx hb dX4_wash_15 rfl (lv_at hl 0 rfl) ?_
    refine lv_iload_n hx hb dX4_wash_16 rfl (lv_at hl 0 rfl) ?_
    obtain ⟨b_2, hb_2⟩ : ∃ z : Int32, z = (if b_1 = 0 then (if 0 ≤ (σ 13 x1.toNatClampNeg) then (1 : Int32) else (if (σ 15 x1.toNatClampNeg) = x2 then (0 : Int32) else (1 : Int32))) else (0 : Int32)) := ⟨_, rfl⟩
    replace hw : R = (let σ_3 : St := (rf_throwing σ b_1 b_2 (0 : Int32) (0 : Int32)).2; if ((rf_throwing σ b_1 b_2 (0 : Int32) (0 : Int32)).1) = 0 then (let b_11 : Int32 := (if x2 = 0 then (1 : Int32) else (0 : Int32)); let σ_12 : St := su σ_3 15 x1.toNatClampNeg (vp_nar .boolean b_11); let b_14 : Int32 := (if x2 = 0 then (1 : Int32) else (0 : Int32)); let σ_15 : St := su σ_12 14 x1.toNatClampNeg ((σ_12 14 x1.toNatClampNeg) + b_14); (σ_15 14 x1.toNatClampNeg, σ_15)) else ((0 : Int32), σ_3)) := by subst hb_2; exact hw
    have J_2 : ∀ (v9 : Int32) (ls : Array Slot), b_2 = v9 → lv_has ls 4 [(0, .ref (a 0)), (1, .int x1), (2, .int x2), (3, .int b_1)] → W p l e (headSpec wsX4_wash ({ frames := 2, cells := 0, slots := 0, locals := 43 })).room s m [.ref (a 0), .int x1, .int x2].toArray below meth c H locs 0 0 (MQ below (va_Qi (fun r σ9 => (r, σ9) = rf_wash σ x1 x2) (bMr dC dI cI cZ a A) A) [.ref (a 0), .int x1, .int x2].toArray s 0 0 A) (F0 m 44 ls [.int v9, .int b_1, .ref (a 0)]) := by
      intro v9 ls hv9 hl
      subst hv9
      refine lv_iconst (v := 0) hx hb dX4_wash_44 (by decide) ?_
      refine lv_iconst (v := 0) hx hb dX4_wash_45 (by decide) ?_
      have hFc := fr_all hD hS hA
      refine va_calli (va_runV (As := [.int b_1, .int b_2, .int (0 : Int32), .int (0 : Int32)]) (rest := []) ⟨hx, hb, hml, hown, hts⟩ (m_X4_throwing l dC dI cI cZ a H.size σ b_1 b_2 (0 : Int32) (0 : Int32)) (cwV 4 hts (gV k_650 k_652 k_11 k_24 k_653) rfl rfl rfl (by decide +kernel) ⟨Nat.le_of_ble_eq_true rfl, Nat.le_of_ble_eq_true rfl⟩) (pv_mr (q := (RX4, TX4, 23)) (q0 := 0) (ci := 4) hK hP hD rfl rfl) rfl rfl hl.1 rfl (lv_room (Nat.le_of_ble_eq_true rfl)) dX4_wash_46 ⟨Nat.le_of_ble_eq_true rfl, Nat.le_of_ble_eq_true rfl⟩) hS (fun q _ h => hFc q h) hFc (fun r σ_3 t H1 locs ht hvm hw9 hB hz1 hk1 hS => ?_)
      obtain ⟨hP, hK1, hD1⟩ := hB
      rw [ht] at hP
      have hD := hD1.weaken (fun _ _ _ h => hFc _ h)
      clear hFc hD1 hK1
      obtain ⟨rfl, eσ_3⟩ : r = (rf_throwing σ b_1 b_2 (0 : Int32) (0 : Int32)).1 ∧ σ_3 = (rf_throwing σ b_1 b_2 (0 : Int32) (0 : Int32)).2 := ⟨congrArg Prod.fst hw9, congrArg Prod.snd hw9⟩
      clear hw9
      replace hw : R = (if ((rf_throwing σ b_1 b_2 (0 : Int32) (0 : Int32)).1) = 0 then (let b_11 : Int32 := (if x2 = 0 then (1 : Int32) else (0 : Int32)); let σ_12 : St := su σ_3 15 x1.toNatClampNeg (vp_nar .boolean b_11); let b_14 : Int32 := (if x2 = 0 then (1 : Int32) else (0 : Int32)); let σ_15 : St := su σ_12 14 x1.toNatClampNeg ((σ_12 14 x1.toNatClampNeg) + b_14); (σ_15 14 x1.toNatClampNeg, σ_15)) else ((0 : Int32), σ_3)) := by subst eσ_3; exact hw
      generalize H1 = H at hP hS ⊢
      have hiv_4 : IVr σ_3 := by rw [eσ_3]; exact ir_thr hiv _ _ _ _
      refine lv_if_eq (tgt := 54) hx hb dX4_wash_49 (by decide) (fun c_49_5 => ?_) (fun c_49_5 => ?_)
      · skip
        rw [if_pos c_49_5] at hw
        obtain ⟨z0_6, z1_7, z2_8, z3_9⟩ := thr0 c_49_5
        have hf_10 : vp_in x1 40 := bd_thing hiv hb_1 z0_6
        refine lv_aload_n hx hb dX4_wash_54 rfl (lv_at hl 0 rfl) ?_
        refine va_get (D := (dC, dI)) (ci := 4) (v := .ref (a 15)) (C := RX4) (T := TX4) (N := 23) hx hb hts (iwX4 _) hown hK hP 0 rfl rfl 15 (by decide) (hts _ (kc k_586)) (fun _ h9 => h9) rfl dX4_wash_55 ?_
        refine lv_iload_n hx hb dX4_wash_58 rfl (lv_at hl 1 rfl) ?_
        refine lv_iload_n hx hb dX4_wash_59 rfl (lv_at hl 2 rfl) ?_
        obtain ⟨b_11, hb_11⟩ : ∃ z : Int32, z = (if x2 = 0 then (1 : Int32) else (0 : Int32)) := ⟨_, rfl⟩
        replace hw : R = (let σ_12 : St := su σ_3 15 x1.toNatClampNeg (vp_nar .boolean b_11); let b_14 : Int32 := (if x2 = 0 then (1 : Int32) else (0 : Int32)); let σ_15 : St := su σ_12 14 x1.toNatClampNeg ((σ_12 14 x1.toNatClampNeg) + b_14); (σ_15 14 x1.toNatClampNeg, σ_15)) := by subst hb_11; exact hw
        have J_11 : ∀ (v9 : Int32) (ls : Array Slot), b_11 = v9 → lv_has ls 4 [(0, .ref (a 0)), (1, .int x1), (2, .int x2), (3, .int b_1)] → W p l e (headSpec wsX4_wash ({ frames := 2, cells := 0, slots := 0, locals := 43 })).room s m [.ref (a 0), .int x1, .int x2].toArray below meth c H locs 0 0 (MQ below (va_Qi (fun r σ9 => (r, σ9) = rf_wash σ x1 x2) (bMr dC dI cI cZ a A) A) [.ref (a 0), .int x1, .int x2].toArray s 0 0 A) (F0 m 68 ls [.int v9, .int x1, .ref (a 15)]) := by
          intro v9 ls hv9 hl
          subst hv9
          refine va_zast (D := (dC, dI)) (f := σ_3 15) hx hb hK hP hD hS 13 1 rfl rfl (i := x1) (x := b_11) hf_10 dX4_wash_68 (fun H locs hP hD hS => ?_)
          obtain ⟨σ_12, eσ_12⟩ : ∃ z : St, z = su σ_3 15 x1.toNatClampNeg (vp_nar .boolean b_11) := ⟨_, rfl⟩
          replace hP := P_rw_15 hP
          replace hD := D_rw_15 hD
          rw [← eσ_12] at hP hD
          replace hw : R = (let b_14 : Int32 := (if x2 = 0 then (1 : Int32) else (0 : Int32)); let σ_15 : St := su σ_12 14 x1.toNatClampNeg ((σ_12 14 x1.toNatClampNeg) + b_14); (σ_15 14 x1.toNatClampNeg, σ_15)) := by subst eσ_12; exact hw
          have hiv_13 : IVr σ_12 := by rw [eσ_12]; exact (ir_suq hiv_4 (by decide))
          refine lv_aload_n hx hb dX4_wash_69 rfl (lv_at hl 0 rfl) ?_
          refine va_get (D := (dC, dI)) (ci := 4) (v := .ref (a 14)) (C := RX4) (T := TX4) (N := 23) hx hb hts (iwX4 _) hown hK hP 0 rfl rfl 14 (by decide) (hts _ (kc k_585)) (fun _ h9 => h9) rfl dX4_wash_70 ?_
          refine lv_iload_n hx hb dX4_wash_73 rfl (lv_at hl 1 rfl) ?_
          refine lv_dup2_11 hx hb dX4_wash_74 rfl rfl ?_
          refine va_iald (D := (dC, dI)) (f := σ_12 14) hx hb hK hP 12 0 rfl rfl (i := x1) hf_10 dX4_wash_75 ?_
          refine lv_iload_n hx hb dX4_wash_76 rfl (lv_at hl 2 rfl) ?_
          obtain ⟨b_14, hb_14⟩ : ∃ z : Int32, z = (if x2 = 0 then (1 : Int32) else (0 : Int32)) := ⟨_, rfl⟩
          replace hw : R = (let σ_15 : St := su σ_12 14 x1.toNatClampNeg ((σ_12 14 x1.toNatClampNeg) + b_14); (σ_15 14 x1.toNatClampNeg, σ_15)) := by subst hb_14; exact hw
          have J_14 : ∀ (v9 : Int32) (ls : Array Slot), b_14 = v9 → lv_has ls 4 [(0, .ref (a 0)), (1, .int x1), (2, .int x2), (3, .int b_1)] → W p l e (headSpec wsX4_wash ({ frames := 2, cells := 0, slots := 0, locals := 43 })).room s m [.ref (a 0), .int x1, .int x2].toArray below meth c H locs 0 0 (MQ below (va_Qi (fun r σ9 => (r, σ9) = rf_wash σ x1 x2) (bMr dC dI cI cZ a A) A) [.ref (a 0), .int x1, .int x2].toArray s 0 0 A) (F0 m 85 ls [.int v9, .int (σ_12 14 x1.toNatClampNeg), .int x1, .ref (a 14)]) := by
            intro v9 ls hv9 hl
            subst hv9
            refine lv_iadd hx hb dX4_wash_85 ?_
            refine va_iast (D := (dC, dI)) (f := σ_12 14) hx hb hK hP hD hS 12 0 rfl rfl (i := x1) (x := (σ_12 14 x1.toNatClampNeg) + b_14) hf_10 dX4_wash_86 (fun H locs hP hD hS => ?_)
            obtain ⟨σ_15, eσ_15⟩ : ∃ z : St, z = su σ_12 14 x1.toNatClampNeg ((σ_12 14 x1.toNatClampNeg) + b_14) := ⟨_, rfl⟩
            replace hP := P_rw_14 hP
            replace hD := D_rw_14 hD
            rw [← eσ_15] at hP hD
            replace hw : R = ((σ_15 14 x1.toNatClampNeg, σ_15)) := by subst eσ_15; exact hw
            have hiv_16 : IVr σ_15 := by rw [eσ_15]; exact (ir_suq hiv_13 (by decide))
            refine lv_aload_n hx hb dX4_wash_87 rfl (lv_at hl 0 rfl) ?_
            refine va_get (D := (dC, dI)) (ci := 4) (v := .ref (a 14)) (C := RX4) (T := TX4) (N := 23) hx hb hts (iwX4 _) hown hK hP 0 rfl rfl 14 (by decide) (hts _ (kc k_585)) (fun _ h9 => h9) rfl dX4_wash_88 ?_
            refine lv_iload_n hx hb dX4_wash_91 rfl (lv_at hl 1 rfl) ?_
            refine va_iald (D := (dC, dI)) (f := σ_15 14) hx hb hK hP 12 0 rfl rfl (i := x1) hf_10 dX4_wash_92 ?_
            exact W.iret (v := σ_15 14 x1.toNatClampNeg) hx hb hr (fun t ht hW => ⟨⟨σ_15 14 x1.toNatClampNeg, σ_15, rfl, hw.symm.trans hR, by rw [ht]; exact hP, va_K.moved hW.alike hK, hD⟩, hS.F ht⟩) hS.2.2 dX4_wash_93
          have hq_14 := hb_14
          refine lv_if_eq (tgt := 84) hx hb dX4_wash_77 (by decide) (fun c_77_17 => ?_) (fun c_77_17 => ?_)
          · skip
            rw [if_pos c_77_17] at hq_14
            refine lv_iconst (v := 1) hx hb dX4_wash_84 (by decide) ?_
            exact J_14 _ ls hq_14 (lv_sub hl [0, 1, 2, 3] rfl)
          · skip
            rw [if_neg c_77_17] at hq_14
            refine lv_iconst (v := 0) hx hb dX4_wash_80 (by decide) ?_
            refine lv_goto (tgt := 85) hx hb dX4_wash_81 (by decide) ?_
            exact J_14 _ ls hq_14 (lv_sub hl [0, 1, 2, 3] rfl)
        have hq_11 := hb_11
        refine lv_if_ne (tgt := 67) hx hb dX4_wash_60 (by decide) (fun c_60_18 => ?_) (fun c_60_18 => ?_)
        · skip
          rw [if_neg c_60_18] at hq_11
          refine lv_iconst (v := 0) hx hb dX4_wash_67 (by decide) ?_
          exact J_11 _ ls hq_11 (lv_sub hl [0, 1, 2, 3] rfl)
        · skip
          rw [if_pos c_60_18] at hq_11
          refine lv_iconst (v := 1) hx hb dX4_wash_63 (by decide) ?_
          refine lv_goto (tgt := 68) hx hb dX4_wash_64 (by decide) ?_
          exact J_11 _ ls hq_11 (lv_sub hl [0, 1, 2, 3] rfl)
      · skip
        rw [if_neg c_49_5] at hw
        refine lv_iconst (v := 0) hx hb dX4_wash_52 (by decide) ?_
        exact W.iret (v := (0 : Int32)) hx hb hr (fun t ht hW => ⟨⟨(0 : Int32), σ_3, rfl, hw.symm.trans hR, by rw [ht]; exact hP, va_K.moved hW.alike hK, hD⟩, hS.F ht⟩) hS.2.2 dX4_wash_53
    have hq_2 := hb_2
    refine lv_if_ne (tgt := 43) hx hb dX4_wash_17 (by decide) (fun c_17_19 => ?_) (fun c_17_19 => ?_)
    · skip
      rw [if_neg c_17_19] at hq_2
      refine lv_iconst (v := 0) hx hb dX4_wash_43 (by decide) ?_
      exact J_2 _ ls hq_2 (lv_sub hl [1, 2, 3, 0] rfl)
    · skip
      rw [if_pos c_17_19] at hq_2
      have hf_20 : vp_in x1 40 := bd_thing hiv hb_1 c_17_19
      refine lv_aload_n hx hb dX4_wash_20 rfl (lv_at hl 1 rfl) ?_
      refine va_get (D := (dC, dI)) (ci := 4) (v := .ref (a 13)) (C := RX4) (T := TX4) (N := 23) hx hb hts (iwX4 _) hown hK hP 0 rfl rfl 13 (by decide) (hts _ (kc k_584)) (fun _ h9 => h9) rfl dX4_wash_21 ?_
      refine lv_iload_n hx hb dX4_wash_24 rfl (lv_at hl 2 rfl) ?_
      refine va_iald (D := (dC, dI)) (f := σ 13) hx hb hK hP 11 0 rfl rfl (i := x1) hf_20 dX4_wash_25 ?_
      refine lv_if_ge (tgt := 39) hx hb dX4_wash_26 (by decide) (fun c_26_21 => ?_) (fun c_26_21 => ?_)
      · skip
        rw [if_pos c_26_21] at hq_2
        refine lv_iconst (v := 1) hx hb dX4_wash_39 (by decide) ?_
        refine lv_goto (tgt := 44) hx hb dX4_wash_40 (by decide) ?_
        exact J_2 _ ls hq_2 (lv_sub hl [1, 2, 3, 0] rfl)
      · skip
        rw [if_neg c_26_21] at hq_2
        refine lv_aload_n hx hb dX4_wash_29 rfl (lv_at hl 1 rfl) ?_
        refine va_get (D := (dC, dI)) (ci := 4) (v := .ref (a 15)) (C := RX4) (T := TX4) (N := 23) hx hb hts (iwX4 _) hown hK hP 0 rfl rfl 15 (by decide) (hts _ (kc k_586)) (fun _ h9 => h9) rfl dX4_wash_30 ?_
        refine lv_iload_n hx hb dX4_wash_33 rfl (lv_at hl 2 rfl) ?_
        refine va_zald (D := (dC, dI)) (f := σ 15) hx hb hK hP 13 1 rfl rfl (i := x1) hf_20 dX4_wash_34 ?_
        refine lv_iload_n hx hb dX4_wash_35 rfl (lv_at hl 3 rfl) ?_
        refine lv_icmp_eq (tgt := 43) hx hb dX4_wash_36 (by decide) (fun c_36_22 => ?_) (fun c_36_22 => ?_)
        · skip
          rw [if_pos c_36_22] at hq_2
          refine lv_iconst (v := 0) hx hb dX4_wash_43 (by decide) ?_
          exact J_2 _ ls hq_2 (lv_sub hl [1, 2, 3, 0] rfl)
        · skip
          rw [if_neg c_36_22] at hq_2
          refine lv_iconst (v := 1) hx hb dX4_wash_39 (by decide) ?_
          refine lv_goto (tgt := 44) hx hb dX4_wash_40 (by decide) ?_
          exact J_2 _ ls hq_2 (lv_sub hl [1, 2, 3, 0] rfl)
  have hq_1 := hb_1
  refine lv_if_ne (tgt := 12) hx hb dX4_wash_5 (by decide) (fun c_5_23 => ?_) (fun c_5_23 => ?_)
  · skip
    rw [if_neg c_5_23] at hq_1
    refine lv_iconst (v := 0) hx hb dX4_wash_12 (by decide) ?_
    exact J_1 _ ls hq_1 (lv_sub hl [0, 1, 2] rfl)
  · skip
    rw [if_pos c_5_23] at hq_1
    refine lv_iconst (v := 1) hx hb dX4_wash_8 (by decide) ?_
    refine lv_goto (tgt := 13) hx hb dX4_wash_9 (by decide) ?_
    exact J_1 _ ls hq_1 (lv_sub hl [0, 1, 2] rfl)
set_option maxHeartbeats 4000000 in
set_option maxRecDepth 100000 in
theorem m_X4_result (l : Launch) (dC : Nat → ClassId) (dI : Nat → Nat → Nat) (cI cZ : ClassId) (a : Nat → Nat) (sz : Nat) (σ : St) (x1 : Int32) (x2 : Int32) (x3 : Int32) (hiv : IVr σ) : Met l yX4_result wsX4_result ({ frames := 2, cells := 0, slots := 0, locals := 43 }) (pMr dC dI cI cZ a sz σ [.ref (a 0), .int x1, .int x2, .int x3]) (va_Qi (fun r σ9 => (r, σ9) = rf_result σ x1 x2 x3) (bMr dC dI cI cZ a (va_A (rw cI cZ a σ) sz)) (va_A (rw cI cZ a σ) sz)) 0 0 (va_A (rw cI cZ a σ) sz) := by
  refine Met.ofW (cc := cX4_result) (maxL := 8) (ret := (some .int)) (by decide) rfl ?_
  intro p e s m args below meth c s₁ B hml hv
  obtain ⟨rfl, hsz, hP, hK, hD0⟩ := hv
  have hx := B.exec
  have hb := B.bytes
  have hr := B.returns
  have hts := atoms_spec (ws := wsX4_result) B.pre
  have hown : s.vm.findClass RX4 = some m.cls := findClass_of_methodNamed B.named
  have hlocks := B.notSynchronized
  subst hsz
  have hD := hD0.self (sz := s.heap.size)
  generalize hAe : va_A (rw cI cZ a σ) s.heap.size = A at hD ⊢
  have hA : ∀ q : Nat, s.heap.size ≤ q → A q := fun q h => by rw [← hAe]; exact Or.inr h
  clear hAe hD0
  obtain ⟨H, hHe⟩ : ∃ z, z = s.heap := ⟨_, rfl⟩
  obtain ⟨locs, hLe⟩ : ∃ z : List Loc, z = [] := ⟨_, rfl⟩
  have hS : va_S A s.heap H locs := by rw [hHe, hLe]; exact va_S.rf
  have hP : va_P (dC, dI) vwCl (rw cI cZ a σ) H := by rw [hHe]; exact hP
  refine W_ofH hHe hLe ?_
  clear hHe hLe
  have hl := lv_entry ([.ref (a 0), .int x1, .int x2, .int x3]) (n := 8) (Nat.le_of_ble_eq_true rfl)
  rw [lg_entry_eq]
  generalize (lg_sl ([.ref (a 0), .int x1, .int x2, .int x3]) ++ List.replicate (8 - (lg_sl ([.ref (a 0), .int x1, .int x2, .int x3])).length) Slot.unset).toArray = ls at hl ⊢
  have hl : lv_has ls 8 [(0, .ref (a 0)), (1, .int x1), (2, .int x2), (3, .int x3)] := hl
  obtain ⟨R, hR⟩ : ∃ z, z = rf_result σ x1 x2 x3 := ⟨_, rfl⟩
  have hw := hR
  unfold rf_result at hw
  refine lv_aload_n hx hb dX4_result_0 rfl (lv_at hl 0 rfl) ?_
  refine lv_iload_n hx hb dX4_result_1 rfl (lv_at hl 1 rfl) ?_
  refine vp_callSi (W.runV (As := [.int x1]) (rest := []) ⟨hx, hb, hml, hown, hts⟩ (m_X4_isThing l dC dI cI cZ a σ x1) (cwV 1 hts (gV k_691 k_693 k_12 k_24 k_694) rfl rfl rfl (by decide +kernel) ⟨Nat.le_of_ble_eq_true rfl, Nat.le_of_ble_eq_true rfl⟩) (pv_rr (q := (RX4, TX4, 23)) (q0 := 0) (ci := 4) hK hP rfl rfl) rfl rfl hl.1 rfl (lv_room (Nat.le_of_ble_eq_true rfl)) dX4_result_2 ⟨Nat.le_of_ble_eq_true rfl, Nat.le_of_ble_eq_true rfl⟩) (fun r hrr => ?_)
  subst hrr
  obtain ⟨b_1, hb_1⟩ : ∃ z : Int32, z = (if (rf_isThing σ x1) = 0 then (1 : Int32) else (if (rf_in x2 (0 : Int32) (2 : Int32)) = 0 then (1 : Int32) else (0 : Int32))) := ⟨_, rfl⟩
  replace hw : R = (let b_2 : Int32 := (if (rf_in x3 (0 : Int32) (10000 : Int32)) = 0 then (1 : Int32) else (0 : Int32)); let b_3 : Int32 := (if b_1 = 0 then (if (σ 13 x1.toNatClampNeg) < 0 then (0 : Int32) else (1 : Int32)) else (0 : Int32)); let σ_4 : St := (rf_throwing σ b_1 b_2 b_3 (0 : Int32)).2; if ((rf_throwing σ b_1 b_2 b_3 (0 : Int32)).1) = 0 then (let b_12 : Int32 := (if x3 < (σ_4 6 (((3 : Int32) * (σ_4 8 x1.toNatClampNeg)) + x2).toNatClampNeg) then (if x3 < (σ_4 5 (((3 : Int32) * (σ_4 8 x1.toNatClampNeg)) + x2).toNatClampNeg) then (2 : Int32) else (1 : Int32)) else (0 : Int32)); let b_13 : Int32 := (if (σ_4 16 (((3 : Int32) * x1) + x2).toNatClampNeg) = (σ_4 0 1) then (if (σ_4 18 (((3 : Int32) * x1) + x2).toNatClampNeg) ≤ b_12 then b_12 else (σ_4 18 (((3 : Int32) * x1) + x2).toNatClampNeg)) else b_12); let σ_14 : St := su σ_4 18 ((((3 : Int32) * x1) + x2).toNatClampNeg) b_13; let σ_16 : St := su σ_14 16 ((((3 : Int32) * x1) + x2).toNatClampNeg) (σ_14 0 1); let σ_18 : St := su σ_16 17 ((((3 : Int32) * x1) + x2).toNatClampNeg) (0 : Int32); if b_12 = (2 : Int32) then (let σ_21 : St := su σ_18 13 x1.toNatClampNeg (σ_18 0 1); (σ_21 18 (((3 : Int32) * x1) + x2).toNatClampNeg, σ_21)) else (σ_18 18 (((3 : Int32) * x1) + x2).toNatClampNeg, σ_18)) else ((0 : Int32), σ_4)) := by subst hb_1; exact hw
  have J_1 : ∀ (v9 : Int32) (ls : Array Slot), b_1 = v9 → lv_has ls 8 [(0, .ref (a 0)), (1, .int x1), (2, .int x2), (3, .int x3)] → W p l e (headSpec wsX4_result ({ frames := 2, cells := 0, slots := 0, locals := 43 })).room s m [.ref (a 0), .int x1, .int x2, .int x3].toArray below meth c H locs 0 0 (MQ below (va_Qi (fun r σ9 => (r, σ9) = rf_result σ x1 x2 x3) (bMr dC dI cI cZ a A) A) [.ref (a 0), .int x1, .int x2, .int x3].toArray s 0 0 A) (F0 m 22 ls [.int v9]) := by
    intro v9 ls hv9 hl
    subst hv9
    refine lv_istore (lv' := [(4, .int b_1), (0, .ref (a 0)), (1, .int x1), (2, .int x2), (3, .int x3)]) hx hb dX4_result_22 hl (by decide) rfl (fun ls hl => ?_)
    refine lv_aload_n hx hb dX4_result_24 rfl (lv_at hl 1 rfl) ?_
    refine lv_iload hx hb dX4_result_25 (lv_at hl 0 rfl) ?_
    refine lv_iload_n hx hb dX4_result_27 rfl (lv_at hl 4 rfl) ?_
    refine lv_iconst (v := 0) hx hb dX4_result_28 (by decide) ?_
    refine lv_sipush (v := 10000) hx hb dX4_result_29 (by decide) ?_
    refine vp_callSi (W.runS (As := [.int x3, .int (0 : Int32), .int (10000 : Int32)]) (rest := [.int b_1, .ref (a 0)]) ⟨hx, hb, hml, hown, hts⟩ (m_X4_in l x3 (0 : Int32) (10000 : Int32)) (cwS 3 hts (gS k_658 k_659 k_24 k_660) rfl rfl rfl (by decide +kernel) ⟨Nat.le_of_ble_eq_true rfl, Nat.le_of_ble_eq_true rfl⟩) ps_0 rfl rfl hl.1 rfl (lv_room (Nat.le_of_ble_eq_true rfl)) dX4_result_32 ⟨Nat.le_of_ble_eq_true rfl, Nat.le_of_ble_eq_true rfl⟩) (fun r hrr => ?_)
    subst hrr
    obtain ⟨b_2, hb_2⟩ : ∃ z : Int32, z = (if (rf_in x3 (0 : Int32) (10000 : Int32)) = 0 then (1 : Int32) else (0 : Int32)) := ⟨_, rfl⟩
    replace hw : R = (let b_3 : Int32 := (if b_1 = 0 then (if (σ 13 x1.toNatClampNeg) < 0 then (0 : Int32) else (1 : Int32)) else (0 : Int32)); let σ_4 : St := (rf_throwing σ b_1 b_2 b_3 (0 : Int32)).2; if ((rf_throwing σ b_1 b_2 b_3 (0 : Int32)).1) = 0 then (let b_12 : Int32 := (if x3 < (σ_4 6 (((3 : Int32) * (σ_4 8 x1.toNatClampNeg)) + x2).toNatClampNeg) then (if x3 < (σ_4 5 (((3 : Int32) * (σ_4 8 x1.toNatClampNeg)) + x2).toNatClampNeg) then (2 : Int32) else (1 : Int32)) else (0 : Int32)); let b_13 : Int32 := (if (σ_4 16 (((3 : Int32) * x1) + x2).toNatClampNeg) = (σ_4 0 1) then (if (σ_4 18 (((3 : Int32) * x1) + x2).toNatClampNeg) ≤ b_12 then b_12 else (σ_4 18 (((3 : Int32) * x1) + x2).toNatClampNeg)) else b_12); let σ_14 : St := su σ_4 18 ((((3 : Int32) * x1) + x2).toNatClampNeg) b_13; let σ_16 : St := su σ_14 16 ((((3 : Int32) * x1) + x2).toNatClampNeg) (σ_14 0 1); let σ_18 : St := su σ_16 17 ((((3 : Int32) * x1) + x2).toNatClampNeg) (0 : Int32); if b_12 = (2 : Int32) then (let σ_21 : St := su σ_18 13 x1.toNatClampNeg (σ_18 0 1); (σ_21 18 (((3 : Int32) * x1) + x2).toNatClampNeg, σ_21)) else (σ_18 18 (((3 : Int32) * x1) + x2).toNatClampNeg, σ_18)) else ((0 : Int32), σ_4)) := by subst hb_2; exact hw
    have J_2 : ∀ (v9 : Int32) (ls : Array Slot), b_2 = v9 → lv_has ls 8 [(0, .ref (a 0)), (1, .int x1), (2, .int x2), (3, .int x3), (4, .int b_1)] → W p l e (headSpec wsX4_result ({ frames := 2, cells := 0, slots := 0, locals := 43 })).room s m [.ref (a 0), .int x1, .int x2, .int x3].toArray below meth c H locs 0 0 (MQ below (va_Qi (fun r σ9 => (r, σ9) = rf_result σ x1 x2 x3) (bMr dC dI cI cZ a A) A) [.ref (a 0), .int x1, .int x2, .int x3].toArray s 0 0 A) (F0 m 43 ls [.int v9, .int b_1, .ref (a 0)]) := by
      intro v9 ls hv9 hl
      subst hv9
      refine lv_iload hx hb dX4_result_43 (lv_at hl 4 rfl) ?_
      obtain ⟨b_3, hb_3⟩ : ∃ z : Int32, z = (if b_1 = 0 then (if (σ 13 x1.toNatClampNeg) < 0 then (0 : Int32) else (1 : Int32)) else (0 : Int32)) := ⟨_, rfl⟩
      replace hw : R = (let σ_4 : St := (rf_throwing σ b_1 b_2 b_3 (0 : Int32)).2; if ((rf_throwing σ b_1 b_2 b_3 (0 : Int32)).1) = 0 then (let b_12 : Int32 := (if x3 < (σ_4 6 (((3 : Int32) * (σ_4 8 x1.toNatClampNeg)) + x2).toNatClampNeg) then (if x3 < (σ_4 5 (((3 : Int32) * (σ_4 8 x1.toNatClampNeg)) + x2).toNatClampNeg) then (2 : Int32) else (1 : Int32)) else (0 : Int32)); let b_13 : Int32 := (if (σ_4 16 (((3 : Int32) * x1) + x2).toNatClampNeg) = (σ_4 0 1) then (if (σ_4 18 (((3 : Int32) * x1) + x2).toNatClampNeg) ≤ b_12 then b_12 else (σ_4 18 (((3 : Int32) * x1) + x2).toNatClampNeg)) else b_12); let σ_14 : St := su σ_4 18 ((((3 : Int32) * x1) + x2).toNatClampNeg) b_13; let σ_16 : St := su σ_14 16 ((((3 : Int32) * x1) + x2).toNatClampNeg) (σ_14 0 1); let σ_18 : St := su σ_16 17 ((((3 : Int32) * x1) + x2).toNatClampNeg) (0 : Int32); if b_12 = (2 : Int32) then (let σ_21 : St := su σ_18 13 x1.toNatClampNeg (σ_18 0 1); (σ_21 18 (((3 : Int32) * x1) + x2).toNatClampNeg, σ_21)) else (σ_18 18 (((3 : Int32) * x1) + x2).toNatClampNeg, σ_18)) else ((0 : Int32), σ_4)) := by subst hb_3; exact hw
      have J_3 : ∀ (v9 : Int32) (ls : Array Slot), b_3 = v9 → lv_has ls 8 [(0, .ref (a 0)), (1, .int x1), (2, .int x2), (3, .int x3), (4, .int b_1)] → W p l e (headSpec wsX4_result ({ frames := 2, cells := 0, slots := 0, locals := 43 })).room s m [.ref (a 0), .int x1, .int x2, .int x3].toArray below meth c H locs 0 0 (MQ below (va_Qi (fun r σ9 => (r, σ9) = rf_result σ x1 x2 x3) (bMr dC dI cI cZ a A) A) [.ref (a 0), .int x1, .int x2, .int x3].toArray s 0 0 A) (F0 m 62 ls [.int v9, .int b_2, .int b_1, .ref (a 0)]) := by
        intro v9 ls hv9 hl
        subst hv9
        refine lv_iconst (v := 0) hx hb dX4_result_62 (by decide) ?_
        have hFc := fr_all hD hS hA
        refine va_calli (va_runV (As := [.int b_1, .int b_2, .int b_3, .int (0 : Int32)]) (rest := []) ⟨hx, hb, hml, hown, hts⟩ (m_X4_throwing l dC dI cI cZ a H.size σ b_1 b_2 b_3 (0 : Int32)) (cwV 4 hts (gV k_650 k_652 k_11 k_24 k_653) rfl rfl rfl (by decide +kernel) ⟨Nat.le_of_ble_eq_true rfl, Nat.le_of_ble_eq_true rfl⟩) (pv_mr (q := (RX4, TX4, 23)) (q0 := 0) (ci := 4) hK hP hD rfl rfl) rfl rfl hl.1 rfl (lv_room (Nat.le_of_ble_eq_true rfl)) dX4_result_63 ⟨Nat.le_of_ble_eq_true rfl, Nat.le_of_ble_eq_true rfl⟩) hS (fun q _ h => hFc q h) hFc (fun r σ_4 t H1 locs ht hvm hw9 hB hz1 hk1 hS => ?_)
        obtain ⟨hP, hK1, hD1⟩ := hB
        rw [ht] at hP
        have hD := hD1.weaken (fun _ _ _ h => hFc _ h)
        clear hFc hD1 hK1
        obtain ⟨rfl, eσ_4⟩ : r = (rf_throwing σ b_1 b_2 b_3 (0 : Int32)).1 ∧ σ_4 = (rf_throwing σ b_1 b_2 b_3 (0 : Int32)).2 := ⟨congrArg Prod.fst hw9, congrArg Prod.snd hw9⟩
        clear hw9
        replace hw : R = (if ((rf_throwing σ b_1 b_2 b_3 (0 : Int32)).1) = 0 then (let b_12 : Int32 := (if x3 < (σ_4 6 (((3 : Int32) * (σ_4 8 x1.toNatClampNeg)) + x2).toNatClampNeg) then (if x3 < (σ_4 5 (((3 : Int32) * (σ_4 8 x1.toNatClampNeg)) + x2).toNatClampNeg) then (2 : Int32) else (1 : Int32)) else (0 : Int32)); let b_13 : Int32 := (if (σ_4 16 (((3 : Int32) * x1) + x2).toNatClampNeg) = (σ_4 0 1) then (if (σ_4 18 (((3 : Int32) * x1) + x2).toNatClampNeg) ≤ b_12 then b_12 else (σ_4 18 (((3 : Int32) * x1) + x2).toNatClampNeg)) else b_12); let σ_14 : St := su σ_4 18 ((((3 : Int32) * x1) + x2).toNatClampNeg) b_13; let σ_16 : St := su σ_14 16 ((((3 : Int32) * x1) + x2).toNatClampNeg) (σ_14 0 1); let σ_18 : St := su σ_16 17 ((((3 : Int32) * x1) + x2).toNatClampNeg) (0 : Int32); if b_12 = (2 : Int32) then (let σ_21 : St := su σ_18 13 x1.toNatClampNeg (σ_18 0 1); (σ_21 18 (((3 : Int32) * x1) + x2).toNatClampNeg, σ_21)) else (σ_18 18 (((3 : Int32) * x1) + x2).toNatClampNeg, σ_18)) else ((0 : Int32), σ_4)) := by subst eσ_4; exact hw
        generalize H1 = H at hP hS ⊢
        have hiv_5 : IVr σ_4 := by rw [eσ_4]; exact ir_thr hiv _ _ _ _
        refine lv_if_eq (tgt := 71) hx hb dX4_result_66 (by decide) (fun c_66_6 => ?_) (fun c_66_6 => ?_)
        · skip
          rw [if_pos c_66_6] at hw
          obtain ⟨z0_7, z1_8, z2_9, z3_10⟩ := thr0 c_66_6
          obtain ⟨ha_11, hb_11⟩ := bd_res hiv hb_1 z0_7
          refine lv_iconst (v := 3) hx hb dX4_result_71 (by decide) ?_
          refine lv_iload_n hx hb dX4_result_72 rfl (lv_at hl 1 rfl) ?_
          refine lv_imul hx hb dX4_result_73 ?_
          refine lv_iload_n hx hb dX4_result_74 rfl (lv_at hl 2 rfl) ?_
          refine lv_iadd hx hb dX4_result_75 ?_
          refine lv_istore (lv' := [(5, .int (((3 : Int32) * x1) + x2)), (0, .ref (a 0)), (1, .int x1), (2, .int x2), (3, .int x3), (4, .int b_1)]) hx hb dX4_result_76 hl (by decide) rfl (fun ls hl => ?_)
          refine lv_iconst (v := 3) hx hb dX4_result_78 (by decide) ?_
          refine lv_aload_n hx hb dX4_result_79 rfl (lv_at hl 1 rfl) ?_
          refine va_get (D := (dC, dI)) (ci := 4) (v := .ref (a 8)) (C := RX4) (T := TX4) (N := 23) hx hb hts (iwX4 _) hown hK hP 0 rfl rfl 8 (by decide) (hts _ (kc k_579)) (fun _ h9 => h9) rfl dX4_result_80 ?_
          refine lv_iload_n hx hb dX4_result_83 rfl (lv_at hl 2 rfl) ?_
          refine va_iald (D := (dC, dI)) (f := σ_4 8) hx hb hK hP 6 0 rfl rfl (i := x1) ha_11 dX4_result_84 ?_
          refine lv_imul hx hb dX4_result_85 ?_
          refine lv_iload_n hx hb dX4_result_86 rfl (lv_at hl 3 rfl) ?_
          refine lv_iadd hx hb dX4_result_87 ?_
          refine lv_istore (lv' := [(6, .int (((3 : Int32) * (σ_4 8 x1.toNatClampNeg)) + x2)), (5, .int (((3 : Int32) * x1) + x2)), (0, .ref (a 0)), (1, .int x1), (2, .int x2), (3, .int x3), (4, .int b_1)]) hx hb dX4_result_88 hl (by decide) rfl (fun ls hl => ?_)
          refine lv_iload_n hx hb dX4_result_90 rfl (lv_at hl 5 rfl) ?_
          refine lv_aload_n hx hb dX4_result_91 rfl (lv_at hl 2 rfl) ?_
          refine va_get (D := (dC, dI)) (ci := 4) (v := .ref (a 6)) (C := RX4) (T := TX4) (N := 23) hx hb hts (iwX4 _) hown hK hP 0 rfl rfl 6 (by decide) (hts _ (kc k_577)) (fun _ h9 => h9) rfl dX4_result_92 ?_
          refine lv_iload hx hb dX4_result_95 (lv_at hl 0 rfl) ?_
          refine va_iald (D := (dC, dI)) (f := σ_4 6) hx hb hK hP 5 0 rfl rfl (i := ((3 : Int32) * (σ_4 8 x1.toNatClampNeg)) + x2) (in_3m (n := 5) (ir_k hiv_5 ha_11) hb_11 (by decide) (by decide)) dX4_result_97 ?_
          obtain ⟨b_12, hb_12⟩ : ∃ z : Int32, z = (if x3 < (σ_4 6 (((3 : Int32) * (σ_4 8 x1.toNatClampNeg)) + x2).toNatClampNeg) then (if x3 < (σ_4 5 (((3 : Int32) * (σ_4 8 x1.toNatClampNeg)) + x2).toNatClampNeg) then (2 : Int32) else (1 : Int32)) else (0 : Int32)) := ⟨_, rfl⟩
          replace hw : R = (let b_13 : Int32 := (if (σ_4 16 (((3 : Int32) * x1) + x2).toNatClampNeg) = (σ_4 0 1) then (if (σ_4 18 (((3 : Int32) * x1) + x2).toNatClampNeg) ≤ b_12 then b_12 else (σ_4 18 (((3 : Int32) * x1) + x2).toNatClampNeg)) else b_12); let σ_14 : St := su σ_4 18 ((((3 : Int32) * x1) + x2).toNatClampNeg) b_13; let σ_16 : St := su σ_14 16 ((((3 : Int32) * x1) + x2).toNatClampNeg) (σ_14 0 1); let σ_18 : St := su σ_16 17 ((((3 : Int32) * x1) + x2).toNatClampNeg) (0 : Int32); if b_12 = (2 : Int32) then (let σ_21 : St := su σ_18 13 x1.toNatClampNeg (σ_18 0 1); (σ_21 18 (((3 : Int32) * x1) + x2).toNatClampNeg, σ_21)) else (σ_18 18 (((3 : Int32) * x1) + x2).toNatClampNeg, σ_18)) := by subst hb_12; exact hw
          have J_12 : ∀ (v9 : Int32) (ls : Array Slot), b_12 = v9 → lv_has ls 8 [(0, .ref (a 0)), (1, .int x1), (2, .int x2), (3, .int x3), (4, .int b_1), (5, .int (((3 : Int32) * x1) + x2)), (6, .int (((3 : Int32) * (σ_4 8 x1.toNatClampNeg)) + x2))] → W p l e (headSpec wsX4_result ({ frames := 2, cells := 0, slots := 0, locals := 43 })).room s m [.ref (a 0), .int x1, .int x2, .int x3].toArray below meth c H locs 0 0 (MQ below (va_Qi (fun r σ9 => (r, σ9) = rf_result σ x1 x2 x3) (bMr dC dI cI cZ a A) A) [.ref (a 0), .int x1, .int x2, .int x3].toArray s 0 0 A) (F0 m 121 ls [.int v9]) := by
            intro v9 ls hv9 hl
            subst hv9
            refine lv_istore (lv' := [(7, .int b_12), (0, .ref (a 0)), (1, .int x1), (2, .int x2), (3, .int x3), (4, .int b_1), (5, .int (((3 : Int32) * x1) + x2)), (6, .int (((3 : Int32) * (σ_4 8 x1.toNatClampNeg)) + x2))]) hx hb dX4_result_121 hl (by decide) rfl (fun ls hl => ?_)
            refine lv_aload_n hx hb dX4_result_123 rfl (lv_at hl 1 rfl) ?_
            refine va_get (D := (dC, dI)) (ci := 4) (v := .ref (a 18)) (C := RX4) (T := TX4) (N := 23) hx hb hts (iwX4 _) hown hK hP 0 rfl rfl 18 (by decide) (hts _ (kc k_589)) (fun _ h9 => h9) rfl dX4_result_124 ?_
            refine lv_iload hx hb dX4_result_127 (lv_at hl 6 rfl) ?_
            refine lv_aload_n hx hb dX4_result_129 rfl (lv_at hl 1 rfl) ?_
            refine va_get (D := (dC, dI)) (ci := 4) (v := .ref (a 16)) (C := RX4) (T := TX4) (N := 23) hx hb hts (iwX4 _) hown hK hP 0 rfl rfl 16 (by decide) (hts _ (kc k_587)) (fun _ h9 => h9) rfl dX4_result_130 ?_
            refine lv_iload hx hb dX4_result_133 (lv_at hl 6 rfl) ?_
            refine va_iald (D := (dC, dI)) (f := σ_4 16) hx hb hK hP 14 0 rfl rfl (i := ((3 : Int32) * x1) + x2) (in_3m (n := 40) ha_11 hb_11 (by decide) (by decide)) dX4_result_135 ?_
            refine lv_aload_n hx hb dX4_result_136 rfl (lv_at hl 1 rfl) ?_
            refine va_get (D := (dC, dI)) (ci := 4) (v := .int (σ_4 0 1)) (C := RX4) (T := TX4) (N := 23) hx hb hts (iwX4 _) hown hK hP 0 rfl rfl 1 (by decide) (hts _ (kc k_572)) (fun _ h9 => h9) rfl dX4_result_137 ?_
            obtain ⟨b_13, hb_13⟩ : ∃ z : Int32, z = (if (σ_4 16 (((3 : Int32) * x1) + x2).toNatClampNeg) = (σ_4 0 1) then (if (σ_4 18 (((3 : Int32) * x1) + x2).toNatClampNeg) ≤ b_12 then b_12 else (σ_4 18 (((3 : Int32) * x1) + x2).toNatClampNeg)) else b_12) := ⟨_, rfl⟩
            replace hw : R = (let σ_14 : St := su σ_4 18 ((((3 : Int32) * x1) + x2).toNatClampNeg) b_13; let σ_16 : St := su σ_14 16 ((((3 : Int32) * x1) + x2).toNatClampNeg) (σ_14 0 1); let σ_18 : St := su σ_16 17 ((((3 : Int32) * x1) + x2).toNatClampNeg) (0 : Int32); if b_12 = (2 : Int32) then (let σ_21 : St := su σ_18 13 x1.toNatClampNeg (σ_18 0 1); (σ_21 18 (((3 : Int32) * x1) + x2).toNatClampNeg, σ_21)) else (σ_18 18 (((3 : Int32) * x1) + x2).toNatClampNeg, σ_18)) := by subst hb_13; exact hw
            have J_13 : ∀ (v9 : Int32) (ls : Array Slot), b_13 = v9 → lv_has ls 8 [(0, .ref (a 0)), (1, .int x1), (2, .int x2), (3, .int x3), (4, .int b_1), (5, .int (((3 : Int32) * x1) + x2)), (6, .int (((3 : Int32) * (σ_4 8 x1.toNatClampNeg)) + x2)), (7, .int b_12)] → W p l e (headSpec wsX4_result ({ frames := 2, cells := 0, slots := 0, locals := 43 })).room s m [.ref (a 0), .int x1, .int x2, .int x3].toArray below meth c H locs 0 0 (MQ below (va_Qi (fun r σ9 => (r, σ9) = rf_result σ x1 x2 x3) (bMr dC dI cI cZ a A) A) [.ref (a 0), .int x1, .int x2, .int x3].toArray s 0 0 A) (F0 m 167 ls [.int v9, .int (((3 : Int32) * x1) + x2), .ref (a 18)]) := by
              intro v9 ls hv9 hl
              subst hv9
              refine va_iast (D := (dC, dI)) (f := σ_4 18) hx hb hK hP hD hS 16 0 rfl rfl (i := ((3 : Int32) * x1) + x2) (x := b_13) (in_3m (n := 40) ha_11 hb_11 (by decide) (by decide)) dX4_result_167 (fun H locs hP hD hS => ?_)
              obtain ⟨σ_14, eσ_14⟩ : ∃ z : St, z = su σ_4 18 ((((3 : Int32) * x1) + x2).toNatClampNeg) b_13 := ⟨_, rfl⟩
              replace hP := P_rw_18 hP
              replace hD := D_rw_18 hD
              rw [← eσ_14] at hP hD
              replace hw : R = (let σ_16 : St := su σ_14 16 ((((3 : Int32) * x1) + x2).toNatClampNeg) (σ_14 0 1); let σ_18 : St := su σ_16 17 ((((3 : Int32) * x1) + x2).toNatClampNeg) (0 : Int32); if b_12 = (2 : Int32) then (let σ_21 : St := su σ_18 13 x1.toNatClampNeg (σ_18 0 1); (σ_21 18 (((3 : Int32) * x1) + x2).toNatClampNeg, σ_21)) else (σ_18 18 (((3 : Int32) * x1) + x2).toNatClampNeg, σ_18)) := by subst eσ_14; exact hw
              have hiv_15 : IVr σ_14 := by rw [eσ_14]; exact (ir_suq hiv_5 (by decide))
              refine lv_aload_n hx hb dX4_result_168 rfl (lv_at hl 0 rfl) ?_
              refine va_get (D := (dC, dI)) (ci := 4) (v := .ref (a 16)) (C := RX4) (T := TX4) (N := 23) hx hb hts (iwX4 _) hown hK hP 0 rfl rfl 16 (by decide) (hts _ (kc k_587)) (fun _ h9 => h9) rfl dX4_result_169 ?_
              refine lv_iload hx hb dX4_result_172 (lv_at hl 5 rfl) ?_
              refine lv_aload_n hx hb dX4_result_174 rfl (lv_at hl 0 rfl) ?_
              refine va_get (D := (dC, dI)) (ci := 4) (v := .int (σ_14 0 1)) (C := RX4) (T := TX4) (N := 23) hx hb hts (iwX4 _) hown hK hP 0 rfl rfl 1 (by decide) (hts _ (kc k_572)) (fun _ h9 => h9) rfl dX4_result_175 ?_
              refine va_iast (D := (dC, dI)) (f := σ_14 16) hx hb hK hP hD hS 14 0 rfl rfl (i := ((3 : Int32) * x1) + x2) (x := σ_14 0 1) (in_3m (n := 40) ha_11 hb_11 (by decide) (by decide)) dX4_result_178 (fun H locs hP hD hS => ?_)
              obtain ⟨σ_16, eσ_16⟩ : ∃ z : St, z = su σ_14 16 ((((3 : Int32) * x1) + x2).toNatClampNeg) (σ_14 0 1) := ⟨_, rfl⟩
              replace hP := P_rw_16 hP
              replace hD := D_rw_16 hD
              rw [← eσ_16] at hP hD
              replace hw : R = (let σ_18 : St := su σ_16 17 ((((3 : Int32) * x1) + x2).toNatClampNeg) (0 : Int32); if b_12 = (2 : Int32) then (let σ_21 : St := su σ_18 13 x1.toNatClampNeg (σ_18 0 1); (σ_21 18 (((3 : Int32) * x1) + x2).toNatClampNeg, σ_21)) else (σ_18 18 (((3 : Int32) * x1) + x2).toNatClampNeg, σ_18)) := by subst eσ_16; exact hw
              have hiv_17 : IVr σ_16 := by rw [eσ_16]; exact (ir_suq hiv_15 (by decide))
              refine lv_aload_n hx hb dX4_result_179 rfl (lv_at hl 0 rfl) ?_
              refine va_get (D := (dC, dI)) (ci := 4) (v := .ref (a 17)) (C := RX4) (T := TX4) (N := 23) hx hb hts (iwX4 _) hown hK hP 0 rfl rfl 17 (by decide) (hts _ (kc k_588)) (fun _ h9 => h9) rfl dX4_result_180 ?_
              refine lv_iload hx hb dX4_result_183 (lv_at hl 5 rfl) ?_
              refine lv_iconst (v := 0) hx hb dX4_result_185 (by decide) ?_
              refine va_iast (D := (dC, dI)) (f := σ_16 17) hx hb hK hP hD hS 15 0 rfl rfl (i := ((3 : Int32) * x1) + x2) (x := (0 : Int32)) (in_3m (n := 40) ha_11 hb_11 (by decide) (by decide)) dX4_result_186 (fun H locs hP hD hS => ?_)
              obtain ⟨σ_18, eσ_18⟩ : ∃ z : St, z = su σ_16 17 ((((3 : Int32) * x1) + x2).toNatClampNeg) (0 : Int32) := ⟨_, rfl⟩
              replace hP := P_rw_17 hP
              replace hD := D_rw_17 hD
              rw [← eσ_18] at hP hD
              replace hw : R = (if b_12 = (2 : Int32) then (let σ_21 : St := su σ_18 13 x1.toNatClampNeg (σ_18 0 1); (σ_21 18 (((3 : Int32) * x1) + x2).toNatClampNeg, σ_21)) else (σ_18 18 (((3 : Int32) * x1) + x2).toNatClampNeg, σ_18)) := by subst eσ_18; exact hw
              have hiv_19 : IVr σ_18 := by rw [eσ_18]; exact (ir_suq hiv_17 (by decide))
              refine lv_iload hx hb dX4_result_187 (lv_at hl 7 rfl) ?_
              refine lv_iconst (v := 2) hx hb dX4_result_189 (by decide) ?_
              refine lv_icmp_ne (tgt := 203) hx hb dX4_result_190 (by decide) (fun c_190_20 => ?_) (fun c_190_20 => ?_)
              · skip
                rw [if_neg c_190_20] at hw
                refine lv_aload_n hx hb dX4_result_203 rfl (lv_at hl 0 rfl) ?_
                refine va_get (D := (dC, dI)) (ci := 4) (v := .ref (a 18)) (C := RX4) (T := TX4) (N := 23) hx hb hts (iwX4 _) hown hK hP 0 rfl rfl 18 (by decide) (hts _ (kc k_589)) (fun _ h9 => h9) rfl dX4_result_204 ?_
                refine lv_iload hx hb dX4_result_207 (lv_at hl 5 rfl) ?_
                refine va_iald (D := (dC, dI)) (f := σ_18 18) hx hb hK hP 16 0 rfl rfl (i := ((3 : Int32) * x1) + x2) (in_3m (n := 40) ha_11 hb_11 (by decide) (by decide)) dX4_result_209 ?_
                exact W.iret (v := σ_18 18 (((3 : Int32) * x1) + x2).toNatClampNeg) hx hb hr (fun t ht hW => ⟨⟨σ_18 18 (((3 : Int32) * x1) + x2).toNatClampNeg, σ_18, rfl, hw.symm.trans hR, by rw [ht]; exact hP, va_K.moved hW.alike hK, hD⟩, hS.F ht⟩) hS.2.2 dX4_result_210
              · skip
                rw [if_pos c_190_20] at hw
                refine lv_aload_n hx hb dX4_result_193 rfl (lv_at hl 0 rfl) ?_
                refine va_get (D := (dC, dI)) (ci := 4) (v := .ref (a 13)) (C := RX4) (T := TX4) (N := 23) hx hb hts (iwX4 _) hown hK hP 0 rfl rfl 13 (by decide) (hts _ (kc k_584)) (fun _ h9 => h9) rfl dX4_result_194 ?_
                refine lv_iload_n hx hb dX4_result_197 rfl (lv_at hl 1 rfl) ?_
                refine lv_aload_n hx hb dX4_result_198 rfl (lv_at hl 0 rfl) ?_
                refine va_get (D := (dC, dI)) (ci := 4) (v := .int (σ_18 0 1)) (C := RX4) (T := TX4) (N := 23) hx hb hts (iwX4 _) hown hK hP 0 rfl rfl 1 (by decide) (hts _ (kc k_572)) (fun _ h9 => h9) rfl dX4_result_199 ?_
                refine va_iast (D := (dC, dI)) (f := σ_18 13) hx hb hK hP hD hS 11 0 rfl rfl (i := x1) (x := σ_18 0 1) ha_11 dX4_result_202 (fun H locs hP hD hS => ?_)
                obtain ⟨σ_21, eσ_21⟩ : ∃ z : St, z = su σ_18 13 x1.toNatClampNeg (σ_18 0 1) := ⟨_, rfl⟩
                replace hP := P_rw_13 hP
                replace hD := D_rw_13 hD
                rw [← eσ_21] at hP hD
                replace hw : R = ((σ_21 18 (((3 : Int32) * x1) + x2).toNatClampNeg, σ_21)) := by subst eσ_21; exact hw
                have hiv_22 : IVr σ_21 := by rw [eσ_21]; exact (ir_suq hiv_19 (by decide))
                refine lv_aload_n hx hb dX4_result_203 rfl (lv_at hl 0 rfl) ?_
                refine va_get (D := (dC, dI)) (ci := 4) (v := .ref (a 18)) (C := RX4) (T := TX4) (N := 23) hx hb hts (iwX4 _) hown hK hP 0 rfl rfl 18 (by decide) (hts _ (kc k_589)) (fun _ h9 => h9) rfl dX4_result_204 ?_
                refine lv_iload hx hb dX4_result_207 (lv_at hl 5 rfl) ?_
                refine va_iald (D := (dC, dI)) (f := σ_21 18) hx hb hK hP 16 0 rfl rfl (i := ((3 : Int32) * x1) + x2) (in_3m (n := 40) ha_11 hb_11 (by decide) (by decide)) dX4_result_209 ?_
                exact W.iret (v := σ_21 18 (((3 : Int32) * x1) + x2).toNatClampNeg) hx hb hr (fun t ht hW => ⟨⟨σ_21 18 (((3 : Int32) * x1) + x2).toNatClampNeg, σ_21, rfl, hw.symm.trans hR, by rw [ht]; exact hP, va_K.moved hW.alike hK, hD⟩, hS.F ht⟩) hS.2.2 dX4_result_210
            have hq_13 := hb_13
            refine lv_icmp_ne (tgt := 165) hx hb dX4_result_140 (by decide) (fun c_140_23 => ?_) (fun c_140_23 => ?_)
            · skip
              rw [if_neg c_140_23] at hq_13
              refine lv_iload hx hb dX4_result_165 (lv_at hl 0 rfl) ?_
              exact J_13 _ ls hq_13 (lv_sub hl [1, 2, 3, 4, 5, 6, 7, 0] rfl)
            · skip
              rw [if_pos c_140_23] at hq_13
              refine lv_aload_n hx hb dX4_result_143 rfl (lv_at hl 1 rfl) ?_
              refine va_get (D := (dC, dI)) (ci := 4) (v := .ref (a 18)) (C := RX4) (T := TX4) (N := 23) hx hb hts (iwX4 _) hown hK hP 0 rfl rfl 18 (by decide) (hts _ (kc k_589)) (fun _ h9 => h9) rfl dX4_result_144 ?_
              refine lv_iload hx hb dX4_result_147 (lv_at hl 6 rfl) ?_
              refine va_iald (D := (dC, dI)) (f := σ_4 18) hx hb hK hP 16 0 rfl rfl (i := ((3 : Int32) * x1) + x2) (in_3m (n := 40) ha_11 hb_11 (by decide) (by decide)) dX4_result_149 ?_
              refine lv_iload hx hb dX4_result_150 (lv_at hl 0 rfl) ?_
              refine lv_icmp_le (tgt := 165) hx hb dX4_result_152 (by decide) (fun c_152_24 => ?_) (fun c_152_24 => ?_)
              · skip
                rw [if_pos c_152_24] at hq_13
                refine lv_iload hx hb dX4_result_165 (lv_at hl 0 rfl) ?_
                exact J_13 _ ls hq_13 (lv_sub hl [1, 2, 3, 4, 5, 6, 7, 0] rfl)
              · skip
                rw [if_neg c_152_24] at hq_13
                refine lv_aload_n hx hb dX4_result_155 rfl (lv_at hl 1 rfl) ?_
                refine va_get (D := (dC, dI)) (ci := 4) (v := .ref (a 18)) (C := RX4) (T := TX4) (N := 23) hx hb hts (iwX4 _) hown hK hP 0 rfl rfl 18 (by decide) (hts _ (kc k_589)) (fun _ h9 => h9) rfl dX4_result_156 ?_
                refine lv_iload hx hb dX4_result_159 (lv_at hl 6 rfl) ?_
                refine va_iald (D := (dC, dI)) (f := σ_4 18) hx hb hK hP 16 0 rfl rfl (i := ((3 : Int32) * x1) + x2) (in_3m (n := 40) ha_11 hb_11 (by decide) (by decide)) dX4_result_161 ?_
                refine lv_goto (tgt := 167) hx hb dX4_result_162 (by decide) ?_
                exact J_13 _ ls hq_13 (lv_sub hl [1, 2, 3, 4, 5, 6, 7, 0] rfl)
          have hq_12 := hb_12
          refine lv_icmp_lt (tgt := 105) hx hb dX4_result_98 (by decide) (fun c_98_25 => ?_) (fun c_98_25 => ?_)
          · skip
            rw [if_pos c_98_25] at hq_12
            refine lv_iload_n hx hb dX4_result_105 rfl (lv_at hl 5 rfl) ?_
            refine lv_aload_n hx hb dX4_result_106 rfl (lv_at hl 2 rfl) ?_
            refine va_get (D := (dC, dI)) (ci := 4) (v := .ref (a 5)) (C := RX4) (T := TX4) (N := 23) hx hb hts (iwX4 _) hown hK hP 0 rfl rfl 5 (by decide) (hts _ (kc k_576)) (fun _ h9 => h9) rfl dX4_result_107 ?_
            refine lv_iload hx hb dX4_result_110 (lv_at hl 0 rfl) ?_
            refine va_iald (D := (dC, dI)) (f := σ_4 5) hx hb hK hP 4 0 rfl rfl (i := ((3 : Int32) * (σ_4 8 x1.toNatClampNeg)) + x2) (in_3m (n := 5) (ir_k hiv_5 ha_11) hb_11 (by decide) (by decide)) dX4_result_112 ?_
            refine lv_icmp_lt (tgt := 120) hx hb dX4_result_113 (by decide) (fun c_113_26 => ?_) (fun c_113_26 => ?_)
            · skip
              rw [if_pos c_113_26] at hq_12
              refine lv_iconst (v := 2) hx hb dX4_result_120 (by decide) ?_
              exact J_12 _ ls hq_12 (lv_sub hl [2, 3, 4, 5, 6, 1, 0] rfl)
            · skip
              rw [if_neg c_113_26] at hq_12
              refine lv_iconst (v := 1) hx hb dX4_result_116 (by decide) ?_
              refine lv_goto (tgt := 121) hx hb dX4_result_117 (by decide) ?_
              exact J_12 _ ls hq_12 (lv_sub hl [2, 3, 4, 5, 6, 1, 0] rfl)
          · skip
            rw [if_neg c_98_25] at hq_12
            refine lv_iconst (v := 0) hx hb dX4_result_101 (by decide) ?_
            refine lv_goto (tgt := 121) hx hb dX4_result_102 (by decide) ?_
            exact J_12 _ ls hq_12 (lv_sub hl [2, 3, 4, 5, 6, 1, 0] rfl)
        · skip
          rw [if_neg c_66_6] at hw
          refine lv_iconst (v := 0) hx hb dX4_result_69 (by decide) ?_
          exact W.iret (v := (0 : Int32)) hx hb hr (fun t ht hW => ⟨⟨(0 : Int32), σ_4, rfl, hw.symm.trans hR, by rw [ht]; exact hP, va_K.moved hW.alike hK, hD⟩, hS.F ht⟩) hS.2.2 dX4_result_70
      have hq_3 := hb_3
      refine lv_if_ne (tgt := 61) hx hb dX4_result_45 (by decide) (fun c_45_27 => ?_) (fun c_45_27 => ?_)
      · skip
        rw [if_neg c_45_27] at hq_3
        refine lv_iconst (v := 0) hx hb dX4_result_61 (by decide) ?_
        exact J_3 _ ls hq_3 (lv_sub hl [0, 1, 2, 3, 4] rfl)
      · skip
        rw [if_pos c_45_27] at hq_3
        have hf_28 : vp_in x1 40 := bd_thing hiv hb_1 c_45_27
        refine lv_aload_n hx hb dX4_result_48 rfl (lv_at hl 0 rfl) ?_
        refine va_get (D := (dC, dI)) (ci := 4) (v := .ref (a 13)) (C := RX4) (T := TX4) (N := 23) hx hb hts (iwX4 _) hown hK hP 0 rfl rfl 13 (by decide) (hts _ (kc k_584)) (fun _ h9 => h9) rfl dX4_result_49 ?_
        refine lv_iload_n hx hb dX4_result_52 rfl (lv_at hl 1 rfl) ?_
        refine va_iald (D := (dC, dI)) (f := σ 13) hx hb hK hP 11 0 rfl rfl (i := x1) hf_28 dX4_result_53 ?_
        refine lv_if_lt (tgt := 61) hx hb dX4_result_54 (by decide) (fun c_54_29 => ?_) (fun c_54_29 => ?_)
        · skip
          rw [if_pos c_54_29] at hq_3
          refine lv_iconst (v := 0) hx hb dX4_result_61 (by decide) ?_
          exact J_3 _ ls hq_3 (lv_sub hl [0, 1, 2, 3, 4] rfl)
        · skip
          rw [if_neg c_54_29] at hq_3
          refine lv_iconst (v := 1) hx hb dX4_result_57 (by decide) ?_
          refine lv_goto (tgt := 62) hx hb dX4_result_58 (by decide) ?_
          exact J_3 _ ls hq_3 (lv_sub hl [0, 1, 2, 3, 4] rfl)
    have hq_2 := hb_2
    refine lv_if_ne (tgt := 42) hx hb dX4_result_35 (by decide) (fun c_35_30 => ?_) (fun c_35_30 => ?_)
    · skip
      rw [if_neg c_35_30] at hq_2
      refine lv_iconst (v := 0) hx hb dX4_result_42 (by decide) ?_
      exact J_2 _ ls hq_2 (lv_sub hl [1, 2, 3, 4, 0] rfl)
    · skip
      rw [if_pos c_35_30] at hq_2
      refine lv_iconst (v := 1) hx hb dX4_result_38 (by decide) ?_
      refine lv_goto (tgt := 43) hx hb dX4_result_39 (by decide) ?_
      exact J_2 _ ls hq_2 (lv_sub hl [1, 2, 3, 4, 0] rfl)
  have hq_1 := hb_1
  refine lv_if_eq (tgt := 17) hx hb dX4_result_5 (by decide) (fun c_5_31 => ?_) (fun c_5_31 => ?_)
  · skip
    rw [if_pos c_5_31] at hq_1
    refine lv_iconst (v := 1) hx hb dX4_result_17 (by decide) ?_
    refine lv_goto (tgt := 22) hx hb dX4_result_18 (by decide) ?_
    exact J_1 _ ls hq_1 (lv_sub hl [0, 1, 2, 3] rfl)
  · skip
    rw [if_neg c_5_31] at hq_1
    refine lv_iload_n hx hb dX4_result_8 rfl (lv_at hl 2 rfl) ?_
    refine lv_iconst (v := 0) hx hb dX4_result_9 (by decide) ?_
    refine lv_iconst (v := 2) hx hb dX4_result_10 (by decide) ?_
    refine vp_callSi (W.runS (As := [.int x2, .int (0 : Int32), .int (2 : Int32)]) (rest := []) ⟨hx, hb, hml, hown, hts⟩ (m_X4_in l x2 (0 : Int32) (2 : Int32)) (cwS 3 hts (gS k_658 k_659 k_24 k_660) rfl rfl rfl (by decide +kernel) ⟨Nat.le_of_ble_eq_true rfl, Nat.le_of_ble_eq_true rfl⟩) ps_0 rfl rfl hl.1 rfl (lv_room (Nat.le_of_ble_eq_true rfl)) dX4_result_11 ⟨Nat.le_of_ble_eq_true rfl, Nat.le_of_ble_eq_true rfl⟩) (fun r hrr => ?_)
    subst hrr
    refine lv_if_ne (tgt := 21) hx hb dX4_result_14 (by decide) (fun c_14_32 => ?_) (fun c_14_32 => ?_)
    · skip
      rw [if_neg c_14_32] at hq_1
      refine lv_iconst (v := 0) hx hb dX4_result_21 (by decide) ?_
      exact J_1 _ ls hq_1 (lv_sub hl [0, 1, 2, 3] rfl)
    · skip
      rw [if_pos c_14_32] at hq_1
      refine lv_iconst (v := 1) hx hb dX4_result_17 (by decide) ?_
      refine lv_goto (tgt := 22) hx hb dX4_result_18 (by decide) ?_
      exact J_1 _ ls hq_1 (lv_sub hl [0, 1, 2, 3] rfl)
set_option maxHeartbeats 4000000 in
set_option maxRecDepth 100000 in
theorem m_X4_load (l : Launch) (dC : Nat → ClassId) (dI : Nat → Nat → Nat) (cI cZ : ClassId) (a : Nat → Nat) (sz : Nat) (σ : St) (x1 : Int32) (x2 : Int32) (hiv : IVr σ) : Met l yX4_load wsX4_load ({ frames := 2, cells := 0, slots := 0, locals := 45 }) (pMr dC dI cI cZ a sz σ [.ref (a 0), .int x1, .int x2]) (va_Qv (fun σ9 => σ9 = rf_load σ x1 x2) (bMr dC dI cI cZ a (va_A (rw cI cZ a σ) sz)) (va_A (rw cI cZ a σ) sz)) 0 0 (va_A (rw cI cZ a σ) sz) := by
  refine Met.ofW (cc := cX4_load) (maxL := 4) (ret := none) (by decide) rfl ?_
  intro p e s m args below meth c s₁ B hml hv
  obtain ⟨rfl, hsz, hP, hK, hD0⟩ := hv
  have hx := B.exec
  have hb := B.bytes
  have hr := B.returns
  have hts := atoms_spec (ws := wsX4_load) B.pre
  have hown : s.vm.findClass RX4 = some m.cls := findClass_of_methodNamed B.named
  have hlocks := B.notSynchronized
  subst hsz
  have hD := hD0.self (sz := s.heap.size)
  generalize hAe : va_A (rw cI cZ a σ) s.heap.size = A at hD ⊢
  have hA : ∀ q : Nat, s.heap.size ≤ q → A q := fun q h => by rw [← hAe]; exact Or.inr h
  clear hAe hD0
  obtain ⟨H, hHe⟩ : ∃ z, z = s.heap := ⟨_, rfl⟩
  obtain ⟨locs, hLe⟩ : ∃ z : List Loc, z = [] := ⟨_, rfl⟩
  have hS : va_S A s.heap H locs := by rw [hHe, hLe]; exact va_S.rf
  have hP : va_P (dC, dI) vwCl (rw cI cZ a σ) H := by rw [hHe]; exact hP
  refine W_ofH hHe hLe ?_
  clear hHe hLe
  have hl := lv_entry ([.ref (a 0), .int x1, .int x2]) (n := 4) (Nat.le_of_ble_eq_true rfl)
  rw [lg_entry_eq]
  generalize (lg_sl ([.ref (a 0), .int x1, .int x2]) ++ List.replicate (4 - (lg_sl ([.ref (a 0), .int x1, .int x2])).length) Slot.unset).toArray = ls at hl ⊢
  have hl : lv_has ls 4 [(0, .ref (a 0)), (1, .int x1), (2, .int x2)] := hl
  obtain ⟨R, hR⟩ : ∃ z, z = rf_load σ x1 x2 := ⟨_, rfl⟩
  have hw := hR
  unfold rf_load at hw
  refine lv_aload_n hx hb dX4_load_0 rfl (lv_at hl 0 rfl) ?_
  refine lv_iload_n hx hb dX4_load_1 rfl (lv_at hl 1 rfl) ?_
  refine vp_callSi (W.runV (As := [.int x1]) (rest := []) ⟨hx, hb, hml, hown, hts⟩ (m_X4_isThing l dC dI cI cZ a σ x1) (cwV 1 hts (gV k_691 k_693 k_12 k_24 k_694) rfl rfl rfl (by decide +kernel) ⟨Nat.le_of_ble_eq_true rfl, Nat.le_of_ble_eq_true rfl⟩) (pv_rr (q := (RX4, TX4, 23)) (q0 := 0) (ci := 4) hK hP rfl rfl) rfl rfl hl.1 rfl (lv_room (Nat.le_of_ble_eq_true rfl)) dX4_load_2 ⟨Nat.le_of_ble_eq_true rfl, Nat.le_of_ble_eq_true rfl⟩) (fun r hrr => ?_)
  subst hrr
  obtain ⟨b_1, hb_1⟩ : ∃ z : Int32, z = (if (rf_isThing σ x1) = 0 then (1 : Int32) else (if (rf_in x2 (0 : Int32) (19 : Int32)) = 0 then (1 : Int32) else (0 : Int32))) := ⟨_, rfl⟩
  replace hw : R = (let b_2 : Int32 := (if b_1 = 0 then (if (rf_reason σ x1) ≤ 0 then (0 : Int32) else (1 : Int32)) else (0 : Int32)); let σ_3 : St := (rf_throwing σ b_1 b_2 (0 : Int32) (0 : Int32)).2; if ((rf_throwing σ b_1 b_2 (0 : Int32) (0 : Int32)).1) = 0 then (let σ_11 : St := su σ_3 11 x1.toNatClampNeg x2; σ_11) else σ_3) := by subst hb_1; exact hw
  have J_1 : ∀ (v9 : Int32) (ls : Array Slot), b_1 = v9 → lv_has ls 4 [(0, .ref (a 0)), (1, .int x1), (2, .int x2)] → W p l e (headSpec wsX4_load ({ frames := 2, cells := 0, slots := 0, locals := 45 })).room s m [.ref (a 0), .int x1, .int x2].toArray below meth c H locs 0 0 (MQ below (va_Qv (fun σ9 => σ9 = rf_load σ x1 x2) (bMr dC dI cI cZ a A) A) [.ref (a 0), .int x1, .int x2].toArray s 0 0 A) (F0 m 23 ls [.int v9]) := by
    intro v9 ls hv9 hl
    subst hv9
    refine lv_istore_n (lv' := [(3, .int b_1), (0, .ref (a 0)), (1, .int x1), (2, .int x2)]) hx hb dX4_load_23 rfl hl (by decide) rfl (fun ls hl => ?_)
    refine lv_aload_n hx hb dX4_load_24 rfl (lv_at hl 1 rfl) ?_
    refine lv_iload_n hx hb dX4_load_25 rfl (lv_at hl 0 rfl) ?_
    refine lv_iload_n hx hb dX4_load_26 rfl (lv_at hl 0 rfl) ?_
    obtain ⟨b_2, hb_2⟩ : ∃ z : Int32, z = (if b_1 = 0 then (if (rf_reason σ x1) ≤ 0 then (0 : Int32) else (1 : Int32)) else (0 : Int32)) := ⟨_, rfl⟩
    replace hw : R = (let σ_3 : St := (rf_throwing σ b_1 b_2 (0 : Int32) (0 : Int32)).2; if ((rf_throwing σ b_1 b_2 (0 : Int32) (0 : Int32)).1) = 0 then (let σ_11 : St := su σ_3 11 x1.toNatClampNeg x2; σ_11) else σ_3) := by subst hb_2; exact hw
    have J_2 : ∀ (v9 : Int32) (ls : Array Slot), b_2 = v9 → lv_has ls 4 [(0, .ref (a 0)), (1, .int x1), (2, .int x2), (3, .int b_1)] → W p l e (headSpec wsX4_load ({ frames := 2, cells := 0, slots := 0, locals := 45 })).room s m [.ref (a 0), .int x1, .int x2].toArray below meth c H locs 0 0 (MQ below (va_Qv (fun σ9 => σ9 = rf_load σ x1 x2) (bMr dC dI cI cZ a A) A) [.ref (a 0), .int x1, .int x2].toArray s 0 0 A) (F0 m 43 ls [.int v9, .int b_1, .ref (a 0)]) := by
      intro v9 ls hv9 hl
      subst hv9
      refine lv_iconst (v := 0) hx hb dX4_load_43 (by decide) ?_
      refine lv_iconst (v := 0) hx hb dX4_load_44 (by decide) ?_
      have hFc := fr_all hD hS hA
      refine va_calli (va_runV (As := [.int b_1, .int b_2, .int (0 : Int32), .int (0 : Int32)]) (rest := []) ⟨hx, hb, hml, hown, hts⟩ (m_X4_throwing l dC dI cI cZ a H.size σ b_1 b_2 (0 : Int32) (0 : Int32)) (cwV 4 hts (gV k_650 k_652 k_11 k_24 k_653) rfl rfl rfl (by decide +kernel) ⟨Nat.le_of_ble_eq_true rfl, Nat.le_of_ble_eq_true rfl⟩) (pv_mr (q := (RX4, TX4, 23)) (q0 := 0) (ci := 4) hK hP hD rfl rfl) rfl rfl hl.1 rfl (lv_room (Nat.le_of_ble_eq_true rfl)) dX4_load_45 ⟨Nat.le_of_ble_eq_true rfl, Nat.le_of_ble_eq_true rfl⟩) hS (fun q _ h => hFc q h) hFc (fun r σ_3 t H1 locs ht hvm hw9 hB hz1 hk1 hS => ?_)
      obtain ⟨hP, hK1, hD1⟩ := hB
      rw [ht] at hP
      have hD := hD1.weaken (fun _ _ _ h => hFc _ h)
      clear hFc hD1 hK1
      obtain ⟨rfl, eσ_3⟩ : r = (rf_throwing σ b_1 b_2 (0 : Int32) (0 : Int32)).1 ∧ σ_3 = (rf_throwing σ b_1 b_2 (0 : Int32) (0 : Int32)).2 := ⟨congrArg Prod.fst hw9, congrArg Prod.snd hw9⟩
      clear hw9
      replace hw : R = (if ((rf_throwing σ b_1 b_2 (0 : Int32) (0 : Int32)).1) = 0 then (let σ_11 : St := su σ_3 11 x1.toNatClampNeg x2; σ_11) else σ_3) := by subst eσ_3; exact hw
      generalize H1 = H at hP hS ⊢
      have hiv_4 : IVr σ_3 := by rw [eσ_3]; exact ir_thr hiv _ _ _ _
      refine lv_if_eq (tgt := 52) hx hb dX4_load_48 (by decide) (fun c_48_5 => ?_) (fun c_48_5 => ?_)
      · skip
        rw [if_pos c_48_5] at hw
        obtain ⟨z0_6, z1_7, z2_8, z3_9⟩ := thr0 c_48_5
        have hf_10 : vp_in x1 40 := bd_thing hiv hb_1 z0_6
        refine lv_aload_n hx hb dX4_load_52 rfl (lv_at hl 0 rfl) ?_
        refine va_get (D := (dC, dI)) (ci := 4) (v := .ref (a 11)) (C := RX4) (T := TX4) (N := 23) hx hb hts (iwX4 _) hown hK hP 0 rfl rfl 11 (by decide) (hts _ (kc k_582)) (fun _ h9 => h9) rfl dX4_load_53 ?_
        refine lv_iload_n hx hb dX4_load_56 rfl (lv_at hl 1 rfl) ?_
        refine lv_iload_n hx hb dX4_load_57 rfl (lv_at hl 2 rfl) ?_
        refine va_iast (D := (dC, dI)) (f := σ_3 11) hx hb hK hP hD hS 9 0 rfl rfl (i := x1) (x := x2) hf_10 dX4_load_58 (fun H locs hP hD hS => ?_)
        obtain ⟨σ_11, eσ_11⟩ : ∃ z : St, z = su σ_3 11 x1.toNatClampNeg x2 := ⟨_, rfl⟩
        replace hP := P_rw_11 hP
        replace hD := D_rw_11 hD
        rw [← eσ_11] at hP hD
        replace hw : R = (σ_11) := by subst eσ_11; exact hw
        have hiv_12 : IVr σ_11 := by rw [eσ_11]; exact (ir_suq hiv_4 (by decide))
        exact W.vret hx hb hr (fun t ht hW => ⟨⟨σ_11, rfl, hw.symm.trans hR, by rw [ht]; exact hP, va_K.moved hW.alike hK, hD⟩, hS.F ht⟩) hS.2.2 dX4_load_59
      · skip
        rw [if_neg c_48_5] at hw
        exact W.vret hx hb hr (fun t ht hW => ⟨⟨σ_3, rfl, hw.symm.trans hR, by rw [ht]; exact hP, va_K.moved hW.alike hK, hD⟩, hS.F ht⟩) hS.2.2 dX4_load_51
    have hq_2 := hb_2
    refine lv_if_ne (tgt := 42) hx hb dX4_load_27 (by decide) (fun c_27_13 => ?_) (fun c_27_13 => ?_)
    · skip
      rw [if_neg c_27_13] at hq_2
      refine lv_iconst (v := 0) hx hb dX4_load_42 (by decide) ?_
      exact J_2 _ ls hq_2 (lv_sub hl [1, 2, 3, 0] rfl)
    · skip
      rw [if_pos c_27_13] at hq_2
      have hf_14 : vp_in x1 40 := bd_thing hiv hb_1 c_27_13
      refine lv_aload_n hx hb dX4_load_30 rfl (lv_at hl 1 rfl) ?_
      refine lv_iload_n hx hb dX4_load_31 rfl (lv_at hl 2 rfl) ?_
      refine vp_callSi (W.runV (As := [.int x1]) (rest := [.int b_1, .ref (a 0)]) ⟨hx, hb, hml, hown, hts⟩ (m_X4_reason l dC dI cI cZ a σ x1 hiv hf_14) (cwV 1 hts (gV k_695 k_697 k_13 k_24 k_698) rfl rfl rfl (by decide +kernel) ⟨Nat.le_of_ble_eq_true rfl, Nat.le_of_ble_eq_true rfl⟩) (pv_rr (q := (RX4, TX4, 23)) (q0 := 0) (ci := 4) hK hP rfl rfl) rfl rfl hl.1 rfl (lv_room (Nat.le_of_ble_eq_true rfl)) dX4_load_32 ⟨Nat.le_of_ble_eq_true rfl, Nat.le_of_ble_eq_true rfl⟩) (fun r hrr => ?_)
      subst hrr
      refine lv_if_le (tgt := 42) hx hb dX4_load_35 (by decide) (fun c_35_15 => ?_) (fun c_35_15 => ?_)
      · skip
        rw [if_pos c_35_15] at hq_2
        refine lv_iconst (v := 0) hx hb dX4_load_42 (by decide) ?_
        exact J_2 _ ls hq_2 (lv_sub hl [1, 2, 3, 0] rfl)
      · skip
        rw [if_neg c_35_15] at hq_2
        refine lv_iconst (v := 1) hx hb dX4_load_38 (by decide) ?_
        refine lv_goto (tgt := 43) hx hb dX4_load_39 (by decide) ?_
        exact J_2 _ ls hq_2 (lv_sub hl [1, 2, 3, 0] rfl)
  have hq_1 := hb_1
  refine lv_if_eq (tgt := 18) hx hb dX4_load_5 (by decide) (fun c_5_16 => ?_) (fun c_5_16 => ?_)
  · skip
    rw [if_pos c_5_16] at hq_1
    refine lv_iconst (v := 1) hx hb dX4_load_18 (by decide) ?_
    refine lv_goto (tgt := 23) hx hb dX4_load_19 (by decide) ?_
    exact J_1 _ ls hq_1 (lv_sub hl [0, 1, 2] rfl)
  · skip
    rw [if_neg c_5_16] at hq_1
    refine lv_iload_n hx hb dX4_load_8 rfl (lv_at hl 2 rfl) ?_
    refine lv_iconst (v := 0) hx hb dX4_load_9 (by decide) ?_
    refine lv_bipush (v := 19) hx hb dX4_load_10 (by decide) ?_
    refine vp_callSi (W.runS (As := [.int x2, .int (0 : Int32), .int (19 : Int32)]) (rest := []) ⟨hx, hb, hml, hown, hts⟩ (m_X4_in l x2 (0 : Int32) (19 : Int32)) (cwS 3 hts (gS k_658 k_659 k_24 k_660) rfl rfl rfl (by decide +kernel) ⟨Nat.le_of_ble_eq_true rfl, Nat.le_of_ble_eq_true rfl⟩) ps_0 rfl rfl hl.1 rfl (lv_room (Nat.le_of_ble_eq_true rfl)) dX4_load_12 ⟨Nat.le_of_ble_eq_true rfl, Nat.le_of_ble_eq_true rfl⟩) (fun r hrr => ?_)
    subst hrr
    refine lv_if_ne (tgt := 22) hx hb dX4_load_15 (by decide) (fun c_15_17 => ?_) (fun c_15_17 => ?_)
    · skip
      rw [if_neg c_15_17] at hq_1
      refine lv_iconst (v := 0) hx hb dX4_load_22 (by decide) ?_
      exact J_1 _ ls hq_1 (lv_sub hl [0, 1, 2] rfl)
    · skip
      rw [if_pos c_15_17] at hq_1
      refine lv_iconst (v := 1) hx hb dX4_load_18 (by decide) ?_
      refine lv_goto (tgt := 23) hx hb dX4_load_19 (by decide) ?_
      exact J_1 _ ls hq_1 (lv_sub hl [0, 1, 2] rfl)
set_option maxHeartbeats 4000000 in
set_option maxRecDepth 100000 in
theorem m_X4_recall (l : Launch) (dC : Nat → ClassId) (dI : Nat → Nat → Nat) (cI cZ : ClassId) (a : Nat → Nat) (sz : Nat) (σ : St) (x1 : Int32) (x2 : Int32) (hiv : IVr σ) : Met l yX4_recall wsX4_recall ({ frames := 1, cells := 0, slots := 0, locals := 24 }) (pMr dC dI cI cZ a sz σ [.ref (a 0), .int x1, .int x2]) (va_Qi (fun r σ9 => (r, σ9) = rf_recall σ x1 x2) (bMr dC dI cI cZ a (va_A (rw cI cZ a σ) sz)) (va_A (rw cI cZ a σ) sz)) 0 0 (va_A (rw cI cZ a σ) sz) := by
  refine Met.ofW (cc := cX4_recall) (maxL := 4) (ret := (some .int)) (by decide) rfl ?_
  intro p e s m args below meth c s₁ B hml hv
  obtain ⟨rfl, hsz, hP, hK, hD0⟩ := hv
  have hx := B.exec
  have hb := B.bytes
  have hr := B.returns
  have hts := atoms_spec (ws := wsX4_recall) B.pre
  have hown : s.vm.findClass RX4 = some m.cls := findClass_of_methodNamed B.named
  have hlocks := B.notSynchronized
  subst hsz
  have hD := hD0.self (sz := s.heap.size)
  generalize hAe : va_A (rw cI cZ a σ) s.heap.size = A at hD ⊢
  have hA : ∀ q : Nat, s.heap.size ≤ q → A q := fun q h => by rw [← hAe]; exact Or.inr h
  clear hAe hD0
  obtain ⟨H, hHe⟩ : ∃ z, z = s.heap := ⟨_, rfl⟩
  obtain ⟨locs, hLe⟩ : ∃ z : List Loc, z = [] := ⟨_, rfl⟩
  have hS : va_S A s.heap H locs := by rw [hHe, hLe]; exact va_S.rf
  have hP : va_P (dC, dI) vwCl (rw cI cZ a σ) H := by rw [hHe]; exact hP
  refine W_ofH hHe hLe ?_
  clear hHe hLe
  have hl := lv_entry ([.ref (a 0), .int x1, .int x2]) (n := 4) (Nat.le_of_ble_eq_true rfl)
  rw [lg_entry_eq]
  generalize (lg_sl ([.ref (a 0), .int x1, .int x2]) ++ List.replicate (4 - (lg_sl ([.ref (a 0), .int x1, .int x2])).length) Slot.unset).toArray = ls at hl ⊢
  have hl : lv_has ls 4 [(0, .ref (a 0)), (1, .int x1), (2, .int x2)] := hl
  obtain ⟨R, hR⟩ : ∃ z, z = rf_recall σ x1 x2 := ⟨_, rfl⟩
  have hw := hR
  unfold rf_recall at hw
  refine lv_iload_n hx hb dX4_recall_0 rfl (lv_at hl 1 rfl) ?_
  refine lv_iconst (v := 0) hx hb dX4_recall_1 (by decide) ?_
  refine lv_bipush (v := 9) hx hb dX4_recall_2 (by decide) ?_
  refine vp_callSi (W.runS (As := [.int x1, .int (0 : Int32), .int (9 : Int32)]) (rest := []) ⟨hx, hb, hml, hown, hts⟩ (m_X4_in l x1 (0 : Int32) (9 : Int32)) (cwS 3 hts (gS k_658 k_659 k_24 k_660) rfl rfl rfl (by decide +kernel) ⟨Nat.le_of_ble_eq_true rfl, Nat.le_of_ble_eq_true rfl⟩) ps_0 rfl rfl hl.1 rfl (lv_room (Nat.le_of_ble_eq_true rfl)) dX4_recall_4 ⟨Nat.le_of_ble_eq_true rfl, Nat.le_of_ble_eq_true rfl⟩) (fun r hrr => ?_)
  subst hrr
  obtain ⟨b_1, hb_1⟩ : ∃ z : Int32, z = (if (rf_in x1 (0 : Int32) (9 : Int32)) = 0 then (1 : Int32) else (0 : Int32)) := ⟨_, rfl⟩
  replace hw : R = (let b_2 : Int32 := (if b_1 = 0 then (let b_5 : Int32 := (if b_1 = 0 then x1 else (0 : Int32)); if (σ 19 b_5.toNatClampNeg) = x2 then (1 : Int32) else (0 : Int32)) else (0 : Int32)); let σ_3 : St := (rf_throwing σ b_1 b_2 (0 : Int32) (0 : Int32)).2; if ((rf_throwing σ b_1 b_2 (0 : Int32) (0 : Int32)).1) = 0 then (let σ_11 : St := su σ_3 19 x1.toNatClampNeg (vp_nar .boolean x2); (rf_leftOf σ_11 x1, σ_11)) else ((0 : Int32), σ_3)) := by subst hb_1; exact hw
  have J_1 : ∀ (v9 : Int32) (ls : Array Slot), b_1 = v9 → lv_has ls 4 [(0, .ref (a 0)), (1, .int x1), (2, .int x2)] → W p l e (headSpec wsX4_recall ({ frames := 1, cells := 0, slots := 0, locals := 24 })).room s m [.ref (a 0), .int x1, .int x2].toArray below meth c H locs 0 0 (MQ below (va_Qi (fun r σ9 => (r, σ9) = rf_recall σ x1 x2) (bMr dC dI cI cZ a A) A) [.ref (a 0), .int x1, .int x2].toArray s 0 0 A) (F0 m 15 ls [.int v9]) := by
    intro v9 ls hv9 hl
    subst hv9
    refine lv_istore_n (lv' := [(3, .int b_1), (0, .ref (a 0)), (1, .int x1), (2, .int x2)]) hx hb dX4_recall_15 rfl hl (by decide) rfl (fun ls hl => ?_)
    refine lv_aload_n hx hb dX4_recall_16 rfl (lv_at hl 1 rfl) ?_
    refine lv_iload_n hx hb dX4_recall_17 rfl (lv_at hl 0 rfl) ?_
    refine lv_iload_n hx hb dX4_recall_18 rfl (lv_at hl 0 rfl) ?_
    obtain ⟨b_2, hb_2⟩ : ∃ z : Int32, z = (if b_1 = 0 then (let b_5 : Int32 := (if b_1 = 0 then x1 else (0 : Int32)); if (σ 19 b_5.toNatClampNeg) = x2 then (1 : Int32) else (0 : Int32)) else (0 : Int32)) := ⟨_, rfl⟩
    replace hw : R = (let σ_3 : St := (rf_throwing σ b_1 b_2 (0 : Int32) (0 : Int32)).2; if ((rf_throwing σ b_1 b_2 (0 : Int32) (0 : Int32)).1) = 0 then (let σ_11 : St := su σ_3 19 x1.toNatClampNeg (vp_nar .boolean x2); (rf_leftOf σ_11 x1, σ_11)) else ((0 : Int32), σ_3)) := by subst hb_2; exact hw
    have J_2 : ∀ (v9 : Int32) (ls : Array Slot), b_2 = v9 → lv_has ls 4 [(0, .ref (a 0)), (1, .int x1), (2, .int x2), (3, .int b_1)] → W p l e (headSpec wsX4_recall ({ frames := 1, cells := 0, slots := 0, locals := 24 })).room s m [.ref (a 0), .int x1, .int x2].toArray below meth c H locs 0 0 (MQ below (va_Qi (fun r σ9 => (r, σ9) = rf_recall σ x1 x2) (bMr dC dI cI cZ a A) A) [.ref (a 0), .int x1, .int x2].toArray s 0 0 A) (F0 m 45 ls [.int v9, .int b_1, .ref (a 0)]) := by
      intro v9 ls hv9 hl
      subst hv9
      refine lv_iconst (v := 0) hx hb dX4_recall_45 (by decide) ?_
      refine lv_iconst (v := 0) hx hb dX4_recall_46 (by decide) ?_
      have hFc := fr_all hD hS hA
      refine va_calli (va_runV (As := [.int b_1, .int b_2, .int (0 : Int32), .int (0 : Int32)]) (rest := []) ⟨hx, hb, hml, hown, hts⟩ (m_X4_throwing l dC dI cI cZ a H.size σ b_1 b_2 (0 : Int32) (0 : Int32)) (cwV 4 hts (gV k_650 k_652 k_11 k_24 k_653) rfl rfl rfl (by decide +kernel) ⟨Nat.le_of_ble_eq_true rfl, Nat.le_of_ble_eq_true rfl⟩) (pv_mr (q := (RX4, TX4, 23)) (q0 := 0) (ci := 4) hK hP hD rfl rfl) rfl rfl hl.1 rfl (lv_room (Nat.le_of_ble_eq_true rfl)) dX4_recall_47 ⟨Nat.le_of_ble_eq_true rfl, Nat.le_of_ble_eq_true rfl⟩) hS (fun q _ h => hFc q h) hFc (fun r σ_3 t H1 locs ht hvm hw9 hB hz1 hk1 hS => ?_)
      obtain ⟨hP, hK1, hD1⟩ := hB
      rw [ht] at hP
      have hD := hD1.weaken (fun _ _ _ h => hFc _ h)
      clear hFc hD1 hK1
      obtain ⟨rfl, eσ_3⟩ : r = (rf_throwing σ b_1 b_2 (0 : Int32) (0 : Int32)).1 ∧ σ_3 = (rf_throwing σ b_1 b_2 (0 : Int32) (0 : Int32)).2 := ⟨congrArg Prod.fst hw9, congrArg Prod.snd hw9⟩
      clear hw9
      replace hw : R = (if ((rf_throwing σ b_1 b_2 (0 : Int32) (0 : Int32)).1) = 0 then (let σ_11 : St := su σ_3 19 x1.toNatClampNeg (vp_nar .boolean x2); (rf_leftOf σ_11 x1, σ_11)) else ((0 : Int32), σ_3)) := by subst eσ_3; exact hw
      generalize H1 = H at hP hS ⊢
      have hiv_4 : IVr σ_3 := by rw [eσ_3]; exact ir_thr hiv _ _ _ _
      refine lv_if_eq (tgt := 55) hx hb dX4_recall_50 (by decide) (fun c_50_5 => ?_) (fun c_50_5 => ?_)
      · skip
        rw [if_pos c_50_5] at hw
        obtain ⟨z0_6, z1_7, z2_8, z3_9⟩ := thr0 c_50_5
        have hf_10 : vp_in x1 10 := bd_in hb_1 z0_6 (n := 10) (by decide) (by decide)
        refine lv_aload_n hx hb dX4_recall_55 rfl (lv_at hl 0 rfl) ?_
        refine va_get (D := (dC, dI)) (ci := 4) (v := .ref (a 19)) (C := RX4) (T := TX4) (N := 23) hx hb hts (iwX4 _) hown hK hP 0 rfl rfl 19 (by decide) (hts _ (kc k_590)) (fun _ h9 => h9) rfl dX4_recall_56 ?_
        refine lv_iload_n hx hb dX4_recall_59 rfl (lv_at hl 1 rfl) ?_
        refine lv_iload_n hx hb dX4_recall_60 rfl (lv_at hl 2 rfl) ?_
        refine va_zast (D := (dC, dI)) (f := σ_3 19) hx hb hK hP hD hS 17 1 rfl rfl (i := x1) (x := x2) hf_10 dX4_recall_61 (fun H locs hP hD hS => ?_)
        obtain ⟨σ_11, eσ_11⟩ : ∃ z : St, z = su σ_3 19 x1.toNatClampNeg (vp_nar .boolean x2) := ⟨_, rfl⟩
        replace hP := P_rw_19 hP
        replace hD := D_rw_19 hD
        rw [← eσ_11] at hP hD
        replace hw : R = ((rf_leftOf σ_11 x1, σ_11)) := by subst eσ_11; exact hw
        have hiv_12 : IVr σ_11 := by rw [eσ_11]; exact (ir_suq hiv_4 (by decide))
        refine lv_aload_n hx hb dX4_recall_62 rfl (lv_at hl 0 rfl) ?_
        refine lv_iload_n hx hb dX4_recall_63 rfl (lv_at hl 1 rfl) ?_
        refine vp_callSi (W.runV (As := [.int x1]) (rest := []) ⟨hx, hb, hml, hown, hts⟩ (m_X4_leftOf l dC dI cI cZ a σ_11 x1 hiv_12) (cwV 1 hts (gV k_723 k_725 k_16 k_24 k_726) rfl rfl rfl (by decide +kernel) ⟨Nat.le_of_ble_eq_true rfl, Nat.le_of_ble_eq_true rfl⟩) (pv_rr (q := (RX4, TX4, 23)) (q0 := 0) (ci := 4) hK hP rfl rfl) rfl rfl hl.1 rfl (lv_room (Nat.le_of_ble_eq_true rfl)) dX4_recall_64 ⟨Nat.le_of_ble_eq_true rfl, Nat.le_of_ble_eq_true rfl⟩) (fun r hrr => ?_)
        subst hrr
        exact W.iret (v := rf_leftOf σ_11 x1) hx hb hr (fun t ht hW => ⟨⟨rf_leftOf σ_11 x1, σ_11, rfl, hw.symm.trans hR, by rw [ht]; exact hP, va_K.moved hW.alike hK, hD⟩, hS.F ht⟩) hS.2.2 dX4_recall_67
      · skip
        rw [if_neg c_50_5] at hw
        refine lv_iconst (v := 0) hx hb dX4_recall_53 (by decide) ?_
        exact W.iret (v := (0 : Int32)) hx hb hr (fun t ht hW => ⟨⟨(0 : Int32), σ_3, rfl, hw.symm.trans hR, by rw [ht]; exact hP, va_K.moved hW.alike hK, hD⟩, hS.F ht⟩) hS.2.2 dX4_recall_54
    have hq_2 := hb_2
    refine lv_if_ne (tgt := 44) hx hb dX4_recall_19 (by decide) (fun c_19_13 => ?_) (fun c_19_13 => ?_)
    · skip
      rw [if_neg c_19_13] at hq_2
      refine lv_iconst (v := 0) hx hb dX4_recall_44 (by decide) ?_
      exact J_2 _ ls hq_2 (lv_sub hl [1, 2, 3, 0] rfl)
    · skip
      rw [if_pos c_19_13] at hq_2
      have hf_14 : vp_in x1 10 := bd_in hb_1 c_19_13 (n := 10) (by decide) (by decide)
      refine lv_aload_n hx hb dX4_recall_22 rfl (lv_at hl 1 rfl) ?_
      refine va_get (D := (dC, dI)) (ci := 4) (v := .ref (a 19)) (C := RX4) (T := TX4) (N := 23) hx hb hts (iwX4 _) hown hK hP 0 rfl rfl 19 (by decide) (hts _ (kc k_590)) (fun _ h9 => h9) rfl dX4_recall_23 ?_
      refine lv_iload_n hx hb dX4_recall_26 rfl (lv_at hl 0 rfl) ?_
      obtain ⟨b_15, hb_15⟩ : ∃ z : Int32, z = (if b_1 = 0 then x1 else (0 : Int32)) := ⟨_, rfl⟩
      replace hq_2 : b_2 = (if (σ 19 b_15.toNatClampNeg) = x2 then (1 : Int32) else (0 : Int32)) := by subst hb_15; exact hq_2
      have J_15 : ∀ (v9 : Int32) (ls : Array Slot), b_15 = v9 → lv_has ls 4 [(0, .ref (a 0)), (1, .int x1), (2, .int x2), (3, .int b_1)] → W p l e (headSpec wsX4_recall ({ frames := 1, cells := 0, slots := 0, locals := 24 })).room s m [.ref (a 0), .int x1, .int x2].toArray below meth c H locs 0 0 (MQ below (va_Qi (fun r σ9 => (r, σ9) = rf_recall σ x1 x2) (bMr dC dI cI cZ a A) A) [.ref (a 0), .int x1, .int x2].toArray s 0 0 A) (F0 m 35 ls [.int v9, .ref (a 19), .int b_1, .ref (a 0)]) := by
        intro v9 ls hv9 hl
        subst hv9
        refine va_zald (D := (dC, dI)) (f := σ 19) hx hb hK hP 17 1 rfl rfl (i := b_15) (by rw [hb_15]; split <;> first | exact hf_14 | exact vp_lit 0 (by decide)) dX4_recall_35 ?_
        refine lv_iload_n hx hb dX4_recall_36 rfl (lv_at hl 2 rfl) ?_
        refine lv_icmp_ne (tgt := 44) hx hb dX4_recall_37 (by decide) (fun c_37_16 => ?_) (fun c_37_16 => ?_)
        · skip
          rw [if_neg c_37_16] at hq_2
          refine lv_iconst (v := 0) hx hb dX4_recall_44 (by decide) ?_
          exact J_2 _ ls hq_2 (lv_sub hl [0, 1, 2, 3] rfl)
        · skip
          rw [if_pos c_37_16] at hq_2
          refine lv_iconst (v := 1) hx hb dX4_recall_40 (by decide) ?_
          refine lv_goto (tgt := 45) hx hb dX4_recall_41 (by decide) ?_
          exact J_2 _ ls hq_2 (lv_sub hl [0, 1, 2, 3] rfl)
      have hq_15 := hb_15
      refine lv_if_eq (tgt := 34) hx hb dX4_recall_27 (by decide) (fun c_27_17 => ?_) (fun c_27_17 => ?_)
      · skip
        rw [if_pos c_27_17] at hq_15
        refine lv_iload_n hx hb dX4_recall_34 rfl (lv_at hl 2 rfl) ?_
        exact J_15 _ ls hq_15 (lv_sub hl [1, 2, 3, 0] rfl)
      · skip
        rw [if_neg c_27_17] at hq_15
        refine lv_iconst (v := 0) hx hb dX4_recall_30 (by decide) ?_
        refine lv_goto (tgt := 35) hx hb dX4_recall_31 (by decide) ?_
        exact J_15 _ ls hq_15 (lv_sub hl [1, 2, 3, 0] rfl)
  have hq_1 := hb_1
  refine lv_if_ne (tgt := 14) hx hb dX4_recall_7 (by decide) (fun c_7_18 => ?_) (fun c_7_18 => ?_)
  · skip
    rw [if_neg c_7_18] at hq_1
    refine lv_iconst (v := 0) hx hb dX4_recall_14 (by decide) ?_
    exact J_1 _ ls hq_1 (lv_sub hl [0, 1, 2] rfl)
  · skip
    rw [if_pos c_7_18] at hq_1
    refine lv_iconst (v := 1) hx hb dX4_recall_10 (by decide) ?_
    refine lv_goto (tgt := 15) hx hb dX4_recall_11 (by decide) ?_
    exact J_1 _ ls hq_1 (lv_sub hl [0, 1, 2] rfl)
set_option maxHeartbeats 4000000 in
set_option maxRecDepth 100000 in
theorem m_X4_recalled (l : Launch) (dC : Nat → ClassId) (dI : Nat → Nat → Nat) (cI cZ : ClassId) (a : Nat → Nat) (sz : Nat) (σ : St) (x1 : Int32) (x2 : Int32) (hiv : IVr σ) : Met l yX4_recalled wsX4_recalled ({ frames := 1, cells := 0, slots := 0, locals := 24 }) (pMr dC dI cI cZ a sz σ [.ref (a 0), .int x1, .int x2]) (va_Qi (fun r σ9 => (r, σ9) = rf_recalled σ x1 x2) (bMr dC dI cI cZ a (va_A (rw cI cZ a σ) sz)) (va_A (rw cI cZ a σ) sz)) 0 0 (va_A (rw cI cZ a σ) sz) := by
  refine Met.ofW (cc := cX4_recalled) (maxL := 5) (ret := (some .int)) (by decide) rfl ?_
  intro p e s m args below meth c s₁ B hml hv
  obtain ⟨rfl, hsz, hP, hK, hD0⟩ := hv
  have hx := B.exec
  have hb := B.bytes
  have hr := B.returns
  have hts := atoms_spec (ws := wsX4_recalled) B.pre
  have hown : s.vm.findClass RX4 = some m.cls := findClass_of_methodNamed B.named
  have hlocks := B.notSynchronized
  subst hsz
  have hD := hD0.self (sz := s.heap.size)
  generalize hAe : va_A (rw cI cZ a σ) s.heap.size = A at hD ⊢
  have hA : ∀ q : Nat, s.heap.size ≤ q → A q := fun q h => by rw [← hAe]; exact Or.inr h
  clear hAe hD0
  obtain ⟨H, hHe⟩ : ∃ z, z = s.heap := ⟨_, rfl⟩
  obtain ⟨locs, hLe⟩ : ∃ z : List Loc, z = [] := ⟨_, rfl⟩
  have hS : va_S A s.heap H locs := by rw [hHe, hLe]; exact va_S.rf
  have hP : va_P (dC, dI) vwCl (rw cI cZ a σ) H := by rw [hHe]; exact hP
  refine W_ofH hHe hLe ?_
  clear hHe hLe
  have hl := lv_entry ([.ref (a 0), .int x1, .int x2]) (n := 5) (Nat.le_of_ble_eq_true rfl)
  rw [lg_entry_eq]
  generalize (lg_sl ([.ref (a 0), .int x1, .int x2]) ++ List.replicate (5 - (lg_sl ([.ref (a 0), .int x1, .int x2])).length) Slot.unset).toArray = ls at hl ⊢
  have hl : lv_has ls 5 [(0, .ref (a 0)), (1, .int x1), (2, .int x2)] := hl
  obtain ⟨R, hR⟩ : ∃ z, z = rf_recalled σ x1 x2 := ⟨_, rfl⟩
  have hw := hR
  unfold rf_recalled at hw
  have hle := ir_le hiv
  refine lv_aload_n hx hb dX4_recalled_0 rfl (lv_at hl 0 rfl) ?_
  refine lv_iload_n hx hb dX4_recalled_1 rfl (lv_at hl 1 rfl) ?_
  refine lv_iconst (v := 0) hx hb dX4_recalled_2 (by decide) ?_
  refine lv_bipush (v := 9) hx hb dX4_recalled_3 (by decide) ?_
  refine vp_callSi (W.runS (As := [.int x1, .int (0 : Int32), .int (9 : Int32)]) (rest := [.ref (a 0)]) ⟨hx, hb, hml, hown, hts⟩ (m_X4_in l x1 (0 : Int32) (9 : Int32)) (cwS 3 hts (gS k_658 k_659 k_24 k_660) rfl rfl rfl (by decide +kernel) ⟨Nat.le_of_ble_eq_true rfl, Nat.le_of_ble_eq_true rfl⟩) ps_0 rfl rfl hl.1 rfl (lv_room (Nat.le_of_ble_eq_true rfl)) dX4_recalled_5 ⟨Nat.le_of_ble_eq_true rfl, Nat.le_of_ble_eq_true rfl⟩) (fun r hrr => ?_)
  subst hrr
  obtain ⟨b_1, hb_1⟩ : ∃ z : Int32, z = (if (rf_in x1 (0 : Int32) (9 : Int32)) = 0 then (1 : Int32) else (0 : Int32)) := ⟨_, rfl⟩
  replace hw : R = (let b_2 : Int32 := (if 0 ≤ x2 then (0 : Int32) else (1 : Int32)); let σ_3 : St := (rf_throwing σ b_1 b_2 (0 : Int32) (0 : Int32)).2; if ((rf_throwing σ b_1 b_2 (0 : Int32) (0 : Int32)).1) = 0 then (rf_recalled_40 σ x1 x2 σ_3 (cntR σ) 0 x2) else ((0 : Int32), σ_3)) := by subst hb_1; exact hw
  have J_1 : ∀ (v9 : Int32) (ls : Array Slot), b_1 = v9 → lv_has ls 5 [(0, .ref (a 0)), (1, .int x1), (2, .int x2)] → W p l e (headSpec wsX4_recalled ({ frames := 1, cells := 0, slots := 0, locals := 24 })).room s m [.ref (a 0), .int x1, .int x2].toArray below meth c H locs 0 0 (MQ below (va_Qi (fun r σ9 => (r, σ9) = rf_recalled σ x1 x2) (bMr dC dI cI cZ a A) A) [.ref (a 0), .int x1, .int x2].toArray s 0 0 A) (F0 m 16 ls [.int v9, .ref (a 0)]) := by
    intro v9 ls hv9 hl
    subst hv9
    refine lv_iload_n hx hb dX4_recalled_16 rfl (lv_at hl 2 rfl) ?_
    obtain ⟨b_2, hb_2⟩ : ∃ z : Int32, z = (if 0 ≤ x2 then (0 : Int32) else (1 : Int32)) := ⟨_, rfl⟩
    replace hw : R = (let σ_3 : St := (rf_throwing σ b_1 b_2 (0 : Int32) (0 : Int32)).2; if ((rf_throwing σ b_1 b_2 (0 : Int32) (0 : Int32)).1) = 0 then (rf_recalled_40 σ x1 x2 σ_3 (cntR σ) 0 x2) else ((0 : Int32), σ_3)) := by subst hb_2; exact hw
    have J_2 : ∀ (v9 : Int32) (ls : Array Slot), b_2 = v9 → lv_has ls 5 [(0, .ref (a 0)), (1, .int x1), (2, .int x2)] → W p l e (headSpec wsX4_recalled ({ frames := 1, cells := 0, slots := 0, locals := 24 })).room s m [.ref (a 0), .int x1, .int x2].toArray below meth c H locs 0 0 (MQ below (va_Qi (fun r σ9 => (r, σ9) = rf_recalled σ x1 x2) (bMr dC dI cI cZ a A) A) [.ref (a 0), .int x1, .int x2].toArray s 0 0 A) (F0 m 25 ls [.int v9, .int b_1, .ref (a 0)]) := by
      intro v9 ls hv9 hl
      subst hv9
      refine lv_iconst (v := 0) hx hb dX4_recalled_25 (by decide) ?_
      refine lv_iconst (v := 0) hx hb dX4_recalled_26 (by decide) ?_
      have hFc := fr_all hD hS hA
      refine va_calli (va_runV (As := [.int b_1, .int b_2, .int (0 : Int32), .int (0 : Int32)]) (rest := []) ⟨hx, hb, hml, hown, hts⟩ (m_X4_throwing l dC dI cI cZ a H.size σ b_1 b_2 (0 : Int32) (0 : Int32)) (cwV 4 hts (gV k_650 k_652 k_11 k_24 k_653) rfl rfl rfl (by decide +kernel) ⟨Nat.le_of_ble_eq_true rfl, Nat.le_of_ble_eq_true rfl⟩) (pv_mr (q := (RX4, TX4, 23)) (q0 := 0) (ci := 4) hK hP hD rfl rfl) rfl rfl hl.1 rfl (lv_room (Nat.le_of_ble_eq_true rfl)) dX4_recalled_27 ⟨Nat.le_of_ble_eq_true rfl, Nat.le_of_ble_eq_true rfl⟩) hS (fun q _ h => hFc q h) hFc (fun r σ_3 t H1 locs ht hvm hw9 hB hz1 hk1 hS => ?_)
      obtain ⟨hP, hK1, hD1⟩ := hB
      rw [ht] at hP
      have hD := hD1.weaken (fun _ _ _ h => hFc _ h)
      clear hFc hD1 hK1
      obtain ⟨rfl, eσ_3⟩ : r = (rf_throwing σ b_1 b_2 (0 : Int32) (0 : Int32)).1 ∧ σ_3 = (rf_throwing σ b_1 b_2 (0 : Int32) (0 : Int32)).2 := ⟨congrArg Prod.fst hw9, congrArg Prod.snd hw9⟩
      clear hw9
      replace hw : R = (if ((rf_throwing σ b_1 b_2 (0 : Int32) (0 : Int32)).1) = 0 then (rf_recalled_40 σ x1 x2 σ_3 (cntR σ) 0 x2) else ((0 : Int32), σ_3)) := by subst eσ_3; exact hw
      generalize H1 = H at hP hS ⊢
      have hiv_4 : IVr σ_3 := by rw [eσ_3]; exact ir_thr hiv _ _ _ _
      refine lv_if_eq (tgt := 35) hx hb dX4_recalled_30 (by decide) (fun c_30_5 => ?_) (fun c_30_5 => ?_)
      · skip
        rw [if_pos c_30_5] at hw
        obtain ⟨z0_6, z1_7, z2_8, z3_9⟩ := thr0 c_30_5
        refine lv_iload_n hx hb dX4_recalled_35 rfl (lv_at hl 2 rfl) ?_
        refine lv_istore_n (lv' := [(3, .int x2), (0, .ref (a 0)), (1, .int x1), (2, .int x2)]) hx hb dX4_recalled_36 rfl hl (by decide) rfl (fun ls hl => ?_)
        refine lv_iconst (v := 0) hx hb dX4_recalled_37 (by decide) ?_
        refine lv_istore (lv' := [(4, .int (0 : Int32)), (3, .int x2), (0, .ref (a 0)), (1, .int x1), (2, .int x2)]) hx hb dX4_recalled_38 hl (by decide) rfl (fun ls hl => ?_)
        have loop : ∀ (n k : Nat) (x3 : Int32) (σ1 : St) (H : Heap) (locs : List Loc) (ls : Array Slot), k + n = cntR σ → IVr σ1 → cntR σ1 = cntR σ → va_P (dC, dI) vwCl (rw cI cZ a σ1) H → va_D A (rw cI cZ a σ1) → va_S A s.heap H locs → lv_has ls 5 [(0, .ref (a 0)), (1, .int x1), (2, .int x2), (3, .int x3), (4, .int (nI k))] → R = rf_recalled_40 σ x1 x2 σ1 n k x3 → W p l e (headSpec wsX4_recalled ({ frames := 1, cells := 0, slots := 0, locals := 24 })).room s m [.ref (a 0), .int x1, .int x2].toArray below meth c H locs 0 0 (MQ below (va_Qi (fun r σ9 => (r, σ9) = rf_recalled σ x1 x2) (bMr dC dI cI cZ a A) A) [.ref (a 0), .int x1, .int x2].toArray s 0 0 A) (F0 m 40 ls []) := by
          intro n
          induction n with
          | zero =>
            intro k x3 σ1 H locs ls hkn hiv1 hc1 hP hD hS hl hw
            rw [rf_recalled_40_0] at hw
            refine lv_iload hx hb dX4_recalled_40 (lv_at hl 4 rfl) ?_
            refine lv_aload_n hx hb dX4_recalled_42 rfl (lv_at hl 0 rfl) ?_
            refine va_get (D := (dC, dI)) (ci := 4) (v := .int (σ1 0 7)) (C := RX4) (T := TX4) (N := 23) hx hb hts (iwX4 _) hown hK hP 0 rfl rfl 7 (by decide) (hts _ (kc k_578)) (fun _ h9 => h9) rfl dX4_recalled_43 ?_
            refine lv_icmp_ge (tgt := 97) hx hb dX4_recalled_46 (by decide) (fun c_46_10 => ?_) (fun c_46_10 => ?_)
            · skip
              refine lv_iconst (v := -1) hx hb dX4_recalled_97 (by decide) ?_
              exact W.iret (v := (-1 : Int32)) hx hb hr (fun t ht hW => ⟨⟨(-1 : Int32), σ1, rfl, hw.symm.trans hR, by rw [ht]; exact hP, va_K.moved hW.alike hK, hD⟩, hS.F ht⟩) hS.2.2 dX4_recalled_98
            · skip
              exact absurd (lpE (ir_cnt2 hiv1 hc1) hkn (by omega)) c_46_10
          | succ n ih =>
            intro k x3 σ1 H locs ls hkn hiv1 hc1 hP hD hS hl hw
            rw [rf_recalled_40_s] at hw
            have hkf : vp_in (nI k) 40 := vp_in_nI (by omega) (by decide)
            refine lv_iload hx hb dX4_recalled_40 (lv_at hl 4 rfl) ?_
            refine lv_aload_n hx hb dX4_recalled_42 rfl (lv_at hl 0 rfl) ?_
            refine va_get (D := (dC, dI)) (ci := 4) (v := .int (σ1 0 7)) (C := RX4) (T := TX4) (N := 23) hx hb hts (iwX4 _) hown hK hP 0 rfl rfl 7 (by decide) (hts _ (kc k_578)) (fun _ h9 => h9) rfl dX4_recalled_43 ?_
            refine lv_icmp_ge (tgt := 97) hx hb dX4_recalled_46 (by decide) (fun c_46_11 => ?_) (fun c_46_11 => ?_)
            · skip
              exact absurd c_46_11 (lpB (ir_cnt2 hiv1 hc1) hkn (by omega))
            · skip
              refine lv_aload_n hx hb dX4_recalled_49 rfl (lv_at hl 0 rfl) ?_
              refine va_get (D := (dC, dI)) (ci := 4) (v := .ref (a 10)) (C := RX4) (T := TX4) (N := 23) hx hb hts (iwX4 _) hown hK hP 0 rfl rfl 10 (by decide) (hts _ (kc k_581)) (fun _ h9 => h9) rfl dX4_recalled_50 ?_
              refine lv_iload hx hb dX4_recalled_53 (lv_at hl 4 rfl) ?_
              refine va_iald (D := (dC, dI)) (f := σ1 10) hx hb hK hP 8 0 rfl rfl (i := nI k) hkf dX4_recalled_55 ?_
              refine lv_iload_n hx hb dX4_recalled_56 rfl (lv_at hl 1 rfl) ?_
              refine lv_icmp_ne (tgt := 91) hx hb dX4_recalled_57 (by decide) (fun c_57_12 => ?_) (fun c_57_12 => ?_)
              · skip
                rw [if_neg c_57_12] at hw
                refine lv_iinc (v := (nI (k + 1))) (lv' := [(4, .int (nI (k + 1))), (0, .ref (a 0)), (1, .int x1), (2, .int x2), (3, .int x3)]) hx hb dX4_recalled_91 hl (k := 4) rfl (nI_1 k) (by decide) rfl (fun ls hl => ?_)
                refine lv_goto (tgt := 40) hx hb dX4_recalled_94 (by decide) ?_
                exact ih (k + 1) x3 σ1 H locs ls (by omega) hiv1 hc1 hP hD hS (lv_sub hl [1, 2, 3, 4, 0] rfl) hw
              · skip
                rw [if_pos c_57_12] at hw
                refine lv_aload_n hx hb dX4_recalled_60 rfl (lv_at hl 0 rfl) ?_
                refine va_get (D := (dC, dI)) (ci := 4) (v := .ref (a 13)) (C := RX4) (T := TX4) (N := 23) hx hb hts (iwX4 _) hown hK hP 0 rfl rfl 13 (by decide) (hts _ (kc k_584)) (fun _ h9 => h9) rfl dX4_recalled_61 ?_
                refine lv_iload hx hb dX4_recalled_64 (lv_at hl 4 rfl) ?_
                refine va_iald (D := (dC, dI)) (f := σ1 13) hx hb hK hP 11 0 rfl rfl (i := nI k) hkf dX4_recalled_66 ?_
                refine lv_if_ge (tgt := 91) hx hb dX4_recalled_67 (by decide) (fun c_67_13 => ?_) (fun c_67_13 => ?_)
                · skip
                  rw [if_pos c_67_13] at hw
                  refine lv_iinc (v := (nI (k + 1))) (lv' := [(4, .int (nI (k + 1))), (0, .ref (a 0)), (1, .int x1), (2, .int x2), (3, .int x3)]) hx hb dX4_recalled_91 hl (k := 4) rfl (nI_1 k) (by decide) rfl (fun ls hl => ?_)
                  refine lv_goto (tgt := 40) hx hb dX4_recalled_94 (by decide) ?_
                  exact ih (k + 1) x3 σ1 H locs ls (by omega) hiv1 hc1 hP hD hS (lv_sub hl [1, 2, 3, 4, 0] rfl) hw
                · skip
                  rw [if_neg c_67_13] at hw
                  refine lv_iload_n hx hb dX4_recalled_70 rfl (lv_at hl 3 rfl) ?_
                  refine lv_if_ne (tgt := 88) hx hb dX4_recalled_71 (by decide) (fun c_71_14 => ?_) (fun c_71_14 => ?_)
                  · skip
                    rw [if_neg c_71_14] at hw
                    refine lv_iinc (v := (x3 + (-1 : Int32))) (lv' := [(3, .int (x3 + (-1 : Int32))), (0, .ref (a 0)), (1, .int x1), (2, .int x2), (4, .int (nI k))]) hx hb dX4_recalled_88 hl (k := 3) rfl rfl (by decide) rfl (fun ls hl => ?_)
                    refine lv_iinc (v := (nI (k + 1))) (lv' := [(4, .int (nI (k + 1))), (3, .int (x3 + (-1 : Int32))), (0, .ref (a 0)), (1, .int x1), (2, .int x2)]) hx hb dX4_recalled_91 hl (k := 4) rfl (nI_1 k) (by decide) rfl (fun ls hl => ?_)
                    refine lv_goto (tgt := 40) hx hb dX4_recalled_94 (by decide) ?_
                    exact ih (k + 1) (x3 + (-1 : Int32)) σ1 H locs ls (by omega) hiv1 hc1 hP hD hS (lv_sub hl [2, 3, 4, 1, 0] rfl) hw
                  · skip
                    rw [if_pos c_71_14] at hw
                    refine lv_bipush (v := 100) hx hb dX4_recalled_74 (by decide) ?_
                    refine lv_iload hx hb dX4_recalled_76 (lv_at hl 4 rfl) ?_
                    refine lv_imul hx hb dX4_recalled_78 ?_
                    refine lv_aload_n hx hb dX4_recalled_79 rfl (lv_at hl 0 rfl) ?_
                    refine va_get (D := (dC, dI)) (ci := 4) (v := .ref (a 11)) (C := RX4) (T := TX4) (N := 23) hx hb hts (iwX4 _) hown hK hP 0 rfl rfl 11 (by decide) (hts _ (kc k_582)) (fun _ h9 => h9) rfl dX4_recalled_80 ?_
                    refine lv_iload hx hb dX4_recalled_83 (lv_at hl 4 rfl) ?_
                    refine va_iald (D := (dC, dI)) (f := σ1 11) hx hb hK hP 9 0 rfl rfl (i := nI k) hkf dX4_recalled_85 ?_
                    refine lv_iadd hx hb dX4_recalled_86 ?_
                    exact W.iret (v := ((100 : Int32) * (nI k)) + (σ1 11 (nI k).toNatClampNeg)) hx hb hr (fun t ht hW => ⟨⟨((100 : Int32) * (nI k)) + (σ1 11 (nI k).toNatClampNeg), σ1, rfl, hw.symm.trans hR, by rw [ht]; exact hP, va_K.moved hW.alike hK, hD⟩, hS.F ht⟩) hS.2.2 dX4_recalled_87
        exact loop (cntR σ) 0 x2 σ_3 H locs ls (Nat.zero_add _) hiv_4 (by rw [eσ_3]; exact cnt_thr _ _ _ _ _) hP hD hS (lv_sub hl [2, 3, 4, 1, 0] rfl) hw
      · skip
        rw [if_neg c_30_5] at hw
        refine lv_iconst (v := 0) hx hb dX4_recalled_33 (by decide) ?_
        exact W.iret (v := (0 : Int32)) hx hb hr (fun t ht hW => ⟨⟨(0 : Int32), σ_3, rfl, hw.symm.trans hR, by rw [ht]; exact hP, va_K.moved hW.alike hK, hD⟩, hS.F ht⟩) hS.2.2 dX4_recalled_34
    have hq_2 := hb_2
    refine lv_if_ge (tgt := 24) hx hb dX4_recalled_17 (by decide) (fun c_17_15 => ?_) (fun c_17_15 => ?_)
    · skip
      rw [if_pos c_17_15] at hq_2
      refine lv_iconst (v := 0) hx hb dX4_recalled_24 (by decide) ?_
      exact J_2 _ ls hq_2 (lv_sub hl [0, 1, 2] rfl)
    · skip
      rw [if_neg c_17_15] at hq_2
      refine lv_iconst (v := 1) hx hb dX4_recalled_20 (by decide) ?_
      refine lv_goto (tgt := 25) hx hb dX4_recalled_21 (by decide) ?_
      exact J_2 _ ls hq_2 (lv_sub hl [0, 1, 2] rfl)
  have hq_1 := hb_1
  refine lv_if_ne (tgt := 15) hx hb dX4_recalled_8 (by decide) (fun c_8_16 => ?_) (fun c_8_16 => ?_)
  · skip
    rw [if_neg c_8_16] at hq_1
    refine lv_iconst (v := 0) hx hb dX4_recalled_15 (by decide) ?_
    exact J_1 _ ls hq_1 (lv_sub hl [0, 1, 2] rfl)
  · skip
    rw [if_pos c_8_16] at hq_1
    refine lv_iconst (v := 1) hx hb dX4_recalled_11 (by decide) ?_
    refine lv_goto (tgt := 16) hx hb dX4_recalled_12 (by decide) ?_
    exact J_1 _ ls hq_1 (lv_sub hl [0, 1, 2] rfl)
set_option maxHeartbeats 4000000 in
set_option maxRecDepth 100000 in
theorem m_X4_barred (l : Launch) (dC : Nat → ClassId) (dI : Nat → Nat → Nat) (cI cZ : ClassId) (a : Nat → Nat) (sz : Nat) (σ : St) (x1 : Int32) (hiv : IVr σ) : Met l yX4_barred wsX4_barred ({ frames := 2, cells := 0, slots := 0, locals := 45 }) (pMr dC dI cI cZ a sz σ [.ref (a 0), .int x1]) (va_Qi (fun r σ9 => (r, σ9) = rf_barred σ x1) (bMr dC dI cI cZ a (va_A (rw cI cZ a σ) sz)) (va_A (rw cI cZ a σ) sz)) 0 0 (va_A (rw cI cZ a σ) sz) := by
  refine Met.ofW (cc := cX4_barred) (maxL := 2) (ret := (some .int)) (by decide) rfl ?_
  intro p e s m args below meth c s₁ B hml hv
  obtain ⟨rfl, hsz, hP, hK, hD0⟩ := hv
  have hx := B.exec
  have hb := B.bytes
  have hr := B.returns
  have hts := atoms_spec (ws := wsX4_barred) B.pre
  have hown : s.vm.findClass RX4 = some m.cls := findClass_of_methodNamed B.named
  have hlocks := B.notSynchronized
  subst hsz
  have hD := hD0.self (sz := s.heap.size)
  generalize hAe : va_A (rw cI cZ a σ) s.heap.size = A at hD ⊢
  have hA : ∀ q : Nat, s.heap.size ≤ q → A q := fun q h => by rw [← hAe]; exact Or.inr h
  clear hAe hD0
  obtain ⟨H, hHe⟩ : ∃ z, z = s.heap := ⟨_, rfl⟩
  obtain ⟨locs, hLe⟩ : ∃ z : List Loc, z = [] := ⟨_, rfl⟩
  have hS : va_S A s.heap H locs := by rw [hHe, hLe]; exact va_S.rf
  have hP : va_P (dC, dI) vwCl (rw cI cZ a σ) H := by rw [hHe]; exact hP
  refine W_ofH hHe hLe ?_
  clear hHe hLe
  have hl := lv_entry ([.ref (a 0), .int x1]) (n := 2) (Nat.le_of_ble_eq_true rfl)
  rw [lg_entry_eq]
  generalize (lg_sl ([.ref (a 0), .int x1]) ++ List.replicate (2 - (lg_sl ([.ref (a 0), .int x1])).length) Slot.unset).toArray = ls at hl ⊢
  have hl : lv_has ls 2 [(0, .ref (a 0)), (1, .int x1)] := hl
  obtain ⟨R, hR⟩ : ∃ z, z = rf_barred σ x1 := ⟨_, rfl⟩
  have hw := hR
  unfold rf_barred at hw
  refine lv_aload_n hx hb dX4_barred_0 rfl (lv_at hl 0 rfl) ?_
  refine lv_aload_n hx hb dX4_barred_1 rfl (lv_at hl 0 rfl) ?_
  refine lv_iload_n hx hb dX4_barred_2 rfl (lv_at hl 1 rfl) ?_
  refine vp_callSi (W.runV (As := [.int x1]) (rest := [.ref (a 0)]) ⟨hx, hb, hml, hown, hts⟩ (m_X4_isThing l dC dI cI cZ a σ x1) (cwV 1 hts (gV k_691 k_693 k_12 k_24 k_694) rfl rfl rfl (by decide +kernel) ⟨Nat.le_of_ble_eq_true rfl, Nat.le_of_ble_eq_true rfl⟩) (pv_rr (q := (RX4, TX4, 23)) (q0 := 0) (ci := 4) hK hP rfl rfl) rfl rfl hl.1 rfl (lv_room (Nat.le_of_ble_eq_true rfl)) dX4_barred_3 ⟨Nat.le_of_ble_eq_true rfl, Nat.le_of_ble_eq_true rfl⟩) (fun r hrr => ?_)
  subst hrr
  obtain ⟨b_1, hb_1⟩ : ∃ z : Int32, z = (if (rf_isThing σ x1) = 0 then (1 : Int32) else (0 : Int32)) := ⟨_, rfl⟩
  replace hw : R = (let σ_2 : St := (rf_throwing σ b_1 (0 : Int32) (0 : Int32) (0 : Int32)).2; if ((rf_throwing σ b_1 (0 : Int32) (0 : Int32) (0 : Int32)).1) = 0 then (rf_reason σ_2 x1, σ_2) else ((0 : Int32), σ_2)) := by subst hb_1; exact hw
  have J_1 : ∀ (v9 : Int32) (ls : Array Slot), b_1 = v9 → lv_has ls 2 [(0, .ref (a 0)), (1, .int x1)] → W p l e (headSpec wsX4_barred ({ frames := 2, cells := 0, slots := 0, locals := 45 })).room s m [.ref (a 0), .int x1].toArray below meth c H locs 0 0 (MQ below (va_Qi (fun r σ9 => (r, σ9) = rf_barred σ x1) (bMr dC dI cI cZ a A) A) [.ref (a 0), .int x1].toArray s 0 0 A) (F0 m 14 ls [.int v9, .ref (a 0)]) := by
    intro v9 ls hv9 hl
    subst hv9
    refine lv_iconst (v := 0) hx hb dX4_barred_14 (by decide) ?_
    refine lv_iconst (v := 0) hx hb dX4_barred_15 (by decide) ?_
    refine lv_iconst (v := 0) hx hb dX4_barred_16 (by decide) ?_
    have hFc := fr_all hD hS hA
    refine va_calli (va_runV (As := [.int b_1, .int (0 : Int32), .int (0 : Int32), .int (0 : Int32)]) (rest := []) ⟨hx, hb, hml, hown, hts⟩ (m_X4_throwing l dC dI cI cZ a H.size σ b_1 (0 : Int32) (0 : Int32) (0 : Int32)) (cwV 4 hts (gV k_650 k_652 k_11 k_24 k_653) rfl rfl rfl (by decide +kernel) ⟨Nat.le_of_ble_eq_true rfl, Nat.le_of_ble_eq_true rfl⟩) (pv_mr (q := (RX4, TX4, 23)) (q0 := 0) (ci := 4) hK hP hD rfl rfl) rfl rfl hl.1 rfl (lv_room (Nat.le_of_ble_eq_true rfl)) dX4_barred_17 ⟨Nat.le_of_ble_eq_true rfl, Nat.le_of_ble_eq_true rfl⟩) hS (fun q _ h => hFc q h) hFc (fun r σ_2 t H1 locs ht hvm hw9 hB hz1 hk1 hS => ?_)
    obtain ⟨hP, hK1, hD1⟩ := hB
    rw [ht] at hP
    have hD := hD1.weaken (fun _ _ _ h => hFc _ h)
    clear hFc hD1 hK1
    obtain ⟨rfl, eσ_2⟩ : r = (rf_throwing σ b_1 (0 : Int32) (0 : Int32) (0 : Int32)).1 ∧ σ_2 = (rf_throwing σ b_1 (0 : Int32) (0 : Int32) (0 : Int32)).2 := ⟨congrArg Prod.fst hw9, congrArg Prod.snd hw9⟩
    clear hw9
    replace hw : R = (if ((rf_throwing σ b_1 (0 : Int32) (0 : Int32) (0 : Int32)).1) = 0 then (rf_reason σ_2 x1, σ_2) else ((0 : Int32), σ_2)) := by subst eσ_2; exact hw
    generalize H1 = H at hP hS ⊢
    have hiv_3 : IVr σ_2 := by rw [eσ_2]; exact ir_thr hiv _ _ _ _
    refine lv_if_eq (tgt := 25) hx hb dX4_barred_20 (by decide) (fun c_20_4 => ?_) (fun c_20_4 => ?_)
    · skip
      rw [if_pos c_20_4] at hw
      obtain ⟨z0_5, z1_6, z2_7, z3_8⟩ := thr0 c_20_4
      have hf_9 : vp_in x1 40 := bd_thing hiv hb_1 z0_5
      refine lv_aload_n hx hb dX4_barred_25 rfl (lv_at hl 0 rfl) ?_
      refine lv_iload_n hx hb dX4_barred_26 rfl (lv_at hl 1 rfl) ?_
      refine vp_callSi (W.runV (As := [.int x1]) (rest := []) ⟨hx, hb, hml, hown, hts⟩ (m_X4_reason l dC dI cI cZ a σ_2 x1 hiv_3 hf_9) (cwV 1 hts (gV k_695 k_697 k_13 k_24 k_698) rfl rfl rfl (by decide +kernel) ⟨Nat.le_of_ble_eq_true rfl, Nat.le_of_ble_eq_true rfl⟩) (pv_rr (q := (RX4, TX4, 23)) (q0 := 0) (ci := 4) hK hP rfl rfl) rfl rfl hl.1 rfl (lv_room (Nat.le_of_ble_eq_true rfl)) dX4_barred_27 ⟨Nat.le_of_ble_eq_true rfl, Nat.le_of_ble_eq_true rfl⟩) (fun r hrr => ?_)
      subst hrr
      exact W.iret (v := rf_reason σ_2 x1) hx hb hr (fun t ht hW => ⟨⟨rf_reason σ_2 x1, σ_2, rfl, hw.symm.trans hR, by rw [ht]; exact hP, va_K.moved hW.alike hK, hD⟩, hS.F ht⟩) hS.2.2 dX4_barred_30
    · skip
      rw [if_neg c_20_4] at hw
      refine lv_iconst (v := 0) hx hb dX4_barred_23 (by decide) ?_
      exact W.iret (v := (0 : Int32)) hx hb hr (fun t ht hW => ⟨⟨(0 : Int32), σ_2, rfl, hw.symm.trans hR, by rw [ht]; exact hP, va_K.moved hW.alike hK, hD⟩, hS.F ht⟩) hS.2.2 dX4_barred_24
  have hq_1 := hb_1
  refine lv_if_ne (tgt := 13) hx hb dX4_barred_6 (by decide) (fun c_6_10 => ?_) (fun c_6_10 => ?_)
  · skip
    rw [if_neg c_6_10] at hq_1
    refine lv_iconst (v := 0) hx hb dX4_barred_13 (by decide) ?_
    exact J_1 _ ls hq_1 (lv_sub hl [0, 1] rfl)
  · skip
    rw [if_pos c_6_10] at hq_1
    refine lv_iconst (v := 1) hx hb dX4_barred_9 (by decide) ?_
    refine lv_goto (tgt := 14) hx hb dX4_barred_10 (by decide) ?_
    exact J_1 _ ls hq_1 (lv_sub hl [0, 1] rfl)
